abbrev rm9_thrown : Room := { frames := 0, cells := 0, slots := 0, locals := 0 }
noncomputable abbrev ws9_thrown : List Cond := Cond.code yX9_thrown cX9_thrown 1 (some .int) :: WA9
theorem hd9_thrown : yX9_thrown.cls = RX9 ∧ yX9_thrown.cls ≠ "java/lang/invoke/MethodHandle" ∧ yX9_thrown.cls ≠ "java/lang/invoke/VarHandle" ∧ (parseMethodDescriptor yX9_thrown.desc).map (fun d => d.parameters.length) = some 0 := by decide +kernel
def f9_thrown (u : Md) : Option Int32 := (some (gi u 0))
set_option maxHeartbeats 4000000 in
set_option maxRecDepth 100000 in
theorem c9_thrown (l : Launch) (D : va_G) (cI cJ cC : ClassId) (a : Nat → Nat) (u : Md) (r : Int32) (sz : Nat) (hf : f9_thrown u  = some r) : Met l yX9_thrown ws9_thrown rm9_thrown (pW D (ty3 cI cJ cC) (cM cI cJ a u) sz [.ref (a 0)]) (k2_QcV (.int r)) 0 0 (fun _ => False) := by
  refine mt_r (cc := cX9_thrown) (maxL := 1) (ret := (some .int)) (by decide) rfl (Nat.le_of_ble_eq_true rfl) ?_
  intro p e s m below meth c ls C hl hK hP hD
  have hl : lv_has ls 1 [(0, .ref (a 0))] := hl
  have hx := C.1.1
  have hb := C.1.2.1
  have hts := C.1.2.2.2.2
  have hown := C.1.2.2.2.1
  have hin : ∀ w ∈ wsX90, w ∈ ws9_thrown := fun w h => List.mem_cons_of_mem _ (List.mem_append_right _ h)
  unfold f9_thrown at hf
  refine lv_aload_n hx hb dX9_thrown_0 rfl (lv_at hl 0 rfl) ?_
  refine mg9 (v := .int (gi u 0)) C hin hK hP 0 (by decide) (hts (Cond.fieldLink RX9 52 "SchematicTextModel" "thrown" "I") (List.mem_cons_of_mem _ m9_20)) rfl dX9_thrown_1 ?_
  cases hf
  exact rt_i C dX9_thrown_4
abbrev rm9_unit : Room := { frames := 0, cells := 0, slots := 0, locals := 0 }
noncomputable abbrev ws9_unit : List Cond := Cond.code yX9_unit cX9_unit 3 (some .boolean) :: WA9
theorem hd9_unit : yX9_unit.cls = RX9 ∧ yX9_unit.cls ≠ "java/lang/invoke/MethodHandle" ∧ yX9_unit.cls ≠ "java/lang/invoke/VarHandle" ∧ (parseMethodDescriptor yX9_unit.desc).map (fun d => d.parameters.length) = some 1 := by decide +kernel
def f9_unit_28 (u : Md) (x1 : Int32) (y0 : Int32) : Option (Int32 × Md) := (if y0 = 0 then (some ((0 : Int32), u)) else (if (gi u 3) = (4000 : Int32) then (some ((0 : Int32), u)) else (if (gi u 3) < 0 ∨ 4000 ≤ ((gi u 3)).toNatClampNeg then none else (some ((1 : Int32), (si (sa u 2 (upd (ga u 2) ((gi u 3)).toNatClampNeg x1)) 3 ((gi u 3) + (1 : Int32))))))))
set_option maxHeartbeats 4000000 in
set_option maxRecDepth 100000 in
theorem w9_unit_28 {p : Program} {l : Launch} {e : Env} {s : State} {m : MethodId} {args : Array Value} {below : List Frame} {meth : Method} {c : Code} (C : Cx p s m args meth c cX9_unit 3 ws9_unit RX9 (some .boolean)) {D : va_G} {cI cJ cC : ClassId} {a : Nat → Nat} {A : Nat → Prop} (hK : va_K D vwCl (ty3 cI cJ cC) s) (hA : ∀ q : Nat, s.heap.size ≤ q → A q) {r : (Int32 × Md)} : ∀ (u : Md) (x1 : Int32) (y0 : Int32), f9_unit_28 u x1 y0 = some r → ∀ {H : Heap} {locs : List Loc}, va_P D vwCl (cM cI cJ a u) H → va_D A (cM cI cJ a u) → va_S A s.heap H locs → ∀ {ls : Array Slot}, lv_has ls 3 [(0, .ref (a 0)), (1, .int x1)] → W p l e rm9_unit s m args below meth c H locs 0 0 (MQ below (qW (some (.int r.1)) (cM cI cJ a r.2) D (ty3 cI cJ cC) A) args s 0 0 A) (F0 m 28 ls [.int y0]) := by
  have hx := C.1.1
  have hb := C.1.2.1
  have hts := C.1.2.2.2.2
  have hown := C.1.2.2.2.1
  have hin : ∀ w ∈ wsX90, w ∈ ws9_unit := fun w h => List.mem_cons_of_mem _ (List.mem_append_right _ h)
  intro u x1 y0 hf H locs hP hD hS ls hl
  unfold f9_unit_28 at hf
  refine lv_istore_n (lv' := [(2, .int y0), (0, .ref (a 0)), (1, .int x1)]) hx hb dX9_unit_28 rfl hl (by decide) rfl (fun ls hl => ?_)
  refine lv_iload_n hx hb dX9_unit_29 rfl (lv_at hl 0 rfl) ?_
  refine lv_if_eq (tgt := 43) hx hb dX9_unit_30 (by decide) (fun c_4 => ?_) (fun c_4 => ?_)
  · replace hf := og_t c_4 hf
    refine lv_iconst (v := (0 : Int32)) hx hb dX9_unit_43 (by decide) ?_
    cases hf
    exact rw_z C hK hP hD hS (nz_z (Or.inl rfl)) dX9_unit_44
  · replace hf := og_f c_4 hf
    refine lv_aload_n hx hb dX9_unit_33 rfl (lv_at hl 1 rfl) ?_
    refine mg9 (v := .int (gi u 3)) C hin hK hP 3 (by decide) (hts (Cond.fieldLink RX9 59 "SchematicTextModel" "size" "I") (List.mem_cons_of_mem _ m9_24)) rfl dX9_unit_34 ?_
    refine lv_sipush (v := (4000 : Int32)) hx hb dX9_unit_37 (by decide) ?_
    refine lv_icmp_ne (tgt := 45) hx hb dX9_unit_40 (by decide) (fun c_5 => ?_) (fun c_5 => ?_)
    · replace hf := og_f c_5 hf
      refine lv_aload_n hx hb dX9_unit_45 rfl (lv_at hl 1 rfl) ?_
      refine mg9 (v := .ref (a 2)) C hin hK hP 2 (by decide) (hts (Cond.fieldLink RX9 7 "SchematicTextModel" "text" "[I") (List.mem_cons_of_mem _ m9_5)) rfl dX9_unit_46 ?_
      refine lv_aload_n hx hb dX9_unit_49 rfl (lv_at hl 1 rfl) ?_
      refine mg9 (v := .int (gi u 3)) C hin hK hP 3 (by decide) (hts (Cond.fieldLink RX9 59 "SchematicTextModel" "size" "I") (List.mem_cons_of_mem _ m9_24)) rfl dX9_unit_50 ?_
      refine lv_iload_n hx hb dX9_unit_53 rfl (lv_at hl 2 rfl) ?_
      obtain ⟨h_6, hf⟩ := og_n hf
      refine ms9_2 C hK hP hD hS (f := (ga u 2)) rfl h_6 dX9_unit_54 (fun H locs hP hD hS => ?_)
      refine lv_aload_n hx hb dX9_unit_55 rfl (lv_at hl 1 rfl) ?_
      refine lv_dup hx hb dX9_unit_56 rfl ?_
      refine mg9 (v := .int (gi u 3)) C hin hK hP 3 (by decide) (hts (Cond.fieldLink RX9 59 "SchematicTextModel" "size" "I") (List.mem_cons_of_mem _ m9_24)) rfl dX9_unit_57 ?_
      refine lv_iconst (v := (1 : Int32)) hx hb dX9_unit_60 (by decide) ?_
      refine lv_iadd hx hb dX9_unit_61 ?_
      refine mp9_3 C hin hK hP hD hS (hts (Cond.fieldLink RX9 59 "SchematicTextModel" "size" "I") (List.mem_cons_of_mem _ m9_24)) dX9_unit_62 (fun H locs hP hD hS => ?_)
      refine lv_iconst (v := (1 : Int32)) hx hb dX9_unit_65 (by decide) ?_
      cases hf
      exact rw_z C hK hP hD hS (nz_z (Or.inr rfl)) dX9_unit_66
    · replace hf := og_t c_5 hf
      refine lv_iconst (v := (0 : Int32)) hx hb dX9_unit_43 (by decide) ?_
      cases hf
      exact rw_z C hK hP hD hS (nz_z (Or.inl rfl)) dX9_unit_44
def f9_unit_23 (u : Md) (x1 : Int32) : Option (Int32 × Md) := (f9_unit_28 u x1 (1 : Int32))
set_option maxHeartbeats 4000000 in
set_option maxRecDepth 100000 in
theorem w9_unit_23 {p : Program} {l : Launch} {e : Env} {s : State} {m : MethodId} {args : Array Value} {below : List Frame} {meth : Method} {c : Code} (C : Cx p s m args meth c cX9_unit 3 ws9_unit RX9 (some .boolean)) {D : va_G} {cI cJ cC : ClassId} {a : Nat → Nat} {A : Nat → Prop} (hK : va_K D vwCl (ty3 cI cJ cC) s) (hA : ∀ q : Nat, s.heap.size ≤ q → A q) {r : (Int32 × Md)} : ∀ (u : Md) (x1 : Int32), f9_unit_23 u x1 = some r → ∀ {H : Heap} {locs : List Loc}, va_P D vwCl (cM cI cJ a u) H → va_D A (cM cI cJ a u) → va_S A s.heap H locs → ∀ {ls : Array Slot}, lv_has ls 3 [(0, .ref (a 0)), (1, .int x1)] → W p l e rm9_unit s m args below meth c H locs 0 0 (MQ below (qW (some (.int r.1)) (cM cI cJ a r.2) D (ty3 cI cJ cC) A) args s 0 0 A) (F0 m 23 ls []) := by
  have hx := C.1.1
  have hb := C.1.2.1
  have hts := C.1.2.2.2.2
  have hown := C.1.2.2.2.1
  have hin : ∀ w ∈ wsX90, w ∈ ws9_unit := fun w h => List.mem_cons_of_mem _ (List.mem_append_right _ h)
  intro u x1 hf H locs hP hD hS ls hl
  unfold f9_unit_23 at hf
  refine lv_iconst (v := (1 : Int32)) hx hb dX9_unit_23 (by decide) ?_
  refine lv_goto (tgt := 28) hx hb dX9_unit_24 (by decide) ?_
  exact w9_unit_28 C hK hA u x1 (1 : Int32) hf hP hD hS (lv_sub hl [0, 1] rfl)
def f9_unit_17 (u : Md) (x1 : Int32) : Option (Int32 × Md) := (if x1 = (10 : Int32) then (f9_unit_23 u x1) else (f9_unit_28 u x1 (0 : Int32)))
set_option maxHeartbeats 4000000 in
set_option maxRecDepth 100000 in
theorem w9_unit_17 {p : Program} {l : Launch} {e : Env} {s : State} {m : MethodId} {args : Array Value} {below : List Frame} {meth : Method} {c : Code} (C : Cx p s m args meth c cX9_unit 3 ws9_unit RX9 (some .boolean)) {D : va_G} {cI cJ cC : ClassId} {a : Nat → Nat} {A : Nat → Prop} (hK : va_K D vwCl (ty3 cI cJ cC) s) (hA : ∀ q : Nat, s.heap.size ≤ q → A q) {r : (Int32 × Md)} : ∀ (u : Md) (x1 : Int32), f9_unit_17 u x1 = some r → ∀ {H : Heap} {locs : List Loc}, va_P D vwCl (cM cI cJ a u) H → va_D A (cM cI cJ a u) → va_S A s.heap H locs → ∀ {ls : Array Slot}, lv_has ls 3 [(0, .ref (a 0)), (1, .int x1)] → W p l e rm9_unit s m args below meth c H locs 0 0 (MQ below (qW (some (.int r.1)) (cM cI cJ a r.2) D (ty3 cI cJ cC) A) args s 0 0 A) (F0 m 17 ls []) := by
  have hx := C.1.1
  have hb := C.1.2.1
  have hts := C.1.2.2.2.2
  have hown := C.1.2.2.2.1
  have hin : ∀ w ∈ wsX90, w ∈ ws9_unit := fun w h => List.mem_cons_of_mem _ (List.mem_append_right _ h)
  intro u x1 hf H locs hP hD hS ls hl
  unfold f9_unit_17 at hf
  refine lv_iload_n hx hb dX9_unit_17 rfl (lv_at hl 1 rfl) ?_
  refine lv_bipush (v := (10 : Int32)) hx hb dX9_unit_18 (by decide) ?_
  refine lv_icmp_ne (tgt := 27) hx hb dX9_unit_20 (by decide) (fun c_3 => ?_) (fun c_3 => ?_)
  · replace hf := og_f c_3 hf
    refine lv_iconst (v := (0 : Int32)) hx hb dX9_unit_27 (by decide) ?_
    exact w9_unit_28 C hK hA u x1 (0 : Int32) hf hP hD hS (lv_sub hl [0, 1] rfl)
  · replace hf := og_t c_3 hf
    exact w9_unit_23 C hK hA u x1 hf hP hD hS (lv_sub hl [0, 1] rfl)
def f9_unit (u : Md) (x1 : Int32) : Option (Int32 × Md) := (if x1 < (32 : Int32) then (f9_unit_17 (si u 0 (0 : Int32)) x1) else (if x1 ≤ (126 : Int32) then (f9_unit_23 (si u 0 (0 : Int32)) x1) else (f9_unit_17 (si u 0 (0 : Int32)) x1)))
set_option maxHeartbeats 4000000 in
set_option maxRecDepth 100000 in
theorem c9_unit (l : Launch) (D : va_G) (cI cJ cC : ClassId) (a : Nat → Nat) (u : Md) (x1 : Int32) (r : Int32) (v : Md) (sz : Nat) (hf : f9_unit u x1 = some (r, v)) : Met l yX9_unit ws9_unit rm9_unit (pW D (ty3 cI cJ cC) (cM cI cJ a u) sz [.ref (a 0), .int x1]) (qW (some (.int r)) (cM cI cJ a v) D (ty3 cI cJ cC) (va_A (cM cI cJ a u) sz)) 0 0 (va_A (cM cI cJ a u) sz) := by
  refine mt_w (cc := cX9_unit) (maxL := 3) (ret := (some .boolean)) (by decide) rfl (Nat.le_of_ble_eq_true rfl) ?_
  intro p e s m below meth c ls A C hl hK hA hP hD hS
  have hl : lv_has ls 3 [(0, .ref (a 0)), (1, .int x1)] := hl
  have hx := C.1.1
  have hb := C.1.2.1
  have hts := C.1.2.2.2.2
  have hown := C.1.2.2.2.1
  have hin : ∀ w ∈ wsX90, w ∈ ws9_unit := fun w h => List.mem_cons_of_mem _ (List.mem_append_right _ h)
  unfold f9_unit at hf
  refine lv_aload_n hx hb dX9_unit_0 rfl (lv_at hl 0 rfl) ?_
  refine lv_iconst (v := (0 : Int32)) hx hb dX9_unit_1 (by decide) ?_
  refine mp9_0 C hin hK hP hD hS (hts (Cond.fieldLink RX9 52 "SchematicTextModel" "thrown" "I") (List.mem_cons_of_mem _ m9_20)) dX9_unit_2 (fun H locs hP hD hS => ?_)
  refine lv_iload_n hx hb dX9_unit_5 rfl (lv_at hl 1 rfl) ?_
  refine lv_bipush (v := (32 : Int32)) hx hb dX9_unit_6 (by decide) ?_
  refine lv_icmp_lt (tgt := 17) hx hb dX9_unit_8 (by decide) (fun c_1 => ?_) (fun c_1 => ?_)
  · replace hf := og_t c_1 hf
    exact w9_unit_17 C hK hA (si u 0 (0 : Int32)) x1 hf hP hD hS (lv_sub hl [0, 1] rfl)
  · replace hf := og_f c_1 hf
    refine lv_iload_n hx hb dX9_unit_11 rfl (lv_at hl 1 rfl) ?_
    refine lv_bipush (v := (126 : Int32)) hx hb dX9_unit_12 (by decide) ?_
    refine lv_icmp_le (tgt := 23) hx hb dX9_unit_14 (by decide) (fun c_2 => ?_) (fun c_2 => ?_)
    · replace hf := og_t c_2 hf
      exact w9_unit_23 C hK hA (si u 0 (0 : Int32)) x1 hf hP hD hS (lv_sub hl [0, 1] rfl)
    · replace hf := og_f c_2 hf
      exact w9_unit_17 C hK hA (si u 0 (0 : Int32)) x1 hf hP hD hS (lv_sub hl [0, 1] rfl)
abbrev rm9_clear : Room := { frames := 0, cells := 0, slots := 0, locals := 0 }
noncomputable abbrev ws9_clear : List Cond := Cond.code yX9_clear cX9_clear 1 none :: WA9
theorem hd9_clear : yX9_clear.cls = RX9 ∧ yX9_clear.cls ≠ "java/lang/invoke/MethodHandle" ∧ yX9_clear.cls ≠ "java/lang/invoke/VarHandle" ∧ (parseMethodDescriptor yX9_clear.desc).map (fun d => d.parameters.length) = some 0 := by decide +kernel
def f9_clear (u : Md) : Option Md := (some (si (si u 0 (0 : Int32)) 3 (0 : Int32)))
set_option maxHeartbeats 4000000 in
set_option maxRecDepth 100000 in
theorem c9_clear (l : Launch) (D : va_G) (cI cJ cC : ClassId) (a : Nat → Nat) (u : Md) (v : Md) (sz : Nat) (hf : f9_clear u  = some v) : Met l yX9_clear ws9_clear rm9_clear (pW D (ty3 cI cJ cC) (cM cI cJ a u) sz [.ref (a 0)]) (qW none (cM cI cJ a v) D (ty3 cI cJ cC) (va_A (cM cI cJ a u) sz)) 0 0 (va_A (cM cI cJ a u) sz) := by
  refine mt_w (cc := cX9_clear) (maxL := 1) (ret := none) (by decide) rfl (Nat.le_of_ble_eq_true rfl) ?_
  intro p e s m below meth c ls A C hl hK hA hP hD hS
  have hl : lv_has ls 1 [(0, .ref (a 0))] := hl
  have hx := C.1.1
  have hb := C.1.2.1
  have hts := C.1.2.2.2.2
  have hown := C.1.2.2.2.1
  have hin : ∀ w ∈ wsX90, w ∈ ws9_clear := fun w h => List.mem_cons_of_mem _ (List.mem_append_right _ h)
  unfold f9_clear at hf
  refine lv_aload_n hx hb dX9_clear_0 rfl (lv_at hl 0 rfl) ?_
  refine lv_iconst (v := (0 : Int32)) hx hb dX9_clear_1 (by decide) ?_
  refine mp9_0 C hin hK hP hD hS (hts (Cond.fieldLink RX9 52 "SchematicTextModel" "thrown" "I") (List.mem_cons_of_mem _ m9_20)) dX9_clear_2 (fun H locs hP hD hS => ?_)
  refine lv_aload_n hx hb dX9_clear_5 rfl (lv_at hl 0 rfl) ?_
  refine lv_iconst (v := (0 : Int32)) hx hb dX9_clear_6 (by decide) ?_
  refine mp9_3 C hin hK hP hD hS (hts (Cond.fieldLink RX9 59 "SchematicTextModel" "size" "I") (List.mem_cons_of_mem _ m9_24)) dX9_clear_7 (fun H locs hP hD hS => ?_)
  cases hf
  exact rw_v C hK hP hD hS dX9_clear_10
abbrev rm9_spelt : Room := { frames := 0, cells := 0, slots := 0, locals := 0 }
noncomputable abbrev ws9_spelt : List Cond := Cond.code yX9_spelt cX9_spelt 8 (some .long) :: WA9
theorem g9_spelt {c0 : Cond} : GoodIn (c0 :: WA9) (va_wsS RX9 62 yX9_spelt ws9_spelt) := gd9_s m9_27 m9_28 m9_29 m9_30
theorem hd9_spelt : yX9_spelt.cls ≠ "java/lang/invoke/MethodHandle" ∧ yX9_spelt.cls ≠ "java/lang/invoke/VarHandle" ∧ (parseMethodDescriptor yX9_spelt.desc).map (fun d => d.parameters.length) = some 6 := by decide +kernel
def f9_spelt_71 (x5 : Int32) (y0 : Int64) : Option Int64 := (if x5 ≤ 0 then (some y0) else (some (((27 : Int64) * y0) + (x5).toInt64)))
set_option maxHeartbeats 4000000 in
set_option maxRecDepth 100000 in
theorem w9_spelt_71 {p : Program} {l : Launch} {e : Env} {s : State} {m : MethodId} {args : Array Value} {below : List Frame} {meth : Method} {c : Code} (C : Cx p s m args meth c cX9_spelt 8 ws9_spelt RX9 (some .long)) {r : Int64} : ∀ (x5 : Int32) (y0 : Int64), f9_spelt_71 x5 y0 = some r → ∀ {ls : Array Slot}, lv_has ls 8 [(5, .int x5)] → W p l e rm9_spelt s m args below meth c s.heap [] 0 0 (MQ below (k2_QcV (.long r)) args s 0 0 (fun _ => False)) (F0 m 71 ls [.long y0]) := by
  have hx := C.1.1
  have hb := C.1.2.1
  have hts := C.1.2.2.2.2
  have hown := C.1.2.2.2.1
  intro x5 y0 hf ls hl
  unfold f9_spelt_71 at hf
  refine lv_lstore (lv' := [(6, .long y0), (5, .int x5)]) hx hb dX9_spelt_71 hl (by decide) rfl (fun ls hl => ?_)
  refine lv_iload hx hb dX9_spelt_73 (lv_at hl 1 rfl) ?_
  refine lv_if_le (tgt := 91) hx hb dX9_spelt_75 (by decide) (fun c_4 => ?_) (fun c_4 => ?_)
  · replace hf := og_t c_4 hf
    refine lv_lload hx hb dX9_spelt_91 (lv_at hl 0 rfl) ?_
    cases hf
    exact rt_l C dX9_spelt_93
  · replace hf := og_f c_4 hf
    refine lv_ldc2 (v := (27 : Int64)) hx hb hown (hts (Cond.constantLong RX9 66 (27)) (List.mem_cons_of_mem _ m9_31)) dX9_spelt_78 ?_
    refine lv_lload hx hb dX9_spelt_81 (lv_at hl 0 rfl) ?_
    refine lv_lmul hx hb dX9_spelt_83 ?_
    refine lv_iload hx hb dX9_spelt_84 (lv_at hl 1 rfl) ?_
    refine lv_i2l (v := (x5).toInt64) hx hb dX9_spelt_86 rfl ?_
    refine lv_ladd hx hb dX9_spelt_87 ?_
    refine lv_goto (tgt := 93) hx hb dX9_spelt_88 (by decide) ?_
    cases hf
    exact rt_l C dX9_spelt_93
def f9_spelt_49 (x4 : Int32) (x5 : Int32) (y0 : Int64) : Option Int64 := (if x4 ≤ 0 then (f9_spelt_71 x5 y0) else (f9_spelt_71 x5 (((27 : Int64) * y0) + (x4).toInt64)))
set_option maxHeartbeats 4000000 in
set_option maxRecDepth 100000 in
theorem w9_spelt_49 {p : Program} {l : Launch} {e : Env} {s : State} {m : MethodId} {args : Array Value} {below : List Frame} {meth : Method} {c : Code} (C : Cx p s m args meth c cX9_spelt 8 ws9_spelt RX9 (some .long)) {r : Int64} : ∀ (x4 : Int32) (x5 : Int32) (y0 : Int64), f9_spelt_49 x4 x5 y0 = some r → ∀ {ls : Array Slot}, lv_has ls 8 [(4, .int x4), (5, .int x5)] → W p l e rm9_spelt s m args below meth c s.heap [] 0 0 (MQ below (k2_QcV (.long r)) args s 0 0 (fun _ => False)) (F0 m 49 ls [.long y0]) := by
  have hx := C.1.1
  have hb := C.1.2.1
  have hts := C.1.2.2.2.2
  have hown := C.1.2.2.2.1
  intro x4 x5 y0 hf ls hl
  unfold f9_spelt_49 at hf
  refine lv_lstore (lv' := [(6, .long y0), (4, .int x4), (5, .int x5)]) hx hb dX9_spelt_49 hl (by decide) rfl (fun ls hl => ?_)
  refine lv_iload hx hb dX9_spelt_51 (lv_at hl 1 rfl) ?_
  refine lv_if_le (tgt := 69) hx hb dX9_spelt_53 (by decide) (fun c_3 => ?_) (fun c_3 => ?_)
  · replace hf := og_t c_3 hf
    refine lv_lload hx hb dX9_spelt_69 (lv_at hl 0 rfl) ?_
    exact w9_spelt_71 C x5 y0 hf (lv_sub hl [2] rfl)
  · replace hf := og_f c_3 hf
    refine lv_ldc2 (v := (27 : Int64)) hx hb hown (hts (Cond.constantLong RX9 66 (27)) (List.mem_cons_of_mem _ m9_31)) dX9_spelt_56 ?_
    refine lv_lload hx hb dX9_spelt_59 (lv_at hl 0 rfl) ?_
    refine lv_lmul hx hb dX9_spelt_61 ?_
    refine lv_iload hx hb dX9_spelt_62 (lv_at hl 1 rfl) ?_
    refine lv_i2l (v := (x4).toInt64) hx hb dX9_spelt_64 rfl ?_
    refine lv_ladd hx hb dX9_spelt_65 ?_
    refine lv_goto (tgt := 71) hx hb dX9_spelt_66 (by decide) ?_
    exact w9_spelt_71 C x5 (((27 : Int64) * y0) + (x4).toInt64) hf (lv_sub hl [2] rfl)
def f9_spelt_29 (x3 : Int32) (x4 : Int32) (x5 : Int32) (y0 : Int64) : Option Int64 := (if x3 ≤ 0 then (f9_spelt_49 x4 x5 y0) else (f9_spelt_49 x4 x5 (((27 : Int64) * y0) + (x3).toInt64)))
set_option maxHeartbeats 4000000 in
set_option maxRecDepth 100000 in
theorem w9_spelt_29 {p : Program} {l : Launch} {e : Env} {s : State} {m : MethodId} {args : Array Value} {below : List Frame} {meth : Method} {c : Code} (C : Cx p s m args meth c cX9_spelt 8 ws9_spelt RX9 (some .long)) {r : Int64} : ∀ (x3 : Int32) (x4 : Int32) (x5 : Int32) (y0 : Int64), f9_spelt_29 x3 x4 x5 y0 = some r → ∀ {ls : Array Slot}, lv_has ls 8 [(3, .int x3), (4, .int x4), (5, .int x5)] → W p l e rm9_spelt s m args below meth c s.heap [] 0 0 (MQ below (k2_QcV (.long r)) args s 0 0 (fun _ => False)) (F0 m 29 ls [.long y0]) := by
  have hx := C.1.1
  have hb := C.1.2.1
  have hts := C.1.2.2.2.2
  have hown := C.1.2.2.2.1
  intro x3 x4 x5 y0 hf ls hl
  unfold f9_spelt_29 at hf
  refine lv_lstore (lv' := [(6, .long y0), (3, .int x3), (4, .int x4), (5, .int x5)]) hx hb dX9_spelt_29 hl (by decide) rfl (fun ls hl => ?_)
  refine lv_iload_n hx hb dX9_spelt_31 rfl (lv_at hl 1 rfl) ?_
  refine lv_if_le (tgt := 47) hx hb dX9_spelt_32 (by decide) (fun c_2 => ?_) (fun c_2 => ?_)
  · replace hf := og_t c_2 hf
    refine lv_lload hx hb dX9_spelt_47 (lv_at hl 0 rfl) ?_
    exact w9_spelt_49 C x4 x5 y0 hf (lv_sub hl [2, 3] rfl)
  · replace hf := og_f c_2 hf
    refine lv_ldc2 (v := (27 : Int64)) hx hb hown (hts (Cond.constantLong RX9 66 (27)) (List.mem_cons_of_mem _ m9_31)) dX9_spelt_35 ?_
    refine lv_lload hx hb dX9_spelt_38 (lv_at hl 0 rfl) ?_
    refine lv_lmul hx hb dX9_spelt_40 ?_
    refine lv_iload_n hx hb dX9_spelt_41 rfl (lv_at hl 1 rfl) ?_
    refine lv_i2l (v := (x3).toInt64) hx hb dX9_spelt_42 rfl ?_
    refine lv_ladd hx hb dX9_spelt_43 ?_
    refine lv_goto (tgt := 49) hx hb dX9_spelt_44 (by decide) ?_
    exact w9_spelt_49 C x4 x5 (((27 : Int64) * y0) + (x3).toInt64) hf (lv_sub hl [2, 3] rfl)
def f9_spelt (x0 : Int32) (x1 : Int32) (x2 : Int32) (x3 : Int32) (x4 : Int32) (x5 : Int32) : Option Int64 := (if x2 ≤ 0 then (f9_spelt_29 x3 x4 x5 (((27 : Int64) * (x0).toInt64) + (x1).toInt64)) else (f9_spelt_29 x3 x4 x5 (((27 : Int64) * (((27 : Int64) * (x0).toInt64) + (x1).toInt64)) + (x2).toInt64)))
set_option maxHeartbeats 4000000 in
set_option maxRecDepth 100000 in
theorem c9_spelt (l : Launch) (x0 : Int32) (x1 : Int32) (x2 : Int32) (x3 : Int32) (x4 : Int32) (x5 : Int32) (r : Int64) (hf : f9_spelt x0 x1 x2 x3 x4 x5 = some r) : Met l yX9_spelt ws9_spelt rm9_spelt (va_Pc [.int x0, .int x1, .int x2, .int x3, .int x4, .int x5] (fun _ => True)) (k2_QcV (.long r)) 0 0 (fun _ => False) := by
  refine mt_s (cc := cX9_spelt) (maxL := 8) (ret := (some .long)) (by decide) rfl (Nat.le_of_ble_eq_true rfl) ?_
  intro p e s m below meth c ls C hl
  have hl : lv_has ls 8 [(0, .int x0), (1, .int x1), (2, .int x2), (3, .int x3), (4, .int x4), (5, .int x5)] := hl
  have hx := C.1.1
  have hb := C.1.2.1
  have hts := C.1.2.2.2.2
  have hown := C.1.2.2.2.1
  unfold f9_spelt at hf
  refine lv_ldc2 (v := (27 : Int64)) hx hb hown (hts (Cond.constantLong RX9 66 (27)) (List.mem_cons_of_mem _ m9_31)) dX9_spelt_0 ?_
  refine lv_iload_n hx hb dX9_spelt_3 rfl (lv_at hl 0 rfl) ?_
  refine lv_i2l (v := (x0).toInt64) hx hb dX9_spelt_4 rfl ?_
  refine lv_lmul hx hb dX9_spelt_5 ?_
  refine lv_iload_n hx hb dX9_spelt_6 rfl (lv_at hl 1 rfl) ?_
  refine lv_i2l (v := (x1).toInt64) hx hb dX9_spelt_7 rfl ?_
  refine lv_ladd hx hb dX9_spelt_8 ?_
  refine lv_lstore (lv' := [(6, .long (((27 : Int64) * (x0).toInt64) + (x1).toInt64)), (0, .int x0), (1, .int x1), (2, .int x2), (3, .int x3), (4, .int x4), (5, .int x5)]) hx hb dX9_spelt_9 hl (by decide) rfl (fun ls hl => ?_)
  refine lv_iload_n hx hb dX9_spelt_11 rfl (lv_at hl 3 rfl) ?_
  refine lv_if_le (tgt := 27) hx hb dX9_spelt_12 (by decide) (fun c_1 => ?_) (fun c_1 => ?_)
  · replace hf := og_t c_1 hf
    refine lv_lload hx hb dX9_spelt_27 (lv_at hl 0 rfl) ?_
    exact w9_spelt_29 C x3 x4 x5 (((27 : Int64) * (x0).toInt64) + (x1).toInt64) hf (lv_sub hl [4, 5, 6] rfl)
  · replace hf := og_f c_1 hf
    refine lv_ldc2 (v := (27 : Int64)) hx hb hown (hts (Cond.constantLong RX9 66 (27)) (List.mem_cons_of_mem _ m9_31)) dX9_spelt_15 ?_
    refine lv_lload hx hb dX9_spelt_18 (lv_at hl 0 rfl) ?_
    refine lv_lmul hx hb dX9_spelt_20 ?_
    refine lv_iload_n hx hb dX9_spelt_21 rfl (lv_at hl 3 rfl) ?_
    refine lv_i2l (v := (x2).toInt64) hx hb dX9_spelt_22 rfl ?_
    refine lv_ladd hx hb dX9_spelt_23 ?_
    refine lv_goto (tgt := 29) hx hb dX9_spelt_24 (by decide) ?_
    exact w9_spelt_29 C x3 x4 x5 (((27 : Int64) * (((27 : Int64) * (x0).toInt64) + (x1).toInt64)) + (x2).toInt64) hf (lv_sub hl [4, 5, 6] rfl)
abbrev rm9_nameOf : Room := { frames := 1, cells := 0, slots := 0, locals := 27 }
noncomputable abbrev ws9_nameOf : List Cond := Cond.code yX9_nameOf cX9_nameOf 1 (some .long) :: WA9
theorem g9_nameOf {c0 : Cond} : GoodIn (c0 :: WA9) (va_wsS RX9 151 yX9_nameOf ws9_nameOf) := gd9_s m9_99 m9_100 m9_29 m9_26
theorem hd9_nameOf : yX9_nameOf.cls ≠ "java/lang/invoke/MethodHandle" ∧ yX9_nameOf.cls ≠ "java/lang/invoke/VarHandle" ∧ (parseMethodDescriptor yX9_nameOf.desc).map (fun d => d.parameters.length) = some 1 := by decide +kernel
def f9_nameOf (x0 : Int32) : Option Int64 := (if x0 = (0 : Int32) then ((f9_spelt (4 : Int32) (5 : Int32) (19 : Int32) (9 : Int32) (7 : Int32) (14 : Int32)).bind fun r_3 => (some r_3)) else (if x0 = (1 : Int32) then ((f9_spelt (19 : Int32) (8 : Int32) (5 : Int32) (5 : Int32) (20 : Int32) (0 : Int32)).bind fun r_6 => (some r_6)) else (if x0 = (2 : Int32) then ((f9_spelt (19 : Int32) (25 : Int32) (13 : Int32) (2 : Int32) (15 : Int32) (12 : Int32)).bind fun r_9 => (some r_9)) else (if x0 = (3 : Int32) then ((f9_spelt (21 : Int32) (14 : Int32) (9 : Int32) (20 : Int32) (0 : Int32) (0 : Int32)).bind fun r_12 => (some r_12)) else (if x0 = (4 : Int32) then ((f9_spelt (16 : Int32) (9 : Int32) (14 : Int32) (0 : Int32) (0 : Int32) (0 : Int32)).bind fun r_15 => (some r_15)) else (if x0 = (5 : Int32) then ((f9_spelt (1 : Int32) (18 : Int32) (3 : Int32) (0 : Int32) (0 : Int32) (0 : Int32)).bind fun r_18 => (some r_18)) else (if x0 = (6 : Int32) then ((f9_spelt (14 : Int32) (15 : Int32) (20 : Int32) (5 : Int32) (0 : Int32) (0 : Int32)).bind fun r_21 => (some r_21)) else (if x0 = (7 : Int32) then ((f9_spelt (23 : Int32) (9 : Int32) (18 : Int32) (5 : Int32) (0 : Int32) (0 : Int32)).bind fun r_24 => (some r_24)) else ((f9_spelt (6 : Int32) (9 : Int32) (5 : Int32) (12 : Int32) (4 : Int32) (0 : Int32)).bind fun r_26 => (some r_26))))))))))
set_option maxHeartbeats 4000000 in
set_option maxRecDepth 100000 in
theorem c9_nameOf (l : Launch) (x0 : Int32) (r : Int64) (hf : f9_nameOf x0 = some r) : Met l yX9_nameOf ws9_nameOf rm9_nameOf (va_Pc [.int x0] (fun _ => True)) (k2_QcV (.long r)) 0 0 (fun _ => False) := by
  refine mt_s (cc := cX9_nameOf) (maxL := 1) (ret := (some .long)) (by decide) rfl (Nat.le_of_ble_eq_true rfl) ?_
  intro p e s m below meth c ls C hl
  have hl : lv_has ls 1 [(0, .int x0)] := hl
  have hx := C.1.1
  have hb := C.1.2.1
  have hts := C.1.2.2.2.2
  have hown := C.1.2.2.2.1
  unfold f9_nameOf at hf
  refine lv_iload_n hx hb dX9_nameOf_0 rfl (lv_at hl 0 rfl) ?_
  by_cases c_1 : x0 = (0 : Int32)
  · replace hf := og_t c_1 hf
    refine lv_tableIn (tgt := 48) (off := 47) hx hb dX9_nameOf_1 (by rw [c_1]; decide) (by rw [c_1]; decide) (by rw [c_1]; rfl) (by decide) ?_
    refine lv_iconst (v := (4 : Int32)) hx hb dX9_nameOf_48 (by decide) ?_
    refine lv_iconst (v := (5 : Int32)) hx hb dX9_nameOf_49 (by decide) ?_
    refine lv_bipush (v := (19 : Int32)) hx hb dX9_nameOf_50 (by decide) ?_
    refine lv_bipush (v := (9 : Int32)) hx hb dX9_nameOf_52 (by decide) ?_
    refine lv_bipush (v := (7 : Int32)) hx hb dX9_nameOf_54 (by decide) ?_
    refine lv_bipush (v := (14 : Int32)) hx hb dX9_nameOf_56 (by decide) ?_
    obtain ⟨r_3, h_2, hf⟩ := og_b hf
    try dsimp only at hf
    refine ck_s (v := .long r_3) (rest := []) C.1 (c9_spelt l (4 : Int32) (5 : Int32) (19 : Int32) (9 : Int32) (7 : Int32) (14 : Int32) r_3 h_2) (va_cwS 6 hts g9_spelt rfl rfl rfl hd9_spelt ⟨Nat.le_of_ble_eq_true rfl, Nat.le_of_ble_eq_true rfl⟩) rfl hl.1 rfl (Nat.le_of_ble_eq_true rfl) ⟨Nat.zero_le _, Nat.zero_le _⟩ dX9_nameOf_58 ?_
    cases hf
    exact rt_l C dX9_nameOf_61
  · replace hf := og_f c_1 hf
    by_cases c_4 : x0 = (1 : Int32)
    · replace hf := og_t c_4 hf
      refine lv_tableIn (tgt := 62) (off := 61) hx hb dX9_nameOf_1 (by rw [c_4]; decide) (by rw [c_4]; decide) (by rw [c_4]; rfl) (by decide) ?_
      refine lv_bipush (v := (19 : Int32)) hx hb dX9_nameOf_62 (by decide) ?_
      refine lv_bipush (v := (8 : Int32)) hx hb dX9_nameOf_64 (by decide) ?_
      refine lv_iconst (v := (5 : Int32)) hx hb dX9_nameOf_66 (by decide) ?_
      refine lv_iconst (v := (5 : Int32)) hx hb dX9_nameOf_67 (by decide) ?_
      refine lv_bipush (v := (20 : Int32)) hx hb dX9_nameOf_68 (by decide) ?_
      refine lv_iconst (v := (0 : Int32)) hx hb dX9_nameOf_70 (by decide) ?_
      obtain ⟨r_6, h_5, hf⟩ := og_b hf
      try dsimp only at hf
      refine ck_s (v := .long r_6) (rest := []) C.1 (c9_spelt l (19 : Int32) (8 : Int32) (5 : Int32) (5 : Int32) (20 : Int32) (0 : Int32) r_6 h_5) (va_cwS 6 hts g9_spelt rfl rfl rfl hd9_spelt ⟨Nat.le_of_ble_eq_true rfl, Nat.le_of_ble_eq_true rfl⟩) rfl hl.1 rfl (Nat.le_of_ble_eq_true rfl) ⟨Nat.zero_le _, Nat.zero_le _⟩ dX9_nameOf_71 ?_
      cases hf
      exact rt_l C dX9_nameOf_74
    · replace hf := og_f c_4 hf
      by_cases c_7 : x0 = (2 : Int32)
      · replace hf := og_t c_7 hf
        refine lv_tableIn (tgt := 75) (off := 74) hx hb dX9_nameOf_1 (by rw [c_7]; decide) (by rw [c_7]; decide) (by rw [c_7]; rfl) (by decide) ?_
        refine lv_bipush (v := (19 : Int32)) hx hb dX9_nameOf_75 (by decide) ?_
        refine lv_bipush (v := (25 : Int32)) hx hb dX9_nameOf_77 (by decide) ?_
        refine lv_bipush (v := (13 : Int32)) hx hb dX9_nameOf_79 (by decide) ?_
        refine lv_iconst (v := (2 : Int32)) hx hb dX9_nameOf_81 (by decide) ?_
        refine lv_bipush (v := (15 : Int32)) hx hb dX9_nameOf_82 (by decide) ?_
        refine lv_bipush (v := (12 : Int32)) hx hb dX9_nameOf_84 (by decide) ?_
        obtain ⟨r_9, h_8, hf⟩ := og_b hf
        try dsimp only at hf
        refine ck_s (v := .long r_9) (rest := []) C.1 (c9_spelt l (19 : Int32) (25 : Int32) (13 : Int32) (2 : Int32) (15 : Int32) (12 : Int32) r_9 h_8) (va_cwS 6 hts g9_spelt rfl rfl rfl hd9_spelt ⟨Nat.le_of_ble_eq_true rfl, Nat.le_of_ble_eq_true rfl⟩) rfl hl.1 rfl (Nat.le_of_ble_eq_true rfl) ⟨Nat.zero_le _, Nat.zero_le _⟩ dX9_nameOf_86 ?_
        cases hf
        exact rt_l C dX9_nameOf_89
      · replace hf := og_f c_7 hf
        by_cases c_10 : x0 = (3 : Int32)
        · replace hf := og_t c_10 hf
          refine lv_tableIn (tgt := 90) (off := 89) hx hb dX9_nameOf_1 (by rw [c_10]; decide) (by rw [c_10]; decide) (by rw [c_10]; rfl) (by decide) ?_
          refine lv_bipush (v := (21 : Int32)) hx hb dX9_nameOf_90 (by decide) ?_
          refine lv_bipush (v := (14 : Int32)) hx hb dX9_nameOf_92 (by decide) ?_
          refine lv_bipush (v := (9 : Int32)) hx hb dX9_nameOf_94 (by decide) ?_
          refine lv_bipush (v := (20 : Int32)) hx hb dX9_nameOf_96 (by decide) ?_
          refine lv_iconst (v := (0 : Int32)) hx hb dX9_nameOf_98 (by decide) ?_
          refine lv_iconst (v := (0 : Int32)) hx hb dX9_nameOf_99 (by decide) ?_
          obtain ⟨r_12, h_11, hf⟩ := og_b hf
          try dsimp only at hf
          refine ck_s (v := .long r_12) (rest := []) C.1 (c9_spelt l (21 : Int32) (14 : Int32) (9 : Int32) (20 : Int32) (0 : Int32) (0 : Int32) r_12 h_11) (va_cwS 6 hts g9_spelt rfl rfl rfl hd9_spelt ⟨Nat.le_of_ble_eq_true rfl, Nat.le_of_ble_eq_true rfl⟩) rfl hl.1 rfl (Nat.le_of_ble_eq_true rfl) ⟨Nat.zero_le _, Nat.zero_le _⟩ dX9_nameOf_100 ?_
          cases hf
          exact rt_l C dX9_nameOf_103
        · replace hf := og_f c_10 hf
          by_cases c_13 : x0 = (4 : Int32)
          · replace hf := og_t c_13 hf
            refine lv_tableIn (tgt := 104) (off := 103) hx hb dX9_nameOf_1 (by rw [c_13]; decide) (by rw [c_13]; decide) (by rw [c_13]; rfl) (by decide) ?_
            refine lv_bipush (v := (16 : Int32)) hx hb dX9_nameOf_104 (by decide) ?_
            refine lv_bipush (v := (9 : Int32)) hx hb dX9_nameOf_106 (by decide) ?_
            refine lv_bipush (v := (14 : Int32)) hx hb dX9_nameOf_108 (by decide) ?_
            refine lv_iconst (v := (0 : Int32)) hx hb dX9_nameOf_110 (by decide) ?_
            refine lv_iconst (v := (0 : Int32)) hx hb dX9_nameOf_111 (by decide) ?_
            refine lv_iconst (v := (0 : Int32)) hx hb dX9_nameOf_112 (by decide) ?_
            obtain ⟨r_15, h_14, hf⟩ := og_b hf
            try dsimp only at hf
            refine ck_s (v := .long r_15) (rest := []) C.1 (c9_spelt l (16 : Int32) (9 : Int32) (14 : Int32) (0 : Int32) (0 : Int32) (0 : Int32) r_15 h_14) (va_cwS 6 hts g9_spelt rfl rfl rfl hd9_spelt ⟨Nat.le_of_ble_eq_true rfl, Nat.le_of_ble_eq_true rfl⟩) rfl hl.1 rfl (Nat.le_of_ble_eq_true rfl) ⟨Nat.zero_le _, Nat.zero_le _⟩ dX9_nameOf_113 ?_
            cases hf
            exact rt_l C dX9_nameOf_116
          · replace hf := og_f c_13 hf
            by_cases c_16 : x0 = (5 : Int32)
            · replace hf := og_t c_16 hf
              refine lv_tableIn (tgt := 117) (off := 116) hx hb dX9_nameOf_1 (by rw [c_16]; decide) (by rw [c_16]; decide) (by rw [c_16]; rfl) (by decide) ?_
              refine lv_iconst (v := (1 : Int32)) hx hb dX9_nameOf_117 (by decide) ?_
              refine lv_bipush (v := (18 : Int32)) hx hb dX9_nameOf_118 (by decide) ?_
              refine lv_iconst (v := (3 : Int32)) hx hb dX9_nameOf_120 (by decide) ?_
              refine lv_iconst (v := (0 : Int32)) hx hb dX9_nameOf_121 (by decide) ?_
              refine lv_iconst (v := (0 : Int32)) hx hb dX9_nameOf_122 (by decide) ?_
              refine lv_iconst (v := (0 : Int32)) hx hb dX9_nameOf_123 (by decide) ?_
              obtain ⟨r_18, h_17, hf⟩ := og_b hf
              try dsimp only at hf
              refine ck_s (v := .long r_18) (rest := []) C.1 (c9_spelt l (1 : Int32) (18 : Int32) (3 : Int32) (0 : Int32) (0 : Int32) (0 : Int32) r_18 h_17) (va_cwS 6 hts g9_spelt rfl rfl rfl hd9_spelt ⟨Nat.le_of_ble_eq_true rfl, Nat.le_of_ble_eq_true rfl⟩) rfl hl.1 rfl (Nat.le_of_ble_eq_true rfl) ⟨Nat.zero_le _, Nat.zero_le _⟩ dX9_nameOf_124 ?_
              cases hf
              exact rt_l C dX9_nameOf_127
            · replace hf := og_f c_16 hf
              by_cases c_19 : x0 = (6 : Int32)
              · replace hf := og_t c_19 hf
                refine lv_tableIn (tgt := 128) (off := 127) hx hb dX9_nameOf_1 (by rw [c_19]; decide) (by rw [c_19]; decide) (by rw [c_19]; rfl) (by decide) ?_
                refine lv_bipush (v := (14 : Int32)) hx hb dX9_nameOf_128 (by decide) ?_
                refine lv_bipush (v := (15 : Int32)) hx hb dX9_nameOf_130 (by decide) ?_
                refine lv_bipush (v := (20 : Int32)) hx hb dX9_nameOf_132 (by decide) ?_
                refine lv_iconst (v := (5 : Int32)) hx hb dX9_nameOf_134 (by decide) ?_
                refine lv_iconst (v := (0 : Int32)) hx hb dX9_nameOf_135 (by decide) ?_
                refine lv_iconst (v := (0 : Int32)) hx hb dX9_nameOf_136 (by decide) ?_
                obtain ⟨r_21, h_20, hf⟩ := og_b hf
                try dsimp only at hf
                refine ck_s (v := .long r_21) (rest := []) C.1 (c9_spelt l (14 : Int32) (15 : Int32) (20 : Int32) (5 : Int32) (0 : Int32) (0 : Int32) r_21 h_20) (va_cwS 6 hts g9_spelt rfl rfl rfl hd9_spelt ⟨Nat.le_of_ble_eq_true rfl, Nat.le_of_ble_eq_true rfl⟩) rfl hl.1 rfl (Nat.le_of_ble_eq_true rfl) ⟨Nat.zero_le _, Nat.zero_le _⟩ dX9_nameOf_137 ?_
                cases hf
                exact rt_l C dX9_nameOf_140
              · replace hf := og_f c_19 hf
                by_cases c_22 : x0 = (7 : Int32)
                · replace hf := og_t c_22 hf
                  refine lv_tableIn (tgt := 141) (off := 140) hx hb dX9_nameOf_1 (by rw [c_22]; decide) (by rw [c_22]; decide) (by rw [c_22]; rfl) (by decide) ?_
                  refine lv_bipush (v := (23 : Int32)) hx hb dX9_nameOf_141 (by decide) ?_
                  refine lv_bipush (v := (9 : Int32)) hx hb dX9_nameOf_143 (by decide) ?_
                  refine lv_bipush (v := (18 : Int32)) hx hb dX9_nameOf_145 (by decide) ?_
                  refine lv_iconst (v := (5 : Int32)) hx hb dX9_nameOf_147 (by decide) ?_
                  refine lv_iconst (v := (0 : Int32)) hx hb dX9_nameOf_148 (by decide) ?_
                  refine lv_iconst (v := (0 : Int32)) hx hb dX9_nameOf_149 (by decide) ?_
                  obtain ⟨r_24, h_23, hf⟩ := og_b hf
                  try dsimp only at hf
                  refine ck_s (v := .long r_24) (rest := []) C.1 (c9_spelt l (23 : Int32) (9 : Int32) (18 : Int32) (5 : Int32) (0 : Int32) (0 : Int32) r_24 h_23) (va_cwS 6 hts g9_spelt rfl rfl rfl hd9_spelt ⟨Nat.le_of_ble_eq_true rfl, Nat.le_of_ble_eq_true rfl⟩) rfl hl.1 rfl (Nat.le_of_ble_eq_true rfl) ⟨Nat.zero_le _, Nat.zero_le _⟩ dX9_nameOf_150 ?_
                  cases hf
                  exact rt_l C dX9_nameOf_153
                · replace hf := og_f c_22 hf
                  have nc_1 := lv_neT (a := 0) c_1 rfl
                  have nc_4 := lv_neT (a := 1) c_4 rfl
                  have nc_7 := lv_neT (a := 2) c_7 rfl
                  have nc_10 := lv_neT (a := 3) c_10 rfl
                  have nc_13 := lv_neT (a := 4) c_13 rfl
                  have nc_16 := lv_neT (a := 5) c_16 rfl
                  have nc_19 := lv_neT (a := 6) c_19 rfl
                  have nc_22 := lv_neT (a := 7) c_22 rfl
                  refine lv_tableOut (tgt := 154) hx hb dX9_nameOf_1 (by omega) (by decide) ?_
                  refine lv_bipush (v := (6 : Int32)) hx hb dX9_nameOf_154 (by decide) ?_
                  refine lv_bipush (v := (9 : Int32)) hx hb dX9_nameOf_156 (by decide) ?_
                  refine lv_iconst (v := (5 : Int32)) hx hb dX9_nameOf_158 (by decide) ?_
                  refine lv_bipush (v := (12 : Int32)) hx hb dX9_nameOf_159 (by decide) ?_
                  refine lv_iconst (v := (4 : Int32)) hx hb dX9_nameOf_161 (by decide) ?_
                  refine lv_iconst (v := (0 : Int32)) hx hb dX9_nameOf_162 (by decide) ?_
                  obtain ⟨r_26, h_25, hf⟩ := og_b hf
                  try dsimp only at hf
                  refine ck_s (v := .long r_26) (rest := []) C.1 (c9_spelt l (6 : Int32) (9 : Int32) (5 : Int32) (12 : Int32) (4 : Int32) (0 : Int32) r_26 h_25) (va_cwS 6 hts g9_spelt rfl rfl rfl hd9_spelt ⟨Nat.le_of_ble_eq_true rfl, Nat.le_of_ble_eq_true rfl⟩) rfl hl.1 rfl (Nat.le_of_ble_eq_true rfl) ⟨Nat.zero_le _, Nat.zero_le _⟩ dX9_nameOf_163 ?_
                  cases hf
                  exact rt_l C dX9_nameOf_166
abbrev rm9_field : Room := { frames := 0, cells := 0, slots := 0, locals := 0 }
noncomputable abbrev ws9_field : List Cond := Cond.code yX9_field cX9_field 2 (some .int) :: WA9
theorem g9_field {c0 : Cond} : GoodIn (c0 :: WA9) (va_wsS RX9 68 yX9_field ws9_field) := gd9_s m9_34 m9_35 m9_29 m9_32
theorem hd9_field : yX9_field.cls ≠ "java/lang/invoke/MethodHandle" ∧ yX9_field.cls ≠ "java/lang/invoke/VarHandle" ∧ (parseMethodDescriptor yX9_field.desc).map (fun d => d.parameters.length) = some 2 := by decide +kernel
def f9_field (x0 : Int32) (x1 : Int32) : Option Int32 := (if x0 = (1 : Int32) then (if x1 = 0 then (some (2 : Int32)) else (if x1 = (1 : Int32) then (some (3 : Int32)) else (some (0 : Int32)))) else (if x0 = (2 : Int32) then (if (2 : Int32) ≤ x1 then (if x1 = (2 : Int32) then (some (3 : Int32)) else (some (0 : Int32))) else (some (1 : Int32))) else (if x0 = (3 : Int32) then (if x1 = 0 then (some (2 : Int32)) else (some (0 : Int32))) else (if x0 = (4 : Int32) then (if (2 : Int32) ≤ x1 then (if x1 = (2 : Int32) then (some (3 : Int32)) else (if x1 = (3 : Int32) then (some (2 : Int32)) else (some (0 : Int32)))) else (some (1 : Int32))) else (if x0 = (5 : Int32) then (if (3 : Int32) ≤ x1 then (if (5 : Int32) ≤ x1 then (some (0 : Int32)) else (some (2 : Int32))) else (some (1 : Int32))) else (if x0 = (6 : Int32) then (if x1 < (2 : Int32) then (some (1 : Int32)) else (if x1 = (3 : Int32) then (some (1 : Int32)) else (if x1 = (2 : Int32) then (some (3 : Int32)) else (some (0 : Int32))))) else (if x0 = (7 : Int32) then (if (4 : Int32) ≤ x1 then (some (0 : Int32)) else (some (1 : Int32))) else (if x0 = (8 : Int32) then (if (2 : Int32) ≤ x1 then (some (0 : Int32)) else (some (3 : Int32))) else (some (0 : Int32))))))))))
set_option maxHeartbeats 4000000 in
set_option maxRecDepth 100000 in
theorem c9_field (l : Launch) (x0 : Int32) (x1 : Int32) (r : Int32) (hf : f9_field x0 x1 = some r) : Met l yX9_field ws9_field rm9_field (va_Pc [.int x0, .int x1] (fun _ => True)) (k2_QcV (.int r)) 0 0 (fun _ => False) := by
  refine mt_s (cc := cX9_field) (maxL := 2) (ret := (some .int)) (by decide) rfl (Nat.le_of_ble_eq_true rfl) ?_
  intro p e s m below meth c ls C hl
  have hl : lv_has ls 2 [(0, .int x0), (1, .int x1)] := hl
  have hx := C.1.1
  have hb := C.1.2.1
  have hts := C.1.2.2.2.2
  have hown := C.1.2.2.2.1
  unfold f9_field at hf
  refine lv_iload_n hx hb dX9_field_0 rfl (lv_at hl 0 rfl) ?_
  by_cases c_1 : x0 = (1 : Int32)
  · replace hf := og_t c_1 hf
    refine lv_tableIn (tgt := 48) (off := 47) hx hb dX9_field_1 (by rw [c_1]; decide) (by rw [c_1]; decide) (by rw [c_1]; rfl) (by decide) ?_
    refine lv_iload_n hx hb dX9_field_48 rfl (lv_at hl 1 rfl) ?_
    refine lv_if_ne (tgt := 56) hx hb dX9_field_49 (by decide) (fun c_2 => ?_) (fun c_2 => ?_)
    · replace hf := og_f c_2 hf
      refine lv_iload_n hx hb dX9_field_56 rfl (lv_at hl 1 rfl) ?_
      refine lv_iconst (v := (1 : Int32)) hx hb dX9_field_57 (by decide) ?_
      refine lv_icmp_ne (tgt := 65) hx hb dX9_field_58 (by decide) (fun c_3 => ?_) (fun c_3 => ?_)
      · replace hf := og_f c_3 hf
        refine lv_iconst (v := (0 : Int32)) hx hb dX9_field_65 (by decide) ?_
        cases hf
        exact rt_i C dX9_field_66
      · replace hf := og_t c_3 hf
        refine lv_iconst (v := (3 : Int32)) hx hb dX9_field_61 (by decide) ?_
        refine lv_goto (tgt := 66) hx hb dX9_field_62 (by decide) ?_
        cases hf
        exact rt_i C dX9_field_66
    · replace hf := og_t c_2 hf
      refine lv_iconst (v := (2 : Int32)) hx hb dX9_field_52 (by decide) ?_
      refine lv_goto (tgt := 66) hx hb dX9_field_53 (by decide) ?_
      cases hf
      exact rt_i C dX9_field_66
  · replace hf := og_f c_1 hf
    by_cases c_4 : x0 = (2 : Int32)
    · replace hf := og_t c_4 hf
      refine lv_tableIn (tgt := 67) (off := 66) hx hb dX9_field_1 (by rw [c_4]; decide) (by rw [c_4]; decide) (by rw [c_4]; rfl) (by decide) ?_
      refine lv_iload_n hx hb dX9_field_67 rfl (lv_at hl 1 rfl) ?_
      refine lv_iconst (v := (2 : Int32)) hx hb dX9_field_68 (by decide) ?_
      refine lv_icmp_ge (tgt := 76) hx hb dX9_field_69 (by decide) (fun c_5 => ?_) (fun c_5 => ?_)
      · replace hf := og_t c_5 hf
        refine lv_iload_n hx hb dX9_field_76 rfl (lv_at hl 1 rfl) ?_
        refine lv_iconst (v := (2 : Int32)) hx hb dX9_field_77 (by decide) ?_
        refine lv_icmp_ne (tgt := 85) hx hb dX9_field_78 (by decide) (fun c_6 => ?_) (fun c_6 => ?_)
        · replace hf := og_f c_6 hf
          refine lv_iconst (v := (0 : Int32)) hx hb dX9_field_85 (by decide) ?_
          cases hf
          exact rt_i C dX9_field_86
        · replace hf := og_t c_6 hf
          refine lv_iconst (v := (3 : Int32)) hx hb dX9_field_81 (by decide) ?_
          refine lv_goto (tgt := 86) hx hb dX9_field_82 (by decide) ?_
          cases hf
          exact rt_i C dX9_field_86
      · replace hf := og_f c_5 hf
        refine lv_iconst (v := (1 : Int32)) hx hb dX9_field_72 (by decide) ?_
        refine lv_goto (tgt := 86) hx hb dX9_field_73 (by decide) ?_
        cases hf
        exact rt_i C dX9_field_86
    · replace hf := og_f c_4 hf
      by_cases c_7 : x0 = (3 : Int32)
      · replace hf := og_t c_7 hf
        refine lv_tableIn (tgt := 87) (off := 86) hx hb dX9_field_1 (by rw [c_7]; decide) (by rw [c_7]; decide) (by rw [c_7]; rfl) (by decide) ?_
        refine lv_iload_n hx hb dX9_field_87 rfl (lv_at hl 1 rfl) ?_
        refine lv_if_ne (tgt := 95) hx hb dX9_field_88 (by decide) (fun c_8 => ?_) (fun c_8 => ?_)
        · replace hf := og_f c_8 hf
          refine lv_iconst (v := (0 : Int32)) hx hb dX9_field_95 (by decide) ?_
          cases hf
          exact rt_i C dX9_field_96
        · replace hf := og_t c_8 hf
          refine lv_iconst (v := (2 : Int32)) hx hb dX9_field_91 (by decide) ?_
          refine lv_goto (tgt := 96) hx hb dX9_field_92 (by decide) ?_
          cases hf
          exact rt_i C dX9_field_96
      · replace hf := og_f c_7 hf
        by_cases c_9 : x0 = (4 : Int32)
        · replace hf := og_t c_9 hf
          refine lv_tableIn (tgt := 97) (off := 96) hx hb dX9_field_1 (by rw [c_9]; decide) (by rw [c_9]; decide) (by rw [c_9]; rfl) (by decide) ?_
          refine lv_iload_n hx hb dX9_field_97 rfl (lv_at hl 1 rfl) ?_
          refine lv_iconst (v := (2 : Int32)) hx hb dX9_field_98 (by decide) ?_
          refine lv_icmp_ge (tgt := 106) hx hb dX9_field_99 (by decide) (fun c_10 => ?_) (fun c_10 => ?_)
          · replace hf := og_t c_10 hf
            refine lv_iload_n hx hb dX9_field_106 rfl (lv_at hl 1 rfl) ?_
            refine lv_iconst (v := (2 : Int32)) hx hb dX9_field_107 (by decide) ?_
            refine lv_icmp_ne (tgt := 115) hx hb dX9_field_108 (by decide) (fun c_11 => ?_) (fun c_11 => ?_)
            · replace hf := og_f c_11 hf
              refine lv_iload_n hx hb dX9_field_115 rfl (lv_at hl 1 rfl) ?_
              refine lv_iconst (v := (3 : Int32)) hx hb dX9_field_116 (by decide) ?_
              refine lv_icmp_ne (tgt := 124) hx hb dX9_field_117 (by decide) (fun c_12 => ?_) (fun c_12 => ?_)
              · replace hf := og_f c_12 hf
                refine lv_iconst (v := (0 : Int32)) hx hb dX9_field_124 (by decide) ?_
                cases hf
                exact rt_i C dX9_field_125
              · replace hf := og_t c_12 hf
                refine lv_iconst (v := (2 : Int32)) hx hb dX9_field_120 (by decide) ?_
                refine lv_goto (tgt := 125) hx hb dX9_field_121 (by decide) ?_
                cases hf
                exact rt_i C dX9_field_125
            · replace hf := og_t c_11 hf
              refine lv_iconst (v := (3 : Int32)) hx hb dX9_field_111 (by decide) ?_
              refine lv_goto (tgt := 125) hx hb dX9_field_112 (by decide) ?_
              cases hf
              exact rt_i C dX9_field_125
          · replace hf := og_f c_10 hf
            refine lv_iconst (v := (1 : Int32)) hx hb dX9_field_102 (by decide) ?_
            refine lv_goto (tgt := 125) hx hb dX9_field_103 (by decide) ?_
            cases hf
            exact rt_i C dX9_field_125
        · replace hf := og_f c_9 hf
          by_cases c_13 : x0 = (5 : Int32)
          · replace hf := og_t c_13 hf
            refine lv_tableIn (tgt := 126) (off := 125) hx hb dX9_field_1 (by rw [c_13]; decide) (by rw [c_13]; decide) (by rw [c_13]; rfl) (by decide) ?_
            refine lv_iload_n hx hb dX9_field_126 rfl (lv_at hl 1 rfl) ?_
            refine lv_iconst (v := (3 : Int32)) hx hb dX9_field_127 (by decide) ?_
            refine lv_icmp_ge (tgt := 135) hx hb dX9_field_128 (by decide) (fun c_14 => ?_) (fun c_14 => ?_)
            · replace hf := og_t c_14 hf
              refine lv_iload_n hx hb dX9_field_135 rfl (lv_at hl 1 rfl) ?_
              refine lv_iconst (v := (5 : Int32)) hx hb dX9_field_136 (by decide) ?_
              refine lv_icmp_ge (tgt := 144) hx hb dX9_field_137 (by decide) (fun c_15 => ?_) (fun c_15 => ?_)
              · replace hf := og_t c_15 hf
                refine lv_iconst (v := (0 : Int32)) hx hb dX9_field_144 (by decide) ?_
                cases hf
                exact rt_i C dX9_field_145
              · replace hf := og_f c_15 hf
                refine lv_iconst (v := (2 : Int32)) hx hb dX9_field_140 (by decide) ?_
                refine lv_goto (tgt := 145) hx hb dX9_field_141 (by decide) ?_
                cases hf
                exact rt_i C dX9_field_145
            · replace hf := og_f c_14 hf
              refine lv_iconst (v := (1 : Int32)) hx hb dX9_field_131 (by decide) ?_
              refine lv_goto (tgt := 145) hx hb dX9_field_132 (by decide) ?_
              cases hf
              exact rt_i C dX9_field_145
          · replace hf := og_f c_13 hf
            by_cases c_16 : x0 = (6 : Int32)
            · replace hf := og_t c_16 hf
              refine lv_tableIn (tgt := 146) (off := 145) hx hb dX9_field_1 (by rw [c_16]; decide) (by rw [c_16]; decide) (by rw [c_16]; rfl) (by decide) ?_
              refine lv_iload_n hx hb dX9_field_146 rfl (lv_at hl 1 rfl) ?_
              refine lv_iconst (v := (2 : Int32)) hx hb dX9_field_147 (by decide) ?_
              refine lv_icmp_lt (tgt := 156) hx hb dX9_field_148 (by decide) (fun c_17 => ?_) (fun c_17 => ?_)
              · replace hf := og_t c_17 hf
                refine lv_iconst (v := (1 : Int32)) hx hb dX9_field_156 (by decide) ?_
                refine lv_goto (tgt := 170) hx hb dX9_field_157 (by decide) ?_
                cases hf
                exact rt_i C dX9_field_170
              · replace hf := og_f c_17 hf
                refine lv_iload_n hx hb dX9_field_151 rfl (lv_at hl 1 rfl) ?_
                refine lv_iconst (v := (3 : Int32)) hx hb dX9_field_152 (by decide) ?_
                refine lv_icmp_ne (tgt := 160) hx hb dX9_field_153 (by decide) (fun c_18 => ?_) (fun c_18 => ?_)
                · replace hf := og_f c_18 hf
                  refine lv_iload_n hx hb dX9_field_160 rfl (lv_at hl 1 rfl) ?_
                  refine lv_iconst (v := (2 : Int32)) hx hb dX9_field_161 (by decide) ?_
                  refine lv_icmp_ne (tgt := 169) hx hb dX9_field_162 (by decide) (fun c_19 => ?_) (fun c_19 => ?_)
                  · replace hf := og_f c_19 hf
                    refine lv_iconst (v := (0 : Int32)) hx hb dX9_field_169 (by decide) ?_
                    cases hf
                    exact rt_i C dX9_field_170
                  · replace hf := og_t c_19 hf
                    refine lv_iconst (v := (3 : Int32)) hx hb dX9_field_165 (by decide) ?_
                    refine lv_goto (tgt := 170) hx hb dX9_field_166 (by decide) ?_
                    cases hf
                    exact rt_i C dX9_field_170
                · replace hf := og_t c_18 hf
                  refine lv_iconst (v := (1 : Int32)) hx hb dX9_field_156 (by decide) ?_
                  refine lv_goto (tgt := 170) hx hb dX9_field_157 (by decide) ?_
                  cases hf
                  exact rt_i C dX9_field_170
            · replace hf := og_f c_16 hf
              by_cases c_20 : x0 = (7 : Int32)
              · replace hf := og_t c_20 hf
                refine lv_tableIn (tgt := 171) (off := 170) hx hb dX9_field_1 (by rw [c_20]; decide) (by rw [c_20]; decide) (by rw [c_20]; rfl) (by decide) ?_
                refine lv_iload_n hx hb dX9_field_171 rfl (lv_at hl 1 rfl) ?_
                refine lv_iconst (v := (4 : Int32)) hx hb dX9_field_172 (by decide) ?_
                refine lv_icmp_ge (tgt := 180) hx hb dX9_field_173 (by decide) (fun c_21 => ?_) (fun c_21 => ?_)
                · replace hf := og_t c_21 hf
                  refine lv_iconst (v := (0 : Int32)) hx hb dX9_field_180 (by decide) ?_
                  cases hf
                  exact rt_i C dX9_field_181
                · replace hf := og_f c_21 hf
                  refine lv_iconst (v := (1 : Int32)) hx hb dX9_field_176 (by decide) ?_
                  refine lv_goto (tgt := 181) hx hb dX9_field_177 (by decide) ?_
                  cases hf
                  exact rt_i C dX9_field_181
              · replace hf := og_f c_20 hf
                by_cases c_22 : x0 = (8 : Int32)
                · replace hf := og_t c_22 hf
                  refine lv_tableIn (tgt := 182) (off := 181) hx hb dX9_field_1 (by rw [c_22]; decide) (by rw [c_22]; decide) (by rw [c_22]; rfl) (by decide) ?_
                  refine lv_iload_n hx hb dX9_field_182 rfl (lv_at hl 1 rfl) ?_
                  refine lv_iconst (v := (2 : Int32)) hx hb dX9_field_183 (by decide) ?_
                  refine lv_icmp_ge (tgt := 191) hx hb dX9_field_184 (by decide) (fun c_23 => ?_) (fun c_23 => ?_)
                  · replace hf := og_t c_23 hf
                    refine lv_iconst (v := (0 : Int32)) hx hb dX9_field_191 (by decide) ?_
                    cases hf
                    exact rt_i C dX9_field_192
                  · replace hf := og_f c_23 hf
                    refine lv_iconst (v := (3 : Int32)) hx hb dX9_field_187 (by decide) ?_
                    refine lv_goto (tgt := 192) hx hb dX9_field_188 (by decide) ?_
                    cases hf
                    exact rt_i C dX9_field_192
                · replace hf := og_f c_22 hf
                  have nc_1 := lv_neT (a := 1) c_1 rfl
                  have nc_4 := lv_neT (a := 2) c_4 rfl
                  have nc_7 := lv_neT (a := 3) c_7 rfl
                  have nc_9 := lv_neT (a := 4) c_9 rfl
                  have nc_13 := lv_neT (a := 5) c_13 rfl
                  have nc_16 := lv_neT (a := 6) c_16 rfl
                  have nc_20 := lv_neT (a := 7) c_20 rfl
                  have nc_22 := lv_neT (a := 8) c_22 rfl
                  refine lv_tableOut (tgt := 193) hx hb dX9_field_1 (by omega) (by decide) ?_
                  refine lv_iconst (v := (0 : Int32)) hx hb dX9_field_193 (by decide) ?_
                  cases hf
                  exact rt_i C dX9_field_194
abbrev rm9_fieldsIn : Room := { frames := 1, cells := 0, slots := 0, locals := 21 }
noncomputable abbrev ws9_fieldsIn : List Cond := Cond.code yX9_fieldsIn cX9_fieldsIn 3 (some .int) :: WA9
theorem g9_fieldsIn {c0 : Cond} : GoodIn (c0 :: WA9) (va_wsS RX9 181 yX9_fieldsIn ws9_fieldsIn) := gd9_s m9_125 m9_126 m9_29 m9_33
theorem hd9_fieldsIn : yX9_fieldsIn.cls ≠ "java/lang/invoke/MethodHandle" ∧ yX9_fieldsIn.cls ≠ "java/lang/invoke/VarHandle" ∧ (parseMethodDescriptor yX9_fieldsIn.desc).map (fun d => d.parameters.length) = some 2 := by decide +kernel
def f9_fieldsIn_37 (x2 : Int32) : Option Int32 := (some (x2 - (1 : Int32)))
set_option maxHeartbeats 4000000 in
set_option maxRecDepth 100000 in
theorem w9_fieldsIn_37 {p : Program} {l : Launch} {e : Env} {s : State} {m : MethodId} {args : Array Value} {below : List Frame} {meth : Method} {c : Code} (C : Cx p s m args meth c cX9_fieldsIn 3 ws9_fieldsIn RX9 (some .int)) {r : Int32} : ∀ (x2 : Int32), f9_fieldsIn_37 x2 = some r → ∀ {ls : Array Slot}, lv_has ls 3 [(2, .int x2)] → W p l e rm9_fieldsIn s m args below meth c s.heap [] 0 0 (MQ below (k2_QcV (.int r)) args s 0 0 (fun _ => False)) (F0 m 37 ls []) := by
  have hx := C.1.1
  have hb := C.1.2.1
  have hts := C.1.2.2.2.2
  have hown := C.1.2.2.2.1
  intro x2 hf ls hl
  unfold f9_fieldsIn_37 at hf
  refine lv_iload_n hx hb dX9_fieldsIn_37 rfl (lv_at hl 0 rfl) ?_
  refine lv_iconst (v := (1 : Int32)) hx hb dX9_fieldsIn_38 (by decide) ?_
  refine lv_isub hx hb dX9_fieldsIn_39 ?_
  refine lv_goto (tgt := 44) hx hb dX9_fieldsIn_40 (by decide) ?_
  cases hf
  exact rt_i C dX9_fieldsIn_44
def f9_fieldsIn_26 (x0 : Int32) (x1 : Int32) (x2 : Int32) : Option Int32 := (if x0 = (6 : Int32) then (if (3 : Int32) ≤ x1 then (some x2) else (f9_fieldsIn_37 x2)) else (some x2))
set_option maxHeartbeats 4000000 in
set_option maxRecDepth 100000 in
theorem w9_fieldsIn_26 {p : Program} {l : Launch} {e : Env} {s : State} {m : MethodId} {args : Array Value} {below : List Frame} {meth : Method} {c : Code} (C : Cx p s m args meth c cX9_fieldsIn 3 ws9_fieldsIn RX9 (some .int)) {r : Int32} : ∀ (x0 : Int32) (x1 : Int32) (x2 : Int32), f9_fieldsIn_26 x0 x1 x2 = some r → ∀ {ls : Array Slot}, lv_has ls 3 [(0, .int x0), (1, .int x1), (2, .int x2)] → W p l e rm9_fieldsIn s m args below meth c s.heap [] 0 0 (MQ below (k2_QcV (.int r)) args s 0 0 (fun _ => False)) (F0 m 26 ls []) := by
  have hx := C.1.1
  have hb := C.1.2.1
  have hts := C.1.2.2.2.2
  have hown := C.1.2.2.2.1
  intro x0 x1 x2 hf ls hl
  unfold f9_fieldsIn_26 at hf
  refine lv_iload_n hx hb dX9_fieldsIn_26 rfl (lv_at hl 0 rfl) ?_
  refine lv_bipush (v := (6 : Int32)) hx hb dX9_fieldsIn_27 (by decide) ?_
  refine lv_icmp_ne (tgt := 43) hx hb dX9_fieldsIn_29 (by decide) (fun c_6 => ?_) (fun c_6 => ?_)
  · replace hf := og_f c_6 hf
    refine lv_iload_n hx hb dX9_fieldsIn_43 rfl (lv_at hl 2 rfl) ?_
    cases hf
    exact rt_i C dX9_fieldsIn_44
  · replace hf := og_t c_6 hf
    refine lv_iload_n hx hb dX9_fieldsIn_32 rfl (lv_at hl 1 rfl) ?_
    refine lv_iconst (v := (3 : Int32)) hx hb dX9_fieldsIn_33 (by decide) ?_
    refine lv_icmp_ge (tgt := 43) hx hb dX9_fieldsIn_34 (by decide) (fun c_7 => ?_) (fun c_7 => ?_)
    · replace hf := og_t c_7 hf
      refine lv_iload_n hx hb dX9_fieldsIn_43 rfl (lv_at hl 2 rfl) ?_
      cases hf
      exact rt_i C dX9_fieldsIn_44
    · replace hf := og_f c_7 hf
      exact w9_fieldsIn_37 C x2 hf (lv_sub hl [2] rfl)
def f9_fieldsIn_2 : Nat → Int32 → Int32 → Int32 → Option Int32
  | 0, _, _, _ => none
  | n + 1, x0, x1, x2 => ((f9_field x0 x2).bind fun r_2 => (if r_2 = 0 then (if x0 = (4 : Int32) then (if x1 < (2 : Int32) then (f9_fieldsIn_37 x2) else (f9_fieldsIn_26 x0 x1 x2)) else (f9_fieldsIn_26 x0 x1 x2)) else (f9_fieldsIn_2 n x0 x1 (x2 + (1 : Int32)))))
set_option maxHeartbeats 4000000 in
set_option maxRecDepth 100000 in
theorem w9_fieldsIn_2 {p : Program} {l : Launch} {e : Env} {s : State} {m : MethodId} {args : Array Value} {below : List Frame} {meth : Method} {c : Code} (C : Cx p s m args meth c cX9_fieldsIn 3 ws9_fieldsIn RX9 (some .int)) {r : Int32} : ∀ (n : Nat), ∀ (x0 : Int32) (x1 : Int32) (x2 : Int32), f9_fieldsIn_2 n x0 x1 x2 = some r → ∀ {ls : Array Slot}, lv_has ls 3 [(0, .int x0), (1, .int x1), (2, .int x2)] → W p l e rm9_fieldsIn s m args below meth c s.heap [] 0 0 (MQ below (k2_QcV (.int r)) args s 0 0 (fun _ => False)) (F0 m 2 ls []) := by
  have hx := C.1.1
  have hb := C.1.2.1
  have hts := C.1.2.2.2.2
  have hown := C.1.2.2.2.1
  intro n
  induction n with
  | zero =>
    intro x0 x1 x2 hf ls hl
    cases hf
  | succ n ih =>
    intro x0 x1 x2 hf ls hl
    rw [f9_fieldsIn_2] at hf
    refine lv_iload_n hx hb dX9_fieldsIn_2 rfl (lv_at hl 0 rfl) ?_
    refine lv_iload_n hx hb dX9_fieldsIn_3 rfl (lv_at hl 2 rfl) ?_
    obtain ⟨r_2, h_1, hf⟩ := og_b hf
    try dsimp only at hf
    refine ck_s (v := .int r_2) (rest := []) C.1 (c9_field l x0 x2 r_2 h_1) (va_cwS 2 hts g9_field rfl rfl rfl hd9_field ⟨Nat.le_of_ble_eq_true rfl, Nat.le_of_ble_eq_true rfl⟩) rfl hl.1 rfl (Nat.le_of_ble_eq_true rfl) ⟨Nat.zero_le _, Nat.zero_le _⟩ dX9_fieldsIn_4 ?_
    refine lv_if_eq (tgt := 16) hx hb dX9_fieldsIn_7 (by decide) (fun c_3 => ?_) (fun c_3 => ?_)
    · replace hf := og_t c_3 hf
      refine lv_iload_n hx hb dX9_fieldsIn_16 rfl (lv_at hl 0 rfl) ?_
      refine lv_iconst (v := (4 : Int32)) hx hb dX9_fieldsIn_17 (by decide) ?_
      refine lv_icmp_ne (tgt := 26) hx hb dX9_fieldsIn_18 (by decide) (fun c_4 => ?_) (fun c_4 => ?_)
      · replace hf := og_f c_4 hf
        exact w9_fieldsIn_26 C x0 x1 x2 hf (lv_sub hl [0, 1, 2] rfl)
      · replace hf := og_t c_4 hf
        refine lv_iload_n hx hb dX9_fieldsIn_21 rfl (lv_at hl 1 rfl) ?_
        refine lv_iconst (v := (2 : Int32)) hx hb dX9_fieldsIn_22 (by decide) ?_
        refine lv_icmp_lt (tgt := 37) hx hb dX9_fieldsIn_23 (by decide) (fun c_5 => ?_) (fun c_5 => ?_)
        · replace hf := og_t c_5 hf
          exact w9_fieldsIn_37 C x2 hf (lv_sub hl [2] rfl)
        · replace hf := og_f c_5 hf
          exact w9_fieldsIn_26 C x0 x1 x2 hf (lv_sub hl [0, 1, 2] rfl)
    · replace hf := og_f c_3 hf
      refine lv_iinc (v := (x2 + (1 : Int32))) (lv' := [(2, .int (x2 + (1 : Int32))), (0, .int x0), (1, .int x1)]) hx hb dX9_fieldsIn_10 hl (k := 2) rfl rfl (by decide) rfl (fun ls hl => ?_)
      refine lv_goto (tgt := 2) hx hb dX9_fieldsIn_13 (by decide) ?_
      exact ih x0 x1 (x2 + (1 : Int32)) hf (lv_sub hl [1, 2, 0] rfl)
def f9_fieldsIn (x0 : Int32) (x1 : Int32) : Option Int32 := (f9_fieldsIn_2 FU x0 x1 (0 : Int32))
set_option maxHeartbeats 4000000 in
set_option maxRecDepth 100000 in
theorem c9_fieldsIn (l : Launch) (x0 : Int32) (x1 : Int32) (r : Int32) (hf : f9_fieldsIn x0 x1 = some r) : Met l yX9_fieldsIn ws9_fieldsIn rm9_fieldsIn (va_Pc [.int x0, .int x1] (fun _ => True)) (k2_QcV (.int r)) 0 0 (fun _ => False) := by
  refine mt_s (cc := cX9_fieldsIn) (maxL := 3) (ret := (some .int)) (by decide) rfl (Nat.le_of_ble_eq_true rfl) ?_
  intro p e s m below meth c ls C hl
  have hl : lv_has ls 3 [(0, .int x0), (1, .int x1)] := hl
  have hx := C.1.1
  have hb := C.1.2.1
  have hts := C.1.2.2.2.2
  have hown := C.1.2.2.2.1
  unfold f9_fieldsIn at hf
  refine lv_iconst (v := (0 : Int32)) hx hb dX9_fieldsIn_0 (by decide) ?_
  refine lv_istore_n (lv' := [(2, .int (0 : Int32)), (0, .int x0), (1, .int x1)]) hx hb dX9_fieldsIn_1 rfl hl (by decide) rfl (fun ls hl => ?_)
  exact w9_fieldsIn_2 C FU x0 x1 (0 : Int32) hf (lv_sub hl [1, 2, 0] rfl)
abbrev rm9_canBe : Room := { frames := 0, cells := 0, slots := 0, locals := 0 }
noncomputable abbrev ws9_canBe : List Cond := Cond.code yX9_canBe cX9_canBe 2 (some .boolean) :: WA9
theorem g9_canBe {c0 : Cond} : GoodIn (c0 :: WA9) (va_wsS RX9 161 yX9_canBe ws9_canBe) := gd9_s m9_108 m9_109 m9_29 m9_36
theorem hd9_canBe : yX9_canBe.cls ≠ "java/lang/invoke/MethodHandle" ∧ yX9_canBe.cls ≠ "java/lang/invoke/VarHandle" ∧ (parseMethodDescriptor yX9_canBe.desc).map (fun d => d.parameters.length) = some 2 := by decide +kernel
def f9_canBe (x0 : Int32) (x1 : Int32) : Option Int32 := (if x0 = (1 : Int32) then (if x1 = 0 then (some (1 : Int32)) else (if x1 = (1 : Int32) then (some (1 : Int32)) else (some (0 : Int32)))) else (if x0 = (2 : Int32) then (if x1 = (1 : Int32) then (some (1 : Int32)) else (some (0 : Int32))) else (if x0 = (3 : Int32) then (if x1 = (2 : Int32) then (some (1 : Int32)) else (some (0 : Int32))) else (if x0 = (4 : Int32) then (if x1 = (3 : Int32) then (some (1 : Int32)) else (some (0 : Int32))) else (if x0 = (5 : Int32) then (if x1 = (3 : Int32) then (some (1 : Int32)) else (some (0 : Int32))) else (if x0 = (6 : Int32) then (if x1 = (3 : Int32) then (some (1 : Int32)) else (if x1 = (1 : Int32) then (some (1 : Int32)) else (some (0 : Int32)))) else (if x0 = (7 : Int32) then (if x1 = (1 : Int32) then (some (1 : Int32)) else (some (0 : Int32))) else (if x0 = (8 : Int32) then (if x1 = (1 : Int32) then (some (1 : Int32)) else (if x1 = (2 : Int32) then (some (1 : Int32)) else (some (0 : Int32)))) else (if x0 = (9 : Int32) then (if (4 : Int32) ≤ x1 then (some (0 : Int32)) else (some (1 : Int32))) else (some (0 : Int32)))))))))))
set_option maxHeartbeats 4000000 in
set_option maxRecDepth 100000 in
theorem c9_canBe (l : Launch) (x0 : Int32) (x1 : Int32) (r : Int32) (hf : f9_canBe x0 x1 = some r) : Met l yX9_canBe ws9_canBe rm9_canBe (va_Pc [.int x0, .int x1] (fun _ => True)) (k2_QcV (.int r)) 0 0 (fun _ => False) := by
  refine mt_s (cc := cX9_canBe) (maxL := 2) (ret := (some .boolean)) (by decide) rfl (Nat.le_of_ble_eq_true rfl) ?_
  intro p e s m below meth c ls C hl
  have hl : lv_has ls 2 [(0, .int x0), (1, .int x1)] := hl
  have hx := C.1.1
  have hb := C.1.2.1
  have hts := C.1.2.2.2.2
  have hown := C.1.2.2.2.1
  unfold f9_canBe at hf
  refine lv_iload_n hx hb dX9_canBe_0 rfl (lv_at hl 0 rfl) ?_
  by_cases c_1 : x0 = (1 : Int32)
  · replace hf := og_t c_1 hf
    refine lv_tableIn (tgt := 52) (off := 51) hx hb dX9_canBe_1 (by rw [c_1]; decide) (by rw [c_1]; decide) (by rw [c_1]; rfl) (by decide) ?_
    refine lv_iload_n hx hb dX9_canBe_52 rfl (lv_at hl 1 rfl) ?_
    refine lv_if_eq (tgt := 61) hx hb dX9_canBe_53 (by decide) (fun c_2 => ?_) (fun c_2 => ?_)
    · replace hf := og_t c_2 hf
      refine lv_iconst (v := (1 : Int32)) hx hb dX9_canBe_61 (by decide) ?_
      refine lv_goto (tgt := 66) hx hb dX9_canBe_62 (by decide) ?_
      cases hf
      exact rt_z C (nz_z (Or.inr rfl)) dX9_canBe_66
    · replace hf := og_f c_2 hf
      refine lv_iload_n hx hb dX9_canBe_56 rfl (lv_at hl 1 rfl) ?_
      refine lv_iconst (v := (1 : Int32)) hx hb dX9_canBe_57 (by decide) ?_
      refine lv_icmp_ne (tgt := 65) hx hb dX9_canBe_58 (by decide) (fun c_3 => ?_) (fun c_3 => ?_)
      · replace hf := og_f c_3 hf
        refine lv_iconst (v := (0 : Int32)) hx hb dX9_canBe_65 (by decide) ?_
        cases hf
        exact rt_z C (nz_z (Or.inl rfl)) dX9_canBe_66
      · replace hf := og_t c_3 hf
        refine lv_iconst (v := (1 : Int32)) hx hb dX9_canBe_61 (by decide) ?_
        refine lv_goto (tgt := 66) hx hb dX9_canBe_62 (by decide) ?_
        cases hf
        exact rt_z C (nz_z (Or.inr rfl)) dX9_canBe_66
  · replace hf := og_f c_1 hf
    by_cases c_4 : x0 = (2 : Int32)
    · replace hf := og_t c_4 hf
      refine lv_tableIn (tgt := 67) (off := 66) hx hb dX9_canBe_1 (by rw [c_4]; decide) (by rw [c_4]; decide) (by rw [c_4]; rfl) (by decide) ?_
      refine lv_iload_n hx hb dX9_canBe_67 rfl (lv_at hl 1 rfl) ?_
      refine lv_iconst (v := (1 : Int32)) hx hb dX9_canBe_68 (by decide) ?_
      refine lv_icmp_ne (tgt := 76) hx hb dX9_canBe_69 (by decide) (fun c_5 => ?_) (fun c_5 => ?_)
      · replace hf := og_f c_5 hf
        refine lv_iconst (v := (0 : Int32)) hx hb dX9_canBe_76 (by decide) ?_
        cases hf
        exact rt_z C (nz_z (Or.inl rfl)) dX9_canBe_77
      · replace hf := og_t c_5 hf
        refine lv_iconst (v := (1 : Int32)) hx hb dX9_canBe_72 (by decide) ?_
        refine lv_goto (tgt := 77) hx hb dX9_canBe_73 (by decide) ?_
        cases hf
        exact rt_z C (nz_z (Or.inr rfl)) dX9_canBe_77
    · replace hf := og_f c_4 hf
      by_cases c_6 : x0 = (3 : Int32)
      · replace hf := og_t c_6 hf
        refine lv_tableIn (tgt := 78) (off := 77) hx hb dX9_canBe_1 (by rw [c_6]; decide) (by rw [c_6]; decide) (by rw [c_6]; rfl) (by decide) ?_
        refine lv_iload_n hx hb dX9_canBe_78 rfl (lv_at hl 1 rfl) ?_
        refine lv_iconst (v := (2 : Int32)) hx hb dX9_canBe_79 (by decide) ?_
        refine lv_icmp_ne (tgt := 87) hx hb dX9_canBe_80 (by decide) (fun c_7 => ?_) (fun c_7 => ?_)
        · replace hf := og_f c_7 hf
          refine lv_iconst (v := (0 : Int32)) hx hb dX9_canBe_87 (by decide) ?_
          cases hf
          exact rt_z C (nz_z (Or.inl rfl)) dX9_canBe_88
        · replace hf := og_t c_7 hf
          refine lv_iconst (v := (1 : Int32)) hx hb dX9_canBe_83 (by decide) ?_
          refine lv_goto (tgt := 88) hx hb dX9_canBe_84 (by decide) ?_
          cases hf
          exact rt_z C (nz_z (Or.inr rfl)) dX9_canBe_88
      · replace hf := og_f c_6 hf
        by_cases c_8 : x0 = (4 : Int32)
        · replace hf := og_t c_8 hf
          refine lv_tableIn (tgt := 89) (off := 88) hx hb dX9_canBe_1 (by rw [c_8]; decide) (by rw [c_8]; decide) (by rw [c_8]; rfl) (by decide) ?_
          refine lv_iload_n hx hb dX9_canBe_89 rfl (lv_at hl 1 rfl) ?_
          refine lv_iconst (v := (3 : Int32)) hx hb dX9_canBe_90 (by decide) ?_
          refine lv_icmp_ne (tgt := 98) hx hb dX9_canBe_91 (by decide) (fun c_9 => ?_) (fun c_9 => ?_)
          · replace hf := og_f c_9 hf
            refine lv_iconst (v := (0 : Int32)) hx hb dX9_canBe_98 (by decide) ?_
            cases hf
            exact rt_z C (nz_z (Or.inl rfl)) dX9_canBe_99
          · replace hf := og_t c_9 hf
            refine lv_iconst (v := (1 : Int32)) hx hb dX9_canBe_94 (by decide) ?_
            refine lv_goto (tgt := 99) hx hb dX9_canBe_95 (by decide) ?_
            cases hf
            exact rt_z C (nz_z (Or.inr rfl)) dX9_canBe_99
        · replace hf := og_f c_8 hf
          by_cases c_10 : x0 = (5 : Int32)
          · replace hf := og_t c_10 hf
            refine lv_tableIn (tgt := 89) (off := 88) hx hb dX9_canBe_1 (by rw [c_10]; decide) (by rw [c_10]; decide) (by rw [c_10]; rfl) (by decide) ?_
            refine lv_iload_n hx hb dX9_canBe_89 rfl (lv_at hl 1 rfl) ?_
            refine lv_iconst (v := (3 : Int32)) hx hb dX9_canBe_90 (by decide) ?_
            refine lv_icmp_ne (tgt := 98) hx hb dX9_canBe_91 (by decide) (fun c_11 => ?_) (fun c_11 => ?_)
            · replace hf := og_f c_11 hf
              refine lv_iconst (v := (0 : Int32)) hx hb dX9_canBe_98 (by decide) ?_
              cases hf
              exact rt_z C (nz_z (Or.inl rfl)) dX9_canBe_99
            · replace hf := og_t c_11 hf
              refine lv_iconst (v := (1 : Int32)) hx hb dX9_canBe_94 (by decide) ?_
              refine lv_goto (tgt := 99) hx hb dX9_canBe_95 (by decide) ?_
              cases hf
              exact rt_z C (nz_z (Or.inr rfl)) dX9_canBe_99
          · replace hf := og_f c_10 hf
            by_cases c_12 : x0 = (6 : Int32)
            · replace hf := og_t c_12 hf
              refine lv_tableIn (tgt := 100) (off := 99) hx hb dX9_canBe_1 (by rw [c_12]; decide) (by rw [c_12]; decide) (by rw [c_12]; rfl) (by decide) ?_
              refine lv_iload_n hx hb dX9_canBe_100 rfl (lv_at hl 1 rfl) ?_
              refine lv_iconst (v := (3 : Int32)) hx hb dX9_canBe_101 (by decide) ?_
              refine lv_icmp_eq (tgt := 110) hx hb dX9_canBe_102 (by decide) (fun c_13 => ?_) (fun c_13 => ?_)
              · replace hf := og_t c_13 hf
                refine lv_iconst (v := (1 : Int32)) hx hb dX9_canBe_110 (by decide) ?_
                refine lv_goto (tgt := 115) hx hb dX9_canBe_111 (by decide) ?_
                cases hf
                exact rt_z C (nz_z (Or.inr rfl)) dX9_canBe_115
              · replace hf := og_f c_13 hf
                refine lv_iload_n hx hb dX9_canBe_105 rfl (lv_at hl 1 rfl) ?_
                refine lv_iconst (v := (1 : Int32)) hx hb dX9_canBe_106 (by decide) ?_
                refine lv_icmp_ne (tgt := 114) hx hb dX9_canBe_107 (by decide) (fun c_14 => ?_) (fun c_14 => ?_)
                · replace hf := og_f c_14 hf
                  refine lv_iconst (v := (0 : Int32)) hx hb dX9_canBe_114 (by decide) ?_
                  cases hf
                  exact rt_z C (nz_z (Or.inl rfl)) dX9_canBe_115
                · replace hf := og_t c_14 hf
                  refine lv_iconst (v := (1 : Int32)) hx hb dX9_canBe_110 (by decide) ?_
                  refine lv_goto (tgt := 115) hx hb dX9_canBe_111 (by decide) ?_
                  cases hf
                  exact rt_z C (nz_z (Or.inr rfl)) dX9_canBe_115
            · replace hf := og_f c_12 hf
              by_cases c_15 : x0 = (7 : Int32)
              · replace hf := og_t c_15 hf
                refine lv_tableIn (tgt := 67) (off := 66) hx hb dX9_canBe_1 (by rw [c_15]; decide) (by rw [c_15]; decide) (by rw [c_15]; rfl) (by decide) ?_
                refine lv_iload_n hx hb dX9_canBe_67 rfl (lv_at hl 1 rfl) ?_
                refine lv_iconst (v := (1 : Int32)) hx hb dX9_canBe_68 (by decide) ?_
                refine lv_icmp_ne (tgt := 76) hx hb dX9_canBe_69 (by decide) (fun c_16 => ?_) (fun c_16 => ?_)
                · replace hf := og_f c_16 hf
                  refine lv_iconst (v := (0 : Int32)) hx hb dX9_canBe_76 (by decide) ?_
                  cases hf
                  exact rt_z C (nz_z (Or.inl rfl)) dX9_canBe_77
                · replace hf := og_t c_16 hf
                  refine lv_iconst (v := (1 : Int32)) hx hb dX9_canBe_72 (by decide) ?_
                  refine lv_goto (tgt := 77) hx hb dX9_canBe_73 (by decide) ?_
                  cases hf
                  exact rt_z C (nz_z (Or.inr rfl)) dX9_canBe_77
              · replace hf := og_f c_15 hf
                by_cases c_17 : x0 = (8 : Int32)
                · replace hf := og_t c_17 hf
                  refine lv_tableIn (tgt := 116) (off := 115) hx hb dX9_canBe_1 (by rw [c_17]; decide) (by rw [c_17]; decide) (by rw [c_17]; rfl) (by decide) ?_
                  refine lv_iload_n hx hb dX9_canBe_116 rfl (lv_at hl 1 rfl) ?_
                  refine lv_iconst (v := (1 : Int32)) hx hb dX9_canBe_117 (by decide) ?_
                  refine lv_icmp_eq (tgt := 126) hx hb dX9_canBe_118 (by decide) (fun c_18 => ?_) (fun c_18 => ?_)
                  · replace hf := og_t c_18 hf
                    refine lv_iconst (v := (1 : Int32)) hx hb dX9_canBe_126 (by decide) ?_
                    refine lv_goto (tgt := 131) hx hb dX9_canBe_127 (by decide) ?_
                    cases hf
                    exact rt_z C (nz_z (Or.inr rfl)) dX9_canBe_131
                  · replace hf := og_f c_18 hf
                    refine lv_iload_n hx hb dX9_canBe_121 rfl (lv_at hl 1 rfl) ?_
                    refine lv_iconst (v := (2 : Int32)) hx hb dX9_canBe_122 (by decide) ?_
                    refine lv_icmp_ne (tgt := 130) hx hb dX9_canBe_123 (by decide) (fun c_19 => ?_) (fun c_19 => ?_)
                    · replace hf := og_f c_19 hf
                      refine lv_iconst (v := (0 : Int32)) hx hb dX9_canBe_130 (by decide) ?_
                      cases hf
                      exact rt_z C (nz_z (Or.inl rfl)) dX9_canBe_131
                    · replace hf := og_t c_19 hf
                      refine lv_iconst (v := (1 : Int32)) hx hb dX9_canBe_126 (by decide) ?_
                      refine lv_goto (tgt := 131) hx hb dX9_canBe_127 (by decide) ?_
                      cases hf
                      exact rt_z C (nz_z (Or.inr rfl)) dX9_canBe_131
                · replace hf := og_f c_17 hf
                  by_cases c_20 : x0 = (9 : Int32)
                  · replace hf := og_t c_20 hf
                    refine lv_tableIn (tgt := 132) (off := 131) hx hb dX9_canBe_1 (by rw [c_20]; decide) (by rw [c_20]; decide) (by rw [c_20]; rfl) (by decide) ?_
                    refine lv_iload_n hx hb dX9_canBe_132 rfl (lv_at hl 1 rfl) ?_
                    refine lv_iconst (v := (4 : Int32)) hx hb dX9_canBe_133 (by decide) ?_
                    refine lv_icmp_ge (tgt := 141) hx hb dX9_canBe_134 (by decide) (fun c_21 => ?_) (fun c_21 => ?_)
                    · replace hf := og_t c_21 hf
                      refine lv_iconst (v := (0 : Int32)) hx hb dX9_canBe_141 (by decide) ?_
                      cases hf
                      exact rt_z C (nz_z (Or.inl rfl)) dX9_canBe_142
                    · replace hf := og_f c_21 hf
                      refine lv_iconst (v := (1 : Int32)) hx hb dX9_canBe_137 (by decide) ?_
                      refine lv_goto (tgt := 142) hx hb dX9_canBe_138 (by decide) ?_
                      cases hf
                      exact rt_z C (nz_z (Or.inr rfl)) dX9_canBe_142
                  · replace hf := og_f c_20 hf
                    have nc_1 := lv_neT (a := 1) c_1 rfl
                    have nc_4 := lv_neT (a := 2) c_4 rfl
                    have nc_6 := lv_neT (a := 3) c_6 rfl
                    have nc_8 := lv_neT (a := 4) c_8 rfl
                    have nc_10 := lv_neT (a := 5) c_10 rfl
                    have nc_12 := lv_neT (a := 6) c_12 rfl
                    have nc_15 := lv_neT (a := 7) c_15 rfl
                    have nc_17 := lv_neT (a := 8) c_17 rfl
                    have nc_20 := lv_neT (a := 9) c_20 rfl
                    refine lv_tableOut (tgt := 143) hx hb dX9_canBe_1 (by omega) (by decide) ?_
                    refine lv_iconst (v := (0 : Int32)) hx hb dX9_canBe_143 (by decide) ?_
                    cases hf
                    exact rt_z C (nz_z (Or.inl rfl)) dX9_canBe_144
abbrev rm9_least : Room := { frames := 1, cells := 0, slots := 0, locals := 21 }
noncomputable abbrev ws9_least : List Cond := Cond.code yX9_least cX9_least 2 (some .long) :: WA9
theorem g9_least {c0 : Cond} : GoodIn (c0 :: WA9) (va_wsS RX9 131 yX9_least ws9_least) := gd9_s m9_85 m9_86 m9_29 m9_37
theorem hd9_least : yX9_least.cls ≠ "java/lang/invoke/MethodHandle" ∧ yX9_least.cls ≠ "java/lang/invoke/VarHandle" ∧ (parseMethodDescriptor yX9_least.desc).map (fun d => d.parameters.length) = some 2 := by decide +kernel
def f9_least (x0 : Int32) (x1 : Int32) : Option Int64 := ((f9_field x0 x1).bind fun r_2 => (if r_2 = (1 : Int32) then (some (-1000000000 : Int64)) else (if x0 = (3 : Int32) then (some (1 : Int64)) else (if x0 = (5 : Int32) then (some (-360 : Int64)) else (some (0 : Int64))))))
set_option maxHeartbeats 4000000 in
set_option maxRecDepth 100000 in
theorem c9_least (l : Launch) (x0 : Int32) (x1 : Int32) (r : Int64) (hf : f9_least x0 x1 = some r) : Met l yX9_least ws9_least rm9_least (va_Pc [.int x0, .int x1] (fun _ => True)) (k2_QcV (.long r)) 0 0 (fun _ => False) := by
  refine mt_s (cc := cX9_least) (maxL := 2) (ret := (some .long)) (by decide) rfl (Nat.le_of_ble_eq_true rfl) ?_
  intro p e s m below meth c ls C hl
  have hl : lv_has ls 2 [(0, .int x0), (1, .int x1)] := hl
  have hx := C.1.1
  have hb := C.1.2.1
  have hts := C.1.2.2.2.2
  have hown := C.1.2.2.2.1
  unfold f9_least at hf
  refine lv_iload_n hx hb dX9_least_0 rfl (lv_at hl 0 rfl) ?_
  refine lv_iload_n hx hb dX9_least_1 rfl (lv_at hl 1 rfl) ?_
  obtain ⟨r_2, h_1, hf⟩ := og_b hf
  try dsimp only at hf
  refine ck_s (v := .int r_2) (rest := []) C.1 (c9_field l x0 x1 r_2 h_1) (va_cwS 2 hts g9_field rfl rfl rfl hd9_field ⟨Nat.le_of_ble_eq_true rfl, Nat.le_of_ble_eq_true rfl⟩) rfl hl.1 rfl (Nat.le_of_ble_eq_true rfl) ⟨Nat.zero_le _, Nat.zero_le _⟩ dX9_least_2 ?_
  refine lv_iconst (v := (1 : Int32)) hx hb dX9_least_5 (by decide) ?_
  refine lv_icmp_ne (tgt := 13) hx hb dX9_least_6 (by decide) (fun c_3 => ?_) (fun c_3 => ?_)
  · replace hf := og_f c_3 hf
    refine lv_iload_n hx hb dX9_least_13 rfl (lv_at hl 0 rfl) ?_
    refine lv_iconst (v := (3 : Int32)) hx hb dX9_least_14 (by decide) ?_
    refine lv_icmp_ne (tgt := 22) hx hb dX9_least_15 (by decide) (fun c_4 => ?_) (fun c_4 => ?_)
    · replace hf := og_f c_4 hf
      refine lv_iload_n hx hb dX9_least_22 rfl (lv_at hl 0 rfl) ?_
      refine lv_iconst (v := (5 : Int32)) hx hb dX9_least_23 (by decide) ?_
      refine lv_icmp_ne (tgt := 33) hx hb dX9_least_24 (by decide) (fun c_5 => ?_) (fun c_5 => ?_)
      · replace hf := og_f c_5 hf
        refine lv_lconst (v := (0 : Int64)) hx hb dX9_least_33 (by decide) ?_
        cases hf
        exact rt_l C dX9_least_34
      · replace hf := og_t c_5 hf
        refine lv_ldc2 (v := (-360 : Int64)) hx hb hown (hts (Cond.constantLong RX9 74 (-360)) (List.mem_cons_of_mem _ m9_39)) dX9_least_27 ?_
        refine lv_goto (tgt := 34) hx hb dX9_least_30 (by decide) ?_
        cases hf
        exact rt_l C dX9_least_34
    · replace hf := og_t c_4 hf
      refine lv_lconst (v := (1 : Int64)) hx hb dX9_least_18 (by decide) ?_
      refine lv_goto (tgt := 34) hx hb dX9_least_19 (by decide) ?_
      cases hf
      exact rt_l C dX9_least_34
  · replace hf := og_t c_3 hf
    refine lv_ldc2 (v := (-1000000000 : Int64)) hx hb hown (hts (Cond.constantLong RX9 72 (-1000000000)) (List.mem_cons_of_mem _ m9_38)) dX9_least_9 ?_
    cases hf
    exact rt_l C dX9_least_12
abbrev rm9_most : Room := { frames := 1, cells := 0, slots := 0, locals := 21 }
noncomputable abbrev ws9_most : List Cond := Cond.code yX9_most cX9_most 2 (some .long) :: WA9
theorem g9_most {c0 : Cond} : GoodIn (c0 :: WA9) (va_wsS RX9 134 yX9_most ws9_most) := gd9_s m9_87 m9_88 m9_29 m9_40
theorem hd9_most : yX9_most.cls ≠ "java/lang/invoke/MethodHandle" ∧ yX9_most.cls ≠ "java/lang/invoke/VarHandle" ∧ (parseMethodDescriptor yX9_most.desc).map (fun d => d.parameters.length) = some 2 := by decide +kernel
def f9_most (x0 : Int32) (x1 : Int32) : Option Int64 := ((f9_field x0 x1).bind fun r_2 => (if r_2 = (1 : Int32) then (some (1000000000 : Int64)) else (if x0 = (4 : Int32) then (some (9 : Int64)) else (if x0 = (5 : Int32) then (some (360 : Int64)) else (some (9999 : Int64))))))
set_option maxHeartbeats 4000000 in
set_option maxRecDepth 100000 in
theorem c9_most (l : Launch) (x0 : Int32) (x1 : Int32) (r : Int64) (hf : f9_most x0 x1 = some r) : Met l yX9_most ws9_most rm9_most (va_Pc [.int x0, .int x1] (fun _ => True)) (k2_QcV (.long r)) 0 0 (fun _ => False) := by
  refine mt_s (cc := cX9_most) (maxL := 2) (ret := (some .long)) (by decide) rfl (Nat.le_of_ble_eq_true rfl) ?_
  intro p e s m below meth c ls C hl
  have hl : lv_has ls 2 [(0, .int x0), (1, .int x1)] := hl
  have hx := C.1.1
  have hb := C.1.2.1
  have hts := C.1.2.2.2.2
  have hown := C.1.2.2.2.1
  unfold f9_most at hf
  refine lv_iload_n hx hb dX9_most_0 rfl (lv_at hl 0 rfl) ?_
  refine lv_iload_n hx hb dX9_most_1 rfl (lv_at hl 1 rfl) ?_
  obtain ⟨r_2, h_1, hf⟩ := og_b hf
  try dsimp only at hf
  refine ck_s (v := .int r_2) (rest := []) C.1 (c9_field l x0 x1 r_2 h_1) (va_cwS 2 hts g9_field rfl rfl rfl hd9_field ⟨Nat.le_of_ble_eq_true rfl, Nat.le_of_ble_eq_true rfl⟩) rfl hl.1 rfl (Nat.le_of_ble_eq_true rfl) ⟨Nat.zero_le _, Nat.zero_le _⟩ dX9_most_2 ?_
  refine lv_iconst (v := (1 : Int32)) hx hb dX9_most_5 (by decide) ?_
  refine lv_icmp_ne (tgt := 13) hx hb dX9_most_6 (by decide) (fun c_3 => ?_) (fun c_3 => ?_)
  · replace hf := og_f c_3 hf
    refine lv_iload_n hx hb dX9_most_13 rfl (lv_at hl 0 rfl) ?_
    refine lv_iconst (v := (4 : Int32)) hx hb dX9_most_14 (by decide) ?_
    refine lv_icmp_ne (tgt := 24) hx hb dX9_most_15 (by decide) (fun c_4 => ?_) (fun c_4 => ?_)
    · replace hf := og_f c_4 hf
      refine lv_iload_n hx hb dX9_most_24 rfl (lv_at hl 0 rfl) ?_
      refine lv_iconst (v := (5 : Int32)) hx hb dX9_most_25 (by decide) ?_
      refine lv_icmp_ne (tgt := 35) hx hb dX9_most_26 (by decide) (fun c_5 => ?_) (fun c_5 => ?_)
      · replace hf := og_f c_5 hf
        refine lv_ldc2 (v := (9999 : Int64)) hx hb hown (hts (Cond.constantLong RX9 82 (9999)) (List.mem_cons_of_mem _ m9_44)) dX9_most_35 ?_
        cases hf
        exact rt_l C dX9_most_38
      · replace hf := og_t c_5 hf
        refine lv_ldc2 (v := (360 : Int64)) hx hb hown (hts (Cond.constantLong RX9 80 (360)) (List.mem_cons_of_mem _ m9_43)) dX9_most_29 ?_
        refine lv_goto (tgt := 38) hx hb dX9_most_32 (by decide) ?_
        cases hf
        exact rt_l C dX9_most_38
    · replace hf := og_t c_4 hf
      refine lv_ldc2 (v := (9 : Int64)) hx hb hown (hts (Cond.constantLong RX9 78 (9)) (List.mem_cons_of_mem _ m9_42)) dX9_most_18 ?_
      refine lv_goto (tgt := 38) hx hb dX9_most_21 (by decide) ?_
      cases hf
      exact rt_l C dX9_most_38
  · replace hf := og_t c_3 hf
    refine lv_ldc2 (v := (1000000000 : Int64)) hx hb hown (hts (Cond.constantLong RX9 76 (1000000000)) (List.mem_cons_of_mem _ m9_41)) dX9_most_9 ?_
    cases hf
    exact rt_l C dX9_most_12
abbrev rm9_fieldOf : Room := { frames := 1, cells := 0, slots := 0, locals := 21 }
noncomputable abbrev ws9_fieldOf : List Cond := Cond.code yX9_fieldOf cX9_fieldOf 5 (some .int) :: WA9
theorem g9_fieldOf {c0 : Cond} : GoodIn (c0 :: WA9) (va_wsS RX9 253 yX9_fieldOf ws9_fieldOf) := gd9_s m9_196 m9_197 m9_29 m9_45
theorem hd9_fieldOf : yX9_fieldOf.cls ≠ "java/lang/invoke/MethodHandle" ∧ yX9_fieldOf.cls ≠ "java/lang/invoke/VarHandle" ∧ (parseMethodDescriptor yX9_fieldOf.desc).map (fun d => d.parameters.length) = some 3 := by decide +kernel
def f9_fieldOf_50 (k5 : Int32 → Int32 → Int32 → Int32 → Int32 → Option Int32) (x0 : Int32) (x1 : Int32) (x2 : Int32) (x3 : Int32) (x4 : Int32) : Option Int32 := (k5 x0 x1 x2 x3 (x4 + (1 : Int32)))
set_option maxHeartbeats 4000000 in
set_option maxRecDepth 100000 in
theorem w9_fieldOf_50 {p : Program} {l : Launch} {e : Env} {s : State} {m : MethodId} {args : Array Value} {below : List Frame} {meth : Method} {c : Code} (C : Cx p s m args meth c cX9_fieldOf 5 ws9_fieldOf RX9 (some .int)) {r : Int32} (k5 : Int32 → Int32 → Int32 → Int32 → Int32 → Option Int32) (ih5 : ∀ (x0 : Int32) (x1 : Int32) (x2 : Int32) (x3 : Int32) (x4 : Int32), k5 x0 x1 x2 x3 x4 = some r → ∀ {ls : Array Slot}, lv_has ls 5 [(0, .int x0), (1, .int x1), (2, .int x2), (3, .int x3), (4, .int x4)] → W p l e rm9_fieldOf s m args below meth c s.heap [] 0 0 (MQ below (k2_QcV (.int r)) args s 0 0 (fun _ => False)) (F0 m 5 ls [])) : ∀ (x0 : Int32) (x1 : Int32) (x2 : Int32) (x3 : Int32) (x4 : Int32), f9_fieldOf_50 k5 x0 x1 x2 x3 x4 = some r → ∀ {ls : Array Slot}, lv_has ls 5 [(0, .int x0), (1, .int x1), (2, .int x2), (3, .int x3), (4, .int x4)] → W p l e rm9_fieldOf s m args below meth c s.heap [] 0 0 (MQ below (k2_QcV (.int r)) args s 0 0 (fun _ => False)) (F0 m 50 ls []) := by
  have hx := C.1.1
  have hb := C.1.2.1
  have hts := C.1.2.2.2.2
  have hown := C.1.2.2.2.1
  intro x0 x1 x2 x3 x4 hf ls hl
  unfold f9_fieldOf_50 at hf
  refine lv_iinc (v := (x4 + (1 : Int32))) (lv' := [(4, .int (x4 + (1 : Int32))), (0, .int x0), (1, .int x1), (2, .int x2), (3, .int x3)]) hx hb dX9_fieldOf_50 hl (k := 4) rfl rfl (by decide) rfl (fun ls hl => ?_)
  refine lv_goto (tgt := 5) hx hb dX9_fieldOf_53 (by decide) ?_
  exact ih5 x0 x1 x2 x3 (x4 + (1 : Int32)) hf (lv_sub hl [1, 2, 3, 4, 0] rfl)
def f9_fieldOf_33 (k5 : Int32 → Int32 → Int32 → Int32 → Int32 → Option Int32) (x0 : Int32) (x1 : Int32) (x2 : Int32) (x3 : Int32) (x4 : Int32) (y0 : Int32) : Option Int32 := (if y0 = x2 then (if x3 = 0 then (some x4) else (f9_fieldOf_50 k5 x0 x1 x2 (x3 + (-1 : Int32)) x4)) else (f9_fieldOf_50 k5 x0 x1 x2 x3 x4))
set_option maxHeartbeats 4000000 in
set_option maxRecDepth 100000 in
theorem w9_fieldOf_33 {p : Program} {l : Launch} {e : Env} {s : State} {m : MethodId} {args : Array Value} {below : List Frame} {meth : Method} {c : Code} (C : Cx p s m args meth c cX9_fieldOf 5 ws9_fieldOf RX9 (some .int)) {r : Int32} (k5 : Int32 → Int32 → Int32 → Int32 → Int32 → Option Int32) (ih5 : ∀ (x0 : Int32) (x1 : Int32) (x2 : Int32) (x3 : Int32) (x4 : Int32), k5 x0 x1 x2 x3 x4 = some r → ∀ {ls : Array Slot}, lv_has ls 5 [(0, .int x0), (1, .int x1), (2, .int x2), (3, .int x3), (4, .int x4)] → W p l e rm9_fieldOf s m args below meth c s.heap [] 0 0 (MQ below (k2_QcV (.int r)) args s 0 0 (fun _ => False)) (F0 m 5 ls [])) : ∀ (x0 : Int32) (x1 : Int32) (x2 : Int32) (x3 : Int32) (x4 : Int32) (y0 : Int32), f9_fieldOf_33 k5 x0 x1 x2 x3 x4 y0 = some r → ∀ {ls : Array Slot}, lv_has ls 5 [(0, .int x0), (1, .int x1), (2, .int x2), (3, .int x3), (4, .int x4)] → W p l e rm9_fieldOf s m args below meth c s.heap [] 0 0 (MQ below (k2_QcV (.int r)) args s 0 0 (fun _ => False)) (F0 m 33 ls [.int y0]) := by
  have hx := C.1.1
  have hb := C.1.2.1
  have hts := C.1.2.2.2.2
  have hown := C.1.2.2.2.1
  intro x0 x1 x2 x3 x4 y0 hf ls hl
  unfold f9_fieldOf_33 at hf
  refine lv_iload_n hx hb dX9_fieldOf_33 rfl (lv_at hl 2 rfl) ?_
  refine lv_icmp_eq (tgt := 40) hx hb dX9_fieldOf_34 (by decide) (fun c_8 => ?_) (fun c_8 => ?_)
  · replace hf := og_t c_8 hf
    refine lv_iload_n hx hb dX9_fieldOf_40 rfl (lv_at hl 3 rfl) ?_
    refine lv_if_ne (tgt := 47) hx hb dX9_fieldOf_41 (by decide) (fun c_9 => ?_) (fun c_9 => ?_)
    · replace hf := og_f c_9 hf
      refine lv_iinc (v := (x3 + (-1 : Int32))) (lv' := [(3, .int (x3 + (-1 : Int32))), (0, .int x0), (1, .int x1), (2, .int x2), (4, .int x4)]) hx hb dX9_fieldOf_47 hl (k := 3) rfl rfl (by decide) rfl (fun ls hl => ?_)
      exact w9_fieldOf_50 C k5 (fun _ _ _ _ _ h9 => ih5 _ _ _ _ _ h9) x0 x1 x2 (x3 + (-1 : Int32)) x4 hf (lv_sub hl [1, 2, 3, 0, 4] rfl)
    · replace hf := og_t c_9 hf
      refine lv_iload hx hb dX9_fieldOf_44 (lv_at hl 4 rfl) ?_
      cases hf
      exact rt_i C dX9_fieldOf_46
  · replace hf := og_f c_8 hf
    refine lv_goto (tgt := 50) hx hb dX9_fieldOf_37 (by decide) ?_
    exact w9_fieldOf_50 C k5 (fun _ _ _ _ _ h9 => ih5 _ _ _ _ _ h9) x0 x1 x2 x3 x4 hf (lv_sub hl [0, 1, 2, 3, 4] rfl)
def f9_fieldOf_5 : Nat → Int32 → Int32 → Int32 → Int32 → Int32 → Option Int32
  | 0, _, _, _, _, _ => none
  | n + 1, x0, x1, x2, x3, x4 => ((f9_field x0 x4).bind fun r_2 => (if r_2 = 0 then (some (-1 : Int32)) else (if x1 < 0 then (some (-1 : Int32)) else ((f9_field x0 x4).bind fun r_6 => (if r_6 = (3 : Int32) then (f9_fieldOf_33 (f9_fieldOf_5 n) x0 x1 x2 x3 x4 (1 : Int32)) else (f9_fieldOf_33 (f9_fieldOf_5 n) x0 x1 x2 x3 x4 (0 : Int32)))))))
set_option maxHeartbeats 4000000 in
set_option maxRecDepth 100000 in
theorem w9_fieldOf_5 {p : Program} {l : Launch} {e : Env} {s : State} {m : MethodId} {args : Array Value} {below : List Frame} {meth : Method} {c : Code} (C : Cx p s m args meth c cX9_fieldOf 5 ws9_fieldOf RX9 (some .int)) {r : Int32} : ∀ (n : Nat), ∀ (x0 : Int32) (x1 : Int32) (x2 : Int32) (x3 : Int32) (x4 : Int32), f9_fieldOf_5 n x0 x1 x2 x3 x4 = some r → ∀ {ls : Array Slot}, lv_has ls 5 [(0, .int x0), (1, .int x1), (2, .int x2), (3, .int x3), (4, .int x4)] → W p l e rm9_fieldOf s m args below meth c s.heap [] 0 0 (MQ below (k2_QcV (.int r)) args s 0 0 (fun _ => False)) (F0 m 5 ls []) := by
  have hx := C.1.1
  have hb := C.1.2.1
  have hts := C.1.2.2.2.2
  have hown := C.1.2.2.2.1
  intro n
  induction n with
  | zero =>
    intro x0 x1 x2 x3 x4 hf ls hl
    cases hf
  | succ n ih =>
    intro x0 x1 x2 x3 x4 hf ls hl
    rw [f9_fieldOf_5] at hf
    refine lv_iload_n hx hb dX9_fieldOf_5 rfl (lv_at hl 0 rfl) ?_
    refine lv_iload hx hb dX9_fieldOf_6 (lv_at hl 4 rfl) ?_
    obtain ⟨r_2, h_1, hf⟩ := og_b hf
    try dsimp only at hf
    refine ck_s (v := .int r_2) (rest := []) C.1 (c9_field l x0 x4 r_2 h_1) (va_cwS 2 hts g9_field rfl rfl rfl hd9_field ⟨Nat.le_of_ble_eq_true rfl, Nat.le_of_ble_eq_true rfl⟩) rfl hl.1 rfl (Nat.le_of_ble_eq_true rfl) ⟨Nat.zero_le _, Nat.zero_le _⟩ dX9_fieldOf_8 ?_
    refine lv_if_eq (tgt := 56) hx hb dX9_fieldOf_11 (by decide) (fun c_3 => ?_) (fun c_3 => ?_)
    · replace hf := og_t c_3 hf
      refine lv_iconst (v := (-1 : Int32)) hx hb dX9_fieldOf_56 (by decide) ?_
      cases hf
      exact rt_i C dX9_fieldOf_57
    · replace hf := og_f c_3 hf
      refine lv_iload_n hx hb dX9_fieldOf_14 rfl (lv_at hl 1 rfl) ?_
      refine lv_if_lt (tgt := 56) hx hb dX9_fieldOf_15 (by decide) (fun c_4 => ?_) (fun c_4 => ?_)
      · replace hf := og_t c_4 hf
        refine lv_iconst (v := (-1 : Int32)) hx hb dX9_fieldOf_56 (by decide) ?_
        cases hf
        exact rt_i C dX9_fieldOf_57
      · replace hf := og_f c_4 hf
        refine lv_iload_n hx hb dX9_fieldOf_18 rfl (lv_at hl 0 rfl) ?_
        refine lv_iload hx hb dX9_fieldOf_19 (lv_at hl 4 rfl) ?_
        obtain ⟨r_6, h_5, hf⟩ := og_b hf
        try dsimp only at hf
        refine ck_s (v := .int r_6) (rest := []) C.1 (c9_field l x0 x4 r_6 h_5) (va_cwS 2 hts g9_field rfl rfl rfl hd9_field ⟨Nat.le_of_ble_eq_true rfl, Nat.le_of_ble_eq_true rfl⟩) rfl hl.1 rfl (Nat.le_of_ble_eq_true rfl) ⟨Nat.zero_le _, Nat.zero_le _⟩ dX9_fieldOf_21 ?_
        refine lv_iconst (v := (3 : Int32)) hx hb dX9_fieldOf_24 (by decide) ?_
        refine lv_icmp_ne (tgt := 32) hx hb dX9_fieldOf_25 (by decide) (fun c_7 => ?_) (fun c_7 => ?_)
        · replace hf := og_f c_7 hf
          refine lv_iconst (v := (0 : Int32)) hx hb dX9_fieldOf_32 (by decide) ?_
          exact w9_fieldOf_33 C (f9_fieldOf_5 n) (fun _ _ _ _ _ h9 => ih _ _ _ _ _ h9) x0 x1 x2 x3 x4 (0 : Int32) hf (lv_sub hl [0, 1, 2, 3, 4] rfl)
        · replace hf := og_t c_7 hf
          refine lv_iconst (v := (1 : Int32)) hx hb dX9_fieldOf_28 (by decide) ?_
          refine lv_goto (tgt := 33) hx hb dX9_fieldOf_29 (by decide) ?_
          exact w9_fieldOf_33 C (f9_fieldOf_5 n) (fun _ _ _ _ _ h9 => ih _ _ _ _ _ h9) x0 x1 x2 x3 x4 (1 : Int32) hf (lv_sub hl [0, 1, 2, 3, 4] rfl)
def f9_fieldOf (x0 : Int32) (x1 : Int32) (x2 : Int32) : Option Int32 := (f9_fieldOf_5 FU x0 x1 x2 x1 (0 : Int32))
set_option maxHeartbeats 4000000 in
set_option maxRecDepth 100000 in
theorem c9_fieldOf (l : Launch) (x0 : Int32) (x1 : Int32) (x2 : Int32) (r : Int32) (hf : f9_fieldOf x0 x1 x2 = some r) : Met l yX9_fieldOf ws9_fieldOf rm9_fieldOf (va_Pc [.int x0, .int x1, .int x2] (fun _ => True)) (k2_QcV (.int r)) 0 0 (fun _ => False) := by
  refine mt_s (cc := cX9_fieldOf) (maxL := 5) (ret := (some .int)) (by decide) rfl (Nat.le_of_ble_eq_true rfl) ?_
  intro p e s m below meth c ls C hl
  have hl : lv_has ls 5 [(0, .int x0), (1, .int x1), (2, .int x2)] := hl
  have hx := C.1.1
  have hb := C.1.2.1
  have hts := C.1.2.2.2.2
  have hown := C.1.2.2.2.1
  unfold f9_fieldOf at hf
  refine lv_iload_n hx hb dX9_fieldOf_0 rfl (lv_at hl 1 rfl) ?_
  refine lv_istore_n (lv' := [(3, .int x1), (0, .int x0), (1, .int x1), (2, .int x2)]) hx hb dX9_fieldOf_1 rfl hl (by decide) rfl (fun ls hl => ?_)
  refine lv_iconst (v := (0 : Int32)) hx hb dX9_fieldOf_2 (by decide) ?_
  refine lv_istore (lv' := [(4, .int (0 : Int32)), (3, .int x1), (0, .int x0), (1, .int x1), (2, .int x2)]) hx hb dX9_fieldOf_3 hl (by decide) rfl (fun ls hl => ?_)
  exact w9_fieldOf_5 C FU x0 x1 x2 x1 (0 : Int32) hf (lv_sub hl [2, 3, 4, 1, 0] rfl)
abbrev rm9_c : Room := { frames := 0, cells := 0, slots := 0, locals := 0 }
noncomputable abbrev ws9_c : List Cond := Cond.code yX9_c cX9_c 2 (some .int) :: WA9
theorem g9_c {c0 : Cond} : GoodIn (c0 :: WA9) (wsV RX9 87 RX9 yX9_c ws9_c) := gd9_v m9_53 m9_54 m9_55 m9_29 m9_46
theorem hd9_c : yX9_c.cls = RX9 ∧ yX9_c.cls ≠ "java/lang/invoke/MethodHandle" ∧ yX9_c.cls ≠ "java/lang/invoke/VarHandle" ∧ (parseMethodDescriptor yX9_c.desc).map (fun d => d.parameters.length) = some 1 := by decide +kernel
def f9_c (u : Md) (x1 : Int32) : Option Int32 := (if (gi u 3) ≤ x1 then (some (-1 : Int32)) else (if x1 < 0 ∨ 4000 ≤ (x1).toNatClampNeg then none else (some ((ga u 2) (x1).toNatClampNeg))))
set_option maxHeartbeats 4000000 in
set_option maxRecDepth 100000 in
theorem c9_c (l : Launch) (D : va_G) (cI cJ cC : ClassId) (a : Nat → Nat) (u : Md) (x1 : Int32) (r : Int32) (sz : Nat) (hf : f9_c u x1 = some r) : Met l yX9_c ws9_c rm9_c (pW D (ty3 cI cJ cC) (cM cI cJ a u) sz [.ref (a 0), .int x1]) (k2_QcV (.int r)) 0 0 (fun _ => False) := by
  refine mt_r (cc := cX9_c) (maxL := 2) (ret := (some .int)) (by decide) rfl (Nat.le_of_ble_eq_true rfl) ?_
  intro p e s m below meth c ls C hl hK hP hD
  have hl : lv_has ls 2 [(0, .ref (a 0)), (1, .int x1)] := hl
  have hx := C.1.1
  have hb := C.1.2.1
  have hts := C.1.2.2.2.2
  have hown := C.1.2.2.2.1
  have hin : ∀ w ∈ wsX90, w ∈ ws9_c := fun w h => List.mem_cons_of_mem _ (List.mem_append_right _ h)
  unfold f9_c at hf
  refine lv_iload_n hx hb dX9_c_0 rfl (lv_at hl 1 rfl) ?_
  refine lv_aload_n hx hb dX9_c_1 rfl (lv_at hl 0 rfl) ?_
  refine mg9 (v := .int (gi u 3)) C hin hK hP 3 (by decide) (hts (Cond.fieldLink RX9 59 "SchematicTextModel" "size" "I") (List.mem_cons_of_mem _ m9_24)) rfl dX9_c_2 ?_
  refine lv_icmp_ge (tgt := 17) hx hb dX9_c_5 (by decide) (fun c_1 => ?_) (fun c_1 => ?_)
  · replace hf := og_t c_1 hf
    refine lv_iconst (v := (-1 : Int32)) hx hb dX9_c_17 (by decide) ?_
    cases hf
    exact rt_i C dX9_c_18
  · replace hf := og_f c_1 hf
    refine lv_aload_n hx hb dX9_c_8 rfl (lv_at hl 0 rfl) ?_
    refine mg9 (v := .ref (a 2)) C hin hK hP 2 (by decide) (hts (Cond.fieldLink RX9 7 "SchematicTextModel" "text" "[I") (List.mem_cons_of_mem _ m9_5)) rfl dX9_c_9 ?_
    refine lv_iload_n hx hb dX9_c_12 rfl (lv_at hl 1 rfl) ?_
    obtain ⟨h_2, hf⟩ := og_n hf
    refine va_iald (f := (ga u 2)) hx hb hK hP 1 0 rfl rfl h_2 dX9_c_13 ?_
    refine lv_goto (tgt := 18) hx hb dX9_c_14 (by decide) ?_
    cases hf
    exact rt_i C dX9_c_18
abbrev rm9_fail : Room := { frames := 0, cells := 0, slots := 0, locals := 0 }
noncomputable abbrev ws9_fail : List Cond := Cond.code yX9_fail cX9_fail 2 none :: WA9
theorem g9_fail {c0 : Cond} : GoodIn (c0 :: WA9) (wsV RX9 98 RX9 yX9_fail ws9_fail) := gd9_v m9_61 m9_62 m9_63 m9_29 m9_47
theorem hd9_fail : yX9_fail.cls = RX9 ∧ yX9_fail.cls ≠ "java/lang/invoke/MethodHandle" ∧ yX9_fail.cls ≠ "java/lang/invoke/VarHandle" ∧ (parseMethodDescriptor yX9_fail.desc).map (fun d => d.parameters.length) = some 1 := by decide +kernel
def f9_fail (u : Md) (x1 : Int32) : Option Md := (if (gi u 18) = (-1 : Int32) then (some (si u 18 x1)) else (some u))
set_option maxHeartbeats 4000000 in
set_option maxRecDepth 100000 in
theorem c9_fail (l : Launch) (D : va_G) (cI cJ cC : ClassId) (a : Nat → Nat) (u : Md) (x1 : Int32) (v : Md) (sz : Nat) (hf : f9_fail u x1 = some v) : Met l yX9_fail ws9_fail rm9_fail (pW D (ty3 cI cJ cC) (cM cI cJ a u) sz [.ref (a 0), .int x1]) (qW none (cM cI cJ a v) D (ty3 cI cJ cC) (va_A (cM cI cJ a u) sz)) 0 0 (va_A (cM cI cJ a u) sz) := by
  refine mt_w (cc := cX9_fail) (maxL := 2) (ret := none) (by decide) rfl (Nat.le_of_ble_eq_true rfl) ?_
  intro p e s m below meth c ls A C hl hK hA hP hD hS
  have hl : lv_has ls 2 [(0, .ref (a 0)), (1, .int x1)] := hl
  have hx := C.1.1
  have hb := C.1.2.1
  have hts := C.1.2.2.2.2
  have hown := C.1.2.2.2.1
  have hin : ∀ w ∈ wsX90, w ∈ ws9_fail := fun w h => List.mem_cons_of_mem _ (List.mem_append_right _ h)
  unfold f9_fail at hf
  refine lv_aload_n hx hb dX9_fail_0 rfl (lv_at hl 0 rfl) ?_
  refine mg9 (v := .int (gi u 18)) C hin hK hP 18 (by decide) (hts (Cond.fieldLink RX9 84 "SchematicTextModel" "fault" "I") (List.mem_cons_of_mem _ m9_48)) rfl dX9_fail_1 ?_
  refine lv_iconst (v := (-1 : Int32)) hx hb dX9_fail_4 (by decide) ?_
  refine lv_icmp_ne (tgt := 13) hx hb dX9_fail_5 (by decide) (fun c_1 => ?_) (fun c_1 => ?_)
  · replace hf := og_f c_1 hf
    cases hf
    exact rw_v C hK hP hD hS dX9_fail_13
  · replace hf := og_t c_1 hf
    refine lv_aload_n hx hb dX9_fail_8 rfl (lv_at hl 0 rfl) ?_
    refine lv_iload_n hx hb dX9_fail_9 rfl (lv_at hl 1 rfl) ?_
    refine mp9_18 C hin hK hP hD hS (hts (Cond.fieldLink RX9 84 "SchematicTextModel" "fault" "I") (List.mem_cons_of_mem _ m9_48)) dX9_fail_10 (fun H locs hP hD hS => ?_)
    cases hf
    exact rw_v C hK hP hD hS dX9_fail_13
abbrev rm9_isBlank : Room := { frames := 0, cells := 0, slots := 0, locals := 0 }
noncomputable abbrev ws9_isBlank : List Cond := Cond.code yX9_isBlank cX9_isBlank 1 (some .boolean) :: WA9
theorem g9_isBlank {c0 : Cond} : GoodIn (c0 :: WA9) (va_wsS RX9 91 yX9_isBlank ws9_isBlank) := gd9_s m9_56 m9_57 m9_29 m9_49
theorem hd9_isBlank : yX9_isBlank.cls ≠ "java/lang/invoke/MethodHandle" ∧ yX9_isBlank.cls ≠ "java/lang/invoke/VarHandle" ∧ (parseMethodDescriptor yX9_isBlank.desc).map (fun d => d.parameters.length) = some 1 := by decide +kernel
def f9_isBlank (x0 : Int32) : Option Int32 := (if x0 = (32 : Int32) then (some (1 : Int32)) else (if x0 = (10 : Int32) then (some (1 : Int32)) else (some (0 : Int32))))
set_option maxHeartbeats 4000000 in
set_option maxRecDepth 100000 in
theorem c9_isBlank (l : Launch) (x0 : Int32) (r : Int32) (hf : f9_isBlank x0 = some r) : Met l yX9_isBlank ws9_isBlank rm9_isBlank (va_Pc [.int x0] (fun _ => True)) (k2_QcV (.int r)) 0 0 (fun _ => False) := by
  refine mt_s (cc := cX9_isBlank) (maxL := 1) (ret := (some .boolean)) (by decide) rfl (Nat.le_of_ble_eq_true rfl) ?_
  intro p e s m below meth c ls C hl
  have hl : lv_has ls 1 [(0, .int x0)] := hl
  have hx := C.1.1
  have hb := C.1.2.1
  have hts := C.1.2.2.2.2
  have hown := C.1.2.2.2.1
  unfold f9_isBlank at hf
  refine lv_iload_n hx hb dX9_isBlank_0 rfl (lv_at hl 0 rfl) ?_
  refine lv_bipush (v := (32 : Int32)) hx hb dX9_isBlank_1 (by decide) ?_
  refine lv_icmp_eq (tgt := 12) hx hb dX9_isBlank_3 (by decide) (fun c_1 => ?_) (fun c_1 => ?_)
  · replace hf := og_t c_1 hf
    refine lv_iconst (v := (1 : Int32)) hx hb dX9_isBlank_12 (by decide) ?_
    refine lv_goto (tgt := 17) hx hb dX9_isBlank_13 (by decide) ?_
    cases hf
    exact rt_z C (nz_z (Or.inr rfl)) dX9_isBlank_17
  · replace hf := og_f c_1 hf
    refine lv_iload_n hx hb dX9_isBlank_6 rfl (lv_at hl 0 rfl) ?_
    refine lv_bipush (v := (10 : Int32)) hx hb dX9_isBlank_7 (by decide) ?_
    refine lv_icmp_ne (tgt := 16) hx hb dX9_isBlank_9 (by decide) (fun c_2 => ?_) (fun c_2 => ?_)
    · replace hf := og_f c_2 hf
      refine lv_iconst (v := (0 : Int32)) hx hb dX9_isBlank_16 (by decide) ?_
      cases hf
      exact rt_z C (nz_z (Or.inl rfl)) dX9_isBlank_17
    · replace hf := og_t c_2 hf
      refine lv_iconst (v := (1 : Int32)) hx hb dX9_isBlank_12 (by decide) ?_
      refine lv_goto (tgt := 17) hx hb dX9_isBlank_13 (by decide) ?_
      cases hf
      exact rt_z C (nz_z (Or.inr rfl)) dX9_isBlank_17
abbrev rm9_isDigit : Room := { frames := 0, cells := 0, slots := 0, locals := 0 }
noncomputable abbrev ws9_isDigit : List Cond := Cond.code yX9_isDigit cX9_isDigit 1 (some .boolean) :: WA9
theorem g9_isDigit {c0 : Cond} : GoodIn (c0 :: WA9) (va_wsS RX9 95 yX9_isDigit ws9_isDigit) := gd9_s m9_59 m9_60 m9_29 m9_50
theorem hd9_isDigit : yX9_isDigit.cls ≠ "java/lang/invoke/MethodHandle" ∧ yX9_isDigit.cls ≠ "java/lang/invoke/VarHandle" ∧ (parseMethodDescriptor yX9_isDigit.desc).map (fun d => d.parameters.length) = some 1 := by decide +kernel
def f9_isDigit (x0 : Int32) : Option Int32 := (if x0 < (48 : Int32) then (some (0 : Int32)) else (if (57 : Int32) < x0 then (some (0 : Int32)) else (some (1 : Int32))))
set_option maxHeartbeats 4000000 in
set_option maxRecDepth 100000 in
theorem c9_isDigit (l : Launch) (x0 : Int32) (r : Int32) (hf : f9_isDigit x0 = some r) : Met l yX9_isDigit ws9_isDigit rm9_isDigit (va_Pc [.int x0] (fun _ => True)) (k2_QcV (.int r)) 0 0 (fun _ => False) := by
  refine mt_s (cc := cX9_isDigit) (maxL := 1) (ret := (some .boolean)) (by decide) rfl (Nat.le_of_ble_eq_true rfl) ?_
  intro p e s m below meth c ls C hl
  have hl : lv_has ls 1 [(0, .int x0)] := hl
  have hx := C.1.1
  have hb := C.1.2.1
  have hts := C.1.2.2.2.2
  have hown := C.1.2.2.2.1
  unfold f9_isDigit at hf
  refine lv_iload_n hx hb dX9_isDigit_0 rfl (lv_at hl 0 rfl) ?_
  refine lv_bipush (v := (48 : Int32)) hx hb dX9_isDigit_1 (by decide) ?_
  refine lv_icmp_lt (tgt := 16) hx hb dX9_isDigit_3 (by decide) (fun c_1 => ?_) (fun c_1 => ?_)
  · replace hf := og_t c_1 hf
    refine lv_iconst (v := (0 : Int32)) hx hb dX9_isDigit_16 (by decide) ?_
    cases hf
    exact rt_z C (nz_z (Or.inl rfl)) dX9_isDigit_17
  · replace hf := og_f c_1 hf
    refine lv_iload_n hx hb dX9_isDigit_6 rfl (lv_at hl 0 rfl) ?_
    refine lv_bipush (v := (57 : Int32)) hx hb dX9_isDigit_7 (by decide) ?_
    refine lv_icmp_gt (tgt := 16) hx hb dX9_isDigit_9 (by decide) (fun c_2 => ?_) (fun c_2 => ?_)
    · replace hf := og_t c_2 hf
      refine lv_iconst (v := (0 : Int32)) hx hb dX9_isDigit_16 (by decide) ?_
      cases hf
      exact rt_z C (nz_z (Or.inl rfl)) dX9_isDigit_17
    · replace hf := og_f c_2 hf
      refine lv_iconst (v := (1 : Int32)) hx hb dX9_isDigit_12 (by decide) ?_
      refine lv_goto (tgt := 17) hx hb dX9_isDigit_13 (by decide) ?_
      cases hf
      exact rt_z C (nz_z (Or.inr rfl)) dX9_isDigit_17
abbrev rm9_isSmall : Room := { frames := 0, cells := 0, slots := 0, locals := 0 }
noncomputable abbrev ws9_isSmall : List Cond := Cond.code yX9_isSmall cX9_isSmall 1 (some .boolean) :: WA9
theorem g9_isSmall {c0 : Cond} : GoodIn (c0 :: WA9) (va_wsS RX9 146 yX9_isSmall ws9_isSmall) := gd9_s m9_95 m9_96 m9_29 m9_51
theorem hd9_isSmall : yX9_isSmall.cls ≠ "java/lang/invoke/MethodHandle" ∧ yX9_isSmall.cls ≠ "java/lang/invoke/VarHandle" ∧ (parseMethodDescriptor yX9_isSmall.desc).map (fun d => d.parameters.length) = some 1 := by decide +kernel
def f9_isSmall (x0 : Int32) : Option Int32 := (if x0 < (97 : Int32) then (some (0 : Int32)) else (if (122 : Int32) < x0 then (some (0 : Int32)) else (some (1 : Int32))))
set_option maxHeartbeats 4000000 in
set_option maxRecDepth 100000 in
theorem c9_isSmall (l : Launch) (x0 : Int32) (r : Int32) (hf : f9_isSmall x0 = some r) : Met l yX9_isSmall ws9_isSmall rm9_isSmall (va_Pc [.int x0] (fun _ => True)) (k2_QcV (.int r)) 0 0 (fun _ => False) := by
  refine mt_s (cc := cX9_isSmall) (maxL := 1) (ret := (some .boolean)) (by decide) rfl (Nat.le_of_ble_eq_true rfl) ?_
  intro p e s m below meth c ls C hl
  have hl : lv_has ls 1 [(0, .int x0)] := hl
  have hx := C.1.1
  have hb := C.1.2.1
  have hts := C.1.2.2.2.2
  have hown := C.1.2.2.2.1
  unfold f9_isSmall at hf
  refine lv_iload_n hx hb dX9_isSmall_0 rfl (lv_at hl 0 rfl) ?_
  refine lv_bipush (v := (97 : Int32)) hx hb dX9_isSmall_1 (by decide) ?_
  refine lv_icmp_lt (tgt := 16) hx hb dX9_isSmall_3 (by decide) (fun c_1 => ?_) (fun c_1 => ?_)
  · replace hf := og_t c_1 hf
    refine lv_iconst (v := (0 : Int32)) hx hb dX9_isSmall_16 (by decide) ?_
    cases hf
    exact rt_z C (nz_z (Or.inl rfl)) dX9_isSmall_17
  · replace hf := og_f c_1 hf
    refine lv_iload_n hx hb dX9_isSmall_6 rfl (lv_at hl 0 rfl) ?_
    refine lv_bipush (v := (122 : Int32)) hx hb dX9_isSmall_7 (by decide) ?_
    refine lv_icmp_gt (tgt := 16) hx hb dX9_isSmall_9 (by decide) (fun c_2 => ?_) (fun c_2 => ?_)
    · replace hf := og_t c_2 hf
      refine lv_iconst (v := (0 : Int32)) hx hb dX9_isSmall_16 (by decide) ?_
      cases hf
      exact rt_z C (nz_z (Or.inl rfl)) dX9_isSmall_17
    · replace hf := og_f c_2 hf
      refine lv_iconst (v := (1 : Int32)) hx hb dX9_isSmall_12 (by decide) ?_
      refine lv_goto (tgt := 17) hx hb dX9_isSmall_13 (by decide) ?_
      cases hf
      exact rt_z C (nz_z (Or.inr rfl)) dX9_isSmall_17
abbrev rm9_blanks : Room := { frames := 1, cells := 0, slots := 0, locals := 21 }
noncomputable abbrev ws9_blanks : List Cond := Cond.code yX9_blanks cX9_blanks 3 (some .int) :: WA9
theorem g9_blanks {c0 : Cond} : GoodIn (c0 :: WA9) (wsV RX9 192 RX9 yX9_blanks ws9_blanks) := gd9_v m9_131 m9_132 m9_133 m9_29 m9_52
theorem hd9_blanks : yX9_blanks.cls = RX9 ∧ yX9_blanks.cls ≠ "java/lang/invoke/MethodHandle" ∧ yX9_blanks.cls ≠ "java/lang/invoke/VarHandle" ∧ (parseMethodDescriptor yX9_blanks.desc).map (fun d => d.parameters.length) = some 1 := by decide +kernel
def f9_blanks_2 (u : Md) : Nat → Int32 → Option Int32
  | 0, _ => none
  | n + 1, x2 => ((f9_c u x2).bind fun r_2 => ((f9_isBlank r_2).bind fun r_4 => (if r_4 = 0 then (some x2) else (f9_blanks_2 u n (x2 + (1 : Int32))))))
set_option maxHeartbeats 4000000 in
set_option maxRecDepth 100000 in
theorem w9_blanks_2 {p : Program} {l : Launch} {e : Env} {s : State} {m : MethodId} {args : Array Value} {below : List Frame} {meth : Method} {c : Code} (C : Cx p s m args meth c cX9_blanks 3 ws9_blanks RX9 (some .int)) {D : va_G} {cI cJ cC : ClassId} {a : Nat → Nat} {u : Md} (hK : va_K D vwCl (ty3 cI cJ cC) s) (hP : va_P D vwCl (cM cI cJ a u) s.heap) (hD : va_D (fun _ => True) (cM cI cJ a u)) {r : Int32} : ∀ (n : Nat), ∀ (x2 : Int32), f9_blanks_2 u n x2 = some r → ∀ {ls : Array Slot}, lv_has ls 3 [(0, .ref (a 0)), (2, .int x2)] → W p l e rm9_blanks s m args below meth c s.heap [] 0 0 (MQ below (k2_QcV (.int r)) args s 0 0 (fun _ => False)) (F0 m 2 ls []) := by
  have hx := C.1.1
  have hb := C.1.2.1
  have hts := C.1.2.2.2.2
  have hown := C.1.2.2.2.1
  have hin : ∀ w ∈ wsX90, w ∈ ws9_blanks := fun w h => List.mem_cons_of_mem _ (List.mem_append_right _ h)
  intro n
  induction n with
  | zero =>
    intro x2 hf ls hl
    cases hf
  | succ n ih =>
    intro x2 hf ls hl
    rw [f9_blanks_2] at hf
    refine lv_aload_n hx hb dX9_blanks_2 rfl (lv_at hl 0 rfl) ?_
    refine lv_iload_n hx hb dX9_blanks_3 rfl (lv_at hl 1 rfl) ?_
    obtain ⟨r_2, h_1, hf⟩ := og_b hf
    try dsimp only at hf
    refine ck_r (v := .int r_2) (rest := []) C.1 (c9_c l D cI cJ cC a u x2 r_2 _ h_1) (cwV 1 hts g9_c rfl rfl rfl hd9_c ⟨Nat.le_of_ble_eq_true rfl, Nat.le_of_ble_eq_true rfl⟩) hK hP hD (q0 := 0) (ci := 6) rfl rfl rfl rfl hl.1 rfl (Nat.le_of_ble_eq_true rfl) ⟨Nat.zero_le _, Nat.zero_le _⟩ dX9_blanks_4 ?_
    obtain ⟨r_4, h_3, hf⟩ := og_b hf
    try dsimp only at hf
    refine ck_s (v := .int r_4) (rest := []) C.1 (c9_isBlank l r_2 r_4 h_3) (va_cwS 1 hts g9_isBlank rfl rfl rfl hd9_isBlank ⟨Nat.le_of_ble_eq_true rfl, Nat.le_of_ble_eq_true rfl⟩) rfl hl.1 rfl (Nat.le_of_ble_eq_true rfl) ⟨Nat.zero_le _, Nat.zero_le _⟩ dX9_blanks_7 ?_
    refine lv_if_eq (tgt := 19) hx hb dX9_blanks_10 (by decide) (fun c_5 => ?_) (fun c_5 => ?_)
    · replace hf := og_t c_5 hf
      refine lv_iload_n hx hb dX9_blanks_19 rfl (lv_at hl 1 rfl) ?_
      cases hf
      exact rt_i C dX9_blanks_20
    · replace hf := og_f c_5 hf
      refine lv_iinc (v := (x2 + (1 : Int32))) (lv' := [(2, .int (x2 + (1 : Int32))), (0, .ref (a 0))]) hx hb dX9_blanks_13 hl (k := 1) rfl rfl (by decide) rfl (fun ls hl => ?_)
      refine lv_goto (tgt := 2) hx hb dX9_blanks_16 (by decide) ?_
      exact ih (x2 + (1 : Int32)) hf (lv_sub hl [1, 0] rfl)
def f9_blanks (u : Md) (x1 : Int32) : Option Int32 := (f9_blanks_2 u FU x1)
set_option maxHeartbeats 4000000 in
set_option maxRecDepth 100000 in
theorem c9_blanks (l : Launch) (D : va_G) (cI cJ cC : ClassId) (a : Nat → Nat) (u : Md) (x1 : Int32) (r : Int32) (sz : Nat) (hf : f9_blanks u x1 = some r) : Met l yX9_blanks ws9_blanks rm9_blanks (pW D (ty3 cI cJ cC) (cM cI cJ a u) sz [.ref (a 0), .int x1]) (k2_QcV (.int r)) 0 0 (fun _ => False) := by
  refine mt_r (cc := cX9_blanks) (maxL := 3) (ret := (some .int)) (by decide) rfl (Nat.le_of_ble_eq_true rfl) ?_
  intro p e s m below meth c ls C hl hK hP hD
  have hl : lv_has ls 3 [(0, .ref (a 0)), (1, .int x1)] := hl
  have hx := C.1.1
  have hb := C.1.2.1
  have hts := C.1.2.2.2.2
  have hown := C.1.2.2.2.1
  have hin : ∀ w ∈ wsX90, w ∈ ws9_blanks := fun w h => List.mem_cons_of_mem _ (List.mem_append_right _ h)
  unfold f9_blanks at hf
  refine lv_iload_n hx hb dX9_blanks_0 rfl (lv_at hl 1 rfl) ?_
  refine lv_istore_n (lv' := [(2, .int x1), (0, .ref (a 0)), (1, .int x1)]) hx hb dX9_blanks_1 rfl hl (by decide) rfl (fun ls hl => ?_)
  exact w9_blanks_2 C hK hP hD FU x1 hf (lv_sub hl [1, 0] rfl)
abbrev rm9_digits : Room := { frames := 1, cells := 0, slots := 0, locals := 21 }
noncomputable abbrev ws9_digits : List Cond := Cond.code yX9_digits cX9_digits 4 (some .int) :: WA9
theorem g9_digits {c0 : Cond} : GoodIn (c0 :: WA9) (wsV RX9 106 RX9 yX9_digits ws9_digits) := gd9_v m9_70 m9_71 m9_72 m9_29 m9_58
theorem hd9_digits : yX9_digits.cls = RX9 ∧ yX9_digits.cls ≠ "java/lang/invoke/MethodHandle" ∧ yX9_digits.cls ≠ "java/lang/invoke/VarHandle" ∧ (parseMethodDescriptor yX9_digits.desc).map (fun d => d.parameters.length) = some 2 := by decide +kernel
def f9_digits_42 (u : Md) (x3 : Int32) : Option (Int32 × Md) := ((f9_fail u x3).bind fun u_14 => (some (x3, u_14)))
set_option maxHeartbeats 4000000 in
set_option maxRecDepth 100000 in
theorem w9_digits_42 {p : Program} {l : Launch} {e : Env} {s : State} {m : MethodId} {args : Array Value} {below : List Frame} {meth : Method} {c : Code} (C : Cx p s m args meth c cX9_digits 4 ws9_digits RX9 (some .int)) {D : va_G} {cI cJ cC : ClassId} {a : Nat → Nat} {A : Nat → Prop} (hK : va_K D vwCl (ty3 cI cJ cC) s) (hA : ∀ q : Nat, s.heap.size ≤ q → A q) {r : (Int32 × Md)} : ∀ (u : Md) (x3 : Int32), f9_digits_42 u x3 = some r → ∀ {H : Heap} {locs : List Loc}, va_P D vwCl (cM cI cJ a u) H → va_D A (cM cI cJ a u) → va_S A s.heap H locs → ∀ {ls : Array Slot}, lv_has ls 4 [(0, .ref (a 0)), (3, .int x3)] → W p l e rm9_digits s m args below meth c H locs 0 0 (MQ below (qW (some (.int r.1)) (cM cI cJ a r.2) D (ty3 cI cJ cC) A) args s 0 0 A) (F0 m 42 ls []) := by
  have hx := C.1.1
  have hb := C.1.2.1
  have hts := C.1.2.2.2.2
  have hown := C.1.2.2.2.1
  have hin : ∀ w ∈ wsX90, w ∈ ws9_digits := fun w h => List.mem_cons_of_mem _ (List.mem_append_right _ h)
  intro u x3 hf H locs hP hD hS ls hl
  unfold f9_digits_42 at hf
  refine lv_aload_n hx hb dX9_digits_42 rfl (lv_at hl 0 rfl) ?_
  refine lv_iload_n hx hb dX9_digits_43 rfl (lv_at hl 1 rfl) ?_
  obtain ⟨u_14, h_13, hf⟩ := og_b hf
  try dsimp only at hf
  refine ck_w (ov := none) (st1 := []) (rest := []) C.1 (c9_fail l D cI cJ cC a u x3 u_14  _ h_13) (cwV 1 hts g9_fail rfl rfl rfl hd9_fail ⟨Nat.le_of_ble_eq_true rfl, Nat.le_of_ble_eq_true rfl⟩) hK hA hP hD hS (q0 := 0) (ci := 6) rfl rfl rfl rfl hl.1 rfl rfl (Nat.le_of_ble_eq_true rfl) ⟨Nat.zero_le _, Nat.zero_le _⟩ dX9_digits_44 (fun H locs hP hD hS => ?_)
  refine lv_iload_n hx hb dX9_digits_47 rfl (lv_at hl 1 rfl) ?_
  cases hf
  exact rw_i C hK hP hD hS dX9_digits_48
def f9_digits_26 (u : Md) (x1 : Int32) (x3 : Int32) : Option (Int32 × Md) := (if x3 = x1 then (f9_digits_42 u x3) else ((f9_c u x3).bind fun r_9 => ((f9_isDigit r_9).bind fun r_11 => (if r_11 = 0 then (some (x3, u)) else (f9_digits_42 u x3)))))
set_option maxHeartbeats 4000000 in
set_option maxRecDepth 100000 in
theorem w9_digits_26 {p : Program} {l : Launch} {e : Env} {s : State} {m : MethodId} {args : Array Value} {below : List Frame} {meth : Method} {c : Code} (C : Cx p s m args meth c cX9_digits 4 ws9_digits RX9 (some .int)) {D : va_G} {cI cJ cC : ClassId} {a : Nat → Nat} {A : Nat → Prop} (hK : va_K D vwCl (ty3 cI cJ cC) s) (hA : ∀ q : Nat, s.heap.size ≤ q → A q) {r : (Int32 × Md)} : ∀ (u : Md) (x1 : Int32) (x3 : Int32), f9_digits_26 u x1 x3 = some r → ∀ {H : Heap} {locs : List Loc}, va_P D vwCl (cM cI cJ a u) H → va_D A (cM cI cJ a u) → va_S A s.heap H locs → ∀ {ls : Array Slot}, lv_has ls 4 [(0, .ref (a 0)), (1, .int x1), (3, .int x3)] → W p l e rm9_digits s m args below meth c H locs 0 0 (MQ below (qW (some (.int r.1)) (cM cI cJ a r.2) D (ty3 cI cJ cC) A) args s 0 0 A) (F0 m 26 ls []) := by
  have hx := C.1.1
  have hb := C.1.2.1
  have hts := C.1.2.2.2.2
  have hown := C.1.2.2.2.1
  have hin : ∀ w ∈ wsX90, w ∈ ws9_digits := fun w h => List.mem_cons_of_mem _ (List.mem_append_right _ h)
  intro u x1 x3 hf H locs hP hD hS ls hl
  unfold f9_digits_26 at hf
  refine lv_iload_n hx hb dX9_digits_26 rfl (lv_at hl 2 rfl) ?_
  refine lv_iload_n hx hb dX9_digits_27 rfl (lv_at hl 1 rfl) ?_
  refine lv_icmp_eq (tgt := 42) hx hb dX9_digits_28 (by decide) (fun c_7 => ?_) (fun c_7 => ?_)
  · replace hf := og_t c_7 hf
    exact w9_digits_42 C hK hA u x3 hf hP hD hS (lv_sub hl [0, 2] rfl)
  · replace hf := og_f c_7 hf
    refine lv_aload_n hx hb dX9_digits_31 rfl (lv_at hl 0 rfl) ?_
    refine lv_iload_n hx hb dX9_digits_32 rfl (lv_at hl 2 rfl) ?_
    obtain ⟨r_9, h_8, hf⟩ := og_b hf
    try dsimp only at hf
    refine ck_r (v := .int r_9) (rest := []) C.1 (c9_c l D cI cJ cC a u x3 r_9 _ h_8) (cwV 1 hts g9_c rfl rfl rfl hd9_c ⟨Nat.le_of_ble_eq_true rfl, Nat.le_of_ble_eq_true rfl⟩) hK hP hD (q0 := 0) (ci := 6) rfl rfl rfl rfl hl.1 rfl (Nat.le_of_ble_eq_true rfl) ⟨Nat.zero_le _, Nat.zero_le _⟩ dX9_digits_33 ?_
    obtain ⟨r_11, h_10, hf⟩ := og_b hf
    try dsimp only at hf
    refine ck_s (v := .int r_11) (rest := []) C.1 (c9_isDigit l r_9 r_11 h_10) (va_cwS 1 hts g9_isDigit rfl rfl rfl hd9_isDigit ⟨Nat.le_of_ble_eq_true rfl, Nat.le_of_ble_eq_true rfl⟩) rfl hl.1 rfl (Nat.le_of_ble_eq_true rfl) ⟨Nat.zero_le _, Nat.zero_le _⟩ dX9_digits_36 ?_
    refine lv_if_eq (tgt := 47) hx hb dX9_digits_39 (by decide) (fun c_12 => ?_) (fun c_12 => ?_)
    · replace hf := og_t c_12 hf
      refine lv_iload_n hx hb dX9_digits_47 rfl (lv_at hl 2 rfl) ?_
      cases hf
      exact rw_i C hK hP hD hS dX9_digits_48
    · replace hf := og_f c_12 hf
      exact w9_digits_42 C hK hA u x3 hf hP hD hS (lv_sub hl [0, 2] rfl)
def f9_digits_2 : Nat → Md → Int32 → Int32 → Int32 → Option (Int32 × Md)
  | 0, _, _, _, _ => none
  | n + 1, u, x1, x2, x3 => ((f9_c u x3).bind fun r_2 => ((f9_isDigit r_2).bind fun r_4 => (if r_4 = 0 then (f9_digits_26 u x1 x3) else (if x2 ≤ (x3 - x1) then (f9_digits_26 u x1 x3) else (f9_digits_2 n u x1 x2 (x3 + (1 : Int32)))))))
set_option maxHeartbeats 4000000 in
set_option maxRecDepth 100000 in
theorem w9_digits_2 {p : Program} {l : Launch} {e : Env} {s : State} {m : MethodId} {args : Array Value} {below : List Frame} {meth : Method} {c : Code} (C : Cx p s m args meth c cX9_digits 4 ws9_digits RX9 (some .int)) {D : va_G} {cI cJ cC : ClassId} {a : Nat → Nat} {A : Nat → Prop} (hK : va_K D vwCl (ty3 cI cJ cC) s) (hA : ∀ q : Nat, s.heap.size ≤ q → A q) {r : (Int32 × Md)} : ∀ (n : Nat), ∀ (u : Md) (x1 : Int32) (x2 : Int32) (x3 : Int32), f9_digits_2 n u x1 x2 x3 = some r → ∀ {H : Heap} {locs : List Loc}, va_P D vwCl (cM cI cJ a u) H → va_D A (cM cI cJ a u) → va_S A s.heap H locs → ∀ {ls : Array Slot}, lv_has ls 4 [(0, .ref (a 0)), (1, .int x1), (2, .int x2), (3, .int x3)] → W p l e rm9_digits s m args below meth c H locs 0 0 (MQ below (qW (some (.int r.1)) (cM cI cJ a r.2) D (ty3 cI cJ cC) A) args s 0 0 A) (F0 m 2 ls []) := by
  have hx := C.1.1
  have hb := C.1.2.1
  have hts := C.1.2.2.2.2
  have hown := C.1.2.2.2.1
  have hin : ∀ w ∈ wsX90, w ∈ ws9_digits := fun w h => List.mem_cons_of_mem _ (List.mem_append_right _ h)
  intro n
  induction n with
  | zero =>
    intro u x1 x2 x3 hf H locs hP hD hS ls hl
    cases hf
  | succ n ih =>
    intro u x1 x2 x3 hf H locs hP hD hS ls hl
    rw [f9_digits_2] at hf
    refine lv_aload_n hx hb dX9_digits_2 rfl (lv_at hl 0 rfl) ?_
    refine lv_iload_n hx hb dX9_digits_3 rfl (lv_at hl 3 rfl) ?_
    obtain ⟨r_2, h_1, hf⟩ := og_b hf
    try dsimp only at hf
    refine ck_r (v := .int r_2) (rest := []) C.1 (c9_c l D cI cJ cC a u x3 r_2 _ h_1) (cwV 1 hts g9_c rfl rfl rfl hd9_c ⟨Nat.le_of_ble_eq_true rfl, Nat.le_of_ble_eq_true rfl⟩) hK hP hD (q0 := 0) (ci := 6) rfl rfl rfl rfl hl.1 rfl (Nat.le_of_ble_eq_true rfl) ⟨Nat.zero_le _, Nat.zero_le _⟩ dX9_digits_4 ?_
    obtain ⟨r_4, h_3, hf⟩ := og_b hf
    try dsimp only at hf
    refine ck_s (v := .int r_4) (rest := []) C.1 (c9_isDigit l r_2 r_4 h_3) (va_cwS 1 hts g9_isDigit rfl rfl rfl hd9_isDigit ⟨Nat.le_of_ble_eq_true rfl, Nat.le_of_ble_eq_true rfl⟩) rfl hl.1 rfl (Nat.le_of_ble_eq_true rfl) ⟨Nat.zero_le _, Nat.zero_le _⟩ dX9_digits_7 ?_
    refine lv_if_eq (tgt := 26) hx hb dX9_digits_10 (by decide) (fun c_5 => ?_) (fun c_5 => ?_)
    · replace hf := og_t c_5 hf
      exact w9_digits_26 C hK hA u x1 x3 hf hP hD hS (lv_sub hl [0, 1, 3] rfl)
    · replace hf := og_f c_5 hf
      refine lv_iload_n hx hb dX9_digits_13 rfl (lv_at hl 3 rfl) ?_
      refine lv_iload_n hx hb dX9_digits_14 rfl (lv_at hl 1 rfl) ?_
      refine lv_isub hx hb dX9_digits_15 ?_
      refine lv_iload_n hx hb dX9_digits_16 rfl (lv_at hl 2 rfl) ?_
      refine lv_icmp_ge (tgt := 26) hx hb dX9_digits_17 (by decide) (fun c_6 => ?_) (fun c_6 => ?_)
      · replace hf := og_t c_6 hf
        exact w9_digits_26 C hK hA u x1 x3 hf hP hD hS (lv_sub hl [0, 1, 3] rfl)
      · replace hf := og_f c_6 hf
        refine lv_iinc (v := (x3 + (1 : Int32))) (lv' := [(3, .int (x3 + (1 : Int32))), (0, .ref (a 0)), (1, .int x1), (2, .int x2)]) hx hb dX9_digits_20 hl (k := 3) rfl rfl (by decide) rfl (fun ls hl => ?_)
        refine lv_goto (tgt := 2) hx hb dX9_digits_23 (by decide) ?_
        exact ih u x1 x2 (x3 + (1 : Int32)) hf hP hD hS (lv_sub hl [1, 2, 3, 0] rfl)
def f9_digits (u : Md) (x1 : Int32) (x2 : Int32) : Option (Int32 × Md) := (f9_digits_2 FU u x1 x2 x1)
set_option maxHeartbeats 4000000 in
set_option maxRecDepth 100000 in
theorem c9_digits (l : Launch) (D : va_G) (cI cJ cC : ClassId) (a : Nat → Nat) (u : Md) (x1 : Int32) (x2 : Int32) (r : Int32) (v : Md) (sz : Nat) (hf : f9_digits u x1 x2 = some (r, v)) : Met l yX9_digits ws9_digits rm9_digits (pW D (ty3 cI cJ cC) (cM cI cJ a u) sz [.ref (a 0), .int x1, .int x2]) (qW (some (.int r)) (cM cI cJ a v) D (ty3 cI cJ cC) (va_A (cM cI cJ a u) sz)) 0 0 (va_A (cM cI cJ a u) sz) := by
  refine mt_w (cc := cX9_digits) (maxL := 4) (ret := (some .int)) (by decide) rfl (Nat.le_of_ble_eq_true rfl) ?_
  intro p e s m below meth c ls A C hl hK hA hP hD hS
  have hl : lv_has ls 4 [(0, .ref (a 0)), (1, .int x1), (2, .int x2)] := hl
  have hx := C.1.1
  have hb := C.1.2.1
  have hts := C.1.2.2.2.2
  have hown := C.1.2.2.2.1
  have hin : ∀ w ∈ wsX90, w ∈ ws9_digits := fun w h => List.mem_cons_of_mem _ (List.mem_append_right _ h)
  unfold f9_digits at hf
  refine lv_iload_n hx hb dX9_digits_0 rfl (lv_at hl 1 rfl) ?_
  refine lv_istore_n (lv' := [(3, .int x1), (0, .ref (a 0)), (1, .int x1), (2, .int x2)]) hx hb dX9_digits_1 rfl hl (by decide) rfl (fun ls hl => ?_)
  exact w9_digits_2 C hK hA FU u x1 x2 x1 hf hP hD hS (lv_sub hl [1, 2, 3, 0] rfl)
abbrev rm9_valueOf : Room := { frames := 1, cells := 0, slots := 0, locals := 20 }
noncomputable abbrev ws9_valueOf : List Cond := Cond.code yX9_valueOf cX9_valueOf 6 (some .long) :: WA9
theorem g9_valueOf {c0 : Cond} : GoodIn (c0 :: WA9) (wsV RX9 109 RX9 yX9_valueOf ws9_valueOf) := gd9_v m9_73 m9_74 m9_75 m9_29 m9_64
theorem hd9_valueOf : yX9_valueOf.cls = RX9 ∧ yX9_valueOf.cls ≠ "java/lang/invoke/MethodHandle" ∧ yX9_valueOf.cls ≠ "java/lang/invoke/VarHandle" ∧ (parseMethodDescriptor yX9_valueOf.desc).map (fun d => d.parameters.length) = some 2 := by decide +kernel
def f9_valueOf_46 (u : Md) (k5 : Int32 → Int64 → Int32 → Option Int64) (x2 : Int32) (x5 : Int32) (y0 : Int64) : Option Int64 := (k5 x2 y0 (x5 + (1 : Int32)))
set_option maxHeartbeats 4000000 in
set_option maxRecDepth 100000 in
theorem w9_valueOf_46 {p : Program} {l : Launch} {e : Env} {s : State} {m : MethodId} {args : Array Value} {below : List Frame} {meth : Method} {c : Code} (C : Cx p s m args meth c cX9_valueOf 6 ws9_valueOf RX9 (some .long)) {D : va_G} {cI cJ cC : ClassId} {a : Nat → Nat} {u : Md} (hK : va_K D vwCl (ty3 cI cJ cC) s) (hP : va_P D vwCl (cM cI cJ a u) s.heap) (hD : va_D (fun _ => True) (cM cI cJ a u)) {r : Int64} (k5 : Int32 → Int64 → Int32 → Option Int64) (ih5 : ∀ (x2 : Int32) (x3 : Int64) (x5 : Int32), k5 x2 x3 x5 = some r → ∀ {ls : Array Slot}, lv_has ls 6 [(0, .ref (a 0)), (2, .int x2), (3, .long x3), (5, .int x5)] → W p l e rm9_valueOf s m args below meth c s.heap [] 0 0 (MQ below (k2_QcV (.long r)) args s 0 0 (fun _ => False)) (F0 m 5 ls [])) : ∀ (x2 : Int32) (x5 : Int32) (y0 : Int64), f9_valueOf_46 u k5 x2 x5 y0 = some r → ∀ {ls : Array Slot}, lv_has ls 6 [(0, .ref (a 0)), (2, .int x2), (5, .int x5)] → W p l e rm9_valueOf s m args below meth c s.heap [] 0 0 (MQ below (k2_QcV (.long r)) args s 0 0 (fun _ => False)) (F0 m 46 ls [.long y0]) := by
  have hx := C.1.1
  have hb := C.1.2.1
  have hts := C.1.2.2.2.2
  have hown := C.1.2.2.2.1
  have hin : ∀ w ∈ wsX90, w ∈ ws9_valueOf := fun w h => List.mem_cons_of_mem _ (List.mem_append_right _ h)
  intro x2 x5 y0 hf ls hl
  unfold f9_valueOf_46 at hf
  refine lv_lstore_n (lv' := [(3, .long y0), (0, .ref (a 0)), (2, .int x2), (5, .int x5)]) hx hb dX9_valueOf_46 rfl hl (by decide) rfl (fun ls hl => ?_)
  refine lv_iinc (v := (x5 + (1 : Int32))) (lv' := [(5, .int (x5 + (1 : Int32))), (3, .long y0), (0, .ref (a 0)), (2, .int x2)]) hx hb dX9_valueOf_47 hl (k := 3) rfl rfl (by decide) rfl (fun ls hl => ?_)
  refine lv_goto (tgt := 5) hx hb dX9_valueOf_50 (by decide) ?_
  exact ih5 x2 y0 (x5 + (1 : Int32)) hf (lv_sub hl [2, 3, 1, 0] rfl)
def f9_valueOf_5 (u : Md) : Nat → Int32 → Int64 → Int32 → Option Int64
  | 0, _, _, _ => none
  | n + 1, x2, x3, x5 => (if x2 ≤ x5 then (some x3) else (if x5 < 0 ∨ 4000 ≤ (x5).toNatClampNeg then none else ((f9_isDigit ((ga u 2) (x5).toNatClampNeg)).bind fun r_4 => (if r_4 = 0 then (f9_valueOf_46 u (f9_valueOf_5 u n) x2 x5 x3) else (if x5 < 0 ∨ 4000 ≤ (x5).toNatClampNeg then none else (f9_valueOf_46 u (f9_valueOf_5 u n) x2 x5 ((((10 : Int64) * x3) + (((ga u 2) (x5).toNatClampNeg)).toInt64) - (48 : Int64))))))))
set_option maxHeartbeats 4000000 in
set_option maxRecDepth 100000 in
theorem w9_valueOf_5 {p : Program} {l : Launch} {e : Env} {s : State} {m : MethodId} {args : Array Value} {below : List Frame} {meth : Method} {c : Code} (C : Cx p s m args meth c cX9_valueOf 6 ws9_valueOf RX9 (some .long)) {D : va_G} {cI cJ cC : ClassId} {a : Nat → Nat} {u : Md} (hK : va_K D vwCl (ty3 cI cJ cC) s) (hP : va_P D vwCl (cM cI cJ a u) s.heap) (hD : va_D (fun _ => True) (cM cI cJ a u)) {r : Int64} : ∀ (n : Nat), ∀ (x2 : Int32) (x3 : Int64) (x5 : Int32), f9_valueOf_5 u n x2 x3 x5 = some r → ∀ {ls : Array Slot}, lv_has ls 6 [(0, .ref (a 0)), (2, .int x2), (3, .long x3), (5, .int x5)] → W p l e rm9_valueOf s m args below meth c s.heap [] 0 0 (MQ below (k2_QcV (.long r)) args s 0 0 (fun _ => False)) (F0 m 5 ls []) := by
  have hx := C.1.1
  have hb := C.1.2.1
  have hts := C.1.2.2.2.2
  have hown := C.1.2.2.2.1
  have hin : ∀ w ∈ wsX90, w ∈ ws9_valueOf := fun w h => List.mem_cons_of_mem _ (List.mem_append_right _ h)
  intro n
  induction n with
  | zero =>
    intro x2 x3 x5 hf ls hl
    cases hf
  | succ n ih =>
    intro x2 x3 x5 hf ls hl
    rw [f9_valueOf_5] at hf
    refine lv_iload hx hb dX9_valueOf_5 (lv_at hl 3 rfl) ?_
    refine lv_iload_n hx hb dX9_valueOf_7 rfl (lv_at hl 1 rfl) ?_
    refine lv_icmp_ge (tgt := 53) hx hb dX9_valueOf_8 (by decide) (fun c_1 => ?_) (fun c_1 => ?_)
    · replace hf := og_t c_1 hf
      refine lv_lload_n hx hb dX9_valueOf_53 rfl (lv_at hl 2 rfl) ?_
      cases hf
      exact rt_l C dX9_valueOf_54
    · replace hf := og_f c_1 hf
      refine lv_aload_n hx hb dX9_valueOf_11 rfl (lv_at hl 0 rfl) ?_
      refine mg9 (v := .ref (a 2)) C hin hK hP 2 (by decide) (hts (Cond.fieldLink RX9 7 "SchematicTextModel" "text" "[I") (List.mem_cons_of_mem _ m9_5)) rfl dX9_valueOf_12 ?_
      refine lv_iload hx hb dX9_valueOf_15 (lv_at hl 3 rfl) ?_
      obtain ⟨h_2, hf⟩ := og_n hf
      refine va_iald (f := (ga u 2)) hx hb hK hP 1 0 rfl rfl h_2 dX9_valueOf_17 ?_
      obtain ⟨r_4, h_3, hf⟩ := og_b hf
      try dsimp only at hf
      refine ck_s (v := .int r_4) (rest := []) C.1 (c9_isDigit l ((ga u 2) (x5).toNatClampNeg) r_4 h_3) (va_cwS 1 hts g9_isDigit rfl rfl rfl hd9_isDigit ⟨Nat.le_of_ble_eq_true rfl, Nat.le_of_ble_eq_true rfl⟩) rfl hl.1 rfl (Nat.le_of_ble_eq_true rfl) ⟨Nat.zero_le _, Nat.zero_le _⟩ dX9_valueOf_18 ?_
      refine lv_if_eq (tgt := 45) hx hb dX9_valueOf_21 (by decide) (fun c_5 => ?_) (fun c_5 => ?_)
      · replace hf := og_t c_5 hf
        refine lv_lload_n hx hb dX9_valueOf_45 rfl (lv_at hl 2 rfl) ?_
        exact w9_valueOf_46 C hK hP hD (f9_valueOf_5 u n) (fun _ _ _ h9 => ih _ _ _ h9) x2 x5 x3 hf (lv_sub hl [0, 1, 3] rfl)
      · replace hf := og_f c_5 hf
        refine lv_ldc2 (v := (10 : Int64)) hx hb hown (hts (Cond.constantLong RX9 102 (10)) (List.mem_cons_of_mem _ m9_65)) dX9_valueOf_24 ?_
        refine lv_lload_n hx hb dX9_valueOf_27 rfl (lv_at hl 2 rfl) ?_
        refine lv_lmul hx hb dX9_valueOf_28 ?_
        refine lv_aload_n hx hb dX9_valueOf_29 rfl (lv_at hl 0 rfl) ?_
        refine mg9 (v := .ref (a 2)) C hin hK hP 2 (by decide) (hts (Cond.fieldLink RX9 7 "SchematicTextModel" "text" "[I") (List.mem_cons_of_mem _ m9_5)) rfl dX9_valueOf_30 ?_
        refine lv_iload hx hb dX9_valueOf_33 (lv_at hl 3 rfl) ?_
        obtain ⟨h_6, hf⟩ := og_n hf
        refine va_iald (f := (ga u 2)) hx hb hK hP 1 0 rfl rfl h_6 dX9_valueOf_35 ?_
        refine lv_i2l (v := (((ga u 2) (x5).toNatClampNeg)).toInt64) hx hb dX9_valueOf_36 rfl ?_
        refine lv_ladd hx hb dX9_valueOf_37 ?_
        refine lv_ldc2 (v := (48 : Int64)) hx hb hown (hts (Cond.constantLong RX9 104 (48)) (List.mem_cons_of_mem _ m9_66)) dX9_valueOf_38 ?_
        refine lv_lsub hx hb dX9_valueOf_41 ?_
        refine lv_goto (tgt := 46) hx hb dX9_valueOf_42 (by decide) ?_
        exact w9_valueOf_46 C hK hP hD (f9_valueOf_5 u n) (fun _ _ _ h9 => ih _ _ _ h9) x2 x5 ((((10 : Int64) * x3) + (((ga u 2) (x5).toNatClampNeg)).toInt64) - (48 : Int64)) hf (lv_sub hl [0, 1, 3] rfl)
def f9_valueOf (u : Md) (x1 : Int32) (x2 : Int32) : Option Int64 := (f9_valueOf_5 u FU x2 (0 : Int64) x1)
set_option maxHeartbeats 4000000 in
set_option maxRecDepth 100000 in
theorem c9_valueOf (l : Launch) (D : va_G) (cI cJ cC : ClassId) (a : Nat → Nat) (u : Md) (x1 : Int32) (x2 : Int32) (r : Int64) (sz : Nat) (hf : f9_valueOf u x1 x2 = some r) : Met l yX9_valueOf ws9_valueOf rm9_valueOf (pW D (ty3 cI cJ cC) (cM cI cJ a u) sz [.ref (a 0), .int x1, .int x2]) (k2_QcV (.long r)) 0 0 (fun _ => False) := by
  refine mt_r (cc := cX9_valueOf) (maxL := 6) (ret := (some .long)) (by decide) rfl (Nat.le_of_ble_eq_true rfl) ?_
  intro p e s m below meth c ls C hl hK hP hD
  have hl : lv_has ls 6 [(0, .ref (a 0)), (1, .int x1), (2, .int x2)] := hl
  have hx := C.1.1
  have hb := C.1.2.1
  have hts := C.1.2.2.2.2
  have hown := C.1.2.2.2.1
  have hin : ∀ w ∈ wsX90, w ∈ ws9_valueOf := fun w h => List.mem_cons_of_mem _ (List.mem_append_right _ h)
  unfold f9_valueOf at hf
  refine lv_lconst (v := (0 : Int64)) hx hb dX9_valueOf_0 (by decide) ?_
  refine lv_lstore_n (lv' := [(3, .long (0 : Int64)), (0, .ref (a 0)), (1, .int x1), (2, .int x2)]) hx hb dX9_valueOf_1 rfl hl (by decide) rfl (fun ls hl => ?_)
  refine lv_iload_n hx hb dX9_valueOf_2 rfl (lv_at hl 2 rfl) ?_
  refine lv_istore (lv' := [(5, .int x1), (3, .long (0 : Int64)), (0, .ref (a 0)), (1, .int x1), (2, .int x2)]) hx hb dX9_valueOf_3 hl (by decide) rfl (fun ls hl => ?_)
  exact w9_valueOf_5 C hK hP hD FU x2 (0 : Int64) x1 hf (lv_sub hl [2, 4, 1, 0] rfl)
abbrev rm9_readNumber : Room := { frames := 2, cells := 0, slots := 0, locals := 45 }
noncomputable abbrev ws9_readNumber : List Cond := Cond.code yX9_readNumber cX9_readNumber 15 (some .int) :: WA9
theorem g9_readNumber {c0 : Cond} : GoodIn (c0 :: WA9) (wsV RX9 137 RX9 yX9_readNumber ws9_readNumber) := gd9_v m9_89 m9_90 m9_91 m9_29 m9_67
theorem hd9_readNumber : yX9_readNumber.cls = RX9 ∧ yX9_readNumber.cls ≠ "java/lang/invoke/MethodHandle" ∧ yX9_readNumber.cls ≠ "java/lang/invoke/VarHandle" ∧ (parseMethodDescriptor yX9_readNumber.desc).map (fun d => d.parameters.length) = some 4 := by decide +kernel
def f9_readNumber_195 (u : Md) (x8 : Int32) (x9 : Int64) : Option (Int32 × Md) := (some (x8, (sl u x9)))
set_option maxHeartbeats 4000000 in
set_option maxRecDepth 100000 in
theorem w9_readNumber_195 {p : Program} {l : Launch} {e : Env} {s : State} {m : MethodId} {args : Array Value} {below : List Frame} {meth : Method} {c : Code} (C : Cx p s m args meth c cX9_readNumber 15 ws9_readNumber RX9 (some .int)) {D : va_G} {cI cJ cC : ClassId} {a : Nat → Nat} {A : Nat → Prop} (hK : va_K D vwCl (ty3 cI cJ cC) s) (hA : ∀ q : Nat, s.heap.size ≤ q → A q) {r : (Int32 × Md)} : ∀ (u : Md) (x8 : Int32) (x9 : Int64), f9_readNumber_195 u x8 x9 = some r → ∀ {H : Heap} {locs : List Loc}, va_P D vwCl (cM cI cJ a u) H → va_D A (cM cI cJ a u) → va_S A s.heap H locs → ∀ {ls : Array Slot}, lv_has ls 15 [(0, .ref (a 0)), (8, .int x8), (9, .long x9)] → W p l e rm9_readNumber s m args below meth c H locs 0 0 (MQ below (qW (some (.int r.1)) (cM cI cJ a r.2) D (ty3 cI cJ cC) A) args s 0 0 A) (F0 m 195 ls []) := by
  have hx := C.1.1
  have hb := C.1.2.1
  have hts := C.1.2.2.2.2
  have hown := C.1.2.2.2.1
  have hin : ∀ w ∈ wsX90, w ∈ ws9_readNumber := fun w h => List.mem_cons_of_mem _ (List.mem_append_right _ h)
  intro u x8 x9 hf H locs hP hD hS ls hl
  unfold f9_readNumber_195 at hf
  refine lv_aload_n hx hb dX9_readNumber_195 rfl (lv_at hl 0 rfl) ?_
  refine lv_lload hx hb dX9_readNumber_196 (lv_at hl 2 rfl) ?_
  refine mp9_28 C hin hK hP hD hS (hts (Cond.fieldLink RX9 115 "SchematicTextModel" "lastNumber" "J") (List.mem_cons_of_mem _ m9_69)) dX9_readNumber_198 (fun H locs hP hD hS => ?_)
  refine lv_iload hx hb dX9_readNumber_201 (lv_at hl 1 rfl) ?_
  cases hf
  exact rw_i C hK hP hD hS dX9_readNumber_203
def f9_readNumber_190 (u : Md) (x1 : Int32) (x8 : Int32) (x9 : Int64) : Option (Int32 × Md) := ((f9_fail u x1).bind fun u_27 => (f9_readNumber_195 u_27 x8 x9))
set_option maxHeartbeats 4000000 in
set_option maxRecDepth 100000 in
theorem w9_readNumber_190 {p : Program} {l : Launch} {e : Env} {s : State} {m : MethodId} {args : Array Value} {below : List Frame} {meth : Method} {c : Code} (C : Cx p s m args meth c cX9_readNumber 15 ws9_readNumber RX9 (some .int)) {D : va_G} {cI cJ cC : ClassId} {a : Nat → Nat} {A : Nat → Prop} (hK : va_K D vwCl (ty3 cI cJ cC) s) (hA : ∀ q : Nat, s.heap.size ≤ q → A q) {r : (Int32 × Md)} : ∀ (u : Md) (x1 : Int32) (x8 : Int32) (x9 : Int64), f9_readNumber_190 u x1 x8 x9 = some r → ∀ {H : Heap} {locs : List Loc}, va_P D vwCl (cM cI cJ a u) H → va_D A (cM cI cJ a u) → va_S A s.heap H locs → ∀ {ls : Array Slot}, lv_has ls 15 [(0, .ref (a 0)), (1, .int x1), (8, .int x8), (9, .long x9)] → W p l e rm9_readNumber s m args below meth c H locs 0 0 (MQ below (qW (some (.int r.1)) (cM cI cJ a r.2) D (ty3 cI cJ cC) A) args s 0 0 A) (F0 m 190 ls []) := by
  have hx := C.1.1
  have hb := C.1.2.1
  have hts := C.1.2.2.2.2
  have hown := C.1.2.2.2.1
  have hin : ∀ w ∈ wsX90, w ∈ ws9_readNumber := fun w h => List.mem_cons_of_mem _ (List.mem_append_right _ h)
  intro u x1 x8 x9 hf H locs hP hD hS ls hl
  unfold f9_readNumber_190 at hf
  refine lv_aload_n hx hb dX9_readNumber_190 rfl (lv_at hl 0 rfl) ?_
  refine lv_iload_n hx hb dX9_readNumber_191 rfl (lv_at hl 1 rfl) ?_
  obtain ⟨u_27, h_26, hf⟩ := og_b hf
  try dsimp only at hf
  refine ck_w (ov := none) (st1 := []) (rest := []) C.1 (c9_fail l D cI cJ cC a u x1 u_27  _ h_26) (cwV 1 hts g9_fail rfl rfl rfl hd9_fail ⟨Nat.le_of_ble_eq_true rfl, Nat.le_of_ble_eq_true rfl⟩) hK hA hP hD hS (q0 := 0) (ci := 6) rfl rfl rfl rfl hl.1 rfl rfl (Nat.le_of_ble_eq_true rfl) ⟨Nat.zero_le _, Nat.zero_le _⟩ dX9_readNumber_192 (fun H locs hP hD hS => ?_)
  exact w9_readNumber_195 C hK hA u_27 x8 x9 hf hP hD hS (lv_sub hl [0, 2, 3] rfl)
def f9_readNumber_173 (u : Md) (x1 : Int32) (x3 : Int64) (x5 : Int64) (x8 : Int32) (y0 : Int64) : Option (Int32 × Md) := (if (lg_cmp y0 x3) < 0 then (f9_readNumber_190 u x1 x8 y0) else (if (lg_cmp y0 x5) ≤ 0 then (f9_readNumber_195 u x8 y0) else (f9_readNumber_190 u x1 x8 y0)))
set_option maxHeartbeats 4000000 in
set_option maxRecDepth 100000 in
theorem w9_readNumber_173 {p : Program} {l : Launch} {e : Env} {s : State} {m : MethodId} {args : Array Value} {below : List Frame} {meth : Method} {c : Code} (C : Cx p s m args meth c cX9_readNumber 15 ws9_readNumber RX9 (some .int)) {D : va_G} {cI cJ cC : ClassId} {a : Nat → Nat} {A : Nat → Prop} (hK : va_K D vwCl (ty3 cI cJ cC) s) (hA : ∀ q : Nat, s.heap.size ≤ q → A q) {r : (Int32 × Md)} : ∀ (u : Md) (x1 : Int32) (x3 : Int64) (x5 : Int64) (x8 : Int32) (y0 : Int64), f9_readNumber_173 u x1 x3 x5 x8 y0 = some r → ∀ {H : Heap} {locs : List Loc}, va_P D vwCl (cM cI cJ a u) H → va_D A (cM cI cJ a u) → va_S A s.heap H locs → ∀ {ls : Array Slot}, lv_has ls 15 [(0, .ref (a 0)), (1, .int x1), (3, .long x3), (5, .long x5), (8, .int x8)] → W p l e rm9_readNumber s m args below meth c H locs 0 0 (MQ below (qW (some (.int r.1)) (cM cI cJ a r.2) D (ty3 cI cJ cC) A) args s 0 0 A) (F0 m 173 ls [.long y0]) := by
  have hx := C.1.1
  have hb := C.1.2.1
  have hts := C.1.2.2.2.2
  have hown := C.1.2.2.2.1
  have hin : ∀ w ∈ wsX90, w ∈ ws9_readNumber := fun w h => List.mem_cons_of_mem _ (List.mem_append_right _ h)
  intro u x1 x3 x5 x8 y0 hf H locs hP hD hS ls hl
  unfold f9_readNumber_173 at hf
  refine lv_lstore (lv' := [(9, .long y0), (0, .ref (a 0)), (1, .int x1), (3, .long x3), (5, .long x5), (8, .int x8)]) hx hb dX9_readNumber_173 hl (by decide) rfl (fun ls hl => ?_)
  refine lv_lload hx hb dX9_readNumber_175 (lv_at hl 0 rfl) ?_
  refine lv_lload_n hx hb dX9_readNumber_177 rfl (lv_at hl 3 rfl) ?_
  refine W.lcmp hx hb dX9_readNumber_178 ?_
  refine lv_if_lt (tgt := 190) hx hb dX9_readNumber_179 (by decide) (fun c_24 => ?_) (fun c_24 => ?_)
  · replace hf := og_t c_24 hf
    exact w9_readNumber_190 C hK hA u x1 x8 y0 hf hP hD hS (lv_sub hl [1, 2, 5, 0] rfl)
  · replace hf := og_f c_24 hf
    refine lv_lload hx hb dX9_readNumber_182 (lv_at hl 0 rfl) ?_
    refine lv_lload hx hb dX9_readNumber_184 (lv_at hl 4 rfl) ?_
    refine W.lcmp hx hb dX9_readNumber_186 ?_
    refine lv_if_le (tgt := 195) hx hb dX9_readNumber_187 (by decide) (fun c_25 => ?_) (fun c_25 => ?_)
    · replace hf := og_t c_25 hf
      exact w9_readNumber_195 C hK hA u x8 y0 hf hP hD hS (lv_sub hl [1, 5, 0] rfl)
    · replace hf := og_f c_25 hf
      exact w9_readNumber_190 C hK hA u x1 x8 y0 hf hP hD hS (lv_sub hl [1, 2, 5, 0] rfl)
def f9_readNumber_158 (u : Md) (x1 : Int32) (x3 : Int64) (x5 : Int64) (x7 : Int32) (x8 : Int32) (x9 : Int64) : Option (Int32 × Md) := (if x7 ≤ x1 then (f9_readNumber_173 u x1 x3 x5 x8 x9) else (f9_readNumber_173 u x1 x3 x5 x8 ((0 : Int64) - x9)))
set_option maxHeartbeats 4000000 in
set_option maxRecDepth 100000 in
theorem w9_readNumber_158 {p : Program} {l : Launch} {e : Env} {s : State} {m : MethodId} {args : Array Value} {below : List Frame} {meth : Method} {c : Code} (C : Cx p s m args meth c cX9_readNumber 15 ws9_readNumber RX9 (some .int)) {D : va_G} {cI cJ cC : ClassId} {a : Nat → Nat} {A : Nat → Prop} (hK : va_K D vwCl (ty3 cI cJ cC) s) (hA : ∀ q : Nat, s.heap.size ≤ q → A q) {r : (Int32 × Md)} : ∀ (u : Md) (x1 : Int32) (x3 : Int64) (x5 : Int64) (x7 : Int32) (x8 : Int32) (x9 : Int64), f9_readNumber_158 u x1 x3 x5 x7 x8 x9 = some r → ∀ {H : Heap} {locs : List Loc}, va_P D vwCl (cM cI cJ a u) H → va_D A (cM cI cJ a u) → va_S A s.heap H locs → ∀ {ls : Array Slot}, lv_has ls 15 [(0, .ref (a 0)), (1, .int x1), (3, .long x3), (5, .long x5), (7, .int x7), (8, .int x8), (9, .long x9)] → W p l e rm9_readNumber s m args below meth c H locs 0 0 (MQ below (qW (some (.int r.1)) (cM cI cJ a r.2) D (ty3 cI cJ cC) A) args s 0 0 A) (F0 m 158 ls []) := by
  have hx := C.1.1
  have hb := C.1.2.1
  have hts := C.1.2.2.2.2
  have hown := C.1.2.2.2.1
  have hin : ∀ w ∈ wsX90, w ∈ ws9_readNumber := fun w h => List.mem_cons_of_mem _ (List.mem_append_right _ h)
  intro u x1 x3 x5 x7 x8 x9 hf H locs hP hD hS ls hl
  unfold f9_readNumber_158 at hf
  refine lv_iload hx hb dX9_readNumber_158 (lv_at hl 4 rfl) ?_
  refine lv_iload_n hx hb dX9_readNumber_160 rfl (lv_at hl 1 rfl) ?_
  refine lv_icmp_le (tgt := 171) hx hb dX9_readNumber_161 (by decide) (fun c_22 => ?_) (fun c_22 => ?_)
  · replace hf := og_t c_22 hf
    refine lv_lload hx hb dX9_readNumber_171 (lv_at hl 6 rfl) ?_
    exact w9_readNumber_173 C hK hA u x1 x3 x5 x8 x9 hf hP hD hS (lv_sub hl [0, 1, 2, 3, 5] rfl)
  · replace hf := og_f c_22 hf
    refine lv_lconst (v := (0 : Int64)) hx hb dX9_readNumber_164 (by decide) ?_
    refine lv_lload hx hb dX9_readNumber_165 (lv_at hl 6 rfl) ?_
    refine lv_lsub hx hb dX9_readNumber_167 ?_
    refine lv_goto (tgt := 173) hx hb dX9_readNumber_168 (by decide) ?_
    exact w9_readNumber_173 C hK hA u x1 x3 x5 x8 ((0 : Int64) - x9) hf hP hD hS (lv_sub hl [0, 1, 2, 3, 5] rfl)
def f9_readNumber_154 (u : Md) (x1 : Int32) (x3 : Int64) (x5 : Int64) (x7 : Int32) (x9 : Int64) (x11 : Int32) : Option (Int32 × Md) := (f9_readNumber_158 u x1 x3 x5 x7 x11 x9)
set_option maxHeartbeats 4000000 in
set_option maxRecDepth 100000 in
theorem w9_readNumber_154 {p : Program} {l : Launch} {e : Env} {s : State} {m : MethodId} {args : Array Value} {below : List Frame} {meth : Method} {c : Code} (C : Cx p s m args meth c cX9_readNumber 15 ws9_readNumber RX9 (some .int)) {D : va_G} {cI cJ cC : ClassId} {a : Nat → Nat} {A : Nat → Prop} (hK : va_K D vwCl (ty3 cI cJ cC) s) (hA : ∀ q : Nat, s.heap.size ≤ q → A q) {r : (Int32 × Md)} : ∀ (u : Md) (x1 : Int32) (x3 : Int64) (x5 : Int64) (x7 : Int32) (x9 : Int64) (x11 : Int32), f9_readNumber_154 u x1 x3 x5 x7 x9 x11 = some r → ∀ {H : Heap} {locs : List Loc}, va_P D vwCl (cM cI cJ a u) H → va_D A (cM cI cJ a u) → va_S A s.heap H locs → ∀ {ls : Array Slot}, lv_has ls 15 [(0, .ref (a 0)), (1, .int x1), (3, .long x3), (5, .long x5), (7, .int x7), (9, .long x9), (11, .int x11)] → W p l e rm9_readNumber s m args below meth c H locs 0 0 (MQ below (qW (some (.int r.1)) (cM cI cJ a r.2) D (ty3 cI cJ cC) A) args s 0 0 A) (F0 m 154 ls []) := by
  have hx := C.1.1
  have hb := C.1.2.1
  have hts := C.1.2.2.2.2
  have hown := C.1.2.2.2.1
  have hin : ∀ w ∈ wsX90, w ∈ ws9_readNumber := fun w h => List.mem_cons_of_mem _ (List.mem_append_right _ h)
  intro u x1 x3 x5 x7 x9 x11 hf H locs hP hD hS ls hl
  unfold f9_readNumber_154 at hf
  refine lv_iload hx hb dX9_readNumber_154 (lv_at hl 6 rfl) ?_
  refine lv_istore (lv' := [(8, .int x11), (0, .ref (a 0)), (1, .int x1), (3, .long x3), (5, .long x5), (7, .int x7), (9, .long x9), (11, .int x11)]) hx hb dX9_readNumber_156 hl (by decide) rfl (fun ls hl => ?_)
  exact w9_readNumber_158 C hK hA u x1 x3 x5 x7 x11 x9 hf hP hD hS (lv_sub hl [1, 2, 3, 4, 5, 0, 6] rfl)
def f9_readNumber_126 : Nat → Md → Int32 → Int64 → Int64 → Int32 → Int64 → Int32 → Int64 → Int32 → Option (Int32 × Md)
  | 0, _, _, _, _, _, _, _, _, _ => none
  | n + 1, u, x1, x3, x5, x7, x9, x11, x12, x14 => (if (6 : Int32) ≤ x14 then (f9_readNumber_154 u x1 x3 x5 x7 (x9 + x12) x11) else (f9_readNumber_126 n u x1 x3 x5 x7 x9 x11 ((10 : Int64) * x12) (x14 + (1 : Int32))))
set_option maxHeartbeats 4000000 in
set_option maxRecDepth 100000 in
theorem w9_readNumber_126 {p : Program} {l : Launch} {e : Env} {s : State} {m : MethodId} {args : Array Value} {below : List Frame} {meth : Method} {c : Code} (C : Cx p s m args meth c cX9_readNumber 15 ws9_readNumber RX9 (some .int)) {D : va_G} {cI cJ cC : ClassId} {a : Nat → Nat} {A : Nat → Prop} (hK : va_K D vwCl (ty3 cI cJ cC) s) (hA : ∀ q : Nat, s.heap.size ≤ q → A q) {r : (Int32 × Md)} : ∀ (n : Nat), ∀ (u : Md) (x1 : Int32) (x3 : Int64) (x5 : Int64) (x7 : Int32) (x9 : Int64) (x11 : Int32) (x12 : Int64) (x14 : Int32), f9_readNumber_126 n u x1 x3 x5 x7 x9 x11 x12 x14 = some r → ∀ {H : Heap} {locs : List Loc}, va_P D vwCl (cM cI cJ a u) H → va_D A (cM cI cJ a u) → va_S A s.heap H locs → ∀ {ls : Array Slot}, lv_has ls 15 [(0, .ref (a 0)), (1, .int x1), (3, .long x3), (5, .long x5), (7, .int x7), (9, .long x9), (11, .int x11), (12, .long x12), (14, .int x14)] → W p l e rm9_readNumber s m args below meth c H locs 0 0 (MQ below (qW (some (.int r.1)) (cM cI cJ a r.2) D (ty3 cI cJ cC) A) args s 0 0 A) (F0 m 126 ls []) := by
  have hx := C.1.1
  have hb := C.1.2.1
  have hts := C.1.2.2.2.2
  have hown := C.1.2.2.2.1
  have hin : ∀ w ∈ wsX90, w ∈ ws9_readNumber := fun w h => List.mem_cons_of_mem _ (List.mem_append_right _ h)
  intro n
  induction n with
  | zero =>
    intro u x1 x3 x5 x7 x9 x11 x12 x14 hf H locs hP hD hS ls hl
    cases hf
  | succ n ih =>
    intro u x1 x3 x5 x7 x9 x11 x12 x14 hf H locs hP hD hS ls hl
    rw [f9_readNumber_126] at hf
    refine lv_iload hx hb dX9_readNumber_126 (lv_at hl 8 rfl) ?_
    refine lv_bipush (v := (6 : Int32)) hx hb dX9_readNumber_128 (by decide) ?_
    refine lv_icmp_ge (tgt := 147) hx hb dX9_readNumber_130 (by decide) (fun c_23 => ?_) (fun c_23 => ?_)
    · replace hf := og_t c_23 hf
      refine lv_lload hx hb dX9_readNumber_147 (lv_at hl 5 rfl) ?_
      refine lv_lload hx hb dX9_readNumber_149 (lv_at hl 7 rfl) ?_
      refine lv_ladd hx hb dX9_readNumber_151 ?_
      refine lv_lstore (lv' := [(9, .long (x9 + x12)), (0, .ref (a 0)), (1, .int x1), (3, .long x3), (5, .long x5), (7, .int x7), (11, .int x11), (12, .long x12), (14, .int x14)]) hx hb dX9_readNumber_152 hl (by decide) rfl (fun ls hl => ?_)
      exact w9_readNumber_154 C hK hA u x1 x3 x5 x7 (x9 + x12) x11 hf hP hD hS (lv_sub hl [1, 2, 3, 4, 5, 0, 6] rfl)
    · replace hf := og_f c_23 hf
      refine lv_ldc2 (v := (10 : Int64)) hx hb hown (hts (Cond.constantLong RX9 102 (10)) (List.mem_cons_of_mem _ m9_65)) dX9_readNumber_133 ?_
      refine lv_lload hx hb dX9_readNumber_136 (lv_at hl 7 rfl) ?_
      refine lv_lmul hx hb dX9_readNumber_138 ?_
      refine lv_lstore (lv' := [(12, .long ((10 : Int64) * x12)), (0, .ref (a 0)), (1, .int x1), (3, .long x3), (5, .long x5), (7, .int x7), (9, .long x9), (11, .int x11), (14, .int x14)]) hx hb dX9_readNumber_139 hl (by decide) rfl (fun ls hl => ?_)
      refine lv_iinc (v := (x14 + (1 : Int32))) (lv' := [(14, .int (x14 + (1 : Int32))), (12, .long ((10 : Int64) * x12)), (0, .ref (a 0)), (1, .int x1), (3, .long x3), (5, .long x5), (7, .int x7), (9, .long x9), (11, .int x11)]) hx hb dX9_readNumber_141 hl (k := 8) rfl rfl (by decide) rfl (fun ls hl => ?_)
      refine lv_goto (tgt := 126) hx hb dX9_readNumber_144 (by decide) ?_
      exact ih u x1 x3 x5 x7 x9 x11 ((10 : Int64) * x12) (x14 + (1 : Int32)) hf hP hD hS (lv_sub hl [2, 3, 4, 5, 6, 7, 8, 1, 0] rfl)
def f9_readNumber_62 (u : Md) (x1 : Int32) (x2 : Int32) (x3 : Int64) (x5 : Int64) (x7 : Int32) (x8 : Int32) (x9 : Int64) : Option (Int32 × Md) := (if x2 = 0 then (f9_readNumber_158 u x1 x3 x5 x7 x8 x9) else (if (gi u 18) = (-1 : Int32) then ((f9_c u x8).bind fun r_14 => (if r_14 = (46 : Int32) then ((f9_digits u (x8 + (1 : Int32)) (6 : Int32)).bind fun p_18 => (if (gi p_18.2 18) = (-1 : Int32) then ((f9_valueOf p_18.2 (x8 + (1 : Int32)) p_18.1).bind fun r_21 => (f9_readNumber_126 FU p_18.2 x1 x3 x5 x7 x9 p_18.1 r_21 ((p_18.1 - x8) - (1 : Int32)))) else (f9_readNumber_154 p_18.2 x1 x3 x5 x7 x9 p_18.1))) else (f9_readNumber_158 u x1 x3 x5 x7 x8 x9))) else (f9_readNumber_158 u x1 x3 x5 x7 x8 x9)))
set_option maxHeartbeats 4000000 in
set_option maxRecDepth 100000 in
theorem w9_readNumber_62 {p : Program} {l : Launch} {e : Env} {s : State} {m : MethodId} {args : Array Value} {below : List Frame} {meth : Method} {c : Code} (C : Cx p s m args meth c cX9_readNumber 15 ws9_readNumber RX9 (some .int)) {D : va_G} {cI cJ cC : ClassId} {a : Nat → Nat} {A : Nat → Prop} (hK : va_K D vwCl (ty3 cI cJ cC) s) (hA : ∀ q : Nat, s.heap.size ≤ q → A q) {r : (Int32 × Md)} : ∀ (u : Md) (x1 : Int32) (x2 : Int32) (x3 : Int64) (x5 : Int64) (x7 : Int32) (x8 : Int32) (x9 : Int64), f9_readNumber_62 u x1 x2 x3 x5 x7 x8 x9 = some r → ∀ {H : Heap} {locs : List Loc}, va_P D vwCl (cM cI cJ a u) H → va_D A (cM cI cJ a u) → va_S A s.heap H locs → ∀ {ls : Array Slot}, lv_has ls 15 [(0, .ref (a 0)), (1, .int x1), (2, .int x2), (3, .long x3), (5, .long x5), (7, .int x7), (8, .int x8), (9, .long x9)] → W p l e rm9_readNumber s m args below meth c H locs 0 0 (MQ below (qW (some (.int r.1)) (cM cI cJ a r.2) D (ty3 cI cJ cC) A) args s 0 0 A) (F0 m 62 ls []) := by
  have hx := C.1.1
  have hb := C.1.2.1
  have hts := C.1.2.2.2.2
  have hown := C.1.2.2.2.1
  have hin : ∀ w ∈ wsX90, w ∈ ws9_readNumber := fun w h => List.mem_cons_of_mem _ (List.mem_append_right _ h)
  intro u x1 x2 x3 x5 x7 x8 x9 hf H locs hP hD hS ls hl
  unfold f9_readNumber_62 at hf
  refine lv_iload_n hx hb dX9_readNumber_62 rfl (lv_at hl 2 rfl) ?_
  refine lv_if_eq (tgt := 158) hx hb dX9_readNumber_63 (by decide) (fun c_11 => ?_) (fun c_11 => ?_)
  · replace hf := og_t c_11 hf
    exact w9_readNumber_158 C hK hA u x1 x3 x5 x7 x8 x9 hf hP hD hS (lv_sub hl [0, 1, 3, 4, 5, 6, 7] rfl)
  · replace hf := og_f c_11 hf
    refine lv_aload_n hx hb dX9_readNumber_66 rfl (lv_at hl 0 rfl) ?_
    refine mg9 (v := .int (gi u 18)) C hin hK hP 18 (by decide) (hts (Cond.fieldLink RX9 84 "SchematicTextModel" "fault" "I") (List.mem_cons_of_mem _ m9_48)) rfl dX9_readNumber_67 ?_
    refine lv_iconst (v := (-1 : Int32)) hx hb dX9_readNumber_70 (by decide) ?_
    refine lv_icmp_ne (tgt := 158) hx hb dX9_readNumber_71 (by decide) (fun c_12 => ?_) (fun c_12 => ?_)
    · replace hf := og_f c_12 hf
      exact w9_readNumber_158 C hK hA u x1 x3 x5 x7 x8 x9 hf hP hD hS (lv_sub hl [0, 1, 3, 4, 5, 6, 7] rfl)
    · replace hf := og_t c_12 hf
      refine lv_aload_n hx hb dX9_readNumber_74 rfl (lv_at hl 0 rfl) ?_
      refine lv_iload hx hb dX9_readNumber_75 (lv_at hl 6 rfl) ?_
      obtain ⟨r_14, h_13, hf⟩ := og_b hf
      try dsimp only at hf
      refine ck_r (v := .int r_14) (rest := []) C.1 (c9_c l D cI cJ cC a u x8 r_14 _ h_13) (cwV 1 hts g9_c rfl rfl rfl hd9_c ⟨Nat.le_of_ble_eq_true rfl, Nat.le_of_ble_eq_true rfl⟩) hK hP hD (q0 := 0) (ci := 6) rfl rfl rfl rfl hl.1 rfl (Nat.le_of_ble_eq_true rfl) ⟨Nat.zero_le _, Nat.zero_le _⟩ dX9_readNumber_77 ?_
      refine lv_bipush (v := (46 : Int32)) hx hb dX9_readNumber_80 (by decide) ?_
      refine lv_icmp_ne (tgt := 158) hx hb dX9_readNumber_82 (by decide) (fun c_15 => ?_) (fun c_15 => ?_)
      · replace hf := og_f c_15 hf
        exact w9_readNumber_158 C hK hA u x1 x3 x5 x7 x8 x9 hf hP hD hS (lv_sub hl [0, 1, 3, 4, 5, 6, 7] rfl)
      · replace hf := og_t c_15 hf
        refine lv_aload_n hx hb dX9_readNumber_85 rfl (lv_at hl 0 rfl) ?_
        refine lv_iload hx hb dX9_readNumber_86 (lv_at hl 6 rfl) ?_
        refine lv_iconst (v := (1 : Int32)) hx hb dX9_readNumber_88 (by decide) ?_
        refine lv_iadd hx hb dX9_readNumber_89 ?_
        refine lv_bipush (v := (6 : Int32)) hx hb dX9_readNumber_90 (by decide) ?_
        obtain ⟨⟨r_18, u_17⟩, h_16, hf⟩ := og_b hf
        try dsimp only at hf
        refine ck_w (ov := (some (.int r_18))) (st1 := [.int r_18]) (rest := []) C.1 (c9_digits l D cI cJ cC a u (x8 + (1 : Int32)) (6 : Int32) r_18 u_17  _ h_16) (cwV 2 hts g9_digits rfl rfl rfl hd9_digits ⟨Nat.le_of_ble_eq_true rfl, Nat.le_of_ble_eq_true rfl⟩) hK hA hP hD hS (q0 := 0) (ci := 6) rfl rfl rfl rfl hl.1 rfl rfl (Nat.le_of_ble_eq_true rfl) ⟨Nat.zero_le _, Nat.zero_le _⟩ dX9_readNumber_92 (fun H locs hP hD hS => ?_)
        refine lv_istore (lv' := [(11, .int r_18), (0, .ref (a 0)), (1, .int x1), (2, .int x2), (3, .long x3), (5, .long x5), (7, .int x7), (8, .int x8), (9, .long x9)]) hx hb dX9_readNumber_95 hl (by decide) rfl (fun ls hl => ?_)
        refine lv_aload_n hx hb dX9_readNumber_97 rfl (lv_at hl 1 rfl) ?_
        refine mg9 (v := .int (gi u_17 18)) C hin hK hP 18 (by decide) (hts (Cond.fieldLink RX9 84 "SchematicTextModel" "fault" "I") (List.mem_cons_of_mem _ m9_48)) rfl dX9_readNumber_98 ?_
        refine lv_iconst (v := (-1 : Int32)) hx hb dX9_readNumber_101 (by decide) ?_
        refine lv_icmp_ne (tgt := 154) hx hb dX9_readNumber_102 (by decide) (fun c_19 => ?_) (fun c_19 => ?_)
        · replace hf := og_f c_19 hf
          exact w9_readNumber_154 C hK hA u_17 x1 x3 x5 x7 x9 r_18 hf hP hD hS (lv_sub hl [1, 2, 4, 5, 6, 8, 0] rfl)
        · replace hf := og_t c_19 hf
          refine lv_aload_n hx hb dX9_readNumber_105 rfl (lv_at hl 1 rfl) ?_
          refine lv_iload hx hb dX9_readNumber_106 (lv_at hl 7 rfl) ?_
          refine lv_iconst (v := (1 : Int32)) hx hb dX9_readNumber_108 (by decide) ?_
          refine lv_iadd hx hb dX9_readNumber_109 ?_
          refine lv_iload hx hb dX9_readNumber_110 (lv_at hl 0 rfl) ?_
          obtain ⟨r_21, h_20, hf⟩ := og_b hf
          try dsimp only at hf
          refine ck_r (v := .long r_21) (rest := []) C.1 (c9_valueOf l D cI cJ cC a u_17 (x8 + (1 : Int32)) r_18 r_21 _ h_20) (cwV 2 hts g9_valueOf rfl rfl rfl hd9_valueOf ⟨Nat.le_of_ble_eq_true rfl, Nat.le_of_ble_eq_true rfl⟩) hK hP hD (q0 := 0) (ci := 6) rfl rfl rfl rfl hl.1 rfl (Nat.le_of_ble_eq_true rfl) ⟨Nat.zero_le _, Nat.zero_le _⟩ dX9_readNumber_112 ?_
          refine lv_lstore (lv' := [(12, .long r_21), (11, .int r_18), (0, .ref (a 0)), (1, .int x1), (2, .int x2), (3, .long x3), (5, .long x5), (7, .int x7), (8, .int x8), (9, .long x9)]) hx hb dX9_readNumber_115 hl (by decide) rfl (fun ls hl => ?_)
          refine lv_iload hx hb dX9_readNumber_117 (lv_at hl 1 rfl) ?_
          refine lv_iload hx hb dX9_readNumber_119 (lv_at hl 8 rfl) ?_
          refine lv_isub hx hb dX9_readNumber_121 ?_
          refine lv_iconst (v := (1 : Int32)) hx hb dX9_readNumber_122 (by decide) ?_
          refine lv_isub hx hb dX9_readNumber_123 ?_
          refine lv_istore (lv' := [(14, .int ((r_18 - x8) - (1 : Int32))), (12, .long r_21), (11, .int r_18), (0, .ref (a 0)), (1, .int x1), (2, .int x2), (3, .long x3), (5, .long x5), (7, .int x7), (8, .int x8), (9, .long x9)]) hx hb dX9_readNumber_124 hl (by decide) rfl (fun ls hl => ?_)
          exact w9_readNumber_126 C hK hA FU u_17 x1 x3 x5 x7 x9 r_18 r_21 ((r_18 - x8) - (1 : Int32)) hf hP hD hS (lv_sub hl [3, 4, 6, 7, 8, 10, 2, 1, 0] rfl)
def f9_readNumber_48 (u : Md) (x1 : Int32) (x2 : Int32) (x3 : Int64) (x5 : Int64) (x7 : Int32) (x8 : Int32) (y0 : Int64) : Option (Int32 × Md) := (if x2 = 0 then (f9_readNumber_62 u x1 x2 x3 x5 x7 x8 y0) else (f9_readNumber_62 u x1 x2 x3 x5 x7 x8 ((1000000 : Int64) * y0)))
set_option maxHeartbeats 4000000 in
set_option maxRecDepth 100000 in
theorem w9_readNumber_48 {p : Program} {l : Launch} {e : Env} {s : State} {m : MethodId} {args : Array Value} {below : List Frame} {meth : Method} {c : Code} (C : Cx p s m args meth c cX9_readNumber 15 ws9_readNumber RX9 (some .int)) {D : va_G} {cI cJ cC : ClassId} {a : Nat → Nat} {A : Nat → Prop} (hK : va_K D vwCl (ty3 cI cJ cC) s) (hA : ∀ q : Nat, s.heap.size ≤ q → A q) {r : (Int32 × Md)} : ∀ (u : Md) (x1 : Int32) (x2 : Int32) (x3 : Int64) (x5 : Int64) (x7 : Int32) (x8 : Int32) (y0 : Int64), f9_readNumber_48 u x1 x2 x3 x5 x7 x8 y0 = some r → ∀ {H : Heap} {locs : List Loc}, va_P D vwCl (cM cI cJ a u) H → va_D A (cM cI cJ a u) → va_S A s.heap H locs → ∀ {ls : Array Slot}, lv_has ls 15 [(0, .ref (a 0)), (1, .int x1), (2, .int x2), (3, .long x3), (5, .long x5), (7, .int x7), (8, .int x8)] → W p l e rm9_readNumber s m args below meth c H locs 0 0 (MQ below (qW (some (.int r.1)) (cM cI cJ a r.2) D (ty3 cI cJ cC) A) args s 0 0 A) (F0 m 48 ls [.long y0]) := by
  have hx := C.1.1
  have hb := C.1.2.1
  have hts := C.1.2.2.2.2
  have hown := C.1.2.2.2.1
  have hin : ∀ w ∈ wsX90, w ∈ ws9_readNumber := fun w h => List.mem_cons_of_mem _ (List.mem_append_right _ h)
  intro u x1 x2 x3 x5 x7 x8 y0 hf H locs hP hD hS ls hl
  unfold f9_readNumber_48 at hf
  refine lv_lstore (lv' := [(9, .long y0), (0, .ref (a 0)), (1, .int x1), (2, .int x2), (3, .long x3), (5, .long x5), (7, .int x7), (8, .int x8)]) hx hb dX9_readNumber_48 hl (by decide) rfl (fun ls hl => ?_)
  refine lv_iload_n hx hb dX9_readNumber_50 rfl (lv_at hl 3 rfl) ?_
  refine lv_if_eq (tgt := 62) hx hb dX9_readNumber_51 (by decide) (fun c_10 => ?_) (fun c_10 => ?_)
  · replace hf := og_t c_10 hf
    exact w9_readNumber_62 C hK hA u x1 x2 x3 x5 x7 x8 y0 hf hP hD hS (lv_sub hl [1, 2, 3, 4, 5, 6, 7, 0] rfl)
  · replace hf := og_f c_10 hf
    refine lv_ldc2 (v := (1000000 : Int64)) hx hb hown (hts (Cond.constantLong RX9 113 (1000000)) (List.mem_cons_of_mem _ m9_68)) dX9_readNumber_54 ?_
    refine lv_lload hx hb dX9_readNumber_57 (lv_at hl 0 rfl) ?_
    refine lv_lmul hx hb dX9_readNumber_59 ?_
    refine lv_lstore (lv' := [(9, .long ((1000000 : Int64) * y0)), (0, .ref (a 0)), (1, .int x1), (2, .int x2), (3, .long x3), (5, .long x5), (7, .int x7), (8, .int x8)]) hx hb dX9_readNumber_60 hl (by decide) rfl (fun ls hl => ?_)
    exact w9_readNumber_62 C hK hA u x1 x2 x3 x5 x7 x8 ((1000000 : Int64) * y0) hf hP hD hS (lv_sub hl [1, 2, 3, 4, 5, 6, 7, 0] rfl)
def f9_readNumber_17 (u : Md) (x1 : Int32) (x2 : Int32) (x3 : Int64) (x5 : Int64) (y0 : Int32) : Option (Int32 × Md) := ((f9_digits u y0 (4 : Int32)).bind fun p_6 => (if (gi p_6.2 18) = (-1 : Int32) then ((f9_valueOf p_6.2 y0 p_6.1).bind fun r_9 => (f9_readNumber_48 p_6.2 x1 x2 x3 x5 y0 p_6.1 r_9)) else (f9_readNumber_48 p_6.2 x1 x2 x3 x5 y0 p_6.1 (0 : Int64))))
set_option maxHeartbeats 4000000 in
set_option maxRecDepth 100000 in
theorem w9_readNumber_17 {p : Program} {l : Launch} {e : Env} {s : State} {m : MethodId} {args : Array Value} {below : List Frame} {meth : Method} {c : Code} (C : Cx p s m args meth c cX9_readNumber 15 ws9_readNumber RX9 (some .int)) {D : va_G} {cI cJ cC : ClassId} {a : Nat → Nat} {A : Nat → Prop} (hK : va_K D vwCl (ty3 cI cJ cC) s) (hA : ∀ q : Nat, s.heap.size ≤ q → A q) {r : (Int32 × Md)} : ∀ (u : Md) (x1 : Int32) (x2 : Int32) (x3 : Int64) (x5 : Int64) (y0 : Int32), f9_readNumber_17 u x1 x2 x3 x5 y0 = some r → ∀ {H : Heap} {locs : List Loc}, va_P D vwCl (cM cI cJ a u) H → va_D A (cM cI cJ a u) → va_S A s.heap H locs → ∀ {ls : Array Slot}, lv_has ls 15 [(0, .ref (a 0)), (1, .int x1), (2, .int x2), (3, .long x3), (5, .long x5)] → W p l e rm9_readNumber s m args below meth c H locs 0 0 (MQ below (qW (some (.int r.1)) (cM cI cJ a r.2) D (ty3 cI cJ cC) A) args s 0 0 A) (F0 m 17 ls [.int y0]) := by
  have hx := C.1.1
  have hb := C.1.2.1
  have hts := C.1.2.2.2.2
  have hown := C.1.2.2.2.1
  have hin : ∀ w ∈ wsX90, w ∈ ws9_readNumber := fun w h => List.mem_cons_of_mem _ (List.mem_append_right _ h)
  intro u x1 x2 x3 x5 y0 hf H locs hP hD hS ls hl
  unfold f9_readNumber_17 at hf
  refine lv_istore (lv' := [(7, .int y0), (0, .ref (a 0)), (1, .int x1), (2, .int x2), (3, .long x3), (5, .long x5)]) hx hb dX9_readNumber_17 hl (by decide) rfl (fun ls hl => ?_)
  refine lv_aload_n hx hb dX9_readNumber_19 rfl (lv_at hl 1 rfl) ?_
  refine lv_iload hx hb dX9_readNumber_20 (lv_at hl 0 rfl) ?_
  refine lv_iconst (v := (4 : Int32)) hx hb dX9_readNumber_22 (by decide) ?_
  obtain ⟨⟨r_6, u_5⟩, h_4, hf⟩ := og_b hf
  try dsimp only at hf
  refine ck_w (ov := (some (.int r_6))) (st1 := [.int r_6]) (rest := []) C.1 (c9_digits l D cI cJ cC a u y0 (4 : Int32) r_6 u_5  _ h_4) (cwV 2 hts g9_digits rfl rfl rfl hd9_digits ⟨Nat.le_of_ble_eq_true rfl, Nat.le_of_ble_eq_true rfl⟩) hK hA hP hD hS (q0 := 0) (ci := 6) rfl rfl rfl rfl hl.1 rfl rfl (Nat.le_of_ble_eq_true rfl) ⟨Nat.zero_le _, Nat.zero_le _⟩ dX9_readNumber_23 (fun H locs hP hD hS => ?_)
  refine lv_istore (lv' := [(8, .int r_6), (7, .int y0), (0, .ref (a 0)), (1, .int x1), (2, .int x2), (3, .long x3), (5, .long x5)]) hx hb dX9_readNumber_26 hl (by decide) rfl (fun ls hl => ?_)
  refine lv_aload_n hx hb dX9_readNumber_28 rfl (lv_at hl 2 rfl) ?_
  refine mg9 (v := .int (gi u_5 18)) C hin hK hP 18 (by decide) (hts (Cond.fieldLink RX9 84 "SchematicTextModel" "fault" "I") (List.mem_cons_of_mem _ m9_48)) rfl dX9_readNumber_29 ?_
  refine lv_iconst (v := (-1 : Int32)) hx hb dX9_readNumber_32 (by decide) ?_
  refine lv_icmp_ne (tgt := 47) hx hb dX9_readNumber_33 (by decide) (fun c_7 => ?_) (fun c_7 => ?_)
  · replace hf := og_f c_7 hf
    refine lv_lconst (v := (0 : Int64)) hx hb dX9_readNumber_47 (by decide) ?_
    exact w9_readNumber_48 C hK hA u_5 x1 x2 x3 x5 y0 r_6 (0 : Int64) hf hP hD hS (lv_sub hl [2, 3, 4, 5, 6, 1, 0] rfl)
  · replace hf := og_t c_7 hf
    refine lv_aload_n hx hb dX9_readNumber_36 rfl (lv_at hl 2 rfl) ?_
    refine lv_iload hx hb dX9_readNumber_37 (lv_at hl 1 rfl) ?_
    refine lv_iload hx hb dX9_readNumber_39 (lv_at hl 0 rfl) ?_
    obtain ⟨r_9, h_8, hf⟩ := og_b hf
    try dsimp only at hf
    refine ck_r (v := .long r_9) (rest := []) C.1 (c9_valueOf l D cI cJ cC a u_5 y0 r_6 r_9 _ h_8) (cwV 2 hts g9_valueOf rfl rfl rfl hd9_valueOf ⟨Nat.le_of_ble_eq_true rfl, Nat.le_of_ble_eq_true rfl⟩) hK hP hD (q0 := 0) (ci := 6) rfl rfl rfl rfl hl.1 rfl (Nat.le_of_ble_eq_true rfl) ⟨Nat.zero_le _, Nat.zero_le _⟩ dX9_readNumber_41 ?_
    refine lv_goto (tgt := 48) hx hb dX9_readNumber_44 (by decide) ?_
    exact w9_readNumber_48 C hK hA u_5 x1 x2 x3 x5 y0 r_6 r_9 hf hP hD hS (lv_sub hl [2, 3, 4, 5, 6, 1, 0] rfl)
def f9_readNumber (u : Md) (x1 : Int32) (x2 : Int32) (x3 : Int64) (x5 : Int64) : Option (Int32 × Md) := ((f9_c u x1).bind fun r_2 => (if r_2 = (45 : Int32) then (f9_readNumber_17 u x1 x2 x3 x5 (x1 + (1 : Int32))) else (f9_readNumber_17 u x1 x2 x3 x5 x1)))
set_option maxHeartbeats 4000000 in
set_option maxRecDepth 100000 in
theorem c9_readNumber (l : Launch) (D : va_G) (cI cJ cC : ClassId) (a : Nat → Nat) (u : Md) (x1 : Int32) (x2 : Int32) (x3 : Int64) (x5 : Int64) (r : Int32) (v : Md) (sz : Nat) (hf : f9_readNumber u x1 x2 x3 x5 = some (r, v)) : Met l yX9_readNumber ws9_readNumber rm9_readNumber (pW D (ty3 cI cJ cC) (cM cI cJ a u) sz [.ref (a 0), .int x1, .int x2, .long x3, .long x5]) (qW (some (.int r)) (cM cI cJ a v) D (ty3 cI cJ cC) (va_A (cM cI cJ a u) sz)) 0 0 (va_A (cM cI cJ a u) sz) := by
  refine mt_w (cc := cX9_readNumber) (maxL := 15) (ret := (some .int)) (by decide) rfl (Nat.le_of_ble_eq_true rfl) ?_
  intro p e s m below meth c ls A C hl hK hA hP hD hS
  have hl : lv_has ls 15 [(0, .ref (a 0)), (1, .int x1), (2, .int x2), (3, .long x3), (5, .long x5)] := hl
  have hx := C.1.1
  have hb := C.1.2.1
  have hts := C.1.2.2.2.2
  have hown := C.1.2.2.2.1
  have hin : ∀ w ∈ wsX90, w ∈ ws9_readNumber := fun w h => List.mem_cons_of_mem _ (List.mem_append_right _ h)
  unfold f9_readNumber at hf
  refine lv_aload_n hx hb dX9_readNumber_0 rfl (lv_at hl 0 rfl) ?_
  refine lv_iload_n hx hb dX9_readNumber_1 rfl (lv_at hl 1 rfl) ?_
  obtain ⟨r_2, h_1, hf⟩ := og_b hf
  try dsimp only at hf
  refine ck_r (v := .int r_2) (rest := []) C.1 (c9_c l D cI cJ cC a u x1 r_2 _ h_1) (cwV 1 hts g9_c rfl rfl rfl hd9_c ⟨Nat.le_of_ble_eq_true rfl, Nat.le_of_ble_eq_true rfl⟩) hK hP hD (q0 := 0) (ci := 6) rfl rfl rfl rfl hl.1 rfl (Nat.le_of_ble_eq_true rfl) ⟨Nat.zero_le _, Nat.zero_le _⟩ dX9_readNumber_2 ?_
  refine lv_bipush (v := (45 : Int32)) hx hb dX9_readNumber_5 (by decide) ?_
  refine lv_icmp_ne (tgt := 16) hx hb dX9_readNumber_7 (by decide) (fun c_3 => ?_) (fun c_3 => ?_)
  · replace hf := og_f c_3 hf
    refine lv_iload_n hx hb dX9_readNumber_16 rfl (lv_at hl 1 rfl) ?_
    exact w9_readNumber_17 C hK hA u x1 x2 x3 x5 x1 hf hP hD hS (lv_sub hl [0, 1, 2, 3, 4] rfl)
  · replace hf := og_t c_3 hf
    refine lv_iload_n hx hb dX9_readNumber_10 rfl (lv_at hl 1 rfl) ?_
    refine lv_iconst (v := (1 : Int32)) hx hb dX9_readNumber_11 (by decide) ?_
    refine lv_iadd hx hb dX9_readNumber_12 ?_
    refine lv_goto (tgt := 17) hx hb dX9_readNumber_13 (by decide) ?_
    exact w9_readNumber_17 C hK hA u x1 x2 x3 x5 (x1 + (1 : Int32)) hf hP hD hS (lv_sub hl [0, 1, 2, 3, 4] rfl)
