abbrev rm9_isObject : Room := { frames := 0, cells := 0, slots := 0, locals := 0 }
noncomputable abbrev ws9_isObject : List Cond := Cond.code yX9_isObject cX9_isObject 2 (some .boolean) :: WA9
theorem g9_isObject {c0 : Cond} : GoodIn (c0 :: WA9) (wsV RX9 250 RX9 yX9_isObject ws9_isObject) := gd9_v m9_191 m9_192 m9_193 m9_29 m9_189
theorem hd9_isObject : yX9_isObject.cls = RX9 ∧ yX9_isObject.cls ≠ "java/lang/invoke/MethodHandle" ∧ yX9_isObject.cls ≠ "java/lang/invoke/VarHandle" ∧ (parseMethodDescriptor yX9_isObject.desc).map (fun d => d.parameters.length) = some 1 := by decide +kernel
def f9_isObject (u : Md) (x1 : Int32) : Option Int32 := (if x1 < 0 then (some (0 : Int32)) else (if (gi u 4) ≤ x1 then (some (0 : Int32)) else (some (1 : Int32))))
set_option maxHeartbeats 4000000 in
set_option maxRecDepth 100000 in
theorem c9_isObject (l : Launch) (D : va_G) (cI cJ cC : ClassId) (a : Nat → Nat) (u : Md) (x1 : Int32) (r : Int32) (sz : Nat) (hf : f9_isObject u x1 = some r) : Met l yX9_isObject ws9_isObject rm9_isObject (pW D (ty3 cI cJ cC) (cM cI cJ a u) sz [.ref (a 0), .int x1]) (k2_QcV (.int r)) 0 0 (fun _ => False) := by
  refine mt_r (cc := cX9_isObject) (maxL := 2) (ret := (some .boolean)) (by decide) rfl (Nat.le_of_ble_eq_true rfl) ?_
  intro p e s m below meth c ls C hl hK hP hD
  have hl : lv_has ls 2 [(0, .ref (a 0)), (1, .int x1)] := hl
  have hx := C.1.1
  have hb := C.1.2.1
  have hts := C.1.2.2.2.2
  have hown := C.1.2.2.2.1
  have hin : ∀ w ∈ wsX90, w ∈ ws9_isObject := fun w h => List.mem_cons_of_mem _ (List.mem_append_right _ h)
  unfold f9_isObject at hf
  refine lv_iload_n hx hb dX9_isObject_0 rfl (lv_at hl 1 rfl) ?_
  refine lv_if_lt (tgt := 16) hx hb dX9_isObject_1 (by decide) (fun c_1 => ?_) (fun c_1 => ?_)
  · replace hf := og_t c_1 hf
    refine lv_iconst (v := (0 : Int32)) hx hb dX9_isObject_16 (by decide) ?_
    obtain rfl := og_s hf
    exact rt_z C (nz_z (Or.inl rfl)) dX9_isObject_17
  · replace hf := og_f c_1 hf
    refine lv_iload_n hx hb dX9_isObject_4 rfl (lv_at hl 1 rfl) ?_
    refine lv_aload_n hx hb dX9_isObject_5 rfl (lv_at hl 0 rfl) ?_
    refine mg9 (v := .int (gi u 4)) C hin hK hP 4 (by decide) (hts (Cond.fieldLink RX9 241 "SchematicTextModel" "objects" "I") (List.mem_cons_of_mem _ m9_183)) rfl dX9_isObject_6 ?_
    refine lv_icmp_ge (tgt := 16) hx hb dX9_isObject_9 (by decide) (fun c_2 => ?_) (fun c_2 => ?_)
    · replace hf := og_t c_2 hf
      refine lv_iconst (v := (0 : Int32)) hx hb dX9_isObject_16 (by decide) ?_
      obtain rfl := og_s hf
      exact rt_z C (nz_z (Or.inl rfl)) dX9_isObject_17
    · replace hf := og_f c_2 hf
      refine lv_iconst (v := (1 : Int32)) hx hb dX9_isObject_12 (by decide) ?_
      refine lv_goto (tgt := 17) hx hb dX9_isObject_13 (by decide) ?_
      obtain rfl := og_s hf
      exact rt_z C (nz_z (Or.inr rfl)) dX9_isObject_17
abbrev rm9_kind : Room := { frames := 1, cells := 0, slots := 0, locals := 21 }
noncomputable abbrev ws9_kind : List Cond := Cond.code yX9_kind cX9_kind 2 (some .int) :: WA9
theorem hd9_kind : yX9_kind.cls = RX9 ∧ yX9_kind.cls ≠ "java/lang/invoke/MethodHandle" ∧ yX9_kind.cls ≠ "java/lang/invoke/VarHandle" ∧ (parseMethodDescriptor yX9_kind.desc).map (fun d => d.parameters.length) = some 1 := by decide +kernel
def f9_kind_14 (u : Md) (x1 : Int32) (y0 : Int32) : Option (Int32 × Md) := (if y0 = 0 then (if x1 < 0 ∨ 200 ≤ (x1).toNatClampNeg then none else (some (((ga u 5) (x1).toNatClampNeg), (si u 0 y0)))) else (some ((0 : Int32), (si u 0 y0))))
set_option maxHeartbeats 4000000 in
set_option maxRecDepth 100000 in
theorem w9_kind_14 {p : Program} {l : Launch} {e : Env} {s : State} {m : MethodId} {args : Array Value} {below : List Frame} {meth : Method} {c : Code} (C : Cx p s m args meth c cX9_kind 2 ws9_kind RX9 (some .int)) {D : va_G} {cI cJ cC : ClassId} {a : Nat → Nat} {A : Nat → Prop} (hK : va_K D vwCl (ty3 cI cJ cC) s) (hA : ∀ q : Nat, s.heap.size ≤ q → A q) {r : (Int32 × Md)} : ∀ (u : Md) (x1 : Int32) (y0 : Int32), f9_kind_14 u x1 y0 = some r → ∀ {H : Heap} {locs : List Loc}, va_P D vwCl (cM cI cJ a u) H → va_D A (cM cI cJ a u) → va_S A s.heap H locs → ∀ {ls : Array Slot}, lv_has ls 2 [(0, .ref (a 0)), (1, .int x1)] → W p l e rm9_kind s m args below meth c H locs 0 0 (MQ below (qW (some (.int r.1)) (cM cI cJ a r.2) D (ty3 cI cJ cC) A) args s 0 0 A) (F0 m 14 ls [.int y0, .ref (a 0)]) := by
  have hx := C.1.1
  have hb := C.1.2.1
  have hts := C.1.2.2.2.2
  have hown := C.1.2.2.2.1
  have hin : ∀ w ∈ wsX90, w ∈ ws9_kind := fun w h => List.mem_cons_of_mem _ (List.mem_append_right _ h)
  intro u x1 y0 hf H locs hP hD hS ls hl
  unfold f9_kind_14 at hf
  refine mp9_0 C hin hK hP hD hS (hts (Cond.fieldLink RX9 52 "SchematicTextModel" "thrown" "I") (List.mem_cons_of_mem _ m9_20)) dX9_kind_14 (fun H locs hP hD hS => ?_)
  refine lv_aload_n hx hb dX9_kind_17 rfl (lv_at hl 0 rfl) ?_
  refine mg9 (v := .int y0) C hin hK hP 0 (by decide) (hts (Cond.fieldLink RX9 52 "SchematicTextModel" "thrown" "I") (List.mem_cons_of_mem _ m9_20)) rfl dX9_kind_18 ?_
  refine lv_if_ne (tgt := 33) hx hb dX9_kind_21 (by decide) (fun c_4 => ?_) (fun c_4 => ?_)
  · replace hf := og_f c_4 hf
    refine lv_iconst (v := (0 : Int32)) hx hb dX9_kind_33 (by decide) ?_
    obtain rfl := og_s hf
    exact rw_i C hK hP hD hS dX9_kind_34
  · replace hf := og_t c_4 hf
    refine lv_aload_n hx hb dX9_kind_24 rfl (lv_at hl 0 rfl) ?_
    refine mg9 (v := .ref (a 5)) C hin hK hP 5 (by decide) (hts (Cond.fieldLink RX9 13 "SchematicTextModel" "kinds" "[I") (List.mem_cons_of_mem _ m9_6)) rfl dX9_kind_25 ?_
    refine lv_iload_n hx hb dX9_kind_28 rfl (lv_at hl 1 rfl) ?_
    obtain ⟨h_5, hf⟩ := og_n hf
    refine va_iald (f := (ga u 5)) hx hb hK hP 2 0 rfl rfl h_5 dX9_kind_29 ?_
    refine lv_goto (tgt := 34) hx hb dX9_kind_30 (by decide) ?_
    obtain rfl := og_s hf
    exact rw_i C hK hP hD hS dX9_kind_34
def f9_kind (u : Md) (x1 : Int32) : Option (Int32 × Md) := ((f9_isObject u x1).bind fun r_2 => (if r_2 = 0 then (f9_kind_14 u x1 (1 : Int32)) else (f9_kind_14 u x1 (0 : Int32))))
set_option maxHeartbeats 4000000 in
set_option maxRecDepth 100000 in
theorem c9_kind (l : Launch) (D : va_G) (cI cJ cC : ClassId) (a : Nat → Nat) (u : Md) (x1 : Int32) (r : Int32) (v : Md) (sz : Nat) (hf : f9_kind u x1 = some (r, v)) : Met l yX9_kind ws9_kind rm9_kind (pW D (ty3 cI cJ cC) (cM cI cJ a u) sz [.ref (a 0), .int x1]) (qW (some (.int r)) (cM cI cJ a v) D (ty3 cI cJ cC) (va_A (cM cI cJ a u) sz)) 0 0 (va_A (cM cI cJ a u) sz) := by
  refine mt_w (cc := cX9_kind) (maxL := 2) (ret := (some .int)) (by decide) rfl (Nat.le_of_ble_eq_true rfl) ?_
  intro p e s m below meth c ls A C hl hK hA hP hD hS
  have hl : lv_has ls 2 [(0, .ref (a 0)), (1, .int x1)] := hl
  have hx := C.1.1
  have hb := C.1.2.1
  have hts := C.1.2.2.2.2
  have hown := C.1.2.2.2.1
  have hin : ∀ w ∈ wsX90, w ∈ ws9_kind := fun w h => List.mem_cons_of_mem _ (List.mem_append_right _ h)
  unfold f9_kind at hf
  refine lv_aload_n hx hb dX9_kind_0 rfl (lv_at hl 0 rfl) ?_
  refine lv_aload_n hx hb dX9_kind_1 rfl (lv_at hl 0 rfl) ?_
  refine lv_iload_n hx hb dX9_kind_2 rfl (lv_at hl 1 rfl) ?_
  obtain ⟨r_2, h_1, hf⟩ := og_b hf
  try dsimp only at hf
  refine ck_r (v := .int r_2) (rest := [.ref (a 0)]) C.1 (c9_isObject l D cI cJ cC a u x1 r_2 _ h_1) (cwV 1 hts g9_isObject rfl rfl rfl hd9_isObject ⟨Nat.le_of_ble_eq_true rfl, Nat.le_of_ble_eq_true rfl⟩) hK hP hD (q0 := 0) (ci := 6) rfl rfl rfl rfl hl.1 rfl (Nat.le_of_ble_eq_true rfl) ⟨Nat.zero_le _, Nat.zero_le _⟩ dX9_kind_3 ?_
  refine lv_if_eq (tgt := 13) hx hb dX9_kind_6 (by decide) (fun c_3 => ?_) (fun c_3 => ?_)
  · replace hf := og_t c_3 hf
    refine lv_iconst (v := (1 : Int32)) hx hb dX9_kind_13 (by decide) ?_
    exact w9_kind_14 C hK hA u x1 (1 : Int32) hf hP hD hS (lv_sub hl [0, 1] rfl)
  · replace hf := og_f c_3 hf
    refine lv_iconst (v := (0 : Int32)) hx hb dX9_kind_9 (by decide) ?_
    refine lv_goto (tgt := 14) hx hb dX9_kind_10 (by decide) ?_
    exact w9_kind_14 C hK hA u x1 (0 : Int32) hf hP hD hS (lv_sub hl [0, 1] rfl)
abbrev rm9_parent : Room := { frames := 1, cells := 0, slots := 0, locals := 21 }
noncomputable abbrev ws9_parent : List Cond := Cond.code yX9_parent cX9_parent 2 (some .int) :: WA9
theorem hd9_parent : yX9_parent.cls = RX9 ∧ yX9_parent.cls ≠ "java/lang/invoke/MethodHandle" ∧ yX9_parent.cls ≠ "java/lang/invoke/VarHandle" ∧ (parseMethodDescriptor yX9_parent.desc).map (fun d => d.parameters.length) = some 1 := by decide +kernel
def f9_parent_14 (u : Md) (x1 : Int32) (y0 : Int32) : Option (Int32 × Md) := (if y0 = 0 then (if x1 < 0 ∨ 200 ≤ (x1).toNatClampNeg then none else (some (((ga u 6) (x1).toNatClampNeg), (si u 0 y0)))) else (some ((0 : Int32), (si u 0 y0))))
set_option maxHeartbeats 4000000 in
set_option maxRecDepth 100000 in
theorem w9_parent_14 {p : Program} {l : Launch} {e : Env} {s : State} {m : MethodId} {args : Array Value} {below : List Frame} {meth : Method} {c : Code} (C : Cx p s m args meth c cX9_parent 2 ws9_parent RX9 (some .int)) {D : va_G} {cI cJ cC : ClassId} {a : Nat → Nat} {A : Nat → Prop} (hK : va_K D vwCl (ty3 cI cJ cC) s) (hA : ∀ q : Nat, s.heap.size ≤ q → A q) {r : (Int32 × Md)} : ∀ (u : Md) (x1 : Int32) (y0 : Int32), f9_parent_14 u x1 y0 = some r → ∀ {H : Heap} {locs : List Loc}, va_P D vwCl (cM cI cJ a u) H → va_D A (cM cI cJ a u) → va_S A s.heap H locs → ∀ {ls : Array Slot}, lv_has ls 2 [(0, .ref (a 0)), (1, .int x1)] → W p l e rm9_parent s m args below meth c H locs 0 0 (MQ below (qW (some (.int r.1)) (cM cI cJ a r.2) D (ty3 cI cJ cC) A) args s 0 0 A) (F0 m 14 ls [.int y0, .ref (a 0)]) := by
  have hx := C.1.1
  have hb := C.1.2.1
  have hts := C.1.2.2.2.2
  have hown := C.1.2.2.2.1
  have hin : ∀ w ∈ wsX90, w ∈ ws9_parent := fun w h => List.mem_cons_of_mem _ (List.mem_append_right _ h)
  intro u x1 y0 hf H locs hP hD hS ls hl
  unfold f9_parent_14 at hf
  refine mp9_0 C hin hK hP hD hS (hts (Cond.fieldLink RX9 52 "SchematicTextModel" "thrown" "I") (List.mem_cons_of_mem _ m9_20)) dX9_parent_14 (fun H locs hP hD hS => ?_)
  refine lv_aload_n hx hb dX9_parent_17 rfl (lv_at hl 0 rfl) ?_
  refine mg9 (v := .int y0) C hin hK hP 0 (by decide) (hts (Cond.fieldLink RX9 52 "SchematicTextModel" "thrown" "I") (List.mem_cons_of_mem _ m9_20)) rfl dX9_parent_18 ?_
  refine lv_if_ne (tgt := 33) hx hb dX9_parent_21 (by decide) (fun c_4 => ?_) (fun c_4 => ?_)
  · replace hf := og_f c_4 hf
    refine lv_iconst (v := (0 : Int32)) hx hb dX9_parent_33 (by decide) ?_
    obtain rfl := og_s hf
    exact rw_i C hK hP hD hS dX9_parent_34
  · replace hf := og_t c_4 hf
    refine lv_aload_n hx hb dX9_parent_24 rfl (lv_at hl 0 rfl) ?_
    refine mg9 (v := .ref (a 6)) C hin hK hP 6 (by decide) (hts (Cond.fieldLink RX9 16 "SchematicTextModel" "parents" "[I") (List.mem_cons_of_mem _ m9_7)) rfl dX9_parent_25 ?_
    refine lv_iload_n hx hb dX9_parent_28 rfl (lv_at hl 1 rfl) ?_
    obtain ⟨h_5, hf⟩ := og_n hf
    refine va_iald (f := (ga u 6)) hx hb hK hP 3 0 rfl rfl h_5 dX9_parent_29 ?_
    refine lv_goto (tgt := 34) hx hb dX9_parent_30 (by decide) ?_
    obtain rfl := og_s hf
    exact rw_i C hK hP hD hS dX9_parent_34
def f9_parent (u : Md) (x1 : Int32) : Option (Int32 × Md) := ((f9_isObject u x1).bind fun r_2 => (if r_2 = 0 then (f9_parent_14 u x1 (1 : Int32)) else (f9_parent_14 u x1 (0 : Int32))))
set_option maxHeartbeats 4000000 in
set_option maxRecDepth 100000 in
theorem c9_parent (l : Launch) (D : va_G) (cI cJ cC : ClassId) (a : Nat → Nat) (u : Md) (x1 : Int32) (r : Int32) (v : Md) (sz : Nat) (hf : f9_parent u x1 = some (r, v)) : Met l yX9_parent ws9_parent rm9_parent (pW D (ty3 cI cJ cC) (cM cI cJ a u) sz [.ref (a 0), .int x1]) (qW (some (.int r)) (cM cI cJ a v) D (ty3 cI cJ cC) (va_A (cM cI cJ a u) sz)) 0 0 (va_A (cM cI cJ a u) sz) := by
  refine mt_w (cc := cX9_parent) (maxL := 2) (ret := (some .int)) (by decide) rfl (Nat.le_of_ble_eq_true rfl) ?_
  intro p e s m below meth c ls A C hl hK hA hP hD hS
  have hl : lv_has ls 2 [(0, .ref (a 0)), (1, .int x1)] := hl
  have hx := C.1.1
  have hb := C.1.2.1
  have hts := C.1.2.2.2.2
  have hown := C.1.2.2.2.1
  have hin : ∀ w ∈ wsX90, w ∈ ws9_parent := fun w h => List.mem_cons_of_mem _ (List.mem_append_right _ h)
  unfold f9_parent at hf
  refine lv_aload_n hx hb dX9_parent_0 rfl (lv_at hl 0 rfl) ?_
  refine lv_aload_n hx hb dX9_parent_1 rfl (lv_at hl 0 rfl) ?_
  refine lv_iload_n hx hb dX9_parent_2 rfl (lv_at hl 1 rfl) ?_
  obtain ⟨r_2, h_1, hf⟩ := og_b hf
  try dsimp only at hf
  refine ck_r (v := .int r_2) (rest := [.ref (a 0)]) C.1 (c9_isObject l D cI cJ cC a u x1 r_2 _ h_1) (cwV 1 hts g9_isObject rfl rfl rfl hd9_isObject ⟨Nat.le_of_ble_eq_true rfl, Nat.le_of_ble_eq_true rfl⟩) hK hP hD (q0 := 0) (ci := 6) rfl rfl rfl rfl hl.1 rfl (Nat.le_of_ble_eq_true rfl) ⟨Nat.zero_le _, Nat.zero_le _⟩ dX9_parent_3 ?_
  refine lv_if_eq (tgt := 13) hx hb dX9_parent_6 (by decide) (fun c_3 => ?_) (fun c_3 => ?_)
  · replace hf := og_t c_3 hf
    refine lv_iconst (v := (1 : Int32)) hx hb dX9_parent_13 (by decide) ?_
    exact w9_parent_14 C hK hA u x1 (1 : Int32) hf hP hD hS (lv_sub hl [0, 1] rfl)
  · replace hf := og_f c_3 hf
    refine lv_iconst (v := (0 : Int32)) hx hb dX9_parent_9 (by decide) ?_
    refine lv_goto (tgt := 14) hx hb dX9_parent_10 (by decide) ?_
    exact w9_parent_14 C hK hA u x1 (0 : Int32) hf hP hD hS (lv_sub hl [0, 1] rfl)
abbrev rm9_number : Room := { frames := 2, cells := 0, slots := 0, locals := 45 }
noncomputable abbrev ws9_number : List Cond := Cond.code yX9_number cX9_number 3 (some .long) :: WA9
theorem hd9_number : yX9_number.cls = RX9 ∧ yX9_number.cls ≠ "java/lang/invoke/MethodHandle" ∧ yX9_number.cls ≠ "java/lang/invoke/VarHandle" ∧ (parseMethodDescriptor yX9_number.desc).map (fun d => d.parameters.length) = some 2 := by decide +kernel
def f9_number_29 (u : Md) (x1 : Int32) (x2 : Int32) (y0 : Int32) : Option (Int64 × Md) := (if y0 = 0 then (if (((5 : Int32) * x1) + x2) < 0 ∨ 1000 ≤ ((((5 : Int32) * x1) + x2)).toNatClampNeg then none else (some (((gn u) ((((5 : Int32) * x1) + x2)).toNatClampNeg), (si u 0 y0)))) else (some ((0 : Int64), (si u 0 y0))))
set_option maxHeartbeats 4000000 in
set_option maxRecDepth 100000 in
theorem w9_number_29 {p : Program} {l : Launch} {e : Env} {s : State} {m : MethodId} {args : Array Value} {below : List Frame} {meth : Method} {c : Code} (C : Cx p s m args meth c cX9_number 3 ws9_number RX9 (some .long)) {D : va_G} {cI cJ cC : ClassId} {a : Nat → Nat} {A : Nat → Prop} (hK : va_K D vwCl (ty3 cI cJ cC) s) (hA : ∀ q : Nat, s.heap.size ≤ q → A q) {r : (Int64 × Md)} : ∀ (u : Md) (x1 : Int32) (x2 : Int32) (y0 : Int32), f9_number_29 u x1 x2 y0 = some r → ∀ {H : Heap} {locs : List Loc}, va_P D vwCl (cM cI cJ a u) H → va_D A (cM cI cJ a u) → va_S A s.heap H locs → ∀ {ls : Array Slot}, lv_has ls 3 [(0, .ref (a 0)), (1, .int x1), (2, .int x2)] → W p l e rm9_number s m args below meth c H locs 0 0 (MQ below (qW (some (.long r.1)) (cM cI cJ a r.2) D (ty3 cI cJ cC) A) args s 0 0 A) (F0 m 29 ls [.int y0, .ref (a 0)]) := by
  have hx := C.1.1
  have hb := C.1.2.1
  have hts := C.1.2.2.2.2
  have hown := C.1.2.2.2.1
  have hin : ∀ w ∈ wsX90, w ∈ ws9_number := fun w h => List.mem_cons_of_mem _ (List.mem_append_right _ h)
  intro u x1 x2 y0 hf H locs hP hD hS ls hl
  unfold f9_number_29 at hf
  refine mp9_0 C hin hK hP hD hS (hts (Cond.fieldLink RX9 52 "SchematicTextModel" "thrown" "I") (List.mem_cons_of_mem _ m9_20)) dX9_number_29 (fun H locs hP hD hS => ?_)
  refine lv_aload_n hx hb dX9_number_32 rfl (lv_at hl 0 rfl) ?_
  refine mg9 (v := .int y0) C hin hK hP 0 (by decide) (hts (Cond.fieldLink RX9 52 "SchematicTextModel" "thrown" "I") (List.mem_cons_of_mem _ m9_20)) rfl dX9_number_33 ?_
  refine lv_if_ne (tgt := 52) hx hb dX9_number_36 (by decide) (fun c_8 => ?_) (fun c_8 => ?_)
  · replace hf := og_f c_8 hf
    refine lv_lconst (v := (0 : Int64)) hx hb dX9_number_52 (by decide) ?_
    obtain rfl := og_s hf
    exact rw_l C hK hP hD hS dX9_number_53
  · replace hf := og_t c_8 hf
    refine lv_aload_n hx hb dX9_number_39 rfl (lv_at hl 0 rfl) ?_
    refine mg9 (v := .ref (a 7)) C hin hK hP 7 (by decide) (hts (Cond.fieldLink RX9 19 "SchematicTextModel" "numbers" "[J") (List.mem_cons_of_mem _ m9_9)) rfl dX9_number_40 ?_
    refine lv_iconst (v := (5 : Int32)) hx hb dX9_number_43 (by decide) ?_
    refine lv_iload_n hx hb dX9_number_44 rfl (lv_at hl 1 rfl) ?_
    refine lv_imul hx hb dX9_number_45 ?_
    refine lv_iload_n hx hb dX9_number_46 rfl (lv_at hl 2 rfl) ?_
    refine lv_iadd hx hb dX9_number_47 ?_
    obtain ⟨h_9, hf⟩ := og_n hf
    refine va_lald (f := (gn u)) hx hb hK hP 4 1 rfl rfl h_9 dX9_number_48 ?_
    refine lv_goto (tgt := 53) hx hb dX9_number_49 (by decide) ?_
    obtain rfl := og_s hf
    exact rw_l C hK hP hD hS dX9_number_53
def f9_number_28 (u : Md) (x1 : Int32) (x2 : Int32) : Option (Int64 × Md) := (f9_number_29 u x1 x2 (1 : Int32))
set_option maxHeartbeats 4000000 in
set_option maxRecDepth 100000 in
theorem w9_number_28 {p : Program} {l : Launch} {e : Env} {s : State} {m : MethodId} {args : Array Value} {below : List Frame} {meth : Method} {c : Code} (C : Cx p s m args meth c cX9_number 3 ws9_number RX9 (some .long)) {D : va_G} {cI cJ cC : ClassId} {a : Nat → Nat} {A : Nat → Prop} (hK : va_K D vwCl (ty3 cI cJ cC) s) (hA : ∀ q : Nat, s.heap.size ≤ q → A q) {r : (Int64 × Md)} : ∀ (u : Md) (x1 : Int32) (x2 : Int32), f9_number_28 u x1 x2 = some r → ∀ {H : Heap} {locs : List Loc}, va_P D vwCl (cM cI cJ a u) H → va_D A (cM cI cJ a u) → va_S A s.heap H locs → ∀ {ls : Array Slot}, lv_has ls 3 [(0, .ref (a 0)), (1, .int x1), (2, .int x2)] → W p l e rm9_number s m args below meth c H locs 0 0 (MQ below (qW (some (.long r.1)) (cM cI cJ a r.2) D (ty3 cI cJ cC) A) args s 0 0 A) (F0 m 28 ls [.ref (a 0)]) := by
  have hx := C.1.1
  have hb := C.1.2.1
  have hts := C.1.2.2.2.2
  have hown := C.1.2.2.2.1
  have hin : ∀ w ∈ wsX90, w ∈ ws9_number := fun w h => List.mem_cons_of_mem _ (List.mem_append_right _ h)
  intro u x1 x2 hf H locs hP hD hS ls hl
  unfold f9_number_28 at hf
  refine lv_iconst (v := (1 : Int32)) hx hb dX9_number_28 (by decide) ?_
  exact w9_number_29 C hK hA u x1 x2 (1 : Int32) hf hP hD hS (lv_sub hl [0, 1, 2] rfl)
def f9_number (u : Md) (x1 : Int32) (x2 : Int32) : Option (Int64 × Md) := ((f9_isObject u x1).bind fun r_2 => (if r_2 = 0 then (f9_number_28 u x1 x2) else (if x1 < 0 ∨ 200 ≤ (x1).toNatClampNeg then none else ((f9_fieldOf ((ga u 5) (x1).toNatClampNeg) x2 (0 : Int32)).bind fun r_6 => (if r_6 = (-1 : Int32) then (f9_number_28 u x1 x2) else (f9_number_29 u x1 x2 (0 : Int32)))))))
set_option maxHeartbeats 4000000 in
set_option maxRecDepth 100000 in
theorem c9_number (l : Launch) (D : va_G) (cI cJ cC : ClassId) (a : Nat → Nat) (u : Md) (x1 : Int32) (x2 : Int32) (r : Int64) (v : Md) (sz : Nat) (hf : f9_number u x1 x2 = some (r, v)) : Met l yX9_number ws9_number rm9_number (pW D (ty3 cI cJ cC) (cM cI cJ a u) sz [.ref (a 0), .int x1, .int x2]) (qW (some (.long r)) (cM cI cJ a v) D (ty3 cI cJ cC) (va_A (cM cI cJ a u) sz)) 0 0 (va_A (cM cI cJ a u) sz) := by
  refine mt_w (cc := cX9_number) (maxL := 3) (ret := (some .long)) (by decide) rfl (Nat.le_of_ble_eq_true rfl) ?_
  intro p e s m below meth c ls A C hl hK hA hP hD hS
  have hl : lv_has ls 3 [(0, .ref (a 0)), (1, .int x1), (2, .int x2)] := hl
  have hx := C.1.1
  have hb := C.1.2.1
  have hts := C.1.2.2.2.2
  have hown := C.1.2.2.2.1
  have hin : ∀ w ∈ wsX90, w ∈ ws9_number := fun w h => List.mem_cons_of_mem _ (List.mem_append_right _ h)
  unfold f9_number at hf
  refine lv_aload_n hx hb dX9_number_0 rfl (lv_at hl 0 rfl) ?_
  refine lv_aload_n hx hb dX9_number_1 rfl (lv_at hl 0 rfl) ?_
  refine lv_iload_n hx hb dX9_number_2 rfl (lv_at hl 1 rfl) ?_
  obtain ⟨r_2, h_1, hf⟩ := og_b hf
  try dsimp only at hf
  refine ck_r (v := .int r_2) (rest := [.ref (a 0)]) C.1 (c9_isObject l D cI cJ cC a u x1 r_2 _ h_1) (cwV 1 hts g9_isObject rfl rfl rfl hd9_isObject ⟨Nat.le_of_ble_eq_true rfl, Nat.le_of_ble_eq_true rfl⟩) hK hP hD (q0 := 0) (ci := 6) rfl rfl rfl rfl hl.1 rfl (Nat.le_of_ble_eq_true rfl) ⟨Nat.zero_le _, Nat.zero_le _⟩ dX9_number_3 ?_
  refine lv_if_eq (tgt := 28) hx hb dX9_number_6 (by decide) (fun c_3 => ?_) (fun c_3 => ?_)
  · replace hf := og_t c_3 hf
    exact w9_number_28 C hK hA u x1 x2 hf hP hD hS (lv_sub hl [0, 1, 2] rfl)
  · replace hf := og_f c_3 hf
    refine lv_aload_n hx hb dX9_number_9 rfl (lv_at hl 0 rfl) ?_
    refine mg9 (v := .ref (a 5)) C hin hK hP 5 (by decide) (hts (Cond.fieldLink RX9 13 "SchematicTextModel" "kinds" "[I") (List.mem_cons_of_mem _ m9_6)) rfl dX9_number_10 ?_
    refine lv_iload_n hx hb dX9_number_13 rfl (lv_at hl 1 rfl) ?_
    obtain ⟨h_4, hf⟩ := og_n hf
    refine va_iald (f := (ga u 5)) hx hb hK hP 2 0 rfl rfl h_4 dX9_number_14 ?_
    refine lv_iload_n hx hb dX9_number_15 rfl (lv_at hl 2 rfl) ?_
    refine lv_iconst (v := (0 : Int32)) hx hb dX9_number_16 (by decide) ?_
    obtain ⟨r_6, h_5, hf⟩ := og_b hf
    try dsimp only at hf
    refine ck_s (v := .int r_6) (rest := [.ref (a 0)]) C.1 (c9_fieldOf l ((ga u 5) (x1).toNatClampNeg) x2 (0 : Int32) r_6 h_5) (va_cwS 3 hts g9_fieldOf rfl rfl rfl hd9_fieldOf ⟨Nat.le_of_ble_eq_true rfl, Nat.le_of_ble_eq_true rfl⟩) rfl hl.1 rfl (Nat.le_of_ble_eq_true rfl) ⟨Nat.zero_le _, Nat.zero_le _⟩ dX9_number_17 ?_
    refine lv_iconst (v := (-1 : Int32)) hx hb dX9_number_20 (by decide) ?_
    refine lv_icmp_eq (tgt := 28) hx hb dX9_number_21 (by decide) (fun c_7 => ?_) (fun c_7 => ?_)
    · replace hf := og_t c_7 hf
      exact w9_number_28 C hK hA u x1 x2 hf hP hD hS (lv_sub hl [0, 1, 2] rfl)
    · replace hf := og_f c_7 hf
      refine lv_iconst (v := (0 : Int32)) hx hb dX9_number_24 (by decide) ?_
      refine lv_goto (tgt := 29) hx hb dX9_number_25 (by decide) ?_
      exact w9_number_29 C hK hA u x1 x2 (0 : Int32) hf hP hD hS (lv_sub hl [0, 1, 2] rfl)
abbrev rm9_text : Room := { frames := 2, cells := 0, slots := 0, locals := 45 }
noncomputable abbrev ws9_text : List Cond := Cond.code yX9_text cX9_text 5 (some .int) :: WA9
theorem hd9_text : yX9_text.cls = RX9 ∧ yX9_text.cls ≠ "java/lang/invoke/MethodHandle" ∧ yX9_text.cls ≠ "java/lang/invoke/VarHandle" ∧ (parseMethodDescriptor yX9_text.desc).map (fun d => d.parameters.length) = some 3 := by decide +kernel
def f9_text_60 (u : Md) (x1 : Int32) (x2 : Int32) (x3 : Int32) (y0 : Int32) : Option (Int32 × Md) := (if y0 = 0 then (if x3 = (-1 : Int32) then (if (((2 : Int32) * x1) + x2) < 0 ∨ 400 ≤ ((((2 : Int32) * x1) + x2)).toNatClampNeg then none else (some (((ga u 8) ((((2 : Int32) * x1) + x2)).toNatClampNeg), (si u 0 y0)))) else (if ((((80 : Int32) * x1) + ((40 : Int32) * x2)) + x3) < 0 ∨ 16000 ≤ (((((80 : Int32) * x1) + ((40 : Int32) * x2)) + x3)).toNatClampNeg then none else (some (((ga u 9) (((((80 : Int32) * x1) + ((40 : Int32) * x2)) + x3)).toNatClampNeg), (si u 0 y0))))) else (some ((0 : Int32), (si u 0 y0))))
set_option maxHeartbeats 4000000 in
set_option maxRecDepth 100000 in
theorem w9_text_60 {p : Program} {l : Launch} {e : Env} {s : State} {m : MethodId} {args : Array Value} {below : List Frame} {meth : Method} {c : Code} (C : Cx p s m args meth c cX9_text 5 ws9_text RX9 (some .int)) {D : va_G} {cI cJ cC : ClassId} {a : Nat → Nat} {A : Nat → Prop} (hK : va_K D vwCl (ty3 cI cJ cC) s) (hA : ∀ q : Nat, s.heap.size ≤ q → A q) {r : (Int32 × Md)} : ∀ (u : Md) (x1 : Int32) (x2 : Int32) (x3 : Int32) (y0 : Int32), f9_text_60 u x1 x2 x3 y0 = some r → ∀ {H : Heap} {locs : List Loc}, va_P D vwCl (cM cI cJ a u) H → va_D A (cM cI cJ a u) → va_S A s.heap H locs → ∀ {ls : Array Slot}, lv_has ls 5 [(0, .ref (a 0)), (1, .int x1), (2, .int x2), (3, .int x3)] → W p l e rm9_text s m args below meth c H locs 0 0 (MQ below (qW (some (.int r.1)) (cM cI cJ a r.2) D (ty3 cI cJ cC) A) args s 0 0 A) (F0 m 60 ls [.int y0, .ref (a 0)]) := by
  have hx := C.1.1
  have hb := C.1.2.1
  have hts := C.1.2.2.2.2
  have hown := C.1.2.2.2.1
  have hin : ∀ w ∈ wsX90, w ∈ ws9_text := fun w h => List.mem_cons_of_mem _ (List.mem_append_right _ h)
  intro u x1 x2 x3 y0 hf H locs hP hD hS ls hl
  unfold f9_text_60 at hf
  refine mp9_0 C hin hK hP hD hS (hts (Cond.fieldLink RX9 52 "SchematicTextModel" "thrown" "I") (List.mem_cons_of_mem _ m9_20)) dX9_text_60 (fun H locs hP hD hS => ?_)
  refine lv_aload_n hx hb dX9_text_63 rfl (lv_at hl 0 rfl) ?_
  refine mg9 (v := .int y0) C hin hK hP 0 (by decide) (hts (Cond.fieldLink RX9 52 "SchematicTextModel" "thrown" "I") (List.mem_cons_of_mem _ m9_20)) rfl dX9_text_64 ?_
  refine lv_if_eq (tgt := 72) hx hb dX9_text_67 (by decide) (fun c_12 => ?_) (fun c_12 => ?_)
  · replace hf := og_t c_12 hf
    refine lv_iload_n hx hb dX9_text_72 rfl (lv_at hl 3 rfl) ?_
    refine lv_iconst (v := (-1 : Int32)) hx hb dX9_text_73 (by decide) ?_
    refine lv_icmp_ne (tgt := 90) hx hb dX9_text_74 (by decide) (fun c_13 => ?_) (fun c_13 => ?_)
    · replace hf := og_f c_13 hf
      refine lv_aload_n hx hb dX9_text_90 rfl (lv_at hl 0 rfl) ?_
      refine mg9 (v := .ref (a 9)) C hin hK hP 9 (by decide) (hts (Cond.fieldLink RX9 26 "SchematicTextModel" "characters" "[I") (List.mem_cons_of_mem _ m9_11)) rfl dX9_text_91 ?_
      refine lv_bipush (v := (80 : Int32)) hx hb dX9_text_94 (by decide) ?_
      refine lv_iload_n hx hb dX9_text_96 rfl (lv_at hl 1 rfl) ?_
      refine lv_imul hx hb dX9_text_97 ?_
      refine lv_bipush (v := (40 : Int32)) hx hb dX9_text_98 (by decide) ?_
      refine lv_iload_n hx hb dX9_text_100 rfl (lv_at hl 2 rfl) ?_
      refine lv_imul hx hb dX9_text_101 ?_
      refine lv_iadd hx hb dX9_text_102 ?_
      refine lv_iload_n hx hb dX9_text_103 rfl (lv_at hl 3 rfl) ?_
      refine lv_iadd hx hb dX9_text_104 ?_
      obtain ⟨h_14, hf⟩ := og_n hf
      refine va_iald (f := (ga u 9)) hx hb hK hP 6 0 rfl rfl h_14 dX9_text_105 ?_
      obtain rfl := og_s hf
      exact rw_i C hK hP hD hS dX9_text_106
    · replace hf := og_t c_13 hf
      refine lv_aload_n hx hb dX9_text_77 rfl (lv_at hl 0 rfl) ?_
      refine mg9 (v := .ref (a 8)) C hin hK hP 8 (by decide) (hts (Cond.fieldLink RX9 23 "SchematicTextModel" "textSizes" "[I") (List.mem_cons_of_mem _ m9_10)) rfl dX9_text_78 ?_
      refine lv_iconst (v := (2 : Int32)) hx hb dX9_text_81 (by decide) ?_
      refine lv_iload_n hx hb dX9_text_82 rfl (lv_at hl 1 rfl) ?_
      refine lv_imul hx hb dX9_text_83 ?_
      refine lv_iload_n hx hb dX9_text_84 rfl (lv_at hl 2 rfl) ?_
      refine lv_iadd hx hb dX9_text_85 ?_
      obtain ⟨h_15, hf⟩ := og_n hf
      refine va_iald (f := (ga u 8)) hx hb hK hP 5 0 rfl rfl h_15 dX9_text_86 ?_
      refine lv_goto (tgt := 106) hx hb dX9_text_87 (by decide) ?_
      obtain rfl := og_s hf
      exact rw_i C hK hP hD hS dX9_text_106
  · replace hf := og_f c_12 hf
    refine lv_iconst (v := (0 : Int32)) hx hb dX9_text_70 (by decide) ?_
    obtain rfl := og_s hf
    exact rw_i C hK hP hD hS dX9_text_71
def f9_text_59 (u : Md) (x1 : Int32) (x2 : Int32) (x3 : Int32) : Option (Int32 × Md) := (f9_text_60 u x1 x2 x3 (1 : Int32))
set_option maxHeartbeats 4000000 in
set_option maxRecDepth 100000 in
theorem w9_text_59 {p : Program} {l : Launch} {e : Env} {s : State} {m : MethodId} {args : Array Value} {below : List Frame} {meth : Method} {c : Code} (C : Cx p s m args meth c cX9_text 5 ws9_text RX9 (some .int)) {D : va_G} {cI cJ cC : ClassId} {a : Nat → Nat} {A : Nat → Prop} (hK : va_K D vwCl (ty3 cI cJ cC) s) (hA : ∀ q : Nat, s.heap.size ≤ q → A q) {r : (Int32 × Md)} : ∀ (u : Md) (x1 : Int32) (x2 : Int32) (x3 : Int32), f9_text_59 u x1 x2 x3 = some r → ∀ {H : Heap} {locs : List Loc}, va_P D vwCl (cM cI cJ a u) H → va_D A (cM cI cJ a u) → va_S A s.heap H locs → ∀ {ls : Array Slot}, lv_has ls 5 [(0, .ref (a 0)), (1, .int x1), (2, .int x2), (3, .int x3)] → W p l e rm9_text s m args below meth c H locs 0 0 (MQ below (qW (some (.int r.1)) (cM cI cJ a r.2) D (ty3 cI cJ cC) A) args s 0 0 A) (F0 m 59 ls [.ref (a 0)]) := by
  have hx := C.1.1
  have hb := C.1.2.1
  have hts := C.1.2.2.2.2
  have hown := C.1.2.2.2.1
  have hin : ∀ w ∈ wsX90, w ∈ ws9_text := fun w h => List.mem_cons_of_mem _ (List.mem_append_right _ h)
  intro u x1 x2 x3 hf H locs hP hD hS ls hl
  unfold f9_text_59 at hf
  refine lv_iconst (v := (1 : Int32)) hx hb dX9_text_59 (by decide) ?_
  exact w9_text_60 C hK hA u x1 x2 x3 (1 : Int32) hf hP hD hS (lv_sub hl [0, 1, 2, 3] rfl)
def f9_text_28 (u : Md) (x1 : Int32) (x2 : Int32) (x3 : Int32) (y0 : Int32) : Option (Int32 × Md) := (if y0 = 0 then (f9_text_59 u x1 x2 x3) else (if x3 < (-1 : Int32) then (f9_text_59 u x1 x2 x3) else (if (((2 : Int32) * x1) + x2) < 0 ∨ 400 ≤ ((((2 : Int32) * x1) + x2)).toNatClampNeg then none else (if ((ga u 8) ((((2 : Int32) * x1) + x2)).toNatClampNeg) ≤ x3 then (f9_text_59 u x1 x2 x3) else (f9_text_60 u x1 x2 x3 (0 : Int32))))))
set_option maxHeartbeats 4000000 in
set_option maxRecDepth 100000 in
theorem w9_text_28 {p : Program} {l : Launch} {e : Env} {s : State} {m : MethodId} {args : Array Value} {below : List Frame} {meth : Method} {c : Code} (C : Cx p s m args meth c cX9_text 5 ws9_text RX9 (some .int)) {D : va_G} {cI cJ cC : ClassId} {a : Nat → Nat} {A : Nat → Prop} (hK : va_K D vwCl (ty3 cI cJ cC) s) (hA : ∀ q : Nat, s.heap.size ≤ q → A q) {r : (Int32 × Md)} : ∀ (u : Md) (x1 : Int32) (x2 : Int32) (x3 : Int32) (y0 : Int32), f9_text_28 u x1 x2 x3 y0 = some r → ∀ {H : Heap} {locs : List Loc}, va_P D vwCl (cM cI cJ a u) H → va_D A (cM cI cJ a u) → va_S A s.heap H locs → ∀ {ls : Array Slot}, lv_has ls 5 [(0, .ref (a 0)), (1, .int x1), (2, .int x2), (3, .int x3)] → W p l e rm9_text s m args below meth c H locs 0 0 (MQ below (qW (some (.int r.1)) (cM cI cJ a r.2) D (ty3 cI cJ cC) A) args s 0 0 A) (F0 m 28 ls [.int y0]) := by
  have hx := C.1.1
  have hb := C.1.2.1
  have hts := C.1.2.2.2.2
  have hown := C.1.2.2.2.1
  have hin : ∀ w ∈ wsX90, w ∈ ws9_text := fun w h => List.mem_cons_of_mem _ (List.mem_append_right _ h)
  intro u x1 x2 x3 y0 hf H locs hP hD hS ls hl
  unfold f9_text_28 at hf
  refine lv_istore (lv' := [(4, .int y0), (0, .ref (a 0)), (1, .int x1), (2, .int x2), (3, .int x3)]) hx hb dX9_text_28 hl (by decide) rfl (fun ls hl => ?_)
  refine lv_aload_n hx hb dX9_text_30 rfl (lv_at hl 1 rfl) ?_
  refine lv_iload hx hb dX9_text_31 (lv_at hl 0 rfl) ?_
  refine lv_if_eq (tgt := 59) hx hb dX9_text_33 (by decide) (fun c_8 => ?_) (fun c_8 => ?_)
  · replace hf := og_t c_8 hf
    exact w9_text_59 C hK hA u x1 x2 x3 hf hP hD hS (lv_sub hl [1, 2, 3, 4] rfl)
  · replace hf := og_f c_8 hf
    refine lv_iload_n hx hb dX9_text_36 rfl (lv_at hl 4 rfl) ?_
    refine lv_iconst (v := (-1 : Int32)) hx hb dX9_text_37 (by decide) ?_
    refine lv_icmp_lt (tgt := 59) hx hb dX9_text_38 (by decide) (fun c_9 => ?_) (fun c_9 => ?_)
    · replace hf := og_t c_9 hf
      exact w9_text_59 C hK hA u x1 x2 x3 hf hP hD hS (lv_sub hl [1, 2, 3, 4] rfl)
    · replace hf := og_f c_9 hf
      refine lv_iload_n hx hb dX9_text_41 rfl (lv_at hl 4 rfl) ?_
      refine lv_aload_n hx hb dX9_text_42 rfl (lv_at hl 1 rfl) ?_
      refine mg9 (v := .ref (a 8)) C hin hK hP 8 (by decide) (hts (Cond.fieldLink RX9 23 "SchematicTextModel" "textSizes" "[I") (List.mem_cons_of_mem _ m9_10)) rfl dX9_text_43 ?_
      refine lv_iconst (v := (2 : Int32)) hx hb dX9_text_46 (by decide) ?_
      refine lv_iload_n hx hb dX9_text_47 rfl (lv_at hl 2 rfl) ?_
      refine lv_imul hx hb dX9_text_48 ?_
      refine lv_iload_n hx hb dX9_text_49 rfl (lv_at hl 3 rfl) ?_
      refine lv_iadd hx hb dX9_text_50 ?_
      obtain ⟨h_10, hf⟩ := og_n hf
      refine va_iald (f := (ga u 8)) hx hb hK hP 5 0 rfl rfl h_10 dX9_text_51 ?_
      refine lv_icmp_ge (tgt := 59) hx hb dX9_text_52 (by decide) (fun c_11 => ?_) (fun c_11 => ?_)
      · replace hf := og_t c_11 hf
        exact w9_text_59 C hK hA u x1 x2 x3 hf hP hD hS (lv_sub hl [1, 2, 3, 4] rfl)
      · replace hf := og_f c_11 hf
        refine lv_iconst (v := (0 : Int32)) hx hb dX9_text_55 (by decide) ?_
        refine lv_goto (tgt := 60) hx hb dX9_text_56 (by decide) ?_
        exact w9_text_60 C hK hA u x1 x2 x3 (0 : Int32) hf hP hD hS (lv_sub hl [1, 2, 3, 4] rfl)
def f9_text_27 (u : Md) (x1 : Int32) (x2 : Int32) (x3 : Int32) : Option (Int32 × Md) := (f9_text_28 u x1 x2 x3 (0 : Int32))
set_option maxHeartbeats 4000000 in
set_option maxRecDepth 100000 in
theorem w9_text_27 {p : Program} {l : Launch} {e : Env} {s : State} {m : MethodId} {args : Array Value} {below : List Frame} {meth : Method} {c : Code} (C : Cx p s m args meth c cX9_text 5 ws9_text RX9 (some .int)) {D : va_G} {cI cJ cC : ClassId} {a : Nat → Nat} {A : Nat → Prop} (hK : va_K D vwCl (ty3 cI cJ cC) s) (hA : ∀ q : Nat, s.heap.size ≤ q → A q) {r : (Int32 × Md)} : ∀ (u : Md) (x1 : Int32) (x2 : Int32) (x3 : Int32), f9_text_27 u x1 x2 x3 = some r → ∀ {H : Heap} {locs : List Loc}, va_P D vwCl (cM cI cJ a u) H → va_D A (cM cI cJ a u) → va_S A s.heap H locs → ∀ {ls : Array Slot}, lv_has ls 5 [(0, .ref (a 0)), (1, .int x1), (2, .int x2), (3, .int x3)] → W p l e rm9_text s m args below meth c H locs 0 0 (MQ below (qW (some (.int r.1)) (cM cI cJ a r.2) D (ty3 cI cJ cC) A) args s 0 0 A) (F0 m 27 ls []) := by
  have hx := C.1.1
  have hb := C.1.2.1
  have hts := C.1.2.2.2.2
  have hown := C.1.2.2.2.1
  have hin : ∀ w ∈ wsX90, w ∈ ws9_text := fun w h => List.mem_cons_of_mem _ (List.mem_append_right _ h)
  intro u x1 x2 x3 hf H locs hP hD hS ls hl
  unfold f9_text_27 at hf
  refine lv_iconst (v := (0 : Int32)) hx hb dX9_text_27 (by decide) ?_
  exact w9_text_28 C hK hA u x1 x2 x3 (0 : Int32) hf hP hD hS (lv_sub hl [0, 1, 2, 3] rfl)
def f9_text (u : Md) (x1 : Int32) (x2 : Int32) (x3 : Int32) : Option (Int32 × Md) := ((f9_isObject u x1).bind fun r_2 => (if r_2 = 0 then (f9_text_27 u x1 x2 x3) else (if x1 < 0 ∨ 200 ≤ (x1).toNatClampNeg then none else ((f9_fieldOf ((ga u 5) (x1).toNatClampNeg) x2 (1 : Int32)).bind fun r_6 => (if r_6 = (-1 : Int32) then (f9_text_27 u x1 x2 x3) else (f9_text_28 u x1 x2 x3 (1 : Int32)))))))
set_option maxHeartbeats 4000000 in
set_option maxRecDepth 100000 in
theorem c9_text (l : Launch) (D : va_G) (cI cJ cC : ClassId) (a : Nat → Nat) (u : Md) (x1 : Int32) (x2 : Int32) (x3 : Int32) (r : Int32) (v : Md) (sz : Nat) (hf : f9_text u x1 x2 x3 = some (r, v)) : Met l yX9_text ws9_text rm9_text (pW D (ty3 cI cJ cC) (cM cI cJ a u) sz [.ref (a 0), .int x1, .int x2, .int x3]) (qW (some (.int r)) (cM cI cJ a v) D (ty3 cI cJ cC) (va_A (cM cI cJ a u) sz)) 0 0 (va_A (cM cI cJ a u) sz) := by
  refine mt_w (cc := cX9_text) (maxL := 5) (ret := (some .int)) (by decide) rfl (Nat.le_of_ble_eq_true rfl) ?_
  intro p e s m below meth c ls A C hl hK hA hP hD hS
  have hl : lv_has ls 5 [(0, .ref (a 0)), (1, .int x1), (2, .int x2), (3, .int x3)] := hl
  have hx := C.1.1
  have hb := C.1.2.1
  have hts := C.1.2.2.2.2
  have hown := C.1.2.2.2.1
  have hin : ∀ w ∈ wsX90, w ∈ ws9_text := fun w h => List.mem_cons_of_mem _ (List.mem_append_right _ h)
  unfold f9_text at hf
  refine lv_aload_n hx hb dX9_text_0 rfl (lv_at hl 0 rfl) ?_
  refine lv_iload_n hx hb dX9_text_1 rfl (lv_at hl 1 rfl) ?_
  obtain ⟨r_2, h_1, hf⟩ := og_b hf
  try dsimp only at hf
  refine ck_r (v := .int r_2) (rest := []) C.1 (c9_isObject l D cI cJ cC a u x1 r_2 _ h_1) (cwV 1 hts g9_isObject rfl rfl rfl hd9_isObject ⟨Nat.le_of_ble_eq_true rfl, Nat.le_of_ble_eq_true rfl⟩) hK hP hD (q0 := 0) (ci := 6) rfl rfl rfl rfl hl.1 rfl (Nat.le_of_ble_eq_true rfl) ⟨Nat.zero_le _, Nat.zero_le _⟩ dX9_text_2 ?_
  refine lv_if_eq (tgt := 27) hx hb dX9_text_5 (by decide) (fun c_3 => ?_) (fun c_3 => ?_)
  · replace hf := og_t c_3 hf
    exact w9_text_27 C hK hA u x1 x2 x3 hf hP hD hS (lv_sub hl [0, 1, 2, 3] rfl)
  · replace hf := og_f c_3 hf
    refine lv_aload_n hx hb dX9_text_8 rfl (lv_at hl 0 rfl) ?_
    refine mg9 (v := .ref (a 5)) C hin hK hP 5 (by decide) (hts (Cond.fieldLink RX9 13 "SchematicTextModel" "kinds" "[I") (List.mem_cons_of_mem _ m9_6)) rfl dX9_text_9 ?_
    refine lv_iload_n hx hb dX9_text_12 rfl (lv_at hl 1 rfl) ?_
    obtain ⟨h_4, hf⟩ := og_n hf
    refine va_iald (f := (ga u 5)) hx hb hK hP 2 0 rfl rfl h_4 dX9_text_13 ?_
    refine lv_iload_n hx hb dX9_text_14 rfl (lv_at hl 2 rfl) ?_
    refine lv_iconst (v := (1 : Int32)) hx hb dX9_text_15 (by decide) ?_
    obtain ⟨r_6, h_5, hf⟩ := og_b hf
    try dsimp only at hf
    refine ck_s (v := .int r_6) (rest := []) C.1 (c9_fieldOf l ((ga u 5) (x1).toNatClampNeg) x2 (1 : Int32) r_6 h_5) (va_cwS 3 hts g9_fieldOf rfl rfl rfl hd9_fieldOf ⟨Nat.le_of_ble_eq_true rfl, Nat.le_of_ble_eq_true rfl⟩) rfl hl.1 rfl (Nat.le_of_ble_eq_true rfl) ⟨Nat.zero_le _, Nat.zero_le _⟩ dX9_text_16 ?_
    refine lv_iconst (v := (-1 : Int32)) hx hb dX9_text_19 (by decide) ?_
    refine lv_icmp_eq (tgt := 27) hx hb dX9_text_20 (by decide) (fun c_7 => ?_) (fun c_7 => ?_)
    · replace hf := og_t c_7 hf
      exact w9_text_27 C hK hA u x1 x2 x3 hf hP hD hS (lv_sub hl [0, 1, 2, 3] rfl)
    · replace hf := og_f c_7 hf
      refine lv_iconst (v := (1 : Int32)) hx hb dX9_text_23 (by decide) ?_
      refine lv_goto (tgt := 28) hx hb dX9_text_24 (by decide) ?_
      exact w9_text_28 C hK hA u x1 x2 x3 (1 : Int32) hf hP hD hS (lv_sub hl [0, 1, 2, 3] rfl)
abbrev rm9_version : Room := { frames := 0, cells := 0, slots := 0, locals := 0 }
noncomputable abbrev ws9_version : List Cond := Cond.code yX9_version cX9_version 1 (some .int) :: WA9
theorem hd9_version : yX9_version.cls = RX9 ∧ yX9_version.cls ≠ "java/lang/invoke/MethodHandle" ∧ yX9_version.cls ≠ "java/lang/invoke/VarHandle" ∧ (parseMethodDescriptor yX9_version.desc).map (fun d => d.parameters.length) = some 0 := by decide +kernel
def f9_version (u : Md) : Option (Int32 × Md) := (some ((gi u 14), (si u 0 (0 : Int32))))
set_option maxHeartbeats 4000000 in
set_option maxRecDepth 100000 in
theorem c9_version (l : Launch) (D : va_G) (cI cJ cC : ClassId) (a : Nat → Nat) (u : Md) (r : Int32) (v : Md) (sz : Nat) (hf : f9_version u  = some (r, v)) : Met l yX9_version ws9_version rm9_version (pW D (ty3 cI cJ cC) (cM cI cJ a u) sz [.ref (a 0)]) (qW (some (.int r)) (cM cI cJ a v) D (ty3 cI cJ cC) (va_A (cM cI cJ a u) sz)) 0 0 (va_A (cM cI cJ a u) sz) := by
  refine mt_w (cc := cX9_version) (maxL := 1) (ret := (some .int)) (by decide) rfl (Nat.le_of_ble_eq_true rfl) ?_
  intro p e s m below meth c ls A C hl hK hA hP hD hS
  have hl : lv_has ls 1 [(0, .ref (a 0))] := hl
  have hx := C.1.1
  have hb := C.1.2.1
  have hts := C.1.2.2.2.2
  have hown := C.1.2.2.2.1
  have hin : ∀ w ∈ wsX90, w ∈ ws9_version := fun w h => List.mem_cons_of_mem _ (List.mem_append_right _ h)
  unfold f9_version at hf
  refine lv_aload_n hx hb dX9_version_0 rfl (lv_at hl 0 rfl) ?_
  refine lv_iconst (v := (0 : Int32)) hx hb dX9_version_1 (by decide) ?_
  refine mp9_0 C hin hK hP hD hS (hts (Cond.fieldLink RX9 52 "SchematicTextModel" "thrown" "I") (List.mem_cons_of_mem _ m9_20)) dX9_version_2 (fun H locs hP hD hS => ?_)
  refine lv_aload_n hx hb dX9_version_5 rfl (lv_at hl 0 rfl) ?_
  refine mg9 (v := .int (gi u 14)) C hin hK hP 14 (by decide) (hts (Cond.fieldLink RX9 247 "SchematicTextModel" "versionRead" "I") (List.mem_cons_of_mem _ m9_185)) rfl dX9_version_6 ?_
  obtain ⟨rfl, rfl⟩ := Prod.mk.inj (og_s hf)
  exact rw_i C hK hP hD hS dX9_version_9
abbrev rm9_unknown : Room := { frames := 1, cells := 0, slots := 0, locals := 21 }
noncomputable abbrev ws9_unknown : List Cond := Cond.code yX9_unknown cX9_unknown 3 (some .int) :: WA9
theorem hd9_unknown : yX9_unknown.cls = RX9 ∧ yX9_unknown.cls ≠ "java/lang/invoke/MethodHandle" ∧ yX9_unknown.cls ≠ "java/lang/invoke/VarHandle" ∧ (parseMethodDescriptor yX9_unknown.desc).map (fun d => d.parameters.length) = some 2 := by decide +kernel
def f9_unknown_48 (u : Md) (x1 : Int32) (x2 : Int32) (y0 : Int32) : Option (Int32 × Md) := (if y0 = 0 then (if x2 = (-1 : Int32) then (if x1 < 0 ∨ 200 ≤ (x1).toNatClampNeg then none else (some (((ga u 11) (x1).toNatClampNeg), (si u 0 y0)))) else (if x1 < 0 ∨ 200 ≤ (x1).toNatClampNeg then none else (if (((ga u 10) (x1).toNatClampNeg) + x2) < 0 ∨ 2000 ≤ ((((ga u 10) (x1).toNatClampNeg) + x2)).toNatClampNeg then none else (some (((ga u 12) ((((ga u 10) (x1).toNatClampNeg) + x2)).toNatClampNeg), (si u 0 y0)))))) else (some ((0 : Int32), (si u 0 y0))))
set_option maxHeartbeats 4000000 in
set_option maxRecDepth 100000 in
theorem w9_unknown_48 {p : Program} {l : Launch} {e : Env} {s : State} {m : MethodId} {args : Array Value} {below : List Frame} {meth : Method} {c : Code} (C : Cx p s m args meth c cX9_unknown 3 ws9_unknown RX9 (some .int)) {D : va_G} {cI cJ cC : ClassId} {a : Nat → Nat} {A : Nat → Prop} (hK : va_K D vwCl (ty3 cI cJ cC) s) (hA : ∀ q : Nat, s.heap.size ≤ q → A q) {r : (Int32 × Md)} : ∀ (u : Md) (x1 : Int32) (x2 : Int32) (y0 : Int32), f9_unknown_48 u x1 x2 y0 = some r → ∀ {H : Heap} {locs : List Loc}, va_P D vwCl (cM cI cJ a u) H → va_D A (cM cI cJ a u) → va_S A s.heap H locs → ∀ {ls : Array Slot}, lv_has ls 3 [(0, .ref (a 0)), (1, .int x1), (2, .int x2)] → W p l e rm9_unknown s m args below meth c H locs 0 0 (MQ below (qW (some (.int r.1)) (cM cI cJ a r.2) D (ty3 cI cJ cC) A) args s 0 0 A) (F0 m 48 ls [.int y0, .ref (a 0)]) := by
  have hx := C.1.1
  have hb := C.1.2.1
  have hts := C.1.2.2.2.2
  have hown := C.1.2.2.2.1
  have hin : ∀ w ∈ wsX90, w ∈ ws9_unknown := fun w h => List.mem_cons_of_mem _ (List.mem_append_right _ h)
  intro u x1 x2 y0 hf H locs hP hD hS ls hl
  unfold f9_unknown_48 at hf
  refine mp9_0 C hin hK hP hD hS (hts (Cond.fieldLink RX9 52 "SchematicTextModel" "thrown" "I") (List.mem_cons_of_mem _ m9_20)) dX9_unknown_48 (fun H locs hP hD hS => ?_)
  refine lv_aload_n hx hb dX9_unknown_51 rfl (lv_at hl 0 rfl) ?_
  refine mg9 (v := .int y0) C hin hK hP 0 (by decide) (hts (Cond.fieldLink RX9 52 "SchematicTextModel" "thrown" "I") (List.mem_cons_of_mem _ m9_20)) rfl dX9_unknown_52 ?_
  refine lv_if_eq (tgt := 60) hx hb dX9_unknown_55 (by decide) (fun c_9 => ?_) (fun c_9 => ?_)
  · replace hf := og_t c_9 hf
    refine lv_iload_n hx hb dX9_unknown_60 rfl (lv_at hl 2 rfl) ?_
    refine lv_iconst (v := (-1 : Int32)) hx hb dX9_unknown_61 (by decide) ?_
    refine lv_icmp_ne (tgt := 74) hx hb dX9_unknown_62 (by decide) (fun c_10 => ?_) (fun c_10 => ?_)
    · replace hf := og_f c_10 hf
      refine lv_aload_n hx hb dX9_unknown_74 rfl (lv_at hl 0 rfl) ?_
      refine mg9 (v := .ref (a 12)) C hin hK hP 12 (by decide) (hts (Cond.fieldLink RX9 35 "SchematicTextModel" "kept" "[I") (List.mem_cons_of_mem _ m9_14)) rfl dX9_unknown_75 ?_
      refine lv_aload_n hx hb dX9_unknown_78 rfl (lv_at hl 0 rfl) ?_
      refine mg9 (v := .ref (a 10)) C hin hK hP 10 (by decide) (hts (Cond.fieldLink RX9 29 "SchematicTextModel" "keptFrom" "[I") (List.mem_cons_of_mem _ m9_12)) rfl dX9_unknown_79 ?_
      refine lv_iload_n hx hb dX9_unknown_82 rfl (lv_at hl 1 rfl) ?_
      obtain ⟨h_11, hf⟩ := og_n hf
      refine va_iald (f := (ga u 10)) hx hb hK hP 7 0 rfl rfl h_11 dX9_unknown_83 ?_
      refine lv_iload_n hx hb dX9_unknown_84 rfl (lv_at hl 2 rfl) ?_
      refine lv_iadd hx hb dX9_unknown_85 ?_
      obtain ⟨h_12, hf⟩ := og_n hf
      refine va_iald (f := (ga u 12)) hx hb hK hP 9 0 rfl rfl h_12 dX9_unknown_86 ?_
      obtain rfl := og_s hf
      exact rw_i C hK hP hD hS dX9_unknown_87
    · replace hf := og_t c_10 hf
      refine lv_aload_n hx hb dX9_unknown_65 rfl (lv_at hl 0 rfl) ?_
      refine mg9 (v := .ref (a 11)) C hin hK hP 11 (by decide) (hts (Cond.fieldLink RX9 32 "SchematicTextModel" "keptSize" "[I") (List.mem_cons_of_mem _ m9_13)) rfl dX9_unknown_66 ?_
      refine lv_iload_n hx hb dX9_unknown_69 rfl (lv_at hl 1 rfl) ?_
      obtain ⟨h_13, hf⟩ := og_n hf
      refine va_iald (f := (ga u 11)) hx hb hK hP 8 0 rfl rfl h_13 dX9_unknown_70 ?_
      refine lv_goto (tgt := 87) hx hb dX9_unknown_71 (by decide) ?_
      obtain rfl := og_s hf
      exact rw_i C hK hP hD hS dX9_unknown_87
  · replace hf := og_f c_9 hf
    refine lv_iconst (v := (0 : Int32)) hx hb dX9_unknown_58 (by decide) ?_
    obtain rfl := og_s hf
    exact rw_i C hK hP hD hS dX9_unknown_59
def f9_unknown_43 (u : Md) (x1 : Int32) (x2 : Int32) : Option (Int32 × Md) := (f9_unknown_48 u x1 x2 (1 : Int32))
set_option maxHeartbeats 4000000 in
set_option maxRecDepth 100000 in
theorem w9_unknown_43 {p : Program} {l : Launch} {e : Env} {s : State} {m : MethodId} {args : Array Value} {below : List Frame} {meth : Method} {c : Code} (C : Cx p s m args meth c cX9_unknown 3 ws9_unknown RX9 (some .int)) {D : va_G} {cI cJ cC : ClassId} {a : Nat → Nat} {A : Nat → Prop} (hK : va_K D vwCl (ty3 cI cJ cC) s) (hA : ∀ q : Nat, s.heap.size ≤ q → A q) {r : (Int32 × Md)} : ∀ (u : Md) (x1 : Int32) (x2 : Int32), f9_unknown_43 u x1 x2 = some r → ∀ {H : Heap} {locs : List Loc}, va_P D vwCl (cM cI cJ a u) H → va_D A (cM cI cJ a u) → va_S A s.heap H locs → ∀ {ls : Array Slot}, lv_has ls 3 [(0, .ref (a 0)), (1, .int x1), (2, .int x2)] → W p l e rm9_unknown s m args below meth c H locs 0 0 (MQ below (qW (some (.int r.1)) (cM cI cJ a r.2) D (ty3 cI cJ cC) A) args s 0 0 A) (F0 m 43 ls [.ref (a 0)]) := by
  have hx := C.1.1
  have hb := C.1.2.1
  have hts := C.1.2.2.2.2
  have hown := C.1.2.2.2.1
  have hin : ∀ w ∈ wsX90, w ∈ ws9_unknown := fun w h => List.mem_cons_of_mem _ (List.mem_append_right _ h)
  intro u x1 x2 hf H locs hP hD hS ls hl
  unfold f9_unknown_43 at hf
  refine lv_iconst (v := (1 : Int32)) hx hb dX9_unknown_43 (by decide) ?_
  refine lv_goto (tgt := 48) hx hb dX9_unknown_44 (by decide) ?_
  exact w9_unknown_48 C hK hA u x1 x2 (1 : Int32) hf hP hD hS (lv_sub hl [0, 1, 2] rfl)
def f9_unknown (u : Md) (x1 : Int32) (x2 : Int32) : Option (Int32 × Md) := ((f9_isObject u x1).bind fun r_2 => (if r_2 = 0 then (f9_unknown_48 u x1 x2 (1 : Int32)) else (if x1 < 0 ∨ 200 ≤ (x1).toNatClampNeg then none else (if ((ga u 5) (x1).toNatClampNeg) = (9 : Int32) then (if x2 < (-1 : Int32) then (f9_unknown_43 u x1 x2) else (if x1 < 0 ∨ 200 ≤ (x1).toNatClampNeg then none else (if x2 < ((ga u 11) (x1).toNatClampNeg) then (f9_unknown_48 u x1 x2 (0 : Int32)) else (f9_unknown_43 u x1 x2)))) else (f9_unknown_48 u x1 x2 (2 : Int32))))))
set_option maxHeartbeats 4000000 in
set_option maxRecDepth 100000 in
theorem c9_unknown (l : Launch) (D : va_G) (cI cJ cC : ClassId) (a : Nat → Nat) (u : Md) (x1 : Int32) (x2 : Int32) (r : Int32) (v : Md) (sz : Nat) (hf : f9_unknown u x1 x2 = some (r, v)) : Met l yX9_unknown ws9_unknown rm9_unknown (pW D (ty3 cI cJ cC) (cM cI cJ a u) sz [.ref (a 0), .int x1, .int x2]) (qW (some (.int r)) (cM cI cJ a v) D (ty3 cI cJ cC) (va_A (cM cI cJ a u) sz)) 0 0 (va_A (cM cI cJ a u) sz) := by
  refine mt_w (cc := cX9_unknown) (maxL := 3) (ret := (some .int)) (by decide) rfl (Nat.le_of_ble_eq_true rfl) ?_
  intro p e s m below meth c ls A C hl hK hA hP hD hS
  have hl : lv_has ls 3 [(0, .ref (a 0)), (1, .int x1), (2, .int x2)] := hl
  have hx := C.1.1
  have hb := C.1.2.1
  have hts := C.1.2.2.2.2
  have hown := C.1.2.2.2.1
  have hin : ∀ w ∈ wsX90, w ∈ ws9_unknown := fun w h => List.mem_cons_of_mem _ (List.mem_append_right _ h)
  unfold f9_unknown at hf
  refine lv_aload_n hx hb dX9_unknown_0 rfl (lv_at hl 0 rfl) ?_
  refine lv_aload_n hx hb dX9_unknown_1 rfl (lv_at hl 0 rfl) ?_
  refine lv_iload_n hx hb dX9_unknown_2 rfl (lv_at hl 1 rfl) ?_
  obtain ⟨r_2, h_1, hf⟩ := og_b hf
  try dsimp only at hf
  refine ck_r (v := .int r_2) (rest := [.ref (a 0)]) C.1 (c9_isObject l D cI cJ cC a u x1 r_2 _ h_1) (cwV 1 hts g9_isObject rfl rfl rfl hd9_isObject ⟨Nat.le_of_ble_eq_true rfl, Nat.le_of_ble_eq_true rfl⟩) hK hP hD (q0 := 0) (ci := 6) rfl rfl rfl rfl hl.1 rfl (Nat.le_of_ble_eq_true rfl) ⟨Nat.zero_le _, Nat.zero_le _⟩ dX9_unknown_3 ?_
  refine lv_if_ne (tgt := 13) hx hb dX9_unknown_6 (by decide) (fun c_3 => ?_) (fun c_3 => ?_)
  · replace hf := og_f c_3 hf
    refine lv_aload_n hx hb dX9_unknown_13 rfl (lv_at hl 0 rfl) ?_
    refine mg9 (v := .ref (a 5)) C hin hK hP 5 (by decide) (hts (Cond.fieldLink RX9 13 "SchematicTextModel" "kinds" "[I") (List.mem_cons_of_mem _ m9_6)) rfl dX9_unknown_14 ?_
    refine lv_iload_n hx hb dX9_unknown_17 rfl (lv_at hl 1 rfl) ?_
    obtain ⟨h_4, hf⟩ := og_n hf
    refine va_iald (f := (ga u 5)) hx hb hK hP 2 0 rfl rfl h_4 dX9_unknown_18 ?_
    refine lv_bipush (v := (9 : Int32)) hx hb dX9_unknown_19 (by decide) ?_
    refine lv_icmp_eq (tgt := 28) hx hb dX9_unknown_21 (by decide) (fun c_5 => ?_) (fun c_5 => ?_)
    · replace hf := og_t c_5 hf
      refine lv_iload_n hx hb dX9_unknown_28 rfl (lv_at hl 2 rfl) ?_
      refine lv_iconst (v := (-1 : Int32)) hx hb dX9_unknown_29 (by decide) ?_
      refine lv_icmp_lt (tgt := 43) hx hb dX9_unknown_30 (by decide) (fun c_6 => ?_) (fun c_6 => ?_)
      · replace hf := og_t c_6 hf
        exact w9_unknown_43 C hK hA u x1 x2 hf hP hD hS (lv_sub hl [0, 1, 2] rfl)
      · replace hf := og_f c_6 hf
        refine lv_iload_n hx hb dX9_unknown_33 rfl (lv_at hl 2 rfl) ?_
        refine lv_aload_n hx hb dX9_unknown_34 rfl (lv_at hl 0 rfl) ?_
        refine mg9 (v := .ref (a 11)) C hin hK hP 11 (by decide) (hts (Cond.fieldLink RX9 32 "SchematicTextModel" "keptSize" "[I") (List.mem_cons_of_mem _ m9_13)) rfl dX9_unknown_35 ?_
        refine lv_iload_n hx hb dX9_unknown_38 rfl (lv_at hl 1 rfl) ?_
        obtain ⟨h_7, hf⟩ := og_n hf
        refine va_iald (f := (ga u 11)) hx hb hK hP 8 0 rfl rfl h_7 dX9_unknown_39 ?_
        refine lv_icmp_lt (tgt := 47) hx hb dX9_unknown_40 (by decide) (fun c_8 => ?_) (fun c_8 => ?_)
        · replace hf := og_t c_8 hf
          refine lv_iconst (v := (0 : Int32)) hx hb dX9_unknown_47 (by decide) ?_
          exact w9_unknown_48 C hK hA u x1 x2 (0 : Int32) hf hP hD hS (lv_sub hl [0, 1, 2] rfl)
        · replace hf := og_f c_8 hf
          exact w9_unknown_43 C hK hA u x1 x2 hf hP hD hS (lv_sub hl [0, 1, 2] rfl)
    · replace hf := og_f c_5 hf
      refine lv_iconst (v := (2 : Int32)) hx hb dX9_unknown_24 (by decide) ?_
      refine lv_goto (tgt := 48) hx hb dX9_unknown_25 (by decide) ?_
      exact w9_unknown_48 C hK hA u x1 x2 (2 : Int32) hf hP hD hS (lv_sub hl [0, 1, 2] rfl)
  · replace hf := og_t c_3 hf
    refine lv_iconst (v := (1 : Int32)) hx hb dX9_unknown_9 (by decide) ?_
    refine lv_goto (tgt := 48) hx hb dX9_unknown_10 (by decide) ?_
    exact w9_unknown_48 C hK hA u x1 x2 (1 : Int32) hf hP hD hS (lv_sub hl [0, 1, 2] rfl)
abbrev rm9_object : Room := { frames := 1, cells := 0, slots := 0, locals := 23 }
noncomputable abbrev ws9_object : List Cond := Cond.code yX9_object cX9_object 5 (some .int) :: WA9
theorem hd9_object : yX9_object.cls = RX9 ∧ yX9_object.cls ≠ "java/lang/invoke/MethodHandle" ∧ yX9_object.cls ≠ "java/lang/invoke/VarHandle" ∧ (parseMethodDescriptor yX9_object.desc).map (fun d => d.parameters.length) = some 2 := by decide +kernel
def f9_object_103 (u : Md) (x1 : Int32) (x2 : Int32) (y0 : Int32) : Option (Int32 × Md) := (if y0 = 0 then (some ((-1 : Int32), u)) else (if (gi u 4) = (200 : Int32) then (some ((-1 : Int32), u)) else ((f9_blank u (gi u 4) x2).bind fun u_20 => (if (gi u_20 4) < 0 ∨ 200 ≤ ((gi u_20 4)).toNatClampNeg then none else (some ((((gi u_20 4) + (1 : Int32)) - (1 : Int32)), (si (si (sa u_20 6 (upd (ga u_20 6) ((gi u_20 4)).toNatClampNeg x1)) 4 ((gi u_20 4) + (1 : Int32))) 27 (1 : Int32))))))))
set_option maxHeartbeats 4000000 in
set_option maxRecDepth 100000 in
theorem w9_object_103 {p : Program} {l : Launch} {e : Env} {s : State} {m : MethodId} {args : Array Value} {below : List Frame} {meth : Method} {c : Code} (C : Cx p s m args meth c cX9_object 5 ws9_object RX9 (some .int)) {D : va_G} {cI cJ cC : ClassId} {a : Nat → Nat} {A : Nat → Prop} (hK : va_K D vwCl (ty3 cI cJ cC) s) (hA : ∀ q : Nat, s.heap.size ≤ q → A q) {r : (Int32 × Md)} : ∀ (u : Md) (x1 : Int32) (x2 : Int32) (y0 : Int32), f9_object_103 u x1 x2 y0 = some r → ∀ {H : Heap} {locs : List Loc}, va_P D vwCl (cM cI cJ a u) H → va_D A (cM cI cJ a u) → va_S A s.heap H locs → ∀ {ls : Array Slot}, lv_has ls 5 [(0, .ref (a 0)), (1, .int x1), (2, .int x2)] → W p l e rm9_object s m args below meth c H locs 0 0 (MQ below (qW (some (.int r.1)) (cM cI cJ a r.2) D (ty3 cI cJ cC) A) args s 0 0 A) (F0 m 103 ls [.int y0]) := by
  have hx := C.1.1
  have hb := C.1.2.1
  have hts := C.1.2.2.2.2
  have hown := C.1.2.2.2.1
  have hin : ∀ w ∈ wsX90, w ∈ ws9_object := fun w h => List.mem_cons_of_mem _ (List.mem_append_right _ h)
  intro u x1 x2 y0 hf H locs hP hD hS ls hl
  unfold f9_object_103 at hf
  refine lv_istore (lv' := [(4, .int y0), (0, .ref (a 0)), (1, .int x1), (2, .int x2)]) hx hb dX9_object_103 hl (by decide) rfl (fun ls hl => ?_)
  refine lv_iload hx hb dX9_object_105 (lv_at hl 0 rfl) ?_
  refine lv_if_eq (tgt := 120) hx hb dX9_object_107 (by decide) (fun c_17 => ?_) (fun c_17 => ?_)
  · replace hf := og_t c_17 hf
    refine lv_iconst (v := (-1 : Int32)) hx hb dX9_object_120 (by decide) ?_
    obtain rfl := og_s hf
    exact rw_i C hK hP hD hS dX9_object_121
  · replace hf := og_f c_17 hf
    refine lv_aload_n hx hb dX9_object_110 rfl (lv_at hl 1 rfl) ?_
    refine mg9 (v := .int (gi u 4)) C hin hK hP 4 (by decide) (hts (Cond.fieldLink RX9 241 "SchematicTextModel" "objects" "I") (List.mem_cons_of_mem _ m9_183)) rfl dX9_object_111 ?_
    refine lv_sipush (v := (200 : Int32)) hx hb dX9_object_114 (by decide) ?_
    refine lv_icmp_ne (tgt := 122) hx hb dX9_object_117 (by decide) (fun c_18 => ?_) (fun c_18 => ?_)
    · replace hf := og_f c_18 hf
      refine lv_aload_n hx hb dX9_object_122 rfl (lv_at hl 1 rfl) ?_
      refine lv_aload_n hx hb dX9_object_123 rfl (lv_at hl 1 rfl) ?_
      refine mg9 (v := .int (gi u 4)) C hin hK hP 4 (by decide) (hts (Cond.fieldLink RX9 241 "SchematicTextModel" "objects" "I") (List.mem_cons_of_mem _ m9_183)) rfl dX9_object_124 ?_
      refine lv_iload_n hx hb dX9_object_127 rfl (lv_at hl 3 rfl) ?_
      obtain ⟨u_20, h_19, hf⟩ := og_b hf
      try dsimp only at hf
      refine ck_w (ov := none) (st1 := []) (rest := []) C.1 (c9_blank l D cI cJ cC a u (gi u 4) x2 u_20  _ h_19) (cwV 2 hts g9_blank rfl rfl rfl hd9_blank ⟨Nat.le_of_ble_eq_true rfl, Nat.le_of_ble_eq_true rfl⟩) hK hA hP hD hS (q0 := 0) (ci := 6) rfl rfl rfl rfl hl.1 rfl rfl (Nat.le_of_ble_eq_true rfl) ⟨Nat.zero_le _, Nat.zero_le _⟩ dX9_object_128 (fun H locs hP hD hS => ?_)
      refine lv_aload_n hx hb dX9_object_131 rfl (lv_at hl 1 rfl) ?_
      refine mg9 (v := .ref (a 6)) C hin hK hP 6 (by decide) (hts (Cond.fieldLink RX9 16 "SchematicTextModel" "parents" "[I") (List.mem_cons_of_mem _ m9_7)) rfl dX9_object_132 ?_
      refine lv_aload_n hx hb dX9_object_135 rfl (lv_at hl 1 rfl) ?_
      refine mg9 (v := .int (gi u_20 4)) C hin hK hP 4 (by decide) (hts (Cond.fieldLink RX9 241 "SchematicTextModel" "objects" "I") (List.mem_cons_of_mem _ m9_183)) rfl dX9_object_136 ?_
      refine lv_iload_n hx hb dX9_object_139 rfl (lv_at hl 2 rfl) ?_
      obtain ⟨h_21, hf⟩ := og_n hf
      refine ms9_6 C hK hP hD hS (f := (ga u_20 6)) rfl h_21 dX9_object_140 (fun H locs hP hD hS => ?_)
      refine lv_aload_n hx hb dX9_object_141 rfl (lv_at hl 1 rfl) ?_
      refine lv_dup hx hb dX9_object_142 rfl ?_
      refine mg9 (v := .int (gi u_20 4)) C hin hK hP 4 (by decide) (hts (Cond.fieldLink RX9 241 "SchematicTextModel" "objects" "I") (List.mem_cons_of_mem _ m9_183)) rfl dX9_object_143 ?_
      refine lv_iconst (v := (1 : Int32)) hx hb dX9_object_146 (by decide) ?_
      refine lv_iadd hx hb dX9_object_147 ?_
      refine mp9_4 C hin hK hP hD hS (hts (Cond.fieldLink RX9 241 "SchematicTextModel" "objects" "I") (List.mem_cons_of_mem _ m9_183)) dX9_object_148 (fun H locs hP hD hS => ?_)
      refine lv_aload_n hx hb dX9_object_151 rfl (lv_at hl 1 rfl) ?_
      refine lv_iconst (v := (1 : Int32)) hx hb dX9_object_152 (by decide) ?_
      refine mp9_27 C hin hK hP hD hS (hts (Cond.fieldLink RX9 48 "SchematicTextModel" "stale" "Z") (List.mem_cons_of_mem _ m9_19)) (nz_z (Or.inr rfl)) (nz_f (Or.inr rfl)) dX9_object_153 (fun H locs hP hD hS => ?_)
      refine lv_aload_n hx hb dX9_object_156 rfl (lv_at hl 1 rfl) ?_
      refine mg9 (v := .int ((gi u_20 4) + (1 : Int32))) C hin hK hP 4 (by decide) (hts (Cond.fieldLink RX9 241 "SchematicTextModel" "objects" "I") (List.mem_cons_of_mem _ m9_183)) rfl dX9_object_157 ?_
      refine lv_iconst (v := (1 : Int32)) hx hb dX9_object_160 (by decide) ?_
      refine lv_isub hx hb dX9_object_161 ?_
      obtain rfl := og_s hf
      exact rw_i C hK hP hD hS dX9_object_162
    · replace hf := og_t c_18 hf
      refine lv_iconst (v := (-1 : Int32)) hx hb dX9_object_120 (by decide) ?_
      obtain rfl := og_s hf
      exact rw_i C hK hP hD hS dX9_object_121
def f9_object_75 (u : Md) (x1 : Int32) (x2 : Int32) : Option (Int32 × Md) := (f9_object_103 u x1 x2 (0 : Int32))
set_option maxHeartbeats 4000000 in
set_option maxRecDepth 100000 in
theorem w9_object_75 {p : Program} {l : Launch} {e : Env} {s : State} {m : MethodId} {args : Array Value} {below : List Frame} {meth : Method} {c : Code} (C : Cx p s m args meth c cX9_object 5 ws9_object RX9 (some .int)) {D : va_G} {cI cJ cC : ClassId} {a : Nat → Nat} {A : Nat → Prop} (hK : va_K D vwCl (ty3 cI cJ cC) s) (hA : ∀ q : Nat, s.heap.size ≤ q → A q) {r : (Int32 × Md)} : ∀ (u : Md) (x1 : Int32) (x2 : Int32), f9_object_75 u x1 x2 = some r → ∀ {H : Heap} {locs : List Loc}, va_P D vwCl (cM cI cJ a u) H → va_D A (cM cI cJ a u) → va_S A s.heap H locs → ∀ {ls : Array Slot}, lv_has ls 5 [(0, .ref (a 0)), (1, .int x1), (2, .int x2)] → W p l e rm9_object s m args below meth c H locs 0 0 (MQ below (qW (some (.int r.1)) (cM cI cJ a r.2) D (ty3 cI cJ cC) A) args s 0 0 A) (F0 m 75 ls []) := by
  have hx := C.1.1
  have hb := C.1.2.1
  have hts := C.1.2.2.2.2
  have hown := C.1.2.2.2.1
  have hin : ∀ w ∈ wsX90, w ∈ ws9_object := fun w h => List.mem_cons_of_mem _ (List.mem_append_right _ h)
  intro u x1 x2 hf H locs hP hD hS ls hl
  unfold f9_object_75 at hf
  refine lv_iconst (v := (0 : Int32)) hx hb dX9_object_75 (by decide) ?_
  refine lv_goto (tgt := 103) hx hb dX9_object_76 (by decide) ?_
  exact w9_object_103 C hK hA u x1 x2 (0 : Int32) hf hP hD hS (lv_sub hl [0, 1, 2] rfl)
def f9_object_102 (u : Md) (x1 : Int32) (x2 : Int32) : Option (Int32 × Md) := (f9_object_103 u x1 x2 (0 : Int32))
set_option maxHeartbeats 4000000 in
set_option maxRecDepth 100000 in
theorem w9_object_102 {p : Program} {l : Launch} {e : Env} {s : State} {m : MethodId} {args : Array Value} {below : List Frame} {meth : Method} {c : Code} (C : Cx p s m args meth c cX9_object 5 ws9_object RX9 (some .int)) {D : va_G} {cI cJ cC : ClassId} {a : Nat → Nat} {A : Nat → Prop} (hK : va_K D vwCl (ty3 cI cJ cC) s) (hA : ∀ q : Nat, s.heap.size ≤ q → A q) {r : (Int32 × Md)} : ∀ (u : Md) (x1 : Int32) (x2 : Int32), f9_object_102 u x1 x2 = some r → ∀ {H : Heap} {locs : List Loc}, va_P D vwCl (cM cI cJ a u) H → va_D A (cM cI cJ a u) → va_S A s.heap H locs → ∀ {ls : Array Slot}, lv_has ls 5 [(0, .ref (a 0)), (1, .int x1), (2, .int x2)] → W p l e rm9_object s m args below meth c H locs 0 0 (MQ below (qW (some (.int r.1)) (cM cI cJ a r.2) D (ty3 cI cJ cC) A) args s 0 0 A) (F0 m 102 ls []) := by
  have hx := C.1.1
  have hb := C.1.2.1
  have hts := C.1.2.2.2.2
  have hown := C.1.2.2.2.1
  have hin : ∀ w ∈ wsX90, w ∈ ws9_object := fun w h => List.mem_cons_of_mem _ (List.mem_append_right _ h)
  intro u x1 x2 hf H locs hP hD hS ls hl
  unfold f9_object_102 at hf
  refine lv_iconst (v := (0 : Int32)) hx hb dX9_object_102 (by decide) ?_
  exact w9_object_103 C hK hA u x1 x2 (0 : Int32) hf hP hD hS (lv_sub hl [0, 1, 2] rfl)
def f9_object_43 (u : Md) (x1 : Int32) (x2 : Int32) (y0 : Int32) : Option (Int32 × Md) := (if y0 = 0 then (if x1 = (-1 : Int32) then (if x2 = 0 then (if (gi u 4) = 0 then (f9_object_103 (si u 0 y0) x1 x2 (1 : Int32)) else (f9_object_75 (si u 0 y0) x1 x2)) else (f9_object_75 (si u 0 y0) x1 x2)) else (if x2 = (9 : Int32) then (f9_object_102 (si u 0 y0) x1 x2) else (if x1 < 0 ∨ 200 ≤ (x1).toNatClampNeg then none else ((f9_canBe x2 ((ga u 5) (x1).toNatClampNeg)).bind fun r_13 => (if r_13 = 0 then (f9_object_102 (si u 0 y0) x1 x2) else (f9_object_103 (si u 0 y0) x1 x2 (1 : Int32))))))) else (some ((0 : Int32), (si u 0 y0))))
set_option maxHeartbeats 4000000 in
set_option maxRecDepth 100000 in
theorem w9_object_43 {p : Program} {l : Launch} {e : Env} {s : State} {m : MethodId} {args : Array Value} {below : List Frame} {meth : Method} {c : Code} (C : Cx p s m args meth c cX9_object 5 ws9_object RX9 (some .int)) {D : va_G} {cI cJ cC : ClassId} {a : Nat → Nat} {A : Nat → Prop} (hK : va_K D vwCl (ty3 cI cJ cC) s) (hA : ∀ q : Nat, s.heap.size ≤ q → A q) {r : (Int32 × Md)} : ∀ (u : Md) (x1 : Int32) (x2 : Int32) (y0 : Int32), f9_object_43 u x1 x2 y0 = some r → ∀ {H : Heap} {locs : List Loc}, va_P D vwCl (cM cI cJ a u) H → va_D A (cM cI cJ a u) → va_S A s.heap H locs → ∀ {ls : Array Slot}, lv_has ls 5 [(0, .ref (a 0)), (1, .int x1), (2, .int x2)] → W p l e rm9_object s m args below meth c H locs 0 0 (MQ below (qW (some (.int r.1)) (cM cI cJ a r.2) D (ty3 cI cJ cC) A) args s 0 0 A) (F0 m 43 ls [.int y0, .ref (a 0)]) := by
  have hx := C.1.1
  have hb := C.1.2.1
  have hts := C.1.2.2.2.2
  have hown := C.1.2.2.2.1
  have hin : ∀ w ∈ wsX90, w ∈ ws9_object := fun w h => List.mem_cons_of_mem _ (List.mem_append_right _ h)
  intro u x1 x2 y0 hf H locs hP hD hS ls hl
  unfold f9_object_43 at hf
  refine mp9_0 C hin hK hP hD hS (hts (Cond.fieldLink RX9 52 "SchematicTextModel" "thrown" "I") (List.mem_cons_of_mem _ m9_20)) dX9_object_43 (fun H locs hP hD hS => ?_)
  refine lv_aload_n hx hb dX9_object_46 rfl (lv_at hl 0 rfl) ?_
  refine mg9 (v := .int y0) C hin hK hP 0 (by decide) (hts (Cond.fieldLink RX9 52 "SchematicTextModel" "thrown" "I") (List.mem_cons_of_mem _ m9_20)) rfl dX9_object_47 ?_
  refine lv_if_eq (tgt := 55) hx hb dX9_object_50 (by decide) (fun c_8 => ?_) (fun c_8 => ?_)
  · replace hf := og_t c_8 hf
    refine lv_iload_n hx hb dX9_object_55 rfl (lv_at hl 1 rfl) ?_
    refine lv_iconst (v := (-1 : Int32)) hx hb dX9_object_56 (by decide) ?_
    refine lv_icmp_ne (tgt := 79) hx hb dX9_object_57 (by decide) (fun c_9 => ?_) (fun c_9 => ?_)
    · replace hf := og_f c_9 hf
      refine lv_iload_n hx hb dX9_object_79 rfl (lv_at hl 2 rfl) ?_
      refine lv_bipush (v := (9 : Int32)) hx hb dX9_object_80 (by decide) ?_
      refine lv_icmp_eq (tgt := 102) hx hb dX9_object_82 (by decide) (fun c_10 => ?_) (fun c_10 => ?_)
      · replace hf := og_t c_10 hf
        exact w9_object_102 C hK hA (si u 0 y0) x1 x2 hf hP hD hS (lv_sub hl [0, 1, 2] rfl)
      · replace hf := og_f c_10 hf
        refine lv_iload_n hx hb dX9_object_85 rfl (lv_at hl 2 rfl) ?_
        refine lv_aload_n hx hb dX9_object_86 rfl (lv_at hl 0 rfl) ?_
        refine mg9 (v := .ref (a 5)) C hin hK hP 5 (by decide) (hts (Cond.fieldLink RX9 13 "SchematicTextModel" "kinds" "[I") (List.mem_cons_of_mem _ m9_6)) rfl dX9_object_87 ?_
        refine lv_iload_n hx hb dX9_object_90 rfl (lv_at hl 1 rfl) ?_
        obtain ⟨h_11, hf⟩ := og_n hf
        refine va_iald (f := (ga u 5)) hx hb hK hP 2 0 rfl rfl h_11 dX9_object_91 ?_
        obtain ⟨r_13, h_12, hf⟩ := og_b hf
        try dsimp only at hf
        refine ck_s (v := .int r_13) (rest := []) C.1 (c9_canBe l x2 ((ga u 5) (x1).toNatClampNeg) r_13 h_12) (va_cwS 2 hts g9_canBe rfl rfl rfl hd9_canBe ⟨Nat.le_of_ble_eq_true rfl, Nat.le_of_ble_eq_true rfl⟩) rfl hl.1 rfl (Nat.le_of_ble_eq_true rfl) ⟨Nat.zero_le _, Nat.zero_le _⟩ dX9_object_92 ?_
        refine lv_if_eq (tgt := 102) hx hb dX9_object_95 (by decide) (fun c_14 => ?_) (fun c_14 => ?_)
        · replace hf := og_t c_14 hf
          exact w9_object_102 C hK hA (si u 0 y0) x1 x2 hf hP hD hS (lv_sub hl [0, 1, 2] rfl)
        · replace hf := og_f c_14 hf
          refine lv_iconst (v := (1 : Int32)) hx hb dX9_object_98 (by decide) ?_
          refine lv_goto (tgt := 103) hx hb dX9_object_99 (by decide) ?_
          exact w9_object_103 C hK hA (si u 0 y0) x1 x2 (1 : Int32) hf hP hD hS (lv_sub hl [0, 1, 2] rfl)
    · replace hf := og_t c_9 hf
      refine lv_iload_n hx hb dX9_object_60 rfl (lv_at hl 2 rfl) ?_
      refine lv_if_ne (tgt := 75) hx hb dX9_object_61 (by decide) (fun c_15 => ?_) (fun c_15 => ?_)
      · replace hf := og_f c_15 hf
        exact w9_object_75 C hK hA (si u 0 y0) x1 x2 hf hP hD hS (lv_sub hl [0, 1, 2] rfl)
      · replace hf := og_t c_15 hf
        refine lv_aload_n hx hb dX9_object_64 rfl (lv_at hl 0 rfl) ?_
        refine mg9 (v := .int (gi u 4)) C hin hK hP 4 (by decide) (hts (Cond.fieldLink RX9 241 "SchematicTextModel" "objects" "I") (List.mem_cons_of_mem _ m9_183)) rfl dX9_object_65 ?_
        refine lv_if_ne (tgt := 75) hx hb dX9_object_68 (by decide) (fun c_16 => ?_) (fun c_16 => ?_)
        · replace hf := og_f c_16 hf
          exact w9_object_75 C hK hA (si u 0 y0) x1 x2 hf hP hD hS (lv_sub hl [0, 1, 2] rfl)
        · replace hf := og_t c_16 hf
          refine lv_iconst (v := (1 : Int32)) hx hb dX9_object_71 (by decide) ?_
          refine lv_goto (tgt := 103) hx hb dX9_object_72 (by decide) ?_
          exact w9_object_103 C hK hA (si u 0 y0) x1 x2 (1 : Int32) hf hP hD hS (lv_sub hl [0, 1, 2] rfl)
  · replace hf := og_f c_8 hf
    refine lv_iconst (v := (0 : Int32)) hx hb dX9_object_53 (by decide) ?_
    obtain rfl := og_s hf
    exact rw_i C hK hP hD hS dX9_object_54
def f9_object_38 (u : Md) (x1 : Int32) (x2 : Int32) : Option (Int32 × Md) := (f9_object_43 u x1 x2 (2 : Int32))
set_option maxHeartbeats 4000000 in
set_option maxRecDepth 100000 in
theorem w9_object_38 {p : Program} {l : Launch} {e : Env} {s : State} {m : MethodId} {args : Array Value} {below : List Frame} {meth : Method} {c : Code} (C : Cx p s m args meth c cX9_object 5 ws9_object RX9 (some .int)) {D : va_G} {cI cJ cC : ClassId} {a : Nat → Nat} {A : Nat → Prop} (hK : va_K D vwCl (ty3 cI cJ cC) s) (hA : ∀ q : Nat, s.heap.size ≤ q → A q) {r : (Int32 × Md)} : ∀ (u : Md) (x1 : Int32) (x2 : Int32), f9_object_38 u x1 x2 = some r → ∀ {H : Heap} {locs : List Loc}, va_P D vwCl (cM cI cJ a u) H → va_D A (cM cI cJ a u) → va_S A s.heap H locs → ∀ {ls : Array Slot}, lv_has ls 5 [(0, .ref (a 0)), (1, .int x1), (2, .int x2)] → W p l e rm9_object s m args below meth c H locs 0 0 (MQ below (qW (some (.int r.1)) (cM cI cJ a r.2) D (ty3 cI cJ cC) A) args s 0 0 A) (F0 m 38 ls [.ref (a 0)]) := by
  have hx := C.1.1
  have hb := C.1.2.1
  have hts := C.1.2.2.2.2
  have hown := C.1.2.2.2.1
  have hin : ∀ w ∈ wsX90, w ∈ ws9_object := fun w h => List.mem_cons_of_mem _ (List.mem_append_right _ h)
  intro u x1 x2 hf H locs hP hD hS ls hl
  unfold f9_object_38 at hf
  refine lv_iconst (v := (2 : Int32)) hx hb dX9_object_38 (by decide) ?_
  refine lv_goto (tgt := 43) hx hb dX9_object_39 (by decide) ?_
  exact w9_object_43 C hK hA u x1 x2 (2 : Int32) hf hP hD hS (lv_sub hl [0, 1, 2] rfl)
def f9_object_18 (u : Md) (x1 : Int32) (x2 : Int32) (y0 : Int32) : Option (Int32 × Md) := (if y0 = 0 then (f9_object_43 u x1 x2 (1 : Int32)) else (if x2 < 0 then (f9_object_38 u x1 x2) else (if x2 ≤ (9 : Int32) then (f9_object_43 u x1 x2 (0 : Int32)) else (f9_object_38 u x1 x2))))
set_option maxHeartbeats 4000000 in
set_option maxRecDepth 100000 in
theorem w9_object_18 {p : Program} {l : Launch} {e : Env} {s : State} {m : MethodId} {args : Array Value} {below : List Frame} {meth : Method} {c : Code} (C : Cx p s m args meth c cX9_object 5 ws9_object RX9 (some .int)) {D : va_G} {cI cJ cC : ClassId} {a : Nat → Nat} {A : Nat → Prop} (hK : va_K D vwCl (ty3 cI cJ cC) s) (hA : ∀ q : Nat, s.heap.size ≤ q → A q) {r : (Int32 × Md)} : ∀ (u : Md) (x1 : Int32) (x2 : Int32) (y0 : Int32), f9_object_18 u x1 x2 y0 = some r → ∀ {H : Heap} {locs : List Loc}, va_P D vwCl (cM cI cJ a u) H → va_D A (cM cI cJ a u) → va_S A s.heap H locs → ∀ {ls : Array Slot}, lv_has ls 5 [(0, .ref (a 0)), (1, .int x1), (2, .int x2)] → W p l e rm9_object s m args below meth c H locs 0 0 (MQ below (qW (some (.int r.1)) (cM cI cJ a r.2) D (ty3 cI cJ cC) A) args s 0 0 A) (F0 m 18 ls [.int y0]) := by
  have hx := C.1.1
  have hb := C.1.2.1
  have hts := C.1.2.2.2.2
  have hown := C.1.2.2.2.1
  have hin : ∀ w ∈ wsX90, w ∈ ws9_object := fun w h => List.mem_cons_of_mem _ (List.mem_append_right _ h)
  intro u x1 x2 y0 hf H locs hP hD hS ls hl
  unfold f9_object_18 at hf
  refine lv_istore_n (lv' := [(3, .int y0), (0, .ref (a 0)), (1, .int x1), (2, .int x2)]) hx hb dX9_object_18 rfl hl (by decide) rfl (fun ls hl => ?_)
  refine lv_aload_n hx hb dX9_object_19 rfl (lv_at hl 1 rfl) ?_
  refine lv_iload_n hx hb dX9_object_20 rfl (lv_at hl 0 rfl) ?_
  refine lv_if_ne (tgt := 28) hx hb dX9_object_21 (by decide) (fun c_5 => ?_) (fun c_5 => ?_)
  · replace hf := og_f c_5 hf
    refine lv_iload_n hx hb dX9_object_28 rfl (lv_at hl 3 rfl) ?_
    refine lv_if_lt (tgt := 38) hx hb dX9_object_29 (by decide) (fun c_6 => ?_) (fun c_6 => ?_)
    · replace hf := og_t c_6 hf
      exact w9_object_38 C hK hA u x1 x2 hf hP hD hS (lv_sub hl [1, 2, 3] rfl)
    · replace hf := og_f c_6 hf
      refine lv_iload_n hx hb dX9_object_32 rfl (lv_at hl 3 rfl) ?_
      refine lv_bipush (v := (9 : Int32)) hx hb dX9_object_33 (by decide) ?_
      refine lv_icmp_le (tgt := 42) hx hb dX9_object_35 (by decide) (fun c_7 => ?_) (fun c_7 => ?_)
      · replace hf := og_t c_7 hf
        refine lv_iconst (v := (0 : Int32)) hx hb dX9_object_42 (by decide) ?_
        exact w9_object_43 C hK hA u x1 x2 (0 : Int32) hf hP hD hS (lv_sub hl [1, 2, 3] rfl)
      · replace hf := og_f c_7 hf
        exact w9_object_38 C hK hA u x1 x2 hf hP hD hS (lv_sub hl [1, 2, 3] rfl)
  · replace hf := og_t c_5 hf
    refine lv_iconst (v := (1 : Int32)) hx hb dX9_object_24 (by decide) ?_
    refine lv_goto (tgt := 43) hx hb dX9_object_25 (by decide) ?_
    exact w9_object_43 C hK hA u x1 x2 (1 : Int32) hf hP hD hS (lv_sub hl [1, 2, 3] rfl)
def f9_object_13 (u : Md) (x1 : Int32) (x2 : Int32) : Option (Int32 × Md) := (f9_object_18 u x1 x2 (1 : Int32))
set_option maxHeartbeats 4000000 in
set_option maxRecDepth 100000 in
theorem w9_object_13 {p : Program} {l : Launch} {e : Env} {s : State} {m : MethodId} {args : Array Value} {below : List Frame} {meth : Method} {c : Code} (C : Cx p s m args meth c cX9_object 5 ws9_object RX9 (some .int)) {D : va_G} {cI cJ cC : ClassId} {a : Nat → Nat} {A : Nat → Prop} (hK : va_K D vwCl (ty3 cI cJ cC) s) (hA : ∀ q : Nat, s.heap.size ≤ q → A q) {r : (Int32 × Md)} : ∀ (u : Md) (x1 : Int32) (x2 : Int32), f9_object_13 u x1 x2 = some r → ∀ {H : Heap} {locs : List Loc}, va_P D vwCl (cM cI cJ a u) H → va_D A (cM cI cJ a u) → va_S A s.heap H locs → ∀ {ls : Array Slot}, lv_has ls 5 [(0, .ref (a 0)), (1, .int x1), (2, .int x2)] → W p l e rm9_object s m args below meth c H locs 0 0 (MQ below (qW (some (.int r.1)) (cM cI cJ a r.2) D (ty3 cI cJ cC) A) args s 0 0 A) (F0 m 13 ls []) := by
  have hx := C.1.1
  have hb := C.1.2.1
  have hts := C.1.2.2.2.2
  have hown := C.1.2.2.2.1
  have hin : ∀ w ∈ wsX90, w ∈ ws9_object := fun w h => List.mem_cons_of_mem _ (List.mem_append_right _ h)
  intro u x1 x2 hf H locs hP hD hS ls hl
  unfold f9_object_13 at hf
  refine lv_iconst (v := (1 : Int32)) hx hb dX9_object_13 (by decide) ?_
  refine lv_goto (tgt := 18) hx hb dX9_object_14 (by decide) ?_
  exact w9_object_18 C hK hA u x1 x2 (1 : Int32) hf hP hD hS (lv_sub hl [0, 1, 2] rfl)
def f9_object (u : Md) (x1 : Int32) (x2 : Int32) : Option (Int32 × Md) := (if x1 = (-1 : Int32) then (f9_object_13 u x1 x2) else ((f9_isObject u x1).bind fun r_3 => (if r_3 = 0 then (f9_object_18 u x1 x2 (0 : Int32)) else (f9_object_13 u x1 x2))))
set_option maxHeartbeats 4000000 in
set_option maxRecDepth 100000 in
theorem c9_object (l : Launch) (D : va_G) (cI cJ cC : ClassId) (a : Nat → Nat) (u : Md) (x1 : Int32) (x2 : Int32) (r : Int32) (v : Md) (sz : Nat) (hf : f9_object u x1 x2 = some (r, v)) : Met l yX9_object ws9_object rm9_object (pW D (ty3 cI cJ cC) (cM cI cJ a u) sz [.ref (a 0), .int x1, .int x2]) (qW (some (.int r)) (cM cI cJ a v) D (ty3 cI cJ cC) (va_A (cM cI cJ a u) sz)) 0 0 (va_A (cM cI cJ a u) sz) := by
  refine mt_w (cc := cX9_object) (maxL := 5) (ret := (some .int)) (by decide) rfl (Nat.le_of_ble_eq_true rfl) ?_
  intro p e s m below meth c ls A C hl hK hA hP hD hS
  have hl : lv_has ls 5 [(0, .ref (a 0)), (1, .int x1), (2, .int x2)] := hl
  have hx := C.1.1
  have hb := C.1.2.1
  have hts := C.1.2.2.2.2
  have hown := C.1.2.2.2.1
  have hin : ∀ w ∈ wsX90, w ∈ ws9_object := fun w h => List.mem_cons_of_mem _ (List.mem_append_right _ h)
  unfold f9_object at hf
  refine lv_iload_n hx hb dX9_object_0 rfl (lv_at hl 1 rfl) ?_
  refine lv_iconst (v := (-1 : Int32)) hx hb dX9_object_1 (by decide) ?_
  refine lv_icmp_eq (tgt := 13) hx hb dX9_object_2 (by decide) (fun c_1 => ?_) (fun c_1 => ?_)
  · replace hf := og_t c_1 hf
    exact w9_object_13 C hK hA u x1 x2 hf hP hD hS (lv_sub hl [0, 1, 2] rfl)
  · replace hf := og_f c_1 hf
    refine lv_aload_n hx hb dX9_object_5 rfl (lv_at hl 0 rfl) ?_
    refine lv_iload_n hx hb dX9_object_6 rfl (lv_at hl 1 rfl) ?_
    obtain ⟨r_3, h_2, hf⟩ := og_b hf
    try dsimp only at hf
    refine ck_r (v := .int r_3) (rest := []) C.1 (c9_isObject l D cI cJ cC a u x1 r_3 _ h_2) (cwV 1 hts g9_isObject rfl rfl rfl hd9_isObject ⟨Nat.le_of_ble_eq_true rfl, Nat.le_of_ble_eq_true rfl⟩) hK hP hD (q0 := 0) (ci := 6) rfl rfl rfl rfl hl.1 rfl (Nat.le_of_ble_eq_true rfl) ⟨Nat.zero_le _, Nat.zero_le _⟩ dX9_object_7 ?_
    refine lv_if_eq (tgt := 17) hx hb dX9_object_10 (by decide) (fun c_4 => ?_) (fun c_4 => ?_)
    · replace hf := og_t c_4 hf
      refine lv_iconst (v := (0 : Int32)) hx hb dX9_object_17 (by decide) ?_
      exact w9_object_18 C hK hA u x1 x2 (0 : Int32) hf hP hD hS (lv_sub hl [0, 1, 2] rfl)
    · replace hf := og_f c_4 hf
      exact w9_object_13 C hK hA u x1 x2 hf hP hD hS (lv_sub hl [0, 1, 2] rfl)
abbrev rm9_setText : Room := { frames := 0, cells := 0, slots := 0, locals := 0 }
noncomputable abbrev ws9_setText : List Cond := Cond.code yX9_setText cX9_setText 9 (some .boolean) :: WA9
theorem g9_setText {c0 : Cond} : GoodIn (c0 :: WA9) (wsV RX9 258 RX9 yX9_setText ws9_setText) := gd9_v m9_205 m9_206 m9_207 m9_29 m9_202
theorem hd9_setText : yX9_setText.cls = RX9 ∧ yX9_setText.cls ≠ "java/lang/invoke/MethodHandle" ∧ yX9_setText.cls ≠ "java/lang/invoke/VarHandle" ∧ (parseMethodDescriptor yX9_setText.desc).map (fun d => d.parameters.length) = some 3 := by decide +kernel
def f9_setText_56 (k7 : Md → Int32 → Int32 → Int64 → Int32 → Int32 → Option (Int32 × Md)) (u : Md) (x1 : Int32) (x2 : Int32) (x3 : Int64) (x6 : Int32) (y0 : Int32) (y1 : Int32) : Option (Int32 × Md) := (k7 u x1 x2 x3 (y1 + y0) (x6 + (-8 : Int32)))
set_option maxHeartbeats 4000000 in
set_option maxRecDepth 100000 in
theorem w9_setText_56 {p : Program} {l : Launch} {e : Env} {s : State} {m : MethodId} {args : Array Value} {below : List Frame} {meth : Method} {c : Code} (C : Cx p s m args meth c cX9_setText 9 ws9_setText RX9 (some .boolean)) {D : va_G} {cI cJ cC : ClassId} {a : Nat → Nat} {A : Nat → Prop} (hK : va_K D vwCl (ty3 cI cJ cC) s) (hA : ∀ q : Nat, s.heap.size ≤ q → A q) {r : (Int32 × Md)} (k7 : Md → Int32 → Int32 → Int64 → Int32 → Int32 → Option (Int32 × Md)) (ih7 : ∀ (u : Md) (x1 : Int32) (x2 : Int32) (x3 : Int64) (x5 : Int32) (x6 : Int32), k7 u x1 x2 x3 x5 x6 = some r → ∀ {H : Heap} {locs : List Loc}, va_P D vwCl (cM cI cJ a u) H → va_D A (cM cI cJ a u) → va_S A s.heap H locs → ∀ {ls : Array Slot}, lv_has ls 9 [(0, .ref (a 0)), (1, .int x1), (2, .int x2), (3, .long x3), (5, .int x5), (6, .int x6)] → W p l e rm9_setText s m args below meth c H locs 0 0 (MQ below (qW (some (.int r.1)) (cM cI cJ a r.2) D (ty3 cI cJ cC) A) args s 0 0 A) (F0 m 7 ls [])) : ∀ (u : Md) (x1 : Int32) (x2 : Int32) (x3 : Int64) (x6 : Int32) (y0 : Int32) (y1 : Int32), f9_setText_56 k7 u x1 x2 x3 x6 y0 y1 = some r → ∀ {H : Heap} {locs : List Loc}, va_P D vwCl (cM cI cJ a u) H → va_D A (cM cI cJ a u) → va_S A s.heap H locs → ∀ {ls : Array Slot}, lv_has ls 9 [(0, .ref (a 0)), (1, .int x1), (2, .int x2), (3, .long x3), (6, .int x6)] → W p l e rm9_setText s m args below meth c H locs 0 0 (MQ below (qW (some (.int r.1)) (cM cI cJ a r.2) D (ty3 cI cJ cC) A) args s 0 0 A) (F0 m 56 ls [.int y0, .int y1]) := by
  have hx := C.1.1
  have hb := C.1.2.1
  have hts := C.1.2.2.2.2
  have hown := C.1.2.2.2.1
  have hin : ∀ w ∈ wsX90, w ∈ ws9_setText := fun w h => List.mem_cons_of_mem _ (List.mem_append_right _ h)
  intro u x1 x2 x3 x6 y0 y1 hf H locs hP hD hS ls hl
  unfold f9_setText_56 at hf
  refine lv_iadd hx hb dX9_setText_56 ?_
  refine lv_istore (lv' := [(5, .int (y1 + y0)), (0, .ref (a 0)), (1, .int x1), (2, .int x2), (3, .long x3), (6, .int x6)]) hx hb dX9_setText_57 hl (by decide) rfl (fun ls hl => ?_)
  refine lv_iinc (v := (x6 + (-8 : Int32))) (lv' := [(6, .int (x6 + (-8 : Int32))), (5, .int (y1 + y0)), (0, .ref (a 0)), (1, .int x1), (2, .int x2), (3, .long x3)]) hx hb dX9_setText_59 hl (k := 5) rfl rfl (by decide) rfl (fun ls hl => ?_)
  refine lv_goto (tgt := 7) hx hb dX9_setText_62 (by decide) ?_
  exact ih7 u x1 x2 x3 (y1 + y0) (x6 + (-8 : Int32)) hf hP hD hS (lv_sub hl [2, 3, 4, 5, 1, 0] rfl)
def f9_setText_44 (k7 : Md → Int32 → Int32 → Int64 → Int32 → Int32 → Option (Int32 × Md)) (u : Md) (x1 : Int32) (x2 : Int32) (x3 : Int64) (x5 : Int32) (x6 : Int32) (x7 : Int32) : Option (Int32 × Md) := (if x7 = 0 then (f9_setText_56 k7 u x1 x2 x3 x6 (0 : Int32) x5) else (f9_setText_56 k7 u x1 x2 x3 x6 (1 : Int32) x5))
set_option maxHeartbeats 4000000 in
set_option maxRecDepth 100000 in
theorem w9_setText_44 {p : Program} {l : Launch} {e : Env} {s : State} {m : MethodId} {args : Array Value} {below : List Frame} {meth : Method} {c : Code} (C : Cx p s m args meth c cX9_setText 9 ws9_setText RX9 (some .boolean)) {D : va_G} {cI cJ cC : ClassId} {a : Nat → Nat} {A : Nat → Prop} (hK : va_K D vwCl (ty3 cI cJ cC) s) (hA : ∀ q : Nat, s.heap.size ≤ q → A q) {r : (Int32 × Md)} (k7 : Md → Int32 → Int32 → Int64 → Int32 → Int32 → Option (Int32 × Md)) (ih7 : ∀ (u : Md) (x1 : Int32) (x2 : Int32) (x3 : Int64) (x5 : Int32) (x6 : Int32), k7 u x1 x2 x3 x5 x6 = some r → ∀ {H : Heap} {locs : List Loc}, va_P D vwCl (cM cI cJ a u) H → va_D A (cM cI cJ a u) → va_S A s.heap H locs → ∀ {ls : Array Slot}, lv_has ls 9 [(0, .ref (a 0)), (1, .int x1), (2, .int x2), (3, .long x3), (5, .int x5), (6, .int x6)] → W p l e rm9_setText s m args below meth c H locs 0 0 (MQ below (qW (some (.int r.1)) (cM cI cJ a r.2) D (ty3 cI cJ cC) A) args s 0 0 A) (F0 m 7 ls [])) : ∀ (u : Md) (x1 : Int32) (x2 : Int32) (x3 : Int64) (x5 : Int32) (x6 : Int32) (x7 : Int32), f9_setText_44 k7 u x1 x2 x3 x5 x6 x7 = some r → ∀ {H : Heap} {locs : List Loc}, va_P D vwCl (cM cI cJ a u) H → va_D A (cM cI cJ a u) → va_S A s.heap H locs → ∀ {ls : Array Slot}, lv_has ls 9 [(0, .ref (a 0)), (1, .int x1), (2, .int x2), (3, .long x3), (5, .int x5), (6, .int x6), (7, .int x7)] → W p l e rm9_setText s m args below meth c H locs 0 0 (MQ below (qW (some (.int r.1)) (cM cI cJ a r.2) D (ty3 cI cJ cC) A) args s 0 0 A) (F0 m 44 ls []) := by
  have hx := C.1.1
  have hb := C.1.2.1
  have hts := C.1.2.2.2.2
  have hown := C.1.2.2.2.1
  have hin : ∀ w ∈ wsX90, w ∈ ws9_setText := fun w h => List.mem_cons_of_mem _ (List.mem_append_right _ h)
  intro u x1 x2 x3 x5 x6 x7 hf H locs hP hD hS ls hl
  unfold f9_setText_44 at hf
  refine lv_iload hx hb dX9_setText_44 (lv_at hl 4 rfl) ?_
  refine lv_iload hx hb dX9_setText_46 (lv_at hl 6 rfl) ?_
  refine lv_if_eq (tgt := 55) hx hb dX9_setText_48 (by decide) (fun c_11 => ?_) (fun c_11 => ?_)
  · replace hf := og_t c_11 hf
    refine lv_iconst (v := (0 : Int32)) hx hb dX9_setText_55 (by decide) ?_
    exact w9_setText_56 C hK hA k7 (fun _ _ _ _ _ _ h9 => ih7 _ _ _ _ _ _ h9) u x1 x2 x3 x6 (0 : Int32) x5 hf hP hD hS (lv_sub hl [0, 1, 2, 3, 5] rfl)
  · replace hf := og_f c_11 hf
    refine lv_iconst (v := (1 : Int32)) hx hb dX9_setText_51 (by decide) ?_
    refine lv_goto (tgt := 56) hx hb dX9_setText_52 (by decide) ?_
    exact w9_setText_56 C hK hA k7 (fun _ _ _ _ _ _ h9 => ih7 _ _ _ _ _ _ h9) u x1 x2 x3 x6 (1 : Int32) x5 hf hP hD hS (lv_sub hl [0, 1, 2, 3, 5] rfl)
def f9_setText_139 (k93 : Md → Int32 → Int32 → Int64 → Int32 → Int32 → Option (Int32 × Md)) (u : Md) (x1 : Int32) (x2 : Int32) (x3 : Int64) (x6 : Int32) (x7 : Int32) : Option (Int32 × Md) := (k93 u x1 x2 x3 x6 (x7 + (-8 : Int32)))
set_option maxHeartbeats 4000000 in
set_option maxRecDepth 100000 in
theorem w9_setText_139 {p : Program} {l : Launch} {e : Env} {s : State} {m : MethodId} {args : Array Value} {below : List Frame} {meth : Method} {c : Code} (C : Cx p s m args meth c cX9_setText 9 ws9_setText RX9 (some .boolean)) {D : va_G} {cI cJ cC : ClassId} {a : Nat → Nat} {A : Nat → Prop} (hK : va_K D vwCl (ty3 cI cJ cC) s) (hA : ∀ q : Nat, s.heap.size ≤ q → A q) {r : (Int32 × Md)} (k93 : Md → Int32 → Int32 → Int64 → Int32 → Int32 → Option (Int32 × Md)) (ih93 : ∀ (u : Md) (x1 : Int32) (x2 : Int32) (x3 : Int64) (x6 : Int32) (x7 : Int32), k93 u x1 x2 x3 x6 x7 = some r → ∀ {H : Heap} {locs : List Loc}, va_P D vwCl (cM cI cJ a u) H → va_D A (cM cI cJ a u) → va_S A s.heap H locs → ∀ {ls : Array Slot}, lv_has ls 9 [(0, .ref (a 0)), (1, .int x1), (2, .int x2), (3, .long x3), (6, .int x6), (7, .int x7)] → W p l e rm9_setText s m args below meth c H locs 0 0 (MQ below (qW (some (.int r.1)) (cM cI cJ a r.2) D (ty3 cI cJ cC) A) args s 0 0 A) (F0 m 93 ls [])) : ∀ (u : Md) (x1 : Int32) (x2 : Int32) (x3 : Int64) (x6 : Int32) (x7 : Int32), f9_setText_139 k93 u x1 x2 x3 x6 x7 = some r → ∀ {H : Heap} {locs : List Loc}, va_P D vwCl (cM cI cJ a u) H → va_D A (cM cI cJ a u) → va_S A s.heap H locs → ∀ {ls : Array Slot}, lv_has ls 9 [(0, .ref (a 0)), (1, .int x1), (2, .int x2), (3, .long x3), (6, .int x6), (7, .int x7)] → W p l e rm9_setText s m args below meth c H locs 0 0 (MQ below (qW (some (.int r.1)) (cM cI cJ a r.2) D (ty3 cI cJ cC) A) args s 0 0 A) (F0 m 139 ls []) := by
  have hx := C.1.1
  have hb := C.1.2.1
  have hts := C.1.2.2.2.2
  have hown := C.1.2.2.2.1
  have hin : ∀ w ∈ wsX90, w ∈ ws9_setText := fun w h => List.mem_cons_of_mem _ (List.mem_append_right _ h)
  intro u x1 x2 x3 x6 x7 hf H locs hP hD hS ls hl
  unfold f9_setText_139 at hf
  refine lv_iinc (v := (x7 + (-8 : Int32))) (lv' := [(7, .int (x7 + (-8 : Int32))), (0, .ref (a 0)), (1, .int x1), (2, .int x2), (3, .long x3), (6, .int x6)]) hx hb dX9_setText_139 hl (k := 5) rfl rfl (by decide) rfl (fun ls hl => ?_)
  refine lv_goto (tgt := 93) hx hb dX9_setText_142 (by decide) ?_
  exact ih93 u x1 x2 x3 x6 (x7 + (-8 : Int32)) hf hP hD hS (lv_sub hl [1, 2, 3, 4, 5, 0] rfl)
def f9_setText_166 (u : Md) (y0 : Int32) (y1 : Int32) : Option (Int32 × Md) := (if y1 < 0 ∨ 400 ≤ (y1).toNatClampNeg then none else (some ((1 : Int32), (sa u 8 (upd (ga u 8) (y1).toNatClampNeg y0)))))
set_option maxHeartbeats 4000000 in
set_option maxRecDepth 100000 in
theorem w9_setText_166 {p : Program} {l : Launch} {e : Env} {s : State} {m : MethodId} {args : Array Value} {below : List Frame} {meth : Method} {c : Code} (C : Cx p s m args meth c cX9_setText 9 ws9_setText RX9 (some .boolean)) {D : va_G} {cI cJ cC : ClassId} {a : Nat → Nat} {A : Nat → Prop} (hK : va_K D vwCl (ty3 cI cJ cC) s) (hA : ∀ q : Nat, s.heap.size ≤ q → A q) {r : (Int32 × Md)} : ∀ (u : Md) (y0 : Int32) (y1 : Int32), f9_setText_166 u y0 y1 = some r → ∀ {H : Heap} {locs : List Loc}, va_P D vwCl (cM cI cJ a u) H → va_D A (cM cI cJ a u) → va_S A s.heap H locs → ∀ {ls : Array Slot}, lv_has ls 9 [(0, .ref (a 0))] → W p l e rm9_setText s m args below meth c H locs 0 0 (MQ below (qW (some (.int r.1)) (cM cI cJ a r.2) D (ty3 cI cJ cC) A) args s 0 0 A) (F0 m 166 ls [.int y0, .int y1, .ref (a 8)]) := by
  have hx := C.1.1
  have hb := C.1.2.1
  have hts := C.1.2.2.2.2
  have hown := C.1.2.2.2.1
  have hin : ∀ w ∈ wsX90, w ∈ ws9_setText := fun w h => List.mem_cons_of_mem _ (List.mem_append_right _ h)
  intro u y0 y1 hf H locs hP hD hS ls hl
  unfold f9_setText_166 at hf
  obtain ⟨h_12, hf⟩ := og_n hf
  refine ms9_8 C hK hP hD hS (f := (ga u 8)) rfl h_12 dX9_setText_166 (fun H locs hP hD hS => ?_)
  refine lv_iconst (v := (1 : Int32)) hx hb dX9_setText_167 (by decide) ?_
  obtain rfl := og_s hf
  exact rw_z C hK hP hD hS (nz_z (Or.inr rfl)) dX9_setText_168
def f9_setText_93 : Nat → Md → Int32 → Int32 → Int64 → Int32 → Int32 → Option (Int32 × Md)
  | 0, _, _, _, _, _, _ => none
  | n + 1, u, x1, x2, x3, x6, x7 => (if x7 < 0 then (if (lg_cmp x3 (0 : Int64)) = 0 then (f9_setText_166 u (0 : Int32) (((2 : Int32) * x1) + x2)) else (f9_setText_166 u x6 (((2 : Int32) * x1) + x2))) else (if (((x3 >>> (x7.toInt64 &&& 63)) &&& (255 : Int64))).toInt32 = 0 then (f9_setText_139 (f9_setText_93 n) u x1 x2 x3 x6 x7) else (if ((((80 : Int32) * x1) + ((40 : Int32) * x2)) + x6) < 0 ∨ 16000 ≤ (((((80 : Int32) * x1) + ((40 : Int32) * x2)) + x6)).toNatClampNeg then none else (f9_setText_139 (f9_setText_93 n) (sa u 9 (upd (ga u 9) (((((80 : Int32) * x1) + ((40 : Int32) * x2)) + x6)).toNatClampNeg (((x3 >>> (x7.toInt64 &&& 63)) &&& (255 : Int64))).toInt32)) x1 x2 x3 (x6 + (1 : Int32)) x7))))
set_option maxHeartbeats 4000000 in
set_option maxRecDepth 100000 in
theorem w9_setText_93 {p : Program} {l : Launch} {e : Env} {s : State} {m : MethodId} {args : Array Value} {below : List Frame} {meth : Method} {c : Code} (C : Cx p s m args meth c cX9_setText 9 ws9_setText RX9 (some .boolean)) {D : va_G} {cI cJ cC : ClassId} {a : Nat → Nat} {A : Nat → Prop} (hK : va_K D vwCl (ty3 cI cJ cC) s) (hA : ∀ q : Nat, s.heap.size ≤ q → A q) {r : (Int32 × Md)} : ∀ (n : Nat), ∀ (u : Md) (x1 : Int32) (x2 : Int32) (x3 : Int64) (x6 : Int32) (x7 : Int32), f9_setText_93 n u x1 x2 x3 x6 x7 = some r → ∀ {H : Heap} {locs : List Loc}, va_P D vwCl (cM cI cJ a u) H → va_D A (cM cI cJ a u) → va_S A s.heap H locs → ∀ {ls : Array Slot}, lv_has ls 9 [(0, .ref (a 0)), (1, .int x1), (2, .int x2), (3, .long x3), (6, .int x6), (7, .int x7)] → W p l e rm9_setText s m args below meth c H locs 0 0 (MQ below (qW (some (.int r.1)) (cM cI cJ a r.2) D (ty3 cI cJ cC) A) args s 0 0 A) (F0 m 93 ls []) := by
  have hx := C.1.1
  have hb := C.1.2.1
  have hts := C.1.2.2.2.2
  have hown := C.1.2.2.2.1
  have hin : ∀ w ∈ wsX90, w ∈ ws9_setText := fun w h => List.mem_cons_of_mem _ (List.mem_append_right _ h)
  intro n
  induction n with
  | zero =>
    intro u x1 x2 x3 x6 x7 hf H locs hP hD hS ls hl
    cases hf
  | succ n ih =>
    intro u x1 x2 x3 x6 x7 hf H locs hP hD hS ls hl
    rw [f9_setText_93] at hf
    refine lv_iload hx hb dX9_setText_93 (lv_at hl 5 rfl) ?_
    refine lv_if_lt (tgt := 145) hx hb dX9_setText_95 (by decide) (fun c_7 => ?_) (fun c_7 => ?_)
    · replace hf := og_t c_7 hf
      refine lv_aload_n hx hb dX9_setText_145 rfl (lv_at hl 0 rfl) ?_
      refine mg9 (v := .ref (a 8)) C hin hK hP 8 (by decide) (hts (Cond.fieldLink RX9 23 "SchematicTextModel" "textSizes" "[I") (List.mem_cons_of_mem _ m9_10)) rfl dX9_setText_146 ?_
      refine lv_iconst (v := (2 : Int32)) hx hb dX9_setText_149 (by decide) ?_
      refine lv_iload_n hx hb dX9_setText_150 rfl (lv_at hl 1 rfl) ?_
      refine lv_imul hx hb dX9_setText_151 ?_
      refine lv_iload_n hx hb dX9_setText_152 rfl (lv_at hl 2 rfl) ?_
      refine lv_iadd hx hb dX9_setText_153 ?_
      refine lv_lload_n hx hb dX9_setText_154 rfl (lv_at hl 3 rfl) ?_
      refine lv_lconst (v := (0 : Int64)) hx hb dX9_setText_155 (by decide) ?_
      refine W.lcmp hx hb dX9_setText_156 ?_
      refine lv_if_ne (tgt := 164) hx hb dX9_setText_157 (by decide) (fun c_8 => ?_) (fun c_8 => ?_)
      · replace hf := og_f c_8 hf
        refine lv_iload hx hb dX9_setText_164 (lv_at hl 4 rfl) ?_
        exact w9_setText_166 C hK hA u x6 (((2 : Int32) * x1) + x2) hf hP hD hS (lv_sub hl [0] rfl)
      · replace hf := og_t c_8 hf
        refine lv_iconst (v := (0 : Int32)) hx hb dX9_setText_160 (by decide) ?_
        refine lv_goto (tgt := 166) hx hb dX9_setText_161 (by decide) ?_
        exact w9_setText_166 C hK hA u (0 : Int32) (((2 : Int32) * x1) + x2) hf hP hD hS (lv_sub hl [0] rfl)
    · replace hf := og_f c_7 hf
      refine lv_lload_n hx hb dX9_setText_98 rfl (lv_at hl 3 rfl) ?_
      refine lv_iload hx hb dX9_setText_99 (lv_at hl 5 rfl) ?_
      refine lv_lshr (v := (x3 >>> (x7.toInt64 &&& 63))) hx hb dX9_setText_101 rfl ?_
      refine lv_ldc2 (v := (255 : Int64)) hx hb hown (hts (Cond.constantLong RX9 256 (255)) (List.mem_cons_of_mem _ m9_203)) dX9_setText_102 ?_
      refine lv_land hx hb dX9_setText_105 ?_
      refine lv_l2i (v := (((x3 >>> (x7.toInt64 &&& 63)) &&& (255 : Int64))).toInt32) hx hb dX9_setText_106 rfl ?_
      refine lv_istore (lv' := [(8, .int (((x3 >>> (x7.toInt64 &&& 63)) &&& (255 : Int64))).toInt32), (0, .ref (a 0)), (1, .int x1), (2, .int x2), (3, .long x3), (6, .int x6), (7, .int x7)]) hx hb dX9_setText_107 hl (by decide) rfl (fun ls hl => ?_)
      refine lv_iload hx hb dX9_setText_109 (lv_at hl 0 rfl) ?_
      refine lv_if_ne (tgt := 117) hx hb dX9_setText_111 (by decide) (fun c_9 => ?_) (fun c_9 => ?_)
      · replace hf := og_f c_9 hf
        refine lv_aload_n hx hb dX9_setText_117 rfl (lv_at hl 1 rfl) ?_
        refine mg9 (v := .ref (a 9)) C hin hK hP 9 (by decide) (hts (Cond.fieldLink RX9 26 "SchematicTextModel" "characters" "[I") (List.mem_cons_of_mem _ m9_11)) rfl dX9_setText_118 ?_
        refine lv_bipush (v := (80 : Int32)) hx hb dX9_setText_121 (by decide) ?_
        refine lv_iload_n hx hb dX9_setText_123 rfl (lv_at hl 2 rfl) ?_
        refine lv_imul hx hb dX9_setText_124 ?_
        refine lv_bipush (v := (40 : Int32)) hx hb dX9_setText_125 (by decide) ?_
        refine lv_iload_n hx hb dX9_setText_127 rfl (lv_at hl 3 rfl) ?_
        refine lv_imul hx hb dX9_setText_128 ?_
        refine lv_iadd hx hb dX9_setText_129 ?_
        refine lv_iload hx hb dX9_setText_130 (lv_at hl 5 rfl) ?_
        refine lv_iadd hx hb dX9_setText_132 ?_
        refine lv_iload hx hb dX9_setText_133 (lv_at hl 0 rfl) ?_
        obtain ⟨h_10, hf⟩ := og_n hf
        refine ms9_9 C hK hP hD hS (f := (ga u 9)) rfl h_10 dX9_setText_135 (fun H locs hP hD hS => ?_)
        refine lv_iinc (v := (x6 + (1 : Int32))) (lv' := [(6, .int (x6 + (1 : Int32))), (8, .int (((x3 >>> (x7.toInt64 &&& 63)) &&& (255 : Int64))).toInt32), (0, .ref (a 0)), (1, .int x1), (2, .int x2), (3, .long x3), (7, .int x7)]) hx hb dX9_setText_136 hl (k := 5) rfl rfl (by decide) rfl (fun ls hl => ?_)
        exact w9_setText_139 C hK hA (f9_setText_93 n) (fun _ _ _ _ _ _ h9 => ih _ _ _ _ _ _ h9) (sa u 9 (upd (ga u 9) (((((80 : Int32) * x1) + ((40 : Int32) * x2)) + x6)).toNatClampNeg (((x3 >>> (x7.toInt64 &&& 63)) &&& (255 : Int64))).toInt32)) x1 x2 x3 (x6 + (1 : Int32)) x7 hf hP hD hS (lv_sub hl [2, 3, 4, 5, 0, 6] rfl)
      · replace hf := og_t c_9 hf
        refine lv_goto (tgt := 139) hx hb dX9_setText_114 (by decide) ?_
        exact w9_setText_139 C hK hA (f9_setText_93 n) (fun _ _ _ _ _ _ h9 => ih _ _ _ _ _ _ h9) u x1 x2 x3 x6 x7 hf hP hD hS (lv_sub hl [1, 2, 3, 4, 5, 6] rfl)
def f9_setText_7 : Nat → Md → Int32 → Int32 → Int64 → Int32 → Int32 → Option (Int32 × Md)
  | 0, _, _, _, _, _, _ => none
  | n + 1, u, x1, x2, x3, x5, x6 => (if x6 < 0 then (if (((2 : Int32) * x1) + x2) < 0 ∨ 400 ≤ ((((2 : Int32) * x1) + x2)).toNatClampNeg then none else (if (((ga u 8) ((((2 : Int32) * x1) + x2)).toNatClampNeg) + x5) ≤ (40 : Int32) then (f9_setText_93 FU u x1 x2 x3 ((ga u 8) ((((2 : Int32) * x1) + x2)).toNatClampNeg) (56 : Int32)) else (some ((0 : Int32), u)))) else (if (((x3 >>> (x6.toInt64 &&& 63)) &&& (255 : Int64))).toInt32 = 0 then (f9_setText_44 (f9_setText_7 n) u x1 x2 x3 x5 x6 (((x3 >>> (x6.toInt64 &&& 63)) &&& (255 : Int64))).toInt32) else (if (((x3 >>> (x6.toInt64 &&& 63)) &&& (255 : Int64))).toInt32 < (32 : Int32) then (some ((0 : Int32), u)) else (if (((x3 >>> (x6.toInt64 &&& 63)) &&& (255 : Int64))).toInt32 ≤ (126 : Int32) then (f9_setText_44 (f9_setText_7 n) u x1 x2 x3 x5 x6 (((x3 >>> (x6.toInt64 &&& 63)) &&& (255 : Int64))).toInt32) else (some ((0 : Int32), u))))))
set_option maxHeartbeats 4000000 in
set_option maxRecDepth 100000 in
theorem w9_setText_7 {p : Program} {l : Launch} {e : Env} {s : State} {m : MethodId} {args : Array Value} {below : List Frame} {meth : Method} {c : Code} (C : Cx p s m args meth c cX9_setText 9 ws9_setText RX9 (some .boolean)) {D : va_G} {cI cJ cC : ClassId} {a : Nat → Nat} {A : Nat → Prop} (hK : va_K D vwCl (ty3 cI cJ cC) s) (hA : ∀ q : Nat, s.heap.size ≤ q → A q) {r : (Int32 × Md)} : ∀ (n : Nat), ∀ (u : Md) (x1 : Int32) (x2 : Int32) (x3 : Int64) (x5 : Int32) (x6 : Int32), f9_setText_7 n u x1 x2 x3 x5 x6 = some r → ∀ {H : Heap} {locs : List Loc}, va_P D vwCl (cM cI cJ a u) H → va_D A (cM cI cJ a u) → va_S A s.heap H locs → ∀ {ls : Array Slot}, lv_has ls 9 [(0, .ref (a 0)), (1, .int x1), (2, .int x2), (3, .long x3), (5, .int x5), (6, .int x6)] → W p l e rm9_setText s m args below meth c H locs 0 0 (MQ below (qW (some (.int r.1)) (cM cI cJ a r.2) D (ty3 cI cJ cC) A) args s 0 0 A) (F0 m 7 ls []) := by
  have hx := C.1.1
  have hb := C.1.2.1
  have hts := C.1.2.2.2.2
  have hown := C.1.2.2.2.1
  have hin : ∀ w ∈ wsX90, w ∈ ws9_setText := fun w h => List.mem_cons_of_mem _ (List.mem_append_right _ h)
  intro n
  induction n with
  | zero =>
    intro u x1 x2 x3 x5 x6 hf H locs hP hD hS ls hl
    cases hf
  | succ n ih =>
    intro u x1 x2 x3 x5 x6 hf H locs hP hD hS ls hl
    rw [f9_setText_7] at hf
    refine lv_iload hx hb dX9_setText_7 (lv_at hl 5 rfl) ?_
    refine lv_if_lt (tgt := 65) hx hb dX9_setText_9 (by decide) (fun c_1 => ?_) (fun c_1 => ?_)
    · replace hf := og_t c_1 hf
      refine lv_aload_n hx hb dX9_setText_65 rfl (lv_at hl 0 rfl) ?_
      refine mg9 (v := .ref (a 8)) C hin hK hP 8 (by decide) (hts (Cond.fieldLink RX9 23 "SchematicTextModel" "textSizes" "[I") (List.mem_cons_of_mem _ m9_10)) rfl dX9_setText_66 ?_
      refine lv_iconst (v := (2 : Int32)) hx hb dX9_setText_69 (by decide) ?_
      refine lv_iload_n hx hb dX9_setText_70 rfl (lv_at hl 1 rfl) ?_
      refine lv_imul hx hb dX9_setText_71 ?_
      refine lv_iload_n hx hb dX9_setText_72 rfl (lv_at hl 2 rfl) ?_
      refine lv_iadd hx hb dX9_setText_73 ?_
      obtain ⟨h_2, hf⟩ := og_n hf
      refine va_iald (f := (ga u 8)) hx hb hK hP 5 0 rfl rfl h_2 dX9_setText_74 ?_
      refine lv_istore (lv' := [(6, .int ((ga u 8) ((((2 : Int32) * x1) + x2)).toNatClampNeg)), (0, .ref (a 0)), (1, .int x1), (2, .int x2), (3, .long x3), (5, .int x5)]) hx hb dX9_setText_75 hl (by decide) rfl (fun ls hl => ?_)
      refine lv_iload hx hb dX9_setText_77 (lv_at hl 0 rfl) ?_
      refine lv_iload hx hb dX9_setText_79 (lv_at hl 5 rfl) ?_
      refine lv_iadd hx hb dX9_setText_81 ?_
      refine lv_bipush (v := (40 : Int32)) hx hb dX9_setText_82 (by decide) ?_
      refine lv_icmp_le (tgt := 89) hx hb dX9_setText_84 (by decide) (fun c_3 => ?_) (fun c_3 => ?_)
      · replace hf := og_t c_3 hf
        refine lv_bipush (v := (56 : Int32)) hx hb dX9_setText_89 (by decide) ?_
        refine lv_istore (lv' := [(7, .int (56 : Int32)), (6, .int ((ga u 8) ((((2 : Int32) * x1) + x2)).toNatClampNeg)), (0, .ref (a 0)), (1, .int x1), (2, .int x2), (3, .long x3), (5, .int x5)]) hx hb dX9_setText_91 hl (by decide) rfl (fun ls hl => ?_)
        exact w9_setText_93 C hK hA FU u x1 x2 x3 ((ga u 8) ((((2 : Int32) * x1) + x2)).toNatClampNeg) (56 : Int32) hf hP hD hS (lv_sub hl [2, 3, 4, 5, 1, 0] rfl)
      · replace hf := og_f c_3 hf
        refine lv_iconst (v := (0 : Int32)) hx hb dX9_setText_87 (by decide) ?_
        obtain rfl := og_s hf
        exact rw_z C hK hP hD hS (nz_z (Or.inl rfl)) dX9_setText_88
    · replace hf := og_f c_1 hf
      refine lv_lload_n hx hb dX9_setText_12 rfl (lv_at hl 3 rfl) ?_
      refine lv_iload hx hb dX9_setText_13 (lv_at hl 5 rfl) ?_
      refine lv_lshr (v := (x3 >>> (x6.toInt64 &&& 63))) hx hb dX9_setText_15 rfl ?_
      refine lv_ldc2 (v := (255 : Int64)) hx hb hown (hts (Cond.constantLong RX9 256 (255)) (List.mem_cons_of_mem _ m9_203)) dX9_setText_16 ?_
      refine lv_land hx hb dX9_setText_19 ?_
      refine lv_l2i (v := (((x3 >>> (x6.toInt64 &&& 63)) &&& (255 : Int64))).toInt32) hx hb dX9_setText_20 rfl ?_
      refine lv_istore (lv' := [(7, .int (((x3 >>> (x6.toInt64 &&& 63)) &&& (255 : Int64))).toInt32), (0, .ref (a 0)), (1, .int x1), (2, .int x2), (3, .long x3), (5, .int x5), (6, .int x6)]) hx hb dX9_setText_21 hl (by decide) rfl (fun ls hl => ?_)
      refine lv_iload hx hb dX9_setText_23 (lv_at hl 0 rfl) ?_
      refine lv_if_eq (tgt := 44) hx hb dX9_setText_25 (by decide) (fun c_4 => ?_) (fun c_4 => ?_)
      · replace hf := og_t c_4 hf
        exact w9_setText_44 C hK hA (f9_setText_7 n) (fun _ _ _ _ _ _ h9 => ih _ _ _ _ _ _ h9) u x1 x2 x3 x5 x6 (((x3 >>> (x6.toInt64 &&& 63)) &&& (255 : Int64))).toInt32 hf hP hD hS (lv_sub hl [1, 2, 3, 4, 5, 6, 0] rfl)
      · replace hf := og_f c_4 hf
        refine lv_iload hx hb dX9_setText_28 (lv_at hl 0 rfl) ?_
        refine lv_bipush (v := (32 : Int32)) hx hb dX9_setText_30 (by decide) ?_
        refine lv_icmp_lt (tgt := 42) hx hb dX9_setText_32 (by decide) (fun c_5 => ?_) (fun c_5 => ?_)
        · replace hf := og_t c_5 hf
          refine lv_iconst (v := (0 : Int32)) hx hb dX9_setText_42 (by decide) ?_
          obtain rfl := og_s hf
          exact rw_z C hK hP hD hS (nz_z (Or.inl rfl)) dX9_setText_43
        · replace hf := og_f c_5 hf
          refine lv_iload hx hb dX9_setText_35 (lv_at hl 0 rfl) ?_
          refine lv_bipush (v := (126 : Int32)) hx hb dX9_setText_37 (by decide) ?_
          refine lv_icmp_le (tgt := 44) hx hb dX9_setText_39 (by decide) (fun c_6 => ?_) (fun c_6 => ?_)
          · replace hf := og_t c_6 hf
            exact w9_setText_44 C hK hA (f9_setText_7 n) (fun _ _ _ _ _ _ h9 => ih _ _ _ _ _ _ h9) u x1 x2 x3 x5 x6 (((x3 >>> (x6.toInt64 &&& 63)) &&& (255 : Int64))).toInt32 hf hP hD hS (lv_sub hl [1, 2, 3, 4, 5, 6, 0] rfl)
          · replace hf := og_f c_6 hf
            refine lv_iconst (v := (0 : Int32)) hx hb dX9_setText_42 (by decide) ?_
            obtain rfl := og_s hf
            exact rw_z C hK hP hD hS (nz_z (Or.inl rfl)) dX9_setText_43
def f9_setText (u : Md) (x1 : Int32) (x2 : Int32) (x3 : Int64) : Option (Int32 × Md) := (f9_setText_7 FU u x1 x2 x3 (0 : Int32) (56 : Int32))
set_option maxHeartbeats 4000000 in
set_option maxRecDepth 100000 in
theorem c9_setText (l : Launch) (D : va_G) (cI cJ cC : ClassId) (a : Nat → Nat) (u : Md) (x1 : Int32) (x2 : Int32) (x3 : Int64) (r : Int32) (v : Md) (sz : Nat) (hf : f9_setText u x1 x2 x3 = some (r, v)) : Met l yX9_setText ws9_setText rm9_setText (pW D (ty3 cI cJ cC) (cM cI cJ a u) sz [.ref (a 0), .int x1, .int x2, .long x3]) (qW (some (.int r)) (cM cI cJ a v) D (ty3 cI cJ cC) (va_A (cM cI cJ a u) sz)) 0 0 (va_A (cM cI cJ a u) sz) := by
  refine mt_w (cc := cX9_setText) (maxL := 9) (ret := (some .boolean)) (by decide) rfl (Nat.le_of_ble_eq_true rfl) ?_
  intro p e s m below meth c ls A C hl hK hA hP hD hS
  have hl : lv_has ls 9 [(0, .ref (a 0)), (1, .int x1), (2, .int x2), (3, .long x3)] := hl
  have hx := C.1.1
  have hb := C.1.2.1
  have hts := C.1.2.2.2.2
  have hown := C.1.2.2.2.1
  have hin : ∀ w ∈ wsX90, w ∈ ws9_setText := fun w h => List.mem_cons_of_mem _ (List.mem_append_right _ h)
  unfold f9_setText at hf
  refine lv_iconst (v := (0 : Int32)) hx hb dX9_setText_0 (by decide) ?_
  refine lv_istore (lv' := [(5, .int (0 : Int32)), (0, .ref (a 0)), (1, .int x1), (2, .int x2), (3, .long x3)]) hx hb dX9_setText_1 hl (by decide) rfl (fun ls hl => ?_)
  refine lv_bipush (v := (56 : Int32)) hx hb dX9_setText_3 (by decide) ?_
  refine lv_istore (lv' := [(6, .int (56 : Int32)), (5, .int (0 : Int32)), (0, .ref (a 0)), (1, .int x1), (2, .int x2), (3, .long x3)]) hx hb dX9_setText_5 hl (by decide) rfl (fun ls hl => ?_)
  exact w9_setText_7 C hK hA FU u x1 x2 x3 (0 : Int32) (56 : Int32) hf hP hD hS (lv_sub hl [2, 3, 4, 5, 1, 0] rfl)
abbrev rm9_set : Room := { frames := 2, cells := 0, slots := 0, locals := 45 }
noncomputable abbrev ws9_set : List Cond := Cond.code yX9_set cX9_set 8 (some .boolean) :: WA9
theorem hd9_set : yX9_set.cls = RX9 ∧ yX9_set.cls ≠ "java/lang/invoke/MethodHandle" ∧ yX9_set.cls ≠ "java/lang/invoke/VarHandle" ∧ (parseMethodDescriptor yX9_set.desc).map (fun d => d.parameters.length) = some 3 := by decide +kernel
def f9_set_167 (u : Md) (x7 : Int32) (y0 : Int32) : Option (Int32 × Md) := (if y0 = 0 ∨ y0 = 1 then ((if x7 = 0 ∨ x7 = 1 then some (x7, (si u 27 y0)) else none)) else none)
set_option maxHeartbeats 4000000 in
set_option maxRecDepth 100000 in
theorem w9_set_167 {p : Program} {l : Launch} {e : Env} {s : State} {m : MethodId} {args : Array Value} {below : List Frame} {meth : Method} {c : Code} (C : Cx p s m args meth c cX9_set 8 ws9_set RX9 (some .boolean)) {D : va_G} {cI cJ cC : ClassId} {a : Nat → Nat} {A : Nat → Prop} (hK : va_K D vwCl (ty3 cI cJ cC) s) (hA : ∀ q : Nat, s.heap.size ≤ q → A q) {r : (Int32 × Md)} : ∀ (u : Md) (x7 : Int32) (y0 : Int32), f9_set_167 u x7 y0 = some r → ∀ {H : Heap} {locs : List Loc}, va_P D vwCl (cM cI cJ a u) H → va_D A (cM cI cJ a u) → va_S A s.heap H locs → ∀ {ls : Array Slot}, lv_has ls 8 [(0, .ref (a 0)), (7, .int x7)] → W p l e rm9_set s m args below meth c H locs 0 0 (MQ below (qW (some (.int r.1)) (cM cI cJ a r.2) D (ty3 cI cJ cC) A) args s 0 0 A) (F0 m 167 ls [.int y0, .ref (a 0)]) := by
  have hx := C.1.1
  have hb := C.1.2.1
  have hts := C.1.2.2.2.2
  have hown := C.1.2.2.2.1
  have hin : ∀ w ∈ wsX90, w ∈ ws9_set := fun w h => List.mem_cons_of_mem _ (List.mem_append_right _ h)
  intro u x7 y0 hf H locs hP hD hS ls hl
  unfold f9_set_167 at hf
  obtain ⟨h_28, hf⟩ := og_p hf
  refine mp9_27 C hin hK hP hD hS (hts (Cond.fieldLink RX9 48 "SchematicTextModel" "stale" "Z") (List.mem_cons_of_mem _ m9_19)) (nz_z h_28) (nz_f h_28) dX9_set_167 (fun H locs hP hD hS => ?_)
  refine lv_iload hx hb dX9_set_170 (lv_at hl 1 rfl) ?_
  obtain ⟨h_29, hf⟩ := og_p hf
  obtain rfl := og_s hf
  exact rw_z C hK hP hD hS (nz_z h_29) dX9_set_172
def f9_set_162 (u : Md) (x7 : Int32) : Option (Int32 × Md) := (f9_set_167 u x7 (1 : Int32))
set_option maxHeartbeats 4000000 in
set_option maxRecDepth 100000 in
theorem w9_set_162 {p : Program} {l : Launch} {e : Env} {s : State} {m : MethodId} {args : Array Value} {below : List Frame} {meth : Method} {c : Code} (C : Cx p s m args meth c cX9_set 8 ws9_set RX9 (some .boolean)) {D : va_G} {cI cJ cC : ClassId} {a : Nat → Nat} {A : Nat → Prop} (hK : va_K D vwCl (ty3 cI cJ cC) s) (hA : ∀ q : Nat, s.heap.size ≤ q → A q) {r : (Int32 × Md)} : ∀ (u : Md) (x7 : Int32), f9_set_162 u x7 = some r → ∀ {H : Heap} {locs : List Loc}, va_P D vwCl (cM cI cJ a u) H → va_D A (cM cI cJ a u) → va_S A s.heap H locs → ∀ {ls : Array Slot}, lv_has ls 8 [(0, .ref (a 0)), (7, .int x7)] → W p l e rm9_set s m args below meth c H locs 0 0 (MQ below (qW (some (.int r.1)) (cM cI cJ a r.2) D (ty3 cI cJ cC) A) args s 0 0 A) (F0 m 162 ls [.ref (a 0)]) := by
  have hx := C.1.1
  have hb := C.1.2.1
  have hts := C.1.2.2.2.2
  have hown := C.1.2.2.2.1
  have hin : ∀ w ∈ wsX90, w ∈ ws9_set := fun w h => List.mem_cons_of_mem _ (List.mem_append_right _ h)
  intro u x7 hf H locs hP hD hS ls hl
  unfold f9_set_162 at hf
  refine lv_iconst (v := (1 : Int32)) hx hb dX9_set_162 (by decide) ?_
  refine lv_goto (tgt := 167) hx hb dX9_set_163 (by decide) ?_
  exact w9_set_167 C hK hA u x7 (1 : Int32) hf hP hD hS (lv_sub hl [0, 1] rfl)
def f9_set_149 (u : Md) (x7 : Int32) : Option (Int32 × Md) := (if (gi u 27) = 0 then (if x7 = 0 then (f9_set_167 u x7 (0 : Int32)) else (f9_set_162 u x7)) else (f9_set_162 u x7))
set_option maxHeartbeats 4000000 in
set_option maxRecDepth 100000 in
theorem w9_set_149 {p : Program} {l : Launch} {e : Env} {s : State} {m : MethodId} {args : Array Value} {below : List Frame} {meth : Method} {c : Code} (C : Cx p s m args meth c cX9_set 8 ws9_set RX9 (some .boolean)) {D : va_G} {cI cJ cC : ClassId} {a : Nat → Nat} {A : Nat → Prop} (hK : va_K D vwCl (ty3 cI cJ cC) s) (hA : ∀ q : Nat, s.heap.size ≤ q → A q) {r : (Int32 × Md)} : ∀ (u : Md) (x7 : Int32), f9_set_149 u x7 = some r → ∀ {H : Heap} {locs : List Loc}, va_P D vwCl (cM cI cJ a u) H → va_D A (cM cI cJ a u) → va_S A s.heap H locs → ∀ {ls : Array Slot}, lv_has ls 8 [(0, .ref (a 0)), (7, .int x7)] → W p l e rm9_set s m args below meth c H locs 0 0 (MQ below (qW (some (.int r.1)) (cM cI cJ a r.2) D (ty3 cI cJ cC) A) args s 0 0 A) (F0 m 149 ls []) := by
  have hx := C.1.1
  have hb := C.1.2.1
  have hts := C.1.2.2.2.2
  have hown := C.1.2.2.2.1
  have hin : ∀ w ∈ wsX90, w ∈ ws9_set := fun w h => List.mem_cons_of_mem _ (List.mem_append_right _ h)
  intro u x7 hf H locs hP hD hS ls hl
  unfold f9_set_149 at hf
  refine lv_aload_n hx hb dX9_set_149 rfl (lv_at hl 0 rfl) ?_
  refine lv_aload_n hx hb dX9_set_150 rfl (lv_at hl 0 rfl) ?_
  refine mg9 (v := .int (gi u 27)) C hin hK hP 27 (by decide) (hts (Cond.fieldLink RX9 48 "SchematicTextModel" "stale" "Z") (List.mem_cons_of_mem _ m9_19)) rfl dX9_set_151 ?_
  refine lv_if_ne (tgt := 162) hx hb dX9_set_154 (by decide) (fun c_26 => ?_) (fun c_26 => ?_)
  · replace hf := og_f c_26 hf
    exact w9_set_162 C hK hA u x7 hf hP hD hS (lv_sub hl [0, 1] rfl)
  · replace hf := og_t c_26 hf
    refine lv_iload hx hb dX9_set_157 (lv_at hl 1 rfl) ?_
    refine lv_if_eq (tgt := 166) hx hb dX9_set_159 (by decide) (fun c_27 => ?_) (fun c_27 => ?_)
    · replace hf := og_t c_27 hf
      refine lv_iconst (v := (0 : Int32)) hx hb dX9_set_166 (by decide) ?_
      exact w9_set_167 C hK hA u x7 (0 : Int32) hf hP hD hS (lv_sub hl [0, 1] rfl)
    · replace hf := og_f c_27 hf
      exact w9_set_162 C hK hA u x7 hf hP hD hS (lv_sub hl [0, 1] rfl)
def f9_set_126 (u : Md) (x1 : Int32) (x2 : Int32) (x3 : Int64) (x5 : Int32) (y0 : Int32) : Option (Int32 × Md) := (if y0 = 0 then (f9_set_149 u y0) else (if x5 = 0 then (if (((5 : Int32) * x1) + x2) < 0 ∨ 1000 ≤ ((((5 : Int32) * x1) + x2)).toNatClampNeg then none else (f9_set_149 (sn u (vp_updL (gn u) ((((5 : Int32) * x1) + x2)).toNatClampNeg x3)) y0)) else (f9_set_149 u y0)))
set_option maxHeartbeats 4000000 in
set_option maxRecDepth 100000 in
theorem w9_set_126 {p : Program} {l : Launch} {e : Env} {s : State} {m : MethodId} {args : Array Value} {below : List Frame} {meth : Method} {c : Code} (C : Cx p s m args meth c cX9_set 8 ws9_set RX9 (some .boolean)) {D : va_G} {cI cJ cC : ClassId} {a : Nat → Nat} {A : Nat → Prop} (hK : va_K D vwCl (ty3 cI cJ cC) s) (hA : ∀ q : Nat, s.heap.size ≤ q → A q) {r : (Int32 × Md)} : ∀ (u : Md) (x1 : Int32) (x2 : Int32) (x3 : Int64) (x5 : Int32) (y0 : Int32), f9_set_126 u x1 x2 x3 x5 y0 = some r → ∀ {H : Heap} {locs : List Loc}, va_P D vwCl (cM cI cJ a u) H → va_D A (cM cI cJ a u) → va_S A s.heap H locs → ∀ {ls : Array Slot}, lv_has ls 8 [(0, .ref (a 0)), (1, .int x1), (2, .int x2), (3, .long x3), (5, .int x5)] → W p l e rm9_set s m args below meth c H locs 0 0 (MQ below (qW (some (.int r.1)) (cM cI cJ a r.2) D (ty3 cI cJ cC) A) args s 0 0 A) (F0 m 126 ls [.int y0]) := by
  have hx := C.1.1
  have hb := C.1.2.1
  have hts := C.1.2.2.2.2
  have hown := C.1.2.2.2.1
  have hin : ∀ w ∈ wsX90, w ∈ ws9_set := fun w h => List.mem_cons_of_mem _ (List.mem_append_right _ h)
  intro u x1 x2 x3 x5 y0 hf H locs hP hD hS ls hl
  unfold f9_set_126 at hf
  refine lv_istore (lv' := [(7, .int y0), (0, .ref (a 0)), (1, .int x1), (2, .int x2), (3, .long x3), (5, .int x5)]) hx hb dX9_set_126 hl (by decide) rfl (fun ls hl => ?_)
  refine lv_iload hx hb dX9_set_128 (lv_at hl 0 rfl) ?_
  refine lv_if_eq (tgt := 149) hx hb dX9_set_130 (by decide) (fun c_23 => ?_) (fun c_23 => ?_)
  · replace hf := og_t c_23 hf
    exact w9_set_149 C hK hA u y0 hf hP hD hS (lv_sub hl [1, 0] rfl)
  · replace hf := og_f c_23 hf
    refine lv_iload hx hb dX9_set_133 (lv_at hl 5 rfl) ?_
    refine lv_if_ne (tgt := 149) hx hb dX9_set_135 (by decide) (fun c_24 => ?_) (fun c_24 => ?_)
    · replace hf := og_f c_24 hf
      exact w9_set_149 C hK hA u y0 hf hP hD hS (lv_sub hl [1, 0] rfl)
    · replace hf := og_t c_24 hf
      refine lv_aload_n hx hb dX9_set_138 rfl (lv_at hl 1 rfl) ?_
      refine mg9 (v := .ref (a 7)) C hin hK hP 7 (by decide) (hts (Cond.fieldLink RX9 19 "SchematicTextModel" "numbers" "[J") (List.mem_cons_of_mem _ m9_9)) rfl dX9_set_139 ?_
      refine lv_iconst (v := (5 : Int32)) hx hb dX9_set_142 (by decide) ?_
      refine lv_iload_n hx hb dX9_set_143 rfl (lv_at hl 2 rfl) ?_
      refine lv_imul hx hb dX9_set_144 ?_
      refine lv_iload_n hx hb dX9_set_145 rfl (lv_at hl 3 rfl) ?_
      refine lv_iadd hx hb dX9_set_146 ?_
      refine lv_lload_n hx hb dX9_set_147 rfl (lv_at hl 4 rfl) ?_
      obtain ⟨h_25, hf⟩ := og_n hf
      refine ms9_7 C hK hP hD hS (f := (gn u)) rfl h_25 dX9_set_148 (fun H locs hP hD hS => ?_)
      exact w9_set_149 C hK hA (sn u (vp_updL (gn u) ((((5 : Int32) * x1) + x2)).toNatClampNeg x3)) y0 hf hP hD hS (lv_sub hl [1, 0] rfl)
def f9_set_125 (u : Md) (x1 : Int32) (x2 : Int32) (x3 : Int64) (x5 : Int32) : Option (Int32 × Md) := (f9_set_126 u x1 x2 x3 x5 (0 : Int32))
set_option maxHeartbeats 4000000 in
set_option maxRecDepth 100000 in
theorem w9_set_125 {p : Program} {l : Launch} {e : Env} {s : State} {m : MethodId} {args : Array Value} {below : List Frame} {meth : Method} {c : Code} (C : Cx p s m args meth c cX9_set 8 ws9_set RX9 (some .boolean)) {D : va_G} {cI cJ cC : ClassId} {a : Nat → Nat} {A : Nat → Prop} (hK : va_K D vwCl (ty3 cI cJ cC) s) (hA : ∀ q : Nat, s.heap.size ≤ q → A q) {r : (Int32 × Md)} : ∀ (u : Md) (x1 : Int32) (x2 : Int32) (x3 : Int64) (x5 : Int32), f9_set_125 u x1 x2 x3 x5 = some r → ∀ {H : Heap} {locs : List Loc}, va_P D vwCl (cM cI cJ a u) H → va_D A (cM cI cJ a u) → va_S A s.heap H locs → ∀ {ls : Array Slot}, lv_has ls 8 [(0, .ref (a 0)), (1, .int x1), (2, .int x2), (3, .long x3), (5, .int x5)] → W p l e rm9_set s m args below meth c H locs 0 0 (MQ below (qW (some (.int r.1)) (cM cI cJ a r.2) D (ty3 cI cJ cC) A) args s 0 0 A) (F0 m 125 ls []) := by
  have hx := C.1.1
  have hb := C.1.2.1
  have hts := C.1.2.2.2.2
  have hown := C.1.2.2.2.1
  have hin : ∀ w ∈ wsX90, w ∈ ws9_set := fun w h => List.mem_cons_of_mem _ (List.mem_append_right _ h)
  intro u x1 x2 x3 x5 hf H locs hP hD hS ls hl
  unfold f9_set_125 at hf
  refine lv_iconst (v := (0 : Int32)) hx hb dX9_set_125 (by decide) ?_
  exact w9_set_126 C hK hA u x1 x2 x3 x5 (0 : Int32) hf hP hD hS (lv_sub hl [0, 1, 2, 3, 4] rfl)
def f9_set_60 (u : Md) (x1 : Int32) (x2 : Int32) (x3 : Int64) (x5 : Int32) (x6 : Int32) (y0 : Int32) : Option (Int32 × Md) := (if y0 = 0 then (if x5 = 0 then (if x1 < 0 ∨ 200 ≤ (x1).toNatClampNeg then none else ((f9_least ((ga u 5) (x1).toNatClampNeg) x6).bind fun r_14 => (if (lg_cmp x3 r_14) < 0 then (f9_set_125 (si u 0 y0) x1 x2 x3 x5) else (if x1 < 0 ∨ 200 ≤ (x1).toNatClampNeg then none else ((f9_most ((ga u 5) (x1).toNatClampNeg) x6).bind fun r_18 => (if 0 < (lg_cmp x3 r_18) then (f9_set_125 (si u 0 y0) x1 x2 x3 x5) else (f9_set_126 (si u 0 y0) x1 x2 x3 x5 (1 : Int32)))))))) else ((f9_setText (si u 0 y0) x1 ((-1 : Int32) - x2) x3).bind fun p_22 => (f9_set_126 p_22.2 x1 x2 x3 x5 p_22.1))) else (some ((0 : Int32), (si u 0 y0))))
set_option maxHeartbeats 4000000 in
set_option maxRecDepth 100000 in
theorem w9_set_60 {p : Program} {l : Launch} {e : Env} {s : State} {m : MethodId} {args : Array Value} {below : List Frame} {meth : Method} {c : Code} (C : Cx p s m args meth c cX9_set 8 ws9_set RX9 (some .boolean)) {D : va_G} {cI cJ cC : ClassId} {a : Nat → Nat} {A : Nat → Prop} (hK : va_K D vwCl (ty3 cI cJ cC) s) (hA : ∀ q : Nat, s.heap.size ≤ q → A q) {r : (Int32 × Md)} : ∀ (u : Md) (x1 : Int32) (x2 : Int32) (x3 : Int64) (x5 : Int32) (x6 : Int32) (y0 : Int32), f9_set_60 u x1 x2 x3 x5 x6 y0 = some r → ∀ {H : Heap} {locs : List Loc}, va_P D vwCl (cM cI cJ a u) H → va_D A (cM cI cJ a u) → va_S A s.heap H locs → ∀ {ls : Array Slot}, lv_has ls 8 [(0, .ref (a 0)), (1, .int x1), (2, .int x2), (3, .long x3), (5, .int x5), (6, .int x6)] → W p l e rm9_set s m args below meth c H locs 0 0 (MQ below (qW (some (.int r.1)) (cM cI cJ a r.2) D (ty3 cI cJ cC) A) args s 0 0 A) (F0 m 60 ls [.int y0, .ref (a 0)]) := by
  have hx := C.1.1
  have hb := C.1.2.1
  have hts := C.1.2.2.2.2
  have hown := C.1.2.2.2.1
  have hin : ∀ w ∈ wsX90, w ∈ ws9_set := fun w h => List.mem_cons_of_mem _ (List.mem_append_right _ h)
  intro u x1 x2 x3 x5 x6 y0 hf H locs hP hD hS ls hl
  unfold f9_set_60 at hf
  refine mp9_0 C hin hK hP hD hS (hts (Cond.fieldLink RX9 52 "SchematicTextModel" "thrown" "I") (List.mem_cons_of_mem _ m9_20)) dX9_set_60 (fun H locs hP hD hS => ?_)
  refine lv_aload_n hx hb dX9_set_63 rfl (lv_at hl 0 rfl) ?_
  refine mg9 (v := .int y0) C hin hK hP 0 (by decide) (hts (Cond.fieldLink RX9 52 "SchematicTextModel" "thrown" "I") (List.mem_cons_of_mem _ m9_20)) rfl dX9_set_64 ?_
  refine lv_if_eq (tgt := 72) hx hb dX9_set_67 (by decide) (fun c_10 => ?_) (fun c_10 => ?_)
  · replace hf := og_t c_10 hf
    refine lv_iload hx hb dX9_set_72 (lv_at hl 4 rfl) ?_
    refine lv_if_eq (tgt := 89) hx hb dX9_set_74 (by decide) (fun c_11 => ?_) (fun c_11 => ?_)
    · replace hf := og_t c_11 hf
      refine lv_lload_n hx hb dX9_set_89 rfl (lv_at hl 3 rfl) ?_
      refine lv_aload_n hx hb dX9_set_90 rfl (lv_at hl 0 rfl) ?_
      refine mg9 (v := .ref (a 5)) C hin hK hP 5 (by decide) (hts (Cond.fieldLink RX9 13 "SchematicTextModel" "kinds" "[I") (List.mem_cons_of_mem _ m9_6)) rfl dX9_set_91 ?_
      refine lv_iload_n hx hb dX9_set_94 rfl (lv_at hl 1 rfl) ?_
      obtain ⟨h_12, hf⟩ := og_n hf
      refine va_iald (f := (ga u 5)) hx hb hK hP 2 0 rfl rfl h_12 dX9_set_95 ?_
      refine lv_iload hx hb dX9_set_96 (lv_at hl 5 rfl) ?_
      obtain ⟨r_14, h_13, hf⟩ := og_b hf
      try dsimp only at hf
      refine ck_s (v := .long r_14) (rest := [.long x3]) C.1 (c9_least l ((ga u 5) (x1).toNatClampNeg) x6 r_14 h_13) (va_cwS 2 hts g9_least rfl rfl rfl hd9_least ⟨Nat.le_of_ble_eq_true rfl, Nat.le_of_ble_eq_true rfl⟩) rfl hl.1 rfl (Nat.le_of_ble_eq_true rfl) ⟨Nat.zero_le _, Nat.zero_le _⟩ dX9_set_98 ?_
      refine W.lcmp hx hb dX9_set_101 ?_
      refine lv_if_lt (tgt := 125) hx hb dX9_set_102 (by decide) (fun c_15 => ?_) (fun c_15 => ?_)
      · replace hf := og_t c_15 hf
        exact w9_set_125 C hK hA (si u 0 y0) x1 x2 x3 x5 hf hP hD hS (lv_sub hl [0, 1, 2, 3, 4] rfl)
      · replace hf := og_f c_15 hf
        refine lv_lload_n hx hb dX9_set_105 rfl (lv_at hl 3 rfl) ?_
        refine lv_aload_n hx hb dX9_set_106 rfl (lv_at hl 0 rfl) ?_
        refine mg9 (v := .ref (a 5)) C hin hK hP 5 (by decide) (hts (Cond.fieldLink RX9 13 "SchematicTextModel" "kinds" "[I") (List.mem_cons_of_mem _ m9_6)) rfl dX9_set_107 ?_
        refine lv_iload_n hx hb dX9_set_110 rfl (lv_at hl 1 rfl) ?_
        obtain ⟨h_16, hf⟩ := og_n hf
        refine va_iald (f := (ga u 5)) hx hb hK hP 2 0 rfl rfl h_16 dX9_set_111 ?_
        refine lv_iload hx hb dX9_set_112 (lv_at hl 5 rfl) ?_
        obtain ⟨r_18, h_17, hf⟩ := og_b hf
        try dsimp only at hf
        refine ck_s (v := .long r_18) (rest := [.long x3]) C.1 (c9_most l ((ga u 5) (x1).toNatClampNeg) x6 r_18 h_17) (va_cwS 2 hts g9_most rfl rfl rfl hd9_most ⟨Nat.le_of_ble_eq_true rfl, Nat.le_of_ble_eq_true rfl⟩) rfl hl.1 rfl (Nat.le_of_ble_eq_true rfl) ⟨Nat.zero_le _, Nat.zero_le _⟩ dX9_set_114 ?_
        refine W.lcmp hx hb dX9_set_117 ?_
        refine lv_if_gt (tgt := 125) hx hb dX9_set_118 (by decide) (fun c_19 => ?_) (fun c_19 => ?_)
        · replace hf := og_t c_19 hf
          exact w9_set_125 C hK hA (si u 0 y0) x1 x2 x3 x5 hf hP hD hS (lv_sub hl [0, 1, 2, 3, 4] rfl)
        · replace hf := og_f c_19 hf
          refine lv_iconst (v := (1 : Int32)) hx hb dX9_set_121 (by decide) ?_
          refine lv_goto (tgt := 126) hx hb dX9_set_122 (by decide) ?_
          exact w9_set_126 C hK hA (si u 0 y0) x1 x2 x3 x5 (1 : Int32) hf hP hD hS (lv_sub hl [0, 1, 2, 3, 4] rfl)
    · replace hf := og_f c_11 hf
      refine lv_aload_n hx hb dX9_set_77 rfl (lv_at hl 0 rfl) ?_
      refine lv_iload_n hx hb dX9_set_78 rfl (lv_at hl 1 rfl) ?_
      refine lv_iconst (v := (-1 : Int32)) hx hb dX9_set_79 (by decide) ?_
      refine lv_iload_n hx hb dX9_set_80 rfl (lv_at hl 2 rfl) ?_
      refine lv_isub hx hb dX9_set_81 ?_
      refine lv_lload_n hx hb dX9_set_82 rfl (lv_at hl 3 rfl) ?_
      obtain ⟨⟨r_22, u_21⟩, h_20, hf⟩ := og_b hf
      try dsimp only at hf
      refine ck_w (ov := (some (.int r_22))) (st1 := [.int r_22]) (rest := []) C.1 (c9_setText l D cI cJ cC a (si u 0 y0) x1 ((-1 : Int32) - x2) x3 r_22 u_21  _ h_20) (cwV 3 hts g9_setText rfl rfl rfl hd9_setText ⟨Nat.le_of_ble_eq_true rfl, Nat.le_of_ble_eq_true rfl⟩) hK hA hP hD hS (q0 := 0) (ci := 6) rfl rfl rfl rfl hl.1 rfl rfl (Nat.le_of_ble_eq_true rfl) ⟨Nat.zero_le _, Nat.zero_le _⟩ dX9_set_83 (fun H locs hP hD hS => ?_)
      refine lv_goto (tgt := 126) hx hb dX9_set_86 (by decide) ?_
      exact w9_set_126 C hK hA u_21 x1 x2 x3 x5 r_22 hf hP hD hS (lv_sub hl [0, 1, 2, 3, 4] rfl)
  · replace hf := og_f c_10 hf
    refine lv_iconst (v := (0 : Int32)) hx hb dX9_set_70 (by decide) ?_
    obtain rfl := og_s hf
    exact rw_z C hK hP hD hS (nz_z (Or.inl rfl)) dX9_set_71
def f9_set_46 (u : Md) (x1 : Int32) (x2 : Int32) (x3 : Int64) (x5 : Int32) (y0 : Int32) : Option (Int32 × Md) := (if y0 = (-1 : Int32) then (f9_set_60 u x1 x2 x3 x5 y0 (1 : Int32)) else (f9_set_60 u x1 x2 x3 x5 y0 (0 : Int32)))
set_option maxHeartbeats 4000000 in
set_option maxRecDepth 100000 in
theorem w9_set_46 {p : Program} {l : Launch} {e : Env} {s : State} {m : MethodId} {args : Array Value} {below : List Frame} {meth : Method} {c : Code} (C : Cx p s m args meth c cX9_set 8 ws9_set RX9 (some .boolean)) {D : va_G} {cI cJ cC : ClassId} {a : Nat → Nat} {A : Nat → Prop} (hK : va_K D vwCl (ty3 cI cJ cC) s) (hA : ∀ q : Nat, s.heap.size ≤ q → A q) {r : (Int32 × Md)} : ∀ (u : Md) (x1 : Int32) (x2 : Int32) (x3 : Int64) (x5 : Int32) (y0 : Int32), f9_set_46 u x1 x2 x3 x5 y0 = some r → ∀ {H : Heap} {locs : List Loc}, va_P D vwCl (cM cI cJ a u) H → va_D A (cM cI cJ a u) → va_S A s.heap H locs → ∀ {ls : Array Slot}, lv_has ls 8 [(0, .ref (a 0)), (1, .int x1), (2, .int x2), (3, .long x3), (5, .int x5)] → W p l e rm9_set s m args below meth c H locs 0 0 (MQ below (qW (some (.int r.1)) (cM cI cJ a r.2) D (ty3 cI cJ cC) A) args s 0 0 A) (F0 m 46 ls [.int y0]) := by
  have hx := C.1.1
  have hb := C.1.2.1
  have hts := C.1.2.2.2.2
  have hown := C.1.2.2.2.1
  have hin : ∀ w ∈ wsX90, w ∈ ws9_set := fun w h => List.mem_cons_of_mem _ (List.mem_append_right _ h)
  intro u x1 x2 x3 x5 y0 hf H locs hP hD hS ls hl
  unfold f9_set_46 at hf
  refine lv_istore (lv' := [(6, .int y0), (0, .ref (a 0)), (1, .int x1), (2, .int x2), (3, .long x3), (5, .int x5)]) hx hb dX9_set_46 hl (by decide) rfl (fun ls hl => ?_)
  refine lv_aload_n hx hb dX9_set_48 rfl (lv_at hl 1 rfl) ?_
  refine lv_iload hx hb dX9_set_49 (lv_at hl 0 rfl) ?_
  refine lv_iconst (v := (-1 : Int32)) hx hb dX9_set_51 (by decide) ?_
  refine lv_icmp_ne (tgt := 59) hx hb dX9_set_52 (by decide) (fun c_9 => ?_) (fun c_9 => ?_)
  · replace hf := og_f c_9 hf
    refine lv_iconst (v := (0 : Int32)) hx hb dX9_set_59 (by decide) ?_
    exact w9_set_60 C hK hA u x1 x2 x3 x5 y0 (0 : Int32) hf hP hD hS (lv_sub hl [1, 2, 3, 4, 5, 0] rfl)
  · replace hf := og_t c_9 hf
    refine lv_iconst (v := (1 : Int32)) hx hb dX9_set_55 (by decide) ?_
    refine lv_goto (tgt := 60) hx hb dX9_set_56 (by decide) ?_
    exact w9_set_60 C hK hA u x1 x2 x3 x5 y0 (1 : Int32) hf hP hD hS (lv_sub hl [1, 2, 3, 4, 5, 0] rfl)
def f9_set_41 (u : Md) (x1 : Int32) (x2 : Int32) (x3 : Int64) (x5 : Int32) (y0 : Int32) (y1 : Int32) : Option (Int32 × Md) := ((f9_fieldOf y1 y0 x5).bind fun r_8 => (f9_set_46 u x1 x2 x3 x5 r_8))
set_option maxHeartbeats 4000000 in
set_option maxRecDepth 100000 in
theorem w9_set_41 {p : Program} {l : Launch} {e : Env} {s : State} {m : MethodId} {args : Array Value} {below : List Frame} {meth : Method} {c : Code} (C : Cx p s m args meth c cX9_set 8 ws9_set RX9 (some .boolean)) {D : va_G} {cI cJ cC : ClassId} {a : Nat → Nat} {A : Nat → Prop} (hK : va_K D vwCl (ty3 cI cJ cC) s) (hA : ∀ q : Nat, s.heap.size ≤ q → A q) {r : (Int32 × Md)} : ∀ (u : Md) (x1 : Int32) (x2 : Int32) (x3 : Int64) (x5 : Int32) (y0 : Int32) (y1 : Int32), f9_set_41 u x1 x2 x3 x5 y0 y1 = some r → ∀ {H : Heap} {locs : List Loc}, va_P D vwCl (cM cI cJ a u) H → va_D A (cM cI cJ a u) → va_S A s.heap H locs → ∀ {ls : Array Slot}, lv_has ls 8 [(0, .ref (a 0)), (1, .int x1), (2, .int x2), (3, .long x3), (5, .int x5)] → W p l e rm9_set s m args below meth c H locs 0 0 (MQ below (qW (some (.int r.1)) (cM cI cJ a r.2) D (ty3 cI cJ cC) A) args s 0 0 A) (F0 m 41 ls [.int y0, .int y1]) := by
  have hx := C.1.1
  have hb := C.1.2.1
  have hts := C.1.2.2.2.2
  have hown := C.1.2.2.2.1
  have hin : ∀ w ∈ wsX90, w ∈ ws9_set := fun w h => List.mem_cons_of_mem _ (List.mem_append_right _ h)
  intro u x1 x2 x3 x5 y0 y1 hf H locs hP hD hS ls hl
  unfold f9_set_41 at hf
  refine lv_iload hx hb dX9_set_41 (lv_at hl 4 rfl) ?_
  obtain ⟨r_8, h_7, hf⟩ := og_b hf
  try dsimp only at hf
  refine ck_s (v := .int r_8) (rest := []) C.1 (c9_fieldOf l y1 y0 x5 r_8 h_7) (va_cwS 3 hts g9_fieldOf rfl rfl rfl hd9_fieldOf ⟨Nat.le_of_ble_eq_true rfl, Nat.le_of_ble_eq_true rfl⟩) rfl hl.1 rfl (Nat.le_of_ble_eq_true rfl) ⟨Nat.zero_le _, Nat.zero_le _⟩ dX9_set_43 ?_
  exact w9_set_46 C hK hA u x1 x2 x3 x5 r_8 hf hP hD hS (lv_sub hl [0, 1, 2, 3, 4] rfl)
def f9_set_9 (u : Md) (x1 : Int32) (x2 : Int32) (x3 : Int64) (y0 : Int32) : Option (Int32 × Md) := ((f9_isObject u x1).bind fun r_3 => (if r_3 = 0 then (f9_set_46 u x1 x2 x3 y0 (-1 : Int32)) else (if x1 < 0 ∨ 200 ≤ (x1).toNatClampNeg then none else (if y0 = 0 then (f9_set_41 u x1 x2 x3 y0 x2 ((ga u 5) (x1).toNatClampNeg)) else (f9_set_41 u x1 x2 x3 y0 ((-1 : Int32) - x2) ((ga u 5) (x1).toNatClampNeg))))))
set_option maxHeartbeats 4000000 in
set_option maxRecDepth 100000 in
theorem w9_set_9 {p : Program} {l : Launch} {e : Env} {s : State} {m : MethodId} {args : Array Value} {below : List Frame} {meth : Method} {c : Code} (C : Cx p s m args meth c cX9_set 8 ws9_set RX9 (some .boolean)) {D : va_G} {cI cJ cC : ClassId} {a : Nat → Nat} {A : Nat → Prop} (hK : va_K D vwCl (ty3 cI cJ cC) s) (hA : ∀ q : Nat, s.heap.size ≤ q → A q) {r : (Int32 × Md)} : ∀ (u : Md) (x1 : Int32) (x2 : Int32) (x3 : Int64) (y0 : Int32), f9_set_9 u x1 x2 x3 y0 = some r → ∀ {H : Heap} {locs : List Loc}, va_P D vwCl (cM cI cJ a u) H → va_D A (cM cI cJ a u) → va_S A s.heap H locs → ∀ {ls : Array Slot}, lv_has ls 8 [(0, .ref (a 0)), (1, .int x1), (2, .int x2), (3, .long x3)] → W p l e rm9_set s m args below meth c H locs 0 0 (MQ below (qW (some (.int r.1)) (cM cI cJ a r.2) D (ty3 cI cJ cC) A) args s 0 0 A) (F0 m 9 ls [.int y0]) := by
  have hx := C.1.1
  have hb := C.1.2.1
  have hts := C.1.2.2.2.2
  have hown := C.1.2.2.2.1
  have hin : ∀ w ∈ wsX90, w ∈ ws9_set := fun w h => List.mem_cons_of_mem _ (List.mem_append_right _ h)
  intro u x1 x2 x3 y0 hf H locs hP hD hS ls hl
  unfold f9_set_9 at hf
  refine lv_istore (lv' := [(5, .int y0), (0, .ref (a 0)), (1, .int x1), (2, .int x2), (3, .long x3)]) hx hb dX9_set_9 hl (by decide) rfl (fun ls hl => ?_)
  refine lv_aload_n hx hb dX9_set_11 rfl (lv_at hl 1 rfl) ?_
  refine lv_iload_n hx hb dX9_set_12 rfl (lv_at hl 2 rfl) ?_
  obtain ⟨r_3, h_2, hf⟩ := og_b hf
  try dsimp only at hf
  refine ck_r (v := .int r_3) (rest := []) C.1 (c9_isObject l D cI cJ cC a u x1 r_3 _ h_2) (cwV 1 hts g9_isObject rfl rfl rfl hd9_isObject ⟨Nat.le_of_ble_eq_true rfl, Nat.le_of_ble_eq_true rfl⟩) hK hP hD (q0 := 0) (ci := 6) rfl rfl rfl rfl hl.1 rfl (Nat.le_of_ble_eq_true rfl) ⟨Nat.zero_le _, Nat.zero_le _⟩ dX9_set_13 ?_
  refine lv_if_ne (tgt := 23) hx hb dX9_set_16 (by decide) (fun c_4 => ?_) (fun c_4 => ?_)
  · replace hf := og_f c_4 hf
    refine lv_aload_n hx hb dX9_set_23 rfl (lv_at hl 1 rfl) ?_
    refine mg9 (v := .ref (a 5)) C hin hK hP 5 (by decide) (hts (Cond.fieldLink RX9 13 "SchematicTextModel" "kinds" "[I") (List.mem_cons_of_mem _ m9_6)) rfl dX9_set_24 ?_
    refine lv_iload_n hx hb dX9_set_27 rfl (lv_at hl 2 rfl) ?_
    obtain ⟨h_5, hf⟩ := og_n hf
    refine va_iald (f := (ga u 5)) hx hb hK hP 2 0 rfl rfl h_5 dX9_set_28 ?_
    refine lv_iload hx hb dX9_set_29 (lv_at hl 0 rfl) ?_
    refine lv_if_eq (tgt := 40) hx hb dX9_set_31 (by decide) (fun c_6 => ?_) (fun c_6 => ?_)
    · replace hf := og_t c_6 hf
      refine lv_iload_n hx hb dX9_set_40 rfl (lv_at hl 3 rfl) ?_
      exact w9_set_41 C hK hA u x1 x2 x3 y0 x2 ((ga u 5) (x1).toNatClampNeg) hf hP hD hS (lv_sub hl [1, 2, 3, 4, 0] rfl)
    · replace hf := og_f c_6 hf
      refine lv_iconst (v := (-1 : Int32)) hx hb dX9_set_34 (by decide) ?_
      refine lv_iload_n hx hb dX9_set_35 rfl (lv_at hl 3 rfl) ?_
      refine lv_isub hx hb dX9_set_36 ?_
      refine lv_goto (tgt := 41) hx hb dX9_set_37 (by decide) ?_
      exact w9_set_41 C hK hA u x1 x2 x3 y0 ((-1 : Int32) - x2) ((ga u 5) (x1).toNatClampNeg) hf hP hD hS (lv_sub hl [1, 2, 3, 4, 0] rfl)
  · replace hf := og_t c_4 hf
    refine lv_iconst (v := (-1 : Int32)) hx hb dX9_set_19 (by decide) ?_
    refine lv_goto (tgt := 46) hx hb dX9_set_20 (by decide) ?_
    exact w9_set_46 C hK hA u x1 x2 x3 y0 (-1 : Int32) hf hP hD hS (lv_sub hl [1, 2, 3, 4, 0] rfl)
def f9_set (u : Md) (x1 : Int32) (x2 : Int32) (x3 : Int64) : Option (Int32 × Md) := (if 0 ≤ x2 then (f9_set_9 u x1 x2 x3 (0 : Int32)) else (f9_set_9 u x1 x2 x3 (1 : Int32)))
set_option maxHeartbeats 4000000 in
set_option maxRecDepth 100000 in
theorem c9_set (l : Launch) (D : va_G) (cI cJ cC : ClassId) (a : Nat → Nat) (u : Md) (x1 : Int32) (x2 : Int32) (x3 : Int64) (r : Int32) (v : Md) (sz : Nat) (hf : f9_set u x1 x2 x3 = some (r, v)) : Met l yX9_set ws9_set rm9_set (pW D (ty3 cI cJ cC) (cM cI cJ a u) sz [.ref (a 0), .int x1, .int x2, .long x3]) (qW (some (.int r)) (cM cI cJ a v) D (ty3 cI cJ cC) (va_A (cM cI cJ a u) sz)) 0 0 (va_A (cM cI cJ a u) sz) := by
  refine mt_w (cc := cX9_set) (maxL := 8) (ret := (some .boolean)) (by decide) rfl (Nat.le_of_ble_eq_true rfl) ?_
  intro p e s m below meth c ls A C hl hK hA hP hD hS
  have hl : lv_has ls 8 [(0, .ref (a 0)), (1, .int x1), (2, .int x2), (3, .long x3)] := hl
  have hx := C.1.1
  have hb := C.1.2.1
  have hts := C.1.2.2.2.2
  have hown := C.1.2.2.2.1
  have hin : ∀ w ∈ wsX90, w ∈ ws9_set := fun w h => List.mem_cons_of_mem _ (List.mem_append_right _ h)
  unfold f9_set at hf
  refine lv_iload_n hx hb dX9_set_0 rfl (lv_at hl 2 rfl) ?_
  refine lv_if_ge (tgt := 8) hx hb dX9_set_1 (by decide) (fun c_1 => ?_) (fun c_1 => ?_)
  · replace hf := og_t c_1 hf
    refine lv_iconst (v := (0 : Int32)) hx hb dX9_set_8 (by decide) ?_
    exact w9_set_9 C hK hA u x1 x2 x3 (0 : Int32) hf hP hD hS (lv_sub hl [0, 1, 2, 3] rfl)
  · replace hf := og_f c_1 hf
    refine lv_iconst (v := (1 : Int32)) hx hb dX9_set_4 (by decide) ?_
    refine lv_goto (tgt := 9) hx hb dX9_set_5 (by decide) ?_
    exact w9_set_9 C hK hA u x1 x2 x3 (1 : Int32) hf hP hD hS (lv_sub hl [0, 1, 2, 3] rfl)
abbrev rm9_depthOf : Room := { frames := 0, cells := 0, slots := 0, locals := 0 }
noncomputable abbrev ws9_depthOf : List Cond := Cond.code yX9_depthOf cX9_depthOf 4 (some .int) :: WA9
theorem g9_depthOf {c0 : Cond} : GoodIn (c0 :: WA9) (wsV RX9 262 RX9 yX9_depthOf ws9_depthOf) := gd9_v m9_210 m9_211 m9_212 m9_29 m9_208
theorem hd9_depthOf : yX9_depthOf.cls = RX9 ∧ yX9_depthOf.cls ≠ "java/lang/invoke/MethodHandle" ∧ yX9_depthOf.cls ≠ "java/lang/invoke/VarHandle" ∧ (parseMethodDescriptor yX9_depthOf.desc).map (fun d => d.parameters.length) = some 1 := by decide +kernel
def f9_depthOf_9 (u : Md) : Nat → Int32 → Int32 → Option Int32
  | 0, _, _ => none
  | n + 1, x2, x3 => (if x3 = (-1 : Int32) then (some x2) else (if x3 < 0 ∨ 200 ≤ (x3).toNatClampNeg then none else (f9_depthOf_9 u n (x2 + (1 : Int32)) ((ga u 6) (x3).toNatClampNeg))))
set_option maxHeartbeats 4000000 in
set_option maxRecDepth 100000 in
theorem w9_depthOf_9 {p : Program} {l : Launch} {e : Env} {s : State} {m : MethodId} {args : Array Value} {below : List Frame} {meth : Method} {c : Code} (C : Cx p s m args meth c cX9_depthOf 4 ws9_depthOf RX9 (some .int)) {D : va_G} {cI cJ cC : ClassId} {a : Nat → Nat} {u : Md} (hK : va_K D vwCl (ty3 cI cJ cC) s) (hP : va_P D vwCl (cM cI cJ a u) s.heap) (hD : va_D (fun _ => True) (cM cI cJ a u)) {r : Int32} : ∀ (n : Nat), ∀ (x2 : Int32) (x3 : Int32), f9_depthOf_9 u n x2 x3 = some r → ∀ {ls : Array Slot}, lv_has ls 4 [(0, .ref (a 0)), (2, .int x2), (3, .int x3)] → W p l e rm9_depthOf s m args below meth c s.heap [] 0 0 (MQ below (k2_QcV (.int r)) args s 0 0 (fun _ => False)) (F0 m 9 ls []) := by
  have hx := C.1.1
  have hb := C.1.2.1
  have hts := C.1.2.2.2.2
  have hown := C.1.2.2.2.1
  have hin : ∀ w ∈ wsX90, w ∈ ws9_depthOf := fun w h => List.mem_cons_of_mem _ (List.mem_append_right _ h)
  intro n
  induction n with
  | zero =>
    intro x2 x3 hf ls hl
    cases hf
  | succ n ih =>
    intro x2 x3 hf ls hl
    rw [f9_depthOf_9] at hf
    refine lv_iload_n hx hb dX9_depthOf_9 rfl (lv_at hl 2 rfl) ?_
    refine lv_iconst (v := (-1 : Int32)) hx hb dX9_depthOf_10 (by decide) ?_
    refine lv_icmp_eq (tgt := 27) hx hb dX9_depthOf_11 (by decide) (fun c_2 => ?_) (fun c_2 => ?_)
    · replace hf := og_t c_2 hf
      refine lv_iload_n hx hb dX9_depthOf_27 rfl (lv_at hl 1 rfl) ?_
      obtain rfl := og_s hf
      exact rt_i C dX9_depthOf_28
    · replace hf := og_f c_2 hf
      refine lv_iinc (v := (x2 + (1 : Int32))) (lv' := [(2, .int (x2 + (1 : Int32))), (0, .ref (a 0)), (3, .int x3)]) hx hb dX9_depthOf_14 hl (k := 1) rfl rfl (by decide) rfl (fun ls hl => ?_)
      refine lv_aload_n hx hb dX9_depthOf_17 rfl (lv_at hl 1 rfl) ?_
      refine mg9 (v := .ref (a 6)) C hin hK hP 6 (by decide) (hts (Cond.fieldLink RX9 16 "SchematicTextModel" "parents" "[I") (List.mem_cons_of_mem _ m9_7)) rfl dX9_depthOf_18 ?_
      refine lv_iload_n hx hb dX9_depthOf_21 rfl (lv_at hl 2 rfl) ?_
      obtain ⟨h_3, hf⟩ := og_n hf
      refine va_iald (f := (ga u 6)) hx hb hK hP 3 0 rfl rfl h_3 dX9_depthOf_22 ?_
      refine lv_istore_n (lv' := [(3, .int ((ga u 6) (x3).toNatClampNeg)), (2, .int (x2 + (1 : Int32))), (0, .ref (a 0))]) hx hb dX9_depthOf_23 rfl hl (by decide) rfl (fun ls hl => ?_)
      refine lv_goto (tgt := 9) hx hb dX9_depthOf_24 (by decide) ?_
      exact ih (x2 + (1 : Int32)) ((ga u 6) (x3).toNatClampNeg) hf (lv_sub hl [2, 1, 0] rfl)
def f9_depthOf (u : Md) (x1 : Int32) : Option Int32 := (if x1 < 0 ∨ 200 ≤ (x1).toNatClampNeg then none else (f9_depthOf_9 u FU (0 : Int32) ((ga u 6) (x1).toNatClampNeg)))
set_option maxHeartbeats 4000000 in
set_option maxRecDepth 100000 in
theorem c9_depthOf (l : Launch) (D : va_G) (cI cJ cC : ClassId) (a : Nat → Nat) (u : Md) (x1 : Int32) (r : Int32) (sz : Nat) (hf : f9_depthOf u x1 = some r) : Met l yX9_depthOf ws9_depthOf rm9_depthOf (pW D (ty3 cI cJ cC) (cM cI cJ a u) sz [.ref (a 0), .int x1]) (k2_QcV (.int r)) 0 0 (fun _ => False) := by
  refine mt_r (cc := cX9_depthOf) (maxL := 4) (ret := (some .int)) (by decide) rfl (Nat.le_of_ble_eq_true rfl) ?_
  intro p e s m below meth c ls C hl hK hP hD
  have hl : lv_has ls 4 [(0, .ref (a 0)), (1, .int x1)] := hl
  have hx := C.1.1
  have hb := C.1.2.1
  have hts := C.1.2.2.2.2
  have hown := C.1.2.2.2.1
  have hin : ∀ w ∈ wsX90, w ∈ ws9_depthOf := fun w h => List.mem_cons_of_mem _ (List.mem_append_right _ h)
  unfold f9_depthOf at hf
  refine lv_iconst (v := (0 : Int32)) hx hb dX9_depthOf_0 (by decide) ?_
  refine lv_istore_n (lv' := [(2, .int (0 : Int32)), (0, .ref (a 0)), (1, .int x1)]) hx hb dX9_depthOf_1 rfl hl (by decide) rfl (fun ls hl => ?_)
  refine lv_aload_n hx hb dX9_depthOf_2 rfl (lv_at hl 1 rfl) ?_
  refine mg9 (v := .ref (a 6)) C hin hK hP 6 (by decide) (hts (Cond.fieldLink RX9 16 "SchematicTextModel" "parents" "[I") (List.mem_cons_of_mem _ m9_7)) rfl dX9_depthOf_3 ?_
  refine lv_iload_n hx hb dX9_depthOf_6 rfl (lv_at hl 2 rfl) ?_
  obtain ⟨h_1, hf⟩ := og_n hf
  refine va_iald (f := (ga u 6)) hx hb hK hP 3 0 rfl rfl h_1 dX9_depthOf_7 ?_
  refine lv_istore_n (lv' := [(3, .int ((ga u 6) (x1).toNatClampNeg)), (2, .int (0 : Int32)), (0, .ref (a 0)), (1, .int x1)]) hx hb dX9_depthOf_8 rfl hl (by decide) rfl (fun ls hl => ?_)
  exact w9_depthOf_9 C hK hP hD FU (0 : Int32) ((ga u 6) (x1).toNatClampNeg) hf (lv_sub hl [2, 1, 0] rfl)
abbrev rm9_depth : Room := { frames := 1, cells := 0, slots := 0, locals := 23 }
noncomputable abbrev ws9_depth : List Cond := Cond.code yX9_depth cX9_depth 4 (some .int) :: WA9
theorem hd9_depth : yX9_depth.cls = RX9 ∧ yX9_depth.cls ≠ "java/lang/invoke/MethodHandle" ∧ yX9_depth.cls ≠ "java/lang/invoke/VarHandle" ∧ (parseMethodDescriptor yX9_depth.desc).map (fun d => d.parameters.length) = some 0 := by decide +kernel
def f9_depth_35 (k9 : Md → Int32 → Int32 → Option (Int32 × Md)) (u : Md) (x2 : Int32) (y0 : Int32) : Option (Int32 × Md) := (k9 u y0 (x2 + (1 : Int32)))
set_option maxHeartbeats 4000000 in
set_option maxRecDepth 100000 in
theorem w9_depth_35 {p : Program} {l : Launch} {e : Env} {s : State} {m : MethodId} {args : Array Value} {below : List Frame} {meth : Method} {c : Code} (C : Cx p s m args meth c cX9_depth 4 ws9_depth RX9 (some .int)) {D : va_G} {cI cJ cC : ClassId} {a : Nat → Nat} {A : Nat → Prop} (hK : va_K D vwCl (ty3 cI cJ cC) s) (hA : ∀ q : Nat, s.heap.size ≤ q → A q) {r : (Int32 × Md)} (k9 : Md → Int32 → Int32 → Option (Int32 × Md)) (ih9 : ∀ (u : Md) (x1 : Int32) (x2 : Int32), k9 u x1 x2 = some r → ∀ {H : Heap} {locs : List Loc}, va_P D vwCl (cM cI cJ a u) H → va_D A (cM cI cJ a u) → va_S A s.heap H locs → ∀ {ls : Array Slot}, lv_has ls 4 [(0, .ref (a 0)), (1, .int x1), (2, .int x2)] → W p l e rm9_depth s m args below meth c H locs 0 0 (MQ below (qW (some (.int r.1)) (cM cI cJ a r.2) D (ty3 cI cJ cC) A) args s 0 0 A) (F0 m 9 ls [])) : ∀ (u : Md) (x2 : Int32) (y0 : Int32), f9_depth_35 k9 u x2 y0 = some r → ∀ {H : Heap} {locs : List Loc}, va_P D vwCl (cM cI cJ a u) H → va_D A (cM cI cJ a u) → va_S A s.heap H locs → ∀ {ls : Array Slot}, lv_has ls 4 [(0, .ref (a 0)), (2, .int x2)] → W p l e rm9_depth s m args below meth c H locs 0 0 (MQ below (qW (some (.int r.1)) (cM cI cJ a r.2) D (ty3 cI cJ cC) A) args s 0 0 A) (F0 m 35 ls [.int y0]) := by
  have hx := C.1.1
  have hb := C.1.2.1
  have hts := C.1.2.2.2.2
  have hown := C.1.2.2.2.1
  have hin : ∀ w ∈ wsX90, w ∈ ws9_depth := fun w h => List.mem_cons_of_mem _ (List.mem_append_right _ h)
  intro u x2 y0 hf H locs hP hD hS ls hl
  unfold f9_depth_35 at hf
  refine lv_istore_n (lv' := [(1, .int y0), (0, .ref (a 0)), (2, .int x2)]) hx hb dX9_depth_35 rfl hl (by decide) rfl (fun ls hl => ?_)
  refine lv_iinc (v := (x2 + (1 : Int32))) (lv' := [(2, .int (x2 + (1 : Int32))), (1, .int y0), (0, .ref (a 0))]) hx hb dX9_depth_36 hl (k := 2) rfl rfl (by decide) rfl (fun ls hl => ?_)
  refine lv_goto (tgt := 9) hx hb dX9_depth_39 (by decide) ?_
  exact ih9 u y0 (x2 + (1 : Int32)) hf hP hD hS (lv_sub hl [2, 1, 0] rfl)
def f9_depth_9 : Nat → Md → Int32 → Int32 → Option (Int32 × Md)
  | 0, _, _, _ => none
  | n + 1, u, x1, x2 => (if (gi u 4) ≤ x2 then (some (x1, u)) else ((f9_depthOf u x2).bind fun r_3 => (if (r_3 + (1 : Int32)) ≤ x1 then (f9_depth_35 (f9_depth_9 n) u x2 x1) else (f9_depth_35 (f9_depth_9 n) u x2 (r_3 + (1 : Int32))))))
set_option maxHeartbeats 4000000 in
set_option maxRecDepth 100000 in
theorem w9_depth_9 {p : Program} {l : Launch} {e : Env} {s : State} {m : MethodId} {args : Array Value} {below : List Frame} {meth : Method} {c : Code} (C : Cx p s m args meth c cX9_depth 4 ws9_depth RX9 (some .int)) {D : va_G} {cI cJ cC : ClassId} {a : Nat → Nat} {A : Nat → Prop} (hK : va_K D vwCl (ty3 cI cJ cC) s) (hA : ∀ q : Nat, s.heap.size ≤ q → A q) {r : (Int32 × Md)} : ∀ (n : Nat), ∀ (u : Md) (x1 : Int32) (x2 : Int32), f9_depth_9 n u x1 x2 = some r → ∀ {H : Heap} {locs : List Loc}, va_P D vwCl (cM cI cJ a u) H → va_D A (cM cI cJ a u) → va_S A s.heap H locs → ∀ {ls : Array Slot}, lv_has ls 4 [(0, .ref (a 0)), (1, .int x1), (2, .int x2)] → W p l e rm9_depth s m args below meth c H locs 0 0 (MQ below (qW (some (.int r.1)) (cM cI cJ a r.2) D (ty3 cI cJ cC) A) args s 0 0 A) (F0 m 9 ls []) := by
  have hx := C.1.1
  have hb := C.1.2.1
  have hts := C.1.2.2.2.2
  have hown := C.1.2.2.2.1
  have hin : ∀ w ∈ wsX90, w ∈ ws9_depth := fun w h => List.mem_cons_of_mem _ (List.mem_append_right _ h)
  intro n
  induction n with
  | zero =>
    intro u x1 x2 hf H locs hP hD hS ls hl
    cases hf
  | succ n ih =>
    intro u x1 x2 hf H locs hP hD hS ls hl
    rw [f9_depth_9] at hf
    refine lv_iload_n hx hb dX9_depth_9 rfl (lv_at hl 2 rfl) ?_
    refine lv_aload_n hx hb dX9_depth_10 rfl (lv_at hl 0 rfl) ?_
    refine mg9 (v := .int (gi u 4)) C hin hK hP 4 (by decide) (hts (Cond.fieldLink RX9 241 "SchematicTextModel" "objects" "I") (List.mem_cons_of_mem _ m9_183)) rfl dX9_depth_11 ?_
    refine lv_icmp_ge (tgt := 42) hx hb dX9_depth_14 (by decide) (fun c_1 => ?_) (fun c_1 => ?_)
    · replace hf := og_t c_1 hf
      refine lv_iload_n hx hb dX9_depth_42 rfl (lv_at hl 1 rfl) ?_
      obtain rfl := og_s hf
      exact rw_i C hK hP hD hS dX9_depth_43
    · replace hf := og_f c_1 hf
      refine lv_aload_n hx hb dX9_depth_17 rfl (lv_at hl 0 rfl) ?_
      refine lv_iload_n hx hb dX9_depth_18 rfl (lv_at hl 2 rfl) ?_
      obtain ⟨r_3, h_2, hf⟩ := og_b hf
      try dsimp only at hf
      refine ck_r (v := .int r_3) (rest := []) C.1 (c9_depthOf l D cI cJ cC a u x2 r_3 _ h_2) (cwV 1 hts g9_depthOf rfl rfl rfl hd9_depthOf ⟨Nat.le_of_ble_eq_true rfl, Nat.le_of_ble_eq_true rfl⟩) hK hP hD (q0 := 0) (ci := 6) rfl rfl rfl rfl hl.1 rfl (Nat.le_of_ble_eq_true rfl) ⟨Nat.zero_le _, Nat.zero_le _⟩ dX9_depth_19 ?_
      refine lv_iconst (v := (1 : Int32)) hx hb dX9_depth_22 (by decide) ?_
      refine lv_iadd hx hb dX9_depth_23 ?_
      refine lv_istore_n (lv' := [(3, .int (r_3 + (1 : Int32))), (0, .ref (a 0)), (1, .int x1), (2, .int x2)]) hx hb dX9_depth_24 rfl hl (by decide) rfl (fun ls hl => ?_)
      refine lv_iload_n hx hb dX9_depth_25 rfl (lv_at hl 0 rfl) ?_
      refine lv_iload_n hx hb dX9_depth_26 rfl (lv_at hl 2 rfl) ?_
      refine lv_icmp_le (tgt := 34) hx hb dX9_depth_27 (by decide) (fun c_4 => ?_) (fun c_4 => ?_)
      · replace hf := og_t c_4 hf
        refine lv_iload_n hx hb dX9_depth_34 rfl (lv_at hl 2 rfl) ?_
        exact w9_depth_35 C hK hA (f9_depth_9 n) (fun _ _ _ h9 => ih _ _ _ h9) u x2 x1 hf hP hD hS (lv_sub hl [1, 3] rfl)
      · replace hf := og_f c_4 hf
        refine lv_iload_n hx hb dX9_depth_30 rfl (lv_at hl 0 rfl) ?_
        refine lv_goto (tgt := 35) hx hb dX9_depth_31 (by decide) ?_
        exact w9_depth_35 C hK hA (f9_depth_9 n) (fun _ _ _ h9 => ih _ _ _ h9) u x2 (r_3 + (1 : Int32)) hf hP hD hS (lv_sub hl [1, 3] rfl)
def f9_depth (u : Md) : Option (Int32 × Md) := (f9_depth_9 FU (si u 0 (0 : Int32)) (0 : Int32) (0 : Int32))
set_option maxHeartbeats 4000000 in
set_option maxRecDepth 100000 in
theorem c9_depth (l : Launch) (D : va_G) (cI cJ cC : ClassId) (a : Nat → Nat) (u : Md) (r : Int32) (v : Md) (sz : Nat) (hf : f9_depth u  = some (r, v)) : Met l yX9_depth ws9_depth rm9_depth (pW D (ty3 cI cJ cC) (cM cI cJ a u) sz [.ref (a 0)]) (qW (some (.int r)) (cM cI cJ a v) D (ty3 cI cJ cC) (va_A (cM cI cJ a u) sz)) 0 0 (va_A (cM cI cJ a u) sz) := by
  refine mt_w (cc := cX9_depth) (maxL := 4) (ret := (some .int)) (by decide) rfl (Nat.le_of_ble_eq_true rfl) ?_
  intro p e s m below meth c ls A C hl hK hA hP hD hS
  have hl : lv_has ls 4 [(0, .ref (a 0))] := hl
  have hx := C.1.1
  have hb := C.1.2.1
  have hts := C.1.2.2.2.2
  have hown := C.1.2.2.2.1
  have hin : ∀ w ∈ wsX90, w ∈ ws9_depth := fun w h => List.mem_cons_of_mem _ (List.mem_append_right _ h)
  unfold f9_depth at hf
  refine lv_aload_n hx hb dX9_depth_0 rfl (lv_at hl 0 rfl) ?_
  refine lv_iconst (v := (0 : Int32)) hx hb dX9_depth_1 (by decide) ?_
  refine mp9_0 C hin hK hP hD hS (hts (Cond.fieldLink RX9 52 "SchematicTextModel" "thrown" "I") (List.mem_cons_of_mem _ m9_20)) dX9_depth_2 (fun H locs hP hD hS => ?_)
  refine lv_iconst (v := (0 : Int32)) hx hb dX9_depth_5 (by decide) ?_
  refine lv_istore_n (lv' := [(1, .int (0 : Int32)), (0, .ref (a 0))]) hx hb dX9_depth_6 rfl hl (by decide) rfl (fun ls hl => ?_)
  refine lv_iconst (v := (0 : Int32)) hx hb dX9_depth_7 (by decide) ?_
  refine lv_istore_n (lv' := [(2, .int (0 : Int32)), (1, .int (0 : Int32)), (0, .ref (a 0))]) hx hb dX9_depth_8 rfl hl (by decide) rfl (fun ls hl => ?_)
  exact w9_depth_9 C hK hA FU (si u 0 (0 : Int32)) (0 : Int32) (0 : Int32) hf hP hD hS (lv_sub hl [2, 1, 0] rfl)
abbrev rm9_say : Room := { frames := 0, cells := 0, slots := 0, locals := 0 }
noncomputable abbrev ws9_say : List Cond := Cond.code yX9_say cX9_say 2 none :: WA9
theorem g9_say {c0 : Cond} : GoodIn (c0 :: WA9) (wsV RX9 268 RX9 yX9_say ws9_say) := gd9_v m9_216 m9_217 m9_218 m9_29 m9_213
theorem hd9_say : yX9_say.cls = RX9 ∧ yX9_say.cls ≠ "java/lang/invoke/MethodHandle" ∧ yX9_say.cls ≠ "java/lang/invoke/VarHandle" ∧ (parseMethodDescriptor yX9_say.desc).map (fun d => d.parameters.length) = some 1 := by decide +kernel
def f9_say (u : Md) (x1 : Int32) : Option Md := (if (gi u 26) < 0 ∨ 110000 ≤ ((gi u 26)).toNatClampNeg then none else (some (si (sa u 25 (upd (ga u 25) ((gi u 26)).toNatClampNeg x1)) 26 ((gi u 26) + (1 : Int32)))))
set_option maxHeartbeats 4000000 in
set_option maxRecDepth 100000 in
theorem c9_say (l : Launch) (D : va_G) (cI cJ cC : ClassId) (a : Nat → Nat) (u : Md) (x1 : Int32) (v : Md) (sz : Nat) (hf : f9_say u x1 = some v) : Met l yX9_say ws9_say rm9_say (pW D (ty3 cI cJ cC) (cM cI cJ a u) sz [.ref (a 0), .int x1]) (qW none (cM cI cJ a v) D (ty3 cI cJ cC) (va_A (cM cI cJ a u) sz)) 0 0 (va_A (cM cI cJ a u) sz) := by
  refine mt_w (cc := cX9_say) (maxL := 2) (ret := none) (by decide) rfl (Nat.le_of_ble_eq_true rfl) ?_
  intro p e s m below meth c ls A C hl hK hA hP hD hS
  have hl : lv_has ls 2 [(0, .ref (a 0)), (1, .int x1)] := hl
  have hx := C.1.1
  have hb := C.1.2.1
  have hts := C.1.2.2.2.2
  have hown := C.1.2.2.2.1
  have hin : ∀ w ∈ wsX90, w ∈ ws9_say := fun w h => List.mem_cons_of_mem _ (List.mem_append_right _ h)
  unfold f9_say at hf
  refine lv_aload_n hx hb dX9_say_0 rfl (lv_at hl 0 rfl) ?_
  refine mg9 (v := .ref (a 25)) C hin hK hP 25 (by decide) (hts (Cond.fieldLink RX9 45 "SchematicTextModel" "out" "[I") (List.mem_cons_of_mem _ m9_18)) rfl dX9_say_1 ?_
  refine lv_aload_n hx hb dX9_say_4 rfl (lv_at hl 0 rfl) ?_
  refine mg9 (v := .int (gi u 26)) C hin hK hP 26 (by decide) (hts (Cond.fieldLink RX9 265 "SchematicTextModel" "written" "I") (List.mem_cons_of_mem _ m9_214)) rfl dX9_say_5 ?_
  refine lv_iload_n hx hb dX9_say_8 rfl (lv_at hl 1 rfl) ?_
  obtain ⟨h_1, hf⟩ := og_n hf
  refine ms9_25 C hK hP hD hS (f := (ga u 25)) rfl h_1 dX9_say_9 (fun H locs hP hD hS => ?_)
  refine lv_aload_n hx hb dX9_say_10 rfl (lv_at hl 0 rfl) ?_
  refine lv_dup hx hb dX9_say_11 rfl ?_
  refine mg9 (v := .int (gi u 26)) C hin hK hP 26 (by decide) (hts (Cond.fieldLink RX9 265 "SchematicTextModel" "written" "I") (List.mem_cons_of_mem _ m9_214)) rfl dX9_say_12 ?_
  refine lv_iconst (v := (1 : Int32)) hx hb dX9_say_15 (by decide) ?_
  refine lv_iadd hx hb dX9_say_16 ?_
  refine mp9_26 C hin hK hP hD hS (hts (Cond.fieldLink RX9 265 "SchematicTextModel" "written" "I") (List.mem_cons_of_mem _ m9_214)) dX9_say_17 (fun H locs hP hD hS => ?_)
  obtain rfl := og_s hf
  exact rw_v C hK hP hD hS dX9_say_20
abbrev rm9_sayName : Room := { frames := 2, cells := 0, slots := 0, locals := 47 }
noncomputable abbrev ws9_sayName : List Cond := Cond.code yX9_sayName cX9_sayName 6 none :: WA9
theorem g9_sayName {c0 : Cond} : GoodIn (c0 :: WA9) (wsV RX9 277 RX9 yX9_sayName ws9_sayName) := gd9_v m9_227 m9_228 m9_229 m9_29 m9_215
theorem hd9_sayName : yX9_sayName.cls = RX9 ∧ yX9_sayName.cls ≠ "java/lang/invoke/MethodHandle" ∧ yX9_sayName.cls ≠ "java/lang/invoke/VarHandle" ∧ (parseMethodDescriptor yX9_sayName.desc).map (fun d => d.parameters.length) = some 1 := by decide +kernel
def f9_sayName_30 : Nat → Md → Int64 → Int64 → Option Md
  | 0, _, _, _ => none
  | n + 1, u, x2, x4 => (if (lg_cmp x4 (0 : Int64)) ≤ 0 then (some u) else (if x4 = 0 then none else ((f9_say u ((((x2 / x4) - (x2 / x4) / (27 : Int64) * (27 : Int64))).toInt32 + (96 : Int32))).bind fun u_8 => (f9_sayName_30 n u_8 x2 (x4 / (27 : Int64))))))
set_option maxHeartbeats 4000000 in
set_option maxRecDepth 100000 in
theorem w9_sayName_30 {p : Program} {l : Launch} {e : Env} {s : State} {m : MethodId} {args : Array Value} {below : List Frame} {meth : Method} {c : Code} (C : Cx p s m args meth c cX9_sayName 6 ws9_sayName RX9 none) {D : va_G} {cI cJ cC : ClassId} {a : Nat → Nat} {A : Nat → Prop} (hK : va_K D vwCl (ty3 cI cJ cC) s) (hA : ∀ q : Nat, s.heap.size ≤ q → A q) {r : Md} : ∀ (n : Nat), ∀ (u : Md) (x2 : Int64) (x4 : Int64), f9_sayName_30 n u x2 x4 = some r → ∀ {H : Heap} {locs : List Loc}, va_P D vwCl (cM cI cJ a u) H → va_D A (cM cI cJ a u) → va_S A s.heap H locs → ∀ {ls : Array Slot}, lv_has ls 6 [(0, .ref (a 0)), (2, .long x2), (4, .long x4)] → W p l e rm9_sayName s m args below meth c H locs 0 0 (MQ below (qW none (cM cI cJ a r) D (ty3 cI cJ cC) A) args s 0 0 A) (F0 m 30 ls []) := by
  have hx := C.1.1
  have hb := C.1.2.1
  have hts := C.1.2.2.2.2
  have hown := C.1.2.2.2.1
  have hin : ∀ w ∈ wsX90, w ∈ ws9_sayName := fun w h => List.mem_cons_of_mem _ (List.mem_append_right _ h)
  intro n
  induction n with
  | zero =>
    intro u x2 x4 hf H locs hP hD hS ls hl
    cases hf
  | succ n ih =>
    intro u x2 x4 hf H locs hP hD hS ls hl
    rw [f9_sayName_30] at hf
    refine lv_lload hx hb dX9_sayName_30 (lv_at hl 2 rfl) ?_
    refine lv_lconst (v := (0 : Int64)) hx hb dX9_sayName_32 (by decide) ?_
    refine W.lcmp hx hb dX9_sayName_33 ?_
    refine lv_if_le (tgt := 64) hx hb dX9_sayName_34 (by decide) (fun c_5 => ?_) (fun c_5 => ?_)
    · replace hf := og_t c_5 hf
      obtain rfl := og_s hf
      exact rw_v C hK hP hD hS dX9_sayName_64
    · replace hf := og_f c_5 hf
      refine lv_aload_n hx hb dX9_sayName_37 rfl (lv_at hl 0 rfl) ?_
      refine lv_lload_n hx hb dX9_sayName_38 rfl (lv_at hl 1 rfl) ?_
      refine lv_lload hx hb dX9_sayName_39 (lv_at hl 2 rfl) ?_
      obtain ⟨h_6, hf⟩ := og_n hf
      refine lv_ldiv hx hb dX9_sayName_41 h_6 ?_
      refine lv_ldc2 (v := (27 : Int64)) hx hb hown (hts (Cond.constantLong RX9 66 (27)) (List.mem_cons_of_mem _ m9_31)) dX9_sayName_42 ?_
      refine lv_lrem hx hb dX9_sayName_45 (by decide) ?_
      refine lv_l2i (v := (((x2 / x4) - (x2 / x4) / (27 : Int64) * (27 : Int64))).toInt32) hx hb dX9_sayName_46 rfl ?_
      refine lv_bipush (v := (96 : Int32)) hx hb dX9_sayName_47 (by decide) ?_
      refine lv_iadd hx hb dX9_sayName_49 ?_
      obtain ⟨u_8, h_7, hf⟩ := og_b hf
      try dsimp only at hf
      refine ck_w (ov := none) (st1 := []) (rest := []) C.1 (c9_say l D cI cJ cC a u ((((x2 / x4) - (x2 / x4) / (27 : Int64) * (27 : Int64))).toInt32 + (96 : Int32)) u_8  _ h_7) (cwV 1 hts g9_say rfl rfl rfl hd9_say ⟨Nat.le_of_ble_eq_true rfl, Nat.le_of_ble_eq_true rfl⟩) hK hA hP hD hS (q0 := 0) (ci := 6) rfl rfl rfl rfl hl.1 rfl rfl (Nat.le_of_ble_eq_true rfl) ⟨Nat.zero_le _, Nat.zero_le _⟩ dX9_sayName_50 (fun H locs hP hD hS => ?_)
      refine lv_lload hx hb dX9_sayName_53 (lv_at hl 2 rfl) ?_
      refine lv_ldc2 (v := (27 : Int64)) hx hb hown (hts (Cond.constantLong RX9 66 (27)) (List.mem_cons_of_mem _ m9_31)) dX9_sayName_55 ?_
      refine lv_ldiv hx hb dX9_sayName_58 (by decide) ?_
      refine lv_lstore (lv' := [(4, .long (x4 / (27 : Int64))), (0, .ref (a 0)), (2, .long x2)]) hx hb dX9_sayName_59 hl (by decide) rfl (fun ls hl => ?_)
      refine lv_goto (tgt := 30) hx hb dX9_sayName_61 (by decide) ?_
      exact ih u_8 x2 (x4 / (27 : Int64)) hf hP hD hS (lv_sub hl [1, 2, 0] rfl)
def f9_sayName_8 : Nat → Md → Int64 → Int64 → Option Md
  | 0, _, _, _ => none
  | n + 1, u, x2, x4 => (if x4 = 0 then none else (if (lg_cmp (x2 / x4) (27 : Int64)) < 0 then (f9_sayName_30 FU u x2 x4) else (f9_sayName_8 n u x2 ((27 : Int64) * x4))))
set_option maxHeartbeats 4000000 in
set_option maxRecDepth 100000 in
theorem w9_sayName_8 {p : Program} {l : Launch} {e : Env} {s : State} {m : MethodId} {args : Array Value} {below : List Frame} {meth : Method} {c : Code} (C : Cx p s m args meth c cX9_sayName 6 ws9_sayName RX9 none) {D : va_G} {cI cJ cC : ClassId} {a : Nat → Nat} {A : Nat → Prop} (hK : va_K D vwCl (ty3 cI cJ cC) s) (hA : ∀ q : Nat, s.heap.size ≤ q → A q) {r : Md} : ∀ (n : Nat), ∀ (u : Md) (x2 : Int64) (x4 : Int64), f9_sayName_8 n u x2 x4 = some r → ∀ {H : Heap} {locs : List Loc}, va_P D vwCl (cM cI cJ a u) H → va_D A (cM cI cJ a u) → va_S A s.heap H locs → ∀ {ls : Array Slot}, lv_has ls 6 [(0, .ref (a 0)), (2, .long x2), (4, .long x4)] → W p l e rm9_sayName s m args below meth c H locs 0 0 (MQ below (qW none (cM cI cJ a r) D (ty3 cI cJ cC) A) args s 0 0 A) (F0 m 8 ls []) := by
  have hx := C.1.1
  have hb := C.1.2.1
  have hts := C.1.2.2.2.2
  have hown := C.1.2.2.2.1
  have hin : ∀ w ∈ wsX90, w ∈ ws9_sayName := fun w h => List.mem_cons_of_mem _ (List.mem_append_right _ h)
  intro n
  induction n with
  | zero =>
    intro u x2 x4 hf H locs hP hD hS ls hl
    cases hf
  | succ n ih =>
    intro u x2 x4 hf H locs hP hD hS ls hl
    rw [f9_sayName_8] at hf
    refine lv_lload_n hx hb dX9_sayName_8 rfl (lv_at hl 1 rfl) ?_
    refine lv_lload hx hb dX9_sayName_9 (lv_at hl 2 rfl) ?_
    obtain ⟨h_3, hf⟩ := og_n hf
    refine lv_ldiv hx hb dX9_sayName_11 h_3 ?_
    refine lv_ldc2 (v := (27 : Int64)) hx hb hown (hts (Cond.constantLong RX9 66 (27)) (List.mem_cons_of_mem _ m9_31)) dX9_sayName_12 ?_
    refine W.lcmp hx hb dX9_sayName_15 ?_
    refine lv_if_lt (tgt := 30) hx hb dX9_sayName_16 (by decide) (fun c_4 => ?_) (fun c_4 => ?_)
    · replace hf := og_t c_4 hf
      exact w9_sayName_30 C hK hA FU u x2 x4 hf hP hD hS (lv_sub hl [0, 1, 2] rfl)
    · replace hf := og_f c_4 hf
      refine lv_ldc2 (v := (27 : Int64)) hx hb hown (hts (Cond.constantLong RX9 66 (27)) (List.mem_cons_of_mem _ m9_31)) dX9_sayName_19 ?_
      refine lv_lload hx hb dX9_sayName_22 (lv_at hl 2 rfl) ?_
      refine lv_lmul hx hb dX9_sayName_24 ?_
      refine lv_lstore (lv' := [(4, .long ((27 : Int64) * x4)), (0, .ref (a 0)), (2, .long x2)]) hx hb dX9_sayName_25 hl (by decide) rfl (fun ls hl => ?_)
      refine lv_goto (tgt := 8) hx hb dX9_sayName_27 (by decide) ?_
      exact ih u x2 ((27 : Int64) * x4) hf hP hD hS (lv_sub hl [1, 2, 0] rfl)
def f9_sayName (u : Md) (x1 : Int32) : Option Md := ((f9_nameOf x1).bind fun r_2 => (f9_sayName_8 FU u r_2 (1 : Int64)))
set_option maxHeartbeats 4000000 in
set_option maxRecDepth 100000 in
theorem c9_sayName (l : Launch) (D : va_G) (cI cJ cC : ClassId) (a : Nat → Nat) (u : Md) (x1 : Int32) (v : Md) (sz : Nat) (hf : f9_sayName u x1 = some v) : Met l yX9_sayName ws9_sayName rm9_sayName (pW D (ty3 cI cJ cC) (cM cI cJ a u) sz [.ref (a 0), .int x1]) (qW none (cM cI cJ a v) D (ty3 cI cJ cC) (va_A (cM cI cJ a u) sz)) 0 0 (va_A (cM cI cJ a u) sz) := by
  refine mt_w (cc := cX9_sayName) (maxL := 6) (ret := none) (by decide) rfl (Nat.le_of_ble_eq_true rfl) ?_
  intro p e s m below meth c ls A C hl hK hA hP hD hS
  have hl : lv_has ls 6 [(0, .ref (a 0)), (1, .int x1)] := hl
  have hx := C.1.1
  have hb := C.1.2.1
  have hts := C.1.2.2.2.2
  have hown := C.1.2.2.2.1
  have hin : ∀ w ∈ wsX90, w ∈ ws9_sayName := fun w h => List.mem_cons_of_mem _ (List.mem_append_right _ h)
  unfold f9_sayName at hf
  refine lv_iload_n hx hb dX9_sayName_0 rfl (lv_at hl 1 rfl) ?_
  obtain ⟨r_2, h_1, hf⟩ := og_b hf
  try dsimp only at hf
  refine ck_s (v := .long r_2) (rest := []) C.1 (c9_nameOf l x1 r_2 h_1) (va_cwS 1 hts g9_nameOf rfl rfl rfl hd9_nameOf ⟨Nat.le_of_ble_eq_true rfl, Nat.le_of_ble_eq_true rfl⟩) rfl hl.1 rfl (Nat.le_of_ble_eq_true rfl) ⟨Nat.zero_le _, Nat.zero_le _⟩ dX9_sayName_1 ?_
  refine lv_lstore_n (lv' := [(2, .long r_2), (0, .ref (a 0)), (1, .int x1)]) hx hb dX9_sayName_4 rfl hl (by decide) rfl (fun ls hl => ?_)
  refine lv_lconst (v := (1 : Int64)) hx hb dX9_sayName_5 (by decide) ?_
  refine lv_lstore (lv' := [(4, .long (1 : Int64)), (2, .long r_2), (0, .ref (a 0)), (1, .int x1)]) hx hb dX9_sayName_6 hl (by decide) rfl (fun ls hl => ?_)
  exact w9_sayName_8 C hK hA FU u r_2 (1 : Int64) hf hP hD hS (lv_sub hl [2, 1, 0] rfl)
