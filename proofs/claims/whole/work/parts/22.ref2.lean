abbrev rm9_readText : Room := { frames := 1, cells := 0, slots := 0, locals := 21 }
noncomputable abbrev ws9_readText : List Cond := Cond.code yX9_readText cX9_readText 6 (some .int) :: WA9
theorem g9_readText {c0 : Cond} : GoodIn (c0 :: WA9) (wsV RX9 128 RX9 yX9_readText ws9_readText) := gd9_v m9_82 m9_83 m9_84 m9_29 m9_76
theorem hd9_readText : yX9_readText.cls = RX9 ∧ yX9_readText.cls ≠ "java/lang/invoke/MethodHandle" ∧ yX9_readText.cls ≠ "java/lang/invoke/VarHandle" ∧ (parseMethodDescriptor yX9_readText.desc).map (fun d => d.parameters.length) = some 1 := by decide +kernel
def f9_readText_180 (k23 : Md → Int32 → Int32 → Option (Int32 × Md)) (u : Md) (x2 : Int32) (x3 : Int32) : Option (Int32 × Md) := (k23 u x2 x3)
set_option maxHeartbeats 4000000 in
set_option maxRecDepth 100000 in
theorem w9_readText_180 {p : Program} {l : Launch} {e : Env} {s : State} {m : MethodId} {args : Array Value} {below : List Frame} {meth : Method} {c : Code} (C : Cx p s m args meth c cX9_readText 6 ws9_readText RX9 (some .int)) {D : va_G} {cI cJ cC : ClassId} {a : Nat → Nat} {A : Nat → Prop} (hK : va_K D vwCl (ty3 cI cJ cC) s) (hA : ∀ q : Nat, s.heap.size ≤ q → A q) {r : (Int32 × Md)} (k23 : Md → Int32 → Int32 → Option (Int32 × Md)) (ih23 : ∀ (u : Md) (x2 : Int32) (x3 : Int32), k23 u x2 x3 = some r → ∀ {H : Heap} {locs : List Loc}, va_P D vwCl (cM cI cJ a u) H → va_D A (cM cI cJ a u) → va_S A s.heap H locs → ∀ {ls : Array Slot}, lv_has ls 6 [(0, .ref (a 0)), (2, .int x2), (3, .int x3)] → W p l e rm9_readText s m args below meth c H locs 0 0 (MQ below (qW (some (.int r.1)) (cM cI cJ a r.2) D (ty3 cI cJ cC) A) args s 0 0 A) (F0 m 23 ls [])) : ∀ (u : Md) (x2 : Int32) (x3 : Int32), f9_readText_180 k23 u x2 x3 = some r → ∀ {H : Heap} {locs : List Loc}, va_P D vwCl (cM cI cJ a u) H → va_D A (cM cI cJ a u) → va_S A s.heap H locs → ∀ {ls : Array Slot}, lv_has ls 6 [(0, .ref (a 0)), (2, .int x2), (3, .int x3)] → W p l e rm9_readText s m args below meth c H locs 0 0 (MQ below (qW (some (.int r.1)) (cM cI cJ a r.2) D (ty3 cI cJ cC) A) args s 0 0 A) (F0 m 180 ls []) := by
  have hx := C.1.1
  have hb := C.1.2.1
  have hts := C.1.2.2.2.2
  have hown := C.1.2.2.2.1
  have hin : ∀ w ∈ wsX90, w ∈ ws9_readText := fun w h => List.mem_cons_of_mem _ (List.mem_append_right _ h)
  intro u x2 x3 hf H locs hP hD hS ls hl
  unfold f9_readText_180 at hf
  refine lv_goto (tgt := 23) hx hb dX9_readText_180 (by decide) ?_
  exact ih23 u x2 x3 hf hP hD hS (lv_sub hl [0, 1, 2] rfl)
def f9_readText_96 (k23 : Md → Int32 → Int32 → Option (Int32 × Md)) (u : Md) (x2 : Int32) (x3 : Int32) : Option (Int32 × Md) := ((f9_fail u x2).bind fun u_30 => (f9_readText_180 k23 u_30 x2 x3))
set_option maxHeartbeats 4000000 in
set_option maxRecDepth 100000 in
theorem w9_readText_96 {p : Program} {l : Launch} {e : Env} {s : State} {m : MethodId} {args : Array Value} {below : List Frame} {meth : Method} {c : Code} (C : Cx p s m args meth c cX9_readText 6 ws9_readText RX9 (some .int)) {D : va_G} {cI cJ cC : ClassId} {a : Nat → Nat} {A : Nat → Prop} (hK : va_K D vwCl (ty3 cI cJ cC) s) (hA : ∀ q : Nat, s.heap.size ≤ q → A q) {r : (Int32 × Md)} (k23 : Md → Int32 → Int32 → Option (Int32 × Md)) (ih23 : ∀ (u : Md) (x2 : Int32) (x3 : Int32), k23 u x2 x3 = some r → ∀ {H : Heap} {locs : List Loc}, va_P D vwCl (cM cI cJ a u) H → va_D A (cM cI cJ a u) → va_S A s.heap H locs → ∀ {ls : Array Slot}, lv_has ls 6 [(0, .ref (a 0)), (2, .int x2), (3, .int x3)] → W p l e rm9_readText s m args below meth c H locs 0 0 (MQ below (qW (some (.int r.1)) (cM cI cJ a r.2) D (ty3 cI cJ cC) A) args s 0 0 A) (F0 m 23 ls [])) : ∀ (u : Md) (x2 : Int32) (x3 : Int32), f9_readText_96 k23 u x2 x3 = some r → ∀ {H : Heap} {locs : List Loc}, va_P D vwCl (cM cI cJ a u) H → va_D A (cM cI cJ a u) → va_S A s.heap H locs → ∀ {ls : Array Slot}, lv_has ls 6 [(0, .ref (a 0)), (2, .int x2), (3, .int x3)] → W p l e rm9_readText s m args below meth c H locs 0 0 (MQ below (qW (some (.int r.1)) (cM cI cJ a r.2) D (ty3 cI cJ cC) A) args s 0 0 A) (F0 m 96 ls []) := by
  have hx := C.1.1
  have hb := C.1.2.1
  have hts := C.1.2.2.2.2
  have hown := C.1.2.2.2.1
  have hin : ∀ w ∈ wsX90, w ∈ ws9_readText := fun w h => List.mem_cons_of_mem _ (List.mem_append_right _ h)
  intro u x2 x3 hf H locs hP hD hS ls hl
  unfold f9_readText_96 at hf
  refine lv_aload_n hx hb dX9_readText_96 rfl (lv_at hl 0 rfl) ?_
  refine lv_iload_n hx hb dX9_readText_97 rfl (lv_at hl 1 rfl) ?_
  obtain ⟨u_30, h_29, hf⟩ := og_b hf
  try dsimp only at hf
  refine ck_w (ov := none) (st1 := []) (rest := []) C.1 (c9_fail l D cI cJ cC a u x2 u_30  _ h_29) (cwV 1 hts g9_fail rfl rfl rfl hd9_fail ⟨Nat.le_of_ble_eq_true rfl, Nat.le_of_ble_eq_true rfl⟩) hK hA hP hD hS (q0 := 0) (ci := 6) rfl rfl rfl rfl hl.1 rfl rfl (Nat.le_of_ble_eq_true rfl) ⟨Nat.zero_le _, Nat.zero_le _⟩ dX9_readText_98 (fun H locs hP hD hS => ?_)
  refine lv_goto (tgt := 180) hx hb dX9_readText_101 (by decide) ?_
  exact w9_readText_180 C hK hA k23 (fun _ _ _ h9 => ih23 _ _ _ h9) u_30 x2 x3 hf hP hD hS (lv_sub hl [0, 1, 2] rfl)
def f9_readText_178 (k23 : Md → Int32 → Int32 → Option (Int32 × Md)) (u : Md) (x3 : Int32) (y0 : Int32) (y1 : Int32) : Option (Int32 × Md) := (f9_readText_180 k23 u (y1 + y0) x3)
set_option maxHeartbeats 4000000 in
set_option maxRecDepth 100000 in
theorem w9_readText_178 {p : Program} {l : Launch} {e : Env} {s : State} {m : MethodId} {args : Array Value} {below : List Frame} {meth : Method} {c : Code} (C : Cx p s m args meth c cX9_readText 6 ws9_readText RX9 (some .int)) {D : va_G} {cI cJ cC : ClassId} {a : Nat → Nat} {A : Nat → Prop} (hK : va_K D vwCl (ty3 cI cJ cC) s) (hA : ∀ q : Nat, s.heap.size ≤ q → A q) {r : (Int32 × Md)} (k23 : Md → Int32 → Int32 → Option (Int32 × Md)) (ih23 : ∀ (u : Md) (x2 : Int32) (x3 : Int32), k23 u x2 x3 = some r → ∀ {H : Heap} {locs : List Loc}, va_P D vwCl (cM cI cJ a u) H → va_D A (cM cI cJ a u) → va_S A s.heap H locs → ∀ {ls : Array Slot}, lv_has ls 6 [(0, .ref (a 0)), (2, .int x2), (3, .int x3)] → W p l e rm9_readText s m args below meth c H locs 0 0 (MQ below (qW (some (.int r.1)) (cM cI cJ a r.2) D (ty3 cI cJ cC) A) args s 0 0 A) (F0 m 23 ls [])) : ∀ (u : Md) (x3 : Int32) (y0 : Int32) (y1 : Int32), f9_readText_178 k23 u x3 y0 y1 = some r → ∀ {H : Heap} {locs : List Loc}, va_P D vwCl (cM cI cJ a u) H → va_D A (cM cI cJ a u) → va_S A s.heap H locs → ∀ {ls : Array Slot}, lv_has ls 6 [(0, .ref (a 0)), (3, .int x3)] → W p l e rm9_readText s m args below meth c H locs 0 0 (MQ below (qW (some (.int r.1)) (cM cI cJ a r.2) D (ty3 cI cJ cC) A) args s 0 0 A) (F0 m 178 ls [.int y0, .int y1]) := by
  have hx := C.1.1
  have hb := C.1.2.1
  have hts := C.1.2.2.2.2
  have hown := C.1.2.2.2.1
  have hin : ∀ w ∈ wsX90, w ∈ ws9_readText := fun w h => List.mem_cons_of_mem _ (List.mem_append_right _ h)
  intro u x3 y0 y1 hf H locs hP hD hS ls hl
  unfold f9_readText_178 at hf
  refine lv_iadd hx hb dX9_readText_178 ?_
  refine lv_istore_n (lv' := [(2, .int (y1 + y0)), (0, .ref (a 0)), (3, .int x3)]) hx hb dX9_readText_179 rfl hl (by decide) rfl (fun ls hl => ?_)
  exact w9_readText_180 C hK hA k23 (fun _ _ _ h9 => ih23 _ _ _ h9) u (y1 + y0) x3 hf hP hD hS (lv_sub hl [1, 0, 2] rfl)
def f9_readText_164 (k23 : Md → Int32 → Int32 → Option (Int32 × Md)) (u : Md) (x2 : Int32) (x3 : Int32) (x4 : Int32) : Option (Int32 × Md) := (if x4 = 0 then (f9_readText_178 k23 u (x3 + (1 : Int32)) (1 : Int32) x2) else (f9_readText_178 k23 u (x3 + (1 : Int32)) (2 : Int32) x2))
set_option maxHeartbeats 4000000 in
set_option maxRecDepth 100000 in
theorem w9_readText_164 {p : Program} {l : Launch} {e : Env} {s : State} {m : MethodId} {args : Array Value} {below : List Frame} {meth : Method} {c : Code} (C : Cx p s m args meth c cX9_readText 6 ws9_readText RX9 (some .int)) {D : va_G} {cI cJ cC : ClassId} {a : Nat → Nat} {A : Nat → Prop} (hK : va_K D vwCl (ty3 cI cJ cC) s) (hA : ∀ q : Nat, s.heap.size ≤ q → A q) {r : (Int32 × Md)} (k23 : Md → Int32 → Int32 → Option (Int32 × Md)) (ih23 : ∀ (u : Md) (x2 : Int32) (x3 : Int32), k23 u x2 x3 = some r → ∀ {H : Heap} {locs : List Loc}, va_P D vwCl (cM cI cJ a u) H → va_D A (cM cI cJ a u) → va_S A s.heap H locs → ∀ {ls : Array Slot}, lv_has ls 6 [(0, .ref (a 0)), (2, .int x2), (3, .int x3)] → W p l e rm9_readText s m args below meth c H locs 0 0 (MQ below (qW (some (.int r.1)) (cM cI cJ a r.2) D (ty3 cI cJ cC) A) args s 0 0 A) (F0 m 23 ls [])) : ∀ (u : Md) (x2 : Int32) (x3 : Int32) (x4 : Int32), f9_readText_164 k23 u x2 x3 x4 = some r → ∀ {H : Heap} {locs : List Loc}, va_P D vwCl (cM cI cJ a u) H → va_D A (cM cI cJ a u) → va_S A s.heap H locs → ∀ {ls : Array Slot}, lv_has ls 6 [(0, .ref (a 0)), (2, .int x2), (3, .int x3), (4, .int x4)] → W p l e rm9_readText s m args below meth c H locs 0 0 (MQ below (qW (some (.int r.1)) (cM cI cJ a r.2) D (ty3 cI cJ cC) A) args s 0 0 A) (F0 m 164 ls []) := by
  have hx := C.1.1
  have hb := C.1.2.1
  have hts := C.1.2.2.2.2
  have hown := C.1.2.2.2.1
  have hin : ∀ w ∈ wsX90, w ∈ ws9_readText := fun w h => List.mem_cons_of_mem _ (List.mem_append_right _ h)
  intro u x2 x3 x4 hf H locs hP hD hS ls hl
  unfold f9_readText_164 at hf
  refine lv_iinc (v := (x3 + (1 : Int32))) (lv' := [(3, .int (x3 + (1 : Int32))), (0, .ref (a 0)), (2, .int x2), (4, .int x4)]) hx hb dX9_readText_164 hl (k := 2) rfl rfl (by decide) rfl (fun ls hl => ?_)
  refine lv_iload_n hx hb dX9_readText_167 rfl (lv_at hl 2 rfl) ?_
  refine lv_iload hx hb dX9_readText_168 (lv_at hl 3 rfl) ?_
  refine lv_if_eq (tgt := 177) hx hb dX9_readText_170 (by decide) (fun c_33 => ?_) (fun c_33 => ?_)
  · replace hf := og_t c_33 hf
    refine lv_iconst (v := (1 : Int32)) hx hb dX9_readText_177 (by decide) ?_
    exact w9_readText_178 C hK hA k23 (fun _ _ _ h9 => ih23 _ _ _ h9) u (x3 + (1 : Int32)) (1 : Int32) x2 hf hP hD hS (lv_sub hl [1, 0] rfl)
  · replace hf := og_f c_33 hf
    refine lv_iconst (v := (2 : Int32)) hx hb dX9_readText_173 (by decide) ?_
    refine lv_goto (tgt := 178) hx hb dX9_readText_174 (by decide) ?_
    exact w9_readText_178 C hK hA k23 (fun _ _ _ h9 => ih23 _ _ _ h9) u (x3 + (1 : Int32)) (2 : Int32) x2 hf hP hD hS (lv_sub hl [1, 0] rfl)
def f9_readText_133 (k23 : Md → Int32 → Int32 → Option (Int32 × Md)) (u : Md) (x2 : Int32) (x3 : Int32) (x4 : Int32) (x5 : Int32) : Option (Int32 × Md) := (if (gi u 15) = 0 then (f9_readText_164 k23 u x2 x3 x4) else (if ((((80 : Int32) * (gi u 17)) + ((40 : Int32) * (gi u 21))) + x3) < 0 ∨ 16000 ≤ (((((80 : Int32) * (gi u 17)) + ((40 : Int32) * (gi u 21))) + x3)).toNatClampNeg then none else (f9_readText_164 k23 (sa u 9 (upd (ga u 9) (((((80 : Int32) * (gi u 17)) + ((40 : Int32) * (gi u 21))) + x3)).toNatClampNeg x5)) x2 x3 x4)))
set_option maxHeartbeats 4000000 in
set_option maxRecDepth 100000 in
theorem w9_readText_133 {p : Program} {l : Launch} {e : Env} {s : State} {m : MethodId} {args : Array Value} {below : List Frame} {meth : Method} {c : Code} (C : Cx p s m args meth c cX9_readText 6 ws9_readText RX9 (some .int)) {D : va_G} {cI cJ cC : ClassId} {a : Nat → Nat} {A : Nat → Prop} (hK : va_K D vwCl (ty3 cI cJ cC) s) (hA : ∀ q : Nat, s.heap.size ≤ q → A q) {r : (Int32 × Md)} (k23 : Md → Int32 → Int32 → Option (Int32 × Md)) (ih23 : ∀ (u : Md) (x2 : Int32) (x3 : Int32), k23 u x2 x3 = some r → ∀ {H : Heap} {locs : List Loc}, va_P D vwCl (cM cI cJ a u) H → va_D A (cM cI cJ a u) → va_S A s.heap H locs → ∀ {ls : Array Slot}, lv_has ls 6 [(0, .ref (a 0)), (2, .int x2), (3, .int x3)] → W p l e rm9_readText s m args below meth c H locs 0 0 (MQ below (qW (some (.int r.1)) (cM cI cJ a r.2) D (ty3 cI cJ cC) A) args s 0 0 A) (F0 m 23 ls [])) : ∀ (u : Md) (x2 : Int32) (x3 : Int32) (x4 : Int32) (x5 : Int32), f9_readText_133 k23 u x2 x3 x4 x5 = some r → ∀ {H : Heap} {locs : List Loc}, va_P D vwCl (cM cI cJ a u) H → va_D A (cM cI cJ a u) → va_S A s.heap H locs → ∀ {ls : Array Slot}, lv_has ls 6 [(0, .ref (a 0)), (2, .int x2), (3, .int x3), (4, .int x4), (5, .int x5)] → W p l e rm9_readText s m args below meth c H locs 0 0 (MQ below (qW (some (.int r.1)) (cM cI cJ a r.2) D (ty3 cI cJ cC) A) args s 0 0 A) (F0 m 133 ls []) := by
  have hx := C.1.1
  have hb := C.1.2.1
  have hts := C.1.2.2.2.2
  have hown := C.1.2.2.2.1
  have hin : ∀ w ∈ wsX90, w ∈ ws9_readText := fun w h => List.mem_cons_of_mem _ (List.mem_append_right _ h)
  intro u x2 x3 x4 x5 hf H locs hP hD hS ls hl
  unfold f9_readText_133 at hf
  refine lv_aload_n hx hb dX9_readText_133 rfl (lv_at hl 0 rfl) ?_
  refine mg9 (v := .int (gi u 15)) C hin hK hP 15 (by decide) (hts (Cond.fieldLink RX9 119 "SchematicTextModel" "making" "Z") (List.mem_cons_of_mem _ m9_77)) rfl dX9_readText_134 ?_
  refine lv_if_eq (tgt := 164) hx hb dX9_readText_137 (by decide) (fun c_31 => ?_) (fun c_31 => ?_)
  · replace hf := og_t c_31 hf
    exact w9_readText_164 C hK hA k23 (fun _ _ _ h9 => ih23 _ _ _ h9) u x2 x3 x4 hf hP hD hS (lv_sub hl [0, 1, 2, 3] rfl)
  · replace hf := og_f c_31 hf
    refine lv_aload_n hx hb dX9_readText_140 rfl (lv_at hl 0 rfl) ?_
    refine mg9 (v := .ref (a 9)) C hin hK hP 9 (by decide) (hts (Cond.fieldLink RX9 26 "SchematicTextModel" "characters" "[I") (List.mem_cons_of_mem _ m9_11)) rfl dX9_readText_141 ?_
    refine lv_bipush (v := (80 : Int32)) hx hb dX9_readText_144 (by decide) ?_
    refine lv_aload_n hx hb dX9_readText_146 rfl (lv_at hl 0 rfl) ?_
    refine mg9 (v := .int (gi u 17)) C hin hK hP 17 (by decide) (hts (Cond.fieldLink RX9 122 "SchematicTextModel" "found" "I") (List.mem_cons_of_mem _ m9_78)) rfl dX9_readText_147 ?_
    refine lv_imul hx hb dX9_readText_150 ?_
    refine lv_bipush (v := (40 : Int32)) hx hb dX9_readText_151 (by decide) ?_
    refine lv_aload_n hx hb dX9_readText_153 rfl (lv_at hl 0 rfl) ?_
    refine mg9 (v := .int (gi u 21)) C hin hK hP 21 (by decide) (hts (Cond.fieldLink RX9 125 "SchematicTextModel" "words" "I") (List.mem_cons_of_mem _ m9_79)) rfl dX9_readText_154 ?_
    refine lv_imul hx hb dX9_readText_157 ?_
    refine lv_iadd hx hb dX9_readText_158 ?_
    refine lv_iload_n hx hb dX9_readText_159 rfl (lv_at hl 2 rfl) ?_
    refine lv_iadd hx hb dX9_readText_160 ?_
    refine lv_iload hx hb dX9_readText_161 (lv_at hl 4 rfl) ?_
    obtain ⟨h_32, hf⟩ := og_n hf
    refine ms9_9 C hK hP hD hS (f := (ga u 9)) rfl h_32 dX9_readText_163 (fun H locs hP hD hS => ?_)
    exact w9_readText_164 C hK hA k23 (fun _ _ _ h9 => ih23 _ _ _ h9) (sa u 9 (upd (ga u 9) (((((80 : Int32) * (gi u 17)) + ((40 : Int32) * (gi u 21))) + x3)).toNatClampNeg x5)) x2 x3 x4 hf hP hD hS (lv_sub hl [0, 1, 2, 3] rfl)
def f9_readText_78 (k23 : Md → Int32 → Int32 → Option (Int32 × Md)) (u : Md) (x2 : Int32) (x3 : Int32) (x4 : Int32) (y0 : Int32) : Option (Int32 × Md) := (if x3 = (40 : Int32) then (f9_readText_96 k23 u x2 x3) else ((f9_c u x2).bind fun r_22 => (if (32 : Int32) ≤ r_22 then (if x4 = 0 then (f9_readText_133 k23 u x2 x3 x4 y0) else (if y0 = (34 : Int32) then (f9_readText_133 k23 u x2 x3 x4 y0) else (if y0 = (92 : Int32) then (f9_readText_133 k23 u x2 x3 x4 y0) else ((f9_fail u (x2 + (1 : Int32))).bind fun u_28 => (f9_readText_180 k23 u_28 x2 x3))))) else (f9_readText_96 k23 u x2 x3))))
set_option maxHeartbeats 4000000 in
set_option maxRecDepth 100000 in
theorem w9_readText_78 {p : Program} {l : Launch} {e : Env} {s : State} {m : MethodId} {args : Array Value} {below : List Frame} {meth : Method} {c : Code} (C : Cx p s m args meth c cX9_readText 6 ws9_readText RX9 (some .int)) {D : va_G} {cI cJ cC : ClassId} {a : Nat → Nat} {A : Nat → Prop} (hK : va_K D vwCl (ty3 cI cJ cC) s) (hA : ∀ q : Nat, s.heap.size ≤ q → A q) {r : (Int32 × Md)} (k23 : Md → Int32 → Int32 → Option (Int32 × Md)) (ih23 : ∀ (u : Md) (x2 : Int32) (x3 : Int32), k23 u x2 x3 = some r → ∀ {H : Heap} {locs : List Loc}, va_P D vwCl (cM cI cJ a u) H → va_D A (cM cI cJ a u) → va_S A s.heap H locs → ∀ {ls : Array Slot}, lv_has ls 6 [(0, .ref (a 0)), (2, .int x2), (3, .int x3)] → W p l e rm9_readText s m args below meth c H locs 0 0 (MQ below (qW (some (.int r.1)) (cM cI cJ a r.2) D (ty3 cI cJ cC) A) args s 0 0 A) (F0 m 23 ls [])) : ∀ (u : Md) (x2 : Int32) (x3 : Int32) (x4 : Int32) (y0 : Int32), f9_readText_78 k23 u x2 x3 x4 y0 = some r → ∀ {H : Heap} {locs : List Loc}, va_P D vwCl (cM cI cJ a u) H → va_D A (cM cI cJ a u) → va_S A s.heap H locs → ∀ {ls : Array Slot}, lv_has ls 6 [(0, .ref (a 0)), (2, .int x2), (3, .int x3), (4, .int x4)] → W p l e rm9_readText s m args below meth c H locs 0 0 (MQ below (qW (some (.int r.1)) (cM cI cJ a r.2) D (ty3 cI cJ cC) A) args s 0 0 A) (F0 m 78 ls [.int y0]) := by
  have hx := C.1.1
  have hb := C.1.2.1
  have hts := C.1.2.2.2.2
  have hown := C.1.2.2.2.1
  have hin : ∀ w ∈ wsX90, w ∈ ws9_readText := fun w h => List.mem_cons_of_mem _ (List.mem_append_right _ h)
  intro u x2 x3 x4 y0 hf H locs hP hD hS ls hl
  unfold f9_readText_78 at hf
  refine lv_istore (lv' := [(5, .int y0), (0, .ref (a 0)), (2, .int x2), (3, .int x3), (4, .int x4)]) hx hb dX9_readText_78 hl (by decide) rfl (fun ls hl => ?_)
  refine lv_iload_n hx hb dX9_readText_80 rfl (lv_at hl 3 rfl) ?_
  refine lv_bipush (v := (40 : Int32)) hx hb dX9_readText_81 (by decide) ?_
  refine lv_icmp_eq (tgt := 96) hx hb dX9_readText_83 (by decide) (fun c_20 => ?_) (fun c_20 => ?_)
  · replace hf := og_t c_20 hf
    exact w9_readText_96 C hK hA k23 (fun _ _ _ h9 => ih23 _ _ _ h9) u x2 x3 hf hP hD hS (lv_sub hl [1, 2, 3] rfl)
  · replace hf := og_f c_20 hf
    refine lv_aload_n hx hb dX9_readText_86 rfl (lv_at hl 1 rfl) ?_
    refine lv_iload_n hx hb dX9_readText_87 rfl (lv_at hl 2 rfl) ?_
    obtain ⟨r_22, h_21, hf⟩ := og_b hf
    try dsimp only at hf
    refine ck_r (v := .int r_22) (rest := []) C.1 (c9_c l D cI cJ cC a u x2 r_22 _ h_21) (cwV 1 hts g9_c rfl rfl rfl hd9_c ⟨Nat.le_of_ble_eq_true rfl, Nat.le_of_ble_eq_true rfl⟩) hK hP hD (q0 := 0) (ci := 6) rfl rfl rfl rfl hl.1 rfl (Nat.le_of_ble_eq_true rfl) ⟨Nat.zero_le _, Nat.zero_le _⟩ dX9_readText_88 ?_
    refine lv_bipush (v := (32 : Int32)) hx hb dX9_readText_91 (by decide) ?_
    refine lv_icmp_ge (tgt := 104) hx hb dX9_readText_93 (by decide) (fun c_23 => ?_) (fun c_23 => ?_)
    · replace hf := og_t c_23 hf
      refine lv_iload hx hb dX9_readText_104 (lv_at hl 4 rfl) ?_
      refine lv_if_eq (tgt := 133) hx hb dX9_readText_106 (by decide) (fun c_24 => ?_) (fun c_24 => ?_)
      · replace hf := og_t c_24 hf
        exact w9_readText_133 C hK hA k23 (fun _ _ _ h9 => ih23 _ _ _ h9) u x2 x3 x4 y0 hf hP hD hS (lv_sub hl [1, 2, 3, 4, 0] rfl)
      · replace hf := og_f c_24 hf
        refine lv_iload hx hb dX9_readText_109 (lv_at hl 0 rfl) ?_
        refine lv_bipush (v := (34 : Int32)) hx hb dX9_readText_111 (by decide) ?_
        refine lv_icmp_eq (tgt := 133) hx hb dX9_readText_113 (by decide) (fun c_25 => ?_) (fun c_25 => ?_)
        · replace hf := og_t c_25 hf
          exact w9_readText_133 C hK hA k23 (fun _ _ _ h9 => ih23 _ _ _ h9) u x2 x3 x4 y0 hf hP hD hS (lv_sub hl [1, 2, 3, 4, 0] rfl)
        · replace hf := og_f c_25 hf
          refine lv_iload hx hb dX9_readText_116 (lv_at hl 0 rfl) ?_
          refine lv_bipush (v := (92 : Int32)) hx hb dX9_readText_118 (by decide) ?_
          refine lv_icmp_eq (tgt := 133) hx hb dX9_readText_120 (by decide) (fun c_26 => ?_) (fun c_26 => ?_)
          · replace hf := og_t c_26 hf
            exact w9_readText_133 C hK hA k23 (fun _ _ _ h9 => ih23 _ _ _ h9) u x2 x3 x4 y0 hf hP hD hS (lv_sub hl [1, 2, 3, 4, 0] rfl)
          · replace hf := og_f c_26 hf
            refine lv_aload_n hx hb dX9_readText_123 rfl (lv_at hl 1 rfl) ?_
            refine lv_iload_n hx hb dX9_readText_124 rfl (lv_at hl 2 rfl) ?_
            refine lv_iconst (v := (1 : Int32)) hx hb dX9_readText_125 (by decide) ?_
            refine lv_iadd hx hb dX9_readText_126 ?_
            obtain ⟨u_28, h_27, hf⟩ := og_b hf
            try dsimp only at hf
            refine ck_w (ov := none) (st1 := []) (rest := []) C.1 (c9_fail l D cI cJ cC a u (x2 + (1 : Int32)) u_28  _ h_27) (cwV 1 hts g9_fail rfl rfl rfl hd9_fail ⟨Nat.le_of_ble_eq_true rfl, Nat.le_of_ble_eq_true rfl⟩) hK hA hP hD hS (q0 := 0) (ci := 6) rfl rfl rfl rfl hl.1 rfl rfl (Nat.le_of_ble_eq_true rfl) ⟨Nat.zero_le _, Nat.zero_le _⟩ dX9_readText_127 (fun H locs hP hD hS => ?_)
            refine lv_goto (tgt := 180) hx hb dX9_readText_130 (by decide) ?_
            exact w9_readText_180 C hK hA k23 (fun _ _ _ h9 => ih23 _ _ _ h9) u_28 x2 x3 hf hP hD hS (lv_sub hl [1, 2, 3] rfl)
    · replace hf := og_f c_23 hf
      exact w9_readText_96 C hK hA k23 (fun _ _ _ h9 => ih23 _ _ _ h9) u x2 x3 hf hP hD hS (lv_sub hl [1, 2, 3] rfl)
def f9_readText_56 (k23 : Md → Int32 → Int32 → Option (Int32 × Md)) (u : Md) (x2 : Int32) (x3 : Int32) (y0 : Int32) : Option (Int32 × Md) := (if y0 = 0 then ((f9_c u x2).bind fun r_17 => (f9_readText_78 k23 u x2 x3 y0 r_17)) else ((f9_c u (x2 + (1 : Int32))).bind fun r_19 => (f9_readText_78 k23 u x2 x3 y0 r_19)))
set_option maxHeartbeats 4000000 in
set_option maxRecDepth 100000 in
theorem w9_readText_56 {p : Program} {l : Launch} {e : Env} {s : State} {m : MethodId} {args : Array Value} {below : List Frame} {meth : Method} {c : Code} (C : Cx p s m args meth c cX9_readText 6 ws9_readText RX9 (some .int)) {D : va_G} {cI cJ cC : ClassId} {a : Nat → Nat} {A : Nat → Prop} (hK : va_K D vwCl (ty3 cI cJ cC) s) (hA : ∀ q : Nat, s.heap.size ≤ q → A q) {r : (Int32 × Md)} (k23 : Md → Int32 → Int32 → Option (Int32 × Md)) (ih23 : ∀ (u : Md) (x2 : Int32) (x3 : Int32), k23 u x2 x3 = some r → ∀ {H : Heap} {locs : List Loc}, va_P D vwCl (cM cI cJ a u) H → va_D A (cM cI cJ a u) → va_S A s.heap H locs → ∀ {ls : Array Slot}, lv_has ls 6 [(0, .ref (a 0)), (2, .int x2), (3, .int x3)] → W p l e rm9_readText s m args below meth c H locs 0 0 (MQ below (qW (some (.int r.1)) (cM cI cJ a r.2) D (ty3 cI cJ cC) A) args s 0 0 A) (F0 m 23 ls [])) : ∀ (u : Md) (x2 : Int32) (x3 : Int32) (y0 : Int32), f9_readText_56 k23 u x2 x3 y0 = some r → ∀ {H : Heap} {locs : List Loc}, va_P D vwCl (cM cI cJ a u) H → va_D A (cM cI cJ a u) → va_S A s.heap H locs → ∀ {ls : Array Slot}, lv_has ls 6 [(0, .ref (a 0)), (2, .int x2), (3, .int x3)] → W p l e rm9_readText s m args below meth c H locs 0 0 (MQ below (qW (some (.int r.1)) (cM cI cJ a r.2) D (ty3 cI cJ cC) A) args s 0 0 A) (F0 m 56 ls [.int y0]) := by
  have hx := C.1.1
  have hb := C.1.2.1
  have hts := C.1.2.2.2.2
  have hown := C.1.2.2.2.1
  have hin : ∀ w ∈ wsX90, w ∈ ws9_readText := fun w h => List.mem_cons_of_mem _ (List.mem_append_right _ h)
  intro u x2 x3 y0 hf H locs hP hD hS ls hl
  unfold f9_readText_56 at hf
  refine lv_istore (lv' := [(4, .int y0), (0, .ref (a 0)), (2, .int x2), (3, .int x3)]) hx hb dX9_readText_56 hl (by decide) rfl (fun ls hl => ?_)
  refine lv_iload hx hb dX9_readText_58 (lv_at hl 0 rfl) ?_
  refine lv_if_eq (tgt := 73) hx hb dX9_readText_60 (by decide) (fun c_15 => ?_) (fun c_15 => ?_)
  · replace hf := og_t c_15 hf
    refine lv_aload_n hx hb dX9_readText_73 rfl (lv_at hl 1 rfl) ?_
    refine lv_iload_n hx hb dX9_readText_74 rfl (lv_at hl 2 rfl) ?_
    obtain ⟨r_17, h_16, hf⟩ := og_b hf
    try dsimp only at hf
    refine ck_r (v := .int r_17) (rest := []) C.1 (c9_c l D cI cJ cC a u x2 r_17 _ h_16) (cwV 1 hts g9_c rfl rfl rfl hd9_c ⟨Nat.le_of_ble_eq_true rfl, Nat.le_of_ble_eq_true rfl⟩) hK hP hD (q0 := 0) (ci := 6) rfl rfl rfl rfl hl.1 rfl (Nat.le_of_ble_eq_true rfl) ⟨Nat.zero_le _, Nat.zero_le _⟩ dX9_readText_75 ?_
    exact w9_readText_78 C hK hA k23 (fun _ _ _ h9 => ih23 _ _ _ h9) u x2 x3 y0 r_17 hf hP hD hS (lv_sub hl [1, 2, 3, 0] rfl)
  · replace hf := og_f c_15 hf
    refine lv_aload_n hx hb dX9_readText_63 rfl (lv_at hl 1 rfl) ?_
    refine lv_iload_n hx hb dX9_readText_64 rfl (lv_at hl 2 rfl) ?_
    refine lv_iconst (v := (1 : Int32)) hx hb dX9_readText_65 (by decide) ?_
    refine lv_iadd hx hb dX9_readText_66 ?_
    obtain ⟨r_19, h_18, hf⟩ := og_b hf
    try dsimp only at hf
    refine ck_r (v := .int r_19) (rest := []) C.1 (c9_c l D cI cJ cC a u (x2 + (1 : Int32)) r_19 _ h_18) (cwV 1 hts g9_c rfl rfl rfl hd9_c ⟨Nat.le_of_ble_eq_true rfl, Nat.le_of_ble_eq_true rfl⟩) hK hP hD (q0 := 0) (ci := 6) rfl rfl rfl rfl hl.1 rfl (Nat.le_of_ble_eq_true rfl) ⟨Nat.zero_le _, Nat.zero_le _⟩ dX9_readText_67 ?_
    refine lv_goto (tgt := 78) hx hb dX9_readText_70 (by decide) ?_
    exact w9_readText_78 C hK hA k23 (fun _ _ _ h9 => ih23 _ _ _ h9) u x2 x3 y0 r_19 hf hP hD hS (lv_sub hl [1, 2, 3, 0] rfl)
def f9_readText_207 (u : Md) (x2 : Int32) : Option (Int32 × Md) := (some ((x2 + (1 : Int32)), u))
set_option maxHeartbeats 4000000 in
set_option maxRecDepth 100000 in
theorem w9_readText_207 {p : Program} {l : Launch} {e : Env} {s : State} {m : MethodId} {args : Array Value} {below : List Frame} {meth : Method} {c : Code} (C : Cx p s m args meth c cX9_readText 6 ws9_readText RX9 (some .int)) {D : va_G} {cI cJ cC : ClassId} {a : Nat → Nat} {A : Nat → Prop} (hK : va_K D vwCl (ty3 cI cJ cC) s) (hA : ∀ q : Nat, s.heap.size ≤ q → A q) {r : (Int32 × Md)} : ∀ (u : Md) (x2 : Int32), f9_readText_207 u x2 = some r → ∀ {H : Heap} {locs : List Loc}, va_P D vwCl (cM cI cJ a u) H → va_D A (cM cI cJ a u) → va_S A s.heap H locs → ∀ {ls : Array Slot}, lv_has ls 6 [(0, .ref (a 0)), (2, .int x2)] → W p l e rm9_readText s m args below meth c H locs 0 0 (MQ below (qW (some (.int r.1)) (cM cI cJ a r.2) D (ty3 cI cJ cC) A) args s 0 0 A) (F0 m 207 ls []) := by
  have hx := C.1.1
  have hb := C.1.2.1
  have hts := C.1.2.2.2.2
  have hown := C.1.2.2.2.1
  have hin : ∀ w ∈ wsX90, w ∈ ws9_readText := fun w h => List.mem_cons_of_mem _ (List.mem_append_right _ h)
  intro u x2 hf H locs hP hD hS ls hl
  unfold f9_readText_207 at hf
  refine lv_iload_n hx hb dX9_readText_207 rfl (lv_at hl 1 rfl) ?_
  refine lv_iconst (v := (1 : Int32)) hx hb dX9_readText_208 (by decide) ?_
  refine lv_iadd hx hb dX9_readText_209 ?_
  cases hf
  exact rw_i C hK hP hD hS dX9_readText_210
def f9_readText_183 (u : Md) (x2 : Int32) (x3 : Int32) : Option (Int32 × Md) := (if (gi u 15) = 0 then (f9_readText_207 u x2) else (if (((2 : Int32) * (gi u 17)) + (gi u 21)) < 0 ∨ 400 ≤ ((((2 : Int32) * (gi u 17)) + (gi u 21))).toNatClampNeg then none else (f9_readText_207 (sa u 8 (upd (ga u 8) ((((2 : Int32) * (gi u 17)) + (gi u 21))).toNatClampNeg x3)) x2)))
set_option maxHeartbeats 4000000 in
set_option maxRecDepth 100000 in
theorem w9_readText_183 {p : Program} {l : Launch} {e : Env} {s : State} {m : MethodId} {args : Array Value} {below : List Frame} {meth : Method} {c : Code} (C : Cx p s m args meth c cX9_readText 6 ws9_readText RX9 (some .int)) {D : va_G} {cI cJ cC : ClassId} {a : Nat → Nat} {A : Nat → Prop} (hK : va_K D vwCl (ty3 cI cJ cC) s) (hA : ∀ q : Nat, s.heap.size ≤ q → A q) {r : (Int32 × Md)} : ∀ (u : Md) (x2 : Int32) (x3 : Int32), f9_readText_183 u x2 x3 = some r → ∀ {H : Heap} {locs : List Loc}, va_P D vwCl (cM cI cJ a u) H → va_D A (cM cI cJ a u) → va_S A s.heap H locs → ∀ {ls : Array Slot}, lv_has ls 6 [(0, .ref (a 0)), (2, .int x2), (3, .int x3)] → W p l e rm9_readText s m args below meth c H locs 0 0 (MQ below (qW (some (.int r.1)) (cM cI cJ a r.2) D (ty3 cI cJ cC) A) args s 0 0 A) (F0 m 183 ls []) := by
  have hx := C.1.1
  have hb := C.1.2.1
  have hts := C.1.2.2.2.2
  have hown := C.1.2.2.2.1
  have hin : ∀ w ∈ wsX90, w ∈ ws9_readText := fun w h => List.mem_cons_of_mem _ (List.mem_append_right _ h)
  intro u x2 x3 hf H locs hP hD hS ls hl
  unfold f9_readText_183 at hf
  refine lv_aload_n hx hb dX9_readText_183 rfl (lv_at hl 0 rfl) ?_
  refine mg9 (v := .int (gi u 15)) C hin hK hP 15 (by decide) (hts (Cond.fieldLink RX9 119 "SchematicTextModel" "making" "Z") (List.mem_cons_of_mem _ m9_77)) rfl dX9_readText_184 ?_
  refine lv_if_eq (tgt := 207) hx hb dX9_readText_187 (by decide) (fun c_13 => ?_) (fun c_13 => ?_)
  · replace hf := og_t c_13 hf
    exact w9_readText_207 C hK hA u x2 hf hP hD hS (lv_sub hl [0, 1] rfl)
  · replace hf := og_f c_13 hf
    refine lv_aload_n hx hb dX9_readText_190 rfl (lv_at hl 0 rfl) ?_
    refine mg9 (v := .ref (a 8)) C hin hK hP 8 (by decide) (hts (Cond.fieldLink RX9 23 "SchematicTextModel" "textSizes" "[I") (List.mem_cons_of_mem _ m9_10)) rfl dX9_readText_191 ?_
    refine lv_iconst (v := (2 : Int32)) hx hb dX9_readText_194 (by decide) ?_
    refine lv_aload_n hx hb dX9_readText_195 rfl (lv_at hl 0 rfl) ?_
    refine mg9 (v := .int (gi u 17)) C hin hK hP 17 (by decide) (hts (Cond.fieldLink RX9 122 "SchematicTextModel" "found" "I") (List.mem_cons_of_mem _ m9_78)) rfl dX9_readText_196 ?_
    refine lv_imul hx hb dX9_readText_199 ?_
    refine lv_aload_n hx hb dX9_readText_200 rfl (lv_at hl 0 rfl) ?_
    refine mg9 (v := .int (gi u 21)) C hin hK hP 21 (by decide) (hts (Cond.fieldLink RX9 125 "SchematicTextModel" "words" "I") (List.mem_cons_of_mem _ m9_79)) rfl dX9_readText_201 ?_
    refine lv_iadd hx hb dX9_readText_204 ?_
    refine lv_iload_n hx hb dX9_readText_205 rfl (lv_at hl 2 rfl) ?_
    obtain ⟨h_14, hf⟩ := og_n hf
    refine ms9_8 C hK hP hD hS (f := (ga u 8)) rfl h_14 dX9_readText_206 (fun H locs hP hD hS => ?_)
    exact w9_readText_207 C hK hA (sa u 8 (upd (ga u 8) ((((2 : Int32) * (gi u 17)) + (gi u 21))).toNatClampNeg x3)) x2 hf hP hD hS (lv_sub hl [0, 1] rfl)
def f9_readText_23 : Nat → Md → Int32 → Int32 → Option (Int32 × Md)
  | 0, _, _, _ => none
  | n + 1, u, x2, x3 => (if (gi u 18) = (-1 : Int32) then ((f9_c u x2).bind fun r_8 => (if r_8 = (34 : Int32) then (f9_readText_183 u x2 x3) else ((f9_c u x2).bind fun r_11 => (if r_11 = (92 : Int32) then (f9_readText_56 (f9_readText_23 n) u x2 x3 (1 : Int32)) else (f9_readText_56 (f9_readText_23 n) u x2 x3 (0 : Int32)))))) else (f9_readText_183 u x2 x3))
set_option maxHeartbeats 4000000 in
set_option maxRecDepth 100000 in
theorem w9_readText_23 {p : Program} {l : Launch} {e : Env} {s : State} {m : MethodId} {args : Array Value} {below : List Frame} {meth : Method} {c : Code} (C : Cx p s m args meth c cX9_readText 6 ws9_readText RX9 (some .int)) {D : va_G} {cI cJ cC : ClassId} {a : Nat → Nat} {A : Nat → Prop} (hK : va_K D vwCl (ty3 cI cJ cC) s) (hA : ∀ q : Nat, s.heap.size ≤ q → A q) {r : (Int32 × Md)} : ∀ (n : Nat), ∀ (u : Md) (x2 : Int32) (x3 : Int32), f9_readText_23 n u x2 x3 = some r → ∀ {H : Heap} {locs : List Loc}, va_P D vwCl (cM cI cJ a u) H → va_D A (cM cI cJ a u) → va_S A s.heap H locs → ∀ {ls : Array Slot}, lv_has ls 6 [(0, .ref (a 0)), (2, .int x2), (3, .int x3)] → W p l e rm9_readText s m args below meth c H locs 0 0 (MQ below (qW (some (.int r.1)) (cM cI cJ a r.2) D (ty3 cI cJ cC) A) args s 0 0 A) (F0 m 23 ls []) := by
  have hx := C.1.1
  have hb := C.1.2.1
  have hts := C.1.2.2.2.2
  have hown := C.1.2.2.2.1
  have hin : ∀ w ∈ wsX90, w ∈ ws9_readText := fun w h => List.mem_cons_of_mem _ (List.mem_append_right _ h)
  intro n
  induction n with
  | zero =>
    intro u x2 x3 hf H locs hP hD hS ls hl
    cases hf
  | succ n ih =>
    intro u x2 x3 hf H locs hP hD hS ls hl
    rw [f9_readText_23] at hf
    refine lv_aload_n hx hb dX9_readText_23 rfl (lv_at hl 0 rfl) ?_
    refine mg9 (v := .int (gi u 18)) C hin hK hP 18 (by decide) (hts (Cond.fieldLink RX9 84 "SchematicTextModel" "fault" "I") (List.mem_cons_of_mem _ m9_48)) rfl dX9_readText_24 ?_
    refine lv_iconst (v := (-1 : Int32)) hx hb dX9_readText_27 (by decide) ?_
    refine lv_icmp_ne (tgt := 183) hx hb dX9_readText_28 (by decide) (fun c_6 => ?_) (fun c_6 => ?_)
    · replace hf := og_f c_6 hf
      exact w9_readText_183 C hK hA u x2 x3 hf hP hD hS (lv_sub hl [0, 1, 2] rfl)
    · replace hf := og_t c_6 hf
      refine lv_aload_n hx hb dX9_readText_31 rfl (lv_at hl 0 rfl) ?_
      refine lv_iload_n hx hb dX9_readText_32 rfl (lv_at hl 1 rfl) ?_
      obtain ⟨r_8, h_7, hf⟩ := og_b hf
      try dsimp only at hf
      refine ck_r (v := .int r_8) (rest := []) C.1 (c9_c l D cI cJ cC a u x2 r_8 _ h_7) (cwV 1 hts g9_c rfl rfl rfl hd9_c ⟨Nat.le_of_ble_eq_true rfl, Nat.le_of_ble_eq_true rfl⟩) hK hP hD (q0 := 0) (ci := 6) rfl rfl rfl rfl hl.1 rfl (Nat.le_of_ble_eq_true rfl) ⟨Nat.zero_le _, Nat.zero_le _⟩ dX9_readText_33 ?_
      refine lv_bipush (v := (34 : Int32)) hx hb dX9_readText_36 (by decide) ?_
      refine lv_icmp_eq (tgt := 183) hx hb dX9_readText_38 (by decide) (fun c_9 => ?_) (fun c_9 => ?_)
      · replace hf := og_t c_9 hf
        exact w9_readText_183 C hK hA u x2 x3 hf hP hD hS (lv_sub hl [0, 1, 2] rfl)
      · replace hf := og_f c_9 hf
        refine lv_aload_n hx hb dX9_readText_41 rfl (lv_at hl 0 rfl) ?_
        refine lv_iload_n hx hb dX9_readText_42 rfl (lv_at hl 1 rfl) ?_
        obtain ⟨r_11, h_10, hf⟩ := og_b hf
        try dsimp only at hf
        refine ck_r (v := .int r_11) (rest := []) C.1 (c9_c l D cI cJ cC a u x2 r_11 _ h_10) (cwV 1 hts g9_c rfl rfl rfl hd9_c ⟨Nat.le_of_ble_eq_true rfl, Nat.le_of_ble_eq_true rfl⟩) hK hP hD (q0 := 0) (ci := 6) rfl rfl rfl rfl hl.1 rfl (Nat.le_of_ble_eq_true rfl) ⟨Nat.zero_le _, Nat.zero_le _⟩ dX9_readText_43 ?_
        refine lv_bipush (v := (92 : Int32)) hx hb dX9_readText_46 (by decide) ?_
        refine lv_icmp_ne (tgt := 55) hx hb dX9_readText_48 (by decide) (fun c_12 => ?_) (fun c_12 => ?_)
        · replace hf := og_f c_12 hf
          refine lv_iconst (v := (0 : Int32)) hx hb dX9_readText_55 (by decide) ?_
          exact w9_readText_56 C hK hA (f9_readText_23 n) (fun _ _ _ h9 => ih _ _ _ h9) u x2 x3 (0 : Int32) hf hP hD hS (lv_sub hl [0, 1, 2] rfl)
        · replace hf := og_t c_12 hf
          refine lv_iconst (v := (1 : Int32)) hx hb dX9_readText_51 (by decide) ?_
          refine lv_goto (tgt := 56) hx hb dX9_readText_52 (by decide) ?_
          exact w9_readText_56 C hK hA (f9_readText_23 n) (fun _ _ _ h9 => ih _ _ _ h9) u x2 x3 (1 : Int32) hf hP hD hS (lv_sub hl [0, 1, 2] rfl)
def f9_readText (u : Md) (x1 : Int32) : Option (Int32 × Md) := ((f9_c u x1).bind fun r_2 => (if r_2 = (34 : Int32) then (f9_readText_23 FU u (x1 + (1 : Int32)) (0 : Int32)) else ((f9_fail u x1).bind fun u_5 => (some (x1, u_5)))))
set_option maxHeartbeats 4000000 in
set_option maxRecDepth 100000 in
theorem c9_readText (l : Launch) (D : va_G) (cI cJ cC : ClassId) (a : Nat → Nat) (u : Md) (x1 : Int32) (r : Int32) (v : Md) (sz : Nat) (hf : f9_readText u x1 = some (r, v)) : Met l yX9_readText ws9_readText rm9_readText (pW D (ty3 cI cJ cC) (cM cI cJ a u) sz [.ref (a 0), .int x1]) (qW (some (.int r)) (cM cI cJ a v) D (ty3 cI cJ cC) (va_A (cM cI cJ a u) sz)) 0 0 (va_A (cM cI cJ a u) sz) := by
  refine mt_w (cc := cX9_readText) (maxL := 6) (ret := (some .int)) (by decide) rfl (Nat.le_of_ble_eq_true rfl) ?_
  intro p e s m below meth c ls A C hl hK hA hP hD hS
  have hl : lv_has ls 6 [(0, .ref (a 0)), (1, .int x1)] := hl
  have hx := C.1.1
  have hb := C.1.2.1
  have hts := C.1.2.2.2.2
  have hown := C.1.2.2.2.1
  have hin : ∀ w ∈ wsX90, w ∈ ws9_readText := fun w h => List.mem_cons_of_mem _ (List.mem_append_right _ h)
  unfold f9_readText at hf
  refine lv_aload_n hx hb dX9_readText_0 rfl (lv_at hl 0 rfl) ?_
  refine lv_iload_n hx hb dX9_readText_1 rfl (lv_at hl 1 rfl) ?_
  obtain ⟨r_2, h_1, hf⟩ := og_b hf
  try dsimp only at hf
  refine ck_r (v := .int r_2) (rest := []) C.1 (c9_c l D cI cJ cC a u x1 r_2 _ h_1) (cwV 1 hts g9_c rfl rfl rfl hd9_c ⟨Nat.le_of_ble_eq_true rfl, Nat.le_of_ble_eq_true rfl⟩) hK hP hD (q0 := 0) (ci := 6) rfl rfl rfl rfl hl.1 rfl (Nat.le_of_ble_eq_true rfl) ⟨Nat.zero_le _, Nat.zero_le _⟩ dX9_readText_2 ?_
  refine lv_bipush (v := (34 : Int32)) hx hb dX9_readText_5 (by decide) ?_
  refine lv_icmp_eq (tgt := 17) hx hb dX9_readText_7 (by decide) (fun c_3 => ?_) (fun c_3 => ?_)
  · replace hf := og_t c_3 hf
    refine lv_iload_n hx hb dX9_readText_17 rfl (lv_at hl 1 rfl) ?_
    refine lv_iconst (v := (1 : Int32)) hx hb dX9_readText_18 (by decide) ?_
    refine lv_iadd hx hb dX9_readText_19 ?_
    refine lv_istore_n (lv' := [(2, .int (x1 + (1 : Int32))), (0, .ref (a 0)), (1, .int x1)]) hx hb dX9_readText_20 rfl hl (by decide) rfl (fun ls hl => ?_)
    refine lv_iconst (v := (0 : Int32)) hx hb dX9_readText_21 (by decide) ?_
    refine lv_istore_n (lv' := [(3, .int (0 : Int32)), (2, .int (x1 + (1 : Int32))), (0, .ref (a 0)), (1, .int x1)]) hx hb dX9_readText_22 rfl hl (by decide) rfl (fun ls hl => ?_)
    exact w9_readText_23 C hK hA FU u (x1 + (1 : Int32)) (0 : Int32) hf hP hD hS (lv_sub hl [2, 1, 0] rfl)
  · replace hf := og_f c_3 hf
    refine lv_aload_n hx hb dX9_readText_10 rfl (lv_at hl 0 rfl) ?_
    refine lv_iload_n hx hb dX9_readText_11 rfl (lv_at hl 1 rfl) ?_
    obtain ⟨u_5, h_4, hf⟩ := og_b hf
    try dsimp only at hf
    refine ck_w (ov := none) (st1 := []) (rest := []) C.1 (c9_fail l D cI cJ cC a u x1 u_5  _ h_4) (cwV 1 hts g9_fail rfl rfl rfl hd9_fail ⟨Nat.le_of_ble_eq_true rfl, Nat.le_of_ble_eq_true rfl⟩) hK hA hP hD hS (q0 := 0) (ci := 6) rfl rfl rfl rfl hl.1 rfl rfl (Nat.le_of_ble_eq_true rfl) ⟨Nat.zero_le _, Nat.zero_le _⟩ dX9_readText_12 (fun H locs hP hD hS => ?_)
    refine lv_iload_n hx hb dX9_readText_15 rfl (lv_at hl 1 rfl) ?_
    cases hf
    exact rw_i C hK hP hD hS dX9_readText_16
abbrev rm9_readValue : Room := { frames := 3, cells := 0, slots := 0, locals := 79 }
noncomputable abbrev ws9_readValue : List Cond := Cond.code yX9_readValue cX9_readValue 6 (some .int) :: WA9
theorem g9_readValue {c0 : Cond} : GoodIn (c0 :: WA9) (wsV RX9 188 RX9 yX9_readValue ws9_readValue) := gd9_v m9_134 m9_135 m9_136 m9_29 m9_80
theorem hd9_readValue : yX9_readValue.cls = RX9 ∧ yX9_readValue.cls ≠ "java/lang/invoke/MethodHandle" ∧ yX9_readValue.cls ≠ "java/lang/invoke/VarHandle" ∧ (parseMethodDescriptor yX9_readValue.desc).map (fun d => d.parameters.length) = some 3 := by decide +kernel
def f9_readValue_88 (u : Md) (x5 : Int32) : Option (Int32 × Md) := (some (x5, (si u 20 ((gi u 20) + (1 : Int32)))))
set_option maxHeartbeats 4000000 in
set_option maxRecDepth 100000 in
theorem w9_readValue_88 {p : Program} {l : Launch} {e : Env} {s : State} {m : MethodId} {args : Array Value} {below : List Frame} {meth : Method} {c : Code} (C : Cx p s m args meth c cX9_readValue 6 ws9_readValue RX9 (some .int)) {D : va_G} {cI cJ cC : ClassId} {a : Nat → Nat} {A : Nat → Prop} (hK : va_K D vwCl (ty3 cI cJ cC) s) (hA : ∀ q : Nat, s.heap.size ≤ q → A q) {r : (Int32 × Md)} : ∀ (u : Md) (x5 : Int32), f9_readValue_88 u x5 = some r → ∀ {H : Heap} {locs : List Loc}, va_P D vwCl (cM cI cJ a u) H → va_D A (cM cI cJ a u) → va_S A s.heap H locs → ∀ {ls : Array Slot}, lv_has ls 6 [(0, .ref (a 0)), (5, .int x5)] → W p l e rm9_readValue s m args below meth c H locs 0 0 (MQ below (qW (some (.int r.1)) (cM cI cJ a r.2) D (ty3 cI cJ cC) A) args s 0 0 A) (F0 m 88 ls []) := by
  have hx := C.1.1
  have hb := C.1.2.1
  have hts := C.1.2.2.2.2
  have hown := C.1.2.2.2.1
  have hin : ∀ w ∈ wsX90, w ∈ ws9_readValue := fun w h => List.mem_cons_of_mem _ (List.mem_append_right _ h)
  intro u x5 hf H locs hP hD hS ls hl
  unfold f9_readValue_88 at hf
  refine lv_aload_n hx hb dX9_readValue_88 rfl (lv_at hl 0 rfl) ?_
  refine lv_dup hx hb dX9_readValue_89 rfl ?_
  refine mg9 (v := .int (gi u 20)) C hin hK hP 20 (by decide) (hts (Cond.fieldLink RX9 141 "SchematicTextModel" "number" "I") (List.mem_cons_of_mem _ m9_81)) rfl dX9_readValue_90 ?_
  refine lv_iconst (v := (1 : Int32)) hx hb dX9_readValue_93 (by decide) ?_
  refine lv_iadd hx hb dX9_readValue_94 ?_
  refine mp9_20 C hin hK hP hD hS (hts (Cond.fieldLink RX9 141 "SchematicTextModel" "number" "I") (List.mem_cons_of_mem _ m9_81)) dX9_readValue_95 (fun H locs hP hD hS => ?_)
  refine lv_iload hx hb dX9_readValue_98 (lv_at hl 1 rfl) ?_
  cases hf
  exact rw_i C hK hP hD hS dX9_readValue_100
def f9_readValue_46 (u : Md) (x1 : Int32) (x2 : Int32) (y0 : Int32) (y1 : Int32) : Option (Int32 × Md) := ((f9_least x1 x2).bind fun r_9 => ((f9_most x1 x2).bind fun r_11 => ((f9_readNumber u y1 y0 r_9 r_11).bind fun p_14 => (if (gi p_14.2 15) = 0 then (f9_readValue_88 p_14.2 p_14.1) else (if (((5 : Int32) * (gi p_14.2 17)) + (gi p_14.2 20)) < 0 ∨ 1000 ≤ ((((5 : Int32) * (gi p_14.2 17)) + (gi p_14.2 20))).toNatClampNeg then none else (f9_readValue_88 (sn p_14.2 (vp_updL (gn p_14.2) ((((5 : Int32) * (gi p_14.2 17)) + (gi p_14.2 20))).toNatClampNeg (gl p_14.2))) p_14.1))))))
set_option maxHeartbeats 4000000 in
set_option maxRecDepth 100000 in
theorem w9_readValue_46 {p : Program} {l : Launch} {e : Env} {s : State} {m : MethodId} {args : Array Value} {below : List Frame} {meth : Method} {c : Code} (C : Cx p s m args meth c cX9_readValue 6 ws9_readValue RX9 (some .int)) {D : va_G} {cI cJ cC : ClassId} {a : Nat → Nat} {A : Nat → Prop} (hK : va_K D vwCl (ty3 cI cJ cC) s) (hA : ∀ q : Nat, s.heap.size ≤ q → A q) {r : (Int32 × Md)} : ∀ (u : Md) (x1 : Int32) (x2 : Int32) (y0 : Int32) (y1 : Int32), f9_readValue_46 u x1 x2 y0 y1 = some r → ∀ {H : Heap} {locs : List Loc}, va_P D vwCl (cM cI cJ a u) H → va_D A (cM cI cJ a u) → va_S A s.heap H locs → ∀ {ls : Array Slot}, lv_has ls 6 [(0, .ref (a 0)), (1, .int x1), (2, .int x2)] → W p l e rm9_readValue s m args below meth c H locs 0 0 (MQ below (qW (some (.int r.1)) (cM cI cJ a r.2) D (ty3 cI cJ cC) A) args s 0 0 A) (F0 m 46 ls [.int y0, .int y1, .ref (a 0)]) := by
  have hx := C.1.1
  have hb := C.1.2.1
  have hts := C.1.2.2.2.2
  have hown := C.1.2.2.2.1
  have hin : ∀ w ∈ wsX90, w ∈ ws9_readValue := fun w h => List.mem_cons_of_mem _ (List.mem_append_right _ h)
  intro u x1 x2 y0 y1 hf H locs hP hD hS ls hl
  unfold f9_readValue_46 at hf
  refine lv_iload_n hx hb dX9_readValue_46 rfl (lv_at hl 1 rfl) ?_
  refine lv_iload_n hx hb dX9_readValue_47 rfl (lv_at hl 2 rfl) ?_
  obtain ⟨r_9, h_8, hf⟩ := og_b hf
  try dsimp only at hf
  refine ck_s (v := .long r_9) (rest := [.int y0, .int y1, .ref (a 0)]) C.1 (c9_least l x1 x2 r_9 h_8) (va_cwS 2 hts g9_least rfl rfl rfl hd9_least ⟨Nat.le_of_ble_eq_true rfl, Nat.le_of_ble_eq_true rfl⟩) rfl hl.1 rfl (Nat.le_of_ble_eq_true rfl) ⟨Nat.zero_le _, Nat.zero_le _⟩ dX9_readValue_48 ?_
  refine lv_iload_n hx hb dX9_readValue_51 rfl (lv_at hl 1 rfl) ?_
  refine lv_iload_n hx hb dX9_readValue_52 rfl (lv_at hl 2 rfl) ?_
  obtain ⟨r_11, h_10, hf⟩ := og_b hf
  try dsimp only at hf
  refine ck_s (v := .long r_11) (rest := [.long r_9, .int y0, .int y1, .ref (a 0)]) C.1 (c9_most l x1 x2 r_11 h_10) (va_cwS 2 hts g9_most rfl rfl rfl hd9_most ⟨Nat.le_of_ble_eq_true rfl, Nat.le_of_ble_eq_true rfl⟩) rfl hl.1 rfl (Nat.le_of_ble_eq_true rfl) ⟨Nat.zero_le _, Nat.zero_le _⟩ dX9_readValue_53 ?_
  obtain ⟨⟨r_14, u_13⟩, h_12, hf⟩ := og_b hf
  try dsimp only at hf
  refine ck_w (ov := (some (.int r_14))) (st1 := [.int r_14]) (rest := []) C.1 (c9_readNumber l D cI cJ cC a u y1 y0 r_9 r_11 r_14 u_13  _ h_12) (cwV 4 hts g9_readNumber rfl rfl rfl hd9_readNumber ⟨Nat.le_of_ble_eq_true rfl, Nat.le_of_ble_eq_true rfl⟩) hK hA hP hD hS (q0 := 0) (ci := 6) rfl rfl rfl rfl hl.1 rfl rfl (Nat.le_of_ble_eq_true rfl) ⟨Nat.zero_le _, Nat.zero_le _⟩ dX9_readValue_56 (fun H locs hP hD hS => ?_)
  refine lv_istore (lv' := [(5, .int r_14), (0, .ref (a 0)), (1, .int x1), (2, .int x2)]) hx hb dX9_readValue_59 hl (by decide) rfl (fun ls hl => ?_)
  refine lv_aload_n hx hb dX9_readValue_61 rfl (lv_at hl 1 rfl) ?_
  refine mg9 (v := .int (gi u_13 15)) C hin hK hP 15 (by decide) (hts (Cond.fieldLink RX9 119 "SchematicTextModel" "making" "Z") (List.mem_cons_of_mem _ m9_77)) rfl dX9_readValue_62 ?_
  refine lv_if_eq (tgt := 88) hx hb dX9_readValue_65 (by decide) (fun c_15 => ?_) (fun c_15 => ?_)
  · replace hf := og_t c_15 hf
    exact w9_readValue_88 C hK hA u_13 r_14 hf hP hD hS (lv_sub hl [1, 0] rfl)
  · replace hf := og_f c_15 hf
    refine lv_aload_n hx hb dX9_readValue_68 rfl (lv_at hl 1 rfl) ?_
    refine mg9 (v := .ref (a 7)) C hin hK hP 7 (by decide) (hts (Cond.fieldLink RX9 19 "SchematicTextModel" "numbers" "[J") (List.mem_cons_of_mem _ m9_9)) rfl dX9_readValue_69 ?_
    refine lv_iconst (v := (5 : Int32)) hx hb dX9_readValue_72 (by decide) ?_
    refine lv_aload_n hx hb dX9_readValue_73 rfl (lv_at hl 1 rfl) ?_
    refine mg9 (v := .int (gi u_13 17)) C hin hK hP 17 (by decide) (hts (Cond.fieldLink RX9 122 "SchematicTextModel" "found" "I") (List.mem_cons_of_mem _ m9_78)) rfl dX9_readValue_74 ?_
    refine lv_imul hx hb dX9_readValue_77 ?_
    refine lv_aload_n hx hb dX9_readValue_78 rfl (lv_at hl 1 rfl) ?_
    refine mg9 (v := .int (gi u_13 20)) C hin hK hP 20 (by decide) (hts (Cond.fieldLink RX9 141 "SchematicTextModel" "number" "I") (List.mem_cons_of_mem _ m9_81)) rfl dX9_readValue_79 ?_
    refine lv_iadd hx hb dX9_readValue_82 ?_
    refine lv_aload_n hx hb dX9_readValue_83 rfl (lv_at hl 1 rfl) ?_
    refine mg9 (v := .long (gl u_13)) C hin hK hP 28 (by decide) (hts (Cond.fieldLink RX9 115 "SchematicTextModel" "lastNumber" "J") (List.mem_cons_of_mem _ m9_69)) rfl dX9_readValue_84 ?_
    obtain ⟨h_16, hf⟩ := og_n hf
    refine ms9_7 C hK hP hD hS (f := (gn u_13)) rfl h_16 dX9_readValue_87 (fun H locs hP hD hS => ?_)
    exact w9_readValue_88 C hK hA (sn u_13 (vp_updL (gn u_13) ((((5 : Int32) * (gi u_13 17)) + (gi u_13 20))).toNatClampNeg (gl u_13))) r_14 hf hP hD hS (lv_sub hl [1, 0] rfl)
def f9_readValue (u : Md) (x1 : Int32) (x2 : Int32) (x3 : Int32) : Option (Int32 × Md) := ((f9_field x1 x2).bind fun r_2 => (if r_2 = (3 : Int32) then ((f9_readText u x3).bind fun p_7 => (some (p_7.1, (si p_7.2 21 ((gi p_7.2 21) + (1 : Int32)))))) else (if r_2 = (1 : Int32) then (f9_readValue_46 u x1 x2 (1 : Int32) x3) else (f9_readValue_46 u x1 x2 (0 : Int32) x3))))
set_option maxHeartbeats 4000000 in
set_option maxRecDepth 100000 in
theorem c9_readValue (l : Launch) (D : va_G) (cI cJ cC : ClassId) (a : Nat → Nat) (u : Md) (x1 : Int32) (x2 : Int32) (x3 : Int32) (r : Int32) (v : Md) (sz : Nat) (hf : f9_readValue u x1 x2 x3 = some (r, v)) : Met l yX9_readValue ws9_readValue rm9_readValue (pW D (ty3 cI cJ cC) (cM cI cJ a u) sz [.ref (a 0), .int x1, .int x2, .int x3]) (qW (some (.int r)) (cM cI cJ a v) D (ty3 cI cJ cC) (va_A (cM cI cJ a u) sz)) 0 0 (va_A (cM cI cJ a u) sz) := by
  refine mt_w (cc := cX9_readValue) (maxL := 6) (ret := (some .int)) (by decide) rfl (Nat.le_of_ble_eq_true rfl) ?_
  intro p e s m below meth c ls A C hl hK hA hP hD hS
  have hl : lv_has ls 6 [(0, .ref (a 0)), (1, .int x1), (2, .int x2), (3, .int x3)] := hl
  have hx := C.1.1
  have hb := C.1.2.1
  have hts := C.1.2.2.2.2
  have hown := C.1.2.2.2.1
  have hin : ∀ w ∈ wsX90, w ∈ ws9_readValue := fun w h => List.mem_cons_of_mem _ (List.mem_append_right _ h)
  unfold f9_readValue at hf
  refine lv_iload_n hx hb dX9_readValue_0 rfl (lv_at hl 1 rfl) ?_
  refine lv_iload_n hx hb dX9_readValue_1 rfl (lv_at hl 2 rfl) ?_
  obtain ⟨r_2, h_1, hf⟩ := og_b hf
  try dsimp only at hf
  refine ck_s (v := .int r_2) (rest := []) C.1 (c9_field l x1 x2 r_2 h_1) (va_cwS 2 hts g9_field rfl rfl rfl hd9_field ⟨Nat.le_of_ble_eq_true rfl, Nat.le_of_ble_eq_true rfl⟩) rfl hl.1 rfl (Nat.le_of_ble_eq_true rfl) ⟨Nat.zero_le _, Nat.zero_le _⟩ dX9_readValue_2 ?_
  refine lv_istore (lv' := [(4, .int r_2), (0, .ref (a 0)), (1, .int x1), (2, .int x2), (3, .int x3)]) hx hb dX9_readValue_5 hl (by decide) rfl (fun ls hl => ?_)
  refine lv_iload hx hb dX9_readValue_7 (lv_at hl 0 rfl) ?_
  refine lv_iconst (v := (3 : Int32)) hx hb dX9_readValue_9 (by decide) ?_
  refine lv_icmp_ne (tgt := 33) hx hb dX9_readValue_10 (by decide) (fun c_3 => ?_) (fun c_3 => ?_)
  · replace hf := og_f c_3 hf
    refine lv_aload_n hx hb dX9_readValue_33 rfl (lv_at hl 1 rfl) ?_
    refine lv_iload_n hx hb dX9_readValue_34 rfl (lv_at hl 4 rfl) ?_
    refine lv_iload hx hb dX9_readValue_35 (lv_at hl 0 rfl) ?_
    refine lv_iconst (v := (1 : Int32)) hx hb dX9_readValue_37 (by decide) ?_
    refine lv_icmp_ne (tgt := 45) hx hb dX9_readValue_38 (by decide) (fun c_4 => ?_) (fun c_4 => ?_)
    · replace hf := og_f c_4 hf
      refine lv_iconst (v := (0 : Int32)) hx hb dX9_readValue_45 (by decide) ?_
      exact w9_readValue_46 C hK hA u x1 x2 (0 : Int32) x3 hf hP hD hS (lv_sub hl [1, 2, 3] rfl)
    · replace hf := og_t c_4 hf
      refine lv_iconst (v := (1 : Int32)) hx hb dX9_readValue_41 (by decide) ?_
      refine lv_goto (tgt := 46) hx hb dX9_readValue_42 (by decide) ?_
      exact w9_readValue_46 C hK hA u x1 x2 (1 : Int32) x3 hf hP hD hS (lv_sub hl [1, 2, 3] rfl)
  · replace hf := og_t c_3 hf
    refine lv_aload_n hx hb dX9_readValue_13 rfl (lv_at hl 1 rfl) ?_
    refine lv_iload_n hx hb dX9_readValue_14 rfl (lv_at hl 4 rfl) ?_
    obtain ⟨⟨r_7, u_6⟩, h_5, hf⟩ := og_b hf
    try dsimp only at hf
    refine ck_w (ov := (some (.int r_7))) (st1 := [.int r_7]) (rest := []) C.1 (c9_readText l D cI cJ cC a u x3 r_7 u_6  _ h_5) (cwV 1 hts g9_readText rfl rfl rfl hd9_readText ⟨Nat.le_of_ble_eq_true rfl, Nat.le_of_ble_eq_true rfl⟩) hK hA hP hD hS (q0 := 0) (ci := 6) rfl rfl rfl rfl hl.1 rfl rfl (Nat.le_of_ble_eq_true rfl) ⟨Nat.zero_le _, Nat.zero_le _⟩ dX9_readValue_15 (fun H locs hP hD hS => ?_)
    refine lv_istore (lv' := [(5, .int r_7), (4, .int r_2), (0, .ref (a 0)), (1, .int x1), (2, .int x2), (3, .int x3)]) hx hb dX9_readValue_18 hl (by decide) rfl (fun ls hl => ?_)
    refine lv_aload_n hx hb dX9_readValue_20 rfl (lv_at hl 2 rfl) ?_
    refine lv_dup hx hb dX9_readValue_21 rfl ?_
    refine mg9 (v := .int (gi u_6 21)) C hin hK hP 21 (by decide) (hts (Cond.fieldLink RX9 125 "SchematicTextModel" "words" "I") (List.mem_cons_of_mem _ m9_79)) rfl dX9_readValue_22 ?_
    refine lv_iconst (v := (1 : Int32)) hx hb dX9_readValue_25 (by decide) ?_
    refine lv_iadd hx hb dX9_readValue_26 ?_
    refine mp9_21 C hin hK hP hD hS (hts (Cond.fieldLink RX9 125 "SchematicTextModel" "words" "I") (List.mem_cons_of_mem _ m9_79)) dX9_readValue_27 (fun H locs hP hD hS => ?_)
    refine lv_goto (tgt := 98) hx hb dX9_readValue_30 (by decide) ?_
    refine lv_iload hx hb dX9_readValue_98 (lv_at hl 0 rfl) ?_
    cases hf
    exact rw_i C hK hP hD hS dX9_readValue_100
abbrev rm9_blank : Room := { frames := 0, cells := 0, slots := 0, locals := 0 }
noncomputable abbrev ws9_blank : List Cond := Cond.code yX9_blank cX9_blank 4 none :: WA9
theorem g9_blank {c0 : Cond} : GoodIn (c0 :: WA9) (wsV RX9 165 RX9 yX9_blank ws9_blank) := gd9_v m9_110 m9_111 m9_112 m9_29 m9_92
theorem hd9_blank : yX9_blank.cls = RX9 ∧ yX9_blank.cls ≠ "java/lang/invoke/MethodHandle" ∧ yX9_blank.cls ≠ "java/lang/invoke/VarHandle" ∧ (parseMethodDescriptor yX9_blank.desc).map (fun d => d.parameters.length) = some 2 := by decide +kernel
def f9_blank_57 (u : Md) (x1 : Int32) (x2 : Int32) : Option Md := (if ((2 : Int32) * x1) < 0 ∨ 400 ≤ (((2 : Int32) * x1)).toNatClampNeg then none else (if (((2 : Int32) * x1) + (1 : Int32)) < 0 ∨ 400 ≤ ((((2 : Int32) * x1) + (1 : Int32))).toNatClampNeg then none else (if x1 < 0 ∨ 200 ≤ (x1).toNatClampNeg then none else (if x1 < 0 ∨ 200 ≤ (x1).toNatClampNeg then none else (some (sa (sa (sa (sa u 8 (upd (ga u 8) (((2 : Int32) * x1)).toNatClampNeg (0 : Int32))) 8 (upd (upd (ga u 8) (((2 : Int32) * x1)).toNatClampNeg (0 : Int32)) ((((2 : Int32) * x1) + (1 : Int32))).toNatClampNeg (0 : Int32))) 5 (upd (ga u 5) (x1).toNatClampNeg x2)) 11 (upd (ga u 11) (x1).toNatClampNeg (0 : Int32))))))))
set_option maxHeartbeats 4000000 in
set_option maxRecDepth 100000 in
theorem w9_blank_57 {p : Program} {l : Launch} {e : Env} {s : State} {m : MethodId} {args : Array Value} {below : List Frame} {meth : Method} {c : Code} (C : Cx p s m args meth c cX9_blank 4 ws9_blank RX9 none) {D : va_G} {cI cJ cC : ClassId} {a : Nat → Nat} {A : Nat → Prop} (hK : va_K D vwCl (ty3 cI cJ cC) s) (hA : ∀ q : Nat, s.heap.size ≤ q → A q) {r : Md} : ∀ (u : Md) (x1 : Int32) (x2 : Int32), f9_blank_57 u x1 x2 = some r → ∀ {H : Heap} {locs : List Loc}, va_P D vwCl (cM cI cJ a u) H → va_D A (cM cI cJ a u) → va_S A s.heap H locs → ∀ {ls : Array Slot}, lv_has ls 4 [(0, .ref (a 0)), (1, .int x1), (2, .int x2)] → W p l e rm9_blank s m args below meth c H locs 0 0 (MQ below (qW none (cM cI cJ a r) D (ty3 cI cJ cC) A) args s 0 0 A) (F0 m 57 ls []) := by
  have hx := C.1.1
  have hb := C.1.2.1
  have hts := C.1.2.2.2.2
  have hown := C.1.2.2.2.1
  have hin : ∀ w ∈ wsX90, w ∈ ws9_blank := fun w h => List.mem_cons_of_mem _ (List.mem_append_right _ h)
  intro u x1 x2 hf H locs hP hD hS ls hl
  unfold f9_blank_57 at hf
  refine lv_aload_n hx hb dX9_blank_57 rfl (lv_at hl 0 rfl) ?_
  refine mg9 (v := .ref (a 8)) C hin hK hP 8 (by decide) (hts (Cond.fieldLink RX9 23 "SchematicTextModel" "textSizes" "[I") (List.mem_cons_of_mem _ m9_10)) rfl dX9_blank_58 ?_
  refine lv_iconst (v := (2 : Int32)) hx hb dX9_blank_61 (by decide) ?_
  refine lv_iload_n hx hb dX9_blank_62 rfl (lv_at hl 1 rfl) ?_
  refine lv_imul hx hb dX9_blank_63 ?_
  refine lv_iconst (v := (0 : Int32)) hx hb dX9_blank_64 (by decide) ?_
  obtain ⟨h_7, hf⟩ := og_n hf
  refine ms9_8 C hK hP hD hS (f := (ga u 8)) rfl h_7 dX9_blank_65 (fun H locs hP hD hS => ?_)
  refine lv_aload_n hx hb dX9_blank_66 rfl (lv_at hl 0 rfl) ?_
  refine mg9 (v := .ref (a 8)) C hin hK hP 8 (by decide) (hts (Cond.fieldLink RX9 23 "SchematicTextModel" "textSizes" "[I") (List.mem_cons_of_mem _ m9_10)) rfl dX9_blank_67 ?_
  refine lv_iconst (v := (2 : Int32)) hx hb dX9_blank_70 (by decide) ?_
  refine lv_iload_n hx hb dX9_blank_71 rfl (lv_at hl 1 rfl) ?_
  refine lv_imul hx hb dX9_blank_72 ?_
  refine lv_iconst (v := (1 : Int32)) hx hb dX9_blank_73 (by decide) ?_
  refine lv_iadd hx hb dX9_blank_74 ?_
  refine lv_iconst (v := (0 : Int32)) hx hb dX9_blank_75 (by decide) ?_
  obtain ⟨h_8, hf⟩ := og_n hf
  refine ms9_8 C hK hP hD hS (f := (upd (ga u 8) (((2 : Int32) * x1)).toNatClampNeg (0 : Int32))) rfl h_8 dX9_blank_76 (fun H locs hP hD hS => ?_)
  refine lv_aload_n hx hb dX9_blank_77 rfl (lv_at hl 0 rfl) ?_
  refine mg9 (v := .ref (a 5)) C hin hK hP 5 (by decide) (hts (Cond.fieldLink RX9 13 "SchematicTextModel" "kinds" "[I") (List.mem_cons_of_mem _ m9_6)) rfl dX9_blank_78 ?_
  refine lv_iload_n hx hb dX9_blank_81 rfl (lv_at hl 1 rfl) ?_
  refine lv_iload_n hx hb dX9_blank_82 rfl (lv_at hl 2 rfl) ?_
  obtain ⟨h_9, hf⟩ := og_n hf
  refine ms9_5 C hK hP hD hS (f := (ga u 5)) rfl h_9 dX9_blank_83 (fun H locs hP hD hS => ?_)
  refine lv_aload_n hx hb dX9_blank_84 rfl (lv_at hl 0 rfl) ?_
  refine mg9 (v := .ref (a 11)) C hin hK hP 11 (by decide) (hts (Cond.fieldLink RX9 32 "SchematicTextModel" "keptSize" "[I") (List.mem_cons_of_mem _ m9_13)) rfl dX9_blank_85 ?_
  refine lv_iload_n hx hb dX9_blank_88 rfl (lv_at hl 1 rfl) ?_
  refine lv_iconst (v := (0 : Int32)) hx hb dX9_blank_89 (by decide) ?_
  obtain ⟨h_10, hf⟩ := og_n hf
  refine ms9_11 C hK hP hD hS (f := (ga u 11)) rfl h_10 dX9_blank_90 (fun H locs hP hD hS => ?_)
  cases hf
  exact rw_v C hK hP hD hS dX9_blank_91
def f9_blank_38 (u : Md) (x1 : Int32) (x2 : Int32) : Option Md := (if x2 = (6 : Int32) then (if (((5 : Int32) * x1) + (2 : Int32)) < 0 ∨ 1000 ≤ ((((5 : Int32) * x1) + (2 : Int32))).toNatClampNeg then none else (f9_blank_57 (sn u (vp_updL (gn u) ((((5 : Int32) * x1) + (2 : Int32))).toNatClampNeg (1270000 : Int64))) x1 x2)) else (f9_blank_57 u x1 x2))
set_option maxHeartbeats 4000000 in
set_option maxRecDepth 100000 in
theorem w9_blank_38 {p : Program} {l : Launch} {e : Env} {s : State} {m : MethodId} {args : Array Value} {below : List Frame} {meth : Method} {c : Code} (C : Cx p s m args meth c cX9_blank 4 ws9_blank RX9 none) {D : va_G} {cI cJ cC : ClassId} {a : Nat → Nat} {A : Nat → Prop} (hK : va_K D vwCl (ty3 cI cJ cC) s) (hA : ∀ q : Nat, s.heap.size ≤ q → A q) {r : Md} : ∀ (u : Md) (x1 : Int32) (x2 : Int32), f9_blank_38 u x1 x2 = some r → ∀ {H : Heap} {locs : List Loc}, va_P D vwCl (cM cI cJ a u) H → va_D A (cM cI cJ a u) → va_S A s.heap H locs → ∀ {ls : Array Slot}, lv_has ls 4 [(0, .ref (a 0)), (1, .int x1), (2, .int x2)] → W p l e rm9_blank s m args below meth c H locs 0 0 (MQ below (qW none (cM cI cJ a r) D (ty3 cI cJ cC) A) args s 0 0 A) (F0 m 38 ls []) := by
  have hx := C.1.1
  have hb := C.1.2.1
  have hts := C.1.2.2.2.2
  have hown := C.1.2.2.2.1
  have hin : ∀ w ∈ wsX90, w ∈ ws9_blank := fun w h => List.mem_cons_of_mem _ (List.mem_append_right _ h)
  intro u x1 x2 hf H locs hP hD hS ls hl
  unfold f9_blank_38 at hf
  refine lv_iload_n hx hb dX9_blank_38 rfl (lv_at hl 2 rfl) ?_
  refine lv_bipush (v := (6 : Int32)) hx hb dX9_blank_39 (by decide) ?_
  refine lv_icmp_ne (tgt := 57) hx hb dX9_blank_41 (by decide) (fun c_5 => ?_) (fun c_5 => ?_)
  · replace hf := og_f c_5 hf
    exact w9_blank_57 C hK hA u x1 x2 hf hP hD hS (lv_sub hl [0, 1, 2] rfl)
  · replace hf := og_t c_5 hf
    refine lv_aload_n hx hb dX9_blank_44 rfl (lv_at hl 0 rfl) ?_
    refine mg9 (v := .ref (a 7)) C hin hK hP 7 (by decide) (hts (Cond.fieldLink RX9 19 "SchematicTextModel" "numbers" "[J") (List.mem_cons_of_mem _ m9_9)) rfl dX9_blank_45 ?_
    refine lv_iconst (v := (5 : Int32)) hx hb dX9_blank_48 (by decide) ?_
    refine lv_iload_n hx hb dX9_blank_49 rfl (lv_at hl 1 rfl) ?_
    refine lv_imul hx hb dX9_blank_50 ?_
    refine lv_iconst (v := (2 : Int32)) hx hb dX9_blank_51 (by decide) ?_
    refine lv_iadd hx hb dX9_blank_52 ?_
    refine lv_ldc2 (v := (1270000 : Int64)) hx hb hown (hts (Cond.constantLong RX9 144 (1270000)) (List.mem_cons_of_mem _ m9_93)) dX9_blank_53 ?_
    obtain ⟨h_6, hf⟩ := og_n hf
    refine ms9_7 C hK hP hD hS (f := (gn u)) rfl h_6 dX9_blank_56 (fun H locs hP hD hS => ?_)
    exact w9_blank_57 C hK hA (sn u (vp_updL (gn u) ((((5 : Int32) * x1) + (2 : Int32))).toNatClampNeg (1270000 : Int64))) x1 x2 hf hP hD hS (lv_sub hl [0, 1, 2] rfl)
def f9_blank_2 : Nat → Md → Int32 → Int32 → Int32 → Option Md
  | 0, _, _, _, _ => none
  | n + 1, u, x1, x2, x3 => (if (5 : Int32) ≤ x3 then (if x2 = (3 : Int32) then (if ((5 : Int32) * x1) < 0 ∨ 1000 ≤ (((5 : Int32) * x1)).toNatClampNeg then none else (f9_blank_38 (sn u (vp_updL (gn u) (((5 : Int32) * x1)).toNatClampNeg (1 : Int64))) x1 x2)) else (f9_blank_38 u x1 x2)) else (if (((5 : Int32) * x1) + x3) < 0 ∨ 1000 ≤ ((((5 : Int32) * x1) + x3)).toNatClampNeg then none else (f9_blank_2 n (sn u (vp_updL (gn u) ((((5 : Int32) * x1) + x3)).toNatClampNeg (0 : Int64))) x1 x2 (x3 + (1 : Int32)))))
set_option maxHeartbeats 4000000 in
set_option maxRecDepth 100000 in
theorem w9_blank_2 {p : Program} {l : Launch} {e : Env} {s : State} {m : MethodId} {args : Array Value} {below : List Frame} {meth : Method} {c : Code} (C : Cx p s m args meth c cX9_blank 4 ws9_blank RX9 none) {D : va_G} {cI cJ cC : ClassId} {a : Nat → Nat} {A : Nat → Prop} (hK : va_K D vwCl (ty3 cI cJ cC) s) (hA : ∀ q : Nat, s.heap.size ≤ q → A q) {r : Md} : ∀ (n : Nat), ∀ (u : Md) (x1 : Int32) (x2 : Int32) (x3 : Int32), f9_blank_2 n u x1 x2 x3 = some r → ∀ {H : Heap} {locs : List Loc}, va_P D vwCl (cM cI cJ a u) H → va_D A (cM cI cJ a u) → va_S A s.heap H locs → ∀ {ls : Array Slot}, lv_has ls 4 [(0, .ref (a 0)), (1, .int x1), (2, .int x2), (3, .int x3)] → W p l e rm9_blank s m args below meth c H locs 0 0 (MQ below (qW none (cM cI cJ a r) D (ty3 cI cJ cC) A) args s 0 0 A) (F0 m 2 ls []) := by
  have hx := C.1.1
  have hb := C.1.2.1
  have hts := C.1.2.2.2.2
  have hown := C.1.2.2.2.1
  have hin : ∀ w ∈ wsX90, w ∈ ws9_blank := fun w h => List.mem_cons_of_mem _ (List.mem_append_right _ h)
  intro n
  induction n with
  | zero =>
    intro u x1 x2 x3 hf H locs hP hD hS ls hl
    cases hf
  | succ n ih =>
    intro u x1 x2 x3 hf H locs hP hD hS ls hl
    rw [f9_blank_2] at hf
    refine lv_iload_n hx hb dX9_blank_2 rfl (lv_at hl 3 rfl) ?_
    refine lv_iconst (v := (5 : Int32)) hx hb dX9_blank_3 (by decide) ?_
    refine lv_icmp_ge (tgt := 24) hx hb dX9_blank_4 (by decide) (fun c_1 => ?_) (fun c_1 => ?_)
    · replace hf := og_t c_1 hf
      refine lv_iload_n hx hb dX9_blank_24 rfl (lv_at hl 2 rfl) ?_
      refine lv_iconst (v := (3 : Int32)) hx hb dX9_blank_25 (by decide) ?_
      refine lv_icmp_ne (tgt := 38) hx hb dX9_blank_26 (by decide) (fun c_2 => ?_) (fun c_2 => ?_)
      · replace hf := og_f c_2 hf
        exact w9_blank_38 C hK hA u x1 x2 hf hP hD hS (lv_sub hl [0, 1, 2] rfl)
      · replace hf := og_t c_2 hf
        refine lv_aload_n hx hb dX9_blank_29 rfl (lv_at hl 0 rfl) ?_
        refine mg9 (v := .ref (a 7)) C hin hK hP 7 (by decide) (hts (Cond.fieldLink RX9 19 "SchematicTextModel" "numbers" "[J") (List.mem_cons_of_mem _ m9_9)) rfl dX9_blank_30 ?_
        refine lv_iconst (v := (5 : Int32)) hx hb dX9_blank_33 (by decide) ?_
        refine lv_iload_n hx hb dX9_blank_34 rfl (lv_at hl 1 rfl) ?_
        refine lv_imul hx hb dX9_blank_35 ?_
        refine lv_lconst (v := (1 : Int64)) hx hb dX9_blank_36 (by decide) ?_
        obtain ⟨h_3, hf⟩ := og_n hf
        refine ms9_7 C hK hP hD hS (f := (gn u)) rfl h_3 dX9_blank_37 (fun H locs hP hD hS => ?_)
        exact w9_blank_38 C hK hA (sn u (vp_updL (gn u) (((5 : Int32) * x1)).toNatClampNeg (1 : Int64))) x1 x2 hf hP hD hS (lv_sub hl [0, 1, 2] rfl)
    · replace hf := og_f c_1 hf
      refine lv_aload_n hx hb dX9_blank_7 rfl (lv_at hl 0 rfl) ?_
      refine mg9 (v := .ref (a 7)) C hin hK hP 7 (by decide) (hts (Cond.fieldLink RX9 19 "SchematicTextModel" "numbers" "[J") (List.mem_cons_of_mem _ m9_9)) rfl dX9_blank_8 ?_
      refine lv_iconst (v := (5 : Int32)) hx hb dX9_blank_11 (by decide) ?_
      refine lv_iload_n hx hb dX9_blank_12 rfl (lv_at hl 1 rfl) ?_
      refine lv_imul hx hb dX9_blank_13 ?_
      refine lv_iload_n hx hb dX9_blank_14 rfl (lv_at hl 3 rfl) ?_
      refine lv_iadd hx hb dX9_blank_15 ?_
      refine lv_lconst (v := (0 : Int64)) hx hb dX9_blank_16 (by decide) ?_
      obtain ⟨h_4, hf⟩ := og_n hf
      refine ms9_7 C hK hP hD hS (f := (gn u)) rfl h_4 dX9_blank_17 (fun H locs hP hD hS => ?_)
      refine lv_iinc (v := (x3 + (1 : Int32))) (lv' := [(3, .int (x3 + (1 : Int32))), (0, .ref (a 0)), (1, .int x1), (2, .int x2)]) hx hb dX9_blank_18 hl (k := 3) rfl rfl (by decide) rfl (fun ls hl => ?_)
      refine lv_goto (tgt := 2) hx hb dX9_blank_21 (by decide) ?_
      exact ih (sn u (vp_updL (gn u) ((((5 : Int32) * x1) + x3)).toNatClampNeg (0 : Int64))) x1 x2 (x3 + (1 : Int32)) hf hP hD hS (lv_sub hl [1, 2, 3, 0] rfl)
def f9_blank (u : Md) (x1 : Int32) (x2 : Int32) : Option Md := (f9_blank_2 FU u x1 x2 (0 : Int32))
set_option maxHeartbeats 4000000 in
set_option maxRecDepth 100000 in
theorem c9_blank (l : Launch) (D : va_G) (cI cJ cC : ClassId) (a : Nat → Nat) (u : Md) (x1 : Int32) (x2 : Int32) (v : Md) (sz : Nat) (hf : f9_blank u x1 x2 = some v) : Met l yX9_blank ws9_blank rm9_blank (pW D (ty3 cI cJ cC) (cM cI cJ a u) sz [.ref (a 0), .int x1, .int x2]) (qW none (cM cI cJ a v) D (ty3 cI cJ cC) (va_A (cM cI cJ a u) sz)) 0 0 (va_A (cM cI cJ a u) sz) := by
  refine mt_w (cc := cX9_blank) (maxL := 4) (ret := none) (by decide) rfl (Nat.le_of_ble_eq_true rfl) ?_
  intro p e s m below meth c ls A C hl hK hA hP hD hS
  have hl : lv_has ls 4 [(0, .ref (a 0)), (1, .int x1), (2, .int x2)] := hl
  have hx := C.1.1
  have hb := C.1.2.1
  have hts := C.1.2.2.2.2
  have hown := C.1.2.2.2.1
  have hin : ∀ w ∈ wsX90, w ∈ ws9_blank := fun w h => List.mem_cons_of_mem _ (List.mem_append_right _ h)
  unfold f9_blank at hf
  refine lv_iconst (v := (0 : Int32)) hx hb dX9_blank_0 (by decide) ?_
  refine lv_istore_n (lv' := [(3, .int (0 : Int32)), (0, .ref (a 0)), (1, .int x1), (2, .int x2)]) hx hb dX9_blank_1 rfl hl (by decide) rfl (fun ls hl => ?_)
  exact w9_blank_2 C hK hA FU u x1 x2 (0 : Int32) hf hP hD hS (lv_sub hl [1, 2, 3, 0] rfl)
abbrev rm9_nameEnd : Room := { frames := 1, cells := 0, slots := 0, locals := 21 }
noncomputable abbrev ws9_nameEnd : List Cond := Cond.code yX9_nameEnd cX9_nameEnd 3 (some .int) :: WA9
theorem g9_nameEnd {c0 : Cond} : GoodIn (c0 :: WA9) (wsV RX9 155 RX9 yX9_nameEnd ws9_nameEnd) := gd9_v m9_102 m9_103 m9_104 m9_29 m9_94
theorem hd9_nameEnd : yX9_nameEnd.cls = RX9 ∧ yX9_nameEnd.cls ≠ "java/lang/invoke/MethodHandle" ∧ yX9_nameEnd.cls ≠ "java/lang/invoke/VarHandle" ∧ (parseMethodDescriptor yX9_nameEnd.desc).map (fun d => d.parameters.length) = some 1 := by decide +kernel
def f9_nameEnd_2 (u : Md) : Nat → Int32 → Option Int32
  | 0, _ => none
  | n + 1, x2 => ((f9_c u x2).bind fun r_2 => ((f9_isSmall r_2).bind fun r_4 => (if r_4 = 0 then (some x2) else (f9_nameEnd_2 u n (x2 + (1 : Int32))))))
set_option maxHeartbeats 4000000 in
set_option maxRecDepth 100000 in
theorem w9_nameEnd_2 {p : Program} {l : Launch} {e : Env} {s : State} {m : MethodId} {args : Array Value} {below : List Frame} {meth : Method} {c : Code} (C : Cx p s m args meth c cX9_nameEnd 3 ws9_nameEnd RX9 (some .int)) {D : va_G} {cI cJ cC : ClassId} {a : Nat → Nat} {u : Md} (hK : va_K D vwCl (ty3 cI cJ cC) s) (hP : va_P D vwCl (cM cI cJ a u) s.heap) (hD : va_D (fun _ => True) (cM cI cJ a u)) {r : Int32} : ∀ (n : Nat), ∀ (x2 : Int32), f9_nameEnd_2 u n x2 = some r → ∀ {ls : Array Slot}, lv_has ls 3 [(0, .ref (a 0)), (2, .int x2)] → W p l e rm9_nameEnd s m args below meth c s.heap [] 0 0 (MQ below (k2_QcV (.int r)) args s 0 0 (fun _ => False)) (F0 m 2 ls []) := by
  have hx := C.1.1
  have hb := C.1.2.1
  have hts := C.1.2.2.2.2
  have hown := C.1.2.2.2.1
  have hin : ∀ w ∈ wsX90, w ∈ ws9_nameEnd := fun w h => List.mem_cons_of_mem _ (List.mem_append_right _ h)
  intro n
  induction n with
  | zero =>
    intro x2 hf ls hl
    cases hf
  | succ n ih =>
    intro x2 hf ls hl
    rw [f9_nameEnd_2] at hf
    refine lv_aload_n hx hb dX9_nameEnd_2 rfl (lv_at hl 0 rfl) ?_
    refine lv_iload_n hx hb dX9_nameEnd_3 rfl (lv_at hl 1 rfl) ?_
    obtain ⟨r_2, h_1, hf⟩ := og_b hf
    try dsimp only at hf
    refine ck_r (v := .int r_2) (rest := []) C.1 (c9_c l D cI cJ cC a u x2 r_2 _ h_1) (cwV 1 hts g9_c rfl rfl rfl hd9_c ⟨Nat.le_of_ble_eq_true rfl, Nat.le_of_ble_eq_true rfl⟩) hK hP hD (q0 := 0) (ci := 6) rfl rfl rfl rfl hl.1 rfl (Nat.le_of_ble_eq_true rfl) ⟨Nat.zero_le _, Nat.zero_le _⟩ dX9_nameEnd_4 ?_
    obtain ⟨r_4, h_3, hf⟩ := og_b hf
    try dsimp only at hf
    refine ck_s (v := .int r_4) (rest := []) C.1 (c9_isSmall l r_2 r_4 h_3) (va_cwS 1 hts g9_isSmall rfl rfl rfl hd9_isSmall ⟨Nat.le_of_ble_eq_true rfl, Nat.le_of_ble_eq_true rfl⟩) rfl hl.1 rfl (Nat.le_of_ble_eq_true rfl) ⟨Nat.zero_le _, Nat.zero_le _⟩ dX9_nameEnd_7 ?_
    refine lv_if_eq (tgt := 19) hx hb dX9_nameEnd_10 (by decide) (fun c_5 => ?_) (fun c_5 => ?_)
    · replace hf := og_t c_5 hf
      refine lv_iload_n hx hb dX9_nameEnd_19 rfl (lv_at hl 1 rfl) ?_
      cases hf
      exact rt_i C dX9_nameEnd_20
    · replace hf := og_f c_5 hf
      refine lv_iinc (v := (x2 + (1 : Int32))) (lv' := [(2, .int (x2 + (1 : Int32))), (0, .ref (a 0))]) hx hb dX9_nameEnd_13 hl (k := 1) rfl rfl (by decide) rfl (fun ls hl => ?_)
      refine lv_goto (tgt := 2) hx hb dX9_nameEnd_16 (by decide) ?_
      exact ih (x2 + (1 : Int32)) hf (lv_sub hl [1, 0] rfl)
def f9_nameEnd (u : Md) (x1 : Int32) : Option Int32 := (f9_nameEnd_2 u FU x1)
set_option maxHeartbeats 4000000 in
set_option maxRecDepth 100000 in
theorem c9_nameEnd (l : Launch) (D : va_G) (cI cJ cC : ClassId) (a : Nat → Nat) (u : Md) (x1 : Int32) (r : Int32) (sz : Nat) (hf : f9_nameEnd u x1 = some r) : Met l yX9_nameEnd ws9_nameEnd rm9_nameEnd (pW D (ty3 cI cJ cC) (cM cI cJ a u) sz [.ref (a 0), .int x1]) (k2_QcV (.int r)) 0 0 (fun _ => False) := by
  refine mt_r (cc := cX9_nameEnd) (maxL := 3) (ret := (some .int)) (by decide) rfl (Nat.le_of_ble_eq_true rfl) ?_
  intro p e s m below meth c ls C hl hK hP hD
  have hl : lv_has ls 3 [(0, .ref (a 0)), (1, .int x1)] := hl
  have hx := C.1.1
  have hb := C.1.2.1
  have hts := C.1.2.2.2.2
  have hown := C.1.2.2.2.1
  have hin : ∀ w ∈ wsX90, w ∈ ws9_nameEnd := fun w h => List.mem_cons_of_mem _ (List.mem_append_right _ h)
  unfold f9_nameEnd at hf
  refine lv_iload_n hx hb dX9_nameEnd_0 rfl (lv_at hl 1 rfl) ?_
  refine lv_istore_n (lv' := [(2, .int x1), (0, .ref (a 0)), (1, .int x1)]) hx hb dX9_nameEnd_1 rfl hl (by decide) rfl (fun ls hl => ?_)
  exact w9_nameEnd_2 C hK hP hD FU x1 hf (lv_sub hl [1, 0] rfl)
abbrev rm9_kindAt : Room := { frames := 2, cells := 0, slots := 0, locals := 47 }
noncomputable abbrev ws9_kindAt : List Cond := Cond.code yX9_kindAt cX9_kindAt 6 (some .int) :: WA9
theorem g9_kindAt {c0 : Cond} : GoodIn (c0 :: WA9) (wsV RX9 158 RX9 yX9_kindAt ws9_kindAt) := gd9_v m9_105 m9_106 m9_107 m9_29 m9_97
theorem hd9_kindAt : yX9_kindAt.cls = RX9 ∧ yX9_kindAt.cls ≠ "java/lang/invoke/MethodHandle" ∧ yX9_kindAt.cls ≠ "java/lang/invoke/VarHandle" ∧ (parseMethodDescriptor yX9_kindAt.desc).map (fun d => d.parameters.length) = some 2 := by decide +kernel
def f9_kindAt_47 (u : Md) : Nat → Int64 → Int32 → Option Int32
  | 0, _, _ => none
  | n + 1, x3, x5 => (if (9 : Int32) ≤ x5 then (some (9 : Int32)) else ((f9_nameOf x5).bind fun r_6 => (if (lg_cmp r_6 x3) = 0 then (some x5) else (f9_kindAt_47 u n x3 (x5 + (1 : Int32))))))
set_option maxHeartbeats 4000000 in
set_option maxRecDepth 100000 in
theorem w9_kindAt_47 {p : Program} {l : Launch} {e : Env} {s : State} {m : MethodId} {args : Array Value} {below : List Frame} {meth : Method} {c : Code} (C : Cx p s m args meth c cX9_kindAt 6 ws9_kindAt RX9 (some .int)) {D : va_G} {cI cJ cC : ClassId} {a : Nat → Nat} {u : Md} (hK : va_K D vwCl (ty3 cI cJ cC) s) (hP : va_P D vwCl (cM cI cJ a u) s.heap) (hD : va_D (fun _ => True) (cM cI cJ a u)) {r : Int32} : ∀ (n : Nat), ∀ (x3 : Int64) (x5 : Int32), f9_kindAt_47 u n x3 x5 = some r → ∀ {ls : Array Slot}, lv_has ls 6 [(0, .ref (a 0)), (3, .long x3), (5, .int x5)] → W p l e rm9_kindAt s m args below meth c s.heap [] 0 0 (MQ below (k2_QcV (.int r)) args s 0 0 (fun _ => False)) (F0 m 47 ls []) := by
  have hx := C.1.1
  have hb := C.1.2.1
  have hts := C.1.2.2.2.2
  have hown := C.1.2.2.2.1
  have hin : ∀ w ∈ wsX90, w ∈ ws9_kindAt := fun w h => List.mem_cons_of_mem _ (List.mem_append_right _ h)
  intro n
  induction n with
  | zero =>
    intro x3 x5 hf ls hl
    cases hf
  | succ n ih =>
    intro x3 x5 hf ls hl
    rw [f9_kindAt_47] at hf
    refine lv_iload hx hb dX9_kindAt_47 (lv_at hl 2 rfl) ?_
    refine lv_bipush (v := (9 : Int32)) hx hb dX9_kindAt_49 (by decide) ?_
    refine lv_icmp_ge (tgt := 73) hx hb dX9_kindAt_51 (by decide) (fun c_4 => ?_) (fun c_4 => ?_)
    · replace hf := og_t c_4 hf
      refine lv_bipush (v := (9 : Int32)) hx hb dX9_kindAt_73 (by decide) ?_
      cases hf
      exact rt_i C dX9_kindAt_75
    · replace hf := og_f c_4 hf
      refine lv_iload hx hb dX9_kindAt_54 (lv_at hl 2 rfl) ?_
      obtain ⟨r_6, h_5, hf⟩ := og_b hf
      try dsimp only at hf
      refine ck_s (v := .long r_6) (rest := []) C.1 (c9_nameOf l x5 r_6 h_5) (va_cwS 1 hts g9_nameOf rfl rfl rfl hd9_nameOf ⟨Nat.le_of_ble_eq_true rfl, Nat.le_of_ble_eq_true rfl⟩) rfl hl.1 rfl (Nat.le_of_ble_eq_true rfl) ⟨Nat.zero_le _, Nat.zero_le _⟩ dX9_kindAt_56 ?_
      refine lv_lload_n hx hb dX9_kindAt_59 rfl (lv_at hl 1 rfl) ?_
      refine W.lcmp hx hb dX9_kindAt_60 ?_
      refine lv_if_ne (tgt := 67) hx hb dX9_kindAt_61 (by decide) (fun c_7 => ?_) (fun c_7 => ?_)
      · replace hf := og_f c_7 hf
        refine lv_iinc (v := (x5 + (1 : Int32))) (lv' := [(5, .int (x5 + (1 : Int32))), (0, .ref (a 0)), (3, .long x3)]) hx hb dX9_kindAt_67 hl (k := 2) rfl rfl (by decide) rfl (fun ls hl => ?_)
        refine lv_goto (tgt := 47) hx hb dX9_kindAt_70 (by decide) ?_
        exact ih x3 (x5 + (1 : Int32)) hf (lv_sub hl [1, 2, 0] rfl)
      · replace hf := og_t c_7 hf
        refine lv_iload hx hb dX9_kindAt_64 (lv_at hl 2 rfl) ?_
        cases hf
        exact rt_i C dX9_kindAt_66
def f9_kindAt_44 (u : Md) (x3 : Int64) : Option Int32 := (f9_kindAt_47 u FU x3 (0 : Int32))
set_option maxHeartbeats 4000000 in
set_option maxRecDepth 100000 in
theorem w9_kindAt_44 {p : Program} {l : Launch} {e : Env} {s : State} {m : MethodId} {args : Array Value} {below : List Frame} {meth : Method} {c : Code} (C : Cx p s m args meth c cX9_kindAt 6 ws9_kindAt RX9 (some .int)) {D : va_G} {cI cJ cC : ClassId} {a : Nat → Nat} {u : Md} (hK : va_K D vwCl (ty3 cI cJ cC) s) (hP : va_P D vwCl (cM cI cJ a u) s.heap) (hD : va_D (fun _ => True) (cM cI cJ a u)) {r : Int32} : ∀ (x3 : Int64), f9_kindAt_44 u x3 = some r → ∀ {ls : Array Slot}, lv_has ls 6 [(0, .ref (a 0)), (3, .long x3)] → W p l e rm9_kindAt s m args below meth c s.heap [] 0 0 (MQ below (k2_QcV (.int r)) args s 0 0 (fun _ => False)) (F0 m 44 ls []) := by
  have hx := C.1.1
  have hb := C.1.2.1
  have hts := C.1.2.2.2.2
  have hown := C.1.2.2.2.1
  have hin : ∀ w ∈ wsX90, w ∈ ws9_kindAt := fun w h => List.mem_cons_of_mem _ (List.mem_append_right _ h)
  intro x3 hf ls hl
  unfold f9_kindAt_44 at hf
  refine lv_iconst (v := (0 : Int32)) hx hb dX9_kindAt_44 (by decide) ?_
  refine lv_istore (lv' := [(5, .int (0 : Int32)), (0, .ref (a 0)), (3, .long x3)]) hx hb dX9_kindAt_45 hl (by decide) rfl (fun ls hl => ?_)
  exact w9_kindAt_47 C hK hP hD FU x3 (0 : Int32) hf (lv_sub hl [1, 2, 0] rfl)
def f9_kindAt_5 (u : Md) : Nat → Int32 → Int32 → Int64 → Int32 → Option Int32
  | 0, _, _, _, _ => none
  | n + 1, x1, x2, x3, x5 => (if x2 ≤ x5 then (f9_kindAt_44 u x3) else (if (7 : Int32) ≤ (x2 - x1) then (f9_kindAt_44 u x3) else (if x5 < 0 ∨ 4000 ≤ (x5).toNatClampNeg then none else (f9_kindAt_5 u n x1 x2 ((((27 : Int64) * x3) + (((ga u 2) (x5).toNatClampNeg)).toInt64) - (96 : Int64)) (x5 + (1 : Int32))))))
set_option maxHeartbeats 4000000 in
set_option maxRecDepth 100000 in
theorem w9_kindAt_5 {p : Program} {l : Launch} {e : Env} {s : State} {m : MethodId} {args : Array Value} {below : List Frame} {meth : Method} {c : Code} (C : Cx p s m args meth c cX9_kindAt 6 ws9_kindAt RX9 (some .int)) {D : va_G} {cI cJ cC : ClassId} {a : Nat → Nat} {u : Md} (hK : va_K D vwCl (ty3 cI cJ cC) s) (hP : va_P D vwCl (cM cI cJ a u) s.heap) (hD : va_D (fun _ => True) (cM cI cJ a u)) {r : Int32} : ∀ (n : Nat), ∀ (x1 : Int32) (x2 : Int32) (x3 : Int64) (x5 : Int32), f9_kindAt_5 u n x1 x2 x3 x5 = some r → ∀ {ls : Array Slot}, lv_has ls 6 [(0, .ref (a 0)), (1, .int x1), (2, .int x2), (3, .long x3), (5, .int x5)] → W p l e rm9_kindAt s m args below meth c s.heap [] 0 0 (MQ below (k2_QcV (.int r)) args s 0 0 (fun _ => False)) (F0 m 5 ls []) := by
  have hx := C.1.1
  have hb := C.1.2.1
  have hts := C.1.2.2.2.2
  have hown := C.1.2.2.2.1
  have hin : ∀ w ∈ wsX90, w ∈ ws9_kindAt := fun w h => List.mem_cons_of_mem _ (List.mem_append_right _ h)
  intro n
  induction n with
  | zero =>
    intro x1 x2 x3 x5 hf ls hl
    cases hf
  | succ n ih =>
    intro x1 x2 x3 x5 hf ls hl
    rw [f9_kindAt_5] at hf
    refine lv_iload hx hb dX9_kindAt_5 (lv_at hl 4 rfl) ?_
    refine lv_iload_n hx hb dX9_kindAt_7 rfl (lv_at hl 2 rfl) ?_
    refine lv_icmp_ge (tgt := 44) hx hb dX9_kindAt_8 (by decide) (fun c_1 => ?_) (fun c_1 => ?_)
    · replace hf := og_t c_1 hf
      exact w9_kindAt_44 C hK hP hD x3 hf (lv_sub hl [0, 3] rfl)
    · replace hf := og_f c_1 hf
      refine lv_iload_n hx hb dX9_kindAt_11 rfl (lv_at hl 2 rfl) ?_
      refine lv_iload_n hx hb dX9_kindAt_12 rfl (lv_at hl 1 rfl) ?_
      refine lv_isub hx hb dX9_kindAt_13 ?_
      refine lv_bipush (v := (7 : Int32)) hx hb dX9_kindAt_14 (by decide) ?_
      refine lv_icmp_ge (tgt := 44) hx hb dX9_kindAt_16 (by decide) (fun c_2 => ?_) (fun c_2 => ?_)
      · replace hf := og_t c_2 hf
        exact w9_kindAt_44 C hK hP hD x3 hf (lv_sub hl [0, 3] rfl)
      · replace hf := og_f c_2 hf
        refine lv_ldc2 (v := (27 : Int64)) hx hb hown (hts (Cond.constantLong RX9 66 (27)) (List.mem_cons_of_mem _ m9_31)) dX9_kindAt_19 ?_
        refine lv_lload_n hx hb dX9_kindAt_22 rfl (lv_at hl 3 rfl) ?_
        refine lv_lmul hx hb dX9_kindAt_23 ?_
        refine lv_aload_n hx hb dX9_kindAt_24 rfl (lv_at hl 0 rfl) ?_
        refine mg9 (v := .ref (a 2)) C hin hK hP 2 (by decide) (hts (Cond.fieldLink RX9 7 "SchematicTextModel" "text" "[I") (List.mem_cons_of_mem _ m9_5)) rfl dX9_kindAt_25 ?_
        refine lv_iload hx hb dX9_kindAt_28 (lv_at hl 4 rfl) ?_
        obtain ⟨h_3, hf⟩ := og_n hf
        refine va_iald (f := (ga u 2)) hx hb hK hP 1 0 rfl rfl h_3 dX9_kindAt_30 ?_
        refine lv_i2l (v := (((ga u 2) (x5).toNatClampNeg)).toInt64) hx hb dX9_kindAt_31 rfl ?_
        refine lv_ladd hx hb dX9_kindAt_32 ?_
        refine lv_ldc2 (v := (96 : Int64)) hx hb hown (hts (Cond.constantLong RX9 149 (96)) (List.mem_cons_of_mem _ m9_98)) dX9_kindAt_33 ?_
        refine lv_lsub hx hb dX9_kindAt_36 ?_
        refine lv_lstore_n (lv' := [(3, .long ((((27 : Int64) * x3) + (((ga u 2) (x5).toNatClampNeg)).toInt64) - (96 : Int64))), (0, .ref (a 0)), (1, .int x1), (2, .int x2), (5, .int x5)]) hx hb dX9_kindAt_37 rfl hl (by decide) rfl (fun ls hl => ?_)
        refine lv_iinc (v := (x5 + (1 : Int32))) (lv' := [(5, .int (x5 + (1 : Int32))), (3, .long ((((27 : Int64) * x3) + (((ga u 2) (x5).toNatClampNeg)).toInt64) - (96 : Int64))), (0, .ref (a 0)), (1, .int x1), (2, .int x2)]) hx hb dX9_kindAt_38 hl (k := 4) rfl rfl (by decide) rfl (fun ls hl => ?_)
        refine lv_goto (tgt := 5) hx hb dX9_kindAt_41 (by decide) ?_
        exact ih x1 x2 ((((27 : Int64) * x3) + (((ga u 2) (x5).toNatClampNeg)).toInt64) - (96 : Int64)) (x5 + (1 : Int32)) hf (lv_sub hl [2, 3, 4, 1, 0] rfl)
def f9_kindAt (u : Md) (x1 : Int32) (x2 : Int32) : Option Int32 := (f9_kindAt_5 u FU x1 x2 (0 : Int64) x1)
set_option maxHeartbeats 4000000 in
set_option maxRecDepth 100000 in
theorem c9_kindAt (l : Launch) (D : va_G) (cI cJ cC : ClassId) (a : Nat → Nat) (u : Md) (x1 : Int32) (x2 : Int32) (r : Int32) (sz : Nat) (hf : f9_kindAt u x1 x2 = some r) : Met l yX9_kindAt ws9_kindAt rm9_kindAt (pW D (ty3 cI cJ cC) (cM cI cJ a u) sz [.ref (a 0), .int x1, .int x2]) (k2_QcV (.int r)) 0 0 (fun _ => False) := by
  refine mt_r (cc := cX9_kindAt) (maxL := 6) (ret := (some .int)) (by decide) rfl (Nat.le_of_ble_eq_true rfl) ?_
  intro p e s m below meth c ls C hl hK hP hD
  have hl : lv_has ls 6 [(0, .ref (a 0)), (1, .int x1), (2, .int x2)] := hl
  have hx := C.1.1
  have hb := C.1.2.1
  have hts := C.1.2.2.2.2
  have hown := C.1.2.2.2.1
  have hin : ∀ w ∈ wsX90, w ∈ ws9_kindAt := fun w h => List.mem_cons_of_mem _ (List.mem_append_right _ h)
  unfold f9_kindAt at hf
  refine lv_lconst (v := (0 : Int64)) hx hb dX9_kindAt_0 (by decide) ?_
  refine lv_lstore_n (lv' := [(3, .long (0 : Int64)), (0, .ref (a 0)), (1, .int x1), (2, .int x2)]) hx hb dX9_kindAt_1 rfl hl (by decide) rfl (fun ls hl => ?_)
  refine lv_iload_n hx hb dX9_kindAt_2 rfl (lv_at hl 2 rfl) ?_
  refine lv_istore (lv' := [(5, .int x1), (3, .long (0 : Int64)), (0, .ref (a 0)), (1, .int x1), (2, .int x2)]) hx hb dX9_kindAt_3 hl (by decide) rfl (fun ls hl => ?_)
  exact w9_kindAt_5 C hK hP hD FU x1 x2 (0 : Int64) x1 hf (lv_sub hl [2, 3, 4, 1, 0] rfl)
abbrev rm9_beginObject : Room := { frames := 3, cells := 0, slots := 0, locals := 72 }
noncomputable abbrev ws9_beginObject : List Cond := Cond.code yX9_beginObject cX9_beginObject 7 (some .int) :: WA9
theorem g9_beginObject {c0 : Cond} : GoodIn (c0 :: WA9) (wsV RX9 197 RX9 yX9_beginObject ws9_beginObject) := gd9_v m9_141 m9_142 m9_143 m9_29 m9_101
theorem hd9_beginObject : yX9_beginObject.cls = RX9 ∧ yX9_beginObject.cls ≠ "java/lang/invoke/MethodHandle" ∧ yX9_beginObject.cls ≠ "java/lang/invoke/VarHandle" ∧ (parseMethodDescriptor yX9_beginObject.desc).map (fun d => d.parameters.length) = some 3 := by decide +kernel
def f9_beginObject_70 (u : Md) (x1 : Int32) : Option (Int32 × Md) := ((f9_fail u x1).bind fun u_19 => (some ((-1 : Int32), u_19)))
set_option maxHeartbeats 4000000 in
set_option maxRecDepth 100000 in
theorem w9_beginObject_70 {p : Program} {l : Launch} {e : Env} {s : State} {m : MethodId} {args : Array Value} {below : List Frame} {meth : Method} {c : Code} (C : Cx p s m args meth c cX9_beginObject 7 ws9_beginObject RX9 (some .int)) {D : va_G} {cI cJ cC : ClassId} {a : Nat → Nat} {A : Nat → Prop} (hK : va_K D vwCl (ty3 cI cJ cC) s) (hA : ∀ q : Nat, s.heap.size ≤ q → A q) {r : (Int32 × Md)} : ∀ (u : Md) (x1 : Int32), f9_beginObject_70 u x1 = some r → ∀ {H : Heap} {locs : List Loc}, va_P D vwCl (cM cI cJ a u) H → va_D A (cM cI cJ a u) → va_S A s.heap H locs → ∀ {ls : Array Slot}, lv_has ls 7 [(0, .ref (a 0)), (1, .int x1)] → W p l e rm9_beginObject s m args below meth c H locs 0 0 (MQ below (qW (some (.int r.1)) (cM cI cJ a r.2) D (ty3 cI cJ cC) A) args s 0 0 A) (F0 m 70 ls []) := by
  have hx := C.1.1
  have hb := C.1.2.1
  have hts := C.1.2.2.2.2
  have hown := C.1.2.2.2.1
  have hin : ∀ w ∈ wsX90, w ∈ ws9_beginObject := fun w h => List.mem_cons_of_mem _ (List.mem_append_right _ h)
  intro u x1 hf H locs hP hD hS ls hl
  unfold f9_beginObject_70 at hf
  refine lv_aload_n hx hb dX9_beginObject_70 rfl (lv_at hl 0 rfl) ?_
  refine lv_iload_n hx hb dX9_beginObject_71 rfl (lv_at hl 1 rfl) ?_
  obtain ⟨u_19, h_18, hf⟩ := og_b hf
  try dsimp only at hf
  refine ck_w (ov := none) (st1 := []) (rest := []) C.1 (c9_fail l D cI cJ cC a u x1 u_19  _ h_18) (cwV 1 hts g9_fail rfl rfl rfl hd9_fail ⟨Nat.le_of_ble_eq_true rfl, Nat.le_of_ble_eq_true rfl⟩) hK hA hP hD hS (q0 := 0) (ci := 6) rfl rfl rfl rfl hl.1 rfl rfl (Nat.le_of_ble_eq_true rfl) ⟨Nat.zero_le _, Nat.zero_le _⟩ dX9_beginObject_72 (fun H locs hP hD hS => ?_)
  refine lv_iconst (v := (-1 : Int32)) hx hb dX9_beginObject_75 (by decide) ?_
  cases hf
  exact rw_i C hK hP hD hS dX9_beginObject_76
def f9_beginObject_53 (u : Md) (x1 : Int32) (x3 : Int32) (x5 : Int32) (y0 : Int32) : Option (Int32 × Md) := (if y0 = 0 then (f9_beginObject_70 u x1) else (if (gi u 17) = (200 : Int32) then (f9_beginObject_70 u x1) else (if (gi u 15) = 0 then (some (x5, (si (si u 20 (0 : Int32)) 21 (0 : Int32)))) else ((f9_blank (si (si u 20 (0 : Int32)) 21 (0 : Int32)) (gi u 17) x5).bind fun u_16 => (if (gi u_16 17) < 0 ∨ 200 ≤ ((gi u_16 17)).toNatClampNeg then none else (some (x5, (sa u_16 6 (upd (ga u_16 6) ((gi u_16 17)).toNatClampNeg x3)))))))))
set_option maxHeartbeats 4000000 in
set_option maxRecDepth 100000 in
theorem w9_beginObject_53 {p : Program} {l : Launch} {e : Env} {s : State} {m : MethodId} {args : Array Value} {below : List Frame} {meth : Method} {c : Code} (C : Cx p s m args meth c cX9_beginObject 7 ws9_beginObject RX9 (some .int)) {D : va_G} {cI cJ cC : ClassId} {a : Nat → Nat} {A : Nat → Prop} (hK : va_K D vwCl (ty3 cI cJ cC) s) (hA : ∀ q : Nat, s.heap.size ≤ q → A q) {r : (Int32 × Md)} : ∀ (u : Md) (x1 : Int32) (x3 : Int32) (x5 : Int32) (y0 : Int32), f9_beginObject_53 u x1 x3 x5 y0 = some r → ∀ {H : Heap} {locs : List Loc}, va_P D vwCl (cM cI cJ a u) H → va_D A (cM cI cJ a u) → va_S A s.heap H locs → ∀ {ls : Array Slot}, lv_has ls 7 [(0, .ref (a 0)), (1, .int x1), (3, .int x3), (5, .int x5)] → W p l e rm9_beginObject s m args below meth c H locs 0 0 (MQ below (qW (some (.int r.1)) (cM cI cJ a r.2) D (ty3 cI cJ cC) A) args s 0 0 A) (F0 m 53 ls [.int y0]) := by
  have hx := C.1.1
  have hb := C.1.2.1
  have hts := C.1.2.2.2.2
  have hown := C.1.2.2.2.1
  have hin : ∀ w ∈ wsX90, w ∈ ws9_beginObject := fun w h => List.mem_cons_of_mem _ (List.mem_append_right _ h)
  intro u x1 x3 x5 y0 hf H locs hP hD hS ls hl
  unfold f9_beginObject_53 at hf
  refine lv_istore (lv' := [(6, .int y0), (0, .ref (a 0)), (1, .int x1), (3, .int x3), (5, .int x5)]) hx hb dX9_beginObject_53 hl (by decide) rfl (fun ls hl => ?_)
  refine lv_iload hx hb dX9_beginObject_55 (lv_at hl 0 rfl) ?_
  refine lv_if_eq (tgt := 70) hx hb dX9_beginObject_57 (by decide) (fun c_12 => ?_) (fun c_12 => ?_)
  · replace hf := og_t c_12 hf
    exact w9_beginObject_70 C hK hA u x1 hf hP hD hS (lv_sub hl [1, 2] rfl)
  · replace hf := og_f c_12 hf
    refine lv_aload_n hx hb dX9_beginObject_60 rfl (lv_at hl 1 rfl) ?_
    refine mg9 (v := .int (gi u 17)) C hin hK hP 17 (by decide) (hts (Cond.fieldLink RX9 122 "SchematicTextModel" "found" "I") (List.mem_cons_of_mem _ m9_78)) rfl dX9_beginObject_61 ?_
    refine lv_sipush (v := (200 : Int32)) hx hb dX9_beginObject_64 (by decide) ?_
    refine lv_icmp_ne (tgt := 77) hx hb dX9_beginObject_67 (by decide) (fun c_13 => ?_) (fun c_13 => ?_)
    · replace hf := og_f c_13 hf
      refine lv_aload_n hx hb dX9_beginObject_77 rfl (lv_at hl 1 rfl) ?_
      refine lv_iconst (v := (0 : Int32)) hx hb dX9_beginObject_78 (by decide) ?_
      refine mp9_20 C hin hK hP hD hS (hts (Cond.fieldLink RX9 141 "SchematicTextModel" "number" "I") (List.mem_cons_of_mem _ m9_81)) dX9_beginObject_79 (fun H locs hP hD hS => ?_)
      refine lv_aload_n hx hb dX9_beginObject_82 rfl (lv_at hl 1 rfl) ?_
      refine lv_iconst (v := (0 : Int32)) hx hb dX9_beginObject_83 (by decide) ?_
      refine mp9_21 C hin hK hP hD hS (hts (Cond.fieldLink RX9 125 "SchematicTextModel" "words" "I") (List.mem_cons_of_mem _ m9_79)) dX9_beginObject_84 (fun H locs hP hD hS => ?_)
      refine lv_aload_n hx hb dX9_beginObject_87 rfl (lv_at hl 1 rfl) ?_
      refine mg9 (v := .int (gi u 15)) C hin hK hP 15 (by decide) (hts (Cond.fieldLink RX9 119 "SchematicTextModel" "making" "Z") (List.mem_cons_of_mem _ m9_77)) rfl dX9_beginObject_88 ?_
      refine lv_if_eq (tgt := 114) hx hb dX9_beginObject_91 (by decide) (fun c_14 => ?_) (fun c_14 => ?_)
      · replace hf := og_t c_14 hf
        refine lv_iload hx hb dX9_beginObject_114 (lv_at hl 4 rfl) ?_
        cases hf
        exact rw_i C hK hP hD hS dX9_beginObject_116
      · replace hf := og_f c_14 hf
        refine lv_aload_n hx hb dX9_beginObject_94 rfl (lv_at hl 1 rfl) ?_
        refine lv_aload_n hx hb dX9_beginObject_95 rfl (lv_at hl 1 rfl) ?_
        refine mg9 (v := .int (gi u 17)) C hin hK hP 17 (by decide) (hts (Cond.fieldLink RX9 122 "SchematicTextModel" "found" "I") (List.mem_cons_of_mem _ m9_78)) rfl dX9_beginObject_96 ?_
        refine lv_iload hx hb dX9_beginObject_99 (lv_at hl 4 rfl) ?_
        obtain ⟨u_16, h_15, hf⟩ := og_b hf
        try dsimp only at hf
        refine ck_w (ov := none) (st1 := []) (rest := []) C.1 (c9_blank l D cI cJ cC a (si (si u 20 (0 : Int32)) 21 (0 : Int32)) (gi u 17) x5 u_16  _ h_15) (cwV 2 hts g9_blank rfl rfl rfl hd9_blank ⟨Nat.le_of_ble_eq_true rfl, Nat.le_of_ble_eq_true rfl⟩) hK hA hP hD hS (q0 := 0) (ci := 6) rfl rfl rfl rfl hl.1 rfl rfl (Nat.le_of_ble_eq_true rfl) ⟨Nat.zero_le _, Nat.zero_le _⟩ dX9_beginObject_101 (fun H locs hP hD hS => ?_)
        refine lv_aload_n hx hb dX9_beginObject_104 rfl (lv_at hl 1 rfl) ?_
        refine mg9 (v := .ref (a 6)) C hin hK hP 6 (by decide) (hts (Cond.fieldLink RX9 16 "SchematicTextModel" "parents" "[I") (List.mem_cons_of_mem _ m9_7)) rfl dX9_beginObject_105 ?_
        refine lv_aload_n hx hb dX9_beginObject_108 rfl (lv_at hl 1 rfl) ?_
        refine mg9 (v := .int (gi u_16 17)) C hin hK hP 17 (by decide) (hts (Cond.fieldLink RX9 122 "SchematicTextModel" "found" "I") (List.mem_cons_of_mem _ m9_78)) rfl dX9_beginObject_109 ?_
        refine lv_iload_n hx hb dX9_beginObject_112 rfl (lv_at hl 3 rfl) ?_
        obtain ⟨h_17, hf⟩ := og_n hf
        refine ms9_6 C hK hP hD hS (f := (ga u_16 6)) rfl h_17 dX9_beginObject_113 (fun H locs hP hD hS => ?_)
        refine lv_iload hx hb dX9_beginObject_114 (lv_at hl 4 rfl) ?_
        cases hf
        exact rw_i C hK hP hD hS dX9_beginObject_116
    · replace hf := og_t c_13 hf
      exact w9_beginObject_70 C hK hA u x1 hf hP hD hS (lv_sub hl [1, 2] rfl)
def f9_beginObject (u : Md) (x1 : Int32) (x2 : Int32) (x3 : Int32) : Option (Int32 × Md) := ((f9_nameEnd u x1).bind fun r_2 => (if r_2 = x1 then ((f9_fail u x1).bind fun u_11 => (some ((-1 : Int32), u_11))) else ((f9_kindAt u x1 r_2).bind fun r_5 => (if x2 = (-1 : Int32) then (if r_5 = 0 then (f9_beginObject_53 u x1 x3 r_5 (1 : Int32)) else (f9_beginObject_53 u x1 x3 r_5 (0 : Int32))) else ((f9_canBe r_5 x2).bind fun r_8 => (f9_beginObject_53 u x1 x3 r_5 r_8))))))
set_option maxHeartbeats 4000000 in
set_option maxRecDepth 100000 in
theorem c9_beginObject (l : Launch) (D : va_G) (cI cJ cC : ClassId) (a : Nat → Nat) (u : Md) (x1 : Int32) (x2 : Int32) (x3 : Int32) (r : Int32) (v : Md) (sz : Nat) (hf : f9_beginObject u x1 x2 x3 = some (r, v)) : Met l yX9_beginObject ws9_beginObject rm9_beginObject (pW D (ty3 cI cJ cC) (cM cI cJ a u) sz [.ref (a 0), .int x1, .int x2, .int x3]) (qW (some (.int r)) (cM cI cJ a v) D (ty3 cI cJ cC) (va_A (cM cI cJ a u) sz)) 0 0 (va_A (cM cI cJ a u) sz) := by
  refine mt_w (cc := cX9_beginObject) (maxL := 7) (ret := (some .int)) (by decide) rfl (Nat.le_of_ble_eq_true rfl) ?_
  intro p e s m below meth c ls A C hl hK hA hP hD hS
  have hl : lv_has ls 7 [(0, .ref (a 0)), (1, .int x1), (2, .int x2), (3, .int x3)] := hl
  have hx := C.1.1
  have hb := C.1.2.1
  have hts := C.1.2.2.2.2
  have hown := C.1.2.2.2.1
  have hin : ∀ w ∈ wsX90, w ∈ ws9_beginObject := fun w h => List.mem_cons_of_mem _ (List.mem_append_right _ h)
  unfold f9_beginObject at hf
  refine lv_aload_n hx hb dX9_beginObject_0 rfl (lv_at hl 0 rfl) ?_
  refine lv_iload_n hx hb dX9_beginObject_1 rfl (lv_at hl 1 rfl) ?_
  obtain ⟨r_2, h_1, hf⟩ := og_b hf
  try dsimp only at hf
  refine ck_r (v := .int r_2) (rest := []) C.1 (c9_nameEnd l D cI cJ cC a u x1 r_2 _ h_1) (cwV 1 hts g9_nameEnd rfl rfl rfl hd9_nameEnd ⟨Nat.le_of_ble_eq_true rfl, Nat.le_of_ble_eq_true rfl⟩) hK hP hD (q0 := 0) (ci := 6) rfl rfl rfl rfl hl.1 rfl (Nat.le_of_ble_eq_true rfl) ⟨Nat.zero_le _, Nat.zero_le _⟩ dX9_beginObject_2 ?_
  refine lv_istore (lv' := [(4, .int r_2), (0, .ref (a 0)), (1, .int x1), (2, .int x2), (3, .int x3)]) hx hb dX9_beginObject_5 hl (by decide) rfl (fun ls hl => ?_)
  refine lv_iload hx hb dX9_beginObject_7 (lv_at hl 0 rfl) ?_
  refine lv_iload_n hx hb dX9_beginObject_9 rfl (lv_at hl 2 rfl) ?_
  refine lv_icmp_ne (tgt := 20) hx hb dX9_beginObject_10 (by decide) (fun c_3 => ?_) (fun c_3 => ?_)
  · replace hf := og_f c_3 hf
    refine lv_aload_n hx hb dX9_beginObject_20 rfl (lv_at hl 1 rfl) ?_
    refine lv_iload_n hx hb dX9_beginObject_21 rfl (lv_at hl 2 rfl) ?_
    refine lv_iload hx hb dX9_beginObject_22 (lv_at hl 0 rfl) ?_
    obtain ⟨r_5, h_4, hf⟩ := og_b hf
    try dsimp only at hf
    refine ck_r (v := .int r_5) (rest := []) C.1 (c9_kindAt l D cI cJ cC a u x1 r_2 r_5 _ h_4) (cwV 2 hts g9_kindAt rfl rfl rfl hd9_kindAt ⟨Nat.le_of_ble_eq_true rfl, Nat.le_of_ble_eq_true rfl⟩) hK hP hD (q0 := 0) (ci := 6) rfl rfl rfl rfl hl.1 rfl (Nat.le_of_ble_eq_true rfl) ⟨Nat.zero_le _, Nat.zero_le _⟩ dX9_beginObject_24 ?_
    refine lv_istore (lv' := [(5, .int r_5), (4, .int r_2), (0, .ref (a 0)), (1, .int x1), (2, .int x2), (3, .int x3)]) hx hb dX9_beginObject_27 hl (by decide) rfl (fun ls hl => ?_)
    refine lv_iload_n hx hb dX9_beginObject_29 rfl (lv_at hl 4 rfl) ?_
    refine lv_iconst (v := (-1 : Int32)) hx hb dX9_beginObject_30 (by decide) ?_
    refine lv_icmp_ne (tgt := 47) hx hb dX9_beginObject_31 (by decide) (fun c_6 => ?_) (fun c_6 => ?_)
    · replace hf := og_f c_6 hf
      refine lv_iload hx hb dX9_beginObject_47 (lv_at hl 0 rfl) ?_
      refine lv_iload_n hx hb dX9_beginObject_49 rfl (lv_at hl 4 rfl) ?_
      obtain ⟨r_8, h_7, hf⟩ := og_b hf
      try dsimp only at hf
      refine ck_s (v := .int r_8) (rest := []) C.1 (c9_canBe l r_5 x2 r_8 h_7) (va_cwS 2 hts g9_canBe rfl rfl rfl hd9_canBe ⟨Nat.le_of_ble_eq_true rfl, Nat.le_of_ble_eq_true rfl⟩) rfl hl.1 rfl (Nat.le_of_ble_eq_true rfl) ⟨Nat.zero_le _, Nat.zero_le _⟩ dX9_beginObject_50 ?_
      exact w9_beginObject_53 C hK hA u x1 x3 r_5 r_8 hf hP hD hS (lv_sub hl [2, 3, 5, 0] rfl)
    · replace hf := og_t c_6 hf
      refine lv_iload hx hb dX9_beginObject_34 (lv_at hl 0 rfl) ?_
      refine lv_if_ne (tgt := 43) hx hb dX9_beginObject_36 (by decide) (fun c_9 => ?_) (fun c_9 => ?_)
      · replace hf := og_f c_9 hf
        refine lv_iconst (v := (0 : Int32)) hx hb dX9_beginObject_43 (by decide) ?_
        refine lv_goto (tgt := 53) hx hb dX9_beginObject_44 (by decide) ?_
        exact w9_beginObject_53 C hK hA u x1 x3 r_5 (0 : Int32) hf hP hD hS (lv_sub hl [2, 3, 5, 0] rfl)
      · replace hf := og_t c_9 hf
        refine lv_iconst (v := (1 : Int32)) hx hb dX9_beginObject_39 (by decide) ?_
        refine lv_goto (tgt := 53) hx hb dX9_beginObject_40 (by decide) ?_
        exact w9_beginObject_53 C hK hA u x1 x3 r_5 (1 : Int32) hf hP hD hS (lv_sub hl [2, 3, 5, 0] rfl)
  · replace hf := og_t c_3 hf
    refine lv_aload_n hx hb dX9_beginObject_13 rfl (lv_at hl 1 rfl) ?_
    refine lv_iload_n hx hb dX9_beginObject_14 rfl (lv_at hl 2 rfl) ?_
    obtain ⟨u_11, h_10, hf⟩ := og_b hf
    try dsimp only at hf
    refine ck_w (ov := none) (st1 := []) (rest := []) C.1 (c9_fail l D cI cJ cC a u x1 u_11  _ h_10) (cwV 1 hts g9_fail rfl rfl rfl hd9_fail ⟨Nat.le_of_ble_eq_true rfl, Nat.le_of_ble_eq_true rfl⟩) hK hA hP hD hS (q0 := 0) (ci := 6) rfl rfl rfl rfl hl.1 rfl rfl (Nat.le_of_ble_eq_true rfl) ⟨Nat.zero_le _, Nat.zero_le _⟩ dX9_beginObject_15 (fun H locs hP hD hS => ?_)
    refine lv_iconst (v := (-1 : Int32)) hx hb dX9_beginObject_18 (by decide) ?_
    cases hf
    exact rw_i C hK hP hD hS dX9_beginObject_19
abbrev rm9_keep : Room := { frames := 1, cells := 0, slots := 0, locals := 21 }
noncomputable abbrev ws9_keep : List Cond := Cond.code yX9_keep cX9_keep 4 none :: WA9
theorem g9_keep {c0 : Cond} : GoodIn (c0 :: WA9) (wsV RX9 172 RX9 yX9_keep ws9_keep) := gd9_v m9_116 m9_117 m9_118 m9_29 m9_113
theorem hd9_keep : yX9_keep.cls = RX9 ∧ yX9_keep.cls ≠ "java/lang/invoke/MethodHandle" ∧ yX9_keep.cls ≠ "java/lang/invoke/VarHandle" ∧ (parseMethodDescriptor yX9_keep.desc).map (fun d => d.parameters.length) = some 2 := by decide +kernel
def f9_keep_78 (k2 : Md → Int32 → Int32 → Option Md) (u : Md) (x2 : Int32) (x3 : Int32) : Option Md := (k2 u x2 (x3 + (1 : Int32)))
set_option maxHeartbeats 4000000 in
set_option maxRecDepth 100000 in
theorem w9_keep_78 {p : Program} {l : Launch} {e : Env} {s : State} {m : MethodId} {args : Array Value} {below : List Frame} {meth : Method} {c : Code} (C : Cx p s m args meth c cX9_keep 4 ws9_keep RX9 none) {D : va_G} {cI cJ cC : ClassId} {a : Nat → Nat} {A : Nat → Prop} (hK : va_K D vwCl (ty3 cI cJ cC) s) (hA : ∀ q : Nat, s.heap.size ≤ q → A q) {r : Md} (k2 : Md → Int32 → Int32 → Option Md) (ih2 : ∀ (u : Md) (x2 : Int32) (x3 : Int32), k2 u x2 x3 = some r → ∀ {H : Heap} {locs : List Loc}, va_P D vwCl (cM cI cJ a u) H → va_D A (cM cI cJ a u) → va_S A s.heap H locs → ∀ {ls : Array Slot}, lv_has ls 4 [(0, .ref (a 0)), (2, .int x2), (3, .int x3)] → W p l e rm9_keep s m args below meth c H locs 0 0 (MQ below (qW none (cM cI cJ a r) D (ty3 cI cJ cC) A) args s 0 0 A) (F0 m 2 ls [])) : ∀ (u : Md) (x2 : Int32) (x3 : Int32), f9_keep_78 k2 u x2 x3 = some r → ∀ {H : Heap} {locs : List Loc}, va_P D vwCl (cM cI cJ a u) H → va_D A (cM cI cJ a u) → va_S A s.heap H locs → ∀ {ls : Array Slot}, lv_has ls 4 [(0, .ref (a 0)), (2, .int x2), (3, .int x3)] → W p l e rm9_keep s m args below meth c H locs 0 0 (MQ below (qW none (cM cI cJ a r) D (ty3 cI cJ cC) A) args s 0 0 A) (F0 m 78 ls []) := by
  have hx := C.1.1
  have hb := C.1.2.1
  have hts := C.1.2.2.2.2
  have hown := C.1.2.2.2.1
  have hin : ∀ w ∈ wsX90, w ∈ ws9_keep := fun w h => List.mem_cons_of_mem _ (List.mem_append_right _ h)
  intro u x2 x3 hf H locs hP hD hS ls hl
  unfold f9_keep_78 at hf
  refine lv_iinc (v := (x3 + (1 : Int32))) (lv' := [(3, .int (x3 + (1 : Int32))), (0, .ref (a 0)), (2, .int x2)]) hx hb dX9_keep_78 hl (k := 2) rfl rfl (by decide) rfl (fun ls hl => ?_)
  refine lv_goto (tgt := 2) hx hb dX9_keep_81 (by decide) ?_
  exact ih2 u x2 (x3 + (1 : Int32)) hf hP hD hS (lv_sub hl [1, 2, 0] rfl)
def f9_keep_68 (k2 : Md → Int32 → Int32 → Option Md) (u : Md) (x2 : Int32) (x3 : Int32) : Option Md := (f9_keep_78 k2 (si u 22 ((gi u 22) + (1 : Int32))) x2 x3)
set_option maxHeartbeats 4000000 in
set_option maxRecDepth 100000 in
theorem w9_keep_68 {p : Program} {l : Launch} {e : Env} {s : State} {m : MethodId} {args : Array Value} {below : List Frame} {meth : Method} {c : Code} (C : Cx p s m args meth c cX9_keep 4 ws9_keep RX9 none) {D : va_G} {cI cJ cC : ClassId} {a : Nat → Nat} {A : Nat → Prop} (hK : va_K D vwCl (ty3 cI cJ cC) s) (hA : ∀ q : Nat, s.heap.size ≤ q → A q) {r : Md} (k2 : Md → Int32 → Int32 → Option Md) (ih2 : ∀ (u : Md) (x2 : Int32) (x3 : Int32), k2 u x2 x3 = some r → ∀ {H : Heap} {locs : List Loc}, va_P D vwCl (cM cI cJ a u) H → va_D A (cM cI cJ a u) → va_S A s.heap H locs → ∀ {ls : Array Slot}, lv_has ls 4 [(0, .ref (a 0)), (2, .int x2), (3, .int x3)] → W p l e rm9_keep s m args below meth c H locs 0 0 (MQ below (qW none (cM cI cJ a r) D (ty3 cI cJ cC) A) args s 0 0 A) (F0 m 2 ls [])) : ∀ (u : Md) (x2 : Int32) (x3 : Int32), f9_keep_68 k2 u x2 x3 = some r → ∀ {H : Heap} {locs : List Loc}, va_P D vwCl (cM cI cJ a u) H → va_D A (cM cI cJ a u) → va_S A s.heap H locs → ∀ {ls : Array Slot}, lv_has ls 4 [(0, .ref (a 0)), (2, .int x2), (3, .int x3)] → W p l e rm9_keep s m args below meth c H locs 0 0 (MQ below (qW none (cM cI cJ a r) D (ty3 cI cJ cC) A) args s 0 0 A) (F0 m 68 ls []) := by
  have hx := C.1.1
  have hb := C.1.2.1
  have hts := C.1.2.2.2.2
  have hown := C.1.2.2.2.1
  have hin : ∀ w ∈ wsX90, w ∈ ws9_keep := fun w h => List.mem_cons_of_mem _ (List.mem_append_right _ h)
  intro u x2 x3 hf H locs hP hD hS ls hl
  unfold f9_keep_68 at hf
  refine lv_aload_n hx hb dX9_keep_68 rfl (lv_at hl 0 rfl) ?_
  refine lv_dup hx hb dX9_keep_69 rfl ?_
  refine mg9 (v := .int (gi u 22)) C hin hK hP 22 (by decide) (hts (Cond.fieldLink RX9 169 "SchematicTextModel" "keeps" "I") (List.mem_cons_of_mem _ m9_114)) rfl dX9_keep_70 ?_
  refine lv_iconst (v := (1 : Int32)) hx hb dX9_keep_73 (by decide) ?_
  refine lv_iadd hx hb dX9_keep_74 ?_
  refine mp9_22 C hin hK hP hD hS (hts (Cond.fieldLink RX9 169 "SchematicTextModel" "keeps" "I") (List.mem_cons_of_mem _ m9_114)) dX9_keep_75 (fun H locs hP hD hS => ?_)
  exact w9_keep_78 C hK hA k2 (fun _ _ _ h9 => ih2 _ _ _ h9) (si u 22 ((gi u 22) + (1 : Int32))) x2 x3 hf hP hD hS (lv_sub hl [0, 1, 2] rfl)
def f9_keep_2 : Nat → Md → Int32 → Int32 → Option Md
  | 0, _, _, _ => none
  | n + 1, u, x2, x3 => (if x2 ≤ x3 then (some u) else (if (gi u 18) = (-1 : Int32) then (if (gi u 22) = (2000 : Int32) then ((f9_fail u x3).bind fun u_10 => (f9_keep_78 (f9_keep_2 n) u_10 x2 x3)) else (if (gi u 15) = 0 then (f9_keep_68 (f9_keep_2 n) u x2 x3) else (if x3 < 0 ∨ 4000 ≤ (x3).toNatClampNeg then none else (if (gi u 22) < 0 ∨ 2000 ≤ ((gi u 22)).toNatClampNeg then none else (if (gi u 17) < 0 ∨ 200 ≤ ((gi u 17)).toNatClampNeg then none else (if (gi u 17) < 0 ∨ 200 ≤ ((gi u 17)).toNatClampNeg then none else (f9_keep_68 (f9_keep_2 n) (sa (sa u 12 (upd (ga u 12) ((gi u 22)).toNatClampNeg ((ga u 2) (x3).toNatClampNeg))) 11 (upd (ga u 11) ((gi u 17)).toNatClampNeg (((ga u 11) ((gi u 17)).toNatClampNeg) + (1 : Int32)))) x2 x3))))))) else (some u)))
set_option maxHeartbeats 4000000 in
set_option maxRecDepth 100000 in
theorem w9_keep_2 {p : Program} {l : Launch} {e : Env} {s : State} {m : MethodId} {args : Array Value} {below : List Frame} {meth : Method} {c : Code} (C : Cx p s m args meth c cX9_keep 4 ws9_keep RX9 none) {D : va_G} {cI cJ cC : ClassId} {a : Nat → Nat} {A : Nat → Prop} (hK : va_K D vwCl (ty3 cI cJ cC) s) (hA : ∀ q : Nat, s.heap.size ≤ q → A q) {r : Md} : ∀ (n : Nat), ∀ (u : Md) (x2 : Int32) (x3 : Int32), f9_keep_2 n u x2 x3 = some r → ∀ {H : Heap} {locs : List Loc}, va_P D vwCl (cM cI cJ a u) H → va_D A (cM cI cJ a u) → va_S A s.heap H locs → ∀ {ls : Array Slot}, lv_has ls 4 [(0, .ref (a 0)), (2, .int x2), (3, .int x3)] → W p l e rm9_keep s m args below meth c H locs 0 0 (MQ below (qW none (cM cI cJ a r) D (ty3 cI cJ cC) A) args s 0 0 A) (F0 m 2 ls []) := by
  have hx := C.1.1
  have hb := C.1.2.1
  have hts := C.1.2.2.2.2
  have hown := C.1.2.2.2.1
  have hin : ∀ w ∈ wsX90, w ∈ ws9_keep := fun w h => List.mem_cons_of_mem _ (List.mem_append_right _ h)
  intro n
  induction n with
  | zero =>
    intro u x2 x3 hf H locs hP hD hS ls hl
    cases hf
  | succ n ih =>
    intro u x2 x3 hf H locs hP hD hS ls hl
    rw [f9_keep_2] at hf
    refine lv_iload_n hx hb dX9_keep_2 rfl (lv_at hl 2 rfl) ?_
    refine lv_iload_n hx hb dX9_keep_3 rfl (lv_at hl 1 rfl) ?_
    refine lv_icmp_ge (tgt := 84) hx hb dX9_keep_4 (by decide) (fun c_1 => ?_) (fun c_1 => ?_)
    · replace hf := og_t c_1 hf
      cases hf
      exact rw_v C hK hP hD hS dX9_keep_84
    · replace hf := og_f c_1 hf
      refine lv_aload_n hx hb dX9_keep_7 rfl (lv_at hl 0 rfl) ?_
      refine mg9 (v := .int (gi u 18)) C hin hK hP 18 (by decide) (hts (Cond.fieldLink RX9 84 "SchematicTextModel" "fault" "I") (List.mem_cons_of_mem _ m9_48)) rfl dX9_keep_8 ?_
      refine lv_iconst (v := (-1 : Int32)) hx hb dX9_keep_11 (by decide) ?_
      refine lv_icmp_ne (tgt := 84) hx hb dX9_keep_12 (by decide) (fun c_2 => ?_) (fun c_2 => ?_)
      · replace hf := og_f c_2 hf
        cases hf
        exact rw_v C hK hP hD hS dX9_keep_84
      · replace hf := og_t c_2 hf
        refine lv_aload_n hx hb dX9_keep_15 rfl (lv_at hl 0 rfl) ?_
        refine mg9 (v := .int (gi u 22)) C hin hK hP 22 (by decide) (hts (Cond.fieldLink RX9 169 "SchematicTextModel" "keeps" "I") (List.mem_cons_of_mem _ m9_114)) rfl dX9_keep_16 ?_
        refine lv_sipush (v := (2000 : Int32)) hx hb dX9_keep_19 (by decide) ?_
        refine lv_icmp_ne (tgt := 33) hx hb dX9_keep_22 (by decide) (fun c_3 => ?_) (fun c_3 => ?_)
        · replace hf := og_f c_3 hf
          refine lv_aload_n hx hb dX9_keep_33 rfl (lv_at hl 0 rfl) ?_
          refine mg9 (v := .int (gi u 15)) C hin hK hP 15 (by decide) (hts (Cond.fieldLink RX9 119 "SchematicTextModel" "making" "Z") (List.mem_cons_of_mem _ m9_77)) rfl dX9_keep_34 ?_
          refine lv_if_eq (tgt := 68) hx hb dX9_keep_37 (by decide) (fun c_4 => ?_) (fun c_4 => ?_)
          · replace hf := og_t c_4 hf
            exact w9_keep_68 C hK hA (f9_keep_2 n) (fun _ _ _ h9 => ih _ _ _ h9) u x2 x3 hf hP hD hS (lv_sub hl [0, 1, 2] rfl)
          · replace hf := og_f c_4 hf
            refine lv_aload_n hx hb dX9_keep_40 rfl (lv_at hl 0 rfl) ?_
            refine mg9 (v := .ref (a 12)) C hin hK hP 12 (by decide) (hts (Cond.fieldLink RX9 35 "SchematicTextModel" "kept" "[I") (List.mem_cons_of_mem _ m9_14)) rfl dX9_keep_41 ?_
            refine lv_aload_n hx hb dX9_keep_44 rfl (lv_at hl 0 rfl) ?_
            refine mg9 (v := .int (gi u 22)) C hin hK hP 22 (by decide) (hts (Cond.fieldLink RX9 169 "SchematicTextModel" "keeps" "I") (List.mem_cons_of_mem _ m9_114)) rfl dX9_keep_45 ?_
            refine lv_aload_n hx hb dX9_keep_48 rfl (lv_at hl 0 rfl) ?_
            refine mg9 (v := .ref (a 2)) C hin hK hP 2 (by decide) (hts (Cond.fieldLink RX9 7 "SchematicTextModel" "text" "[I") (List.mem_cons_of_mem _ m9_5)) rfl dX9_keep_49 ?_
            refine lv_iload_n hx hb dX9_keep_52 rfl (lv_at hl 2 rfl) ?_
            obtain ⟨h_5, hf⟩ := og_n hf
            refine va_iald (f := (ga u 2)) hx hb hK hP 1 0 rfl rfl h_5 dX9_keep_53 ?_
            obtain ⟨h_6, hf⟩ := og_n hf
            refine ms9_12 C hK hP hD hS (f := (ga u 12)) rfl h_6 dX9_keep_54 (fun H locs hP hD hS => ?_)
            refine lv_aload_n hx hb dX9_keep_55 rfl (lv_at hl 0 rfl) ?_
            refine mg9 (v := .ref (a 11)) C hin hK hP 11 (by decide) (hts (Cond.fieldLink RX9 32 "SchematicTextModel" "keptSize" "[I") (List.mem_cons_of_mem _ m9_13)) rfl dX9_keep_56 ?_
            refine lv_aload_n hx hb dX9_keep_59 rfl (lv_at hl 0 rfl) ?_
            refine mg9 (v := .int (gi u 17)) C hin hK hP 17 (by decide) (hts (Cond.fieldLink RX9 122 "SchematicTextModel" "found" "I") (List.mem_cons_of_mem _ m9_78)) rfl dX9_keep_60 ?_
            refine lv_dup2_11 hx hb dX9_keep_63 rfl rfl ?_
            obtain ⟨h_7, hf⟩ := og_n hf
            refine va_iald (f := (ga u 11)) hx hb hK hP 8 0 rfl rfl h_7 dX9_keep_64 ?_
            refine lv_iconst (v := (1 : Int32)) hx hb dX9_keep_65 (by decide) ?_
            refine lv_iadd hx hb dX9_keep_66 ?_
            obtain ⟨h_8, hf⟩ := og_n hf
            refine ms9_11 C hK hP hD hS (f := (ga u 11)) rfl h_8 dX9_keep_67 (fun H locs hP hD hS => ?_)
            exact w9_keep_68 C hK hA (f9_keep_2 n) (fun _ _ _ h9 => ih _ _ _ h9) (sa (sa u 12 (upd (ga u 12) ((gi u 22)).toNatClampNeg ((ga u 2) (x3).toNatClampNeg))) 11 (upd (ga u 11) ((gi u 17)).toNatClampNeg (((ga u 11) ((gi u 17)).toNatClampNeg) + (1 : Int32)))) x2 x3 hf hP hD hS (lv_sub hl [0, 1, 2] rfl)
        · replace hf := og_t c_3 hf
          refine lv_aload_n hx hb dX9_keep_25 rfl (lv_at hl 0 rfl) ?_
          refine lv_iload_n hx hb dX9_keep_26 rfl (lv_at hl 2 rfl) ?_
          obtain ⟨u_10, h_9, hf⟩ := og_b hf
          try dsimp only at hf
          refine ck_w (ov := none) (st1 := []) (rest := []) C.1 (c9_fail l D cI cJ cC a u x3 u_10  _ h_9) (cwV 1 hts g9_fail rfl rfl rfl hd9_fail ⟨Nat.le_of_ble_eq_true rfl, Nat.le_of_ble_eq_true rfl⟩) hK hA hP hD hS (q0 := 0) (ci := 6) rfl rfl rfl rfl hl.1 rfl rfl (Nat.le_of_ble_eq_true rfl) ⟨Nat.zero_le _, Nat.zero_le _⟩ dX9_keep_27 (fun H locs hP hD hS => ?_)
          refine lv_goto (tgt := 78) hx hb dX9_keep_30 (by decide) ?_
          exact w9_keep_78 C hK hA (f9_keep_2 n) (fun _ _ _ h9 => ih _ _ _ h9) u_10 x2 x3 hf hP hD hS (lv_sub hl [0, 1, 2] rfl)
def f9_keep (u : Md) (x1 : Int32) (x2 : Int32) : Option Md := (f9_keep_2 FU u x2 x1)
set_option maxHeartbeats 4000000 in
set_option maxRecDepth 100000 in
theorem c9_keep (l : Launch) (D : va_G) (cI cJ cC : ClassId) (a : Nat → Nat) (u : Md) (x1 : Int32) (x2 : Int32) (v : Md) (sz : Nat) (hf : f9_keep u x1 x2 = some v) : Met l yX9_keep ws9_keep rm9_keep (pW D (ty3 cI cJ cC) (cM cI cJ a u) sz [.ref (a 0), .int x1, .int x2]) (qW none (cM cI cJ a v) D (ty3 cI cJ cC) (va_A (cM cI cJ a u) sz)) 0 0 (va_A (cM cI cJ a u) sz) := by
  refine mt_w (cc := cX9_keep) (maxL := 4) (ret := none) (by decide) rfl (Nat.le_of_ble_eq_true rfl) ?_
  intro p e s m below meth c ls A C hl hK hA hP hD hS
  have hl : lv_has ls 4 [(0, .ref (a 0)), (1, .int x1), (2, .int x2)] := hl
  have hx := C.1.1
  have hb := C.1.2.1
  have hts := C.1.2.2.2.2
  have hown := C.1.2.2.2.1
  have hin : ∀ w ∈ wsX90, w ∈ ws9_keep := fun w h => List.mem_cons_of_mem _ (List.mem_append_right _ h)
  unfold f9_keep at hf
  refine lv_iload_n hx hb dX9_keep_0 rfl (lv_at hl 1 rfl) ?_
  refine lv_istore_n (lv' := [(3, .int x1), (0, .ref (a 0)), (1, .int x1), (2, .int x2)]) hx hb dX9_keep_1 rfl hl (by decide) rfl (fun ls hl => ?_)
  exact w9_keep_2 C hK hA FU u x2 x1 hf hP hD hS (lv_sub hl [1, 3, 0] rfl)
abbrev rm9_passText : Room := { frames := 2, cells := 0, slots := 0, locals := 44 }
noncomputable abbrev ws9_passText : List Cond := Cond.code yX9_passText cX9_passText 4 (some .int) :: WA9
theorem g9_passText {c0 : Cond} : GoodIn (c0 :: WA9) (wsV RX9 175 RX9 yX9_passText ws9_passText) := gd9_v m9_120 m9_121 m9_122 m9_29 m9_115
theorem hd9_passText : yX9_passText.cls = RX9 ∧ yX9_passText.cls ≠ "java/lang/invoke/MethodHandle" ∧ yX9_passText.cls ≠ "java/lang/invoke/VarHandle" ∧ (parseMethodDescriptor yX9_passText.desc).map (fun d => d.parameters.length) = some 1 := by decide +kernel
def f9_passText_130 (k4 : Md → Int32 → Option (Int32 × Md)) (u : Md) (y0 : Int32) (y1 : Int32) : Option (Int32 × Md) := (k4 u (y1 + y0))
set_option maxHeartbeats 4000000 in
set_option maxRecDepth 100000 in
theorem w9_passText_130 {p : Program} {l : Launch} {e : Env} {s : State} {m : MethodId} {args : Array Value} {below : List Frame} {meth : Method} {c : Code} (C : Cx p s m args meth c cX9_passText 4 ws9_passText RX9 (some .int)) {D : va_G} {cI cJ cC : ClassId} {a : Nat → Nat} {A : Nat → Prop} (hK : va_K D vwCl (ty3 cI cJ cC) s) (hA : ∀ q : Nat, s.heap.size ≤ q → A q) {r : (Int32 × Md)} (k4 : Md → Int32 → Option (Int32 × Md)) (ih4 : ∀ (u : Md) (x2 : Int32), k4 u x2 = some r → ∀ {H : Heap} {locs : List Loc}, va_P D vwCl (cM cI cJ a u) H → va_D A (cM cI cJ a u) → va_S A s.heap H locs → ∀ {ls : Array Slot}, lv_has ls 4 [(0, .ref (a 0)), (2, .int x2)] → W p l e rm9_passText s m args below meth c H locs 0 0 (MQ below (qW (some (.int r.1)) (cM cI cJ a r.2) D (ty3 cI cJ cC) A) args s 0 0 A) (F0 m 4 ls [])) : ∀ (u : Md) (y0 : Int32) (y1 : Int32), f9_passText_130 k4 u y0 y1 = some r → ∀ {H : Heap} {locs : List Loc}, va_P D vwCl (cM cI cJ a u) H → va_D A (cM cI cJ a u) → va_S A s.heap H locs → ∀ {ls : Array Slot}, lv_has ls 4 [(0, .ref (a 0))] → W p l e rm9_passText s m args below meth c H locs 0 0 (MQ below (qW (some (.int r.1)) (cM cI cJ a r.2) D (ty3 cI cJ cC) A) args s 0 0 A) (F0 m 130 ls [.int y0, .int y1]) := by
  have hx := C.1.1
  have hb := C.1.2.1
  have hts := C.1.2.2.2.2
  have hown := C.1.2.2.2.1
  have hin : ∀ w ∈ wsX90, w ∈ ws9_passText := fun w h => List.mem_cons_of_mem _ (List.mem_append_right _ h)
  intro u y0 y1 hf H locs hP hD hS ls hl
  unfold f9_passText_130 at hf
  refine lv_iadd hx hb dX9_passText_130 ?_
  refine lv_istore_n (lv' := [(2, .int (y1 + y0)), (0, .ref (a 0))]) hx hb dX9_passText_131 rfl hl (by decide) rfl (fun ls hl => ?_)
  refine lv_goto (tgt := 4) hx hb dX9_passText_132 (by decide) ?_
  exact ih4 u (y1 + y0) hf hP hD hS (lv_sub hl [1, 0] rfl)
def f9_passText_120 (k4 : Md → Int32 → Option (Int32 × Md)) (u : Md) (x2 : Int32) (x3 : Int32) : Option (Int32 × Md) := (if x3 = 0 then (f9_passText_130 k4 u (1 : Int32) x2) else (f9_passText_130 k4 u (2 : Int32) x2))
set_option maxHeartbeats 4000000 in
set_option maxRecDepth 100000 in
theorem w9_passText_120 {p : Program} {l : Launch} {e : Env} {s : State} {m : MethodId} {args : Array Value} {below : List Frame} {meth : Method} {c : Code} (C : Cx p s m args meth c cX9_passText 4 ws9_passText RX9 (some .int)) {D : va_G} {cI cJ cC : ClassId} {a : Nat → Nat} {A : Nat → Prop} (hK : va_K D vwCl (ty3 cI cJ cC) s) (hA : ∀ q : Nat, s.heap.size ≤ q → A q) {r : (Int32 × Md)} (k4 : Md → Int32 → Option (Int32 × Md)) (ih4 : ∀ (u : Md) (x2 : Int32), k4 u x2 = some r → ∀ {H : Heap} {locs : List Loc}, va_P D vwCl (cM cI cJ a u) H → va_D A (cM cI cJ a u) → va_S A s.heap H locs → ∀ {ls : Array Slot}, lv_has ls 4 [(0, .ref (a 0)), (2, .int x2)] → W p l e rm9_passText s m args below meth c H locs 0 0 (MQ below (qW (some (.int r.1)) (cM cI cJ a r.2) D (ty3 cI cJ cC) A) args s 0 0 A) (F0 m 4 ls [])) : ∀ (u : Md) (x2 : Int32) (x3 : Int32), f9_passText_120 k4 u x2 x3 = some r → ∀ {H : Heap} {locs : List Loc}, va_P D vwCl (cM cI cJ a u) H → va_D A (cM cI cJ a u) → va_S A s.heap H locs → ∀ {ls : Array Slot}, lv_has ls 4 [(0, .ref (a 0)), (2, .int x2), (3, .int x3)] → W p l e rm9_passText s m args below meth c H locs 0 0 (MQ below (qW (some (.int r.1)) (cM cI cJ a r.2) D (ty3 cI cJ cC) A) args s 0 0 A) (F0 m 120 ls []) := by
  have hx := C.1.1
  have hb := C.1.2.1
  have hts := C.1.2.2.2.2
  have hown := C.1.2.2.2.1
  have hin : ∀ w ∈ wsX90, w ∈ ws9_passText := fun w h => List.mem_cons_of_mem _ (List.mem_append_right _ h)
  intro u x2 x3 hf H locs hP hD hS ls hl
  unfold f9_passText_120 at hf
  refine lv_iload_n hx hb dX9_passText_120 rfl (lv_at hl 1 rfl) ?_
  refine lv_iload_n hx hb dX9_passText_121 rfl (lv_at hl 2 rfl) ?_
  refine lv_if_eq (tgt := 129) hx hb dX9_passText_122 (by decide) (fun c_31 => ?_) (fun c_31 => ?_)
  · replace hf := og_t c_31 hf
    refine lv_iconst (v := (1 : Int32)) hx hb dX9_passText_129 (by decide) ?_
    exact w9_passText_130 C hK hA k4 (fun _ _ h9 => ih4 _ _ h9) u (1 : Int32) x2 hf hP hD hS (lv_sub hl [0] rfl)
  · replace hf := og_f c_31 hf
    refine lv_iconst (v := (2 : Int32)) hx hb dX9_passText_125 (by decide) ?_
    refine lv_goto (tgt := 130) hx hb dX9_passText_126 (by decide) ?_
    exact w9_passText_130 C hK hA k4 (fun _ _ h9 => ih4 _ _ h9) u (2 : Int32) x2 hf hP hD hS (lv_sub hl [0] rfl)
def f9_passText_98 (k4 : Md → Int32 → Option (Int32 × Md)) (u : Md) (x2 : Int32) (x3 : Int32) : Option (Int32 × Md) := (if x3 = 0 then (f9_passText_120 k4 u x2 x3) else (if (gi u 18) = (-1 : Int32) then ((f9_keep u (x2 + (1 : Int32)) (x2 + (2 : Int32))).bind fun u_30 => (f9_passText_120 k4 u_30 x2 x3)) else (f9_passText_120 k4 u x2 x3)))
set_option maxHeartbeats 4000000 in
set_option maxRecDepth 100000 in
theorem w9_passText_98 {p : Program} {l : Launch} {e : Env} {s : State} {m : MethodId} {args : Array Value} {below : List Frame} {meth : Method} {c : Code} (C : Cx p s m args meth c cX9_passText 4 ws9_passText RX9 (some .int)) {D : va_G} {cI cJ cC : ClassId} {a : Nat → Nat} {A : Nat → Prop} (hK : va_K D vwCl (ty3 cI cJ cC) s) (hA : ∀ q : Nat, s.heap.size ≤ q → A q) {r : (Int32 × Md)} (k4 : Md → Int32 → Option (Int32 × Md)) (ih4 : ∀ (u : Md) (x2 : Int32), k4 u x2 = some r → ∀ {H : Heap} {locs : List Loc}, va_P D vwCl (cM cI cJ a u) H → va_D A (cM cI cJ a u) → va_S A s.heap H locs → ∀ {ls : Array Slot}, lv_has ls 4 [(0, .ref (a 0)), (2, .int x2)] → W p l e rm9_passText s m args below meth c H locs 0 0 (MQ below (qW (some (.int r.1)) (cM cI cJ a r.2) D (ty3 cI cJ cC) A) args s 0 0 A) (F0 m 4 ls [])) : ∀ (u : Md) (x2 : Int32) (x3 : Int32), f9_passText_98 k4 u x2 x3 = some r → ∀ {H : Heap} {locs : List Loc}, va_P D vwCl (cM cI cJ a u) H → va_D A (cM cI cJ a u) → va_S A s.heap H locs → ∀ {ls : Array Slot}, lv_has ls 4 [(0, .ref (a 0)), (2, .int x2), (3, .int x3)] → W p l e rm9_passText s m args below meth c H locs 0 0 (MQ below (qW (some (.int r.1)) (cM cI cJ a r.2) D (ty3 cI cJ cC) A) args s 0 0 A) (F0 m 98 ls []) := by
  have hx := C.1.1
  have hb := C.1.2.1
  have hts := C.1.2.2.2.2
  have hown := C.1.2.2.2.1
  have hin : ∀ w ∈ wsX90, w ∈ ws9_passText := fun w h => List.mem_cons_of_mem _ (List.mem_append_right _ h)
  intro u x2 x3 hf H locs hP hD hS ls hl
  unfold f9_passText_98 at hf
  refine lv_iload_n hx hb dX9_passText_98 rfl (lv_at hl 2 rfl) ?_
  refine lv_if_eq (tgt := 120) hx hb dX9_passText_99 (by decide) (fun c_27 => ?_) (fun c_27 => ?_)
  · replace hf := og_t c_27 hf
    exact w9_passText_120 C hK hA k4 (fun _ _ h9 => ih4 _ _ h9) u x2 x3 hf hP hD hS (lv_sub hl [0, 1, 2] rfl)
  · replace hf := og_f c_27 hf
    refine lv_aload_n hx hb dX9_passText_102 rfl (lv_at hl 0 rfl) ?_
    refine mg9 (v := .int (gi u 18)) C hin hK hP 18 (by decide) (hts (Cond.fieldLink RX9 84 "SchematicTextModel" "fault" "I") (List.mem_cons_of_mem _ m9_48)) rfl dX9_passText_103 ?_
    refine lv_iconst (v := (-1 : Int32)) hx hb dX9_passText_106 (by decide) ?_
    refine lv_icmp_ne (tgt := 120) hx hb dX9_passText_107 (by decide) (fun c_28 => ?_) (fun c_28 => ?_)
    · replace hf := og_f c_28 hf
      exact w9_passText_120 C hK hA k4 (fun _ _ h9 => ih4 _ _ h9) u x2 x3 hf hP hD hS (lv_sub hl [0, 1, 2] rfl)
    · replace hf := og_t c_28 hf
      refine lv_aload_n hx hb dX9_passText_110 rfl (lv_at hl 0 rfl) ?_
      refine lv_iload_n hx hb dX9_passText_111 rfl (lv_at hl 1 rfl) ?_
      refine lv_iconst (v := (1 : Int32)) hx hb dX9_passText_112 (by decide) ?_
      refine lv_iadd hx hb dX9_passText_113 ?_
      refine lv_iload_n hx hb dX9_passText_114 rfl (lv_at hl 1 rfl) ?_
      refine lv_iconst (v := (2 : Int32)) hx hb dX9_passText_115 (by decide) ?_
      refine lv_iadd hx hb dX9_passText_116 ?_
      obtain ⟨u_30, h_29, hf⟩ := og_b hf
      try dsimp only at hf
      refine ck_w (ov := none) (st1 := []) (rest := []) C.1 (c9_keep l D cI cJ cC a u (x2 + (1 : Int32)) (x2 + (2 : Int32)) u_30  _ h_29) (cwV 2 hts g9_keep rfl rfl rfl hd9_keep ⟨Nat.le_of_ble_eq_true rfl, Nat.le_of_ble_eq_true rfl⟩) hK hA hP hD hS (q0 := 0) (ci := 6) rfl rfl rfl rfl hl.1 rfl rfl (Nat.le_of_ble_eq_true rfl) ⟨Nat.zero_le _, Nat.zero_le _⟩ dX9_passText_117 (fun H locs hP hD hS => ?_)
      exact w9_passText_120 C hK hA k4 (fun _ _ h9 => ih4 _ _ h9) u_30 x2 x3 hf hP hD hS (lv_sub hl [0, 1, 2] rfl)
def f9_passText_63 (k4 : Md → Int32 → Option (Int32 × Md)) (u : Md) (x2 : Int32) (x3 : Int32) : Option (Int32 × Md) := (if x3 = 0 then (f9_passText_98 k4 u x2 x3) else ((f9_c u (x2 + (1 : Int32))).bind fun r_20 => (if r_20 = (34 : Int32) then (f9_passText_98 k4 u x2 x3) else ((f9_c u (x2 + (1 : Int32))).bind fun r_23 => (if r_23 = (92 : Int32) then (f9_passText_98 k4 u x2 x3) else ((f9_fail u (x2 + (1 : Int32))).bind fun u_26 => (f9_passText_98 k4 u_26 x2 x3)))))))
set_option maxHeartbeats 4000000 in
set_option maxRecDepth 100000 in
theorem w9_passText_63 {p : Program} {l : Launch} {e : Env} {s : State} {m : MethodId} {args : Array Value} {below : List Frame} {meth : Method} {c : Code} (C : Cx p s m args meth c cX9_passText 4 ws9_passText RX9 (some .int)) {D : va_G} {cI cJ cC : ClassId} {a : Nat → Nat} {A : Nat → Prop} (hK : va_K D vwCl (ty3 cI cJ cC) s) (hA : ∀ q : Nat, s.heap.size ≤ q → A q) {r : (Int32 × Md)} (k4 : Md → Int32 → Option (Int32 × Md)) (ih4 : ∀ (u : Md) (x2 : Int32), k4 u x2 = some r → ∀ {H : Heap} {locs : List Loc}, va_P D vwCl (cM cI cJ a u) H → va_D A (cM cI cJ a u) → va_S A s.heap H locs → ∀ {ls : Array Slot}, lv_has ls 4 [(0, .ref (a 0)), (2, .int x2)] → W p l e rm9_passText s m args below meth c H locs 0 0 (MQ below (qW (some (.int r.1)) (cM cI cJ a r.2) D (ty3 cI cJ cC) A) args s 0 0 A) (F0 m 4 ls [])) : ∀ (u : Md) (x2 : Int32) (x3 : Int32), f9_passText_63 k4 u x2 x3 = some r → ∀ {H : Heap} {locs : List Loc}, va_P D vwCl (cM cI cJ a u) H → va_D A (cM cI cJ a u) → va_S A s.heap H locs → ∀ {ls : Array Slot}, lv_has ls 4 [(0, .ref (a 0)), (2, .int x2), (3, .int x3)] → W p l e rm9_passText s m args below meth c H locs 0 0 (MQ below (qW (some (.int r.1)) (cM cI cJ a r.2) D (ty3 cI cJ cC) A) args s 0 0 A) (F0 m 63 ls []) := by
  have hx := C.1.1
  have hb := C.1.2.1
  have hts := C.1.2.2.2.2
  have hown := C.1.2.2.2.1
  have hin : ∀ w ∈ wsX90, w ∈ ws9_passText := fun w h => List.mem_cons_of_mem _ (List.mem_append_right _ h)
  intro u x2 x3 hf H locs hP hD hS ls hl
  unfold f9_passText_63 at hf
  refine lv_iload_n hx hb dX9_passText_63 rfl (lv_at hl 2 rfl) ?_
  refine lv_if_eq (tgt := 98) hx hb dX9_passText_64 (by decide) (fun c_18 => ?_) (fun c_18 => ?_)
  · replace hf := og_t c_18 hf
    exact w9_passText_98 C hK hA k4 (fun _ _ h9 => ih4 _ _ h9) u x2 x3 hf hP hD hS (lv_sub hl [0, 1, 2] rfl)
  · replace hf := og_f c_18 hf
    refine lv_aload_n hx hb dX9_passText_67 rfl (lv_at hl 0 rfl) ?_
    refine lv_iload_n hx hb dX9_passText_68 rfl (lv_at hl 1 rfl) ?_
    refine lv_iconst (v := (1 : Int32)) hx hb dX9_passText_69 (by decide) ?_
    refine lv_iadd hx hb dX9_passText_70 ?_
    obtain ⟨r_20, h_19, hf⟩ := og_b hf
    try dsimp only at hf
    refine ck_r (v := .int r_20) (rest := []) C.1 (c9_c l D cI cJ cC a u (x2 + (1 : Int32)) r_20 _ h_19) (cwV 1 hts g9_c rfl rfl rfl hd9_c ⟨Nat.le_of_ble_eq_true rfl, Nat.le_of_ble_eq_true rfl⟩) hK hP hD (q0 := 0) (ci := 6) rfl rfl rfl rfl hl.1 rfl (Nat.le_of_ble_eq_true rfl) ⟨Nat.zero_le _, Nat.zero_le _⟩ dX9_passText_71 ?_
    refine lv_bipush (v := (34 : Int32)) hx hb dX9_passText_74 (by decide) ?_
    refine lv_icmp_eq (tgt := 98) hx hb dX9_passText_76 (by decide) (fun c_21 => ?_) (fun c_21 => ?_)
    · replace hf := og_t c_21 hf
      exact w9_passText_98 C hK hA k4 (fun _ _ h9 => ih4 _ _ h9) u x2 x3 hf hP hD hS (lv_sub hl [0, 1, 2] rfl)
    · replace hf := og_f c_21 hf
      refine lv_aload_n hx hb dX9_passText_79 rfl (lv_at hl 0 rfl) ?_
      refine lv_iload_n hx hb dX9_passText_80 rfl (lv_at hl 1 rfl) ?_
      refine lv_iconst (v := (1 : Int32)) hx hb dX9_passText_81 (by decide) ?_
      refine lv_iadd hx hb dX9_passText_82 ?_
      obtain ⟨r_23, h_22, hf⟩ := og_b hf
      try dsimp only at hf
      refine ck_r (v := .int r_23) (rest := []) C.1 (c9_c l D cI cJ cC a u (x2 + (1 : Int32)) r_23 _ h_22) (cwV 1 hts g9_c rfl rfl rfl hd9_c ⟨Nat.le_of_ble_eq_true rfl, Nat.le_of_ble_eq_true rfl⟩) hK hP hD (q0 := 0) (ci := 6) rfl rfl rfl rfl hl.1 rfl (Nat.le_of_ble_eq_true rfl) ⟨Nat.zero_le _, Nat.zero_le _⟩ dX9_passText_83 ?_
      refine lv_bipush (v := (92 : Int32)) hx hb dX9_passText_86 (by decide) ?_
      refine lv_icmp_eq (tgt := 98) hx hb dX9_passText_88 (by decide) (fun c_24 => ?_) (fun c_24 => ?_)
      · replace hf := og_t c_24 hf
        exact w9_passText_98 C hK hA k4 (fun _ _ h9 => ih4 _ _ h9) u x2 x3 hf hP hD hS (lv_sub hl [0, 1, 2] rfl)
      · replace hf := og_f c_24 hf
        refine lv_aload_n hx hb dX9_passText_91 rfl (lv_at hl 0 rfl) ?_
        refine lv_iload_n hx hb dX9_passText_92 rfl (lv_at hl 1 rfl) ?_
        refine lv_iconst (v := (1 : Int32)) hx hb dX9_passText_93 (by decide) ?_
        refine lv_iadd hx hb dX9_passText_94 ?_
        obtain ⟨u_26, h_25, hf⟩ := og_b hf
        try dsimp only at hf
        refine ck_w (ov := none) (st1 := []) (rest := []) C.1 (c9_fail l D cI cJ cC a u (x2 + (1 : Int32)) u_26  _ h_25) (cwV 1 hts g9_fail rfl rfl rfl hd9_fail ⟨Nat.le_of_ble_eq_true rfl, Nat.le_of_ble_eq_true rfl⟩) hK hA hP hD hS (q0 := 0) (ci := 6) rfl rfl rfl rfl hl.1 rfl rfl (Nat.le_of_ble_eq_true rfl) ⟨Nat.zero_le _, Nat.zero_le _⟩ dX9_passText_95 (fun H locs hP hD hS => ?_)
        exact w9_passText_98 C hK hA k4 (fun _ _ h9 => ih4 _ _ h9) u_26 x2 x3 hf hP hD hS (lv_sub hl [0, 1, 2] rfl)
def f9_passText_37 (k4 : Md → Int32 → Option (Int32 × Md)) (u : Md) (x2 : Int32) (y0 : Int32) : Option (Int32 × Md) := ((f9_c u x2).bind fun r_12 => (if r_12 = (-1 : Int32) then ((f9_fail u x2).bind fun u_17 => (f9_passText_63 k4 u_17 x2 y0)) else ((f9_keep u x2 (x2 + (1 : Int32))).bind fun u_15 => (f9_passText_63 k4 u_15 x2 y0))))
set_option maxHeartbeats 4000000 in
set_option maxRecDepth 100000 in
theorem w9_passText_37 {p : Program} {l : Launch} {e : Env} {s : State} {m : MethodId} {args : Array Value} {below : List Frame} {meth : Method} {c : Code} (C : Cx p s m args meth c cX9_passText 4 ws9_passText RX9 (some .int)) {D : va_G} {cI cJ cC : ClassId} {a : Nat → Nat} {A : Nat → Prop} (hK : va_K D vwCl (ty3 cI cJ cC) s) (hA : ∀ q : Nat, s.heap.size ≤ q → A q) {r : (Int32 × Md)} (k4 : Md → Int32 → Option (Int32 × Md)) (ih4 : ∀ (u : Md) (x2 : Int32), k4 u x2 = some r → ∀ {H : Heap} {locs : List Loc}, va_P D vwCl (cM cI cJ a u) H → va_D A (cM cI cJ a u) → va_S A s.heap H locs → ∀ {ls : Array Slot}, lv_has ls 4 [(0, .ref (a 0)), (2, .int x2)] → W p l e rm9_passText s m args below meth c H locs 0 0 (MQ below (qW (some (.int r.1)) (cM cI cJ a r.2) D (ty3 cI cJ cC) A) args s 0 0 A) (F0 m 4 ls [])) : ∀ (u : Md) (x2 : Int32) (y0 : Int32), f9_passText_37 k4 u x2 y0 = some r → ∀ {H : Heap} {locs : List Loc}, va_P D vwCl (cM cI cJ a u) H → va_D A (cM cI cJ a u) → va_S A s.heap H locs → ∀ {ls : Array Slot}, lv_has ls 4 [(0, .ref (a 0)), (2, .int x2)] → W p l e rm9_passText s m args below meth c H locs 0 0 (MQ below (qW (some (.int r.1)) (cM cI cJ a r.2) D (ty3 cI cJ cC) A) args s 0 0 A) (F0 m 37 ls [.int y0]) := by
  have hx := C.1.1
  have hb := C.1.2.1
  have hts := C.1.2.2.2.2
  have hown := C.1.2.2.2.1
  have hin : ∀ w ∈ wsX90, w ∈ ws9_passText := fun w h => List.mem_cons_of_mem _ (List.mem_append_right _ h)
  intro u x2 y0 hf H locs hP hD hS ls hl
  unfold f9_passText_37 at hf
  refine lv_istore_n (lv' := [(3, .int y0), (0, .ref (a 0)), (2, .int x2)]) hx hb dX9_passText_37 rfl hl (by decide) rfl (fun ls hl => ?_)
  refine lv_aload_n hx hb dX9_passText_38 rfl (lv_at hl 1 rfl) ?_
  refine lv_iload_n hx hb dX9_passText_39 rfl (lv_at hl 2 rfl) ?_
  obtain ⟨r_12, h_11, hf⟩ := og_b hf
  try dsimp only at hf
  refine ck_r (v := .int r_12) (rest := []) C.1 (c9_c l D cI cJ cC a u x2 r_12 _ h_11) (cwV 1 hts g9_c rfl rfl rfl hd9_c ⟨Nat.le_of_ble_eq_true rfl, Nat.le_of_ble_eq_true rfl⟩) hK hP hD (q0 := 0) (ci := 6) rfl rfl rfl rfl hl.1 rfl (Nat.le_of_ble_eq_true rfl) ⟨Nat.zero_le _, Nat.zero_le _⟩ dX9_passText_40 ?_
  refine lv_iconst (v := (-1 : Int32)) hx hb dX9_passText_43 (by decide) ?_
  refine lv_icmp_ne (tgt := 55) hx hb dX9_passText_44 (by decide) (fun c_13 => ?_) (fun c_13 => ?_)
  · replace hf := og_f c_13 hf
    refine lv_aload_n hx hb dX9_passText_55 rfl (lv_at hl 1 rfl) ?_
    refine lv_iload_n hx hb dX9_passText_56 rfl (lv_at hl 2 rfl) ?_
    refine lv_iload_n hx hb dX9_passText_57 rfl (lv_at hl 2 rfl) ?_
    refine lv_iconst (v := (1 : Int32)) hx hb dX9_passText_58 (by decide) ?_
    refine lv_iadd hx hb dX9_passText_59 ?_
    obtain ⟨u_15, h_14, hf⟩ := og_b hf
    try dsimp only at hf
    refine ck_w (ov := none) (st1 := []) (rest := []) C.1 (c9_keep l D cI cJ cC a u x2 (x2 + (1 : Int32)) u_15  _ h_14) (cwV 2 hts g9_keep rfl rfl rfl hd9_keep ⟨Nat.le_of_ble_eq_true rfl, Nat.le_of_ble_eq_true rfl⟩) hK hA hP hD hS (q0 := 0) (ci := 6) rfl rfl rfl rfl hl.1 rfl rfl (Nat.le_of_ble_eq_true rfl) ⟨Nat.zero_le _, Nat.zero_le _⟩ dX9_passText_60 (fun H locs hP hD hS => ?_)
    exact w9_passText_63 C hK hA k4 (fun _ _ h9 => ih4 _ _ h9) u_15 x2 y0 hf hP hD hS (lv_sub hl [1, 2, 0] rfl)
  · replace hf := og_t c_13 hf
    refine lv_aload_n hx hb dX9_passText_47 rfl (lv_at hl 1 rfl) ?_
    refine lv_iload_n hx hb dX9_passText_48 rfl (lv_at hl 2 rfl) ?_
    obtain ⟨u_17, h_16, hf⟩ := og_b hf
    try dsimp only at hf
    refine ck_w (ov := none) (st1 := []) (rest := []) C.1 (c9_fail l D cI cJ cC a u x2 u_17  _ h_16) (cwV 1 hts g9_fail rfl rfl rfl hd9_fail ⟨Nat.le_of_ble_eq_true rfl, Nat.le_of_ble_eq_true rfl⟩) hK hA hP hD hS (q0 := 0) (ci := 6) rfl rfl rfl rfl hl.1 rfl rfl (Nat.le_of_ble_eq_true rfl) ⟨Nat.zero_le _, Nat.zero_le _⟩ dX9_passText_49 (fun H locs hP hD hS => ?_)
    refine lv_goto (tgt := 63) hx hb dX9_passText_52 (by decide) ?_
    exact w9_passText_63 C hK hA k4 (fun _ _ h9 => ih4 _ _ h9) u_17 x2 y0 hf hP hD hS (lv_sub hl [1, 2, 0] rfl)
def f9_passText_151 (u : Md) (x2 : Int32) : Option (Int32 × Md) := (some ((x2 + (1 : Int32)), u))
set_option maxHeartbeats 4000000 in
set_option maxRecDepth 100000 in
theorem w9_passText_151 {p : Program} {l : Launch} {e : Env} {s : State} {m : MethodId} {args : Array Value} {below : List Frame} {meth : Method} {c : Code} (C : Cx p s m args meth c cX9_passText 4 ws9_passText RX9 (some .int)) {D : va_G} {cI cJ cC : ClassId} {a : Nat → Nat} {A : Nat → Prop} (hK : va_K D vwCl (ty3 cI cJ cC) s) (hA : ∀ q : Nat, s.heap.size ≤ q → A q) {r : (Int32 × Md)} : ∀ (u : Md) (x2 : Int32), f9_passText_151 u x2 = some r → ∀ {H : Heap} {locs : List Loc}, va_P D vwCl (cM cI cJ a u) H → va_D A (cM cI cJ a u) → va_S A s.heap H locs → ∀ {ls : Array Slot}, lv_has ls 4 [(0, .ref (a 0)), (2, .int x2)] → W p l e rm9_passText s m args below meth c H locs 0 0 (MQ below (qW (some (.int r.1)) (cM cI cJ a r.2) D (ty3 cI cJ cC) A) args s 0 0 A) (F0 m 151 ls []) := by
  have hx := C.1.1
  have hb := C.1.2.1
  have hts := C.1.2.2.2.2
  have hown := C.1.2.2.2.1
  have hin : ∀ w ∈ wsX90, w ∈ ws9_passText := fun w h => List.mem_cons_of_mem _ (List.mem_append_right _ h)
  intro u x2 hf H locs hP hD hS ls hl
  unfold f9_passText_151 at hf
  refine lv_iload_n hx hb dX9_passText_151 rfl (lv_at hl 1 rfl) ?_
  refine lv_iconst (v := (1 : Int32)) hx hb dX9_passText_152 (by decide) ?_
  refine lv_iadd hx hb dX9_passText_153 ?_
  cases hf
  exact rw_i C hK hP hD hS dX9_passText_154
def f9_passText_135 (u : Md) (x2 : Int32) : Option (Int32 × Md) := (if (gi u 18) = (-1 : Int32) then ((f9_keep u x2 (x2 + (1 : Int32))).bind fun u_10 => (f9_passText_151 u_10 x2)) else (f9_passText_151 u x2))
set_option maxHeartbeats 4000000 in
set_option maxRecDepth 100000 in
theorem w9_passText_135 {p : Program} {l : Launch} {e : Env} {s : State} {m : MethodId} {args : Array Value} {below : List Frame} {meth : Method} {c : Code} (C : Cx p s m args meth c cX9_passText 4 ws9_passText RX9 (some .int)) {D : va_G} {cI cJ cC : ClassId} {a : Nat → Nat} {A : Nat → Prop} (hK : va_K D vwCl (ty3 cI cJ cC) s) (hA : ∀ q : Nat, s.heap.size ≤ q → A q) {r : (Int32 × Md)} : ∀ (u : Md) (x2 : Int32), f9_passText_135 u x2 = some r → ∀ {H : Heap} {locs : List Loc}, va_P D vwCl (cM cI cJ a u) H → va_D A (cM cI cJ a u) → va_S A s.heap H locs → ∀ {ls : Array Slot}, lv_has ls 4 [(0, .ref (a 0)), (2, .int x2)] → W p l e rm9_passText s m args below meth c H locs 0 0 (MQ below (qW (some (.int r.1)) (cM cI cJ a r.2) D (ty3 cI cJ cC) A) args s 0 0 A) (F0 m 135 ls []) := by
  have hx := C.1.1
  have hb := C.1.2.1
  have hts := C.1.2.2.2.2
  have hown := C.1.2.2.2.1
  have hin : ∀ w ∈ wsX90, w ∈ ws9_passText := fun w h => List.mem_cons_of_mem _ (List.mem_append_right _ h)
  intro u x2 hf H locs hP hD hS ls hl
  unfold f9_passText_135 at hf
  refine lv_aload_n hx hb dX9_passText_135 rfl (lv_at hl 0 rfl) ?_
  refine mg9 (v := .int (gi u 18)) C hin hK hP 18 (by decide) (hts (Cond.fieldLink RX9 84 "SchematicTextModel" "fault" "I") (List.mem_cons_of_mem _ m9_48)) rfl dX9_passText_136 ?_
  refine lv_iconst (v := (-1 : Int32)) hx hb dX9_passText_139 (by decide) ?_
  refine lv_icmp_ne (tgt := 151) hx hb dX9_passText_140 (by decide) (fun c_8 => ?_) (fun c_8 => ?_)
  · replace hf := og_f c_8 hf
    exact w9_passText_151 C hK hA u x2 hf hP hD hS (lv_sub hl [0, 1] rfl)
  · replace hf := og_t c_8 hf
    refine lv_aload_n hx hb dX9_passText_143 rfl (lv_at hl 0 rfl) ?_
    refine lv_iload_n hx hb dX9_passText_144 rfl (lv_at hl 1 rfl) ?_
    refine lv_iload_n hx hb dX9_passText_145 rfl (lv_at hl 1 rfl) ?_
    refine lv_iconst (v := (1 : Int32)) hx hb dX9_passText_146 (by decide) ?_
    refine lv_iadd hx hb dX9_passText_147 ?_
    obtain ⟨u_10, h_9, hf⟩ := og_b hf
    try dsimp only at hf
    refine ck_w (ov := none) (st1 := []) (rest := []) C.1 (c9_keep l D cI cJ cC a u x2 (x2 + (1 : Int32)) u_10  _ h_9) (cwV 2 hts g9_keep rfl rfl rfl hd9_keep ⟨Nat.le_of_ble_eq_true rfl, Nat.le_of_ble_eq_true rfl⟩) hK hA hP hD hS (q0 := 0) (ci := 6) rfl rfl rfl rfl hl.1 rfl rfl (Nat.le_of_ble_eq_true rfl) ⟨Nat.zero_le _, Nat.zero_le _⟩ dX9_passText_148 (fun H locs hP hD hS => ?_)
    exact w9_passText_151 C hK hA u_10 x2 hf hP hD hS (lv_sub hl [0, 1] rfl)
def f9_passText_4 : Nat → Md → Int32 → Option (Int32 × Md)
  | 0, _, _ => none
  | n + 1, u, x2 => (if (gi u 18) = (-1 : Int32) then ((f9_c u x2).bind fun r_3 => (if r_3 = (34 : Int32) then (f9_passText_135 u x2) else ((f9_c u x2).bind fun r_6 => (if r_6 = (92 : Int32) then (f9_passText_37 (f9_passText_4 n) u x2 (1 : Int32)) else (f9_passText_37 (f9_passText_4 n) u x2 (0 : Int32)))))) else (f9_passText_135 u x2))
set_option maxHeartbeats 4000000 in
set_option maxRecDepth 100000 in
theorem w9_passText_4 {p : Program} {l : Launch} {e : Env} {s : State} {m : MethodId} {args : Array Value} {below : List Frame} {meth : Method} {c : Code} (C : Cx p s m args meth c cX9_passText 4 ws9_passText RX9 (some .int)) {D : va_G} {cI cJ cC : ClassId} {a : Nat → Nat} {A : Nat → Prop} (hK : va_K D vwCl (ty3 cI cJ cC) s) (hA : ∀ q : Nat, s.heap.size ≤ q → A q) {r : (Int32 × Md)} : ∀ (n : Nat), ∀ (u : Md) (x2 : Int32), f9_passText_4 n u x2 = some r → ∀ {H : Heap} {locs : List Loc}, va_P D vwCl (cM cI cJ a u) H → va_D A (cM cI cJ a u) → va_S A s.heap H locs → ∀ {ls : Array Slot}, lv_has ls 4 [(0, .ref (a 0)), (2, .int x2)] → W p l e rm9_passText s m args below meth c H locs 0 0 (MQ below (qW (some (.int r.1)) (cM cI cJ a r.2) D (ty3 cI cJ cC) A) args s 0 0 A) (F0 m 4 ls []) := by
  have hx := C.1.1
  have hb := C.1.2.1
  have hts := C.1.2.2.2.2
  have hown := C.1.2.2.2.1
  have hin : ∀ w ∈ wsX90, w ∈ ws9_passText := fun w h => List.mem_cons_of_mem _ (List.mem_append_right _ h)
  intro n
  induction n with
  | zero =>
    intro u x2 hf H locs hP hD hS ls hl
    cases hf
  | succ n ih =>
    intro u x2 hf H locs hP hD hS ls hl
    rw [f9_passText_4] at hf
    refine lv_aload_n hx hb dX9_passText_4 rfl (lv_at hl 0 rfl) ?_
    refine mg9 (v := .int (gi u 18)) C hin hK hP 18 (by decide) (hts (Cond.fieldLink RX9 84 "SchematicTextModel" "fault" "I") (List.mem_cons_of_mem _ m9_48)) rfl dX9_passText_5 ?_
    refine lv_iconst (v := (-1 : Int32)) hx hb dX9_passText_8 (by decide) ?_
    refine lv_icmp_ne (tgt := 135) hx hb dX9_passText_9 (by decide) (fun c_1 => ?_) (fun c_1 => ?_)
    · replace hf := og_f c_1 hf
      exact w9_passText_135 C hK hA u x2 hf hP hD hS (lv_sub hl [0, 1] rfl)
    · replace hf := og_t c_1 hf
      refine lv_aload_n hx hb dX9_passText_12 rfl (lv_at hl 0 rfl) ?_
      refine lv_iload_n hx hb dX9_passText_13 rfl (lv_at hl 1 rfl) ?_
      obtain ⟨r_3, h_2, hf⟩ := og_b hf
      try dsimp only at hf
      refine ck_r (v := .int r_3) (rest := []) C.1 (c9_c l D cI cJ cC a u x2 r_3 _ h_2) (cwV 1 hts g9_c rfl rfl rfl hd9_c ⟨Nat.le_of_ble_eq_true rfl, Nat.le_of_ble_eq_true rfl⟩) hK hP hD (q0 := 0) (ci := 6) rfl rfl rfl rfl hl.1 rfl (Nat.le_of_ble_eq_true rfl) ⟨Nat.zero_le _, Nat.zero_le _⟩ dX9_passText_14 ?_
      refine lv_bipush (v := (34 : Int32)) hx hb dX9_passText_17 (by decide) ?_
      refine lv_icmp_eq (tgt := 135) hx hb dX9_passText_19 (by decide) (fun c_4 => ?_) (fun c_4 => ?_)
      · replace hf := og_t c_4 hf
        exact w9_passText_135 C hK hA u x2 hf hP hD hS (lv_sub hl [0, 1] rfl)
      · replace hf := og_f c_4 hf
        refine lv_aload_n hx hb dX9_passText_22 rfl (lv_at hl 0 rfl) ?_
        refine lv_iload_n hx hb dX9_passText_23 rfl (lv_at hl 1 rfl) ?_
        obtain ⟨r_6, h_5, hf⟩ := og_b hf
        try dsimp only at hf
        refine ck_r (v := .int r_6) (rest := []) C.1 (c9_c l D cI cJ cC a u x2 r_6 _ h_5) (cwV 1 hts g9_c rfl rfl rfl hd9_c ⟨Nat.le_of_ble_eq_true rfl, Nat.le_of_ble_eq_true rfl⟩) hK hP hD (q0 := 0) (ci := 6) rfl rfl rfl rfl hl.1 rfl (Nat.le_of_ble_eq_true rfl) ⟨Nat.zero_le _, Nat.zero_le _⟩ dX9_passText_24 ?_
        refine lv_bipush (v := (92 : Int32)) hx hb dX9_passText_27 (by decide) ?_
        refine lv_icmp_ne (tgt := 36) hx hb dX9_passText_29 (by decide) (fun c_7 => ?_) (fun c_7 => ?_)
        · replace hf := og_f c_7 hf
          refine lv_iconst (v := (0 : Int32)) hx hb dX9_passText_36 (by decide) ?_
          exact w9_passText_37 C hK hA (f9_passText_4 n) (fun _ _ h9 => ih _ _ h9) u x2 (0 : Int32) hf hP hD hS (lv_sub hl [0, 1] rfl)
        · replace hf := og_t c_7 hf
          refine lv_iconst (v := (1 : Int32)) hx hb dX9_passText_32 (by decide) ?_
          refine lv_goto (tgt := 37) hx hb dX9_passText_33 (by decide) ?_
          exact w9_passText_37 C hK hA (f9_passText_4 n) (fun _ _ h9 => ih _ _ h9) u x2 (1 : Int32) hf hP hD hS (lv_sub hl [0, 1] rfl)
def f9_passText (u : Md) (x1 : Int32) : Option (Int32 × Md) := (f9_passText_4 FU u (x1 + (1 : Int32)))
set_option maxHeartbeats 4000000 in
set_option maxRecDepth 100000 in
theorem c9_passText (l : Launch) (D : va_G) (cI cJ cC : ClassId) (a : Nat → Nat) (u : Md) (x1 : Int32) (r : Int32) (v : Md) (sz : Nat) (hf : f9_passText u x1 = some (r, v)) : Met l yX9_passText ws9_passText rm9_passText (pW D (ty3 cI cJ cC) (cM cI cJ a u) sz [.ref (a 0), .int x1]) (qW (some (.int r)) (cM cI cJ a v) D (ty3 cI cJ cC) (va_A (cM cI cJ a u) sz)) 0 0 (va_A (cM cI cJ a u) sz) := by
  refine mt_w (cc := cX9_passText) (maxL := 4) (ret := (some .int)) (by decide) rfl (Nat.le_of_ble_eq_true rfl) ?_
  intro p e s m below meth c ls A C hl hK hA hP hD hS
  have hl : lv_has ls 4 [(0, .ref (a 0)), (1, .int x1)] := hl
  have hx := C.1.1
  have hb := C.1.2.1
  have hts := C.1.2.2.2.2
  have hown := C.1.2.2.2.1
  have hin : ∀ w ∈ wsX90, w ∈ ws9_passText := fun w h => List.mem_cons_of_mem _ (List.mem_append_right _ h)
  unfold f9_passText at hf
  refine lv_iload_n hx hb dX9_passText_0 rfl (lv_at hl 1 rfl) ?_
  refine lv_iconst (v := (1 : Int32)) hx hb dX9_passText_1 (by decide) ?_
  refine lv_iadd hx hb dX9_passText_2 ?_
  refine lv_istore_n (lv' := [(2, .int (x1 + (1 : Int32))), (0, .ref (a 0)), (1, .int x1)]) hx hb dX9_passText_3 rfl hl (by decide) rfl (fun ls hl => ?_)
  exact w9_passText_4 C hK hA FU u (x1 + (1 : Int32)) hf hP hD hS (lv_sub hl [1, 0] rfl)
abbrev rm9_passList : Room := { frames := 3, cells := 0, slots := 0, locals := 67 }
noncomputable abbrev ws9_passList : List Cond := Cond.code yX9_passList cX9_passList 6 (some .int) :: WA9
theorem g9_passList {c0 : Cond} : GoodIn (c0 :: WA9) (wsV RX9 200 RX9 yX9_passList ws9_passList) := gd9_v m9_144 m9_145 m9_146 m9_29 m9_119
theorem hd9_passList : yX9_passList.cls = RX9 ∧ yX9_passList.cls ≠ "java/lang/invoke/MethodHandle" ∧ yX9_passList.cls ≠ "java/lang/invoke/VarHandle" ∧ (parseMethodDescriptor yX9_passList.desc).map (fun d => d.parameters.length) = some 2 := by decide +kernel
def f9_passList_46 (u : Md) (x4 : Int32) : Option (Int32 × Md) := ((f9_fail u x4).bind fun u_9 => (some (x4, u_9)))
set_option maxHeartbeats 4000000 in
set_option maxRecDepth 100000 in
theorem w9_passList_46 {p : Program} {l : Launch} {e : Env} {s : State} {m : MethodId} {args : Array Value} {below : List Frame} {meth : Method} {c : Code} (C : Cx p s m args meth c cX9_passList 6 ws9_passList RX9 (some .int)) {D : va_G} {cI cJ cC : ClassId} {a : Nat → Nat} {A : Nat → Prop} (hK : va_K D vwCl (ty3 cI cJ cC) s) (hA : ∀ q : Nat, s.heap.size ≤ q → A q) {r : (Int32 × Md)} : ∀ (u : Md) (x4 : Int32), f9_passList_46 u x4 = some r → ∀ {H : Heap} {locs : List Loc}, va_P D vwCl (cM cI cJ a u) H → va_D A (cM cI cJ a u) → va_S A s.heap H locs → ∀ {ls : Array Slot}, lv_has ls 6 [(0, .ref (a 0)), (4, .int x4)] → W p l e rm9_passList s m args below meth c H locs 0 0 (MQ below (qW (some (.int r.1)) (cM cI cJ a r.2) D (ty3 cI cJ cC) A) args s 0 0 A) (F0 m 46 ls []) := by
  have hx := C.1.1
  have hb := C.1.2.1
  have hts := C.1.2.2.2.2
  have hown := C.1.2.2.2.1
  have hin : ∀ w ∈ wsX90, w ∈ ws9_passList := fun w h => List.mem_cons_of_mem _ (List.mem_append_right _ h)
  intro u x4 hf H locs hP hD hS ls hl
  unfold f9_passList_46 at hf
  refine lv_aload_n hx hb dX9_passList_46 rfl (lv_at hl 0 rfl) ?_
  refine lv_iload hx hb dX9_passList_47 (lv_at hl 1 rfl) ?_
  obtain ⟨u_9, h_8, hf⟩ := og_b hf
  try dsimp only at hf
  refine ck_w (ov := none) (st1 := []) (rest := []) C.1 (c9_fail l D cI cJ cC a u x4 u_9  _ h_8) (cwV 1 hts g9_fail rfl rfl rfl hd9_fail ⟨Nat.le_of_ble_eq_true rfl, Nat.le_of_ble_eq_true rfl⟩) hK hA hP hD hS (q0 := 0) (ci := 6) rfl rfl rfl rfl hl.1 rfl rfl (Nat.le_of_ble_eq_true rfl) ⟨Nat.zero_le _, Nat.zero_le _⟩ dX9_passList_49 (fun H locs hP hD hS => ?_)
  refine lv_iload hx hb dX9_passList_52 (lv_at hl 1 rfl) ?_
  cases hf
  exact rw_i C hK hP hD hS dX9_passList_54
def f9_passList_119 (k5 : Md → Int32 → Int32 → Int32 → Option (Int32 × Md)) (u : Md) (x2 : Int32) (x3 : Int32) (y0 : Int32) : Option (Int32 × Md) := (k5 u x2 x3 y0)
set_option maxHeartbeats 4000000 in
set_option maxRecDepth 100000 in
theorem w9_passList_119 {p : Program} {l : Launch} {e : Env} {s : State} {m : MethodId} {args : Array Value} {below : List Frame} {meth : Method} {c : Code} (C : Cx p s m args meth c cX9_passList 6 ws9_passList RX9 (some .int)) {D : va_G} {cI cJ cC : ClassId} {a : Nat → Nat} {A : Nat → Prop} (hK : va_K D vwCl (ty3 cI cJ cC) s) (hA : ∀ q : Nat, s.heap.size ≤ q → A q) {r : (Int32 × Md)} (k5 : Md → Int32 → Int32 → Int32 → Option (Int32 × Md)) (ih5 : ∀ (u : Md) (x2 : Int32) (x3 : Int32) (x4 : Int32), k5 u x2 x3 x4 = some r → ∀ {H : Heap} {locs : List Loc}, va_P D vwCl (cM cI cJ a u) H → va_D A (cM cI cJ a u) → va_S A s.heap H locs → ∀ {ls : Array Slot}, lv_has ls 6 [(0, .ref (a 0)), (2, .int x2), (3, .int x3), (4, .int x4)] → W p l e rm9_passList s m args below meth c H locs 0 0 (MQ below (qW (some (.int r.1)) (cM cI cJ a r.2) D (ty3 cI cJ cC) A) args s 0 0 A) (F0 m 5 ls [])) : ∀ (u : Md) (x2 : Int32) (x3 : Int32) (y0 : Int32), f9_passList_119 k5 u x2 x3 y0 = some r → ∀ {H : Heap} {locs : List Loc}, va_P D vwCl (cM cI cJ a u) H → va_D A (cM cI cJ a u) → va_S A s.heap H locs → ∀ {ls : Array Slot}, lv_has ls 6 [(0, .ref (a 0)), (2, .int x2), (3, .int x3)] → W p l e rm9_passList s m args below meth c H locs 0 0 (MQ below (qW (some (.int r.1)) (cM cI cJ a r.2) D (ty3 cI cJ cC) A) args s 0 0 A) (F0 m 119 ls [.int y0]) := by
  have hx := C.1.1
  have hb := C.1.2.1
  have hts := C.1.2.2.2.2
  have hown := C.1.2.2.2.1
  have hin : ∀ w ∈ wsX90, w ∈ ws9_passList := fun w h => List.mem_cons_of_mem _ (List.mem_append_right _ h)
  intro u x2 x3 y0 hf H locs hP hD hS ls hl
  unfold f9_passList_119 at hf
  refine lv_istore (lv' := [(4, .int y0), (0, .ref (a 0)), (2, .int x2), (3, .int x3)]) hx hb dX9_passList_119 hl (by decide) rfl (fun ls hl => ?_)
  refine lv_goto (tgt := 5) hx hb dX9_passList_121 (by decide) ?_
  exact ih5 u x2 x3 y0 hf hP hD hS (lv_sub hl [1, 2, 3, 0] rfl)
def f9_passList_115 (k5 : Md → Int32 → Int32 → Int32 → Option (Int32 × Md)) (u : Md) (x2 : Int32) (x3 : Int32) (x4 : Int32) : Option (Int32 × Md) := (f9_passList_119 k5 u x2 x3 (x4 + (1 : Int32)))
set_option maxHeartbeats 4000000 in
set_option maxRecDepth 100000 in
theorem w9_passList_115 {p : Program} {l : Launch} {e : Env} {s : State} {m : MethodId} {args : Array Value} {below : List Frame} {meth : Method} {c : Code} (C : Cx p s m args meth c cX9_passList 6 ws9_passList RX9 (some .int)) {D : va_G} {cI cJ cC : ClassId} {a : Nat → Nat} {A : Nat → Prop} (hK : va_K D vwCl (ty3 cI cJ cC) s) (hA : ∀ q : Nat, s.heap.size ≤ q → A q) {r : (Int32 × Md)} (k5 : Md → Int32 → Int32 → Int32 → Option (Int32 × Md)) (ih5 : ∀ (u : Md) (x2 : Int32) (x3 : Int32) (x4 : Int32), k5 u x2 x3 x4 = some r → ∀ {H : Heap} {locs : List Loc}, va_P D vwCl (cM cI cJ a u) H → va_D A (cM cI cJ a u) → va_S A s.heap H locs → ∀ {ls : Array Slot}, lv_has ls 6 [(0, .ref (a 0)), (2, .int x2), (3, .int x3), (4, .int x4)] → W p l e rm9_passList s m args below meth c H locs 0 0 (MQ below (qW (some (.int r.1)) (cM cI cJ a r.2) D (ty3 cI cJ cC) A) args s 0 0 A) (F0 m 5 ls [])) : ∀ (u : Md) (x2 : Int32) (x3 : Int32) (x4 : Int32), f9_passList_115 k5 u x2 x3 x4 = some r → ∀ {H : Heap} {locs : List Loc}, va_P D vwCl (cM cI cJ a u) H → va_D A (cM cI cJ a u) → va_S A s.heap H locs → ∀ {ls : Array Slot}, lv_has ls 6 [(0, .ref (a 0)), (2, .int x2), (3, .int x3), (4, .int x4)] → W p l e rm9_passList s m args below meth c H locs 0 0 (MQ below (qW (some (.int r.1)) (cM cI cJ a r.2) D (ty3 cI cJ cC) A) args s 0 0 A) (F0 m 115 ls []) := by
  have hx := C.1.1
  have hb := C.1.2.1
  have hts := C.1.2.2.2.2
  have hown := C.1.2.2.2.1
  have hin : ∀ w ∈ wsX90, w ∈ ws9_passList := fun w h => List.mem_cons_of_mem _ (List.mem_append_right _ h)
  intro u x2 x3 x4 hf H locs hP hD hS ls hl
  unfold f9_passList_115 at hf
  refine lv_iload hx hb dX9_passList_115 (lv_at hl 3 rfl) ?_
  refine lv_iconst (v := (1 : Int32)) hx hb dX9_passList_117 (by decide) ?_
  refine lv_iadd hx hb dX9_passList_118 ?_
  exact w9_passList_119 C hK hA k5 (fun _ _ _ _ h9 => ih5 _ _ _ _ h9) u x2 x3 (x4 + (1 : Int32)) hf hP hD hS (lv_sub hl [0, 1, 2] rfl)
def f9_passList_79 (k5 : Md → Int32 → Int32 → Int32 → Option (Int32 × Md)) (u : Md) (x2 : Int32) (x4 : Int32) (x5 : Int32) (y0 : Int32) (y1 : Int32) : Option (Int32 × Md) := ((f9_keep u x4 (x4 + (1 : Int32))).bind fun u_13 => (if x5 = (34 : Int32) then (if (gi u_13 18) = (-1 : Int32) then ((f9_passText u_13 x4).bind fun p_18 => (f9_passList_119 k5 p_18.2 x2 (y1 + y0) p_18.1)) else (f9_passList_115 k5 u_13 x2 (y1 + y0) x4)) else (f9_passList_115 k5 u_13 x2 (y1 + y0) x4)))
set_option maxHeartbeats 4000000 in
set_option maxRecDepth 100000 in
theorem w9_passList_79 {p : Program} {l : Launch} {e : Env} {s : State} {m : MethodId} {args : Array Value} {below : List Frame} {meth : Method} {c : Code} (C : Cx p s m args meth c cX9_passList 6 ws9_passList RX9 (some .int)) {D : va_G} {cI cJ cC : ClassId} {a : Nat → Nat} {A : Nat → Prop} (hK : va_K D vwCl (ty3 cI cJ cC) s) (hA : ∀ q : Nat, s.heap.size ≤ q → A q) {r : (Int32 × Md)} (k5 : Md → Int32 → Int32 → Int32 → Option (Int32 × Md)) (ih5 : ∀ (u : Md) (x2 : Int32) (x3 : Int32) (x4 : Int32), k5 u x2 x3 x4 = some r → ∀ {H : Heap} {locs : List Loc}, va_P D vwCl (cM cI cJ a u) H → va_D A (cM cI cJ a u) → va_S A s.heap H locs → ∀ {ls : Array Slot}, lv_has ls 6 [(0, .ref (a 0)), (2, .int x2), (3, .int x3), (4, .int x4)] → W p l e rm9_passList s m args below meth c H locs 0 0 (MQ below (qW (some (.int r.1)) (cM cI cJ a r.2) D (ty3 cI cJ cC) A) args s 0 0 A) (F0 m 5 ls [])) : ∀ (u : Md) (x2 : Int32) (x4 : Int32) (x5 : Int32) (y0 : Int32) (y1 : Int32), f9_passList_79 k5 u x2 x4 x5 y0 y1 = some r → ∀ {H : Heap} {locs : List Loc}, va_P D vwCl (cM cI cJ a u) H → va_D A (cM cI cJ a u) → va_S A s.heap H locs → ∀ {ls : Array Slot}, lv_has ls 6 [(0, .ref (a 0)), (2, .int x2), (4, .int x4), (5, .int x5)] → W p l e rm9_passList s m args below meth c H locs 0 0 (MQ below (qW (some (.int r.1)) (cM cI cJ a r.2) D (ty3 cI cJ cC) A) args s 0 0 A) (F0 m 79 ls [.int y0, .int y1]) := by
  have hx := C.1.1
  have hb := C.1.2.1
  have hts := C.1.2.2.2.2
  have hown := C.1.2.2.2.1
  have hin : ∀ w ∈ wsX90, w ∈ ws9_passList := fun w h => List.mem_cons_of_mem _ (List.mem_append_right _ h)
  intro u x2 x4 x5 y0 y1 hf H locs hP hD hS ls hl
  unfold f9_passList_79 at hf
  refine lv_iadd hx hb dX9_passList_79 ?_
  refine lv_istore_n (lv' := [(3, .int (y1 + y0)), (0, .ref (a 0)), (2, .int x2), (4, .int x4), (5, .int x5)]) hx hb dX9_passList_80 rfl hl (by decide) rfl (fun ls hl => ?_)
  refine lv_aload_n hx hb dX9_passList_81 rfl (lv_at hl 1 rfl) ?_
  refine lv_iload hx hb dX9_passList_82 (lv_at hl 3 rfl) ?_
  refine lv_iload hx hb dX9_passList_84 (lv_at hl 3 rfl) ?_
  refine lv_iconst (v := (1 : Int32)) hx hb dX9_passList_86 (by decide) ?_
  refine lv_iadd hx hb dX9_passList_87 ?_
  obtain ⟨u_13, h_12, hf⟩ := og_b hf
  try dsimp only at hf
  refine ck_w (ov := none) (st1 := []) (rest := []) C.1 (c9_keep l D cI cJ cC a u x4 (x4 + (1 : Int32)) u_13  _ h_12) (cwV 2 hts g9_keep rfl rfl rfl hd9_keep ⟨Nat.le_of_ble_eq_true rfl, Nat.le_of_ble_eq_true rfl⟩) hK hA hP hD hS (q0 := 0) (ci := 6) rfl rfl rfl rfl hl.1 rfl rfl (Nat.le_of_ble_eq_true rfl) ⟨Nat.zero_le _, Nat.zero_le _⟩ dX9_passList_88 (fun H locs hP hD hS => ?_)
  refine lv_iload hx hb dX9_passList_91 (lv_at hl 4 rfl) ?_
  refine lv_bipush (v := (34 : Int32)) hx hb dX9_passList_93 (by decide) ?_
  refine lv_icmp_ne (tgt := 115) hx hb dX9_passList_95 (by decide) (fun c_14 => ?_) (fun c_14 => ?_)
  · replace hf := og_f c_14 hf
    exact w9_passList_115 C hK hA k5 (fun _ _ _ _ h9 => ih5 _ _ _ _ h9) u_13 x2 (y1 + y0) x4 hf hP hD hS (lv_sub hl [1, 2, 0, 3] rfl)
  · replace hf := og_t c_14 hf
    refine lv_aload_n hx hb dX9_passList_98 rfl (lv_at hl 1 rfl) ?_
    refine mg9 (v := .int (gi u_13 18)) C hin hK hP 18 (by decide) (hts (Cond.fieldLink RX9 84 "SchematicTextModel" "fault" "I") (List.mem_cons_of_mem _ m9_48)) rfl dX9_passList_99 ?_
    refine lv_iconst (v := (-1 : Int32)) hx hb dX9_passList_102 (by decide) ?_
    refine lv_icmp_ne (tgt := 115) hx hb dX9_passList_103 (by decide) (fun c_15 => ?_) (fun c_15 => ?_)
    · replace hf := og_f c_15 hf
      exact w9_passList_115 C hK hA k5 (fun _ _ _ _ h9 => ih5 _ _ _ _ h9) u_13 x2 (y1 + y0) x4 hf hP hD hS (lv_sub hl [1, 2, 0, 3] rfl)
    · replace hf := og_t c_15 hf
      refine lv_aload_n hx hb dX9_passList_106 rfl (lv_at hl 1 rfl) ?_
      refine lv_iload hx hb dX9_passList_107 (lv_at hl 3 rfl) ?_
      obtain ⟨⟨r_18, u_17⟩, h_16, hf⟩ := og_b hf
      try dsimp only at hf
      refine ck_w (ov := (some (.int r_18))) (st1 := [.int r_18]) (rest := []) C.1 (c9_passText l D cI cJ cC a u_13 x4 r_18 u_17  _ h_16) (cwV 1 hts g9_passText rfl rfl rfl hd9_passText ⟨Nat.le_of_ble_eq_true rfl, Nat.le_of_ble_eq_true rfl⟩) hK hA hP hD hS (q0 := 0) (ci := 6) rfl rfl rfl rfl hl.1 rfl rfl (Nat.le_of_ble_eq_true rfl) ⟨Nat.zero_le _, Nat.zero_le _⟩ dX9_passList_109 (fun H locs hP hD hS => ?_)
      refine lv_goto (tgt := 119) hx hb dX9_passList_112 (by decide) ?_
      exact w9_passList_119 C hK hA k5 (fun _ _ _ _ h9 => ih5 _ _ _ _ h9) u_17 x2 (y1 + y0) r_18 hf hP hD hS (lv_sub hl [1, 2, 0] rfl)
def f9_passList_55 (k5 : Md → Int32 → Int32 → Int32 → Option (Int32 × Md)) (u : Md) (x2 : Int32) (x3 : Int32) (x4 : Int32) (x5 : Int32) : Option (Int32 × Md) := (if x5 = (40 : Int32) then (f9_passList_79 k5 u x2 x4 x5 (1 : Int32) x3) else (if x5 = (41 : Int32) then (f9_passList_79 k5 u x2 x4 x5 (-1 : Int32) x3) else (f9_passList_79 k5 u x2 x4 x5 (0 : Int32) x3)))
set_option maxHeartbeats 4000000 in
set_option maxRecDepth 100000 in
theorem w9_passList_55 {p : Program} {l : Launch} {e : Env} {s : State} {m : MethodId} {args : Array Value} {below : List Frame} {meth : Method} {c : Code} (C : Cx p s m args meth c cX9_passList 6 ws9_passList RX9 (some .int)) {D : va_G} {cI cJ cC : ClassId} {a : Nat → Nat} {A : Nat → Prop} (hK : va_K D vwCl (ty3 cI cJ cC) s) (hA : ∀ q : Nat, s.heap.size ≤ q → A q) {r : (Int32 × Md)} (k5 : Md → Int32 → Int32 → Int32 → Option (Int32 × Md)) (ih5 : ∀ (u : Md) (x2 : Int32) (x3 : Int32) (x4 : Int32), k5 u x2 x3 x4 = some r → ∀ {H : Heap} {locs : List Loc}, va_P D vwCl (cM cI cJ a u) H → va_D A (cM cI cJ a u) → va_S A s.heap H locs → ∀ {ls : Array Slot}, lv_has ls 6 [(0, .ref (a 0)), (2, .int x2), (3, .int x3), (4, .int x4)] → W p l e rm9_passList s m args below meth c H locs 0 0 (MQ below (qW (some (.int r.1)) (cM cI cJ a r.2) D (ty3 cI cJ cC) A) args s 0 0 A) (F0 m 5 ls [])) : ∀ (u : Md) (x2 : Int32) (x3 : Int32) (x4 : Int32) (x5 : Int32), f9_passList_55 k5 u x2 x3 x4 x5 = some r → ∀ {H : Heap} {locs : List Loc}, va_P D vwCl (cM cI cJ a u) H → va_D A (cM cI cJ a u) → va_S A s.heap H locs → ∀ {ls : Array Slot}, lv_has ls 6 [(0, .ref (a 0)), (2, .int x2), (3, .int x3), (4, .int x4), (5, .int x5)] → W p l e rm9_passList s m args below meth c H locs 0 0 (MQ below (qW (some (.int r.1)) (cM cI cJ a r.2) D (ty3 cI cJ cC) A) args s 0 0 A) (F0 m 55 ls []) := by
  have hx := C.1.1
  have hb := C.1.2.1
  have hts := C.1.2.2.2.2
  have hown := C.1.2.2.2.1
  have hin : ∀ w ∈ wsX90, w ∈ ws9_passList := fun w h => List.mem_cons_of_mem _ (List.mem_append_right _ h)
  intro u x2 x3 x4 x5 hf H locs hP hD hS ls hl
  unfold f9_passList_55 at hf
  refine lv_iload_n hx hb dX9_passList_55 rfl (lv_at hl 2 rfl) ?_
  refine lv_iload hx hb dX9_passList_56 (lv_at hl 4 rfl) ?_
  refine lv_bipush (v := (40 : Int32)) hx hb dX9_passList_58 (by decide) ?_
  refine lv_icmp_ne (tgt := 67) hx hb dX9_passList_60 (by decide) (fun c_10 => ?_) (fun c_10 => ?_)
  · replace hf := og_f c_10 hf
    refine lv_iload hx hb dX9_passList_67 (lv_at hl 4 rfl) ?_
    refine lv_bipush (v := (41 : Int32)) hx hb dX9_passList_69 (by decide) ?_
    refine lv_icmp_ne (tgt := 78) hx hb dX9_passList_71 (by decide) (fun c_11 => ?_) (fun c_11 => ?_)
    · replace hf := og_f c_11 hf
      refine lv_iconst (v := (0 : Int32)) hx hb dX9_passList_78 (by decide) ?_
      exact w9_passList_79 C hK hA k5 (fun _ _ _ _ h9 => ih5 _ _ _ _ h9) u x2 x4 x5 (0 : Int32) x3 hf hP hD hS (lv_sub hl [0, 1, 3, 4] rfl)
    · replace hf := og_t c_11 hf
      refine lv_iconst (v := (-1 : Int32)) hx hb dX9_passList_74 (by decide) ?_
      refine lv_goto (tgt := 79) hx hb dX9_passList_75 (by decide) ?_
      exact w9_passList_79 C hK hA k5 (fun _ _ _ _ h9 => ih5 _ _ _ _ h9) u x2 x4 x5 (-1 : Int32) x3 hf hP hD hS (lv_sub hl [0, 1, 3, 4] rfl)
  · replace hf := og_t c_10 hf
    refine lv_iconst (v := (1 : Int32)) hx hb dX9_passList_63 (by decide) ?_
    refine lv_goto (tgt := 79) hx hb dX9_passList_64 (by decide) ?_
    exact w9_passList_79 C hK hA k5 (fun _ _ _ _ h9 => ih5 _ _ _ _ h9) u x2 x4 x5 (1 : Int32) x3 hf hP hD hS (lv_sub hl [0, 1, 3, 4] rfl)
def f9_passList_5 : Nat → Md → Int32 → Int32 → Int32 → Option (Int32 × Md)
  | 0, _, _, _, _ => none
  | n + 1, u, x2, x3, x4 => (if (gi u 18) = (-1 : Int32) then (if x3 ≤ 0 then (some (x4, u)) else ((f9_c u x4).bind fun r_4 => (if r_4 = (-1 : Int32) then (f9_passList_46 u x4) else (if r_4 = (40 : Int32) then (if (x2 + x3) = (100 : Int32) then (f9_passList_46 u x4) else (f9_passList_55 (f9_passList_5 n) u x2 x3 x4 r_4)) else (f9_passList_55 (f9_passList_5 n) u x2 x3 x4 r_4))))) else (some (x4, u)))
set_option maxHeartbeats 4000000 in
set_option maxRecDepth 100000 in
theorem w9_passList_5 {p : Program} {l : Launch} {e : Env} {s : State} {m : MethodId} {args : Array Value} {below : List Frame} {meth : Method} {c : Code} (C : Cx p s m args meth c cX9_passList 6 ws9_passList RX9 (some .int)) {D : va_G} {cI cJ cC : ClassId} {a : Nat → Nat} {A : Nat → Prop} (hK : va_K D vwCl (ty3 cI cJ cC) s) (hA : ∀ q : Nat, s.heap.size ≤ q → A q) {r : (Int32 × Md)} : ∀ (n : Nat), ∀ (u : Md) (x2 : Int32) (x3 : Int32) (x4 : Int32), f9_passList_5 n u x2 x3 x4 = some r → ∀ {H : Heap} {locs : List Loc}, va_P D vwCl (cM cI cJ a u) H → va_D A (cM cI cJ a u) → va_S A s.heap H locs → ∀ {ls : Array Slot}, lv_has ls 6 [(0, .ref (a 0)), (2, .int x2), (3, .int x3), (4, .int x4)] → W p l e rm9_passList s m args below meth c H locs 0 0 (MQ below (qW (some (.int r.1)) (cM cI cJ a r.2) D (ty3 cI cJ cC) A) args s 0 0 A) (F0 m 5 ls []) := by
  have hx := C.1.1
  have hb := C.1.2.1
  have hts := C.1.2.2.2.2
  have hown := C.1.2.2.2.1
  have hin : ∀ w ∈ wsX90, w ∈ ws9_passList := fun w h => List.mem_cons_of_mem _ (List.mem_append_right _ h)
  intro n
  induction n with
  | zero =>
    intro u x2 x3 x4 hf H locs hP hD hS ls hl
    cases hf
  | succ n ih =>
    intro u x2 x3 x4 hf H locs hP hD hS ls hl
    rw [f9_passList_5] at hf
    refine lv_aload_n hx hb dX9_passList_5 rfl (lv_at hl 0 rfl) ?_
    refine mg9 (v := .int (gi u 18)) C hin hK hP 18 (by decide) (hts (Cond.fieldLink RX9 84 "SchematicTextModel" "fault" "I") (List.mem_cons_of_mem _ m9_48)) rfl dX9_passList_6 ?_
    refine lv_iconst (v := (-1 : Int32)) hx hb dX9_passList_9 (by decide) ?_
    refine lv_icmp_ne (tgt := 124) hx hb dX9_passList_10 (by decide) (fun c_1 => ?_) (fun c_1 => ?_)
    · replace hf := og_f c_1 hf
      refine lv_iload hx hb dX9_passList_124 (lv_at hl 3 rfl) ?_
      cases hf
      exact rw_i C hK hP hD hS dX9_passList_126
    · replace hf := og_t c_1 hf
      refine lv_iload_n hx hb dX9_passList_13 rfl (lv_at hl 2 rfl) ?_
      refine lv_if_le (tgt := 124) hx hb dX9_passList_14 (by decide) (fun c_2 => ?_) (fun c_2 => ?_)
      · replace hf := og_t c_2 hf
        refine lv_iload hx hb dX9_passList_124 (lv_at hl 3 rfl) ?_
        cases hf
        exact rw_i C hK hP hD hS dX9_passList_126
      · replace hf := og_f c_2 hf
        refine lv_aload_n hx hb dX9_passList_17 rfl (lv_at hl 0 rfl) ?_
        refine lv_iload hx hb dX9_passList_18 (lv_at hl 3 rfl) ?_
        obtain ⟨r_4, h_3, hf⟩ := og_b hf
        try dsimp only at hf
        refine ck_r (v := .int r_4) (rest := []) C.1 (c9_c l D cI cJ cC a u x4 r_4 _ h_3) (cwV 1 hts g9_c rfl rfl rfl hd9_c ⟨Nat.le_of_ble_eq_true rfl, Nat.le_of_ble_eq_true rfl⟩) hK hP hD (q0 := 0) (ci := 6) rfl rfl rfl rfl hl.1 rfl (Nat.le_of_ble_eq_true rfl) ⟨Nat.zero_le _, Nat.zero_le _⟩ dX9_passList_20 ?_
        refine lv_istore (lv' := [(5, .int r_4), (0, .ref (a 0)), (2, .int x2), (3, .int x3), (4, .int x4)]) hx hb dX9_passList_23 hl (by decide) rfl (fun ls hl => ?_)
        refine lv_iload hx hb dX9_passList_25 (lv_at hl 0 rfl) ?_
        refine lv_iconst (v := (-1 : Int32)) hx hb dX9_passList_27 (by decide) ?_
        refine lv_icmp_eq (tgt := 46) hx hb dX9_passList_28 (by decide) (fun c_5 => ?_) (fun c_5 => ?_)
        · replace hf := og_t c_5 hf
          exact w9_passList_46 C hK hA u x4 hf hP hD hS (lv_sub hl [1, 4] rfl)
        · replace hf := og_f c_5 hf
          refine lv_iload hx hb dX9_passList_31 (lv_at hl 0 rfl) ?_
          refine lv_bipush (v := (40 : Int32)) hx hb dX9_passList_33 (by decide) ?_
          refine lv_icmp_ne (tgt := 55) hx hb dX9_passList_35 (by decide) (fun c_6 => ?_) (fun c_6 => ?_)
          · replace hf := og_f c_6 hf
            exact w9_passList_55 C hK hA (f9_passList_5 n) (fun _ _ _ _ h9 => ih _ _ _ _ h9) u x2 x3 x4 r_4 hf hP hD hS (lv_sub hl [1, 2, 3, 4, 0] rfl)
          · replace hf := og_t c_6 hf
            refine lv_iload_n hx hb dX9_passList_38 rfl (lv_at hl 2 rfl) ?_
            refine lv_iload_n hx hb dX9_passList_39 rfl (lv_at hl 3 rfl) ?_
            refine lv_iadd hx hb dX9_passList_40 ?_
            refine lv_bipush (v := (100 : Int32)) hx hb dX9_passList_41 (by decide) ?_
            refine lv_icmp_ne (tgt := 55) hx hb dX9_passList_43 (by decide) (fun c_7 => ?_) (fun c_7 => ?_)
            · replace hf := og_f c_7 hf
              exact w9_passList_55 C hK hA (f9_passList_5 n) (fun _ _ _ _ h9 => ih _ _ _ _ h9) u x2 x3 x4 r_4 hf hP hD hS (lv_sub hl [1, 2, 3, 4, 0] rfl)
            · replace hf := og_t c_7 hf
              exact w9_passList_46 C hK hA u x4 hf hP hD hS (lv_sub hl [1, 4] rfl)
def f9_passList (u : Md) (x1 : Int32) (x2 : Int32) : Option (Int32 × Md) := (f9_passList_5 FU u x2 (1 : Int32) x1)
set_option maxHeartbeats 4000000 in
set_option maxRecDepth 100000 in
theorem c9_passList (l : Launch) (D : va_G) (cI cJ cC : ClassId) (a : Nat → Nat) (u : Md) (x1 : Int32) (x2 : Int32) (r : Int32) (v : Md) (sz : Nat) (hf : f9_passList u x1 x2 = some (r, v)) : Met l yX9_passList ws9_passList rm9_passList (pW D (ty3 cI cJ cC) (cM cI cJ a u) sz [.ref (a 0), .int x1, .int x2]) (qW (some (.int r)) (cM cI cJ a v) D (ty3 cI cJ cC) (va_A (cM cI cJ a u) sz)) 0 0 (va_A (cM cI cJ a u) sz) := by
  refine mt_w (cc := cX9_passList) (maxL := 6) (ret := (some .int)) (by decide) rfl (Nat.le_of_ble_eq_true rfl) ?_
  intro p e s m below meth c ls A C hl hK hA hP hD hS
  have hl : lv_has ls 6 [(0, .ref (a 0)), (1, .int x1), (2, .int x2)] := hl
  have hx := C.1.1
  have hb := C.1.2.1
  have hts := C.1.2.2.2.2
  have hown := C.1.2.2.2.1
  have hin : ∀ w ∈ wsX90, w ∈ ws9_passList := fun w h => List.mem_cons_of_mem _ (List.mem_append_right _ h)
  unfold f9_passList at hf
  refine lv_iconst (v := (1 : Int32)) hx hb dX9_passList_0 (by decide) ?_
  refine lv_istore_n (lv' := [(3, .int (1 : Int32)), (0, .ref (a 0)), (1, .int x1), (2, .int x2)]) hx hb dX9_passList_1 rfl hl (by decide) rfl (fun ls hl => ?_)
  refine lv_iload_n hx hb dX9_passList_2 rfl (lv_at hl 2 rfl) ?_
  refine lv_istore (lv' := [(4, .int x1), (3, .int (1 : Int32)), (0, .ref (a 0)), (1, .int x1), (2, .int x2)]) hx hb dX9_passList_3 hl (by decide) rfl (fun ls hl => ?_)
  exact w9_passList_5 C hK hA FU u x2 (1 : Int32) x1 hf hP hD hS (lv_sub hl [2, 4, 1, 0] rfl)
