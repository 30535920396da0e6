abbrev rm9_space : Room := { frames := 2, cells := 0, slots := 0, locals := 43 }
noncomputable abbrev ws9_space : List Cond := Cond.code yX9_space cX9_space 4 (some .int) :: WA9
theorem g9_space {c0 : Cond} : GoodIn (c0 :: WA9) (wsV RX9 184 RX9 yX9_space ws9_space) := gd9_v m9_127 m9_128 m9_129 m9_29 m9_130
theorem hd9_space : yX9_space.cls = RX9 ∧ yX9_space.cls ≠ "java/lang/invoke/MethodHandle" ∧ yX9_space.cls ≠ "java/lang/invoke/VarHandle" ∧ (parseMethodDescriptor yX9_space.desc).map (fun d => d.parameters.length) = some 2 := by decide +kernel
def f9_space_39 (u : Md) (x1 : Int32) (x2 : Int32) : Option (Int32 × Md) := (if x2 = 0 then (some ((x1 + (1 : Int32)), u)) else ((f9_blanks u x1).bind fun r_13 => (some (r_13, u))))
set_option maxHeartbeats 4000000 in
set_option maxRecDepth 100000 in
theorem w9_space_39 {p : Program} {l : Launch} {e : Env} {s : State} {m : MethodId} {args : Array Value} {below : List Frame} {meth : Method} {c : Code} (C : Cx p s m args meth c cX9_space 4 ws9_space RX9 (some .int)) {D : va_G} {cI cJ cC : ClassId} {a : Nat → Nat} {A : Nat → Prop} (hK : va_K D vwCl (ty3 cI cJ cC) s) (hA : ∀ q : Nat, s.heap.size ≤ q → A q) {r : (Int32 × Md)} : ∀ (u : Md) (x1 : Int32) (x2 : Int32), f9_space_39 u x1 x2 = some r → ∀ {H : Heap} {locs : List Loc}, va_P D vwCl (cM cI cJ a u) H → va_D A (cM cI cJ a u) → va_S A s.heap H locs → ∀ {ls : Array Slot}, lv_has ls 4 [(0, .ref (a 0)), (1, .int x1), (2, .int x2)] → W p l e rm9_space s m args below meth c H locs 0 0 (MQ below (qW (some (.int r.1)) (cM cI cJ a r.2) D (ty3 cI cJ cC) A) args s 0 0 A) (F0 m 39 ls []) := by
  have hx := C.1.1
  have hb := C.1.2.1
  have hts := C.1.2.2.2.2
  have hown := C.1.2.2.2.1
  have hin : ∀ w ∈ wsX90, w ∈ ws9_space := fun w h => List.mem_cons_of_mem _ (List.mem_append_right _ h)
  intro u x1 x2 hf H locs hP hD hS ls hl
  unfold f9_space_39 at hf
  refine lv_iload_n hx hb dX9_space_39 rfl (lv_at hl 2 rfl) ?_
  refine lv_if_eq (tgt := 51) hx hb dX9_space_40 (by decide) (fun c_11 => ?_) (fun c_11 => ?_)
  · replace hf := og_t c_11 hf
    refine lv_iload_n hx hb dX9_space_51 rfl (lv_at hl 1 rfl) ?_
    refine lv_iconst (v := (1 : Int32)) hx hb dX9_space_52 (by decide) ?_
    refine lv_iadd hx hb dX9_space_53 ?_
    obtain rfl := og_s hf
    exact rw_i C hK hP hD hS dX9_space_54
  · replace hf := og_f c_11 hf
    refine lv_aload_n hx hb dX9_space_43 rfl (lv_at hl 0 rfl) ?_
    refine lv_iload_n hx hb dX9_space_44 rfl (lv_at hl 1 rfl) ?_
    obtain ⟨r_13, h_12, hf⟩ := og_b hf
    try dsimp only at hf
    refine ck_r (v := .int r_13) (rest := []) C.1 (c9_blanks l D cI cJ cC a u x1 r_13 _ h_12) (cwV 1 hts g9_blanks rfl rfl rfl hd9_blanks ⟨Nat.le_of_ble_eq_true rfl, Nat.le_of_ble_eq_true rfl⟩) hK hP hD (q0 := 0) (ci := 6) rfl rfl rfl rfl hl.1 rfl (Nat.le_of_ble_eq_true rfl) ⟨Nat.zero_le _, Nat.zero_le _⟩ dX9_space_45 ?_
    refine lv_goto (tgt := 54) hx hb dX9_space_48 (by decide) ?_
    obtain rfl := og_s hf
    exact rw_i C hK hP hD hS dX9_space_54
def f9_space_29 (u : Md) (x1 : Int32) (x2 : Int32) (y0 : Int32) : Option (Int32 × Md) := (if y0 = 0 then ((f9_fail u x1).bind fun u_10 => (f9_space_39 u_10 x1 x2)) else (f9_space_39 u x1 x2))
set_option maxHeartbeats 4000000 in
set_option maxRecDepth 100000 in
theorem w9_space_29 {p : Program} {l : Launch} {e : Env} {s : State} {m : MethodId} {args : Array Value} {below : List Frame} {meth : Method} {c : Code} (C : Cx p s m args meth c cX9_space 4 ws9_space RX9 (some .int)) {D : va_G} {cI cJ cC : ClassId} {a : Nat → Nat} {A : Nat → Prop} (hK : va_K D vwCl (ty3 cI cJ cC) s) (hA : ∀ q : Nat, s.heap.size ≤ q → A q) {r : (Int32 × Md)} : ∀ (u : Md) (x1 : Int32) (x2 : Int32) (y0 : Int32), f9_space_29 u x1 x2 y0 = some r → ∀ {H : Heap} {locs : List Loc}, va_P D vwCl (cM cI cJ a u) H → va_D A (cM cI cJ a u) → va_S A s.heap H locs → ∀ {ls : Array Slot}, lv_has ls 4 [(0, .ref (a 0)), (1, .int x1), (2, .int x2)] → W p l e rm9_space s m args below meth c H locs 0 0 (MQ below (qW (some (.int r.1)) (cM cI cJ a r.2) D (ty3 cI cJ cC) A) args s 0 0 A) (F0 m 29 ls [.int y0]) := by
  have hx := C.1.1
  have hb := C.1.2.1
  have hts := C.1.2.2.2.2
  have hown := C.1.2.2.2.1
  have hin : ∀ w ∈ wsX90, w ∈ ws9_space := fun w h => List.mem_cons_of_mem _ (List.mem_append_right _ h)
  intro u x1 x2 y0 hf H locs hP hD hS ls hl
  unfold f9_space_29 at hf
  refine lv_istore_n (lv' := [(3, .int y0), (0, .ref (a 0)), (1, .int x1), (2, .int x2)]) hx hb dX9_space_29 rfl hl (by decide) rfl (fun ls hl => ?_)
  refine lv_iload_n hx hb dX9_space_30 rfl (lv_at hl 0 rfl) ?_
  refine lv_if_ne (tgt := 39) hx hb dX9_space_31 (by decide) (fun c_8 => ?_) (fun c_8 => ?_)
  · replace hf := og_f c_8 hf
    exact w9_space_39 C hK hA u x1 x2 hf hP hD hS (lv_sub hl [1, 2, 3] rfl)
  · replace hf := og_t c_8 hf
    refine lv_aload_n hx hb dX9_space_34 rfl (lv_at hl 1 rfl) ?_
    refine lv_iload_n hx hb dX9_space_35 rfl (lv_at hl 2 rfl) ?_
    obtain ⟨u_10, h_9, hf⟩ := og_b hf
    try dsimp only at hf
    refine ck_w (ov := none) (st1 := []) (rest := []) C.1 (c9_fail l D cI cJ cC a u x1 u_10  _ h_9) (cwV 1 hts g9_fail rfl rfl rfl hd9_fail ⟨Nat.le_of_ble_eq_true rfl, Nat.le_of_ble_eq_true rfl⟩) hK hA hP hD hS (q0 := 0) (ci := 6) rfl rfl rfl rfl hl.1 rfl rfl (Nat.le_of_ble_eq_true rfl) ⟨Nat.zero_le _, Nat.zero_le _⟩ dX9_space_36 (fun H locs hP hD hS => ?_)
    exact w9_space_39 C hK hA u_10 x1 x2 hf hP hD hS (lv_sub hl [1, 2, 3] rfl)
def f9_space_24 (u : Md) (x1 : Int32) (x2 : Int32) : Option (Int32 × Md) := (f9_space_29 u x1 x2 (1 : Int32))
set_option maxHeartbeats 4000000 in
set_option maxRecDepth 100000 in
theorem w9_space_24 {p : Program} {l : Launch} {e : Env} {s : State} {m : MethodId} {args : Array Value} {below : List Frame} {meth : Method} {c : Code} (C : Cx p s m args meth c cX9_space 4 ws9_space RX9 (some .int)) {D : va_G} {cI cJ cC : ClassId} {a : Nat → Nat} {A : Nat → Prop} (hK : va_K D vwCl (ty3 cI cJ cC) s) (hA : ∀ q : Nat, s.heap.size ≤ q → A q) {r : (Int32 × Md)} : ∀ (u : Md) (x1 : Int32) (x2 : Int32), f9_space_24 u x1 x2 = some r → ∀ {H : Heap} {locs : List Loc}, va_P D vwCl (cM cI cJ a u) H → va_D A (cM cI cJ a u) → va_S A s.heap H locs → ∀ {ls : Array Slot}, lv_has ls 4 [(0, .ref (a 0)), (1, .int x1), (2, .int x2)] → W p l e rm9_space s m args below meth c H locs 0 0 (MQ below (qW (some (.int r.1)) (cM cI cJ a r.2) D (ty3 cI cJ cC) A) args s 0 0 A) (F0 m 24 ls []) := by
  have hx := C.1.1
  have hb := C.1.2.1
  have hts := C.1.2.2.2.2
  have hown := C.1.2.2.2.1
  have hin : ∀ w ∈ wsX90, w ∈ ws9_space := fun w h => List.mem_cons_of_mem _ (List.mem_append_right _ h)
  intro u x1 x2 hf H locs hP hD hS ls hl
  unfold f9_space_24 at hf
  refine lv_iconst (v := (1 : Int32)) hx hb dX9_space_24 (by decide) ?_
  refine lv_goto (tgt := 29) hx hb dX9_space_25 (by decide) ?_
  exact w9_space_29 C hK hA u x1 x2 (1 : Int32) hf hP hD hS (lv_sub hl [0, 1, 2] rfl)
def f9_space_28 (u : Md) (x1 : Int32) (x2 : Int32) : Option (Int32 × Md) := (f9_space_29 u x1 x2 (0 : Int32))
set_option maxHeartbeats 4000000 in
set_option maxRecDepth 100000 in
theorem w9_space_28 {p : Program} {l : Launch} {e : Env} {s : State} {m : MethodId} {args : Array Value} {below : List Frame} {meth : Method} {c : Code} (C : Cx p s m args meth c cX9_space 4 ws9_space RX9 (some .int)) {D : va_G} {cI cJ cC : ClassId} {a : Nat → Nat} {A : Nat → Prop} (hK : va_K D vwCl (ty3 cI cJ cC) s) (hA : ∀ q : Nat, s.heap.size ≤ q → A q) {r : (Int32 × Md)} : ∀ (u : Md) (x1 : Int32) (x2 : Int32), f9_space_28 u x1 x2 = some r → ∀ {H : Heap} {locs : List Loc}, va_P D vwCl (cM cI cJ a u) H → va_D A (cM cI cJ a u) → va_S A s.heap H locs → ∀ {ls : Array Slot}, lv_has ls 4 [(0, .ref (a 0)), (1, .int x1), (2, .int x2)] → W p l e rm9_space s m args below meth c H locs 0 0 (MQ below (qW (some (.int r.1)) (cM cI cJ a r.2) D (ty3 cI cJ cC) A) args s 0 0 A) (F0 m 28 ls []) := by
  have hx := C.1.1
  have hb := C.1.2.1
  have hts := C.1.2.2.2.2
  have hown := C.1.2.2.2.1
  have hin : ∀ w ∈ wsX90, w ∈ ws9_space := fun w h => List.mem_cons_of_mem _ (List.mem_append_right _ h)
  intro u x1 x2 hf H locs hP hD hS ls hl
  unfold f9_space_28 at hf
  refine lv_iconst (v := (0 : Int32)) hx hb dX9_space_28 (by decide) ?_
  exact w9_space_29 C hK hA u x1 x2 (0 : Int32) hf hP hD hS (lv_sub hl [0, 1, 2] rfl)
def f9_space (u : Md) (x1 : Int32) (x2 : Int32) : Option (Int32 × Md) := ((f9_c u x1).bind fun r_2 => (if r_2 = (32 : Int32) then (f9_space_24 u x1 x2) else (if x2 = 0 then (f9_space_28 u x1 x2) else ((f9_c u x1).bind fun r_6 => (if r_6 = (10 : Int32) then (f9_space_24 u x1 x2) else (f9_space_28 u x1 x2))))))
set_option maxHeartbeats 4000000 in
set_option maxRecDepth 100000 in
theorem c9_space (l : Launch) (D : va_G) (cI cJ cC : ClassId) (a : Nat → Nat) (u : Md) (x1 : Int32) (x2 : Int32) (r : Int32) (v : Md) (sz : Nat) (hf : f9_space u x1 x2 = some (r, v)) : Met l yX9_space ws9_space rm9_space (pW D (ty3 cI cJ cC) (cM cI cJ a u) sz [.ref (a 0), .int x1, .int x2]) (qW (some (.int r)) (cM cI cJ a v) D (ty3 cI cJ cC) (va_A (cM cI cJ a u) sz)) 0 0 (va_A (cM cI cJ a u) sz) := by
  refine mt_w (cc := cX9_space) (maxL := 4) (ret := (some .int)) (by decide) rfl (Nat.le_of_ble_eq_true rfl) ?_
  intro p e s m below meth c ls A C hl hK hA hP hD hS
  have hl : lv_has ls 4 [(0, .ref (a 0)), (1, .int x1), (2, .int x2)] := hl
  have hx := C.1.1
  have hb := C.1.2.1
  have hts := C.1.2.2.2.2
  have hown := C.1.2.2.2.1
  have hin : ∀ w ∈ wsX90, w ∈ ws9_space := fun w h => List.mem_cons_of_mem _ (List.mem_append_right _ h)
  unfold f9_space at hf
  refine lv_aload_n hx hb dX9_space_0 rfl (lv_at hl 0 rfl) ?_
  refine lv_iload_n hx hb dX9_space_1 rfl (lv_at hl 1 rfl) ?_
  obtain ⟨r_2, h_1, hf⟩ := og_b hf
  try dsimp only at hf
  refine ck_r (v := .int r_2) (rest := []) C.1 (c9_c l D cI cJ cC a u x1 r_2 _ h_1) (cwV 1 hts g9_c rfl rfl rfl hd9_c ⟨Nat.le_of_ble_eq_true rfl, Nat.le_of_ble_eq_true rfl⟩) hK hP hD (q0 := 0) (ci := 6) rfl rfl rfl rfl hl.1 rfl (Nat.le_of_ble_eq_true rfl) ⟨Nat.zero_le _, Nat.zero_le _⟩ dX9_space_2 ?_
  refine lv_bipush (v := (32 : Int32)) hx hb dX9_space_5 (by decide) ?_
  refine lv_icmp_eq (tgt := 24) hx hb dX9_space_7 (by decide) (fun c_3 => ?_) (fun c_3 => ?_)
  · replace hf := og_t c_3 hf
    exact w9_space_24 C hK hA u x1 x2 hf hP hD hS (lv_sub hl [0, 1, 2] rfl)
  · replace hf := og_f c_3 hf
    refine lv_iload_n hx hb dX9_space_10 rfl (lv_at hl 2 rfl) ?_
    refine lv_if_eq (tgt := 28) hx hb dX9_space_11 (by decide) (fun c_4 => ?_) (fun c_4 => ?_)
    · replace hf := og_t c_4 hf
      exact w9_space_28 C hK hA u x1 x2 hf hP hD hS (lv_sub hl [0, 1, 2] rfl)
    · replace hf := og_f c_4 hf
      refine lv_aload_n hx hb dX9_space_14 rfl (lv_at hl 0 rfl) ?_
      refine lv_iload_n hx hb dX9_space_15 rfl (lv_at hl 1 rfl) ?_
      obtain ⟨r_6, h_5, hf⟩ := og_b hf
      try dsimp only at hf
      refine ck_r (v := .int r_6) (rest := []) C.1 (c9_c l D cI cJ cC a u x1 r_6 _ h_5) (cwV 1 hts g9_c rfl rfl rfl hd9_c ⟨Nat.le_of_ble_eq_true rfl, Nat.le_of_ble_eq_true rfl⟩) hK hP hD (q0 := 0) (ci := 6) rfl rfl rfl rfl hl.1 rfl (Nat.le_of_ble_eq_true rfl) ⟨Nat.zero_le _, Nat.zero_le _⟩ dX9_space_16 ?_
      refine lv_bipush (v := (10 : Int32)) hx hb dX9_space_19 (by decide) ?_
      refine lv_icmp_ne (tgt := 28) hx hb dX9_space_21 (by decide) (fun c_7 => ?_) (fun c_7 => ?_)
      · replace hf := og_f c_7 hf
        exact w9_space_28 C hK hA u x1 x2 hf hP hD hS (lv_sub hl [0, 1, 2] rfl)
      · replace hf := og_t c_7 hf
        exact w9_space_24 C hK hA u x1 x2 hf hP hD hS (lv_sub hl [0, 1, 2] rfl)
abbrev rm9_values : Room := { frames := 4, cells := 0, slots := 0, locals := 104 }
noncomputable abbrev ws9_values : List Cond := Cond.code yX9_values cX9_values 7 (some .int) :: WA9
theorem g9_values {c0 : Cond} : GoodIn (c0 :: WA9) (wsV RX9 206 RX9 yX9_values ws9_values) := gd9_v m9_150 m9_151 m9_152 m9_29 m9_123
theorem hd9_values : yX9_values.cls = RX9 ∧ yX9_values.cls ≠ "java/lang/invoke/MethodHandle" ∧ yX9_values.cls ≠ "java/lang/invoke/VarHandle" ∧ (parseMethodDescriptor yX9_values.desc).map (fun d => d.parameters.length) = some 3 := by decide +kernel
def f9_values_59 (k16 : Md → Int32 → Int32 → Int32 → Int32 → Int32 → Option (Int32 × Md)) (u : Md) (x1 : Int32) (x3 : Int32) (x4 : Int32) (x5 : Int32) (x6 : Int32) : Option (Int32 × Md) := (k16 u x1 x3 x4 x5 (x6 + (1 : Int32)))
set_option maxHeartbeats 4000000 in
set_option maxRecDepth 100000 in
theorem w9_values_59 {p : Program} {l : Launch} {e : Env} {s : State} {m : MethodId} {args : Array Value} {below : List Frame} {meth : Method} {c : Code} (C : Cx p s m args meth c cX9_values 7 ws9_values RX9 (some .int)) {D : va_G} {cI cJ cC : ClassId} {a : Nat → Nat} {A : Nat → Prop} (hK : va_K D vwCl (ty3 cI cJ cC) s) (hA : ∀ q : Nat, s.heap.size ≤ q → A q) {r : (Int32 × Md)} (k16 : Md → Int32 → Int32 → Int32 → Int32 → Int32 → Option (Int32 × Md)) (ih16 : ∀ (u : Md) (x1 : Int32) (x3 : Int32) (x4 : Int32) (x5 : Int32) (x6 : Int32), k16 u x1 x3 x4 x5 x6 = some r → ∀ {H : Heap} {locs : List Loc}, va_P D vwCl (cM cI cJ a u) H → va_D A (cM cI cJ a u) → va_S A s.heap H locs → ∀ {ls : Array Slot}, lv_has ls 7 [(0, .ref (a 0)), (1, .int x1), (3, .int x3), (4, .int x4), (5, .int x5), (6, .int x6)] → W p l e rm9_values s m args below meth c H locs 0 0 (MQ below (qW (some (.int r.1)) (cM cI cJ a r.2) D (ty3 cI cJ cC) A) args s 0 0 A) (F0 m 16 ls [])) : ∀ (u : Md) (x1 : Int32) (x3 : Int32) (x4 : Int32) (x5 : Int32) (x6 : Int32), f9_values_59 k16 u x1 x3 x4 x5 x6 = some r → ∀ {H : Heap} {locs : List Loc}, va_P D vwCl (cM cI cJ a u) H → va_D A (cM cI cJ a u) → va_S A s.heap H locs → ∀ {ls : Array Slot}, lv_has ls 7 [(0, .ref (a 0)), (1, .int x1), (3, .int x3), (4, .int x4), (5, .int x5), (6, .int x6)] → W p l e rm9_values s m args below meth c H locs 0 0 (MQ below (qW (some (.int r.1)) (cM cI cJ a r.2) D (ty3 cI cJ cC) A) args s 0 0 A) (F0 m 59 ls []) := by
  have hx := C.1.1
  have hb := C.1.2.1
  have hts := C.1.2.2.2.2
  have hown := C.1.2.2.2.1
  have hin : ∀ w ∈ wsX90, w ∈ ws9_values := fun w h => List.mem_cons_of_mem _ (List.mem_append_right _ h)
  intro u x1 x3 x4 x5 x6 hf H locs hP hD hS ls hl
  unfold f9_values_59 at hf
  refine lv_iinc (v := (x6 + (1 : Int32))) (lv' := [(6, .int (x6 + (1 : Int32))), (0, .ref (a 0)), (1, .int x1), (3, .int x3), (4, .int x4), (5, .int x5)]) hx hb dX9_values_59 hl (k := 5) rfl rfl (by decide) rfl (fun ls hl => ?_)
  refine lv_goto (tgt := 16) hx hb dX9_values_62 (by decide) ?_
  exact ih16 u x1 x3 x4 x5 (x6 + (1 : Int32)) hf hP hD hS (lv_sub hl [1, 2, 3, 4, 5, 0] rfl)
def f9_values_16 : Nat → Md → Int32 → Int32 → Int32 → Int32 → Int32 → Option (Int32 × Md)
  | 0, _, _, _, _, _, _ => none
  | n + 1, u, x1, x3, x4, x5, x6 => (if x5 ≤ x6 then (some (x4, u)) else (if (gi u 18) = (-1 : Int32) then ((f9_space u x4 x3).bind fun p_7 => (if (gi p_7.2 18) = (-1 : Int32) then ((f9_readValue p_7.2 x1 x6 p_7.1).bind fun p_11 => (f9_values_59 (f9_values_16 n) p_11.2 x1 x3 p_11.1 x5 x6)) else (f9_values_59 (f9_values_16 n) p_7.2 x1 x3 p_7.1 x5 x6))) else (some (x4, u))))
set_option maxHeartbeats 4000000 in
set_option maxRecDepth 100000 in
theorem w9_values_16 {p : Program} {l : Launch} {e : Env} {s : State} {m : MethodId} {args : Array Value} {below : List Frame} {meth : Method} {c : Code} (C : Cx p s m args meth c cX9_values 7 ws9_values RX9 (some .int)) {D : va_G} {cI cJ cC : ClassId} {a : Nat → Nat} {A : Nat → Prop} (hK : va_K D vwCl (ty3 cI cJ cC) s) (hA : ∀ q : Nat, s.heap.size ≤ q → A q) {r : (Int32 × Md)} : ∀ (n : Nat), ∀ (u : Md) (x1 : Int32) (x3 : Int32) (x4 : Int32) (x5 : Int32) (x6 : Int32), f9_values_16 n u x1 x3 x4 x5 x6 = some r → ∀ {H : Heap} {locs : List Loc}, va_P D vwCl (cM cI cJ a u) H → va_D A (cM cI cJ a u) → va_S A s.heap H locs → ∀ {ls : Array Slot}, lv_has ls 7 [(0, .ref (a 0)), (1, .int x1), (3, .int x3), (4, .int x4), (5, .int x5), (6, .int x6)] → W p l e rm9_values s m args below meth c H locs 0 0 (MQ below (qW (some (.int r.1)) (cM cI cJ a r.2) D (ty3 cI cJ cC) A) args s 0 0 A) (F0 m 16 ls []) := by
  have hx := C.1.1
  have hb := C.1.2.1
  have hts := C.1.2.2.2.2
  have hown := C.1.2.2.2.1
  have hin : ∀ w ∈ wsX90, w ∈ ws9_values := fun w h => List.mem_cons_of_mem _ (List.mem_append_right _ h)
  intro n
  induction n with
  | zero =>
    intro u x1 x3 x4 x5 x6 hf H locs hP hD hS ls hl
    cases hf
  | succ n ih =>
    intro u x1 x3 x4 x5 x6 hf H locs hP hD hS ls hl
    rw [f9_values_16] at hf
    refine lv_iload hx hb dX9_values_16 (lv_at hl 5 rfl) ?_
    refine lv_iload hx hb dX9_values_18 (lv_at hl 4 rfl) ?_
    refine lv_icmp_ge (tgt := 65) hx hb dX9_values_20 (by decide) (fun c_3 => ?_) (fun c_3 => ?_)
    · replace hf := og_t c_3 hf
      refine lv_iload hx hb dX9_values_65 (lv_at hl 3 rfl) ?_
      obtain rfl := og_s hf
      exact rw_i C hK hP hD hS dX9_values_67
    · replace hf := og_f c_3 hf
      refine lv_aload_n hx hb dX9_values_23 rfl (lv_at hl 0 rfl) ?_
      refine mg9 (v := .int (gi u 18)) C hin hK hP 18 (by decide) (hts (Cond.fieldLink RX9 84 "SchematicTextModel" "fault" "I") (List.mem_cons_of_mem _ m9_48)) rfl dX9_values_24 ?_
      refine lv_iconst (v := (-1 : Int32)) hx hb dX9_values_27 (by decide) ?_
      refine lv_icmp_ne (tgt := 65) hx hb dX9_values_28 (by decide) (fun c_4 => ?_) (fun c_4 => ?_)
      · replace hf := og_f c_4 hf
        refine lv_iload hx hb dX9_values_65 (lv_at hl 3 rfl) ?_
        obtain rfl := og_s hf
        exact rw_i C hK hP hD hS dX9_values_67
      · replace hf := og_t c_4 hf
        refine lv_aload_n hx hb dX9_values_31 rfl (lv_at hl 0 rfl) ?_
        refine lv_iload hx hb dX9_values_32 (lv_at hl 3 rfl) ?_
        refine lv_iload_n hx hb dX9_values_34 rfl (lv_at hl 2 rfl) ?_
        obtain ⟨⟨r_7, u_6⟩, h_5, hf⟩ := og_b hf
        try dsimp only at hf
        refine ck_w (ov := (some (.int r_7))) (st1 := [.int r_7]) (rest := []) C.1 (c9_space l D cI cJ cC a u x4 x3 r_7 u_6  _ h_5) (cwV 2 hts g9_space rfl rfl rfl hd9_space ⟨Nat.le_of_ble_eq_true rfl, Nat.le_of_ble_eq_true rfl⟩) hK hA hP hD hS (q0 := 0) (ci := 6) rfl rfl rfl rfl hl.1 rfl rfl (Nat.le_of_ble_eq_true rfl) ⟨Nat.zero_le _, Nat.zero_le _⟩ dX9_values_35 (fun H locs hP hD hS => ?_)
        refine lv_istore (lv' := [(4, .int r_7), (0, .ref (a 0)), (1, .int x1), (3, .int x3), (5, .int x5), (6, .int x6)]) hx hb dX9_values_38 hl (by decide) rfl (fun ls hl => ?_)
        refine lv_aload_n hx hb dX9_values_40 rfl (lv_at hl 1 rfl) ?_
        refine mg9 (v := .int (gi u_6 18)) C hin hK hP 18 (by decide) (hts (Cond.fieldLink RX9 84 "SchematicTextModel" "fault" "I") (List.mem_cons_of_mem _ m9_48)) rfl dX9_values_41 ?_
        refine lv_iconst (v := (-1 : Int32)) hx hb dX9_values_44 (by decide) ?_
        refine lv_icmp_ne (tgt := 59) hx hb dX9_values_45 (by decide) (fun c_8 => ?_) (fun c_8 => ?_)
        · replace hf := og_f c_8 hf
          exact w9_values_59 C hK hA (f9_values_16 n) (fun _ _ _ _ _ _ h9 => ih _ _ _ _ _ _ h9) u_6 x1 x3 r_7 x5 x6 hf hP hD hS (lv_sub hl [1, 2, 3, 0, 4, 5] rfl)
        · replace hf := og_t c_8 hf
          refine lv_aload_n hx hb dX9_values_48 rfl (lv_at hl 1 rfl) ?_
          refine lv_iload_n hx hb dX9_values_49 rfl (lv_at hl 2 rfl) ?_
          refine lv_iload hx hb dX9_values_50 (lv_at hl 5 rfl) ?_
          refine lv_iload hx hb dX9_values_52 (lv_at hl 0 rfl) ?_
          obtain ⟨⟨r_11, u_10⟩, h_9, hf⟩ := og_b hf
          try dsimp only at hf
          refine ck_w (ov := (some (.int r_11))) (st1 := [.int r_11]) (rest := []) C.1 (c9_readValue l D cI cJ cC a u_6 x1 x6 r_7 r_11 u_10  _ h_9) (cwV 3 hts g9_readValue rfl rfl rfl hd9_readValue ⟨Nat.le_of_ble_eq_true rfl, Nat.le_of_ble_eq_true rfl⟩) hK hA hP hD hS (q0 := 0) (ci := 6) rfl rfl rfl rfl hl.1 rfl rfl (Nat.le_of_ble_eq_true rfl) ⟨Nat.zero_le _, Nat.zero_le _⟩ dX9_values_54 (fun H locs hP hD hS => ?_)
          refine lv_istore (lv' := [(4, .int r_11), (0, .ref (a 0)), (1, .int x1), (3, .int x3), (5, .int x5), (6, .int x6)]) hx hb dX9_values_57 hl (by decide) rfl (fun ls hl => ?_)
          exact w9_values_59 C hK hA (f9_values_16 n) (fun _ _ _ _ _ _ h9 => ih _ _ _ _ _ _ h9) u_10 x1 x3 r_11 x5 x6 hf hP hD hS (lv_sub hl [1, 2, 3, 0, 4, 5] rfl)
def f9_values (u : Md) (x1 : Int32) (x2 : Int32) (x3 : Int32) : Option (Int32 × Md) := ((f9_fieldsIn x1 (gi u 16)).bind fun r_2 => (f9_values_16 FU u x1 x3 x2 r_2 (0 : Int32)))
set_option maxHeartbeats 4000000 in
set_option maxRecDepth 100000 in
theorem c9_values (l : Launch) (D : va_G) (cI cJ cC : ClassId) (a : Nat → Nat) (u : Md) (x1 : Int32) (x2 : Int32) (x3 : Int32) (r : Int32) (v : Md) (sz : Nat) (hf : f9_values u x1 x2 x3 = some (r, v)) : Met l yX9_values ws9_values rm9_values (pW D (ty3 cI cJ cC) (cM cI cJ a u) sz [.ref (a 0), .int x1, .int x2, .int x3]) (qW (some (.int r)) (cM cI cJ a v) D (ty3 cI cJ cC) (va_A (cM cI cJ a u) sz)) 0 0 (va_A (cM cI cJ a u) sz) := by
  refine mt_w (cc := cX9_values) (maxL := 7) (ret := (some .int)) (by decide) rfl (Nat.le_of_ble_eq_true rfl) ?_
  intro p e s m below meth c ls A C hl hK hA hP hD hS
  have hl : lv_has ls 7 [(0, .ref (a 0)), (1, .int x1), (2, .int x2), (3, .int x3)] := hl
  have hx := C.1.1
  have hb := C.1.2.1
  have hts := C.1.2.2.2.2
  have hown := C.1.2.2.2.1
  have hin : ∀ w ∈ wsX90, w ∈ ws9_values := fun w h => List.mem_cons_of_mem _ (List.mem_append_right _ h)
  unfold f9_values at hf
  refine lv_iload_n hx hb dX9_values_0 rfl (lv_at hl 2 rfl) ?_
  refine lv_istore (lv' := [(4, .int x2), (0, .ref (a 0)), (1, .int x1), (2, .int x2), (3, .int x3)]) hx hb dX9_values_1 hl (by decide) rfl (fun ls hl => ?_)
  refine lv_iload_n hx hb dX9_values_3 rfl (lv_at hl 2 rfl) ?_
  refine lv_aload_n hx hb dX9_values_4 rfl (lv_at hl 1 rfl) ?_
  refine mg9 (v := .int (gi u 16)) C hin hK hP 16 (by decide) (hts (Cond.fieldLink RX9 178 "SchematicTextModel" "version" "I") (List.mem_cons_of_mem _ m9_124)) rfl dX9_values_5 ?_
  obtain ⟨r_2, h_1, hf⟩ := og_b hf
  try dsimp only at hf
  refine ck_s (v := .int r_2) (rest := []) C.1 (c9_fieldsIn l x1 (gi u 16) r_2 h_1) (va_cwS 2 hts g9_fieldsIn rfl rfl rfl hd9_fieldsIn ⟨Nat.le_of_ble_eq_true rfl, Nat.le_of_ble_eq_true rfl⟩) rfl hl.1 rfl (Nat.le_of_ble_eq_true rfl) ⟨Nat.zero_le _, Nat.zero_le _⟩ dX9_values_8 ?_
  refine lv_istore (lv' := [(5, .int r_2), (4, .int x2), (0, .ref (a 0)), (1, .int x1), (2, .int x2), (3, .int x3)]) hx hb dX9_values_11 hl (by decide) rfl (fun ls hl => ?_)
  refine lv_iconst (v := (0 : Int32)) hx hb dX9_values_13 (by decide) ?_
  refine lv_istore (lv' := [(6, .int (0 : Int32)), (5, .int r_2), (4, .int x2), (0, .ref (a 0)), (1, .int x1), (2, .int x2), (3, .int x3)]) hx hb dX9_values_14 hl (by decide) rfl (fun ls hl => ?_)
  exact w9_values_16 C hK hA FU u x1 x3 x2 r_2 (0 : Int32) hf hP hD hS (lv_sub hl [3, 4, 6, 2, 1, 0] rfl)
abbrev rm9_readVersion : Room := { frames := 3, cells := 0, slots := 0, locals := 79 }
noncomputable abbrev ws9_readVersion : List Cond := Cond.code yX9_readVersion cX9_readVersion 5 (some .int) :: WA9
theorem g9_readVersion {c0 : Cond} : GoodIn (c0 :: WA9) (wsV RX9 203 RX9 yX9_readVersion ws9_readVersion) := gd9_v m9_147 m9_148 m9_149 m9_29 m9_137
theorem hd9_readVersion : yX9_readVersion.cls = RX9 ∧ yX9_readVersion.cls ≠ "java/lang/invoke/MethodHandle" ∧ yX9_readVersion.cls ≠ "java/lang/invoke/VarHandle" ∧ (parseMethodDescriptor yX9_readVersion.desc).map (fun d => d.parameters.length) = some 2 := by decide +kernel
def f9_readVersion (u : Md) (x1 : Int32) (x2 : Int32) : Option (Int32 × Md) := ((f9_space u x1 x2).bind fun p_3 => (if (gi p_3.2 18) = (-1 : Int32) then ((f9_readNumber p_3.2 p_3.1 (0 : Int32) (1 : Int64) (3 : Int64)).bind fun p_7 => (some (p_7.1, (si p_7.2 16 ((gl p_7.2)).toInt32)))) else (some (p_3.1, p_3.2))))
set_option maxHeartbeats 4000000 in
set_option maxRecDepth 100000 in
theorem c9_readVersion (l : Launch) (D : va_G) (cI cJ cC : ClassId) (a : Nat → Nat) (u : Md) (x1 : Int32) (x2 : Int32) (r : Int32) (v : Md) (sz : Nat) (hf : f9_readVersion u x1 x2 = some (r, v)) : Met l yX9_readVersion ws9_readVersion rm9_readVersion (pW D (ty3 cI cJ cC) (cM cI cJ a u) sz [.ref (a 0), .int x1, .int x2]) (qW (some (.int r)) (cM cI cJ a v) D (ty3 cI cJ cC) (va_A (cM cI cJ a u) sz)) 0 0 (va_A (cM cI cJ a u) sz) := by
  refine mt_w (cc := cX9_readVersion) (maxL := 5) (ret := (some .int)) (by decide) rfl (Nat.le_of_ble_eq_true rfl) ?_
  intro p e s m below meth c ls A C hl hK hA hP hD hS
  have hl : lv_has ls 5 [(0, .ref (a 0)), (1, .int x1), (2, .int x2)] := hl
  have hx := C.1.1
  have hb := C.1.2.1
  have hts := C.1.2.2.2.2
  have hown := C.1.2.2.2.1
  have hin : ∀ w ∈ wsX90, w ∈ ws9_readVersion := fun w h => List.mem_cons_of_mem _ (List.mem_append_right _ h)
  unfold f9_readVersion at hf
  refine lv_aload_n hx hb dX9_readVersion_0 rfl (lv_at hl 0 rfl) ?_
  refine lv_iload_n hx hb dX9_readVersion_1 rfl (lv_at hl 1 rfl) ?_
  refine lv_iload_n hx hb dX9_readVersion_2 rfl (lv_at hl 2 rfl) ?_
  obtain ⟨⟨r_3, u_2⟩, h_1, hf⟩ := og_b hf
  try dsimp only at hf
  refine ck_w (ov := (some (.int r_3))) (st1 := [.int r_3]) (rest := []) C.1 (c9_space l D cI cJ cC a u x1 x2 r_3 u_2  _ h_1) (cwV 2 hts g9_space rfl rfl rfl hd9_space ⟨Nat.le_of_ble_eq_true rfl, Nat.le_of_ble_eq_true rfl⟩) hK hA hP hD hS (q0 := 0) (ci := 6) rfl rfl rfl rfl hl.1 rfl rfl (Nat.le_of_ble_eq_true rfl) ⟨Nat.zero_le _, Nat.zero_le _⟩ dX9_readVersion_3 (fun H locs hP hD hS => ?_)
  refine lv_istore_n (lv' := [(3, .int r_3), (0, .ref (a 0)), (1, .int x1), (2, .int x2)]) hx hb dX9_readVersion_6 rfl hl (by decide) rfl (fun ls hl => ?_)
  refine lv_aload_n hx hb dX9_readVersion_7 rfl (lv_at hl 1 rfl) ?_
  refine mg9 (v := .int (gi u_2 18)) C hin hK hP 18 (by decide) (hts (Cond.fieldLink RX9 84 "SchematicTextModel" "fault" "I") (List.mem_cons_of_mem _ m9_48)) rfl dX9_readVersion_8 ?_
  refine lv_iconst (v := (-1 : Int32)) hx hb dX9_readVersion_11 (by decide) ?_
  refine lv_icmp_eq (tgt := 17) hx hb dX9_readVersion_12 (by decide) (fun c_4 => ?_) (fun c_4 => ?_)
  · replace hf := og_t c_4 hf
    refine lv_aload_n hx hb dX9_readVersion_17 rfl (lv_at hl 1 rfl) ?_
    refine lv_iload_n hx hb dX9_readVersion_18 rfl (lv_at hl 0 rfl) ?_
    refine lv_iconst (v := (0 : Int32)) hx hb dX9_readVersion_19 (by decide) ?_
    refine lv_lconst (v := (1 : Int64)) hx hb dX9_readVersion_20 (by decide) ?_
    refine lv_ldc2 (v := (3 : Int64)) hx hb hown (hts (Cond.constantLong RX9 195 (3)) (List.mem_cons_of_mem _ m9_138)) dX9_readVersion_21 ?_
    obtain ⟨⟨r_7, u_6⟩, h_5, hf⟩ := og_b hf
    try dsimp only at hf
    refine ck_w (ov := (some (.int r_7))) (st1 := [.int r_7]) (rest := []) C.1 (c9_readNumber l D cI cJ cC a u_2 r_3 (0 : Int32) (1 : Int64) (3 : Int64) r_7 u_6  _ h_5) (cwV 4 hts g9_readNumber rfl rfl rfl hd9_readNumber ⟨Nat.le_of_ble_eq_true rfl, Nat.le_of_ble_eq_true rfl⟩) hK hA hP hD hS (q0 := 0) (ci := 6) rfl rfl rfl rfl hl.1 rfl rfl (Nat.le_of_ble_eq_true rfl) ⟨Nat.zero_le _, Nat.zero_le _⟩ dX9_readVersion_24 (fun H locs hP hD hS => ?_)
    refine lv_istore (lv' := [(4, .int r_7), (3, .int r_3), (0, .ref (a 0)), (1, .int x1), (2, .int x2)]) hx hb dX9_readVersion_27 hl (by decide) rfl (fun ls hl => ?_)
    refine lv_aload_n hx hb dX9_readVersion_29 rfl (lv_at hl 2 rfl) ?_
    refine lv_aload_n hx hb dX9_readVersion_30 rfl (lv_at hl 2 rfl) ?_
    refine mg9 (v := .long (gl u_6)) C hin hK hP 28 (by decide) (hts (Cond.fieldLink RX9 115 "SchematicTextModel" "lastNumber" "J") (List.mem_cons_of_mem _ m9_69)) rfl dX9_readVersion_31 ?_
    refine lv_l2i (v := ((gl u_6)).toInt32) hx hb dX9_readVersion_34 rfl ?_
    refine mp9_16 C hin hK hP hD hS (hts (Cond.fieldLink RX9 178 "SchematicTextModel" "version" "I") (List.mem_cons_of_mem _ m9_124)) dX9_readVersion_35 (fun H locs hP hD hS => ?_)
    refine lv_iload hx hb dX9_readVersion_38 (lv_at hl 0 rfl) ?_
    obtain ⟨rfl, rfl⟩ := Prod.mk.inj (og_s hf)
    exact rw_i C hK hP hD hS dX9_readVersion_40
  · replace hf := og_f c_4 hf
    refine lv_iload_n hx hb dX9_readVersion_15 rfl (lv_at hl 0 rfl) ?_
    obtain ⟨rfl, rfl⟩ := Prod.mk.inj (og_s hf)
    exact rw_i C hK hP hD hS dX9_readVersion_16
abbrev rm9_openList : Room := { frames := 5, cells := 0, slots := 0, locals := 130 }
noncomputable abbrev ws9_openList : List Cond := Cond.code yX9_openList cX9_openList 6 (some .int) :: WA9
theorem g9_openList {c0 : Cond} : GoodIn (c0 :: WA9) (wsV RX9 213 RX9 yX9_openList ws9_openList) := gd9_v m9_154 m9_155 m9_156 m9_29 m9_139
theorem hd9_openList : yX9_openList.cls = RX9 ∧ yX9_openList.cls ≠ "java/lang/invoke/MethodHandle" ∧ yX9_openList.cls ≠ "java/lang/invoke/VarHandle" ∧ (parseMethodDescriptor yX9_openList.desc).map (fun d => d.parameters.length) = some 2 := by decide +kernel
def f9_openList_112 (u : Md) (x1 : Int32) (x2 : Int32) (x5 : Int32) : Option (Int32 × Md) := ((f9_keep u x1 x5).bind fun u_30 => ((f9_passList u_30 x5 x2).bind fun p_33 => (some (p_33.1, (si p_33.2 17 ((gi p_33.2 17) + (1 : Int32)))))))
set_option maxHeartbeats 4000000 in
set_option maxRecDepth 100000 in
theorem w9_openList_112 {p : Program} {l : Launch} {e : Env} {s : State} {m : MethodId} {args : Array Value} {below : List Frame} {meth : Method} {c : Code} (C : Cx p s m args meth c cX9_openList 6 ws9_openList RX9 (some .int)) {D : va_G} {cI cJ cC : ClassId} {a : Nat → Nat} {A : Nat → Prop} (hK : va_K D vwCl (ty3 cI cJ cC) s) (hA : ∀ q : Nat, s.heap.size ≤ q → A q) {r : (Int32 × Md)} : ∀ (u : Md) (x1 : Int32) (x2 : Int32) (x5 : Int32), f9_openList_112 u x1 x2 x5 = some r → ∀ {H : Heap} {locs : List Loc}, va_P D vwCl (cM cI cJ a u) H → va_D A (cM cI cJ a u) → va_S A s.heap H locs → ∀ {ls : Array Slot}, lv_has ls 6 [(0, .ref (a 0)), (1, .int x1), (2, .int x2), (5, .int x5)] → W p l e rm9_openList s m args below meth c H locs 0 0 (MQ below (qW (some (.int r.1)) (cM cI cJ a r.2) D (ty3 cI cJ cC) A) args s 0 0 A) (F0 m 112 ls []) := by
  have hx := C.1.1
  have hb := C.1.2.1
  have hts := C.1.2.2.2.2
  have hown := C.1.2.2.2.1
  have hin : ∀ w ∈ wsX90, w ∈ ws9_openList := fun w h => List.mem_cons_of_mem _ (List.mem_append_right _ h)
  intro u x1 x2 x5 hf H locs hP hD hS ls hl
  unfold f9_openList_112 at hf
  refine lv_aload_n hx hb dX9_openList_112 rfl (lv_at hl 0 rfl) ?_
  refine lv_iload_n hx hb dX9_openList_113 rfl (lv_at hl 1 rfl) ?_
  refine lv_iload hx hb dX9_openList_114 (lv_at hl 3 rfl) ?_
  obtain ⟨u_30, h_29, hf⟩ := og_b hf
  try dsimp only at hf
  refine ck_w (ov := none) (st1 := []) (rest := []) C.1 (c9_keep l D cI cJ cC a u x1 x5 u_30  _ h_29) (cwV 2 hts g9_keep rfl rfl rfl hd9_keep ⟨Nat.le_of_ble_eq_true rfl, Nat.le_of_ble_eq_true rfl⟩) hK hA hP hD hS (q0 := 0) (ci := 6) rfl rfl rfl rfl hl.1 rfl rfl (Nat.le_of_ble_eq_true rfl) ⟨Nat.zero_le _, Nat.zero_le _⟩ dX9_openList_116 (fun H locs hP hD hS => ?_)
  refine lv_aload_n hx hb dX9_openList_119 rfl (lv_at hl 0 rfl) ?_
  refine lv_iload hx hb dX9_openList_120 (lv_at hl 3 rfl) ?_
  refine lv_iload_n hx hb dX9_openList_122 rfl (lv_at hl 2 rfl) ?_
  obtain ⟨⟨r_33, u_32⟩, h_31, hf⟩ := og_b hf
  try dsimp only at hf
  refine ck_w (ov := (some (.int r_33))) (st1 := [.int r_33]) (rest := []) C.1 (c9_passList l D cI cJ cC a u_30 x5 x2 r_33 u_32  _ h_31) (cwV 2 hts g9_passList rfl rfl rfl hd9_passList ⟨Nat.le_of_ble_eq_true rfl, Nat.le_of_ble_eq_true rfl⟩) hK hA hP hD hS (q0 := 0) (ci := 6) rfl rfl rfl rfl hl.1 rfl rfl (Nat.le_of_ble_eq_true rfl) ⟨Nat.zero_le _, Nat.zero_le _⟩ dX9_openList_123 (fun H locs hP hD hS => ?_)
  refine lv_istore (lv' := [(5, .int r_33), (0, .ref (a 0)), (1, .int x1), (2, .int x2)]) hx hb dX9_openList_126 hl (by decide) rfl (fun ls hl => ?_)
  refine lv_aload_n hx hb dX9_openList_128 rfl (lv_at hl 1 rfl) ?_
  refine lv_dup hx hb dX9_openList_129 rfl ?_
  refine mg9 (v := .int (gi u_32 17)) C hin hK hP 17 (by decide) (hts (Cond.fieldLink RX9 122 "SchematicTextModel" "found" "I") (List.mem_cons_of_mem _ m9_78)) rfl dX9_openList_130 ?_
  refine lv_iconst (v := (1 : Int32)) hx hb dX9_openList_133 (by decide) ?_
  refine lv_iadd hx hb dX9_openList_134 ?_
  refine mp9_17 C hin hK hP hD hS (hts (Cond.fieldLink RX9 122 "SchematicTextModel" "found" "I") (List.mem_cons_of_mem _ m9_78)) dX9_openList_135 (fun H locs hP hD hS => ?_)
  refine lv_iload hx hb dX9_openList_138 (lv_at hl 0 rfl) ?_
  obtain rfl := og_s hf
  exact rw_i C hK hP hD hS dX9_openList_140
def f9_openList_165 (u : Md) (x2 : Int32) (x4 : Int32) (y0 : Int32) : Option (Int32 × Md) := (if x2 < 0 ∨ 201 ≤ (x2).toNatClampNeg then none else (if x2 < 0 ∨ 201 ≤ (x2).toNatClampNeg then none else (some (y0, (si (si (sa (sa u 23 (upd (ga u 23) (x2).toNatClampNeg (gi u 17))) 24 (upd (ga u 24) (x2).toNatClampNeg x4)) 17 ((gi u 17) + (1 : Int32))) 29 (x2 + (1 : Int32)))))))
set_option maxHeartbeats 4000000 in
set_option maxRecDepth 100000 in
theorem w9_openList_165 {p : Program} {l : Launch} {e : Env} {s : State} {m : MethodId} {args : Array Value} {below : List Frame} {meth : Method} {c : Code} (C : Cx p s m args meth c cX9_openList 6 ws9_openList RX9 (some .int)) {D : va_G} {cI cJ cC : ClassId} {a : Nat → Nat} {A : Nat → Prop} (hK : va_K D vwCl (ty3 cI cJ cC) s) (hA : ∀ q : Nat, s.heap.size ≤ q → A q) {r : (Int32 × Md)} : ∀ (u : Md) (x2 : Int32) (x4 : Int32) (y0 : Int32), f9_openList_165 u x2 x4 y0 = some r → ∀ {H : Heap} {locs : List Loc}, va_P D vwCl (cM cI cJ a u) H → va_D A (cM cI cJ a u) → va_S A s.heap H locs → ∀ {ls : Array Slot}, lv_has ls 6 [(0, .ref (a 0)), (2, .int x2), (4, .int x4)] → W p l e rm9_openList s m args below meth c H locs 0 0 (MQ below (qW (some (.int r.1)) (cM cI cJ a r.2) D (ty3 cI cJ cC) A) args s 0 0 A) (F0 m 165 ls [.int y0]) := by
  have hx := C.1.1
  have hb := C.1.2.1
  have hts := C.1.2.2.2.2
  have hown := C.1.2.2.2.1
  have hin : ∀ w ∈ wsX90, w ∈ ws9_openList := fun w h => List.mem_cons_of_mem _ (List.mem_append_right _ h)
  intro u x2 x4 y0 hf H locs hP hD hS ls hl
  unfold f9_openList_165 at hf
  refine lv_istore (lv' := [(5, .int y0), (0, .ref (a 0)), (2, .int x2), (4, .int x4)]) hx hb dX9_openList_165 hl (by decide) rfl (fun ls hl => ?_)
  refine lv_aload_n hx hb dX9_openList_167 rfl (lv_at hl 1 rfl) ?_
  refine mg9 (v := .ref (a 23)) C hin hK hP 23 (by decide) (hts (Cond.fieldLink RX9 38 "SchematicTextModel" "open" "[I") (List.mem_cons_of_mem _ m9_15)) rfl dX9_openList_168 ?_
  refine lv_iload_n hx hb dX9_openList_171 rfl (lv_at hl 2 rfl) ?_
  refine lv_aload_n hx hb dX9_openList_172 rfl (lv_at hl 1 rfl) ?_
  refine mg9 (v := .int (gi u 17)) C hin hK hP 17 (by decide) (hts (Cond.fieldLink RX9 122 "SchematicTextModel" "found" "I") (List.mem_cons_of_mem _ m9_78)) rfl dX9_openList_173 ?_
  obtain ⟨h_27, hf⟩ := og_n hf
  refine ms9_23 C hK hP hD hS (f := (ga u 23)) rfl h_27 dX9_openList_176 (fun H locs hP hD hS => ?_)
  refine lv_aload_n hx hb dX9_openList_177 rfl (lv_at hl 1 rfl) ?_
  refine mg9 (v := .ref (a 24)) C hin hK hP 24 (by decide) (hts (Cond.fieldLink RX9 41 "SchematicTextModel" "openKind" "[I") (List.mem_cons_of_mem _ m9_16)) rfl dX9_openList_178 ?_
  refine lv_iload_n hx hb dX9_openList_181 rfl (lv_at hl 2 rfl) ?_
  refine lv_iload hx hb dX9_openList_182 (lv_at hl 3 rfl) ?_
  obtain ⟨h_28, hf⟩ := og_n hf
  refine ms9_24 C hK hP hD hS (f := (ga u 24)) rfl h_28 dX9_openList_184 (fun H locs hP hD hS => ?_)
  refine lv_aload_n hx hb dX9_openList_185 rfl (lv_at hl 1 rfl) ?_
  refine lv_dup hx hb dX9_openList_186 rfl ?_
  refine mg9 (v := .int (gi u 17)) C hin hK hP 17 (by decide) (hts (Cond.fieldLink RX9 122 "SchematicTextModel" "found" "I") (List.mem_cons_of_mem _ m9_78)) rfl dX9_openList_187 ?_
  refine lv_iconst (v := (1 : Int32)) hx hb dX9_openList_190 (by decide) ?_
  refine lv_iadd hx hb dX9_openList_191 ?_
  refine mp9_17 C hin hK hP hD hS (hts (Cond.fieldLink RX9 122 "SchematicTextModel" "found" "I") (List.mem_cons_of_mem _ m9_78)) dX9_openList_192 (fun H locs hP hD hS => ?_)
  refine lv_aload_n hx hb dX9_openList_195 rfl (lv_at hl 1 rfl) ?_
  refine lv_iload_n hx hb dX9_openList_196 rfl (lv_at hl 2 rfl) ?_
  refine lv_iconst (v := (1 : Int32)) hx hb dX9_openList_197 (by decide) ?_
  refine lv_iadd hx hb dX9_openList_198 ?_
  refine mp9_29 C hin hK hP hD hS (hts (Cond.fieldLink RX9 210 "SchematicTextModel" "depthNow" "I") (List.mem_cons_of_mem _ m9_140)) dX9_openList_199 (fun H locs hP hD hS => ?_)
  refine lv_iload hx hb dX9_openList_202 (lv_at hl 0 rfl) ?_
  obtain rfl := og_s hf
  exact rw_i C hK hP hD hS dX9_openList_204
def f9_openList_68 (u : Md) (x1 : Int32) (x2 : Int32) (x3 : Int32) (y0 : Int32) : Option (Int32 × Md) := (if y0 = (-1 : Int32) then (some (x1, u)) else ((f9_nameEnd u x3).bind fun r_13 => (if y0 = (9 : Int32) then (if (gi u 15) = 0 then (f9_openList_112 u x1 x2 r_13) else (if (gi u 17) < 0 ∨ 200 ≤ ((gi u 17)).toNatClampNeg then none else (f9_openList_112 (sa u 10 (upd (ga u 10) ((gi u 17)).toNatClampNeg (gi u 22))) x1 x2 r_13))) else (if y0 = 0 then ((f9_readVersion u r_13 (1 : Int32)).bind fun p_21 => (f9_openList_165 p_21.2 x2 y0 p_21.1)) else ((f9_values u y0 r_13 (1 : Int32)).bind fun p_18 => (f9_openList_165 p_18.2 x2 y0 p_18.1))))))
set_option maxHeartbeats 4000000 in
set_option maxRecDepth 100000 in
theorem w9_openList_68 {p : Program} {l : Launch} {e : Env} {s : State} {m : MethodId} {args : Array Value} {below : List Frame} {meth : Method} {c : Code} (C : Cx p s m args meth c cX9_openList 6 ws9_openList RX9 (some .int)) {D : va_G} {cI cJ cC : ClassId} {a : Nat → Nat} {A : Nat → Prop} (hK : va_K D vwCl (ty3 cI cJ cC) s) (hA : ∀ q : Nat, s.heap.size ≤ q → A q) {r : (Int32 × Md)} : ∀ (u : Md) (x1 : Int32) (x2 : Int32) (x3 : Int32) (y0 : Int32), f9_openList_68 u x1 x2 x3 y0 = some r → ∀ {H : Heap} {locs : List Loc}, va_P D vwCl (cM cI cJ a u) H → va_D A (cM cI cJ a u) → va_S A s.heap H locs → ∀ {ls : Array Slot}, lv_has ls 6 [(0, .ref (a 0)), (1, .int x1), (2, .int x2), (3, .int x3)] → W p l e rm9_openList s m args below meth c H locs 0 0 (MQ below (qW (some (.int r.1)) (cM cI cJ a r.2) D (ty3 cI cJ cC) A) args s 0 0 A) (F0 m 68 ls [.int y0]) := by
  have hx := C.1.1
  have hb := C.1.2.1
  have hts := C.1.2.2.2.2
  have hown := C.1.2.2.2.1
  have hin : ∀ w ∈ wsX90, w ∈ ws9_openList := fun w h => List.mem_cons_of_mem _ (List.mem_append_right _ h)
  intro u x1 x2 x3 y0 hf H locs hP hD hS ls hl
  unfold f9_openList_68 at hf
  refine lv_istore (lv' := [(4, .int y0), (0, .ref (a 0)), (1, .int x1), (2, .int x2), (3, .int x3)]) hx hb dX9_openList_68 hl (by decide) rfl (fun ls hl => ?_)
  refine lv_iload hx hb dX9_openList_70 (lv_at hl 0 rfl) ?_
  refine lv_iconst (v := (-1 : Int32)) hx hb dX9_openList_72 (by decide) ?_
  refine lv_icmp_ne (tgt := 78) hx hb dX9_openList_73 (by decide) (fun c_11 => ?_) (fun c_11 => ?_)
  · replace hf := og_f c_11 hf
    refine lv_aload_n hx hb dX9_openList_78 rfl (lv_at hl 1 rfl) ?_
    refine lv_iload_n hx hb dX9_openList_79 rfl (lv_at hl 4 rfl) ?_
    obtain ⟨r_13, h_12, hf⟩ := og_b hf
    try dsimp only at hf
    refine ck_r (v := .int r_13) (rest := []) C.1 (c9_nameEnd l D cI cJ cC a u x3 r_13 _ h_12) (cwV 1 hts g9_nameEnd rfl rfl rfl hd9_nameEnd ⟨Nat.le_of_ble_eq_true rfl, Nat.le_of_ble_eq_true rfl⟩) hK hP hD (q0 := 0) (ci := 6) rfl rfl rfl rfl hl.1 rfl (Nat.le_of_ble_eq_true rfl) ⟨Nat.zero_le _, Nat.zero_le _⟩ dX9_openList_80 ?_
    refine lv_istore (lv' := [(5, .int r_13), (4, .int y0), (0, .ref (a 0)), (1, .int x1), (2, .int x2), (3, .int x3)]) hx hb dX9_openList_83 hl (by decide) rfl (fun ls hl => ?_)
    refine lv_iload hx hb dX9_openList_85 (lv_at hl 1 rfl) ?_
    refine lv_bipush (v := (9 : Int32)) hx hb dX9_openList_87 (by decide) ?_
    refine lv_icmp_ne (tgt := 141) hx hb dX9_openList_89 (by decide) (fun c_14 => ?_) (fun c_14 => ?_)
    · replace hf := og_f c_14 hf
      refine lv_iload hx hb dX9_openList_141 (lv_at hl 1 rfl) ?_
      refine lv_if_ne (tgt := 156) hx hb dX9_openList_143 (by decide) (fun c_15 => ?_) (fun c_15 => ?_)
      · replace hf := og_f c_15 hf
        refine lv_aload_n hx hb dX9_openList_156 rfl (lv_at hl 2 rfl) ?_
        refine lv_iload hx hb dX9_openList_157 (lv_at hl 1 rfl) ?_
        refine lv_iload hx hb dX9_openList_159 (lv_at hl 0 rfl) ?_
        refine lv_iconst (v := (1 : Int32)) hx hb dX9_openList_161 (by decide) ?_
        obtain ⟨⟨r_18, u_17⟩, h_16, hf⟩ := og_b hf
        try dsimp only at hf
        refine ck_w (ov := (some (.int r_18))) (st1 := [.int r_18]) (rest := []) C.1 (c9_values l D cI cJ cC a u y0 r_13 (1 : Int32) r_18 u_17  _ h_16) (cwV 3 hts g9_values rfl rfl rfl hd9_values ⟨Nat.le_of_ble_eq_true rfl, Nat.le_of_ble_eq_true rfl⟩) hK hA hP hD hS (q0 := 0) (ci := 6) rfl rfl rfl rfl hl.1 rfl rfl (Nat.le_of_ble_eq_true rfl) ⟨Nat.zero_le _, Nat.zero_le _⟩ dX9_openList_162 (fun H locs hP hD hS => ?_)
        exact w9_openList_165 C hK hA u_17 x2 y0 r_18 hf hP hD hS (lv_sub hl [2, 4, 1] rfl)
      · replace hf := og_t c_15 hf
        refine lv_aload_n hx hb dX9_openList_146 rfl (lv_at hl 2 rfl) ?_
        refine lv_iload hx hb dX9_openList_147 (lv_at hl 0 rfl) ?_
        refine lv_iconst (v := (1 : Int32)) hx hb dX9_openList_149 (by decide) ?_
        obtain ⟨⟨r_21, u_20⟩, h_19, hf⟩ := og_b hf
        try dsimp only at hf
        refine ck_w (ov := (some (.int r_21))) (st1 := [.int r_21]) (rest := []) C.1 (c9_readVersion l D cI cJ cC a u r_13 (1 : Int32) r_21 u_20  _ h_19) (cwV 2 hts g9_readVersion rfl rfl rfl hd9_readVersion ⟨Nat.le_of_ble_eq_true rfl, Nat.le_of_ble_eq_true rfl⟩) hK hA hP hD hS (q0 := 0) (ci := 6) rfl rfl rfl rfl hl.1 rfl rfl (Nat.le_of_ble_eq_true rfl) ⟨Nat.zero_le _, Nat.zero_le _⟩ dX9_openList_150 (fun H locs hP hD hS => ?_)
        refine lv_goto (tgt := 165) hx hb dX9_openList_153 (by decide) ?_
        exact w9_openList_165 C hK hA u_20 x2 y0 r_21 hf hP hD hS (lv_sub hl [2, 4, 1] rfl)
    · replace hf := og_t c_14 hf
      refine lv_aload_n hx hb dX9_openList_92 rfl (lv_at hl 2 rfl) ?_
      refine mg9 (v := .int (gi u 15)) C hin hK hP 15 (by decide) (hts (Cond.fieldLink RX9 119 "SchematicTextModel" "making" "Z") (List.mem_cons_of_mem _ m9_77)) rfl dX9_openList_93 ?_
      refine lv_if_eq (tgt := 112) hx hb dX9_openList_96 (by decide) (fun c_22 => ?_) (fun c_22 => ?_)
      · replace hf := og_t c_22 hf
        exact w9_openList_112 C hK hA u x1 x2 r_13 hf hP hD hS (lv_sub hl [2, 3, 4, 0] rfl)
      · replace hf := og_f c_22 hf
        refine lv_aload_n hx hb dX9_openList_99 rfl (lv_at hl 2 rfl) ?_
        refine mg9 (v := .ref (a 10)) C hin hK hP 10 (by decide) (hts (Cond.fieldLink RX9 29 "SchematicTextModel" "keptFrom" "[I") (List.mem_cons_of_mem _ m9_12)) rfl dX9_openList_100 ?_
        refine lv_aload_n hx hb dX9_openList_103 rfl (lv_at hl 2 rfl) ?_
        refine mg9 (v := .int (gi u 17)) C hin hK hP 17 (by decide) (hts (Cond.fieldLink RX9 122 "SchematicTextModel" "found" "I") (List.mem_cons_of_mem _ m9_78)) rfl dX9_openList_104 ?_
        refine lv_aload_n hx hb dX9_openList_107 rfl (lv_at hl 2 rfl) ?_
        refine mg9 (v := .int (gi u 22)) C hin hK hP 22 (by decide) (hts (Cond.fieldLink RX9 169 "SchematicTextModel" "keeps" "I") (List.mem_cons_of_mem _ m9_114)) rfl dX9_openList_108 ?_
        obtain ⟨h_23, hf⟩ := og_n hf
        refine ms9_10 C hK hP hD hS (f := (ga u 10)) rfl h_23 dX9_openList_111 (fun H locs hP hD hS => ?_)
        exact w9_openList_112 C hK hA (sa u 10 (upd (ga u 10) ((gi u 17)).toNatClampNeg (gi u 22))) x1 x2 r_13 hf hP hD hS (lv_sub hl [2, 3, 4, 0] rfl)
  · replace hf := og_t c_11 hf
    refine lv_iload_n hx hb dX9_openList_76 rfl (lv_at hl 2 rfl) ?_
    obtain rfl := og_s hf
    exact rw_i C hK hP hD hS dX9_openList_77
def f9_openList_65 (u : Md) (x1 : Int32) (x2 : Int32) (x3 : Int32) (y0 : Int32) (y1 : Int32) (y2 : Int32) : Option (Int32 × Md) := ((f9_beginObject u y2 y1 y0).bind fun p_26 => (f9_openList_68 p_26.2 x1 x2 x3 p_26.1))
set_option maxHeartbeats 4000000 in
set_option maxRecDepth 100000 in
theorem w9_openList_65 {p : Program} {l : Launch} {e : Env} {s : State} {m : MethodId} {args : Array Value} {below : List Frame} {meth : Method} {c : Code} (C : Cx p s m args meth c cX9_openList 6 ws9_openList RX9 (some .int)) {D : va_G} {cI cJ cC : ClassId} {a : Nat → Nat} {A : Nat → Prop} (hK : va_K D vwCl (ty3 cI cJ cC) s) (hA : ∀ q : Nat, s.heap.size ≤ q → A q) {r : (Int32 × Md)} : ∀ (u : Md) (x1 : Int32) (x2 : Int32) (x3 : Int32) (y0 : Int32) (y1 : Int32) (y2 : Int32), f9_openList_65 u x1 x2 x3 y0 y1 y2 = some r → ∀ {H : Heap} {locs : List Loc}, va_P D vwCl (cM cI cJ a u) H → va_D A (cM cI cJ a u) → va_S A s.heap H locs → ∀ {ls : Array Slot}, lv_has ls 6 [(0, .ref (a 0)), (1, .int x1), (2, .int x2), (3, .int x3)] → W p l e rm9_openList s m args below meth c H locs 0 0 (MQ below (qW (some (.int r.1)) (cM cI cJ a r.2) D (ty3 cI cJ cC) A) args s 0 0 A) (F0 m 65 ls [.int y0, .int y1, .int y2, .ref (a 0)]) := by
  have hx := C.1.1
  have hb := C.1.2.1
  have hts := C.1.2.2.2.2
  have hown := C.1.2.2.2.1
  have hin : ∀ w ∈ wsX90, w ∈ ws9_openList := fun w h => List.mem_cons_of_mem _ (List.mem_append_right _ h)
  intro u x1 x2 x3 y0 y1 y2 hf H locs hP hD hS ls hl
  unfold f9_openList_65 at hf
  obtain ⟨⟨r_26, u_25⟩, h_24, hf⟩ := og_b hf
  try dsimp only at hf
  refine ck_w (ov := (some (.int r_26))) (st1 := [.int r_26]) (rest := []) C.1 (c9_beginObject l D cI cJ cC a u y2 y1 y0 r_26 u_25  _ h_24) (cwV 3 hts g9_beginObject rfl rfl rfl hd9_beginObject ⟨Nat.le_of_ble_eq_true rfl, Nat.le_of_ble_eq_true rfl⟩) hK hA hP hD hS (q0 := 0) (ci := 6) rfl rfl rfl rfl hl.1 rfl rfl (Nat.le_of_ble_eq_true rfl) ⟨Nat.zero_le _, Nat.zero_le _⟩ dX9_openList_65 (fun H locs hP hD hS => ?_)
  exact w9_openList_68 C hK hA u_25 x1 x2 x3 r_26 hf hP hD hS (lv_sub hl [0, 1, 2, 3] rfl)
def f9_openList_49 (u : Md) (x1 : Int32) (x2 : Int32) (x3 : Int32) (y0 : Int32) (y1 : Int32) : Option (Int32 × Md) := (if x2 = 0 then (f9_openList_65 u x1 x2 x3 (-1 : Int32) y0 y1) else (if (x2 - (1 : Int32)) < 0 ∨ 201 ≤ ((x2 - (1 : Int32))).toNatClampNeg then none else (f9_openList_65 u x1 x2 x3 ((ga u 23) ((x2 - (1 : Int32))).toNatClampNeg) y0 y1)))
set_option maxHeartbeats 4000000 in
set_option maxRecDepth 100000 in
theorem w9_openList_49 {p : Program} {l : Launch} {e : Env} {s : State} {m : MethodId} {args : Array Value} {below : List Frame} {meth : Method} {c : Code} (C : Cx p s m args meth c cX9_openList 6 ws9_openList RX9 (some .int)) {D : va_G} {cI cJ cC : ClassId} {a : Nat → Nat} {A : Nat → Prop} (hK : va_K D vwCl (ty3 cI cJ cC) s) (hA : ∀ q : Nat, s.heap.size ≤ q → A q) {r : (Int32 × Md)} : ∀ (u : Md) (x1 : Int32) (x2 : Int32) (x3 : Int32) (y0 : Int32) (y1 : Int32), f9_openList_49 u x1 x2 x3 y0 y1 = some r → ∀ {H : Heap} {locs : List Loc}, va_P D vwCl (cM cI cJ a u) H → va_D A (cM cI cJ a u) → va_S A s.heap H locs → ∀ {ls : Array Slot}, lv_has ls 6 [(0, .ref (a 0)), (1, .int x1), (2, .int x2), (3, .int x3)] → W p l e rm9_openList s m args below meth c H locs 0 0 (MQ below (qW (some (.int r.1)) (cM cI cJ a r.2) D (ty3 cI cJ cC) A) args s 0 0 A) (F0 m 49 ls [.int y0, .int y1, .ref (a 0)]) := by
  have hx := C.1.1
  have hb := C.1.2.1
  have hts := C.1.2.2.2.2
  have hown := C.1.2.2.2.1
  have hin : ∀ w ∈ wsX90, w ∈ ws9_openList := fun w h => List.mem_cons_of_mem _ (List.mem_append_right _ h)
  intro u x1 x2 x3 y0 y1 hf H locs hP hD hS ls hl
  unfold f9_openList_49 at hf
  refine lv_iload_n hx hb dX9_openList_49 rfl (lv_at hl 2 rfl) ?_
  refine lv_if_ne (tgt := 57) hx hb dX9_openList_50 (by decide) (fun c_9 => ?_) (fun c_9 => ?_)
  · replace hf := og_f c_9 hf
    refine lv_aload_n hx hb dX9_openList_57 rfl (lv_at hl 0 rfl) ?_
    refine mg9 (v := .ref (a 23)) C hin hK hP 23 (by decide) (hts (Cond.fieldLink RX9 38 "SchematicTextModel" "open" "[I") (List.mem_cons_of_mem _ m9_15)) rfl dX9_openList_58 ?_
    refine lv_iload_n hx hb dX9_openList_61 rfl (lv_at hl 2 rfl) ?_
    refine lv_iconst (v := (1 : Int32)) hx hb dX9_openList_62 (by decide) ?_
    refine lv_isub hx hb dX9_openList_63 ?_
    obtain ⟨h_10, hf⟩ := og_n hf
    refine va_iald (f := (ga u 23)) hx hb hK hP 10 0 rfl rfl h_10 dX9_openList_64 ?_
    exact w9_openList_65 C hK hA u x1 x2 x3 ((ga u 23) ((x2 - (1 : Int32))).toNatClampNeg) y0 y1 hf hP hD hS (lv_sub hl [0, 1, 2, 3] rfl)
  · replace hf := og_t c_9 hf
    refine lv_iconst (v := (-1 : Int32)) hx hb dX9_openList_53 (by decide) ?_
    refine lv_goto (tgt := 65) hx hb dX9_openList_54 (by decide) ?_
    exact w9_openList_65 C hK hA u x1 x2 x3 (-1 : Int32) y0 y1 hf hP hD hS (lv_sub hl [0, 1, 2, 3] rfl)
def f9_openList_11 (u : Md) (x1 : Int32) (x2 : Int32) : Option (Int32 × Md) := ((f9_blanks u (x1 + (1 : Int32))).bind fun r_5 => (if (gi u 18) = (-1 : Int32) then (if x2 = 0 then (f9_openList_49 u x1 x2 r_5 (-1 : Int32) r_5) else (if (x2 - (1 : Int32)) < 0 ∨ 201 ≤ ((x2 - (1 : Int32))).toNatClampNeg then none else (f9_openList_49 u x1 x2 r_5 ((ga u 24) ((x2 - (1 : Int32))).toNatClampNeg) r_5))) else (f9_openList_68 u x1 x2 r_5 (-1 : Int32))))
set_option maxHeartbeats 4000000 in
set_option maxRecDepth 100000 in
theorem w9_openList_11 {p : Program} {l : Launch} {e : Env} {s : State} {m : MethodId} {args : Array Value} {below : List Frame} {meth : Method} {c : Code} (C : Cx p s m args meth c cX9_openList 6 ws9_openList RX9 (some .int)) {D : va_G} {cI cJ cC : ClassId} {a : Nat → Nat} {A : Nat → Prop} (hK : va_K D vwCl (ty3 cI cJ cC) s) (hA : ∀ q : Nat, s.heap.size ≤ q → A q) {r : (Int32 × Md)} : ∀ (u : Md) (x1 : Int32) (x2 : Int32), f9_openList_11 u x1 x2 = some r → ∀ {H : Heap} {locs : List Loc}, va_P D vwCl (cM cI cJ a u) H → va_D A (cM cI cJ a u) → va_S A s.heap H locs → ∀ {ls : Array Slot}, lv_has ls 6 [(0, .ref (a 0)), (1, .int x1), (2, .int x2)] → W p l e rm9_openList s m args below meth c H locs 0 0 (MQ below (qW (some (.int r.1)) (cM cI cJ a r.2) D (ty3 cI cJ cC) A) args s 0 0 A) (F0 m 11 ls []) := by
  have hx := C.1.1
  have hb := C.1.2.1
  have hts := C.1.2.2.2.2
  have hown := C.1.2.2.2.1
  have hin : ∀ w ∈ wsX90, w ∈ ws9_openList := fun w h => List.mem_cons_of_mem _ (List.mem_append_right _ h)
  intro u x1 x2 hf H locs hP hD hS ls hl
  unfold f9_openList_11 at hf
  refine lv_aload_n hx hb dX9_openList_11 rfl (lv_at hl 0 rfl) ?_
  refine lv_iload_n hx hb dX9_openList_12 rfl (lv_at hl 1 rfl) ?_
  refine lv_iconst (v := (1 : Int32)) hx hb dX9_openList_13 (by decide) ?_
  refine lv_iadd hx hb dX9_openList_14 ?_
  obtain ⟨r_5, h_4, hf⟩ := og_b hf
  try dsimp only at hf
  refine ck_r (v := .int r_5) (rest := []) C.1 (c9_blanks l D cI cJ cC a u (x1 + (1 : Int32)) r_5 _ h_4) (cwV 1 hts g9_blanks rfl rfl rfl hd9_blanks ⟨Nat.le_of_ble_eq_true rfl, Nat.le_of_ble_eq_true rfl⟩) hK hP hD (q0 := 0) (ci := 6) rfl rfl rfl rfl hl.1 rfl (Nat.le_of_ble_eq_true rfl) ⟨Nat.zero_le _, Nat.zero_le _⟩ dX9_openList_15 ?_
  refine lv_istore_n (lv' := [(3, .int r_5), (0, .ref (a 0)), (1, .int x1), (2, .int x2)]) hx hb dX9_openList_18 rfl hl (by decide) rfl (fun ls hl => ?_)
  refine lv_aload_n hx hb dX9_openList_19 rfl (lv_at hl 1 rfl) ?_
  refine mg9 (v := .int (gi u 18)) C hin hK hP 18 (by decide) (hts (Cond.fieldLink RX9 84 "SchematicTextModel" "fault" "I") (List.mem_cons_of_mem _ m9_48)) rfl dX9_openList_20 ?_
  refine lv_iconst (v := (-1 : Int32)) hx hb dX9_openList_23 (by decide) ?_
  refine lv_icmp_eq (tgt := 31) hx hb dX9_openList_24 (by decide) (fun c_6 => ?_) (fun c_6 => ?_)
  · replace hf := og_t c_6 hf
    refine lv_aload_n hx hb dX9_openList_31 rfl (lv_at hl 1 rfl) ?_
    refine lv_iload_n hx hb dX9_openList_32 rfl (lv_at hl 0 rfl) ?_
    refine lv_iload_n hx hb dX9_openList_33 rfl (lv_at hl 3 rfl) ?_
    refine lv_if_ne (tgt := 41) hx hb dX9_openList_34 (by decide) (fun c_7 => ?_) (fun c_7 => ?_)
    · replace hf := og_f c_7 hf
      refine lv_aload_n hx hb dX9_openList_41 rfl (lv_at hl 1 rfl) ?_
      refine mg9 (v := .ref (a 24)) C hin hK hP 24 (by decide) (hts (Cond.fieldLink RX9 41 "SchematicTextModel" "openKind" "[I") (List.mem_cons_of_mem _ m9_16)) rfl dX9_openList_42 ?_
      refine lv_iload_n hx hb dX9_openList_45 rfl (lv_at hl 3 rfl) ?_
      refine lv_iconst (v := (1 : Int32)) hx hb dX9_openList_46 (by decide) ?_
      refine lv_isub hx hb dX9_openList_47 ?_
      obtain ⟨h_8, hf⟩ := og_n hf
      refine va_iald (f := (ga u 24)) hx hb hK hP 11 0 rfl rfl h_8 dX9_openList_48 ?_
      exact w9_openList_49 C hK hA u x1 x2 r_5 ((ga u 24) ((x2 - (1 : Int32))).toNatClampNeg) r_5 hf hP hD hS (lv_sub hl [1, 2, 3, 0] rfl)
    · replace hf := og_t c_7 hf
      refine lv_iconst (v := (-1 : Int32)) hx hb dX9_openList_37 (by decide) ?_
      refine lv_goto (tgt := 49) hx hb dX9_openList_38 (by decide) ?_
      exact w9_openList_49 C hK hA u x1 x2 r_5 (-1 : Int32) r_5 hf hP hD hS (lv_sub hl [1, 2, 3, 0] rfl)
  · replace hf := og_f c_6 hf
    refine lv_iconst (v := (-1 : Int32)) hx hb dX9_openList_27 (by decide) ?_
    refine lv_goto (tgt := 68) hx hb dX9_openList_28 (by decide) ?_
    exact w9_openList_68 C hK hA u x1 x2 r_5 (-1 : Int32) hf hP hD hS (lv_sub hl [1, 2, 3, 0] rfl)
def f9_openList (u : Md) (x1 : Int32) (x2 : Int32) : Option (Int32 × Md) := (if x2 = (100 : Int32) then ((f9_fail u x1).bind fun u_3 => (f9_openList_11 u_3 x1 x2)) else (f9_openList_11 u x1 x2))
set_option maxHeartbeats 4000000 in
set_option maxRecDepth 100000 in
theorem c9_openList (l : Launch) (D : va_G) (cI cJ cC : ClassId) (a : Nat → Nat) (u : Md) (x1 : Int32) (x2 : Int32) (r : Int32) (v : Md) (sz : Nat) (hf : f9_openList u x1 x2 = some (r, v)) : Met l yX9_openList ws9_openList rm9_openList (pW D (ty3 cI cJ cC) (cM cI cJ a u) sz [.ref (a 0), .int x1, .int x2]) (qW (some (.int r)) (cM cI cJ a v) D (ty3 cI cJ cC) (va_A (cM cI cJ a u) sz)) 0 0 (va_A (cM cI cJ a u) sz) := by
  refine mt_w (cc := cX9_openList) (maxL := 6) (ret := (some .int)) (by decide) rfl (Nat.le_of_ble_eq_true rfl) ?_
  intro p e s m below meth c ls A C hl hK hA hP hD hS
  have hl : lv_has ls 6 [(0, .ref (a 0)), (1, .int x1), (2, .int x2)] := hl
  have hx := C.1.1
  have hb := C.1.2.1
  have hts := C.1.2.2.2.2
  have hown := C.1.2.2.2.1
  have hin : ∀ w ∈ wsX90, w ∈ ws9_openList := fun w h => List.mem_cons_of_mem _ (List.mem_append_right _ h)
  unfold f9_openList at hf
  refine lv_iload_n hx hb dX9_openList_0 rfl (lv_at hl 2 rfl) ?_
  refine lv_bipush (v := (100 : Int32)) hx hb dX9_openList_1 (by decide) ?_
  refine lv_icmp_ne (tgt := 11) hx hb dX9_openList_3 (by decide) (fun c_1 => ?_) (fun c_1 => ?_)
  · replace hf := og_f c_1 hf
    exact w9_openList_11 C hK hA u x1 x2 hf hP hD hS (lv_sub hl [0, 1, 2] rfl)
  · replace hf := og_t c_1 hf
    refine lv_aload_n hx hb dX9_openList_6 rfl (lv_at hl 0 rfl) ?_
    refine lv_iload_n hx hb dX9_openList_7 rfl (lv_at hl 1 rfl) ?_
    obtain ⟨u_3, h_2, hf⟩ := og_b hf
    try dsimp only at hf
    refine ck_w (ov := none) (st1 := []) (rest := []) C.1 (c9_fail l D cI cJ cC a u x1 u_3  _ h_2) (cwV 1 hts g9_fail rfl rfl rfl hd9_fail ⟨Nat.le_of_ble_eq_true rfl, Nat.le_of_ble_eq_true rfl⟩) hK hA hP hD hS (q0 := 0) (ci := 6) rfl rfl rfl rfl hl.1 rfl rfl (Nat.le_of_ble_eq_true rfl) ⟨Nat.zero_le _, Nat.zero_le _⟩ dX9_openList_8 (fun H locs hP hD hS => ?_)
    exact w9_openList_11 C hK hA u_3 x1 x2 hf hP hD hS (lv_sub hl [0, 1, 2] rfl)
abbrev rm9_readLists : Room := { frames := 6, cells := 0, slots := 0, locals := 155 }
noncomputable abbrev ws9_readLists : List Cond := Cond.code yX9_readLists cX9_readLists 2 none :: WA9
theorem g9_readLists {c0 : Cond} : GoodIn (c0 :: WA9) (wsV RX9 231 RX9 yX9_readLists ws9_readLists) := gd9_v m9_176 m9_177 m9_178 m9_29 m9_153
theorem hd9_readLists : yX9_readLists.cls = RX9 ∧ yX9_readLists.cls ≠ "java/lang/invoke/MethodHandle" ∧ yX9_readLists.cls ≠ "java/lang/invoke/VarHandle" ∧ (parseMethodDescriptor yX9_readLists.desc).map (fun d => d.parameters.length) = some 0 := by decide +kernel
def f9_readLists_119 (u : Md) (x1 : Int32) : Option Md := ((f9_blanks u x1).bind fun r_28 => (if (gi u 3) ≤ r_28 then (some u) else ((f9_fail u r_28).bind fun u_31 => (some u_31))))
set_option maxHeartbeats 4000000 in
set_option maxRecDepth 100000 in
theorem w9_readLists_119 {p : Program} {l : Launch} {e : Env} {s : State} {m : MethodId} {args : Array Value} {below : List Frame} {meth : Method} {c : Code} (C : Cx p s m args meth c cX9_readLists 2 ws9_readLists RX9 none) {D : va_G} {cI cJ cC : ClassId} {a : Nat → Nat} {A : Nat → Prop} (hK : va_K D vwCl (ty3 cI cJ cC) s) (hA : ∀ q : Nat, s.heap.size ≤ q → A q) {r : Md} : ∀ (u : Md) (x1 : Int32), f9_readLists_119 u x1 = some r → ∀ {H : Heap} {locs : List Loc}, va_P D vwCl (cM cI cJ a u) H → va_D A (cM cI cJ a u) → va_S A s.heap H locs → ∀ {ls : Array Slot}, lv_has ls 2 [(0, .ref (a 0)), (1, .int x1)] → W p l e rm9_readLists s m args below meth c H locs 0 0 (MQ below (qW none (cM cI cJ a r) D (ty3 cI cJ cC) A) args s 0 0 A) (F0 m 119 ls []) := by
  have hx := C.1.1
  have hb := C.1.2.1
  have hts := C.1.2.2.2.2
  have hown := C.1.2.2.2.1
  have hin : ∀ w ∈ wsX90, w ∈ ws9_readLists := fun w h => List.mem_cons_of_mem _ (List.mem_append_right _ h)
  intro u x1 hf H locs hP hD hS ls hl
  unfold f9_readLists_119 at hf
  refine lv_aload_n hx hb dX9_readLists_119 rfl (lv_at hl 0 rfl) ?_
  refine lv_iload_n hx hb dX9_readLists_120 rfl (lv_at hl 1 rfl) ?_
  obtain ⟨r_28, h_27, hf⟩ := og_b hf
  try dsimp only at hf
  refine ck_r (v := .int r_28) (rest := []) C.1 (c9_blanks l D cI cJ cC a u x1 r_28 _ h_27) (cwV 1 hts g9_blanks rfl rfl rfl hd9_blanks ⟨Nat.le_of_ble_eq_true rfl, Nat.le_of_ble_eq_true rfl⟩) hK hP hD (q0 := 0) (ci := 6) rfl rfl rfl rfl hl.1 rfl (Nat.le_of_ble_eq_true rfl) ⟨Nat.zero_le _, Nat.zero_le _⟩ dX9_readLists_121 ?_
  refine lv_istore_n (lv' := [(1, .int r_28), (0, .ref (a 0))]) hx hb dX9_readLists_124 rfl hl (by decide) rfl (fun ls hl => ?_)
  refine lv_iload_n hx hb dX9_readLists_125 rfl (lv_at hl 0 rfl) ?_
  refine lv_aload_n hx hb dX9_readLists_126 rfl (lv_at hl 1 rfl) ?_
  refine mg9 (v := .int (gi u 3)) C hin hK hP 3 (by decide) (hts (Cond.fieldLink RX9 59 "SchematicTextModel" "size" "I") (List.mem_cons_of_mem _ m9_24)) rfl dX9_readLists_127 ?_
  refine lv_icmp_ge (tgt := 138) hx hb dX9_readLists_130 (by decide) (fun c_29 => ?_) (fun c_29 => ?_)
  · replace hf := og_t c_29 hf
    obtain rfl := og_s hf
    exact rw_v C hK hP hD hS dX9_readLists_138
  · replace hf := og_f c_29 hf
    refine lv_aload_n hx hb dX9_readLists_133 rfl (lv_at hl 1 rfl) ?_
    refine lv_iload_n hx hb dX9_readLists_134 rfl (lv_at hl 0 rfl) ?_
    obtain ⟨u_31, h_30, hf⟩ := og_b hf
    try dsimp only at hf
    refine ck_w (ov := none) (st1 := []) (rest := []) C.1 (c9_fail l D cI cJ cC a u r_28 u_31  _ h_30) (cwV 1 hts g9_fail rfl rfl rfl hd9_fail ⟨Nat.le_of_ble_eq_true rfl, Nat.le_of_ble_eq_true rfl⟩) hK hA hP hD hS (q0 := 0) (ci := 6) rfl rfl rfl rfl hl.1 rfl rfl (Nat.le_of_ble_eq_true rfl) ⟨Nat.zero_le _, Nat.zero_le _⟩ dX9_readLists_135 (fun H locs hP hD hS => ?_)
    obtain rfl := og_s hf
    exact rw_v C hK hP hD hS dX9_readLists_138
def f9_readLists_41 : Nat → Md → Int32 → Option Md
  | 0, _, _ => none
  | n + 1, u, x1 => (if (gi u 18) = (-1 : Int32) then (if (gi u 29) ≤ 0 then (f9_readLists_119 u x1) else ((f9_blanks u x1).bind fun r_15 => ((f9_c u r_15).bind fun r_17 => (if r_17 = (40 : Int32) then ((f9_openList u r_15 (gi u 29)).bind fun p_26 => (f9_readLists_41 n p_26.2 p_26.1)) else ((f9_c u r_15).bind fun r_20 => (if r_20 = (41 : Int32) then (f9_readLists_41 n (si u 29 ((gi u 29) - (1 : Int32))) (r_15 + (1 : Int32))) else ((f9_fail u r_15).bind fun u_23 => (f9_readLists_41 n u_23 r_15)))))))) else (f9_readLists_119 u x1))
set_option maxHeartbeats 4000000 in
set_option maxRecDepth 100000 in
theorem w9_readLists_41 {p : Program} {l : Launch} {e : Env} {s : State} {m : MethodId} {args : Array Value} {below : List Frame} {meth : Method} {c : Code} (C : Cx p s m args meth c cX9_readLists 2 ws9_readLists RX9 none) {D : va_G} {cI cJ cC : ClassId} {a : Nat → Nat} {A : Nat → Prop} (hK : va_K D vwCl (ty3 cI cJ cC) s) (hA : ∀ q : Nat, s.heap.size ≤ q → A q) {r : Md} : ∀ (n : Nat), ∀ (u : Md) (x1 : Int32), f9_readLists_41 n u x1 = some r → ∀ {H : Heap} {locs : List Loc}, va_P D vwCl (cM cI cJ a u) H → va_D A (cM cI cJ a u) → va_S A s.heap H locs → ∀ {ls : Array Slot}, lv_has ls 2 [(0, .ref (a 0)), (1, .int x1)] → W p l e rm9_readLists s m args below meth c H locs 0 0 (MQ below (qW none (cM cI cJ a r) D (ty3 cI cJ cC) A) args s 0 0 A) (F0 m 41 ls []) := by
  have hx := C.1.1
  have hb := C.1.2.1
  have hts := C.1.2.2.2.2
  have hown := C.1.2.2.2.1
  have hin : ∀ w ∈ wsX90, w ∈ ws9_readLists := fun w h => List.mem_cons_of_mem _ (List.mem_append_right _ h)
  intro n
  induction n with
  | zero =>
    intro u x1 hf H locs hP hD hS ls hl
    cases hf
  | succ n ih =>
    intro u x1 hf H locs hP hD hS ls hl
    rw [f9_readLists_41] at hf
    refine lv_aload_n hx hb dX9_readLists_41 rfl (lv_at hl 0 rfl) ?_
    refine mg9 (v := .int (gi u 18)) C hin hK hP 18 (by decide) (hts (Cond.fieldLink RX9 84 "SchematicTextModel" "fault" "I") (List.mem_cons_of_mem _ m9_48)) rfl dX9_readLists_42 ?_
    refine lv_iconst (v := (-1 : Int32)) hx hb dX9_readLists_45 (by decide) ?_
    refine lv_icmp_ne (tgt := 119) hx hb dX9_readLists_46 (by decide) (fun c_12 => ?_) (fun c_12 => ?_)
    · replace hf := og_f c_12 hf
      exact w9_readLists_119 C hK hA u x1 hf hP hD hS (lv_sub hl [0, 1] rfl)
    · replace hf := og_t c_12 hf
      refine lv_aload_n hx hb dX9_readLists_49 rfl (lv_at hl 0 rfl) ?_
      refine mg9 (v := .int (gi u 29)) C hin hK hP 29 (by decide) (hts (Cond.fieldLink RX9 210 "SchematicTextModel" "depthNow" "I") (List.mem_cons_of_mem _ m9_140)) rfl dX9_readLists_50 ?_
      refine lv_if_le (tgt := 119) hx hb dX9_readLists_53 (by decide) (fun c_13 => ?_) (fun c_13 => ?_)
      · replace hf := og_t c_13 hf
        exact w9_readLists_119 C hK hA u x1 hf hP hD hS (lv_sub hl [0, 1] rfl)
      · replace hf := og_f c_13 hf
        refine lv_aload_n hx hb dX9_readLists_56 rfl (lv_at hl 0 rfl) ?_
        refine lv_iload_n hx hb dX9_readLists_57 rfl (lv_at hl 1 rfl) ?_
        obtain ⟨r_15, h_14, hf⟩ := og_b hf
        try dsimp only at hf
        refine ck_r (v := .int r_15) (rest := []) C.1 (c9_blanks l D cI cJ cC a u x1 r_15 _ h_14) (cwV 1 hts g9_blanks rfl rfl rfl hd9_blanks ⟨Nat.le_of_ble_eq_true rfl, Nat.le_of_ble_eq_true rfl⟩) hK hP hD (q0 := 0) (ci := 6) rfl rfl rfl rfl hl.1 rfl (Nat.le_of_ble_eq_true rfl) ⟨Nat.zero_le _, Nat.zero_le _⟩ dX9_readLists_58 ?_
        refine lv_istore_n (lv' := [(1, .int r_15), (0, .ref (a 0))]) hx hb dX9_readLists_61 rfl hl (by decide) rfl (fun ls hl => ?_)
        refine lv_aload_n hx hb dX9_readLists_62 rfl (lv_at hl 1 rfl) ?_
        refine lv_iload_n hx hb dX9_readLists_63 rfl (lv_at hl 0 rfl) ?_
        obtain ⟨r_17, h_16, hf⟩ := og_b hf
        try dsimp only at hf
        refine ck_r (v := .int r_17) (rest := []) C.1 (c9_c l D cI cJ cC a u r_15 r_17 _ h_16) (cwV 1 hts g9_c rfl rfl rfl hd9_c ⟨Nat.le_of_ble_eq_true rfl, Nat.le_of_ble_eq_true rfl⟩) hK hP hD (q0 := 0) (ci := 6) rfl rfl rfl rfl hl.1 rfl (Nat.le_of_ble_eq_true rfl) ⟨Nat.zero_le _, Nat.zero_le _⟩ dX9_readLists_64 ?_
        refine lv_bipush (v := (40 : Int32)) hx hb dX9_readLists_67 (by decide) ?_
        refine lv_icmp_ne (tgt := 85) hx hb dX9_readLists_69 (by decide) (fun c_18 => ?_) (fun c_18 => ?_)
        · replace hf := og_f c_18 hf
          refine lv_aload_n hx hb dX9_readLists_85 rfl (lv_at hl 1 rfl) ?_
          refine lv_iload_n hx hb dX9_readLists_86 rfl (lv_at hl 0 rfl) ?_
          obtain ⟨r_20, h_19, hf⟩ := og_b hf
          try dsimp only at hf
          refine ck_r (v := .int r_20) (rest := []) C.1 (c9_c l D cI cJ cC a u r_15 r_20 _ h_19) (cwV 1 hts g9_c rfl rfl rfl hd9_c ⟨Nat.le_of_ble_eq_true rfl, Nat.le_of_ble_eq_true rfl⟩) hK hP hD (q0 := 0) (ci := 6) rfl rfl rfl rfl hl.1 rfl (Nat.le_of_ble_eq_true rfl) ⟨Nat.zero_le _, Nat.zero_le _⟩ dX9_readLists_87 ?_
          refine lv_bipush (v := (41 : Int32)) hx hb dX9_readLists_90 (by decide) ?_
          refine lv_icmp_ne (tgt := 111) hx hb dX9_readLists_92 (by decide) (fun c_21 => ?_) (fun c_21 => ?_)
          · replace hf := og_f c_21 hf
            refine lv_aload_n hx hb dX9_readLists_111 rfl (lv_at hl 1 rfl) ?_
            refine lv_iload_n hx hb dX9_readLists_112 rfl (lv_at hl 0 rfl) ?_
            obtain ⟨u_23, h_22, hf⟩ := og_b hf
            try dsimp only at hf
            refine ck_w (ov := none) (st1 := []) (rest := []) C.1 (c9_fail l D cI cJ cC a u r_15 u_23  _ h_22) (cwV 1 hts g9_fail rfl rfl rfl hd9_fail ⟨Nat.le_of_ble_eq_true rfl, Nat.le_of_ble_eq_true rfl⟩) hK hA hP hD hS (q0 := 0) (ci := 6) rfl rfl rfl rfl hl.1 rfl rfl (Nat.le_of_ble_eq_true rfl) ⟨Nat.zero_le _, Nat.zero_le _⟩ dX9_readLists_113 (fun H locs hP hD hS => ?_)
            refine lv_goto (tgt := 41) hx hb dX9_readLists_116 (by decide) ?_
            exact ih u_23 r_15 hf hP hD hS (lv_sub hl [1, 0] rfl)
          · replace hf := og_t c_21 hf
            refine lv_aload_n hx hb dX9_readLists_95 rfl (lv_at hl 1 rfl) ?_
            refine lv_dup hx hb dX9_readLists_96 rfl ?_
            refine mg9 (v := .int (gi u 29)) C hin hK hP 29 (by decide) (hts (Cond.fieldLink RX9 210 "SchematicTextModel" "depthNow" "I") (List.mem_cons_of_mem _ m9_140)) rfl dX9_readLists_97 ?_
            refine lv_iconst (v := (1 : Int32)) hx hb dX9_readLists_100 (by decide) ?_
            refine lv_isub hx hb dX9_readLists_101 ?_
            refine mp9_29 C hin hK hP hD hS (hts (Cond.fieldLink RX9 210 "SchematicTextModel" "depthNow" "I") (List.mem_cons_of_mem _ m9_140)) dX9_readLists_102 (fun H locs hP hD hS => ?_)
            refine lv_iinc (v := (r_15 + (1 : Int32))) (lv' := [(1, .int (r_15 + (1 : Int32))), (0, .ref (a 0))]) hx hb dX9_readLists_105 hl (k := 0) rfl rfl (by decide) rfl (fun ls hl => ?_)
            refine lv_goto (tgt := 41) hx hb dX9_readLists_108 (by decide) ?_
            exact ih (si u 29 ((gi u 29) - (1 : Int32))) (r_15 + (1 : Int32)) hf hP hD hS (lv_sub hl [1, 0] rfl)
        · replace hf := og_t c_18 hf
          refine lv_aload_n hx hb dX9_readLists_72 rfl (lv_at hl 1 rfl) ?_
          refine lv_iload_n hx hb dX9_readLists_73 rfl (lv_at hl 0 rfl) ?_
          refine lv_aload_n hx hb dX9_readLists_74 rfl (lv_at hl 1 rfl) ?_
          refine mg9 (v := .int (gi u 29)) C hin hK hP 29 (by decide) (hts (Cond.fieldLink RX9 210 "SchematicTextModel" "depthNow" "I") (List.mem_cons_of_mem _ m9_140)) rfl dX9_readLists_75 ?_
          obtain ⟨⟨r_26, u_25⟩, h_24, hf⟩ := og_b hf
          try dsimp only at hf
          refine ck_w (ov := (some (.int r_26))) (st1 := [.int r_26]) (rest := []) C.1 (c9_openList l D cI cJ cC a u r_15 (gi u 29) r_26 u_25  _ h_24) (cwV 2 hts g9_openList rfl rfl rfl hd9_openList ⟨Nat.le_of_ble_eq_true rfl, Nat.le_of_ble_eq_true rfl⟩) hK hA hP hD hS (q0 := 0) (ci := 6) rfl rfl rfl rfl hl.1 rfl rfl (Nat.le_of_ble_eq_true rfl) ⟨Nat.zero_le _, Nat.zero_le _⟩ dX9_readLists_78 (fun H locs hP hD hS => ?_)
          refine lv_istore_n (lv' := [(1, .int r_26), (0, .ref (a 0))]) hx hb dX9_readLists_81 rfl hl (by decide) rfl (fun ls hl => ?_)
          refine lv_goto (tgt := 41) hx hb dX9_readLists_82 (by decide) ?_
          exact ih u_25 r_26 hf hP hD hS (lv_sub hl [1, 0] rfl)
def f9_readLists_26 (u : Md) (x1 : Int32) : Option Md := (if (gi u 18) = (-1 : Int32) then ((f9_openList u x1 (0 : Int32)).bind fun p_11 => (f9_readLists_41 FU p_11.2 p_11.1)) else (f9_readLists_41 FU u x1))
set_option maxHeartbeats 4000000 in
set_option maxRecDepth 100000 in
theorem w9_readLists_26 {p : Program} {l : Launch} {e : Env} {s : State} {m : MethodId} {args : Array Value} {below : List Frame} {meth : Method} {c : Code} (C : Cx p s m args meth c cX9_readLists 2 ws9_readLists RX9 none) {D : va_G} {cI cJ cC : ClassId} {a : Nat → Nat} {A : Nat → Prop} (hK : va_K D vwCl (ty3 cI cJ cC) s) (hA : ∀ q : Nat, s.heap.size ≤ q → A q) {r : Md} : ∀ (u : Md) (x1 : Int32), f9_readLists_26 u x1 = some r → ∀ {H : Heap} {locs : List Loc}, va_P D vwCl (cM cI cJ a u) H → va_D A (cM cI cJ a u) → va_S A s.heap H locs → ∀ {ls : Array Slot}, lv_has ls 2 [(0, .ref (a 0)), (1, .int x1)] → W p l e rm9_readLists s m args below meth c H locs 0 0 (MQ below (qW none (cM cI cJ a r) D (ty3 cI cJ cC) A) args s 0 0 A) (F0 m 26 ls []) := by
  have hx := C.1.1
  have hb := C.1.2.1
  have hts := C.1.2.2.2.2
  have hown := C.1.2.2.2.1
  have hin : ∀ w ∈ wsX90, w ∈ ws9_readLists := fun w h => List.mem_cons_of_mem _ (List.mem_append_right _ h)
  intro u x1 hf H locs hP hD hS ls hl
  unfold f9_readLists_26 at hf
  refine lv_aload_n hx hb dX9_readLists_26 rfl (lv_at hl 0 rfl) ?_
  refine mg9 (v := .int (gi u 18)) C hin hK hP 18 (by decide) (hts (Cond.fieldLink RX9 84 "SchematicTextModel" "fault" "I") (List.mem_cons_of_mem _ m9_48)) rfl dX9_readLists_27 ?_
  refine lv_iconst (v := (-1 : Int32)) hx hb dX9_readLists_30 (by decide) ?_
  refine lv_icmp_ne (tgt := 41) hx hb dX9_readLists_31 (by decide) (fun c_8 => ?_) (fun c_8 => ?_)
  · replace hf := og_f c_8 hf
    exact w9_readLists_41 C hK hA FU u x1 hf hP hD hS (lv_sub hl [0, 1] rfl)
  · replace hf := og_t c_8 hf
    refine lv_aload_n hx hb dX9_readLists_34 rfl (lv_at hl 0 rfl) ?_
    refine lv_iload_n hx hb dX9_readLists_35 rfl (lv_at hl 1 rfl) ?_
    refine lv_iconst (v := (0 : Int32)) hx hb dX9_readLists_36 (by decide) ?_
    obtain ⟨⟨r_11, u_10⟩, h_9, hf⟩ := og_b hf
    try dsimp only at hf
    refine ck_w (ov := (some (.int r_11))) (st1 := [.int r_11]) (rest := []) C.1 (c9_openList l D cI cJ cC a u x1 (0 : Int32) r_11 u_10  _ h_9) (cwV 2 hts g9_openList rfl rfl rfl hd9_openList ⟨Nat.le_of_ble_eq_true rfl, Nat.le_of_ble_eq_true rfl⟩) hK hA hP hD hS (q0 := 0) (ci := 6) rfl rfl rfl rfl hl.1 rfl rfl (Nat.le_of_ble_eq_true rfl) ⟨Nat.zero_le _, Nat.zero_le _⟩ dX9_readLists_37 (fun H locs hP hD hS => ?_)
    refine lv_istore_n (lv' := [(1, .int r_11), (0, .ref (a 0))]) hx hb dX9_readLists_40 rfl hl (by decide) rfl (fun ls hl => ?_)
    exact w9_readLists_41 C hK hA FU u_10 r_11 hf hP hD hS (lv_sub hl [1, 0] rfl)
def f9_readLists (u : Md) : Option Md := ((f9_blanks u (0 : Int32)).bind fun r_2 => ((f9_c (si u 29 (0 : Int32)) r_2).bind fun r_4 => (if r_4 = (40 : Int32) then (f9_readLists_26 (si u 29 (0 : Int32)) r_2) else ((f9_fail (si u 29 (0 : Int32)) r_2).bind fun u_7 => (f9_readLists_26 u_7 r_2)))))
set_option maxHeartbeats 4000000 in
set_option maxRecDepth 100000 in
theorem c9_readLists (l : Launch) (D : va_G) (cI cJ cC : ClassId) (a : Nat → Nat) (u : Md) (v : Md) (sz : Nat) (hf : f9_readLists u  = some v) : Met l yX9_readLists ws9_readLists rm9_readLists (pW D (ty3 cI cJ cC) (cM cI cJ a u) sz [.ref (a 0)]) (qW none (cM cI cJ a v) D (ty3 cI cJ cC) (va_A (cM cI cJ a u) sz)) 0 0 (va_A (cM cI cJ a u) sz) := by
  refine mt_w (cc := cX9_readLists) (maxL := 2) (ret := none) (by decide) rfl (Nat.le_of_ble_eq_true rfl) ?_
  intro p e s m below meth c ls A C hl hK hA hP hD hS
  have hl : lv_has ls 2 [(0, .ref (a 0))] := hl
  have hx := C.1.1
  have hb := C.1.2.1
  have hts := C.1.2.2.2.2
  have hown := C.1.2.2.2.1
  have hin : ∀ w ∈ wsX90, w ∈ ws9_readLists := fun w h => List.mem_cons_of_mem _ (List.mem_append_right _ h)
  unfold f9_readLists at hf
  refine lv_aload_n hx hb dX9_readLists_0 rfl (lv_at hl 0 rfl) ?_
  refine lv_iconst (v := (0 : Int32)) hx hb dX9_readLists_1 (by decide) ?_
  obtain ⟨r_2, h_1, hf⟩ := og_b hf
  try dsimp only at hf
  refine ck_r (v := .int r_2) (rest := []) C.1 (c9_blanks l D cI cJ cC a u (0 : Int32) r_2 _ h_1) (cwV 1 hts g9_blanks rfl rfl rfl hd9_blanks ⟨Nat.le_of_ble_eq_true rfl, Nat.le_of_ble_eq_true rfl⟩) hK hP hD (q0 := 0) (ci := 6) rfl rfl rfl rfl hl.1 rfl (Nat.le_of_ble_eq_true rfl) ⟨Nat.zero_le _, Nat.zero_le _⟩ dX9_readLists_2 ?_
  refine lv_istore_n (lv' := [(1, .int r_2), (0, .ref (a 0))]) hx hb dX9_readLists_5 rfl hl (by decide) rfl (fun ls hl => ?_)
  refine lv_aload_n hx hb dX9_readLists_6 rfl (lv_at hl 1 rfl) ?_
  refine lv_iconst (v := (0 : Int32)) hx hb dX9_readLists_7 (by decide) ?_
  refine mp9_29 C hin hK hP hD hS (hts (Cond.fieldLink RX9 210 "SchematicTextModel" "depthNow" "I") (List.mem_cons_of_mem _ m9_140)) dX9_readLists_8 (fun H locs hP hD hS => ?_)
  refine lv_aload_n hx hb dX9_readLists_11 rfl (lv_at hl 1 rfl) ?_
  refine lv_iload_n hx hb dX9_readLists_12 rfl (lv_at hl 0 rfl) ?_
  obtain ⟨r_4, h_3, hf⟩ := og_b hf
  try dsimp only at hf
  refine ck_r (v := .int r_4) (rest := []) C.1 (c9_c l D cI cJ cC a (si u 29 (0 : Int32)) r_2 r_4 _ h_3) (cwV 1 hts g9_c rfl rfl rfl hd9_c ⟨Nat.le_of_ble_eq_true rfl, Nat.le_of_ble_eq_true rfl⟩) hK hP hD (q0 := 0) (ci := 6) rfl rfl rfl rfl hl.1 rfl (Nat.le_of_ble_eq_true rfl) ⟨Nat.zero_le _, Nat.zero_le _⟩ dX9_readLists_13 ?_
  refine lv_bipush (v := (40 : Int32)) hx hb dX9_readLists_16 (by decide) ?_
  refine lv_icmp_eq (tgt := 26) hx hb dX9_readLists_18 (by decide) (fun c_5 => ?_) (fun c_5 => ?_)
  · replace hf := og_t c_5 hf
    exact w9_readLists_26 C hK hA (si u 29 (0 : Int32)) r_2 hf hP hD hS (lv_sub hl [1, 0] rfl)
  · replace hf := og_f c_5 hf
    refine lv_aload_n hx hb dX9_readLists_21 rfl (lv_at hl 1 rfl) ?_
    refine lv_iload_n hx hb dX9_readLists_22 rfl (lv_at hl 0 rfl) ?_
    obtain ⟨u_7, h_6, hf⟩ := og_b hf
    try dsimp only at hf
    refine ck_w (ov := none) (st1 := []) (rest := []) C.1 (c9_fail l D cI cJ cC a (si u 29 (0 : Int32)) r_2 u_7  _ h_6) (cwV 1 hts g9_fail rfl rfl rfl hd9_fail ⟨Nat.le_of_ble_eq_true rfl, Nat.le_of_ble_eq_true rfl⟩) hK hA hP hD hS (q0 := 0) (ci := 6) rfl rfl rfl rfl hl.1 rfl rfl (Nat.le_of_ble_eq_true rfl) ⟨Nat.zero_le _, Nat.zero_le _⟩ dX9_readLists_23 (fun H locs hP hD hS => ?_)
    exact w9_readLists_26 C hK hA u_7 r_2 hf hP hD hS (lv_sub hl [1, 0] rfl)
abbrev rm9_lineEnd : Room := { frames := 0, cells := 0, slots := 0, locals := 0 }
noncomputable abbrev ws9_lineEnd : List Cond := Cond.code yX9_lineEnd cX9_lineEnd 3 (some .int) :: WA9
theorem g9_lineEnd {c0 : Cond} : GoodIn (c0 :: WA9) (wsV RX9 222 RX9 yX9_lineEnd ws9_lineEnd) := gd9_v m9_165 m9_166 m9_167 m9_29 m9_157
theorem hd9_lineEnd : yX9_lineEnd.cls = RX9 ∧ yX9_lineEnd.cls ≠ "java/lang/invoke/MethodHandle" ∧ yX9_lineEnd.cls ≠ "java/lang/invoke/VarHandle" ∧ (parseMethodDescriptor yX9_lineEnd.desc).map (fun d => d.parameters.length) = some 1 := by decide +kernel
def f9_lineEnd_2 (u : Md) : Nat → Int32 → Option Int32
  | 0, _ => none
  | n + 1, x2 => (if (gi u 3) ≤ x2 then (some x2) else (if x2 < 0 ∨ 4000 ≤ (x2).toNatClampNeg then none else (if ((ga u 2) (x2).toNatClampNeg) = (10 : Int32) then (some x2) else (f9_lineEnd_2 u n (x2 + (1 : Int32))))))
set_option maxHeartbeats 4000000 in
set_option maxRecDepth 100000 in
theorem w9_lineEnd_2 {p : Program} {l : Launch} {e : Env} {s : State} {m : MethodId} {args : Array Value} {below : List Frame} {meth : Method} {c : Code} (C : Cx p s m args meth c cX9_lineEnd 3 ws9_lineEnd RX9 (some .int)) {D : va_G} {cI cJ cC : ClassId} {a : Nat → Nat} {u : Md} (hK : va_K D vwCl (ty3 cI cJ cC) s) (hP : va_P D vwCl (cM cI cJ a u) s.heap) (hD : va_D (fun _ => True) (cM cI cJ a u)) {r : Int32} : ∀ (n : Nat), ∀ (x2 : Int32), f9_lineEnd_2 u n x2 = some r → ∀ {ls : Array Slot}, lv_has ls 3 [(0, .ref (a 0)), (2, .int x2)] → W p l e rm9_lineEnd s m args below meth c s.heap [] 0 0 (MQ below (k2_QcV (.int r)) args s 0 0 (fun _ => False)) (F0 m 2 ls []) := by
  have hx := C.1.1
  have hb := C.1.2.1
  have hts := C.1.2.2.2.2
  have hown := C.1.2.2.2.1
  have hin : ∀ w ∈ wsX90, w ∈ ws9_lineEnd := fun w h => List.mem_cons_of_mem _ (List.mem_append_right _ h)
  intro n
  induction n with
  | zero =>
    intro x2 hf ls hl
    cases hf
  | succ n ih =>
    intro x2 hf ls hl
    rw [f9_lineEnd_2] at hf
    refine lv_iload_n hx hb dX9_lineEnd_2 rfl (lv_at hl 1 rfl) ?_
    refine lv_aload_n hx hb dX9_lineEnd_3 rfl (lv_at hl 0 rfl) ?_
    refine mg9 (v := .int (gi u 3)) C hin hK hP 3 (by decide) (hts (Cond.fieldLink RX9 59 "SchematicTextModel" "size" "I") (List.mem_cons_of_mem _ m9_24)) rfl dX9_lineEnd_4 ?_
    refine lv_icmp_ge (tgt := 27) hx hb dX9_lineEnd_7 (by decide) (fun c_1 => ?_) (fun c_1 => ?_)
    · replace hf := og_t c_1 hf
      refine lv_iload_n hx hb dX9_lineEnd_27 rfl (lv_at hl 1 rfl) ?_
      obtain rfl := og_s hf
      exact rt_i C dX9_lineEnd_28
    · replace hf := og_f c_1 hf
      refine lv_aload_n hx hb dX9_lineEnd_10 rfl (lv_at hl 0 rfl) ?_
      refine mg9 (v := .ref (a 2)) C hin hK hP 2 (by decide) (hts (Cond.fieldLink RX9 7 "SchematicTextModel" "text" "[I") (List.mem_cons_of_mem _ m9_5)) rfl dX9_lineEnd_11 ?_
      refine lv_iload_n hx hb dX9_lineEnd_14 rfl (lv_at hl 1 rfl) ?_
      obtain ⟨h_2, hf⟩ := og_n hf
      refine va_iald (f := (ga u 2)) hx hb hK hP 1 0 rfl rfl h_2 dX9_lineEnd_15 ?_
      refine lv_bipush (v := (10 : Int32)) hx hb dX9_lineEnd_16 (by decide) ?_
      refine lv_icmp_eq (tgt := 27) hx hb dX9_lineEnd_18 (by decide) (fun c_3 => ?_) (fun c_3 => ?_)
      · replace hf := og_t c_3 hf
        refine lv_iload_n hx hb dX9_lineEnd_27 rfl (lv_at hl 1 rfl) ?_
        obtain rfl := og_s hf
        exact rt_i C dX9_lineEnd_28
      · replace hf := og_f c_3 hf
        refine lv_iinc (v := (x2 + (1 : Int32))) (lv' := [(2, .int (x2 + (1 : Int32))), (0, .ref (a 0))]) hx hb dX9_lineEnd_21 hl (k := 1) rfl rfl (by decide) rfl (fun ls hl => ?_)
        refine lv_goto (tgt := 2) hx hb dX9_lineEnd_24 (by decide) ?_
        exact ih (x2 + (1 : Int32)) hf (lv_sub hl [1, 0] rfl)
def f9_lineEnd (u : Md) (x1 : Int32) : Option Int32 := (f9_lineEnd_2 u FU x1)
set_option maxHeartbeats 4000000 in
set_option maxRecDepth 100000 in
theorem c9_lineEnd (l : Launch) (D : va_G) (cI cJ cC : ClassId) (a : Nat → Nat) (u : Md) (x1 : Int32) (r : Int32) (sz : Nat) (hf : f9_lineEnd u x1 = some r) : Met l yX9_lineEnd ws9_lineEnd rm9_lineEnd (pW D (ty3 cI cJ cC) (cM cI cJ a u) sz [.ref (a 0), .int x1]) (k2_QcV (.int r)) 0 0 (fun _ => False) := by
  refine mt_r (cc := cX9_lineEnd) (maxL := 3) (ret := (some .int)) (by decide) rfl (Nat.le_of_ble_eq_true rfl) ?_
  intro p e s m below meth c ls C hl hK hP hD
  have hl : lv_has ls 3 [(0, .ref (a 0)), (1, .int x1)] := hl
  have hx := C.1.1
  have hb := C.1.2.1
  have hts := C.1.2.2.2.2
  have hown := C.1.2.2.2.1
  have hin : ∀ w ∈ wsX90, w ∈ ws9_lineEnd := fun w h => List.mem_cons_of_mem _ (List.mem_append_right _ h)
  unfold f9_lineEnd at hf
  refine lv_iload_n hx hb dX9_lineEnd_0 rfl (lv_at hl 1 rfl) ?_
  refine lv_istore_n (lv' := [(2, .int x1), (0, .ref (a 0)), (1, .int x1)]) hx hb dX9_lineEnd_1 rfl hl (by decide) rfl (fun ls hl => ?_)
  exact w9_lineEnd_2 C hK hP hD FU x1 hf (lv_sub hl [1, 0] rfl)
abbrev rm9_dots : Room := { frames := 1, cells := 0, slots := 0, locals := 21 }
noncomputable abbrev ws9_dots : List Cond := Cond.code yX9_dots cX9_dots 3 (some .int) :: WA9
theorem g9_dots {c0 : Cond} : GoodIn (c0 :: WA9) (wsV RX9 225 RX9 yX9_dots ws9_dots) := gd9_v m9_168 m9_169 m9_170 m9_29 m9_158
theorem hd9_dots : yX9_dots.cls = RX9 ∧ yX9_dots.cls ≠ "java/lang/invoke/MethodHandle" ∧ yX9_dots.cls ≠ "java/lang/invoke/VarHandle" ∧ (parseMethodDescriptor yX9_dots.desc).map (fun d => d.parameters.length) = some 1 := by decide +kernel
def f9_dots_2 (u : Md) : Nat → Int32 → Int32 → Option Int32
  | 0, _, _ => none
  | n + 1, x1, x2 => ((f9_c u x2).bind fun r_2 => (if r_2 = (46 : Int32) then (f9_dots_2 u n x1 (x2 + (1 : Int32))) else (some (x2 - x1))))
set_option maxHeartbeats 4000000 in
set_option maxRecDepth 100000 in
theorem w9_dots_2 {p : Program} {l : Launch} {e : Env} {s : State} {m : MethodId} {args : Array Value} {below : List Frame} {meth : Method} {c : Code} (C : Cx p s m args meth c cX9_dots 3 ws9_dots RX9 (some .int)) {D : va_G} {cI cJ cC : ClassId} {a : Nat → Nat} {u : Md} (hK : va_K D vwCl (ty3 cI cJ cC) s) (hP : va_P D vwCl (cM cI cJ a u) s.heap) (hD : va_D (fun _ => True) (cM cI cJ a u)) {r : Int32} : ∀ (n : Nat), ∀ (x1 : Int32) (x2 : Int32), f9_dots_2 u n x1 x2 = some r → ∀ {ls : Array Slot}, lv_has ls 3 [(0, .ref (a 0)), (1, .int x1), (2, .int x2)] → W p l e rm9_dots s m args below meth c s.heap [] 0 0 (MQ below (k2_QcV (.int r)) args s 0 0 (fun _ => False)) (F0 m 2 ls []) := by
  have hx := C.1.1
  have hb := C.1.2.1
  have hts := C.1.2.2.2.2
  have hown := C.1.2.2.2.1
  have hin : ∀ w ∈ wsX90, w ∈ ws9_dots := fun w h => List.mem_cons_of_mem _ (List.mem_append_right _ h)
  intro n
  induction n with
  | zero =>
    intro x1 x2 hf ls hl
    cases hf
  | succ n ih =>
    intro x1 x2 hf ls hl
    rw [f9_dots_2] at hf
    refine lv_aload_n hx hb dX9_dots_2 rfl (lv_at hl 0 rfl) ?_
    refine lv_iload_n hx hb dX9_dots_3 rfl (lv_at hl 2 rfl) ?_
    obtain ⟨r_2, h_1, hf⟩ := og_b hf
    try dsimp only at hf
    refine ck_r (v := .int r_2) (rest := []) C.1 (c9_c l D cI cJ cC a u x2 r_2 _ h_1) (cwV 1 hts g9_c rfl rfl rfl hd9_c ⟨Nat.le_of_ble_eq_true rfl, Nat.le_of_ble_eq_true rfl⟩) hK hP hD (q0 := 0) (ci := 6) rfl rfl rfl rfl hl.1 rfl (Nat.le_of_ble_eq_true rfl) ⟨Nat.zero_le _, Nat.zero_le _⟩ dX9_dots_4 ?_
    refine lv_bipush (v := (46 : Int32)) hx hb dX9_dots_7 (by decide) ?_
    refine lv_icmp_ne (tgt := 18) hx hb dX9_dots_9 (by decide) (fun c_3 => ?_) (fun c_3 => ?_)
    · replace hf := og_f c_3 hf
      refine lv_iload_n hx hb dX9_dots_18 rfl (lv_at hl 2 rfl) ?_
      refine lv_iload_n hx hb dX9_dots_19 rfl (lv_at hl 1 rfl) ?_
      refine lv_isub hx hb dX9_dots_20 ?_
      obtain rfl := og_s hf
      exact rt_i C dX9_dots_21
    · replace hf := og_t c_3 hf
      refine lv_iinc (v := (x2 + (1 : Int32))) (lv' := [(2, .int (x2 + (1 : Int32))), (0, .ref (a 0)), (1, .int x1)]) hx hb dX9_dots_12 hl (k := 2) rfl rfl (by decide) rfl (fun ls hl => ?_)
      refine lv_goto (tgt := 2) hx hb dX9_dots_15 (by decide) ?_
      exact ih x1 (x2 + (1 : Int32)) hf (lv_sub hl [1, 2, 0] rfl)
def f9_dots (u : Md) (x1 : Int32) : Option Int32 := (f9_dots_2 u FU x1 x1)
set_option maxHeartbeats 4000000 in
set_option maxRecDepth 100000 in
theorem c9_dots (l : Launch) (D : va_G) (cI cJ cC : ClassId) (a : Nat → Nat) (u : Md) (x1 : Int32) (r : Int32) (sz : Nat) (hf : f9_dots u x1 = some r) : Met l yX9_dots ws9_dots rm9_dots (pW D (ty3 cI cJ cC) (cM cI cJ a u) sz [.ref (a 0), .int x1]) (k2_QcV (.int r)) 0 0 (fun _ => False) := by
  refine mt_r (cc := cX9_dots) (maxL := 3) (ret := (some .int)) (by decide) rfl (Nat.le_of_ble_eq_true rfl) ?_
  intro p e s m below meth c ls C hl hK hP hD
  have hl : lv_has ls 3 [(0, .ref (a 0)), (1, .int x1)] := hl
  have hx := C.1.1
  have hb := C.1.2.1
  have hts := C.1.2.2.2.2
  have hown := C.1.2.2.2.1
  have hin : ∀ w ∈ wsX90, w ∈ ws9_dots := fun w h => List.mem_cons_of_mem _ (List.mem_append_right _ h)
  unfold f9_dots at hf
  refine lv_iload_n hx hb dX9_dots_0 rfl (lv_at hl 1 rfl) ?_
  refine lv_istore_n (lv' := [(2, .int x1), (0, .ref (a 0)), (1, .int x1)]) hx hb dX9_dots_1 rfl hl (by decide) rfl (fun ls hl => ?_)
  exact w9_dots_2 C hK hP hD FU x1 x1 hf (lv_sub hl [1, 2, 0] rfl)
abbrev rm9_readUnknown : Room := { frames := 2, cells := 0, slots := 0, locals := 44 }
noncomputable abbrev ws9_readUnknown : List Cond := Cond.code yX9_readUnknown cX9_readUnknown 5 (some .int) :: WA9
theorem g9_readUnknown {c0 : Cond} : GoodIn (c0 :: WA9) (wsV RX9 216 RX9 yX9_readUnknown ws9_readUnknown) := gd9_v m9_161 m9_162 m9_163 m9_29 m9_164
theorem hd9_readUnknown : yX9_readUnknown.cls = RX9 ∧ yX9_readUnknown.cls ≠ "java/lang/invoke/MethodHandle" ∧ yX9_readUnknown.cls ≠ "java/lang/invoke/VarHandle" ∧ (parseMethodDescriptor yX9_readUnknown.desc).map (fun d => d.parameters.length) = some 2 := by decide +kernel
def f9_readUnknown_94 (u : Md) (x3 : Int32) : Option (Int32 × Md) := (some ((x3 + (1 : Int32)), (si u 17 ((gi u 17) + (1 : Int32)))))
set_option maxHeartbeats 4000000 in
set_option maxRecDepth 100000 in
theorem w9_readUnknown_94 {p : Program} {l : Launch} {e : Env} {s : State} {m : MethodId} {args : Array Value} {below : List Frame} {meth : Method} {c : Code} (C : Cx p s m args meth c cX9_readUnknown 5 ws9_readUnknown RX9 (some .int)) {D : va_G} {cI cJ cC : ClassId} {a : Nat → Nat} {A : Nat → Prop} (hK : va_K D vwCl (ty3 cI cJ cC) s) (hA : ∀ q : Nat, s.heap.size ≤ q → A q) {r : (Int32 × Md)} : ∀ (u : Md) (x3 : Int32), f9_readUnknown_94 u x3 = some r → ∀ {H : Heap} {locs : List Loc}, va_P D vwCl (cM cI cJ a u) H → va_D A (cM cI cJ a u) → va_S A s.heap H locs → ∀ {ls : Array Slot}, lv_has ls 5 [(0, .ref (a 0)), (3, .int x3)] → W p l e rm9_readUnknown s m args below meth c H locs 0 0 (MQ below (qW (some (.int r.1)) (cM cI cJ a r.2) D (ty3 cI cJ cC) A) args s 0 0 A) (F0 m 94 ls []) := by
  have hx := C.1.1
  have hb := C.1.2.1
  have hts := C.1.2.2.2.2
  have hown := C.1.2.2.2.1
  have hin : ∀ w ∈ wsX90, w ∈ ws9_readUnknown := fun w h => List.mem_cons_of_mem _ (List.mem_append_right _ h)
  intro u x3 hf H locs hP hD hS ls hl
  unfold f9_readUnknown_94 at hf
  refine lv_aload_n hx hb dX9_readUnknown_94 rfl (lv_at hl 0 rfl) ?_
  refine lv_dup hx hb dX9_readUnknown_95 rfl ?_
  refine mg9 (v := .int (gi u 17)) C hin hK hP 17 (by decide) (hts (Cond.fieldLink RX9 122 "SchematicTextModel" "found" "I") (List.mem_cons_of_mem _ m9_78)) rfl dX9_readUnknown_96 ?_
  refine lv_iconst (v := (1 : Int32)) hx hb dX9_readUnknown_99 (by decide) ?_
  refine lv_iadd hx hb dX9_readUnknown_100 ?_
  refine mp9_17 C hin hK hP hD hS (hts (Cond.fieldLink RX9 122 "SchematicTextModel" "found" "I") (List.mem_cons_of_mem _ m9_78)) dX9_readUnknown_101 (fun H locs hP hD hS => ?_)
  refine lv_iload_n hx hb dX9_readUnknown_104 rfl (lv_at hl 1 rfl) ?_
  refine lv_iconst (v := (1 : Int32)) hx hb dX9_readUnknown_105 (by decide) ?_
  refine lv_iadd hx hb dX9_readUnknown_106 ?_
  obtain rfl := og_s hf
  exact rw_i C hK hP hD hS dX9_readUnknown_107
def f9_readUnknown_81 (u : Md) (x3 : Int32) : Option (Int32 × Md) := (if x3 = (gi u 3) then ((f9_fail u x3).bind fun u_18 => (f9_readUnknown_94 u_18 x3)) else (f9_readUnknown_94 u x3))
set_option maxHeartbeats 4000000 in
set_option maxRecDepth 100000 in
theorem w9_readUnknown_81 {p : Program} {l : Launch} {e : Env} {s : State} {m : MethodId} {args : Array Value} {below : List Frame} {meth : Method} {c : Code} (C : Cx p s m args meth c cX9_readUnknown 5 ws9_readUnknown RX9 (some .int)) {D : va_G} {cI cJ cC : ClassId} {a : Nat → Nat} {A : Nat → Prop} (hK : va_K D vwCl (ty3 cI cJ cC) s) (hA : ∀ q : Nat, s.heap.size ≤ q → A q) {r : (Int32 × Md)} : ∀ (u : Md) (x3 : Int32), f9_readUnknown_81 u x3 = some r → ∀ {H : Heap} {locs : List Loc}, va_P D vwCl (cM cI cJ a u) H → va_D A (cM cI cJ a u) → va_S A s.heap H locs → ∀ {ls : Array Slot}, lv_has ls 5 [(0, .ref (a 0)), (3, .int x3)] → W p l e rm9_readUnknown s m args below meth c H locs 0 0 (MQ below (qW (some (.int r.1)) (cM cI cJ a r.2) D (ty3 cI cJ cC) A) args s 0 0 A) (F0 m 81 ls []) := by
  have hx := C.1.1
  have hb := C.1.2.1
  have hts := C.1.2.2.2.2
  have hown := C.1.2.2.2.1
  have hin : ∀ w ∈ wsX90, w ∈ ws9_readUnknown := fun w h => List.mem_cons_of_mem _ (List.mem_append_right _ h)
  intro u x3 hf H locs hP hD hS ls hl
  unfold f9_readUnknown_81 at hf
  refine lv_iload_n hx hb dX9_readUnknown_81 rfl (lv_at hl 1 rfl) ?_
  refine lv_aload_n hx hb dX9_readUnknown_82 rfl (lv_at hl 0 rfl) ?_
  refine mg9 (v := .int (gi u 3)) C hin hK hP 3 (by decide) (hts (Cond.fieldLink RX9 59 "SchematicTextModel" "size" "I") (List.mem_cons_of_mem _ m9_24)) rfl dX9_readUnknown_83 ?_
  refine lv_icmp_ne (tgt := 94) hx hb dX9_readUnknown_86 (by decide) (fun c_16 => ?_) (fun c_16 => ?_)
  · replace hf := og_f c_16 hf
    exact w9_readUnknown_94 C hK hA u x3 hf hP hD hS (lv_sub hl [0, 1] rfl)
  · replace hf := og_t c_16 hf
    refine lv_aload_n hx hb dX9_readUnknown_89 rfl (lv_at hl 0 rfl) ?_
    refine lv_iload_n hx hb dX9_readUnknown_90 rfl (lv_at hl 1 rfl) ?_
    obtain ⟨u_18, h_17, hf⟩ := og_b hf
    try dsimp only at hf
    refine ck_w (ov := none) (st1 := []) (rest := []) C.1 (c9_fail l D cI cJ cC a u x3 u_18  _ h_17) (cwV 1 hts g9_fail rfl rfl rfl hd9_fail ⟨Nat.le_of_ble_eq_true rfl, Nat.le_of_ble_eq_true rfl⟩) hK hA hP hD hS (q0 := 0) (ci := 6) rfl rfl rfl rfl hl.1 rfl rfl (Nat.le_of_ble_eq_true rfl) ⟨Nat.zero_le _, Nat.zero_le _⟩ dX9_readUnknown_91 (fun H locs hP hD hS => ?_)
    exact w9_readUnknown_94 C hK hA u_18 x3 hf hP hD hS (lv_sub hl [0, 1] rfl)
def f9_readUnknown_32 : Nat → Md → Int32 → Int32 → Option (Int32 × Md)
  | 0, _, _, _ => none
  | n + 1, u, x2, x3 => (if (gi u 18) = (-1 : Int32) then (if (gi u 3) ≤ x3 then (f9_readUnknown_81 u x3) else ((f9_dots u (x3 + (1 : Int32))).bind fun r_10 => (if r_10 ≤ x2 then (f9_readUnknown_81 u x3) else ((f9_lineEnd u (x3 + (1 : Int32))).bind fun r_13 => ((f9_keep u x3 r_13).bind fun u_15 => (f9_readUnknown_32 n u_15 x2 r_13)))))) else (f9_readUnknown_81 u x3))
set_option maxHeartbeats 4000000 in
set_option maxRecDepth 100000 in
theorem w9_readUnknown_32 {p : Program} {l : Launch} {e : Env} {s : State} {m : MethodId} {args : Array Value} {below : List Frame} {meth : Method} {c : Code} (C : Cx p s m args meth c cX9_readUnknown 5 ws9_readUnknown RX9 (some .int)) {D : va_G} {cI cJ cC : ClassId} {a : Nat → Nat} {A : Nat → Prop} (hK : va_K D vwCl (ty3 cI cJ cC) s) (hA : ∀ q : Nat, s.heap.size ≤ q → A q) {r : (Int32 × Md)} : ∀ (n : Nat), ∀ (u : Md) (x2 : Int32) (x3 : Int32), f9_readUnknown_32 n u x2 x3 = some r → ∀ {H : Heap} {locs : List Loc}, va_P D vwCl (cM cI cJ a u) H → va_D A (cM cI cJ a u) → va_S A s.heap H locs → ∀ {ls : Array Slot}, lv_has ls 5 [(0, .ref (a 0)), (2, .int x2), (3, .int x3)] → W p l e rm9_readUnknown s m args below meth c H locs 0 0 (MQ below (qW (some (.int r.1)) (cM cI cJ a r.2) D (ty3 cI cJ cC) A) args s 0 0 A) (F0 m 32 ls []) := by
  have hx := C.1.1
  have hb := C.1.2.1
  have hts := C.1.2.2.2.2
  have hown := C.1.2.2.2.1
  have hin : ∀ w ∈ wsX90, w ∈ ws9_readUnknown := fun w h => List.mem_cons_of_mem _ (List.mem_append_right _ h)
  intro n
  induction n with
  | zero =>
    intro u x2 x3 hf H locs hP hD hS ls hl
    cases hf
  | succ n ih =>
    intro u x2 x3 hf H locs hP hD hS ls hl
    rw [f9_readUnknown_32] at hf
    refine lv_aload_n hx hb dX9_readUnknown_32 rfl (lv_at hl 0 rfl) ?_
    refine mg9 (v := .int (gi u 18)) C hin hK hP 18 (by decide) (hts (Cond.fieldLink RX9 84 "SchematicTextModel" "fault" "I") (List.mem_cons_of_mem _ m9_48)) rfl dX9_readUnknown_33 ?_
    refine lv_iconst (v := (-1 : Int32)) hx hb dX9_readUnknown_36 (by decide) ?_
    refine lv_icmp_ne (tgt := 81) hx hb dX9_readUnknown_37 (by decide) (fun c_7 => ?_) (fun c_7 => ?_)
    · replace hf := og_f c_7 hf
      exact w9_readUnknown_81 C hK hA u x3 hf hP hD hS (lv_sub hl [0, 2] rfl)
    · replace hf := og_t c_7 hf
      refine lv_iload_n hx hb dX9_readUnknown_40 rfl (lv_at hl 2 rfl) ?_
      refine lv_aload_n hx hb dX9_readUnknown_41 rfl (lv_at hl 0 rfl) ?_
      refine mg9 (v := .int (gi u 3)) C hin hK hP 3 (by decide) (hts (Cond.fieldLink RX9 59 "SchematicTextModel" "size" "I") (List.mem_cons_of_mem _ m9_24)) rfl dX9_readUnknown_42 ?_
      refine lv_icmp_ge (tgt := 81) hx hb dX9_readUnknown_45 (by decide) (fun c_8 => ?_) (fun c_8 => ?_)
      · replace hf := og_t c_8 hf
        exact w9_readUnknown_81 C hK hA u x3 hf hP hD hS (lv_sub hl [0, 2] rfl)
      · replace hf := og_f c_8 hf
        refine lv_aload_n hx hb dX9_readUnknown_48 rfl (lv_at hl 0 rfl) ?_
        refine lv_iload_n hx hb dX9_readUnknown_49 rfl (lv_at hl 2 rfl) ?_
        refine lv_iconst (v := (1 : Int32)) hx hb dX9_readUnknown_50 (by decide) ?_
        refine lv_iadd hx hb dX9_readUnknown_51 ?_
        obtain ⟨r_10, h_9, hf⟩ := og_b hf
        try dsimp only at hf
        refine ck_r (v := .int r_10) (rest := []) C.1 (c9_dots l D cI cJ cC a u (x3 + (1 : Int32)) r_10 _ h_9) (cwV 1 hts g9_dots rfl rfl rfl hd9_dots ⟨Nat.le_of_ble_eq_true rfl, Nat.le_of_ble_eq_true rfl⟩) hK hP hD (q0 := 0) (ci := 6) rfl rfl rfl rfl hl.1 rfl (Nat.le_of_ble_eq_true rfl) ⟨Nat.zero_le _, Nat.zero_le _⟩ dX9_readUnknown_52 ?_
        refine lv_iload_n hx hb dX9_readUnknown_55 rfl (lv_at hl 1 rfl) ?_
        refine lv_icmp_le (tgt := 81) hx hb dX9_readUnknown_56 (by decide) (fun c_11 => ?_) (fun c_11 => ?_)
        · replace hf := og_t c_11 hf
          exact w9_readUnknown_81 C hK hA u x3 hf hP hD hS (lv_sub hl [0, 2] rfl)
        · replace hf := og_f c_11 hf
          refine lv_aload_n hx hb dX9_readUnknown_59 rfl (lv_at hl 0 rfl) ?_
          refine lv_iload_n hx hb dX9_readUnknown_60 rfl (lv_at hl 2 rfl) ?_
          refine lv_iconst (v := (1 : Int32)) hx hb dX9_readUnknown_61 (by decide) ?_
          refine lv_iadd hx hb dX9_readUnknown_62 ?_
          obtain ⟨r_13, h_12, hf⟩ := og_b hf
          try dsimp only at hf
          refine ck_r (v := .int r_13) (rest := []) C.1 (c9_lineEnd l D cI cJ cC a u (x3 + (1 : Int32)) r_13 _ h_12) (cwV 1 hts g9_lineEnd rfl rfl rfl hd9_lineEnd ⟨Nat.le_of_ble_eq_true rfl, Nat.le_of_ble_eq_true rfl⟩) hK hP hD (q0 := 0) (ci := 6) rfl rfl rfl rfl hl.1 rfl (Nat.le_of_ble_eq_true rfl) ⟨Nat.zero_le _, Nat.zero_le _⟩ dX9_readUnknown_63 ?_
          refine lv_istore (lv' := [(4, .int r_13), (0, .ref (a 0)), (2, .int x2), (3, .int x3)]) hx hb dX9_readUnknown_66 hl (by decide) rfl (fun ls hl => ?_)
          refine lv_aload_n hx hb dX9_readUnknown_68 rfl (lv_at hl 1 rfl) ?_
          refine lv_iload_n hx hb dX9_readUnknown_69 rfl (lv_at hl 3 rfl) ?_
          refine lv_iload hx hb dX9_readUnknown_70 (lv_at hl 0 rfl) ?_
          obtain ⟨u_15, h_14, hf⟩ := og_b hf
          try dsimp only at hf
          refine ck_w (ov := none) (st1 := []) (rest := []) C.1 (c9_keep l D cI cJ cC a u x3 r_13 u_15  _ h_14) (cwV 2 hts g9_keep rfl rfl rfl hd9_keep ⟨Nat.le_of_ble_eq_true rfl, Nat.le_of_ble_eq_true rfl⟩) hK hA hP hD hS (q0 := 0) (ci := 6) rfl rfl rfl rfl hl.1 rfl rfl (Nat.le_of_ble_eq_true rfl) ⟨Nat.zero_le _, Nat.zero_le _⟩ dX9_readUnknown_72 (fun H locs hP hD hS => ?_)
          refine lv_iload hx hb dX9_readUnknown_75 (lv_at hl 0 rfl) ?_
          refine lv_istore_n (lv' := [(3, .int r_13), (4, .int r_13), (0, .ref (a 0)), (2, .int x2)]) hx hb dX9_readUnknown_77 rfl hl (by decide) rfl (fun ls hl => ?_)
          refine lv_goto (tgt := 32) hx hb dX9_readUnknown_78 (by decide) ?_
          exact ih u_15 x2 r_13 hf hP hD hS (lv_sub hl [2, 3, 0] rfl)
def f9_readUnknown_20 (u : Md) (x1 : Int32) (x2 : Int32) : Option (Int32 × Md) := ((f9_lineEnd u x1).bind fun r_4 => ((f9_keep u x1 r_4).bind fun u_6 => (f9_readUnknown_32 FU u_6 x2 r_4)))
set_option maxHeartbeats 4000000 in
set_option maxRecDepth 100000 in
theorem w9_readUnknown_20 {p : Program} {l : Launch} {e : Env} {s : State} {m : MethodId} {args : Array Value} {below : List Frame} {meth : Method} {c : Code} (C : Cx p s m args meth c cX9_readUnknown 5 ws9_readUnknown RX9 (some .int)) {D : va_G} {cI cJ cC : ClassId} {a : Nat → Nat} {A : Nat → Prop} (hK : va_K D vwCl (ty3 cI cJ cC) s) (hA : ∀ q : Nat, s.heap.size ≤ q → A q) {r : (Int32 × Md)} : ∀ (u : Md) (x1 : Int32) (x2 : Int32), f9_readUnknown_20 u x1 x2 = some r → ∀ {H : Heap} {locs : List Loc}, va_P D vwCl (cM cI cJ a u) H → va_D A (cM cI cJ a u) → va_S A s.heap H locs → ∀ {ls : Array Slot}, lv_has ls 5 [(0, .ref (a 0)), (1, .int x1), (2, .int x2)] → W p l e rm9_readUnknown s m args below meth c H locs 0 0 (MQ below (qW (some (.int r.1)) (cM cI cJ a r.2) D (ty3 cI cJ cC) A) args s 0 0 A) (F0 m 20 ls []) := by
  have hx := C.1.1
  have hb := C.1.2.1
  have hts := C.1.2.2.2.2
  have hown := C.1.2.2.2.1
  have hin : ∀ w ∈ wsX90, w ∈ ws9_readUnknown := fun w h => List.mem_cons_of_mem _ (List.mem_append_right _ h)
  intro u x1 x2 hf H locs hP hD hS ls hl
  unfold f9_readUnknown_20 at hf
  refine lv_aload_n hx hb dX9_readUnknown_20 rfl (lv_at hl 0 rfl) ?_
  refine lv_iload_n hx hb dX9_readUnknown_21 rfl (lv_at hl 1 rfl) ?_
  obtain ⟨r_4, h_3, hf⟩ := og_b hf
  try dsimp only at hf
  refine ck_r (v := .int r_4) (rest := []) C.1 (c9_lineEnd l D cI cJ cC a u x1 r_4 _ h_3) (cwV 1 hts g9_lineEnd rfl rfl rfl hd9_lineEnd ⟨Nat.le_of_ble_eq_true rfl, Nat.le_of_ble_eq_true rfl⟩) hK hP hD (q0 := 0) (ci := 6) rfl rfl rfl rfl hl.1 rfl (Nat.le_of_ble_eq_true rfl) ⟨Nat.zero_le _, Nat.zero_le _⟩ dX9_readUnknown_22 ?_
  refine lv_istore_n (lv' := [(3, .int r_4), (0, .ref (a 0)), (1, .int x1), (2, .int x2)]) hx hb dX9_readUnknown_25 rfl hl (by decide) rfl (fun ls hl => ?_)
  refine lv_aload_n hx hb dX9_readUnknown_26 rfl (lv_at hl 1 rfl) ?_
  refine lv_iload_n hx hb dX9_readUnknown_27 rfl (lv_at hl 2 rfl) ?_
  refine lv_iload_n hx hb dX9_readUnknown_28 rfl (lv_at hl 0 rfl) ?_
  obtain ⟨u_6, h_5, hf⟩ := og_b hf
  try dsimp only at hf
  refine ck_w (ov := none) (st1 := []) (rest := []) C.1 (c9_keep l D cI cJ cC a u x1 r_4 u_6  _ h_5) (cwV 2 hts g9_keep rfl rfl rfl hd9_keep ⟨Nat.le_of_ble_eq_true rfl, Nat.le_of_ble_eq_true rfl⟩) hK hA hP hD hS (q0 := 0) (ci := 6) rfl rfl rfl rfl hl.1 rfl rfl (Nat.le_of_ble_eq_true rfl) ⟨Nat.zero_le _, Nat.zero_le _⟩ dX9_readUnknown_29 (fun H locs hP hD hS => ?_)
  exact w9_readUnknown_32 C hK hA FU u_6 x2 r_4 hf hP hD hS (lv_sub hl [1, 3, 0] rfl)
def f9_readUnknown (u : Md) (x1 : Int32) (x2 : Int32) : Option (Int32 × Md) := (if (gi u 15) = 0 then (f9_readUnknown_20 u x1 x2) else (if (gi u 17) < 0 ∨ 200 ≤ ((gi u 17)).toNatClampNeg then none else (f9_readUnknown_20 (sa u 10 (upd (ga u 10) ((gi u 17)).toNatClampNeg (gi u 22))) x1 x2)))
set_option maxHeartbeats 4000000 in
set_option maxRecDepth 100000 in
theorem c9_readUnknown (l : Launch) (D : va_G) (cI cJ cC : ClassId) (a : Nat → Nat) (u : Md) (x1 : Int32) (x2 : Int32) (r : Int32) (v : Md) (sz : Nat) (hf : f9_readUnknown u x1 x2 = some (r, v)) : Met l yX9_readUnknown ws9_readUnknown rm9_readUnknown (pW D (ty3 cI cJ cC) (cM cI cJ a u) sz [.ref (a 0), .int x1, .int x2]) (qW (some (.int r)) (cM cI cJ a v) D (ty3 cI cJ cC) (va_A (cM cI cJ a u) sz)) 0 0 (va_A (cM cI cJ a u) sz) := by
  refine mt_w (cc := cX9_readUnknown) (maxL := 5) (ret := (some .int)) (by decide) rfl (Nat.le_of_ble_eq_true rfl) ?_
  intro p e s m below meth c ls A C hl hK hA hP hD hS
  have hl : lv_has ls 5 [(0, .ref (a 0)), (1, .int x1), (2, .int x2)] := hl
  have hx := C.1.1
  have hb := C.1.2.1
  have hts := C.1.2.2.2.2
  have hown := C.1.2.2.2.1
  have hin : ∀ w ∈ wsX90, w ∈ ws9_readUnknown := fun w h => List.mem_cons_of_mem _ (List.mem_append_right _ h)
  unfold f9_readUnknown at hf
  refine lv_aload_n hx hb dX9_readUnknown_0 rfl (lv_at hl 0 rfl) ?_
  refine mg9 (v := .int (gi u 15)) C hin hK hP 15 (by decide) (hts (Cond.fieldLink RX9 119 "SchematicTextModel" "making" "Z") (List.mem_cons_of_mem _ m9_77)) rfl dX9_readUnknown_1 ?_
  refine lv_if_eq (tgt := 20) hx hb dX9_readUnknown_4 (by decide) (fun c_1 => ?_) (fun c_1 => ?_)
  · replace hf := og_t c_1 hf
    exact w9_readUnknown_20 C hK hA u x1 x2 hf hP hD hS (lv_sub hl [0, 1, 2] rfl)
  · replace hf := og_f c_1 hf
    refine lv_aload_n hx hb dX9_readUnknown_7 rfl (lv_at hl 0 rfl) ?_
    refine mg9 (v := .ref (a 10)) C hin hK hP 10 (by decide) (hts (Cond.fieldLink RX9 29 "SchematicTextModel" "keptFrom" "[I") (List.mem_cons_of_mem _ m9_12)) rfl dX9_readUnknown_8 ?_
    refine lv_aload_n hx hb dX9_readUnknown_11 rfl (lv_at hl 0 rfl) ?_
    refine mg9 (v := .int (gi u 17)) C hin hK hP 17 (by decide) (hts (Cond.fieldLink RX9 122 "SchematicTextModel" "found" "I") (List.mem_cons_of_mem _ m9_78)) rfl dX9_readUnknown_12 ?_
    refine lv_aload_n hx hb dX9_readUnknown_15 rfl (lv_at hl 0 rfl) ?_
    refine mg9 (v := .int (gi u 22)) C hin hK hP 22 (by decide) (hts (Cond.fieldLink RX9 169 "SchematicTextModel" "keeps" "I") (List.mem_cons_of_mem _ m9_114)) rfl dX9_readUnknown_16 ?_
    obtain ⟨h_2, hf⟩ := og_n hf
    refine ms9_10 C hK hP hD hS (f := (ga u 10)) rfl h_2 dX9_readUnknown_19 (fun H locs hP hD hS => ?_)
    exact w9_readUnknown_20 C hK hA (sa u 10 (upd (ga u 10) ((gi u 17)).toNatClampNeg (gi u 22))) x1 x2 hf hP hD hS (lv_sub hl [0, 1, 2] rfl)
abbrev rm9_readLine : Room := { frames := 5, cells := 0, slots := 0, locals := 130 }
noncomputable abbrev ws9_readLine : List Cond := Cond.code yX9_readLine cX9_readLine 6 (some .int) :: WA9
theorem g9_readLine {c0 : Cond} : GoodIn (c0 :: WA9) (wsV RX9 228 RX9 yX9_readLine ws9_readLine) := gd9_v m9_172 m9_173 m9_174 m9_29 m9_159
theorem hd9_readLine : yX9_readLine.cls = RX9 ∧ yX9_readLine.cls ≠ "java/lang/invoke/MethodHandle" ∧ yX9_readLine.cls ≠ "java/lang/invoke/VarHandle" ∧ (parseMethodDescriptor yX9_readLine.desc).map (fun d => d.parameters.length) = some 2 := by decide +kernel
def f9_readLine_115 (u : Md) (x2 : Int32) (x4 : Int32) (x5 : Int32) : Option (Int32 × Md) := (if x2 < 0 ∨ 201 ≤ (x2).toNatClampNeg then none else (if x2 < 0 ∨ 201 ≤ (x2).toNatClampNeg then none else (some ((x5 + (1 : Int32)), (si (si (sa (sa u 23 (upd (ga u 23) (x2).toNatClampNeg (gi u 17))) 24 (upd (ga u 24) (x2).toNatClampNeg x4)) 30 x2) 17 ((gi u 17) + (1 : Int32)))))))
set_option maxHeartbeats 4000000 in
set_option maxRecDepth 100000 in
theorem w9_readLine_115 {p : Program} {l : Launch} {e : Env} {s : State} {m : MethodId} {args : Array Value} {below : List Frame} {meth : Method} {c : Code} (C : Cx p s m args meth c cX9_readLine 6 ws9_readLine RX9 (some .int)) {D : va_G} {cI cJ cC : ClassId} {a : Nat → Nat} {A : Nat → Prop} (hK : va_K D vwCl (ty3 cI cJ cC) s) (hA : ∀ q : Nat, s.heap.size ≤ q → A q) {r : (Int32 × Md)} : ∀ (u : Md) (x2 : Int32) (x4 : Int32) (x5 : Int32), f9_readLine_115 u x2 x4 x5 = some r → ∀ {H : Heap} {locs : List Loc}, va_P D vwCl (cM cI cJ a u) H → va_D A (cM cI cJ a u) → va_S A s.heap H locs → ∀ {ls : Array Slot}, lv_has ls 6 [(0, .ref (a 0)), (2, .int x2), (4, .int x4), (5, .int x5)] → W p l e rm9_readLine s m args below meth c H locs 0 0 (MQ below (qW (some (.int r.1)) (cM cI cJ a r.2) D (ty3 cI cJ cC) A) args s 0 0 A) (F0 m 115 ls []) := by
  have hx := C.1.1
  have hb := C.1.2.1
  have hts := C.1.2.2.2.2
  have hown := C.1.2.2.2.1
  have hin : ∀ w ∈ wsX90, w ∈ ws9_readLine := fun w h => List.mem_cons_of_mem _ (List.mem_append_right _ h)
  intro u x2 x4 x5 hf H locs hP hD hS ls hl
  unfold f9_readLine_115 at hf
  refine lv_aload_n hx hb dX9_readLine_115 rfl (lv_at hl 0 rfl) ?_
  refine mg9 (v := .ref (a 23)) C hin hK hP 23 (by decide) (hts (Cond.fieldLink RX9 38 "SchematicTextModel" "open" "[I") (List.mem_cons_of_mem _ m9_15)) rfl dX9_readLine_116 ?_
  refine lv_iload_n hx hb dX9_readLine_119 rfl (lv_at hl 1 rfl) ?_
  refine lv_aload_n hx hb dX9_readLine_120 rfl (lv_at hl 0 rfl) ?_
  refine mg9 (v := .int (gi u 17)) C hin hK hP 17 (by decide) (hts (Cond.fieldLink RX9 122 "SchematicTextModel" "found" "I") (List.mem_cons_of_mem _ m9_78)) rfl dX9_readLine_121 ?_
  obtain ⟨h_27, hf⟩ := og_n hf
  refine ms9_23 C hK hP hD hS (f := (ga u 23)) rfl h_27 dX9_readLine_124 (fun H locs hP hD hS => ?_)
  refine lv_aload_n hx hb dX9_readLine_125 rfl (lv_at hl 0 rfl) ?_
  refine mg9 (v := .ref (a 24)) C hin hK hP 24 (by decide) (hts (Cond.fieldLink RX9 41 "SchematicTextModel" "openKind" "[I") (List.mem_cons_of_mem _ m9_16)) rfl dX9_readLine_126 ?_
  refine lv_iload_n hx hb dX9_readLine_129 rfl (lv_at hl 1 rfl) ?_
  refine lv_iload hx hb dX9_readLine_130 (lv_at hl 2 rfl) ?_
  obtain ⟨h_28, hf⟩ := og_n hf
  refine ms9_24 C hK hP hD hS (f := (ga u 24)) rfl h_28 dX9_readLine_132 (fun H locs hP hD hS => ?_)
  refine lv_aload_n hx hb dX9_readLine_133 rfl (lv_at hl 0 rfl) ?_
  refine lv_iload_n hx hb dX9_readLine_134 rfl (lv_at hl 1 rfl) ?_
  refine mp9_30 C hin hK hP hD hS (hts (Cond.fieldLink RX9 219 "SchematicTextModel" "last" "I") (List.mem_cons_of_mem _ m9_160)) dX9_readLine_135 (fun H locs hP hD hS => ?_)
  refine lv_aload_n hx hb dX9_readLine_138 rfl (lv_at hl 0 rfl) ?_
  refine lv_dup hx hb dX9_readLine_139 rfl ?_
  refine mg9 (v := .int (gi u 17)) C hin hK hP 17 (by decide) (hts (Cond.fieldLink RX9 122 "SchematicTextModel" "found" "I") (List.mem_cons_of_mem _ m9_78)) rfl dX9_readLine_140 ?_
  refine lv_iconst (v := (1 : Int32)) hx hb dX9_readLine_143 (by decide) ?_
  refine lv_iadd hx hb dX9_readLine_144 ?_
  refine mp9_17 C hin hK hP hD hS (hts (Cond.fieldLink RX9 122 "SchematicTextModel" "found" "I") (List.mem_cons_of_mem _ m9_78)) dX9_readLine_145 (fun H locs hP hD hS => ?_)
  refine lv_iload hx hb dX9_readLine_148 (lv_at hl 3 rfl) ?_
  refine lv_iconst (v := (1 : Int32)) hx hb dX9_readLine_150 (by decide) ?_
  refine lv_iadd hx hb dX9_readLine_151 ?_
  obtain rfl := og_s hf
  exact rw_i C hK hP hD hS dX9_readLine_152
def f9_readLine_96 (u : Md) (x2 : Int32) (x4 : Int32) (y0 : Int32) : Option (Int32 × Md) := ((f9_c u y0).bind fun r_23 => (if r_23 = (10 : Int32) then (f9_readLine_115 u x2 x4 y0) else ((f9_fail u y0).bind fun u_26 => (f9_readLine_115 u_26 x2 x4 y0))))
set_option maxHeartbeats 4000000 in
set_option maxRecDepth 100000 in
theorem w9_readLine_96 {p : Program} {l : Launch} {e : Env} {s : State} {m : MethodId} {args : Array Value} {below : List Frame} {meth : Method} {c : Code} (C : Cx p s m args meth c cX9_readLine 6 ws9_readLine RX9 (some .int)) {D : va_G} {cI cJ cC : ClassId} {a : Nat → Nat} {A : Nat → Prop} (hK : va_K D vwCl (ty3 cI cJ cC) s) (hA : ∀ q : Nat, s.heap.size ≤ q → A q) {r : (Int32 × Md)} : ∀ (u : Md) (x2 : Int32) (x4 : Int32) (y0 : Int32), f9_readLine_96 u x2 x4 y0 = some r → ∀ {H : Heap} {locs : List Loc}, va_P D vwCl (cM cI cJ a u) H → va_D A (cM cI cJ a u) → va_S A s.heap H locs → ∀ {ls : Array Slot}, lv_has ls 6 [(0, .ref (a 0)), (2, .int x2), (4, .int x4)] → W p l e rm9_readLine s m args below meth c H locs 0 0 (MQ below (qW (some (.int r.1)) (cM cI cJ a r.2) D (ty3 cI cJ cC) A) args s 0 0 A) (F0 m 96 ls [.int y0]) := by
  have hx := C.1.1
  have hb := C.1.2.1
  have hts := C.1.2.2.2.2
  have hown := C.1.2.2.2.1
  have hin : ∀ w ∈ wsX90, w ∈ ws9_readLine := fun w h => List.mem_cons_of_mem _ (List.mem_append_right _ h)
  intro u x2 x4 y0 hf H locs hP hD hS ls hl
  unfold f9_readLine_96 at hf
  refine lv_istore (lv' := [(5, .int y0), (0, .ref (a 0)), (2, .int x2), (4, .int x4)]) hx hb dX9_readLine_96 hl (by decide) rfl (fun ls hl => ?_)
  refine lv_aload_n hx hb dX9_readLine_98 rfl (lv_at hl 1 rfl) ?_
  refine lv_iload hx hb dX9_readLine_99 (lv_at hl 0 rfl) ?_
  obtain ⟨r_23, h_22, hf⟩ := og_b hf
  try dsimp only at hf
  refine ck_r (v := .int r_23) (rest := []) C.1 (c9_c l D cI cJ cC a u y0 r_23 _ h_22) (cwV 1 hts g9_c rfl rfl rfl hd9_c ⟨Nat.le_of_ble_eq_true rfl, Nat.le_of_ble_eq_true rfl⟩) hK hP hD (q0 := 0) (ci := 6) rfl rfl rfl rfl hl.1 rfl (Nat.le_of_ble_eq_true rfl) ⟨Nat.zero_le _, Nat.zero_le _⟩ dX9_readLine_101 ?_
  refine lv_bipush (v := (10 : Int32)) hx hb dX9_readLine_104 (by decide) ?_
  refine lv_icmp_eq (tgt := 115) hx hb dX9_readLine_106 (by decide) (fun c_24 => ?_) (fun c_24 => ?_)
  · replace hf := og_t c_24 hf
    exact w9_readLine_115 C hK hA u x2 x4 y0 hf hP hD hS (lv_sub hl [1, 2, 3, 0] rfl)
  · replace hf := og_f c_24 hf
    refine lv_aload_n hx hb dX9_readLine_109 rfl (lv_at hl 1 rfl) ?_
    refine lv_iload hx hb dX9_readLine_110 (lv_at hl 0 rfl) ?_
    obtain ⟨u_26, h_25, hf⟩ := og_b hf
    try dsimp only at hf
    refine ck_w (ov := none) (st1 := []) (rest := []) C.1 (c9_fail l D cI cJ cC a u y0 u_26  _ h_25) (cwV 1 hts g9_fail rfl rfl rfl hd9_fail ⟨Nat.le_of_ble_eq_true rfl, Nat.le_of_ble_eq_true rfl⟩) hK hA hP hD hS (q0 := 0) (ci := 6) rfl rfl rfl rfl hl.1 rfl rfl (Nat.le_of_ble_eq_true rfl) ⟨Nat.zero_le _, Nat.zero_le _⟩ dX9_readLine_112 (fun H locs hP hD hS => ?_)
    exact w9_readLine_115 C hK hA u_26 x2 x4 y0 hf hP hD hS (lv_sub hl [1, 2, 3, 0] rfl)
def f9_readLine_38 (u : Md) (x1 : Int32) (x2 : Int32) (x3 : Int32) (y0 : Int32) (y1 : Int32) (y2 : Int32) : Option (Int32 × Md) := ((f9_beginObject u y2 y1 y0).bind fun p_7 => (if p_7.1 = (-1 : Int32) then (some (x1, p_7.2)) else ((f9_nameEnd p_7.2 x3).bind fun r_10 => (if p_7.1 = (9 : Int32) then ((f9_readUnknown p_7.2 x3 x2).bind fun p_21 => (some (p_21.1, p_21.2))) else (if p_7.1 = 0 then ((f9_readVersion p_7.2 r_10 (0 : Int32)).bind fun p_18 => (f9_readLine_96 p_18.2 x2 p_7.1 p_18.1)) else ((f9_values p_7.2 p_7.1 r_10 (0 : Int32)).bind fun p_15 => (f9_readLine_96 p_15.2 x2 p_7.1 p_15.1)))))))
set_option maxHeartbeats 4000000 in
set_option maxRecDepth 100000 in
theorem w9_readLine_38 {p : Program} {l : Launch} {e : Env} {s : State} {m : MethodId} {args : Array Value} {below : List Frame} {meth : Method} {c : Code} (C : Cx p s m args meth c cX9_readLine 6 ws9_readLine RX9 (some .int)) {D : va_G} {cI cJ cC : ClassId} {a : Nat → Nat} {A : Nat → Prop} (hK : va_K D vwCl (ty3 cI cJ cC) s) (hA : ∀ q : Nat, s.heap.size ≤ q → A q) {r : (Int32 × Md)} : ∀ (u : Md) (x1 : Int32) (x2 : Int32) (x3 : Int32) (y0 : Int32) (y1 : Int32) (y2 : Int32), f9_readLine_38 u x1 x2 x3 y0 y1 y2 = some r → ∀ {H : Heap} {locs : List Loc}, va_P D vwCl (cM cI cJ a u) H → va_D A (cM cI cJ a u) → va_S A s.heap H locs → ∀ {ls : Array Slot}, lv_has ls 6 [(0, .ref (a 0)), (1, .int x1), (2, .int x2), (3, .int x3)] → W p l e rm9_readLine s m args below meth c H locs 0 0 (MQ below (qW (some (.int r.1)) (cM cI cJ a r.2) D (ty3 cI cJ cC) A) args s 0 0 A) (F0 m 38 ls [.int y0, .int y1, .int y2, .ref (a 0)]) := by
  have hx := C.1.1
  have hb := C.1.2.1
  have hts := C.1.2.2.2.2
  have hown := C.1.2.2.2.1
  have hin : ∀ w ∈ wsX90, w ∈ ws9_readLine := fun w h => List.mem_cons_of_mem _ (List.mem_append_right _ h)
  intro u x1 x2 x3 y0 y1 y2 hf H locs hP hD hS ls hl
  unfold f9_readLine_38 at hf
  obtain ⟨⟨r_7, u_6⟩, h_5, hf⟩ := og_b hf
  try dsimp only at hf
  refine ck_w (ov := (some (.int r_7))) (st1 := [.int r_7]) (rest := []) C.1 (c9_beginObject l D cI cJ cC a u y2 y1 y0 r_7 u_6  _ h_5) (cwV 3 hts g9_beginObject rfl rfl rfl hd9_beginObject ⟨Nat.le_of_ble_eq_true rfl, Nat.le_of_ble_eq_true rfl⟩) hK hA hP hD hS (q0 := 0) (ci := 6) rfl rfl rfl rfl hl.1 rfl rfl (Nat.le_of_ble_eq_true rfl) ⟨Nat.zero_le _, Nat.zero_le _⟩ dX9_readLine_38 (fun H locs hP hD hS => ?_)
  refine lv_istore (lv' := [(4, .int r_7), (0, .ref (a 0)), (1, .int x1), (2, .int x2), (3, .int x3)]) hx hb dX9_readLine_41 hl (by decide) rfl (fun ls hl => ?_)
  refine lv_iload hx hb dX9_readLine_43 (lv_at hl 0 rfl) ?_
  refine lv_iconst (v := (-1 : Int32)) hx hb dX9_readLine_45 (by decide) ?_
  refine lv_icmp_ne (tgt := 51) hx hb dX9_readLine_46 (by decide) (fun c_8 => ?_) (fun c_8 => ?_)
  · replace hf := og_f c_8 hf
    refine lv_aload_n hx hb dX9_readLine_51 rfl (lv_at hl 1 rfl) ?_
    refine lv_iload_n hx hb dX9_readLine_52 rfl (lv_at hl 4 rfl) ?_
    obtain ⟨r_10, h_9, hf⟩ := og_b hf
    try dsimp only at hf
    refine ck_r (v := .int r_10) (rest := []) C.1 (c9_nameEnd l D cI cJ cC a u_6 x3 r_10 _ h_9) (cwV 1 hts g9_nameEnd rfl rfl rfl hd9_nameEnd ⟨Nat.le_of_ble_eq_true rfl, Nat.le_of_ble_eq_true rfl⟩) hK hP hD (q0 := 0) (ci := 6) rfl rfl rfl rfl hl.1 rfl (Nat.le_of_ble_eq_true rfl) ⟨Nat.zero_le _, Nat.zero_le _⟩ dX9_readLine_53 ?_
    refine lv_istore (lv' := [(5, .int r_10), (4, .int r_7), (0, .ref (a 0)), (1, .int x1), (2, .int x2), (3, .int x3)]) hx hb dX9_readLine_56 hl (by decide) rfl (fun ls hl => ?_)
    refine lv_iload hx hb dX9_readLine_58 (lv_at hl 1 rfl) ?_
    refine lv_bipush (v := (9 : Int32)) hx hb dX9_readLine_60 (by decide) ?_
    refine lv_icmp_ne (tgt := 72) hx hb dX9_readLine_62 (by decide) (fun c_11 => ?_) (fun c_11 => ?_)
    · replace hf := og_f c_11 hf
      refine lv_iload hx hb dX9_readLine_72 (lv_at hl 1 rfl) ?_
      refine lv_if_ne (tgt := 87) hx hb dX9_readLine_74 (by decide) (fun c_12 => ?_) (fun c_12 => ?_)
      · replace hf := og_f c_12 hf
        refine lv_aload_n hx hb dX9_readLine_87 rfl (lv_at hl 2 rfl) ?_
        refine lv_iload hx hb dX9_readLine_88 (lv_at hl 1 rfl) ?_
        refine lv_iload hx hb dX9_readLine_90 (lv_at hl 0 rfl) ?_
        refine lv_iconst (v := (0 : Int32)) hx hb dX9_readLine_92 (by decide) ?_
        obtain ⟨⟨r_15, u_14⟩, h_13, hf⟩ := og_b hf
        try dsimp only at hf
        refine ck_w (ov := (some (.int r_15))) (st1 := [.int r_15]) (rest := []) C.1 (c9_values l D cI cJ cC a u_6 r_7 r_10 (0 : Int32) r_15 u_14  _ h_13) (cwV 3 hts g9_values rfl rfl rfl hd9_values ⟨Nat.le_of_ble_eq_true rfl, Nat.le_of_ble_eq_true rfl⟩) hK hA hP hD hS (q0 := 0) (ci := 6) rfl rfl rfl rfl hl.1 rfl rfl (Nat.le_of_ble_eq_true rfl) ⟨Nat.zero_le _, Nat.zero_le _⟩ dX9_readLine_93 (fun H locs hP hD hS => ?_)
        exact w9_readLine_96 C hK hA u_14 x2 r_7 r_15 hf hP hD hS (lv_sub hl [2, 4, 1] rfl)
      · replace hf := og_t c_12 hf
        refine lv_aload_n hx hb dX9_readLine_77 rfl (lv_at hl 2 rfl) ?_
        refine lv_iload hx hb dX9_readLine_78 (lv_at hl 0 rfl) ?_
        refine lv_iconst (v := (0 : Int32)) hx hb dX9_readLine_80 (by decide) ?_
        obtain ⟨⟨r_18, u_17⟩, h_16, hf⟩ := og_b hf
        try dsimp only at hf
        refine ck_w (ov := (some (.int r_18))) (st1 := [.int r_18]) (rest := []) C.1 (c9_readVersion l D cI cJ cC a u_6 r_10 (0 : Int32) r_18 u_17  _ h_16) (cwV 2 hts g9_readVersion rfl rfl rfl hd9_readVersion ⟨Nat.le_of_ble_eq_true rfl, Nat.le_of_ble_eq_true rfl⟩) hK hA hP hD hS (q0 := 0) (ci := 6) rfl rfl rfl rfl hl.1 rfl rfl (Nat.le_of_ble_eq_true rfl) ⟨Nat.zero_le _, Nat.zero_le _⟩ dX9_readLine_81 (fun H locs hP hD hS => ?_)
        refine lv_goto (tgt := 96) hx hb dX9_readLine_84 (by decide) ?_
        exact w9_readLine_96 C hK hA u_17 x2 r_7 r_18 hf hP hD hS (lv_sub hl [2, 4, 1] rfl)
    · replace hf := og_t c_11 hf
      refine lv_aload_n hx hb dX9_readLine_65 rfl (lv_at hl 2 rfl) ?_
      refine lv_iload_n hx hb dX9_readLine_66 rfl (lv_at hl 5 rfl) ?_
      refine lv_iload_n hx hb dX9_readLine_67 rfl (lv_at hl 4 rfl) ?_
      obtain ⟨⟨r_21, u_20⟩, h_19, hf⟩ := og_b hf
      try dsimp only at hf
      refine ck_w (ov := (some (.int r_21))) (st1 := [.int r_21]) (rest := []) C.1 (c9_readUnknown l D cI cJ cC a u_6 x3 x2 r_21 u_20  _ h_19) (cwV 2 hts g9_readUnknown rfl rfl rfl hd9_readUnknown ⟨Nat.le_of_ble_eq_true rfl, Nat.le_of_ble_eq_true rfl⟩) hK hA hP hD hS (q0 := 0) (ci := 6) rfl rfl rfl rfl hl.1 rfl rfl (Nat.le_of_ble_eq_true rfl) ⟨Nat.zero_le _, Nat.zero_le _⟩ dX9_readLine_68 (fun H locs hP hD hS => ?_)
      obtain rfl := og_s hf
      exact rw_i C hK hP hD hS dX9_readLine_71
  · replace hf := og_t c_8 hf
    refine lv_iload_n hx hb dX9_readLine_49 rfl (lv_at hl 2 rfl) ?_
    obtain rfl := og_s hf
    exact rw_i C hK hP hD hS dX9_readLine_50
def f9_readLine_22 (u : Md) (x1 : Int32) (x2 : Int32) (x3 : Int32) (y0 : Int32) (y1 : Int32) : Option (Int32 × Md) := (if x2 = 0 then (f9_readLine_38 u x1 x2 x3 (-1 : Int32) y0 y1) else (if (x2 - (1 : Int32)) < 0 ∨ 201 ≤ ((x2 - (1 : Int32))).toNatClampNeg then none else (f9_readLine_38 u x1 x2 x3 ((ga u 23) ((x2 - (1 : Int32))).toNatClampNeg) y0 y1)))
set_option maxHeartbeats 4000000 in
set_option maxRecDepth 100000 in
theorem w9_readLine_22 {p : Program} {l : Launch} {e : Env} {s : State} {m : MethodId} {args : Array Value} {below : List Frame} {meth : Method} {c : Code} (C : Cx p s m args meth c cX9_readLine 6 ws9_readLine RX9 (some .int)) {D : va_G} {cI cJ cC : ClassId} {a : Nat → Nat} {A : Nat → Prop} (hK : va_K D vwCl (ty3 cI cJ cC) s) (hA : ∀ q : Nat, s.heap.size ≤ q → A q) {r : (Int32 × Md)} : ∀ (u : Md) (x1 : Int32) (x2 : Int32) (x3 : Int32) (y0 : Int32) (y1 : Int32), f9_readLine_22 u x1 x2 x3 y0 y1 = some r → ∀ {H : Heap} {locs : List Loc}, va_P D vwCl (cM cI cJ a u) H → va_D A (cM cI cJ a u) → va_S A s.heap H locs → ∀ {ls : Array Slot}, lv_has ls 6 [(0, .ref (a 0)), (1, .int x1), (2, .int x2), (3, .int x3)] → W p l e rm9_readLine s m args below meth c H locs 0 0 (MQ below (qW (some (.int r.1)) (cM cI cJ a r.2) D (ty3 cI cJ cC) A) args s 0 0 A) (F0 m 22 ls [.int y0, .int y1, .ref (a 0)]) := by
  have hx := C.1.1
  have hb := C.1.2.1
  have hts := C.1.2.2.2.2
  have hown := C.1.2.2.2.1
  have hin : ∀ w ∈ wsX90, w ∈ ws9_readLine := fun w h => List.mem_cons_of_mem _ (List.mem_append_right _ h)
  intro u x1 x2 x3 y0 y1 hf H locs hP hD hS ls hl
  unfold f9_readLine_22 at hf
  refine lv_iload_n hx hb dX9_readLine_22 rfl (lv_at hl 2 rfl) ?_
  refine lv_if_ne (tgt := 30) hx hb dX9_readLine_23 (by decide) (fun c_3 => ?_) (fun c_3 => ?_)
  · replace hf := og_f c_3 hf
    refine lv_aload_n hx hb dX9_readLine_30 rfl (lv_at hl 0 rfl) ?_
    refine mg9 (v := .ref (a 23)) C hin hK hP 23 (by decide) (hts (Cond.fieldLink RX9 38 "SchematicTextModel" "open" "[I") (List.mem_cons_of_mem _ m9_15)) rfl dX9_readLine_31 ?_
    refine lv_iload_n hx hb dX9_readLine_34 rfl (lv_at hl 2 rfl) ?_
    refine lv_iconst (v := (1 : Int32)) hx hb dX9_readLine_35 (by decide) ?_
    refine lv_isub hx hb dX9_readLine_36 ?_
    obtain ⟨h_4, hf⟩ := og_n hf
    refine va_iald (f := (ga u 23)) hx hb hK hP 10 0 rfl rfl h_4 dX9_readLine_37 ?_
    exact w9_readLine_38 C hK hA u x1 x2 x3 ((ga u 23) ((x2 - (1 : Int32))).toNatClampNeg) y0 y1 hf hP hD hS (lv_sub hl [0, 1, 2, 3] rfl)
  · replace hf := og_t c_3 hf
    refine lv_iconst (v := (-1 : Int32)) hx hb dX9_readLine_26 (by decide) ?_
    refine lv_goto (tgt := 38) hx hb dX9_readLine_27 (by decide) ?_
    exact w9_readLine_38 C hK hA u x1 x2 x3 (-1 : Int32) y0 y1 hf hP hD hS (lv_sub hl [0, 1, 2, 3] rfl)
def f9_readLine (u : Md) (x1 : Int32) (x2 : Int32) : Option (Int32 × Md) := (if x2 = 0 then (f9_readLine_22 u x1 x2 (x1 + x2) (-1 : Int32) (x1 + x2)) else (if (x2 - (1 : Int32)) < 0 ∨ 201 ≤ ((x2 - (1 : Int32))).toNatClampNeg then none else (f9_readLine_22 u x1 x2 (x1 + x2) ((ga u 24) ((x2 - (1 : Int32))).toNatClampNeg) (x1 + x2))))
set_option maxHeartbeats 4000000 in
set_option maxRecDepth 100000 in
theorem c9_readLine (l : Launch) (D : va_G) (cI cJ cC : ClassId) (a : Nat → Nat) (u : Md) (x1 : Int32) (x2 : Int32) (r : Int32) (v : Md) (sz : Nat) (hf : f9_readLine u x1 x2 = some (r, v)) : Met l yX9_readLine ws9_readLine rm9_readLine (pW D (ty3 cI cJ cC) (cM cI cJ a u) sz [.ref (a 0), .int x1, .int x2]) (qW (some (.int r)) (cM cI cJ a v) D (ty3 cI cJ cC) (va_A (cM cI cJ a u) sz)) 0 0 (va_A (cM cI cJ a u) sz) := by
  refine mt_w (cc := cX9_readLine) (maxL := 6) (ret := (some .int)) (by decide) rfl (Nat.le_of_ble_eq_true rfl) ?_
  intro p e s m below meth c ls A C hl hK hA hP hD hS
  have hl : lv_has ls 6 [(0, .ref (a 0)), (1, .int x1), (2, .int x2)] := hl
  have hx := C.1.1
  have hb := C.1.2.1
  have hts := C.1.2.2.2.2
  have hown := C.1.2.2.2.1
  have hin : ∀ w ∈ wsX90, w ∈ ws9_readLine := fun w h => List.mem_cons_of_mem _ (List.mem_append_right _ h)
  unfold f9_readLine at hf
  refine lv_iload_n hx hb dX9_readLine_0 rfl (lv_at hl 1 rfl) ?_
  refine lv_iload_n hx hb dX9_readLine_1 rfl (lv_at hl 2 rfl) ?_
  refine lv_iadd hx hb dX9_readLine_2 ?_
  refine lv_istore_n (lv' := [(3, .int (x1 + x2)), (0, .ref (a 0)), (1, .int x1), (2, .int x2)]) hx hb dX9_readLine_3 rfl hl (by decide) rfl (fun ls hl => ?_)
  refine lv_aload_n hx hb dX9_readLine_4 rfl (lv_at hl 1 rfl) ?_
  refine lv_iload_n hx hb dX9_readLine_5 rfl (lv_at hl 0 rfl) ?_
  refine lv_iload_n hx hb dX9_readLine_6 rfl (lv_at hl 3 rfl) ?_
  refine lv_if_ne (tgt := 14) hx hb dX9_readLine_7 (by decide) (fun c_1 => ?_) (fun c_1 => ?_)
  · replace hf := og_f c_1 hf
    refine lv_aload_n hx hb dX9_readLine_14 rfl (lv_at hl 1 rfl) ?_
    refine mg9 (v := .ref (a 24)) C hin hK hP 24 (by decide) (hts (Cond.fieldLink RX9 41 "SchematicTextModel" "openKind" "[I") (List.mem_cons_of_mem _ m9_16)) rfl dX9_readLine_15 ?_
    refine lv_iload_n hx hb dX9_readLine_18 rfl (lv_at hl 3 rfl) ?_
    refine lv_iconst (v := (1 : Int32)) hx hb dX9_readLine_19 (by decide) ?_
    refine lv_isub hx hb dX9_readLine_20 ?_
    obtain ⟨h_2, hf⟩ := og_n hf
    refine va_iald (f := (ga u 24)) hx hb hK hP 11 0 rfl rfl h_2 dX9_readLine_21 ?_
    exact w9_readLine_22 C hK hA u x1 x2 (x1 + x2) ((ga u 24) ((x2 - (1 : Int32))).toNatClampNeg) (x1 + x2) hf hP hD hS (lv_sub hl [1, 2, 3, 0] rfl)
  · replace hf := og_t c_1 hf
    refine lv_iconst (v := (-1 : Int32)) hx hb dX9_readLine_10 (by decide) ?_
    refine lv_goto (tgt := 22) hx hb dX9_readLine_11 (by decide) ?_
    exact w9_readLine_22 C hK hA u x1 x2 (x1 + x2) (-1 : Int32) (x1 + x2) hf hP hD hS (lv_sub hl [1, 2, 3, 0] rfl)
abbrev rm9_readLines : Room := { frames := 6, cells := 0, slots := 0, locals := 155 }
noncomputable abbrev ws9_readLines : List Cond := Cond.code yX9_readLines cX9_readLines 3 none :: WA9
theorem g9_readLines {c0 : Cond} : GoodIn (c0 :: WA9) (wsV RX9 234 RX9 yX9_readLines ws9_readLines) := gd9_v m9_179 m9_180 m9_181 m9_29 m9_171
theorem hd9_readLines : yX9_readLines.cls = RX9 ∧ yX9_readLines.cls ≠ "java/lang/invoke/MethodHandle" ∧ yX9_readLines.cls ≠ "java/lang/invoke/VarHandle" ∧ (parseMethodDescriptor yX9_readLines.desc).map (fun d => d.parameters.length) = some 0 := by decide +kernel
def f9_readLines_81 (k7 : Md → Int32 → Option Md) (u : Md) (x1 : Int32) : Option Md := (k7 u x1)
set_option maxHeartbeats 4000000 in
set_option maxRecDepth 100000 in
theorem w9_readLines_81 {p : Program} {l : Launch} {e : Env} {s : State} {m : MethodId} {args : Array Value} {below : List Frame} {meth : Method} {c : Code} (C : Cx p s m args meth c cX9_readLines 3 ws9_readLines RX9 none) {D : va_G} {cI cJ cC : ClassId} {a : Nat → Nat} {A : Nat → Prop} (hK : va_K D vwCl (ty3 cI cJ cC) s) (hA : ∀ q : Nat, s.heap.size ≤ q → A q) {r : Md} (k7 : Md → Int32 → Option Md) (ih7 : ∀ (u : Md) (x1 : Int32), k7 u x1 = some r → ∀ {H : Heap} {locs : List Loc}, va_P D vwCl (cM cI cJ a u) H → va_D A (cM cI cJ a u) → va_S A s.heap H locs → ∀ {ls : Array Slot}, lv_has ls 3 [(0, .ref (a 0)), (1, .int x1)] → W p l e rm9_readLines s m args below meth c H locs 0 0 (MQ below (qW none (cM cI cJ a r) D (ty3 cI cJ cC) A) args s 0 0 A) (F0 m 7 ls [])) : ∀ (u : Md) (x1 : Int32), f9_readLines_81 k7 u x1 = some r → ∀ {H : Heap} {locs : List Loc}, va_P D vwCl (cM cI cJ a u) H → va_D A (cM cI cJ a u) → va_S A s.heap H locs → ∀ {ls : Array Slot}, lv_has ls 3 [(0, .ref (a 0)), (1, .int x1)] → W p l e rm9_readLines s m args below meth c H locs 0 0 (MQ below (qW none (cM cI cJ a r) D (ty3 cI cJ cC) A) args s 0 0 A) (F0 m 81 ls []) := by
  have hx := C.1.1
  have hb := C.1.2.1
  have hts := C.1.2.2.2.2
  have hown := C.1.2.2.2.1
  have hin : ∀ w ∈ wsX90, w ∈ ws9_readLines := fun w h => List.mem_cons_of_mem _ (List.mem_append_right _ h)
  intro u x1 hf H locs hP hD hS ls hl
  unfold f9_readLines_81 at hf
  refine lv_goto (tgt := 7) hx hb dX9_readLines_81 (by decide) ?_
  exact ih7 u x1 hf hP hD hS (lv_sub hl [0, 1] rfl)
def f9_readLines_74 (k7 : Md → Int32 → Option Md) (u : Md) (x1 : Int32) (x2 : Int32) : Option Md := ((f9_readLine u x1 x2).bind fun p_15 => (f9_readLines_81 k7 p_15.2 p_15.1))
set_option maxHeartbeats 4000000 in
set_option maxRecDepth 100000 in
theorem w9_readLines_74 {p : Program} {l : Launch} {e : Env} {s : State} {m : MethodId} {args : Array Value} {below : List Frame} {meth : Method} {c : Code} (C : Cx p s m args meth c cX9_readLines 3 ws9_readLines RX9 none) {D : va_G} {cI cJ cC : ClassId} {a : Nat → Nat} {A : Nat → Prop} (hK : va_K D vwCl (ty3 cI cJ cC) s) (hA : ∀ q : Nat, s.heap.size ≤ q → A q) {r : Md} (k7 : Md → Int32 → Option Md) (ih7 : ∀ (u : Md) (x1 : Int32), k7 u x1 = some r → ∀ {H : Heap} {locs : List Loc}, va_P D vwCl (cM cI cJ a u) H → va_D A (cM cI cJ a u) → va_S A s.heap H locs → ∀ {ls : Array Slot}, lv_has ls 3 [(0, .ref (a 0)), (1, .int x1)] → W p l e rm9_readLines s m args below meth c H locs 0 0 (MQ below (qW none (cM cI cJ a r) D (ty3 cI cJ cC) A) args s 0 0 A) (F0 m 7 ls [])) : ∀ (u : Md) (x1 : Int32) (x2 : Int32), f9_readLines_74 k7 u x1 x2 = some r → ∀ {H : Heap} {locs : List Loc}, va_P D vwCl (cM cI cJ a u) H → va_D A (cM cI cJ a u) → va_S A s.heap H locs → ∀ {ls : Array Slot}, lv_has ls 3 [(0, .ref (a 0)), (1, .int x1), (2, .int x2)] → W p l e rm9_readLines s m args below meth c H locs 0 0 (MQ below (qW none (cM cI cJ a r) D (ty3 cI cJ cC) A) args s 0 0 A) (F0 m 74 ls []) := by
  have hx := C.1.1
  have hb := C.1.2.1
  have hts := C.1.2.2.2.2
  have hown := C.1.2.2.2.1
  have hin : ∀ w ∈ wsX90, w ∈ ws9_readLines := fun w h => List.mem_cons_of_mem _ (List.mem_append_right _ h)
  intro u x1 x2 hf H locs hP hD hS ls hl
  unfold f9_readLines_74 at hf
  refine lv_aload_n hx hb dX9_readLines_74 rfl (lv_at hl 0 rfl) ?_
  refine lv_iload_n hx hb dX9_readLines_75 rfl (lv_at hl 1 rfl) ?_
  refine lv_iload_n hx hb dX9_readLines_76 rfl (lv_at hl 2 rfl) ?_
  obtain ⟨⟨r_15, u_14⟩, h_13, hf⟩ := og_b hf
  try dsimp only at hf
  refine ck_w (ov := (some (.int r_15))) (st1 := [.int r_15]) (rest := []) C.1 (c9_readLine l D cI cJ cC a u x1 x2 r_15 u_14  _ h_13) (cwV 2 hts g9_readLine rfl rfl rfl hd9_readLine ⟨Nat.le_of_ble_eq_true rfl, Nat.le_of_ble_eq_true rfl⟩) hK hA hP hD hS (q0 := 0) (ci := 6) rfl rfl rfl rfl hl.1 rfl rfl (Nat.le_of_ble_eq_true rfl) ⟨Nat.zero_le _, Nat.zero_le _⟩ dX9_readLines_77 (fun H locs hP hD hS => ?_)
  refine lv_istore_n (lv' := [(1, .int r_15), (0, .ref (a 0)), (2, .int x2)]) hx hb dX9_readLines_80 rfl hl (by decide) rfl (fun ls hl => ?_)
  exact w9_readLines_81 C hK hA k7 (fun _ _ h9 => ih7 _ _ h9) u_14 r_15 hf hP hD hS (lv_sub hl [1, 0] rfl)
def f9_readLines_27 (k7 : Md → Int32 → Option Md) (u : Md) (x1 : Int32) : Option Md := ((f9_dots u x1).bind fun r_5 => (if r_5 ≤ ((gi u 30) + (1 : Int32)) then (if r_5 = 0 then (if x1 ≤ 0 then (f9_readLines_74 k7 u x1 r_5) else ((f9_fail u x1).bind fun u_10 => (f9_readLines_81 k7 u_10 x1))) else (f9_readLines_74 k7 u x1 r_5)) else ((f9_fail u ((x1 + (gi u 30)) + (1 : Int32))).bind fun u_12 => (f9_readLines_81 k7 u_12 x1))))
set_option maxHeartbeats 4000000 in
set_option maxRecDepth 100000 in
theorem w9_readLines_27 {p : Program} {l : Launch} {e : Env} {s : State} {m : MethodId} {args : Array Value} {below : List Frame} {meth : Method} {c : Code} (C : Cx p s m args meth c cX9_readLines 3 ws9_readLines RX9 none) {D : va_G} {cI cJ cC : ClassId} {a : Nat → Nat} {A : Nat → Prop} (hK : va_K D vwCl (ty3 cI cJ cC) s) (hA : ∀ q : Nat, s.heap.size ≤ q → A q) {r : Md} (k7 : Md → Int32 → Option Md) (ih7 : ∀ (u : Md) (x1 : Int32), k7 u x1 = some r → ∀ {H : Heap} {locs : List Loc}, va_P D vwCl (cM cI cJ a u) H → va_D A (cM cI cJ a u) → va_S A s.heap H locs → ∀ {ls : Array Slot}, lv_has ls 3 [(0, .ref (a 0)), (1, .int x1)] → W p l e rm9_readLines s m args below meth c H locs 0 0 (MQ below (qW none (cM cI cJ a r) D (ty3 cI cJ cC) A) args s 0 0 A) (F0 m 7 ls [])) : ∀ (u : Md) (x1 : Int32), f9_readLines_27 k7 u x1 = some r → ∀ {H : Heap} {locs : List Loc}, va_P D vwCl (cM cI cJ a u) H → va_D A (cM cI cJ a u) → va_S A s.heap H locs → ∀ {ls : Array Slot}, lv_has ls 3 [(0, .ref (a 0)), (1, .int x1)] → W p l e rm9_readLines s m args below meth c H locs 0 0 (MQ below (qW none (cM cI cJ a r) D (ty3 cI cJ cC) A) args s 0 0 A) (F0 m 27 ls []) := by
  have hx := C.1.1
  have hb := C.1.2.1
  have hts := C.1.2.2.2.2
  have hown := C.1.2.2.2.1
  have hin : ∀ w ∈ wsX90, w ∈ ws9_readLines := fun w h => List.mem_cons_of_mem _ (List.mem_append_right _ h)
  intro u x1 hf H locs hP hD hS ls hl
  unfold f9_readLines_27 at hf
  refine lv_aload_n hx hb dX9_readLines_27 rfl (lv_at hl 0 rfl) ?_
  refine lv_iload_n hx hb dX9_readLines_28 rfl (lv_at hl 1 rfl) ?_
  obtain ⟨r_5, h_4, hf⟩ := og_b hf
  try dsimp only at hf
  refine ck_r (v := .int r_5) (rest := []) C.1 (c9_dots l D cI cJ cC a u x1 r_5 _ h_4) (cwV 1 hts g9_dots rfl rfl rfl hd9_dots ⟨Nat.le_of_ble_eq_true rfl, Nat.le_of_ble_eq_true rfl⟩) hK hP hD (q0 := 0) (ci := 6) rfl rfl rfl rfl hl.1 rfl (Nat.le_of_ble_eq_true rfl) ⟨Nat.zero_le _, Nat.zero_le _⟩ dX9_readLines_29 ?_
  refine lv_istore_n (lv' := [(2, .int r_5), (0, .ref (a 0)), (1, .int x1)]) hx hb dX9_readLines_32 rfl hl (by decide) rfl (fun ls hl => ?_)
  refine lv_iload_n hx hb dX9_readLines_33 rfl (lv_at hl 0 rfl) ?_
  refine lv_aload_n hx hb dX9_readLines_34 rfl (lv_at hl 1 rfl) ?_
  refine mg9 (v := .int (gi u 30)) C hin hK hP 30 (by decide) (hts (Cond.fieldLink RX9 219 "SchematicTextModel" "last" "I") (List.mem_cons_of_mem _ m9_160)) rfl dX9_readLines_35 ?_
  refine lv_iconst (v := (1 : Int32)) hx hb dX9_readLines_38 (by decide) ?_
  refine lv_iadd hx hb dX9_readLines_39 ?_
  refine lv_icmp_le (tgt := 58) hx hb dX9_readLines_40 (by decide) (fun c_6 => ?_) (fun c_6 => ?_)
  · replace hf := og_t c_6 hf
    refine lv_iload_n hx hb dX9_readLines_58 rfl (lv_at hl 0 rfl) ?_
    refine lv_if_ne (tgt := 74) hx hb dX9_readLines_59 (by decide) (fun c_7 => ?_) (fun c_7 => ?_)
    · replace hf := og_f c_7 hf
      exact w9_readLines_74 C hK hA k7 (fun _ _ h9 => ih7 _ _ h9) u x1 r_5 hf hP hD hS (lv_sub hl [1, 2, 0] rfl)
    · replace hf := og_t c_7 hf
      refine lv_iload_n hx hb dX9_readLines_62 rfl (lv_at hl 2 rfl) ?_
      refine lv_if_le (tgt := 74) hx hb dX9_readLines_63 (by decide) (fun c_8 => ?_) (fun c_8 => ?_)
      · replace hf := og_t c_8 hf
        exact w9_readLines_74 C hK hA k7 (fun _ _ h9 => ih7 _ _ h9) u x1 r_5 hf hP hD hS (lv_sub hl [1, 2, 0] rfl)
      · replace hf := og_f c_8 hf
        refine lv_aload_n hx hb dX9_readLines_66 rfl (lv_at hl 1 rfl) ?_
        refine lv_iload_n hx hb dX9_readLines_67 rfl (lv_at hl 2 rfl) ?_
        obtain ⟨u_10, h_9, hf⟩ := og_b hf
        try dsimp only at hf
        refine ck_w (ov := none) (st1 := []) (rest := []) C.1 (c9_fail l D cI cJ cC a u x1 u_10  _ h_9) (cwV 1 hts g9_fail rfl rfl rfl hd9_fail ⟨Nat.le_of_ble_eq_true rfl, Nat.le_of_ble_eq_true rfl⟩) hK hA hP hD hS (q0 := 0) (ci := 6) rfl rfl rfl rfl hl.1 rfl rfl (Nat.le_of_ble_eq_true rfl) ⟨Nat.zero_le _, Nat.zero_le _⟩ dX9_readLines_68 (fun H locs hP hD hS => ?_)
        refine lv_goto (tgt := 81) hx hb dX9_readLines_71 (by decide) ?_
        exact w9_readLines_81 C hK hA k7 (fun _ _ h9 => ih7 _ _ h9) u_10 x1 hf hP hD hS (lv_sub hl [1, 2] rfl)
  · replace hf := og_f c_6 hf
    refine lv_aload_n hx hb dX9_readLines_43 rfl (lv_at hl 1 rfl) ?_
    refine lv_iload_n hx hb dX9_readLines_44 rfl (lv_at hl 2 rfl) ?_
    refine lv_aload_n hx hb dX9_readLines_45 rfl (lv_at hl 1 rfl) ?_
    refine mg9 (v := .int (gi u 30)) C hin hK hP 30 (by decide) (hts (Cond.fieldLink RX9 219 "SchematicTextModel" "last" "I") (List.mem_cons_of_mem _ m9_160)) rfl dX9_readLines_46 ?_
    refine lv_iadd hx hb dX9_readLines_49 ?_
    refine lv_iconst (v := (1 : Int32)) hx hb dX9_readLines_50 (by decide) ?_
    refine lv_iadd hx hb dX9_readLines_51 ?_
    obtain ⟨u_12, h_11, hf⟩ := og_b hf
    try dsimp only at hf
    refine ck_w (ov := none) (st1 := []) (rest := []) C.1 (c9_fail l D cI cJ cC a u ((x1 + (gi u 30)) + (1 : Int32)) u_12  _ h_11) (cwV 1 hts g9_fail rfl rfl rfl hd9_fail ⟨Nat.le_of_ble_eq_true rfl, Nat.le_of_ble_eq_true rfl⟩) hK hA hP hD hS (q0 := 0) (ci := 6) rfl rfl rfl rfl hl.1 rfl rfl (Nat.le_of_ble_eq_true rfl) ⟨Nat.zero_le _, Nat.zero_le _⟩ dX9_readLines_52 (fun H locs hP hD hS => ?_)
    refine lv_goto (tgt := 81) hx hb dX9_readLines_55 (by decide) ?_
    exact w9_readLines_81 C hK hA k7 (fun _ _ h9 => ih7 _ _ h9) u_12 x1 hf hP hD hS (lv_sub hl [1, 2] rfl)
def f9_readLines_7 : Nat → Md → Int32 → Option Md
  | 0, _, _ => none
  | n + 1, u, x1 => (if (gi u 18) = (-1 : Int32) then (if x1 < (gi u 3) then (f9_readLines_27 (f9_readLines_7 n) u x1) else (if x1 = 0 then (f9_readLines_27 (f9_readLines_7 n) u x1) else (some u))) else (some u))
set_option maxHeartbeats 4000000 in
set_option maxRecDepth 100000 in
theorem w9_readLines_7 {p : Program} {l : Launch} {e : Env} {s : State} {m : MethodId} {args : Array Value} {below : List Frame} {meth : Method} {c : Code} (C : Cx p s m args meth c cX9_readLines 3 ws9_readLines RX9 none) {D : va_G} {cI cJ cC : ClassId} {a : Nat → Nat} {A : Nat → Prop} (hK : va_K D vwCl (ty3 cI cJ cC) s) (hA : ∀ q : Nat, s.heap.size ≤ q → A q) {r : Md} : ∀ (n : Nat), ∀ (u : Md) (x1 : Int32), f9_readLines_7 n u x1 = some r → ∀ {H : Heap} {locs : List Loc}, va_P D vwCl (cM cI cJ a u) H → va_D A (cM cI cJ a u) → va_S A s.heap H locs → ∀ {ls : Array Slot}, lv_has ls 3 [(0, .ref (a 0)), (1, .int x1)] → W p l e rm9_readLines s m args below meth c H locs 0 0 (MQ below (qW none (cM cI cJ a r) D (ty3 cI cJ cC) A) args s 0 0 A) (F0 m 7 ls []) := by
  have hx := C.1.1
  have hb := C.1.2.1
  have hts := C.1.2.2.2.2
  have hown := C.1.2.2.2.1
  have hin : ∀ w ∈ wsX90, w ∈ ws9_readLines := fun w h => List.mem_cons_of_mem _ (List.mem_append_right _ h)
  intro n
  induction n with
  | zero =>
    intro u x1 hf H locs hP hD hS ls hl
    cases hf
  | succ n ih =>
    intro u x1 hf H locs hP hD hS ls hl
    rw [f9_readLines_7] at hf
    refine lv_aload_n hx hb dX9_readLines_7 rfl (lv_at hl 0 rfl) ?_
    refine mg9 (v := .int (gi u 18)) C hin hK hP 18 (by decide) (hts (Cond.fieldLink RX9 84 "SchematicTextModel" "fault" "I") (List.mem_cons_of_mem _ m9_48)) rfl dX9_readLines_8 ?_
    refine lv_iconst (v := (-1 : Int32)) hx hb dX9_readLines_11 (by decide) ?_
    refine lv_icmp_ne (tgt := 84) hx hb dX9_readLines_12 (by decide) (fun c_1 => ?_) (fun c_1 => ?_)
    · replace hf := og_f c_1 hf
      obtain rfl := og_s hf
      exact rw_v C hK hP hD hS dX9_readLines_84
    · replace hf := og_t c_1 hf
      refine lv_iload_n hx hb dX9_readLines_15 rfl (lv_at hl 1 rfl) ?_
      refine lv_aload_n hx hb dX9_readLines_16 rfl (lv_at hl 0 rfl) ?_
      refine mg9 (v := .int (gi u 3)) C hin hK hP 3 (by decide) (hts (Cond.fieldLink RX9 59 "SchematicTextModel" "size" "I") (List.mem_cons_of_mem _ m9_24)) rfl dX9_readLines_17 ?_
      refine lv_icmp_lt (tgt := 27) hx hb dX9_readLines_20 (by decide) (fun c_2 => ?_) (fun c_2 => ?_)
      · replace hf := og_t c_2 hf
        exact w9_readLines_27 C hK hA (f9_readLines_7 n) (fun _ _ h9 => ih _ _ h9) u x1 hf hP hD hS (lv_sub hl [0, 1] rfl)
      · replace hf := og_f c_2 hf
        refine lv_iload_n hx hb dX9_readLines_23 rfl (lv_at hl 1 rfl) ?_
        refine lv_if_ne (tgt := 84) hx hb dX9_readLines_24 (by decide) (fun c_3 => ?_) (fun c_3 => ?_)
        · replace hf := og_f c_3 hf
          obtain rfl := og_s hf
          exact rw_v C hK hP hD hS dX9_readLines_84
        · replace hf := og_t c_3 hf
          exact w9_readLines_27 C hK hA (f9_readLines_7 n) (fun _ _ h9 => ih _ _ h9) u x1 hf hP hD hS (lv_sub hl [0, 1] rfl)
def f9_readLines (u : Md) : Option Md := (f9_readLines_7 FU (si u 30 (-1 : Int32)) (0 : Int32))
set_option maxHeartbeats 4000000 in
set_option maxRecDepth 100000 in
theorem c9_readLines (l : Launch) (D : va_G) (cI cJ cC : ClassId) (a : Nat → Nat) (u : Md) (v : Md) (sz : Nat) (hf : f9_readLines u  = some v) : Met l yX9_readLines ws9_readLines rm9_readLines (pW D (ty3 cI cJ cC) (cM cI cJ a u) sz [.ref (a 0)]) (qW none (cM cI cJ a v) D (ty3 cI cJ cC) (va_A (cM cI cJ a u) sz)) 0 0 (va_A (cM cI cJ a u) sz) := by
  refine mt_w (cc := cX9_readLines) (maxL := 3) (ret := none) (by decide) rfl (Nat.le_of_ble_eq_true rfl) ?_
  intro p e s m below meth c ls A C hl hK hA hP hD hS
  have hl : lv_has ls 3 [(0, .ref (a 0))] := hl
  have hx := C.1.1
  have hb := C.1.2.1
  have hts := C.1.2.2.2.2
  have hown := C.1.2.2.2.1
  have hin : ∀ w ∈ wsX90, w ∈ ws9_readLines := fun w h => List.mem_cons_of_mem _ (List.mem_append_right _ h)
  unfold f9_readLines at hf
  refine lv_iconst (v := (0 : Int32)) hx hb dX9_readLines_0 (by decide) ?_
  refine lv_istore_n (lv' := [(1, .int (0 : Int32)), (0, .ref (a 0))]) hx hb dX9_readLines_1 rfl hl (by decide) rfl (fun ls hl => ?_)
  refine lv_aload_n hx hb dX9_readLines_2 rfl (lv_at hl 1 rfl) ?_
  refine lv_iconst (v := (-1 : Int32)) hx hb dX9_readLines_3 (by decide) ?_
  refine mp9_30 C hin hK hP hD hS (hts (Cond.fieldLink RX9 219 "SchematicTextModel" "last" "I") (List.mem_cons_of_mem _ m9_160)) dX9_readLines_4 (fun H locs hP hD hS => ?_)
  exact w9_readLines_7 C hK hA FU (si u 30 (-1 : Int32)) (0 : Int32) hf hP hD hS (lv_sub hl [1, 0] rfl)
abbrev rm9_go : Room := { frames := 7, cells := 0, slots := 0, locals := 177 }
noncomputable abbrev ws9_go : List Cond := Cond.code yX9_go cX9_go 2 none :: WA9
theorem g9_go {c0 : Cond} : GoodIn (c0 :: WA9) (wsV RX9 237 RX9 yX9_go ws9_go) := gd9_v m9_186 m9_187 m9_188 m9_29 m9_175
theorem hd9_go : yX9_go.cls = RX9 ∧ yX9_go.cls ≠ "java/lang/invoke/MethodHandle" ∧ yX9_go.cls ≠ "java/lang/invoke/VarHandle" ∧ (parseMethodDescriptor yX9_go.desc).map (fun d => d.parameters.length) = some 1 := by decide +kernel
def f9_go (u : Md) (x1 : Int32) : Option Md := (if x1 = 0 ∨ x1 = 1 then (if (gi u 1) = 0 then ((f9_readLists (si (si (si (si u 15 x1) 18 (-1 : Int32)) 17 (0 : Int32)) 22 (0 : Int32))).bind fun u_6 => (some u_6)) else ((f9_readLines (si (si (si (si u 15 x1) 18 (-1 : Int32)) 17 (0 : Int32)) 22 (0 : Int32))).bind fun u_4 => (some u_4))) else none)
set_option maxHeartbeats 4000000 in
set_option maxRecDepth 100000 in
theorem c9_go (l : Launch) (D : va_G) (cI cJ cC : ClassId) (a : Nat → Nat) (u : Md) (x1 : Int32) (v : Md) (sz : Nat) (hf : f9_go u x1 = some v) : Met l yX9_go ws9_go rm9_go (pW D (ty3 cI cJ cC) (cM cI cJ a u) sz [.ref (a 0), .int x1]) (qW none (cM cI cJ a v) D (ty3 cI cJ cC) (va_A (cM cI cJ a u) sz)) 0 0 (va_A (cM cI cJ a u) sz) := by
  refine mt_w (cc := cX9_go) (maxL := 2) (ret := none) (by decide) rfl (Nat.le_of_ble_eq_true rfl) ?_
  intro p e s m below meth c ls A C hl hK hA hP hD hS
  have hl : lv_has ls 2 [(0, .ref (a 0)), (1, .int x1)] := hl
  have hx := C.1.1
  have hb := C.1.2.1
  have hts := C.1.2.2.2.2
  have hown := C.1.2.2.2.1
  have hin : ∀ w ∈ wsX90, w ∈ ws9_go := fun w h => List.mem_cons_of_mem _ (List.mem_append_right _ h)
  unfold f9_go at hf
  refine lv_aload_n hx hb dX9_go_0 rfl (lv_at hl 0 rfl) ?_
  refine lv_iload_n hx hb dX9_go_1 rfl (lv_at hl 1 rfl) ?_
  obtain ⟨h_1, hf⟩ := og_p hf
  refine mp9_15 C hin hK hP hD hS (hts (Cond.fieldLink RX9 119 "SchematicTextModel" "making" "Z") (List.mem_cons_of_mem _ m9_77)) (nz_z h_1) (nz_f h_1) dX9_go_2 (fun H locs hP hD hS => ?_)
  refine lv_aload_n hx hb dX9_go_5 rfl (lv_at hl 0 rfl) ?_
  refine lv_iconst (v := (-1 : Int32)) hx hb dX9_go_6 (by decide) ?_
  refine mp9_18 C hin hK hP hD hS (hts (Cond.fieldLink RX9 84 "SchematicTextModel" "fault" "I") (List.mem_cons_of_mem _ m9_48)) dX9_go_7 (fun H locs hP hD hS => ?_)
  refine lv_aload_n hx hb dX9_go_10 rfl (lv_at hl 0 rfl) ?_
  refine lv_iconst (v := (0 : Int32)) hx hb dX9_go_11 (by decide) ?_
  refine mp9_17 C hin hK hP hD hS (hts (Cond.fieldLink RX9 122 "SchematicTextModel" "found" "I") (List.mem_cons_of_mem _ m9_78)) dX9_go_12 (fun H locs hP hD hS => ?_)
  refine lv_aload_n hx hb dX9_go_15 rfl (lv_at hl 0 rfl) ?_
  refine lv_iconst (v := (0 : Int32)) hx hb dX9_go_16 (by decide) ?_
  refine mp9_22 C hin hK hP hD hS (hts (Cond.fieldLink RX9 169 "SchematicTextModel" "keeps" "I") (List.mem_cons_of_mem _ m9_114)) dX9_go_17 (fun H locs hP hD hS => ?_)
  refine lv_aload_n hx hb dX9_go_20 rfl (lv_at hl 0 rfl) ?_
  refine mg9 (v := .int (gi u 1)) C hin hK hP 1 (by decide) (hts (Cond.fieldLink RX9 56 "SchematicTextModel" "form" "I") (List.mem_cons_of_mem _ m9_21)) rfl dX9_go_21 ?_
  refine lv_if_ne (tgt := 34) hx hb dX9_go_24 (by decide) (fun c_2 => ?_) (fun c_2 => ?_)
  · replace hf := og_f c_2 hf
    refine lv_aload_n hx hb dX9_go_34 rfl (lv_at hl 0 rfl) ?_
    obtain ⟨u_4, h_3, hf⟩ := og_b hf
    try dsimp only at hf
    refine ck_w (ov := none) (st1 := []) (rest := []) C.1 (c9_readLines l D cI cJ cC a (si (si (si (si u 15 x1) 18 (-1 : Int32)) 17 (0 : Int32)) 22 (0 : Int32)) u_4  _ h_3) (cwV 0 hts g9_readLines rfl rfl rfl hd9_readLines ⟨Nat.le_of_ble_eq_true rfl, Nat.le_of_ble_eq_true rfl⟩) hK hA hP hD hS (q0 := 0) (ci := 6) rfl rfl rfl rfl hl.1 rfl rfl (Nat.le_of_ble_eq_true rfl) ⟨Nat.zero_le _, Nat.zero_le _⟩ dX9_go_35 (fun H locs hP hD hS => ?_)
    obtain rfl := og_s hf
    exact rw_v C hK hP hD hS dX9_go_38
  · replace hf := og_t c_2 hf
    refine lv_aload_n hx hb dX9_go_27 rfl (lv_at hl 0 rfl) ?_
    obtain ⟨u_6, h_5, hf⟩ := og_b hf
    try dsimp only at hf
    refine ck_w (ov := none) (st1 := []) (rest := []) C.1 (c9_readLists l D cI cJ cC a (si (si (si (si u 15 x1) 18 (-1 : Int32)) 17 (0 : Int32)) 22 (0 : Int32)) u_6  _ h_5) (cwV 0 hts g9_readLists rfl rfl rfl hd9_readLists ⟨Nat.le_of_ble_eq_true rfl, Nat.le_of_ble_eq_true rfl⟩) hK hA hP hD hS (q0 := 0) (ci := 6) rfl rfl rfl rfl hl.1 rfl rfl (Nat.le_of_ble_eq_true rfl) ⟨Nat.zero_le _, Nat.zero_le _⟩ dX9_go_28 (fun H locs hP hD hS => ?_)
    refine lv_goto (tgt := 38) hx hb dX9_go_31 (by decide) ?_
    obtain rfl := og_s hf
    exact rw_v C hK hP hD hS dX9_go_38
abbrev rm9_read : Room := { frames := 8, cells := 0, slots := 0, locals := 198 }
noncomputable abbrev ws9_read : List Cond := Cond.code yX9_read cX9_read 1 (some .int) :: WA9
theorem hd9_read : yX9_read.cls = RX9 ∧ yX9_read.cls ≠ "java/lang/invoke/MethodHandle" ∧ yX9_read.cls ≠ "java/lang/invoke/VarHandle" ∧ (parseMethodDescriptor yX9_read.desc).map (fun d => d.parameters.length) = some 0 := by decide +kernel
def f9_read (u : Md) : Option (Int32 × Md) := ((f9_go (si u 0 (0 : Int32)) (0 : Int32)).bind fun u_2 => (if (gi u_2 18) = (-1 : Int32) then ((f9_go u_2 (1 : Int32)).bind fun u_5 => (some ((gi u_5 17), (si (si (si (si u_5 4 (gi u_5 17)) 13 (gi u_5 22)) 14 (gi u_5 16)) 27 (1 : Int32))))) else (some (((-1 : Int32) - (gi u_2 18)), u_2))))
set_option maxHeartbeats 4000000 in
set_option maxRecDepth 100000 in
theorem c9_read (l : Launch) (D : va_G) (cI cJ cC : ClassId) (a : Nat → Nat) (u : Md) (r : Int32) (v : Md) (sz : Nat) (hf : f9_read u  = some (r, v)) : Met l yX9_read ws9_read rm9_read (pW D (ty3 cI cJ cC) (cM cI cJ a u) sz [.ref (a 0)]) (qW (some (.int r)) (cM cI cJ a v) D (ty3 cI cJ cC) (va_A (cM cI cJ a u) sz)) 0 0 (va_A (cM cI cJ a u) sz) := by
  refine mt_w (cc := cX9_read) (maxL := 1) (ret := (some .int)) (by decide) rfl (Nat.le_of_ble_eq_true rfl) ?_
  intro p e s m below meth c ls A C hl hK hA hP hD hS
  have hl : lv_has ls 1 [(0, .ref (a 0))] := hl
  have hx := C.1.1
  have hb := C.1.2.1
  have hts := C.1.2.2.2.2
  have hown := C.1.2.2.2.1
  have hin : ∀ w ∈ wsX90, w ∈ ws9_read := fun w h => List.mem_cons_of_mem _ (List.mem_append_right _ h)
  unfold f9_read at hf
  refine lv_aload_n hx hb dX9_read_0 rfl (lv_at hl 0 rfl) ?_
  refine lv_iconst (v := (0 : Int32)) hx hb dX9_read_1 (by decide) ?_
  refine mp9_0 C hin hK hP hD hS (hts (Cond.fieldLink RX9 52 "SchematicTextModel" "thrown" "I") (List.mem_cons_of_mem _ m9_20)) dX9_read_2 (fun H locs hP hD hS => ?_)
  refine lv_aload_n hx hb dX9_read_5 rfl (lv_at hl 0 rfl) ?_
  refine lv_iconst (v := (0 : Int32)) hx hb dX9_read_6 (by decide) ?_
  obtain ⟨u_2, h_1, hf⟩ := og_b hf
  try dsimp only at hf
  refine ck_w (ov := none) (st1 := []) (rest := []) C.1 (c9_go l D cI cJ cC a (si u 0 (0 : Int32)) (0 : Int32) u_2  _ h_1) (cwV 1 hts g9_go rfl rfl rfl hd9_go ⟨Nat.le_of_ble_eq_true rfl, Nat.le_of_ble_eq_true rfl⟩) hK hA hP hD hS (q0 := 0) (ci := 6) rfl rfl rfl rfl hl.1 rfl rfl (Nat.le_of_ble_eq_true rfl) ⟨Nat.zero_le _, Nat.zero_le _⟩ dX9_read_7 (fun H locs hP hD hS => ?_)
  refine lv_aload_n hx hb dX9_read_10 rfl (lv_at hl 0 rfl) ?_
  refine mg9 (v := .int (gi u_2 18)) C hin hK hP 18 (by decide) (hts (Cond.fieldLink RX9 84 "SchematicTextModel" "fault" "I") (List.mem_cons_of_mem _ m9_48)) rfl dX9_read_11 ?_
  refine lv_iconst (v := (-1 : Int32)) hx hb dX9_read_14 (by decide) ?_
  refine lv_icmp_eq (tgt := 25) hx hb dX9_read_15 (by decide) (fun c_3 => ?_) (fun c_3 => ?_)
  · replace hf := og_t c_3 hf
    refine lv_aload_n hx hb dX9_read_25 rfl (lv_at hl 0 rfl) ?_
    refine lv_iconst (v := (1 : Int32)) hx hb dX9_read_26 (by decide) ?_
    obtain ⟨u_5, h_4, hf⟩ := og_b hf
    try dsimp only at hf
    refine ck_w (ov := none) (st1 := []) (rest := []) C.1 (c9_go l D cI cJ cC a u_2 (1 : Int32) u_5  _ h_4) (cwV 1 hts g9_go rfl rfl rfl hd9_go ⟨Nat.le_of_ble_eq_true rfl, Nat.le_of_ble_eq_true rfl⟩) hK hA hP hD hS (q0 := 0) (ci := 6) rfl rfl rfl rfl hl.1 rfl rfl (Nat.le_of_ble_eq_true rfl) ⟨Nat.zero_le _, Nat.zero_le _⟩ dX9_read_27 (fun H locs hP hD hS => ?_)
    refine lv_aload_n hx hb dX9_read_30 rfl (lv_at hl 0 rfl) ?_
    refine lv_aload_n hx hb dX9_read_31 rfl (lv_at hl 0 rfl) ?_
    refine mg9 (v := .int (gi u_5 17)) C hin hK hP 17 (by decide) (hts (Cond.fieldLink RX9 122 "SchematicTextModel" "found" "I") (List.mem_cons_of_mem _ m9_78)) rfl dX9_read_32 ?_
    refine mp9_4 C hin hK hP hD hS (hts (Cond.fieldLink RX9 241 "SchematicTextModel" "objects" "I") (List.mem_cons_of_mem _ m9_183)) dX9_read_35 (fun H locs hP hD hS => ?_)
    refine lv_aload_n hx hb dX9_read_38 rfl (lv_at hl 0 rfl) ?_
    refine lv_aload_n hx hb dX9_read_39 rfl (lv_at hl 0 rfl) ?_
    refine mg9 (v := .int (gi u_5 22)) C hin hK hP 22 (by decide) (hts (Cond.fieldLink RX9 169 "SchematicTextModel" "keeps" "I") (List.mem_cons_of_mem _ m9_114)) rfl dX9_read_40 ?_
    refine mp9_13 C hin hK hP hD hS (hts (Cond.fieldLink RX9 244 "SchematicTextModel" "keptAll" "I") (List.mem_cons_of_mem _ m9_184)) dX9_read_43 (fun H locs hP hD hS => ?_)
    refine lv_aload_n hx hb dX9_read_46 rfl (lv_at hl 0 rfl) ?_
    refine lv_aload_n hx hb dX9_read_47 rfl (lv_at hl 0 rfl) ?_
    refine mg9 (v := .int (gi u_5 16)) C hin hK hP 16 (by decide) (hts (Cond.fieldLink RX9 178 "SchematicTextModel" "version" "I") (List.mem_cons_of_mem _ m9_124)) rfl dX9_read_48 ?_
    refine mp9_14 C hin hK hP hD hS (hts (Cond.fieldLink RX9 247 "SchematicTextModel" "versionRead" "I") (List.mem_cons_of_mem _ m9_185)) dX9_read_51 (fun H locs hP hD hS => ?_)
    refine lv_aload_n hx hb dX9_read_54 rfl (lv_at hl 0 rfl) ?_
    refine lv_iconst (v := (1 : Int32)) hx hb dX9_read_55 (by decide) ?_
    refine mp9_27 C hin hK hP hD hS (hts (Cond.fieldLink RX9 48 "SchematicTextModel" "stale" "Z") (List.mem_cons_of_mem _ m9_19)) (nz_z (Or.inr rfl)) (nz_f (Or.inr rfl)) dX9_read_56 (fun H locs hP hD hS => ?_)
    refine lv_aload_n hx hb dX9_read_59 rfl (lv_at hl 0 rfl) ?_
    refine mg9 (v := .int (gi u_5 17)) C hin hK hP 4 (by decide) (hts (Cond.fieldLink RX9 241 "SchematicTextModel" "objects" "I") (List.mem_cons_of_mem _ m9_183)) rfl dX9_read_60 ?_
    obtain ⟨rfl, rfl⟩ := Prod.mk.inj (og_s hf)
    exact rw_i C hK hP hD hS dX9_read_63
  · replace hf := og_f c_3 hf
    refine lv_iconst (v := (-1 : Int32)) hx hb dX9_read_18 (by decide) ?_
    refine lv_aload_n hx hb dX9_read_19 rfl (lv_at hl 0 rfl) ?_
    refine mg9 (v := .int (gi u_2 18)) C hin hK hP 18 (by decide) (hts (Cond.fieldLink RX9 84 "SchematicTextModel" "fault" "I") (List.mem_cons_of_mem _ m9_48)) rfl dX9_read_20 ?_
    refine lv_isub hx hb dX9_read_23 ?_
    obtain ⟨rfl, rfl⟩ := Prod.mk.inj (og_s hf)
    exact rw_i C hK hP hD hS dX9_read_24
