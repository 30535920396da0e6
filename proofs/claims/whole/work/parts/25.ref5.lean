abbrev rm9_sayWhole : Room := { frames := 1, cells := 0, slots := 0, locals := 21 }
noncomputable abbrev ws9_sayWhole : List Cond := Cond.code yX9_sayWhole cX9_sayWhole 5 none :: WA9
theorem g9_sayWhole {c0 : Cond} : GoodIn (c0 :: WA9) (wsV RX9 271 RX9 yX9_sayWhole ws9_sayWhole) := gd9_v m9_222 m9_223 m9_224 m9_29 m9_219
theorem hd9_sayWhole : yX9_sayWhole.cls = RX9 ∧ yX9_sayWhole.cls ≠ "java/lang/invoke/MethodHandle" ∧ yX9_sayWhole.cls ≠ "java/lang/invoke/VarHandle" ∧ (parseMethodDescriptor yX9_sayWhole.desc).map (fun d => d.parameters.length) = some 1 := by decide +kernel
def f9_sayWhole_21 : Nat → Md → Int64 → Int64 → Option Md
  | 0, _, _, _ => none
  | n + 1, u, x1, x3 => (if (lg_cmp x3 (0 : Int64)) ≤ 0 then (some u) else (if x3 = 0 then none else ((f9_say u ((((x1 / x3) - (x1 / x3) / (10 : Int64) * (10 : Int64))).toInt32 + (48 : Int32))).bind fun u_6 => (f9_sayWhole_21 n u_6 x1 (x3 / (10 : Int64))))))
set_option maxHeartbeats 4000000 in
set_option maxRecDepth 100000 in
theorem w9_sayWhole_21 {p : Program} {l : Launch} {e : Env} {s : State} {m : MethodId} {args : Array Value} {below : List Frame} {meth : Method} {c : Code} (C : Cx p s m args meth c cX9_sayWhole 5 ws9_sayWhole RX9 none) {D : va_G} {cI cJ cC : ClassId} {a : Nat → Nat} {A : Nat → Prop} (hK : va_K D vwCl (ty3 cI cJ cC) s) (hA : ∀ q : Nat, s.heap.size ≤ q → A q) {r : Md} : ∀ (n : Nat), ∀ (u : Md) (x1 : Int64) (x3 : Int64), f9_sayWhole_21 n u x1 x3 = some r → ∀ {H : Heap} {locs : List Loc}, va_P D vwCl (cM cI cJ a u) H → va_D A (cM cI cJ a u) → va_S A s.heap H locs → ∀ {ls : Array Slot}, lv_has ls 5 [(0, .ref (a 0)), (1, .long x1), (3, .long x3)] → W p l e rm9_sayWhole s m args below meth c H locs 0 0 (MQ below (qW none (cM cI cJ a r) D (ty3 cI cJ cC) A) args s 0 0 A) (F0 m 21 ls []) := by
  have hx := C.1.1
  have hb := C.1.2.1
  have hts := C.1.2.2.2.2
  have hown := C.1.2.2.2.1
  have hin : ∀ w ∈ wsX90, w ∈ ws9_sayWhole := fun w h => List.mem_cons_of_mem _ (List.mem_append_right _ h)
  intro n
  induction n with
  | zero =>
    intro u x1 x3 hf H locs hP hD hS ls hl
    cases hf
  | succ n ih =>
    intro u x1 x3 hf H locs hP hD hS ls hl
    rw [f9_sayWhole_21] at hf
    refine lv_lload_n hx hb dX9_sayWhole_21 rfl (lv_at hl 2 rfl) ?_
    refine lv_lconst (v := (0 : Int64)) hx hb dX9_sayWhole_22 (by decide) ?_
    refine W.lcmp hx hb dX9_sayWhole_23 ?_
    refine lv_if_le (tgt := 51) hx hb dX9_sayWhole_24 (by decide) (fun c_3 => ?_) (fun c_3 => ?_)
    · replace hf := og_t c_3 hf
      obtain rfl := og_s hf
      exact rw_v C hK hP hD hS dX9_sayWhole_51
    · replace hf := og_f c_3 hf
      refine lv_aload_n hx hb dX9_sayWhole_27 rfl (lv_at hl 0 rfl) ?_
      refine lv_lload_n hx hb dX9_sayWhole_28 rfl (lv_at hl 1 rfl) ?_
      refine lv_lload_n hx hb dX9_sayWhole_29 rfl (lv_at hl 2 rfl) ?_
      obtain ⟨h_4, hf⟩ := og_n hf
      refine lv_ldiv hx hb dX9_sayWhole_30 h_4 ?_
      refine lv_ldc2 (v := (10 : Int64)) hx hb hown (hts (Cond.constantLong RX9 102 (10)) (List.mem_cons_of_mem _ m9_65)) dX9_sayWhole_31 ?_
      refine lv_lrem hx hb dX9_sayWhole_34 (by decide) ?_
      refine lv_l2i (v := (((x1 / x3) - (x1 / x3) / (10 : Int64) * (10 : Int64))).toInt32) hx hb dX9_sayWhole_35 rfl ?_
      refine lv_bipush (v := (48 : Int32)) hx hb dX9_sayWhole_36 (by decide) ?_
      refine lv_iadd hx hb dX9_sayWhole_38 ?_
      obtain ⟨u_6, h_5, hf⟩ := og_b hf
      try dsimp only at hf
      refine ck_w (ov := none) (st1 := []) (rest := []) C.1 (c9_say l D cI cJ cC a u ((((x1 / x3) - (x1 / x3) / (10 : Int64) * (10 : Int64))).toInt32 + (48 : Int32)) u_6  _ h_5) (cwV 1 hts g9_say rfl rfl rfl hd9_say ⟨Nat.le_of_ble_eq_true rfl, Nat.le_of_ble_eq_true rfl⟩) hK hA hP hD hS (q0 := 0) (ci := 6) rfl rfl rfl rfl hl.1 rfl rfl (Nat.le_of_ble_eq_true rfl) ⟨Nat.zero_le _, Nat.zero_le _⟩ dX9_sayWhole_39 (fun H locs hP hD hS => ?_)
      refine lv_lload_n hx hb dX9_sayWhole_42 rfl (lv_at hl 2 rfl) ?_
      refine lv_ldc2 (v := (10 : Int64)) hx hb hown (hts (Cond.constantLong RX9 102 (10)) (List.mem_cons_of_mem _ m9_65)) dX9_sayWhole_43 ?_
      refine lv_ldiv hx hb dX9_sayWhole_46 (by decide) ?_
      refine lv_lstore_n (lv' := [(3, .long (x3 / (10 : Int64))), (0, .ref (a 0)), (1, .long x1)]) hx hb dX9_sayWhole_47 rfl hl (by decide) rfl (fun ls hl => ?_)
      refine lv_goto (tgt := 21) hx hb dX9_sayWhole_48 (by decide) ?_
      exact ih u_6 x1 (x3 / (10 : Int64)) hf hP hD hS (lv_sub hl [1, 2, 0] rfl)
def f9_sayWhole_2 : Nat → Md → Int64 → Int64 → Option Md
  | 0, _, _, _ => none
  | n + 1, u, x1, x3 => (if x3 = 0 then none else (if (lg_cmp (x1 / x3) (10 : Int64)) < 0 then (f9_sayWhole_21 FU u x1 x3) else (f9_sayWhole_2 n u x1 ((10 : Int64) * x3))))
set_option maxHeartbeats 4000000 in
set_option maxRecDepth 100000 in
theorem w9_sayWhole_2 {p : Program} {l : Launch} {e : Env} {s : State} {m : MethodId} {args : Array Value} {below : List Frame} {meth : Method} {c : Code} (C : Cx p s m args meth c cX9_sayWhole 5 ws9_sayWhole RX9 none) {D : va_G} {cI cJ cC : ClassId} {a : Nat → Nat} {A : Nat → Prop} (hK : va_K D vwCl (ty3 cI cJ cC) s) (hA : ∀ q : Nat, s.heap.size ≤ q → A q) {r : Md} : ∀ (n : Nat), ∀ (u : Md) (x1 : Int64) (x3 : Int64), f9_sayWhole_2 n u x1 x3 = some r → ∀ {H : Heap} {locs : List Loc}, va_P D vwCl (cM cI cJ a u) H → va_D A (cM cI cJ a u) → va_S A s.heap H locs → ∀ {ls : Array Slot}, lv_has ls 5 [(0, .ref (a 0)), (1, .long x1), (3, .long x3)] → W p l e rm9_sayWhole s m args below meth c H locs 0 0 (MQ below (qW none (cM cI cJ a r) D (ty3 cI cJ cC) A) args s 0 0 A) (F0 m 2 ls []) := by
  have hx := C.1.1
  have hb := C.1.2.1
  have hts := C.1.2.2.2.2
  have hown := C.1.2.2.2.1
  have hin : ∀ w ∈ wsX90, w ∈ ws9_sayWhole := fun w h => List.mem_cons_of_mem _ (List.mem_append_right _ h)
  intro n
  induction n with
  | zero =>
    intro u x1 x3 hf H locs hP hD hS ls hl
    cases hf
  | succ n ih =>
    intro u x1 x3 hf H locs hP hD hS ls hl
    rw [f9_sayWhole_2] at hf
    refine lv_lload_n hx hb dX9_sayWhole_2 rfl (lv_at hl 1 rfl) ?_
    refine lv_lload_n hx hb dX9_sayWhole_3 rfl (lv_at hl 2 rfl) ?_
    obtain ⟨h_1, hf⟩ := og_n hf
    refine lv_ldiv hx hb dX9_sayWhole_4 h_1 ?_
    refine lv_ldc2 (v := (10 : Int64)) hx hb hown (hts (Cond.constantLong RX9 102 (10)) (List.mem_cons_of_mem _ m9_65)) dX9_sayWhole_5 ?_
    refine W.lcmp hx hb dX9_sayWhole_8 ?_
    refine lv_if_lt (tgt := 21) hx hb dX9_sayWhole_9 (by decide) (fun c_2 => ?_) (fun c_2 => ?_)
    · replace hf := og_t c_2 hf
      exact w9_sayWhole_21 C hK hA FU u x1 x3 hf hP hD hS (lv_sub hl [0, 1, 2] rfl)
    · replace hf := og_f c_2 hf
      refine lv_ldc2 (v := (10 : Int64)) hx hb hown (hts (Cond.constantLong RX9 102 (10)) (List.mem_cons_of_mem _ m9_65)) dX9_sayWhole_12 ?_
      refine lv_lload_n hx hb dX9_sayWhole_15 rfl (lv_at hl 2 rfl) ?_
      refine lv_lmul hx hb dX9_sayWhole_16 ?_
      refine lv_lstore_n (lv' := [(3, .long ((10 : Int64) * x3)), (0, .ref (a 0)), (1, .long x1)]) hx hb dX9_sayWhole_17 rfl hl (by decide) rfl (fun ls hl => ?_)
      refine lv_goto (tgt := 2) hx hb dX9_sayWhole_18 (by decide) ?_
      exact ih u x1 ((10 : Int64) * x3) hf hP hD hS (lv_sub hl [1, 2, 0] rfl)
def f9_sayWhole (u : Md) (x1 : Int64) : Option Md := (f9_sayWhole_2 FU u x1 (1 : Int64))
set_option maxHeartbeats 4000000 in
set_option maxRecDepth 100000 in
theorem c9_sayWhole (l : Launch) (D : va_G) (cI cJ cC : ClassId) (a : Nat → Nat) (u : Md) (x1 : Int64) (v : Md) (sz : Nat) (hf : f9_sayWhole u x1 = some v) : Met l yX9_sayWhole ws9_sayWhole rm9_sayWhole (pW D (ty3 cI cJ cC) (cM cI cJ a u) sz [.ref (a 0), .long x1]) (qW none (cM cI cJ a v) D (ty3 cI cJ cC) (va_A (cM cI cJ a u) sz)) 0 0 (va_A (cM cI cJ a u) sz) := by
  refine mt_w (cc := cX9_sayWhole) (maxL := 5) (ret := none) (by decide) rfl (Nat.le_of_ble_eq_true rfl) ?_
  intro p e s m below meth c ls A C hl hK hA hP hD hS
  have hl : lv_has ls 5 [(0, .ref (a 0)), (1, .long x1)] := hl
  have hx := C.1.1
  have hb := C.1.2.1
  have hts := C.1.2.2.2.2
  have hown := C.1.2.2.2.1
  have hin : ∀ w ∈ wsX90, w ∈ ws9_sayWhole := fun w h => List.mem_cons_of_mem _ (List.mem_append_right _ h)
  unfold f9_sayWhole at hf
  refine lv_lconst (v := (1 : Int64)) hx hb dX9_sayWhole_0 (by decide) ?_
  refine lv_lstore_n (lv' := [(3, .long (1 : Int64)), (0, .ref (a 0)), (1, .long x1)]) hx hb dX9_sayWhole_1 rfl hl (by decide) rfl (fun ls hl => ?_)
  exact w9_sayWhole_2 C hK hA FU u x1 (1 : Int64) hf hP hD hS (lv_sub hl [1, 2, 0] rfl)
abbrev rm9_sayLength : Room := { frames := 2, cells := 0, slots := 0, locals := 45 }
noncomputable abbrev ws9_sayLength : List Cond := Cond.code yX9_sayLength cX9_sayLength 7 none :: WA9
theorem g9_sayLength {c0 : Cond} : GoodIn (c0 :: WA9) (wsV RX9 283 RX9 yX9_sayLength ws9_sayLength) := gd9_v m9_233 m9_234 m9_235 m9_29 m9_220
theorem hd9_sayLength : yX9_sayLength.cls = RX9 ∧ yX9_sayLength.cls ≠ "java/lang/invoke/MethodHandle" ∧ yX9_sayLength.cls ≠ "java/lang/invoke/VarHandle" ∧ (parseMethodDescriptor yX9_sayLength.desc).map (fun d => d.parameters.length) = some 1 := by decide +kernel
def f9_sayLength_46 : Nat → Md → Int64 → Int64 → Option Md
  | 0, _, _, _ => none
  | n + 1, u, x3, x5 => (if (lg_cmp x3 (0 : Int64)) ≤ 0 then (some u) else (if x5 = 0 then none else ((f9_say u (((x3 / x5)).toInt32 + (48 : Int32))).bind fun u_10 => (if x5 = 0 then none else (f9_sayLength_46 n u_10 (x3 - x3 / x5 * x5) (x5 / (10 : Int64)))))))
set_option maxHeartbeats 4000000 in
set_option maxRecDepth 100000 in
theorem w9_sayLength_46 {p : Program} {l : Launch} {e : Env} {s : State} {m : MethodId} {args : Array Value} {below : List Frame} {meth : Method} {c : Code} (C : Cx p s m args meth c cX9_sayLength 7 ws9_sayLength RX9 none) {D : va_G} {cI cJ cC : ClassId} {a : Nat → Nat} {A : Nat → Prop} (hK : va_K D vwCl (ty3 cI cJ cC) s) (hA : ∀ q : Nat, s.heap.size ≤ q → A q) {r : Md} : ∀ (n : Nat), ∀ (u : Md) (x3 : Int64) (x5 : Int64), f9_sayLength_46 n u x3 x5 = some r → ∀ {H : Heap} {locs : List Loc}, va_P D vwCl (cM cI cJ a u) H → va_D A (cM cI cJ a u) → va_S A s.heap H locs → ∀ {ls : Array Slot}, lv_has ls 7 [(0, .ref (a 0)), (3, .long x3), (5, .long x5)] → W p l e rm9_sayLength s m args below meth c H locs 0 0 (MQ below (qW none (cM cI cJ a r) D (ty3 cI cJ cC) A) args s 0 0 A) (F0 m 46 ls []) := by
  have hx := C.1.1
  have hb := C.1.2.1
  have hts := C.1.2.2.2.2
  have hown := C.1.2.2.2.1
  have hin : ∀ w ∈ wsX90, w ∈ ws9_sayLength := fun w h => List.mem_cons_of_mem _ (List.mem_append_right _ h)
  intro n
  induction n with
  | zero =>
    intro u x3 x5 hf H locs hP hD hS ls hl
    cases hf
  | succ n ih =>
    intro u x3 x5 hf H locs hP hD hS ls hl
    rw [f9_sayLength_46] at hf
    refine lv_lload_n hx hb dX9_sayLength_46 rfl (lv_at hl 1 rfl) ?_
    refine lv_lconst (v := (0 : Int64)) hx hb dX9_sayLength_47 (by decide) ?_
    refine W.lcmp hx hb dX9_sayLength_48 ?_
    refine lv_if_le (tgt := 80) hx hb dX9_sayLength_49 (by decide) (fun c_7 => ?_) (fun c_7 => ?_)
    · replace hf := og_t c_7 hf
      obtain rfl := og_s hf
      exact rw_v C hK hP hD hS dX9_sayLength_80
    · replace hf := og_f c_7 hf
      refine lv_aload_n hx hb dX9_sayLength_52 rfl (lv_at hl 0 rfl) ?_
      refine lv_lload_n hx hb dX9_sayLength_53 rfl (lv_at hl 1 rfl) ?_
      refine lv_lload hx hb dX9_sayLength_54 (lv_at hl 2 rfl) ?_
      obtain ⟨h_8, hf⟩ := og_n hf
      refine lv_ldiv hx hb dX9_sayLength_56 h_8 ?_
      refine lv_l2i (v := ((x3 / x5)).toInt32) hx hb dX9_sayLength_57 rfl ?_
      refine lv_bipush (v := (48 : Int32)) hx hb dX9_sayLength_58 (by decide) ?_
      refine lv_iadd hx hb dX9_sayLength_60 ?_
      obtain ⟨u_10, h_9, hf⟩ := og_b hf
      try dsimp only at hf
      refine ck_w (ov := none) (st1 := []) (rest := []) C.1 (c9_say l D cI cJ cC a u (((x3 / x5)).toInt32 + (48 : Int32)) u_10  _ h_9) (cwV 1 hts g9_say rfl rfl rfl hd9_say ⟨Nat.le_of_ble_eq_true rfl, Nat.le_of_ble_eq_true rfl⟩) hK hA hP hD hS (q0 := 0) (ci := 6) rfl rfl rfl rfl hl.1 rfl rfl (Nat.le_of_ble_eq_true rfl) ⟨Nat.zero_le _, Nat.zero_le _⟩ dX9_sayLength_61 (fun H locs hP hD hS => ?_)
      refine lv_lload_n hx hb dX9_sayLength_64 rfl (lv_at hl 1 rfl) ?_
      refine lv_lload hx hb dX9_sayLength_65 (lv_at hl 2 rfl) ?_
      obtain ⟨h_11, hf⟩ := og_n hf
      refine lv_lrem hx hb dX9_sayLength_67 h_11 ?_
      refine lv_lstore_n (lv' := [(3, .long (x3 - x3 / x5 * x5)), (0, .ref (a 0)), (5, .long x5)]) hx hb dX9_sayLength_68 rfl hl (by decide) rfl (fun ls hl => ?_)
      refine lv_lload hx hb dX9_sayLength_69 (lv_at hl 2 rfl) ?_
      refine lv_ldc2 (v := (10 : Int64)) hx hb hown (hts (Cond.constantLong RX9 102 (10)) (List.mem_cons_of_mem _ m9_65)) dX9_sayLength_71 ?_
      refine lv_ldiv hx hb dX9_sayLength_74 (by decide) ?_
      refine lv_lstore (lv' := [(5, .long (x5 / (10 : Int64))), (3, .long (x3 - x3 / x5 * x5)), (0, .ref (a 0))]) hx hb dX9_sayLength_75 hl (by decide) rfl (fun ls hl => ?_)
      refine lv_goto (tgt := 46) hx hb dX9_sayLength_77 (by decide) ?_
      exact ih u_10 (x3 - x3 / x5 * x5) (x5 / (10 : Int64)) hf hP hD hS (lv_sub hl [2, 1, 0] rfl)
def f9_sayLength_41 (u : Md) (x3 : Int64) : Option Md := (f9_sayLength_46 FU u x3 (100000 : Int64))
set_option maxHeartbeats 4000000 in
set_option maxRecDepth 100000 in
theorem w9_sayLength_41 {p : Program} {l : Launch} {e : Env} {s : State} {m : MethodId} {args : Array Value} {below : List Frame} {meth : Method} {c : Code} (C : Cx p s m args meth c cX9_sayLength 7 ws9_sayLength RX9 none) {D : va_G} {cI cJ cC : ClassId} {a : Nat → Nat} {A : Nat → Prop} (hK : va_K D vwCl (ty3 cI cJ cC) s) (hA : ∀ q : Nat, s.heap.size ≤ q → A q) {r : Md} : ∀ (u : Md) (x3 : Int64), f9_sayLength_41 u x3 = some r → ∀ {H : Heap} {locs : List Loc}, va_P D vwCl (cM cI cJ a u) H → va_D A (cM cI cJ a u) → va_S A s.heap H locs → ∀ {ls : Array Slot}, lv_has ls 7 [(0, .ref (a 0)), (3, .long x3)] → W p l e rm9_sayLength s m args below meth c H locs 0 0 (MQ below (qW none (cM cI cJ a r) D (ty3 cI cJ cC) A) args s 0 0 A) (F0 m 41 ls []) := by
  have hx := C.1.1
  have hb := C.1.2.1
  have hts := C.1.2.2.2.2
  have hown := C.1.2.2.2.1
  have hin : ∀ w ∈ wsX90, w ∈ ws9_sayLength := fun w h => List.mem_cons_of_mem _ (List.mem_append_right _ h)
  intro u x3 hf H locs hP hD hS ls hl
  unfold f9_sayLength_41 at hf
  refine lv_ldc2 (v := (100000 : Int64)) hx hb hown (hts (Cond.constantLong RX9 275 (100000)) (List.mem_cons_of_mem _ m9_221)) dX9_sayLength_41 ?_
  refine lv_lstore (lv' := [(5, .long (100000 : Int64)), (0, .ref (a 0)), (3, .long x3)]) hx hb dX9_sayLength_44 hl (by decide) rfl (fun ls hl => ?_)
  exact w9_sayLength_46 C hK hA FU u x3 (100000 : Int64) hf hP hD hS (lv_sub hl [1, 2, 0] rfl)
def f9_sayLength_13 (u : Md) (y0 : Int64) : Option Md := ((f9_sayWhole u (y0 / (1000000 : Int64))).bind fun u_3 => (if (lg_cmp (y0 - y0 / (1000000 : Int64) * (1000000 : Int64)) (0 : Int64)) ≤ 0 then (f9_sayLength_41 u_3 (y0 - y0 / (1000000 : Int64) * (1000000 : Int64))) else ((f9_say u_3 (46 : Int32)).bind fun u_6 => (f9_sayLength_41 u_6 (y0 - y0 / (1000000 : Int64) * (1000000 : Int64))))))
set_option maxHeartbeats 4000000 in
set_option maxRecDepth 100000 in
theorem w9_sayLength_13 {p : Program} {l : Launch} {e : Env} {s : State} {m : MethodId} {args : Array Value} {below : List Frame} {meth : Method} {c : Code} (C : Cx p s m args meth c cX9_sayLength 7 ws9_sayLength RX9 none) {D : va_G} {cI cJ cC : ClassId} {a : Nat → Nat} {A : Nat → Prop} (hK : va_K D vwCl (ty3 cI cJ cC) s) (hA : ∀ q : Nat, s.heap.size ≤ q → A q) {r : Md} : ∀ (u : Md) (y0 : Int64), f9_sayLength_13 u y0 = some r → ∀ {H : Heap} {locs : List Loc}, va_P D vwCl (cM cI cJ a u) H → va_D A (cM cI cJ a u) → va_S A s.heap H locs → ∀ {ls : Array Slot}, lv_has ls 7 [(0, .ref (a 0))] → W p l e rm9_sayLength s m args below meth c H locs 0 0 (MQ below (qW none (cM cI cJ a r) D (ty3 cI cJ cC) A) args s 0 0 A) (F0 m 13 ls [.long y0]) := by
  have hx := C.1.1
  have hb := C.1.2.1
  have hts := C.1.2.2.2.2
  have hown := C.1.2.2.2.1
  have hin : ∀ w ∈ wsX90, w ∈ ws9_sayLength := fun w h => List.mem_cons_of_mem _ (List.mem_append_right _ h)
  intro u y0 hf H locs hP hD hS ls hl
  unfold f9_sayLength_13 at hf
  refine lv_lstore_n (lv' := [(3, .long y0), (0, .ref (a 0))]) hx hb dX9_sayLength_13 rfl hl (by decide) rfl (fun ls hl => ?_)
  refine lv_aload_n hx hb dX9_sayLength_14 rfl (lv_at hl 1 rfl) ?_
  refine lv_lload_n hx hb dX9_sayLength_15 rfl (lv_at hl 0 rfl) ?_
  refine lv_ldc2 (v := (1000000 : Int64)) hx hb hown (hts (Cond.constantLong RX9 113 (1000000)) (List.mem_cons_of_mem _ m9_68)) dX9_sayLength_16 ?_
  refine lv_ldiv hx hb dX9_sayLength_19 (by decide) ?_
  obtain ⟨u_3, h_2, hf⟩ := og_b hf
  try dsimp only at hf
  refine ck_w (ov := none) (st1 := []) (rest := []) C.1 (c9_sayWhole l D cI cJ cC a u (y0 / (1000000 : Int64)) u_3  _ h_2) (cwV 1 hts g9_sayWhole rfl rfl rfl hd9_sayWhole ⟨Nat.le_of_ble_eq_true rfl, Nat.le_of_ble_eq_true rfl⟩) hK hA hP hD hS (q0 := 0) (ci := 6) rfl rfl rfl rfl hl.1 rfl rfl (Nat.le_of_ble_eq_true rfl) ⟨Nat.zero_le _, Nat.zero_le _⟩ dX9_sayLength_20 (fun H locs hP hD hS => ?_)
  refine lv_lload_n hx hb dX9_sayLength_23 rfl (lv_at hl 0 rfl) ?_
  refine lv_ldc2 (v := (1000000 : Int64)) hx hb hown (hts (Cond.constantLong RX9 113 (1000000)) (List.mem_cons_of_mem _ m9_68)) dX9_sayLength_24 ?_
  refine lv_lrem hx hb dX9_sayLength_27 (by decide) ?_
  refine lv_lstore_n (lv' := [(3, .long (y0 - y0 / (1000000 : Int64) * (1000000 : Int64))), (0, .ref (a 0))]) hx hb dX9_sayLength_28 rfl hl (by decide) rfl (fun ls hl => ?_)
  refine lv_lload_n hx hb dX9_sayLength_29 rfl (lv_at hl 0 rfl) ?_
  refine lv_lconst (v := (0 : Int64)) hx hb dX9_sayLength_30 (by decide) ?_
  refine W.lcmp hx hb dX9_sayLength_31 ?_
  refine lv_if_le (tgt := 41) hx hb dX9_sayLength_32 (by decide) (fun c_4 => ?_) (fun c_4 => ?_)
  · replace hf := og_t c_4 hf
    exact w9_sayLength_41 C hK hA u_3 (y0 - y0 / (1000000 : Int64) * (1000000 : Int64)) hf hP hD hS (lv_sub hl [1, 0] rfl)
  · replace hf := og_f c_4 hf
    refine lv_aload_n hx hb dX9_sayLength_35 rfl (lv_at hl 1 rfl) ?_
    refine lv_bipush (v := (46 : Int32)) hx hb dX9_sayLength_36 (by decide) ?_
    obtain ⟨u_6, h_5, hf⟩ := og_b hf
    try dsimp only at hf
    refine ck_w (ov := none) (st1 := []) (rest := []) C.1 (c9_say l D cI cJ cC a u_3 (46 : Int32) u_6  _ h_5) (cwV 1 hts g9_say rfl rfl rfl hd9_say ⟨Nat.le_of_ble_eq_true rfl, Nat.le_of_ble_eq_true rfl⟩) hK hA hP hD hS (q0 := 0) (ci := 6) rfl rfl rfl rfl hl.1 rfl rfl (Nat.le_of_ble_eq_true rfl) ⟨Nat.zero_le _, Nat.zero_le _⟩ dX9_sayLength_38 (fun H locs hP hD hS => ?_)
    exact w9_sayLength_41 C hK hA u_6 (y0 - y0 / (1000000 : Int64) * (1000000 : Int64)) hf hP hD hS (lv_sub hl [1, 0] rfl)
def f9_sayLength (u : Md) (x1 : Int64) : Option Md := (if 0 ≤ (lg_cmp x1 (0 : Int64)) then (f9_sayLength_13 u x1) else (f9_sayLength_13 u ((0 : Int64) - x1)))
set_option maxHeartbeats 4000000 in
set_option maxRecDepth 100000 in
theorem c9_sayLength (l : Launch) (D : va_G) (cI cJ cC : ClassId) (a : Nat → Nat) (u : Md) (x1 : Int64) (v : Md) (sz : Nat) (hf : f9_sayLength u x1 = some v) : Met l yX9_sayLength ws9_sayLength rm9_sayLength (pW D (ty3 cI cJ cC) (cM cI cJ a u) sz [.ref (a 0), .long x1]) (qW none (cM cI cJ a v) D (ty3 cI cJ cC) (va_A (cM cI cJ a u) sz)) 0 0 (va_A (cM cI cJ a u) sz) := by
  refine mt_w (cc := cX9_sayLength) (maxL := 7) (ret := none) (by decide) rfl (Nat.le_of_ble_eq_true rfl) ?_
  intro p e s m below meth c ls A C hl hK hA hP hD hS
  have hl : lv_has ls 7 [(0, .ref (a 0)), (1, .long x1)] := hl
  have hx := C.1.1
  have hb := C.1.2.1
  have hts := C.1.2.2.2.2
  have hown := C.1.2.2.2.1
  have hin : ∀ w ∈ wsX90, w ∈ ws9_sayLength := fun w h => List.mem_cons_of_mem _ (List.mem_append_right _ h)
  unfold f9_sayLength at hf
  refine lv_lload_n hx hb dX9_sayLength_0 rfl (lv_at hl 1 rfl) ?_
  refine lv_lconst (v := (0 : Int64)) hx hb dX9_sayLength_1 (by decide) ?_
  refine W.lcmp hx hb dX9_sayLength_2 ?_
  refine lv_if_ge (tgt := 12) hx hb dX9_sayLength_3 (by decide) (fun c_1 => ?_) (fun c_1 => ?_)
  · replace hf := og_t c_1 hf
    refine lv_lload_n hx hb dX9_sayLength_12 rfl (lv_at hl 1 rfl) ?_
    exact w9_sayLength_13 C hK hA u x1 hf hP hD hS (lv_sub hl [0] rfl)
  · replace hf := og_f c_1 hf
    refine lv_lconst (v := (0 : Int64)) hx hb dX9_sayLength_6 (by decide) ?_
    refine lv_lload_n hx hb dX9_sayLength_7 rfl (lv_at hl 1 rfl) ?_
    refine lv_lsub hx hb dX9_sayLength_8 ?_
    refine lv_goto (tgt := 13) hx hb dX9_sayLength_9 (by decide) ?_
    exact w9_sayLength_13 C hK hA u ((0 : Int64) - x1) hf hP hD hS (lv_sub hl [0] rfl)
abbrev rm9_sayText : Room := { frames := 1, cells := 0, slots := 0, locals := 21 }
noncomputable abbrev ws9_sayText : List Cond := Cond.code yX9_sayText cX9_sayText 5 none :: WA9
theorem g9_sayText {c0 : Cond} : GoodIn (c0 :: WA9) (wsV RX9 280 RX9 yX9_sayText ws9_sayText) := gd9_v m9_230 m9_231 m9_232 m9_29 m9_225
theorem hd9_sayText : yX9_sayText.cls = RX9 ∧ yX9_sayText.cls ≠ "java/lang/invoke/MethodHandle" ∧ yX9_sayText.cls ≠ "java/lang/invoke/VarHandle" ∧ (parseMethodDescriptor yX9_sayText.desc).map (fun d => d.parameters.length) = some 2 := by decide +kernel
def f9_sayText_60 (k8 : Md → Int32 → Int32 → Int32 → Option Md) (u : Md) (x1 : Int32) (x2 : Int32) (x3 : Int32) (x4 : Int32) : Option Md := ((f9_say u x4).bind fun u_13 => (k8 u_13 x1 x2 (x3 + (1 : Int32))))
set_option maxHeartbeats 4000000 in
set_option maxRecDepth 100000 in
theorem w9_sayText_60 {p : Program} {l : Launch} {e : Env} {s : State} {m : MethodId} {args : Array Value} {below : List Frame} {meth : Method} {c : Code} (C : Cx p s m args meth c cX9_sayText 5 ws9_sayText RX9 none) {D : va_G} {cI cJ cC : ClassId} {a : Nat → Nat} {A : Nat → Prop} (hK : va_K D vwCl (ty3 cI cJ cC) s) (hA : ∀ q : Nat, s.heap.size ≤ q → A q) {r : Md} (k8 : Md → Int32 → Int32 → Int32 → Option Md) (ih8 : ∀ (u : Md) (x1 : Int32) (x2 : Int32) (x3 : Int32), k8 u x1 x2 x3 = some r → ∀ {H : Heap} {locs : List Loc}, va_P D vwCl (cM cI cJ a u) H → va_D A (cM cI cJ a u) → va_S A s.heap H locs → ∀ {ls : Array Slot}, lv_has ls 5 [(0, .ref (a 0)), (1, .int x1), (2, .int x2), (3, .int x3)] → W p l e rm9_sayText s m args below meth c H locs 0 0 (MQ below (qW none (cM cI cJ a r) D (ty3 cI cJ cC) A) args s 0 0 A) (F0 m 8 ls [])) : ∀ (u : Md) (x1 : Int32) (x2 : Int32) (x3 : Int32) (x4 : Int32), f9_sayText_60 k8 u x1 x2 x3 x4 = some r → ∀ {H : Heap} {locs : List Loc}, va_P D vwCl (cM cI cJ a u) H → va_D A (cM cI cJ a u) → va_S A s.heap H locs → ∀ {ls : Array Slot}, lv_has ls 5 [(0, .ref (a 0)), (1, .int x1), (2, .int x2), (3, .int x3), (4, .int x4)] → W p l e rm9_sayText s m args below meth c H locs 0 0 (MQ below (qW none (cM cI cJ a r) D (ty3 cI cJ cC) A) args s 0 0 A) (F0 m 60 ls []) := by
  have hx := C.1.1
  have hb := C.1.2.1
  have hts := C.1.2.2.2.2
  have hown := C.1.2.2.2.1
  have hin : ∀ w ∈ wsX90, w ∈ ws9_sayText := fun w h => List.mem_cons_of_mem _ (List.mem_append_right _ h)
  intro u x1 x2 x3 x4 hf H locs hP hD hS ls hl
  unfold f9_sayText_60 at hf
  refine lv_aload_n hx hb dX9_sayText_60 rfl (lv_at hl 0 rfl) ?_
  refine lv_iload hx hb dX9_sayText_61 (lv_at hl 4 rfl) ?_
  obtain ⟨u_13, h_12, hf⟩ := og_b hf
  try dsimp only at hf
  refine ck_w (ov := none) (st1 := []) (rest := []) C.1 (c9_say l D cI cJ cC a u x4 u_13  _ h_12) (cwV 1 hts g9_say rfl rfl rfl hd9_say ⟨Nat.le_of_ble_eq_true rfl, Nat.le_of_ble_eq_true rfl⟩) hK hA hP hD hS (q0 := 0) (ci := 6) rfl rfl rfl rfl hl.1 rfl rfl (Nat.le_of_ble_eq_true rfl) ⟨Nat.zero_le _, Nat.zero_le _⟩ dX9_sayText_63 (fun H locs hP hD hS => ?_)
  refine lv_iinc (v := (x3 + (1 : Int32))) (lv' := [(3, .int (x3 + (1 : Int32))), (0, .ref (a 0)), (1, .int x1), (2, .int x2), (4, .int x4)]) hx hb dX9_sayText_66 hl (k := 3) rfl rfl (by decide) rfl (fun ls hl => ?_)
  refine lv_goto (tgt := 8) hx hb dX9_sayText_69 (by decide) ?_
  exact ih8 u_13 x1 x2 (x3 + (1 : Int32)) hf hP hD hS (lv_sub hl [1, 2, 3, 0] rfl)
def f9_sayText_54 (k8 : Md → Int32 → Int32 → Int32 → Option Md) (u : Md) (x1 : Int32) (x2 : Int32) (x3 : Int32) (x4 : Int32) : Option Md := ((f9_say u (92 : Int32)).bind fun u_11 => (f9_sayText_60 k8 u_11 x1 x2 x3 x4))
set_option maxHeartbeats 4000000 in
set_option maxRecDepth 100000 in
theorem w9_sayText_54 {p : Program} {l : Launch} {e : Env} {s : State} {m : MethodId} {args : Array Value} {below : List Frame} {meth : Method} {c : Code} (C : Cx p s m args meth c cX9_sayText 5 ws9_sayText RX9 none) {D : va_G} {cI cJ cC : ClassId} {a : Nat → Nat} {A : Nat → Prop} (hK : va_K D vwCl (ty3 cI cJ cC) s) (hA : ∀ q : Nat, s.heap.size ≤ q → A q) {r : Md} (k8 : Md → Int32 → Int32 → Int32 → Option Md) (ih8 : ∀ (u : Md) (x1 : Int32) (x2 : Int32) (x3 : Int32), k8 u x1 x2 x3 = some r → ∀ {H : Heap} {locs : List Loc}, va_P D vwCl (cM cI cJ a u) H → va_D A (cM cI cJ a u) → va_S A s.heap H locs → ∀ {ls : Array Slot}, lv_has ls 5 [(0, .ref (a 0)), (1, .int x1), (2, .int x2), (3, .int x3)] → W p l e rm9_sayText s m args below meth c H locs 0 0 (MQ below (qW none (cM cI cJ a r) D (ty3 cI cJ cC) A) args s 0 0 A) (F0 m 8 ls [])) : ∀ (u : Md) (x1 : Int32) (x2 : Int32) (x3 : Int32) (x4 : Int32), f9_sayText_54 k8 u x1 x2 x3 x4 = some r → ∀ {H : Heap} {locs : List Loc}, va_P D vwCl (cM cI cJ a u) H → va_D A (cM cI cJ a u) → va_S A s.heap H locs → ∀ {ls : Array Slot}, lv_has ls 5 [(0, .ref (a 0)), (1, .int x1), (2, .int x2), (3, .int x3), (4, .int x4)] → W p l e rm9_sayText s m args below meth c H locs 0 0 (MQ below (qW none (cM cI cJ a r) D (ty3 cI cJ cC) A) args s 0 0 A) (F0 m 54 ls []) := by
  have hx := C.1.1
  have hb := C.1.2.1
  have hts := C.1.2.2.2.2
  have hown := C.1.2.2.2.1
  have hin : ∀ w ∈ wsX90, w ∈ ws9_sayText := fun w h => List.mem_cons_of_mem _ (List.mem_append_right _ h)
  intro u x1 x2 x3 x4 hf H locs hP hD hS ls hl
  unfold f9_sayText_54 at hf
  refine lv_aload_n hx hb dX9_sayText_54 rfl (lv_at hl 0 rfl) ?_
  refine lv_bipush (v := (92 : Int32)) hx hb dX9_sayText_55 (by decide) ?_
  obtain ⟨u_11, h_10, hf⟩ := og_b hf
  try dsimp only at hf
  refine ck_w (ov := none) (st1 := []) (rest := []) C.1 (c9_say l D cI cJ cC a u (92 : Int32) u_11  _ h_10) (cwV 1 hts g9_say rfl rfl rfl hd9_say ⟨Nat.le_of_ble_eq_true rfl, Nat.le_of_ble_eq_true rfl⟩) hK hA hP hD hS (q0 := 0) (ci := 6) rfl rfl rfl rfl hl.1 rfl rfl (Nat.le_of_ble_eq_true rfl) ⟨Nat.zero_le _, Nat.zero_le _⟩ dX9_sayText_57 (fun H locs hP hD hS => ?_)
  exact w9_sayText_60 C hK hA k8 (fun _ _ _ _ h9 => ih8 _ _ _ _ h9) u_11 x1 x2 x3 x4 hf hP hD hS (lv_sub hl [0, 1, 2, 3, 4] rfl)
def f9_sayText_8 : Nat → Md → Int32 → Int32 → Int32 → Option Md
  | 0, _, _, _, _ => none
  | n + 1, u, x1, x2, x3 => (if (((2 : Int32) * x1) + x2) < 0 ∨ 400 ≤ ((((2 : Int32) * x1) + x2)).toNatClampNeg then none else (if ((ga u 8) ((((2 : Int32) * x1) + x2)).toNatClampNeg) ≤ x3 then ((f9_say u (34 : Int32)).bind fun u_6 => (some u_6)) else (if ((((80 : Int32) * x1) + ((40 : Int32) * x2)) + x3) < 0 ∨ 16000 ≤ (((((80 : Int32) * x1) + ((40 : Int32) * x2)) + x3)).toNatClampNeg then none else (if ((ga u 9) (((((80 : Int32) * x1) + ((40 : Int32) * x2)) + x3)).toNatClampNeg) = (34 : Int32) then (f9_sayText_54 (f9_sayText_8 n) u x1 x2 x3 ((ga u 9) (((((80 : Int32) * x1) + ((40 : Int32) * x2)) + x3)).toNatClampNeg)) else (if ((ga u 9) (((((80 : Int32) * x1) + ((40 : Int32) * x2)) + x3)).toNatClampNeg) = (92 : Int32) then (f9_sayText_54 (f9_sayText_8 n) u x1 x2 x3 ((ga u 9) (((((80 : Int32) * x1) + ((40 : Int32) * x2)) + x3)).toNatClampNeg)) else (f9_sayText_60 (f9_sayText_8 n) u x1 x2 x3 ((ga u 9) (((((80 : Int32) * x1) + ((40 : Int32) * x2)) + x3)).toNatClampNeg)))))))
set_option maxHeartbeats 4000000 in
set_option maxRecDepth 100000 in
theorem w9_sayText_8 {p : Program} {l : Launch} {e : Env} {s : State} {m : MethodId} {args : Array Value} {below : List Frame} {meth : Method} {c : Code} (C : Cx p s m args meth c cX9_sayText 5 ws9_sayText RX9 none) {D : va_G} {cI cJ cC : ClassId} {a : Nat → Nat} {A : Nat → Prop} (hK : va_K D vwCl (ty3 cI cJ cC) s) (hA : ∀ q : Nat, s.heap.size ≤ q → A q) {r : Md} : ∀ (n : Nat), ∀ (u : Md) (x1 : Int32) (x2 : Int32) (x3 : Int32), f9_sayText_8 n u x1 x2 x3 = some r → ∀ {H : Heap} {locs : List Loc}, va_P D vwCl (cM cI cJ a u) H → va_D A (cM cI cJ a u) → va_S A s.heap H locs → ∀ {ls : Array Slot}, lv_has ls 5 [(0, .ref (a 0)), (1, .int x1), (2, .int x2), (3, .int x3)] → W p l e rm9_sayText s m args below meth c H locs 0 0 (MQ below (qW none (cM cI cJ a r) D (ty3 cI cJ cC) A) args s 0 0 A) (F0 m 8 ls []) := by
  have hx := C.1.1
  have hb := C.1.2.1
  have hts := C.1.2.2.2.2
  have hown := C.1.2.2.2.1
  have hin : ∀ w ∈ wsX90, w ∈ ws9_sayText := fun w h => List.mem_cons_of_mem _ (List.mem_append_right _ h)
  intro n
  induction n with
  | zero =>
    intro u x1 x2 x3 hf H locs hP hD hS ls hl
    cases hf
  | succ n ih =>
    intro u x1 x2 x3 hf H locs hP hD hS ls hl
    rw [f9_sayText_8] at hf
    refine lv_iload_n hx hb dX9_sayText_8 rfl (lv_at hl 3 rfl) ?_
    refine lv_aload_n hx hb dX9_sayText_9 rfl (lv_at hl 0 rfl) ?_
    refine mg9 (v := .ref (a 8)) C hin hK hP 8 (by decide) (hts (Cond.fieldLink RX9 23 "SchematicTextModel" "textSizes" "[I") (List.mem_cons_of_mem _ m9_10)) rfl dX9_sayText_10 ?_
    refine lv_iconst (v := (2 : Int32)) hx hb dX9_sayText_13 (by decide) ?_
    refine lv_iload_n hx hb dX9_sayText_14 rfl (lv_at hl 1 rfl) ?_
    refine lv_imul hx hb dX9_sayText_15 ?_
    refine lv_iload_n hx hb dX9_sayText_16 rfl (lv_at hl 2 rfl) ?_
    refine lv_iadd hx hb dX9_sayText_17 ?_
    obtain ⟨h_3, hf⟩ := og_n hf
    refine va_iald (f := (ga u 8)) hx hb hK hP 5 0 rfl rfl h_3 dX9_sayText_18 ?_
    refine lv_icmp_ge (tgt := 72) hx hb dX9_sayText_19 (by decide) (fun c_4 => ?_) (fun c_4 => ?_)
    · replace hf := og_t c_4 hf
      refine lv_aload_n hx hb dX9_sayText_72 rfl (lv_at hl 0 rfl) ?_
      refine lv_bipush (v := (34 : Int32)) hx hb dX9_sayText_73 (by decide) ?_
      obtain ⟨u_6, h_5, hf⟩ := og_b hf
      try dsimp only at hf
      refine ck_w (ov := none) (st1 := []) (rest := []) C.1 (c9_say l D cI cJ cC a u (34 : Int32) u_6  _ h_5) (cwV 1 hts g9_say rfl rfl rfl hd9_say ⟨Nat.le_of_ble_eq_true rfl, Nat.le_of_ble_eq_true rfl⟩) hK hA hP hD hS (q0 := 0) (ci := 6) rfl rfl rfl rfl hl.1 rfl rfl (Nat.le_of_ble_eq_true rfl) ⟨Nat.zero_le _, Nat.zero_le _⟩ dX9_sayText_75 (fun H locs hP hD hS => ?_)
      obtain rfl := og_s hf
      exact rw_v C hK hP hD hS dX9_sayText_78
    · replace hf := og_f c_4 hf
      refine lv_aload_n hx hb dX9_sayText_22 rfl (lv_at hl 0 rfl) ?_
      refine mg9 (v := .ref (a 9)) C hin hK hP 9 (by decide) (hts (Cond.fieldLink RX9 26 "SchematicTextModel" "characters" "[I") (List.mem_cons_of_mem _ m9_11)) rfl dX9_sayText_23 ?_
      refine lv_bipush (v := (80 : Int32)) hx hb dX9_sayText_26 (by decide) ?_
      refine lv_iload_n hx hb dX9_sayText_28 rfl (lv_at hl 1 rfl) ?_
      refine lv_imul hx hb dX9_sayText_29 ?_
      refine lv_bipush (v := (40 : Int32)) hx hb dX9_sayText_30 (by decide) ?_
      refine lv_iload_n hx hb dX9_sayText_32 rfl (lv_at hl 2 rfl) ?_
      refine lv_imul hx hb dX9_sayText_33 ?_
      refine lv_iadd hx hb dX9_sayText_34 ?_
      refine lv_iload_n hx hb dX9_sayText_35 rfl (lv_at hl 3 rfl) ?_
      refine lv_iadd hx hb dX9_sayText_36 ?_
      obtain ⟨h_7, hf⟩ := og_n hf
      refine va_iald (f := (ga u 9)) hx hb hK hP 6 0 rfl rfl h_7 dX9_sayText_37 ?_
      refine lv_istore (lv' := [(4, .int ((ga u 9) (((((80 : Int32) * x1) + ((40 : Int32) * x2)) + x3)).toNatClampNeg)), (0, .ref (a 0)), (1, .int x1), (2, .int x2), (3, .int x3)]) hx hb dX9_sayText_38 hl (by decide) rfl (fun ls hl => ?_)
      refine lv_iload hx hb dX9_sayText_40 (lv_at hl 0 rfl) ?_
      refine lv_bipush (v := (34 : Int32)) hx hb dX9_sayText_42 (by decide) ?_
      refine lv_icmp_eq (tgt := 54) hx hb dX9_sayText_44 (by decide) (fun c_8 => ?_) (fun c_8 => ?_)
      · replace hf := og_t c_8 hf
        exact w9_sayText_54 C hK hA (f9_sayText_8 n) (fun _ _ _ _ h9 => ih _ _ _ _ h9) u x1 x2 x3 ((ga u 9) (((((80 : Int32) * x1) + ((40 : Int32) * x2)) + x3)).toNatClampNeg) hf hP hD hS (lv_sub hl [1, 2, 3, 4, 0] rfl)
      · replace hf := og_f c_8 hf
        refine lv_iload hx hb dX9_sayText_47 (lv_at hl 0 rfl) ?_
        refine lv_bipush (v := (92 : Int32)) hx hb dX9_sayText_49 (by decide) ?_
        refine lv_icmp_ne (tgt := 60) hx hb dX9_sayText_51 (by decide) (fun c_9 => ?_) (fun c_9 => ?_)
        · replace hf := og_f c_9 hf
          exact w9_sayText_60 C hK hA (f9_sayText_8 n) (fun _ _ _ _ h9 => ih _ _ _ _ h9) u x1 x2 x3 ((ga u 9) (((((80 : Int32) * x1) + ((40 : Int32) * x2)) + x3)).toNatClampNeg) hf hP hD hS (lv_sub hl [1, 2, 3, 4, 0] rfl)
        · replace hf := og_t c_9 hf
          exact w9_sayText_54 C hK hA (f9_sayText_8 n) (fun _ _ _ _ h9 => ih _ _ _ _ h9) u x1 x2 x3 ((ga u 9) (((((80 : Int32) * x1) + ((40 : Int32) * x2)) + x3)).toNatClampNeg) hf hP hD hS (lv_sub hl [1, 2, 3, 4, 0] rfl)
def f9_sayText (u : Md) (x1 : Int32) (x2 : Int32) : Option Md := ((f9_say u (34 : Int32)).bind fun u_2 => (f9_sayText_8 FU u_2 x1 x2 (0 : Int32)))
set_option maxHeartbeats 4000000 in
set_option maxRecDepth 100000 in
theorem c9_sayText (l : Launch) (D : va_G) (cI cJ cC : ClassId) (a : Nat → Nat) (u : Md) (x1 : Int32) (x2 : Int32) (v : Md) (sz : Nat) (hf : f9_sayText u x1 x2 = some v) : Met l yX9_sayText ws9_sayText rm9_sayText (pW D (ty3 cI cJ cC) (cM cI cJ a u) sz [.ref (a 0), .int x1, .int x2]) (qW none (cM cI cJ a v) D (ty3 cI cJ cC) (va_A (cM cI cJ a u) sz)) 0 0 (va_A (cM cI cJ a u) sz) := by
  refine mt_w (cc := cX9_sayText) (maxL := 5) (ret := none) (by decide) rfl (Nat.le_of_ble_eq_true rfl) ?_
  intro p e s m below meth c ls A C hl hK hA hP hD hS
  have hl : lv_has ls 5 [(0, .ref (a 0)), (1, .int x1), (2, .int x2)] := hl
  have hx := C.1.1
  have hb := C.1.2.1
  have hts := C.1.2.2.2.2
  have hown := C.1.2.2.2.1
  have hin : ∀ w ∈ wsX90, w ∈ ws9_sayText := fun w h => List.mem_cons_of_mem _ (List.mem_append_right _ h)
  unfold f9_sayText at hf
  refine lv_aload_n hx hb dX9_sayText_0 rfl (lv_at hl 0 rfl) ?_
  refine lv_bipush (v := (34 : Int32)) hx hb dX9_sayText_1 (by decide) ?_
  obtain ⟨u_2, h_1, hf⟩ := og_b hf
  try dsimp only at hf
  refine ck_w (ov := none) (st1 := []) (rest := []) C.1 (c9_say l D cI cJ cC a u (34 : Int32) u_2  _ h_1) (cwV 1 hts g9_say rfl rfl rfl hd9_say ⟨Nat.le_of_ble_eq_true rfl, Nat.le_of_ble_eq_true rfl⟩) hK hA hP hD hS (q0 := 0) (ci := 6) rfl rfl rfl rfl hl.1 rfl rfl (Nat.le_of_ble_eq_true rfl) ⟨Nat.zero_le _, Nat.zero_le _⟩ dX9_sayText_3 (fun H locs hP hD hS => ?_)
  refine lv_iconst (v := (0 : Int32)) hx hb dX9_sayText_6 (by decide) ?_
  refine lv_istore_n (lv' := [(3, .int (0 : Int32)), (0, .ref (a 0)), (1, .int x1), (2, .int x2)]) hx hb dX9_sayText_7 rfl hl (by decide) rfl (fun ls hl => ?_)
  exact w9_sayText_8 C hK hA FU u_2 x1 x2 (0 : Int32) hf hP hD hS (lv_sub hl [1, 2, 3, 0] rfl)
abbrev rm9_sayOwn : Room := { frames := 3, cells := 0, slots := 0, locals := 72 }
noncomputable abbrev ws9_sayOwn : List Cond := Cond.code yX9_sayOwn cX9_sayOwn 8 none :: WA9
theorem g9_sayOwn {c0 : Cond} : GoodIn (c0 :: WA9) (wsV RX9 286 RX9 yX9_sayOwn ws9_sayOwn) := gd9_v m9_239 m9_240 m9_241 m9_29 m9_226
theorem hd9_sayOwn : yX9_sayOwn.cls = RX9 ∧ yX9_sayOwn.cls ≠ "java/lang/invoke/MethodHandle" ∧ yX9_sayOwn.cls ≠ "java/lang/invoke/VarHandle" ∧ (parseMethodDescriptor yX9_sayOwn.desc).map (fun d => d.parameters.length) = some 1 := by decide +kernel
def f9_sayOwn_13 : Nat → Md → Int32 → Int32 → Option Md
  | 0, _, _, _ => none
  | n + 1, u, x1, x2 => (if x1 < 0 ∨ 200 ≤ (x1).toNatClampNeg then none else (if ((ga u 11) (x1).toNatClampNeg) ≤ x2 then (some u) else (if x1 < 0 ∨ 200 ≤ (x1).toNatClampNeg then none else (if (((ga u 10) (x1).toNatClampNeg) + x2) < 0 ∨ 2000 ≤ ((((ga u 10) (x1).toNatClampNeg) + x2)).toNatClampNeg then none else ((f9_say u ((ga u 12) ((((ga u 10) (x1).toNatClampNeg) + x2)).toNatClampNeg)).bind fun u_20 => (f9_sayOwn_13 n u_20 x1 (x2 + (1 : Int32))))))))
set_option maxHeartbeats 4000000 in
set_option maxRecDepth 100000 in
theorem w9_sayOwn_13 {p : Program} {l : Launch} {e : Env} {s : State} {m : MethodId} {args : Array Value} {below : List Frame} {meth : Method} {c : Code} (C : Cx p s m args meth c cX9_sayOwn 8 ws9_sayOwn RX9 none) {D : va_G} {cI cJ cC : ClassId} {a : Nat → Nat} {A : Nat → Prop} (hK : va_K D vwCl (ty3 cI cJ cC) s) (hA : ∀ q : Nat, s.heap.size ≤ q → A q) {r : Md} : ∀ (n : Nat), ∀ (u : Md) (x1 : Int32) (x2 : Int32), f9_sayOwn_13 n u x1 x2 = some r → ∀ {H : Heap} {locs : List Loc}, va_P D vwCl (cM cI cJ a u) H → va_D A (cM cI cJ a u) → va_S A s.heap H locs → ∀ {ls : Array Slot}, lv_has ls 8 [(0, .ref (a 0)), (1, .int x1), (2, .int x2)] → W p l e rm9_sayOwn s m args below meth c H locs 0 0 (MQ below (qW none (cM cI cJ a r) D (ty3 cI cJ cC) A) args s 0 0 A) (F0 m 13 ls []) := by
  have hx := C.1.1
  have hb := C.1.2.1
  have hts := C.1.2.2.2.2
  have hown := C.1.2.2.2.1
  have hin : ∀ w ∈ wsX90, w ∈ ws9_sayOwn := fun w h => List.mem_cons_of_mem _ (List.mem_append_right _ h)
  intro n
  induction n with
  | zero =>
    intro u x1 x2 hf H locs hP hD hS ls hl
    cases hf
  | succ n ih =>
    intro u x1 x2 hf H locs hP hD hS ls hl
    rw [f9_sayOwn_13] at hf
    refine lv_iload_n hx hb dX9_sayOwn_13 rfl (lv_at hl 2 rfl) ?_
    refine lv_aload_n hx hb dX9_sayOwn_14 rfl (lv_at hl 0 rfl) ?_
    refine mg9 (v := .ref (a 11)) C hin hK hP 11 (by decide) (hts (Cond.fieldLink RX9 32 "SchematicTextModel" "keptSize" "[I") (List.mem_cons_of_mem _ m9_13)) rfl dX9_sayOwn_15 ?_
    refine lv_iload_n hx hb dX9_sayOwn_18 rfl (lv_at hl 1 rfl) ?_
    obtain ⟨h_15, hf⟩ := og_n hf
    refine va_iald (f := (ga u 11)) hx hb hK hP 8 0 rfl rfl h_15 dX9_sayOwn_19 ?_
    refine lv_icmp_ge (tgt := 46) hx hb dX9_sayOwn_20 (by decide) (fun c_16 => ?_) (fun c_16 => ?_)
    · replace hf := og_t c_16 hf
      obtain rfl := og_s hf
      exact rw_v C hK hP hD hS dX9_sayOwn_46
    · replace hf := og_f c_16 hf
      refine lv_aload_n hx hb dX9_sayOwn_23 rfl (lv_at hl 0 rfl) ?_
      refine lv_aload_n hx hb dX9_sayOwn_24 rfl (lv_at hl 0 rfl) ?_
      refine mg9 (v := .ref (a 12)) C hin hK hP 12 (by decide) (hts (Cond.fieldLink RX9 35 "SchematicTextModel" "kept" "[I") (List.mem_cons_of_mem _ m9_14)) rfl dX9_sayOwn_25 ?_
      refine lv_aload_n hx hb dX9_sayOwn_28 rfl (lv_at hl 0 rfl) ?_
      refine mg9 (v := .ref (a 10)) C hin hK hP 10 (by decide) (hts (Cond.fieldLink RX9 29 "SchematicTextModel" "keptFrom" "[I") (List.mem_cons_of_mem _ m9_12)) rfl dX9_sayOwn_29 ?_
      refine lv_iload_n hx hb dX9_sayOwn_32 rfl (lv_at hl 1 rfl) ?_
      obtain ⟨h_17, hf⟩ := og_n hf
      refine va_iald (f := (ga u 10)) hx hb hK hP 7 0 rfl rfl h_17 dX9_sayOwn_33 ?_
      refine lv_iload_n hx hb dX9_sayOwn_34 rfl (lv_at hl 2 rfl) ?_
      refine lv_iadd hx hb dX9_sayOwn_35 ?_
      obtain ⟨h_18, hf⟩ := og_n hf
      refine va_iald (f := (ga u 12)) hx hb hK hP 9 0 rfl rfl h_18 dX9_sayOwn_36 ?_
      obtain ⟨u_20, h_19, hf⟩ := og_b hf
      try dsimp only at hf
      refine ck_w (ov := none) (st1 := []) (rest := []) C.1 (c9_say l D cI cJ cC a u ((ga u 12) ((((ga u 10) (x1).toNatClampNeg) + x2)).toNatClampNeg) u_20  _ h_19) (cwV 1 hts g9_say rfl rfl rfl hd9_say ⟨Nat.le_of_ble_eq_true rfl, Nat.le_of_ble_eq_true rfl⟩) hK hA hP hD hS (q0 := 0) (ci := 6) rfl rfl rfl rfl hl.1 rfl rfl (Nat.le_of_ble_eq_true rfl) ⟨Nat.zero_le _, Nat.zero_le _⟩ dX9_sayOwn_37 (fun H locs hP hD hS => ?_)
      refine lv_iinc (v := (x2 + (1 : Int32))) (lv' := [(2, .int (x2 + (1 : Int32))), (0, .ref (a 0)), (1, .int x1)]) hx hb dX9_sayOwn_40 hl (k := 2) rfl rfl (by decide) rfl (fun ls hl => ?_)
      refine lv_goto (tgt := 13) hx hb dX9_sayOwn_43 (by decide) ?_
      exact ih u_20 x1 (x2 + (1 : Int32)) hf hP hD hS (lv_sub hl [1, 2, 0] rfl)
def f9_sayOwn_212 (k98 : Md → Int32 → Int32 → Int32 → Int32 → Option Md) (u : Md) (x1 : Int32) (x2 : Int32) (x3 : Int32) (x4 : Int32) : Option Md := (k98 u x1 x2 x3 (x4 + (1 : Int32)))
set_option maxHeartbeats 4000000 in
set_option maxRecDepth 100000 in
theorem w9_sayOwn_212 {p : Program} {l : Launch} {e : Env} {s : State} {m : MethodId} {args : Array Value} {below : List Frame} {meth : Method} {c : Code} (C : Cx p s m args meth c cX9_sayOwn 8 ws9_sayOwn RX9 none) {D : va_G} {cI cJ cC : ClassId} {a : Nat → Nat} {A : Nat → Prop} (hK : va_K D vwCl (ty3 cI cJ cC) s) (hA : ∀ q : Nat, s.heap.size ≤ q → A q) {r : Md} (k98 : Md → Int32 → Int32 → Int32 → Int32 → Option Md) (ih98 : ∀ (u : Md) (x1 : Int32) (x2 : Int32) (x3 : Int32) (x4 : Int32), k98 u x1 x2 x3 x4 = some r → ∀ {H : Heap} {locs : List Loc}, va_P D vwCl (cM cI cJ a u) H → va_D A (cM cI cJ a u) → va_S A s.heap H locs → ∀ {ls : Array Slot}, lv_has ls 8 [(0, .ref (a 0)), (1, .int x1), (2, .int x2), (3, .int x3), (4, .int x4)] → W p l e rm9_sayOwn s m args below meth c H locs 0 0 (MQ below (qW none (cM cI cJ a r) D (ty3 cI cJ cC) A) args s 0 0 A) (F0 m 98 ls [])) : ∀ (u : Md) (x1 : Int32) (x2 : Int32) (x3 : Int32) (x4 : Int32), f9_sayOwn_212 k98 u x1 x2 x3 x4 = some r → ∀ {H : Heap} {locs : List Loc}, va_P D vwCl (cM cI cJ a u) H → va_D A (cM cI cJ a u) → va_S A s.heap H locs → ∀ {ls : Array Slot}, lv_has ls 8 [(0, .ref (a 0)), (1, .int x1), (2, .int x2), (3, .int x3), (4, .int x4)] → W p l e rm9_sayOwn s m args below meth c H locs 0 0 (MQ below (qW none (cM cI cJ a r) D (ty3 cI cJ cC) A) args s 0 0 A) (F0 m 212 ls []) := by
  have hx := C.1.1
  have hb := C.1.2.1
  have hts := C.1.2.2.2.2
  have hown := C.1.2.2.2.1
  have hin : ∀ w ∈ wsX90, w ∈ ws9_sayOwn := fun w h => List.mem_cons_of_mem _ (List.mem_append_right _ h)
  intro u x1 x2 x3 x4 hf H locs hP hD hS ls hl
  unfold f9_sayOwn_212 at hf
  refine lv_iinc (v := (x4 + (1 : Int32))) (lv' := [(4, .int (x4 + (1 : Int32))), (0, .ref (a 0)), (1, .int x1), (2, .int x2), (3, .int x3)]) hx hb dX9_sayOwn_212 hl (k := 4) rfl rfl (by decide) rfl (fun ls hl => ?_)
  refine lv_goto (tgt := 98) hx hb dX9_sayOwn_215 (by decide) ?_
  exact ih98 u x1 x2 x3 (x4 + (1 : Int32)) hf hP hD hS (lv_sub hl [1, 2, 3, 4, 0] rfl)
def f9_sayOwn_209 (k98 : Md → Int32 → Int32 → Int32 → Int32 → Option Md) (u : Md) (x1 : Int32) (x2 : Int32) (x3 : Int32) (x4 : Int32) : Option Md := (f9_sayOwn_212 k98 u x1 (x2 + (1 : Int32)) x3 x4)
set_option maxHeartbeats 4000000 in
set_option maxRecDepth 100000 in
theorem w9_sayOwn_209 {p : Program} {l : Launch} {e : Env} {s : State} {m : MethodId} {args : Array Value} {below : List Frame} {meth : Method} {c : Code} (C : Cx p s m args meth c cX9_sayOwn 8 ws9_sayOwn RX9 none) {D : va_G} {cI cJ cC : ClassId} {a : Nat → Nat} {A : Nat → Prop} (hK : va_K D vwCl (ty3 cI cJ cC) s) (hA : ∀ q : Nat, s.heap.size ≤ q → A q) {r : Md} (k98 : Md → Int32 → Int32 → Int32 → Int32 → Option Md) (ih98 : ∀ (u : Md) (x1 : Int32) (x2 : Int32) (x3 : Int32) (x4 : Int32), k98 u x1 x2 x3 x4 = some r → ∀ {H : Heap} {locs : List Loc}, va_P D vwCl (cM cI cJ a u) H → va_D A (cM cI cJ a u) → va_S A s.heap H locs → ∀ {ls : Array Slot}, lv_has ls 8 [(0, .ref (a 0)), (1, .int x1), (2, .int x2), (3, .int x3), (4, .int x4)] → W p l e rm9_sayOwn s m args below meth c H locs 0 0 (MQ below (qW none (cM cI cJ a r) D (ty3 cI cJ cC) A) args s 0 0 A) (F0 m 98 ls [])) : ∀ (u : Md) (x1 : Int32) (x2 : Int32) (x3 : Int32) (x4 : Int32), f9_sayOwn_209 k98 u x1 x2 x3 x4 = some r → ∀ {H : Heap} {locs : List Loc}, va_P D vwCl (cM cI cJ a u) H → va_D A (cM cI cJ a u) → va_S A s.heap H locs → ∀ {ls : Array Slot}, lv_has ls 8 [(0, .ref (a 0)), (1, .int x1), (2, .int x2), (3, .int x3), (4, .int x4)] → W p l e rm9_sayOwn s m args below meth c H locs 0 0 (MQ below (qW none (cM cI cJ a r) D (ty3 cI cJ cC) A) args s 0 0 A) (F0 m 209 ls []) := by
  have hx := C.1.1
  have hb := C.1.2.1
  have hts := C.1.2.2.2.2
  have hown := C.1.2.2.2.1
  have hin : ∀ w ∈ wsX90, w ∈ ws9_sayOwn := fun w h => List.mem_cons_of_mem _ (List.mem_append_right _ h)
  intro u x1 x2 x3 x4 hf H locs hP hD hS ls hl
  unfold f9_sayOwn_209 at hf
  refine lv_iinc (v := (x2 + (1 : Int32))) (lv' := [(2, .int (x2 + (1 : Int32))), (0, .ref (a 0)), (1, .int x1), (3, .int x3), (4, .int x4)]) hx hb dX9_sayOwn_209 hl (k := 2) rfl rfl (by decide) rfl (fun ls hl => ?_)
  exact w9_sayOwn_212 C hK hA k98 (fun _ _ _ _ _ h9 => ih98 _ _ _ _ _ h9) u x1 (x2 + (1 : Int32)) x3 x4 hf hP hD hS (lv_sub hl [1, 2, 0, 3, 4] rfl)
def f9_sayOwn_206 (k98 : Md → Int32 → Int32 → Int32 → Int32 → Option Md) (u : Md) (x1 : Int32) (x2 : Int32) (x3 : Int32) (x4 : Int32) (y0 : Int64) : Option Md := ((f9_sayWhole u y0).bind fun u_42 => (f9_sayOwn_209 k98 u_42 x1 x2 x3 x4))
set_option maxHeartbeats 4000000 in
set_option maxRecDepth 100000 in
theorem w9_sayOwn_206 {p : Program} {l : Launch} {e : Env} {s : State} {m : MethodId} {args : Array Value} {below : List Frame} {meth : Method} {c : Code} (C : Cx p s m args meth c cX9_sayOwn 8 ws9_sayOwn RX9 none) {D : va_G} {cI cJ cC : ClassId} {a : Nat → Nat} {A : Nat → Prop} (hK : va_K D vwCl (ty3 cI cJ cC) s) (hA : ∀ q : Nat, s.heap.size ≤ q → A q) {r : Md} (k98 : Md → Int32 → Int32 → Int32 → Int32 → Option Md) (ih98 : ∀ (u : Md) (x1 : Int32) (x2 : Int32) (x3 : Int32) (x4 : Int32), k98 u x1 x2 x3 x4 = some r → ∀ {H : Heap} {locs : List Loc}, va_P D vwCl (cM cI cJ a u) H → va_D A (cM cI cJ a u) → va_S A s.heap H locs → ∀ {ls : Array Slot}, lv_has ls 8 [(0, .ref (a 0)), (1, .int x1), (2, .int x2), (3, .int x3), (4, .int x4)] → W p l e rm9_sayOwn s m args below meth c H locs 0 0 (MQ below (qW none (cM cI cJ a r) D (ty3 cI cJ cC) A) args s 0 0 A) (F0 m 98 ls [])) : ∀ (u : Md) (x1 : Int32) (x2 : Int32) (x3 : Int32) (x4 : Int32) (y0 : Int64), f9_sayOwn_206 k98 u x1 x2 x3 x4 y0 = some r → ∀ {H : Heap} {locs : List Loc}, va_P D vwCl (cM cI cJ a u) H → va_D A (cM cI cJ a u) → va_S A s.heap H locs → ∀ {ls : Array Slot}, lv_has ls 8 [(0, .ref (a 0)), (1, .int x1), (2, .int x2), (3, .int x3), (4, .int x4)] → W p l e rm9_sayOwn s m args below meth c H locs 0 0 (MQ below (qW none (cM cI cJ a r) D (ty3 cI cJ cC) A) args s 0 0 A) (F0 m 206 ls [.long y0, .ref (a 0)]) := by
  have hx := C.1.1
  have hb := C.1.2.1
  have hts := C.1.2.2.2.2
  have hown := C.1.2.2.2.1
  have hin : ∀ w ∈ wsX90, w ∈ ws9_sayOwn := fun w h => List.mem_cons_of_mem _ (List.mem_append_right _ h)
  intro u x1 x2 x3 x4 y0 hf H locs hP hD hS ls hl
  unfold f9_sayOwn_206 at hf
  obtain ⟨u_42, h_41, hf⟩ := og_b hf
  try dsimp only at hf
  refine ck_w (ov := none) (st1 := []) (rest := []) C.1 (c9_sayWhole l D cI cJ cC a u y0 u_42  _ h_41) (cwV 1 hts g9_sayWhole rfl rfl rfl hd9_sayWhole ⟨Nat.le_of_ble_eq_true rfl, Nat.le_of_ble_eq_true rfl⟩) hK hA hP hD hS (q0 := 0) (ci := 6) rfl rfl rfl rfl hl.1 rfl rfl (Nat.le_of_ble_eq_true rfl) ⟨Nat.zero_le _, Nat.zero_le _⟩ dX9_sayOwn_206 (fun H locs hP hD hS => ?_)
  exact w9_sayOwn_209 C hK hA k98 (fun _ _ _ _ _ h9 => ih98 _ _ _ _ _ h9) u_42 x1 x2 x3 x4 hf hP hD hS (lv_sub hl [0, 1, 2, 3, 4] rfl)
def f9_sayOwn_174 (k98 : Md → Int32 → Int32 → Int32 → Int32 → Option Md) (u : Md) (x1 : Int32) (x2 : Int32) (x3 : Int32) (x4 : Int32) (x5 : Int32) (x6 : Int64) : Option Md := (if x5 = (1 : Int32) then ((f9_sayLength u x6).bind fun u_40 => (f9_sayOwn_209 k98 u_40 x1 x2 x3 x4)) else (if 0 ≤ (lg_cmp x6 (0 : Int64)) then (f9_sayOwn_206 k98 u x1 x2 x3 x4 x6) else (f9_sayOwn_206 k98 u x1 x2 x3 x4 ((0 : Int64) - x6))))
set_option maxHeartbeats 4000000 in
set_option maxRecDepth 100000 in
theorem w9_sayOwn_174 {p : Program} {l : Launch} {e : Env} {s : State} {m : MethodId} {args : Array Value} {below : List Frame} {meth : Method} {c : Code} (C : Cx p s m args meth c cX9_sayOwn 8 ws9_sayOwn RX9 none) {D : va_G} {cI cJ cC : ClassId} {a : Nat → Nat} {A : Nat → Prop} (hK : va_K D vwCl (ty3 cI cJ cC) s) (hA : ∀ q : Nat, s.heap.size ≤ q → A q) {r : Md} (k98 : Md → Int32 → Int32 → Int32 → Int32 → Option Md) (ih98 : ∀ (u : Md) (x1 : Int32) (x2 : Int32) (x3 : Int32) (x4 : Int32), k98 u x1 x2 x3 x4 = some r → ∀ {H : Heap} {locs : List Loc}, va_P D vwCl (cM cI cJ a u) H → va_D A (cM cI cJ a u) → va_S A s.heap H locs → ∀ {ls : Array Slot}, lv_has ls 8 [(0, .ref (a 0)), (1, .int x1), (2, .int x2), (3, .int x3), (4, .int x4)] → W p l e rm9_sayOwn s m args below meth c H locs 0 0 (MQ below (qW none (cM cI cJ a r) D (ty3 cI cJ cC) A) args s 0 0 A) (F0 m 98 ls [])) : ∀ (u : Md) (x1 : Int32) (x2 : Int32) (x3 : Int32) (x4 : Int32) (x5 : Int32) (x6 : Int64), f9_sayOwn_174 k98 u x1 x2 x3 x4 x5 x6 = some r → ∀ {H : Heap} {locs : List Loc}, va_P D vwCl (cM cI cJ a u) H → va_D A (cM cI cJ a u) → va_S A s.heap H locs → ∀ {ls : Array Slot}, lv_has ls 8 [(0, .ref (a 0)), (1, .int x1), (2, .int x2), (3, .int x3), (4, .int x4), (5, .int x5), (6, .long x6)] → W p l e rm9_sayOwn s m args below meth c H locs 0 0 (MQ below (qW none (cM cI cJ a r) D (ty3 cI cJ cC) A) args s 0 0 A) (F0 m 174 ls []) := by
  have hx := C.1.1
  have hb := C.1.2.1
  have hts := C.1.2.2.2.2
  have hown := C.1.2.2.2.1
  have hin : ∀ w ∈ wsX90, w ∈ ws9_sayOwn := fun w h => List.mem_cons_of_mem _ (List.mem_append_right _ h)
  intro u x1 x2 x3 x4 x5 x6 hf H locs hP hD hS ls hl
  unfold f9_sayOwn_174 at hf
  refine lv_iload hx hb dX9_sayOwn_174 (lv_at hl 5 rfl) ?_
  refine lv_iconst (v := (1 : Int32)) hx hb dX9_sayOwn_176 (by decide) ?_
  refine lv_icmp_ne (tgt := 189) hx hb dX9_sayOwn_177 (by decide) (fun c_37 => ?_) (fun c_37 => ?_)
  · replace hf := og_f c_37 hf
    refine lv_aload_n hx hb dX9_sayOwn_189 rfl (lv_at hl 0 rfl) ?_
    refine lv_lload hx hb dX9_sayOwn_190 (lv_at hl 6 rfl) ?_
    refine lv_lconst (v := (0 : Int64)) hx hb dX9_sayOwn_192 (by decide) ?_
    refine W.lcmp hx hb dX9_sayOwn_193 ?_
    refine lv_if_ge (tgt := 204) hx hb dX9_sayOwn_194 (by decide) (fun c_38 => ?_) (fun c_38 => ?_)
    · replace hf := og_t c_38 hf
      refine lv_lload hx hb dX9_sayOwn_204 (lv_at hl 6 rfl) ?_
      exact w9_sayOwn_206 C hK hA k98 (fun _ _ _ _ _ h9 => ih98 _ _ _ _ _ h9) u x1 x2 x3 x4 x6 hf hP hD hS (lv_sub hl [0, 1, 2, 3, 4] rfl)
    · replace hf := og_f c_38 hf
      refine lv_lconst (v := (0 : Int64)) hx hb dX9_sayOwn_197 (by decide) ?_
      refine lv_lload hx hb dX9_sayOwn_198 (lv_at hl 6 rfl) ?_
      refine lv_lsub hx hb dX9_sayOwn_200 ?_
      refine lv_goto (tgt := 206) hx hb dX9_sayOwn_201 (by decide) ?_
      exact w9_sayOwn_206 C hK hA k98 (fun _ _ _ _ _ h9 => ih98 _ _ _ _ _ h9) u x1 x2 x3 x4 ((0 : Int64) - x6) hf hP hD hS (lv_sub hl [0, 1, 2, 3, 4] rfl)
  · replace hf := og_t c_37 hf
    refine lv_aload_n hx hb dX9_sayOwn_180 rfl (lv_at hl 0 rfl) ?_
    refine lv_lload hx hb dX9_sayOwn_181 (lv_at hl 6 rfl) ?_
    obtain ⟨u_40, h_39, hf⟩ := og_b hf
    try dsimp only at hf
    refine ck_w (ov := none) (st1 := []) (rest := []) C.1 (c9_sayLength l D cI cJ cC a u x6 u_40  _ h_39) (cwV 1 hts g9_sayLength rfl rfl rfl hd9_sayLength ⟨Nat.le_of_ble_eq_true rfl, Nat.le_of_ble_eq_true rfl⟩) hK hA hP hD hS (q0 := 0) (ci := 6) rfl rfl rfl rfl hl.1 rfl rfl (Nat.le_of_ble_eq_true rfl) ⟨Nat.zero_le _, Nat.zero_le _⟩ dX9_sayOwn_183 (fun H locs hP hD hS => ?_)
    refine lv_goto (tgt := 209) hx hb dX9_sayOwn_186 (by decide) ?_
    exact w9_sayOwn_209 C hK hA k98 (fun _ _ _ _ _ h9 => ih98 _ _ _ _ _ h9) u_40 x1 x2 x3 x4 hf hP hD hS (lv_sub hl [0, 1, 2, 3, 4] rfl)
def f9_sayOwn_98 : Nat → Md → Int32 → Int32 → Int32 → Int32 → Option Md
  | 0, _, _, _, _, _ => none
  | n + 1, u, x1, x2, x3, x4 => (if x1 < 0 ∨ 200 ≤ (x1).toNatClampNeg then none else ((f9_field ((ga u 5) (x1).toNatClampNeg) x4).bind fun r_23 => (if r_23 = 0 then (some u) else ((f9_say u (32 : Int32)).bind fun u_26 => (if x1 < 0 ∨ 200 ≤ (x1).toNatClampNeg then none else ((f9_field ((ga u_26 5) (x1).toNatClampNeg) x4).bind fun r_29 => (if r_29 = (3 : Int32) then ((f9_sayText u_26 x1 x3).bind fun u_36 => (f9_sayOwn_212 (f9_sayOwn_98 n) u_36 x1 x2 (x3 + (1 : Int32)) x4)) else (if (((5 : Int32) * x1) + x2) < 0 ∨ 1000 ≤ ((((5 : Int32) * x1) + x2)).toNatClampNeg then none else (if 0 ≤ (lg_cmp ((gn u_26) ((((5 : Int32) * x1) + x2)).toNatClampNeg) (0 : Int64)) then (f9_sayOwn_174 (f9_sayOwn_98 n) u_26 x1 x2 x3 x4 r_29 ((gn u_26) ((((5 : Int32) * x1) + x2)).toNatClampNeg)) else ((f9_say u_26 (45 : Int32)).bind fun u_34 => (f9_sayOwn_174 (f9_sayOwn_98 n) u_34 x1 x2 x3 x4 r_29 ((gn u_26) ((((5 : Int32) * x1) + x2)).toNatClampNeg))))))))))))
set_option maxHeartbeats 4000000 in
set_option maxRecDepth 100000 in
theorem w9_sayOwn_98 {p : Program} {l : Launch} {e : Env} {s : State} {m : MethodId} {args : Array Value} {below : List Frame} {meth : Method} {c : Code} (C : Cx p s m args meth c cX9_sayOwn 8 ws9_sayOwn RX9 none) {D : va_G} {cI cJ cC : ClassId} {a : Nat → Nat} {A : Nat → Prop} (hK : va_K D vwCl (ty3 cI cJ cC) s) (hA : ∀ q : Nat, s.heap.size ≤ q → A q) {r : Md} : ∀ (n : Nat), ∀ (u : Md) (x1 : Int32) (x2 : Int32) (x3 : Int32) (x4 : Int32), f9_sayOwn_98 n u x1 x2 x3 x4 = some r → ∀ {H : Heap} {locs : List Loc}, va_P D vwCl (cM cI cJ a u) H → va_D A (cM cI cJ a u) → va_S A s.heap H locs → ∀ {ls : Array Slot}, lv_has ls 8 [(0, .ref (a 0)), (1, .int x1), (2, .int x2), (3, .int x3), (4, .int x4)] → W p l e rm9_sayOwn s m args below meth c H locs 0 0 (MQ below (qW none (cM cI cJ a r) D (ty3 cI cJ cC) A) args s 0 0 A) (F0 m 98 ls []) := by
  have hx := C.1.1
  have hb := C.1.2.1
  have hts := C.1.2.2.2.2
  have hown := C.1.2.2.2.1
  have hin : ∀ w ∈ wsX90, w ∈ ws9_sayOwn := fun w h => List.mem_cons_of_mem _ (List.mem_append_right _ h)
  intro n
  induction n with
  | zero =>
    intro u x1 x2 x3 x4 hf H locs hP hD hS ls hl
    cases hf
  | succ n ih =>
    intro u x1 x2 x3 x4 hf H locs hP hD hS ls hl
    rw [f9_sayOwn_98] at hf
    refine lv_aload_n hx hb dX9_sayOwn_98 rfl (lv_at hl 0 rfl) ?_
    refine mg9 (v := .ref (a 5)) C hin hK hP 5 (by decide) (hts (Cond.fieldLink RX9 13 "SchematicTextModel" "kinds" "[I") (List.mem_cons_of_mem _ m9_6)) rfl dX9_sayOwn_99 ?_
    refine lv_iload_n hx hb dX9_sayOwn_102 rfl (lv_at hl 1 rfl) ?_
    obtain ⟨h_21, hf⟩ := og_n hf
    refine va_iald (f := (ga u 5)) hx hb hK hP 2 0 rfl rfl h_21 dX9_sayOwn_103 ?_
    refine lv_iload hx hb dX9_sayOwn_104 (lv_at hl 4 rfl) ?_
    obtain ⟨r_23, h_22, hf⟩ := og_b hf
    try dsimp only at hf
    refine ck_s (v := .int r_23) (rest := []) C.1 (c9_field l ((ga u 5) (x1).toNatClampNeg) x4 r_23 h_22) (va_cwS 2 hts g9_field rfl rfl rfl hd9_field ⟨Nat.le_of_ble_eq_true rfl, Nat.le_of_ble_eq_true rfl⟩) rfl hl.1 rfl (Nat.le_of_ble_eq_true rfl) ⟨Nat.zero_le _, Nat.zero_le _⟩ dX9_sayOwn_106 ?_
    refine lv_if_eq (tgt := 218) hx hb dX9_sayOwn_109 (by decide) (fun c_24 => ?_) (fun c_24 => ?_)
    · replace hf := og_t c_24 hf
      obtain rfl := og_s hf
      exact rw_v C hK hP hD hS dX9_sayOwn_218
    · replace hf := og_f c_24 hf
      refine lv_aload_n hx hb dX9_sayOwn_112 rfl (lv_at hl 0 rfl) ?_
      refine lv_bipush (v := (32 : Int32)) hx hb dX9_sayOwn_113 (by decide) ?_
      obtain ⟨u_26, h_25, hf⟩ := og_b hf
      try dsimp only at hf
      refine ck_w (ov := none) (st1 := []) (rest := []) C.1 (c9_say l D cI cJ cC a u (32 : Int32) u_26  _ h_25) (cwV 1 hts g9_say rfl rfl rfl hd9_say ⟨Nat.le_of_ble_eq_true rfl, Nat.le_of_ble_eq_true rfl⟩) hK hA hP hD hS (q0 := 0) (ci := 6) rfl rfl rfl rfl hl.1 rfl rfl (Nat.le_of_ble_eq_true rfl) ⟨Nat.zero_le _, Nat.zero_le _⟩ dX9_sayOwn_115 (fun H locs hP hD hS => ?_)
      refine lv_aload_n hx hb dX9_sayOwn_118 rfl (lv_at hl 0 rfl) ?_
      refine mg9 (v := .ref (a 5)) C hin hK hP 5 (by decide) (hts (Cond.fieldLink RX9 13 "SchematicTextModel" "kinds" "[I") (List.mem_cons_of_mem _ m9_6)) rfl dX9_sayOwn_119 ?_
      refine lv_iload_n hx hb dX9_sayOwn_122 rfl (lv_at hl 1 rfl) ?_
      obtain ⟨h_27, hf⟩ := og_n hf
      refine va_iald (f := (ga u_26 5)) hx hb hK hP 2 0 rfl rfl h_27 dX9_sayOwn_123 ?_
      refine lv_iload hx hb dX9_sayOwn_124 (lv_at hl 4 rfl) ?_
      obtain ⟨r_29, h_28, hf⟩ := og_b hf
      try dsimp only at hf
      refine ck_s (v := .int r_29) (rest := []) C.1 (c9_field l ((ga u_26 5) (x1).toNatClampNeg) x4 r_29 h_28) (va_cwS 2 hts g9_field rfl rfl rfl hd9_field ⟨Nat.le_of_ble_eq_true rfl, Nat.le_of_ble_eq_true rfl⟩) rfl hl.1 rfl (Nat.le_of_ble_eq_true rfl) ⟨Nat.zero_le _, Nat.zero_le _⟩ dX9_sayOwn_126 ?_
      refine lv_istore (lv' := [(5, .int r_29), (0, .ref (a 0)), (1, .int x1), (2, .int x2), (3, .int x3), (4, .int x4)]) hx hb dX9_sayOwn_129 hl (by decide) rfl (fun ls hl => ?_)
      refine lv_iload hx hb dX9_sayOwn_131 (lv_at hl 0 rfl) ?_
      refine lv_iconst (v := (3 : Int32)) hx hb dX9_sayOwn_133 (by decide) ?_
      refine lv_icmp_ne (tgt := 149) hx hb dX9_sayOwn_134 (by decide) (fun c_30 => ?_) (fun c_30 => ?_)
      · replace hf := og_f c_30 hf
        refine lv_aload_n hx hb dX9_sayOwn_149 rfl (lv_at hl 1 rfl) ?_
        refine mg9 (v := .ref (a 7)) C hin hK hP 7 (by decide) (hts (Cond.fieldLink RX9 19 "SchematicTextModel" "numbers" "[J") (List.mem_cons_of_mem _ m9_9)) rfl dX9_sayOwn_150 ?_
        refine lv_iconst (v := (5 : Int32)) hx hb dX9_sayOwn_153 (by decide) ?_
        refine lv_iload_n hx hb dX9_sayOwn_154 rfl (lv_at hl 2 rfl) ?_
        refine lv_imul hx hb dX9_sayOwn_155 ?_
        refine lv_iload_n hx hb dX9_sayOwn_156 rfl (lv_at hl 3 rfl) ?_
        refine lv_iadd hx hb dX9_sayOwn_157 ?_
        obtain ⟨h_31, hf⟩ := og_n hf
        refine va_lald (f := (gn u_26)) hx hb hK hP 4 1 rfl rfl h_31 dX9_sayOwn_158 ?_
        refine lv_lstore (lv' := [(6, .long ((gn u_26) ((((5 : Int32) * x1) + x2)).toNatClampNeg)), (5, .int r_29), (0, .ref (a 0)), (1, .int x1), (2, .int x2), (3, .int x3), (4, .int x4)]) hx hb dX9_sayOwn_159 hl (by decide) rfl (fun ls hl => ?_)
        refine lv_lload hx hb dX9_sayOwn_161 (lv_at hl 0 rfl) ?_
        refine lv_lconst (v := (0 : Int64)) hx hb dX9_sayOwn_163 (by decide) ?_
        refine W.lcmp hx hb dX9_sayOwn_164 ?_
        refine lv_if_ge (tgt := 174) hx hb dX9_sayOwn_165 (by decide) (fun c_32 => ?_) (fun c_32 => ?_)
        · replace hf := og_t c_32 hf
          exact w9_sayOwn_174 C hK hA (f9_sayOwn_98 n) (fun _ _ _ _ _ h9 => ih _ _ _ _ _ h9) u_26 x1 x2 x3 x4 r_29 ((gn u_26) ((((5 : Int32) * x1) + x2)).toNatClampNeg) hf hP hD hS (lv_sub hl [2, 3, 4, 5, 6, 1, 0] rfl)
        · replace hf := og_f c_32 hf
          refine lv_aload_n hx hb dX9_sayOwn_168 rfl (lv_at hl 2 rfl) ?_
          refine lv_bipush (v := (45 : Int32)) hx hb dX9_sayOwn_169 (by decide) ?_
          obtain ⟨u_34, h_33, hf⟩ := og_b hf
          try dsimp only at hf
          refine ck_w (ov := none) (st1 := []) (rest := []) C.1 (c9_say l D cI cJ cC a u_26 (45 : Int32) u_34  _ h_33) (cwV 1 hts g9_say rfl rfl rfl hd9_say ⟨Nat.le_of_ble_eq_true rfl, Nat.le_of_ble_eq_true rfl⟩) hK hA hP hD hS (q0 := 0) (ci := 6) rfl rfl rfl rfl hl.1 rfl rfl (Nat.le_of_ble_eq_true rfl) ⟨Nat.zero_le _, Nat.zero_le _⟩ dX9_sayOwn_171 (fun H locs hP hD hS => ?_)
          exact w9_sayOwn_174 C hK hA (f9_sayOwn_98 n) (fun _ _ _ _ _ h9 => ih _ _ _ _ _ h9) u_34 x1 x2 x3 x4 r_29 ((gn u_26) ((((5 : Int32) * x1) + x2)).toNatClampNeg) hf hP hD hS (lv_sub hl [2, 3, 4, 5, 6, 1, 0] rfl)
      · replace hf := og_t c_30 hf
        refine lv_aload_n hx hb dX9_sayOwn_137 rfl (lv_at hl 1 rfl) ?_
        refine lv_iload_n hx hb dX9_sayOwn_138 rfl (lv_at hl 2 rfl) ?_
        refine lv_iload_n hx hb dX9_sayOwn_139 rfl (lv_at hl 4 rfl) ?_
        obtain ⟨u_36, h_35, hf⟩ := og_b hf
        try dsimp only at hf
        refine ck_w (ov := none) (st1 := []) (rest := []) C.1 (c9_sayText l D cI cJ cC a u_26 x1 x3 u_36  _ h_35) (cwV 2 hts g9_sayText rfl rfl rfl hd9_sayText ⟨Nat.le_of_ble_eq_true rfl, Nat.le_of_ble_eq_true rfl⟩) hK hA hP hD hS (q0 := 0) (ci := 6) rfl rfl rfl rfl hl.1 rfl rfl (Nat.le_of_ble_eq_true rfl) ⟨Nat.zero_le _, Nat.zero_le _⟩ dX9_sayOwn_140 (fun H locs hP hD hS => ?_)
        refine lv_iinc (v := (x3 + (1 : Int32))) (lv' := [(3, .int (x3 + (1 : Int32))), (5, .int r_29), (0, .ref (a 0)), (1, .int x1), (2, .int x2), (4, .int x4)]) hx hb dX9_sayOwn_143 hl (k := 4) rfl rfl (by decide) rfl (fun ls hl => ?_)
        refine lv_goto (tgt := 212) hx hb dX9_sayOwn_146 (by decide) ?_
        exact w9_sayOwn_212 C hK hA (f9_sayOwn_98 n) (fun _ _ _ _ _ h9 => ih _ _ _ _ _ h9) u_36 x1 x2 (x3 + (1 : Int32)) x4 hf hP hD hS (lv_sub hl [2, 3, 4, 0, 5] rfl)
def f9_sayOwn_91 (u : Md) (x1 : Int32) : Option Md := (f9_sayOwn_98 FU u x1 (0 : Int32) (0 : Int32) (0 : Int32))
set_option maxHeartbeats 4000000 in
set_option maxRecDepth 100000 in
theorem w9_sayOwn_91 {p : Program} {l : Launch} {e : Env} {s : State} {m : MethodId} {args : Array Value} {below : List Frame} {meth : Method} {c : Code} (C : Cx p s m args meth c cX9_sayOwn 8 ws9_sayOwn RX9 none) {D : va_G} {cI cJ cC : ClassId} {a : Nat → Nat} {A : Nat → Prop} (hK : va_K D vwCl (ty3 cI cJ cC) s) (hA : ∀ q : Nat, s.heap.size ≤ q → A q) {r : Md} : ∀ (u : Md) (x1 : Int32), f9_sayOwn_91 u x1 = some r → ∀ {H : Heap} {locs : List Loc}, va_P D vwCl (cM cI cJ a u) H → va_D A (cM cI cJ a u) → va_S A s.heap H locs → ∀ {ls : Array Slot}, lv_has ls 8 [(0, .ref (a 0)), (1, .int x1)] → W p l e rm9_sayOwn s m args below meth c H locs 0 0 (MQ below (qW none (cM cI cJ a r) D (ty3 cI cJ cC) A) args s 0 0 A) (F0 m 91 ls []) := by
  have hx := C.1.1
  have hb := C.1.2.1
  have hts := C.1.2.2.2.2
  have hown := C.1.2.2.2.1
  have hin : ∀ w ∈ wsX90, w ∈ ws9_sayOwn := fun w h => List.mem_cons_of_mem _ (List.mem_append_right _ h)
  intro u x1 hf H locs hP hD hS ls hl
  unfold f9_sayOwn_91 at hf
  refine lv_iconst (v := (0 : Int32)) hx hb dX9_sayOwn_91 (by decide) ?_
  refine lv_istore_n (lv' := [(2, .int (0 : Int32)), (0, .ref (a 0)), (1, .int x1)]) hx hb dX9_sayOwn_92 rfl hl (by decide) rfl (fun ls hl => ?_)
  refine lv_iconst (v := (0 : Int32)) hx hb dX9_sayOwn_93 (by decide) ?_
  refine lv_istore_n (lv' := [(3, .int (0 : Int32)), (2, .int (0 : Int32)), (0, .ref (a 0)), (1, .int x1)]) hx hb dX9_sayOwn_94 rfl hl (by decide) rfl (fun ls hl => ?_)
  refine lv_iconst (v := (0 : Int32)) hx hb dX9_sayOwn_95 (by decide) ?_
  refine lv_istore (lv' := [(4, .int (0 : Int32)), (3, .int (0 : Int32)), (2, .int (0 : Int32)), (0, .ref (a 0)), (1, .int x1)]) hx hb dX9_sayOwn_96 hl (by decide) rfl (fun ls hl => ?_)
  exact w9_sayOwn_98 C hK hA FU u x1 (0 : Int32) (0 : Int32) (0 : Int32) hf hP hD hS (lv_sub hl [3, 4, 2, 1, 0] rfl)
def f9_sayOwn_60 (u : Md) (x1 : Int32) : Option Md := (if x1 < 0 ∨ 200 ≤ (x1).toNatClampNeg then none else ((f9_sayName u ((ga u 5) (x1).toNatClampNeg)).bind fun u_8 => (if x1 < 0 ∨ 200 ≤ (x1).toNatClampNeg then none else (if ((ga u_8 5) (x1).toNatClampNeg) = 0 then ((f9_say u_8 (32 : Int32)).bind fun u_12 => ((f9_say u_12 (51 : Int32)).bind fun u_14 => (f9_sayOwn_91 u_14 x1))) else (f9_sayOwn_91 u_8 x1)))))
set_option maxHeartbeats 4000000 in
set_option maxRecDepth 100000 in
theorem w9_sayOwn_60 {p : Program} {l : Launch} {e : Env} {s : State} {m : MethodId} {args : Array Value} {below : List Frame} {meth : Method} {c : Code} (C : Cx p s m args meth c cX9_sayOwn 8 ws9_sayOwn RX9 none) {D : va_G} {cI cJ cC : ClassId} {a : Nat → Nat} {A : Nat → Prop} (hK : va_K D vwCl (ty3 cI cJ cC) s) (hA : ∀ q : Nat, s.heap.size ≤ q → A q) {r : Md} : ∀ (u : Md) (x1 : Int32), f9_sayOwn_60 u x1 = some r → ∀ {H : Heap} {locs : List Loc}, va_P D vwCl (cM cI cJ a u) H → va_D A (cM cI cJ a u) → va_S A s.heap H locs → ∀ {ls : Array Slot}, lv_has ls 8 [(0, .ref (a 0)), (1, .int x1)] → W p l e rm9_sayOwn s m args below meth c H locs 0 0 (MQ below (qW none (cM cI cJ a r) D (ty3 cI cJ cC) A) args s 0 0 A) (F0 m 60 ls []) := by
  have hx := C.1.1
  have hb := C.1.2.1
  have hts := C.1.2.2.2.2
  have hown := C.1.2.2.2.1
  have hin : ∀ w ∈ wsX90, w ∈ ws9_sayOwn := fun w h => List.mem_cons_of_mem _ (List.mem_append_right _ h)
  intro u x1 hf H locs hP hD hS ls hl
  unfold f9_sayOwn_60 at hf
  refine lv_aload_n hx hb dX9_sayOwn_60 rfl (lv_at hl 0 rfl) ?_
  refine lv_aload_n hx hb dX9_sayOwn_61 rfl (lv_at hl 0 rfl) ?_
  refine mg9 (v := .ref (a 5)) C hin hK hP 5 (by decide) (hts (Cond.fieldLink RX9 13 "SchematicTextModel" "kinds" "[I") (List.mem_cons_of_mem _ m9_6)) rfl dX9_sayOwn_62 ?_
  refine lv_iload_n hx hb dX9_sayOwn_65 rfl (lv_at hl 1 rfl) ?_
  obtain ⟨h_6, hf⟩ := og_n hf
  refine va_iald (f := (ga u 5)) hx hb hK hP 2 0 rfl rfl h_6 dX9_sayOwn_66 ?_
  obtain ⟨u_8, h_7, hf⟩ := og_b hf
  try dsimp only at hf
  refine ck_w (ov := none) (st1 := []) (rest := []) C.1 (c9_sayName l D cI cJ cC a u ((ga u 5) (x1).toNatClampNeg) u_8  _ h_7) (cwV 1 hts g9_sayName rfl rfl rfl hd9_sayName ⟨Nat.le_of_ble_eq_true rfl, Nat.le_of_ble_eq_true rfl⟩) hK hA hP hD hS (q0 := 0) (ci := 6) rfl rfl rfl rfl hl.1 rfl rfl (Nat.le_of_ble_eq_true rfl) ⟨Nat.zero_le _, Nat.zero_le _⟩ dX9_sayOwn_67 (fun H locs hP hD hS => ?_)
  refine lv_aload_n hx hb dX9_sayOwn_70 rfl (lv_at hl 0 rfl) ?_
  refine mg9 (v := .ref (a 5)) C hin hK hP 5 (by decide) (hts (Cond.fieldLink RX9 13 "SchematicTextModel" "kinds" "[I") (List.mem_cons_of_mem _ m9_6)) rfl dX9_sayOwn_71 ?_
  refine lv_iload_n hx hb dX9_sayOwn_74 rfl (lv_at hl 1 rfl) ?_
  obtain ⟨h_9, hf⟩ := og_n hf
  refine va_iald (f := (ga u_8 5)) hx hb hK hP 2 0 rfl rfl h_9 dX9_sayOwn_75 ?_
  refine lv_if_ne (tgt := 91) hx hb dX9_sayOwn_76 (by decide) (fun c_10 => ?_) (fun c_10 => ?_)
  · replace hf := og_f c_10 hf
    exact w9_sayOwn_91 C hK hA u_8 x1 hf hP hD hS (lv_sub hl [0, 1] rfl)
  · replace hf := og_t c_10 hf
    refine lv_aload_n hx hb dX9_sayOwn_79 rfl (lv_at hl 0 rfl) ?_
    refine lv_bipush (v := (32 : Int32)) hx hb dX9_sayOwn_80 (by decide) ?_
    obtain ⟨u_12, h_11, hf⟩ := og_b hf
    try dsimp only at hf
    refine ck_w (ov := none) (st1 := []) (rest := []) C.1 (c9_say l D cI cJ cC a u_8 (32 : Int32) u_12  _ h_11) (cwV 1 hts g9_say rfl rfl rfl hd9_say ⟨Nat.le_of_ble_eq_true rfl, Nat.le_of_ble_eq_true rfl⟩) hK hA hP hD hS (q0 := 0) (ci := 6) rfl rfl rfl rfl hl.1 rfl rfl (Nat.le_of_ble_eq_true rfl) ⟨Nat.zero_le _, Nat.zero_le _⟩ dX9_sayOwn_82 (fun H locs hP hD hS => ?_)
    refine lv_aload_n hx hb dX9_sayOwn_85 rfl (lv_at hl 0 rfl) ?_
    refine lv_bipush (v := (51 : Int32)) hx hb dX9_sayOwn_86 (by decide) ?_
    obtain ⟨u_14, h_13, hf⟩ := og_b hf
    try dsimp only at hf
    refine ck_w (ov := none) (st1 := []) (rest := []) C.1 (c9_say l D cI cJ cC a u_12 (51 : Int32) u_14  _ h_13) (cwV 1 hts g9_say rfl rfl rfl hd9_say ⟨Nat.le_of_ble_eq_true rfl, Nat.le_of_ble_eq_true rfl⟩) hK hA hP hD hS (q0 := 0) (ci := 6) rfl rfl rfl rfl hl.1 rfl rfl (Nat.le_of_ble_eq_true rfl) ⟨Nat.zero_le _, Nat.zero_le _⟩ dX9_sayOwn_88 (fun H locs hP hD hS => ?_)
    exact w9_sayOwn_91 C hK hA u_14 x1 hf hP hD hS (lv_sub hl [0, 1] rfl)
def f9_sayOwn (u : Md) (x1 : Int32) : Option Md := (if x1 < 0 ∨ 200 ≤ (x1).toNatClampNeg then none else (if ((ga u 5) (x1).toNatClampNeg) = (9 : Int32) then (f9_sayOwn_13 FU u x1 (0 : Int32)) else (if (gi u 1) = 0 then ((f9_say u (40 : Int32)).bind fun u_5 => (f9_sayOwn_60 u_5 x1)) else (f9_sayOwn_60 u x1))))
set_option maxHeartbeats 4000000 in
set_option maxRecDepth 100000 in
theorem c9_sayOwn (l : Launch) (D : va_G) (cI cJ cC : ClassId) (a : Nat → Nat) (u : Md) (x1 : Int32) (v : Md) (sz : Nat) (hf : f9_sayOwn u x1 = some v) : Met l yX9_sayOwn ws9_sayOwn rm9_sayOwn (pW D (ty3 cI cJ cC) (cM cI cJ a u) sz [.ref (a 0), .int x1]) (qW none (cM cI cJ a v) D (ty3 cI cJ cC) (va_A (cM cI cJ a u) sz)) 0 0 (va_A (cM cI cJ a u) sz) := by
  refine mt_w (cc := cX9_sayOwn) (maxL := 8) (ret := none) (by decide) rfl (Nat.le_of_ble_eq_true rfl) ?_
  intro p e s m below meth c ls A C hl hK hA hP hD hS
  have hl : lv_has ls 8 [(0, .ref (a 0)), (1, .int x1)] := hl
  have hx := C.1.1
  have hb := C.1.2.1
  have hts := C.1.2.2.2.2
  have hown := C.1.2.2.2.1
  have hin : ∀ w ∈ wsX90, w ∈ ws9_sayOwn := fun w h => List.mem_cons_of_mem _ (List.mem_append_right _ h)
  unfold f9_sayOwn at hf
  refine lv_aload_n hx hb dX9_sayOwn_0 rfl (lv_at hl 0 rfl) ?_
  refine mg9 (v := .ref (a 5)) C hin hK hP 5 (by decide) (hts (Cond.fieldLink RX9 13 "SchematicTextModel" "kinds" "[I") (List.mem_cons_of_mem _ m9_6)) rfl dX9_sayOwn_1 ?_
  refine lv_iload_n hx hb dX9_sayOwn_4 rfl (lv_at hl 1 rfl) ?_
  obtain ⟨h_1, hf⟩ := og_n hf
  refine va_iald (f := (ga u 5)) hx hb hK hP 2 0 rfl rfl h_1 dX9_sayOwn_5 ?_
  refine lv_bipush (v := (9 : Int32)) hx hb dX9_sayOwn_6 (by decide) ?_
  refine lv_icmp_ne (tgt := 47) hx hb dX9_sayOwn_8 (by decide) (fun c_2 => ?_) (fun c_2 => ?_)
  · replace hf := og_f c_2 hf
    refine lv_aload_n hx hb dX9_sayOwn_47 rfl (lv_at hl 0 rfl) ?_
    refine mg9 (v := .int (gi u 1)) C hin hK hP 1 (by decide) (hts (Cond.fieldLink RX9 56 "SchematicTextModel" "form" "I") (List.mem_cons_of_mem _ m9_21)) rfl dX9_sayOwn_48 ?_
    refine lv_if_ne (tgt := 60) hx hb dX9_sayOwn_51 (by decide) (fun c_3 => ?_) (fun c_3 => ?_)
    · replace hf := og_f c_3 hf
      exact w9_sayOwn_60 C hK hA u x1 hf hP hD hS (lv_sub hl [0, 1] rfl)
    · replace hf := og_t c_3 hf
      refine lv_aload_n hx hb dX9_sayOwn_54 rfl (lv_at hl 0 rfl) ?_
      refine lv_bipush (v := (40 : Int32)) hx hb dX9_sayOwn_55 (by decide) ?_
      obtain ⟨u_5, h_4, hf⟩ := og_b hf
      try dsimp only at hf
      refine ck_w (ov := none) (st1 := []) (rest := []) C.1 (c9_say l D cI cJ cC a u (40 : Int32) u_5  _ h_4) (cwV 1 hts g9_say rfl rfl rfl hd9_say ⟨Nat.le_of_ble_eq_true rfl, Nat.le_of_ble_eq_true rfl⟩) hK hA hP hD hS (q0 := 0) (ci := 6) rfl rfl rfl rfl hl.1 rfl rfl (Nat.le_of_ble_eq_true rfl) ⟨Nat.zero_le _, Nat.zero_le _⟩ dX9_sayOwn_57 (fun H locs hP hD hS => ?_)
      exact w9_sayOwn_60 C hK hA u_5 x1 hf hP hD hS (lv_sub hl [0, 1] rfl)
  · replace hf := og_t c_2 hf
    refine lv_iconst (v := (0 : Int32)) hx hb dX9_sayOwn_11 (by decide) ?_
    refine lv_istore_n (lv' := [(2, .int (0 : Int32)), (0, .ref (a 0)), (1, .int x1)]) hx hb dX9_sayOwn_12 rfl hl (by decide) rfl (fun ls hl => ?_)
    exact w9_sayOwn_13 C hK hA FU u x1 (0 : Int32) hf hP hD hS (lv_sub hl [1, 2, 0] rfl)
abbrev rm9_childFrom : Room := { frames := 0, cells := 0, slots := 0, locals := 0 }
noncomputable abbrev ws9_childFrom : List Cond := Cond.code yX9_childFrom cX9_childFrom 4 (some .int) :: WA9
theorem g9_childFrom {c0 : Cond} : GoodIn (c0 :: WA9) (wsV RX9 289 RX9 yX9_childFrom ws9_childFrom) := gd9_v m9_242 m9_243 m9_244 m9_29 m9_236
theorem hd9_childFrom : yX9_childFrom.cls = RX9 ∧ yX9_childFrom.cls ≠ "java/lang/invoke/MethodHandle" ∧ yX9_childFrom.cls ≠ "java/lang/invoke/VarHandle" ∧ (parseMethodDescriptor yX9_childFrom.desc).map (fun d => d.parameters.length) = some 2 := by decide +kernel
def f9_childFrom_2 (u : Md) : Nat → Int32 → Int32 → Option Int32
  | 0, _, _ => none
  | n + 1, x1, x3 => (if (gi u 4) ≤ x3 then (some (-1 : Int32)) else (if x3 < 0 ∨ 200 ≤ (x3).toNatClampNeg then none else (if ((ga u 6) (x3).toNatClampNeg) = x1 then (some x3) else (f9_childFrom_2 u n x1 (x3 + (1 : Int32))))))
set_option maxHeartbeats 4000000 in
set_option maxRecDepth 100000 in
theorem w9_childFrom_2 {p : Program} {l : Launch} {e : Env} {s : State} {m : MethodId} {args : Array Value} {below : List Frame} {meth : Method} {c : Code} (C : Cx p s m args meth c cX9_childFrom 4 ws9_childFrom RX9 (some .int)) {D : va_G} {cI cJ cC : ClassId} {a : Nat → Nat} {u : Md} (hK : va_K D vwCl (ty3 cI cJ cC) s) (hP : va_P D vwCl (cM cI cJ a u) s.heap) (hD : va_D (fun _ => True) (cM cI cJ a u)) {r : Int32} : ∀ (n : Nat), ∀ (x1 : Int32) (x3 : Int32), f9_childFrom_2 u n x1 x3 = some r → ∀ {ls : Array Slot}, lv_has ls 4 [(0, .ref (a 0)), (1, .int x1), (3, .int x3)] → W p l e rm9_childFrom s m args below meth c s.heap [] 0 0 (MQ below (k2_QcV (.int r)) args s 0 0 (fun _ => False)) (F0 m 2 ls []) := by
  have hx := C.1.1
  have hb := C.1.2.1
  have hts := C.1.2.2.2.2
  have hown := C.1.2.2.2.1
  have hin : ∀ w ∈ wsX90, w ∈ ws9_childFrom := fun w h => List.mem_cons_of_mem _ (List.mem_append_right _ h)
  intro n
  induction n with
  | zero =>
    intro x1 x3 hf ls hl
    cases hf
  | succ n ih =>
    intro x1 x3 hf ls hl
    rw [f9_childFrom_2] at hf
    refine lv_iload_n hx hb dX9_childFrom_2 rfl (lv_at hl 2 rfl) ?_
    refine lv_aload_n hx hb dX9_childFrom_3 rfl (lv_at hl 0 rfl) ?_
    refine mg9 (v := .int (gi u 4)) C hin hK hP 4 (by decide) (hts (Cond.fieldLink RX9 241 "SchematicTextModel" "objects" "I") (List.mem_cons_of_mem _ m9_183)) rfl dX9_childFrom_4 ?_
    refine lv_icmp_ge (tgt := 28) hx hb dX9_childFrom_7 (by decide) (fun c_1 => ?_) (fun c_1 => ?_)
    · replace hf := og_t c_1 hf
      refine lv_iconst (v := (-1 : Int32)) hx hb dX9_childFrom_28 (by decide) ?_
      obtain rfl := og_s hf
      exact rt_i C dX9_childFrom_29
    · replace hf := og_f c_1 hf
      refine lv_aload_n hx hb dX9_childFrom_10 rfl (lv_at hl 0 rfl) ?_
      refine mg9 (v := .ref (a 6)) C hin hK hP 6 (by decide) (hts (Cond.fieldLink RX9 16 "SchematicTextModel" "parents" "[I") (List.mem_cons_of_mem _ m9_7)) rfl dX9_childFrom_11 ?_
      refine lv_iload_n hx hb dX9_childFrom_14 rfl (lv_at hl 2 rfl) ?_
      obtain ⟨h_2, hf⟩ := og_n hf
      refine va_iald (f := (ga u 6)) hx hb hK hP 3 0 rfl rfl h_2 dX9_childFrom_15 ?_
      refine lv_iload_n hx hb dX9_childFrom_16 rfl (lv_at hl 1 rfl) ?_
      refine lv_icmp_ne (tgt := 22) hx hb dX9_childFrom_17 (by decide) (fun c_3 => ?_) (fun c_3 => ?_)
      · replace hf := og_f c_3 hf
        refine lv_iinc (v := (x3 + (1 : Int32))) (lv' := [(3, .int (x3 + (1 : Int32))), (0, .ref (a 0)), (1, .int x1)]) hx hb dX9_childFrom_22 hl (k := 2) rfl rfl (by decide) rfl (fun ls hl => ?_)
        refine lv_goto (tgt := 2) hx hb dX9_childFrom_25 (by decide) ?_
        exact ih x1 (x3 + (1 : Int32)) hf (lv_sub hl [1, 2, 0] rfl)
      · replace hf := og_t c_3 hf
        refine lv_iload_n hx hb dX9_childFrom_20 rfl (lv_at hl 2 rfl) ?_
        obtain rfl := og_s hf
        exact rt_i C dX9_childFrom_21
def f9_childFrom (u : Md) (x1 : Int32) (x2 : Int32) : Option Int32 := (f9_childFrom_2 u FU x1 x2)
set_option maxHeartbeats 4000000 in
set_option maxRecDepth 100000 in
theorem c9_childFrom (l : Launch) (D : va_G) (cI cJ cC : ClassId) (a : Nat → Nat) (u : Md) (x1 : Int32) (x2 : Int32) (r : Int32) (sz : Nat) (hf : f9_childFrom u x1 x2 = some r) : Met l yX9_childFrom ws9_childFrom rm9_childFrom (pW D (ty3 cI cJ cC) (cM cI cJ a u) sz [.ref (a 0), .int x1, .int x2]) (k2_QcV (.int r)) 0 0 (fun _ => False) := by
  refine mt_r (cc := cX9_childFrom) (maxL := 4) (ret := (some .int)) (by decide) rfl (Nat.le_of_ble_eq_true rfl) ?_
  intro p e s m below meth c ls C hl hK hP hD
  have hl : lv_has ls 4 [(0, .ref (a 0)), (1, .int x1), (2, .int x2)] := hl
  have hx := C.1.1
  have hb := C.1.2.1
  have hts := C.1.2.2.2.2
  have hown := C.1.2.2.2.1
  have hin : ∀ w ∈ wsX90, w ∈ ws9_childFrom := fun w h => List.mem_cons_of_mem _ (List.mem_append_right _ h)
  unfold f9_childFrom at hf
  refine lv_iload_n hx hb dX9_childFrom_0 rfl (lv_at hl 2 rfl) ?_
  refine lv_istore_n (lv' := [(3, .int x2), (0, .ref (a 0)), (1, .int x1), (2, .int x2)]) hx hb dX9_childFrom_1 rfl hl (by decide) rfl (fun ls hl => ?_)
  exact w9_childFrom_2 C hK hP hD FU x1 x2 hf (lv_sub hl [1, 2, 0] rfl)
abbrev rm9_sayAhead : Room := { frames := 1, cells := 0, slots := 0, locals := 21 }
noncomputable abbrev ws9_sayAhead : List Cond := Cond.code yX9_sayAhead cX9_sayAhead 3 none :: WA9
theorem g9_sayAhead {c0 : Cond} : GoodIn (c0 :: WA9) (wsV RX9 292 RX9 yX9_sayAhead ws9_sayAhead) := gd9_v m9_245 m9_246 m9_247 m9_29 m9_237
theorem hd9_sayAhead : yX9_sayAhead.cls = RX9 ∧ yX9_sayAhead.cls ≠ "java/lang/invoke/MethodHandle" ∧ yX9_sayAhead.cls ≠ "java/lang/invoke/VarHandle" ∧ (parseMethodDescriptor yX9_sayAhead.desc).map (fun d => d.parameters.length) = some 1 := by decide +kernel
def f9_sayAhead_22 (k2 : Md → Int32 → Int32 → Option Md) (u : Md) (x1 : Int32) (x2 : Int32) (y0 : Int32) : Option Md := ((f9_say u y0).bind fun u_4 => (k2 u_4 x1 (x2 + (1 : Int32))))
set_option maxHeartbeats 4000000 in
set_option maxRecDepth 100000 in
theorem w9_sayAhead_22 {p : Program} {l : Launch} {e : Env} {s : State} {m : MethodId} {args : Array Value} {below : List Frame} {meth : Method} {c : Code} (C : Cx p s m args meth c cX9_sayAhead 3 ws9_sayAhead RX9 none) {D : va_G} {cI cJ cC : ClassId} {a : Nat → Nat} {A : Nat → Prop} (hK : va_K D vwCl (ty3 cI cJ cC) s) (hA : ∀ q : Nat, s.heap.size ≤ q → A q) {r : Md} (k2 : Md → Int32 → Int32 → Option Md) (ih2 : ∀ (u : Md) (x1 : Int32) (x2 : Int32), k2 u x1 x2 = some r → ∀ {H : Heap} {locs : List Loc}, va_P D vwCl (cM cI cJ a u) H → va_D A (cM cI cJ a u) → va_S A s.heap H locs → ∀ {ls : Array Slot}, lv_has ls 3 [(0, .ref (a 0)), (1, .int x1), (2, .int x2)] → W p l e rm9_sayAhead s m args below meth c H locs 0 0 (MQ below (qW none (cM cI cJ a r) D (ty3 cI cJ cC) A) args s 0 0 A) (F0 m 2 ls [])) : ∀ (u : Md) (x1 : Int32) (x2 : Int32) (y0 : Int32), f9_sayAhead_22 k2 u x1 x2 y0 = some r → ∀ {H : Heap} {locs : List Loc}, va_P D vwCl (cM cI cJ a u) H → va_D A (cM cI cJ a u) → va_S A s.heap H locs → ∀ {ls : Array Slot}, lv_has ls 3 [(0, .ref (a 0)), (1, .int x1), (2, .int x2)] → W p l e rm9_sayAhead s m args below meth c H locs 0 0 (MQ below (qW none (cM cI cJ a r) D (ty3 cI cJ cC) A) args s 0 0 A) (F0 m 22 ls [.int y0, .ref (a 0)]) := by
  have hx := C.1.1
  have hb := C.1.2.1
  have hts := C.1.2.2.2.2
  have hown := C.1.2.2.2.1
  have hin : ∀ w ∈ wsX90, w ∈ ws9_sayAhead := fun w h => List.mem_cons_of_mem _ (List.mem_append_right _ h)
  intro u x1 x2 y0 hf H locs hP hD hS ls hl
  unfold f9_sayAhead_22 at hf
  obtain ⟨u_4, h_3, hf⟩ := og_b hf
  try dsimp only at hf
  refine ck_w (ov := none) (st1 := []) (rest := []) C.1 (c9_say l D cI cJ cC a u y0 u_4  _ h_3) (cwV 1 hts g9_say rfl rfl rfl hd9_say ⟨Nat.le_of_ble_eq_true rfl, Nat.le_of_ble_eq_true rfl⟩) hK hA hP hD hS (q0 := 0) (ci := 6) rfl rfl rfl rfl hl.1 rfl rfl (Nat.le_of_ble_eq_true rfl) ⟨Nat.zero_le _, Nat.zero_le _⟩ dX9_sayAhead_22 (fun H locs hP hD hS => ?_)
  refine lv_iinc (v := (x2 + (1 : Int32))) (lv' := [(2, .int (x2 + (1 : Int32))), (0, .ref (a 0)), (1, .int x1)]) hx hb dX9_sayAhead_25 hl (k := 2) rfl rfl (by decide) rfl (fun ls hl => ?_)
  refine lv_goto (tgt := 2) hx hb dX9_sayAhead_28 (by decide) ?_
  exact ih2 u_4 x1 (x2 + (1 : Int32)) hf hP hD hS (lv_sub hl [1, 2, 0] rfl)
def f9_sayAhead_2 : Nat → Md → Int32 → Int32 → Option Md
  | 0, _, _, _ => none
  | n + 1, u, x1, x2 => (if x1 ≤ x2 then (some u) else (if (gi u 1) = 0 then (f9_sayAhead_22 (f9_sayAhead_2 n) u x1 x2 (32 : Int32)) else (f9_sayAhead_22 (f9_sayAhead_2 n) u x1 x2 (46 : Int32))))
set_option maxHeartbeats 4000000 in
set_option maxRecDepth 100000 in
theorem w9_sayAhead_2 {p : Program} {l : Launch} {e : Env} {s : State} {m : MethodId} {args : Array Value} {below : List Frame} {meth : Method} {c : Code} (C : Cx p s m args meth c cX9_sayAhead 3 ws9_sayAhead RX9 none) {D : va_G} {cI cJ cC : ClassId} {a : Nat → Nat} {A : Nat → Prop} (hK : va_K D vwCl (ty3 cI cJ cC) s) (hA : ∀ q : Nat, s.heap.size ≤ q → A q) {r : Md} : ∀ (n : Nat), ∀ (u : Md) (x1 : Int32) (x2 : Int32), f9_sayAhead_2 n u x1 x2 = some r → ∀ {H : Heap} {locs : List Loc}, va_P D vwCl (cM cI cJ a u) H → va_D A (cM cI cJ a u) → va_S A s.heap H locs → ∀ {ls : Array Slot}, lv_has ls 3 [(0, .ref (a 0)), (1, .int x1), (2, .int x2)] → W p l e rm9_sayAhead s m args below meth c H locs 0 0 (MQ below (qW none (cM cI cJ a r) D (ty3 cI cJ cC) A) args s 0 0 A) (F0 m 2 ls []) := by
  have hx := C.1.1
  have hb := C.1.2.1
  have hts := C.1.2.2.2.2
  have hown := C.1.2.2.2.1
  have hin : ∀ w ∈ wsX90, w ∈ ws9_sayAhead := fun w h => List.mem_cons_of_mem _ (List.mem_append_right _ h)
  intro n
  induction n with
  | zero =>
    intro u x1 x2 hf H locs hP hD hS ls hl
    cases hf
  | succ n ih =>
    intro u x1 x2 hf H locs hP hD hS ls hl
    rw [f9_sayAhead_2] at hf
    refine lv_iload_n hx hb dX9_sayAhead_2 rfl (lv_at hl 2 rfl) ?_
    refine lv_iload_n hx hb dX9_sayAhead_3 rfl (lv_at hl 1 rfl) ?_
    refine lv_icmp_ge (tgt := 31) hx hb dX9_sayAhead_4 (by decide) (fun c_1 => ?_) (fun c_1 => ?_)
    · replace hf := og_t c_1 hf
      obtain rfl := og_s hf
      exact rw_v C hK hP hD hS dX9_sayAhead_31
    · replace hf := og_f c_1 hf
      refine lv_aload_n hx hb dX9_sayAhead_7 rfl (lv_at hl 0 rfl) ?_
      refine lv_aload_n hx hb dX9_sayAhead_8 rfl (lv_at hl 0 rfl) ?_
      refine mg9 (v := .int (gi u 1)) C hin hK hP 1 (by decide) (hts (Cond.fieldLink RX9 56 "SchematicTextModel" "form" "I") (List.mem_cons_of_mem _ m9_21)) rfl dX9_sayAhead_9 ?_
      refine lv_if_ne (tgt := 20) hx hb dX9_sayAhead_12 (by decide) (fun c_2 => ?_) (fun c_2 => ?_)
      · replace hf := og_f c_2 hf
        refine lv_bipush (v := (46 : Int32)) hx hb dX9_sayAhead_20 (by decide) ?_
        exact w9_sayAhead_22 C hK hA (f9_sayAhead_2 n) (fun _ _ _ h9 => ih _ _ _ h9) u x1 x2 (46 : Int32) hf hP hD hS (lv_sub hl [0, 1, 2] rfl)
      · replace hf := og_t c_2 hf
        refine lv_bipush (v := (32 : Int32)) hx hb dX9_sayAhead_15 (by decide) ?_
        refine lv_goto (tgt := 22) hx hb dX9_sayAhead_17 (by decide) ?_
        exact w9_sayAhead_22 C hK hA (f9_sayAhead_2 n) (fun _ _ _ h9 => ih _ _ _ h9) u x1 x2 (32 : Int32) hf hP hD hS (lv_sub hl [0, 1, 2] rfl)
def f9_sayAhead (u : Md) (x1 : Int32) : Option Md := (f9_sayAhead_2 FU u x1 (0 : Int32))
set_option maxHeartbeats 4000000 in
set_option maxRecDepth 100000 in
theorem c9_sayAhead (l : Launch) (D : va_G) (cI cJ cC : ClassId) (a : Nat → Nat) (u : Md) (x1 : Int32) (v : Md) (sz : Nat) (hf : f9_sayAhead u x1 = some v) : Met l yX9_sayAhead ws9_sayAhead rm9_sayAhead (pW D (ty3 cI cJ cC) (cM cI cJ a u) sz [.ref (a 0), .int x1]) (qW none (cM cI cJ a v) D (ty3 cI cJ cC) (va_A (cM cI cJ a u) sz)) 0 0 (va_A (cM cI cJ a u) sz) := by
  refine mt_w (cc := cX9_sayAhead) (maxL := 3) (ret := none) (by decide) rfl (Nat.le_of_ble_eq_true rfl) ?_
  intro p e s m below meth c ls A C hl hK hA hP hD hS
  have hl : lv_has ls 3 [(0, .ref (a 0)), (1, .int x1)] := hl
  have hx := C.1.1
  have hb := C.1.2.1
  have hts := C.1.2.2.2.2
  have hown := C.1.2.2.2.1
  have hin : ∀ w ∈ wsX90, w ∈ ws9_sayAhead := fun w h => List.mem_cons_of_mem _ (List.mem_append_right _ h)
  unfold f9_sayAhead at hf
  refine lv_iconst (v := (0 : Int32)) hx hb dX9_sayAhead_0 (by decide) ?_
  refine lv_istore_n (lv' := [(2, .int (0 : Int32)), (0, .ref (a 0)), (1, .int x1)]) hx hb dX9_sayAhead_1 rfl hl (by decide) rfl (fun ls hl => ?_)
  exact w9_sayAhead_2 C hK hA FU u x1 (0 : Int32) hf hP hD hS (lv_sub hl [1, 2, 0] rfl)
abbrev rm9_writeAll : Room := { frames := 4, cells := 0, slots := 0, locals := 99 }
noncomputable abbrev ws9_writeAll : List Cond := Cond.code yX9_writeAll cX9_writeAll 5 none :: WA9
theorem g9_writeAll {c0 : Cond} : GoodIn (c0 :: WA9) (wsV RX9 295 RX9 yX9_writeAll ws9_writeAll) := gd9_v m9_249 m9_250 m9_251 m9_29 m9_238
theorem hd9_writeAll : yX9_writeAll.cls = RX9 ∧ yX9_writeAll.cls ≠ "java/lang/invoke/MethodHandle" ∧ yX9_writeAll.cls ≠ "java/lang/invoke/VarHandle" ∧ (parseMethodDescriptor yX9_writeAll.desc).map (fun d => d.parameters.length) = some 0 := by decide +kernel
def f9_writeAll_104 (k16 : Md → Int32 → Int32 → Int32 → Option Md) (u : Md) (x1 : Int32) (x2 : Int32) (x3 : Int32) : Option Md := (k16 u x1 x2 x3)
set_option maxHeartbeats 4000000 in
set_option maxRecDepth 100000 in
theorem w9_writeAll_104 {p : Program} {l : Launch} {e : Env} {s : State} {m : MethodId} {args : Array Value} {below : List Frame} {meth : Method} {c : Code} (C : Cx p s m args meth c cX9_writeAll 5 ws9_writeAll RX9 none) {D : va_G} {cI cJ cC : ClassId} {a : Nat → Nat} {A : Nat → Prop} (hK : va_K D vwCl (ty3 cI cJ cC) s) (hA : ∀ q : Nat, s.heap.size ≤ q → A q) {r : Md} (k16 : Md → Int32 → Int32 → Int32 → Option Md) (ih16 : ∀ (u : Md) (x1 : Int32) (x2 : Int32) (x3 : Int32), k16 u x1 x2 x3 = some r → ∀ {H : Heap} {locs : List Loc}, va_P D vwCl (cM cI cJ a u) H → va_D A (cM cI cJ a u) → va_S A s.heap H locs → ∀ {ls : Array Slot}, lv_has ls 5 [(0, .ref (a 0)), (1, .int x1), (2, .int x2), (3, .int x3)] → W p l e rm9_writeAll s m args below meth c H locs 0 0 (MQ below (qW none (cM cI cJ a r) D (ty3 cI cJ cC) A) args s 0 0 A) (F0 m 16 ls [])) : ∀ (u : Md) (x1 : Int32) (x2 : Int32) (x3 : Int32), f9_writeAll_104 k16 u x1 x2 x3 = some r → ∀ {H : Heap} {locs : List Loc}, va_P D vwCl (cM cI cJ a u) H → va_D A (cM cI cJ a u) → va_S A s.heap H locs → ∀ {ls : Array Slot}, lv_has ls 5 [(0, .ref (a 0)), (1, .int x1), (2, .int x2), (3, .int x3)] → W p l e rm9_writeAll s m args below meth c H locs 0 0 (MQ below (qW none (cM cI cJ a r) D (ty3 cI cJ cC) A) args s 0 0 A) (F0 m 104 ls []) := by
  have hx := C.1.1
  have hb := C.1.2.1
  have hts := C.1.2.2.2.2
  have hown := C.1.2.2.2.1
  have hin : ∀ w ∈ wsX90, w ∈ ws9_writeAll := fun w h => List.mem_cons_of_mem _ (List.mem_append_right _ h)
  intro u x1 x2 x3 hf H locs hP hD hS ls hl
  unfold f9_writeAll_104 at hf
  refine lv_goto (tgt := 16) hx hb dX9_writeAll_104 (by decide) ?_
  exact ih16 u x1 x2 x3 hf hP hD hS (lv_sub hl [0, 1, 2, 3] rfl)
def f9_writeAll_90 (k16 : Md → Int32 → Int32 → Int32 → Option Md) (u : Md) (x1 : Int32) (x2 : Int32) : Option Md := (if x1 < 0 ∨ 200 ≤ (x1).toNatClampNeg then none else (f9_writeAll_104 k16 u ((ga u 6) (x1).toNatClampNeg) (x2 + (-1 : Int32)) (x1 + (1 : Int32))))
set_option maxHeartbeats 4000000 in
set_option maxRecDepth 100000 in
theorem w9_writeAll_90 {p : Program} {l : Launch} {e : Env} {s : State} {m : MethodId} {args : Array Value} {below : List Frame} {meth : Method} {c : Code} (C : Cx p s m args meth c cX9_writeAll 5 ws9_writeAll RX9 none) {D : va_G} {cI cJ cC : ClassId} {a : Nat → Nat} {A : Nat → Prop} (hK : va_K D vwCl (ty3 cI cJ cC) s) (hA : ∀ q : Nat, s.heap.size ≤ q → A q) {r : Md} (k16 : Md → Int32 → Int32 → Int32 → Option Md) (ih16 : ∀ (u : Md) (x1 : Int32) (x2 : Int32) (x3 : Int32), k16 u x1 x2 x3 = some r → ∀ {H : Heap} {locs : List Loc}, va_P D vwCl (cM cI cJ a u) H → va_D A (cM cI cJ a u) → va_S A s.heap H locs → ∀ {ls : Array Slot}, lv_has ls 5 [(0, .ref (a 0)), (1, .int x1), (2, .int x2), (3, .int x3)] → W p l e rm9_writeAll s m args below meth c H locs 0 0 (MQ below (qW none (cM cI cJ a r) D (ty3 cI cJ cC) A) args s 0 0 A) (F0 m 16 ls [])) : ∀ (u : Md) (x1 : Int32) (x2 : Int32), f9_writeAll_90 k16 u x1 x2 = some r → ∀ {H : Heap} {locs : List Loc}, va_P D vwCl (cM cI cJ a u) H → va_D A (cM cI cJ a u) → va_S A s.heap H locs → ∀ {ls : Array Slot}, lv_has ls 5 [(0, .ref (a 0)), (1, .int x1), (2, .int x2)] → W p l e rm9_writeAll s m args below meth c H locs 0 0 (MQ below (qW none (cM cI cJ a r) D (ty3 cI cJ cC) A) args s 0 0 A) (F0 m 90 ls []) := by
  have hx := C.1.1
  have hb := C.1.2.1
  have hts := C.1.2.2.2.2
  have hown := C.1.2.2.2.1
  have hin : ∀ w ∈ wsX90, w ∈ ws9_writeAll := fun w h => List.mem_cons_of_mem _ (List.mem_append_right _ h)
  intro u x1 x2 hf H locs hP hD hS ls hl
  unfold f9_writeAll_90 at hf
  refine lv_iload_n hx hb dX9_writeAll_90 rfl (lv_at hl 1 rfl) ?_
  refine lv_iconst (v := (1 : Int32)) hx hb dX9_writeAll_91 (by decide) ?_
  refine lv_iadd hx hb dX9_writeAll_92 ?_
  refine lv_istore_n (lv' := [(3, .int (x1 + (1 : Int32))), (0, .ref (a 0)), (1, .int x1), (2, .int x2)]) hx hb dX9_writeAll_93 rfl hl (by decide) rfl (fun ls hl => ?_)
  refine lv_aload_n hx hb dX9_writeAll_94 rfl (lv_at hl 1 rfl) ?_
  refine mg9 (v := .ref (a 6)) C hin hK hP 6 (by decide) (hts (Cond.fieldLink RX9 16 "SchematicTextModel" "parents" "[I") (List.mem_cons_of_mem _ m9_7)) rfl dX9_writeAll_95 ?_
  refine lv_iload_n hx hb dX9_writeAll_98 rfl (lv_at hl 2 rfl) ?_
  obtain ⟨h_20, hf⟩ := og_n hf
  refine va_iald (f := (ga u 6)) hx hb hK hP 3 0 rfl rfl h_20 dX9_writeAll_99 ?_
  refine lv_istore_n (lv' := [(1, .int ((ga u 6) (x1).toNatClampNeg)), (3, .int (x1 + (1 : Int32))), (0, .ref (a 0)), (2, .int x2)]) hx hb dX9_writeAll_100 rfl hl (by decide) rfl (fun ls hl => ?_)
  refine lv_iinc (v := (x2 + (-1 : Int32))) (lv' := [(2, .int (x2 + (-1 : Int32))), (1, .int ((ga u 6) (x1).toNatClampNeg)), (3, .int (x1 + (1 : Int32))), (0, .ref (a 0))]) hx hb dX9_writeAll_101 hl (k := 3) rfl rfl (by decide) rfl (fun ls hl => ?_)
  exact w9_writeAll_104 C hK hA k16 (fun _ _ _ _ h9 => ih16 _ _ _ _ h9) u ((ga u 6) (x1).toNatClampNeg) (x2 + (-1 : Int32)) (x1 + (1 : Int32)) hf hP hD hS (lv_sub hl [3, 1, 0, 2] rfl)
def f9_writeAll_16 : Nat → Md → Int32 → Int32 → Int32 → Option Md
  | 0, _, _, _, _ => none
  | n + 1, u, x1, x2, x3 => (if x1 = (-1 : Int32) then ((f9_say u (10 : Int32)).bind fun u_5 => (some (si u_5 27 (0 : Int32)))) else ((f9_childFrom u x1 x3).bind fun r_7 => (if r_7 = (-1 : Int32) then (if (gi u 1) = 0 then (if x1 < 0 ∨ 200 ≤ (x1).toNatClampNeg then none else (if ((ga u 5) (x1).toNatClampNeg) = (9 : Int32) then (f9_writeAll_90 (f9_writeAll_16 n) u x1 x2) else ((f9_say u (41 : Int32)).bind fun u_13 => (f9_writeAll_90 (f9_writeAll_16 n) u_13 x1 x2)))) else (f9_writeAll_90 (f9_writeAll_16 n) u x1 x2)) else ((f9_say u (10 : Int32)).bind fun u_15 => ((f9_sayAhead u_15 (x2 + (1 : Int32))).bind fun u_17 => ((f9_sayOwn u_17 r_7).bind fun u_19 => (f9_writeAll_104 (f9_writeAll_16 n) u_19 r_7 (x2 + (1 : Int32)) (r_7 + (1 : Int32)))))))))
set_option maxHeartbeats 4000000 in
set_option maxRecDepth 100000 in
theorem w9_writeAll_16 {p : Program} {l : Launch} {e : Env} {s : State} {m : MethodId} {args : Array Value} {below : List Frame} {meth : Method} {c : Code} (C : Cx p s m args meth c cX9_writeAll 5 ws9_writeAll RX9 none) {D : va_G} {cI cJ cC : ClassId} {a : Nat → Nat} {A : Nat → Prop} (hK : va_K D vwCl (ty3 cI cJ cC) s) (hA : ∀ q : Nat, s.heap.size ≤ q → A q) {r : Md} : ∀ (n : Nat), ∀ (u : Md) (x1 : Int32) (x2 : Int32) (x3 : Int32), f9_writeAll_16 n u x1 x2 x3 = some r → ∀ {H : Heap} {locs : List Loc}, va_P D vwCl (cM cI cJ a u) H → va_D A (cM cI cJ a u) → va_S A s.heap H locs → ∀ {ls : Array Slot}, lv_has ls 5 [(0, .ref (a 0)), (1, .int x1), (2, .int x2), (3, .int x3)] → W p l e rm9_writeAll s m args below meth c H locs 0 0 (MQ below (qW none (cM cI cJ a r) D (ty3 cI cJ cC) A) args s 0 0 A) (F0 m 16 ls []) := by
  have hx := C.1.1
  have hb := C.1.2.1
  have hts := C.1.2.2.2.2
  have hown := C.1.2.2.2.1
  have hin : ∀ w ∈ wsX90, w ∈ ws9_writeAll := fun w h => List.mem_cons_of_mem _ (List.mem_append_right _ h)
  intro n
  induction n with
  | zero =>
    intro u x1 x2 x3 hf H locs hP hD hS ls hl
    cases hf
  | succ n ih =>
    intro u x1 x2 x3 hf H locs hP hD hS ls hl
    rw [f9_writeAll_16] at hf
    refine lv_iload_n hx hb dX9_writeAll_16 rfl (lv_at hl 1 rfl) ?_
    refine lv_iconst (v := (-1 : Int32)) hx hb dX9_writeAll_17 (by decide) ?_
    refine lv_icmp_eq (tgt := 107) hx hb dX9_writeAll_18 (by decide) (fun c_3 => ?_) (fun c_3 => ?_)
    · replace hf := og_t c_3 hf
      refine lv_aload_n hx hb dX9_writeAll_107 rfl (lv_at hl 0 rfl) ?_
      refine lv_bipush (v := (10 : Int32)) hx hb dX9_writeAll_108 (by decide) ?_
      obtain ⟨u_5, h_4, hf⟩ := og_b hf
      try dsimp only at hf
      refine ck_w (ov := none) (st1 := []) (rest := []) C.1 (c9_say l D cI cJ cC a u (10 : Int32) u_5  _ h_4) (cwV 1 hts g9_say rfl rfl rfl hd9_say ⟨Nat.le_of_ble_eq_true rfl, Nat.le_of_ble_eq_true rfl⟩) hK hA hP hD hS (q0 := 0) (ci := 6) rfl rfl rfl rfl hl.1 rfl rfl (Nat.le_of_ble_eq_true rfl) ⟨Nat.zero_le _, Nat.zero_le _⟩ dX9_writeAll_110 (fun H locs hP hD hS => ?_)
      refine lv_aload_n hx hb dX9_writeAll_113 rfl (lv_at hl 0 rfl) ?_
      refine lv_iconst (v := (0 : Int32)) hx hb dX9_writeAll_114 (by decide) ?_
      refine mp9_27 C hin hK hP hD hS (hts (Cond.fieldLink RX9 48 "SchematicTextModel" "stale" "Z") (List.mem_cons_of_mem _ m9_19)) (nz_z (Or.inl rfl)) (nz_f (Or.inl rfl)) dX9_writeAll_115 (fun H locs hP hD hS => ?_)
      obtain rfl := og_s hf
      exact rw_v C hK hP hD hS dX9_writeAll_118
    · replace hf := og_f c_3 hf
      refine lv_aload_n hx hb dX9_writeAll_21 rfl (lv_at hl 0 rfl) ?_
      refine lv_iload_n hx hb dX9_writeAll_22 rfl (lv_at hl 1 rfl) ?_
      refine lv_iload_n hx hb dX9_writeAll_23 rfl (lv_at hl 3 rfl) ?_
      obtain ⟨r_7, h_6, hf⟩ := og_b hf
      try dsimp only at hf
      refine ck_r (v := .int r_7) (rest := []) C.1 (c9_childFrom l D cI cJ cC a u x1 x3 r_7 _ h_6) (cwV 2 hts g9_childFrom rfl rfl rfl hd9_childFrom ⟨Nat.le_of_ble_eq_true rfl, Nat.le_of_ble_eq_true rfl⟩) hK hP hD (q0 := 0) (ci := 6) rfl rfl rfl rfl hl.1 rfl (Nat.le_of_ble_eq_true rfl) ⟨Nat.zero_le _, Nat.zero_le _⟩ dX9_writeAll_24 ?_
      refine lv_istore (lv' := [(4, .int r_7), (0, .ref (a 0)), (1, .int x1), (2, .int x2), (3, .int x3)]) hx hb dX9_writeAll_27 hl (by decide) rfl (fun ls hl => ?_)
      refine lv_iload hx hb dX9_writeAll_29 (lv_at hl 0 rfl) ?_
      refine lv_iconst (v := (-1 : Int32)) hx hb dX9_writeAll_31 (by decide) ?_
      refine lv_icmp_eq (tgt := 66) hx hb dX9_writeAll_32 (by decide) (fun c_8 => ?_) (fun c_8 => ?_)
      · replace hf := og_t c_8 hf
        refine lv_aload_n hx hb dX9_writeAll_66 rfl (lv_at hl 1 rfl) ?_
        refine mg9 (v := .int (gi u 1)) C hin hK hP 1 (by decide) (hts (Cond.fieldLink RX9 56 "SchematicTextModel" "form" "I") (List.mem_cons_of_mem _ m9_21)) rfl dX9_writeAll_67 ?_
        refine lv_if_ne (tgt := 90) hx hb dX9_writeAll_70 (by decide) (fun c_9 => ?_) (fun c_9 => ?_)
        · replace hf := og_f c_9 hf
          exact w9_writeAll_90 C hK hA (f9_writeAll_16 n) (fun _ _ _ _ h9 => ih _ _ _ _ h9) u x1 x2 hf hP hD hS (lv_sub hl [1, 2, 3] rfl)
        · replace hf := og_t c_9 hf
          refine lv_aload_n hx hb dX9_writeAll_73 rfl (lv_at hl 1 rfl) ?_
          refine mg9 (v := .ref (a 5)) C hin hK hP 5 (by decide) (hts (Cond.fieldLink RX9 13 "SchematicTextModel" "kinds" "[I") (List.mem_cons_of_mem _ m9_6)) rfl dX9_writeAll_74 ?_
          refine lv_iload_n hx hb dX9_writeAll_77 rfl (lv_at hl 2 rfl) ?_
          obtain ⟨h_10, hf⟩ := og_n hf
          refine va_iald (f := (ga u 5)) hx hb hK hP 2 0 rfl rfl h_10 dX9_writeAll_78 ?_
          refine lv_bipush (v := (9 : Int32)) hx hb dX9_writeAll_79 (by decide) ?_
          refine lv_icmp_eq (tgt := 90) hx hb dX9_writeAll_81 (by decide) (fun c_11 => ?_) (fun c_11 => ?_)
          · replace hf := og_t c_11 hf
            exact w9_writeAll_90 C hK hA (f9_writeAll_16 n) (fun _ _ _ _ h9 => ih _ _ _ _ h9) u x1 x2 hf hP hD hS (lv_sub hl [1, 2, 3] rfl)
          · replace hf := og_f c_11 hf
            refine lv_aload_n hx hb dX9_writeAll_84 rfl (lv_at hl 1 rfl) ?_
            refine lv_bipush (v := (41 : Int32)) hx hb dX9_writeAll_85 (by decide) ?_
            obtain ⟨u_13, h_12, hf⟩ := og_b hf
            try dsimp only at hf
            refine ck_w (ov := none) (st1 := []) (rest := []) C.1 (c9_say l D cI cJ cC a u (41 : Int32) u_13  _ h_12) (cwV 1 hts g9_say rfl rfl rfl hd9_say ⟨Nat.le_of_ble_eq_true rfl, Nat.le_of_ble_eq_true rfl⟩) hK hA hP hD hS (q0 := 0) (ci := 6) rfl rfl rfl rfl hl.1 rfl rfl (Nat.le_of_ble_eq_true rfl) ⟨Nat.zero_le _, Nat.zero_le _⟩ dX9_writeAll_87 (fun H locs hP hD hS => ?_)
            exact w9_writeAll_90 C hK hA (f9_writeAll_16 n) (fun _ _ _ _ h9 => ih _ _ _ _ h9) u_13 x1 x2 hf hP hD hS (lv_sub hl [1, 2, 3] rfl)
      · replace hf := og_f c_8 hf
        refine lv_aload_n hx hb dX9_writeAll_35 rfl (lv_at hl 1 rfl) ?_
        refine lv_bipush (v := (10 : Int32)) hx hb dX9_writeAll_36 (by decide) ?_
        obtain ⟨u_15, h_14, hf⟩ := og_b hf
        try dsimp only at hf
        refine ck_w (ov := none) (st1 := []) (rest := []) C.1 (c9_say l D cI cJ cC a u (10 : Int32) u_15  _ h_14) (cwV 1 hts g9_say rfl rfl rfl hd9_say ⟨Nat.le_of_ble_eq_true rfl, Nat.le_of_ble_eq_true rfl⟩) hK hA hP hD hS (q0 := 0) (ci := 6) rfl rfl rfl rfl hl.1 rfl rfl (Nat.le_of_ble_eq_true rfl) ⟨Nat.zero_le _, Nat.zero_le _⟩ dX9_writeAll_38 (fun H locs hP hD hS => ?_)
        refine lv_iinc (v := (x2 + (1 : Int32))) (lv' := [(2, .int (x2 + (1 : Int32))), (4, .int r_7), (0, .ref (a 0)), (1, .int x1), (3, .int x3)]) hx hb dX9_writeAll_41 hl (k := 3) rfl rfl (by decide) rfl (fun ls hl => ?_)
        refine lv_aload_n hx hb dX9_writeAll_44 rfl (lv_at hl 2 rfl) ?_
        refine lv_iload_n hx hb dX9_writeAll_45 rfl (lv_at hl 0 rfl) ?_
        obtain ⟨u_17, h_16, hf⟩ := og_b hf
        try dsimp only at hf
        refine ck_w (ov := none) (st1 := []) (rest := []) C.1 (c9_sayAhead l D cI cJ cC a u_15 (x2 + (1 : Int32)) u_17  _ h_16) (cwV 1 hts g9_sayAhead rfl rfl rfl hd9_sayAhead ⟨Nat.le_of_ble_eq_true rfl, Nat.le_of_ble_eq_true rfl⟩) hK hA hP hD hS (q0 := 0) (ci := 6) rfl rfl rfl rfl hl.1 rfl rfl (Nat.le_of_ble_eq_true rfl) ⟨Nat.zero_le _, Nat.zero_le _⟩ dX9_writeAll_46 (fun H locs hP hD hS => ?_)
        refine lv_aload_n hx hb dX9_writeAll_49 rfl (lv_at hl 2 rfl) ?_
        refine lv_iload hx hb dX9_writeAll_50 (lv_at hl 1 rfl) ?_
        obtain ⟨u_19, h_18, hf⟩ := og_b hf
        try dsimp only at hf
        refine ck_w (ov := none) (st1 := []) (rest := []) C.1 (c9_sayOwn l D cI cJ cC a u_17 r_7 u_19  _ h_18) (cwV 1 hts g9_sayOwn rfl rfl rfl hd9_sayOwn ⟨Nat.le_of_ble_eq_true rfl, Nat.le_of_ble_eq_true rfl⟩) hK hA hP hD hS (q0 := 0) (ci := 6) rfl rfl rfl rfl hl.1 rfl rfl (Nat.le_of_ble_eq_true rfl) ⟨Nat.zero_le _, Nat.zero_le _⟩ dX9_writeAll_52 (fun H locs hP hD hS => ?_)
        refine lv_iload hx hb dX9_writeAll_55 (lv_at hl 1 rfl) ?_
        refine lv_istore_n (lv' := [(1, .int r_7), (2, .int (x2 + (1 : Int32))), (4, .int r_7), (0, .ref (a 0)), (3, .int x3)]) hx hb dX9_writeAll_57 rfl hl (by decide) rfl (fun ls hl => ?_)
        refine lv_iload hx hb dX9_writeAll_58 (lv_at hl 2 rfl) ?_
        refine lv_iconst (v := (1 : Int32)) hx hb dX9_writeAll_60 (by decide) ?_
        refine lv_iadd hx hb dX9_writeAll_61 ?_
        refine lv_istore_n (lv' := [(3, .int (r_7 + (1 : Int32))), (1, .int r_7), (2, .int (x2 + (1 : Int32))), (4, .int r_7), (0, .ref (a 0))]) hx hb dX9_writeAll_62 rfl hl (by decide) rfl (fun ls hl => ?_)
        refine lv_goto (tgt := 104) hx hb dX9_writeAll_63 (by decide) ?_
        exact w9_writeAll_104 C hK hA (f9_writeAll_16 n) (fun _ _ _ _ h9 => ih _ _ _ _ h9) u_19 r_7 (x2 + (1 : Int32)) (r_7 + (1 : Int32)) hf hP hD hS (lv_sub hl [4, 1, 2, 0] rfl)
def f9_writeAll (u : Md) : Option Md := ((f9_sayOwn (si u 26 (0 : Int32)) (0 : Int32)).bind fun u_2 => (f9_writeAll_16 FU u_2 (0 : Int32) (0 : Int32) (1 : Int32)))
set_option maxHeartbeats 4000000 in
set_option maxRecDepth 100000 in
theorem c9_writeAll (l : Launch) (D : va_G) (cI cJ cC : ClassId) (a : Nat → Nat) (u : Md) (v : Md) (sz : Nat) (hf : f9_writeAll u  = some v) : Met l yX9_writeAll ws9_writeAll rm9_writeAll (pW D (ty3 cI cJ cC) (cM cI cJ a u) sz [.ref (a 0)]) (qW none (cM cI cJ a v) D (ty3 cI cJ cC) (va_A (cM cI cJ a u) sz)) 0 0 (va_A (cM cI cJ a u) sz) := by
  refine mt_w (cc := cX9_writeAll) (maxL := 5) (ret := none) (by decide) rfl (Nat.le_of_ble_eq_true rfl) ?_
  intro p e s m below meth c ls A C hl hK hA hP hD hS
  have hl : lv_has ls 5 [(0, .ref (a 0))] := hl
  have hx := C.1.1
  have hb := C.1.2.1
  have hts := C.1.2.2.2.2
  have hown := C.1.2.2.2.1
  have hin : ∀ w ∈ wsX90, w ∈ ws9_writeAll := fun w h => List.mem_cons_of_mem _ (List.mem_append_right _ h)
  unfold f9_writeAll at hf
  refine lv_aload_n hx hb dX9_writeAll_0 rfl (lv_at hl 0 rfl) ?_
  refine lv_iconst (v := (0 : Int32)) hx hb dX9_writeAll_1 (by decide) ?_
  refine mp9_26 C hin hK hP hD hS (hts (Cond.fieldLink RX9 265 "SchematicTextModel" "written" "I") (List.mem_cons_of_mem _ m9_214)) dX9_writeAll_2 (fun H locs hP hD hS => ?_)
  refine lv_iconst (v := (0 : Int32)) hx hb dX9_writeAll_5 (by decide) ?_
  refine lv_istore_n (lv' := [(1, .int (0 : Int32)), (0, .ref (a 0))]) hx hb dX9_writeAll_6 rfl hl (by decide) rfl (fun ls hl => ?_)
  refine lv_iconst (v := (0 : Int32)) hx hb dX9_writeAll_7 (by decide) ?_
  refine lv_istore_n (lv' := [(2, .int (0 : Int32)), (1, .int (0 : Int32)), (0, .ref (a 0))]) hx hb dX9_writeAll_8 rfl hl (by decide) rfl (fun ls hl => ?_)
  refine lv_aload_n hx hb dX9_writeAll_9 rfl (lv_at hl 2 rfl) ?_
  refine lv_iconst (v := (0 : Int32)) hx hb dX9_writeAll_10 (by decide) ?_
  obtain ⟨u_2, h_1, hf⟩ := og_b hf
  try dsimp only at hf
  refine ck_w (ov := none) (st1 := []) (rest := []) C.1 (c9_sayOwn l D cI cJ cC a (si u 26 (0 : Int32)) (0 : Int32) u_2  _ h_1) (cwV 1 hts g9_sayOwn rfl rfl rfl hd9_sayOwn ⟨Nat.le_of_ble_eq_true rfl, Nat.le_of_ble_eq_true rfl⟩) hK hA hP hD hS (q0 := 0) (ci := 6) rfl rfl rfl rfl hl.1 rfl rfl (Nat.le_of_ble_eq_true rfl) ⟨Nat.zero_le _, Nat.zero_le _⟩ dX9_writeAll_11 (fun H locs hP hD hS => ?_)
  refine lv_iconst (v := (1 : Int32)) hx hb dX9_writeAll_14 (by decide) ?_
  refine lv_istore_n (lv' := [(3, .int (1 : Int32)), (2, .int (0 : Int32)), (1, .int (0 : Int32)), (0, .ref (a 0))]) hx hb dX9_writeAll_15 rfl hl (by decide) rfl (fun ls hl => ?_)
  exact w9_writeAll_16 C hK hA FU u_2 (0 : Int32) (0 : Int32) (1 : Int32) hf hP hD hS (lv_sub hl [3, 2, 1, 0] rfl)
abbrev rm9_write : Room := { frames := 5, cells := 0, slots := 0, locals := 123 }
noncomputable abbrev ws9_write : List Cond := Cond.code yX9_write cX9_write 2 (some .int) :: WA9
theorem hd9_write : yX9_write.cls = RX9 ∧ yX9_write.cls ≠ "java/lang/invoke/MethodHandle" ∧ yX9_write.cls ≠ "java/lang/invoke/VarHandle" ∧ (parseMethodDescriptor yX9_write.desc).map (fun d => d.parameters.length) = some 1 := by decide +kernel
def f9_write_44 (u : Md) (x1 : Int32) : Option (Int32 × Md) := (if (gi u 26) ≤ x1 then (some ((-1 : Int32), u)) else (if x1 < 0 ∨ 110000 ≤ (x1).toNatClampNeg then none else (some (((ga u 25) (x1).toNatClampNeg), u))))
set_option maxHeartbeats 4000000 in
set_option maxRecDepth 100000 in
theorem w9_write_44 {p : Program} {l : Launch} {e : Env} {s : State} {m : MethodId} {args : Array Value} {below : List Frame} {meth : Method} {c : Code} (C : Cx p s m args meth c cX9_write 2 ws9_write RX9 (some .int)) {D : va_G} {cI cJ cC : ClassId} {a : Nat → Nat} {A : Nat → Prop} (hK : va_K D vwCl (ty3 cI cJ cC) s) (hA : ∀ q : Nat, s.heap.size ≤ q → A q) {r : (Int32 × Md)} : ∀ (u : Md) (x1 : Int32), f9_write_44 u x1 = some r → ∀ {H : Heap} {locs : List Loc}, va_P D vwCl (cM cI cJ a u) H → va_D A (cM cI cJ a u) → va_S A s.heap H locs → ∀ {ls : Array Slot}, lv_has ls 2 [(0, .ref (a 0)), (1, .int x1)] → W p l e rm9_write s m args below meth c H locs 0 0 (MQ below (qW (some (.int r.1)) (cM cI cJ a r.2) D (ty3 cI cJ cC) A) args s 0 0 A) (F0 m 44 ls []) := by
  have hx := C.1.1
  have hb := C.1.2.1
  have hts := C.1.2.2.2.2
  have hown := C.1.2.2.2.1
  have hin : ∀ w ∈ wsX90, w ∈ ws9_write := fun w h => List.mem_cons_of_mem _ (List.mem_append_right _ h)
  intro u x1 hf H locs hP hD hS ls hl
  unfold f9_write_44 at hf
  refine lv_iload_n hx hb dX9_write_44 rfl (lv_at hl 1 rfl) ?_
  refine lv_aload_n hx hb dX9_write_45 rfl (lv_at hl 0 rfl) ?_
  refine mg9 (v := .int (gi u 26)) C hin hK hP 26 (by decide) (hts (Cond.fieldLink RX9 265 "SchematicTextModel" "written" "I") (List.mem_cons_of_mem _ m9_214)) rfl dX9_write_46 ?_
  refine lv_icmp_ge (tgt := 61) hx hb dX9_write_49 (by decide) (fun c_7 => ?_) (fun c_7 => ?_)
  · replace hf := og_t c_7 hf
    refine lv_iconst (v := (-1 : Int32)) hx hb dX9_write_61 (by decide) ?_
    obtain rfl := og_s hf
    exact rw_i C hK hP hD hS dX9_write_62
  · replace hf := og_f c_7 hf
    refine lv_aload_n hx hb dX9_write_52 rfl (lv_at hl 0 rfl) ?_
    refine mg9 (v := .ref (a 25)) C hin hK hP 25 (by decide) (hts (Cond.fieldLink RX9 45 "SchematicTextModel" "out" "[I") (List.mem_cons_of_mem _ m9_18)) rfl dX9_write_53 ?_
    refine lv_iload_n hx hb dX9_write_56 rfl (lv_at hl 1 rfl) ?_
    obtain ⟨h_8, hf⟩ := og_n hf
    refine va_iald (f := (ga u 25)) hx hb hK hP 12 0 rfl rfl h_8 dX9_write_57 ?_
    refine lv_goto (tgt := 62) hx hb dX9_write_58 (by decide) ?_
    obtain rfl := og_s hf
    exact rw_i C hK hP hD hS dX9_write_62
def f9_write_21 (u : Md) (x1 : Int32) (y0 : Int32) : Option (Int32 × Md) := (if y0 = 0 then (if (gi u 27) = 0 then (f9_write_44 (si u 0 y0) x1) else ((f9_writeAll (si u 0 y0)).bind fun u_6 => (f9_write_44 u_6 x1))) else (some ((0 : Int32), (si u 0 y0))))
set_option maxHeartbeats 4000000 in
set_option maxRecDepth 100000 in
theorem w9_write_21 {p : Program} {l : Launch} {e : Env} {s : State} {m : MethodId} {args : Array Value} {below : List Frame} {meth : Method} {c : Code} (C : Cx p s m args meth c cX9_write 2 ws9_write RX9 (some .int)) {D : va_G} {cI cJ cC : ClassId} {a : Nat → Nat} {A : Nat → Prop} (hK : va_K D vwCl (ty3 cI cJ cC) s) (hA : ∀ q : Nat, s.heap.size ≤ q → A q) {r : (Int32 × Md)} : ∀ (u : Md) (x1 : Int32) (y0 : Int32), f9_write_21 u x1 y0 = some r → ∀ {H : Heap} {locs : List Loc}, va_P D vwCl (cM cI cJ a u) H → va_D A (cM cI cJ a u) → va_S A s.heap H locs → ∀ {ls : Array Slot}, lv_has ls 2 [(0, .ref (a 0)), (1, .int x1)] → W p l e rm9_write s m args below meth c H locs 0 0 (MQ below (qW (some (.int r.1)) (cM cI cJ a r.2) D (ty3 cI cJ cC) A) args s 0 0 A) (F0 m 21 ls [.int y0, .ref (a 0)]) := by
  have hx := C.1.1
  have hb := C.1.2.1
  have hts := C.1.2.2.2.2
  have hown := C.1.2.2.2.1
  have hin : ∀ w ∈ wsX90, w ∈ ws9_write := fun w h => List.mem_cons_of_mem _ (List.mem_append_right _ h)
  intro u x1 y0 hf H locs hP hD hS ls hl
  unfold f9_write_21 at hf
  refine mp9_0 C hin hK hP hD hS (hts (Cond.fieldLink RX9 52 "SchematicTextModel" "thrown" "I") (List.mem_cons_of_mem _ m9_20)) dX9_write_21 (fun H locs hP hD hS => ?_)
  refine lv_aload_n hx hb dX9_write_24 rfl (lv_at hl 0 rfl) ?_
  refine mg9 (v := .int y0) C hin hK hP 0 (by decide) (hts (Cond.fieldLink RX9 52 "SchematicTextModel" "thrown" "I") (List.mem_cons_of_mem _ m9_20)) rfl dX9_write_25 ?_
  refine lv_if_eq (tgt := 33) hx hb dX9_write_28 (by decide) (fun c_3 => ?_) (fun c_3 => ?_)
  · replace hf := og_t c_3 hf
    refine lv_aload_n hx hb dX9_write_33 rfl (lv_at hl 0 rfl) ?_
    refine mg9 (v := .int (gi u 27)) C hin hK hP 27 (by decide) (hts (Cond.fieldLink RX9 48 "SchematicTextModel" "stale" "Z") (List.mem_cons_of_mem _ m9_19)) rfl dX9_write_34 ?_
    refine lv_if_eq (tgt := 44) hx hb dX9_write_37 (by decide) (fun c_4 => ?_) (fun c_4 => ?_)
    · replace hf := og_t c_4 hf
      exact w9_write_44 C hK hA (si u 0 y0) x1 hf hP hD hS (lv_sub hl [0, 1] rfl)
    · replace hf := og_f c_4 hf
      refine lv_aload_n hx hb dX9_write_40 rfl (lv_at hl 0 rfl) ?_
      obtain ⟨u_6, h_5, hf⟩ := og_b hf
      try dsimp only at hf
      refine ck_w (ov := none) (st1 := []) (rest := []) C.1 (c9_writeAll l D cI cJ cC a (si u 0 y0) u_6  _ h_5) (cwV 0 hts g9_writeAll rfl rfl rfl hd9_writeAll ⟨Nat.le_of_ble_eq_true rfl, Nat.le_of_ble_eq_true rfl⟩) hK hA hP hD hS (q0 := 0) (ci := 6) rfl rfl rfl rfl hl.1 rfl rfl (Nat.le_of_ble_eq_true rfl) ⟨Nat.zero_le _, Nat.zero_le _⟩ dX9_write_41 (fun H locs hP hD hS => ?_)
      exact w9_write_44 C hK hA u_6 x1 hf hP hD hS (lv_sub hl [0, 1] rfl)
  · replace hf := og_f c_3 hf
    refine lv_iconst (v := (0 : Int32)) hx hb dX9_write_31 (by decide) ?_
    obtain rfl := og_s hf
    exact rw_i C hK hP hD hS dX9_write_32
def f9_write (u : Md) (x1 : Int32) : Option (Int32 × Md) := (if 0 ≤ x1 then (if (gi u 4) = 0 then (f9_write_21 u x1 (2 : Int32)) else (f9_write_21 u x1 (0 : Int32))) else (f9_write_21 u x1 (1 : Int32)))
set_option maxHeartbeats 4000000 in
set_option maxRecDepth 100000 in
theorem c9_write (l : Launch) (D : va_G) (cI cJ cC : ClassId) (a : Nat → Nat) (u : Md) (x1 : Int32) (r : Int32) (v : Md) (sz : Nat) (hf : f9_write u x1 = some (r, v)) : Met l yX9_write ws9_write rm9_write (pW D (ty3 cI cJ cC) (cM cI cJ a u) sz [.ref (a 0), .int x1]) (qW (some (.int r)) (cM cI cJ a v) D (ty3 cI cJ cC) (va_A (cM cI cJ a u) sz)) 0 0 (va_A (cM cI cJ a u) sz) := by
  refine mt_w (cc := cX9_write) (maxL := 2) (ret := (some .int)) (by decide) rfl (Nat.le_of_ble_eq_true rfl) ?_
  intro p e s m below meth c ls A C hl hK hA hP hD hS
  have hl : lv_has ls 2 [(0, .ref (a 0)), (1, .int x1)] := hl
  have hx := C.1.1
  have hb := C.1.2.1
  have hts := C.1.2.2.2.2
  have hown := C.1.2.2.2.1
  have hin : ∀ w ∈ wsX90, w ∈ ws9_write := fun w h => List.mem_cons_of_mem _ (List.mem_append_right _ h)
  unfold f9_write at hf
  refine lv_aload_n hx hb dX9_write_0 rfl (lv_at hl 0 rfl) ?_
  refine lv_iload_n hx hb dX9_write_1 rfl (lv_at hl 1 rfl) ?_
  refine lv_if_ge (tgt := 9) hx hb dX9_write_2 (by decide) (fun c_1 => ?_) (fun c_1 => ?_)
  · replace hf := og_t c_1 hf
    refine lv_aload_n hx hb dX9_write_9 rfl (lv_at hl 0 rfl) ?_
    refine mg9 (v := .int (gi u 4)) C hin hK hP 4 (by decide) (hts (Cond.fieldLink RX9 241 "SchematicTextModel" "objects" "I") (List.mem_cons_of_mem _ m9_183)) rfl dX9_write_10 ?_
    refine lv_if_ne (tgt := 20) hx hb dX9_write_13 (by decide) (fun c_2 => ?_) (fun c_2 => ?_)
    · replace hf := og_f c_2 hf
      refine lv_iconst (v := (0 : Int32)) hx hb dX9_write_20 (by decide) ?_
      exact w9_write_21 C hK hA u x1 (0 : Int32) hf hP hD hS (lv_sub hl [0, 1] rfl)
    · replace hf := og_t c_2 hf
      refine lv_iconst (v := (2 : Int32)) hx hb dX9_write_16 (by decide) ?_
      refine lv_goto (tgt := 21) hx hb dX9_write_17 (by decide) ?_
      exact w9_write_21 C hK hA u x1 (2 : Int32) hf hP hD hS (lv_sub hl [0, 1] rfl)
  · replace hf := og_f c_1 hf
    refine lv_iconst (v := (1 : Int32)) hx hb dX9_write_5 (by decide) ?_
    refine lv_goto (tgt := 21) hx hb dX9_write_6 (by decide) ?_
    exact w9_write_21 C hK hA u x1 (1 : Int32) hf hP hD hS (lv_sub hl [0, 1] rfl)
