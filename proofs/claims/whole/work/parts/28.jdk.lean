/-! the JDK's index check, as it passes -/
abbrev rmx_J3_checkIndex : Room := { frames := 0, cells := 0, slots := 0, locals := 0 }
noncomputable abbrev wsx_J3_checkIndex : List Cond := Cond.code yJ3_checkIndex_8e157 cJ3_checkIndex_8e157 3 (some .int) :: WAX
theorem hdx_J3_checkIndex : yJ3_checkIndex_8e157.cls ≠ "java/lang/invoke/MethodHandle" ∧ yJ3_checkIndex_8e157.cls ≠ "java/lang/invoke/VarHandle" ∧ (parseMethodDescriptor yJ3_checkIndex_8e157.desc).map (fun d => d.parameters.length) = some 3 := by decide +kernel
theorem gx_J0_J3_checkIndex_1059 {c0 : Cond} : GoodIn (c0 :: WAX) (va_wsS RJ0 1059 yJ3_checkIndex_8e157 wsx_J3_checkIndex) := gdx_s mx_75 mx_76 mx_77 mx_78
abbrev rmx_J0_checkIndex : Room := { frames := 1, cells := 0, slots := 0, locals := 22 }
noncomputable abbrev wsx_J0_checkIndex : List Cond := Cond.code yJ0_checkIndex_df160 cJ0_checkIndex_df160 2 none :: WAX
theorem hdx_J0_checkIndex : yJ0_checkIndex_df160.cls ≠ "java/lang/invoke/MethodHandle" ∧ yJ0_checkIndex_df160.cls ≠ "java/lang/invoke/VarHandle" ∧ (parseMethodDescriptor yJ0_checkIndex_df160.desc).map (fun d => d.parameters.length) = some 2 := by decide +kernel
theorem xv_S {p : Program} {l : Launch} {e : Env} {R : Room} {s : State} {m : MethodId} {args : Array Value} {below : List Frame} {meth : Method} {c : Code} {H : Heap} {locs : List Loc} {Q : State → Prop} {cc : ByteArray} {nL : Nat} {Ts : List Cond} {own : String} {pc : Nat} {ls : Array Slot} {rest st0 : List Value} {G : Gx} {A : Nat → Prop} {w : va_W} {y : MethodName} {bytes : ByteArray} {maxL n index : Nat} {ret ret0 : Option FieldType} {ws : List Cond} {rm : Room} {As : List Value}
    (C : Cx p s m args meth c cc nL Ts own ret0) (hM : Met l y ws rm (pX G [] H.size As) (va_Sv (fun _ => True)) 0 0 (fun _ => False)) (cw : CallB R s args own index y bytes maxL ret ws rm 0 0 n ∧ (Cond.static y).before args s = true) (hK : va_K (gD G) vwCl (tyG G) s) (hA : ∀ q : Nat, s.heap.size ≤ q → A q) (hT : ST G A s s.heap) (hP : va_P (gD G) vwCl w H) (hD : va_D A w) (hS : va_S A s.heap H locs)
    (hn : As.length = n) (hsize : ls.size = nL) (hstack : st0 = As.reverse ++ rest) (hW : (rest.map fun v => v.category).sum ≤ 8) (hdg : decode cc pc = .ok (.invokestatic index, 3))
    (kk : W p l e R s m args below meth c H locs 0 0 Q (F0 m (pc + 3) ls rest)) : W p l e R s m args below meth c H locs 0 0 Q (F0 m pc ls st0) :=
  va_csv (W.runS (g := F0 m pc ls st0) C.1 hM cw ⟨pX_blind, preX (w0 := []) hK hA hP hD hS hT [] rfl rfl⟩ rfl hn hsize hstack (lv_room hW) hdg ⟨Nat.zero_le _, Nat.zero_le _⟩) (fun _ => kk)
theorem mx_v {l : Launch} {G : Gx} {w : va_W} {cc : ByteArray} {y : MethodName} {ws ws' : List Cond} {rm : Room} {maxL sz : Nat} {ret : Option FieldType} {av : List Value} (hy : plainName y.cls = true) (hw : ws = Cond.code y cc maxL ret :: ws') (hn : (lg_sl av).length ≤ maxL)
    (body : ∀ (p : Program) (e : Env) (s : State) (m : MethodId) (below : List Frame) (meth : Method) (c : Code) (ls : Array Slot) (A : Nat → Prop), Cx p s m av.toArray meth c cc maxL ws y.cls ret → lv_has ls maxL (lv_args 0 av) → va_K (gD G) vwCl (tyG G) s → (∀ q : Nat, s.heap.size ≤ q → A q) → ST G A s s.heap → va_P (gD G) vwCl w s.heap → va_D A w → va_S A s.heap s.heap [] →
      W p l e rm s m av.toArray below meth c s.heap [] 0 0 (MQ below (va_Sv (fun _ => True)) av.toArray s 0 0 (fun _ => False)) (F0 m 0 ls [])) : Met l y ws rm (pX G w sz av) (va_Sv (fun _ => True)) 0 0 (fun _ => False) := by
  refine Met.ofW (cc := cc) (maxL := maxL) (ret := ret) hy hw ?_
  intro p e s m args below meth c s₁ B hml hv
  obtain ⟨rfl, hsz, hP, hK, hD, hT⟩ := hv
  subst hsz
  rw [lg_entry_eq]
  exact body p e s m below meth c _ _ ⟨⟨B.exec, B.bytes, hml, findClass_of_methodNamed B.named, atoms_spec (ws := ws) B.pre⟩, B.returns, B.notSynchronized⟩ (lv_entry av hn) hK (fun q h => Or.inr h) hT hP hD.self va_S.rf
set_option maxHeartbeats 4000000 in
set_option maxRecDepth 100000 in
theorem cx_J3_checkIndex (l : Launch) (G : Gx) (i n : Int32) (q : Value) (hq : q = .null ∨ ∃ t : Nat, q = .ref t) (sz : Nat) (h : ¬ (i < 0 ∨ n ≤ i)) : Met l yJ3_checkIndex_8e157 wsx_J3_checkIndex rmx_J3_checkIndex (pX G [] sz [.int i, .int n, q]) (k2_QcV (.int i)) 0 0 (fun _ => False) := by
  refine mx_r (cc := cJ3_checkIndex_8e157) (maxL := 3) (ret := (some .int)) (by decide) rfl (by rcases hq with rfl | ⟨t, rfl⟩ <;> exact Nat.le_of_ble_eq_true rfl) ?_
  intro p e s m below meth c ls A C hl hK hA hT hP hD hS
  have hl : lv_has ls 3 [(0, .int i), (1, .int n), (2, q)] := hl
  have hx := C.1.1
  have hb := C.1.2.1
  refine lv_iload_n hx hb dJ3_checkIndex_8e157_0 rfl (lv_at hl 0 rfl) ?_
  refine lv_if_lt (tgt := 9) hx hb dJ3_checkIndex_8e157_1 (by decide) (fun c_1 => absurd (Or.inl c_1) h) (fun c_1 => ?_)
  refine lv_iload_n hx hb dJ3_checkIndex_8e157_4 rfl (lv_at hl 0 rfl) ?_
  refine lv_iload_n hx hb dJ3_checkIndex_8e157_5 rfl (lv_at hl 1 rfl) ?_
  refine lv_icmp_lt (tgt := 16) hx hb dJ3_checkIndex_8e157_6 (by decide) (fun c_2 => ?_) (fun c_2 => absurd (Or.inr (Int32.not_lt.mp c_2)) h)
  refine lv_iload_n hx hb dJ3_checkIndex_8e157_16 rfl (lv_at hl 0 rfl) ?_
  exact rt_i C dJ3_checkIndex_8e157_17
set_option maxHeartbeats 4000000 in
set_option maxRecDepth 100000 in
theorem cx_J0_checkIndex (l : Launch) (G : Gx) (i n : Int32) (sz : Nat) (h : ¬ (i < 0 ∨ n ≤ i)) : Met l yJ0_checkIndex_df160 wsx_J0_checkIndex rmx_J0_checkIndex (pX G [] sz [.int i, .int n]) (va_Sv (fun _ => True)) 0 0 (fun _ => False) := by
  refine mx_v (cc := cJ0_checkIndex_df160) (maxL := 2) (ret := none) (by decide) rfl (Nat.le_of_ble_eq_true rfl) ?_
  intro p e s m below meth c ls A C hl hK hA hT hP hD hS
  have hl : lv_has ls 2 [(0, .int i), (1, .int n)] := hl
  have hx := C.1.1
  have hb := C.1.2.1
  have hts := C.1.2.2.2.2
  have hown := C.1.2.2.2.1
  refine lv_iload_n hx hb dJ0_checkIndex_df160_0 rfl (lv_at hl 0 rfl) ?_
  refine lv_iload_n hx hb dJ0_checkIndex_df160_1 rfl (lv_at hl 1 rfl) ?_
  rcases hT.1.2.2.2.2.2.2.2.2.2.2.2 with hz | ⟨t, hz⟩
  · refine va_gets hx hb hz hS hown (hts (Cond.fieldLink RJ0 1053 "jdk/internal/util/Preconditions" "SIOOBE_FORMATTER" "Ljava/util/function/BiFunction;") (List.mem_cons_of_mem _ mx_74)) (fun _ h => h) dJ0_checkIndex_df160_2 ?_
    refine xr_S (v := .int i) (rest := []) C (cx_J3_checkIndex l G i n .null (Or.inl rfl) _ h) (va_cwS 3 hts gx_J0_J3_checkIndex_1059 rfl rfl rfl hdx_J3_checkIndex ⟨Nat.le_of_ble_eq_true rfl, Nat.le_of_ble_eq_true rfl⟩) hK hA hT hP hD hS rfl hl.1 rfl (Nat.le_of_ble_eq_true rfl) dJ0_checkIndex_df160_5 ?_
    refine lv_pop hx hb dJ0_checkIndex_df160_8 rfl ?_
    exact W.vret hx hb C.2.1 (fun t ht _ => ⟨rfl, trivial, ht⟩) (fun q h => nomatch h) dJ0_checkIndex_df160_9 C.2.2
  · refine va_gets hx hb hz hS hown (hts (Cond.fieldLink RJ0 1053 "jdk/internal/util/Preconditions" "SIOOBE_FORMATTER" "Ljava/util/function/BiFunction;") (List.mem_cons_of_mem _ mx_74)) (fun _ h => h) dJ0_checkIndex_df160_2 ?_
    refine xr_S (v := .int i) (rest := []) C (cx_J3_checkIndex l G i n (.ref t) (Or.inr ⟨t, rfl⟩) _ h) (va_cwS 3 hts gx_J0_J3_checkIndex_1059 rfl rfl rfl hdx_J3_checkIndex ⟨Nat.le_of_ble_eq_true rfl, Nat.le_of_ble_eq_true rfl⟩) hK hA hT hP hD hS rfl hl.1 rfl (Nat.le_of_ble_eq_true rfl) dJ0_checkIndex_df160_5 ?_
    refine lv_pop hx hb dJ0_checkIndex_df160_8 rfl ?_
    exact W.vret hx hb C.2.1 (fun t ht _ => ⟨rfl, trivial, ht⟩) (fun q h => nomatch h) dJ0_checkIndex_df160_9 C.2.2
abbrev rmx_J0_coder : Room := { frames := 0, cells := 0, slots := 0, locals := 0 }
noncomputable abbrev wsx_J0_coder : List Cond := Cond.code yJ0_coder_7d493 cJ0_coder_7d493 1 (some .byte) :: WAX
theorem hdx_J0_coder : yJ0_coder_7d493.cls = RJ0 ∧ yJ0_coder_7d493.cls ≠ "java/lang/invoke/MethodHandle" ∧ yJ0_coder_7d493.cls ≠ "java/lang/invoke/VarHandle" ∧ (parseMethodDescriptor yJ0_coder_7d493.desc).map (fun d => d.parameters.length) = some 0 := by decide +kernel
def fx_J0_coder (x0 : (Fin 18)) : Option Int32 := (if (1 : Int32) = 0 then ((if vp_nar .byte (1 : Int32) = (1 : Int32) then some (1 : Int32) else none)) else ((if vp_nar .byte (0 : Int32) = (0 : Int32) then some (0 : Int32) else none)))
set_option maxHeartbeats 4000000 in
set_option maxRecDepth 100000 in
theorem cx_J0_coder (l : Launch) (G : Gx) (x0 : (Fin 18)) (r : Int32) (sz : Nat) (hf : fx_J0_coder x0 = some r) : Met l yJ0_coder_7d493 wsx_J0_coder rmx_J0_coder (pX G ([]) sz [.ref (gS G (x0).val)]) (k2_QcV (.int r)) 0 0 (fun _ => False) := by
  refine mx_r (cc := cJ0_coder_7d493) (maxL := 1) (ret := (some .byte)) (by decide) rfl (Nat.le_of_ble_eq_true rfl) ?_
  intro p e s m below meth c ls A C hl hK hA hT hP hD hS
  have hl : lv_has ls 1 [(0, .ref (gS G (x0).val))] := hl
  have hx := C.1.1
  have hb := C.1.2.1
  have hts := C.1.2.2.2.2
  have hown := C.1.2.2.2.1
  unfold fx_J0_coder at hf
  refine va_gets hx hb hT.1.2.2.2.2.2.2.2.2.2.2.1 hS hown (hts (Cond.fieldLink RJ0 38 "java/lang/String" "COMPACT_STRINGS" "Z") (List.mem_cons_of_mem _ mx_53)) (fun _ h => h) dJ0_coder_7d493_0 ?_
  refine lv_if_eq (tgt := 13) hx hb dJ0_coder_7d493_3 (by decide) (fun c_1 => ?_) (fun c_1 => ?_)
  · replace hf := og_t c_1 hf
    refine lv_iconst (v := (1 : Int32)) hx hb dJ0_coder_7d493_13 (by decide) ?_
    obtain ⟨h_2, hf⟩ := og_p hf
    obtain rfl := og_s hf
    exact rt_z C (nc_b h_2) dJ0_coder_7d493_14
  · replace hf := og_f c_1 hf
    refine lv_aload_n hx hb dJ0_coder_7d493_6 rfl (lv_at hl 0 rfl) ?_
    refine xo (v := .int (0 : Int32)) C (hT.1.2.2.2.2.2.2.2.2.2.1.1 (x0).val (x0).isLt).2.1 hS (hts (Cond.fieldLink RJ0 15 "java/lang/String" "coder" "B") (List.mem_cons_of_mem _ mx_54)) dJ0_coder_7d493_7 ?_
    refine lv_goto (tgt := 14) hx hb dJ0_coder_7d493_10 (by decide) ?_
    obtain ⟨h_3, hf⟩ := og_p hf
    obtain rfl := og_s hf
    exact rt_z C (nc_b h_3) dJ0_coder_7d493_14
theorem gx_J0_J0_coder_335 {c0 : Cond} : GoodIn (c0 :: WAX) (wsV RJ0 335 RJ0 yJ0_coder_7d493 wsx_J0_coder) := gdx_v mx_49 mx_50 mx_51 mx_46 mx_52
abbrev rmx_J0_length : Room := { frames := 1, cells := 0, slots := 0, locals := 20 }
noncomputable abbrev wsx_J0_length : List Cond := Cond.code yJ0_length_8abf5 cJ0_length_8abf5 1 (some .int) :: WAX
theorem hdx_J0_length : yJ0_length_8abf5.cls = RJ0 ∧ yJ0_length_8abf5.cls ≠ "java/lang/invoke/MethodHandle" ∧ yJ0_length_8abf5.cls ≠ "java/lang/invoke/VarHandle" ∧ (parseMethodDescriptor yJ0_length_8abf5.desc).map (fun d => d.parameters.length) = some 0 := by decide +kernel
def fx_J0_length (x0 : (Fin 18)) : Option Int32 := ((fx_J0_coder x0).bind fun r_2 => (some ((Int32.ofNat (sLen x0)) >>> (r_2 &&& 31))))
set_option maxHeartbeats 4000000 in
set_option maxRecDepth 100000 in
theorem cx_J0_length (l : Launch) (G : Gx) (x0 : (Fin 18)) (r : Int32) (sz : Nat) (hf : fx_J0_length x0 = some r) : Met l yJ0_length_8abf5 wsx_J0_length rmx_J0_length (pX G ([]) sz [.ref (gS G (x0).val)]) (k2_QcV (.int r)) 0 0 (fun _ => False) := by
  refine mx_r (cc := cJ0_length_8abf5) (maxL := 1) (ret := (some .int)) (by decide) rfl (Nat.le_of_ble_eq_true rfl) ?_
  intro p e s m below meth c ls A C hl hK hA hT hP hD hS
  have hl : lv_has ls 1 [(0, .ref (gS G (x0).val))] := hl
  have hx := C.1.1
  have hb := C.1.2.1
  have hts := C.1.2.2.2.2
  have hown := C.1.2.2.2.1
  unfold fx_J0_length at hf
  refine lv_aload_n hx hb dJ0_length_8abf5_0 rfl (lv_at hl 0 rfl) ?_
  refine xo (v := .ref (gV G (x0).val)) C (hT.1.2.2.2.2.2.2.2.2.2.1.1 (x0).val (x0).isLt).2.2.1 hS (hts (Cond.fieldLink RJ0 9 "java/lang/String" "value" "[B") (List.mem_cons_of_mem _ mx_48)) dJ0_length_8abf5_1 ?_
  refine va_tlen (v := (Int32.ofNat (sLen x0))) hx hb (hT.1.2.2.2.2.2.2.2.2.2.1.1 (x0).val (x0).isLt).2.2.2 hS rfl dJ0_length_8abf5_4 ?_
  refine lv_aload_n hx hb dJ0_length_8abf5_5 rfl (lv_at hl 0 rfl) ?_
  obtain ⟨r_2, h_1, hf⟩ := og_b hf
  try dsimp only at hf
  refine xr_V (v := .int r_2) (rest := [.int (Int32.ofNat (sLen x0))]) (w0 := ([])) C (cx_J0_coder l G x0 r_2 _ h_1) (cwV 0 hts gx_J0_J0_coder_335 rfl rfl rfl hdx_J0_coder ⟨Nat.le_of_ble_eq_true rfl, Nat.le_of_ble_eq_true rfl⟩) hK hA hT hP hD hS (vk_recv hT.1.2.2.2.2.2.2.2.2.2.1 (x0).isLt hS) [] rfl rfl rfl hl.1 rfl (Nat.le_of_ble_eq_true rfl) dJ0_length_8abf5_6 ?_
  refine lv_ishr hx hb dJ0_length_8abf5_9 ?_
  obtain rfl := og_s hf
  exact rt_i C dJ0_length_8abf5_10
abbrev rmx_J0_isLatin1 : Room := { frames := 0, cells := 0, slots := 0, locals := 0 }
noncomputable abbrev wsx_J0_isLatin1 : List Cond := Cond.code yJ0_isLatin1_aae02 cJ0_isLatin1_aae02 1 (some .boolean) :: WAX
theorem hdx_J0_isLatin1 : yJ0_isLatin1_aae02.cls = RJ0 ∧ yJ0_isLatin1_aae02.cls ≠ "java/lang/invoke/MethodHandle" ∧ yJ0_isLatin1_aae02.cls ≠ "java/lang/invoke/VarHandle" ∧ (parseMethodDescriptor yJ0_isLatin1_aae02.desc).map (fun d => d.parameters.length) = some 0 := by decide +kernel
def fx_J0_isLatin1 (x0 : (Fin 18)) : Option Int32 := (if (1 : Int32) = 0 then (some (0 : Int32)) else (if (0 : Int32) = 0 then (some (1 : Int32)) else (some (0 : Int32))))
set_option maxHeartbeats 4000000 in
set_option maxRecDepth 100000 in
theorem cx_J0_isLatin1 (l : Launch) (G : Gx) (x0 : (Fin 18)) (r : Int32) (sz : Nat) (hf : fx_J0_isLatin1 x0 = some r) : Met l yJ0_isLatin1_aae02 wsx_J0_isLatin1 rmx_J0_isLatin1 (pX G ([]) sz [.ref (gS G (x0).val)]) (k2_QcV (.int r)) 0 0 (fun _ => False) := by
  refine mx_r (cc := cJ0_isLatin1_aae02) (maxL := 1) (ret := (some .boolean)) (by decide) rfl (Nat.le_of_ble_eq_true rfl) ?_
  intro p e s m below meth c ls A C hl hK hA hT hP hD hS
  have hl : lv_has ls 1 [(0, .ref (gS G (x0).val))] := hl
  have hx := C.1.1
  have hb := C.1.2.1
  have hts := C.1.2.2.2.2
  have hown := C.1.2.2.2.1
  unfold fx_J0_isLatin1 at hf
  refine va_gets hx hb hT.1.2.2.2.2.2.2.2.2.2.2.1 hS hown (hts (Cond.fieldLink RJ0 38 "java/lang/String" "COMPACT_STRINGS" "Z") (List.mem_cons_of_mem _ mx_53)) (fun _ h => h) dJ0_isLatin1_aae02_0 ?_
  refine lv_if_eq (tgt := 17) hx hb dJ0_isLatin1_aae02_3 (by decide) (fun c_1 => ?_) (fun c_1 => ?_)
  · replace hf := og_t c_1 hf
    refine lv_iconst (v := (0 : Int32)) hx hb dJ0_isLatin1_aae02_17 (by decide) ?_
    obtain rfl := og_s hf
    exact rt_z C (nz_z (Or.inl rfl)) dJ0_isLatin1_aae02_18
  · replace hf := og_f c_1 hf
    refine lv_aload_n hx hb dJ0_isLatin1_aae02_6 rfl (lv_at hl 0 rfl) ?_
    refine xo (v := .int (0 : Int32)) C (hT.1.2.2.2.2.2.2.2.2.2.1.1 (x0).val (x0).isLt).2.1 hS (hts (Cond.fieldLink RJ0 15 "java/lang/String" "coder" "B") (List.mem_cons_of_mem _ mx_54)) dJ0_isLatin1_aae02_7 ?_
    refine lv_if_ne (tgt := 17) hx hb dJ0_isLatin1_aae02_10 (by decide) (fun c_2 => ?_) (fun c_2 => ?_)
    · replace hf := og_f c_2 hf
      refine lv_iconst (v := (0 : Int32)) hx hb dJ0_isLatin1_aae02_17 (by decide) ?_
      obtain rfl := og_s hf
      exact rt_z C (nz_z (Or.inl rfl)) dJ0_isLatin1_aae02_18
    · replace hf := og_t c_2 hf
      refine lv_iconst (v := (1 : Int32)) hx hb dJ0_isLatin1_aae02_13 (by decide) ?_
      refine lv_goto (tgt := 18) hx hb dJ0_isLatin1_aae02_14 (by decide) ?_
      obtain rfl := og_s hf
      exact rt_z C (nz_z (Or.inr rfl)) dJ0_isLatin1_aae02_18
theorem gx_J1_J0_checkIndex_9 {c0 : Cond} : GoodIn (c0 :: WAX) (va_wsS RJ1 9 yJ0_checkIndex_df160 wsx_J0_checkIndex) := gdx_s mx_71 mx_72 mx_46 mx_73
abbrev rmx_J1_charAt : Room := { frames := 2, cells := 0, slots := 0, locals := 43 }
noncomputable abbrev wsx_J1_charAt : List Cond := Cond.code yJ1_charAt_3b067 cJ1_charAt_3b067 2 (some .char) :: WAX
theorem hdx_J1_charAt : yJ1_charAt_3b067.cls ≠ "java/lang/invoke/MethodHandle" ∧ yJ1_charAt_3b067.cls ≠ "java/lang/invoke/VarHandle" ∧ (parseMethodDescriptor yJ1_charAt_3b067.desc).map (fun d => d.parameters.length) = some 2 := by decide +kernel
def fx_J1_charAt (x0 : (Fin 18)) (x1 : Int32) : Option Int32 := (if x1 < 0 ∨ (Int32.ofNat (sLen x0)) ≤ x1 then none else (if x1 < 0 ∨ sLen x0 ≤ (x1).toNatClampNeg then none else ((if vp_nar .char ((((sByt x0 (x1).toNatClampNeg) &&& (255 : Int32))).toUInt32 % 65536).toInt32 = ((((sByt x0 (x1).toNatClampNeg) &&& (255 : Int32))).toUInt32 % 65536).toInt32 then some ((((sByt x0 (x1).toNatClampNeg) &&& (255 : Int32))).toUInt32 % 65536).toInt32 else none))))
set_option maxHeartbeats 4000000 in
set_option maxRecDepth 100000 in
theorem cx_J1_charAt (l : Launch) (G : Gx) (x0 : (Fin 18)) (x1 : Int32) (r : Int32) (sz : Nat) (hf : fx_J1_charAt x0 x1 = some r) : Met l yJ1_charAt_3b067 wsx_J1_charAt rmx_J1_charAt (pX G ([]) sz [.ref (gV G (x0).val), .int x1]) (k2_QcV (.int r)) 0 0 (fun _ => False) := by
  refine mx_r (cc := cJ1_charAt_3b067) (maxL := 2) (ret := (some .char)) (by decide) rfl (Nat.le_of_ble_eq_true rfl) ?_
  intro p e s m below meth c ls A C hl hK hA hT hP hD hS
  have hl : lv_has ls 2 [(0, .ref (gV G (x0).val)), (1, .int x1)] := hl
  have hx := C.1.1
  have hb := C.1.2.1
  have hts := C.1.2.2.2.2
  have hown := C.1.2.2.2.1
  unfold fx_J1_charAt at hf
  refine lv_iload_n hx hb dJ1_charAt_3b067_0 rfl (lv_at hl 1 rfl) ?_
  refine lv_aload_n hx hb dJ1_charAt_3b067_1 rfl (lv_at hl 0 rfl) ?_
  refine va_tlen (v := (Int32.ofNat (sLen x0))) hx hb (hT.1.2.2.2.2.2.2.2.2.2.1.1 (x0).val (x0).isLt).2.2.2 hS rfl dJ1_charAt_3b067_2 ?_
  obtain ⟨h_2, hf⟩ := og_n hf
  refine xv_S (rest := []) C (cx_J0_checkIndex l G x1 (Int32.ofNat (sLen x0)) _ h_2) (va_cwS 2 hts gx_J1_J0_checkIndex_9 rfl rfl rfl hdx_J0_checkIndex ⟨Nat.le_of_ble_eq_true rfl, Nat.le_of_ble_eq_true rfl⟩) hK hA hT hP hD hS rfl hl.1 rfl (Nat.le_of_ble_eq_true rfl) dJ1_charAt_3b067_3 ?_
  refine lv_aload_n hx hb dJ1_charAt_3b067_6 rfl (lv_at hl 0 rfl) ?_
  refine lv_iload_n hx hb dJ1_charAt_3b067_7 rfl (lv_at hl 1 rfl) ?_
  obtain ⟨h_3, hf⟩ := og_n hf
  refine va_tb (v := .int (sByt x0 (x1).toNatClampNeg)) hx hb (hT.1.2.2.2.2.2.2.2.2.2.1.1 (x0).val (x0).isLt).2.2.2 hS h_3 rfl dJ1_charAt_3b067_8 ?_
  refine lv_sipush (v := (255 : Int32)) hx hb dJ1_charAt_3b067_9 (by decide) ?_
  refine lv_iand hx hb dJ1_charAt_3b067_12 ?_
  refine lv_i2c (v := ((((sByt x0 (x1).toNatClampNeg) &&& (255 : Int32))).toUInt32 % 65536).toInt32) hx hb dJ1_charAt_3b067_13 rfl ?_
  obtain ⟨h_4, hf⟩ := og_p hf
  obtain rfl := og_s hf
  exact rt_z C (nc_c h_4) dJ1_charAt_3b067_14
theorem gx_J0_J0_isLatin1_492 {c0 : Cond} : GoodIn (c0 :: WAX) (wsV RJ0 492 RJ0 yJ0_isLatin1_aae02 wsx_J0_isLatin1) := gdx_v mx_63 mx_64 mx_65 mx_46 mx_66
theorem gx_J0_J1_charAt_495 {c0 : Cond} : GoodIn (c0 :: WAX) (va_wsS RJ0 495 yJ1_charAt_3b067 wsx_J1_charAt) := gdx_s mx_67 mx_68 mx_69 mx_70
abbrev rmx_J0_charAt : Room := { frames := 3, cells := 0, slots := 0, locals := 64 }
noncomputable abbrev wsx_J0_charAt : List Cond := Cond.code yJ0_charAt_5068e cJ0_charAt_5068e 2 (some .char) :: WAX
theorem hdx_J0_charAt : yJ0_charAt_5068e.cls = RJ0 ∧ yJ0_charAt_5068e.cls ≠ "java/lang/invoke/MethodHandle" ∧ yJ0_charAt_5068e.cls ≠ "java/lang/invoke/VarHandle" ∧ (parseMethodDescriptor yJ0_charAt_5068e.desc).map (fun d => d.parameters.length) = some 1 := by decide +kernel
def fx_J0_charAt (x0 : (Fin 18)) (x1 : Int32) : Option Int32 := ((fx_J0_isLatin1 x0).bind fun r_2 => (if r_2 = 0 then none else ((fx_J1_charAt x0 x1).bind fun r_5 => ((if vp_nar .char r_5 = r_5 then some r_5 else none)))))
set_option maxHeartbeats 4000000 in
set_option maxRecDepth 100000 in
theorem cx_J0_charAt (l : Launch) (G : Gx) (x0 : (Fin 18)) (x1 : Int32) (r : Int32) (sz : Nat) (hf : fx_J0_charAt x0 x1 = some r) : Met l yJ0_charAt_5068e wsx_J0_charAt rmx_J0_charAt (pX G ([]) sz [.ref (gS G (x0).val), .int x1]) (k2_QcV (.int r)) 0 0 (fun _ => False) := by
  refine mx_r (cc := cJ0_charAt_5068e) (maxL := 2) (ret := (some .char)) (by decide) rfl (Nat.le_of_ble_eq_true rfl) ?_
  intro p e s m below meth c ls A C hl hK hA hT hP hD hS
  have hl : lv_has ls 2 [(0, .ref (gS G (x0).val)), (1, .int x1)] := hl
  have hx := C.1.1
  have hb := C.1.2.1
  have hts := C.1.2.2.2.2
  have hown := C.1.2.2.2.1
  unfold fx_J0_charAt at hf
  refine lv_aload_n hx hb dJ0_charAt_5068e_0 rfl (lv_at hl 0 rfl) ?_
  obtain ⟨r_2, h_1, hf⟩ := og_b hf
  try dsimp only at hf
  refine xr_V (v := .int r_2) (rest := []) (w0 := ([])) C (cx_J0_isLatin1 l G x0 r_2 _ h_1) (cwV 0 hts gx_J0_J0_isLatin1_492 rfl rfl rfl hdx_J0_isLatin1 ⟨Nat.le_of_ble_eq_true rfl, Nat.le_of_ble_eq_true rfl⟩) hK hA hT hP hD hS (vk_recv hT.1.2.2.2.2.2.2.2.2.2.1 (x0).isLt hS) [] rfl rfl rfl hl.1 rfl (Nat.le_of_ble_eq_true rfl) dJ0_charAt_5068e_1 ?_
  refine lv_if_eq (tgt := 16) hx hb dJ0_charAt_5068e_4 (by decide) (fun c_3 => ?_) (fun c_3 => ?_)
  · replace hf := og_t c_3 hf
    cases hf
  · replace hf := og_f c_3 hf
    refine lv_aload_n hx hb dJ0_charAt_5068e_7 rfl (lv_at hl 0 rfl) ?_
    refine xo (v := .ref (gV G (x0).val)) C (hT.1.2.2.2.2.2.2.2.2.2.1.1 (x0).val (x0).isLt).2.2.1 hS (hts (Cond.fieldLink RJ0 9 "java/lang/String" "value" "[B") (List.mem_cons_of_mem _ mx_48)) dJ0_charAt_5068e_8 ?_
    refine lv_iload_n hx hb dJ0_charAt_5068e_11 rfl (lv_at hl 1 rfl) ?_
    obtain ⟨r_5, h_4, hf⟩ := og_b hf
    try dsimp only at hf
    refine xr_S (v := .int r_5) (rest := []) C (cx_J1_charAt l G x0 x1 r_5 _ h_4) (va_cwS 2 hts gx_J0_J1_charAt_495 rfl rfl rfl hdx_J1_charAt ⟨Nat.le_of_ble_eq_true rfl, Nat.le_of_ble_eq_true rfl⟩) hK hA hT hP hD hS rfl hl.1 rfl (Nat.le_of_ble_eq_true rfl) dJ0_charAt_5068e_12 ?_
    obtain ⟨h_6, hf⟩ := og_p hf
    obtain rfl := og_s hf
    exact rt_z C (nc_c h_6) dJ0_charAt_5068e_15
