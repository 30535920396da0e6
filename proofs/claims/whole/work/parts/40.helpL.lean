noncomputable abbrev wsH_kind : List Cond := Cond.codeWith yL_kind cL_kind 4 (some .int) [(0, 9, 12, 13)] :: WL
abbrev rmH_kind_L : Room := { frames := 8, cells := 1, slots := 6, locals := 132 }
set_option maxHeartbeats 4000000 in
set_option maxRecDepth 100000 in
theorem hr_kind_L (l : Launch) (G : Gx) (bX bF bS bT bV bP : Nat → Nat) (o : Nat) (fo : Nat → Int64) (uX uS uT uV uP : Md) (x1 : Int32) (r : Int32) (hf : f8_kind_L uX uS uT uV uP x1 = some (Sum.inr r)) (sz : Nat) : Met l yL_kind wsH_kind rmH_kind_L (pXL G (c8 0 G bX bF bS bT bV bP (bT 0) (bV 0) uX uS uT uV uP ++ oL G o fo) sz [.ref (bX 0), .int x1, .ref o]) (qW (some (.int 0)) (c8 0 G bX bF bS bT bV bP (bT 0) (bV 0) uX uS uT uV uP ++ oL G o (vp_updL fo 0 r.toInt64)) (gD G) (tyG G) (va_A (c8 0 G bX bF bS bT bV bP (bT 0) (bV 0) uX uS uT uV uP ++ oL G o fo) sz)) 1 6 (va_A (c8 0 G bX bF bS bT bV bP (bT 0) (bV 0) uX uS uT uV uP ++ oL G o fo) sz) := by
  refine mx_h (cc := cL_kind) (ret := some .int) (by decide) rfl (Nat.le_of_ble_eq_true rfl) ?_
  intro p e s m below meth c ls A C htb hl hK hA hT hP hD hS
  have hx := C.1.1
  have hb := C.1.2.1
  have hown := C.1.2.2.2.1
  have hts := C.1.2.2.2.2
  have hl : lv_has ls 4 [(0, .ref (bX 0)), (1, .int x1), (2, .ref o)] := hl
  refine lv_aload_n hx hb dL_kind_0 rfl (lv_at hl 2 rfl) ?_
  refine lv_iconst (v := (0 : Int32)) hx hb dL_kind_1 (by decide) ?_
  refine lv_aload_n hx hb dL_kind_2 rfl (lv_at hl 0 rfl) ?_
  refine lv_iload_n hx hb dL_kind_3 rfl (lv_at hl 1 rfl) ?_
  refine xr8_V (v := .int r) (rest := [.int (0 : Int32), .ref o]) (w0 := c8 0 G bX bF bS bT bV bP (bT 0) (bV 0) uX uS uT uV uP) C (c8_kind_L l G bX bF bS bT bV bP uX uS uT uV uP x1 r _ hf) (cwV 1 hts (gdl_v ml_29 ml_30 ml_31 (mL8 (m8 mx_32)) (mL8 (m8 mx_504))) rfl rfl rfl hd8_kind_L ⟨Nat.le_of_ble_eq_true rfl, Nat.le_of_ble_eq_true rfl⟩) hK hA hT.1 hP hD hS (va_recv hK hP (ci := 5) (q0 := 0) rfl rfl) [0, 1, 2, 3, 4, 5, 6, 7, 8, 9, 10, 11, 12, 13, 14, 15, 16, 17, 18, 19, 20, 21, 22, 23, 24, 25, 26, 27, 28, 29, 30, 31] rfl rfl rfl hl.1 rfl (Nat.le_of_ble_eq_true rfl) dL_kind_4 ?_
  refine lv_i2l (v := r.toInt64) hx hb dL_kind_7 rfl ?_
  refine va_last hx hb hK hP hD hS 32 1 rfl rfl vi01 dL_kind_8 (fun H locs hP hD hS => ?_)
  replace hP : va_P (gD G) vwCl (c8 0 G bX bF bS bT bV bP (bT 0) (bV 0) uX uS uT uV uP ++ oL G o (vp_updL fo 0 r.toInt64)) H := hP
  replace hD : va_D A (c8 0 G bX bF bS bT bV bP (bT 0) (bV 0) uX uS uT uV uP ++ oL G o (vp_updL fo 0 r.toInt64)) := hD
  refine lv_goto (tgt := 15) hx hb dL_kind_9 (by decide) ?_
  refine lv_iconst (v := (0 : Int32)) hx hb dL_kind_15 (by decide) ?_
  refine W.widen (k := 1) (n := 6) (Nat.le_of_ble_eq_true rfl) (Nat.le_of_ble_eq_true rfl) ?_
  exact W.iret C.1.1 C.1.2.1 C.2.1 (fun t ht hW => ⟨rfl, ⟨by rw [ht]; exact hP, va_K.moved hW.alike hK, hD⟩, hS.F ht⟩) hS.2.2 dL_kind_16 C.2.2
set_option maxHeartbeats 4000000 in
set_option maxRecDepth 100000 in
theorem ht1_kind_L (l : Launch) (hL0 : l.stackTraces = false) (G : Gx) (bX bF bS bT bV bP : Nat → Nat) (o : Nat) (fo : Nat → Int64) (uX uS uT uV uP : Md) (x1 : Int32) (hf : f8_kind_L uX uS uT uV uP x1 = some (Sum.inl 1)) (sz : Nat) : Met l yL_kind wsH_kind rmH_kind_L (pXL G (c8 0 G bX bF bS bT bV bP (bT 0) (bV 0) uX uS uT uV uP ++ oL G o fo) sz [.ref (bX 0), .int x1, .ref o]) (qW (some (.int 1)) (c8 0 G bX bF bS bT bV bP (bT 0) (bV 0) uX uS uT uV uP ++ oL G o fo) (gD G) (tyG G) (va_A (c8 0 G bX bF bS bT bV bP (bT 0) (bV 0) uX uS uT uV uP ++ oL G o fo) sz)) 1 6 (va_A (c8 0 G bX bF bS bT bV bP (bT 0) (bV 0) uX uS uT uV uP ++ oL G o fo) sz) := by
  refine mx_h (cc := cL_kind) (ret := some .int) (by decide) rfl (Nat.le_of_ble_eq_true rfl) ?_
  intro p e s m below meth c ls A C htb hl hK hA hT hP hD hS
  have hx := C.1.1
  have hb := C.1.2.1
  have hown := C.1.2.2.2.1
  have hts := C.1.2.2.2.2
  have hl : lv_has ls 4 [(0, .ref (bX 0)), (1, .int x1), (2, .ref o)] := hl
  refine lv_aload_n hx hb dL_kind_0 rfl (lv_at hl 2 rfl) ?_
  refine lv_iconst (v := (0 : Int32)) hx hb dL_kind_1 (by decide) ?_
  refine lv_aload_n hx hb dL_kind_2 rfl (lv_at hl 0 rfl) ?_
  refine lv_iload_n hx hb dL_kind_3 rfl (lv_at hl 1 rfl) ?_
  refine xh8_V (ek := 1) (w0 := c8 0 G bX bF bS bT bV bP (bT 0) (bV 0) uX uS uT uV uP) (rest := [.int (0 : Int32), .ref o]) (pre := (tableOf [(0, 9, 12, 13)]).take 0) (x := ((tableOf [(0, 9, 12, 13)]).drop 0).headD default) (suf := (tableOf [(0, 9, 12, 13)]).drop 1) C (t8_kind_L l hL0 G bX bF bS bT bV bP uX uS uT uV uP x1 1 _ hf) (cwV 1 hts (gdl_v ml_29 ml_30 ml_31 (mL8 (m8 mx_32)) (mL8 (m8 mx_504))) rfl rfl rfl hd8_kind_L ⟨Nat.le_of_ble_eq_true rfl, Nat.le_of_ble_eq_true rfl⟩) hK hA hT.1 hP hD hS (va_recv hK hP (ci := 5) (q0 := 0) rfl rfl) [0, 1, 2, 3, 4, 5, 6, 7, 8, 9, 10, 11, 12, 13, 14, 15, 16, 17, 18, 19, 20, 21, 22, 23, 24, 25, 26, 27, 28, 29, 30, 31] rfl rfl rfl hl.1 rfl (Nat.le_of_ble_eq_true rfl) ⟨Nat.le_of_ble_eq_true rfl, Nat.le_of_ble_eq_true rfl⟩ dL_kind_4 (by rw [htb]; rfl) (fun z hz => absurd hz List.not_mem_nil) (by decide) (by decide) (hts _ (List.mem_cons_of_mem _ ml_28)) (va_Nw.use rfl (hT.1.2.1.2 _ (by decide +kernel))) (fun q9 H hP hS => ?_)
  refine W.eq (g2 := F0 m 12 ls [.ref q9]) rfl ?_
  refine lv_astore_n (lv' := [(3, .ref q9), (0, .ref (bX 0)), (1, .int x1), (2, .ref o)]) hx hb dL_kind_12 rfl hl (by decide) rfl (fun ls hl => ?_)
  refine lv_iconst (v := (1 : Int32)) hx hb dL_kind_13 (by decide) ?_
  exact W.iret C.1.1 C.1.2.1 C.2.1 (fun t ht hW => ⟨rfl, ⟨by rw [ht]; exact hP, va_K.moved hW.alike hK, hD⟩, hS.F ht⟩) hS.2.2 dL_kind_14 C.2.2
noncomputable abbrev wsH_parent : List Cond := Cond.codeWith yL_parent cL_parent 4 (some .int) [(0, 9, 12, 13)] :: WL
abbrev rmH_parent_L : Room := { frames := 7, cells := 1, slots := 6, locals := 111 }
set_option maxHeartbeats 4000000 in
set_option maxRecDepth 100000 in
theorem hr_parent_L (l : Launch) (G : Gx) (bX bF bS bT bV bP : Nat → Nat) (o : Nat) (fo : Nat → Int64) (uX uS uT uV uP : Md) (x1 : Int32) (r : Int32) (hf : f8_parent_L uX uS uT uV uP x1 = some (Sum.inr r)) (sz : Nat) : Met l yL_parent wsH_parent rmH_parent_L (pXL G (c8 0 G bX bF bS bT bV bP (bT 0) (bV 0) uX uS uT uV uP ++ oL G o fo) sz [.ref (bX 0), .int x1, .ref o]) (qW (some (.int 0)) (c8 0 G bX bF bS bT bV bP (bT 0) (bV 0) uX uS uT uV uP ++ oL G o (vp_updL fo 0 r.toInt64)) (gD G) (tyG G) (va_A (c8 0 G bX bF bS bT bV bP (bT 0) (bV 0) uX uS uT uV uP ++ oL G o fo) sz)) 1 6 (va_A (c8 0 G bX bF bS bT bV bP (bT 0) (bV 0) uX uS uT uV uP ++ oL G o fo) sz) := by
  refine mx_h (cc := cL_parent) (ret := some .int) (by decide) rfl (Nat.le_of_ble_eq_true rfl) ?_
  intro p e s m below meth c ls A C htb hl hK hA hT hP hD hS
  have hx := C.1.1
  have hb := C.1.2.1
  have hown := C.1.2.2.2.1
  have hts := C.1.2.2.2.2
  have hl : lv_has ls 4 [(0, .ref (bX 0)), (1, .int x1), (2, .ref o)] := hl
  refine lv_aload_n hx hb dL_parent_0 rfl (lv_at hl 2 rfl) ?_
  refine lv_iconst (v := (0 : Int32)) hx hb dL_parent_1 (by decide) ?_
  refine lv_aload_n hx hb dL_parent_2 rfl (lv_at hl 0 rfl) ?_
  refine lv_iload_n hx hb dL_parent_3 rfl (lv_at hl 1 rfl) ?_
  refine xr8_V (v := .int r) (rest := [.int (0 : Int32), .ref o]) (w0 := c8 0 G bX bF bS bT bV bP (bT 0) (bV 0) uX uS uT uV uP) C (c8_parent_L l G bX bF bS bT bV bP uX uS uT uV uP x1 r _ hf) (cwV 1 hts (gdl_v ml_41 ml_42 ml_43 (mL8 (m8 mx_32)) (mL8 (m8 mx_513))) rfl rfl rfl hd8_parent_L ⟨Nat.le_of_ble_eq_true rfl, Nat.le_of_ble_eq_true rfl⟩) hK hA hT.1 hP hD hS (va_recv hK hP (ci := 5) (q0 := 0) rfl rfl) [0, 1, 2, 3, 4, 5, 6, 7, 8, 9, 10, 11, 12, 13, 14, 15, 16, 17, 18, 19, 20, 21, 22, 23, 24, 25, 26, 27, 28, 29, 30, 31] rfl rfl rfl hl.1 rfl (Nat.le_of_ble_eq_true rfl) dL_parent_4 ?_
  refine lv_i2l (v := r.toInt64) hx hb dL_parent_7 rfl ?_
  refine va_last hx hb hK hP hD hS 32 1 rfl rfl vi01 dL_parent_8 (fun H locs hP hD hS => ?_)
  replace hP : va_P (gD G) vwCl (c8 0 G bX bF bS bT bV bP (bT 0) (bV 0) uX uS uT uV uP ++ oL G o (vp_updL fo 0 r.toInt64)) H := hP
  replace hD : va_D A (c8 0 G bX bF bS bT bV bP (bT 0) (bV 0) uX uS uT uV uP ++ oL G o (vp_updL fo 0 r.toInt64)) := hD
  refine lv_goto (tgt := 15) hx hb dL_parent_9 (by decide) ?_
  refine lv_iconst (v := (0 : Int32)) hx hb dL_parent_15 (by decide) ?_
  refine W.widen (k := 1) (n := 6) (Nat.le_of_ble_eq_true rfl) (Nat.le_of_ble_eq_true rfl) ?_
  exact W.iret C.1.1 C.1.2.1 C.2.1 (fun t ht hW => ⟨rfl, ⟨by rw [ht]; exact hP, va_K.moved hW.alike hK, hD⟩, hS.F ht⟩) hS.2.2 dL_parent_16 C.2.2
set_option maxHeartbeats 4000000 in
set_option maxRecDepth 100000 in
theorem ht1_parent_L (l : Launch) (hL0 : l.stackTraces = false) (G : Gx) (bX bF bS bT bV bP : Nat → Nat) (o : Nat) (fo : Nat → Int64) (uX uS uT uV uP : Md) (x1 : Int32) (hf : f8_parent_L uX uS uT uV uP x1 = some (Sum.inl 1)) (sz : Nat) : Met l yL_parent wsH_parent rmH_parent_L (pXL G (c8 0 G bX bF bS bT bV bP (bT 0) (bV 0) uX uS uT uV uP ++ oL G o fo) sz [.ref (bX 0), .int x1, .ref o]) (qW (some (.int 1)) (c8 0 G bX bF bS bT bV bP (bT 0) (bV 0) uX uS uT uV uP ++ oL G o fo) (gD G) (tyG G) (va_A (c8 0 G bX bF bS bT bV bP (bT 0) (bV 0) uX uS uT uV uP ++ oL G o fo) sz)) 1 6 (va_A (c8 0 G bX bF bS bT bV bP (bT 0) (bV 0) uX uS uT uV uP ++ oL G o fo) sz) := by
  refine mx_h (cc := cL_parent) (ret := some .int) (by decide) rfl (Nat.le_of_ble_eq_true rfl) ?_
  intro p e s m below meth c ls A C htb hl hK hA hT hP hD hS
  have hx := C.1.1
  have hb := C.1.2.1
  have hown := C.1.2.2.2.1
  have hts := C.1.2.2.2.2
  have hl : lv_has ls 4 [(0, .ref (bX 0)), (1, .int x1), (2, .ref o)] := hl
  refine lv_aload_n hx hb dL_parent_0 rfl (lv_at hl 2 rfl) ?_
  refine lv_iconst (v := (0 : Int32)) hx hb dL_parent_1 (by decide) ?_
  refine lv_aload_n hx hb dL_parent_2 rfl (lv_at hl 0 rfl) ?_
  refine lv_iload_n hx hb dL_parent_3 rfl (lv_at hl 1 rfl) ?_
  refine xh8_V (ek := 1) (w0 := c8 0 G bX bF bS bT bV bP (bT 0) (bV 0) uX uS uT uV uP) (rest := [.int (0 : Int32), .ref o]) (pre := (tableOf [(0, 9, 12, 13)]).take 0) (x := ((tableOf [(0, 9, 12, 13)]).drop 0).headD default) (suf := (tableOf [(0, 9, 12, 13)]).drop 1) C (t8_parent_L l hL0 G bX bF bS bT bV bP uX uS uT uV uP x1 1 _ hf) (cwV 1 hts (gdl_v ml_41 ml_42 ml_43 (mL8 (m8 mx_32)) (mL8 (m8 mx_513))) rfl rfl rfl hd8_parent_L ⟨Nat.le_of_ble_eq_true rfl, Nat.le_of_ble_eq_true rfl⟩) hK hA hT.1 hP hD hS (va_recv hK hP (ci := 5) (q0 := 0) rfl rfl) [0, 1, 2, 3, 4, 5, 6, 7, 8, 9, 10, 11, 12, 13, 14, 15, 16, 17, 18, 19, 20, 21, 22, 23, 24, 25, 26, 27, 28, 29, 30, 31] rfl rfl rfl hl.1 rfl (Nat.le_of_ble_eq_true rfl) ⟨Nat.le_of_ble_eq_true rfl, Nat.le_of_ble_eq_true rfl⟩ dL_parent_4 (by rw [htb]; rfl) (fun z hz => absurd hz List.not_mem_nil) (by decide) (by decide) (hts _ (List.mem_cons_of_mem _ ml_28)) (va_Nw.use rfl (hT.1.2.1.2 _ (by decide +kernel))) (fun q9 H hP hS => ?_)
  refine W.eq (g2 := F0 m 12 ls [.ref q9]) rfl ?_
  refine lv_astore_n (lv' := [(3, .ref q9), (0, .ref (bX 0)), (1, .int x1), (2, .ref o)]) hx hb dL_parent_12 rfl hl (by decide) rfl (fun ls hl => ?_)
  refine lv_iconst (v := (1 : Int32)) hx hb dL_parent_13 (by decide) ?_
  exact W.iret C.1.1 C.1.2.1 C.2.1 (fun t ht hW => ⟨rfl, ⟨by rw [ht]; exact hP, va_K.moved hW.alike hK, hD⟩, hS.F ht⟩) hS.2.2 dL_parent_14 C.2.2
noncomputable abbrev wsH_number : List Cond := Cond.codeWith yL_number cL_number 5 (some .int) [(0, 9, 12, 13)] :: WL
abbrev rmH_number_L : Room := { frames := 8, cells := 1, slots := 6, locals := 152 }
set_option maxHeartbeats 4000000 in
set_option maxRecDepth 100000 in
theorem hr_number_L (l : Launch) (G : Gx) (bX bF bS bT bV bP : Nat → Nat) (o : Nat) (fo : Nat → Int64) (uX uS uT uV uP : Md) (x1 : Int32) (x2 : Int32) (r : Int64) (hf : f8_number_L uX uS uT uV uP x1 x2 = some (Sum.inr r)) (sz : Nat) : Met l yL_number wsH_number rmH_number_L (pXL G (c8 0 G bX bF bS bT bV bP (bT 0) (bV 0) uX uS uT uV uP ++ oL G o fo) sz [.ref (bX 0), .int x1, .int x2, .ref o]) (qW (some (.int 0)) (c8 0 G bX bF bS bT bV bP (bT 0) (bV 0) uX uS uT uV uP ++ oL G o (vp_updL fo 0 r)) (gD G) (tyG G) (va_A (c8 0 G bX bF bS bT bV bP (bT 0) (bV 0) uX uS uT uV uP ++ oL G o fo) sz)) 1 6 (va_A (c8 0 G bX bF bS bT bV bP (bT 0) (bV 0) uX uS uT uV uP ++ oL G o fo) sz) := by
  refine mx_h (cc := cL_number) (ret := some .int) (by decide) rfl (Nat.le_of_ble_eq_true rfl) ?_
  intro p e s m below meth c ls A C htb hl hK hA hT hP hD hS
  have hx := C.1.1
  have hb := C.1.2.1
  have hown := C.1.2.2.2.1
  have hts := C.1.2.2.2.2
  have hl : lv_has ls 5 [(0, .ref (bX 0)), (1, .int x1), (2, .int x2), (3, .ref o)] := hl
  refine lv_aload_n hx hb dL_number_0 rfl (lv_at hl 3 rfl) ?_
  refine lv_iconst (v := (0 : Int32)) hx hb dL_number_1 (by decide) ?_
  refine lv_aload_n hx hb dL_number_2 rfl (lv_at hl 0 rfl) ?_
  refine lv_iload_n hx hb dL_number_3 rfl (lv_at hl 1 rfl) ?_
  refine lv_iload_n hx hb dL_number_4 rfl (lv_at hl 2 rfl) ?_
  refine xr8_V (v := .long r) (rest := [.int (0 : Int32), .ref o]) (w0 := c8 0 G bX bF bS bT bV bP (bT 0) (bV 0) uX uS uT uV uP) C (c8_number_L l G bX bF bS bT bV bP uX uS uT uV uP x1 x2 r _ hf) (cwV 2 hts (gdl_v ml_50 ml_51 ml_52 (mL8 (m8 mx_32)) (mL8 (m8 mx_515))) rfl rfl rfl hd8_number_L ⟨Nat.le_of_ble_eq_true rfl, Nat.le_of_ble_eq_true rfl⟩) hK hA hT.1 hP hD hS (va_recv hK hP (ci := 5) (q0 := 0) rfl rfl) [0, 1, 2, 3, 4, 5, 6, 7, 8, 9, 10, 11, 12, 13, 14, 15, 16, 17, 18, 19, 20, 21, 22, 23, 24, 25, 26, 27, 28, 29, 30, 31] rfl rfl rfl hl.1 rfl (Nat.le_of_ble_eq_true rfl) dL_number_5 ?_
  refine va_last hx hb hK hP hD hS 32 1 rfl rfl vi01 dL_number_8 (fun H locs hP hD hS => ?_)
  replace hP : va_P (gD G) vwCl (c8 0 G bX bF bS bT bV bP (bT 0) (bV 0) uX uS uT uV uP ++ oL G o (vp_updL fo 0 r)) H := hP
  replace hD : va_D A (c8 0 G bX bF bS bT bV bP (bT 0) (bV 0) uX uS uT uV uP ++ oL G o (vp_updL fo 0 r)) := hD
  refine lv_goto (tgt := 16) hx hb dL_number_9 (by decide) ?_
  refine lv_iconst (v := (0 : Int32)) hx hb dL_number_16 (by decide) ?_
  refine W.widen (k := 1) (n := 6) (Nat.le_of_ble_eq_true rfl) (Nat.le_of_ble_eq_true rfl) ?_
  exact W.iret C.1.1 C.1.2.1 C.2.1 (fun t ht hW => ⟨rfl, ⟨by rw [ht]; exact hP, va_K.moved hW.alike hK, hD⟩, hS.F ht⟩) hS.2.2 dL_number_17 C.2.2
set_option maxHeartbeats 4000000 in
set_option maxRecDepth 100000 in
theorem ht1_number_L (l : Launch) (hL0 : l.stackTraces = false) (G : Gx) (bX bF bS bT bV bP : Nat → Nat) (o : Nat) (fo : Nat → Int64) (uX uS uT uV uP : Md) (x1 : Int32) (x2 : Int32) (hf : f8_number_L uX uS uT uV uP x1 x2 = some (Sum.inl 1)) (sz : Nat) : Met l yL_number wsH_number rmH_number_L (pXL G (c8 0 G bX bF bS bT bV bP (bT 0) (bV 0) uX uS uT uV uP ++ oL G o fo) sz [.ref (bX 0), .int x1, .int x2, .ref o]) (qW (some (.int 1)) (c8 0 G bX bF bS bT bV bP (bT 0) (bV 0) uX uS uT uV uP ++ oL G o fo) (gD G) (tyG G) (va_A (c8 0 G bX bF bS bT bV bP (bT 0) (bV 0) uX uS uT uV uP ++ oL G o fo) sz)) 1 6 (va_A (c8 0 G bX bF bS bT bV bP (bT 0) (bV 0) uX uS uT uV uP ++ oL G o fo) sz) := by
  refine mx_h (cc := cL_number) (ret := some .int) (by decide) rfl (Nat.le_of_ble_eq_true rfl) ?_
  intro p e s m below meth c ls A C htb hl hK hA hT hP hD hS
  have hx := C.1.1
  have hb := C.1.2.1
  have hown := C.1.2.2.2.1
  have hts := C.1.2.2.2.2
  have hl : lv_has ls 5 [(0, .ref (bX 0)), (1, .int x1), (2, .int x2), (3, .ref o)] := hl
  refine lv_aload_n hx hb dL_number_0 rfl (lv_at hl 3 rfl) ?_
  refine lv_iconst (v := (0 : Int32)) hx hb dL_number_1 (by decide) ?_
  refine lv_aload_n hx hb dL_number_2 rfl (lv_at hl 0 rfl) ?_
  refine lv_iload_n hx hb dL_number_3 rfl (lv_at hl 1 rfl) ?_
  refine lv_iload_n hx hb dL_number_4 rfl (lv_at hl 2 rfl) ?_
  refine xh8_V (ek := 1) (w0 := c8 0 G bX bF bS bT bV bP (bT 0) (bV 0) uX uS uT uV uP) (rest := [.int (0 : Int32), .ref o]) (pre := (tableOf [(0, 9, 12, 13)]).take 0) (x := ((tableOf [(0, 9, 12, 13)]).drop 0).headD default) (suf := (tableOf [(0, 9, 12, 13)]).drop 1) C (t8_number_L l hL0 G bX bF bS bT bV bP uX uS uT uV uP x1 x2 1 _ hf) (cwV 2 hts (gdl_v ml_50 ml_51 ml_52 (mL8 (m8 mx_32)) (mL8 (m8 mx_515))) rfl rfl rfl hd8_number_L ⟨Nat.le_of_ble_eq_true rfl, Nat.le_of_ble_eq_true rfl⟩) hK hA hT.1 hP hD hS (va_recv hK hP (ci := 5) (q0 := 0) rfl rfl) [0, 1, 2, 3, 4, 5, 6, 7, 8, 9, 10, 11, 12, 13, 14, 15, 16, 17, 18, 19, 20, 21, 22, 23, 24, 25, 26, 27, 28, 29, 30, 31] rfl rfl rfl hl.1 rfl (Nat.le_of_ble_eq_true rfl) ⟨Nat.le_of_ble_eq_true rfl, Nat.le_of_ble_eq_true rfl⟩ dL_number_5 (by rw [htb]; rfl) (fun z hz => absurd hz List.not_mem_nil) (by decide) (by decide) (hts _ (List.mem_cons_of_mem _ ml_28)) (va_Nw.use rfl (hT.1.2.1.2 _ (by decide +kernel))) (fun q9 H hP hS => ?_)
  refine W.eq (g2 := F0 m 12 ls [.ref q9]) rfl ?_
  refine lv_astore (lv' := [(4, .ref q9), (0, .ref (bX 0)), (1, .int x1), (2, .int x2), (3, .ref o)]) hx hb dL_number_12 hl (by decide) rfl (fun ls hl => ?_)
  refine lv_iconst (v := (1 : Int32)) hx hb dL_number_14 (by decide) ?_
  exact W.iret C.1.1 C.1.2.1 C.2.1 (fun t ht hW => ⟨rfl, ⟨by rw [ht]; exact hP, va_K.moved hW.alike hK, hD⟩, hS.F ht⟩) hS.2.2 dL_number_15 C.2.2
noncomputable abbrev wsH_text : List Cond := Cond.codeWith yL_text cL_text 6 (some .int) [(0, 12, 15, 13)] :: WL
abbrev rmH_text_L : Room := { frames := 8, cells := 1, slots := 6, locals := 154 }
set_option maxHeartbeats 4000000 in
set_option maxRecDepth 100000 in
theorem hr_text_L (l : Launch) (G : Gx) (bX bF bS bT bV bP : Nat → Nat) (o : Nat) (fo : Nat → Int64) (uX uS uT uV uP : Md) (x1 : Int32) (x2 : Int32) (x3 : Int32) (r : Int32) (hf : f8_text_L uX uS uT uV uP x1 x2 x3 = some (Sum.inr r)) (sz : Nat) : Met l yL_text wsH_text rmH_text_L (pXL G (c8 0 G bX bF bS bT bV bP (bT 0) (bV 0) uX uS uT uV uP ++ oL G o fo) sz [.ref (bX 0), .int x1, .int x2, .int x3, .ref o]) (qW (some (.int 0)) (c8 0 G bX bF bS bT bV bP (bT 0) (bV 0) uX uS uT uV uP ++ oL G o (vp_updL fo 0 r.toInt64)) (gD G) (tyG G) (va_A (c8 0 G bX bF bS bT bV bP (bT 0) (bV 0) uX uS uT uV uP ++ oL G o fo) sz)) 1 6 (va_A (c8 0 G bX bF bS bT bV bP (bT 0) (bV 0) uX uS uT uV uP ++ oL G o fo) sz) := by
  refine mx_h (cc := cL_text) (ret := some .int) (by decide) rfl (Nat.le_of_ble_eq_true rfl) ?_
  intro p e s m below meth c ls A C htb hl hK hA hT hP hD hS
  have hx := C.1.1
  have hb := C.1.2.1
  have hown := C.1.2.2.2.1
  have hts := C.1.2.2.2.2
  have hl : lv_has ls 6 [(0, .ref (bX 0)), (1, .int x1), (2, .int x2), (3, .int x3), (4, .ref o)] := hl
  refine lv_aload hx hb dL_text_0 (lv_at hl 4 rfl) ?_
  refine lv_iconst (v := (0 : Int32)) hx hb dL_text_2 (by decide) ?_
  refine lv_aload_n hx hb dL_text_3 rfl (lv_at hl 0 rfl) ?_
  refine lv_iload_n hx hb dL_text_4 rfl (lv_at hl 1 rfl) ?_
  refine lv_iload_n hx hb dL_text_5 rfl (lv_at hl 2 rfl) ?_
  refine lv_iload_n hx hb dL_text_6 rfl (lv_at hl 3 rfl) ?_
  refine xr8_V (v := .int r) (rest := [.int (0 : Int32), .ref o]) (w0 := c8 0 G bX bF bS bT bV bP (bT 0) (bV 0) uX uS uT uV uP) C (c8_text_L l G bX bF bS bT bV bP uX uS uT uV uP x1 x2 x3 r _ hf) (cwV 3 hts (gdl_v ml_59 ml_60 ml_61 (mL8 (m8 mx_32)) (mL8 (m8 mx_520))) rfl rfl rfl hd8_text_L ⟨Nat.le_of_ble_eq_true rfl, Nat.le_of_ble_eq_true rfl⟩) hK hA hT.1 hP hD hS (va_recv hK hP (ci := 5) (q0 := 0) rfl rfl) [0, 1, 2, 3, 4, 5, 6, 7, 8, 9, 10, 11, 12, 13, 14, 15, 16, 17, 18, 19, 20, 21, 22, 23, 24, 25, 26, 27, 28, 29, 30, 31] rfl rfl rfl hl.1 rfl (Nat.le_of_ble_eq_true rfl) dL_text_7 ?_
  refine lv_i2l (v := r.toInt64) hx hb dL_text_10 rfl ?_
  refine va_last hx hb hK hP hD hS 32 1 rfl rfl vi01 dL_text_11 (fun H locs hP hD hS => ?_)
  replace hP : va_P (gD G) vwCl (c8 0 G bX bF bS bT bV bP (bT 0) (bV 0) uX uS uT uV uP ++ oL G o (vp_updL fo 0 r.toInt64)) H := hP
  replace hD : va_D A (c8 0 G bX bF bS bT bV bP (bT 0) (bV 0) uX uS uT uV uP ++ oL G o (vp_updL fo 0 r.toInt64)) := hD
  refine lv_goto (tgt := 19) hx hb dL_text_12 (by decide) ?_
  refine lv_iconst (v := (0 : Int32)) hx hb dL_text_19 (by decide) ?_
  refine W.widen (k := 1) (n := 6) (Nat.le_of_ble_eq_true rfl) (Nat.le_of_ble_eq_true rfl) ?_
  exact W.iret C.1.1 C.1.2.1 C.2.1 (fun t ht hW => ⟨rfl, ⟨by rw [ht]; exact hP, va_K.moved hW.alike hK, hD⟩, hS.F ht⟩) hS.2.2 dL_text_20 C.2.2
set_option maxHeartbeats 4000000 in
set_option maxRecDepth 100000 in
theorem ht1_text_L (l : Launch) (hL0 : l.stackTraces = false) (G : Gx) (bX bF bS bT bV bP : Nat → Nat) (o : Nat) (fo : Nat → Int64) (uX uS uT uV uP : Md) (x1 : Int32) (x2 : Int32) (x3 : Int32) (hf : f8_text_L uX uS uT uV uP x1 x2 x3 = some (Sum.inl 1)) (sz : Nat) : Met l yL_text wsH_text rmH_text_L (pXL G (c8 0 G bX bF bS bT bV bP (bT 0) (bV 0) uX uS uT uV uP ++ oL G o fo) sz [.ref (bX 0), .int x1, .int x2, .int x3, .ref o]) (qW (some (.int 1)) (c8 0 G bX bF bS bT bV bP (bT 0) (bV 0) uX uS uT uV uP ++ oL G o fo) (gD G) (tyG G) (va_A (c8 0 G bX bF bS bT bV bP (bT 0) (bV 0) uX uS uT uV uP ++ oL G o fo) sz)) 1 6 (va_A (c8 0 G bX bF bS bT bV bP (bT 0) (bV 0) uX uS uT uV uP ++ oL G o fo) sz) := by
  refine mx_h (cc := cL_text) (ret := some .int) (by decide) rfl (Nat.le_of_ble_eq_true rfl) ?_
  intro p e s m below meth c ls A C htb hl hK hA hT hP hD hS
  have hx := C.1.1
  have hb := C.1.2.1
  have hown := C.1.2.2.2.1
  have hts := C.1.2.2.2.2
  have hl : lv_has ls 6 [(0, .ref (bX 0)), (1, .int x1), (2, .int x2), (3, .int x3), (4, .ref o)] := hl
  refine lv_aload hx hb dL_text_0 (lv_at hl 4 rfl) ?_
  refine lv_iconst (v := (0 : Int32)) hx hb dL_text_2 (by decide) ?_
  refine lv_aload_n hx hb dL_text_3 rfl (lv_at hl 0 rfl) ?_
  refine lv_iload_n hx hb dL_text_4 rfl (lv_at hl 1 rfl) ?_
  refine lv_iload_n hx hb dL_text_5 rfl (lv_at hl 2 rfl) ?_
  refine lv_iload_n hx hb dL_text_6 rfl (lv_at hl 3 rfl) ?_
  refine xh8_V (ek := 1) (w0 := c8 0 G bX bF bS bT bV bP (bT 0) (bV 0) uX uS uT uV uP) (rest := [.int (0 : Int32), .ref o]) (pre := (tableOf [(0, 12, 15, 13)]).take 0) (x := ((tableOf [(0, 12, 15, 13)]).drop 0).headD default) (suf := (tableOf [(0, 12, 15, 13)]).drop 1) C (t8_text_L l hL0 G bX bF bS bT bV bP uX uS uT uV uP x1 x2 x3 1 _ hf) (cwV 3 hts (gdl_v ml_59 ml_60 ml_61 (mL8 (m8 mx_32)) (mL8 (m8 mx_520))) rfl rfl rfl hd8_text_L ⟨Nat.le_of_ble_eq_true rfl, Nat.le_of_ble_eq_true rfl⟩) hK hA hT.1 hP hD hS (va_recv hK hP (ci := 5) (q0 := 0) rfl rfl) [0, 1, 2, 3, 4, 5, 6, 7, 8, 9, 10, 11, 12, 13, 14, 15, 16, 17, 18, 19, 20, 21, 22, 23, 24, 25, 26, 27, 28, 29, 30, 31] rfl rfl rfl hl.1 rfl (Nat.le_of_ble_eq_true rfl) ⟨Nat.le_of_ble_eq_true rfl, Nat.le_of_ble_eq_true rfl⟩ dL_text_7 (by rw [htb]; rfl) (fun z hz => absurd hz List.not_mem_nil) (by decide) (by decide) (hts _ (List.mem_cons_of_mem _ ml_28)) (va_Nw.use rfl (hT.1.2.1.2 _ (by decide +kernel))) (fun q9 H hP hS => ?_)
  refine W.eq (g2 := F0 m 15 ls [.ref q9]) rfl ?_
  refine lv_astore (lv' := [(5, .ref q9), (0, .ref (bX 0)), (1, .int x1), (2, .int x2), (3, .int x3), (4, .ref o)]) hx hb dL_text_15 hl (by decide) rfl (fun ls hl => ?_)
  refine lv_iconst (v := (1 : Int32)) hx hb dL_text_17 (by decide) ?_
  exact W.iret C.1.1 C.1.2.1 C.2.1 (fun t ht hW => ⟨rfl, ⟨by rw [ht]; exact hP, va_K.moved hW.alike hK, hD⟩, hS.F ht⟩) hS.2.2 dL_text_18 C.2.2
noncomputable abbrev wsH_unknown : List Cond := Cond.codeWith yL_unknown cL_unknown 5 (some .int) [(0, 10, 13, 13), (0, 10, 17, 30)] :: WL
abbrev rmH_unknown_L : Room := { frames := 8, cells := 1, slots := 6, locals := 134 }
set_option maxHeartbeats 4000000 in
set_option maxRecDepth 100000 in
theorem hr_unknown_L (l : Launch) (G : Gx) (bX bF bS bT bV bP : Nat → Nat) (o : Nat) (fo : Nat → Int64) (uX uS uT uV uP : Md) (x1 : Int32) (x2 : Int32) (r : Int32) (hf : f8_unknown_L uX uS uT uV uP x1 x2 = some (Sum.inr r)) (sz : Nat) : Met l yL_unknown wsH_unknown rmH_unknown_L (pXL G (c8 0 G bX bF bS bT bV bP (bT 0) (bV 0) uX uS uT uV uP ++ oL G o fo) sz [.ref (bX 0), .int x1, .int x2, .ref o]) (qW (some (.int 0)) (c8 0 G bX bF bS bT bV bP (bT 0) (bV 0) uX uS uT uV uP ++ oL G o (vp_updL fo 0 r.toInt64)) (gD G) (tyG G) (va_A (c8 0 G bX bF bS bT bV bP (bT 0) (bV 0) uX uS uT uV uP ++ oL G o fo) sz)) 1 6 (va_A (c8 0 G bX bF bS bT bV bP (bT 0) (bV 0) uX uS uT uV uP ++ oL G o fo) sz) := by
  refine mx_h (cc := cL_unknown) (ret := some .int) (by decide) rfl (Nat.le_of_ble_eq_true rfl) ?_
  intro p e s m below meth c ls A C htb hl hK hA hT hP hD hS
  have hx := C.1.1
  have hb := C.1.2.1
  have hown := C.1.2.2.2.1
  have hts := C.1.2.2.2.2
  have hl : lv_has ls 5 [(0, .ref (bX 0)), (1, .int x1), (2, .int x2), (3, .ref o)] := hl
  refine lv_aload_n hx hb dL_unknown_0 rfl (lv_at hl 3 rfl) ?_
  refine lv_iconst (v := (0 : Int32)) hx hb dL_unknown_1 (by decide) ?_
  refine lv_aload_n hx hb dL_unknown_2 rfl (lv_at hl 0 rfl) ?_
  refine lv_iload_n hx hb dL_unknown_3 rfl (lv_at hl 1 rfl) ?_
  refine lv_iload_n hx hb dL_unknown_4 rfl (lv_at hl 2 rfl) ?_
  refine xr8_V (v := .int r) (rest := [.int (0 : Int32), .ref o]) (w0 := c8 0 G bX bF bS bT bV bP (bT 0) (bV 0) uX uS uT uV uP) C (c8_unknown_L l G bX bF bS bT bV bP uX uS uT uV uP x1 x2 r _ hf) (cwV 2 hts (gdl_v ml_75 ml_76 ml_77 (mL8 (m8 mx_32)) (mL8 (m8 mx_524))) rfl rfl rfl hd8_unknown_L ⟨Nat.le_of_ble_eq_true rfl, Nat.le_of_ble_eq_true rfl⟩) hK hA hT.1 hP hD hS (va_recv hK hP (ci := 5) (q0 := 0) rfl rfl) [0, 1, 2, 3, 4, 5, 6, 7, 8, 9, 10, 11, 12, 13, 14, 15, 16, 17, 18, 19, 20, 21, 22, 23, 24, 25, 26, 27, 28, 29, 30, 31] rfl rfl rfl hl.1 rfl (Nat.le_of_ble_eq_true rfl) dL_unknown_5 ?_
  refine lv_i2l (v := r.toInt64) hx hb dL_unknown_8 rfl ?_
  refine va_last hx hb hK hP hD hS 32 1 rfl rfl vi01 dL_unknown_9 (fun H locs hP hD hS => ?_)
  replace hP : va_P (gD G) vwCl (c8 0 G bX bF bS bT bV bP (bT 0) (bV 0) uX uS uT uV uP ++ oL G o (vp_updL fo 0 r.toInt64)) H := hP
  replace hD : va_D A (c8 0 G bX bF bS bT bV bP (bT 0) (bV 0) uX uS uT uV uP ++ oL G o (vp_updL fo 0 r.toInt64)) := hD
  refine lv_goto (tgt := 21) hx hb dL_unknown_10 (by decide) ?_
  refine lv_iconst (v := (0 : Int32)) hx hb dL_unknown_21 (by decide) ?_
  refine W.widen (k := 1) (n := 6) (Nat.le_of_ble_eq_true rfl) (Nat.le_of_ble_eq_true rfl) ?_
  exact W.iret C.1.1 C.1.2.1 C.2.1 (fun t ht hW => ⟨rfl, ⟨by rw [ht]; exact hP, va_K.moved hW.alike hK, hD⟩, hS.F ht⟩) hS.2.2 dL_unknown_22 C.2.2
set_option maxHeartbeats 4000000 in
set_option maxRecDepth 100000 in
theorem ht1_unknown_L (l : Launch) (hL0 : l.stackTraces = false) (G : Gx) (bX bF bS bT bV bP : Nat → Nat) (o : Nat) (fo : Nat → Int64) (uX uS uT uV uP : Md) (x1 : Int32) (x2 : Int32) (hf : f8_unknown_L uX uS uT uV uP x1 x2 = some (Sum.inl 1)) (sz : Nat) : Met l yL_unknown wsH_unknown rmH_unknown_L (pXL G (c8 0 G bX bF bS bT bV bP (bT 0) (bV 0) uX uS uT uV uP ++ oL G o fo) sz [.ref (bX 0), .int x1, .int x2, .ref o]) (qW (some (.int 1)) (c8 0 G bX bF bS bT bV bP (bT 0) (bV 0) uX uS uT uV uP ++ oL G o fo) (gD G) (tyG G) (va_A (c8 0 G bX bF bS bT bV bP (bT 0) (bV 0) uX uS uT uV uP ++ oL G o fo) sz)) 1 6 (va_A (c8 0 G bX bF bS bT bV bP (bT 0) (bV 0) uX uS uT uV uP ++ oL G o fo) sz) := by
  refine mx_h (cc := cL_unknown) (ret := some .int) (by decide) rfl (Nat.le_of_ble_eq_true rfl) ?_
  intro p e s m below meth c ls A C htb hl hK hA hT hP hD hS
  have hx := C.1.1
  have hb := C.1.2.1
  have hown := C.1.2.2.2.1
  have hts := C.1.2.2.2.2
  have hl : lv_has ls 5 [(0, .ref (bX 0)), (1, .int x1), (2, .int x2), (3, .ref o)] := hl
  refine lv_aload_n hx hb dL_unknown_0 rfl (lv_at hl 3 rfl) ?_
  refine lv_iconst (v := (0 : Int32)) hx hb dL_unknown_1 (by decide) ?_
  refine lv_aload_n hx hb dL_unknown_2 rfl (lv_at hl 0 rfl) ?_
  refine lv_iload_n hx hb dL_unknown_3 rfl (lv_at hl 1 rfl) ?_
  refine lv_iload_n hx hb dL_unknown_4 rfl (lv_at hl 2 rfl) ?_
  refine xh8_V (ek := 1) (w0 := c8 0 G bX bF bS bT bV bP (bT 0) (bV 0) uX uS uT uV uP) (rest := [.int (0 : Int32), .ref o]) (pre := (tableOf [(0, 10, 13, 13), (0, 10, 17, 30)]).take 0) (x := ((tableOf [(0, 10, 13, 13), (0, 10, 17, 30)]).drop 0).headD default) (suf := (tableOf [(0, 10, 13, 13), (0, 10, 17, 30)]).drop 1) C (t8_unknown_L l hL0 G bX bF bS bT bV bP uX uS uT uV uP x1 x2 1 _ hf) (cwV 2 hts (gdl_v ml_75 ml_76 ml_77 (mL8 (m8 mx_32)) (mL8 (m8 mx_524))) rfl rfl rfl hd8_unknown_L ⟨Nat.le_of_ble_eq_true rfl, Nat.le_of_ble_eq_true rfl⟩) hK hA hT.1 hP hD hS (va_recv hK hP (ci := 5) (q0 := 0) rfl rfl) [0, 1, 2, 3, 4, 5, 6, 7, 8, 9, 10, 11, 12, 13, 14, 15, 16, 17, 18, 19, 20, 21, 22, 23, 24, 25, 26, 27, 28, 29, 30, 31] rfl rfl rfl hl.1 rfl (Nat.le_of_ble_eq_true rfl) ⟨Nat.le_of_ble_eq_true rfl, Nat.le_of_ble_eq_true rfl⟩ dL_unknown_5 (by rw [htb]; rfl) (fun z hz => absurd hz List.not_mem_nil) (by decide) (by decide) (hts _ (List.mem_cons_of_mem _ ml_28)) (va_Nw.use rfl (hT.1.2.1.2 _ (by decide +kernel))) (fun q9 H hP hS => ?_)
  refine W.eq (g2 := F0 m 13 ls [.ref q9]) rfl ?_
  refine lv_astore (lv' := [(4, .ref q9), (0, .ref (bX 0)), (1, .int x1), (2, .int x2), (3, .ref o)]) hx hb dL_unknown_13 hl (by decide) rfl (fun ls hl => ?_)
  refine lv_iconst (v := (1 : Int32)) hx hb dL_unknown_15 (by decide) ?_
  exact W.iret C.1.1 C.1.2.1 C.2.1 (fun t ht hW => ⟨rfl, ⟨by rw [ht]; exact hP, va_K.moved hW.alike hK, hD⟩, hS.F ht⟩) hS.2.2 dL_unknown_16 C.2.2
set_option maxHeartbeats 4000000 in
set_option maxRecDepth 100000 in
theorem ht2_unknown_L (l : Launch) (hL0 : l.stackTraces = false) (G : Gx) (bX bF bS bT bV bP : Nat → Nat) (o : Nat) (fo : Nat → Int64) (uX uS uT uV uP : Md) (x1 : Int32) (x2 : Int32) (hf : f8_unknown_L uX uS uT uV uP x1 x2 = some (Sum.inl 2)) (sz : Nat) : Met l yL_unknown wsH_unknown rmH_unknown_L (pXL G (c8 0 G bX bF bS bT bV bP (bT 0) (bV 0) uX uS uT uV uP ++ oL G o fo) sz [.ref (bX 0), .int x1, .int x2, .ref o]) (qW (some (.int 2)) (c8 0 G bX bF bS bT bV bP (bT 0) (bV 0) uX uS uT uV uP ++ oL G o fo) (gD G) (tyG G) (va_A (c8 0 G bX bF bS bT bV bP (bT 0) (bV 0) uX uS uT uV uP ++ oL G o fo) sz)) 1 6 (va_A (c8 0 G bX bF bS bT bV bP (bT 0) (bV 0) uX uS uT uV uP ++ oL G o fo) sz) := by
  refine mx_h (cc := cL_unknown) (ret := some .int) (by decide) rfl (Nat.le_of_ble_eq_true rfl) ?_
  intro p e s m below meth c ls A C htb hl hK hA hT hP hD hS
  have hx := C.1.1
  have hb := C.1.2.1
  have hown := C.1.2.2.2.1
  have hts := C.1.2.2.2.2
  have hl : lv_has ls 5 [(0, .ref (bX 0)), (1, .int x1), (2, .int x2), (3, .ref o)] := hl
  refine lv_aload_n hx hb dL_unknown_0 rfl (lv_at hl 3 rfl) ?_
  refine lv_iconst (v := (0 : Int32)) hx hb dL_unknown_1 (by decide) ?_
  refine lv_aload_n hx hb dL_unknown_2 rfl (lv_at hl 0 rfl) ?_
  refine lv_iload_n hx hb dL_unknown_3 rfl (lv_at hl 1 rfl) ?_
  refine lv_iload_n hx hb dL_unknown_4 rfl (lv_at hl 2 rfl) ?_
  refine xh8_V (ek := 2) (w0 := c8 0 G bX bF bS bT bV bP (bT 0) (bV 0) uX uS uT uV uP) (rest := [.int (0 : Int32), .ref o]) (pre := (tableOf [(0, 10, 13, 13), (0, 10, 17, 30)]).take 1) (x := ((tableOf [(0, 10, 13, 13), (0, 10, 17, 30)]).drop 1).headD default) (suf := (tableOf [(0, 10, 13, 13), (0, 10, 17, 30)]).drop 2) C (t8_unknown_L l hL0 G bX bF bS bT bV bP uX uS uT uV uP x1 x2 2 _ hf) (cwV 2 hts (gdl_v ml_75 ml_76 ml_77 (mL8 (m8 mx_32)) (mL8 (m8 mx_524))) rfl rfl rfl hd8_unknown_L ⟨Nat.le_of_ble_eq_true rfl, Nat.le_of_ble_eq_true rfl⟩) hK hA hT.1 hP hD hS (va_recv hK hP (ci := 5) (q0 := 0) rfl rfl) [0, 1, 2, 3, 4, 5, 6, 7, 8, 9, 10, 11, 12, 13, 14, 15, 16, 17, 18, 19, 20, 21, 22, 23, 24, 25, 26, 27, 28, 29, 30, 31] rfl rfl rfl hl.1 rfl (Nat.le_of_ble_eq_true rfl) ⟨Nat.le_of_ble_eq_true rfl, Nat.le_of_ble_eq_true rfl⟩ dL_unknown_5 (by rw [htb]; rfl) (fun z hz => by
      rcases List.mem_singleton.mp hz with rfl
      exact Or.inr ⟨by decide, exN 1, hts _ (List.mem_cons_of_mem _ ml_28), hT.2 (exN 2, exN 1) (by decide +kernel)⟩) (by decide) (by decide) (hts _ (List.mem_cons_of_mem _ ml_74)) (va_Nw.use rfl (hT.1.2.1.2 _ (by decide +kernel))) (fun q9 H hP hS => ?_)
  refine W.eq (g2 := F0 m 17 ls [.ref q9]) rfl ?_
  refine lv_astore (lv' := [(4, .ref q9), (0, .ref (bX 0)), (1, .int x1), (2, .int x2), (3, .ref o)]) hx hb dL_unknown_17 hl (by decide) rfl (fun ls hl => ?_)
  refine lv_iconst (v := (2 : Int32)) hx hb dL_unknown_19 (by decide) ?_
  exact W.iret C.1.1 C.1.2.1 C.2.1 (fun t ht hW => ⟨rfl, ⟨by rw [ht]; exact hP, va_K.moved hW.alike hK, hD⟩, hS.F ht⟩) hS.2.2 dL_unknown_20 C.2.2
noncomputable abbrev wsH_write : List Cond := Cond.codeWith yL_write cL_write 4 (some .int) [(0, 9, 12, 13), (0, 9, 15, 30)] :: WL
abbrev rmH_write_L : Room := { frames := 8, cells := 1, slots := 6, locals := 180 }
set_option maxHeartbeats 4000000 in
set_option maxRecDepth 100000 in
theorem hr_write_L (l : Launch) (G : Gx) (bX bF bS bT bV bP : Nat → Nat) (o : Nat) (fo : Nat → Int64) (uX uS uT uV uP : Md) (x1 : Int32) (r : Int32) (vX : Md) (vP : Md) (hf : f8_write_L uX uS uT uV uP x1 = some (Sum.inr (r, vX, vP))) (sz : Nat) : Met l yL_write wsH_write rmH_write_L (pXL G (c8 0 G bX bF bS bT bV bP (bT 0) (bV 0) uX uS uT uV uP ++ oL G o fo) sz [.ref (bX 0), .int x1, .ref o]) (qW (some (.int 0)) (c8 0 G bX bF bS bT bV bP (bT 0) (bV 0) vX uS uT uV vP ++ oL G o (vp_updL fo 0 r.toInt64)) (gD G) (tyG G) (va_A (c8 0 G bX bF bS bT bV bP (bT 0) (bV 0) uX uS uT uV uP ++ oL G o fo) sz)) 1 6 (va_A (c8 0 G bX bF bS bT bV bP (bT 0) (bV 0) uX uS uT uV uP ++ oL G o fo) sz) := by
  refine mx_h (cc := cL_write) (ret := some .int) (by decide) rfl (Nat.le_of_ble_eq_true rfl) ?_
  intro p e s m below meth c ls A C htb hl hK hA hT hP hD hS
  have hx := C.1.1
  have hb := C.1.2.1
  have hown := C.1.2.2.2.1
  have hts := C.1.2.2.2.2
  have hl : lv_has ls 4 [(0, .ref (bX 0)), (1, .int x1), (2, .ref o)] := hl
  refine lv_aload_n hx hb dL_write_0 rfl (lv_at hl 2 rfl) ?_
  refine lv_iconst (v := (0 : Int32)) hx hb dL_write_1 (by decide) ?_
  refine lv_aload_n hx hb dL_write_2 rfl (lv_at hl 0 rfl) ?_
  refine lv_iload_n hx hb dL_write_3 rfl (lv_at hl 1 rfl) ?_
  refine xw8_V (ov := some (.int r)) (st1 := [.int r, .int (0 : Int32), .ref o]) (rest := [.int (0 : Int32), .ref o]) (w0 := c8 0 G bX bF bS bT bV bP (bT 0) (bV 0) uX uS uT uV uP) (w1 := c8 0 G bX bF bS bT bV bP (bT 0) (bV 0) vX uS uT uV vP) (wr := oL G o fo) (w' := (c8 0 G bX bF bS bT bV bP (bT 0) (bV 0) vX uS uT uV vP ++ oL G o fo)) C (c8_write_L l G bX bF bS bT bV bP uX uS uT uV uP x1 r vX vP _ hf) (cwV 1 hts (gdl_v ml_84 ml_85 ml_86 (mL8 (m8 mx_32)) (mL8 (m8 mx_530))) rfl rfl rfl hd8_write_L ⟨Nat.le_of_ble_eq_true rfl, Nat.le_of_ble_eq_true rfl⟩) hK hA hT.1 hP hD hS (va_recv hK hP (ci := 5) (q0 := 0) rfl rfl) [0, 1, 2, 3, 4, 5, 6, 7, 8, 9, 10, 11, 12, 13, 14, 15, 16, 17, 18, 19, 20, 21, 22, 23, 24, 25, 26, 27, 28, 29, 30, 31] [32] [1, 2, 3, 4, 5, 6, 7, 8, 9, 10, 11, 12, 13, 14, 15, 16, 17, 18, 19, 20, 21, 22, 23, 24, 25, 26, 27, 28, 29, 30, 31, 32, 0] rfl rfl rfl rfl (by decide) rfl rfl rfl hl.1 rfl rfl (Nat.le_of_ble_eq_true rfl) dL_write_4 (fun H locs hP hD hS => ?_)
  refine lv_i2l (v := r.toInt64) hx hb dL_write_7 rfl ?_
  refine va_last hx hb hK hP hD hS 32 1 rfl rfl vi01 dL_write_8 (fun H locs hP hD hS => ?_)
  replace hP : va_P (gD G) vwCl (c8 0 G bX bF bS bT bV bP (bT 0) (bV 0) vX uS uT uV vP ++ oL G o (vp_updL fo 0 r.toInt64)) H := hP
  replace hD : va_D A (c8 0 G bX bF bS bT bV bP (bT 0) (bV 0) vX uS uT uV vP ++ oL G o (vp_updL fo 0 r.toInt64)) := hD
  refine lv_goto (tgt := 18) hx hb dL_write_9 (by decide) ?_
  refine lv_iconst (v := (0 : Int32)) hx hb dL_write_18 (by decide) ?_
  refine W.widen (k := 1) (n := 6) (Nat.le_of_ble_eq_true rfl) (Nat.le_of_ble_eq_true rfl) ?_
  exact W.iret C.1.1 C.1.2.1 C.2.1 (fun t ht hW => ⟨rfl, ⟨by rw [ht]; exact hP, va_K.moved hW.alike hK, hD⟩, hS.F ht⟩) hS.2.2 dL_write_19 C.2.2
set_option maxHeartbeats 4000000 in
set_option maxRecDepth 100000 in
theorem ht1_write_L (l : Launch) (hL0 : l.stackTraces = false) (G : Gx) (bX bF bS bT bV bP : Nat → Nat) (o : Nat) (fo : Nat → Int64) (uX uS uT uV uP : Md) (x1 : Int32) (hf : f8_write_L uX uS uT uV uP x1 = some (Sum.inl 1)) (sz : Nat) : Met l yL_write wsH_write rmH_write_L (pXL G (c8 0 G bX bF bS bT bV bP (bT 0) (bV 0) uX uS uT uV uP ++ oL G o fo) sz [.ref (bX 0), .int x1, .ref o]) (qW (some (.int 1)) (c8 0 G bX bF bS bT bV bP (bT 0) (bV 0) uX uS uT uV uP ++ oL G o fo) (gD G) (tyG G) (va_A (c8 0 G bX bF bS bT bV bP (bT 0) (bV 0) uX uS uT uV uP ++ oL G o fo) sz)) 1 6 (va_A (c8 0 G bX bF bS bT bV bP (bT 0) (bV 0) uX uS uT uV uP ++ oL G o fo) sz) := by
  refine mx_h (cc := cL_write) (ret := some .int) (by decide) rfl (Nat.le_of_ble_eq_true rfl) ?_
  intro p e s m below meth c ls A C htb hl hK hA hT hP hD hS
  have hx := C.1.1
  have hb := C.1.2.1
  have hown := C.1.2.2.2.1
  have hts := C.1.2.2.2.2
  have hl : lv_has ls 4 [(0, .ref (bX 0)), (1, .int x1), (2, .ref o)] := hl
  refine lv_aload_n hx hb dL_write_0 rfl (lv_at hl 2 rfl) ?_
  refine lv_iconst (v := (0 : Int32)) hx hb dL_write_1 (by decide) ?_
  refine lv_aload_n hx hb dL_write_2 rfl (lv_at hl 0 rfl) ?_
  refine lv_iload_n hx hb dL_write_3 rfl (lv_at hl 1 rfl) ?_
  refine xh8_V (ek := 1) (w0 := c8 0 G bX bF bS bT bV bP (bT 0) (bV 0) uX uS uT uV uP) (rest := [.int (0 : Int32), .ref o]) (pre := (tableOf [(0, 9, 12, 13), (0, 9, 15, 30)]).take 0) (x := ((tableOf [(0, 9, 12, 13), (0, 9, 15, 30)]).drop 0).headD default) (suf := (tableOf [(0, 9, 12, 13), (0, 9, 15, 30)]).drop 1) C (t8_write_L l hL0 G bX bF bS bT bV bP uX uS uT uV uP x1 1 _ hf) (cwV 1 hts (gdl_v ml_84 ml_85 ml_86 (mL8 (m8 mx_32)) (mL8 (m8 mx_530))) rfl rfl rfl hd8_write_L ⟨Nat.le_of_ble_eq_true rfl, Nat.le_of_ble_eq_true rfl⟩) hK hA hT.1 hP hD hS (va_recv hK hP (ci := 5) (q0 := 0) rfl rfl) [0, 1, 2, 3, 4, 5, 6, 7, 8, 9, 10, 11, 12, 13, 14, 15, 16, 17, 18, 19, 20, 21, 22, 23, 24, 25, 26, 27, 28, 29, 30, 31] rfl rfl rfl hl.1 rfl (Nat.le_of_ble_eq_true rfl) ⟨Nat.le_of_ble_eq_true rfl, Nat.le_of_ble_eq_true rfl⟩ dL_write_4 (by rw [htb]; rfl) (fun z hz => absurd hz List.not_mem_nil) (by decide) (by decide) (hts _ (List.mem_cons_of_mem _ ml_28)) (va_Nw.use rfl (hT.1.2.1.2 _ (by decide +kernel))) (fun q9 H hP hS => ?_)
  refine W.eq (g2 := F0 m 12 ls [.ref q9]) rfl ?_
  refine lv_astore_n (lv' := [(3, .ref q9), (0, .ref (bX 0)), (1, .int x1), (2, .ref o)]) hx hb dL_write_12 rfl hl (by decide) rfl (fun ls hl => ?_)
  refine lv_iconst (v := (1 : Int32)) hx hb dL_write_13 (by decide) ?_
  exact W.iret C.1.1 C.1.2.1 C.2.1 (fun t ht hW => ⟨rfl, ⟨by rw [ht]; exact hP, va_K.moved hW.alike hK, hD⟩, hS.F ht⟩) hS.2.2 dL_write_14 C.2.2
set_option maxHeartbeats 4000000 in
set_option maxRecDepth 100000 in
theorem ht2_write_L (l : Launch) (hL0 : l.stackTraces = false) (G : Gx) (bX bF bS bT bV bP : Nat → Nat) (o : Nat) (fo : Nat → Int64) (uX uS uT uV uP : Md) (x1 : Int32) (hf : f8_write_L uX uS uT uV uP x1 = some (Sum.inl 2)) (sz : Nat) : Met l yL_write wsH_write rmH_write_L (pXL G (c8 0 G bX bF bS bT bV bP (bT 0) (bV 0) uX uS uT uV uP ++ oL G o fo) sz [.ref (bX 0), .int x1, .ref o]) (qW (some (.int 2)) (c8 0 G bX bF bS bT bV bP (bT 0) (bV 0) uX uS uT uV uP ++ oL G o fo) (gD G) (tyG G) (va_A (c8 0 G bX bF bS bT bV bP (bT 0) (bV 0) uX uS uT uV uP ++ oL G o fo) sz)) 1 6 (va_A (c8 0 G bX bF bS bT bV bP (bT 0) (bV 0) uX uS uT uV uP ++ oL G o fo) sz) := by
  refine mx_h (cc := cL_write) (ret := some .int) (by decide) rfl (Nat.le_of_ble_eq_true rfl) ?_
  intro p e s m below meth c ls A C htb hl hK hA hT hP hD hS
  have hx := C.1.1
  have hb := C.1.2.1
  have hown := C.1.2.2.2.1
  have hts := C.1.2.2.2.2
  have hl : lv_has ls 4 [(0, .ref (bX 0)), (1, .int x1), (2, .ref o)] := hl
  refine lv_aload_n hx hb dL_write_0 rfl (lv_at hl 2 rfl) ?_
  refine lv_iconst (v := (0 : Int32)) hx hb dL_write_1 (by decide) ?_
  refine lv_aload_n hx hb dL_write_2 rfl (lv_at hl 0 rfl) ?_
  refine lv_iload_n hx hb dL_write_3 rfl (lv_at hl 1 rfl) ?_
  refine xh8_V (ek := 2) (w0 := c8 0 G bX bF bS bT bV bP (bT 0) (bV 0) uX uS uT uV uP) (rest := [.int (0 : Int32), .ref o]) (pre := (tableOf [(0, 9, 12, 13), (0, 9, 15, 30)]).take 1) (x := ((tableOf [(0, 9, 12, 13), (0, 9, 15, 30)]).drop 1).headD default) (suf := (tableOf [(0, 9, 12, 13), (0, 9, 15, 30)]).drop 2) C (t8_write_L l hL0 G bX bF bS bT bV bP uX uS uT uV uP x1 2 _ hf) (cwV 1 hts (gdl_v ml_84 ml_85 ml_86 (mL8 (m8 mx_32)) (mL8 (m8 mx_530))) rfl rfl rfl hd8_write_L ⟨Nat.le_of_ble_eq_true rfl, Nat.le_of_ble_eq_true rfl⟩) hK hA hT.1 hP hD hS (va_recv hK hP (ci := 5) (q0 := 0) rfl rfl) [0, 1, 2, 3, 4, 5, 6, 7, 8, 9, 10, 11, 12, 13, 14, 15, 16, 17, 18, 19, 20, 21, 22, 23, 24, 25, 26, 27, 28, 29, 30, 31] rfl rfl rfl hl.1 rfl (Nat.le_of_ble_eq_true rfl) ⟨Nat.le_of_ble_eq_true rfl, Nat.le_of_ble_eq_true rfl⟩ dL_write_4 (by rw [htb]; rfl) (fun z hz => by
      rcases List.mem_singleton.mp hz with rfl
      exact Or.inr ⟨by decide, exN 1, hts _ (List.mem_cons_of_mem _ ml_28), hT.2 (exN 2, exN 1) (by decide +kernel)⟩) (by decide) (by decide) (hts _ (List.mem_cons_of_mem _ ml_74)) (va_Nw.use rfl (hT.1.2.1.2 _ (by decide +kernel))) (fun q9 H hP hS => ?_)
  refine W.eq (g2 := F0 m 15 ls [.ref q9]) rfl ?_
  refine lv_astore_n (lv' := [(3, .ref q9), (0, .ref (bX 0)), (1, .int x1), (2, .ref o)]) hx hb dL_write_15 rfl hl (by decide) rfl (fun ls hl => ?_)
  refine lv_iconst (v := (2 : Int32)) hx hb dL_write_16 (by decide) ?_
  exact W.iret C.1.1 C.1.2.1 C.2.1 (fun t ht hW => ⟨rfl, ⟨by rw [ht]; exact hP, va_K.moved hW.alike hK, hD⟩, hS.F ht⟩) hS.2.2 dL_write_17 C.2.2
noncomputable abbrev wsH_object : List Cond := Cond.codeWith yL_object cL_object 5 (some .int) [(0, 10, 13, 13), (0, 10, 17, 38)] :: WL
abbrev rmH_object_L : Room := { frames := 8, cells := 1, slots := 6, locals := 177 }
set_option maxHeartbeats 4000000 in
set_option maxRecDepth 100000 in
theorem hr_object_L (l : Launch) (G : Gx) (bX bF bS bT bV bP : Nat → Nat) (o : Nat) (fo : Nat → Int64) (uX uS uT uV uP : Md) (x1 : Int32) (x2 : Int32) (r : Int32) (vX : Md) (vT : Md) (hf : f8_object_L uX uS uT uV uP x1 x2 = some (Sum.inr (r, vX, vT))) (sz : Nat) : Met l yL_object wsH_object rmH_object_L (pXL G (c8 0 G bX bF bS bT bV bP (bT 0) (bV 0) uX uS uT uV uP ++ oL G o fo) sz [.ref (bX 0), .int x1, .int x2, .ref o]) (qW (some (.int 0)) (c8 0 G bX bF bS bT bV bP (bT 0) (bV 0) vX uS vT uV uP ++ oL G o (vp_updL fo 0 r.toInt64)) (gD G) (tyG G) (va_A (c8 0 G bX bF bS bT bV bP (bT 0) (bV 0) uX uS uT uV uP ++ oL G o fo) sz)) 1 6 (va_A (c8 0 G bX bF bS bT bV bP (bT 0) (bV 0) uX uS uT uV uP ++ oL G o fo) sz) := by
  refine mx_h (cc := cL_object) (ret := some .int) (by decide) rfl (Nat.le_of_ble_eq_true rfl) ?_
  intro p e s m below meth c ls A C htb hl hK hA hT hP hD hS
  have hx := C.1.1
  have hb := C.1.2.1
  have hown := C.1.2.2.2.1
  have hts := C.1.2.2.2.2
  have hl : lv_has ls 5 [(0, .ref (bX 0)), (1, .int x1), (2, .int x2), (3, .ref o)] := hl
  refine lv_aload_n hx hb dL_object_0 rfl (lv_at hl 3 rfl) ?_
  refine lv_iconst (v := (0 : Int32)) hx hb dL_object_1 (by decide) ?_
  refine lv_aload_n hx hb dL_object_2 rfl (lv_at hl 0 rfl) ?_
  refine lv_iload_n hx hb dL_object_3 rfl (lv_at hl 1 rfl) ?_
  refine lv_iload_n hx hb dL_object_4 rfl (lv_at hl 2 rfl) ?_
  refine xw8_V (ov := some (.int r)) (st1 := [.int r, .int (0 : Int32), .ref o]) (rest := [.int (0 : Int32), .ref o]) (w0 := c8 0 G bX bF bS bT bV bP (bT 0) (bV 0) uX uS uT uV uP) (w1 := c8 0 G bX bF bS bT bV bP (bT 0) (bV 0) vX uS vT uV uP) (wr := oL G o fo) (w' := (c8 0 G bX bF bS bT bV bP (bT 0) (bV 0) vX uS vT uV uP ++ oL G o fo)) C (c8_object_L l G bX bF bS bT bV bP uX uS uT uV uP x1 x2 r vX vT _ hf) (cwV 2 hts (gdl_v ml_94 ml_95 ml_96 (mL8 (m8 mx_32)) (mL8 (m8 mx_543))) rfl rfl rfl hd8_object_L ⟨Nat.le_of_ble_eq_true rfl, Nat.le_of_ble_eq_true rfl⟩) hK hA hT.1 hP hD hS (va_recv hK hP (ci := 5) (q0 := 0) rfl rfl) [0, 1, 2, 3, 4, 5, 6, 7, 8, 9, 10, 11, 12, 13, 14, 15, 16, 17, 18, 19, 20, 21, 22, 23, 24, 25, 26, 27, 28, 29, 30, 31] [32] [1, 2, 3, 4, 5, 6, 7, 8, 9, 10, 11, 12, 13, 14, 15, 16, 17, 18, 19, 20, 21, 22, 23, 24, 25, 26, 27, 28, 29, 30, 31, 32, 0] rfl rfl rfl rfl (by decide) rfl rfl rfl hl.1 rfl rfl (Nat.le_of_ble_eq_true rfl) dL_object_5 (fun H locs hP hD hS => ?_)
  refine lv_i2l (v := r.toInt64) hx hb dL_object_8 rfl ?_
  refine va_last hx hb hK hP hD hS 32 1 rfl rfl vi01 dL_object_9 (fun H locs hP hD hS => ?_)
  replace hP : va_P (gD G) vwCl (c8 0 G bX bF bS bT bV bP (bT 0) (bV 0) vX uS vT uV uP ++ oL G o (vp_updL fo 0 r.toInt64)) H := hP
  replace hD : va_D A (c8 0 G bX bF bS bT bV bP (bT 0) (bV 0) vX uS vT uV uP ++ oL G o (vp_updL fo 0 r.toInt64)) := hD
  refine lv_goto (tgt := 21) hx hb dL_object_10 (by decide) ?_
  refine lv_iconst (v := (0 : Int32)) hx hb dL_object_21 (by decide) ?_
  refine W.widen (k := 1) (n := 6) (Nat.le_of_ble_eq_true rfl) (Nat.le_of_ble_eq_true rfl) ?_
  exact W.iret C.1.1 C.1.2.1 C.2.1 (fun t ht hW => ⟨rfl, ⟨by rw [ht]; exact hP, va_K.moved hW.alike hK, hD⟩, hS.F ht⟩) hS.2.2 dL_object_22 C.2.2
set_option maxHeartbeats 4000000 in
set_option maxRecDepth 100000 in
theorem ht1_object_L (l : Launch) (hL0 : l.stackTraces = false) (G : Gx) (bX bF bS bT bV bP : Nat → Nat) (o : Nat) (fo : Nat → Int64) (uX uS uT uV uP : Md) (x1 : Int32) (x2 : Int32) (hf : f8_object_L uX uS uT uV uP x1 x2 = some (Sum.inl 1)) (sz : Nat) : Met l yL_object wsH_object rmH_object_L (pXL G (c8 0 G bX bF bS bT bV bP (bT 0) (bV 0) uX uS uT uV uP ++ oL G o fo) sz [.ref (bX 0), .int x1, .int x2, .ref o]) (qW (some (.int 1)) (c8 0 G bX bF bS bT bV bP (bT 0) (bV 0) uX uS uT uV uP ++ oL G o fo) (gD G) (tyG G) (va_A (c8 0 G bX bF bS bT bV bP (bT 0) (bV 0) uX uS uT uV uP ++ oL G o fo) sz)) 1 6 (va_A (c8 0 G bX bF bS bT bV bP (bT 0) (bV 0) uX uS uT uV uP ++ oL G o fo) sz) := by
  refine mx_h (cc := cL_object) (ret := some .int) (by decide) rfl (Nat.le_of_ble_eq_true rfl) ?_
  intro p e s m below meth c ls A C htb hl hK hA hT hP hD hS
  have hx := C.1.1
  have hb := C.1.2.1
  have hown := C.1.2.2.2.1
  have hts := C.1.2.2.2.2
  have hl : lv_has ls 5 [(0, .ref (bX 0)), (1, .int x1), (2, .int x2), (3, .ref o)] := hl
  refine lv_aload_n hx hb dL_object_0 rfl (lv_at hl 3 rfl) ?_
  refine lv_iconst (v := (0 : Int32)) hx hb dL_object_1 (by decide) ?_
  refine lv_aload_n hx hb dL_object_2 rfl (lv_at hl 0 rfl) ?_
  refine lv_iload_n hx hb dL_object_3 rfl (lv_at hl 1 rfl) ?_
  refine lv_iload_n hx hb dL_object_4 rfl (lv_at hl 2 rfl) ?_
  refine xh8_V (ek := 1) (w0 := c8 0 G bX bF bS bT bV bP (bT 0) (bV 0) uX uS uT uV uP) (rest := [.int (0 : Int32), .ref o]) (pre := (tableOf [(0, 10, 13, 13), (0, 10, 17, 38)]).take 0) (x := ((tableOf [(0, 10, 13, 13), (0, 10, 17, 38)]).drop 0).headD default) (suf := (tableOf [(0, 10, 13, 13), (0, 10, 17, 38)]).drop 1) C (t8_object_L l hL0 G bX bF bS bT bV bP uX uS uT uV uP x1 x2 1 _ hf) (cwV 2 hts (gdl_v ml_94 ml_95 ml_96 (mL8 (m8 mx_32)) (mL8 (m8 mx_543))) rfl rfl rfl hd8_object_L ⟨Nat.le_of_ble_eq_true rfl, Nat.le_of_ble_eq_true rfl⟩) hK hA hT.1 hP hD hS (va_recv hK hP (ci := 5) (q0 := 0) rfl rfl) [0, 1, 2, 3, 4, 5, 6, 7, 8, 9, 10, 11, 12, 13, 14, 15, 16, 17, 18, 19, 20, 21, 22, 23, 24, 25, 26, 27, 28, 29, 30, 31] rfl rfl rfl hl.1 rfl (Nat.le_of_ble_eq_true rfl) ⟨Nat.le_of_ble_eq_true rfl, Nat.le_of_ble_eq_true rfl⟩ dL_object_5 (by rw [htb]; rfl) (fun z hz => absurd hz List.not_mem_nil) (by decide) (by decide) (hts _ (List.mem_cons_of_mem _ ml_28)) (va_Nw.use rfl (hT.1.2.1.2 _ (by decide +kernel))) (fun q9 H hP hS => ?_)
  refine W.eq (g2 := F0 m 13 ls [.ref q9]) rfl ?_
  refine lv_astore (lv' := [(4, .ref q9), (0, .ref (bX 0)), (1, .int x1), (2, .int x2), (3, .ref o)]) hx hb dL_object_13 hl (by decide) rfl (fun ls hl => ?_)
  refine lv_iconst (v := (1 : Int32)) hx hb dL_object_15 (by decide) ?_
  exact W.iret C.1.1 C.1.2.1 C.2.1 (fun t ht hW => ⟨rfl, ⟨by rw [ht]; exact hP, va_K.moved hW.alike hK, hD⟩, hS.F ht⟩) hS.2.2 dL_object_16 C.2.2
set_option maxHeartbeats 4000000 in
set_option maxRecDepth 100000 in
theorem ht3_object_L (l : Launch) (hL0 : l.stackTraces = false) (G : Gx) (bX bF bS bT bV bP : Nat → Nat) (o : Nat) (fo : Nat → Int64) (uX uS uT uV uP : Md) (x1 : Int32) (x2 : Int32) (hf : f8_object_L uX uS uT uV uP x1 x2 = some (Sum.inl 3)) (sz : Nat) : Met l yL_object wsH_object rmH_object_L (pXL G (c8 0 G bX bF bS bT bV bP (bT 0) (bV 0) uX uS uT uV uP ++ oL G o fo) sz [.ref (bX 0), .int x1, .int x2, .ref o]) (qW (some (.int 2)) (c8 0 G bX bF bS bT bV bP (bT 0) (bV 0) uX uS uT uV uP ++ oL G o fo) (gD G) (tyG G) (va_A (c8 0 G bX bF bS bT bV bP (bT 0) (bV 0) uX uS uT uV uP ++ oL G o fo) sz)) 1 6 (va_A (c8 0 G bX bF bS bT bV bP (bT 0) (bV 0) uX uS uT uV uP ++ oL G o fo) sz) := by
  refine mx_h (cc := cL_object) (ret := some .int) (by decide) rfl (Nat.le_of_ble_eq_true rfl) ?_
  intro p e s m below meth c ls A C htb hl hK hA hT hP hD hS
  have hx := C.1.1
  have hb := C.1.2.1
  have hown := C.1.2.2.2.1
  have hts := C.1.2.2.2.2
  have hl : lv_has ls 5 [(0, .ref (bX 0)), (1, .int x1), (2, .int x2), (3, .ref o)] := hl
  refine lv_aload_n hx hb dL_object_0 rfl (lv_at hl 3 rfl) ?_
  refine lv_iconst (v := (0 : Int32)) hx hb dL_object_1 (by decide) ?_
  refine lv_aload_n hx hb dL_object_2 rfl (lv_at hl 0 rfl) ?_
  refine lv_iload_n hx hb dL_object_3 rfl (lv_at hl 1 rfl) ?_
  refine lv_iload_n hx hb dL_object_4 rfl (lv_at hl 2 rfl) ?_
  refine xh8_V (ek := 3) (w0 := c8 0 G bX bF bS bT bV bP (bT 0) (bV 0) uX uS uT uV uP) (rest := [.int (0 : Int32), .ref o]) (pre := (tableOf [(0, 10, 13, 13), (0, 10, 17, 38)]).take 1) (x := ((tableOf [(0, 10, 13, 13), (0, 10, 17, 38)]).drop 1).headD default) (suf := (tableOf [(0, 10, 13, 13), (0, 10, 17, 38)]).drop 2) C (t8_object_L l hL0 G bX bF bS bT bV bP uX uS uT uV uP x1 x2 3 _ hf) (cwV 2 hts (gdl_v ml_94 ml_95 ml_96 (mL8 (m8 mx_32)) (mL8 (m8 mx_543))) rfl rfl rfl hd8_object_L ⟨Nat.le_of_ble_eq_true rfl, Nat.le_of_ble_eq_true rfl⟩) hK hA hT.1 hP hD hS (va_recv hK hP (ci := 5) (q0 := 0) rfl rfl) [0, 1, 2, 3, 4, 5, 6, 7, 8, 9, 10, 11, 12, 13, 14, 15, 16, 17, 18, 19, 20, 21, 22, 23, 24, 25, 26, 27, 28, 29, 30, 31] rfl rfl rfl hl.1 rfl (Nat.le_of_ble_eq_true rfl) ⟨Nat.le_of_ble_eq_true rfl, Nat.le_of_ble_eq_true rfl⟩ dL_object_5 (by rw [htb]; rfl) (fun z hz => by
      rcases List.mem_singleton.mp hz with rfl
      exact Or.inr ⟨by decide, exN 1, hts _ (List.mem_cons_of_mem _ ml_28), hT.2 (exN 3, exN 1) (by decide +kernel)⟩) (by decide) (by decide) (hts _ (List.mem_cons_of_mem _ ml_93)) (va_Nw.use rfl (hT.1.2.1.2 _ (by decide +kernel))) (fun q9 H hP hS => ?_)
  refine W.eq (g2 := F0 m 17 ls [.ref q9]) rfl ?_
  refine lv_astore (lv' := [(4, .ref q9), (0, .ref (bX 0)), (1, .int x1), (2, .int x2), (3, .ref o)]) hx hb dL_object_17 hl (by decide) rfl (fun ls hl => ?_)
  refine lv_iconst (v := (2 : Int32)) hx hb dL_object_19 (by decide) ?_
  exact W.iret C.1.1 C.1.2.1 C.2.1 (fun t ht hW => ⟨rfl, ⟨by rw [ht]; exact hP, va_K.moved hW.alike hK, hD⟩, hS.F ht⟩) hS.2.2 dL_object_20 C.2.2
noncomputable abbrev wsH_set : List Cond := Cond.codeWith yL_set cL_set 7 (some .int) [(0, 19, 22, 13)] :: WL
abbrev rmH_set_L : Room := { frames := 8, cells := 1, slots := 6, locals := 159 }
set_option maxHeartbeats 4000000 in
set_option maxRecDepth 100000 in
theorem hr_set_L0 (l : Launch) (G : Gx) (bX bF bS bT bV bP : Nat → Nat) (o : Nat) (fo : Nat → Int64) (uX uS uT uV uP : Md) (x1 : Int32) (x2 : Int32) (x3 : Int64) (r : Int32) (vX : Md) (vT : Md) (hz : r = 0) (hf : f8_set_L uX uS uT uV uP x1 x2 x3 = some (Sum.inr (r, vX, vT))) (sz : Nat) : Met l yL_set wsH_set rmH_set_L (pXL G (c8 0 G bX bF bS bT bV bP (bT 0) (bV 0) uX uS uT uV uP ++ oL G o fo) sz [.ref (bX 0), .int x1, .int x2, .long x3, .ref o]) (qW (some (.int 0)) (c8 0 G bX bF bS bT bV bP (bT 0) (bV 0) vX uS vT uV uP ++ oL G o (vp_updL fo 0 (0 : Int64))) (gD G) (tyG G) (va_A (c8 0 G bX bF bS bT bV bP (bT 0) (bV 0) uX uS uT uV uP ++ oL G o fo) sz)) 1 6 (va_A (c8 0 G bX bF bS bT bV bP (bT 0) (bV 0) uX uS uT uV uP ++ oL G o fo) sz) := by
  refine mx_h (cc := cL_set) (ret := some .int) (by decide) rfl (Nat.le_of_ble_eq_true rfl) ?_
  intro p e s m below meth c ls A C htb hl hK hA hT hP hD hS
  have hx := C.1.1
  have hb := C.1.2.1
  have hown := C.1.2.2.2.1
  have hts := C.1.2.2.2.2
  have hl : lv_has ls 7 [(0, .ref (bX 0)), (1, .int x1), (2, .int x2), (3, .long x3), (5, .ref o)] := hl
  refine lv_aload hx hb dL_set_0 (lv_at hl 4 rfl) ?_
  refine lv_iconst (v := (0 : Int32)) hx hb dL_set_2 (by decide) ?_
  refine lv_aload_n hx hb dL_set_3 rfl (lv_at hl 0 rfl) ?_
  refine lv_iload_n hx hb dL_set_4 rfl (lv_at hl 1 rfl) ?_
  refine lv_iload_n hx hb dL_set_5 rfl (lv_at hl 2 rfl) ?_
  refine lv_lload_n hx hb dL_set_6 rfl (lv_at hl 3 rfl) ?_
  refine xw8_V (ov := some (.int r)) (st1 := [.int r, .int (0 : Int32), .ref o]) (rest := [.int (0 : Int32), .ref o]) (w0 := c8 0 G bX bF bS bT bV bP (bT 0) (bV 0) uX uS uT uV uP) (w1 := c8 0 G bX bF bS bT bV bP (bT 0) (bV 0) vX uS vT uV uP) (wr := oL G o fo) (w' := (c8 0 G bX bF bS bT bV bP (bT 0) (bV 0) vX uS vT uV uP ++ oL G o fo)) C (c8_set_L l G bX bF bS bT bV bP uX uS uT uV uP x1 x2 x3 r vX vT _ hf) (cwV 3 hts (gdl_v ml_103 ml_104 ml_105 (mL8 (m8 mx_32)) (mL8 (m8 mx_550))) rfl rfl rfl hd8_set_L ⟨Nat.le_of_ble_eq_true rfl, Nat.le_of_ble_eq_true rfl⟩) hK hA hT.1 hP hD hS (va_recv hK hP (ci := 5) (q0 := 0) rfl rfl) [0, 1, 2, 3, 4, 5, 6, 7, 8, 9, 10, 11, 12, 13, 14, 15, 16, 17, 18, 19, 20, 21, 22, 23, 24, 25, 26, 27, 28, 29, 30, 31] [32] [1, 2, 3, 4, 5, 6, 7, 8, 9, 10, 11, 12, 13, 14, 15, 16, 17, 18, 19, 20, 21, 22, 23, 24, 25, 26, 27, 28, 29, 30, 31, 32, 0] rfl rfl rfl rfl (by decide) rfl rfl rfl hl.1 rfl rfl (Nat.le_of_ble_eq_true rfl) dL_set_7 (fun H locs hP hD hS => ?_)
  refine lv_if_eq (tgt := 17) hx hb dL_set_10 (by decide) (fun _ => ?_) (fun h9 => absurd hz h9)
  refine lv_lconst (v := (0 : Int64)) hx hb dL_set_17 (by decide) ?_
  refine va_last hx hb hK hP hD hS 32 1 rfl rfl vi01 dL_set_18 (fun H locs hP hD hS => ?_)
  replace hP : va_P (gD G) vwCl (c8 0 G bX bF bS bT bV bP (bT 0) (bV 0) vX uS vT uV uP ++ oL G o (vp_updL fo 0 (0 : Int64))) H := hP
  replace hD : va_D A (c8 0 G bX bF bS bT bV bP (bT 0) (bV 0) vX uS vT uV uP ++ oL G o (vp_updL fo 0 (0 : Int64))) := hD
  refine lv_goto (tgt := 26) hx hb dL_set_19 (by decide) ?_
  refine lv_iconst (v := (0 : Int32)) hx hb dL_set_26 (by decide) ?_
  refine W.widen (k := 1) (n := 6) (Nat.le_of_ble_eq_true rfl) (Nat.le_of_ble_eq_true rfl) ?_
  exact W.iret C.1.1 C.1.2.1 C.2.1 (fun t ht hW => ⟨rfl, ⟨by rw [ht]; exact hP, va_K.moved hW.alike hK, hD⟩, hS.F ht⟩) hS.2.2 dL_set_27 C.2.2
set_option maxHeartbeats 4000000 in
set_option maxRecDepth 100000 in
theorem hr_set_L1 (l : Launch) (G : Gx) (bX bF bS bT bV bP : Nat → Nat) (o : Nat) (fo : Nat → Int64) (uX uS uT uV uP : Md) (x1 : Int32) (x2 : Int32) (x3 : Int64) (r : Int32) (vX : Md) (vT : Md) (hz : ¬ r = 0) (hf : f8_set_L uX uS uT uV uP x1 x2 x3 = some (Sum.inr (r, vX, vT))) (sz : Nat) : Met l yL_set wsH_set rmH_set_L (pXL G (c8 0 G bX bF bS bT bV bP (bT 0) (bV 0) uX uS uT uV uP ++ oL G o fo) sz [.ref (bX 0), .int x1, .int x2, .long x3, .ref o]) (qW (some (.int 0)) (c8 0 G bX bF bS bT bV bP (bT 0) (bV 0) vX uS vT uV uP ++ oL G o (vp_updL fo 0 (1 : Int64))) (gD G) (tyG G) (va_A (c8 0 G bX bF bS bT bV bP (bT 0) (bV 0) uX uS uT uV uP ++ oL G o fo) sz)) 1 6 (va_A (c8 0 G bX bF bS bT bV bP (bT 0) (bV 0) uX uS uT uV uP ++ oL G o fo) sz) := by
  refine mx_h (cc := cL_set) (ret := some .int) (by decide) rfl (Nat.le_of_ble_eq_true rfl) ?_
  intro p e s m below meth c ls A C htb hl hK hA hT hP hD hS
  have hx := C.1.1
  have hb := C.1.2.1
  have hown := C.1.2.2.2.1
  have hts := C.1.2.2.2.2
  have hl : lv_has ls 7 [(0, .ref (bX 0)), (1, .int x1), (2, .int x2), (3, .long x3), (5, .ref o)] := hl
  refine lv_aload hx hb dL_set_0 (lv_at hl 4 rfl) ?_
  refine lv_iconst (v := (0 : Int32)) hx hb dL_set_2 (by decide) ?_
  refine lv_aload_n hx hb dL_set_3 rfl (lv_at hl 0 rfl) ?_
  refine lv_iload_n hx hb dL_set_4 rfl (lv_at hl 1 rfl) ?_
  refine lv_iload_n hx hb dL_set_5 rfl (lv_at hl 2 rfl) ?_
  refine lv_lload_n hx hb dL_set_6 rfl (lv_at hl 3 rfl) ?_
  refine xw8_V (ov := some (.int r)) (st1 := [.int r, .int (0 : Int32), .ref o]) (rest := [.int (0 : Int32), .ref o]) (w0 := c8 0 G bX bF bS bT bV bP (bT 0) (bV 0) uX uS uT uV uP) (w1 := c8 0 G bX bF bS bT bV bP (bT 0) (bV 0) vX uS vT uV uP) (wr := oL G o fo) (w' := (c8 0 G bX bF bS bT bV bP (bT 0) (bV 0) vX uS vT uV uP ++ oL G o fo)) C (c8_set_L l G bX bF bS bT bV bP uX uS uT uV uP x1 x2 x3 r vX vT _ hf) (cwV 3 hts (gdl_v ml_103 ml_104 ml_105 (mL8 (m8 mx_32)) (mL8 (m8 mx_550))) rfl rfl rfl hd8_set_L ⟨Nat.le_of_ble_eq_true rfl, Nat.le_of_ble_eq_true rfl⟩) hK hA hT.1 hP hD hS (va_recv hK hP (ci := 5) (q0 := 0) rfl rfl) [0, 1, 2, 3, 4, 5, 6, 7, 8, 9, 10, 11, 12, 13, 14, 15, 16, 17, 18, 19, 20, 21, 22, 23, 24, 25, 26, 27, 28, 29, 30, 31] [32] [1, 2, 3, 4, 5, 6, 7, 8, 9, 10, 11, 12, 13, 14, 15, 16, 17, 18, 19, 20, 21, 22, 23, 24, 25, 26, 27, 28, 29, 30, 31, 32, 0] rfl rfl rfl rfl (by decide) rfl rfl rfl hl.1 rfl rfl (Nat.le_of_ble_eq_true rfl) dL_set_7 (fun H locs hP hD hS => ?_)
  refine lv_if_eq (tgt := 17) hx hb dL_set_10 (by decide) (fun h9 => absurd h9 hz) (fun _ => ?_)
  refine lv_lconst (v := (1 : Int64)) hx hb dL_set_13 (by decide) ?_
  refine lv_goto (tgt := 18) hx hb dL_set_14 (by decide) ?_
  refine va_last hx hb hK hP hD hS 32 1 rfl rfl vi01 dL_set_18 (fun H locs hP hD hS => ?_)
  replace hP : va_P (gD G) vwCl (c8 0 G bX bF bS bT bV bP (bT 0) (bV 0) vX uS vT uV uP ++ oL G o (vp_updL fo 0 (1 : Int64))) H := hP
  replace hD : va_D A (c8 0 G bX bF bS bT bV bP (bT 0) (bV 0) vX uS vT uV uP ++ oL G o (vp_updL fo 0 (1 : Int64))) := hD
  refine lv_goto (tgt := 26) hx hb dL_set_19 (by decide) ?_
  refine lv_iconst (v := (0 : Int32)) hx hb dL_set_26 (by decide) ?_
  refine W.widen (k := 1) (n := 6) (Nat.le_of_ble_eq_true rfl) (Nat.le_of_ble_eq_true rfl) ?_
  exact W.iret C.1.1 C.1.2.1 C.2.1 (fun t ht hW => ⟨rfl, ⟨by rw [ht]; exact hP, va_K.moved hW.alike hK, hD⟩, hS.F ht⟩) hS.2.2 dL_set_27 C.2.2
set_option maxHeartbeats 4000000 in
set_option maxRecDepth 100000 in
theorem ht1_set_L (l : Launch) (hL0 : l.stackTraces = false) (G : Gx) (bX bF bS bT bV bP : Nat → Nat) (o : Nat) (fo : Nat → Int64) (uX uS uT uV uP : Md) (x1 : Int32) (x2 : Int32) (x3 : Int64) (hf : f8_set_L uX uS uT uV uP x1 x2 x3 = some (Sum.inl 1)) (sz : Nat) : Met l yL_set wsH_set rmH_set_L (pXL G (c8 0 G bX bF bS bT bV bP (bT 0) (bV 0) uX uS uT uV uP ++ oL G o fo) sz [.ref (bX 0), .int x1, .int x2, .long x3, .ref o]) (qW (some (.int 1)) (c8 0 G bX bF bS bT bV bP (bT 0) (bV 0) uX uS uT uV uP ++ oL G o fo) (gD G) (tyG G) (va_A (c8 0 G bX bF bS bT bV bP (bT 0) (bV 0) uX uS uT uV uP ++ oL G o fo) sz)) 1 6 (va_A (c8 0 G bX bF bS bT bV bP (bT 0) (bV 0) uX uS uT uV uP ++ oL G o fo) sz) := by
  refine mx_h (cc := cL_set) (ret := some .int) (by decide) rfl (Nat.le_of_ble_eq_true rfl) ?_
  intro p e s m below meth c ls A C htb hl hK hA hT hP hD hS
  have hx := C.1.1
  have hb := C.1.2.1
  have hown := C.1.2.2.2.1
  have hts := C.1.2.2.2.2
  have hl : lv_has ls 7 [(0, .ref (bX 0)), (1, .int x1), (2, .int x2), (3, .long x3), (5, .ref o)] := hl
  refine lv_aload hx hb dL_set_0 (lv_at hl 4 rfl) ?_
  refine lv_iconst (v := (0 : Int32)) hx hb dL_set_2 (by decide) ?_
  refine lv_aload_n hx hb dL_set_3 rfl (lv_at hl 0 rfl) ?_
  refine lv_iload_n hx hb dL_set_4 rfl (lv_at hl 1 rfl) ?_
  refine lv_iload_n hx hb dL_set_5 rfl (lv_at hl 2 rfl) ?_
  refine lv_lload_n hx hb dL_set_6 rfl (lv_at hl 3 rfl) ?_
  refine xh8_V (ek := 1) (w0 := c8 0 G bX bF bS bT bV bP (bT 0) (bV 0) uX uS uT uV uP) (rest := [.int (0 : Int32), .ref o]) (pre := (tableOf [(0, 19, 22, 13)]).take 0) (x := ((tableOf [(0, 19, 22, 13)]).drop 0).headD default) (suf := (tableOf [(0, 19, 22, 13)]).drop 1) C (t8_set_L l hL0 G bX bF bS bT bV bP uX uS uT uV uP x1 x2 x3 1 _ hf) (cwV 3 hts (gdl_v ml_103 ml_104 ml_105 (mL8 (m8 mx_32)) (mL8 (m8 mx_550))) rfl rfl rfl hd8_set_L ⟨Nat.le_of_ble_eq_true rfl, Nat.le_of_ble_eq_true rfl⟩) hK hA hT.1 hP hD hS (va_recv hK hP (ci := 5) (q0 := 0) rfl rfl) [0, 1, 2, 3, 4, 5, 6, 7, 8, 9, 10, 11, 12, 13, 14, 15, 16, 17, 18, 19, 20, 21, 22, 23, 24, 25, 26, 27, 28, 29, 30, 31] rfl rfl rfl hl.1 rfl (Nat.le_of_ble_eq_true rfl) ⟨Nat.le_of_ble_eq_true rfl, Nat.le_of_ble_eq_true rfl⟩ dL_set_7 (by rw [htb]; rfl) (fun z hz => absurd hz List.not_mem_nil) (by decide) (by decide) (hts _ (List.mem_cons_of_mem _ ml_28)) (va_Nw.use rfl (hT.1.2.1.2 _ (by decide +kernel))) (fun q9 H hP hS => ?_)
  refine W.eq (g2 := F0 m 22 ls [.ref q9]) rfl ?_
  refine lv_astore (lv' := [(6, .ref q9), (0, .ref (bX 0)), (1, .int x1), (2, .int x2), (3, .long x3), (5, .ref o)]) hx hb dL_set_22 hl (by decide) rfl (fun ls hl => ?_)
  refine lv_iconst (v := (1 : Int32)) hx hb dL_set_24 (by decide) ?_
  exact W.iret C.1.1 C.1.2.1 C.2.1 (fun t ht hW => ⟨rfl, ⟨by rw [ht]; exact hP, va_K.moved hW.alike hK, hD⟩, hS.F ht⟩) hS.2.2 dL_set_25 C.2.2
