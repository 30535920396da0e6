/-! the values of an object read alike -/
set_option maxRecDepth 100000 in
set_option maxHeartbeats 4000000 in
theorem wW_s17p (u : Md) (r : Rst) : si (wW u r) 17 (zI r.found + 1) = wW u (r.s_found (r.found + 1)) := by rw [zI_one, wW_s17]
set_option maxRecDepth 100000 in
set_option maxHeartbeats 4000000 in
theorem fLen (fd : Fin 8) : (decide (fSort fd = 1)) = (if fSort fd = 0 then false else if fSort fd = 1 then true else false) := by revert fd; decide
/-- what of the program's tree, and of the reference's state, values change -/
def SF (s s' : Tst) : Prop := ∃ mk ts nu, s' = (((s.s_marks (mk)).s_tsz (ts)).s_nums (nu))
def RF (m : Int32) (r r' : Rst) : Prop := ∃ ch ts nu a b l f, r' = (((((((r.s_chars (ch)).s_tsz (ts)).s_nums (nu)).s_num (a)).s_words (b)).s_lnum (l)).s_fault (f)) ∧ (m = 0 → ch = r.chars ∧ ts = r.tsz ∧ nu = r.nums)
set_option maxRecDepth 100000 in
set_option maxHeartbeats 4000000 in
theorem SF_refl (s : Tst) : SF s s := ⟨s.marks, s.tsz, s.nums, rfl⟩
set_option maxRecDepth 100000 in
set_option maxHeartbeats 4000000 in
theorem SF_trans {s s1 s2 : Tst} (h1 : SF s s1) (h2 : SF s1 s2) : SF s s2 := by
  obtain ⟨a, b, c, rfl⟩ := h1
  obtain ⟨d, e, f, rfl⟩ := h2
  exact ⟨d, e, f, rfl⟩
set_option maxRecDepth 100000 in
set_option maxHeartbeats 4000000 in
theorem RF_refl (m : Int32) (r : Rst) : RF m r r := ⟨r.chars, r.tsz, r.nums, r.num, r.words, r.lnum, r.fault, rfl, fun _ => ⟨rfl, rfl, rfl⟩⟩
set_option maxRecDepth 100000 in
set_option maxHeartbeats 4000000 in
theorem RF_trans {m : Int32} {r r1 r2 : Rst} (h1 : RF m r r1) (h2 : RF m r1 r2) : RF m r r2 := by
  obtain ⟨a, b, c, d, e, f, g, rfl, h3⟩ := h1
  obtain ⟨a2, b2, c2, d2, e2, f2, g2, rfl, h4⟩ := h2
  refine ⟨a2, b2, c2, d2, e2, f2, g2, rfl, fun h0 => ?_⟩
  have g3 := h3 h0
  have g4 := h4 h0
  exact ⟨g4.1.trans g3.1, g4.2.1.trans g3.2.1, g4.2.2.trans g3.2.2⟩
section VAL
variable {uS u bT : Md} {t : Nat → Int32} {n : Nat}
def VlO (uS u bT : Md) (n : Nat) (s : Tst) (r : Rst) (p : Nat) (o : Option (Int32 × Md × Md)) (o9 : Option (Int32 × Md)) : Prop :=
  (∃ e a w s' q r', o = some (0, sS uS a (zI e) w, yY bT s') ∧ q ≤ n + 20 ∧ e ≤ n + 20 ∧ o9 = some (zI q, wW u r') ∧ r'.fault = zI e ∧ RF (gi u 15) r r') ∨
  (∃ q w s' r', p ≤ q ∧ q ≤ n ∧ o = some (1, sS uS q (-1) w, yY bT s') ∧ o9 = some (zI q, wW u r') ∧ r'.fault = -1 ∧ SR (gi u 15) s' r' ∧ SF s s' ∧ RF (gi u 15) r r')
set_option maxRecDepth 100000 in
set_option maxHeartbeats 4000000 in
/-- behind a fault no value is read -/
theorem q_valF {r : Rst} {x1 x3 x5 : Int32} {q i G : Nat} (hG : 0 < G) (hr : r.fault ≠ -1) : f9_values_16 G (wW u r) x1 x3 (zI q) x5 (zI i) = some (zI q, wW u r) := by
  obtain ⟨G, rfl⟩ : ∃ G', G = G' + 1 := ⟨G - 1, by omega⟩
  rw [f9_values_16, wW_18, if_neg hr]
  split <;> rfl
set_option maxRecDepth 100000 in
set_option maxHeartbeats 4000000 in
theorem vl_skip_L {k V : Nat} {κ : Fin 10} {uT : Md} {x5 x6 : Int32} (hv : gi uT 15 = zI V) (hV1 : 1 ≤ V) (hV3 : V ≤ 3) : ∀ j i F (uS : Md), nfK κ - i = j → nfV κ V ≤ i → i ≤ nfK κ → j < F → fx_X1_takeValues_L_70 F uS uT (zI k) κ x5 x6 (zI i) = some (1, uS, uT) := by
  have h5 := nf_le κ
  intro j
  induction j with
  | zero =>
    intro i F uS hj h1 h2 hF
    obtain ⟨F, rfl⟩ : ∃ F', F = F' + 1 := ⟨F - 1, by omega⟩
    rw [fx_X1_takeValues_L_70, t_fields]
    simp only [Option.bind_some]
    rw [if_pos (by rw [zI_le (by omega) (by omega)]; omega)]
  | succ j ih =>
    intro i F uS hj h1 h2 hF
    obtain ⟨F, rfl⟩ : ∃ F', F = F' + 1 := ⟨F - 1, by omega⟩
    rw [fx_X1_takeValues_L_70, t_fields]
    simp only [Option.bind_some]
    rw [if_neg (by rw [zI_le (by omega) (by omega)]; omega), t_fieldAt κ i (by omega)]
    simp only [Option.bind_some]
    have hs := t_since κ V i hV1 hV3 (by omega)
    rw [if_neg (by rw [hv, Int32.not_le, hs]; exact h1)]
    unfold fx_X1_takeValues_L_166
    rw [zI_one]
    exact ih (i + 1) F uS (by omega) (by omega) (by omega) (by omega)
set_option maxRecDepth 100000 in
set_option maxHeartbeats 4000000 in
theorem vl_loop_L (hS : SOk uS t n) (hR : ROk u t n) (hc : COk t n) (hm : gi u 15 = 0 ∨ gi u 15 = 1) {k V : Nat} {κ : Fin 10} (hV1 : 1 ≤ V) (hV3 : V ≤ 3) : ∀ j i F G p v (s : Tst) (r : Rst), nfK κ - i = j → i ≤ nfK κ → j < F → j + 1 < G → p ≤ n → s.count = k + 1 → s.count ≤ 200 → tK s k = κ → s.version = zI V → r.fault = -1 → r.found = k → r.words = ahd κ true i → r.num = ahd κ false i → SR (gi u 15) s r → (∀ w, ahd κ true i ≤ w → w < 2 → s.tsz (k * 2 + w) = zI 0) → VlO uS u bT n s r p (fx_X1_takeValues_L_70 F (sS uS p (-1) v) (yY bT s) (zI k) κ (zI (ahd κ true i)) (zI (ahd κ false i)) (zI i)) (f9_values_16 G (wW u r) (zI κ.val) 0 (zI p) (zI (nfV κ V)) (zI i)) := by
  have hn := hS.le
  have h5 := nf_le κ
  have hne : nfV κ V ≤ nfK κ := by unfold nfV; split <;> omega
  intro j
  induction j with
  | zero =>
    intro i F G p v s r hj hi hF hG hp hs hs2 hκ hv hr hf hw hnm hSR h0
    obtain ⟨G, rfl⟩ : ∃ G', G = G' + 1 := ⟨G - 1, by omega⟩
    right
    refine ⟨p, v, s, r, Nat.le_refl _, hp, ?_, ?_, hr, hSR, SF_refl s, RF_refl _ r⟩
    · exact vl_skip_L hv hV1 hV3 _ i F _ rfl (by omega) hi (by omega)
    · rw [f9_values_16, if_pos (by rw [zI_le (by omega) (by omega)]; omega)]
  | succ j ih =>
    intro i F G p v s r hj hi hF hG hp hs hs2 hκ hv hr hf hw hnm hSR h0
    by_cases hiv : nfV κ V ≤ i
    · obtain ⟨G, rfl⟩ : ∃ G', G = G' + 1 := ⟨G - 1, by omega⟩
      right
      refine ⟨p, v, s, r, Nat.le_refl _, hp, ?_, ?_, hr, hSR, SF_refl s, RF_refl _ r⟩
      · exact vl_skip_L hv hV1 hV3 _ i F _ rfl hiv hi (by omega)
      · rw [f9_values_16, if_pos (by rw [zI_le (by omega) (by omega)]; omega)]
    obtain ⟨F, rfl⟩ : ∃ F', F = F' + 1 := ⟨F - 1, by omega⟩
    obtain ⟨G, rfl⟩ : ∃ G', G = G' + 1 := ⟨G - 1, by omega⟩
    have hi2 : i < nfK κ := by omega
    have hsn := t_since κ V i hV1 hV3 hi2
    rw [fx_X1_takeValues_L_70, t_fields, f9_values_16, wW_18, if_pos hr, if_neg (show ¬ (zI (nfV κ V) ≤ zI i) by rw [zI_le (by omega) (by omega)]; omega)]
    simp only [Option.bind_some]
    rw [if_neg (show ¬ (zI (nfK κ) ≤ zI i) by rw [zI_le (by omega) (by omega)]; omega), t_fieldAt κ i hi2]
    simp only [Option.bind_some]
    rw [if_pos (by rw [yY_15, hv, ← Int32.not_lt, hsn]; exact hiv)]
    unfold fx_X1_takeValues_L_166 f9_values_59
    have hgap := gp_L hS hR v (r := r) hp hr
    cases hgap with
    | inl hg =>
      obtain ⟨a, q, g1, g2, g3⟩ := hg
      left
      have hne1 : ((r.s_fault (zI p)) : Rst).fault ≠ -1 := by
        intro hh
        rw [← zI_ne1 (a := p) (by omega)]; exact hh
      refine ⟨p, a, v, s, q, (r.s_fault (zI p)), ?_, g2, by omega, ?_, rfl, ⟨r.chars, r.tsz, r.nums, r.num, r.words, r.lnum, zI p, rfl, fun _ => ⟨rfl, rfl, rfl⟩⟩⟩
      · rw [g1]; rfl
      · rw [g3]
        simp only [Option.bind_some]
        rw [wW_18, if_neg hne1, zI_one]
        exact q_valF (by omega) hne1
    | inr hg =>
      obtain ⟨q, g1, g2, g3, g4⟩ := hg
      rw [g3, g4]
      simp only [Option.bind_some, wW_18, one_nz, if_false]
      rw [if_pos hr, t_isText]
      simp only [Option.bind_some, bI_z]
      unfold f9_readValue
      rw [t_field κ i hi2]
      simp only [Option.bind_some]
      by_cases hx : fSort (ffK κ i) = 0
      · -- a text
        have hlt := ahd_lt κ i hi2
        rw [decide_eq_true hx] at hlt
        have hc2 := (cnt_le κ).1
        rw [if_neg (by rw [decide_eq_true hx]; decide), if_pos hx, if_pos rfl]
        have htx := tx_read (bT := bT) hS hR hc hm (k := k) (w := ahd κ true i) (q := q) (by omega) (by omega) v s r g2 hr hf hw (by omega) hs2 (h0 _ (Nat.le_refl _) (by omega))
        cases htx with
        | inl ht =>
          obtain ⟨e, a, s', q', ts, t1, t2, t3, ch, t4, t5⟩ := ht
          left
          have hne1 : (((((r.s_fault (zI e)).s_chars (ch)).s_tsz (ts)).s_words (r.words + 1)) : Rst).fault ≠ -1 := by
            intro hh
            rw [← zI_ne1 (a := e) (by omega)]; exact hh
          refine ⟨e, a, v, s', q', ((((r.s_fault (zI e)).s_chars (ch)).s_tsz (ts)).s_words (r.words + 1)), ?_, t2, t3, ?_, rfl, ⟨ch, ts, r.nums, r.num, r.words + 1, r.lnum, zI e, rfl, fun hz => ⟨(t5 hz).1, (t5 hz).2, rfl⟩⟩⟩
          · rw [t1]; rfl
          · rw [t4]
            simp only [Option.bind_some, wW_21, zI_one, wW_s21]
            exact q_valF (by omega) hne1
        | inr ht =>
          obtain ⟨q', z', mk, ch, t1, t2, t3, t4, t5, t6, t7, t8, t9⟩ := ht
          rw [t5, t6]
          simp only [Option.bind_some, wW_21, zI_one, wW_s21, one_nz, if_false]
          have hJ : k * 2 + ahd κ true i < s.count * 2 := by omega
          have hSR2 := SR_text hSR hJ t4 (fun x hxx => t8 x (by omega)) (fun a ha => t9 a (by omega) ha) (r.words + 1)
          have ha1 : ahd κ true (i + 1) = ahd κ true i + 1 := by
            show ahd κ true i + (if decide (fSort (ffK κ i) = 0) = true then 1 else 0) = _
            rw [decide_eq_true hx, if_pos rfl]
          have ha2 : ahd κ false (i + 1) = ahd κ false i := by
            show ahd κ false i + (if decide (fSort (ffK κ i) = 0) = false then 1 else 0) = _
            rw [decide_eq_true hx, if_neg (by decide)]
            rfl
          have hih := ih (i + 1) F G q' v ((s.s_marks (mk)).s_tsz (upd s.tsz (k * 2 + ahd κ true i) (zI z'))) (((r.s_chars (ch)).s_tsz (if gi u 15 = 0 then r.tsz else upd r.tsz (k * 2 + ahd κ true i) (zI z'))).s_words (r.words + 1)) (by omega) (by omega) (by omega) (by omega) t2 hs hs2 hκ hv hr hf (by rw [ha1, ← hw]; rfl) (by rw [ha2]; exact hnm) hSR2 (by
            intro w hw1 hw2
            show upd s.tsz (k * 2 + ahd κ true i) (zI z') (k * 2 + w) = zI 0
            rw [upd_ne (by omega)]
            exact h0 w (by omega) hw2)
          rw [ha1, ha2] at hih
          have hsf : SF s ((s.s_marks (mk)).s_tsz (upd s.tsz (k * 2 + ahd κ true i) (zI z'))) := ⟨mk, _, s.nums, rfl⟩
          have hrf : RF (gi u 15) r (((r.s_chars (ch)).s_tsz (if gi u 15 = 0 then r.tsz else upd r.tsz (k * 2 + ahd κ true i) (zI z'))).s_words (r.words + 1)) := ⟨ch, _, r.nums, r.num, r.words + 1, r.lnum, r.fault, rfl, fun hz => ⟨t7 hz, if_pos hz, rfl⟩⟩
          cases hih with
          | inl h =>
            obtain ⟨e, a, w, s', q2, r', b1, b2, b3, b4, b5, b6⟩ := h
            left
            exact ⟨e, a, w, s', q2, r', b1, b2, b3, b4, b5, RF_trans hrf b6⟩
          | inr h =>
            obtain ⟨q2, w, s', r', b1, b2, b3, b4, b5, b6, b7, b8⟩ := h
            right
            exact ⟨q2, w, s', r', by omega, b2, b3, b4, b5, b6, SF_trans hsf b7, RF_trans hrf b8⟩
      · -- a number
        have hlt := ahd_lt κ i hi2
        rw [decide_eq_false hx] at hlt
        have hc2 := (cnt_le κ).2
        rw [if_pos (by rw [decide_eq_false hx]), if_neg hx, if_neg (show ¬ ((if fSort (ffK κ i) = 1 then (1 : Int32) else 2) = 3) by split <;> decide)]
        have hpn := p_number hS (ffK κ i) v (p := q) g2
        have hqn := q_number hR (r := r) (decide (fSort (ffK κ i) = 1)) (fLow (ffK κ i)) (fHigh (ffK κ i)) hr g2
        have hok := NR_ok (t := t) (len := decide (fSort (ffK κ i) = 1)) (lo := fLow (ffK κ i)) (hi := fHigh (ffK κ i)) g2
        have h46 : (if (if fSort (ffK κ i) = 1 then (1 : Int32) else 2) = 1 then f9_readValue_46 (wW u r) (zI κ.val) (zI i) 1 (zI q) else f9_readValue_46 (wW u r) (zI κ.val) (zI i) 0 (zI q)) = f9_readValue_46 (wW u r) (zI κ.val) (zI i) (bI (decide (fSort (ffK κ i) = 1))) (zI q) := by
          by_cases h1 : fSort (ffK κ i) = 1
          · rw [if_pos h1, if_pos rfl, decide_eq_true h1]; rfl
          · rw [if_neg h1, if_neg (by decide), decide_eq_false h1]; rfl
        rw [h46]
        unfold f9_readValue_46
        rw [(t_least κ i hi2 hx).1, (t_least κ i hi2 hx).2]
        simp only [Option.bind_some]
        generalize hNR : NR t n (decide (fSort (ffK κ i) = 1)) (fLow (ffK κ i)) (fHigh (ffK κ i)) q = x at hpn hqn hok
        have h88 : ∀ (r2 : Rst) (q2 : Nat), f9_readValue_88 (wW u r2) (zI q2) = some (zI q2, wW u (r2.s_num (r2.num + 1))) := by
          intro r2 q2
          unfold f9_readValue_88
          rw [wW_20, zI_one, wW_s20]
        have hput : ∀ (r2 : Rst) (q2 : Nat), r2.found = k → r2.num = ahd κ false i → (if gi (wW u r2) 15 = 0 then f9_readValue_88 (wW u r2) (zI q2) else if (5 : Int32) * gi (wW u r2) 17 + gi (wW u r2) 20 < 0 ∨ 1000 ≤ ((5 : Int32) * gi (wW u r2) 17 + gi (wW u r2) 20).toNatClampNeg then none else f9_readValue_88 (sn (wW u r2) (vp_updL (gn (wW u r2)) ((5 : Int32) * gi (wW u r2) 17 + gi (wW u r2) 20).toNatClampNeg (gl (wW u r2)))) (zI q2)) = some (zI q2, wW u ((r2.s_nums (if gi u 15 = 0 then r2.nums else vp_updL r2.nums (k * 5 + ahd κ false i) r2.lnum)).s_num (r2.num + 1))) := by
          intro r2 q2 e1 e2
          rw [wW_15]
          cases hm with
          | inl h => rw [if_pos h, if_pos h, h88]; rfl
          | inr h =>
            have h0 : ¬ gi u 15 = 0 := by rw [h]; decide
            rw [if_neg h0, if_neg h0]
            simp (disch := omega) only [wW_16, wW_17, wW_18, wW_20, wW_21, wW_22, wW_29, wW_30, wW_1, wW_3, wW_15, wW_a5, wW_a6, wW_a8, wW_a9, wW_a10, wW_a11, wW_a12, wW_a23, wW_a24, wW_a2, wW_n, wW_l, e1, e2, show (5 : Int32) = zI 5 from rfl, zI_le, zI_lt, zI_inj, zI_z, zI_lz, zI_zl, zI_neg, zI_nat, zI_add, zI_one, zI_mul, zI_ne1, zI_1n, leT, leF, ltT, ltF, eqT, eqF, if_true, if_false, Option.bind_some, false_or, or_false, true_or, or_true, true_and, and_true, false_and, and_false, not_true_eq_false, not_false_eq_true, reduceIte, wW_sn]
            rw [h88, Nat.mul_comm 5 k]
            simp only [R_version_version, R_version_found, R_version_fault, R_version_num, R_version_words, R_version_keeps, R_version_dnow, R_version_last, R_version_lnum, R_version_kinds, R_version_parents, R_version_tsz, R_version_chars, R_version_kfrom, R_version_ksz, R_version_kept, R_version_opn, R_version_okind, R_version_nums, R_found_version, R_found_found, R_found_fault, R_found_num, R_found_words, R_found_keeps, R_found_dnow, R_found_last, R_found_lnum, R_found_kinds, R_found_parents, R_found_tsz, R_found_chars, R_found_kfrom, R_found_ksz, R_found_kept, R_found_opn, R_found_okind, R_found_nums, R_fault_version, R_fault_found, R_fault_fault, R_fault_num, R_fault_words, R_fault_keeps, R_fault_dnow, R_fault_last, R_fault_lnum, R_fault_kinds, R_fault_parents, R_fault_tsz, R_fault_chars, R_fault_kfrom, R_fault_ksz, R_fault_kept, R_fault_opn, R_fault_okind, R_fault_nums, R_num_version, R_num_found, R_num_fault, R_num_num, R_num_words, R_num_keeps, R_num_dnow, R_num_last, R_num_lnum, R_num_kinds, R_num_parents, R_num_tsz, R_num_chars, R_num_kfrom, R_num_ksz, R_num_kept, R_num_opn, R_num_okind, R_num_nums, R_words_version, R_words_found, R_words_fault, R_words_num, R_words_words, R_words_keeps, R_words_dnow, R_words_last, R_words_lnum, R_words_kinds, R_words_parents, R_words_tsz, R_words_chars, R_words_kfrom, R_words_ksz, R_words_kept, R_words_opn, R_words_okind, R_words_nums, R_keeps_version, R_keeps_found, R_keeps_fault, R_keeps_num, R_keeps_words, R_keeps_keeps, R_keeps_dnow, R_keeps_last, R_keeps_lnum, R_keeps_kinds, R_keeps_parents, R_keeps_tsz, R_keeps_chars, R_keeps_kfrom, R_keeps_ksz, R_keeps_kept, R_keeps_opn, R_keeps_okind, R_keeps_nums, R_dnow_version, R_dnow_found, R_dnow_fault, R_dnow_num, R_dnow_words, R_dnow_keeps, R_dnow_dnow, R_dnow_last, R_dnow_lnum, R_dnow_kinds, R_dnow_parents, R_dnow_tsz, R_dnow_chars, R_dnow_kfrom, R_dnow_ksz, R_dnow_kept, R_dnow_opn, R_dnow_okind, R_dnow_nums, R_last_version, R_last_found, R_last_fault, R_last_num, R_last_words, R_last_keeps, R_last_dnow, R_last_last, R_last_lnum, R_last_kinds, R_last_parents, R_last_tsz, R_last_chars, R_last_kfrom, R_last_ksz, R_last_kept, R_last_opn, R_last_okind, R_last_nums, R_lnum_version, R_lnum_found, R_lnum_fault, R_lnum_num, R_lnum_words, R_lnum_keeps, R_lnum_dnow, R_lnum_last, R_lnum_lnum, R_lnum_kinds, R_lnum_parents, R_lnum_tsz, R_lnum_chars, R_lnum_kfrom, R_lnum_ksz, R_lnum_kept, R_lnum_opn, R_lnum_okind, R_lnum_nums, R_kinds_version, R_kinds_found, R_kinds_fault, R_kinds_num, R_kinds_words, R_kinds_keeps, R_kinds_dnow, R_kinds_last, R_kinds_lnum, R_kinds_kinds, R_kinds_parents, R_kinds_tsz, R_kinds_chars, R_kinds_kfrom, R_kinds_ksz, R_kinds_kept, R_kinds_opn, R_kinds_okind, R_kinds_nums, R_parents_version, R_parents_found, R_parents_fault, R_parents_num, R_parents_words, R_parents_keeps, R_parents_dnow, R_parents_last, R_parents_lnum, R_parents_kinds, R_parents_parents, R_parents_tsz, R_parents_chars, R_parents_kfrom, R_parents_ksz, R_parents_kept, R_parents_opn, R_parents_okind, R_parents_nums, R_tsz_version, R_tsz_found, R_tsz_fault, R_tsz_num, R_tsz_words, R_tsz_keeps, R_tsz_dnow, R_tsz_last, R_tsz_lnum, R_tsz_kinds, R_tsz_parents, R_tsz_tsz, R_tsz_chars, R_tsz_kfrom, R_tsz_ksz, R_tsz_kept, R_tsz_opn, R_tsz_okind, R_tsz_nums, R_chars_version, R_chars_found, R_chars_fault, R_chars_num, R_chars_words, R_chars_keeps, R_chars_dnow, R_chars_last, R_chars_lnum, R_chars_kinds, R_chars_parents, R_chars_tsz, R_chars_chars, R_chars_kfrom, R_chars_ksz, R_chars_kept, R_chars_opn, R_chars_okind, R_chars_nums, R_kfrom_version, R_kfrom_found, R_kfrom_fault, R_kfrom_num, R_kfrom_words, R_kfrom_keeps, R_kfrom_dnow, R_kfrom_last, R_kfrom_lnum, R_kfrom_kinds, R_kfrom_parents, R_kfrom_tsz, R_kfrom_chars, R_kfrom_kfrom, R_kfrom_ksz, R_kfrom_kept, R_kfrom_opn, R_kfrom_okind, R_kfrom_nums, R_ksz_version, R_ksz_found, R_ksz_fault, R_ksz_num, R_ksz_words, R_ksz_keeps, R_ksz_dnow, R_ksz_last, R_ksz_lnum, R_ksz_kinds, R_ksz_parents, R_ksz_tsz, R_ksz_chars, R_ksz_kfrom, R_ksz_ksz, R_ksz_kept, R_ksz_opn, R_ksz_okind, R_ksz_nums, R_kept_version, R_kept_found, R_kept_fault, R_kept_num, R_kept_words, R_kept_keeps, R_kept_dnow, R_kept_last, R_kept_lnum, R_kept_kinds, R_kept_parents, R_kept_tsz, R_kept_chars, R_kept_kfrom, R_kept_ksz, R_kept_kept, R_kept_opn, R_kept_okind, R_kept_nums, R_opn_version, R_opn_found, R_opn_fault, R_opn_num, R_opn_words, R_opn_keeps, R_opn_dnow, R_opn_last, R_opn_lnum, R_opn_kinds, R_opn_parents, R_opn_tsz, R_opn_chars, R_opn_kfrom, R_opn_ksz, R_opn_kept, R_opn_opn, R_opn_okind, R_opn_nums, R_okind_version, R_okind_found, R_okind_fault, R_okind_num, R_okind_words, R_okind_keeps, R_okind_dnow, R_okind_last, R_okind_lnum, R_okind_kinds, R_okind_parents, R_okind_tsz, R_okind_chars, R_okind_kfrom, R_okind_ksz, R_okind_kept, R_okind_opn, R_okind_okind, R_okind_nums, R_nums_version, R_nums_found, R_nums_fault, R_nums_num, R_nums_words, R_nums_keeps, R_nums_dnow, R_nums_last, R_nums_lnum, R_nums_kinds, R_nums_parents, R_nums_tsz, R_nums_chars, R_nums_kfrom, R_nums_ksz, R_nums_kept, R_nums_opn, R_nums_okind, R_nums_nums, e2]
        cases x with
        | inl e =>
          obtain ⟨a, w, c1⟩ := hpn
          obtain ⟨q2, w2, c2, c3⟩ := hqn
          left
          have hok' : e ≤ n + 20 := hok
          rw [c1, c3]
          simp only [Option.bind_some]
          rw [hput ((r.s_fault (zI e)).s_lnum (w2)) q2 hf hnm]
          simp only [Option.bind_some, zI_one]
          refine ⟨e, a, w, s, q2, ((((r.s_fault (zI e)).s_lnum (w2)).s_nums (if gi u 15 = 0 then r.nums else vp_updL r.nums (k * 5 + ahd κ false i) w2)).s_num (r.num + 1)), rfl, c2, hok', ?_, rfl, ⟨r.chars, r.tsz, _, r.num + 1, r.words, w2, zI e, rfl, fun hz => ⟨rfl, rfl, if_pos hz⟩⟩⟩
          exact q_valF (r := ((((r.s_fault (zI e)).s_lnum (w2)).s_nums (if gi u 15 = 0 then r.nums else vp_updL r.nums (k * 5 + ahd κ false i) w2)).s_num (r.num + 1))) (by omega) (by intro hh; rw [← zI_ne1 (a := e) (by omega)]; exact hh)
        | inr qw =>
          obtain ⟨q2, w⟩ := qw
          have c1 : fx_X6_takeNumber (sS uS q (-1) v) (ffK κ i) = some (1, sS uS q2 (-1) w) := hpn
          obtain ⟨c2, c3⟩ := hqn
          obtain ⟨d1, d2, d3, d4⟩ := hok
          have d1' : q < q2 := d1
          have d2' : q2 ≤ n := d2
          have d3' : ¬ lg_cmp w (fLow (ffK κ i)) < 0 := d3
          have d4' : ¬ 0 < lg_cmp w (fHigh (ffK κ i)) := d4
          rw [c1, c3]
          simp only [Option.bind_some, one_nz, if_false]
          rw [hput (r.s_lnum (w)) q2 hf hnm, sS_l, p_putN (by omega) hs2 (by omega)]
          simp only [Option.bind_some, zI_one]
          have hSR2 := SR_num hSR (k := k) (i := i) (v := w) (by omega) (by rw [hκ]; exact hi2) (by rw [hκ]; exact hx) (by rw [hκ]; exact d3') (by rw [hκ]; exact d4') (r.num + 1) r.words w
          rw [hκ] at hSR2
          have ha1 : ahd κ true (i + 1) = ahd κ true i := by
            show ahd κ true i + (if decide (fSort (ffK κ i) = 0) = true then 1 else 0) = _
            rw [decide_eq_false hx, if_neg (by decide)]
            rfl
          have ha2 : ahd κ false (i + 1) = ahd κ false i + 1 := by
            show ahd κ false i + (if decide (fSort (ffK κ i) = 0) = false then 1 else 0) = _
            rw [decide_eq_false hx, if_pos rfl]
          have hih := ih (i + 1) F G q2 w (s.s_nums (vp_updL s.nums (k * 5 + ahd κ false i) w)) ((((r.s_nums (if gi u 15 = 0 then r.nums else vp_updL r.nums (k * 5 + ahd κ false i) w)).s_num (r.num + 1)).s_words (r.words)).s_lnum (w)) (by omega) (by omega) (by omega) (by omega) d2' hs hs2 hκ hv hr hf (by rw [ha1]; exact hw) (by rw [ha2, ← hnm]; rfl) hSR2 (by
            intro w' hw1 hw2
            exact h0 w' (by omega) hw2)
          rw [ha1, ha2] at hih
          have hsf : SF s (s.s_nums (vp_updL s.nums (k * 5 + ahd κ false i) w)) := ⟨s.marks, s.tsz, _, rfl⟩
          have hrf : RF (gi u 15) r ((((r.s_nums (if gi u 15 = 0 then r.nums else vp_updL r.nums (k * 5 + ahd κ false i) w)).s_num (r.num + 1)).s_words (r.words)).s_lnum (w)) := ⟨r.chars, r.tsz, _, r.num + 1, r.words, w, r.fault, rfl, fun hz => ⟨rfl, rfl, if_pos hz⟩⟩
          cases hih with
          | inl h =>
            obtain ⟨e, a, w', s', q3, r', b1, b2, b3, b4, b5, b6⟩ := h
            left
            exact ⟨e, a, w', s', q3, r', b1, b2, b3, b4, b5, RF_trans hrf b6⟩
          | inr h =>
            obtain ⟨q3, w', s', r', b1, b2, b3, b4, b5, b6, b7, b8⟩ := h
            right
            exact ⟨q3, w', s', r', by omega, b2, b3, b4, b5, b6, SF_trans hsf b7, RF_trans hrf b8⟩
set_option maxRecDepth 100000 in
set_option maxHeartbeats 4000000 in
theorem vl_skip_B {k V : Nat} {κ : Fin 10} {uT : Md} {x5 x6 : Int32} (hv : gi uT 15 = zI V) (hV1 : 1 ≤ V) (hV3 : V ≤ 3) : ∀ j i F (uS : Md), nfK κ - i = j → nfV κ V ≤ i → i ≤ nfK κ → j < F → fx_X1_takeValues_B_70 F uS uT (zI k) κ x5 x6 (zI i) = some (1, uS, uT) := by
  have h5 := nf_le κ
  intro j
  induction j with
  | zero =>
    intro i F uS hj h1 h2 hF
    obtain ⟨F, rfl⟩ : ∃ F', F = F' + 1 := ⟨F - 1, by omega⟩
    rw [fx_X1_takeValues_B_70, t_fields]
    simp only [Option.bind_some]
    rw [if_pos (by rw [zI_le (by omega) (by omega)]; omega)]
  | succ j ih =>
    intro i F uS hj h1 h2 hF
    obtain ⟨F, rfl⟩ : ∃ F', F = F' + 1 := ⟨F - 1, by omega⟩
    rw [fx_X1_takeValues_B_70, t_fields]
    simp only [Option.bind_some]
    rw [if_neg (by rw [zI_le (by omega) (by omega)]; omega), t_fieldAt κ i (by omega)]
    simp only [Option.bind_some]
    have hs := t_since κ V i hV1 hV3 (by omega)
    rw [if_neg (by rw [hv, Int32.not_le, hs]; exact h1)]
    unfold fx_X1_takeValues_B_166
    rw [zI_one]
    exact ih (i + 1) F uS (by omega) (by omega) (by omega) (by omega)
set_option maxRecDepth 100000 in
set_option maxHeartbeats 4000000 in
theorem vl_loop_B (hS : SOk uS t n) (hR : ROk u t n) (hc : COk t n) (hm : gi u 15 = 0 ∨ gi u 15 = 1) {k V : Nat} {κ : Fin 10} (hV1 : 1 ≤ V) (hV3 : V ≤ 3) : ∀ j i F G p v (s : Tst) (r : Rst), nfK κ - i = j → i ≤ nfK κ → j < F → j + 1 < G → p ≤ n → s.count = k + 1 → s.count ≤ 200 → tK s k = κ → s.version = zI V → r.fault = -1 → r.found = k → r.words = ahd κ true i → r.num = ahd κ false i → SR (gi u 15) s r → (∀ w, ahd κ true i ≤ w → w < 2 → s.tsz (k * 2 + w) = zI 0) → VlO uS u bT n s r p (fx_X1_takeValues_B_70 F (sS uS p (-1) v) (yY bT s) (zI k) κ (zI (ahd κ true i)) (zI (ahd κ false i)) (zI i)) (f9_values_16 G (wW u r) (zI κ.val) 1 (zI p) (zI (nfV κ V)) (zI i)) := by
  have hn := hS.le
  have h5 := nf_le κ
  have hne : nfV κ V ≤ nfK κ := by unfold nfV; split <;> omega
  intro j
  induction j with
  | zero =>
    intro i F G p v s r hj hi hF hG hp hs hs2 hκ hv hr hf hw hnm hSR h0
    obtain ⟨G, rfl⟩ : ∃ G', G = G' + 1 := ⟨G - 1, by omega⟩
    right
    refine ⟨p, v, s, r, Nat.le_refl _, hp, ?_, ?_, hr, hSR, SF_refl s, RF_refl _ r⟩
    · exact vl_skip_B hv hV1 hV3 _ i F _ rfl (by omega) hi (by omega)
    · rw [f9_values_16, if_pos (by rw [zI_le (by omega) (by omega)]; omega)]
  | succ j ih =>
    intro i F G p v s r hj hi hF hG hp hs hs2 hκ hv hr hf hw hnm hSR h0
    by_cases hiv : nfV κ V ≤ i
    · obtain ⟨G, rfl⟩ : ∃ G', G = G' + 1 := ⟨G - 1, by omega⟩
      right
      refine ⟨p, v, s, r, Nat.le_refl _, hp, ?_, ?_, hr, hSR, SF_refl s, RF_refl _ r⟩
      · exact vl_skip_B hv hV1 hV3 _ i F _ rfl hiv hi (by omega)
      · rw [f9_values_16, if_pos (by rw [zI_le (by omega) (by omega)]; omega)]
    obtain ⟨F, rfl⟩ : ∃ F', F = F' + 1 := ⟨F - 1, by omega⟩
    obtain ⟨G, rfl⟩ : ∃ G', G = G' + 1 := ⟨G - 1, by omega⟩
    have hi2 : i < nfK κ := by omega
    have hsn := t_since κ V i hV1 hV3 hi2
    rw [fx_X1_takeValues_B_70, t_fields, f9_values_16, wW_18, if_pos hr, if_neg (show ¬ (zI (nfV κ V) ≤ zI i) by rw [zI_le (by omega) (by omega)]; omega)]
    simp only [Option.bind_some]
    rw [if_neg (show ¬ (zI (nfK κ) ≤ zI i) by rw [zI_le (by omega) (by omega)]; omega), t_fieldAt κ i hi2]
    simp only [Option.bind_some]
    rw [if_pos (by rw [yY_15, hv, ← Int32.not_lt, hsn]; exact hiv)]
    unfold fx_X1_takeValues_B_166 f9_values_59
    have hgap := gp_B hS hR v (r := r) hp hr
    cases hgap with
    | inl hg =>
      obtain ⟨a, q, g1, g2, g3⟩ := hg
      left
      have hne1 : ((r.s_fault (zI p)) : Rst).fault ≠ -1 := by
        intro hh
        rw [← zI_ne1 (a := p) (by omega)]; exact hh
      refine ⟨p, a, v, s, q, (r.s_fault (zI p)), ?_, g2, by omega, ?_, rfl, ⟨r.chars, r.tsz, r.nums, r.num, r.words, r.lnum, zI p, rfl, fun _ => ⟨rfl, rfl, rfl⟩⟩⟩
      · rw [g1]; rfl
      · rw [g3]
        simp only [Option.bind_some]
        rw [wW_18, if_neg hne1, zI_one]
        exact q_valF (by omega) hne1
    | inr hg =>
      obtain ⟨q, g1, g2, g3, g4⟩ := hg
      rw [g3, g4]
      simp only [Option.bind_some, wW_18, one_nz, if_false]
      rw [if_pos hr, t_isText]
      simp only [Option.bind_some, bI_z]
      unfold f9_readValue
      rw [t_field κ i hi2]
      simp only [Option.bind_some]
      by_cases hx : fSort (ffK κ i) = 0
      · -- a text
        have hlt := ahd_lt κ i hi2
        rw [decide_eq_true hx] at hlt
        have hc2 := (cnt_le κ).1
        rw [if_neg (by rw [decide_eq_true hx]; decide), if_pos hx, if_pos rfl]
        have htx := tx_read (bT := bT) hS hR hc hm (k := k) (w := ahd κ true i) (q := q) (by omega) (by omega) v s r g2 hr hf hw (by omega) hs2 (h0 _ (Nat.le_refl _) (by omega))
        cases htx with
        | inl ht =>
          obtain ⟨e, a, s', q', ts, t1, t2, t3, ch, t4, t5⟩ := ht
          left
          have hne1 : (((((r.s_fault (zI e)).s_chars (ch)).s_tsz (ts)).s_words (r.words + 1)) : Rst).fault ≠ -1 := by
            intro hh
            rw [← zI_ne1 (a := e) (by omega)]; exact hh
          refine ⟨e, a, v, s', q', ((((r.s_fault (zI e)).s_chars (ch)).s_tsz (ts)).s_words (r.words + 1)), ?_, t2, t3, ?_, rfl, ⟨ch, ts, r.nums, r.num, r.words + 1, r.lnum, zI e, rfl, fun hz => ⟨(t5 hz).1, (t5 hz).2, rfl⟩⟩⟩
          · rw [t1]; rfl
          · rw [t4]
            simp only [Option.bind_some, wW_21, zI_one, wW_s21]
            exact q_valF (by omega) hne1
        | inr ht =>
          obtain ⟨q', z', mk, ch, t1, t2, t3, t4, t5, t6, t7, t8, t9⟩ := ht
          rw [t5, t6]
          simp only [Option.bind_some, wW_21, zI_one, wW_s21, one_nz, if_false]
          have hJ : k * 2 + ahd κ true i < s.count * 2 := by omega
          have hSR2 := SR_text hSR hJ t4 (fun x hxx => t8 x (by omega)) (fun a ha => t9 a (by omega) ha) (r.words + 1)
          have ha1 : ahd κ true (i + 1) = ahd κ true i + 1 := by
            show ahd κ true i + (if decide (fSort (ffK κ i) = 0) = true then 1 else 0) = _
            rw [decide_eq_true hx, if_pos rfl]
          have ha2 : ahd κ false (i + 1) = ahd κ false i := by
            show ahd κ false i + (if decide (fSort (ffK κ i) = 0) = false then 1 else 0) = _
            rw [decide_eq_true hx, if_neg (by decide)]
            rfl
          have hih := ih (i + 1) F G q' v ((s.s_marks (mk)).s_tsz (upd s.tsz (k * 2 + ahd κ true i) (zI z'))) (((r.s_chars (ch)).s_tsz (if gi u 15 = 0 then r.tsz else upd r.tsz (k * 2 + ahd κ true i) (zI z'))).s_words (r.words + 1)) (by omega) (by omega) (by omega) (by omega) t2 hs hs2 hκ hv hr hf (by rw [ha1, ← hw]; rfl) (by rw [ha2]; exact hnm) hSR2 (by
            intro w hw1 hw2
            show upd s.tsz (k * 2 + ahd κ true i) (zI z') (k * 2 + w) = zI 0
            rw [upd_ne (by omega)]
            exact h0 w (by omega) hw2)
          rw [ha1, ha2] at hih
          have hsf : SF s ((s.s_marks (mk)).s_tsz (upd s.tsz (k * 2 + ahd κ true i) (zI z'))) := ⟨mk, _, s.nums, rfl⟩
          have hrf : RF (gi u 15) r (((r.s_chars (ch)).s_tsz (if gi u 15 = 0 then r.tsz else upd r.tsz (k * 2 + ahd κ true i) (zI z'))).s_words (r.words + 1)) := ⟨ch, _, r.nums, r.num, r.words + 1, r.lnum, r.fault, rfl, fun hz => ⟨t7 hz, if_pos hz, rfl⟩⟩
          cases hih with
          | inl h =>
            obtain ⟨e, a, w, s', q2, r', b1, b2, b3, b4, b5, b6⟩ := h
            left
            exact ⟨e, a, w, s', q2, r', b1, b2, b3, b4, b5, RF_trans hrf b6⟩
          | inr h =>
            obtain ⟨q2, w, s', r', b1, b2, b3, b4, b5, b6, b7, b8⟩ := h
            right
            exact ⟨q2, w, s', r', by omega, b2, b3, b4, b5, b6, SF_trans hsf b7, RF_trans hrf b8⟩
      · -- a number
        have hlt := ahd_lt κ i hi2
        rw [decide_eq_false hx] at hlt
        have hc2 := (cnt_le κ).2
        rw [if_pos (by rw [decide_eq_false hx]), if_neg hx, if_neg (show ¬ ((if fSort (ffK κ i) = 1 then (1 : Int32) else 2) = 3) by split <;> decide)]
        have hpn := p_number hS (ffK κ i) v (p := q) g2
        have hqn := q_number hR (r := r) (decide (fSort (ffK κ i) = 1)) (fLow (ffK κ i)) (fHigh (ffK κ i)) hr g2
        have hok := NR_ok (t := t) (len := decide (fSort (ffK κ i) = 1)) (lo := fLow (ffK κ i)) (hi := fHigh (ffK κ i)) g2
        have h46 : (if (if fSort (ffK κ i) = 1 then (1 : Int32) else 2) = 1 then f9_readValue_46 (wW u r) (zI κ.val) (zI i) 1 (zI q) else f9_readValue_46 (wW u r) (zI κ.val) (zI i) 0 (zI q)) = f9_readValue_46 (wW u r) (zI κ.val) (zI i) (bI (decide (fSort (ffK κ i) = 1))) (zI q) := by
          by_cases h1 : fSort (ffK κ i) = 1
          · rw [if_pos h1, if_pos rfl, decide_eq_true h1]; rfl
          · rw [if_neg h1, if_neg (by decide), decide_eq_false h1]; rfl
        rw [h46]
        unfold f9_readValue_46
        rw [(t_least κ i hi2 hx).1, (t_least κ i hi2 hx).2]
        simp only [Option.bind_some]
        generalize hNR : NR t n (decide (fSort (ffK κ i) = 1)) (fLow (ffK κ i)) (fHigh (ffK κ i)) q = x at hpn hqn hok
        have h88 : ∀ (r2 : Rst) (q2 : Nat), f9_readValue_88 (wW u r2) (zI q2) = some (zI q2, wW u (r2.s_num (r2.num + 1))) := by
          intro r2 q2
          unfold f9_readValue_88
          rw [wW_20, zI_one, wW_s20]
        have hput : ∀ (r2 : Rst) (q2 : Nat), r2.found = k → r2.num = ahd κ false i → (if gi (wW u r2) 15 = 0 then f9_readValue_88 (wW u r2) (zI q2) else if (5 : Int32) * gi (wW u r2) 17 + gi (wW u r2) 20 < 0 ∨ 1000 ≤ ((5 : Int32) * gi (wW u r2) 17 + gi (wW u r2) 20).toNatClampNeg then none else f9_readValue_88 (sn (wW u r2) (vp_updL (gn (wW u r2)) ((5 : Int32) * gi (wW u r2) 17 + gi (wW u r2) 20).toNatClampNeg (gl (wW u r2)))) (zI q2)) = some (zI q2, wW u ((r2.s_nums (if gi u 15 = 0 then r2.nums else vp_updL r2.nums (k * 5 + ahd κ false i) r2.lnum)).s_num (r2.num + 1))) := by
          intro r2 q2 e1 e2
          rw [wW_15]
          cases hm with
          | inl h => rw [if_pos h, if_pos h, h88]; rfl
          | inr h =>
            have h0 : ¬ gi u 15 = 0 := by rw [h]; decide
            rw [if_neg h0, if_neg h0]
            simp (disch := omega) only [wW_16, wW_17, wW_18, wW_20, wW_21, wW_22, wW_29, wW_30, wW_1, wW_3, wW_15, wW_a5, wW_a6, wW_a8, wW_a9, wW_a10, wW_a11, wW_a12, wW_a23, wW_a24, wW_a2, wW_n, wW_l, e1, e2, show (5 : Int32) = zI 5 from rfl, zI_le, zI_lt, zI_inj, zI_z, zI_lz, zI_zl, zI_neg, zI_nat, zI_add, zI_one, zI_mul, zI_ne1, zI_1n, leT, leF, ltT, ltF, eqT, eqF, if_true, if_false, Option.bind_some, false_or, or_false, true_or, or_true, true_and, and_true, false_and, and_false, not_true_eq_false, not_false_eq_true, reduceIte, wW_sn]
            rw [h88, Nat.mul_comm 5 k]
            simp only [R_version_version, R_version_found, R_version_fault, R_version_num, R_version_words, R_version_keeps, R_version_dnow, R_version_last, R_version_lnum, R_version_kinds, R_version_parents, R_version_tsz, R_version_chars, R_version_kfrom, R_version_ksz, R_version_kept, R_version_opn, R_version_okind, R_version_nums, R_found_version, R_found_found, R_found_fault, R_found_num, R_found_words, R_found_keeps, R_found_dnow, R_found_last, R_found_lnum, R_found_kinds, R_found_parents, R_found_tsz, R_found_chars, R_found_kfrom, R_found_ksz, R_found_kept, R_found_opn, R_found_okind, R_found_nums, R_fault_version, R_fault_found, R_fault_fault, R_fault_num, R_fault_words, R_fault_keeps, R_fault_dnow, R_fault_last, R_fault_lnum, R_fault_kinds, R_fault_parents, R_fault_tsz, R_fault_chars, R_fault_kfrom, R_fault_ksz, R_fault_kept, R_fault_opn, R_fault_okind, R_fault_nums, R_num_version, R_num_found, R_num_fault, R_num_num, R_num_words, R_num_keeps, R_num_dnow, R_num_last, R_num_lnum, R_num_kinds, R_num_parents, R_num_tsz, R_num_chars, R_num_kfrom, R_num_ksz, R_num_kept, R_num_opn, R_num_okind, R_num_nums, R_words_version, R_words_found, R_words_fault, R_words_num, R_words_words, R_words_keeps, R_words_dnow, R_words_last, R_words_lnum, R_words_kinds, R_words_parents, R_words_tsz, R_words_chars, R_words_kfrom, R_words_ksz, R_words_kept, R_words_opn, R_words_okind, R_words_nums, R_keeps_version, R_keeps_found, R_keeps_fault, R_keeps_num, R_keeps_words, R_keeps_keeps, R_keeps_dnow, R_keeps_last, R_keeps_lnum, R_keeps_kinds, R_keeps_parents, R_keeps_tsz, R_keeps_chars, R_keeps_kfrom, R_keeps_ksz, R_keeps_kept, R_keeps_opn, R_keeps_okind, R_keeps_nums, R_dnow_version, R_dnow_found, R_dnow_fault, R_dnow_num, R_dnow_words, R_dnow_keeps, R_dnow_dnow, R_dnow_last, R_dnow_lnum, R_dnow_kinds, R_dnow_parents, R_dnow_tsz, R_dnow_chars, R_dnow_kfrom, R_dnow_ksz, R_dnow_kept, R_dnow_opn, R_dnow_okind, R_dnow_nums, R_last_version, R_last_found, R_last_fault, R_last_num, R_last_words, R_last_keeps, R_last_dnow, R_last_last, R_last_lnum, R_last_kinds, R_last_parents, R_last_tsz, R_last_chars, R_last_kfrom, R_last_ksz, R_last_kept, R_last_opn, R_last_okind, R_last_nums, R_lnum_version, R_lnum_found, R_lnum_fault, R_lnum_num, R_lnum_words, R_lnum_keeps, R_lnum_dnow, R_lnum_last, R_lnum_lnum, R_lnum_kinds, R_lnum_parents, R_lnum_tsz, R_lnum_chars, R_lnum_kfrom, R_lnum_ksz, R_lnum_kept, R_lnum_opn, R_lnum_okind, R_lnum_nums, R_kinds_version, R_kinds_found, R_kinds_fault, R_kinds_num, R_kinds_words, R_kinds_keeps, R_kinds_dnow, R_kinds_last, R_kinds_lnum, R_kinds_kinds, R_kinds_parents, R_kinds_tsz, R_kinds_chars, R_kinds_kfrom, R_kinds_ksz, R_kinds_kept, R_kinds_opn, R_kinds_okind, R_kinds_nums, R_parents_version, R_parents_found, R_parents_fault, R_parents_num, R_parents_words, R_parents_keeps, R_parents_dnow, R_parents_last, R_parents_lnum, R_parents_kinds, R_parents_parents, R_parents_tsz, R_parents_chars, R_parents_kfrom, R_parents_ksz, R_parents_kept, R_parents_opn, R_parents_okind, R_parents_nums, R_tsz_version, R_tsz_found, R_tsz_fault, R_tsz_num, R_tsz_words, R_tsz_keeps, R_tsz_dnow, R_tsz_last, R_tsz_lnum, R_tsz_kinds, R_tsz_parents, R_tsz_tsz, R_tsz_chars, R_tsz_kfrom, R_tsz_ksz, R_tsz_kept, R_tsz_opn, R_tsz_okind, R_tsz_nums, R_chars_version, R_chars_found, R_chars_fault, R_chars_num, R_chars_words, R_chars_keeps, R_chars_dnow, R_chars_last, R_chars_lnum, R_chars_kinds, R_chars_parents, R_chars_tsz, R_chars_chars, R_chars_kfrom, R_chars_ksz, R_chars_kept, R_chars_opn, R_chars_okind, R_chars_nums, R_kfrom_version, R_kfrom_found, R_kfrom_fault, R_kfrom_num, R_kfrom_words, R_kfrom_keeps, R_kfrom_dnow, R_kfrom_last, R_kfrom_lnum, R_kfrom_kinds, R_kfrom_parents, R_kfrom_tsz, R_kfrom_chars, R_kfrom_kfrom, R_kfrom_ksz, R_kfrom_kept, R_kfrom_opn, R_kfrom_okind, R_kfrom_nums, R_ksz_version, R_ksz_found, R_ksz_fault, R_ksz_num, R_ksz_words, R_ksz_keeps, R_ksz_dnow, R_ksz_last, R_ksz_lnum, R_ksz_kinds, R_ksz_parents, R_ksz_tsz, R_ksz_chars, R_ksz_kfrom, R_ksz_ksz, R_ksz_kept, R_ksz_opn, R_ksz_okind, R_ksz_nums, R_kept_version, R_kept_found, R_kept_fault, R_kept_num, R_kept_words, R_kept_keeps, R_kept_dnow, R_kept_last, R_kept_lnum, R_kept_kinds, R_kept_parents, R_kept_tsz, R_kept_chars, R_kept_kfrom, R_kept_ksz, R_kept_kept, R_kept_opn, R_kept_okind, R_kept_nums, R_opn_version, R_opn_found, R_opn_fault, R_opn_num, R_opn_words, R_opn_keeps, R_opn_dnow, R_opn_last, R_opn_lnum, R_opn_kinds, R_opn_parents, R_opn_tsz, R_opn_chars, R_opn_kfrom, R_opn_ksz, R_opn_kept, R_opn_opn, R_opn_okind, R_opn_nums, R_okind_version, R_okind_found, R_okind_fault, R_okind_num, R_okind_words, R_okind_keeps, R_okind_dnow, R_okind_last, R_okind_lnum, R_okind_kinds, R_okind_parents, R_okind_tsz, R_okind_chars, R_okind_kfrom, R_okind_ksz, R_okind_kept, R_okind_opn, R_okind_okind, R_okind_nums, R_nums_version, R_nums_found, R_nums_fault, R_nums_num, R_nums_words, R_nums_keeps, R_nums_dnow, R_nums_last, R_nums_lnum, R_nums_kinds, R_nums_parents, R_nums_tsz, R_nums_chars, R_nums_kfrom, R_nums_ksz, R_nums_kept, R_nums_opn, R_nums_okind, R_nums_nums, e2]
        cases x with
        | inl e =>
          obtain ⟨a, w, c1⟩ := hpn
          obtain ⟨q2, w2, c2, c3⟩ := hqn
          left
          have hok' : e ≤ n + 20 := hok
          rw [c1, c3]
          simp only [Option.bind_some]
          rw [hput ((r.s_fault (zI e)).s_lnum (w2)) q2 hf hnm]
          simp only [Option.bind_some, zI_one]
          refine ⟨e, a, w, s, q2, ((((r.s_fault (zI e)).s_lnum (w2)).s_nums (if gi u 15 = 0 then r.nums else vp_updL r.nums (k * 5 + ahd κ false i) w2)).s_num (r.num + 1)), rfl, c2, hok', ?_, rfl, ⟨r.chars, r.tsz, _, r.num + 1, r.words, w2, zI e, rfl, fun hz => ⟨rfl, rfl, if_pos hz⟩⟩⟩
          exact q_valF (r := ((((r.s_fault (zI e)).s_lnum (w2)).s_nums (if gi u 15 = 0 then r.nums else vp_updL r.nums (k * 5 + ahd κ false i) w2)).s_num (r.num + 1))) (by omega) (by intro hh; rw [← zI_ne1 (a := e) (by omega)]; exact hh)
        | inr qw =>
          obtain ⟨q2, w⟩ := qw
          have c1 : fx_X6_takeNumber (sS uS q (-1) v) (ffK κ i) = some (1, sS uS q2 (-1) w) := hpn
          obtain ⟨c2, c3⟩ := hqn
          obtain ⟨d1, d2, d3, d4⟩ := hok
          have d1' : q < q2 := d1
          have d2' : q2 ≤ n := d2
          have d3' : ¬ lg_cmp w (fLow (ffK κ i)) < 0 := d3
          have d4' : ¬ 0 < lg_cmp w (fHigh (ffK κ i)) := d4
          rw [c1, c3]
          simp only [Option.bind_some, one_nz, if_false]
          rw [hput (r.s_lnum (w)) q2 hf hnm, sS_l, p_putN (by omega) hs2 (by omega)]
          simp only [Option.bind_some, zI_one]
          have hSR2 := SR_num hSR (k := k) (i := i) (v := w) (by omega) (by rw [hκ]; exact hi2) (by rw [hκ]; exact hx) (by rw [hκ]; exact d3') (by rw [hκ]; exact d4') (r.num + 1) r.words w
          rw [hκ] at hSR2
          have ha1 : ahd κ true (i + 1) = ahd κ true i := by
            show ahd κ true i + (if decide (fSort (ffK κ i) = 0) = true then 1 else 0) = _
            rw [decide_eq_false hx, if_neg (by decide)]
            rfl
          have ha2 : ahd κ false (i + 1) = ahd κ false i + 1 := by
            show ahd κ false i + (if decide (fSort (ffK κ i) = 0) = false then 1 else 0) = _
            rw [decide_eq_false hx, if_pos rfl]
          have hih := ih (i + 1) F G q2 w (s.s_nums (vp_updL s.nums (k * 5 + ahd κ false i) w)) ((((r.s_nums (if gi u 15 = 0 then r.nums else vp_updL r.nums (k * 5 + ahd κ false i) w)).s_num (r.num + 1)).s_words (r.words)).s_lnum (w)) (by omega) (by omega) (by omega) (by omega) d2' hs hs2 hκ hv hr hf (by rw [ha1]; exact hw) (by rw [ha2, ← hnm]; rfl) hSR2 (by
            intro w' hw1 hw2
            exact h0 w' (by omega) hw2)
          rw [ha1, ha2] at hih
          have hsf : SF s (s.s_nums (vp_updL s.nums (k * 5 + ahd κ false i) w)) := ⟨s.marks, s.tsz, _, rfl⟩
          have hrf : RF (gi u 15) r ((((r.s_nums (if gi u 15 = 0 then r.nums else vp_updL r.nums (k * 5 + ahd κ false i) w)).s_num (r.num + 1)).s_words (r.words)).s_lnum (w)) := ⟨r.chars, r.tsz, _, r.num + 1, r.words, w, r.fault, rfl, fun hz => ⟨rfl, rfl, if_pos hz⟩⟩
          cases hih with
          | inl h =>
            obtain ⟨e, a, w', s', q3, r', b1, b2, b3, b4, b5, b6⟩ := h
            left
            exact ⟨e, a, w', s', q3, r', b1, b2, b3, b4, b5, RF_trans hrf b6⟩
          | inr h =>
            obtain ⟨q3, w', s', r', b1, b2, b3, b4, b5, b6, b7, b8⟩ := h
            right
            exact ⟨q3, w', s', r', by omega, b2, b3, b4, b5, b6, SF_trans hsf b7, RF_trans hrf b8⟩
end VAL
