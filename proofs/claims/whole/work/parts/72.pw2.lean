/-! an unknown object's text, units, the depth -/
section QSU
variable {uX uS uV uP u bT : Md} {s : Tst} {r : Rst}
set_option maxRecDepth 100000 in
set_option maxHeartbeats 4000000 in
theorem q_depth9 (hG : TG s) (hSR : SR 1 s r) : ∀ m k F d, k ≤ m → k < s.count → k < F → d + k < 100000 → f9_depthOf_9 (wW u r) F (zI d) (r.parents k) = some (zI (d + tD s k)) := by
  have hN := hG.1.1
  have hTR := TR_of hSR
  intro m
  induction m with
  | zero =>
    intro k F d hk hkc hF hd
    obtain ⟨F, rfl⟩ : ∃ F', F = F' + 1 := ⟨F - 1, by omega⟩
    have e : k = 0 := by omega
    subst e
    rw [(hTR.1 0 hkc).2.1]
    cases hG.1.2.2 0 hkc with
    | inl h =>
      have e2 : tD s 0 = 0 := by unfold tD; rw [h.2.2]; rfl
      rw [h.2.1, f9_depthOf_9, if_pos rfl, e2]
      rfl
    | inr h => exact absurd h.1 (by omega)
  | succ m ih =>
    intro k F d hk hkc hF hd
    obtain ⟨F, rfl⟩ : ∃ F', F = F' + 1 := ⟨F - 1, by omega⟩
    rw [(hTR.1 k hkc).2.1]
    cases hG.1.2.2 k hkc with
    | inl h =>
      have e2 : tD s k = 0 := by unfold tD; rw [h.2.2]; rfl
      rw [h.2.1, f9_depthOf_9, if_pos rfl, e2]
      rfl
    | inr h =>
      have hp := h.2.2.1
      have hd2 := (T0_dep hG.1 (k := tP s k) (by omega)).2
      have e2 : tD s k = tD s (tP s k) + 1 := by
        show (s.depths k).toNatClampNeg = _
        rw [h.2.2.2.1, zI_nat (by omega)]
      rw [h.2.1, f9_depthOf_9, if_neg (by rw [zI_ne1 (by omega)]; exact not_false)]
      simp (disch := omega) only [zI_le, zI_lt, zI_inj, zI_z, zI_lz, zI_zl, zI_neg, zI_nat, zI_add, zI_one, zI_mul, zI_ne1, zI_1n, leT, leF, ltT, ltF, eqT, eqF, if_true, if_false, Option.bind_some, false_or, or_false, true_or, or_true, true_and, and_true, false_and, and_false, not_true_eq_false, not_false_eq_true, reduceIte, wW_a6]
      rw [ih (tP s k) F (d + 1) (by omega) (by omega) (by omega) (by omega), e2, show d + 1 + tD s (tP s k) = d + (tD s (tP s k) + 1) by omega]
set_option maxRecDepth 100000 in
set_option maxHeartbeats 4000000 in
theorem q_depthOf (hG : TG s) (hSR : SR 1 s r) {k : Nat} (hk : k < s.count) : f9_depthOf (wW u r) (zI k) = some (zI (tD s k)) := by
  have hN := hG.1.1
  unfold f9_depthOf
  have hFU : 300 < FU := by unfold FU; omega
  generalize FU = FF at hFU ⊢
  simp (disch := omega) only [zI_le, zI_lt, zI_inj, zI_z, zI_lz, zI_zl, zI_neg, zI_nat, zI_add, zI_one, zI_mul, zI_ne1, zI_1n, leT, leF, ltT, ltF, eqT, eqF, if_true, if_false, Option.bind_some, false_or, or_false, true_or, or_true, true_and, and_true, false_and, and_false, not_true_eq_false, not_false_eq_true, reduceIte, wW_a6]
  have h := q_depth9 (u := u) hG hSR k k FF 0 (Nat.le_refl _) hk (by omega) (by omega)
  rw [Nat.zero_add] at h
  exact h
set_option maxRecDepth 100000 in
set_option maxHeartbeats 4000000 in
theorem q_depthL (hG : TG s) (hSR : SR 1 s r) (h4 : gi u 4 = zI s.count) : ∀ j k F, s.count - k = j → k ≤ s.count → j < F → f9_depth_9 F (wW u r) (zI (mxD s k)) (zI k) = some (zI (mxD s s.count), wW u r) := by
  have hN := hG.1.1
  intro j
  induction j with
  | zero =>
    intro k F hj hk hF
    obtain ⟨F, rfl⟩ : ∃ F', F = F' + 1 := ⟨F - 1, by omega⟩
    have e : k = s.count := by omega
    subst e
    rw [f9_depth_9, wW_4, h4, if_pos (by rw [zI_le (by omega) (by omega)]; omega)]
  | succ j ih =>
    intro k F hj hk hF
    obtain ⟨F, rfl⟩ : ∃ F', F = F' + 1 := ⟨F - 1, by omega⟩
    have hd := (T0_dep hG.1 (k := k) (by omega)).2
    have hm := mxD_le hG.1 k (by omega)
    rw [f9_depth_9, wW_4, h4, if_neg (by rw [zI_le (by omega) (by omega)]; omega), q_depthOf hG hSR (by omega)]
    simp only [Option.bind_some]
    unfold f9_depth_35
    have e : mxD s (k + 1) = max (mxD s k) (tD s k + 1) := rfl
    have ih2 := ih (k + 1) F (by omega) (by omega) (by omega)
    rw [e] at ih2
    rw [zI_one, zI_one]
    by_cases hle : tD s k + 1 ≤ mxD s k
    · rw [if_pos (by rw [zI_le (by omega) (by omega)]; exact hle)]
      rw [Nat.max_eq_left hle] at ih2
      exact ih2
    · rw [if_neg (by rw [zI_le (by omega) (by omega)]; exact hle)]
      rw [Nat.max_eq_right (by omega)] at ih2
      exact ih2
set_option maxRecDepth 100000 in
set_option maxHeartbeats 4000000 in
theorem st_depth_L (hG : TG s) (hSR : SR 1 s r) (h4 : gi u 4 = zI s.count) : ∃ y, sL_11_L uX uS (yY bT s) uV uP (wW u r) = some (uX, uS, yY bT s, uV, uP, wW (si u 0 y) r) := by
  have hN := hG.1.1
  refine ⟨0, ?_⟩
  unfold sL_11_L f8_depth_L f9_depth
  have hFU : 300 < FU := by unfold FU; omega
  generalize FU = FF at hFU ⊢
  have h := q_depthL (u := si u 0 0) hG hSR h4 s.count 0 FF rfl (Nat.zero_le _) (by omega)
  have h' : f9_depth_9 FF (wW (si u 0 0) r) 0 0 = some (zI (mxD s s.count), wW (si u 0 0) r) := h
  rw [wW_b0, h', yY_14, hG.2.2.1.1]
  simp only [Option.bind_some, if_true]
set_option maxRecDepth 100000 in
set_option maxHeartbeats 4000000 in
theorem st_unknown_L (hG : TG s) (hSR : SR 1 s r) (h4 : gi u 4 = zI s.count) (a1 a2 : Int32) : ∃ y, sL_7_L uX uS (yY bT s) uV uP (wW u r) a1 a2 = some (uX, uS, yY bT s, uV, uP, wW (si u 0 y) r) := by
  have hN := hG.1.1
  have hTR := TR_of hSR
  unfold sL_7_L f8_unknown_L f8_unknown_L_46 f8_kindOfObject_L f9_unknown f9_unknown_43 f9_unknown_48
  rw [wW_b0, wW_b0, wW_b0]
  cases ob_cases (bT := bT) (r := r) a1 hN h4 with
  | inr h =>
    refine ⟨1, ?_⟩
    rw [h.1, h.2]
    simp only [Option.bind_some, one_nz, if_true, if_false, Sum.elim_inl, gi_s0]
  | inl h =>
    obtain ⟨k, hk, rfl, e1, e2⟩ := h
    have hκ := (tK s k).isLt
    obtain ⟨a, b, hka, hkb, hab, hk9⟩ := hG.2.2.2.2.2.1 k hk
    have hkc := hG.2.2.2.1
    obtain ⟨t1, t2, t3, t4⟩ := hTR.1 k hk
    rw [e1, e2, p_kindOf hG.1 hk]
    simp (disch := omega) only [Option.bind_some, one_nz, Sum.elim_inr, zI_le, zI_lt, zI_inj, zI_z, zI_lz, zI_zl, zI_neg, zI_nat, zI_add, zI_one, zI_mul, zI_ne1, zI_1n, leT, leF, ltT, ltF, eqT, eqF, if_true, if_false, Option.bind_some, false_or, or_false, true_or, or_true, true_and, and_true, false_and, and_false, not_true_eq_false, not_false_eq_true, reduceIte, wW_a5, wW_a10, wW_a11, wW_a12]
    rw [t1, (hG.1.2.1 k hk).1, t3, hkb]
    by_cases h9 : tK s k = 9
    · rw [if_pos h9, if_pos (show zI (tK s k).val = 9 by rw [h9]; rfl), t4 h9, hka]
      have hks : fx_X7_keptSizeOf (yY bT s) (zI k) = some (zI b) := by
        unfold fx_X7_keptSizeOf
        rw [p_hasT hk hN]
        simp (disch := omega) only [Option.bind_some, one_nz, zI_le, zI_lt, zI_inj, zI_z, zI_lz, zI_zl, zI_neg, zI_nat, zI_add, zI_one, zI_mul, zI_ne1, zI_1n, leT, leF, ltT, ltF, eqT, eqF, if_true, if_false, Option.bind_some, false_or, or_false, true_or, or_true, true_and, and_true, false_and, and_false, not_true_eq_false, not_false_eq_true, reduceIte, yY_12, yY_13, yY_14, yY_15, yY_a0, yY_a1, yY_a2, yY_a3, yY_a4, yY_a5, yY_a7, yY_a8, yY_a9, yY_a10, yY_a11, yY_n, hkb]
      rw [hks]
      simp only [Option.bind_some]
      by_cases hn1 : a2 = -1
      · refine ⟨0, ?_⟩
        subst hn1
        rw [if_pos rfl, if_neg (show ¬ ((-1 : Int32) < -1) by decide), if_pos (show (-1 : Int32) < zI b from Int32.lt_of_lt_of_le (show (-1 : Int32) < zI 0 by decide) (by rw [zI_le (by omega) (by omega)]; omega)), if_pos rfl]
        simp only [Option.bind_some, Sum.elim_inr, gi_s0, true_and, if_true]
      · rw [if_neg hn1]
        by_cases h0 : a2 < 0
        · refine ⟨1, ?_⟩
          have hlt : a2 < -1 := by
            rw [Int32.lt_iff_toInt_lt] at h0 ⊢
            have e0 : (0 : Int32).toInt = 0 := rfl
            have e1' : (-1 : Int32).toInt = -1 := rfl
            rw [e0] at h0
            rw [e1']
            have hne : a2.toInt ≠ -1 := fun h => hn1 (Int32.toInt_inj.mp (by rw [h]; rfl))
            omega
          rw [if_pos h0, if_pos hlt]
          simp only [Option.bind_some, Sum.elim_inl, gi_s0, if_true]
        · obtain ⟨e, hlt⟩ := zI_of h0
          generalize a2.toNatClampNeg = c at e hlt
          subst e
          rw [if_neg h0, if_neg (show ¬ (zI c < -1) by
            rw [Int32.not_lt]
            exact Int32.le_trans (show (-1 : Int32) ≤ zI 0 by decide) (by rw [zI_le (by omega) (by omega)]; omega))]
          by_cases hc : c < b
          · refine ⟨0, ?_⟩
            have hkm : fx_X7_keptMark (yY bT s) (zI k) (zI c) = some (s.kept (a + c)) := by
              unfold fx_X7_keptMark
              rw [hks]
              simp (disch := omega) only [Option.bind_some, show (2000 : Int32) = zI 2000 from rfl, zI_le, zI_lt, zI_inj, zI_z, zI_lz, zI_zl, zI_neg, zI_nat, zI_add, zI_one, zI_mul, zI_ne1, zI_1n, leT, leF, ltT, ltF, eqT, eqF, if_true, if_false, Option.bind_some, false_or, or_false, true_or, or_true, true_and, and_true, false_and, and_false, not_true_eq_false, not_false_eq_true, reduceIte, yY_12, yY_13, yY_14, yY_15, yY_a0, yY_a1, yY_a2, yY_a3, yY_a4, yY_a5, yY_a7, yY_a8, yY_a9, yY_a10, yY_a11, yY_n, hka]
            have hz : zI c < zI b := by rw [zI_lt (by omega) (by omega)]; exact hc
            rw [if_pos hz, if_pos hz, if_neg hn1, hkm]
            simp (disch := omega) only [Option.bind_some, Sum.elim_inr, gi_s0, zI_le, zI_lt, zI_inj, zI_z, zI_lz, zI_zl, zI_neg, zI_nat, zI_add, zI_one, zI_mul, zI_ne1, zI_1n, leT, leF, ltT, ltF, eqT, eqF, if_true, if_false, Option.bind_some, false_or, or_false, true_or, or_true, true_and, and_true, false_and, and_false, not_true_eq_false, not_false_eq_true, reduceIte]
            rw [hTR.2.2.2 (a + c) (by omega), if_pos rfl]
          · refine ⟨1, ?_⟩
            have hz : ¬ (zI c < zI b) := by rw [zI_lt (by omega) (by omega)]; exact hc
            rw [if_neg hz, if_neg hz]
            simp only [Option.bind_some, Sum.elim_inl, gi_s0, if_true]
    · refine ⟨2, ?_⟩
      rw [if_neg h9, if_neg (show ¬ (zI (tK s k).val = 9) by
        rw [show (9 : Int32) = zI 9 from rfl, zI_inj (by omega) (by omega)]
        intro h; exact h9 (Fin.ext h))]
      simp only [Option.bind_some, Sum.elim_inl, gi_s0]
      rfl
set_option maxRecDepth 100000 in
set_option maxHeartbeats 4000000 in
theorem st_depth_B (hG : TG s) (hSR : SR 1 s r) (h4 : gi u 4 = zI s.count) : ∃ y, sL_11_B uX uS (yY bT s) uV uP (wW u r) = some (uX, uS, yY bT s, uV, uP, wW (si u 0 y) r) := by
  have hN := hG.1.1
  refine ⟨0, ?_⟩
  unfold sL_11_B f8_depth_B f9_depth
  have hFU : 300 < FU := by unfold FU; omega
  generalize FU = FF at hFU ⊢
  have h := q_depthL (u := si u 0 0) hG hSR h4 s.count 0 FF rfl (Nat.zero_le _) (by omega)
  have h' : f9_depth_9 FF (wW (si u 0 0) r) 0 0 = some (zI (mxD s s.count), wW (si u 0 0) r) := h
  rw [wW_b0, h', yY_14, hG.2.2.1.1]
  simp only [Option.bind_some, if_true]
set_option maxRecDepth 100000 in
set_option maxHeartbeats 4000000 in
theorem st_unknown_B (hG : TG s) (hSR : SR 1 s r) (h4 : gi u 4 = zI s.count) (a1 a2 : Int32) : ∃ y, sL_7_B uX uS (yY bT s) uV uP (wW u r) a1 a2 = some (uX, uS, yY bT s, uV, uP, wW (si u 0 y) r) := by
  have hN := hG.1.1
  have hTR := TR_of hSR
  unfold sL_7_B f8_unknown_B f8_unknown_B_46 f8_kindOfObject_B f9_unknown f9_unknown_43 f9_unknown_48
  rw [wW_b0, wW_b0, wW_b0]
  cases ob_cases (bT := bT) (r := r) a1 hN h4 with
  | inr h =>
    refine ⟨1, ?_⟩
    rw [h.1, h.2]
    simp only [Option.bind_some, one_nz, if_true, if_false, Sum.elim_inl, gi_s0]
  | inl h =>
    obtain ⟨k, hk, rfl, e1, e2⟩ := h
    have hκ := (tK s k).isLt
    obtain ⟨a, b, hka, hkb, hab, hk9⟩ := hG.2.2.2.2.2.1 k hk
    have hkc := hG.2.2.2.1
    obtain ⟨t1, t2, t3, t4⟩ := hTR.1 k hk
    rw [e1, e2, p_kindOf hG.1 hk]
    simp (disch := omega) only [Option.bind_some, one_nz, Sum.elim_inr, zI_le, zI_lt, zI_inj, zI_z, zI_lz, zI_zl, zI_neg, zI_nat, zI_add, zI_one, zI_mul, zI_ne1, zI_1n, leT, leF, ltT, ltF, eqT, eqF, if_true, if_false, Option.bind_some, false_or, or_false, true_or, or_true, true_and, and_true, false_and, and_false, not_true_eq_false, not_false_eq_true, reduceIte, wW_a5, wW_a10, wW_a11, wW_a12]
    rw [t1, (hG.1.2.1 k hk).1, t3, hkb]
    by_cases h9 : tK s k = 9
    · rw [if_pos h9, if_pos (show zI (tK s k).val = 9 by rw [h9]; rfl), t4 h9, hka]
      have hks : fx_X7_keptSizeOf (yY bT s) (zI k) = some (zI b) := by
        unfold fx_X7_keptSizeOf
        rw [p_hasT hk hN]
        simp (disch := omega) only [Option.bind_some, one_nz, zI_le, zI_lt, zI_inj, zI_z, zI_lz, zI_zl, zI_neg, zI_nat, zI_add, zI_one, zI_mul, zI_ne1, zI_1n, leT, leF, ltT, ltF, eqT, eqF, if_true, if_false, Option.bind_some, false_or, or_false, true_or, or_true, true_and, and_true, false_and, and_false, not_true_eq_false, not_false_eq_true, reduceIte, yY_12, yY_13, yY_14, yY_15, yY_a0, yY_a1, yY_a2, yY_a3, yY_a4, yY_a5, yY_a7, yY_a8, yY_a9, yY_a10, yY_a11, yY_n, hkb]
      rw [hks]
      simp only [Option.bind_some]
      by_cases hn1 : a2 = -1
      · refine ⟨0, ?_⟩
        subst hn1
        rw [if_pos rfl, if_neg (show ¬ ((-1 : Int32) < -1) by decide), if_pos (show (-1 : Int32) < zI b from Int32.lt_of_lt_of_le (show (-1 : Int32) < zI 0 by decide) (by rw [zI_le (by omega) (by omega)]; omega)), if_pos rfl]
        simp only [Option.bind_some, Sum.elim_inr, gi_s0, true_and, if_true]
      · rw [if_neg hn1]
        by_cases h0 : a2 < 0
        · refine ⟨1, ?_⟩
          have hlt : a2 < -1 := by
            rw [Int32.lt_iff_toInt_lt] at h0 ⊢
            have e0 : (0 : Int32).toInt = 0 := rfl
            have e1' : (-1 : Int32).toInt = -1 := rfl
            rw [e0] at h0
            rw [e1']
            have hne : a2.toInt ≠ -1 := fun h => hn1 (Int32.toInt_inj.mp (by rw [h]; rfl))
            omega
          rw [if_pos h0, if_pos hlt]
          simp only [Option.bind_some, Sum.elim_inl, gi_s0, if_true]
        · obtain ⟨e, hlt⟩ := zI_of h0
          generalize a2.toNatClampNeg = c at e hlt
          subst e
          rw [if_neg h0, if_neg (show ¬ (zI c < -1) by
            rw [Int32.not_lt]
            exact Int32.le_trans (show (-1 : Int32) ≤ zI 0 by decide) (by rw [zI_le (by omega) (by omega)]; omega))]
          by_cases hc : c < b
          · refine ⟨0, ?_⟩
            have hkm : fx_X7_keptMark (yY bT s) (zI k) (zI c) = some (s.kept (a + c)) := by
              unfold fx_X7_keptMark
              rw [hks]
              simp (disch := omega) only [Option.bind_some, show (2000 : Int32) = zI 2000 from rfl, zI_le, zI_lt, zI_inj, zI_z, zI_lz, zI_zl, zI_neg, zI_nat, zI_add, zI_one, zI_mul, zI_ne1, zI_1n, leT, leF, ltT, ltF, eqT, eqF, if_true, if_false, Option.bind_some, false_or, or_false, true_or, or_true, true_and, and_true, false_and, and_false, not_true_eq_false, not_false_eq_true, reduceIte, yY_12, yY_13, yY_14, yY_15, yY_a0, yY_a1, yY_a2, yY_a3, yY_a4, yY_a5, yY_a7, yY_a8, yY_a9, yY_a10, yY_a11, yY_n, hka]
            have hz : zI c < zI b := by rw [zI_lt (by omega) (by omega)]; exact hc
            rw [if_pos hz, if_pos hz, if_neg hn1, hkm]
            simp (disch := omega) only [Option.bind_some, Sum.elim_inr, gi_s0, zI_le, zI_lt, zI_inj, zI_z, zI_lz, zI_zl, zI_neg, zI_nat, zI_add, zI_one, zI_mul, zI_ne1, zI_1n, leT, leF, ltT, ltF, eqT, eqF, if_true, if_false, Option.bind_some, false_or, or_false, true_or, or_true, true_and, and_true, false_and, and_false, not_true_eq_false, not_false_eq_true, reduceIte]
            rw [hTR.2.2.2 (a + c) (by omega), if_pos rfl]
          · refine ⟨1, ?_⟩
            have hz : ¬ (zI c < zI b) := by rw [zI_lt (by omega) (by omega)]; exact hc
            rw [if_neg hz, if_neg hz]
            simp only [Option.bind_some, Sum.elim_inl, gi_s0, if_true]
    · refine ⟨2, ?_⟩
      rw [if_neg h9, if_neg (show ¬ (zI (tK s k).val = 9) by
        rw [show (9 : Int32) = zI 9 from rfl, zI_inj (by omega) (by omega)]
        intro h; exact h9 (Fin.ext h))]
      simp only [Option.bind_some, Sum.elim_inl, gi_s0]
      rfl
end QSU
