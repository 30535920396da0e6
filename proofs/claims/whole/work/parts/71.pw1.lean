/-! the questions answered alike -/
theorem gi_s0 (u : Md) (r : Rst) (y : Int32) : gi (wW (si u 0 y) r) 0 = y := id rfl
section QST
variable {uX uS uV uP u bT : Md} {s : Tst} {r : Rst}
set_option maxRecDepth 100000 in
set_option maxHeartbeats 4000000 in
theorem TR_of (h : SR 1 s r) : TR s r := h.2.2 (by decide)
set_option maxRecDepth 100000 in
set_option maxHeartbeats 4000000 in
theorem st_kind_L (hG : TG s) (hSR : SR 1 s r) (h4 : gi u 4 = zI s.count) (a1 : Int32) : ∃ y, sL_2_L uX uS (yY bT s) uV uP (wW u r) a1 = some (uX, uS, yY bT s, uV, uP, wW (si u 0 y) r) := by
  have hN := hG.1.1
  have hTR := TR_of hSR
  unfold sL_2_L f8_kind_L f8_kindOfObject_L f9_kind f9_kind_14
  rw [wW_b0, wW_b0]
  cases ob_cases (bT := bT) (r := r) a1 hN h4 with
  | inr h =>
    refine ⟨1, ?_⟩
    rw [h.1, h.2]
    simp only [Option.bind_some, one_nz, if_true, if_false, Sum.elim_inl, gi_s0]
  | inl h =>
    obtain ⟨k, hk, rfl, e1, e2⟩ := h
    refine ⟨0, ?_⟩
    rw [e1, e2, p_kindOf hG.1 hk]
    simp (disch := omega) only [Option.bind_some, one_nz, Sum.elim_inr, gi_s0, zI_le, zI_lt, zI_inj, zI_z, zI_lz, zI_zl, zI_neg, zI_nat, zI_add, zI_one, zI_mul, zI_ne1, zI_1n, leT, leF, ltT, ltF, eqT, eqF, if_true, if_false, Option.bind_some, false_or, or_false, true_or, or_true, true_and, and_true, false_and, and_false, not_true_eq_false, not_false_eq_true, reduceIte, wW_a5]
    rw [(hTR.1 k hk).1, (hG.1.2.1 k hk).1, if_pos (kN_val _)]
set_option maxRecDepth 100000 in
set_option maxHeartbeats 4000000 in
theorem st_parent_L (hG : TG s) (hSR : SR 1 s r) (h4 : gi u 4 = zI s.count) (a1 : Int32) : ∃ y, sL_3_L uX uS (yY bT s) uV uP (wW u r) a1 = some (uX, uS, yY bT s, uV, uP, wW (si u 0 y) r) := by
  have hN := hG.1.1
  have hTR := TR_of hSR
  unfold sL_3_L f8_parent_L f9_parent f9_parent_14
  rw [wW_b0, wW_b0]
  cases ob_cases (bT := bT) (r := r) a1 hN h4 with
  | inr h =>
    refine ⟨1, ?_⟩
    rw [h.1, h.2]
    simp only [Option.bind_some, one_nz, if_true, if_false, Sum.elim_inl, gi_s0]
  | inl h =>
    obtain ⟨k, hk, rfl, e1, e2⟩ := h
    refine ⟨0, ?_⟩
    rw [e1, e2, p_parentOf hN hk]
    simp (disch := omega) only [Option.bind_some, one_nz, Sum.elim_inr, gi_s0, zI_le, zI_lt, zI_inj, zI_z, zI_lz, zI_zl, zI_neg, zI_nat, zI_add, zI_one, zI_mul, zI_ne1, zI_1n, leT, leF, ltT, ltF, eqT, eqF, if_true, if_false, Option.bind_some, false_or, or_false, true_or, or_true, true_and, and_true, false_and, and_false, not_true_eq_false, not_false_eq_true, reduceIte, wW_a6]
    rw [(hTR.1 k hk).2.1, if_pos rfl]
set_option maxRecDepth 100000 in
set_option maxHeartbeats 4000000 in
theorem st_version_L (h14 : gi u 14 = s.version) : ∃ y, sL_6_L uX uS (yY bT s) uV uP (wW u r) = some (uX, uS, yY bT s, uV, uP, wW (si u 0 y) r) := by
  refine ⟨0, ?_⟩
  unfold sL_6_L f8_version_L f9_version
  rw [wW_b0, wW_14, yY_15, h14]
  simp only [Option.bind_some, if_true]
set_option maxRecDepth 100000 in
set_option maxHeartbeats 4000000 in
theorem st_number_L (hG : TG s) (hSR : SR 1 s r) (h4 : gi u 4 = zI s.count) (a1 a2 : Int32) : ∃ y, sL_4_L uX uS (yY bT s) uV uP (wW u r) a1 a2 = some (uX, uS, yY bT s, uV, uP, wW (si u 0 y) r) := by
  have hN := hG.1.1
  have hTR := TR_of hSR
  unfold sL_4_L f8_number_L f8_kindOfObject_L f9_number f9_number_28 f9_number_29
  rw [wW_b0, wW_b0]
  cases ob_cases (bT := bT) (r := r) a1 hN h4 with
  | inr h =>
    refine ⟨1, ?_⟩
    rw [h.1, h.2]
    simp only [Option.bind_some, one_nz, if_true, if_false, Sum.elim_inl, gi_s0]
  | inl h =>
    obtain ⟨k, hk, rfl, e1, e2⟩ := h
    have hκ := (tK s k).isLt
    rw [e1, e2, p_kindOf hG.1 hk]
    simp (disch := omega) only [Option.bind_some, one_nz, Sum.elim_inr, zI_le, zI_lt, zI_inj, zI_z, zI_lz, zI_zl, zI_neg, zI_nat, zI_add, zI_one, zI_mul, zI_ne1, zI_1n, leT, leF, ltT, ltF, eqT, eqF, if_true, if_false, Option.bind_some, false_or, or_false, true_or, or_true, true_and, and_true, false_and, and_false, not_true_eq_false, not_false_eq_true, reduceIte, wW_a5]
    rw [(hTR.1 k hk).1, (hG.1.2.1 k hk).1]
    cases sp_cases (tK s k) false a2 with
    | inr h =>
      refine ⟨1, ?_⟩
      have h1 : fx_X2_spotOf (tK s k) 0 a2 = some (-1) := h.1
      have h2 : f9_fieldOf (zI (tK s k).val) a2 0 = some (-1) := h.2
      rw [h1, h2]
      simp only [Option.bind_some, if_true, Sum.elim_inl, gi_s0]
    | inl h =>
      obtain ⟨w, i, hw, rfl, hi, ht, ha, h1', h2'⟩ := h
      have h1 : fx_X2_spotOf (tK s k) 0 (zI w) = some (zI i) := h1'
      have h2 : f9_fieldOf (zI (tK s k).val) (zI w) 0 = some (zI i) := h2'
      have h5 := nf_le (tK s k)
      have hc5 := (cnt_le (tK s k)).2
      refine ⟨0, ?_⟩
      unfold fx_X7_numberOf fx_X7_hasNumber
      rw [h1, h2]
      simp (disch := omega) only [Option.bind_some, one_nz, Sum.elim_inr, gi_s0, show (5 : Int32) = zI 5 from rfl, zI_le, zI_lt, zI_inj, zI_z, zI_lz, zI_zl, zI_neg, zI_nat, zI_add, zI_one, zI_mul, zI_ne1, zI_1n, leT, leF, ltT, ltF, eqT, eqF, if_true, if_false, Option.bind_some, false_or, or_false, true_or, or_true, true_and, and_true, false_and, and_false, not_true_eq_false, not_false_eq_true, reduceIte, wW_n, yY_12, yY_13, yY_14, yY_15, yY_a0, yY_a1, yY_a2, yY_a3, yY_a4, yY_a5, yY_a7, yY_a8, yY_a9, yY_a10, yY_a11, yY_n]
      rw [Nat.mul_comm 5 k, hTR.2.2.1 k hk w hw, if_pos rfl]
set_option maxRecDepth 100000 in
set_option maxHeartbeats 4000000 in
theorem st_text_L (hG : TG s) (hSR : SR 1 s r) (h4 : gi u 4 = zI s.count) (a1 a2 a3 : Int32) : ∃ y, sL_5_L uX uS (yY bT s) uV uP (wW u r) a1 a2 a3 = some (uX, uS, yY bT s, uV, uP, wW (si u 0 y) r) := by
  have hN := hG.1.1
  have hTR := TR_of hSR
  unfold sL_5_L f8_text_L f8_text_L_53 f8_kindOfObject_L f9_text f9_text_27 f9_text_28 f9_text_59 f9_text_60
  rw [wW_b0, wW_b0]
  cases ob_cases (bT := bT) (r := r) a1 hN h4 with
  | inr h =>
    refine ⟨1, ?_⟩
    rw [h.1, h.2]
    simp only [Option.bind_some, one_nz, if_true, if_false, Sum.elim_inl, gi_s0]
  | inl h =>
    obtain ⟨k, hk, rfl, e1, e2⟩ := h
    have hκ := (tK s k).isLt
    rw [e1, e2, p_kindOf hG.1 hk]
    simp (disch := omega) only [Option.bind_some, one_nz, Sum.elim_inr, zI_le, zI_lt, zI_inj, zI_z, zI_lz, zI_zl, zI_neg, zI_nat, zI_add, zI_one, zI_mul, zI_ne1, zI_1n, leT, leF, ltT, ltF, eqT, eqF, if_true, if_false, Option.bind_some, false_or, or_false, true_or, or_true, true_and, and_true, false_and, and_false, not_true_eq_false, not_false_eq_true, reduceIte, wW_a5]
    rw [(hTR.1 k hk).1, (hG.1.2.1 k hk).1]
    cases sp_cases (tK s k) true a2 with
    | inr h =>
      refine ⟨1, ?_⟩
      have h1 : fx_X2_spotOf (tK s k) 1 a2 = some (-1) := h.1
      have h2 : f9_fieldOf (zI (tK s k).val) a2 1 = some (-1) := h.2
      rw [h1, h2]
      simp only [Option.bind_some, if_true, if_false, one_nz, Sum.elim_inl, gi_s0]
    | inl h =>
      obtain ⟨w, i, hw, rfl, hi, ht, ha, h1', h2'⟩ := h
      have h1 : fx_X2_spotOf (tK s k) 1 (zI w) = some (zI i) := h1'
      have h2 : f9_fieldOf (zI (tK s k).val) (zI w) 1 = some (zI i) := h2'
      have h5 := nf_le (tK s k)
      have hc5 := (cnt_le (tK s k)).1
      obtain ⟨z, hz4, hz, hzT⟩ := hSR.1 (k * 2 + w) (by omega)
      have hr := hTR.2.1 (k * 2 + w) (by omega)
      rw [hz] at hr
      have htz : fx_X7_textSize (yY bT s) (zI k) (zI w) = some (zI z) := by
        unfold fx_X7_textSize fx_X7_hasText
        simp (disch := omega) only [Option.bind_some, one_nz, show (2 : Int32) = zI 2 from rfl, zI_le, zI_lt, zI_inj, zI_z, zI_lz, zI_zl, zI_neg, zI_nat, zI_add, zI_one, zI_mul, zI_ne1, zI_1n, leT, leF, ltT, ltF, eqT, eqF, if_true, if_false, Option.bind_some, false_or, or_false, true_or, or_true, true_and, and_true, false_and, and_false, not_true_eq_false, not_false_eq_true, reduceIte, yY_12, yY_13, yY_14, yY_15, yY_a0, yY_a1, yY_a2, yY_a3, yY_a4, yY_a5, yY_a7, yY_a8, yY_a9, yY_a10, yY_a11, yY_n, hz]
      rw [h1, h2]
      simp (disch := omega) only [Option.bind_some, one_nz, htz, show (2 : Int32) = zI 2 from rfl, show (80 : Int32) = zI 80 from rfl, show (40 : Int32) = zI 40 from rfl, zI_le, zI_lt, zI_inj, zI_z, zI_lz, zI_zl, zI_neg, zI_nat, zI_add, zI_one, zI_mul, zI_ne1, zI_1n, leT, leF, ltT, ltF, eqT, eqF, if_true, if_false, Option.bind_some, false_or, or_false, true_or, or_true, true_and, and_true, false_and, and_false, not_true_eq_false, not_false_eq_true, reduceIte, wW_a8, wW_a9]
      rw [Nat.mul_comm 2 k, hr.1]
      by_cases hn1 : a3 = -1
      · refine ⟨0, ?_⟩
        subst hn1
        rw [if_pos rfl, if_neg (show ¬ ((-1 : Int32) < -1) by decide), if_neg (show ¬ (zI z ≤ -1) by
          rw [Int32.not_le]
          exact Int32.lt_of_lt_of_le (show (-1 : Int32) < zI 0 by decide) (by rw [zI_le (by omega) (by omega)]; omega)), if_pos rfl]
        simp only [Option.bind_some, Sum.elim_inr, gi_s0, true_and, if_true]
      · rw [if_neg hn1]
        by_cases h0 : a3 < 0
        · refine ⟨1, ?_⟩
          have hlt : a3 < -1 := by
            rw [Int32.lt_iff_toInt_lt] at h0 ⊢
            have e0 : (0 : Int32).toInt = 0 := rfl
            have e1' : (-1 : Int32).toInt = -1 := rfl
            rw [e0] at h0
            rw [e1']
            have hne : a3.toInt ≠ -1 := fun h => hn1 (Int32.toInt_inj.mp (by rw [h]; rfl))
            omega
          rw [if_pos h0, if_pos hlt]
          simp only [Option.bind_some, Sum.elim_inl, gi_s0, if_true]
        · obtain ⟨e, hlt⟩ := zI_of h0
          generalize a3.toNatClampNeg = c at e hlt
          subst e
          rw [if_neg h0, if_neg (show ¬ (zI c < -1) by
            rw [Int32.not_lt]
            exact Int32.le_trans (show (-1 : Int32) ≤ zI 0 by decide) (by rw [zI_le (by omega) (by omega)]; omega))]
          by_cases hc : c < z
          · refine ⟨0, ?_⟩
            have htm : fx_X7_textMark (yY bT s) (zI k) (zI w) (zI c) = some (s.marks ((k * 2 + w) * 40 + c)) := by
              unfold fx_X7_textMark
              rw [htz]
              simp (disch := omega) only [Option.bind_some, show (2 : Int32) = zI 2 from rfl, show (40 : Int32) = zI 40 from rfl, zI_le, zI_lt, zI_inj, zI_z, zI_lz, zI_zl, zI_neg, zI_nat, zI_add, zI_one, zI_mul, zI_ne1, zI_1n, leT, leF, ltT, ltF, eqT, eqF, if_true, if_false, Option.bind_some, false_or, or_false, true_or, or_true, true_and, and_true, false_and, and_false, not_true_eq_false, not_false_eq_true, reduceIte, yY_12, yY_13, yY_14, yY_15, yY_a0, yY_a1, yY_a2, yY_a3, yY_a4, yY_a5, yY_a7, yY_a8, yY_a9, yY_a10, yY_a11, yY_n]
            rw [if_pos (show zI c < zI z by rw [zI_lt (by omega) (by omega)]; exact hc), if_neg (show ¬ (zI z ≤ zI c) by rw [zI_le (by omega) (by omega)]; omega), if_neg hn1, htm]
            simp (disch := omega) only [Option.bind_some, Sum.elim_inr, gi_s0, zI_le, zI_lt, zI_inj, zI_z, zI_lz, zI_zl, zI_neg, zI_nat, zI_add, zI_one, zI_mul, zI_ne1, zI_1n, leT, leF, ltT, ltF, eqT, eqF, if_true, if_false, Option.bind_some, false_or, or_false, true_or, or_true, true_and, and_true, false_and, and_false, not_true_eq_false, not_false_eq_true, reduceIte]
            rw [show 80 * k + 40 * w + c = (k * 2 + w) * 40 + c by omega, hr.2 c (by omega) (by rw [zI_lt (by omega) (by omega)]; exact hc), if_pos rfl]
          · refine ⟨1, ?_⟩
            rw [if_neg (show ¬ (zI c < zI z) by rw [zI_lt (by omega) (by omega)]; exact hc), if_pos (show zI z ≤ zI c by rw [zI_le (by omega) (by omega)]; omega)]
            simp only [Option.bind_some, Sum.elim_inl, gi_s0, if_true]
set_option maxRecDepth 100000 in
set_option maxHeartbeats 4000000 in
theorem st_kind_B (hG : TG s) (hSR : SR 1 s r) (h4 : gi u 4 = zI s.count) (a1 : Int32) : ∃ y, sL_2_B uX uS (yY bT s) uV uP (wW u r) a1 = some (uX, uS, yY bT s, uV, uP, wW (si u 0 y) r) := by
  have hN := hG.1.1
  have hTR := TR_of hSR
  unfold sL_2_B f8_kind_B f8_kindOfObject_B f9_kind f9_kind_14
  rw [wW_b0, wW_b0]
  cases ob_cases (bT := bT) (r := r) a1 hN h4 with
  | inr h =>
    refine ⟨1, ?_⟩
    rw [h.1, h.2]
    simp only [Option.bind_some, one_nz, if_true, if_false, Sum.elim_inl, gi_s0]
  | inl h =>
    obtain ⟨k, hk, rfl, e1, e2⟩ := h
    refine ⟨0, ?_⟩
    rw [e1, e2, p_kindOf hG.1 hk]
    simp (disch := omega) only [Option.bind_some, one_nz, Sum.elim_inr, gi_s0, zI_le, zI_lt, zI_inj, zI_z, zI_lz, zI_zl, zI_neg, zI_nat, zI_add, zI_one, zI_mul, zI_ne1, zI_1n, leT, leF, ltT, ltF, eqT, eqF, if_true, if_false, Option.bind_some, false_or, or_false, true_or, or_true, true_and, and_true, false_and, and_false, not_true_eq_false, not_false_eq_true, reduceIte, wW_a5]
    rw [(hTR.1 k hk).1, (hG.1.2.1 k hk).1, if_pos (kN_val _)]
set_option maxRecDepth 100000 in
set_option maxHeartbeats 4000000 in
theorem st_parent_B (hG : TG s) (hSR : SR 1 s r) (h4 : gi u 4 = zI s.count) (a1 : Int32) : ∃ y, sL_3_B uX uS (yY bT s) uV uP (wW u r) a1 = some (uX, uS, yY bT s, uV, uP, wW (si u 0 y) r) := by
  have hN := hG.1.1
  have hTR := TR_of hSR
  unfold sL_3_B f8_parent_B f9_parent f9_parent_14
  rw [wW_b0, wW_b0]
  cases ob_cases (bT := bT) (r := r) a1 hN h4 with
  | inr h =>
    refine ⟨1, ?_⟩
    rw [h.1, h.2]
    simp only [Option.bind_some, one_nz, if_true, if_false, Sum.elim_inl, gi_s0]
  | inl h =>
    obtain ⟨k, hk, rfl, e1, e2⟩ := h
    refine ⟨0, ?_⟩
    rw [e1, e2, p_parentOf hN hk]
    simp (disch := omega) only [Option.bind_some, one_nz, Sum.elim_inr, gi_s0, zI_le, zI_lt, zI_inj, zI_z, zI_lz, zI_zl, zI_neg, zI_nat, zI_add, zI_one, zI_mul, zI_ne1, zI_1n, leT, leF, ltT, ltF, eqT, eqF, if_true, if_false, Option.bind_some, false_or, or_false, true_or, or_true, true_and, and_true, false_and, and_false, not_true_eq_false, not_false_eq_true, reduceIte, wW_a6]
    rw [(hTR.1 k hk).2.1, if_pos rfl]
set_option maxRecDepth 100000 in
set_option maxHeartbeats 4000000 in
theorem st_version_B (h14 : gi u 14 = s.version) : ∃ y, sL_6_B uX uS (yY bT s) uV uP (wW u r) = some (uX, uS, yY bT s, uV, uP, wW (si u 0 y) r) := by
  refine ⟨0, ?_⟩
  unfold sL_6_B f8_version_B f9_version
  rw [wW_b0, wW_14, yY_15, h14]
  simp only [Option.bind_some, if_true]
set_option maxRecDepth 100000 in
set_option maxHeartbeats 4000000 in
theorem st_number_B (hG : TG s) (hSR : SR 1 s r) (h4 : gi u 4 = zI s.count) (a1 a2 : Int32) : ∃ y, sL_4_B uX uS (yY bT s) uV uP (wW u r) a1 a2 = some (uX, uS, yY bT s, uV, uP, wW (si u 0 y) r) := by
  have hN := hG.1.1
  have hTR := TR_of hSR
  unfold sL_4_B f8_number_B f8_kindOfObject_B f9_number f9_number_28 f9_number_29
  rw [wW_b0, wW_b0]
  cases ob_cases (bT := bT) (r := r) a1 hN h4 with
  | inr h =>
    refine ⟨1, ?_⟩
    rw [h.1, h.2]
    simp only [Option.bind_some, one_nz, if_true, if_false, Sum.elim_inl, gi_s0]
  | inl h =>
    obtain ⟨k, hk, rfl, e1, e2⟩ := h
    have hκ := (tK s k).isLt
    rw [e1, e2, p_kindOf hG.1 hk]
    simp (disch := omega) only [Option.bind_some, one_nz, Sum.elim_inr, zI_le, zI_lt, zI_inj, zI_z, zI_lz, zI_zl, zI_neg, zI_nat, zI_add, zI_one, zI_mul, zI_ne1, zI_1n, leT, leF, ltT, ltF, eqT, eqF, if_true, if_false, Option.bind_some, false_or, or_false, true_or, or_true, true_and, and_true, false_and, and_false, not_true_eq_false, not_false_eq_true, reduceIte, wW_a5]
    rw [(hTR.1 k hk).1, (hG.1.2.1 k hk).1]
    cases sp_cases (tK s k) false a2 with
    | inr h =>
      refine ⟨1, ?_⟩
      have h1 : fx_X2_spotOf (tK s k) 0 a2 = some (-1) := h.1
      have h2 : f9_fieldOf (zI (tK s k).val) a2 0 = some (-1) := h.2
      rw [h1, h2]
      simp only [Option.bind_some, if_true, Sum.elim_inl, gi_s0]
    | inl h =>
      obtain ⟨w, i, hw, rfl, hi, ht, ha, h1', h2'⟩ := h
      have h1 : fx_X2_spotOf (tK s k) 0 (zI w) = some (zI i) := h1'
      have h2 : f9_fieldOf (zI (tK s k).val) (zI w) 0 = some (zI i) := h2'
      have h5 := nf_le (tK s k)
      have hc5 := (cnt_le (tK s k)).2
      refine ⟨0, ?_⟩
      unfold fx_X7_numberOf fx_X7_hasNumber
      rw [h1, h2]
      simp (disch := omega) only [Option.bind_some, one_nz, Sum.elim_inr, gi_s0, show (5 : Int32) = zI 5 from rfl, zI_le, zI_lt, zI_inj, zI_z, zI_lz, zI_zl, zI_neg, zI_nat, zI_add, zI_one, zI_mul, zI_ne1, zI_1n, leT, leF, ltT, ltF, eqT, eqF, if_true, if_false, Option.bind_some, false_or, or_false, true_or, or_true, true_and, and_true, false_and, and_false, not_true_eq_false, not_false_eq_true, reduceIte, wW_n, yY_12, yY_13, yY_14, yY_15, yY_a0, yY_a1, yY_a2, yY_a3, yY_a4, yY_a5, yY_a7, yY_a8, yY_a9, yY_a10, yY_a11, yY_n]
      rw [Nat.mul_comm 5 k, hTR.2.2.1 k hk w hw, if_pos rfl]
set_option maxRecDepth 100000 in
set_option maxHeartbeats 4000000 in
theorem st_text_B (hG : TG s) (hSR : SR 1 s r) (h4 : gi u 4 = zI s.count) (a1 a2 a3 : Int32) : ∃ y, sL_5_B uX uS (yY bT s) uV uP (wW u r) a1 a2 a3 = some (uX, uS, yY bT s, uV, uP, wW (si u 0 y) r) := by
  have hN := hG.1.1
  have hTR := TR_of hSR
  unfold sL_5_B f8_text_B f8_text_B_53 f8_kindOfObject_B f9_text f9_text_27 f9_text_28 f9_text_59 f9_text_60
  rw [wW_b0, wW_b0]
  cases ob_cases (bT := bT) (r := r) a1 hN h4 with
  | inr h =>
    refine ⟨1, ?_⟩
    rw [h.1, h.2]
    simp only [Option.bind_some, one_nz, if_true, if_false, Sum.elim_inl, gi_s0]
  | inl h =>
    obtain ⟨k, hk, rfl, e1, e2⟩ := h
    have hκ := (tK s k).isLt
    rw [e1, e2, p_kindOf hG.1 hk]
    simp (disch := omega) only [Option.bind_some, one_nz, Sum.elim_inr, zI_le, zI_lt, zI_inj, zI_z, zI_lz, zI_zl, zI_neg, zI_nat, zI_add, zI_one, zI_mul, zI_ne1, zI_1n, leT, leF, ltT, ltF, eqT, eqF, if_true, if_false, Option.bind_some, false_or, or_false, true_or, or_true, true_and, and_true, false_and, and_false, not_true_eq_false, not_false_eq_true, reduceIte, wW_a5]
    rw [(hTR.1 k hk).1, (hG.1.2.1 k hk).1]
    cases sp_cases (tK s k) true a2 with
    | inr h =>
      refine ⟨1, ?_⟩
      have h1 : fx_X2_spotOf (tK s k) 1 a2 = some (-1) := h.1
      have h2 : f9_fieldOf (zI (tK s k).val) a2 1 = some (-1) := h.2
      rw [h1, h2]
      simp only [Option.bind_some, if_true, if_false, one_nz, Sum.elim_inl, gi_s0]
    | inl h =>
      obtain ⟨w, i, hw, rfl, hi, ht, ha, h1', h2'⟩ := h
      have h1 : fx_X2_spotOf (tK s k) 1 (zI w) = some (zI i) := h1'
      have h2 : f9_fieldOf (zI (tK s k).val) (zI w) 1 = some (zI i) := h2'
      have h5 := nf_le (tK s k)
      have hc5 := (cnt_le (tK s k)).1
      obtain ⟨z, hz4, hz, hzT⟩ := hSR.1 (k * 2 + w) (by omega)
      have hr := hTR.2.1 (k * 2 + w) (by omega)
      rw [hz] at hr
      have htz : fx_X7_textSize (yY bT s) (zI k) (zI w) = some (zI z) := by
        unfold fx_X7_textSize fx_X7_hasText
        simp (disch := omega) only [Option.bind_some, one_nz, show (2 : Int32) = zI 2 from rfl, zI_le, zI_lt, zI_inj, zI_z, zI_lz, zI_zl, zI_neg, zI_nat, zI_add, zI_one, zI_mul, zI_ne1, zI_1n, leT, leF, ltT, ltF, eqT, eqF, if_true, if_false, Option.bind_some, false_or, or_false, true_or, or_true, true_and, and_true, false_and, and_false, not_true_eq_false, not_false_eq_true, reduceIte, yY_12, yY_13, yY_14, yY_15, yY_a0, yY_a1, yY_a2, yY_a3, yY_a4, yY_a5, yY_a7, yY_a8, yY_a9, yY_a10, yY_a11, yY_n, hz]
      rw [h1, h2]
      simp (disch := omega) only [Option.bind_some, one_nz, htz, show (2 : Int32) = zI 2 from rfl, show (80 : Int32) = zI 80 from rfl, show (40 : Int32) = zI 40 from rfl, zI_le, zI_lt, zI_inj, zI_z, zI_lz, zI_zl, zI_neg, zI_nat, zI_add, zI_one, zI_mul, zI_ne1, zI_1n, leT, leF, ltT, ltF, eqT, eqF, if_true, if_false, Option.bind_some, false_or, or_false, true_or, or_true, true_and, and_true, false_and, and_false, not_true_eq_false, not_false_eq_true, reduceIte, wW_a8, wW_a9]
      rw [Nat.mul_comm 2 k, hr.1]
      by_cases hn1 : a3 = -1
      · refine ⟨0, ?_⟩
        subst hn1
        rw [if_pos rfl, if_neg (show ¬ ((-1 : Int32) < -1) by decide), if_neg (show ¬ (zI z ≤ -1) by
          rw [Int32.not_le]
          exact Int32.lt_of_lt_of_le (show (-1 : Int32) < zI 0 by decide) (by rw [zI_le (by omega) (by omega)]; omega)), if_pos rfl]
        simp only [Option.bind_some, Sum.elim_inr, gi_s0, true_and, if_true]
      · rw [if_neg hn1]
        by_cases h0 : a3 < 0
        · refine ⟨1, ?_⟩
          have hlt : a3 < -1 := by
            rw [Int32.lt_iff_toInt_lt] at h0 ⊢
            have e0 : (0 : Int32).toInt = 0 := rfl
            have e1' : (-1 : Int32).toInt = -1 := rfl
            rw [e0] at h0
            rw [e1']
            have hne : a3.toInt ≠ -1 := fun h => hn1 (Int32.toInt_inj.mp (by rw [h]; rfl))
            omega
          rw [if_pos h0, if_pos hlt]
          simp only [Option.bind_some, Sum.elim_inl, gi_s0, if_true]
        · obtain ⟨e, hlt⟩ := zI_of h0
          generalize a3.toNatClampNeg = c at e hlt
          subst e
          rw [if_neg h0, if_neg (show ¬ (zI c < -1) by
            rw [Int32.not_lt]
            exact Int32.le_trans (show (-1 : Int32) ≤ zI 0 by decide) (by rw [zI_le (by omega) (by omega)]; omega))]
          by_cases hc : c < z
          · refine ⟨0, ?_⟩
            have htm : fx_X7_textMark (yY bT s) (zI k) (zI w) (zI c) = some (s.marks ((k * 2 + w) * 40 + c)) := by
              unfold fx_X7_textMark
              rw [htz]
              simp (disch := omega) only [Option.bind_some, show (2 : Int32) = zI 2 from rfl, show (40 : Int32) = zI 40 from rfl, zI_le, zI_lt, zI_inj, zI_z, zI_lz, zI_zl, zI_neg, zI_nat, zI_add, zI_one, zI_mul, zI_ne1, zI_1n, leT, leF, ltT, ltF, eqT, eqF, if_true, if_false, Option.bind_some, false_or, or_false, true_or, or_true, true_and, and_true, false_and, and_false, not_true_eq_false, not_false_eq_true, reduceIte, yY_12, yY_13, yY_14, yY_15, yY_a0, yY_a1, yY_a2, yY_a3, yY_a4, yY_a5, yY_a7, yY_a8, yY_a9, yY_a10, yY_a11, yY_n]
            rw [if_pos (show zI c < zI z by rw [zI_lt (by omega) (by omega)]; exact hc), if_neg (show ¬ (zI z ≤ zI c) by rw [zI_le (by omega) (by omega)]; omega), if_neg hn1, htm]
            simp (disch := omega) only [Option.bind_some, Sum.elim_inr, gi_s0, zI_le, zI_lt, zI_inj, zI_z, zI_lz, zI_zl, zI_neg, zI_nat, zI_add, zI_one, zI_mul, zI_ne1, zI_1n, leT, leF, ltT, ltF, eqT, eqF, if_true, if_false, Option.bind_some, false_or, or_false, true_or, or_true, true_and, and_true, false_and, and_false, not_true_eq_false, not_false_eq_true, reduceIte]
            rw [show 80 * k + 40 * w + c = (k * 2 + w) * 40 + c by omega, hr.2 c (by omega) (by rw [zI_lt (by omega) (by omega)]; exact hc), if_pos rfl]
          · refine ⟨1, ?_⟩
            rw [if_neg (show ¬ (zI c < zI z) by rw [zI_lt (by omega) (by omega)]; exact hc), if_pos (show zI z ≤ zI c by rw [zI_le (by omega) (by omega)]; omega)]
            simp only [Option.bind_some, Sum.elim_inl, gi_s0, if_true]
end QST
