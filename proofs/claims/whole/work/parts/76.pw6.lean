/-! a text set by a call -/
/-- the byte at place j of a long, as the reference has it -/
def byR (v : Int64) (j : Nat) : Int32 := ((v >>> ((zI (8 * j)).toInt64 &&& 63)) &&& 255).toInt32
/-- the shift with J bytes still to come -/
def shI : Nat → Int32
  | 0 => -8
  | J + 1 => zI (8 * J)
set_option maxRecDepth 100000 in
set_option maxHeartbeats 4000000 in
theorem shI_s (J : Nat) (hJ : J ≤ 7) : shI (J + 1) + -8 = shI J := by
  cases J with
  | zero => rfl
  | succ J =>
    show zI (8 * (J + 1)) + -8 = zI (8 * J)
    rw [show (-8 : Int32) = -(zI 8) from rfl, ← Int32.sub_eq_add_neg, zI_sub (by omega) (by omega), show 8 * (J + 1) - 8 = 8 * J by omega]
/-- how many characters they are, if all may be -/
def fitF (v : Int64) : Nat → Nat → Option Nat
  | 0, m => some m
  | J + 1, m => if byR v J = 0 then fitF v J m else if isT (byR v J) = true then fitF v J (m + 1) else none
theorem fitF_s (v : Int64) (J m : Nat) : fitF v (J + 1) m = if byR v J = 0 then fitF v J m else if isT (byR v J) = true then fitF v J (m + 1) else none := id rfl
set_option maxRecDepth 100000 in
set_option maxHeartbeats 4000000 in
theorem fitF_b (v : Int64) : ∀ J m m', fitF v J m = some m' → m ≤ m' ∧ m' ≤ m + J
  | 0, m, m', h => by
    have e : m = m' := Option.some.inj h
    omega
  | J + 1, m, m', h => by
    rw [fitF_s] at h
    by_cases h0 : byR v J = 0
    · rw [if_pos h0] at h
      have := fitF_b v J m m' h
      omega
    · rw [if_neg h0] at h
      by_cases hT : isT (byR v J) = true
      · rw [if_pos hT] at h
        have := fitF_b v J (m + 1) m' h
        omega
      · rw [if_neg hT] at h; cases h
section STX
variable {u bT : Md} {k w : Nat}
set_option maxRecDepth 100000 in
set_option maxHeartbeats 4000000 in
theorem p_fits {s : Tst} {v : Int64} {z : Nat} (hts : fx_X7_textSize (yY bT s) (zI k) (zI w) = some (zI z)) (hz : z ≤ 40) : ∀ J m F, J ≤ 8 → m + J ≤ 8 → J < F → fx_X7_fitsText_7 (yY bT s) F (zI k) (zI w) v (zI m) (shI J) = some (match fitF v J m with | none => 0 | some m' => bI (decide (z + m' ≤ 40))) := by
  intro J
  induction J with
  | zero =>
    intro m F hJ hm hF
    obtain ⟨F, rfl⟩ : ∃ F', F = F' + 1 := ⟨F - 1, by omega⟩
    rw [fx_X7_fitsText_7, if_pos (show shI 0 < 0 by decide), hts]
    simp only [Option.bind_some]
    rw [zI_add]
    show _ = some (bI (decide (z + m ≤ 40)))
    by_cases h : z + m ≤ 40
    · rw [if_neg (by rw [show (40 : Int32) = zI 40 from rfl, zI_lt (by omega) (by omega)]; omega), decide_eq_true h]; rfl
    · rw [if_pos (by rw [show (40 : Int32) = zI 40 from rfl, zI_lt (by omega) (by omega)]; omega), decide_eq_false h]; rfl
  | succ J ih =>
    intro m F hJ hm hF
    obtain ⟨F, rfl⟩ : ∃ F', F = F' + 1 := ⟨F - 1, by omega⟩
    have hb : ((v.toUInt64 >>> ((shI (J + 1)).toInt64.toUInt64 &&& Int64.toUInt64 63)).toInt64).toInt32 &&& 255 = byR v J := by_eq v J (by omega)
    have hneg : ¬ (shI (J + 1) < 0) := by
      show ¬ (zI (8 * J) < 0)
      rw [zI_neg (by omega)]; exact not_false
    rw [fx_X7_fitsText_7, if_neg hneg, hb, fitF_s]
    unfold fx_X7_fitsText_38 fx_X7_fitsText_50
    rw [shI_s J (by omega), show zI m + 0 = zI m from Int32.add_zero _, zI_one, d_text]
    simp only [Option.bind_some, bI_z]
    by_cases h0 : byR v J = 0
    · rw [if_pos h0, if_pos h0, if_pos h0]
      exact ih m F (by omega) (by omega) (by omega)
    · rw [if_neg h0, if_neg h0, if_neg h0]
      by_cases hT : isT (byR v J) = true
      · rw [if_neg (by rw [hT]; decide), if_pos hT]
        exact ih (m + 1) F (by omega) (by omega) (by omega)
      · rw [if_pos (by simpa using hT), if_neg hT]
set_option maxRecDepth 100000 in
set_option maxHeartbeats 4000000 in
theorem q_fits {r : Rst} {v : Int64} {z : Nat} (hts : r.tsz (k * 2 + w) = zI z) (hz : z ≤ 40) (hk : k < 200) (hw : w < 2) : ∀ J m F, J ≤ 8 → m + J ≤ 8 → J < F → f9_setText_7 F (wW u r) (zI k) (zI w) v (zI m) (shI J) = (match fitF v J m with | none => some (0, wW u r) | some m' => if z + m' ≤ 40 then f9_setText_93 FU (wW u r) (zI k) (zI w) v (zI z) 56 else some (0, wW u r)) := by
  have hFU : 0 < FU := by unfold FU; omega
  generalize hFF : FU = FF at hFU ⊢
  intro J
  induction J with
  | zero =>
    intro m F hJ hm hF
    obtain ⟨F, rfl⟩ : ∃ F', F = F' + 1 := ⟨F - 1, by omega⟩
    rw [f9_setText_7, if_pos (show shI 0 < 0 by decide), hFF]
    simp (disch := omega) only [show (2 : Int32) = zI 2 from rfl, zI_le, zI_lt, zI_inj, zI_z, zI_lz, zI_zl, zI_neg, zI_nat, zI_add, zI_one, zI_mul, zI_ne1, zI_1n, leT, leF, ltT, ltF, eqT, eqF, if_true, if_false, Option.bind_some, false_or, or_false, true_or, or_true, true_and, and_true, false_and, and_false, not_true_eq_false, not_false_eq_true, reduceIte, wW_a8]
    rw [Nat.mul_comm 2 k, hts, zI_add]
    show _ = if z + m ≤ 40 then _ else _
    by_cases h : z + m ≤ 40
    · rw [if_pos (by rw [show (40 : Int32) = zI 40 from rfl, zI_le (by omega) (by omega)]; exact h), if_pos h]
    · rw [if_neg (by rw [show (40 : Int32) = zI 40 from rfl, zI_le (by omega) (by omega)]; exact h), if_neg h]
  | succ J ih =>
    intro m F hJ hm hF
    obtain ⟨F, rfl⟩ : ∃ F', F = F' + 1 := ⟨F - 1, by omega⟩
    have hb : ((v >>> ((shI (J + 1)).toInt64 &&& 63)) &&& 255).toInt32 = byR v J := rfl
    have hneg : ¬ (shI (J + 1) < 0) := by
      show ¬ (zI (8 * J) < 0)
      rw [zI_neg (by omega)]; exact not_false
    rw [f9_setText_7, if_neg hneg, hb, fitF_s]
    unfold f9_setText_44 f9_setText_56
    rw [shI_s J (by omega), show zI m + 0 = zI m from Int32.add_zero _, zI_one]
    by_cases h0 : byR v J = 0
    · rw [if_pos h0, if_pos h0, if_pos h0]
      exact ih m F (by omega) (by omega) (by omega)
    · rw [if_neg h0, if_neg h0, if_neg h0]
      by_cases hT : isT (byR v J) = true
      · have hT2 := hT
        unfold isT at hT2
        simp only [Bool.and_eq_true, Bool.not_eq_true', decide_eq_false_iff_not] at hT2
        rw [if_neg hT2.1, if_pos (by rw [← Int32.not_lt]; exact hT2.2), if_pos hT]
        exact ih (m + 1) F (by omega) (by omega) (by omega)
      · rw [if_neg hT]
        by_cases h32 : byR v J < 32
        · rw [if_pos h32]
        · rw [if_neg h32, if_neg (by
            intro h2
            apply hT
            unfold isT
            simp only [Bool.and_eq_true, Bool.not_eq_true', decide_eq_false_iff_not, Int32.not_lt]
            exact ⟨by rw [← Int32.not_lt]; exact h32, h2⟩)]
set_option maxRecDepth 100000 in
set_option maxHeartbeats 4000000 in
/-- the characters are put behind those that are there -/
theorem x_text {v : Int64} (hk : k < 200) (hw : w < 2) : ∀ J m m' z F G (s : Tst) (r : Rst), J ≤ 8 → J < F → J < G → fitF v J m = some m' → z + (m' - m) ≤ 40 → k < s.count → s.count ≤ 200 → s.tsz (k * 2 + w) = zI z → ∀ z9, z9 = z ∨ m' = m → z9 ≤ 40 → ∃ mk ch, fx_X7_extendText_16 F (yY bT s) (zI k) (zI w) v (shI J) = some (yY bT ((s.s_marks (mk)).s_tsz (upd s.tsz (k * 2 + w) (zI (z + (m' - m)))))) ∧ f9_setText_93 G (wW u r) (zI k) (zI w) v (zI z9) (shI J) = (if lg_cmp v 0 = 0 then f9_setText_166 (wW u (r.s_chars (ch))) 0 (zI (k * 2 + w)) else f9_setText_166 (wW u (r.s_chars (ch))) (zI (z9 + (m' - m))) (zI (k * 2 + w))) ∧ (∀ x, (x < (k * 2 + w) * 40 + z ∨ (k * 2 + w) * 40 + 40 ≤ x) → mk x = s.marks x ∧ ch x = r.chars x) ∧ (∀ i, z ≤ i → i < z + (m' - m) → isT (mk ((k * 2 + w) * 40 + i)) = true ∧ ch ((k * 2 + w) * 40 + i) = mk ((k * 2 + w) * 40 + i)) := by
  intro J
  induction J with
  | zero =>
    intro m m' z F G s r hJ hF hG hfit hz hks hs2 hts z9 hz9 hz94
    obtain ⟨F, rfl⟩ : ∃ F', F = F' + 1 := ⟨F - 1, by omega⟩
    obtain ⟨G, rfl⟩ : ∃ G', G = G' + 1 := ⟨G - 1, by omega⟩
    have e : m = m' := Option.some.inj hfit
    subst e
    refine ⟨s.marks, r.chars, ?_, ?_, fun _ _ => ⟨rfl, rfl⟩, fun i h1 h2 => by omega⟩
    · rw [fx_X7_extendText_16, if_pos (show shI 0 < 0 by decide), Nat.sub_self, Nat.add_zero, upd_self hts]
      rfl
    · rw [f9_setText_93, if_pos (show shI 0 < 0 by decide), show (2 : Int32) = zI 2 from rfl, zI_mul, zI_add, Nat.mul_comm 2 k, Nat.sub_self, Nat.add_zero]
      rfl
  | succ J ih =>
    intro m m' z F G s r hJ hF hG hfit hz hks hs2 hts z9 hz9 hz94
    obtain ⟨F, rfl⟩ : ∃ F', F = F' + 1 := ⟨F - 1, by omega⟩
    obtain ⟨G, rfl⟩ : ∃ G', G = G' + 1 := ⟨G - 1, by omega⟩
    have hb : ((v.toUInt64 >>> ((shI (J + 1)).toInt64.toUInt64 &&& Int64.toUInt64 63)).toInt64).toInt32 &&& 255 = byR v J := by_eq v J (by omega)
    have hb9 : ((v >>> ((shI (J + 1)).toInt64 &&& 63)) &&& 255).toInt32 = byR v J := rfl
    have hneg : ¬ (shI (J + 1) < 0) := by
      show ¬ (zI (8 * J) < 0)
      rw [zI_neg (by omega)]; exact not_false
    rw [fitF_s] at hfit
    rw [fx_X7_extendText_16, f9_setText_93, if_neg hneg, if_neg hneg, hb, hb9]
    unfold fx_X7_extendText_45 f9_setText_139
    rw [shI_s J (by omega)]
    by_cases h0 : byR v J = 0
    · rw [if_pos h0] at hfit
      rw [if_pos h0, if_pos h0]
      exact ih m m' z F G s r (by omega) (by omega) (by omega) hfit hz hks hs2 hts z9 hz9 hz94
    · rw [if_neg h0] at hfit
      rw [if_neg h0, if_neg h0]
      by_cases hT : isT (byR v J) = true
      · rw [if_pos hT] at hfit
        have hfb := fitF_b v J (m + 1) m' hfit
        have hzz : z9 = z := by
          cases hz9 with
          | inl h => exact h
          | inr h => omega
        subst hzz
        rw [p_append hks hs2 hw hts (by omega) hT]
        simp only [Option.bind_some]
        simp (disch := omega) only [show (80 : Int32) = zI 80 from rfl, show (40 : Int32) = zI 40 from rfl, zI_le, zI_lt, zI_inj, zI_z, zI_lz, zI_zl, zI_neg, zI_nat, zI_add, zI_one, zI_mul, zI_ne1, zI_1n, leT, leF, ltT, ltF, eqT, eqF, if_true, if_false, Option.bind_some, false_or, or_false, true_or, or_true, true_and, and_true, false_and, and_false, not_true_eq_false, not_false_eq_true, reduceIte, wW_a9, wW_sa9]
        rw [show 80 * k + 40 * w + z9 = (k * 2 + w) * 40 + z9 by omega]
        obtain ⟨mk, ch, b1, b2, b3, b4⟩ := ih (m + 1) m' (z9 + 1) F G ((s.s_marks (upd s.marks ((k * 2 + w) * 40 + z9) (byR v J))).s_tsz (upd s.tsz (k * 2 + w) (zI (z9 + 1)))) (r.s_chars (upd r.chars ((k * 2 + w) * 40 + z9) (byR v J))) (by omega) (by omega) (by omega) hfit (by omega) (by simp only [T_kc_kc, T_kc_count, T_kc_deepest, T_kc_version, T_kc_kinds, T_kc_parents, T_kc_depths, T_kc_firsts, T_kc_lasts, T_kc_nexts, T_kc_tsz, T_kc_marks, T_kc_kfrom, T_kc_ksz, T_kc_kept, T_kc_nums, T_count_kc, T_count_count, T_count_deepest, T_count_version, T_count_kinds, T_count_parents, T_count_depths, T_count_firsts, T_count_lasts, T_count_nexts, T_count_tsz, T_count_marks, T_count_kfrom, T_count_ksz, T_count_kept, T_count_nums, T_deepest_kc, T_deepest_count, T_deepest_deepest, T_deepest_version, T_deepest_kinds, T_deepest_parents, T_deepest_depths, T_deepest_firsts, T_deepest_lasts, T_deepest_nexts, T_deepest_tsz, T_deepest_marks, T_deepest_kfrom, T_deepest_ksz, T_deepest_kept, T_deepest_nums, T_version_kc, T_version_count, T_version_deepest, T_version_version, T_version_kinds, T_version_parents, T_version_depths, T_version_firsts, T_version_lasts, T_version_nexts, T_version_tsz, T_version_marks, T_version_kfrom, T_version_ksz, T_version_kept, T_version_nums, T_kinds_kc, T_kinds_count, T_kinds_deepest, T_kinds_version, T_kinds_kinds, T_kinds_parents, T_kinds_depths, T_kinds_firsts, T_kinds_lasts, T_kinds_nexts, T_kinds_tsz, T_kinds_marks, T_kinds_kfrom, T_kinds_ksz, T_kinds_kept, T_kinds_nums, T_parents_kc, T_parents_count, T_parents_deepest, T_parents_version, T_parents_kinds, T_parents_parents, T_parents_depths, T_parents_firsts, T_parents_lasts, T_parents_nexts, T_parents_tsz, T_parents_marks, T_parents_kfrom, T_parents_ksz, T_parents_kept, T_parents_nums, T_depths_kc, T_depths_count, T_depths_deepest, T_depths_version, T_depths_kinds, T_depths_parents, T_depths_depths, T_depths_firsts, T_depths_lasts, T_depths_nexts, T_depths_tsz, T_depths_marks, T_depths_kfrom, T_depths_ksz, T_depths_kept, T_depths_nums, T_firsts_kc, T_firsts_count, T_firsts_deepest, T_firsts_version, T_firsts_kinds, T_firsts_parents, T_firsts_depths, T_firsts_firsts, T_firsts_lasts, T_firsts_nexts, T_firsts_tsz, T_firsts_marks, T_firsts_kfrom, T_firsts_ksz, T_firsts_kept, T_firsts_nums, T_lasts_kc, T_lasts_count, T_lasts_deepest, T_lasts_version, T_lasts_kinds, T_lasts_parents, T_lasts_depths, T_lasts_firsts, T_lasts_lasts, T_lasts_nexts, T_lasts_tsz, T_lasts_marks, T_lasts_kfrom, T_lasts_ksz, T_lasts_kept, T_lasts_nums, T_nexts_kc, T_nexts_count, T_nexts_deepest, T_nexts_version, T_nexts_kinds, T_nexts_parents, T_nexts_depths, T_nexts_firsts, T_nexts_lasts, T_nexts_nexts, T_nexts_tsz, T_nexts_marks, T_nexts_kfrom, T_nexts_ksz, T_nexts_kept, T_nexts_nums, T_tsz_kc, T_tsz_count, T_tsz_deepest, T_tsz_version, T_tsz_kinds, T_tsz_parents, T_tsz_depths, T_tsz_firsts, T_tsz_lasts, T_tsz_nexts, T_tsz_tsz, T_tsz_marks, T_tsz_kfrom, T_tsz_ksz, T_tsz_kept, T_tsz_nums, T_marks_kc, T_marks_count, T_marks_deepest, T_marks_version, T_marks_kinds, T_marks_parents, T_marks_depths, T_marks_firsts, T_marks_lasts, T_marks_nexts, T_marks_tsz, T_marks_marks, T_marks_kfrom, T_marks_ksz, T_marks_kept, T_marks_nums, T_kfrom_kc, T_kfrom_count, T_kfrom_deepest, T_kfrom_version, T_kfrom_kinds, T_kfrom_parents, T_kfrom_depths, T_kfrom_firsts, T_kfrom_lasts, T_kfrom_nexts, T_kfrom_tsz, T_kfrom_marks, T_kfrom_kfrom, T_kfrom_ksz, T_kfrom_kept, T_kfrom_nums, T_ksz_kc, T_ksz_count, T_ksz_deepest, T_ksz_version, T_ksz_kinds, T_ksz_parents, T_ksz_depths, T_ksz_firsts, T_ksz_lasts, T_ksz_nexts, T_ksz_tsz, T_ksz_marks, T_ksz_kfrom, T_ksz_ksz, T_ksz_kept, T_ksz_nums, T_kept_kc, T_kept_count, T_kept_deepest, T_kept_version, T_kept_kinds, T_kept_parents, T_kept_depths, T_kept_firsts, T_kept_lasts, T_kept_nexts, T_kept_tsz, T_kept_marks, T_kept_kfrom, T_kept_ksz, T_kept_kept, T_kept_nums, T_nums_kc, T_nums_count, T_nums_deepest, T_nums_version, T_nums_kinds, T_nums_parents, T_nums_depths, T_nums_firsts, T_nums_lasts, T_nums_nexts, T_nums_tsz, T_nums_marks, T_nums_kfrom, T_nums_ksz, T_nums_kept, T_nums_nums]; exact hks) (by simp only [T_kc_kc, T_kc_count, T_kc_deepest, T_kc_version, T_kc_kinds, T_kc_parents, T_kc_depths, T_kc_firsts, T_kc_lasts, T_kc_nexts, T_kc_tsz, T_kc_marks, T_kc_kfrom, T_kc_ksz, T_kc_kept, T_kc_nums, T_count_kc, T_count_count, T_count_deepest, T_count_version, T_count_kinds, T_count_parents, T_count_depths, T_count_firsts, T_count_lasts, T_count_nexts, T_count_tsz, T_count_marks, T_count_kfrom, T_count_ksz, T_count_kept, T_count_nums, T_deepest_kc, T_deepest_count, T_deepest_deepest, T_deepest_version, T_deepest_kinds, T_deepest_parents, T_deepest_depths, T_deepest_firsts, T_deepest_lasts, T_deepest_nexts, T_deepest_tsz, T_deepest_marks, T_deepest_kfrom, T_deepest_ksz, T_deepest_kept, T_deepest_nums, T_version_kc, T_version_count, T_version_deepest, T_version_version, T_version_kinds, T_version_parents, T_version_depths, T_version_firsts, T_version_lasts, T_version_nexts, T_version_tsz, T_version_marks, T_version_kfrom, T_version_ksz, T_version_kept, T_version_nums, T_kinds_kc, T_kinds_count, T_kinds_deepest, T_kinds_version, T_kinds_kinds, T_kinds_parents, T_kinds_depths, T_kinds_firsts, T_kinds_lasts, T_kinds_nexts, T_kinds_tsz, T_kinds_marks, T_kinds_kfrom, T_kinds_ksz, T_kinds_kept, T_kinds_nums, T_parents_kc, T_parents_count, T_parents_deepest, T_parents_version, T_parents_kinds, T_parents_parents, T_parents_depths, T_parents_firsts, T_parents_lasts, T_parents_nexts, T_parents_tsz, T_parents_marks, T_parents_kfrom, T_parents_ksz, T_parents_kept, T_parents_nums, T_depths_kc, T_depths_count, T_depths_deepest, T_depths_version, T_depths_kinds, T_depths_parents, T_depths_depths, T_depths_firsts, T_depths_lasts, T_depths_nexts, T_depths_tsz, T_depths_marks, T_depths_kfrom, T_depths_ksz, T_depths_kept, T_depths_nums, T_firsts_kc, T_firsts_count, T_firsts_deepest, T_firsts_version, T_firsts_kinds, T_firsts_parents, T_firsts_depths, T_firsts_firsts, T_firsts_lasts, T_firsts_nexts, T_firsts_tsz, T_firsts_marks, T_firsts_kfrom, T_firsts_ksz, T_firsts_kept, T_firsts_nums, T_lasts_kc, T_lasts_count, T_lasts_deepest, T_lasts_version, T_lasts_kinds, T_lasts_parents, T_lasts_depths, T_lasts_firsts, T_lasts_lasts, T_lasts_nexts, T_lasts_tsz, T_lasts_marks, T_lasts_kfrom, T_lasts_ksz, T_lasts_kept, T_lasts_nums, T_nexts_kc, T_nexts_count, T_nexts_deepest, T_nexts_version, T_nexts_kinds, T_nexts_parents, T_nexts_depths, T_nexts_firsts, T_nexts_lasts, T_nexts_nexts, T_nexts_tsz, T_nexts_marks, T_nexts_kfrom, T_nexts_ksz, T_nexts_kept, T_nexts_nums, T_tsz_kc, T_tsz_count, T_tsz_deepest, T_tsz_version, T_tsz_kinds, T_tsz_parents, T_tsz_depths, T_tsz_firsts, T_tsz_lasts, T_tsz_nexts, T_tsz_tsz, T_tsz_marks, T_tsz_kfrom, T_tsz_ksz, T_tsz_kept, T_tsz_nums, T_marks_kc, T_marks_count, T_marks_deepest, T_marks_version, T_marks_kinds, T_marks_parents, T_marks_depths, T_marks_firsts, T_marks_lasts, T_marks_nexts, T_marks_tsz, T_marks_marks, T_marks_kfrom, T_marks_ksz, T_marks_kept, T_marks_nums, T_kfrom_kc, T_kfrom_count, T_kfrom_deepest, T_kfrom_version, T_kfrom_kinds, T_kfrom_parents, T_kfrom_depths, T_kfrom_firsts, T_kfrom_lasts, T_kfrom_nexts, T_kfrom_tsz, T_kfrom_marks, T_kfrom_kfrom, T_kfrom_ksz, T_kfrom_kept, T_kfrom_nums, T_ksz_kc, T_ksz_count, T_ksz_deepest, T_ksz_version, T_ksz_kinds, T_ksz_parents, T_ksz_depths, T_ksz_firsts, T_ksz_lasts, T_ksz_nexts, T_ksz_tsz, T_ksz_marks, T_ksz_kfrom, T_ksz_ksz, T_ksz_kept, T_ksz_nums, T_kept_kc, T_kept_count, T_kept_deepest, T_kept_version, T_kept_kinds, T_kept_parents, T_kept_depths, T_kept_firsts, T_kept_lasts, T_kept_nexts, T_kept_tsz, T_kept_marks, T_kept_kfrom, T_kept_ksz, T_kept_kept, T_kept_nums, T_nums_kc, T_nums_count, T_nums_deepest, T_nums_version, T_nums_kinds, T_nums_parents, T_nums_depths, T_nums_firsts, T_nums_lasts, T_nums_nexts, T_nums_tsz, T_nums_marks, T_nums_kfrom, T_nums_ksz, T_nums_kept, T_nums_nums]; exact hs2) (by simp only [T_kc_kc, T_kc_count, T_kc_deepest, T_kc_version, T_kc_kinds, T_kc_parents, T_kc_depths, T_kc_firsts, T_kc_lasts, T_kc_nexts, T_kc_tsz, T_kc_marks, T_kc_kfrom, T_kc_ksz, T_kc_kept, T_kc_nums, T_count_kc, T_count_count, T_count_deepest, T_count_version, T_count_kinds, T_count_parents, T_count_depths, T_count_firsts, T_count_lasts, T_count_nexts, T_count_tsz, T_count_marks, T_count_kfrom, T_count_ksz, T_count_kept, T_count_nums, T_deepest_kc, T_deepest_count, T_deepest_deepest, T_deepest_version, T_deepest_kinds, T_deepest_parents, T_deepest_depths, T_deepest_firsts, T_deepest_lasts, T_deepest_nexts, T_deepest_tsz, T_deepest_marks, T_deepest_kfrom, T_deepest_ksz, T_deepest_kept, T_deepest_nums, T_version_kc, T_version_count, T_version_deepest, T_version_version, T_version_kinds, T_version_parents, T_version_depths, T_version_firsts, T_version_lasts, T_version_nexts, T_version_tsz, T_version_marks, T_version_kfrom, T_version_ksz, T_version_kept, T_version_nums, T_kinds_kc, T_kinds_count, T_kinds_deepest, T_kinds_version, T_kinds_kinds, T_kinds_parents, T_kinds_depths, T_kinds_firsts, T_kinds_lasts, T_kinds_nexts, T_kinds_tsz, T_kinds_marks, T_kinds_kfrom, T_kinds_ksz, T_kinds_kept, T_kinds_nums, T_parents_kc, T_parents_count, T_parents_deepest, T_parents_version, T_parents_kinds, T_parents_parents, T_parents_depths, T_parents_firsts, T_parents_lasts, T_parents_nexts, T_parents_tsz, T_parents_marks, T_parents_kfrom, T_parents_ksz, T_parents_kept, T_parents_nums, T_depths_kc, T_depths_count, T_depths_deepest, T_depths_version, T_depths_kinds, T_depths_parents, T_depths_depths, T_depths_firsts, T_depths_lasts, T_depths_nexts, T_depths_tsz, T_depths_marks, T_depths_kfrom, T_depths_ksz, T_depths_kept, T_depths_nums, T_firsts_kc, T_firsts_count, T_firsts_deepest, T_firsts_version, T_firsts_kinds, T_firsts_parents, T_firsts_depths, T_firsts_firsts, T_firsts_lasts, T_firsts_nexts, T_firsts_tsz, T_firsts_marks, T_firsts_kfrom, T_firsts_ksz, T_firsts_kept, T_firsts_nums, T_lasts_kc, T_lasts_count, T_lasts_deepest, T_lasts_version, T_lasts_kinds, T_lasts_parents, T_lasts_depths, T_lasts_firsts, T_lasts_lasts, T_lasts_nexts, T_lasts_tsz, T_lasts_marks, T_lasts_kfrom, T_lasts_ksz, T_lasts_kept, T_lasts_nums, T_nexts_kc, T_nexts_count, T_nexts_deepest, T_nexts_version, T_nexts_kinds, T_nexts_parents, T_nexts_depths, T_nexts_firsts, T_nexts_lasts, T_nexts_nexts, T_nexts_tsz, T_nexts_marks, T_nexts_kfrom, T_nexts_ksz, T_nexts_kept, T_nexts_nums, T_tsz_kc, T_tsz_count, T_tsz_deepest, T_tsz_version, T_tsz_kinds, T_tsz_parents, T_tsz_depths, T_tsz_firsts, T_tsz_lasts, T_tsz_nexts, T_tsz_tsz, T_tsz_marks, T_tsz_kfrom, T_tsz_ksz, T_tsz_kept, T_tsz_nums, T_marks_kc, T_marks_count, T_marks_deepest, T_marks_version, T_marks_kinds, T_marks_parents, T_marks_depths, T_marks_firsts, T_marks_lasts, T_marks_nexts, T_marks_tsz, T_marks_marks, T_marks_kfrom, T_marks_ksz, T_marks_kept, T_marks_nums, T_kfrom_kc, T_kfrom_count, T_kfrom_deepest, T_kfrom_version, T_kfrom_kinds, T_kfrom_parents, T_kfrom_depths, T_kfrom_firsts, T_kfrom_lasts, T_kfrom_nexts, T_kfrom_tsz, T_kfrom_marks, T_kfrom_kfrom, T_kfrom_ksz, T_kfrom_kept, T_kfrom_nums, T_ksz_kc, T_ksz_count, T_ksz_deepest, T_ksz_version, T_ksz_kinds, T_ksz_parents, T_ksz_depths, T_ksz_firsts, T_ksz_lasts, T_ksz_nexts, T_ksz_tsz, T_ksz_marks, T_ksz_kfrom, T_ksz_ksz, T_ksz_kept, T_ksz_nums, T_kept_kc, T_kept_count, T_kept_deepest, T_kept_version, T_kept_kinds, T_kept_parents, T_kept_depths, T_kept_firsts, T_kept_lasts, T_kept_nexts, T_kept_tsz, T_kept_marks, T_kept_kfrom, T_kept_ksz, T_kept_kept, T_kept_nums, T_nums_kc, T_nums_count, T_nums_deepest, T_nums_version, T_nums_kinds, T_nums_parents, T_nums_depths, T_nums_firsts, T_nums_lasts, T_nums_nexts, T_nums_tsz, T_nums_marks, T_nums_kfrom, T_nums_ksz, T_nums_kept, T_nums_nums]; exact upd_same _ _ _) (z9 + 1) (Or.inl rfl) (by omega)
        have ez : z9 + 1 + (m' - (m + 1)) = z9 + (m' - m) := by omega
        rw [ez] at b1 b2 b4
        simp only [T_kc_kc, T_kc_count, T_kc_deepest, T_kc_version, T_kc_kinds, T_kc_parents, T_kc_depths, T_kc_firsts, T_kc_lasts, T_kc_nexts, T_kc_tsz, T_kc_marks, T_kc_kfrom, T_kc_ksz, T_kc_kept, T_kc_nums, T_count_kc, T_count_count, T_count_deepest, T_count_version, T_count_kinds, T_count_parents, T_count_depths, T_count_firsts, T_count_lasts, T_count_nexts, T_count_tsz, T_count_marks, T_count_kfrom, T_count_ksz, T_count_kept, T_count_nums, T_deepest_kc, T_deepest_count, T_deepest_deepest, T_deepest_version, T_deepest_kinds, T_deepest_parents, T_deepest_depths, T_deepest_firsts, T_deepest_lasts, T_deepest_nexts, T_deepest_tsz, T_deepest_marks, T_deepest_kfrom, T_deepest_ksz, T_deepest_kept, T_deepest_nums, T_version_kc, T_version_count, T_version_deepest, T_version_version, T_version_kinds, T_version_parents, T_version_depths, T_version_firsts, T_version_lasts, T_version_nexts, T_version_tsz, T_version_marks, T_version_kfrom, T_version_ksz, T_version_kept, T_version_nums, T_kinds_kc, T_kinds_count, T_kinds_deepest, T_kinds_version, T_kinds_kinds, T_kinds_parents, T_kinds_depths, T_kinds_firsts, T_kinds_lasts, T_kinds_nexts, T_kinds_tsz, T_kinds_marks, T_kinds_kfrom, T_kinds_ksz, T_kinds_kept, T_kinds_nums, T_parents_kc, T_parents_count, T_parents_deepest, T_parents_version, T_parents_kinds, T_parents_parents, T_parents_depths, T_parents_firsts, T_parents_lasts, T_parents_nexts, T_parents_tsz, T_parents_marks, T_parents_kfrom, T_parents_ksz, T_parents_kept, T_parents_nums, T_depths_kc, T_depths_count, T_depths_deepest, T_depths_version, T_depths_kinds, T_depths_parents, T_depths_depths, T_depths_firsts, T_depths_lasts, T_depths_nexts, T_depths_tsz, T_depths_marks, T_depths_kfrom, T_depths_ksz, T_depths_kept, T_depths_nums, T_firsts_kc, T_firsts_count, T_firsts_deepest, T_firsts_version, T_firsts_kinds, T_firsts_parents, T_firsts_depths, T_firsts_firsts, T_firsts_lasts, T_firsts_nexts, T_firsts_tsz, T_firsts_marks, T_firsts_kfrom, T_firsts_ksz, T_firsts_kept, T_firsts_nums, T_lasts_kc, T_lasts_count, T_lasts_deepest, T_lasts_version, T_lasts_kinds, T_lasts_parents, T_lasts_depths, T_lasts_firsts, T_lasts_lasts, T_lasts_nexts, T_lasts_tsz, T_lasts_marks, T_lasts_kfrom, T_lasts_ksz, T_lasts_kept, T_lasts_nums, T_nexts_kc, T_nexts_count, T_nexts_deepest, T_nexts_version, T_nexts_kinds, T_nexts_parents, T_nexts_depths, T_nexts_firsts, T_nexts_lasts, T_nexts_nexts, T_nexts_tsz, T_nexts_marks, T_nexts_kfrom, T_nexts_ksz, T_nexts_kept, T_nexts_nums, T_tsz_kc, T_tsz_count, T_tsz_deepest, T_tsz_version, T_tsz_kinds, T_tsz_parents, T_tsz_depths, T_tsz_firsts, T_tsz_lasts, T_tsz_nexts, T_tsz_tsz, T_tsz_marks, T_tsz_kfrom, T_tsz_ksz, T_tsz_kept, T_tsz_nums, T_marks_kc, T_marks_count, T_marks_deepest, T_marks_version, T_marks_kinds, T_marks_parents, T_marks_depths, T_marks_firsts, T_marks_lasts, T_marks_nexts, T_marks_tsz, T_marks_marks, T_marks_kfrom, T_marks_ksz, T_marks_kept, T_marks_nums, T_kfrom_kc, T_kfrom_count, T_kfrom_deepest, T_kfrom_version, T_kfrom_kinds, T_kfrom_parents, T_kfrom_depths, T_kfrom_firsts, T_kfrom_lasts, T_kfrom_nexts, T_kfrom_tsz, T_kfrom_marks, T_kfrom_kfrom, T_kfrom_ksz, T_kfrom_kept, T_kfrom_nums, T_ksz_kc, T_ksz_count, T_ksz_deepest, T_ksz_version, T_ksz_kinds, T_ksz_parents, T_ksz_depths, T_ksz_firsts, T_ksz_lasts, T_ksz_nexts, T_ksz_tsz, T_ksz_marks, T_ksz_kfrom, T_ksz_ksz, T_ksz_kept, T_ksz_nums, T_kept_kc, T_kept_count, T_kept_deepest, T_kept_version, T_kept_kinds, T_kept_parents, T_kept_depths, T_kept_firsts, T_kept_lasts, T_kept_nexts, T_kept_tsz, T_kept_marks, T_kept_kfrom, T_kept_ksz, T_kept_kept, T_kept_nums, T_nums_kc, T_nums_count, T_nums_deepest, T_nums_version, T_nums_kinds, T_nums_parents, T_nums_depths, T_nums_firsts, T_nums_lasts, T_nums_nexts, T_nums_tsz, T_nums_marks, T_nums_kfrom, T_nums_ksz, T_nums_kept, T_nums_nums] at b1 b3
        rw [upd_upd] at b1
        refine ⟨mk, ch, ?_, ?_, fun x hx => ?_, fun i hi1 hi2 => ?_⟩
        · rw [b1]; rfl
        · rw [b2]; rfl
        · have h3 := b3 x (by omega)
          simp only [R_version_version, R_version_found, R_version_fault, R_version_num, R_version_words, R_version_keeps, R_version_dnow, R_version_last, R_version_lnum, R_version_kinds, R_version_parents, R_version_tsz, R_version_chars, R_version_kfrom, R_version_ksz, R_version_kept, R_version_opn, R_version_okind, R_version_nums, R_found_version, R_found_found, R_found_fault, R_found_num, R_found_words, R_found_keeps, R_found_dnow, R_found_last, R_found_lnum, R_found_kinds, R_found_parents, R_found_tsz, R_found_chars, R_found_kfrom, R_found_ksz, R_found_kept, R_found_opn, R_found_okind, R_found_nums, R_fault_version, R_fault_found, R_fault_fault, R_fault_num, R_fault_words, R_fault_keeps, R_fault_dnow, R_fault_last, R_fault_lnum, R_fault_kinds, R_fault_parents, R_fault_tsz, R_fault_chars, R_fault_kfrom, R_fault_ksz, R_fault_kept, R_fault_opn, R_fault_okind, R_fault_nums, R_num_version, R_num_found, R_num_fault, R_num_num, R_num_words, R_num_keeps, R_num_dnow, R_num_last, R_num_lnum, R_num_kinds, R_num_parents, R_num_tsz, R_num_chars, R_num_kfrom, R_num_ksz, R_num_kept, R_num_opn, R_num_okind, R_num_nums, R_words_version, R_words_found, R_words_fault, R_words_num, R_words_words, R_words_keeps, R_words_dnow, R_words_last, R_words_lnum, R_words_kinds, R_words_parents, R_words_tsz, R_words_chars, R_words_kfrom, R_words_ksz, R_words_kept, R_words_opn, R_words_okind, R_words_nums, R_keeps_version, R_keeps_found, R_keeps_fault, R_keeps_num, R_keeps_words, R_keeps_keeps, R_keeps_dnow, R_keeps_last, R_keeps_lnum, R_keeps_kinds, R_keeps_parents, R_keeps_tsz, R_keeps_chars, R_keeps_kfrom, R_keeps_ksz, R_keeps_kept, R_keeps_opn, R_keeps_okind, R_keeps_nums, R_dnow_version, R_dnow_found, R_dnow_fault, R_dnow_num, R_dnow_words, R_dnow_keeps, R_dnow_dnow, R_dnow_last, R_dnow_lnum, R_dnow_kinds, R_dnow_parents, R_dnow_tsz, R_dnow_chars, R_dnow_kfrom, R_dnow_ksz, R_dnow_kept, R_dnow_opn, R_dnow_okind, R_dnow_nums, R_last_version, R_last_found, R_last_fault, R_last_num, R_last_words, R_last_keeps, R_last_dnow, R_last_last, R_last_lnum, R_last_kinds, R_last_parents, R_last_tsz, R_last_chars, R_last_kfrom, R_last_ksz, R_last_kept, R_last_opn, R_last_okind, R_last_nums, R_lnum_version, R_lnum_found, R_lnum_fault, R_lnum_num, R_lnum_words, R_lnum_keeps, R_lnum_dnow, R_lnum_last, R_lnum_lnum, R_lnum_kinds, R_lnum_parents, R_lnum_tsz, R_lnum_chars, R_lnum_kfrom, R_lnum_ksz, R_lnum_kept, R_lnum_opn, R_lnum_okind, R_lnum_nums, R_kinds_version, R_kinds_found, R_kinds_fault, R_kinds_num, R_kinds_words, R_kinds_keeps, R_kinds_dnow, R_kinds_last, R_kinds_lnum, R_kinds_kinds, R_kinds_parents, R_kinds_tsz, R_kinds_chars, R_kinds_kfrom, R_kinds_ksz, R_kinds_kept, R_kinds_opn, R_kinds_okind, R_kinds_nums, R_parents_version, R_parents_found, R_parents_fault, R_parents_num, R_parents_words, R_parents_keeps, R_parents_dnow, R_parents_last, R_parents_lnum, R_parents_kinds, R_parents_parents, R_parents_tsz, R_parents_chars, R_parents_kfrom, R_parents_ksz, R_parents_kept, R_parents_opn, R_parents_okind, R_parents_nums, R_tsz_version, R_tsz_found, R_tsz_fault, R_tsz_num, R_tsz_words, R_tsz_keeps, R_tsz_dnow, R_tsz_last, R_tsz_lnum, R_tsz_kinds, R_tsz_parents, R_tsz_tsz, R_tsz_chars, R_tsz_kfrom, R_tsz_ksz, R_tsz_kept, R_tsz_opn, R_tsz_okind, R_tsz_nums, R_chars_version, R_chars_found, R_chars_fault, R_chars_num, R_chars_words, R_chars_keeps, R_chars_dnow, R_chars_last, R_chars_lnum, R_chars_kinds, R_chars_parents, R_chars_tsz, R_chars_chars, R_chars_kfrom, R_chars_ksz, R_chars_kept, R_chars_opn, R_chars_okind, R_chars_nums, R_kfrom_version, R_kfrom_found, R_kfrom_fault, R_kfrom_num, R_kfrom_words, R_kfrom_keeps, R_kfrom_dnow, R_kfrom_last, R_kfrom_lnum, R_kfrom_kinds, R_kfrom_parents, R_kfrom_tsz, R_kfrom_chars, R_kfrom_kfrom, R_kfrom_ksz, R_kfrom_kept, R_kfrom_opn, R_kfrom_okind, R_kfrom_nums, R_ksz_version, R_ksz_found, R_ksz_fault, R_ksz_num, R_ksz_words, R_ksz_keeps, R_ksz_dnow, R_ksz_last, R_ksz_lnum, R_ksz_kinds, R_ksz_parents, R_ksz_tsz, R_ksz_chars, R_ksz_kfrom, R_ksz_ksz, R_ksz_kept, R_ksz_opn, R_ksz_okind, R_ksz_nums, R_kept_version, R_kept_found, R_kept_fault, R_kept_num, R_kept_words, R_kept_keeps, R_kept_dnow, R_kept_last, R_kept_lnum, R_kept_kinds, R_kept_parents, R_kept_tsz, R_kept_chars, R_kept_kfrom, R_kept_ksz, R_kept_kept, R_kept_opn, R_kept_okind, R_kept_nums, R_opn_version, R_opn_found, R_opn_fault, R_opn_num, R_opn_words, R_opn_keeps, R_opn_dnow, R_opn_last, R_opn_lnum, R_opn_kinds, R_opn_parents, R_opn_tsz, R_opn_chars, R_opn_kfrom, R_opn_ksz, R_opn_kept, R_opn_opn, R_opn_okind, R_opn_nums, R_okind_version, R_okind_found, R_okind_fault, R_okind_num, R_okind_words, R_okind_keeps, R_okind_dnow, R_okind_last, R_okind_lnum, R_okind_kinds, R_okind_parents, R_okind_tsz, R_okind_chars, R_okind_kfrom, R_okind_ksz, R_okind_kept, R_okind_opn, R_okind_okind, R_okind_nums, R_nums_version, R_nums_found, R_nums_fault, R_nums_num, R_nums_words, R_nums_keeps, R_nums_dnow, R_nums_last, R_nums_lnum, R_nums_kinds, R_nums_parents, R_nums_tsz, R_nums_chars, R_nums_kfrom, R_nums_ksz, R_nums_kept, R_nums_opn, R_nums_okind, R_nums_nums] at h3
          rw [h3.1, h3.2, upd_ne (by omega), upd_ne (by omega)]
          exact ⟨rfl, rfl⟩
        · by_cases hi : i = z9
          · subst hi
            have h3 := b3 ((k * 2 + w) * 40 + i) (by omega)
            simp only [R_version_version, R_version_found, R_version_fault, R_version_num, R_version_words, R_version_keeps, R_version_dnow, R_version_last, R_version_lnum, R_version_kinds, R_version_parents, R_version_tsz, R_version_chars, R_version_kfrom, R_version_ksz, R_version_kept, R_version_opn, R_version_okind, R_version_nums, R_found_version, R_found_found, R_found_fault, R_found_num, R_found_words, R_found_keeps, R_found_dnow, R_found_last, R_found_lnum, R_found_kinds, R_found_parents, R_found_tsz, R_found_chars, R_found_kfrom, R_found_ksz, R_found_kept, R_found_opn, R_found_okind, R_found_nums, R_fault_version, R_fault_found, R_fault_fault, R_fault_num, R_fault_words, R_fault_keeps, R_fault_dnow, R_fault_last, R_fault_lnum, R_fault_kinds, R_fault_parents, R_fault_tsz, R_fault_chars, R_fault_kfrom, R_fault_ksz, R_fault_kept, R_fault_opn, R_fault_okind, R_fault_nums, R_num_version, R_num_found, R_num_fault, R_num_num, R_num_words, R_num_keeps, R_num_dnow, R_num_last, R_num_lnum, R_num_kinds, R_num_parents, R_num_tsz, R_num_chars, R_num_kfrom, R_num_ksz, R_num_kept, R_num_opn, R_num_okind, R_num_nums, R_words_version, R_words_found, R_words_fault, R_words_num, R_words_words, R_words_keeps, R_words_dnow, R_words_last, R_words_lnum, R_words_kinds, R_words_parents, R_words_tsz, R_words_chars, R_words_kfrom, R_words_ksz, R_words_kept, R_words_opn, R_words_okind, R_words_nums, R_keeps_version, R_keeps_found, R_keeps_fault, R_keeps_num, R_keeps_words, R_keeps_keeps, R_keeps_dnow, R_keeps_last, R_keeps_lnum, R_keeps_kinds, R_keeps_parents, R_keeps_tsz, R_keeps_chars, R_keeps_kfrom, R_keeps_ksz, R_keeps_kept, R_keeps_opn, R_keeps_okind, R_keeps_nums, R_dnow_version, R_dnow_found, R_dnow_fault, R_dnow_num, R_dnow_words, R_dnow_keeps, R_dnow_dnow, R_dnow_last, R_dnow_lnum, R_dnow_kinds, R_dnow_parents, R_dnow_tsz, R_dnow_chars, R_dnow_kfrom, R_dnow_ksz, R_dnow_kept, R_dnow_opn, R_dnow_okind, R_dnow_nums, R_last_version, R_last_found, R_last_fault, R_last_num, R_last_words, R_last_keeps, R_last_dnow, R_last_last, R_last_lnum, R_last_kinds, R_last_parents, R_last_tsz, R_last_chars, R_last_kfrom, R_last_ksz, R_last_kept, R_last_opn, R_last_okind, R_last_nums, R_lnum_version, R_lnum_found, R_lnum_fault, R_lnum_num, R_lnum_words, R_lnum_keeps, R_lnum_dnow, R_lnum_last, R_lnum_lnum, R_lnum_kinds, R_lnum_parents, R_lnum_tsz, R_lnum_chars, R_lnum_kfrom, R_lnum_ksz, R_lnum_kept, R_lnum_opn, R_lnum_okind, R_lnum_nums, R_kinds_version, R_kinds_found, R_kinds_fault, R_kinds_num, R_kinds_words, R_kinds_keeps, R_kinds_dnow, R_kinds_last, R_kinds_lnum, R_kinds_kinds, R_kinds_parents, R_kinds_tsz, R_kinds_chars, R_kinds_kfrom, R_kinds_ksz, R_kinds_kept, R_kinds_opn, R_kinds_okind, R_kinds_nums, R_parents_version, R_parents_found, R_parents_fault, R_parents_num, R_parents_words, R_parents_keeps, R_parents_dnow, R_parents_last, R_parents_lnum, R_parents_kinds, R_parents_parents, R_parents_tsz, R_parents_chars, R_parents_kfrom, R_parents_ksz, R_parents_kept, R_parents_opn, R_parents_okind, R_parents_nums, R_tsz_version, R_tsz_found, R_tsz_fault, R_tsz_num, R_tsz_words, R_tsz_keeps, R_tsz_dnow, R_tsz_last, R_tsz_lnum, R_tsz_kinds, R_tsz_parents, R_tsz_tsz, R_tsz_chars, R_tsz_kfrom, R_tsz_ksz, R_tsz_kept, R_tsz_opn, R_tsz_okind, R_tsz_nums, R_chars_version, R_chars_found, R_chars_fault, R_chars_num, R_chars_words, R_chars_keeps, R_chars_dnow, R_chars_last, R_chars_lnum, R_chars_kinds, R_chars_parents, R_chars_tsz, R_chars_chars, R_chars_kfrom, R_chars_ksz, R_chars_kept, R_chars_opn, R_chars_okind, R_chars_nums, R_kfrom_version, R_kfrom_found, R_kfrom_fault, R_kfrom_num, R_kfrom_words, R_kfrom_keeps, R_kfrom_dnow, R_kfrom_last, R_kfrom_lnum, R_kfrom_kinds, R_kfrom_parents, R_kfrom_tsz, R_kfrom_chars, R_kfrom_kfrom, R_kfrom_ksz, R_kfrom_kept, R_kfrom_opn, R_kfrom_okind, R_kfrom_nums, R_ksz_version, R_ksz_found, R_ksz_fault, R_ksz_num, R_ksz_words, R_ksz_keeps, R_ksz_dnow, R_ksz_last, R_ksz_lnum, R_ksz_kinds, R_ksz_parents, R_ksz_tsz, R_ksz_chars, R_ksz_kfrom, R_ksz_ksz, R_ksz_kept, R_ksz_opn, R_ksz_okind, R_ksz_nums, R_kept_version, R_kept_found, R_kept_fault, R_kept_num, R_kept_words, R_kept_keeps, R_kept_dnow, R_kept_last, R_kept_lnum, R_kept_kinds, R_kept_parents, R_kept_tsz, R_kept_chars, R_kept_kfrom, R_kept_ksz, R_kept_kept, R_kept_opn, R_kept_okind, R_kept_nums, R_opn_version, R_opn_found, R_opn_fault, R_opn_num, R_opn_words, R_opn_keeps, R_opn_dnow, R_opn_last, R_opn_lnum, R_opn_kinds, R_opn_parents, R_opn_tsz, R_opn_chars, R_opn_kfrom, R_opn_ksz, R_opn_kept, R_opn_opn, R_opn_okind, R_opn_nums, R_okind_version, R_okind_found, R_okind_fault, R_okind_num, R_okind_words, R_okind_keeps, R_okind_dnow, R_okind_last, R_okind_lnum, R_okind_kinds, R_okind_parents, R_okind_tsz, R_okind_chars, R_okind_kfrom, R_okind_ksz, R_okind_kept, R_okind_opn, R_okind_okind, R_okind_nums, R_nums_version, R_nums_found, R_nums_fault, R_nums_num, R_nums_words, R_nums_keeps, R_nums_dnow, R_nums_last, R_nums_lnum, R_nums_kinds, R_nums_parents, R_nums_tsz, R_nums_chars, R_nums_kfrom, R_nums_ksz, R_nums_kept, R_nums_opn, R_nums_okind, R_nums_nums, upd_same] at h3
            rw [h3.1, h3.2]
            exact ⟨hT, rfl⟩
          · exact b4 i (by omega) hi2
      · rw [if_neg hT] at hfit; cases hfit
end STX
