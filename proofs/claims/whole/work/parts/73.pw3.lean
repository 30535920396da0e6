/-! units, and objects made -/
section UNT
variable {uX uS uT uV uP u bT : Md} {s : Tst} {r : Rst} {t : Nat → Int32} {n : Nat}
set_option maxRecDepth 100000 in
set_option maxHeartbeats 4000000 in
theorem nar_10 : vp_nar .char ((10 : Int32).toUInt32 % 65536).toInt32 = 10 := nar_nat 10 (by omega)
set_option maxRecDepth 100000 in
set_option maxHeartbeats 4000000 in
/-- a unit more on both sides -/
theorem st_unit_L (hS : SOk uS t n) (hR : ROk u t n) (hc : COk t n) (hn6 : n < 600) (a1 : Int32) : (sL_0_L uX uS uT uV uP (wW u r) a1 = some (uX, uS, uT, uV, uP, wW (si u 0 0) r)) ∨ (∃ uS', sL_0_L uX uS uT uV uP (wW u r) a1 = some (uX, uS', uT, uV, uP, wW (si (sa (si u 0 0) 2 (upd t n a1)) 3 (zI (n + 1))) r) ∧ SOk uS' (upd t n a1) (n + 1) ∧ COk (upd t n a1) (n + 1)) := by
  have hgood : isT a1 = true ∨ a1 = 10 → ∃ uS', sL_0_L uX uS uT uV uP (wW u r) a1 = some (uX, uS', uT, uV, uP, wW (si (sa (si u 0 0) 2 (upd t n a1)) 3 (zI (n + 1))) r) ∧ SOk uS' (upd t n a1) (n + 1) ∧ COk (upd t n a1) (n + 1) := by
    intro hg
    have hcls : f8_unit_L uX uS uT uV uP a1 = some (1, si (sa uS 0 (upd t n a1)) 1 (zI (n + 1))) := by
      unfold f8_unit_L fx_X6_append
      have h25 : fx_X6_append_25 uS a1 = some (1, si (sa uS 0 (upd t n a1)) 1 (zI (n + 1))) := by
        unfold fx_X6_append_25
        rw [hS.sz, hS.tx, nar_C hg]
        simp (disch := omega) only [zI_le, zI_lt, zI_inj, zI_z, zI_lz, zI_zl, zI_neg, zI_nat, zI_add, zI_one, zI_mul, zI_ne1, zI_1n, leT, leF, ltT, ltF, eqT, eqF, if_true, if_false, Option.bind_some, false_or, or_false, true_or, or_true, true_and, and_true, false_and, and_false, not_true_eq_false, not_false_eq_true, reduceIte]
      rw [h25, hS.sz, if_neg (by rw [show (4000 : Int32) = zI 4000 from rfl, zI_le (by omega) (by omega)]; omega), d_text]
      simp only [Option.bind_some, bI_z]
      cases hg with
      | inl h => rw [if_neg (by rw [h]; decide)]; rfl
      | inr h => rw [h, if_pos isT_10, if_pos rfl]; rfl
    have href : f9_unit (wW u r) a1 = some (1, wW (si (sa (si u 0 0) 2 (upd t n a1)) 3 (zI (n + 1))) r) := by
      have h23 : f9_unit_23 (wW (si u 0 0) r) a1 = some (1, wW (si (sa (si u 0 0) 2 (upd t n a1)) 3 (zI (n + 1))) r) := by
        unfold f9_unit_23 f9_unit_28
        have e3 : gi (wW (si u 0 0) r) 3 = zI n := hR.sz
        have e2 : ga (wW (si u 0 0) r) 2 = t := hR.tx
        rw [e3, e2, if_neg (by decide), if_neg (by rw [show (4000 : Int32) = zI 4000 from rfl, zI_inj (by omega) (by omega)]; omega)]
        simp (disch := omega) only [zI_le, zI_lt, zI_inj, zI_z, zI_lz, zI_zl, zI_neg, zI_nat, zI_add, zI_one, zI_mul, zI_ne1, zI_1n, leT, leF, ltT, ltF, eqT, eqF, if_true, if_false, Option.bind_some, false_or, or_false, true_or, or_true, true_and, and_true, false_and, and_false, not_true_eq_false, not_false_eq_true, reduceIte, wW_ba2, wW_b3]
      unfold f9_unit f9_unit_17
      rw [wW_b0, h23]
      cases hg with
      | inl h =>
        unfold isT at h
        simp only [Bool.and_eq_true, Bool.not_eq_true', decide_eq_false_iff_not] at h
        rw [if_neg h.1, if_pos (by rw [← Int32.not_lt]; exact h.2)]
      | inr h => rw [h, if_pos (by decide), if_pos rfl]
    refine ⟨si (sa uS 0 (upd t n a1)) 1 (zI (n + 1)), ?_, ⟨rfl, rfl, by omega⟩, ?_⟩
    · unfold sL_0_L
      rw [hcls, href]
      simp only [Option.bind_some, if_true]
    · intro p hp
      by_cases hpn : p = n
      · rw [hpn, upd_same]
        cases hg with
        | inl h =>
          left
          unfold isT at h
          simp only [Bool.and_eq_true, Bool.not_eq_true', decide_eq_false_iff_not, Int32.not_lt] at h
          exact h
        | inr h => exact Or.inr h
      · rw [upd_ne hpn]; exact hc p (by omega)
  by_cases hT : isT a1 = true
  · exact Or.inr (hgood (Or.inl hT))
  · by_cases h10 : a1 = 10
    · exact Or.inr (hgood (Or.inr h10))
    · left
      have hcls : f8_unit_L uX uS uT uV uP a1 = some (0, uS) := by
        unfold f8_unit_L fx_X6_append
        rw [hS.sz, if_neg (by rw [show (4000 : Int32) = zI 4000 from rfl, zI_le (by omega) (by omega)]; omega), d_text]
        simp only [Option.bind_some, bI_z]
        rw [if_pos (by simpa using hT), if_neg h10]
        rfl
      have h28 : f9_unit_28 (wW (si u 0 0) r) a1 0 = some (0, wW (si u 0 0) r) := by
        unfold f9_unit_28
        rw [if_pos rfl]
      have href : f9_unit (wW u r) a1 = some (0, wW (si u 0 0) r) := by
        unfold f9_unit f9_unit_17
        rw [wW_b0, h28, if_neg h10]
        by_cases h1 : a1 < 32
        · rw [if_pos h1]
        · rw [if_neg h1, if_neg (by
            intro h2
            apply hT
            unfold isT
            simp only [Bool.and_eq_true, Bool.not_eq_true', decide_eq_false_iff_not, Int32.not_lt]
            exact ⟨by rw [← Int32.not_lt]; exact h1, h2⟩)]
      unfold sL_0_L
      rw [hcls, href]
      simp only [Option.bind_some, if_true]
set_option maxRecDepth 100000 in
set_option maxHeartbeats 4000000 in
theorem st_clear_L : sL_12_L uX uS uT uV uP (wW u r) = some (uX, si uS 1 0, uT, uV, uP, wW (si (si u 0 0) 3 0) r) := by
  unfold sL_12_L f8_clear_L fx_X6_empty f9_clear
  rw [wW_b0, wW_b3]
  rfl
set_option maxRecDepth 100000 in
set_option maxHeartbeats 4000000 in
/-- a unit more on both sides -/
theorem st_unit_B (hS : SOk uS t n) (hR : ROk u t n) (hc : COk t n) (hn6 : n < 600) (a1 : Int32) : (sL_0_B uX uS uT uV uP (wW u r) a1 = some (uX, uS, uT, uV, uP, wW (si u 0 0) r)) ∨ (∃ uS', sL_0_B uX uS uT uV uP (wW u r) a1 = some (uX, uS', uT, uV, uP, wW (si (sa (si u 0 0) 2 (upd t n a1)) 3 (zI (n + 1))) r) ∧ SOk uS' (upd t n a1) (n + 1) ∧ COk (upd t n a1) (n + 1)) := by
  have hgood : isT a1 = true ∨ a1 = 10 → ∃ uS', sL_0_B uX uS uT uV uP (wW u r) a1 = some (uX, uS', uT, uV, uP, wW (si (sa (si u 0 0) 2 (upd t n a1)) 3 (zI (n + 1))) r) ∧ SOk uS' (upd t n a1) (n + 1) ∧ COk (upd t n a1) (n + 1) := by
    intro hg
    have hcls : f8_unit_B uX uS uT uV uP a1 = some (1, si (sa uS 0 (upd t n a1)) 1 (zI (n + 1))) := by
      unfold f8_unit_B fx_X6_append
      have h25 : fx_X6_append_25 uS a1 = some (1, si (sa uS 0 (upd t n a1)) 1 (zI (n + 1))) := by
        unfold fx_X6_append_25
        rw [hS.sz, hS.tx, nar_C hg]
        simp (disch := omega) only [zI_le, zI_lt, zI_inj, zI_z, zI_lz, zI_zl, zI_neg, zI_nat, zI_add, zI_one, zI_mul, zI_ne1, zI_1n, leT, leF, ltT, ltF, eqT, eqF, if_true, if_false, Option.bind_some, false_or, or_false, true_or, or_true, true_and, and_true, false_and, and_false, not_true_eq_false, not_false_eq_true, reduceIte]
      rw [h25, hS.sz, if_neg (by rw [show (4000 : Int32) = zI 4000 from rfl, zI_le (by omega) (by omega)]; omega), d_text]
      simp only [Option.bind_some, bI_z]
      cases hg with
      | inl h => rw [if_neg (by rw [h]; decide)]; rfl
      | inr h => rw [h, if_pos isT_10, if_pos rfl]; rfl
    have href : f9_unit (wW u r) a1 = some (1, wW (si (sa (si u 0 0) 2 (upd t n a1)) 3 (zI (n + 1))) r) := by
      have h23 : f9_unit_23 (wW (si u 0 0) r) a1 = some (1, wW (si (sa (si u 0 0) 2 (upd t n a1)) 3 (zI (n + 1))) r) := by
        unfold f9_unit_23 f9_unit_28
        have e3 : gi (wW (si u 0 0) r) 3 = zI n := hR.sz
        have e2 : ga (wW (si u 0 0) r) 2 = t := hR.tx
        rw [e3, e2, if_neg (by decide), if_neg (by rw [show (4000 : Int32) = zI 4000 from rfl, zI_inj (by omega) (by omega)]; omega)]
        simp (disch := omega) only [zI_le, zI_lt, zI_inj, zI_z, zI_lz, zI_zl, zI_neg, zI_nat, zI_add, zI_one, zI_mul, zI_ne1, zI_1n, leT, leF, ltT, ltF, eqT, eqF, if_true, if_false, Option.bind_some, false_or, or_false, true_or, or_true, true_and, and_true, false_and, and_false, not_true_eq_false, not_false_eq_true, reduceIte, wW_ba2, wW_b3]
      unfold f9_unit f9_unit_17
      rw [wW_b0, h23]
      cases hg with
      | inl h =>
        unfold isT at h
        simp only [Bool.and_eq_true, Bool.not_eq_true', decide_eq_false_iff_not] at h
        rw [if_neg h.1, if_pos (by rw [← Int32.not_lt]; exact h.2)]
      | inr h => rw [h, if_pos (by decide), if_pos rfl]
    refine ⟨si (sa uS 0 (upd t n a1)) 1 (zI (n + 1)), ?_, ⟨rfl, rfl, by omega⟩, ?_⟩
    · unfold sL_0_B
      rw [hcls, href]
      simp only [Option.bind_some, if_true]
    · intro p hp
      by_cases hpn : p = n
      · rw [hpn, upd_same]
        cases hg with
        | inl h =>
          left
          unfold isT at h
          simp only [Bool.and_eq_true, Bool.not_eq_true', decide_eq_false_iff_not, Int32.not_lt] at h
          exact h
        | inr h => exact Or.inr h
      · rw [upd_ne hpn]; exact hc p (by omega)
  by_cases hT : isT a1 = true
  · exact Or.inr (hgood (Or.inl hT))
  · by_cases h10 : a1 = 10
    · exact Or.inr (hgood (Or.inr h10))
    · left
      have hcls : f8_unit_B uX uS uT uV uP a1 = some (0, uS) := by
        unfold f8_unit_B fx_X6_append
        rw [hS.sz, if_neg (by rw [show (4000 : Int32) = zI 4000 from rfl, zI_le (by omega) (by omega)]; omega), d_text]
        simp only [Option.bind_some, bI_z]
        rw [if_pos (by simpa using hT), if_neg h10]
        rfl
      have h28 : f9_unit_28 (wW (si u 0 0) r) a1 0 = some (0, wW (si u 0 0) r) := by
        unfold f9_unit_28
        rw [if_pos rfl]
      have href : f9_unit (wW u r) a1 = some (0, wW (si u 0 0) r) := by
        unfold f9_unit f9_unit_17
        rw [wW_b0, h28, if_neg h10]
        by_cases h1 : a1 < 32
        · rw [if_pos h1]
        · rw [if_neg h1, if_neg (by
            intro h2
            apply hT
            unfold isT
            simp only [Bool.and_eq_true, Bool.not_eq_true', decide_eq_false_iff_not, Int32.not_lt]
            exact ⟨by rw [← Int32.not_lt]; exact h1, h2⟩)]
      unfold sL_0_B
      rw [hcls, href]
      simp only [Option.bind_some, if_true]
set_option maxRecDepth 100000 in
set_option maxHeartbeats 4000000 in
theorem st_clear_B : sL_12_B uX uS uT uV uP (wW u r) = some (uX, si uS 1 0, uT, uV, uP, wW (si (si u 0 0) 3 0) r) := by
  unfold sL_12_B f8_clear_B fx_X6_empty f9_clear
  rw [wW_b0, wW_b3]
  rfl
set_option maxRecDepth 100000 in
set_option maxHeartbeats 4000000 in
/-- the reference's new object, by number -/
theorem q_blankN {N : Nat} (κ : Fin 10) (hN : N < 200) : ∃ b, f9_blank (wW u r) (zI N) (zI κ.val) = some (wW u ((((r.s_nums (b)).s_tsz (upd (upd r.tsz (N * 2) 0) (N * 2 + 1) 0)).s_kinds (upd r.kinds N (zI κ.val))).s_ksz (upd r.ksz N 0))) ∧ (∀ y, (y < N * 5 ∨ N * 5 + 5 ≤ y) → b y = r.nums y) ∧ ∀ w, w < 5 → b (N * 5 + w) = bl κ w := by
  obtain ⟨b0, h1, h2, h3⟩ := q_blank2 (u := u) (x := zI κ.val) hN 5 0 FU r rfl (by omega) (by unfold FU; omega)
  have hκ := κ.isLt
  have h57 : ∀ r2 : Rst, f9_blank_57 (wW u r2) (zI N) (zI κ.val) = some (wW u (((r2.s_tsz (upd (upd r2.tsz (2 * N) 0) (2 * N + 1) 0)).s_kinds (upd r2.kinds N (zI κ.val))).s_ksz (upd r2.ksz N 0))) := by
    intro r2
    unfold f9_blank_57
    simp (disch := omega) only [wW_16, wW_17, wW_18, wW_20, wW_21, wW_22, wW_29, wW_30, wW_1, wW_3, wW_15, wW_a5, wW_a6, wW_a8, wW_a9, wW_a10, wW_a11, wW_a12, wW_a23, wW_a24, wW_a2, wW_n, wW_l, wW_s16, wW_s17, wW_s18, wW_s20, wW_s21, wW_s22, wW_s29, wW_s30, wW_sa5, wW_sa6, wW_sa8, wW_sa9, wW_sa10, wW_sa11, wW_sa12, wW_sa23, wW_sa24, wW_sn, wW_sl, R_version_version, R_version_found, R_version_fault, R_version_num, R_version_words, R_version_keeps, R_version_dnow, R_version_last, R_version_lnum, R_version_kinds, R_version_parents, R_version_tsz, R_version_chars, R_version_kfrom, R_version_ksz, R_version_kept, R_version_opn, R_version_okind, R_version_nums, R_found_version, R_found_found, R_found_fault, R_found_num, R_found_words, R_found_keeps, R_found_dnow, R_found_last, R_found_lnum, R_found_kinds, R_found_parents, R_found_tsz, R_found_chars, R_found_kfrom, R_found_ksz, R_found_kept, R_found_opn, R_found_okind, R_found_nums, R_fault_version, R_fault_found, R_fault_fault, R_fault_num, R_fault_words, R_fault_keeps, R_fault_dnow, R_fault_last, R_fault_lnum, R_fault_kinds, R_fault_parents, R_fault_tsz, R_fault_chars, R_fault_kfrom, R_fault_ksz, R_fault_kept, R_fault_opn, R_fault_okind, R_fault_nums, R_num_version, R_num_found, R_num_fault, R_num_num, R_num_words, R_num_keeps, R_num_dnow, R_num_last, R_num_lnum, R_num_kinds, R_num_parents, R_num_tsz, R_num_chars, R_num_kfrom, R_num_ksz, R_num_kept, R_num_opn, R_num_okind, R_num_nums, R_words_version, R_words_found, R_words_fault, R_words_num, R_words_words, R_words_keeps, R_words_dnow, R_words_last, R_words_lnum, R_words_kinds, R_words_parents, R_words_tsz, R_words_chars, R_words_kfrom, R_words_ksz, R_words_kept, R_words_opn, R_words_okind, R_words_nums, R_keeps_version, R_keeps_found, R_keeps_fault, R_keeps_num, R_keeps_words, R_keeps_keeps, R_keeps_dnow, R_keeps_last, R_keeps_lnum, R_keeps_kinds, R_keeps_parents, R_keeps_tsz, R_keeps_chars, R_keeps_kfrom, R_keeps_ksz, R_keeps_kept, R_keeps_opn, R_keeps_okind, R_keeps_nums, R_dnow_version, R_dnow_found, R_dnow_fault, R_dnow_num, R_dnow_words, R_dnow_keeps, R_dnow_dnow, R_dnow_last, R_dnow_lnum, R_dnow_kinds, R_dnow_parents, R_dnow_tsz, R_dnow_chars, R_dnow_kfrom, R_dnow_ksz, R_dnow_kept, R_dnow_opn, R_dnow_okind, R_dnow_nums, R_last_version, R_last_found, R_last_fault, R_last_num, R_last_words, R_last_keeps, R_last_dnow, R_last_last, R_last_lnum, R_last_kinds, R_last_parents, R_last_tsz, R_last_chars, R_last_kfrom, R_last_ksz, R_last_kept, R_last_opn, R_last_okind, R_last_nums, R_lnum_version, R_lnum_found, R_lnum_fault, R_lnum_num, R_lnum_words, R_lnum_keeps, R_lnum_dnow, R_lnum_last, R_lnum_lnum, R_lnum_kinds, R_lnum_parents, R_lnum_tsz, R_lnum_chars, R_lnum_kfrom, R_lnum_ksz, R_lnum_kept, R_lnum_opn, R_lnum_okind, R_lnum_nums, R_kinds_version, R_kinds_found, R_kinds_fault, R_kinds_num, R_kinds_words, R_kinds_keeps, R_kinds_dnow, R_kinds_last, R_kinds_lnum, R_kinds_kinds, R_kinds_parents, R_kinds_tsz, R_kinds_chars, R_kinds_kfrom, R_kinds_ksz, R_kinds_kept, R_kinds_opn, R_kinds_okind, R_kinds_nums, R_parents_version, R_parents_found, R_parents_fault, R_parents_num, R_parents_words, R_parents_keeps, R_parents_dnow, R_parents_last, R_parents_lnum, R_parents_kinds, R_parents_parents, R_parents_tsz, R_parents_chars, R_parents_kfrom, R_parents_ksz, R_parents_kept, R_parents_opn, R_parents_okind, R_parents_nums, R_tsz_version, R_tsz_found, R_tsz_fault, R_tsz_num, R_tsz_words, R_tsz_keeps, R_tsz_dnow, R_tsz_last, R_tsz_lnum, R_tsz_kinds, R_tsz_parents, R_tsz_tsz, R_tsz_chars, R_tsz_kfrom, R_tsz_ksz, R_tsz_kept, R_tsz_opn, R_tsz_okind, R_tsz_nums, R_chars_version, R_chars_found, R_chars_fault, R_chars_num, R_chars_words, R_chars_keeps, R_chars_dnow, R_chars_last, R_chars_lnum, R_chars_kinds, R_chars_parents, R_chars_tsz, R_chars_chars, R_chars_kfrom, R_chars_ksz, R_chars_kept, R_chars_opn, R_chars_okind, R_chars_nums, R_kfrom_version, R_kfrom_found, R_kfrom_fault, R_kfrom_num, R_kfrom_words, R_kfrom_keeps, R_kfrom_dnow, R_kfrom_last, R_kfrom_lnum, R_kfrom_kinds, R_kfrom_parents, R_kfrom_tsz, R_kfrom_chars, R_kfrom_kfrom, R_kfrom_ksz, R_kfrom_kept, R_kfrom_opn, R_kfrom_okind, R_kfrom_nums, R_ksz_version, R_ksz_found, R_ksz_fault, R_ksz_num, R_ksz_words, R_ksz_keeps, R_ksz_dnow, R_ksz_last, R_ksz_lnum, R_ksz_kinds, R_ksz_parents, R_ksz_tsz, R_ksz_chars, R_ksz_kfrom, R_ksz_ksz, R_ksz_kept, R_ksz_opn, R_ksz_okind, R_ksz_nums, R_kept_version, R_kept_found, R_kept_fault, R_kept_num, R_kept_words, R_kept_keeps, R_kept_dnow, R_kept_last, R_kept_lnum, R_kept_kinds, R_kept_parents, R_kept_tsz, R_kept_chars, R_kept_kfrom, R_kept_ksz, R_kept_kept, R_kept_opn, R_kept_okind, R_kept_nums, R_opn_version, R_opn_found, R_opn_fault, R_opn_num, R_opn_words, R_opn_keeps, R_opn_dnow, R_opn_last, R_opn_lnum, R_opn_kinds, R_opn_parents, R_opn_tsz, R_opn_chars, R_opn_kfrom, R_opn_ksz, R_opn_kept, R_opn_opn, R_opn_okind, R_opn_nums, R_okind_version, R_okind_found, R_okind_fault, R_okind_num, R_okind_words, R_okind_keeps, R_okind_dnow, R_okind_last, R_okind_lnum, R_okind_kinds, R_okind_parents, R_okind_tsz, R_okind_chars, R_okind_kfrom, R_okind_ksz, R_okind_kept, R_okind_opn, R_okind_okind, R_okind_nums, R_nums_version, R_nums_found, R_nums_fault, R_nums_num, R_nums_words, R_nums_keeps, R_nums_dnow, R_nums_last, R_nums_lnum, R_nums_kinds, R_nums_parents, R_nums_tsz, R_nums_chars, R_nums_kfrom, R_nums_ksz, R_nums_kept, R_nums_opn, R_nums_okind, R_nums_nums, show (2 : Int32) = zI 2 from rfl, zI_le, zI_lt, zI_inj, zI_z, zI_lz, zI_zl, zI_neg, zI_nat, zI_add, zI_one, zI_mul, zI_ne1, zI_1n, leT, leF, ltT, ltF, eqT, eqF, if_true, if_false, Option.bind_some, false_or, or_false, true_or, or_true, true_and, and_true, false_and, and_false, not_true_eq_false, not_false_eq_true, reduceIte]
    rfl
  unfold f9_blank
  rw [show (0 : Int32) = zI 0 from rfl, h1, f9_blank_2, if_pos (by decide)]
  unfold f9_blank_38
  by_cases hk3 : κ.val = 3
  · refine ⟨vp_updL b0 (N * 5) 1, ?_, fun y hy => ?_, fun w hw => ?_⟩
    · rw [if_pos (by rw [hk3]; rfl)]
      simp (disch := omega) only [wW_16, wW_17, wW_18, wW_20, wW_21, wW_22, wW_29, wW_30, wW_1, wW_3, wW_15, wW_a5, wW_a6, wW_a8, wW_a9, wW_a10, wW_a11, wW_a12, wW_a23, wW_a24, wW_a2, wW_n, wW_l, show (5 : Int32) = zI 5 from rfl, show (6 : Int32) = zI 6 from rfl, zI_le, zI_lt, zI_inj, zI_z, zI_lz, zI_zl, zI_neg, zI_nat, zI_add, zI_one, zI_mul, zI_ne1, zI_1n, leT, leF, ltT, ltF, eqT, eqF, if_true, if_false, Option.bind_some, false_or, or_false, true_or, or_true, true_and, and_true, false_and, and_false, not_true_eq_false, not_false_eq_true, reduceIte, wW_sn]
      rw [h57, Nat.mul_comm 2 N, Nat.mul_comm 5 N]
      simp only [R_version_version, R_version_found, R_version_fault, R_version_num, R_version_words, R_version_keeps, R_version_dnow, R_version_last, R_version_lnum, R_version_kinds, R_version_parents, R_version_tsz, R_version_chars, R_version_kfrom, R_version_ksz, R_version_kept, R_version_opn, R_version_okind, R_version_nums, R_found_version, R_found_found, R_found_fault, R_found_num, R_found_words, R_found_keeps, R_found_dnow, R_found_last, R_found_lnum, R_found_kinds, R_found_parents, R_found_tsz, R_found_chars, R_found_kfrom, R_found_ksz, R_found_kept, R_found_opn, R_found_okind, R_found_nums, R_fault_version, R_fault_found, R_fault_fault, R_fault_num, R_fault_words, R_fault_keeps, R_fault_dnow, R_fault_last, R_fault_lnum, R_fault_kinds, R_fault_parents, R_fault_tsz, R_fault_chars, R_fault_kfrom, R_fault_ksz, R_fault_kept, R_fault_opn, R_fault_okind, R_fault_nums, R_num_version, R_num_found, R_num_fault, R_num_num, R_num_words, R_num_keeps, R_num_dnow, R_num_last, R_num_lnum, R_num_kinds, R_num_parents, R_num_tsz, R_num_chars, R_num_kfrom, R_num_ksz, R_num_kept, R_num_opn, R_num_okind, R_num_nums, R_words_version, R_words_found, R_words_fault, R_words_num, R_words_words, R_words_keeps, R_words_dnow, R_words_last, R_words_lnum, R_words_kinds, R_words_parents, R_words_tsz, R_words_chars, R_words_kfrom, R_words_ksz, R_words_kept, R_words_opn, R_words_okind, R_words_nums, R_keeps_version, R_keeps_found, R_keeps_fault, R_keeps_num, R_keeps_words, R_keeps_keeps, R_keeps_dnow, R_keeps_last, R_keeps_lnum, R_keeps_kinds, R_keeps_parents, R_keeps_tsz, R_keeps_chars, R_keeps_kfrom, R_keeps_ksz, R_keeps_kept, R_keeps_opn, R_keeps_okind, R_keeps_nums, R_dnow_version, R_dnow_found, R_dnow_fault, R_dnow_num, R_dnow_words, R_dnow_keeps, R_dnow_dnow, R_dnow_last, R_dnow_lnum, R_dnow_kinds, R_dnow_parents, R_dnow_tsz, R_dnow_chars, R_dnow_kfrom, R_dnow_ksz, R_dnow_kept, R_dnow_opn, R_dnow_okind, R_dnow_nums, R_last_version, R_last_found, R_last_fault, R_last_num, R_last_words, R_last_keeps, R_last_dnow, R_last_last, R_last_lnum, R_last_kinds, R_last_parents, R_last_tsz, R_last_chars, R_last_kfrom, R_last_ksz, R_last_kept, R_last_opn, R_last_okind, R_last_nums, R_lnum_version, R_lnum_found, R_lnum_fault, R_lnum_num, R_lnum_words, R_lnum_keeps, R_lnum_dnow, R_lnum_last, R_lnum_lnum, R_lnum_kinds, R_lnum_parents, R_lnum_tsz, R_lnum_chars, R_lnum_kfrom, R_lnum_ksz, R_lnum_kept, R_lnum_opn, R_lnum_okind, R_lnum_nums, R_kinds_version, R_kinds_found, R_kinds_fault, R_kinds_num, R_kinds_words, R_kinds_keeps, R_kinds_dnow, R_kinds_last, R_kinds_lnum, R_kinds_kinds, R_kinds_parents, R_kinds_tsz, R_kinds_chars, R_kinds_kfrom, R_kinds_ksz, R_kinds_kept, R_kinds_opn, R_kinds_okind, R_kinds_nums, R_parents_version, R_parents_found, R_parents_fault, R_parents_num, R_parents_words, R_parents_keeps, R_parents_dnow, R_parents_last, R_parents_lnum, R_parents_kinds, R_parents_parents, R_parents_tsz, R_parents_chars, R_parents_kfrom, R_parents_ksz, R_parents_kept, R_parents_opn, R_parents_okind, R_parents_nums, R_tsz_version, R_tsz_found, R_tsz_fault, R_tsz_num, R_tsz_words, R_tsz_keeps, R_tsz_dnow, R_tsz_last, R_tsz_lnum, R_tsz_kinds, R_tsz_parents, R_tsz_tsz, R_tsz_chars, R_tsz_kfrom, R_tsz_ksz, R_tsz_kept, R_tsz_opn, R_tsz_okind, R_tsz_nums, R_chars_version, R_chars_found, R_chars_fault, R_chars_num, R_chars_words, R_chars_keeps, R_chars_dnow, R_chars_last, R_chars_lnum, R_chars_kinds, R_chars_parents, R_chars_tsz, R_chars_chars, R_chars_kfrom, R_chars_ksz, R_chars_kept, R_chars_opn, R_chars_okind, R_chars_nums, R_kfrom_version, R_kfrom_found, R_kfrom_fault, R_kfrom_num, R_kfrom_words, R_kfrom_keeps, R_kfrom_dnow, R_kfrom_last, R_kfrom_lnum, R_kfrom_kinds, R_kfrom_parents, R_kfrom_tsz, R_kfrom_chars, R_kfrom_kfrom, R_kfrom_ksz, R_kfrom_kept, R_kfrom_opn, R_kfrom_okind, R_kfrom_nums, R_ksz_version, R_ksz_found, R_ksz_fault, R_ksz_num, R_ksz_words, R_ksz_keeps, R_ksz_dnow, R_ksz_last, R_ksz_lnum, R_ksz_kinds, R_ksz_parents, R_ksz_tsz, R_ksz_chars, R_ksz_kfrom, R_ksz_ksz, R_ksz_kept, R_ksz_opn, R_ksz_okind, R_ksz_nums, R_kept_version, R_kept_found, R_kept_fault, R_kept_num, R_kept_words, R_kept_keeps, R_kept_dnow, R_kept_last, R_kept_lnum, R_kept_kinds, R_kept_parents, R_kept_tsz, R_kept_chars, R_kept_kfrom, R_kept_ksz, R_kept_kept, R_kept_opn, R_kept_okind, R_kept_nums, R_opn_version, R_opn_found, R_opn_fault, R_opn_num, R_opn_words, R_opn_keeps, R_opn_dnow, R_opn_last, R_opn_lnum, R_opn_kinds, R_opn_parents, R_opn_tsz, R_opn_chars, R_opn_kfrom, R_opn_ksz, R_opn_kept, R_opn_opn, R_opn_okind, R_opn_nums, R_okind_version, R_okind_found, R_okind_fault, R_okind_num, R_okind_words, R_okind_keeps, R_okind_dnow, R_okind_last, R_okind_lnum, R_okind_kinds, R_okind_parents, R_okind_tsz, R_okind_chars, R_okind_kfrom, R_okind_ksz, R_okind_kept, R_okind_opn, R_okind_okind, R_okind_nums, R_nums_version, R_nums_found, R_nums_fault, R_nums_num, R_nums_words, R_nums_keeps, R_nums_dnow, R_nums_last, R_nums_lnum, R_nums_kinds, R_nums_parents, R_nums_tsz, R_nums_chars, R_nums_kfrom, R_nums_ksz, R_nums_kept, R_nums_opn, R_nums_okind, R_nums_nums]
      rfl
    · rw [updL_ne (by omega)]; exact h2 y (by omega)
    · unfold bl
      by_cases hw0 : w = 0
      · rw [if_pos ⟨hk3, hw0⟩, hw0, Nat.add_zero, updL_same]
      · rw [if_neg (by omega), if_neg (by omega), updL_ne (by omega)]; exact h3 w (by omega) hw
  · rw [if_neg (by rw [show (3 : Int32) = zI 3 from rfl, zI_inj (by omega) (by omega)]; exact hk3)]
    by_cases hk6 : κ.val = 6
    · refine ⟨vp_updL b0 (N * 5 + 2) 1270000, ?_, fun y hy => ?_, fun w hw => ?_⟩
      · rw [if_pos (by rw [hk6]; rfl)]
        simp (disch := omega) only [wW_16, wW_17, wW_18, wW_20, wW_21, wW_22, wW_29, wW_30, wW_1, wW_3, wW_15, wW_a5, wW_a6, wW_a8, wW_a9, wW_a10, wW_a11, wW_a12, wW_a23, wW_a24, wW_a2, wW_n, wW_l, show (5 : Int32) = zI 5 from rfl, show (2 : Int32) = zI 2 from rfl, zI_le, zI_lt, zI_inj, zI_z, zI_lz, zI_zl, zI_neg, zI_nat, zI_add, zI_one, zI_mul, zI_ne1, zI_1n, leT, leF, ltT, ltF, eqT, eqF, if_true, if_false, Option.bind_some, false_or, or_false, true_or, or_true, true_and, and_true, false_and, and_false, not_true_eq_false, not_false_eq_true, reduceIte, wW_sn]
        rw [h57, Nat.mul_comm 2 N, Nat.mul_comm 5 N]
        simp only [R_version_version, R_version_found, R_version_fault, R_version_num, R_version_words, R_version_keeps, R_version_dnow, R_version_last, R_version_lnum, R_version_kinds, R_version_parents, R_version_tsz, R_version_chars, R_version_kfrom, R_version_ksz, R_version_kept, R_version_opn, R_version_okind, R_version_nums, R_found_version, R_found_found, R_found_fault, R_found_num, R_found_words, R_found_keeps, R_found_dnow, R_found_last, R_found_lnum, R_found_kinds, R_found_parents, R_found_tsz, R_found_chars, R_found_kfrom, R_found_ksz, R_found_kept, R_found_opn, R_found_okind, R_found_nums, R_fault_version, R_fault_found, R_fault_fault, R_fault_num, R_fault_words, R_fault_keeps, R_fault_dnow, R_fault_last, R_fault_lnum, R_fault_kinds, R_fault_parents, R_fault_tsz, R_fault_chars, R_fault_kfrom, R_fault_ksz, R_fault_kept, R_fault_opn, R_fault_okind, R_fault_nums, R_num_version, R_num_found, R_num_fault, R_num_num, R_num_words, R_num_keeps, R_num_dnow, R_num_last, R_num_lnum, R_num_kinds, R_num_parents, R_num_tsz, R_num_chars, R_num_kfrom, R_num_ksz, R_num_kept, R_num_opn, R_num_okind, R_num_nums, R_words_version, R_words_found, R_words_fault, R_words_num, R_words_words, R_words_keeps, R_words_dnow, R_words_last, R_words_lnum, R_words_kinds, R_words_parents, R_words_tsz, R_words_chars, R_words_kfrom, R_words_ksz, R_words_kept, R_words_opn, R_words_okind, R_words_nums, R_keeps_version, R_keeps_found, R_keeps_fault, R_keeps_num, R_keeps_words, R_keeps_keeps, R_keeps_dnow, R_keeps_last, R_keeps_lnum, R_keeps_kinds, R_keeps_parents, R_keeps_tsz, R_keeps_chars, R_keeps_kfrom, R_keeps_ksz, R_keeps_kept, R_keeps_opn, R_keeps_okind, R_keeps_nums, R_dnow_version, R_dnow_found, R_dnow_fault, R_dnow_num, R_dnow_words, R_dnow_keeps, R_dnow_dnow, R_dnow_last, R_dnow_lnum, R_dnow_kinds, R_dnow_parents, R_dnow_tsz, R_dnow_chars, R_dnow_kfrom, R_dnow_ksz, R_dnow_kept, R_dnow_opn, R_dnow_okind, R_dnow_nums, R_last_version, R_last_found, R_last_fault, R_last_num, R_last_words, R_last_keeps, R_last_dnow, R_last_last, R_last_lnum, R_last_kinds, R_last_parents, R_last_tsz, R_last_chars, R_last_kfrom, R_last_ksz, R_last_kept, R_last_opn, R_last_okind, R_last_nums, R_lnum_version, R_lnum_found, R_lnum_fault, R_lnum_num, R_lnum_words, R_lnum_keeps, R_lnum_dnow, R_lnum_last, R_lnum_lnum, R_lnum_kinds, R_lnum_parents, R_lnum_tsz, R_lnum_chars, R_lnum_kfrom, R_lnum_ksz, R_lnum_kept, R_lnum_opn, R_lnum_okind, R_lnum_nums, R_kinds_version, R_kinds_found, R_kinds_fault, R_kinds_num, R_kinds_words, R_kinds_keeps, R_kinds_dnow, R_kinds_last, R_kinds_lnum, R_kinds_kinds, R_kinds_parents, R_kinds_tsz, R_kinds_chars, R_kinds_kfrom, R_kinds_ksz, R_kinds_kept, R_kinds_opn, R_kinds_okind, R_kinds_nums, R_parents_version, R_parents_found, R_parents_fault, R_parents_num, R_parents_words, R_parents_keeps, R_parents_dnow, R_parents_last, R_parents_lnum, R_parents_kinds, R_parents_parents, R_parents_tsz, R_parents_chars, R_parents_kfrom, R_parents_ksz, R_parents_kept, R_parents_opn, R_parents_okind, R_parents_nums, R_tsz_version, R_tsz_found, R_tsz_fault, R_tsz_num, R_tsz_words, R_tsz_keeps, R_tsz_dnow, R_tsz_last, R_tsz_lnum, R_tsz_kinds, R_tsz_parents, R_tsz_tsz, R_tsz_chars, R_tsz_kfrom, R_tsz_ksz, R_tsz_kept, R_tsz_opn, R_tsz_okind, R_tsz_nums, R_chars_version, R_chars_found, R_chars_fault, R_chars_num, R_chars_words, R_chars_keeps, R_chars_dnow, R_chars_last, R_chars_lnum, R_chars_kinds, R_chars_parents, R_chars_tsz, R_chars_chars, R_chars_kfrom, R_chars_ksz, R_chars_kept, R_chars_opn, R_chars_okind, R_chars_nums, R_kfrom_version, R_kfrom_found, R_kfrom_fault, R_kfrom_num, R_kfrom_words, R_kfrom_keeps, R_kfrom_dnow, R_kfrom_last, R_kfrom_lnum, R_kfrom_kinds, R_kfrom_parents, R_kfrom_tsz, R_kfrom_chars, R_kfrom_kfrom, R_kfrom_ksz, R_kfrom_kept, R_kfrom_opn, R_kfrom_okind, R_kfrom_nums, R_ksz_version, R_ksz_found, R_ksz_fault, R_ksz_num, R_ksz_words, R_ksz_keeps, R_ksz_dnow, R_ksz_last, R_ksz_lnum, R_ksz_kinds, R_ksz_parents, R_ksz_tsz, R_ksz_chars, R_ksz_kfrom, R_ksz_ksz, R_ksz_kept, R_ksz_opn, R_ksz_okind, R_ksz_nums, R_kept_version, R_kept_found, R_kept_fault, R_kept_num, R_kept_words, R_kept_keeps, R_kept_dnow, R_kept_last, R_kept_lnum, R_kept_kinds, R_kept_parents, R_kept_tsz, R_kept_chars, R_kept_kfrom, R_kept_ksz, R_kept_kept, R_kept_opn, R_kept_okind, R_kept_nums, R_opn_version, R_opn_found, R_opn_fault, R_opn_num, R_opn_words, R_opn_keeps, R_opn_dnow, R_opn_last, R_opn_lnum, R_opn_kinds, R_opn_parents, R_opn_tsz, R_opn_chars, R_opn_kfrom, R_opn_ksz, R_opn_kept, R_opn_opn, R_opn_okind, R_opn_nums, R_okind_version, R_okind_found, R_okind_fault, R_okind_num, R_okind_words, R_okind_keeps, R_okind_dnow, R_okind_last, R_okind_lnum, R_okind_kinds, R_okind_parents, R_okind_tsz, R_okind_chars, R_okind_kfrom, R_okind_ksz, R_okind_kept, R_okind_opn, R_okind_okind, R_okind_nums, R_nums_version, R_nums_found, R_nums_fault, R_nums_num, R_nums_words, R_nums_keeps, R_nums_dnow, R_nums_last, R_nums_lnum, R_nums_kinds, R_nums_parents, R_nums_tsz, R_nums_chars, R_nums_kfrom, R_nums_ksz, R_nums_kept, R_nums_opn, R_nums_okind, R_nums_nums]
        rfl
      · rw [updL_ne (by omega)]; exact h2 y (by omega)
      · unfold bl
        by_cases hw2 : w = 2
        · rw [if_neg (by omega), if_pos ⟨hk6, hw2⟩, hw2, updL_same]
        · rw [if_neg (by omega), if_neg (by omega), updL_ne (by omega)]; exact h3 w (by omega) hw
    · refine ⟨b0, ?_, fun y hy => h2 y (by omega), fun w hw => ?_⟩
      · rw [if_neg (by rw [show (6 : Int32) = zI 6 from rfl, zI_inj (by omega) (by omega)]; exact hk6), h57, Nat.mul_comm 2 N]
        simp only [R_version_version, R_version_found, R_version_fault, R_version_num, R_version_words, R_version_keeps, R_version_dnow, R_version_last, R_version_lnum, R_version_kinds, R_version_parents, R_version_tsz, R_version_chars, R_version_kfrom, R_version_ksz, R_version_kept, R_version_opn, R_version_okind, R_version_nums, R_found_version, R_found_found, R_found_fault, R_found_num, R_found_words, R_found_keeps, R_found_dnow, R_found_last, R_found_lnum, R_found_kinds, R_found_parents, R_found_tsz, R_found_chars, R_found_kfrom, R_found_ksz, R_found_kept, R_found_opn, R_found_okind, R_found_nums, R_fault_version, R_fault_found, R_fault_fault, R_fault_num, R_fault_words, R_fault_keeps, R_fault_dnow, R_fault_last, R_fault_lnum, R_fault_kinds, R_fault_parents, R_fault_tsz, R_fault_chars, R_fault_kfrom, R_fault_ksz, R_fault_kept, R_fault_opn, R_fault_okind, R_fault_nums, R_num_version, R_num_found, R_num_fault, R_num_num, R_num_words, R_num_keeps, R_num_dnow, R_num_last, R_num_lnum, R_num_kinds, R_num_parents, R_num_tsz, R_num_chars, R_num_kfrom, R_num_ksz, R_num_kept, R_num_opn, R_num_okind, R_num_nums, R_words_version, R_words_found, R_words_fault, R_words_num, R_words_words, R_words_keeps, R_words_dnow, R_words_last, R_words_lnum, R_words_kinds, R_words_parents, R_words_tsz, R_words_chars, R_words_kfrom, R_words_ksz, R_words_kept, R_words_opn, R_words_okind, R_words_nums, R_keeps_version, R_keeps_found, R_keeps_fault, R_keeps_num, R_keeps_words, R_keeps_keeps, R_keeps_dnow, R_keeps_last, R_keeps_lnum, R_keeps_kinds, R_keeps_parents, R_keeps_tsz, R_keeps_chars, R_keeps_kfrom, R_keeps_ksz, R_keeps_kept, R_keeps_opn, R_keeps_okind, R_keeps_nums, R_dnow_version, R_dnow_found, R_dnow_fault, R_dnow_num, R_dnow_words, R_dnow_keeps, R_dnow_dnow, R_dnow_last, R_dnow_lnum, R_dnow_kinds, R_dnow_parents, R_dnow_tsz, R_dnow_chars, R_dnow_kfrom, R_dnow_ksz, R_dnow_kept, R_dnow_opn, R_dnow_okind, R_dnow_nums, R_last_version, R_last_found, R_last_fault, R_last_num, R_last_words, R_last_keeps, R_last_dnow, R_last_last, R_last_lnum, R_last_kinds, R_last_parents, R_last_tsz, R_last_chars, R_last_kfrom, R_last_ksz, R_last_kept, R_last_opn, R_last_okind, R_last_nums, R_lnum_version, R_lnum_found, R_lnum_fault, R_lnum_num, R_lnum_words, R_lnum_keeps, R_lnum_dnow, R_lnum_last, R_lnum_lnum, R_lnum_kinds, R_lnum_parents, R_lnum_tsz, R_lnum_chars, R_lnum_kfrom, R_lnum_ksz, R_lnum_kept, R_lnum_opn, R_lnum_okind, R_lnum_nums, R_kinds_version, R_kinds_found, R_kinds_fault, R_kinds_num, R_kinds_words, R_kinds_keeps, R_kinds_dnow, R_kinds_last, R_kinds_lnum, R_kinds_kinds, R_kinds_parents, R_kinds_tsz, R_kinds_chars, R_kinds_kfrom, R_kinds_ksz, R_kinds_kept, R_kinds_opn, R_kinds_okind, R_kinds_nums, R_parents_version, R_parents_found, R_parents_fault, R_parents_num, R_parents_words, R_parents_keeps, R_parents_dnow, R_parents_last, R_parents_lnum, R_parents_kinds, R_parents_parents, R_parents_tsz, R_parents_chars, R_parents_kfrom, R_parents_ksz, R_parents_kept, R_parents_opn, R_parents_okind, R_parents_nums, R_tsz_version, R_tsz_found, R_tsz_fault, R_tsz_num, R_tsz_words, R_tsz_keeps, R_tsz_dnow, R_tsz_last, R_tsz_lnum, R_tsz_kinds, R_tsz_parents, R_tsz_tsz, R_tsz_chars, R_tsz_kfrom, R_tsz_ksz, R_tsz_kept, R_tsz_opn, R_tsz_okind, R_tsz_nums, R_chars_version, R_chars_found, R_chars_fault, R_chars_num, R_chars_words, R_chars_keeps, R_chars_dnow, R_chars_last, R_chars_lnum, R_chars_kinds, R_chars_parents, R_chars_tsz, R_chars_chars, R_chars_kfrom, R_chars_ksz, R_chars_kept, R_chars_opn, R_chars_okind, R_chars_nums, R_kfrom_version, R_kfrom_found, R_kfrom_fault, R_kfrom_num, R_kfrom_words, R_kfrom_keeps, R_kfrom_dnow, R_kfrom_last, R_kfrom_lnum, R_kfrom_kinds, R_kfrom_parents, R_kfrom_tsz, R_kfrom_chars, R_kfrom_kfrom, R_kfrom_ksz, R_kfrom_kept, R_kfrom_opn, R_kfrom_okind, R_kfrom_nums, R_ksz_version, R_ksz_found, R_ksz_fault, R_ksz_num, R_ksz_words, R_ksz_keeps, R_ksz_dnow, R_ksz_last, R_ksz_lnum, R_ksz_kinds, R_ksz_parents, R_ksz_tsz, R_ksz_chars, R_ksz_kfrom, R_ksz_ksz, R_ksz_kept, R_ksz_opn, R_ksz_okind, R_ksz_nums, R_kept_version, R_kept_found, R_kept_fault, R_kept_num, R_kept_words, R_kept_keeps, R_kept_dnow, R_kept_last, R_kept_lnum, R_kept_kinds, R_kept_parents, R_kept_tsz, R_kept_chars, R_kept_kfrom, R_kept_ksz, R_kept_kept, R_kept_opn, R_kept_okind, R_kept_nums, R_opn_version, R_opn_found, R_opn_fault, R_opn_num, R_opn_words, R_opn_keeps, R_opn_dnow, R_opn_last, R_opn_lnum, R_opn_kinds, R_opn_parents, R_opn_tsz, R_opn_chars, R_opn_kfrom, R_opn_ksz, R_opn_kept, R_opn_opn, R_opn_okind, R_opn_nums, R_okind_version, R_okind_found, R_okind_fault, R_okind_num, R_okind_words, R_okind_keeps, R_okind_dnow, R_okind_last, R_okind_lnum, R_okind_kinds, R_okind_parents, R_okind_tsz, R_okind_chars, R_okind_kfrom, R_okind_ksz, R_okind_kept, R_okind_opn, R_okind_okind, R_okind_nums, R_nums_version, R_nums_found, R_nums_fault, R_nums_num, R_nums_words, R_nums_keeps, R_nums_dnow, R_nums_last, R_nums_lnum, R_nums_kinds, R_nums_parents, R_nums_tsz, R_nums_chars, R_nums_kfrom, R_nums_ksz, R_nums_kept, R_nums_opn, R_nums_okind, R_nums_nums]
        rfl
      · unfold bl
        rw [if_neg (by omega), if_neg (by omega)]; exact h3 w (by omega) hw
end UNT
