/-! an object made by a call -/
section OBJ
variable {uX uS uT uV uP u bT : Md} {s : Tst} {r : Rst}
set_option maxRecDepth 100000 in
set_option maxHeartbeats 4000000 in
/-- the reference makes it -/
theorem q_103 (hSR : SR 1 s r) (hN : s.count < 200) (h4 : gi u 4 = zI s.count) (κ : Fin 10) (hκ9 : κ ≠ 9) (par : Option Nat) {g : Nat → Int64} (hg1 : ∀ x, (x < s.count * 5 ∨ s.count * 5 + 5 ≤ x) → g x = s.nums x) (hg2 : ∀ w, w < cntK κ false → g (s.count * 5 + w) = bl κ w) : ∃ r', f9_object_103 (wW u r) (enc par) (zI κ.val) 1 = some (zI s.count, wW (si (si u 4 (zI (s.count + 1))) 27 1) r') ∧ SR 1 (grf s par κ g) r' := by
  obtain ⟨b, h1, h2, h3⟩ := q_blankN (u := u) (r := r) κ hN
  refine ⟨(((((r.s_nums (b)).s_tsz (upd (upd r.tsz (s.count * 2) 0) (s.count * 2 + 1) 0)).s_kinds (upd r.kinds s.count (zI κ.val))).s_ksz (upd r.ksz s.count 0)).s_parents (upd r.parents s.count (enc par))), ?_, ?_⟩
  · unfold f9_object_103
    rw [if_neg (by decide), wW_4, h4, if_neg (by rw [show (200 : Int32) = zI 200 from rfl, zI_inj (by omega) (by omega)]; omega), h1]
    simp only [Option.bind_some]
    rw [wW_4, h4]
    simp (disch := omega) only [zI_le, zI_lt, zI_inj, zI_z, zI_lz, zI_zl, zI_neg, zI_nat, zI_add, zI_one, zI_mul, zI_ne1, zI_1n, leT, leF, ltT, ltF, eqT, eqF, if_true, if_false, Option.bind_some, false_or, or_false, true_or, or_true, true_and, and_true, false_and, and_false, not_true_eq_false, not_false_eq_true, reduceIte, wW_a6, wW_sa6, wW_b4, wW_b27, R_version_version, R_version_found, R_version_fault, R_version_num, R_version_words, R_version_keeps, R_version_dnow, R_version_last, R_version_lnum, R_version_kinds, R_version_parents, R_version_tsz, R_version_chars, R_version_kfrom, R_version_ksz, R_version_kept, R_version_opn, R_version_okind, R_version_nums, R_found_version, R_found_found, R_found_fault, R_found_num, R_found_words, R_found_keeps, R_found_dnow, R_found_last, R_found_lnum, R_found_kinds, R_found_parents, R_found_tsz, R_found_chars, R_found_kfrom, R_found_ksz, R_found_kept, R_found_opn, R_found_okind, R_found_nums, R_fault_version, R_fault_found, R_fault_fault, R_fault_num, R_fault_words, R_fault_keeps, R_fault_dnow, R_fault_last, R_fault_lnum, R_fault_kinds, R_fault_parents, R_fault_tsz, R_fault_chars, R_fault_kfrom, R_fault_ksz, R_fault_kept, R_fault_opn, R_fault_okind, R_fault_nums, R_num_version, R_num_found, R_num_fault, R_num_num, R_num_words, R_num_keeps, R_num_dnow, R_num_last, R_num_lnum, R_num_kinds, R_num_parents, R_num_tsz, R_num_chars, R_num_kfrom, R_num_ksz, R_num_kept, R_num_opn, R_num_okind, R_num_nums, R_words_version, R_words_found, R_words_fault, R_words_num, R_words_words, R_words_keeps, R_words_dnow, R_words_last, R_words_lnum, R_words_kinds, R_words_parents, R_words_tsz, R_words_chars, R_words_kfrom, R_words_ksz, R_words_kept, R_words_opn, R_words_okind, R_words_nums, R_keeps_version, R_keeps_found, R_keeps_fault, R_keeps_num, R_keeps_words, R_keeps_keeps, R_keeps_dnow, R_keeps_last, R_keeps_lnum, R_keeps_kinds, R_keeps_parents, R_keeps_tsz, R_keeps_chars, R_keeps_kfrom, R_keeps_ksz, R_keeps_kept, R_keeps_opn, R_keeps_okind, R_keeps_nums, R_dnow_version, R_dnow_found, R_dnow_fault, R_dnow_num, R_dnow_words, R_dnow_keeps, R_dnow_dnow, R_dnow_last, R_dnow_lnum, R_dnow_kinds, R_dnow_parents, R_dnow_tsz, R_dnow_chars, R_dnow_kfrom, R_dnow_ksz, R_dnow_kept, R_dnow_opn, R_dnow_okind, R_dnow_nums, R_last_version, R_last_found, R_last_fault, R_last_num, R_last_words, R_last_keeps, R_last_dnow, R_last_last, R_last_lnum, R_last_kinds, R_last_parents, R_last_tsz, R_last_chars, R_last_kfrom, R_last_ksz, R_last_kept, R_last_opn, R_last_okind, R_last_nums, R_lnum_version, R_lnum_found, R_lnum_fault, R_lnum_num, R_lnum_words, R_lnum_keeps, R_lnum_dnow, R_lnum_last, R_lnum_lnum, R_lnum_kinds, R_lnum_parents, R_lnum_tsz, R_lnum_chars, R_lnum_kfrom, R_lnum_ksz, R_lnum_kept, R_lnum_opn, R_lnum_okind, R_lnum_nums, R_kinds_version, R_kinds_found, R_kinds_fault, R_kinds_num, R_kinds_words, R_kinds_keeps, R_kinds_dnow, R_kinds_last, R_kinds_lnum, R_kinds_kinds, R_kinds_parents, R_kinds_tsz, R_kinds_chars, R_kinds_kfrom, R_kinds_ksz, R_kinds_kept, R_kinds_opn, R_kinds_okind, R_kinds_nums, R_parents_version, R_parents_found, R_parents_fault, R_parents_num, R_parents_words, R_parents_keeps, R_parents_dnow, R_parents_last, R_parents_lnum, R_parents_kinds, R_parents_parents, R_parents_tsz, R_parents_chars, R_parents_kfrom, R_parents_ksz, R_parents_kept, R_parents_opn, R_parents_okind, R_parents_nums, R_tsz_version, R_tsz_found, R_tsz_fault, R_tsz_num, R_tsz_words, R_tsz_keeps, R_tsz_dnow, R_tsz_last, R_tsz_lnum, R_tsz_kinds, R_tsz_parents, R_tsz_tsz, R_tsz_chars, R_tsz_kfrom, R_tsz_ksz, R_tsz_kept, R_tsz_opn, R_tsz_okind, R_tsz_nums, R_chars_version, R_chars_found, R_chars_fault, R_chars_num, R_chars_words, R_chars_keeps, R_chars_dnow, R_chars_last, R_chars_lnum, R_chars_kinds, R_chars_parents, R_chars_tsz, R_chars_chars, R_chars_kfrom, R_chars_ksz, R_chars_kept, R_chars_opn, R_chars_okind, R_chars_nums, R_kfrom_version, R_kfrom_found, R_kfrom_fault, R_kfrom_num, R_kfrom_words, R_kfrom_keeps, R_kfrom_dnow, R_kfrom_last, R_kfrom_lnum, R_kfrom_kinds, R_kfrom_parents, R_kfrom_tsz, R_kfrom_chars, R_kfrom_kfrom, R_kfrom_ksz, R_kfrom_kept, R_kfrom_opn, R_kfrom_okind, R_kfrom_nums, R_ksz_version, R_ksz_found, R_ksz_fault, R_ksz_num, R_ksz_words, R_ksz_keeps, R_ksz_dnow, R_ksz_last, R_ksz_lnum, R_ksz_kinds, R_ksz_parents, R_ksz_tsz, R_ksz_chars, R_ksz_kfrom, R_ksz_ksz, R_ksz_kept, R_ksz_opn, R_ksz_okind, R_ksz_nums, R_kept_version, R_kept_found, R_kept_fault, R_kept_num, R_kept_words, R_kept_keeps, R_kept_dnow, R_kept_last, R_kept_lnum, R_kept_kinds, R_kept_parents, R_kept_tsz, R_kept_chars, R_kept_kfrom, R_kept_ksz, R_kept_kept, R_kept_opn, R_kept_okind, R_kept_nums, R_opn_version, R_opn_found, R_opn_fault, R_opn_num, R_opn_words, R_opn_keeps, R_opn_dnow, R_opn_last, R_opn_lnum, R_opn_kinds, R_opn_parents, R_opn_tsz, R_opn_chars, R_opn_kfrom, R_opn_ksz, R_opn_kept, R_opn_opn, R_opn_okind, R_opn_nums, R_okind_version, R_okind_found, R_okind_fault, R_okind_num, R_okind_words, R_okind_keeps, R_okind_dnow, R_okind_last, R_okind_lnum, R_okind_kinds, R_okind_parents, R_okind_tsz, R_okind_chars, R_okind_kfrom, R_okind_ksz, R_okind_kept, R_okind_opn, R_okind_okind, R_okind_nums, R_nums_version, R_nums_found, R_nums_fault, R_nums_num, R_nums_words, R_nums_keeps, R_nums_dnow, R_nums_last, R_nums_lnum, R_nums_kinds, R_nums_parents, R_nums_tsz, R_nums_chars, R_nums_kfrom, R_nums_ksz, R_nums_kept, R_nums_opn, R_nums_okind, R_nums_nums]
    rw [show (1 : Int32) = zI 1 from rfl, zI_sub (by omega) (by omega), Nat.add_sub_cancel]
  · have hT := TR_of hSR
    have hTR0 : TR s (r.s_found (s.count)) := by
      unfold TR at hT ⊢
      simp only [R_version_version, R_version_found, R_version_fault, R_version_num, R_version_words, R_version_keeps, R_version_dnow, R_version_last, R_version_lnum, R_version_kinds, R_version_parents, R_version_tsz, R_version_chars, R_version_kfrom, R_version_ksz, R_version_kept, R_version_opn, R_version_okind, R_version_nums, R_found_version, R_found_found, R_found_fault, R_found_num, R_found_words, R_found_keeps, R_found_dnow, R_found_last, R_found_lnum, R_found_kinds, R_found_parents, R_found_tsz, R_found_chars, R_found_kfrom, R_found_ksz, R_found_kept, R_found_opn, R_found_okind, R_found_nums, R_fault_version, R_fault_found, R_fault_fault, R_fault_num, R_fault_words, R_fault_keeps, R_fault_dnow, R_fault_last, R_fault_lnum, R_fault_kinds, R_fault_parents, R_fault_tsz, R_fault_chars, R_fault_kfrom, R_fault_ksz, R_fault_kept, R_fault_opn, R_fault_okind, R_fault_nums, R_num_version, R_num_found, R_num_fault, R_num_num, R_num_words, R_num_keeps, R_num_dnow, R_num_last, R_num_lnum, R_num_kinds, R_num_parents, R_num_tsz, R_num_chars, R_num_kfrom, R_num_ksz, R_num_kept, R_num_opn, R_num_okind, R_num_nums, R_words_version, R_words_found, R_words_fault, R_words_num, R_words_words, R_words_keeps, R_words_dnow, R_words_last, R_words_lnum, R_words_kinds, R_words_parents, R_words_tsz, R_words_chars, R_words_kfrom, R_words_ksz, R_words_kept, R_words_opn, R_words_okind, R_words_nums, R_keeps_version, R_keeps_found, R_keeps_fault, R_keeps_num, R_keeps_words, R_keeps_keeps, R_keeps_dnow, R_keeps_last, R_keeps_lnum, R_keeps_kinds, R_keeps_parents, R_keeps_tsz, R_keeps_chars, R_keeps_kfrom, R_keeps_ksz, R_keeps_kept, R_keeps_opn, R_keeps_okind, R_keeps_nums, R_dnow_version, R_dnow_found, R_dnow_fault, R_dnow_num, R_dnow_words, R_dnow_keeps, R_dnow_dnow, R_dnow_last, R_dnow_lnum, R_dnow_kinds, R_dnow_parents, R_dnow_tsz, R_dnow_chars, R_dnow_kfrom, R_dnow_ksz, R_dnow_kept, R_dnow_opn, R_dnow_okind, R_dnow_nums, R_last_version, R_last_found, R_last_fault, R_last_num, R_last_words, R_last_keeps, R_last_dnow, R_last_last, R_last_lnum, R_last_kinds, R_last_parents, R_last_tsz, R_last_chars, R_last_kfrom, R_last_ksz, R_last_kept, R_last_opn, R_last_okind, R_last_nums, R_lnum_version, R_lnum_found, R_lnum_fault, R_lnum_num, R_lnum_words, R_lnum_keeps, R_lnum_dnow, R_lnum_last, R_lnum_lnum, R_lnum_kinds, R_lnum_parents, R_lnum_tsz, R_lnum_chars, R_lnum_kfrom, R_lnum_ksz, R_lnum_kept, R_lnum_opn, R_lnum_okind, R_lnum_nums, R_kinds_version, R_kinds_found, R_kinds_fault, R_kinds_num, R_kinds_words, R_kinds_keeps, R_kinds_dnow, R_kinds_last, R_kinds_lnum, R_kinds_kinds, R_kinds_parents, R_kinds_tsz, R_kinds_chars, R_kinds_kfrom, R_kinds_ksz, R_kinds_kept, R_kinds_opn, R_kinds_okind, R_kinds_nums, R_parents_version, R_parents_found, R_parents_fault, R_parents_num, R_parents_words, R_parents_keeps, R_parents_dnow, R_parents_last, R_parents_lnum, R_parents_kinds, R_parents_parents, R_parents_tsz, R_parents_chars, R_parents_kfrom, R_parents_ksz, R_parents_kept, R_parents_opn, R_parents_okind, R_parents_nums, R_tsz_version, R_tsz_found, R_tsz_fault, R_tsz_num, R_tsz_words, R_tsz_keeps, R_tsz_dnow, R_tsz_last, R_tsz_lnum, R_tsz_kinds, R_tsz_parents, R_tsz_tsz, R_tsz_chars, R_tsz_kfrom, R_tsz_ksz, R_tsz_kept, R_tsz_opn, R_tsz_okind, R_tsz_nums, R_chars_version, R_chars_found, R_chars_fault, R_chars_num, R_chars_words, R_chars_keeps, R_chars_dnow, R_chars_last, R_chars_lnum, R_chars_kinds, R_chars_parents, R_chars_tsz, R_chars_chars, R_chars_kfrom, R_chars_ksz, R_chars_kept, R_chars_opn, R_chars_okind, R_chars_nums, R_kfrom_version, R_kfrom_found, R_kfrom_fault, R_kfrom_num, R_kfrom_words, R_kfrom_keeps, R_kfrom_dnow, R_kfrom_last, R_kfrom_lnum, R_kfrom_kinds, R_kfrom_parents, R_kfrom_tsz, R_kfrom_chars, R_kfrom_kfrom, R_kfrom_ksz, R_kfrom_kept, R_kfrom_opn, R_kfrom_okind, R_kfrom_nums, R_ksz_version, R_ksz_found, R_ksz_fault, R_ksz_num, R_ksz_words, R_ksz_keeps, R_ksz_dnow, R_ksz_last, R_ksz_lnum, R_ksz_kinds, R_ksz_parents, R_ksz_tsz, R_ksz_chars, R_ksz_kfrom, R_ksz_ksz, R_ksz_kept, R_ksz_opn, R_ksz_okind, R_ksz_nums, R_kept_version, R_kept_found, R_kept_fault, R_kept_num, R_kept_words, R_kept_keeps, R_kept_dnow, R_kept_last, R_kept_lnum, R_kept_kinds, R_kept_parents, R_kept_tsz, R_kept_chars, R_kept_kfrom, R_kept_ksz, R_kept_kept, R_kept_opn, R_kept_okind, R_kept_nums, R_opn_version, R_opn_found, R_opn_fault, R_opn_num, R_opn_words, R_opn_keeps, R_opn_dnow, R_opn_last, R_opn_lnum, R_opn_kinds, R_opn_parents, R_opn_tsz, R_opn_chars, R_opn_kfrom, R_opn_ksz, R_opn_kept, R_opn_opn, R_opn_okind, R_opn_nums, R_okind_version, R_okind_found, R_okind_fault, R_okind_num, R_okind_words, R_okind_keeps, R_okind_dnow, R_okind_last, R_okind_lnum, R_okind_kinds, R_okind_parents, R_okind_tsz, R_okind_chars, R_okind_kfrom, R_okind_ksz, R_okind_kept, R_okind_opn, R_okind_okind, R_okind_nums, R_nums_version, R_nums_found, R_nums_fault, R_nums_num, R_nums_words, R_nums_keeps, R_nums_dnow, R_nums_last, R_nums_lnum, R_nums_kinds, R_nums_parents, R_nums_tsz, R_nums_chars, R_nums_kfrom, R_nums_ksz, R_nums_kept, R_nums_opn, R_nums_okind, R_nums_nums]; exact hT
    have hf0 : ((r.s_found (s.count)) : Rst).found = s.count := by simp only [R_version_version, R_version_found, R_version_fault, R_version_num, R_version_words, R_version_keeps, R_version_dnow, R_version_last, R_version_lnum, R_version_kinds, R_version_parents, R_version_tsz, R_version_chars, R_version_kfrom, R_version_ksz, R_version_kept, R_version_opn, R_version_okind, R_version_nums, R_found_version, R_found_found, R_found_fault, R_found_num, R_found_words, R_found_keeps, R_found_dnow, R_found_last, R_found_lnum, R_found_kinds, R_found_parents, R_found_tsz, R_found_chars, R_found_kfrom, R_found_ksz, R_found_kept, R_found_opn, R_found_okind, R_found_nums, R_fault_version, R_fault_found, R_fault_fault, R_fault_num, R_fault_words, R_fault_keeps, R_fault_dnow, R_fault_last, R_fault_lnum, R_fault_kinds, R_fault_parents, R_fault_tsz, R_fault_chars, R_fault_kfrom, R_fault_ksz, R_fault_kept, R_fault_opn, R_fault_okind, R_fault_nums, R_num_version, R_num_found, R_num_fault, R_num_num, R_num_words, R_num_keeps, R_num_dnow, R_num_last, R_num_lnum, R_num_kinds, R_num_parents, R_num_tsz, R_num_chars, R_num_kfrom, R_num_ksz, R_num_kept, R_num_opn, R_num_okind, R_num_nums, R_words_version, R_words_found, R_words_fault, R_words_num, R_words_words, R_words_keeps, R_words_dnow, R_words_last, R_words_lnum, R_words_kinds, R_words_parents, R_words_tsz, R_words_chars, R_words_kfrom, R_words_ksz, R_words_kept, R_words_opn, R_words_okind, R_words_nums, R_keeps_version, R_keeps_found, R_keeps_fault, R_keeps_num, R_keeps_words, R_keeps_keeps, R_keeps_dnow, R_keeps_last, R_keeps_lnum, R_keeps_kinds, R_keeps_parents, R_keeps_tsz, R_keeps_chars, R_keeps_kfrom, R_keeps_ksz, R_keeps_kept, R_keeps_opn, R_keeps_okind, R_keeps_nums, R_dnow_version, R_dnow_found, R_dnow_fault, R_dnow_num, R_dnow_words, R_dnow_keeps, R_dnow_dnow, R_dnow_last, R_dnow_lnum, R_dnow_kinds, R_dnow_parents, R_dnow_tsz, R_dnow_chars, R_dnow_kfrom, R_dnow_ksz, R_dnow_kept, R_dnow_opn, R_dnow_okind, R_dnow_nums, R_last_version, R_last_found, R_last_fault, R_last_num, R_last_words, R_last_keeps, R_last_dnow, R_last_last, R_last_lnum, R_last_kinds, R_last_parents, R_last_tsz, R_last_chars, R_last_kfrom, R_last_ksz, R_last_kept, R_last_opn, R_last_okind, R_last_nums, R_lnum_version, R_lnum_found, R_lnum_fault, R_lnum_num, R_lnum_words, R_lnum_keeps, R_lnum_dnow, R_lnum_last, R_lnum_lnum, R_lnum_kinds, R_lnum_parents, R_lnum_tsz, R_lnum_chars, R_lnum_kfrom, R_lnum_ksz, R_lnum_kept, R_lnum_opn, R_lnum_okind, R_lnum_nums, R_kinds_version, R_kinds_found, R_kinds_fault, R_kinds_num, R_kinds_words, R_kinds_keeps, R_kinds_dnow, R_kinds_last, R_kinds_lnum, R_kinds_kinds, R_kinds_parents, R_kinds_tsz, R_kinds_chars, R_kinds_kfrom, R_kinds_ksz, R_kinds_kept, R_kinds_opn, R_kinds_okind, R_kinds_nums, R_parents_version, R_parents_found, R_parents_fault, R_parents_num, R_parents_words, R_parents_keeps, R_parents_dnow, R_parents_last, R_parents_lnum, R_parents_kinds, R_parents_parents, R_parents_tsz, R_parents_chars, R_parents_kfrom, R_parents_ksz, R_parents_kept, R_parents_opn, R_parents_okind, R_parents_nums, R_tsz_version, R_tsz_found, R_tsz_fault, R_tsz_num, R_tsz_words, R_tsz_keeps, R_tsz_dnow, R_tsz_last, R_tsz_lnum, R_tsz_kinds, R_tsz_parents, R_tsz_tsz, R_tsz_chars, R_tsz_kfrom, R_tsz_ksz, R_tsz_kept, R_tsz_opn, R_tsz_okind, R_tsz_nums, R_chars_version, R_chars_found, R_chars_fault, R_chars_num, R_chars_words, R_chars_keeps, R_chars_dnow, R_chars_last, R_chars_lnum, R_chars_kinds, R_chars_parents, R_chars_tsz, R_chars_chars, R_chars_kfrom, R_chars_ksz, R_chars_kept, R_chars_opn, R_chars_okind, R_chars_nums, R_kfrom_version, R_kfrom_found, R_kfrom_fault, R_kfrom_num, R_kfrom_words, R_kfrom_keeps, R_kfrom_dnow, R_kfrom_last, R_kfrom_lnum, R_kfrom_kinds, R_kfrom_parents, R_kfrom_tsz, R_kfrom_chars, R_kfrom_kfrom, R_kfrom_ksz, R_kfrom_kept, R_kfrom_opn, R_kfrom_okind, R_kfrom_nums, R_ksz_version, R_ksz_found, R_ksz_fault, R_ksz_num, R_ksz_words, R_ksz_keeps, R_ksz_dnow, R_ksz_last, R_ksz_lnum, R_ksz_kinds, R_ksz_parents, R_ksz_tsz, R_ksz_chars, R_ksz_kfrom, R_ksz_ksz, R_ksz_kept, R_ksz_opn, R_ksz_okind, R_ksz_nums, R_kept_version, R_kept_found, R_kept_fault, R_kept_num, R_kept_words, R_kept_keeps, R_kept_dnow, R_kept_last, R_kept_lnum, R_kept_kinds, R_kept_parents, R_kept_tsz, R_kept_chars, R_kept_kfrom, R_kept_ksz, R_kept_kept, R_kept_opn, R_kept_okind, R_kept_nums, R_opn_version, R_opn_found, R_opn_fault, R_opn_num, R_opn_words, R_opn_keeps, R_opn_dnow, R_opn_last, R_opn_lnum, R_opn_kinds, R_opn_parents, R_opn_tsz, R_opn_chars, R_opn_kfrom, R_opn_ksz, R_opn_kept, R_opn_opn, R_opn_okind, R_opn_nums, R_okind_version, R_okind_found, R_okind_fault, R_okind_num, R_okind_words, R_okind_keeps, R_okind_dnow, R_okind_last, R_okind_lnum, R_okind_kinds, R_okind_parents, R_okind_tsz, R_okind_chars, R_okind_kfrom, R_okind_ksz, R_okind_kept, R_okind_opn, R_okind_okind, R_okind_nums, R_nums_version, R_nums_found, R_nums_fault, R_nums_num, R_nums_words, R_nums_keeps, R_nums_dnow, R_nums_last, R_nums_lnum, R_nums_kinds, R_nums_parents, R_nums_tsz, R_nums_chars, R_nums_kfrom, R_nums_ksz, R_nums_kept, R_nums_opn, R_nums_okind, R_nums_nums]
    have hb1 : ∀ x, (x < s.count * 5 ∨ s.count * 5 + 5 ≤ x) → b x = ((r.s_found (s.count)) : Rst).nums x := by
      intro x hx
      simp only [R_version_version, R_version_found, R_version_fault, R_version_num, R_version_words, R_version_keeps, R_version_dnow, R_version_last, R_version_lnum, R_version_kinds, R_version_parents, R_version_tsz, R_version_chars, R_version_kfrom, R_version_ksz, R_version_kept, R_version_opn, R_version_okind, R_version_nums, R_found_version, R_found_found, R_found_fault, R_found_num, R_found_words, R_found_keeps, R_found_dnow, R_found_last, R_found_lnum, R_found_kinds, R_found_parents, R_found_tsz, R_found_chars, R_found_kfrom, R_found_ksz, R_found_kept, R_found_opn, R_found_okind, R_found_nums, R_fault_version, R_fault_found, R_fault_fault, R_fault_num, R_fault_words, R_fault_keeps, R_fault_dnow, R_fault_last, R_fault_lnum, R_fault_kinds, R_fault_parents, R_fault_tsz, R_fault_chars, R_fault_kfrom, R_fault_ksz, R_fault_kept, R_fault_opn, R_fault_okind, R_fault_nums, R_num_version, R_num_found, R_num_fault, R_num_num, R_num_words, R_num_keeps, R_num_dnow, R_num_last, R_num_lnum, R_num_kinds, R_num_parents, R_num_tsz, R_num_chars, R_num_kfrom, R_num_ksz, R_num_kept, R_num_opn, R_num_okind, R_num_nums, R_words_version, R_words_found, R_words_fault, R_words_num, R_words_words, R_words_keeps, R_words_dnow, R_words_last, R_words_lnum, R_words_kinds, R_words_parents, R_words_tsz, R_words_chars, R_words_kfrom, R_words_ksz, R_words_kept, R_words_opn, R_words_okind, R_words_nums, R_keeps_version, R_keeps_found, R_keeps_fault, R_keeps_num, R_keeps_words, R_keeps_keeps, R_keeps_dnow, R_keeps_last, R_keeps_lnum, R_keeps_kinds, R_keeps_parents, R_keeps_tsz, R_keeps_chars, R_keeps_kfrom, R_keeps_ksz, R_keeps_kept, R_keeps_opn, R_keeps_okind, R_keeps_nums, R_dnow_version, R_dnow_found, R_dnow_fault, R_dnow_num, R_dnow_words, R_dnow_keeps, R_dnow_dnow, R_dnow_last, R_dnow_lnum, R_dnow_kinds, R_dnow_parents, R_dnow_tsz, R_dnow_chars, R_dnow_kfrom, R_dnow_ksz, R_dnow_kept, R_dnow_opn, R_dnow_okind, R_dnow_nums, R_last_version, R_last_found, R_last_fault, R_last_num, R_last_words, R_last_keeps, R_last_dnow, R_last_last, R_last_lnum, R_last_kinds, R_last_parents, R_last_tsz, R_last_chars, R_last_kfrom, R_last_ksz, R_last_kept, R_last_opn, R_last_okind, R_last_nums, R_lnum_version, R_lnum_found, R_lnum_fault, R_lnum_num, R_lnum_words, R_lnum_keeps, R_lnum_dnow, R_lnum_last, R_lnum_lnum, R_lnum_kinds, R_lnum_parents, R_lnum_tsz, R_lnum_chars, R_lnum_kfrom, R_lnum_ksz, R_lnum_kept, R_lnum_opn, R_lnum_okind, R_lnum_nums, R_kinds_version, R_kinds_found, R_kinds_fault, R_kinds_num, R_kinds_words, R_kinds_keeps, R_kinds_dnow, R_kinds_last, R_kinds_lnum, R_kinds_kinds, R_kinds_parents, R_kinds_tsz, R_kinds_chars, R_kinds_kfrom, R_kinds_ksz, R_kinds_kept, R_kinds_opn, R_kinds_okind, R_kinds_nums, R_parents_version, R_parents_found, R_parents_fault, R_parents_num, R_parents_words, R_parents_keeps, R_parents_dnow, R_parents_last, R_parents_lnum, R_parents_kinds, R_parents_parents, R_parents_tsz, R_parents_chars, R_parents_kfrom, R_parents_ksz, R_parents_kept, R_parents_opn, R_parents_okind, R_parents_nums, R_tsz_version, R_tsz_found, R_tsz_fault, R_tsz_num, R_tsz_words, R_tsz_keeps, R_tsz_dnow, R_tsz_last, R_tsz_lnum, R_tsz_kinds, R_tsz_parents, R_tsz_tsz, R_tsz_chars, R_tsz_kfrom, R_tsz_ksz, R_tsz_kept, R_tsz_opn, R_tsz_okind, R_tsz_nums, R_chars_version, R_chars_found, R_chars_fault, R_chars_num, R_chars_words, R_chars_keeps, R_chars_dnow, R_chars_last, R_chars_lnum, R_chars_kinds, R_chars_parents, R_chars_tsz, R_chars_chars, R_chars_kfrom, R_chars_ksz, R_chars_kept, R_chars_opn, R_chars_okind, R_chars_nums, R_kfrom_version, R_kfrom_found, R_kfrom_fault, R_kfrom_num, R_kfrom_words, R_kfrom_keeps, R_kfrom_dnow, R_kfrom_last, R_kfrom_lnum, R_kfrom_kinds, R_kfrom_parents, R_kfrom_tsz, R_kfrom_chars, R_kfrom_kfrom, R_kfrom_ksz, R_kfrom_kept, R_kfrom_opn, R_kfrom_okind, R_kfrom_nums, R_ksz_version, R_ksz_found, R_ksz_fault, R_ksz_num, R_ksz_words, R_ksz_keeps, R_ksz_dnow, R_ksz_last, R_ksz_lnum, R_ksz_kinds, R_ksz_parents, R_ksz_tsz, R_ksz_chars, R_ksz_kfrom, R_ksz_ksz, R_ksz_kept, R_ksz_opn, R_ksz_okind, R_ksz_nums, R_kept_version, R_kept_found, R_kept_fault, R_kept_num, R_kept_words, R_kept_keeps, R_kept_dnow, R_kept_last, R_kept_lnum, R_kept_kinds, R_kept_parents, R_kept_tsz, R_kept_chars, R_kept_kfrom, R_kept_ksz, R_kept_kept, R_kept_opn, R_kept_okind, R_kept_nums, R_opn_version, R_opn_found, R_opn_fault, R_opn_num, R_opn_words, R_opn_keeps, R_opn_dnow, R_opn_last, R_opn_lnum, R_opn_kinds, R_opn_parents, R_opn_tsz, R_opn_chars, R_opn_kfrom, R_opn_ksz, R_opn_kept, R_opn_opn, R_opn_okind, R_opn_nums, R_okind_version, R_okind_found, R_okind_fault, R_okind_num, R_okind_words, R_okind_keeps, R_okind_dnow, R_okind_last, R_okind_lnum, R_okind_kinds, R_okind_parents, R_okind_tsz, R_okind_chars, R_okind_kfrom, R_okind_ksz, R_okind_kept, R_okind_opn, R_okind_okind, R_okind_nums, R_nums_version, R_nums_found, R_nums_fault, R_nums_num, R_nums_words, R_nums_keeps, R_nums_dnow, R_nums_last, R_nums_lnum, R_nums_kinds, R_nums_parents, R_nums_tsz, R_nums_chars, R_nums_kfrom, R_nums_ksz, R_nums_kept, R_nums_opn, R_nums_okind, R_nums_nums]; exact h2 x hx
    have hg := TR_grow (m := 1) (par := par) (κ := κ) (g := g) (b := b) hTR0 hf0 (by decide) hg1 hg2 hb1 h3 hκ9
    refine ⟨TX_grow hSR.1, TN_grow hSR.2.1 hg1 hg2, fun hm => ?_⟩
    unfold TR at hg ⊢
    rw [beg_kinds1 (by decide), beg_parents1 (by decide), beg_ksz1 (by decide), beg_kfrom, beg_tsz1 (by decide), beg_chars, beg_nums1 (by decide), beg_kept] at hg
    simp only [R_version_version, R_version_found, R_version_fault, R_version_num, R_version_words, R_version_keeps, R_version_dnow, R_version_last, R_version_lnum, R_version_kinds, R_version_parents, R_version_tsz, R_version_chars, R_version_kfrom, R_version_ksz, R_version_kept, R_version_opn, R_version_okind, R_version_nums, R_found_version, R_found_found, R_found_fault, R_found_num, R_found_words, R_found_keeps, R_found_dnow, R_found_last, R_found_lnum, R_found_kinds, R_found_parents, R_found_tsz, R_found_chars, R_found_kfrom, R_found_ksz, R_found_kept, R_found_opn, R_found_okind, R_found_nums, R_fault_version, R_fault_found, R_fault_fault, R_fault_num, R_fault_words, R_fault_keeps, R_fault_dnow, R_fault_last, R_fault_lnum, R_fault_kinds, R_fault_parents, R_fault_tsz, R_fault_chars, R_fault_kfrom, R_fault_ksz, R_fault_kept, R_fault_opn, R_fault_okind, R_fault_nums, R_num_version, R_num_found, R_num_fault, R_num_num, R_num_words, R_num_keeps, R_num_dnow, R_num_last, R_num_lnum, R_num_kinds, R_num_parents, R_num_tsz, R_num_chars, R_num_kfrom, R_num_ksz, R_num_kept, R_num_opn, R_num_okind, R_num_nums, R_words_version, R_words_found, R_words_fault, R_words_num, R_words_words, R_words_keeps, R_words_dnow, R_words_last, R_words_lnum, R_words_kinds, R_words_parents, R_words_tsz, R_words_chars, R_words_kfrom, R_words_ksz, R_words_kept, R_words_opn, R_words_okind, R_words_nums, R_keeps_version, R_keeps_found, R_keeps_fault, R_keeps_num, R_keeps_words, R_keeps_keeps, R_keeps_dnow, R_keeps_last, R_keeps_lnum, R_keeps_kinds, R_keeps_parents, R_keeps_tsz, R_keeps_chars, R_keeps_kfrom, R_keeps_ksz, R_keeps_kept, R_keeps_opn, R_keeps_okind, R_keeps_nums, R_dnow_version, R_dnow_found, R_dnow_fault, R_dnow_num, R_dnow_words, R_dnow_keeps, R_dnow_dnow, R_dnow_last, R_dnow_lnum, R_dnow_kinds, R_dnow_parents, R_dnow_tsz, R_dnow_chars, R_dnow_kfrom, R_dnow_ksz, R_dnow_kept, R_dnow_opn, R_dnow_okind, R_dnow_nums, R_last_version, R_last_found, R_last_fault, R_last_num, R_last_words, R_last_keeps, R_last_dnow, R_last_last, R_last_lnum, R_last_kinds, R_last_parents, R_last_tsz, R_last_chars, R_last_kfrom, R_last_ksz, R_last_kept, R_last_opn, R_last_okind, R_last_nums, R_lnum_version, R_lnum_found, R_lnum_fault, R_lnum_num, R_lnum_words, R_lnum_keeps, R_lnum_dnow, R_lnum_last, R_lnum_lnum, R_lnum_kinds, R_lnum_parents, R_lnum_tsz, R_lnum_chars, R_lnum_kfrom, R_lnum_ksz, R_lnum_kept, R_lnum_opn, R_lnum_okind, R_lnum_nums, R_kinds_version, R_kinds_found, R_kinds_fault, R_kinds_num, R_kinds_words, R_kinds_keeps, R_kinds_dnow, R_kinds_last, R_kinds_lnum, R_kinds_kinds, R_kinds_parents, R_kinds_tsz, R_kinds_chars, R_kinds_kfrom, R_kinds_ksz, R_kinds_kept, R_kinds_opn, R_kinds_okind, R_kinds_nums, R_parents_version, R_parents_found, R_parents_fault, R_parents_num, R_parents_words, R_parents_keeps, R_parents_dnow, R_parents_last, R_parents_lnum, R_parents_kinds, R_parents_parents, R_parents_tsz, R_parents_chars, R_parents_kfrom, R_parents_ksz, R_parents_kept, R_parents_opn, R_parents_okind, R_parents_nums, R_tsz_version, R_tsz_found, R_tsz_fault, R_tsz_num, R_tsz_words, R_tsz_keeps, R_tsz_dnow, R_tsz_last, R_tsz_lnum, R_tsz_kinds, R_tsz_parents, R_tsz_tsz, R_tsz_chars, R_tsz_kfrom, R_tsz_ksz, R_tsz_kept, R_tsz_opn, R_tsz_okind, R_tsz_nums, R_chars_version, R_chars_found, R_chars_fault, R_chars_num, R_chars_words, R_chars_keeps, R_chars_dnow, R_chars_last, R_chars_lnum, R_chars_kinds, R_chars_parents, R_chars_tsz, R_chars_chars, R_chars_kfrom, R_chars_ksz, R_chars_kept, R_chars_opn, R_chars_okind, R_chars_nums, R_kfrom_version, R_kfrom_found, R_kfrom_fault, R_kfrom_num, R_kfrom_words, R_kfrom_keeps, R_kfrom_dnow, R_kfrom_last, R_kfrom_lnum, R_kfrom_kinds, R_kfrom_parents, R_kfrom_tsz, R_kfrom_chars, R_kfrom_kfrom, R_kfrom_ksz, R_kfrom_kept, R_kfrom_opn, R_kfrom_okind, R_kfrom_nums, R_ksz_version, R_ksz_found, R_ksz_fault, R_ksz_num, R_ksz_words, R_ksz_keeps, R_ksz_dnow, R_ksz_last, R_ksz_lnum, R_ksz_kinds, R_ksz_parents, R_ksz_tsz, R_ksz_chars, R_ksz_kfrom, R_ksz_ksz, R_ksz_kept, R_ksz_opn, R_ksz_okind, R_ksz_nums, R_kept_version, R_kept_found, R_kept_fault, R_kept_num, R_kept_words, R_kept_keeps, R_kept_dnow, R_kept_last, R_kept_lnum, R_kept_kinds, R_kept_parents, R_kept_tsz, R_kept_chars, R_kept_kfrom, R_kept_ksz, R_kept_kept, R_kept_opn, R_kept_okind, R_kept_nums, R_opn_version, R_opn_found, R_opn_fault, R_opn_num, R_opn_words, R_opn_keeps, R_opn_dnow, R_opn_last, R_opn_lnum, R_opn_kinds, R_opn_parents, R_opn_tsz, R_opn_chars, R_opn_kfrom, R_opn_ksz, R_opn_kept, R_opn_opn, R_opn_okind, R_opn_nums, R_okind_version, R_okind_found, R_okind_fault, R_okind_num, R_okind_words, R_okind_keeps, R_okind_dnow, R_okind_last, R_okind_lnum, R_okind_kinds, R_okind_parents, R_okind_tsz, R_okind_chars, R_okind_kfrom, R_okind_ksz, R_okind_kept, R_okind_opn, R_okind_okind, R_okind_nums, R_nums_version, R_nums_found, R_nums_fault, R_nums_num, R_nums_words, R_nums_keeps, R_nums_dnow, R_nums_last, R_nums_lnum, R_nums_kinds, R_nums_parents, R_nums_tsz, R_nums_chars, R_nums_kfrom, R_nums_ksz, R_nums_kept, R_nums_opn, R_nums_okind, R_nums_nums] at hg ⊢
    exact hg
set_option maxRecDepth 100000 in
set_option maxHeartbeats 4000000 in
theorem p_mayHold0 {κ : Fin 10} (h0 : s.count ≠ 0) (hN : s.count ≤ 200) : fx_X7_mayHold (yY bT s) (-1) κ = some 0 := by
  unfold fx_X7_mayHold
  rw [p_hasN]
  simp only [Option.bind_some, yY_13]
  rw [if_pos trivial, if_neg (by rw [zI_z (by omega)]; exact h0)]
set_option maxRecDepth 100000 in
set_option maxHeartbeats 4000000 in
theorem ob_core_L (hG : TG s) (hSR : SR 1 s r) (h4 : gi u 4 = zI s.count) (par : Option Nat) (a2 : Int32) (hp : ∀ q, par = some q → q < s.count) : (f8_object_L_26 uS uV uP uX (yY bT s) (enc par) a2 = some (Sum.inl 3) ∧ f9_object_18 (wW u r) (enc par) a2 1 = some (0, wW (si u 0 2) r)) ∨ (f8_object_L_26 uS uV uP uX (yY bT s) (enc par) a2 = some (Sum.inr (-1, uX, yY bT s)) ∧ f9_object_18 (wW u r) (enc par) a2 1 = some (-1, wW (si u 0 0) r)) ∨ (f8_object_L_26 uS uV uP uX (yY bT s) (enc par) a2 = some (Sum.inr (-1, si uX 5 0, yY bT s)) ∧ f9_object_18 (wW u r) (enc par) a2 1 = some (-1, wW (si u 0 0) r)) ∨ (∃ s' r', f8_object_L_26 uS uV uP uX (yY bT s) (enc par) a2 = some (Sum.inr (zI s.count, si uX 5 0, yY bT s')) ∧ f9_object_18 (wW u r) (enc par) a2 1 = some (zI s.count, wW (si (si (si u 0 0) 4 (zI s'.count)) 27 1) r') ∧ TG s' ∧ SR 1 s' r' ∧ s'.version = s.version) := by
  have hN := hG.1.1
  have hTR := TR_of hSR
  have h4' : gi (si u 0 0) 4 = zI s.count := h4
  have h103 : ∀ x2, f9_object_103 (wW (si u 0 0) r) (enc par) x2 0 = some (-1, wW (si u 0 0) r) := by
    intro x2
    unfold f9_object_103
    rw [if_pos rfl]
  have e0 : kNum (0 : Fin 10) = 0 := by decide
  have e9 : kNum (9 : Fin 10) = 9 := by decide
  unfold f8_object_L_26 f8_object_L_46 f9_object_18 f9_object_38
  rw [e0, e9, if_neg (show ¬ ((1 : Int32) = 0) by decide)]
  have h43 : f9_object_43 (wW u r) (enc par) a2 2 = some (0, wW (si u 0 2) r) := by
    unfold f9_object_43
    rw [if_neg (by decide), wW_b0]
  rw [h43]
  by_cases hneg : a2 < 0
  · left; rw [if_pos hneg, if_pos hneg]; exact ⟨rfl, rfl⟩
  rw [if_neg hneg, if_neg hneg]
  obtain ⟨e, hlt⟩ := zI_of hneg
  generalize a2.toNatClampNeg = c at e hlt
  subst e
  by_cases hc9 : c ≤ 9
  · have hz9 : zI c ≤ 9 := by rw [show (9 : Int32) = zI 9 from rfl, zI_le (by omega) (by omega)]; exact hc9
    rw [if_pos hz9, if_pos hz9, t_numbered c (by omega)]
    simp only [Option.bind_some]
    generalize hκ : (⟨c, by omega⟩ : Fin 10) = κ
    have hcv : c = κ.val := by rw [← hκ]
    rw [hcv]
    have hκv := κ.isLt
    right
    unfold f9_object_43 f9_object_75 f9_object_102
    rw [if_pos rfl, wW_b0]
    simp only [h103]
    by_cases hκ9 : κ = 9
    · left
      rw [if_pos hκ9]
      refine ⟨rfl, ?_⟩
      have hz : zI κ.val = 9 := by rw [hκ9]; rfl
      rw [hz, if_pos rfl, if_neg (show ¬ ((9 : Int32) = 0) by decide)]
      split <;> rfl
    · rw [if_neg hκ9]
      have hz9 : ¬ (zI κ.val = 9) := by
        rw [show (9 : Int32) = zI 9 from rfl, zI_inj (by omega) (by omega)]
        intro h; exact hκ9 (Fin.ext h)
      -- where it may be
      have hgo : ∀ ok : Bool, (ok = true → (par = none → s.count = 0 ∧ κ = 0) ∧ (∀ q, par = some q → κ ≠ 0 ∧ tK s q ≠ 9)) → ∀ o8 o9, o8 = (if bI ok = 0 then some (Sum.inr (-1, uX, yY bT s)) else (fx_X7_grow (yY bT s) (enc par) κ).bind fun p_14 => some (Sum.inr (p_14.1, si uX 5 0, p_14.2))) → o9 = (if ok = true then f9_object_103 (wW (si u 0 0) r) (enc par) (zI κ.val) 1 else some (-1, wW (si u 0 0) r)) → (o8 = some (Sum.inr (-1, uX, yY bT s)) ∧ o9 = some (-1, wW (si u 0 0) r)) ∨ (o8 = some (Sum.inr (-1, si uX 5 0, yY bT s)) ∧ o9 = some (-1, wW (si u 0 0) r)) ∨ (∃ s' r', o8 = some ((Sum.inr (zI s.count, si uX 5 0, yY bT s')) : Nat ⊕ (Int32 × Md × Md)) ∧ o9 = some (zI s.count, wW (si (si (si u 0 0) 4 (zI s'.count)) 27 1) r') ∧ TG s' ∧ SR 1 s' r' ∧ s'.version = s.version) := by
        intro ok hok o8 o9 h8 h9
        cases ok with
        | false =>
          left
          rw [h8, h9, if_pos (by decide), if_neg (by decide)]
          exact ⟨rfl, rfl⟩
        | true =>
          right
          rw [if_neg (by decide)] at h8
          rw [if_pos rfl] at h9
          by_cases h200 : s.count = 200
          · left
            rw [h8, h9]
            refine ⟨?_, ?_⟩
            · unfold fx_X7_grow
              rw [yY_13, if_neg (by rw [zI_neg (by omega)]; exact not_false), if_neg (by rw [show (200 : Int32) = zI 200 from rfl, zI_lt (by omega) (by omega)]; omega)]
              rfl
            · unfold f9_object_103
              rw [if_neg (by decide), wW_4, h4', if_pos (by rw [h200]; rfl)]
          · right
            obtain ⟨g, hg1, hg2, hg3⟩ := p_growF (bT := bT) hG.1 (TL_a hG.2.1) hp κ (by omega) (TG_deep hG)
            obtain ⟨r', hr1, hr2⟩ := q_103 (u := si u 0 0) (par := par) hSR (by omega) h4' κ hκ9 hg2 hg3
            refine ⟨grf s par κ g, r', ?_, ?_, TG_grow hG (by omega) hp (fun h => (hok rfl).1 h) (hok rfl).2, hr2, grf_version⟩
            · rw [h8, hg1]; rfl
            · rw [h9, hr1, grf_count]
      cases par with
      | none =>
        by_cases hc0 : s.count = 0
        · refine hgo (decide (κ = 0)) (fun h => ⟨fun _ => ⟨hc0, by simpa using h⟩, fun q hq => by cases hq⟩) _ _ ?_ ?_
          · show (fx_X7_mayHold (yY bT s) (-1) κ).bind _ = _
            rw [p_mayHoldN hc0]; rfl
          · show (if (-1 : Int32) = -1 then _ else _) = _
            rw [if_pos rfl, wW_4, h4, if_pos (show zI s.count = 0 by rw [hc0]; rfl)]
            by_cases h0 : κ = 0
            · rw [if_pos (show zI κ.val = 0 by rw [h0]; rfl), if_pos (decide_eq_true h0)]
            · rw [if_neg (show ¬ (zI κ.val = 0) by rw [zI_z (by omega)]; intro h; exact h0 (Fin.ext h)), if_neg (by rw [decide_eq_false h0]; decide)]
        · left
          refine ⟨?_, ?_⟩
          · show (fx_X7_mayHold (yY bT s) (-1) κ).bind _ = _
            rw [p_mayHold0 hc0 hN]; rfl
          · show (if (-1 : Int32) = -1 then _ else _) = _
            rw [if_pos rfl, wW_4, h4, if_neg (show ¬ (zI s.count = 0) by rw [zI_z (by omega)]; exact hc0)]
            split <;> rfl
      | some k =>
        have hk := hp k rfl
        have hkv := (tK s k).isLt
        refine hgo (decide (fx_X2_mayBeIn κ (tK s k) = some 1)) (fun h => ⟨fun hh => (by cases hh), fun q hq => ⟨fun h0 => ?_, fun h9 => ?_⟩⟩) _ _ ?_ ?_
        · rw [h0, t_canBe0] at h
          exact absurd h (by decide)
        · have e := Option.some.inj hq
          rw [← e] at h9
          rw [h9, t_canBe9] at h
          exact absurd h (by decide)
        · show (fx_X7_mayHold (yY bT s) (zI k) κ).bind _ = _
          rw [p_mayHold hG.1 hk]
          cases t_may κ (tK s k) with
          | inl h => rw [h]; rfl
          | inr h => rw [h]; rfl
        · show (if zI k = -1 then _ else _) = _
          rw [if_neg (show ¬ (zI k = -1) by rw [zI_ne1 (by omega)]; exact not_false), if_neg hz9]
          simp (disch := omega) only [show enc (some k) = zI k from rfl, zI_le, zI_lt, zI_inj, zI_z, zI_lz, zI_zl, zI_neg, zI_nat, zI_add, zI_one, zI_mul, zI_ne1, zI_1n, leT, leF, ltT, ltF, eqT, eqF, if_true, if_false, Option.bind_some, false_or, or_false, true_or, or_true, true_and, and_true, false_and, and_false, not_true_eq_false, not_false_eq_true, reduceIte, wW_a5]
          rw [(hTR.1 k hk).1, (hG.1.2.1 k hk).1, t_canBe]
          cases t_may κ (tK s k) with
          | inl h => rw [h]; rfl
          | inr h => rw [h]; rfl
  · left
    have hz9 : ¬ (zI c ≤ 9) := by rw [show (9 : Int32) = zI 9 from rfl, zI_le (by omega) (by omega)]; exact hc9
    rw [if_neg hz9, if_neg hz9]; exact ⟨rfl, rfl⟩
set_option maxRecDepth 100000 in
set_option maxHeartbeats 4000000 in
theorem st_object_L (hG : TG s) (hSR : SR 1 s r) (h4 : gi u 4 = zI s.count) (a1 a2 : Int32) : (∃ y, sL_9_L uX uS (yY bT s) uV uP (wW u r) a1 a2 = some (uX, uS, yY bT s, uV, uP, wW (si u 0 y) r)) ∨ (sL_9_L uX uS (yY bT s) uV uP (wW u r) a1 a2 = some (si uX 5 0, uS, yY bT s, uV, uP, wW (si u 0 0) r)) ∨ (∃ s' r', sL_9_L uX uS (yY bT s) uV uP (wW u r) a1 a2 = some (si uX 5 0, uS, yY bT s', uV, uP, wW (si (si (si u 0 0) 4 (zI s'.count)) 27 1) r') ∧ TG s' ∧ SR 1 s' r' ∧ s'.version = s.version) := by
  have hN := hG.1.1
  have hfin : ∀ par : Option Nat, (∀ q, par = some q → q < s.count) → f8_object_L uX uS (yY bT s) uV uP a1 a2 = f8_object_L_26 uS uV uP uX (yY bT s) (enc par) a2 → f9_object (wW u r) a1 a2 = f9_object_18 (wW u r) (enc par) a2 1 → (∃ y, sL_9_L uX uS (yY bT s) uV uP (wW u r) a1 a2 = some (uX, uS, yY bT s, uV, uP, wW (si u 0 y) r)) ∨ (sL_9_L uX uS (yY bT s) uV uP (wW u r) a1 a2 = some (si uX 5 0, uS, yY bT s, uV, uP, wW (si u 0 0) r)) ∨ (∃ s' r', sL_9_L uX uS (yY bT s) uV uP (wW u r) a1 a2 = some (si uX 5 0, uS, yY bT s', uV, uP, wW (si (si (si u 0 0) 4 (zI s'.count)) 27 1) r') ∧ TG s' ∧ SR 1 s' r' ∧ s'.version = s.version) := by
    intro par hp h8 h9
    unfold sL_9_L
    rw [h8, h9]
    rcases ob_core_L (uX := uX) (uS := uS) (uV := uV) (uP := uP) (bT := bT) hG hSR h4 par a2 hp with h | h | h | h
    · left
      refine ⟨2, ?_⟩
      rw [h.1, h.2]
      rfl
    · left
      refine ⟨0, ?_⟩
      rw [h.1, h.2]
      rfl
    · right; left
      rw [h.1, h.2]
      rfl
    · right; right
      obtain ⟨s', r', b1, b2, b3, b4, b5⟩ := h
      refine ⟨s', r', ?_, b3, b4, b5⟩
      rw [b1, b2]
      simp only [Option.bind_some, Sum.elim_inr]
      rw [if_pos ⟨rfl, trivial⟩]
  by_cases hm1 : a1 = -1
  · refine hfin none (fun q hq => by cases hq) ?_ ?_
    · unfold f8_object_L
      rw [if_pos hm1, hm1]; rfl
    · unfold f9_object f9_object_13
      rw [if_pos hm1, hm1]; rfl
  · cases ob_cases (bT := bT) (r := r) a1 hN h4 with
    | inl h =>
      obtain ⟨k, hk, rfl, e1, e2⟩ := h
      refine hfin (some k) (fun q hq => by cases hq; exact hk) ?_ ?_
      · unfold f8_object_L
        rw [if_neg hm1, e1]; rfl
      · unfold f9_object f9_object_13
        rw [if_neg hm1, e2]; rfl
    | inr h =>
      left
      refine ⟨1, ?_⟩
      unfold sL_9_L f8_object_L f9_object f9_object_18 f9_object_43
      rw [if_neg hm1, if_neg hm1, h.1, h.2]
      simp only [Option.bind_some, if_true, one_nz, if_false, wW_b0, Sum.elim_inl, gi_s0]
set_option maxRecDepth 100000 in
set_option maxHeartbeats 4000000 in
theorem ob_core_B (hG : TG s) (hSR : SR 1 s r) (h4 : gi u 4 = zI s.count) (par : Option Nat) (a2 : Int32) (hp : ∀ q, par = some q → q < s.count) : (f8_object_B_26 uS uV uP uX (yY bT s) (enc par) a2 = some (Sum.inl 3) ∧ f9_object_18 (wW u r) (enc par) a2 1 = some (0, wW (si u 0 2) r)) ∨ (f8_object_B_26 uS uV uP uX (yY bT s) (enc par) a2 = some (Sum.inr (-1, uX, yY bT s)) ∧ f9_object_18 (wW u r) (enc par) a2 1 = some (-1, wW (si u 0 0) r)) ∨ (f8_object_B_26 uS uV uP uX (yY bT s) (enc par) a2 = some (Sum.inr (-1, si uX 5 0, yY bT s)) ∧ f9_object_18 (wW u r) (enc par) a2 1 = some (-1, wW (si u 0 0) r)) ∨ (∃ s' r', f8_object_B_26 uS uV uP uX (yY bT s) (enc par) a2 = some (Sum.inr (zI s.count, si uX 5 0, yY bT s')) ∧ f9_object_18 (wW u r) (enc par) a2 1 = some (zI s.count, wW (si (si (si u 0 0) 4 (zI s'.count)) 27 1) r') ∧ TG s' ∧ SR 1 s' r' ∧ s'.version = s.version) := by
  have hN := hG.1.1
  have hTR := TR_of hSR
  have h4' : gi (si u 0 0) 4 = zI s.count := h4
  have h103 : ∀ x2, f9_object_103 (wW (si u 0 0) r) (enc par) x2 0 = some (-1, wW (si u 0 0) r) := by
    intro x2
    unfold f9_object_103
    rw [if_pos rfl]
  have e0 : kNum (0 : Fin 10) = 0 := by decide
  have e9 : kNum (9 : Fin 10) = 9 := by decide
  unfold f8_object_B_26 f8_object_B_46 f9_object_18 f9_object_38
  rw [e0, e9, if_neg (show ¬ ((1 : Int32) = 0) by decide)]
  have h43 : f9_object_43 (wW u r) (enc par) a2 2 = some (0, wW (si u 0 2) r) := by
    unfold f9_object_43
    rw [if_neg (by decide), wW_b0]
  rw [h43]
  by_cases hneg : a2 < 0
  · left; rw [if_pos hneg, if_pos hneg]; exact ⟨rfl, rfl⟩
  rw [if_neg hneg, if_neg hneg]
  obtain ⟨e, hlt⟩ := zI_of hneg
  generalize a2.toNatClampNeg = c at e hlt
  subst e
  by_cases hc9 : c ≤ 9
  · have hz9 : zI c ≤ 9 := by rw [show (9 : Int32) = zI 9 from rfl, zI_le (by omega) (by omega)]; exact hc9
    rw [if_pos hz9, if_pos hz9, t_numbered c (by omega)]
    simp only [Option.bind_some]
    generalize hκ : (⟨c, by omega⟩ : Fin 10) = κ
    have hcv : c = κ.val := by rw [← hκ]
    rw [hcv]
    have hκv := κ.isLt
    right
    unfold f9_object_43 f9_object_75 f9_object_102
    rw [if_pos rfl, wW_b0]
    simp only [h103]
    by_cases hκ9 : κ = 9
    · left
      rw [if_pos hκ9]
      refine ⟨rfl, ?_⟩
      have hz : zI κ.val = 9 := by rw [hκ9]; rfl
      rw [hz, if_pos rfl, if_neg (show ¬ ((9 : Int32) = 0) by decide)]
      split <;> rfl
    · rw [if_neg hκ9]
      have hz9 : ¬ (zI κ.val = 9) := by
        rw [show (9 : Int32) = zI 9 from rfl, zI_inj (by omega) (by omega)]
        intro h; exact hκ9 (Fin.ext h)
      -- where it may be
      have hgo : ∀ ok : Bool, (ok = true → (par = none → s.count = 0 ∧ κ = 0) ∧ (∀ q, par = some q → κ ≠ 0 ∧ tK s q ≠ 9)) → ∀ o8 o9, o8 = (if bI ok = 0 then some (Sum.inr (-1, uX, yY bT s)) else (fx_X7_grow (yY bT s) (enc par) κ).bind fun p_14 => some (Sum.inr (p_14.1, si uX 5 0, p_14.2))) → o9 = (if ok = true then f9_object_103 (wW (si u 0 0) r) (enc par) (zI κ.val) 1 else some (-1, wW (si u 0 0) r)) → (o8 = some (Sum.inr (-1, uX, yY bT s)) ∧ o9 = some (-1, wW (si u 0 0) r)) ∨ (o8 = some (Sum.inr (-1, si uX 5 0, yY bT s)) ∧ o9 = some (-1, wW (si u 0 0) r)) ∨ (∃ s' r', o8 = some ((Sum.inr (zI s.count, si uX 5 0, yY bT s')) : Nat ⊕ (Int32 × Md × Md)) ∧ o9 = some (zI s.count, wW (si (si (si u 0 0) 4 (zI s'.count)) 27 1) r') ∧ TG s' ∧ SR 1 s' r' ∧ s'.version = s.version) := by
        intro ok hok o8 o9 h8 h9
        cases ok with
        | false =>
          left
          rw [h8, h9, if_pos (by decide), if_neg (by decide)]
          exact ⟨rfl, rfl⟩
        | true =>
          right
          rw [if_neg (by decide)] at h8
          rw [if_pos rfl] at h9
          by_cases h200 : s.count = 200
          · left
            rw [h8, h9]
            refine ⟨?_, ?_⟩
            · unfold fx_X7_grow
              rw [yY_13, if_neg (by rw [zI_neg (by omega)]; exact not_false), if_neg (by rw [show (200 : Int32) = zI 200 from rfl, zI_lt (by omega) (by omega)]; omega)]
              rfl
            · unfold f9_object_103
              rw [if_neg (by decide), wW_4, h4', if_pos (by rw [h200]; rfl)]
          · right
            obtain ⟨g, hg1, hg2, hg3⟩ := p_growF (bT := bT) hG.1 (TL_a hG.2.1) hp κ (by omega) (TG_deep hG)
            obtain ⟨r', hr1, hr2⟩ := q_103 (u := si u 0 0) (par := par) hSR (by omega) h4' κ hκ9 hg2 hg3
            refine ⟨grf s par κ g, r', ?_, ?_, TG_grow hG (by omega) hp (fun h => (hok rfl).1 h) (hok rfl).2, hr2, grf_version⟩
            · rw [h8, hg1]; rfl
            · rw [h9, hr1, grf_count]
      cases par with
      | none =>
        by_cases hc0 : s.count = 0
        · refine hgo (decide (κ = 0)) (fun h => ⟨fun _ => ⟨hc0, by simpa using h⟩, fun q hq => by cases hq⟩) _ _ ?_ ?_
          · show (fx_X7_mayHold (yY bT s) (-1) κ).bind _ = _
            rw [p_mayHoldN hc0]; rfl
          · show (if (-1 : Int32) = -1 then _ else _) = _
            rw [if_pos rfl, wW_4, h4, if_pos (show zI s.count = 0 by rw [hc0]; rfl)]
            by_cases h0 : κ = 0
            · rw [if_pos (show zI κ.val = 0 by rw [h0]; rfl), if_pos (decide_eq_true h0)]
            · rw [if_neg (show ¬ (zI κ.val = 0) by rw [zI_z (by omega)]; intro h; exact h0 (Fin.ext h)), if_neg (by rw [decide_eq_false h0]; decide)]
        · left
          refine ⟨?_, ?_⟩
          · show (fx_X7_mayHold (yY bT s) (-1) κ).bind _ = _
            rw [p_mayHold0 hc0 hN]; rfl
          · show (if (-1 : Int32) = -1 then _ else _) = _
            rw [if_pos rfl, wW_4, h4, if_neg (show ¬ (zI s.count = 0) by rw [zI_z (by omega)]; exact hc0)]
            split <;> rfl
      | some k =>
        have hk := hp k rfl
        have hkv := (tK s k).isLt
        refine hgo (decide (fx_X2_mayBeIn κ (tK s k) = some 1)) (fun h => ⟨fun hh => (by cases hh), fun q hq => ⟨fun h0 => ?_, fun h9 => ?_⟩⟩) _ _ ?_ ?_
        · rw [h0, t_canBe0] at h
          exact absurd h (by decide)
        · have e := Option.some.inj hq
          rw [← e] at h9
          rw [h9, t_canBe9] at h
          exact absurd h (by decide)
        · show (fx_X7_mayHold (yY bT s) (zI k) κ).bind _ = _
          rw [p_mayHold hG.1 hk]
          cases t_may κ (tK s k) with
          | inl h => rw [h]; rfl
          | inr h => rw [h]; rfl
        · show (if zI k = -1 then _ else _) = _
          rw [if_neg (show ¬ (zI k = -1) by rw [zI_ne1 (by omega)]; exact not_false), if_neg hz9]
          simp (disch := omega) only [show enc (some k) = zI k from rfl, zI_le, zI_lt, zI_inj, zI_z, zI_lz, zI_zl, zI_neg, zI_nat, zI_add, zI_one, zI_mul, zI_ne1, zI_1n, leT, leF, ltT, ltF, eqT, eqF, if_true, if_false, Option.bind_some, false_or, or_false, true_or, or_true, true_and, and_true, false_and, and_false, not_true_eq_false, not_false_eq_true, reduceIte, wW_a5]
          rw [(hTR.1 k hk).1, (hG.1.2.1 k hk).1, t_canBe]
          cases t_may κ (tK s k) with
          | inl h => rw [h]; rfl
          | inr h => rw [h]; rfl
  · left
    have hz9 : ¬ (zI c ≤ 9) := by rw [show (9 : Int32) = zI 9 from rfl, zI_le (by omega) (by omega)]; exact hc9
    rw [if_neg hz9, if_neg hz9]; exact ⟨rfl, rfl⟩
set_option maxRecDepth 100000 in
set_option maxHeartbeats 4000000 in
theorem st_object_B (hG : TG s) (hSR : SR 1 s r) (h4 : gi u 4 = zI s.count) (a1 a2 : Int32) : (∃ y, sL_9_B uX uS (yY bT s) uV uP (wW u r) a1 a2 = some (uX, uS, yY bT s, uV, uP, wW (si u 0 y) r)) ∨ (sL_9_B uX uS (yY bT s) uV uP (wW u r) a1 a2 = some (si uX 5 0, uS, yY bT s, uV, uP, wW (si u 0 0) r)) ∨ (∃ s' r', sL_9_B uX uS (yY bT s) uV uP (wW u r) a1 a2 = some (si uX 5 0, uS, yY bT s', uV, uP, wW (si (si (si u 0 0) 4 (zI s'.count)) 27 1) r') ∧ TG s' ∧ SR 1 s' r' ∧ s'.version = s.version) := by
  have hN := hG.1.1
  have hfin : ∀ par : Option Nat, (∀ q, par = some q → q < s.count) → f8_object_B uX uS (yY bT s) uV uP a1 a2 = f8_object_B_26 uS uV uP uX (yY bT s) (enc par) a2 → f9_object (wW u r) a1 a2 = f9_object_18 (wW u r) (enc par) a2 1 → (∃ y, sL_9_B uX uS (yY bT s) uV uP (wW u r) a1 a2 = some (uX, uS, yY bT s, uV, uP, wW (si u 0 y) r)) ∨ (sL_9_B uX uS (yY bT s) uV uP (wW u r) a1 a2 = some (si uX 5 0, uS, yY bT s, uV, uP, wW (si u 0 0) r)) ∨ (∃ s' r', sL_9_B uX uS (yY bT s) uV uP (wW u r) a1 a2 = some (si uX 5 0, uS, yY bT s', uV, uP, wW (si (si (si u 0 0) 4 (zI s'.count)) 27 1) r') ∧ TG s' ∧ SR 1 s' r' ∧ s'.version = s.version) := by
    intro par hp h8 h9
    unfold sL_9_B
    rw [h8, h9]
    rcases ob_core_B (uX := uX) (uS := uS) (uV := uV) (uP := uP) (bT := bT) hG hSR h4 par a2 hp with h | h | h | h
    · left
      refine ⟨2, ?_⟩
      rw [h.1, h.2]
      rfl
    · left
      refine ⟨0, ?_⟩
      rw [h.1, h.2]
      rfl
    · right; left
      rw [h.1, h.2]
      rfl
    · right; right
      obtain ⟨s', r', b1, b2, b3, b4, b5⟩ := h
      refine ⟨s', r', ?_, b3, b4, b5⟩
      rw [b1, b2]
      simp only [Option.bind_some, Sum.elim_inr]
      rw [if_pos ⟨rfl, trivial⟩]
  by_cases hm1 : a1 = -1
  · refine hfin none (fun q hq => by cases hq) ?_ ?_
    · unfold f8_object_B
      rw [if_pos hm1, hm1]; rfl
    · unfold f9_object f9_object_13
      rw [if_pos hm1, hm1]; rfl
  · cases ob_cases (bT := bT) (r := r) a1 hN h4 with
    | inl h =>
      obtain ⟨k, hk, rfl, e1, e2⟩ := h
      refine hfin (some k) (fun q hq => by cases hq; exact hk) ?_ ?_
      · unfold f8_object_B
        rw [if_neg hm1, e1]; rfl
      · unfold f9_object f9_object_13
        rw [if_neg hm1, e2]; rfl
    | inr h =>
      left
      refine ⟨1, ?_⟩
      unfold sL_9_B f8_object_B f9_object f9_object_18 f9_object_43
      rw [if_neg hm1, if_neg hm1, h.1, h.2]
      simp only [Option.bind_some, if_true, one_nz, if_false, wW_b0, Sum.elim_inl, gi_s0]
end OBJ
