/-! a name read alike -/
section BEG
variable {u : Md}
set_option maxRecDepth 100000 in
set_option maxHeartbeats 4000000 in
theorem q_blank2 {N : Nat} {x : Int32} (hN : N < 200) : ∀ j i F (r : Rst), 5 - i = j → i ≤ 5 → j < F → ∃ b, f9_blank_2 F (wW u r) (zI N) x (zI i) = f9_blank_2 1 (wW u (r.s_nums (b))) (zI N) x (zI 5) ∧ (∀ y, (y < N * 5 + i ∨ N * 5 + 5 ≤ y) → b y = r.nums y) ∧ (∀ w, i ≤ w → w < 5 → b (N * 5 + w) = 0) := by
  intro j
  induction j with
  | zero =>
    intro i F r hj hi hF
    obtain ⟨F, rfl⟩ : ∃ F', F = F' + 1 := ⟨F - 1, by omega⟩
    have h5 : i = 5 := by omega
    subst h5
    refine ⟨r.nums, ?_, fun _ _ => rfl, fun w h1 h2 => absurd h2 (by omega)⟩
    rw [f9_blank_2, f9_blank_2, if_pos (show (5 : Int32) ≤ zI 5 by decide), if_pos (show (5 : Int32) ≤ zI 5 by decide)]
    rfl
  | succ j ih =>
    intro i F r hj hi hF
    obtain ⟨F, rfl⟩ : ∃ F', F = F' + 1 := ⟨F - 1, by omega⟩
    rw [f9_blank_2, if_neg (by rw [show (5 : Int32) = zI 5 from rfl, zI_le (by omega) (by omega)]; omega)]
    simp (disch := omega) only [wW_16, wW_17, wW_18, wW_20, wW_21, wW_22, wW_29, wW_30, wW_1, wW_3, wW_15, wW_a5, wW_a6, wW_a8, wW_a9, wW_a10, wW_a11, wW_a12, wW_a23, wW_a24, wW_a2, wW_n, wW_l, show (5 : Int32) = zI 5 from rfl, zI_le, zI_lt, zI_inj, zI_z, zI_lz, zI_zl, zI_neg, zI_nat, zI_add, zI_one, zI_mul, zI_ne1, zI_1n, leT, leF, ltT, ltF, eqT, eqF, if_true, if_false, Option.bind_some, false_or, or_false, true_or, or_true, true_and, and_true, false_and, and_false, not_true_eq_false, not_false_eq_true, reduceIte, wW_sn]
    obtain ⟨b, h1, h2, h3⟩ := ih (i + 1) F (r.s_nums (vp_updL r.nums (5 * N + i) 0)) (by omega) (by omega) (by omega)
    refine ⟨b, ?_, fun y hy => ?_, fun w hw1 hw2 => ?_⟩
    · rw [h1]; rfl
    · rw [h2 y (by omega)]
      exact updL_ne (by omega)
    · by_cases hw : w = i
      · rw [hw, h2 (N * 5 + i) (by omega)]
        show vp_updL r.nums (5 * N + i) 0 (N * 5 + i) = 0
        rw [show 5 * N + i = N * 5 + i by omega, updL_same]
      · exact h3 w (by omega) hw2
/-- the reference's new object -/
def blk (r : Rst) (κ : Fin 10) (b : Nat → Int64) : Rst := ((((r.s_nums (b)).s_tsz (upd (upd r.tsz (r.found * 2) 0) (r.found * 2 + 1) 0)).s_kinds (upd r.kinds r.found (zI κ.val))).s_ksz (upd r.ksz r.found 0))
set_option maxRecDepth 100000 in
set_option maxHeartbeats 4000000 in
theorem q_blank {r : Rst} (κ : Fin 10) (hN : r.found < 200) : ∃ b, f9_blank (wW u r) (zI r.found) (zI κ.val) = some (wW u (blk r κ b)) ∧ (∀ y, (y < r.found * 5 ∨ r.found * 5 + 5 ≤ y) → b y = r.nums y) ∧ ∀ w, w < 5 → b (r.found * 5 + w) = bl κ w := by
  obtain ⟨b0, h1, h2, h3⟩ := q_blank2 (u := u) (x := zI κ.val) hN 5 0 FU r rfl (by omega) (by unfold FU; omega)
  have hκ := κ.isLt
  generalize hM : r.found = N at *
  have h57 : ∀ r2 : Rst, f9_blank_57 (wW u r2) (zI N) (zI κ.val) = some (wW u (((r2.s_tsz (upd (upd r2.tsz (2 * N) 0) (2 * N + 1) 0)).s_kinds (upd r2.kinds N (zI κ.val))).s_ksz (upd r2.ksz N 0))) := by
    intro r2
    unfold f9_blank_57
    simp (disch := omega) only [wW_16, wW_17, wW_18, wW_20, wW_21, wW_22, wW_29, wW_30, wW_1, wW_3, wW_15, wW_a5, wW_a6, wW_a8, wW_a9, wW_a10, wW_a11, wW_a12, wW_a23, wW_a24, wW_a2, wW_n, wW_l, wW_s16, wW_s17, wW_s18, wW_s20, wW_s21, wW_s22, wW_s29, wW_s30, wW_sa5, wW_sa6, wW_sa8, wW_sa9, wW_sa10, wW_sa11, wW_sa12, wW_sa23, wW_sa24, wW_sn, wW_sl, R_version_version, R_version_found, R_version_fault, R_version_num, R_version_words, R_version_keeps, R_version_dnow, R_version_last, R_version_lnum, R_version_kinds, R_version_parents, R_version_tsz, R_version_chars, R_version_kfrom, R_version_ksz, R_version_kept, R_version_opn, R_version_okind, R_version_nums, R_found_version, R_found_found, R_found_fault, R_found_num, R_found_words, R_found_keeps, R_found_dnow, R_found_last, R_found_lnum, R_found_kinds, R_found_parents, R_found_tsz, R_found_chars, R_found_kfrom, R_found_ksz, R_found_kept, R_found_opn, R_found_okind, R_found_nums, R_fault_version, R_fault_found, R_fault_fault, R_fault_num, R_fault_words, R_fault_keeps, R_fault_dnow, R_fault_last, R_fault_lnum, R_fault_kinds, R_fault_parents, R_fault_tsz, R_fault_chars, R_fault_kfrom, R_fault_ksz, R_fault_kept, R_fault_opn, R_fault_okind, R_fault_nums, R_num_version, R_num_found, R_num_fault, R_num_num, R_num_words, R_num_keeps, R_num_dnow, R_num_last, R_num_lnum, R_num_kinds, R_num_parents, R_num_tsz, R_num_chars, R_num_kfrom, R_num_ksz, R_num_kept, R_num_opn, R_num_okind, R_num_nums, R_words_version, R_words_found, R_words_fault, R_words_num, R_words_words, R_words_keeps, R_words_dnow, R_words_last, R_words_lnum, R_words_kinds, R_words_parents, R_words_tsz, R_words_chars, R_words_kfrom, R_words_ksz, R_words_kept, R_words_opn, R_words_okind, R_words_nums, R_keeps_version, R_keeps_found, R_keeps_fault, R_keeps_num, R_keeps_words, R_keeps_keeps, R_keeps_dnow, R_keeps_last, R_keeps_lnum, R_keeps_kinds, R_keeps_parents, R_keeps_tsz, R_keeps_chars, R_keeps_kfrom, R_keeps_ksz, R_keeps_kept, R_keeps_opn, R_keeps_okind, R_keeps_nums, R_dnow_version, R_dnow_found, R_dnow_fault, R_dnow_num, R_dnow_words, R_dnow_keeps, R_dnow_dnow, R_dnow_last, R_dnow_lnum, R_dnow_kinds, R_dnow_parents, R_dnow_tsz, R_dnow_chars, R_dnow_kfrom, R_dnow_ksz, R_dnow_kept, R_dnow_opn, R_dnow_okind, R_dnow_nums, R_last_version, R_last_found, R_last_fault, R_last_num, R_last_words, R_last_keeps, R_last_dnow, R_last_last, R_last_lnum, R_last_kinds, R_last_parents, R_last_tsz, R_last_chars, R_last_kfrom, R_last_ksz, R_last_kept, R_last_opn, R_last_okind, R_last_nums, R_lnum_version, R_lnum_found, R_lnum_fault, R_lnum_num, R_lnum_words, R_lnum_keeps, R_lnum_dnow, R_lnum_last, R_lnum_lnum, R_lnum_kinds, R_lnum_parents, R_lnum_tsz, R_lnum_chars, R_lnum_kfrom, R_lnum_ksz, R_lnum_kept, R_lnum_opn, R_lnum_okind, R_lnum_nums, R_kinds_version, R_kinds_found, R_kinds_fault, R_kinds_num, R_kinds_words, R_kinds_keeps, R_kinds_dnow, R_kinds_last, R_kinds_lnum, R_kinds_kinds, R_kinds_parents, R_kinds_tsz, R_kinds_chars, R_kinds_kfrom, R_kinds_ksz, R_kinds_kept, R_kinds_opn, R_kinds_okind, R_kinds_nums, R_parents_version, R_parents_found, R_parents_fault, R_parents_num, R_parents_words, R_parents_keeps, R_parents_dnow, R_parents_last, R_parents_lnum, R_parents_kinds, R_parents_parents, R_parents_tsz, R_parents_chars, R_parents_kfrom, R_parents_ksz, R_parents_kept, R_parents_opn, R_parents_okind, R_parents_nums, R_tsz_version, R_tsz_found, R_tsz_fault, R_tsz_num, R_tsz_words, R_tsz_keeps, R_tsz_dnow, R_tsz_last, R_tsz_lnum, R_tsz_kinds, R_tsz_parents, R_tsz_tsz, R_tsz_chars, R_tsz_kfrom, R_tsz_ksz, R_tsz_kept, R_tsz_opn, R_tsz_okind, R_tsz_nums, R_chars_version, R_chars_found, R_chars_fault, R_chars_num, R_chars_words, R_chars_keeps, R_chars_dnow, R_chars_last, R_chars_lnum, R_chars_kinds, R_chars_parents, R_chars_tsz, R_chars_chars, R_chars_kfrom, R_chars_ksz, R_chars_kept, R_chars_opn, R_chars_okind, R_chars_nums, R_kfrom_version, R_kfrom_found, R_kfrom_fault, R_kfrom_num, R_kfrom_words, R_kfrom_keeps, R_kfrom_dnow, R_kfrom_last, R_kfrom_lnum, R_kfrom_kinds, R_kfrom_parents, R_kfrom_tsz, R_kfrom_chars, R_kfrom_kfrom, R_kfrom_ksz, R_kfrom_kept, R_kfrom_opn, R_kfrom_okind, R_kfrom_nums, R_ksz_version, R_ksz_found, R_ksz_fault, R_ksz_num, R_ksz_words, R_ksz_keeps, R_ksz_dnow, R_ksz_last, R_ksz_lnum, R_ksz_kinds, R_ksz_parents, R_ksz_tsz, R_ksz_chars, R_ksz_kfrom, R_ksz_ksz, R_ksz_kept, R_ksz_opn, R_ksz_okind, R_ksz_nums, R_kept_version, R_kept_found, R_kept_fault, R_kept_num, R_kept_words, R_kept_keeps, R_kept_dnow, R_kept_last, R_kept_lnum, R_kept_kinds, R_kept_parents, R_kept_tsz, R_kept_chars, R_kept_kfrom, R_kept_ksz, R_kept_kept, R_kept_opn, R_kept_okind, R_kept_nums, R_opn_version, R_opn_found, R_opn_fault, R_opn_num, R_opn_words, R_opn_keeps, R_opn_dnow, R_opn_last, R_opn_lnum, R_opn_kinds, R_opn_parents, R_opn_tsz, R_opn_chars, R_opn_kfrom, R_opn_ksz, R_opn_kept, R_opn_opn, R_opn_okind, R_opn_nums, R_okind_version, R_okind_found, R_okind_fault, R_okind_num, R_okind_words, R_okind_keeps, R_okind_dnow, R_okind_last, R_okind_lnum, R_okind_kinds, R_okind_parents, R_okind_tsz, R_okind_chars, R_okind_kfrom, R_okind_ksz, R_okind_kept, R_okind_opn, R_okind_okind, R_okind_nums, R_nums_version, R_nums_found, R_nums_fault, R_nums_num, R_nums_words, R_nums_keeps, R_nums_dnow, R_nums_last, R_nums_lnum, R_nums_kinds, R_nums_parents, R_nums_tsz, R_nums_chars, R_nums_kfrom, R_nums_ksz, R_nums_kept, R_nums_opn, R_nums_okind, R_nums_nums, show (2 : Int32) = zI 2 from rfl, zI_le, zI_lt, zI_inj, zI_z, zI_lz, zI_zl, zI_neg, zI_nat, zI_add, zI_one, zI_mul, zI_ne1, zI_1n, leT, leF, ltT, ltF, eqT, eqF, if_true, if_false, Option.bind_some, false_or, or_false, true_or, or_true, true_and, and_true, false_and, and_false, not_true_eq_false, not_false_eq_true, reduceIte]
    rfl
  unfold f9_blank
  rw [show (0 : Int32) = zI 0 from rfl, h1, f9_blank_2, if_pos (by decide)]
  unfold f9_blank_38
  by_cases hk3 : κ.val = 3
  · refine ⟨vp_updL b0 (N * 5) 1, ?_, fun y hy => ?_, fun w hw => ?_⟩
    · rw [if_pos (by rw [hk3]; rfl)]
      simp (disch := omega) only [wW_16, wW_17, wW_18, wW_20, wW_21, wW_22, wW_29, wW_30, wW_1, wW_3, wW_15, wW_a5, wW_a6, wW_a8, wW_a9, wW_a10, wW_a11, wW_a12, wW_a23, wW_a24, wW_a2, wW_n, wW_l, show (5 : Int32) = zI 5 from rfl, show (6 : Int32) = zI 6 from rfl, zI_le, zI_lt, zI_inj, zI_z, zI_lz, zI_zl, zI_neg, zI_nat, zI_add, zI_one, zI_mul, zI_ne1, zI_1n, leT, leF, ltT, ltF, eqT, eqF, if_true, if_false, Option.bind_some, false_or, or_false, true_or, or_true, true_and, and_true, false_and, and_false, not_true_eq_false, not_false_eq_true, reduceIte, wW_sn]
      rw [h57]
      unfold blk
      rw [hM, Nat.mul_comm 2 N, Nat.mul_comm 5 N]
      rfl
    · rw [updL_ne (by omega)]; exact h2 y (by omega)
    · unfold bl
      by_cases hw0 : w = 0
      · rw [if_pos ⟨hk3, hw0⟩, hw0, Nat.add_zero, updL_same]
      · rw [if_neg (by omega), if_neg (by omega), updL_ne (by omega)]; exact h3 w (by omega) hw
  · rw [if_neg (by rw [show (3 : Int32) = zI 3 from rfl, zI_inj (by omega) (by omega)]; exact hk3)]
    by_cases hk6 : κ.val = 6
    · refine ⟨vp_updL b0 (N * 5 + 2) 1270000, ?_, fun y hy => ?_, fun w hw => ?_⟩
      · rw [if_pos (by rw [hk6]; rfl)]
        simp (disch := omega) only [wW_16, wW_17, wW_18, wW_20, wW_21, wW_22, wW_29, wW_30, wW_1, wW_3, wW_15, wW_a5, wW_a6, wW_a8, wW_a9, wW_a10, wW_a11, wW_a12, wW_a23, wW_a24, wW_a2, wW_n, wW_l, show (5 : Int32) = zI 5 from rfl, show (2 : Int32) = zI 2 from rfl, zI_le, zI_lt, zI_inj, zI_z, zI_lz, zI_zl, zI_neg, zI_nat, zI_add, zI_one, zI_mul, zI_ne1, zI_1n, leT, leF, ltT, ltF, eqT, eqF, if_true, if_false, Option.bind_some, false_or, or_false, true_or, or_true, true_and, and_true, false_and, and_false, not_true_eq_false, not_false_eq_true, reduceIte, wW_sn]
        rw [h57]
        unfold blk
        rw [hM, Nat.mul_comm 2 N, Nat.mul_comm 5 N]
        rfl
      · rw [updL_ne (by omega)]; exact h2 y (by omega)
      · unfold bl
        by_cases hw2 : w = 2
        · rw [if_neg (by omega), if_pos ⟨hk6, hw2⟩, hw2, updL_same]
        · rw [if_neg (by omega), if_neg (by omega), updL_ne (by omega)]; exact h3 w (by omega) hw
    · refine ⟨b0, ?_, fun y hy => h2 y (by omega), fun w hw => ?_⟩
      · rw [if_neg (by rw [show (6 : Int32) = zI 6 from rfl, zI_inj (by omega) (by omega)]; exact hk6), h57]
        unfold blk
        rw [hM, Nat.mul_comm 2 N]
        rfl
      · unfold bl
        rw [if_neg (by omega), if_neg (by omega)]; exact h3 w (by omega) hw
end BEG
section NMP
variable {uS u bT : Md} {t : Nat → Int32} {n : Nat}
set_option maxRecDepth 100000 in
set_option maxHeartbeats 4000000 in
theorem p_kindE (h : SOk uS t n) {p : Nat} (hp : p ≤ n) : ∃ k, fx_X6_kindNamed uS (zI p) (zI p) = some k := by
  have hn := h.le
  have key : ∀ j k F, k + j = 9 → j + 1 < F → fx_X6_kindNamed_11 uS F (zI p) (zI p) 10 (zI k) = some 9 := by
    intro j
    induction j with
    | zero =>
      intro k F hk hF
      obtain ⟨F, rfl⟩ : ∃ F', F = F' + 1 := ⟨F - 1, by omega⟩
      have hk9 : k = 9 := by omega
      subst hk9
      rw [fx_X6_kindNamed_11, if_neg (by decide), if_neg (by decide)]
      unfold fx_X6_reads
      rw [t_title9]
      simp only [Option.bind_some]
      rw [zI_sub (by omega) (by omega), Nat.sub_self, if_pos rfl]
      obtain ⟨G, hG⟩ : ∃ G, FU = G + 1 := ⟨999999, by unfold FU; omega⟩
      rw [hG, fx_X6_reads_15, t_title9]
      simp only [Option.bind_some]
      rw [if_pos (by decide)]
      rfl
    | succ j ih =>
      intro k F hk hF
      obtain ⟨F, rfl⟩ : ∃ F', F = F' + 1 := ⟨F - 1, by omega⟩
      have hk9 : k < 9 := by omega
      have hl := Lk_ok k hk9
      rw [fx_X6_kindNamed_11, if_neg (by rw [show (10 : Int32) = zI 10 from rfl, zI_le (by omega) (by omega)]; omega), if_neg (by rw [zI_neg (by omega), zI_nat (by omega), false_or]; omega)]
      unfold fx_X6_reads
      rw [(t_title ⟨k, hk9⟩).1]
      simp only [Option.bind_some]
      rw [if_neg (by rw [zI_sub (by omega) (by omega), zI_inj (by omega) (by omega)]; omega), zI_one]
      simp only [Option.bind_some]
      rw [if_pos trivial]
      exact ih (k + 1) F (by omega) (by omega)
  exact ⟨9, key 9 0 FU rfl (by unfold FU; omega)⟩
/-- the kind of what a new object would be in, as the reference has it -/
def pkI (s : Tst) : Option Nat → Int32
  | none => -1
  | some p => zI (tK s p).val
/-- the reference's state behind a name -/
def beg (m : Int32) (r : Rst) (κ : Fin 10) (par : Option Nat) (b : Nat → Int64) : Rst := if m = 0 then ((r.s_num (0)).s_words (0)) else ((blk ((r.s_num (0)).s_words (0)) κ b).s_parents (upd r.parents r.found (enc par)))
def NmO (uS u bT : Md) (t : Nat → Int32) (n : Nat) (v : Int64) (s : Tst) (r : Rst) (par : Option Nat) (p : Nat) (o : Option (Int32 × Md × Md)) (o9 : Option (Int32 × Md)) : Prop :=
  (∃ s', o = some (-1, sS uS (sk isS t n p) (zI p) v, yY bT s') ∧ o9 = some (-1, wW u (r.s_fault (zI p)))) ∨
  (∃ κ g b, p < sk isS t n p ∧ s.count < 200 ∧ (par = none → κ = 0) ∧ (∀ q, par = some q → κ ≠ 0 ∧ tK s q ≠ 9) ∧ o = some (zI s.count, sS uS (sk isS t n p) (-1) v, yY bT (grf s par κ g)) ∧ o9 = some (zI κ.val, wW u (beg (gi u 15) r κ par b)) ∧ (∀ x, (x < s.count * 5 ∨ s.count * 5 + 5 ≤ x) → g x = s.nums x) ∧ (∀ w, w < cntK κ false → g (s.count * 5 + w) = bl κ w) ∧ (∀ y, (y < s.count * 5 ∨ s.count * 5 + 5 ≤ y) → b y = r.nums y) ∧ ∀ w, w < 5 → b (s.count * 5 + w) = bl κ w)
set_option maxRecDepth 100000 in
set_option maxHeartbeats 4000000 in
theorem t_canBe0 (b : Fin 10) : fx_X2_mayBeIn 0 b = some 0 := by revert b; decide
set_option maxRecDepth 100000 in
set_option maxHeartbeats 4000000 in
theorem t_canBe9 (a : Fin 10) : fx_X2_mayBeIn a 9 = some 0 := by revert a; decide
set_option maxRecDepth 100000 in
set_option maxHeartbeats 4000000 in
theorem q_beg53 {s : Tst} {r : Rst} (hm : gi u 15 = 0 ∨ gi u 15 = 1) (hN : r.found < 200) (κ : Fin 10) (par : Option Nat) (p : Nat) : ∃ b, f9_beginObject_53 (wW u r) (zI p) (enc par) (zI κ.val) 1 = some (zI κ.val, wW u (beg (gi u 15) r κ par b)) ∧ (∀ y, (y < r.found * 5 ∨ r.found * 5 + 5 ≤ y) → b y = r.nums y) ∧ ∀ w, w < 5 → b (r.found * 5 + w) = bl κ w := by
  obtain ⟨b, h1, h2, h3⟩ := q_blank (u := u) (r := ((r.s_num (0)).s_words (0))) κ hN
  refine ⟨b, ?_, h2, h3⟩
  unfold f9_beginObject_53 beg
  rw [if_neg (by decide), wW_17, if_neg (by rw [show (200 : Int32) = zI 200 from rfl, zI_inj (by omega) (by omega)]; omega), wW_15, wW_s20z, wW_s21z]
  cases hm with
  | inl h => rw [if_pos h, if_pos h]
  | inr h =>
    have h0 : ¬ gi u 15 = 0 := by rw [h]; decide
    rw [if_neg h0, if_neg h0]
    have h1' : f9_blank (wW u ((r.s_num (0)).s_words (0))) (zI r.found) (zI κ.val) = some (wW u (blk ((r.s_num (0)).s_words (0)) κ b)) := h1
    rw [h1']
    have hf : (blk ((r.s_num (0)).s_words (0)) κ b).found = r.found := rfl
    simp (disch := omega) only [wW_16, wW_17, wW_18, wW_20, wW_21, wW_22, wW_29, wW_30, wW_1, wW_3, wW_15, wW_a5, wW_a6, wW_a8, wW_a9, wW_a10, wW_a11, wW_a12, wW_a23, wW_a24, wW_a2, wW_n, wW_l, hf, zI_le, zI_lt, zI_inj, zI_z, zI_lz, zI_zl, zI_neg, zI_nat, zI_add, zI_one, zI_mul, zI_ne1, zI_1n, leT, leF, ltT, ltF, eqT, eqF, if_true, if_false, Option.bind_some, false_or, or_false, true_or, or_true, true_and, and_true, false_and, and_false, not_true_eq_false, not_false_eq_true, reduceIte, wW_sa6]
    rfl
set_option maxRecDepth 100000 in
set_option maxHeartbeats 4000000 in
theorem p_name53 {uT : Md} {q : Nat} {v : Int64} (x4 : Int32) (x6 : Int32) : fx_X1_takeName_L_53 (sS uS q (-1) v) uT x4 x6 = if x6 = -1 then some (-1, sS uS q x4 v, uT) else some (x6, sS uS q (-1) v, uT) := by
  unfold fx_X1_takeName_L_53 fx_X6_failAt
  by_cases h : x6 = -1
  · rw [if_pos h, if_pos h, h]
    simp only [Option.bind_some, sS_s3]
  · rw [if_neg h, if_neg h]
set_option maxRecDepth 100000 in
set_option maxHeartbeats 4000000 in
/-- both readers of a name -/
theorem nm_read (hS : SOk uS t n) (hR : ROk u t n) (hm : gi u 15 = 0 ∨ gi u 15 = 1) {s : Tst} {r : Rst} {par : Option Nat} {p : Nat} (v : Int64) (hT : T0 s) (hL : TLa s) (hd : s.deepest ≤ 200) (hpar : ∀ q, par = some q → q < s.count) (hp0 : par = none → s.count = 0) (hp : p ≤ n) (hr : r.fault = -1) (hf : r.found = s.count) : NmO uS u bT t n v s r par p (fx_X1_takeName_L (sS uS p (-1) v) (yY bT s) (enc par)) (f9_beginObject (wW u r) (zI p) (pkI s par) (enc par)) := by
  have hn := hS.le
  have hN := hT.1
  have hq1 : p ≤ sk isS t n p := sk_ge
  have hq2 : sk isS t n p ≤ n := sk_le hp
  have hall : ∀ i, p ≤ i → i < sk isS t n p → isS (t i) = true := fun i h1 h2 => sk_all _ p rfl i h1 h2
  unfold fx_X1_takeName_L fx_X6_passLetters f9_beginObject f9_nameEnd
  rw [p_letters hS (-1) v _ p FU rfl (by unfold FU; omega) (by omega), q_nameEnd (wW_ok hR r) _ p FU rfl (by unfold FU; omega) (by omega)]
  simp only [Option.bind_some, sS_2]
  generalize hq : sk isS t n p = q at *
  by_cases hpq : q = p
  · rw [if_pos (by rw [hpq])]
    left
    obtain ⟨k, hk⟩ := p_kindE (S_ok hS q (-1) v) (p := p) hp
    rw [hpq] at hk ⊢
    rw [hk]
    simp only [Option.bind_some]
    rw [if_pos (by rw [zI_le (by omega) (by omega)]; omega), p_name53, if_pos rfl, q_fail p hr, hq, hpq]
    exact ⟨s, rfl, rfl⟩
  · have hlt : p < q := by omega
    rw [if_neg (by rw [zI_inj (by omega) (by omega)]; exact hpq), p_kindNamed (S_ok hS q (-1) v) hlt hq2 hall, q_kindAt (wW_ok hR r) hlt hq2 hall]
    simp only [Option.bind_some]
    rw [if_neg (by rw [zI_le (by omega) (by omega)]; omega)]
    have hk9 := kkN_le (nmN t p q) 9 0 rfl
    generalize hκ : fk10 (zI (kkN (nmN t p q) 9 0)) = κ
    have hκv : zI (kkN (nmN t p q) 9 0) = zI κ.val := by
      rw [← hκ]
      have hall2 : ∀ a : Fin 10, zI a.val = zI (fk10 (zI a.val)).val := by decide
      exact hall2 ⟨kkN (nmN t p q) 9 0, by omega⟩
    rw [hκv]
    have hfail : ∀ x : Int32, f9_beginObject_53 (wW u r) (zI p) (enc par) x 0 = some (-1, wW u (r.s_fault (zI p))) := by
      intro x
      unfold f9_beginObject_53 f9_beginObject_70
      rw [if_pos rfl, q_fail p hr]; rfl
    -- both ask whether it may be there
    have hgo : ∀ ok : Bool, (ok = true → (par = none → κ = 0) ∧ (∀ q, par = some q → κ ≠ 0 ∧ tK s q ≠ 9)) → NmO uS u bT t n v s r par p (if bI ok = 0 then fx_X1_takeName_L_53 (sS uS q (-1) v) (yY bT s) (zI p) (-1) else (fx_X7_grow (yY bT s) (enc par) κ).bind fun p_10 => fx_X1_takeName_L_53 (sS uS q (-1) v) p_10.2 (zI p) p_10.1) (f9_beginObject_53 (wW u r) (zI p) (enc par) (zI κ.val) (bI ok)) := by
      intro ok hok
      cases ok with
      | false =>
        left
        rw [if_pos (by decide), p_name53, if_pos rfl, hq]
        exact ⟨s, rfl, hfail _⟩
      | true =>
        rw [if_neg (by decide)]
        by_cases h200 : s.count = 200
        · left
          refine ⟨s, ?_, ?_⟩
          · unfold fx_X7_grow
            rw [yY_13, if_neg (by rw [zI_neg (by omega)]; exact not_false), if_neg (by rw [show (200 : Int32) = zI 200 from rfl, zI_lt (by omega) (by omega)]; omega)]
            simp only [Option.bind_some]
            rw [p_name53, if_pos rfl, hq]
          · show f9_beginObject_53 (wW u r) (zI p) (enc par) (zI κ.val) 1 = _
            unfold f9_beginObject_53 f9_beginObject_70
            rw [if_neg (by decide), wW_17, if_pos (by rw [hf, h200]; rfl), q_fail p hr]; rfl
        · right
          obtain ⟨g, hg1, hg2, hg3⟩ := p_growF (bT := bT) hT hL hpar κ (by omega) hd
          obtain ⟨b, hb1, hb2, hb3⟩ := q_beg53 (s := s) (u := u) (r := r) hm (by omega) κ par p
          rw [hf] at hb2 hb3
          refine ⟨κ, g, b, by omega, by omega, (hok rfl).1, (hok rfl).2, ?_, hb1, hg2, hg3, hb2, hb3⟩
          rw [hg1]
          simp only [Option.bind_some]
          rw [p_name53, if_neg (by rw [zI_ne1 (by omega)]; exact not_false), hq]
    cases par with
    | none =>
      have h1 := hgo (decide (κ = 0)) (fun h => ⟨fun _ => by simpa using h, fun q hh => by cases hh⟩)
      show NmO uS u bT t n v s r none p ((fx_X7_mayHold (yY bT s) (-1) κ).bind _) (if (-1 : Int32) = -1 then _ else _)
      rw [p_mayHoldN (hp0 rfl), if_pos rfl]
      simp only [Option.bind_some]
      by_cases h0 : κ = 0
      · rw [decide_eq_true h0] at h1 ⊢
        rw [if_pos (show zI κ.val = 0 by rw [h0]; rfl)]
        exact h1
      · rw [decide_eq_false h0] at h1 ⊢
        rw [if_neg (show ¬ zI κ.val = 0 by
          intro hh
          apply h0
          have hv := κ.isLt
          rw [zI_z (by omega)] at hh
          exact Fin.ext hh)]
        exact h1
    | some q' =>
      have hk := hpar q' rfl
      show NmO uS u bT t n v s r (some q') p ((fx_X7_mayHold (yY bT s) (zI q') κ).bind _) (if zI (tK s q').val = -1 then _ else _)
      have hv := (tK s q').isLt
      rw [p_mayHold hT hk, if_neg (by rw [zI_ne1 (by omega)]; exact not_false)]
      rw [show pkI s (some q') = zI (tK s q').val from rfl, t_canBe]
      cases t_may κ (tK s q') with
      | inl h =>
        have h1 := hgo false (fun h => by cases h)
        rw [h]
        exact h1
      | inr h =>
        have h1 := hgo true (fun _ => ⟨fun hh => (by cases hh), fun q2 hq2 => ⟨fun h0 => by
          rw [h0, t_canBe0] at h
          exact absurd h (by decide), fun h9 => by
          have e := Option.some.inj hq2
          rw [← e] at h9
          rw [h9, t_canBe9] at h
          exact absurd h (by decide)⟩⟩)
        rw [h]
        exact h1
end NMP
