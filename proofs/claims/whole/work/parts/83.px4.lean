/-! what was kept, written alike -/
section WRK
variable {uP u bT : Md} {r : Rst} {s : Tst}
set_option maxRecDepth 100000 in
set_option maxHeartbeats 4000000 in
theorem p_keptW {k a b : Nat} (hk : k < s.count) (hN : s.count ≤ 200) (ha : s.kfrom k = zI a) (hb : s.ksz k = zI b) (hab : a + b ≤ 2000) (hC : ∀ i, i < b → isC (s.kept (a + i))) : ∀ j i F (l : List Int32), b - i = j → i ≤ b → j < F → l.length + j ≤ 60000 → fx_X5_putKept_2 (yY bT s) F (pP uP l) (zI k) (zI i) = some (pP uP (l ++ kpL (fun i => s.kept (a + i)) j i)) := by
  have hks : fx_X7_keptSizeOf (yY bT s) (zI k) = some (zI b) := by
    unfold fx_X7_keptSizeOf
    rw [p_hasT hk hN]
    simp (disch := omega) only [Option.bind_some, one_nz, zI_le, zI_lt, zI_inj, zI_z, zI_lz, zI_zl, zI_neg, zI_nat, zI_add, zI_one, zI_mul, zI_ne1, zI_1n, leT, leF, ltT, ltF, eqT, eqF, if_true, if_false, Option.bind_some, false_or, or_false, true_or, or_true, true_and, and_true, false_and, and_false, not_true_eq_false, not_false_eq_true, reduceIte, yY_12, yY_13, yY_14, yY_15, yY_a0, yY_a1, yY_a2, yY_a3, yY_a4, yY_a5, yY_a7, yY_a8, yY_a9, yY_a10, yY_a11, yY_n, hb]
  intro j
  induction j with
  | zero =>
    intro i F l hj hi hF hl
    obtain ⟨F, rfl⟩ : ∃ F', F = F' + 1 := ⟨F - 1, by omega⟩
    rw [fx_X5_putKept_2, hks]
    simp only [Option.bind_some]
    rw [if_pos (by rw [zI_le (by omega) (by omega)]; omega)]
    show _ = some (pP uP (l ++ []))
    rw [List.append_nil]
  | succ j ih =>
    intro i F l hj hi hF hl
    obtain ⟨F, rfl⟩ : ∃ F', F = F' + 1 := ⟨F - 1, by omega⟩
    have hkm : fx_X7_keptMark (yY bT s) (zI k) (zI i) = some (s.kept (a + i)) := by
      unfold fx_X7_keptMark
      rw [hks]
      simp (disch := omega) only [Option.bind_some, show (2000 : Int32) = zI 2000 from rfl, zI_le, zI_lt, zI_inj, zI_z, zI_lz, zI_zl, zI_neg, zI_nat, zI_add, zI_one, zI_mul, zI_ne1, zI_1n, leT, leF, ltT, ltF, eqT, eqF, if_true, if_false, Option.bind_some, false_or, or_false, true_or, or_true, true_and, and_true, false_and, and_false, not_true_eq_false, not_false_eq_true, reduceIte, yY_12, yY_13, yY_14, yY_15, yY_a0, yY_a1, yY_a2, yY_a3, yY_a4, yY_a5, yY_a7, yY_a8, yY_a9, yY_a10, yY_a11, yY_n, ha]
    rw [fx_X5_putKept_2, hks]
    simp only [Option.bind_some]
    rw [if_neg (by rw [zI_le (by omega) (by omega)]; omega), hkm]
    simp only [Option.bind_some]
    rw [p_put (hC i (by omega)) (by omega)]
    simp only [Option.bind_some]
    rw [zI_one, ih (i + 1) F _ (by omega) (by omega) (by omega) (by rw [List.length_append]; simp; omega), kpL_s, List.append_assoc]
    rfl
set_option maxRecDepth 100000 in
set_option maxHeartbeats 4000000 in
theorem q_keptW {k a b : Nat} {g : Nat → Int32} (hk : k < 200) (ha : r.kfrom k = zI a) (hb : r.ksz k = zI b) (hab : a + b ≤ 2000) (hg : ∀ i, i < b → r.kept (a + i) = g i) : ∀ j i F (l : List Int32), b - i = j → i ≤ b → j < F → l.length + j ≤ 110000 → f9_sayOwn_13 F (wW (rP u l) r) (zI k) (zI i) = some (wW (rP u (l ++ kpL g j i)) r) := by
  intro j
  induction j with
  | zero =>
    intro i F l hj hi hF hl
    obtain ⟨F, rfl⟩ : ∃ F', F = F' + 1 := ⟨F - 1, by omega⟩
    rw [f9_sayOwn_13]
    simp (disch := omega) only [zI_le, zI_lt, zI_inj, zI_z, zI_lz, zI_zl, zI_neg, zI_nat, zI_add, zI_one, zI_mul, zI_ne1, zI_1n, leT, leF, ltT, ltF, eqT, eqF, if_true, if_false, Option.bind_some, false_or, or_false, true_or, or_true, true_and, and_true, false_and, and_false, not_true_eq_false, not_false_eq_true, reduceIte, wW_a11, hb]
    show _ = some (wW (rP u (l ++ [])) r)
    rw [List.append_nil]
  | succ j ih =>
    intro i F l hj hi hF hl
    obtain ⟨F, rfl⟩ : ∃ F', F = F' + 1 := ⟨F - 1, by omega⟩
    rw [f9_sayOwn_13]
    simp (disch := omega) only [zI_le, zI_lt, zI_inj, zI_z, zI_lz, zI_zl, zI_neg, zI_nat, zI_add, zI_one, zI_mul, zI_ne1, zI_1n, leT, leF, ltT, ltF, eqT, eqF, if_true, if_false, Option.bind_some, false_or, or_false, true_or, or_true, true_and, and_true, false_and, and_false, not_true_eq_false, not_false_eq_true, reduceIte, wW_a11, wW_a10, wW_a12, hb, ha]
    rw [hg i (by omega), q_say (by omega)]
    simp only [Option.bind_some]
    rw [ih (i + 1) F _ (by omega) (by omega) (by omega) (by rw [List.length_append]; simp; omega), kpL_s, List.append_assoc]
    rfl
end WRK
