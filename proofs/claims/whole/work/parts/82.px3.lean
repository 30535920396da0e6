/-! texts and kept texts written alike -/
/-- a text as it is written, its quotes aside -/
def txL (g : Nat → Int32) : Nat → Nat → List Int32
  | 0, _ => []
  | j + 1, i => (if isE (g i) = true then [92, g i] else [g i]) ++ txL g j (i + 1)
theorem txL_s (g : Nat → Int32) (j i : Nat) : txL g (j + 1) i = (if isE (g i) = true then [92, g i] else [g i]) ++ txL g j (i + 1) := id rfl
set_option maxRecDepth 100000 in
set_option maxHeartbeats 4000000 in
theorem txL_len (g : Nat → Int32) : ∀ j i, (txL g j i).length ≤ 2 * j
  | 0, _ => Nat.le_refl _
  | j + 1, i => by
    rw [txL_s, List.length_append]
    have := txL_len g j (i + 1)
    split <;> simp <;> omega
/-- a row of characters -/
def kpL (g : Nat → Int32) : Nat → Nat → List Int32
  | 0, _ => []
  | j + 1, i => g i :: kpL g j (i + 1)
theorem kpL_s (g : Nat → Int32) (j i : Nat) : kpL g (j + 1) i = g i :: kpL g j (i + 1) := id rfl
set_option maxRecDepth 100000 in
set_option maxHeartbeats 4000000 in
theorem kpL_len (g : Nat → Int32) : ∀ j i, (kpL g j i).length = j
  | 0, _ => rfl
  | j + 1, i => by rw [kpL_s, List.length_cons, kpL_len g j (i + 1)]
section WRX
variable {uP u bT : Md} {r : Rst} {s : Tst}
set_option maxRecDepth 100000 in
set_option maxHeartbeats 4000000 in
theorem isC_34 : isC 34 := Or.inl (by decide)
set_option maxRecDepth 100000 in
set_option maxHeartbeats 4000000 in
theorem isC_92 : isC 92 := Or.inl (by decide)
set_option maxRecDepth 100000 in
set_option maxHeartbeats 4000000 in
theorem p_textW {k w z : Nat} (hts : fx_X7_textSize (yY bT s) (zI k) (zI w) = some (zI z)) (hz : z ≤ 40) (hk : k < 200) (hw : w < 2) (hT : ∀ i, i < z → isT (s.marks ((k * 2 + w) * 40 + i)) = true) : ∀ j i F (l : List Int32), z - i = j → i ≤ z → j < F → l.length + 2 * j + 1 ≤ 60000 → fx_X5_putText_9 (yY bT s) F (pP uP l) (zI k) (zI w) (zI i) = some (pP uP (l ++ (txL (fun i => s.marks ((k * 2 + w) * 40 + i)) j i ++ [34]))) := by
  intro j
  induction j with
  | zero =>
    intro i F l hj hi hF hl
    obtain ⟨F, rfl⟩ : ∃ F', F = F' + 1 := ⟨F - 1, by omega⟩
    rw [fx_X5_putText_9, hts]
    simp only [Option.bind_some]
    rw [if_pos (by rw [zI_le (by omega) (by omega)]; omega), p_put isC_34 (by omega)]
    rfl
  | succ j ih =>
    intro i F l hj hi hF hl
    obtain ⟨F, rfl⟩ : ∃ F', F = F' + 1 := ⟨F - 1, by omega⟩
    have htm : fx_X7_textMark (yY bT s) (zI k) (zI w) (zI i) = some (s.marks ((k * 2 + w) * 40 + i)) := by
      unfold fx_X7_textMark
      rw [hts]
      simp (disch := omega) only [Option.bind_some, show (2 : Int32) = zI 2 from rfl, show (40 : Int32) = zI 40 from rfl, zI_le, zI_lt, zI_inj, zI_z, zI_lz, zI_zl, zI_neg, zI_nat, zI_add, zI_one, zI_mul, zI_ne1, zI_1n, leT, leF, ltT, ltF, eqT, eqF, if_true, if_false, Option.bind_some, false_or, or_false, true_or, or_true, true_and, and_true, false_and, and_false, not_true_eq_false, not_false_eq_true, reduceIte, yY_12, yY_13, yY_14, yY_15, yY_a0, yY_a1, yY_a2, yY_a3, yY_a4, yY_a5, yY_a7, yY_a8, yY_a9, yY_a10, yY_a11, yY_n]
    have hTi := hT i (by omega)
    rw [fx_X5_putText_9, hts]
    simp only [Option.bind_some]
    rw [if_neg (by rw [zI_le (by omega) (by omega)]; omega), htm]
    simp only [Option.bind_some]
    rw [d_esc, txL_s]
    simp only [Option.bind_some, bI_z]
    unfold fx_X5_putText_44
    by_cases hE : isE (s.marks ((k * 2 + w) * 40 + i)) = true
    · rw [if_neg (by rw [hE]; decide), if_pos hE, p_put isC_92 (by omega)]
      simp only [Option.bind_some]
      rw [p_put (Or.inl hTi) (by rw [List.length_append]; simp; omega)]
      simp only [Option.bind_some]
      rw [zI_one, ih (i + 1) F _ (by omega) (by omega) (by omega) (by rw [List.length_append, List.length_append]; simp; omega)]
      simp only [List.append_assoc]
      rfl
    · rw [if_pos (by simpa using hE), if_neg hE, p_put (Or.inl hTi) (by omega)]
      simp only [Option.bind_some]
      rw [zI_one, ih (i + 1) F _ (by omega) (by omega) (by omega) (by rw [List.length_append]; simp; omega)]
      simp only [List.append_assoc]
set_option maxRecDepth 100000 in
set_option maxHeartbeats 4000000 in
theorem q_textW {k w z : Nat} {g : Nat → Int32} (hts : r.tsz (k * 2 + w) = zI z) (hz : z ≤ 40) (hk : k < 200) (hw : w < 2) (hg : ∀ i, i < z → r.chars ((k * 2 + w) * 40 + i) = g i) : ∀ j i F (l : List Int32), z - i = j → i ≤ z → j < F → l.length + 2 * j + 1 ≤ 110000 → f9_sayText_8 F (wW (rP u l) r) (zI k) (zI w) (zI i) = some (wW (rP u (l ++ (txL g j i ++ [34]))) r) := by
  intro j
  induction j with
  | zero =>
    intro i F l hj hi hF hl
    obtain ⟨F, rfl⟩ : ∃ F', F = F' + 1 := ⟨F - 1, by omega⟩
    rw [f9_sayText_8]
    simp (disch := omega) only [show (2 : Int32) = zI 2 from rfl, zI_le, zI_lt, zI_inj, zI_z, zI_lz, zI_zl, zI_neg, zI_nat, zI_add, zI_one, zI_mul, zI_ne1, zI_1n, leT, leF, ltT, ltF, eqT, eqF, if_true, if_false, Option.bind_some, false_or, or_false, true_or, or_true, true_and, and_true, false_and, and_false, not_true_eq_false, not_false_eq_true, reduceIte, wW_a8]
    rw [Nat.mul_comm 2 k, hts, if_pos (by rw [zI_le (by omega) (by omega)]; omega), q_say (by omega)]
    rfl
  | succ j ih =>
    intro i F l hj hi hF hl
    obtain ⟨F, rfl⟩ : ∃ F', F = F' + 1 := ⟨F - 1, by omega⟩
    rw [f9_sayText_8]
    simp (disch := omega) only [show (2 : Int32) = zI 2 from rfl, show (80 : Int32) = zI 80 from rfl, show (40 : Int32) = zI 40 from rfl, zI_le, zI_lt, zI_inj, zI_z, zI_lz, zI_zl, zI_neg, zI_nat, zI_add, zI_one, zI_mul, zI_ne1, zI_1n, leT, leF, ltT, ltF, eqT, eqF, if_true, if_false, Option.bind_some, false_or, or_false, true_or, or_true, true_and, and_true, false_and, and_false, not_true_eq_false, not_false_eq_true, reduceIte, wW_a8, wW_a9]
    rw [Nat.mul_comm 2 k, hts, if_neg (by rw [zI_le (by omega) (by omega)]; omega), show 80 * k + 40 * w + i = (k * 2 + w) * 40 + i by omega, hg i (by omega), txL_s]
    unfold f9_sayText_54 f9_sayText_60
    have h1 : ((f9_say (wW (rP u l) r) 92).bind fun u_11 => (f9_say u_11 (g i)).bind fun u_13 => f9_sayText_8 F u_13 (zI k) (zI w) (zI i + 1)) = some (wW (rP u (l ++ ([92, g i] ++ txL g j (i + 1) ++ [34]))) r) := by
      rw [q_say (by omega)]
      simp only [Option.bind_some]
      rw [q_say (by rw [List.length_append]; simp; omega)]
      simp only [Option.bind_some]
      rw [zI_one, ih (i + 1) F _ (by omega) (by omega) (by omega) (by rw [List.length_append, List.length_append]; simp; omega)]
      simp only [List.append_assoc]
      rfl
    have h2 : ((f9_say (wW (rP u l) r) (g i)).bind fun u_13 => f9_sayText_8 F u_13 (zI k) (zI w) (zI i + 1)) = some (wW (rP u (l ++ ([g i] ++ txL g j (i + 1) ++ [34]))) r) := by
      rw [q_say (by omega)]
      simp only [Option.bind_some]
      rw [zI_one, ih (i + 1) F _ (by omega) (by omega) (by omega) (by rw [List.length_append]; simp; omega)]
      simp only [List.append_assoc]
    rw [h1, h2]
    unfold isE
    by_cases h34 : g i = 34
    · simp [h34]
    · by_cases h92 : g i = 92
      · simp [h34, h92]
      · simp [h34, h92]
end WRX
