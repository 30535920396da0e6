/-! places and scans of the text -/
def bI (b : Bool) : Int32 := if b = true then 1 else 0
set_option maxRecDepth 100000 in
set_option maxHeartbeats 4000000 in
theorem bI_z (b : Bool) : (bI b = 0) = (b = false) := by cases b <;> decide
set_option maxRecDepth 100000 in
set_option maxHeartbeats 4000000 in
theorem bI_1 (b : Bool) : (bI b = 1) = (b = true) := by cases b <;> decide
def isNF (c : Int32) : Bool := !decide (c = 10)
def isDot (c : Int32) : Bool := decide (c = 46)
def isT (c : Int32) : Bool := !decide (c < 32) && !decide (126 < c)
def isE (c : Int32) : Bool := decide (c = 34) || decide (c = 92)
def isB (c : Int32) : Bool := decide (c = 32) || decide (c = 10)
def isD (c : Int32) : Bool := !decide (c < 48) && !decide (57 < c)
def isS (c : Int32) : Bool := !decide (c < 97) && !decide (122 < c)
set_option maxRecDepth 100000 in
set_option maxHeartbeats 4000000 in
theorem e_blank (c : Int32) : f9_isBlank c = some (bI (isB c)) := by
  unfold f9_isBlank bI isB; by_cases h : c = 32 <;> by_cases h2 : c = 10 <;> simp [h, h2]
set_option maxRecDepth 100000 in
set_option maxHeartbeats 4000000 in
theorem e_digit (c : Int32) : f9_isDigit c = some (bI (isD c)) := by
  unfold f9_isDigit bI isD; by_cases h : c < 48 <;> by_cases h2 : 57 < c <;> simp [h, h2]
set_option maxRecDepth 100000 in
set_option maxHeartbeats 4000000 in
theorem e_small (c : Int32) : f9_isSmall c = some (bI (isS c)) := by
  unfold f9_isSmall bI isS; by_cases h : c < 97 <;> by_cases h2 : 122 < c <;> simp [h, h2]
set_option maxRecDepth 100000 in
set_option maxHeartbeats 4000000 in
theorem d_digit (c : Int32) : fx_X8_isDigit c = some (bI (isD c)) := by
  unfold fx_X8_isDigit bI isD; by_cases h : c < 48 <;> by_cases h2 : 57 < c <;> simp [h, h2]
set_option maxRecDepth 100000 in
set_option maxHeartbeats 4000000 in
theorem d_small (c : Int32) : fx_X8_isSmallLetter c = some (bI (isS c)) := by
  unfold fx_X8_isSmallLetter bI isS; by_cases h : c < 97 <;> by_cases h2 : 122 < c <;> simp [h, h2]
set_option maxRecDepth 100000 in
set_option maxHeartbeats 4000000 in
theorem d_text (c : Int32) : fx_X8_isTextMark c = some (bI (isT c)) := by
  unfold fx_X8_isTextMark bI isT; by_cases h : c < 32 <;> by_cases h2 : 126 < c <;> simp [h, h2]
set_option maxRecDepth 100000 in
set_option maxHeartbeats 4000000 in
theorem d_esc (c : Int32) : fx_X8_needsEscape c = some (bI (isE c)) := by
  unfold fx_X8_needsEscape bI isE; by_cases h : c = 34 <;> by_cases h2 : c = 92 <;> simp [h, h2]
section TXT
variable {uS u : Md} {t : Nat → Int32} {n : Nat}
set_option maxRecDepth 100000 in
set_option maxHeartbeats 4000000 in
theorem p_markAt (h : SOk uS t n) {p : Nat} (hp : p < 1000000) : fx_X6_markAt uS (zI p) = some (cAt t n p) := by
  have hn := h.le
  unfold fx_X6_markAt
  rw [h.sz, h.tx]
  by_cases hq : p < n
  · rw [cAt_in hq]
    simp (disch := omega) only [zI_le, zI_lt, zI_inj, zI_z, zI_lz, zI_zl, zI_neg, zI_nat, zI_add, zI_one, zI_mul, zI_ne1, zI_1n, leT, leF, ltT, ltF, eqT, eqF, if_true, if_false, Option.bind_some, false_or, or_false, true_or, or_true, true_and, and_true, false_and, and_false, not_true_eq_false, not_false_eq_true, reduceIte]
  · rw [cAt_out hq]
    simp (disch := omega) only [zI_le, zI_lt, zI_inj, zI_z, zI_lz, zI_zl, zI_neg, zI_nat, zI_add, zI_one, zI_mul, zI_ne1, zI_1n, leT, leF, ltT, ltF, eqT, eqF, if_true, if_false, Option.bind_some, false_or, or_false, true_or, or_true, true_and, and_true, false_and, and_false, not_true_eq_false, not_false_eq_true, reduceIte]
set_option maxRecDepth 100000 in
set_option maxHeartbeats 4000000 in
theorem p_mark (h : SOk uS t n) {p : Nat} (f : Int32) (v : Int64) (hp : p < 1000000) : fx_X6_mark (sS uS p f v) = some (cAt t n p) := by
  have hn := h.le
  unfold fx_X6_mark
  rw [sS_1, sS_2, sS_a, h.sz, h.tx]
  by_cases hq : p < n
  · rw [cAt_in hq]
    simp (disch := omega) only [zI_le, zI_lt, zI_inj, zI_z, zI_lz, zI_zl, zI_neg, zI_nat, zI_add, zI_one, zI_mul, zI_ne1, zI_1n, leT, leF, ltT, ltF, eqT, eqF, if_true, if_false, Option.bind_some, false_or, or_false, true_or, or_true, true_and, and_true, false_and, and_false, not_true_eq_false, not_false_eq_true, reduceIte]
  · rw [cAt_out hq]
    simp (disch := omega) only [zI_le, zI_lt, zI_inj, zI_z, zI_lz, zI_zl, zI_neg, zI_nat, zI_add, zI_one, zI_mul, zI_ne1, zI_1n, leT, leF, ltT, ltF, eqT, eqF, if_true, if_false, Option.bind_some, false_or, or_false, true_or, or_true, true_and, and_true, false_and, and_false, not_true_eq_false, not_false_eq_true, reduceIte]
set_option maxRecDepth 100000 in
set_option maxHeartbeats 4000000 in
theorem q_c (h : ROk u t n) {p : Nat} (hp : p < 1000000) : f9_c u (zI p) = some (cAt t n p) := by
  have hn := h.le
  unfold f9_c
  rw [h.sz, h.tx]
  by_cases hq : p < n
  · rw [cAt_in hq]
    simp (disch := omega) only [zI_le, zI_lt, zI_inj, zI_z, zI_lz, zI_zl, zI_neg, zI_nat, zI_add, zI_one, zI_mul, zI_ne1, zI_1n, leT, leF, ltT, ltF, eqT, eqF, if_true, if_false, Option.bind_some, false_or, or_false, true_or, or_true, true_and, and_true, false_and, and_false, not_true_eq_false, not_false_eq_true, reduceIte]
  · rw [cAt_out hq]
    simp (disch := omega) only [zI_le, zI_lt, zI_inj, zI_z, zI_lz, zI_zl, zI_neg, zI_nat, zI_add, zI_one, zI_mul, zI_ne1, zI_1n, leT, leF, ltT, ltF, eqT, eqF, if_true, if_false, Option.bind_some, false_or, or_false, true_or, or_true, true_and, and_true, false_and, and_false, not_true_eq_false, not_false_eq_true, reduceIte]
set_option maxRecDepth 100000 in
set_option maxHeartbeats 4000000 in
theorem p_blanks (h : SOk uS t n) (f : Int32) (v : Int64) : ∀ k p F, n - p = k → k < F → p < 100000 → fx_X6_passBlanks_0 F (sS uS p f v) = some (sS uS (sk isB t n p) f v) := by
  have hn := h.le
  intro k
  induction k with
  | zero =>
    intro p F hk hF hp
    obtain ⟨F, rfl⟩ : ∃ F', F = F' + 1 := ⟨F - 1, by omega⟩
    simp (disch := omega) only [fx_X6_passBlanks_0, sS_1, sS_2, sS_3, sS_a, sS_l, sS_s2, sS_s3, sS_sl, h.sz, zI_le, zI_lt, zI_inj, zI_z, zI_lz, zI_zl, zI_neg, zI_nat, zI_add, zI_one, zI_mul, zI_ne1, zI_1n, leT, leF, ltT, ltF, eqT, eqF, if_true, if_false, Option.bind_some, false_or, or_false, true_or, or_true, true_and, and_true, false_and, and_false, not_true_eq_false, not_false_eq_true, reduceIte, sk_out]
  | succ k ih =>
    intro p F hk hF hp
    obtain ⟨F, rfl⟩ : ∃ F', F = F' + 1 := ⟨F - 1, by omega⟩
    have hq : p < n := by omega
    simp (disch := omega) only [fx_X6_passBlanks_0, fx_X6_passBlanks_29, p_mark h, cAt_in hq, sS_1, sS_2, sS_3, sS_a, sS_l, sS_s2, sS_s3, sS_sl, h.sz, zI_le, zI_lt, zI_inj, zI_z, zI_lz, zI_zl, zI_neg, zI_nat, zI_add, zI_one, zI_mul, zI_ne1, zI_1n, leT, leF, ltT, ltF, eqT, eqF, if_true, if_false, Option.bind_some, false_or, or_false, true_or, or_true, true_and, and_true, false_and, and_false, not_true_eq_false, not_false_eq_true, reduceIte]
    rw [ih (p + 1) F (by omega) (by omega) (by omega)]
    by_cases h32 : t p = 32
    · rw [if_pos h32, sk_yes hq (by simp [isB, h32])]
    · rw [if_neg h32]
      by_cases h10 : t p = 10
      · rw [if_pos h10, sk_yes hq (by simp [isB, h10])]
      · rw [if_neg h10, sk_no (by simp [isB, h10, h32])]
set_option maxRecDepth 100000 in
set_option maxHeartbeats 4000000 in
theorem q_blanks (h : ROk u t n) : ∀ k p F, n - p = k → k < F → p < 100000 → f9_blanks_2 u F (zI p) = some (zI (sk isB t n p)) := by
  have hn := h.le
  intro k
  induction k with
  | zero =>
    intro p F hk hF hp
    obtain ⟨F, rfl⟩ : ∃ F', F = F' + 1 := ⟨F - 1, by omega⟩
    have hq : ¬ p < n := by omega
    simp (disch := omega) only [f9_blanks_2, q_c h, cAt_out hq, e_blank, bI_z, zI_le, zI_lt, zI_inj, zI_z, zI_lz, zI_zl, zI_neg, zI_nat, zI_add, zI_one, zI_mul, zI_ne1, zI_1n, leT, leF, ltT, ltF, eqT, eqF, if_true, if_false, Option.bind_some, false_or, or_false, true_or, or_true, true_and, and_true, false_and, and_false, not_true_eq_false, not_false_eq_true, reduceIte, sk_out]
    rw [if_pos (by decide)]
  | succ k ih =>
    intro p F hk hF hp
    obtain ⟨F, rfl⟩ : ∃ F', F = F' + 1 := ⟨F - 1, by omega⟩
    have hq : p < n := by omega
    simp (disch := omega) only [f9_blanks_2, q_c h, cAt_in hq, e_blank, bI_z, zI_le, zI_lt, zI_inj, zI_z, zI_lz, zI_zl, zI_neg, zI_nat, zI_add, zI_one, zI_mul, zI_ne1, zI_1n, leT, leF, ltT, ltF, eqT, eqF, if_true, if_false, Option.bind_some, false_or, or_false, true_or, or_true, true_and, and_true, false_and, and_false, not_true_eq_false, not_false_eq_true, reduceIte]
    rw [ih (p + 1) F (by omega) (by omega) (by omega)]
    by_cases hb : isB (t p) = true
    · rw [if_neg (by rw [hb]; decide), sk_yes hq hb]
    · rw [if_pos (by simpa using hb), sk_no hb]
set_option maxRecDepth 100000 in
set_option maxHeartbeats 4000000 in
theorem p_letters (h : SOk uS t n) (f : Int32) (v : Int64) : ∀ k p F, n - p = k → k < F → p < 100000 → fx_X6_passLetters_0 F (sS uS p f v) = some (sS uS (sk isS t n p) f v) := by
  have hn := h.le
  intro k
  induction k with
  | zero =>
    intro p F hk hF hp
    obtain ⟨F, rfl⟩ : ∃ F', F = F' + 1 := ⟨F - 1, by omega⟩
    simp (disch := omega) only [fx_X6_passLetters_0, sS_1, sS_2, sS_3, sS_a, sS_l, sS_s2, sS_s3, sS_sl, h.sz, zI_le, zI_lt, zI_inj, zI_z, zI_lz, zI_zl, zI_neg, zI_nat, zI_add, zI_one, zI_mul, zI_ne1, zI_1n, leT, leF, ltT, ltF, eqT, eqF, if_true, if_false, Option.bind_some, false_or, or_false, true_or, or_true, true_and, and_true, false_and, and_false, not_true_eq_false, not_false_eq_true, reduceIte, sk_out]
  | succ k ih =>
    intro p F hk hF hp
    obtain ⟨F, rfl⟩ : ∃ F', F = F' + 1 := ⟨F - 1, by omega⟩
    have hq : p < n := by omega
    simp (disch := omega) only [fx_X6_passLetters_0, p_mark h, cAt_in hq, d_small, bI_z, sS_1, sS_2, sS_3, sS_a, sS_l, sS_s2, sS_s3, sS_sl, h.sz, zI_le, zI_lt, zI_inj, zI_z, zI_lz, zI_zl, zI_neg, zI_nat, zI_add, zI_one, zI_mul, zI_ne1, zI_1n, leT, leF, ltT, ltF, eqT, eqF, if_true, if_false, Option.bind_some, false_or, or_false, true_or, or_true, true_and, and_true, false_and, and_false, not_true_eq_false, not_false_eq_true, reduceIte]
    rw [ih (p + 1) F (by omega) (by omega) (by omega)]
    by_cases hb : isS (t p) = true
    · rw [if_neg (by rw [hb]; decide), sk_yes hq hb]
    · rw [if_pos (by simpa using hb), sk_no hb]
set_option maxRecDepth 100000 in
set_option maxHeartbeats 4000000 in
theorem q_nameEnd (h : ROk u t n) : ∀ k p F, n - p = k → k < F → p < 100000 → f9_nameEnd_2 u F (zI p) = some (zI (sk isS t n p)) := by
  have hn := h.le
  intro k
  induction k with
  | zero =>
    intro p F hk hF hp
    obtain ⟨F, rfl⟩ : ∃ F', F = F' + 1 := ⟨F - 1, by omega⟩
    have hq : ¬ p < n := by omega
    simp (disch := omega) only [f9_nameEnd_2, q_c h, cAt_out hq, e_small, bI_z, zI_le, zI_lt, zI_inj, zI_z, zI_lz, zI_zl, zI_neg, zI_nat, zI_add, zI_one, zI_mul, zI_ne1, zI_1n, leT, leF, ltT, ltF, eqT, eqF, if_true, if_false, Option.bind_some, false_or, or_false, true_or, or_true, true_and, and_true, false_and, and_false, not_true_eq_false, not_false_eq_true, reduceIte, sk_out]
    rw [if_pos (by decide)]
  | succ k ih =>
    intro p F hk hF hp
    obtain ⟨F, rfl⟩ : ∃ F', F = F' + 1 := ⟨F - 1, by omega⟩
    have hq : p < n := by omega
    simp (disch := omega) only [f9_nameEnd_2, q_c h, cAt_in hq, e_small, bI_z, zI_le, zI_lt, zI_inj, zI_z, zI_lz, zI_zl, zI_neg, zI_nat, zI_add, zI_one, zI_mul, zI_ne1, zI_1n, leT, leF, ltT, ltF, eqT, eqF, if_true, if_false, Option.bind_some, false_or, or_false, true_or, or_true, true_and, and_true, false_and, and_false, not_true_eq_false, not_false_eq_true, reduceIte]
    rw [ih (p + 1) F (by omega) (by omega) (by omega)]
    by_cases hb : isS (t p) = true
    · rw [if_neg (by rw [hb]; decide), sk_yes hq hb]
    · rw [if_pos (by simpa using hb), sk_no hb]
set_option maxRecDepth 100000 in
set_option maxHeartbeats 4000000 in
theorem p_lineEnd (h : SOk uS t n) : ∀ k p F, n - p = k → k < F → p ≤ n → fx_X6_lineEnd_2 uS F (zI p) = some (zI (sk isNF t n p)) := by
  have hn := h.le
  intro k
  induction k with
  | zero =>
    intro p F hk hF hp
    obtain ⟨F, rfl⟩ : ∃ F', F = F' + 1 := ⟨F - 1, by omega⟩
    simp (disch := omega) only [fx_X6_lineEnd_2, fx_X6_lineEnd_26, h.sz, zI_le, zI_lt, zI_inj, zI_z, zI_lz, zI_zl, zI_neg, zI_nat, zI_add, zI_one, zI_mul, zI_ne1, zI_1n, leT, leF, ltT, ltF, eqT, eqF, if_true, if_false, Option.bind_some, false_or, or_false, true_or, or_true, true_and, and_true, false_and, and_false, not_true_eq_false, not_false_eq_true, reduceIte, sk_out]
  | succ k ih =>
    intro p F hk hF hp
    obtain ⟨F, rfl⟩ : ∃ F', F = F' + 1 := ⟨F - 1, by omega⟩
    have hq : p < n := by omega
    simp (disch := omega) only [fx_X6_lineEnd_2, fx_X6_lineEnd_26, p_markAt h, cAt_in hq, h.sz, zI_le, zI_lt, zI_inj, zI_z, zI_lz, zI_zl, zI_neg, zI_nat, zI_add, zI_one, zI_mul, zI_ne1, zI_1n, leT, leF, ltT, ltF, eqT, eqF, if_true, if_false, Option.bind_some, false_or, or_false, true_or, or_true, true_and, and_true, false_and, and_false, not_true_eq_false, not_false_eq_true, reduceIte]
    rw [ih (p + 1) F (by omega) (by omega) (by omega)]
    by_cases hb : t p = 10
    · rw [if_pos hb, sk_no (by simp [isNF, hb])]
    · rw [if_neg hb, sk_yes hq (by simp [isNF, hb])]
set_option maxRecDepth 100000 in
set_option maxHeartbeats 4000000 in
theorem q_lineEnd (h : ROk u t n) : ∀ k p F, n - p = k → k < F → p < 100000 → f9_lineEnd_2 u F (zI p) = some (zI (sk isNF t n p)) := by
  have hn := h.le
  intro k
  induction k with
  | zero =>
    intro p F hk hF hp
    obtain ⟨F, rfl⟩ : ∃ F', F = F' + 1 := ⟨F - 1, by omega⟩
    simp (disch := omega) only [f9_lineEnd_2, h.sz, zI_le, zI_lt, zI_inj, zI_z, zI_lz, zI_zl, zI_neg, zI_nat, zI_add, zI_one, zI_mul, zI_ne1, zI_1n, leT, leF, ltT, ltF, eqT, eqF, if_true, if_false, Option.bind_some, false_or, or_false, true_or, or_true, true_and, and_true, false_and, and_false, not_true_eq_false, not_false_eq_true, reduceIte, sk_out]
  | succ k ih =>
    intro p F hk hF hp
    obtain ⟨F, rfl⟩ : ∃ F', F = F' + 1 := ⟨F - 1, by omega⟩
    have hq : p < n := by omega
    simp (disch := omega) only [f9_lineEnd_2, h.sz, h.tx, zI_le, zI_lt, zI_inj, zI_z, zI_lz, zI_zl, zI_neg, zI_nat, zI_add, zI_one, zI_mul, zI_ne1, zI_1n, leT, leF, ltT, ltF, eqT, eqF, if_true, if_false, Option.bind_some, false_or, or_false, true_or, or_true, true_and, and_true, false_and, and_false, not_true_eq_false, not_false_eq_true, reduceIte]
    rw [ih (p + 1) F (by omega) (by omega) (by omega)]
    by_cases hb : t p = 10
    · rw [if_pos hb, sk_no (by simp [isNF, hb])]
    · rw [if_neg hb, sk_yes hq (by simp [isNF, hb])]
set_option maxRecDepth 100000 in
set_option maxHeartbeats 4000000 in
theorem p_dots (h : SOk uS t n) {p : Nat} : ∀ k j F, n - (p + j) = k → k < F → p + j ≤ n + 1 → (j ≤ n) → fx_X6_dotsFrom_2 uS F (zI p) (zI j) = some (zI (sk isDot t n (p + j) - p)) := by
  have hn := h.le
  intro k
  induction k with
  | zero =>
    intro j F hk hF hp hj
    obtain ⟨F, rfl⟩ : ∃ F', F = F' + 1 := ⟨F - 1, by omega⟩
    have hq : ¬ p + j < n := by omega
    by_cases hjn : j = n
    · simp (disch := omega) only [fx_X6_dotsFrom_2, h.sz, zI_le, zI_lt, zI_inj, zI_z, zI_lz, zI_zl, zI_neg, zI_nat, zI_add, zI_one, zI_mul, zI_ne1, zI_1n, leT, leF, ltT, ltF, eqT, eqF, if_true, if_false, Option.bind_some, false_or, or_false, true_or, or_true, true_and, and_true, false_and, and_false, not_true_eq_false, not_false_eq_true, reduceIte, sk_out, Nat.add_sub_cancel_left]
    · simp (disch := omega) only [fx_X6_dotsFrom_2, p_markAt h, cAt_out hq, h.sz, zI_le, zI_lt, zI_inj, zI_z, zI_lz, zI_zl, zI_neg, zI_nat, zI_add, zI_one, zI_mul, zI_ne1, zI_1n, leT, leF, ltT, ltF, eqT, eqF, if_true, if_false, Option.bind_some, false_or, or_false, true_or, or_true, true_and, and_true, false_and, and_false, not_true_eq_false, not_false_eq_true, reduceIte, sk_out, Nat.add_sub_cancel_left]
      rw [if_neg (by decide)]
  | succ k ih =>
    intro j F hk hF hp hj
    obtain ⟨F, rfl⟩ : ∃ F', F = F' + 1 := ⟨F - 1, by omega⟩
    have hq : p + j < n := by omega
    simp (disch := omega) only [fx_X6_dotsFrom_2, p_markAt h, cAt_in hq, h.sz, zI_le, zI_lt, zI_inj, zI_z, zI_lz, zI_zl, zI_neg, zI_nat, zI_add, zI_one, zI_mul, zI_ne1, zI_1n, leT, leF, ltT, ltF, eqT, eqF, if_true, if_false, Option.bind_some, false_or, or_false, true_or, or_true, true_and, and_true, false_and, and_false, not_true_eq_false, not_false_eq_true, reduceIte]
    have e := ih (j + 1) F (by omega) (by omega) (by omega) (by omega)
    rw [show p + (j + 1) = p + j + 1 from rfl] at e
    rw [e]
    by_cases hb : t (p + j) = 46
    · rw [if_pos hb, sk_yes hq (by simp [isDot, hb])]
    · rw [if_neg hb, sk_no (by simp [isDot, hb]), Nat.add_sub_cancel_left]
set_option maxRecDepth 100000 in
set_option maxHeartbeats 4000000 in
theorem q_dots (h : ROk u t n) {p : Nat} : ∀ k q F, n - q = k → k < F → p ≤ q → q ≤ n + 1 → f9_dots_2 u F (zI p) (zI q) = some (zI (sk isDot t n q - p)) := by
  have hn := h.le
  intro k
  induction k with
  | zero =>
    intro q F hk hF hp hj
    obtain ⟨F, rfl⟩ : ∃ F', F = F' + 1 := ⟨F - 1, by omega⟩
    have hq : ¬ q < n := by omega
    simp (disch := omega) only [f9_dots_2, q_c h, cAt_out hq, zI_le, zI_lt, zI_inj, zI_z, zI_lz, zI_zl, zI_neg, zI_nat, zI_add, zI_one, zI_mul, zI_ne1, zI_1n, leT, leF, ltT, ltF, eqT, eqF, if_true, if_false, Option.bind_some, false_or, or_false, true_or, or_true, true_and, and_true, false_and, and_false, not_true_eq_false, not_false_eq_true, reduceIte, sk_out]
    rw [if_neg (by decide), zI_sub hp (by omega)]
  | succ k ih =>
    intro q F hk hF hp hj
    obtain ⟨F, rfl⟩ : ∃ F', F = F' + 1 := ⟨F - 1, by omega⟩
    have hq : q < n := by omega
    simp (disch := omega) only [f9_dots_2, q_c h, cAt_in hq, zI_le, zI_lt, zI_inj, zI_z, zI_lz, zI_zl, zI_neg, zI_nat, zI_add, zI_one, zI_mul, zI_ne1, zI_1n, leT, leF, ltT, ltF, eqT, eqF, if_true, if_false, Option.bind_some, false_or, or_false, true_or, or_true, true_and, and_true, false_and, and_false, not_true_eq_false, not_false_eq_true, reduceIte]
    rw [ih (q + 1) F (by omega) (by omega) (by omega) (by omega)]
    by_cases hb : t q = 46
    · rw [if_pos hb, sk_yes hq (by simp [isDot, hb])]
    · rw [if_neg hb, sk_no (by simp [isDot, hb]), zI_sub hp (by omega)]
end TXT
