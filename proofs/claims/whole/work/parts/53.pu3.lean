/-! numbers -/
def zL (a : Nat) : Int64 := Int64.ofNat a
set_option maxRecDepth 100000 in
set_option maxHeartbeats 4000000 in
theorem zL_add (a b : Nat) : zL a + zL b = zL (a + b) := (Int64.ofNat_add a b).symm
set_option maxRecDepth 100000 in
set_option maxHeartbeats 4000000 in
theorem zL_mul (a b : Nat) : zL a * zL b = zL (a * b) := (Int64.ofNat_mul a b).symm
set_option maxRecDepth 100000 in
set_option maxHeartbeats 4000000 in
theorem zL_sub (a b : Nat) : zL (a + b) - zL b = zL a := by rw [← zL_add, Int64.add_sub_cancel]
set_option maxRecDepth 100000 in
set_option maxHeartbeats 4000000 in
theorem zI_L {a : Nat} (h : a < 2147483648) : (zI a).toInt64 = zL a := by
  apply Int64.toInt_inj.mp
  rw [Int32.toInt_toInt64, zI_toInt h]
  exact (Int64.toInt_ofNat_of_lt (by omega)).symm
set_option maxRecDepth 100000 in
set_option maxHeartbeats 4000000 in
theorem zI_subn {a : Nat} (h : a < 2147483647) : zI a - zI (a + 1) = -1 := by
  apply Int32.toInt_inj.mp
  rw [Int32.toInt_sub, zI_toInt (by omega), zI_toInt (by omega), show ((a : Int) - ((a + 1 : Nat) : Int)) = -1 by omega]
  rfl
/-- the digit that a character is -/
def dg (c : Int32) : Nat := c.toNatClampNeg - 48
set_option maxRecDepth 100000 in
set_option maxHeartbeats 4000000 in
theorem isD_ex {c : Int32} (h : isD c = true) : ∃ d, d ≤ 9 ∧ c = zI (48 + d) ∧ dg c = d := by
  unfold isD at h
  simp only [Bool.and_eq_true, Bool.not_eq_true', decide_eq_false_iff_not] at h
  have h1 := h.1
  have h2 := h.2
  rw [Int32.lt_iff_toInt_lt] at h1 h2
  have e1 : (48 : Int32).toInt = 48 := rfl
  have e2 : (57 : Int32).toInt = 57 := rfl
  rw [e1] at h1
  rw [e2] at h2
  have hc : c = zI (48 + (c.toInt.toNat - 48)) := by
    apply Int32.toInt_inj.mp
    rw [zI_toInt (by omega)]
    omega
  refine ⟨c.toInt.toNat - 48, by omega, hc, ?_⟩
  unfold dg
  rw [show c.toNatClampNeg = c.toInt.toNat from rfl]
def vR (t : Nat → Int32) : Nat → Nat → Nat → Nat
  | _, 0, a => a
  | p, j + 1, a => vR t (p + 1) j (10 * a + dg (t p))
set_option maxRecDepth 100000 in
set_option maxHeartbeats 4000000 in
theorem vR_lin (t : Nat → Int32) : ∀ j p a, vR t p j a = 10 ^ j * a + vR t p j 0
  | 0, p, a => by show a = 10 ^ 0 * a + 0; omega
  | j + 1, p, a => by
    show vR t (p + 1) j (10 * a + dg (t p)) = 10 ^ (j + 1) * a + vR t (p + 1) j (10 * 0 + dg (t p))
    rw [vR_lin t j (p + 1) (10 * a + dg (t p)), vR_lin t j (p + 1) (10 * 0 + dg (t p)), Nat.pow_succ, Nat.mul_add, Nat.mul_add, Nat.mul_zero, Nat.zero_add, Nat.mul_assoc, Nat.add_assoc]
/-- behind at most m digits -/
def dE (t : Nat → Int32) (n p m : Nat) : Nat := skF isD t (min (p + m - p) (n - p)) p
set_option maxRecDepth 100000 in
set_option maxHeartbeats 4000000 in
theorem dE_ge {t : Nat → Int32} {n p m : Nat} : p ≤ dE t n p m := (skF_ge isD t _ p).1
set_option maxRecDepth 100000 in
set_option maxHeartbeats 4000000 in
theorem dE_le {t : Nat → Int32} {n p m : Nat} : dE t n p m ≤ p + m ∧ (p ≤ n → dE t n p m ≤ n) := by
  have h := (skF_ge isD t (min (p + m - p) (n - p)) p).2
  unfold dE
  constructor
  · omega
  · intro _; omega
set_option maxRecDepth 100000 in
set_option maxHeartbeats 4000000 in
theorem skF_all (P : Int32 → Bool) (t : Nat → Int32) : ∀ k p j, p ≤ j → j < skF P t k p → P (t j) = true
  | 0, p, j, h1, h2 => by unfold skF at h2; omega
  | k + 1, p, j, h1, h2 => by
    unfold skF at h2
    by_cases hP : P (t p) = true
    · rw [if_pos hP] at h2
      by_cases hj : j = p
      · rw [hj]; exact hP
      · exact skF_all P t k (p + 1) j (by omega) h2
    · rw [if_neg hP] at h2; omega
set_option maxRecDepth 100000 in
set_option maxHeartbeats 4000000 in
theorem dE_all {t : Nat → Int32} {n p m j : Nat} (h1 : p ≤ j) (h2 : j < dE t n p m) : isD (t j) = true := skF_all isD t _ p j h1 h2
set_option maxRecDepth 100000 in
set_option maxHeartbeats 4000000 in
theorem zI_dg {c : Int32} (h : isD c = true) (a : Nat) : zL a * 10 + (c - 48).toInt64 = zL (10 * a + dg c) := by
  obtain ⟨d, hd, hc, he⟩ := isD_ex h
  rw [he, hc, show (48 : Int32) = zI 48 from rfl, zI_sub (by omega) (by omega), zI_L (by omega), show (10 : Int64) = zL 10 from rfl, zL_mul, zL_add, Nat.add_sub_cancel_left, Nat.mul_comm]
set_option maxRecDepth 100000 in
set_option maxHeartbeats 4000000 in
theorem zI_dg9 {c : Int32} (h : isD c = true) (a : Nat) : (10 * zL a + c.toInt64) - 48 = zL (10 * a + dg c) := by
  obtain ⟨d, hd, hc, he⟩ := isD_ex h
  rw [he, hc, zI_L (by omega), show (10 : Int64) = zL 10 from rfl, zL_mul, zL_add, show (48 : Int64) = zL 48 from rfl, show 10 * a + (48 + d) = 10 * a + d + 48 by omega, zL_sub]
section NUM
variable {uS u : Md} {t : Nat → Int32} {n : Nat}
set_option maxRecDepth 100000 in
set_option maxHeartbeats 4000000 in
theorem p_digits (h : SOk uS t n) (f : Int32) {p m : Nat} (hm : m < 100) (hp : p < 100000) : ∀ k q F a, min (p + m - q) (n - q) = k → k < F → p ≤ q → q ≤ p + m → fx_X6_takeDigits_5 F (sS uS q f (zL a)) (zI m) (zI p) = fx_X6_takeDigits_70 (sS uS (skF isD t k q) f (zL (vR t q (skF isD t k q - q) a))) (zI p) := by
  have hn := h.le
  intro k
  induction k with
  | zero =>
    intro q F a hk hF hpq hqm
    obtain ⟨F, rfl⟩ : ∃ F', F = F' + 1 := ⟨F - 1, by omega⟩
    have e : skF isD t 0 q = q := rfl
    rw [e, Nat.sub_self]
    by_cases hq : q < n
    · simp (disch := omega) only [fx_X6_takeDigits_5, sS_1, sS_2, sS_3, sS_a, sS_l, sS_s2, sS_s3, sS_sl, h.sz, zI_sub, zI_le, zI_lt, zI_inj, zI_z, zI_lz, zI_zl, zI_neg, zI_nat, zI_add, zI_one, zI_mul, zI_ne1, zI_1n, leT, leF, ltT, ltF, eqT, eqF, if_true, if_false, Option.bind_some, false_or, or_false, true_or, or_true, true_and, and_true, false_and, and_false, not_true_eq_false, not_false_eq_true, reduceIte]
      rfl
    · simp (disch := omega) only [fx_X6_takeDigits_5, sS_1, sS_2, sS_3, sS_a, sS_l, sS_s2, sS_s3, sS_sl, h.sz, zI_le, zI_lt, zI_inj, zI_z, zI_lz, zI_zl, zI_neg, zI_nat, zI_add, zI_one, zI_mul, zI_ne1, zI_1n, leT, leF, ltT, ltF, eqT, eqF, if_true, if_false, Option.bind_some, false_or, or_false, true_or, or_true, true_and, and_true, false_and, and_false, not_true_eq_false, not_false_eq_true, reduceIte]
      rfl
  | succ k ih =>
    intro q F a hk hF hpq hqm
    obtain ⟨F, rfl⟩ : ∃ F', F = F' + 1 := ⟨F - 1, by omega⟩
    have hq : q < n := by omega
    simp (disch := omega) only [fx_X6_takeDigits_5, p_mark h, cAt_in hq, d_digit, bI_z, sS_1, sS_2, sS_3, sS_a, sS_l, sS_s2, sS_s3, sS_sl, h.sz, zI_sub, zI_le, zI_lt, zI_inj, zI_z, zI_lz, zI_zl, zI_neg, zI_nat, zI_add, zI_one, zI_mul, zI_ne1, zI_1n, leT, leF, ltT, ltF, eqT, eqF, if_true, if_false, Option.bind_some, false_or, or_false, true_or, or_true, true_and, and_true, false_and, and_false, not_true_eq_false, not_false_eq_true, reduceIte]
    by_cases hd : isD (t q) = true
    · have hs : skF isD t (k + 1) q = skF isD t k (q + 1) := if_pos hd
      have hg := (skF_ge isD t k (q + 1)).1
      rw [if_neg (by rw [hd]; decide), zI_dg hd, ih (q + 1) F _ (by omega) (by omega) (by omega) (by omega), hs, show skF isD t k (q + 1) - q = (skF isD t k (q + 1) - (q + 1)) + 1 by omega]
      rfl
    · have hs : skF isD t (k + 1) q = q := if_neg hd
      rw [if_pos (by simpa using hd), hs, Nat.sub_self]
      rfl
set_option maxRecDepth 100000 in
set_option maxHeartbeats 4000000 in
theorem q_digits (h : ROk u t n) {p m : Nat} (hm : m < 100) (hp : p < 100000) : ∀ k q F, min (p + m - q) (n - q) = k → k < F → p ≤ q → q ≤ p + m → f9_digits_2 F u (zI p) (zI m) (zI q) = f9_digits_26 u (zI p) (zI (skF isD t k q)) := by
  have hn := h.le
  intro k
  induction k with
  | zero =>
    intro q F hk hF hpq hqm
    obtain ⟨F, rfl⟩ : ∃ F', F = F' + 1 := ⟨F - 1, by omega⟩
    have e : skF isD t 0 q = q := rfl
    rw [e]
    by_cases hq : q < n
    · simp (disch := omega) only [f9_digits_2, q_c h, cAt_in hq, e_digit, bI_z, zI_sub, zI_le, zI_lt, zI_inj, zI_z, zI_lz, zI_zl, zI_neg, zI_nat, zI_add, zI_one, zI_mul, zI_ne1, zI_1n, leT, leF, ltT, ltF, eqT, eqF, if_true, if_false, Option.bind_some, false_or, or_false, true_or, or_true, true_and, and_true, false_and, and_false, not_true_eq_false, not_false_eq_true, reduceIte]
      split <;> rfl
    · simp (disch := omega) only [f9_digits_2, q_c h, cAt_out hq, e_digit, bI_z, zI_sub, zI_le, zI_lt, zI_inj, zI_z, zI_lz, zI_zl, zI_neg, zI_nat, zI_add, zI_one, zI_mul, zI_ne1, zI_1n, leT, leF, ltT, ltF, eqT, eqF, if_true, if_false, Option.bind_some, false_or, or_false, true_or, or_true, true_and, and_true, false_and, and_false, not_true_eq_false, not_false_eq_true, reduceIte]
      rw [if_pos (by decide)]
  | succ k ih =>
    intro q F hk hF hpq hqm
    obtain ⟨F, rfl⟩ : ∃ F', F = F' + 1 := ⟨F - 1, by omega⟩
    have hq : q < n := by omega
    simp (disch := omega) only [f9_digits_2, q_c h, cAt_in hq, e_digit, bI_z, zI_sub, zI_le, zI_lt, zI_inj, zI_z, zI_lz, zI_zl, zI_neg, zI_nat, zI_add, zI_one, zI_mul, zI_ne1, zI_1n, leT, leF, ltT, ltF, eqT, eqF, if_true, if_false, Option.bind_some, false_or, or_false, true_or, or_true, true_and, and_true, false_and, and_false, not_true_eq_false, not_false_eq_true, reduceIte]
    by_cases hd : isD (t q) = true
    · have hs : skF isD t (k + 1) q = skF isD t k (q + 1) := if_pos hd
      rw [if_neg (by rw [hd]; decide), ih (q + 1) F (by omega) (by omega) (by omega) (by omega), hs]
    · have hs : skF isD t (k + 1) q = q := if_neg hd
      rw [if_pos (by simpa using hd), hs]
set_option maxRecDepth 100000 in
set_option maxHeartbeats 4000000 in
theorem q_value (h : ROk u t n) {q : Nat} (hq : q ≤ n) : ∀ j p F a, q - p = j → j < F → p ≤ q → (∀ i, p ≤ i → i < q → isD (t i) = true) → f9_valueOf_5 u F (zI q) (zL a) (zI p) = some (zL (vR t p j a)) := by
  have hn := h.le
  intro j
  induction j with
  | zero =>
    intro p F a hj hF hp hall
    obtain ⟨F, rfl⟩ : ∃ F', F = F' + 1 := ⟨F - 1, by omega⟩
    simp (disch := omega) only [f9_valueOf_5, zI_le, zI_lt, zI_inj, zI_z, zI_lz, zI_zl, zI_neg, zI_nat, zI_add, zI_one, zI_mul, zI_ne1, zI_1n, leT, leF, ltT, ltF, eqT, eqF, if_true, if_false, Option.bind_some, false_or, or_false, true_or, or_true, true_and, and_true, false_and, and_false, not_true_eq_false, not_false_eq_true, reduceIte]
    rfl
  | succ j ih =>
    intro p F a hj hF hp hall
    obtain ⟨F, rfl⟩ : ∃ F', F = F' + 1 := ⟨F - 1, by omega⟩
    have hd := hall p (by omega) (by omega)
    simp (disch := omega) only [f9_valueOf_5, f9_valueOf_46, h.tx, e_digit, bI_z, zI_le, zI_lt, zI_inj, zI_z, zI_lz, zI_zl, zI_neg, zI_nat, zI_add, zI_one, zI_mul, zI_ne1, zI_1n, leT, leF, ltT, ltF, eqT, eqF, if_true, if_false, Option.bind_some, false_or, or_false, true_or, or_true, true_and, and_true, false_and, and_false, not_true_eq_false, not_false_eq_true, reduceIte]
    rw [if_neg (by rw [hd]; decide), zI_dg9 hd, ih (p + 1) F _ (by omega) (by omega) (by omega) (fun i h1 h2 => hall i (by omega) h2)]
    rfl
/-- what reading a number comes to: the place of a fault, or the place behind it and its value -/
def NF (lo hi : Int64) (p q : Nat) (v : Int64) : Nat ⊕ (Nat × Int64) := if lg_cmp v lo < 0 then .inl p else if 0 < lg_cmp v hi then .inl p else .inr (q, v)
def NG (neg : Bool) (lo hi : Int64) (p q a : Nat) : Nat ⊕ (Nat × Int64) := NF lo hi p q (if neg = true then -(zL a) else zL a)
def NP (t : Nat → Int32) (n : Nat) (neg : Bool) (lo hi : Int64) (p q a : Nat) : Nat ⊕ (Nat × Int64) :=
  if cAt t n q = 46 then
    if dE t n (q + 1) 6 = q + 1 ∨ isD (cAt t n (dE t n (q + 1) 6)) = true then .inl (dE t n (q + 1) 6)
    else NG neg lo hi p (dE t n (q + 1) 6) (vR t (q + 1) (dE t n (q + 1) 6 - (q + 1)) a * 10 ^ (6 - (dE t n (q + 1) 6 - (q + 1))))
  else NG neg lo hi p q (a * 10 ^ 6)
def NB (t : Nat → Int32) (n : Nat) (neg len : Bool) (lo hi : Int64) (p a : Nat) : Nat ⊕ (Nat × Int64) :=
  if dE t n a 4 = a ∨ isD (cAt t n (dE t n a 4)) = true then .inl (dE t n a 4)
  else if len = true then NP t n neg lo hi p (dE t n a 4) (vR t a (dE t n a 4 - a) 0)
  else NG neg lo hi p (dE t n a 4) (vR t a (dE t n a 4 - a) 0)
def NR (t : Nat → Int32) (n : Nat) (len : Bool) (lo hi : Int64) (p : Nat) : Nat ⊕ (Nat × Int64) :=
  if cAt t n p = 45 then NB t n true len lo hi p (p + 1) else NB t n false len lo hi p p
/-- the program's answer to it -/
def NC (uS : Md) (o : Option (Int32 × Md)) (x : Nat ⊕ (Nat × Int64)) : Prop := match x with
  | .inl e => ∃ a w, o = some (0, sS uS a (zI e) w)
  | .inr q => o = some (1, sS uS q.1 (-1) q.2)
/-- the reference's -/
def NQ (u : Md) (r : Rst) (n : Nat) (o : Option (Int32 × Md)) (x : Nat ⊕ (Nat × Int64)) : Prop := match x with
  | .inl e => ∃ q w, q ≤ n + 20 ∧ o = some (zI q, wW u ((r.s_fault (zI e)).s_lnum (w)))
  | .inr q => q.1 ≤ n + 20 ∧ o = some (zI q.1, wW u (r.s_lnum (q.2)))
set_option maxRecDepth 100000 in
set_option maxHeartbeats 4000000 in
theorem p_num78 (fd : Fin 8) (p q : Nat) (v : Int64) : NC uS (fx_X6_takeNumber_78 (sS uS q (-1) v) fd (zI p)) (NF (fLow fd) (fHigh fd) p q v) := by
  unfold fx_X6_takeNumber_78 fx_X0_admits NF fx_X6_failAt
  simp only [sS_l, sS_s3]
  by_cases h1 : lg_cmp v (fLow fd) < 0
  · simp only [h1, if_true, Option.bind_some]
    exact ⟨q, v, rfl⟩
  · by_cases h2 : 0 < lg_cmp v (fHigh fd)
    · simp only [h1, h2, if_true, if_false, Option.bind_some]
      exact ⟨q, v, rfl⟩
    · simp only [h1, h2, if_false, Option.bind_some]
      exact rfl
set_option maxRecDepth 100000 in
set_option maxHeartbeats 4000000 in
theorem p_num65 (fd : Fin 8) (p q a : Nat) (neg : Bool) : NC uS (fx_X6_takeNumber_65 (sS uS q (-1) (zL a)) fd (zI p) (bI neg)) (NG neg (fLow fd) (fHigh fd) p q a) := by
  unfold fx_X6_takeNumber_65 NG
  cases neg
  · exact p_num78 fd p q _
  · exact p_num78 fd p q _
set_option maxRecDepth 100000 in
set_option maxHeartbeats 4000000 in
theorem p_times (f : Int32) (q : Nat) : ∀ k j F a, 6 - j = k → j ≤ 6 → k < F → fx_X6_takePointDigits_48 F (sS uS q f (zL a)) (zI j) = some (1, sS uS q f (zL (a * 10 ^ k))) := by
  intro k
  induction k with
  | zero =>
    intro j F a hj h6 hF
    obtain ⟨F, rfl⟩ : ∃ F', F = F' + 1 := ⟨F - 1, by omega⟩
    unfold fx_X6_takePointDigits_48
    rw [if_pos (by rw [show (6 : Int32) = zI 6 from rfl, zI_le (by omega) (by omega)]; omega), Nat.pow_zero, Nat.mul_one]
  | succ k ih =>
    intro j F a hj h6 hF
    obtain ⟨F, rfl⟩ : ∃ F', F = F' + 1 := ⟨F - 1, by omega⟩
    unfold fx_X6_takePointDigits_48
    rw [if_neg (by rw [show (6 : Int32) = zI 6 from rfl, zI_le (by omega) (by omega)]; omega), zI_one, sS_l, sS_sl, show (10 : Int64) = zL 10 from rfl, zL_mul, ih (j + 1) F _ (by omega) (by omega) (by omega), Nat.mul_assoc, Nat.pow_succ, Nat.mul_comm 10]
set_option maxRecDepth 100000 in
set_option maxHeartbeats 4000000 in
theorem p_d70 (h : SOk uS t n) {q p : Nat} (f : Int32) (v : Int64) (hq : q < 100000) (hp : p < 100000) : fx_X6_takeDigits_70 (sS uS q f v) (zI p) = if q ≤ p ∨ isD (cAt t n q) = true then some (0, sS uS q (zI q) v) else some (1, sS uS q f v) := by
  unfold fx_X6_takeDigits_70 fx_X6_takeDigits_88 fx_X6_failAt
  simp (disch := omega) only [p_mark h, d_digit, bI_z, sS_1, sS_2, sS_3, sS_a, sS_l, sS_s2, sS_s3, sS_sl, zI_le, Option.bind_some, if_true]
  by_cases h1 : q ≤ p
  · simp only [h1, true_or, if_true]
  · cases h2 : isD (cAt t n q) <;> simp [h1]
set_option maxRecDepth 100000 in
set_option maxHeartbeats 4000000 in
theorem p_take (h : SOk uS t n) (f : Int32) {p m : Nat} (a : Nat) (hm : m < 100) (hp : p < 10000) : fx_X6_takeDigits (sS uS p f (zL a)) (zI m) = if dE t n p m = p ∨ isD (cAt t n (dE t n p m)) = true then some (0, sS uS (dE t n p m) (zI (dE t n p m)) (zL (vR t p (dE t n p m - p) a))) else some (1, sS uS (dE t n p m) f (zL (vR t p (dE t n p m - p) a))) := by
  have h1 := @dE_ge t n p m
  have h2 := (@dE_le t n p m).1
  have hn := h.le
  unfold fx_X6_takeDigits
  rw [sS_2, p_digits h f hm (by omega) _ p FU a rfl (by unfold FU; omega) (by omega) (by omega)]
  show fx_X6_takeDigits_70 (sS uS (dE t n p m) f (zL (vR t p (dE t n p m - p) a))) (zI p) = _
  rw [p_d70 h f _ (by omega) (by omega)]
  have he : (dE t n p m ≤ p) = (dE t n p m = p) := propext ⟨fun _ => by omega, fun _ => by omega⟩
  simp only [he]
set_option maxRecDepth 100000 in
set_option maxHeartbeats 4000000 in
theorem p_num39 (h : SOk uS t n) (fd : Fin 8) {p a : Nat} (neg : Bool) (hp : p ≤ n) (ha : a ≤ n + 1) : NC uS (fx_X6_takeNumber_39 (sS uS a (-1) (zL 0)) fd (zI p) (bI neg)) (NB t n neg (decide (fSort fd = 1)) (fLow fd) (fHigh fd) p a) := by
  have hn := h.le
  have h1 := @dE_ge t n a 4
  have h2 := (@dE_le t n a 4).1
  unfold fx_X6_takeNumber_39 NB
  rw [show (4 : Int32) = zI 4 from rfl, p_take h (-1) 0 (by omega) (by omega)]
  by_cases hb : dE t n a 4 = a ∨ isD (cAt t n (dE t n a 4)) = true
  · rw [if_pos hb, if_pos hb]
    exact ⟨_, _, rfl⟩
  · rw [if_neg hb, if_neg hb]
    simp only [Option.bind_some]
    rw [if_neg (by decide)]
    unfold fx_X0_isLength
    by_cases hl : fSort fd = 1
    · rw [if_pos hl, if_pos (by simpa using hl)]
      simp only [Option.bind_some]
      rw [if_neg (by decide)]
      unfold fx_X6_takePointDigits NP
      rw [p_mark h (-1) _ (by omega)]
      simp only [Option.bind_some, sS_2, zI_one, sS_s2]
      generalize hg : vR t a (dE t n a 4 - a) 0 = A
      generalize hq : dE t n a 4 = q at *
      by_cases hd : cAt t n q = 46
      · rw [if_pos hd, if_pos hd]
        have h3 := @dE_ge t n (q + 1) 6
        have h4 := (@dE_le t n (q + 1) 6).1
        rw [show (6 : Int32) = zI 6 from rfl, p_take h (-1) A (by omega) (by omega)]
        by_cases hb2 : dE t n (q + 1) 6 = q + 1 ∨ isD (cAt t n (dE t n (q + 1) 6)) = true
        · rw [if_pos hb2, if_pos hb2]
          exact ⟨_, _, rfl⟩
        · rw [if_neg hb2, if_neg hb2]
          simp only [Option.bind_some]
          rw [if_neg (by decide)]
          unfold fx_X6_takePointDigits_37
          rw [sS_2, zI_sub h3 (by omega), if_neg (by rw [zI_neg (by omega)]; exact not_false), p_times (-1) _ _ _ FU _ rfl (by omega) (by unfold FU; omega)]
          simp only [Option.bind_some]
          rw [if_neg (by decide)]
          exact p_num65 fd p _ _ neg
      · rw [if_neg hd, if_neg hd]
        unfold fx_X6_takePointDigits_37
        rw [sS_2, zI_subn (by omega), if_pos (by decide), show (0 : Int32) = zI 0 from rfl, p_times (-1) q 6 0 FU A rfl (by omega) (by unfold FU; omega)]
        simp only [Option.bind_some]
        rw [if_neg (by decide)]
        exact p_num65 fd p q _ neg
    · rw [if_neg hl, if_neg (by simpa using hl)]
      simp only [Option.bind_some]
      rw [if_pos trivial]
      exact p_num65 fd p _ _ neg
set_option maxRecDepth 100000 in
set_option maxHeartbeats 4000000 in
/-- the program reads a number -/
theorem p_number (h : SOk uS t n) (fd : Fin 8) {p : Nat} (v : Int64) (hp : p ≤ n) : NC uS (fx_X6_takeNumber (sS uS p (-1) v) fd) (NR t n (decide (fSort fd = 1)) (fLow fd) (fHigh fd) p) := by
  have hn := h.le
  unfold fx_X6_takeNumber fx_X6_takeNumber_24 NR
  rw [sS_sl, p_mark h (-1) 0 (by omega), sS_2]
  simp only [Option.bind_some]
  by_cases hm : cAt t n p = 45
  · rw [if_pos hm, if_pos hm, if_neg (by decide), sS_2, zI_one, sS_s2]
    exact p_num39 h fd true hp (by omega)
  · rw [if_neg hm, if_neg hm, if_pos trivial]
    exact p_num39 h fd false hp (by omega)
set_option maxRecDepth 100000 in
set_option maxHeartbeats 4000000 in
theorem q_fail {r : Rst} (p : Nat) (hr : r.fault = -1) : f9_fail (wW u r) (zI p) = some (wW u (r.s_fault (zI p))) := by
  unfold f9_fail
  rw [wW_18, if_pos hr, wW_s18]
set_option maxRecDepth 100000 in
set_option maxHeartbeats 4000000 in
theorem q_fail2 {r : Rst} (x : Int32) (hr : r.fault ≠ -1) : f9_fail (wW u r) x = some (wW u r) := by
  unfold f9_fail
  rw [wW_18, if_neg hr]
set_option maxRecDepth 100000 in
set_option maxHeartbeats 4000000 in
theorem q_num173 {r : Rst} (lo hi v : Int64) (p q : Nat) (hr : r.fault = -1) (hq : q ≤ n + 20) : NQ u r n (f9_readNumber_173 (wW u r) (zI p) lo hi (zI q) v) (NF lo hi p q v) := by
  unfold f9_readNumber_173 f9_readNumber_190 f9_readNumber_195 NF
  by_cases h1 : lg_cmp v lo < 0
  · rw [if_pos h1, if_pos h1, q_fail p hr]
    exact ⟨q, v, hq, rfl⟩
  · rw [if_neg h1, if_neg h1]
    by_cases h2 : 0 < lg_cmp v hi
    · rw [if_pos h2, if_neg (by rw [Int32.not_le]; exact h2), q_fail p hr]
      exact ⟨q, v, hq, rfl⟩
    · rw [if_neg h2, if_pos (by rw [Int32.not_lt] at h2; exact h2)]
      exact ⟨hq, rfl⟩
set_option maxRecDepth 100000 in
set_option maxHeartbeats 4000000 in
theorem q_num158 {r : Rst} (lo hi : Int64) (p q a b : Nat) (neg : Bool) (hb : b = if neg = true then p + 1 else p) (hp : p < 10000) (hr : r.fault = -1) (hq : q ≤ n + 20) : NQ u r n (f9_readNumber_158 (wW u r) (zI p) lo hi (zI b) (zI q) (zL a)) (NG neg lo hi p q a) := by
  unfold f9_readNumber_158 NG
  cases neg
  · rw [hb, if_pos (by rw [if_neg (by decide), zI_le (by omega) (by omega)]; omega), if_neg (by decide)]
    exact q_num173 lo hi _ p q hr hq
  · rw [hb, if_neg (by rw [if_pos rfl, zI_le (by omega) (by omega)]; omega), if_pos rfl, Int64.zero_sub]
    exact q_num173 lo hi _ p q hr hq
set_option maxRecDepth 100000 in
set_option maxHeartbeats 4000000 in
theorem q_num158f {r : Rst} (lo hi v : Int64) (p : Nat) (x : Int32) (q : Int32) (hr : r.fault ≠ -1) : ∃ w, f9_readNumber_158 (wW u r) (zI p) lo hi x q v = some (q, wW u (r.s_lnum (w))) := by
  have h3 : ∀ y, ∃ w, f9_readNumber_173 (wW u r) (zI p) lo hi q y = some (q, wW u (r.s_lnum (w))) := by
    intro y
    unfold f9_readNumber_173 f9_readNumber_190 f9_readNumber_195
    rw [q_fail2 _ hr]
    refine ⟨y, ?_⟩
    split
    · rfl
    · split <;> rfl
  unfold f9_readNumber_158
  split
  · exact h3 _
  · exact h3 _
set_option maxRecDepth 100000 in
set_option maxHeartbeats 4000000 in
theorem q_num126 {r : Rst} (lo hi : Int64) (p q b A : Nat) (neg : Bool) (hb : b = if neg = true then p + 1 else p) (hp : p < 10000) (hr : r.fault = -1) (hq : q ≤ n + 20) : ∀ k j F a, 6 - j = k → j ≤ 6 → k < F → NQ u r n (f9_readNumber_126 F (wW u r) (zI p) lo hi (zI b) (zL A) (zI q) (zL a) (zI j)) (NG neg lo hi p q (A + a * 10 ^ k)) := by
  intro k
  induction k with
  | zero =>
    intro j F a hj h6 hF
    obtain ⟨F, rfl⟩ : ∃ F', F = F' + 1 := ⟨F - 1, by omega⟩
    unfold f9_readNumber_126 f9_readNumber_154
    rw [if_pos (by rw [show (6 : Int32) = zI 6 from rfl, zI_le (by omega) (by omega)]; omega), zL_add, Nat.pow_zero, Nat.mul_one]
    exact q_num158 lo hi p q _ b neg hb hp hr hq
  | succ k ih =>
    intro j F a hj h6 hF
    obtain ⟨F, rfl⟩ : ∃ F', F = F' + 1 := ⟨F - 1, by omega⟩
    unfold f9_readNumber_126
    rw [if_neg (by rw [show (6 : Int32) = zI 6 from rfl, zI_le (by omega) (by omega)]; omega), zI_one, show (10 : Int64) = zL 10 from rfl, zL_mul, Nat.pow_succ, Nat.mul_comm (10 ^ k) 10, ← Nat.mul_assoc, Nat.mul_comm a 10]
    exact ih (j + 1) F _ (by omega) (by omega) (by omega)
set_option maxRecDepth 100000 in
set_option maxHeartbeats 4000000 in
theorem q_dig (h : ROk u t n) {r : Rst} {p m : Nat} (hm : m < 100) (hp : p < 10000) (hr : r.fault = -1) : f9_digits (wW u r) (zI p) (zI m) = some (zI (dE t n p m), wW u (if dE t n p m = p ∨ isD (cAt t n (dE t n p m)) = true then (r.s_fault (zI (dE t n p m))) else r)) := by
  have h1 := @dE_ge t n p m
  have h2 := (@dE_le t n p m).1
  have hn := h.le
  unfold f9_digits
  rw [q_digits (wW_ok h r) hm (by omega) _ p FU rfl (by unfold FU; omega) (by omega) (by omega)]
  show f9_digits_26 (wW u r) (zI p) (zI (dE t n p m)) = _
  unfold f9_digits_26 f9_digits_42
  rw [q_c (wW_ok h r) (by omega), q_fail _ hr]
  simp (disch := omega) only [zI_inj, Option.bind_some, e_digit, bI_z]
  by_cases h3 : dE t n p m = p
  · rw [if_pos h3, if_pos (Or.inl h3)]
  · rw [if_neg h3]
    by_cases h4 : isD (cAt t n (dE t n p m)) = true
    · rw [if_neg (by rw [h4]; decide), if_pos (Or.inr h4)]
    · rw [if_pos (by simpa using h4), if_neg (by intro h5; cases h5 with | inl h => exact h3 h | inr h => exact h4 h)]
set_option maxRecDepth 100000 in
set_option maxHeartbeats 4000000 in
theorem q_num17 (h : ROk u t n) {r : Rst} (len : Bool) (lo hi : Int64) {p b : Nat} (neg : Bool) (hb : b = if neg = true then p + 1 else p) (hr : r.fault = -1) (hp : p ≤ n) : NQ u r n (f9_readNumber_17 (wW u r) (zI p) (bI len) lo hi (zI b)) (NB t n neg len lo hi p b) := by
  have hn := h.le
  have hb2 : b ≤ n + 1 := by rw [hb]; split <;> omega
  have h1 := @dE_ge t n b 4
  have h2 := (@dE_le t n b 4).1
  unfold f9_readNumber_17 NB
  rw [show (4 : Int32) = zI 4 from rfl, q_dig h (by omega) (by omega) hr]
  simp only [Option.bind_some, wW_18]
  by_cases hbad : dE t n b 4 = b ∨ isD (cAt t n (dE t n b 4)) = true
  · rw [if_pos hbad, if_pos hbad]
    have hne : (zI (dE t n b 4) = -1) = False := zI_ne1 (by omega)
    have hne2 : ((r.s_fault (zI (dE t n b 4))) : Rst).fault ≠ -1 := by intro hh; rw [← hne]; exact hh
    rw [if_neg hne2]
    unfold f9_readNumber_48 f9_readNumber_62
    have key : ∀ v : Int64, ∃ w, f9_readNumber_158 (wW u (r.s_fault (zI (dE t n b 4)))) (zI p) lo hi (zI b) (zI (dE t n b 4)) v = some (zI (dE t n b 4), wW u ((r.s_fault (zI (dE t n b 4))).s_lnum (w))) := fun v => q_num158f lo hi v p _ _ hne2
    cases len
    · rw [if_pos (by decide), if_pos (by decide)]
      obtain ⟨w, hw⟩ := key 0
      exact ⟨_, w, by omega, hw⟩
    · rw [if_neg (by decide), if_neg (by decide), if_neg (by rw [wW_18]; exact hne2)]
      obtain ⟨w, hw⟩ := key (1000000 * 0)
      exact ⟨_, w, by omega, hw⟩
  · rw [if_neg hbad, if_neg hbad, if_pos hr]
    have hqn : dE t n b 4 ≤ n := by
      have := (@dE_le t n b 4).2
      by_cases hbn : b ≤ n
      · exact this hbn
      · exfalso
        apply hbad
        left
        unfold dE
        rw [show n - b = 0 by omega, Nat.min_zero]
        rfl
    have hv := q_value (wW_ok h r) (q := dE t n b 4) hqn (dE t n b 4 - b) b FU 0 rfl (by unfold FU; omega) h1 (fun i h3 h4 => dE_all h3 h4)
    unfold f9_valueOf
    rw [show (0 : Int64) = zL 0 from rfl, hv]
    simp only [Option.bind_some]
    generalize hg : vR t b (dE t n b 4 - b) 0 = A
    generalize hq : dE t n b 4 = q at *
    unfold f9_readNumber_48 f9_readNumber_62
    cases len
    · rw [if_pos (by decide), if_pos (by decide), if_neg (by decide)]
      exact q_num158 lo hi p q A b neg hb (by omega) hr (by omega)
    · rw [if_neg (by decide), if_neg (by decide), if_pos (by rw [wW_18]; exact hr), q_c (wW_ok h r) (by omega), if_pos rfl]
      simp only [Option.bind_some]
      unfold NP
      rw [show (1000000 : Int64) = zL (10 ^ 6) from rfl, zL_mul]
      by_cases hd : cAt t n q = 46
      · rw [if_pos hd, if_pos hd, zI_one]
        have hqn2 : q < n := by
          apply Classical.byContradiction
          intro hh
          rw [cAt_out hh] at hd
          exact absurd hd (by decide)
        have h3 := @dE_ge t n (q + 1) 6
        have h4 := @dE_le t n (q + 1) 6
        rw [show (6 : Int32) = zI 6 from rfl, q_dig h (by omega) (by omega) hr]
        simp only [Option.bind_some, wW_18]
        by_cases hb3 : dE t n (q + 1) 6 = q + 1 ∨ isD (cAt t n (dE t n (q + 1) 6)) = true
        · rw [if_pos hb3, if_pos hb3]
          have hne : (zI (dE t n (q + 1) 6) = -1) = False := zI_ne1 (by omega)
          have hne2 : ((r.s_fault (zI (dE t n (q + 1) 6))) : Rst).fault ≠ -1 := by intro hh; rw [← hne]; exact hh
          rw [if_neg hne2]
          unfold f9_readNumber_154
          obtain ⟨w, hw⟩ := q_num158f (u := u) lo hi (zL (10 ^ 6 * A)) p (zI b) (zI (dE t n (q + 1) 6)) hne2
          exact ⟨_, w, by omega, hw⟩
        · rw [if_neg hb3, if_neg hb3, if_pos hr]
          have hv2 := q_value (wW_ok h r) (q := dE t n (q + 1) 6) (h4.2 (by omega)) (dE t n (q + 1) 6 - (q + 1)) (q + 1) FU 0 rfl (by unfold FU; omega) h3 (fun i h5 h6 => dE_all h5 h6)
          unfold f9_valueOf
          rw [show (0 : Int64) = zL 0 from rfl, hv2]
          simp only [Option.bind_some]
          rw [zI_sub (by omega) (by omega), show (1 : Int32) = zI 1 from rfl, zI_sub (by omega) (by omega)]
          have hk := q_num126 (n := n) (u := u) lo hi p (dE t n (q + 1) 6) b (10 ^ 6 * A) neg hb (by omega) hr (by omega) _ (dE t n (q + 1) 6 - q - 1) FU (vR t (q + 1) (dE t n (q + 1) 6 - (q + 1)) 0) rfl (by omega) (by unfold FU; omega)
          have hval : 10 ^ 6 * A + vR t (q + 1) (dE t n (q + 1) 6 - (q + 1)) 0 * 10 ^ (6 - (dE t n (q + 1) 6 - q - 1)) = vR t (q + 1) (dE t n (q + 1) 6 - (q + 1)) A * 10 ^ (6 - (dE t n (q + 1) 6 - (q + 1))) := by
            rw [vR_lin t _ (q + 1) A, Nat.sub_sub, Nat.add_mul, Nat.mul_right_comm, ← Nat.pow_add, show dE t n (q + 1) 6 - (q + 1) + (6 - (dE t n (q + 1) 6 - (q + 1))) = 6 by omega]
          rw [hval] at hk
          exact hk
      · rw [if_neg hd, if_neg hd, Nat.mul_comm (10 ^ 6) A]
        exact q_num158 lo hi p q _ b neg hb (by omega) hr (by omega)
set_option maxRecDepth 100000 in
set_option maxHeartbeats 4000000 in
/-- the reference reads a number -/
theorem q_number (h : ROk u t n) {r : Rst} (len : Bool) (lo hi : Int64) {p : Nat} (hr : r.fault = -1) (hp : p ≤ n) : NQ u r n (f9_readNumber (wW u r) (zI p) (bI len) lo hi) (NR t n len lo hi p) := by
  have hn := h.le
  unfold f9_readNumber NR
  rw [q_c (wW_ok h r) (by omega)]
  simp only [Option.bind_some]
  by_cases hm : cAt t n p = 45
  · rw [if_pos hm, if_pos hm, zI_one]
    exact q_num17 h len lo hi true rfl hr hp
  · rw [if_neg hm, if_neg hm]
    exact q_num17 h len lo hi false rfl hr hp
end NUM
