/-! numbers written alike -/
set_option maxRecDepth 100000 in
set_option maxHeartbeats 4000000 in
theorem zI_div {a b : Nat} (ha : a < 2147483648) (hb : b < 2147483648) : zI a / zI b = zI (a / b) := by
  have h1 : zI b ≠ -1 := fun h => by rw [zI_ne1 hb] at h; exact h
  apply Int32.toInt_inj.mp
  rw [Int32.toInt_div_of_ne_right _ _ h1, zI_toInt ha, zI_toInt hb, zI_toInt (Nat.lt_of_le_of_lt (Nat.div_le_self a b) ha)]
  exact (Int.ofNat_tdiv a b).symm
set_option maxRecDepth 100000 in
set_option maxHeartbeats 4000000 in
theorem zL_toInt {a : Nat} (h : a < 9223372036854775808) : (zL a).toInt = (a : Int) := Int64.toInt_ofNat_of_lt h
set_option maxRecDepth 100000 in
set_option maxHeartbeats 4000000 in
theorem zL_le {a b : Nat} (ha : a < 9223372036854775808) (hb : b < 9223372036854775808) : (zL a ≤ zL b) = (a ≤ b) := by
  rw [Int64.le_iff_toInt_le, zL_toInt ha, zL_toInt hb]
  exact propext Int.ofNat_le
set_option maxRecDepth 100000 in
set_option maxHeartbeats 4000000 in
theorem zL_lt {a b : Nat} (ha : a < 9223372036854775808) (hb : b < 9223372036854775808) : (zL a < zL b) = (a < b) := by
  rw [Int64.lt_iff_toInt_lt, zL_toInt ha, zL_toInt hb]
  exact propext Int.ofNat_lt
set_option maxRecDepth 100000 in
set_option maxHeartbeats 4000000 in
theorem zL_div {a b : Nat} (ha : a < 9223372036854775808) (hb : b < 9223372036854775808) : zL a / zL b = zL (a / b) := by
  have h1 : zL b ≠ -1 := fun h => by
    have h2 := congrArg Int64.toInt h
    rw [zL_toInt hb] at h2
    have h3 : (-1 : Int64).toInt = -1 := by decide
    rw [h3] at h2
    omega
  apply Int64.toInt_inj.mp
  rw [Int64.toInt_div_of_ne_right _ _ h1, zL_toInt ha, zL_toInt hb, zL_toInt (Nat.lt_of_le_of_lt (Nat.div_le_self a b) ha)]
  exact (Int.ofNat_tdiv a b).symm
set_option maxRecDepth 100000 in
set_option maxHeartbeats 4000000 in
theorem zL_subl {a b : Nat} (h : b ≤ a) : zL a - zL b = zL (a - b) := by
  have h1 := zL_sub (a - b) b
  rw [Nat.sub_add_cancel h] at h1
  exact h1
set_option maxRecDepth 100000 in
set_option maxHeartbeats 4000000 in
theorem zL_I (a : Nat) : (zL a).toInt32 = zI a := Int64.toInt32_ofNat'
set_option maxRecDepth 100000 in
set_option maxHeartbeats 4000000 in
theorem isC_d {d : Nat} (h : d ≤ 9) : isC (zI (48 + d)) := by
  left
  have hall : ∀ x : Fin 10, isT (zI (48 + x.val)) = true := by decide
  exact hall ⟨d, by omega⟩
set_option maxRecDepth 100000 in
set_option maxHeartbeats 4000000 in
theorem isC_45 : isC 45 := Or.inl (by decide)
set_option maxRecDepth 100000 in
set_option maxHeartbeats 4000000 in
theorem isC_46 : isC 46 := Or.inl (by decide)
set_option maxRecDepth 100000 in
set_option maxHeartbeats 4000000 in
theorem isC_32 : isC 32 := Or.inl (by decide)
set_option maxRecDepth 100000 in
set_option maxHeartbeats 4000000 in
theorem isC_40 : isC 40 := Or.inl (by decide)
set_option maxRecDepth 100000 in
set_option maxHeartbeats 4000000 in
theorem isC_41 : isC 41 := Or.inl (by decide)
set_option maxRecDepth 100000 in
set_option maxHeartbeats 4000000 in
theorem isC_10 : isC 10 := Or.inr rfl
/-- a whole number below 10000, its digits -/
def wL (a : Nat) : List Int32 := (if 1000 ≤ a then [zI (48 + a / 1000 % 10)] else []) ++ (if 100 ≤ a then [zI (48 + a / 100 % 10)] else []) ++ (if 10 ≤ a then [zI (48 + a / 10 % 10)] else []) ++ [zI (48 + a / 1 % 10)]
set_option maxRecDepth 100000 in
set_option maxHeartbeats 4000000 in
theorem wL_len (a : Nat) : (wL a).length ≤ 4 := by
  unfold wL
  split <;> split <;> split <;> simp
/-- what stands behind the point -/
def ptL : Nat → Nat → List Int32
  | 0, _ => []
  | j + 1, m => if m = 0 then [] else zI (48 + m / 10 ^ j) :: ptL j (m % 10 ^ j)
theorem ptL_s (j m : Nat) : ptL (j + 1) m = if m = 0 then [] else zI (48 + m / 10 ^ j) :: ptL j (m % 10 ^ j) := id rfl
set_option maxRecDepth 100000 in
set_option maxHeartbeats 4000000 in
theorem ptL_len : ∀ j m, (ptL j m).length ≤ j
  | 0, _ => Nat.le_refl _
  | j + 1, m => by
    rw [ptL_s]
    have := ptL_len j (m % 10 ^ j)
    split
    · simp
    · simp; omega
def pj : Nat → Nat
  | 0 => 0
  | j + 1 => 10 ^ j
set_option maxRecDepth 100000 in
set_option maxHeartbeats 4000000 in
theorem pj_d : ∀ j, pj (j + 1) / 10 = pj j
  | 0 => rfl
  | j + 1 => by
    show 10 ^ (j + 1) / 10 = 10 ^ j
    rw [Nat.pow_succ, Nat.mul_div_cancel _ (by omega)]
section WNU
variable {uP u bT : Md} {r : Rst} {s : Tst}
set_option maxRecDepth 100000 in
set_option maxHeartbeats 4000000 in
theorem p_w6 {F a p q : Nat} {l : List Int32} (hq : p / 10 = q) (b : Bool) (ha : a < 10000) (hp : 0 < p) (hp2 : p ≤ 1000) (hl : l.length < 60000) : fx_X5_putWhole_6 (F + 1) (pP uP l) (zI a) (bI b) (zI p) = if b = true ∨ 0 < a / p % 10 ∨ p = 1 then fx_X5_putWhole_6 F (pP uP (l ++ [zI (48 + a / p % 10)])) (zI a) (bI true) (zI q) else fx_X5_putWhole_6 F (pP uP l) (zI a) (bI false) (zI q) := by
  have hdl := Nat.div_le_self a p
  have hd : zI a / zI p - zI a / zI p / 10 * 10 = zI (a / p % 10) := by
    rw [zI_div (by omega) (by omega)]
    generalize a / p = c at hdl ⊢
    rw [show (10 : Int32) = zI 10 from rfl, zI_div (by omega) (by omega), zI_mul, zI_sub (by omega) (by omega), show c - c / 10 * 10 = c % 10 by omega]
  have h10 : zI p / 10 = zI q := by
    rw [show (10 : Int32) = zI 10 from rfl, zI_div (by omega) (by omega), hq]
  have h48 : (48 : Int32) + zI (a / p % 10) = zI (48 + a / p % 10) := zI_add 48 _
  have hd9 : a / p % 10 ≤ 9 := by omega
  have hp1 : (zI p = 1) = (p = 1) := zI_inj (b := 1) (by omega) (by omega)
  have hpos : ((0 : Int32) < zI (a / p % 10)) = (0 < a / p % 10) := zI_lt (a := 0) (by omega) (by omega)
  have hgo : ∀ k6 : Md → Int32 → Int32 → Int32 → Option Md, fx_X5_putWhole_32 k6 (pP uP l) (zI a) (zI p) (zI (a / p % 10)) = k6 (pP uP (l ++ [zI (48 + a / p % 10)])) (zI a) (bI true) (zI q) := by
    intro k6
    unfold fx_X5_putWhole_32 fx_X5_putWhole_43
    rw [h48, p_put (isC_d hd9) hl, h10]
    rfl
  have hgo2 : ∀ (k6 : Md → Int32 → Int32 → Int32 → Option Md) x, fx_X5_putWhole_43 k6 (pP uP l) (zI a) x (zI p) = k6 (pP uP l) (zI a) x (zI q) := by
    intro k6 x
    unfold fx_X5_putWhole_43
    rw [h10]
  rw [fx_X5_putWhole_6, if_neg (by rw [zI_lz (by omega)]; omega), if_neg (by rw [zI_z (by omega)]; omega), hd, hgo, hgo2]
  simp only [hpos, hp1]
  cases b with
  | true => rw [if_neg (by decide), if_pos (Or.inl rfl)]
  | false =>
    rw [if_pos (by decide)]
    by_cases h1 : 0 < a / p % 10
    · rw [if_pos h1, if_pos (Or.inr (Or.inl h1))]
    · rw [if_neg h1]
      by_cases h2 : p = 1
      · rw [if_pos h2, if_pos (Or.inr (Or.inr h2))]
      · rw [if_neg h2, if_neg (by intro h; cases h with | inl h => cases h | inr h => cases h with | inl h => exact h1 h | inr h => exact h2 h)]
set_option maxRecDepth 100000 in
set_option maxHeartbeats 4000000 in
theorem p_w6e {F : Nat} {l : List Int32} (x y : Int32) : fx_X5_putWhole_6 (F + 1) (pP uP l) x y (zI 0) = some (pP uP l) := by
  rw [fx_X5_putWhole_6, if_pos (by decide)]
set_option maxRecDepth 100000 in
set_option maxHeartbeats 4000000 in
theorem p_whole {a : Nat} {l : List Int32} (ha : a < 10000) (hl : l.length + (wL a).length ≤ 60000) : fx_X5_putWhole (pP uP l) (zI a) = some (pP uP (l ++ wL a)) := by
  unfold fx_X5_putWhole
  obtain ⟨F, hF⟩ : ∃ F, FU = F + 1 + 1 + 1 + 1 + 1 := ⟨999995, by unfold FU; omega⟩
  rw [hF]
  show fx_X5_putWhole_6 (F + 1 + 1 + 1 + 1 + 1) (pP uP l) (zI a) (bI false) (zI 1000) = _
  unfold wL at hl ⊢
  by_cases h3 : 1000 ≤ a
  · rw [if_pos h3, if_pos (by omega), if_pos (by omega)] at hl ⊢
    simp only [List.length_append, List.length_cons, List.length_nil] at hl
    rw [p_w6 (p := 1000) (q := 100) rfl false ha (by omega) (by omega) (by omega), if_pos (Or.inr (Or.inl (by omega)))]
    rw [p_w6 (p := 100) (q := 10) rfl true ha (by omega) (by omega) (by simp only [List.length_append, List.length_cons, List.length_nil]; omega), if_pos (Or.inl rfl)]
    rw [p_w6 (p := 10) (q := 1) rfl true ha (by omega) (by omega) (by simp only [List.length_append, List.length_cons, List.length_nil]; omega), if_pos (Or.inl rfl)]
    rw [p_w6 (p := 1) (q := 0) rfl true ha (by omega) (by omega) (by simp only [List.length_append, List.length_cons, List.length_nil]; omega), if_pos (Or.inl rfl), p_w6e]
    simp only [List.append_assoc]
  · rw [if_neg h3] at hl ⊢
    rw [p_w6 (p := 1000) (q := 100) rfl false ha (by omega) (by omega) (by simp only [List.length_append, List.length_cons, List.length_nil] at hl; omega), if_neg (by intro h; cases h with | inl h => cases h | inr h => omega)]
    by_cases h2 : 100 ≤ a
    · rw [if_pos h2, if_pos (by omega)] at hl ⊢
      simp only [List.length_append, List.length_cons, List.length_nil] at hl
      rw [p_w6 (p := 100) (q := 10) rfl false ha (by omega) (by omega) (by omega), if_pos (Or.inr (Or.inl (by omega)))]
      rw [p_w6 (p := 10) (q := 1) rfl true ha (by omega) (by omega) (by simp only [List.length_append, List.length_cons, List.length_nil]; omega), if_pos (Or.inl rfl)]
      rw [p_w6 (p := 1) (q := 0) rfl true ha (by omega) (by omega) (by simp only [List.length_append, List.length_cons, List.length_nil]; omega), if_pos (Or.inl rfl), p_w6e]
      simp only [List.append_assoc, List.nil_append]
    · rw [if_neg h2] at hl ⊢
      rw [p_w6 (p := 100) (q := 10) rfl false ha (by omega) (by omega) (by simp only [List.length_append, List.length_cons, List.length_nil] at hl; omega), if_neg (by intro h; cases h with | inl h => cases h | inr h => omega)]
      by_cases h1 : 10 ≤ a
      · rw [if_pos h1] at hl ⊢
        simp only [List.length_append, List.length_cons, List.length_nil] at hl
        rw [p_w6 (p := 10) (q := 1) rfl false ha (by omega) (by omega) (by omega), if_pos (Or.inr (Or.inl (by omega)))]
        rw [p_w6 (p := 1) (q := 0) rfl true ha (by omega) (by omega) (by simp only [List.length_append, List.length_cons, List.length_nil]; omega), if_pos (Or.inl rfl), p_w6e]
        simp only [List.append_assoc, List.nil_append]
      · rw [if_neg h1] at hl ⊢
        simp only [List.length_append, List.length_cons, List.length_nil] at hl
        rw [p_w6 (p := 10) (q := 1) rfl false ha (by omega) (by omega) (by omega), if_neg (by intro h; cases h with | inl h => cases h | inr h => omega)]
        rw [p_w6 (p := 1) (q := 0) rfl false ha (by omega) (by omega) (by omega), if_pos (Or.inr (Or.inr rfl)), p_w6e]
        simp only [List.nil_append]
set_option maxRecDepth 100000 in
set_option maxHeartbeats 4000000 in
theorem q_w2 {F a p q : Nat} {u2 : Md} (hq : 10 * p = q) (ha : a < 10000) (hp : 0 < p) (hp2 : p ≤ 1000) : f9_sayWhole_2 (F + 1) u2 (zL a) (zL p) = if a / p < 10 then f9_sayWhole_21 FU u2 (zL a) (zL p) else f9_sayWhole_2 F u2 (zL a) (zL q) := by
  generalize hFF : FU = FF
  have hdl := Nat.div_le_self a p
  have hc : (lg_cmp (zL a / zL p) 10 < 0) = (a / p < 10) := by
    rw [zL_div (by omega) (by omega), lg_cmp_lt, show (10 : Int64) = zL 10 from rfl, zL_lt (by omega) (by omega)]
  have hz : (zL p = 0) = (p = 0) := zL_inj (b := 0) (by omega) (by omega)
  have h10 : (10 : Int64) * zL p = zL q := by rw [show (10 : Int64) = zL 10 from rfl, zL_mul, hq]
  rw [f9_sayWhole_2, hFF, if_neg (by rw [hz]; omega), h10]
  simp only [hc]
set_option maxRecDepth 100000 in
set_option maxHeartbeats 4000000 in
theorem q_w21 {F a p q : Nat} {l : List Int32} (hq : p / 10 = q) (ha : a < 10000) (hp : 0 < p) (hp2 : p ≤ 1000) (hl : l.length < 110000) : f9_sayWhole_21 (F + 1) (wW (rP u l) r) (zL a) (zL p) = f9_sayWhole_21 F (wW (rP u (l ++ [zI (48 + a / p % 10)])) r) (zL a) (zL q) := by
  have hdl := Nat.div_le_self a p
  have hd : (zL a / zL p - zL a / zL p / 10 * 10).toInt32 + 48 = zI (48 + a / p % 10) := by
    rw [zL_div (by omega) (by omega)]
    generalize a / p = c at hdl ⊢
    rw [show (10 : Int64) = zL 10 from rfl, zL_div (by omega) (by omega), zL_mul, zL_subl (by omega), zL_I, show c - c / 10 * 10 = c % 10 by omega, show (48 : Int32) = zI 48 from rfl, zI_add, Nat.add_comm]
  have hz : (zL p = 0) = (p = 0) := zL_inj (b := 0) (by omega) (by omega)
  have hle : (lg_cmp (zL p) 0 ≤ 0) = (p ≤ 0) := by
    rw [lg_cmp_le, show (0 : Int64) = zL 0 from rfl, zL_le (by omega) (by omega)]
  have h10 : zL p / 10 = zL q := by
    rw [show (10 : Int64) = zL 10 from rfl, zL_div (by omega) (by omega), hq]
  rw [f9_sayWhole_21, if_neg (by rw [hle]; omega), if_neg (by rw [hz]; omega), hd, q_say hl, h10]
  rfl
set_option maxRecDepth 100000 in
set_option maxHeartbeats 4000000 in
theorem q_w21e {F : Nat} (u2 : Md) (x : Int64) : f9_sayWhole_21 (F + 1) u2 x (zL 0) = some u2 := by
  rw [f9_sayWhole_21, if_pos (by decide)]
set_option maxRecDepth 100000 in
set_option maxHeartbeats 4000000 in
theorem q_whole {a : Nat} {l : List Int32} (ha : a < 10000) (hl : l.length + 4 ≤ 110000) : f9_sayWhole (wW (rP u l) r) (zL a) = some (wW (rP u (l ++ wL a)) r) := by
  unfold f9_sayWhole
  obtain ⟨F, hF⟩ : ∃ F, FU = F + 1 + 1 + 1 + 1 + 1 := ⟨999995, by unfold FU; omega⟩
  rw [hF]
  show f9_sayWhole_2 (F + 1 + 1 + 1 + 1 + 1) (wW (rP u l) r) (zL a) (zL 1) = _
  unfold wL
  by_cases h3 : 1000 ≤ a
  · rw [if_pos h3, if_pos (by omega), if_pos (by omega)]
    rw [q_w2 (p := 1) (q := 10) rfl ha (by omega) (by omega), if_neg (by omega), q_w2 (p := 10) (q := 100) rfl ha (by omega) (by omega), if_neg (by omega), q_w2 (p := 100) (q := 1000) rfl ha (by omega) (by omega), if_neg (by omega), q_w2 (p := 1000) (q := 10000) rfl ha (by omega) (by omega), if_pos (by omega), hF]
    rw [q_w21 (p := 1000) (q := 100) rfl ha (by omega) (by omega) (by omega)]
    rw [q_w21 (p := 100) (q := 10) rfl ha (by omega) (by omega) (by simp only [List.length_append, List.length_cons, List.length_nil]; omega)]
    rw [q_w21 (p := 10) (q := 1) rfl ha (by omega) (by omega) (by simp only [List.length_append, List.length_cons, List.length_nil]; omega)]
    rw [q_w21 (p := 1) (q := 0) rfl ha (by omega) (by omega) (by simp only [List.length_append, List.length_cons, List.length_nil]; omega), q_w21e]
    simp only [List.append_assoc]
  · rw [if_neg h3]
    by_cases h2 : 100 ≤ a
    · rw [if_pos h2, if_pos (by omega)]
      rw [q_w2 (p := 1) (q := 10) rfl ha (by omega) (by omega), if_neg (by omega), q_w2 (p := 10) (q := 100) rfl ha (by omega) (by omega), if_neg (by omega), q_w2 (p := 100) (q := 1000) rfl ha (by omega) (by omega), if_pos (by omega), hF]
      rw [q_w21 (p := 100) (q := 10) rfl ha (by omega) (by omega) (by omega)]
      rw [q_w21 (p := 10) (q := 1) rfl ha (by omega) (by omega) (by simp only [List.length_append, List.length_cons, List.length_nil]; omega)]
      rw [q_w21 (p := 1) (q := 0) rfl ha (by omega) (by omega) (by simp only [List.length_append, List.length_cons, List.length_nil]; omega), q_w21e]
      simp only [List.append_assoc, List.nil_append]
    · rw [if_neg h2]
      by_cases h1 : 10 ≤ a
      · rw [if_pos h1]
        rw [q_w2 (p := 1) (q := 10) rfl ha (by omega) (by omega), if_neg (by omega), q_w2 (p := 10) (q := 100) rfl ha (by omega) (by omega), if_pos (by omega), hF]
        rw [q_w21 (p := 10) (q := 1) rfl ha (by omega) (by omega) (by omega)]
        rw [q_w21 (p := 1) (q := 0) rfl ha (by omega) (by omega) (by simp only [List.length_append, List.length_cons, List.length_nil]; omega), q_w21e]
        simp only [List.append_assoc, List.nil_append]
      · rw [if_neg h1]
        rw [q_w2 (p := 1) (q := 10) rfl ha (by omega) (by omega), if_pos (by omega), hF]
        rw [q_w21 (p := 1) (q := 0) rfl ha (by omega) (by omega) (by omega), q_w21e]
        simp only [List.nil_append]
set_option maxRecDepth 100000 in
set_option maxHeartbeats 4000000 in
theorem p_pt15 : ∀ j F m (l : List Int32), j ≤ 6 → j < F → m < 10 ^ j → l.length + (ptL j m).length ≤ 60000 → fx_X5_putPoint_15 F (pP uP l) (zI m) (zI (pj j)) = some (pP uP (l ++ ptL j m)) := by
  intro j
  induction j with
  | zero =>
    intro F m l hj hF hm hl
    obtain ⟨F, rfl⟩ : ∃ F', F = F' + 1 := ⟨F - 1, by omega⟩
    rw [fx_X5_putPoint_15, if_pos (by decide)]
    show _ = some (pP uP (l ++ []))
    rw [List.append_nil]
  | succ j ih =>
    intro F m l hj hF hm hl
    obtain ⟨F, rfl⟩ : ∃ F', F = F' + 1 := ⟨F - 1, by omega⟩
    have h10 : zI (pj (j + 1)) / 10 = zI (pj j) := by
      have hb : pj (j + 1) ≤ 10 ^ 6 := Nat.pow_le_pow_right (by omega) (by omega)
      rw [show (10 : Int32) = zI 10 from rfl, zI_div (by omega) (by omega), pj_d]
    have hb : (10 : Nat) ^ j ≤ 10 ^ 6 := Nat.pow_le_pow_right (by omega) (by omega)
    have hpos : 0 < (10 : Nat) ^ j := Nat.pow_pos (by omega)
    rw [Nat.pow_succ] at hm
    rw [ptL_s] at hl ⊢
    have hpe : pj (j + 1) = 10 ^ j := rfl
    rw [hpe] at h10 ⊢
    have ih' := ih F (m % 10 ^ j)
    generalize (10 : Nat) ^ j = p at *
    have hd9 : m / p < 10 := Nat.div_lt_of_lt_mul hm
    have hmp : m % p < p := Nat.mod_lt _ hpos
    have hdm := Nat.div_add_mod m p
    rw [Nat.mul_comm] at hdm
    rw [fx_X5_putPoint_15, if_neg (by rw [zI_lz (by omega)]; omega)]
    by_cases hm0 : m = 0
    · rw [if_pos (by rw [hm0]; decide), if_pos hm0, List.append_nil]
    · rw [if_neg hm0] at hl ⊢
      rw [List.length_cons] at hl
      rw [if_neg (by rw [zI_lz (by omega)]; exact hm0), if_neg (by rw [zI_z (by omega)]; omega), zI_div (by omega) (by omega), show (48 : Int32) = zI 48 from rfl, zI_add, p_put (isC_d (by omega)) (by omega)]
      simp only [Option.bind_some]
      rw [if_neg (by rw [zI_z (by omega)]; omega), zI_mul, zI_sub (by omega) (by omega), show m - m / p * p = m % p by omega, h10, ih' _ (by omega) (by omega) hmp (by simp only [List.length_append, List.length_cons, List.length_nil]; omega), List.append_assoc]
      rfl
set_option maxRecDepth 100000 in
set_option maxHeartbeats 4000000 in
theorem q_l46 : ∀ j F m (l : List Int32), j ≤ 6 → j < F → m < 10 ^ j → l.length + j ≤ 110000 → f9_sayLength_46 F (wW (rP u l) r) (zL m) (zL (pj j)) = some (wW (rP u (l ++ ptL j m)) r) := by
  intro j
  induction j with
  | zero =>
    intro F m l hj hF hm hl
    obtain ⟨F, rfl⟩ : ∃ F', F = F' + 1 := ⟨F - 1, by omega⟩
    have hm0 : m = 0 := by omega
    rw [hm0, f9_sayLength_46, if_pos (by decide)]
    show _ = some (wW (rP u (l ++ [])) r)
    rw [List.append_nil]
  | succ j ih =>
    intro F m l hj hF hm hl
    obtain ⟨F, rfl⟩ : ∃ F', F = F' + 1 := ⟨F - 1, by omega⟩
    have h10 : zL (pj (j + 1)) / 10 = zL (pj j) := by
      have hb : pj (j + 1) ≤ 10 ^ 6 := Nat.pow_le_pow_right (by omega) (by omega)
      rw [show (10 : Int64) = zL 10 from rfl, zL_div (by omega) (by omega), pj_d]
    have hb : (10 : Nat) ^ j ≤ 10 ^ 6 := Nat.pow_le_pow_right (by omega) (by omega)
    have hpos : 0 < (10 : Nat) ^ j := Nat.pow_pos (by omega)
    rw [Nat.pow_succ] at hm
    rw [ptL_s]
    have hpe : pj (j + 1) = 10 ^ j := rfl
    rw [hpe] at h10 ⊢
    have ih' := ih F (m % 10 ^ j)
    generalize (10 : Nat) ^ j = p at *
    have hd9 : m / p < 10 := Nat.div_lt_of_lt_mul hm
    have hmp : m % p < p := Nat.mod_lt _ hpos
    have hdm := Nat.div_add_mod m p
    rw [Nat.mul_comm] at hdm
    have hle : (lg_cmp (zL m) 0 ≤ 0) = (m ≤ 0) := by
      rw [lg_cmp_le, show (0 : Int64) = zL 0 from rfl, zL_le (by omega) (by omega)]
    have hz : (zL p = 0) = (p = 0) := zL_inj (b := 0) (by omega) (by omega)
    rw [f9_sayLength_46]
    by_cases hm0 : m = 0
    · rw [if_pos (by rw [hle]; omega), if_pos hm0, List.append_nil]
    · rw [if_neg (by rw [hle]; omega), if_neg (by rw [hz]; omega), if_neg hm0, zL_div (by omega) (by omega), zL_I, show (48 : Int32) = zI 48 from rfl, zI_add, q_say (by omega)]
      simp only [Option.bind_some]
      rw [if_neg (by rw [hz]; omega), zL_mul, zL_subl (by omega), show m - m / p * p = m % p by omega, h10, ih' _ (by omega) (by omega) hmp (by simp only [List.length_append, List.length_cons, List.length_nil]; omega), List.append_assoc, Nat.add_comm (m / p) 48]
      rfl
end WNU
