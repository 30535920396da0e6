/-! a text's value -/
theorem yY_ok (u : Md) (s : Tst) : gi (yY u s) 13 = zI s.count := id rfl
set_option maxRecDepth 100000 in
set_option maxHeartbeats 4000000 in
theorem isT_ex {c : Int32} (h : isT c = true) : ∃ a, 32 ≤ a ∧ a ≤ 126 ∧ c = zI a := by
  unfold isT at h
  simp only [Bool.and_eq_true, Bool.not_eq_true', decide_eq_false_iff_not] at h
  have h1 := h.1
  have h2 := h.2
  rw [Int32.lt_iff_toInt_lt] at h1 h2
  have e1 : (32 : Int32).toInt = 32 := rfl
  have e2 : (126 : Int32).toInt = 126 := rfl
  rw [e1] at h1
  rw [e2] at h2
  refine ⟨c.toInt.toNat, by omega, by omega, ?_⟩
  apply Int32.toInt_inj.mp
  rw [zI_toInt (by omega)]
  omega
set_option maxRecDepth 100000 in
set_option maxHeartbeats 4000000 in
theorem nar_nat (a : Nat) (h : a < 128) : vp_nar .char ((zI a).toUInt32 % 65536).toInt32 = zI a := by
  have hall : ∀ a : Fin 128, vp_nar .char ((zI a.val).toUInt32 % 65536).toInt32 = zI a.val := by decide
  exact hall ⟨a, h⟩
set_option maxRecDepth 100000 in
set_option maxHeartbeats 4000000 in
theorem nar_T {c : Int32} (h : isT c = true) : vp_nar .char (c.toUInt32 % 65536).toInt32 = c := by
  obtain ⟨a, h1, h2, e⟩ := isT_ex h
  rw [e]; exact nar_nat a (by omega)
set_option maxRecDepth 100000 in
set_option maxHeartbeats 4000000 in
theorem isT_of {t : Nat → Int32} {n p : Nat} (hc : COk t n) (hp : p < n) (h10 : t p ≠ 10) : isT (t p) = true := by
  cases hc p hp with
  | inl h =>
    unfold isT
    simp only [Bool.and_eq_true, Bool.not_eq_true', decide_eq_false_iff_not, Int32.not_lt]
    exact h
  | inr h => exact absurd h h10
set_option maxRecDepth 100000 in
set_option maxHeartbeats 4000000 in
theorem one_nz : ((1 : Int32) = 0) = False := eq_false (by decide)
set_option maxRecDepth 100000 in
set_option maxHeartbeats 4000000 in
theorem isT_10 : isT 10 = false := by decide
set_option maxRecDepth 100000 in
set_option maxHeartbeats 4000000 in
theorem isT_n : isT (-1) = false := by decide
set_option maxRecDepth 100000 in
set_option maxHeartbeats 4000000 in
/-- a mark more in a text -/
theorem p_append {bT : Md} {s : Tst} {k w z : Nat} {c : Int32} (hk : k < s.count) (hN : s.count ≤ 200) (hw : w < 2) (hz : s.tsz (k * 2 + w) = zI z) (hz4 : z < 40) (hc : isT c = true) : fx_X7_appendToText (yY bT s) (zI k) (zI w) c = some (yY bT ((s.s_marks (upd s.marks ((k * 2 + w) * 40 + z) c)).s_tsz (upd s.tsz (k * 2 + w) (zI (z + 1))))) := by
  unfold fx_X7_appendToText fx_X7_hasText
  simp (disch := omega) only [yY_12, yY_13, yY_14, yY_15, yY_a0, yY_a1, yY_a2, yY_a3, yY_a4, yY_a5, yY_a7, yY_a8, yY_a9, yY_a10, yY_a11, yY_n, show (2 : Int32) = zI 2 from rfl, show (40 : Int32) = zI 40 from rfl, hz, zI_le, zI_lt, zI_inj, zI_z, zI_lz, zI_zl, zI_neg, zI_nat, zI_add, zI_one, zI_mul, zI_ne1, zI_1n, leT, leF, ltT, ltF, eqT, eqF, if_true, if_false, Option.bind_some, false_or, or_false, true_or, or_true, true_and, and_true, false_and, and_false, not_true_eq_false, not_false_eq_true, reduceIte, nar_T hc]
  rw [if_neg (by decide), yY_sa8, yY_sa7]
section TXV
variable {uS u bT : Md} {t : Nat → Int32} {n : Nat}
set_option maxRecDepth 100000 in
set_option maxHeartbeats 4000000 in
theorem q_rt183 {r : Rst} {k w q z : Nat} (hm : gi u 15 = 0 ∨ gi u 15 = 1) (hk : r.found = k) (hw : r.words = w) (hk2 : k < 200) (hw2 : w < 2) : f9_readText_183 (wW u r) (zI q) (zI z) = some (zI (q + 1), wW u (r.s_tsz (if gi u 15 = 0 then r.tsz else upd r.tsz (k * 2 + w) (zI z)))) := by
  unfold f9_readText_183 f9_readText_207
  rw [wW_15]
  cases hm with
  | inl h =>
    rw [if_pos h, if_pos h, zI_one]
    rfl
  | inr h =>
    have h0 : ¬ gi u 15 = 0 := by rw [h]; decide
    rw [if_neg h0, if_neg h0]
    simp (disch := omega) only [wW_16, wW_17, wW_18, wW_20, wW_21, wW_22, wW_29, wW_30, wW_1, wW_3, wW_15, wW_a5, wW_a6, wW_a8, wW_a9, wW_a10, wW_a11, wW_a12, wW_a23, wW_a24, wW_a2, wW_n, wW_l, hk, hw, show (2 : Int32) = zI 2 from rfl, zI_le, zI_lt, zI_inj, zI_z, zI_lz, zI_zl, zI_neg, zI_nat, zI_add, zI_one, zI_mul, zI_ne1, zI_1n, leT, leF, ltT, ltF, eqT, eqF, if_true, if_false, Option.bind_some, false_or, or_false, true_or, or_true, true_and, and_true, false_and, and_false, not_true_eq_false, not_false_eq_true, reduceIte]
    rw [wW_sa8, Nat.mul_comm 2 k]
set_option maxRecDepth 100000 in
set_option maxHeartbeats 4000000 in
/-- with a fault the reading of a text is over -/
theorem q_rtF {r : Rst} {F k w q z : Nat} (hF : 0 < F) (hm : gi u 15 = 0 ∨ gi u 15 = 1) (hk : r.found = k) (hw : r.words = w) (hk2 : k < 200) (hw2 : w < 2) (hr : r.fault ≠ -1) : f9_readText_23 F (wW u r) (zI q) (zI z) = some (zI (q + 1), wW u (r.s_tsz (if gi u 15 = 0 then r.tsz else upd r.tsz (k * 2 + w) (zI z)))) := by
  obtain ⟨F, rfl⟩ : ∃ F', F = F' + 1 := ⟨F - 1, by omega⟩
  unfold f9_readText_23
  rw [wW_18, if_neg hr]
  exact q_rt183 hm hk hw hk2 hw2
/-- what the two readers of a text come to -/
def TxO (uS u bT : Md) (n : Nat) (v : Int64) (s : Tst) (r : Rst) (k w q z : Nat) (o : Option (Int32 × Md × Md)) (o9 : Option (Int32 × Md)) : Prop :=
  (∃ e a s' q' ts, o = some (0, sS uS a (zI e) v, yY bT s') ∧ q' ≤ n + 20 ∧ e ≤ n + 20 ∧ ∃ ch, o9 = some (zI q', wW u (((r.s_fault (zI e)).s_chars (ch)).s_tsz (ts))) ∧ (gi u 15 = 0 → ch = r.chars ∧ ts = r.tsz)) ∨
  (∃ q' z' mk ch, q < q' ∧ q' ≤ n ∧ z ≤ z' ∧ z' ≤ 40 ∧ o = some (1, sS uS q' (-1) v, yY bT ((s.s_marks (mk)).s_tsz (upd s.tsz (k * 2 + w) (zI z')))) ∧ o9 = some (zI q', wW u ((r.s_chars (ch)).s_tsz (if gi u 15 = 0 then r.tsz else upd r.tsz (k * 2 + w) (zI z')))) ∧ (gi u 15 = 0 → ch = r.chars) ∧ (∀ x, (x < (k * 2 + w) * 40 + z ∨ (k * 2 + w) * 40 + 40 ≤ x) → mk x = s.marks x ∧ ch x = r.chars x) ∧ (∀ i, z ≤ i → i < z' → isT (mk ((k * 2 + w) * 40 + i)) = true ∧ (gi u 15 ≠ 0 → ch ((k * 2 + w) * 40 + i) = mk ((k * 2 + w) * 40 + i))))
set_option maxRecDepth 100000 in
set_option maxHeartbeats 4000000 in
theorem tx_fail (hm : gi u 15 = 0 ∨ gi u 15 = 1) {v : Int64} {s : Tst} {r : Rst} {F k w q z e a : Nat} {o : Option (Int32 × Md × Md)} {o9 : Option (Int32 × Md)} (hF : 0 < F) (hk : r.found = k) (hw : r.words = w) (hk2 : k < 200) (hw2 : w < 2) (hq : q ≤ n + 10) (he : e ≤ n + 10) (hn : n ≤ 600) (ho : o = some (0, sS uS a (zI e) v, yY bT s)) (ho9 : o9 = f9_readText_23 F (wW u (r.s_fault (zI e))) (zI q) (zI z)) : TxO uS u bT n v s r k w q z o o9 := by
  left
  refine ⟨e, a, s, q + 1, if gi u 15 = 0 then r.tsz else upd r.tsz (k * 2 + w) (zI z), ho, by omega, by omega, r.chars, ?_, ?_⟩
  · rw [ho9, q_rtF (r := (r.s_fault (zI e))) (k := k) (w := w) hF hm hk hw hk2 hw2 (by intro hh; rw [← zI_ne1 (a := e) (by omega)]; exact hh)]
    rfl
  · intro h0
    exact ⟨rfl, if_pos h0⟩
set_option maxRecDepth 100000 in
set_option maxHeartbeats 4000000 in
theorem tx_end (hm : gi u 15 = 0 ∨ gi u 15 = 1) {v : Int64} {s : Tst} {r : Rst} {k w q z : Nat} {o : Option (Int32 × Md × Md)} {o9 : Option (Int32 × Md)} (hk : r.found = k) (hw : r.words = w) (hk2 : k < 200) (hw2 : w < 2) (hq : q < n) (hz : s.tsz (k * 2 + w) = zI z) (hz4 : z ≤ 40) (ho : o = some (1, sS uS (q + 1) (-1) v, yY bT s)) (ho9 : o9 = f9_readText_183 (wW u r) (zI q) (zI z)) : TxO uS u bT n v s r k w q z o o9 := by
  right
  refine ⟨q + 1, z, s.marks, r.chars, by omega, by omega, Nat.le_refl _, hz4, ?_, ?_, fun _ => rfl, fun _ _ => ⟨rfl, rfl⟩, fun i h1 h2 => absurd h1 (by omega)⟩
  · rw [ho, upd_self hz]; rfl
  · rw [ho9, q_rt183 hm hk hw hk2 hw2]; rfl
set_option maxRecDepth 100000 in
set_option maxHeartbeats 4000000 in
theorem tx_step {v : Int64} {s : Tst} {r : Rst} {k w q q2 z : Nat} {c : Int32} {o : Option (Int32 × Md × Md)} {o9 : Option (Int32 × Md)} (hq : q < q2) (hz4 : z < 40) (hT : isT c = true) (h : TxO uS u bT n v ((s.s_marks (upd s.marks ((k * 2 + w) * 40 + z) c)).s_tsz (upd s.tsz (k * 2 + w) (zI (z + 1)))) (r.s_chars (if gi u 15 = 0 then r.chars else upd r.chars ((k * 2 + w) * 40 + z) c)) k w q2 (z + 1) o o9) : TxO uS u bT n v s r k w q z o o9 := by
  cases h with
  | inl h =>
    obtain ⟨e, a, s', q', ts, h1, h2, h3, ch, h4, h5⟩ := h
    left
    refine ⟨e, a, s', q', ts, h1, h2, h3, ch, h4, fun h0 => ?_⟩
    have h6 := h5 h0
    refine ⟨h6.1.trans ?_, h6.2⟩
    exact if_pos h0
  | inr h =>
    obtain ⟨q', z', mk, ch, h1, h2, h3, h4, h5, h6, h7, h8, h9⟩ := h
    right
    refine ⟨q', z', mk, ch, by omega, h2, by omega, h4, ?_, ?_, ?_, ?_, ?_⟩
    · rw [h5]
      show some (1, sS uS q' (-1) v, yY bT ((s.s_marks (mk)).s_tsz (upd (upd s.tsz (k * 2 + w) (zI (z + 1))) (k * 2 + w) (zI z')))) = _
      rw [upd_upd]
    · rw [h6]; rfl
    · intro h0; rw [h7 h0]; exact if_pos h0
    · intro x hx
      have h10 := h8 x (by omega)
      have hne : x ≠ (k * 2 + w) * 40 + z := by omega
      refine ⟨h10.1.trans ?_, h10.2.trans ?_⟩
      · show upd s.marks ((k * 2 + w) * 40 + z) c x = _
        rw [upd_at, if_neg hne]
      · show (if gi u 15 = 0 then r.chars else upd r.chars ((k * 2 + w) * 40 + z) c) x = _
        split
        · rfl
        · rw [upd_at, if_neg hne]
    · intro i hi1 hi2
      by_cases hi : i = z
      · subst hi
        have h10 := h8 ((k * 2 + w) * 40 + i) (by omega)
        have e1 : mk ((k * 2 + w) * 40 + i) = c := h10.1.trans (by
          show upd s.marks ((k * 2 + w) * 40 + i) c ((k * 2 + w) * 40 + i) = c
          rw [upd_at, if_pos rfl])
        refine ⟨by rw [e1]; exact hT, fun h0 => ?_⟩
        rw [e1, h10.2]
        show (if gi u 15 = 0 then r.chars else upd r.chars ((k * 2 + w) * 40 + i) c) ((k * 2 + w) * 40 + i) = c
        rw [if_neg h0, upd_at, if_pos rfl]
      · exact h9 i (by omega) hi2
set_option maxRecDepth 100000 in
set_option maxHeartbeats 4000000 in
theorem p_95 (hS : SOk uS t n) {q : Nat} (v : Int64) (s : Tst) (hq : q < 1000) : fx_X6_takeText_95 (sS uS q (-1) v) (yY bT s) = if cAt t n q = 34 then some (1, sS uS (q + 1) (-1) v, yY bT s) else some (0, sS uS q (zI q) v, yY bT s) := by
  unfold fx_X6_takeText_95 fx_X6_passOnly fx_X6_failAt
  rw [p_mark hS _ _ (by omega)]
  simp only [Option.bind_some, sS_1, sS_2, sS_3, sS_a, sS_l, sS_s2, sS_s3, sS_sl, zI_one]
  by_cases h : cAt t n q = 34
  · rw [if_pos h, if_pos h]; rfl
  · rw [if_neg h, if_neg h]; rfl
set_option maxRecDepth 100000 in
set_option maxHeartbeats 4000000 in
theorem p_60 {q : Nat} (f : Int32) (v : Int64) (s : Tst) : fx_X6_takeText_60 (sS uS q f v) (yY bT s) = some (0, sS uS q (zI q) v, yY bT s) := by
  unfold fx_X6_takeText_60 fx_X6_failAt
  simp only [Option.bind_some, sS_1, sS_2, sS_3, sS_a, sS_l, sS_s2, sS_s3, sS_sl]
  rfl
set_option maxRecDepth 100000 in
set_option maxHeartbeats 4000000 in
theorem q_133 {r : Rst} {k w q z : Nat} {c x4 : Int32} (K : Md → Int32 → Int32 → Option (Int32 × Md)) (hm : gi u 15 = 0 ∨ gi u 15 = 1) (hk : r.found = k) (hw : r.words = w) (hk2 : k < 200) (hw2 : w < 2) (hz : z < 40) : f9_readText_133 K (wW u r) (zI q) (zI z) x4 c = K (wW u (r.s_chars (if gi u 15 = 0 then r.chars else upd r.chars ((k * 2 + w) * 40 + z) c))) (zI (q + if x4 = 0 then 1 else 2)) (zI (z + 1)) := by
  have h164 : ∀ r2 : Rst, f9_readText_164 K (wW u r2) (zI q) (zI z) x4 = K (wW u r2) (zI (q + if x4 = 0 then 1 else 2)) (zI (z + 1)) := by
    intro r2
    unfold f9_readText_164 f9_readText_178 f9_readText_180
    by_cases h4 : x4 = 0
    · rw [if_pos h4, if_pos h4, zI_one, zI_one]
    · rw [if_neg h4, if_neg h4, zI_one, show (2 : Int32) = zI 2 from rfl, zI_add]
  unfold f9_readText_133
  rw [wW_15]
  cases hm with
  | inl h => rw [if_pos h, if_pos h, h164]; rfl
  | inr h =>
    have h0 : ¬ gi u 15 = 0 := by rw [h]; decide
    rw [if_neg h0, if_neg h0]
    simp (disch := omega) only [wW_16, wW_17, wW_18, wW_20, wW_21, wW_22, wW_29, wW_30, wW_1, wW_3, wW_15, wW_a5, wW_a6, wW_a8, wW_a9, wW_a10, wW_a11, wW_a12, wW_a23, wW_a24, wW_a2, wW_n, wW_l, hk, hw, show (80 : Int32) = zI 80 from rfl, show (40 : Int32) = zI 40 from rfl, zI_le, zI_lt, zI_inj, zI_z, zI_lz, zI_zl, zI_neg, zI_nat, zI_add, zI_one, zI_mul, zI_ne1, zI_1n, leT, leF, ltT, ltF, eqT, eqF, if_true, if_false, Option.bind_some, false_or, or_false, true_or, or_true, true_and, and_true, false_and, and_false, not_true_eq_false, not_false_eq_true, reduceIte]
    rw [wW_sa9, h164, show 80 * k + 40 * w + z = (k * 2 + w) * 40 + z by omega]
set_option maxRecDepth 100000 in
set_option maxHeartbeats 4000000 in
theorem q_56 (hR : ROk u t n) {r : Rst} {q z : Nat} {y0 : Int32} (K : Md → Int32 → Int32 → Option (Int32 × Md)) (hq : q < 1000) : f9_readText_56 K (wW u r) (zI q) (zI z) y0 = f9_readText_78 K (wW u r) (zI q) (zI z) y0 (if y0 = 0 then cAt t n q else cAt t n (q + 1)) := by
  unfold f9_readText_56
  rw [zI_one, q_c (wW_ok hR r) (by omega), q_c (wW_ok hR r) (by omega)]
  by_cases h : y0 = 0
  · rw [if_pos h, if_pos h]; rfl
  · rw [if_neg h, if_neg h]; rfl
set_option maxRecDepth 100000 in
set_option maxHeartbeats 4000000 in
theorem q_78 (hR : ROk u t n) {r : Rst} {q z : Nat} {x4 y0 : Int32} (K : Md → Int32 → Int32 → Option (Int32 × Md)) (hq : q < 1000) (hz : z ≤ 40) (hr : r.fault = -1) : f9_readText_78 K (wW u r) (zI q) (zI z) x4 y0 = if z = 40 then K (wW u (r.s_fault (zI q))) (zI q) (zI z) else if (32 : Int32) ≤ cAt t n q then (if x4 = 0 then f9_readText_133 K (wW u r) (zI q) (zI z) x4 y0 else if y0 = 34 then f9_readText_133 K (wW u r) (zI q) (zI z) x4 y0 else if y0 = 92 then f9_readText_133 K (wW u r) (zI q) (zI z) x4 y0 else K (wW u (r.s_fault (zI (q + 1)))) (zI q) (zI z)) else K (wW u (r.s_fault (zI q))) (zI q) (zI z) := by
  unfold f9_readText_78 f9_readText_96 f9_readText_180
  rw [q_c (wW_ok hR r) (by omega), q_fail q hr, zI_one, q_fail (q + 1) hr]
  by_cases h : z = 40
  · rw [if_pos h, if_pos (by rw [h]; rfl)]; rfl
  · rw [if_neg h, if_neg (by rw [show (40 : Int32) = zI 40 from rfl, zI_inj (by omega) (by omega)]; exact h)]; rfl
set_option maxRecDepth 100000 in
set_option maxHeartbeats 4000000 in
theorem tx_loop (hS : SOk uS t n) (hR : ROk u t n) (hc : COk t n) (hm : gi u 15 = 0 ∨ gi u 15 = 1) {k w : Nat} (hk2 : k < 200) (hw2 : w < 2) (v : Int64) : ∀ d q F G z (s : Tst) (r : Rst), n - q ≤ d → d < F → d + 1 < G → q ≤ n → z ≤ 40 → r.fault = -1 → r.found = k → r.words = w → k < s.count → s.count ≤ 200 → s.tsz (k * 2 + w) = zI z → TxO uS u bT n v s r k w q z (fx_X6_takeText_14 F (sS uS q (-1) v) (yY bT s) (zI k) (zI w) (zI z)) (f9_readText_23 G (wW u r) (zI q) (zI z)) := by
  have hn := hS.le
  intro d
  induction d with
  | zero =>
    intro q F G z s r hd hF hG hq hz hr hk hw hks hs2 hsz
    obtain ⟨F, rfl⟩ : ∃ F', F = F' + 1 := ⟨F - 1, by omega⟩
    obtain ⟨G, rfl⟩ : ∃ G', G = G' + 1 := ⟨G - 1, by omega⟩
    have hout : cAt t n q = -1 := cAt_out (by omega)
    have hcls : fx_X6_takeText_14 (F + 1) (sS uS q (-1) v) (yY bT s) (zI k) (zI w) (zI z) = some (0, sS uS q (zI q) v, yY bT s) := by
      rw [fx_X6_takeText_14, p_95 hS v s (by omega), p_mark hS _ _ (by omega), hout]
      simp only [Option.bind_some, d_text, isT_n]
      rw [p_60]
      split <;> rfl
    refine tx_fail (F := G) (e := q) (a := q) hm (by omega) hk hw hk2 hw2 (by omega) (by omega) hn hcls ?_
    rw [f9_readText_23, wW_18, if_pos hr, q_c (wW_ok hR r) (by omega), hout]
    simp only [Option.bind_some]
    rw [if_neg (by decide), if_neg (by decide), q_56 hR _ (by omega), q_78 hR _ (by omega) hz hr, hout]
    by_cases h40 : z = 40
    · rw [if_pos h40]
    · rw [if_neg h40, if_neg (by decide)]
  | succ d ih =>
    intro q F G z s r hd hF hG hq hz hr hk hw hks hs2 hsz
    by_cases hqn : n ≤ q
    · exact ih q F G z s r (by omega) (by omega) (by omega) hq hz hr hk hw hks hs2 hsz
    obtain ⟨F, rfl⟩ : ∃ F', F = F' + 1 := ⟨F - 1, by omega⟩
    obtain ⟨G, rfl⟩ : ∃ G', G = G' + 1 := ⟨G - 1, by omega⟩
    have hin : cAt t n q = t q := cAt_in (by omega)
    rw [fx_X6_takeText_14, f9_readText_23, p_95 hS v s (by omega), p_mark hS _ _ (by omega), hin, wW_18, if_pos hr, q_c (wW_ok hR r) (by omega), hin]
    simp only [Option.bind_some]
    by_cases h34 : t q = 34
    · rw [if_pos h34, if_pos h34, if_pos h34]
      refine tx_end hm hk hw hk2 hw2 (by omega) hsz hz ?_ rfl
      split <;> rfl
    rw [if_neg h34, if_neg h34, if_neg h34]
    by_cases h40 : z = 40
    · rw [if_pos (by rw [h40]; decide)]
      refine tx_fail (F := G) (e := q) (a := q) hm (by omega) hk hw hk2 hw2 (by omega) (by omega) hn rfl ?_
      rw [q_56 hR _ (by omega), q_56 hR _ (by omega), q_78 hR _ (by omega) hz hr, q_78 hR _ (by omega) hz hr, if_pos h40, if_pos h40]
      split <;> rfl
    have hz4 : z < 40 := by omega
    rw [if_neg (by rw [show (40 : Int32) = zI 40 from rfl, zI_le (by omega) (by omega)]; omega)]
    simp only [d_text, Option.bind_some, bI_z]
    by_cases h10 : t q = 10
    · rw [h10, if_pos isT_10, p_60]
      refine tx_fail (F := G) (e := q) (a := q) hm (by omega) hk hw hk2 hw2 (by omega) (by omega) hn rfl ?_
      rw [if_neg (by decide), q_56 hR _ (by omega), q_78 hR _ (by omega) hz hr, hin, h10, if_neg h40, if_neg (by decide)]
    have hT := isT_of hc (p := q) (by omega) h10
    have h32 : (32 : Int32) ≤ t q := by
      cases hc q (by omega) with
      | inl h => exact h.1
      | inr h => exact absurd h h10
    rw [if_neg (by rw [hT]; decide)]
    by_cases h92 : t q = 92
    · rw [if_pos h92, if_pos h92]
      unfold fx_X6_passEscape
      rw [q_56 hR _ (by omega), q_78 hR _ (by omega) hz hr, hin, if_neg h40, if_pos h32, sS_2, sS_1, hS.sz, zI_one, sS_s2, p_mark hS _ _ (by omega)]
      simp only [Option.bind_some, d_esc, bI_z, one_nz, if_false]
      by_cases hq1 : n ≤ q + 1
      · rw [if_pos (by rw [zI_le (by omega) (by omega)]; exact hq1), cAt_out (by omega)]
        simp only [Option.bind_some]
        rw [if_pos trivial, p_60, if_neg (by decide), if_neg (by decide)]
        exact tx_fail (F := G) (e := q + 1) (a := q + 1) hm (by omega) hk hw hk2 hw2 (by omega) (by omega) hn rfl rfl
      · rw [if_neg (by rw [zI_le (by omega) (by omega)]; exact hq1), cAt_in (by omega)]
        by_cases hE : isE (t (q + 1)) = true
        · rw [if_neg (by rw [hE]; decide)]
          simp only [Option.bind_some]
          rw [if_neg (by decide)]
          have hE2 : t (q + 1) = 34 ∨ t (q + 1) = 92 := by
            unfold isE at hE
            simpa using hE
          have h133 : (if t (q + 1) = 34 then f9_readText_133 (f9_readText_23 G) (wW u r) (zI q) (zI z) 1 (t (q + 1)) else if t (q + 1) = 92 then f9_readText_133 (f9_readText_23 G) (wW u r) (zI q) (zI z) 1 (t (q + 1)) else f9_readText_23 G (wW u (r.s_fault (zI (q + 1)))) (zI q) (zI z)) = f9_readText_133 (f9_readText_23 G) (wW u r) (zI q) (zI z) 1 (t (q + 1)) := by
            cases hE2 with
            | inl h => rw [if_pos h]
            | inr h => rw [if_pos h]; split <;> rfl
          have hT2 : isT (t (q + 1)) = true := by
            cases hE2 with
            | inl h => rw [h]; decide
            | inr h => rw [h]; decide
          rw [h133, q_133 (f9_readText_23 G) hm hk hw hk2 hw2 hz4]
          unfold fx_X6_takeText_69
          rw [p_mark hS _ _ (by omega), cAt_in (by omega)]
          simp only [Option.bind_some]
          rw [p_append hks hs2 hw2 hsz hz4 hT2]
          simp only [Option.bind_some]
          rw [sS_2, zI_one, sS_s2, zI_one]
          simp only [one_nz, if_false]
          refine tx_step (q2 := q + 2) (by omega) hz4 hT2 ?_
          exact ih (q + 2) F G (z + 1) _ _ (by omega) (by omega) (by omega) (by omega) (by omega) hr hk hw hks hs2 (by
            show upd s.tsz (k * 2 + w) (zI (z + 1)) (k * 2 + w) = _
            rw [upd_at, if_pos rfl])
        · rw [if_pos (by simpa using hE)]
          simp only [Option.bind_some]
          have hE2 : ¬ t (q + 1) = 34 ∧ ¬ t (q + 1) = 92 := by
            unfold isE at hE
            simpa using hE
          rw [if_pos trivial, p_60, if_neg hE2.1, if_neg hE2.2]
          exact tx_fail (F := G) (e := q + 1) (a := q + 1) hm (by omega) hk hw hk2 hw2 (by omega) (by omega) hn rfl rfl
    · rw [if_neg h92, if_neg h92]
      unfold fx_X6_takeText_69
      rw [q_56 hR _ (by omega), q_78 hR _ (by omega) hz hr, if_neg h40, hin, p_mark hS _ _ (by omega), hin]
      simp only [Option.bind_some]
      rw [if_pos h32, if_pos trivial, if_pos trivial, q_133 (f9_readText_23 G) hm hk hw hk2 hw2 hz4, p_append hks hs2 hw2 hsz hz4 hT]
      simp only [Option.bind_some]
      rw [sS_2, zI_one, sS_s2, zI_one, if_pos trivial]
      refine tx_step (q2 := q + 1) (by omega) hz4 hT ?_
      exact ih (q + 1) F G (z + 1) _ _ (by omega) (by omega) (by omega) (by omega) (by omega) hr hk hw hks hs2 (by
        show upd s.tsz (k * 2 + w) (zI (z + 1)) (k * 2 + w) = _
        rw [upd_at, if_pos rfl])
set_option maxRecDepth 100000 in
set_option maxHeartbeats 4000000 in
/-- both readers of a text -/
theorem tx_read (hS : SOk uS t n) (hR : ROk u t n) (hc : COk t n) (hm : gi u 15 = 0 ∨ gi u 15 = 1) {k w q : Nat} (hk2 : k < 200) (hw2 : w < 2) (v : Int64) (s : Tst) (r : Rst) (hq : q ≤ n) (hr : r.fault = -1) (hk : r.found = k) (hw : r.words = w) (hks : k < s.count) (hs2 : s.count ≤ 200) (hsz : s.tsz (k * 2 + w) = zI 0) : TxO uS u bT n v s r k w q 0 (fx_X6_takeText (sS uS q (-1) v) (yY bT s) (zI k) (zI w)) (f9_readText (wW u r) (zI q)) := by
  have hn := hS.le
  unfold fx_X6_takeText fx_X6_passOnly fx_X6_failAt f9_readText
  rw [p_mark hS _ _ (by omega), q_c (wW_ok hR r) (by omega)]
  simp only [Option.bind_some]
  by_cases h : cAt t n q = 34
  · rw [if_pos h, if_pos h]
    simp only [Option.bind_some]
    have hqn : q < n := by
      apply Classical.byContradiction
      intro hh
      rw [cAt_out hh] at h
      exact absurd h (by decide)
    rw [if_neg (by decide), sS_2, zI_one, sS_s2]
    have h1 := tx_loop (bT := bT) hS hR hc hm hk2 hw2 v n (q + 1) FU FU 0 s r (by omega) (by unfold FU; omega) (by unfold FU; omega) (by omega) (by omega) hr hk hw hks hs2 hsz
    cases h1 with
    | inl h1 => exact Or.inl h1
    | inr h1 =>
      obtain ⟨q', z', mk, ch, h1, h2⟩ := h1
      exact Or.inr ⟨q', z', mk, ch, by omega, h2⟩
  · rw [if_neg h, if_neg h, q_fail q hr]
    left
    refine ⟨q, q, s, q, r.tsz, ?_, by omega, by omega, r.chars, rfl, fun _ => ⟨rfl, rfl⟩⟩
    simp only [true_or, if_true, Option.bind_some, sS_1, sS_2, sS_3, sS_a, sS_l, sS_s2, sS_s3, sS_sl]
end TXV
