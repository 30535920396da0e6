/-! numbers with their signs -/
def nbL (len : Bool) (a : Nat) : List Int32 := if len = true then wL (a / 1000000) ++ (if a % 1000000 = 0 then [] else 46 :: ptL 6 (a % 1000000)) else wL a
set_option maxRecDepth 100000 in
set_option maxHeartbeats 4000000 in
theorem nbL_len (len : Bool) (a : Nat) : (nbL len a).length ≤ if len = true then 11 else 4 := by
  unfold nbL
  cases len with
  | false =>
    rw [if_neg (by decide), if_neg (by decide)]
    exact wL_len a
  | true =>
    rw [if_pos rfl, if_pos rfl, List.length_append]
    have h1 := wL_len (a / 1000000)
    have h2 := ptL_len 6 (a % 1000000)
    split
    · simp only [List.length_nil]; omega
    · simp only [List.length_cons]; omega
/-- a number as it is written -/
def numL (len : Bool) (v : Int64) : List Int32 := (if lg_cmp v 0 < 0 then [45] else []) ++ nbL len v.toInt.natAbs
set_option maxRecDepth 100000 in
set_option maxHeartbeats 4000000 in
theorem numL_len (len : Bool) (v : Int64) : (numL len v).length ≤ if len = true then 12 else 5 := by
  unfold numL
  have h := nbL_len len v.toInt.natAbs
  rw [List.length_append]
  cases len with
  | false =>
    rw [if_neg (show ¬ (false = true) by decide)] at h ⊢
    split <;> simp <;> omega
  | true =>
    rw [if_pos rfl] at h ⊢
    split <;> simp <;> omega
set_option maxRecDepth 100000 in
set_option maxHeartbeats 4000000 in
theorem v_abs {v : Int64} (h1 : -1000000000 ≤ v.toInt) (h2 : v.toInt ≤ 1000000000) : (if 0 < v then v else -v) = zL v.toInt.natAbs ∧ (¬ lg_cmp v 0 < 0 → v = zL v.toInt.natAbs) ∧ (lg_cmp v 0 < 0 → 0 - v = zL v.toInt.natAbs) := by
  have h0 : (0 : Int64).toInt = 0 := by decide
  by_cases hn : lg_cmp v 0 < 0
  · have hn2 := hn
    rw [lg_cmp_lt, Int64.lt_iff_toInt_lt, h0] at hn2
    have hv : v = -(zL v.toInt.natAbs) := by
      apply Int64.toInt_inj.mp
      rw [show (-(zL v.toInt.natAbs)).toInt = -(v.toInt.natAbs : Int) from Int64.toInt_neg_ofNat_of_le (by omega)]
      omega
    have hv2 : -v = zL v.toInt.natAbs := by
      have h3 := congrArg (fun x => -x) hv
      simp only [Int64.neg_neg] at h3
      exact h3
    refine ⟨?_, fun h => absurd hn h, fun _ => by rw [Int64.zero_sub]; exact hv2⟩
    rw [if_neg (by rw [Int64.lt_iff_toInt_lt, h0]; omega)]
    exact hv2
  · have hn2 := hn
    rw [lg_cmp_lt, Int64.lt_iff_toInt_lt, h0] at hn2
    have hv : v = zL v.toInt.natAbs := by
      apply Int64.toInt_inj.mp
      rw [zL_toInt (by omega)]
      omega
    refine ⟨?_, fun _ => hv, fun h => absurd h hn⟩
    by_cases hp : 0 < v
    · rw [if_pos hp]; exact hv
    · rw [if_neg hp]
      rw [Int64.lt_iff_toInt_lt, h0] at hp
      have hz : v.toInt = 0 := by omega
      have hv0 : v = 0 := Int64.toInt_inj.mp (by rw [hz, h0])
      rw [hv0]; decide
/-- how great a number may be -/
def mxN (fd : Fin 8) : Int := if fSort fd = 1 then 1000000000 else 9999
set_option maxRecDepth 100000 in
set_option maxHeartbeats 4000000 in
theorem v_bd {fd : Fin 8} {v : Int64} (hs : fSort fd ≠ 0) (h1 : ¬ lg_cmp v (fLow fd) < 0) (h2 : ¬ 0 < lg_cmp v (fHigh fd)) : -(mxN fd) ≤ v.toInt ∧ v.toInt ≤ mxN fd := by
  have hall : ∀ fd : Fin 8, fSort fd ≠ 0 → -(mxN fd) ≤ (fLow fd).toInt ∧ (fHigh fd).toInt ≤ mxN fd := by decide
  have h := hall fd hs
  rw [lg_cmp_lt, Int64.lt_iff_toInt_lt] at h1
  rw [lg_cmp_gt, Int64.lt_iff_toInt_lt] at h2
  omega
section WNV
variable {uP u bT : Md} {r : Rst} {s : Tst}
set_option maxRecDepth 100000 in
set_option maxHeartbeats 4000000 in
theorem p_point {m : Nat} {l : List Int32} (hm : m < 1000000) (hl : l.length + (if m = 0 then [] else 46 :: ptL 6 m : List Int32).length ≤ 60000) : fx_X5_putPoint (pP uP l) (zI m) = some (pP uP (l ++ (if m = 0 then [] else 46 :: ptL 6 m))) := by
  have hFU : 7 < FU := by unfold FU; omega
  unfold fx_X5_putPoint fx_X5_putPoint_12
  generalize FU = FF at hFU ⊢
  rw [show (100000 : Int32) = zI (pj 6) from rfl]
  have hz : (zI m ≤ 0) = (m = 0) := zI_lz (by omega)
  by_cases h0 : m = 0
  · rw [if_pos (by rw [hz]; exact h0), if_pos h0, List.append_nil, h0, p_pt15 6 FF 0 l (by omega) (by omega) (by omega) (by rw [if_pos h0] at hl; exact hl)]
    show some (pP uP (l ++ [])) = _
    rw [List.append_nil]
  · rw [if_neg h0] at hl
    rw [List.length_cons] at hl
    rw [if_neg (by rw [hz]; exact h0), if_neg h0, p_put isC_46 (by omega)]
    simp only [Option.bind_some]
    rw [p_pt15 6 FF m _ (by omega) (by omega) (by omega) (by simp only [List.length_append, List.length_cons, List.length_nil]; omega), List.append_assoc]
    rfl
set_option maxRecDepth 100000 in
set_option maxHeartbeats 4000000 in
theorem p_num {fd : Fin 8} {v : Int64} {l : List Int32} (hs : fSort fd ≠ 0) (h1 : ¬ lg_cmp v (fLow fd) < 0) (h2 : ¬ 0 < lg_cmp v (fHigh fd)) (hl : l.length + (numL (decide (fSort fd = 1)) v).length ≤ 60000) : fx_X5_putNumber (pP uP l) fd v = some (pP uP (l ++ numL (decide (fSort fd = 1)) v)) := by
  have hb := v_bd hs h1 h2
  have hm : mxN fd ≤ 1000000000 := by unfold mxN; split <;> omega
  obtain ⟨ha, -, -⟩ := v_abs (v := v) (by omega) (by omega)
  have key : ∀ l2 : List Int32, l2.length + (nbL (decide (fSort fd = 1)) v.toInt.natAbs).length ≤ 60000 → fx_X5_putNumber_12 (pP uP l2) fd v = some (pP uP (l2 ++ nbL (decide (fSort fd = 1)) v.toInt.natAbs)) := by
    intro l2 hl2
    unfold fx_X5_putNumber_12 fx_X0_isLength
    rw [ha]
    unfold mxN at hb
    generalize hA : v.toInt.natAbs = a at hl2 ⊢
    unfold nbL at hl2 ⊢
    by_cases h : fSort fd = 1
    · rw [if_pos h] at hb
      rw [decide_eq_true h, if_pos rfl] at hl2 ⊢
      rw [List.length_append] at hl2
      rw [if_pos h]
      simp only [Option.bind_some]
      rw [if_neg (by decide), show (1000000 : Int64) = zL 1000000 from rfl, zL_div (by omega) (by omega), zL_I, p_whole (by omega) (by omega)]
      simp only [Option.bind_some]
      rw [zL_mul, zL_subl (by omega), zL_I, show a - a / 1000000 * 1000000 = a % 1000000 by omega, p_point (by omega) (by rw [List.length_append]; omega)]
      simp only [Option.bind_some, List.append_assoc]
    · rw [if_neg h] at hb
      rw [decide_eq_false h, if_neg (show ¬ (false = true) by decide)] at hl2 ⊢
      rw [if_neg h]
      simp only [Option.bind_some]
      rw [if_pos trivial, zL_I, p_whole (by omega) hl2]
      rfl
  unfold fx_X5_putNumber
  unfold numL at hl ⊢
  rw [List.length_append] at hl
  by_cases hn : lg_cmp v 0 < 0
  · rw [if_pos hn] at hl ⊢
    rw [if_neg (by rw [lg_cmp_ge]; rw [lg_cmp_lt] at hn; exact Int64.not_le.mpr hn), p_put isC_45 (by simp only [List.length_cons, List.length_nil] at hl; omega)]
    simp only [Option.bind_some]
    rw [key _ (by rw [List.length_append]; omega), List.append_assoc]
  · rw [if_neg hn] at hl ⊢
    rw [if_pos (by rw [lg_cmp_ge]; rw [lg_cmp_lt] at hn; exact Int64.not_lt.mp hn), key _ (by simp only [List.length_nil] at hl; omega), List.nil_append]
set_option maxRecDepth 100000 in
set_option maxHeartbeats 4000000 in
theorem q_len {a : Nat} {l : List Int32} (ha : a ≤ 1000000000) (hl : l.length + 11 ≤ 110000) : f9_sayLength_13 (wW (rP u l) r) (zL a) = some (wW (rP u (l ++ nbL true a)) r) := by
  have hFU : 7 < FU := by unfold FU; omega
  unfold f9_sayLength_13 f9_sayLength_41 nbL
  have hw := wL_len (a / 1000000)
  generalize FU = FF at hFU ⊢
  rw [if_pos rfl, show (1000000 : Int64) = zL 1000000 from rfl, zL_div (by omega) (by omega), q_whole (by omega) (by omega)]
  simp only [Option.bind_some]
  rw [zL_mul, zL_subl (by omega), show a - a / 1000000 * 1000000 = a % 1000000 by omega, show (100000 : Int64) = zL (pj 6) from rfl]
  have hm : a % 1000000 < 10 ^ 6 := by omega
  generalize a % 1000000 = m at hm ⊢
  have hz : (lg_cmp (zL m) 0 ≤ 0) = (m ≤ 0) := by
    rw [lg_cmp_le, show (0 : Int64) = zL 0 from rfl, zL_le (by omega) (by omega)]
  by_cases h0 : m = 0
  · rw [if_pos (by rw [hz]; omega), if_pos h0, List.append_nil, h0, q_l46 6 FF 0 _ (by omega) (by omega) (by omega) (by rw [List.length_append]; omega)]
    show some (wW (rP u ((l ++ wL (a / 1000000)) ++ [])) r) = _
    rw [List.append_nil]
  · rw [if_neg (by rw [hz]; omega), if_neg h0, q_say (by rw [List.length_append]; omega)]
    simp only [Option.bind_some]
    rw [q_l46 6 FF m _ (by omega) (by omega) hm (by simp only [List.length_append, List.length_cons, List.length_nil]; omega)]
    simp only [List.append_assoc]
    rfl
set_option maxRecDepth 100000 in
set_option maxHeartbeats 4000000 in
/-- the reference's way through a number -/
theorem q_num {fd : Fin 8} {v : Int64} {l : List Int32} (hs : fSort fd ≠ 0) (h1 : ¬ lg_cmp v (fLow fd) < 0) (h2 : ¬ 0 < lg_cmp v (fHigh fd)) (hl : l.length + 12 ≤ 110000) (k98 : Md → Int32 → Int32 → Int32 → Int32 → Option Md) (x1 x2 x3 x4 : Int32) {x5 : Int32} (hr29 : x5 = if fSort fd = 1 then (1 : Int32) else 2) : (if 0 ≤ lg_cmp v 0 then f9_sayOwn_174 k98 (wW (rP u l) r) x1 x2 x3 x4 x5 v else (f9_say (wW (rP u l) r) 45).bind fun u_34 => f9_sayOwn_174 k98 u_34 x1 x2 x3 x4 x5 v) = k98 (wW (rP u (l ++ numL (decide (fSort fd = 1)) v)) r) x1 (x2 + 1) x3 (x4 + 1) := by
  have hb := v_bd hs h1 h2
  have hm : mxN fd ≤ 1000000000 := by unfold mxN; split <;> omega
  obtain ⟨-, hp, hn⟩ := v_abs (v := v) (by omega) (by omega)
  have key : ∀ l2 : List Int32, l2.length + 11 ≤ 110000 → f9_sayOwn_174 k98 (wW (rP u l2) r) x1 x2 x3 x4 x5 v = k98 (wW (rP u (l2 ++ nbL (decide (fSort fd = 1)) v.toInt.natAbs)) r) x1 (x2 + 1) x3 (x4 + 1) := by
    intro l2 hl2
    unfold f9_sayOwn_174 f9_sayOwn_206 f9_sayOwn_209 f9_sayOwn_212 f9_sayLength
    unfold mxN at hb
    rw [hr29]
    generalize hA : v.toInt.natAbs = a at *
    by_cases h : fSort fd = 1
    · rw [if_pos h] at hb
      rw [decide_eq_true h, if_pos h, if_pos rfl]
      have e : (if 0 ≤ lg_cmp v 0 then f9_sayLength_13 (wW (rP u l2) r) v else f9_sayLength_13 (wW (rP u l2) r) (0 - v)) = some (wW (rP u (l2 ++ nbL true a)) r) := by
        by_cases hc : lg_cmp v 0 < 0
        · rw [if_neg (by rw [lg_cmp_ge]; rw [lg_cmp_lt] at hc; exact Int64.not_le.mpr hc), hn hc, q_len (by omega) hl2]
        · rw [if_pos (by rw [lg_cmp_ge]; rw [lg_cmp_lt] at hc; exact Int64.not_lt.mp hc), hp hc, q_len (by omega) hl2]
      rw [e]
      rfl
    · rw [if_neg h] at hb
      rw [decide_eq_false h, if_neg h, if_neg (by decide)]
      have e2 : nbL false a = wL a := by unfold nbL; rw [if_neg (by decide)]
      rw [e2]
      by_cases hc : lg_cmp v 0 < 0
      · rw [if_neg (by rw [lg_cmp_ge]; rw [lg_cmp_lt] at hc; exact Int64.not_le.mpr hc), hn hc, q_whole (by omega) (by omega)]
        rfl
      · rw [if_pos (by rw [lg_cmp_ge]; rw [lg_cmp_lt] at hc; exact Int64.not_lt.mp hc), hp hc, q_whole (by omega) (by omega)]
        rfl
  unfold numL
  by_cases hc : lg_cmp v 0 < 0
  · rw [if_pos hc, if_neg (by rw [lg_cmp_ge]; rw [lg_cmp_lt] at hc; exact Int64.not_le.mpr hc), q_say (by omega)]
    simp only [Option.bind_some]
    rw [key _ (by simp only [List.length_append, List.length_cons, List.length_nil]; omega), List.append_assoc]
  · rw [if_neg hc, if_pos (by rw [lg_cmp_ge]; rw [lg_cmp_lt] at hc; exact Int64.not_lt.mp hc), key _ (by omega), List.nil_append]
end WNV
