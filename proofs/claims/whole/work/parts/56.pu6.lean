/-! an object more -/
def tK (s : Tst) (k : Nat) : Fin 10 := fk10 (s.kinds k)
def tP (s : Tst) (k : Nat) : Nat := (s.parents k).toNatClampNeg
def tD (s : Tst) (k : Nat) : Nat := (s.depths k).toNatClampNeg
/-- the objects' kinds, parents and depths -/
def T0 (s : Tst) : Prop := s.count ≤ 200 ∧ (∀ k, k < s.count → s.kinds k = zI (tK s k).val ∧ (tK s k = 0 ↔ k = 0)) ∧ (∀ k, k < s.count → (k = 0 ∧ s.parents k = -1 ∧ s.depths k = zI 0) ∨ (0 < k ∧ s.parents k = zI (tP s k) ∧ tP s k < k ∧ s.depths k = zI (tD s (tP s k) + 1) ∧ tD s k < k + 1))
set_option maxRecDepth 100000 in
set_option maxHeartbeats 4000000 in
theorem T0_dep {s : Tst} (h : T0 s) {k : Nat} (hk : k < s.count) : s.depths k = zI (tD s k) ∧ tD s k ≤ k := by
  have hN := h.1
  cases h.2.2 k hk with
  | inl h1 =>
    have e : tD s k = 0 := by unfold tD; rw [h1.2.2]; rfl
    rw [e, h1.2.2]; exact ⟨rfl, by omega⟩
  | inr h1 =>
    have hlt : tD s (tP s k) < 2147483647 := by
      unfold tD
      have := (s.depths (tP s k)).toInt_lt
      show (s.depths (tP s k)).toInt.toNat < _
      cases h.2.2 (tP s k) (by omega) with
      | inl h2 => rw [h2.2.2]; decide
      | inr h2 =>
        have h3 := h2.2.2.2.2
        unfold tD at h3
        have h4 : (s.depths (tP s k)).toInt.toNat < tP s k + 1 := h3
        omega
    have e : tD s k = tD s (tP s k) + 1 := by
      show (s.depths k).toNatClampNeg = _
      rw [h1.2.2.2.1, zI_nat (by omega)]
    exact ⟨by rw [e]; exact h1.2.2.2.1, by have := h1.2.2.2.2; omega⟩
/-- an object's number, or none -/
def enc : Option Nat → Int32
  | none => -1
  | some p => zI p
/-- how deep what is in it lies -/
def dIn (s : Tst) : Option Nat → Nat
  | none => 0
  | some p => tD s p + 1
section GRW
variable {bT : Md} {s : Tst}
set_option maxRecDepth 100000 in
set_option maxHeartbeats 4000000 in
theorem p_has {k : Nat} (hk : k < 2147483648) (hN : s.count ≤ 200) : fx_X7_has (yY bT s) (zI k) = some (bI (decide (k < s.count))) := by
  unfold fx_X7_has
  simp (disch := omega) only [yY_13, zI_le, zI_lt, zI_inj, zI_z, zI_lz, zI_zl, zI_neg, zI_nat, zI_add, zI_one, zI_mul, zI_ne1, zI_1n, if_false]
  by_cases h : s.count ≤ k
  · rw [if_pos h, decide_eq_false (by omega)]; rfl
  · rw [if_neg h, decide_eq_true (by omega)]; rfl
set_option maxRecDepth 100000 in
set_option maxHeartbeats 4000000 in
theorem p_hasN : fx_X7_has (yY bT s) (-1) = some 0 := by
  unfold fx_X7_has
  rw [if_pos (by decide)]
set_option maxRecDepth 100000 in
set_option maxHeartbeats 4000000 in
theorem p_hasT {k : Nat} (hk : k < s.count) (hN : s.count ≤ 200) : fx_X7_has (yY bT s) (zI k) = some 1 := by
  rw [p_has (by omega) hN, decide_eq_true hk]; rfl
set_option maxRecDepth 100000 in
set_option maxHeartbeats 4000000 in
theorem p_kindOf {k : Nat} (hT : T0 s) (hk : k < s.count) : fx_X7_kindOf (yY bT s) (zI k) = some (tK s k) := by
  have hN := hT.1
  unfold fx_X7_kindOf fx_X7_kindOf_18
  rw [p_hasT hk hN]
  simp (disch := omega) only [yY_12, yY_13, yY_14, yY_15, yY_a0, yY_a1, yY_a2, yY_a3, yY_a4, yY_a5, yY_a7, yY_a8, yY_a9, yY_a10, yY_a11, yY_n, zI_le, zI_lt, zI_inj, zI_z, zI_lz, zI_zl, zI_neg, zI_nat, zI_add, zI_one, zI_mul, zI_ne1, zI_1n, leT, leF, ltT, ltF, eqT, eqF, if_true, if_false, Option.bind_some, false_or, or_false, true_or, or_true, true_and, and_true, false_and, and_false, not_true_eq_false, not_false_eq_true, reduceIte, one_nz]
  rw [(hT.2.1 k hk).1, t_numbered _ (tK s k).isLt]
  rfl
set_option maxRecDepth 100000 in
set_option maxHeartbeats 4000000 in
theorem p_parentOf {k : Nat} (hN : s.count ≤ 200) (hk : k < s.count) : fx_X7_parentOf (yY bT s) (zI k) = some (s.parents k) := by
  unfold fx_X7_parentOf
  rw [p_hasT hk hN]
  simp (disch := omega) only [yY_12, yY_13, yY_14, yY_15, yY_a0, yY_a1, yY_a2, yY_a3, yY_a4, yY_a5, yY_a7, yY_a8, yY_a9, yY_a10, yY_a11, yY_n, zI_le, zI_lt, zI_inj, zI_z, zI_lz, zI_zl, zI_neg, zI_nat, zI_add, zI_one, zI_mul, zI_ne1, zI_1n, leT, leF, ltT, ltF, eqT, eqF, if_true, if_false, Option.bind_some, false_or, or_false, true_or, or_true, true_and, and_true, false_and, and_false, not_true_eq_false, not_false_eq_true, reduceIte, one_nz]
set_option maxRecDepth 100000 in
set_option maxHeartbeats 4000000 in
theorem p_depthOf {k : Nat} (hT : T0 s) (hk : k < s.count) : fx_X7_depthOf (yY bT s) (zI k) = some (zI (tD s k)) := by
  have hN := hT.1
  unfold fx_X7_depthOf
  rw [p_hasT hk hN]
  simp (disch := omega) only [yY_12, yY_13, yY_14, yY_15, yY_a0, yY_a1, yY_a2, yY_a3, yY_a4, yY_a5, yY_a7, yY_a8, yY_a9, yY_a10, yY_a11, yY_n, zI_le, zI_lt, zI_inj, zI_z, zI_lz, zI_zl, zI_neg, zI_nat, zI_add, zI_one, zI_mul, zI_ne1, zI_1n, leT, leF, ltT, ltF, eqT, eqF, if_true, if_false, Option.bind_some, false_or, or_false, true_or, or_true, true_and, and_true, false_and, and_false, not_true_eq_false, not_false_eq_true, reduceIte, one_nz]
  rw [(T0_dep hT hk).1]
set_option maxRecDepth 100000 in
set_option maxHeartbeats 4000000 in
theorem p_depthOfN : fx_X7_depthOf (yY bT s) (-1) = some (-1) := by
  unfold fx_X7_depthOf
  rw [p_hasN]; rfl
set_option maxRecDepth 100000 in
set_option maxHeartbeats 4000000 in
theorem p_mayHoldN {κ : Fin 10} (h0 : s.count = 0) : fx_X7_mayHold (yY bT s) (-1) κ = some (bI (decide (κ = 0))) := by
  unfold fx_X7_mayHold
  rw [p_hasN]
  simp only [Option.bind_some, yY_13, h0]
  rw [if_pos trivial, if_pos (by decide)]
  by_cases h : κ = 0
  · rw [if_pos h, decide_eq_true h]; rfl
  · rw [if_neg h, decide_eq_false h]; rfl
set_option maxRecDepth 100000 in
set_option maxHeartbeats 4000000 in
theorem p_mayHold {κ : Fin 10} {p : Nat} (hT : T0 s) (hk : p < s.count) : fx_X7_mayHold (yY bT s) (zI p) κ = fx_X2_mayBeIn κ (tK s p) := by
  have hN := hT.1
  unfold fx_X7_mayHold
  rw [p_hasT hk hN, p_kindOf hT hk]
  simp only [Option.bind_some, one_nz, if_false]
  cases t_may κ (tK s p) with
  | inl h => rw [h]; rfl
  | inr h => rw [h]; rfl
set_option maxRecDepth 100000 in
set_option maxHeartbeats 4000000 in
theorem upd_same (f : Nat → Int32) (k : Nat) (x : Int32) : upd f k x k = x := by rw [upd_at, if_pos rfl]
set_option maxRecDepth 100000 in
set_option maxHeartbeats 4000000 in
theorem upd_ne {f : Nat → Int32} {k j : Nat} {x : Int32} (h : j ≠ k) : upd f k x j = f j := by rw [upd_at, if_neg h]
set_option maxRecDepth 100000 in
set_option maxHeartbeats 4000000 in
theorem zI_mx (a b : Nat) : (if a < b then zI b else zI a) = zI (max a b) := by
  by_cases h : a < b
  · rw [if_pos h, Nat.max_eq_right (by omega)]
  · rw [if_neg h, Nat.max_eq_left (by omega)]
set_option maxRecDepth 100000 in
set_option maxHeartbeats 4000000 in
theorem m1p1 : (-1 : Int32) + 1 = zI 0 := by decide
/-- the links when object N is hung in -/
def hgA (s : Tst) (N : Nat) : Option Nat → (Nat → Int32) × (Nat → Int32) × (Nat → Int32)
  | none => (upd s.firsts N (-1), upd s.lasts N (-1), upd s.nexts N (-1))
  | some p => if s.lasts p = -1 then (upd (upd s.firsts N (-1)) p (zI N), upd (upd s.lasts N (-1)) p (zI N), upd s.nexts N (-1)) else (upd s.firsts N (-1), upd (upd s.lasts N (-1)) p (zI N), upd (upd s.nexts N (-1)) (s.lasts p).toNatClampNeg (zI N))
/-- the tree with an object more, its fields aside -/
def gr (s : Tst) (par : Option Nat) (κ : Fin 10) : Tst := ((((((((((s.s_count (s.count + 1)).s_kinds (upd s.kinds s.count (zI κ.val))).s_parents (upd s.parents s.count (enc par))).s_depths (upd s.depths s.count (zI (dIn s par)))).s_deepest (max s.deepest (dIn s par + 1))).s_firsts ((hgA s s.count par).1)).s_lasts ((hgA s s.count par).2.1)).s_nexts ((hgA s s.count par).2.2)).s_kfrom (upd s.kfrom s.count 0)).s_ksz (upd s.ksz s.count 0))
/-- each last child is an object, or there is none -/
def TLa (s : Tst) : Prop := ∀ k, k < s.count → s.lasts k = -1 ∨ ∃ c, c < s.count ∧ s.lasts k = zI c
set_option maxRecDepth 100000 in
set_option maxHeartbeats 4000000 in
theorem p_grow (hT : T0 s) (hL : TLa s) {par : Option Nat} (hp : ∀ p, par = some p → p < s.count) (κ : Fin 10) (hN : s.count < 200) (hd : s.deepest ≤ 200) : fx_X7_grow (yY bT s) (enc par) κ = (fx_X7_fillAsMade (yY bT (gr s par κ)) (zI s.count) κ).bind fun u => some (zI s.count, u) := by
  cases par with
  | none =>
    unfold fx_X7_grow enc
    simp (disch := omega) only [yY_12, yY_13, yY_14, yY_15, yY_a0, yY_a1, yY_a2, yY_a3, yY_a4, yY_a5, yY_a7, yY_a8, yY_a9, yY_a10, yY_a11, yY_n, yY_s12, yY_s13, yY_s14, yY_s15, yY_sa0, yY_sa1, yY_sa2, yY_sa3, yY_sa4, yY_sa5, yY_sa7, yY_sa8, yY_sa9, yY_sa10, yY_sa11, yY_sn, kN_val, show (200 : Int32) = zI 200 from rfl, p_depthOfN, m1p1, zI_le, zI_lt, zI_inj, zI_z, zI_lz, zI_zl, zI_neg, zI_nat, zI_add, zI_one, zI_mul, zI_ne1, zI_1n, leT, leF, ltT, ltF, eqT, eqF, if_true, if_false, Option.bind_some, false_or, or_false, true_or, or_true, true_and, and_true, false_and, and_false, not_true_eq_false, not_false_eq_true, reduceIte, upd_same, zI_mx]
    have hh : ∀ s2 : Tst, s2.count = s.count + 1 → fx_X7_hang (yY bT s2) (zI s.count) (-1) = some (yY bT s2) := by
      intro s2 h2
      unfold fx_X7_hang
      rw [p_hasT (by omega) (by omega), p_hasN]
      rfl
    rw [hh _ rfl]
    rfl
  | some p =>
    have hk := hp p rfl
    have hdp := T0_dep hT hk
    unfold fx_X7_grow enc
    have hdep : ∀ s2 : Tst, s2.count = s.count + 1 → s2.depths = s.depths → fx_X7_depthOf (yY bT s2) (zI p) = some (zI (tD s p)) := by
      intro s2 h1 h2
      unfold fx_X7_depthOf
      rw [p_hasT (by omega) (by omega)]
      simp (disch := omega) only [yY_12, yY_13, yY_14, yY_15, yY_a0, yY_a1, yY_a2, yY_a3, yY_a4, yY_a5, yY_a7, yY_a8, yY_a9, yY_a10, yY_a11, yY_n, zI_le, zI_lt, zI_inj, zI_z, zI_lz, zI_zl, zI_neg, zI_nat, zI_add, zI_one, zI_mul, zI_ne1, zI_1n, leT, leF, ltT, ltF, eqT, eqF, if_true, if_false, Option.bind_some, false_or, or_false, true_or, or_true, true_and, and_true, false_and, and_false, not_true_eq_false, not_false_eq_true, reduceIte, one_nz]
      rw [h2, hdp.1]
    simp (disch := omega) only [yY_12, yY_13, yY_14, yY_15, yY_a0, yY_a1, yY_a2, yY_a3, yY_a4, yY_a5, yY_a7, yY_a8, yY_a9, yY_a10, yY_a11, yY_n, yY_s12, yY_s13, yY_s14, yY_s15, yY_sa0, yY_sa1, yY_sa2, yY_sa3, yY_sa4, yY_sa5, yY_sa7, yY_sa8, yY_sa9, yY_sa10, yY_sa11, yY_sn, kN_val, show (200 : Int32) = zI 200 from rfl, zI_le, zI_lt, zI_inj, zI_z, zI_lz, zI_zl, zI_neg, zI_nat, zI_add, zI_one, zI_mul, zI_ne1, zI_1n, leT, leF, ltT, ltF, eqT, eqF, if_true, if_false, Option.bind_some, false_or, or_false, true_or, or_true, true_and, and_true, false_and, and_false, not_true_eq_false, not_false_eq_true, reduceIte]
    rw [hdep (((s.s_count (s.count + 1)).s_kinds (upd s.kinds s.count (zI κ.val))).s_parents (upd s.parents s.count (zI p))) rfl rfl]
    simp (disch := omega) only [yY_12, yY_13, yY_14, yY_15, yY_a0, yY_a1, yY_a2, yY_a3, yY_a4, yY_a5, yY_a7, yY_a8, yY_a9, yY_a10, yY_a11, yY_n, yY_s12, yY_s13, yY_s14, yY_s15, yY_sa0, yY_sa1, yY_sa2, yY_sa3, yY_sa4, yY_sa5, yY_sa7, yY_sa8, yY_sa9, yY_sa10, yY_sa11, yY_sn, zI_le, zI_lt, zI_inj, zI_z, zI_lz, zI_zl, zI_neg, zI_nat, zI_add, zI_one, zI_mul, zI_ne1, zI_1n, leT, leF, ltT, ltF, eqT, eqF, if_true, if_false, Option.bind_some, false_or, or_false, true_or, or_true, true_and, and_true, false_and, and_false, not_true_eq_false, not_false_eq_true, reduceIte, upd_same, zI_mx]
    have hh : ∀ s2 : Tst, s2.count = s.count + 1 → s2.lasts = upd s.lasts s.count (-1) → fx_X7_hang (yY bT s2) (zI s.count) (zI p) = some (yY bT (if s.lasts p = -1 then ((s2.s_firsts (upd s2.firsts p (zI s.count))).s_lasts (upd s2.lasts p (zI s.count))) else ((s2.s_nexts (upd s2.nexts (s.lasts p).toNatClampNeg (zI s.count))).s_lasts (upd s2.lasts p (zI s.count))))) := by
      intro s2 h1 h2
      unfold fx_X7_hang fx_X7_hang_49
      have hl : s2.lasts p = s.lasts p := by rw [h2, upd_ne (by omega)]
      rw [p_hasT (by omega) (by omega), p_hasT (by omega) (by omega)]
      simp (disch := omega) only [yY_12, yY_13, yY_14, yY_15, yY_a0, yY_a1, yY_a2, yY_a3, yY_a4, yY_a5, yY_a7, yY_a8, yY_a9, yY_a10, yY_a11, yY_n, zI_le, zI_lt, zI_inj, zI_z, zI_lz, zI_zl, zI_neg, zI_nat, zI_add, zI_one, zI_mul, zI_ne1, zI_1n, leT, leF, ltT, ltF, eqT, eqF, if_true, if_false, Option.bind_some, false_or, or_false, true_or, or_true, true_and, and_true, false_and, and_false, not_true_eq_false, not_false_eq_true, reduceIte, one_nz, hl]
      cases hL p hk with
      | inl h =>
        rw [h, p_hasN, if_pos rfl]
        simp (disch := omega) only [yY_12, yY_13, yY_14, yY_15, yY_a0, yY_a1, yY_a2, yY_a3, yY_a4, yY_a5, yY_a7, yY_a8, yY_a9, yY_a10, yY_a11, yY_n, yY_s12, yY_s13, yY_s14, yY_s15, yY_sa0, yY_sa1, yY_sa2, yY_sa3, yY_sa4, yY_sa5, yY_sa7, yY_sa8, yY_sa9, yY_sa10, yY_sa11, yY_sn, T_kc_kc, T_kc_count, T_kc_deepest, T_kc_version, T_kc_kinds, T_kc_parents, T_kc_depths, T_kc_firsts, T_kc_lasts, T_kc_nexts, T_kc_tsz, T_kc_marks, T_kc_kfrom, T_kc_ksz, T_kc_kept, T_kc_nums, T_count_kc, T_count_count, T_count_deepest, T_count_version, T_count_kinds, T_count_parents, T_count_depths, T_count_firsts, T_count_lasts, T_count_nexts, T_count_tsz, T_count_marks, T_count_kfrom, T_count_ksz, T_count_kept, T_count_nums, T_deepest_kc, T_deepest_count, T_deepest_deepest, T_deepest_version, T_deepest_kinds, T_deepest_parents, T_deepest_depths, T_deepest_firsts, T_deepest_lasts, T_deepest_nexts, T_deepest_tsz, T_deepest_marks, T_deepest_kfrom, T_deepest_ksz, T_deepest_kept, T_deepest_nums, T_version_kc, T_version_count, T_version_deepest, T_version_version, T_version_kinds, T_version_parents, T_version_depths, T_version_firsts, T_version_lasts, T_version_nexts, T_version_tsz, T_version_marks, T_version_kfrom, T_version_ksz, T_version_kept, T_version_nums, T_kinds_kc, T_kinds_count, T_kinds_deepest, T_kinds_version, T_kinds_kinds, T_kinds_parents, T_kinds_depths, T_kinds_firsts, T_kinds_lasts, T_kinds_nexts, T_kinds_tsz, T_kinds_marks, T_kinds_kfrom, T_kinds_ksz, T_kinds_kept, T_kinds_nums, T_parents_kc, T_parents_count, T_parents_deepest, T_parents_version, T_parents_kinds, T_parents_parents, T_parents_depths, T_parents_firsts, T_parents_lasts, T_parents_nexts, T_parents_tsz, T_parents_marks, T_parents_kfrom, T_parents_ksz, T_parents_kept, T_parents_nums, T_depths_kc, T_depths_count, T_depths_deepest, T_depths_version, T_depths_kinds, T_depths_parents, T_depths_depths, T_depths_firsts, T_depths_lasts, T_depths_nexts, T_depths_tsz, T_depths_marks, T_depths_kfrom, T_depths_ksz, T_depths_kept, T_depths_nums, T_firsts_kc, T_firsts_count, T_firsts_deepest, T_firsts_version, T_firsts_kinds, T_firsts_parents, T_firsts_depths, T_firsts_firsts, T_firsts_lasts, T_firsts_nexts, T_firsts_tsz, T_firsts_marks, T_firsts_kfrom, T_firsts_ksz, T_firsts_kept, T_firsts_nums, T_lasts_kc, T_lasts_count, T_lasts_deepest, T_lasts_version, T_lasts_kinds, T_lasts_parents, T_lasts_depths, T_lasts_firsts, T_lasts_lasts, T_lasts_nexts, T_lasts_tsz, T_lasts_marks, T_lasts_kfrom, T_lasts_ksz, T_lasts_kept, T_lasts_nums, T_nexts_kc, T_nexts_count, T_nexts_deepest, T_nexts_version, T_nexts_kinds, T_nexts_parents, T_nexts_depths, T_nexts_firsts, T_nexts_lasts, T_nexts_nexts, T_nexts_tsz, T_nexts_marks, T_nexts_kfrom, T_nexts_ksz, T_nexts_kept, T_nexts_nums, T_tsz_kc, T_tsz_count, T_tsz_deepest, T_tsz_version, T_tsz_kinds, T_tsz_parents, T_tsz_depths, T_tsz_firsts, T_tsz_lasts, T_tsz_nexts, T_tsz_tsz, T_tsz_marks, T_tsz_kfrom, T_tsz_ksz, T_tsz_kept, T_tsz_nums, T_marks_kc, T_marks_count, T_marks_deepest, T_marks_version, T_marks_kinds, T_marks_parents, T_marks_depths, T_marks_firsts, T_marks_lasts, T_marks_nexts, T_marks_tsz, T_marks_marks, T_marks_kfrom, T_marks_ksz, T_marks_kept, T_marks_nums, T_kfrom_kc, T_kfrom_count, T_kfrom_deepest, T_kfrom_version, T_kfrom_kinds, T_kfrom_parents, T_kfrom_depths, T_kfrom_firsts, T_kfrom_lasts, T_kfrom_nexts, T_kfrom_tsz, T_kfrom_marks, T_kfrom_kfrom, T_kfrom_ksz, T_kfrom_kept, T_kfrom_nums, T_ksz_kc, T_ksz_count, T_ksz_deepest, T_ksz_version, T_ksz_kinds, T_ksz_parents, T_ksz_depths, T_ksz_firsts, T_ksz_lasts, T_ksz_nexts, T_ksz_tsz, T_ksz_marks, T_ksz_kfrom, T_ksz_ksz, T_ksz_kept, T_ksz_nums, T_kept_kc, T_kept_count, T_kept_deepest, T_kept_version, T_kept_kinds, T_kept_parents, T_kept_depths, T_kept_firsts, T_kept_lasts, T_kept_nexts, T_kept_tsz, T_kept_marks, T_kept_kfrom, T_kept_ksz, T_kept_kept, T_kept_nums, T_nums_kc, T_nums_count, T_nums_deepest, T_nums_version, T_nums_kinds, T_nums_parents, T_nums_depths, T_nums_firsts, T_nums_lasts, T_nums_nexts, T_nums_tsz, T_nums_marks, T_nums_kfrom, T_nums_ksz, T_nums_kept, T_nums_nums, leT, leF, ltT, ltF, eqT, eqF, if_true, if_false, Option.bind_some, false_or, or_false, true_or, or_true, true_and, and_true, false_and, and_false, not_true_eq_false, not_false_eq_true, reduceIte]
      | inr h =>
        obtain ⟨c, hc, he⟩ := h
        rw [he, p_hasT (by omega) (by omega), if_neg (show ¬ (zI c = -1) by rw [zI_ne1 (by omega)]; exact not_false)]
        simp (disch := omega) only [yY_12, yY_13, yY_14, yY_15, yY_a0, yY_a1, yY_a2, yY_a3, yY_a4, yY_a5, yY_a7, yY_a8, yY_a9, yY_a10, yY_a11, yY_n, yY_s12, yY_s13, yY_s14, yY_s15, yY_sa0, yY_sa1, yY_sa2, yY_sa3, yY_sa4, yY_sa5, yY_sa7, yY_sa8, yY_sa9, yY_sa10, yY_sa11, yY_sn, T_kc_kc, T_kc_count, T_kc_deepest, T_kc_version, T_kc_kinds, T_kc_parents, T_kc_depths, T_kc_firsts, T_kc_lasts, T_kc_nexts, T_kc_tsz, T_kc_marks, T_kc_kfrom, T_kc_ksz, T_kc_kept, T_kc_nums, T_count_kc, T_count_count, T_count_deepest, T_count_version, T_count_kinds, T_count_parents, T_count_depths, T_count_firsts, T_count_lasts, T_count_nexts, T_count_tsz, T_count_marks, T_count_kfrom, T_count_ksz, T_count_kept, T_count_nums, T_deepest_kc, T_deepest_count, T_deepest_deepest, T_deepest_version, T_deepest_kinds, T_deepest_parents, T_deepest_depths, T_deepest_firsts, T_deepest_lasts, T_deepest_nexts, T_deepest_tsz, T_deepest_marks, T_deepest_kfrom, T_deepest_ksz, T_deepest_kept, T_deepest_nums, T_version_kc, T_version_count, T_version_deepest, T_version_version, T_version_kinds, T_version_parents, T_version_depths, T_version_firsts, T_version_lasts, T_version_nexts, T_version_tsz, T_version_marks, T_version_kfrom, T_version_ksz, T_version_kept, T_version_nums, T_kinds_kc, T_kinds_count, T_kinds_deepest, T_kinds_version, T_kinds_kinds, T_kinds_parents, T_kinds_depths, T_kinds_firsts, T_kinds_lasts, T_kinds_nexts, T_kinds_tsz, T_kinds_marks, T_kinds_kfrom, T_kinds_ksz, T_kinds_kept, T_kinds_nums, T_parents_kc, T_parents_count, T_parents_deepest, T_parents_version, T_parents_kinds, T_parents_parents, T_parents_depths, T_parents_firsts, T_parents_lasts, T_parents_nexts, T_parents_tsz, T_parents_marks, T_parents_kfrom, T_parents_ksz, T_parents_kept, T_parents_nums, T_depths_kc, T_depths_count, T_depths_deepest, T_depths_version, T_depths_kinds, T_depths_parents, T_depths_depths, T_depths_firsts, T_depths_lasts, T_depths_nexts, T_depths_tsz, T_depths_marks, T_depths_kfrom, T_depths_ksz, T_depths_kept, T_depths_nums, T_firsts_kc, T_firsts_count, T_firsts_deepest, T_firsts_version, T_firsts_kinds, T_firsts_parents, T_firsts_depths, T_firsts_firsts, T_firsts_lasts, T_firsts_nexts, T_firsts_tsz, T_firsts_marks, T_firsts_kfrom, T_firsts_ksz, T_firsts_kept, T_firsts_nums, T_lasts_kc, T_lasts_count, T_lasts_deepest, T_lasts_version, T_lasts_kinds, T_lasts_parents, T_lasts_depths, T_lasts_firsts, T_lasts_lasts, T_lasts_nexts, T_lasts_tsz, T_lasts_marks, T_lasts_kfrom, T_lasts_ksz, T_lasts_kept, T_lasts_nums, T_nexts_kc, T_nexts_count, T_nexts_deepest, T_nexts_version, T_nexts_kinds, T_nexts_parents, T_nexts_depths, T_nexts_firsts, T_nexts_lasts, T_nexts_nexts, T_nexts_tsz, T_nexts_marks, T_nexts_kfrom, T_nexts_ksz, T_nexts_kept, T_nexts_nums, T_tsz_kc, T_tsz_count, T_tsz_deepest, T_tsz_version, T_tsz_kinds, T_tsz_parents, T_tsz_depths, T_tsz_firsts, T_tsz_lasts, T_tsz_nexts, T_tsz_tsz, T_tsz_marks, T_tsz_kfrom, T_tsz_ksz, T_tsz_kept, T_tsz_nums, T_marks_kc, T_marks_count, T_marks_deepest, T_marks_version, T_marks_kinds, T_marks_parents, T_marks_depths, T_marks_firsts, T_marks_lasts, T_marks_nexts, T_marks_tsz, T_marks_marks, T_marks_kfrom, T_marks_ksz, T_marks_kept, T_marks_nums, T_kfrom_kc, T_kfrom_count, T_kfrom_deepest, T_kfrom_version, T_kfrom_kinds, T_kfrom_parents, T_kfrom_depths, T_kfrom_firsts, T_kfrom_lasts, T_kfrom_nexts, T_kfrom_tsz, T_kfrom_marks, T_kfrom_kfrom, T_kfrom_ksz, T_kfrom_kept, T_kfrom_nums, T_ksz_kc, T_ksz_count, T_ksz_deepest, T_ksz_version, T_ksz_kinds, T_ksz_parents, T_ksz_depths, T_ksz_firsts, T_ksz_lasts, T_ksz_nexts, T_ksz_tsz, T_ksz_marks, T_ksz_kfrom, T_ksz_ksz, T_ksz_kept, T_ksz_nums, T_kept_kc, T_kept_count, T_kept_deepest, T_kept_version, T_kept_kinds, T_kept_parents, T_kept_depths, T_kept_firsts, T_kept_lasts, T_kept_nexts, T_kept_tsz, T_kept_marks, T_kept_kfrom, T_kept_ksz, T_kept_kept, T_kept_nums, T_nums_kc, T_nums_count, T_nums_deepest, T_nums_version, T_nums_kinds, T_nums_parents, T_nums_depths, T_nums_firsts, T_nums_lasts, T_nums_nexts, T_nums_tsz, T_nums_marks, T_nums_kfrom, T_nums_ksz, T_nums_kept, T_nums_nums, zI_le, zI_lt, zI_inj, zI_z, zI_lz, zI_zl, zI_neg, zI_nat, zI_add, zI_one, zI_mul, zI_ne1, zI_1n, leT, leF, ltT, ltF, eqT, eqF, if_true, if_false, Option.bind_some, false_or, or_false, true_or, or_true, true_and, and_true, false_and, and_false, not_true_eq_false, not_false_eq_true, reduceIte, one_nz]
    rw [hh]
    rotate_left
    · rfl
    · rfl
    simp only [Option.bind_some]
    unfold gr hgA dIn
    by_cases hl : s.lasts p = -1
    · simp only [hl, if_true]
      rfl
    · simp only [hl, if_false]
      rfl
set_option maxRecDepth 100000 in
set_option maxHeartbeats 4000000 in
theorem updL_same (f : Nat → Int64) (k : Nat) (x : Int64) : vp_updL f k x k = x := by rw [updL_at, if_pos rfl]
set_option maxRecDepth 100000 in
set_option maxHeartbeats 4000000 in
theorem updL_ne {f : Nat → Int64} {k j : Nat} {x : Int64} (h : j ≠ k) : vp_updL f k x j = f j := by rw [updL_at, if_neg h]
set_option maxRecDepth 100000 in
set_option maxHeartbeats 4000000 in
theorem p_putN {k w : Nat} {v : Int64} (hk : k < s.count) (hN : s.count ≤ 200) (hw : w < 5) : fx_X7_putNumber (yY bT s) (zI k) (zI w) v = some (yY bT (s.s_nums (vp_updL s.nums (k * 5 + w) v))) := by
  unfold fx_X7_putNumber fx_X7_hasNumber
  simp (disch := omega) only [yY_12, yY_13, yY_14, yY_15, yY_a0, yY_a1, yY_a2, yY_a3, yY_a4, yY_a5, yY_a7, yY_a8, yY_a9, yY_a10, yY_a11, yY_n, yY_s12, yY_s13, yY_s14, yY_s15, yY_sa0, yY_sa1, yY_sa2, yY_sa3, yY_sa4, yY_sa5, yY_sa7, yY_sa8, yY_sa9, yY_sa10, yY_sa11, yY_sn, show (5 : Int32) = zI 5 from rfl, zI_le, zI_lt, zI_inj, zI_z, zI_lz, zI_zl, zI_neg, zI_nat, zI_add, zI_one, zI_mul, zI_ne1, zI_1n, leT, leF, ltT, ltF, eqT, eqF, if_true, if_false, Option.bind_some, false_or, or_false, true_or, or_true, true_and, and_true, false_and, and_false, not_true_eq_false, not_false_eq_true, reduceIte, one_nz]
set_option maxRecDepth 100000 in
set_option maxHeartbeats 4000000 in
theorem p_empty {k w : Nat} (hk : k < s.count) (hN : s.count ≤ 200) (hw : w < 2) : fx_X7_emptyText (yY bT s) (zI k) (zI w) = some (yY bT (s.s_tsz (upd s.tsz (k * 2 + w) 0))) := by
  unfold fx_X7_emptyText fx_X7_hasText
  simp (disch := omega) only [yY_12, yY_13, yY_14, yY_15, yY_a0, yY_a1, yY_a2, yY_a3, yY_a4, yY_a5, yY_a7, yY_a8, yY_a9, yY_a10, yY_a11, yY_n, yY_s12, yY_s13, yY_s14, yY_s15, yY_sa0, yY_sa1, yY_sa2, yY_sa3, yY_sa4, yY_sa5, yY_sa7, yY_sa8, yY_sa9, yY_sa10, yY_sa11, yY_sn, show (2 : Int32) = zI 2 from rfl, zI_le, zI_lt, zI_inj, zI_z, zI_lz, zI_zl, zI_neg, zI_nat, zI_add, zI_one, zI_mul, zI_ne1, zI_1n, leT, leF, ltT, ltF, eqT, eqF, if_true, if_false, Option.bind_some, false_or, or_false, true_or, or_true, true_and, and_true, false_and, and_false, not_true_eq_false, not_false_eq_true, reduceIte, one_nz]
set_option maxRecDepth 100000 in
set_option maxHeartbeats 4000000 in
theorem p_fill53 {k : Nat} (hk : k < s.count) (hN : s.count ≤ 200) : fx_X7_fillAsMade_53 FU (yY bT s) (zI k) 0 = some (yY bT (s.s_tsz (upd (upd s.tsz (k * 2) 0) (k * 2 + 1) 0))) := by
  obtain ⟨F, hF⟩ : ∃ F, FU = F + 1 + 1 + 1 := ⟨999997, by unfold FU; omega⟩
  have h2 : ∀ F : Nat, ∀ s2 : Md, fx_X7_fillAsMade_53 (F + 1) s2 (zI k) (zI 2) = some s2 := by
    intro F s2
    rw [fx_X7_fillAsMade_53, if_pos (by decide)]
  have h1 : ∀ F : Nat, ∀ s2 : Tst, k < s2.count → s2.count ≤ 200 → fx_X7_fillAsMade_53 (F + 1 + 1) (yY bT s2) (zI k) (zI 1) = some (yY bT (s2.s_tsz (upd s2.tsz (k * 2 + 1) 0))) := by
    intro F s2 hk2 hN2
    rw [fx_X7_fillAsMade_53, if_neg (by decide), p_empty hk2 hN2 (by omega)]
    simp only [Option.bind_some, zI_one]
    exact h2 F _
  have h0 : fx_X7_fillAsMade_53 (F + 1 + 1 + 1) (yY bT s) (zI k) (zI 0) = some (yY bT (s.s_tsz (upd (upd s.tsz (k * 2) 0) (k * 2 + 1) 0))) := by
    rw [fx_X7_fillAsMade_53, if_neg (by decide), p_empty hk hN (by omega)]
    simp only [Option.bind_some, zI_one]
    exact h1 F _ hk hN
  rw [hF]
  exact h0
set_option maxRecDepth 100000 in
set_option maxHeartbeats 4000000 in
theorem t_isText (f : Fin 8) : fx_X0_isText f = some (bI (decide (fSort f = 0))) := by revert f; decide
set_option maxRecDepth 100000 in
set_option maxHeartbeats 4000000 in
theorem p_fill5 (κ : Fin 10) {N : Nat} : ∀ j i F w (s : Tst), N < s.count → s.count ≤ 200 → nfK κ - i = j → j < F → i ≤ nfK κ → w = ahd κ false i → ∃ g, fx_X7_fillAsMade_5 F (yY bT s) (zI N) κ (zI w) (zI i) = fx_X7_fillAsMade_53 FU (yY bT (s.s_nums (g))) (zI N) 0 ∧ (∀ x, (x < N * 5 ∨ N * 5 + 5 ≤ x) → g x = s.nums x) ∧ (∀ x, x < w → g (N * 5 + x) = s.nums (N * 5 + x)) ∧ (∀ a, i ≤ a → a < nfK κ → fSort (ffK κ a) ≠ 0 → g (N * 5 + ahd κ false a) = fMade (ffK κ a)) := by
  have hf5 := nf_le κ
  intro j
  induction j with
  | zero =>
    intro i F w s hk hN hj hF hi hw
    obtain ⟨F, rfl⟩ : ∃ F', F = F' + 1 := ⟨F - 1, by omega⟩
    refine ⟨s.nums, ?_, fun _ _ => rfl, fun _ _ => rfl, fun a h1 h2 => absurd h2 (by omega)⟩
    rw [fx_X7_fillAsMade_5, t_fields]
    simp only [Option.bind_some]
    rw [if_pos (by rw [zI_le (by omega) (by omega)]; omega)]
    rfl
  | succ j ih =>
    intro i F w s hk hN hj hF hi hw
    obtain ⟨F, rfl⟩ : ∃ F', F = F' + 1 := ⟨F - 1, by omega⟩
    have hi2 : i < nfK κ := by omega
    rw [fx_X7_fillAsMade_5, t_fields]
    simp only [Option.bind_some]
    rw [if_neg (by rw [zI_le (by omega) (by omega)]; omega), t_fieldAt κ i hi2]
    simp only [Option.bind_some]
    rw [t_isText]
    simp only [Option.bind_some, bI_z]
    unfold fx_X7_fillAsMade_44
    by_cases hx : fSort (ffK κ i) = 0
    · rw [if_neg (by rw [decide_eq_true hx]; decide), zI_one]
      have hw2 : w = ahd κ false (i + 1) := by
        show w = ahd κ false i + if decide (fSort (ffK κ i) = 0) = false then 1 else 0
        rw [decide_eq_true hx, if_neg (by decide)]; omega
      obtain ⟨g, h1, h2, h3, h4⟩ := ih (i + 1) F w s hk hN (by omega) (by omega) (by omega) hw2
      refine ⟨g, h1, h2, h3, fun a ha1 ha2 ha3 => ?_⟩
      by_cases hai : a = i
      · rw [hai] at ha3; exact absurd hx ha3
      · exact h4 a (by omega) ha2 ha3
    · rw [if_pos (by rw [decide_eq_false hx])]
      have hlt := ahd_lt κ i hi2
      rw [decide_eq_false hx] at hlt
      have hc := (cnt_le κ).2
      rw [p_putN hk hN (by omega)]
      simp only [Option.bind_some, zI_one]
      have hw2 : w + 1 = ahd κ false (i + 1) := by
        show w + 1 = ahd κ false i + if decide (fSort (ffK κ i) = 0) = false then 1 else 0
        rw [decide_eq_false hx, if_pos rfl]; omega
      obtain ⟨g, h1, h2, h3, h4⟩ := ih (i + 1) F (w + 1) (s.s_nums (vp_updL s.nums (N * 5 + w) (fMade (ffK κ i)))) hk hN (by omega) (by omega) (by omega) hw2
      refine ⟨g, h1, fun x hx => ?_, fun x hx => ?_, fun a ha1 ha2 ha3 => ?_⟩
      · rw [h2 x hx]
        exact updL_ne (by omega)
      · rw [h3 x (by omega)]
        exact updL_ne (by omega)
      · by_cases hai : a = i
        · rw [hai, ← hw, h3 w (by omega)]
          exact updL_same _ _ _
        · exact h4 a (by omega) ha2 ha3
/-- what number a new object has -/
def bl (κ : Fin 10) (w : Nat) : Int64 := if κ.val = 3 ∧ w = 0 then 1 else if κ.val = 6 ∧ w = 2 then 1270000 else 0
set_option maxRecDepth 100000 in
set_option maxHeartbeats 4000000 in
theorem bl_made (κ : Fin 10) (i : Nat) (h : i < nfK κ) (ht : fSort (ffK κ i) ≠ 0) : fMade (ffK κ i) = bl κ (ahd κ false i) := by
  have h5 := nf_le κ
  have hall : ∀ κ : Fin 10, ∀ i : Fin 5, i.val < nfK κ → fSort (ffK κ i.val) ≠ 0 → fMade (ffK κ i.val) = bl κ (ahd κ false i.val) := by decide
  exact hall κ ⟨i, by omega⟩ h ht
set_option maxRecDepth 100000 in
set_option maxHeartbeats 4000000 in
theorem ahd_on (κ : Fin 10) (w : Nat) (h : w < cntK κ false) : ∃ i, i < nfK κ ∧ fSort (ffK κ i) ≠ 0 ∧ ahd κ false i = w := by
  have h5 := (cnt_le κ).2
  have hall : ∀ κ : Fin 10, ∀ w : Fin 5, w.val < cntK κ false → ∃ i : Fin 5, i.val < nfK κ ∧ fSort (ffK κ i.val) ≠ 0 ∧ ahd κ false i.val = w.val := by decide
  obtain ⟨i, h1⟩ := hall κ ⟨w, by omega⟩ h
  exact ⟨i.val, h1⟩
/-- the tree with an object more -/
def grf (s : Tst) (par : Option Nat) (κ : Fin 10) (g : Nat → Int64) : Tst := (((gr s par κ).s_nums (g)).s_tsz (upd (upd s.tsz (s.count * 2) 0) (s.count * 2 + 1) 0))
set_option maxRecDepth 100000 in
set_option maxHeartbeats 4000000 in
theorem p_growF (hT : T0 s) (hL : TLa s) {par : Option Nat} (hp : ∀ p, par = some p → p < s.count) (κ : Fin 10) (hN : s.count < 200) (hd : s.deepest ≤ 200) : ∃ g, fx_X7_grow (yY bT s) (enc par) κ = some (zI s.count, yY bT (grf s par κ g)) ∧ (∀ x, (x < s.count * 5 ∨ s.count * 5 + 5 ≤ x) → g x = s.nums x) ∧ ∀ w, w < cntK κ false → g (s.count * 5 + w) = bl κ w := by
  rw [p_grow hT hL hp κ hN hd]
  have hc : (gr s par κ).count = s.count + 1 := rfl
  obtain ⟨g, h1, h2, h3, h4⟩ := p_fill5 (bT := bT) κ (N := s.count) (nfK κ) 0 FU 0 (gr s par κ) (by omega) (by omega) rfl (by have := nf_le κ; unfold FU; omega) (by omega) rfl
  refine ⟨g, ?_, h2, fun w hw => ?_⟩
  · unfold fx_X7_fillAsMade
    rw [show (0 : Int32) = zI 0 from rfl, h1, p_fill53 (s := ((gr s par κ).s_nums (g))) (by show _ < s.count + 1; omega) (by show s.count + 1 ≤ _; omega)]
    rfl
  · obtain ⟨i, hi1, hi2, hi3⟩ := ahd_on κ w hw
    rw [← hi3, h4 i (by omega) hi1 hi2, bl_made κ i hi1 hi2]
end GRW
