/-! the tree's shape, and an object more in it -/
/-- the first object from i on, of j, whose parent is x -/
def chF (P : Nat → Int32) (x : Int32) : Nat → Nat → Int32
  | 0, _ => -1
  | j + 1, i => if P i = x then zI i else chF P x j (i + 1)
theorem chF_s (P : Nat → Int32) (x : Int32) (j i : Nat) : chF P x (j + 1) i = if P i = x then zI i else chF P x j (i + 1) := id rfl
set_option maxRecDepth 100000 in
set_option maxHeartbeats 4000000 in
theorem chF_congr {P Q : Nat → Int32} {x : Int32} : ∀ j i, (∀ a, i ≤ a → a < i + j → P a = Q a) → chF P x j i = chF Q x j i
  | 0, _, _ => rfl
  | j + 1, i, h => by rw [chF_s, chF_s, h i (by omega) (by omega), chF_congr j (i + 1) (fun a h1 h2 => h a (by omega) (by omega))]
set_option maxRecDepth 100000 in
set_option maxHeartbeats 4000000 in
theorem chF_none {P : Nat → Int32} {x : Int32} : ∀ j i, (∀ a, i ≤ a → a < i + j → P a ≠ x) → chF P x j i = -1
  | 0, _, _ => rfl
  | j + 1, i, h => by rw [chF_s, if_neg (h i (by omega) (by omega)), chF_none j (i + 1) (fun a h1 h2 => h a (by omega) (by omega))]
set_option maxRecDepth 100000 in
set_option maxHeartbeats 4000000 in
theorem chF_some {P : Nat → Int32} {x : Int32} : ∀ j i, (∃ a, i ≤ a ∧ a < i + j ∧ P a = x) → ∃ a, i ≤ a ∧ a < i + j ∧ P a = x ∧ chF P x j i = zI a ∧ ∀ b, i ≤ b → b < a → P b ≠ x
  | 0, i, h => by obtain ⟨a, h1, h2, h3⟩ := h; omega
  | j + 1, i, h => by
    rw [chF_s]
    by_cases hi : P i = x
    · rw [if_pos hi]; exact ⟨i, by omega, by omega, hi, rfl, fun b h1 h2 => by omega⟩
    · rw [if_neg hi]
      obtain ⟨a, h1, h2, h3⟩ := h
      have hai : a ≠ i := by intro e; rw [e] at h3; exact hi h3
      obtain ⟨c, g1, g2, g3, g4, g5⟩ := chF_some j (i + 1) ⟨a, by omega, by omega, h3⟩
      refine ⟨c, by omega, by omega, g3, g4, fun b h1 h2 => ?_⟩
      by_cases hb : b = i
      · rw [hb]; exact hi
      · exact g5 b (by omega) h2
set_option maxRecDepth 100000 in
set_option maxHeartbeats 4000000 in
theorem chF_app {P : Nat → Int32} {x : Int32} : ∀ j i, ((∃ a, i ≤ a ∧ a < i + j ∧ P a = x) → chF P x (j + 1) i = chF P x j i) ∧ ((¬ ∃ a, i ≤ a ∧ a < i + j ∧ P a = x) → chF P x (j + 1) i = if P (i + j) = x then zI (i + j) else -1)
  | 0, i => ⟨fun ⟨a, h1, h2, h3⟩ => by omega, fun _ => rfl⟩
  | j + 1, i => by
    have ih := chF_app (P := P) (x := x) j (i + 1)
    rw [show i + 1 + j = i + (j + 1) by omega] at ih
    rw [chF_s]
    by_cases hi : P i = x
    · rw [if_pos hi]
      refine ⟨fun _ => by rw [chF_s, if_pos hi], fun h => absurd ⟨i, by omega, by omega, hi⟩ h⟩
    · rw [if_neg hi]
      have hiff : (∃ a, i + 1 ≤ a ∧ a < i + (j + 1) ∧ P a = x) ↔ (∃ a, i ≤ a ∧ a < i + (j + 1) ∧ P a = x) := by
        constructor
        · intro ⟨a, h1, h2, h3⟩; exact ⟨a, by omega, h2, h3⟩
        · intro ⟨a, h1, h2, h3⟩
          have hai : a ≠ i := by intro e; rw [e] at h3; exact hi h3
          exact ⟨a, by omega, h2, h3⟩
      refine ⟨fun h => ?_, fun h => ih.2 (fun h2 => h (hiff.mp h2))⟩
      rw [ih.1 (hiff.mpr h), chF_s, if_neg hi]
/-- firsts, nexts and lasts are what they are named -/
def TL (s : Tst) : Prop := ∀ k, k < s.count → s.firsts k = chF s.parents (zI k) (s.count - (k + 1)) (k + 1) ∧ s.nexts k = chF s.parents (s.parents k) (s.count - (k + 1)) (k + 1) ∧ ((s.lasts k = -1 ∧ ∀ i, i < s.count → s.parents i ≠ zI k) ∨ ∃ c, c < s.count ∧ s.lasts k = zI c ∧ s.parents c = zI k ∧ ∀ i, c < i → i < s.count → s.parents i ≠ zI k)
set_option maxRecDepth 100000 in
set_option maxHeartbeats 4000000 in
theorem TL_a {s : Tst} (h : TL s) : TLa s := by
  intro k hk
  cases (h k hk).2.2 with
  | inl h1 => exact Or.inl h1.1
  | inr h1 => obtain ⟨c, h2, h3, _⟩ := h1; exact Or.inr ⟨c, h2, h3⟩
/-- the greatest depth -/
def mxD (s : Tst) : Nat → Nat
  | 0 => 0
  | k + 1 => max (mxD s k) (tD s k + 1)
/-- how much is kept for the first of the objects -/
def smK (s : Tst) : Nat → Nat
  | 0 => 0
  | k + 1 => smK s k + (s.ksz k).toNatClampNeg
def TK (s : Tst) : Prop := s.kc ≤ 2000 ∧ smK s s.count = s.kc ∧ (∀ k, k < s.count → ∃ a b, s.kfrom k = zI a ∧ s.ksz k = zI b ∧ a + b ≤ s.kc ∧ (tK s k ≠ 9 → b = 0)) ∧ ∀ i, i < s.kc → isT (s.kept i) = true ∨ s.kept i = 10
/-- nothing is in an unknown object -/
def TP (s : Tst) : Prop := ∀ k, 0 < k → k < s.count → tK s (tP s k) ≠ 9
def TG (s : Tst) : Prop := T0 s ∧ TL s ∧ (s.deepest = mxD s s.count ∧ TP s) ∧ TK s
set_option maxRecDepth 100000 in
set_option maxHeartbeats 4000000 in
theorem mxD_le {s : Tst} (h : T0 s) : ∀ k, k ≤ s.count → mxD s k ≤ k
  | 0, _ => Nat.le_refl _
  | k + 1, hk => by
    have h1 := mxD_le h k (by omega)
    have h2 := (T0_dep h (k := k) (by omega)).2
    show max (mxD s k) (tD s k + 1) ≤ k + 1
    omega
set_option maxRecDepth 100000 in
set_option maxHeartbeats 4000000 in
theorem TG_deep {s : Tst} (h : TG s) : s.deepest ≤ 200 := by
  have h1 := mxD_le h.1 s.count (Nat.le_refl _)
  have h2 := h.1.1
  rw [h.2.2.1.1]; omega
set_option maxRecDepth 100000 in
set_option maxHeartbeats 4000000 in
theorem mxD_congr {s s' : Tst} : ∀ k, (∀ i, i < k → s'.depths i = s.depths i) → mxD s' k = mxD s k
  | 0, _ => rfl
  | k + 1, h => by
    show max (mxD s' k) (tD s' k + 1) = max (mxD s k) (tD s k + 1)
    unfold tD
    rw [mxD_congr k (fun i hi => h i (by omega)), h k (by omega)]
set_option maxRecDepth 100000 in
set_option maxHeartbeats 4000000 in
theorem smK_congr {s s' : Tst} : ∀ k, (∀ i, i < k → s'.ksz i = s.ksz i) → smK s' k = smK s k
  | 0, _ => rfl
  | k + 1, h => by
    show smK s' k + (s'.ksz k).toNatClampNeg = smK s k + (s.ksz k).toNatClampNeg
    rw [smK_congr k (fun i hi => h i (by omega)), h k (by omega)]
set_option maxRecDepth 100000 in
set_option maxHeartbeats 4000000 in
/-- values leave the shape as it is -/
theorem TG_SF {s s' : Tst} (h : SF s s') (hG : TG s) : TG s' := by
  obtain ⟨h1, h2, h3, h4, h5, h6, h7, h8, h9, h10, h11, h12, h13⟩ := h
  obtain ⟨g1, g2, g3, g4⟩ := hG
  refine ⟨?_, ?_, ?_, ?_⟩
  · unfold T0 tK tP tD at g1 ⊢
    rw [h1, h2, h3, h4]; exact g1
  · unfold TL at g2 ⊢
    rw [h1, h3, h5, h6, h7]; exact g2
  · unfold TP tK tP at g3 ⊢
    rw [h12, h1, mxD_congr (s := s) _ (fun i _ => by rw [h4]), h2, h3]; exact g3
  · unfold TK tK at g4 ⊢
    rw [h11, h1, smK_congr (s := s) _ (fun i _ => by rw [h9]), h8, h9, h2, h10]; exact g4
section GR
variable {s : Tst} {par : Option Nat} {κ : Fin 10} {g : Nat → Int64}
set_option maxRecDepth 100000 in
set_option maxHeartbeats 4000000 in
theorem grf_count : (grf s par κ g).count = s.count + 1 := by unfold grf gr; simp only [T_kc_kc, T_kc_count, T_kc_deepest, T_kc_version, T_kc_kinds, T_kc_parents, T_kc_depths, T_kc_firsts, T_kc_lasts, T_kc_nexts, T_kc_tsz, T_kc_marks, T_kc_kfrom, T_kc_ksz, T_kc_kept, T_kc_nums, T_count_kc, T_count_count, T_count_deepest, T_count_version, T_count_kinds, T_count_parents, T_count_depths, T_count_firsts, T_count_lasts, T_count_nexts, T_count_tsz, T_count_marks, T_count_kfrom, T_count_ksz, T_count_kept, T_count_nums, T_deepest_kc, T_deepest_count, T_deepest_deepest, T_deepest_version, T_deepest_kinds, T_deepest_parents, T_deepest_depths, T_deepest_firsts, T_deepest_lasts, T_deepest_nexts, T_deepest_tsz, T_deepest_marks, T_deepest_kfrom, T_deepest_ksz, T_deepest_kept, T_deepest_nums, T_version_kc, T_version_count, T_version_deepest, T_version_version, T_version_kinds, T_version_parents, T_version_depths, T_version_firsts, T_version_lasts, T_version_nexts, T_version_tsz, T_version_marks, T_version_kfrom, T_version_ksz, T_version_kept, T_version_nums, T_kinds_kc, T_kinds_count, T_kinds_deepest, T_kinds_version, T_kinds_kinds, T_kinds_parents, T_kinds_depths, T_kinds_firsts, T_kinds_lasts, T_kinds_nexts, T_kinds_tsz, T_kinds_marks, T_kinds_kfrom, T_kinds_ksz, T_kinds_kept, T_kinds_nums, T_parents_kc, T_parents_count, T_parents_deepest, T_parents_version, T_parents_kinds, T_parents_parents, T_parents_depths, T_parents_firsts, T_parents_lasts, T_parents_nexts, T_parents_tsz, T_parents_marks, T_parents_kfrom, T_parents_ksz, T_parents_kept, T_parents_nums, T_depths_kc, T_depths_count, T_depths_deepest, T_depths_version, T_depths_kinds, T_depths_parents, T_depths_depths, T_depths_firsts, T_depths_lasts, T_depths_nexts, T_depths_tsz, T_depths_marks, T_depths_kfrom, T_depths_ksz, T_depths_kept, T_depths_nums, T_firsts_kc, T_firsts_count, T_firsts_deepest, T_firsts_version, T_firsts_kinds, T_firsts_parents, T_firsts_depths, T_firsts_firsts, T_firsts_lasts, T_firsts_nexts, T_firsts_tsz, T_firsts_marks, T_firsts_kfrom, T_firsts_ksz, T_firsts_kept, T_firsts_nums, T_lasts_kc, T_lasts_count, T_lasts_deepest, T_lasts_version, T_lasts_kinds, T_lasts_parents, T_lasts_depths, T_lasts_firsts, T_lasts_lasts, T_lasts_nexts, T_lasts_tsz, T_lasts_marks, T_lasts_kfrom, T_lasts_ksz, T_lasts_kept, T_lasts_nums, T_nexts_kc, T_nexts_count, T_nexts_deepest, T_nexts_version, T_nexts_kinds, T_nexts_parents, T_nexts_depths, T_nexts_firsts, T_nexts_lasts, T_nexts_nexts, T_nexts_tsz, T_nexts_marks, T_nexts_kfrom, T_nexts_ksz, T_nexts_kept, T_nexts_nums, T_tsz_kc, T_tsz_count, T_tsz_deepest, T_tsz_version, T_tsz_kinds, T_tsz_parents, T_tsz_depths, T_tsz_firsts, T_tsz_lasts, T_tsz_nexts, T_tsz_tsz, T_tsz_marks, T_tsz_kfrom, T_tsz_ksz, T_tsz_kept, T_tsz_nums, T_marks_kc, T_marks_count, T_marks_deepest, T_marks_version, T_marks_kinds, T_marks_parents, T_marks_depths, T_marks_firsts, T_marks_lasts, T_marks_nexts, T_marks_tsz, T_marks_marks, T_marks_kfrom, T_marks_ksz, T_marks_kept, T_marks_nums, T_kfrom_kc, T_kfrom_count, T_kfrom_deepest, T_kfrom_version, T_kfrom_kinds, T_kfrom_parents, T_kfrom_depths, T_kfrom_firsts, T_kfrom_lasts, T_kfrom_nexts, T_kfrom_tsz, T_kfrom_marks, T_kfrom_kfrom, T_kfrom_ksz, T_kfrom_kept, T_kfrom_nums, T_ksz_kc, T_ksz_count, T_ksz_deepest, T_ksz_version, T_ksz_kinds, T_ksz_parents, T_ksz_depths, T_ksz_firsts, T_ksz_lasts, T_ksz_nexts, T_ksz_tsz, T_ksz_marks, T_ksz_kfrom, T_ksz_ksz, T_ksz_kept, T_ksz_nums, T_kept_kc, T_kept_count, T_kept_deepest, T_kept_version, T_kept_kinds, T_kept_parents, T_kept_depths, T_kept_firsts, T_kept_lasts, T_kept_nexts, T_kept_tsz, T_kept_marks, T_kept_kfrom, T_kept_ksz, T_kept_kept, T_kept_nums, T_nums_kc, T_nums_count, T_nums_deepest, T_nums_version, T_nums_kinds, T_nums_parents, T_nums_depths, T_nums_firsts, T_nums_lasts, T_nums_nexts, T_nums_tsz, T_nums_marks, T_nums_kfrom, T_nums_ksz, T_nums_kept, T_nums_nums]
set_option maxRecDepth 100000 in
set_option maxHeartbeats 4000000 in
theorem grf_kinds : (grf s par κ g).kinds = upd s.kinds s.count (zI κ.val) := by unfold grf gr; simp only [T_kc_kc, T_kc_count, T_kc_deepest, T_kc_version, T_kc_kinds, T_kc_parents, T_kc_depths, T_kc_firsts, T_kc_lasts, T_kc_nexts, T_kc_tsz, T_kc_marks, T_kc_kfrom, T_kc_ksz, T_kc_kept, T_kc_nums, T_count_kc, T_count_count, T_count_deepest, T_count_version, T_count_kinds, T_count_parents, T_count_depths, T_count_firsts, T_count_lasts, T_count_nexts, T_count_tsz, T_count_marks, T_count_kfrom, T_count_ksz, T_count_kept, T_count_nums, T_deepest_kc, T_deepest_count, T_deepest_deepest, T_deepest_version, T_deepest_kinds, T_deepest_parents, T_deepest_depths, T_deepest_firsts, T_deepest_lasts, T_deepest_nexts, T_deepest_tsz, T_deepest_marks, T_deepest_kfrom, T_deepest_ksz, T_deepest_kept, T_deepest_nums, T_version_kc, T_version_count, T_version_deepest, T_version_version, T_version_kinds, T_version_parents, T_version_depths, T_version_firsts, T_version_lasts, T_version_nexts, T_version_tsz, T_version_marks, T_version_kfrom, T_version_ksz, T_version_kept, T_version_nums, T_kinds_kc, T_kinds_count, T_kinds_deepest, T_kinds_version, T_kinds_kinds, T_kinds_parents, T_kinds_depths, T_kinds_firsts, T_kinds_lasts, T_kinds_nexts, T_kinds_tsz, T_kinds_marks, T_kinds_kfrom, T_kinds_ksz, T_kinds_kept, T_kinds_nums, T_parents_kc, T_parents_count, T_parents_deepest, T_parents_version, T_parents_kinds, T_parents_parents, T_parents_depths, T_parents_firsts, T_parents_lasts, T_parents_nexts, T_parents_tsz, T_parents_marks, T_parents_kfrom, T_parents_ksz, T_parents_kept, T_parents_nums, T_depths_kc, T_depths_count, T_depths_deepest, T_depths_version, T_depths_kinds, T_depths_parents, T_depths_depths, T_depths_firsts, T_depths_lasts, T_depths_nexts, T_depths_tsz, T_depths_marks, T_depths_kfrom, T_depths_ksz, T_depths_kept, T_depths_nums, T_firsts_kc, T_firsts_count, T_firsts_deepest, T_firsts_version, T_firsts_kinds, T_firsts_parents, T_firsts_depths, T_firsts_firsts, T_firsts_lasts, T_firsts_nexts, T_firsts_tsz, T_firsts_marks, T_firsts_kfrom, T_firsts_ksz, T_firsts_kept, T_firsts_nums, T_lasts_kc, T_lasts_count, T_lasts_deepest, T_lasts_version, T_lasts_kinds, T_lasts_parents, T_lasts_depths, T_lasts_firsts, T_lasts_lasts, T_lasts_nexts, T_lasts_tsz, T_lasts_marks, T_lasts_kfrom, T_lasts_ksz, T_lasts_kept, T_lasts_nums, T_nexts_kc, T_nexts_count, T_nexts_deepest, T_nexts_version, T_nexts_kinds, T_nexts_parents, T_nexts_depths, T_nexts_firsts, T_nexts_lasts, T_nexts_nexts, T_nexts_tsz, T_nexts_marks, T_nexts_kfrom, T_nexts_ksz, T_nexts_kept, T_nexts_nums, T_tsz_kc, T_tsz_count, T_tsz_deepest, T_tsz_version, T_tsz_kinds, T_tsz_parents, T_tsz_depths, T_tsz_firsts, T_tsz_lasts, T_tsz_nexts, T_tsz_tsz, T_tsz_marks, T_tsz_kfrom, T_tsz_ksz, T_tsz_kept, T_tsz_nums, T_marks_kc, T_marks_count, T_marks_deepest, T_marks_version, T_marks_kinds, T_marks_parents, T_marks_depths, T_marks_firsts, T_marks_lasts, T_marks_nexts, T_marks_tsz, T_marks_marks, T_marks_kfrom, T_marks_ksz, T_marks_kept, T_marks_nums, T_kfrom_kc, T_kfrom_count, T_kfrom_deepest, T_kfrom_version, T_kfrom_kinds, T_kfrom_parents, T_kfrom_depths, T_kfrom_firsts, T_kfrom_lasts, T_kfrom_nexts, T_kfrom_tsz, T_kfrom_marks, T_kfrom_kfrom, T_kfrom_ksz, T_kfrom_kept, T_kfrom_nums, T_ksz_kc, T_ksz_count, T_ksz_deepest, T_ksz_version, T_ksz_kinds, T_ksz_parents, T_ksz_depths, T_ksz_firsts, T_ksz_lasts, T_ksz_nexts, T_ksz_tsz, T_ksz_marks, T_ksz_kfrom, T_ksz_ksz, T_ksz_kept, T_ksz_nums, T_kept_kc, T_kept_count, T_kept_deepest, T_kept_version, T_kept_kinds, T_kept_parents, T_kept_depths, T_kept_firsts, T_kept_lasts, T_kept_nexts, T_kept_tsz, T_kept_marks, T_kept_kfrom, T_kept_ksz, T_kept_kept, T_kept_nums, T_nums_kc, T_nums_count, T_nums_deepest, T_nums_version, T_nums_kinds, T_nums_parents, T_nums_depths, T_nums_firsts, T_nums_lasts, T_nums_nexts, T_nums_tsz, T_nums_marks, T_nums_kfrom, T_nums_ksz, T_nums_kept, T_nums_nums]
set_option maxRecDepth 100000 in
set_option maxHeartbeats 4000000 in
theorem grf_parents : (grf s par κ g).parents = upd s.parents s.count (enc par) := by unfold grf gr; simp only [T_kc_kc, T_kc_count, T_kc_deepest, T_kc_version, T_kc_kinds, T_kc_parents, T_kc_depths, T_kc_firsts, T_kc_lasts, T_kc_nexts, T_kc_tsz, T_kc_marks, T_kc_kfrom, T_kc_ksz, T_kc_kept, T_kc_nums, T_count_kc, T_count_count, T_count_deepest, T_count_version, T_count_kinds, T_count_parents, T_count_depths, T_count_firsts, T_count_lasts, T_count_nexts, T_count_tsz, T_count_marks, T_count_kfrom, T_count_ksz, T_count_kept, T_count_nums, T_deepest_kc, T_deepest_count, T_deepest_deepest, T_deepest_version, T_deepest_kinds, T_deepest_parents, T_deepest_depths, T_deepest_firsts, T_deepest_lasts, T_deepest_nexts, T_deepest_tsz, T_deepest_marks, T_deepest_kfrom, T_deepest_ksz, T_deepest_kept, T_deepest_nums, T_version_kc, T_version_count, T_version_deepest, T_version_version, T_version_kinds, T_version_parents, T_version_depths, T_version_firsts, T_version_lasts, T_version_nexts, T_version_tsz, T_version_marks, T_version_kfrom, T_version_ksz, T_version_kept, T_version_nums, T_kinds_kc, T_kinds_count, T_kinds_deepest, T_kinds_version, T_kinds_kinds, T_kinds_parents, T_kinds_depths, T_kinds_firsts, T_kinds_lasts, T_kinds_nexts, T_kinds_tsz, T_kinds_marks, T_kinds_kfrom, T_kinds_ksz, T_kinds_kept, T_kinds_nums, T_parents_kc, T_parents_count, T_parents_deepest, T_parents_version, T_parents_kinds, T_parents_parents, T_parents_depths, T_parents_firsts, T_parents_lasts, T_parents_nexts, T_parents_tsz, T_parents_marks, T_parents_kfrom, T_parents_ksz, T_parents_kept, T_parents_nums, T_depths_kc, T_depths_count, T_depths_deepest, T_depths_version, T_depths_kinds, T_depths_parents, T_depths_depths, T_depths_firsts, T_depths_lasts, T_depths_nexts, T_depths_tsz, T_depths_marks, T_depths_kfrom, T_depths_ksz, T_depths_kept, T_depths_nums, T_firsts_kc, T_firsts_count, T_firsts_deepest, T_firsts_version, T_firsts_kinds, T_firsts_parents, T_firsts_depths, T_firsts_firsts, T_firsts_lasts, T_firsts_nexts, T_firsts_tsz, T_firsts_marks, T_firsts_kfrom, T_firsts_ksz, T_firsts_kept, T_firsts_nums, T_lasts_kc, T_lasts_count, T_lasts_deepest, T_lasts_version, T_lasts_kinds, T_lasts_parents, T_lasts_depths, T_lasts_firsts, T_lasts_lasts, T_lasts_nexts, T_lasts_tsz, T_lasts_marks, T_lasts_kfrom, T_lasts_ksz, T_lasts_kept, T_lasts_nums, T_nexts_kc, T_nexts_count, T_nexts_deepest, T_nexts_version, T_nexts_kinds, T_nexts_parents, T_nexts_depths, T_nexts_firsts, T_nexts_lasts, T_nexts_nexts, T_nexts_tsz, T_nexts_marks, T_nexts_kfrom, T_nexts_ksz, T_nexts_kept, T_nexts_nums, T_tsz_kc, T_tsz_count, T_tsz_deepest, T_tsz_version, T_tsz_kinds, T_tsz_parents, T_tsz_depths, T_tsz_firsts, T_tsz_lasts, T_tsz_nexts, T_tsz_tsz, T_tsz_marks, T_tsz_kfrom, T_tsz_ksz, T_tsz_kept, T_tsz_nums, T_marks_kc, T_marks_count, T_marks_deepest, T_marks_version, T_marks_kinds, T_marks_parents, T_marks_depths, T_marks_firsts, T_marks_lasts, T_marks_nexts, T_marks_tsz, T_marks_marks, T_marks_kfrom, T_marks_ksz, T_marks_kept, T_marks_nums, T_kfrom_kc, T_kfrom_count, T_kfrom_deepest, T_kfrom_version, T_kfrom_kinds, T_kfrom_parents, T_kfrom_depths, T_kfrom_firsts, T_kfrom_lasts, T_kfrom_nexts, T_kfrom_tsz, T_kfrom_marks, T_kfrom_kfrom, T_kfrom_ksz, T_kfrom_kept, T_kfrom_nums, T_ksz_kc, T_ksz_count, T_ksz_deepest, T_ksz_version, T_ksz_kinds, T_ksz_parents, T_ksz_depths, T_ksz_firsts, T_ksz_lasts, T_ksz_nexts, T_ksz_tsz, T_ksz_marks, T_ksz_kfrom, T_ksz_ksz, T_ksz_kept, T_ksz_nums, T_kept_kc, T_kept_count, T_kept_deepest, T_kept_version, T_kept_kinds, T_kept_parents, T_kept_depths, T_kept_firsts, T_kept_lasts, T_kept_nexts, T_kept_tsz, T_kept_marks, T_kept_kfrom, T_kept_ksz, T_kept_kept, T_kept_nums, T_nums_kc, T_nums_count, T_nums_deepest, T_nums_version, T_nums_kinds, T_nums_parents, T_nums_depths, T_nums_firsts, T_nums_lasts, T_nums_nexts, T_nums_tsz, T_nums_marks, T_nums_kfrom, T_nums_ksz, T_nums_kept, T_nums_nums]
set_option maxRecDepth 100000 in
set_option maxHeartbeats 4000000 in
theorem grf_depths : (grf s par κ g).depths = upd s.depths s.count (zI (dIn s par)) := by unfold grf gr; simp only [T_kc_kc, T_kc_count, T_kc_deepest, T_kc_version, T_kc_kinds, T_kc_parents, T_kc_depths, T_kc_firsts, T_kc_lasts, T_kc_nexts, T_kc_tsz, T_kc_marks, T_kc_kfrom, T_kc_ksz, T_kc_kept, T_kc_nums, T_count_kc, T_count_count, T_count_deepest, T_count_version, T_count_kinds, T_count_parents, T_count_depths, T_count_firsts, T_count_lasts, T_count_nexts, T_count_tsz, T_count_marks, T_count_kfrom, T_count_ksz, T_count_kept, T_count_nums, T_deepest_kc, T_deepest_count, T_deepest_deepest, T_deepest_version, T_deepest_kinds, T_deepest_parents, T_deepest_depths, T_deepest_firsts, T_deepest_lasts, T_deepest_nexts, T_deepest_tsz, T_deepest_marks, T_deepest_kfrom, T_deepest_ksz, T_deepest_kept, T_deepest_nums, T_version_kc, T_version_count, T_version_deepest, T_version_version, T_version_kinds, T_version_parents, T_version_depths, T_version_firsts, T_version_lasts, T_version_nexts, T_version_tsz, T_version_marks, T_version_kfrom, T_version_ksz, T_version_kept, T_version_nums, T_kinds_kc, T_kinds_count, T_kinds_deepest, T_kinds_version, T_kinds_kinds, T_kinds_parents, T_kinds_depths, T_kinds_firsts, T_kinds_lasts, T_kinds_nexts, T_kinds_tsz, T_kinds_marks, T_kinds_kfrom, T_kinds_ksz, T_kinds_kept, T_kinds_nums, T_parents_kc, T_parents_count, T_parents_deepest, T_parents_version, T_parents_kinds, T_parents_parents, T_parents_depths, T_parents_firsts, T_parents_lasts, T_parents_nexts, T_parents_tsz, T_parents_marks, T_parents_kfrom, T_parents_ksz, T_parents_kept, T_parents_nums, T_depths_kc, T_depths_count, T_depths_deepest, T_depths_version, T_depths_kinds, T_depths_parents, T_depths_depths, T_depths_firsts, T_depths_lasts, T_depths_nexts, T_depths_tsz, T_depths_marks, T_depths_kfrom, T_depths_ksz, T_depths_kept, T_depths_nums, T_firsts_kc, T_firsts_count, T_firsts_deepest, T_firsts_version, T_firsts_kinds, T_firsts_parents, T_firsts_depths, T_firsts_firsts, T_firsts_lasts, T_firsts_nexts, T_firsts_tsz, T_firsts_marks, T_firsts_kfrom, T_firsts_ksz, T_firsts_kept, T_firsts_nums, T_lasts_kc, T_lasts_count, T_lasts_deepest, T_lasts_version, T_lasts_kinds, T_lasts_parents, T_lasts_depths, T_lasts_firsts, T_lasts_lasts, T_lasts_nexts, T_lasts_tsz, T_lasts_marks, T_lasts_kfrom, T_lasts_ksz, T_lasts_kept, T_lasts_nums, T_nexts_kc, T_nexts_count, T_nexts_deepest, T_nexts_version, T_nexts_kinds, T_nexts_parents, T_nexts_depths, T_nexts_firsts, T_nexts_lasts, T_nexts_nexts, T_nexts_tsz, T_nexts_marks, T_nexts_kfrom, T_nexts_ksz, T_nexts_kept, T_nexts_nums, T_tsz_kc, T_tsz_count, T_tsz_deepest, T_tsz_version, T_tsz_kinds, T_tsz_parents, T_tsz_depths, T_tsz_firsts, T_tsz_lasts, T_tsz_nexts, T_tsz_tsz, T_tsz_marks, T_tsz_kfrom, T_tsz_ksz, T_tsz_kept, T_tsz_nums, T_marks_kc, T_marks_count, T_marks_deepest, T_marks_version, T_marks_kinds, T_marks_parents, T_marks_depths, T_marks_firsts, T_marks_lasts, T_marks_nexts, T_marks_tsz, T_marks_marks, T_marks_kfrom, T_marks_ksz, T_marks_kept, T_marks_nums, T_kfrom_kc, T_kfrom_count, T_kfrom_deepest, T_kfrom_version, T_kfrom_kinds, T_kfrom_parents, T_kfrom_depths, T_kfrom_firsts, T_kfrom_lasts, T_kfrom_nexts, T_kfrom_tsz, T_kfrom_marks, T_kfrom_kfrom, T_kfrom_ksz, T_kfrom_kept, T_kfrom_nums, T_ksz_kc, T_ksz_count, T_ksz_deepest, T_ksz_version, T_ksz_kinds, T_ksz_parents, T_ksz_depths, T_ksz_firsts, T_ksz_lasts, T_ksz_nexts, T_ksz_tsz, T_ksz_marks, T_ksz_kfrom, T_ksz_ksz, T_ksz_kept, T_ksz_nums, T_kept_kc, T_kept_count, T_kept_deepest, T_kept_version, T_kept_kinds, T_kept_parents, T_kept_depths, T_kept_firsts, T_kept_lasts, T_kept_nexts, T_kept_tsz, T_kept_marks, T_kept_kfrom, T_kept_ksz, T_kept_kept, T_kept_nums, T_nums_kc, T_nums_count, T_nums_deepest, T_nums_version, T_nums_kinds, T_nums_parents, T_nums_depths, T_nums_firsts, T_nums_lasts, T_nums_nexts, T_nums_tsz, T_nums_marks, T_nums_kfrom, T_nums_ksz, T_nums_kept, T_nums_nums]
set_option maxRecDepth 100000 in
set_option maxHeartbeats 4000000 in
theorem grf_deepest : (grf s par κ g).deepest = max s.deepest (dIn s par + 1) := by unfold grf gr; simp only [T_kc_kc, T_kc_count, T_kc_deepest, T_kc_version, T_kc_kinds, T_kc_parents, T_kc_depths, T_kc_firsts, T_kc_lasts, T_kc_nexts, T_kc_tsz, T_kc_marks, T_kc_kfrom, T_kc_ksz, T_kc_kept, T_kc_nums, T_count_kc, T_count_count, T_count_deepest, T_count_version, T_count_kinds, T_count_parents, T_count_depths, T_count_firsts, T_count_lasts, T_count_nexts, T_count_tsz, T_count_marks, T_count_kfrom, T_count_ksz, T_count_kept, T_count_nums, T_deepest_kc, T_deepest_count, T_deepest_deepest, T_deepest_version, T_deepest_kinds, T_deepest_parents, T_deepest_depths, T_deepest_firsts, T_deepest_lasts, T_deepest_nexts, T_deepest_tsz, T_deepest_marks, T_deepest_kfrom, T_deepest_ksz, T_deepest_kept, T_deepest_nums, T_version_kc, T_version_count, T_version_deepest, T_version_version, T_version_kinds, T_version_parents, T_version_depths, T_version_firsts, T_version_lasts, T_version_nexts, T_version_tsz, T_version_marks, T_version_kfrom, T_version_ksz, T_version_kept, T_version_nums, T_kinds_kc, T_kinds_count, T_kinds_deepest, T_kinds_version, T_kinds_kinds, T_kinds_parents, T_kinds_depths, T_kinds_firsts, T_kinds_lasts, T_kinds_nexts, T_kinds_tsz, T_kinds_marks, T_kinds_kfrom, T_kinds_ksz, T_kinds_kept, T_kinds_nums, T_parents_kc, T_parents_count, T_parents_deepest, T_parents_version, T_parents_kinds, T_parents_parents, T_parents_depths, T_parents_firsts, T_parents_lasts, T_parents_nexts, T_parents_tsz, T_parents_marks, T_parents_kfrom, T_parents_ksz, T_parents_kept, T_parents_nums, T_depths_kc, T_depths_count, T_depths_deepest, T_depths_version, T_depths_kinds, T_depths_parents, T_depths_depths, T_depths_firsts, T_depths_lasts, T_depths_nexts, T_depths_tsz, T_depths_marks, T_depths_kfrom, T_depths_ksz, T_depths_kept, T_depths_nums, T_firsts_kc, T_firsts_count, T_firsts_deepest, T_firsts_version, T_firsts_kinds, T_firsts_parents, T_firsts_depths, T_firsts_firsts, T_firsts_lasts, T_firsts_nexts, T_firsts_tsz, T_firsts_marks, T_firsts_kfrom, T_firsts_ksz, T_firsts_kept, T_firsts_nums, T_lasts_kc, T_lasts_count, T_lasts_deepest, T_lasts_version, T_lasts_kinds, T_lasts_parents, T_lasts_depths, T_lasts_firsts, T_lasts_lasts, T_lasts_nexts, T_lasts_tsz, T_lasts_marks, T_lasts_kfrom, T_lasts_ksz, T_lasts_kept, T_lasts_nums, T_nexts_kc, T_nexts_count, T_nexts_deepest, T_nexts_version, T_nexts_kinds, T_nexts_parents, T_nexts_depths, T_nexts_firsts, T_nexts_lasts, T_nexts_nexts, T_nexts_tsz, T_nexts_marks, T_nexts_kfrom, T_nexts_ksz, T_nexts_kept, T_nexts_nums, T_tsz_kc, T_tsz_count, T_tsz_deepest, T_tsz_version, T_tsz_kinds, T_tsz_parents, T_tsz_depths, T_tsz_firsts, T_tsz_lasts, T_tsz_nexts, T_tsz_tsz, T_tsz_marks, T_tsz_kfrom, T_tsz_ksz, T_tsz_kept, T_tsz_nums, T_marks_kc, T_marks_count, T_marks_deepest, T_marks_version, T_marks_kinds, T_marks_parents, T_marks_depths, T_marks_firsts, T_marks_lasts, T_marks_nexts, T_marks_tsz, T_marks_marks, T_marks_kfrom, T_marks_ksz, T_marks_kept, T_marks_nums, T_kfrom_kc, T_kfrom_count, T_kfrom_deepest, T_kfrom_version, T_kfrom_kinds, T_kfrom_parents, T_kfrom_depths, T_kfrom_firsts, T_kfrom_lasts, T_kfrom_nexts, T_kfrom_tsz, T_kfrom_marks, T_kfrom_kfrom, T_kfrom_ksz, T_kfrom_kept, T_kfrom_nums, T_ksz_kc, T_ksz_count, T_ksz_deepest, T_ksz_version, T_ksz_kinds, T_ksz_parents, T_ksz_depths, T_ksz_firsts, T_ksz_lasts, T_ksz_nexts, T_ksz_tsz, T_ksz_marks, T_ksz_kfrom, T_ksz_ksz, T_ksz_kept, T_ksz_nums, T_kept_kc, T_kept_count, T_kept_deepest, T_kept_version, T_kept_kinds, T_kept_parents, T_kept_depths, T_kept_firsts, T_kept_lasts, T_kept_nexts, T_kept_tsz, T_kept_marks, T_kept_kfrom, T_kept_ksz, T_kept_kept, T_kept_nums, T_nums_kc, T_nums_count, T_nums_deepest, T_nums_version, T_nums_kinds, T_nums_parents, T_nums_depths, T_nums_firsts, T_nums_lasts, T_nums_nexts, T_nums_tsz, T_nums_marks, T_nums_kfrom, T_nums_ksz, T_nums_kept, T_nums_nums]
set_option maxRecDepth 100000 in
set_option maxHeartbeats 4000000 in
theorem grf_firsts : (grf s par κ g).firsts = (hgA s s.count par).1 := by unfold grf gr; simp only [T_kc_kc, T_kc_count, T_kc_deepest, T_kc_version, T_kc_kinds, T_kc_parents, T_kc_depths, T_kc_firsts, T_kc_lasts, T_kc_nexts, T_kc_tsz, T_kc_marks, T_kc_kfrom, T_kc_ksz, T_kc_kept, T_kc_nums, T_count_kc, T_count_count, T_count_deepest, T_count_version, T_count_kinds, T_count_parents, T_count_depths, T_count_firsts, T_count_lasts, T_count_nexts, T_count_tsz, T_count_marks, T_count_kfrom, T_count_ksz, T_count_kept, T_count_nums, T_deepest_kc, T_deepest_count, T_deepest_deepest, T_deepest_version, T_deepest_kinds, T_deepest_parents, T_deepest_depths, T_deepest_firsts, T_deepest_lasts, T_deepest_nexts, T_deepest_tsz, T_deepest_marks, T_deepest_kfrom, T_deepest_ksz, T_deepest_kept, T_deepest_nums, T_version_kc, T_version_count, T_version_deepest, T_version_version, T_version_kinds, T_version_parents, T_version_depths, T_version_firsts, T_version_lasts, T_version_nexts, T_version_tsz, T_version_marks, T_version_kfrom, T_version_ksz, T_version_kept, T_version_nums, T_kinds_kc, T_kinds_count, T_kinds_deepest, T_kinds_version, T_kinds_kinds, T_kinds_parents, T_kinds_depths, T_kinds_firsts, T_kinds_lasts, T_kinds_nexts, T_kinds_tsz, T_kinds_marks, T_kinds_kfrom, T_kinds_ksz, T_kinds_kept, T_kinds_nums, T_parents_kc, T_parents_count, T_parents_deepest, T_parents_version, T_parents_kinds, T_parents_parents, T_parents_depths, T_parents_firsts, T_parents_lasts, T_parents_nexts, T_parents_tsz, T_parents_marks, T_parents_kfrom, T_parents_ksz, T_parents_kept, T_parents_nums, T_depths_kc, T_depths_count, T_depths_deepest, T_depths_version, T_depths_kinds, T_depths_parents, T_depths_depths, T_depths_firsts, T_depths_lasts, T_depths_nexts, T_depths_tsz, T_depths_marks, T_depths_kfrom, T_depths_ksz, T_depths_kept, T_depths_nums, T_firsts_kc, T_firsts_count, T_firsts_deepest, T_firsts_version, T_firsts_kinds, T_firsts_parents, T_firsts_depths, T_firsts_firsts, T_firsts_lasts, T_firsts_nexts, T_firsts_tsz, T_firsts_marks, T_firsts_kfrom, T_firsts_ksz, T_firsts_kept, T_firsts_nums, T_lasts_kc, T_lasts_count, T_lasts_deepest, T_lasts_version, T_lasts_kinds, T_lasts_parents, T_lasts_depths, T_lasts_firsts, T_lasts_lasts, T_lasts_nexts, T_lasts_tsz, T_lasts_marks, T_lasts_kfrom, T_lasts_ksz, T_lasts_kept, T_lasts_nums, T_nexts_kc, T_nexts_count, T_nexts_deepest, T_nexts_version, T_nexts_kinds, T_nexts_parents, T_nexts_depths, T_nexts_firsts, T_nexts_lasts, T_nexts_nexts, T_nexts_tsz, T_nexts_marks, T_nexts_kfrom, T_nexts_ksz, T_nexts_kept, T_nexts_nums, T_tsz_kc, T_tsz_count, T_tsz_deepest, T_tsz_version, T_tsz_kinds, T_tsz_parents, T_tsz_depths, T_tsz_firsts, T_tsz_lasts, T_tsz_nexts, T_tsz_tsz, T_tsz_marks, T_tsz_kfrom, T_tsz_ksz, T_tsz_kept, T_tsz_nums, T_marks_kc, T_marks_count, T_marks_deepest, T_marks_version, T_marks_kinds, T_marks_parents, T_marks_depths, T_marks_firsts, T_marks_lasts, T_marks_nexts, T_marks_tsz, T_marks_marks, T_marks_kfrom, T_marks_ksz, T_marks_kept, T_marks_nums, T_kfrom_kc, T_kfrom_count, T_kfrom_deepest, T_kfrom_version, T_kfrom_kinds, T_kfrom_parents, T_kfrom_depths, T_kfrom_firsts, T_kfrom_lasts, T_kfrom_nexts, T_kfrom_tsz, T_kfrom_marks, T_kfrom_kfrom, T_kfrom_ksz, T_kfrom_kept, T_kfrom_nums, T_ksz_kc, T_ksz_count, T_ksz_deepest, T_ksz_version, T_ksz_kinds, T_ksz_parents, T_ksz_depths, T_ksz_firsts, T_ksz_lasts, T_ksz_nexts, T_ksz_tsz, T_ksz_marks, T_ksz_kfrom, T_ksz_ksz, T_ksz_kept, T_ksz_nums, T_kept_kc, T_kept_count, T_kept_deepest, T_kept_version, T_kept_kinds, T_kept_parents, T_kept_depths, T_kept_firsts, T_kept_lasts, T_kept_nexts, T_kept_tsz, T_kept_marks, T_kept_kfrom, T_kept_ksz, T_kept_kept, T_kept_nums, T_nums_kc, T_nums_count, T_nums_deepest, T_nums_version, T_nums_kinds, T_nums_parents, T_nums_depths, T_nums_firsts, T_nums_lasts, T_nums_nexts, T_nums_tsz, T_nums_marks, T_nums_kfrom, T_nums_ksz, T_nums_kept, T_nums_nums]
set_option maxRecDepth 100000 in
set_option maxHeartbeats 4000000 in
theorem grf_lasts : (grf s par κ g).lasts = (hgA s s.count par).2.1 := by unfold grf gr; simp only [T_kc_kc, T_kc_count, T_kc_deepest, T_kc_version, T_kc_kinds, T_kc_parents, T_kc_depths, T_kc_firsts, T_kc_lasts, T_kc_nexts, T_kc_tsz, T_kc_marks, T_kc_kfrom, T_kc_ksz, T_kc_kept, T_kc_nums, T_count_kc, T_count_count, T_count_deepest, T_count_version, T_count_kinds, T_count_parents, T_count_depths, T_count_firsts, T_count_lasts, T_count_nexts, T_count_tsz, T_count_marks, T_count_kfrom, T_count_ksz, T_count_kept, T_count_nums, T_deepest_kc, T_deepest_count, T_deepest_deepest, T_deepest_version, T_deepest_kinds, T_deepest_parents, T_deepest_depths, T_deepest_firsts, T_deepest_lasts, T_deepest_nexts, T_deepest_tsz, T_deepest_marks, T_deepest_kfrom, T_deepest_ksz, T_deepest_kept, T_deepest_nums, T_version_kc, T_version_count, T_version_deepest, T_version_version, T_version_kinds, T_version_parents, T_version_depths, T_version_firsts, T_version_lasts, T_version_nexts, T_version_tsz, T_version_marks, T_version_kfrom, T_version_ksz, T_version_kept, T_version_nums, T_kinds_kc, T_kinds_count, T_kinds_deepest, T_kinds_version, T_kinds_kinds, T_kinds_parents, T_kinds_depths, T_kinds_firsts, T_kinds_lasts, T_kinds_nexts, T_kinds_tsz, T_kinds_marks, T_kinds_kfrom, T_kinds_ksz, T_kinds_kept, T_kinds_nums, T_parents_kc, T_parents_count, T_parents_deepest, T_parents_version, T_parents_kinds, T_parents_parents, T_parents_depths, T_parents_firsts, T_parents_lasts, T_parents_nexts, T_parents_tsz, T_parents_marks, T_parents_kfrom, T_parents_ksz, T_parents_kept, T_parents_nums, T_depths_kc, T_depths_count, T_depths_deepest, T_depths_version, T_depths_kinds, T_depths_parents, T_depths_depths, T_depths_firsts, T_depths_lasts, T_depths_nexts, T_depths_tsz, T_depths_marks, T_depths_kfrom, T_depths_ksz, T_depths_kept, T_depths_nums, T_firsts_kc, T_firsts_count, T_firsts_deepest, T_firsts_version, T_firsts_kinds, T_firsts_parents, T_firsts_depths, T_firsts_firsts, T_firsts_lasts, T_firsts_nexts, T_firsts_tsz, T_firsts_marks, T_firsts_kfrom, T_firsts_ksz, T_firsts_kept, T_firsts_nums, T_lasts_kc, T_lasts_count, T_lasts_deepest, T_lasts_version, T_lasts_kinds, T_lasts_parents, T_lasts_depths, T_lasts_firsts, T_lasts_lasts, T_lasts_nexts, T_lasts_tsz, T_lasts_marks, T_lasts_kfrom, T_lasts_ksz, T_lasts_kept, T_lasts_nums, T_nexts_kc, T_nexts_count, T_nexts_deepest, T_nexts_version, T_nexts_kinds, T_nexts_parents, T_nexts_depths, T_nexts_firsts, T_nexts_lasts, T_nexts_nexts, T_nexts_tsz, T_nexts_marks, T_nexts_kfrom, T_nexts_ksz, T_nexts_kept, T_nexts_nums, T_tsz_kc, T_tsz_count, T_tsz_deepest, T_tsz_version, T_tsz_kinds, T_tsz_parents, T_tsz_depths, T_tsz_firsts, T_tsz_lasts, T_tsz_nexts, T_tsz_tsz, T_tsz_marks, T_tsz_kfrom, T_tsz_ksz, T_tsz_kept, T_tsz_nums, T_marks_kc, T_marks_count, T_marks_deepest, T_marks_version, T_marks_kinds, T_marks_parents, T_marks_depths, T_marks_firsts, T_marks_lasts, T_marks_nexts, T_marks_tsz, T_marks_marks, T_marks_kfrom, T_marks_ksz, T_marks_kept, T_marks_nums, T_kfrom_kc, T_kfrom_count, T_kfrom_deepest, T_kfrom_version, T_kfrom_kinds, T_kfrom_parents, T_kfrom_depths, T_kfrom_firsts, T_kfrom_lasts, T_kfrom_nexts, T_kfrom_tsz, T_kfrom_marks, T_kfrom_kfrom, T_kfrom_ksz, T_kfrom_kept, T_kfrom_nums, T_ksz_kc, T_ksz_count, T_ksz_deepest, T_ksz_version, T_ksz_kinds, T_ksz_parents, T_ksz_depths, T_ksz_firsts, T_ksz_lasts, T_ksz_nexts, T_ksz_tsz, T_ksz_marks, T_ksz_kfrom, T_ksz_ksz, T_ksz_kept, T_ksz_nums, T_kept_kc, T_kept_count, T_kept_deepest, T_kept_version, T_kept_kinds, T_kept_parents, T_kept_depths, T_kept_firsts, T_kept_lasts, T_kept_nexts, T_kept_tsz, T_kept_marks, T_kept_kfrom, T_kept_ksz, T_kept_kept, T_kept_nums, T_nums_kc, T_nums_count, T_nums_deepest, T_nums_version, T_nums_kinds, T_nums_parents, T_nums_depths, T_nums_firsts, T_nums_lasts, T_nums_nexts, T_nums_tsz, T_nums_marks, T_nums_kfrom, T_nums_ksz, T_nums_kept, T_nums_nums]
set_option maxRecDepth 100000 in
set_option maxHeartbeats 4000000 in
theorem grf_nexts : (grf s par κ g).nexts = (hgA s s.count par).2.2 := by unfold grf gr; simp only [T_kc_kc, T_kc_count, T_kc_deepest, T_kc_version, T_kc_kinds, T_kc_parents, T_kc_depths, T_kc_firsts, T_kc_lasts, T_kc_nexts, T_kc_tsz, T_kc_marks, T_kc_kfrom, T_kc_ksz, T_kc_kept, T_kc_nums, T_count_kc, T_count_count, T_count_deepest, T_count_version, T_count_kinds, T_count_parents, T_count_depths, T_count_firsts, T_count_lasts, T_count_nexts, T_count_tsz, T_count_marks, T_count_kfrom, T_count_ksz, T_count_kept, T_count_nums, T_deepest_kc, T_deepest_count, T_deepest_deepest, T_deepest_version, T_deepest_kinds, T_deepest_parents, T_deepest_depths, T_deepest_firsts, T_deepest_lasts, T_deepest_nexts, T_deepest_tsz, T_deepest_marks, T_deepest_kfrom, T_deepest_ksz, T_deepest_kept, T_deepest_nums, T_version_kc, T_version_count, T_version_deepest, T_version_version, T_version_kinds, T_version_parents, T_version_depths, T_version_firsts, T_version_lasts, T_version_nexts, T_version_tsz, T_version_marks, T_version_kfrom, T_version_ksz, T_version_kept, T_version_nums, T_kinds_kc, T_kinds_count, T_kinds_deepest, T_kinds_version, T_kinds_kinds, T_kinds_parents, T_kinds_depths, T_kinds_firsts, T_kinds_lasts, T_kinds_nexts, T_kinds_tsz, T_kinds_marks, T_kinds_kfrom, T_kinds_ksz, T_kinds_kept, T_kinds_nums, T_parents_kc, T_parents_count, T_parents_deepest, T_parents_version, T_parents_kinds, T_parents_parents, T_parents_depths, T_parents_firsts, T_parents_lasts, T_parents_nexts, T_parents_tsz, T_parents_marks, T_parents_kfrom, T_parents_ksz, T_parents_kept, T_parents_nums, T_depths_kc, T_depths_count, T_depths_deepest, T_depths_version, T_depths_kinds, T_depths_parents, T_depths_depths, T_depths_firsts, T_depths_lasts, T_depths_nexts, T_depths_tsz, T_depths_marks, T_depths_kfrom, T_depths_ksz, T_depths_kept, T_depths_nums, T_firsts_kc, T_firsts_count, T_firsts_deepest, T_firsts_version, T_firsts_kinds, T_firsts_parents, T_firsts_depths, T_firsts_firsts, T_firsts_lasts, T_firsts_nexts, T_firsts_tsz, T_firsts_marks, T_firsts_kfrom, T_firsts_ksz, T_firsts_kept, T_firsts_nums, T_lasts_kc, T_lasts_count, T_lasts_deepest, T_lasts_version, T_lasts_kinds, T_lasts_parents, T_lasts_depths, T_lasts_firsts, T_lasts_lasts, T_lasts_nexts, T_lasts_tsz, T_lasts_marks, T_lasts_kfrom, T_lasts_ksz, T_lasts_kept, T_lasts_nums, T_nexts_kc, T_nexts_count, T_nexts_deepest, T_nexts_version, T_nexts_kinds, T_nexts_parents, T_nexts_depths, T_nexts_firsts, T_nexts_lasts, T_nexts_nexts, T_nexts_tsz, T_nexts_marks, T_nexts_kfrom, T_nexts_ksz, T_nexts_kept, T_nexts_nums, T_tsz_kc, T_tsz_count, T_tsz_deepest, T_tsz_version, T_tsz_kinds, T_tsz_parents, T_tsz_depths, T_tsz_firsts, T_tsz_lasts, T_tsz_nexts, T_tsz_tsz, T_tsz_marks, T_tsz_kfrom, T_tsz_ksz, T_tsz_kept, T_tsz_nums, T_marks_kc, T_marks_count, T_marks_deepest, T_marks_version, T_marks_kinds, T_marks_parents, T_marks_depths, T_marks_firsts, T_marks_lasts, T_marks_nexts, T_marks_tsz, T_marks_marks, T_marks_kfrom, T_marks_ksz, T_marks_kept, T_marks_nums, T_kfrom_kc, T_kfrom_count, T_kfrom_deepest, T_kfrom_version, T_kfrom_kinds, T_kfrom_parents, T_kfrom_depths, T_kfrom_firsts, T_kfrom_lasts, T_kfrom_nexts, T_kfrom_tsz, T_kfrom_marks, T_kfrom_kfrom, T_kfrom_ksz, T_kfrom_kept, T_kfrom_nums, T_ksz_kc, T_ksz_count, T_ksz_deepest, T_ksz_version, T_ksz_kinds, T_ksz_parents, T_ksz_depths, T_ksz_firsts, T_ksz_lasts, T_ksz_nexts, T_ksz_tsz, T_ksz_marks, T_ksz_kfrom, T_ksz_ksz, T_ksz_kept, T_ksz_nums, T_kept_kc, T_kept_count, T_kept_deepest, T_kept_version, T_kept_kinds, T_kept_parents, T_kept_depths, T_kept_firsts, T_kept_lasts, T_kept_nexts, T_kept_tsz, T_kept_marks, T_kept_kfrom, T_kept_ksz, T_kept_kept, T_kept_nums, T_nums_kc, T_nums_count, T_nums_deepest, T_nums_version, T_nums_kinds, T_nums_parents, T_nums_depths, T_nums_firsts, T_nums_lasts, T_nums_nexts, T_nums_tsz, T_nums_marks, T_nums_kfrom, T_nums_ksz, T_nums_kept, T_nums_nums]
set_option maxRecDepth 100000 in
set_option maxHeartbeats 4000000 in
theorem grf_kfrom : (grf s par κ g).kfrom = upd s.kfrom s.count 0 := by unfold grf gr; simp only [T_kc_kc, T_kc_count, T_kc_deepest, T_kc_version, T_kc_kinds, T_kc_parents, T_kc_depths, T_kc_firsts, T_kc_lasts, T_kc_nexts, T_kc_tsz, T_kc_marks, T_kc_kfrom, T_kc_ksz, T_kc_kept, T_kc_nums, T_count_kc, T_count_count, T_count_deepest, T_count_version, T_count_kinds, T_count_parents, T_count_depths, T_count_firsts, T_count_lasts, T_count_nexts, T_count_tsz, T_count_marks, T_count_kfrom, T_count_ksz, T_count_kept, T_count_nums, T_deepest_kc, T_deepest_count, T_deepest_deepest, T_deepest_version, T_deepest_kinds, T_deepest_parents, T_deepest_depths, T_deepest_firsts, T_deepest_lasts, T_deepest_nexts, T_deepest_tsz, T_deepest_marks, T_deepest_kfrom, T_deepest_ksz, T_deepest_kept, T_deepest_nums, T_version_kc, T_version_count, T_version_deepest, T_version_version, T_version_kinds, T_version_parents, T_version_depths, T_version_firsts, T_version_lasts, T_version_nexts, T_version_tsz, T_version_marks, T_version_kfrom, T_version_ksz, T_version_kept, T_version_nums, T_kinds_kc, T_kinds_count, T_kinds_deepest, T_kinds_version, T_kinds_kinds, T_kinds_parents, T_kinds_depths, T_kinds_firsts, T_kinds_lasts, T_kinds_nexts, T_kinds_tsz, T_kinds_marks, T_kinds_kfrom, T_kinds_ksz, T_kinds_kept, T_kinds_nums, T_parents_kc, T_parents_count, T_parents_deepest, T_parents_version, T_parents_kinds, T_parents_parents, T_parents_depths, T_parents_firsts, T_parents_lasts, T_parents_nexts, T_parents_tsz, T_parents_marks, T_parents_kfrom, T_parents_ksz, T_parents_kept, T_parents_nums, T_depths_kc, T_depths_count, T_depths_deepest, T_depths_version, T_depths_kinds, T_depths_parents, T_depths_depths, T_depths_firsts, T_depths_lasts, T_depths_nexts, T_depths_tsz, T_depths_marks, T_depths_kfrom, T_depths_ksz, T_depths_kept, T_depths_nums, T_firsts_kc, T_firsts_count, T_firsts_deepest, T_firsts_version, T_firsts_kinds, T_firsts_parents, T_firsts_depths, T_firsts_firsts, T_firsts_lasts, T_firsts_nexts, T_firsts_tsz, T_firsts_marks, T_firsts_kfrom, T_firsts_ksz, T_firsts_kept, T_firsts_nums, T_lasts_kc, T_lasts_count, T_lasts_deepest, T_lasts_version, T_lasts_kinds, T_lasts_parents, T_lasts_depths, T_lasts_firsts, T_lasts_lasts, T_lasts_nexts, T_lasts_tsz, T_lasts_marks, T_lasts_kfrom, T_lasts_ksz, T_lasts_kept, T_lasts_nums, T_nexts_kc, T_nexts_count, T_nexts_deepest, T_nexts_version, T_nexts_kinds, T_nexts_parents, T_nexts_depths, T_nexts_firsts, T_nexts_lasts, T_nexts_nexts, T_nexts_tsz, T_nexts_marks, T_nexts_kfrom, T_nexts_ksz, T_nexts_kept, T_nexts_nums, T_tsz_kc, T_tsz_count, T_tsz_deepest, T_tsz_version, T_tsz_kinds, T_tsz_parents, T_tsz_depths, T_tsz_firsts, T_tsz_lasts, T_tsz_nexts, T_tsz_tsz, T_tsz_marks, T_tsz_kfrom, T_tsz_ksz, T_tsz_kept, T_tsz_nums, T_marks_kc, T_marks_count, T_marks_deepest, T_marks_version, T_marks_kinds, T_marks_parents, T_marks_depths, T_marks_firsts, T_marks_lasts, T_marks_nexts, T_marks_tsz, T_marks_marks, T_marks_kfrom, T_marks_ksz, T_marks_kept, T_marks_nums, T_kfrom_kc, T_kfrom_count, T_kfrom_deepest, T_kfrom_version, T_kfrom_kinds, T_kfrom_parents, T_kfrom_depths, T_kfrom_firsts, T_kfrom_lasts, T_kfrom_nexts, T_kfrom_tsz, T_kfrom_marks, T_kfrom_kfrom, T_kfrom_ksz, T_kfrom_kept, T_kfrom_nums, T_ksz_kc, T_ksz_count, T_ksz_deepest, T_ksz_version, T_ksz_kinds, T_ksz_parents, T_ksz_depths, T_ksz_firsts, T_ksz_lasts, T_ksz_nexts, T_ksz_tsz, T_ksz_marks, T_ksz_kfrom, T_ksz_ksz, T_ksz_kept, T_ksz_nums, T_kept_kc, T_kept_count, T_kept_deepest, T_kept_version, T_kept_kinds, T_kept_parents, T_kept_depths, T_kept_firsts, T_kept_lasts, T_kept_nexts, T_kept_tsz, T_kept_marks, T_kept_kfrom, T_kept_ksz, T_kept_kept, T_kept_nums, T_nums_kc, T_nums_count, T_nums_deepest, T_nums_version, T_nums_kinds, T_nums_parents, T_nums_depths, T_nums_firsts, T_nums_lasts, T_nums_nexts, T_nums_tsz, T_nums_marks, T_nums_kfrom, T_nums_ksz, T_nums_kept, T_nums_nums]
set_option maxRecDepth 100000 in
set_option maxHeartbeats 4000000 in
theorem grf_ksz : (grf s par κ g).ksz = upd s.ksz s.count 0 := by unfold grf gr; simp only [T_kc_kc, T_kc_count, T_kc_deepest, T_kc_version, T_kc_kinds, T_kc_parents, T_kc_depths, T_kc_firsts, T_kc_lasts, T_kc_nexts, T_kc_tsz, T_kc_marks, T_kc_kfrom, T_kc_ksz, T_kc_kept, T_kc_nums, T_count_kc, T_count_count, T_count_deepest, T_count_version, T_count_kinds, T_count_parents, T_count_depths, T_count_firsts, T_count_lasts, T_count_nexts, T_count_tsz, T_count_marks, T_count_kfrom, T_count_ksz, T_count_kept, T_count_nums, T_deepest_kc, T_deepest_count, T_deepest_deepest, T_deepest_version, T_deepest_kinds, T_deepest_parents, T_deepest_depths, T_deepest_firsts, T_deepest_lasts, T_deepest_nexts, T_deepest_tsz, T_deepest_marks, T_deepest_kfrom, T_deepest_ksz, T_deepest_kept, T_deepest_nums, T_version_kc, T_version_count, T_version_deepest, T_version_version, T_version_kinds, T_version_parents, T_version_depths, T_version_firsts, T_version_lasts, T_version_nexts, T_version_tsz, T_version_marks, T_version_kfrom, T_version_ksz, T_version_kept, T_version_nums, T_kinds_kc, T_kinds_count, T_kinds_deepest, T_kinds_version, T_kinds_kinds, T_kinds_parents, T_kinds_depths, T_kinds_firsts, T_kinds_lasts, T_kinds_nexts, T_kinds_tsz, T_kinds_marks, T_kinds_kfrom, T_kinds_ksz, T_kinds_kept, T_kinds_nums, T_parents_kc, T_parents_count, T_parents_deepest, T_parents_version, T_parents_kinds, T_parents_parents, T_parents_depths, T_parents_firsts, T_parents_lasts, T_parents_nexts, T_parents_tsz, T_parents_marks, T_parents_kfrom, T_parents_ksz, T_parents_kept, T_parents_nums, T_depths_kc, T_depths_count, T_depths_deepest, T_depths_version, T_depths_kinds, T_depths_parents, T_depths_depths, T_depths_firsts, T_depths_lasts, T_depths_nexts, T_depths_tsz, T_depths_marks, T_depths_kfrom, T_depths_ksz, T_depths_kept, T_depths_nums, T_firsts_kc, T_firsts_count, T_firsts_deepest, T_firsts_version, T_firsts_kinds, T_firsts_parents, T_firsts_depths, T_firsts_firsts, T_firsts_lasts, T_firsts_nexts, T_firsts_tsz, T_firsts_marks, T_firsts_kfrom, T_firsts_ksz, T_firsts_kept, T_firsts_nums, T_lasts_kc, T_lasts_count, T_lasts_deepest, T_lasts_version, T_lasts_kinds, T_lasts_parents, T_lasts_depths, T_lasts_firsts, T_lasts_lasts, T_lasts_nexts, T_lasts_tsz, T_lasts_marks, T_lasts_kfrom, T_lasts_ksz, T_lasts_kept, T_lasts_nums, T_nexts_kc, T_nexts_count, T_nexts_deepest, T_nexts_version, T_nexts_kinds, T_nexts_parents, T_nexts_depths, T_nexts_firsts, T_nexts_lasts, T_nexts_nexts, T_nexts_tsz, T_nexts_marks, T_nexts_kfrom, T_nexts_ksz, T_nexts_kept, T_nexts_nums, T_tsz_kc, T_tsz_count, T_tsz_deepest, T_tsz_version, T_tsz_kinds, T_tsz_parents, T_tsz_depths, T_tsz_firsts, T_tsz_lasts, T_tsz_nexts, T_tsz_tsz, T_tsz_marks, T_tsz_kfrom, T_tsz_ksz, T_tsz_kept, T_tsz_nums, T_marks_kc, T_marks_count, T_marks_deepest, T_marks_version, T_marks_kinds, T_marks_parents, T_marks_depths, T_marks_firsts, T_marks_lasts, T_marks_nexts, T_marks_tsz, T_marks_marks, T_marks_kfrom, T_marks_ksz, T_marks_kept, T_marks_nums, T_kfrom_kc, T_kfrom_count, T_kfrom_deepest, T_kfrom_version, T_kfrom_kinds, T_kfrom_parents, T_kfrom_depths, T_kfrom_firsts, T_kfrom_lasts, T_kfrom_nexts, T_kfrom_tsz, T_kfrom_marks, T_kfrom_kfrom, T_kfrom_ksz, T_kfrom_kept, T_kfrom_nums, T_ksz_kc, T_ksz_count, T_ksz_deepest, T_ksz_version, T_ksz_kinds, T_ksz_parents, T_ksz_depths, T_ksz_firsts, T_ksz_lasts, T_ksz_nexts, T_ksz_tsz, T_ksz_marks, T_ksz_kfrom, T_ksz_ksz, T_ksz_kept, T_ksz_nums, T_kept_kc, T_kept_count, T_kept_deepest, T_kept_version, T_kept_kinds, T_kept_parents, T_kept_depths, T_kept_firsts, T_kept_lasts, T_kept_nexts, T_kept_tsz, T_kept_marks, T_kept_kfrom, T_kept_ksz, T_kept_kept, T_kept_nums, T_nums_kc, T_nums_count, T_nums_deepest, T_nums_version, T_nums_kinds, T_nums_parents, T_nums_depths, T_nums_firsts, T_nums_lasts, T_nums_nexts, T_nums_tsz, T_nums_marks, T_nums_kfrom, T_nums_ksz, T_nums_kept, T_nums_nums]
set_option maxRecDepth 100000 in
set_option maxHeartbeats 4000000 in
theorem grf_kept : (grf s par κ g).kept = s.kept := by unfold grf gr; simp only [T_kc_kc, T_kc_count, T_kc_deepest, T_kc_version, T_kc_kinds, T_kc_parents, T_kc_depths, T_kc_firsts, T_kc_lasts, T_kc_nexts, T_kc_tsz, T_kc_marks, T_kc_kfrom, T_kc_ksz, T_kc_kept, T_kc_nums, T_count_kc, T_count_count, T_count_deepest, T_count_version, T_count_kinds, T_count_parents, T_count_depths, T_count_firsts, T_count_lasts, T_count_nexts, T_count_tsz, T_count_marks, T_count_kfrom, T_count_ksz, T_count_kept, T_count_nums, T_deepest_kc, T_deepest_count, T_deepest_deepest, T_deepest_version, T_deepest_kinds, T_deepest_parents, T_deepest_depths, T_deepest_firsts, T_deepest_lasts, T_deepest_nexts, T_deepest_tsz, T_deepest_marks, T_deepest_kfrom, T_deepest_ksz, T_deepest_kept, T_deepest_nums, T_version_kc, T_version_count, T_version_deepest, T_version_version, T_version_kinds, T_version_parents, T_version_depths, T_version_firsts, T_version_lasts, T_version_nexts, T_version_tsz, T_version_marks, T_version_kfrom, T_version_ksz, T_version_kept, T_version_nums, T_kinds_kc, T_kinds_count, T_kinds_deepest, T_kinds_version, T_kinds_kinds, T_kinds_parents, T_kinds_depths, T_kinds_firsts, T_kinds_lasts, T_kinds_nexts, T_kinds_tsz, T_kinds_marks, T_kinds_kfrom, T_kinds_ksz, T_kinds_kept, T_kinds_nums, T_parents_kc, T_parents_count, T_parents_deepest, T_parents_version, T_parents_kinds, T_parents_parents, T_parents_depths, T_parents_firsts, T_parents_lasts, T_parents_nexts, T_parents_tsz, T_parents_marks, T_parents_kfrom, T_parents_ksz, T_parents_kept, T_parents_nums, T_depths_kc, T_depths_count, T_depths_deepest, T_depths_version, T_depths_kinds, T_depths_parents, T_depths_depths, T_depths_firsts, T_depths_lasts, T_depths_nexts, T_depths_tsz, T_depths_marks, T_depths_kfrom, T_depths_ksz, T_depths_kept, T_depths_nums, T_firsts_kc, T_firsts_count, T_firsts_deepest, T_firsts_version, T_firsts_kinds, T_firsts_parents, T_firsts_depths, T_firsts_firsts, T_firsts_lasts, T_firsts_nexts, T_firsts_tsz, T_firsts_marks, T_firsts_kfrom, T_firsts_ksz, T_firsts_kept, T_firsts_nums, T_lasts_kc, T_lasts_count, T_lasts_deepest, T_lasts_version, T_lasts_kinds, T_lasts_parents, T_lasts_depths, T_lasts_firsts, T_lasts_lasts, T_lasts_nexts, T_lasts_tsz, T_lasts_marks, T_lasts_kfrom, T_lasts_ksz, T_lasts_kept, T_lasts_nums, T_nexts_kc, T_nexts_count, T_nexts_deepest, T_nexts_version, T_nexts_kinds, T_nexts_parents, T_nexts_depths, T_nexts_firsts, T_nexts_lasts, T_nexts_nexts, T_nexts_tsz, T_nexts_marks, T_nexts_kfrom, T_nexts_ksz, T_nexts_kept, T_nexts_nums, T_tsz_kc, T_tsz_count, T_tsz_deepest, T_tsz_version, T_tsz_kinds, T_tsz_parents, T_tsz_depths, T_tsz_firsts, T_tsz_lasts, T_tsz_nexts, T_tsz_tsz, T_tsz_marks, T_tsz_kfrom, T_tsz_ksz, T_tsz_kept, T_tsz_nums, T_marks_kc, T_marks_count, T_marks_deepest, T_marks_version, T_marks_kinds, T_marks_parents, T_marks_depths, T_marks_firsts, T_marks_lasts, T_marks_nexts, T_marks_tsz, T_marks_marks, T_marks_kfrom, T_marks_ksz, T_marks_kept, T_marks_nums, T_kfrom_kc, T_kfrom_count, T_kfrom_deepest, T_kfrom_version, T_kfrom_kinds, T_kfrom_parents, T_kfrom_depths, T_kfrom_firsts, T_kfrom_lasts, T_kfrom_nexts, T_kfrom_tsz, T_kfrom_marks, T_kfrom_kfrom, T_kfrom_ksz, T_kfrom_kept, T_kfrom_nums, T_ksz_kc, T_ksz_count, T_ksz_deepest, T_ksz_version, T_ksz_kinds, T_ksz_parents, T_ksz_depths, T_ksz_firsts, T_ksz_lasts, T_ksz_nexts, T_ksz_tsz, T_ksz_marks, T_ksz_kfrom, T_ksz_ksz, T_ksz_kept, T_ksz_nums, T_kept_kc, T_kept_count, T_kept_deepest, T_kept_version, T_kept_kinds, T_kept_parents, T_kept_depths, T_kept_firsts, T_kept_lasts, T_kept_nexts, T_kept_tsz, T_kept_marks, T_kept_kfrom, T_kept_ksz, T_kept_kept, T_kept_nums, T_nums_kc, T_nums_count, T_nums_deepest, T_nums_version, T_nums_kinds, T_nums_parents, T_nums_depths, T_nums_firsts, T_nums_lasts, T_nums_nexts, T_nums_tsz, T_nums_marks, T_nums_kfrom, T_nums_ksz, T_nums_kept, T_nums_nums]
set_option maxRecDepth 100000 in
set_option maxHeartbeats 4000000 in
theorem grf_kc : (grf s par κ g).kc = s.kc := by unfold grf gr; simp only [T_kc_kc, T_kc_count, T_kc_deepest, T_kc_version, T_kc_kinds, T_kc_parents, T_kc_depths, T_kc_firsts, T_kc_lasts, T_kc_nexts, T_kc_tsz, T_kc_marks, T_kc_kfrom, T_kc_ksz, T_kc_kept, T_kc_nums, T_count_kc, T_count_count, T_count_deepest, T_count_version, T_count_kinds, T_count_parents, T_count_depths, T_count_firsts, T_count_lasts, T_count_nexts, T_count_tsz, T_count_marks, T_count_kfrom, T_count_ksz, T_count_kept, T_count_nums, T_deepest_kc, T_deepest_count, T_deepest_deepest, T_deepest_version, T_deepest_kinds, T_deepest_parents, T_deepest_depths, T_deepest_firsts, T_deepest_lasts, T_deepest_nexts, T_deepest_tsz, T_deepest_marks, T_deepest_kfrom, T_deepest_ksz, T_deepest_kept, T_deepest_nums, T_version_kc, T_version_count, T_version_deepest, T_version_version, T_version_kinds, T_version_parents, T_version_depths, T_version_firsts, T_version_lasts, T_version_nexts, T_version_tsz, T_version_marks, T_version_kfrom, T_version_ksz, T_version_kept, T_version_nums, T_kinds_kc, T_kinds_count, T_kinds_deepest, T_kinds_version, T_kinds_kinds, T_kinds_parents, T_kinds_depths, T_kinds_firsts, T_kinds_lasts, T_kinds_nexts, T_kinds_tsz, T_kinds_marks, T_kinds_kfrom, T_kinds_ksz, T_kinds_kept, T_kinds_nums, T_parents_kc, T_parents_count, T_parents_deepest, T_parents_version, T_parents_kinds, T_parents_parents, T_parents_depths, T_parents_firsts, T_parents_lasts, T_parents_nexts, T_parents_tsz, T_parents_marks, T_parents_kfrom, T_parents_ksz, T_parents_kept, T_parents_nums, T_depths_kc, T_depths_count, T_depths_deepest, T_depths_version, T_depths_kinds, T_depths_parents, T_depths_depths, T_depths_firsts, T_depths_lasts, T_depths_nexts, T_depths_tsz, T_depths_marks, T_depths_kfrom, T_depths_ksz, T_depths_kept, T_depths_nums, T_firsts_kc, T_firsts_count, T_firsts_deepest, T_firsts_version, T_firsts_kinds, T_firsts_parents, T_firsts_depths, T_firsts_firsts, T_firsts_lasts, T_firsts_nexts, T_firsts_tsz, T_firsts_marks, T_firsts_kfrom, T_firsts_ksz, T_firsts_kept, T_firsts_nums, T_lasts_kc, T_lasts_count, T_lasts_deepest, T_lasts_version, T_lasts_kinds, T_lasts_parents, T_lasts_depths, T_lasts_firsts, T_lasts_lasts, T_lasts_nexts, T_lasts_tsz, T_lasts_marks, T_lasts_kfrom, T_lasts_ksz, T_lasts_kept, T_lasts_nums, T_nexts_kc, T_nexts_count, T_nexts_deepest, T_nexts_version, T_nexts_kinds, T_nexts_parents, T_nexts_depths, T_nexts_firsts, T_nexts_lasts, T_nexts_nexts, T_nexts_tsz, T_nexts_marks, T_nexts_kfrom, T_nexts_ksz, T_nexts_kept, T_nexts_nums, T_tsz_kc, T_tsz_count, T_tsz_deepest, T_tsz_version, T_tsz_kinds, T_tsz_parents, T_tsz_depths, T_tsz_firsts, T_tsz_lasts, T_tsz_nexts, T_tsz_tsz, T_tsz_marks, T_tsz_kfrom, T_tsz_ksz, T_tsz_kept, T_tsz_nums, T_marks_kc, T_marks_count, T_marks_deepest, T_marks_version, T_marks_kinds, T_marks_parents, T_marks_depths, T_marks_firsts, T_marks_lasts, T_marks_nexts, T_marks_tsz, T_marks_marks, T_marks_kfrom, T_marks_ksz, T_marks_kept, T_marks_nums, T_kfrom_kc, T_kfrom_count, T_kfrom_deepest, T_kfrom_version, T_kfrom_kinds, T_kfrom_parents, T_kfrom_depths, T_kfrom_firsts, T_kfrom_lasts, T_kfrom_nexts, T_kfrom_tsz, T_kfrom_marks, T_kfrom_kfrom, T_kfrom_ksz, T_kfrom_kept, T_kfrom_nums, T_ksz_kc, T_ksz_count, T_ksz_deepest, T_ksz_version, T_ksz_kinds, T_ksz_parents, T_ksz_depths, T_ksz_firsts, T_ksz_lasts, T_ksz_nexts, T_ksz_tsz, T_ksz_marks, T_ksz_kfrom, T_ksz_ksz, T_ksz_kept, T_ksz_nums, T_kept_kc, T_kept_count, T_kept_deepest, T_kept_version, T_kept_kinds, T_kept_parents, T_kept_depths, T_kept_firsts, T_kept_lasts, T_kept_nexts, T_kept_tsz, T_kept_marks, T_kept_kfrom, T_kept_ksz, T_kept_kept, T_kept_nums, T_nums_kc, T_nums_count, T_nums_deepest, T_nums_version, T_nums_kinds, T_nums_parents, T_nums_depths, T_nums_firsts, T_nums_lasts, T_nums_nexts, T_nums_tsz, T_nums_marks, T_nums_kfrom, T_nums_ksz, T_nums_kept, T_nums_nums]
set_option maxRecDepth 100000 in
set_option maxHeartbeats 4000000 in
theorem grf_version : (grf s par κ g).version = s.version := by unfold grf gr; simp only [T_kc_kc, T_kc_count, T_kc_deepest, T_kc_version, T_kc_kinds, T_kc_parents, T_kc_depths, T_kc_firsts, T_kc_lasts, T_kc_nexts, T_kc_tsz, T_kc_marks, T_kc_kfrom, T_kc_ksz, T_kc_kept, T_kc_nums, T_count_kc, T_count_count, T_count_deepest, T_count_version, T_count_kinds, T_count_parents, T_count_depths, T_count_firsts, T_count_lasts, T_count_nexts, T_count_tsz, T_count_marks, T_count_kfrom, T_count_ksz, T_count_kept, T_count_nums, T_deepest_kc, T_deepest_count, T_deepest_deepest, T_deepest_version, T_deepest_kinds, T_deepest_parents, T_deepest_depths, T_deepest_firsts, T_deepest_lasts, T_deepest_nexts, T_deepest_tsz, T_deepest_marks, T_deepest_kfrom, T_deepest_ksz, T_deepest_kept, T_deepest_nums, T_version_kc, T_version_count, T_version_deepest, T_version_version, T_version_kinds, T_version_parents, T_version_depths, T_version_firsts, T_version_lasts, T_version_nexts, T_version_tsz, T_version_marks, T_version_kfrom, T_version_ksz, T_version_kept, T_version_nums, T_kinds_kc, T_kinds_count, T_kinds_deepest, T_kinds_version, T_kinds_kinds, T_kinds_parents, T_kinds_depths, T_kinds_firsts, T_kinds_lasts, T_kinds_nexts, T_kinds_tsz, T_kinds_marks, T_kinds_kfrom, T_kinds_ksz, T_kinds_kept, T_kinds_nums, T_parents_kc, T_parents_count, T_parents_deepest, T_parents_version, T_parents_kinds, T_parents_parents, T_parents_depths, T_parents_firsts, T_parents_lasts, T_parents_nexts, T_parents_tsz, T_parents_marks, T_parents_kfrom, T_parents_ksz, T_parents_kept, T_parents_nums, T_depths_kc, T_depths_count, T_depths_deepest, T_depths_version, T_depths_kinds, T_depths_parents, T_depths_depths, T_depths_firsts, T_depths_lasts, T_depths_nexts, T_depths_tsz, T_depths_marks, T_depths_kfrom, T_depths_ksz, T_depths_kept, T_depths_nums, T_firsts_kc, T_firsts_count, T_firsts_deepest, T_firsts_version, T_firsts_kinds, T_firsts_parents, T_firsts_depths, T_firsts_firsts, T_firsts_lasts, T_firsts_nexts, T_firsts_tsz, T_firsts_marks, T_firsts_kfrom, T_firsts_ksz, T_firsts_kept, T_firsts_nums, T_lasts_kc, T_lasts_count, T_lasts_deepest, T_lasts_version, T_lasts_kinds, T_lasts_parents, T_lasts_depths, T_lasts_firsts, T_lasts_lasts, T_lasts_nexts, T_lasts_tsz, T_lasts_marks, T_lasts_kfrom, T_lasts_ksz, T_lasts_kept, T_lasts_nums, T_nexts_kc, T_nexts_count, T_nexts_deepest, T_nexts_version, T_nexts_kinds, T_nexts_parents, T_nexts_depths, T_nexts_firsts, T_nexts_lasts, T_nexts_nexts, T_nexts_tsz, T_nexts_marks, T_nexts_kfrom, T_nexts_ksz, T_nexts_kept, T_nexts_nums, T_tsz_kc, T_tsz_count, T_tsz_deepest, T_tsz_version, T_tsz_kinds, T_tsz_parents, T_tsz_depths, T_tsz_firsts, T_tsz_lasts, T_tsz_nexts, T_tsz_tsz, T_tsz_marks, T_tsz_kfrom, T_tsz_ksz, T_tsz_kept, T_tsz_nums, T_marks_kc, T_marks_count, T_marks_deepest, T_marks_version, T_marks_kinds, T_marks_parents, T_marks_depths, T_marks_firsts, T_marks_lasts, T_marks_nexts, T_marks_tsz, T_marks_marks, T_marks_kfrom, T_marks_ksz, T_marks_kept, T_marks_nums, T_kfrom_kc, T_kfrom_count, T_kfrom_deepest, T_kfrom_version, T_kfrom_kinds, T_kfrom_parents, T_kfrom_depths, T_kfrom_firsts, T_kfrom_lasts, T_kfrom_nexts, T_kfrom_tsz, T_kfrom_marks, T_kfrom_kfrom, T_kfrom_ksz, T_kfrom_kept, T_kfrom_nums, T_ksz_kc, T_ksz_count, T_ksz_deepest, T_ksz_version, T_ksz_kinds, T_ksz_parents, T_ksz_depths, T_ksz_firsts, T_ksz_lasts, T_ksz_nexts, T_ksz_tsz, T_ksz_marks, T_ksz_kfrom, T_ksz_ksz, T_ksz_kept, T_ksz_nums, T_kept_kc, T_kept_count, T_kept_deepest, T_kept_version, T_kept_kinds, T_kept_parents, T_kept_depths, T_kept_firsts, T_kept_lasts, T_kept_nexts, T_kept_tsz, T_kept_marks, T_kept_kfrom, T_kept_ksz, T_kept_kept, T_kept_nums, T_nums_kc, T_nums_count, T_nums_deepest, T_nums_version, T_nums_kinds, T_nums_parents, T_nums_depths, T_nums_firsts, T_nums_lasts, T_nums_nexts, T_nums_tsz, T_nums_marks, T_nums_kfrom, T_nums_ksz, T_nums_kept, T_nums_nums]
set_option maxRecDepth 100000 in
set_option maxHeartbeats 4000000 in
theorem grf_marks : (grf s par κ g).marks = s.marks := by unfold grf gr; simp only [T_kc_kc, T_kc_count, T_kc_deepest, T_kc_version, T_kc_kinds, T_kc_parents, T_kc_depths, T_kc_firsts, T_kc_lasts, T_kc_nexts, T_kc_tsz, T_kc_marks, T_kc_kfrom, T_kc_ksz, T_kc_kept, T_kc_nums, T_count_kc, T_count_count, T_count_deepest, T_count_version, T_count_kinds, T_count_parents, T_count_depths, T_count_firsts, T_count_lasts, T_count_nexts, T_count_tsz, T_count_marks, T_count_kfrom, T_count_ksz, T_count_kept, T_count_nums, T_deepest_kc, T_deepest_count, T_deepest_deepest, T_deepest_version, T_deepest_kinds, T_deepest_parents, T_deepest_depths, T_deepest_firsts, T_deepest_lasts, T_deepest_nexts, T_deepest_tsz, T_deepest_marks, T_deepest_kfrom, T_deepest_ksz, T_deepest_kept, T_deepest_nums, T_version_kc, T_version_count, T_version_deepest, T_version_version, T_version_kinds, T_version_parents, T_version_depths, T_version_firsts, T_version_lasts, T_version_nexts, T_version_tsz, T_version_marks, T_version_kfrom, T_version_ksz, T_version_kept, T_version_nums, T_kinds_kc, T_kinds_count, T_kinds_deepest, T_kinds_version, T_kinds_kinds, T_kinds_parents, T_kinds_depths, T_kinds_firsts, T_kinds_lasts, T_kinds_nexts, T_kinds_tsz, T_kinds_marks, T_kinds_kfrom, T_kinds_ksz, T_kinds_kept, T_kinds_nums, T_parents_kc, T_parents_count, T_parents_deepest, T_parents_version, T_parents_kinds, T_parents_parents, T_parents_depths, T_parents_firsts, T_parents_lasts, T_parents_nexts, T_parents_tsz, T_parents_marks, T_parents_kfrom, T_parents_ksz, T_parents_kept, T_parents_nums, T_depths_kc, T_depths_count, T_depths_deepest, T_depths_version, T_depths_kinds, T_depths_parents, T_depths_depths, T_depths_firsts, T_depths_lasts, T_depths_nexts, T_depths_tsz, T_depths_marks, T_depths_kfrom, T_depths_ksz, T_depths_kept, T_depths_nums, T_firsts_kc, T_firsts_count, T_firsts_deepest, T_firsts_version, T_firsts_kinds, T_firsts_parents, T_firsts_depths, T_firsts_firsts, T_firsts_lasts, T_firsts_nexts, T_firsts_tsz, T_firsts_marks, T_firsts_kfrom, T_firsts_ksz, T_firsts_kept, T_firsts_nums, T_lasts_kc, T_lasts_count, T_lasts_deepest, T_lasts_version, T_lasts_kinds, T_lasts_parents, T_lasts_depths, T_lasts_firsts, T_lasts_lasts, T_lasts_nexts, T_lasts_tsz, T_lasts_marks, T_lasts_kfrom, T_lasts_ksz, T_lasts_kept, T_lasts_nums, T_nexts_kc, T_nexts_count, T_nexts_deepest, T_nexts_version, T_nexts_kinds, T_nexts_parents, T_nexts_depths, T_nexts_firsts, T_nexts_lasts, T_nexts_nexts, T_nexts_tsz, T_nexts_marks, T_nexts_kfrom, T_nexts_ksz, T_nexts_kept, T_nexts_nums, T_tsz_kc, T_tsz_count, T_tsz_deepest, T_tsz_version, T_tsz_kinds, T_tsz_parents, T_tsz_depths, T_tsz_firsts, T_tsz_lasts, T_tsz_nexts, T_tsz_tsz, T_tsz_marks, T_tsz_kfrom, T_tsz_ksz, T_tsz_kept, T_tsz_nums, T_marks_kc, T_marks_count, T_marks_deepest, T_marks_version, T_marks_kinds, T_marks_parents, T_marks_depths, T_marks_firsts, T_marks_lasts, T_marks_nexts, T_marks_tsz, T_marks_marks, T_marks_kfrom, T_marks_ksz, T_marks_kept, T_marks_nums, T_kfrom_kc, T_kfrom_count, T_kfrom_deepest, T_kfrom_version, T_kfrom_kinds, T_kfrom_parents, T_kfrom_depths, T_kfrom_firsts, T_kfrom_lasts, T_kfrom_nexts, T_kfrom_tsz, T_kfrom_marks, T_kfrom_kfrom, T_kfrom_ksz, T_kfrom_kept, T_kfrom_nums, T_ksz_kc, T_ksz_count, T_ksz_deepest, T_ksz_version, T_ksz_kinds, T_ksz_parents, T_ksz_depths, T_ksz_firsts, T_ksz_lasts, T_ksz_nexts, T_ksz_tsz, T_ksz_marks, T_ksz_kfrom, T_ksz_ksz, T_ksz_kept, T_ksz_nums, T_kept_kc, T_kept_count, T_kept_deepest, T_kept_version, T_kept_kinds, T_kept_parents, T_kept_depths, T_kept_firsts, T_kept_lasts, T_kept_nexts, T_kept_tsz, T_kept_marks, T_kept_kfrom, T_kept_ksz, T_kept_kept, T_kept_nums, T_nums_kc, T_nums_count, T_nums_deepest, T_nums_version, T_nums_kinds, T_nums_parents, T_nums_depths, T_nums_firsts, T_nums_lasts, T_nums_nexts, T_nums_tsz, T_nums_marks, T_nums_kfrom, T_nums_ksz, T_nums_kept, T_nums_nums]
set_option maxRecDepth 100000 in
set_option maxHeartbeats 4000000 in
theorem grf_nums : (grf s par κ g).nums = g := by unfold grf gr; simp only [T_kc_kc, T_kc_count, T_kc_deepest, T_kc_version, T_kc_kinds, T_kc_parents, T_kc_depths, T_kc_firsts, T_kc_lasts, T_kc_nexts, T_kc_tsz, T_kc_marks, T_kc_kfrom, T_kc_ksz, T_kc_kept, T_kc_nums, T_count_kc, T_count_count, T_count_deepest, T_count_version, T_count_kinds, T_count_parents, T_count_depths, T_count_firsts, T_count_lasts, T_count_nexts, T_count_tsz, T_count_marks, T_count_kfrom, T_count_ksz, T_count_kept, T_count_nums, T_deepest_kc, T_deepest_count, T_deepest_deepest, T_deepest_version, T_deepest_kinds, T_deepest_parents, T_deepest_depths, T_deepest_firsts, T_deepest_lasts, T_deepest_nexts, T_deepest_tsz, T_deepest_marks, T_deepest_kfrom, T_deepest_ksz, T_deepest_kept, T_deepest_nums, T_version_kc, T_version_count, T_version_deepest, T_version_version, T_version_kinds, T_version_parents, T_version_depths, T_version_firsts, T_version_lasts, T_version_nexts, T_version_tsz, T_version_marks, T_version_kfrom, T_version_ksz, T_version_kept, T_version_nums, T_kinds_kc, T_kinds_count, T_kinds_deepest, T_kinds_version, T_kinds_kinds, T_kinds_parents, T_kinds_depths, T_kinds_firsts, T_kinds_lasts, T_kinds_nexts, T_kinds_tsz, T_kinds_marks, T_kinds_kfrom, T_kinds_ksz, T_kinds_kept, T_kinds_nums, T_parents_kc, T_parents_count, T_parents_deepest, T_parents_version, T_parents_kinds, T_parents_parents, T_parents_depths, T_parents_firsts, T_parents_lasts, T_parents_nexts, T_parents_tsz, T_parents_marks, T_parents_kfrom, T_parents_ksz, T_parents_kept, T_parents_nums, T_depths_kc, T_depths_count, T_depths_deepest, T_depths_version, T_depths_kinds, T_depths_parents, T_depths_depths, T_depths_firsts, T_depths_lasts, T_depths_nexts, T_depths_tsz, T_depths_marks, T_depths_kfrom, T_depths_ksz, T_depths_kept, T_depths_nums, T_firsts_kc, T_firsts_count, T_firsts_deepest, T_firsts_version, T_firsts_kinds, T_firsts_parents, T_firsts_depths, T_firsts_firsts, T_firsts_lasts, T_firsts_nexts, T_firsts_tsz, T_firsts_marks, T_firsts_kfrom, T_firsts_ksz, T_firsts_kept, T_firsts_nums, T_lasts_kc, T_lasts_count, T_lasts_deepest, T_lasts_version, T_lasts_kinds, T_lasts_parents, T_lasts_depths, T_lasts_firsts, T_lasts_lasts, T_lasts_nexts, T_lasts_tsz, T_lasts_marks, T_lasts_kfrom, T_lasts_ksz, T_lasts_kept, T_lasts_nums, T_nexts_kc, T_nexts_count, T_nexts_deepest, T_nexts_version, T_nexts_kinds, T_nexts_parents, T_nexts_depths, T_nexts_firsts, T_nexts_lasts, T_nexts_nexts, T_nexts_tsz, T_nexts_marks, T_nexts_kfrom, T_nexts_ksz, T_nexts_kept, T_nexts_nums, T_tsz_kc, T_tsz_count, T_tsz_deepest, T_tsz_version, T_tsz_kinds, T_tsz_parents, T_tsz_depths, T_tsz_firsts, T_tsz_lasts, T_tsz_nexts, T_tsz_tsz, T_tsz_marks, T_tsz_kfrom, T_tsz_ksz, T_tsz_kept, T_tsz_nums, T_marks_kc, T_marks_count, T_marks_deepest, T_marks_version, T_marks_kinds, T_marks_parents, T_marks_depths, T_marks_firsts, T_marks_lasts, T_marks_nexts, T_marks_tsz, T_marks_marks, T_marks_kfrom, T_marks_ksz, T_marks_kept, T_marks_nums, T_kfrom_kc, T_kfrom_count, T_kfrom_deepest, T_kfrom_version, T_kfrom_kinds, T_kfrom_parents, T_kfrom_depths, T_kfrom_firsts, T_kfrom_lasts, T_kfrom_nexts, T_kfrom_tsz, T_kfrom_marks, T_kfrom_kfrom, T_kfrom_ksz, T_kfrom_kept, T_kfrom_nums, T_ksz_kc, T_ksz_count, T_ksz_deepest, T_ksz_version, T_ksz_kinds, T_ksz_parents, T_ksz_depths, T_ksz_firsts, T_ksz_lasts, T_ksz_nexts, T_ksz_tsz, T_ksz_marks, T_ksz_kfrom, T_ksz_ksz, T_ksz_kept, T_ksz_nums, T_kept_kc, T_kept_count, T_kept_deepest, T_kept_version, T_kept_kinds, T_kept_parents, T_kept_depths, T_kept_firsts, T_kept_lasts, T_kept_nexts, T_kept_tsz, T_kept_marks, T_kept_kfrom, T_kept_ksz, T_kept_kept, T_kept_nums, T_nums_kc, T_nums_count, T_nums_deepest, T_nums_version, T_nums_kinds, T_nums_parents, T_nums_depths, T_nums_firsts, T_nums_lasts, T_nums_nexts, T_nums_tsz, T_nums_marks, T_nums_kfrom, T_nums_ksz, T_nums_kept, T_nums_nums]
set_option maxRecDepth 100000 in
set_option maxHeartbeats 4000000 in
theorem grf_tsz : (grf s par κ g).tsz = upd (upd s.tsz (s.count * 2) 0) (s.count * 2 + 1) 0 := by unfold grf gr; simp only [T_kc_kc, T_kc_count, T_kc_deepest, T_kc_version, T_kc_kinds, T_kc_parents, T_kc_depths, T_kc_firsts, T_kc_lasts, T_kc_nexts, T_kc_tsz, T_kc_marks, T_kc_kfrom, T_kc_ksz, T_kc_kept, T_kc_nums, T_count_kc, T_count_count, T_count_deepest, T_count_version, T_count_kinds, T_count_parents, T_count_depths, T_count_firsts, T_count_lasts, T_count_nexts, T_count_tsz, T_count_marks, T_count_kfrom, T_count_ksz, T_count_kept, T_count_nums, T_deepest_kc, T_deepest_count, T_deepest_deepest, T_deepest_version, T_deepest_kinds, T_deepest_parents, T_deepest_depths, T_deepest_firsts, T_deepest_lasts, T_deepest_nexts, T_deepest_tsz, T_deepest_marks, T_deepest_kfrom, T_deepest_ksz, T_deepest_kept, T_deepest_nums, T_version_kc, T_version_count, T_version_deepest, T_version_version, T_version_kinds, T_version_parents, T_version_depths, T_version_firsts, T_version_lasts, T_version_nexts, T_version_tsz, T_version_marks, T_version_kfrom, T_version_ksz, T_version_kept, T_version_nums, T_kinds_kc, T_kinds_count, T_kinds_deepest, T_kinds_version, T_kinds_kinds, T_kinds_parents, T_kinds_depths, T_kinds_firsts, T_kinds_lasts, T_kinds_nexts, T_kinds_tsz, T_kinds_marks, T_kinds_kfrom, T_kinds_ksz, T_kinds_kept, T_kinds_nums, T_parents_kc, T_parents_count, T_parents_deepest, T_parents_version, T_parents_kinds, T_parents_parents, T_parents_depths, T_parents_firsts, T_parents_lasts, T_parents_nexts, T_parents_tsz, T_parents_marks, T_parents_kfrom, T_parents_ksz, T_parents_kept, T_parents_nums, T_depths_kc, T_depths_count, T_depths_deepest, T_depths_version, T_depths_kinds, T_depths_parents, T_depths_depths, T_depths_firsts, T_depths_lasts, T_depths_nexts, T_depths_tsz, T_depths_marks, T_depths_kfrom, T_depths_ksz, T_depths_kept, T_depths_nums, T_firsts_kc, T_firsts_count, T_firsts_deepest, T_firsts_version, T_firsts_kinds, T_firsts_parents, T_firsts_depths, T_firsts_firsts, T_firsts_lasts, T_firsts_nexts, T_firsts_tsz, T_firsts_marks, T_firsts_kfrom, T_firsts_ksz, T_firsts_kept, T_firsts_nums, T_lasts_kc, T_lasts_count, T_lasts_deepest, T_lasts_version, T_lasts_kinds, T_lasts_parents, T_lasts_depths, T_lasts_firsts, T_lasts_lasts, T_lasts_nexts, T_lasts_tsz, T_lasts_marks, T_lasts_kfrom, T_lasts_ksz, T_lasts_kept, T_lasts_nums, T_nexts_kc, T_nexts_count, T_nexts_deepest, T_nexts_version, T_nexts_kinds, T_nexts_parents, T_nexts_depths, T_nexts_firsts, T_nexts_lasts, T_nexts_nexts, T_nexts_tsz, T_nexts_marks, T_nexts_kfrom, T_nexts_ksz, T_nexts_kept, T_nexts_nums, T_tsz_kc, T_tsz_count, T_tsz_deepest, T_tsz_version, T_tsz_kinds, T_tsz_parents, T_tsz_depths, T_tsz_firsts, T_tsz_lasts, T_tsz_nexts, T_tsz_tsz, T_tsz_marks, T_tsz_kfrom, T_tsz_ksz, T_tsz_kept, T_tsz_nums, T_marks_kc, T_marks_count, T_marks_deepest, T_marks_version, T_marks_kinds, T_marks_parents, T_marks_depths, T_marks_firsts, T_marks_lasts, T_marks_nexts, T_marks_tsz, T_marks_marks, T_marks_kfrom, T_marks_ksz, T_marks_kept, T_marks_nums, T_kfrom_kc, T_kfrom_count, T_kfrom_deepest, T_kfrom_version, T_kfrom_kinds, T_kfrom_parents, T_kfrom_depths, T_kfrom_firsts, T_kfrom_lasts, T_kfrom_nexts, T_kfrom_tsz, T_kfrom_marks, T_kfrom_kfrom, T_kfrom_ksz, T_kfrom_kept, T_kfrom_nums, T_ksz_kc, T_ksz_count, T_ksz_deepest, T_ksz_version, T_ksz_kinds, T_ksz_parents, T_ksz_depths, T_ksz_firsts, T_ksz_lasts, T_ksz_nexts, T_ksz_tsz, T_ksz_marks, T_ksz_kfrom, T_ksz_ksz, T_ksz_kept, T_ksz_nums, T_kept_kc, T_kept_count, T_kept_deepest, T_kept_version, T_kept_kinds, T_kept_parents, T_kept_depths, T_kept_firsts, T_kept_lasts, T_kept_nexts, T_kept_tsz, T_kept_marks, T_kept_kfrom, T_kept_ksz, T_kept_kept, T_kept_nums, T_nums_kc, T_nums_count, T_nums_deepest, T_nums_version, T_nums_kinds, T_nums_parents, T_nums_depths, T_nums_firsts, T_nums_lasts, T_nums_nexts, T_nums_tsz, T_nums_marks, T_nums_kfrom, T_nums_ksz, T_nums_kept, T_nums_nums]
set_option maxRecDepth 100000 in
set_option maxHeartbeats 4000000 in
theorem fk_of (κ : Fin 10) : fk10 (zI κ.val) = κ := fk_N κ
set_option maxRecDepth 100000 in
set_option maxHeartbeats 4000000 in
theorem grf_tK (k : Nat) : tK (grf s par κ g) k = if k = s.count then κ else tK s k := by
  unfold tK
  rw [grf_kinds, upd_at]
  split
  · exact fk_N κ
  · rfl
set_option maxRecDepth 100000 in
set_option maxHeartbeats 4000000 in
theorem grf_tP {k : Nat} (h : k ≠ s.count) : tP (grf s par κ g) k = tP s k := by
  unfold tP
  rw [grf_parents, upd_ne h]
set_option maxRecDepth 100000 in
set_option maxHeartbeats 4000000 in
theorem grf_tD {k : Nat} (h : k ≠ s.count) : tD (grf s par κ g) k = tD s k := by
  unfold tD
  rw [grf_depths, upd_ne h]
set_option maxRecDepth 100000 in
set_option maxHeartbeats 4000000 in
theorem dIn_le (hT : T0 s) (hp : ∀ q, par = some q → q < s.count) : dIn s par ≤ s.count := by
  cases par with
  | none => exact Nat.zero_le _
  | some q =>
    have h1 := hp q rfl
    have h2 := (T0_dep hT h1).2
    show tD s q + 1 ≤ _
    omega
set_option maxRecDepth 100000 in
set_option maxHeartbeats 4000000 in
theorem grf_tDn (hT : T0 s) (hp : ∀ q, par = some q → q < s.count) : tD (grf s par κ g) s.count = dIn s par := by
  have h1 := dIn_le hT hp
  have h2 := hT.1
  unfold tD
  rw [grf_depths, upd_same, zI_nat (by omega)]
set_option maxRecDepth 100000 in
set_option maxHeartbeats 4000000 in
theorem T0_grow (hT : T0 s) (hN : s.count < 200) (hp : ∀ q, par = some q → q < s.count) (h0 : par = none → s.count = 0 ∧ κ = 0) (h1 : ∀ q, par = some q → κ ≠ 0) : T0 (grf s par κ g) := by
  have hdl := dIn_le hT hp
  refine ⟨by rw [grf_count]; omega, ?_, ?_⟩
  · intro k hk
    rw [grf_count] at hk
    rw [grf_tK, grf_kinds]
    by_cases hkN : k = s.count
    · rw [if_pos hkN, hkN, upd_same]
      refine ⟨rfl, ?_⟩
      cases par with
      | none => have := h0 rfl; exact ⟨fun _ => this.1, fun _ => this.2⟩
      | some q =>
        have a1 := hp q rfl
        have a2 := h1 q rfl
        exact ⟨fun h => absurd h a2, fun h => absurd h (by omega)⟩
    · rw [if_neg hkN, upd_ne hkN]
      exact hT.2.1 k (by omega)
  · intro k hk
    rw [grf_count] at hk
    by_cases hkN : k = s.count
    · rw [hkN]
      cases par with
      | none =>
        left
        have a := h0 rfl
        refine ⟨a.1, ?_, ?_⟩
        · rw [grf_parents, upd_same]; rfl
        · rw [grf_depths, upd_same]; rfl
      | some q =>
        right
        have a1 := hp q rfl
        have e : tP (grf s (some q) κ g) s.count = q := by
          unfold tP
          rw [grf_parents, upd_same]
          exact zI_nat (by omega)
        have h6 := (T0_dep hT a1).2
        rw [e, grf_parents, upd_same, grf_depths, upd_same, grf_tD (by omega), grf_tDn hT hp]
        refine ⟨by omega, rfl, a1, rfl, ?_⟩
        show tD s q + 1 < _
        omega
    · have hk2 : k < s.count := by omega
      rw [grf_parents, upd_ne hkN, grf_depths, upd_ne hkN, grf_tP hkN, grf_tD hkN]
      cases hT.2.2 k hk2 with
      | inl h => exact Or.inl h
      | inr h =>
        right
        have h6 := h.2.2.1
        rw [grf_tD (show tP s k ≠ s.count by omega)]
        exact h
set_option maxRecDepth 100000 in
set_option maxHeartbeats 4000000 in
theorem TL_grow (hT : T0 s) (hL : TL s) (hN : s.count < 200) (hp : ∀ q, par = some q → q < s.count) (h0 : par = none → s.count = 0) : TL (grf s par κ g) := by
  have hpar : ∀ k, k < s.count → s.parents k = -1 ∨ ∃ q, q < k ∧ s.parents k = zI q := by
    intro k hk
    cases hT.2.2 k hk with
    | inl h => exact Or.inl h.2.1
    | inr h => exact Or.inr ⟨tP s k, h.2.2.1, h.2.1⟩
  cases par with
  | none =>
    have hc := h0 rfl
    intro k hk
    rw [grf_count, hc] at hk
    have hk0 : k = 0 := by omega
    subst hk0
    rw [grf_count, grf_firsts, grf_lasts, grf_nexts, grf_parents]
    unfold hgA enc
    simp only [hc, upd_same]
    refine ⟨rfl, rfl, Or.inl ⟨trivial, fun i hi => ?_⟩⟩
    have hi0 : i = 0 := by omega
    rw [hi0, upd_same]
    decide
  | some q =>
    have hq := hp q rfl
    have hNe : ∀ k, k < s.count → zI q ≠ zI k ∨ q = k := by
      intro k hk
      by_cases e : q = k
      · exact Or.inr e
      · left; intro h; rw [zI_inj (by omega) (by omega)] at h; exact e h
    -- what a search over one object more finds
    have hS : ∀ x k, k < s.count → ((∃ a, k + 1 ≤ a ∧ a < s.count ∧ s.parents a = x) → chF (upd s.parents s.count (zI q)) x (s.count + 1 - (k + 1)) (k + 1) = chF s.parents x (s.count - (k + 1)) (k + 1)) ∧ ((¬ ∃ a, k + 1 ≤ a ∧ a < s.count ∧ s.parents a = x) → chF (upd s.parents s.count (zI q)) x (s.count + 1 - (k + 1)) (k + 1) = if zI q = x then zI s.count else -1) := by
      intro x k hk
      have h := chF_app (P := upd s.parents s.count (zI q)) (x := x) (s.count - (k + 1)) (k + 1)
      rw [show k + 1 + (s.count - (k + 1)) = s.count by omega, upd_same, chF_congr (Q := s.parents) (s.count - (k + 1)) (k + 1) (fun a h1 h2 => upd_ne (by omega))] at h
      rw [show s.count + 1 - (k + 1) = (s.count - (k + 1)) + 1 by omega]
      refine ⟨fun ⟨a, h1, h2, h3⟩ => h.1 ⟨a, h1, h2, by rw [upd_ne (by omega)]; exact h3⟩, fun hno => h.2 (fun ⟨a, h1, h2, h3⟩ => hno ⟨a, h1, h2, by rw [upd_ne (by omega)] at h3; exact h3⟩)⟩
    have hgS : hgA s s.count (some q) = if s.lasts q = -1 then (upd (upd s.firsts s.count (-1)) q (zI s.count), upd (upd s.lasts s.count (-1)) q (zI s.count), upd s.nexts s.count (-1)) else (upd s.firsts s.count (-1), upd (upd s.lasts s.count (-1)) q (zI s.count), upd (upd s.nexts s.count (-1)) (s.lasts q).toNatClampNeg (zI s.count)) := rfl
    have hold : ∀ x k, k < s.count → (¬ ∃ a, k + 1 ≤ a ∧ a < s.count ∧ s.parents a = x) → chF s.parents x (s.count - (k + 1)) (k + 1) = -1 := by
      intro x k hk hno
      exact chF_none _ _ (fun a h1 h2 h3 => hno ⟨a, h1, by omega, h3⟩)
    intro k hk
    rw [grf_count] at hk
    rw [grf_count, grf_firsts, grf_lasts, grf_nexts, grf_parents]
    by_cases hkN : k = s.count
    · -- the new one has none
      subst hkN
      have hup : ∀ f : Nat → Int32, upd (upd f s.count (-1)) q (zI s.count) s.count = -1 := fun f => by rw [upd_ne (by omega), upd_same]
      have hl : (hgA s s.count (some q)).1 s.count = -1 ∧ (hgA s s.count (some q)).2.1 s.count = -1 ∧ (hgA s s.count (some q)).2.2 s.count = -1 := by
        rw [hgS]
        by_cases hl : s.lasts q = -1
        · rw [if_pos hl]; exact ⟨hup _, hup _, upd_same _ _ _⟩
        · rw [if_neg hl]
          refine ⟨upd_same _ _ _, hup _, ?_⟩
          cases TL_a hL q hq with
          | inl h => exact absurd h hl
          | inr h =>
            obtain ⟨c, h1, h2⟩ := h
            show upd (upd s.nexts s.count (-1)) (s.lasts q).toNatClampNeg (zI s.count) s.count = -1
            rw [h2, zI_nat (by omega), upd_ne (by omega), upd_same]
      rw [hl.1, hl.2.1, hl.2.2, Nat.sub_self]
      refine ⟨rfl, rfl, Or.inl ⟨rfl, fun i hi => ?_⟩⟩
      by_cases hi2 : i = s.count
      · rw [hi2, upd_same]
        intro h
        have h' : zI q = zI s.count := h
        rw [zI_inj (by omega) (by omega)] at h'
        omega
      · rw [upd_ne hi2]
        cases hpar i (by omega) with
        | inl h => rw [h]; intro h2; rw [zI_1n (by omega)] at h2; exact h2
        | inr h =>
          obtain ⟨p', h1, h2⟩ := h
          rw [h2]
          intro h3
          rw [zI_inj (by omega) (by omega)] at h3
          omega
    · have hk2 : k < s.count := by omega
      obtain ⟨f1, f2, f3⟩ := hL k hk2
      show (hgA s s.count (some q)).1 k = chF (upd s.parents s.count (zI q)) (zI k) (s.count + 1 - (k + 1)) (k + 1) ∧ (hgA s s.count (some q)).2.2 k = chF (upd s.parents s.count (zI q)) (upd s.parents s.count (zI q) k) (s.count + 1 - (k + 1)) (k + 1) ∧ _
      rw [upd_ne hkN]
      have hkids : (∃ a, k + 1 ≤ a ∧ a < s.count ∧ s.parents a = zI k) ↔ s.lasts k ≠ -1 := by
        constructor
        · intro ⟨a, h1, h2, h3⟩ h4
          cases f3 with
          | inl h => exact h.2 a h2 h3
          | inr h => obtain ⟨c, g1, g2, _⟩ := h; rw [g2, zI_ne1 (by omega)] at h4; exact h4
        · intro h4
          cases f3 with
          | inl h => exact absurd h.1 h4
          | inr h =>
            obtain ⟨c, g1, g2, g3, _⟩ := h
            refine ⟨c, ?_, g1, g3⟩
            cases hpar c g1 with
            | inl h => rw [h, zI_1n (by omega)] at g3; exact absurd g3 not_false
            | inr h =>
              obtain ⟨p', h1, h2⟩ := h
              rw [h2, zI_inj (by omega) (by omega)] at g3
              omega
      refine ⟨?_, ?_, ?_⟩
      · -- firsts
        rw [hgS]
        by_cases hl : s.lasts q = -1
        · rw [if_pos hl]
          show upd (upd s.firsts s.count (-1)) q (zI s.count) k = _
          by_cases hqk : k = q
          · subst hqk
            rw [upd_same, (hS _ k hk2).2 (fun h => (hkids.mp h) hl), if_pos rfl]
          · rw [upd_ne hqk, upd_ne hkN, f1]
            by_cases hex : ∃ a, k + 1 ≤ a ∧ a < s.count ∧ s.parents a = zI k
            · rw [(hS _ k hk2).1 hex]
            · rw [(hS _ k hk2).2 hex, if_neg (show ¬ zI q = zI k by intro h; rw [zI_inj (by omega) (by omega)] at h; omega)]
              exact hold _ k hk2 hex
        · rw [if_neg hl]
          show upd s.firsts s.count (-1) k = _
          rw [upd_ne hkN, f1]
          by_cases hex : ∃ a, k + 1 ≤ a ∧ a < s.count ∧ s.parents a = zI k
          · rw [(hS _ k hk2).1 hex]
          · rw [(hS _ k hk2).2 hex, hold _ k hk2 hex, if_neg]
            intro h
            rw [zI_inj (by omega) (by omega)] at h
            subst h
            exact hex (hkids.mpr hl)
      · -- nexts
        have hnx : (hgA s s.count (some q)).2.2 k = if s.lasts q = zI k then zI s.count else s.nexts k := by
          rw [hgS]
          by_cases hl : s.lasts q = -1
          · rw [if_pos hl]
            show upd s.nexts s.count (-1) k = _
            rw [upd_ne hkN, if_neg (by rw [hl, zI_1n (by omega)]; exact not_false)]
          · rw [if_neg hl]
            show upd (upd s.nexts s.count (-1)) (s.lasts q).toNatClampNeg (zI s.count) k = _
            cases TL_a hL q hq with
            | inl h => exact absurd h hl
            | inr h =>
              obtain ⟨c, h1, h2⟩ := h
              rw [h2, zI_nat (by omega)]
              by_cases hck : k = c
              · rw [hck, upd_same, if_pos rfl]
              · rw [upd_ne hck, upd_ne hkN, if_neg (by rw [zI_inj (by omega) (by omega)]; omega)]
        rw [hnx]
        by_cases hlk : s.lasts q = zI k
        · rw [if_pos hlk]
          cases (hL q hq).2.2 with
          | inl h => rw [h.1, zI_1n (by omega)] at hlk; exact absurd hlk not_false
          | inr h =>
            obtain ⟨c, g1, g2, g3, g4⟩ := h
            rw [g2, zI_inj (by omega) (by omega)] at hlk
            subst hlk
            rw [(hS _ _ hk2).2 (by intro ⟨a, h1, h2, h3⟩; rw [g3] at h3; exact g4 a (by omega) h2 h3), if_pos g3.symm]
        · rw [if_neg hlk, f2]
          by_cases hno : ∃ a, k + 1 ≤ a ∧ a < s.count ∧ s.parents a = s.parents k
          · rw [(hS _ k hk2).1 hno]
          · rw [(hS _ k hk2).2 hno, hold _ k hk2 hno, if_neg]
            intro h
            -- k is in q, and nothing behind it: it is the last
            cases (hL q hq).2.2 with
            | inl h2 => exact h2.2 k hk2 h.symm
            | inr h2 =>
              obtain ⟨c, g1, g2, g3, g4⟩ := h2
              by_cases hck : c = k
              · exact hlk (by rw [g2, hck])
              · by_cases hlt : c < k
                · exact g4 k hlt hk2 h.symm
                · exact hno ⟨c, by omega, g1, by rw [g3, h]⟩
      · -- lasts
        have hls : (hgA s s.count (some q)).2.1 k = if k = q then zI s.count else s.lasts k := by
          have e : ∀ f : Nat → Int32, upd (upd f s.count (-1)) q (zI s.count) k = if k = q then zI s.count else f k := by
            intro f
            by_cases hqk : k = q
            · rw [if_pos hqk, hqk, upd_same]
            · rw [if_neg hqk, upd_ne hqk, upd_ne hkN]
          rw [hgS]
          by_cases hl : s.lasts q = -1
          · rw [if_pos hl]; exact e _
          · rw [if_neg hl]; exact e _
        rw [hls]
        by_cases hqk : k = q
        · right
          refine ⟨s.count, by omega, by rw [if_pos hqk], by rw [upd_same, hqk]; rfl, fun i h1 h2 => by omega⟩
        · rw [if_neg hqk]
          have hnew : upd s.parents s.count (zI q) s.count ≠ zI k := by
            rw [upd_same]; intro h; rw [zI_inj (by omega) (by omega)] at h; omega
          cases f3 with
          | inl h =>
            left
            refine ⟨h.1, fun i hi => ?_⟩
            by_cases hiN : i = s.count
            · rw [hiN]; exact hnew
            · show upd s.parents s.count (zI q) i ≠ _
              rw [upd_ne hiN]; exact h.2 i (by omega)
          | inr h =>
            obtain ⟨c, g1, g2, g3, g4⟩ := h
            right
            refine ⟨c, by omega, g2, ?_, fun i h1 h2 => ?_⟩
            · show upd s.parents s.count (zI q) c = _
              rw [upd_ne (by omega)]; exact g3
            · by_cases hiN : i = s.count
              · rw [hiN]; exact hnew
              · show upd s.parents s.count (zI q) i ≠ _
                rw [upd_ne hiN]; exact g4 i h1 (by omega)
set_option maxRecDepth 100000 in
set_option maxHeartbeats 4000000 in
/-- an object more leaves a tree a tree -/
theorem TG_grow (hG : TG s) (hN : s.count < 200) (hp : ∀ q, par = some q → q < s.count) (h0 : par = none → s.count = 0 ∧ κ = 0) (h1 : ∀ q, par = some q → κ ≠ 0 ∧ tK s q ≠ 9) : TG (grf s par κ g) := by
  obtain ⟨g1, g2, ⟨g3, gP⟩, g4, g5, g6, g7⟩ := hG
  refine ⟨T0_grow g1 hN hp h0 (fun q h => (h1 q h).1), TL_grow g1 g2 hN hp (fun h => (h0 h).1), ⟨?_, ?_⟩, ?_, ?_, ?_, ?_⟩
  · rw [grf_deepest, grf_count]
    show _ = max (mxD (grf s par κ g) s.count) (tD (grf s par κ g) s.count + 1)
    rw [grf_tDn g1 hp, mxD_congr (s := s) s.count (fun i hi => by rw [grf_depths, upd_ne (by omega)]), g3]
  · intro k hk0 hk
    rw [grf_count] at hk
    by_cases hkN : k = s.count
    · cases par with
      | none => exact absurd (h0 rfl).1 (by omega)
      | some q =>
        have hq := hp q rfl
        have e : tP (grf s (some q) κ g) k = q := by
          unfold tP
          rw [grf_parents, hkN, upd_same]
          exact zI_nat (by omega)
        rw [e, grf_tK, if_neg (by omega)]
        exact (h1 q rfl).2
    · have hkl : k < s.count := by omega
      have hpl : tP s k < s.count := by
        cases g1.2.2 k hkl with
        | inl h => omega
        | inr h => have := h.2.2.1; omega
      rw [grf_tP hkN, grf_tK, if_neg (by omega)]
      exact gP k hk0 hkl
  · rw [grf_kc]; exact g4
  · rw [grf_kc, grf_count]
    show smK (grf s par κ g) s.count + ((grf s par κ g).ksz s.count).toNatClampNeg = _
    rw [smK_congr (s := s) s.count (fun i hi => by rw [grf_ksz, upd_ne (by omega)]), grf_ksz, upd_same, g5]
    rfl
  · intro k hk
    rw [grf_count] at hk
    rw [grf_kfrom, grf_ksz, grf_kc, grf_tK]
    by_cases hkN : k = s.count
    · rw [hkN, upd_same, upd_same]
      exact ⟨0, 0, rfl, rfl, by omega, fun _ => rfl⟩
    · rw [upd_ne hkN, upd_ne hkN, if_neg hkN]
      exact g6 k (by omega)
  · rw [grf_kc, grf_kept]; exact g7
end GR
