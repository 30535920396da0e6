/-! the questions -/
set_option maxRecDepth 100000 in
set_option maxHeartbeats 4000000 in
theorem zI_of {x : Int32} (h : ¬ x < 0) : x = zI x.toNatClampNeg ∧ x.toNatClampNeg < 2147483648 := by
  rw [Int32.lt_iff_toInt_lt] at h
  have e0 : (0 : Int32).toInt = 0 := rfl
  rw [e0] at h
  have h2 := x.toInt_lt
  have e : x.toNatClampNeg = x.toInt.toNat := rfl
  refine ⟨?_, by rw [e]; omega⟩
  apply Int32.toInt_inj.mp
  rw [zI_toInt (by rw [e]; omega), e]
  omega
section QRY
variable {uX uS uV uP u bT : Md} {s : Tst} {r : Rst}
set_option maxRecDepth 100000 in
set_option maxHeartbeats 4000000 in
theorem ob_cases (x : Int32) (hN : s.count ≤ 200) (h4 : gi u 4 = zI s.count) : (∃ k, k < s.count ∧ x = zI k ∧ fx_X7_has (yY bT s) x = some 1 ∧ f9_isObject (wW u r) x = some 1) ∨ (fx_X7_has (yY bT s) x = some 0 ∧ f9_isObject (wW u r) x = some 0) := by
  unfold fx_X7_has f9_isObject
  rw [yY_13, wW_4, h4]
  by_cases h0 : x < 0
  · right; rw [if_pos h0]; exact ⟨rfl, rfl⟩
  · rw [if_neg h0]
    obtain ⟨e, hlt⟩ := zI_of h0
    generalize x.toNatClampNeg = k at e hlt
    subst e
    by_cases hk : k < s.count
    · left
      have hz : ¬ zI s.count ≤ zI k := by rw [zI_le (by omega) (by omega)]; omega
      rw [if_neg hz]
      exact ⟨k, hk, rfl, rfl, rfl⟩
    · right
      have hz : zI s.count ≤ zI k := by rw [zI_le (by omega) (by omega)]; omega
      rw [if_pos hz]
      exact ⟨rfl, rfl⟩
/-- where a field of its sort stands -/
def spR (κ : Fin 10) (b : Bool) (w : Nat) : Nat → Nat → Int32
  | 0, _ => -1
  | j + 1, i => if decide (fSort (ffK κ i) = 0) = b ∧ ahd κ b i = w then zI i else spR κ b w j (i + 1)
theorem spR_s (κ : Fin 10) (b : Bool) (w j i : Nat) : spR κ b w (j + 1) i = if decide (fSort (ffK κ i) = 0) = b ∧ ahd κ b i = w then zI i else spR κ b w j (i + 1) := id rfl
set_option maxRecDepth 100000 in
set_option maxHeartbeats 4000000 in
theorem spR_cases (κ : Fin 10) (b : Bool) (w : Nat) : ∀ j i, (spR κ b w j i = -1) ∨ ∃ a, i ≤ a ∧ a < i + j ∧ spR κ b w j i = zI a ∧ decide (fSort (ffK κ a) = 0) = b ∧ ahd κ b a = w
  | 0, _ => Or.inl rfl
  | j + 1, i => by
    rw [spR_s]
    by_cases h : decide (fSort (ffK κ i) = 0) = b ∧ ahd κ b i = w
    · rw [if_pos h]; exact Or.inr ⟨i, by omega, by omega, rfl, h.1, h.2⟩
    · rw [if_neg h]
      cases spR_cases κ b w j (i + 1) with
      | inl h1 => exact Or.inl h1
      | inr h1 =>
        obtain ⟨a, a1, a2, a3⟩ := h1
        exact Or.inr ⟨a, by omega, by omega, a3⟩
set_option maxRecDepth 100000 in
set_option maxHeartbeats 4000000 in
theorem ahd_le (κ : Fin 10) (b : Bool) : ∀ i, ahd κ b i ≤ i
  | 0 => Nat.le_refl _
  | i + 1 => by
    have := ahd_le κ b i
    show ahd κ b i + (if decide (fSort (ffK κ i) = 0) = b then 1 else 0) ≤ i + 1
    split <;> omega
set_option maxRecDepth 100000 in
set_option maxHeartbeats 4000000 in
theorem t_len (κ : Fin 10) : fx_J0_length (kShape κ) = some (zI (nfK κ)) := by revert κ; decide
set_option maxRecDepth 100000 in
set_option maxHeartbeats 4000000 in
theorem p_spot {κ : Fin 10} {b : Bool} {x : Int32} {w : Nat} (hx : x = zI w ∧ w < 2147483648) : ∀ j i F, nfK κ - i = j → i ≤ nfK κ → j < F → fx_X2_spotOf_5 F κ (bI b) x (zI (ahd κ b i)) (zI i) = some (spR κ b w j i) := by
  have h5 := nf_le κ
  intro j
  induction j with
  | zero =>
    intro i F hj hi hF
    obtain ⟨F, rfl⟩ : ∃ F', F = F' + 1 := ⟨F - 1, by omega⟩
    rw [fx_X2_spotOf_5, t_len]
    simp only [Option.bind_some]
    rw [if_pos (by rw [zI_le (by omega) (by omega)]; omega)]
    rfl
  | succ j ih =>
    intro i F hj hi hF
    obtain ⟨F, rfl⟩ : ∃ F', F = F' + 1 := ⟨F - 1, by omega⟩
    have hal := ahd_le κ b i
    rw [fx_X2_spotOf_5, t_len]
    simp only [Option.bind_some]
    rw [if_neg (by rw [zI_le (by omega) (by omega)]; omega), t_fieldAt κ i (by omega)]
    simp only [Option.bind_some]
    rw [t_isText, spR_s]
    simp only [Option.bind_some]
    unfold fx_X2_spotOf_41
    have ih2 := ih (i + 1) F (by omega) (by omega) (by omega)
    by_cases hb : decide (fSort (ffK κ i) = 0) = b
    · rw [if_pos (by rw [hb])]
      have ha : ahd κ b (i + 1) = ahd κ b i + 1 := by
        show ahd κ b i + (if decide (fSort (ffK κ i) = 0) = b then 1 else 0) = _
        rw [if_pos hb]
      rw [ha] at ih2
      by_cases hw : ahd κ b i = w
      · rw [if_pos (by rw [hx.1, hw]), if_pos ⟨hb, hw⟩]
      · rw [if_neg (by rw [hx.1, zI_inj (by omega) hx.2]; exact hw), if_neg (fun h => hw h.2), zI_one, zI_one]
        exact ih2
    · have ha : ahd κ b (i + 1) = ahd κ b i := by
        show ahd κ b i + (if decide (fSort (ffK κ i) = 0) = b then 1 else 0) = _
        rw [if_neg hb]; rfl
      rw [ha] at ih2
      rw [if_neg (by
        intro h
        apply hb
        revert h
        cases b <;> cases decide (fSort (ffK κ i) = 0) <;> decide), if_neg (fun h => hb h.1), zI_one]
      exact ih2
set_option maxRecDepth 100000 in
set_option maxHeartbeats 4000000 in
theorem p_spotN {κ : Fin 10} {b : Bool} {x : Int32} (hx : x < 0) : ∀ j i F, nfK κ - i = j → i ≤ nfK κ → j < F → fx_X2_spotOf_5 F κ (bI b) x (zI (ahd κ b i)) (zI i) = some (-1) := by
  have h5 := nf_le κ
  intro j
  induction j with
  | zero =>
    intro i F hj hi hF
    obtain ⟨F, rfl⟩ : ∃ F', F = F' + 1 := ⟨F - 1, by omega⟩
    rw [fx_X2_spotOf_5, t_len]
    simp only [Option.bind_some]
    rw [if_pos (by rw [zI_le (by omega) (by omega)]; omega)]
  | succ j ih =>
    intro i F hj hi hF
    obtain ⟨F, rfl⟩ : ∃ F', F = F' + 1 := ⟨F - 1, by omega⟩
    have hal := ahd_le κ b i
    rw [fx_X2_spotOf_5, t_len]
    simp only [Option.bind_some]
    rw [if_neg (by rw [zI_le (by omega) (by omega)]; omega), t_fieldAt κ i (by omega)]
    simp only [Option.bind_some]
    rw [t_isText]
    simp only [Option.bind_some]
    unfold fx_X2_spotOf_41
    have ih2 := ih (i + 1) F (by omega) (by omega) (by omega)
    by_cases hb : decide (fSort (ffK κ i) = 0) = b
    · rw [if_pos (by rw [hb])]
      have ha : ahd κ b (i + 1) = ahd κ b i + 1 := by
        show ahd κ b i + (if decide (fSort (ffK κ i) = 0) = b then 1 else 0) = _
        rw [if_pos hb]
      rw [ha] at ih2
      rw [if_neg (by intro h; rw [← h, zI_neg (by omega)] at hx; exact hx), zI_one, zI_one]
      exact ih2
    · have ha : ahd κ b (i + 1) = ahd κ b i := by
        show ahd κ b i + (if decide (fSort (ffK κ i) = 0) = b then 1 else 0) = _
        rw [if_neg hb]; rfl
      rw [ha] at ih2
      rw [if_neg (by
        intro h
        apply hb
        revert h
        cases b <;> cases decide (fSort (ffK κ i) = 0) <;> decide), zI_one]
      exact ih2
set_option maxRecDepth 100000 in
set_option maxHeartbeats 4000000 in
theorem t_field0 (κ : Fin 10) : f9_field (zI κ.val) (zI (nfK κ)) = some 0 := by revert κ; decide
set_option maxRecDepth 100000 in
set_option maxHeartbeats 4000000 in
theorem q_spot {κ : Fin 10} {b : Bool} {x : Int32} {w : Nat} (hx : x = zI w ∧ w < 2147483648) : ∀ j i F, nfK κ - i = j → i ≤ nfK κ → j < F → ahd κ b i ≤ w → f9_fieldOf_5 F (zI κ.val) x (bI b) (zI (w - ahd κ b i)) (zI i) = some (spR κ b w j i) := by
  have h5 := nf_le κ
  intro j
  induction j with
  | zero =>
    intro i F hj hi hF haw
    obtain ⟨F, rfl⟩ : ∃ F', F = F' + 1 := ⟨F - 1, by omega⟩
    have e : i = nfK κ := by omega
    subst e
    rw [f9_fieldOf_5, t_field0]
    simp only [Option.bind_some]
    rw [if_pos trivial]
    rfl
  | succ j ih =>
    intro i F hj hi hF haw
    obtain ⟨F, rfl⟩ : ∃ F', F = F' + 1 := ⟨F - 1, by omega⟩
    have hal := ahd_le κ b i
    have hf : ∃ y, f9_field (zI κ.val) (zI i) = some y ∧ ¬ y = 0 ∧ (if y = 3 then (1 : Int32) else 0) = bI (decide (fSort (ffK κ i) = 0)) := by
      rw [t_field κ i (by omega)]
      by_cases h : fSort (ffK κ i) = 0
      · rw [if_pos h, decide_eq_true h]; exact ⟨3, rfl, by decide, rfl⟩
      · rw [if_neg h, decide_eq_false h]
        by_cases h1 : fSort (ffK κ i) = 1
        · rw [if_pos h1]; exact ⟨1, rfl, by decide, rfl⟩
        · rw [if_neg h1]; exact ⟨2, rfl, by decide, rfl⟩
    obtain ⟨y, hy1, hy2, hy3⟩ := hf
    rw [f9_fieldOf_5, hy1]
    simp only [Option.bind_some]
    rw [if_neg hy2, if_neg (by rw [hx.1, zI_neg hx.2]; exact not_false), spR_s]
    have h33 : (if y = 3 then f9_fieldOf_33 (f9_fieldOf_5 F) (zI κ.val) x (bI b) (zI (w - ahd κ b i)) (zI i) 1 else f9_fieldOf_33 (f9_fieldOf_5 F) (zI κ.val) x (bI b) (zI (w - ahd κ b i)) (zI i) 0) = f9_fieldOf_33 (f9_fieldOf_5 F) (zI κ.val) x (bI b) (zI (w - ahd κ b i)) (zI i) (bI (decide (fSort (ffK κ i) = 0))) := by
      rw [← hy3]
      by_cases h : y = 3
      · rw [if_pos h, if_pos h]
      · rw [if_neg h, if_neg h]
    rw [h33]
    unfold f9_fieldOf_33 f9_fieldOf_50
    by_cases hb : decide (fSort (ffK κ i) = 0) = b
    · rw [if_pos (by rw [hb])]
      have ha : ahd κ b (i + 1) = ahd κ b i + 1 := by
        show ahd κ b i + (if decide (fSort (ffK κ i) = 0) = b then 1 else 0) = _
        rw [if_pos hb]
      by_cases hw : ahd κ b i = w
      · rw [if_pos (show zI (w - ahd κ b i) = 0 by rw [zI_z (by omega)]; omega), if_pos ⟨hb, hw⟩]
      · have ih2 := ih (i + 1) F (by omega) (by omega) (by omega) (by omega)
        rw [ha] at ih2
        have e : zI (w - ahd κ b i) + -1 = zI (w - (ahd κ b i + 1)) := by
          rw [show (-1 : Int32) = -(zI 1) from rfl, ← Int32.sub_eq_add_neg, zI_sub (by omega) (by omega), Nat.sub_sub]
        rw [if_neg (show ¬ (zI (w - ahd κ b i) = 0) by rw [zI_z (by omega)]; omega), if_neg (fun h => hw h.2), zI_one, e]
        exact ih2
    · have ha : ahd κ b (i + 1) = ahd κ b i := by
        show ahd κ b i + (if decide (fSort (ffK κ i) = 0) = b then 1 else 0) = _
        rw [if_neg hb]; rfl
      have ih2 := ih (i + 1) F (by omega) (by omega) (by omega) (by omega)
      rw [ha] at ih2
      rw [if_neg (by
        intro h
        apply hb
        revert h
        cases b <;> cases decide (fSort (ffK κ i) = 0) <;> decide), if_neg (fun h => hb h.1), zI_one]
      exact ih2
set_option maxRecDepth 100000 in
set_option maxHeartbeats 4000000 in
/-- both find the same field, or none -/
theorem sp_cases (κ : Fin 10) (b : Bool) (x : Int32) : (∃ w i, w < cntK κ b ∧ x = zI w ∧ i < nfK κ ∧ decide (fSort (ffK κ i) = 0) = b ∧ ahd κ b i = w ∧ fx_X2_spotOf κ (bI b) x = some (zI i) ∧ f9_fieldOf (zI κ.val) x (bI b) = some (zI i)) ∨ (fx_X2_spotOf κ (bI b) x = some (-1) ∧ f9_fieldOf (zI κ.val) x (bI b) = some (-1)) := by
  have h5 := nf_le κ
  unfold fx_X2_spotOf f9_fieldOf
  have hFU : 10 < FU := by unfold FU; omega
  generalize FU = FF at hFU ⊢
  by_cases h0 : x < 0
  · right
    refine ⟨p_spotN h0 (nfK κ) 0 FF rfl (by omega) (by omega), ?_⟩
    obtain ⟨F, rfl⟩ : ∃ F', FF = F' + 1 := ⟨FF - 1, by omega⟩
    have hall : ∀ κ : Fin 10, (f9_field (zI κ.val) 0).isSome = true := by decide
    obtain ⟨y, hy⟩ := Option.isSome_iff_exists.mp (hall κ)
    rw [f9_fieldOf_5, hy]
    simp only [Option.bind_some]
    rw [if_pos h0]
    split <;> rfl
  · obtain ⟨e, hlt⟩ := zI_of h0
    generalize x.toNatClampNeg = w at e hlt
    have hp := p_spot (κ := κ) (b := b) ⟨e, hlt⟩ (nfK κ) 0 FF rfl (by omega) (by omega)
    have hq := q_spot (κ := κ) (b := b) ⟨e, hlt⟩ (nfK κ) 0 FF rfl (by omega) (by omega) (Nat.zero_le _)
    have hp' : fx_X2_spotOf_5 FF κ (bI b) x 0 0 = some (spR κ b w (nfK κ) 0) := hp
    have hq' : f9_fieldOf_5 FF (zI κ.val) x (bI b) (zI w) 0 = some (spR κ b w (nfK κ) 0) := hq
    rw [← e] at hq'
    rw [hp', hq']
    cases spR_cases κ b w (nfK κ) 0 with
    | inl h => right; rw [h]; exact ⟨rfl, rfl⟩
    | inr h =>
      left
      obtain ⟨a, a1, a2, a3, a4, a5⟩ := h
      rw [a3]
      refine ⟨w, a, ?_, e, by omega, a4, a5, rfl, rfl⟩
      have hl := ahd_lt κ a (by omega)
      rw [a4, a5] at hl
      exact hl
end QRY
