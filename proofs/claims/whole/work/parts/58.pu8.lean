/-! values read alike -/
set_option maxRecDepth 100000 in
set_option maxHeartbeats 4000000 in
theorem NR_ok {t : Nat → Int32} {n p : Nat} {len : Bool} {lo hi : Int64} (hp : p ≤ n) : match NR t n len lo hi p with
  | .inl e => e ≤ n + 20
  | .inr q => p < q.1 ∧ q.1 ≤ n ∧ ¬ lg_cmp q.2 lo < 0 ∧ ¬ 0 < lg_cmp q.2 hi := by
  have hNF : ∀ q v, p < q → q ≤ n → match NF lo hi p q v with
      | .inl e => e ≤ n + 20
      | .inr q => p < q.1 ∧ q.1 ≤ n ∧ ¬ lg_cmp q.2 lo < 0 ∧ ¬ 0 < lg_cmp q.2 hi := by
    intro q v h1 h2
    unfold NF
    by_cases h3 : lg_cmp v lo < 0
    · rw [if_pos h3]; show p ≤ n + 20; omega
    · rw [if_neg h3]
      by_cases h4 : 0 < lg_cmp v hi
      · rw [if_pos h4]; show p ≤ n + 20; omega
      · rw [if_neg h4]; exact ⟨h1, h2, h3, h4⟩
  have hdE : ∀ a m, dE t n a m ≠ a → dE t n a m ≤ n ∧ a < dE t n a m := by
    intro a m h
    have h1 := @dE_ge t n a m
    refine ⟨?_, by omega⟩
    by_cases ha : a ≤ n
    · exact (@dE_le t n a m).2 ha
    · exfalso; apply h
      unfold dE
      rw [show n - a = 0 by omega, Nat.min_zero]; rfl
  have hNB : ∀ neg a, p ≤ a → a ≤ n + 1 → match NB t n neg len lo hi p a with
      | .inl e => e ≤ n + 20
      | .inr q => p < q.1 ∧ q.1 ≤ n ∧ ¬ lg_cmp q.2 lo < 0 ∧ ¬ 0 < lg_cmp q.2 hi := by
    intro neg a h1 h1b
    have h2 := (@dE_le t n a 4).1
    unfold NB
    by_cases hb : dE t n a 4 = a ∨ isD (cAt t n (dE t n a 4)) = true
    · rw [if_pos hb]; show dE t n a 4 ≤ n + 20; omega
    · rw [if_neg hb]
      have h3 := hdE a 4 (fun h => hb (Or.inl h))
      cases len with
      | false => rw [if_neg (by decide)]; exact hNF _ _ (by omega) h3.1
      | true =>
        rw [if_pos rfl]
        unfold NP
        by_cases h46 : cAt t n (dE t n a 4) = 46
        · rw [if_pos h46]
          have h4 := (@dE_le t n (dE t n a 4 + 1) 6).1
          by_cases hb2 : dE t n (dE t n a 4 + 1) 6 = dE t n a 4 + 1 ∨ isD (cAt t n (dE t n (dE t n a 4 + 1) 6)) = true
          · rw [if_pos hb2]; show dE t n (dE t n a 4 + 1) 6 ≤ n + 20; omega
          · rw [if_neg hb2]
            have h5 := hdE (dE t n a 4 + 1) 6 (fun h => hb2 (Or.inl h))
            exact hNF _ _ (by omega) h5.1
        · rw [if_neg h46]; exact hNF _ _ (by omega) h3.1
  unfold NR
  by_cases h45 : cAt t n p = 45
  · rw [if_pos h45]; exact hNB true (p + 1) (by omega) (by omega)
  · rw [if_neg h45]; exact hNB false p (by omega) (by omega)
/-- the texts and the numbers that the objects have are what they may be -/
def TX (s : Tst) : Prop := ∀ j, j < s.count * 2 → ∃ z, z ≤ 40 ∧ s.tsz j = zI z ∧ ∀ i, i < z → isT (s.marks (j * 40 + i)) = true
def TN (s : Tst) : Prop := ∀ k, k < s.count → ∀ a, a < nfK (tK s k) → fSort (ffK (tK s k) a) ≠ 0 → ¬ lg_cmp (s.nums (k * 5 + ahd (tK s k) false a)) (fLow (ffK (tK s k) a)) < 0 ∧ ¬ 0 < lg_cmp (s.nums (k * 5 + ahd (tK s k) false a)) (fHigh (ffK (tK s k) a))
/-- what the two sides hold of the objects is the same -/
def TR (s : Tst) (r : Rst) : Prop := (∀ k, k < s.count → r.kinds k = s.kinds k ∧ r.parents k = s.parents k ∧ r.ksz k = s.ksz k ∧ (tK s k = 9 → r.kfrom k = s.kfrom k)) ∧ (∀ j, j < s.count * 2 → r.tsz j = s.tsz j ∧ ∀ i, i < 40 → zI i < s.tsz j → r.chars (j * 40 + i) = s.marks (j * 40 + i)) ∧ (∀ k, k < s.count → ∀ w, w < cntK (tK s k) false → r.nums (k * 5 + w) = s.nums (k * 5 + w)) ∧ (∀ i, i < s.kc → r.kept i = s.kept i)
def SR (m : Int32) (s : Tst) (r : Rst) : Prop := TX s ∧ TN s ∧ (m ≠ 0 → TR s r)
set_option maxRecDepth 100000 in
set_option maxHeartbeats 4000000 in
theorem ahd_inj (κ : Fin 10) {a b : Nat} (ha : a < nfK κ) (hb : b < nfK κ) (ta : fSort (ffK κ a) ≠ 0) (tb : fSort (ffK κ b) ≠ 0) (h : ahd κ false a = ahd κ false b) : a = b := by
  have h5 := nf_le κ
  have hall : ∀ κ : Fin 10, ∀ a b : Fin 5, a.val < nfK κ → b.val < nfK κ → fSort (ffK κ a.val) ≠ 0 → fSort (ffK κ b.val) ≠ 0 → ahd κ false a.val = ahd κ false b.val → a.val = b.val := by decide
  exact hall κ ⟨a, by omega⟩ ⟨b, by omega⟩ ha hb ta tb h
set_option maxRecDepth 100000 in
set_option maxHeartbeats 4000000 in
/-- a number put -/
theorem SR_num {m : Int32} {s : Tst} {r : Rst} (h : SR m s r) {k i : Nat} {v : Int64} (hk : k < s.count) (hi : i < nfK (tK s k)) (ht : fSort (ffK (tK s k) i) ≠ 0) (h1 : ¬ lg_cmp v (fLow (ffK (tK s k) i)) < 0) (h2 : ¬ 0 < lg_cmp v (fHigh (ffK (tK s k) i))) (a b : Nat) (l : Int64) : SR m (s.s_nums (vp_updL s.nums (k * 5 + ahd (tK s k) false i) v)) ((((r.s_nums (if m = 0 then r.nums else vp_updL r.nums (k * 5 + ahd (tK s k) false i) v)).s_num (a)).s_words (b)).s_lnum (l)) := by
  have hlt := ahd_lt (tK s k) i hi
  rw [decide_eq_false ht] at hlt
  have hc := (cnt_le (tK s k)).2
  refine ⟨h.1, ?_, fun hm => ⟨(h.2.2 hm).1, (h.2.2 hm).2.1, ?_, (h.2.2 hm).2.2.2⟩⟩
  · intro j hj c hc1 hc2
    show ¬ lg_cmp (vp_updL s.nums (k * 5 + ahd (tK s k) false i) v (j * 5 + ahd (tK s j) false c)) (fLow (ffK (tK s j) c)) < 0 ∧ ¬ 0 < lg_cmp (vp_updL s.nums (k * 5 + ahd (tK s k) false i) v (j * 5 + ahd (tK s j) false c)) (fHigh (ffK (tK s j) c))
    have hlt2 := ahd_lt (tK s j) c hc1
    have hc1' : c < nfK (tK s j) := hc1
    have hc2' : fSort (ffK (tK s j) c) ≠ 0 := hc2
    rw [decide_eq_false hc2'] at hlt2
    have hcc := (cnt_le (tK s j)).2
    by_cases hjk : j = k
    · subst hjk
      by_cases hci : c = i
      · subst hci
        rw [updL_same]; exact ⟨h1, h2⟩
      · have hne : ahd (tK s j) false c ≠ ahd (tK s j) false i := fun e => hci (ahd_inj (tK s j) hc1' hi hc2' ht e)
        rw [updL_ne (by omega)]
        exact h.2.1 j hj c hc1' hc2'
    · rw [updL_ne (by omega)]
      exact h.2.1 j hj c hc1' hc2'
  · intro j hj w hw
    show (if m = 0 then r.nums else vp_updL r.nums (k * 5 + ahd (tK s k) false i) v) (j * 5 + w) = vp_updL s.nums (k * 5 + ahd (tK s k) false i) v (j * 5 + w)
    rw [if_neg hm, updL_at, updL_at]
    split
    · rfl
    · exact (h.2.2 hm).2.2.1 j hj w hw
set_option maxRecDepth 100000 in
set_option maxHeartbeats 4000000 in
/-- a text put -/
theorem SR_text {m : Int32} {s : Tst} {r : Rst} (h : SR m s r) {J z : Nat} {mk ch : Nat → Int32} (hJ : J < s.count * 2) (hz : z ≤ 40) (h1 : ∀ x, (x < J * 40 ∨ J * 40 + 40 ≤ x) → mk x = s.marks x ∧ ch x = r.chars x) (h2 : ∀ i, i < z → isT (mk (J * 40 + i)) = true ∧ (m ≠ 0 → ch (J * 40 + i) = mk (J * 40 + i))) (b : Nat) : SR m ((s.s_marks (mk)).s_tsz (upd s.tsz J (zI z))) (((r.s_chars (ch)).s_tsz (if m = 0 then r.tsz else upd r.tsz J (zI z))).s_words (b)) := by
  refine ⟨?_, h.2.1, fun hm => ⟨(h.2.2 hm).1, ?_, (h.2.2 hm).2.2.1, (h.2.2 hm).2.2.2⟩⟩
  · intro j hj
    show ∃ z', z' ≤ 40 ∧ upd s.tsz J (zI z) j = zI z' ∧ ∀ i, i < z' → isT (mk (j * 40 + i)) = true
    by_cases hjJ : j = J
    · subst hjJ
      exact ⟨z, hz, upd_same _ _ _, fun i hi => (h2 i hi).1⟩
    · obtain ⟨z', g1, g2, g3⟩ := h.1 j hj
      refine ⟨z', g1, by rw [upd_ne hjJ]; exact g2, fun i hi => ?_⟩
      rw [(h1 (j * 40 + i) (by omega)).1]
      exact g3 i hi
  · intro j hj
    show (if m = 0 then r.tsz else upd r.tsz J (zI z)) j = upd s.tsz J (zI z) j ∧ ∀ i, i < 40 → zI i < upd s.tsz J (zI z) j → ch (j * 40 + i) = mk (j * 40 + i)
    rw [if_neg hm]
    by_cases hjJ : j = J
    · subst hjJ
      refine ⟨by rw [upd_same, upd_same], fun i hi hlt => ?_⟩
      rw [upd_same, zI_lt (by omega) (by omega)] at hlt
      exact (h2 i hlt).2 hm
    · have g := (h.2.2 hm).2.1 j hj
      rw [upd_ne hjJ, upd_ne hjJ]
      refine ⟨g.1, fun i hi hlt => ?_⟩
      have g2 := h1 (j * 40 + i) (by omega)
      rw [g2.1, g2.2]
      exact g.2 i hi hlt
section GAP
variable {uS u bT : Md} {t : Nat → Int32} {n : Nat}
def GpO (uS u : Md) (n : Nat) (v : Int64) (r : Rst) (p : Nat) (o : Option (Int32 × Md)) (o9 : Option (Int32 × Md)) : Prop :=
  (∃ a q, o = some (0, sS uS a (zI p) v) ∧ q ≤ n + 20 ∧ o9 = some (zI q, wW u (r.s_fault (zI p)))) ∨ (∃ q, p < q ∧ q ≤ n ∧ o = some (1, sS uS q (-1) v) ∧ o9 = some (zI q, wW u r))
set_option maxRecDepth 100000 in
set_option maxHeartbeats 4000000 in
theorem gp_L (hS : SOk uS t n) (hR : ROk u t n) (v : Int64) {r : Rst} {p : Nat} (hp : p ≤ n) (hr : r.fault = -1) : GpO uS u n v r p (fx_X3_passGap_L (sS uS p (-1) v)) (f9_space (wW u r) (zI p) 0) := by
  have hn := hS.le
  unfold fx_X3_passGap_L fx_X6_passOnly fx_X6_failAt f9_space f9_space_24 f9_space_28 f9_space_29 f9_space_39
  rw [p_mark hS _ _ (by omega), q_c (wW_ok hR r) (by omega)]
  simp only [Option.bind_some, sS_1, sS_2, sS_3, sS_a, sS_l, sS_s2, sS_s3, sS_sl, zI_one]
  by_cases h : cAt t n p = 32
  · have hq : p < n := by
      apply Classical.byContradiction
      intro hh
      rw [cAt_out hh] at h
      exact absurd h (by decide)
    right
    refine ⟨p + 1, by omega, by omega, ?_, ?_⟩
    · rw [if_pos h]; rfl
    · rw [if_pos h, if_neg (by decide)]; rfl
  · left
    refine ⟨p, p + 1, ?_, by omega, ?_⟩
    · rw [if_neg h]; rfl
    · rw [if_neg h, if_pos trivial, q_fail p hr]; rfl
set_option maxRecDepth 100000 in
set_option maxHeartbeats 4000000 in
theorem gp_B (hS : SOk uS t n) (hR : ROk u t n) (v : Int64) {r : Rst} {p : Nat} (hp : p ≤ n) (hr : r.fault = -1) : GpO uS u n v r p (fx_X4_passGap_B (sS uS p (-1) v)) (f9_space (wW u r) (zI p) 1) := by
  have hn := hS.le
  have hb1 : p ≤ sk isB t n p := sk_ge
  have hb2 : sk isB t n p ≤ n := sk_le hp
  have hbl : ∀ r2 : Rst, f9_blanks (wW u r2) (zI p) = some (zI (sk isB t n p)) := fun r2 => q_blanks (wW_ok hR r2) _ p FU rfl (by unfold FU; omega) (by omega)
  unfold fx_X4_passGap_B fx_X6_passBlanks fx_X6_failAt f9_space f9_space_24 f9_space_28 f9_space_29 f9_space_39
  rw [p_blanks hS (-1) v _ p FU rfl (by unfold FU; omega) (by omega), q_c (wW_ok hR r) (by omega)]
  simp only [Option.bind_some, sS_1, sS_2, sS_3, sS_a, sS_l, sS_s2, sS_s3, sS_sl, hbl]
  by_cases h : isB (cAt t n p) = true
  · have hq : p < n := by
      apply Classical.byContradiction
      intro hh
      rw [cAt_out hh] at h
      exact absurd h (by decide)
    rw [cAt_in hq] at h ⊢
    have hlt : p < sk isB t n p := by
      rw [sk_yes hq h]
      have : p + 1 ≤ sk isB t n (p + 1) := sk_ge
      omega
    right
    refine ⟨sk isB t n p, hlt, hb2, ?_, ?_⟩
    · rw [if_pos (by rw [zI_lt (by omega) (by omega)]; exact hlt)]
    · unfold isB at h
      by_cases h32 : t p = 32
      · rw [if_pos h32]; rfl
      · have h10 : t p = 10 := by simpa [h32] using h
        rw [if_neg h32, if_pos h10]; rfl
  · have hsk : sk isB t n p = p := by
      by_cases hq : p < n
      · rw [cAt_in hq] at h; exact sk_no h
      · exact sk_out (by omega)
    have hx : ¬ cAt t n p = 32 ∧ ¬ cAt t n p = 10 := by
      unfold isB at h
      simpa using h
    left
    rw [hsk]
    refine ⟨p, p, ?_, by omega, ?_⟩
    · rw [if_neg (by rw [zI_lt (by omega) (by omega)]; omega)]; rfl
    · rw [if_neg hx.1, if_neg hx.2, q_fail p hr]
      simp only [one_nz, if_false, if_true, Option.bind_some, hbl, hsk]
end GAP
