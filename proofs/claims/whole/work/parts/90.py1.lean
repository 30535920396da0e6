/-! a character of what is written -/
section WST
variable {uX uS uV uP u bT : Md} {r : Rst} {s : Tst}
set_option maxRecDepth 100000 in
set_option maxHeartbeats 4000000 in
theorem pP_nil (uP : Md) : pP uP [] = si uP 1 0 := by
  unfold pP
  rw [ov_nil]
  refine Prod.ext (funext fun k => rfl) (Prod.ext rfl (Prod.ext (funext fun k => ?_) rfl))
  by_cases h : k = 0 <;> simp [si, sa, va_up, ga, h]
set_option maxRecDepth 100000 in
set_option maxHeartbeats 4000000 in
theorem tD_0 (hT : T0 s) (h0 : 0 < s.count) : tD s 0 = 0 := by
  cases T0_up hT h0 with
  | inl h => exact h.2.1
  | inr h => omega
set_option maxRecDepth 100000 in
set_option maxHeartbeats 4000000 in
theorem p_tell_L (hG : TG s) (hX : TX s) (hNm : TN s) (h0 : 0 < s.count) : fx_X3_tell_L (yY bT s) (pP uP []) = some (pP uP (wrL false s)) := by
  have hT := hG.1
  have hN := hT.1
  have hFU : 600 < FU := by unfold FU; omega
  have hlen := wr_len (b := false) hG hX h0
  have hd0 := tD_0 hT h0
  have hp1 := pot_all hT h0 (fun _ => 1) (fun _ => 0)
  have hp2 := pot_all hT h0 (fun _ => 2) (fun _ => 1)
  rw [smW_c] at hp1 hp2
  unfold wrL at hlen ⊢
  unfold fx_X3_tell_L
  generalize FU = FF at hFU ⊢
  have h := p_tellL (uP := uP) (bT := bT) hG hX hNm 200 0 500 FF 0 [] h0 (by rw [hd0, Nat.zero_add]; omega) (by omega) (by omega) (by rw [hd0, Nat.zero_add]; omega) (by rw [hd0, List.length_nil, Nat.zero_add]; exact hlen)
  rw [hd0] at h
  exact h
set_option maxRecDepth 100000 in
set_option maxHeartbeats 4000000 in
theorem p_tell_B (hG : TG s) (hX : TX s) (hNm : TN s) (h0 : 0 < s.count) : fx_X4_tell_B (yY bT s) (pP uP []) = some (pP uP (wrL true s)) := by
  have hT := hG.1
  have hN := hT.1
  have hFU : 600 < FU := by unfold FU; omega
  have hlen := wr_len (b := true) hG hX h0
  have hd0 := tD_0 hT h0
  have hp1 := pot_all hT h0 (fun _ => 1) (fun _ => 0)
  have hp2 := pot_all hT h0 (fun _ => 2) (fun _ => 1)
  rw [smW_c] at hp1 hp2
  unfold wrL at hlen ⊢
  unfold fx_X4_tell_B
  generalize FU = FF at hFU ⊢
  obtain ⟨F, rfl⟩ : ∃ F', FF = F' + 1 := ⟨FF - 1, by omega⟩
  have h := p_tellB (uP := uP) (bT := bT) hG hX hNm 200 0 500 F 0 [] h0 (by rw [hd0, Nat.zero_add]; omega) (by omega) (by omega) (by rw [hd0, Nat.zero_add]; omega) (by rw [hd0, List.length_nil, Nat.zero_add]; exact hlen)
  rw [hd0, List.nil_append] at h
  have hh : fx_X7_has (yY bT s) 0 = some 1 := p_hasT h0 hN
  rw [fx_X4_tell_B_5, if_neg (by decide), hh]
  simp only [Option.bind_some, one_nz, if_false]
  rw [if_pos (by decide)]
  exact h
def PgC (uP : Md) (l : List Int32) : Prop := gi uP 1 = zI l.length ∧ ∃ g, ga uP 0 = ov g l
def PgR (u : Md) (l : List Int32) : Prop := gi u 26 = zI l.length ∧ ∃ g, ga u 25 = ov g l
set_option maxRecDepth 100000 in
set_option maxHeartbeats 4000000 in
theorem ov_in {g g' : Nat → Int32} {l : List Int32} {i : Nat} (h : i < l.length) : ov g l i = ov g' l i := by
  unfold ov
  rw [dif_pos h, dif_pos h]
set_option maxRecDepth 100000 in
set_option maxHeartbeats 4000000 in
theorem w_mark {l : List Int32} (hl : l.length ≤ 60000) (hC : PgC uP l) (hR : PgR u l) {x1 : Int32} (hx : ¬ x1 < 0) : ∃ y, fx_X5_markAt uP x1 = some y ∧ f9_write_44 (wW u r) x1 = some (y, wW u r) := by
  obtain ⟨h1, g, h2⟩ := hC
  obtain ⟨h3, g', h4⟩ := hR
  obtain ⟨hx1, hx2⟩ := zI_of hx
  generalize x1.toNatClampNeg = a at hx1 hx2
  unfold fx_X5_markAt f9_write_44
  rw [if_neg hx, h1, h2, wW_26, h3, wW_a25, h4, hx1]
  by_cases hla : l.length ≤ a
  · refine ⟨-1, ?_, ?_⟩
    · rw [if_pos (by rw [zI_le (by omega) (by omega)]; exact hla)]
    · rw [if_pos (by rw [zI_le (by omega) (by omega)]; exact hla)]
  · refine ⟨ov g l a, ?_, ?_⟩
    · rw [if_neg (by rw [zI_le (by omega) (by omega)]; exact hla), if_neg (by rw [show (60000 : Int32) = zI 60000 from rfl, zI_le (by omega) (by omega)]; omega), if_neg (by rw [zI_neg (by omega), zI_nat (by omega), false_or]; omega), zI_nat (by omega)]
    · rw [if_neg (by rw [zI_le (by omega) (by omega)]; exact hla), if_neg (by rw [zI_neg (by omega), zI_nat (by omega), false_or]; omega), zI_nat (by omega), ov_in (g := g') (g' := g) (by omega)]
/-- what a write leaves of the reference's state -/
def Kp (u u' : Md) : Prop := gi u' 1 = gi u 1 ∧ gi u' 3 = gi u 3 ∧ gi u' 4 = gi u 4 ∧ gi u' 14 = gi u 14 ∧ ga u' 2 = ga u 2 ∧ (gi u' 27 = 0 ∨ gi u' 27 = 1)
set_option maxRecDepth 100000 in
set_option maxHeartbeats 4000000 in
theorem st_write_L (hG : TG s) (hSR : SR 1 s r) (h4 : gi u 4 = zI s.count) (hf : decide (gi u 1 = 0) = false) (h27 : gi u 27 = 0 ∨ gi u 27 = 1) (hPC : gi uX 5 ≠ 0 → 0 < s.count → PgC uP (wrL false s)) (hPR : gi u 27 = 0 → 0 < s.count → PgR u (wrL false s)) (a1 : Int32) : (∃ y, sL_8_L uX uS (yY bT s) uV uP (wW u r) a1 = some (uX, uS, yY bT s, uV, uP, wW (si u 0 y) r)) ∨ (∃ uX' uP' u', sL_8_L uX uS (yY bT s) uV uP (wW u r) a1 = some (uX', uS, yY bT s, uV, uP', wW u' r) ∧ PgC uP' (wrL false s) ∧ PgR u' (wrL false s) ∧ Kp u u') := by
  have hT := hG.1
  have hN := hT.1
  have hTR := TR_of hSR
  by_cases hneg : a1 < 0
  · left
    refine ⟨1, ?_⟩
    have hle : ¬ (0 : Int32) ≤ a1 := Int32.not_le.mpr hneg
    have e8 : f8_write_L uX uS (yY bT s) uV uP a1 = some (Sum.inl 1) := by
      unfold f8_write_L
      rw [if_neg hle]
    have e9 : f9_write (wW u r) a1 = some (0, wW (si u 0 1) r) := by
      unfold f9_write f9_write_21
      rw [if_neg hle, if_neg (by decide), wW_b0]
    unfold sL_8_L
    rw [e8, e9]
    simp only [Option.bind_some, Sum.elim_inl, gi_s0, if_true]
  · have hle : (0 : Int32) ≤ a1 := Int32.not_lt.mp hneg
    by_cases hc0 : s.count = 0
    · left
      refine ⟨2, ?_⟩
      have e8 : f8_write_L uX uS (yY bT s) uV uP a1 = some (Sum.inl 2) := by
        unfold f8_write_L
        rw [if_pos hle, yY_13, hc0, if_pos (by decide)]
      have e9 : f9_write (wW u r) a1 = some (0, wW (si u 0 2) r) := by
        unfold f9_write f9_write_21
        rw [if_pos hle, wW_4, h4, hc0, if_pos (by decide), if_neg (by decide), wW_b0]
      unfold sL_8_L
      rw [e8, e9]
      simp only [Option.bind_some, Sum.elim_inl, gi_s0]
      rw [if_neg (by decide), if_pos trivial, if_pos trivial]
    · right
      have h0 : 0 < s.count := by omega
      have hz : ¬ (zI s.count = 0) := by rw [zI_z (by omega)]; exact hc0
      have hlen := wr_len (b := false) hG hSR.1 h0
      have hC : ∃ uX' uP', f8_write_L uX uS (yY bT s) uV uP a1 = ((fx_X5_markAt uP' a1).bind fun r_9 => some (Sum.inr (r_9, uX', uP'))) ∧ PgC uP' (wrL false s) := by
        unfold f8_write_L f8_write_L_68
        rw [if_pos hle, yY_13, if_neg hz]
        by_cases hx5 : gi uX 5 = 0
        · refine ⟨si uX 5 1, pP uP (wrL false s), ?_, pP_1 _, _, pP_a _⟩
          rw [if_pos hx5]
          unfold fx_X5_forget
          simp only [Option.bind_some]
          rw [← pP_nil, p_tell_L hG hSR.1 hSR.2.1 h0]
          simp only [Option.bind_some]
        · exact ⟨uX, uP, by rw [if_neg hx5], hPC hx5 h0⟩
      have hR : ∃ u', f9_write (wW u r) a1 = f9_write_44 (wW u' r) a1 ∧ PgR u' (wrL false s) ∧ Kp u u' ∧ gi u' 0 = 0 := by
        unfold f9_write f9_write_21
        rw [if_pos hle, wW_4, h4, if_neg hz, if_pos rfl, wW_27, wW_b0]
        by_cases h7 : gi u 27 = 0
        · refine ⟨si u 0 0, by rw [if_pos h7], hPR h7 h0, ⟨rfl, rfl, rfl, rfl, rfl, Or.inl h7⟩, rfl⟩
        · have hq := q_write (u := si u 0 0) (r := r) h4 hG hSR.1 hSR.2.1 hTR h0
          have hf' : decide (gi (si u 0 0) 1 = 0) = false := hf
          rw [hf'] at hq
          refine ⟨si (rP (si u 0 0) (wrL false s)) 27 0, ?_, ⟨rfl, _, rfl⟩, ⟨rfl, rfl, rfl, rfl, rfl, Or.inl rfl⟩, rfl⟩
          rw [if_neg h7, hq]
          simp only [Option.bind_some]
      obtain ⟨uX', uP', e8, hC1⟩ := hC
      obtain ⟨u', e9, hR1, hK, hg0⟩ := hR
      obtain ⟨y, m1, m2⟩ := w_mark (r := r) hlen hC1 hR1 hneg
      rw [m1] at e8
      rw [m2] at e9
      simp only [Option.bind_some] at e8
      refine ⟨uX', uP', u', ?_, hC1, hR1, hK⟩
      unfold sL_8_L
      rw [e8, e9]
      simp only [Option.bind_some, Sum.elim_inr]
      rw [if_pos ⟨hg0, trivial⟩]
set_option maxRecDepth 100000 in
set_option maxHeartbeats 4000000 in
theorem st_write_B (hG : TG s) (hSR : SR 1 s r) (h4 : gi u 4 = zI s.count) (hf : decide (gi u 1 = 0) = true) (h27 : gi u 27 = 0 ∨ gi u 27 = 1) (hPC : gi uX 5 ≠ 0 → 0 < s.count → PgC uP (wrL true s)) (hPR : gi u 27 = 0 → 0 < s.count → PgR u (wrL true s)) (a1 : Int32) : (∃ y, sL_8_B uX uS (yY bT s) uV uP (wW u r) a1 = some (uX, uS, yY bT s, uV, uP, wW (si u 0 y) r)) ∨ (∃ uX' uP' u', sL_8_B uX uS (yY bT s) uV uP (wW u r) a1 = some (uX', uS, yY bT s, uV, uP', wW u' r) ∧ PgC uP' (wrL true s) ∧ PgR u' (wrL true s) ∧ Kp u u') := by
  have hT := hG.1
  have hN := hT.1
  have hTR := TR_of hSR
  by_cases hneg : a1 < 0
  · left
    refine ⟨1, ?_⟩
    have hle : ¬ (0 : Int32) ≤ a1 := Int32.not_le.mpr hneg
    have e8 : f8_write_B uX uS (yY bT s) uV uP a1 = some (Sum.inl 1) := by
      unfold f8_write_B
      rw [if_neg hle]
    have e9 : f9_write (wW u r) a1 = some (0, wW (si u 0 1) r) := by
      unfold f9_write f9_write_21
      rw [if_neg hle, if_neg (by decide), wW_b0]
    unfold sL_8_B
    rw [e8, e9]
    simp only [Option.bind_some, Sum.elim_inl, gi_s0, if_true]
  · have hle : (0 : Int32) ≤ a1 := Int32.not_lt.mp hneg
    by_cases hc0 : s.count = 0
    · left
      refine ⟨2, ?_⟩
      have e8 : f8_write_B uX uS (yY bT s) uV uP a1 = some (Sum.inl 2) := by
        unfold f8_write_B
        rw [if_pos hle, yY_13, hc0, if_pos (by decide)]
      have e9 : f9_write (wW u r) a1 = some (0, wW (si u 0 2) r) := by
        unfold f9_write f9_write_21
        rw [if_pos hle, wW_4, h4, hc0, if_pos (by decide), if_neg (by decide), wW_b0]
      unfold sL_8_B
      rw [e8, e9]
      simp only [Option.bind_some, Sum.elim_inl, gi_s0]
      rw [if_neg (by decide), if_pos trivial, if_pos trivial]
    · right
      have h0 : 0 < s.count := by omega
      have hz : ¬ (zI s.count = 0) := by rw [zI_z (by omega)]; exact hc0
      have hlen := wr_len (b := true) hG hSR.1 h0
      have hC : ∃ uX' uP', f8_write_B uX uS (yY bT s) uV uP a1 = ((fx_X5_markAt uP' a1).bind fun r_9 => some (Sum.inr (r_9, uX', uP'))) ∧ PgC uP' (wrL true s) := by
        unfold f8_write_B f8_write_B_68
        rw [if_pos hle, yY_13, if_neg hz]
        by_cases hx5 : gi uX 5 = 0
        · refine ⟨si uX 5 1, pP uP (wrL true s), ?_, pP_1 _, _, pP_a _⟩
          rw [if_pos hx5]
          unfold fx_X5_forget
          simp only [Option.bind_some]
          rw [← pP_nil, p_tell_B hG hSR.1 hSR.2.1 h0]
          simp only [Option.bind_some]
        · exact ⟨uX, uP, by rw [if_neg hx5], hPC hx5 h0⟩
      have hR : ∃ u', f9_write (wW u r) a1 = f9_write_44 (wW u' r) a1 ∧ PgR u' (wrL true s) ∧ Kp u u' ∧ gi u' 0 = 0 := by
        unfold f9_write f9_write_21
        rw [if_pos hle, wW_4, h4, if_neg hz, if_pos rfl, wW_27, wW_b0]
        by_cases h7 : gi u 27 = 0
        · refine ⟨si u 0 0, by rw [if_pos h7], hPR h7 h0, ⟨rfl, rfl, rfl, rfl, rfl, Or.inl h7⟩, rfl⟩
        · have hq := q_write (u := si u 0 0) (r := r) h4 hG hSR.1 hSR.2.1 hTR h0
          have hf' : decide (gi (si u 0 0) 1 = 0) = true := hf
          rw [hf'] at hq
          refine ⟨si (rP (si u 0 0) (wrL true s)) 27 0, ?_, ⟨rfl, _, rfl⟩, ⟨rfl, rfl, rfl, rfl, rfl, Or.inl rfl⟩, rfl⟩
          rw [if_neg h7, hq]
          simp only [Option.bind_some]
      obtain ⟨uX', uP', e8, hC1⟩ := hC
      obtain ⟨u', e9, hR1, hK, hg0⟩ := hR
      obtain ⟨y, m1, m2⟩ := w_mark (r := r) hlen hC1 hR1 hneg
      rw [m1] at e8
      rw [m2] at e9
      simp only [Option.bind_some] at e8
      refine ⟨uX', uP', u', ?_, hC1, hR1, hK⟩
      unfold sL_8_B
      rw [e8, e9]
      simp only [Option.bind_some, Sum.elim_inr]
      rw [if_pos ⟨hg0, trivial⟩]
end WST
