/-! an object's own text -/
/-- its values -/
def fdL (s : Tst) (k : Nat) (κ : Fin 10) : Nat → Nat → List Int32
  | 0, _ => []
  | j + 1, i => 32 :: ((if fSort (ffK κ i) = 0 then 34 :: (txL (fun x => s.marks ((k * 2 + ahd κ true i) * 40 + x)) (s.tsz (k * 2 + ahd κ true i)).toNatClampNeg 0 ++ [34]) else numL (decide (fSort (ffK κ i) = 1)) (s.nums (k * 5 + ahd κ false i))) ++ fdL s k κ j (i + 1))
theorem fdL_s (s : Tst) (k : Nat) (κ : Fin 10) (j i : Nat) : fdL s k κ (j + 1) i = 32 :: ((if fSort (ffK κ i) = 0 then 34 :: (txL (fun x => s.marks ((k * 2 + ahd κ true i) * 40 + x)) (s.tsz (k * 2 + ahd κ true i)).toNatClampNeg 0 ++ [34]) else numL (decide (fSort (ffK κ i) = 1)) (s.nums (k * 5 + ahd κ false i))) ++ fdL s k κ j (i + 1)) := id rfl
/-- its name and its values -/
def nvL (s : Tst) (k : Nat) : List Int32 := nmL (tK s k).val ++ ((if tK s k = 0 then [32, 51] else []) ++ fdL s k (tK s k) (nfK (tK s k)) 0)
def kpO (s : Tst) (k : Nat) : List Int32 := kpL (fun i => s.kept ((s.kfrom k).toNatClampNeg + i)) (s.ksz k).toNatClampNeg 0
/-- what is its own in what is written; b: form 0 -/
def owL (b : Bool) (s : Tst) (k : Nat) : List Int32 := if tK s k = 9 then kpO s k else (if b = true then [40] else []) ++ nvL s k
set_option maxRecDepth 100000 in
set_option maxHeartbeats 4000000 in
theorem ahd_t {κ : Fin 10} {i : Nat} (h : fSort (ffK κ i) = 0) : ahd κ true (i + 1) = ahd κ true i + 1 ∧ ahd κ false (i + 1) = ahd κ false i := by
  constructor
  · show ahd κ true i + (if decide (fSort (ffK κ i) = 0) = true then 1 else 0) = _
    rw [if_pos (decide_eq_true h)]
  · show ahd κ false i + (if decide (fSort (ffK κ i) = 0) = false then 1 else 0) = _
    rw [if_neg (by rw [decide_eq_true h]; decide), Nat.add_zero]
set_option maxRecDepth 100000 in
set_option maxHeartbeats 4000000 in
theorem ahd_n {κ : Fin 10} {i : Nat} (h : ¬ fSort (ffK κ i) = 0) : ahd κ true (i + 1) = ahd κ true i ∧ ahd κ false (i + 1) = ahd κ false i + 1 := by
  constructor
  · show ahd κ true i + (if decide (fSort (ffK κ i) = 0) = true then 1 else 0) = _
    rw [if_neg (by rw [decide_eq_false h]; decide), Nat.add_zero]
  · show ahd κ false i + (if decide (fSort (ffK κ i) = 0) = false then 1 else 0) = _
    rw [if_pos (decide_eq_false h)]
set_option maxRecDepth 100000 in
set_option maxHeartbeats 4000000 in
theorem t_fieldE (k : Fin 10) : f9_field (zI k.val) (zI (nfK k)) = some 0 := by revert k; decide
section WOW
variable {uP u bT : Md} {r : Rst} {s : Tst}
set_option maxRecDepth 100000 in
set_option maxHeartbeats 4000000 in
theorem p_textX {k w z : Nat} (hts : fx_X7_textSize (yY bT s) (zI k) (zI w) = some (zI z)) (hz : z ≤ 40) (hk : k < 200) (hw : w < 2) (hT : ∀ i, i < z → isT (s.marks ((k * 2 + w) * 40 + i)) = true) : ∀ j i F (l : List Int32), z - i = j → i ≤ z → j < F → l.length + (txL (fun i => s.marks ((k * 2 + w) * 40 + i)) j i).length + 1 ≤ 60000 → fx_X5_putText_9 (yY bT s) F (pP uP l) (zI k) (zI w) (zI i) = some (pP uP (l ++ (txL (fun i => s.marks ((k * 2 + w) * 40 + i)) j i ++ [34]))) := by
  intro j
  induction j with
  | zero =>
    intro i F l hj hi hF hl
    obtain ⟨F, rfl⟩ : ∃ F', F = F' + 1 := ⟨F - 1, by omega⟩
    rw [fx_X5_putText_9, hts]
    simp only [Option.bind_some]
    rw [if_pos (by rw [zI_le (by omega) (by omega)]; omega), p_put isC_34 (by omega)]
    rfl
  | succ j ih =>
    intro i F l hj hi hF hl
    obtain ⟨F, rfl⟩ : ∃ F', F = F' + 1 := ⟨F - 1, by omega⟩
    have htm : fx_X7_textMark (yY bT s) (zI k) (zI w) (zI i) = some (s.marks ((k * 2 + w) * 40 + i)) := by
      unfold fx_X7_textMark
      rw [hts]
      simp (disch := omega) only [Option.bind_some, show (2 : Int32) = zI 2 from rfl, show (40 : Int32) = zI 40 from rfl, zI_le, zI_lt, zI_inj, zI_z, zI_lz, zI_zl, zI_neg, zI_nat, zI_add, zI_one, zI_mul, zI_ne1, zI_1n, leT, leF, ltT, ltF, eqT, eqF, if_true, if_false, Option.bind_some, false_or, or_false, true_or, or_true, true_and, and_true, false_and, and_false, not_true_eq_false, not_false_eq_true, reduceIte, yY_12, yY_13, yY_14, yY_15, yY_a0, yY_a1, yY_a2, yY_a3, yY_a4, yY_a5, yY_a7, yY_a8, yY_a9, yY_a10, yY_a11, yY_n]
    have hTi := hT i (by omega)
    rw [fx_X5_putText_9, hts]
    simp only [Option.bind_some]
    rw [if_neg (by rw [zI_le (by omega) (by omega)]; omega), htm]
    simp only [Option.bind_some]
    rw [txL_s] at hl
    rw [d_esc, txL_s]
    simp only [Option.bind_some, bI_z]
    unfold fx_X5_putText_44
    by_cases hE : isE (s.marks ((k * 2 + w) * 40 + i)) = true
    · rw [if_pos hE] at hl
      simp only [List.length_append, List.length_cons, List.length_nil] at hl
      rw [if_neg (by rw [hE]; decide), if_pos hE, p_put isC_92 (by omega)]
      simp only [Option.bind_some]
      rw [p_put (Or.inl hTi) (by rw [List.length_append]; simp; omega)]
      simp only [Option.bind_some]
      rw [zI_one, ih (i + 1) F _ (by omega) (by omega) (by omega) (by rw [List.length_append, List.length_append]; simp; omega)]
      simp only [List.append_assoc]
      rfl
    · rw [if_neg hE] at hl
      simp only [List.length_append, List.length_cons, List.length_nil] at hl
      rw [if_pos (by simpa using hE), if_neg hE, p_put (Or.inl hTi) (by omega)]
      simp only [Option.bind_some]
      rw [zI_one, ih (i + 1) F _ (by omega) (by omega) (by omega) (by rw [List.length_append]; simp; omega)]
      simp only [List.append_assoc]
set_option maxRecDepth 100000 in
set_option maxHeartbeats 4000000 in
theorem p_textA {k w z : Nat} {l : List Int32} (hts : fx_X7_textSize (yY bT s) (zI k) (zI w) = some (zI z)) (hz : z ≤ 40) (hk : k < 200) (hw : w < 2) (hT : ∀ i, i < z → isT (s.marks ((k * 2 + w) * 40 + i)) = true) (hl : l.length + (34 :: (txL (fun i => s.marks ((k * 2 + w) * 40 + i)) z 0 ++ [34]) : List Int32).length ≤ 60000) : fx_X5_putText (yY bT s) (pP uP l) (zI k) (zI w) = some (pP uP (l ++ (34 :: (txL (fun i => s.marks ((k * 2 + w) * 40 + i)) z 0 ++ [34])))) := by
  have hFU : 41 < FU := by unfold FU; omega
  simp only [List.length_append, List.length_cons, List.length_nil] at hl
  unfold fx_X5_putText
  generalize FU = FF at hFU ⊢
  rw [p_put isC_34 (by omega)]
  simp only [Option.bind_some]
  have h := p_textX (uP := uP) hts hz hk hw hT z 0 FF (l ++ [34]) (by omega) (by omega) (by omega) (by simp only [List.length_append, List.length_cons, List.length_nil]; omega)
  have h' : fx_X5_putText_9 (yY bT s) FF (pP uP (l ++ [34])) (zI k) (zI w) 0 = _ := h
  rw [h', List.append_assoc]
  rfl
set_option maxRecDepth 100000 in
set_option maxHeartbeats 4000000 in
theorem q_textA {k w z : Nat} {g : Nat → Int32} {l : List Int32} (hts : r.tsz (k * 2 + w) = zI z) (hz : z ≤ 40) (hk : k < 200) (hw : w < 2) (hg : ∀ i, i < z → r.chars ((k * 2 + w) * 40 + i) = g i) (hl : l.length + 82 ≤ 110000) : f9_sayText (wW (rP u l) r) (zI k) (zI w) = some (wW (rP u (l ++ (34 :: (txL g z 0 ++ [34])))) r) := by
  have hFU : 41 < FU := by unfold FU; omega
  unfold f9_sayText
  generalize FU = FF at hFU ⊢
  rw [q_say (by omega)]
  simp only [Option.bind_some]
  have h := q_textW (u := u) hts hz hk hw hg z 0 FF (l ++ [34]) (by omega) (by omega) (by omega) (by simp only [List.length_append, List.length_cons, List.length_nil]; omega)
  have h' : f9_sayText_8 FF (wW (rP u (l ++ [34])) r) (zI k) (zI w) 0 = _ := h
  rw [h', List.append_assoc]
  rfl
set_option maxRecDepth 100000 in
set_option maxHeartbeats 4000000 in
theorem p_numberOf {k w : Nat} (hN : s.count ≤ 200) (hk : k < s.count) (hw : w < 5) : fx_X7_numberOf (yY bT s) (zI k) (zI w) = some (s.nums (k * 5 + w)) := by
  unfold fx_X7_numberOf fx_X7_hasNumber
  simp (disch := omega) only [Option.bind_some, one_nz, show (5 : Int32) = zI 5 from rfl, zI_le, zI_lt, zI_inj, zI_z, zI_lz, zI_zl, zI_neg, zI_nat, zI_add, zI_one, zI_mul, zI_ne1, zI_1n, leT, leF, ltT, ltF, eqT, eqF, if_true, if_false, Option.bind_some, false_or, or_false, true_or, or_true, true_and, and_true, false_and, and_false, not_true_eq_false, not_false_eq_true, reduceIte, yY_12, yY_13, yY_14, yY_15, yY_a0, yY_a1, yY_a2, yY_a3, yY_a4, yY_a5, yY_a7, yY_a8, yY_a9, yY_a10, yY_a11, yY_n]
set_option maxRecDepth 100000 in
set_option maxHeartbeats 4000000 in
theorem p_textSz {k w z : Nat} (hN : s.count ≤ 200) (hk : k < s.count) (hw : w < 2) (hz : s.tsz (k * 2 + w) = zI z) : fx_X7_textSize (yY bT s) (zI k) (zI w) = some (zI z) := by
  unfold fx_X7_textSize fx_X7_hasText
  simp (disch := omega) only [Option.bind_some, one_nz, show (2 : Int32) = zI 2 from rfl, zI_le, zI_lt, zI_inj, zI_z, zI_lz, zI_zl, zI_neg, zI_nat, zI_add, zI_one, zI_mul, zI_ne1, zI_1n, leT, leF, ltT, ltF, eqT, eqF, if_true, if_false, Option.bind_some, false_or, or_false, true_or, or_true, true_and, and_true, false_and, and_false, not_true_eq_false, not_false_eq_true, reduceIte, yY_12, yY_13, yY_14, yY_15, yY_a0, yY_a1, yY_a2, yY_a3, yY_a4, yY_a5, yY_a7, yY_a8, yY_a9, yY_a10, yY_a11, yY_n, hz]
set_option maxRecDepth 100000 in
set_option maxHeartbeats 4000000 in
theorem p_flds_L (hN : s.count ≤ 200) (hX : TX s) (hNm : TN s) {k : Nat} (hk : k < s.count) {κ : Fin 10} (hκ : tK s k = κ) : ∀ j i F (l : List Int32), nfK κ - i = j → i ≤ nfK κ → j < F → l.length + (fdL s k κ j i).length ≤ 60000 → fx_X1_putNameAndValues_L_49 (yY bT s) F (pP uP l) (zI k) κ (zI (ahd κ true i)) (zI (ahd κ false i)) (zI i) = some (pP uP (l ++ fdL s k κ j i)) := by
  have h5 := nf_le κ
  have hc := cnt_le κ
  intro j
  induction j with
  | zero =>
    intro i F l hj hi hF hl
    obtain ⟨F, rfl⟩ : ∃ F', F = F' + 1 := ⟨F - 1, by omega⟩
    rw [fx_X1_putNameAndValues_L_49, t_fields]
    simp only [Option.bind_some]
    rw [if_pos (by rw [zI_le (by omega) (by omega)]; omega)]
    show _ = some (pP uP (l ++ []))
    rw [List.append_nil]
  | succ j ih =>
    intro i F l hj hi hF hl
    obtain ⟨F, rfl⟩ : ∃ F', F = F' + 1 := ⟨F - 1, by omega⟩
    have hi2 : i < nfK κ := by omega
    have hal := ahd_lt κ i hi2
    rw [fdL_s] at hl ⊢
    rw [List.length_cons, List.length_append] at hl
    rw [fx_X1_putNameAndValues_L_49, t_fields]
    simp only [Option.bind_some]
    rw [if_neg (by rw [zI_le (by omega) (by omega)]; omega), t_fieldAt κ i hi2]
    simp only [Option.bind_some]
    rw [p_put isC_32 (by omega)]
    simp only [Option.bind_some]
    rw [t_isText]
    simp only [Option.bind_some, bI_z]
    unfold fx_X1_putNameAndValues_L_112
    by_cases ht : fSort (ffK κ i) = 0
    · rw [decide_eq_true ht] at hal
      obtain ⟨e1, e2⟩ := ahd_t ht
      obtain ⟨z, hz4, hz, hzT⟩ := hX (k * 2 + ahd κ true i) (by omega)
      rw [if_pos ht, hz, zI_nat (by omega)] at hl
      rw [if_neg (by rw [decide_eq_true ht]; decide), if_pos ht, hz, zI_nat (by omega), p_textA (p_textSz hN hk (by omega) hz) hz4 (by omega) (by omega) hzT (by rw [List.length_append, List.length_cons, List.length_nil]; omega)]
      simp only [Option.bind_some]
      have h := ih (i + 1) F (l ++ [32] ++ (34 :: (txL (fun x => s.marks ((k * 2 + ahd κ true i) * 40 + x)) z 0 ++ [34]))) (by omega) (by omega) (by omega) (by rw [List.length_append, List.length_append, List.length_cons, List.length_nil]; omega)
      rw [e1, e2] at h
      rw [zI_one (ahd κ true i), zI_one i, h]
      simp only [List.append_assoc]
      rfl
    · rw [decide_eq_false ht] at hal
      obtain ⟨e1, e2⟩ := ahd_n ht
      have hb := hNm k hk i (by rw [hκ]; exact hi2) (by rw [hκ]; exact ht)
      rw [hκ] at hb
      rw [if_neg ht] at hl
      rw [if_pos (decide_eq_false ht), if_neg ht, p_numberOf hN hk (by omega)]
      simp only [Option.bind_some]
      rw [p_num ht hb.1 hb.2 (by rw [List.length_append, List.length_cons, List.length_nil]; omega)]
      simp only [Option.bind_some]
      have h := ih (i + 1) F (l ++ [32] ++ numL (decide (fSort (ffK κ i) = 1)) (s.nums (k * 5 + ahd κ false i))) (by omega) (by omega) (by omega) (by rw [List.length_append, List.length_append, List.length_cons, List.length_nil]; omega)
      rw [e1, e2] at h
      rw [zI_one (ahd κ false i), zI_one i, h]
      simp only [List.append_assoc]
      rfl
set_option maxRecDepth 100000 in
set_option maxHeartbeats 4000000 in
theorem p_nv_L (hT : T0 s) (hX : TX s) (hNm : TN s) {k : Nat} (hk : k < s.count) (h9 : tK s k ≠ 9) {l : List Int32} (hl : l.length + (nvL s k).length ≤ 60000) : fx_X1_putNameAndValues_L (yY bT s) (pP uP l) (zI k) = some (pP uP (l ++ nvL s k)) := by
  have hFU : 10 < FU := by unfold FU; omega
  have hN := hT.1
  unfold nvL at hl ⊢
  generalize hκ : tK s k = κ at *
  have h5 := nf_le κ
  have hκ9 : κ.val < 9 := by
    have := κ.isLt
    have h3 : κ.val ≠ 9 := fun h => h9 (Fin.ext h)
    omega
  have hn6 := (Lk_ok κ.val hκ9).2.2.1
  rw [List.length_append, List.length_append] at hl
  have hnl := nmL_len κ.val
  unfold fx_X1_putNameAndValues_L fx_X1_putNameAndValues_L_40 fx_X5_putTitle
  generalize FU = FF at hFU ⊢
  have ht := p_title (uP := uP) κ.val hκ9 (Lk κ.val).length 0 FF l (by omega) (by omega) (by omega) (by omega)
  rw [fk_N] at ht
  have ht' : fx_X5_putTitle_2 FF (pP uP l) (kTitle κ) 0 = _ := ht
  rw [p_kindOf hT hk, hκ]
  simp only [Option.bind_some]
  rw [ht', List.drop_zero]
  simp only [Option.bind_some]
  have hgo : ∀ l2 : List Int32, l2.length + (fdL s k κ (nfK κ) 0).length ≤ 60000 → fx_X1_putNameAndValues_L_49 (yY bT s) FF (pP uP l2) (zI k) κ 0 0 0 = some (pP uP (l2 ++ fdL s k κ (nfK κ) 0)) := by
    intro l2 hl2
    exact p_flds_L hN hX hNm hk hκ (nfK κ) 0 FF l2 (by omega) (by omega) (by omega) hl2
  by_cases h0 : κ = 0
  · rw [if_pos h0] at hl ⊢
    rw [if_pos h0]
    simp only [List.length_cons, List.length_nil] at hl
    have h3 : numL (decide (fSort (7 : Fin 8) = 1)) 3 = [51] := by decide
    rw [p_put isC_32 (by rw [List.length_append]; omega)]
    simp only [Option.bind_some]
    rw [p_num (fd := 7) (v := 3) (by decide) (by decide) (by decide) (by rw [h3]; simp only [List.length_append, List.length_cons, List.length_nil]; omega), h3]
    simp only [Option.bind_some]
    rw [hgo _ (by simp only [List.length_append, List.length_cons, List.length_nil]; omega)]
    simp only [List.append_assoc]
    rfl
  · rw [if_neg h0] at hl ⊢
    rw [if_neg h0]
    simp only [List.length_nil] at hl
    rw [hgo _ (by rw [List.length_append]; omega)]
    simp only [List.append_assoc, List.nil_append]
set_option maxRecDepth 100000 in
set_option maxHeartbeats 4000000 in
theorem p_flds_B (hN : s.count ≤ 200) (hX : TX s) (hNm : TN s) {k : Nat} (hk : k < s.count) {κ : Fin 10} (hκ : tK s k = κ) : ∀ j i F (l : List Int32), nfK κ - i = j → i ≤ nfK κ → j < F → l.length + (fdL s k κ j i).length ≤ 60000 → fx_X1_putNameAndValues_B_49 (yY bT s) F (pP uP l) (zI k) κ (zI (ahd κ true i)) (zI (ahd κ false i)) (zI i) = some (pP uP (l ++ fdL s k κ j i)) := by
  have h5 := nf_le κ
  have hc := cnt_le κ
  intro j
  induction j with
  | zero =>
    intro i F l hj hi hF hl
    obtain ⟨F, rfl⟩ : ∃ F', F = F' + 1 := ⟨F - 1, by omega⟩
    rw [fx_X1_putNameAndValues_B_49, t_fields]
    simp only [Option.bind_some]
    rw [if_pos (by rw [zI_le (by omega) (by omega)]; omega)]
    show _ = some (pP uP (l ++ []))
    rw [List.append_nil]
  | succ j ih =>
    intro i F l hj hi hF hl
    obtain ⟨F, rfl⟩ : ∃ F', F = F' + 1 := ⟨F - 1, by omega⟩
    have hi2 : i < nfK κ := by omega
    have hal := ahd_lt κ i hi2
    rw [fdL_s] at hl ⊢
    rw [List.length_cons, List.length_append] at hl
    rw [fx_X1_putNameAndValues_B_49, t_fields]
    simp only [Option.bind_some]
    rw [if_neg (by rw [zI_le (by omega) (by omega)]; omega), t_fieldAt κ i hi2]
    simp only [Option.bind_some]
    rw [p_put isC_32 (by omega)]
    simp only [Option.bind_some]
    rw [t_isText]
    simp only [Option.bind_some, bI_z]
    unfold fx_X1_putNameAndValues_B_112
    by_cases ht : fSort (ffK κ i) = 0
    · rw [decide_eq_true ht] at hal
      obtain ⟨e1, e2⟩ := ahd_t ht
      obtain ⟨z, hz4, hz, hzT⟩ := hX (k * 2 + ahd κ true i) (by omega)
      rw [if_pos ht, hz, zI_nat (by omega)] at hl
      rw [if_neg (by rw [decide_eq_true ht]; decide), if_pos ht, hz, zI_nat (by omega), p_textA (p_textSz hN hk (by omega) hz) hz4 (by omega) (by omega) hzT (by rw [List.length_append, List.length_cons, List.length_nil]; omega)]
      simp only [Option.bind_some]
      have h := ih (i + 1) F (l ++ [32] ++ (34 :: (txL (fun x => s.marks ((k * 2 + ahd κ true i) * 40 + x)) z 0 ++ [34]))) (by omega) (by omega) (by omega) (by rw [List.length_append, List.length_append, List.length_cons, List.length_nil]; omega)
      rw [e1, e2] at h
      rw [zI_one (ahd κ true i), zI_one i, h]
      simp only [List.append_assoc]
      rfl
    · rw [decide_eq_false ht] at hal
      obtain ⟨e1, e2⟩ := ahd_n ht
      have hb := hNm k hk i (by rw [hκ]; exact hi2) (by rw [hκ]; exact ht)
      rw [hκ] at hb
      rw [if_neg ht] at hl
      rw [if_pos (decide_eq_false ht), if_neg ht, p_numberOf hN hk (by omega)]
      simp only [Option.bind_some]
      rw [p_num ht hb.1 hb.2 (by rw [List.length_append, List.length_cons, List.length_nil]; omega)]
      simp only [Option.bind_some]
      have h := ih (i + 1) F (l ++ [32] ++ numL (decide (fSort (ffK κ i) = 1)) (s.nums (k * 5 + ahd κ false i))) (by omega) (by omega) (by omega) (by rw [List.length_append, List.length_append, List.length_cons, List.length_nil]; omega)
      rw [e1, e2] at h
      rw [zI_one (ahd κ false i), zI_one i, h]
      simp only [List.append_assoc]
      rfl
set_option maxRecDepth 100000 in
set_option maxHeartbeats 4000000 in
theorem p_nv_B (hT : T0 s) (hX : TX s) (hNm : TN s) {k : Nat} (hk : k < s.count) (h9 : tK s k ≠ 9) {l : List Int32} (hl : l.length + (nvL s k).length ≤ 60000) : fx_X1_putNameAndValues_B (yY bT s) (pP uP l) (zI k) = some (pP uP (l ++ nvL s k)) := by
  have hFU : 10 < FU := by unfold FU; omega
  have hN := hT.1
  unfold nvL at hl ⊢
  generalize hκ : tK s k = κ at *
  have h5 := nf_le κ
  have hκ9 : κ.val < 9 := by
    have := κ.isLt
    have h3 : κ.val ≠ 9 := fun h => h9 (Fin.ext h)
    omega
  have hn6 := (Lk_ok κ.val hκ9).2.2.1
  rw [List.length_append, List.length_append] at hl
  have hnl := nmL_len κ.val
  unfold fx_X1_putNameAndValues_B fx_X1_putNameAndValues_B_40 fx_X5_putTitle
  generalize FU = FF at hFU ⊢
  have ht := p_title (uP := uP) κ.val hκ9 (Lk κ.val).length 0 FF l (by omega) (by omega) (by omega) (by omega)
  rw [fk_N] at ht
  have ht' : fx_X5_putTitle_2 FF (pP uP l) (kTitle κ) 0 = _ := ht
  rw [p_kindOf hT hk, hκ]
  simp only [Option.bind_some]
  rw [ht', List.drop_zero]
  simp only [Option.bind_some]
  have hgo : ∀ l2 : List Int32, l2.length + (fdL s k κ (nfK κ) 0).length ≤ 60000 → fx_X1_putNameAndValues_B_49 (yY bT s) FF (pP uP l2) (zI k) κ 0 0 0 = some (pP uP (l2 ++ fdL s k κ (nfK κ) 0)) := by
    intro l2 hl2
    exact p_flds_B hN hX hNm hk hκ (nfK κ) 0 FF l2 (by omega) (by omega) (by omega) hl2
  by_cases h0 : κ = 0
  · rw [if_pos h0] at hl ⊢
    rw [if_pos h0]
    simp only [List.length_cons, List.length_nil] at hl
    have h3 : numL (decide (fSort (7 : Fin 8) = 1)) 3 = [51] := by decide
    rw [p_put isC_32 (by rw [List.length_append]; omega)]
    simp only [Option.bind_some]
    rw [p_num (fd := 7) (v := 3) (by decide) (by decide) (by decide) (by rw [h3]; simp only [List.length_append, List.length_cons, List.length_nil]; omega), h3]
    simp only [Option.bind_some]
    rw [hgo _ (by simp only [List.length_append, List.length_cons, List.length_nil]; omega)]
    simp only [List.append_assoc]
    rfl
  · rw [if_neg h0] at hl ⊢
    rw [if_neg h0]
    simp only [List.length_nil] at hl
    rw [hgo _ (by rw [List.length_append]; omega)]
    simp only [List.append_assoc, List.nil_append]
set_option maxRecDepth 100000 in
set_option maxHeartbeats 4000000 in
theorem p_kpO (hT : T0 s) (hK : TK s) {k : Nat} (hk : k < s.count) {l : List Int32} (hl : l.length + (kpO s k).length ≤ 60000) : fx_X5_putKept (yY bT s) (pP uP l) (zI k) = some (pP uP (l ++ kpO s k)) := by
  have hFU : 2001 < FU := by unfold FU; omega
  obtain ⟨k1, k2, k3, k4⟩ := hK
  obtain ⟨a, b, ha, hb, hab, -⟩ := k3 k hk
  unfold kpO at hl ⊢
  rw [ha, hb, zI_nat (by omega), zI_nat (by omega)] at hl ⊢
  rw [kpL_len] at hl
  unfold fx_X5_putKept
  generalize FU = FF at hFU ⊢
  exact p_keptW hk hT.1 ha hb (by omega) (fun i hi => k4 (a + i) (by omega)) b 0 FF l (by omega) (by omega) (by omega) (by omega)
set_option maxRecDepth 100000 in
set_option maxHeartbeats 4000000 in
theorem q_flds (hN : s.count ≤ 200) (hT : T0 s) (hX : TX s) (hNm : TN s) (hTR : TR s r) {k : Nat} (hk : k < s.count) {κ : Fin 10} (hκ : tK s k = κ) : ∀ j i F (l : List Int32), nfK κ - i = j → i ≤ nfK κ → j < F → l.length + 100 * j ≤ 110000 → f9_sayOwn_98 F (wW (rP u l) r) (zI k) (zI (ahd κ false i)) (zI (ahd κ true i)) (zI i) = some (wW (rP u (l ++ fdL s k κ j i)) r) := by
  have h5 := nf_le κ
  have hc := cnt_le κ
  have hkk : r.kinds k = zI κ.val := by rw [(hTR.1 k hk).1, (hT.2.1 k hk).1, hκ]
  intro j
  induction j with
  | zero =>
    intro i F l hj hi hF hl
    obtain ⟨F, rfl⟩ : ∃ F', F = F' + 1 := ⟨F - 1, by omega⟩
    have hi5 : i = nfK κ := by omega
    rw [f9_sayOwn_98]
    simp (disch := omega) only [zI_le, zI_lt, zI_inj, zI_z, zI_lz, zI_zl, zI_neg, zI_nat, zI_add, zI_one, zI_mul, zI_ne1, zI_1n, leT, leF, ltT, ltF, eqT, eqF, if_true, if_false, Option.bind_some, false_or, or_false, true_or, or_true, true_and, and_true, false_and, and_false, not_true_eq_false, not_false_eq_true, reduceIte, wW_a5, hkk]
    rw [hi5, t_fieldE]
    simp only [Option.bind_some]
    rw [if_pos trivial]
    show _ = some (wW (rP u (l ++ [])) r)
    rw [List.append_nil]
  | succ j ih =>
    intro i F l hj hi hF hl
    obtain ⟨F, rfl⟩ : ∃ F', F = F' + 1 := ⟨F - 1, by omega⟩
    have hi2 : i < nfK κ := by omega
    have hal := ahd_lt κ i hi2
    have hfz : ¬ ((if fSort (ffK κ i) = 0 then (3 : Int32) else if fSort (ffK κ i) = 1 then 1 else 2) = 0) := by
      split
      · decide
      · split <;> decide
    rw [fdL_s]
    rw [f9_sayOwn_98]
    simp (disch := omega) only [zI_le, zI_lt, zI_inj, zI_z, zI_lz, zI_zl, zI_neg, zI_nat, zI_add, zI_one, zI_mul, zI_ne1, zI_1n, leT, leF, ltT, ltF, eqT, eqF, if_true, if_false, Option.bind_some, false_or, or_false, true_or, or_true, true_and, and_true, false_and, and_false, not_true_eq_false, not_false_eq_true, reduceIte, wW_a5, hkk]
    rw [t_field κ i hi2]
    simp only [Option.bind_some]
    rw [if_neg hfz, q_say (by omega)]
    simp only [Option.bind_some]
    simp (disch := omega) only [zI_le, zI_lt, zI_inj, zI_z, zI_lz, zI_zl, zI_neg, zI_nat, zI_add, zI_one, zI_mul, zI_ne1, zI_1n, leT, leF, ltT, ltF, eqT, eqF, if_true, if_false, Option.bind_some, false_or, or_false, true_or, or_true, true_and, and_true, false_and, and_false, not_true_eq_false, not_false_eq_true, reduceIte, wW_a5, hkk]
    rw [t_field κ i hi2]
    simp only [Option.bind_some]
    unfold f9_sayOwn_212
    by_cases ht : fSort (ffK κ i) = 0
    · rw [decide_eq_true ht] at hal
      obtain ⟨e1, e2⟩ := ahd_t ht
      obtain ⟨z, hz4, hz, hzT⟩ := hX (k * 2 + ahd κ true i) (by omega)
      have hr := hTR.2.1 (k * 2 + ahd κ true i) (by omega)
      rw [hz] at hr
      have htl := txL_len (fun x => s.marks ((k * 2 + ahd κ true i) * 40 + x)) z 0
      rw [if_pos ht, if_pos ht, if_pos rfl, hz, zI_nat (by omega), q_textA (g := fun x => s.marks ((k * 2 + ahd κ true i) * 40 + x)) hr.1 hz4 (by omega) (by omega) (fun x hx => hr.2 x (by omega) (by rw [zI_lt (by omega) (by omega)]; exact hx)) (by rw [List.length_append, List.length_cons, List.length_nil]; omega)]
      simp only [Option.bind_some]
      have h := ih (i + 1) F (l ++ [32] ++ (34 :: (txL (fun x => s.marks ((k * 2 + ahd κ true i) * 40 + x)) z 0 ++ [34]))) (by omega) (by omega) (by omega) (by simp only [List.length_append, List.length_cons, List.length_nil]; omega)
      rw [e1, e2] at h
      rw [zI_one i, h]
      simp only [List.append_assoc]
      rfl
    · rw [decide_eq_false ht] at hal
      obtain ⟨e1, e2⟩ := ahd_n ht
      have hb := hNm k hk i (by rw [hκ]; exact hi2) (by rw [hκ]; exact ht)
      rw [hκ] at hb
      have hnl := numL_len (decide (fSort (ffK κ i) = 1)) (s.nums (k * 5 + ahd κ false i))
      have hnl2 : (numL (decide (fSort (ffK κ i) = 1)) (s.nums (k * 5 + ahd κ false i))).length ≤ 12 := by
        revert hnl; split <;> omega
      have h3 : ¬ ((if fSort (ffK κ i) = 1 then (1 : Int32) else 2) = 3) := by split <;> decide
      rw [if_neg ht, if_neg ht, if_neg h3]
      simp (disch := omega) only [show (5 : Int32) = zI 5 from rfl, zI_le, zI_lt, zI_inj, zI_z, zI_lz, zI_zl, zI_neg, zI_nat, zI_add, zI_one, zI_mul, zI_ne1, zI_1n, leT, leF, ltT, ltF, eqT, eqF, if_true, if_false, Option.bind_some, false_or, or_false, true_or, or_true, true_and, and_true, false_and, and_false, not_true_eq_false, not_false_eq_true, reduceIte, wW_n]
      rw [Nat.mul_comm 5 k, hTR.2.2.1 k hk _ (by rw [hκ]; exact hal)]
      have hq := q_num (u := u) (r := r) (l := l ++ [32]) (x5 := if fSort (ffK κ i) = 1 then (1 : Int32) else 2) ht hb.1 hb.2 (by simp only [List.length_append, List.length_cons, List.length_nil]; omega) (f9_sayOwn_98 F) (zI k) (zI (ahd κ false i)) (zI (ahd κ true i)) (zI i) rfl
      rw [hq]
      have h := ih (i + 1) F (l ++ [32] ++ numL (decide (fSort (ffK κ i) = 1)) (s.nums (k * 5 + ahd κ false i))) (by omega) (by omega) (by omega) (by simp only [List.length_append, List.length_cons, List.length_nil]; omega)
      rw [e1, e2] at h
      rw [zI_one (ahd κ false i), zI_one i, h]
      simp only [List.append_assoc]
      rfl
set_option maxRecDepth 100000 in
set_option maxHeartbeats 4000000 in
/-- the reference's own text of an object -/
theorem q_own (hT : T0 s) (hK : TK s) (hX : TX s) (hNm : TN s) (hTR : TR s r) {k : Nat} (hk : k < s.count) {l : List Int32} (hl : l.length ≤ 60000) : f9_sayOwn (wW (rP u l) r) (zI k) = some (wW (rP u (l ++ owL (decide (gi u 1 = 0)) s k)) r) := by
  have hFU : 2001 < FU := by unfold FU; omega
  have hN := hT.1
  have hkk : r.kinds k = zI (tK s k).val := by rw [(hTR.1 k hk).1, (hT.2.1 k hk).1]
  have hv := (tK s k).isLt
  have h9z : (zI (tK s k).val = 9) = (tK s k = 9) := by
    rw [show (9 : Int32) = zI 9 from rfl, zI_inj (by omega) (by omega)]
    exact propext ⟨fun h => Fin.ext h, fun h => by rw [h]; rfl⟩
  have h0z : (zI (tK s k).val = 0) = (tK s k = 0) := by
    rw [zI_z (by omega)]
    exact propext ⟨fun h => Fin.ext h, fun h => by rw [h]; rfl⟩
  unfold f9_sayOwn f9_sayOwn_60 f9_sayOwn_91 owL
  generalize FU = FF at hFU ⊢
  simp (disch := omega) only [zI_le, zI_lt, zI_inj, zI_z, zI_lz, zI_zl, zI_neg, zI_nat, zI_add, zI_one, zI_mul, zI_ne1, zI_1n, leT, leF, ltT, ltF, eqT, eqF, if_true, if_false, Option.bind_some, false_or, or_false, true_or, or_true, true_and, and_true, false_and, and_false, not_true_eq_false, not_false_eq_true, reduceIte, wW_a5, hkk, h9z]
  by_cases h9 : tK s k = 9
  · rw [if_pos h9, if_pos h9]
    obtain ⟨k1, k2, k3, k4⟩ := hK
    obtain ⟨a, b, ha, hb, hab, -⟩ := k3 k hk
    unfold kpO
    rw [ha, hb, zI_nat (by omega), zI_nat (by omega)]
    have h1 : r.kfrom k = zI a := by rw [(hTR.1 k hk).2.2.2 h9, ha]
    have h2 : r.ksz k = zI b := by rw [(hTR.1 k hk).2.2.1, hb]
    exact q_keptW (by omega) h1 h2 (by omega) (fun i hi => hTR.2.2.2 (a + i) (by omega)) b 0 FF l (by omega) (by omega) (by omega) (by omega)
  · rw [if_neg h9, if_neg h9]
    have hκ9 : (tK s k).val < 9 := by
      have h3 : (tK s k).val ≠ 9 := fun h => h9 (Fin.ext h)
      omega
    have hn6 := (Lk_ok (tK s k).val hκ9).2.2.1
    have hnl := nmL_len (tK s k).val
    have hgo : ∀ l2 : List Int32, l2.length ≤ 60001 → ((f9_sayName (wW (rP u l2) r) (zI (tK s k).val)).bind fun u_8 => if zI k < 0 ∨ 200 ≤ (zI k).toNatClampNeg then none else if (ga u_8 5) (zI k).toNatClampNeg = 0 then (f9_say u_8 32).bind fun u_12 => (f9_say u_12 51).bind fun u_14 => f9_sayOwn_98 FF u_14 (zI k) 0 0 0 else f9_sayOwn_98 FF u_8 (zI k) 0 0 0) = some (wW (rP u (l2 ++ nvL s k)) r) := by
      intro l2 hl2
      rw [q_name (tK s k).val hκ9 l2 (by omega)]
      simp only [Option.bind_some]
      simp (disch := omega) only [zI_le, zI_lt, zI_inj, zI_z, zI_lz, zI_zl, zI_neg, zI_nat, zI_add, zI_one, zI_mul, zI_ne1, zI_1n, leT, leF, ltT, ltF, eqT, eqF, if_true, if_false, Option.bind_some, false_or, or_false, true_or, or_true, true_and, and_true, false_and, and_false, not_true_eq_false, not_false_eq_true, reduceIte, wW_a5, hkk, h0z]
      have hf : ∀ l3 : List Int32, l3.length ≤ 60020 → f9_sayOwn_98 FF (wW (rP u l3) r) (zI k) 0 0 0 = some (wW (rP u (l3 ++ fdL s k (tK s k) (nfK (tK s k)) 0)) r) := by
        intro l3 hl3
        have h5 := nf_le (tK s k)
        exact q_flds hN hT hX hNm hTR hk rfl (nfK (tK s k)) 0 FF l3 (by omega) (by omega) (by omega) (by omega)
      unfold nvL
      by_cases h0 : tK s k = 0
      · rw [if_pos h0, if_pos h0, q_say (by rw [List.length_append]; omega)]
        simp only [Option.bind_some]
        rw [q_say (by simp only [List.length_append, List.length_cons, List.length_nil]; omega)]
        simp only [Option.bind_some]
        rw [hf _ (by simp only [List.length_append, List.length_cons, List.length_nil]; omega)]
        simp only [List.append_assoc]
        rfl
      · rw [if_neg h0, if_neg h0, hf _ (by rw [List.length_append]; omega)]
        simp only [List.append_assoc, List.nil_append]
    have e1 : gi (wW (rP u l) r) 1 = gi u 1 := rfl
    rw [e1]
    by_cases hf : gi u 1 = 0
    · rw [if_pos hf, decide_eq_true hf, if_pos rfl, q_say (by omega)]
      simp only [Option.bind_some]
      have h := hgo (l ++ [40]) (by simp only [List.length_append, List.length_cons, List.length_nil]; omega)
      simp (disch := omega) only [zI_le, zI_lt, zI_inj, zI_z, zI_lz, zI_zl, zI_neg, zI_nat, zI_add, zI_one, zI_mul, zI_ne1, zI_1n, leT, leF, ltT, ltF, eqT, eqF, if_true, if_false, Option.bind_some, false_or, or_false, true_or, or_true, true_and, and_true, false_and, and_false, not_true_eq_false, not_false_eq_true, reduceIte, wW_a5, hkk] at h ⊢
      rw [h, List.append_assoc]
    · rw [if_neg hf, decide_eq_false hf, if_neg (by decide), List.nil_append]
      have h := hgo l (by omega)
      simp (disch := omega) only [zI_le, zI_lt, zI_inj, zI_z, zI_lz, zI_zl, zI_neg, zI_nat, zI_add, zI_one, zI_mul, zI_ne1, zI_1n, leT, leF, ltT, ltF, eqT, eqF, if_true, if_false, Option.bind_some, false_or, or_false, true_or, or_true, true_and, and_true, false_and, and_false, not_true_eq_false, not_false_eq_true, reduceIte, wW_a5, hkk] at h ⊢
      exact h
end WOW
