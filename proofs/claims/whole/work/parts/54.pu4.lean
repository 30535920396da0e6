/-! the tables: kinds and fields -/
set_option maxRecDepth 100000 in
set_option maxHeartbeats 4000000 in
theorem wW_s20z (u : Md) (r : Rst) : si (wW u r) 20 0 = wW u (r.s_num (0)) := wW_s20 u r 0
set_option maxRecDepth 100000 in
set_option maxHeartbeats 4000000 in
theorem wW_s21z (u : Md) (r : Rst) : si (wW u r) 21 0 = wW u (r.s_words (0)) := wW_s21 u r 0
def nfT : List Nat := [0, 2, 3, 1, 4, 5, 4, 4, 2, 0]
/-- how many fields a kind has -/
def nfK (k : Fin 10) : Nat := nfT.getD k.val 0
def ffT : List (List (Fin 8)) := [[], [3, 0], [1, 1, 0], [4], [1, 1, 0, 5], [1, 1, 1, 6, 6], [1, 1, 0, 2], [1, 1, 1, 1], [0, 0], []]
/-- which they are -/
def ffK (k : Fin 10) (i : Nat) : Fin 8 := (ffT.getD k.val []).getD i 0
set_option maxRecDepth 100000 in
set_option maxHeartbeats 4000000 in
theorem nf_le (k : Fin 10) : nfK k ≤ 5 := by revert k; decide
set_option maxRecDepth 100000 in
set_option maxHeartbeats 4000000 in
theorem kN_val (k : Fin 10) : kNum k = zI k.val := by revert k; decide
set_option maxRecDepth 100000 in
set_option maxHeartbeats 4000000 in
theorem fk_N (k : Fin 10) : fk10 (zI k.val) = k := by revert k; decide
set_option maxRecDepth 100000 in
set_option maxHeartbeats 4000000 in
theorem t_fields (k : Fin 10) : fx_X2_fields k = some (zI (nfK k)) := by revert k; decide
set_option maxRecDepth 100000 in
set_option maxHeartbeats 4000000 in
theorem t_fieldAt (k : Fin 10) (i : Nat) (h : i < nfK k) : fx_X2_fieldAt k (zI i) = some (ffK k i) := by
  have h5 := nf_le k
  have hall : ∀ k : Fin 10, ∀ i : Fin 5, i.val < nfK k → fx_X2_fieldAt k (zI i.val) = some (ffK k i.val) := by decide
  exact hall k ⟨i, by omega⟩ h
set_option maxRecDepth 100000 in
set_option maxHeartbeats 4000000 in
theorem t_canBe (a b : Fin 10) : f9_canBe (zI a.val) (zI b.val) = fx_X2_mayBeIn a b := by revert a b; decide
set_option maxRecDepth 100000 in
set_option maxHeartbeats 4000000 in
theorem t_may (a b : Fin 10) : fx_X2_mayBeIn a b = some 0 ∨ fx_X2_mayBeIn a b = some 1 := by revert a b; decide
/-- how many of the fields are in a text of version v -/
def nfV (k : Fin 10) (v : Nat) : Nat := if (k.val = 4 ∧ v < 2) ∨ (k.val = 6 ∧ v < 3) then nfK k - 1 else nfK k
set_option maxRecDepth 100000 in
set_option maxHeartbeats 4000000 in
theorem t_since (k : Fin 10) (v i : Nat) (h1 : 1 ≤ v) (h3 : v ≤ 3) (h : i < nfK k) : (zI v < fSince (ffK k i)) = (nfV k v ≤ i) := by
  have h5 := nf_le k
  have hall : ∀ k : Fin 10, ∀ i : Fin 5, ∀ v : Fin 4, 1 ≤ v.val → i.val < nfK k → (decide (zI v.val < fSince (ffK k i.val)) = decide (nfV k v.val ≤ i.val)) := by decide
  have := hall k ⟨i, by omega⟩ ⟨v, by omega⟩ h1 h
  exact propext (decide_eq_decide.mp this)
set_option maxRecDepth 100000 in
set_option maxHeartbeats 4000000 in
theorem t_fieldsIn (k : Fin 10) (v : Nat) (h3 : v ≤ 3) : f9_fieldsIn (zI k.val) (zI v) = some (zI (nfV k v)) := by
  have hall : ∀ k : Fin 10, ∀ v : Fin 4, f9_fieldsIn_2 8 (zI k.val) (zI v.val) 0 = some (zI (nfV k v.val)) := by decide
  have h := hall k ⟨v, by omega⟩
  have mono : ∀ F x0 x1 x2 y, f9_fieldsIn_2 F x0 x1 x2 = some y → ∀ G, f9_fieldsIn_2 (F + G) x0 x1 x2 = some y := by
    intro F
    induction F with
    | zero => intro x0 x1 x2 y h; unfold f9_fieldsIn_2 at h; cases h
    | succ F ih =>
      intro x0 x1 x2 y h G
      rw [show F + 1 + G = (F + G) + 1 by omega]
      unfold f9_fieldsIn_2 at h ⊢
      cases hf : f9_field x0 x2 with
      | none => rw [hf] at h; cases h
      | some r =>
        rw [hf] at h
        simp only [Option.bind_some] at h ⊢
        by_cases hr : r = 0
        · rw [if_pos hr] at h ⊢; exact h
        · rw [if_neg hr] at h ⊢; exact ih _ _ _ _ h G
  unfold f9_fieldsIn
  exact mono 8 _ _ _ _ h 999992
set_option maxRecDepth 100000 in
set_option maxHeartbeats 4000000 in
theorem t_field (k : Fin 10) (i : Nat) (h : i < nfK k) : f9_field (zI k.val) (zI i) = some (if fSort (ffK k i) = 0 then 3 else if fSort (ffK k i) = 1 then 1 else 2) := by
  have h5 := nf_le k
  have hall : ∀ k : Fin 10, ∀ i : Fin 5, i.val < nfK k → f9_field (zI k.val) (zI i.val) = some (if fSort (ffK k i.val) = 0 then 3 else if fSort (ffK k i.val) = 1 then 1 else 2) := by decide
  exact hall k ⟨i, by omega⟩ h
set_option maxRecDepth 100000 in
set_option maxHeartbeats 4000000 in
theorem t_least (k : Fin 10) (i : Nat) (h : i < nfK k) (ht : fSort (ffK k i) ≠ 0) : f9_least (zI k.val) (zI i) = some (fLow (ffK k i)) ∧ f9_most (zI k.val) (zI i) = some (fHigh (ffK k i)) := by
  have h5 := nf_le k
  have hall : ∀ k : Fin 10, ∀ i : Fin 5, i.val < nfK k → fSort (ffK k i.val) ≠ 0 → f9_least (zI k.val) (zI i.val) = some (fLow (ffK k i.val)) ∧ f9_most (zI k.val) (zI i.val) = some (fHigh (ffK k i.val)) := by decide
  exact hall k ⟨i, by omega⟩ h ht
set_option maxRecDepth 100000 in
set_option maxHeartbeats 4000000 in
theorem t_numbered (a : Nat) (h : a < 10) : fx_X2_numbered (zI a) = some ⟨a, h⟩ := by
  have hall : ∀ a : Fin 10, fx_X2_numbered (zI a.val) = some a := by decide
  exact hall ⟨a, h⟩
set_option maxRecDepth 100000 in
set_option maxHeartbeats 4000000 in
theorem t_numberedN : fx_X2_numbered (-1) = some 9 := by decide
/-- how many texts, or else numbers, a kind has -/
def cntT : List (Nat × Nat) := [(0, 0), (1, 1), (2, 1), (1, 0), (3, 1), (5, 0), (3, 1), (4, 0), (0, 2), (0, 0)]
def cntK (k : Fin 10) (b : Bool) : Nat := if b = true then (cntT.getD k.val (0, 0)).2 else (cntT.getD k.val (0, 0)).1
/-- which number or text the field at a place is: those of its sort ahead of it -/
def ahd (k : Fin 10) (b : Bool) : Nat → Nat
  | 0 => 0
  | i + 1 => ahd k b i + if decide (fSort (ffK k i) = 0) = b then 1 else 0
set_option maxRecDepth 100000 in
set_option maxHeartbeats 4000000 in
theorem ahd_lt (k : Fin 10) (i : Nat) (h : i < nfK k) : ahd k (decide (fSort (ffK k i) = 0)) i < cntK k (decide (fSort (ffK k i) = 0)) := by
  have h5 := nf_le k
  have hall : ∀ k : Fin 10, ∀ i : Fin 5, i.val < nfK k → ahd k (decide (fSort (ffK k i.val) = 0)) i.val < cntK k (decide (fSort (ffK k i.val) = 0)) := by decide
  exact hall k ⟨i, by omega⟩ h
set_option maxRecDepth 100000 in
set_option maxHeartbeats 4000000 in
theorem cnt_le (k : Fin 10) : cntK k true ≤ 2 ∧ cntK k false ≤ 5 := by revert k; decide
/-! names -/
def LkT : List (List Nat) := [[4, 5, 19, 9, 7, 14], [19, 8, 5, 5, 20], [19, 25, 13, 2, 15, 12], [21, 14, 9, 20], [16, 9, 14], [1, 18, 3], [14, 15, 20, 5], [23, 9, 18, 5], [6, 9, 5, 12, 4]]
def Lk (k : Nat) : List Nat := LkT.getD k []
def lvN : List Nat → Nat → Nat
  | [], a => a
  | x :: l, a => lvN l (27 * a + x)
/-- the letter that a character is -/
def ltr (c : Int32) : Nat := c.toNatClampNeg - 96
set_option maxRecDepth 100000 in
set_option maxHeartbeats 4000000 in
theorem isS_ex {c : Int32} (h : isS c = true) : 1 ≤ ltr c ∧ ltr c ≤ 26 ∧ c = zI (96 + ltr c) := by
  unfold isS at h
  simp only [Bool.and_eq_true, Bool.not_eq_true', decide_eq_false_iff_not] at h
  have h1 := h.1
  have h2 := h.2
  rw [Int32.lt_iff_toInt_lt] at h1 h2
  have e1 : (97 : Int32).toInt = 97 := rfl
  have e2 : (122 : Int32).toInt = 122 := rfl
  rw [e1] at h1
  rw [e2] at h2
  have hl : ltr c = c.toInt.toNat - 96 := rfl
  refine ⟨by omega, by omega, ?_⟩
  apply Int32.toInt_inj.mp
  rw [zI_toInt (by omega)]
  omega
def nvN (t : Nat → Int32) : Nat → Nat → Nat → Nat
  | _, 0, a => a
  | p, j + 1, a => nvN t (p + 1) j (27 * a + ltr (t p))
def mtN (t : Nat → Int32) : List Nat → Nat → Bool
  | [], _ => true
  | x :: l, p => decide (t p = zI (96 + x)) && mtN t l (p + 1)
set_option maxRecDepth 100000 in
set_option maxHeartbeats 4000000 in
theorem nv_mt (t : Nat → Int32) : ∀ (l : List Nat) (p a b : Nat), (∀ x ∈ l, 1 ≤ x ∧ x ≤ 26) → (∀ i, p ≤ i → i < p + l.length → isS (t i) = true) → (nvN t p l.length a = lvN l b ↔ a = b ∧ mtN t l p = true)
  | [], p, a, b, _, _ => by simp [nvN, lvN, mtN]
  | x :: l, p, a, b, hx, hs => by
    have h1 := hx x (List.mem_cons_self ..)
    have h2 := isS_ex (hs p (Nat.le_refl _) (by simp))
    have ih := nv_mt t l (p + 1) (27 * a + ltr (t p)) (27 * b + x) (fun y hy => hx y (List.mem_cons_of_mem _ hy)) (fun i h3 h4 => hs i (by omega) (by simp only [List.length_cons]; omega))
    show nvN t (p + 1) l.length (27 * a + ltr (t p)) = lvN l (27 * b + x) ↔ _
    rw [ih]
    show _ ↔ a = b ∧ (decide (t p = zI (96 + x)) && mtN t l (p + 1)) = true
    rw [Bool.and_eq_true, decide_eq_true_iff]
    constructor
    · intro h
      refine ⟨by omega, ?_, h.2⟩
      rw [h2.2.2, show ltr (t p) = x by omega]
    · intro h
      have h3 := h.2.1
      have h4 : ltr (t p) = x := by
        rw [h2.2.2, zI_inj (by omega) (by omega)] at h3
        omega
      refine ⟨by omega, h.2.2⟩
set_option maxRecDepth 100000 in
set_option maxHeartbeats 4000000 in
theorem nv_bd (t : Nat → Int32) : ∀ (j p a : Nat), (∀ i, p ≤ i → i < p + j → isS (t i) = true) → 27 ^ j * a ≤ nvN t p j a ∧ nvN t p j a < 27 ^ j * (a + 1)
  | 0, p, a, _ => by simp [nvN]
  | j + 1, p, a, hs => by
    have h2 := isS_ex (hs p (Nat.le_refl _) (by omega))
    have ih := nv_bd t j (p + 1) (27 * a + ltr (t p)) (fun i h3 h4 => hs i (by omega) (by omega))
    show _ ≤ nvN t (p + 1) j (27 * a + ltr (t p)) ∧ nvN t (p + 1) j (27 * a + ltr (t p)) < _
    rw [Nat.pow_succ, Nat.mul_assoc, Nat.mul_assoc]
    have hA : 27 ^ j * (27 * a) ≤ 27 ^ j * (27 * a + ltr (t p)) := Nat.mul_le_mul_left _ (by omega)
    have hB : 27 ^ j * (27 * a + ltr (t p) + 1) ≤ 27 ^ j * (27 * (a + 1)) := Nat.mul_le_mul_left _ (by omega)
    exact ⟨by omega, by omega⟩
set_option maxRecDepth 100000 in
set_option maxHeartbeats 4000000 in
theorem Lk_ok (k : Nat) (h : k < 9) : (∀ x ∈ Lk k, 1 ≤ x ∧ x ≤ 26) ∧ 3 ≤ (Lk k).length ∧ (Lk k).length ≤ 6 ∧ 27 ^ ((Lk k).length - 1) ≤ lvN (Lk k) 0 ∧ lvN (Lk k) 0 < 27 ^ (Lk k).length := by
  have hall : ∀ k : Fin 9, (∀ x ∈ Lk k.val, 1 ≤ x ∧ x ≤ 26) ∧ 3 ≤ (Lk k.val).length ∧ (Lk k.val).length ≤ 6 ∧ 27 ^ ((Lk k.val).length - 1) ≤ lvN (Lk k.val) 0 ∧ lvN (Lk k.val) 0 < 27 ^ (Lk k.val).length := by decide
  exact hall ⟨k, h⟩
/-- the number that a name is read as -/
def nmN (t : Nat → Int32) (p q : Nat) : Nat := if q - p < 7 then nvN t p (q - p) 0 else 0
set_option maxRecDepth 100000 in
set_option maxHeartbeats 4000000 in
theorem nm_key (t : Nat → Int32) {p q : Nat} (hpq : p < q) (hs : ∀ i, p ≤ i → i < q → isS (t i) = true) (k : Nat) (hk : k < 9) : (lvN (Lk k) 0 = nmN t p q) ↔ ((Lk k).length = q - p ∧ mtN t (Lk k) p = true) := by
  obtain ⟨h1, h3, h6, hlo, hhi⟩ := Lk_ok k hk
  unfold nmN
  by_cases h7 : q - p < 7
  · rw [if_pos h7]
    by_cases hl : (Lk k).length = q - p
    · have h := nv_mt t (Lk k) p 0 0 h1 (fun i h4 h5 => hs i h4 (by omega))
      rw [hl] at h
      constructor
      · intro e; exact ⟨hl, (h.mp e.symm).2⟩
      · intro e; exact (h.mpr ⟨rfl, e.2⟩).symm
    · constructor
      · intro e
        exfalso
        have hp := isS_ex (hs p (Nat.le_refl _) hpq)
        have hb := nv_bd t (q - p - 1) (p + 1) (27 * 0 + ltr (t p)) (fun i h4 h5 => hs i (by omega) (by omega))
        have hnv : nvN t p (q - p) 0 = nvN t (p + 1) (q - p - 1) (27 * 0 + ltr (t p)) := by
          rw [show q - p = (q - p - 1) + 1 by omega]; rfl
        rw [hnv] at e
        have hA : 27 ^ (q - p - 1) * 1 ≤ 27 ^ (q - p - 1) * (27 * 0 + ltr (t p)) := Nat.mul_le_mul_left _ (by omega)
        have hB : 27 ^ (q - p - 1) * (27 * 0 + ltr (t p) + 1) ≤ 27 ^ (q - p - 1) * 27 := Nat.mul_le_mul_left _ (by omega)
        have hC : 27 ^ (q - p - 1) * 27 = 27 ^ (q - p) := by rw [← Nat.pow_succ, show (q - p - 1).succ = q - p by omega]
        by_cases hlt : (Lk k).length < q - p
        · have hD : 27 ^ (Lk k).length ≤ 27 ^ (q - p - 1) := Nat.pow_le_pow_right (by omega) (by omega)
          omega
        · have hD : 27 ^ (q - p) ≤ 27 ^ ((Lk k).length - 1) := Nat.pow_le_pow_right (by omega) (by omega)
          omega
      · intro e; exact absurd e.1 hl
  · rw [if_neg h7]
    have hD : 0 < 27 ^ ((Lk k).length - 1) := Nat.pow_pos (by omega)
    constructor
    · intro e; exfalso; omega
    · intro e; exfalso; have := e.1; omega
set_option maxRecDepth 100000 in
set_option maxHeartbeats 4000000 in
theorem zL_inj {a b : Nat} (ha : a < 2 ^ 63) (hb : b < 2 ^ 63) : (zL a = zL b) = (a = b) := by
  apply propext
  constructor
  · intro h
    have h2 := congrArg Int64.toInt h
    unfold zL at h2
    rw [Int64.toInt_ofNat_of_lt ha, Int64.toInt_ofNat_of_lt hb] at h2
    omega
  · intro h; rw [h]
/-- the first kind of that name from one on, at most j -/
def kkN (v : Nat) : Nat → Nat → Nat
  | 0, _ => 9
  | j + 1, k => if lvN (Lk k) 0 = v then k else kkN v j (k + 1)
theorem kkN_s (v j k : Nat) : kkN v (j + 1) k = if lvN (Lk k) 0 = v then k else kkN v j (k + 1) := id rfl
set_option maxRecDepth 100000 in
set_option maxHeartbeats 4000000 in
theorem kkN_le (v : Nat) : ∀ j k, k + j = 9 → kkN v j k ≤ 9
  | 0, k, _ => Nat.le_refl 9
  | j + 1, k, h => by
    unfold kkN
    split
    · omega
    · exact kkN_le v j (k + 1) (by omega)
section NAM
variable {uS u : Md} {t : Nat → Int32} {n : Nat}
set_option maxRecDepth 100000 in
set_option maxHeartbeats 4000000 in
theorem q_kind47 {v : Nat} (hv : v < 2 ^ 63) : ∀ j k F, k + j = 9 → j < F → f9_kindAt_47 u F (zL v) (zI k) = some (zI (kkN v j k)) := by
  intro j
  induction j with
  | zero =>
    intro k F hk hF
    obtain ⟨F, rfl⟩ : ∃ F', F = F' + 1 := ⟨F - 1, by omega⟩
    unfold f9_kindAt_47
    rw [if_pos (by rw [show (9 : Int32) = zI 9 from rfl, zI_le (by omega) (by omega)]; omega)]
    rfl
  | succ j ih =>
    intro k F hk hF
    obtain ⟨F, rfl⟩ : ∃ F', F = F' + 1 := ⟨F - 1, by omega⟩
    have hall : ∀ k : Fin 9, f9_nameOf (zI k.val) = some (zL (lvN (Lk k.val) 0)) ∧ lvN (Lk k.val) 0 < 2 ^ 63 := by decide
    have hn := hall ⟨k, by omega⟩
    unfold f9_kindAt_47
    rw [if_neg (by rw [show (9 : Int32) = zI 9 from rfl, zI_le (by omega) (by omega)]; omega), hn.1, zI_one, ih (k + 1) F (by omega) (by omega)]
    simp only [Option.bind_some, lg_cmp_eq]
    have hz := zL_inj (a := lvN (Lk k) 0) hn.2 hv
    simp only [hz]
    rw [kkN_s]
    by_cases he : lvN (Lk k) 0 = v
    · rw [if_pos he, if_pos he]
    · rw [if_neg he, if_neg he]
set_option maxRecDepth 100000 in
set_option maxHeartbeats 4000000 in
theorem zI_lt9 {c : Int32} (h : isS c = true) (a : Nat) : (27 * zL a + c.toInt64) - 96 = zL (27 * a + ltr c) := by
  obtain ⟨h1, h2, hc⟩ := isS_ex h
  generalize hd : ltr c = d at *
  rw [hc, zI_L (by omega), show (27 : Int64) = zL 27 from rfl, zL_mul, zL_add, show (96 : Int64) = zL 96 from rfl, show 27 * a + (96 + d) = 27 * a + d + 96 by omega, zL_sub]
set_option maxRecDepth 100000 in
set_option maxHeartbeats 4000000 in
theorem q_kind5 (h : ROk u t n) {p q : Nat} (hq : q ≤ n) (h7 : q - p < 7) : ∀ j i F a, q - i = j → j < F → p ≤ i → i ≤ q → (∀ x, p ≤ x → x < q → isS (t x) = true) → f9_kindAt_5 u F (zI p) (zI q) (zL a) (zI i) = f9_kindAt_44 u (zL (nvN t i j a)) := by
  have hn := h.le
  intro j
  induction j with
  | zero =>
    intro i F a hj hF hp hi hall
    obtain ⟨F, rfl⟩ : ∃ F', F = F' + 1 := ⟨F - 1, by omega⟩
    simp (disch := omega) only [f9_kindAt_5, zI_le, zI_lt, zI_inj, zI_z, zI_lz, zI_zl, zI_neg, zI_nat, zI_add, zI_one, zI_mul, zI_ne1, zI_1n, leT, leF, ltT, ltF, eqT, eqF, if_true, if_false, Option.bind_some, false_or, or_false, true_or, or_true, true_and, and_true, false_and, and_false, not_true_eq_false, not_false_eq_true, reduceIte]
    rfl
  | succ j ih =>
    intro i F a hj hF hp hi hall
    obtain ⟨F, rfl⟩ : ∃ F', F = F' + 1 := ⟨F - 1, by omega⟩
    simp (disch := omega) only [f9_kindAt_5, h.tx, show (7 : Int32) = zI 7 from rfl, zI_sub, zI_le, zI_lt, zI_inj, zI_z, zI_lz, zI_zl, zI_neg, zI_nat, zI_add, zI_one, zI_mul, zI_ne1, zI_1n, leT, leF, ltT, ltF, eqT, eqF, if_true, if_false, Option.bind_some, false_or, or_false, true_or, or_true, true_and, and_true, false_and, and_false, not_true_eq_false, not_false_eq_true, reduceIte]
    rw [zI_lt9 (hall i hp (by omega)), ih (i + 1) F _ (by omega) (by omega) (by omega) (by omega) hall]
    rfl
set_option maxRecDepth 100000 in
set_option maxHeartbeats 4000000 in
/-- the reference's kind of a name -/
theorem q_kindAt (h : ROk u t n) {p q : Nat} (hpq : p < q) (hq : q ≤ n) (hs : ∀ i, p ≤ i → i < q → isS (t i) = true) : f9_kindAt u (zI p) (zI q) = some (zI (kkN (nmN t p q) 9 0)) := by
  have hn := h.le
  unfold f9_kindAt nmN
  by_cases h7 : q - p < 7
  · rw [if_pos h7, show (0 : Int64) = zL 0 from rfl, q_kind5 h hq h7 (q - p) p FU 0 rfl (by unfold FU; omega) (by omega) (by omega) hs]
    have hb := nv_bd t (q - p) p 0 (fun i h3 h4 => hs i h3 (by omega))
    have hB : 27 ^ (q - p) ≤ 27 ^ 6 := Nat.pow_le_pow_right (by omega) (by omega)
    exact q_kind47 (by omega) 9 0 FU rfl (by unfold FU; omega)
  · rw [if_neg h7]
    have hF : FU = 999999 + 1 := rfl
    rw [hF]
    unfold f9_kindAt_5
    rw [if_neg (by rw [zI_le (by omega) (by omega)]; omega), if_pos (by rw [zI_sub (by omega) (by omega), show (7 : Int32) = zI 7 from rfl, zI_le (by omega) (by omega)]; omega)]
    exact q_kind47 (v := 0) (by omega) 9 0 FU rfl (by unfold FU; omega)
set_option maxRecDepth 100000 in
set_option maxHeartbeats 4000000 in
theorem t_title : ∀ k : Fin 9, fx_J0_length (kTitle (fk10 (zI k.val))) = some (zI (Lk k.val).length) ∧ ∀ i : Fin 6, i.val < (Lk k.val).length → fx_J0_charAt (kTitle (fk10 (zI k.val))) (zI i.val) = some (zI (96 + (Lk k.val).getD i.val 0)) := by decide
set_option maxRecDepth 100000 in
set_option maxHeartbeats 4000000 in
theorem t_title9 : fx_J0_length (kTitle (fk10 (zI 9))) = some (zI 0) := by decide
set_option maxRecDepth 100000 in
set_option maxHeartbeats 4000000 in
theorem p_reads (h : SOk uS t n) {p : Nat} (k : Nat) (hk : k < 9) (hp : p + (Lk k).length ≤ n) : ∀ j i F, (Lk k).length - i = j → j < F → i ≤ (Lk k).length → fx_X6_reads_15 uS F (kTitle (fk10 (zI k))) (zI p) (zI i) = some (bI (mtN t ((Lk k).drop i) (p + i))) := by
  have hn := h.le
  have hl := Lk_ok k hk
  have ht := t_title ⟨k, hk⟩
  intro j
  induction j with
  | zero =>
    intro i F hj hF hi
    obtain ⟨F, rfl⟩ : ∃ F', F = F' + 1 := ⟨F - 1, by omega⟩
    unfold fx_X6_reads_15
    rw [ht.1]
    simp only [Option.bind_some]
    rw [if_pos (by rw [zI_le (by omega) (by omega)]; omega), List.drop_eq_nil_of_le (by omega)]
    rfl
  | succ j ih =>
    intro i F hj hF hi
    obtain ⟨F, rfl⟩ : ∃ F', F = F' + 1 := ⟨F - 1, by omega⟩
    have hi2 : i < (Lk k).length := by omega
    have hc := ht.2 ⟨i, by omega⟩ hi2
    unfold fx_X6_reads_15
    rw [ht.1]
    simp only [Option.bind_some]
    rw [if_neg (by rw [zI_le (by omega) (by omega)]; omega), zI_add, p_markAt h (by omega), cAt_in (by omega)]
    simp only [Option.bind_some]
    rw [hc]
    simp only [Option.bind_some]
    have e := ih (i + 1) F (by omega) (by omega) (by omega)
    rw [zI_one, e, List.drop_eq_getElem_cons hi2, show p + (i + 1) = p + i + 1 from rfl]
    have hg : (Lk k).getD i 0 = (Lk k)[i] := by rw [List.getD_eq_getElem?_getD, List.getElem?_eq_getElem hi2]; rfl
    rw [hg]
    show _ = some (bI (decide (t (p + i) = zI (96 + (Lk k)[i])) && mtN t ((Lk k).drop (i + 1)) (p + i + 1)))
    by_cases hd : t (p + i) = zI (96 + (Lk k)[i])
    · rw [if_pos hd, decide_eq_true hd, Bool.true_and]
    · rw [if_neg hd, decide_eq_false hd, Bool.false_and]
      rfl
set_option maxRecDepth 100000 in
set_option maxHeartbeats 4000000 in
theorem p_kind11 (h : SOk uS t n) {p q : Nat} (hpq : p < q) (hq : q ≤ n) (hs : ∀ i, p ≤ i → i < q → isS (t i) = true) : ∀ j k F, k + j = 9 → j + 1 < F → fx_X6_kindNamed_11 uS F (zI p) (zI q) 10 (zI k) = some (fk10 (zI (kkN (nmN t p q) j k))) := by
  have hn := h.le
  intro j
  induction j with
  | zero =>
    intro k F hk hF
    obtain ⟨F, rfl⟩ : ∃ F', F = F' + 1 + 1 := ⟨F - 2, by omega⟩
    have hk9 : k = 9 := by omega
    subst hk9
    unfold fx_X6_kindNamed_11
    rw [if_neg (by decide), if_neg (by decide)]
    unfold fx_X6_reads
    rw [t_title9]
    simp only [Option.bind_some]
    rw [if_neg (by rw [zI_sub (by omega) (by omega), zI_inj (by omega) (by omega)]; omega)]
    simp only [Option.bind_some]
    rw [if_pos trivial]
    unfold fx_X6_kindNamed_11
    rw [if_pos (by decide)]
    rfl
  | succ j ih =>
    intro k F hk hF
    obtain ⟨F, rfl⟩ : ∃ F', F = F' + 1 := ⟨F - 1, by omega⟩
    have hk9 : k < 9 := by omega
    have hl := Lk_ok k hk9
    have key := nm_key t hpq hs k hk9
    unfold fx_X6_kindNamed_11
    rw [if_neg (by rw [show (10 : Int32) = zI 10 from rfl, zI_le (by omega) (by omega)]; omega), if_neg (by rw [zI_neg (by omega), zI_nat (by omega), false_or]; omega)]
    unfold fx_X6_reads
    rw [(t_title ⟨k, hk9⟩).1]
    simp only [Option.bind_some]
    rw [zI_one, ih (k + 1) F (by omega) (by omega)]
    rw [kkN_s]
    by_cases hlen : (Lk k).length = q - p
    · rw [if_pos (by rw [zI_sub (by omega) (by omega), zI_inj (by omega) (by omega)]; exact hlen), show (0 : Int32) = zI 0 from rfl, p_reads h k hk9 (by omega) _ 0 FU rfl (by unfold FU; omega) (by omega)]
      simp only [Option.bind_some]
      rw [List.drop_zero, Nat.add_zero]
      by_cases hm : mtN t (Lk k) p = true
      · rw [if_neg (by rw [hm]; decide), if_pos (key.mpr ⟨hlen, hm⟩)]
      · rw [if_pos (by rw [Bool.eq_false_iff.mpr hm]; rfl), if_neg (fun e => hm (key.mp e).2)]
    · rw [if_neg (by rw [zI_sub (by omega) (by omega), zI_inj (by omega) (by omega)]; exact hlen)]
      simp only [Option.bind_some]
      rw [if_pos trivial, if_neg (fun e => hlen (key.mp e).1)]
set_option maxRecDepth 100000 in
set_option maxHeartbeats 4000000 in
/-- the program's -/
theorem p_kindNamed (h : SOk uS t n) {p q : Nat} (hpq : p < q) (hq : q ≤ n) (hs : ∀ i, p ≤ i → i < q → isS (t i) = true) : fx_X6_kindNamed uS (zI p) (zI q) = some (fk10 (zI (kkN (nmN t p q) 9 0))) := p_kind11 h hpq hq hs 9 0 FU rfl (by unfold FU; omega)
end NAM
