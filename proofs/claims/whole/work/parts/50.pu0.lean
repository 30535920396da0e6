/-! PURE PART: small naturals as Int32, states, the text -/
def zI (n : Nat) : Int32 := Int32.ofNat n
set_option maxRecDepth 100000 in
set_option maxHeartbeats 4000000 in
theorem zI_toInt {n : Nat} (h : n < 2147483648) : (zI n).toInt = (n : Int) := Int32.toInt_ofNat_of_lt h
set_option maxRecDepth 100000 in
set_option maxHeartbeats 4000000 in
theorem zI_add (a b : Nat) : zI a + zI b = zI (a + b) := (Int32.ofNat_add a b).symm
set_option maxRecDepth 100000 in
set_option maxHeartbeats 4000000 in
theorem zI_one (a : Nat) : zI a + 1 = zI (a + 1) := zI_add a 1
theorem zI_lit (a : Nat) : (OfNat.ofNat a : Int32) = zI a := id rfl
set_option maxRecDepth 100000 in
set_option maxHeartbeats 4000000 in
theorem zI_le {a b : Nat} (ha : a < 2147483648) (hb : b < 2147483648) : (zI a ≤ zI b) = (a ≤ b) := by
  apply propext
  rw [Int32.le_iff_toInt_le, zI_toInt ha, zI_toInt hb]
  omega
set_option maxRecDepth 100000 in
set_option maxHeartbeats 4000000 in
theorem zI_lt {a b : Nat} (ha : a < 2147483648) (hb : b < 2147483648) : (zI a < zI b) = (a < b) := by
  apply propext
  rw [Int32.lt_iff_toInt_lt, zI_toInt ha, zI_toInt hb]
  omega
set_option maxRecDepth 100000 in
set_option maxHeartbeats 4000000 in
theorem zI_inj {a b : Nat} (ha : a < 2147483648) (hb : b < 2147483648) : (zI a = zI b) = (a = b) := by
  apply propext
  constructor
  · intro h
    have h2 := congrArg Int32.toInt h
    rw [zI_toInt ha, zI_toInt hb] at h2
    omega
  · intro h
    rw [h]
set_option maxRecDepth 100000 in
set_option maxHeartbeats 4000000 in
theorem zI_neg {a : Nat} (ha : a < 2147483648) : (zI a < 0) = False := by
  rw [show (0 : Int32) = zI 0 from rfl, zI_lt ha (by omega)]
  exact eq_false (by omega)
set_option maxRecDepth 100000 in
set_option maxHeartbeats 4000000 in
theorem zI_nat {a : Nat} (ha : a < 2147483648) : (zI a).toNatClampNeg = a := by
  show (zI a).toInt.toNat = a
  rw [zI_toInt ha]
  rfl
set_option maxRecDepth 100000 in
set_option maxHeartbeats 4000000 in
theorem zI_ne1 {a : Nat} (ha : a < 2147483648) : (zI a = -1) = False := by
  apply eq_false
  intro h
  have h2 := congrArg Int32.toInt h
  rw [zI_toInt ha] at h2
  have h3 : ((-1 : Int32)).toInt = -1 := rfl
  rw [h3] at h2
  omega
set_option maxRecDepth 100000 in
set_option maxHeartbeats 4000000 in
theorem zI_sub {a b : Nat} (h : b ≤ a) (ha : a < 2147483648) : zI a - zI b = zI (a - b) := by
  apply Int32.toInt_inj.mp
  rw [Int32.toInt_sub, zI_toInt ha, zI_toInt (by omega), zI_toInt (by omega), show ((a : Int) - (b : Int)) = ((a - b : Nat) : Int) by omega]
  exact Int.bmod_eq_of_le (by omega) (by omega)
theorem gi_si (u : Md) (k j : Nat) (v : Int32) : gi (si u k v) j = if j = k then v else gi u j := id rfl
theorem gi_sl (u : Md) (j : Nat) (v : Int64) : gi (sl u v) j = gi u j := id rfl
theorem gi_sa (u : Md) (k j : Nat) (f : Nat → Int32) : gi (sa u k f) j = gi u j := id rfl
theorem gi_sn (u : Md) (j : Nat) (f : Nat → Int64) : gi (sn u f) j = gi u j := id rfl
theorem ga_si (u : Md) (k j : Nat) (v : Int32) : ga (si u k v) j = ga u j := id rfl
theorem ga_sl (u : Md) (j : Nat) (v : Int64) : ga (sl u v) j = ga u j := id rfl
theorem ga_sa (u : Md) (k j : Nat) (f : Nat → Int32) : ga (sa u k f) j = if j = k then f else ga u j := id rfl
theorem ga_sn (u : Md) (j : Nat) (f : Nat → Int64) : ga (sn u f) j = ga u j := id rfl
theorem gl_si (u : Md) (k : Nat) (v : Int32) : gl (si u k v) = gl u := id rfl
theorem gl_sl (u : Md) (v : Int64) : gl (sl u v) = v := id rfl
theorem gl_sa (u : Md) (k : Nat) (f : Nat → Int32) : gl (sa u k f) = gl u := id rfl
theorem gl_sn (u : Md) (f : Nat → Int64) : gl (sn u f) = gl u := id rfl
theorem gn_si (u : Md) (k : Nat) (v : Int32) : gn (si u k v) = gn u := id rfl
theorem gn_sl (u : Md) (v : Int64) : gn (sl u v) = gn u := id rfl
theorem gn_sa (u : Md) (k : Nat) (f : Nat → Int32) : gn (sa u k f) = gn u := id rfl
theorem gn_sn (u : Md) (f : Nat → Int64) : gn (sn u f) = f := id rfl
theorem upd_at (f : Nat → Int32) (k j : Nat) (x : Int32) : upd f k x j = if j = k then x else f j := id rfl
theorem updL_at (f : Nat → Int64) (k j : Nat) (x : Int64) : vp_updL f k x j = if j = k then x else f j := id rfl
set_option maxRecDepth 100000 in
set_option maxHeartbeats 4000000 in
theorem upd_upd (f : Nat → Int32) (k : Nat) (x y : Int32) : upd (upd f k x) k y = upd f k y := by
  funext j; simp only [upd_at]; split <;> rfl
set_option maxRecDepth 100000 in
set_option maxHeartbeats 4000000 in
theorem upd_self {f : Nat → Int32} {k : Nat} {x : Int32} (h : f k = x) : upd f k x = f := by
  funext j; simp only [upd_at]; split
  · rename_i e; rw [e, h]
  · rfl
set_option maxRecDepth 100000 in
set_option maxHeartbeats 4000000 in
theorem si_si (u : Md) (k : Nat) (a b : Int32) : si (si u k a) k b = si u k b := by
  show (upd (upd u.1 k a) k b, u.2) = (upd u.1 k b, u.2)
  rw [upd_upd]
set_option maxRecDepth 100000 in
set_option maxHeartbeats 4000000 in
theorem si_self {u : Md} {k : Nat} {v : Int32} (h : gi u k = v) : si u k v = u := by
  show (upd u.1 k v, u.2) = u
  have e : upd u.1 k v = u.1 := upd_self h
  rw [e]
theorem sl_sl (u : Md) (a b : Int64) : sl (sl u a) b = sl u b := id rfl
theorem sl_si (u : Md) (k : Nat) (v : Int32) (a : Int64) : sl (si u k v) a = si (sl u a) k v := id rfl
set_option maxRecDepth 100000 in
set_option maxHeartbeats 4000000 in
theorem sl_self {u : Md} {v : Int64} (h : gl u = v) : sl u v = u := by
  show (u.1, v, u.2.2) = u
  rw [← h]; rfl
/-- the character at a place of a text of n characters -/
def cAt (t : Nat → Int32) (n p : Nat) : Int32 := if p < n then t p else -1
set_option maxRecDepth 100000 in
set_option maxHeartbeats 4000000 in
theorem cAt_in {t : Nat → Int32} {n p : Nat} (h : p < n) : cAt t n p = t p := if_pos h
set_option maxRecDepth 100000 in
set_option maxHeartbeats 4000000 in
theorem cAt_out {t : Nat → Int32} {n p : Nat} (h : ¬ p < n) : cAt t n p = -1 := if_neg h
/-- how far a test holds, at most k characters on -/
def skF (P : Int32 → Bool) (t : Nat → Int32) : Nat → Nat → Nat
  | 0, p => p
  | k + 1, p => if P (t p) = true then skF P t k (p + 1) else p
def sk (P : Int32 → Bool) (t : Nat → Int32) (n p : Nat) : Nat := skF P t (n - p) p
set_option maxRecDepth 100000 in
set_option maxHeartbeats 4000000 in
theorem skF_ge (P : Int32 → Bool) (t : Nat → Int32) : ∀ k p, p ≤ skF P t k p ∧ skF P t k p ≤ p + k
  | 0, p => ⟨Nat.le_refl _, Nat.le_refl _⟩
  | k + 1, p => by
    unfold skF
    split
    · have h := skF_ge P t k (p + 1); omega
    · omega
set_option maxRecDepth 100000 in
set_option maxHeartbeats 4000000 in
theorem sk_ge {P : Int32 → Bool} {t : Nat → Int32} {n p : Nat} : p ≤ sk P t n p := (skF_ge P t _ p).1
set_option maxRecDepth 100000 in
set_option maxHeartbeats 4000000 in
theorem sk_le {P : Int32 → Bool} {t : Nat → Int32} {n p : Nat} (h : p ≤ n) : sk P t n p ≤ n := by
  have h2 := (skF_ge P t (n - p) p).2
  unfold sk; omega
set_option maxRecDepth 100000 in
set_option maxHeartbeats 4000000 in
theorem sk_out {P : Int32 → Bool} {t : Nat → Int32} {n p : Nat} (h : n ≤ p) : sk P t n p = p := by
  unfold sk; rw [show n - p = 0 by omega]; rfl
set_option maxRecDepth 100000 in
set_option maxHeartbeats 4000000 in
theorem sk_yes {P : Int32 → Bool} {t : Nat → Int32} {n p : Nat} (h : p < n) (hP : P (t p) = true) : sk P t n p = sk P t n (p + 1) := by
  unfold sk
  rw [show n - p = (n - (p + 1)) + 1 by omega]
  exact if_pos hP
set_option maxRecDepth 100000 in
set_option maxHeartbeats 4000000 in
theorem sk_no {P : Int32 → Bool} {t : Nat → Int32} {n p : Nat} (hP : ¬ P (t p) = true) : sk P t n p = p := by
  unfold sk
  cases h : n - p with
  | zero => rfl
  | succ k => exact if_neg hP
set_option maxRecDepth 100000 in
set_option maxHeartbeats 4000000 in
/-- behind the scan: the end, or a character of another sort -/
theorem sk_end {P : Int32 → Bool} {t : Nat → Int32} {n : Nat} : ∀ k p, n - p = k → p ≤ n → sk P t n p = n ∨ (sk P t n p < n ∧ ¬ P (t (sk P t n p)) = true) := by
  intro k
  induction k with
  | zero => intro p h hp; left; rw [sk_out (by omega)]; omega
  | succ k ih =>
    intro p h hp
    by_cases hP : P (t p) = true
    · rw [sk_yes (by omega) hP]; exact ih (p + 1) (by omega) (by omega)
    · right; rw [sk_no hP]; exact ⟨by omega, hP⟩
set_option maxRecDepth 100000 in
set_option maxHeartbeats 4000000 in
theorem sk_all {P : Int32 → Bool} {t : Nat → Int32} {n : Nat} : ∀ k p, n - p = k → ∀ j, p ≤ j → j < sk P t n p → P (t j) = true := by
  intro k
  induction k with
  | zero => intro p h j h1 h2; rw [sk_out (by omega)] at h2; omega
  | succ k ih =>
    intro p h j h1 h2
    by_cases hP : P (t p) = true
    · by_cases hj : j = p
      · rw [hj]; exact hP
      · rw [sk_yes (by omega) hP] at h2; exact ih (p + 1) (by omega) j (by omega) h2
    · rw [sk_no hP] at h2; omega
set_option maxRecDepth 100000 in
set_option maxHeartbeats 4000000 in
theorem zI_mul (a b : Nat) : zI a * zI b = zI (a * b) := (Int32.ofNat_mul a b).symm
set_option maxRecDepth 100000 in
set_option maxHeartbeats 4000000 in
theorem zI_z {a : Nat} (ha : a < 2147483648) : (zI a = 0) = (a = 0) := by
  rw [show (0 : Int32) = zI 0 from rfl, zI_inj ha (by omega)]
set_option maxRecDepth 100000 in
set_option maxHeartbeats 4000000 in
theorem zI_lz {a : Nat} (ha : a < 2147483648) : (zI a ≤ 0) = (a = 0) := by
  rw [show (0 : Int32) = zI 0 from rfl, zI_le ha (by omega)]; apply propext; omega
set_option maxRecDepth 100000 in
set_option maxHeartbeats 4000000 in
theorem zI_zl {a : Nat} (ha : a < 2147483648) : ((0 : Int32) ≤ zI a) = True := by
  rw [show (0 : Int32) = zI 0 from rfl, zI_le (by omega) ha]; exact eq_true (Nat.zero_le _)
set_option maxRecDepth 100000 in
set_option maxHeartbeats 4000000 in
theorem zI_1n {a : Nat} (ha : a < 2147483648) : ((-1 : Int32) = zI a) = False := by
  apply eq_false; intro h; rw [← zI_ne1 ha]; exact h.symm
set_option maxRecDepth 100000 in
set_option maxHeartbeats 4000000 in
theorem leT {a b : Nat} (h : a ≤ b) : (a ≤ b) = True := eq_true h
set_option maxRecDepth 100000 in
set_option maxHeartbeats 4000000 in
theorem leF {a b : Nat} (h : b < a) : (a ≤ b) = False := eq_false (by omega)
set_option maxRecDepth 100000 in
set_option maxHeartbeats 4000000 in
theorem ltT {a b : Nat} (h : a < b) : (a < b) = True := eq_true h
set_option maxRecDepth 100000 in
set_option maxHeartbeats 4000000 in
theorem ltF {a b : Nat} (h : b ≤ a) : (a < b) = False := eq_false (by omega)
set_option maxRecDepth 100000 in
set_option maxHeartbeats 4000000 in
theorem eqT {a b : Nat} (h : a = b) : (a = b) = True := eq_true h
set_option maxRecDepth 100000 in
set_option maxHeartbeats 4000000 in
theorem eqF {a b : Nat} (h : a ≠ b) : (a = b) = False := eq_false h
/-- the program's text, and the reference's -/
def SOk (uS : Md) (t : Nat → Int32) (n : Nat) : Prop := gi uS 1 = zI n ∧ ga uS 0 = t ∧ n ≤ 600
def ROk (u : Md) (t : Nat → Int32) (n : Nat) : Prop := gi u 3 = zI n ∧ ga u 2 = t ∧ n ≤ 600
set_option maxRecDepth 100000 in
set_option maxHeartbeats 4000000 in
theorem SOk.sz {uS : Md} {t : Nat → Int32} {n : Nat} (h : SOk uS t n) : gi uS 1 = zI n := h.1
set_option maxRecDepth 100000 in
set_option maxHeartbeats 4000000 in
theorem SOk.tx {uS : Md} {t : Nat → Int32} {n : Nat} (h : SOk uS t n) : ga uS 0 = t := h.2.1
set_option maxRecDepth 100000 in
set_option maxHeartbeats 4000000 in
theorem SOk.le {uS : Md} {t : Nat → Int32} {n : Nat} (h : SOk uS t n) : n ≤ 600 := h.2.2
set_option maxRecDepth 100000 in
set_option maxHeartbeats 4000000 in
theorem ROk.sz {u : Md} {t : Nat → Int32} {n : Nat} (h : ROk u t n) : gi u 3 = zI n := h.1
set_option maxRecDepth 100000 in
set_option maxHeartbeats 4000000 in
theorem ROk.tx {u : Md} {t : Nat → Int32} {n : Nat} (h : ROk u t n) : ga u 2 = t := h.2.1
set_option maxRecDepth 100000 in
set_option maxHeartbeats 4000000 in
theorem ROk.le {u : Md} {t : Nat → Int32} {n : Nat} (h : ROk u t n) : n ≤ 600 := h.2.2
def COk (t : Nat → Int32) (n : Nat) : Prop := ∀ p, p < n → (32 ≤ t p ∧ t p ≤ 126) ∨ t p = 10
/-- the source's state at place p, with fault f and value v -/
def sS (uS : Md) (p : Nat) (f : Int32) (v : Int64) : Md := sl (si (si uS 2 (zI p)) 3 f) v
theorem sS_1 (uS : Md) (p : Nat) (f : Int32) (v : Int64) : gi (sS uS p f v) 1 = gi uS 1 := id rfl
theorem sS_2 (uS : Md) (p : Nat) (f : Int32) (v : Int64) : gi (sS uS p f v) 2 = zI p := id rfl
theorem sS_3 (uS : Md) (p : Nat) (f : Int32) (v : Int64) : gi (sS uS p f v) 3 = f := id rfl
theorem sS_a (uS : Md) (p : Nat) (f : Int32) (v : Int64) (k : Nat) : ga (sS uS p f v) k = ga uS k := id rfl
theorem sS_l (uS : Md) (p : Nat) (f : Int32) (v : Int64) : gl (sS uS p f v) = v := id rfl
set_option maxRecDepth 100000 in
set_option maxHeartbeats 4000000 in
theorem sS_s2 (uS : Md) (p q : Nat) (f : Int32) (v : Int64) : si (sS uS p f v) 2 (zI q) = sS uS q f v := by
  refine Prod.ext (funext fun k => ?_) rfl
  by_cases h : k = 2 <;> by_cases h3 : k = 3 <;> simp [si, sl, sS, upd, h, h3]
set_option maxRecDepth 100000 in
set_option maxHeartbeats 4000000 in
theorem sS_s3 (uS : Md) (p : Nat) (f g : Int32) (v : Int64) : si (sS uS p f v) 3 g = sS uS p g v := by
  refine Prod.ext (funext fun k => ?_) rfl
  by_cases h3 : k = 3 <;> simp [si, sl, sS, upd, h3]
theorem sS_sl (uS : Md) (p : Nat) (f : Int32) (v w : Int64) : sl (sS uS p f v) w = sS uS p f w := id rfl
