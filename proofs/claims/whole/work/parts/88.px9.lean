/-! all that is written: how long it is, and that the reference writes it -/
def fdB (κ : Fin 10) : Nat → Nat → Nat
  | 0, _ => 0
  | j + 1, i => 1 + (if fSort (ffK κ i) = 0 then 82 else if fSort (ffK κ i) = 1 then 12 else 5) + fdB κ j (i + 1)
theorem fdB_s (κ : Fin 10) (j i : Nat) : fdB κ (j + 1) i = 1 + (if fSort (ffK κ i) = 0 then 82 else if fSort (ffK κ i) = 1 then 12 else 5) + fdB κ j (i + 1) := id rfl
set_option maxRecDepth 100000 in
set_option maxHeartbeats 4000000 in
theorem fdL_len {s : Tst} (hX : TX s) {k : Nat} (hk : k < s.count) (κ : Fin 10) : ∀ j i, nfK κ - i = j → (fdL s k κ j i).length ≤ fdB κ j i := by
  have hc := cnt_le κ
  intro j
  induction j with
  | zero => intro i _; exact Nat.le_refl _
  | succ j ih =>
    intro i hj
    have h := ih (i + 1) (by omega)
    have hal := ahd_lt κ i (by omega)
    rw [fdL_s, fdB_s, List.length_cons, List.length_append]
    by_cases ht : fSort (ffK κ i) = 0
    · rw [decide_eq_true ht] at hal
      obtain ⟨z, hz4, hz, -⟩ := hX (k * 2 + ahd κ true i) (by omega)
      have htl := txL_len (fun x => s.marks ((k * 2 + ahd κ true i) * 40 + x)) z 0
      rw [if_pos ht, if_pos ht, hz, zI_nat (by omega), List.length_cons, List.length_append, List.length_cons, List.length_nil]
      omega
    · have hnl := numL_len (decide (fSort (ffK κ i) = 1)) (s.nums (k * 5 + ahd κ false i))
      rw [if_neg ht, if_neg ht]
      by_cases h1 : fSort (ffK κ i) = 1
      · rw [decide_eq_true h1, if_pos rfl] at hnl
        rw [decide_eq_true h1, if_pos h1]
        omega
      · rw [decide_eq_false h1, if_neg (by decide)] at hnl
        rw [decide_eq_false h1, if_neg h1]
        omega
set_option maxRecDepth 100000 in
set_option maxHeartbeats 4000000 in
theorem owL_len {b : Bool} {s : Tst} (hX : TX s) {k : Nat} (hk : k < s.count) : (owL b s k).length ≤ 175 + (s.ksz k).toNatClampNeg := by
  unfold owL
  by_cases h9 : tK s k = 9
  · rw [if_pos h9]
    unfold kpO
    rw [kpL_len]
    omega
  · rw [if_neg h9]
    have hv := (tK s k).isLt
    have hall : ∀ κ : Fin 10, (Lk κ.val).length + fdB κ (nfK κ) 0 ≤ 172 := by decide
    have h1 := hall (tK s k)
    have h2 := fdL_len hX hk (tK s k) (nfK (tK s k)) 0 rfl
    unfold nvL
    rw [List.length_append, List.length_append, List.length_append, nmL_len]
    have h3 : ((if b = true then [40] else [] : List Int32)).length ≤ 1 := by split <;> simp
    have h4 : ((if tK s k = 0 then [32, 51] else [] : List Int32)).length ≤ 2 := by split <;> simp
    omega
set_option maxRecDepth 100000 in
set_option maxHeartbeats 4000000 in
theorem smW_add (a c : Nat → Nat) : ∀ m, smW (fun k => a k + c k) m = smW a m + smW c m
  | 0 => rfl
  | m + 1 => by rw [smW_s, smW_s, smW_s, smW_add a c m]; omega
set_option maxRecDepth 100000 in
set_option maxHeartbeats 4000000 in
theorem smW_id : ∀ m, 2 * smW (fun k => k) m + m = m * m
  | 0 => rfl
  | m + 1 => by
    have h := smW_id m
    have e : (m + 1) * (m + 1) = m * m + 2 * m + 1 := by
      rw [Nat.add_mul, Nat.mul_add, Nat.mul_one, Nat.one_mul]
      omega
    rw [smW_s, e]
    omega
set_option maxRecDepth 100000 in
set_option maxHeartbeats 4000000 in
theorem smW_c (c : Nat) : ∀ m, smW (fun _ => c) m = c * m
  | 0 => rfl
  | m + 1 => by rw [smW_s, smW_c c m, Nat.mul_add]; omega
set_option maxRecDepth 100000 in
set_option maxHeartbeats 4000000 in
theorem smW_k (s : Tst) : ∀ m, smW (fun k => (s.ksz k).toNatClampNeg) m = smK s m
  | 0 => rfl
  | m + 1 => by rw [smW_s, smW_k s m]; rfl
/-- all that is written -/
def wrL (b : Bool) (s : Tst) : List Int32 := owL b s 0 ++ rfW b s 500 1 0 1
set_option maxRecDepth 100000 in
set_option maxHeartbeats 4000000 in
theorem WS_1 {s : Tst} (hT : T0 s) (h0 : 0 < s.count) : WS s 1 0 1 := by
  right
  cases T0_up hT h0 with
  | inl h => exact ⟨h0, by rw [h.2.1], by omega, by omega⟩
  | inr h => omega
set_option maxRecDepth 100000 in
set_option maxHeartbeats 4000000 in
theorem wr_len {b : Bool} {s : Tst} (hG : TG s) (hX : TX s) (h0 : 0 < s.count) : (wrL b s).length ≤ 60000 := by
  have hT := hG.1
  have hN := hT.1
  have h1 := rf_len (b := b) hT 500 1 0 1 (WS_1 hT h0)
  have h2 := pot_all hT h0 (fun k => (lnL b s k).length + (clL b s k).length) (fun k => (clL b s k).length)
  have h3 : smW (fun k => (lnL b s k).length + (clL b s k).length) s.count ≤ smW (fun k => (k + 177) + (s.ksz k).toNatClampNeg) s.count := by
    refine smW_le _ (fun k hk => ?_)
    have h4 := owL_len (b := b) hX hk
    have h5 := (T0_dep hT hk).2
    have h6 : (clL b s k).length ≤ 1 := by unfold clL; split <;> simp
    show (lnL b s k).length + (clL b s k).length ≤ (k + 177) + (s.ksz k).toNatClampNeg
    unfold lnL
    rw [List.length_cons, List.length_append, List.length_replicate]
    omega
  have h7 : smW (fun k => (k + 177) + (s.ksz k).toNatClampNeg) s.count = smW (fun k => k) s.count + 177 * s.count + smK s s.count := by
    rw [smW_add (fun k => k + 177), smW_add (fun k => k) (fun _ => 177), smW_c, smW_k]
  have h8 := smW_id s.count
  have h9 : s.count * s.count ≤ 200 * s.count := Nat.mul_le_mul_right _ hN
  have h10 := hG.2.2.2.1
  have h11 := hG.2.2.2.2.1
  have h12 : (clL b s 0).length ≤ 1 := by unfold clL; split <;> simp
  have h13 : pot s (fun k => (lnL b s k).length + (clL b s k).length) (fun k => (clL b s k).length) 1 0 1 + ((lnL b s 0).length + (clL b s 0).length) ≤ smW (fun k => (lnL b s k).length + (clL b s k).length) s.count + (clL b s 0).length + 1 := h2
  have h14 : (owL b s 0).length + 1 ≤ (lnL b s 0).length := by
    unfold lnL
    rw [List.length_cons, List.length_append]
    omega
  unfold wrL
  rw [List.length_append]
  omega
section WRF
variable {u : Md} {r : Rst} {s : Tst}
set_option maxRecDepth 100000 in
set_option maxHeartbeats 4000000 in
theorem q_child (h4 : gi u 4 = zI s.count) (hN : s.count ≤ 200) (hTR : TR s r) (x : Int32) (l : List Int32) : ∀ j f F, s.count - f = j → f ≤ s.count → j < F → f9_childFrom_2 (wW (rP u l) r) F x (zI f) = some (chF s.parents x j f) := by
  have e4 : gi (wW (rP u l) r) 4 = zI s.count := h4
  intro j
  induction j with
  | zero =>
    intro f F hj hf hF
    obtain ⟨F, rfl⟩ : ∃ F', F = F' + 1 := ⟨F - 1, by omega⟩
    rw [f9_childFrom_2, e4, if_pos (by rw [zI_le (by omega) (by omega)]; omega)]
    rfl
  | succ j ih =>
    intro f F hj hf hF
    obtain ⟨F, rfl⟩ : ∃ F', F = F' + 1 := ⟨F - 1, by omega⟩
    rw [f9_childFrom_2, e4, if_neg (by rw [zI_le (by omega) (by omega)]; omega), zI_one, ih (f + 1) F (by omega) (by omega) (by omega), chF_s]
    simp (disch := omega) only [zI_le, zI_lt, zI_inj, zI_z, zI_lz, zI_zl, zI_neg, zI_nat, zI_add, zI_one, zI_mul, zI_ne1, zI_1n, leT, leF, ltT, ltF, eqT, eqF, if_true, if_false, Option.bind_some, false_or, or_false, true_or, or_true, true_and, and_true, false_and, and_false, not_true_eq_false, not_false_eq_true, reduceIte, wW_a6]
    rw [(hTR.1 f (by omega)).2.1]
    by_cases h : s.parents f = x
    · rw [if_pos h, if_pos h]
    · rw [if_neg h, if_neg h]
def kyX (e x : Nat) : Int32 := if e = 0 then -1 else zI x
set_option maxRecDepth 100000 in
set_option maxHeartbeats 4000000 in
theorem kyX_0 (x : Nat) : kyX 0 x = -1 := if_pos rfl
set_option maxRecDepth 100000 in
set_option maxHeartbeats 4000000 in
theorem kyX_s (e x : Nat) : kyX (e + 1) x = zI x := if_neg (by omega)
set_option maxRecDepth 100000 in
set_option maxHeartbeats 4000000 in
theorem zI_pred {a : Nat} (h : 0 < a) (h2 : a < 2147483648) : zI a + -1 = zI (a - 1) := by
  rw [← Int32.sub_eq_add_neg]
  exact zI_sub (a := a) (b := 1) h h2
set_option maxRecDepth 100000 in
set_option maxHeartbeats 4000000 in
theorem q_walk (h4 : gi u 4 = zI s.count) (hT : T0 s) (hK : TK s) (hX : TX s) (hNm : TN s) (hTR : TR s r) : ∀ n e x f F d (l : List Int32), WS s e x f → pot s (fun _ => 2) (fun _ => 1) e x f ≤ n → n ≤ F → (e ≠ 0 → d = zI (e - 1)) → l.length + (rfW (decide (gi u 1 = 0)) s n e x f).length ≤ 60000 → f9_writeAll_16 F (wW (rP u l) r) (kyX e x) d (zI f) = some (si (wW (rP u (l ++ rfW (decide (gi u 1 = 0)) s n e x f)) r) 27 0) := by
  have hN := hT.1
  have hFU : 600 < FU := by unfold FU; omega
  intro n
  induction n with
  | zero =>
    intro e x f F d l hW hp
    have := pot_1 s (fun _ => 2) (fun _ => 1) e x f
    omega
  | succ n ih =>
    intro e x f F d l hW hp hF hd hl
    obtain ⟨F, rfl⟩ : ∃ F', F = F' + 1 := ⟨F - 1, by omega⟩
    cases e with
    | zero =>
      rw [rfW_0] at hl ⊢
      rw [f9_writeAll_16]
      rw [kyX_0]
      simp only [List.length_cons, List.length_nil] at hl
      rw [if_pos rfl, q_say (by omega)]
      rfl
    | succ e =>
      have hd' : d = zI e := hd (by omega)
      have hky := kyX_s e x
      have hx : x < s.count ∧ tD s x + 1 = e + 1 ∧ f ≤ s.count := by
        cases hW with
        | inl h => omega
        | inr h => exact ⟨h.1, h.2.1, h.2.2.2⟩
      have hdx := (T0_dep hT hx.1).2
      have hch : f9_childFrom (wW (rP u l) r) (zI x) (zI f) = some (nxC s x f) := by
        unfold f9_childFrom
        exact q_child h4 hN hTR (zI x) l (s.count - f) f FU rfl hx.2.2 (by omega)
      have hkk : r.kinds x = zI (tK s x).val := by rw [(hTR.1 x hx.1).1, (hT.2.1 x hx.1).1]
      have hv := (tK s x).isLt
      have h9z : (zI (tK s x).val = 9) = (tK s x = 9) := by
        rw [show (9 : Int32) = zI 9 from rfl, zI_inj (by omega) (by omega)]
        exact propext ⟨fun h => Fin.ext h, fun h => by rw [h]; rfl⟩
      rw [hky, f9_writeAll_16, if_neg (by rw [zI_ne1 (by omega)]; exact not_false), hch]
      simp only [Option.bind_some]
      cases nx_cases hT hW with
      | inl h =>
        obtain ⟨h1, h2, h3⟩ := h
        rw [rfW_u h1, List.length_append] at hl
        rw [rfW_u h1, if_pos h1]
        have h2' := h2 (fun _ => 2) (fun _ => 1)
        have h2'' : pot s (fun _ => 2) (fun _ => 1) (e + 1) x f = 1 + pot s (fun _ => 2) (fun _ => 1) e (tP s x) (x + 1) := h2'
        have hpar : r.parents x = kyX e (tP s x) := by
          rw [(hTR.1 x hx.1).2.1]
          cases T0_up hT hx.1 with
          | inl h =>
            rw [h.2.2]
            unfold kyX
            rw [if_pos (by omega)]
          | inr h =>
            rw [h.2.2.2]
            unfold kyX
            rw [if_neg (by omega)]
        have hgo : ∀ l2 : List Int32, l2.length + (rfW (decide (gi u 1 = 0)) s n e (tP s x) (x + 1)).length ≤ 60000 → f9_writeAll_90 (f9_writeAll_16 F) (wW (rP u l2) r) (zI x) d = some (si (wW (rP u (l2 ++ rfW (decide (gi u 1 = 0)) s n e (tP s x) (x + 1))) r) 27 0) := by
          intro l2 hl2
          unfold f9_writeAll_90 f9_writeAll_104
          simp (disch := omega) only [zI_le, zI_lt, zI_inj, zI_z, zI_lz, zI_zl, zI_neg, zI_nat, zI_add, zI_one, zI_mul, zI_ne1, zI_1n, leT, leF, ltT, ltF, eqT, eqF, if_true, if_false, Option.bind_some, false_or, or_false, true_or, or_true, true_and, and_true, false_and, and_false, not_true_eq_false, not_false_eq_true, reduceIte, wW_a6, hpar]
          refine ih e (tP s x) (x + 1) F _ l2 h3 (by omega) (by omega) (fun he => ?_) hl2
          rw [hd', zI_pred (by omega) (by omega)]
        have e1 : gi (wW (rP u l) r) 1 = gi u 1 := rfl
        rw [e1]
        unfold clL at hl ⊢
        by_cases hf : gi u 1 = 0
        · rw [if_pos hf]
          rw [decide_eq_true hf] at hl hgo ⊢
          by_cases h9 : tK s x = 9
          · have hc : ¬ (true = true ∧ tK s x ≠ 9) := fun hh => hh.2 h9
            rw [if_neg hc] at hl ⊢
            simp (disch := omega) only [zI_le, zI_lt, zI_inj, zI_z, zI_lz, zI_zl, zI_neg, zI_nat, zI_add, zI_one, zI_mul, zI_ne1, zI_1n, leT, leF, ltT, ltF, eqT, eqF, if_true, if_false, Option.bind_some, false_or, or_false, true_or, or_true, true_and, and_true, false_and, and_false, not_true_eq_false, not_false_eq_true, reduceIte, wW_a5, hkk, h9z]
            rw [if_pos h9, List.nil_append]
            exact hgo l (by simp only [List.length_nil] at hl; omega)
          · have hc : true = true ∧ tK s x ≠ 9 := ⟨rfl, h9⟩
            rw [if_pos hc] at hl ⊢
            simp only [List.length_cons, List.length_nil] at hl
            simp (disch := omega) only [zI_le, zI_lt, zI_inj, zI_z, zI_lz, zI_zl, zI_neg, zI_nat, zI_add, zI_one, zI_mul, zI_ne1, zI_1n, leT, leF, ltT, ltF, eqT, eqF, if_true, if_false, Option.bind_some, false_or, or_false, true_or, or_true, true_and, and_true, false_and, and_false, not_true_eq_false, not_false_eq_true, reduceIte, wW_a5, hkk, h9z]
            rw [if_neg h9, q_say (by omega)]
            simp only [Option.bind_some]
            rw [hgo _ (by simp only [List.length_append, List.length_cons, List.length_nil]; omega), List.append_assoc]
        · rw [if_neg hf]
          rw [decide_eq_false hf] at hl hgo ⊢
          rw [if_neg (fun hh => by cases hh.1)] at hl
          rw [if_neg (fun hh => by cases hh.1), List.nil_append]
          exact hgo l (by simp only [List.length_nil] at hl; omega)
      | inr h =>
        obtain ⟨c, h1, h2, h3, h4', h5, h6, h7⟩ := h
        have h6' := h6 (fun _ => 2) (fun _ => 1)
        have h6'' : pot s (fun _ => 2) (fun _ => 1) (e + 1) x f + 1 = 2 + pot s (fun _ => 2) (fun _ => 1) (e + 2) c (c + 1) := h6'
        have hdc := (T0_dep hT h3).2
        rw [rfW_c (by omega) h1] at hl ⊢
        rw [h1, if_neg (by rw [zI_ne1 (by omega)]; exact not_false)]
        unfold lnL at hl ⊢
        simp only [List.length_append, List.length_cons, List.length_replicate] at hl
        rw [q_say (by omega)]
        simp only [Option.bind_some]
        unfold f9_writeAll_104
        have hah : f9_sayAhead (wW (rP u (l ++ [10])) r) (d + 1) = some (wW (rP u (l ++ [10] ++ List.replicate (tD s c) (ahC (decide (gi u 1 = 0))))) r) := by
          unfold f9_sayAhead
          have hq := q_ahead (u := u) (r := r) (m := e + 1) (by omega) (e + 1) 0 FU (l ++ [10]) (by omega) (by omega) (by omega) (by simp only [List.length_append, List.length_cons, List.length_nil]; omega)
          have ha : ahC (decide (gi u 1 = 0)) = if gi u 1 = 0 then (32 : Int32) else 46 := by
            unfold ahC
            by_cases hf : gi u 1 = 0
            · rw [if_pos (decide_eq_true hf), if_pos hf]
            · rw [if_neg (by rw [decide_eq_false hf]; decide), if_neg hf]
          rw [hd', zI_one, ha, h5]
          exact hq
        rw [hah]
        simp only [Option.bind_some]
        rw [q_own hT hK hX hNm hTR h3 (by simp only [List.length_append, List.length_cons, List.length_nil, List.length_replicate]; omega)]
        simp only [Option.bind_some]
        have hi := ih (e + 2) c (c + 1) F (d + 1) (l ++ [10] ++ List.replicate (tD s c) (ahC (decide (gi u 1 = 0))) ++ owL (decide (gi u 1 = 0)) s c) h7 (by omega) (by omega) (fun _ => by rw [hd', zI_one]; rfl) (by simp only [List.length_append, List.length_cons, List.length_nil, List.length_replicate]; omega)
        have hky2 : kyX (e + 2) c = zI c := kyX_s (e + 1) c
        rw [hky2] at hi
        rw [zI_one c, hi]
        simp only [List.append_assoc, List.cons_append, List.nil_append]
set_option maxRecDepth 100000 in
set_option maxHeartbeats 4000000 in
theorem rP_nil (u : Md) : rP u [] = si u 26 0 := by
  unfold rP
  rw [ov_nil]
  refine Prod.ext (funext fun k => rfl) (Prod.ext rfl (Prod.ext (funext fun k => ?_) rfl))
  by_cases h : k = 25 <;> simp [si, sa, va_up, ga, h]
set_option maxRecDepth 100000 in
set_option maxHeartbeats 4000000 in
/-- the reference writes it -/
theorem q_write (h4 : gi u 4 = zI s.count) (hG : TG s) (hX : TX s) (hNm : TN s) (hTR : TR s r) (h0 : 0 < s.count) : f9_writeAll (wW u r) = some (wW (si (rP u (wrL (decide (gi u 1 = 0)) s)) 27 0) r) := by
  have hT := hG.1
  have hN := hT.1
  have hFU : 600 < FU := by unfold FU; omega
  have hlen := wr_len (b := decide (gi u 1 = 0)) hG hX h0
  unfold wrL at hlen ⊢
  rw [List.length_append] at hlen
  unfold f9_writeAll
  generalize FU = FF at hFU ⊢
  have ho := q_own (u := u) hT hG.2.2.2 hX hNm hTR h0 (l := []) (by simp)
  rw [List.nil_append, rP_nil] at ho
  have ho' : f9_sayOwn (wW (si u 26 0) r) 0 = _ := ho
  rw [wW_b26, ho']
  simp only [Option.bind_some]
  have hp := pot_all hT h0 (fun _ => 2) (fun _ => 1)
  rw [smW_c] at hp
  have hw := q_walk h4 hT hG.2.2.2 hX hNm hTR 500 1 0 1 FF 0 (owL (decide (gi u 1 = 0)) s 0) (WS_1 hT h0) (by omega) (by omega) (fun _ => rfl) hlen
  have hw' : f9_writeAll_16 FF (wW (rP u (owL (decide (gi u 1 = 0)) s 0)) r) 0 0 1 = _ := hw
  rw [hw', wW_b27]
end WRF
