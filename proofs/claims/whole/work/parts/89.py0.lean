/-! the program's walk writes the same -/
/-- what comes behind an object with nothing in it -/
def foN (s : Tst) : Nat → Nat → Int32
  | 0, _ => -1
  | e + 1, x => if s.nexts x = -1 then foN s e (tP s x) else s.nexts x
theorem foN_s (s : Tst) (e x : Nat) : foN s (e + 1) x = if s.nexts x = -1 then foN s e (tP s x) else s.nexts x := id rfl
/-- what comes behind an object -/
def flN (s : Tst) (x : Nat) : Int32 := if s.firsts x = -1 then foN s (tD s x + 1) x else s.firsts x
theorem rep_1 (m : Nat) (c : Int32) : List.replicate (m + 1) c = [c] ++ List.replicate m c := id rfl
/-- how many are closed -/
def nC (b : Bool) (m : Nat) : Nat := if b = true then m else 0
set_option maxRecDepth 100000 in
set_option maxHeartbeats 4000000 in
theorem nC_s (b : Bool) (m : Nat) (l : List Int32) : (if b = true then [41] else []) ++ (List.replicate (nC b m) 41 ++ l) = List.replicate (nC b (m + 1)) (41 : Int32) ++ l := by
  unfold nC
  cases b with
  | true => rw [if_pos rfl, if_pos rfl, if_pos rfl, rep_1, List.append_assoc]
  | false => rw [if_neg (by decide), if_neg (by decide), if_neg (by decide), List.nil_append]
set_option maxRecDepth 100000 in
set_option maxHeartbeats 4000000 in
theorem rf_climb {b : Bool} {s : Tst} (hG : TG s) : ∀ e x n, x < s.count → tD s x = e → pot s (fun _ => 2) (fun _ => 1) e (tP s x) (x + 1) ≤ n → (foN s (e + 1) x = -1 ∧ rfW b s n e (tP s x) (x + 1) = List.replicate (nC b e) 41 ++ [10]) ∨ (∃ f n', foN s (e + 1) x = zI f ∧ f < s.count ∧ 0 < f ∧ tD s f ≤ e ∧ pot s (fun _ => 2) (fun _ => 1) (tD s f + 1) f (f + 1) ≤ n' ∧ pot s (fun _ => 1) (fun _ => 0) (tD s f + 1) f (f + 1) + 1 = pot s (fun _ => 1) (fun _ => 0) e (tP s x) (x + 1) ∧ rfW b s n e (tP s x) (x + 1) = List.replicate (nC b (e - tD s f)) 41 ++ (lnL b s f ++ rfW b s n' (tD s f + 1) f (f + 1))) := by
  have hT := hG.1
  have hN := hT.1
  intro e
  induction e with
  | zero =>
    intro x n hx hd hp
    left
    have hx0 : x = 0 ∧ s.parents x = -1 := by
      cases T0_up hT hx with
      | inl h => exact ⟨h.1, h.2.2⟩
      | inr h => omega
    have hnx : s.nexts x = -1 := by
      rw [(hG.2.1 x hx).2.1, hx0.2]
      refine chF_none _ _ (fun a h1 h2 h3 => ?_)
      cases T0_up hT (x := a) (by omega) with
      | inl h => omega
      | inr h =>
        rw [h.2.2.2, zI_ne1 (by omega)] at h3
        exact h3
    have h1 := pot_1 s (fun _ => 2) (fun _ => 1) 0 (tP s x) (x + 1)
    obtain ⟨n, rfl⟩ : ∃ n', n = n' + 1 := ⟨n - 1, by omega⟩
    refine ⟨by rw [foN_s, if_pos hnx]; rfl, ?_⟩
    rw [rfW_0]
    unfold nC
    split <;> rfl
  | succ e ih =>
    intro x n hx hd hp
    have hup : 0 < x ∧ tP s x < x ∧ tD s (tP s x) = e ∧ s.parents x = zI (tP s x) := by
      cases T0_up hT hx with
      | inl h => omega
      | inr h => exact ⟨h.1, h.2.1, by omega, h.2.2.2⟩
    have hW : WS s (e + 1) (tP s x) (x + 1) := Or.inr ⟨by omega, by omega, by omega, by omega⟩
    have hnx : s.nexts x = nxC s (tP s x) (x + 1) := by
      rw [(hG.2.1 x hx).2.1, hup.2.2.2]; rfl
    have h1 := pot_1 s (fun _ => 2) (fun _ => 1) (e + 1) (tP s x) (x + 1)
    obtain ⟨n, rfl⟩ : ∃ n', n = n' + 1 := ⟨n - 1, by omega⟩
    rw [foN_s, hnx]
    cases nx_cases hT hW with
    | inl h =>
      obtain ⟨c1, c2, c3⟩ := h
      have c2a : pot s (fun _ => 2) (fun _ => 1) (e + 1) (tP s x) (x + 1) = 1 + pot s (fun _ => 2) (fun _ => 1) e (tP s (tP s x)) (tP s x + 1) := c2 (fun _ => 2) (fun _ => 1)
      have c2b : pot s (fun _ => 1) (fun _ => 0) (e + 1) (tP s x) (x + 1) = 0 + pot s (fun _ => 1) (fun _ => 0) e (tP s (tP s x)) (tP s x + 1) := c2 (fun _ => 1) (fun _ => 0)
      have hcl : clL b s (tP s x) = if b = true then [41] else [] := by
        unfold clL
        have h9 := hG.2.2.1.2 x hup.1 hx
        by_cases hb : b = true
        · rw [if_pos ⟨hb, h9⟩, if_pos hb]
        · rw [if_neg (fun h => hb h.1), if_neg hb]
      rw [if_pos c1, rfW_u c1, hcl]
      cases ih (tP s x) n (by omega) hup.2.2.1 (by omega) with
      | inl h =>
        left
        refine ⟨h.1, ?_⟩
        rw [h.2, nC_s]
      | inr h =>
        right
        obtain ⟨f, n', g1, g2, g3, g4, g5, g6, g7⟩ := h
        refine ⟨f, n', g1, g2, g3, by omega, g5, by omega, ?_⟩
        rw [g7, nC_s, show e - tD s f + 1 = e + 1 - tD s f by omega]
    | inr h =>
      obtain ⟨c, c1, c2, c3, c4, c5, c6, c7⟩ := h
      right
      have c6a : pot s (fun _ => 2) (fun _ => 1) (e + 1) (tP s x) (x + 1) + 1 = 2 + pot s (fun _ => 2) (fun _ => 1) (tD s c + 1) c (c + 1) := by rw [c5]; exact c6 (fun _ => 2) (fun _ => 1)
      have c6b : pot s (fun _ => 1) (fun _ => 0) (e + 1) (tP s x) (x + 1) + 0 = 1 + pot s (fun _ => 1) (fun _ => 0) (tD s c + 1) c (c + 1) := by rw [c5]; exact c6 (fun _ => 1) (fun _ => 0)
      refine ⟨c, n, ?_, c3, by omega, by omega, by omega, by omega, ?_⟩
      · rw [if_neg (by rw [c1, zI_ne1 (by omega)]; exact not_false), c1]
      · rw [rfW_c (by omega) c1, c5, Nat.sub_self]
        unfold nC
        split <;> rfl
/-- 1 where an object is closed -/
def clN (s : Tst) (k : Nat) : Nat := if tK s k = 9 then 0 else 1
set_option maxRecDepth 100000 in
set_option maxHeartbeats 4000000 in
theorem rf_next {b : Bool} {s : Tst} (hG : TG s) {k n : Nat} (hk : k < s.count) (hp : pot s (fun _ => 2) (fun _ => 1) (tD s k + 1) k (k + 1) ≤ n) : (flN s k = -1 ∧ rfW b s n (tD s k + 1) k (k + 1) = List.replicate (nC b (tD s k + clN s k)) 41 ++ [10]) ∨ (∃ f n', flN s k = zI f ∧ f < s.count ∧ 0 < f ∧ tD s f ≤ tD s k + clN s k ∧ pot s (fun _ => 2) (fun _ => 1) (tD s f + 1) f (f + 1) ≤ n' ∧ pot s (fun _ => 1) (fun _ => 0) (tD s f + 1) f (f + 1) + 1 = pot s (fun _ => 1) (fun _ => 0) (tD s k + 1) k (k + 1) ∧ rfW b s n (tD s k + 1) k (k + 1) = List.replicate (nC b (tD s k + clN s k - tD s f)) 41 ++ (lnL b s f ++ rfW b s n' (tD s f + 1) f (f + 1))) := by
  have hT := hG.1
  have hN := hT.1
  have hW : WS s (tD s k + 1) k (k + 1) := Or.inr ⟨hk, rfl, by omega, by omega⟩
  have hfi : s.firsts k = nxC s k (k + 1) := (hG.2.1 k hk).1
  have h1 := pot_1 s (fun _ => 2) (fun _ => 1) (tD s k + 1) k (k + 1)
  obtain ⟨n, rfl⟩ : ∃ n', n = n' + 1 := ⟨n - 1, by omega⟩
  unfold flN
  rw [hfi]
  cases nx_cases hT hW with
  | inl h =>
    obtain ⟨c1, c2, c3⟩ := h
    have c2a : pot s (fun _ => 2) (fun _ => 1) (tD s k + 1) k (k + 1) = 1 + pot s (fun _ => 2) (fun _ => 1) (tD s k) (tP s k) (k + 1) := c2 (fun _ => 2) (fun _ => 1)
    have c2b : pot s (fun _ => 1) (fun _ => 0) (tD s k + 1) k (k + 1) = 0 + pot s (fun _ => 1) (fun _ => 0) (tD s k) (tP s k) (k + 1) := c2 (fun _ => 1) (fun _ => 0)
    rw [if_pos c1, rfW_u c1]
    have hcl : ∀ m (l : List Int32), clL b s k ++ (List.replicate (nC b m) 41 ++ l) = List.replicate (nC b (m + clN s k)) 41 ++ l := by
      intro m l
      unfold clL clN
      by_cases h9 : tK s k = 9
      · rw [if_neg (fun h => h.2 h9), if_pos h9, List.nil_append, Nat.add_zero]
      · rw [if_neg h9, ← nC_s]
        by_cases hb : b = true
        · rw [if_pos ⟨hb, h9⟩, if_pos hb]
        · rw [if_neg (fun h => hb h.1), if_neg hb]
    cases rf_climb (b := b) hG (tD s k) k n hk rfl (by omega) with
    | inl h =>
      left
      refine ⟨h.1, ?_⟩
      rw [h.2, hcl]
    | inr h =>
      right
      obtain ⟨f, n', g1, g2, g3, g4, g5, g6, g7⟩ := h
      refine ⟨f, n', g1, g2, g3, by omega, g5, by omega, ?_⟩
      rw [g7, hcl, show tD s k - tD s f + clN s k = tD s k + clN s k - tD s f by omega]
  | inr h =>
    obtain ⟨c, c1, c2, c3, c4, c5, c6, c7⟩ := h
    right
    have c6a : pot s (fun _ => 2) (fun _ => 1) (tD s k + 1) k (k + 1) + 1 = 2 + pot s (fun _ => 2) (fun _ => 1) (tD s c + 1) c (c + 1) := by rw [c5]; exact c6 (fun _ => 2) (fun _ => 1)
    have c6b : pot s (fun _ => 1) (fun _ => 0) (tD s k + 1) k (k + 1) + 0 = 1 + pot s (fun _ => 1) (fun _ => 0) (tD s c + 1) c (c + 1) := by rw [c5]; exact c6 (fun _ => 1) (fun _ => 0)
    have h9 : clN s k = 1 := by
      have h := hG.2.2.1.2 c (by omega) c3
      rw [c4] at h
      unfold clN
      rw [if_neg h]
    refine ⟨c, n, ?_, c3, by omega, by omega, by omega, by omega, ?_⟩
    · rw [if_neg (by rw [c1, zI_ne1 (by omega)]; exact not_false), c1]
    · rw [rfW_c (by omega) c1, c5, h9, Nat.sub_self]
      unfold nC
      split <;> rfl
section WCL
variable {uP bT : Md} {s : Tst}
set_option maxRecDepth 100000 in
set_option maxHeartbeats 4000000 in
theorem p_hasM : fx_X7_has (yY bT s) (-1) = some 0 := by
  unfold fx_X7_has
  rw [if_pos (by decide)]
set_option maxRecDepth 100000 in
set_option maxHeartbeats 4000000 in
theorem p_fo31 (hT : T0 s) : ∀ e x F j, (e = 0 ∨ (x < s.count ∧ tD s x + 1 = e)) → e < F → j + e ≤ 200 → fx_X7_follower_31 (yY bT s) F (kyX e x) (zI j) = some (foN s e x) := by
  have hN := hT.1
  intro e
  induction e with
  | zero =>
    intro x F j hx hF hj
    obtain ⟨F, rfl⟩ : ∃ F', F = F' + 1 := ⟨F - 1, by omega⟩
    rw [fx_X7_follower_31, kyX_0, p_hasM]
    show _ = some (-1)
    simp only [Option.bind_some]
    rw [if_pos trivial, ite_self]
  | succ e ih =>
    intro x F j hx hF hj
    obtain ⟨F, rfl⟩ : ∃ F', F = F' + 1 := ⟨F - 1, by omega⟩
    have hxx : x < s.count ∧ tD s x = e := by
      cases hx with
      | inl h => omega
      | inr h => exact ⟨h.1, by omega⟩
    have hky := kyX_s e x
    have hpar : s.parents x = kyX e (tP s x) := by
      unfold kyX
      cases T0_up hT hxx.1 with
      | inl h => rw [h.2.2, if_pos (by omega)]
      | inr h => rw [h.2.2.2, if_neg (by omega)]
    rw [hky, fx_X7_follower_31, if_neg (by rw [show (200 : Int32) = zI 200 from rfl, zI_le (by omega) (by omega)]; omega), p_hasT hxx.1 hN]
    simp (disch := omega) only [Option.bind_some, one_nz, zI_le, zI_lt, zI_inj, zI_z, zI_lz, zI_zl, zI_neg, zI_nat, zI_add, zI_one, zI_mul, zI_ne1, zI_1n, leT, leF, ltT, ltF, eqT, eqF, if_true, if_false, Option.bind_some, false_or, or_false, true_or, or_true, true_and, and_true, false_and, and_false, not_true_eq_false, not_false_eq_true, reduceIte, yY_12, yY_13, yY_14, yY_15, yY_a0, yY_a1, yY_a2, yY_a3, yY_a4, yY_a5, yY_a7, yY_a8, yY_a9, yY_a10, yY_a11, yY_n]
    rw [foN_s, hpar]
    by_cases h : s.nexts x = -1
    · rw [if_pos h, if_pos h]
      refine ih (tP s x) F (j + 1) ?_ (by omega) (by omega)
      cases T0_up hT hxx.1 with
      | inl h => left; omega
      | inr h => right; exact ⟨by omega, by omega⟩
    · rw [if_neg h, if_neg h]
set_option maxRecDepth 100000 in
set_option maxHeartbeats 4000000 in
theorem p_follower (hT : T0 s) {x : Nat} (hx : x < s.count) : fx_X7_follower (yY bT s) (zI x) = some (flN s x) := by
  have hFU : 300 < FU := by unfold FU; omega
  have hN := hT.1
  have hd := (T0_dep hT hx).2
  unfold fx_X7_follower flN
  generalize FU = FF at hFU ⊢
  rw [p_hasT hx hN]
  simp (disch := omega) only [Option.bind_some, one_nz, zI_le, zI_lt, zI_inj, zI_z, zI_lz, zI_zl, zI_neg, zI_nat, zI_add, zI_one, zI_mul, zI_ne1, zI_1n, leT, leF, ltT, ltF, eqT, eqF, if_true, if_false, Option.bind_some, false_or, or_false, true_or, or_true, true_and, and_true, false_and, and_false, not_true_eq_false, not_false_eq_true, reduceIte, yY_12, yY_13, yY_14, yY_15, yY_a0, yY_a1, yY_a2, yY_a3, yY_a4, yY_a5, yY_a7, yY_a8, yY_a9, yY_a10, yY_a11, yY_n]
  have h := p_fo31 (bT := bT) hT (tD s x + 1) x FF 0 (Or.inr ⟨hx, rfl⟩) (by omega) (by omega)
  have h' : fx_X7_follower_31 (yY bT s) FF (zI x) 0 = _ := h
  rw [h']
  by_cases hf : s.firsts x = -1
  · rw [if_pos hf, if_pos hf]
  · rw [if_neg hf, if_neg hf]
set_option maxRecDepth 100000 in
set_option maxHeartbeats 4000000 in
theorem p_putT {c : Int32} (hc : isC c) {m : Nat} (hm : m ≤ 1000) {l : List Int32} (hl : l.length + m ≤ 60000) : fx_X5_putTimes (pP uP l) c (zI m) = some (pP uP (l ++ List.replicate m c)) := by
  have hFU : 1001 < FU := by unfold FU; omega
  unfold fx_X5_putTimes
  generalize FU = FF at hFU ⊢
  exact p_ptimes hc hm m 0 FF l (by omega) (by omega) (by omega) hl
set_option maxRecDepth 100000 in
set_option maxHeartbeats 4000000 in
theorem p_tellL (hG : TG s) (hX : TX s) (hNm : TN s) : ∀ m k n F j (l : List Int32), k < s.count → pot s (fun _ => 1) (fun _ => 0) (tD s k + 1) k (k + 1) ≤ m → j + m ≤ 200 → m + 1 < F → pot s (fun _ => 2) (fun _ => 1) (tD s k + 1) k (k + 1) ≤ n → l.length + (List.replicate (tD s k) (46 : Int32) ++ (owL false s k ++ rfW false s n (tD s k + 1) k (k + 1))).length ≤ 60000 → fx_X3_tell_L_5 (yY bT s) F (pP uP l) (zI k) (zI j) = some (pP uP (l ++ (List.replicate (tD s k) 46 ++ (owL false s k ++ rfW false s n (tD s k + 1) k (k + 1))))) := by
  have hT := hG.1
  have hN := hT.1
  intro m
  induction m with
  | zero =>
    intro k n F j l hk hv
    have := pot_1 s (fun _ => 1) (fun _ => 0) (tD s k + 1) k (k + 1)
    omega
  | succ m ih =>
    intro k n F j l hk hv hj hF hp hl
    obtain ⟨F, rfl⟩ : ∃ F', F = F' + 1 := ⟨F - 1, by omega⟩
    have hd := (T0_dep hT hk).2
    simp only [List.length_append, List.length_replicate] at hl
    rw [fx_X3_tell_L_5, if_neg (by rw [show (200 : Int32) = zI 200 from rfl, zI_le (by omega) (by omega)]; omega), p_hasT hk hN]
    simp only [Option.bind_some, one_nz, if_false]
    rw [p_depthOf hT hk]
    simp only [Option.bind_some]
    rw [p_putT isC_46 (by omega) (by omega)]
    simp only [Option.bind_some]
    rw [p_kindOf hT hk]
    simp only [Option.bind_some]
    -- behind its own
    have hgo : ∀ l2 : List Int32, l2.length + (rfW false s n (tD s k + 1) k (k + 1)).length ≤ 60000 → fx_X3_tell_L_59 (yY bT s) (fx_X3_tell_L_5 (yY bT s) F) (pP uP l2) (zI k) (zI j) = some (pP uP (l2 ++ rfW false s n (tD s k + 1) k (k + 1))) := by
      intro l2 hl2
      unfold fx_X3_tell_L_59
      cases rf_next (b := false) hG hk hp with
      | inl h =>
        obtain ⟨h1, h2⟩ := h
        have h2' : rfW false s n (tD s k + 1) k (k + 1) = [10] := h2
        rw [h2'] at hl2 ⊢
        simp only [List.length_cons, List.length_nil] at hl2
        rw [p_put isC_10 (by omega)]
        simp only [Option.bind_some]
        rw [p_follower hT hk, h1]
        simp only [Option.bind_some]
        obtain ⟨F, rfl⟩ : ∃ F', F = F' + 1 := ⟨F - 1, by omega⟩
        rw [fx_X3_tell_L_5, p_hasM]
        simp only [Option.bind_some]
        rw [if_pos trivial, ite_self]
      | inr h =>
        obtain ⟨f, n', g1, g2, g3, g4, g5, g6, g7⟩ := h
        have g7' : rfW false s n (tD s k + 1) k (k + 1) = lnL false s f ++ rfW false s n' (tD s f + 1) f (f + 1) := g7
        rw [g7'] at hl2 ⊢
        unfold lnL at hl2 ⊢
        have hah : ahC false = 46 := rfl
        rw [hah] at hl2 ⊢
        simp only [List.length_append, List.length_cons, List.length_replicate] at hl2
        rw [p_put isC_10 (by omega)]
        simp only [Option.bind_some]
        rw [p_follower hT hk, g1]
        simp only [Option.bind_some]
        rw [zI_one, ih f n' F (j + 1) (l2 ++ [10]) g2 (by omega) (by omega) (by omega) g5 (by simp only [List.length_append, List.length_cons, List.length_nil, List.length_replicate]; omega)]
        simp only [List.append_assoc, List.cons_append, List.nil_append]
    unfold owL at hl ⊢
    by_cases h9 : tK s k = 9
    · rw [if_pos h9] at hl
      rw [if_pos h9, if_pos h9, p_kpO hT hG.2.2.2 hk (by rw [List.length_append, List.length_replicate]; omega)]
      simp only [Option.bind_some]
      rw [hgo _ (by simp only [List.length_append, List.length_replicate]; omega)]
      simp only [List.append_assoc]
    · rw [if_neg h9, if_neg (by decide), List.nil_append] at hl
      rw [if_neg h9, if_neg h9, if_neg (by decide), List.nil_append, p_nv_L hT hX hNm hk h9 (by rw [List.length_append, List.length_replicate]; omega)]
      simp only [Option.bind_some]
      rw [hgo _ (by simp only [List.length_append, List.length_replicate]; omega)]
      simp only [List.append_assoc]
set_option maxRecDepth 100000 in
set_option maxHeartbeats 4000000 in
theorem p_tellB (hG : TG s) (hX : TX s) (hNm : TN s) : ∀ m k n F j (l : List Int32), k < s.count → pot s (fun _ => 1) (fun _ => 0) (tD s k + 1) k (k + 1) ≤ m → j + m ≤ 200 → m + 1 < F → pot s (fun _ => 2) (fun _ => 1) (tD s k + 1) k (k + 1) ≤ n → l.length + (owL true s k ++ rfW true s n (tD s k + 1) k (k + 1)).length ≤ 60000 → fx_X4_tell_B_42 (yY bT s) (fx_X4_tell_B_5 (yY bT s) F) (pP uP l) (zI k) (zI j) = some (pP uP (l ++ (owL true s k ++ rfW true s n (tD s k + 1) k (k + 1)))) := by
  have hT := hG.1
  have hN := hT.1
  intro m
  induction m with
  | zero =>
    intro k n F j l hk hv
    have := pot_1 s (fun _ => 1) (fun _ => 0) (tD s k + 1) k (k + 1)
    omega
  | succ m ih =>
    intro k n F j l hk hv hj hF hp hl
    have hd := (T0_dep hT hk).2
    rw [List.length_append] at hl
    unfold fx_X4_tell_B_42
    rw [p_follower hT hk]
    simp only [Option.bind_some]
    rw [p_depthOf hT hk]
    simp only [Option.bind_some]
    -- how many are closed, what comes then
    have hgo : ∃ D : Int32, fx_X7_depthOf (yY bT s) (flN s k) = some D ∧ ∃ q, ((tK s k = 9 → zI (tD s k) - (if D < 0 then (0 : Int32) else D) = zI q) ∧ (tK s k ≠ 9 → zI (tD s k) - (if D < 0 then (0 : Int32) else D) + 1 = zI q)) ∧ q ≤ 1000 ∧ ∀ l2 : List Int32, l2.length + (rfW true s n (tD s k + 1) k (k + 1)).length ≤ 60000 → fx_X4_tell_B_103 (yY bT s) (fx_X4_tell_B_5 (yY bT s) F) (pP uP l2) (zI j) (flN s k) (zI q) = some (pP uP (l2 ++ rfW true s n (tD s k + 1) k (k + 1))) := by
      obtain ⟨F, rfl⟩ : ∃ F', F = F' + 1 := ⟨F - 1, by omega⟩
      have hc1 : clN s k ≤ 1 := by unfold clN; split <;> omega
      cases rf_next (b := true) hG hk hp with
      | inl h =>
        obtain ⟨h1, h2⟩ := h
        have h2' : rfW true s n (tD s k + 1) k (k + 1) = List.replicate (tD s k + clN s k) 41 ++ [10] := h2
        refine ⟨-1, by rw [h1]; exact p_depthOfN, tD s k + clN s k, ⟨fun h9 => ?_, fun h9 => ?_⟩, by omega, ?_⟩
        · unfold clN
          rw [if_pos (by decide), if_pos h9, Nat.add_zero, show (0 : Int32) = zI 0 from rfl, zI_sub (by omega) (by omega), Nat.sub_zero]
        · unfold clN
          rw [if_pos (by decide), if_neg h9, show (0 : Int32) = zI 0 from rfl, zI_sub (by omega) (by omega), Nat.sub_zero, zI_one]
        · intro l2 hl2
          rw [h2', List.length_append, List.length_replicate, List.length_cons, List.length_nil] at hl2
          rw [h2', h1]
          unfold fx_X4_tell_B_103
          rw [p_putT isC_41 (by omega) (by omega)]
          simp only [Option.bind_some]
          have he : fx_X4_tell_B_120 (yY bT s) (pP uP (l2 ++ List.replicate (tD s k + clN s k) 41)) = some (pP uP (l2 ++ List.replicate (tD s k + clN s k) 41 ++ [10])) := by
            unfold fx_X4_tell_B_120
            rw [p_put isC_10 (by rw [List.length_append, List.length_replicate]; omega)]
            rfl
          rw [fx_X4_tell_B_5, p_hasM]
          simp only [Option.bind_some]
          rw [if_pos trivial, ite_self, he, List.append_assoc]
      | inr h =>
        obtain ⟨f, n', g1, g2, g3, g4, g5, g6, g7⟩ := h
        have hdf := (T0_dep hT g2).2
        have g7' : rfW true s n (tD s k + 1) k (k + 1) = List.replicate (tD s k + clN s k - tD s f) 41 ++ (lnL true s f ++ rfW true s n' (tD s f + 1) f (f + 1)) := g7
        refine ⟨zI (tD s f), by rw [g1]; exact p_depthOf hT g2, tD s k + clN s k - tD s f, ⟨fun h9 => ?_, fun h9 => ?_⟩, by omega, ?_⟩
        · have hz : clN s k = 0 := by unfold clN; rw [if_pos h9]
          rw [hz] at g4 ⊢
          rw [if_neg (by rw [zI_neg (by omega)]; exact not_false), zI_sub (by omega) (by omega), Nat.add_zero]
        · have hz : clN s k = 1 := by unfold clN; rw [if_neg h9]
          rw [hz] at g4 ⊢
          rw [if_neg (by rw [zI_neg (by omega)]; exact not_false)]
          by_cases hh : tD s f ≤ tD s k
          · rw [zI_sub hh (by omega), zI_one, show tD s k - tD s f + 1 = tD s k + 1 - tD s f by omega]
          · rw [show tD s f = tD s k + 1 by omega, zI_subn (by omega), Nat.sub_self]
            decide
        · intro l2 hl2
          unfold lnL at g7'
          have hah : ahC true = 32 := rfl
          rw [hah] at g7'
          rw [g7'] at hl2 ⊢
          simp only [List.length_append, List.length_cons, List.length_replicate] at hl2
          rw [g1]
          unfold fx_X4_tell_B_103
          rw [p_putT isC_41 (by omega) (by omega)]
          simp only [Option.bind_some]
          rw [zI_one, fx_X4_tell_B_5]
          have h200 : ¬ ((200 : Int32) ≤ zI (j + 1)) := by
            have := pot_1 s (fun _ => 1) (fun _ => 0) (tD s f + 1) f (f + 1)
            rw [show (200 : Int32) = zI 200 from rfl, zI_le (by omega) (by omega)]; omega
          rw [if_neg h200, p_hasT g2 hN]
          simp only [Option.bind_some, one_nz, if_false]
          rw [if_neg (by rw [zI_lz (by omega)]; omega), p_put isC_10 (by simp only [List.length_append, List.length_replicate]; omega)]
          simp only [Option.bind_some]
          rw [p_depthOf hT g2]
          simp only [Option.bind_some]
          rw [p_putT isC_32 (by omega) (by simp only [List.length_append, List.length_cons, List.length_nil, List.length_replicate]; omega)]
          simp only [Option.bind_some]
          rw [ih f n' F (j + 1) _ g2 (by omega) (by omega) (by omega) g5 (by simp only [List.length_append, List.length_cons, List.length_nil, List.length_replicate]; omega)]
          simp only [List.append_assoc, List.cons_append, List.nil_append]
    obtain ⟨D, hD, q, hq, hq2, hgo⟩ := hgo
    rw [hD]
    simp only [Option.bind_some]
    rw [p_kindOf hT hk]
    simp only [Option.bind_some]
    unfold owL at hl ⊢
    by_cases h9 : tK s k = 9
    · rw [if_pos h9] at hl
      rw [if_pos h9, if_pos h9, p_kpO hT hG.2.2.2 hk (by omega)]
      simp only [Option.bind_some]
      rw [hq.1 h9, hgo _ (by rw [List.length_append]; omega)]
      simp only [List.append_assoc]
    · rw [if_neg h9, if_pos rfl, List.length_append, List.length_cons, List.length_nil] at hl
      rw [if_neg h9, if_neg h9, if_pos rfl, p_put isC_40 (by omega)]
      simp only [Option.bind_some]
      rw [p_nv_B hT hX hNm hk h9 (by rw [List.length_append, List.length_cons, List.length_nil]; omega)]
      simp only [Option.bind_some]
      rw [hq.2 h9, hgo _ (by simp only [List.length_append, List.length_cons, List.length_nil]; omega)]
      simp only [List.append_assoc]
end WCL
