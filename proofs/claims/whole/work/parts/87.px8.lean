/-! the walk over the tree, and how much it writes -/
/-- sums over what is in an object, from the objects' end down -/
def aS (P : Nat → Int32) (w : Nat → Nat) (N : Nat) : Nat → Int32 → Nat
  | 0, _ => 0
  | j + 1, x => aS P w N j x + if P (N - (j + 1)) = x then w (N - (j + 1)) + aS P w N j (zI (N - (j + 1))) else 0
theorem aS_s (P : Nat → Int32) (w : Nat → Nat) (N j : Nat) (x : Int32) : aS P w N (j + 1) x = aS P w N j x + if P (N - (j + 1)) = x then w (N - (j + 1)) + aS P w N j (zI (N - (j + 1))) else 0 := id rfl
def kS (P : Nat → Int32) (w : Nat → Nat) (N : Nat) (x : Int32) (f : Nat) : Nat := aS P w N (N - f) x
set_option maxRecDepth 100000 in
set_option maxHeartbeats 4000000 in
theorem kS_s {P : Nat → Int32} {w : Nat → Nat} {N : Nat} {x : Int32} {f : Nat} (h : f < N) : kS P w N x f = kS P w N x (f + 1) + if P f = x then w f + kS P w N (zI f) (f + 1) else 0 := by
  unfold kS
  rw [show N - f = (N - (f + 1)) + 1 by omega, aS_s, show N - (N - (f + 1) + 1) = f by omega]
set_option maxRecDepth 100000 in
set_option maxHeartbeats 4000000 in
theorem kS_e {P : Nat → Int32} {w : Nat → Nat} {N : Nat} {x : Int32} {f : Nat} (h : N ≤ f) : kS P w N x f = 0 := by
  unfold kS
  rw [show N - f = 0 by omega]
  rfl
set_option maxRecDepth 100000 in
set_option maxHeartbeats 4000000 in
theorem kS_none {P : Nat → Int32} {w : Nat → Nat} {N : Nat} {x : Int32} : ∀ j f, N - f = j → (∀ a, f ≤ a → a < N → P a ≠ x) → kS P w N x f = 0 := by
  intro j
  induction j with
  | zero => intro f hj h; exact kS_e (by omega)
  | succ j ih =>
    intro f hj h
    rw [kS_s (by omega), if_neg (h f (by omega) (by omega)), ih (f + 1) (by omega) (fun a h1 h2 => h a (by omega) h2)]
set_option maxRecDepth 100000 in
set_option maxHeartbeats 4000000 in
theorem kS_first {P : Nat → Int32} {w : Nat → Nat} {N : Nat} {x : Int32} {c : Nat} (hc : c < N) (hP : P c = x) : ∀ j f, c - f = j → f ≤ c → (∀ b, f ≤ b → b < c → P b ≠ x) → kS P w N x f = kS P w N x (c + 1) + (w c + kS P w N (zI c) (c + 1)) := by
  intro j
  induction j with
  | zero =>
    intro f hj hf h
    have e : f = c := by omega
    rw [e, kS_s hc, if_pos hP]
  | succ j ih =>
    intro f hj hf h
    rw [kS_s (by omega), if_neg (h f (by omega) (by omega)), Nat.add_zero, ih (f + 1) (by omega) (by omega) (fun b h1 h2 => h b (by omega) h2)]
def smW (w : Nat → Nat) : Nat → Nat
  | 0 => 0
  | k + 1 => smW w k + w k
theorem smW_s (w : Nat → Nat) (k : Nat) : smW w (k + 1) = smW w k + w k := id rfl
set_option maxRecDepth 100000 in
set_option maxHeartbeats 4000000 in
theorem smW_congr {g g' : Nat → Nat} : ∀ m, (∀ x, x < m → g' x = g x) → smW g' m = smW g m
  | 0, _ => rfl
  | m + 1, h => by rw [smW_s, smW_s, smW_congr m (fun x hx => h x (by omega)), h m (by omega)]
set_option maxRecDepth 100000 in
set_option maxHeartbeats 4000000 in
theorem smW_one {g g' : Nat → Nat} {p d : Nat} : ∀ m, p < m → (∀ x, x < m → g' x = g x + if x = p then d else 0) → smW g' m = smW g m + d
  | 0, h, _ => by omega
  | m + 1, hp, h => by
    rw [smW_s, smW_s, h m (by omega)]
    by_cases e : m = p
    · rw [if_pos e, smW_congr (g := g) m (fun x hx => by rw [h x (by omega), if_neg (by omega), Nat.add_zero])]
      omega
    · rw [if_neg e, smW_one m (by omega) (fun x hx => h x (by omega))]
      omega
set_option maxRecDepth 100000 in
set_option maxHeartbeats 4000000 in
theorem smW_le {g g' : Nat → Nat} : ∀ m, (∀ x, x < m → g x ≤ g' x) → smW g m ≤ smW g' m
  | 0, _ => Nat.le_refl _
  | m + 1, h => by
    have h1 := smW_le m (fun x hx => h x (by omega))
    have h2 := h m (by omega)
    rw [smW_s, smW_s]; omega
set_option maxRecDepth 100000 in
set_option maxHeartbeats 4000000 in
theorem aS_tot {P : Nat → Int32} {w : Nat → Nat} {N : Nat} (hN : N ≤ 200) (hP : ∀ i, i < N → P i = -1 ∨ ∃ p, p < i ∧ P i = zI p) : ∀ j, j ≤ N → aS P w N j (-1) + smW (fun x => aS P w N j (zI x)) (N - j) + smW w (N - j) = smW w N := by
  intro j
  induction j with
  | zero =>
    intro _
    have h0 : ∀ m, smW (fun x => aS P w N 0 (zI x)) m = 0 := by
      intro m
      induction m with
      | zero => rfl
      | succ m ih => rw [smW_s, ih]; rfl
    rw [h0]
    show 0 + 0 + smW w (N - 0) = smW w N
    rw [Nat.sub_zero]
    omega
  | succ j ih =>
    intro hj
    have h1 := ih (by omega)
    rw [show N - j = (N - (j + 1)) + 1 by omega, smW_s, smW_s] at h1
    generalize hi : N - (j + 1) = i at *
    rw [aS_s, hi]
    cases hP i (by omega) with
    | inl h =>
      rw [if_pos h, smW_congr (g := fun x => aS P w N j (zI x)) i (fun x hx => by
        show aS P w N (j + 1) (zI x) = _
        rw [aS_s, hi, h, if_neg (by rw [zI_1n (by omega)]; exact not_false), Nat.add_zero])]
      omega
    | inr h =>
      obtain ⟨p, hp, he⟩ := h
      rw [if_neg (by rw [he, zI_ne1 (by omega)]; exact not_false), smW_one (g := fun x => aS P w N j (zI x)) (p := p) (d := w i + aS P w N j (zI i)) i hp (fun x hx => by
        show aS P w N (j + 1) (zI x) = _
        rw [aS_s, hi, he]
        by_cases e : x = p
        · rw [if_pos (by rw [e]), if_pos e]
        · rw [if_neg (by rw [zI_inj (by omega) (by omega)]; omega), if_neg e])]
      omega
set_option maxRecDepth 100000 in
set_option maxHeartbeats 4000000 in
theorem T0_up {s : Tst} (hT : T0 s) {x : Nat} (hx : x < s.count) : (x = 0 ∧ tD s x = 0 ∧ s.parents x = -1) ∨ (0 < x ∧ tP s x < x ∧ tD s x = tD s (tP s x) + 1 ∧ s.parents x = zI (tP s x)) := by
  have hd := T0_dep hT hx
  have hN := hT.1
  cases hT.2.2 x hx with
  | inl h =>
    left
    refine ⟨h.1, ?_, h.2.1⟩
    unfold tD
    rw [h.2.2]; rfl
  | inr h =>
    right
    have hd2 := T0_dep hT (k := tP s x) (by omega)
    refine ⟨h.1, h.2.2.1, ?_, h.2.1⟩
    have e : tD s x = (s.depths x).toNatClampNeg := rfl
    rw [e, h.2.2.2.1, zI_nat (by omega)]
/-- what is left for the walk: weights of what it has yet to come to, and of what it has yet to close -/
def pot (s : Tst) (w cl : Nat → Nat) : Nat → Nat → Nat → Nat
  | 0, _, _ => 1
  | e + 1, x, f => kS s.parents w s.count (zI x) f + cl x + pot s w cl e (tP s x) (x + 1)
theorem pot_s (s : Tst) (w cl : Nat → Nat) (e x f : Nat) : pot s w cl (e + 1) x f = kS s.parents w s.count (zI x) f + cl x + pot s w cl e (tP s x) (x + 1) := id rfl
set_option maxRecDepth 100000 in
set_option maxHeartbeats 4000000 in
theorem pot_1 (s : Tst) (w cl : Nat → Nat) : ∀ e x f, 1 ≤ pot s w cl e x f
  | 0, _, _ => Nat.le_refl _
  | e + 1, x, f => by
    have := pot_1 s w cl e (tP s x) (x + 1)
    rw [pot_s]; omega
/-- a place of the walk -/
def WS (s : Tst) (e x f : Nat) : Prop := e = 0 ∨ (x < s.count ∧ tD s x + 1 = e ∧ x < f ∧ f ≤ s.count)
/-- the next in an object, from a number on -/
def nxC (s : Tst) (x f : Nat) : Int32 := chF s.parents (zI x) (s.count - f) f
set_option maxRecDepth 100000 in
set_option maxHeartbeats 4000000 in
theorem nx_cases {s : Tst} (hT : T0 s) {e x f : Nat} (hW : WS s (e + 1) x f) : (nxC s x f = -1 ∧ (∀ w cl, pot s w cl (e + 1) x f = cl x + pot s w cl e (tP s x) (x + 1)) ∧ WS s e (tP s x) (x + 1)) ∨ (∃ c, nxC s x f = zI c ∧ f ≤ c ∧ c < s.count ∧ tP s c = x ∧ tD s c = e + 1 ∧ (∀ w cl, pot s w cl (e + 1) x f + cl c = w c + pot s w cl (e + 2) c (c + 1)) ∧ WS s (e + 2) c (c + 1)) := by
  have hN := hT.1
  cases hW with
  | inl h => omega
  | inr h =>
    obtain ⟨hx, hd, hxf, hf⟩ := h
    by_cases hex : ∃ a, f ≤ a ∧ a < f + (s.count - f) ∧ s.parents a = zI x
    · right
      obtain ⟨c, c1, c2, c3, c4, c5⟩ := chF_some (s.count - f) f hex
      have hc : c < s.count := by omega
      have hup : tP s c = x ∧ tD s c = e + 1 := by
        cases T0_up hT hc with
        | inl h => omega
        | inr h =>
          have h4 := h.2.2.2
          rw [c3, zI_inj (by omega) (by omega)] at h4
          have h3 := h.2.2.1
          rw [← h4] at h3
          exact ⟨h4.symm, by omega⟩
      refine ⟨c, c4, c1, hc, hup.1, hup.2, fun w cl => ?_, Or.inr ⟨hc, by rw [hup.2], by omega, by omega⟩⟩
      rw [pot_s, pot_s, pot_s, kS_first hc c3 _ f rfl c1 c5, hup.1]
      omega
    · left
      have hno : ∀ a, f ≤ a → a < s.count → s.parents a ≠ zI x := fun a h1 h2 h3 => hex ⟨a, h1, by omega, h3⟩
      refine ⟨chF_none _ _ (fun a h1 h2 => hno a h1 (by omega)), fun w cl => ?_, ?_⟩
      · rw [pot_s, kS_none _ f rfl hno]
        omega
      · cases T0_up hT hx with
        | inl h => left; omega
        | inr h => right; exact ⟨by omega, by omega, by omega, by omega⟩
/-- ahead of an object's own on its line -/
def ahC (b : Bool) : Int32 := if b = true then 32 else 46
def clL (b : Bool) (s : Tst) (k : Nat) : List Int32 := if b = true ∧ tK s k ≠ 9 then [41] else []
/-- an object's line, the end of the one before it first -/
def lnL (b : Bool) (s : Tst) (k : Nat) : List Int32 := 10 :: (List.replicate (tD s k) (ahC b) ++ owL b s k)
/-- what is written from a place of the walk on -/
def rfW (b : Bool) (s : Tst) : Nat → Nat → Nat → Nat → List Int32
  | 0, _, _, _ => []
  | _ + 1, 0, _, _ => [10]
  | n + 1, e + 1, x, f => if nxC s x f = -1 then clL b s x ++ rfW b s n e (tP s x) (x + 1) else lnL b s (nxC s x f).toNatClampNeg ++ rfW b s n (e + 2) (nxC s x f).toNatClampNeg ((nxC s x f).toNatClampNeg + 1)
theorem rfW_0 (b : Bool) (s : Tst) (n x f : Nat) : rfW b s (n + 1) 0 x f = [10] := id rfl
theorem rfW_s (b : Bool) (s : Tst) (n e x f : Nat) : rfW b s (n + 1) (e + 1) x f = if nxC s x f = -1 then clL b s x ++ rfW b s n e (tP s x) (x + 1) else lnL b s (nxC s x f).toNatClampNeg ++ rfW b s n (e + 2) (nxC s x f).toNatClampNeg ((nxC s x f).toNatClampNeg + 1) := id rfl
set_option maxRecDepth 100000 in
set_option maxHeartbeats 4000000 in
theorem rfW_u {b : Bool} {s : Tst} {n e x f : Nat} (h : nxC s x f = -1) : rfW b s (n + 1) (e + 1) x f = clL b s x ++ rfW b s n e (tP s x) (x + 1) := by
  rw [rfW_s, if_pos h]
set_option maxRecDepth 100000 in
set_option maxHeartbeats 4000000 in
theorem rfW_c {b : Bool} {s : Tst} {n e x f c : Nat} (hc : c < 200) (h : nxC s x f = zI c) : rfW b s (n + 1) (e + 1) x f = lnL b s c ++ rfW b s n (e + 2) c (c + 1) := by
  rw [rfW_s, h, if_neg (by rw [zI_ne1 (by omega)]; exact not_false), zI_nat (by omega)]
set_option maxRecDepth 100000 in
set_option maxHeartbeats 4000000 in
theorem rf_len {b : Bool} {s : Tst} (hT : T0 s) : ∀ n e x f, WS s e x f → (rfW b s n e x f).length ≤ pot s (fun k => (lnL b s k).length + (clL b s k).length) (fun k => (clL b s k).length) e x f := by
  have hN := hT.1
  intro n
  induction n with
  | zero => intro e x f _; exact Nat.zero_le _
  | succ n ih =>
    intro e x f hW
    cases e with
    | zero => rw [rfW_0]; exact Nat.le_refl _
    | succ e =>
      cases nx_cases hT hW with
      | inl h =>
        obtain ⟨h1, h2, h3⟩ := h
        rw [rfW_u h1, h2, List.length_append]
        have := ih e (tP s x) (x + 1) h3
        omega
      | inr h =>
        obtain ⟨c, h1, h2, h3, h4, h5, h6, h7⟩ := h
        rw [rfW_c (by omega) h1, List.length_append]
        have h8 := h6 (fun k => (lnL b s k).length + (clL b s k).length) (fun k => (clL b s k).length)
        have h9 := ih (e + 2) c (c + 1) h7
        have h8' : pot s (fun k => (lnL b s k).length + (clL b s k).length) (fun k => (clL b s k).length) (e + 1) x f + (clL b s c).length = ((lnL b s c).length + (clL b s c).length) + pot s (fun k => (lnL b s k).length + (clL b s k).length) (fun k => (clL b s k).length) (e + 2) c (c + 1) := h8
        omega
set_option maxRecDepth 100000 in
set_option maxHeartbeats 4000000 in
/-- what is left at the walk's beginning -/
theorem pot_all {s : Tst} (hT : T0 s) (h0 : 0 < s.count) (w cl : Nat → Nat) : pot s w cl 1 0 1 + w 0 ≤ smW w s.count + cl 0 + 1 := by
  have hN := hT.1
  have hP : ∀ i, i < s.count → s.parents i = -1 ∨ ∃ p, p < i ∧ s.parents i = zI p := by
    intro i hi
    cases T0_up hT hi with
    | inl h => exact Or.inl h.2.2
    | inr h => exact Or.inr ⟨_, h.2.1, h.2.2.2⟩
  have ht := aS_tot (w := w) hN hP s.count (Nat.le_refl _)
  have hp0 : s.parents 0 = -1 := by
    cases T0_up hT h0 with
    | inl h => exact h.2.2
    | inr h => omega
  have hk : kS s.parents w s.count (-1) 0 = aS s.parents w s.count s.count (-1) := by
    unfold kS; rw [Nat.sub_zero]
  have hk2 := kS_s (P := s.parents) (w := w) (x := -1) h0
  rw [if_pos hp0, hk, Nat.zero_add] at hk2
  rw [pot_s]
  show _ + 1 + w 0 ≤ _
  omega
