/-! all the calls -/
set_option maxRecDepth 100000 in
set_option maxHeartbeats 4000000 in
theorem u0_yY : u0 = yY u0 (t00 u0) := by
  refine Prod.ext (funext fun k => ?_) (Prod.ext rfl (Prod.ext (funext fun k => ?_) rfl))
  · show (0 : Int32) = if k = 12 then zI 0 else if k = 13 then zI 0 else if k = 14 then zI 0 else if k = 15 then 0 else 0
    repeat' split
    all_goals rfl
  · show (fun _ => (0 : Int32)) = if k = 0 then (fun _ => (0 : Int32)) else if k = 1 then (fun _ => 0) else if k = 2 then (fun _ => 0) else if k = 3 then (fun _ => 0) else if k = 4 then (fun _ => 0) else if k = 5 then (fun _ => 0) else if k = 7 then (fun _ => 0) else if k = 8 then (fun _ => 0) else if k = 9 then (fun _ => 0) else if k = 10 then (fun _ => 0) else if k = 11 then (fun _ => 0) else (fun _ => 0)
    repeat' split
    all_goals rfl
def r00 : Rst := (0, 0, 0, 0, 0, 0, 0, 0, 0, fun _ => 0, fun _ => 0, fun _ => 0, fun _ => 0, fun _ => 0, fun _ => 0, fun _ => 0, fun _ => 0, fun _ => 0, fun _ => 0)
set_option maxRecDepth 100000 in
set_option maxHeartbeats 4000000 in
theorem u09_wW (f : Int32) : u09 f = wW (u09 f) r00 := by
  refine Prod.ext (funext fun k => ?_) (Prod.ext rfl (Prod.ext (funext fun k => ?_) rfl))
  · show (u09 f).1 k = if k = 16 then 0 else if k = 17 then zI 0 else if k = 18 then 0 else if k = 20 then zI 0 else if k = 21 then zI 0 else if k = 22 then zI 0 else if k = 29 then zI 0 else if k = 30 then 0 else (u09 f).1 k
    by_cases c1 : k = 16
    · subst c1; rfl
    by_cases c2 : k = 17
    · subst c2; rfl
    by_cases c3 : k = 18
    · subst c3; rfl
    by_cases c4 : k = 20
    · subst c4; rfl
    by_cases c5 : k = 21
    · subst c5; rfl
    by_cases c6 : k = 22
    · subst c6; rfl
    by_cases c7 : k = 29
    · subst c7; rfl
    by_cases c8 : k = 30
    · subst c8; rfl
    simp only [c1, c2, c3, c4, c5, c6, c7, c8, if_false]
  · show (fun _ => (0 : Int32)) = if k = 5 then (fun _ => (0 : Int32)) else if k = 6 then (fun _ => 0) else if k = 8 then (fun _ => 0) else if k = 9 then (fun _ => 0) else if k = 10 then (fun _ => 0) else if k = 11 then (fun _ => 0) else if k = 12 then (fun _ => 0) else if k = 23 then (fun _ => 0) else if k = 24 then (fun _ => 0) else (fun _ => 0)
    repeat' split
    all_goals rfl
set_option maxRecDepth 100000 in
set_option maxHeartbeats 4000000 in
theorem TG_00 : TG (t00 u0) := by
  refine ⟨⟨by decide, fun k hk => absurd hk (Nat.not_lt_zero k), fun k hk => absurd hk (Nat.not_lt_zero k)⟩, fun k hk => absurd hk (Nat.not_lt_zero k), ⟨rfl, fun k _ hk => absurd hk (Nat.not_lt_zero k)⟩, by decide, rfl, fun k hk => absurd hk (Nat.not_lt_zero k), fun k hk => absurd hk (Nat.not_lt_zero k)⟩
set_option maxRecDepth 100000 in
set_option maxHeartbeats 4000000 in
theorem SR_00 : SR 1 (t00 u0) r00 := by
  have e0 : (t00 u0).count = 0 := rfl
  refine ⟨fun j hj => absurd hj (by rw [e0]; omega), fun k hk => absurd hk (Nat.not_lt_zero k), fun _ => ⟨fun k hk => absurd hk (Nat.not_lt_zero k), fun j hj => absurd hj (by rw [e0]; omega), fun k hk => absurd hk (Nat.not_lt_zero k), fun k hk => absurd hk (Nat.not_lt_zero k)⟩⟩
set_option maxRecDepth 100000 in
set_option maxHeartbeats 4000000 in
theorem rel_0_L : RelF false 0 (u0, u0S, u0, u0, u0, u09 1) := by
  have e0 : (t00 u0).count = 0 := rfl
  refine ⟨u0, t00 u0, u09 1, r00, u0_yY, u09_wW 1, fun _ => 0, 0, ⟨rfl, rfl, by omega⟩, ⟨rfl, rfl, by omega⟩, fun p hp => absurd hp (Nat.not_lt_zero p), Nat.le_refl _, TG_00, SR_00, rfl, rfl, rfl, Or.inr rfl, fun _ h => absurd h (by rw [e0]; omega), fun _ h => absurd h (by rw [e0]; omega)⟩
set_option maxRecDepth 100000 in
set_option maxHeartbeats 4000000 in
theorem loop_ok_L {xs : Nat → Int32} {L : Nat} (hL : L ≤ 2561) : ∀ k n S, 1 ≤ k → 513 ≤ n + k → RelF false n S → loopL_L xs L k n S = some () := by
  intro k
  induction k with
  | zero => intro n S h1; omega
  | succ k ih =>
    intro n S h1 h2 hR
    rw [loopL_L]
    by_cases hc : L < 6 + 5 * n
    · rw [if_pos hc]
    · rw [if_neg hc]
      obtain ⟨S', e1, e2⟩ := rel_step_L hR (by omega) (xs (1 + 5 * n + 0)) (xs (1 + 5 * n + 1)) (xs (1 + 5 * n + 2)) (xs (1 + 5 * n + 3)) (xs (1 + 5 * n + 4))
      rw [e1]
      simp only [Option.bind_some]
      exact ih (n + 1) S' (by omega) (by omega) e2
set_option maxRecDepth 100000 in
set_option maxHeartbeats 4000000 in
/-- the two sides answer alike, at every run of calls -/
theorem pure_L (xs : Nat → Int32) {L : Nat} (hL : L ≤ 2561) : loopL_L xs L 514 0 (u0, u0S, u0, u0, u0, u09 1) = some () := loop_ok_L hL 514 0 _ (by omega) (by omega) rel_0_L
set_option maxRecDepth 100000 in
set_option maxHeartbeats 4000000 in
theorem rel_0_B : RelF true 0 (u0, u0S, u0, u0, u0, u09 0) := by
  have e0 : (t00 u0).count = 0 := rfl
  refine ⟨u0, t00 u0, u09 0, r00, u0_yY, u09_wW 0, fun _ => 0, 0, ⟨rfl, rfl, by omega⟩, ⟨rfl, rfl, by omega⟩, fun p hp => absurd hp (Nat.not_lt_zero p), Nat.le_refl _, TG_00, SR_00, rfl, rfl, rfl, Or.inr rfl, fun _ h => absurd h (by rw [e0]; omega), fun _ h => absurd h (by rw [e0]; omega)⟩
set_option maxRecDepth 100000 in
set_option maxHeartbeats 4000000 in
theorem loop_ok_B {xs : Nat → Int32} {L : Nat} (hL : L ≤ 2561) : ∀ k n S, 1 ≤ k → 513 ≤ n + k → RelF true n S → loopL_B xs L k n S = some () := by
  intro k
  induction k with
  | zero => intro n S h1; omega
  | succ k ih =>
    intro n S h1 h2 hR
    rw [loopL_B]
    by_cases hc : L < 6 + 5 * n
    · rw [if_pos hc]
    · rw [if_neg hc]
      obtain ⟨S', e1, e2⟩ := rel_step_B hR (by omega) (xs (1 + 5 * n + 0)) (xs (1 + 5 * n + 1)) (xs (1 + 5 * n + 2)) (xs (1 + 5 * n + 3)) (xs (1 + 5 * n + 4))
      rw [e1]
      simp only [Option.bind_some]
      exact ih (n + 1) S' (by omega) (by omega) e2
set_option maxRecDepth 100000 in
set_option maxHeartbeats 4000000 in
/-- the two sides answer alike, at every run of calls -/
theorem pure_B (xs : Nat → Int32) {L : Nat} (hL : L ≤ 2561) : loopL_B xs L 514 0 (u0, u0S, u0, u0, u0, u09 0) = some () := loop_ok_B hL 514 0 _ (by omega) (by omega) rel_0_B
