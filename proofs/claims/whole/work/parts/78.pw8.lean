/-! a value set, as the law has it -/
section SETL
variable {uX uS uV uP u bT : Md} {s : Tst} {r : Rst}
set_option maxRecDepth 100000 in
set_option maxHeartbeats 4000000 in
theorem st_set_L (hG : TG s) (hSR : SR 1 s r) (h4 : gi u 4 = zI s.count) (h27 : gi u 27 = 0 ∨ gi u 27 = 1) (a1 a2 a3 a4 : Int32) : (∃ y, sL_10_L uX uS (yY bT s) uV uP (wW u r) a1 a2 a3 a4 = some (uX, uS, yY bT s, uV, uP, wW (si u 0 y) r)) ∨ (sL_10_L uX uS (yY bT s) uV uP (wW u r) a1 a2 a3 a4 = some (uX, uS, yY bT s, uV, uP, wW (si (si u 0 0) 27 (gi u 27)) r)) ∨ (∃ s' r', sL_10_L uX uS (yY bT s) uV uP (wW u r) a1 a2 a3 a4 = some (si uX 5 0, uS, yY bT s', uV, uP, wW (si (si u 0 0) 27 1) r') ∧ TG s' ∧ SR 1 s' r' ∧ s'.count = s.count ∧ s'.version = s.version) := by
  unfold sL_10_L
  generalize ((a3.toInt64 <<< ((32 : Int32).toInt64 &&& 63)) ||| (a4.toInt64 &&& 4294967295)) = v
  rcases set_core_L (uX := uX) (uS := uS) (uV := uV) (uP := uP) (bT := bT) hG hSR h4 h27 a1 a2 v with h | h | h
  · left
    refine ⟨1, ?_⟩
    rw [h.1, h.2]
    rfl
  · right; left
    rw [h.1, h.2]
    rfl
  · right; right
    obtain ⟨s', r', b1, b2, b3, b4, b5, b6⟩ := h
    refine ⟨s', r', ?_, b3, b4, b5, b6⟩
    rw [b1, b2]
    rfl
set_option maxRecDepth 100000 in
set_option maxHeartbeats 4000000 in
theorem st_set_B (hG : TG s) (hSR : SR 1 s r) (h4 : gi u 4 = zI s.count) (h27 : gi u 27 = 0 ∨ gi u 27 = 1) (a1 a2 a3 a4 : Int32) : (∃ y, sL_10_B uX uS (yY bT s) uV uP (wW u r) a1 a2 a3 a4 = some (uX, uS, yY bT s, uV, uP, wW (si u 0 y) r)) ∨ (sL_10_B uX uS (yY bT s) uV uP (wW u r) a1 a2 a3 a4 = some (uX, uS, yY bT s, uV, uP, wW (si (si u 0 0) 27 (gi u 27)) r)) ∨ (∃ s' r', sL_10_B uX uS (yY bT s) uV uP (wW u r) a1 a2 a3 a4 = some (si uX 5 0, uS, yY bT s', uV, uP, wW (si (si u 0 0) 27 1) r') ∧ TG s' ∧ SR 1 s' r' ∧ s'.count = s.count ∧ s'.version = s.version) := by
  unfold sL_10_B
  generalize ((a3.toInt64 <<< ((32 : Int32).toInt64 &&& 63)) ||| (a4.toInt64 &&& 4294967295)) = v
  rcases set_core_B (uX := uX) (uS := uS) (uV := uV) (uP := uP) (bT := bT) hG hSR h4 h27 a1 a2 v with h | h | h
  · left
    refine ⟨1, ?_⟩
    rw [h.1, h.2]
    rfl
  · right; left
    rw [h.1, h.2]
    rfl
  · right; right
    obtain ⟨s', r', b1, b2, b3, b4, b5, b6⟩ := h
    refine ⟨s', r', ?_, b3, b4, b5, b6⟩
    rw [b1, b2]
    rfl
end SETL
