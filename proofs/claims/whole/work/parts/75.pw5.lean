/-! the bytes of a long -/
set_option maxRecDepth 100000 in
set_option maxHeartbeats 4000000 in
theorem b255_32 : ∀ i : Fin 32, (255#32).getLsbD i.val = decide (i.val < 8) := by decide
set_option maxRecDepth 100000 in
set_option maxHeartbeats 4000000 in
theorem b255_64 : ∀ i : Fin 64, (255#64).getLsbD i.val = decide (i.val < 8) := by decide
set_option maxRecDepth 100000 in
set_option maxHeartbeats 4000000 in
theorem by_bv (x : BitVec 64) (c : Nat) (hc : c ≤ 56) : BitVec.signExtend 32 (x >>> c) &&& 255#32 = BitVec.signExtend 32 (BitVec.sshiftRight x c &&& 255#64) := by
  apply BitVec.eq_of_getLsbD_eq
  intro i hi
  have h1 := b255_32 ⟨i, hi⟩
  have h2 := b255_64 ⟨i, by omega⟩
  have h1' : (255#32).getLsbD i = decide (i < 8) := h1
  have h2' : (255#64).getLsbD i = decide (i < 8) := h2
  rw [BitVec.getLsbD_and, BitVec.getLsbD_signExtend, BitVec.getLsbD_signExtend, h1', BitVec.getLsbD_and, h2', BitVec.getLsbD_ushiftRight, BitVec.getLsbD_sshiftRight]
  by_cases h8 : i < 8
  · have e1 : decide (i < 32) = true := decide_eq_true hi
    have e2 : decide (i < 8) = true := decide_eq_true h8
    have e3 : i < 64 := by omega
    have e4 : c + i < 64 := by omega
    have e5 : decide (64 ≤ i) = false := decide_eq_false (by omega)
    simp only [e1, e2, e3, e4, e5, if_true, Bool.true_and, Bool.and_true, Bool.not_false]
  · have e2 : decide (i < 8) = false := decide_eq_false h8
    have e3 : i < 64 := by omega
    simp only [e2, e3, if_true, Bool.and_false]
set_option maxRecDepth 100000 in
set_option maxHeartbeats 4000000 in
theorem by_eq (v : Int64) (j : Nat) (hj : j ≤ 7) : ((v.toUInt64 >>> ((zI (8 * j)).toInt64.toUInt64 &&& Int64.toUInt64 63)).toInt64).toInt32 &&& 255 = ((v >>> ((zI (8 * j)).toInt64 &&& 63)) &&& 255).toInt32 := by
  apply Int32.toBitVec_inj.mp
  have h := by_bv v.toBitVec (8 * j) (by omega)
  have hj8 : j = 0 ∨ j = 1 ∨ j = 2 ∨ j = 3 ∨ j = 4 ∨ j = 5 ∨ j = 6 ∨ j = 7 := by omega
  rcases hj8 with rfl | rfl | rfl | rfl | rfl | rfl | rfl | rfl <;> exact h
