/-! what is written, as a list -/
/-- a row with a list laid over its beginning -/
def ov (f : Nat → Int32) (l : List Int32) : Nat → Int32 := fun i => if h : i < l.length then l[i] else f i
set_option maxRecDepth 100000 in
set_option maxHeartbeats 4000000 in
theorem ov_nil (f : Nat → Int32) : ov f [] = f := by
  funext i
  unfold ov
  rw [dif_neg (by simp)]
set_option maxRecDepth 100000 in
set_option maxHeartbeats 4000000 in
theorem ov_app (f : Nat → Int32) (l : List Int32) (c : Int32) : upd (ov f l) l.length c = ov f (l ++ [c]) := by
  funext i
  rw [upd_at]
  unfold ov
  by_cases h1 : i = l.length
  · subst h1
    rw [if_pos rfl, dif_pos (by simp)]
    simp
  · rw [if_neg h1]
    by_cases h2 : i < l.length
    · rw [dif_pos h2, dif_pos (by simp; omega)]
      rw [List.getElem_append_left h2]
    · rw [dif_neg h2, dif_neg (by simp; omega)]
/-- the page, and the reference's row, with a list written -/
def pP (uP : Md) (l : List Int32) : Md := si (sa uP 0 (ov (ga uP 0) l)) 1 (zI l.length)
def rP (u : Md) (l : List Int32) : Md := si (sa u 25 (ov (ga u 25) l)) 26 (zI l.length)
/-- a character that may stand in a text -/
def isC (c : Int32) : Prop := isT c = true ∨ c = 10
section PAG
variable {uP u : Md} {r : Rst}
theorem pP_1 (l : List Int32) : gi (pP uP l) 1 = zI l.length := id rfl
theorem pP_a (l : List Int32) : ga (pP uP l) 0 = ov (ga uP 0) l := id rfl
set_option maxRecDepth 100000 in
set_option maxHeartbeats 4000000 in
theorem p_put {l : List Int32} {c : Int32} (hc : isC c) (hl : l.length < 60000) : fx_X5_put (pP uP l) c = some (pP uP (l ++ [c])) := by
  unfold fx_X5_put
  rw [pP_1, pP_a]
  simp (disch := omega) only [show (60000 : Int32) = zI 60000 from rfl, zI_le, zI_lt, zI_inj, zI_z, zI_lz, zI_zl, zI_neg, zI_nat, zI_add, zI_one, zI_mul, zI_ne1, zI_1n, leT, leF, ltT, ltF, eqT, eqF, if_true, if_false, Option.bind_some, false_or, or_false, true_or, or_true, true_and, and_true, false_and, and_false, not_true_eq_false, not_false_eq_true, reduceIte, nar_C hc, ov_app]
  refine congrArg some ?_
  unfold pP
  rw [List.length_append]
  refine Prod.ext (funext fun k => ?_) (Prod.ext rfl (Prod.ext (funext fun k => ?_) rfl))
  · by_cases h : k = 1 <;> simp [si, sa, upd, h]
  · by_cases h : k = 0 <;> simp [si, sa, va_up, h]
set_option maxRecDepth 100000 in
set_option maxHeartbeats 4000000 in
theorem q_say {l : List Int32} {c : Int32} (hl : l.length < 110000) : f9_say (wW (rP u l) r) c = some (wW (rP u (l ++ [c])) r) := by
  unfold f9_say
  have e26 : gi (wW (rP u l) r) 26 = zI l.length := rfl
  have e25 : ga (wW (rP u l) r) 25 = ov (ga u 25) l := rfl
  rw [e26, e25]
  simp (disch := omega) only [zI_le, zI_lt, zI_inj, zI_z, zI_lz, zI_zl, zI_neg, zI_nat, zI_add, zI_one, zI_mul, zI_ne1, zI_1n, leT, leF, ltT, ltF, eqT, eqF, if_true, if_false, Option.bind_some, false_or, or_false, true_or, or_true, true_and, and_true, false_and, and_false, not_true_eq_false, not_false_eq_true, reduceIte, ov_app, wW_ba25, wW_b26]
  refine congrArg (fun x => some (wW x r)) ?_
  unfold rP
  rw [List.length_append]
  refine Prod.ext (funext fun k => ?_) (Prod.ext rfl (Prod.ext (funext fun k => ?_) rfl))
  · by_cases h : k = 26 <;> simp [si, sa, upd, h]
  · by_cases h : k = 25 <;> simp [si, sa, va_up, h]
set_option maxRecDepth 100000 in
set_option maxHeartbeats 4000000 in
theorem p_ptimes {c : Int32} (hc : isC c) {m : Nat} (hm : m ≤ 1000) : ∀ j i F (l : List Int32), m - i = j → i ≤ m → j < F → l.length + j ≤ 60000 → fx_X5_putTimes_2 F (pP uP l) c (zI m) (zI i) = some (pP uP (l ++ List.replicate j c)) := by
  intro j
  induction j with
  | zero =>
    intro i F l hj hi hF hl
    obtain ⟨F, rfl⟩ : ∃ F', F = F' + 1 := ⟨F - 1, by omega⟩
    rw [fx_X5_putTimes_2, if_pos (by rw [zI_le (by omega) (by omega)]; omega)]
    simp
  | succ j ih =>
    intro i F l hj hi hF hl
    obtain ⟨F, rfl⟩ : ∃ F', F = F' + 1 := ⟨F - 1, by omega⟩
    rw [fx_X5_putTimes_2, if_neg (by rw [zI_le (by omega) (by omega)]; omega), p_put hc (by omega)]
    simp only [Option.bind_some]
    rw [zI_one, ih (i + 1) F (l ++ [c]) (by omega) (by omega) (by omega) (by rw [List.length_append]; simp; omega), List.replicate_succ, List.append_assoc]
    rfl
end PAG
