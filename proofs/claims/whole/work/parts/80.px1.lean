/-! names and what stands ahead, written alike -/
section WRN
variable {uP u : Md} {r : Rst}
theorem rP_1 (l : List Int32) : gi (wW (rP u l) r) 1 = gi u 1 := id rfl
set_option maxRecDepth 100000 in
set_option maxHeartbeats 4000000 in
theorem q_ahead {m : Nat} (hm : m ≤ 1000) : ∀ j i F (l : List Int32), m - i = j → i ≤ m → j < F → l.length + j ≤ 110000 → f9_sayAhead_2 F (wW (rP u l) r) (zI m) (zI i) = some (wW (rP u (l ++ List.replicate j (if gi u 1 = 0 then (32 : Int32) else 46))) r) := by
  intro j
  induction j with
  | zero =>
    intro i F l hj hi hF hl
    obtain ⟨F, rfl⟩ : ∃ F', F = F' + 1 := ⟨F - 1, by omega⟩
    rw [f9_sayAhead_2, if_pos (by rw [zI_le (by omega) (by omega)]; omega)]
    simp
  | succ j ih =>
    intro i F l hj hi hF hl
    obtain ⟨F, rfl⟩ : ∃ F', F = F' + 1 := ⟨F - 1, by omega⟩
    rw [f9_sayAhead_2, if_neg (by rw [zI_le (by omega) (by omega)]; omega), rP_1]
    unfold f9_sayAhead_22
    have hgo : ∀ c : Int32, ((f9_say (wW (rP u l) r) c).bind fun u_4 => f9_sayAhead_2 F u_4 (zI m) (zI i + 1)) = some (wW (rP u ((l ++ [c]) ++ List.replicate j (if gi u 1 = 0 then (32 : Int32) else 46))) r) := by
      intro c
      rw [q_say (by omega)]
      simp only [Option.bind_some]
      rw [zI_one, ih (i + 1) F (l ++ [c]) (by omega) (by omega) (by omega) (by rw [List.length_append]; simp; omega)]
    rw [hgo, hgo, List.replicate_succ, List.append_assoc, List.append_assoc]
    by_cases h : gi u 1 = 0
    · simp only [h, if_true]; rfl
    · simp only [h, if_false]; rfl
/-- the letters of a kind's name -/
def nmL (k : Nat) : List Int32 := (Lk k).map (fun x => zI (96 + x))
set_option maxRecDepth 100000 in
set_option maxHeartbeats 4000000 in
theorem nmL_len (k : Nat) : (nmL k).length = (Lk k).length := List.length_map ..
set_option maxRecDepth 100000 in
set_option maxHeartbeats 4000000 in
theorem isC_l {x : Nat} (h1 : 1 ≤ x) (h2 : x ≤ 26) : isC (zI (96 + x)) := by
  left
  have hall : ∀ x : Fin 27, isT (zI (96 + x.val)) = true := by decide
  exact hall ⟨x, by omega⟩
set_option maxRecDepth 100000 in
set_option maxHeartbeats 4000000 in
theorem p_title (k : Nat) (hk : k < 9) : ∀ j i F (l : List Int32), (Lk k).length - i = j → i ≤ (Lk k).length → j < F → l.length + j ≤ 60000 → fx_X5_putTitle_2 F (pP uP l) (kTitle (fk10 (zI k))) (zI i) = some (pP uP (l ++ (nmL k).drop i)) := by
  have hl0 := Lk_ok k hk
  have ht := t_title ⟨k, hk⟩
  intro j
  induction j with
  | zero =>
    intro i F l hj hi hF hl
    obtain ⟨F, rfl⟩ : ∃ F', F = F' + 1 := ⟨F - 1, by omega⟩
    rw [fx_X5_putTitle_2, ht.1]
    simp only [Option.bind_some]
    rw [if_pos (by rw [zI_le (by omega) (by omega)]; omega), List.drop_eq_nil_of_le (by rw [nmL_len]; omega), List.append_nil]
  | succ j ih =>
    intro i F l hj hi hF hl
    obtain ⟨F, rfl⟩ : ∃ F', F = F' + 1 := ⟨F - 1, by omega⟩
    have hi2 : i < (Lk k).length := by omega
    have hc := ht.2 ⟨i, by omega⟩ hi2
    have hg : (Lk k).getD i 0 = (Lk k)[i] := by rw [List.getD_eq_getElem?_getD, List.getElem?_eq_getElem hi2]; rfl
    have hx := hl0.1 (Lk k)[i] (List.getElem_mem hi2)
    rw [fx_X5_putTitle_2, ht.1]
    simp only [Option.bind_some]
    rw [if_neg (by rw [zI_le (by omega) (by omega)]; omega), hc]
    simp only [Option.bind_some]
    have hg' : (Lk (⟨k, hk⟩ : Fin 9).val).getD i 0 = (Lk k)[i] := hg
    rw [hg', p_put (isC_l hx.1 hx.2) (by omega)]
    simp only [Option.bind_some]
    rw [zI_one, ih (i + 1) F _ (by omega) (by omega) (by omega) (by rw [List.length_append]; simp; omega), List.append_assoc]
    have hd : (nmL k).drop i = zI (96 + (Lk k)[i]) :: (nmL k).drop (i + 1) := by
      rw [List.drop_eq_getElem_cons (by rw [nmL_len]; exact hi2)]
      unfold nmL
      rw [List.getElem_map]
    rw [hd]
    rfl
/-- the reference's loops over a name, without its state -/
def n30 : Nat → Int64 → Int64 → Option (List Int32)
  | 0, _, _ => none
  | n + 1, v, sc => if lg_cmp sc 0 ≤ 0 then some [] else if sc = 0 then none else (n30 n v (sc / 27)).map (fun L => ((v / sc - v / sc / 27 * 27).toInt32 + 96) :: L)
theorem n30_s (n : Nat) (v sc : Int64) : n30 (n + 1) v sc = if lg_cmp sc 0 ≤ 0 then some [] else if sc = 0 then none else (n30 n v (sc / 27)).map (fun L => ((v / sc - v / sc / 27 * 27).toInt32 + 96) :: L) := id rfl
set_option maxRecDepth 100000 in
set_option maxHeartbeats 4000000 in
theorem q_n30 : ∀ F G v sc L (l : List Int32), n30 F v sc = some L → l.length + L.length ≤ 110000 → f9_sayName_30 (F + G) (wW (rP u l) r) v sc = some (wW (rP u (l ++ L)) r) := by
  intro F
  induction F with
  | zero => intro G v sc L l h; cases h
  | succ F ih =>
    intro G v sc L l h hl
    rw [n30_s] at h
    rw [show F + 1 + G = (F + G) + 1 by omega, f9_sayName_30]
    by_cases h0 : lg_cmp sc 0 ≤ 0
    · rw [if_pos h0] at h ⊢
      have e := Option.some.inj h
      rw [← e, List.append_nil]
    · rw [if_neg h0] at h ⊢
      by_cases h1 : sc = 0
      · rw [if_pos h1] at h; cases h
      · rw [if_neg h1] at h ⊢
        cases hr : n30 F v (sc / 27) with
        | none => rw [hr] at h; cases h
        | some L' =>
          rw [hr] at h
          have e := Option.some.inj h
          rw [← e] at hl ⊢
          rw [List.length_cons] at hl
          rw [q_say (by omega)]
          simp only [Option.bind_some]
          rw [ih G v (sc / 27) L' _ hr (by rw [List.length_append]; simp; omega), List.append_assoc]
          rfl
end WRN
