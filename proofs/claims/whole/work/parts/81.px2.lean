/-! names and texts written alike -/
section WRT
variable {uP u bT : Md} {r : Rst} {s : Tst}
def n8 : Nat → Int64 → Int64 → Option Int64
  | 0, _, _ => none
  | n + 1, v, sc => if sc = 0 then none else if lg_cmp (v / sc) 27 < 0 then some sc else n8 n v (27 * sc)
theorem n8_s (n : Nat) (v sc : Int64) : n8 (n + 1) v sc = if sc = 0 then none else if lg_cmp (v / sc) 27 < 0 then some sc else n8 n v (27 * sc) := id rfl
set_option maxRecDepth 100000 in
set_option maxHeartbeats 4000000 in
theorem q_n8 : ∀ F G v sc s' (u2 : Md), n8 F v sc = some s' → f9_sayName_8 (F + G) u2 v sc = f9_sayName_30 FU u2 v s' := by
  have hFU : 0 < FU := by unfold FU; omega
  generalize hFF : FU = FF at hFU ⊢
  intro F
  induction F with
  | zero => intro G v sc s' u2 h; cases h
  | succ F ih =>
    intro G v sc s' u2 h
    rw [n8_s] at h
    rw [show F + 1 + G = (F + G) + 1 by omega, f9_sayName_8, hFF]
    by_cases h1 : sc = 0
    · rw [if_pos h1] at h; cases h
    · rw [if_neg h1] at h ⊢
      by_cases h2 : lg_cmp (v / sc) 27 < 0
      · rw [if_pos h2] at h ⊢
        rw [Option.some.inj h]
      · rw [if_neg h2] at h ⊢
        exact ih G v (27 * sc) s' u2 h
set_option maxRecDepth 100000 in
set_option maxHeartbeats 4000000 in
/-- the reference says a name -/
theorem q_name (k : Nat) (hk : k < 9) (l : List Int32) (hl : l.length + 6 ≤ 110000) : f9_sayName (wW (rP u l) r) (zI k) = some (wW (rP u (l ++ nmL k)) r) := by
  have hall : ∀ k : Fin 9, f9_nameOf (zI k.val) = some (zL (lvN (Lk k.val) 0)) ∧ (n8 8 (zL (lvN (Lk k.val) 0)) 1).bind (fun sc => n30 8 (zL (lvN (Lk k.val) 0)) sc) = some (nmL k.val) := by decide
  obtain ⟨h1, h2⟩ := hall ⟨k, hk⟩
  have h1' : f9_nameOf (zI k) = some (zL (lvN (Lk k) 0)) := h1
  have h2' : (n8 8 (zL (lvN (Lk k) 0)) 1).bind (fun sc => n30 8 (zL (lvN (Lk k) 0)) sc) = some (nmL k) := h2
  generalize zL (lvN (Lk k) 0) = v at h1' h2'
  have hlen := (Lk_ok k hk).2.2.1
  unfold f9_sayName
  rw [h1']
  simp only [Option.bind_some]
  cases h8 : n8 8 v 1 with
  | none => rw [h8] at h2'; cases h2'
  | some sc =>
    rw [h8] at h2'
    have h30 : n30 8 v sc = some (nmL k) := h2'
    have e1 := q_n8 8 999992 v 1 sc (wW (rP u l) r) h8
    have e2 := q_n30 (u := u) (r := r) 8 999992 v sc (nmL k) l h30 (by rw [nmL_len]; omega)
    have hF : (8 + 999992 : Nat) = FU := by unfold FU; omega
    rw [hF] at e1 e2
    rw [e1, e2]
end WRT
