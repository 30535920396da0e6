/-! every step keeps the two sides alike -/
/-- what the states hold between two steps, after at most N of them -/
def RC (b : Bool) (N : Nat) (uX uS : Md) (s : Tst) (uP u : Md) (r : Rst) : Prop := ∃ t n, SOk uS t n ∧ ROk u t n ∧ COk t n ∧ n ≤ N ∧ TG s ∧ SR 1 s r ∧ gi u 4 = zI s.count ∧ gi u 14 = s.version ∧ gi u 1 = (if b = true then 0 else 1) ∧ (gi u 27 = 0 ∨ gi u 27 = 1) ∧ (gi uX 5 ≠ 0 → 0 < s.count → PgC uP (wrL b s)) ∧ (gi u 27 = 0 → 0 < s.count → PgR u (wrL b s))
def RelF (b : Bool) (N : Nat) (S : StL) : Prop := ∃ bT s u r, S.2.2.1 = yY bT s ∧ S.2.2.2.2.2 = wW u r ∧ RC b N S.1 S.2.1 s S.2.2.2.2.1 u r
def Kq (u u' : Md) : Prop := gi u' 1 = gi u 1 ∧ gi u' 3 = gi u 3 ∧ gi u' 4 = gi u 4 ∧ gi u' 14 = gi u 14 ∧ gi u' 26 = gi u 26 ∧ gi u' 27 = gi u 27 ∧ ga u' 2 = ga u 2 ∧ ga u' 25 = ga u 25
set_option maxRecDepth 100000 in
set_option maxHeartbeats 4000000 in
theorem Kq_0 (u : Md) (y : Int32) : Kq u (si u 0 y) := ⟨rfl, rfl, rfl, rfl, rfl, rfl, rfl, rfl⟩
set_option maxRecDepth 100000 in
set_option maxHeartbeats 4000000 in
theorem Kq_27 (u : Md) : Kq u (si (si u 0 0) 27 (gi u 27)) := ⟨rfl, rfl, rfl, rfl, rfl, rfl, rfl, rfl⟩
set_option maxRecDepth 100000 in
set_option maxHeartbeats 4000000 in
theorem Kq_15 (u : Md) : Kq u (si (si u 0 0) 15 0) := ⟨rfl, rfl, rfl, rfl, rfl, rfl, rfl, rfl⟩
section STP
variable {b : Bool} {N : Nat} {uX uS uV uP u bT : Md} {r r' : Rst} {s s' : Tst}
set_option maxRecDepth 100000 in
set_option maxHeartbeats 4000000 in
theorem SR_A0 (h : SR 1 s r) (hA : A0 r r') : SR 1 s r' := by
  obtain ⟨a1, a2, a3, a4, a5, a6, a7, a8⟩ := hA
  refine ⟨h.1, h.2.1, fun hm => ?_⟩
  have h3 := h.2.2 hm
  unfold TR at h3 ⊢
  rw [a1, a2, a3, a4, a5, a6, a7, a8]
  exact h3
set_option maxRecDepth 100000 in
set_option maxHeartbeats 4000000 in
theorem RC_kq {u' uS' : Md} (h : RC b N uX uS s uP u r) (hK : Kq u u') (hS : ∀ t n, SOk uS t n → SOk uS' t n) (hr : A0 r r') : RC b (N + 1) uX uS' s uP u' r' := by
  obtain ⟨t, n, h1, h2, h3, h4, h5, h6, h7, h8, h9, h10, h11, h12⟩ := h
  obtain ⟨k1, k3, k4, k14, k26, k27, ka2, ka25⟩ := hK
  refine ⟨t, n, hS t n h1, ?_, h3, by omega, h5, SR_A0 h6 hr, by rw [k4, h7], by rw [k14, h8], by rw [k1, h9], by rw [k27]; exact h10, h11, ?_⟩
  · unfold ROk at h2 ⊢
    rw [k3, ka2]; exact h2
  · unfold PgR at h12 ⊢
    rw [k26, k27, ka25]; exact h12
set_option maxRecDepth 100000 in
set_option maxHeartbeats 4000000 in
/-- other objects: nothing is held of what was written -/
theorem RC_new {uX' uS' u' : Md} (h : RC b N uX uS s uP u r) (k1 : gi u' 1 = gi u 1) (k3 : gi u' 3 = gi u 3) (ka2 : ga u' 2 = ga u 2) (k4 : gi u' 4 = zI s'.count) (k14 : gi u' 14 = s'.version) (k27 : gi u' 27 = 1) (k5 : gi uX' 5 = 0) (hS : ∀ t n, SOk uS t n → SOk uS' t n) (hG : TG s') (hSR : SR 1 s' r') : RC b (N + 1) uX' uS' s' uP u' r' := by
  obtain ⟨t, n, h1, h2, h3, h4, h5, h6, h7, h8, h9, h10, h11, h12⟩ := h
  refine ⟨t, n, hS t n h1, ?_, h3, by omega, hG, hSR, k4, k14, by rw [k1, h9], Or.inr k27, fun hh => absurd k5 hh, fun hh => ?_⟩
  · unfold ROk at h2 ⊢
    rw [k3, ka2]; exact h2
  · rw [k27] at hh
    exact absurd hh (by decide)
set_option maxRecDepth 100000 in
set_option maxHeartbeats 4000000 in
/-- the step of a call that only looks -/
theorem rel_look (h : RC b N uX uS s uP u r) {o : Option StL} (ho : ∃ y, o = some (uX, uS, yY bT s, uV, uP, wW (si u 0 y) r)) : ∃ S', o = some S' ∧ RelF b (N + 1) S' := by
  obtain ⟨y, hy⟩ := ho
  exact ⟨_, hy, bT, s, si u 0 y, r, rfl, rfl, RC_kq h (Kq_0 u y) (fun _ _ h => h) (A0_refl r)⟩
set_option maxRecDepth 100000 in
set_option maxHeartbeats 4000000 in
theorem rd_fin {o : Option (Int32 × Bool × Md × Md × Md × Md)} {o9 : Option (Int32 × Md)} {v : Int32} {bo : Bool} {x1 x2 x3 x4 x6 : Md} (e1 : o = some (v, bo, x1, x2, x3, x4)) (e2 : o9 = some (v, x6)) : (o.bind fun p => o9.bind fun q => if p.1 = q.1 then some (p.2.2.1, p.2.2.2.1, p.2.2.2.2.1, p.2.2.2.2.2, uP, q.2) else none) = some (x1, x2, x3, x4, uP, x6) := by
  rw [e1, e2]
  simp only [Option.bind_some]
  rw [if_pos trivial]
set_option maxRecDepth 100000 in
set_option maxHeartbeats 4000000 in
theorem rel_read {n : Nat} {o : Option (Int32 × Bool × Md × Md × Md × Md)} {o9 : Option (Int32 × Md)} (h : RC b N uX uS s uP u r) (hO : ReO uX uS (yY bT s) uV u r n o o9) : ∃ S', (o.bind fun p => o9.bind fun q => if p.1 = q.1 then some (p.2.2.1, p.2.2.2.1, p.2.2.2.2.1, p.2.2.2.2.2, uP, q.2) else none) = some S' ∧ RelF b (N + 1) S' := by
  unfold ReO at hO
  cases hO with
  | inl e =>
    obtain ⟨e, a, w, s', r', e0, e1, e2, e3⟩ := e
    have hgo := rd_fin (uP := uP) e1 e2
    have hK := Kq_15 u
    generalize si (si u 0 0) 15 0 = u' at hgo hK
    exact ⟨_, hgo, bT, s, u', r', rfl, rfl, RC_kq h hK (fun t n h => S_ok h a (zI e) w) e3⟩
  | inr e =>
    obtain ⟨a, w, s', r', e1, e2, e3, e4⟩ := e
    have hgo := rd_fin (uP := uP) e1 e2
    have k1 : gi (si (si (si (si (si (si (si u 0 0) 15 0) 15 1) 4 (zI s'.count)) 13 (zI s'.kc)) 14 s'.version) 27 1) 1 = gi u 1 := by simp [gi_si]
    have k3 : gi (si (si (si (si (si (si (si u 0 0) 15 0) 15 1) 4 (zI s'.count)) 13 (zI s'.kc)) 14 s'.version) 27 1) 3 = gi u 3 := by simp [gi_si]
    have k4 : gi (si (si (si (si (si (si (si u 0 0) 15 0) 15 1) 4 (zI s'.count)) 13 (zI s'.kc)) 14 s'.version) 27 1) 4 = zI s'.count := by simp [gi_si]
    have k14 : gi (si (si (si (si (si (si (si u 0 0) 15 0) 15 1) 4 (zI s'.count)) 13 (zI s'.kc)) 14 s'.version) 27 1) 14 = s'.version := by simp [gi_si]
    have k27 : gi (si (si (si (si (si (si (si u 0 0) 15 0) 15 1) 4 (zI s'.count)) 13 (zI s'.kc)) 14 s'.version) 27 1) 27 = 1 := by simp [gi_si]
    have ka2 : ga (si (si (si (si (si (si (si u 0 0) 15 0) 15 1) 4 (zI s'.count)) 13 (zI s'.kc)) 14 s'.version) 27 1) 2 = ga u 2 := by simp [ga_si]
    generalize si (si (si (si (si (si (si u 0 0) 15 0) 15 1) 4 (zI s'.count)) 13 (zI s'.kc)) 14 s'.version) 27 1 = u' at hgo k1 k3 k4 k14 k27 ka2
    have k5 : gi (si uX 5 0) 5 = 0 := by simp [gi_si]
    generalize si uX 5 0 = uX' at hgo k5
    exact ⟨_, hgo, uV, s', u', r', rfl, rfl, RC_new h k1 k3 ka2 k4 k14 k27 k5 (fun t n h => S_ok h a (-1) w) e3 e4⟩
set_option maxRecDepth 100000 in
set_option maxHeartbeats 4000000 in
theorem rel_unit_L (h : RC false N uX uS s uP u r) (hN : N ≤ 511) (a1 : Int32) : ∃ S', sL_0_L uX uS (yY bT s) uV uP (wW u r) a1 = some S' ∧ RelF false (N + 1) S' := by
  have hh := h
  obtain ⟨t, n, h1, h2, h3, h4, h5, h6, h7, h8, h9, h10, h11, h12⟩ := h
  cases st_unit_L (uX := uX) (uT := yY bT s) (uV := uV) (uP := uP) (r := r) h1 h2 h3 (by omega) a1 with
  | inl e => exact rel_look hh ⟨0, e⟩
  | inr e =>
    obtain ⟨uS', e1, e2, e3⟩ := e
    refine ⟨_, e1, bT, s, _, r, rfl, rfl, upd t n a1, n + 1, e2, ⟨rfl, rfl, by omega⟩, e3, by omega, h5, h6, h7, h8, h9, h10, h11, h12⟩
set_option maxRecDepth 100000 in
set_option maxHeartbeats 4000000 in
theorem rel_read_L (h : RC false N uX uS s uP u r) : ∃ S', sL_1_L uX uS (yY bT s) uV uP (wW u r) = some S' ∧ RelF false (N + 1) S' := by
  have hh := h
  obtain ⟨t, n, h1, h2, h3, h4, h5, h6, h7, h8, h9, h10, h11, h12⟩ := h
  exact rel_read hh (re_L (uX := uX) (uT := yY bT s) (uV := uV) (uP := uP) h1 h2 h3 r h9)
set_option maxRecDepth 100000 in
set_option maxHeartbeats 4000000 in
theorem rel_write_L (h : RC false N uX uS s uP u r) (a1 : Int32) : ∃ S', sL_8_L uX uS (yY bT s) uV uP (wW u r) a1 = some S' ∧ RelF false (N + 1) S' := by
  have hh := h
  obtain ⟨t, n, h1, h2, h3, h4, h5, h6, h7, h8, h9, h10, h11, h12⟩ := h
  have h9' : gi u 1 = 1 := h9
  cases st_write_L (uX := uX) (uS := uS) (uV := uV) (uP := uP) (bT := bT) h5 h6 h7 (by rw [h9']; decide) h10 h11 h12 a1 with
  | inl e => exact rel_look hh e
  | inr e =>
    obtain ⟨uX', uP', u', e1, e2, e3, k1, k3, k4, k14, ka2, k27⟩ := e
    refine ⟨_, e1, bT, s, u', r, rfl, rfl, t, n, h1, ?_, h3, by omega, h5, h6, by rw [k4, h7], by rw [k14, h8], by rw [k1, h9], k27, fun _ _ => e2, fun _ _ => e3⟩
    unfold ROk at h2 ⊢
    rw [k3, ka2]; exact h2
set_option maxRecDepth 100000 in
set_option maxHeartbeats 4000000 in
theorem rel_object_L (h : RC false N uX uS s uP u r) (a1 a2 : Int32) : ∃ S', sL_9_L uX uS (yY bT s) uV uP (wW u r) a1 a2 = some S' ∧ RelF false (N + 1) S' := by
  have hh := h
  obtain ⟨t, n, h1, h2, h3, h4, h5, h6, h7, h8, h9, h10, h11, h12⟩ := h
  rcases st_object_L (uX := uX) (uS := uS) (uV := uV) (uP := uP) (bT := bT) h5 h6 h7 a1 a2 with e | e | e
  · exact rel_look hh e
  · exact ⟨_, e, bT, s, _, r, rfl, rfl, t, n, h1, h2, h3, by omega, h5, h6, h7, h8, h9, h10, fun hh => absurd rfl hh, h12⟩
  · obtain ⟨s', r', e1, e2, e3, e4⟩ := e
    refine ⟨_, e1, bT, s', _, r', rfl, rfl, ?_⟩
    refine RC_new hh ?_ ?_ ?_ ?_ ?_ ?_ ?_ (fun _ _ h => h) e2 e3
    · simp [gi_si]
    · simp [gi_si]
    · simp [ga_si]
    · simp [gi_si]
    · rw [e4, ← h8]; simp [gi_si]
    · simp [gi_si]
    · simp [gi_si]
set_option maxRecDepth 100000 in
set_option maxHeartbeats 4000000 in
theorem rel_set_L (h : RC false N uX uS s uP u r) (a1 a2 a3 a4 : Int32) : ∃ S', sL_10_L uX uS (yY bT s) uV uP (wW u r) a1 a2 a3 a4 = some S' ∧ RelF false (N + 1) S' := by
  have hh := h
  obtain ⟨t, n, h1, h2, h3, h4, h5, h6, h7, h8, h9, h10, h11, h12⟩ := h
  rcases st_set_L (uX := uX) (uS := uS) (uV := uV) (uP := uP) (bT := bT) h5 h6 h7 h10 a1 a2 a3 a4 with e | e | e
  · exact rel_look hh e
  · exact ⟨_, e, bT, s, _, r, rfl, rfl, RC_kq hh (Kq_27 u) (fun _ _ h => h) (A0_refl r)⟩
  · obtain ⟨s', r', e1, e2, e3, e4, e5⟩ := e
    refine ⟨_, e1, bT, s', _, r', rfl, rfl, ?_⟩
    refine RC_new hh ?_ ?_ ?_ ?_ ?_ ?_ ?_ (fun _ _ h => h) e2 e3
    · simp [gi_si]
    · simp [gi_si]
    · simp [ga_si]
    · rw [e4, ← h7]; simp [gi_si]
    · rw [e5, ← h8]; simp [gi_si]
    · simp [gi_si]
    · simp [gi_si]
set_option maxRecDepth 100000 in
set_option maxHeartbeats 4000000 in
theorem rel_clear_L (h : RC false N uX uS s uP u r) : ∃ S', sL_12_L uX uS (yY bT s) uV uP (wW u r) = some S' ∧ RelF false (N + 1) S' := by
  obtain ⟨t, n, h1, h2, h3, h4, h5, h6, h7, h8, h9, h10, h11, h12⟩ := h
  exact ⟨_, st_clear_L, bT, s, _, r, rfl, rfl, t, 0, ⟨rfl, h1.2.1, by omega⟩, ⟨rfl, h2.2.1, by omega⟩, fun p hp => absurd hp (by omega), by omega, h5, h6, h7, h8, h9, h10, h11, h12⟩
set_option maxRecDepth 100000 in
set_option maxHeartbeats 4000000 in
/-- every step -/
theorem rel_step_L {S : StL} (h : RelF false N S) (hN : N ≤ 511) (a0 a1 a2 a3 a4 : Int32) : ∃ S', stepL_L S a0 a1 a2 a3 a4 = some S' ∧ RelF false (N + 1) S' := by
  obtain ⟨bT, s, u, r, hT, hU, h⟩ := h
  obtain ⟨uX, uS, uT, uV, uP, u9⟩ := S
  have hT' : uT = yY bT s := hT
  have hU' : u9 = wW u r := hU
  have hh : RC false N uX uS s uP u r := h
  subst hT' hU'
  unfold stepL_L
  have hgo := hh
  obtain ⟨t, n, h1, h2, h3, h4, h5, h6, h7, h8, h9, h10, h11, h12⟩ := hh
  by_cases c0 : a0 &&& 15 = 0
  · rw [if_pos c0]; exact rel_unit_L hgo hN a1
  rw [if_neg c0]
  by_cases c1 : a0 &&& 15 = 1
  · rw [if_pos c1]; exact rel_read_L hgo
  rw [if_neg c1]
  by_cases c2 : a0 &&& 15 = 2
  · rw [if_pos c2]; exact rel_look hgo (st_kind_L h5 h6 h7 a1)
  rw [if_neg c2]
  by_cases c3 : a0 &&& 15 = 3
  · rw [if_pos c3]; exact rel_look hgo (st_parent_L h5 h6 h7 a1)
  rw [if_neg c3]
  by_cases c4 : a0 &&& 15 = 4
  · rw [if_pos c4]; exact rel_look hgo (st_number_L h5 h6 h7 a1 a2)
  rw [if_neg c4]
  by_cases c5 : a0 &&& 15 = 5
  · rw [if_pos c5]; exact rel_look hgo (st_text_L h5 h6 h7 a1 a2 a3)
  rw [if_neg c5]
  by_cases c6 : a0 &&& 15 = 6
  · rw [if_pos c6]; exact rel_look hgo (st_version_L h8)
  rw [if_neg c6]
  by_cases c7 : a0 &&& 15 = 7
  · rw [if_pos c7]; exact rel_look hgo (st_unknown_L h5 h6 h7 a1 a2)
  rw [if_neg c7]
  by_cases c8 : a0 &&& 15 = 8
  · rw [if_pos c8]; exact rel_write_L hgo a1
  rw [if_neg c8]
  by_cases c9 : a0 &&& 15 = 9
  · rw [if_pos c9]; exact rel_object_L hgo a1 a2
  rw [if_neg c9]
  by_cases c10 : a0 &&& 15 = 10
  · rw [if_pos c10]; exact rel_set_L hgo a1 a2 a3 a4
  rw [if_neg c10]
  by_cases c11 : a0 &&& 15 = 11
  · rw [if_pos c11]; exact rel_look hgo (st_depth_L h5 h6 h7)
  rw [if_neg c11]
  by_cases c12 : a0 &&& 15 = 12
  · rw [if_pos c12]; exact rel_clear_L hgo
  rw [if_neg c12]
  exact ⟨_, rfl, bT, s, u, r, rfl, rfl, t, n, h1, h2, h3, by omega, h5, h6, h7, h8, h9, h10, h11, h12⟩
set_option maxRecDepth 100000 in
set_option maxHeartbeats 4000000 in
theorem rel_unit_B (h : RC true N uX uS s uP u r) (hN : N ≤ 511) (a1 : Int32) : ∃ S', sL_0_B uX uS (yY bT s) uV uP (wW u r) a1 = some S' ∧ RelF true (N + 1) S' := by
  have hh := h
  obtain ⟨t, n, h1, h2, h3, h4, h5, h6, h7, h8, h9, h10, h11, h12⟩ := h
  cases st_unit_B (uX := uX) (uT := yY bT s) (uV := uV) (uP := uP) (r := r) h1 h2 h3 (by omega) a1 with
  | inl e => exact rel_look hh ⟨0, e⟩
  | inr e =>
    obtain ⟨uS', e1, e2, e3⟩ := e
    refine ⟨_, e1, bT, s, _, r, rfl, rfl, upd t n a1, n + 1, e2, ⟨rfl, rfl, by omega⟩, e3, by omega, h5, h6, h7, h8, h9, h10, h11, h12⟩
set_option maxRecDepth 100000 in
set_option maxHeartbeats 4000000 in
theorem rel_read_B (h : RC true N uX uS s uP u r) : ∃ S', sL_1_B uX uS (yY bT s) uV uP (wW u r) = some S' ∧ RelF true (N + 1) S' := by
  have hh := h
  obtain ⟨t, n, h1, h2, h3, h4, h5, h6, h7, h8, h9, h10, h11, h12⟩ := h
  exact rel_read hh (re_B (uX := uX) (uT := yY bT s) (uV := uV) (uP := uP) h1 h2 h3 r h9)
set_option maxRecDepth 100000 in
set_option maxHeartbeats 4000000 in
theorem rel_write_B (h : RC true N uX uS s uP u r) (a1 : Int32) : ∃ S', sL_8_B uX uS (yY bT s) uV uP (wW u r) a1 = some S' ∧ RelF true (N + 1) S' := by
  have hh := h
  obtain ⟨t, n, h1, h2, h3, h4, h5, h6, h7, h8, h9, h10, h11, h12⟩ := h
  have h9' : gi u 1 = 0 := h9
  cases st_write_B (uX := uX) (uS := uS) (uV := uV) (uP := uP) (bT := bT) h5 h6 h7 (by rw [h9']; decide) h10 h11 h12 a1 with
  | inl e => exact rel_look hh e
  | inr e =>
    obtain ⟨uX', uP', u', e1, e2, e3, k1, k3, k4, k14, ka2, k27⟩ := e
    refine ⟨_, e1, bT, s, u', r, rfl, rfl, t, n, h1, ?_, h3, by omega, h5, h6, by rw [k4, h7], by rw [k14, h8], by rw [k1, h9], k27, fun _ _ => e2, fun _ _ => e3⟩
    unfold ROk at h2 ⊢
    rw [k3, ka2]; exact h2
set_option maxRecDepth 100000 in
set_option maxHeartbeats 4000000 in
theorem rel_object_B (h : RC true N uX uS s uP u r) (a1 a2 : Int32) : ∃ S', sL_9_B uX uS (yY bT s) uV uP (wW u r) a1 a2 = some S' ∧ RelF true (N + 1) S' := by
  have hh := h
  obtain ⟨t, n, h1, h2, h3, h4, h5, h6, h7, h8, h9, h10, h11, h12⟩ := h
  rcases st_object_B (uX := uX) (uS := uS) (uV := uV) (uP := uP) (bT := bT) h5 h6 h7 a1 a2 with e | e | e
  · exact rel_look hh e
  · exact ⟨_, e, bT, s, _, r, rfl, rfl, t, n, h1, h2, h3, by omega, h5, h6, h7, h8, h9, h10, fun hh => absurd rfl hh, h12⟩
  · obtain ⟨s', r', e1, e2, e3, e4⟩ := e
    refine ⟨_, e1, bT, s', _, r', rfl, rfl, ?_⟩
    refine RC_new hh ?_ ?_ ?_ ?_ ?_ ?_ ?_ (fun _ _ h => h) e2 e3
    · simp [gi_si]
    · simp [gi_si]
    · simp [ga_si]
    · simp [gi_si]
    · rw [e4, ← h8]; simp [gi_si]
    · simp [gi_si]
    · simp [gi_si]
set_option maxRecDepth 100000 in
set_option maxHeartbeats 4000000 in
theorem rel_set_B (h : RC true N uX uS s uP u r) (a1 a2 a3 a4 : Int32) : ∃ S', sL_10_B uX uS (yY bT s) uV uP (wW u r) a1 a2 a3 a4 = some S' ∧ RelF true (N + 1) S' := by
  have hh := h
  obtain ⟨t, n, h1, h2, h3, h4, h5, h6, h7, h8, h9, h10, h11, h12⟩ := h
  rcases st_set_B (uX := uX) (uS := uS) (uV := uV) (uP := uP) (bT := bT) h5 h6 h7 h10 a1 a2 a3 a4 with e | e | e
  · exact rel_look hh e
  · exact ⟨_, e, bT, s, _, r, rfl, rfl, RC_kq hh (Kq_27 u) (fun _ _ h => h) (A0_refl r)⟩
  · obtain ⟨s', r', e1, e2, e3, e4, e5⟩ := e
    refine ⟨_, e1, bT, s', _, r', rfl, rfl, ?_⟩
    refine RC_new hh ?_ ?_ ?_ ?_ ?_ ?_ ?_ (fun _ _ h => h) e2 e3
    · simp [gi_si]
    · simp [gi_si]
    · simp [ga_si]
    · rw [e4, ← h7]; simp [gi_si]
    · rw [e5, ← h8]; simp [gi_si]
    · simp [gi_si]
    · simp [gi_si]
set_option maxRecDepth 100000 in
set_option maxHeartbeats 4000000 in
theorem rel_clear_B (h : RC true N uX uS s uP u r) : ∃ S', sL_12_B uX uS (yY bT s) uV uP (wW u r) = some S' ∧ RelF true (N + 1) S' := by
  obtain ⟨t, n, h1, h2, h3, h4, h5, h6, h7, h8, h9, h10, h11, h12⟩ := h
  exact ⟨_, st_clear_B, bT, s, _, r, rfl, rfl, t, 0, ⟨rfl, h1.2.1, by omega⟩, ⟨rfl, h2.2.1, by omega⟩, fun p hp => absurd hp (by omega), by omega, h5, h6, h7, h8, h9, h10, h11, h12⟩
set_option maxRecDepth 100000 in
set_option maxHeartbeats 4000000 in
/-- every step -/
theorem rel_step_B {S : StL} (h : RelF true N S) (hN : N ≤ 511) (a0 a1 a2 a3 a4 : Int32) : ∃ S', stepL_B S a0 a1 a2 a3 a4 = some S' ∧ RelF true (N + 1) S' := by
  obtain ⟨bT, s, u, r, hT, hU, h⟩ := h
  obtain ⟨uX, uS, uT, uV, uP, u9⟩ := S
  have hT' : uT = yY bT s := hT
  have hU' : u9 = wW u r := hU
  have hh : RC true N uX uS s uP u r := h
  subst hT' hU'
  unfold stepL_B
  have hgo := hh
  obtain ⟨t, n, h1, h2, h3, h4, h5, h6, h7, h8, h9, h10, h11, h12⟩ := hh
  by_cases c0 : a0 &&& 15 = 0
  · rw [if_pos c0]; exact rel_unit_B hgo hN a1
  rw [if_neg c0]
  by_cases c1 : a0 &&& 15 = 1
  · rw [if_pos c1]; exact rel_read_B hgo
  rw [if_neg c1]
  by_cases c2 : a0 &&& 15 = 2
  · rw [if_pos c2]; exact rel_look hgo (st_kind_B h5 h6 h7 a1)
  rw [if_neg c2]
  by_cases c3 : a0 &&& 15 = 3
  · rw [if_pos c3]; exact rel_look hgo (st_parent_B h5 h6 h7 a1)
  rw [if_neg c3]
  by_cases c4 : a0 &&& 15 = 4
  · rw [if_pos c4]; exact rel_look hgo (st_number_B h5 h6 h7 a1 a2)
  rw [if_neg c4]
  by_cases c5 : a0 &&& 15 = 5
  · rw [if_pos c5]; exact rel_look hgo (st_text_B h5 h6 h7 a1 a2 a3)
  rw [if_neg c5]
  by_cases c6 : a0 &&& 15 = 6
  · rw [if_pos c6]; exact rel_look hgo (st_version_B h8)
  rw [if_neg c6]
  by_cases c7 : a0 &&& 15 = 7
  · rw [if_pos c7]; exact rel_look hgo (st_unknown_B h5 h6 h7 a1 a2)
  rw [if_neg c7]
  by_cases c8 : a0 &&& 15 = 8
  · rw [if_pos c8]; exact rel_write_B hgo a1
  rw [if_neg c8]
  by_cases c9 : a0 &&& 15 = 9
  · rw [if_pos c9]; exact rel_object_B hgo a1 a2
  rw [if_neg c9]
  by_cases c10 : a0 &&& 15 = 10
  · rw [if_pos c10]; exact rel_set_B hgo a1 a2 a3 a4
  rw [if_neg c10]
  by_cases c11 : a0 &&& 15 = 11
  · rw [if_pos c11]; exact rel_look hgo (st_depth_B h5 h6 h7)
  rw [if_neg c11]
  by_cases c12 : a0 &&& 15 = 12
  · rw [if_pos c12]; exact rel_clear_B hgo
  rw [if_neg c12]
  exact ⟨_, rfl, bT, s, u, r, rfl, rfl, t, n, h1, h2, h3, by omega, h5, h6, h7, h8, h9, h10, h11, h12⟩
end STP
