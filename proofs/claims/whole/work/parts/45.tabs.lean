theorem chk {α : Type} {P : α → Prop} {l : List α} (k : Nat) (h1 : ∀ w ∈ (l.drop k).take 40, P w) (h2 : ∀ w ∈ l.drop (k + 40), P w) : ∀ w ∈ l.drop k, P w := by
  intro w hw
  rw [← List.take_append_drop 40 (l.drop k)] at hw
  rcases List.mem_append.mp hw with h | h
  · exact h1 w h
  · rw [List.drop_drop] at h
    exact h2 w h
set_option maxRecDepth 100000 in
theorem tWAX0_0 : ∀ w ∈ (WAX0.drop 0).take 40, w ∈ lw_tbl := by decide +kernel
set_option maxRecDepth 100000 in
theorem tWAX0_40 : ∀ w ∈ (WAX0.drop 40).take 40, w ∈ lw_tbl := by decide +kernel
set_option maxRecDepth 100000 in
theorem tWAX0_80 : ∀ w ∈ (WAX0.drop 80).take 40, w ∈ lw_tbl := by decide +kernel
set_option maxRecDepth 100000 in
theorem tWAX0_120 : ∀ w ∈ (WAX0.drop 120).take 40, w ∈ lw_tbl := by decide +kernel
set_option maxRecDepth 100000 in
theorem tWAX0_160 : ∀ w ∈ (WAX0.drop 160).take 40, w ∈ lw_tbl := by decide +kernel
set_option maxRecDepth 100000 in
theorem tWAX0_200 : ∀ w ∈ (WAX0.drop 200).take 40, w ∈ lw_tbl := by decide +kernel
set_option maxRecDepth 100000 in
theorem tWAX0_240 : ∀ w ∈ (WAX0.drop 240).take 40, w ∈ lw_tbl := by decide +kernel
set_option maxRecDepth 100000 in
theorem tWAX0_280 : ∀ w ∈ (WAX0.drop 280).take 40, w ∈ lw_tbl := by decide +kernel
set_option maxRecDepth 100000 in
theorem tWAX0_320 : ∀ w ∈ (WAX0.drop 320).take 40, w ∈ lw_tbl := by decide +kernel
set_option maxRecDepth 100000 in
theorem tWAX0_360 : ∀ w ∈ (WAX0.drop 360).take 40, w ∈ lw_tbl := by decide +kernel
set_option maxRecDepth 100000 in
theorem tWAX0_400 : ∀ w ∈ (WAX0.drop 400).take 40, w ∈ lw_tbl := by decide +kernel
set_option maxRecDepth 100000 in
theorem tWAX0_440 : ∀ w ∈ (WAX0.drop 440).take 40, w ∈ lw_tbl := by decide +kernel
set_option maxRecDepth 100000 in
theorem tWAX0_480 : ∀ w ∈ (WAX0.drop 480).take 40, w ∈ lw_tbl := by decide +kernel
set_option maxRecDepth 100000 in
theorem tWAX0_520 : ∀ w ∈ (WAX0.drop 520).take 40, w ∈ lw_tbl := by decide +kernel
set_option maxRecDepth 100000 in
theorem tWAX0_560 : ∀ w ∈ (WAX0.drop 560).take 40, w ∈ lw_tbl := by decide +kernel
set_option maxRecDepth 100000 in
theorem tWAX0_e : ∀ w ∈ WAX0.drop 600, w ∈ lw_tbl := by decide +kernel
theorem tWAX0 : ∀ w ∈ WAX0, w ∈ lw_tbl := chk 0 tWAX0_0 (chk 40 tWAX0_40 (chk 80 tWAX0_80 (chk 120 tWAX0_120 (chk 160 tWAX0_160 (chk 200 tWAX0_200 (chk 240 tWAX0_240 (chk 280 tWAX0_280 (chk 320 tWAX0_320 (chk 360 tWAX0_360 (chk 400 tWAX0_400 (chk 440 tWAX0_440 (chk 480 tWAX0_480 (chk 520 tWAX0_520 (chk 560 tWAX0_560 tWAX0_e))))))))))))))
set_option maxRecDepth 100000 in
theorem tWA9_0 : ∀ w ∈ (WA9.drop 0).take 40, w ∈ lw_tbl := by decide +kernel
set_option maxRecDepth 100000 in
theorem tWA9_40 : ∀ w ∈ (WA9.drop 40).take 40, w ∈ lw_tbl := by decide +kernel
set_option maxRecDepth 100000 in
theorem tWA9_80 : ∀ w ∈ (WA9.drop 80).take 40, w ∈ lw_tbl := by decide +kernel
set_option maxRecDepth 100000 in
theorem tWA9_120 : ∀ w ∈ (WA9.drop 120).take 40, w ∈ lw_tbl := by decide +kernel
set_option maxRecDepth 100000 in
theorem tWA9_160 : ∀ w ∈ (WA9.drop 160).take 40, w ∈ lw_tbl := by decide +kernel
set_option maxRecDepth 100000 in
theorem tWA9_200 : ∀ w ∈ (WA9.drop 200).take 40, w ∈ lw_tbl := by decide +kernel
set_option maxRecDepth 100000 in
theorem tWA9_240 : ∀ w ∈ (WA9.drop 240).take 40, w ∈ lw_tbl := by decide +kernel
set_option maxRecDepth 100000 in
theorem tWA9_280 : ∀ w ∈ (WA9.drop 280).take 40, w ∈ lw_tbl := by decide +kernel
set_option maxRecDepth 100000 in
theorem tWA9_320 : ∀ w ∈ (WA9.drop 320).take 40, w ∈ lw_tbl := by decide +kernel
set_option maxRecDepth 100000 in
theorem tWA9_e : ∀ w ∈ WA9.drop 360, w ∈ lw_tbl := by decide +kernel
theorem tWA9 : ∀ w ∈ WA9, w ∈ lw_tbl := chk 0 tWA9_0 (chk 40 tWA9_40 (chk 80 tWA9_80 (chk 120 tWA9_120 (chk 160 tWA9_160 (chk 200 tWA9_200 (chk 240 tWA9_240 (chk 280 tWA9_280 (chk 320 tWA9_320 tWA9_e))))))))
set_option maxRecDepth 100000 in
theorem tWLL_0 : ∀ w ∈ (WLL.drop 0).take 40, w ∈ lw_tbl := by decide +kernel
set_option maxRecDepth 100000 in
theorem tWLL_40 : ∀ w ∈ (WLL.drop 40).take 40, w ∈ lw_tbl := by decide +kernel
set_option maxRecDepth 100000 in
theorem tWLL_80 : ∀ w ∈ (WLL.drop 80).take 40, w ∈ lw_tbl := by decide +kernel
set_option maxRecDepth 100000 in
theorem tWLL_120 : ∀ w ∈ (WLL.drop 120).take 40, w ∈ lw_tbl := by decide +kernel
set_option maxRecDepth 100000 in
theorem tWLL_e : ∀ w ∈ WLL.drop 160, w ∈ lw_tbl := by decide +kernel
theorem tWLL : ∀ w ∈ WLL, w ∈ lw_tbl := chk 0 tWLL_0 (chk 40 tWLL_40 (chk 80 tWLL_80 (chk 120 tWLL_120 tWLL_e)))
set_option maxRecDepth 100000 in
theorem twsX50 : ∀ w ∈ wsX50, w ∈ lw_tbl := by decide +kernel
set_option maxRecDepth 100000 in
theorem twsX60 : ∀ w ∈ wsX60, w ∈ lw_tbl := by decide +kernel
set_option maxRecDepth 100000 in
theorem twsX70 : ∀ w ∈ wsX70, w ∈ lw_tbl := by decide +kernel
set_option maxRecDepth 100000 in
theorem twsX80 : ∀ w ∈ wsX80, w ∈ lw_tbl := by decide +kernel
set_option maxRecDepth 100000 in
theorem tat1 : ∀ w ∈ at1.filter goodWord, w ∈ lw_tbl := by decide +kernel
set_option maxRecDepth 100000 in
theorem tat2 : ∀ w ∈ at2.filter goodWord, w ∈ lw_tbl := by decide +kernel
set_option maxRecDepth 100000 in
theorem tat3 : ∀ w ∈ at3.filter goodWord, w ∈ lw_tbl := by decide +kernel
theorem tWL : ∀ w ∈ WL, w ∈ lw_tbl := by
  refine List.forall_mem_append.mpr ⟨List.forall_mem_append.mpr ⟨?_, List.forall_mem_append.mpr ⟨tat1, List.forall_mem_append.mpr ⟨tat2, tat3⟩⟩⟩, List.forall_mem_append.mpr ⟨tWA9, tWLL⟩⟩
  exact List.forall_mem_append.mpr ⟨tWAX0, List.forall_mem_append.mpr ⟨twsX50, List.forall_mem_append.mpr ⟨twsX60, List.forall_mem_append.mpr ⟨twsX70, twsX80⟩⟩⟩⟩
