set_option maxRecDepth 100000 in
theorem stay_kep : ∀ a, a < 23 → ∀ b, b < 23 → (a = 0 ∨ stayN a b = kepN a b) := by decide +kernel
theorem E_keeps (x y : Int32) : cKeeps x y = mKeeps x y := by
  unfold cKeeps mKeeps
  by_cases h : mvOk x y = true
  · rw [if_pos h, if_pos h]
    obtain ⟨a, b, h0, ha, hb, rfl, rfl⟩ := mv_ex h
    rw [cl_nI ha (by decide), cl_nI hb (by decide), (stay_kep a ha b hb).resolve_left (by omega)]
  · rw [if_neg h, if_neg h]
