theorem pz_pop_lt (k : Nat) : pz_pop k < 5 := by unfold pz_pop; omega
theorem zf_add0 {w : Nat → Nat} {x i : Nat} (h : pz_pop ((i + 1) &&& x) % 2 = 0) : pz_f w x (i + 1) = pz_f w x i := by
  have e : pz_par ((i + 1) &&& x) = 0 := h
  simp only [pz_f]
  rw [e, Nat.zero_mul, Nat.add_zero]
theorem zf_add1 {w : Nat → Nat} {x i : Nat} (h : 0 < pz_pop ((i + 1) &&& x) % 2) : pz_f w x (i + 1) = pz_f w x i + w (i + 1) := by
  have h2 : pz_pop ((i + 1) &&& x) % 2 = 1 := by omega
  have e : pz_par ((i + 1) &&& x) = 1 := h2
  simp only [pz_f]
  rw [e, Nat.one_mul]
