theorem zm_pow {i m0 x : Nat} {g : Nat → Nat} (h : ∀ j, j < i → j < m0 → g j = 2 ^ j) (hx : i < m0 → x = 2 ^ i) : ∀ j, j < i + 1 → j < m0 → va_up g i x j = 2 ^ j := by
  intro j h1 h2
  by_cases e : j = i
  · subst e
    rw [va_up_self]
    exact hx h2
  · rw [va_up_ne _ _ e]
    exact h j (by omega) h2
theorem zm_zero {i : Nat} {g : Nat → Nat} (h : ∀ j, j < i → g j = 0) : ∀ j, j < i + 1 → va_up g i 0 j = 0 := by
  intro j h1
  by_cases e : j = i
  · subst e
    exact va_up_self _ _ _
  · rw [va_up_ne _ _ e]
    exact h j (by omega)
/-- how many of the four lowest bits are set -/
def zo (x : Nat) : Nat := x % 2 + x / 2 ^ 1 % 2 + x / 2 ^ 2 % 2 + x / 2 ^ 3 % 2
theorem zo_par (x : Nat) : zo x % 2 = pz_par x := rfl
theorem zo_lt (x : Nat) : zo x < 5 := by unfold zo; omega
theorem zw_pa_le {K : Nat} {a : Int32} (hK : K < 2 ^ 31) (h : a ≤ 0) : ¬ zw_pa K a := by
  rintro ⟨j, h1, h2, rfl⟩
  exact nI_ge (a := 0) (b := j) (by omega) (by omega) h
theorem zw_pa_ge {K : Nat} {a : Int32} (hK : K < 2 ^ 31 - 1) (h : nI (K + 1) ≤ a) : ¬ zw_pa K a := fun ⟨j, h1, h2, h3⟩ => nI_ge (a := j) (b := K + 1) (by omega) (by omega) (h3 ▸ h)
theorem zw_pa_in {K : Nat} {a : Int32} (hK : K < 2 ^ 31 - 1) (h0 : ¬ a ≤ 0) (h : ¬ nI (K + 1) ≤ a) : ∃ j, 1 ≤ j ∧ j ≤ K ∧ a = nI j := by
  rcases pk_ix a (n := K + 1) (by omega) with q | q | ⟨j, hj, rfl⟩
  · exact absurd (Int32.le_of_lt q) h0
  · exact absurd q h
  · refine ⟨j, ?_, by omega, rfl⟩
    rcases Nat.eq_zero_or_pos j with rfl | q
    · exact absurd (Int32.le_refl _) h0
    · exact q
