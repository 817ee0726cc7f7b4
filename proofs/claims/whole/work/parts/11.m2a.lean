/-! the sums over supersets of a difference that has no function; all phases of one function are met (by wip/tools/gen_m12.py) -/
theorem pz_x1 (d : Nat → Nat) (x : Nat) : pz_f d x 1 = 0 + pz_par (1 &&& x) * d 1 := rfl
theorem pz_x1_1 (d : Nat → Nat) : pz_f d 1 1 = d 1 := by
  rw [pz_x1, show pz_par (1 &&& 1) = 1 from rfl]
  omega
theorem pz_s1_1 {d : Nat → Nat} (h : ∀ x, x ≤ 1 → pz_f d x 1 % 8 = 0) : (d 1) % 8 = 0 := by
  have := h 1 (by decide)
  rw [pz_x1_1] at this
  exact this
theorem pz_x3 (d : Nat → Nat) (x : Nat) : pz_f d x 3 = 0 + pz_par (1 &&& x) * d 1 + pz_par (2 &&& x) * d 2 + pz_par (3 &&& x) * d 3 := rfl
theorem pz_x3_1 (d : Nat → Nat) : pz_f d 1 3 = d 1 + d 3 := by
  rw [pz_x3, show pz_par (1 &&& 1) = 1 from rfl, show pz_par (2 &&& 1) = 0 from rfl, show pz_par (3 &&& 1) = 1 from rfl]
  omega
theorem pz_x3_2 (d : Nat → Nat) : pz_f d 2 3 = d 2 + d 3 := by
  rw [pz_x3, show pz_par (1 &&& 2) = 0 from rfl, show pz_par (2 &&& 2) = 1 from rfl, show pz_par (3 &&& 2) = 1 from rfl]
  omega
theorem pz_x3_3 (d : Nat → Nat) : pz_f d 3 3 = d 1 + d 2 := by
  rw [pz_x3, show pz_par (1 &&& 3) = 1 from rfl, show pz_par (2 &&& 3) = 1 from rfl, show pz_par (3 &&& 3) = 0 from rfl]
  omega
theorem pz_s3_1 {d : Nat → Nat} (h : ∀ x, x ≤ 3 → pz_f d x 3 % 8 = 0) : (d 1 + d 3) % 8 = 0 := by
  have := h 1 (by decide)
  rw [pz_x3_1] at this
  exact this
theorem pz_s3_2 {d : Nat → Nat} (h : ∀ x, x ≤ 3 → pz_f d x 3 % 8 = 0) : (d 2 + d 3) % 8 = 0 := by
  have := h 2 (by decide)
  rw [pz_x3_2] at this
  exact this
theorem pz_s3_3 {d : Nat → Nat} (h : ∀ x, x ≤ 3 → pz_f d x 3 % 8 = 0) : (d 3) % 4 = 0 := by
  have a := h 2 (by decide)
  have b := h 1 (by decide)
  have c := h 3 (by decide)
  have e : pz_f d 3 3 + 2 * (d 3) = pz_f d 2 3 + pz_f d 1 3 := by rw [pz_x3_3, pz_x3_2, pz_x3_1]; omega
  generalize pz_f d 3 3 = A at c e
  generalize pz_f d 2 3 = B at a e
  generalize pz_f d 1 3 = C at b e
  generalize d 3 = D at e ⊢
  omega
theorem pz_x7 (d : Nat → Nat) (x : Nat) : pz_f d x 7 = 0 + pz_par (1 &&& x) * d 1 + pz_par (2 &&& x) * d 2 + pz_par (3 &&& x) * d 3 + pz_par (4 &&& x) * d 4 + pz_par (5 &&& x) * d 5 + pz_par (6 &&& x) * d 6 + pz_par (7 &&& x) * d 7 := rfl
theorem pz_x7_1 (d : Nat → Nat) : pz_f d 1 7 = d 1 + d 3 + d 5 + d 7 := by
  rw [pz_x7, show pz_par (1 &&& 1) = 1 from rfl, show pz_par (2 &&& 1) = 0 from rfl, show pz_par (3 &&& 1) = 1 from rfl, show pz_par (4 &&& 1) = 0 from rfl, show pz_par (5 &&& 1) = 1 from rfl, show pz_par (6 &&& 1) = 0 from rfl, show pz_par (7 &&& 1) = 1 from rfl]
  omega
theorem pz_x7_2 (d : Nat → Nat) : pz_f d 2 7 = d 2 + d 3 + d 6 + d 7 := by
  rw [pz_x7, show pz_par (1 &&& 2) = 0 from rfl, show pz_par (2 &&& 2) = 1 from rfl, show pz_par (3 &&& 2) = 1 from rfl, show pz_par (4 &&& 2) = 0 from rfl, show pz_par (5 &&& 2) = 0 from rfl, show pz_par (6 &&& 2) = 1 from rfl, show pz_par (7 &&& 2) = 1 from rfl]
  omega
theorem pz_x7_3 (d : Nat → Nat) : pz_f d 3 7 = d 1 + d 2 + d 5 + d 6 := by
  rw [pz_x7, show pz_par (1 &&& 3) = 1 from rfl, show pz_par (2 &&& 3) = 1 from rfl, show pz_par (3 &&& 3) = 0 from rfl, show pz_par (4 &&& 3) = 0 from rfl, show pz_par (5 &&& 3) = 1 from rfl, show pz_par (6 &&& 3) = 1 from rfl, show pz_par (7 &&& 3) = 0 from rfl]
  omega
theorem pz_x7_4 (d : Nat → Nat) : pz_f d 4 7 = d 4 + d 5 + d 6 + d 7 := by
  rw [pz_x7, show pz_par (1 &&& 4) = 0 from rfl, show pz_par (2 &&& 4) = 0 from rfl, show pz_par (3 &&& 4) = 0 from rfl, show pz_par (4 &&& 4) = 1 from rfl, show pz_par (5 &&& 4) = 1 from rfl, show pz_par (6 &&& 4) = 1 from rfl, show pz_par (7 &&& 4) = 1 from rfl]
  omega
theorem pz_x7_5 (d : Nat → Nat) : pz_f d 5 7 = d 1 + d 3 + d 4 + d 6 := by
  rw [pz_x7, show pz_par (1 &&& 5) = 1 from rfl, show pz_par (2 &&& 5) = 0 from rfl, show pz_par (3 &&& 5) = 1 from rfl, show pz_par (4 &&& 5) = 1 from rfl, show pz_par (5 &&& 5) = 0 from rfl, show pz_par (6 &&& 5) = 1 from rfl, show pz_par (7 &&& 5) = 0 from rfl]
  omega
theorem pz_x7_6 (d : Nat → Nat) : pz_f d 6 7 = d 2 + d 3 + d 4 + d 5 := by
  rw [pz_x7, show pz_par (1 &&& 6) = 0 from rfl, show pz_par (2 &&& 6) = 1 from rfl, show pz_par (3 &&& 6) = 1 from rfl, show pz_par (4 &&& 6) = 1 from rfl, show pz_par (5 &&& 6) = 1 from rfl, show pz_par (6 &&& 6) = 0 from rfl, show pz_par (7 &&& 6) = 0 from rfl]
  omega
theorem pz_x7_7 (d : Nat → Nat) : pz_f d 7 7 = d 1 + d 2 + d 4 + d 7 := by
  rw [pz_x7, show pz_par (1 &&& 7) = 1 from rfl, show pz_par (2 &&& 7) = 1 from rfl, show pz_par (3 &&& 7) = 0 from rfl, show pz_par (4 &&& 7) = 1 from rfl, show pz_par (5 &&& 7) = 0 from rfl, show pz_par (6 &&& 7) = 0 from rfl, show pz_par (7 &&& 7) = 1 from rfl]
  omega
theorem pz_s7_1 {d : Nat → Nat} (h : ∀ x, x ≤ 7 → pz_f d x 7 % 8 = 0) : (d 1 + d 3 + d 5 + d 7) % 8 = 0 := by
  have := h 1 (by decide)
  rw [pz_x7_1] at this
  exact this
theorem pz_s7_2 {d : Nat → Nat} (h : ∀ x, x ≤ 7 → pz_f d x 7 % 8 = 0) : (d 2 + d 3 + d 6 + d 7) % 8 = 0 := by
  have := h 2 (by decide)
  rw [pz_x7_2] at this
  exact this
theorem pz_s7_4 {d : Nat → Nat} (h : ∀ x, x ≤ 7 → pz_f d x 7 % 8 = 0) : (d 4 + d 5 + d 6 + d 7) % 8 = 0 := by
  have := h 4 (by decide)
  rw [pz_x7_4] at this
  exact this
theorem pz_s7_3 {d : Nat → Nat} (h : ∀ x, x ≤ 7 → pz_f d x 7 % 8 = 0) : (d 3 + d 7) % 4 = 0 := by
  have a := h 2 (by decide)
  have b := h 1 (by decide)
  have c := h 3 (by decide)
  have e : pz_f d 3 7 + 2 * (d 3 + d 7) = pz_f d 2 7 + pz_f d 1 7 := by rw [pz_x7_3, pz_x7_2, pz_x7_1]; omega
  generalize pz_f d 3 7 = A at c e
  generalize pz_f d 2 7 = B at a e
  generalize pz_f d 1 7 = C at b e
  generalize d 3 + d 7 = D at e ⊢
  omega
theorem pz_s7_5 {d : Nat → Nat} (h : ∀ x, x ≤ 7 → pz_f d x 7 % 8 = 0) : (d 5 + d 7) % 4 = 0 := by
  have a := h 4 (by decide)
  have b := h 1 (by decide)
  have c := h 5 (by decide)
  have e : pz_f d 5 7 + 2 * (d 5 + d 7) = pz_f d 4 7 + pz_f d 1 7 := by rw [pz_x7_5, pz_x7_4, pz_x7_1]; omega
  generalize pz_f d 5 7 = A at c e
  generalize pz_f d 4 7 = B at a e
  generalize pz_f d 1 7 = C at b e
  generalize d 5 + d 7 = D at e ⊢
  omega
theorem pz_s7_6 {d : Nat → Nat} (h : ∀ x, x ≤ 7 → pz_f d x 7 % 8 = 0) : (d 6 + d 7) % 4 = 0 := by
  have a := h 4 (by decide)
  have b := h 2 (by decide)
  have c := h 6 (by decide)
  have e : pz_f d 6 7 + 2 * (d 6 + d 7) = pz_f d 4 7 + pz_f d 2 7 := by rw [pz_x7_6, pz_x7_4, pz_x7_2]; omega
  generalize pz_f d 6 7 = A at c e
  generalize pz_f d 4 7 = B at a e
  generalize pz_f d 2 7 = C at b e
  generalize d 6 + d 7 = D at e ⊢
  omega
theorem pz_s7_7 {d : Nat → Nat} (h : ∀ x, x ≤ 7 → pz_f d x 7 % 8 = 0) : (d 7) % 2 = 0 := by
  have a1 := h 1 (by decide)
  have a2 := h 2 (by decide)
  have a3 := h 4 (by decide)
  have b1 := pz_s7_3 h
  have b2 := pz_s7_5 h
  have b3 := pz_s7_6 h
  have c := h 7 (by decide)
  have e : pz_f d 7 7 + 2 * (d 3 + d 7) + 2 * (d 5 + d 7) + 2 * (d 6 + d 7) = pz_f d 1 7 + pz_f d 2 7 + pz_f d 4 7 + 4 * (d 7) := by rw [pz_x7_7, pz_x7_1, pz_x7_2, pz_x7_4]; omega
  generalize pz_f d 7 7 = A0 at c e
  generalize pz_f d 1 7 = A1 at a1 e
  generalize pz_f d 2 7 = A2 at a2 e
  generalize pz_f d 4 7 = A3 at a3 e
  generalize d 3 + d 7 = A4 at b1 e
  generalize d 5 + d 7 = A5 at b2 e
  generalize d 6 + d 7 = A6 at b3 e
  generalize d 7 = D at e ⊢
  omega
theorem pz_x15 (d : Nat → Nat) (x : Nat) : pz_f d x 15 = 0 + pz_par (1 &&& x) * d 1 + pz_par (2 &&& x) * d 2 + pz_par (3 &&& x) * d 3 + pz_par (4 &&& x) * d 4 + pz_par (5 &&& x) * d 5 + pz_par (6 &&& x) * d 6 + pz_par (7 &&& x) * d 7 + pz_par (8 &&& x) * d 8 + pz_par (9 &&& x) * d 9 + pz_par (10 &&& x) * d 10 + pz_par (11 &&& x) * d 11 + pz_par (12 &&& x) * d 12 + pz_par (13 &&& x) * d 13 + pz_par (14 &&& x) * d 14 + pz_par (15 &&& x) * d 15 := rfl
theorem pz_x15_1 (d : Nat → Nat) : pz_f d 1 15 = d 1 + d 3 + d 5 + d 7 + d 9 + d 11 + d 13 + d 15 := by
  rw [pz_x15, show pz_par (1 &&& 1) = 1 from rfl, show pz_par (2 &&& 1) = 0 from rfl, show pz_par (3 &&& 1) = 1 from rfl, show pz_par (4 &&& 1) = 0 from rfl, show pz_par (5 &&& 1) = 1 from rfl, show pz_par (6 &&& 1) = 0 from rfl, show pz_par (7 &&& 1) = 1 from rfl, show pz_par (8 &&& 1) = 0 from rfl, show pz_par (9 &&& 1) = 1 from rfl, show pz_par (10 &&& 1) = 0 from rfl, show pz_par (11 &&& 1) = 1 from rfl, show pz_par (12 &&& 1) = 0 from rfl, show pz_par (13 &&& 1) = 1 from rfl, show pz_par (14 &&& 1) = 0 from rfl, show pz_par (15 &&& 1) = 1 from rfl]
  omega
theorem pz_x15_2 (d : Nat → Nat) : pz_f d 2 15 = d 2 + d 3 + d 6 + d 7 + d 10 + d 11 + d 14 + d 15 := by
  rw [pz_x15, show pz_par (1 &&& 2) = 0 from rfl, show pz_par (2 &&& 2) = 1 from rfl, show pz_par (3 &&& 2) = 1 from rfl, show pz_par (4 &&& 2) = 0 from rfl, show pz_par (5 &&& 2) = 0 from rfl, show pz_par (6 &&& 2) = 1 from rfl, show pz_par (7 &&& 2) = 1 from rfl, show pz_par (8 &&& 2) = 0 from rfl, show pz_par (9 &&& 2) = 0 from rfl, show pz_par (10 &&& 2) = 1 from rfl, show pz_par (11 &&& 2) = 1 from rfl, show pz_par (12 &&& 2) = 0 from rfl, show pz_par (13 &&& 2) = 0 from rfl, show pz_par (14 &&& 2) = 1 from rfl, show pz_par (15 &&& 2) = 1 from rfl]
  omega
theorem pz_x15_3 (d : Nat → Nat) : pz_f d 3 15 = d 1 + d 2 + d 5 + d 6 + d 9 + d 10 + d 13 + d 14 := by
  rw [pz_x15, show pz_par (1 &&& 3) = 1 from rfl, show pz_par (2 &&& 3) = 1 from rfl, show pz_par (3 &&& 3) = 0 from rfl, show pz_par (4 &&& 3) = 0 from rfl, show pz_par (5 &&& 3) = 1 from rfl, show pz_par (6 &&& 3) = 1 from rfl, show pz_par (7 &&& 3) = 0 from rfl, show pz_par (8 &&& 3) = 0 from rfl, show pz_par (9 &&& 3) = 1 from rfl, show pz_par (10 &&& 3) = 1 from rfl, show pz_par (11 &&& 3) = 0 from rfl, show pz_par (12 &&& 3) = 0 from rfl, show pz_par (13 &&& 3) = 1 from rfl, show pz_par (14 &&& 3) = 1 from rfl, show pz_par (15 &&& 3) = 0 from rfl]
  omega
theorem pz_x15_4 (d : Nat → Nat) : pz_f d 4 15 = d 4 + d 5 + d 6 + d 7 + d 12 + d 13 + d 14 + d 15 := by
  rw [pz_x15, show pz_par (1 &&& 4) = 0 from rfl, show pz_par (2 &&& 4) = 0 from rfl, show pz_par (3 &&& 4) = 0 from rfl, show pz_par (4 &&& 4) = 1 from rfl, show pz_par (5 &&& 4) = 1 from rfl, show pz_par (6 &&& 4) = 1 from rfl, show pz_par (7 &&& 4) = 1 from rfl, show pz_par (8 &&& 4) = 0 from rfl, show pz_par (9 &&& 4) = 0 from rfl, show pz_par (10 &&& 4) = 0 from rfl, show pz_par (11 &&& 4) = 0 from rfl, show pz_par (12 &&& 4) = 1 from rfl, show pz_par (13 &&& 4) = 1 from rfl, show pz_par (14 &&& 4) = 1 from rfl, show pz_par (15 &&& 4) = 1 from rfl]
  omega
theorem pz_x15_5 (d : Nat → Nat) : pz_f d 5 15 = d 1 + d 3 + d 4 + d 6 + d 9 + d 11 + d 12 + d 14 := by
  rw [pz_x15, show pz_par (1 &&& 5) = 1 from rfl, show pz_par (2 &&& 5) = 0 from rfl, show pz_par (3 &&& 5) = 1 from rfl, show pz_par (4 &&& 5) = 1 from rfl, show pz_par (5 &&& 5) = 0 from rfl, show pz_par (6 &&& 5) = 1 from rfl, show pz_par (7 &&& 5) = 0 from rfl, show pz_par (8 &&& 5) = 0 from rfl, show pz_par (9 &&& 5) = 1 from rfl, show pz_par (10 &&& 5) = 0 from rfl, show pz_par (11 &&& 5) = 1 from rfl, show pz_par (12 &&& 5) = 1 from rfl, show pz_par (13 &&& 5) = 0 from rfl, show pz_par (14 &&& 5) = 1 from rfl, show pz_par (15 &&& 5) = 0 from rfl]
  omega
theorem pz_x15_6 (d : Nat → Nat) : pz_f d 6 15 = d 2 + d 3 + d 4 + d 5 + d 10 + d 11 + d 12 + d 13 := by
  rw [pz_x15, show pz_par (1 &&& 6) = 0 from rfl, show pz_par (2 &&& 6) = 1 from rfl, show pz_par (3 &&& 6) = 1 from rfl, show pz_par (4 &&& 6) = 1 from rfl, show pz_par (5 &&& 6) = 1 from rfl, show pz_par (6 &&& 6) = 0 from rfl, show pz_par (7 &&& 6) = 0 from rfl, show pz_par (8 &&& 6) = 0 from rfl, show pz_par (9 &&& 6) = 0 from rfl, show pz_par (10 &&& 6) = 1 from rfl, show pz_par (11 &&& 6) = 1 from rfl, show pz_par (12 &&& 6) = 1 from rfl, show pz_par (13 &&& 6) = 1 from rfl, show pz_par (14 &&& 6) = 0 from rfl, show pz_par (15 &&& 6) = 0 from rfl]
  omega
theorem pz_x15_7 (d : Nat → Nat) : pz_f d 7 15 = d 1 + d 2 + d 4 + d 7 + d 9 + d 10 + d 12 + d 15 := by
  rw [pz_x15, show pz_par (1 &&& 7) = 1 from rfl, show pz_par (2 &&& 7) = 1 from rfl, show pz_par (3 &&& 7) = 0 from rfl, show pz_par (4 &&& 7) = 1 from rfl, show pz_par (5 &&& 7) = 0 from rfl, show pz_par (6 &&& 7) = 0 from rfl, show pz_par (7 &&& 7) = 1 from rfl, show pz_par (8 &&& 7) = 0 from rfl, show pz_par (9 &&& 7) = 1 from rfl, show pz_par (10 &&& 7) = 1 from rfl, show pz_par (11 &&& 7) = 0 from rfl, show pz_par (12 &&& 7) = 1 from rfl, show pz_par (13 &&& 7) = 0 from rfl, show pz_par (14 &&& 7) = 0 from rfl, show pz_par (15 &&& 7) = 1 from rfl]
  omega
theorem pz_x15_8 (d : Nat → Nat) : pz_f d 8 15 = d 8 + d 9 + d 10 + d 11 + d 12 + d 13 + d 14 + d 15 := by
  rw [pz_x15, show pz_par (1 &&& 8) = 0 from rfl, show pz_par (2 &&& 8) = 0 from rfl, show pz_par (3 &&& 8) = 0 from rfl, show pz_par (4 &&& 8) = 0 from rfl, show pz_par (5 &&& 8) = 0 from rfl, show pz_par (6 &&& 8) = 0 from rfl, show pz_par (7 &&& 8) = 0 from rfl, show pz_par (8 &&& 8) = 1 from rfl, show pz_par (9 &&& 8) = 1 from rfl, show pz_par (10 &&& 8) = 1 from rfl, show pz_par (11 &&& 8) = 1 from rfl, show pz_par (12 &&& 8) = 1 from rfl, show pz_par (13 &&& 8) = 1 from rfl, show pz_par (14 &&& 8) = 1 from rfl, show pz_par (15 &&& 8) = 1 from rfl]
  omega
theorem pz_x15_9 (d : Nat → Nat) : pz_f d 9 15 = d 1 + d 3 + d 5 + d 7 + d 8 + d 10 + d 12 + d 14 := by
  rw [pz_x15, show pz_par (1 &&& 9) = 1 from rfl, show pz_par (2 &&& 9) = 0 from rfl, show pz_par (3 &&& 9) = 1 from rfl, show pz_par (4 &&& 9) = 0 from rfl, show pz_par (5 &&& 9) = 1 from rfl, show pz_par (6 &&& 9) = 0 from rfl, show pz_par (7 &&& 9) = 1 from rfl, show pz_par (8 &&& 9) = 1 from rfl, show pz_par (9 &&& 9) = 0 from rfl, show pz_par (10 &&& 9) = 1 from rfl, show pz_par (11 &&& 9) = 0 from rfl, show pz_par (12 &&& 9) = 1 from rfl, show pz_par (13 &&& 9) = 0 from rfl, show pz_par (14 &&& 9) = 1 from rfl, show pz_par (15 &&& 9) = 0 from rfl]
  omega
theorem pz_x15_10 (d : Nat → Nat) : pz_f d 10 15 = d 2 + d 3 + d 6 + d 7 + d 8 + d 9 + d 12 + d 13 := by
  rw [pz_x15, show pz_par (1 &&& 10) = 0 from rfl, show pz_par (2 &&& 10) = 1 from rfl, show pz_par (3 &&& 10) = 1 from rfl, show pz_par (4 &&& 10) = 0 from rfl, show pz_par (5 &&& 10) = 0 from rfl, show pz_par (6 &&& 10) = 1 from rfl, show pz_par (7 &&& 10) = 1 from rfl, show pz_par (8 &&& 10) = 1 from rfl, show pz_par (9 &&& 10) = 1 from rfl, show pz_par (10 &&& 10) = 0 from rfl, show pz_par (11 &&& 10) = 0 from rfl, show pz_par (12 &&& 10) = 1 from rfl, show pz_par (13 &&& 10) = 1 from rfl, show pz_par (14 &&& 10) = 0 from rfl, show pz_par (15 &&& 10) = 0 from rfl]
  omega
theorem pz_x15_11 (d : Nat → Nat) : pz_f d 11 15 = d 1 + d 2 + d 5 + d 6 + d 8 + d 11 + d 12 + d 15 := by
  rw [pz_x15, show pz_par (1 &&& 11) = 1 from rfl, show pz_par (2 &&& 11) = 1 from rfl, show pz_par (3 &&& 11) = 0 from rfl, show pz_par (4 &&& 11) = 0 from rfl, show pz_par (5 &&& 11) = 1 from rfl, show pz_par (6 &&& 11) = 1 from rfl, show pz_par (7 &&& 11) = 0 from rfl, show pz_par (8 &&& 11) = 1 from rfl, show pz_par (9 &&& 11) = 0 from rfl, show pz_par (10 &&& 11) = 0 from rfl, show pz_par (11 &&& 11) = 1 from rfl, show pz_par (12 &&& 11) = 1 from rfl, show pz_par (13 &&& 11) = 0 from rfl, show pz_par (14 &&& 11) = 0 from rfl, show pz_par (15 &&& 11) = 1 from rfl]
  omega
theorem pz_x15_12 (d : Nat → Nat) : pz_f d 12 15 = d 4 + d 5 + d 6 + d 7 + d 8 + d 9 + d 10 + d 11 := by
  rw [pz_x15, show pz_par (1 &&& 12) = 0 from rfl, show pz_par (2 &&& 12) = 0 from rfl, show pz_par (3 &&& 12) = 0 from rfl, show pz_par (4 &&& 12) = 1 from rfl, show pz_par (5 &&& 12) = 1 from rfl, show pz_par (6 &&& 12) = 1 from rfl, show pz_par (7 &&& 12) = 1 from rfl, show pz_par (8 &&& 12) = 1 from rfl, show pz_par (9 &&& 12) = 1 from rfl, show pz_par (10 &&& 12) = 1 from rfl, show pz_par (11 &&& 12) = 1 from rfl, show pz_par (12 &&& 12) = 0 from rfl, show pz_par (13 &&& 12) = 0 from rfl, show pz_par (14 &&& 12) = 0 from rfl, show pz_par (15 &&& 12) = 0 from rfl]
  omega
theorem pz_x15_13 (d : Nat → Nat) : pz_f d 13 15 = d 1 + d 3 + d 4 + d 6 + d 8 + d 10 + d 13 + d 15 := by
  rw [pz_x15, show pz_par (1 &&& 13) = 1 from rfl, show pz_par (2 &&& 13) = 0 from rfl, show pz_par (3 &&& 13) = 1 from rfl, show pz_par (4 &&& 13) = 1 from rfl, show pz_par (5 &&& 13) = 0 from rfl, show pz_par (6 &&& 13) = 1 from rfl, show pz_par (7 &&& 13) = 0 from rfl, show pz_par (8 &&& 13) = 1 from rfl, show pz_par (9 &&& 13) = 0 from rfl, show pz_par (10 &&& 13) = 1 from rfl, show pz_par (11 &&& 13) = 0 from rfl, show pz_par (12 &&& 13) = 0 from rfl, show pz_par (13 &&& 13) = 1 from rfl, show pz_par (14 &&& 13) = 0 from rfl, show pz_par (15 &&& 13) = 1 from rfl]
  omega
theorem pz_x15_14 (d : Nat → Nat) : pz_f d 14 15 = d 2 + d 3 + d 4 + d 5 + d 8 + d 9 + d 14 + d 15 := by
  rw [pz_x15, show pz_par (1 &&& 14) = 0 from rfl, show pz_par (2 &&& 14) = 1 from rfl, show pz_par (3 &&& 14) = 1 from rfl, show pz_par (4 &&& 14) = 1 from rfl, show pz_par (5 &&& 14) = 1 from rfl, show pz_par (6 &&& 14) = 0 from rfl, show pz_par (7 &&& 14) = 0 from rfl, show pz_par (8 &&& 14) = 1 from rfl, show pz_par (9 &&& 14) = 1 from rfl, show pz_par (10 &&& 14) = 0 from rfl, show pz_par (11 &&& 14) = 0 from rfl, show pz_par (12 &&& 14) = 0 from rfl, show pz_par (13 &&& 14) = 0 from rfl, show pz_par (14 &&& 14) = 1 from rfl, show pz_par (15 &&& 14) = 1 from rfl]
  omega
theorem pz_x15_15 (d : Nat → Nat) : pz_f d 15 15 = d 1 + d 2 + d 4 + d 7 + d 8 + d 11 + d 13 + d 14 := by
  rw [pz_x15, show pz_par (1 &&& 15) = 1 from rfl, show pz_par (2 &&& 15) = 1 from rfl, show pz_par (3 &&& 15) = 0 from rfl, show pz_par (4 &&& 15) = 1 from rfl, show pz_par (5 &&& 15) = 0 from rfl, show pz_par (6 &&& 15) = 0 from rfl, show pz_par (7 &&& 15) = 1 from rfl, show pz_par (8 &&& 15) = 1 from rfl, show pz_par (9 &&& 15) = 0 from rfl, show pz_par (10 &&& 15) = 0 from rfl, show pz_par (11 &&& 15) = 1 from rfl, show pz_par (12 &&& 15) = 0 from rfl, show pz_par (13 &&& 15) = 1 from rfl, show pz_par (14 &&& 15) = 1 from rfl, show pz_par (15 &&& 15) = 0 from rfl]
  omega
theorem pz_s15_1 {d : Nat → Nat} (h : ∀ x, x ≤ 15 → pz_f d x 15 % 8 = 0) : (d 1 + d 3 + d 5 + d 7 + d 9 + d 11 + d 13 + d 15) % 8 = 0 := by
  have := h 1 (by decide)
  rw [pz_x15_1] at this
  exact this
theorem pz_s15_2 {d : Nat → Nat} (h : ∀ x, x ≤ 15 → pz_f d x 15 % 8 = 0) : (d 2 + d 3 + d 6 + d 7 + d 10 + d 11 + d 14 + d 15) % 8 = 0 := by
  have := h 2 (by decide)
  rw [pz_x15_2] at this
  exact this
theorem pz_s15_4 {d : Nat → Nat} (h : ∀ x, x ≤ 15 → pz_f d x 15 % 8 = 0) : (d 4 + d 5 + d 6 + d 7 + d 12 + d 13 + d 14 + d 15) % 8 = 0 := by
  have := h 4 (by decide)
  rw [pz_x15_4] at this
  exact this
theorem pz_s15_8 {d : Nat → Nat} (h : ∀ x, x ≤ 15 → pz_f d x 15 % 8 = 0) : (d 8 + d 9 + d 10 + d 11 + d 12 + d 13 + d 14 + d 15) % 8 = 0 := by
  have := h 8 (by decide)
  rw [pz_x15_8] at this
  exact this
theorem pz_s15_3 {d : Nat → Nat} (h : ∀ x, x ≤ 15 → pz_f d x 15 % 8 = 0) : (d 3 + d 7 + d 11 + d 15) % 4 = 0 := by
  have a := h 2 (by decide)
  have b := h 1 (by decide)
  have c := h 3 (by decide)
  have e : pz_f d 3 15 + 2 * (d 3 + d 7 + d 11 + d 15) = pz_f d 2 15 + pz_f d 1 15 := by rw [pz_x15_3, pz_x15_2, pz_x15_1]; omega
  generalize pz_f d 3 15 = A at c e
  generalize pz_f d 2 15 = B at a e
  generalize pz_f d 1 15 = C at b e
  generalize d 3 + d 7 + d 11 + d 15 = D at e ⊢
  omega
theorem pz_s15_5 {d : Nat → Nat} (h : ∀ x, x ≤ 15 → pz_f d x 15 % 8 = 0) : (d 5 + d 7 + d 13 + d 15) % 4 = 0 := by
  have a := h 4 (by decide)
  have b := h 1 (by decide)
  have c := h 5 (by decide)
  have e : pz_f d 5 15 + 2 * (d 5 + d 7 + d 13 + d 15) = pz_f d 4 15 + pz_f d 1 15 := by rw [pz_x15_5, pz_x15_4, pz_x15_1]; omega
  generalize pz_f d 5 15 = A at c e
  generalize pz_f d 4 15 = B at a e
  generalize pz_f d 1 15 = C at b e
  generalize d 5 + d 7 + d 13 + d 15 = D at e ⊢
  omega
theorem pz_s15_6 {d : Nat → Nat} (h : ∀ x, x ≤ 15 → pz_f d x 15 % 8 = 0) : (d 6 + d 7 + d 14 + d 15) % 4 = 0 := by
  have a := h 4 (by decide)
  have b := h 2 (by decide)
  have c := h 6 (by decide)
  have e : pz_f d 6 15 + 2 * (d 6 + d 7 + d 14 + d 15) = pz_f d 4 15 + pz_f d 2 15 := by rw [pz_x15_6, pz_x15_4, pz_x15_2]; omega
  generalize pz_f d 6 15 = A at c e
  generalize pz_f d 4 15 = B at a e
  generalize pz_f d 2 15 = C at b e
  generalize d 6 + d 7 + d 14 + d 15 = D at e ⊢
  omega
theorem pz_s15_9 {d : Nat → Nat} (h : ∀ x, x ≤ 15 → pz_f d x 15 % 8 = 0) : (d 9 + d 11 + d 13 + d 15) % 4 = 0 := by
  have a := h 8 (by decide)
  have b := h 1 (by decide)
  have c := h 9 (by decide)
  have e : pz_f d 9 15 + 2 * (d 9 + d 11 + d 13 + d 15) = pz_f d 8 15 + pz_f d 1 15 := by rw [pz_x15_9, pz_x15_8, pz_x15_1]; omega
  generalize pz_f d 9 15 = A at c e
  generalize pz_f d 8 15 = B at a e
  generalize pz_f d 1 15 = C at b e
  generalize d 9 + d 11 + d 13 + d 15 = D at e ⊢
  omega
theorem pz_s15_10 {d : Nat → Nat} (h : ∀ x, x ≤ 15 → pz_f d x 15 % 8 = 0) : (d 10 + d 11 + d 14 + d 15) % 4 = 0 := by
  have a := h 8 (by decide)
  have b := h 2 (by decide)
  have c := h 10 (by decide)
  have e : pz_f d 10 15 + 2 * (d 10 + d 11 + d 14 + d 15) = pz_f d 8 15 + pz_f d 2 15 := by rw [pz_x15_10, pz_x15_8, pz_x15_2]; omega
  generalize pz_f d 10 15 = A at c e
  generalize pz_f d 8 15 = B at a e
  generalize pz_f d 2 15 = C at b e
  generalize d 10 + d 11 + d 14 + d 15 = D at e ⊢
  omega
theorem pz_s15_12 {d : Nat → Nat} (h : ∀ x, x ≤ 15 → pz_f d x 15 % 8 = 0) : (d 12 + d 13 + d 14 + d 15) % 4 = 0 := by
  have a := h 8 (by decide)
  have b := h 4 (by decide)
  have c := h 12 (by decide)
  have e : pz_f d 12 15 + 2 * (d 12 + d 13 + d 14 + d 15) = pz_f d 8 15 + pz_f d 4 15 := by rw [pz_x15_12, pz_x15_8, pz_x15_4]; omega
  generalize pz_f d 12 15 = A at c e
  generalize pz_f d 8 15 = B at a e
  generalize pz_f d 4 15 = C at b e
  generalize d 12 + d 13 + d 14 + d 15 = D at e ⊢
  omega
theorem pz_s15_7 {d : Nat → Nat} (h : ∀ x, x ≤ 15 → pz_f d x 15 % 8 = 0) : (d 7 + d 15) % 2 = 0 := by
  have a1 := h 1 (by decide)
  have a2 := h 2 (by decide)
  have a3 := h 4 (by decide)
  have b1 := pz_s15_3 h
  have b2 := pz_s15_5 h
  have b3 := pz_s15_6 h
  have c := h 7 (by decide)
  have e : pz_f d 7 15 + 2 * (d 3 + d 7 + d 11 + d 15) + 2 * (d 5 + d 7 + d 13 + d 15) + 2 * (d 6 + d 7 + d 14 + d 15) = pz_f d 1 15 + pz_f d 2 15 + pz_f d 4 15 + 4 * (d 7 + d 15) := by rw [pz_x15_7, pz_x15_1, pz_x15_2, pz_x15_4]; omega
  generalize pz_f d 7 15 = A0 at c e
  generalize pz_f d 1 15 = A1 at a1 e
  generalize pz_f d 2 15 = A2 at a2 e
  generalize pz_f d 4 15 = A3 at a3 e
  generalize d 3 + d 7 + d 11 + d 15 = A4 at b1 e
  generalize d 5 + d 7 + d 13 + d 15 = A5 at b2 e
  generalize d 6 + d 7 + d 14 + d 15 = A6 at b3 e
  generalize d 7 + d 15 = D at e ⊢
  omega
theorem pz_s15_11 {d : Nat → Nat} (h : ∀ x, x ≤ 15 → pz_f d x 15 % 8 = 0) : (d 11 + d 15) % 2 = 0 := by
  have a1 := h 1 (by decide)
  have a2 := h 2 (by decide)
  have a3 := h 8 (by decide)
  have b1 := pz_s15_3 h
  have b2 := pz_s15_9 h
  have b3 := pz_s15_10 h
  have c := h 11 (by decide)
  have e : pz_f d 11 15 + 2 * (d 3 + d 7 + d 11 + d 15) + 2 * (d 9 + d 11 + d 13 + d 15) + 2 * (d 10 + d 11 + d 14 + d 15) = pz_f d 1 15 + pz_f d 2 15 + pz_f d 8 15 + 4 * (d 11 + d 15) := by rw [pz_x15_11, pz_x15_1, pz_x15_2, pz_x15_8]; omega
  generalize pz_f d 11 15 = A0 at c e
  generalize pz_f d 1 15 = A1 at a1 e
  generalize pz_f d 2 15 = A2 at a2 e
  generalize pz_f d 8 15 = A3 at a3 e
  generalize d 3 + d 7 + d 11 + d 15 = A4 at b1 e
  generalize d 9 + d 11 + d 13 + d 15 = A5 at b2 e
  generalize d 10 + d 11 + d 14 + d 15 = A6 at b3 e
  generalize d 11 + d 15 = D at e ⊢
  omega
theorem pz_s15_13 {d : Nat → Nat} (h : ∀ x, x ≤ 15 → pz_f d x 15 % 8 = 0) : (d 13 + d 15) % 2 = 0 := by
  have a1 := h 1 (by decide)
  have a2 := h 4 (by decide)
  have a3 := h 8 (by decide)
  have b1 := pz_s15_5 h
  have b2 := pz_s15_9 h
  have b3 := pz_s15_12 h
  have c := h 13 (by decide)
  have e : pz_f d 13 15 + 2 * (d 5 + d 7 + d 13 + d 15) + 2 * (d 9 + d 11 + d 13 + d 15) + 2 * (d 12 + d 13 + d 14 + d 15) = pz_f d 1 15 + pz_f d 4 15 + pz_f d 8 15 + 4 * (d 13 + d 15) := by rw [pz_x15_13, pz_x15_1, pz_x15_4, pz_x15_8]; omega
  generalize pz_f d 13 15 = A0 at c e
  generalize pz_f d 1 15 = A1 at a1 e
  generalize pz_f d 4 15 = A2 at a2 e
  generalize pz_f d 8 15 = A3 at a3 e
  generalize d 5 + d 7 + d 13 + d 15 = A4 at b1 e
  generalize d 9 + d 11 + d 13 + d 15 = A5 at b2 e
  generalize d 12 + d 13 + d 14 + d 15 = A6 at b3 e
  generalize d 13 + d 15 = D at e ⊢
  omega
theorem pz_s15_14 {d : Nat → Nat} (h : ∀ x, x ≤ 15 → pz_f d x 15 % 8 = 0) : (d 14 + d 15) % 2 = 0 := by
  have a1 := h 2 (by decide)
  have a2 := h 4 (by decide)
  have a3 := h 8 (by decide)
  have b1 := pz_s15_6 h
  have b2 := pz_s15_10 h
  have b3 := pz_s15_12 h
  have c := h 14 (by decide)
  have e : pz_f d 14 15 + 2 * (d 6 + d 7 + d 14 + d 15) + 2 * (d 10 + d 11 + d 14 + d 15) + 2 * (d 12 + d 13 + d 14 + d 15) = pz_f d 2 15 + pz_f d 4 15 + pz_f d 8 15 + 4 * (d 14 + d 15) := by rw [pz_x15_14, pz_x15_2, pz_x15_4, pz_x15_8]; omega
  generalize pz_f d 14 15 = A0 at c e
  generalize pz_f d 2 15 = A1 at a1 e
  generalize pz_f d 4 15 = A2 at a2 e
  generalize pz_f d 8 15 = A3 at a3 e
  generalize d 6 + d 7 + d 14 + d 15 = A4 at b1 e
  generalize d 10 + d 11 + d 14 + d 15 = A5 at b2 e
  generalize d 12 + d 13 + d 14 + d 15 = A6 at b3 e
  generalize d 14 + d 15 = D at e ⊢
  omega
