/-! all phases of one function are met, by the numbers (k, kk, m), and modulo 4 by the shifts -/
set_option maxHeartbeats 8000000 in
set_option maxRecDepth 100000 in
theorem pz_full15 {v w : Nat → Nat} (hv : pz_vec 15 v) (hw : pz_vec 15 w) (h : pz_rel 15 v w) : ∃ k kk m, k < 8 ∧ kk < 256 ∧ m < 64 ∧ ∀ p, 1 ≤ p → p ≤ 15 → w p = pz_en v k kk m p := by
  obtain ⟨d, hd, hwd, hf⟩ := pz_diff hv hw h
  obtain ⟨⟨s1, s2, s4, s8⟩, ⟨q3, q5, q6, q9, q10, q12⟩, t7, t11, t13, t14⟩ := pz_sums15 hf
  obtain ⟨a7, e7, l7⟩ : ∃ c, d 7 + d 15 = 2 * c ∧ c < 8 := ⟨(d 7 + d 15) / 2, by omega, by have := hd 7; have := hd 15; omega⟩
  obtain ⟨a11, e11, l11⟩ : ∃ c, d 11 + d 15 = 2 * c ∧ c < 8 := ⟨(d 11 + d 15) / 2, by omega, by have := hd 11; have := hd 15; omega⟩
  obtain ⟨a13, e13, l13⟩ : ∃ c, d 13 + d 15 = 2 * c ∧ c < 8 := ⟨(d 13 + d 15) / 2, by omega, by have := hd 13; have := hd 15; omega⟩
  obtain ⟨a14, e14, l14⟩ : ∃ c, d 14 + d 15 = 2 * c ∧ c < 8 := ⟨(d 14 + d 15) / 2, by omega, by have := hd 14; have := hd 15; omega⟩
  obtain ⟨b3, f3⟩ : ∃ c, d 3 + d 7 + d 11 + d 15 = 4 * c := ⟨(d 3 + d 7 + d 11 + d 15) / 4, by omega⟩
  obtain ⟨b5, f5⟩ : ∃ c, d 5 + d 7 + d 13 + d 15 = 4 * c := ⟨(d 5 + d 7 + d 13 + d 15) / 4, by omega⟩
  obtain ⟨b6, f6⟩ : ∃ c, d 6 + d 7 + d 14 + d 15 = 4 * c := ⟨(d 6 + d 7 + d 14 + d 15) / 4, by omega⟩
  obtain ⟨b9, f9⟩ : ∃ c, d 9 + d 11 + d 13 + d 15 = 4 * c := ⟨(d 9 + d 11 + d 13 + d 15) / 4, by omega⟩
  obtain ⟨b10, f10⟩ : ∃ c, d 10 + d 11 + d 14 + d 15 = 4 * c := ⟨(d 10 + d 11 + d 14 + d 15) / 4, by omega⟩
  obtain ⟨b12, f12⟩ : ∃ c, d 12 + d 13 + d 14 + d 15 = 4 * c := ⟨(d 12 + d 13 + d 14 + d 15) / 4, by omega⟩
  obtain ⟨g1, r1⟩ : ∃ c, d 1 + d 3 + d 5 + d 7 + d 9 + d 11 + d 13 + d 15 = 8 * c := ⟨_, (Nat.mul_div_cancel' (Nat.dvd_of_mod_eq_zero s1)).symm⟩
  obtain ⟨g2, r2⟩ : ∃ c, d 2 + d 3 + d 6 + d 7 + d 10 + d 11 + d 14 + d 15 = 8 * c := ⟨_, (Nat.mul_div_cancel' (Nat.dvd_of_mod_eq_zero s2)).symm⟩
  obtain ⟨g4, r4⟩ : ∃ c, d 4 + d 5 + d 6 + d 7 + d 12 + d 13 + d 14 + d 15 = 8 * c := ⟨_, (Nat.mul_div_cancel' (Nat.dvd_of_mod_eq_zero s4)).symm⟩
  obtain ⟨g8, r8⟩ : ∃ c, d 8 + d 9 + d 10 + d 11 + d 12 + d 13 + d 14 + d 15 = 8 * c := ⟨_, (Nat.mul_div_cancel' (Nat.dvd_of_mod_eq_zero s8)).symm⟩
  clear s1 s2 s4 s8 q3 q5 q6 q9 q10 q12 t7 t11 t13 t14 hf h
  obtain ⟨kk, hkk, k0, k1, k2, k3⟩ : ∃ kk, kk < 256 ∧ kk % 4 = a7 % 4 ∧ kk / 4 % 4 = a11 % 4 ∧ kk / 16 % 4 = a13 % 4 ∧ kk / 64 % 4 = a14 % 4 := ⟨a7 % 4 + 4 * (a11 % 4) + 16 * (a13 % 4) + 64 * (a14 % 4), by omega, by omega, by omega, by omega, by omega⟩
  obtain ⟨m, hm, m0, m1, m2, m3, m4, m5⟩ : ∃ m, m < 64 ∧ m % 2 = b3 % 2 ∧ m / 2 % 2 = b5 % 2 ∧ m / 4 % 2 = b6 % 2 ∧ m / 8 % 2 = b9 % 2 ∧ m / 16 % 2 = b10 % 2 ∧ m / 32 % 2 = b12 % 2 := ⟨b3 % 2 + 2 * (b5 % 2) + 4 * (b6 % 2) + 8 * (b9 % 2) + 16 * (b10 % 2) + 32 * (b12 % 2), by omega, by omega, by omega, by omega, by omega, by omega, by omega⟩
  refine ⟨d 15, kk, m, hd 15, hkk, hm, fun p h1 h2 => ?_⟩
  rw [hwd p h1 h2]
  unfold pz_en
  rw [k0, k1, k2, k3, m0, m1, m2, m3, m4, m5]
  clear k0 k1 k2 k3 m0 m1 m2 m3 m4 m5 hkk hm hwd
  revert p
  refine pz_case15 ?_ ?_ ?_ ?_ ?_ ?_ ?_ ?_ ?_ ?_ ?_ ?_ ?_ ?_ ?_ <;> simp [pz_g, pz_par] <;> omega
set_option maxHeartbeats 4000000 in
set_option maxRecDepth 100000 in
theorem pz_sums7 {d : Nat → Nat} (h : ∀ x, x ≤ 7 → pz_f d x 7 % 8 = 0) :
    ((d 1 + d 3 + d 5 + d 7) % 8 = 0 ∧ (d 2 + d 3 + d 6 + d 7) % 8 = 0 ∧ (d 4 + d 5 + d 6 + d 7) % 8 = 0) ∧ ((d 3 + d 7) % 4 = 0 ∧ (d 5 + d 7) % 4 = 0 ∧ (d 6 + d 7) % 4 = 0) ∧ d 7 % 2 = 0 := by
  have x1 := h 1 (by decide)
  have x2 := h 2 (by decide)
  have x3 := h 3 (by decide)
  have x4 := h 4 (by decide)
  have x5 := h 5 (by decide)
  have x6 := h 6 (by decide)
  have x7 := h 7 (by decide)
  clear h
  simp [pz_f, pz_par] at x1 x2 x3 x4 x5 x6 x7
  refine ⟨⟨by omega, by omega, by omega⟩, ⟨by omega, by omega, by omega⟩, by omega⟩
set_option maxHeartbeats 4000000 in
set_option maxRecDepth 100000 in
theorem pz_full7 {v w : Nat → Nat} (hv : pz_vec 7 v) (hw : pz_vec 7 w) (h : pz_rel 7 v w) : ∃ kk m, kk < 4 ∧ m < 8 ∧ ∀ p, 1 ≤ p → p ≤ 7 → w p = pz_en v 0 kk m p := by
  obtain ⟨d, hd, hwd, hf⟩ := pz_diff hv hw h
  obtain ⟨⟨s1, s2, s4⟩, ⟨q3, q5, q6⟩, t7⟩ := pz_sums7 hf
  have hd7 := hd 7
  refine ⟨d 7 / 2, (d 3 + d 7) / 4 % 2 + 2 * ((d 5 + d 7) / 4 % 2) + 4 * ((d 6 + d 7) / 4 % 2), by omega, by omega, fun p h1 h2 => ?_⟩
  rw [hwd p h1 h2]
  unfold pz_en
  clear hwd hf h
  revert p
  refine pz_case7 ?_ ?_ ?_ ?_ ?_ ?_ ?_ <;> simp [pz_g, pz_par] <;> omega
set_option maxHeartbeats 4000000 in
set_option maxRecDepth 100000 in
theorem pz_full3 {v w : Nat → Nat} (hv : pz_vec 3 v) (hw : pz_vec 3 w) (h : pz_rel 3 v w) : ∃ m, m < 2 ∧ ∀ p, 1 ≤ p → p ≤ 3 → w p = pz_en v 0 0 m p := by
  obtain ⟨d, hd, hwd, hf⟩ := pz_diff hv hw h
  have x1 := hf 1 (by decide)
  have x2 := hf 2 (by decide)
  have x3 := hf 3 (by decide)
  simp [pz_f, pz_par] at x1 x2 x3
  have hd3 := hd 3
  refine ⟨d 3 / 4, by omega, fun p h1 h2 => ?_⟩
  rw [hwd p h1 h2]
  unfold pz_en
  clear hwd hf h
  revert p
  refine pz_case3 ?_ ?_ ?_ <;> simp [pz_g, pz_par] <;> omega
theorem pz_full1 {v w : Nat → Nat} (hv : pz_vec 1 v) (hw : pz_vec 1 w) (h : pz_rel 1 v w) : ∀ p, 1 ≤ p → p ≤ 1 → w p = pz_en v 0 0 0 p := by
  obtain ⟨d, hd, hwd, hf⟩ := pz_diff hv hw h
  have x1 := hf 1 (by decide)
  simp [pz_f, pz_par] at x1
  have hd1 := hd 1
  intro p h1 h2
  rw [hwd p h1 h2]
  unfold pz_en
  clear hwd hf h
  revert p
  refine pz_case1 ?_
  simp; omega
/-- the phases behind the shifts of a set of shifts, modulo 4 -/
def pz_sh (v : Nat → Nat) (b p : Nat) : Nat := v p + 2 * (b % 2) * pz_u 7 p + 2 * (b / 2 % 2) * pz_u 11 p + 2 * (b / 4 % 2) * pz_u 13 p + 2 * (b / 8 % 2) * pz_u 14 p + 2 * (b / 16 % 2) * pz_u 15 p + b / 32 % 2 * pz_u 15 p
set_option maxHeartbeats 8000000 in
set_option maxRecDepth 100000 in
theorem pz_cov15 {v w : Nat → Nat} (hv : pz_vec 15 v) (hw : pz_vec 15 w) (h : pz_rel 15 v w) : ∃ b, b < 64 ∧ ∀ p, 1 ≤ p → p ≤ 15 → w p % 4 = pz_sh v b p % 4 := by
  obtain ⟨d, hd, hwd, hf⟩ := pz_diff hv hw h
  obtain ⟨⟨s1, s2, s4, s8⟩, ⟨q3, q5, q6, q9, q10, q12⟩, t7, t11, t13, t14⟩ := pz_sums15 hf
  obtain ⟨b5, z5⟩ : ∃ c, c = d 15 % 2 := ⟨_, rfl⟩
  obtain ⟨b4, z4⟩ : ∃ c, c = d 15 / 2 % 2 := ⟨_, rfl⟩
  obtain ⟨b0, z0⟩ : ∃ c, c = (d 7 + 4 - d 15 % 4) / 2 % 2 := ⟨_, rfl⟩
  obtain ⟨b1, z1⟩ : ∃ c, c = (d 11 + 4 - d 15 % 4) / 2 % 2 := ⟨_, rfl⟩
  obtain ⟨b2, z2⟩ : ∃ c, c = (d 13 + 4 - d 15 % 4) / 2 % 2 := ⟨_, rfl⟩
  obtain ⟨b3, z3⟩ : ∃ c, c = (d 14 + 4 - d 15 % 4) / 2 % 2 := ⟨_, rfl⟩
  have y15 : d 15 % 4 = (2 * b4 + b5) % 4 := by omega
  have y7 : d 7 % 4 = (2 * b0 + 2 * b4 + b5) % 4 := by omega
  have y11 : d 11 % 4 = (2 * b1 + 2 * b4 + b5) % 4 := by omega
  have y13 : d 13 % 4 = (2 * b2 + 2 * b4 + b5) % 4 := by omega
  have y14 : d 14 % 4 = (2 * b3 + 2 * b4 + b5) % 4 := by omega
  have l0 : b0 < 2 := by omega
  have l1 : b1 < 2 := by omega
  have l2 : b2 < 2 := by omega
  have l3 : b3 < 2 := by omega
  have l4 : b4 < 2 := by omega
  have l5 : b5 < 2 := by omega
  clear z0 z1 z2 z3 z4 z5 t7 t11 t13 t14 hf h
  have y3 : d 3 % 4 = (2 * b0 + 2 * b1 + 2 * b4 + b5) % 4 := by omega
  have y5 : d 5 % 4 = (2 * b0 + 2 * b2 + 2 * b4 + b5) % 4 := by omega
  have y6 : d 6 % 4 = (2 * b0 + 2 * b3 + 2 * b4 + b5) % 4 := by omega
  have y9 : d 9 % 4 = (2 * b1 + 2 * b2 + 2 * b4 + b5) % 4 := by omega
  have y10 : d 10 % 4 = (2 * b1 + 2 * b3 + 2 * b4 + b5) % 4 := by omega
  have y12 : d 12 % 4 = (2 * b2 + 2 * b3 + 2 * b4 + b5) % 4 := by omega
  clear q3 q5 q6 q9 q10 q12
  have y1 : d 1 % 4 = (2 * b0 + 2 * b1 + 2 * b2 + 2 * b4 + b5) % 4 := by clear s2 s4 s8; omega
  have y2 : d 2 % 4 = (2 * b0 + 2 * b1 + 2 * b3 + 2 * b4 + b5) % 4 := by clear s1 s4 s8; omega
  have y4 : d 4 % 4 = (2 * b0 + 2 * b2 + 2 * b3 + 2 * b4 + b5) % 4 := by clear s2 s1 s8; omega
  have y8 : d 8 % 4 = (2 * b1 + 2 * b2 + 2 * b3 + 2 * b4 + b5) % 4 := by clear s2 s4 s1; omega
  clear s1 s2 s4 s8
  obtain ⟨b, hb, c0, c1, c2, c3, c4, c5⟩ : ∃ b, b < 64 ∧ b % 2 = b0 ∧ b / 2 % 2 = b1 ∧ b / 4 % 2 = b2 ∧ b / 8 % 2 = b3 ∧ b / 16 % 2 = b4 ∧ b / 32 % 2 = b5 := ⟨b0 + 2 * b1 + 4 * b2 + 8 * b3 + 16 * b4 + 32 * b5, by omega, by omega, by omega, by omega, by omega, by omega, by omega⟩
  refine ⟨b, hb, fun p h1 h2 => ?_⟩
  rw [hwd p h1 h2]
  unfold pz_sh
  rw [c0, c1, c2, c3, c4, c5]
  clear c0 c1 c2 c3 c4 c5 hb hwd
  revert p
  refine pz_case15 ?_ ?_ ?_ ?_ ?_ ?_ ?_ ?_ ?_ ?_ ?_ ?_ ?_ ?_ ?_ <;> simp [pz_u] <;> omega
set_option maxHeartbeats 4000000 in
set_option maxRecDepth 100000 in
theorem pz_cov7 {v w : Nat → Nat} (hv : pz_vec 7 v) (hw : pz_vec 7 w) (h : pz_rel 7 v w) : ∃ b, b < 2 ∧ ∀ p, 1 ≤ p → p ≤ 7 → w p % 4 = pz_sh v b p % 4 := by
  obtain ⟨d, hd, hwd, hf⟩ := pz_diff hv hw h
  obtain ⟨⟨s1, s2, s4⟩, ⟨q3, q5, q6⟩, t7⟩ := pz_sums7 hf
  have hd7 := hd 7
  refine ⟨d 7 / 2 % 2, by omega, fun p h1 h2 => ?_⟩
  rw [hwd p h1 h2]
  unfold pz_sh
  clear hwd hf h
  revert p
  refine pz_case7 ?_ ?_ ?_ ?_ ?_ ?_ ?_ <;> simp [pz_u] <;> omega
set_option maxHeartbeats 4000000 in
set_option maxRecDepth 100000 in
theorem pz_cov3 {v w : Nat → Nat} (hv : pz_vec 3 v) (hw : pz_vec 3 w) (h : pz_rel 3 v w) : ∀ p, 1 ≤ p → p ≤ 3 → w p % 4 = v p % 4 := by
  obtain ⟨d, hd, hwd, hf⟩ := pz_diff hv hw h
  have x1 := hf 1 (by decide)
  have x2 := hf 2 (by decide)
  have x3 := hf 3 (by decide)
  simp [pz_f, pz_par] at x1 x2 x3
  intro p h1 h2
  rw [hwd p h1 h2]
  clear hwd hf h
  revert p
  refine pz_case3 ?_ ?_ ?_ <;> omega
theorem pz_cov1 {v w : Nat → Nat} (hv : pz_vec 1 v) (hw : pz_vec 1 w) (h : pz_rel 1 v w) : ∀ p, 1 ≤ p → p ≤ 1 → w p % 4 = v p % 4 := by
  obtain ⟨d, hd, hwd, hf⟩ := pz_diff hv hw h
  have x1 := hf 1 (by decide)
  simp [pz_f, pz_par] at x1
  intro p h1 h2
  rw [hwd p h1 h2]
  clear hwd hf h
  revert p
  refine pz_case1 ?_
  omega
