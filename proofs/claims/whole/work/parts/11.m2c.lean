/-! modulo 4 all phases of one function are met by the shifts (by wip/tools/gen_m12.py) -/
/-- the phases behind the shifts of a set of shifts, modulo 4 -/
def pz_sh (v : Nat → Nat) (b p : Nat) : Nat := v p + 2 * (b % 2) * pz_u 7 p + 2 * (b / 2 % 2) * pz_u 11 p + 2 * (b / 4 % 2) * pz_u 13 p + 2 * (b / 8 % 2) * pz_u 14 p + 2 * (b / 16 % 2) * pz_u 15 p + b / 32 % 2 * pz_u 15 p
set_option maxHeartbeats 4000000 in
set_option maxRecDepth 100000 in
theorem pz_cov15 {v w : Nat → Nat} (hv : pz_vec 15 v) (hw : pz_vec 15 w) (h : pz_rel 15 v w) : ∃ b, b < 64 ∧ ∀ p, 1 ≤ p → p ≤ 15 → w p % 4 = pz_sh v b p % 4 := by
  obtain ⟨d, hd, hwd, hf⟩ := pz_diff hv hw h
  obtain ⟨u1, z1⟩ : ∃ c, d 1 + d 3 + d 5 + d 7 + d 9 + d 11 + d 13 + d 15 = 8 * c := ⟨_, (Nat.mul_div_cancel' (Nat.dvd_of_mod_eq_zero (pz_s15_1 hf))).symm⟩
  obtain ⟨u2, z2⟩ : ∃ c, d 2 + d 3 + d 6 + d 7 + d 10 + d 11 + d 14 + d 15 = 8 * c := ⟨_, (Nat.mul_div_cancel' (Nat.dvd_of_mod_eq_zero (pz_s15_2 hf))).symm⟩
  obtain ⟨u3, z3⟩ : ∃ c, d 3 + d 7 + d 11 + d 15 = 4 * c := ⟨_, (Nat.mul_div_cancel' (Nat.dvd_of_mod_eq_zero (pz_s15_3 hf))).symm⟩
  obtain ⟨u4, z4⟩ : ∃ c, d 4 + d 5 + d 6 + d 7 + d 12 + d 13 + d 14 + d 15 = 8 * c := ⟨_, (Nat.mul_div_cancel' (Nat.dvd_of_mod_eq_zero (pz_s15_4 hf))).symm⟩
  obtain ⟨u5, z5⟩ : ∃ c, d 5 + d 7 + d 13 + d 15 = 4 * c := ⟨_, (Nat.mul_div_cancel' (Nat.dvd_of_mod_eq_zero (pz_s15_5 hf))).symm⟩
  obtain ⟨u6, z6⟩ : ∃ c, d 6 + d 7 + d 14 + d 15 = 4 * c := ⟨_, (Nat.mul_div_cancel' (Nat.dvd_of_mod_eq_zero (pz_s15_6 hf))).symm⟩
  obtain ⟨u7, z7⟩ : ∃ c, d 7 + d 15 = 2 * c := ⟨_, (Nat.mul_div_cancel' (Nat.dvd_of_mod_eq_zero (pz_s15_7 hf))).symm⟩
  obtain ⟨u8, z8⟩ : ∃ c, d 8 + d 9 + d 10 + d 11 + d 12 + d 13 + d 14 + d 15 = 8 * c := ⟨_, (Nat.mul_div_cancel' (Nat.dvd_of_mod_eq_zero (pz_s15_8 hf))).symm⟩
  obtain ⟨u9, z9⟩ : ∃ c, d 9 + d 11 + d 13 + d 15 = 4 * c := ⟨_, (Nat.mul_div_cancel' (Nat.dvd_of_mod_eq_zero (pz_s15_9 hf))).symm⟩
  obtain ⟨u10, z10⟩ : ∃ c, d 10 + d 11 + d 14 + d 15 = 4 * c := ⟨_, (Nat.mul_div_cancel' (Nat.dvd_of_mod_eq_zero (pz_s15_10 hf))).symm⟩
  obtain ⟨u11, z11⟩ : ∃ c, d 11 + d 15 = 2 * c := ⟨_, (Nat.mul_div_cancel' (Nat.dvd_of_mod_eq_zero (pz_s15_11 hf))).symm⟩
  obtain ⟨u12, z12⟩ : ∃ c, d 12 + d 13 + d 14 + d 15 = 4 * c := ⟨_, (Nat.mul_div_cancel' (Nat.dvd_of_mod_eq_zero (pz_s15_12 hf))).symm⟩
  obtain ⟨u13, z13⟩ : ∃ c, d 13 + d 15 = 2 * c := ⟨_, (Nat.mul_div_cancel' (Nat.dvd_of_mod_eq_zero (pz_s15_13 hf))).symm⟩
  obtain ⟨u14, z14⟩ : ∃ c, d 14 + d 15 = 2 * c := ⟨_, (Nat.mul_div_cancel' (Nat.dvd_of_mod_eq_zero (pz_s15_14 hf))).symm⟩
  clear hf h hv hw
  obtain ⟨c, b4, b5, y15, l4, l5⟩ : ∃ c b4 b5, d 15 = 4 * c + 2 * b4 + b5 ∧ b4 < 2 ∧ b5 < 2 := ⟨d 15 / 4, d 15 / 2 % 2, d 15 % 2, by omega, by omega, by omega⟩
  obtain ⟨e7, b0, y7, l0⟩ : ∃ e b, u7 + b5 = 2 * e + b ∧ b < 2 := ⟨(u7 + b5) / 2, (u7 + b5) % 2, by omega, by omega⟩
  obtain ⟨e11, b1, y11, l1⟩ : ∃ e b, u11 + b5 = 2 * e + b ∧ b < 2 := ⟨(u11 + b5) / 2, (u11 + b5) % 2, by omega, by omega⟩
  obtain ⟨e13, b2, y13, l2⟩ : ∃ e b, u13 + b5 = 2 * e + b ∧ b < 2 := ⟨(u13 + b5) / 2, (u13 + b5) % 2, by omega, by omega⟩
  obtain ⟨e14, b3, y14, l3⟩ : ∃ e b, u14 + b5 = 2 * e + b ∧ b < 2 := ⟨(u14 + b5) / 2, (u14 + b5) % 2, by omega, by omega⟩
  obtain ⟨b, hb, c0, c1, c2, c3, c4, c5⟩ : ∃ b, b < 64 ∧ b % 2 = b0 ∧ b / 2 % 2 = b1 ∧ b / 4 % 2 = b2 ∧ b / 8 % 2 = b3 ∧ b / 16 % 2 = b4 ∧ b / 32 % 2 = b5 := ⟨b0 + 2 * b1 + 4 * b2 + 8 * b3 + 16 * b4 + 32 * b5, by omega, by omega, by omega, by omega, by omega, by omega, by omega⟩
  refine ⟨b, hb, fun p h1 h2 => ?_⟩
  rw [hwd p h1 h2]
  unfold pz_sh
  rw [c0, c1, c2, c3, c4, c5]
  clear c0 c1 c2 c3 c4 c5 hb hwd l0 l1 l2 l3 l4 l5
  revert p
  refine pz_case15 ?_ ?_ ?_ ?_ ?_ ?_ ?_ ?_ ?_ ?_ ?_ ?_ ?_ ?_ ?_
  · skip
    rw [show pz_u 7 1 = 1 from rfl, show pz_u 11 1 = 1 from rfl, show pz_u 13 1 = 1 from rfl, show pz_u 14 1 = 0 from rfl, show pz_u 15 1 = 1 from rfl]
    clear hd z2 z4 z6 z8 z10 z12 z14 y14
    omega
  · skip
    rw [show pz_u 7 2 = 1 from rfl, show pz_u 11 2 = 1 from rfl, show pz_u 13 2 = 0 from rfl, show pz_u 14 2 = 1 from rfl, show pz_u 15 2 = 1 from rfl]
    clear hd z1 z4 z5 z8 z9 z12 z13 y13
    omega
  · skip
    rw [show pz_u 7 3 = 1 from rfl, show pz_u 11 3 = 1 from rfl, show pz_u 13 3 = 0 from rfl, show pz_u 14 3 = 0 from rfl, show pz_u 15 3 = 1 from rfl]
    clear hd z1 z2 z4 z5 z6 z8 z9 z10 z12 z13 z14 y13 y14
    omega
  · skip
    rw [show pz_u 7 4 = 1 from rfl, show pz_u 11 4 = 0 from rfl, show pz_u 13 4 = 1 from rfl, show pz_u 14 4 = 1 from rfl, show pz_u 15 4 = 1 from rfl]
    clear hd z1 z2 z3 z8 z9 z10 z11 y11
    omega
  · skip
    rw [show pz_u 7 5 = 1 from rfl, show pz_u 11 5 = 0 from rfl, show pz_u 13 5 = 1 from rfl, show pz_u 14 5 = 0 from rfl, show pz_u 15 5 = 1 from rfl]
    clear hd z1 z2 z3 z4 z6 z8 z9 z10 z11 z12 z14 y11 y14
    omega
  · skip
    rw [show pz_u 7 6 = 1 from rfl, show pz_u 11 6 = 0 from rfl, show pz_u 13 6 = 0 from rfl, show pz_u 14 6 = 1 from rfl, show pz_u 15 6 = 1 from rfl]
    clear hd z1 z2 z3 z4 z5 z8 z9 z10 z11 z12 z13 y11 y13
    omega
  · skip
    rw [show pz_u 7 7 = 1 from rfl, show pz_u 11 7 = 0 from rfl, show pz_u 13 7 = 0 from rfl, show pz_u 14 7 = 0 from rfl, show pz_u 15 7 = 1 from rfl]
    clear hd z1 z2 z3 z4 z5 z6 z8 z9 z10 z11 z12 z13 z14 y11 y13 y14
    omega
  · skip
    rw [show pz_u 7 8 = 0 from rfl, show pz_u 11 8 = 1 from rfl, show pz_u 13 8 = 1 from rfl, show pz_u 14 8 = 1 from rfl, show pz_u 15 8 = 1 from rfl]
    clear hd z1 z2 z3 z4 z5 z6 z7 y7
    omega
  · skip
    rw [show pz_u 7 9 = 0 from rfl, show pz_u 11 9 = 1 from rfl, show pz_u 13 9 = 1 from rfl, show pz_u 14 9 = 0 from rfl, show pz_u 15 9 = 1 from rfl]
    clear hd z1 z2 z3 z4 z5 z6 z7 z8 z10 z12 z14 y7 y14
    omega
  · skip
    rw [show pz_u 7 10 = 0 from rfl, show pz_u 11 10 = 1 from rfl, show pz_u 13 10 = 0 from rfl, show pz_u 14 10 = 1 from rfl, show pz_u 15 10 = 1 from rfl]
    clear hd z1 z2 z3 z4 z5 z6 z7 z8 z9 z12 z13 y7 y13
    omega
  · skip
    rw [show pz_u 7 11 = 0 from rfl, show pz_u 11 11 = 1 from rfl, show pz_u 13 11 = 0 from rfl, show pz_u 14 11 = 0 from rfl, show pz_u 15 11 = 1 from rfl]
    clear hd z1 z2 z3 z4 z5 z6 z7 z8 z9 z10 z12 z13 z14 y7 y13 y14
    omega
  · skip
    rw [show pz_u 7 12 = 0 from rfl, show pz_u 11 12 = 0 from rfl, show pz_u 13 12 = 1 from rfl, show pz_u 14 12 = 1 from rfl, show pz_u 15 12 = 1 from rfl]
    clear hd z1 z2 z3 z4 z5 z6 z7 z8 z9 z10 z11 y7 y11
    omega
  · skip
    rw [show pz_u 7 13 = 0 from rfl, show pz_u 11 13 = 0 from rfl, show pz_u 13 13 = 1 from rfl, show pz_u 14 13 = 0 from rfl, show pz_u 15 13 = 1 from rfl]
    clear hd z1 z2 z3 z4 z5 z6 z7 z8 z9 z10 z11 z12 z14 y7 y11 y14
    omega
  · skip
    rw [show pz_u 7 14 = 0 from rfl, show pz_u 11 14 = 0 from rfl, show pz_u 13 14 = 0 from rfl, show pz_u 14 14 = 1 from rfl, show pz_u 15 14 = 1 from rfl]
    clear hd z1 z2 z3 z4 z5 z6 z7 z8 z9 z10 z11 z12 z13 y7 y11 y13
    omega
  · skip
    rw [show pz_u 7 15 = 0 from rfl, show pz_u 11 15 = 0 from rfl, show pz_u 13 15 = 0 from rfl, show pz_u 14 15 = 0 from rfl, show pz_u 15 15 = 1 from rfl]
    clear hd z1 z2 z3 z4 z5 z6 z7 z8 z9 z10 z11 z12 z13 z14 y7 y11 y13 y14
    omega
set_option maxHeartbeats 4000000 in
set_option maxRecDepth 100000 in
theorem pz_cov7 {v w : Nat → Nat} (hv : pz_vec 7 v) (hw : pz_vec 7 w) (h : pz_rel 7 v w) : ∃ b, b < 2 ∧ ∀ p, 1 ≤ p → p ≤ 7 → w p % 4 = pz_sh v b p % 4 := by
  obtain ⟨d, hd, hwd, hf⟩ := pz_diff hv hw h
  obtain ⟨u1, z1⟩ : ∃ c, d 1 + d 3 + d 5 + d 7 = 8 * c := ⟨_, (Nat.mul_div_cancel' (Nat.dvd_of_mod_eq_zero (pz_s7_1 hf))).symm⟩
  obtain ⟨u2, z2⟩ : ∃ c, d 2 + d 3 + d 6 + d 7 = 8 * c := ⟨_, (Nat.mul_div_cancel' (Nat.dvd_of_mod_eq_zero (pz_s7_2 hf))).symm⟩
  obtain ⟨u3, z3⟩ : ∃ c, d 3 + d 7 = 4 * c := ⟨_, (Nat.mul_div_cancel' (Nat.dvd_of_mod_eq_zero (pz_s7_3 hf))).symm⟩
  obtain ⟨u4, z4⟩ : ∃ c, d 4 + d 5 + d 6 + d 7 = 8 * c := ⟨_, (Nat.mul_div_cancel' (Nat.dvd_of_mod_eq_zero (pz_s7_4 hf))).symm⟩
  obtain ⟨u5, z5⟩ : ∃ c, d 5 + d 7 = 4 * c := ⟨_, (Nat.mul_div_cancel' (Nat.dvd_of_mod_eq_zero (pz_s7_5 hf))).symm⟩
  obtain ⟨u6, z6⟩ : ∃ c, d 6 + d 7 = 4 * c := ⟨_, (Nat.mul_div_cancel' (Nat.dvd_of_mod_eq_zero (pz_s7_6 hf))).symm⟩
  obtain ⟨u7, z7⟩ : ∃ c, d 7 = 2 * c := ⟨_, (Nat.mul_div_cancel' (Nat.dvd_of_mod_eq_zero (pz_s7_7 hf))).symm⟩
  clear hf h hv hw
  obtain ⟨c, b0, y7, l0⟩ : ∃ c b0, u7 = 2 * c + b0 ∧ b0 < 2 := ⟨u7 / 2, u7 % 2, by omega, by omega⟩
  refine ⟨b0, by omega, fun p h1 h2 => ?_⟩
  rw [hwd p h1 h2]
  unfold pz_sh
  rw [show b0 % 2 = b0 by omega, show b0 / 2 % 2 = 0 by omega, show b0 / 4 % 2 = 0 by omega, show b0 / 8 % 2 = 0 by omega, show b0 / 16 % 2 = 0 by omega, show b0 / 32 % 2 = 0 by omega]
  clear hwd l0
  revert p
  refine pz_case7 ?_ ?_ ?_ ?_ ?_ ?_ ?_
  · skip
    rw [show pz_u 7 1 = 1 from rfl, show pz_u 11 1 = 1 from rfl, show pz_u 13 1 = 1 from rfl, show pz_u 14 1 = 0 from rfl, show pz_u 15 1 = 1 from rfl]
    clear hd z2 z4 z6
    omega
  · skip
    rw [show pz_u 7 2 = 1 from rfl, show pz_u 11 2 = 1 from rfl, show pz_u 13 2 = 0 from rfl, show pz_u 14 2 = 1 from rfl, show pz_u 15 2 = 1 from rfl]
    clear hd z1 z4 z5
    omega
  · skip
    rw [show pz_u 7 3 = 1 from rfl, show pz_u 11 3 = 1 from rfl, show pz_u 13 3 = 0 from rfl, show pz_u 14 3 = 0 from rfl, show pz_u 15 3 = 1 from rfl]
    clear hd z1 z2 z4 z5 z6
    omega
  · skip
    rw [show pz_u 7 4 = 1 from rfl, show pz_u 11 4 = 0 from rfl, show pz_u 13 4 = 1 from rfl, show pz_u 14 4 = 1 from rfl, show pz_u 15 4 = 1 from rfl]
    clear hd z1 z2 z3
    omega
  · skip
    rw [show pz_u 7 5 = 1 from rfl, show pz_u 11 5 = 0 from rfl, show pz_u 13 5 = 1 from rfl, show pz_u 14 5 = 0 from rfl, show pz_u 15 5 = 1 from rfl]
    clear hd z1 z2 z3 z4 z6
    omega
  · skip
    rw [show pz_u 7 6 = 1 from rfl, show pz_u 11 6 = 0 from rfl, show pz_u 13 6 = 0 from rfl, show pz_u 14 6 = 1 from rfl, show pz_u 15 6 = 1 from rfl]
    clear hd z1 z2 z3 z4 z5
    omega
  · skip
    rw [show pz_u 7 7 = 1 from rfl, show pz_u 11 7 = 0 from rfl, show pz_u 13 7 = 0 from rfl, show pz_u 14 7 = 0 from rfl, show pz_u 15 7 = 1 from rfl]
    clear hd z1 z2 z3 z4 z5 z6
    omega
set_option maxHeartbeats 4000000 in
set_option maxRecDepth 100000 in
theorem pz_cov3 {v w : Nat → Nat} (hv : pz_vec 3 v) (hw : pz_vec 3 w) (h : pz_rel 3 v w) : ∀ p, 1 ≤ p → p ≤ 3 → w p % 4 = v p % 4 := by
  obtain ⟨d, hd, hwd, hf⟩ := pz_diff hv hw h
  obtain ⟨u1, z1⟩ : ∃ c, d 1 + d 3 = 8 * c := ⟨_, (Nat.mul_div_cancel' (Nat.dvd_of_mod_eq_zero (pz_s3_1 hf))).symm⟩
  obtain ⟨u2, z2⟩ : ∃ c, d 2 + d 3 = 8 * c := ⟨_, (Nat.mul_div_cancel' (Nat.dvd_of_mod_eq_zero (pz_s3_2 hf))).symm⟩
  obtain ⟨u3, z3⟩ : ∃ c, d 3 = 4 * c := ⟨_, (Nat.mul_div_cancel' (Nat.dvd_of_mod_eq_zero (pz_s3_3 hf))).symm⟩
  clear hf h hv hw
  intro p h1 h2
  rw [hwd p h1 h2]
  clear hwd
  revert p
  refine pz_case3 ?_ ?_ ?_
  · skip
    clear hd z2
    omega
  · skip
    clear hd z1
    omega
  · skip
    clear hd z1 z2
    omega
set_option maxHeartbeats 4000000 in
set_option maxRecDepth 100000 in
theorem pz_cov1 {v w : Nat → Nat} (hv : pz_vec 1 v) (hw : pz_vec 1 w) (h : pz_rel 1 v w) : ∀ p, 1 ≤ p → p ≤ 1 → w p % 4 = v p % 4 := by
  obtain ⟨d, hd, hwd, hf⟩ := pz_diff hv hw h
  obtain ⟨u1, z1⟩ : ∃ c, d 1 = 8 * c := ⟨_, (Nat.mul_div_cancel' (Nat.dvd_of_mod_eq_zero (pz_s1_1 hf))).symm⟩
  clear hf h hv hw
  intro p h1 h2
  rw [hwd p h1 h2]
  clear hwd
  revert p
  refine pz_case1 ?_
  · skip
    clear hd
    omega
