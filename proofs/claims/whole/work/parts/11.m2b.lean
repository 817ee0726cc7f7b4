/-! all phases of one function are met, by the numbers (k, kk, m), and modulo 4 by the shifts (by wip/tools/gen_m12.py) -/
set_option maxHeartbeats 4000000 in
set_option maxRecDepth 100000 in
theorem pz_full15 {v w : Nat → Nat} (hv : pz_vec 15 v) (hw : pz_vec 15 w) (h : pz_rel 15 v w) : ∃ k kk m, k < 8 ∧ kk < 256 ∧ m < 64 ∧ ∀ p, 1 ≤ p → p ≤ 15 → w p = pz_en v k kk m p := by
  obtain ⟨d, hd, hwd, hf⟩ := pz_diff hv hw h
  obtain ⟨u1, z1⟩ : ∃ c, d 1 + d 3 + d 5 + d 7 + d 9 + d 11 + d 13 + d 15 = 8 * c := ⟨_, (Nat.mul_div_cancel' (Nat.dvd_of_mod_eq_zero (pz_s15_1 hf))).symm⟩
  obtain ⟨u2, z2⟩ : ∃ c, d 2 + d 3 + d 6 + d 7 + d 10 + d 11 + d 14 + d 15 = 8 * c := ⟨_, (Nat.mul_div_cancel' (Nat.dvd_of_mod_eq_zero (pz_s15_2 hf))).symm⟩
  obtain ⟨u3, z3⟩ : ∃ c, d 3 + d 7 + d 11 + d 15 = 4 * c := ⟨_, (Nat.mul_div_cancel' (Nat.dvd_of_mod_eq_zero (pz_s15_3 hf))).symm⟩
  obtain ⟨u4, z4⟩ : ∃ c, d 4 + d 5 + d 6 + d 7 + d 12 + d 13 + d 14 + d 15 = 8 * c := ⟨_, (Nat.mul_div_cancel' (Nat.dvd_of_mod_eq_zero (pz_s15_4 hf))).symm⟩
  obtain ⟨u5, z5⟩ : ∃ c, d 5 + d 7 + d 13 + d 15 = 4 * c := ⟨_, (Nat.mul_div_cancel' (Nat.dvd_of_mod_eq_zero (pz_s15_5 hf))).symm⟩
  obtain ⟨u6, z6⟩ : ∃ c, d 6 + d 7 + d 14 + d 15 = 4 * c := ⟨_, (Nat.mul_div_cancel' (Nat.dvd_of_mod_eq_zero (pz_s15_6 hf))).symm⟩
  obtain ⟨u7, z7⟩ : ∃ c, d 7 + d 15 = 2 * c := ⟨_, (Nat.mul_div_cancel' (Nat.dvd_of_mod_eq_zero (pz_s15_7 hf))).symm⟩
  obtain ⟨u8, z8⟩ : ∃ c, d 8 + d 9 + d 10 + d 11 + d 12 + d 13 + d 14 + d 15 = 8 * c := ⟨_, (Nat.mul_div_cancel' (Nat.dvd_of_mod_eq_zero (pz_s15_8 hf))).symm⟩
  obtain ⟨u9, z9⟩ : ∃ c, d 9 + d 11 + d 13 + d 15 = 4 * c := ⟨_, (Nat.mul_div_cancel' (Nat.dvd_of_mod_eq_zero (pz_s15_9 hf))).symm⟩
  obtain ⟨u10, z10⟩ : ∃ c, d 10 + d 11 + d 14 + d 15 = 4 * c := ⟨_, (Nat.mul_div_cancel' (Nat.dvd_of_mod_eq_zero (pz_s15_10 hf))).symm⟩
  obtain ⟨u11, z11⟩ : ∃ c, d 11 + d 15 = 2 * c := ⟨_, (Nat.mul_div_cancel' (Nat.dvd_of_mod_eq_zero (pz_s15_11 hf))).symm⟩
  obtain ⟨u12, z12⟩ : ∃ c, d 12 + d 13 + d 14 + d 15 = 4 * c := ⟨_, (Nat.mul_div_cancel' (Nat.dvd_of_mod_eq_zero (pz_s15_12 hf))).symm⟩
  obtain ⟨u13, z13⟩ : ∃ c, d 13 + d 15 = 2 * c := ⟨_, (Nat.mul_div_cancel' (Nat.dvd_of_mod_eq_zero (pz_s15_13 hf))).symm⟩
  obtain ⟨u14, z14⟩ : ∃ c, d 14 + d 15 = 2 * c := ⟨_, (Nat.mul_div_cancel' (Nat.dvd_of_mod_eq_zero (pz_s15_14 hf))).symm⟩
  clear hf h hv hw
  obtain ⟨kk, hkk, k0, k1, k2, k3⟩ : ∃ kk, kk < 256 ∧ kk % 4 = u7 % 4 ∧ kk / 4 % 4 = u11 % 4 ∧ kk / 16 % 4 = u13 % 4 ∧ kk / 64 % 4 = u14 % 4 := ⟨1 * (u7 % 4) + 4 * (u11 % 4) + 16 * (u13 % 4) + 64 * (u14 % 4), by omega, by omega, by omega, by omega, by omega⟩
  obtain ⟨m, hm, m0, m1, m2, m3, m4, m5⟩ : ∃ m, m < 64 ∧ m % 2 = u3 % 2 ∧ m / 2 % 2 = u5 % 2 ∧ m / 4 % 2 = u6 % 2 ∧ m / 8 % 2 = u9 % 2 ∧ m / 16 % 2 = u10 % 2 ∧ m / 32 % 2 = u12 % 2 := ⟨1 * (u3 % 2) + 2 * (u5 % 2) + 4 * (u6 % 2) + 8 * (u9 % 2) + 16 * (u10 % 2) + 32 * (u12 % 2), by omega, by omega, by omega, by omega, by omega, by omega, by omega⟩
  refine ⟨d 15, kk, m, hd 15, hkk, hm, fun p h1 h2 => ?_⟩
  rw [hwd p h1 h2]
  unfold pz_en
  rw [k0, k1, k2, k3]
  rw [m0, m1, m2, m3, m4, m5]
  clear hwd k0 k1 k2 k3 hkk m0 m1 m2 m3 m4 m5 hm
  revert p
  refine pz_case15 ?_ ?_ ?_ ?_ ?_ ?_ ?_ ?_ ?_ ?_ ?_ ?_ ?_ ?_ ?_
  · skip
    rw [show pz_g 15 1 = 7 from rfl, show pz_g 7 1 = 1 from rfl, show pz_g 11 1 = 1 from rfl, show pz_g 13 1 = 1 from rfl, show pz_g 14 1 = 0 from rfl, show pz_g 3 1 = 7 from rfl, show pz_g 5 1 = 7 from rfl, show pz_g 6 1 = 0 from rfl, show pz_g 9 1 = 7 from rfl, show pz_g 10 1 = 0 from rfl, show pz_g 12 1 = 0 from rfl]
    clear hd z2 z4 z6 z8 z10 z12 z14
    omega
  · skip
    rw [show pz_g 15 2 = 7 from rfl, show pz_g 7 2 = 1 from rfl, show pz_g 11 2 = 1 from rfl, show pz_g 13 2 = 0 from rfl, show pz_g 14 2 = 1 from rfl, show pz_g 3 2 = 7 from rfl, show pz_g 5 2 = 0 from rfl, show pz_g 6 2 = 7 from rfl, show pz_g 9 2 = 0 from rfl, show pz_g 10 2 = 7 from rfl, show pz_g 12 2 = 0 from rfl]
    clear hd z1 z4 z5 z8 z9 z12 z13
    omega
  · skip
    rw [show pz_g 15 3 = 1 from rfl, show pz_g 7 3 = 7 from rfl, show pz_g 11 3 = 7 from rfl, show pz_g 13 3 = 0 from rfl, show pz_g 14 3 = 0 from rfl, show pz_g 3 3 = 1 from rfl, show pz_g 5 3 = 0 from rfl, show pz_g 6 3 = 0 from rfl, show pz_g 9 3 = 0 from rfl, show pz_g 10 3 = 0 from rfl, show pz_g 12 3 = 0 from rfl]
    clear hd z1 z2 z4 z5 z6 z8 z9 z10 z12 z13 z14
    omega
  · skip
    rw [show pz_g 15 4 = 7 from rfl, show pz_g 7 4 = 1 from rfl, show pz_g 11 4 = 0 from rfl, show pz_g 13 4 = 1 from rfl, show pz_g 14 4 = 1 from rfl, show pz_g 3 4 = 0 from rfl, show pz_g 5 4 = 7 from rfl, show pz_g 6 4 = 7 from rfl, show pz_g 9 4 = 0 from rfl, show pz_g 10 4 = 0 from rfl, show pz_g 12 4 = 7 from rfl]
    clear hd z1 z2 z3 z8 z9 z10 z11
    omega
  · skip
    rw [show pz_g 15 5 = 1 from rfl, show pz_g 7 5 = 7 from rfl, show pz_g 11 5 = 0 from rfl, show pz_g 13 5 = 7 from rfl, show pz_g 14 5 = 0 from rfl, show pz_g 3 5 = 0 from rfl, show pz_g 5 5 = 1 from rfl, show pz_g 6 5 = 0 from rfl, show pz_g 9 5 = 0 from rfl, show pz_g 10 5 = 0 from rfl, show pz_g 12 5 = 0 from rfl]
    clear hd z1 z2 z3 z4 z6 z8 z9 z10 z11 z12 z14
    omega
  · skip
    rw [show pz_g 15 6 = 1 from rfl, show pz_g 7 6 = 7 from rfl, show pz_g 11 6 = 0 from rfl, show pz_g 13 6 = 0 from rfl, show pz_g 14 6 = 7 from rfl, show pz_g 3 6 = 0 from rfl, show pz_g 5 6 = 0 from rfl, show pz_g 6 6 = 1 from rfl, show pz_g 9 6 = 0 from rfl, show pz_g 10 6 = 0 from rfl, show pz_g 12 6 = 0 from rfl]
    clear hd z1 z2 z3 z4 z5 z8 z9 z10 z11 z12 z13
    omega
  · skip
    rw [show pz_g 15 7 = 7 from rfl, show pz_g 7 7 = 1 from rfl, show pz_g 11 7 = 0 from rfl, show pz_g 13 7 = 0 from rfl, show pz_g 14 7 = 0 from rfl, show pz_g 3 7 = 0 from rfl, show pz_g 5 7 = 0 from rfl, show pz_g 6 7 = 0 from rfl, show pz_g 9 7 = 0 from rfl, show pz_g 10 7 = 0 from rfl, show pz_g 12 7 = 0 from rfl]
    clear hd z1 z2 z3 z4 z5 z6 z8 z9 z10 z11 z12 z13 z14
    omega
  · skip
    rw [show pz_g 15 8 = 7 from rfl, show pz_g 7 8 = 0 from rfl, show pz_g 11 8 = 1 from rfl, show pz_g 13 8 = 1 from rfl, show pz_g 14 8 = 1 from rfl, show pz_g 3 8 = 0 from rfl, show pz_g 5 8 = 0 from rfl, show pz_g 6 8 = 0 from rfl, show pz_g 9 8 = 7 from rfl, show pz_g 10 8 = 7 from rfl, show pz_g 12 8 = 7 from rfl]
    clear hd z1 z2 z3 z4 z5 z6 z7
    omega
  · skip
    rw [show pz_g 15 9 = 1 from rfl, show pz_g 7 9 = 0 from rfl, show pz_g 11 9 = 7 from rfl, show pz_g 13 9 = 7 from rfl, show pz_g 14 9 = 0 from rfl, show pz_g 3 9 = 0 from rfl, show pz_g 5 9 = 0 from rfl, show pz_g 6 9 = 0 from rfl, show pz_g 9 9 = 1 from rfl, show pz_g 10 9 = 0 from rfl, show pz_g 12 9 = 0 from rfl]
    clear hd z1 z2 z3 z4 z5 z6 z7 z8 z10 z12 z14
    omega
  · skip
    rw [show pz_g 15 10 = 1 from rfl, show pz_g 7 10 = 0 from rfl, show pz_g 11 10 = 7 from rfl, show pz_g 13 10 = 0 from rfl, show pz_g 14 10 = 7 from rfl, show pz_g 3 10 = 0 from rfl, show pz_g 5 10 = 0 from rfl, show pz_g 6 10 = 0 from rfl, show pz_g 9 10 = 0 from rfl, show pz_g 10 10 = 1 from rfl, show pz_g 12 10 = 0 from rfl]
    clear hd z1 z2 z3 z4 z5 z6 z7 z8 z9 z12 z13
    omega
  · skip
    rw [show pz_g 15 11 = 7 from rfl, show pz_g 7 11 = 0 from rfl, show pz_g 11 11 = 1 from rfl, show pz_g 13 11 = 0 from rfl, show pz_g 14 11 = 0 from rfl, show pz_g 3 11 = 0 from rfl, show pz_g 5 11 = 0 from rfl, show pz_g 6 11 = 0 from rfl, show pz_g 9 11 = 0 from rfl, show pz_g 10 11 = 0 from rfl, show pz_g 12 11 = 0 from rfl]
    clear hd z1 z2 z3 z4 z5 z6 z7 z8 z9 z10 z12 z13 z14
    omega
  · skip
    rw [show pz_g 15 12 = 1 from rfl, show pz_g 7 12 = 0 from rfl, show pz_g 11 12 = 0 from rfl, show pz_g 13 12 = 7 from rfl, show pz_g 14 12 = 7 from rfl, show pz_g 3 12 = 0 from rfl, show pz_g 5 12 = 0 from rfl, show pz_g 6 12 = 0 from rfl, show pz_g 9 12 = 0 from rfl, show pz_g 10 12 = 0 from rfl, show pz_g 12 12 = 1 from rfl]
    clear hd z1 z2 z3 z4 z5 z6 z7 z8 z9 z10 z11
    omega
  · skip
    rw [show pz_g 15 13 = 7 from rfl, show pz_g 7 13 = 0 from rfl, show pz_g 11 13 = 0 from rfl, show pz_g 13 13 = 1 from rfl, show pz_g 14 13 = 0 from rfl, show pz_g 3 13 = 0 from rfl, show pz_g 5 13 = 0 from rfl, show pz_g 6 13 = 0 from rfl, show pz_g 9 13 = 0 from rfl, show pz_g 10 13 = 0 from rfl, show pz_g 12 13 = 0 from rfl]
    clear hd z1 z2 z3 z4 z5 z6 z7 z8 z9 z10 z11 z12 z14
    omega
  · skip
    rw [show pz_g 15 14 = 7 from rfl, show pz_g 7 14 = 0 from rfl, show pz_g 11 14 = 0 from rfl, show pz_g 13 14 = 0 from rfl, show pz_g 14 14 = 1 from rfl, show pz_g 3 14 = 0 from rfl, show pz_g 5 14 = 0 from rfl, show pz_g 6 14 = 0 from rfl, show pz_g 9 14 = 0 from rfl, show pz_g 10 14 = 0 from rfl, show pz_g 12 14 = 0 from rfl]
    clear hd z1 z2 z3 z4 z5 z6 z7 z8 z9 z10 z11 z12 z13
    omega
  · skip
    rw [show pz_g 15 15 = 1 from rfl, show pz_g 7 15 = 0 from rfl, show pz_g 11 15 = 0 from rfl, show pz_g 13 15 = 0 from rfl, show pz_g 14 15 = 0 from rfl, show pz_g 3 15 = 0 from rfl, show pz_g 5 15 = 0 from rfl, show pz_g 6 15 = 0 from rfl, show pz_g 9 15 = 0 from rfl, show pz_g 10 15 = 0 from rfl, show pz_g 12 15 = 0 from rfl]
    clear hd z1 z2 z3 z4 z5 z6 z7 z8 z9 z10 z11 z12 z13 z14
    omega
set_option maxHeartbeats 4000000 in
set_option maxRecDepth 100000 in
theorem pz_full7 {v w : Nat → Nat} (hv : pz_vec 7 v) (hw : pz_vec 7 w) (h : pz_rel 7 v w) : ∃ kk m, kk < 4 ∧ m < 8 ∧ ∀ p, 1 ≤ p → p ≤ 7 → w p = pz_en v 0 kk m p := by
  obtain ⟨d, hd, hwd, hf⟩ := pz_diff hv hw h
  obtain ⟨u1, z1⟩ : ∃ c, d 1 + d 3 + d 5 + d 7 = 8 * c := ⟨_, (Nat.mul_div_cancel' (Nat.dvd_of_mod_eq_zero (pz_s7_1 hf))).symm⟩
  obtain ⟨u2, z2⟩ : ∃ c, d 2 + d 3 + d 6 + d 7 = 8 * c := ⟨_, (Nat.mul_div_cancel' (Nat.dvd_of_mod_eq_zero (pz_s7_2 hf))).symm⟩
  obtain ⟨u3, z3⟩ : ∃ c, d 3 + d 7 = 4 * c := ⟨_, (Nat.mul_div_cancel' (Nat.dvd_of_mod_eq_zero (pz_s7_3 hf))).symm⟩
  obtain ⟨u4, z4⟩ : ∃ c, d 4 + d 5 + d 6 + d 7 = 8 * c := ⟨_, (Nat.mul_div_cancel' (Nat.dvd_of_mod_eq_zero (pz_s7_4 hf))).symm⟩
  obtain ⟨u5, z5⟩ : ∃ c, d 5 + d 7 = 4 * c := ⟨_, (Nat.mul_div_cancel' (Nat.dvd_of_mod_eq_zero (pz_s7_5 hf))).symm⟩
  obtain ⟨u6, z6⟩ : ∃ c, d 6 + d 7 = 4 * c := ⟨_, (Nat.mul_div_cancel' (Nat.dvd_of_mod_eq_zero (pz_s7_6 hf))).symm⟩
  obtain ⟨u7, z7⟩ : ∃ c, d 7 = 2 * c := ⟨_, (Nat.mul_div_cancel' (Nat.dvd_of_mod_eq_zero (pz_s7_7 hf))).symm⟩
  clear hf h hv hw
  obtain ⟨kk, hkk, k0⟩ : ∃ kk, kk < 4 ∧ kk % 4 = u7 % 4 := ⟨1 * (u7 % 4), by omega, by omega⟩
  obtain ⟨m, hm, m0, m1, m2⟩ : ∃ m, m < 8 ∧ m % 2 = u3 % 2 ∧ m / 2 % 2 = u5 % 2 ∧ m / 4 % 2 = u6 % 2 := ⟨1 * (u3 % 2) + 2 * (u5 % 2) + 4 * (u6 % 2), by omega, by omega, by omega, by omega⟩
  refine ⟨kk, m, hkk, hm, fun p h1 h2 => ?_⟩
  rw [hwd p h1 h2]
  unfold pz_en
  rw [k0]
  rw [m0, m1, m2]
  rw [show kk / 4 % 4 = 0 by omega, show kk / 16 % 4 = 0 by omega, show kk / 64 % 4 = 0 by omega]
  rw [show m / 8 % 2 = 0 by omega, show m / 16 % 2 = 0 by omega, show m / 32 % 2 = 0 by omega]
  clear hwd k0 hkk m0 m1 m2 hm
  revert p
  refine pz_case7 ?_ ?_ ?_ ?_ ?_ ?_ ?_
  · skip
    rw [show pz_g 15 1 = 7 from rfl, show pz_g 7 1 = 1 from rfl, show pz_g 11 1 = 1 from rfl, show pz_g 13 1 = 1 from rfl, show pz_g 14 1 = 0 from rfl, show pz_g 3 1 = 7 from rfl, show pz_g 5 1 = 7 from rfl, show pz_g 6 1 = 0 from rfl, show pz_g 9 1 = 7 from rfl, show pz_g 10 1 = 0 from rfl, show pz_g 12 1 = 0 from rfl]
    clear hd z2 z4 z6
    omega
  · skip
    rw [show pz_g 15 2 = 7 from rfl, show pz_g 7 2 = 1 from rfl, show pz_g 11 2 = 1 from rfl, show pz_g 13 2 = 0 from rfl, show pz_g 14 2 = 1 from rfl, show pz_g 3 2 = 7 from rfl, show pz_g 5 2 = 0 from rfl, show pz_g 6 2 = 7 from rfl, show pz_g 9 2 = 0 from rfl, show pz_g 10 2 = 7 from rfl, show pz_g 12 2 = 0 from rfl]
    clear hd z1 z4 z5
    omega
  · skip
    rw [show pz_g 15 3 = 1 from rfl, show pz_g 7 3 = 7 from rfl, show pz_g 11 3 = 7 from rfl, show pz_g 13 3 = 0 from rfl, show pz_g 14 3 = 0 from rfl, show pz_g 3 3 = 1 from rfl, show pz_g 5 3 = 0 from rfl, show pz_g 6 3 = 0 from rfl, show pz_g 9 3 = 0 from rfl, show pz_g 10 3 = 0 from rfl, show pz_g 12 3 = 0 from rfl]
    clear hd z1 z2 z4 z5 z6
    omega
  · skip
    rw [show pz_g 15 4 = 7 from rfl, show pz_g 7 4 = 1 from rfl, show pz_g 11 4 = 0 from rfl, show pz_g 13 4 = 1 from rfl, show pz_g 14 4 = 1 from rfl, show pz_g 3 4 = 0 from rfl, show pz_g 5 4 = 7 from rfl, show pz_g 6 4 = 7 from rfl, show pz_g 9 4 = 0 from rfl, show pz_g 10 4 = 0 from rfl, show pz_g 12 4 = 7 from rfl]
    clear hd z1 z2 z3
    omega
  · skip
    rw [show pz_g 15 5 = 1 from rfl, show pz_g 7 5 = 7 from rfl, show pz_g 11 5 = 0 from rfl, show pz_g 13 5 = 7 from rfl, show pz_g 14 5 = 0 from rfl, show pz_g 3 5 = 0 from rfl, show pz_g 5 5 = 1 from rfl, show pz_g 6 5 = 0 from rfl, show pz_g 9 5 = 0 from rfl, show pz_g 10 5 = 0 from rfl, show pz_g 12 5 = 0 from rfl]
    clear hd z1 z2 z3 z4 z6
    omega
  · skip
    rw [show pz_g 15 6 = 1 from rfl, show pz_g 7 6 = 7 from rfl, show pz_g 11 6 = 0 from rfl, show pz_g 13 6 = 0 from rfl, show pz_g 14 6 = 7 from rfl, show pz_g 3 6 = 0 from rfl, show pz_g 5 6 = 0 from rfl, show pz_g 6 6 = 1 from rfl, show pz_g 9 6 = 0 from rfl, show pz_g 10 6 = 0 from rfl, show pz_g 12 6 = 0 from rfl]
    clear hd z1 z2 z3 z4 z5
    omega
  · skip
    rw [show pz_g 15 7 = 7 from rfl, show pz_g 7 7 = 1 from rfl, show pz_g 11 7 = 0 from rfl, show pz_g 13 7 = 0 from rfl, show pz_g 14 7 = 0 from rfl, show pz_g 3 7 = 0 from rfl, show pz_g 5 7 = 0 from rfl, show pz_g 6 7 = 0 from rfl, show pz_g 9 7 = 0 from rfl, show pz_g 10 7 = 0 from rfl, show pz_g 12 7 = 0 from rfl]
    clear hd z1 z2 z3 z4 z5 z6
    omega
set_option maxHeartbeats 4000000 in
set_option maxRecDepth 100000 in
theorem pz_full3 {v w : Nat → Nat} (hv : pz_vec 3 v) (hw : pz_vec 3 w) (h : pz_rel 3 v w) : ∃ m, m < 2 ∧ ∀ p, 1 ≤ p → p ≤ 3 → w p = pz_en v 0 0 m p := by
  obtain ⟨d, hd, hwd, hf⟩ := pz_diff hv hw h
  obtain ⟨u1, z1⟩ : ∃ c, d 1 + d 3 = 8 * c := ⟨_, (Nat.mul_div_cancel' (Nat.dvd_of_mod_eq_zero (pz_s3_1 hf))).symm⟩
  obtain ⟨u2, z2⟩ : ∃ c, d 2 + d 3 = 8 * c := ⟨_, (Nat.mul_div_cancel' (Nat.dvd_of_mod_eq_zero (pz_s3_2 hf))).symm⟩
  obtain ⟨u3, z3⟩ : ∃ c, d 3 = 4 * c := ⟨_, (Nat.mul_div_cancel' (Nat.dvd_of_mod_eq_zero (pz_s3_3 hf))).symm⟩
  clear hf h hv hw
  obtain ⟨m, hm, m0⟩ : ∃ m, m < 2 ∧ m % 2 = u3 % 2 := ⟨1 * (u3 % 2), by omega, by omega⟩
  refine ⟨m, hm, fun p h1 h2 => ?_⟩
  rw [hwd p h1 h2]
  unfold pz_en
  rw [m0]
  rw [show m / 2 % 2 = 0 by omega, show m / 4 % 2 = 0 by omega, show m / 8 % 2 = 0 by omega, show m / 16 % 2 = 0 by omega, show m / 32 % 2 = 0 by omega]
  clear hwd m0 hm
  revert p
  refine pz_case3 ?_ ?_ ?_
  · skip
    rw [show pz_g 15 1 = 7 from rfl, show pz_g 7 1 = 1 from rfl, show pz_g 11 1 = 1 from rfl, show pz_g 13 1 = 1 from rfl, show pz_g 14 1 = 0 from rfl, show pz_g 3 1 = 7 from rfl, show pz_g 5 1 = 7 from rfl, show pz_g 6 1 = 0 from rfl, show pz_g 9 1 = 7 from rfl, show pz_g 10 1 = 0 from rfl, show pz_g 12 1 = 0 from rfl]
    clear hd z2
    omega
  · skip
    rw [show pz_g 15 2 = 7 from rfl, show pz_g 7 2 = 1 from rfl, show pz_g 11 2 = 1 from rfl, show pz_g 13 2 = 0 from rfl, show pz_g 14 2 = 1 from rfl, show pz_g 3 2 = 7 from rfl, show pz_g 5 2 = 0 from rfl, show pz_g 6 2 = 7 from rfl, show pz_g 9 2 = 0 from rfl, show pz_g 10 2 = 7 from rfl, show pz_g 12 2 = 0 from rfl]
    clear hd z1
    omega
  · skip
    rw [show pz_g 15 3 = 1 from rfl, show pz_g 7 3 = 7 from rfl, show pz_g 11 3 = 7 from rfl, show pz_g 13 3 = 0 from rfl, show pz_g 14 3 = 0 from rfl, show pz_g 3 3 = 1 from rfl, show pz_g 5 3 = 0 from rfl, show pz_g 6 3 = 0 from rfl, show pz_g 9 3 = 0 from rfl, show pz_g 10 3 = 0 from rfl, show pz_g 12 3 = 0 from rfl]
    clear hd z1 z2
    omega
set_option maxHeartbeats 4000000 in
set_option maxRecDepth 100000 in
theorem pz_full1 {v w : Nat → Nat} (hv : pz_vec 1 v) (hw : pz_vec 1 w) (h : pz_rel 1 v w) : ∀ p, 1 ≤ p → p ≤ 1 → w p = pz_en v 0 0 0 p := by
  obtain ⟨d, hd, hwd, hf⟩ := pz_diff hv hw h
  obtain ⟨u1, z1⟩ : ∃ c, d 1 = 8 * c := ⟨_, (Nat.mul_div_cancel' (Nat.dvd_of_mod_eq_zero (pz_s1_1 hf))).symm⟩
  clear hf h hv hw
  refine fun p h1 h2 => ?_
  rw [hwd p h1 h2]
  unfold pz_en
  clear hwd
  revert p
  refine pz_case1 ?_
  · skip
    rw [show pz_g 15 1 = 7 from rfl, show pz_g 7 1 = 1 from rfl, show pz_g 11 1 = 1 from rfl, show pz_g 13 1 = 1 from rfl, show pz_g 14 1 = 0 from rfl, show pz_g 3 1 = 7 from rfl, show pz_g 5 1 = 7 from rfl, show pz_g 6 1 = 0 from rfl, show pz_g 9 1 = 7 from rfl, show pz_g 10 1 = 0 from rfl, show pz_g 12 1 = 0 from rfl]
    clear hd
    omega
