/-! LOOK and what goes through the ways: the pure side of the reference's least -/
/-- how many sets 1 .. k have mn inputs -/
def zms (mn : Nat) : Nat → Nat
  | 0 => 0
  | k + 1 => zms mn k + (if zo (k + 1) = mn then 1 else 0)
theorem zms1 {mn i : Nat} (h : zo (i + 1) = mn) : nI (zms mn i) + nI 1 = nI (zms mn (i + 1)) := by
  rw [nI_add]
  simp only [zms, if_pos h]
theorem zms0 {mn i : Nat} (h : ¬ zo (i + 1) = mn) : nI (zms mn i) + nI 0 = nI (zms mn (i + 1)) := by
  rw [nI_add]
  simp only [zms, if_neg h]
theorem zms1' {mn i : Nat} (h : zo (i + 1) = mn) : zms mn (i + 1) = zms mn i + 1 := by
  simp only [zms, if_pos h]
theorem zms0' {mn i : Nat} (h : ¬ zo (i + 1) = mn) : zms mn (i + 1) = zms mn i := by
  simp only [zms, if_neg h, Nat.add_zero]
theorem zms_le (mn : Nat) : ∀ k, zms mn k ≤ k
  | 0 => Nat.le_refl _
  | k + 1 => by
    have := zms_le mn k
    simp only [zms]
    split <;> omega
/-- the sets of two and of three inputs, in order -/
def zs2 (j : Nat) : Nat := if j = 0 then 3 else if j = 1 then 5 else if j = 2 then 6 else if j = 3 then 9 else if j = 4 then 10 else 12
def zs3 (j : Nat) : Nat := if j = 0 then 7 else if j = 1 then 11 else if j = 2 then 13 else 14
theorem zs2_of : ∀ p, p < 16 → ∀ j, j < 6 → 1 ≤ p → zo p = 2 → zms 2 (p - 1) = j → p = zs2 j := by decide +kernel
theorem zs3_of : ∀ p, p < 16 → ∀ j, j < 4 → 1 ≤ p → zo p = 3 → zms 3 (p - 1) = j → p = zs3 j := by decide +kernel
theorem zs2_lt (j : Nat) : zs2 j < 16 := by unfold zs2; (repeat' split) <;> decide
theorem zs3_lt (j : Nat) : zs3 j < 16 := by unfold zs3; (repeat' split) <;> decide
theorem zms_n {n : Nat} (h1 : 1 ≤ n) (hn : n ≤ 4) : (n = 1 ∧ zms 2 (2 ^ n - 1) = 0 ∧ zms 3 (2 ^ n - 1) = 0) ∨ (n = 2 ∧ zms 2 (2 ^ n - 1) = 1 ∧ zms 3 (2 ^ n - 1) = 0) ∨ (n = 3 ∧ zms 2 (2 ^ n - 1) = 3 ∧ zms 3 (2 ^ n - 1) = 1) ∨ (n = 4 ∧ zms 2 (2 ^ n - 1) = 6 ∧ zms 3 (2 ^ n - 1) = 4) := by
  rcases (show n = 1 ∨ n = 2 ∨ n = 3 ∨ n = 4 by omega) with rfl | rfl | rfl | rfl <;> decide +kernel
theorem zms_2 {n : Nat} (h1 : 1 ≤ n) (hn : n ≤ 4) : zms 2 (2 ^ n - 1) ≤ 6 ∧ zms 3 (2 ^ n - 1) ≤ 4 := by
  rcases zms_n h1 hn with ⟨-, a, b⟩ | ⟨-, a, b⟩ | ⟨-, a, b⟩ | ⟨-, a, b⟩ <;> omega
/-- t more times what belongs to the set s -/
def zaw (s t K : Nat) (f : Nat → Nat) : Nat → Nat := fun j => if 1 ≤ j ∧ j ≤ K ∧ j &&& s = j then (f j + t * pz_g s j) % 8 else f j
theorem zaw_s (s t : Nat) (f : Nat → Nat) : zaw s t 0 f = f := by
  funext j
  unfold zaw
  rw [if_neg (by omega)]
theorem zaw_c1 : ∀ p, p < 16 → ∀ s, s < 16 → (p &&& (s ^^^ 4294967295) = 0 ↔ p &&& s = p) := by decide +kernel
theorem zaw_c2 : ∀ p, p < 16 → ∀ s, s < 16 → p &&& s = p → zo (s &&& (p ^^^ 4294967295)) % 2 = pz_par (s ^^^ p) := by decide +kernel
theorem zaw_at {s t i : Nat} {f : Nat → Nat} : zaw s t i f (i + 1) = f (i + 1) := by
  unfold zaw
  rw [if_neg (by omega)]
theorem zaw0 {s t i : Nat} {f : Nat → Nat} (hi : i + 1 < 16) (hs : s < 16) (h : 0 < (i + 1) &&& (s ^^^ 4294967295)) : zaw s t i f = zaw s t (i + 1) f := by
  have h' : ¬ (i + 1) &&& s = i + 1 := fun q => by
    have := (zaw_c1 (i + 1) hi s hs).mpr q
    omega
  funext j
  unfold zaw
  by_cases e : j = i + 1
  · subst e
    rw [if_neg (by omega), if_neg (fun q => h' q.2.2)]
  · by_cases q : 1 ≤ j ∧ j ≤ i ∧ j &&& s = j
    · rw [if_pos q, if_pos ⟨q.1, by omega, q.2.2⟩]
    · rw [if_neg q, if_neg (fun r => q ⟨r.1, by omega, r.2.2⟩)]
theorem zaw1 {s t i y : Nat} {f : Nat → Nat} (hi : i + 1 < 16) (hs : s < 16) (h : (i + 1) &&& (s ^^^ 4294967295) = 0) (hy : y = (f (i + 1) + t * pz_g s (i + 1)) % 8) : va_up (zaw s t i f) (i + 1) y = zaw s t (i + 1) f := by
  have h' := (zaw_c1 (i + 1) hi s hs).mp h
  funext j
  by_cases e : j = i + 1
  · subst e
    rw [va_up_self, hy]
    unfold zaw
    rw [if_pos ⟨by omega, Nat.le_refl _, h'⟩]
  · rw [va_up_ne _ _ e]
    unfold zaw
    by_cases q : 1 ≤ j ∧ j ≤ i ∧ j &&& s = j
    · rw [if_pos q, if_pos ⟨q.1, by omega, q.2.2⟩]
    · rw [if_neg q, if_neg (fun r => q ⟨r.1, by omega, r.2.2⟩)]
theorem zaw_p {s t i : Nat} {f : Nat → Nat} {x : Int32} (hi : i + 1 < 16) (hs : s < 16) (h : (i + 1) &&& (s ^^^ 4294967295) = 0) (h2 : zo (s &&& ((i + 1) ^^^ 4294967295)) % 2 = 0) (hp : ∀ k, zt8 k x = (k + t) % 8) : va_up (zaw s t i f) (i + 1) (zt8 (zaw s t i f (i + 1)) x) = zaw s t (i + 1) f := by
  have h' := (zaw_c1 (i + 1) hi s hs).mp h
  rw [zaw_c2 (i + 1) hi s hs h'] at h2
  refine zaw1 hi hs h ?_
  rw [hp, zaw_at]
  unfold pz_g
  rw [if_pos h', if_pos h2, Nat.mul_one]
theorem zaw_m {s t i : Nat} {f : Nat → Nat} {x : Int32} (hi : i + 1 < 16) (hs : s < 16) (h : (i + 1) &&& (s ^^^ 4294967295) = 0) (h2 : 0 < zo (s &&& ((i + 1) ^^^ 4294967295)) % 2) (hp : ∀ k, zt8 k (-x) = (k + 7 * t) % 8) : va_up (zaw s t i f) (i + 1) (zt8 (zaw s t i f (i + 1)) (-x)) = zaw s t (i + 1) f := by
  have h' := (zaw_c1 (i + 1) hi s hs).mp h
  rw [zaw_c2 (i + 1) hi s hs h'] at h2
  refine zaw1 hi hs h ?_
  rw [hp, zaw_at]
  unfold pz_g
  rw [if_pos h', if_neg (by omega), Nat.mul_comm]
theorem zaw_as {s t K : Nat} {f : Nat → Nat} (h8 : ∀ j, f j < 8) : ∀ p, 1 ≤ p → p ≤ K → zaw s t K f p = (f p + t * pz_g s p) % 8 := by
  intro p h1 h2
  unfold zaw
  by_cases e : p &&& s = p
  · rw [if_pos ⟨h1, h2, e⟩]
  · rw [if_neg (fun q => e q.2.2)]
    have : pz_g s p = 0 := by
      unfold pz_g
      rw [if_neg e]
    rw [this, Nat.mul_zero, Nat.add_zero, Nat.mod_eq_of_lt (h8 p)]
theorem zaw_8 {s t K : Nat} {f : Nat → Nat} (h8 : ∀ j, f j < 8) : ∀ j, zaw s t K f j < 8 := by
  intro j
  unfold zaw
  split
  · exact Nat.mod_lt _ (by decide)
  · exact h8 j
theorem zt8_as (k : Nat) (x : Int32) : zt8 k x = (k + x.toBitVec.toNat) % 8 := by
  unfold zt8
  rw [Int32.toBitVec_add, BitVec.toNat_add, zb_tb, BitVec.toNat_ofNat]
  omega
theorem zt8_n (k t : Nat) : zt8 k (nI t) = (k + t) % 8 := by
  rw [zt8_as, zb_tb, BitVec.toNat_ofNat]
  omega
theorem zt8_neg {x : Int32} {t : Nat} (k : Nat) (h : x.toBitVec.toNat % 8 = t % 8) : zt8 k (-x) = (k + 7 * t) % 8 := by
  rw [zt8_as, Int32.toBitVec_neg, BitVec.toNat_neg]
  have := x.toBitVec.isLt
  omega
theorem zt8_pos {x : Int32} {t : Nat} (k : Nat) (h : x.toBitVec.toNat % 8 = t % 8) : zt8 k x = (k + t) % 8 := by
  rw [zt8_as]
  omega
theorem zt8_nn (t : Nat) : (nI t).toBitVec.toNat % 8 = t % 8 := by
  rw [zb_tb, BitVec.toNat_ofNat]
  omega
theorem zt8_m2 : ∀ d, d < 4 → ((-2 : Int32) * nI d).toBitVec.toNat % 8 = 6 * d % 8 := by decide +kernel
/-- the same on 1 .. K -/
def zsm (K : Nat) (v w : Nat → Nat) : Prop := ∀ p, 1 ≤ p → p ≤ K → w p = v p
theorem pz_nz1 {w : Nat → Nat} {i : Nat} (h : 0 < w (i + 1)) : nI (pz_nz w i) + nI 1 = nI (pz_nz w (i + 1)) := by
  rw [nI_add]
  simp only [pz_nz, if_neg (show ¬ w (i + 1) = 0 by omega)]
theorem pz_nz0 {w : Nat → Nat} {i : Nat} (h : w (i + 1) = 0) : nI (pz_nz w i) + nI 0 = nI (pz_nz w (i + 1)) := by
  rw [nI_add]
  simp only [pz_nz, if_pos h]
theorem zsm_od {K : Nat} {v w : Nat → Nat} (h : zsm K v w) : pz_odd w K = pz_odd v K ∧ pz_nz w K = pz_nz v K ∧ pz_num w K = pz_num v K :=
  ⟨pz_odd_congr K (fun p a b => by rw [h p a b]), pz_nz_congr K (fun p a b => h p a b), pz_num_congr K (fun p a b => h p a b)⟩
theorem zlk_keep {K : Nat} {S : (Nat → Nat) → Prop} {b nw : Nat → Nat} {o f : Nat} (hK : K < 16) (h : pz_st K S 16 b o f) (hc : o < pz_odd nw K ∨ o = pz_odd nw K ∧ (f < pz_nz nw K ∨ f = pz_nz nw K ∧ pz_num b K ≤ pz_num nw K)) : pz_st K (fun w => S w ∨ zsm K nw w) 16 b o f := by
  have h1 := pz_odd_le nw K
  rcases h with ⟨rfl, rfl, h⟩ | ⟨h2, rfl, rfl, h4⟩
  · exact absurd hc (by omega)
  · refine Or.inr ⟨Or.inl h2, rfl, rfl, fun w hw => ?_⟩
    rcases hw with hw | hw
    · exact h4 w hw
    · obtain ⟨a, c, d⟩ := zsm_od hw
      rw [a, c, d]
      exact hc
theorem zlk_take {K : Nat} {S : (Nat → Nat) → Prop} {b b' nw : Nat → Nat} {o f : Nat} (h : pz_st K S 16 b o f) (hc : pz_odd nw K < o ∨ pz_odd nw K = o ∧ (pz_nz nw K < f ∨ pz_nz nw K = f ∧ pz_num nw K < pz_num b K)) (hb : zsm K nw b') : pz_st K (fun w => S w ∨ zsm K nw w) 16 b' (pz_odd nw K) (pz_nz nw K) := by
  obtain ⟨b1, b2, b3⟩ := zsm_od hb
  refine Or.inr ⟨Or.inr hb, b1.symm, b2.symm, fun w hw => ?_⟩
  rw [b1, b2, b3]
  rcases hw with hw | hw
  · rcases h with ⟨-, -, h⟩ | ⟨-, rfl, rfl, h4⟩
    · exact absurd hw (h w)
    · have := h4 w hw
      omega
  · obtain ⟨a, c, d⟩ := zsm_od hw
    rw [a, c, d]
    exact Or.inr ⟨rfl, Or.inr ⟨rfl, Nat.le_refl _⟩⟩
theorem zlk_ge {K q : Nat} {b nw : Nat → Nat} (hb : ∀ j, b j < 8) (hw : ∀ j, nw j < 8) (h1 : 1 ≤ q) (h2 : q ≤ K) (he : ∀ r, 1 ≤ r → r < q → nw r = b r) (h : b q ≤ nw q) (ho : q = K ∨ ¬ nw q = b q) : pz_num b K ≤ pz_num nw K := by
  by_cases e : nw q = b q
  · rcases ho with rfl | ho
    · refine Nat.le_of_eq (pz_num_congr q (fun p a c => ?_))
      by_cases e2 : p = q
      · rw [e2, e]
      · exact (he p a (by omega)).symm
    · exact absurd e ho
  · exact Nat.le_of_lt (pz_num_first (fun p _ _ => hb p) (fun p _ _ => hw p) h1 h2 (fun r a c => (he r a c).symm) (by omega))
theorem zlk_lt {K q : Nat} {b nw : Nat → Nat} (hb : ∀ j, b j < 8) (hw : ∀ j, nw j < 8) (h1 : 1 ≤ q) (h2 : q ≤ K) (he : ∀ r, 1 ≤ r → r < q → nw r = b r) (h : nw q < b q) : pz_num nw K < pz_num b K :=
  pz_num_first (fun p _ _ => hw p) (fun p _ _ => hb p) h1 h2 he h
theorem zlk_eqs {q : Nat} {b nw : Nat → Nat} (he : ∀ r, 1 ≤ r → r < q → nw r = b r) (h : nw q = b q) : ∀ r, 1 ≤ r → r < q + 1 → nw r = b r := by
  intro r a c
  by_cases e : r = q
  · rw [e, h]
  · exact he r a (by omega)
theorem zlk_cp {i : Nat} {b nw b0 : Nat → Nat} (h : ∀ j, b j = if 1 ≤ j ∧ j ≤ i then nw j else b0 j) : ∀ j, va_up b (i + 1) (nw (i + 1)) j = if 1 ≤ j ∧ j ≤ i + 1 then nw j else b0 j := by
  intro j
  by_cases e : j = i + 1
  · subst e
    rw [va_up_self, if_pos ⟨by omega, Nat.le_refl _⟩]
  · rw [va_up_ne _ _ e, h]
    by_cases q : 1 ≤ j ∧ j ≤ i
    · rw [if_pos q, if_pos ⟨q.1, by omega⟩]
    · rw [if_neg q, if_neg (by omega)]
theorem zlk_8 {i : Nat} {b nw b0 : Nat → Nat} (h : ∀ j, b j = if 1 ≤ j ∧ j ≤ i then nw j else b0 j) (h1 : ∀ j, nw j < 8) (h2 : ∀ j, b0 j < 8) : ∀ j, b j < 8 := by
  intro j
  rw [h]
  split
  · exact h1 j
  · exact h2 j
