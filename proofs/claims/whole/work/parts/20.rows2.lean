theorem zb_shl1 {k : Nat} (hk : k < 32) : nI 1 <<< (nI k &&& 31) = nI (2 ^ k) := by rw [zb_shl hk, Nat.one_mul]
/-- a is one of the numbers below n -/
def zw_in (n : Nat) (a : Int32) : Prop := ∃ j : Nat, j < n ∧ a = nI j
theorem zw_neg {n : Nat} {a : Int32} (hn : n < 2 ^ 31) (h : a < 0) : ¬ zw_in n a := fun ⟨j, h1, h2⟩ => nI_pos (n := j) (by omega) (h2 ▸ h)
theorem zw_big {n : Nat} {a : Int32} (hn : n < 2 ^ 31) (h : nI n ≤ a) : ¬ zw_in n a := fun ⟨j, h1, h2⟩ => nI_ge h1 hn (h2 ▸ h)
theorem zw_ok {n : Nat} {a : Int32} (hn : n < 2 ^ 31) (h1 : ¬ a < 0) (h2 : ¬ nI n ≤ a) : zw_in n a := by
  obtain ⟨j, hj, rfl⟩ := nI_of h1
  refine ⟨j, ?_, rfl⟩
  rcases Nat.lt_or_ge j n with q | q
  · exact q
  · exact absurd (nI_le q hj) h2
/-- a is one of the numbers 1 .. K -/
def zw_pa (K : Nat) (a : Int32) : Prop := ∃ j : Nat, 1 ≤ j ∧ j ≤ K ∧ a = nI j
theorem zw_pa_lt {K : Nat} {a : Int32} (hK : K < 2 ^ 31) (h : a < nI 1) : ¬ zw_pa K a := fun ⟨j, h1, h2, h3⟩ => nI_nlt (a := j) (b := 1) h1 (by omega) (h3 ▸ h)
theorem zw_pa_gt {K : Nat} {a : Int32} (hK : K < 2 ^ 31) (h : nI K < a) : ¬ zw_pa K a := fun ⟨j, h1, h2, h3⟩ => nI_nlt (a := K) (b := j) h2 hK (h3 ▸ h)
theorem zw_pa_ok {K : Nat} {a : Int32} (hK : K < 2 ^ 31) (h1 : ¬ a < nI 1) (h2 : ¬ nI K < a) : zw_pa K a := by
  have h0 : ¬ a < 0 := by
    intro q
    apply h1
    rw [Int32.lt_iff_toInt_lt] at q ⊢
    rw [nI_toInt (by decide)]
    rw [Int32.toInt_zero] at q
    omega
  obtain ⟨j, hj, rfl⟩ := nI_of h0
  refine ⟨j, ?_, ?_, rfl⟩
  · rcases Nat.lt_or_ge j 1 with q | q
    · exact absurd (nI_lt q (by decide)) h1
    · exact q
  · rcases Nat.lt_or_ge K j with q | q
    · exact absurd (nI_lt q hj) h2
    · exact q
theorem zw_in_lt {n j : Nat} (h : zw_in n (nI j)) (hn : n < 2 ^ 31) (hj : j < 2 ^ 31) : j < n := by
  obtain ⟨k, h1, h2⟩ := h
  rw [nI_eq hj (by omega)] at h2
  omega
/-- a phase that grows by x, modulo 8 -/
def zt8 (k : Nat) (x : Int32) : Nat := (nI k + x).toBitVec.toNat % 8
theorem zt8_eq (k : Nat) (x : Int32) : (nI k + x) &&& nI 7 = nI (zt8 k x) := pk_and _ 3 rfl
theorem zt8_lt (k : Nat) (x : Int32) : zt8 k x < 8 := Nat.mod_lt _ (by decide)
theorem zf_step {x i : Nat} {g f : Nat → Nat} (h : ∀ j, g j = if j < i then x else f j) : ∀ j, va_up g i x j = if j < i + 1 then x else f j := by
  intro j
  by_cases e : j = i
  · subst e
    rw [va_up_self, if_pos (by omega)]
  · rw [va_up_ne _ _ e, h j]
    by_cases q : j < i
    · rw [if_pos q, if_pos (by omega)]
    · rw [if_neg q, if_neg (by omega)]
theorem zw_le {K : Nat} {x : Int32} (hK : K < 2 ^ 31) (h1 : ¬ x < 0) (h2 : x ≤ nI K) : ∃ j : Nat, j ≤ K ∧ x = nI j := by
  obtain ⟨j, hj, rfl⟩ := nI_of h1
  exact ⟨j, (nI_leI hj hK).mp h2, rfl⟩
/-- the code of a map: the parity of wire w at bit w * n -/
def zc_code (n : Nat) (pa : Nat → Nat) : Nat → Nat
  | 0 => 0
  | w + 1 => zc_code n pa w ||| pa w * 2 ^ (w * n)
/-- how many phases 1 .. k have one of these bits -/
def zc_cnt (ph : Nat → Nat) (bt : Nat) : Nat → Nat
  | 0 => 0
  | k + 1 => zc_cnt ph bt k + (if ph (k + 1) &&& bt = 0 then 0 else 1)
theorem zc_cnt_le (ph : Nat → Nat) (bt : Nat) : ∀ k, zc_cnt ph bt k ≤ k
  | 0 => Nat.le_refl _
  | k + 1 => by
    have := zc_cnt_le ph bt k
    simp only [zc_cnt]
    split <;> omega
theorem zc_cnt0 {ph : Nat → Nat} {bt k : Nat} (h : ph (k + 1) &&& bt = 0) : zc_cnt ph bt (k + 1) = zc_cnt ph bt k := by
  simp only [zc_cnt]
  rw [if_pos h]
  omega
theorem zc_cnt1 {ph : Nat → Nat} {bt k : Nat} (h : 0 < ph (k + 1) &&& bt) : zc_cnt ph bt (k + 1) = zc_cnt ph bt k + 1 := by
  simp only [zc_cnt]
  rw [if_neg (by omega)]
theorem zf_par (k : Nat) : pz_par k < 2 := pz_par_lt k
theorem zf_le {w : Nat → Nat} (x : Nat) (h : ∀ j, w j < 8) : ∀ k, pz_f w x k ≤ 7 * k
  | 0 => Nat.le_refl _
  | k + 1 => by
    have := zf_le x h k
    have a := h (k + 1)
    have b := pz_par_lt ((k + 1) &&& x)
    simp only [pz_f]
    generalize pz_par ((k + 1) &&& x) = c at b ⊢
    rcases (show c = 0 ∨ c = 1 by omega) with rfl | rfl
    · simp only [Nat.zero_mul]; omega
    · simp only [Nat.one_mul]; omega
theorem zf_pow {i : Nat} {g : Nat → Nat} (h : ∀ j, j < i → g j = 2 ^ j) : ∀ j, j < i + 1 → va_up g i (2 ^ i) j = 2 ^ j := by
  intro j hj
  by_cases e : j = i
  · subst e
    rw [va_up_self]
  · rw [va_up_ne _ _ e]
    exact h j (by omega)
theorem zw_14 {x : Int32} (h1 : ¬ x < nI 1) (h2 : x ≤ nI 4) : ∃ j : Nat, 1 ≤ j ∧ j ≤ 4 ∧ x = nI j := by
  refine zw_pa_ok (K := 4) (by decide) h1 (fun q => ?_)
  rw [Int32.lt_iff_toInt_lt] at q
  rw [Int32.le_iff_toInt_le] at h2
  omega
