/-! the ways that the reference goes through -/
theorem zbit6 : ∀ m, m < 64 → ∀ j, j < 6 → ∀ i, i < 6 → (m ^^^ 2 ^ j) / 2 ^ i % 2 = if i = j then 1 - m / 2 ^ i % 2 else m / 2 ^ i % 2 := by decide +kernel
theorem zen_flip {a b g : Nat} (hb : b < 2) : (a + 4 * (1 - b) * g) % 8 = (a + 4 * b * g + 4 * g) % 8 := by
  rcases (show b = 0 ∨ b = 1 by omega) with rfl | rfl
  · simp
  · simp only [Nat.sub_self, Nat.mul_zero, Nat.zero_mul, Nat.mul_one, Nat.add_zero]
    omega
theorem zen_as (v : Nat → Nat) (m p : Nat) : pz_en v 0 0 m p = (v p + 4 * (m / 2 ^ 0 % 2) * pz_g 3 p + 4 * (m / 2 ^ 1 % 2) * pz_g 5 p + 4 * (m / 2 ^ 2 % 2) * pz_g 6 p + 4 * (m / 2 ^ 3 % 2) * pz_g 9 p + 4 * (m / 2 ^ 4 % 2) * pz_g 10 p + 4 * (m / 2 ^ 5 % 2) * pz_g 12 p) % 8 := by
  unfold pz_en
  simp only [Nat.zero_mul, Nat.zero_mod, Nat.zero_div, Nat.mul_zero, Nat.add_zero, Nat.pow_zero, Nat.div_one]
theorem zen_step {v : Nat → Nat} {m j p : Nat} (hm : m < 64) (hj : j < 6) : pz_en v 0 0 (m ^^^ 2 ^ j) p = (pz_en v 0 0 m p + 4 * pz_g (zs2 j) p) % 8 := by
  have hb := zbit6 m hm j hj
  rw [zen_as, zen_as, hb 0 (by decide), hb 1 (by decide), hb 2 (by decide), hb 3 (by decide), hb 4 (by decide), hb 5 (by decide)]
  clear hb
  have hl : ∀ i, m / 2 ^ i % 2 < 2 := fun i => Nat.mod_lt _ (by decide)
  generalize hB : (fun i => m / 2 ^ i % 2) = B at hl
  have e : ∀ i, m / 2 ^ i % 2 = B i := fun i => congrFun hB i
  rw [e, e, e, e, e, e]
  have f0 := hl 0
  have f1 := hl 1
  have f2 := hl 2
  have f3 := hl 3
  have f4 := hl 4
  have f5 := hl 5
  rw [e] at f0 f1 f2 f3 f4 f5
  clear e hB hl
  generalize B 0 = b0 at f0 ⊢
  generalize B 1 = b1 at f1 ⊢
  generalize B 2 = b2 at f2 ⊢
  generalize B 3 = b3 at f3 ⊢
  generalize B 4 = b4 at f4 ⊢
  generalize B 5 = b5 at f5 ⊢
  rcases (show j = 0 ∨ j = 1 ∨ j = 2 ∨ j = 3 ∨ j = 4 ∨ j = 5 by omega) with rfl | rfl | rfl | rfl | rfl | rfl
  · have := zen_flip (a := 0) (g := pz_g 3 p) f0
    simp only [zs2, if_true, if_false, Nat.reduceEqDiff] at this ⊢
    omega
  · have := zen_flip (a := 0) (g := pz_g 5 p) f1
    simp only [zs2, if_true, if_false, Nat.reduceEqDiff] at this ⊢
    omega
  · have := zen_flip (a := 0) (g := pz_g 6 p) f2
    simp only [zs2, if_true, if_false, Nat.reduceEqDiff] at this ⊢
    omega
  · have := zen_flip (a := 0) (g := pz_g 9 p) f3
    simp only [zs2, if_true, if_false, Nat.reduceEqDiff] at this ⊢
    omega
  · have := zen_flip (a := 0) (g := pz_g 10 p) f4
    simp only [zs2, if_true, if_false, Nat.reduceEqDiff] at this ⊢
    omega
  · have := zen_flip (a := 0) (g := pz_g 12 p) f5
    simp only [zs2, if_true, if_false, Nat.reduceEqDiff] at this ⊢
    omega
theorem zen_0 {v : Nat → Nat} {p : Nat} (h : v p < 8) : pz_en v 0 0 0 p = v p := by
  unfold pz_en
  simp only [Nat.zero_mul, Nat.zero_mod, Nat.zero_div, Nat.mul_zero, Nat.add_zero]
  exact Nat.mod_eq_of_lt h
theorem zgr_lt {x j c : Nat} (h : 0 < x / 2 ^ j % 2) (hx : x < 2 ^ c) : j < c := by
  rcases Nat.lt_or_ge j c with q | q
  · exact q
  · have := Nat.pow_le_pow_right (n := 2) (by decide) q
    rw [Nat.div_eq_of_lt (by omega)] at h
    exact absurd h (by decide)
theorem zgr_ex : ∀ c, c < 7 → ∀ x, x < 2 ^ c → 0 < x → ∃ i, i < c ∧ x / 2 ^ i % 2 = 1 := by decide +kernel
theorem zgr_in {x c j : Nat} (hc : c < 7) (h0 : 0 < x) (hx : x < 2 ^ c) (hj : j < c) (h : ∀ i, i < j + 1 → x / 2 ^ i % 2 = 0) : j + 1 < c := by
  obtain ⟨i, h1, h2⟩ := zgr_ex c hc x hx h0
  rcases Nat.lt_or_ge i (j + 1) with q | q
  · rw [h i q] at h2
    exact absurd h2 (by decide)
  · omega
theorem zgr_ext {x j : Nat} (h : ∀ i, i < j → x / 2 ^ i % 2 = 0) (h2 : x / 2 ^ j % 2 = 0) : ∀ i, i < j + 1 → x / 2 ^ i % 2 = 0 := by
  intro i hi
  by_cases e : i = j
  · rw [e, h2]
  · exact h i (by omega)
theorem zgr_st : ∀ k, k < 63 → ∀ j, j < 6 → (∀ i, i < j → (k + 1) / 2 ^ i % 2 = 0) → 0 < (k + 1) / 2 ^ j % 2 → zf_gray (k + 1) = zf_gray k ^^^ 2 ^ j := by decide +kernel
theorem zgr_64 : ∀ k, k < 64 → zf_gray k < 64 := by decide +kernel
theorem zgr_end : ∀ c, c < 7 → 0 < c → zf_gray (2 ^ c - 1) ^^^ 2 ^ (c - 1) = 0 := by decide +kernel
theorem zgr_all : ∀ c, c < 7 → ∀ m, m < 2 ^ c → ∃ i, i < 2 ^ c ∧ zf_gray i = m := by decide +kernel
theorem zgr_in2 : ∀ c, c < 7 → ∀ i, i < 2 ^ c → zf_gray i < 2 ^ c := by decide +kernel
theorem zp64 {c : Nat} (h : c < 7) : 2 ^ c ≤ 64 := (Nat.pow_le_pow_right (by decide) (show c ≤ 6 by omega) : 2 ^ c ≤ 2 ^ 6)
/-- one step of the twos -/
theorem ztw_step {K k j : Nat} {nw nc : Nat → Nat} (hk : k < 63) (hj : j < 6) (hz : ∀ i, i < j → (k + 1) / 2 ^ i % 2 = 0) (hb : 0 < (k + 1) / 2 ^ j % 2) (h8 : ∀ j, nc j < 8) (h : ∀ p, 1 ≤ p → p ≤ K → nc p = pz_en nw 0 0 (zf_gray k) p) : ∀ p, 1 ≤ p → p ≤ K → zaw (zs2 j) 4 K nc p = pz_en nw 0 0 (zf_gray (k + 1)) p := by
  intro p a b
  rw [zaw_as h8 p a b, zgr_st k hk j hj hz hb, zen_step (zgr_64 k (by omega)) hj, ← h p a b]
theorem ztw_end {K c : Nat} {nw nc : Nat → Nat} (hc : c < 7) (h0 : 0 < c) (hw : ∀ j, nw j < 8) (h8 : ∀ j, nc j < 8) (h : ∀ p, 1 ≤ p → p ≤ K → nc p = pz_en nw 0 0 (zf_gray (2 ^ c - 1)) p) : ∀ p, 1 ≤ p → p ≤ K → zaw (zs2 (c - 1)) 4 K nc p = nw p := by
  intro p a b
  have := zp64 hc
  have := Nat.two_pow_pos c
  rw [zaw_as h8 p a b, h p a b, ← zen_step (zgr_64 _ (by omega)) (by omega), zgr_end c hc h0, zen_0 (hw p)]
theorem zsm_tr {K : Nat} {u v w : Nat → Nat} (h : ∀ p, 1 ≤ p → p ≤ K → v p = u p) : zsm K v w ↔ zsm K u w :=
  ⟨fun q p a b => (q p a b).trans (h p a b), fun q p a b => (q p a b).trans (h p a b).symm⟩
theorem ztw_S0 {K : Nat} {S : (Nat → Nat) → Prop} {nw : Nat → Nat} (h8 : ∀ j, nw j < 8) : ∀ w, (S w ∨ zsm K nw w) ↔ (S w ∨ ∃ i, i ≤ 0 ∧ zsm K (pz_en nw 0 0 (zf_gray i)) w) := by
  intro w
  have e := zsm_tr (K := K) (u := nw) (v := pz_en nw 0 0 (zf_gray 0)) (w := w) (fun p _ _ => zen_0 (h8 p))
  refine or_congr Iff.rfl ⟨fun h => ⟨0, Nat.le_refl _, e.mpr h⟩, fun ⟨i, hi, h⟩ => ?_⟩
  obtain rfl : i = 0 := by omega
  exact e.mp h
theorem ztw_S1 {K k : Nat} {S : (Nat → Nat) → Prop} {nw nc : Nat → Nat} (h : ∀ p, 1 ≤ p → p ≤ K → nc p = pz_en nw 0 0 (zf_gray (k + 1)) p) : ∀ w, ((S w ∨ ∃ i, i ≤ k ∧ zsm K (pz_en nw 0 0 (zf_gray i)) w) ∨ zsm K nc w) ↔ (S w ∨ ∃ i, i ≤ k + 1 ∧ zsm K (pz_en nw 0 0 (zf_gray i)) w) := by
  intro w
  rw [zsm_tr h]
  constructor
  · rintro ((q | ⟨i, hi, q⟩) | q)
    · exact Or.inl q
    · exact Or.inr ⟨i, by omega, q⟩
    · exact Or.inr ⟨k + 1, Nat.le_refl _, q⟩
  · rintro (q | ⟨i, hi, q⟩)
    · exact Or.inl (Or.inl q)
    · by_cases e : i = k + 1
      · subst e
        exact Or.inr q
      · exact Or.inl (Or.inr ⟨i, by omega, q⟩)
theorem ztw_Sn {K k c : Nat} {S : (Nat → Nat) → Prop} {nw : Nat → Nat} (hc : c < 7) (hk : k + 1 = 2 ^ c) : ∀ w, (S w ∨ ∃ i, i ≤ k ∧ zsm K (pz_en nw 0 0 (zf_gray i)) w) ↔ (S w ∨ ∃ m, m < 2 ^ c ∧ zsm K (pz_en nw 0 0 m) w) := by
  intro w
  refine or_congr Iff.rfl ⟨fun ⟨i, hi, h⟩ => ⟨_, zgr_in2 c hc i (by omega), h⟩, fun ⟨m, hm, h⟩ => ?_⟩
  obtain ⟨i, h1, rfl⟩ := zgr_all c hc m hm
  exact ⟨i, by omega, h⟩
/-- the threes -/
def zG (kk : Nat) : Nat → Nat → Nat
  | 0, _ => 0
  | j + 1, p => zG kk j p + 2 * (kk / 2 ^ (2 * j) % 4) * pz_g (zs3 j) p
theorem zth_up {K kk j : Nat} {nw nc : Nat → Nat} (h8 : ∀ j, nc j < 8) (h : ∀ p, 1 ≤ p → p ≤ K → nc p = (nw p + zG kk j p) % 8) : ∀ p, 1 ≤ p → p ≤ K → zaw (zs3 j) (2 * (kk / 2 ^ (2 * j) % 4)) K nc p = (nw p + zG kk (j + 1) p) % 8 := by
  intro p a b
  rw [zaw_as h8 p a b, h p a b]
  simp only [zG]
  omega
theorem zth_dn {K kk j c : Nat} {nw nc : Nat → Nat} (h8 : ∀ j, nc j < 8) (h : ∀ p, 1 ≤ p → p ≤ K → nc p = (nw p + zG kk c p + 3 * zG kk j p) % 8) : ∀ p, 1 ≤ p → p ≤ K → zaw (zs3 j) (6 * (kk / 2 ^ (2 * j) % 4)) K nc p = (nw p + zG kk c p + 3 * zG kk (j + 1) p) % 8 := by
  intro p a b
  rw [zaw_as h8 p a b, h p a b]
  simp only [zG]
  rw [show 6 * (kk / 2 ^ (2 * j) % 4) * pz_g (zs3 j) p = 3 * (2 * (kk / 2 ^ (2 * j) % 4) * pz_g (zs3 j) p) by rw [← Nat.mul_assoc, ← Nat.mul_assoc]]
  omega
theorem zG_2 (kk : Nat) (p : Nat) : ∀ j, zG kk j p % 2 = 0
  | 0 => rfl
  | j + 1 => by
    have := zG_2 kk p j
    simp only [zG, Nat.mul_assoc]
    omega
theorem zth_end {K kk c : Nat} {nw nc : Nat → Nat} (hw : ∀ j, nw j < 8) (h : ∀ p, 1 ≤ p → p ≤ K → nc p = (nw p + zG kk c p + 3 * zG kk c p) % 8) : ∀ p, 1 ≤ p → p ≤ K → nc p = nw p := by
  intro p a b
  have := zG_2 kk p c
  have := hw p
  rw [h p a b]
  omega
theorem zen_th {K kk c m : Nat} {nw nc : Nat → Nat} (hc : c = 0 ∨ c = 1 ∨ c = 4) (hk : kk < 2 ^ (2 * c)) (h : ∀ p, 1 ≤ p → p ≤ K → nc p = (nw p + zG kk c p) % 8) : ∀ p, 1 ≤ p → p ≤ K → pz_en nc 0 0 m p = pz_en nw 0 kk m p := by
  intro p a b
  have e := h p a b
  unfold pz_en
  rcases hc with rfl | rfl | rfl
  · obtain rfl : kk = 0 := by simpa using hk
    simp only [zG] at e
    rw [e]
    omega
  · have h1 : kk / 4 = 0 := Nat.div_eq_of_lt (by simpa using hk)
    have h2 : kk / 16 = 0 := Nat.div_eq_of_lt (by have : kk < 4 := by simpa using hk
                                                  omega)
    have h3 : kk / 64 = 0 := Nat.div_eq_of_lt (by have : kk < 4 := by simpa using hk
                                                  omega)
    have e' : nc p = (nw p + (0 + 2 * (kk % 4) * pz_g 7 p)) % 8 := by
      simpa [zG, zs3] using e
    rw [e', h1, h2, h3]
    simp only [Nat.zero_mod, Nat.mul_zero, Nat.zero_mul, Nat.add_zero, Nat.zero_div]
    omega
  · have e' : nc p = (nw p + (0 + 2 * (kk % 4) * pz_g 7 p + 2 * (kk / 4 % 4) * pz_g 11 p + 2 * (kk / 16 % 4) * pz_g 13 p + 2 * (kk / 64 % 4) * pz_g 14 p)) % 8 := by
      simpa [zG, zs3] using e
    rw [e']
    simp only [Nat.zero_mod, Nat.mul_zero, Nat.zero_mul, Nat.add_zero, Nat.zero_div]
    omega
theorem zth_S {K kk c c2 : Nat} {S : (Nat → Nat) → Prop} {nw nc : Nat → Nat} (hc : c = 0 ∨ c = 1 ∨ c = 4) (hk : kk < 2 ^ (2 * c)) (h : ∀ p, 1 ≤ p → p ≤ K → nc p = (nw p + zG kk c p) % 8) : ∀ w, ((S w ∨ ∃ i, i < kk ∧ ∃ m, m < 2 ^ c2 ∧ zsm K (pz_en nw 0 i m) w) ∨ ∃ m, m < 2 ^ c2 ∧ zsm K (pz_en nc 0 0 m) w) ↔ (S w ∨ ∃ i, i < kk + 1 ∧ ∃ m, m < 2 ^ c2 ∧ zsm K (pz_en nw 0 i m) w) := by
  intro w
  constructor
  · rintro ((q | ⟨i, hi, m, hm, q⟩) | ⟨m, hm, q⟩)
    · exact Or.inl q
    · exact Or.inr ⟨i, by omega, m, hm, q⟩
    · exact Or.inr ⟨kk, by omega, m, hm, (zsm_tr (zen_th hc hk h)).mp q⟩
  · rintro (q | ⟨i, hi, m, hm, q⟩)
    · exact Or.inl (Or.inl q)
    · by_cases e : i = kk
      · subst e
        exact Or.inr ⟨m, hm, (zsm_tr (zen_th hc hk h)).mpr q⟩
      · exact Or.inl (Or.inr ⟨i, by omega, m, hm, q⟩)
/-- how many times the set of four is gone through -/
def zt4 (n : Nat) : Nat := if n = 4 then 8 else 1
theorem zen_k {K k kk m : Nat} {ph nc : Nat → Nat} (h : ∀ p, 1 ≤ p → p ≤ K → nc p = (ph p + k * pz_g 15 p) % 8) : ∀ p, 1 ≤ p → p ≤ K → pz_en nc 0 kk m p = pz_en ph k kk m p := by
  intro p a b
  unfold pz_en
  rw [h p a b]
  simp only [Nat.zero_mul, Nat.add_zero]
  omega
theorem zen_par (nc : Nat → Nat) (kk m p : Nat) : pz_en nc 0 kk m p % 2 = nc p % 2 := by
  unfold pz_en
  simp only [Nat.mul_assoc, Nat.zero_mul, Nat.add_zero]
  omega
def zAll (n : Nat) (ph : Nat → Nat) (k : Nat) (w : Nat → Nat) : Prop := ∃ i, i < k ∧ ∃ kk, kk < 2 ^ (2 * zms 3 (2 ^ n - 1)) ∧ ∃ m, m < 2 ^ zms 2 (2 ^ n - 1) ∧ zsm (2 ^ n - 1) (pz_en ph i kk m) w
theorem zAll_S {n k : Nat} {ph nc : Nat → Nat} (h : ∀ p, 1 ≤ p → p ≤ 2 ^ n - 1 → nc p = (ph p + k * pz_g 15 p) % 8) : ∀ w, (zAll n ph k w ∨ ∃ i, i < 2 ^ (2 * zms 3 (2 ^ n - 1)) ∧ ∃ m, m < 2 ^ zms 2 (2 ^ n - 1) ∧ zsm (2 ^ n - 1) (pz_en nc 0 i m) w) ↔ zAll n ph (k + 1) w := by
  intro w
  constructor
  · rintro (⟨i, hi, q⟩ | ⟨kk, hkk, m, hm, q⟩)
    · exact ⟨i, by omega, q⟩
    · exact ⟨k, by omega, kk, hkk, m, hm, (zsm_tr (zen_k h)).mp q⟩
  · rintro ⟨i, hi, kk, hkk, m, hm, q⟩
    by_cases e : i = k
    · subst e
      exact Or.inr ⟨kk, hkk, m, hm, (zsm_tr (zen_k h)).mpr q⟩
    · exact Or.inl ⟨i, by omega, kk, hkk, m, hm, q⟩
theorem zAll_skip {n k : Nat} {ph nc b : Nat → Nat} {o f : Nat} (hK : 2 ^ n - 1 < 16) (hs : pz_st (2 ^ n - 1) (zAll n ph k) 16 b o f) (h : ∀ p, 1 ≤ p → p ≤ 2 ^ n - 1 → nc p = (ph p + k * pz_g 15 p) % 8) (ho : o < pz_odd nc (2 ^ n - 1)) : pz_st (2 ^ n - 1) (zAll n ph (k + 1)) 16 b o f := by
  refine pz_st_ext (pz_st_skip (B := fun w => ∃ i, i < 2 ^ (2 * zms 3 (2 ^ n - 1)) ∧ ∃ m, m < 2 ^ zms 2 (2 ^ n - 1) ∧ zsm (2 ^ n - 1) (pz_en nc 0 i m) w) hK hs ?_) (zAll_S h)
  rintro w ⟨kk, hkk, m, hm, q⟩
  refine Or.inl ?_
  rw [pz_odd_congr (w' := nc) (2 ^ n - 1) (fun p a c => by rw [q p a c, zen_par])]
  exact ho
theorem pz_f_sum (a b : Nat → Nat) (x : Nat) : ∀ k, pz_f (fun p => a p + b p) x k = pz_f a x k + pz_f b x k
  | 0 => rfl
  | k + 1 => by
    simp only [pz_f, pz_f_sum a b x k, Nat.mul_add]
    omega
theorem pz_f_c (t : Nat) (d : Nat → Nat) (x k : Nat) : pz_f (fun p => t * d p) x k = t * pz_f d x k := pz_f_mul t d x k
theorem zdv {t u F : Nat} (h : t * F % 8 = 0) : t * u * F % 8 = 0 := by
  rw [Nat.mul_right_comm, Nat.mul_mod, h, Nat.zero_mul]
theorem zen_rel4 {v : Nat → Nat} {k kk m : Nat} : pz_rel 15 v (pz_en v k kk m) := by
  refine pz_rel_add (d := fun p => k * pz_g 15 p + 2 * (kk % 4) * pz_g 7 p + 2 * (kk / 4 % 4) * pz_g 11 p + 2 * (kk / 16 % 4) * pz_g 13 p + 2 * (kk / 64 % 4) * pz_g 14 p + 4 * (m % 2) * pz_g 3 p + 4 * (m / 2 % 2) * pz_g 5 p + 4 * (m / 4 % 2) * pz_g 6 p + 4 * (m / 8 % 2) * pz_g 9 p + 4 * (m / 16 % 2) * pz_g 10 p + 4 * (m / 32 % 2) * pz_g 12 p) (fun x hx => ?_) (fun p _ _ => ?_)
  · simp only [pz_f_sum, pz_f_c]
    have h15 := pz_z15 x (by omega)
    have a0 : k * pz_f (pz_g 15) x 15 % 8 = 0 := by rw [Nat.mul_mod, h15, Nat.mul_zero]
    have a1 := zdv (u := kk % 4) (pz_z3 7 (by decide) x (by omega))
    have a2 := zdv (u := kk / 4 % 4) (pz_z3 11 (by decide) x (by omega))
    have a3 := zdv (u := kk / 16 % 4) (pz_z3 13 (by decide) x (by omega))
    have a4 := zdv (u := kk / 64 % 4) (pz_z3 14 (by decide) x (by omega))
    have b0 := zdv (u := m % 2) (pz_z2 3 (by decide) x (by omega))
    have b1 := zdv (u := m / 2 % 2) (pz_z2 5 (by decide) x (by omega))
    have b2 := zdv (u := m / 4 % 2) (pz_z2 6 (by decide) x (by omega))
    have b3 := zdv (u := m / 8 % 2) (pz_z2 9 (by decide) x (by omega))
    have b4 := zdv (u := m / 16 % 2) (pz_z2 10 (by decide) x (by omega))
    have b5 := zdv (u := m / 32 % 2) (pz_z2 12 (by decide) x (by omega))
    omega
  · unfold pz_en
    simp only [Nat.add_assoc]
theorem zen_rel3 {v : Nat → Nat} {kk m : Nat} (hkk : kk < 4) (hm : m < 8) : pz_rel 7 v (pz_en v 0 kk m) := by
  refine pz_rel_add (d := fun p => 2 * (kk % 4) * pz_g 7 p + 4 * (m % 2) * pz_g 3 p + 4 * (m / 2 % 2) * pz_g 5 p + 4 * (m / 4 % 2) * pz_g 6 p) (fun x hx => ?_) (fun p _ _ => ?_)
  · simp only [pz_f_sum, pz_f_c]
    have a1 := zdv (u := kk % 4) (pz_z3' x (by omega))
    have b0 := zdv (u := m % 2) (pz_z2' 3 (by decide) x (by omega))
    have b1 := zdv (u := m / 2 % 2) (pz_z2' 5 (by decide) x (by omega))
    have b2 := zdv (u := m / 4 % 2) (pz_z2' 6 (by decide) x (by omega))
    omega
  · unfold pz_en
    rw [show kk / 4 = 0 by omega, show kk / 16 = 0 by omega, show kk / 64 = 0 by omega, show m / 8 = 0 by omega, show m / 16 = 0 by omega, show m / 32 = 0 by omega]
    simp only [Nat.add_assoc, Nat.zero_mul, Nat.zero_mod, Nat.mul_zero, Nat.add_zero, Nat.zero_add]
theorem zen_rel2 {v : Nat → Nat} {m : Nat} (hm : m < 2) : pz_rel 3 v (pz_en v 0 0 m) := by
  refine pz_rel_add (d := fun p => 4 * (m % 2) * pz_g 3 p) (fun x hx => ?_) (fun p _ _ => ?_)
  · rw [pz_f_c]
    exact zdv (u := m % 2) (pz_z2'' x (by omega))
  · unfold pz_en
    rw [show m / 2 = 0 by omega, show m / 4 = 0 by omega, show m / 8 = 0 by omega, show m / 16 = 0 by omega, show m / 32 = 0 by omega]
    simp only [Nat.zero_mul, Nat.zero_div, Nat.zero_mod, Nat.mul_zero, Nat.add_zero, Nat.zero_add]
theorem zen_rel1 {v : Nat → Nat} (hv : ∀ j, v j < 8) : pz_rel 1 v (pz_en v 0 0 0) := pz_rel_eq (fun p _ _ => (zen_0 (hv p)).symm)
theorem zen_lt (v : Nat → Nat) (k kk m p : Nat) : pz_en v k kk m p < 8 := Nat.mod_lt _ (by decide)
theorem zen_cl {K : Nat} {v u w : Nat → Nat} (h : zsm K u w) (hr : pz_rel K v u) (h8 : ∀ p, u p < 8) : pz_vec K w ∧ pz_rel K v w :=
  ⟨fun p a b => by rw [h p a b]; exact h8 p, pz_rel_trans hr (pz_rel_eq (fun p a b => (h p a b).symm))⟩
theorem zAll_end {n : Nat} (h1 : 1 ≤ n) (hn : n ≤ 4) {ph : Nat → Nat} (h8 : ∀ j, ph j < 8) : ∀ w, zAll n ph (zt4 n) w ↔ (pz_vec (2 ^ n - 1) w ∧ pz_rel (2 ^ n - 1) ph w) := by
  intro w
  unfold zAll zt4
  rcases zms_n h1 hn with ⟨rfl, a, b⟩ | ⟨rfl, a, b⟩ | ⟨rfl, a, b⟩ | ⟨rfl, a, b⟩
  all_goals rw [a, b]
  · constructor
    · rintro ⟨i, hi, kk, hkk, m, hm, q⟩
      obtain rfl : i = 0 := by simpa using hi
      obtain rfl : kk = 0 := by simpa using hkk
      obtain rfl : m = 0 := by simpa using hm
      exact zen_cl q (zen_rel1 h8) (zen_lt _ _ _ _)
    · rintro ⟨hw, hr⟩
      exact ⟨0, by decide, 0, by decide, 0, by decide, pz_full1 (fun p _ _ => h8 p) hw hr⟩
  · constructor
    · rintro ⟨i, hi, kk, hkk, m, hm, q⟩
      obtain rfl : i = 0 := by simpa using hi
      obtain rfl : kk = 0 := by simpa using hkk
      exact zen_cl q (zen_rel2 hm) (zen_lt _ _ _ _)
    · rintro ⟨hw, hr⟩
      obtain ⟨m, hm, q⟩ := pz_full3 (fun p _ _ => h8 p) hw hr
      exact ⟨0, by decide, 0, by decide, m, hm, q⟩
  · constructor
    · rintro ⟨i, hi, kk, hkk, m, hm, q⟩
      obtain rfl : i = 0 := by simpa using hi
      exact zen_cl q (zen_rel3 hkk hm) (zen_lt _ _ _ _)
    · rintro ⟨hw, hr⟩
      obtain ⟨kk, m, hkk, hm, q⟩ := pz_full7 (fun p _ _ => h8 p) hw hr
      exact ⟨0, by decide, kk, hkk, m, hm, q⟩
  · constructor
    · rintro ⟨i, hi, kk, hkk, m, hm, q⟩
      exact zen_cl q zen_rel4 (zen_lt _ _ _ _)
    · rintro ⟨hw, hr⟩
      obtain ⟨k, kk, m, hk, hkk, hm, q⟩ := pz_full15 (fun p _ _ => h8 p) hw hr
      exact ⟨k, hk, kk, hkk, m, hm, q⟩
theorem zAll_kn {n : Nat} (h1 : 1 ≤ n) (hn : n ≤ 4) {ph b : Nat → Nat} {o f k : Nat} (h8 : ∀ j, ph j < 8) (hk : k = zt4 n) (h : pz_st (2 ^ n - 1) (zAll n ph k) 16 b o f) : zk_known n ph b o f := by
  subst hk
  rcases pz_st_ext h (zAll_end h1 hn h8) with ⟨-, -, h⟩ | h
  · exact absurd ⟨fun p _ _ => h8 p, pz_rel_refl _ _⟩ (h ph)
  · exact h
theorem zAll_0 {n : Nat} (ph b : Nat → Nat) : pz_st (2 ^ n - 1) (zAll n ph 0) 16 b 16 16 := Or.inl ⟨rfl, rfl, fun w ⟨i, hi, _⟩ => absurd hi (Nat.not_lt_zero _)⟩
theorem zfl_k {K k : Nat} {ph nc : Nat → Nat} (h8 : ∀ j, nc j < 8) (hk : 0 < k) (h : ∀ p, 1 ≤ p → p ≤ K → nc p = (ph p + (k - 1) * pz_g 15 p) % 8) : ∀ p, 1 ≤ p → p ≤ K → zaw 15 1 K nc p = (ph p + k * pz_g 15 p) % 8 := by
  intro p a b
  rw [zaw_as h8 p a b, h p a b]
  obtain ⟨q, rfl⟩ : ∃ q, k = q + 1 := ⟨k - 1, by omega⟩
  have e : (q + 1) * pz_g 15 p = q * pz_g 15 p + pz_g 15 p := Nat.succ_mul _ _
  rw [Nat.add_sub_cancel, e, Nat.one_mul]
  omega
theorem zfl_tw {i : Nat} {g : Nat → Nat} (h : ∀ j, j < i → g j = zs2 j) : ∀ j, j < i + 1 → va_up g i (zs2 i) j = zs2 j := by
  intro j h1
  by_cases e : j = i
  · subst e
    exact va_up_self _ _ _
  · rw [va_up_ne _ _ e]
    exact h j (by omega)
theorem zfl_cp {i : Nat} {g ph : Nat → Nat} (h : ∀ j, j < i → g j = ph j) : ∀ j, j < i + 1 → va_up g i (ph i) j = ph j := by
  intro j h1
  by_cases e : j = i
  · subst e
    exact va_up_self _ _ _
  · rw [va_up_ne _ _ e]
    exact h j (by omega)
