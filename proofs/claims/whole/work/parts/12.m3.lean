/-! the order of phases; the least of a set; the choice of fours -/
def pz_odd (w : Nat → Nat) : Nat → Nat
  | 0 => 0
  | k + 1 => pz_odd w k + w (k + 1) % 2
def pz_nz (w : Nat → Nat) : Nat → Nat
  | 0 => 0
  | k + 1 => pz_nz w k + (if w (k + 1) = 0 then 0 else 1)
def pz_num (w : Nat → Nat) : Nat → Nat
  | 0 => 0
  | k + 1 => pz_num w k * 8 + w (k + 1)
theorem pz_odd_congr {w w' : Nat → Nat} : ∀ k, (∀ p, 1 ≤ p → p ≤ k → w p % 2 = w' p % 2) → pz_odd w k = pz_odd w' k
  | 0, _ => rfl
  | k + 1, h => by
    simp only [pz_odd]
    rw [pz_odd_congr k (fun p h1 h2 => h p h1 (by omega)), h (k + 1) (by omega) (Nat.le_refl _)]
theorem pz_nz_congr {w w' : Nat → Nat} : ∀ k, (∀ p, 1 ≤ p → p ≤ k → w p = w' p) → pz_nz w k = pz_nz w' k
  | 0, _ => rfl
  | k + 1, h => by
    simp only [pz_nz]
    rw [pz_nz_congr k (fun p h1 h2 => h p h1 (by omega)), h (k + 1) (by omega) (Nat.le_refl _)]
theorem pz_num_congr {w w' : Nat → Nat} : ∀ k, (∀ p, 1 ≤ p → p ≤ k → w p = w' p) → pz_num w k = pz_num w' k
  | 0, _ => rfl
  | k + 1, h => by
    simp only [pz_num]
    rw [pz_num_congr k (fun p h1 h2 => h p h1 (by omega)), h (k + 1) (by omega) (Nat.le_refl _)]
theorem pz_odd_le (w : Nat → Nat) : ∀ k, pz_odd w k ≤ k
  | 0 => Nat.le_refl _
  | k + 1 => by
    have := pz_odd_le w k
    simp only [pz_odd]
    omega
theorem pz_nz_le (w : Nat → Nat) : ∀ k, pz_nz w k ≤ k
  | 0 => Nat.le_refl _
  | k + 1 => by
    have := pz_nz_le w k
    simp only [pz_nz]
    split <;> omega
theorem pz_num_inj {w w' : Nat → Nat} : ∀ K, pz_vec K w → pz_vec K w' → pz_num w K = pz_num w' K → ∀ p, 1 ≤ p → p ≤ K → w p = w' p
  | 0, _, _, _, p, h1, h2 => absurd h2 (by omega)
  | k + 1, hw, hw', h, p, h1, h2 => by
    simp only [pz_num] at h
    have a := hw (k + 1) (by omega) (Nat.le_refl _)
    have b := hw' (k + 1) (by omega) (Nat.le_refl _)
    have e : pz_num w k = pz_num w' k := by omega
    rcases Nat.lt_or_ge k p with q | q
    · have : p = k + 1 := by omega
      subst this
      omega
    · exact pz_num_inj k (fun p h1 h2 => hw p h1 (by omega)) (fun p h1 h2 => hw' p h1 (by omega)) e p h1 q
theorem pz_num_mono {w w' : Nat → Nat} {p : Nat} : ∀ K, p ≤ K → pz_vec K w → pz_vec K w' → pz_num w p < pz_num w' p → pz_num w K < pz_num w' K
  | 0, h, _, _, a => by
    have : p = 0 := by omega
    subst this
    exact a
  | k + 1, h, hw, hw', a => by
    rcases Nat.lt_or_ge k p with q | q
    · have : p = k + 1 := by omega
      subst this
      exact a
    · have ih := pz_num_mono k q (fun p h1 h2 => hw p h1 (by omega)) (fun p h1 h2 => hw' p h1 (by omega)) a
      have a := hw (k + 1) (by omega) (Nat.le_refl _)
      simp only [pz_num]
      omega
/-- the first number that differs decides -/
theorem pz_num_first {w w' : Nat → Nat} {p K : Nat} (hw : pz_vec K w) (hw' : pz_vec K w') (h1 : 1 ≤ p) (h2 : p ≤ K) (he : ∀ q, 1 ≤ q → q < p → w q = w' q) (hl : w p < w' p) : pz_num w K < pz_num w' K := by
  refine pz_num_mono (p := p) K h2 hw hw' ?_
  obtain ⟨k, rfl⟩ : ∃ k, p = k + 1 := ⟨p - 1, by omega⟩
  simp only [pz_num]
  rw [pz_num_congr k (fun q a b => he q a (by omega))]
  omega
/-- no phases of S come ahead of b -/
def pz_low (K : Nat) (S : (Nat → Nat) → Prop) (b : Nat → Nat) : Prop :=
  ∀ w, S w → pz_odd b K < pz_odd w K ∨ pz_odd b K = pz_odd w K ∧ (pz_nz b K < pz_nz w K ∨ pz_nz b K = pz_nz w K ∧ pz_num b K ≤ pz_num w K)
/-- what has been found so far: nothing, or the least of S -/
def pz_st (K : Nat) (S : (Nat → Nat) → Prop) (none : Nat) (b : Nat → Nat) (o f : Nat) : Prop :=
  (o = none ∧ f = none ∧ ∀ w, ¬ S w) ∨ (S b ∧ o = pz_odd b K ∧ f = pz_nz b K ∧ pz_low K S b)
theorem pz_st_ext {K : Nat} {S S' : (Nat → Nat) → Prop} {nn : Nat} {b : Nat → Nat} {o f : Nat} (h : pz_st K S nn b o f) (e : ∀ w, S w ↔ S' w) : pz_st K S' nn b o f := by
  rcases h with ⟨a, c, d⟩ | ⟨a, c, d, g⟩
  · exact Or.inl ⟨a, c, fun w hw => d w ((e w).mpr hw)⟩
  · exact Or.inr ⟨(e b).mp a, c, d, fun w hw => g w ((e w).mpr hw)⟩
theorem pz_uniq {K : Nat} {S : (Nat → Nat) → Prop} {b c : Nat → Nat} (hS : ∀ w, S w → pz_vec K w) (hb : S b) (hc : S c) (lb : pz_low K S b) (lc : pz_low K S c) : pz_odd b K = pz_odd c K ∧ pz_nz b K = pz_nz c K ∧ ∀ p, 1 ≤ p → p ≤ K → b p = c p := by
  have h1 := lb c hc
  have h2 := lc b hb
  refine ⟨by omega, by omega, pz_num_inj K (hS b hb) (hS c hc) (by omega)⟩
/-- phases that come in a block: w0 is a least one of the block -/
theorem pz_st_add {K : Nat} {S B : (Nat → Nat) → Prop} {nn : Nat} {b w0 : Nat → Nat} {o f : Nat} (hn : K < nn) (h : pz_st K S nn b o f) (h0 : B w0) (hl : pz_low K B w0) :
    ((pz_odd w0 K < o ∨ pz_odd w0 K = o ∧ (pz_nz w0 K < f ∨ pz_nz w0 K = f ∧ pz_num w0 K ≤ pz_num b K)) → pz_st K (fun w => S w ∨ B w) nn w0 (pz_odd w0 K) (pz_nz w0 K)) ∧
    ((o < pz_odd w0 K ∨ pz_odd w0 K = o ∧ (f < pz_nz w0 K ∨ pz_nz w0 K = f ∧ pz_num b K ≤ pz_num w0 K)) → pz_st K (fun w => S w ∨ B w) nn b o f) := by
  have o1 := pz_odd_le w0 K
  have o2 := pz_nz_le w0 K
  constructor
  · intro c
    refine Or.inr ⟨Or.inr h0, rfl, rfl, fun w hw => ?_⟩
    rcases hw with hw | hw
    · rcases h with ⟨a1, a2, a3⟩ | ⟨a1, a2, a3, a4⟩
      · exact absurd hw (a3 w)
      · have := a4 w hw
        omega
    · exact hl w hw
  · intro c
    rcases h with ⟨a1, a2, a3⟩ | ⟨a1, a2, a3, a4⟩
    · exfalso
      omega
    · refine Or.inr ⟨Or.inl a1, a2, a3, fun w hw => ?_⟩
      rcases hw with hw | hw
      · exact a4 w hw
      · have := hl w hw
        omega
/-- a block none of whose phases can come first -/
theorem pz_st_skip {K : Nat} {S B : (Nat → Nat) → Prop} {nn : Nat} {b : Nat → Nat} {o f : Nat} (hn : K < nn) (h : pz_st K S nn b o f) (hB : ∀ w, B w → o < pz_odd w K ∨ o = pz_odd w K ∧ f < pz_nz w K) : pz_st K (fun w => S w ∨ B w) nn b o f := by
  rcases h with ⟨a1, a2, a3⟩ | ⟨a1, a2, a3, a4⟩
  · refine Or.inl ⟨a1, a2, fun w hw => ?_⟩
    rcases hw with hw | hw
    · exact a3 w hw
    · have := hB w hw
      have o1 := pz_odd_le w K
      have o2 := pz_nz_le w K
      omega
  · refine Or.inr ⟨Or.inl a1, a2, a3, fun w hw => ?_⟩
    rcases hw with hw | hw
    · exact a4 w hw
    · have := hB w hw
      omega
/-! fours -/
def pz_fx (w : Nat → Nat) : Nat → Nat
  | 0 => 0
  | k + 1 => if w (k + 1) / 4 % 2 = 1 then pz_fx w k ^^^ (k + 1) else pz_fx w k
theorem pz_fx_lt (w : Nat → Nat) : ∀ (n k : Nat), k < 2 ^ n → pz_fx w k < 2 ^ n
  | n, 0, h => h
  | n, k + 1, h => by
    have ih := pz_fx_lt w n k (by omega)
    simp only [pz_fx]
    split
    · exact Nat.xor_lt_two_pow ih h
    · exact ih
theorem pz_par_xor : ∀ a, a < 16 → ∀ b, b < 16 → pz_par (a ^^^ b) = (pz_par a + pz_par b) % 2 := by decide +kernel
theorem pz_par_xx : ∀ a, a < 16 → ∀ b, b < 16 → ∀ x, x < 16 → pz_par ((a ^^^ b) &&& x) = (pz_par (a &&& x) + pz_par (b &&& x)) % 2 := by decide +kernel
/-- phases that are the same modulo 4: their functions differ by what the fours have in common with x -/
theorem pz_f_fours {t w : Nat → Nat} {x : Nat} (hx : x < 16) : ∀ k, k < 16 → (∀ p, 1 ≤ p → p ≤ k → t p < 8 ∧ w p < 8 ∧ w p % 4 = t p % 4) → pz_f w x k % 8 = (pz_f t x k + 4 * pz_par ((pz_fx t k ^^^ pz_fx w k) &&& x)) % 8
  | 0, _, _ => by simp [pz_f, pz_fx, pz_par]
  | k + 1, hk, h => by
    have ih := pz_f_fours (t := t) (w := w) hx k (by omega) (fun p h1 h2 => h p h1 (by omega))
    obtain ⟨ht, hw, hm⟩ := h (k + 1) (by omega) (Nat.le_refl _)
    have l1 : pz_fx t k < 16 := pz_fx_lt t 4 k (by omega)
    have l2 : pz_fx w k < 16 := pz_fx_lt w 4 k (by omega)
    have l3 : pz_fx t k ^^^ pz_fx w k < 16 := Nat.xor_lt_two_pow (n := 4) l1 l2
    have l4 : pz_par ((k + 1) &&& x) < 2 := pz_par_lt _
    have l5 : pz_par ((pz_fx t k ^^^ pz_fx w k) &&& x) < 2 := pz_par_lt _
    have hxx := pz_par_xx _ l3 (k + 1) hk x hx
    simp only [pz_f, pz_fx]
    by_cases c1 : t (k + 1) / 4 % 2 = 1
    · by_cases c2 : w (k + 1) / 4 % 2 = 1
      · rw [if_pos c1, if_pos c2]
        have e : (pz_fx t k ^^^ (k + 1)) ^^^ (pz_fx w k ^^^ (k + 1)) = pz_fx t k ^^^ pz_fx w k := by
          rw [Nat.xor_assoc, Nat.xor_comm (k + 1), Nat.xor_assoc, Nat.xor_self, Nat.xor_zero]
        have e2 : w (k + 1) = t (k + 1) := by omega
        rw [e, e2]
        generalize pz_par ((k + 1) &&& x) * t (k + 1) = y
        omega
      · rw [if_pos c1, if_neg c2]
        have e : (pz_fx t k ^^^ (k + 1)) ^^^ pz_fx w k = (pz_fx t k ^^^ pz_fx w k) ^^^ (k + 1) := by
          rw [Nat.xor_assoc, Nat.xor_comm (k + 1), ← Nat.xor_assoc]
        rw [e, hxx]
        generalize pz_par ((k + 1) &&& x) = y at l4 ⊢
        generalize pz_par ((pz_fx t k ^^^ pz_fx w k) &&& x) = z at l5 ih ⊢
        rcases (show y = 0 ∨ y = 1 by omega) with rfl | rfl
        · simp only [Nat.zero_mul, Nat.add_zero]; omega
        · simp only [Nat.one_mul]; omega
    · by_cases c2 : w (k + 1) / 4 % 2 = 1
      · rw [if_neg c1, if_pos c2]
        have e : pz_fx t k ^^^ (pz_fx w k ^^^ (k + 1)) = (pz_fx t k ^^^ pz_fx w k) ^^^ (k + 1) := (Nat.xor_assoc _ _ _).symm
        rw [e, hxx]
        generalize pz_par ((k + 1) &&& x) = y at l4 ⊢
        generalize pz_par ((pz_fx t k ^^^ pz_fx w k) &&& x) = z at l5 ih ⊢
        rcases (show y = 0 ∨ y = 1 by omega) with rfl | rfl
        · simp only [Nat.zero_mul, Nat.add_zero]; omega
        · simp only [Nat.one_mul]; omega
      · rw [if_neg c1, if_neg c2]
        have e2 : w (k + 1) = t (k + 1) := by omega
        rw [e2]
        generalize pz_par ((k + 1) &&& x) * t (k + 1) = y
        omega
theorem pz_zero : ∀ n, n < 5 → ∀ z, z < 2 ^ n → (∀ x, x < 2 ^ n → pz_par (z &&& x) = 0) → z = 0 := by decide +kernel
theorem pz_fx_rel {n : Nat} (hn : n < 5) {t w : Nat → Nat} (h : ∀ p, 1 ≤ p → p ≤ 2 ^ n - 1 → t p < 8 ∧ w p < 8 ∧ w p % 4 = t p % 4) : pz_rel (2 ^ n - 1) t w ↔ pz_fx t (2 ^ n - 1) = pz_fx w (2 ^ n - 1) := by
  have hp : 0 < 2 ^ n := Nat.two_pow_pos n
  have hp4 : 2 ^ n ≤ 2 ^ 4 := Nat.pow_le_pow_right (by decide) (by omega)
  have e4 : (2 : Nat) ^ 4 = 16 := rfl
  have l1 : pz_fx t (2 ^ n - 1) < 2 ^ n := pz_fx_lt t n _ (by omega)
  have l2 : pz_fx w (2 ^ n - 1) < 2 ^ n := pz_fx_lt w n _ (by omega)
  have l3 : pz_fx t (2 ^ n - 1) ^^^ pz_fx w (2 ^ n - 1) < 2 ^ n := Nat.xor_lt_two_pow l1 l2
  have key := fun x (hx : x < 2 ^ n) => pz_f_fours (t := t) (w := w) (x := x) (by omega) (2 ^ n - 1) (by omega) h
  constructor
  · intro r
    have z := pz_zero n hn _ l3 (fun x hx => by
      have a := key x hx
      have b := r x (by omega)
      have c := pz_par_lt ((pz_fx t (2 ^ n - 1) ^^^ pz_fx w (2 ^ n - 1)) &&& x)
      omega)
    have e : (pz_fx t (2 ^ n - 1) ^^^ pz_fx w (2 ^ n - 1)) ^^^ pz_fx w (2 ^ n - 1) = pz_fx t (2 ^ n - 1) := by rw [Nat.xor_assoc, Nat.xor_self, Nat.xor_zero]
    rw [z, Nat.zero_xor] at e
    exact e.symm
  · intro e x hx
    have a := key x (by omega)
    rw [e, Nat.xor_self, Nat.zero_and] at a
    have : pz_par 0 = 0 := rfl
    rw [this] at a
    omega
