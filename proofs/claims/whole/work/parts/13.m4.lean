/-! the table of the fewest, and the choice of fours that it leads to -/
def pz_c (t : Nat → Nat) (p : Nat) : Nat := if t p % 4 = 0 then 0 else 1
def pz_F (t : Nat → Nat) (K : Nat) : Nat → Nat → Nat
  | 0, s => if s = 0 then 0 else 1000
  | j + 1, s => min (pz_F t K j s + pz_c t (K - j)) (pz_F t K j (s ^^^ (K - j)) + 1)
def pz_xs (w : Nat → Nat) (K : Nat) : Nat → Nat
  | 0 => 0
  | j + 1 => if w (K - j) / 4 % 2 = 1 then pz_xs w K j ^^^ (K - j) else pz_xs w K j
def pz_ns (w : Nat → Nat) (K : Nat) : Nat → Nat
  | 0 => 0
  | j + 1 => pz_ns w K j + (if w (K - j) = 0 then 0 else 1)
theorem pz_F_le (t : Nat → Nat) (K : Nat) : ∀ j s, pz_F t K j s ≤ 1000 + j
  | 0, s => by simp only [pz_F]; split <;> omega
  | j + 1, s => by
    have := pz_F_le t K j (s ^^^ (K - j))
    simp only [pz_F]
    omega
theorem pz_c_congr {t t' : Nat → Nat} {p : Nat} (h : t p % 4 = t' p % 4) : pz_c t p = pz_c t' p := by simp only [pz_c, h]
theorem pz_F_congr {t t' : Nat → Nat} {K : Nat} (h : ∀ p, 1 ≤ p → p ≤ K → t p % 4 = t' p % 4) : ∀ j, j ≤ K → ∀ s, pz_F t K j s = pz_F t' K j s
  | 0, _, s => rfl
  | j + 1, hj, s => by
    simp only [pz_F]
    rw [pz_F_congr h j (by omega), pz_F_congr h j (by omega), pz_c_congr (h (K - j) (by omega) (by omega))]
theorem pz_F_low {t w : Nat → Nat} {K : Nat} (h : ∀ p, 1 ≤ p → p ≤ K → w p < 8 ∧ w p % 4 = t p % 4) : ∀ j, j ≤ K → pz_F t K j (pz_xs w K j) ≤ pz_ns w K j
  | 0, _ => by simp [pz_F, pz_xs, pz_ns]
  | j + 1, hj => by
    have ih := pz_F_low h j (by omega)
    obtain ⟨h1, h2⟩ := h (K - j) (by omega) (by omega)
    simp only [pz_F, pz_xs, pz_ns]
    by_cases c : w (K - j) / 4 % 2 = 1
    · rw [if_pos c, Nat.xor_assoc, Nat.xor_self, Nat.xor_zero, if_neg (by omega)]
      omega
    · rw [if_neg c]
      have : pz_c t (K - j) ≤ (if w (K - j) = 0 then 0 else 1) := by
        unfold pz_c
        split <;> split <;> omega
      omega
theorem pz_fx_xs (w : Nat → Nat) (K : Nat) : ∀ j, j ≤ K → pz_fx w (K - j) ^^^ pz_xs w K j = pz_fx w K
  | 0, _ => by simp [pz_xs]
  | j + 1, hj => by
    have ih := pz_fx_xs w K j (by omega)
    obtain ⟨k, hk⟩ : ∃ k, K - j = k + 1 := ⟨K - j - 1, by omega⟩
    have e : K - (j + 1) = k := by omega
    rw [hk] at ih
    simp only [pz_xs, e, hk]
    simp only [pz_fx] at ih
    by_cases c : w (k + 1) / 4 % 2 = 1
    · rw [if_pos c] at ih ⊢
      rw [← ih, Nat.xor_assoc, Nat.xor_comm (k + 1)]
    · rw [if_neg c] at ih ⊢
      exact ih
theorem pz_nz_ns (w : Nat → Nat) (K : Nat) : ∀ j, j ≤ K → pz_nz w (K - j) + pz_ns w K j = pz_nz w K
  | 0, _ => by simp [pz_ns]
  | j + 1, hj => by
    have ih := pz_nz_ns w K j (by omega)
    obtain ⟨k, hk⟩ : ∃ k, K - j = k + 1 := ⟨K - j - 1, by omega⟩
    have e : K - (j + 1) = k := by omega
    rw [hk] at ih
    simp only [pz_ns, e, hk]
    simp only [pz_nz] at ih
    omega
/-- the choice of fours, up to the parity p -/
def pz_gi (t tr : Nat → Nat) (K fo p left : Nat) : Prop :=
  (∀ q, 1 ≤ q → q ≤ K → tr q < 8 ∧ tr q % 4 = t q % 4) ∧ pz_F t K (K + 1 - p) left < 1000 ∧ pz_nz tr (p - 1) + pz_F t K (K + 1 - p) left = pz_F t K K fo ∧ pz_fx tr (p - 1) ^^^ left = fo ∧
  ∀ w : Nat → Nat, (∀ q, 1 ≤ q → q ≤ K → w q < 8 ∧ w q % 4 = t q % 4) → pz_fx w K = fo → pz_nz w K = pz_F t K K fo →
    pz_num tr (p - 1) < pz_num w (p - 1) ∨ ((∀ q, 1 ≤ q → q < p → tr q = w q) ∧ pz_xs w K (K + 1 - p) = left ∧ pz_ns w K (K + 1 - p) = pz_F t K (K + 1 - p) left)
theorem pz_gi_start {t : Nat → Nat} {K : Nat} (hK : K < 1000) (h : pz_vec K t) : pz_gi t t K (pz_fx t K) 1 (pz_fx t K) := by
  have e : ∀ w : Nat → Nat, pz_xs w K K = pz_fx w K := fun w => by
    have := pz_fx_xs w K K (Nat.le_refl _)
    rw [Nat.sub_self] at this
    simpa [pz_fx] using this
  have e2 : ∀ w : Nat → Nat, pz_ns w K K = pz_nz w K := fun w => by
    have := pz_nz_ns w K K (Nat.le_refl _)
    rw [Nat.sub_self] at this
    simpa [pz_nz] using this
  have hl := pz_F_low (t := t) (w := t) (K := K) (fun p h1 h2 => ⟨h p h1 h2, rfl⟩) K (Nat.le_refl _)
  rw [e, e2] at hl
  have := pz_nz_le t K
  refine ⟨fun q h1 h2 => ⟨h q h1 h2, rfl⟩, ?_, ?_, ?_, fun w h1 h2 h3 => Or.inr ⟨fun q a b => absurd b (by omega), ?_, ?_⟩⟩
  · simp only [Nat.add_sub_cancel]; omega
  · simp [pz_nz]
  · simp [pz_fx]
  · rw [Nat.add_sub_cancel, e, h2]
  · rw [Nat.add_sub_cancel, e2, h3]
theorem pz_gi_step {t tr : Nat → Nat} {K fo p left : Nat} (h : pz_gi t tr K fo p left) (h1 : 1 ≤ p) (h2 : p ≤ K) :
    (pz_F t K (K - p) left + pz_c t p = pz_F t K (K + 1 - p) left → pz_gi t (va_up tr p (tr p % 4)) K fo (p + 1) left) ∧
    (¬ pz_F t K (K - p) left + pz_c t p = pz_F t K (K + 1 - p) left → pz_gi t (va_up tr p (tr p % 4 + 4)) K fo (p + 1) (left ^^^ p)) := by
  obtain ⟨a1, a2, a3, a4, a5⟩ := h
  obtain ⟨j, hj⟩ : ∃ j, K = p + j := ⟨K - p, by omega⟩
  have q1 : K + 1 - p = j + 1 := by omega
  have q2 : K - p = j := by omega
  have q3 : K + 1 - (p + 1) = j := by omega
  have q4 : K - j = p := by omega
  obtain ⟨i, hi⟩ : ∃ i, p = i + 1 := ⟨p - 1, by omega⟩
  have q5 : p - 1 = i := by omega
  have q6 : p + 1 - 1 = p := by omega
  have hF : pz_F t K (j + 1) left = min (pz_F t K j left + pz_c t p) (pz_F t K j (left ^^^ p) + 1) := by
    show min (pz_F t K j left + pz_c t (K - j)) (pz_F t K j (left ^^^ (K - j)) + 1) = _
    rw [q4]
  rw [q1] at a2 a3
  rw [q1, q2]
  rw [q5] at a3 a4
  simp only [q1, q5] at a5
  obtain ⟨b1, b2⟩ := a1 p h1 h2
  have hcp : ∀ v, (∀ q, q < p → va_up tr p v q = tr q) := fun v q hq => va_up_ne tr v (by omega)
  have hself : ∀ v, va_up tr p v p = v := fun v => va_up_self tr p v
  have nzu : ∀ v, pz_nz (va_up tr p v) p = pz_nz tr i + (if v = 0 then 0 else 1) := fun v => by
    rw [hi]; simp only [pz_nz]
    rw [← hi, hself, pz_nz_congr i (fun q x y => hcp v q (by omega))]
  have numu : ∀ v, pz_num (va_up tr p v) p = pz_num tr i * 8 + v := fun v => by
    rw [hi]; simp only [pz_num]
    rw [← hi, hself, pz_num_congr i (fun q x y => hcp v q (by omega))]
  have fxc : ∀ (v : Nat) (k : Nat), k < p → pz_fx (va_up tr p v) k = pz_fx tr k := by
    intro v k
    induction k with
    | zero => intro _; rfl
    | succ k ih =>
      intro hk
      simp only [pz_fx]
      rw [ih (by omega), hcp v (k + 1) hk]
  have fxu : ∀ v, pz_fx (va_up tr p v) p = if v / 4 % 2 = 1 then pz_fx tr i ^^^ p else pz_fx tr i := fun v => by
    rw [hi]; simp only [pz_fx]
    rw [← hi, hself, fxc v i (by omega)]
  have numw : ∀ w : Nat → Nat, pz_num w p = pz_num w i * 8 + w p := fun w => by rw [hi]; rfl
  have xsw : ∀ w : Nat → Nat, pz_xs w K (j + 1) = if w p / 4 % 2 = 1 then pz_xs w K j ^^^ p else pz_xs w K j := fun w => by
    show (if w (K - j) / 4 % 2 = 1 then pz_xs w K j ^^^ (K - j) else pz_xs w K j) = _
    rw [q4]
  have nsw : ∀ w : Nat → Nat, pz_ns w K (j + 1) = pz_ns w K j + (if w p = 0 then 0 else 1) := fun w => by
    show pz_ns w K j + (if w (K - j) = 0 then 0 else 1) = _
    rw [q4]
  have xx : ∀ a : Nat, (a ^^^ p) ^^^ p = a := fun a => by rw [Nat.xor_assoc, Nat.xor_self, Nat.xor_zero]
  constructor
  · intro c
    have hcz : pz_c t p = (if tr p % 4 = 0 then 0 else 1) := by unfold pz_c; rw [b2]
    refine ⟨fun q x y => ?_, ?_, ?_, ?_, fun w w1 w2 w3 => ?_⟩
    · by_cases e : q = p
      · subst e
        rw [hself]
        omega
      · rw [va_up_ne tr _ e]
        exact a1 q x y
    · rw [q3]; omega
    · rw [q3, q6, nzu]
      rw [hcz] at c
      omega
    · rw [q6, fxu, if_neg (by omega)]
      exact a4
    · rw [q3, q6, numu, numw]
      obtain ⟨v1, v2⟩ := w1 p h1 h2
      rcases a5 w w1 w2 w3 with g | ⟨g1, g2, g3⟩
      · left
        omega
      · have pe : pz_num tr i = pz_num w i := pz_num_congr i (fun q x y => g1 q x (by omega))
        by_cases cw : w p / 4 % 2 = 1
        · left
          omega
        · right
          rw [xsw, if_neg cw] at g2
          rw [nsw] at g3
          have ew : w p = tr p % 4 := by omega
          refine ⟨fun q x y => ?_, g2, ?_⟩
          · by_cases e : q = p
            · subst e
              rw [hself, ew]
            · rw [va_up_ne tr _ e]
              exact g1 q x (by omega)
          · rw [hcz] at c
            rw [ew] at g3
            omega
  · intro c
    have hm : pz_F t K (j + 1) left = pz_F t K j (left ^^^ p) + 1 := by omega
    have hm2 : pz_F t K (j + 1) left < pz_F t K j left + pz_c t p := by omega
    refine ⟨fun q x y => ?_, ?_, ?_, ?_, fun w w1 w2 w3 => ?_⟩
    · by_cases e : q = p
      · subst e
        rw [hself]
        omega
      · rw [va_up_ne tr _ e]
        exact a1 q x y
    · rw [q3]; omega
    · rw [q3, q6, nzu, if_neg (by omega)]
      omega
    · rw [q6, fxu, if_pos (by omega), ← a4, Nat.xor_assoc, Nat.xor_comm p, xx]
    · rw [q3, q6, numu, numw]
      obtain ⟨v1, v2⟩ := w1 p h1 h2
      rcases a5 w w1 w2 w3 with g | ⟨g1, g2, g3⟩
      · left
        omega
      · have pe : pz_num tr i = pz_num w i := pz_num_congr i (fun q x y => g1 q x (by omega))
        by_cases cw : w p / 4 % 2 = 1
        · right
          rw [xsw, if_pos cw] at g2
          rw [nsw, if_neg (by omega)] at g3
          have ew : w p = tr p % 4 + 4 := by omega
          refine ⟨fun q x y => ?_, ?_, by omega⟩
          · by_cases e : q = p
            · subst e
              rw [hself, ew]
            · rw [va_up_ne tr _ e]
              exact g1 q x (by omega)
          · rw [← g2, xx]
        · exfalso
          rw [xsw, if_neg cw] at g2
          rw [nsw] at g3
          have lw := pz_F_low w1 j (by omega)
          rw [g2] at lw
          have : pz_c t p ≤ (if w p = 0 then 0 else 1) := by
            unfold pz_c
            split <;> split <;> omega
          omega
/-- at the end of the choice: the least of all phases that are the same modulo 4 and have the same function -/
theorem pz_gi_end {n : Nat} (hn : n < 5) {t tr : Nat → Nat} {left : Nat} (ht : pz_vec (2 ^ n - 1) t) (h : pz_gi t tr (2 ^ n - 1) (pz_fx t (2 ^ n - 1)) (2 ^ n - 1 + 1) left) :
    (pz_vec (2 ^ n - 1) tr ∧ (∀ p, 1 ≤ p → p ≤ 2 ^ n - 1 → tr p % 4 = t p % 4) ∧ pz_rel (2 ^ n - 1) t tr) ∧ pz_nz tr (2 ^ n - 1) = pz_F t (2 ^ n - 1) (2 ^ n - 1) (pz_fx t (2 ^ n - 1)) ∧
    pz_low (2 ^ n - 1) (fun w => pz_vec (2 ^ n - 1) w ∧ (∀ p, 1 ≤ p → p ≤ 2 ^ n - 1 → w p % 4 = t p % 4) ∧ pz_rel (2 ^ n - 1) t w) tr := by
  generalize hK : 2 ^ n - 1 = K at *
  obtain ⟨a1, a2, a3, a4, a5⟩ := h
  rw [Nat.sub_self] at a2 a3
  rw [Nat.add_sub_cancel] at a3 a4
  have l0 : left = 0 := by
    rcases Nat.eq_zero_or_pos left with e | e
    · exact e
    · simp only [pz_F] at a2
      rw [if_neg (by omega)] at a2
      omega
  subst l0
  rw [Nat.xor_zero] at a4
  have z0 : pz_F t K 0 0 = 0 := by simp [pz_F]
  rw [z0] at a3
  have fr : ∀ w : Nat → Nat, (∀ p, 1 ≤ p → p ≤ K → t p < 8 ∧ w p < 8 ∧ w p % 4 = t p % 4) → (pz_rel K t w ↔ pz_fx t K = pz_fx w K) := fun w hw => by
    have := pz_fx_rel (n := n) hn (t := t) (w := w)
    rw [hK] at this
    exact this hw
  refine ⟨⟨fun p h1 h2 => (a1 p h1 h2).1, fun p h1 h2 => (a1 p h1 h2).2, (fr tr (fun p h1 h2 => ⟨ht p h1 h2, a1 p h1 h2⟩)).mpr a4.symm⟩, by omega, fun w hw => ?_⟩
  obtain ⟨w1, w2, w3⟩ := hw
  have wx := (fr w (fun p h1 h2 => ⟨ht p h1 h2, w1 p h1 h2, w2 p h1 h2⟩)).mp w3
  have eo : pz_odd tr K = pz_odd w K := pz_odd_congr K (fun p h1 h2 => by
    have := (a1 p h1 h2).2
    have := w2 p h1 h2
    omega)
  have lw := pz_F_low (t := t) (w := w) (K := K) (fun p h1 h2 => ⟨w1 p h1 h2, w2 p h1 h2⟩) K (Nat.le_refl _)
  have e := pz_fx_xs w K K (Nat.le_refl _)
  have e2 := pz_nz_ns w K K (Nat.le_refl _)
  rw [Nat.sub_self] at e e2
  simp only [pz_fx, pz_nz, Nat.zero_xor, Nat.zero_add] at e e2
  rw [e, e2, ← wx] at lw
  right
  refine ⟨eo, ?_⟩
  rcases Nat.lt_or_ge (pz_nz tr K) (pz_nz w K) with g | g
  · exact Or.inl g
  · right
    have en : pz_nz w K = pz_F t K K (pz_fx t K) := by omega
    refine ⟨by omega, ?_⟩
    rcases a5 w (fun p h1 h2 => ⟨w1 p h1 h2, w2 p h1 h2⟩) wx.symm en with g | ⟨g, -⟩
    · rw [Nat.add_sub_cancel] at g
      omega
    · exact Nat.le_of_eq (pz_num_congr K (fun p h1 h2 => g p h1 (by omega)))
