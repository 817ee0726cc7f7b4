/-! PHASES, the pure side: parities, THE FUNCTION, which phases have the same one -/
def pz_par (k : Nat) : Nat := (k % 2 + k / 2 % 2 + k / 4 % 2 + k / 8 % 2) % 2
theorem pz_par_lt (k : Nat) : pz_par k < 2 := by unfold pz_par; omega
def pz_f (w : Nat → Nat) (x : Nat) : Nat → Nat
  | 0 => 0
  | k + 1 => pz_f w x k + pz_par ((k + 1) &&& x) * w (k + 1)
theorem pz_f_add (w d : Nat → Nat) (x : Nat) : ∀ k, pz_f (fun p => (w p + d p) % 8) x k % 8 = (pz_f w x k + pz_f d x k) % 8
  | 0 => rfl
  | k + 1 => by
    have ih := pz_f_add w d x k
    have h := pz_par_lt ((k + 1) &&& x)
    simp only [pz_f]
    generalize pz_par ((k + 1) &&& x) = c at h ⊢
    rcases (show c = 0 ∨ c = 1 by omega) with rfl | rfl
    · simp only [Nat.zero_mul, Nat.add_zero]; exact ih
    · simp only [Nat.one_mul]; omega
theorem pz_f_congr {w w' : Nat → Nat} (x : Nat) : ∀ k, (∀ p, 1 ≤ p → p ≤ k → w p = w' p) → pz_f w x k = pz_f w' x k
  | 0, _ => rfl
  | k + 1, h => by
    simp only [pz_f]
    rw [pz_f_congr x k (fun p h1 h2 => h p h1 (by omega)), h (k + 1) (by omega) (Nat.le_refl _)]
theorem pz_f_mul (t : Nat) (d : Nat → Nat) (x : Nat) : ∀ k, pz_f (fun p => t * d p) x k = t * pz_f d x k
  | 0 => rfl
  | k + 1 => by
    simp only [pz_f, pz_f_mul t d x k, Nat.mul_add]
    rw [Nat.mul_left_comm]
def pz_vec (K : Nat) (w : Nat → Nat) : Prop := ∀ p, 1 ≤ p → p ≤ K → w p < 8
def pz_rel (K : Nat) (v w : Nat → Nat) : Prop := ∀ x, x ≤ K → pz_f v x K % 8 = pz_f w x K % 8
theorem pz_rel_refl (K : Nat) (v : Nat → Nat) : pz_rel K v v := fun _ _ => rfl
theorem pz_rel_symm {K : Nat} {v w : Nat → Nat} (h : pz_rel K v w) : pz_rel K w v := fun x hx => (h x hx).symm
theorem pz_rel_trans {K : Nat} {u v w : Nat → Nat} (h : pz_rel K u v) (g : pz_rel K v w) : pz_rel K u w := fun x hx => (h x hx).trans (g x hx)
theorem pz_rel_add {K : Nat} {w w' d : Nat → Nat} (hd : ∀ x, x ≤ K → pz_f d x K % 8 = 0) (h : ∀ p, 1 ≤ p → p ≤ K → w' p = (w p + d p) % 8) : pz_rel K w w' := by
  intro x hx
  rw [pz_f_congr (w := w') (w' := fun p => (w p + d p) % 8) x K h, pz_f_add]
  have := hd x hx
  omega
theorem pz_rel_eq {K : Nat} {w w' : Nat → Nat} (h : ∀ p, 1 ≤ p → p ≤ K → w p = w' p) : pz_rel K w w' := fun x _ => by rw [pz_f_congr x K h]
/-- what is added to the parities within a set, with the sign of how many are left out -/
def pz_g (s p : Nat) : Nat := if p &&& s = p then (if pz_par (s ^^^ p) = 0 then 1 else 7) else 0
/-- what is added to the parities within a set, without a sign -/
def pz_u (s p : Nat) : Nat := if p &&& s = p then 1 else 0
theorem pz_z15 : ∀ x, x < 16 → pz_f (pz_g 15) x 15 % 8 = 0 := by decide +kernel
theorem pz_z3 : ∀ s ∈ [7, 11, 13, 14], ∀ x, x < 16 → 2 * pz_f (pz_g s) x 15 % 8 = 0 := by decide +kernel
theorem pz_z2 : ∀ s ∈ [3, 5, 6, 9, 10, 12], ∀ x, x < 16 → 4 * pz_f (pz_g s) x 15 % 8 = 0 := by decide +kernel
theorem pz_z3' : ∀ x, x < 8 → 2 * pz_f (pz_g 7) x 7 % 8 = 0 := by decide +kernel
theorem pz_z2' : ∀ s ∈ [3, 5, 6], ∀ x, x < 8 → 4 * pz_f (pz_g s) x 7 % 8 = 0 := by decide +kernel
theorem pz_z2'' : ∀ x, x < 4 → 4 * pz_f (pz_g 3) x 3 % 8 = 0 := by decide +kernel
theorem pz_y3 : ∀ s ∈ [7, 11, 13, 14, 15], ∀ x, x < 16 → 2 * pz_f (pz_u s) x 15 % 8 = 0 := by decide +kernel
theorem pz_y1 : ∀ x, x < 16 → pz_f (pz_u 15) x 15 % 8 = 0 := by decide +kernel
theorem pz_y3' : ∀ x, x < 8 → 2 * pz_f (pz_u 7) x 7 % 8 = 0 := by decide +kernel
/-- the difference of two phases of one function -/
theorem pz_diff {K : Nat} {v w : Nat → Nat} (hv : pz_vec K v) (hw : pz_vec K w) (h : pz_rel K v w) :
    ∃ d : Nat → Nat, (∀ p, d p < 8) ∧ (∀ p, 1 ≤ p → p ≤ K → w p = (v p + d p) % 8) ∧ ∀ x, x ≤ K → pz_f d x K % 8 = 0 := by
  refine ⟨fun p => (w p + 8 - v p) % 8, fun p => Nat.mod_lt _ (by decide), fun p h1 h2 => ?_, fun x hx => ?_⟩
  · have a := hv p h1 h2
    have b := hw p h1 h2
    show w p = (v p + (w p + 8 - v p) % 8) % 8
    omega
  · have e := pz_f_add v (fun p => (w p + 8 - v p) % 8) x K
    have c := pz_f_congr (w := w) (w' := fun p => (v p + (w p + 8 - v p) % 8) % 8) x K (fun p h1 h2 => by
      have a := hv p h1 h2
      have b := hw p h1 h2
      show w p = (v p + (w p + 8 - v p) % 8) % 8
      omega)
    have r := h x hx
    rw [c, e] at r
    omega
/-- the phases with number (k, kk, m) in the order in which one may go through all of one function -/
def pz_en (v : Nat → Nat) (k kk m p : Nat) : Nat := (v p + k * pz_g 15 p + 2 * (kk % 4) * pz_g 7 p + 2 * (kk / 4 % 4) * pz_g 11 p + 2 * (kk / 16 % 4) * pz_g 13 p + 2 * (kk / 64 % 4) * pz_g 14 p
  + 4 * (m % 2) * pz_g 3 p + 4 * (m / 2 % 2) * pz_g 5 p + 4 * (m / 4 % 2) * pz_g 6 p + 4 * (m / 8 % 2) * pz_g 9 p + 4 * (m / 16 % 2) * pz_g 10 p + 4 * (m / 32 % 2) * pz_g 12 p) % 8
theorem pz_case15 {P : Nat → Prop} (h1 : P 1) (h2 : P 2) (h3 : P 3) (h4 : P 4) (h5 : P 5) (h6 : P 6) (h7 : P 7) (h8 : P 8) (h9 : P 9) (h10 : P 10) (h11 : P 11) (h12 : P 12) (h13 : P 13) (h14 : P 14) (h15 : P 15) : ∀ p, 1 ≤ p → p ≤ 15 → P p := by
  intro p a b
  rcases (show p = 1 ∨ p = 2 ∨ p = 3 ∨ p = 4 ∨ p = 5 ∨ p = 6 ∨ p = 7 ∨ p = 8 ∨ p = 9 ∨ p = 10 ∨ p = 11 ∨ p = 12 ∨ p = 13 ∨ p = 14 ∨ p = 15 by omega) with rfl | rfl | rfl | rfl | rfl | rfl | rfl | rfl | rfl | rfl | rfl | rfl | rfl | rfl | rfl <;> assumption
theorem pz_case7 {P : Nat → Prop} (h1 : P 1) (h2 : P 2) (h3 : P 3) (h4 : P 4) (h5 : P 5) (h6 : P 6) (h7 : P 7) : ∀ p, 1 ≤ p → p ≤ 7 → P p := by
  intro p a b
  rcases (show p = 1 ∨ p = 2 ∨ p = 3 ∨ p = 4 ∨ p = 5 ∨ p = 6 ∨ p = 7 by omega) with rfl | rfl | rfl | rfl | rfl | rfl | rfl <;> assumption
theorem pz_case3 {P : Nat → Prop} (h1 : P 1) (h2 : P 2) (h3 : P 3) : ∀ p, 1 ≤ p → p ≤ 3 → P p := by
  intro p a b
  rcases (show p = 1 ∨ p = 2 ∨ p = 3 by omega) with rfl | rfl | rfl <;> assumption
theorem pz_case1 {P : Nat → Prop} (h1 : P 1) : ∀ p, 1 ≤ p → p ≤ 1 → P p := by
  intro p a b
  rcases (show p = 1 by omega) with rfl
  exact h1
