/-! the pure side of lookAtTried and find -/
theorem zf_choose {t tr : Nat → Nat} {K fo i lf : Nat} {M : Nat → Nat → Nat} (hT : zf_tab t K M 1) (hg : pz_gi t tr K fo (i + 1) lf) (hi : i + 1 ≤ K) (hl : lf ≤ K) :
    (M (i + 1 + 1) lf + pz_c tr (i + 1) = M (i + 1) lf → pz_gi t (va_up tr (i + 1) (tr (i + 1) % 4)) K fo (i + 1 + 1) lf) ∧
    (¬ M (i + 1 + 1) lf + pz_c tr (i + 1) = M (i + 1) lf → pz_gi t (va_up tr (i + 1) (tr (i + 1) % 4 + 4)) K fo (i + 1 + 1) (lf ^^^ (i + 1))) := by
  have h := pz_gi_step hg (by omega) hi
  have e1 : M (i + 1 + 1) lf = pz_F t K (K - (i + 1)) lf := by
    rw [hT (i + 1 + 1) (by omega) (by omega) lf hl, show K + 1 - (i + 1 + 1) = K - (i + 1) by omega]
  have e2 : M (i + 1) lf = pz_F t K (K + 1 - (i + 1)) lf := hT (i + 1) (by omega) (by omega) lf hl
  have e3 : pz_c tr (i + 1) = pz_c t (i + 1) := pz_c_congr (hg.1 (i + 1) (by omega) hi).2
  rw [e1, e2, e3]
  exact h
theorem zf_cnt1 (w : Nat → Nat) : ∀ k, zc_cnt w 1 k = pz_odd w k
  | 0 => rfl
  | k + 1 => by
    have a : w (k + 1) &&& 1 = w (k + 1) % 2 := Nat.and_one_is_mod _
    simp only [zc_cnt, pz_odd]
    rw [zf_cnt1 w k, a]
    have := Nat.mod_lt (w (k + 1)) (show 2 > 0 by decide)
    split <;> omega
theorem zf_and3 : ∀ x, x < 8 → (x &&& 3 = 0 ↔ x % 4 = 0) := by decide +kernel
theorem zf_nz3 {t w : Nat → Nat} (h8 : ∀ j, t j < 8) : ∀ k, (∀ p, 1 ≤ p → p ≤ k → w p % 4 = t p % 4) → zc_cnt t 3 k ≤ pz_nz w k
  | 0, _ => Nat.le_refl _
  | k + 1, h => by
    have ih := zf_nz3 (w := w) h8 k (fun p h1 h2 => h p h1 (by omega))
    have e := h (k + 1) (by omega) (Nat.le_refl _)
    have a := zf_and3 _ (h8 (k + 1))
    simp only [zc_cnt, pz_nz]
    by_cases c : t (k + 1) &&& 3 = 0
    · rw [if_pos c]
      split <;> omega
    · rw [if_neg c]
      have : ¬ w (k + 1) = 0 := fun q => c (a.mpr (by rw [q] at e; omega))
      rw [if_neg this]
      omega
theorem zc_cnt7 (w : Nat → Nat) (h : ∀ j, w j < 8) : ∀ k, zc_cnt w 7 k = pz_nz w k
  | 0 => rfl
  | k + 1 => by
    have a : w (k + 1) &&& 7 = w (k + 1) % 8 := Nat.and_two_pow_sub_one_eq_mod _ 3
    have b := h (k + 1)
    simp only [zc_cnt, pz_nz]
    rw [zc_cnt7 w h k, a, Nat.mod_eq_of_lt b]
/-- phases that are the same in 1 .. K are the same to S -/
def pz_cl (K : Nat) (S : (Nat → Nat) → Prop) : Prop := ∀ w w' : Nat → Nat, (∀ p, 1 ≤ p → p ≤ K → w p = w' p) → S w → S w'
/-- the phases that are t's modulo 4 and have its function -/
def pz_blk (K : Nat) (t : Nat → Nat) (w : Nat → Nat) : Prop := pz_vec K w ∧ (∀ p, 1 ≤ p → p ≤ K → w p % 4 = t p % 4) ∧ pz_rel K t w
theorem pz_cl_blk (K : Nat) (t : Nat → Nat) : pz_cl K (pz_blk K t) := by
  intro w w' h ⟨a, b, c⟩
  exact ⟨fun p h1 h2 => by rw [← h p h1 h2]; exact a p h1 h2, fun p h1 h2 => by rw [← h p h1 h2]; exact b p h1 h2, pz_rel_trans c (pz_rel_eq h)⟩
theorem pz_cl_or {K : Nat} {S T : (Nat → Nat) → Prop} (h1 : pz_cl K S) (h2 : pz_cl K T) : pz_cl K (fun w => S w ∨ T w) := fun w w' h q => q.elim (fun x => Or.inl (h1 w w' h x)) (fun x => Or.inr (h2 w w' h x))
theorem pz_st_congr {K : Nat} {S : (Nat → Nat) → Prop} {nn : Nat} {b b' : Nat → Nat} {o f : Nat} (hc : pz_cl K S) (h : pz_st K S nn b o f) (e : ∀ p, 1 ≤ p → p ≤ K → b p = b' p) : pz_st K S nn b' o f := by
  rcases h with h | ⟨h1, h2, h3, h4⟩
  · exact Or.inl h
  · refine Or.inr ⟨hc b b' e h1, ?_, ?_, fun w hw => ?_⟩
    · rw [h2]; exact pz_odd_congr K (fun p a c => by rw [e p a c])
    · rw [h3]; exact pz_nz_congr K e
    · have := h4 w hw
      rw [← pz_odd_congr (w := b) (w' := b') K (fun p a c => by rw [e p a c]), ← pz_nz_congr (w := b) (w' := b') K e, ← pz_num_congr (w := b) (w' := b') K e]
      exact this
/-- a look that ends early -/
theorem zf_look_skip {K : Nat} {S : (Nat → Nat) → Prop} {b t : Nat → Nat} {o f : Nat} (hK : K < 1000) (h8 : ∀ j, t j < 8) (h : pz_st K S 1000 b o f) (hc : o < zc_cnt t 1 K ∨ zc_cnt t 1 K = o ∧ f < zc_cnt t 3 K) : pz_st K (fun w => S w ∨ pz_blk K t w) 1000 b o f := by
  refine pz_st_skip hK h (fun w hw => ?_)
  have e : pz_odd w K = pz_odd t K := pz_odd_congr K (fun p h1 h2 => by have := hw.2.1 p h1 h2; omega)
  have g := zf_nz3 (w := w) h8 K hw.2.1
  rw [zf_cnt1] at hc
  omega
/-- a look to its end: the choice of fours is the least of the block -/
theorem zf_look_end {n : Nat} (hn : n ≤ 4) {t tr : Nat → Nat} {lf : Nat} (h8 : ∀ j, t j < 8) (hg : pz_gi t tr (2 ^ n - 1) (pz_fx t (2 ^ n - 1)) (2 ^ n - 1 + 1) lf) {M : Nat → Nat → Nat} (hT : zf_tab t (2 ^ n - 1) M 1) :
    pz_blk (2 ^ n - 1) t tr ∧ pz_low (2 ^ n - 1) (pz_blk (2 ^ n - 1) t) tr ∧ pz_odd tr (2 ^ n - 1) = zc_cnt t 1 (2 ^ n - 1) ∧ pz_nz tr (2 ^ n - 1) = M 1 (pz_fx t (2 ^ n - 1)) := by
  have hp : 0 < 2 ^ n := Nat.two_pow_pos n
  obtain ⟨a, b, c⟩ := pz_gi_end (n := n) (by omega) (fun p _ _ => h8 p) hg
  refine ⟨a, c, ?_, ?_⟩
  · rw [zf_cnt1]
    exact pz_odd_congr _ (fun p h1 h2 => by have := a.2.1 p h1 h2; omega)
  · have l := pz_fx_lt t n (2 ^ n - 1) (by omega)
    rw [b, hT 1 (Nat.le_refl _) (by omega) _ (by omega)]
    rfl
/-! the order of the shifts -/
def zf_gray (k : Nat) : Nat := k ^^^ (k / 2)
theorem zf_gray_step : ∀ k, k < 63 → zf_gray (k + 1) = zf_gray k ^^^ 2 ^ pz_ctz (k + 1) ∧ (pz_ctz (k + 1) = 5 → zf_gray k < 32) ∧ pz_ctz (k + 1) < 6 ∧ zf_gray k < 64 := by decide +kernel
theorem zf_gray_all : ∀ b, b < 64 → ∃ k, k < 64 ∧ zf_gray k = b := by decide +kernel
theorem zf_bits : ∀ b, b < 64 → ∀ j, j < 6 → (j = 5 → b < 32) → ∀ i, i < 6 → (b ^^^ 2 ^ j) / 2 ^ i % 2 = if i = j then 1 - b / 2 ^ i % 2 else b / 2 ^ i % 2 := by decide +kernel
