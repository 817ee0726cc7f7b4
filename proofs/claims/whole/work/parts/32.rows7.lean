/-! the pure side of find: all phases of one function by the order of the shifts -/
theorem pz_st_le {K : Nat} {S : (Nat → Nat) → Prop} {nn : Nat} {b : Nat → Nat} {o f : Nat} (hK : K ≤ nn) (h : pz_st K S nn b o f) : o ≤ nn ∧ f ≤ nn := by
  rcases h with ⟨h1, h2, -⟩ | ⟨-, h1, h2, -⟩
  · omega
  · have := pz_odd_le b K
    have := pz_nz_le b K
    omega
theorem zf_u (s p : Nat) : pz_u s p = if p &&& s = p then 1 else 0 := rfl
theorem zf_sh_as {st sz K : Nat} {t : Nat → Nat} (h8 : ∀ j, t j < 8) : ∀ p, 1 ≤ p → p ≤ K → zf_shift st sz K t p = (t p + sz * pz_u st p) % 8 := by
  intro p h1 h2
  have := h8 p
  unfold zf_shift
  rw [zf_u]
  by_cases c : p &&& st = p
  · rw [if_pos ⟨h1, h2, c⟩, if_pos c, Nat.mul_one]
  · rw [if_neg (fun q => c q.2.2), if_neg c, Nat.mul_zero, Nat.add_zero, Nat.mod_eq_of_lt this]
theorem zf_zero4 : ∀ sh, sh < 6 → ∀ x, x < 16 → zs_size sh * pz_f (pz_u (zs_set sh)) x 15 % 8 = 0 := by decide +kernel
theorem zf_zero3 : ∀ x, x < 8 → zs_size 0 * pz_f (pz_u (zs_set 0)) x 7 % 8 = 0 := by decide +kernel
theorem zf_rel4 {sh : Nat} (hs : sh < 6) {t : Nat → Nat} (h8 : ∀ j, t j < 8) : pz_rel 15 t (zf_shift (zs_set sh) (zs_size sh) 15 t) := by
  refine pz_rel_add (d := fun p => zs_size sh * pz_u (zs_set sh) p) (fun x hx => ?_) (zf_sh_as h8)
  rw [pz_f_mul]
  exact zf_zero4 sh hs x (by omega)
theorem zf_rel3 {t : Nat → Nat} (h8 : ∀ j, t j < 8) : pz_rel 7 t (zf_shift (zs_set 0) (zs_size 0) 7 t) := by
  refine pz_rel_add (d := fun p => zs_size 0 * pz_u (zs_set 0) p) (fun x hx => ?_) (zf_sh_as h8)
  rw [pz_f_mul]
  exact zf_zero3 x (by omega)
theorem zf_u_le (s p : Nat) : pz_u s p = 0 ∨ pz_u s p = 1 := by
  rw [zf_u]
  split
  · exact Or.inr rfl
  · exact Or.inl rfl
/-- a shift is one more, or one less, in the set of shifts, modulo 4 -/
theorem zf_mod_shift {K b sh : Nat} {v t : Nat → Nat} (hb : b < 64) (hs : sh < 6) (h5 : sh = 5 → b < 32) (h8 : ∀ j, t j < 8) (h : ∀ p, 1 ≤ p → p ≤ K → t p % 4 = pz_sh v b p % 4) :
    ∀ p, 1 ≤ p → p ≤ K → zf_shift (zs_set sh) (zs_size sh) K t p % 4 = pz_sh v (b ^^^ 2 ^ sh) p % 4 := by
  intro p h1 h2
  rw [zf_sh_as h8 p h1 h2]
  have e := h p h1 h2
  have z := zf_bits b hb sh hs h5
  have z0 := z 0 (by decide)
  have z1 := z 1 (by decide)
  have z2 := z 2 (by decide)
  have z3 := z 3 (by decide)
  have z4 := z 4 (by decide)
  have z5 := z 5 (by decide)
  clear z h
  simp only [Nat.pow_zero, Nat.div_one, show (2 : Nat) ^ 1 = 2 from rfl, show (2 : Nat) ^ 2 = 4 from rfl, show (2 : Nat) ^ 3 = 8 from rfl, show (2 : Nat) ^ 4 = 16 from rfl, show (2 : Nat) ^ 5 = 32 from rfl] at z0 z1 z2 z3 z4 z5
  unfold pz_sh at e ⊢
  rw [z0, z1, z2, z3, z4, z5]
  have l0 := Nat.mod_lt b (show 2 > 0 by decide)
  have l1 := Nat.mod_lt (b / 2) (show 2 > 0 by decide)
  have l2 := Nat.mod_lt (b / 4) (show 2 > 0 by decide)
  have l3 := Nat.mod_lt (b / 8) (show 2 > 0 by decide)
  have l4 := Nat.mod_lt (b / 16) (show 2 > 0 by decide)
  have b5 : sh = 5 → b / 32 % 2 = 0 := fun q => by have := h5 q; omega
  clear z0 z1 z2 z3 z4 z5 hb h5
  generalize b % 2 = x0 at *
  generalize b / 2 % 2 = x1 at *
  generalize b / 4 % 2 = x2 at *
  generalize b / 8 % 2 = x3 at *
  generalize b / 16 % 2 = x4 at *
  generalize b / 32 % 2 = x5 at *
  rcases (show sh = 0 ∨ sh = 1 ∨ sh = 2 ∨ sh = 3 ∨ sh = 4 ∨ sh = 5 by omega) with rfl | rfl | rfl | rfl | rfl | rfl
  · rw [show zs_set 0 = 7 from rfl, show zs_size 0 = 2 from rfl]
    simp only [if_true, if_false, show ¬ (1 : Nat) = 0 by decide, show ¬ (2 : Nat) = 0 by decide, show ¬ (3 : Nat) = 0 by decide, show ¬ (4 : Nat) = 0 by decide, show ¬ (5 : Nat) = 0 by decide]
    generalize 2 * x1 * pz_u 11 p = A1 at *
    generalize 2 * x2 * pz_u 13 p = A2 at *
    generalize 2 * x3 * pz_u 14 p = A3 at *
    generalize 2 * x4 * pz_u 15 p = A4 at *
    generalize x5 * pz_u 15 p = A5 at *
    rcases zf_u_le 7 p with q | q <;> rw [q] at e ⊢ <;> omega
  · rw [show zs_set 1 = 11 from rfl, show zs_size 1 = 2 from rfl]
    simp only [if_true, if_false, show ¬ (0 : Nat) = 1 by decide, show ¬ (2 : Nat) = 1 by decide, show ¬ (3 : Nat) = 1 by decide, show ¬ (4 : Nat) = 1 by decide, show ¬ (5 : Nat) = 1 by decide]
    generalize 2 * x0 * pz_u 7 p = A1 at *
    generalize 2 * x2 * pz_u 13 p = A2 at *
    generalize 2 * x3 * pz_u 14 p = A3 at *
    generalize 2 * x4 * pz_u 15 p = A4 at *
    generalize x5 * pz_u 15 p = A5 at *
    rcases zf_u_le 11 p with q | q <;> rw [q] at e ⊢ <;> omega
  · rw [show zs_set 2 = 13 from rfl, show zs_size 2 = 2 from rfl]
    simp only [if_true, if_false, show ¬ (0 : Nat) = 2 by decide, show ¬ (1 : Nat) = 2 by decide, show ¬ (3 : Nat) = 2 by decide, show ¬ (4 : Nat) = 2 by decide, show ¬ (5 : Nat) = 2 by decide]
    generalize 2 * x0 * pz_u 7 p = A1 at *
    generalize 2 * x1 * pz_u 11 p = A2 at *
    generalize 2 * x3 * pz_u 14 p = A3 at *
    generalize 2 * x4 * pz_u 15 p = A4 at *
    generalize x5 * pz_u 15 p = A5 at *
    rcases zf_u_le 13 p with q | q <;> rw [q] at e ⊢ <;> omega
  · rw [show zs_set 3 = 14 from rfl, show zs_size 3 = 2 from rfl]
    simp only [if_true, if_false, show ¬ (0 : Nat) = 3 by decide, show ¬ (1 : Nat) = 3 by decide, show ¬ (2 : Nat) = 3 by decide, show ¬ (4 : Nat) = 3 by decide, show ¬ (5 : Nat) = 3 by decide]
    generalize 2 * x0 * pz_u 7 p = A1 at *
    generalize 2 * x1 * pz_u 11 p = A2 at *
    generalize 2 * x2 * pz_u 13 p = A3 at *
    generalize 2 * x4 * pz_u 15 p = A4 at *
    generalize x5 * pz_u 15 p = A5 at *
    rcases zf_u_le 14 p with q | q <;> rw [q] at e ⊢ <;> omega
  · rw [show zs_set 4 = 15 from rfl, show zs_size 4 = 2 from rfl]
    simp only [if_true, if_false, show ¬ (0 : Nat) = 4 by decide, show ¬ (1 : Nat) = 4 by decide, show ¬ (2 : Nat) = 4 by decide, show ¬ (3 : Nat) = 4 by decide, show ¬ (5 : Nat) = 4 by decide]
    generalize 2 * x0 * pz_u 7 p = A1 at *
    generalize 2 * x1 * pz_u 11 p = A2 at *
    generalize 2 * x2 * pz_u 13 p = A3 at *
    generalize 2 * x3 * pz_u 14 p = A4 at *
    generalize x5 * pz_u 15 p = A5 at *
    rcases zf_u_le 15 p with q | q <;> rw [q] at e ⊢ <;> omega
  · rw [show zs_set 5 = 15 from rfl, show zs_size 5 = 1 from rfl]
    simp only [if_true, if_false, show ¬ (0 : Nat) = 5 by decide, show ¬ (1 : Nat) = 5 by decide, show ¬ (2 : Nat) = 5 by decide, show ¬ (3 : Nat) = 5 by decide, show ¬ (4 : Nat) = 5 by decide]
    have x5e := b5 rfl
    subst x5e
    generalize 2 * x0 * pz_u 7 p = A1 at *
    generalize 2 * x1 * pz_u 11 p = A2 at *
    generalize 2 * x2 * pz_u 13 p = A3 at *
    generalize 2 * x3 * pz_u 14 p = A4 at *
    generalize 2 * x4 * pz_u 15 p = A5 at *
    rcases zf_u_le 15 p with q | q <;> rw [q] at e ⊢ <;> omega
theorem zf_sh0 (v : Nat → Nat) (p : Nat) : pz_sh v 0 p = v p := by
  unfold pz_sh
  simp
/-- the phases of the function of v that were met by the first kk + 1 sets of shifts -/
def zf_SS (K : Nat) (v : Nat → Nat) (kk : Nat) (w : Nat → Nat) : Prop := pz_vec K w ∧ pz_rel K v w ∧ ∃ i, i ≤ kk ∧ ∀ p, 1 ≤ p → p ≤ K → w p % 4 = pz_sh v (zf_gray i) p % 4
theorem zf_SS_cl (K : Nat) (v : Nat → Nat) (kk : Nat) : pz_cl K (zf_SS K v kk) := by
  intro w w' h ⟨a, b, i, c, d⟩
  exact ⟨fun p h1 h2 => by rw [← h p h1 h2]; exact a p h1 h2, pz_rel_trans b (pz_rel_eq h), i, c, fun p h1 h2 => by rw [← h p h1 h2]; exact d p h1 h2⟩
theorem zf_SS_0 {K : Nat} {v t : Nat → Nat} (h : ∀ p, 1 ≤ p → p ≤ K → t p = v p) : ∀ w, (False ∨ pz_blk K t w) ↔ zf_SS K v 0 w := by
  intro w
  have hr : pz_rel K v t := pz_rel_eq (fun p h1 h2 => (h p h1 h2).symm)
  constructor
  · rintro (q | ⟨a, b, c⟩)
    · exact q.elim
    · exact ⟨a, pz_rel_trans hr c, 0, Nat.le_refl _, fun p h1 h2 => by rw [b p h1 h2, h p h1 h2, show zf_gray 0 = 0 from rfl, zf_sh0]⟩
  · rintro ⟨a, b, i, c, d⟩
    refine Or.inr ⟨a, fun p h1 h2 => ?_, pz_rel_trans (pz_rel_symm hr) b⟩
    rw [d p h1 h2, h p h1 h2, show i = 0 by omega, show zf_gray 0 = 0 from rfl, zf_sh0]
theorem zf_SS_1 {K kk : Nat} {v t : Nat → Nat} (hr : pz_rel K v t) (hm : ∀ p, 1 ≤ p → p ≤ K → t p % 4 = pz_sh v (zf_gray (kk + 1)) p % 4) : ∀ w, (zf_SS K v kk w ∨ pz_blk K t w) ↔ zf_SS K v (kk + 1) w := by
  intro w
  constructor
  · rintro (⟨a, b, i, c, d⟩ | ⟨a, b, c⟩)
    · exact ⟨a, b, i, by omega, d⟩
    · exact ⟨a, pz_rel_trans hr c, kk + 1, Nat.le_refl _, fun p h1 h2 => by rw [b p h1 h2, hm p h1 h2]⟩
  · rintro ⟨a, b, i, c, d⟩
    rcases Nat.lt_or_ge i (kk + 1) with q | q
    · exact Or.inl ⟨a, b, i, by omega, d⟩
    · have e : i = kk + 1 := by omega
      subst e
      exact Or.inr ⟨a, fun p h1 h2 => by rw [d p h1 h2, hm p h1 h2], pz_rel_trans (pz_rel_symm hr) b⟩
theorem zf_SS_all {n : Nat} (h1 : 1 ≤ n) (hn : n ≤ 4) {v : Nat → Nat} {kk : Nat} (h8 : ∀ j, v j < 8) (hk : kk + 1 = 2 ^ zs_shifts n) : ∀ w, zf_SS (2 ^ n - 1) v kk w ↔ (pz_vec (2 ^ n - 1) w ∧ pz_rel (2 ^ n - 1) v w) := by
  intro w
  refine ⟨fun h => ⟨h.1, h.2.1⟩, fun ⟨a, b⟩ => ⟨a, b, ?_⟩⟩
  have hv : ∀ K, pz_vec K v := fun K p _ _ => h8 p
  rcases (show n = 1 ∨ n = 2 ∨ n = 3 ∨ n = 4 by omega) with rfl | rfl | rfl | rfl
  · exact ⟨0, Nat.zero_le _, fun p h1 h2 => by rw [show zf_gray 0 = 0 from rfl, zf_sh0]; exact pz_cov1 (hv 1) a b p h1 h2⟩
  · exact ⟨0, Nat.zero_le _, fun p h1 h2 => by rw [show zf_gray 0 = 0 from rfl, zf_sh0]; exact pz_cov3 (hv 3) a b p h1 h2⟩
  · obtain ⟨c, h3, h4⟩ := pz_cov7 (hv 7) a b
    have e : kk = 1 := by have : 2 ^ zs_shifts 3 = 2 := rfl; omega
    refine ⟨c, by omega, fun p h1 h2 => ?_⟩
    rw [h4 p h1 h2]
    rcases (show c = 0 ∨ c = 1 by omega) with rfl | rfl <;> rfl
  · obtain ⟨c, h3, h4⟩ := pz_cov15 (hv 15) a b
    have e : kk = 63 := by have : 2 ^ zs_shifts 4 = 64 := rfl; omega
    obtain ⟨i, h5, h6⟩ := zf_gray_all c h3
    exact ⟨i, by omega, fun p h1 h2 => by rw [h4 p h1 h2, h6]⟩
theorem zf_ways {n : Nat} (h1 : 1 ≤ n) (hn : n ≤ 4) : 2 ^ zs_shifts n ≤ 64 ∧ 1 ≤ 2 ^ zs_shifts n ∧ zs_shifts n < 32 := by
  rcases (show n = 1 ∨ n = 2 ∨ n = 3 ∨ n = 4 by omega) with rfl | rfl | rfl | rfl <;> decide
/-- the next shift in the order -/
theorem zf_next {n : Nat} (h1 : 1 ≤ n) (hn : n ≤ 4) {kk : Nat} (hk : kk + 1 < 2 ^ zs_shifts n) {v t : Nat → Nat} (h8 : ∀ j, t j < 8) (hr : pz_rel (2 ^ n - 1) v t) (hm : ∀ p, 1 ≤ p → p ≤ 2 ^ n - 1 → t p % 4 = pz_sh v (zf_gray kk) p % 4) :
    pz_rel (2 ^ n - 1) v (zf_shift (zs_set (pz_ctz (kk + 1))) (zs_size (pz_ctz (kk + 1))) (2 ^ n - 1) t) ∧ ∀ p, 1 ≤ p → p ≤ 2 ^ n - 1 → zf_shift (zs_set (pz_ctz (kk + 1))) (zs_size (pz_ctz (kk + 1))) (2 ^ n - 1) t p % 4 = pz_sh v (zf_gray (kk + 1)) p % 4 := by
  obtain ⟨w1, -, -⟩ := zf_ways h1 hn
  obtain ⟨g1, g2, g3, g4⟩ := zf_gray_step kk (by omega)
  refine ⟨pz_rel_trans hr ?_, by rw [g1]; exact zf_mod_shift g4 g3 g2 h8 hm⟩
  rcases (show n = 1 ∨ n = 2 ∨ n = 3 ∨ n = 4 by omega) with rfl | rfl | rfl | rfl
  · have : 2 ^ zs_shifts 1 = 1 := rfl
    omega
  · have : 2 ^ zs_shifts 2 = 1 := rfl
    omega
  · have : 2 ^ zs_shifts 3 = 2 := rfl
    have e : kk = 0 := by omega
    subst e
    exact zf_rel3 h8
  · exact zf_rel4 g3 h8
theorem zf_cp8 {f g : Nat → Nat} (hf : ∀ j, f j < 8) (hg : ∀ j, g j < 8) : ∀ j, (fun k => if k < 16 then f k else g k) j < 8 := by
  intro j
  show (if j < 16 then f j else g j) < 8
  split
  · exact hf j
  · exact hg j
