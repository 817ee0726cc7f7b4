theorem zk_st_min : Cond.static Lib.Math.min.name ∈ zz_tbl := zz_in (List.mem_append_right _ (List.mem_of_getElem? (l := tables_1) (i := 173) (by decide +kernel))) (by decide +kernel)
theorem zk_cd_min : Cond.code Lib.Math.min.name Lib.Math.min.code 2 (some .int) ∈ zz_tbl := zz_in (List.mem_append_right _ (List.mem_of_getElem? (l := tables_1) (i := 174) (by decide +kernel))) (by decide +kernel)
theorem zf_and4 : ∀ x, x < 8 → (x &&& 4 = 0 → ¬ x / 4 % 2 = 1) ∧ (0 < x &&& 4 → x / 4 % 2 = 1) := by decide +kernel
theorem zf_fx0 {w : Nat → Nat} {i : Nat} (h8 : w (i + 1) < 8) (h : w (i + 1) &&& 4 = 0) : pz_fx w (i + 1) = pz_fx w i := by
  simp only [pz_fx]
  rw [if_neg ((zf_and4 _ h8).1 h)]
theorem zf_fx1 {w : Nat → Nat} {i : Nat} (h8 : w (i + 1) < 8) (h : 0 < w (i + 1) &&& 4) : pz_fx w (i + 1) = pz_fx w i ^^^ (i + 1) := by
  simp only [pz_fx]
  rw [if_pos ((zf_and4 _ h8).2 h)]
/-- the rows of the table from p on are done -/
def zf_tab (t : Nat → Nat) (K : Nat) (M : Nat → Nat → Nat) (p : Nat) : Prop := ∀ q, p ≤ q → q ≤ K + 1 → ∀ s, s ≤ K → M q s = pz_F t K (K + 1 - q) s
theorem zf_tab_start {t : Nat → Nat} {K : Nat} {M : Nat → Nat → Nat} {u : Nat → Nat} (hK : K < 16) (hu : ∀ j, u j = if j < 16 then 1000 else M (K + 1) j) : zf_tab t K (va_up M (K + 1) (va_up u 0 0)) (K + 1) := by
  intro q h1 h2 s h3
  have e : q = K + 1 := by omega
  subst e
  rw [va_up_self, Nat.sub_self]
  simp only [pz_F]
  by_cases h : s = 0
  · subst h
    rw [va_up_self, if_pos rfl]
  · rw [va_up_ne _ _ h, hu, if_pos (by omega), if_neg h]
/-- one row of the table, up to place j -/
theorem zf_row_step {t : Nat → Nat} {K i j : Nat} {M : Nat → Nat → Nat} {n : Nat} (hK : K = 2 ^ n - 1) (hi : 1 ≤ i) (hiK : i ≤ K) (hj : j ≤ K) (hT : zf_tab t K M (i + 1)) :
    min (M (i + 1) j + pz_c t i) (M (i + 1) (j ^^^ i) + 1) = pz_F t K (K + 1 - i) j := by
  have hp : 0 < 2 ^ n := Nat.two_pow_pos n
  have hx : j ^^^ i < 2 ^ n := Nat.xor_lt_two_pow (by omega) (by omega)
  obtain ⟨d, hd⟩ : ∃ d, K = i + d := ⟨K - i, by omega⟩
  rw [hT (i + 1) (Nat.le_refl _) (by omega) j hj, hT (i + 1) (Nat.le_refl _) (by omega) (j ^^^ i) (by omega), show K + 1 - (i + 1) = d by omega, show K + 1 - i = d + 1 by omega]
  show _ = min (pz_F t K d j + pz_c t (K - d)) (pz_F t K d (j ^^^ (K - d)) + 1)
  rw [show K - d = i by omega]
theorem zf_M_le {t : Nat → Nat} {K p : Nat} {M : Nat → Nat → Nat} (hT : zf_tab t K M p) {q s : Nat} (h1 : p ≤ q) (h2 : q ≤ K + 1) (hs : s ≤ K) : M q s ≤ 1000 + (K + 1) := by
  rw [hT q h1 h2 s hs]
  have := pz_F_le t K (K + 1 - q) s
  omega
theorem zf_tab_next {t : Nat → Nat} {K i : Nat} {M : Nat → Nat → Nat} (hT : zf_tab t K M (i + 1)) (hr : ∀ s, s ≤ K → M i s = pz_F t K (K + 1 - i) s) : zf_tab t K M i := by
  intro q h1 h2 s h3
  rcases Nat.lt_or_ge i q with h | h
  · exact hT q h h2 s h3
  · have e : q = i := by omega
    subst e
    exact hr s h3
theorem zf_tab_up {t : Nat → Nat} {K i : Nat} {M : Nat → Nat → Nat} (hT : zf_tab t K M (i + 1)) (f : Nat → Nat) : zf_tab t K (va_up M i f) (i + 1) := by
  intro q h1 h2 s h3
  rw [va_up_ne M f (show q ≠ i by omega)]
  exact hT q h1 h2 s h3
theorem zf_row_up {t : Nat → Nat} {K i j v : Nat} {M : Nat → Nat → Nat} (hr : ∀ s, s < j → M i s = pz_F t K (K + 1 - i) s) (hv : v = pz_F t K (K + 1 - i) j) : ∀ s, s < j + 1 → va_up M i (va_up (M i) j v) i s = pz_F t K (K + 1 - i) s := by
  intro s hs
  rw [va_up_self]
  by_cases e : s = j
  · subst e
    rw [va_up_self, hv]
  · rw [va_up_ne _ _ e]
    exact hr s (by omega)
theorem zf_c_le (t : Nat → Nat) (p : Nat) : pz_c t p ≤ 1 := by unfold pz_c; split <;> omega
/-- a shift of the phases -/
def zf_shift (st sz K : Nat) (t : Nat → Nat) : Nat → Nat := fun j => if 1 ≤ j ∧ j ≤ K ∧ j &&& st = j then (t j + sz) % 8 else t j
theorem zf_shift0 {st sz i : Nat} {t : Nat → Nat} (h : ¬ (i + 1) &&& st = i + 1) : zf_shift st sz i t = zf_shift st sz (i + 1) t := by
  funext j
  unfold zf_shift
  by_cases e : j = i + 1
  · subst e
    rw [if_neg (by omega), if_neg (fun q => h q.2.2)]
  · by_cases q : 1 ≤ j ∧ j ≤ i ∧ j &&& st = j
    · rw [if_pos q, if_pos ⟨q.1, by omega, q.2.2⟩]
    · rw [if_neg q, if_neg (fun x => q ⟨x.1, by omega, x.2.2⟩)]
theorem zf_shift1 {st sz i : Nat} {t : Nat → Nat} (h : (i + 1) &&& st = i + 1) : va_up (zf_shift st sz i t) (i + 1) ((zf_shift st sz i t (i + 1) + sz) % 8) = zf_shift st sz (i + 1) t := by
  funext j
  by_cases e : j = i + 1
  · subst e
    rw [va_up_self]
    unfold zf_shift
    rw [if_neg (by omega), if_pos ⟨by omega, Nat.le_refl _, h⟩]
  · rw [va_up_ne _ _ e]
    unfold zf_shift
    by_cases q : 1 ≤ j ∧ j ≤ i ∧ j &&& st = j
    · rw [if_pos q, if_pos ⟨q.1, by omega, q.2.2⟩]
    · rw [if_neg q, if_neg (fun x => q ⟨x.1, by omega, x.2.2⟩)]
theorem zf_shift_lt {st sz K : Nat} {t : Nat → Nat} (h : ∀ j, t j < 8) (j : Nat) : zf_shift st sz K t j < 8 := by
  unfold zf_shift
  split
  · omega
  · exact h j
theorem zs_size_le : ∀ j, j < 6 → zs_size j ≤ 2 := by decide
theorem zf_shift_0 {st sz : Nat} {t : Nat → Nat} : t = zf_shift st sz 0 t := by
  funext j
  unfold zf_shift
  rw [if_neg (by omega)]
theorem zf_up8 {t : Nat → Nat} (h : ∀ j, t j < 8) {k v : Nat} (hv : v < 8) : ∀ j, va_up t k v j < 8 := by
  intro j
  by_cases e : j = k
  · subst e
    rw [va_up_self]
    exact hv
  · rw [va_up_ne _ _ e]
    exact h j
