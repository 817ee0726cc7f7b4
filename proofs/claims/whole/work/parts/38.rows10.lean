/-! the search as it stands: its queue with words, its numbers, its bits -/
def zp_I (n : Nat) (st fr lb : Nat → Nat) (pw : Nat → List Nat) (pl mt : Nat → Nat) (cnt M : Nat) : Prop := bz_inv (bn_nx n) (bn_st n n) (bn_V n) st fr lb pw cnt M ∧ zp_ok st fr lb pl cnt ∧ zp_met st mt cnt
def zp_cap (n pn : Nat) : Prop := ∀ (st : Nat → Nat) (c : Nat), (∀ i, i < c → ∃ w, bz_ok (bn_V n) w ∧ st i = bz_run (bn_nx n) (bn_st n n) w) → (∀ i j, i < c → j < c → st i = st j → i = j) → c ≤ pn
def zp_bd (n ml : Nat) : Prop := ∀ w, bz_ok (bn_V n) w → bz_run (bn_nx n) (bn_st n n) w < 65536 ∧ bz_run (bn_nx n) (bn_st n n) w / 32 < ml
theorem zp_V {n l : Nat} : bn_V n l ↔ (l / 4 < n ∧ l % 4 < n ∧ l / 4 ≠ l % 4) := by
  unfold bn_V bn_v
  simp only [Bool.and_eq_true, Bool.not_eq_true', decide_eq_true_eq, decide_eq_false_iff_not]
  exact ⟨fun ⟨⟨a, b⟩, c⟩ => ⟨a, b, c⟩, fun ⟨a, b, c⟩ => ⟨⟨a, b⟩, c⟩⟩
theorem zp_Vab {n a b : Nat} (ha : a < n) (hb : b < n) (hn : n ≤ 4) (h : ¬ a = b) : bn_V n (4 * a + b) ∧ 4 * a + b < 16 := by
  refine ⟨zp_V.mpr ⟨by omega, by omega, by omega⟩, by omega⟩
theorem zp_nx {n s a b : Nat} (hb : b < 4) : bn_nx n s (4 * a + b) = bn_with n s b (bn_par n s a) := by
  unfold bn_nx
  rw [show (4 * a + b) % 4 = b by omega, show (4 * a + b) / 4 = a by omega]
section ZI
variable {n : Nat} {st fr lb : Nat → Nat} {pw : Nat → List Nat} {pl mt : Nat → Nat} {cnt M : Nat}
theorem zp_next (h : zp_I n st fr lb pw pl mt cnt M) {pn ml k l : Nat} (hcap : zp_cap n pn) (hbd : zp_bd n ml) (hk : k < cnt) (hV : bn_V n l) (hl : l < 16) : bn_nx n (st k) l < 65536 ∧ bn_nx n (st k) l / 32 < ml ∧ ((∀ i, i < cnt → st i ≠ bn_nx n (st k) l) → cnt < pn) := by
  obtain ⟨a1, a2⟩ := bz_inv_word h.1 (k + 1) k (by omega) hk
  have hw : bz_ok (bn_V n) (l :: pw k) := bz_ok_cons.mpr ⟨⟨hV, hl⟩, a1⟩
  have hr : bz_run (bn_nx n) (bn_st n n) (l :: pw k) = bn_nx n (st k) l := by
    simp only [bz_run]
    rw [← a2]
  have hb := hbd _ hw
  rw [hr] at hb
  refine ⟨hb.1, hb.2, fun hne => ?_⟩
  refine hcap (va_up st cnt (bn_nx n (st k) l)) (cnt + 1) (fun i hi => ?_) (fun i j hi hj e => ?_)
  · by_cases q : i = cnt
    · subst q
      rw [va_up_self]
      exact ⟨_, hw, hr.symm⟩
    · rw [va_up_ne _ _ q]
      obtain ⟨b1, b2⟩ := bz_inv_word h.1 (i + 1) i (by omega) (by omega)
      exact ⟨pw i, b1, b2⟩
  · by_cases q : i = cnt
    · subst q
      by_cases q2 : j = i
      · exact q2.symm
      · rw [va_up_self, va_up_ne _ _ q2] at e
        exact absurd e.symm (hne j (by omega))
    · by_cases q2 : j = cnt
      · subst q2
        rw [va_up_self, va_up_ne _ _ q] at e
        exact absurd e (hne i (by omega))
      · rw [va_up_ne _ _ q, va_up_ne _ _ q2] at e
        exact h.1.2.2.2.1 i j (by omega) (by omega) e
theorem zp_old (h : zp_I n st fr lb pw pl mt cnt M) {k l : Nat} (hk : k < cnt) (hl : l < 16) (hM : M = 16 * k + l) (he : ∃ i, i < cnt ∧ st i = bn_nx n (st k) l) : zp_I n st fr lb pw pl mt cnt (M + 1) := by
  obtain ⟨i, h1, h2⟩ := he
  exact ⟨bz_inv_old h.1 hk hl hM h1 h2, h.2⟩
theorem zp_new (h : zp_I n st fr lb pw pl mt cnt M) {k l x : Nat} (hk : k < cnt) (hV : bn_V n l) (hl : l < 16) (hM : M = 16 * k + l) (hx : x = bn_nx n (st k) l) (hn : ∀ i, i < cnt → st i ≠ x) (hb : x < 65536) (hk2 : k < 65536) :
    zp_I n (va_up st cnt x) (va_up fr cnt k) (va_up lb cnt l) (va_up pw cnt (l :: pw k)) (va_up pl cnt (x * 2 ^ 20 + k * 16 + l)) (va_up mt (x / 32) (mt (x / 32) ||| 2 ^ (x % 32))) (cnt + 1) (M + 1) := by
  subst hx
  exact ⟨bz_inv_new h.1 hk hV hl hM hn, zp_ok_up h.2.1 hb hk2 hl, zp_met_up h.2.2 hb⟩
theorem zp_gap (h : zp_I n st fr lb pw pl mt cnt M) {M' : Nat} (hM : M ≤ M') (hg : ∀ i l, l < 16 → M ≤ 16 * i + l → 16 * i + l < M' → ¬ bn_V n l) : zp_I n st fr lb pw pl mt cnt M' := ⟨bz_inv_gap h.1 hM hg, h.2⟩
theorem zp_gap1 {k a b : Nat} (h : zp_I n st fr lb pw pl mt cnt (16 * k + 4 * a + b)) (hb : b < 4) (ha : a < 4) (hab : a = b) : zp_I n st fr lb pw pl mt cnt (16 * k + 4 * a + (b + 1)) := by
  refine zp_gap h (by omega) (fun i l h1 h2 h3 hV => ?_)
  obtain ⟨v1, v2, v3⟩ := zp_V.mp hV
  subst hab
  rcases (show a = 0 ∨ a = 1 ∨ a = 2 ∨ a = 3 by omega) with rfl | rfl | rfl | rfl <;> omega
theorem zp_gapb {k a : Nat} (hn : n ≤ 4) (ha : a < n) (h : zp_I n st fr lb pw pl mt cnt (16 * k + 4 * a + n)) : zp_I n st fr lb pw pl mt cnt (16 * k + 4 * (a + 1)) := by
  refine zp_gap h (by omega) (fun i l h1 h2 h3 hV => ?_)
  obtain ⟨v1, v2, v3⟩ := zp_V.mp hV
  omega
theorem zp_gapa {k : Nat} (hn : n ≤ 4) (h : zp_I n st fr lb pw pl mt cnt (16 * k + 4 * n)) : zp_I n st fr lb pw pl mt cnt (16 * (k + 1)) := by
  refine zp_gap h (by omega) (fun i l h1 h2 h3 hV => ?_)
  obtain ⟨v1, v2, v3⟩ := zp_V.mp hV
  omega
end ZI
/-- an earlier queue is the beginning of a later one -/
def zp_ext (st st' : Nat → Nat) (pw pw' : Nat → List Nat) (cnt cnt' : Nat) : Prop := cnt ≤ cnt' ∧ ∀ i, i < cnt → st' i = st i ∧ pw' i = pw i
theorem zp_ext_rf (st : Nat → Nat) (pw : Nat → List Nat) (cnt : Nat) : zp_ext st st pw pw cnt cnt := ⟨Nat.le_refl _, fun _ _ => ⟨rfl, rfl⟩⟩
theorem zp_ext_up {st st' : Nat → Nat} {pw pw' : Nat → List Nat} {cnt cnt' x : Nat} {q : List Nat} (h : zp_ext st st' pw pw' cnt cnt') : zp_ext st (va_up st' cnt' x) pw (va_up pw' cnt' q) cnt (cnt' + 1) := by
  refine ⟨by have := h.1; omega, fun i hi => ?_⟩
  have hne : i ≠ cnt' := by have := h.1; omega
  rw [va_up_ne _ _ hne, va_up_ne _ _ hne]
  exact h.2 i hi
theorem zp_ext_tr {s1 s2 s3 : Nat → Nat} {w1 w2 w3 : Nat → List Nat} {c1 c2 c3 : Nat} (h : zp_ext s1 s2 w1 w2 c1 c2) (g : zp_ext s2 s3 w2 w3 c2 c3) : zp_ext s1 s3 w1 w3 c1 c3 := by
  refine ⟨Nat.le_trans h.1 g.1, fun i hi => ?_⟩
  have a := h.2 i hi
  have b := g.2 i (Nat.lt_of_lt_of_le hi h.1)
  exact ⟨b.1.trans a.1, b.2.trans a.2⟩
