theorem zq_m1 {w : List Nat} {x : Int32} (hw : w.length < 2 ^ 31) (h : ¬ (-1) ≤ x) : zq_ans w x (-1) := by
  have h2 : x < 0 := by
    rw [Int32.le_iff_toInt_le] at h
    rw [Int32.lt_iff_toInt_lt]
    have e1 : (-1 : Int32).toInt = -1 := by decide
    have e2 : (0 : Int32).toInt = 0 := by decide
    omega
  exact zq_neg hw (fun e => h (by rw [e]; exact Int32.le_refl _)) h2
theorem zq_m2 {w : List Nat} {x : Int32} (hw : w.length < 2 ^ 31) (h : x < (-1)) : zq_ans w x (-1) :=
  zq_m1 hw (fun q => absurd h (Int32.not_lt.mpr q))
theorem zq_ge {w : List Nat} {x : Int32} (hw : w.length < 2 ^ 31) (h : nI w.length ≤ x) : ∀ j, j < w.length → x ≠ nI j := fun j hj e => nI_ge hj hw (e ▸ h)
theorem zq_jx' {w : List Nat} {x : Int32} (hw : w.length < 2 ^ 31) (h1 : (-1) ≤ x) (h2 : ¬ x = (-1)) (h3 : ¬ nI w.length ≤ x) : ∃ j, j < w.length ∧ x = nI j := by
  rcases pk_ix x hw with q | q | q
  · refine absurd ?_ h2
    have e1 : (-1 : Int32).toInt = -1 := by decide
    have e2 : (0 : Int32).toInt = 0 := by decide
    rw [Int32.le_iff_toInt_le] at h1
    rw [Int32.lt_iff_toInt_lt] at q
    exact Int32.toInt_inj.mp (by omega)
  · exact absurd q h3
  · exact q
theorem zq_jx {w : List Nat} {x : Int32} {A : Prop} [h : Decidable A] (hw : w.length < 2 ^ 31) (h1 : A) (h2 : ¬ x = (-1)) (h3 : ¬ nI w.length ≤ x) (hA : A → (-1) ≤ x := by first | exact fun h => h | exact fun h => Int32.not_lt.mp h) : ∃ j, j < w.length ∧ x = nI j := zq_jx' hw (hA h1) h2 h3
def zad (L : List Nat) : Nat → Nat := fun k => L.getD k 0
theorem zt_ways3 {n : Nat} (h1 : 1 ≤ n) (hn : n ≤ 4) (h : ¬ n = 4) : 2 ^ zms 2 (2 ^ n - 1) * 2 ^ (2 * zms 3 (2 ^ n - 1)) * 1 = 2 ^ (zs_shifts n + (2 ^ n - 1) - n) := by
  rcases (show n = 1 ∨ n = 2 ∨ n = 3 by omega) with rfl | rfl | rfl <;> decide +kernel
theorem zt_ways4 {n : Nat} (h1 : 1 ≤ n) (hn : n ≤ 4) (h : n = 4) : 2 ^ zms 2 (2 ^ n - 1) * 2 ^ (2 * zms 3 (2 ^ n - 1)) * 8 = 2 ^ (zs_shifts n + (2 ^ n - 1) - n) := by
  subst h
  decide +kernel
