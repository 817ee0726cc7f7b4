/-! what a plan answers -/
theorem zp_wl {nx : Nat → Nat → Nat} {s0 : Nat} {V : Nat → Prop} {st fr lb : Nat → Nat} {pw : Nat → List Nat} {cnt M : Nat} (h : bz_inv nx s0 V st fr lb pw cnt M) : ∀ (n i : Nat), i < n → i < cnt → (pw i).length ≤ i
  | 0, i, a, _ => absurd a (by omega)
  | n + 1, i, a, b => by
    rcases Nat.eq_zero_or_pos i with e | e
    · subst e
      rw [h.1.2.2]
      exact Nat.le_refl _
    · obtain ⟨⟨c1, -⟩, -, c3, -⟩ := h.2.1 i e b
      have := zp_wl h n (fr i) (by omega) (by omega)
      rw [c3, List.length_cons]
      omega
/-- of the word w (the newest join first): x NONE: how many joins, else the x-th one's number, NONE if there is none such -/
def zq_ans (w : List Nat) (x r : Int32) : Prop := (x = (-1) ∧ r = nI w.length) ∨ (∃ j, j < w.length ∧ x = nI j ∧ r = nI (w.getD (w.length - 1 - j) 0)) ∨ (x ≠ (-1) ∧ (∀ j, j < w.length → x ≠ nI j) ∧ r = (-1))
theorem zw_lt {n : Nat} {x : Int32} (hn : n < 2 ^ 31) (h1 : ¬ x < 0) (h2 : x < nI n) : ∃ j : Nat, j < n ∧ x = nI j := by
  obtain ⟨j, hj, rfl⟩ := nI_of h1
  exact ⟨j, (nI_ltI hj hn).mp h2, rfl⟩
theorem zq_neg {w : List Nat} {x : Int32} (hw : w.length < 2 ^ 31) (h0 : ¬ x = (-1)) (h : x < 0) : zq_ans w x (-1) := Or.inr (Or.inr ⟨h0, fun j hj e => zw_neg (n := w.length) hw h ⟨j, hj, e⟩, rfl⟩)
theorem zq_big {w : List Nat} {x : Int32} (hw : w.length < 2 ^ 31) (h0 : ¬ x = (-1)) (h : ¬ x < nI w.length) : zq_ans w x (-1) := Or.inr (Or.inr ⟨h0, fun j hj e => h (by rw [e]; exact nI_lt hj hw), rfl⟩)
theorem zp_drop {w : List Nat} {k l : Nat} {t : List Nat} (h : l :: t = w.drop k) : w.getD k 0 = l ∧ t = w.drop (k + 1) := by
  constructor
  · have := congrArg List.head? h
    rw [List.head?_drop, List.head?_cons] at this
    rw [List.getD_eq_getElem?_getD, ← this]
    rfl
  · have := congrArg List.tail h
    rw [List.tail_cons, List.tail_drop] at this
    exact this
theorem zk_im_object : Cond.instanceMethod objectInit ∈ zz_tbl := zz_in (List.mem_append_right _ (List.mem_of_getElem? (l := tables_1) (i := 15) (by decide +kernel))) (by decide +kernel)
theorem zk_cd_object : Cond.code objectInit ⟨#[0xb1]⟩ 1 none ∈ zz_tbl := zz_in (List.mem_append_right _ (List.mem_of_getElem? (l := tables_1) (i := 16) (by decide +kernel))) (by decide +kernel)
theorem zp_met0 (st : Nat → Nat) : zp_met st (fun _ => 0) 0 := by
  refine ⟨fun w => Nat.two_pow_pos 32, fun s hs => ?_⟩
  simp
theorem zp_I0 {n s0 : Nat} (h : bn_st n n = s0) (hs : s0 < 65536) : zp_I n (fun _ => s0) (fun _ => 0) (fun _ => 0) (fun _ => []) (va_up (fun _ => 0) 0 (s0 * 2 ^ 20 + 0 * 16 + 0)) (va_up (fun _ => 0) (s0 / 32) (((fun _ => 0 : Nat → Nat) (s0 / 32)) ||| 2 ^ (s0 % 32))) 1 0 := by
  refine ⟨bz_inv_start _ _ _ h.symm, fun i hi => ?_, ?_⟩
  · rw [show i = 0 by omega, va_up_self]
    exact ⟨rfl, hs, by decide, by decide⟩
  · have g := zp_met_up (s := s0) (zp_met0 (fun _ => s0)) hs
    refine ⟨g.1, fun x hx => (g.2 x hx).trans ⟨fun ⟨i, h1, h2⟩ => ⟨i, h1, ?_⟩, fun ⟨i, h1, h2⟩ => ⟨i, h1, ?_⟩⟩⟩
    · rw [show i = 0 by omega, va_up_self] at h2
      exact h2
    · rw [show i = 0 by omega, va_up_self]
      exact h2
