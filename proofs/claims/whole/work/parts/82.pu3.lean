/-! four wires: the columns of a map -/
def zq_bit (x0 x1 x2 x3 : Bool) (w : Nat) : Bool := if w = 0 then x0 else if w = 1 then x1 else if w = 2 then x2 else x3
def zq_col (j s : Nat) : Nat := (s.testBit j).toNat + 2 * (s.testBit (4 + j)).toNat + 4 * (s.testBit (8 + j)).toNat + 8 * (s.testBit (12 + j)).toNat
def zq_act (l v : Nat) : Nat := if v / 2 ^ (l / 4) % 2 = 1 then v ^^^ 2 ^ (l % 4) else v
theorem zq_bits : ∀ l, l < 16 → bn_v 4 l = true → ∀ x0 x1 x2 x3 : Bool,
    ((x0 ^^ (decide (0 = l % 4) && zq_bit x0 x1 x2 x3 (l / 4))).toNat + 2 * (x1 ^^ (decide (1 = l % 4) && zq_bit x0 x1 x2 x3 (l / 4))).toNat + 4 * (x2 ^^ (decide (2 = l % 4) && zq_bit x0 x1 x2 x3 (l / 4))).toNat + 8 * (x3 ^^ (decide (3 = l % 4) && zq_bit x0 x1 x2 x3 (l / 4))).toNat)
      = zq_act l (x0.toNat + 2 * x1.toNat + 4 * x2.toNat + 8 * x3.toNat) := by decide +kernel
theorem zq_tb {s l w j : Nat} (hw : w < 4) (hj : j < 4) : (bn_map 4 s l).testBit (4 * w + j) = (s.testBit (4 * w + j) ^^ (decide (w = l % 4) && s.testBit (4 * (l / 4) + j))) := by
  unfold bn_map bn_put bn_par
  rw [Nat.testBit_xor, zu_mulbit, Nat.testBit_mod_two_pow, Nat.testBit_div_two_pow]
  congr 1
  by_cases e : w = l % 4
  · have h1 : l % 4 * 4 ≤ 4 * w + j := by omega
    have h2 : 4 * w + j - l % 4 * 4 = j := by omega
    rw [h2]
    rw [decide_eq_true h1, decide_eq_true hj, decide_eq_true e, Bool.true_and, Bool.true_and, Bool.true_and, show j + l / 4 * 4 = 4 * (l / 4) + j by omega]
  · have h3 : (decide (l % 4 * 4 ≤ 4 * w + j) && decide (4 * w + j - l % 4 * 4 < 4)) = false := by
      rw [Bool.and_eq_false_iff, decide_eq_false_iff_not, decide_eq_false_iff_not]
      omega
    rw [← Bool.and_assoc, h3, decide_eq_false e, Bool.false_and, Bool.false_and]
theorem zq_sel {s l j : Nat} (hl : l < 16) : s.testBit (4 * (l / 4) + j) = zq_bit (s.testBit j) (s.testBit (4 + j)) (s.testBit (8 + j)) (s.testBit (12 + j)) (l / 4) := by
  unfold zq_bit
  rcases (show l / 4 = 0 ∨ l / 4 = 1 ∨ l / 4 = 2 ∨ l / 4 = 3 by omega) with e | e | e | e <;> rw [e]
  · rw [if_pos rfl, Nat.mul_zero, Nat.zero_add]
  · rfl
  · rfl
  · rfl
theorem zq_colact {s l j : Nat} (hV : bn_V 4 l) (hl : l < 16) (hj : j < 4) : zq_col j (bn_map 4 s l) = zq_act l (zq_col j s) := by
  have t0 := zq_tb (s := s) (l := l) (w := 0) (j := j) (by decide) hj
  have t1 := zq_tb (s := s) (l := l) (w := 1) (j := j) (by decide) hj
  have t2 := zq_tb (s := s) (l := l) (w := 2) (j := j) (by decide) hj
  have t3 := zq_tb (s := s) (l := l) (w := 3) (j := j) (by decide) hj
  rw [zq_sel hl] at t0 t1 t2 t3
  rw [Nat.mul_zero, Nat.zero_add] at t0
  unfold zq_col
  rw [t0, show (4 + j) = 4 * 1 + j from rfl, t1, show (8 + j) = 4 * 2 + j from rfl, t2, show (12 + j) = 4 * 3 + j from rfl, t3]
  exact zq_bits l hl hV _ _ _ _
theorem zq_collt (j s : Nat) : zq_col j s < 16 := by
  unfold zq_col
  cases s.testBit j <;> cases s.testBit (4 + j) <;> cases s.testBit (8 + j) <;> cases s.testBit (12 + j) <;> decide
theorem zq_b4 : ∀ x0 x1 x2 x3 y0 y1 y2 y3 : Bool, (x0.toNat + 2 * x1.toNat + 4 * x2.toNat + 8 * x3.toNat = y0.toNat + 2 * y1.toNat + 4 * y2.toNat + 8 * y3.toNat) → x0 = y0 ∧ x1 = y1 ∧ x2 = y2 ∧ x3 = y3 := by decide +kernel
theorem zq_inj {s t : Nat} (hs : s < 65536) (ht : t < 65536) (h : ∀ j, j < 4 → zq_col j s = zq_col j t) : s = t := by
  have g : ∀ w j, w < 4 → j < 4 → s.testBit (4 * w + j) = t.testBit (4 * w + j) := by
    intro w j hw hj
    have e := zq_b4 _ _ _ _ _ _ _ _ (h j hj)
    rcases (show w = 0 ∨ w = 1 ∨ w = 2 ∨ w = 3 by omega) with rfl | rfl | rfl | rfl
    · rw [Nat.mul_zero, Nat.zero_add]
      exact e.1
    · exact e.2.1
    · exact e.2.2.1
    · exact e.2.2.2
  apply Nat.eq_of_testBit_eq
  intro i
  rcases Nat.lt_or_ge i 16 with q | q
  · have := g (i / 4) (i % 4) (by omega) (by omega)
    rwa [Nat.div_add_mod] at this
  · have hp : (65536 : Nat) ≤ 2 ^ i := (Nat.pow_le_pow_right (n := 2) (by decide) q : 2 ^ 16 ≤ 2 ^ i)
    rw [Nat.testBit_lt_two_pow (Nat.lt_of_lt_of_le hs hp), Nat.testBit_lt_two_pow (Nat.lt_of_lt_of_le ht hp)]
theorem zq_act_lin : ∀ l, l < 16 → ∀ u, u < 16 → ∀ v, v < 16 → bn_v 4 l = true → zq_act l (u ^^^ v) = zq_act l u ^^^ zq_act l v := by decide +kernel
theorem zq_act_0 : ∀ l, l < 16 → bn_v 4 l = true → zq_act l 0 = 0 := by decide +kernel
theorem zq_act_i : ∀ l, l < 16 → ∀ v, v < 16 → bn_v 4 l = true → zq_act l (zq_act l v) = v ∧ zq_act l v < 16 := by decide +kernel
theorem zq_xlt {a b : Nat} (ha : a < 16) (hb : b < 16) : a ^^^ b < 16 := Nat.xor_lt_two_pow (n := 4) ha hb
/-- the exclusive or of some of the columns -/
def zq_pk (x c : Nat) (i : Nat) : Nat := if x / 2 ^ i % 2 = 1 then c else 0
def zq_lin (s x : Nat) : Nat := zq_pk x (zq_col 0 s) 0 ^^^ zq_pk x (zq_col 1 s) 1 ^^^ zq_pk x (zq_col 2 s) 2 ^^^ zq_pk x (zq_col 3 s) 3
theorem zq_pklt {x c i : Nat} (h : c < 16) : zq_pk x c i < 16 := by
  unfold zq_pk
  split
  · exact h
  · decide
theorem zq_pka {x c i l : Nat} (hl : l < 16) (hV : bn_V 4 l) : zq_pk x (zq_act l c) i = zq_act l (zq_pk x c i) := by
  unfold zq_pk
  split
  · rfl
  · exact (zq_act_0 l hl hV).symm
theorem zq_lina {s l x : Nat} (hV : bn_V 4 l) (hl : l < 16) : zq_lin (bn_map 4 s l) x = zq_act l (zq_lin s x) := by
  unfold zq_lin
  rw [zq_colact hV hl (by decide), zq_colact hV hl (by decide), zq_colact hV hl (by decide), zq_colact hV hl (by decide), zq_pka hl hV, zq_pka hl hV, zq_pka hl hV, zq_pka hl hV]
  have a0 := zq_pklt (x := x) (i := 0) (zq_collt 0 s)
  have a1 := zq_pklt (x := x) (i := 1) (zq_collt 1 s)
  have a2 := zq_pklt (x := x) (i := 2) (zq_collt 2 s)
  have a3 := zq_pklt (x := x) (i := 3) (zq_collt 3 s)
  rw [zq_act_lin l hl _ (zq_xlt (zq_xlt a0 a1) a2) _ a3 hV, zq_act_lin l hl _ (zq_xlt a0 a1) _ a2 hV, zq_act_lin l hl _ a0 _ a1 hV]
theorem zq_linlt (s x : Nat) : zq_lin s x < 16 := zq_xlt (zq_xlt (zq_xlt (zq_pklt (zq_collt _ _)) (zq_pklt (zq_collt _ _))) (zq_pklt (zq_collt _ _))) (zq_pklt (zq_collt _ _))
def zq_Q (s : Nat) : Prop := s < 65536 ∧ ∀ x, 1 ≤ x → x < 16 → zq_lin s x ≠ 0
theorem zq_Qs0 : ∀ x, x < 16 → 1 ≤ x → zq_lin (bn_s0 4 4) x ≠ 0 := by decide +kernel
theorem zq_Qs : zq_Q (bn_s0 4 4) := ⟨by decide +kernel, fun x a b => zq_Qs0 x b a⟩
theorem zq_Qn {s l : Nat} (h : zq_Q s) (hV : bn_V 4 l) (hl : l < 16) : zq_Q (bn_map 4 s l) := by
  have hv := zp_V.mp hV
  refine ⟨zp_put (by decide) (by decide) h.1 hv.2.1 (Nat.mod_lt _ (by decide)), fun x a b e => ?_⟩
  rw [zq_lina hV hl] at e
  have := (zq_act_i l hl _ (zq_linlt s x) hV).1
  rw [e, zq_act_0 l hl hV] at this
  exact h.2 x a b this.symm
theorem zq_Qr : ∀ w, bz_ok (bn_V 4) w → zq_Q (bz_run (bn_map 4) (bn_s0 4 4) w)
  | [], _ => zq_Qs
  | l :: w, h => zq_Qn (zq_Qr w (bz_ok_tl h)) (h l List.mem_cons_self).1 (h l List.mem_cons_self).2
/-- a join twice is none -/
theorem zq_inv {s l : Nat} (hs : s < 65536) (hV : bn_V 4 l) (hl : l < 16) : bn_map 4 (bn_map 4 s l) l = s := by
  have hv := zp_V.mp hV
  have h1 : bn_map 4 s l < 65536 := zp_put (by decide) (by decide) hs hv.2.1 (Nat.mod_lt _ (by decide))
  refine zq_inj (zp_put (by decide) (by decide) h1 hv.2.1 (Nat.mod_lt _ (by decide))) hs (fun j hj => ?_)
  have e1 := zq_colact (s := bn_map 4 s l) hV hl hj
  have e2 := zq_colact (s := s) hV hl hj
  have : zq_col j (bn_map 4 (bn_map 4 s l) l) = zq_act l (zq_act l (zq_col j s)) := by rw [e1, e2]
  exact this.trans (zq_act_i l hl _ (zq_collt j s) hV).1
def zq_ap (s : Nat) : List Nat → Nat
  | [] => s
  | l :: w => zq_ap (bn_map 4 s l) w
def zq_av (v : Nat) : List Nat → Nat
  | [] => v
  | l :: w => zq_av (zq_act l v) w
theorem zq_back : ∀ (w : List Nat) (s : Nat), s < 65536 → bz_ok (bn_V 4) w → bz_run (bn_map 4) (zq_ap s w) w = s
  | [], _, _, _ => rfl
  | l :: w, s, hs, h => by
    obtain ⟨hV, hl⟩ := h l List.mem_cons_self
    have hv := zp_V.mp hV
    have h1 : bn_map 4 s l < 65536 := zp_put (by decide) (by decide) hs hv.2.1 (Nat.mod_lt _ (by decide))
    show bn_map 4 (bz_run (bn_map 4) (zq_ap (bn_map 4 s l) w) w) l = s
    rw [zq_back w (bn_map 4 s l) h1 (bz_ok_tl h)]
    exact zq_inv hs hV hl
theorem zq_apQ : ∀ (w : List Nat) (s : Nat), zq_Q s → bz_ok (bn_V 4) w → zq_Q (zq_ap s w)
  | [], _, hs, _ => hs
  | l :: w, s, hs, h => zq_apQ w _ (zq_Qn hs (h l List.mem_cons_self).1 (h l List.mem_cons_self).2) (bz_ok_tl h)
theorem zq_apc {j : Nat} (hj : j < 4) : ∀ (w : List Nat) (s : Nat), bz_ok (bn_V 4) w → zq_col j (zq_ap s w) = zq_av (zq_col j s) w
  | [], _, _ => rfl
  | l :: w, s, h => by
    show zq_col j (zq_ap (bn_map 4 s l) w) = zq_av (zq_act l (zq_col j s)) w
    rw [zq_apc hj w _ (bz_ok_tl h), zq_colact (h l List.mem_cons_self).1 (h l List.mem_cons_self).2 hj]
def zq_tab : List (List (List Nat)) := [
  [[], [], [4, 1], [1], [8, 2], [2], [4, 2, 1], [2, 1], [12, 3], [3], [4, 3, 1], [3, 1], [8, 3, 2], [3, 2], [4, 3, 2, 1], [3, 2, 1]],
  [[], [], [], [4], [9, 6], [9, 6, 4], [6], [6, 4], [13, 7], [13, 7, 4], [7], [7, 4], [9, 7, 6], [9, 7, 6, 4], [7, 6], [7, 6, 4]],
  [[], [], [], [], [], [8], [9], [9, 8], [14, 11], [14, 11, 8], [14, 11, 9], [14, 11, 9, 8], [11], [11, 8], [11, 9], [11, 9, 8]],
  [[], [], [], [], [], [], [], [], [], [12], [13], [13, 12], [14], [14, 12], [14, 13], [14, 13, 12]]]
def zq_w (i v : Nat) : List Nat := (zq_tab.getD i []).getD v []
theorem zq_wok : ∀ i, i < 4 → ∀ v, v < 16 → 2 ^ i ≤ v → zq_av v (zq_w i v) = 2 ^ i ∧ (zq_w i v).length ≤ 4 ∧ ((zq_w i v).all fun l => bn_v 4 l && decide (l < 16)) = true ∧ ∀ k, k < i → zq_av (2 ^ k) (zq_w i v) = 2 ^ k := by decide +kernel
theorem zq_okw {i v : Nat} (hi : i < 4) (hv : v < 16) (h : 2 ^ i ≤ v) : bz_ok (bn_V 4) (zq_w i v) := fun l hl => by
  have := List.all_eq_true.mp (zq_wok i hi v hv h).2.2.1 l hl
  rw [Bool.and_eq_true] at this
  exact ⟨this.1, of_decide_eq_true this.2⟩
theorem zq_ap_app (u v : List Nat) : ∀ s, zq_ap s (u ++ v) = zq_ap (zq_ap s u) v := by
  induction u with
  | nil => exact fun _ => rfl
  | cons l u ih => exact fun s => ih _
theorem zq_lin0 : ∀ c0, c0 < 16 → (zq_pk 1 c0 0 ^^^ zq_pk 1 0 1 ^^^ zq_pk 1 0 2 ^^^ zq_pk 1 0 3 ≠ 0) → 1 ≤ c0 := by decide +kernel
theorem zq_st0 {s : Nat} (h : zq_Q s) : 2 ^ 0 ≤ zq_col 0 s := by
  have := h.2 1 (by decide) (by decide)
  rcases Nat.eq_zero_or_pos (zq_col 0 s) with e | e
  · refine absurd ?_ this
    unfold zq_lin
    rw [e]
    show (0 ^^^ 0 ^^^ 0 ^^^ 0 : Nat) = 0
    decide
  · exact e
theorem zq_lin1 : ∀ c, c < 2 → zq_pk (2 + c) 1 0 ^^^ zq_pk (2 + c) c 1 ^^^ 0 ^^^ 0 = 0 := by decide +kernel
theorem zq_lin2 : ∀ c, c < 4 → zq_pk (4 + c) 1 0 ^^^ zq_pk (4 + c) 2 1 ^^^ zq_pk (4 + c) c 2 ^^^ 0 = 0 := by decide +kernel
theorem zq_lin3 : ∀ c, c < 8 → zq_pk (8 + c) 1 0 ^^^ zq_pk (8 + c) 2 1 ^^^ zq_pk (8 + c) 4 2 ^^^ zq_pk (8 + c) c 3 = 0 := by decide +kernel
theorem zq_pk0 : ∀ x, x < 16 → ∀ i, i < 4 → x < 2 ^ i → ∀ c, c < 16 → zq_pk x c i = 0 := by decide +kernel
theorem zq_st1 {s : Nat} (h : zq_Q s) (h0 : zq_col 0 s = 1) : 2 ^ 1 ≤ zq_col 1 s := by
  rcases Nat.lt_or_ge (zq_col 1 s) (2 ^ 1) with e | e
  · refine absurd ?_ (h.2 (2 + zq_col 1 s) (by omega) (by omega))
    unfold zq_lin
    rw [h0, zq_pk0 _ (by omega) 2 (by decide) (by omega) _ (zq_collt 2 s), zq_pk0 _ (by omega) 3 (by decide) (by omega) _ (zq_collt 3 s)]
    exact zq_lin1 _ e
  · exact e
theorem zq_st2 {s : Nat} (h : zq_Q s) (h0 : zq_col 0 s = 1) (h1 : zq_col 1 s = 2) : 2 ^ 2 ≤ zq_col 2 s := by
  rcases Nat.lt_or_ge (zq_col 2 s) (2 ^ 2) with e | e
  · refine absurd ?_ (h.2 (4 + zq_col 2 s) (by omega) (by omega))
    unfold zq_lin
    rw [h0, h1, zq_pk0 _ (by omega) 3 (by decide) (by omega) _ (zq_collt 3 s)]
    exact zq_lin2 _ e
  · exact e
theorem zq_st3 {s : Nat} (h : zq_Q s) (h0 : zq_col 0 s = 1) (h1 : zq_col 1 s = 2) (h2 : zq_col 2 s = 4) : 2 ^ 3 ≤ zq_col 3 s := by
  rcases Nat.lt_or_ge (zq_col 3 s) (2 ^ 3) with e | e
  · refine absurd ?_ (h.2 (8 + zq_col 3 s) (by omega) (by omega))
    unfold zq_lin
    rw [h0, h1, h2]
    exact zq_lin3 _ e
  · exact e
theorem zq_s0c : ∀ j, j < 4 → zq_col j (bn_s0 4 4) = 2 ^ j := by decide +kernel
/-- every map of four wires has a short word -/
theorem zq_short {s : Nat} (h : zq_Q s) : ∃ v, bz_ok (bn_V 4) v ∧ v.length ≤ 64 ∧ bz_run (bn_map 4) (bn_s0 4 4) v = s := by
  have a0 := zq_st0 h
  have ok0 := zq_okw (i := 0) (by decide) (zq_collt 0 s) a0
  have w0 := zq_wok 0 (by decide) _ (zq_collt 0 s) a0
  have Q1 := zq_apQ _ _ h ok0
  have c10 : zq_col 0 (zq_ap s (zq_w 0 (zq_col 0 s))) = 1 := by rw [zq_apc (by decide) _ _ ok0]; exact w0.1
  generalize hs1 : zq_ap s (zq_w 0 (zq_col 0 s)) = s1 at Q1 c10
  have a1 := zq_st1 Q1 c10
  have ok1 := zq_okw (i := 1) (by decide) (zq_collt 1 s1) a1
  have w1 := zq_wok 1 (by decide) _ (zq_collt 1 s1) a1
  have Q2 := zq_apQ _ _ Q1 ok1
  have c20 : zq_col 0 (zq_ap s1 (zq_w 1 (zq_col 1 s1))) = 1 := by rw [zq_apc (by decide) _ _ ok1, c10]; exact w1.2.2.2 0 (by decide)
  have c21 : zq_col 1 (zq_ap s1 (zq_w 1 (zq_col 1 s1))) = 2 := by rw [zq_apc (by decide) _ _ ok1]; exact w1.1
  generalize hs2 : zq_ap s1 (zq_w 1 (zq_col 1 s1)) = s2 at Q2 c20 c21
  have a2 := zq_st2 Q2 c20 c21
  have ok2 := zq_okw (i := 2) (by decide) (zq_collt 2 s2) a2
  have w2 := zq_wok 2 (by decide) _ (zq_collt 2 s2) a2
  have Q3 := zq_apQ _ _ Q2 ok2
  have c30 : zq_col 0 (zq_ap s2 (zq_w 2 (zq_col 2 s2))) = 1 := by rw [zq_apc (by decide) _ _ ok2, c20]; exact w2.2.2.2 0 (by decide)
  have c31 : zq_col 1 (zq_ap s2 (zq_w 2 (zq_col 2 s2))) = 2 := by rw [zq_apc (by decide) _ _ ok2, c21]; exact w2.2.2.2 1 (by decide)
  have c32 : zq_col 2 (zq_ap s2 (zq_w 2 (zq_col 2 s2))) = 4 := by rw [zq_apc (by decide) _ _ ok2]; exact w2.1
  generalize hs3 : zq_ap s2 (zq_w 2 (zq_col 2 s2)) = s3 at Q3 c30 c31 c32
  have a3 := zq_st3 Q3 c30 c31 c32
  have ok3 := zq_okw (i := 3) (by decide) (zq_collt 3 s3) a3
  have w3 := zq_wok 3 (by decide) _ (zq_collt 3 s3) a3
  have Q4 := zq_apQ _ _ Q3 ok3
  have c40 : zq_col 0 (zq_ap s3 (zq_w 3 (zq_col 3 s3))) = 1 := by rw [zq_apc (by decide) _ _ ok3, c30]; exact w3.2.2.2 0 (by decide)
  have c41 : zq_col 1 (zq_ap s3 (zq_w 3 (zq_col 3 s3))) = 2 := by rw [zq_apc (by decide) _ _ ok3, c31]; exact w3.2.2.2 1 (by decide)
  have c42 : zq_col 2 (zq_ap s3 (zq_w 3 (zq_col 3 s3))) = 4 := by rw [zq_apc (by decide) _ _ ok3, c32]; exact w3.2.2.2 2 (by decide)
  have c43 : zq_col 3 (zq_ap s3 (zq_w 3 (zq_col 3 s3))) = 8 := by rw [zq_apc (by decide) _ _ ok3]; exact w3.1
  have e4 : zq_ap s3 (zq_w 3 (zq_col 3 s3)) = bn_s0 4 4 := zq_inj Q4.1 (by decide +kernel) (fun j hj => by
    rw [zq_s0c j hj]
    rcases (show j = 0 ∨ j = 1 ∨ j = 2 ∨ j = 3 by omega) with rfl | rfl | rfl | rfl
    · exact c40
    · exact c41
    · exact c42
    · exact c43)
  have ok := bz_ok_app.mpr ⟨ok0, bz_ok_app.mpr ⟨ok1, bz_ok_app.mpr ⟨ok2, ok3⟩⟩⟩
  refine ⟨_, ok, ?_, ?_⟩
  · simp only [List.length_append]
    have := w0.2.1
    have := w1.2.1
    have := w2.2.1
    have := w3.2.1
    omega
  · have b := zq_back _ s h.1 ok
    rw [zq_ap_app, zq_ap_app, zq_ap_app, hs1, hs2, hs3, e4] at b
    exact b
/-- how many maps there are -/
def zq_k1 (a : Nat) : Nat := 2 ^ 0 ||| 2 ^ a
def zq_k2 (a b : Nat) : Nat := zq_k1 a ||| (2 ^ b ||| 2 ^ (a ^^^ b))
def zq_k3 (a b c : Nat) : Nat := zq_k2 a b ||| ((2 ^ c ||| 2 ^ (a ^^^ c)) ||| (2 ^ (b ^^^ c) ||| 2 ^ (a ^^^ b ^^^ c)))
def zq_fl (m : Nat) : List Nat := (List.range 16).filter (fun c => !m.testBit c)
def zq_L : List Nat := (zq_fl 1).flatMap fun a => (zq_fl (zq_k1 a)).flatMap fun b => (zq_fl (zq_k2 a b)).flatMap fun c => (zq_fl (zq_k3 a b c)).map fun d => ((a * 16 + b) * 16 + c) * 16 + d
theorem zq_Ll : zq_L.length = 20160 := by
  unfold zq_L
  simp only [List.length_flatMap, List.length_map]
  decide +kernel
theorem zq_flm {m c : Nat} (hc : c < 16) (h : m.testBit c = false) : c ∈ zq_fl m := List.mem_filter.mpr ⟨List.mem_range.mpr hc, by rw [h]; rfl⟩
theorem zq_2p {a b : Nat} (h : a ≠ b) : (2 ^ a).testBit b = false := by
  rw [Nat.testBit_two_pow]
  exact decide_eq_false h
theorem zq_xx {a b : Nat} (h : a = b) : a ^^^ b = 0 := by rw [h, Nat.xor_self]
theorem zq_inL {s : Nat} (h : zq_Q s) : ((zq_col 0 s * 16 + zq_col 1 s) * 16 + zq_col 2 s) * 16 + zq_col 3 s ∈ zq_L := by
  have q := h.2
  unfold zq_lin at q
  have l0 := zq_collt 0 s
  have l1 := zq_collt 1 s
  have l2 := zq_collt 2 s
  have l3 := zq_collt 3 s
  generalize zq_col 0 s = a at q l0 ⊢
  generalize zq_col 1 s = b at q l1 ⊢
  generalize zq_col 2 s = c at q l2 ⊢
  generalize zq_col 3 s = d at q l3 ⊢
  have q1 : ¬ 0 = a := fun e => q 1 (by decide) (by decide) (by subst e; show (0 ^^^ 0 ^^^ 0 ^^^ 0 : Nat) = 0; decide)
  have q2 : ¬ 0 = b := fun e => q 2 (by decide) (by decide) (by subst e; show (0 ^^^ 0 ^^^ 0 ^^^ 0 : Nat) = 0; decide)
  have x3 : zq_pk 3 a 0 ^^^ zq_pk 3 b 1 ^^^ zq_pk 3 c 2 ^^^ zq_pk 3 d 3 = a ^^^ b := by show a ^^^ b ^^^ 0 ^^^ 0 = _; rw [Nat.xor_zero, Nat.xor_zero]
  have x4 : zq_pk 4 a 0 ^^^ zq_pk 4 b 1 ^^^ zq_pk 4 c 2 ^^^ zq_pk 4 d 3 = c := by show 0 ^^^ 0 ^^^ c ^^^ 0 = _; rw [Nat.xor_zero, Nat.xor_zero, Nat.zero_xor]
  have x5 : zq_pk 5 a 0 ^^^ zq_pk 5 b 1 ^^^ zq_pk 5 c 2 ^^^ zq_pk 5 d 3 = a ^^^ c := by show a ^^^ 0 ^^^ c ^^^ 0 = _; rw [Nat.xor_zero, Nat.xor_zero]
  have x6 : zq_pk 6 a 0 ^^^ zq_pk 6 b 1 ^^^ zq_pk 6 c 2 ^^^ zq_pk 6 d 3 = b ^^^ c := by show 0 ^^^ b ^^^ c ^^^ 0 = _; rw [Nat.xor_zero, Nat.zero_xor]
  have x7 : zq_pk 7 a 0 ^^^ zq_pk 7 b 1 ^^^ zq_pk 7 c 2 ^^^ zq_pk 7 d 3 = a ^^^ b ^^^ c := by show a ^^^ b ^^^ c ^^^ 0 = _; rw [Nat.xor_zero]
  have x8 : zq_pk 8 a 0 ^^^ zq_pk 8 b 1 ^^^ zq_pk 8 c 2 ^^^ zq_pk 8 d 3 = d := by show 0 ^^^ 0 ^^^ 0 ^^^ d = _; rw [Nat.xor_zero, Nat.xor_zero, Nat.zero_xor]
  have x9 : zq_pk 9 a 0 ^^^ zq_pk 9 b 1 ^^^ zq_pk 9 c 2 ^^^ zq_pk 9 d 3 = a ^^^ d := by show a ^^^ 0 ^^^ 0 ^^^ d = _; rw [Nat.xor_zero, Nat.xor_zero]
  have x10 : zq_pk 10 a 0 ^^^ zq_pk 10 b 1 ^^^ zq_pk 10 c 2 ^^^ zq_pk 10 d 3 = b ^^^ d := by show 0 ^^^ b ^^^ 0 ^^^ d = _; rw [Nat.xor_zero, Nat.zero_xor]
  have x11 : zq_pk 11 a 0 ^^^ zq_pk 11 b 1 ^^^ zq_pk 11 c 2 ^^^ zq_pk 11 d 3 = a ^^^ b ^^^ d := by show a ^^^ b ^^^ 0 ^^^ d = _; rw [Nat.xor_zero]
  have x12 : zq_pk 12 a 0 ^^^ zq_pk 12 b 1 ^^^ zq_pk 12 c 2 ^^^ zq_pk 12 d 3 = c ^^^ d := by show 0 ^^^ 0 ^^^ c ^^^ d = _; rw [Nat.xor_zero, Nat.zero_xor]
  have x13 : zq_pk 13 a 0 ^^^ zq_pk 13 b 1 ^^^ zq_pk 13 c 2 ^^^ zq_pk 13 d 3 = a ^^^ c ^^^ d := by show a ^^^ 0 ^^^ c ^^^ d = _; rw [Nat.xor_zero]
  have x14 : zq_pk 14 a 0 ^^^ zq_pk 14 b 1 ^^^ zq_pk 14 c 2 ^^^ zq_pk 14 d 3 = b ^^^ c ^^^ d := by show 0 ^^^ b ^^^ c ^^^ d = _; rw [Nat.zero_xor]
  have y3 : a ≠ b := fun e => q 3 (by decide) (by decide) (by rw [x3]; exact zq_xx e)
  have y4 : 0 ≠ c := fun e => q 4 (by decide) (by decide) (by rw [x4]; exact e.symm)
  have y5 : a ≠ c := fun e => q 5 (by decide) (by decide) (by rw [x5]; exact zq_xx e)
  have y6 : b ≠ c := fun e => q 6 (by decide) (by decide) (by rw [x6]; exact zq_xx e)
  have y7 : a ^^^ b ≠ c := fun e => q 7 (by decide) (by decide) (by rw [x7]; exact zq_xx e)
  have y8 : 0 ≠ d := fun e => q 8 (by decide) (by decide) (by rw [x8]; exact e.symm)
  have y9 : a ≠ d := fun e => q 9 (by decide) (by decide) (by rw [x9]; exact zq_xx e)
  have y10 : b ≠ d := fun e => q 10 (by decide) (by decide) (by rw [x10]; exact zq_xx e)
  have y11 : a ^^^ b ≠ d := fun e => q 11 (by decide) (by decide) (by rw [x11]; exact zq_xx e)
  have y12 : c ≠ d := fun e => q 12 (by decide) (by decide) (by rw [x12]; exact zq_xx e)
  have y13 : a ^^^ c ≠ d := fun e => q 13 (by decide) (by decide) (by rw [x13]; exact zq_xx e)
  have y14 : b ^^^ c ≠ d := fun e => q 14 (by decide) (by decide) (by rw [x14]; exact zq_xx e)
  have y15 : a ^^^ b ^^^ c ≠ d := fun e => q 15 (by decide) (by decide) (zq_xx e)
  unfold zq_L
  refine List.mem_flatMap.mpr ⟨a, zq_flm (m := 1) l0 (zq_2p (a := 0) q1), List.mem_flatMap.mpr ⟨b, zq_flm l1 ?_, List.mem_flatMap.mpr ⟨c, zq_flm l2 ?_, List.mem_map.mpr ⟨d, zq_flm l3 ?_, rfl⟩⟩⟩⟩
  · unfold zq_k1
    rw [Nat.testBit_or, zq_2p q2, zq_2p y3]
    rfl
  · unfold zq_k2 zq_k1
    rw [Nat.testBit_or, Nat.testBit_or, Nat.testBit_or, zq_2p y4, zq_2p y5, zq_2p y6, zq_2p y7]
    rfl
  · unfold zq_k3 zq_k2 zq_k1
    rw [Nat.testBit_or, Nat.testBit_or, Nat.testBit_or, Nat.testBit_or, Nat.testBit_or, Nat.testBit_or, Nat.testBit_or, zq_2p y8, zq_2p y9, zq_2p y10, zq_2p y11, zq_2p y12, zq_2p y13, zq_2p y14, zq_2p y15]
    rfl
theorem zq_nx4 (s l : Nat) : bn_nx 4 s l = bn_map 4 s l := rfl
theorem zq_run4 : ∀ w, bz_run (bn_nx 4) (bn_st 4 4) w = bz_run (bn_map 4) (bn_s0 4 4) w
  | [] => by show bn_st 4 4 = bn_s0 4 4; decide +kernel
  | l :: w => by
    show bn_nx 4 (bz_run (bn_nx 4) (bn_st 4 4) w) l = bn_map 4 (bz_run (bn_map 4) (bn_s0 4 4) w) l
    rw [zq_run4 w]
    rfl
theorem zq_cap : zp_cap 4 20160 := by
  intro st c h hi
  rw [← zq_Ll]
  have hQ : ∀ i, i < c → zq_Q (st i) := fun i hc => by
    obtain ⟨w, a, b⟩ := h i hc
    rw [b, zq_run4]
    exact zq_Qr w a
  refine bz_pigeon zq_L c (fun i => ((zq_col 0 (st i) * 16 + zq_col 1 (st i)) * 16 + zq_col 2 (st i)) * 16 + zq_col 3 (st i)) (fun i hc => zq_inL (hQ i hc)) (fun i j a b e => hi i j a b ?_)
  refine zq_inj (hQ i a).1 (hQ j b).1 (fun k hk => ?_)
  have e2 : ((zq_col 0 (st i) * 16 + zq_col 1 (st i)) * 16 + zq_col 2 (st i)) * 16 + zq_col 3 (st i) = ((zq_col 0 (st j) * 16 + zq_col 1 (st j)) * 16 + zq_col 2 (st j)) * 16 + zq_col 3 (st j) := e
  have i0 := zq_collt 0 (st i)
  have i1 := zq_collt 1 (st i)
  have i2 := zq_collt 2 (st i)
  have i3 := zq_collt 3 (st i)
  have j0 := zq_collt 0 (st j)
  have j1 := zq_collt 1 (st j)
  have j2 := zq_collt 2 (st j)
  have j3 := zq_collt 3 (st j)
  rcases (show k = 0 ∨ k = 1 ∨ k = 2 ∨ k = 3 by omega) with rfl | rfl | rfl | rfl <;> omega
theorem zq_bd : zp_bd 4 2049 := by
  intro w h
  rw [zq_run4]
  have := (zq_Qr w h).1
  omega
