/-! what program and reference have in common -/
theorem zc_code_congr {n : Nat} {pa pb : Nat → Nat} : ∀ w, (∀ j, j < w → pa j = pb j) → zc_code n pa w = zc_code n pb w
  | 0, _ => rfl
  | w + 1, h => by
    show zc_code n pa w ||| pa w * 2 ^ (w * n) = zc_code n pb w ||| pb w * 2 ^ (w * n)
    rw [zc_code_congr w (fun j hj => h j (by omega)), h w (by omega)]
theorem zc_div {n j w : Nat} (hn : 0 < n) (h1 : w * n ≤ j) (h2 : j - w * n < n) : j / n = w ∧ j % n = j - w * n := by
  obtain ⟨r, rfl⟩ : ∃ r, j = w * n + r := ⟨j - w * n, by omega⟩
  rw [Nat.add_sub_cancel_left] at h2 ⊢
  rw [Nat.mul_comm w n, Nat.mul_add_div hn, Nat.div_eq_of_lt h2, Nat.mul_add_mod, Nat.mod_eq_of_lt h2]
  exact ⟨rfl, rfl⟩
theorem zc_tb {n : Nat} {pa : Nat → Nat} (hn : 0 < n) (hp : ∀ j, j < n → pa j < 2 ^ n) (j : Nat) : ∀ w, w ≤ n → (zc_code n pa w).testBit j = (decide (j < w * n) && (pa (j / n)).testBit (j % n))
  | 0, _ => by
    show (0 : Nat).testBit j = _
    rw [Nat.zero_testBit, decide_eq_false (by rw [Nat.zero_mul]; omega), Bool.false_and]
  | w + 1, hw => by
    show (zc_code n pa w ||| pa w * 2 ^ (w * n)).testBit j = _
    rw [Nat.testBit_or, zc_tb hn hp j w (by omega), zu_mulbit]
    have hs : (w + 1) * n = w * n + n := Nat.succ_mul w n
    rcases Nat.lt_or_ge j (w * n) with q | q
    · rw [decide_eq_true q, decide_eq_false (show ¬ w * n ≤ j by omega), decide_eq_true (show j < (w + 1) * n by omega), Bool.false_and, Bool.or_false]
    · rw [decide_eq_false (show ¬ j < w * n by omega), decide_eq_true q, Bool.false_and, Bool.false_or, Bool.true_and]
      rcases Nat.lt_or_ge (j - w * n) n with r | r
      · obtain ⟨a, b⟩ := zc_div hn q r
        rw [decide_eq_true (show j < (w + 1) * n by omega), Bool.true_and, a, b]
      · rw [decide_eq_false (show ¬ j < (w + 1) * n by omega), Bool.false_and]
        exact Nat.testBit_lt_two_pow (Nat.lt_of_lt_of_le (hp w (by omega)) (Nat.pow_le_pow_right (by decide) r))
theorem zc_join {n : Nat} {pa : Nat → Nat} {ja jb : Nat} (hn : 0 < n) (h4 : n ≤ 4) (hp : ∀ j, j < n → pa j < 2 ^ n) (ha : ja < n) (hb : jb < n) : zc_code n (va_up pa jb (pa jb ^^^ pa ja)) n = bn_map n (zc_code n pa n) (4 * ja + jb) := by
  have hp' : ∀ j, j < n → va_up pa jb (pa jb ^^^ pa ja) j < 2 ^ n := by
    intro j hj
    by_cases e : j = jb
    · subst e
      rw [va_up_self]
      exact Nat.xor_lt_two_pow (hp j hj) (hp ja ha)
    · rw [va_up_ne _ _ e]
      exact hp j hj
  apply Nat.eq_of_testBit_eq
  intro i
  unfold bn_map bn_put bn_par
  rw [show (4 * ja + jb) % 4 = jb by omega, show (4 * ja + jb) / 4 = ja by omega, Nat.testBit_xor, zu_mulbit, Nat.testBit_mod_two_pow, Nat.testBit_div_two_pow, zc_tb hn hp' i n (Nat.le_refl _), zc_tb hn hp i n (Nat.le_refl _), zc_tb hn hp _ n (Nat.le_refl _)]
  by_cases q : jb * n ≤ i ∧ i - jb * n < n
  · obtain ⟨a, b⟩ := zc_div hn q.1 q.2
    have e1 : jb * n + n ≤ n * n := by
      have := Nat.mul_le_mul_right n (show jb + 1 ≤ n by omega)
      rwa [Nat.succ_mul] at this
    have e2 : ja * n + n ≤ n * n := by
      have := Nat.mul_le_mul_right n (show ja + 1 ≤ n by omega)
      rwa [Nat.succ_mul] at this
    obtain ⟨c, d⟩ := zc_div (j := i - jb * n + ja * n) (w := ja) hn (by omega) (by omega)
    rw [a, b, c, d, va_up_self, decide_eq_true (show i < n * n by omega), decide_eq_true q.1, decide_eq_true q.2, decide_eq_true (show i - jb * n + ja * n < n * n by omega), Nat.testBit_xor, Nat.add_sub_cancel]
    simp only [Bool.true_and]
  · have e3 : (decide (jb * n ≤ i) && decide (i - jb * n < n)) = false := by
      rw [Bool.and_eq_false_iff, decide_eq_false_iff_not, decide_eq_false_iff_not]
      omega
    rw [← Bool.and_assoc, e3, Bool.false_and, Bool.xor_false]
    by_cases e4 : i / n = jb
    · exfalso
      have h1 := Nat.div_add_mod i n
      have h2 := Nat.mod_lt i hn
      rw [e4, Nat.mul_comm] at h1
      omega
    · rw [va_up_ne _ _ e4]
/-- the map is one that joins lead to -/
def zr (n : Nat) (pa : Nat → Nat) : Prop := (∀ j, j < n → pa j < 2 ^ n) ∧ ∃ w, bz_ok (bn_V n) w ∧ bz_run (bn_map n) (bn_s0 n n) w = zc_code n pa n
theorem zr_congr {n : Nat} {pa pb : Nat → Nat} (h : zr n pa) (e : ∀ j, j < n → pb j = pa j) : zr n pb :=
  ⟨fun j hj => by rw [e j hj]; exact h.1 j hj, by rw [zc_code_congr n e]; exact h.2⟩
theorem zr_s0 {n : Nat} {pa : Nat → Nat} : ∀ w, (∀ j, j < w → pa j = 2 ^ j) → bn_s0 n w = zc_code n pa w
  | 0, _ => rfl
  | w + 1, h => by
    show bn_s0 n w ||| 2 ^ w * 2 ^ (n * w) = zc_code n pa w ||| pa w * 2 ^ (w * n)
    rw [zr_s0 w (fun j hj => h j (by omega)), h w (by omega), Nat.mul_comm n w]
theorem zr_begin {n : Nat} {pa : Nat → Nat} (h : ∀ j, j < n → pa j = 2 ^ j) : zr n pa :=
  ⟨fun j hj => by rw [h j hj]; exact Nat.pow_lt_pow_right (by decide) hj, [], (fun l hl => by cases hl), zr_s0 n h⟩
theorem zr_join {n : Nat} {pa : Nat → Nat} {ja jb : Nat} (hn : 0 < n) (h4 : n ≤ 4) (h : zr n pa) (ha : ja < n) (hb : jb < n) (hab : ja ≠ jb) : zr n (va_up pa jb (pa jb ^^^ pa ja)) := by
  obtain ⟨hp, w, h1, h2⟩ := h
  refine ⟨fun j hj => ?_, (4 * ja + jb) :: w, bz_okc h1 (zp_V.mpr ⟨by omega, by omega, by omega⟩) (by omega), ?_⟩
  · by_cases e : j = jb
    · subst e
      rw [va_up_self]
      exact Nat.xor_lt_two_pow (hp j hj) (hp ja ha)
    · rw [va_up_ne _ _ e]
      exact hp j hj
  · show bn_map n (bz_run (bn_map n) (bn_s0 n n) w) (4 * ja + jb) = _
    rw [h2, zc_join hn h4 hp ha hb]
theorem zr_change {n : Nat} {pa : Nat → Nat} {ja jb : Nat} (hn : 0 < n) (h4 : n ≤ 4) (h : zr n pa) (ha : ja < n) (hb : jb < n) (hab : ja ≠ jb) : zr n (va_up (va_up pa ja (pa jb)) jb (pa ja)) := by
  have h1 := zr_join hn h4 h ha hb hab
  have h2 := zr_join hn h4 h1 hb ha hab.symm
  have h3 := zr_join hn h4 h2 ha hb hab
  refine zr_congr h3 (fun j _ => ?_)
  by_cases e : j = jb
  · subst e
    rw [va_up_self, va_up_self, va_up_ne _ _ hab.symm, va_up_self, va_up_self, va_up_ne _ _ hab]
    rw [Nat.xor_comm (pa j) (pa ja), ← Nat.xor_assoc (pa ja), Nat.xor_self, Nat.zero_xor, Nat.xor_assoc, Nat.xor_self, Nat.xor_zero]
  · rw [va_up_ne _ _ e, va_up_ne _ _ e]
    by_cases e2 : j = ja
    · subst e2
      rw [va_up_self, va_up_self, va_up_self, va_up_ne _ _ e, Nat.xor_comm (pa jb), ← Nat.xor_assoc, Nat.xor_self, Nat.zero_xor]
    · rw [va_up_ne _ _ e2, va_up_ne _ _ e2, va_up_ne _ _ e]
theorem zr_lt {n : Nat} {pa : Nat → Nat} (h1 : 1 ≤ n) (hn : n ≤ 4) (h : zr n pa) : zc_code n pa n < 2 ^ (n * n) := by
  obtain ⟨-, w, a, b⟩ := h
  rw [← b]
  rcases (show n ≤ 3 ∨ n = 4 by omega) with q | rfl
  · exact (br_lt h1 q a).1
  · exact (zq_Qr w a).1
/-- the first shortest word for a map -/
def zLin (n : Nat) (g : Nat) (ws : List Nat) : Prop :=
  bz_first (bn_V n) (fun w => bz_run (bn_nx n) (bn_st n n) w &&& ((2 ^ (n * n) - 1) ||| 0 * 2 ^ (n * n)) = g ||| 0 * 2 ^ (n * n)) ws ∧ bz_first (bn_V n) (fun w => bz_run (bn_map n) (bn_s0 n n) w = g) ws ∧ ws.length ≤ 64
theorem zr_lin {n : Nat} {pa : Nat → Nat} (h1 : 1 ≤ n) (hn : n ≤ 4) (h : zr n pa) : ∃ ws, zLin n (zc_code n pa n) ws := by
  have hc := zr_lt h1 hn h
  obtain ⟨-, w, a, b⟩ := h
  obtain ⟨v, v1, v2, v3⟩ : ∃ v, bz_ok (bn_V n) v ∧ v.length ≤ 64 ∧ bz_run (bn_map n) (bn_s0 n n) v = zc_code n pa n := by
    rcases (show n ≤ 3 ∨ n = 4 by omega) with q | rfl
    · obtain ⟨v, x, y, z⟩ := br_short h1 q a
      exact ⟨v, x, y, z.trans b⟩
    · obtain ⟨v, x, y, z⟩ := zq_short (zq_Qr w a)
      exact ⟨v, x, y, z.trans b⟩
  obtain ⟨ws, hw⟩ := bz_first_ex (V := bn_V n) (G := fun w => bz_run (bn_map n) (bn_s0 n n) w = zc_code n pa n) ⟨v, v1, v3⟩
  refine ⟨ws, bz_first_congr hw (fun u hu => ?_), hw, Nat.le_trans (bz_first_len hw v1 v3) v2⟩
  rw [zu_cls hc, Nat.and_zero]
  rcases (show n ≤ 3 ∨ n = 4 by omega) with q | rfl
  · rw [br_map h1 q u hu]
    exact ⟨fun e => ⟨e, rfl⟩, fun e => e.1⟩
  · rw [zq_run4 u, Nat.mod_eq_of_lt (show _ < 2 ^ (4 * 4) from (zq_Qr u hu).1)]
    exact ⟨fun e => ⟨e, rfl⟩, fun e => e.1⟩
theorem zk_uniq {n : Nat} {ph b c : Nat → Nat} {o f o' f' : Nat} (h : zk_known n ph b o f) (h' : zk_known n ph c o' f') : o = o' ∧ f = f' ∧ ∀ p, 1 ≤ p → p ≤ 2 ^ n - 1 → b p = c p := by
  obtain ⟨a1, a2, a3, a4⟩ := h
  obtain ⟨b1, b2, b3, b4⟩ := h'
  obtain ⟨c1, c2, c3⟩ := pz_uniq (K := 2 ^ n - 1) (S := fun w => pz_vec (2 ^ n - 1) w ∧ pz_rel (2 ^ n - 1) ph w) (fun w hw => hw.1) a1 b1 a4 b4
  exact ⟨by rw [a2, b2, c1], by rw [a3, b3, c2], c3⟩
theorem zk_rel {n : Nat} {ph ph' b : Nat → Nat} {o f : Nat} (hr : pz_rel (2 ^ n - 1) ph ph') (h : zk_known n ph b o f) : zk_known n ph' b o f := by
  obtain ⟨a1, a2, a3, a4⟩ := h
  exact ⟨⟨a1.1, pz_rel_trans (pz_rel_symm hr) a1.2⟩, a2, a3, fun w hw => a4 w ⟨hw.1, pz_rel_trans hr hw.2⟩⟩
theorem zc_need_congr {b c : Nat → Nat} : ∀ k, (∀ p, 1 ≤ p → p ≤ k → b p = c p) → zc_need b k = zc_need c k
  | 0, _ => rfl
  | k + 1, h => by
    simp only [zc_need]
    rw [zc_need_congr k (fun p a d => h p a (by omega)), h (k + 1) (by omega) (Nat.le_refl _)]
def zNet (n : Nat) (g : Nat) (ph : Nat → Nat) (ws : List Nat) : Prop :=
  (∀ (b : Nat → Nat) (o f : Nat), zk_known n ph b o f → bz_first (bn_V n) (fun w => bz_run (bn_nx n) (bn_st n n) w &&& ((2 ^ (n * n) - 1) ||| zc_need b (2 ^ n - 1) * 2 ^ (n * n)) = g ||| zc_need b (2 ^ n - 1) * 2 ^ (n * n)) ws) ∧
  (∀ (b : Nat → Nat) (o f : Nat), zk_known n ph b o f → bz_first (bn_V n) (fun w => bz_run (zn_nx n (zc_need b (2 ^ n - 1))) (zn_s0 n (zc_need b (2 ^ n - 1))) w = zn_end n (zc_need b (2 ^ n - 1)) g) ws) ∧ ws.length ≤ 64
theorem zNet_rel {n g : Nat} {ph ph' : Nat → Nat} {ws : List Nat} (hr : pz_rel (2 ^ n - 1) ph ph') (h : zNet n g ph ws) : zNet n g ph' ws :=
  ⟨fun b o f q => h.1 b o f (zk_rel (pz_rel_symm hr) q), fun b o f q => h.2.1 b o f (zk_rel (pz_rel_symm hr) q), h.2.2⟩
theorem zr_net {n : Nat} {pa ph : Nat → Nat} (h1 : 1 ≤ n) (hn : n ≤ 3) (h : zr n pa) : ∃ ws, zNet n (zc_code n pa n) ph ws := by
  have hc := zr_lt h1 (by omega) h
  obtain ⟨-, w, a, b⟩ := h
  by_cases hk : ∃ (b : Nat → Nat) (o f : Nat), zk_known n ph b o f
  · obtain ⟨be, o, f, hk⟩ := hk
    have hnd : zc_need be (2 ^ n - 1) < 2 ^ (2 ^ n - 1) := zc_need_lt _ _
    have hn7 := zc_need_7 hn hnd
    obtain ⟨v, v1, v2, v3, v4⟩ := br_full h1 hn a
    have hG : bz_run (bn_nx n) (bn_st n n) v &&& ((2 ^ (n * n) - 1) ||| zc_need be (2 ^ n - 1) * 2 ^ (n * n)) = zc_code n pa n ||| zc_need be (2 ^ n - 1) * 2 ^ (n * n) := by
      rw [zu_cls hc]
      refine ⟨by rw [br_map h1 hn v v1, v3, b], ?_⟩
      rw [v4, Nat.and_comm, Nat.and_two_pow_sub_one_eq_mod]
      exact Nat.mod_eq_of_lt hnd
    obtain ⟨ws, hw⟩ := bz_first_ex (V := bn_V n) (G := fun w => bz_run (bn_nx n) (bn_st n n) w &&& ((2 ^ (n * n) - 1) ||| zc_need be (2 ^ n - 1) * 2 ^ (n * n)) = zc_code n pa n ||| zc_need be (2 ^ n - 1) * 2 ^ (n * n)) ⟨v, v1, hG⟩
    refine ⟨ws, fun c o' f' hk' => ?_, fun c o' f' hk' => ?_, Nat.le_trans (bz_first_len hw v1 hG) v2⟩
    · rw [zc_need_congr (b := c) (c := be) _ (zk_uniq hk' hk).2.2]
      exact hw
    · rw [zc_need_congr (b := c) (c := be) _ (zk_uniq hk' hk).2.2]
      exact bz_first_congr hw (fun u hu => br_G h1 hn hn7 hc hu)
  · exact ⟨[], fun b o f q => absurd ⟨b, o, f, q⟩ hk, fun b o f q => absurd ⟨b, o, f, q⟩ hk, by decide⟩
theorem zr_bd {n : Nat} (h1 : 1 ≤ n) (hn : n ≤ 4) : ∀ w, bz_ok (bn_V n) w → bz_run (bn_map n) (bn_s0 n n) w < 65536 := by
  intro w h
  rcases (show n ≤ 3 ∨ n = 4 by omega) with q | rfl
  · have a := (br_lt h1 q h).1
    have b := (br_sz h1 q).1
    omega
  · exact (zq_Qr w h).1
/-- the sizes of a search -/
def zPn (n : Nat) : Nat := if n = 1 then 1 else if n = 2 then 7 else if n = 3 then 859 else 20160
def zMl (n : Nat) : Nat := if n = 1 then 1 else if n = 2 then 5 else 2049
theorem zr_cap {n : Nat} (h1 : 1 ≤ n) (hn : n ≤ 4) : zp_cap n (zPn n) ∧ zp_bd n (zMl n) := by
  rcases (show n ≤ 3 ∨ n = 4 by omega) with q | rfl
  · have a := br_cap h1 q
    have b := br_bd h1 q
    rcases (show n = 1 ∨ n = 2 ∨ n = 3 by omega) with rfl | rfl | rfl
    · exact ⟨a, b⟩
    · exact ⟨a, b⟩
    · exact ⟨a, b⟩
  · exact ⟨zq_cap, zq_bd⟩
/-! equal answers -/
theorem zq_ans_eq {ws : List Nat} {x r r' : Int32} (hw : ws.length < 2 ^ 31) (h : zq_ans ws x r) (h' : zq_ans ws x r') : r = r' := by
  have hm : ∀ j, j < ws.length → ¬ (-1 : Int32) = nI j := fun j hj e => nI_pos (n := j) (by omega) (by rw [← e]; decide)
  rcases h with ⟨rfl, rfl⟩ | ⟨j, hj, rfl, rfl⟩ | ⟨a, b, rfl⟩
  · rcases h' with ⟨-, rfl⟩ | ⟨k, hk, e, -⟩ | ⟨a, -, -⟩
    · rfl
    · exact absurd e (hm k hk)
    · exact absurd rfl a
  · rcases h' with ⟨e, -⟩ | ⟨k, hk, e, rfl⟩ | ⟨-, b, -⟩
    · exact absurd e.symm (hm j hj)
    · rw [(nI_eq (by omega) (by omega)).mp e]
    · exact absurd rfl (b j hj)
  · rcases h' with ⟨e, -⟩ | ⟨k, hk, e, -⟩ | ⟨-, -, rfl⟩
    · exact absurd e a
    · exact absurd e (b k hk)
    · rfl
theorem zl_ans_eq {n : Nat} {b c : Nat → Nat} {o f : Nat} {x r r' : Int32} (hn : n ≤ 4) (e : ∀ p, 1 ≤ p → p ≤ 2 ^ n - 1 → b p = c p) (h : zl_ans n b o f x r) (h' : zl_ans n c o f x r') : r = r' := by
  have h16 : 2 ^ n ≤ 16 := (Nat.pow_le_pow_right (by decide) hn : 2 ^ n ≤ 2 ^ 4)
  have k0 : ∀ j, j ≤ 2 ^ n - 1 → ¬ (0 : Int32) = nI (100 + j) := fun j hj q => absurd ((nI_eq (a := 0) (b := 100 + j) (by decide) (by omega)).mp (nI_0.trans q)) (by omega)
  have k1 : ∀ j, j ≤ 2 ^ n - 1 → ¬ nI 1 = nI (100 + j) := fun j hj q => absurd ((nI_eq (a := 1) (b := 100 + j) (by decide) (by omega)).mp q) (by omega)
  have k01 : ¬ (0 : Int32) = nI 1 := by decide
  rcases h with ⟨rfl, rfl⟩ | ⟨rfl, rfl⟩ | ⟨j, j1, j2, rfl, rfl⟩ | ⟨z, rfl⟩
  · rcases h' with ⟨-, rfl⟩ | ⟨q, -⟩ | ⟨k, -, a, q, -⟩ | ⟨z, -⟩
    · rfl
    · exact absurd q k01
    · exact absurd q (k0 k a)
    · exact absurd rfl z.1
  · rcases h' with ⟨q, -⟩ | ⟨-, rfl⟩ | ⟨k, -, a, q, -⟩ | ⟨z, -⟩
    · exact absurd q.symm k01
    · rfl
    · exact absurd q (k1 k a)
    · exact absurd rfl z.2.1
  · rcases h' with ⟨q, -⟩ | ⟨q, -⟩ | ⟨k, a1, a, q, rfl⟩ | ⟨z, -⟩
    · exact absurd q.symm (k0 j j2)
    · exact absurd q.symm (k1 j j2)
    · have := (nI_eq (a := 100 + j) (b := 100 + k) (by omega) (by omega)).mp q
      rw [e j j1 j2, show j = k by omega]
    · exact absurd rfl (z.2.2 j j1 j2)
  · rcases h' with ⟨q, -⟩ | ⟨q, -⟩ | ⟨k, a1, a, q, -⟩ | ⟨-, rfl⟩
    · exact absurd q z.1
    · exact absurd q z.2.1
    · exact absurd q (z.2.2 k a1 a)
    · rfl
theorem zt_ans_eq {n a b w : Nat} {x r r' : Int32} (h : zt_ans n a b w x r) (h' : zt_ans n a b w x r') : r = r' := by
  have d01 : ¬ nI 0 = nI 1 := by decide
  have d02 : ¬ nI 0 = nI 2 := by decide
  have d03 : ¬ nI 0 = nI 3 := by decide
  have d12 : ¬ nI 1 = nI 2 := by decide
  have d13 : ¬ nI 1 = nI 3 := by decide
  have d23 : ¬ nI 2 = nI 3 := by decide
  rcases h with ⟨rfl, rfl⟩ | ⟨rfl, rfl⟩ | ⟨rfl, rfl⟩ | ⟨rfl, rfl⟩ | ⟨⟨a0, a1, a2, a3⟩, rfl⟩ <;> rcases h' with ⟨q, rfl⟩ | ⟨q, rfl⟩ | ⟨q, rfl⟩ | ⟨q, rfl⟩ | ⟨⟨c0, c1, c2, c3⟩, rfl⟩ <;> first | rfl | exact absurd q ‹_› | exact absurd q.symm ‹_› | exact absurd rfl ‹_›
theorem zc_dif_congr {ph ph' b b' : Nat → Nat} : ∀ k, (∀ p, 1 ≤ p → p ≤ k → ph p = ph' p) → (∀ p, 1 ≤ p → p ≤ k → b p = b' p) → zc_dif ph b k = zc_dif ph' b' k
  | 0, _, _ => rfl
  | k + 1, h, g => by
    simp only [zc_dif]
    rw [zc_dif_congr k (fun p a d => h p a (by omega)) (fun p a d => g p a (by omega)), h (k + 1) (by omega) (Nat.le_refl _), g (k + 1) (by omega) (Nat.le_refl _)]
