theorem bz_first_congr {V : Nat → Prop} {G G' : List Nat → Prop} {ws : List Nat} (h : bz_first V G ws) (e : ∀ w, bz_ok V w → (G w ↔ G' w)) : bz_first V G' ws :=
  ⟨h.1, (e ws h.1).mp h.2.1, fun v a b => h.2.2 v a ((e v a).mpr b)⟩
theorem bz_ok_tl {V : Nat → Prop} {l : Nat} {w : List Nat} (h : bz_ok V (l :: w)) : bz_ok V w := fun x hx => h x (List.mem_cons_of_mem _ hx)
theorem bz_okc {V : Nat → Prop} {l : Nat} {w : List Nat} (h : bz_ok V w) (hV : V l) (hl : l < 16) : bz_ok V (l :: w) := fun x hx => by
  rcases List.mem_cons.mp hx with rfl | q
  · exact ⟨hV, hl⟩
  · exact h x q
theorem zu_oradd {a b k : Nat} (hb : b < 2 ^ k) : a * 2 ^ k ||| b = a * 2 ^ k + b := by
  rw [Nat.mul_comm]
  exact (Nat.two_pow_add_eq_or_of_lt hb a).symm
theorem zu_mulbit (a k j : Nat) : (a * 2 ^ k).testBit j = (decide (k ≤ j) && a.testBit (j - k)) := by
  rw [Nat.mul_comm, Nat.testBit_two_pow_mul]
theorem zu_andor (a b c : Nat) : (a ||| b) &&& c = (a &&& c) ||| (b &&& c) := by
  apply Nat.eq_of_testBit_eq
  intro i
  simp only [Nat.testBit_or, Nat.testBit_and]
  cases a.testBit i <;> cases b.testBit i <;> cases c.testBit i <;> rfl
theorem zu_orand (a b c : Nat) : c &&& (a ||| b) = (c &&& a) ||| (c &&& b) := by
  apply Nat.eq_of_testBit_eq
  intro i
  simp only [Nat.testBit_or, Nat.testBit_and]
  cases a.testBit i <;> cases b.testBit i <;> cases c.testBit i <;> rfl
theorem zu_mask (c nd k : Nat) : c &&& (nd * 2 ^ k) = (c / 2 ^ k &&& nd) * 2 ^ k := by
  apply Nat.eq_of_testBit_eq
  intro i
  simp only [Nat.testBit_and, zu_mulbit, Nat.testBit_div_two_pow]
  by_cases h : k ≤ i
  · simp only [h, decide_true, Bool.true_and]
    rw [Nat.sub_add_cancel h]
  · simp only [h, decide_false, Bool.false_and, Bool.and_false]
/-- what the program looks at -/
theorem zu_cls {c nd k code : Nat} (hc : code < 2 ^ k) : (c &&& ((2 ^ k - 1) ||| nd * 2 ^ k) = code ||| nd * 2 ^ k) ↔ (c % 2 ^ k = code ∧ c / 2 ^ k &&& nd = nd) := by
  have hp := Nat.two_pow_pos k
  have hr : c % 2 ^ k < 2 ^ k := Nat.mod_lt _ hp
  rw [zu_orand, Nat.and_two_pow_sub_one_eq_mod, zu_mask, Nat.or_comm, zu_oradd hr, Nat.or_comm code, zu_oradd hc]
  constructor
  · intro h
    have h1 := congrArg (fun x => x % 2 ^ k) h
    have h2 := congrArg (fun x => x / 2 ^ k) h
    simp only [Nat.mul_add_mod_self_right, Nat.mod_eq_of_lt hr, Nat.mod_eq_of_lt hc] at h1
    rw [Nat.mul_comm, Nat.mul_comm nd] at h2
    simp only [Nat.mul_add_div hp, Nat.div_eq_of_lt hr, Nat.div_eq_of_lt hc, Nat.add_zero] at h2
    exact ⟨h1, h2⟩
  · rintro ⟨h1, h2⟩
    rw [h1, h2]
theorem zu_dm {m k : Nat} (hk : k < 128) : (m * 2 ^ 7 ||| k) / 2 ^ 7 = m ∧ (m * 2 ^ 7 ||| k) &&& 127 = k := by
  rw [zu_oradd (show k < 2 ^ 7 from hk), show (127 : Nat) = 2 ^ 7 - 1 from rfl, Nat.and_two_pow_sub_one_eq_mod]
  omega
theorem zu_ref {m q nd code : Nat} (hn : nd < 128) (hq : q < 128) : (m * 2 ^ 7 ||| q = zn_end 0 nd code) ↔ (m = code ∧ q = nd) := by
  unfold zn_end
  rw [zu_oradd (show q < 2 ^ 7 from hq), zu_oradd (show nd < 2 ^ 7 from hn)]
  omega
section
variable {n : Nat}
theorem br_map (h1 : 1 ≤ n) (hn : n ≤ 3) : ∀ w, bz_ok (bn_V n) w → bz_run (bn_nx n) (bn_st n n) w % 2 ^ (n * n) = bz_run (bn_map n) (bn_s0 n n) w := by
  obtain ⟨L, a1, a2, a3, a4, a5, a6, a7⟩ := br_n h1 hn
  intro w
  induction w with
  | nil => exact fun _ => a6.1
  | cons l w ih =>
    intro h
    obtain ⟨b1, b2⟩ := h l List.mem_cons_self
    have e := (a2 _ l (a1 w (bz_ok_tl h)) b1 b2).1
    rw [ih (bz_ok_tl h)] at e
    exact e
theorem br_mk (h1 : 1 ≤ n) (hn : n ≤ 3) : ∀ l w, bz_ok (bn_V n) (l :: w) → bz_run (bn_nx n) (bn_st n n) (l :: w) / 2 ^ (n * n) = (bz_run (bn_nx n) (bn_st n n) w / 2 ^ (n * n) ||| bn_had n (bz_run (bn_map n) (bn_s0 n n) (l :: w)) n) := by
  intro l w h
  have e := br_map h1 hn (l :: w) h
  obtain ⟨L, a1, a2, a3, a4, a5, a6, a7⟩ := br_n h1 hn
  obtain ⟨b1, b2⟩ := h l List.mem_cons_self
  rw [← e]
  exact (a2 _ l (a1 w (bz_ok_tl h)) b1 b2).2
theorem br_sz (h1 : 1 ≤ n) (hn : n ≤ 3) : 2 ^ (n * n) ≤ 512 ∧ 2 ^ (2 ^ n - 1) ≤ 128 := by
  rcases (show n = 1 ∨ n = 2 ∨ n = 3 by omega) with rfl | rfl | rfl <;> decide
theorem br_lt (h1 : 1 ≤ n) (hn : n ≤ 3) {w : List Nat} (h : bz_ok (bn_V n) w) : bz_run (bn_map n) (bn_s0 n n) w < 2 ^ (n * n) ∧ bz_run (bn_nx n) (bn_st n n) w / 2 ^ (n * n) < 2 ^ (2 ^ n - 1) := by
  refine ⟨by rw [← br_map h1 hn w h]; exact Nat.mod_lt _ (Nat.two_pow_pos _), ?_⟩
  obtain ⟨L, a1, a2, a3, a4, a5, a6, a7⟩ := br_n h1 hn
  exact Nat.div_lt_of_lt_mul (a4 _ (a1 w h)).2
theorem br_ref (h1 : 1 ≤ n) (hn : n ≤ 3) {wt : Nat} (hw : wt < 128) : ∀ w, bz_ok (bn_V n) w → bz_run (zn_nx n wt) (zn_s0 n wt) w = (bz_run (bn_map n) (bn_s0 n n) w * 2 ^ 7 ||| (bz_run (bn_nx n) (bn_st n n) w / 2 ^ (n * n) &&& wt)) := by
  intro w
  induction w with
  | nil =>
    intro _
    obtain ⟨L, a1, a2, a3, a4, a5, a6, a7⟩ := br_n h1 hn
    show zn_s0 n wt = _
    unfold zn_s0
    show _ = bn_s0 n n * 2 ^ 7 ||| (bn_st n n / 2 ^ (n * n) &&& wt)
    rw [a6.2]
  | cons l w ih =>
    intro h
    have hk : bz_run (bn_nx n) (bn_st n n) w / 2 ^ (n * n) &&& wt < 128 := Nat.lt_of_le_of_lt Nat.and_le_right hw
    have e : bz_run (zn_nx n wt) (zn_s0 n wt) (l :: w) = zn_nx n wt (bz_run (zn_nx n wt) (zn_s0 n wt) w) l := rfl
    rw [e, ih (bz_ok_tl h), br_mk h1 hn l w h]
    unfold zn_nx
    rw [(zu_dm hk).1, (zu_dm hk).2, zu_andor, Nat.or_assoc]
    rfl
theorem br_rlt (h1 : 1 ≤ n) (hn : n ≤ 3) {wt : Nat} (hw : wt < 128) {w : List Nat} (h : bz_ok (bn_V n) w) : bz_run (zn_nx n wt) (zn_s0 n wt) w < 65536 := by
  have hk : bz_run (bn_nx n) (bn_st n n) w / 2 ^ (n * n) &&& wt < 128 := Nat.lt_of_le_of_lt Nat.and_le_right hw
  rw [br_ref h1 hn hw w h, zu_oradd (show _ < 2 ^ 7 from hk)]
  have a := (br_lt h1 hn h).1
  have b := (br_sz h1 hn).1
  omega
theorem br_pos (h1 : 1 ≤ n) (hn : n ≤ 3) {w : List Nat} (h : bz_ok (bn_V n) w) : ∀ q, q < n → 1 ≤ bn_par n (bz_run (bn_map n) (bn_s0 n n) w) q := by
  obtain ⟨L, a1, a2, a3, a4, a5, a6, a7⟩ := br_n h1 hn
  rw [← br_map h1 hn w h]
  exact a5 _ (a1 w h)
theorem br_pos2 (h1 : 1 ≤ n) (hn : n ≤ 3) {wt : Nat} (hw : wt < 128) {w : List Nat} {l : Nat} (h : bz_ok (bn_V n) w) (hV : bn_V n l) (hl : l < 16) : ∀ q, q < n → 1 ≤ bn_par n (bn_map n (bz_run (zn_nx n wt) (zn_s0 n wt) w / 2 ^ 7) l) q := by
  have hk : bz_run (bn_nx n) (bn_st n n) w / 2 ^ (n * n) &&& wt < 128 := Nat.lt_of_le_of_lt Nat.and_le_right hw
  rw [br_ref h1 hn hw w h, (zu_dm hk).1]
  exact br_pos h1 hn (bz_okc h hV hl)
theorem br_G (h1 : 1 ≤ n) (hn : n ≤ 3) {nd code : Nat} (hnd : nd < 128) (hc : code < 2 ^ (n * n)) {w : List Nat} (h : bz_ok (bn_V n) w) :
    (bz_run (bn_nx n) (bn_st n n) w &&& ((2 ^ (n * n) - 1) ||| nd * 2 ^ (n * n)) = code ||| nd * 2 ^ (n * n)) ↔ (bz_run (zn_nx n nd) (zn_s0 n nd) w = zn_end n nd code) := by
  have hk : bz_run (bn_nx n) (bn_st n n) w / 2 ^ (n * n) &&& nd < 128 := Nat.lt_of_le_of_lt Nat.and_le_right hnd
  rw [zu_cls hc, br_ref h1 hn hnd w h, br_map h1 hn w h]
  exact (zu_ref hnd hk).symm
/-- a state of the same map, with every parity had -/
theorem br_full (h1 : 1 ≤ n) (hn : n ≤ 3) {w : List Nat} (h : bz_ok (bn_V n) w) : ∃ v, bz_ok (bn_V n) v ∧ v.length ≤ 64 ∧ bz_run (bn_map n) (bn_s0 n n) v = bz_run (bn_map n) (bn_s0 n n) w ∧ bz_run (bn_nx n) (bn_st n n) v / 2 ^ (n * n) = 2 ^ (2 ^ n - 1) - 1 := by
  obtain ⟨L, a1, a2, a3, a4, a5, a6, a7⟩ := br_n h1 hn
  obtain ⟨v, b1, b2, b3⟩ := a3 _ (a4 _ (a1 w h)).1
  have hp := Nat.two_pow_pos (n * n)
  have hr : bz_run (bn_nx n) (bn_st n n) w % 2 ^ (n * n) < 2 ^ (n * n) := Nat.mod_lt _ hp
  refine ⟨v, b1, b2, ?_, ?_⟩
  · rw [← br_map h1 hn v b1, b3, Nat.add_mul_mod_self_right, Nat.mod_mod, br_map h1 hn w h]
  · rw [b3, Nat.add_mul_div_right _ _ hp, Nat.div_eq_of_lt hr, Nat.zero_add]
theorem br_short (h1 : 1 ≤ n) (hn : n ≤ 3) {w : List Nat} (h : bz_ok (bn_V n) w) : ∃ v, bz_ok (bn_V n) v ∧ v.length ≤ 64 ∧ bz_run (bn_map n) (bn_s0 n n) v = bz_run (bn_map n) (bn_s0 n n) w := by
  obtain ⟨v, a, b, c, -⟩ := br_full h1 hn h
  exact ⟨v, a, b, c⟩
theorem br_cap (h1 : 1 ≤ n) (hn : n ≤ 3) : zp_cap n (if n = 1 then 1 else if n = 2 then 7 else 859) := by
  obtain ⟨L, a1, a2, a3, a4, a5, a6, a7⟩ := br_n h1 hn
  intro st c h hi
  rw [← a7]
  exact bz_pigeon L c st (fun i q => by obtain ⟨w, b1, b2⟩ := h i q; rw [b2]; exact a1 w b1) hi
theorem br_bd (h1 : 1 ≤ n) (hn : n ≤ 3) : zp_bd n (if n = 1 then 1 else if n = 2 then 5 else 2049) := by
  obtain ⟨L, a1, a2, a3, a4, a5, a6, a7⟩ := br_n h1 hn
  intro w h
  have := (a4 _ (a1 w h)).2
  generalize bz_run (bn_nx n) (bn_st n n) w = s at this ⊢
  rcases (show n = 1 ∨ n = 2 ∨ n = 3 by omega) with rfl | rfl | rfl
  · have q : s < 4 := this
    refine ⟨by omega, ?_⟩
    show s / 32 < 1
    omega
  · have q : s < 128 := this
    refine ⟨by omega, ?_⟩
    show s / 32 < 5
    omega
  · have q : s < 65536 := this
    refine ⟨q, ?_⟩
    show s / 32 < 2049
    omega
end
