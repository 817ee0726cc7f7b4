/-! the reference's searches -/
def zm_ic (ic qu : Nat → Nat) (my : Nat) : Prop := ∀ s, s < 65536 → ic s ≤ 1 ∧ (ic s = 1 ↔ ∃ i, i < my ∧ qu i = s)
def zm_I (nx : Nat → Nat → Nat) (s0 : Nat) (V : Nat → Prop) (ic qu so bb : Nat → Nat) (pw : Nat → List Nat) (my M : Nat) : Prop :=
  bz_inv nx s0 V qu so bb pw my M ∧ zm_ic ic qu my ∧ (∀ i, i < my → qu i < 65536) ∧ so 0 = 4294967295
theorem zm_cap {qu : Nat → Nat} {c : Nat} (h : ∀ i, i < c → qu i < 65536) (hi : ∀ i j, i < c → j < c → qu i = qu j → i = j) : c ≤ 65536 := by
  have := bz_pigeon (List.range 65536) c qu (fun i q => List.mem_range.mpr (h i q)) hi
  rwa [List.length_range] at this
theorem zm_cap1 {qu : Nat → Nat} {c x : Nat} (h : ∀ i, i < c → qu i < 65536) (hi : ∀ i j, i < c → j < c → qu i = qu j → i = j) (hx : x < 65536) (hn : ∀ i, i < c → qu i ≠ x) : c < 65536 := by
  refine zm_cap (qu := va_up qu c x) (c := c + 1) (fun i q => ?_) (fun i j a b e => ?_)
  · by_cases e : i = c
    · subst e
      rw [va_up_self]
      exact hx
    · rw [va_up_ne _ _ e]
      exact h i (by omega)
  · by_cases e1 : i = c
    · by_cases e2 : j = c
      · omega
      · subst e1
        rw [va_up_self, va_up_ne _ _ e2] at e
        exact absurd e.symm (hn j (by omega))
    · by_cases e2 : j = c
      · subst e2
        rw [va_up_self, va_up_ne _ _ e1] at e
        exact absurd e (hn i (by omega))
      · rw [va_up_ne _ _ e1, va_up_ne _ _ e2] at e
        exact hi i j (by omega) (by omega) e
section
variable {nx : Nat → Nat → Nat} {s0 : Nat} {V : Nat → Prop} {ic qu so bb : Nat → Nat} {pw : Nat → List Nat} {my M : Nat}
theorem zm_my (h : zm_I nx s0 V ic qu so bb pw my M) : my ≤ 65536 := zm_cap h.2.2.1 h.1.2.2.2.1
theorem zm_cp (h : zm_I nx s0 V ic qu so bb pw my M) {x : Nat} (hx : x < 65536) (hn : ∀ i, i < my → qu i ≠ x) : my < 65536 := zm_cap1 h.2.2.1 h.1.2.2.2.1 hx hn
theorem zm_old (h : zm_I nx s0 V ic qu so bb pw my M) {k l : Nat} (hk : k < my) (hl : l < 16) (hM : M = 16 * k + l) (he : ∃ i, i < my ∧ qu i = nx (qu k) l) : zm_I nx s0 V ic qu so bb pw my (M + 1) := by
  obtain ⟨j, h1, h2⟩ := he
  exact ⟨bz_inv_old h.1 hk hl hM h1 h2, h.2⟩
theorem zm_gap (h : zm_I nx s0 V ic qu so bb pw my M) {k l : Nat} (hl : l < 16) (hM : M = 16 * k + l) (hV : ¬ V l) : zm_I nx s0 V ic qu so bb pw my (M + 1) := by
  refine ⟨bz_inv_gap h.1 (by omega) (fun i l' a b c => ?_), h.2⟩
  obtain rfl : l' = l := by omega
  exact hV
theorem zm_icn (h : zm_ic ic qu my) {x : Nat} : zm_ic (va_up ic x 1) (va_up qu my x) (my + 1) := by
  intro s hs
  by_cases e : s = x
  · subst e
    rw [va_up_self]
    exact ⟨Nat.le_refl _, fun _ => ⟨my, by omega, va_up_self _ _ _⟩, fun _ => rfl⟩
  · rw [va_up_ne _ _ e]
    refine ⟨(h s hs).1, fun q => ?_, fun ⟨i, a, b⟩ => ?_⟩
    · obtain ⟨i, a, b⟩ := (h s hs).2.mp q
      exact ⟨i, by omega, by rw [va_up_ne _ _ (by omega)]; exact b⟩
    · by_cases e2 : i = my
      · subst e2
        rw [va_up_self] at b
        exact absurd b.symm e
      · rw [va_up_ne _ _ e2] at b
        exact (h s hs).2.mpr ⟨i, by omega, b⟩
theorem zm_new (h : zm_I nx s0 V ic qu so bb pw my M) {k l x : Nat} (hk : k < my) (hV : V l) (hl : l < 16) (hM : M = 16 * k + l) (hx : x = nx (qu k) l) (hn : ∀ i, i < my → qu i ≠ x) (hb : x < 65536) :
    zm_I nx s0 V (va_up ic x 1) (va_up qu my x) (va_up so my k) (va_up bb my l) (va_up pw my (l :: pw k)) (my + 1) (M + 1) := by
  refine ⟨by rw [hx]; exact bz_inv_new h.1 hk hV hl hM (fun j hj => by rw [← hx]; exact hn j hj), zm_icn h.2.1, fun i hi => ?_, ?_⟩
  · by_cases e : i = my
    · subst e
      rw [va_up_self]
      exact hb
    · rw [va_up_ne _ _ e]
      exact h.2.2.1 i (by omega)
  · rw [va_up_ne _ _ (by omega)]
    exact h.2.2.2
theorem zm_start {qu so bb ic : Nat → Nat} (h1 : qu 0 = s0) (h2 : so 0 = 4294967295) (h3 : zm_ic ic qu 1) (h4 : s0 < 65536) : zm_I nx s0 V ic qu so bb (fun _ => []) 1 0 :=
  ⟨bz_inv_start nx s0 V h1, h3, fun i hi => by rw [show i = 0 by omega, h1]; exact h4, h2⟩
theorem zm_src0 (hB : bz_inv nx s0 V qu so bb pw my M) (hm : my ≤ 65536) {t : Nat} (ht : t < my) (h : nI (so t) = (-1)) : t = 0 := by
  rcases Nat.eq_zero_or_pos t with q | q
  · exact q
  · have := (hB.2.1 t q ht).1.1
    exact absurd h (zm_m1 (by omega))
where
  zm_m1 {k : Nat} (hk : k < 65536) : ¬ nI k = (-1) := by
    intro e
    have e2 : nI k < 0 := by rw [e]; decide
    exact nI_pos (by omega) e2
theorem zm_src1 (h0 : so 0 = 4294967295) {t : Nat} (h : ¬ nI (so t) = (-1)) : 0 < t := by
  rcases Nat.eq_zero_or_pos t with q | q
  · rw [q, h0] at h
    exact absurd (by decide) h
  · exact q
end
/-- the words of a plan, the oldest first -/
def zm_pl (w : List Nat) (pl : Nat → Nat) (pg : Nat) : Prop := pg = w.length ∧ ∀ j, j < w.length → pl j = w.getD (w.length - 1 - j) 0
theorem zm_plup {w : List Nat} {pc : Nat → Nat} {nq x : Nat} (h : ∀ j, nq ≤ j → j < w.length → pc j = w.getD (w.length - 1 - j) 0) (h0 : 0 < nq) (hx : x = w.getD (w.length - 1 - (nq - 1)) 0) : ∀ j, nq - 1 ≤ j → j < w.length → va_up pc (nq - 1) x j = w.getD (w.length - 1 - j) 0 := by
  intro j a b
  by_cases e : j = nq - 1
  · subst e
    rw [va_up_self, hx]
  · rw [va_up_ne _ _ e]
    exact h j (by omega) b
theorem zm_goal {n i : Nat} {pa : Nat → Nat} : nI (zc_code n pa i) ||| nI (pa i * 2 ^ (n * i)) = nI (zc_code n pa (i + 1)) := by
  rw [zb_or, Nat.mul_comm n i]
  rfl
theorem zm_map {n s l : Nat} : nI s ^^^ nI (bn_par n s (l / 4) * 2 ^ (n * (l % 4))) = nI (bn_map n s l) := by
  rw [zb_xor, Nat.mul_comm n]
  rfl
theorem zm_part {n m w : Nat} (h1 : m / 2 ^ (n * w) < 2 ^ 32) (hn : n ≤ 31) : nI (m / 2 ^ (n * w)) &&& nI (2 ^ n - 1) = nI (bn_par n m w) := by
  rw [zb_mk h1 hn, Nat.mul_comm n w]
  rfl
theorem zm_zc {i : Nat} {g : Nat → Nat} (h : ∀ j, j < i → g j = 0) : ∀ j, j < i + 1 → va_up g i 0 j = 0 := zm_zero h
theorem zm_cop {i : Nat} {g p : Nat → Nat} (h : ∀ j, j < i → g j = p j) : ∀ j, j < i + 1 → va_up g i (p i) j = p j := zfl_cp h
theorem zm_need0 {be : Nat → Nat} {i : Nat} (h : be (i + 1) = 0) : nI (zc_need be i) ||| nI 0 = nI (zc_need be (i + 1)) := by
  rw [zb_or, zc_need0 h, Nat.or_zero]
theorem zm_need1 {be : Nat → Nat} {i : Nat} (h : 0 < be (i + 1)) : nI (zc_need be i) ||| nI (2 ^ (i + 1 - 1)) = nI (zc_need be (i + 1)) := by
  rw [zb_or, zc_need1 h]
  rfl
/-- a state of the reference's network search: the map, and 7 bits behind it -/
def zn_nx (n wt s l : Nat) : Nat := (bn_map n (s / 2 ^ 7) l * 2 ^ 7 ||| (s &&& 127)) ||| (bn_had n (bn_map n (s / 2 ^ 7) l) n &&& wt)
def zn_s0 (n wt : Nat) : Nat := bn_s0 n n * 2 ^ 7 ||| (bn_had n (bn_s0 n n) n &&& wt)
def zn_end (n wt g : Nat) : Nat := g * 2 ^ 7 ||| wt
