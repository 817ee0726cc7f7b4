/-! what the law's two objects stand for: wires n, parities pa, phases ph -/
theorem zk_ex (n : Nat) {ph : Nat → Nat} (h8 : ∀ j, ph j < 8) : ∃ (b : Nat → Nat) (o f : Nat), zk_known n ph b o f := by
  obtain ⟨o, ⟨w1, s1, e1⟩, m1⟩ := pk_least (fun k => ∃ w : Nat → Nat, (pz_vec (2 ^ n - 1) w ∧ pz_rel (2 ^ n - 1) ph w) ∧ pz_odd w (2 ^ n - 1) = k) ⟨_, ph, ⟨fun q _ _ => h8 q, pz_rel_refl _ _⟩, rfl⟩
  obtain ⟨f, ⟨w2, s2, o2, e2⟩, m2⟩ := pk_least (fun k => ∃ w : Nat → Nat, (pz_vec (2 ^ n - 1) w ∧ pz_rel (2 ^ n - 1) ph w) ∧ pz_odd w (2 ^ n - 1) = o ∧ pz_nz w (2 ^ n - 1) = k) ⟨_, w1, s1, e1, rfl⟩
  obtain ⟨g, ⟨w3, s3, o3, f3, e3⟩, m3⟩ := pk_least (fun k => ∃ w : Nat → Nat, (pz_vec (2 ^ n - 1) w ∧ pz_rel (2 ^ n - 1) ph w) ∧ pz_odd w (2 ^ n - 1) = o ∧ pz_nz w (2 ^ n - 1) = f ∧ pz_num w (2 ^ n - 1) = k) ⟨_, w2, s2, o2, e2, rfl⟩
  refine ⟨w3, o, f, s3, o3.symm, f3.symm, fun w hw => ?_⟩
  rw [o3, f3, e3]
  rcases Nat.lt_trichotomy (pz_odd w (2 ^ n - 1)) o with q | q | q
  · exact absurd ⟨w, hw, rfl⟩ (m1 _ q)
  · refine Or.inr ⟨q.symm, ?_⟩
    rcases Nat.lt_trichotomy (pz_nz w (2 ^ n - 1)) f with q2 | q2 | q2
    · exact absurd ⟨w, hw, q, rfl⟩ (m2 _ q2)
    · refine Or.inr ⟨q2.symm, ?_⟩
      rcases Nat.lt_or_ge (pz_num w (2 ^ n - 1)) g with q3 | q3
      · exact absurd ⟨w, hw, q, q2, rfl⟩ (m3 _ q3)
      · exact q3
    · exact Or.inl q2
  · exact Or.inl q
theorem zNet_uniq {n g : Nat} {ph : Nat → Nat} {u v : List Nat} (h8 : ∀ j, ph j < 8) (hu : zNet n g ph u) (hv : zNet n g ph v) : u = v := by
  obtain ⟨b, o, f, h⟩ := zk_ex n h8
  exact bz_first_uniq (hu.1 b o f h) (hv.1 b o f h)
theorem zLin_uniq {n g : Nat} {u v : List Nat} (hu : zLin n g u) (hv : zLin n g v) : u = v := bz_first_uniq hu.1 hv.1
/-- phases that agree below 2^n -/
def zAg (n : Nat) (f g : Nat → Nat) : Prop := ∀ j, j < 2 ^ n → f j = g j
theorem zAg_in {n : Nat} {f g : Nat → Nat} (h : zAg n f g) : ∀ j, 1 ≤ j → j ≤ 2 ^ n - 1 → f j = g j := fun j _ b => h j (by have := Nat.two_pow_pos n; omega)
theorem zAg_rel {n : Nat} {f g : Nat → Nat} (h : zAg n f g) : pz_rel (2 ^ n - 1) f g := pz_rel_eq (zAg_in h)
theorem zAg_sy {n : Nat} {f g : Nat → Nat} (h : zAg n f g) : zAg n g f := fun j hj => (h j hj).symm
/-- a search, if it has been made -/
def zXok (cA : Nat → ClassId) (k : Nat) (sk : Option Nat) (X : va_W) (L : Int32 → List Nat → Prop) : Prop :=
  (sk = none ∧ X = [] ∧ ∀ i ws, ¬ L i ws) ∨ ∃ (q p1 m1 cnt sp : Nat) (st fr lb pl mt : Nat → Nat) (pw : Nat → List Nat), sk = some q ∧ X = [(q, .inr (1, [.int (nI k), .int (nI (k * k)), .int (nI (if k < 4 then 1 else 0)), .ref p1, .ref m1, .int (nI cnt), .int (nI sp)])), (p1, .inl (cA 1, zPn k, .inr (.inl (lA pl)))), (m1, .inl (cA 0, zMl k, .inl (nA mt)))] ∧ (cnt ≤ zPn k ∧ sp ≤ cnt ∧ zp_I k st fr lb pw pl mt cnt (16 * sp)) ∧ ∀ i ws, L i ws → ∃ j, i = nI j ∧ j < cnt ∧ pw j = ws
theorem zXok_mono {cA : Nat → ClassId} {k : Nat} {sk : Option Nat} {X : va_W} {L L' : Int32 → List Nat → Prop} (h : zXok cA k sk X L) (e : ∀ i ws, L' i ws → L i ws) : zXok cA k sk X L' := by
  rcases h with ⟨a, b, c⟩ | ⟨q, p1, m1, cnt, sp, st, fr, lb, pl, mt, pw, a, b, c, d⟩
  · exact Or.inl ⟨a, b, fun i ws z => c i ws (e i ws z)⟩
  · exact Or.inr ⟨q, p1, m1, cnt, sp, st, fr, lb, pl, mt, pw, a, b, c, fun i ws z => d i ws (e i ws z)⟩
/-- the searches; L: what is at places of the search for n wires -/
def zXs (cA : Nat → ClassId) (n : Nat) (sf : Nat → Option Nat) (XX : va_W) (L : Int32 → List Nat → Prop) : Prop :=
  ∃ X : Nat → va_W, XX.Perm (zfl [X 1, X 2, X 3, X 4]) ∧ ∀ k, 1 ≤ k → k ≤ 4 → zXok cA k (sf k) (X k) (fun i ws => k = n ∧ L i ws)
theorem zXs_new {cA : Nat → ClassId} {n n' : Nat} {sf : Nat → Option Nat} {XX : va_W} {L : Int32 → List Nat → Prop} (h : zXs cA n sf XX L) : zXs cA n' sf XX (fun _ _ => False) := by
  obtain ⟨X, a, b⟩ := h
  exact ⟨X, a, fun k h1 h2 => zXok_mono (b k h1 h2) (fun i ws z => z.2.elim)⟩
theorem zXs_split {cA : Nat → ClassId} {n : Nat} {sf : Nat → Option Nat} {XX : va_W} {L : Int32 → List Nat → Prop} (h1 : 1 ≤ n) (hn : n ≤ 4) (h : zXs cA n sf XX L) :
    ∃ Xn Rx : va_W, XX.Perm (Xn ++ Rx) ∧ zXok cA n (sf n) Xn L ∧ ∀ (sf' : Nat → Option Nat) (Y : va_W) (L' : Int32 → List Nat → Prop), (∀ k, k ≠ n → sf' k = sf k) → zXok cA n (sf' n) Y L' → zXs cA n sf' (Y ++ Rx) L' := by
  obtain ⟨X, a, b⟩ := h
  have key : ∀ (Rx : va_W), (∀ Z : Nat → va_W, (∀ k, k ≠ n → Z k = X k) → (Z n ++ Rx).Perm (zfl [Z 1, Z 2, Z 3, Z 4])) → ∃ Xn Rx : va_W, XX.Perm (Xn ++ Rx) ∧ zXok cA n (sf n) Xn L ∧ ∀ (sf' : Nat → Option Nat) (Y : va_W) (L' : Int32 → List Nat → Prop), (∀ k, k ≠ n → sf' k = sf k) → zXok cA n (sf' n) Y L' → zXs cA n sf' (Y ++ Rx) L' := by
    intro Rx hR
    refine ⟨X n, Rx, a.trans (hR X (fun _ _ => rfl)).symm, zXok_mono (b n h1 hn) (fun i ws z => ⟨rfl, z⟩), fun sf' Y L' e hY => ⟨va_up X n Y, ?_, fun k k1 k4 => ?_⟩⟩
    · have := hR (va_up X n Y) (fun k hk => va_up_ne _ _ hk)
      rw [va_up_self] at this
      exact this
    · by_cases q : k = n
      · subst q
        rw [va_up_self]
        exact zXok_mono hY (fun i ws z => z.2)
      · rw [va_up_ne _ _ q, e k q]
        exact zXok_mono (b k k1 k4) (fun i ws z => absurd z.1 q)
  rcases (show n = 1 ∨ n = 2 ∨ n = 3 ∨ n = 4 by omega) with rfl | rfl | rfl | rfl
  · refine key (zfl [X 2, X 3, X 4]) (fun Z hZ => ?_)
    rw [← hZ 2 (by decide), ← hZ 3 (by decide), ← hZ 4 (by decide)]
    exact List.Perm.refl _
  · refine key (zfl [X 1, X 3, X 4]) (fun Z hZ => ?_)
    rw [← hZ 1 (by decide), ← hZ 3 (by decide), ← hZ 4 (by decide)]
    exact zx_perm [Z 1, Z 2, Z 3, Z 4] [1, 0, 2, 3] (by show List.Perm [1, 0, 2, 3] (List.range 4); decide)
  · refine key (zfl [X 1, X 2, X 4]) (fun Z hZ => ?_)
    rw [← hZ 1 (by decide), ← hZ 2 (by decide), ← hZ 4 (by decide)]
    exact zx_perm [Z 1, Z 2, Z 3, Z 4] [2, 0, 1, 3] (by show List.Perm [2, 0, 1, 3] (List.range 4); decide)
  · refine key (zfl [X 1, X 2, X 3]) (fun Z hZ => ?_)
    rw [← hZ 1 (by decide), ← hZ 2 (by decide), ← hZ 3 (by decide)]
    exact zx_perm [Z 1, Z 2, Z 3, Z 4] [3, 0, 1, 2] (by show List.Perm [3, 0, 1, 2] (List.range 4); decide)
/-- how many cells the searches have -/
def zon (x : Option Nat) (k : Nat) : Nat := match x with
  | none => 0
  | some _ => k
def zcnt (sf : Nat → Option Nat) : Nat := zon (sf 1) 3 + zon (sf 2) 3 + zon (sf 3) 3 + zon (sf 4) 3
def zslt (sf : Nat → Option Nat) : Nat := zon (sf 1) 9 + zon (sf 2) 19 + zon (sf 3) 2915 + zon (sf 4) 22216
theorem zon_le (x : Option Nat) (k : Nat) : zon x k ≤ k := by
  cases x with
  | none => exact Nat.zero_le _
  | some _ => exact Nat.le_refl _
theorem zcnt_le {sf : Nat → Option Nat} {kc ks : Nat} (h1 : kc = zcnt sf) (h2 : ks = zslt sf) : kc ≤ 12 ∧ ks ≤ 25159 := by
  have a1 := zon_le (sf 1) 3
  have a2 := zon_le (sf 2) 3
  have a3 := zon_le (sf 3) 3
  have a4 := zon_le (sf 4) 3
  have b1 := zon_le (sf 1) 9
  have b2 := zon_le (sf 2) 19
  have b3 := zon_le (sf 3) 2915
  have b4 := zon_le (sf 4) 22216
  unfold zcnt at h1
  unfold zslt at h2
  omega
theorem zcnt_h {kc ks a b : Nat} (h : kc ≤ 12 ∧ ks ≤ 25159) (ha : a ≤ 3) (hb : b ≤ 22216) : 38 + kc + a ≤ room_1.cells ∧ 262777 + ks + b ≤ room_1.slots := by
  have e1 : room_1.cells = 600000 := rfl
  have e2 : room_1.slots = 7302250 := rfl
  rw [e1, e2]
  omega
theorem zcnt_h' {kc ks : Nat} (h : kc ≤ 12 ∧ ks ≤ 25159) : 38 + kc ≤ room_1.cells ∧ 262777 + ks ≤ room_1.slots := zcnt_h (a := 0) (b := 0) h (by decide) (by decide)
theorem zr16 {n : Nat} {pa pb : Nat → Nat} (hn : n ≤ 4) (h : zr n pa) (e : ∀ j, j < n → pb j = pa j) : ∀ j, j < n → pb j < 16 := fun j hj => by
  rw [e j hj]
  exact Nat.lt_of_lt_of_le (h.1 j hj) (Nat.pow_le_pow_right (by decide) hn)
theorem zup_join {n ja jb : Nat} {f g : Nat → Nat} (h : ∀ j, j < n → f j = g j) (ha : ja < n) (hb : jb < n) : ∀ j, j < n → va_up f jb (f jb ^^^ f ja) j = va_up g jb (g jb ^^^ g ja) j := fun j hj => by
  simp only [va_up]
  rw [h ja ha, h jb hb, h j hj]
theorem zup_change {n ja jb : Nat} {f g : Nat → Nat} (h : ∀ j, j < n → f j = g j) (ha : ja < n) (hb : jb < n) : ∀ j, j < n → va_up (va_up f ja (f jb)) jb (f ja) j = va_up (va_up g ja (g jb)) jb (g ja) j := fun j hj => by
  simp only [va_up]
  rw [h ja ha, h jb hb, h j hj]
theorem zup_turn {n q q' : Nat} {f g : Nat → Nat} {x : Int32} (h : zAg n f g) (e : q = q') (hq : q' < 2 ^ n) : zAg n (va_up f q (zt8 (f q) x)) (va_up g q' (zt8 (g q') x)) := fun j hj => by
  subst e
  simp only [va_up]
  rw [h q hq, h j hj]
theorem zup_8 {q v : Nat} {f : Nat → Nat} (h : ∀ j, f j < 8) (hv : v < 8) : ∀ j, va_up f q v j < 8 := fun j => by
  simp only [va_up]
  split
  · exact hv
  · exact h j
/-- the answers -/
def zQb (n : Nat) (pa ph : Nat → Nat) (x r : Int32) (n' : Nat) (pa' ph' : Nat → Nat) : Prop := (∃ m0, 1 ≤ m0 ∧ m0 ≤ 4 ∧ x = nI m0 ∧ r = nI 1 ∧ n' = m0 ∧ pa' = (fun j => 2 ^ j) ∧ ph' = fun _ => 0) ∨ (¬ zw_pa 4 x ∧ r = nI 0 ∧ n' = n ∧ pa' = pa ∧ ph' = ph)
def zQj (n : Nat) (pa : Nat → Nat) (a b r : Int32) (pa' : Nat → Nat) : Prop := (∃ ja jb, ja < n ∧ jb < n ∧ ja ≠ jb ∧ a = nI ja ∧ b = nI jb ∧ r = nI 1 ∧ pa' = va_up pa jb (pa jb ^^^ pa ja)) ∨ (¬ (zw_in n a ∧ zw_in n b ∧ a ≠ b) ∧ r = nI 0 ∧ pa' = pa)
def zQc (n : Nat) (pa : Nat → Nat) (a b r : Int32) (pa' : Nat → Nat) : Prop := (∃ ja jb, ja < n ∧ jb < n ∧ ja ≠ jb ∧ a = nI ja ∧ b = nI jb ∧ r = nI 1 ∧ pa' = va_up (va_up pa ja (pa jb)) jb (pa ja)) ∨ (¬ (zw_in n a ∧ zw_in n b ∧ a ≠ b) ∧ r = nI 0 ∧ pa' = pa)
def zQt (n : Nat) (pa ph : Nat → Nat) (a x r : Int32) (ph' : Nat → Nat) : Prop := (∃ ja, ja < n ∧ a = nI ja ∧ ¬ x < (-7) ∧ x ≤ nI 7 ∧ r = nI 1 ∧ ph' = va_up ph (pa ja) (zt8 (ph (pa ja)) x)) ∨ (¬ (zw_in n a ∧ ¬ x < (-7) ∧ x ≤ nI 7) ∧ r = nI 0 ∧ ph' = ph)
def zQp (n : Nat) (pa : Nat → Nat) (a r : Int32) : Prop := (∃ j, j < n ∧ a = nI j ∧ r = nI (pa j)) ∨ (¬ zw_in n a ∧ r = (-1))
def zQh (n : Nat) (ph : Nat → Nat) (a r : Int32) : Prop := (∃ j, 1 ≤ j ∧ j ≤ 2 ^ n - 1 ∧ a = nI j ∧ r = nI (ph j)) ∨ (¬ zw_pa (2 ^ n - 1) a ∧ r = (-1))
def zQf (n : Nat) (ph : Nat → Nat) (x r : Int32) : Prop := (∃ x1, x1 < 2 ^ n ∧ x = nI x1 ∧ r = nI (pz_f ph x1 (2 ^ n - 1) % 8)) ∨ (¬ zw_in (2 ^ n) x ∧ r = (-1))
def zQl (n : Nat) (ph : Nat → Nat) (x r : Int32) : Prop := ∃ (b : Nat → Nat) (o f : Nat), zk_known n ph b o f ∧ zl_ans n b o f x r
def zQs (n : Nat) (ph : Nat → Nat) (r : Int32) (ph' : Nat → Nat) : Prop := ∃ (b : Nat → Nat) (o f : Nat), zk_known n ph b o f ∧ r = nI (zc_dif ph b (2 ^ n - 1)) ∧ ph' = fun j => if 1 ≤ j ∧ j ≤ 2 ^ n - 1 then b j else ph j
def zQi (n : Nat) (pa : Nat → Nat) (x r : Int32) : Prop := ∃ ws, zLin n (zc_code n pa n) ws ∧ zq_ans ws x r
def zQn (n : Nat) (pa ph : Nat → Nat) (x r : Int32) : Prop := (n = 4 ∧ r = (-1)) ∨ (n ≤ 3 ∧ ∃ ws, zNet n (zc_code n pa n) ph ws ∧ zq_ans ws x r)
def zQo (n : Nat) (ph : Nat → Nat) (x r : Int32) : Prop := zt_ans n (pz_nz ph (2 ^ n - 1)) (pz_odd ph (2 ^ n - 1)) (2 ^ (zs_shifts n + (2 ^ n - 1) - n)) x r
theorem zQp_ag {n : Nat} {f g : Nat → Nat} {a r : Int32} (e : ∀ j, j < n → f j = g j) (h : zQp n f a r) : zQp n g a r := by
  rcases h with ⟨j, h1, h2, h3⟩ | h
  · exact Or.inl ⟨j, h1, h2, by rw [h3, e j h1]⟩
  · exact Or.inr h
theorem zQh_ag {n : Nat} {f g : Nat → Nat} {a r : Int32} (e : zAg n f g) (h : zQh n f a r) : zQh n g a r := by
  rcases h with ⟨j, h1, h2, h3, h4⟩ | h
  · exact Or.inl ⟨j, h1, h2, h3, by rw [h4, zAg_in e j h1 h2]⟩
  · exact Or.inr h
theorem zQf_ag {n : Nat} {f g : Nat → Nat} {a r : Int32} (e : zAg n f g) (h : zQf n f a r) : zQf n g a r := by
  rcases h with ⟨j, h1, h2, h3⟩ | h
  · exact Or.inl ⟨j, h1, h2, by rw [h3, pz_f_congr j _ (zAg_in e)]⟩
  · exact Or.inr h
theorem zQo_ag {n : Nat} {f g : Nat → Nat} {a r : Int32} (e : zAg n f g) (h : zQo n f a r) : zQo n g a r := by
  unfold zQo at h ⊢
  rw [pz_nz_congr _ (zAg_in e), pz_odd_congr _ (fun j a b => by rw [zAg_in e j a b])] at h
  exact h
theorem zQ_nI {a b : Nat} (ha : a < 2 ^ 31) (hb : b < 2 ^ 31) (h : nI a = nI b) : a = b := (nI_eq ha hb).mp h
theorem zQp_eq {n : Nat} {f : Nat → Nat} {a r r' : Int32} (hn : n ≤ 4) (h : zQp n f a r) (h' : zQp n f a r') : r = r' := by
  rcases h with ⟨j, h1, h2, h3⟩ | ⟨h1, h2⟩ <;> rcases h' with ⟨k, k1, k2, k3⟩ | ⟨k1, k2⟩
  · have : j = k := zQ_nI (by omega) (by omega) (h2.symm.trans k2)
    rw [h3, k3, this]
  · exact absurd ⟨j, h1, h2⟩ k1
  · exact absurd ⟨k, k1, k2⟩ h1
  · rw [h2, k2]
theorem z2_16 {n : Nat} (hn : n ≤ 4) : 2 ^ n ≤ 16 := Nat.pow_le_pow_right (by decide) hn
theorem zQh_eq {n : Nat} {f : Nat → Nat} {a r r' : Int32} (hn : n ≤ 4) (h : zQh n f a r) (h' : zQh n f a r') : r = r' := by
  have := z2_16 hn
  rcases h with ⟨j, h0, h1, h2, h3⟩ | ⟨h1, h2⟩ <;> rcases h' with ⟨k, k0, k1, k2, k3⟩ | ⟨k1, k2⟩
  · have : j = k := zQ_nI (by omega) (by omega) (h2.symm.trans k2)
    rw [h3, k3, this]
  · exact absurd ⟨j, h0, h1, h2⟩ k1
  · exact absurd ⟨k, k0, k1, k2⟩ h1
  · rw [h2, k2]
theorem zQf_eq {n : Nat} {f : Nat → Nat} {a r r' : Int32} (hn : n ≤ 4) (h : zQf n f a r) (h' : zQf n f a r') : r = r' := by
  have := z2_16 hn
  rcases h with ⟨j, h1, h2, h3⟩ | ⟨h1, h2⟩ <;> rcases h' with ⟨k, k1, k2, k3⟩ | ⟨k1, k2⟩
  · have : j = k := zQ_nI (by omega) (by omega) (h2.symm.trans k2)
    rw [h3, k3, this]
  · exact absurd ⟨j, h1, h2⟩ k1
  · exact absurd ⟨k, k1, k2⟩ h1
  · rw [h2, k2]
theorem zQb_eq {n : Nat} {pa ph : Nat → Nat} {x r r' : Int32} {n1 n2 : Nat} {pa1 ph1 pa2 ph2 : Nat → Nat} (h : zQb n pa ph x r n1 pa1 ph1) (h' : zQb n pa ph x r' n2 pa2 ph2) : r = r' ∧ n2 = n1 ∧ pa2 = pa1 ∧ ph2 = ph1 := by
  rcases h with ⟨j, h1, h2, h3, h4, rfl, rfl, rfl⟩ | ⟨h1, rfl, rfl, rfl, rfl⟩ <;> rcases h' with ⟨k, k1, k2, k3, k4, rfl, rfl, rfl⟩ | ⟨k1, rfl, rfl, rfl, rfl⟩
  · have : n1 = n2 := zQ_nI (by omega) (by omega) (h3.symm.trans k3)
    subst this
    exact ⟨h4.trans k4.symm, rfl, rfl, rfl⟩
  · exact absurd ⟨_, h1, h2, h3⟩ k1
  · exact absurd ⟨_, k1, k2, k3⟩ h1
  · exact ⟨rfl, rfl, rfl, rfl⟩
theorem zQj_eq {n : Nat} {pa pa1 pa2 : Nat → Nat} {a b r r' : Int32} (hn : n ≤ 4) (h : zQj n pa a b r pa1) (h' : zQj n pa a b r' pa2) : r = r' ∧ pa2 = pa1 := by
  rcases h with ⟨j, k, h1, h2, h3, h4, h5, h6, rfl⟩ | ⟨h1, rfl, rfl⟩ <;> rcases h' with ⟨j', k', g1, g2, g3, g4, g5, g6, rfl⟩ | ⟨g1, rfl, rfl⟩
  · have e1 : j = j' := zQ_nI (by omega) (by omega) (h4.symm.trans g4)
    have e2 : k = k' := zQ_nI (by omega) (by omega) (h5.symm.trans g5)
    subst e1
    subst e2
    exact ⟨h6.trans g6.symm, rfl⟩
  · exact absurd ⟨⟨j, h1, h4⟩, ⟨k, h2, h5⟩, fun q => h3 (zQ_nI (by omega) (by omega) (h4.symm.trans (q.trans h5)))⟩ g1
  · exact absurd ⟨⟨j', g1, g4⟩, ⟨k', g2, g5⟩, fun q => g3 (zQ_nI (by omega) (by omega) (g4.symm.trans (q.trans g5)))⟩ h1
  · exact ⟨rfl, rfl⟩
theorem zQc_eq {n : Nat} {pa pa1 pa2 : Nat → Nat} {a b r r' : Int32} (hn : n ≤ 4) (h : zQc n pa a b r pa1) (h' : zQc n pa a b r' pa2) : r = r' ∧ pa2 = pa1 := by
  rcases h with ⟨j, k, h1, h2, h3, h4, h5, h6, rfl⟩ | ⟨h1, rfl, rfl⟩ <;> rcases h' with ⟨j', k', g1, g2, g3, g4, g5, g6, rfl⟩ | ⟨g1, rfl, rfl⟩
  · have e1 : j = j' := zQ_nI (by omega) (by omega) (h4.symm.trans g4)
    have e2 : k = k' := zQ_nI (by omega) (by omega) (h5.symm.trans g5)
    subst e1
    subst e2
    exact ⟨h6.trans g6.symm, rfl⟩
  · exact absurd ⟨⟨j, h1, h4⟩, ⟨k, h2, h5⟩, fun q => h3 (zQ_nI (by omega) (by omega) (h4.symm.trans (q.trans h5)))⟩ g1
  · exact absurd ⟨⟨j', g1, g4⟩, ⟨k', g2, g5⟩, fun q => g3 (zQ_nI (by omega) (by omega) (g4.symm.trans (q.trans g5)))⟩ h1
  · exact ⟨rfl, rfl⟩
theorem zQt_eq {n : Nat} {pa ph ph1 ph2 : Nat → Nat} {a x r r' : Int32} (hn : n ≤ 4) (h : zQt n pa ph a x r ph1) (h' : zQt n pa ph a x r' ph2) : r = r' ∧ ph2 = ph1 := by
  rcases h with ⟨j, h1, h2, h3, h4, h5, rfl⟩ | ⟨h1, rfl, rfl⟩ <;> rcases h' with ⟨j', g1, g2, g3, g4, g5, rfl⟩ | ⟨g1, rfl, rfl⟩
  · have e1 : j = j' := zQ_nI (by omega) (by omega) (h2.symm.trans g2)
    subst e1
    exact ⟨h5.trans g5.symm, rfl⟩
  · exact absurd ⟨⟨j, h1, h2⟩, h3, h4⟩ g1
  · exact absurd ⟨⟨j', g1, g2⟩, g3, g4⟩ h1
  · exact ⟨rfl, rfl⟩
theorem zQl_eq {n : Nat} {ph : Nat → Nat} {x r r' : Int32} (hn : n ≤ 4) (h : zQl n ph x r) (h' : zQl n ph x r') : r = r' := by
  obtain ⟨b, o, f, k, a⟩ := h
  obtain ⟨b', o', f', k', a'⟩ := h'
  obtain ⟨rfl, rfl, e⟩ := zk_uniq k k'
  exact zl_ans_eq hn e a a'
theorem zQs_eq {n : Nat} {ph ph1 ph2 : Nat → Nat} {r r' : Int32} (h : zQs n ph r ph1) (h' : zQs n ph r' ph2) : r = r' ∧ ∀ j, ph2 j = ph1 j := by
  obtain ⟨b, o, f, k, a, rfl⟩ := h
  obtain ⟨b', o', f', k', a', rfl⟩ := h'
  obtain ⟨rfl, rfl, e⟩ := zk_uniq k k'
  refine ⟨by rw [a, a', zc_dif_congr _ (fun _ _ _ => rfl) e], fun j => ?_⟩
  show (if 1 ≤ j ∧ j ≤ 2 ^ n - 1 then b' j else ph j) = if 1 ≤ j ∧ j ≤ 2 ^ n - 1 then b j else ph j
  by_cases q : 1 ≤ j ∧ j ≤ 2 ^ n - 1
  · rw [if_pos q, if_pos q, e j q.1 q.2]
  · rw [if_neg q, if_neg q]
theorem zQi_eq {n : Nat} {pa : Nat → Nat} {x r r' : Int32} (h : zQi n pa x r) (h' : zQi n pa x r') : r = r' := by
  obtain ⟨ws, a, b⟩ := h
  obtain ⟨ws', a', b'⟩ := h'
  obtain rfl := zLin_uniq a a'
  exact zq_ans_eq (by have := a.2.2; omega) b b'
theorem zQn_eq {n : Nat} {pa ph : Nat → Nat} {x r r' : Int32} (h8 : ∀ j, ph j < 8) (h : zQn n pa ph x r) (h' : zQn n pa ph x r') : r = r' := by
  rcases h with ⟨h1, h2⟩ | ⟨h1, ws, a, b⟩ <;> rcases h' with ⟨k1, k2⟩ | ⟨k1, ws', a', b'⟩
  · rw [h2, k2]
  · omega
  · omega
  · obtain rfl := zNet_uniq h8 a a'
    exact zq_ans_eq (by have := a.2.2; omega) b b'
def zKP (n : Nat) (pa ph : Nat → Nat) : Prop := 1 ≤ n ∧ n ≤ 4 ∧ zr n pa ∧ ∀ j, ph j < 8
/-- the program's object o, with its cells w -/
def zCR (cA : Nat → ClassId) (o kc ks n : Nat) (pa ph : Nat → Nat) (w : va_W) : Prop :=
  ∃ (a1 a2 o3 b1 t1 g1 a4 lk od fi la0 : Nat) (li ne : Int32) (sf : Nat → Option Nat) (pa0 ph0 be tr rr : Nat → Nat) (M : Nat → Nat → Nat) (XX : va_W) (L : Int32 → List Nat → Prop),
  w = zfl [[(o, .inr (2, [.ref a1, .ref a2, .ref o3, .ref a4, .int (nI n), .int (nI lk), .int li, .int ne]))], [(a1, .inl (cA 0, 4, .inl (nA pa0)))], [(a2, .inl (cA 0, 16, .inl (nA ph0)))], [(o3, .inr (0, [.ref b1, .int (nI od), .int (nI fi), .ref t1, .ref g1, .int (nI la0)]))], [(b1, .inl (cA 0, 16, .inl (nA be)))], [(t1, .inl (cA 0, 16, .inl (nA tr)))], [(g1, .inl (cA 4, 17, .inr (.inr (.inr (.inr (zg_o rr))))))], zg_w cA rr M, [(a4, .inl (cA 3, 5, .inr (.inr (.inr (.inr sf)))))], XX] ∧ (kc = zcnt sf ∧ ks = zslt sf) ∧ zKP n pa ph ∧ ((∀ j, j < n → pa0 j = pa j) ∧ zAg n ph0 ph ∧ ∀ j, ph0 j < 8) ∧ (lk ≤ 1 ∧ (∀ j, be j < 8) ∧ (∀ j, tr j < 8) ∧ (lk = 1 → zk_known n ph0 be od fi)) ∧ zXs cA n sf XX L ∧ (li = (-1) ∨ ∃ ws, zLin n (zc_code n pa n) ws ∧ L li ws) ∧ (ne = (-1) ∨ (n ≤ 3 ∧ ∃ ws, zNet n (zc_code n pa n) ph ws ∧ L ne ws))
/-- the reference's object o, with its cells w -/
def zMR (cA : Nat → ClassId) (o n : Nat) (pa ph : Nat → Nat) (w : va_W) : Prop :=
  ∃ (ad : Nat → Nat) (kl ki kw bo bt my pg lg ng : Nat) (pa0 ph0 nw be tw ic qu so bb pl lp np : Nat → Nat),
  w = zfl [[(o, .inr (3, [.int (nI 0), .int (nI n), .ref (ad 0), .ref (ad 1), .int (nI kl), .int (nI ki), .int (nI kw), .ref (ad 2), .ref (ad 3), .int (nI bo), .int (nI bt), .ref (ad 4), .ref (ad 5), .ref (ad 6), .ref (ad 7), .ref (ad 8), .int (nI my), .ref (ad 9), .int (nI pg), .ref (ad 10), .int (nI lg), .ref (ad 11), .int (nI ng)]))], [(ad 0, .inl (cA 0, 4, .inl (nA pa0)))], [(ad 1, .inl (cA 0, 16, .inl (nA ph0)))], [(ad 2, .inl (cA 0, 16, .inl (nA nw)))], [(ad 3, .inl (cA 0, 16, .inl (nA be)))], [(ad 4, .inl (cA 0, 6, .inl (nA tw)))], [(ad 5, .inl (cA 2, 65536, .inl (nA ic)))], [(ad 6, .inl (cA 0, 65536, .inl (nA qu)))], [(ad 7, .inl (cA 0, 65536, .inl (nA so)))], [(ad 8, .inl (cA 0, 65536, .inl (nA bb)))], [(ad 9, .inl (cA 0, 64, .inl (nA pl)))], [(ad 10, .inl (cA 0, 64, .inl (nA lp)))], [(ad 11, .inl (cA 0, 64, .inl (nA np)))]] ∧ zKP n pa ph ∧ ((∀ j, j < n → pa0 j = pa j) ∧ zAg n ph0 ph ∧ ∀ j, ph0 j < 8) ∧ (kl ≤ 1 ∧ (∀ j, nw j < 8) ∧ (∀ j, be j < 8) ∧ (kl = 1 → zk_known n ph0 be bo bt)) ∧ (ki ≤ 1 ∧ (ki = 1 → ∃ ws, zLin n (zc_code n pa n) ws ∧ zm_pl ws lp lg)) ∧ (kw ≤ 1 ∧ (kw = 1 → n ≤ 3 ∧ ∃ ws, zNet n (zc_code n pa n) ph ws ∧ zm_pl ws np ng))
theorem zMR_ag {cA : Nat → ClassId} {o n : Nat} {pa ph ph' : Nat → Nat} {w : va_W} (h : zMR cA o n pa ph w) (e : ∀ j, ph' j = ph j) : zMR cA o n pa ph' w := by
  have : ph' = ph := funext e
  rw [this]
  exact h
