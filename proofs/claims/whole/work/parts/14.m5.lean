/-! breadth first: the first place that is wanted has the first of the shortest words -/
def bz_run (nx : Nat → Nat → Nat) (s0 : Nat) : List Nat → Nat
  | [] => s0
  | l :: w => nx (bz_run nx s0 w) l
def bz_code : List Nat → Nat
  | [] => 1
  | l :: w => 16 * bz_code w + l
def bz_ok (V : Nat → Prop) (w : List Nat) : Prop := ∀ l ∈ w, V l ∧ l < 16
theorem bz_code_pos : ∀ w, 1 ≤ bz_code w
  | [] => Nat.le_refl _
  | l :: w => by
    have := bz_code_pos w
    simp only [bz_code]
    omega
theorem bz_ok_cons {V : Nat → Prop} {l : Nat} {w : List Nat} : bz_ok V (l :: w) ↔ (V l ∧ l < 16) ∧ bz_ok V w := by
  simp [bz_ok]
theorem bz_ok_nil (V : Nat → Prop) : bz_ok V [] := by simp [bz_ok]
theorem bz_code_inj {V : Nat → Prop} : ∀ (u w : List Nat), bz_ok V u → bz_ok V w → bz_code u = bz_code w → u = w
  | [], [], _, _, _ => rfl
  | [], l :: w, _, _, h => by
    have := bz_code_pos w
    simp only [bz_code] at h
    omega
  | l :: u, [], _, _, h => by
    have := bz_code_pos u
    simp only [bz_code] at h
    omega
  | l :: u, k :: w, hu, hw, h => by
    obtain ⟨⟨-, a⟩, a2⟩ := bz_ok_cons.mp hu
    obtain ⟨⟨-, b⟩, b2⟩ := bz_ok_cons.mp hw
    simp only [bz_code] at h
    have e : bz_code u = bz_code w := by omega
    rw [bz_code_inj u w a2 b2 e, show l = k by omega]
theorem bz_code_app (r : List Nat) {u v : List Nat} (h : bz_code u < bz_code v) : bz_code (r ++ u) < bz_code (r ++ v) := by
  induction r with
  | nil => exact h
  | cons l r ih =>
    simp only [List.cons_append, bz_code]
    omega
theorem bz_code_suf (r u : List Nat) : bz_code u ≤ bz_code (r ++ u) := by
  induction r with
  | nil => exact Nat.le_refl _
  | cons l r ih =>
    simp only [List.cons_append, bz_code]
    omega
theorem bz_run_app {nx : Nat → Nat → Nat} {s0 : Nat} (r : List Nat) {u v : List Nat} (h : bz_run nx s0 u = bz_run nx s0 v) : bz_run nx s0 (r ++ u) = bz_run nx s0 (r ++ v) := by
  induction r with
  | nil => exact h
  | cons l r ih =>
    simp only [List.cons_append, bz_run]
    rw [ih]
theorem bz_ok_app {V : Nat → Prop} {r u : List Nat} : bz_ok V (r ++ u) ↔ bz_ok V r ∧ bz_ok V u := by
  simp only [bz_ok, List.mem_append]
  exact ⟨fun h => ⟨fun l hl => h l (Or.inl hl), fun l hl => h l (Or.inr hl)⟩, fun h l hl => hl.elim (h.1 l) (h.2 l)⟩
/-- w is the first word with G -/
def bz_first (V : Nat → Prop) (G : List Nat → Prop) (w : List Nat) : Prop := bz_ok V w ∧ G w ∧ ∀ v, bz_ok V v → G v → bz_code w ≤ bz_code v
theorem bz_first_uniq {V : Nat → Prop} {G : List Nat → Prop} {u w : List Nat} (hu : bz_first V G u) (hw : bz_first V G w) : u = w :=
  bz_code_inj u w hu.1 hw.1 (Nat.le_antisymm (hu.2.2 w hw.1 hw.2.1) (hw.2.2 u hu.1 hu.2.1))
theorem bz_first_ex {V : Nat → Prop} {G : List Nat → Prop} (h : ∃ w, bz_ok V w ∧ G w) : ∃ w, bz_first V G w := by
  obtain ⟨w, h1, h2⟩ := h
  obtain ⟨k, ⟨u, a1, a2, a3⟩, hk⟩ := pk_least (fun k => ∃ u, bz_ok V u ∧ G u ∧ bz_code u = k) ⟨_, w, h1, h2, rfl⟩
  refine ⟨u, a1, a2, fun v b1 b2 => ?_⟩
  rcases Nat.lt_or_ge (bz_code v) (bz_code u) with q | q
  · exact absurd ⟨v, b1, b2, rfl⟩ (hk (bz_code v) (by omega))
  · exact q
theorem bz_code_len {V : Nat → Prop} : ∀ w, bz_ok V w → 16 ^ w.length ≤ bz_code w ∧ bz_code w < 2 * 16 ^ w.length
  | [], _ => by simp [bz_code]
  | l :: w, h => by
    obtain ⟨⟨-, a⟩, a2⟩ := bz_ok_cons.mp h
    obtain ⟨b1, b2⟩ := bz_code_len w a2
    simp only [bz_code, List.length_cons, Nat.pow_succ]
    omega
theorem bz_first_len {V : Nat → Prop} {G : List Nat → Prop} {u w : List Nat} (hu : bz_first V G u) (h1 : bz_ok V w) (h2 : G w) : u.length ≤ w.length := by
  have a := hu.2.2 w h1 h2
  obtain ⟨b1, b2⟩ := bz_code_len u hu.1
  obtain ⟨c1, c2⟩ := bz_code_len w h1
  rcases Nat.lt_or_ge w.length u.length with q | q
  · exfalso
    have : 16 ^ (w.length + 1) ≤ 16 ^ u.length := Nat.pow_le_pow_right (by decide) q
    rw [Nat.pow_succ] at this
    omega
  · exact q
/-- the queue: state, place before and join between of each place; pw: its word; all joins from places with 16 * place + join below M have been met -/
def bz_inv (nx : Nat → Nat → Nat) (s0 : Nat) (V : Nat → Prop) (st fr lb : Nat → Nat) (pw : Nat → List Nat) (cnt M : Nat) : Prop :=
  (0 < cnt ∧ st 0 = s0 ∧ pw 0 = []) ∧
  (∀ i, 0 < i → i < cnt → (fr i < i ∧ 16 * fr i + lb i < M) ∧ (V (lb i) ∧ lb i < 16) ∧ pw i = lb i :: pw (fr i) ∧ st i = nx (st (fr i)) (lb i)) ∧
  (∀ i j, i < j → j < cnt → bz_code (pw i) < bz_code (pw j)) ∧
  (∀ i j, i < cnt → j < cnt → st i = st j → i = j) ∧
  (∀ i l, i < cnt → V l → l < 16 → 16 * i + l < M → ∃ j, j < cnt ∧ st j = nx (st i) l ∧ (j = 0 ∨ 16 * fr j + lb j ≤ 16 * i + l))
theorem bz_inv_start (nx : Nat → Nat → Nat) (s0 : Nat) (V : Nat → Prop) {st fr lb : Nat → Nat} (h : st 0 = s0) : bz_inv nx s0 V st fr lb (fun _ => []) 1 0 := by
  refine ⟨⟨by omega, h, rfl⟩, fun i a b => absurd a (by omega), fun i j a b => absurd a (by omega), fun i j a b _ => by omega, fun i l _ _ _ a => absurd a (by omega)⟩
theorem bz_inv_word {nx : Nat → Nat → Nat} {s0 : Nat} {V : Nat → Prop} {st fr lb : Nat → Nat} {pw : Nat → List Nat} {cnt M : Nat} (h : bz_inv nx s0 V st fr lb pw cnt M) : ∀ (n i : Nat), i < n → i < cnt → bz_ok V (pw i) ∧ st i = bz_run nx s0 (pw i)
  | 0, i, a, _ => absurd a (by omega)
  | n + 1, i, a, b => by
    obtain ⟨⟨h1, h2, h3⟩, h4, -⟩ := id h
    rcases Nat.eq_zero_or_pos i with e | e
    · subst e
      rw [h3, h2]
      exact ⟨bz_ok_nil V, rfl⟩
    · obtain ⟨⟨c1, -⟩, c2, c3, c4⟩ := h4 i e b
      obtain ⟨d1, d2⟩ := bz_inv_word h n (fr i) (by omega) (by omega)
      rw [c3, c4]
      exact ⟨bz_ok_cons.mpr ⟨c2, d1⟩, by simp only [bz_run]; rw [← d2]⟩
/-- numbers between which there is no join -/
theorem bz_inv_gap {nx : Nat → Nat → Nat} {s0 : Nat} {V : Nat → Prop} {st fr lb : Nat → Nat} {pw : Nat → List Nat} {cnt M M' : Nat} (h : bz_inv nx s0 V st fr lb pw cnt M) (hM : M ≤ M') (hg : ∀ i l, l < 16 → M ≤ 16 * i + l → 16 * i + l < M' → ¬ V l) : bz_inv nx s0 V st fr lb pw cnt M' := by
  obtain ⟨h1, h2, h3, h4, h5⟩ := h
  refine ⟨h1, fun i a b => ?_, h3, h4, fun i l a b c d => ?_⟩
  · obtain ⟨⟨c1, c2⟩, c3⟩ := h2 i a b
    exact ⟨⟨c1, by omega⟩, c3⟩
  · rcases Nat.lt_or_ge (16 * i + l) M with q | q
    · exact h5 i l a b c q
    · exact absurd b (hg i l c q d)
theorem bz_below {nx : Nat → Nat → Nat} {s0 : Nat} {V : Nat → Prop} {st fr lb : Nat → Nat} {pw : Nat → List Nat} {cnt M : Nat} (h : bz_inv nx s0 V st fr lb pw cnt M) {j k l : Nat} (hj : j < cnt) (hk : k < cnt) (hl : l < 16) (hp : j = 0 ∨ 16 * fr j + lb j ≤ 16 * k + l) : bz_code (pw j) ≤ 16 * bz_code (pw k) + l := by
  obtain ⟨⟨h1, h2, h3⟩, h4, h5, -⟩ := h
  rcases Nat.eq_zero_or_pos j with e | e
  · subst e
    rw [h3]
    have := bz_code_pos (pw k)
    simp only [bz_code]
    omega
  · obtain ⟨⟨c1, -⟩, ⟨-, c2⟩, c3, -⟩ := h4 j e hj
    rw [c3]
    simp only [bz_code]
    rcases Nat.lt_or_ge (fr j) k with q | q
    · have := h5 (fr j) k q hk
      omega
    · have : fr j = k := by omega
      rw [this] at hp ⊢
      omega
/-- a state that is met anew -/
theorem bz_inv_new {nx : Nat → Nat → Nat} {s0 : Nat} {V : Nat → Prop} {st fr lb : Nat → Nat} {pw : Nat → List Nat} {cnt M : Nat} (h : bz_inv nx s0 V st fr lb pw cnt M) {k l : Nat} (hk : k < cnt) (hV : V l) (hl : l < 16) (hM : M = 16 * k + l) (hn : ∀ j, j < cnt → st j ≠ nx (st k) l) :
    bz_inv nx s0 V (va_up st cnt (nx (st k) l)) (va_up fr cnt k) (va_up lb cnt l) (va_up pw cnt (l :: pw k)) (cnt + 1) (M + 1) := by
  have hb := fun j (hj : j < cnt) (hp : j = 0 ∨ 16 * fr j + lb j ≤ 16 * k + l) => bz_below h hj hk hl hp
  obtain ⟨⟨h1, h2, h3⟩, h4, h5, h6, h7⟩ := h
  have ne : ∀ {α : Type} (f : Nat → α) (v : α) (i : Nat), i < cnt → va_up f cnt v i = f i := fun f v i hi => va_up_ne f v (by omega)
  have self : ∀ {α : Type} (f : Nat → α) (v : α), va_up f cnt v cnt = v := fun f v => va_up_self f cnt v
  refine ⟨⟨by omega, by rw [ne _ _ 0 h1]; exact h2, by rw [ne _ _ 0 h1]; exact h3⟩, fun i a b => ?_, fun i j a b => ?_, fun i j a b e => ?_, fun i l' a b c d => ?_⟩
  · rcases Nat.lt_or_ge i cnt with q | q
    · obtain ⟨⟨c1, c2⟩, c3, c4, c5⟩ := h4 i a q
      rw [ne _ _ i q, ne _ _ i q, ne _ _ i q, ne _ _ i q, ne _ _ (fr i) (by omega), ne _ _ (fr i) (by omega)]
      exact ⟨⟨c1, by omega⟩, c3, c4, c5⟩
    · have : i = cnt := by omega
      subst this
      rw [self, self, self, self, ne _ _ k hk, ne _ _ k hk]
      exact ⟨⟨hk, by omega⟩, ⟨hV, hl⟩, rfl, rfl⟩
  · rcases Nat.lt_or_ge j cnt with q | q
    · rw [ne _ _ i (by omega), ne _ _ j q]
      exact h5 i j a q
    · have : j = cnt := by omega
      subst this
      rw [self, ne _ _ i a]
      simp only [bz_code]
      rcases Nat.eq_zero_or_pos i with e | e
      · subst e
        rw [h3]
        have := bz_code_pos (pw k)
        simp only [bz_code]
        omega
      · obtain ⟨⟨c1, c2⟩, ⟨-, c3⟩, c4, -⟩ := h4 i e a
        rw [c4]
        simp only [bz_code]
        rcases Nat.lt_or_ge (fr i) k with q | q
        · have := h5 (fr i) k q hk
          omega
        · have : fr i = k := by omega
          rw [this] at c2 ⊢
          omega
  · rcases Nat.lt_or_ge i cnt with q | q
    · rcases Nat.lt_or_ge j cnt with q2 | q2
      · rw [ne _ _ i q, ne _ _ j q2] at e
        exact h6 i j q q2 e
      · have : j = cnt := by omega
        subst this
        rw [ne _ _ i q, self] at e
        exact absurd e (hn i q)
    · have : i = cnt := by omega
      subst this
      rcases Nat.lt_or_ge j i with q2 | q2
      · rw [self, ne _ _ j q2] at e
        exact absurd e.symm (hn j q2)
      · omega
  · rcases Nat.lt_or_ge i cnt with q | q
    · rcases Nat.lt_or_ge (16 * i + l') M with q2 | q2
      · obtain ⟨j, d1, d2, d3⟩ := h7 i l' q b c q2
        exact ⟨j, by omega, by rw [ne _ _ j d1, ne _ _ i q]; exact d2, by rw [ne _ _ j d1, ne _ _ j d1]; exact d3⟩
      · have e1 : i = k := by omega
        have e2 : l' = l := by omega
        subst e1
        subst e2
        exact ⟨cnt, by omega, by rw [self, ne _ _ i q], by rw [self, self]; exact Or.inr (Nat.le_refl _)⟩
    · exfalso
      omega
/-- a state that was there -/
theorem bz_inv_old {nx : Nat → Nat → Nat} {s0 : Nat} {V : Nat → Prop} {st fr lb : Nat → Nat} {pw : Nat → List Nat} {cnt M : Nat} (h : bz_inv nx s0 V st fr lb pw cnt M) {k l j : Nat} (hk : k < cnt) (hl : l < 16) (hM : M = 16 * k + l) (hj : j < cnt) (he : st j = nx (st k) l) :
    bz_inv nx s0 V st fr lb pw cnt (M + 1) := by
  obtain ⟨h1, h2, h3, h4, h5⟩ := h
  refine ⟨h1, fun i a b => ?_, h3, h4, fun i l' a b c d => ?_⟩
  · obtain ⟨⟨c1, c2⟩, c3⟩ := h2 i a b
    exact ⟨⟨c1, by omega⟩, c3⟩
  · rcases Nat.lt_or_ge (16 * i + l') M with q2 | q2
    · exact h5 i l' a b c q2
    · have e1 : i = k := by omega
      have e2 : l' = l := by omega
      subst e1
      subst e2
      refine ⟨j, hj, he, ?_⟩
      rcases Nat.eq_zero_or_pos j with e | e
      · exact Or.inl e
      · have := (h2 j e hj).1.2
        exact Or.inr (by omega)
/-- of the first word a beginning stands at a place that has not been gone on from -/
def bz_way (pw : Nat → List Nat) (cnt k : Nat) (ws : List Nat) : Prop := ∃ (i : Nat) (u r : List Nat), k ≤ i ∧ i < cnt ∧ ws = r ++ u ∧ pw i = u
theorem bz_way_start {nx : Nat → Nat → Nat} {s0 : Nat} {V : Nat → Prop} {st fr lb : Nat → Nat} {pw : Nat → List Nat} {cnt M : Nat} (h : bz_inv nx s0 V st fr lb pw cnt M) (ws : List Nat) : bz_way pw cnt 0 ws := ⟨0, [], ws, Nat.le_refl _, h.1.1, (List.append_nil ws).symm, h.1.2.2⟩
/-- the place that is wanted has the first word -/
theorem bz_hit {nx : Nat → Nat → Nat} {s0 : Nat} {V : Nat → Prop} {st fr lb : Nat → Nat} {pw : Nat → List Nat} {cnt M k : Nat} {P : Nat → Prop} {ws : List Nat} (h : bz_inv nx s0 V st fr lb pw cnt M) (hf : bz_first V (fun w => P (bz_run nx s0 w)) ws) (hw : bz_way pw cnt k ws) (hk : k < cnt) (hP : P (st k)) : pw k = ws := by
  obtain ⟨i, u, r, a1, a2, a3, a4⟩ := hw
  obtain ⟨b1, b2⟩ := bz_inv_word h (k + 1) k (by omega) hk
  rw [b2] at hP
  have c1 := hf.2.2 (pw k) b1 hP
  have c2 : bz_code (pw k) ≤ bz_code (pw i) := by
    rcases Nat.lt_or_ge k i with q | q
    · exact Nat.le_of_lt (h.2.2.1 k i q a2)
    · have : k = i := by omega
      rw [this]
      exact Nat.le_refl _
  have c3 := bz_code_suf r u
  rw [← a3, ← a4] at c3
  exact bz_code_inj _ _ b1 hf.1 (by omega)
theorem bz_way_lt {pw : Nat → List Nat} {cnt k : Nat} {ws : List Nat} (h : bz_way pw cnt k ws) : k < cnt := by
  obtain ⟨i, u, r, a1, a2, -⟩ := h
  omega
/-- one more place has been gone on from -/
theorem bz_way_step {nx : Nat → Nat → Nat} {s0 : Nat} {V : Nat → Prop} {st fr lb st' fr' lb' : Nat → Nat} {pw pw' : Nat → List Nat} {cnt cnt' M M' k : Nat} {P : Nat → Prop} {ws : List Nat} (h : bz_inv nx s0 V st fr lb pw cnt M) (h' : bz_inv nx s0 V st' fr' lb' pw' cnt' M') (hM : 16 * (k + 1) ≤ M') (hc : cnt ≤ cnt') (hs : ∀ i, i < cnt → st' i = st i) (hp : ∀ i, i < cnt → pw' i = pw i)
    (hf : bz_first V (fun w => P (bz_run nx s0 w)) ws) (hw : bz_way pw cnt k ws) (hP : ¬ P (st k)) : bz_way pw' cnt' (k + 1) ws := by
  obtain ⟨i, u, r, a1, a2, a3, a4⟩ := hw
  rcases Nat.lt_or_ge k i with q | q
  · exact ⟨i, u, r, q, by omega, a3, by rw [hp i a2]; exact a4⟩
  · have e : k = i := by omega
    subst e
    obtain ⟨b1, b2⟩ := bz_inv_word h (k + 1) k (by omega) a2
    have hr : r ≠ [] := by
      intro e
      subst e
      rw [List.nil_append] at a3
      apply hP
      rw [b2, a4, ← a3]
      exact hf.2.1
    obtain ⟨r', l, er⟩ : ∃ r' l, r = r' ++ [l] := ⟨r.dropLast, r.getLast hr, (List.dropLast_concat_getLast hr).symm⟩
    have e3 : ws = r' ++ (l :: u) := by rw [a3, er, List.append_assoc]; rfl
    have okw := hf.1
    rw [e3] at okw
    obtain ⟨ok1, ok2⟩ := bz_ok_app.mp okw
    obtain ⟨⟨vl, l16⟩, oku⟩ := bz_ok_cons.mp ok2
    obtain ⟨j, c1, c2, c3⟩ := h'.2.2.2.2 k l (by omega) vl l16 (by omega)
    obtain ⟨d1, d2⟩ := bz_inv_word h' (j + 1) j (by omega) c1
    have up := bz_below h' c1 (show k < cnt' by omega) l16 c3
    rw [hp k a2, a4] at up
    have rj : bz_run nx s0 (pw' j) = bz_run nx s0 (l :: u) := by
      rw [← d2, c2, hs k a2, b2, a4]
      rfl
    have lo : bz_code (l :: u) ≤ bz_code (pw' j) := by
      rcases Nat.lt_or_ge (bz_code (pw' j)) (bz_code (l :: u)) with g | g
      · exfalso
        have g2 := bz_code_app r' g
        have g3 := hf.2.2 (r' ++ pw' j) (bz_ok_app.mpr ⟨ok1, d1⟩) (by
          show P (bz_run nx s0 (r' ++ pw' j))
          rw [bz_run_app r' rj, ← e3]
          exact hf.2.1)
        rw [e3] at g3
        omega
      · exact g
    have ej : pw' j = l :: u := bz_code_inj _ _ d1 ok2 (by simp only [bz_code] at lo ⊢; omega)
    refine ⟨j, l :: u, r', ?_, c1, e3, ej⟩
    rcases Nat.lt_or_ge k j with g | g
    · exact g
    · exfalso
      have g2 : bz_code (pw' j) ≤ bz_code (pw' k) := by
        rcases Nat.lt_or_ge j k with g3 | g3
        · exact Nat.le_of_lt (h'.2.2.1 j k g3 (by omega))
        · have : j = k := by omega
          rw [this]
          exact Nat.le_refl _
      rw [ej, hp k a2, a4] at g2
      have := bz_code_pos u
      simp only [bz_code] at g2
      omega
/-- different members of a list are no more than it has -/
theorem bz_pigeon : ∀ (L : List Nat) (c : Nat) (st : Nat → Nat), (∀ i, i < c → st i ∈ L) → (∀ i j, i < c → j < c → st i = st j → i = j) → c ≤ L.length
  | [], c, st, h, _ => by
    rcases Nat.eq_zero_or_pos c with e | e
    · simp [e]
    · exact absurd (h 0 e) (by simp)
  | a :: L, c, st, h, hi => by
    by_cases hx : ∃ i, i < c ∧ st i = a
    · obtain ⟨i0, g1, g2⟩ := hx
      have := bz_pigeon L (c - 1) (fun i => if i = i0 then st (c - 1) else st i) (fun i hi' => ?_) (fun i j a1 a2 a3 => ?_)
      · simp only [List.length_cons]
        omega
      · by_cases e : i = i0
        · show (if i = i0 then st (c - 1) else st i) ∈ L
          rw [if_pos e]
          rcases List.mem_cons.mp (h (c - 1) (by omega)) with q | q
          · exfalso
            have := hi (c - 1) i0 (by omega) g1 (q.trans g2.symm)
            omega
          · exact q
        · show (if i = i0 then st (c - 1) else st i) ∈ L
          rw [if_neg e]
          rcases List.mem_cons.mp (h i (by omega)) with q | q
          · exact absurd (hi i i0 (by omega) g1 (q.trans g2.symm)) e
          · exact q
      · have a3 : (if i = i0 then st (c - 1) else st i) = (if j = i0 then st (c - 1) else st j) := a3
        by_cases e1 : i = i0
        · by_cases e2 : j = i0
          · omega
          · rw [if_pos e1, if_neg e2] at a3
            have := hi (c - 1) j (by omega) (by omega) a3
            omega
        · by_cases e2 : j = i0
          · rw [if_neg e1, if_pos e2] at a3
            have := hi i (c - 1) (by omega) (by omega) a3
            omega
          · rw [if_neg e1, if_neg e2] at a3
            exact hi i j (by omega) (by omega) a3
    · have := bz_pigeon L c st (fun i hi' => ?_) hi
      · simp only [List.length_cons]
        omega
      · rcases List.mem_cons.mp (h i hi') with q | q
        · exact absurd ⟨i, hi', q⟩ hx
        · exact q
