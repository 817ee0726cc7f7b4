set_option maxHeartbeats 4000000 in
set_option maxRecDepth 100000 in
/-- oddNow() -/
theorem pm_oddNow (l : Launch) (dC : Nat → ClassId) (dI : Nat → Nat → Nat) (cA : Nat → ClassId) (o : Nat) (ad : Nat → Nat) (n kl ki kw bo bt my pg lg ng : Nat) (nw : Nat → Nat) (hn : n ≤ 4) (hnw : ∀ j, nw j < 8) : Met l pm_y_oddNow pm_w_oddNow ({ frames := 1, cells := 0, slots := 0, locals := 20 }) (va_Pc [.ref o] (zR (dC, dI) cA [(o, .inr (3, [.int (nI 0), .int (nI n), .ref (ad 0), .ref (ad 1), .int (nI kl), .int (nI ki), .int (nI kw), .ref (ad 2), .ref (ad 3), .int (nI bo), .int (nI bt), .ref (ad 4), .ref (ad 5), .ref (ad 6), .ref (ad 7), .ref (ad 8), .int (nI my), .ref (ad 9), .int (nI pg), .ref (ad 10), .int (nI lg), .ref (ad 11), .int (nI ng)])), (ad 2, .inl (cA 0, 16, .inl (nA nw)))])) (vp_Si (fun r => r = nI (pz_odd nw (2 ^ n - 1)))) 0 0 (fun _ => False) := by
  refine Met.ofW (cc := pm_c_oddNow) (maxL := 3) (ret := (some .int)) (by decide) rfl ?_
  intro p e s m args below meth c s₁ B hml hv
  obtain ⟨rfl, hP, hK⟩ := hv
  have hx := B.exec
  have hb := B.bytes
  have hr := B.returns
  have hts0 := atoms_spec (ws := pm_w_oddNow) B.pre
  have hts : ∀ w ∈ zz_tbl, w.before _ s = true := fun w h => hts0 w (List.mem_cons_of_mem _ h)
  have hown : s.vm.findClass pm_R = some m.cls := findClass_of_methodNamed B.named
  have hlocks := B.notSynchronized
  have hP : va_P (dC, dI) zz_cl [(o, .inr (3, [.int (nI 0), .int (nI n), .ref (ad 0), .ref (ad 1), .int (nI kl), .int (nI ki), .int (nI kw), .ref (ad 2), .ref (ad 3), .int (nI bo), .int (nI bt), .ref (ad 4), .ref (ad 5), .ref (ad 6), .ref (ad 7), .ref (ad 8), .int (nI my), .ref (ad 9), .int (nI pg), .ref (ad 10), .int (nI lg), .ref (ad 11), .int (nI ng)])), (ad 2, .inl (cA 0, 16, .inl (nA nw)))] s.heap := hP
  have hl := lv_entry ([.ref o]) (n := 3) (Nat.le_of_ble_eq_true rfl)
  rw [lg_entry_eq]
  generalize (lg_sl ([.ref o]) ++ List.replicate (3 - (lg_sl ([.ref o])).length) Slot.unset).toArray = ls at hl ⊢
  have hl : lv_has ls 3 [(0, .ref o)] := hl
  have hpow : 0 < 2 ^ n := Nat.two_pow_pos n
  have hpow2 : 2 ^ n ≤ 2 ^ 4 := Nat.pow_le_pow_right (by decide) hn
  refine lv_iconst (v := (nI 0)) hx hb pm_d_oddNow_0 (by decide) ?_
  refine lv_istore_n (lv' := [(1, .int (nI 0)), (0, .ref o)]) hx hb pm_d_oddNow_1 rfl hl (by decide) rfl (fun ls hl => ?_)
  refine lv_iconst (v := (nI 1)) hx hb pm_d_oddNow_2 (by decide) ?_
  refine lv_istore_n (lv' := [(2, .int (nI 1)), (1, .int (nI 0)), (0, .ref o)]) hx hb pm_d_oddNow_3 rfl hl (by decide) rfl (fun ls hl => ?_)
  refine zl_loop (J := fun k ls H locs => ∃ (i : Nat), k = 2 ^ n - 1 - i ∧ (i ≤ 2 ^ n - 1) ∧ H = s.heap ∧ locs = [] ∧ lv_has ls 3 [(0, .ref o), (1, .int (nI (pz_odd nw i))), (2, .int (nI (i + 1)))]) (fun k4 ls H locs hJ4 ih4 => ?_) (2 ^ n - 1 - 0) ⟨0, rfl, Nat.zero_le _, rfl, rfl, lv_sub hl [2, 1, 0] rfl⟩
  obtain ⟨i, hk4, hi, rfl, rfl, hl⟩ := hJ4
  refine lv_iload_n hx hb pm_d_oddNow_4 rfl (lv_at hl 2 rfl) ?_
  refine lv_aload_n hx hb pm_d_oddNow_5 rfl (lv_at hl 0 rfl) ?_
  refine zq_Vi (n := 0) (As := []) (rest := [.int (nI (i + 1))]) ⟨hx, hb, hml, hown, hts⟩ (pm_parities l dC dI cA o ad n kl ki kw bo bt my pg lg ng (by omega)) zg_pm79 (by decide +kernel) ⟨rfl, rfl⟩ ⟨Nat.le_of_ble_eq_true rfl, Nat.le_of_ble_eq_true rfl⟩ hK (hP.sub (ws' := [(o, .inr (3, [.int (nI 0), .int (nI n), .ref (ad 0), .ref (ad 1), .int (nI kl), .int (nI ki), .int (nI kw), .ref (ad 2), .ref (ad 3), .int (nI bo), .int (nI bt), .ref (ad 4), .ref (ad 5), .ref (ad 6), .ref (ad 7), .ref (ad 8), .int (nI my), .ref (ad 9), .int (nI pg), .ref (ad 10), .int (nI lg), .ref (ad 11), .int (nI ng)]))]) [0] rfl) 3 0 rfl rfl rfl rfl hl.1 rfl (Nat.le_of_ble_eq_true rfl) pm_d_oddNow_6 (fun r_1 h_2 => ?_) ⟨Nat.le_of_ble_eq_true rfl, Nat.le_of_ble_eq_true rfl⟩
  subst h_2
  refine zc_ge (tgt := 29) hx hb pm_d_oddNow_9 (by decide) (by omega) (by omega) (fun c_3 => ?_) (fun c_3 => ?_)
  · refine lv_iload_n hx hb pm_d_oddNow_29 rfl (lv_at hl 1 rfl) ?_
    exact W.iret (v := (nI (pz_odd nw i))) hx hb hr (fun t ht hW => ⟨(nI (pz_odd nw i)), rfl, by rw [show i = 2 ^ n - 1 by omega], ht⟩) (fun q h => by cases h) pm_d_oddNow_30
  · refine lv_iload_n hx hb pm_d_oddNow_12 rfl (lv_at hl 1 rfl) ?_
    refine lv_aload_n hx hb pm_d_oddNow_13 rfl (lv_at hl 0 rfl) ?_
    refine va_get (D := (dC, dI)) (ci := 3) (v := .ref (ad 2)) (C := pm_R) (T := pm_T) (N := 23) hx hb hts pm_in hown hK hP 0 rfl rfl 7 (by decide) (hts _ zk_pm16) (fun _ h9 => h9) rfl pm_d_oddNow_14 ?_
    refine lv_iload_n hx hb pm_d_oddNow_17 rfl (lv_at hl 2 rfl) ?_
    have h8 := hnw (i + 1)
    refine zv_iald hx hb hK hP 1 0 rfl rfl (k := (i + 1)) (by omega) (by omega) pm_d_oddNow_18 ?_
    refine lv_iconst (v := (nI 1)) hx hb pm_d_oddNow_19 (by decide) ?_
    refine lv_iand hx hb pm_d_oddNow_20 ?_
    refine zt_i (zb_m2 (a := (nw (i + 1))) (by omega)) ?_
    refine lv_iadd hx hb pm_d_oddNow_21 ?_
    refine zt_i (nI_add (pz_odd nw i) ((nw (i + 1)) % 2)) ?_
    refine lv_istore_n (lv' := [(1, .int (nI (pz_odd nw (i + 1)))), (0, .ref o), (2, .int (nI (i + 1)))]) hx hb pm_d_oddNow_22 rfl hl (by decide) rfl (fun ls hl => ?_)
    refine lv_iinc (v := (nI ((i + 1) + 1))) (lv' := [(2, .int (nI ((i + 1) + 1))), (1, .int (nI (pz_odd nw (i + 1)))), (0, .ref o)]) hx hb pm_d_oddNow_23 hl (k := 2) rfl (nI_1 (i + 1)) (by decide) rfl (fun ls hl => ?_)
    refine lv_goto (tgt := 4) hx hb pm_d_oddNow_26 (by decide) ?_
    exact ih4 _ _ _ _ (by omega) ⟨i + 1, rfl, by omega, rfl, rfl, lv_sub hl [2, 1, 0] rfl⟩
set_option maxHeartbeats 4000000 in
set_option maxRecDepth 100000 in
/-- manySets(mn) -/
theorem pm_manySets (l : Launch) (dC : Nat → ClassId) (dI : Nat → Nat → Nat) (cA : Nat → ClassId) (o : Nat) (ad : Nat → Nat) (n kl ki kw bo bt my pg lg ng : Nat) (mn : Nat) (hn : n ≤ 4) (hmn : mn < 2 ^ 31) : Met l pm_y_manySets pm_w_manySets ({ frames := 1, cells := 0, slots := 0, locals := 20 }) (va_Pc [.ref o, .int (nI mn)] (zR (dC, dI) cA [(o, .inr (3, [.int (nI 0), .int (nI n), .ref (ad 0), .ref (ad 1), .int (nI kl), .int (nI ki), .int (nI kw), .ref (ad 2), .ref (ad 3), .int (nI bo), .int (nI bt), .ref (ad 4), .ref (ad 5), .ref (ad 6), .ref (ad 7), .ref (ad 8), .int (nI my), .ref (ad 9), .int (nI pg), .ref (ad 10), .int (nI lg), .ref (ad 11), .int (nI ng)]))])) (vp_Si (fun r => r = nI (zms mn (2 ^ n - 1)))) 0 0 (fun _ => False) := by
  refine Met.ofW (cc := pm_c_manySets) (maxL := 4) (ret := (some .int)) (by decide) rfl ?_
  intro p e s m args below meth c s₁ B hml hv
  obtain ⟨rfl, hP, hK⟩ := hv
  have hx := B.exec
  have hb := B.bytes
  have hr := B.returns
  have hts0 := atoms_spec (ws := pm_w_manySets) B.pre
  have hts : ∀ w ∈ zz_tbl, w.before _ s = true := fun w h => hts0 w (List.mem_cons_of_mem _ h)
  have hown : s.vm.findClass pm_R = some m.cls := findClass_of_methodNamed B.named
  have hlocks := B.notSynchronized
  have hP : va_P (dC, dI) zz_cl [(o, .inr (3, [.int (nI 0), .int (nI n), .ref (ad 0), .ref (ad 1), .int (nI kl), .int (nI ki), .int (nI kw), .ref (ad 2), .ref (ad 3), .int (nI bo), .int (nI bt), .ref (ad 4), .ref (ad 5), .ref (ad 6), .ref (ad 7), .ref (ad 8), .int (nI my), .ref (ad 9), .int (nI pg), .ref (ad 10), .int (nI lg), .ref (ad 11), .int (nI ng)]))] s.heap := hP
  have hl := lv_entry ([.ref o, .int (nI mn)]) (n := 4) (Nat.le_of_ble_eq_true rfl)
  rw [lg_entry_eq]
  generalize (lg_sl ([.ref o, .int (nI mn)]) ++ List.replicate (4 - (lg_sl ([.ref o, .int (nI mn)])).length) Slot.unset).toArray = ls at hl ⊢
  have hl : lv_has ls 4 [(0, .ref o), (1, .int (nI mn))] := hl
  have hpow : 0 < 2 ^ n := Nat.two_pow_pos n
  have hpow2 : 2 ^ n ≤ 2 ^ 4 := Nat.pow_le_pow_right (by decide) hn
  refine lv_iconst (v := (nI 0)) hx hb pm_d_manySets_0 (by decide) ?_
  refine lv_istore_n (lv' := [(2, .int (nI 0)), (0, .ref o), (1, .int (nI mn))]) hx hb pm_d_manySets_1 rfl hl (by decide) rfl (fun ls hl => ?_)
  refine lv_iconst (v := (nI 1)) hx hb pm_d_manySets_2 (by decide) ?_
  refine lv_istore_n (lv' := [(3, .int (nI 1)), (2, .int (nI 0)), (0, .ref o), (1, .int (nI mn))]) hx hb pm_d_manySets_3 rfl hl (by decide) rfl (fun ls hl => ?_)
  refine zl_loop (J := fun k ls H locs => ∃ (i : Nat), k = 2 ^ n - 1 - i ∧ (i ≤ 2 ^ n - 1) ∧ H = s.heap ∧ locs = [] ∧ lv_has ls 4 [(0, .ref o), (1, .int (nI mn)), (2, .int (nI (zms mn i))), (3, .int (nI (i + 1)))]) (fun k4 ls H locs hJ4 ih4 => ?_) (2 ^ n - 1 - 0) ⟨0, rfl, Nat.zero_le _, rfl, rfl, lv_sub hl [2, 3, 1, 0] rfl⟩
  obtain ⟨i, hk4, hi, rfl, rfl, hl⟩ := hJ4
  refine lv_iload_n hx hb pm_d_manySets_4 rfl (lv_at hl 3 rfl) ?_
  refine lv_aload_n hx hb pm_d_manySets_5 rfl (lv_at hl 0 rfl) ?_
  refine zq_Vi (n := 0) (As := []) (rest := [.int (nI (i + 1))]) ⟨hx, hb, hml, hown, hts⟩ (pm_parities l dC dI cA o ad n kl ki kw bo bt my pg lg ng (by omega)) zg_pm79 (by decide +kernel) ⟨rfl, rfl⟩ ⟨Nat.le_of_ble_eq_true rfl, Nat.le_of_ble_eq_true rfl⟩ hK (hP.sub (ws' := [(o, .inr (3, [.int (nI 0), .int (nI n), .ref (ad 0), .ref (ad 1), .int (nI kl), .int (nI ki), .int (nI kw), .ref (ad 2), .ref (ad 3), .int (nI bo), .int (nI bt), .ref (ad 4), .ref (ad 5), .ref (ad 6), .ref (ad 7), .ref (ad 8), .int (nI my), .ref (ad 9), .int (nI pg), .ref (ad 10), .int (nI lg), .ref (ad 11), .int (nI ng)]))]) [0] rfl) 3 0 rfl rfl rfl rfl hl.1 rfl (Nat.le_of_ble_eq_true rfl) pm_d_manySets_6 (fun r_1 h_2 => ?_) ⟨Nat.le_of_ble_eq_true rfl, Nat.le_of_ble_eq_true rfl⟩
  subst h_2
  refine zc_ge (tgt := 34) hx hb pm_d_manySets_9 (by decide) (by omega) (by omega) (fun c_3 => ?_) (fun c_3 => ?_)
  · refine lv_iload_n hx hb pm_d_manySets_34 rfl (lv_at hl 2 rfl) ?_
    exact W.iret (v := (nI (zms mn i))) hx hb hr (fun t ht hW => ⟨(nI (zms mn i)), rfl, by rw [show i = 2 ^ n - 1 by omega], ht⟩) (fun q h => by cases h) pm_d_manySets_35
  · refine lv_iload_n hx hb pm_d_manySets_12 rfl (lv_at hl 2 rfl) ?_
    refine lv_iload_n hx hb pm_d_manySets_13 rfl (lv_at hl 3 rfl) ?_
    refine zq_Si (n := 1) (As := [.int (nI (i + 1))]) (rest := [.int (nI (zms mn i))]) ⟨hx, hb, hml, hown, hts⟩ (pm_ones l (i + 1) (by omega)) zg_pm83 (by decide +kernel) ⟨rfl, rfl⟩ ⟨Nat.le_of_ble_eq_true rfl, Nat.le_of_ble_eq_true rfl⟩ rfl hl.1 rfl (Nat.le_of_ble_eq_true rfl) pm_d_manySets_14 (fun r_4 h_5 => ?_) ⟨Nat.le_of_ble_eq_true rfl, Nat.le_of_ble_eq_true rfl⟩
    subst h_5
    have hzo := zo_lt (i + 1)
    refine lv_iload_n hx hb pm_d_manySets_17 rfl (lv_at hl 1 rfl) ?_
    refine zc_ne (tgt := 25) hx hb pm_d_manySets_18 (by decide) (by omega) (by omega) (fun c_6 => ?_) (fun c_6 => ?_)
    · refine lv_iconst (v := (nI 0)) hx hb pm_d_manySets_25 (by decide) ?_
      refine lv_iadd hx hb pm_d_manySets_26 ?_
      refine zt_i (zms0 c_6) ?_
      refine lv_istore_n (lv' := [(2, .int (nI (zms mn (i + 1)))), (0, .ref o), (1, .int (nI mn)), (3, .int (nI (i + 1)))]) hx hb pm_d_manySets_27 rfl hl (by decide) rfl (fun ls hl => ?_)
      refine lv_iinc (v := (nI ((i + 1) + 1))) (lv' := [(3, .int (nI ((i + 1) + 1))), (2, .int (nI (zms mn (i + 1)))), (0, .ref o), (1, .int (nI mn))]) hx hb pm_d_manySets_28 hl (k := 3) rfl (nI_1 (i + 1)) (by decide) rfl (fun ls hl => ?_)
      refine lv_goto (tgt := 4) hx hb pm_d_manySets_31 (by decide) ?_
      exact ih4 _ _ _ _ (by omega) ⟨i + 1, rfl, by omega, rfl, rfl, lv_sub hl [2, 3, 1, 0] rfl⟩
    · refine lv_iconst (v := (nI 1)) hx hb pm_d_manySets_21 (by decide) ?_
      refine lv_goto (tgt := 26) hx hb pm_d_manySets_22 (by decide) ?_
      refine lv_iadd hx hb pm_d_manySets_26 ?_
      refine zt_i (zms1 c_6) ?_
      refine lv_istore_n (lv' := [(2, .int (nI (zms mn (i + 1)))), (0, .ref o), (1, .int (nI mn)), (3, .int (nI (i + 1)))]) hx hb pm_d_manySets_27 rfl hl (by decide) rfl (fun ls hl => ?_)
      refine lv_iinc (v := (nI ((i + 1) + 1))) (lv' := [(3, .int (nI ((i + 1) + 1))), (2, .int (nI (zms mn (i + 1)))), (0, .ref o), (1, .int (nI mn))]) hx hb pm_d_manySets_28 hl (k := 3) rfl (nI_1 (i + 1)) (by decide) rfl (fun ls hl => ?_)
      refine lv_goto (tgt := 4) hx hb pm_d_manySets_31 (by decide) ?_
      exact ih4 _ _ _ _ (by omega) ⟨i + 1, rfl, by omega, rfl, rfl, lv_sub hl [2, 3, 1, 0] rfl⟩
set_option maxHeartbeats 4000000 in
set_option maxRecDepth 100000 in
/-- setOf(mn, k) -/
theorem pm_setOf (l : Launch) (dC : Nat → ClassId) (dI : Nat → Nat → Nat) (cA : Nat → ClassId) (o : Nat) (ad : Nat → Nat) (n kl ki kw bo bt my pg lg ng : Nat) (mn k0 : Nat) (hn : n ≤ 4) (hmn : mn < 2 ^ 31) (hk0 : k0 < 2 ^ 31) : Met l pm_y_setOf pm_w_setOf ({ frames := 1, cells := 0, slots := 0, locals := 20 }) (va_Pc [.ref o, .int (nI mn), .int (nI k0)] (zR (dC, dI) cA [(o, .inr (3, [.int (nI 0), .int (nI n), .ref (ad 0), .ref (ad 1), .int (nI kl), .int (nI ki), .int (nI kw), .ref (ad 2), .ref (ad 3), .int (nI bo), .int (nI bt), .ref (ad 4), .ref (ad 5), .ref (ad 6), .ref (ad 7), .ref (ad 8), .int (nI my), .ref (ad 9), .int (nI pg), .ref (ad 10), .int (nI lg), .ref (ad 11), .int (nI ng)]))])) (vp_Si (fun r => (∃ q, r = nI q ∧ 1 ≤ q ∧ q ≤ 2 ^ n - 1 ∧ zo q = mn ∧ zms mn (q - 1) = k0) ∨ (zms mn (2 ^ n - 1) ≤ k0 ∧ r = nI 0))) 0 0 (fun _ => False) := by
  refine Met.ofW (cc := pm_c_setOf) (maxL := 5) (ret := (some .int)) (by decide) rfl ?_
  intro p e s m args below meth c s₁ B hml hv
  obtain ⟨rfl, hP, hK⟩ := hv
  have hx := B.exec
  have hb := B.bytes
  have hr := B.returns
  have hts0 := atoms_spec (ws := pm_w_setOf) B.pre
  have hts : ∀ w ∈ zz_tbl, w.before _ s = true := fun w h => hts0 w (List.mem_cons_of_mem _ h)
  have hown : s.vm.findClass pm_R = some m.cls := findClass_of_methodNamed B.named
  have hlocks := B.notSynchronized
  have hP : va_P (dC, dI) zz_cl [(o, .inr (3, [.int (nI 0), .int (nI n), .ref (ad 0), .ref (ad 1), .int (nI kl), .int (nI ki), .int (nI kw), .ref (ad 2), .ref (ad 3), .int (nI bo), .int (nI bt), .ref (ad 4), .ref (ad 5), .ref (ad 6), .ref (ad 7), .ref (ad 8), .int (nI my), .ref (ad 9), .int (nI pg), .ref (ad 10), .int (nI lg), .ref (ad 11), .int (nI ng)]))] s.heap := hP
  have hl := lv_entry ([.ref o, .int (nI mn), .int (nI k0)]) (n := 5) (Nat.le_of_ble_eq_true rfl)
  rw [lg_entry_eq]
  generalize (lg_sl ([.ref o, .int (nI mn), .int (nI k0)]) ++ List.replicate (5 - (lg_sl ([.ref o, .int (nI mn), .int (nI k0)])).length) Slot.unset).toArray = ls at hl ⊢
  have hl : lv_has ls 5 [(0, .ref o), (1, .int (nI mn)), (2, .int (nI k0))] := hl
  have hpow : 0 < 2 ^ n := Nat.two_pow_pos n
  have hpow2 : 2 ^ n ≤ 2 ^ 4 := Nat.pow_le_pow_right (by decide) hn
  refine lv_iload_n hx hb pm_d_setOf_0 rfl (lv_at hl 2 rfl) ?_
  refine lv_istore_n (lv' := [(3, .int (nI k0)), (0, .ref o), (1, .int (nI mn)), (2, .int (nI k0))]) hx hb pm_d_setOf_1 rfl hl (by decide) rfl (fun ls hl => ?_)
  refine lv_iconst (v := (nI 1)) hx hb pm_d_setOf_2 (by decide) ?_
  refine lv_istore (lv' := [(4, .int (nI 1)), (3, .int (nI k0)), (0, .ref o), (1, .int (nI mn)), (2, .int (nI k0))]) hx hb pm_d_setOf_3 hl (by decide) rfl (fun ls hl => ?_)
  refine zl_loop (J := fun k ls H locs => ∃ (i : Nat) (lf : Nat), k = 2 ^ n - 1 - i ∧ (i ≤ 2 ^ n - 1) ∧ (lf + zms mn i = k0) ∧ H = s.heap ∧ locs = [] ∧ lv_has ls 5 [(0, .ref o), (1, .int (nI mn)), (2, .int (nI k0)), (3, .int (nI lf)), (4, .int (nI (i + 1)))]) (fun k5 ls H locs hJ5 ih5 => ?_) (2 ^ n - 1 - 0) ⟨0, k0, rfl, Nat.zero_le _, rfl, rfl, rfl, lv_sub hl [2, 3, 4, 1, 0] rfl⟩
  obtain ⟨i, lf, hk5, hi, hlf, rfl, rfl, hl⟩ := hJ5
  refine lv_iload hx hb pm_d_setOf_5 (lv_at hl 4 rfl) ?_
  refine lv_aload_n hx hb pm_d_setOf_7 rfl (lv_at hl 0 rfl) ?_
  refine zq_Vi (n := 0) (As := []) (rest := [.int (nI (i + 1))]) ⟨hx, hb, hml, hown, hts⟩ (pm_parities l dC dI cA o ad n kl ki kw bo bt my pg lg ng (by omega)) zg_pm79 (by decide +kernel) ⟨rfl, rfl⟩ ⟨Nat.le_of_ble_eq_true rfl, Nat.le_of_ble_eq_true rfl⟩ hK (hP.sub (ws' := [(o, .inr (3, [.int (nI 0), .int (nI n), .ref (ad 0), .ref (ad 1), .int (nI kl), .int (nI ki), .int (nI kw), .ref (ad 2), .ref (ad 3), .int (nI bo), .int (nI bt), .ref (ad 4), .ref (ad 5), .ref (ad 6), .ref (ad 7), .ref (ad 8), .int (nI my), .ref (ad 9), .int (nI pg), .ref (ad 10), .int (nI lg), .ref (ad 11), .int (nI ng)]))]) [0] rfl) 3 0 rfl rfl rfl rfl hl.1 rfl (Nat.le_of_ble_eq_true rfl) pm_d_setOf_8 (fun r_1 h_2 => ?_) ⟨Nat.le_of_ble_eq_true rfl, Nat.le_of_ble_eq_true rfl⟩
  subst h_2
  refine zc_ge (tgt := 42) hx hb pm_d_setOf_11 (by decide) (by omega) (by omega) (fun c_3 => ?_) (fun c_3 => ?_)
  · refine lv_iconst (v := (nI 0)) hx hb pm_d_setOf_42 (by decide) ?_
    exact W.iret (v := (nI 0)) hx hb hr (fun t ht hW => ⟨(nI 0), rfl, Or.inr ⟨by rw [show 2 ^ n - 1 = i by omega]; omega, rfl⟩, ht⟩) (fun q h => by cases h) pm_d_setOf_43
  · refine lv_iload hx hb pm_d_setOf_14 (lv_at hl 4 rfl) ?_
    refine zq_Si (n := 1) (As := [.int (nI (i + 1))]) (rest := []) ⟨hx, hb, hml, hown, hts⟩ (pm_ones l (i + 1) (by omega)) zg_pm83 (by decide +kernel) ⟨rfl, rfl⟩ ⟨Nat.le_of_ble_eq_true rfl, Nat.le_of_ble_eq_true rfl⟩ rfl hl.1 rfl (Nat.le_of_ble_eq_true rfl) pm_d_setOf_16 (fun r_4 h_5 => ?_) ⟨Nat.le_of_ble_eq_true rfl, Nat.le_of_ble_eq_true rfl⟩
    subst h_5
    have hzo := zo_lt (i + 1)
    refine lv_iload_n hx hb pm_d_setOf_19 rfl (lv_at hl 1 rfl) ?_
    refine zc_eq (tgt := 26) hx hb pm_d_setOf_20 (by decide) (by omega) (by omega) (fun c_6 => ?_) (fun c_6 => ?_)
    · refine lv_iload_n hx hb pm_d_setOf_26 rfl (lv_at hl 3 rfl) ?_
      refine zi_ne (tgt := 33) hx hb pm_d_setOf_27 (by decide) (by omega) (fun c_7 => ?_) (fun c_7 => ?_)
      · refine lv_iinc (v := (nI (lf - 1))) (lv' := [(3, .int (nI (lf - 1))), (0, .ref o), (1, .int (nI mn)), (2, .int (nI k0)), (4, .int (nI (i + 1)))]) hx hb pm_d_setOf_33 hl (k := 3) rfl (sb_m1 (by omega)) (by decide) rfl (fun ls hl => ?_)
        refine lv_iinc (v := (nI ((i + 1) + 1))) (lv' := [(4, .int (nI ((i + 1) + 1))), (3, .int (nI (lf - 1))), (0, .ref o), (1, .int (nI mn)), (2, .int (nI k0))]) hx hb pm_d_setOf_36 hl (k := 4) rfl (nI_1 (i + 1)) (by decide) rfl (fun ls hl => ?_)
        refine lv_goto (tgt := 5) hx hb pm_d_setOf_39 (by decide) ?_
        exact ih5 _ _ _ _ (by omega) ⟨i + 1, _, rfl, by omega, by rw [zms1' c_6]; omega, rfl, rfl, lv_sub hl [2, 3, 4, 1, 0] rfl⟩
      · refine lv_iload hx hb pm_d_setOf_30 (lv_at hl 4 rfl) ?_
        exact W.iret (v := (nI (i + 1))) hx hb hr (fun t ht hW => ⟨(nI (i + 1)), rfl, Or.inl ⟨i + 1, rfl, by omega, by omega, c_6, by rw [Nat.add_sub_cancel]; omega⟩, ht⟩) (fun q h => by cases h) pm_d_setOf_32
    · refine lv_goto (tgt := 36) hx hb pm_d_setOf_23 (by decide) ?_
      refine lv_iinc (v := (nI ((i + 1) + 1))) (lv' := [(4, .int (nI ((i + 1) + 1))), (0, .ref o), (1, .int (nI mn)), (2, .int (nI k0)), (3, .int (nI lf))]) hx hb pm_d_setOf_36 hl (k := 4) rfl (nI_1 (i + 1)) (by decide) rfl (fun ls hl => ?_)
      refine lv_goto (tgt := 5) hx hb pm_d_setOf_39 (by decide) ?_
      exact ih5 _ _ _ _ (by omega) ⟨i + 1, _, rfl, by omega, by rw [zms0' c_6]; exact hlf, rfl, rfl, lv_sub hl [1, 2, 3, 4, 0] rfl⟩
set_option maxHeartbeats 4000000 in
set_option maxRecDepth 100000 in
/-- addWithin(s, x) -/
theorem pm_addWithin (l : Launch) (dC : Nat → ClassId) (dI : Nat → Nat → Nat) (cA : Nat → ClassId) (sz : Nat) (o : Nat) (ad : Nat → Nat) (n kl ki kw bo bt my pg lg ng : Nat) (s0 t0 : Nat) (x : Int32) (nw : Nat → Nat) (hn : n ≤ 4) (hs : s0 < 16) (hp : ∀ k, zt8 k x = (k + t0) % 8) (hq : ∀ k, zt8 k (-x) = (k + 7 * t0) % 8) : Met l pm_y_addWithin pm_w_addWithin ({ frames := 1, cells := 0, slots := 0, locals := 20 }) (va_Pc [.ref o, .int (nI s0), .int x] (zB (dC, dI) cA [(o, .inr (3, [.int (nI 0), .int (nI n), .ref (ad 0), .ref (ad 1), .int (nI kl), .int (nI ki), .int (nI kw), .ref (ad 2), .ref (ad 3), .int (nI bo), .int (nI bt), .ref (ad 4), .ref (ad 5), .ref (ad 6), .ref (ad 7), .ref (ad 8), .int (nI my), .ref (ad 9), .int (nI pg), .ref (ad 10), .int (nI lg), .ref (ad 11), .int (nI ng)])), (ad 2, .inl (cA 0, 16, .inl (nA nw)))] sz)) (va_Qv (fun (_ : Unit) => True) (fun u t => zE (dC, dI) (va_A [(o, .inr (3, [.int (nI 0), .int (nI n), .ref (ad 0), .ref (ad 1), .int (nI kl), .int (nI ki), .int (nI kw), .ref (ad 2), .ref (ad 3), .int (nI bo), .int (nI bt), .ref (ad 4), .ref (ad 5), .ref (ad 6), .ref (ad 7), .ref (ad 8), .int (nI my), .ref (ad 9), .int (nI pg), .ref (ad 10), .int (nI lg), .ref (ad 11), .int (nI ng)])), (ad 2, .inl (cA 0, 16, .inl (nA nw)))] sz) ((fun _ => [(o, .inr (3, [.int (nI 0), .int (nI n), .ref (ad 0), .ref (ad 1), .int (nI kl), .int (nI ki), .int (nI kw), .ref (ad 2), .ref (ad 3), .int (nI bo), .int (nI bt), .ref (ad 4), .ref (ad 5), .ref (ad 6), .ref (ad 7), .ref (ad 8), .int (nI my), .ref (ad 9), .int (nI pg), .ref (ad 10), .int (nI lg), .ref (ad 11), .int (nI ng)])), (ad 2, .inl (cA 0, 16, .inl (nA (zaw s0 t0 (2 ^ n - 1) nw))))]) u) t) (va_A [(o, .inr (3, [.int (nI 0), .int (nI n), .ref (ad 0), .ref (ad 1), .int (nI kl), .int (nI ki), .int (nI kw), .ref (ad 2), .ref (ad 3), .int (nI bo), .int (nI bt), .ref (ad 4), .ref (ad 5), .ref (ad 6), .ref (ad 7), .ref (ad 8), .int (nI my), .ref (ad 9), .int (nI pg), .ref (ad 10), .int (nI lg), .ref (ad 11), .int (nI ng)])), (ad 2, .inl (cA 0, 16, .inl (nA nw)))] sz)) 0 0 (va_A [(o, .inr (3, [.int (nI 0), .int (nI n), .ref (ad 0), .ref (ad 1), .int (nI kl), .int (nI ki), .int (nI kw), .ref (ad 2), .ref (ad 3), .int (nI bo), .int (nI bt), .ref (ad 4), .ref (ad 5), .ref (ad 6), .ref (ad 7), .ref (ad 8), .int (nI my), .ref (ad 9), .int (nI pg), .ref (ad 10), .int (nI lg), .ref (ad 11), .int (nI ng)])), (ad 2, .inl (cA 0, 16, .inl (nA nw)))] sz) := by
  refine Met.ofW (cc := pm_c_addWithin) (maxL := 4) (ret := (none : Option Jvm.ClassFile.FieldType)) (by decide) rfl ?_
  intro p e s m args below meth c s₁ B hml hv
  obtain ⟨rfl, hsz, hP, hK, hD0, hZ⟩ := hv
  have hx := B.exec
  have hb := B.bytes
  have hr := B.returns
  have hts0 := atoms_spec (ws := pm_w_addWithin) B.pre
  have hts : ∀ w ∈ zz_tbl, w.before _ s = true := fun w h => hts0 w (List.mem_cons_of_mem _ h)
  have hown : s.vm.findClass pm_R = some m.cls := findClass_of_methodNamed B.named
  have hlocks := B.notSynchronized
  subst hsz
  have hD := hD0.self (sz := s.heap.size)
  generalize hAe : va_A [(o, .inr (3, [.int (nI 0), .int (nI n), .ref (ad 0), .ref (ad 1), .int (nI kl), .int (nI ki), .int (nI kw), .ref (ad 2), .ref (ad 3), .int (nI bo), .int (nI bt), .ref (ad 4), .ref (ad 5), .ref (ad 6), .ref (ad 7), .ref (ad 8), .int (nI my), .ref (ad 9), .int (nI pg), .ref (ad 10), .int (nI lg), .ref (ad 11), .int (nI ng)])), (ad 2, .inl (cA 0, 16, .inl (nA nw)))] s.heap.size = A at hD hZ ⊢
  have hA : ∀ q : Nat, s.heap.size ≤ q → A q := fun q h => by rw [← hAe]; exact Or.inr h
  have hS : va_S A s.heap s.heap [] := va_S.rf
  have hP : va_P (dC, dI) zz_cl [(o, .inr (3, [.int (nI 0), .int (nI n), .ref (ad 0), .ref (ad 1), .int (nI kl), .int (nI ki), .int (nI kw), .ref (ad 2), .ref (ad 3), .int (nI bo), .int (nI bt), .ref (ad 4), .ref (ad 5), .ref (ad 6), .ref (ad 7), .ref (ad 8), .int (nI my), .ref (ad 9), .int (nI pg), .ref (ad 10), .int (nI lg), .ref (ad 11), .int (nI ng)])), (ad 2, .inl (cA 0, 16, .inl (nA nw)))] s.heap := hP
  have hl := lv_entry ([.ref o, .int (nI s0), .int x]) (n := 4) (Nat.le_of_ble_eq_true rfl)
  rw [lg_entry_eq]
  generalize (lg_sl ([.ref o, .int (nI s0), .int x]) ++ List.replicate (4 - (lg_sl ([.ref o, .int (nI s0), .int x])).length) Slot.unset).toArray = ls at hl ⊢
  have hl : lv_has ls 4 [(0, .ref o), (1, .int (nI s0)), (2, .int x)] := hl
  have hpow : 0 < 2 ^ n := Nat.two_pow_pos n
  have hpow2 : 2 ^ n ≤ 2 ^ 4 := Nat.pow_le_pow_right (by decide) hn
  refine lv_iconst (v := (nI 1)) hx hb pm_d_addWithin_0 (by decide) ?_
  refine lv_istore_n (lv' := [(3, .int (nI 1)), (0, .ref o), (1, .int (nI s0)), (2, .int x)]) hx hb pm_d_addWithin_1 rfl hl (by decide) rfl (fun ls hl => ?_)
  rw [← zaw_s s0 t0 nw] at hP hD
  refine zl_loop (J := fun k ls H locs => ∃ (i : Nat), k = 2 ^ n - 1 - i ∧ (i ≤ 2 ^ n - 1) ∧ va_P (dC, dI) zz_cl [(o, .inr (3, [.int (nI 0), .int (nI n), .ref (ad 0), .ref (ad 1), .int (nI kl), .int (nI ki), .int (nI kw), .ref (ad 2), .ref (ad 3), .int (nI bo), .int (nI bt), .ref (ad 4), .ref (ad 5), .ref (ad 6), .ref (ad 7), .ref (ad 8), .int (nI my), .ref (ad 9), .int (nI pg), .ref (ad 10), .int (nI lg), .ref (ad 11), .int (nI ng)])), (ad 2, .inl (cA 0, 16, .inl (nA (zaw s0 t0 i nw))))] H ∧ va_D A [(o, .inr (3, [.int (nI 0), .int (nI n), .ref (ad 0), .ref (ad 1), .int (nI kl), .int (nI ki), .int (nI kw), .ref (ad 2), .ref (ad 3), .int (nI bo), .int (nI bt), .ref (ad 4), .ref (ad 5), .ref (ad 6), .ref (ad 7), .ref (ad 8), .int (nI my), .ref (ad 9), .int (nI pg), .ref (ad 10), .int (nI lg), .ref (ad 11), .int (nI ng)])), (ad 2, .inl (cA 0, 16, .inl (nA (zaw s0 t0 i nw))))] ∧ va_S A s.heap H locs ∧ lv_has ls 4 [(0, .ref o), (1, .int (nI s0)), (2, .int x), (3, .int (nI (i + 1)))]) (fun k2 ls H locs hJ2 ih2 => ?_) (2 ^ n - 1 - 0) ⟨0, rfl, Nat.zero_le _, hP, hD, hS, lv_sub hl [1, 2, 3, 0] rfl⟩
  obtain ⟨i, hk2, hi, hP, hD, hS, hl⟩ := hJ2
  refine lv_iload_n hx hb pm_d_addWithin_2 rfl (lv_at hl 3 rfl) ?_
  refine lv_aload_n hx hb pm_d_addWithin_3 rfl (lv_at hl 0 rfl) ?_
  refine zq_Vi (n := 0) (As := []) (rest := [.int (nI (i + 1))]) ⟨hx, hb, hml, hown, hts⟩ (pm_parities l dC dI cA o ad n kl ki kw bo bt my pg lg ng (by omega)) zg_pm79 (by decide +kernel) ⟨rfl, rfl⟩ ⟨Nat.le_of_ble_eq_true rfl, Nat.le_of_ble_eq_true rfl⟩ hK (hP.sub (ws' := [(o, .inr (3, [.int (nI 0), .int (nI n), .ref (ad 0), .ref (ad 1), .int (nI kl), .int (nI ki), .int (nI kw), .ref (ad 2), .ref (ad 3), .int (nI bo), .int (nI bt), .ref (ad 4), .ref (ad 5), .ref (ad 6), .ref (ad 7), .ref (ad 8), .int (nI my), .ref (ad 9), .int (nI pg), .ref (ad 10), .int (nI lg), .ref (ad 11), .int (nI ng)]))]) [0] rfl) 3 0 rfl rfl rfl rfl hl.1 rfl (Nat.le_of_ble_eq_true rfl) pm_d_addWithin_4 (fun r_1 h_2 => ?_) ⟨Nat.le_of_ble_eq_true rfl, Nat.le_of_ble_eq_true rfl⟩
  subst h_2
  refine zc_ge (tgt := 59) hx hb pm_d_addWithin_7 (by decide) (by omega) (by omega) (fun c_3 => ?_) (fun c_3 => ?_)
  · rw [show i = 2 ^ n - 1 by omega] at hP hD
    have hP9 := hP.sub (ws' := [(o, .inr (3, [.int (nI 0), .int (nI n), .ref (ad 0), .ref (ad 1), .int (nI kl), .int (nI ki), .int (nI kw), .ref (ad 2), .ref (ad 3), .int (nI bo), .int (nI bt), .ref (ad 4), .ref (ad 5), .ref (ad 6), .ref (ad 7), .ref (ad 8), .int (nI my), .ref (ad 9), .int (nI pg), .ref (ad 10), .int (nI lg), .ref (ad 11), .int (nI ng)])), (ad 2, .inl (cA 0, 16, .inl (nA (zaw s0 t0 (2 ^ n - 1) nw))))]) [0, 1] rfl
    have hD9 := hD.sub (ws' := [(o, .inr (3, [.int (nI 0), .int (nI n), .ref (ad 0), .ref (ad 1), .int (nI kl), .int (nI ki), .int (nI kw), .ref (ad 2), .ref (ad 3), .int (nI bo), .int (nI bt), .ref (ad 4), .ref (ad 5), .ref (ad 6), .ref (ad 7), .ref (ad 8), .int (nI my), .ref (ad 9), .int (nI pg), .ref (ad 10), .int (nI lg), .ref (ad 11), .int (nI ng)])), (ad 2, .inl (cA 0, 16, .inl (nA (zaw s0 t0 (2 ^ n - 1) nw))))]) [0, 1] (by decide) rfl
    exact W.vret hx hb hr (fun t ht hW => ⟨⟨(), rfl, trivial, by rw [ht]; exact hP9, hD9⟩, hS.F ht⟩) hS.2.2 pm_d_addWithin_59
  · refine lv_iload_n hx hb pm_d_addWithin_10 rfl (lv_at hl 3 rfl) ?_
    refine lv_iload_n hx hb pm_d_addWithin_11 rfl (lv_at hl 1 rfl) ?_
    refine lv_iconst (v := (nI 4294967295)) hx hb pm_d_addWithin_12 (by decide) ?_
    refine lv_ixor hx hb pm_d_addWithin_13 ?_
    refine zt_i (zb_xor s0 4294967295) ?_
    refine lv_iand hx hb pm_d_addWithin_14 ?_
    refine zt_i (zb_and (i + 1) (s0 ^^^ 4294967295)) ?_
    refine zi_ne (tgt := 53) hx hb pm_d_addWithin_15 (by decide) (Nat.lt_of_le_of_lt Nat.and_le_left (by omega)) (fun c_4 => ?_) (fun c_4 => ?_)
    · refine lv_iinc (v := (nI ((i + 1) + 1))) (lv' := [(3, .int (nI ((i + 1) + 1))), (0, .ref o), (1, .int (nI s0)), (2, .int x)]) hx hb pm_d_addWithin_53 hl (k := 3) rfl (nI_1 (i + 1)) (by decide) rfl (fun ls hl => ?_)
      refine lv_goto (tgt := 2) hx hb pm_d_addWithin_56 (by decide) ?_
      rw [zaw0 (by omega) hs c_4] at hP hD
      exact ih2 _ _ _ _ (by omega) ⟨i + 1, rfl, by omega, hP, hD, hS, lv_sub hl [1, 2, 3, 0] rfl⟩
    · refine lv_aload_n hx hb pm_d_addWithin_18 rfl (lv_at hl 0 rfl) ?_
      refine va_get (D := (dC, dI)) (ci := 3) (v := .ref (ad 2)) (C := pm_R) (T := pm_T) (N := 23) hx hb hts pm_in hown hK hP 0 rfl rfl 7 (by decide) (hts _ zk_pm16) (fun _ h9 => h9) rfl pm_d_addWithin_19 ?_
      refine lv_iload_n hx hb pm_d_addWithin_22 rfl (lv_at hl 3 rfl) ?_
      refine lv_aload_n hx hb pm_d_addWithin_23 rfl (lv_at hl 0 rfl) ?_
      refine va_get (D := (dC, dI)) (ci := 3) (v := .ref (ad 2)) (C := pm_R) (T := pm_T) (N := 23) hx hb hts pm_in hown hK hP 0 rfl rfl 7 (by decide) (hts _ zk_pm16) (fun _ h9 => h9) rfl pm_d_addWithin_24 ?_
      refine lv_iload_n hx hb pm_d_addWithin_27 rfl (lv_at hl 3 rfl) ?_
      refine zv_iald hx hb hK hP 1 0 rfl rfl (k := (i + 1)) (by omega) (by omega) pm_d_addWithin_28 ?_
      refine lv_iload_n hx hb pm_d_addWithin_29 rfl (lv_at hl 1 rfl) ?_
      refine lv_iload_n hx hb pm_d_addWithin_30 rfl (lv_at hl 3 rfl) ?_
      refine lv_iconst (v := (nI 4294967295)) hx hb pm_d_addWithin_31 (by decide) ?_
      refine lv_ixor hx hb pm_d_addWithin_32 ?_
      refine zt_i (zb_xor (i + 1) 4294967295) ?_
      refine lv_iand hx hb pm_d_addWithin_33 ?_
      refine zt_i (zb_and s0 ((i + 1) ^^^ 4294967295)) ?_
      refine zq_Si (n := 1) (As := [.int (nI (s0 &&& ((i + 1) ^^^ 4294967295)))]) (rest := [.int (nI ((zaw s0 t0 i nw) (i + 1))), .int (nI (i + 1)), .ref (ad 2)]) ⟨hx, hb, hml, hown, hts⟩ (pm_ones l (s0 &&& ((i + 1) ^^^ 4294967295)) (Nat.lt_of_le_of_lt Nat.and_le_left (by omega))) zg_pm83 (by decide +kernel) ⟨rfl, rfl⟩ ⟨Nat.le_of_ble_eq_true rfl, Nat.le_of_ble_eq_true rfl⟩ rfl hl.1 rfl (Nat.le_of_ble_eq_true rfl) pm_d_addWithin_34 (fun r_5 h_6 => ?_) ⟨Nat.le_of_ble_eq_true rfl, Nat.le_of_ble_eq_true rfl⟩
      subst h_6
      have hzo := zo_lt (s0 &&& ((i + 1) ^^^ 4294967295))
      refine lv_iconst (v := (nI 2)) hx hb pm_d_addWithin_37 (by decide) ?_
      refine lv_irem hx hb pm_d_addWithin_38 (by decide) ?_
      refine zt_i (pk_rem (a := (zo (s0 &&& ((i + 1) ^^^ 4294967295)))) (d := 2) (by omega) (by decide) (by decide)) ?_
      refine zi_ne (tgt := 46) hx hb pm_d_addWithin_39 (by decide) (by omega) (fun c_7 => ?_) (fun c_7 => ?_)
      · refine lv_iload_n hx hb pm_d_addWithin_46 rfl (lv_at hl 2 rfl) ?_
        refine lv_ineg hx hb pm_d_addWithin_47 ?_
        refine lv_iadd hx hb pm_d_addWithin_48 ?_
        refine lv_bipush (v := (nI 7)) hx hb pm_d_addWithin_49 (by decide) ?_
        refine lv_iand hx hb pm_d_addWithin_51 ?_
        refine zt_i (zt8_eq _ _) ?_
        refine zv_iast hx hb hK hP hD hS 1 0 rfl rfl (k := (i + 1)) (v := (zt8 (zaw s0 t0 i nw (i + 1)) (-x))) (by omega) (by omega) pm_d_addWithin_52 (fun H locs hP hD hS => ?_)
        have hP : va_P (dC, dI) zz_cl [(o, .inr (3, [.int (nI 0), .int (nI n), .ref (ad 0), .ref (ad 1), .int (nI kl), .int (nI ki), .int (nI kw), .ref (ad 2), .ref (ad 3), .int (nI bo), .int (nI bt), .ref (ad 4), .ref (ad 5), .ref (ad 6), .ref (ad 7), .ref (ad 8), .int (nI my), .ref (ad 9), .int (nI pg), .ref (ad 10), .int (nI lg), .ref (ad 11), .int (nI ng)])), (ad 2, .inl (cA 0, 16, .inl (nA (va_up (zaw s0 t0 i nw) (i + 1) (zt8 (zaw s0 t0 i nw (i + 1)) (-x))))))] H := hP
        have hD : va_D A [(o, .inr (3, [.int (nI 0), .int (nI n), .ref (ad 0), .ref (ad 1), .int (nI kl), .int (nI ki), .int (nI kw), .ref (ad 2), .ref (ad 3), .int (nI bo), .int (nI bt), .ref (ad 4), .ref (ad 5), .ref (ad 6), .ref (ad 7), .ref (ad 8), .int (nI my), .ref (ad 9), .int (nI pg), .ref (ad 10), .int (nI lg), .ref (ad 11), .int (nI ng)])), (ad 2, .inl (cA 0, 16, .inl (nA (va_up (zaw s0 t0 i nw) (i + 1) (zt8 (zaw s0 t0 i nw (i + 1)) (-x))))))] := hD
        refine lv_iinc (v := (nI ((i + 1) + 1))) (lv' := [(3, .int (nI ((i + 1) + 1))), (0, .ref o), (1, .int (nI s0)), (2, .int x)]) hx hb pm_d_addWithin_53 hl (k := 3) rfl (nI_1 (i + 1)) (by decide) rfl (fun ls hl => ?_)
        refine lv_goto (tgt := 2) hx hb pm_d_addWithin_56 (by decide) ?_
        rw [zaw_m (by omega) hs c_4 c_7 hq] at hP hD
        exact ih2 _ _ _ _ (by omega) ⟨i + 1, rfl, by omega, hP, hD, hS, lv_sub hl [1, 2, 3, 0] rfl⟩
      · refine lv_iload_n hx hb pm_d_addWithin_42 rfl (lv_at hl 2 rfl) ?_
        refine lv_goto (tgt := 48) hx hb pm_d_addWithin_43 (by decide) ?_
        refine lv_iadd hx hb pm_d_addWithin_48 ?_
        refine lv_bipush (v := (nI 7)) hx hb pm_d_addWithin_49 (by decide) ?_
        refine lv_iand hx hb pm_d_addWithin_51 ?_
        refine zt_i (zt8_eq _ _) ?_
        refine zv_iast hx hb hK hP hD hS 1 0 rfl rfl (k := (i + 1)) (v := (zt8 (zaw s0 t0 i nw (i + 1)) x)) (by omega) (by omega) pm_d_addWithin_52 (fun H locs hP hD hS => ?_)
        have hP : va_P (dC, dI) zz_cl [(o, .inr (3, [.int (nI 0), .int (nI n), .ref (ad 0), .ref (ad 1), .int (nI kl), .int (nI ki), .int (nI kw), .ref (ad 2), .ref (ad 3), .int (nI bo), .int (nI bt), .ref (ad 4), .ref (ad 5), .ref (ad 6), .ref (ad 7), .ref (ad 8), .int (nI my), .ref (ad 9), .int (nI pg), .ref (ad 10), .int (nI lg), .ref (ad 11), .int (nI ng)])), (ad 2, .inl (cA 0, 16, .inl (nA (va_up (zaw s0 t0 i nw) (i + 1) (zt8 (zaw s0 t0 i nw (i + 1)) x)))))] H := hP
        have hD : va_D A [(o, .inr (3, [.int (nI 0), .int (nI n), .ref (ad 0), .ref (ad 1), .int (nI kl), .int (nI ki), .int (nI kw), .ref (ad 2), .ref (ad 3), .int (nI bo), .int (nI bt), .ref (ad 4), .ref (ad 5), .ref (ad 6), .ref (ad 7), .ref (ad 8), .int (nI my), .ref (ad 9), .int (nI pg), .ref (ad 10), .int (nI lg), .ref (ad 11), .int (nI ng)])), (ad 2, .inl (cA 0, 16, .inl (nA (va_up (zaw s0 t0 i nw) (i + 1) (zt8 (zaw s0 t0 i nw (i + 1)) x)))))] := hD
        refine lv_iinc (v := (nI ((i + 1) + 1))) (lv' := [(3, .int (nI ((i + 1) + 1))), (0, .ref o), (1, .int (nI s0)), (2, .int x)]) hx hb pm_d_addWithin_53 hl (k := 3) rfl (nI_1 (i + 1)) (by decide) rfl (fun ls hl => ?_)
        refine lv_goto (tgt := 2) hx hb pm_d_addWithin_56 (by decide) ?_
        rw [zaw_p (by omega) hs c_4 c_7 hp] at hP hD
        exact ih2 _ _ _ _ (by omega) ⟨i + 1, rfl, by omega, hP, hD, hS, lv_sub hl [1, 2, 3, 0] rfl⟩
