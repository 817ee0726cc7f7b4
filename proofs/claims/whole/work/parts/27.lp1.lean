set_option maxHeartbeats 4000000 in
set_option maxRecDepth 100000 in
/-- costWithoutFour(x) -/
theorem lp_cost (l : Launch) (dC : Nat → ClassId) (dI : Nat → Nat → Nat) (cA : Nat → ClassId) (o b1 t1 g1 n od fi : Nat) (tr : Nat → Nat) (x : Nat) (hx0 : x < 16) (htr : ∀ j, tr j < 8) : Met l lp_y_costWithoutFour lp_w_costWithoutFour ({ frames := 0, cells := 0, slots := 0, locals := 0 }) (va_Pc [.ref o, .int (nI x)] (zR (dC, dI) cA [(o, .inr (0, [.ref b1, .int (nI od), .int (nI fi), .ref t1, .ref g1, .int (nI (2 ^ n - 1))])), (t1, .inl (cA 0, 16, .inl (nA tr)))])) (vp_Si (fun r => r = nI (pz_c tr x))) 0 0 (fun _ => False) := by
  refine Met.ofW (cc := lp_c_costWithoutFour) (maxL := 2) (ret := (some .int)) (by decide) rfl ?_
  intro p e s m args below meth c s₁ B hml hv
  obtain ⟨rfl, hP, hK⟩ := hv
  have hx := B.exec
  have hb := B.bytes
  have hr := B.returns
  have hts0 := atoms_spec (ws := lp_w_costWithoutFour) B.pre
  have hts : ∀ w ∈ zz_tbl, w.before _ s = true := fun w h => hts0 w (List.mem_cons_of_mem _ h)
  have hown : s.vm.findClass lp_R = some m.cls := findClass_of_methodNamed B.named
  have hlocks := B.notSynchronized
  have hP : va_P (dC, dI) zz_cl [(o, .inr (0, [.ref b1, .int (nI od), .int (nI fi), .ref t1, .ref g1, .int (nI (2 ^ n - 1))])), (t1, .inl (cA 0, 16, .inl (nA tr)))] s.heap := hP
  have hl := lv_entry ([.ref o, .int (nI x)]) (n := 2) (Nat.le_of_ble_eq_true rfl)
  rw [lg_entry_eq]
  generalize (lg_sl ([.ref o, .int (nI x)]) ++ List.replicate (2 - (lg_sl ([.ref o, .int (nI x)])).length) Slot.unset).toArray = ls at hl ⊢
  have hl : lv_has ls 2 [(0, .ref o), (1, .int (nI x))] := hl
  refine lv_aload_n hx hb lp_d_costWithoutFour_0 rfl (lv_at hl 0 rfl) ?_
  refine va_get (D := (dC, dI)) (ci := 0) (v := .ref t1) (C := lp_R) (T := lp_T) (N := 6) hx hb hts lp_in hown hK hP 0 rfl rfl 3 (by decide) (hts _ zk_lp15) (fun _ h9 => h9) rfl lp_d_costWithoutFour_1 ?_
  refine lv_iload_n hx hb lp_d_costWithoutFour_4 rfl (lv_at hl 1 rfl) ?_
  refine zv_iald hx hb hK hP 1 0 rfl rfl (k := x) (by omega) (by omega) lp_d_costWithoutFour_5 ?_
  have h8 := htr x
  refine lv_iconst (v := (nI 3)) hx hb lp_d_costWithoutFour_6 (by decide) ?_
  refine lv_iand hx hb lp_d_costWithoutFour_7 ?_
  refine zt_i (zb_m4 (a := (tr x)) (by omega)) ?_
  refine zi_ne (tgt := 15) hx hb lp_d_costWithoutFour_8 (by decide) (by omega) (fun c_1 => ?_) (fun c_1 => ?_)
  · refine lv_iconst (v := (nI 1)) hx hb lp_d_costWithoutFour_15 (by decide) ?_
    exact W.iret (v := (nI 1)) hx hb hr (fun t ht hW => ⟨(nI 1), rfl, congrArg nI (if_neg (by omega)).symm, ht⟩) (fun q h => by cases h) lp_d_costWithoutFour_16
  · refine lv_iconst (v := (nI 0)) hx hb lp_d_costWithoutFour_11 (by decide) ?_
    refine lv_goto (tgt := 16) hx hb lp_d_costWithoutFour_12 (by decide) ?_
    exact W.iret (v := (nI 0)) hx hb hr (fun t ht hW => ⟨(nI 0), rfl, congrArg nI (if_pos c_1).symm, ht⟩) (fun q h => by cases h) lp_d_costWithoutFour_16
set_option maxHeartbeats 4000000 in
set_option maxRecDepth 100000 in
/-- countTried(bits) -/
theorem lp_countTried (l : Launch) (dC : Nat → ClassId) (dI : Nat → Nat → Nat) (cA : Nat → ClassId) (o b1 t1 g1 n od fi : Nat) (tr : Nat → Nat) (bt : Nat) (hn : n ≤ 4) (htr : ∀ j, tr j < 8) : Met l lp_y_countTried lp_w_countTried ({ frames := 0, cells := 0, slots := 0, locals := 0 }) (va_Pc [.ref o, .int (nI bt)] (zR (dC, dI) cA [(o, .inr (0, [.ref b1, .int (nI od), .int (nI fi), .ref t1, .ref g1, .int (nI (2 ^ n - 1))])), (t1, .inl (cA 0, 16, .inl (nA tr)))])) (vp_Si (fun r => r = nI (zc_cnt tr bt (2 ^ n - 1)))) 0 0 (fun _ => False) := by
  refine Met.ofW (cc := lp_c_countTried) (maxL := 4) (ret := (some .int)) (by decide) rfl ?_
  intro p e s m args below meth c s₁ B hml hv
  obtain ⟨rfl, hP, hK⟩ := hv
  have hx := B.exec
  have hb := B.bytes
  have hr := B.returns
  have hts0 := atoms_spec (ws := lp_w_countTried) B.pre
  have hts : ∀ w ∈ zz_tbl, w.before _ s = true := fun w h => hts0 w (List.mem_cons_of_mem _ h)
  have hown : s.vm.findClass lp_R = some m.cls := findClass_of_methodNamed B.named
  have hlocks := B.notSynchronized
  have hP : va_P (dC, dI) zz_cl [(o, .inr (0, [.ref b1, .int (nI od), .int (nI fi), .ref t1, .ref g1, .int (nI (2 ^ n - 1))])), (t1, .inl (cA 0, 16, .inl (nA tr)))] s.heap := hP
  have hl := lv_entry ([.ref o, .int (nI bt)]) (n := 4) (Nat.le_of_ble_eq_true rfl)
  rw [lg_entry_eq]
  generalize (lg_sl ([.ref o, .int (nI bt)]) ++ List.replicate (4 - (lg_sl ([.ref o, .int (nI bt)])).length) Slot.unset).toArray = ls at hl ⊢
  have hl : lv_has ls 4 [(0, .ref o), (1, .int (nI bt))] := hl
  have hpow : 0 < 2 ^ n := Nat.two_pow_pos n
  have hpow2 : 2 ^ n ≤ 2 ^ 4 := Nat.pow_le_pow_right (by decide) hn
  refine lv_iconst (v := (nI 0)) hx hb lp_d_countTried_0 (by decide) ?_
  refine lv_istore_n (lv' := [(2, .int (nI 0)), (0, .ref o), (1, .int (nI bt))]) hx hb lp_d_countTried_1 rfl hl (by decide) rfl (fun ls hl => ?_)
  refine lv_iconst (v := (nI 1)) hx hb lp_d_countTried_2 (by decide) ?_
  refine lv_istore_n (lv' := [(3, .int (nI 1)), (2, .int (nI 0)), (0, .ref o), (1, .int (nI bt))]) hx hb lp_d_countTried_3 rfl hl (by decide) rfl (fun ls hl => ?_)
  refine zl_loop (J := fun k ls H locs => ∃ (i : Nat) (ct : Nat), k = 2 ^ n - 1 - i ∧ (i ≤ 2 ^ n - 1) ∧ (ct = zc_cnt tr bt i) ∧ H = s.heap ∧ locs = [] ∧ lv_has ls 4 [(0, .ref o), (1, .int (nI bt)), (2, .int (nI ct)), (3, .int (nI (i + 1)))]) (fun k4 ls H locs hJ4 ih4 => ?_) (2 ^ n - 1 - 0) ⟨0, 0, rfl, Nat.zero_le _, rfl, rfl, rfl, lv_sub hl [2, 3, 1, 0] rfl⟩
  obtain ⟨i, ct, hk4, hi, hct, rfl, rfl, hl⟩ := hJ4
  refine lv_iload_n hx hb lp_d_countTried_4 rfl (lv_at hl 3 rfl) ?_
  refine lv_aload_n hx hb lp_d_countTried_5 rfl (lv_at hl 0 rfl) ?_
  refine va_get (D := (dC, dI)) (ci := 0) (v := .int (nI (2 ^ n - 1))) (C := lp_R) (T := lp_T) (N := 6) hx hb hts lp_in hown hK hP 0 rfl rfl 5 (by decide) (hts _ zk_lp26) (fun _ h9 => h9) rfl lp_d_countTried_6 ?_
  refine zc_gt (tgt := 32) hx hb lp_d_countTried_9 (by decide) (by omega) (by omega) (fun c_1 => ?_) (fun c_1 => ?_)
  · refine lv_iload_n hx hb lp_d_countTried_32 rfl (lv_at hl 2 rfl) ?_
    exact W.iret (v := (nI ct)) hx hb hr (fun t ht hW => ⟨(nI ct), rfl, by rw [hct, show i = 2 ^ n - 1 by omega], ht⟩) (fun q h => by cases h) lp_d_countTried_33
  · refine lv_aload_n hx hb lp_d_countTried_12 rfl (lv_at hl 0 rfl) ?_
    refine va_get (D := (dC, dI)) (ci := 0) (v := .ref t1) (C := lp_R) (T := lp_T) (N := 6) hx hb hts lp_in hown hK hP 0 rfl rfl 3 (by decide) (hts _ zk_lp15) (fun _ h9 => h9) rfl lp_d_countTried_13 ?_
    refine lv_iload_n hx hb lp_d_countTried_16 rfl (lv_at hl 3 rfl) ?_
    refine zv_iald hx hb hK hP 1 0 rfl rfl (k := (i + 1)) (by omega) (by omega) lp_d_countTried_17 ?_
    refine lv_iload_n hx hb lp_d_countTried_18 rfl (lv_at hl 1 rfl) ?_
    refine lv_iand hx hb lp_d_countTried_19 ?_
    refine zt_i (zb_and (tr (i + 1)) bt) ?_
    refine zi_eq (tgt := 26) hx hb lp_d_countTried_20 (by decide) (Nat.lt_of_le_of_lt Nat.and_le_left (by have := htr (i + 1); omega)) (fun c_2 => ?_) (fun c_2 => ?_)
    · refine lv_iinc (v := (nI ((i + 1) + 1))) (lv' := [(3, .int (nI ((i + 1) + 1))), (0, .ref o), (1, .int (nI bt)), (2, .int (nI ct))]) hx hb lp_d_countTried_26 hl (k := 3) rfl (nI_1 (i + 1)) (by decide) rfl (fun ls hl => ?_)
      refine lv_goto (tgt := 4) hx hb lp_d_countTried_29 (by decide) ?_
      exact ih4 _ _ _ _ (by omega) ⟨i + 1, _, rfl, by omega, by rw [zc_cnt0 c_2]; exact hct, rfl, rfl, lv_sub hl [1, 2, 3, 0] rfl⟩
    · refine lv_iinc (v := (nI (ct + 1))) (lv' := [(2, .int (nI (ct + 1))), (0, .ref o), (1, .int (nI bt)), (3, .int (nI (i + 1)))]) hx hb lp_d_countTried_23 hl (k := 2) rfl (nI_1 ct) (by decide) rfl (fun ls hl => ?_)
      refine lv_iinc (v := (nI ((i + 1) + 1))) (lv' := [(3, .int (nI ((i + 1) + 1))), (2, .int (nI (ct + 1))), (0, .ref o), (1, .int (nI bt))]) hx hb lp_d_countTried_26 hl (k := 3) rfl (nI_1 (i + 1)) (by decide) rfl (fun ls hl => ?_)
      refine lv_goto (tgt := 4) hx hb lp_d_countTried_29 (by decide) ?_
      exact ih4 _ _ _ _ (by omega) ⟨i + 1, _, rfl, by omega, by rw [zc_cnt1 c_2, hct], rfl, rfl, lv_sub hl [2, 3, 1, 0] rfl⟩
set_option maxHeartbeats 4000000 in
set_option maxRecDepth 100000 in
/-- exclusiveOrOfFours() -/
theorem lp_xorOfFours (l : Launch) (dC : Nat → ClassId) (dI : Nat → Nat → Nat) (cA : Nat → ClassId) (o b1 t1 g1 n od fi : Nat) (tr : Nat → Nat) (hn : n ≤ 4) (htr : ∀ j, tr j < 8) : Met l lp_y_exclusiveOrOfFours lp_w_exclusiveOrOfFours ({ frames := 0, cells := 0, slots := 0, locals := 0 }) (va_Pc [.ref o] (zR (dC, dI) cA [(o, .inr (0, [.ref b1, .int (nI od), .int (nI fi), .ref t1, .ref g1, .int (nI (2 ^ n - 1))])), (t1, .inl (cA 0, 16, .inl (nA tr)))])) (vp_Si (fun r => r = nI (pz_fx tr (2 ^ n - 1)))) 0 0 (fun _ => False) := by
  refine Met.ofW (cc := lp_c_exclusiveOrOfFours) (maxL := 3) (ret := (some .int)) (by decide) rfl ?_
  intro p e s m args below meth c s₁ B hml hv
  obtain ⟨rfl, hP, hK⟩ := hv
  have hx := B.exec
  have hb := B.bytes
  have hr := B.returns
  have hts0 := atoms_spec (ws := lp_w_exclusiveOrOfFours) B.pre
  have hts : ∀ w ∈ zz_tbl, w.before _ s = true := fun w h => hts0 w (List.mem_cons_of_mem _ h)
  have hown : s.vm.findClass lp_R = some m.cls := findClass_of_methodNamed B.named
  have hlocks := B.notSynchronized
  have hP : va_P (dC, dI) zz_cl [(o, .inr (0, [.ref b1, .int (nI od), .int (nI fi), .ref t1, .ref g1, .int (nI (2 ^ n - 1))])), (t1, .inl (cA 0, 16, .inl (nA tr)))] s.heap := hP
  have hl := lv_entry ([.ref o]) (n := 3) (Nat.le_of_ble_eq_true rfl)
  rw [lg_entry_eq]
  generalize (lg_sl ([.ref o]) ++ List.replicate (3 - (lg_sl ([.ref o])).length) Slot.unset).toArray = ls at hl ⊢
  have hl : lv_has ls 3 [(0, .ref o)] := hl
  have hpow : 0 < 2 ^ n := Nat.two_pow_pos n
  have hpow2 : 2 ^ n ≤ 2 ^ 4 := Nat.pow_le_pow_right (by decide) hn
  refine lv_iconst (v := (nI 0)) hx hb lp_d_exclusiveOrOfFours_0 (by decide) ?_
  refine lv_istore_n (lv' := [(1, .int (nI 0)), (0, .ref o)]) hx hb lp_d_exclusiveOrOfFours_1 rfl hl (by decide) rfl (fun ls hl => ?_)
  refine lv_iconst (v := (nI 1)) hx hb lp_d_exclusiveOrOfFours_2 (by decide) ?_
  refine lv_istore_n (lv' := [(2, .int (nI 1)), (1, .int (nI 0)), (0, .ref o)]) hx hb lp_d_exclusiveOrOfFours_3 rfl hl (by decide) rfl (fun ls hl => ?_)
  refine zl_loop (J := fun k ls H locs => ∃ (i : Nat) (fx : Nat), k = 2 ^ n - 1 - i ∧ (i ≤ 2 ^ n - 1) ∧ (fx = pz_fx tr i) ∧ H = s.heap ∧ locs = [] ∧ lv_has ls 3 [(0, .ref o), (1, .int (nI fx)), (2, .int (nI (i + 1)))]) (fun k4 ls H locs hJ4 ih4 => ?_) (2 ^ n - 1 - 0) ⟨0, 0, rfl, Nat.zero_le _, rfl, rfl, rfl, lv_sub hl [2, 1, 0] rfl⟩
  obtain ⟨i, fx, hk4, hi, hfx, rfl, rfl, hl⟩ := hJ4
  refine lv_iload_n hx hb lp_d_exclusiveOrOfFours_4 rfl (lv_at hl 2 rfl) ?_
  refine lv_aload_n hx hb lp_d_exclusiveOrOfFours_5 rfl (lv_at hl 0 rfl) ?_
  refine va_get (D := (dC, dI)) (ci := 0) (v := .int (nI (2 ^ n - 1))) (C := lp_R) (T := lp_T) (N := 6) hx hb hts lp_in hown hK hP 0 rfl rfl 5 (by decide) (hts _ zk_lp26) (fun _ h9 => h9) rfl lp_d_exclusiveOrOfFours_6 ?_
  refine zc_gt (tgt := 33) hx hb lp_d_exclusiveOrOfFours_9 (by decide) (by omega) (by omega) (fun c_1 => ?_) (fun c_1 => ?_)
  · refine lv_iload_n hx hb lp_d_exclusiveOrOfFours_33 rfl (lv_at hl 1 rfl) ?_
    exact W.iret (v := (nI fx)) hx hb hr (fun t ht hW => ⟨(nI fx), rfl, by rw [hfx, show i = 2 ^ n - 1 by omega], ht⟩) (fun q h => by cases h) lp_d_exclusiveOrOfFours_34
  · refine lv_aload_n hx hb lp_d_exclusiveOrOfFours_12 rfl (lv_at hl 0 rfl) ?_
    refine va_get (D := (dC, dI)) (ci := 0) (v := .ref t1) (C := lp_R) (T := lp_T) (N := 6) hx hb hts lp_in hown hK hP 0 rfl rfl 3 (by decide) (hts _ zk_lp15) (fun _ h9 => h9) rfl lp_d_exclusiveOrOfFours_13 ?_
    refine lv_iload_n hx hb lp_d_exclusiveOrOfFours_16 rfl (lv_at hl 2 rfl) ?_
    refine zv_iald hx hb hK hP 1 0 rfl rfl (k := (i + 1)) (by omega) (by omega) lp_d_exclusiveOrOfFours_17 ?_
    refine lv_iconst (v := (nI 4)) hx hb lp_d_exclusiveOrOfFours_18 (by decide) ?_
    refine lv_iand hx hb lp_d_exclusiveOrOfFours_19 ?_
    refine zt_i (zb_and (tr (i + 1)) 4) ?_
    refine zi_eq (tgt := 27) hx hb lp_d_exclusiveOrOfFours_20 (by decide) (Nat.lt_of_le_of_lt Nat.and_le_left (by have := htr (i + 1); omega)) (fun c_2 => ?_) (fun c_2 => ?_)
    · refine lv_iinc (v := (nI ((i + 1) + 1))) (lv' := [(2, .int (nI ((i + 1) + 1))), (0, .ref o), (1, .int (nI fx))]) hx hb lp_d_exclusiveOrOfFours_27 hl (k := 2) rfl (nI_1 (i + 1)) (by decide) rfl (fun ls hl => ?_)
      refine lv_goto (tgt := 4) hx hb lp_d_exclusiveOrOfFours_30 (by decide) ?_
      exact ih4 _ _ _ _ (by omega) ⟨i + 1, _, rfl, by omega, by rw [zf_fx0 (htr _) c_2]; exact hfx, rfl, rfl, lv_sub hl [1, 2, 0] rfl⟩
    · refine lv_iload_n hx hb lp_d_exclusiveOrOfFours_23 rfl (lv_at hl 1 rfl) ?_
      refine lv_iload_n hx hb lp_d_exclusiveOrOfFours_24 rfl (lv_at hl 2 rfl) ?_
      refine lv_ixor hx hb lp_d_exclusiveOrOfFours_25 ?_
      refine zt_i (zb_xor fx (i + 1)) ?_
      refine lv_istore_n (lv' := [(1, .int (nI (fx ^^^ (i + 1)))), (0, .ref o), (2, .int (nI (i + 1)))]) hx hb lp_d_exclusiveOrOfFours_26 rfl hl (by decide) rfl (fun ls hl => ?_)
      refine lv_iinc (v := (nI ((i + 1) + 1))) (lv' := [(2, .int (nI ((i + 1) + 1))), (1, .int (nI (fx ^^^ (i + 1)))), (0, .ref o)]) hx hb lp_d_exclusiveOrOfFours_27 hl (k := 2) rfl (nI_1 (i + 1)) (by decide) rfl (fun ls hl => ?_)
      refine lv_goto (tgt := 4) hx hb lp_d_exclusiveOrOfFours_30 (by decide) ?_
      exact ih4 _ _ _ _ (by omega) ⟨i + 1, _, rfl, by omega, by rw [zf_fx1 (htr _) c_2, hfx], rfl, rfl, lv_sub hl [2, 1, 0] rfl⟩
set_option maxHeartbeats 4000000 in
set_option maxRecDepth 100000 in
/-- triedComesFirst() -/
theorem lp_first (l : Launch) (dC : Nat → ClassId) (dI : Nat → Nat → Nat) (cA : Nat → ClassId) (o b1 t1 g1 n od fi : Nat) (be tr : Nat → Nat) (hn : n ≤ 4) (htr : ∀ j, tr j < 8) (hbe : ∀ j, be j < 8) : Met l lp_y_triedComesFirst lp_w_triedComesFirst ({ frames := 0, cells := 0, slots := 0, locals := 0 }) (va_Pc [.ref o] (zR (dC, dI) cA [(o, .inr (0, [.ref b1, .int (nI od), .int (nI fi), .ref t1, .ref g1, .int (nI (2 ^ n - 1))])), (b1, .inl (cA 0, 16, .inl (nA be))), (t1, .inl (cA 0, 16, .inl (nA tr)))])) (vp_Si (fun r => (r = nI 1 ∧ pz_num tr (2 ^ n - 1) < pz_num be (2 ^ n - 1)) ∨ (r = nI 0 ∧ pz_num be (2 ^ n - 1) ≤ pz_num tr (2 ^ n - 1)))) 0 0 (fun _ => False) := by
  refine Met.ofW (cc := lp_c_triedComesFirst) (maxL := 2) (ret := (some .boolean)) (by decide) rfl ?_
  intro p e s m args below meth c s₁ B hml hv
  obtain ⟨rfl, hP, hK⟩ := hv
  have hx := B.exec
  have hb := B.bytes
  have hr := B.returns
  have hts0 := atoms_spec (ws := lp_w_triedComesFirst) B.pre
  have hts : ∀ w ∈ zz_tbl, w.before _ s = true := fun w h => hts0 w (List.mem_cons_of_mem _ h)
  have hown : s.vm.findClass lp_R = some m.cls := findClass_of_methodNamed B.named
  have hlocks := B.notSynchronized
  have hP : va_P (dC, dI) zz_cl [(o, .inr (0, [.ref b1, .int (nI od), .int (nI fi), .ref t1, .ref g1, .int (nI (2 ^ n - 1))])), (b1, .inl (cA 0, 16, .inl (nA be))), (t1, .inl (cA 0, 16, .inl (nA tr)))] s.heap := hP
  have hl := lv_entry ([.ref o]) (n := 2) (Nat.le_of_ble_eq_true rfl)
  rw [lg_entry_eq]
  generalize (lg_sl ([.ref o]) ++ List.replicate (2 - (lg_sl ([.ref o])).length) Slot.unset).toArray = ls at hl ⊢
  have hl : lv_has ls 2 [(0, .ref o)] := hl
  have hpow : 0 < 2 ^ n := Nat.two_pow_pos n
  have hpow2 : 2 ^ n ≤ 2 ^ 4 := Nat.pow_le_pow_right (by decide) hn
  refine lv_iconst (v := (nI 1)) hx hb lp_d_triedComesFirst_0 (by decide) ?_
  refine lv_istore_n (lv' := [(1, .int (nI 1)), (0, .ref o)]) hx hb lp_d_triedComesFirst_1 rfl hl (by decide) rfl (fun ls hl => ?_)
  refine zl_loop (J := fun k ls H locs => ∃ (i : Nat), k = 2 ^ n - 1 - i ∧ (i ≤ 2 ^ n - 1) ∧ (∀ q, 1 ≤ q → q < i + 1 → tr q = be q) ∧ H = s.heap ∧ locs = [] ∧ lv_has ls 2 [(0, .ref o), (1, .int (nI (i + 1)))]) (fun k2 ls H locs hJ2 ih2 => ?_) (2 ^ n - 1 - 0) ⟨0, rfl, Nat.zero_le _, fun q h1 h2 => absurd h2 (by omega), rfl, rfl, lv_sub hl [1, 0] rfl⟩
  obtain ⟨i, hk2, hi, he, rfl, rfl, hl⟩ := hJ2
  refine lv_iload_n hx hb lp_d_triedComesFirst_2 rfl (lv_at hl 1 rfl) ?_
  refine lv_aload_n hx hb lp_d_triedComesFirst_3 rfl (lv_at hl 0 rfl) ?_
  refine va_get (D := (dC, dI)) (ci := 0) (v := .int (nI (2 ^ n - 1))) (C := lp_R) (T := lp_T) (N := 6) hx hb hts lp_in hown hK hP 0 rfl rfl 5 (by decide) (hts _ zk_lp26) (fun _ h9 => h9) rfl lp_d_triedComesFirst_4 ?_
  refine zc_gt (tgt := 52) hx hb lp_d_triedComesFirst_7 (by decide) (by omega) (by omega) (fun c_1 => ?_) (fun c_1 => ?_)
  · refine lv_iconst (v := (nI 0)) hx hb lp_d_triedComesFirst_52 (by decide) ?_
    exact W.zret (v := (nI 0)) hx hb hr (by decide) (fun t ht hW => ⟨(nI 0), rfl, Or.inr ⟨rfl, Nat.le_of_eq (pz_num_congr _ (fun q h1 h2 => (he q h1 (by omega)).symm))⟩, ht⟩) (fun q h => by cases h) lp_d_triedComesFirst_53
  · refine lv_aload_n hx hb lp_d_triedComesFirst_10 rfl (lv_at hl 0 rfl) ?_
    refine va_get (D := (dC, dI)) (ci := 0) (v := .ref t1) (C := lp_R) (T := lp_T) (N := 6) hx hb hts lp_in hown hK hP 0 rfl rfl 3 (by decide) (hts _ zk_lp15) (fun _ h9 => h9) rfl lp_d_triedComesFirst_11 ?_
    refine lv_iload_n hx hb lp_d_triedComesFirst_14 rfl (lv_at hl 1 rfl) ?_
    refine zv_iald hx hb hK hP 2 0 rfl rfl (k := (i + 1)) (by omega) (by omega) lp_d_triedComesFirst_15 ?_
    refine lv_aload_n hx hb lp_d_triedComesFirst_16 rfl (lv_at hl 0 rfl) ?_
    refine va_get (D := (dC, dI)) (ci := 0) (v := .ref b1) (C := lp_R) (T := lp_T) (N := 6) hx hb hts lp_in hown hK hP 0 rfl rfl 0 (by decide) (hts _ zk_lp9) (fun _ h9 => h9) rfl lp_d_triedComesFirst_17 ?_
    refine lv_iload_n hx hb lp_d_triedComesFirst_20 rfl (lv_at hl 1 rfl) ?_
    refine zv_iald hx hb hK hP 1 0 rfl rfl (k := (i + 1)) (by omega) (by omega) lp_d_triedComesFirst_21 ?_
    have h8 := htr (i + 1)
    have h9 := hbe (i + 1)
    refine zc_eq (tgt := 46) hx hb lp_d_triedComesFirst_22 (by decide) (by omega) (by omega) (fun c_2 => ?_) (fun c_2 => ?_)
    · refine lv_iinc (v := (nI ((i + 1) + 1))) (lv' := [(1, .int (nI ((i + 1) + 1))), (0, .ref o)]) hx hb lp_d_triedComesFirst_46 hl (k := 1) rfl (nI_1 (i + 1)) (by decide) rfl (fun ls hl => ?_)
      refine lv_goto (tgt := 2) hx hb lp_d_triedComesFirst_49 (by decide) ?_
      exact ih2 _ _ _ _ (by omega) ⟨i + 1, rfl, by omega, fun q h1 h2 => (Nat.lt_or_ge q (i + 1)).elim (fun h => he q h1 h) (fun h => by rw [show q = i + 1 by omega]; exact c_2), rfl, rfl, lv_sub hl [1, 0] rfl⟩
    · refine lv_aload_n hx hb lp_d_triedComesFirst_25 rfl (lv_at hl 0 rfl) ?_
      refine va_get (D := (dC, dI)) (ci := 0) (v := .ref t1) (C := lp_R) (T := lp_T) (N := 6) hx hb hts lp_in hown hK hP 0 rfl rfl 3 (by decide) (hts _ zk_lp15) (fun _ h9 => h9) rfl lp_d_triedComesFirst_26 ?_
      refine lv_iload_n hx hb lp_d_triedComesFirst_29 rfl (lv_at hl 1 rfl) ?_
      refine zv_iald hx hb hK hP 2 0 rfl rfl (k := (i + 1)) (by omega) (by omega) lp_d_triedComesFirst_30 ?_
      refine lv_aload_n hx hb lp_d_triedComesFirst_31 rfl (lv_at hl 0 rfl) ?_
      refine va_get (D := (dC, dI)) (ci := 0) (v := .ref b1) (C := lp_R) (T := lp_T) (N := 6) hx hb hts lp_in hown hK hP 0 rfl rfl 0 (by decide) (hts _ zk_lp9) (fun _ h9 => h9) rfl lp_d_triedComesFirst_32 ?_
      refine lv_iload_n hx hb lp_d_triedComesFirst_35 rfl (lv_at hl 1 rfl) ?_
      refine zv_iald hx hb hK hP 1 0 rfl rfl (k := (i + 1)) (by omega) (by omega) lp_d_triedComesFirst_36 ?_
      refine zc_ge (tgt := 44) hx hb lp_d_triedComesFirst_37 (by decide) (by omega) (by omega) (fun c_3 => ?_) (fun c_3 => ?_)
      · refine lv_iconst (v := (nI 0)) hx hb lp_d_triedComesFirst_44 (by decide) ?_
        exact W.zret (v := (nI 0)) hx hb hr (by decide) (fun t ht hW => ⟨(nI 0), rfl, Or.inr ⟨rfl, Nat.le_of_lt (pz_num_first (fun q _ _ => hbe q) (fun q _ _ => htr q) (by omega) (by omega) (fun q h1 h2 => (he q h1 h2).symm) (by omega))⟩, ht⟩) (fun q h => by cases h) lp_d_triedComesFirst_45
      · refine lv_iconst (v := (nI 1)) hx hb lp_d_triedComesFirst_40 (by decide) ?_
        refine lv_goto (tgt := 45) hx hb lp_d_triedComesFirst_41 (by decide) ?_
        exact W.zret (v := (nI 1)) hx hb hr (by decide) (fun t ht hW => ⟨(nI 1), rfl, Or.inl ⟨rfl, pz_num_first (fun q _ _ => htr q) (fun q _ _ => hbe q) (by omega) (by omega) he c_3⟩, ht⟩) (fun q h => by cases h) lp_d_triedComesFirst_45
