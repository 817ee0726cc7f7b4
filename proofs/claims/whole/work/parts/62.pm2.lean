set_option maxHeartbeats 4000000 in
set_option maxRecDepth 100000 in
/-- join(a, b) -/
theorem pm_join (l : Launch) (dC : Nat → ClassId) (dI : Nat → Nat → Nat) (cA : Nat → ClassId) (sz : Nat) (o : Nat) (ad : Nat → Nat) (n kl ki kw bo bt my pg lg ng : Nat) (pa : Nat → Nat) (a b : Int32) (hn : n ≤ 4) : Met l pm_y_join pm_w_join ({ frames := 1, cells := 0, slots := 0, locals := 21 }) (va_Pc [.ref o, .int a, .int b] (zB (dC, dI) cA [(o, .inr (3, [.int (nI 0), .int (nI n), .ref (ad 0), .ref (ad 1), .int (nI kl), .int (nI ki), .int (nI kw), .ref (ad 2), .ref (ad 3), .int (nI bo), .int (nI bt), .ref (ad 4), .ref (ad 5), .ref (ad 6), .ref (ad 7), .ref (ad 8), .int (nI my), .ref (ad 9), .int (nI pg), .ref (ad 10), .int (nI lg), .ref (ad 11), .int (nI ng)])), (ad 0, .inl (cA 0, 4, .inl (nA pa)))] sz)) (va_Qi (fun (r : Int32) (u : (Nat → Nat) × Nat × Nat) => (∃ ja jb, ja < n ∧ jb < n ∧ ja ≠ jb ∧ a = nI ja ∧ b = nI jb ∧ r = nI 1 ∧ u = (va_up pa jb (pa jb ^^^ pa ja), 0, 0)) ∨ (¬ (zw_in n a ∧ zw_in n b ∧ a ≠ b) ∧ r = nI 0 ∧ u = (pa, ki, kw))) (fun u t => zE (dC, dI) (va_A [(o, .inr (3, [.int (nI 0), .int (nI n), .ref (ad 0), .ref (ad 1), .int (nI kl), .int (nI ki), .int (nI kw), .ref (ad 2), .ref (ad 3), .int (nI bo), .int (nI bt), .ref (ad 4), .ref (ad 5), .ref (ad 6), .ref (ad 7), .ref (ad 8), .int (nI my), .ref (ad 9), .int (nI pg), .ref (ad 10), .int (nI lg), .ref (ad 11), .int (nI ng)])), (ad 0, .inl (cA 0, 4, .inl (nA pa)))] sz) ((fun (u : (Nat → Nat) × Nat × Nat) => [(o, .inr (3, [.int (nI 0), .int (nI n), .ref (ad 0), .ref (ad 1), .int (nI kl), .int (nI u.2.1), .int (nI u.2.2), .ref (ad 2), .ref (ad 3), .int (nI bo), .int (nI bt), .ref (ad 4), .ref (ad 5), .ref (ad 6), .ref (ad 7), .ref (ad 8), .int (nI my), .ref (ad 9), .int (nI pg), .ref (ad 10), .int (nI lg), .ref (ad 11), .int (nI ng)])), (ad 0, .inl (cA 0, 4, .inl (nA u.1)))]) u) t) (va_A [(o, .inr (3, [.int (nI 0), .int (nI n), .ref (ad 0), .ref (ad 1), .int (nI kl), .int (nI ki), .int (nI kw), .ref (ad 2), .ref (ad 3), .int (nI bo), .int (nI bt), .ref (ad 4), .ref (ad 5), .ref (ad 6), .ref (ad 7), .ref (ad 8), .int (nI my), .ref (ad 9), .int (nI pg), .ref (ad 10), .int (nI lg), .ref (ad 11), .int (nI ng)])), (ad 0, .inl (cA 0, 4, .inl (nA pa)))] sz)) 0 0 (va_A [(o, .inr (3, [.int (nI 0), .int (nI n), .ref (ad 0), .ref (ad 1), .int (nI kl), .int (nI ki), .int (nI kw), .ref (ad 2), .ref (ad 3), .int (nI bo), .int (nI bt), .ref (ad 4), .ref (ad 5), .ref (ad 6), .ref (ad 7), .ref (ad 8), .int (nI my), .ref (ad 9), .int (nI pg), .ref (ad 10), .int (nI lg), .ref (ad 11), .int (nI ng)])), (ad 0, .inl (cA 0, 4, .inl (nA pa)))] sz) := by
  refine Met.ofW (cc := pm_c_join) (maxL := 3) (ret := (some .boolean)) (by decide) rfl ?_
  intro p e s m args below meth c s₁ B hml hv
  obtain ⟨rfl, hsz, hP, hK, hD0, hZ⟩ := hv
  have hx := B.exec
  have hb := B.bytes
  have hr := B.returns
  have hts0 := atoms_spec (ws := pm_w_join) B.pre
  have hts : ∀ w ∈ zz_tbl, w.before _ s = true := fun w h => hts0 w (List.mem_cons_of_mem _ h)
  have hown : s.vm.findClass pm_R = some m.cls := findClass_of_methodNamed B.named
  have hlocks := B.notSynchronized
  subst hsz
  have hD := hD0.self (sz := s.heap.size)
  generalize hAe : va_A [(o, .inr (3, [.int (nI 0), .int (nI n), .ref (ad 0), .ref (ad 1), .int (nI kl), .int (nI ki), .int (nI kw), .ref (ad 2), .ref (ad 3), .int (nI bo), .int (nI bt), .ref (ad 4), .ref (ad 5), .ref (ad 6), .ref (ad 7), .ref (ad 8), .int (nI my), .ref (ad 9), .int (nI pg), .ref (ad 10), .int (nI lg), .ref (ad 11), .int (nI ng)])), (ad 0, .inl (cA 0, 4, .inl (nA pa)))] s.heap.size = A at hD hZ ⊢
  have hA : ∀ q : Nat, s.heap.size ≤ q → A q := fun q h => by rw [← hAe]; exact Or.inr h
  have hS : va_S A s.heap s.heap [] := va_S.rf
  have hP : va_P (dC, dI) zz_cl [(o, .inr (3, [.int (nI 0), .int (nI n), .ref (ad 0), .ref (ad 1), .int (nI kl), .int (nI ki), .int (nI kw), .ref (ad 2), .ref (ad 3), .int (nI bo), .int (nI bt), .ref (ad 4), .ref (ad 5), .ref (ad 6), .ref (ad 7), .ref (ad 8), .int (nI my), .ref (ad 9), .int (nI pg), .ref (ad 10), .int (nI lg), .ref (ad 11), .int (nI ng)])), (ad 0, .inl (cA 0, 4, .inl (nA pa)))] s.heap := hP
  have hl := lv_entry ([.ref o, .int a, .int b]) (n := 3) (Nat.le_of_ble_eq_true rfl)
  rw [lg_entry_eq]
  generalize (lg_sl ([.ref o, .int a, .int b]) ++ List.replicate (3 - (lg_sl ([.ref o, .int a, .int b])).length) Slot.unset).toArray = ls at hl ⊢
  have hl : lv_has ls 3 [(0, .ref o), (1, .int a), (2, .int b)] := hl
  refine lv_aload_n hx hb pm_d_join_0 rfl (lv_at hl 0 rfl) ?_
  refine lv_iconst (v := (nI 0)) hx hb pm_d_join_1 (by decide) ?_
  refine va_put (D := (dC, dI)) (ci := 3) (v := .int (nI 0)) (ty := .int) (C := pm_R) (T := pm_T) (N := 23) hx hb hts pm_in pm_t pm_ok pm_nm hown hK hP hD hS 0 rfl rfl 0 (by decide) (hts _ zk_pm52) (fun _ h9 => h9) rfl (by decide +kernel) rfl rfl (Nat.le_of_ble_eq_true rfl) pm_d_join_2 (fun H locs hP hD hS => ?_)
  have hP : va_P (dC, dI) zz_cl [(o, .inr (3, [.int (nI 0), .int (nI n), .ref (ad 0), .ref (ad 1), .int (nI kl), .int (nI ki), .int (nI kw), .ref (ad 2), .ref (ad 3), .int (nI bo), .int (nI bt), .ref (ad 4), .ref (ad 5), .ref (ad 6), .ref (ad 7), .ref (ad 8), .int (nI my), .ref (ad 9), .int (nI pg), .ref (ad 10), .int (nI lg), .ref (ad 11), .int (nI ng)])), (ad 0, .inl (cA 0, 4, .inl (nA pa)))] H := hP
  have hD : va_D A [(o, .inr (3, [.int (nI 0), .int (nI n), .ref (ad 0), .ref (ad 1), .int (nI kl), .int (nI ki), .int (nI kw), .ref (ad 2), .ref (ad 3), .int (nI bo), .int (nI bt), .ref (ad 4), .ref (ad 5), .ref (ad 6), .ref (ad 7), .ref (ad 8), .int (nI my), .ref (ad 9), .int (nI pg), .ref (ad 10), .int (nI lg), .ref (ad 11), .int (nI ng)])), (ad 0, .inl (cA 0, 4, .inl (nA pa)))] := hD
  refine lv_aload_n hx hb pm_d_join_5 rfl (lv_at hl 0 rfl) ?_
  refine lv_iload_n hx hb pm_d_join_6 rfl (lv_at hl 1 rfl) ?_
  refine zq_Vi (n := 1) (As := [.int a]) (rest := []) ⟨hx, hb, hml, hown, hts⟩ (pm_isWire l dC dI cA o ad n kl ki kw bo bt my pg lg ng a (by omega)) zg_pm72 (by decide +kernel) ⟨rfl, rfl⟩ ⟨Nat.le_of_ble_eq_true rfl, Nat.le_of_ble_eq_true rfl⟩ hK (hP.sub (ws' := [(o, .inr (3, [.int (nI 0), .int (nI n), .ref (ad 0), .ref (ad 1), .int (nI kl), .int (nI ki), .int (nI kw), .ref (ad 2), .ref (ad 3), .int (nI bo), .int (nI bt), .ref (ad 4), .ref (ad 5), .ref (ad 6), .ref (ad 7), .ref (ad 8), .int (nI my), .ref (ad 9), .int (nI pg), .ref (ad 10), .int (nI lg), .ref (ad 11), .int (nI ng)]))]) [0] rfl) 3 0 rfl rfl rfl rfl hl.1 rfl (Nat.le_of_ble_eq_true rfl) pm_d_join_7 (fun r_1 h_2 => ?_) ⟨Nat.le_of_ble_eq_true rfl, Nat.le_of_ble_eq_true rfl⟩
  rcases h_2 with ⟨⟨ja, hja, rfl⟩, rfl⟩ | ⟨hna, rfl⟩
  · refine zi_eq (tgt := 26) hx hb pm_d_join_10 (by decide) (by omega) (fun c_3 => absurd c_3 (by omega)) (fun c_3 => ?_)
    refine lv_aload_n hx hb pm_d_join_13 rfl (lv_at hl 0 rfl) ?_
    refine lv_iload_n hx hb pm_d_join_14 rfl (lv_at hl 2 rfl) ?_
    refine zq_Vi (n := 1) (As := [.int b]) (rest := []) ⟨hx, hb, hml, hown, hts⟩ (pm_isWire l dC dI cA o ad n kl ki kw bo bt my pg lg ng b (by omega)) zg_pm72 (by decide +kernel) ⟨rfl, rfl⟩ ⟨Nat.le_of_ble_eq_true rfl, Nat.le_of_ble_eq_true rfl⟩ hK (hP.sub (ws' := [(o, .inr (3, [.int (nI 0), .int (nI n), .ref (ad 0), .ref (ad 1), .int (nI kl), .int (nI ki), .int (nI kw), .ref (ad 2), .ref (ad 3), .int (nI bo), .int (nI bt), .ref (ad 4), .ref (ad 5), .ref (ad 6), .ref (ad 7), .ref (ad 8), .int (nI my), .ref (ad 9), .int (nI pg), .ref (ad 10), .int (nI lg), .ref (ad 11), .int (nI ng)]))]) [0] rfl) 3 0 rfl rfl rfl rfl hl.1 rfl (Nat.le_of_ble_eq_true rfl) pm_d_join_15 (fun r_4 h_5 => ?_) ⟨Nat.le_of_ble_eq_true rfl, Nat.le_of_ble_eq_true rfl⟩
    rcases h_5 with ⟨⟨jb, hjb, rfl⟩, rfl⟩ | ⟨hnb, rfl⟩
    · refine zi_eq (tgt := 26) hx hb pm_d_join_18 (by decide) (by omega) (fun c_6 => absurd c_6 (by omega)) (fun c_6 => ?_)
      refine lv_iload_n hx hb pm_d_join_21 rfl (lv_at hl 1 rfl) ?_
      refine lv_iload_n hx hb pm_d_join_22 rfl (lv_at hl 2 rfl) ?_
      refine zc_ne (tgt := 28) hx hb pm_d_join_23 (by decide) (by omega) (by omega) (fun c_7 => ?_) (fun c_7 => ?_)
      · refine lv_aload_n hx hb pm_d_join_28 rfl (lv_at hl 0 rfl) ?_
        refine va_get (D := (dC, dI)) (ci := 3) (v := .ref (ad 0)) (C := pm_R) (T := pm_T) (N := 23) hx hb hts pm_in hown hK hP 0 rfl rfl 2 (by decide) (hts _ zk_pm7) (fun _ h9 => h9) rfl pm_d_join_29 ?_
        refine lv_iload_n hx hb pm_d_join_32 rfl (lv_at hl 2 rfl) ?_
        refine lv_dup2_11 hx hb pm_d_join_33 rfl rfl ?_
        refine zv_iald hx hb hK hP 1 0 rfl rfl (k := jb) (by omega) (by omega) pm_d_join_34 ?_
        refine lv_aload_n hx hb pm_d_join_35 rfl (lv_at hl 0 rfl) ?_
        refine va_get (D := (dC, dI)) (ci := 3) (v := .ref (ad 0)) (C := pm_R) (T := pm_T) (N := 23) hx hb hts pm_in hown hK hP 0 rfl rfl 2 (by decide) (hts _ zk_pm7) (fun _ h9 => h9) rfl pm_d_join_36 ?_
        refine lv_iload_n hx hb pm_d_join_39 rfl (lv_at hl 1 rfl) ?_
        refine zv_iald hx hb hK hP 1 0 rfl rfl (k := ja) (by omega) (by omega) pm_d_join_40 ?_
        refine lv_ixor hx hb pm_d_join_41 ?_
        refine zt_i (zb_xor (pa jb) (pa ja)) ?_
        refine zv_iast hx hb hK hP hD hS 1 0 rfl rfl (k := jb) (v := ((pa jb) ^^^ (pa ja))) (by omega) (by omega) pm_d_join_42 (fun H locs hP hD hS => ?_)
        have hP : va_P (dC, dI) zz_cl [(o, .inr (3, [.int (nI 0), .int (nI n), .ref (ad 0), .ref (ad 1), .int (nI kl), .int (nI ki), .int (nI kw), .ref (ad 2), .ref (ad 3), .int (nI bo), .int (nI bt), .ref (ad 4), .ref (ad 5), .ref (ad 6), .ref (ad 7), .ref (ad 8), .int (nI my), .ref (ad 9), .int (nI pg), .ref (ad 10), .int (nI lg), .ref (ad 11), .int (nI ng)])), (ad 0, .inl (cA 0, 4, .inl (nA (va_up pa jb ((pa jb) ^^^ (pa ja))))))] H := hP
        have hD : va_D A [(o, .inr (3, [.int (nI 0), .int (nI n), .ref (ad 0), .ref (ad 1), .int (nI kl), .int (nI ki), .int (nI kw), .ref (ad 2), .ref (ad 3), .int (nI bo), .int (nI bt), .ref (ad 4), .ref (ad 5), .ref (ad 6), .ref (ad 7), .ref (ad 8), .int (nI my), .ref (ad 9), .int (nI pg), .ref (ad 10), .int (nI lg), .ref (ad 11), .int (nI ng)])), (ad 0, .inl (cA 0, 4, .inl (nA (va_up pa jb ((pa jb) ^^^ (pa ja))))))] := hD
        refine lv_aload_n hx hb pm_d_join_43 rfl (lv_at hl 0 rfl) ?_
        refine zq_Vwv (n := 0) (As := []) (rest := []) (wc := [(o, .inr (3, [.int (nI 0), .int (nI n), .ref (ad 0), .ref (ad 1), .int (nI kl), .int (nI ki), .int (nI kw), .ref (ad 2), .ref (ad 3), .int (nI bo), .int (nI bt), .ref (ad 4), .ref (ad 5), .ref (ad 6), .ref (ad 7), .ref (ad 8), .int (nI my), .ref (ad 9), .int (nI pg), .ref (ad 10), .int (nI lg), .ref (ad 11), .int (nI ng)]))]) (wr := [(ad 0, .inl (cA 0, 4, .inl (nA (va_up pa jb ((pa jb) ^^^ (pa ja))))))]) ⟨hx, hb, hml, hown, hts⟩ (pm_mapChanges l dC dI cA _ o ad n kl ki kw bo bt my pg lg ng) zg_pm76 (by decide +kernel) ⟨rfl, rfl⟩ ⟨Nat.le_of_ble_eq_true rfl, Nat.le_of_ble_eq_true rfl⟩ hK hP hD hS hA hZ [0] [1] rfl rfl (by decide) 3 0 rfl rfl rfl rfl hl.1 rfl (Nat.le_of_ble_eq_true rfl) pm_d_join_44 (fun u_10 H locs h_9 hP hD hS => ?_) ⟨Nat.le_of_ble_eq_true rfl, Nat.le_of_ble_eq_true rfl⟩
        have hP : va_P (dC, dI) zz_cl [(ad 0, .inl (cA 0, 4, .inl (nA (va_up pa jb ((pa jb) ^^^ (pa ja)))))), (o, .inr (3, [.int (nI 0), .int (nI n), .ref (ad 0), .ref (ad 1), .int (nI kl), .int (nI 0), .int (nI 0), .ref (ad 2), .ref (ad 3), .int (nI bo), .int (nI bt), .ref (ad 4), .ref (ad 5), .ref (ad 6), .ref (ad 7), .ref (ad 8), .int (nI my), .ref (ad 9), .int (nI pg), .ref (ad 10), .int (nI lg), .ref (ad 11), .int (nI ng)]))] H := hP
        have hD : va_D A [(ad 0, .inl (cA 0, 4, .inl (nA (va_up pa jb ((pa jb) ^^^ (pa ja)))))), (o, .inr (3, [.int (nI 0), .int (nI n), .ref (ad 0), .ref (ad 1), .int (nI kl), .int (nI 0), .int (nI 0), .ref (ad 2), .ref (ad 3), .int (nI bo), .int (nI bt), .ref (ad 4), .ref (ad 5), .ref (ad 6), .ref (ad 7), .ref (ad 8), .int (nI my), .ref (ad 9), .int (nI pg), .ref (ad 10), .int (nI lg), .ref (ad 11), .int (nI ng)]))] := hD
        refine lv_iconst (v := (nI 1)) hx hb pm_d_join_47 (by decide) ?_
        have hP9 := hP.sub (ws' := [(o, .inr (3, [.int (nI 0), .int (nI n), .ref (ad 0), .ref (ad 1), .int (nI kl), .int (nI 0), .int (nI 0), .ref (ad 2), .ref (ad 3), .int (nI bo), .int (nI bt), .ref (ad 4), .ref (ad 5), .ref (ad 6), .ref (ad 7), .ref (ad 8), .int (nI my), .ref (ad 9), .int (nI pg), .ref (ad 10), .int (nI lg), .ref (ad 11), .int (nI ng)])), (ad 0, .inl (cA 0, 4, .inl (nA (va_up pa jb ((pa jb) ^^^ (pa ja))))))]) [1, 0] rfl
        have hD9 := hD.sub (ws' := [(o, .inr (3, [.int (nI 0), .int (nI n), .ref (ad 0), .ref (ad 1), .int (nI kl), .int (nI 0), .int (nI 0), .ref (ad 2), .ref (ad 3), .int (nI bo), .int (nI bt), .ref (ad 4), .ref (ad 5), .ref (ad 6), .ref (ad 7), .ref (ad 8), .int (nI my), .ref (ad 9), .int (nI pg), .ref (ad 10), .int (nI lg), .ref (ad 11), .int (nI ng)])), (ad 0, .inl (cA 0, 4, .inl (nA (va_up pa jb ((pa jb) ^^^ (pa ja))))))]) [1, 0] (by decide) rfl
        exact W.zret (v := (nI 1)) hx hb hr (by decide) (fun t ht hW => ⟨⟨(nI 1), (va_up pa jb (pa jb ^^^ pa ja), 0, 0), rfl, Or.inl ⟨ja, jb, hja, hjb, c_7, rfl, rfl, rfl, rfl⟩, by rw [ht]; exact hP9, hD9⟩, hS.F ht⟩) hS.2.2 pm_d_join_48
      · refine lv_iconst (v := (nI 0)) hx hb pm_d_join_26 (by decide) ?_
        have hP9 := hP.sub (ws' := [(o, .inr (3, [.int (nI 0), .int (nI n), .ref (ad 0), .ref (ad 1), .int (nI kl), .int (nI ki), .int (nI kw), .ref (ad 2), .ref (ad 3), .int (nI bo), .int (nI bt), .ref (ad 4), .ref (ad 5), .ref (ad 6), .ref (ad 7), .ref (ad 8), .int (nI my), .ref (ad 9), .int (nI pg), .ref (ad 10), .int (nI lg), .ref (ad 11), .int (nI ng)])), (ad 0, .inl (cA 0, 4, .inl (nA pa)))]) [0, 1] rfl
        have hD9 := hD.sub (ws' := [(o, .inr (3, [.int (nI 0), .int (nI n), .ref (ad 0), .ref (ad 1), .int (nI kl), .int (nI ki), .int (nI kw), .ref (ad 2), .ref (ad 3), .int (nI bo), .int (nI bt), .ref (ad 4), .ref (ad 5), .ref (ad 6), .ref (ad 7), .ref (ad 8), .int (nI my), .ref (ad 9), .int (nI pg), .ref (ad 10), .int (nI lg), .ref (ad 11), .int (nI ng)])), (ad 0, .inl (cA 0, 4, .inl (nA pa)))]) [0, 1] (by decide) rfl
        exact W.zret (v := (nI 0)) hx hb hr (by decide) (fun t ht hW => ⟨⟨(nI 0), (pa, ki, kw), rfl, Or.inr ⟨fun h => h.2.2 (by rw [c_7]), rfl, rfl⟩, by rw [ht]; exact hP9, hD9⟩, hS.F ht⟩) hS.2.2 pm_d_join_27
    · refine zi_eq (tgt := 26) hx hb pm_d_join_18 (by decide) (by omega) (fun c_11 => ?_) (fun c_11 => absurd c_11 (by omega))
      refine lv_iconst (v := (nI 0)) hx hb pm_d_join_26 (by decide) ?_
      have hP9 := hP.sub (ws' := [(o, .inr (3, [.int (nI 0), .int (nI n), .ref (ad 0), .ref (ad 1), .int (nI kl), .int (nI ki), .int (nI kw), .ref (ad 2), .ref (ad 3), .int (nI bo), .int (nI bt), .ref (ad 4), .ref (ad 5), .ref (ad 6), .ref (ad 7), .ref (ad 8), .int (nI my), .ref (ad 9), .int (nI pg), .ref (ad 10), .int (nI lg), .ref (ad 11), .int (nI ng)])), (ad 0, .inl (cA 0, 4, .inl (nA pa)))]) [0, 1] rfl
      have hD9 := hD.sub (ws' := [(o, .inr (3, [.int (nI 0), .int (nI n), .ref (ad 0), .ref (ad 1), .int (nI kl), .int (nI ki), .int (nI kw), .ref (ad 2), .ref (ad 3), .int (nI bo), .int (nI bt), .ref (ad 4), .ref (ad 5), .ref (ad 6), .ref (ad 7), .ref (ad 8), .int (nI my), .ref (ad 9), .int (nI pg), .ref (ad 10), .int (nI lg), .ref (ad 11), .int (nI ng)])), (ad 0, .inl (cA 0, 4, .inl (nA pa)))]) [0, 1] (by decide) rfl
      exact W.zret (v := (nI 0)) hx hb hr (by decide) (fun t ht hW => ⟨⟨(nI 0), (pa, ki, kw), rfl, Or.inr ⟨fun h => hnb h.2.1, rfl, rfl⟩, by rw [ht]; exact hP9, hD9⟩, hS.F ht⟩) hS.2.2 pm_d_join_27
  · refine zi_eq (tgt := 26) hx hb pm_d_join_10 (by decide) (by omega) (fun c_12 => ?_) (fun c_12 => absurd c_12 (by omega))
    refine lv_iconst (v := (nI 0)) hx hb pm_d_join_26 (by decide) ?_
    have hP9 := hP.sub (ws' := [(o, .inr (3, [.int (nI 0), .int (nI n), .ref (ad 0), .ref (ad 1), .int (nI kl), .int (nI ki), .int (nI kw), .ref (ad 2), .ref (ad 3), .int (nI bo), .int (nI bt), .ref (ad 4), .ref (ad 5), .ref (ad 6), .ref (ad 7), .ref (ad 8), .int (nI my), .ref (ad 9), .int (nI pg), .ref (ad 10), .int (nI lg), .ref (ad 11), .int (nI ng)])), (ad 0, .inl (cA 0, 4, .inl (nA pa)))]) [0, 1] rfl
    have hD9 := hD.sub (ws' := [(o, .inr (3, [.int (nI 0), .int (nI n), .ref (ad 0), .ref (ad 1), .int (nI kl), .int (nI ki), .int (nI kw), .ref (ad 2), .ref (ad 3), .int (nI bo), .int (nI bt), .ref (ad 4), .ref (ad 5), .ref (ad 6), .ref (ad 7), .ref (ad 8), .int (nI my), .ref (ad 9), .int (nI pg), .ref (ad 10), .int (nI lg), .ref (ad 11), .int (nI ng)])), (ad 0, .inl (cA 0, 4, .inl (nA pa)))]) [0, 1] (by decide) rfl
    exact W.zret (v := (nI 0)) hx hb hr (by decide) (fun t ht hW => ⟨⟨(nI 0), (pa, ki, kw), rfl, Or.inr ⟨fun h => hna h.1, rfl, rfl⟩, by rw [ht]; exact hP9, hD9⟩, hS.F ht⟩) hS.2.2 pm_d_join_27
set_option maxHeartbeats 4000000 in
set_option maxRecDepth 100000 in
/-- change(a, b) -/
theorem pm_change (l : Launch) (dC : Nat → ClassId) (dI : Nat → Nat → Nat) (cA : Nat → ClassId) (sz : Nat) (o : Nat) (ad : Nat → Nat) (n kl ki kw bo bt my pg lg ng : Nat) (pa : Nat → Nat) (a b : Int32) (hn : n ≤ 4) : Met l pm_y_change pm_w_change ({ frames := 1, cells := 0, slots := 0, locals := 21 }) (va_Pc [.ref o, .int a, .int b] (zB (dC, dI) cA [(o, .inr (3, [.int (nI 0), .int (nI n), .ref (ad 0), .ref (ad 1), .int (nI kl), .int (nI ki), .int (nI kw), .ref (ad 2), .ref (ad 3), .int (nI bo), .int (nI bt), .ref (ad 4), .ref (ad 5), .ref (ad 6), .ref (ad 7), .ref (ad 8), .int (nI my), .ref (ad 9), .int (nI pg), .ref (ad 10), .int (nI lg), .ref (ad 11), .int (nI ng)])), (ad 0, .inl (cA 0, 4, .inl (nA pa)))] sz)) (va_Qi (fun (r : Int32) (u : (Nat → Nat) × Nat × Nat) => (∃ ja jb, ja < n ∧ jb < n ∧ ja ≠ jb ∧ a = nI ja ∧ b = nI jb ∧ r = nI 1 ∧ u = (va_up (va_up pa ja (pa jb)) jb (pa ja), 0, 0)) ∨ (¬ (zw_in n a ∧ zw_in n b ∧ a ≠ b) ∧ r = nI 0 ∧ u = (pa, ki, kw))) (fun u t => zE (dC, dI) (va_A [(o, .inr (3, [.int (nI 0), .int (nI n), .ref (ad 0), .ref (ad 1), .int (nI kl), .int (nI ki), .int (nI kw), .ref (ad 2), .ref (ad 3), .int (nI bo), .int (nI bt), .ref (ad 4), .ref (ad 5), .ref (ad 6), .ref (ad 7), .ref (ad 8), .int (nI my), .ref (ad 9), .int (nI pg), .ref (ad 10), .int (nI lg), .ref (ad 11), .int (nI ng)])), (ad 0, .inl (cA 0, 4, .inl (nA pa)))] sz) ((fun (u : (Nat → Nat) × Nat × Nat) => [(o, .inr (3, [.int (nI 0), .int (nI n), .ref (ad 0), .ref (ad 1), .int (nI kl), .int (nI u.2.1), .int (nI u.2.2), .ref (ad 2), .ref (ad 3), .int (nI bo), .int (nI bt), .ref (ad 4), .ref (ad 5), .ref (ad 6), .ref (ad 7), .ref (ad 8), .int (nI my), .ref (ad 9), .int (nI pg), .ref (ad 10), .int (nI lg), .ref (ad 11), .int (nI ng)])), (ad 0, .inl (cA 0, 4, .inl (nA u.1)))]) u) t) (va_A [(o, .inr (3, [.int (nI 0), .int (nI n), .ref (ad 0), .ref (ad 1), .int (nI kl), .int (nI ki), .int (nI kw), .ref (ad 2), .ref (ad 3), .int (nI bo), .int (nI bt), .ref (ad 4), .ref (ad 5), .ref (ad 6), .ref (ad 7), .ref (ad 8), .int (nI my), .ref (ad 9), .int (nI pg), .ref (ad 10), .int (nI lg), .ref (ad 11), .int (nI ng)])), (ad 0, .inl (cA 0, 4, .inl (nA pa)))] sz)) 0 0 (va_A [(o, .inr (3, [.int (nI 0), .int (nI n), .ref (ad 0), .ref (ad 1), .int (nI kl), .int (nI ki), .int (nI kw), .ref (ad 2), .ref (ad 3), .int (nI bo), .int (nI bt), .ref (ad 4), .ref (ad 5), .ref (ad 6), .ref (ad 7), .ref (ad 8), .int (nI my), .ref (ad 9), .int (nI pg), .ref (ad 10), .int (nI lg), .ref (ad 11), .int (nI ng)])), (ad 0, .inl (cA 0, 4, .inl (nA pa)))] sz) := by
  refine Met.ofW (cc := pm_c_change) (maxL := 4) (ret := (some .boolean)) (by decide) rfl ?_
  intro p e s m args below meth c s₁ B hml hv
  obtain ⟨rfl, hsz, hP, hK, hD0, hZ⟩ := hv
  have hx := B.exec
  have hb := B.bytes
  have hr := B.returns
  have hts0 := atoms_spec (ws := pm_w_change) B.pre
  have hts : ∀ w ∈ zz_tbl, w.before _ s = true := fun w h => hts0 w (List.mem_cons_of_mem _ h)
  have hown : s.vm.findClass pm_R = some m.cls := findClass_of_methodNamed B.named
  have hlocks := B.notSynchronized
  subst hsz
  have hD := hD0.self (sz := s.heap.size)
  generalize hAe : va_A [(o, .inr (3, [.int (nI 0), .int (nI n), .ref (ad 0), .ref (ad 1), .int (nI kl), .int (nI ki), .int (nI kw), .ref (ad 2), .ref (ad 3), .int (nI bo), .int (nI bt), .ref (ad 4), .ref (ad 5), .ref (ad 6), .ref (ad 7), .ref (ad 8), .int (nI my), .ref (ad 9), .int (nI pg), .ref (ad 10), .int (nI lg), .ref (ad 11), .int (nI ng)])), (ad 0, .inl (cA 0, 4, .inl (nA pa)))] s.heap.size = A at hD hZ ⊢
  have hA : ∀ q : Nat, s.heap.size ≤ q → A q := fun q h => by rw [← hAe]; exact Or.inr h
  have hS : va_S A s.heap s.heap [] := va_S.rf
  have hP : va_P (dC, dI) zz_cl [(o, .inr (3, [.int (nI 0), .int (nI n), .ref (ad 0), .ref (ad 1), .int (nI kl), .int (nI ki), .int (nI kw), .ref (ad 2), .ref (ad 3), .int (nI bo), .int (nI bt), .ref (ad 4), .ref (ad 5), .ref (ad 6), .ref (ad 7), .ref (ad 8), .int (nI my), .ref (ad 9), .int (nI pg), .ref (ad 10), .int (nI lg), .ref (ad 11), .int (nI ng)])), (ad 0, .inl (cA 0, 4, .inl (nA pa)))] s.heap := hP
  have hl := lv_entry ([.ref o, .int a, .int b]) (n := 4) (Nat.le_of_ble_eq_true rfl)
  rw [lg_entry_eq]
  generalize (lg_sl ([.ref o, .int a, .int b]) ++ List.replicate (4 - (lg_sl ([.ref o, .int a, .int b])).length) Slot.unset).toArray = ls at hl ⊢
  have hl : lv_has ls 4 [(0, .ref o), (1, .int a), (2, .int b)] := hl
  refine lv_aload_n hx hb pm_d_change_0 rfl (lv_at hl 0 rfl) ?_
  refine lv_iconst (v := (nI 0)) hx hb pm_d_change_1 (by decide) ?_
  refine va_put (D := (dC, dI)) (ci := 3) (v := .int (nI 0)) (ty := .int) (C := pm_R) (T := pm_T) (N := 23) hx hb hts pm_in pm_t pm_ok pm_nm hown hK hP hD hS 0 rfl rfl 0 (by decide) (hts _ zk_pm52) (fun _ h9 => h9) rfl (by decide +kernel) rfl rfl (Nat.le_of_ble_eq_true rfl) pm_d_change_2 (fun H locs hP hD hS => ?_)
  have hP : va_P (dC, dI) zz_cl [(o, .inr (3, [.int (nI 0), .int (nI n), .ref (ad 0), .ref (ad 1), .int (nI kl), .int (nI ki), .int (nI kw), .ref (ad 2), .ref (ad 3), .int (nI bo), .int (nI bt), .ref (ad 4), .ref (ad 5), .ref (ad 6), .ref (ad 7), .ref (ad 8), .int (nI my), .ref (ad 9), .int (nI pg), .ref (ad 10), .int (nI lg), .ref (ad 11), .int (nI ng)])), (ad 0, .inl (cA 0, 4, .inl (nA pa)))] H := hP
  have hD : va_D A [(o, .inr (3, [.int (nI 0), .int (nI n), .ref (ad 0), .ref (ad 1), .int (nI kl), .int (nI ki), .int (nI kw), .ref (ad 2), .ref (ad 3), .int (nI bo), .int (nI bt), .ref (ad 4), .ref (ad 5), .ref (ad 6), .ref (ad 7), .ref (ad 8), .int (nI my), .ref (ad 9), .int (nI pg), .ref (ad 10), .int (nI lg), .ref (ad 11), .int (nI ng)])), (ad 0, .inl (cA 0, 4, .inl (nA pa)))] := hD
  refine lv_aload_n hx hb pm_d_change_5 rfl (lv_at hl 0 rfl) ?_
  refine lv_iload_n hx hb pm_d_change_6 rfl (lv_at hl 1 rfl) ?_
  refine zq_Vi (n := 1) (As := [.int a]) (rest := []) ⟨hx, hb, hml, hown, hts⟩ (pm_isWire l dC dI cA o ad n kl ki kw bo bt my pg lg ng a (by omega)) zg_pm72 (by decide +kernel) ⟨rfl, rfl⟩ ⟨Nat.le_of_ble_eq_true rfl, Nat.le_of_ble_eq_true rfl⟩ hK (hP.sub (ws' := [(o, .inr (3, [.int (nI 0), .int (nI n), .ref (ad 0), .ref (ad 1), .int (nI kl), .int (nI ki), .int (nI kw), .ref (ad 2), .ref (ad 3), .int (nI bo), .int (nI bt), .ref (ad 4), .ref (ad 5), .ref (ad 6), .ref (ad 7), .ref (ad 8), .int (nI my), .ref (ad 9), .int (nI pg), .ref (ad 10), .int (nI lg), .ref (ad 11), .int (nI ng)]))]) [0] rfl) 3 0 rfl rfl rfl rfl hl.1 rfl (Nat.le_of_ble_eq_true rfl) pm_d_change_7 (fun r_1 h_2 => ?_) ⟨Nat.le_of_ble_eq_true rfl, Nat.le_of_ble_eq_true rfl⟩
  rcases h_2 with ⟨⟨ja, hja, rfl⟩, rfl⟩ | ⟨hna, rfl⟩
  · refine zi_eq (tgt := 26) hx hb pm_d_change_10 (by decide) (by omega) (fun c_3 => absurd c_3 (by omega)) (fun c_3 => ?_)
    refine lv_aload_n hx hb pm_d_change_13 rfl (lv_at hl 0 rfl) ?_
    refine lv_iload_n hx hb pm_d_change_14 rfl (lv_at hl 2 rfl) ?_
    refine zq_Vi (n := 1) (As := [.int b]) (rest := []) ⟨hx, hb, hml, hown, hts⟩ (pm_isWire l dC dI cA o ad n kl ki kw bo bt my pg lg ng b (by omega)) zg_pm72 (by decide +kernel) ⟨rfl, rfl⟩ ⟨Nat.le_of_ble_eq_true rfl, Nat.le_of_ble_eq_true rfl⟩ hK (hP.sub (ws' := [(o, .inr (3, [.int (nI 0), .int (nI n), .ref (ad 0), .ref (ad 1), .int (nI kl), .int (nI ki), .int (nI kw), .ref (ad 2), .ref (ad 3), .int (nI bo), .int (nI bt), .ref (ad 4), .ref (ad 5), .ref (ad 6), .ref (ad 7), .ref (ad 8), .int (nI my), .ref (ad 9), .int (nI pg), .ref (ad 10), .int (nI lg), .ref (ad 11), .int (nI ng)]))]) [0] rfl) 3 0 rfl rfl rfl rfl hl.1 rfl (Nat.le_of_ble_eq_true rfl) pm_d_change_15 (fun r_4 h_5 => ?_) ⟨Nat.le_of_ble_eq_true rfl, Nat.le_of_ble_eq_true rfl⟩
    rcases h_5 with ⟨⟨jb, hjb, rfl⟩, rfl⟩ | ⟨hnb, rfl⟩
    · refine zi_eq (tgt := 26) hx hb pm_d_change_18 (by decide) (by omega) (fun c_6 => absurd c_6 (by omega)) (fun c_6 => ?_)
      refine lv_iload_n hx hb pm_d_change_21 rfl (lv_at hl 1 rfl) ?_
      refine lv_iload_n hx hb pm_d_change_22 rfl (lv_at hl 2 rfl) ?_
      refine zc_ne (tgt := 28) hx hb pm_d_change_23 (by decide) (by omega) (by omega) (fun c_7 => ?_) (fun c_7 => ?_)
      · refine lv_aload_n hx hb pm_d_change_28 rfl (lv_at hl 0 rfl) ?_
        refine va_get (D := (dC, dI)) (ci := 3) (v := .ref (ad 0)) (C := pm_R) (T := pm_T) (N := 23) hx hb hts pm_in hown hK hP 0 rfl rfl 2 (by decide) (hts _ zk_pm7) (fun _ h9 => h9) rfl pm_d_change_29 ?_
        refine lv_iload_n hx hb pm_d_change_32 rfl (lv_at hl 1 rfl) ?_
        refine zv_iald hx hb hK hP 1 0 rfl rfl (k := ja) (by omega) (by omega) pm_d_change_33 ?_
        refine lv_istore_n (lv' := [(3, .int (nI (pa ja))), (0, .ref o), (1, .int (nI ja)), (2, .int (nI jb))]) hx hb pm_d_change_34 rfl hl (by decide) rfl (fun ls hl => ?_)
        refine lv_aload_n hx hb pm_d_change_35 rfl (lv_at hl 1 rfl) ?_
        refine va_get (D := (dC, dI)) (ci := 3) (v := .ref (ad 0)) (C := pm_R) (T := pm_T) (N := 23) hx hb hts pm_in hown hK hP 0 rfl rfl 2 (by decide) (hts _ zk_pm7) (fun _ h9 => h9) rfl pm_d_change_36 ?_
        refine lv_iload_n hx hb pm_d_change_39 rfl (lv_at hl 2 rfl) ?_
        refine lv_aload_n hx hb pm_d_change_40 rfl (lv_at hl 1 rfl) ?_
        refine va_get (D := (dC, dI)) (ci := 3) (v := .ref (ad 0)) (C := pm_R) (T := pm_T) (N := 23) hx hb hts pm_in hown hK hP 0 rfl rfl 2 (by decide) (hts _ zk_pm7) (fun _ h9 => h9) rfl pm_d_change_41 ?_
        refine lv_iload_n hx hb pm_d_change_44 rfl (lv_at hl 3 rfl) ?_
        refine zv_iald hx hb hK hP 1 0 rfl rfl (k := jb) (by omega) (by omega) pm_d_change_45 ?_
        refine zv_iast hx hb hK hP hD hS 1 0 rfl rfl (k := ja) (v := (pa jb)) (by omega) (by omega) pm_d_change_46 (fun H locs hP hD hS => ?_)
        have hP : va_P (dC, dI) zz_cl [(o, .inr (3, [.int (nI 0), .int (nI n), .ref (ad 0), .ref (ad 1), .int (nI kl), .int (nI ki), .int (nI kw), .ref (ad 2), .ref (ad 3), .int (nI bo), .int (nI bt), .ref (ad 4), .ref (ad 5), .ref (ad 6), .ref (ad 7), .ref (ad 8), .int (nI my), .ref (ad 9), .int (nI pg), .ref (ad 10), .int (nI lg), .ref (ad 11), .int (nI ng)])), (ad 0, .inl (cA 0, 4, .inl (nA (va_up pa ja (pa jb)))))] H := hP
        have hD : va_D A [(o, .inr (3, [.int (nI 0), .int (nI n), .ref (ad 0), .ref (ad 1), .int (nI kl), .int (nI ki), .int (nI kw), .ref (ad 2), .ref (ad 3), .int (nI bo), .int (nI bt), .ref (ad 4), .ref (ad 5), .ref (ad 6), .ref (ad 7), .ref (ad 8), .int (nI my), .ref (ad 9), .int (nI pg), .ref (ad 10), .int (nI lg), .ref (ad 11), .int (nI ng)])), (ad 0, .inl (cA 0, 4, .inl (nA (va_up pa ja (pa jb)))))] := hD
        refine lv_aload_n hx hb pm_d_change_47 rfl (lv_at hl 1 rfl) ?_
        refine va_get (D := (dC, dI)) (ci := 3) (v := .ref (ad 0)) (C := pm_R) (T := pm_T) (N := 23) hx hb hts pm_in hown hK hP 0 rfl rfl 2 (by decide) (hts _ zk_pm7) (fun _ h9 => h9) rfl pm_d_change_48 ?_
        refine lv_iload_n hx hb pm_d_change_51 rfl (lv_at hl 3 rfl) ?_
        refine lv_iload_n hx hb pm_d_change_52 rfl (lv_at hl 0 rfl) ?_
        refine zv_iast hx hb hK hP hD hS 1 0 rfl rfl (k := jb) (v := (pa ja)) (by omega) (by omega) pm_d_change_53 (fun H locs hP hD hS => ?_)
        have hP : va_P (dC, dI) zz_cl [(o, .inr (3, [.int (nI 0), .int (nI n), .ref (ad 0), .ref (ad 1), .int (nI kl), .int (nI ki), .int (nI kw), .ref (ad 2), .ref (ad 3), .int (nI bo), .int (nI bt), .ref (ad 4), .ref (ad 5), .ref (ad 6), .ref (ad 7), .ref (ad 8), .int (nI my), .ref (ad 9), .int (nI pg), .ref (ad 10), .int (nI lg), .ref (ad 11), .int (nI ng)])), (ad 0, .inl (cA 0, 4, .inl (nA (va_up (va_up pa ja (pa jb)) jb (pa ja)))))] H := hP
        have hD : va_D A [(o, .inr (3, [.int (nI 0), .int (nI n), .ref (ad 0), .ref (ad 1), .int (nI kl), .int (nI ki), .int (nI kw), .ref (ad 2), .ref (ad 3), .int (nI bo), .int (nI bt), .ref (ad 4), .ref (ad 5), .ref (ad 6), .ref (ad 7), .ref (ad 8), .int (nI my), .ref (ad 9), .int (nI pg), .ref (ad 10), .int (nI lg), .ref (ad 11), .int (nI ng)])), (ad 0, .inl (cA 0, 4, .inl (nA (va_up (va_up pa ja (pa jb)) jb (pa ja)))))] := hD
        refine lv_aload_n hx hb pm_d_change_54 rfl (lv_at hl 1 rfl) ?_
        refine zq_Vwv (n := 0) (As := []) (rest := []) (wc := [(o, .inr (3, [.int (nI 0), .int (nI n), .ref (ad 0), .ref (ad 1), .int (nI kl), .int (nI ki), .int (nI kw), .ref (ad 2), .ref (ad 3), .int (nI bo), .int (nI bt), .ref (ad 4), .ref (ad 5), .ref (ad 6), .ref (ad 7), .ref (ad 8), .int (nI my), .ref (ad 9), .int (nI pg), .ref (ad 10), .int (nI lg), .ref (ad 11), .int (nI ng)]))]) (wr := [(ad 0, .inl (cA 0, 4, .inl (nA (va_up (va_up pa ja (pa jb)) jb (pa ja)))))]) ⟨hx, hb, hml, hown, hts⟩ (pm_mapChanges l dC dI cA _ o ad n kl ki kw bo bt my pg lg ng) zg_pm76 (by decide +kernel) ⟨rfl, rfl⟩ ⟨Nat.le_of_ble_eq_true rfl, Nat.le_of_ble_eq_true rfl⟩ hK hP hD hS hA hZ [0] [1] rfl rfl (by decide) 3 0 rfl rfl rfl rfl hl.1 rfl (Nat.le_of_ble_eq_true rfl) pm_d_change_55 (fun u_10 H locs h_9 hP hD hS => ?_) ⟨Nat.le_of_ble_eq_true rfl, Nat.le_of_ble_eq_true rfl⟩
        have hP : va_P (dC, dI) zz_cl [(ad 0, .inl (cA 0, 4, .inl (nA (va_up (va_up pa ja (pa jb)) jb (pa ja))))), (o, .inr (3, [.int (nI 0), .int (nI n), .ref (ad 0), .ref (ad 1), .int (nI kl), .int (nI 0), .int (nI 0), .ref (ad 2), .ref (ad 3), .int (nI bo), .int (nI bt), .ref (ad 4), .ref (ad 5), .ref (ad 6), .ref (ad 7), .ref (ad 8), .int (nI my), .ref (ad 9), .int (nI pg), .ref (ad 10), .int (nI lg), .ref (ad 11), .int (nI ng)]))] H := hP
        have hD : va_D A [(ad 0, .inl (cA 0, 4, .inl (nA (va_up (va_up pa ja (pa jb)) jb (pa ja))))), (o, .inr (3, [.int (nI 0), .int (nI n), .ref (ad 0), .ref (ad 1), .int (nI kl), .int (nI 0), .int (nI 0), .ref (ad 2), .ref (ad 3), .int (nI bo), .int (nI bt), .ref (ad 4), .ref (ad 5), .ref (ad 6), .ref (ad 7), .ref (ad 8), .int (nI my), .ref (ad 9), .int (nI pg), .ref (ad 10), .int (nI lg), .ref (ad 11), .int (nI ng)]))] := hD
        refine lv_iconst (v := (nI 1)) hx hb pm_d_change_58 (by decide) ?_
        have hP9 := hP.sub (ws' := [(o, .inr (3, [.int (nI 0), .int (nI n), .ref (ad 0), .ref (ad 1), .int (nI kl), .int (nI 0), .int (nI 0), .ref (ad 2), .ref (ad 3), .int (nI bo), .int (nI bt), .ref (ad 4), .ref (ad 5), .ref (ad 6), .ref (ad 7), .ref (ad 8), .int (nI my), .ref (ad 9), .int (nI pg), .ref (ad 10), .int (nI lg), .ref (ad 11), .int (nI ng)])), (ad 0, .inl (cA 0, 4, .inl (nA (va_up (va_up pa ja (pa jb)) jb (pa ja)))))]) [1, 0] rfl
        have hD9 := hD.sub (ws' := [(o, .inr (3, [.int (nI 0), .int (nI n), .ref (ad 0), .ref (ad 1), .int (nI kl), .int (nI 0), .int (nI 0), .ref (ad 2), .ref (ad 3), .int (nI bo), .int (nI bt), .ref (ad 4), .ref (ad 5), .ref (ad 6), .ref (ad 7), .ref (ad 8), .int (nI my), .ref (ad 9), .int (nI pg), .ref (ad 10), .int (nI lg), .ref (ad 11), .int (nI ng)])), (ad 0, .inl (cA 0, 4, .inl (nA (va_up (va_up pa ja (pa jb)) jb (pa ja)))))]) [1, 0] (by decide) rfl
        exact W.zret (v := (nI 1)) hx hb hr (by decide) (fun t ht hW => ⟨⟨(nI 1), (va_up (va_up pa ja (pa jb)) jb (pa ja), 0, 0), rfl, Or.inl ⟨ja, jb, hja, hjb, c_7, rfl, rfl, rfl, rfl⟩, by rw [ht]; exact hP9, hD9⟩, hS.F ht⟩) hS.2.2 pm_d_change_59
      · refine lv_iconst (v := (nI 0)) hx hb pm_d_change_26 (by decide) ?_
        have hP9 := hP.sub (ws' := [(o, .inr (3, [.int (nI 0), .int (nI n), .ref (ad 0), .ref (ad 1), .int (nI kl), .int (nI ki), .int (nI kw), .ref (ad 2), .ref (ad 3), .int (nI bo), .int (nI bt), .ref (ad 4), .ref (ad 5), .ref (ad 6), .ref (ad 7), .ref (ad 8), .int (nI my), .ref (ad 9), .int (nI pg), .ref (ad 10), .int (nI lg), .ref (ad 11), .int (nI ng)])), (ad 0, .inl (cA 0, 4, .inl (nA pa)))]) [0, 1] rfl
        have hD9 := hD.sub (ws' := [(o, .inr (3, [.int (nI 0), .int (nI n), .ref (ad 0), .ref (ad 1), .int (nI kl), .int (nI ki), .int (nI kw), .ref (ad 2), .ref (ad 3), .int (nI bo), .int (nI bt), .ref (ad 4), .ref (ad 5), .ref (ad 6), .ref (ad 7), .ref (ad 8), .int (nI my), .ref (ad 9), .int (nI pg), .ref (ad 10), .int (nI lg), .ref (ad 11), .int (nI ng)])), (ad 0, .inl (cA 0, 4, .inl (nA pa)))]) [0, 1] (by decide) rfl
        exact W.zret (v := (nI 0)) hx hb hr (by decide) (fun t ht hW => ⟨⟨(nI 0), (pa, ki, kw), rfl, Or.inr ⟨fun h => h.2.2 (by rw [c_7]), rfl, rfl⟩, by rw [ht]; exact hP9, hD9⟩, hS.F ht⟩) hS.2.2 pm_d_change_27
    · refine zi_eq (tgt := 26) hx hb pm_d_change_18 (by decide) (by omega) (fun c_11 => ?_) (fun c_11 => absurd c_11 (by omega))
      refine lv_iconst (v := (nI 0)) hx hb pm_d_change_26 (by decide) ?_
      have hP9 := hP.sub (ws' := [(o, .inr (3, [.int (nI 0), .int (nI n), .ref (ad 0), .ref (ad 1), .int (nI kl), .int (nI ki), .int (nI kw), .ref (ad 2), .ref (ad 3), .int (nI bo), .int (nI bt), .ref (ad 4), .ref (ad 5), .ref (ad 6), .ref (ad 7), .ref (ad 8), .int (nI my), .ref (ad 9), .int (nI pg), .ref (ad 10), .int (nI lg), .ref (ad 11), .int (nI ng)])), (ad 0, .inl (cA 0, 4, .inl (nA pa)))]) [0, 1] rfl
      have hD9 := hD.sub (ws' := [(o, .inr (3, [.int (nI 0), .int (nI n), .ref (ad 0), .ref (ad 1), .int (nI kl), .int (nI ki), .int (nI kw), .ref (ad 2), .ref (ad 3), .int (nI bo), .int (nI bt), .ref (ad 4), .ref (ad 5), .ref (ad 6), .ref (ad 7), .ref (ad 8), .int (nI my), .ref (ad 9), .int (nI pg), .ref (ad 10), .int (nI lg), .ref (ad 11), .int (nI ng)])), (ad 0, .inl (cA 0, 4, .inl (nA pa)))]) [0, 1] (by decide) rfl
      exact W.zret (v := (nI 0)) hx hb hr (by decide) (fun t ht hW => ⟨⟨(nI 0), (pa, ki, kw), rfl, Or.inr ⟨fun h => hnb h.2.1, rfl, rfl⟩, by rw [ht]; exact hP9, hD9⟩, hS.F ht⟩) hS.2.2 pm_d_change_27
  · refine zi_eq (tgt := 26) hx hb pm_d_change_10 (by decide) (by omega) (fun c_12 => ?_) (fun c_12 => absurd c_12 (by omega))
    refine lv_iconst (v := (nI 0)) hx hb pm_d_change_26 (by decide) ?_
    have hP9 := hP.sub (ws' := [(o, .inr (3, [.int (nI 0), .int (nI n), .ref (ad 0), .ref (ad 1), .int (nI kl), .int (nI ki), .int (nI kw), .ref (ad 2), .ref (ad 3), .int (nI bo), .int (nI bt), .ref (ad 4), .ref (ad 5), .ref (ad 6), .ref (ad 7), .ref (ad 8), .int (nI my), .ref (ad 9), .int (nI pg), .ref (ad 10), .int (nI lg), .ref (ad 11), .int (nI ng)])), (ad 0, .inl (cA 0, 4, .inl (nA pa)))]) [0, 1] rfl
    have hD9 := hD.sub (ws' := [(o, .inr (3, [.int (nI 0), .int (nI n), .ref (ad 0), .ref (ad 1), .int (nI kl), .int (nI ki), .int (nI kw), .ref (ad 2), .ref (ad 3), .int (nI bo), .int (nI bt), .ref (ad 4), .ref (ad 5), .ref (ad 6), .ref (ad 7), .ref (ad 8), .int (nI my), .ref (ad 9), .int (nI pg), .ref (ad 10), .int (nI lg), .ref (ad 11), .int (nI ng)])), (ad 0, .inl (cA 0, 4, .inl (nA pa)))]) [0, 1] (by decide) rfl
    exact W.zret (v := (nI 0)) hx hb hr (by decide) (fun t ht hW => ⟨⟨(nI 0), (pa, ki, kw), rfl, Or.inr ⟨fun h => hna h.1, rfl, rfl⟩, by rw [ht]; exact hP9, hD9⟩, hS.F ht⟩) hS.2.2 pm_d_change_27
set_option maxHeartbeats 4000000 in
set_option maxRecDepth 100000 in
/-- turn(a, x) -/
theorem pm_turn (l : Launch) (dC : Nat → ClassId) (dI : Nat → Nat → Nat) (cA : Nat → ClassId) (sz : Nat) (o : Nat) (ad : Nat → Nat) (n kl ki kw bo bt my pg lg ng : Nat) (pa ph : Nat → Nat) (a x : Int32) (hn : n ≤ 4) (hpa : ∀ j, j < n → pa j < 16) : Met l pm_y_turn pm_w_turn ({ frames := 1, cells := 0, slots := 0, locals := 21 }) (va_Pc [.ref o, .int a, .int x] (zB (dC, dI) cA [(o, .inr (3, [.int (nI 0), .int (nI n), .ref (ad 0), .ref (ad 1), .int (nI kl), .int (nI ki), .int (nI kw), .ref (ad 2), .ref (ad 3), .int (nI bo), .int (nI bt), .ref (ad 4), .ref (ad 5), .ref (ad 6), .ref (ad 7), .ref (ad 8), .int (nI my), .ref (ad 9), .int (nI pg), .ref (ad 10), .int (nI lg), .ref (ad 11), .int (nI ng)])), (ad 0, .inl (cA 0, 4, .inl (nA pa))), (ad 1, .inl (cA 0, 16, .inl (nA ph)))] sz)) (va_Qi (fun (r : Int32) (u : (Nat → Nat) × Nat × Nat) => (∃ ja, ja < n ∧ a = nI ja ∧ ¬ x < (-7) ∧ x ≤ nI 7 ∧ r = nI 1 ∧ u = (va_up ph (pa ja) (zt8 (ph (pa ja)) x), 0, 0)) ∨ (¬ (zw_in n a ∧ ¬ x < (-7) ∧ x ≤ nI 7) ∧ r = nI 0 ∧ u = (ph, kl, kw))) (fun u t => zE (dC, dI) (va_A [(o, .inr (3, [.int (nI 0), .int (nI n), .ref (ad 0), .ref (ad 1), .int (nI kl), .int (nI ki), .int (nI kw), .ref (ad 2), .ref (ad 3), .int (nI bo), .int (nI bt), .ref (ad 4), .ref (ad 5), .ref (ad 6), .ref (ad 7), .ref (ad 8), .int (nI my), .ref (ad 9), .int (nI pg), .ref (ad 10), .int (nI lg), .ref (ad 11), .int (nI ng)])), (ad 0, .inl (cA 0, 4, .inl (nA pa))), (ad 1, .inl (cA 0, 16, .inl (nA ph)))] sz) ((fun (u : (Nat → Nat) × Nat × Nat) => [(o, .inr (3, [.int (nI 0), .int (nI n), .ref (ad 0), .ref (ad 1), .int (nI u.2.1), .int (nI ki), .int (nI u.2.2), .ref (ad 2), .ref (ad 3), .int (nI bo), .int (nI bt), .ref (ad 4), .ref (ad 5), .ref (ad 6), .ref (ad 7), .ref (ad 8), .int (nI my), .ref (ad 9), .int (nI pg), .ref (ad 10), .int (nI lg), .ref (ad 11), .int (nI ng)])), (ad 0, .inl (cA 0, 4, .inl (nA pa))), (ad 1, .inl (cA 0, 16, .inl (nA u.1)))]) u) t) (va_A [(o, .inr (3, [.int (nI 0), .int (nI n), .ref (ad 0), .ref (ad 1), .int (nI kl), .int (nI ki), .int (nI kw), .ref (ad 2), .ref (ad 3), .int (nI bo), .int (nI bt), .ref (ad 4), .ref (ad 5), .ref (ad 6), .ref (ad 7), .ref (ad 8), .int (nI my), .ref (ad 9), .int (nI pg), .ref (ad 10), .int (nI lg), .ref (ad 11), .int (nI ng)])), (ad 0, .inl (cA 0, 4, .inl (nA pa))), (ad 1, .inl (cA 0, 16, .inl (nA ph)))] sz)) 0 0 (va_A [(o, .inr (3, [.int (nI 0), .int (nI n), .ref (ad 0), .ref (ad 1), .int (nI kl), .int (nI ki), .int (nI kw), .ref (ad 2), .ref (ad 3), .int (nI bo), .int (nI bt), .ref (ad 4), .ref (ad 5), .ref (ad 6), .ref (ad 7), .ref (ad 8), .int (nI my), .ref (ad 9), .int (nI pg), .ref (ad 10), .int (nI lg), .ref (ad 11), .int (nI ng)])), (ad 0, .inl (cA 0, 4, .inl (nA pa))), (ad 1, .inl (cA 0, 16, .inl (nA ph)))] sz) := by
  refine Met.ofW (cc := pm_c_turn) (maxL := 3) (ret := (some .boolean)) (by decide) rfl ?_
  intro p e s m args below meth c s₁ B hml hv
  obtain ⟨rfl, hsz, hP, hK, hD0, hZ⟩ := hv
  have hx := B.exec
  have hb := B.bytes
  have hr := B.returns
  have hts0 := atoms_spec (ws := pm_w_turn) B.pre
  have hts : ∀ w ∈ zz_tbl, w.before _ s = true := fun w h => hts0 w (List.mem_cons_of_mem _ h)
  have hown : s.vm.findClass pm_R = some m.cls := findClass_of_methodNamed B.named
  have hlocks := B.notSynchronized
  subst hsz
  have hD := hD0.self (sz := s.heap.size)
  generalize hAe : va_A [(o, .inr (3, [.int (nI 0), .int (nI n), .ref (ad 0), .ref (ad 1), .int (nI kl), .int (nI ki), .int (nI kw), .ref (ad 2), .ref (ad 3), .int (nI bo), .int (nI bt), .ref (ad 4), .ref (ad 5), .ref (ad 6), .ref (ad 7), .ref (ad 8), .int (nI my), .ref (ad 9), .int (nI pg), .ref (ad 10), .int (nI lg), .ref (ad 11), .int (nI ng)])), (ad 0, .inl (cA 0, 4, .inl (nA pa))), (ad 1, .inl (cA 0, 16, .inl (nA ph)))] s.heap.size = A at hD hZ ⊢
  have hA : ∀ q : Nat, s.heap.size ≤ q → A q := fun q h => by rw [← hAe]; exact Or.inr h
  have hS : va_S A s.heap s.heap [] := va_S.rf
  have hP : va_P (dC, dI) zz_cl [(o, .inr (3, [.int (nI 0), .int (nI n), .ref (ad 0), .ref (ad 1), .int (nI kl), .int (nI ki), .int (nI kw), .ref (ad 2), .ref (ad 3), .int (nI bo), .int (nI bt), .ref (ad 4), .ref (ad 5), .ref (ad 6), .ref (ad 7), .ref (ad 8), .int (nI my), .ref (ad 9), .int (nI pg), .ref (ad 10), .int (nI lg), .ref (ad 11), .int (nI ng)])), (ad 0, .inl (cA 0, 4, .inl (nA pa))), (ad 1, .inl (cA 0, 16, .inl (nA ph)))] s.heap := hP
  have hl := lv_entry ([.ref o, .int a, .int x]) (n := 3) (Nat.le_of_ble_eq_true rfl)
  rw [lg_entry_eq]
  generalize (lg_sl ([.ref o, .int a, .int x]) ++ List.replicate (3 - (lg_sl ([.ref o, .int a, .int x])).length) Slot.unset).toArray = ls at hl ⊢
  have hl : lv_has ls 3 [(0, .ref o), (1, .int a), (2, .int x)] := hl
  refine lv_aload_n hx hb pm_d_turn_0 rfl (lv_at hl 0 rfl) ?_
  refine lv_iconst (v := (nI 0)) hx hb pm_d_turn_1 (by decide) ?_
  refine va_put (D := (dC, dI)) (ci := 3) (v := .int (nI 0)) (ty := .int) (C := pm_R) (T := pm_T) (N := 23) hx hb hts pm_in pm_t pm_ok pm_nm hown hK hP hD hS 0 rfl rfl 0 (by decide) (hts _ zk_pm52) (fun _ h9 => h9) rfl (by decide +kernel) rfl rfl (Nat.le_of_ble_eq_true rfl) pm_d_turn_2 (fun H locs hP hD hS => ?_)
  have hP : va_P (dC, dI) zz_cl [(o, .inr (3, [.int (nI 0), .int (nI n), .ref (ad 0), .ref (ad 1), .int (nI kl), .int (nI ki), .int (nI kw), .ref (ad 2), .ref (ad 3), .int (nI bo), .int (nI bt), .ref (ad 4), .ref (ad 5), .ref (ad 6), .ref (ad 7), .ref (ad 8), .int (nI my), .ref (ad 9), .int (nI pg), .ref (ad 10), .int (nI lg), .ref (ad 11), .int (nI ng)])), (ad 0, .inl (cA 0, 4, .inl (nA pa))), (ad 1, .inl (cA 0, 16, .inl (nA ph)))] H := hP
  have hD : va_D A [(o, .inr (3, [.int (nI 0), .int (nI n), .ref (ad 0), .ref (ad 1), .int (nI kl), .int (nI ki), .int (nI kw), .ref (ad 2), .ref (ad 3), .int (nI bo), .int (nI bt), .ref (ad 4), .ref (ad 5), .ref (ad 6), .ref (ad 7), .ref (ad 8), .int (nI my), .ref (ad 9), .int (nI pg), .ref (ad 10), .int (nI lg), .ref (ad 11), .int (nI ng)])), (ad 0, .inl (cA 0, 4, .inl (nA pa))), (ad 1, .inl (cA 0, 16, .inl (nA ph)))] := hD
  refine lv_aload_n hx hb pm_d_turn_5 rfl (lv_at hl 0 rfl) ?_
  refine lv_iload_n hx hb pm_d_turn_6 rfl (lv_at hl 1 rfl) ?_
  refine zq_Vi (n := 1) (As := [.int a]) (rest := []) ⟨hx, hb, hml, hown, hts⟩ (pm_isWire l dC dI cA o ad n kl ki kw bo bt my pg lg ng a (by omega)) zg_pm72 (by decide +kernel) ⟨rfl, rfl⟩ ⟨Nat.le_of_ble_eq_true rfl, Nat.le_of_ble_eq_true rfl⟩ hK (hP.sub (ws' := [(o, .inr (3, [.int (nI 0), .int (nI n), .ref (ad 0), .ref (ad 1), .int (nI kl), .int (nI ki), .int (nI kw), .ref (ad 2), .ref (ad 3), .int (nI bo), .int (nI bt), .ref (ad 4), .ref (ad 5), .ref (ad 6), .ref (ad 7), .ref (ad 8), .int (nI my), .ref (ad 9), .int (nI pg), .ref (ad 10), .int (nI lg), .ref (ad 11), .int (nI ng)]))]) [0] rfl) 3 0 rfl rfl rfl rfl hl.1 rfl (Nat.le_of_ble_eq_true rfl) pm_d_turn_7 (fun r_1 h_2 => ?_) ⟨Nat.le_of_ble_eq_true rfl, Nat.le_of_ble_eq_true rfl⟩
  rcases h_2 with ⟨⟨ja, hja, rfl⟩, rfl⟩ | ⟨hna, rfl⟩
  · refine zi_eq (tgt := 25) hx hb pm_d_turn_10 (by decide) (by omega) (fun c_3 => absurd c_3 (by omega)) (fun c_3 => ?_)
    refine lv_iload_n hx hb pm_d_turn_13 rfl (lv_at hl 2 rfl) ?_
    refine lv_bipush (v := (-7)) hx hb pm_d_turn_14 (by decide) ?_
    refine lv_icmp_lt (tgt := 25) hx hb pm_d_turn_16 (by decide) (fun c_4 => ?_) (fun c_4 => ?_)
    · refine lv_iconst (v := (nI 0)) hx hb pm_d_turn_25 (by decide) ?_
      have hP9 := hP.sub (ws' := [(o, .inr (3, [.int (nI 0), .int (nI n), .ref (ad 0), .ref (ad 1), .int (nI kl), .int (nI ki), .int (nI kw), .ref (ad 2), .ref (ad 3), .int (nI bo), .int (nI bt), .ref (ad 4), .ref (ad 5), .ref (ad 6), .ref (ad 7), .ref (ad 8), .int (nI my), .ref (ad 9), .int (nI pg), .ref (ad 10), .int (nI lg), .ref (ad 11), .int (nI ng)])), (ad 0, .inl (cA 0, 4, .inl (nA pa))), (ad 1, .inl (cA 0, 16, .inl (nA ph)))]) [0, 1, 2] rfl
      have hD9 := hD.sub (ws' := [(o, .inr (3, [.int (nI 0), .int (nI n), .ref (ad 0), .ref (ad 1), .int (nI kl), .int (nI ki), .int (nI kw), .ref (ad 2), .ref (ad 3), .int (nI bo), .int (nI bt), .ref (ad 4), .ref (ad 5), .ref (ad 6), .ref (ad 7), .ref (ad 8), .int (nI my), .ref (ad 9), .int (nI pg), .ref (ad 10), .int (nI lg), .ref (ad 11), .int (nI ng)])), (ad 0, .inl (cA 0, 4, .inl (nA pa))), (ad 1, .inl (cA 0, 16, .inl (nA ph)))]) [0, 1, 2] (by decide) rfl
      exact W.zret (v := (nI 0)) hx hb hr (by decide) (fun t ht hW => ⟨⟨(nI 0), (ph, kl, kw), rfl, Or.inr ⟨fun h => h.2.1 c_4, rfl, rfl⟩, by rw [ht]; exact hP9, hD9⟩, hS.F ht⟩) hS.2.2 pm_d_turn_26
    · refine lv_iload_n hx hb pm_d_turn_19 rfl (lv_at hl 2 rfl) ?_
      refine lv_bipush (v := (nI 7)) hx hb pm_d_turn_20 (by decide) ?_
      refine lv_icmp_le (tgt := 27) hx hb pm_d_turn_22 (by decide) (fun c_5 => ?_) (fun c_5 => ?_)
      · have hq := hpa ja hja
        refine lv_aload_n hx hb pm_d_turn_27 rfl (lv_at hl 0 rfl) ?_
        refine va_get (D := (dC, dI)) (ci := 3) (v := .ref (ad 1)) (C := pm_R) (T := pm_T) (N := 23) hx hb hts pm_in hown hK hP 0 rfl rfl 3 (by decide) (hts _ zk_pm13) (fun _ h9 => h9) rfl pm_d_turn_28 ?_
        refine lv_aload_n hx hb pm_d_turn_31 rfl (lv_at hl 0 rfl) ?_
        refine va_get (D := (dC, dI)) (ci := 3) (v := .ref (ad 0)) (C := pm_R) (T := pm_T) (N := 23) hx hb hts pm_in hown hK hP 0 rfl rfl 2 (by decide) (hts _ zk_pm7) (fun _ h9 => h9) rfl pm_d_turn_32 ?_
        refine lv_iload_n hx hb pm_d_turn_35 rfl (lv_at hl 1 rfl) ?_
        refine zv_iald hx hb hK hP 1 0 rfl rfl (k := ja) (by omega) (by omega) pm_d_turn_36 ?_
        refine lv_aload_n hx hb pm_d_turn_37 rfl (lv_at hl 0 rfl) ?_
        refine va_get (D := (dC, dI)) (ci := 3) (v := .ref (ad 1)) (C := pm_R) (T := pm_T) (N := 23) hx hb hts pm_in hown hK hP 0 rfl rfl 3 (by decide) (hts _ zk_pm13) (fun _ h9 => h9) rfl pm_d_turn_38 ?_
        refine lv_aload_n hx hb pm_d_turn_41 rfl (lv_at hl 0 rfl) ?_
        refine va_get (D := (dC, dI)) (ci := 3) (v := .ref (ad 0)) (C := pm_R) (T := pm_T) (N := 23) hx hb hts pm_in hown hK hP 0 rfl rfl 2 (by decide) (hts _ zk_pm7) (fun _ h9 => h9) rfl pm_d_turn_42 ?_
        refine lv_iload_n hx hb pm_d_turn_45 rfl (lv_at hl 1 rfl) ?_
        refine zv_iald hx hb hK hP 1 0 rfl rfl (k := ja) (by omega) (by omega) pm_d_turn_46 ?_
        refine zv_iald hx hb hK hP 2 0 rfl rfl (k := (pa ja)) (by omega) (by omega) pm_d_turn_47 ?_
        refine lv_iload_n hx hb pm_d_turn_48 rfl (lv_at hl 2 rfl) ?_
        refine lv_iadd hx hb pm_d_turn_49 ?_
        refine lv_bipush (v := (nI 7)) hx hb pm_d_turn_50 (by decide) ?_
        refine lv_iand hx hb pm_d_turn_52 ?_
        refine zt_i (zt8_eq _ _) ?_
        refine zv_iast hx hb hK hP hD hS 2 0 rfl rfl (k := (pa ja)) (v := (zt8 (ph (pa ja)) x)) (by omega) (by omega) pm_d_turn_53 (fun H locs hP hD hS => ?_)
        have hP : va_P (dC, dI) zz_cl [(o, .inr (3, [.int (nI 0), .int (nI n), .ref (ad 0), .ref (ad 1), .int (nI kl), .int (nI ki), .int (nI kw), .ref (ad 2), .ref (ad 3), .int (nI bo), .int (nI bt), .ref (ad 4), .ref (ad 5), .ref (ad 6), .ref (ad 7), .ref (ad 8), .int (nI my), .ref (ad 9), .int (nI pg), .ref (ad 10), .int (nI lg), .ref (ad 11), .int (nI ng)])), (ad 0, .inl (cA 0, 4, .inl (nA pa))), (ad 1, .inl (cA 0, 16, .inl (nA (va_up ph (pa ja) (zt8 (ph (pa ja)) x)))))] H := hP
        have hD : va_D A [(o, .inr (3, [.int (nI 0), .int (nI n), .ref (ad 0), .ref (ad 1), .int (nI kl), .int (nI ki), .int (nI kw), .ref (ad 2), .ref (ad 3), .int (nI bo), .int (nI bt), .ref (ad 4), .ref (ad 5), .ref (ad 6), .ref (ad 7), .ref (ad 8), .int (nI my), .ref (ad 9), .int (nI pg), .ref (ad 10), .int (nI lg), .ref (ad 11), .int (nI ng)])), (ad 0, .inl (cA 0, 4, .inl (nA pa))), (ad 1, .inl (cA 0, 16, .inl (nA (va_up ph (pa ja) (zt8 (ph (pa ja)) x)))))] := hD
        refine lv_aload_n hx hb pm_d_turn_54 rfl (lv_at hl 0 rfl) ?_
        refine zq_Vwv (n := 0) (As := []) (rest := []) (wc := [(o, .inr (3, [.int (nI 0), .int (nI n), .ref (ad 0), .ref (ad 1), .int (nI kl), .int (nI ki), .int (nI kw), .ref (ad 2), .ref (ad 3), .int (nI bo), .int (nI bt), .ref (ad 4), .ref (ad 5), .ref (ad 6), .ref (ad 7), .ref (ad 8), .int (nI my), .ref (ad 9), .int (nI pg), .ref (ad 10), .int (nI lg), .ref (ad 11), .int (nI ng)]))]) (wr := [(ad 0, .inl (cA 0, 4, .inl (nA pa))), (ad 1, .inl (cA 0, 16, .inl (nA (va_up ph (pa ja) (zt8 (ph (pa ja)) x)))))]) ⟨hx, hb, hml, hown, hts⟩ (pm_phasesChange l dC dI cA _ o ad n kl ki kw bo bt my pg lg ng) zg_pm59 (by decide +kernel) ⟨rfl, rfl⟩ ⟨Nat.le_of_ble_eq_true rfl, Nat.le_of_ble_eq_true rfl⟩ hK hP hD hS hA hZ [0] [1, 2] rfl rfl (by decide) 3 0 rfl rfl rfl rfl hl.1 rfl (Nat.le_of_ble_eq_true rfl) pm_d_turn_55 (fun u_8 H locs h_7 hP hD hS => ?_) ⟨Nat.le_of_ble_eq_true rfl, Nat.le_of_ble_eq_true rfl⟩
        have hP : va_P (dC, dI) zz_cl [(ad 0, .inl (cA 0, 4, .inl (nA pa))), (ad 1, .inl (cA 0, 16, .inl (nA (va_up ph (pa ja) (zt8 (ph (pa ja)) x))))), (o, .inr (3, [.int (nI 0), .int (nI n), .ref (ad 0), .ref (ad 1), .int (nI 0), .int (nI ki), .int (nI 0), .ref (ad 2), .ref (ad 3), .int (nI bo), .int (nI bt), .ref (ad 4), .ref (ad 5), .ref (ad 6), .ref (ad 7), .ref (ad 8), .int (nI my), .ref (ad 9), .int (nI pg), .ref (ad 10), .int (nI lg), .ref (ad 11), .int (nI ng)]))] H := hP
        have hD : va_D A [(ad 0, .inl (cA 0, 4, .inl (nA pa))), (ad 1, .inl (cA 0, 16, .inl (nA (va_up ph (pa ja) (zt8 (ph (pa ja)) x))))), (o, .inr (3, [.int (nI 0), .int (nI n), .ref (ad 0), .ref (ad 1), .int (nI 0), .int (nI ki), .int (nI 0), .ref (ad 2), .ref (ad 3), .int (nI bo), .int (nI bt), .ref (ad 4), .ref (ad 5), .ref (ad 6), .ref (ad 7), .ref (ad 8), .int (nI my), .ref (ad 9), .int (nI pg), .ref (ad 10), .int (nI lg), .ref (ad 11), .int (nI ng)]))] := hD
        refine lv_iconst (v := (nI 1)) hx hb pm_d_turn_58 (by decide) ?_
        have hP9 := hP.sub (ws' := [(o, .inr (3, [.int (nI 0), .int (nI n), .ref (ad 0), .ref (ad 1), .int (nI 0), .int (nI ki), .int (nI 0), .ref (ad 2), .ref (ad 3), .int (nI bo), .int (nI bt), .ref (ad 4), .ref (ad 5), .ref (ad 6), .ref (ad 7), .ref (ad 8), .int (nI my), .ref (ad 9), .int (nI pg), .ref (ad 10), .int (nI lg), .ref (ad 11), .int (nI ng)])), (ad 0, .inl (cA 0, 4, .inl (nA pa))), (ad 1, .inl (cA 0, 16, .inl (nA (va_up ph (pa ja) (zt8 (ph (pa ja)) x)))))]) [2, 0, 1] rfl
        have hD9 := hD.sub (ws' := [(o, .inr (3, [.int (nI 0), .int (nI n), .ref (ad 0), .ref (ad 1), .int (nI 0), .int (nI ki), .int (nI 0), .ref (ad 2), .ref (ad 3), .int (nI bo), .int (nI bt), .ref (ad 4), .ref (ad 5), .ref (ad 6), .ref (ad 7), .ref (ad 8), .int (nI my), .ref (ad 9), .int (nI pg), .ref (ad 10), .int (nI lg), .ref (ad 11), .int (nI ng)])), (ad 0, .inl (cA 0, 4, .inl (nA pa))), (ad 1, .inl (cA 0, 16, .inl (nA (va_up ph (pa ja) (zt8 (ph (pa ja)) x)))))]) [2, 0, 1] (by decide) rfl
        exact W.zret (v := (nI 1)) hx hb hr (by decide) (fun t ht hW => ⟨⟨(nI 1), (va_up ph (pa ja) (zt8 (ph (pa ja)) x), 0, 0), rfl, Or.inl ⟨ja, hja, rfl, c_4, c_5, rfl, rfl⟩, by rw [ht]; exact hP9, hD9⟩, hS.F ht⟩) hS.2.2 pm_d_turn_59
      · refine lv_iconst (v := (nI 0)) hx hb pm_d_turn_25 (by decide) ?_
        have hP9 := hP.sub (ws' := [(o, .inr (3, [.int (nI 0), .int (nI n), .ref (ad 0), .ref (ad 1), .int (nI kl), .int (nI ki), .int (nI kw), .ref (ad 2), .ref (ad 3), .int (nI bo), .int (nI bt), .ref (ad 4), .ref (ad 5), .ref (ad 6), .ref (ad 7), .ref (ad 8), .int (nI my), .ref (ad 9), .int (nI pg), .ref (ad 10), .int (nI lg), .ref (ad 11), .int (nI ng)])), (ad 0, .inl (cA 0, 4, .inl (nA pa))), (ad 1, .inl (cA 0, 16, .inl (nA ph)))]) [0, 1, 2] rfl
        have hD9 := hD.sub (ws' := [(o, .inr (3, [.int (nI 0), .int (nI n), .ref (ad 0), .ref (ad 1), .int (nI kl), .int (nI ki), .int (nI kw), .ref (ad 2), .ref (ad 3), .int (nI bo), .int (nI bt), .ref (ad 4), .ref (ad 5), .ref (ad 6), .ref (ad 7), .ref (ad 8), .int (nI my), .ref (ad 9), .int (nI pg), .ref (ad 10), .int (nI lg), .ref (ad 11), .int (nI ng)])), (ad 0, .inl (cA 0, 4, .inl (nA pa))), (ad 1, .inl (cA 0, 16, .inl (nA ph)))]) [0, 1, 2] (by decide) rfl
        exact W.zret (v := (nI 0)) hx hb hr (by decide) (fun t ht hW => ⟨⟨(nI 0), (ph, kl, kw), rfl, Or.inr ⟨fun h => c_5 h.2.2, rfl, rfl⟩, by rw [ht]; exact hP9, hD9⟩, hS.F ht⟩) hS.2.2 pm_d_turn_26
  · refine zi_eq (tgt := 25) hx hb pm_d_turn_10 (by decide) (by omega) (fun c_9 => ?_) (fun c_9 => absurd c_9 (by omega))
    refine lv_iconst (v := (nI 0)) hx hb pm_d_turn_25 (by decide) ?_
    have hP9 := hP.sub (ws' := [(o, .inr (3, [.int (nI 0), .int (nI n), .ref (ad 0), .ref (ad 1), .int (nI kl), .int (nI ki), .int (nI kw), .ref (ad 2), .ref (ad 3), .int (nI bo), .int (nI bt), .ref (ad 4), .ref (ad 5), .ref (ad 6), .ref (ad 7), .ref (ad 8), .int (nI my), .ref (ad 9), .int (nI pg), .ref (ad 10), .int (nI lg), .ref (ad 11), .int (nI ng)])), (ad 0, .inl (cA 0, 4, .inl (nA pa))), (ad 1, .inl (cA 0, 16, .inl (nA ph)))]) [0, 1, 2] rfl
    have hD9 := hD.sub (ws' := [(o, .inr (3, [.int (nI 0), .int (nI n), .ref (ad 0), .ref (ad 1), .int (nI kl), .int (nI ki), .int (nI kw), .ref (ad 2), .ref (ad 3), .int (nI bo), .int (nI bt), .ref (ad 4), .ref (ad 5), .ref (ad 6), .ref (ad 7), .ref (ad 8), .int (nI my), .ref (ad 9), .int (nI pg), .ref (ad 10), .int (nI lg), .ref (ad 11), .int (nI ng)])), (ad 0, .inl (cA 0, 4, .inl (nA pa))), (ad 1, .inl (cA 0, 16, .inl (nA ph)))]) [0, 1, 2] (by decide) rfl
    exact W.zret (v := (nI 0)) hx hb hr (by decide) (fun t ht hW => ⟨⟨(nI 0), (ph, kl, kw), rfl, Or.inr ⟨fun h => hna h.1, rfl, rfl⟩, by rw [ht]; exact hP9, hD9⟩, hS.F ht⟩) hS.2.2 pm_d_turn_26
set_option maxHeartbeats 4000000 in
set_option maxRecDepth 100000 in
/-- parity(a) -/
theorem pm_parity (l : Launch) (dC : Nat → ClassId) (dI : Nat → Nat → Nat) (cA : Nat → ClassId) (sz : Nat) (o : Nat) (ad : Nat → Nat) (n kl ki kw bo bt my pg lg ng : Nat) (pa : Nat → Nat) (a : Int32) (hn : n ≤ 4) : Met l pm_y_parity pm_w_parity ({ frames := 1, cells := 0, slots := 0, locals := 21 }) (va_Pc [.ref o, .int a] (zB (dC, dI) cA [(o, .inr (3, [.int (nI 0), .int (nI n), .ref (ad 0), .ref (ad 1), .int (nI kl), .int (nI ki), .int (nI kw), .ref (ad 2), .ref (ad 3), .int (nI bo), .int (nI bt), .ref (ad 4), .ref (ad 5), .ref (ad 6), .ref (ad 7), .ref (ad 8), .int (nI my), .ref (ad 9), .int (nI pg), .ref (ad 10), .int (nI lg), .ref (ad 11), .int (nI ng)])), (ad 0, .inl (cA 0, 4, .inl (nA pa)))] sz)) (va_Qi (fun (r : Int32) (_ : Unit) => (∃ j, j < n ∧ a = nI j ∧ r = nI (pa j)) ∨ (¬ zw_in n a ∧ r = (-1))) (fun u t => zE (dC, dI) (va_A [(o, .inr (3, [.int (nI 0), .int (nI n), .ref (ad 0), .ref (ad 1), .int (nI kl), .int (nI ki), .int (nI kw), .ref (ad 2), .ref (ad 3), .int (nI bo), .int (nI bt), .ref (ad 4), .ref (ad 5), .ref (ad 6), .ref (ad 7), .ref (ad 8), .int (nI my), .ref (ad 9), .int (nI pg), .ref (ad 10), .int (nI lg), .ref (ad 11), .int (nI ng)])), (ad 0, .inl (cA 0, 4, .inl (nA pa)))] sz) ((fun _ => [(o, .inr (3, [.int (nI 0), .int (nI n), .ref (ad 0), .ref (ad 1), .int (nI kl), .int (nI ki), .int (nI kw), .ref (ad 2), .ref (ad 3), .int (nI bo), .int (nI bt), .ref (ad 4), .ref (ad 5), .ref (ad 6), .ref (ad 7), .ref (ad 8), .int (nI my), .ref (ad 9), .int (nI pg), .ref (ad 10), .int (nI lg), .ref (ad 11), .int (nI ng)])), (ad 0, .inl (cA 0, 4, .inl (nA pa)))]) u) t) (va_A [(o, .inr (3, [.int (nI 0), .int (nI n), .ref (ad 0), .ref (ad 1), .int (nI kl), .int (nI ki), .int (nI kw), .ref (ad 2), .ref (ad 3), .int (nI bo), .int (nI bt), .ref (ad 4), .ref (ad 5), .ref (ad 6), .ref (ad 7), .ref (ad 8), .int (nI my), .ref (ad 9), .int (nI pg), .ref (ad 10), .int (nI lg), .ref (ad 11), .int (nI ng)])), (ad 0, .inl (cA 0, 4, .inl (nA pa)))] sz)) 0 0 (va_A [(o, .inr (3, [.int (nI 0), .int (nI n), .ref (ad 0), .ref (ad 1), .int (nI kl), .int (nI ki), .int (nI kw), .ref (ad 2), .ref (ad 3), .int (nI bo), .int (nI bt), .ref (ad 4), .ref (ad 5), .ref (ad 6), .ref (ad 7), .ref (ad 8), .int (nI my), .ref (ad 9), .int (nI pg), .ref (ad 10), .int (nI lg), .ref (ad 11), .int (nI ng)])), (ad 0, .inl (cA 0, 4, .inl (nA pa)))] sz) := by
  refine Met.ofW (cc := pm_c_parity) (maxL := 2) (ret := (some .int)) (by decide) rfl ?_
  intro p e s m args below meth c s₁ B hml hv
  obtain ⟨rfl, hsz, hP, hK, hD0, hZ⟩ := hv
  have hx := B.exec
  have hb := B.bytes
  have hr := B.returns
  have hts0 := atoms_spec (ws := pm_w_parity) B.pre
  have hts : ∀ w ∈ zz_tbl, w.before _ s = true := fun w h => hts0 w (List.mem_cons_of_mem _ h)
  have hown : s.vm.findClass pm_R = some m.cls := findClass_of_methodNamed B.named
  have hlocks := B.notSynchronized
  subst hsz
  have hD := hD0.self (sz := s.heap.size)
  generalize hAe : va_A [(o, .inr (3, [.int (nI 0), .int (nI n), .ref (ad 0), .ref (ad 1), .int (nI kl), .int (nI ki), .int (nI kw), .ref (ad 2), .ref (ad 3), .int (nI bo), .int (nI bt), .ref (ad 4), .ref (ad 5), .ref (ad 6), .ref (ad 7), .ref (ad 8), .int (nI my), .ref (ad 9), .int (nI pg), .ref (ad 10), .int (nI lg), .ref (ad 11), .int (nI ng)])), (ad 0, .inl (cA 0, 4, .inl (nA pa)))] s.heap.size = A at hD hZ ⊢
  have hA : ∀ q : Nat, s.heap.size ≤ q → A q := fun q h => by rw [← hAe]; exact Or.inr h
  have hS : va_S A s.heap s.heap [] := va_S.rf
  have hP : va_P (dC, dI) zz_cl [(o, .inr (3, [.int (nI 0), .int (nI n), .ref (ad 0), .ref (ad 1), .int (nI kl), .int (nI ki), .int (nI kw), .ref (ad 2), .ref (ad 3), .int (nI bo), .int (nI bt), .ref (ad 4), .ref (ad 5), .ref (ad 6), .ref (ad 7), .ref (ad 8), .int (nI my), .ref (ad 9), .int (nI pg), .ref (ad 10), .int (nI lg), .ref (ad 11), .int (nI ng)])), (ad 0, .inl (cA 0, 4, .inl (nA pa)))] s.heap := hP
  have hl := lv_entry ([.ref o, .int a]) (n := 2) (Nat.le_of_ble_eq_true rfl)
  rw [lg_entry_eq]
  generalize (lg_sl ([.ref o, .int a]) ++ List.replicate (2 - (lg_sl ([.ref o, .int a])).length) Slot.unset).toArray = ls at hl ⊢
  have hl : lv_has ls 2 [(0, .ref o), (1, .int a)] := hl
  refine lv_aload_n hx hb pm_d_parity_0 rfl (lv_at hl 0 rfl) ?_
  refine lv_iconst (v := (nI 0)) hx hb pm_d_parity_1 (by decide) ?_
  refine va_put (D := (dC, dI)) (ci := 3) (v := .int (nI 0)) (ty := .int) (C := pm_R) (T := pm_T) (N := 23) hx hb hts pm_in pm_t pm_ok pm_nm hown hK hP hD hS 0 rfl rfl 0 (by decide) (hts _ zk_pm52) (fun _ h9 => h9) rfl (by decide +kernel) rfl rfl (Nat.le_of_ble_eq_true rfl) pm_d_parity_2 (fun H locs hP hD hS => ?_)
  have hP : va_P (dC, dI) zz_cl [(o, .inr (3, [.int (nI 0), .int (nI n), .ref (ad 0), .ref (ad 1), .int (nI kl), .int (nI ki), .int (nI kw), .ref (ad 2), .ref (ad 3), .int (nI bo), .int (nI bt), .ref (ad 4), .ref (ad 5), .ref (ad 6), .ref (ad 7), .ref (ad 8), .int (nI my), .ref (ad 9), .int (nI pg), .ref (ad 10), .int (nI lg), .ref (ad 11), .int (nI ng)])), (ad 0, .inl (cA 0, 4, .inl (nA pa)))] H := hP
  have hD : va_D A [(o, .inr (3, [.int (nI 0), .int (nI n), .ref (ad 0), .ref (ad 1), .int (nI kl), .int (nI ki), .int (nI kw), .ref (ad 2), .ref (ad 3), .int (nI bo), .int (nI bt), .ref (ad 4), .ref (ad 5), .ref (ad 6), .ref (ad 7), .ref (ad 8), .int (nI my), .ref (ad 9), .int (nI pg), .ref (ad 10), .int (nI lg), .ref (ad 11), .int (nI ng)])), (ad 0, .inl (cA 0, 4, .inl (nA pa)))] := hD
  refine lv_aload_n hx hb pm_d_parity_5 rfl (lv_at hl 0 rfl) ?_
  refine lv_iload_n hx hb pm_d_parity_6 rfl (lv_at hl 1 rfl) ?_
  refine zq_Vi (n := 1) (As := [.int a]) (rest := []) ⟨hx, hb, hml, hown, hts⟩ (pm_isWire l dC dI cA o ad n kl ki kw bo bt my pg lg ng a (by omega)) zg_pm72 (by decide +kernel) ⟨rfl, rfl⟩ ⟨Nat.le_of_ble_eq_true rfl, Nat.le_of_ble_eq_true rfl⟩ hK (hP.sub (ws' := [(o, .inr (3, [.int (nI 0), .int (nI n), .ref (ad 0), .ref (ad 1), .int (nI kl), .int (nI ki), .int (nI kw), .ref (ad 2), .ref (ad 3), .int (nI bo), .int (nI bt), .ref (ad 4), .ref (ad 5), .ref (ad 6), .ref (ad 7), .ref (ad 8), .int (nI my), .ref (ad 9), .int (nI pg), .ref (ad 10), .int (nI lg), .ref (ad 11), .int (nI ng)]))]) [0] rfl) 3 0 rfl rfl rfl rfl hl.1 rfl (Nat.le_of_ble_eq_true rfl) pm_d_parity_7 (fun r_1 h_2 => ?_) ⟨Nat.le_of_ble_eq_true rfl, Nat.le_of_ble_eq_true rfl⟩
  rcases h_2 with ⟨⟨ja, hja, rfl⟩, rfl⟩ | ⟨hna, rfl⟩
  · refine zi_eq (tgt := 22) hx hb pm_d_parity_10 (by decide) (by omega) (fun c_3 => absurd c_3 (by omega)) (fun c_3 => ?_)
    refine lv_aload_n hx hb pm_d_parity_13 rfl (lv_at hl 0 rfl) ?_
    refine va_get (D := (dC, dI)) (ci := 3) (v := .ref (ad 0)) (C := pm_R) (T := pm_T) (N := 23) hx hb hts pm_in hown hK hP 0 rfl rfl 2 (by decide) (hts _ zk_pm7) (fun _ h9 => h9) rfl pm_d_parity_14 ?_
    refine lv_iload_n hx hb pm_d_parity_17 rfl (lv_at hl 1 rfl) ?_
    refine zv_iald hx hb hK hP 1 0 rfl rfl (k := ja) (by omega) (by omega) pm_d_parity_18 ?_
    refine lv_goto (tgt := 23) hx hb pm_d_parity_19 (by decide) ?_
    have hP9 := hP.sub (ws' := [(o, .inr (3, [.int (nI 0), .int (nI n), .ref (ad 0), .ref (ad 1), .int (nI kl), .int (nI ki), .int (nI kw), .ref (ad 2), .ref (ad 3), .int (nI bo), .int (nI bt), .ref (ad 4), .ref (ad 5), .ref (ad 6), .ref (ad 7), .ref (ad 8), .int (nI my), .ref (ad 9), .int (nI pg), .ref (ad 10), .int (nI lg), .ref (ad 11), .int (nI ng)])), (ad 0, .inl (cA 0, 4, .inl (nA pa)))]) [0, 1] rfl
    have hD9 := hD.sub (ws' := [(o, .inr (3, [.int (nI 0), .int (nI n), .ref (ad 0), .ref (ad 1), .int (nI kl), .int (nI ki), .int (nI kw), .ref (ad 2), .ref (ad 3), .int (nI bo), .int (nI bt), .ref (ad 4), .ref (ad 5), .ref (ad 6), .ref (ad 7), .ref (ad 8), .int (nI my), .ref (ad 9), .int (nI pg), .ref (ad 10), .int (nI lg), .ref (ad 11), .int (nI ng)])), (ad 0, .inl (cA 0, 4, .inl (nA pa)))]) [0, 1] (by decide) rfl
    exact W.iret (v := (nI (pa ja))) hx hb hr (fun t ht hW => ⟨⟨(nI (pa ja)), (), rfl, Or.inl ⟨ja, hja, rfl, rfl⟩, by rw [ht]; exact hP9, hD9⟩, hS.F ht⟩) hS.2.2 pm_d_parity_23
  · refine zi_eq (tgt := 22) hx hb pm_d_parity_10 (by decide) (by omega) (fun c_4 => ?_) (fun c_4 => absurd c_4 (by omega))
    refine lv_iconst (v := (-1)) hx hb pm_d_parity_22 (by decide) ?_
    have hP9 := hP.sub (ws' := [(o, .inr (3, [.int (nI 0), .int (nI n), .ref (ad 0), .ref (ad 1), .int (nI kl), .int (nI ki), .int (nI kw), .ref (ad 2), .ref (ad 3), .int (nI bo), .int (nI bt), .ref (ad 4), .ref (ad 5), .ref (ad 6), .ref (ad 7), .ref (ad 8), .int (nI my), .ref (ad 9), .int (nI pg), .ref (ad 10), .int (nI lg), .ref (ad 11), .int (nI ng)])), (ad 0, .inl (cA 0, 4, .inl (nA pa)))]) [0, 1] rfl
    have hD9 := hD.sub (ws' := [(o, .inr (3, [.int (nI 0), .int (nI n), .ref (ad 0), .ref (ad 1), .int (nI kl), .int (nI ki), .int (nI kw), .ref (ad 2), .ref (ad 3), .int (nI bo), .int (nI bt), .ref (ad 4), .ref (ad 5), .ref (ad 6), .ref (ad 7), .ref (ad 8), .int (nI my), .ref (ad 9), .int (nI pg), .ref (ad 10), .int (nI lg), .ref (ad 11), .int (nI ng)])), (ad 0, .inl (cA 0, 4, .inl (nA pa)))]) [0, 1] (by decide) rfl
    exact W.iret (v := (-1)) hx hb hr (fun t ht hW => ⟨⟨(-1), (), rfl, Or.inr ⟨hna, rfl⟩, by rw [ht]; exact hP9, hD9⟩, hS.F ht⟩) hS.2.2 pm_d_parity_23
set_option maxHeartbeats 4000000 in
set_option maxRecDepth 100000 in
/-- phase(a) -/
theorem pm_phase (l : Launch) (dC : Nat → ClassId) (dI : Nat → Nat → Nat) (cA : Nat → ClassId) (sz : Nat) (o : Nat) (ad : Nat → Nat) (n kl ki kw bo bt my pg lg ng : Nat) (ph : Nat → Nat) (a : Int32) (hn : n ≤ 4) : Met l pm_y_phase pm_w_phase ({ frames := 1, cells := 0, slots := 0, locals := 20 }) (va_Pc [.ref o, .int a] (zB (dC, dI) cA [(o, .inr (3, [.int (nI 0), .int (nI n), .ref (ad 0), .ref (ad 1), .int (nI kl), .int (nI ki), .int (nI kw), .ref (ad 2), .ref (ad 3), .int (nI bo), .int (nI bt), .ref (ad 4), .ref (ad 5), .ref (ad 6), .ref (ad 7), .ref (ad 8), .int (nI my), .ref (ad 9), .int (nI pg), .ref (ad 10), .int (nI lg), .ref (ad 11), .int (nI ng)])), (ad 1, .inl (cA 0, 16, .inl (nA ph)))] sz)) (va_Qi (fun (r : Int32) (_ : Unit) => (∃ j, 1 ≤ j ∧ j ≤ 2 ^ n - 1 ∧ a = nI j ∧ r = nI (ph j)) ∨ (¬ zw_pa (2 ^ n - 1) a ∧ r = (-1))) (fun u t => zE (dC, dI) (va_A [(o, .inr (3, [.int (nI 0), .int (nI n), .ref (ad 0), .ref (ad 1), .int (nI kl), .int (nI ki), .int (nI kw), .ref (ad 2), .ref (ad 3), .int (nI bo), .int (nI bt), .ref (ad 4), .ref (ad 5), .ref (ad 6), .ref (ad 7), .ref (ad 8), .int (nI my), .ref (ad 9), .int (nI pg), .ref (ad 10), .int (nI lg), .ref (ad 11), .int (nI ng)])), (ad 1, .inl (cA 0, 16, .inl (nA ph)))] sz) ((fun _ => [(o, .inr (3, [.int (nI 0), .int (nI n), .ref (ad 0), .ref (ad 1), .int (nI kl), .int (nI ki), .int (nI kw), .ref (ad 2), .ref (ad 3), .int (nI bo), .int (nI bt), .ref (ad 4), .ref (ad 5), .ref (ad 6), .ref (ad 7), .ref (ad 8), .int (nI my), .ref (ad 9), .int (nI pg), .ref (ad 10), .int (nI lg), .ref (ad 11), .int (nI ng)])), (ad 1, .inl (cA 0, 16, .inl (nA ph)))]) u) t) (va_A [(o, .inr (3, [.int (nI 0), .int (nI n), .ref (ad 0), .ref (ad 1), .int (nI kl), .int (nI ki), .int (nI kw), .ref (ad 2), .ref (ad 3), .int (nI bo), .int (nI bt), .ref (ad 4), .ref (ad 5), .ref (ad 6), .ref (ad 7), .ref (ad 8), .int (nI my), .ref (ad 9), .int (nI pg), .ref (ad 10), .int (nI lg), .ref (ad 11), .int (nI ng)])), (ad 1, .inl (cA 0, 16, .inl (nA ph)))] sz)) 0 0 (va_A [(o, .inr (3, [.int (nI 0), .int (nI n), .ref (ad 0), .ref (ad 1), .int (nI kl), .int (nI ki), .int (nI kw), .ref (ad 2), .ref (ad 3), .int (nI bo), .int (nI bt), .ref (ad 4), .ref (ad 5), .ref (ad 6), .ref (ad 7), .ref (ad 8), .int (nI my), .ref (ad 9), .int (nI pg), .ref (ad 10), .int (nI lg), .ref (ad 11), .int (nI ng)])), (ad 1, .inl (cA 0, 16, .inl (nA ph)))] sz) := by
  refine Met.ofW (cc := pm_c_phase) (maxL := 2) (ret := (some .int)) (by decide) rfl ?_
  intro p e s m args below meth c s₁ B hml hv
  obtain ⟨rfl, hsz, hP, hK, hD0, hZ⟩ := hv
  have hx := B.exec
  have hb := B.bytes
  have hr := B.returns
  have hts0 := atoms_spec (ws := pm_w_phase) B.pre
  have hts : ∀ w ∈ zz_tbl, w.before _ s = true := fun w h => hts0 w (List.mem_cons_of_mem _ h)
  have hown : s.vm.findClass pm_R = some m.cls := findClass_of_methodNamed B.named
  have hlocks := B.notSynchronized
  subst hsz
  have hD := hD0.self (sz := s.heap.size)
  generalize hAe : va_A [(o, .inr (3, [.int (nI 0), .int (nI n), .ref (ad 0), .ref (ad 1), .int (nI kl), .int (nI ki), .int (nI kw), .ref (ad 2), .ref (ad 3), .int (nI bo), .int (nI bt), .ref (ad 4), .ref (ad 5), .ref (ad 6), .ref (ad 7), .ref (ad 8), .int (nI my), .ref (ad 9), .int (nI pg), .ref (ad 10), .int (nI lg), .ref (ad 11), .int (nI ng)])), (ad 1, .inl (cA 0, 16, .inl (nA ph)))] s.heap.size = A at hD hZ ⊢
  have hA : ∀ q : Nat, s.heap.size ≤ q → A q := fun q h => by rw [← hAe]; exact Or.inr h
  have hS : va_S A s.heap s.heap [] := va_S.rf
  have hP : va_P (dC, dI) zz_cl [(o, .inr (3, [.int (nI 0), .int (nI n), .ref (ad 0), .ref (ad 1), .int (nI kl), .int (nI ki), .int (nI kw), .ref (ad 2), .ref (ad 3), .int (nI bo), .int (nI bt), .ref (ad 4), .ref (ad 5), .ref (ad 6), .ref (ad 7), .ref (ad 8), .int (nI my), .ref (ad 9), .int (nI pg), .ref (ad 10), .int (nI lg), .ref (ad 11), .int (nI ng)])), (ad 1, .inl (cA 0, 16, .inl (nA ph)))] s.heap := hP
  have hl := lv_entry ([.ref o, .int a]) (n := 2) (Nat.le_of_ble_eq_true rfl)
  rw [lg_entry_eq]
  generalize (lg_sl ([.ref o, .int a]) ++ List.replicate (2 - (lg_sl ([.ref o, .int a])).length) Slot.unset).toArray = ls at hl ⊢
  have hl : lv_has ls 2 [(0, .ref o), (1, .int a)] := hl
  have hpow : 0 < 2 ^ n := Nat.two_pow_pos n
  have hpow2 : 2 ^ n ≤ 2 ^ 4 := Nat.pow_le_pow_right (by decide) hn
  refine lv_aload_n hx hb pm_d_phase_0 rfl (lv_at hl 0 rfl) ?_
  refine lv_iconst (v := (nI 0)) hx hb pm_d_phase_1 (by decide) ?_
  refine va_put (D := (dC, dI)) (ci := 3) (v := .int (nI 0)) (ty := .int) (C := pm_R) (T := pm_T) (N := 23) hx hb hts pm_in pm_t pm_ok pm_nm hown hK hP hD hS 0 rfl rfl 0 (by decide) (hts _ zk_pm52) (fun _ h9 => h9) rfl (by decide +kernel) rfl rfl (Nat.le_of_ble_eq_true rfl) pm_d_phase_2 (fun H locs hP hD hS => ?_)
  have hP : va_P (dC, dI) zz_cl [(o, .inr (3, [.int (nI 0), .int (nI n), .ref (ad 0), .ref (ad 1), .int (nI kl), .int (nI ki), .int (nI kw), .ref (ad 2), .ref (ad 3), .int (nI bo), .int (nI bt), .ref (ad 4), .ref (ad 5), .ref (ad 6), .ref (ad 7), .ref (ad 8), .int (nI my), .ref (ad 9), .int (nI pg), .ref (ad 10), .int (nI lg), .ref (ad 11), .int (nI ng)])), (ad 1, .inl (cA 0, 16, .inl (nA ph)))] H := hP
  have hD : va_D A [(o, .inr (3, [.int (nI 0), .int (nI n), .ref (ad 0), .ref (ad 1), .int (nI kl), .int (nI ki), .int (nI kw), .ref (ad 2), .ref (ad 3), .int (nI bo), .int (nI bt), .ref (ad 4), .ref (ad 5), .ref (ad 6), .ref (ad 7), .ref (ad 8), .int (nI my), .ref (ad 9), .int (nI pg), .ref (ad 10), .int (nI lg), .ref (ad 11), .int (nI ng)])), (ad 1, .inl (cA 0, 16, .inl (nA ph)))] := hD
  refine lv_iload_n hx hb pm_d_phase_5 rfl (lv_at hl 1 rfl) ?_
  refine lv_if_le (tgt := 26) hx hb pm_d_phase_6 (by decide) (fun c_1 => ?_) (fun c_1 => ?_)
  · refine lv_iconst (v := (-1)) hx hb pm_d_phase_26 (by decide) ?_
    have hP9 := hP.sub (ws' := [(o, .inr (3, [.int (nI 0), .int (nI n), .ref (ad 0), .ref (ad 1), .int (nI kl), .int (nI ki), .int (nI kw), .ref (ad 2), .ref (ad 3), .int (nI bo), .int (nI bt), .ref (ad 4), .ref (ad 5), .ref (ad 6), .ref (ad 7), .ref (ad 8), .int (nI my), .ref (ad 9), .int (nI pg), .ref (ad 10), .int (nI lg), .ref (ad 11), .int (nI ng)])), (ad 1, .inl (cA 0, 16, .inl (nA ph)))]) [0, 1] rfl
    have hD9 := hD.sub (ws' := [(o, .inr (3, [.int (nI 0), .int (nI n), .ref (ad 0), .ref (ad 1), .int (nI kl), .int (nI ki), .int (nI kw), .ref (ad 2), .ref (ad 3), .int (nI bo), .int (nI bt), .ref (ad 4), .ref (ad 5), .ref (ad 6), .ref (ad 7), .ref (ad 8), .int (nI my), .ref (ad 9), .int (nI pg), .ref (ad 10), .int (nI lg), .ref (ad 11), .int (nI ng)])), (ad 1, .inl (cA 0, 16, .inl (nA ph)))]) [0, 1] (by decide) rfl
    exact W.iret (v := (-1)) hx hb hr (fun t ht hW => ⟨⟨(-1), (), rfl, Or.inr ⟨zw_pa_le (by omega) c_1, rfl⟩, by rw [ht]; exact hP9, hD9⟩, hS.F ht⟩) hS.2.2 pm_d_phase_27
  · refine lv_iload_n hx hb pm_d_phase_9 rfl (lv_at hl 1 rfl) ?_
    refine lv_aload_n hx hb pm_d_phase_10 rfl (lv_at hl 0 rfl) ?_
    refine zq_Vi (n := 0) (As := []) (rest := [.int a]) ⟨hx, hb, hml, hown, hts⟩ (pm_parities l dC dI cA o ad n kl ki kw bo bt my pg lg ng (by omega)) zg_pm79 (by decide +kernel) ⟨rfl, rfl⟩ ⟨Nat.le_of_ble_eq_true rfl, Nat.le_of_ble_eq_true rfl⟩ hK (hP.sub (ws' := [(o, .inr (3, [.int (nI 0), .int (nI n), .ref (ad 0), .ref (ad 1), .int (nI kl), .int (nI ki), .int (nI kw), .ref (ad 2), .ref (ad 3), .int (nI bo), .int (nI bt), .ref (ad 4), .ref (ad 5), .ref (ad 6), .ref (ad 7), .ref (ad 8), .int (nI my), .ref (ad 9), .int (nI pg), .ref (ad 10), .int (nI lg), .ref (ad 11), .int (nI ng)]))]) [0] rfl) 3 0 rfl rfl rfl rfl hl.1 rfl (Nat.le_of_ble_eq_true rfl) pm_d_phase_11 (fun r_2 h_3 => ?_) ⟨Nat.le_of_ble_eq_true rfl, Nat.le_of_ble_eq_true rfl⟩
    subst h_3
    refine lv_icmp_ge (tgt := 26) hx hb pm_d_phase_14 (by decide) (fun c_4 => ?_) (fun c_4 => ?_)
    · refine lv_iconst (v := (-1)) hx hb pm_d_phase_26 (by decide) ?_
      have hP9 := hP.sub (ws' := [(o, .inr (3, [.int (nI 0), .int (nI n), .ref (ad 0), .ref (ad 1), .int (nI kl), .int (nI ki), .int (nI kw), .ref (ad 2), .ref (ad 3), .int (nI bo), .int (nI bt), .ref (ad 4), .ref (ad 5), .ref (ad 6), .ref (ad 7), .ref (ad 8), .int (nI my), .ref (ad 9), .int (nI pg), .ref (ad 10), .int (nI lg), .ref (ad 11), .int (nI ng)])), (ad 1, .inl (cA 0, 16, .inl (nA ph)))]) [0, 1] rfl
      have hD9 := hD.sub (ws' := [(o, .inr (3, [.int (nI 0), .int (nI n), .ref (ad 0), .ref (ad 1), .int (nI kl), .int (nI ki), .int (nI kw), .ref (ad 2), .ref (ad 3), .int (nI bo), .int (nI bt), .ref (ad 4), .ref (ad 5), .ref (ad 6), .ref (ad 7), .ref (ad 8), .int (nI my), .ref (ad 9), .int (nI pg), .ref (ad 10), .int (nI lg), .ref (ad 11), .int (nI ng)])), (ad 1, .inl (cA 0, 16, .inl (nA ph)))]) [0, 1] (by decide) rfl
      exact W.iret (v := (-1)) hx hb hr (fun t ht hW => ⟨⟨(-1), (), rfl, Or.inr ⟨zw_pa_ge (by omega) (by rw [show 2 ^ n - 1 + 1 = 2 ^ n by omega]; exact c_4), rfl⟩, by rw [ht]; exact hP9, hD9⟩, hS.F ht⟩) hS.2.2 pm_d_phase_27
    · obtain ⟨j, hj1, hj2, rfl⟩ := zw_pa_in (K := 2 ^ n - 1) (by omega) c_1 (by rw [show 2 ^ n - 1 + 1 = 2 ^ n by omega]; exact c_4)
      refine lv_aload_n hx hb pm_d_phase_17 rfl (lv_at hl 0 rfl) ?_
      refine va_get (D := (dC, dI)) (ci := 3) (v := .ref (ad 1)) (C := pm_R) (T := pm_T) (N := 23) hx hb hts pm_in hown hK hP 0 rfl rfl 3 (by decide) (hts _ zk_pm13) (fun _ h9 => h9) rfl pm_d_phase_18 ?_
      refine lv_iload_n hx hb pm_d_phase_21 rfl (lv_at hl 1 rfl) ?_
      refine zv_iald hx hb hK hP 1 0 rfl rfl (k := j) (by omega) (by omega) pm_d_phase_22 ?_
      refine lv_goto (tgt := 27) hx hb pm_d_phase_23 (by decide) ?_
      have hP9 := hP.sub (ws' := [(o, .inr (3, [.int (nI 0), .int (nI n), .ref (ad 0), .ref (ad 1), .int (nI kl), .int (nI ki), .int (nI kw), .ref (ad 2), .ref (ad 3), .int (nI bo), .int (nI bt), .ref (ad 4), .ref (ad 5), .ref (ad 6), .ref (ad 7), .ref (ad 8), .int (nI my), .ref (ad 9), .int (nI pg), .ref (ad 10), .int (nI lg), .ref (ad 11), .int (nI ng)])), (ad 1, .inl (cA 0, 16, .inl (nA ph)))]) [0, 1] rfl
      have hD9 := hD.sub (ws' := [(o, .inr (3, [.int (nI 0), .int (nI n), .ref (ad 0), .ref (ad 1), .int (nI kl), .int (nI ki), .int (nI kw), .ref (ad 2), .ref (ad 3), .int (nI bo), .int (nI bt), .ref (ad 4), .ref (ad 5), .ref (ad 6), .ref (ad 7), .ref (ad 8), .int (nI my), .ref (ad 9), .int (nI pg), .ref (ad 10), .int (nI lg), .ref (ad 11), .int (nI ng)])), (ad 1, .inl (cA 0, 16, .inl (nA ph)))]) [0, 1] (by decide) rfl
      exact W.iret (v := (nI (ph j))) hx hb hr (fun t ht hW => ⟨⟨(nI (ph j)), (), rfl, Or.inl ⟨j, hj1, hj2, rfl, rfl⟩, by rw [ht]; exact hP9, hD9⟩, hS.F ht⟩) hS.2.2 pm_d_phase_27
set_option maxHeartbeats 4000000 in
set_option maxRecDepth 100000 in
/-- ones(x) -/
theorem pm_ones (l : Launch) (x : Nat) (hx0 : x < 2 ^ 31) : Met l pm_y_ones pm_w_ones ({ frames := 0, cells := 0, slots := 0, locals := 0 }) (va_Pc [.int (nI x)] (fun _ => True)) (vp_Si (fun r => r = nI (zo x))) 0 0 (fun _ => False) := by
  refine Met.ofW (cc := pm_c_ones) (maxL := 1) (ret := (some .int)) (by decide) rfl ?_
  intro p e s m args below meth c s₁ B hml hv
  obtain ⟨rfl, -⟩ := hv
  have hx := B.exec
  have hb := B.bytes
  have hr := B.returns
  have hts0 := atoms_spec (ws := pm_w_ones) B.pre
  have hts : ∀ w ∈ zz_tbl, w.before _ s = true := fun w h => hts0 w (List.mem_cons_of_mem _ h)
  have hown : s.vm.findClass pm_R = some m.cls := findClass_of_methodNamed B.named
  have hlocks := B.notSynchronized
  have hl := lv_entry ([.int (nI x)]) (n := 1) (Nat.le_of_ble_eq_true rfl)
  rw [lg_entry_eq]
  generalize (lg_sl ([.int (nI x)]) ++ List.replicate (1 - (lg_sl ([.int (nI x)])).length) Slot.unset).toArray = ls at hl ⊢
  have hl : lv_has ls 1 [(0, .int (nI x))] := hl
  have hx1 := Nat.div_le_self x (2 ^ 1)
  have hx2 := Nat.div_le_self x (2 ^ 2)
  have hx3 := Nat.div_le_self x (2 ^ 3)
  refine lv_iload_n hx hb pm_d_ones_0 rfl (lv_at hl 0 rfl) ?_
  refine lv_iconst (v := (nI 1)) hx hb pm_d_ones_1 (by decide) ?_
  refine lv_iand hx hb pm_d_ones_2 ?_
  refine zt_i (zb_m2 (a := x) (by omega)) ?_
  refine lv_iload_n hx hb pm_d_ones_3 rfl (lv_at hl 0 rfl) ?_
  refine lv_iconst (v := (nI 1)) hx hb pm_d_ones_4 (by decide) ?_
  refine lv_ishr hx hb pm_d_ones_5 ?_
  refine zt_i (zb_shr (a := x) (k := 1) (by omega) (by omega)) ?_
  refine lv_iconst (v := (nI 1)) hx hb pm_d_ones_6 (by decide) ?_
  refine lv_iand hx hb pm_d_ones_7 ?_
  refine zt_i (zb_m2 (a := (x / 2 ^ 1)) (by omega)) ?_
  refine lv_iadd hx hb pm_d_ones_8 ?_
  refine zt_i (nI_add (x % 2) ((x / 2 ^ 1) % 2)) ?_
  refine lv_iload_n hx hb pm_d_ones_9 rfl (lv_at hl 0 rfl) ?_
  refine lv_iconst (v := (nI 2)) hx hb pm_d_ones_10 (by decide) ?_
  refine lv_ishr hx hb pm_d_ones_11 ?_
  refine zt_i (zb_shr (a := x) (k := 2) (by omega) (by omega)) ?_
  refine lv_iconst (v := (nI 1)) hx hb pm_d_ones_12 (by decide) ?_
  refine lv_iand hx hb pm_d_ones_13 ?_
  refine zt_i (zb_m2 (a := (x / 2 ^ 2)) (by omega)) ?_
  refine lv_iadd hx hb pm_d_ones_14 ?_
  refine zt_i (nI_add ((x % 2) + ((x / 2 ^ 1) % 2)) ((x / 2 ^ 2) % 2)) ?_
  refine lv_iload_n hx hb pm_d_ones_15 rfl (lv_at hl 0 rfl) ?_
  refine lv_iconst (v := (nI 3)) hx hb pm_d_ones_16 (by decide) ?_
  refine lv_ishr hx hb pm_d_ones_17 ?_
  refine zt_i (zb_shr (a := x) (k := 3) (by omega) (by omega)) ?_
  refine lv_iconst (v := (nI 1)) hx hb pm_d_ones_18 (by decide) ?_
  refine lv_iand hx hb pm_d_ones_19 ?_
  refine zt_i (zb_m2 (a := (x / 2 ^ 3)) (by omega)) ?_
  refine lv_iadd hx hb pm_d_ones_20 ?_
  refine zt_i (nI_add (((x % 2) + ((x / 2 ^ 1) % 2)) + ((x / 2 ^ 2) % 2)) ((x / 2 ^ 3) % 2)) ?_
  exact W.iret (v := (nI ((((x % 2) + ((x / 2 ^ 1) % 2)) + ((x / 2 ^ 2) % 2)) + ((x / 2 ^ 3) % 2)))) hx hb hr (fun t ht hW => ⟨(nI ((((x % 2) + ((x / 2 ^ 1) % 2)) + ((x / 2 ^ 2) % 2)) + ((x / 2 ^ 3) % 2))), rfl, rfl, ht⟩) (fun q h => by cases h) pm_d_ones_21
set_option maxHeartbeats 4000000 in
set_option maxRecDepth 100000 in
/-- function(x) -/
theorem pm_function (l : Launch) (dC : Nat → ClassId) (dI : Nat → Nat → Nat) (cA : Nat → ClassId) (sz : Nat) (o : Nat) (ad : Nat → Nat) (n kl ki kw bo bt my pg lg ng : Nat) (ph : Nat → Nat) (x : Int32) (hn : n ≤ 4) (hph : ∀ j, ph j < 8) : Met l pm_y_function pm_w_function ({ frames := 1, cells := 0, slots := 0, locals := 20 }) (va_Pc [.ref o, .int x] (zB (dC, dI) cA [(o, .inr (3, [.int (nI 0), .int (nI n), .ref (ad 0), .ref (ad 1), .int (nI kl), .int (nI ki), .int (nI kw), .ref (ad 2), .ref (ad 3), .int (nI bo), .int (nI bt), .ref (ad 4), .ref (ad 5), .ref (ad 6), .ref (ad 7), .ref (ad 8), .int (nI my), .ref (ad 9), .int (nI pg), .ref (ad 10), .int (nI lg), .ref (ad 11), .int (nI ng)])), (ad 1, .inl (cA 0, 16, .inl (nA ph)))] sz)) (va_Qi (fun (r : Int32) (_ : Unit) => (∃ x1, x1 < 2 ^ n ∧ x = nI x1 ∧ r = nI (pz_f ph x1 (2 ^ n - 1) % 8)) ∨ (¬ zw_in (2 ^ n) x ∧ r = (-1))) (fun u t => zE (dC, dI) (va_A [(o, .inr (3, [.int (nI 0), .int (nI n), .ref (ad 0), .ref (ad 1), .int (nI kl), .int (nI ki), .int (nI kw), .ref (ad 2), .ref (ad 3), .int (nI bo), .int (nI bt), .ref (ad 4), .ref (ad 5), .ref (ad 6), .ref (ad 7), .ref (ad 8), .int (nI my), .ref (ad 9), .int (nI pg), .ref (ad 10), .int (nI lg), .ref (ad 11), .int (nI ng)])), (ad 1, .inl (cA 0, 16, .inl (nA ph)))] sz) ((fun _ => [(o, .inr (3, [.int (nI 0), .int (nI n), .ref (ad 0), .ref (ad 1), .int (nI kl), .int (nI ki), .int (nI kw), .ref (ad 2), .ref (ad 3), .int (nI bo), .int (nI bt), .ref (ad 4), .ref (ad 5), .ref (ad 6), .ref (ad 7), .ref (ad 8), .int (nI my), .ref (ad 9), .int (nI pg), .ref (ad 10), .int (nI lg), .ref (ad 11), .int (nI ng)])), (ad 1, .inl (cA 0, 16, .inl (nA ph)))]) u) t) (va_A [(o, .inr (3, [.int (nI 0), .int (nI n), .ref (ad 0), .ref (ad 1), .int (nI kl), .int (nI ki), .int (nI kw), .ref (ad 2), .ref (ad 3), .int (nI bo), .int (nI bt), .ref (ad 4), .ref (ad 5), .ref (ad 6), .ref (ad 7), .ref (ad 8), .int (nI my), .ref (ad 9), .int (nI pg), .ref (ad 10), .int (nI lg), .ref (ad 11), .int (nI ng)])), (ad 1, .inl (cA 0, 16, .inl (nA ph)))] sz)) 0 0 (va_A [(o, .inr (3, [.int (nI 0), .int (nI n), .ref (ad 0), .ref (ad 1), .int (nI kl), .int (nI ki), .int (nI kw), .ref (ad 2), .ref (ad 3), .int (nI bo), .int (nI bt), .ref (ad 4), .ref (ad 5), .ref (ad 6), .ref (ad 7), .ref (ad 8), .int (nI my), .ref (ad 9), .int (nI pg), .ref (ad 10), .int (nI lg), .ref (ad 11), .int (nI ng)])), (ad 1, .inl (cA 0, 16, .inl (nA ph)))] sz) := by
  refine Met.ofW (cc := pm_c_function) (maxL := 4) (ret := (some .int)) (by decide) rfl ?_
  intro p e s m args below meth c s₁ B hml hv
  obtain ⟨rfl, hsz, hP, hK, hD0, hZ⟩ := hv
  have hx := B.exec
  have hb := B.bytes
  have hr := B.returns
  have hts0 := atoms_spec (ws := pm_w_function) B.pre
  have hts : ∀ w ∈ zz_tbl, w.before _ s = true := fun w h => hts0 w (List.mem_cons_of_mem _ h)
  have hown : s.vm.findClass pm_R = some m.cls := findClass_of_methodNamed B.named
  have hlocks := B.notSynchronized
  subst hsz
  have hD := hD0.self (sz := s.heap.size)
  generalize hAe : va_A [(o, .inr (3, [.int (nI 0), .int (nI n), .ref (ad 0), .ref (ad 1), .int (nI kl), .int (nI ki), .int (nI kw), .ref (ad 2), .ref (ad 3), .int (nI bo), .int (nI bt), .ref (ad 4), .ref (ad 5), .ref (ad 6), .ref (ad 7), .ref (ad 8), .int (nI my), .ref (ad 9), .int (nI pg), .ref (ad 10), .int (nI lg), .ref (ad 11), .int (nI ng)])), (ad 1, .inl (cA 0, 16, .inl (nA ph)))] s.heap.size = A at hD hZ ⊢
  have hA : ∀ q : Nat, s.heap.size ≤ q → A q := fun q h => by rw [← hAe]; exact Or.inr h
  have hS : va_S A s.heap s.heap [] := va_S.rf
  have hP : va_P (dC, dI) zz_cl [(o, .inr (3, [.int (nI 0), .int (nI n), .ref (ad 0), .ref (ad 1), .int (nI kl), .int (nI ki), .int (nI kw), .ref (ad 2), .ref (ad 3), .int (nI bo), .int (nI bt), .ref (ad 4), .ref (ad 5), .ref (ad 6), .ref (ad 7), .ref (ad 8), .int (nI my), .ref (ad 9), .int (nI pg), .ref (ad 10), .int (nI lg), .ref (ad 11), .int (nI ng)])), (ad 1, .inl (cA 0, 16, .inl (nA ph)))] s.heap := hP
  have hl := lv_entry ([.ref o, .int x]) (n := 4) (Nat.le_of_ble_eq_true rfl)
  rw [lg_entry_eq]
  generalize (lg_sl ([.ref o, .int x]) ++ List.replicate (4 - (lg_sl ([.ref o, .int x])).length) Slot.unset).toArray = ls at hl ⊢
  have hl : lv_has ls 4 [(0, .ref o), (1, .int x)] := hl
  have hpow : 0 < 2 ^ n := Nat.two_pow_pos n
  have hpow2 : 2 ^ n ≤ 2 ^ 4 := Nat.pow_le_pow_right (by decide) hn
  refine lv_aload_n hx hb pm_d_function_0 rfl (lv_at hl 0 rfl) ?_
  refine lv_iconst (v := (nI 0)) hx hb pm_d_function_1 (by decide) ?_
  refine va_put (D := (dC, dI)) (ci := 3) (v := .int (nI 0)) (ty := .int) (C := pm_R) (T := pm_T) (N := 23) hx hb hts pm_in pm_t pm_ok pm_nm hown hK hP hD hS 0 rfl rfl 0 (by decide) (hts _ zk_pm52) (fun _ h9 => h9) rfl (by decide +kernel) rfl rfl (Nat.le_of_ble_eq_true rfl) pm_d_function_2 (fun H locs hP hD hS => ?_)
  have hP : va_P (dC, dI) zz_cl [(o, .inr (3, [.int (nI 0), .int (nI n), .ref (ad 0), .ref (ad 1), .int (nI kl), .int (nI ki), .int (nI kw), .ref (ad 2), .ref (ad 3), .int (nI bo), .int (nI bt), .ref (ad 4), .ref (ad 5), .ref (ad 6), .ref (ad 7), .ref (ad 8), .int (nI my), .ref (ad 9), .int (nI pg), .ref (ad 10), .int (nI lg), .ref (ad 11), .int (nI ng)])), (ad 1, .inl (cA 0, 16, .inl (nA ph)))] H := hP
  have hD : va_D A [(o, .inr (3, [.int (nI 0), .int (nI n), .ref (ad 0), .ref (ad 1), .int (nI kl), .int (nI ki), .int (nI kw), .ref (ad 2), .ref (ad 3), .int (nI bo), .int (nI bt), .ref (ad 4), .ref (ad 5), .ref (ad 6), .ref (ad 7), .ref (ad 8), .int (nI my), .ref (ad 9), .int (nI pg), .ref (ad 10), .int (nI lg), .ref (ad 11), .int (nI ng)])), (ad 1, .inl (cA 0, 16, .inl (nA ph)))] := hD
  refine lv_iload_n hx hb pm_d_function_5 rfl (lv_at hl 1 rfl) ?_
  refine lv_if_lt (tgt := 17) hx hb pm_d_function_6 (by decide) (fun c_1 => ?_) (fun c_1 => ?_)
  · refine lv_iconst (v := (-1)) hx hb pm_d_function_17 (by decide) ?_
    have hP9 := hP.sub (ws' := [(o, .inr (3, [.int (nI 0), .int (nI n), .ref (ad 0), .ref (ad 1), .int (nI kl), .int (nI ki), .int (nI kw), .ref (ad 2), .ref (ad 3), .int (nI bo), .int (nI bt), .ref (ad 4), .ref (ad 5), .ref (ad 6), .ref (ad 7), .ref (ad 8), .int (nI my), .ref (ad 9), .int (nI pg), .ref (ad 10), .int (nI lg), .ref (ad 11), .int (nI ng)])), (ad 1, .inl (cA 0, 16, .inl (nA ph)))]) [0, 1] rfl
    have hD9 := hD.sub (ws' := [(o, .inr (3, [.int (nI 0), .int (nI n), .ref (ad 0), .ref (ad 1), .int (nI kl), .int (nI ki), .int (nI kw), .ref (ad 2), .ref (ad 3), .int (nI bo), .int (nI bt), .ref (ad 4), .ref (ad 5), .ref (ad 6), .ref (ad 7), .ref (ad 8), .int (nI my), .ref (ad 9), .int (nI pg), .ref (ad 10), .int (nI lg), .ref (ad 11), .int (nI ng)])), (ad 1, .inl (cA 0, 16, .inl (nA ph)))]) [0, 1] (by decide) rfl
    exact W.iret (v := (-1)) hx hb hr (fun t ht hW => ⟨⟨(-1), (), rfl, Or.inr ⟨zw_neg (by omega) c_1, rfl⟩, by rw [ht]; exact hP9, hD9⟩, hS.F ht⟩) hS.2.2 pm_d_function_18
  · refine lv_iload_n hx hb pm_d_function_9 rfl (lv_at hl 1 rfl) ?_
    refine lv_aload_n hx hb pm_d_function_10 rfl (lv_at hl 0 rfl) ?_
    refine zq_Vi (n := 0) (As := []) (rest := [.int x]) ⟨hx, hb, hml, hown, hts⟩ (pm_parities l dC dI cA o ad n kl ki kw bo bt my pg lg ng (by omega)) zg_pm79 (by decide +kernel) ⟨rfl, rfl⟩ ⟨Nat.le_of_ble_eq_true rfl, Nat.le_of_ble_eq_true rfl⟩ hK (hP.sub (ws' := [(o, .inr (3, [.int (nI 0), .int (nI n), .ref (ad 0), .ref (ad 1), .int (nI kl), .int (nI ki), .int (nI kw), .ref (ad 2), .ref (ad 3), .int (nI bo), .int (nI bt), .ref (ad 4), .ref (ad 5), .ref (ad 6), .ref (ad 7), .ref (ad 8), .int (nI my), .ref (ad 9), .int (nI pg), .ref (ad 10), .int (nI lg), .ref (ad 11), .int (nI ng)]))]) [0] rfl) 3 0 rfl rfl rfl rfl hl.1 rfl (Nat.le_of_ble_eq_true rfl) pm_d_function_11 (fun r_2 h_3 => ?_) ⟨Nat.le_of_ble_eq_true rfl, Nat.le_of_ble_eq_true rfl⟩
    subst h_3
    refine lv_icmp_lt (tgt := 19) hx hb pm_d_function_14 (by decide) (fun c_4 => ?_) (fun c_4 => ?_)
    · obtain ⟨x1, hx1, rfl⟩ := zw_lt (by omega) c_1 c_4
      refine lv_iconst (v := (nI 0)) hx hb pm_d_function_19 (by decide) ?_
      refine lv_istore_n (lv' := [(2, .int (nI 0)), (0, .ref o), (1, .int (nI x1))]) hx hb pm_d_function_20 rfl hl (by decide) rfl (fun ls hl => ?_)
      refine lv_iconst (v := (nI 1)) hx hb pm_d_function_21 (by decide) ?_
      refine lv_istore_n (lv' := [(3, .int (nI 1)), (2, .int (nI 0)), (0, .ref o), (1, .int (nI x1))]) hx hb pm_d_function_22 rfl hl (by decide) rfl (fun ls hl => ?_)
      refine zl_loop (J := fun k ls H locs => ∃ (i : Nat), k = 2 ^ n - 1 - i ∧ (i ≤ 2 ^ n - 1) ∧ va_P (dC, dI) zz_cl [(o, .inr (3, [.int (nI 0), .int (nI n), .ref (ad 0), .ref (ad 1), .int (nI kl), .int (nI ki), .int (nI kw), .ref (ad 2), .ref (ad 3), .int (nI bo), .int (nI bt), .ref (ad 4), .ref (ad 5), .ref (ad 6), .ref (ad 7), .ref (ad 8), .int (nI my), .ref (ad 9), .int (nI pg), .ref (ad 10), .int (nI lg), .ref (ad 11), .int (nI ng)])), (ad 1, .inl (cA 0, 16, .inl (nA ph)))] H ∧ va_D A [(o, .inr (3, [.int (nI 0), .int (nI n), .ref (ad 0), .ref (ad 1), .int (nI kl), .int (nI ki), .int (nI kw), .ref (ad 2), .ref (ad 3), .int (nI bo), .int (nI bt), .ref (ad 4), .ref (ad 5), .ref (ad 6), .ref (ad 7), .ref (ad 8), .int (nI my), .ref (ad 9), .int (nI pg), .ref (ad 10), .int (nI lg), .ref (ad 11), .int (nI ng)])), (ad 1, .inl (cA 0, 16, .inl (nA ph)))] ∧ va_S A s.heap H locs ∧ lv_has ls 4 [(0, .ref o), (1, .int (nI x1)), (2, .int (nI (pz_f ph x1 i))), (3, .int (nI (i + 1)))]) (fun k23 ls H locs hJ23 ih23 => ?_) (2 ^ n - 1 - 0) ⟨0, rfl, Nat.zero_le _, hP, hD, hS, lv_sub hl [2, 3, 1, 0] rfl⟩
      obtain ⟨i, hk23, hi, hP, hD, hS, hl⟩ := hJ23
      refine lv_iload_n hx hb pm_d_function_23 rfl (lv_at hl 3 rfl) ?_
      refine lv_aload_n hx hb pm_d_function_24 rfl (lv_at hl 0 rfl) ?_
      refine zq_Vi (n := 0) (As := []) (rest := [.int (nI (i + 1))]) ⟨hx, hb, hml, hown, hts⟩ (pm_parities l dC dI cA o ad n kl ki kw bo bt my pg lg ng (by omega)) zg_pm79 (by decide +kernel) ⟨rfl, rfl⟩ ⟨Nat.le_of_ble_eq_true rfl, Nat.le_of_ble_eq_true rfl⟩ hK (hP.sub (ws' := [(o, .inr (3, [.int (nI 0), .int (nI n), .ref (ad 0), .ref (ad 1), .int (nI kl), .int (nI ki), .int (nI kw), .ref (ad 2), .ref (ad 3), .int (nI bo), .int (nI bt), .ref (ad 4), .ref (ad 5), .ref (ad 6), .ref (ad 7), .ref (ad 8), .int (nI my), .ref (ad 9), .int (nI pg), .ref (ad 10), .int (nI lg), .ref (ad 11), .int (nI ng)]))]) [0] rfl) 3 0 rfl rfl rfl rfl hl.1 rfl (Nat.le_of_ble_eq_true rfl) pm_d_function_25 (fun r_5 h_6 => ?_) ⟨Nat.le_of_ble_eq_true rfl, Nat.le_of_ble_eq_true rfl⟩
      subst h_6
      refine zc_ge (tgt := 55) hx hb pm_d_function_28 (by decide) (by omega) (by omega) (fun c_7 => ?_) (fun c_7 => ?_)
      · have hle := zf_le x1 hph i
        refine lv_iload_n hx hb pm_d_function_55 rfl (lv_at hl 2 rfl) ?_
        refine lv_bipush (v := (nI 7)) hx hb pm_d_function_56 (by decide) ?_
        refine lv_iand hx hb pm_d_function_58 ?_
        refine zt_i (zb_m8 (a := (pz_f ph x1 i)) (by omega)) ?_
        have hP9 := hP.sub (ws' := [(o, .inr (3, [.int (nI 0), .int (nI n), .ref (ad 0), .ref (ad 1), .int (nI kl), .int (nI ki), .int (nI kw), .ref (ad 2), .ref (ad 3), .int (nI bo), .int (nI bt), .ref (ad 4), .ref (ad 5), .ref (ad 6), .ref (ad 7), .ref (ad 8), .int (nI my), .ref (ad 9), .int (nI pg), .ref (ad 10), .int (nI lg), .ref (ad 11), .int (nI ng)])), (ad 1, .inl (cA 0, 16, .inl (nA ph)))]) [0, 1] rfl
        have hD9 := hD.sub (ws' := [(o, .inr (3, [.int (nI 0), .int (nI n), .ref (ad 0), .ref (ad 1), .int (nI kl), .int (nI ki), .int (nI kw), .ref (ad 2), .ref (ad 3), .int (nI bo), .int (nI bt), .ref (ad 4), .ref (ad 5), .ref (ad 6), .ref (ad 7), .ref (ad 8), .int (nI my), .ref (ad 9), .int (nI pg), .ref (ad 10), .int (nI lg), .ref (ad 11), .int (nI ng)])), (ad 1, .inl (cA 0, 16, .inl (nA ph)))]) [0, 1] (by decide) rfl
        exact W.iret (v := (nI ((pz_f ph x1 i) % 8))) hx hb hr (fun t ht hW => ⟨⟨(nI ((pz_f ph x1 i) % 8)), (), rfl, Or.inl ⟨x1, hx1, rfl, by rw [show i = 2 ^ n - 1 by omega]⟩, by rw [ht]; exact hP9, hD9⟩, hS.F ht⟩) hS.2.2 pm_d_function_59
      · refine lv_iload_n hx hb pm_d_function_31 rfl (lv_at hl 2 rfl) ?_
        refine lv_iload_n hx hb pm_d_function_32 rfl (lv_at hl 3 rfl) ?_
        refine lv_iload_n hx hb pm_d_function_33 rfl (lv_at hl 1 rfl) ?_
        refine lv_iand hx hb pm_d_function_34 ?_
        refine zt_i (zb_and (i + 1) x1) ?_
        refine zq_Si (n := 1) (As := [.int (nI ((i + 1) &&& x1))]) (rest := [.int (nI (pz_f ph x1 i))]) ⟨hx, hb, hml, hown, hts⟩ (pm_ones l ((i + 1) &&& x1) (Nat.lt_of_le_of_lt Nat.and_le_left (by omega))) zg_pm83 (by decide +kernel) ⟨rfl, rfl⟩ ⟨Nat.le_of_ble_eq_true rfl, Nat.le_of_ble_eq_true rfl⟩ rfl hl.1 rfl (Nat.le_of_ble_eq_true rfl) pm_d_function_35 (fun r_8 h_9 => ?_) ⟨Nat.le_of_ble_eq_true rfl, Nat.le_of_ble_eq_true rfl⟩
        subst h_9
        have hpop := zo_lt ((i + 1) &&& x1)
        refine lv_iconst (v := (nI 2)) hx hb pm_d_function_38 (by decide) ?_
        refine lv_irem hx hb pm_d_function_39 (by decide) ?_
        refine zt_i (pk_rem (a := (zo ((i + 1) &&& x1))) (d := 2) (by omega) (by decide) (by decide)) ?_
        refine lv_aload_n hx hb pm_d_function_40 rfl (lv_at hl 0 rfl) ?_
        refine va_get (D := (dC, dI)) (ci := 3) (v := .ref (ad 1)) (C := pm_R) (T := pm_T) (N := 23) hx hb hts pm_in hown hK hP 0 rfl rfl 3 (by decide) (hts _ zk_pm13) (fun _ h9 => h9) rfl pm_d_function_41 ?_
        refine lv_iload_n hx hb pm_d_function_44 rfl (lv_at hl 3 rfl) ?_
        refine zv_iald hx hb hK hP 1 0 rfl rfl (k := (i + 1)) (by omega) (by omega) pm_d_function_45 ?_
        refine lv_imul hx hb pm_d_function_46 ?_
        refine zt_i (pk_mul ((zo ((i + 1) &&& x1)) % 2) (ph (i + 1))) ?_
        refine lv_iadd hx hb pm_d_function_47 ?_
        refine zt_i (nI_add (pz_f ph x1 i) (((zo ((i + 1) &&& x1)) % 2) * (ph (i + 1)))) ?_
        refine lv_istore_n (lv' := [(2, .int (nI (pz_f ph x1 (i + 1)))), (0, .ref o), (1, .int (nI x1)), (3, .int (nI (i + 1)))]) hx hb pm_d_function_48 rfl hl (by decide) rfl (fun ls hl => ?_)
        refine lv_iinc (v := (nI ((i + 1) + 1))) (lv' := [(3, .int (nI ((i + 1) + 1))), (2, .int (nI (pz_f ph x1 (i + 1)))), (0, .ref o), (1, .int (nI x1))]) hx hb pm_d_function_49 hl (k := 3) rfl (nI_1 (i + 1)) (by decide) rfl (fun ls hl => ?_)
        refine lv_goto (tgt := 23) hx hb pm_d_function_52 (by decide) ?_
        exact ih23 _ _ _ _ (by omega) ⟨i + 1, rfl, by omega, hP, hD, hS, lv_sub hl [2, 3, 1, 0] rfl⟩
    · refine lv_iconst (v := (-1)) hx hb pm_d_function_17 (by decide) ?_
      have hP9 := hP.sub (ws' := [(o, .inr (3, [.int (nI 0), .int (nI n), .ref (ad 0), .ref (ad 1), .int (nI kl), .int (nI ki), .int (nI kw), .ref (ad 2), .ref (ad 3), .int (nI bo), .int (nI bt), .ref (ad 4), .ref (ad 5), .ref (ad 6), .ref (ad 7), .ref (ad 8), .int (nI my), .ref (ad 9), .int (nI pg), .ref (ad 10), .int (nI lg), .ref (ad 11), .int (nI ng)])), (ad 1, .inl (cA 0, 16, .inl (nA ph)))]) [0, 1] rfl
      have hD9 := hD.sub (ws' := [(o, .inr (3, [.int (nI 0), .int (nI n), .ref (ad 0), .ref (ad 1), .int (nI kl), .int (nI ki), .int (nI kw), .ref (ad 2), .ref (ad 3), .int (nI bo), .int (nI bt), .ref (ad 4), .ref (ad 5), .ref (ad 6), .ref (ad 7), .ref (ad 8), .int (nI my), .ref (ad 9), .int (nI pg), .ref (ad 10), .int (nI lg), .ref (ad 11), .int (nI ng)])), (ad 1, .inl (cA 0, 16, .inl (nA ph)))]) [0, 1] (by decide) rfl
      exact W.iret (v := (-1)) hx hb hr (fun t ht hW => ⟨⟨(-1), (), rfl, Or.inr ⟨fun h => c_4 (by obtain ⟨j, h1, rfl⟩ := h; exact nI_lt h1 (by omega)), rfl⟩, by rw [ht]; exact hP9, hD9⟩, hS.F ht⟩) hS.2.2 pm_d_function_18
