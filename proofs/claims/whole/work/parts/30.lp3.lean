set_option maxHeartbeats 4000000 in
set_option maxRecDepth 100000 in
/-- chooseFours(fours) -/
theorem lp_chooseFours (l : Launch) (dC : Nat → ClassId) (dI : Nat → Nat → Nat) (cA : Nat → ClassId) (sz : Nat) (o b1 t1 g1 n od fi : Nat) (tr : Nat → Nat) (rr : Nat → Nat) (M : Nat → Nat → Nat) (hn : n ≤ 4) (htr : ∀ j, tr j < 8) (hT : zf_tab tr (2 ^ n - 1) M 1) : Met l lp_y_chooseFours lp_w_chooseFours ({ frames := 1, cells := 0, slots := 0, locals := 21 }) (va_Pc [.ref o, .int (nI (pz_fx tr (2 ^ n - 1)))] (zB (dC, dI) cA ([(o, .inr (0, [.ref b1, .int (nI od), .int (nI fi), .ref t1, .ref g1, .int (nI (2 ^ n - 1))])), (t1, .inl (cA 0, 16, .inl (nA tr))), (g1, .inl (cA 4, 17, .inr (.inr (.inr (.inr (zg_o rr))))))] ++ zg_w cA rr M) sz)) (va_Qv (fun (u : Nat → Nat) => (∀ j, u j < 8) ∧ ∃ lf, pz_gi tr u (2 ^ n - 1) (pz_fx tr (2 ^ n - 1)) (2 ^ n - 1 + 1) lf) (fun u t => zE (dC, dI) (va_A ([(o, .inr (0, [.ref b1, .int (nI od), .int (nI fi), .ref t1, .ref g1, .int (nI (2 ^ n - 1))])), (t1, .inl (cA 0, 16, .inl (nA tr))), (g1, .inl (cA 4, 17, .inr (.inr (.inr (.inr (zg_o rr))))))] ++ zg_w cA rr M) sz) ((fun (u : Nat → Nat) => ([(o, .inr (0, [.ref b1, .int (nI od), .int (nI fi), .ref t1, .ref g1, .int (nI (2 ^ n - 1))])), (t1, .inl (cA 0, 16, .inl (nA u))), (g1, .inl (cA 4, 17, .inr (.inr (.inr (.inr (zg_o rr))))))] ++ zg_w cA rr M)) u) t) (va_A ([(o, .inr (0, [.ref b1, .int (nI od), .int (nI fi), .ref t1, .ref g1, .int (nI (2 ^ n - 1))])), (t1, .inl (cA 0, 16, .inl (nA tr))), (g1, .inl (cA 4, 17, .inr (.inr (.inr (.inr (zg_o rr))))))] ++ zg_w cA rr M) sz)) 0 0 (va_A ([(o, .inr (0, [.ref b1, .int (nI od), .int (nI fi), .ref t1, .ref g1, .int (nI (2 ^ n - 1))])), (t1, .inl (cA 0, 16, .inl (nA tr))), (g1, .inl (cA 4, 17, .inr (.inr (.inr (.inr (zg_o rr))))))] ++ zg_w cA rr M) sz) := by
  refine Met.ofW (cc := lp_c_chooseFours) (maxL := 5) (ret := (none : Option Jvm.ClassFile.FieldType)) (by decide) rfl ?_
  intro p e s m args below meth c s₁ B hml hv
  obtain ⟨rfl, hsz, hP, hK, hD0, hZ⟩ := hv
  have hx := B.exec
  have hb := B.bytes
  have hr := B.returns
  have hts0 := atoms_spec (ws := lp_w_chooseFours) B.pre
  have hts : ∀ w ∈ zz_tbl, w.before _ s = true := fun w h => hts0 w (List.mem_cons_of_mem _ h)
  have hown : s.vm.findClass lp_R = some m.cls := findClass_of_methodNamed B.named
  have hlocks := B.notSynchronized
  subst hsz
  have hD := hD0.self (sz := s.heap.size)
  generalize hAe : va_A ([(o, .inr (0, [.ref b1, .int (nI od), .int (nI fi), .ref t1, .ref g1, .int (nI (2 ^ n - 1))])), (t1, .inl (cA 0, 16, .inl (nA tr))), (g1, .inl (cA 4, 17, .inr (.inr (.inr (.inr (zg_o rr))))))] ++ zg_w cA rr M) s.heap.size = A at hD hZ ⊢
  have hA : ∀ q : Nat, s.heap.size ≤ q → A q := fun q h => by rw [← hAe]; exact Or.inr h
  have hS : va_S A s.heap s.heap [] := va_S.rf
  have hP : va_P (dC, dI) zz_cl ([(o, .inr (0, [.ref b1, .int (nI od), .int (nI fi), .ref t1, .ref g1, .int (nI (2 ^ n - 1))])), (t1, .inl (cA 0, 16, .inl (nA tr))), (g1, .inl (cA 4, 17, .inr (.inr (.inr (.inr (zg_o rr))))))] ++ zg_w cA rr M) s.heap := hP
  have hl := lv_entry ([.ref o, .int (nI (pz_fx tr (2 ^ n - 1)))]) (n := 5) (Nat.le_of_ble_eq_true rfl)
  rw [lg_entry_eq]
  generalize (lg_sl ([.ref o, .int (nI (pz_fx tr (2 ^ n - 1)))]) ++ List.replicate (5 - (lg_sl ([.ref o, .int (nI (pz_fx tr (2 ^ n - 1)))])).length) Slot.unset).toArray = ls at hl ⊢
  have hl : lv_has ls 5 [(0, .ref o), (1, .int (nI (pz_fx tr (2 ^ n - 1))))] := hl
  have hpow : 0 < 2 ^ n := Nat.two_pow_pos n
  have hpow2 : 2 ^ n ≤ 2 ^ 4 := Nat.pow_le_pow_right (by decide) hn
  refine lv_iload_n hx hb lp_d_chooseFours_0 rfl (lv_at hl 1 rfl) ?_
  refine lv_istore_n (lv' := [(2, .int (nI (pz_fx tr (2 ^ n - 1)))), (0, .ref o), (1, .int (nI (pz_fx tr (2 ^ n - 1))))]) hx hb lp_d_chooseFours_1 rfl hl (by decide) rfl (fun ls hl => ?_)
  refine lv_iconst (v := (nI 1)) hx hb lp_d_chooseFours_2 (by decide) ?_
  refine lv_istore_n (lv' := [(3, .int (nI 1)), (2, .int (nI (pz_fx tr (2 ^ n - 1)))), (0, .ref o), (1, .int (nI (pz_fx tr (2 ^ n - 1))))]) hx hb lp_d_chooseFours_3 rfl hl (by decide) rfl (fun ls hl => ?_)
  refine zl_loop (J := fun k ls H locs => ∃ (i : Nat) (tc : Nat → Nat) (lf : Nat), k = 2 ^ n - 1 - i ∧ (i ≤ 2 ^ n - 1) ∧ (lf < 2 ^ n) ∧ (∀ j, tc j < 8) ∧ (pz_gi tr tc (2 ^ n - 1) (pz_fx tr (2 ^ n - 1)) (i + 1) lf) ∧ va_P (dC, dI) zz_cl ([(o, .inr (0, [.ref b1, .int (nI od), .int (nI fi), .ref t1, .ref g1, .int (nI (2 ^ n - 1))])), (t1, .inl (cA 0, 16, .inl (nA tc))), (g1, .inl (cA 4, 17, .inr (.inr (.inr (.inr (zg_o rr))))))] ++ zg_w cA rr M) H ∧ va_D A ([(o, .inr (0, [.ref b1, .int (nI od), .int (nI fi), .ref t1, .ref g1, .int (nI (2 ^ n - 1))])), (t1, .inl (cA 0, 16, .inl (nA tc))), (g1, .inl (cA 4, 17, .inr (.inr (.inr (.inr (zg_o rr))))))] ++ zg_w cA rr M) ∧ va_S A s.heap H locs ∧ lv_has ls 5 [(0, .ref o), (2, .int (nI lf)), (3, .int (nI (i + 1)))]) (fun k4 ls H locs hJ4 ih4 => ?_) (2 ^ n - 1 - 0) ⟨0, tr, pz_fx tr (2 ^ n - 1), rfl, Nat.zero_le _, pz_fx_lt tr n _ (by omega), htr, pz_gi_start (by omega) (fun q _ _ => htr q), hP, hD, hS, lv_sub hl [2, 1, 0] rfl⟩
  obtain ⟨i, tc, lf, hk4, hi, hlf, htc, hgi, hP, hD, hS, hl⟩ := hJ4
  refine lv_iload_n hx hb lp_d_chooseFours_4 rfl (lv_at hl 2 rfl) ?_
  refine lv_aload_n hx hb lp_d_chooseFours_5 rfl (lv_at hl 0 rfl) ?_
  refine va_get (D := (dC, dI)) (ci := 0) (v := .int (nI (2 ^ n - 1))) (C := lp_R) (T := lp_T) (N := 6) hx hb hts lp_in hown hK hP 0 rfl rfl 5 (by decide) (hts _ zk_lp26) (fun _ h9 => h9) rfl lp_d_chooseFours_6 ?_
  refine zc_gt (tgt := 80) hx hb lp_d_chooseFours_9 (by decide) (by omega) (by omega) (fun c_1 => ?_) (fun c_1 => ?_)
  · have hP9 := hP.sub (ws' := ([(o, .inr (0, [.ref b1, .int (nI od), .int (nI fi), .ref t1, .ref g1, .int (nI (2 ^ n - 1))])), (t1, .inl (cA 0, 16, .inl (nA tc))), (g1, .inl (cA 4, 17, .inr (.inr (.inr (.inr (zg_o rr))))))] ++ zg_w cA rr M)) [0, 1, 2, 3, 4, 5, 6, 7, 8, 9, 10, 11, 12, 13, 14, 15, 16, 17, 18, 19] rfl
    have hD9 := hD.sub (ws' := ([(o, .inr (0, [.ref b1, .int (nI od), .int (nI fi), .ref t1, .ref g1, .int (nI (2 ^ n - 1))])), (t1, .inl (cA 0, 16, .inl (nA tc))), (g1, .inl (cA 4, 17, .inr (.inr (.inr (.inr (zg_o rr))))))] ++ zg_w cA rr M)) [0, 1, 2, 3, 4, 5, 6, 7, 8, 9, 10, 11, 12, 13, 14, 15, 16, 17, 18, 19] (by decide) rfl
    exact W.vret hx hb hr (fun t ht hW => ⟨⟨tc, rfl, ⟨htc, lf, by rw [show i + 1 = 2 ^ n - 1 + 1 by omega] at hgi; exact hgi⟩, by rw [ht]; exact hP9, hD9⟩, hS.F ht⟩) hS.2.2 lp_d_chooseFours_80
  · refine lv_aload_n hx hb lp_d_chooseFours_12 rfl (lv_at hl 0 rfl) ?_
    refine va_get (D := (dC, dI)) (ci := 0) (v := .ref t1) (C := lp_R) (T := lp_T) (N := 6) hx hb hts lp_in hown hK hP 0 rfl rfl 3 (by decide) (hts _ zk_lp15) (fun _ h9 => h9) rfl lp_d_chooseFours_13 ?_
    refine lv_iload_n hx hb lp_d_chooseFours_16 rfl (lv_at hl 2 rfl) ?_
    refine zv_iald hx hb hK hP 1 0 rfl rfl (k := (i + 1)) (by omega) (by omega) lp_d_chooseFours_17 ?_
    have h8 := htc (i + 1)
    have m1 := zf_M_le hT (q := i + 1 + 1) (s := lf) (by omega) (by omega) (by omega)
    have m2 := zf_M_le hT (q := i + 1) (s := lf) (by omega) (by omega) (by omega)
    have m3 := zf_c_le tc (i + 1)
    have hch := zf_choose hT hgi (by omega) (by omega)
    refine lv_iconst (v := (nI 3)) hx hb lp_d_chooseFours_18 (by decide) ?_
    refine lv_iand hx hb lp_d_chooseFours_19 ?_
    refine zt_i (zb_m4 (a := (tc (i + 1))) (by omega)) ?_
    refine lv_istore (lv' := [(4, .int (nI ((tc (i + 1)) % 4))), (0, .ref o), (2, .int (nI lf)), (3, .int (nI (i + 1)))]) hx hb lp_d_chooseFours_20 hl (by decide) rfl (fun ls hl => ?_)
    refine lv_aload_n hx hb lp_d_chooseFours_22 rfl (lv_at hl 1 rfl) ?_
    refine va_get (D := (dC, dI)) (ci := 0) (v := .ref g1) (C := lp_R) (T := lp_T) (N := 6) hx hb hts lp_in hown hK hP 0 rfl rfl 4 (by decide) (hts _ zk_lp20) (fun _ h9 => h9) rfl lp_d_chooseFours_23 ?_
    refine lv_iload_n hx hb lp_d_chooseFours_26 rfl (lv_at hl 3 rfl) ?_
    refine lv_iconst (v := (nI 1)) hx hb lp_d_chooseFours_27 (by decide) ?_
    refine lv_iadd hx hb lp_d_chooseFours_28 ?_
    refine zt_i (nI_add (i + 1) 1) ?_
    refine zg_aald (i := ((i + 1) + 1)) hx hb hK hP 2 rfl (by omega) lp_d_chooseFours_29 ?_
    refine lv_iload_n hx hb lp_d_chooseFours_30 rfl (lv_at hl 2 rfl) ?_
    refine zg_iald (i := ((i + 1) + 1)) (k := lf) hx hb hK hP (by omega) (by omega) lp_d_chooseFours_31 ?_
    refine lv_aload_n hx hb lp_d_chooseFours_32 rfl (lv_at hl 1 rfl) ?_
    refine lv_iload_n hx hb lp_d_chooseFours_33 rfl (lv_at hl 3 rfl) ?_
    refine zq_Vi (n := 1) (As := [.int (nI (i + 1))]) (rest := [.int (nI (M ((i + 1) + 1) lf))]) ⟨hx, hb, hml, hown, hts⟩ (lp_cost l dC dI cA o b1 t1 g1 n od fi tc (i + 1) (by omega) htc) zg_lp84 (by decide +kernel) ⟨rfl, rfl⟩ ⟨Nat.le_of_ble_eq_true rfl, Nat.le_of_ble_eq_true rfl⟩ hK (hP.sub (ws' := [(o, .inr (0, [.ref b1, .int (nI od), .int (nI fi), .ref t1, .ref g1, .int (nI (2 ^ n - 1))])), (t1, .inl (cA 0, 16, .inl (nA tc)))]) [0, 1] rfl) 0 0 rfl rfl rfl rfl hl.1 rfl (Nat.le_of_ble_eq_true rfl) lp_d_chooseFours_34 (fun r_2 h_3 => ?_) ⟨Nat.le_of_ble_eq_true rfl, Nat.le_of_ble_eq_true rfl⟩
    subst h_3
    refine lv_iadd hx hb lp_d_chooseFours_37 ?_
    refine zt_i (nI_add (M ((i + 1) + 1) lf) (pz_c tc (i + 1))) ?_
    refine lv_aload_n hx hb lp_d_chooseFours_38 rfl (lv_at hl 1 rfl) ?_
    refine va_get (D := (dC, dI)) (ci := 0) (v := .ref g1) (C := lp_R) (T := lp_T) (N := 6) hx hb hts lp_in hown hK hP 0 rfl rfl 4 (by decide) (hts _ zk_lp20) (fun _ h9 => h9) rfl lp_d_chooseFours_39 ?_
    refine lv_iload_n hx hb lp_d_chooseFours_42 rfl (lv_at hl 3 rfl) ?_
    refine zg_aald (i := (i + 1)) hx hb hK hP 2 rfl (by omega) lp_d_chooseFours_43 ?_
    refine lv_iload_n hx hb lp_d_chooseFours_44 rfl (lv_at hl 2 rfl) ?_
    refine zg_iald (i := (i + 1)) (k := lf) hx hb hK hP (by omega) (by omega) lp_d_chooseFours_45 ?_
    refine zc_ne (tgt := 60) hx hb lp_d_chooseFours_46 (by decide) (by omega) (by omega) (fun c_4 => ?_) (fun c_4 => ?_)
    · refine lv_aload_n hx hb lp_d_chooseFours_60 rfl (lv_at hl 1 rfl) ?_
      refine va_get (D := (dC, dI)) (ci := 0) (v := .ref t1) (C := lp_R) (T := lp_T) (N := 6) hx hb hts lp_in hown hK hP 0 rfl rfl 3 (by decide) (hts _ zk_lp15) (fun _ h9 => h9) rfl lp_d_chooseFours_61 ?_
      refine lv_iload_n hx hb lp_d_chooseFours_64 rfl (lv_at hl 3 rfl) ?_
      refine lv_iload hx hb lp_d_chooseFours_65 (lv_at hl 0 rfl) ?_
      refine lv_iconst (v := (nI 4)) hx hb lp_d_chooseFours_67 (by decide) ?_
      refine lv_iadd hx hb lp_d_chooseFours_68 ?_
      refine zt_i (nI_add ((tc (i + 1)) % 4) 4) ?_
      refine zv_iast hx hb hK hP hD hS 1 0 rfl rfl (k := (i + 1)) (v := (((tc (i + 1)) % 4) + 4)) (by omega) (by omega) lp_d_chooseFours_69 (fun H locs hP hD hS => ?_)
      have hP : va_P (dC, dI) zz_cl ([(o, .inr (0, [.ref b1, .int (nI od), .int (nI fi), .ref t1, .ref g1, .int (nI (2 ^ n - 1))])), (t1, .inl (cA 0, 16, .inl (nA (va_up tc (i + 1) (((tc (i + 1)) % 4) + 4))))), (g1, .inl (cA 4, 17, .inr (.inr (.inr (.inr (zg_o rr))))))] ++ zg_w cA rr M) H := hP
      have hD : va_D A ([(o, .inr (0, [.ref b1, .int (nI od), .int (nI fi), .ref t1, .ref g1, .int (nI (2 ^ n - 1))])), (t1, .inl (cA 0, 16, .inl (nA (va_up tc (i + 1) (((tc (i + 1)) % 4) + 4))))), (g1, .inl (cA 4, 17, .inr (.inr (.inr (.inr (zg_o rr))))))] ++ zg_w cA rr M) := hD
      refine lv_iload_n hx hb lp_d_chooseFours_70 rfl (lv_at hl 2 rfl) ?_
      refine lv_iload_n hx hb lp_d_chooseFours_71 rfl (lv_at hl 3 rfl) ?_
      refine lv_ixor hx hb lp_d_chooseFours_72 ?_
      refine zt_i (zb_xor lf (i + 1)) ?_
      refine lv_istore_n (lv' := [(2, .int (nI (lf ^^^ (i + 1)))), (4, .int (nI ((tc (i + 1)) % 4))), (0, .ref o), (3, .int (nI (i + 1)))]) hx hb lp_d_chooseFours_73 rfl hl (by decide) rfl (fun ls hl => ?_)
      refine lv_iinc (v := (nI ((i + 1) + 1))) (lv' := [(3, .int (nI ((i + 1) + 1))), (2, .int (nI (lf ^^^ (i + 1)))), (4, .int (nI ((tc (i + 1)) % 4))), (0, .ref o)]) hx hb lp_d_chooseFours_74 hl (k := 3) rfl (nI_1 (i + 1)) (by decide) rfl (fun ls hl => ?_)
      refine lv_goto (tgt := 4) hx hb lp_d_chooseFours_77 (by decide) ?_
      exact ih4 _ _ _ _ (by omega) ⟨i + 1, _, _, rfl, by omega, Nat.xor_lt_two_pow hlf (by omega), zf_up8 htc (by omega), hch.2 c_4, hP, hD, hS, lv_sub hl [3, 1, 0] rfl⟩
    · refine lv_aload_n hx hb lp_d_chooseFours_49 rfl (lv_at hl 1 rfl) ?_
      refine va_get (D := (dC, dI)) (ci := 0) (v := .ref t1) (C := lp_R) (T := lp_T) (N := 6) hx hb hts lp_in hown hK hP 0 rfl rfl 3 (by decide) (hts _ zk_lp15) (fun _ h9 => h9) rfl lp_d_chooseFours_50 ?_
      refine lv_iload_n hx hb lp_d_chooseFours_53 rfl (lv_at hl 3 rfl) ?_
      refine lv_iload hx hb lp_d_chooseFours_54 (lv_at hl 0 rfl) ?_
      refine zv_iast hx hb hK hP hD hS 1 0 rfl rfl (k := (i + 1)) (v := ((tc (i + 1)) % 4)) (by omega) (by omega) lp_d_chooseFours_56 (fun H locs hP hD hS => ?_)
      have hP : va_P (dC, dI) zz_cl ([(o, .inr (0, [.ref b1, .int (nI od), .int (nI fi), .ref t1, .ref g1, .int (nI (2 ^ n - 1))])), (t1, .inl (cA 0, 16, .inl (nA (va_up tc (i + 1) ((tc (i + 1)) % 4))))), (g1, .inl (cA 4, 17, .inr (.inr (.inr (.inr (zg_o rr))))))] ++ zg_w cA rr M) H := hP
      have hD : va_D A ([(o, .inr (0, [.ref b1, .int (nI od), .int (nI fi), .ref t1, .ref g1, .int (nI (2 ^ n - 1))])), (t1, .inl (cA 0, 16, .inl (nA (va_up tc (i + 1) ((tc (i + 1)) % 4))))), (g1, .inl (cA 4, 17, .inr (.inr (.inr (.inr (zg_o rr))))))] ++ zg_w cA rr M) := hD
      refine lv_goto (tgt := 74) hx hb lp_d_chooseFours_57 (by decide) ?_
      refine lv_iinc (v := (nI ((i + 1) + 1))) (lv' := [(3, .int (nI ((i + 1) + 1))), (4, .int (nI ((tc (i + 1)) % 4))), (0, .ref o), (2, .int (nI lf))]) hx hb lp_d_chooseFours_74 hl (k := 3) rfl (nI_1 (i + 1)) (by decide) rfl (fun ls hl => ?_)
      refine lv_goto (tgt := 4) hx hb lp_d_chooseFours_77 (by decide) ?_
      exact ih4 _ _ _ _ (by omega) ⟨i + 1, _, _, rfl, by omega, hlf, zf_up8 htc (by omega), hch.1 c_4, hP, hD, hS, lv_sub hl [2, 3, 0] rfl⟩
set_option maxHeartbeats 4000000 in
set_option maxRecDepth 100000 in
/-- shiftTried(sh) -/
theorem lp_shiftTried (l : Launch) (dC : Nat → ClassId) (dI : Nat → Nat → Nat) (cA : Nat → ClassId) (sz : Nat) (o b1 t1 g1 n od fi : Nat) (tr : Nat → Nat) (sh : Nat) (hn : n ≤ 4) (htr : ∀ j, tr j < 8) (hsh : sh < 6) : Met l lp_y_shiftTried lp_w_shiftTried ({ frames := 0, cells := 0, slots := 0, locals := 0 }) (va_Pc [.ref o, .int (nI sh)] (zB (dC, dI) cA [(o, .inr (0, [.ref b1, .int (nI od), .int (nI fi), .ref t1, .ref g1, .int (nI (2 ^ n - 1))])), (t1, .inl (cA 0, 16, .inl (nA tr)))] sz)) (va_Qv (fun (u : Nat → Nat) => u = zf_shift (zs_set sh) (zs_size sh) (2 ^ n - 1) tr) (fun u t => zE (dC, dI) (va_A [(o, .inr (0, [.ref b1, .int (nI od), .int (nI fi), .ref t1, .ref g1, .int (nI (2 ^ n - 1))])), (t1, .inl (cA 0, 16, .inl (nA tr)))] sz) ((fun (u : Nat → Nat) => [(o, .inr (0, [.ref b1, .int (nI od), .int (nI fi), .ref t1, .ref g1, .int (nI (2 ^ n - 1))])), (t1, .inl (cA 0, 16, .inl (nA u)))]) u) t) (va_A [(o, .inr (0, [.ref b1, .int (nI od), .int (nI fi), .ref t1, .ref g1, .int (nI (2 ^ n - 1))])), (t1, .inl (cA 0, 16, .inl (nA tr)))] sz)) 0 0 (va_A [(o, .inr (0, [.ref b1, .int (nI od), .int (nI fi), .ref t1, .ref g1, .int (nI (2 ^ n - 1))])), (t1, .inl (cA 0, 16, .inl (nA tr)))] sz) := by
  refine Met.ofW (cc := lp_c_shiftTried) (maxL := 4) (ret := (none : Option Jvm.ClassFile.FieldType)) (by decide) rfl ?_
  intro p e s m args below meth c s₁ B hml hv
  obtain ⟨rfl, hsz, hP, hK, hD0, hZ⟩ := hv
  have hx := B.exec
  have hb := B.bytes
  have hr := B.returns
  have hts0 := atoms_spec (ws := lp_w_shiftTried) B.pre
  have hts : ∀ w ∈ zz_tbl, w.before _ s = true := fun w h => hts0 w (List.mem_cons_of_mem _ h)
  have hown : s.vm.findClass lp_R = some m.cls := findClass_of_methodNamed B.named
  have hlocks := B.notSynchronized
  subst hsz
  have hD := hD0.self (sz := s.heap.size)
  generalize hAe : va_A [(o, .inr (0, [.ref b1, .int (nI od), .int (nI fi), .ref t1, .ref g1, .int (nI (2 ^ n - 1))])), (t1, .inl (cA 0, 16, .inl (nA tr)))] s.heap.size = A at hD hZ ⊢
  have hA : ∀ q : Nat, s.heap.size ≤ q → A q := fun q h => by rw [← hAe]; exact Or.inr h
  have hS : va_S A s.heap s.heap [] := va_S.rf
  have hP : va_P (dC, dI) zz_cl [(o, .inr (0, [.ref b1, .int (nI od), .int (nI fi), .ref t1, .ref g1, .int (nI (2 ^ n - 1))])), (t1, .inl (cA 0, 16, .inl (nA tr)))] s.heap := hP
  have hl := lv_entry ([.ref o, .int (nI sh)]) (n := 4) (Nat.le_of_ble_eq_true rfl)
  rw [lg_entry_eq]
  generalize (lg_sl ([.ref o, .int (nI sh)]) ++ List.replicate (4 - (lg_sl ([.ref o, .int (nI sh)])).length) Slot.unset).toArray = ls at hl ⊢
  have hl : lv_has ls 4 [(0, .ref o), (1, .int (nI sh))] := hl
  have hpow : 0 < 2 ^ n := Nat.two_pow_pos n
  have hpow2 : 2 ^ n ≤ 2 ^ 4 := Nat.pow_le_pow_right (by decide) hn
  have hsz := zs_size_le sh hsh
  refine zs_get hx hb hZ.1 hS hown (hts _ zk_lp55) lp_d_shiftTried_0 (fun t_1 ht_1 => ?_)
  refine lv_iload_n hx hb lp_d_shiftTried_3 rfl (lv_at hl 1 rfl) ?_
  refine zs_ald hx hb ht_1 hS (k := sh) (by omega) (by decide) lp_d_shiftTried_4 ?_
  refine lv_istore_n (lv' := [(2, .int (nI (zs_set sh))), (0, .ref o), (1, .int (nI sh))]) hx hb lp_d_shiftTried_5 rfl hl (by decide) rfl (fun ls hl => ?_)
  refine lv_iconst (v := (nI 1)) hx hb lp_d_shiftTried_6 (by decide) ?_
  refine lv_istore_n (lv' := [(3, .int (nI 1)), (2, .int (nI (zs_set sh))), (0, .ref o), (1, .int (nI sh))]) hx hb lp_d_shiftTried_7 rfl hl (by decide) rfl (fun ls hl => ?_)
  refine zl_loop (J := fun k ls H locs => ∃ (i : Nat) (tc : Nat → Nat), k = 2 ^ n - 1 - i ∧ (i ≤ 2 ^ n - 1) ∧ (tc = zf_shift (zs_set sh) (zs_size sh) i tr) ∧ va_P (dC, dI) zz_cl [(o, .inr (0, [.ref b1, .int (nI od), .int (nI fi), .ref t1, .ref g1, .int (nI (2 ^ n - 1))])), (t1, .inl (cA 0, 16, .inl (nA tc)))] H ∧ va_D A [(o, .inr (0, [.ref b1, .int (nI od), .int (nI fi), .ref t1, .ref g1, .int (nI (2 ^ n - 1))])), (t1, .inl (cA 0, 16, .inl (nA tc)))] ∧ va_S A s.heap H locs ∧ lv_has ls 4 [(0, .ref o), (1, .int (nI sh)), (2, .int (nI (zs_set sh))), (3, .int (nI (i + 1)))]) (fun k8 ls H locs hJ8 ih8 => ?_) (2 ^ n - 1 - 0) ⟨0, tr, rfl, Nat.zero_le _, zf_shift_0, hP, hD, hS, lv_sub hl [2, 3, 1, 0] rfl⟩
  obtain ⟨i, tc, hk8, hi, htc, hP, hD, hS, hl⟩ := hJ8
  refine lv_iload_n hx hb lp_d_shiftTried_8 rfl (lv_at hl 3 rfl) ?_
  refine lv_aload_n hx hb lp_d_shiftTried_9 rfl (lv_at hl 0 rfl) ?_
  refine va_get (D := (dC, dI)) (ci := 0) (v := .int (nI (2 ^ n - 1))) (C := lp_R) (T := lp_T) (N := 6) hx hb hts lp_in hown hK hP 0 rfl rfl 5 (by decide) (hts _ zk_lp26) (fun _ h9 => h9) rfl lp_d_shiftTried_10 ?_
  refine zc_gt (tgt := 50) hx hb lp_d_shiftTried_13 (by decide) (by omega) (by omega) (fun c_2 => ?_) (fun c_2 => ?_)
  · have hP9 := hP.sub (ws' := [(o, .inr (0, [.ref b1, .int (nI od), .int (nI fi), .ref t1, .ref g1, .int (nI (2 ^ n - 1))])), (t1, .inl (cA 0, 16, .inl (nA tc)))]) [0, 1] rfl
    have hD9 := hD.sub (ws' := [(o, .inr (0, [.ref b1, .int (nI od), .int (nI fi), .ref t1, .ref g1, .int (nI (2 ^ n - 1))])), (t1, .inl (cA 0, 16, .inl (nA tc)))]) [0, 1] (by decide) rfl
    exact W.vret hx hb hr (fun t ht hW => ⟨⟨tc, rfl, by rw [htc, show i = 2 ^ n - 1 by omega], by rw [ht]; exact hP9, hD9⟩, hS.F ht⟩) hS.2.2 lp_d_shiftTried_50
  · refine lv_iload_n hx hb lp_d_shiftTried_16 rfl (lv_at hl 3 rfl) ?_
    refine lv_iload_n hx hb lp_d_shiftTried_17 rfl (lv_at hl 2 rfl) ?_
    refine lv_iand hx hb lp_d_shiftTried_18 ?_
    refine zt_i (zb_and (i + 1) (zs_set sh)) ?_
    refine lv_iload_n hx hb lp_d_shiftTried_19 rfl (lv_at hl 3 rfl) ?_
    refine zc_ne (tgt := 44) hx hb lp_d_shiftTried_20 (by decide) (Nat.lt_of_le_of_lt Nat.and_le_left (by omega)) (by omega) (fun c_3 => ?_) (fun c_3 => ?_)
    · refine lv_iinc (v := (nI ((i + 1) + 1))) (lv' := [(3, .int (nI ((i + 1) + 1))), (0, .ref o), (1, .int (nI sh)), (2, .int (nI (zs_set sh)))]) hx hb lp_d_shiftTried_44 hl (k := 3) rfl (nI_1 (i + 1)) (by decide) rfl (fun ls hl => ?_)
      refine lv_goto (tgt := 8) hx hb lp_d_shiftTried_47 (by decide) ?_
      exact ih8 _ _ _ _ (by omega) ⟨i + 1, _, rfl, by omega, by rw [htc, zf_shift0 c_3], hP, hD, hS, lv_sub hl [1, 2, 3, 0] rfl⟩
    · refine lv_aload_n hx hb lp_d_shiftTried_23 rfl (lv_at hl 0 rfl) ?_
      refine va_get (D := (dC, dI)) (ci := 0) (v := .ref t1) (C := lp_R) (T := lp_T) (N := 6) hx hb hts lp_in hown hK hP 0 rfl rfl 3 (by decide) (hts _ zk_lp15) (fun _ h9 => h9) rfl lp_d_shiftTried_24 ?_
      refine lv_iload_n hx hb lp_d_shiftTried_27 rfl (lv_at hl 3 rfl) ?_
      refine lv_aload_n hx hb lp_d_shiftTried_28 rfl (lv_at hl 0 rfl) ?_
      refine va_get (D := (dC, dI)) (ci := 0) (v := .ref t1) (C := lp_R) (T := lp_T) (N := 6) hx hb hts lp_in hown hK hP 0 rfl rfl 3 (by decide) (hts _ zk_lp15) (fun _ h9 => h9) rfl lp_d_shiftTried_29 ?_
      refine lv_iload_n hx hb lp_d_shiftTried_32 rfl (lv_at hl 3 rfl) ?_
      refine zv_iald hx hb hK hP 1 0 rfl rfl (k := (i + 1)) (by omega) (by omega) lp_d_shiftTried_33 ?_
      have h8 := zf_shift_lt (st := zs_set sh) (sz := zs_size sh) (K := i) htr (i + 1)
      rw [← htc] at h8
      refine zs_get hx hb hZ.2.1 hS hown (hts _ zk_lp58) lp_d_shiftTried_34 (fun t_4 ht_4 => ?_)
      refine lv_iload_n hx hb lp_d_shiftTried_37 rfl (lv_at hl 1 rfl) ?_
      refine zs_ald hx hb ht_4 hS (k := sh) (by omega) (by decide) lp_d_shiftTried_38 ?_
      refine lv_iadd hx hb lp_d_shiftTried_39 ?_
      refine zt_i (nI_add (tc (i + 1)) (zs_size sh)) ?_
      refine lv_bipush (v := (nI 7)) hx hb lp_d_shiftTried_40 (by decide) ?_
      refine lv_iand hx hb lp_d_shiftTried_42 ?_
      refine zt_i (zb_m8 (a := ((tc (i + 1)) + (zs_size sh))) (by omega)) ?_
      refine zv_iast hx hb hK hP hD hS 1 0 rfl rfl (k := (i + 1)) (v := (((tc (i + 1)) + (zs_size sh)) % 8)) (by omega) (by omega) lp_d_shiftTried_43 (fun H locs hP hD hS => ?_)
      have hP : va_P (dC, dI) zz_cl [(o, .inr (0, [.ref b1, .int (nI od), .int (nI fi), .ref t1, .ref g1, .int (nI (2 ^ n - 1))])), (t1, .inl (cA 0, 16, .inl (nA (va_up tc (i + 1) (((tc (i + 1)) + (zs_size sh)) % 8)))))] H := hP
      have hD : va_D A [(o, .inr (0, [.ref b1, .int (nI od), .int (nI fi), .ref t1, .ref g1, .int (nI (2 ^ n - 1))])), (t1, .inl (cA 0, 16, .inl (nA (va_up tc (i + 1) (((tc (i + 1)) + (zs_size sh)) % 8)))))] := hD
      refine lv_iinc (v := (nI ((i + 1) + 1))) (lv' := [(3, .int (nI ((i + 1) + 1))), (0, .ref o), (1, .int (nI sh)), (2, .int (nI (zs_set sh)))]) hx hb lp_d_shiftTried_44 hl (k := 3) rfl (nI_1 (i + 1)) (by decide) rfl (fun ls hl => ?_)
      refine lv_goto (tgt := 8) hx hb lp_d_shiftTried_47 (by decide) ?_
      exact ih8 _ _ _ _ (by omega) ⟨i + 1, _, rfl, by omega, by rw [htc, zf_shift1 c_3], hP, hD, hS, lv_sub hl [1, 2, 3, 0] rfl⟩
