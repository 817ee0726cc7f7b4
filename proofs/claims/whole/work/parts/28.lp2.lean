set_option maxHeartbeats 4000000 in
set_option maxRecDepth 100000 in
/-- fillFewest() -/
theorem lp_fillFewest (l : Launch) (dC : Nat → ClassId) (dI : Nat → Nat → Nat) (cA : Nat → ClassId) (sz : Nat) (o b1 t1 g1 n od fi : Nat) (tr : Nat → Nat) (rr : Nat → Nat) (M : Nat → Nat → Nat) (hn : n ≤ 4) (htr : ∀ j, tr j < 8) : Met l lp_y_fillFewest lp_w_fillFewest ({ frames := 1, cells := 0, slots := 0, locals := 41 }) (va_Pc [.ref o] (zB (dC, dI) cA ([(o, .inr (0, [.ref b1, .int (nI od), .int (nI fi), .ref t1, .ref g1, .int (nI (2 ^ n - 1))])), (t1, .inl (cA 0, 16, .inl (nA tr))), (g1, .inl (cA 4, 17, .inr (.inr (.inr (.inr (zg_o rr))))))] ++ zg_w cA rr M) sz)) (va_Qv (fun (u : Nat → Nat → Nat) => zf_tab tr (2 ^ n - 1) u 1) (fun u t => zE (dC, dI) (va_A ([(o, .inr (0, [.ref b1, .int (nI od), .int (nI fi), .ref t1, .ref g1, .int (nI (2 ^ n - 1))])), (t1, .inl (cA 0, 16, .inl (nA tr))), (g1, .inl (cA 4, 17, .inr (.inr (.inr (.inr (zg_o rr))))))] ++ zg_w cA rr M) sz) ((fun (u : Nat → Nat → Nat) => ([(o, .inr (0, [.ref b1, .int (nI od), .int (nI fi), .ref t1, .ref g1, .int (nI (2 ^ n - 1))])), (t1, .inl (cA 0, 16, .inl (nA tr))), (g1, .inl (cA 4, 17, .inr (.inr (.inr (.inr (zg_o rr))))))] ++ zg_w cA rr u)) u) t) (va_A ([(o, .inr (0, [.ref b1, .int (nI od), .int (nI fi), .ref t1, .ref g1, .int (nI (2 ^ n - 1))])), (t1, .inl (cA 0, 16, .inl (nA tr))), (g1, .inl (cA 4, 17, .inr (.inr (.inr (.inr (zg_o rr))))))] ++ zg_w cA rr M) sz)) 0 0 (va_A ([(o, .inr (0, [.ref b1, .int (nI od), .int (nI fi), .ref t1, .ref g1, .int (nI (2 ^ n - 1))])), (t1, .inl (cA 0, 16, .inl (nA tr))), (g1, .inl (cA 4, 17, .inr (.inr (.inr (.inr (zg_o rr))))))] ++ zg_w cA rr M) sz) := by
  refine Met.ofW (cc := lp_c_fillFewest) (maxL := 6) (ret := (none : Option Jvm.ClassFile.FieldType)) (by decide) rfl ?_
  intro p e s m args below meth c s₁ B hml hv
  obtain ⟨rfl, hsz, hP, hK, hD0, hZ⟩ := hv
  have hx := B.exec
  have hb := B.bytes
  have hr := B.returns
  have hts0 := atoms_spec (ws := lp_w_fillFewest) B.pre
  have hts : ∀ w ∈ zz_tbl, w.before _ s = true := fun w h => hts0 w (List.mem_cons_of_mem _ h)
  have hown : s.vm.findClass lp_R = some m.cls := findClass_of_methodNamed B.named
  have hlocks := B.notSynchronized
  subst hsz
  have hD := hD0.self (sz := s.heap.size)
  generalize hAe : va_A ([(o, .inr (0, [.ref b1, .int (nI od), .int (nI fi), .ref t1, .ref g1, .int (nI (2 ^ n - 1))])), (t1, .inl (cA 0, 16, .inl (nA tr))), (g1, .inl (cA 4, 17, .inr (.inr (.inr (.inr (zg_o rr))))))] ++ zg_w cA rr M) s.heap.size = A at hD hZ ⊢
  have hA : ∀ q : Nat, s.heap.size ≤ q → A q := fun q h => by rw [← hAe]; exact Or.inr h
  have hS : va_S A s.heap s.heap [] := va_S.rf
  have hP : va_P (dC, dI) zz_cl ([(o, .inr (0, [.ref b1, .int (nI od), .int (nI fi), .ref t1, .ref g1, .int (nI (2 ^ n - 1))])), (t1, .inl (cA 0, 16, .inl (nA tr))), (g1, .inl (cA 4, 17, .inr (.inr (.inr (.inr (zg_o rr))))))] ++ zg_w cA rr M) s.heap := hP
  have hl := lv_entry ([.ref o]) (n := 6) (Nat.le_of_ble_eq_true rfl)
  rw [lg_entry_eq]
  generalize (lg_sl ([.ref o]) ++ List.replicate (6 - (lg_sl ([.ref o])).length) Slot.unset).toArray = ls at hl ⊢
  have hl : lv_has ls 6 [(0, .ref o)] := hl
  have hpow : 0 < 2 ^ n := Nat.two_pow_pos n
  have hpow2 : 2 ^ n ≤ 2 ^ 4 := Nat.pow_le_pow_right (by decide) hn
  refine lv_aload_n hx hb lp_d_fillFewest_0 rfl (lv_at hl 0 rfl) ?_
  refine va_get (D := (dC, dI)) (ci := 0) (v := .ref g1) (C := lp_R) (T := lp_T) (N := 6) hx hb hts lp_in hown hK hP 0 rfl rfl 4 (by decide) (hts _ zk_lp20) (fun _ h9 => h9) rfl lp_d_fillFewest_1 ?_
  refine lv_aload_n hx hb lp_d_fillFewest_4 rfl (lv_at hl 0 rfl) ?_
  refine va_get (D := (dC, dI)) (ci := 0) (v := .int (nI (2 ^ n - 1))) (C := lp_R) (T := lp_T) (N := 6) hx hb hts lp_in hown hK hP 0 rfl rfl 5 (by decide) (hts _ zk_lp26) (fun _ h9 => h9) rfl lp_d_fillFewest_5 ?_
  refine lv_iconst (v := (nI 1)) hx hb lp_d_fillFewest_8 (by decide) ?_
  refine lv_iadd hx hb lp_d_fillFewest_9 ?_
  refine zt_i (nI_add (2 ^ n - 1) 1) ?_
  refine zg_aald (i := ((2 ^ n - 1) + 1)) hx hb hK hP 2 rfl (by omega) lp_d_fillFewest_10 ?_
  refine lv_sipush (v := (nI 1000)) hx hb lp_d_fillFewest_11 (by decide) ?_
  refine zq_fill (rest := []) (x := 1000) ⟨hx, hb, hml, hown, hts⟩ zg_lp78 ⟨Nat.le_of_ble_eq_true rfl, Nat.le_of_ble_eq_true rfl⟩ hK hP hD hS hA hZ (List.length (α := Nat × va_E) [(o, .inr (0, [.ref b1, .int (nI od), .int (nI fi), .ref t1, .ref g1, .int (nI (2 ^ n - 1))])), (t1, .inl (cA 0, 16, .inl (nA tr))), (g1, .inl (cA 4, 17, .inr (.inr (.inr (.inr (zg_o rr))))))] + ((2 ^ n - 1) + 1)) (zg_get (X := [(o, .inr (0, [.ref b1, .int (nI od), .int (nI fi), .ref t1, .ref g1, .int (nI (2 ^ n - 1))])), (t1, .inl (cA 0, 16, .inl (nA tr))), (g1, .inl (cA 4, 17, .inr (.inr (.inr (.inr (zg_o rr))))))]) (by omega)) (by decide) hl.1 (Nat.le_of_ble_eq_true rfl) lp_d_fillFewest_14 (fun u_1 H locs h_2 hP hD hS => ?_) ⟨Nat.le_of_ble_eq_true rfl, Nat.le_of_ble_eq_true rfl⟩
  rw [zg_set (X := [(o, .inr (0, [.ref b1, .int (nI od), .int (nI fi), .ref t1, .ref g1, .int (nI (2 ^ n - 1))])), (t1, .inl (cA 0, 16, .inl (nA tr))), (g1, .inl (cA 4, 17, .inr (.inr (.inr (.inr (zg_o rr))))))]) (by omega)] at hP hD
  have hP : va_P (dC, dI) zz_cl ([(o, .inr (0, [.ref b1, .int (nI od), .int (nI fi), .ref t1, .ref g1, .int (nI (2 ^ n - 1))])), (t1, .inl (cA 0, 16, .inl (nA tr))), (g1, .inl (cA 4, 17, .inr (.inr (.inr (.inr (zg_o rr))))))] ++ zg_w cA rr (va_up M ((2 ^ n - 1) + 1) u_1)) H := hP
  have hD : va_D A ([(o, .inr (0, [.ref b1, .int (nI od), .int (nI fi), .ref t1, .ref g1, .int (nI (2 ^ n - 1))])), (t1, .inl (cA 0, 16, .inl (nA tr))), (g1, .inl (cA 4, 17, .inr (.inr (.inr (.inr (zg_o rr))))))] ++ zg_w cA rr (va_up M ((2 ^ n - 1) + 1) u_1)) := hD
  refine lv_aload_n hx hb lp_d_fillFewest_17 rfl (lv_at hl 0 rfl) ?_
  refine va_get (D := (dC, dI)) (ci := 0) (v := .ref g1) (C := lp_R) (T := lp_T) (N := 6) hx hb hts lp_in hown hK hP 0 rfl rfl 4 (by decide) (hts _ zk_lp20) (fun _ h9 => h9) rfl lp_d_fillFewest_18 ?_
  refine lv_aload_n hx hb lp_d_fillFewest_21 rfl (lv_at hl 0 rfl) ?_
  refine va_get (D := (dC, dI)) (ci := 0) (v := .int (nI (2 ^ n - 1))) (C := lp_R) (T := lp_T) (N := 6) hx hb hts lp_in hown hK hP 0 rfl rfl 5 (by decide) (hts _ zk_lp26) (fun _ h9 => h9) rfl lp_d_fillFewest_22 ?_
  refine lv_iconst (v := (nI 1)) hx hb lp_d_fillFewest_25 (by decide) ?_
  refine lv_iadd hx hb lp_d_fillFewest_26 ?_
  refine zt_i (nI_add (2 ^ n - 1) 1) ?_
  refine zg_aald (i := ((2 ^ n - 1) + 1)) hx hb hK hP 2 rfl (by omega) lp_d_fillFewest_27 ?_
  refine lv_iconst (v := (nI 0)) hx hb lp_d_fillFewest_28 (by decide) ?_
  refine lv_iconst (v := (nI 0)) hx hb lp_d_fillFewest_29 (by decide) ?_
  refine zg_iast (i := ((2 ^ n - 1) + 1)) (k := 0) (v := 0) hx hb hK hP hD hS (by omega) (by omega) lp_d_fillFewest_30 (fun H locs hP hD hS => ?_)
  have hP : va_P (dC, dI) zz_cl ([(o, .inr (0, [.ref b1, .int (nI od), .int (nI fi), .ref t1, .ref g1, .int (nI (2 ^ n - 1))])), (t1, .inl (cA 0, 16, .inl (nA tr))), (g1, .inl (cA 4, 17, .inr (.inr (.inr (.inr (zg_o rr))))))] ++ zg_w cA rr (va_up (va_up M ((2 ^ n - 1) + 1) u_1) ((2 ^ n - 1) + 1) (va_up ((va_up M ((2 ^ n - 1) + 1) u_1) ((2 ^ n - 1) + 1)) 0 0))) H := hP
  have hD : va_D A ([(o, .inr (0, [.ref b1, .int (nI od), .int (nI fi), .ref t1, .ref g1, .int (nI (2 ^ n - 1))])), (t1, .inl (cA 0, 16, .inl (nA tr))), (g1, .inl (cA 4, 17, .inr (.inr (.inr (.inr (zg_o rr))))))] ++ zg_w cA rr (va_up (va_up M ((2 ^ n - 1) + 1) u_1) ((2 ^ n - 1) + 1) (va_up ((va_up M ((2 ^ n - 1) + 1) u_1) ((2 ^ n - 1) + 1)) 0 0))) := hD
  refine lv_aload_n hx hb lp_d_fillFewest_31 rfl (lv_at hl 0 rfl) ?_
  refine va_get (D := (dC, dI)) (ci := 0) (v := .int (nI (2 ^ n - 1))) (C := lp_R) (T := lp_T) (N := 6) hx hb hts lp_in hown hK hP 0 rfl rfl 5 (by decide) (hts _ zk_lp26) (fun _ h9 => h9) rfl lp_d_fillFewest_32 ?_
  refine lv_istore_n (lv' := [(1, .int (nI (2 ^ n - 1))), (0, .ref o)]) hx hb lp_d_fillFewest_35 rfl hl (by decide) rfl (fun ls hl => ?_)
  refine zl_loop (J := fun k ls H locs => ∃ (i : Nat) (M : Nat → Nat → Nat), k = i ∧ (i ≤ 2 ^ n - 1) ∧ (zf_tab tr (2 ^ n - 1) M (i + 1)) ∧ va_P (dC, dI) zz_cl ([(o, .inr (0, [.ref b1, .int (nI od), .int (nI fi), .ref t1, .ref g1, .int (nI (2 ^ n - 1))])), (t1, .inl (cA 0, 16, .inl (nA tr))), (g1, .inl (cA 4, 17, .inr (.inr (.inr (.inr (zg_o rr))))))] ++ zg_w cA rr M) H ∧ va_D A ([(o, .inr (0, [.ref b1, .int (nI od), .int (nI fi), .ref t1, .ref g1, .int (nI (2 ^ n - 1))])), (t1, .inl (cA 0, 16, .inl (nA tr))), (g1, .inl (cA 4, 17, .inr (.inr (.inr (.inr (zg_o rr))))))] ++ zg_w cA rr M) ∧ va_S A s.heap H locs ∧ lv_has ls 6 [(0, .ref o), (1, .int (nI i))]) (fun k36 ls H locs hJ36 ih36 => ?_) (2 ^ n - 1) ⟨2 ^ n - 1, _, rfl, Nat.le_refl _, by rw [bx_uu, va_up_self]; exact zf_tab_start (by omega) h_2, hP, hD, hS, lv_sub hl [1, 0] rfl⟩
  obtain ⟨i, M, hk36, hi, hT, hP, hD, hS, hl⟩ := hJ36
  refine lv_iload_n hx hb lp_d_fillFewest_36 rfl (lv_at hl 1 rfl) ?_
  refine lv_iconst (v := (nI 1)) hx hb lp_d_fillFewest_37 (by decide) ?_
  refine zc_lt (tgt := 110) hx hb lp_d_fillFewest_38 (by decide) (by omega) (by omega) (fun c_3 => ?_) (fun c_3 => ?_)
  · have hP9 := hP.sub (ws' := ([(o, .inr (0, [.ref b1, .int (nI od), .int (nI fi), .ref t1, .ref g1, .int (nI (2 ^ n - 1))])), (t1, .inl (cA 0, 16, .inl (nA tr))), (g1, .inl (cA 4, 17, .inr (.inr (.inr (.inr (zg_o rr))))))] ++ zg_w cA rr M)) [0, 1, 2, 3, 4, 5, 6, 7, 8, 9, 10, 11, 12, 13, 14, 15, 16, 17, 18, 19] rfl
    have hD9 := hD.sub (ws' := ([(o, .inr (0, [.ref b1, .int (nI od), .int (nI fi), .ref t1, .ref g1, .int (nI (2 ^ n - 1))])), (t1, .inl (cA 0, 16, .inl (nA tr))), (g1, .inl (cA 4, 17, .inr (.inr (.inr (.inr (zg_o rr))))))] ++ zg_w cA rr M)) [0, 1, 2, 3, 4, 5, 6, 7, 8, 9, 10, 11, 12, 13, 14, 15, 16, 17, 18, 19] (by decide) rfl
    exact W.vret hx hb hr (fun t ht hW => ⟨⟨M, rfl, by rw [show i = 0 by omega] at hT; exact hT, by rw [ht]; exact hP9, hD9⟩, hS.F ht⟩) hS.2.2 lp_d_fillFewest_110
  · refine lv_aload_n hx hb lp_d_fillFewest_41 rfl (lv_at hl 0 rfl) ?_
    refine va_get (D := (dC, dI)) (ci := 0) (v := .ref g1) (C := lp_R) (T := lp_T) (N := 6) hx hb hts lp_in hown hK hP 0 rfl rfl 4 (by decide) (hts _ zk_lp20) (fun _ h9 => h9) rfl lp_d_fillFewest_42 ?_
    refine lv_iload_n hx hb lp_d_fillFewest_45 rfl (lv_at hl 1 rfl) ?_
    refine zg_aald (i := i) hx hb hK hP 2 rfl (by omega) lp_d_fillFewest_46 ?_
    refine lv_astore_n (lv' := [(2, .ref (rr i)), (0, .ref o), (1, .int (nI i))]) hx hb lp_d_fillFewest_47 rfl hl (by decide) rfl (fun ls hl => ?_)
    refine lv_aload_n hx hb lp_d_fillFewest_48 rfl (lv_at hl 1 rfl) ?_
    refine va_get (D := (dC, dI)) (ci := 0) (v := .ref g1) (C := lp_R) (T := lp_T) (N := 6) hx hb hts lp_in hown hK hP 0 rfl rfl 4 (by decide) (hts _ zk_lp20) (fun _ h9 => h9) rfl lp_d_fillFewest_49 ?_
    refine lv_iload_n hx hb lp_d_fillFewest_52 rfl (lv_at hl 2 rfl) ?_
    refine lv_iconst (v := (nI 1)) hx hb lp_d_fillFewest_53 (by decide) ?_
    refine lv_iadd hx hb lp_d_fillFewest_54 ?_
    refine zt_i (nI_add i 1) ?_
    refine zg_aald (i := (i + 1)) hx hb hK hP 2 rfl (by omega) lp_d_fillFewest_55 ?_
    refine lv_astore_n (lv' := [(3, .ref (rr (i + 1))), (2, .ref (rr i)), (0, .ref o), (1, .int (nI i))]) hx hb lp_d_fillFewest_56 rfl hl (by decide) rfl (fun ls hl => ?_)
    refine lv_aload_n hx hb lp_d_fillFewest_57 rfl (lv_at hl 2 rfl) ?_
    refine lv_iload_n hx hb lp_d_fillFewest_58 rfl (lv_at hl 3 rfl) ?_
    refine zq_Vi (n := 1) (As := [.int (nI i)]) (rest := []) ⟨hx, hb, hml, hown, hts⟩ (lp_cost l dC dI cA o b1 t1 g1 n od fi tr i (by omega) htr) zg_lp84 (by decide +kernel) ⟨rfl, rfl⟩ ⟨Nat.le_of_ble_eq_true rfl, Nat.le_of_ble_eq_true rfl⟩ hK (hP.sub (ws' := [(o, .inr (0, [.ref b1, .int (nI od), .int (nI fi), .ref t1, .ref g1, .int (nI (2 ^ n - 1))])), (t1, .inl (cA 0, 16, .inl (nA tr)))]) [0, 1] rfl) 0 0 rfl rfl rfl rfl hl.1 rfl (Nat.le_of_ble_eq_true rfl) lp_d_fillFewest_59 (fun r_4 h_5 => ?_) ⟨Nat.le_of_ble_eq_true rfl, Nat.le_of_ble_eq_true rfl⟩
    subst h_5
    refine lv_istore (lv' := [(4, .int (nI (pz_c tr i))), (3, .ref (rr (i + 1))), (2, .ref (rr i)), (0, .ref o), (1, .int (nI i))]) hx hb lp_d_fillFewest_62 hl (by decide) rfl (fun ls hl => ?_)
    refine lv_iconst (v := (nI 0)) hx hb lp_d_fillFewest_64 (by decide) ?_
    refine lv_istore (lv' := [(5, .int (nI 0)), (4, .int (nI (pz_c tr i))), (3, .ref (rr (i + 1))), (2, .ref (rr i)), (0, .ref o), (1, .int (nI i))]) hx hb lp_d_fillFewest_65 hl (by decide) rfl (fun ls hl => ?_)
    refine zl_loop (J := fun k ls H locs => ∃ (j : Nat) (M : Nat → Nat → Nat), k = 2 ^ n - j ∧ (j ≤ 2 ^ n) ∧ (zf_tab tr (2 ^ n - 1) M (i + 1)) ∧ (∀ s, s < j → M i s = pz_F tr (2 ^ n - 1) (2 ^ n - 1 + 1 - i) s) ∧ va_P (dC, dI) zz_cl ([(o, .inr (0, [.ref b1, .int (nI od), .int (nI fi), .ref t1, .ref g1, .int (nI (2 ^ n - 1))])), (t1, .inl (cA 0, 16, .inl (nA tr))), (g1, .inl (cA 4, 17, .inr (.inr (.inr (.inr (zg_o rr))))))] ++ zg_w cA rr M) H ∧ va_D A ([(o, .inr (0, [.ref b1, .int (nI od), .int (nI fi), .ref t1, .ref g1, .int (nI (2 ^ n - 1))])), (t1, .inl (cA 0, 16, .inl (nA tr))), (g1, .inl (cA 4, 17, .inr (.inr (.inr (.inr (zg_o rr))))))] ++ zg_w cA rr M) ∧ va_S A s.heap H locs ∧ lv_has ls 6 [(0, .ref o), (1, .int (nI i)), (2, .ref (rr i)), (3, .ref (rr (i + 1))), (4, .int (nI (pz_c tr i))), (5, .int (nI j))]) (fun k67 ls H locs hJ67 ih67 => ?_) (2 ^ n - 0) ⟨0, M, rfl, Nat.zero_le _, hT, fun s hs => absurd hs (Nat.not_lt_zero _), hP, hD, hS, lv_sub hl [4, 5, 3, 2, 1, 0] rfl⟩
    obtain ⟨j, M, hk67, hj, hT, hr0, hP, hD, hS, hl⟩ := hJ67
    refine lv_iload hx hb lp_d_fillFewest_67 (lv_at hl 5 rfl) ?_
    refine lv_aload_n hx hb lp_d_fillFewest_69 rfl (lv_at hl 0 rfl) ?_
    refine va_get (D := (dC, dI)) (ci := 0) (v := .int (nI (2 ^ n - 1))) (C := lp_R) (T := lp_T) (N := 6) hx hb hts lp_in hown hK hP 0 rfl rfl 5 (by decide) (hts _ zk_lp26) (fun _ h9 => h9) rfl lp_d_fillFewest_70 ?_
    refine zc_gt (tgt := 104) hx hb lp_d_fillFewest_73 (by decide) (by omega) (by omega) (fun c_6 => ?_) (fun c_6 => ?_)
    · refine lv_iinc (v := (nI (i - 1))) (lv' := [(1, .int (nI (i - 1))), (0, .ref o), (2, .ref (rr i)), (3, .ref (rr (i + 1))), (4, .int (nI (pz_c tr i))), (5, .int (nI j))]) hx hb lp_d_fillFewest_104 hl (k := 1) rfl (sb_m1 (by omega)) (by decide) rfl (fun ls hl => ?_)
      refine lv_goto (tgt := 36) hx hb lp_d_fillFewest_107 (by decide) ?_
      exact ih36 _ _ _ _ (by omega) ⟨i - 1, _, rfl, by omega, by rw [show i - 1 + 1 = i by omega]; exact zf_tab_next hT (fun s hs => hr0 s (by omega)), hP, hD, hS, lv_sub hl [1, 0] rfl⟩
    · have hxr : j ^^^ i < 2 ^ n := Nat.xor_lt_two_pow (by omega) (by omega)
      have m1 := zf_M_le hT (q := i + 1) (s := j) (Nat.le_refl _) (by omega) (by omega)
      have m2 := zf_M_le hT (q := i + 1) (s := j ^^^ i) (Nat.le_refl _) (by omega) (by omega)
      have m3 := zf_c_le tr i
      have m4 := zf_row_step rfl (show 1 ≤ i by omega) hi (show j ≤ 2 ^ n - 1 by omega) hT
      refine lv_aload_n hx hb lp_d_fillFewest_76 rfl (lv_at hl 2 rfl) ?_
      refine lv_iload hx hb lp_d_fillFewest_77 (lv_at hl 5 rfl) ?_
      refine lv_aload_n hx hb lp_d_fillFewest_79 rfl (lv_at hl 3 rfl) ?_
      refine lv_iload hx hb lp_d_fillFewest_80 (lv_at hl 5 rfl) ?_
      refine zg_iald (i := (i + 1)) (k := j) hx hb hK hP (by omega) (by omega) lp_d_fillFewest_82 ?_
      refine lv_iload hx hb lp_d_fillFewest_83 (lv_at hl 4 rfl) ?_
      refine lv_iadd hx hb lp_d_fillFewest_85 ?_
      refine zt_i (nI_add (M (i + 1) j) (pz_c tr i)) ?_
      refine lv_aload_n hx hb lp_d_fillFewest_86 rfl (lv_at hl 3 rfl) ?_
      refine lv_iload hx hb lp_d_fillFewest_87 (lv_at hl 5 rfl) ?_
      refine lv_iload_n hx hb lp_d_fillFewest_89 rfl (lv_at hl 1 rfl) ?_
      refine lv_ixor hx hb lp_d_fillFewest_90 ?_
      refine zt_i (zb_xor j i) ?_
      refine zg_iald (i := (i + 1)) (k := (j ^^^ i)) hx hb hK hP (by omega) (by omega) lp_d_fillFewest_91 ?_
      refine lv_iconst (v := (nI 1)) hx hb lp_d_fillFewest_92 (by decide) ?_
      refine lv_iadd hx hb lp_d_fillFewest_93 ?_
      refine zt_i (nI_add (M (i + 1) (j ^^^ i)) 1) ?_
      refine va_mmin (rest := [.int (nI j), .ref (rr i)]) hx hb (hml.trans hl.1.symm) hown (hts _ zk_lp87) (hts _ zk_st_min) (hts _ zk_in_java_lang_Math) (hts _ zk_cd_min) (Nat.le_of_ble_eq_true rfl) (Nat.le_of_ble_eq_true rfl) (Nat.le_of_ble_eq_true rfl) (Nat.le_of_ble_eq_true rfl) lp_d_fillFewest_94 ?_
      refine zt_i (zm_min ((M (i + 1) j) + (pz_c tr i)) ((M (i + 1) (j ^^^ i)) + 1) (by omega) (by omega)) ?_
      refine zg_iast (i := i) (k := j) (v := (min ((M (i + 1) j) + (pz_c tr i)) ((M (i + 1) (j ^^^ i)) + 1))) hx hb hK hP hD hS (by omega) (by omega) lp_d_fillFewest_97 (fun H locs hP hD hS => ?_)
      have hP : va_P (dC, dI) zz_cl ([(o, .inr (0, [.ref b1, .int (nI od), .int (nI fi), .ref t1, .ref g1, .int (nI (2 ^ n - 1))])), (t1, .inl (cA 0, 16, .inl (nA tr))), (g1, .inl (cA 4, 17, .inr (.inr (.inr (.inr (zg_o rr))))))] ++ zg_w cA rr (va_up M i (va_up (M i) j (min ((M (i + 1) j) + (pz_c tr i)) ((M (i + 1) (j ^^^ i)) + 1))))) H := hP
      have hD : va_D A ([(o, .inr (0, [.ref b1, .int (nI od), .int (nI fi), .ref t1, .ref g1, .int (nI (2 ^ n - 1))])), (t1, .inl (cA 0, 16, .inl (nA tr))), (g1, .inl (cA 4, 17, .inr (.inr (.inr (.inr (zg_o rr))))))] ++ zg_w cA rr (va_up M i (va_up (M i) j (min ((M (i + 1) j) + (pz_c tr i)) ((M (i + 1) (j ^^^ i)) + 1))))) := hD
      refine lv_iinc (v := (nI (j + 1))) (lv' := [(5, .int (nI (j + 1))), (0, .ref o), (1, .int (nI i)), (2, .ref (rr i)), (3, .ref (rr (i + 1))), (4, .int (nI (pz_c tr i)))]) hx hb lp_d_fillFewest_98 hl (k := 5) rfl (nI_1 j) (by decide) rfl (fun ls hl => ?_)
      refine lv_goto (tgt := 67) hx hb lp_d_fillFewest_101 (by decide) ?_
      exact ih67 _ _ _ _ (by omega) ⟨j + 1, _, rfl, by omega, zf_tab_up hT _, zf_row_up hr0 m4, hP, hD, hS, lv_sub hl [1, 2, 3, 4, 5, 0] rfl⟩
