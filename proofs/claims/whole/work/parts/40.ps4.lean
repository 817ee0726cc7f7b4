set_option maxHeartbeats 4000000 in
set_option maxRecDepth 100000 in
/-- find(map, needed) -/
theorem ps_find (l : Launch) (dC : Nat → ClassId) (dI : Nat → Nat → Nat) (cA : Nat → ClassId) (sz : Nat) (o p1 m1 n mb mk cnt sp : Nat) (pn ml mp nd : Nat) (st fr lb pl : Nat → Nat) (mt : Nat → Nat) (pw : Nat → List Nat) (ws : List Nat) (hn1 : 1 ≤ n) (hn : n ≤ 4) (hmb : mb = n * n) (hmk : mk = if n < 4 then 1 else 0) (hpn : pn ≤ 65536) (hml0 : ml < 2 ^ 31) (hc : cnt ≤ pn) (hsp : sp ≤ cnt) (hI : zp_I n st fr lb pw pl mt cnt (16 * sp)) (hcap : zp_cap n pn) (hbd : zp_bd n ml) (hwt : mp ||| nd * 2 ^ mb < 2 ^ 31) (hf : bz_first (bn_V n) (fun w => bz_run (bn_nx n) (bn_st n n) w &&& ((2 ^ mb - 1) ||| nd * 2 ^ mb) = mp ||| nd * 2 ^ mb) ws) : Met l ps_y_find ps_w_find ({ frames := 3, cells := 0, slots := 0, locals := 71 }) (va_Pc [.ref o, .int (nI mp), .int (nI nd)] (zB (dC, dI) cA [(o, .inr (1, [.int (nI n), .int (nI mb), .int (nI mk), .ref p1, .ref m1, .int (nI cnt), .int (nI sp)])), (p1, .inl (cA 1, pn, .inr (.inl (lA pl)))), (m1, .inl (cA 0, ml, .inl (nA mt)))] sz)) (va_Qi (fun (r : Int32) (u : ((Nat → Nat) × (Nat → Nat) × (Nat → Nat) × (Nat → List Nat) × (Nat → Nat) × (Nat → Nat) × Nat) × Nat) => (∃ k, r = nI k ∧ k < u.1.2.2.2.2.2.2 ∧ u.1.2.2.2.1 k = ws) ∧ zp_I n u.1.1 u.1.2.1 u.1.2.2.1 u.1.2.2.2.1 u.1.2.2.2.2.1 u.1.2.2.2.2.2.1 u.1.2.2.2.2.2.2 (16 * u.2) ∧ u.2 ≤ u.1.2.2.2.2.2.2 ∧ u.1.2.2.2.2.2.2 ≤ pn ∧ zp_ext st u.1.1 pw u.1.2.2.2.1 cnt u.1.2.2.2.2.2.2) (fun u t => zE (dC, dI) (va_A [(o, .inr (1, [.int (nI n), .int (nI mb), .int (nI mk), .ref p1, .ref m1, .int (nI cnt), .int (nI sp)])), (p1, .inl (cA 1, pn, .inr (.inl (lA pl)))), (m1, .inl (cA 0, ml, .inl (nA mt)))] sz) ((fun (u : ((Nat → Nat) × (Nat → Nat) × (Nat → Nat) × (Nat → List Nat) × (Nat → Nat) × (Nat → Nat) × Nat) × Nat) => [(o, .inr (1, [.int (nI n), .int (nI mb), .int (nI mk), .ref p1, .ref m1, .int (nI u.1.2.2.2.2.2.2), .int (nI u.2)])), (p1, .inl (cA 1, pn, .inr (.inl (lA u.1.2.2.2.2.1)))), (m1, .inl (cA 0, ml, .inl (nA u.1.2.2.2.2.2.1)))]) u) t) (va_A [(o, .inr (1, [.int (nI n), .int (nI mb), .int (nI mk), .ref p1, .ref m1, .int (nI cnt), .int (nI sp)])), (p1, .inl (cA 1, pn, .inr (.inl (lA pl)))), (m1, .inl (cA 0, ml, .inl (nA mt)))] sz)) 0 0 (va_A [(o, .inr (1, [.int (nI n), .int (nI mb), .int (nI mk), .ref p1, .ref m1, .int (nI cnt), .int (nI sp)])), (p1, .inl (cA 1, pn, .inr (.inl (lA pl)))), (m1, .inl (cA 0, ml, .inl (nA mt)))] sz) := by
  refine Met.ofW (cc := ps_c_find) (maxL := 6) (ret := (some .int)) (by decide) rfl ?_
  intro p e s m args below meth c s₁ B hml hv
  obtain ⟨rfl, hsz, hP, hK, hD0, hZ⟩ := hv
  have hx := B.exec
  have hb := B.bytes
  have hr := B.returns
  have hts0 := atoms_spec (ws := ps_w_find) B.pre
  have hts : ∀ w ∈ zz_tbl, w.before _ s = true := fun w h => hts0 w (List.mem_cons_of_mem _ h)
  have hown : s.vm.findClass ps_R = some m.cls := findClass_of_methodNamed B.named
  have hlocks := B.notSynchronized
  subst hsz
  have hD := hD0.self (sz := s.heap.size)
  generalize hAe : va_A [(o, .inr (1, [.int (nI n), .int (nI mb), .int (nI mk), .ref p1, .ref m1, .int (nI cnt), .int (nI sp)])), (p1, .inl (cA 1, pn, .inr (.inl (lA pl)))), (m1, .inl (cA 0, ml, .inl (nA mt)))] s.heap.size = A at hD hZ ⊢
  have hA : ∀ q : Nat, s.heap.size ≤ q → A q := fun q h => by rw [← hAe]; exact Or.inr h
  have hS : va_S A s.heap s.heap [] := va_S.rf
  have hP : va_P (dC, dI) zz_cl [(o, .inr (1, [.int (nI n), .int (nI mb), .int (nI mk), .ref p1, .ref m1, .int (nI cnt), .int (nI sp)])), (p1, .inl (cA 1, pn, .inr (.inl (lA pl)))), (m1, .inl (cA 0, ml, .inl (nA mt)))] s.heap := hP
  have hl := lv_entry ([.ref o, .int (nI mp), .int (nI nd)]) (n := 6) (Nat.le_of_ble_eq_true rfl)
  rw [lg_entry_eq]
  generalize (lg_sl ([.ref o, .int (nI mp), .int (nI nd)]) ++ List.replicate (6 - (lg_sl ([.ref o, .int (nI mp), .int (nI nd)])).length) Slot.unset).toArray = ls at hl ⊢
  have hl : lv_has ls 6 [(0, .ref o), (1, .int (nI mp)), (2, .int (nI nd))] := hl
  have hnn := zp_nn hn1 hn
  have hmb2 : mb ≤ 16 := by omega
  have hpmb : 0 < 2 ^ mb := Nat.two_pow_pos mb
  refine lv_iload_n hx hb ps_d_find_0 rfl (lv_at hl 1 rfl) ?_
  refine lv_iload_n hx hb ps_d_find_1 rfl (lv_at hl 2 rfl) ?_
  refine lv_aload_n hx hb ps_d_find_2 rfl (lv_at hl 0 rfl) ?_
  refine va_get (D := (dC, dI)) (ci := 1) (v := .int (nI mb)) (C := ps_R) (T := ps_T) (N := 7) hx hb hts ps_in hown hK hP 0 rfl rfl 1 (by decide) (hts _ zk_ps15) (fun _ h9 => h9) rfl ps_d_find_3 ?_
  refine lv_ishl hx hb ps_d_find_6 ?_
  refine zt_i (zb_shl (a := nd) (k := mb) (by omega)) ?_
  refine lv_ior hx hb ps_d_find_7 ?_
  refine zt_i (zb_or mp (nd * 2 ^ mb)) ?_
  refine lv_istore_n (lv' := [(3, .int (nI (mp ||| (nd * 2 ^ mb)))), (0, .ref o), (1, .int (nI mp)), (2, .int (nI nd))]) hx hb ps_d_find_8 rfl hl (by decide) rfl (fun ls hl => ?_)
  refine lv_iconst (v := (nI 1)) hx hb ps_d_find_9 (by decide) ?_
  refine lv_aload_n hx hb ps_d_find_10 rfl (lv_at hl 1 rfl) ?_
  refine va_get (D := (dC, dI)) (ci := 1) (v := .int (nI mb)) (C := ps_R) (T := ps_T) (N := 7) hx hb hts ps_in hown hK hP 0 rfl rfl 1 (by decide) (hts _ zk_ps15) (fun _ h9 => h9) rfl ps_d_find_11 ?_
  refine lv_ishl hx hb ps_d_find_14 ?_
  refine zt_i (zb_shl1 (k := mb) (by omega)) ?_
  refine lv_iconst (v := (nI 1)) hx hb ps_d_find_15 (by decide) ?_
  refine lv_isub hx hb ps_d_find_16 ?_
  refine zt_i (pk_sub (a := (2 ^ mb)) (b := 1) (by omega)) ?_
  refine lv_iload_n hx hb ps_d_find_17 rfl (lv_at hl 3 rfl) ?_
  refine lv_aload_n hx hb ps_d_find_18 rfl (lv_at hl 1 rfl) ?_
  refine va_get (D := (dC, dI)) (ci := 1) (v := .int (nI mb)) (C := ps_R) (T := ps_T) (N := 7) hx hb hts ps_in hown hK hP 0 rfl rfl 1 (by decide) (hts _ zk_ps15) (fun _ h9 => h9) rfl ps_d_find_19 ?_
  refine lv_ishl hx hb ps_d_find_22 ?_
  refine zt_i (zb_shl (a := nd) (k := mb) (by omega)) ?_
  refine lv_ior hx hb ps_d_find_23 ?_
  refine zt_i (zb_or ((2 ^ mb) - 1) (nd * 2 ^ mb)) ?_
  refine lv_istore (lv' := [(4, .int (nI (((2 ^ mb) - 1) ||| (nd * 2 ^ mb)))), (3, .int (nI (mp ||| (nd * 2 ^ mb)))), (0, .ref o), (1, .int (nI mp)), (2, .int (nI nd))]) hx hb ps_d_find_24 hl (by decide) rfl (fun ls hl => ?_)
  refine lv_iconst (v := (nI 0)) hx hb ps_d_find_26 (by decide) ?_
  refine lv_istore (lv' := [(5, .int (nI 0)), (4, .int (nI (((2 ^ mb) - 1) ||| (nd * 2 ^ mb)))), (3, .int (nI (mp ||| (nd * 2 ^ mb)))), (0, .ref o), (1, .int (nI mp)), (2, .int (nI nd))]) hx hb ps_d_find_27 hl (by decide) rfl (fun ls hl => ?_)
  refine zl_loop (J := fun k ls H locs => ∃ (i : Nat) (sq : Nat) (sa : Nat → Nat) (fa : Nat → Nat) (la : Nat → Nat) (wa : Nat → List Nat) (pa : Nat → Nat) (ma : Nat → Nat) (ca : Nat), k = pn - i ∧ (zp_I n sa fa la wa pa ma ca (16 * sq)) ∧ (i ≤ sq) ∧ (sq ≤ ca) ∧ (ca ≤ pn) ∧ (bz_way wa ca i ws) ∧ (zp_ext st sa pw wa cnt ca) ∧ va_P (dC, dI) zz_cl [(o, .inr (1, [.int (nI n), .int (nI mb), .int (nI mk), .ref p1, .ref m1, .int (nI ca), .int (nI sq)])), (p1, .inl (cA 1, pn, .inr (.inl (lA pa)))), (m1, .inl (cA 0, ml, .inl (nA ma)))] H ∧ va_D A [(o, .inr (1, [.int (nI n), .int (nI mb), .int (nI mk), .ref p1, .ref m1, .int (nI ca), .int (nI sq)])), (p1, .inl (cA 1, pn, .inr (.inl (lA pa)))), (m1, .inl (cA 0, ml, .inl (nA ma)))] ∧ va_S A s.heap H locs ∧ lv_has ls 6 [(0, .ref o), (1, .int (nI mp)), (2, .int (nI nd)), (3, .int (nI (mp ||| nd * 2 ^ mb))), (4, .int (nI ((2 ^ mb - 1) ||| nd * 2 ^ mb))), (5, .int (nI i))]) (fun k29 ls H locs hJ29 ih29 => ?_) (pn - 0) ⟨0, sp, st, fr, lb, pw, pl, mt, cnt, rfl, hI, Nat.zero_le _, hsp, hc, bz_way_start hI.1 ws, zp_ext_rf _ _ _, hP, hD, hS, lv_sub hl [3, 4, 5, 2, 1, 0] rfl⟩
  obtain ⟨i, sq, sa, fa, la, wa, pa, ma, ca, hk29, hI, hi, hsq, hcc, hw, hXX, hP, hD, hS, hl⟩ := hJ29
  refine lv_iload hx hb ps_d_find_29 (lv_at hl 5 rfl) ?_
  have hlt := bz_way_lt hw
  obtain ⟨z1, z2, z3, z4⟩ := hI.2.1 i hlt
  refine lv_aload_n hx hb ps_d_find_31 rfl (lv_at hl 0 rfl) ?_
  refine va_get (D := (dC, dI)) (ci := 1) (v := .ref p1) (C := ps_R) (T := ps_T) (N := 7) hx hb hts ps_in hown hK hP 0 rfl rfl 3 (by decide) (hts _ zk_ps26) (fun _ h9 => h9) rfl ps_d_find_32 ?_
  refine va_alen (v := (nI pn)) hx hb hK hP 1 1 rfl rfl rfl ps_d_find_35 ?_
  refine zc_ge (tgt := 95) hx hb ps_d_find_36 (by decide) (by omega) (by omega) (fun c_1 => absurd c_1 (by omega)) (fun c_1 => ?_)
  refine lv_iload hx hb ps_d_find_39 (lv_at hl 5 rfl) ?_
  refine lv_aload_n hx hb ps_d_find_41 rfl (lv_at hl 0 rfl) ?_
  refine va_get (D := (dC, dI)) (ci := 1) (v := .int (nI ca)) (C := ps_R) (T := ps_T) (N := 7) hx hb hts ps_in hown hK hP 0 rfl rfl 5 (by decide) (hts _ zk_ps41) (fun _ h9 => h9) rfl ps_d_find_42 ?_
  refine zc_ge (tgt := 95) hx hb ps_d_find_45 (by decide) (by omega) (by omega) (fun c_2 => absurd c_2 (by omega)) (fun c_2 => ?_)
  refine lv_aload_n hx hb ps_d_find_48 rfl (lv_at hl 0 rfl) ?_
  refine lv_iload hx hb ps_d_find_49 (lv_at hl 5 rfl) ?_
  refine zq_Vi (n := 1) (As := [.int (nI i)]) (rest := []) ⟨hx, hb, hml, hown, hts⟩ (ps_stateAt l dC dI cA o p1 m1 n mb mk ca sq pn i sa fa la pa (by omega) (by omega) (by omega) hI.2.1) zg_ps44 (by decide +kernel) ⟨rfl, rfl⟩ ⟨Nat.le_of_ble_eq_true rfl, Nat.le_of_ble_eq_true rfl⟩ hK (hP.sub (ws' := [(o, .inr (1, [.int (nI n), .int (nI mb), .int (nI mk), .ref p1, .ref m1, .int (nI ca), .int (nI sq)])), (p1, .inl (cA 1, pn, .inr (.inl (lA pa))))]) [0, 1] rfl) 1 0 rfl rfl rfl rfl hl.1 rfl (Nat.le_of_ble_eq_true rfl) ps_d_find_51 (fun r_3 h_4 => ?_) ⟨Nat.le_of_ble_eq_true rfl, Nat.le_of_ble_eq_true rfl⟩
  subst h_4
  refine lv_iload hx hb ps_d_find_54 (lv_at hl 4 rfl) ?_
  refine lv_iand hx hb ps_d_find_56 ?_
  refine zt_i (zb_and (sa i) ((2 ^ mb - 1) ||| nd * 2 ^ mb)) ?_
  refine lv_iload_n hx hb ps_d_find_57 rfl (lv_at hl 3 rfl) ?_
  refine zc_ne (tgt := 64) hx hb ps_d_find_58 (by decide) (Nat.lt_of_le_of_lt Nat.and_le_left (by omega)) (hwt) (fun c_5 => ?_) (fun c_5 => ?_)
  · refine lv_iload hx hb ps_d_find_64 (lv_at hl 5 rfl) ?_
    refine lv_aload_n hx hb ps_d_find_66 rfl (lv_at hl 0 rfl) ?_
    refine va_get (D := (dC, dI)) (ci := 1) (v := .int (nI sq)) (C := ps_R) (T := ps_T) (N := 7) hx hb hts ps_in hown hK hP 0 rfl rfl 6 (by decide) (hts _ zk_ps48) (fun _ h9 => h9) rfl ps_d_find_67 ?_
    refine zc_ne (tgt := 89) hx hb ps_d_find_70 (by decide) (by omega) (by omega) (fun c_6 => ?_) (fun c_6 => ?_)
    · refine lv_iinc (v := (nI (i + 1))) (lv' := [(5, .int (nI (i + 1))), (0, .ref o), (1, .int (nI mp)), (2, .int (nI nd)), (3, .int (nI (mp ||| nd * 2 ^ mb))), (4, .int (nI ((2 ^ mb - 1) ||| nd * 2 ^ mb)))]) hx hb ps_d_find_89 hl (k := 5) rfl (nI_1 i) (by decide) rfl (fun ls hl => ?_)
      refine lv_goto (tgt := 29) hx hb ps_d_find_92 (by decide) ?_
      exact ih29 _ _ _ _ (by omega) ⟨i + 1, sq, sa, fa, la, wa, pa, ma, ca, rfl, hI, by omega, hsq, hcc, bz_way_step (P := fun x => x &&& ((2 ^ mb - 1) ||| nd * 2 ^ mb) = mp ||| nd * 2 ^ mb) hI.1 hI.1 (by omega) (Nat.le_refl _) (fun _ _ => rfl) (fun _ _ => rfl) hf hw c_5, hXX, hP, hD, hS, lv_sub hl [1, 2, 3, 4, 5, 0] rfl⟩
    · refine lv_aload_n hx hb ps_d_find_73 rfl (lv_at hl 0 rfl) ?_
      refine lv_iload hx hb ps_d_find_74 (lv_at hl 5 rfl) ?_
      refine zq_Vwv (n := 1) (As := [.int (nI i)]) (rest := []) (wc := [(o, .inr (1, [.int (nI n), .int (nI mb), .int (nI mk), .ref p1, .ref m1, .int (nI ca), .int (nI sq)])), (p1, .inl (cA 1, pn, .inr (.inl (lA pa)))), (m1, .inl (cA 0, ml, .inl (nA ma)))]) (wr := []) ⟨hx, hb, hml, hown, hts⟩ (ps_spreadFrom l dC dI cA _ o p1 m1 n mb mk ca sq pn ml i sa fa la pa ma wa hn1 hn hmb hmk hpn hml0 hlt hcc (by rw [show i = sq by omega]; exact hI) hcap hbd) zg_ps51 (by decide +kernel) ⟨rfl, rfl⟩ ⟨Nat.le_of_ble_eq_true rfl, Nat.le_of_ble_eq_true rfl⟩ hK hP hD hS hA hZ [0, 1, 2] [] rfl rfl (by decide) 1 0 rfl rfl rfl rfl hl.1 rfl (Nat.le_of_ble_eq_true rfl) ps_d_find_76 (fun u_9 H locs h_8 hP hD hS => ?_) ⟨Nat.le_of_ble_eq_true rfl, Nat.le_of_ble_eq_true rfl⟩
      obtain ⟨s9, f9, l9, w9, p9, m9, c9⟩ := u_9
      obtain ⟨gI9, gX9, gc9⟩ := h_8
      try dsimp only at gI9 gX9 gc9
      have hP : va_P (dC, dI) zz_cl [(o, .inr (1, [.int (nI n), .int (nI mb), .int (nI mk), .ref p1, .ref m1, .int (nI c9), .int (nI sq)])), (p1, .inl (cA 1, pn, .inr (.inl (lA p9)))), (m1, .inl (cA 0, ml, .inl (nA m9)))] H := hP
      have hD : va_D A [(o, .inr (1, [.int (nI n), .int (nI mb), .int (nI mk), .ref p1, .ref m1, .int (nI c9), .int (nI sq)])), (p1, .inl (cA 1, pn, .inr (.inl (lA p9)))), (m1, .inl (cA 0, ml, .inl (nA m9)))] := hD
      refine lv_aload_n hx hb ps_d_find_79 rfl (lv_at hl 0 rfl) ?_
      refine lv_dup hx hb ps_d_find_80 rfl ?_
      refine va_get (D := (dC, dI)) (ci := 1) (v := .int (nI sq)) (C := ps_R) (T := ps_T) (N := 7) hx hb hts ps_in hown hK hP 0 rfl rfl 6 (by decide) (hts _ zk_ps48) (fun _ h9 => h9) rfl ps_d_find_81 ?_
      refine lv_iconst (v := (nI 1)) hx hb ps_d_find_84 (by decide) ?_
      refine lv_iadd hx hb ps_d_find_85 ?_
      refine zt_i (nI_add sq 1) ?_
      refine va_put (D := (dC, dI)) (ci := 1) (v := .int (nI (sq + 1))) (ty := .int) (C := ps_R) (T := ps_T) (N := 7) hx hb hts ps_in ps_t ps_ok ps_nm hown hK hP hD hS 0 rfl rfl 6 (by decide) (hts _ zk_ps48) (fun _ h9 => h9) rfl (by decide +kernel) rfl rfl (Nat.le_of_ble_eq_true rfl) ps_d_find_86 (fun H locs hP hD hS => ?_)
      have hP : va_P (dC, dI) zz_cl [(o, .inr (1, [.int (nI n), .int (nI mb), .int (nI mk), .ref p1, .ref m1, .int (nI c9), .int (nI (sq + 1))])), (p1, .inl (cA 1, pn, .inr (.inl (lA p9)))), (m1, .inl (cA 0, ml, .inl (nA m9)))] H := hP
      have hD : va_D A [(o, .inr (1, [.int (nI n), .int (nI mb), .int (nI mk), .ref p1, .ref m1, .int (nI c9), .int (nI (sq + 1))])), (p1, .inl (cA 1, pn, .inr (.inl (lA p9)))), (m1, .inl (cA 0, ml, .inl (nA m9)))] := hD
      refine lv_iinc (v := (nI (i + 1))) (lv' := [(5, .int (nI (i + 1))), (0, .ref o), (1, .int (nI mp)), (2, .int (nI nd)), (3, .int (nI (mp ||| nd * 2 ^ mb))), (4, .int (nI ((2 ^ mb - 1) ||| nd * 2 ^ mb)))]) hx hb ps_d_find_89 hl (k := 5) rfl (nI_1 i) (by decide) rfl (fun ls hl => ?_)
      refine lv_goto (tgt := 29) hx hb ps_d_find_92 (by decide) ?_
      exact ih29 _ _ _ _ (by omega) ⟨i + 1, sq + 1, s9, f9, l9, w9, p9, m9, c9, rfl, by rw [show sq = i by omega]; exact gI9, by omega, by have := gX9.1; omega, gc9, bz_way_step (P := fun x => x &&& ((2 ^ mb - 1) ||| nd * 2 ^ mb) = mp ||| nd * 2 ^ mb) hI.1 gI9.1 (by omega) gX9.1 (fun j hj => (gX9.2 j hj).1) (fun j hj => (gX9.2 j hj).2) hf hw c_5, zp_ext_tr hXX gX9, hP, hD, hS, lv_sub hl [1, 2, 3, 4, 5, 0] rfl⟩
  · refine lv_iload hx hb ps_d_find_61 (lv_at hl 5 rfl) ?_
    have hP9 := hP.sub (ws' := [(o, .inr (1, [.int (nI n), .int (nI mb), .int (nI mk), .ref p1, .ref m1, .int (nI ca), .int (nI sq)])), (p1, .inl (cA 1, pn, .inr (.inl (lA pa)))), (m1, .inl (cA 0, ml, .inl (nA ma)))]) [0, 1, 2] rfl
    have hD9 := hD.sub (ws' := [(o, .inr (1, [.int (nI n), .int (nI mb), .int (nI mk), .ref p1, .ref m1, .int (nI ca), .int (nI sq)])), (p1, .inl (cA 1, pn, .inr (.inl (lA pa)))), (m1, .inl (cA 0, ml, .inl (nA ma)))]) [0, 1, 2] (by decide) rfl
    exact W.iret (v := (nI i)) hx hb hr (fun t ht hW => ⟨⟨(nI i), ((sa, fa, la, wa, pa, ma, ca), sq), rfl, ⟨⟨i, rfl, hlt, bz_hit (P := fun x => x &&& ((2 ^ mb - 1) ||| nd * 2 ^ mb) = mp ||| nd * 2 ^ mb) hI.1 hf hw hlt c_5⟩, hI, hsq, hcc, hXX⟩, by rw [ht]; exact hP9, hD9⟩, hS.F ht⟩) hS.2.2 ps_d_find_63
