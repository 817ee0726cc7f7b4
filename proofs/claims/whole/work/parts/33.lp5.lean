set_option maxHeartbeats 4000000 in
set_option maxRecDepth 100000 in
/-- find(phases, n) -/
theorem lp_find (l : Launch) (dC : Nat → ClassId) (dI : Nat → Nat → Nat) (cA : Nat → ClassId) (sz : Nat) (o b1 t1 g1 a2 n od fi la0 : Nat) (be tr ph : Nat → Nat) (rr : Nat → Nat) (M : Nat → Nat → Nat) (hn1 : 1 ≤ n) (hn : n ≤ 4) (htr : ∀ j, tr j < 8) (hbe : ∀ j, be j < 8) (hph : ∀ j, ph j < 8) : Met l lp_y_find lp_w_find ({ frames := 3, cells := 0, slots := 0, locals := 90 }) (va_Pc [.ref o, .ref a2, .int (nI n)] (zB (dC, dI) cA ([(o, .inr (0, [.ref b1, .int (nI od), .int (nI fi), .ref t1, .ref g1, .int (nI la0)])), (b1, .inl (cA 0, 16, .inl (nA be))), (t1, .inl (cA 0, 16, .inl (nA tr))), (g1, .inl (cA 4, 17, .inr (.inr (.inr (.inr (zg_o rr)))))), (a2, .inl (cA 0, 16, .inl (nA ph)))] ++ zg_w cA rr M) sz)) (va_Qv (fun (u : (Nat → Nat) × (Nat → Nat) × (Nat → Nat → Nat) × Nat × Nat) => (∀ j, u.1 j < 8) ∧ (∀ j, u.2.1 j < 8) ∧ pz_st (2 ^ n - 1) (fun w => pz_vec (2 ^ n - 1) w ∧ pz_rel (2 ^ n - 1) ph w) 1000 u.1 u.2.2.2.1 u.2.2.2.2) (fun u t => zE (dC, dI) (va_A ([(o, .inr (0, [.ref b1, .int (nI od), .int (nI fi), .ref t1, .ref g1, .int (nI la0)])), (b1, .inl (cA 0, 16, .inl (nA be))), (t1, .inl (cA 0, 16, .inl (nA tr))), (g1, .inl (cA 4, 17, .inr (.inr (.inr (.inr (zg_o rr)))))), (a2, .inl (cA 0, 16, .inl (nA ph)))] ++ zg_w cA rr M) sz) ((fun (u : (Nat → Nat) × (Nat → Nat) × (Nat → Nat → Nat) × Nat × Nat) => ([(o, .inr (0, [.ref b1, .int (nI u.2.2.2.1), .int (nI u.2.2.2.2), .ref t1, .ref g1, .int (nI (2 ^ n - 1))])), (b1, .inl (cA 0, 16, .inl (nA u.1))), (t1, .inl (cA 0, 16, .inl (nA u.2.1))), (g1, .inl (cA 4, 17, .inr (.inr (.inr (.inr (zg_o rr)))))), (a2, .inl (cA 0, 16, .inl (nA ph)))] ++ zg_w cA rr u.2.2.1)) u) t) (va_A ([(o, .inr (0, [.ref b1, .int (nI od), .int (nI fi), .ref t1, .ref g1, .int (nI la0)])), (b1, .inl (cA 0, 16, .inl (nA be))), (t1, .inl (cA 0, 16, .inl (nA tr))), (g1, .inl (cA 4, 17, .inr (.inr (.inr (.inr (zg_o rr)))))), (a2, .inl (cA 0, 16, .inl (nA ph)))] ++ zg_w cA rr M) sz)) 0 0 (va_A ([(o, .inr (0, [.ref b1, .int (nI od), .int (nI fi), .ref t1, .ref g1, .int (nI la0)])), (b1, .inl (cA 0, 16, .inl (nA be))), (t1, .inl (cA 0, 16, .inl (nA tr))), (g1, .inl (cA 4, 17, .inr (.inr (.inr (.inr (zg_o rr)))))), (a2, .inl (cA 0, 16, .inl (nA ph)))] ++ zg_w cA rr M) sz) := by
  refine Met.ofW (cc := lp_c_find) (maxL := 5) (ret := (none : Option Jvm.ClassFile.FieldType)) (by decide) rfl ?_
  intro p e s m args below meth c s₁ B hml hv
  obtain ⟨rfl, hsz, hP, hK, hD0, hZ⟩ := hv
  have hx := B.exec
  have hb := B.bytes
  have hr := B.returns
  have hts0 := atoms_spec (ws := lp_w_find) B.pre
  have hts : ∀ w ∈ zz_tbl, w.before _ s = true := fun w h => hts0 w (List.mem_cons_of_mem _ h)
  have hown : s.vm.findClass lp_R = some m.cls := findClass_of_methodNamed B.named
  have hlocks := B.notSynchronized
  subst hsz
  have hD := hD0.self (sz := s.heap.size)
  generalize hAe : va_A ([(o, .inr (0, [.ref b1, .int (nI od), .int (nI fi), .ref t1, .ref g1, .int (nI la0)])), (b1, .inl (cA 0, 16, .inl (nA be))), (t1, .inl (cA 0, 16, .inl (nA tr))), (g1, .inl (cA 4, 17, .inr (.inr (.inr (.inr (zg_o rr)))))), (a2, .inl (cA 0, 16, .inl (nA ph)))] ++ zg_w cA rr M) s.heap.size = A at hD hZ ⊢
  have hA : ∀ q : Nat, s.heap.size ≤ q → A q := fun q h => by rw [← hAe]; exact Or.inr h
  have hS : va_S A s.heap s.heap [] := va_S.rf
  have hP : va_P (dC, dI) zz_cl ([(o, .inr (0, [.ref b1, .int (nI od), .int (nI fi), .ref t1, .ref g1, .int (nI la0)])), (b1, .inl (cA 0, 16, .inl (nA be))), (t1, .inl (cA 0, 16, .inl (nA tr))), (g1, .inl (cA 4, 17, .inr (.inr (.inr (.inr (zg_o rr)))))), (a2, .inl (cA 0, 16, .inl (nA ph)))] ++ zg_w cA rr M) s.heap := hP
  have hl := lv_entry ([.ref o, .ref a2, .int (nI n)]) (n := 5) (Nat.le_of_ble_eq_true rfl)
  rw [lg_entry_eq]
  generalize (lg_sl ([.ref o, .ref a2, .int (nI n)]) ++ List.replicate (5 - (lg_sl ([.ref o, .ref a2, .int (nI n)])).length) Slot.unset).toArray = ls at hl ⊢
  have hl : lv_has ls 5 [(0, .ref o), (1, .ref a2), (2, .int (nI n))] := hl
  have hpow : 0 < 2 ^ n := Nat.two_pow_pos n
  have hpow2 : 2 ^ n ≤ 2 ^ 4 := Nat.pow_le_pow_right (by decide) hn
  obtain ⟨hw1, hw2, hw3⟩ := zf_ways hn1 hn
  have he0 : ∀ q, 1 ≤ q → q ≤ 2 ^ n - 1 → ((fun k => if k < 16 then ph k else tr k) : Nat → Nat) q = ph q := fun q h1 h2 => if_pos (by omega)
  have hr0 : pz_rel (2 ^ n - 1) ph (fun k => if k < 16 then ph k else tr k) := pz_rel_eq (fun q h1 h2 => (he0 q h1 h2).symm)
  refine lv_aload_n hx hb lp_d_find_0 rfl (lv_at hl 0 rfl) ?_
  refine lv_iconst (v := (nI 1)) hx hb lp_d_find_1 (by decide) ?_
  refine lv_iload_n hx hb lp_d_find_2 rfl (lv_at hl 2 rfl) ?_
  refine lv_ishl hx hb lp_d_find_3 ?_
  refine zt_i (zb_shl1 (k := n) (by omega)) ?_
  refine lv_iconst (v := (nI 1)) hx hb lp_d_find_4 (by decide) ?_
  refine lv_isub hx hb lp_d_find_5 ?_
  refine zt_i (pk_sub (a := (2 ^ n)) (b := 1) (by omega)) ?_
  refine va_put (D := (dC, dI)) (ci := 0) (v := .int (nI ((2 ^ n) - 1))) (ty := .int) (C := lp_R) (T := lp_T) (N := 6) hx hb hts lp_in lp_t lp_ok lp_nm hown hK hP hD hS 0 rfl rfl 5 (by decide) (hts _ zk_lp26) (fun _ h9 => h9) rfl (by decide +kernel) rfl rfl (Nat.le_of_ble_eq_true rfl) lp_d_find_6 (fun H locs hP hD hS => ?_)
  have hP : va_P (dC, dI) zz_cl ([(o, .inr (0, [.ref b1, .int (nI od), .int (nI fi), .ref t1, .ref g1, .int (nI ((2 ^ n) - 1))])), (b1, .inl (cA 0, 16, .inl (nA be))), (t1, .inl (cA 0, 16, .inl (nA tr))), (g1, .inl (cA 4, 17, .inr (.inr (.inr (.inr (zg_o rr)))))), (a2, .inl (cA 0, 16, .inl (nA ph)))] ++ zg_w cA rr M) H := hP
  have hD : va_D A ([(o, .inr (0, [.ref b1, .int (nI od), .int (nI fi), .ref t1, .ref g1, .int (nI ((2 ^ n) - 1))])), (b1, .inl (cA 0, 16, .inl (nA be))), (t1, .inl (cA 0, 16, .inl (nA tr))), (g1, .inl (cA 4, 17, .inr (.inr (.inr (.inr (zg_o rr)))))), (a2, .inl (cA 0, 16, .inl (nA ph)))] ++ zg_w cA rr M) := hD
  refine lv_aload_n hx hb lp_d_find_9 rfl (lv_at hl 0 rfl) ?_
  refine lv_sipush (v := (nI 1000)) hx hb lp_d_find_10 (by decide) ?_
  refine va_put (D := (dC, dI)) (ci := 0) (v := .int (nI 1000)) (ty := .int) (C := lp_R) (T := lp_T) (N := 6) hx hb hts lp_in lp_t lp_ok lp_nm hown hK hP hD hS 0 rfl rfl 1 (by decide) (hts _ zk_lp30) (fun _ h9 => h9) rfl (by decide +kernel) rfl rfl (Nat.le_of_ble_eq_true rfl) lp_d_find_13 (fun H locs hP hD hS => ?_)
  have hP : va_P (dC, dI) zz_cl ([(o, .inr (0, [.ref b1, .int (nI 1000), .int (nI fi), .ref t1, .ref g1, .int (nI ((2 ^ n) - 1))])), (b1, .inl (cA 0, 16, .inl (nA be))), (t1, .inl (cA 0, 16, .inl (nA tr))), (g1, .inl (cA 4, 17, .inr (.inr (.inr (.inr (zg_o rr)))))), (a2, .inl (cA 0, 16, .inl (nA ph)))] ++ zg_w cA rr M) H := hP
  have hD : va_D A ([(o, .inr (0, [.ref b1, .int (nI 1000), .int (nI fi), .ref t1, .ref g1, .int (nI ((2 ^ n) - 1))])), (b1, .inl (cA 0, 16, .inl (nA be))), (t1, .inl (cA 0, 16, .inl (nA tr))), (g1, .inl (cA 4, 17, .inr (.inr (.inr (.inr (zg_o rr)))))), (a2, .inl (cA 0, 16, .inl (nA ph)))] ++ zg_w cA rr M) := hD
  refine lv_aload_n hx hb lp_d_find_16 rfl (lv_at hl 0 rfl) ?_
  refine lv_sipush (v := (nI 1000)) hx hb lp_d_find_17 (by decide) ?_
  refine va_put (D := (dC, dI)) (ci := 0) (v := .int (nI 1000)) (ty := .int) (C := lp_R) (T := lp_T) (N := 6) hx hb hts lp_in lp_t lp_ok lp_nm hown hK hP hD hS 0 rfl rfl 2 (by decide) (hts _ zk_lp33) (fun _ h9 => h9) rfl (by decide +kernel) rfl rfl (Nat.le_of_ble_eq_true rfl) lp_d_find_20 (fun H locs hP hD hS => ?_)
  have hP : va_P (dC, dI) zz_cl ([(o, .inr (0, [.ref b1, .int (nI 1000), .int (nI 1000), .ref t1, .ref g1, .int (nI ((2 ^ n) - 1))])), (b1, .inl (cA 0, 16, .inl (nA be))), (t1, .inl (cA 0, 16, .inl (nA tr))), (g1, .inl (cA 4, 17, .inr (.inr (.inr (.inr (zg_o rr)))))), (a2, .inl (cA 0, 16, .inl (nA ph)))] ++ zg_w cA rr M) H := hP
  have hD : va_D A ([(o, .inr (0, [.ref b1, .int (nI 1000), .int (nI 1000), .ref t1, .ref g1, .int (nI ((2 ^ n) - 1))])), (b1, .inl (cA 0, 16, .inl (nA be))), (t1, .inl (cA 0, 16, .inl (nA tr))), (g1, .inl (cA 4, 17, .inr (.inr (.inr (.inr (zg_o rr)))))), (a2, .inl (cA 0, 16, .inl (nA ph)))] ++ zg_w cA rr M) := hD
  refine lv_aload_n hx hb lp_d_find_23 rfl (lv_at hl 1 rfl) ?_
  refine lv_iconst (v := (nI 0)) hx hb lp_d_find_24 (by decide) ?_
  refine lv_aload_n hx hb lp_d_find_25 rfl (lv_at hl 0 rfl) ?_
  refine va_get (D := (dC, dI)) (ci := 0) (v := .ref t1) (C := lp_R) (T := lp_T) (N := 6) hx hb hts lp_in hown hK hP 0 rfl rfl 3 (by decide) (hts _ zk_lp15) (fun _ h9 => h9) rfl lp_d_find_26 ?_
  refine lv_iconst (v := (nI 0)) hx hb lp_d_find_29 (by decide) ?_
  refine lv_bipush (v := (nI 16)) hx hb lp_d_find_30 (by decide) ?_
  refine va_copyi (rest := []) (n := nI 16) (sp := nI 0) (dp := nI 0) (ty := .int) hx hb (hml.trans hl.1.symm) hown (hts _ zk_lp36) (hts _ zk_native_arraycopy) (hts _ zk_static_arraycopy) (hts _ zk_in_java_lang_System) hK hP hD hS 4 2 0 0 rfl rfl rfl rfl rfl (by decide) (by decide) (by decide) (by decide) (by decide) (fun _ _ => rfl) (Nat.le_of_ble_eq_true rfl) (Nat.le_of_ble_eq_true rfl) lp_d_find_32 (fun H locs hP hD hS => ?_)
  rw [show (nI 0).toNatClampNeg = 0 from rfl, show (nI 16).toNatClampNeg = 16 from rfl, zm_cpy] at hP hD
  have hP : va_P (dC, dI) zz_cl ([(o, .inr (0, [.ref b1, .int (nI 1000), .int (nI 1000), .ref t1, .ref g1, .int (nI ((2 ^ n) - 1))])), (b1, .inl (cA 0, 16, .inl (nA be))), (t1, .inl (cA 0, 16, .inl (nA (fun k => if k < 16 then ph k else tr k)))), (g1, .inl (cA 4, 17, .inr (.inr (.inr (.inr (zg_o rr)))))), (a2, .inl (cA 0, 16, .inl (nA ph)))] ++ zg_w cA rr M) H := hP
  have hD : va_D A ([(o, .inr (0, [.ref b1, .int (nI 1000), .int (nI 1000), .ref t1, .ref g1, .int (nI ((2 ^ n) - 1))])), (b1, .inl (cA 0, 16, .inl (nA be))), (t1, .inl (cA 0, 16, .inl (nA (fun k => if k < 16 then ph k else tr k)))), (g1, .inl (cA 4, 17, .inr (.inr (.inr (.inr (zg_o rr)))))), (a2, .inl (cA 0, 16, .inl (nA ph)))] ++ zg_w cA rr M) := hD
  refine lv_aload_n hx hb lp_d_find_35 rfl (lv_at hl 0 rfl) ?_
  refine zq_Vwv (n := 0) (As := []) (rest := []) (wc := ([(o, .inr (0, [.ref b1, .int (nI 1000), .int (nI 1000), .ref t1, .ref g1, .int (nI ((2 ^ n) - 1))])), (b1, .inl (cA 0, 16, .inl (nA be))), (t1, .inl (cA 0, 16, .inl (nA (fun k => if k < 16 then ph k else tr k)))), (g1, .inl (cA 4, 17, .inr (.inr (.inr (.inr (zg_o rr))))))] ++ zg_w cA rr M)) (wr := [(a2, .inl (cA 0, 16, .inl (nA ph)))]) ⟨hx, hb, hml, hown, hts⟩ (lp_look l dC dI cA _ o b1 t1 g1 n 1000 1000 be (fun k => if k < 16 then ph k else tr k) rr M (fun _ => False) hn (zf_cp8 hph htr) hbe (fun _ _ _ h => h) (Or.inl ⟨rfl, rfl, fun _ h => h⟩) (Nat.le_refl _) (Nat.le_refl _)) zg_lp42 (by decide +kernel) ⟨rfl, rfl⟩ ⟨Nat.le_of_ble_eq_true rfl, Nat.le_of_ble_eq_true rfl⟩ hK hP hD hS hA hZ [0, 1, 2, 3, 5, 6, 7, 8, 9, 10, 11, 12, 13, 14, 15, 16, 17, 18, 19, 20, 21] [4] rfl rfl (by decide) 0 0 rfl rfl rfl rfl hl.1 rfl (Nat.le_of_ble_eq_true rfl) lp_d_find_36 (fun u_3 H locs h_2 hP hD hS => ?_) ⟨Nat.le_of_ble_eq_true rfl, Nat.le_of_ble_eq_true rfl⟩
  obtain ⟨be3, tr3, M3, od3, fi3⟩ := u_3
  obtain ⟨lt3, lb3, lk3, ls3⟩ := h_2
  try dsimp only at lt3 lb3 lk3 ls3
  have hP : va_P (dC, dI) zz_cl ([(a2, .inl (cA 0, 16, .inl (nA ph))), (o, .inr (0, [.ref b1, .int (nI od3), .int (nI fi3), .ref t1, .ref g1, .int (nI ((2 ^ n) - 1))])), (b1, .inl (cA 0, 16, .inl (nA be3))), (t1, .inl (cA 0, 16, .inl (nA tr3))), (g1, .inl (cA 4, 17, .inr (.inr (.inr (.inr (zg_o rr))))))] ++ zg_w cA rr M3) H := hP
  have hD : va_D A ([(a2, .inl (cA 0, 16, .inl (nA ph))), (o, .inr (0, [.ref b1, .int (nI od3), .int (nI fi3), .ref t1, .ref g1, .int (nI ((2 ^ n) - 1))])), (b1, .inl (cA 0, 16, .inl (nA be3))), (t1, .inl (cA 0, 16, .inl (nA tr3))), (g1, .inl (cA 4, 17, .inr (.inr (.inr (.inr (zg_o rr))))))] ++ zg_w cA rr M3) := hD
  refine lv_iconst (v := (nI 1)) hx hb lp_d_find_39 (by decide) ?_
  refine zs_get hx hb hZ.2.2.1 hS hown (hts _ zk_lp23) lp_d_find_40 (fun t_4 ht_4 => ?_)
  refine lv_iload_n hx hb lp_d_find_43 rfl (lv_at hl 2 rfl) ?_
  refine zs_ald hx hb ht_4 hS (k := n) (by omega) (by decide) lp_d_find_44 ?_
  refine lv_ishl hx hb lp_d_find_45 ?_
  refine zt_i (zb_shl1 (k := (zs_shifts n)) (by omega)) ?_
  refine lv_istore_n (lv' := [(3, .int (nI (2 ^ (zs_shifts n)))), (0, .ref o), (1, .ref a2), (2, .int (nI n))]) hx hb lp_d_find_46 rfl hl (by decide) rfl (fun ls hl => ?_)
  refine lv_iconst (v := (nI 1)) hx hb lp_d_find_47 (by decide) ?_
  refine lv_istore (lv' := [(4, .int (nI 1)), (3, .int (nI (2 ^ (zs_shifts n)))), (0, .ref o), (1, .ref a2), (2, .int (nI n))]) hx hb lp_d_find_48 hl (by decide) rfl (fun ls hl => ?_)
  refine zl_loop (J := fun k ls H locs => ∃ (kk : Nat) (bk : Nat → Nat) (tk : Nat → Nat) (Mk : Nat → Nat → Nat) (ok : Nat) (fk : Nat), k = 2 ^ zs_shifts n - kk ∧ (kk < 2 ^ zs_shifts n) ∧ (∀ j, tk j < 8) ∧ (∀ j, bk j < 8) ∧ (pz_rel (2 ^ n - 1) ph tk) ∧ (∀ p, 1 ≤ p → p ≤ 2 ^ n - 1 → tk p % 4 = pz_sh ph (zf_gray kk) p % 4) ∧ (pz_st (2 ^ n - 1) (zf_SS (2 ^ n - 1) ph kk) 1000 bk ok fk) ∧ va_P (dC, dI) zz_cl ([(a2, .inl (cA 0, 16, .inl (nA ph))), (o, .inr (0, [.ref b1, .int (nI ok), .int (nI fk), .ref t1, .ref g1, .int (nI (2 ^ n - 1))])), (b1, .inl (cA 0, 16, .inl (nA bk))), (t1, .inl (cA 0, 16, .inl (nA tk))), (g1, .inl (cA 4, 17, .inr (.inr (.inr (.inr (zg_o rr))))))] ++ zg_w cA rr Mk) H ∧ va_D A ([(a2, .inl (cA 0, 16, .inl (nA ph))), (o, .inr (0, [.ref b1, .int (nI ok), .int (nI fk), .ref t1, .ref g1, .int (nI (2 ^ n - 1))])), (b1, .inl (cA 0, 16, .inl (nA bk))), (t1, .inl (cA 0, 16, .inl (nA tk))), (g1, .inl (cA 4, 17, .inr (.inr (.inr (.inr (zg_o rr))))))] ++ zg_w cA rr Mk) ∧ va_S A s.heap H locs ∧ lv_has ls 5 [(0, .ref o), (2, .int (nI n)), (3, .int (nI (2 ^ zs_shifts n))), (4, .int (nI (kk + 1)))]) (fun k50 ls H locs hJ50 ih50 => ?_) (2 ^ zs_shifts n - 0) ⟨0, be3, tr3, M3, od3, fi3, rfl, by omega, lt3, lb3, pz_rel_trans hr0 lk3.2.2, fun q h1 h2 => by rw [lk3.2.1 q h1 h2, show zf_gray 0 = 0 from rfl, zf_sh0, he0 q h1 h2], pz_st_ext ls3 (zf_SS_0 he0), hP, hD, hS, lv_sub hl [2, 4, 1, 0] rfl⟩
  obtain ⟨kk, bk, tk, Mk, ok, fk, hk50, hkk, htk, hbk, hrk, hmk, hsk, hP, hD, hS, hl⟩ := hJ50
  refine lv_iload hx hb lp_d_find_50 (lv_at hl 3 rfl) ?_
  refine lv_iload_n hx hb lp_d_find_52 rfl (lv_at hl 2 rfl) ?_
  refine zc_ge (tgt := 75) hx hb lp_d_find_53 (by decide) (by omega) (by omega) (fun c_5 => ?_) (fun c_5 => ?_)
  · have hP9 := hP.sub (ws' := ([(o, .inr (0, [.ref b1, .int (nI ok), .int (nI fk), .ref t1, .ref g1, .int (nI (2 ^ n - 1))])), (b1, .inl (cA 0, 16, .inl (nA bk))), (t1, .inl (cA 0, 16, .inl (nA tk))), (g1, .inl (cA 4, 17, .inr (.inr (.inr (.inr (zg_o rr)))))), (a2, .inl (cA 0, 16, .inl (nA ph)))] ++ zg_w cA rr Mk)) [1, 2, 3, 4, 0, 5, 6, 7, 8, 9, 10, 11, 12, 13, 14, 15, 16, 17, 18, 19, 20, 21] rfl
    have hD9 := hD.sub (ws' := ([(o, .inr (0, [.ref b1, .int (nI ok), .int (nI fk), .ref t1, .ref g1, .int (nI (2 ^ n - 1))])), (b1, .inl (cA 0, 16, .inl (nA bk))), (t1, .inl (cA 0, 16, .inl (nA tk))), (g1, .inl (cA 4, 17, .inr (.inr (.inr (.inr (zg_o rr)))))), (a2, .inl (cA 0, 16, .inl (nA ph)))] ++ zg_w cA rr Mk)) [1, 2, 3, 4, 0, 5, 6, 7, 8, 9, 10, 11, 12, 13, 14, 15, 16, 17, 18, 19, 20, 21] (by decide) rfl
    exact W.vret hx hb hr (fun t ht hW => ⟨⟨(bk, tk, Mk, ok, fk), rfl, ⟨hbk, htk, pz_st_ext hsk (zf_SS_all hn1 hn hph (by omega))⟩, by rw [ht]; exact hP9, hD9⟩, hS.F ht⟩) hS.2.2 lp_d_find_75
  · have hnx := zf_next hn1 hn (show kk + 1 < 2 ^ zs_shifts n by omega) htk hrk hmk
    have hcz := (zf_gray_step kk (by omega)).2.2.1
    refine lv_aload_n hx hb lp_d_find_56 rfl (lv_at hl 0 rfl) ?_
    refine lv_iload hx hb lp_d_find_57 (lv_at hl 3 rfl) ?_
    refine zq_Si (n := 1) (As := [.int (nI (kk + 1))]) (rest := [.ref o]) ⟨hx, hb, hml, hown, hts⟩ (jd_ctz l (kk + 1) (by omega) (by omega)) zg_lp45 (by decide +kernel) ⟨rfl, rfl⟩ ⟨Nat.le_of_ble_eq_true rfl, Nat.le_of_ble_eq_true rfl⟩ rfl hl.1 rfl (Nat.le_of_ble_eq_true rfl) lp_d_find_59 (fun r_6 h_7 => ?_) ⟨Nat.le_of_ble_eq_true rfl, Nat.le_of_ble_eq_true rfl⟩
    subst h_7
    refine zq_Vwv (n := 1) (As := [.int (nI (pz_ctz (kk + 1)))]) (rest := []) (wc := [(o, .inr (0, [.ref b1, .int (nI ok), .int (nI fk), .ref t1, .ref g1, .int (nI (2 ^ n - 1))])), (t1, .inl (cA 0, 16, .inl (nA tk)))]) (wr := ([(a2, .inl (cA 0, 16, .inl (nA ph))), (b1, .inl (cA 0, 16, .inl (nA bk))), (g1, .inl (cA 4, 17, .inr (.inr (.inr (.inr (zg_o rr))))))] ++ zg_w cA rr Mk)) ⟨hx, hb, hml, hown, hts⟩ (lp_shiftTried l dC dI cA _ o b1 t1 g1 n ok fk tk (pz_ctz (kk + 1)) hn htk hcz) zg_lp51 (by decide +kernel) ⟨rfl, rfl⟩ ⟨Nat.le_of_ble_eq_true rfl, Nat.le_of_ble_eq_true rfl⟩ hK hP hD hS hA hZ [1, 3] [0, 2, 4, 5, 6, 7, 8, 9, 10, 11, 12, 13, 14, 15, 16, 17, 18, 19, 20, 21] rfl rfl (by decide) 0 0 rfl rfl rfl rfl hl.1 rfl (Nat.le_of_ble_eq_true rfl) lp_d_find_62 (fun u_10 H locs h_9 hP hD hS => ?_) ⟨Nat.le_of_ble_eq_true rfl, Nat.le_of_ble_eq_true rfl⟩
    subst h_9
    have hP : va_P (dC, dI) zz_cl (([(a2, .inl (cA 0, 16, .inl (nA ph))), (b1, .inl (cA 0, 16, .inl (nA bk))), (g1, .inl (cA 4, 17, .inr (.inr (.inr (.inr (zg_o rr))))))] ++ zg_w cA rr Mk) ++ [(o, .inr (0, [.ref b1, .int (nI ok), .int (nI fk), .ref t1, .ref g1, .int (nI (2 ^ n - 1))])), (t1, .inl (cA 0, 16, .inl (nA (zf_shift (zs_set (pz_ctz (kk + 1))) (zs_size (pz_ctz (kk + 1))) (2 ^ n - 1) tk))))]) H := hP
    have hD : va_D A (([(a2, .inl (cA 0, 16, .inl (nA ph))), (b1, .inl (cA 0, 16, .inl (nA bk))), (g1, .inl (cA 4, 17, .inr (.inr (.inr (.inr (zg_o rr))))))] ++ zg_w cA rr Mk) ++ [(o, .inr (0, [.ref b1, .int (nI ok), .int (nI fk), .ref t1, .ref g1, .int (nI (2 ^ n - 1))])), (t1, .inl (cA 0, 16, .inl (nA (zf_shift (zs_set (pz_ctz (kk + 1))) (zs_size (pz_ctz (kk + 1))) (2 ^ n - 1) tk))))]) := hD
    have hP := hP.sub (ws' := ([(a2, .inl (cA 0, 16, .inl (nA ph))), (b1, .inl (cA 0, 16, .inl (nA bk))), (g1, .inl (cA 4, 17, .inr (.inr (.inr (.inr (zg_o rr)))))), (o, .inr (0, [.ref b1, .int (nI ok), .int (nI fk), .ref t1, .ref g1, .int (nI (2 ^ n - 1))])), (t1, .inl (cA 0, 16, .inl (nA (zf_shift (zs_set (pz_ctz (kk + 1))) (zs_size (pz_ctz (kk + 1))) (2 ^ n - 1) tk))))] ++ zg_w cA rr Mk)) [0, 1, 2, 20, 21, 3, 4, 5, 6, 7, 8, 9, 10, 11, 12, 13, 14, 15, 16, 17, 18, 19] rfl
    have hD := hD.sub (ws' := ([(a2, .inl (cA 0, 16, .inl (nA ph))), (b1, .inl (cA 0, 16, .inl (nA bk))), (g1, .inl (cA 4, 17, .inr (.inr (.inr (.inr (zg_o rr)))))), (o, .inr (0, [.ref b1, .int (nI ok), .int (nI fk), .ref t1, .ref g1, .int (nI (2 ^ n - 1))])), (t1, .inl (cA 0, 16, .inl (nA (zf_shift (zs_set (pz_ctz (kk + 1))) (zs_size (pz_ctz (kk + 1))) (2 ^ n - 1) tk))))] ++ zg_w cA rr Mk)) [0, 1, 2, 20, 21, 3, 4, 5, 6, 7, 8, 9, 10, 11, 12, 13, 14, 15, 16, 17, 18, 19] (by decide) rfl
    refine lv_aload_n hx hb lp_d_find_65 rfl (lv_at hl 0 rfl) ?_
    refine zq_Vwv (n := 0) (As := []) (rest := []) (wc := ([(o, .inr (0, [.ref b1, .int (nI ok), .int (nI fk), .ref t1, .ref g1, .int (nI (2 ^ n - 1))])), (b1, .inl (cA 0, 16, .inl (nA bk))), (t1, .inl (cA 0, 16, .inl (nA (zf_shift (zs_set (pz_ctz (kk + 1))) (zs_size (pz_ctz (kk + 1))) (2 ^ n - 1) tk)))), (g1, .inl (cA 4, 17, .inr (.inr (.inr (.inr (zg_o rr))))))] ++ zg_w cA rr Mk)) (wr := [(a2, .inl (cA 0, 16, .inl (nA ph)))]) ⟨hx, hb, hml, hown, hts⟩ (lp_look l dC dI cA _ o b1 t1 g1 n ok fk bk (zf_shift (zs_set (pz_ctz (kk + 1))) (zs_size (pz_ctz (kk + 1))) (2 ^ n - 1) tk) rr Mk (zf_SS (2 ^ n - 1) ph kk) hn (zf_shift_lt htk) hbk (zf_SS_cl _ _ _) hsk (pz_st_le (by omega) hsk).1 (pz_st_le (by omega) hsk).2) zg_lp42 (by decide +kernel) ⟨rfl, rfl⟩ ⟨Nat.le_of_ble_eq_true rfl, Nat.le_of_ble_eq_true rfl⟩ hK hP hD hS hA hZ [3, 1, 4, 2, 5, 6, 7, 8, 9, 10, 11, 12, 13, 14, 15, 16, 17, 18, 19, 20, 21] [0] rfl rfl (by decide) 0 0 rfl rfl rfl rfl hl.1 rfl (Nat.le_of_ble_eq_true rfl) lp_d_find_66 (fun u_13 H locs h_12 hP hD hS => ?_) ⟨Nat.le_of_ble_eq_true rfl, Nat.le_of_ble_eq_true rfl⟩
    obtain ⟨be13, tr13, M13, od13, fi13⟩ := u_13
    obtain ⟨lt13, lb13, lk13, ls13⟩ := h_12
    try dsimp only at lt13 lb13 lk13 ls13
    have hP : va_P (dC, dI) zz_cl ([(a2, .inl (cA 0, 16, .inl (nA ph))), (o, .inr (0, [.ref b1, .int (nI od13), .int (nI fi13), .ref t1, .ref g1, .int (nI (2 ^ n - 1))])), (b1, .inl (cA 0, 16, .inl (nA be13))), (t1, .inl (cA 0, 16, .inl (nA tr13))), (g1, .inl (cA 4, 17, .inr (.inr (.inr (.inr (zg_o rr))))))] ++ zg_w cA rr M13) H := hP
    have hD : va_D A ([(a2, .inl (cA 0, 16, .inl (nA ph))), (o, .inr (0, [.ref b1, .int (nI od13), .int (nI fi13), .ref t1, .ref g1, .int (nI (2 ^ n - 1))])), (b1, .inl (cA 0, 16, .inl (nA be13))), (t1, .inl (cA 0, 16, .inl (nA tr13))), (g1, .inl (cA 4, 17, .inr (.inr (.inr (.inr (zg_o rr))))))] ++ zg_w cA rr M13) := hD
    refine lv_iinc (v := (nI ((kk + 1) + 1))) (lv' := [(4, .int (nI ((kk + 1) + 1))), (0, .ref o), (2, .int (nI n)), (3, .int (nI (2 ^ zs_shifts n)))]) hx hb lp_d_find_69 hl (k := 3) rfl (nI_1 (kk + 1)) (by decide) rfl (fun ls hl => ?_)
    refine lv_goto (tgt := 50) hx hb lp_d_find_72 (by decide) ?_
    exact ih50 _ _ _ _ (by omega) ⟨kk + 1, be13, tr13, M13, od13, fi13, rfl, by omega, lt13, lb13, pz_rel_trans hnx.1 lk13.2.2, fun q h1 h2 => (lk13.2.1 q h1 h2).trans (hnx.2 q h1 h2), pz_st_ext ls13 (zf_SS_1 hnx.1 hnx.2), hP, hD, hS, lv_sub hl [1, 2, 3, 0] rfl⟩
