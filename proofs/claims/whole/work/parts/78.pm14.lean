set_option maxHeartbeats 4000000 in
set_option maxRecDepth 100000 in
/-- total(x) -/
theorem pm_total (l : Launch) (dC : Nat → ClassId) (dI : Nat → Nat → Nat) (cA : Nat → ClassId) (sz : Nat) (o : Nat) (ad : Nat → Nat) (n kl ki kw bo bt my pg lg ng : Nat) (ph : Nat → Nat) (x : Int32) (hn1 : 1 ≤ n) (hn : n ≤ 4) (hph : ∀ j, ph j < 8) : Met l pm_y_total pm_w_total ({ frames := 2, cells := 0, slots := 0, locals := 43 }) (va_Pc [.ref o, .int x] (zB (dC, dI) cA [(o, .inr (3, [.int (nI 0), .int (nI n), .ref (ad 0), .ref (ad 1), .int (nI kl), .int (nI ki), .int (nI kw), .ref (ad 2), .ref (ad 3), .int (nI bo), .int (nI bt), .ref (ad 4), .ref (ad 5), .ref (ad 6), .ref (ad 7), .ref (ad 8), .int (nI my), .ref (ad 9), .int (nI pg), .ref (ad 10), .int (nI lg), .ref (ad 11), .int (nI ng)])), (ad 1, .inl (cA 0, 16, .inl (nA ph)))] sz)) (va_Qi (fun (r : Int32) (_ : Unit) => zt_ans n (pz_nz ph (2 ^ n - 1)) (pz_odd ph (2 ^ n - 1)) (2 ^ (zs_shifts n + (2 ^ n - 1) - n)) x r) (fun u t => zE (dC, dI) (va_A [(o, .inr (3, [.int (nI 0), .int (nI n), .ref (ad 0), .ref (ad 1), .int (nI kl), .int (nI ki), .int (nI kw), .ref (ad 2), .ref (ad 3), .int (nI bo), .int (nI bt), .ref (ad 4), .ref (ad 5), .ref (ad 6), .ref (ad 7), .ref (ad 8), .int (nI my), .ref (ad 9), .int (nI pg), .ref (ad 10), .int (nI lg), .ref (ad 11), .int (nI ng)])), (ad 1, .inl (cA 0, 16, .inl (nA ph)))] sz) ((fun _ => [(o, .inr (3, [.int (nI 0), .int (nI n), .ref (ad 0), .ref (ad 1), .int (nI kl), .int (nI ki), .int (nI kw), .ref (ad 2), .ref (ad 3), .int (nI bo), .int (nI bt), .ref (ad 4), .ref (ad 5), .ref (ad 6), .ref (ad 7), .ref (ad 8), .int (nI my), .ref (ad 9), .int (nI pg), .ref (ad 10), .int (nI lg), .ref (ad 11), .int (nI ng)])), (ad 1, .inl (cA 0, 16, .inl (nA ph)))]) u) t) (va_A [(o, .inr (3, [.int (nI 0), .int (nI n), .ref (ad 0), .ref (ad 1), .int (nI kl), .int (nI ki), .int (nI kw), .ref (ad 2), .ref (ad 3), .int (nI bo), .int (nI bt), .ref (ad 4), .ref (ad 5), .ref (ad 6), .ref (ad 7), .ref (ad 8), .int (nI my), .ref (ad 9), .int (nI pg), .ref (ad 10), .int (nI lg), .ref (ad 11), .int (nI ng)])), (ad 1, .inl (cA 0, 16, .inl (nA ph)))] sz)) 0 0 (va_A [(o, .inr (3, [.int (nI 0), .int (nI n), .ref (ad 0), .ref (ad 1), .int (nI kl), .int (nI ki), .int (nI kw), .ref (ad 2), .ref (ad 3), .int (nI bo), .int (nI bt), .ref (ad 4), .ref (ad 5), .ref (ad 6), .ref (ad 7), .ref (ad 8), .int (nI my), .ref (ad 9), .int (nI pg), .ref (ad 10), .int (nI lg), .ref (ad 11), .int (nI ng)])), (ad 1, .inl (cA 0, 16, .inl (nA ph)))] sz) := by
  refine Met.ofW (cc := pm_c_total) (maxL := 5) (ret := (some .int)) (by decide) rfl ?_
  intro p e s m args below meth c s₁ B hml hv
  obtain ⟨rfl, hsz, hP, hK, hD0, hZ⟩ := hv
  have hx := B.exec
  have hb := B.bytes
  have hr := B.returns
  have hts0 := atoms_spec (ws := pm_w_total) B.pre
  have hts : ∀ w ∈ zz_tbl, w.before _ s = true := fun w h => hts0 w (List.mem_cons_of_mem _ h)
  have hown : s.vm.findClass pm_R = some m.cls := findClass_of_methodNamed B.named
  have hlocks := B.notSynchronized
  subst hsz
  have hD := hD0.self (sz := s.heap.size)
  generalize hAe : va_A [(o, .inr (3, [.int (nI 0), .int (nI n), .ref (ad 0), .ref (ad 1), .int (nI kl), .int (nI ki), .int (nI kw), .ref (ad 2), .ref (ad 3), .int (nI bo), .int (nI bt), .ref (ad 4), .ref (ad 5), .ref (ad 6), .ref (ad 7), .ref (ad 8), .int (nI my), .ref (ad 9), .int (nI pg), .ref (ad 10), .int (nI lg), .ref (ad 11), .int (nI ng)])), (ad 1, .inl (cA 0, 16, .inl (nA ph)))] s.heap.size = A at hD hZ ⊢
  have hA : ∀ q : Nat, s.heap.size ≤ q → A q := fun q h => by rw [← hAe]; exact Or.inr h
  have hS : va_S A s.heap s.heap [] := va_S.rf
  have hP : va_P (dC, dI) zz_cl [(o, .inr (3, [.int (nI 0), .int (nI n), .ref (ad 0), .ref (ad 1), .int (nI kl), .int (nI ki), .int (nI kw), .ref (ad 2), .ref (ad 3), .int (nI bo), .int (nI bt), .ref (ad 4), .ref (ad 5), .ref (ad 6), .ref (ad 7), .ref (ad 8), .int (nI my), .ref (ad 9), .int (nI pg), .ref (ad 10), .int (nI lg), .ref (ad 11), .int (nI ng)])), (ad 1, .inl (cA 0, 16, .inl (nA ph)))] s.heap := hP
  have hl := lv_entry ([.ref o, .int x]) (n := 5) (Nat.le_of_ble_eq_true rfl)
  rw [lg_entry_eq]
  generalize (lg_sl ([.ref o, .int x]) ++ List.replicate (5 - (lg_sl ([.ref o, .int x])).length) Slot.unset).toArray = ls at hl ⊢
  have hl : lv_has ls 5 [(0, .ref o), (1, .int x)] := hl
  have hpow : 0 < 2 ^ n := Nat.two_pow_pos n
  have hpow2 : 2 ^ n ≤ 2 ^ 4 := Nat.pow_le_pow_right (by decide) hn
  have hc26 := zms_2 hn1 hn
  refine lv_aload_n hx hb pm_d_total_0 rfl (lv_at hl 0 rfl) ?_
  refine lv_iconst (v := (nI 0)) hx hb pm_d_total_1 (by decide) ?_
  refine va_put (D := (dC, dI)) (ci := 3) (v := .int (nI 0)) (ty := .int) (C := pm_R) (T := pm_T) (N := 23) hx hb hts pm_in pm_t pm_ok pm_nm hown hK hP hD hS 0 rfl rfl 0 (by decide) (hts _ zk_pm52) (fun _ h9 => h9) rfl (by decide +kernel) rfl rfl (Nat.le_of_ble_eq_true rfl) pm_d_total_2 (fun H locs hP hD hS => ?_)
  have hP : va_P (dC, dI) zz_cl [(o, .inr (3, [.int (nI 0), .int (nI n), .ref (ad 0), .ref (ad 1), .int (nI kl), .int (nI ki), .int (nI kw), .ref (ad 2), .ref (ad 3), .int (nI bo), .int (nI bt), .ref (ad 4), .ref (ad 5), .ref (ad 6), .ref (ad 7), .ref (ad 8), .int (nI my), .ref (ad 9), .int (nI pg), .ref (ad 10), .int (nI lg), .ref (ad 11), .int (nI ng)])), (ad 1, .inl (cA 0, 16, .inl (nA ph)))] H := hP
  have hD : va_D A [(o, .inr (3, [.int (nI 0), .int (nI n), .ref (ad 0), .ref (ad 1), .int (nI kl), .int (nI ki), .int (nI kw), .ref (ad 2), .ref (ad 3), .int (nI bo), .int (nI bt), .ref (ad 4), .ref (ad 5), .ref (ad 6), .ref (ad 7), .ref (ad 8), .int (nI my), .ref (ad 9), .int (nI pg), .ref (ad 10), .int (nI lg), .ref (ad 11), .int (nI ng)])), (ad 1, .inl (cA 0, 16, .inl (nA ph)))] := hD
  refine lv_iconst (v := (nI 0)) hx hb pm_d_total_5 (by decide) ?_
  refine lv_istore_n (lv' := [(2, .int (nI 0)), (0, .ref o), (1, .int x)]) hx hb pm_d_total_6 rfl hl (by decide) rfl (fun ls hl => ?_)
  refine lv_iconst (v := (nI 0)) hx hb pm_d_total_7 (by decide) ?_
  refine lv_istore_n (lv' := [(3, .int (nI 0)), (2, .int (nI 0)), (0, .ref o), (1, .int x)]) hx hb pm_d_total_8 rfl hl (by decide) rfl (fun ls hl => ?_)
  refine lv_iconst (v := (nI 1)) hx hb pm_d_total_9 (by decide) ?_
  refine lv_istore (lv' := [(4, .int (nI 1)), (3, .int (nI 0)), (2, .int (nI 0)), (0, .ref o), (1, .int x)]) hx hb pm_d_total_10 hl (by decide) rfl (fun ls hl => ?_)
  refine zl_loop (J := fun k ls H locs => ∃ (i : Nat), k = 2 ^ n - 1 - i ∧ (i ≤ 2 ^ n - 1) ∧ va_P (dC, dI) zz_cl [(o, .inr (3, [.int (nI 0), .int (nI n), .ref (ad 0), .ref (ad 1), .int (nI kl), .int (nI ki), .int (nI kw), .ref (ad 2), .ref (ad 3), .int (nI bo), .int (nI bt), .ref (ad 4), .ref (ad 5), .ref (ad 6), .ref (ad 7), .ref (ad 8), .int (nI my), .ref (ad 9), .int (nI pg), .ref (ad 10), .int (nI lg), .ref (ad 11), .int (nI ng)])), (ad 1, .inl (cA 0, 16, .inl (nA ph)))] H ∧ va_D A [(o, .inr (3, [.int (nI 0), .int (nI n), .ref (ad 0), .ref (ad 1), .int (nI kl), .int (nI ki), .int (nI kw), .ref (ad 2), .ref (ad 3), .int (nI bo), .int (nI bt), .ref (ad 4), .ref (ad 5), .ref (ad 6), .ref (ad 7), .ref (ad 8), .int (nI my), .ref (ad 9), .int (nI pg), .ref (ad 10), .int (nI lg), .ref (ad 11), .int (nI ng)])), (ad 1, .inl (cA 0, 16, .inl (nA ph)))] ∧ va_S A s.heap H locs ∧ lv_has ls 5 [(0, .ref o), (1, .int x), (2, .int (nI (pz_nz ph i))), (3, .int (nI (pz_odd ph i))), (4, .int (nI (i + 1)))]) (fun k12 ls H locs hJ12 ih12 => ?_) (2 ^ n - 1 - 0) ⟨0, rfl, Nat.zero_le _, hP, hD, hS, lv_sub hl [3, 4, 2, 1, 0] rfl⟩
  obtain ⟨i, hk12, hi, hP, hD, hS, hl⟩ := hJ12
  refine lv_iload hx hb pm_d_total_12 (lv_at hl 4 rfl) ?_
  refine lv_aload_n hx hb pm_d_total_14 rfl (lv_at hl 0 rfl) ?_
  refine zq_Vi (n := 0) (As := []) (rest := [.int (nI (i + 1))]) ⟨hx, hb, hml, hown, hts⟩ (pm_parities l dC dI cA o ad n kl ki kw bo bt my pg lg ng (by omega)) zg_pm79 (by decide +kernel) ⟨rfl, rfl⟩ ⟨Nat.le_of_ble_eq_true rfl, Nat.le_of_ble_eq_true rfl⟩ hK (hP.sub (ws' := [(o, .inr (3, [.int (nI 0), .int (nI n), .ref (ad 0), .ref (ad 1), .int (nI kl), .int (nI ki), .int (nI kw), .ref (ad 2), .ref (ad 3), .int (nI bo), .int (nI bt), .ref (ad 4), .ref (ad 5), .ref (ad 6), .ref (ad 7), .ref (ad 8), .int (nI my), .ref (ad 9), .int (nI pg), .ref (ad 10), .int (nI lg), .ref (ad 11), .int (nI ng)]))]) [0] rfl) 3 0 rfl rfl rfl rfl hl.1 rfl (Nat.le_of_ble_eq_true rfl) pm_d_total_15 (fun r_1 h_2 => ?_) ⟨Nat.le_of_ble_eq_true rfl, Nat.le_of_ble_eq_true rfl⟩
  subst h_2
  refine zc_ge (tgt := 57) hx hb pm_d_total_18 (by decide) (by omega) (by omega) (fun c_3 => ?_) (fun c_3 => ?_)
  · obtain rfl : i = 2 ^ n - 1 := by omega
    refine lv_iload_n hx hb pm_d_total_57 rfl (lv_at hl 1 rfl) ?_
    rcases zt_03 x with rfl | rfl | rfl | rfl | hno
    · refine lv_tableIn (off := 30) (tgt := 88) hx hb pm_d_total_58 (by decide) (by decide) (by decide) (by decide) ?_
      refine lv_aload_n hx hb pm_d_total_88 rfl (lv_at hl 0 rfl) ?_
      refine va_get (D := (dC, dI)) (ci := 3) (v := .int (nI n)) (C := pm_R) (T := pm_T) (N := 23) hx hb hts pm_in hown hK hP 0 rfl rfl 1 (by decide) (hts _ zk_pm56) (fun _ h9 => h9) rfl pm_d_total_89 ?_
      have hP9 := hP.sub (ws' := [(o, .inr (3, [.int (nI 0), .int (nI n), .ref (ad 0), .ref (ad 1), .int (nI kl), .int (nI ki), .int (nI kw), .ref (ad 2), .ref (ad 3), .int (nI bo), .int (nI bt), .ref (ad 4), .ref (ad 5), .ref (ad 6), .ref (ad 7), .ref (ad 8), .int (nI my), .ref (ad 9), .int (nI pg), .ref (ad 10), .int (nI lg), .ref (ad 11), .int (nI ng)])), (ad 1, .inl (cA 0, 16, .inl (nA ph)))]) [0, 1] rfl
      have hD9 := hD.sub (ws' := [(o, .inr (3, [.int (nI 0), .int (nI n), .ref (ad 0), .ref (ad 1), .int (nI kl), .int (nI ki), .int (nI kw), .ref (ad 2), .ref (ad 3), .int (nI bo), .int (nI bt), .ref (ad 4), .ref (ad 5), .ref (ad 6), .ref (ad 7), .ref (ad 8), .int (nI my), .ref (ad 9), .int (nI pg), .ref (ad 10), .int (nI lg), .ref (ad 11), .int (nI ng)])), (ad 1, .inl (cA 0, 16, .inl (nA ph)))]) [0, 1] (by decide) rfl
      exact W.iret (v := (nI n)) hx hb hr (fun t ht hW => ⟨⟨(nI n), (), rfl, Or.inl ⟨rfl, rfl⟩, by rw [ht]; exact hP9, hD9⟩, hS.F ht⟩) hS.2.2 pm_d_total_92
    · refine lv_tableIn (off := 35) (tgt := 93) hx hb pm_d_total_58 (by decide) (by decide) (by decide) (by decide) ?_
      refine lv_iload_n hx hb pm_d_total_93 rfl (lv_at hl 2 rfl) ?_
      have hP9 := hP.sub (ws' := [(o, .inr (3, [.int (nI 0), .int (nI n), .ref (ad 0), .ref (ad 1), .int (nI kl), .int (nI ki), .int (nI kw), .ref (ad 2), .ref (ad 3), .int (nI bo), .int (nI bt), .ref (ad 4), .ref (ad 5), .ref (ad 6), .ref (ad 7), .ref (ad 8), .int (nI my), .ref (ad 9), .int (nI pg), .ref (ad 10), .int (nI lg), .ref (ad 11), .int (nI ng)])), (ad 1, .inl (cA 0, 16, .inl (nA ph)))]) [0, 1] rfl
      have hD9 := hD.sub (ws' := [(o, .inr (3, [.int (nI 0), .int (nI n), .ref (ad 0), .ref (ad 1), .int (nI kl), .int (nI ki), .int (nI kw), .ref (ad 2), .ref (ad 3), .int (nI bo), .int (nI bt), .ref (ad 4), .ref (ad 5), .ref (ad 6), .ref (ad 7), .ref (ad 8), .int (nI my), .ref (ad 9), .int (nI pg), .ref (ad 10), .int (nI lg), .ref (ad 11), .int (nI ng)])), (ad 1, .inl (cA 0, 16, .inl (nA ph)))]) [0, 1] (by decide) rfl
      exact W.iret (v := (nI (pz_nz ph (2 ^ n - 1)))) hx hb hr (fun t ht hW => ⟨⟨(nI (pz_nz ph (2 ^ n - 1))), (), rfl, Or.inr (Or.inl ⟨rfl, rfl⟩), by rw [ht]; exact hP9, hD9⟩, hS.F ht⟩) hS.2.2 pm_d_total_94
    · refine lv_tableIn (off := 37) (tgt := 95) hx hb pm_d_total_58 (by decide) (by decide) (by decide) (by decide) ?_
      refine lv_iload_n hx hb pm_d_total_95 rfl (lv_at hl 3 rfl) ?_
      have hP9 := hP.sub (ws' := [(o, .inr (3, [.int (nI 0), .int (nI n), .ref (ad 0), .ref (ad 1), .int (nI kl), .int (nI ki), .int (nI kw), .ref (ad 2), .ref (ad 3), .int (nI bo), .int (nI bt), .ref (ad 4), .ref (ad 5), .ref (ad 6), .ref (ad 7), .ref (ad 8), .int (nI my), .ref (ad 9), .int (nI pg), .ref (ad 10), .int (nI lg), .ref (ad 11), .int (nI ng)])), (ad 1, .inl (cA 0, 16, .inl (nA ph)))]) [0, 1] rfl
      have hD9 := hD.sub (ws' := [(o, .inr (3, [.int (nI 0), .int (nI n), .ref (ad 0), .ref (ad 1), .int (nI kl), .int (nI ki), .int (nI kw), .ref (ad 2), .ref (ad 3), .int (nI bo), .int (nI bt), .ref (ad 4), .ref (ad 5), .ref (ad 6), .ref (ad 7), .ref (ad 8), .int (nI my), .ref (ad 9), .int (nI pg), .ref (ad 10), .int (nI lg), .ref (ad 11), .int (nI ng)])), (ad 1, .inl (cA 0, 16, .inl (nA ph)))]) [0, 1] (by decide) rfl
      exact W.iret (v := (nI (pz_odd ph (2 ^ n - 1)))) hx hb hr (fun t ht hW => ⟨⟨(nI (pz_odd ph (2 ^ n - 1))), (), rfl, Or.inr (Or.inr (Or.inl ⟨rfl, rfl⟩)), by rw [ht]; exact hP9, hD9⟩, hS.F ht⟩) hS.2.2 pm_d_total_96
    · refine lv_tableIn (off := 39) (tgt := 97) hx hb pm_d_total_58 (by decide) (by decide) (by decide) (by decide) ?_
      refine lv_iconst (v := (nI 1)) hx hb pm_d_total_97 (by decide) ?_
      refine lv_aload_n hx hb pm_d_total_98 rfl (lv_at hl 0 rfl) ?_
      refine lv_iconst (v := (nI 2)) hx hb pm_d_total_99 (by decide) ?_
      refine zq_Vi (n := 1) (As := [.int (nI 2)]) (rest := [.int (nI 1)]) ⟨hx, hb, hml, hown, hts⟩ (pm_manySets l dC dI cA o ad n kl ki kw bo bt my pg lg ng 2 hn (by decide)) zg_pm93 (by decide +kernel) ⟨rfl, rfl⟩ ⟨Nat.le_of_ble_eq_true rfl, Nat.le_of_ble_eq_true rfl⟩ hK (hP.sub (ws' := [(o, .inr (3, [.int (nI 0), .int (nI n), .ref (ad 0), .ref (ad 1), .int (nI kl), .int (nI ki), .int (nI kw), .ref (ad 2), .ref (ad 3), .int (nI bo), .int (nI bt), .ref (ad 4), .ref (ad 5), .ref (ad 6), .ref (ad 7), .ref (ad 8), .int (nI my), .ref (ad 9), .int (nI pg), .ref (ad 10), .int (nI lg), .ref (ad 11), .int (nI ng)]))]) [0] rfl) 3 0 rfl rfl rfl rfl hl.1 rfl (Nat.le_of_ble_eq_true rfl) pm_d_total_100 (fun r_4 h_5 => ?_) ⟨Nat.le_of_ble_eq_true rfl, Nat.le_of_ble_eq_true rfl⟩
      subst h_5
      refine lv_ishl hx hb pm_d_total_103 ?_
      refine zt_i (zb_shl1 (k := (zms 2 (2 ^ n - 1))) (by omega)) ?_
      refine lv_iconst (v := (nI 1)) hx hb pm_d_total_104 (by decide) ?_
      refine lv_iconst (v := (nI 2)) hx hb pm_d_total_105 (by decide) ?_
      refine lv_aload_n hx hb pm_d_total_106 rfl (lv_at hl 0 rfl) ?_
      refine lv_iconst (v := (nI 3)) hx hb pm_d_total_107 (by decide) ?_
      refine zq_Vi (n := 1) (As := [.int (nI 3)]) (rest := [.int (nI 2), .int (nI 1), .int (nI (2 ^ (zms 2 (2 ^ n - 1))))]) ⟨hx, hb, hml, hown, hts⟩ (pm_manySets l dC dI cA o ad n kl ki kw bo bt my pg lg ng 3 hn (by decide)) zg_pm93 (by decide +kernel) ⟨rfl, rfl⟩ ⟨Nat.le_of_ble_eq_true rfl, Nat.le_of_ble_eq_true rfl⟩ hK (hP.sub (ws' := [(o, .inr (3, [.int (nI 0), .int (nI n), .ref (ad 0), .ref (ad 1), .int (nI kl), .int (nI ki), .int (nI kw), .ref (ad 2), .ref (ad 3), .int (nI bo), .int (nI bt), .ref (ad 4), .ref (ad 5), .ref (ad 6), .ref (ad 7), .ref (ad 8), .int (nI my), .ref (ad 9), .int (nI pg), .ref (ad 10), .int (nI lg), .ref (ad 11), .int (nI ng)]))]) [0] rfl) 3 0 rfl rfl rfl rfl hl.1 rfl (Nat.le_of_ble_eq_true rfl) pm_d_total_108 (fun r_6 h_7 => ?_) ⟨Nat.le_of_ble_eq_true rfl, Nat.le_of_ble_eq_true rfl⟩
      subst h_7
      refine lv_imul hx hb pm_d_total_111 ?_
      refine zt_i (pk_mul 2 (zms 3 (2 ^ n - 1))) ?_
      refine lv_ishl hx hb pm_d_total_112 ?_
      refine zt_i (zb_shl1 (k := (2 * (zms 3 (2 ^ n - 1)))) (by omega)) ?_
      refine lv_imul hx hb pm_d_total_113 ?_
      refine zt_i (pk_mul (2 ^ (zms 2 (2 ^ n - 1))) (2 ^ (2 * (zms 3 (2 ^ n - 1))))) ?_
      refine lv_aload_n hx hb pm_d_total_114 rfl (lv_at hl 0 rfl) ?_
      refine va_get (D := (dC, dI)) (ci := 3) (v := .int (nI n)) (C := pm_R) (T := pm_T) (N := 23) hx hb hts pm_in hown hK hP 0 rfl rfl 1 (by decide) (hts _ zk_pm56) (fun _ h9 => h9) rfl pm_d_total_115 ?_
      refine lv_iconst (v := (nI 4)) hx hb pm_d_total_118 (by decide) ?_
      refine zc_ne (tgt := 127) hx hb pm_d_total_119 (by decide) (by omega) (by omega) (fun c_8 => ?_) (fun c_8 => ?_)
      · refine lv_iconst (v := (nI 1)) hx hb pm_d_total_127 (by decide) ?_
        refine lv_imul hx hb pm_d_total_128 ?_
        refine zt_i (pk_mul ((2 ^ (zms 2 (2 ^ n - 1))) * (2 ^ (2 * (zms 3 (2 ^ n - 1))))) 1) ?_
        have hP9 := hP.sub (ws' := [(o, .inr (3, [.int (nI 0), .int (nI n), .ref (ad 0), .ref (ad 1), .int (nI kl), .int (nI ki), .int (nI kw), .ref (ad 2), .ref (ad 3), .int (nI bo), .int (nI bt), .ref (ad 4), .ref (ad 5), .ref (ad 6), .ref (ad 7), .ref (ad 8), .int (nI my), .ref (ad 9), .int (nI pg), .ref (ad 10), .int (nI lg), .ref (ad 11), .int (nI ng)])), (ad 1, .inl (cA 0, 16, .inl (nA ph)))]) [0, 1] rfl
        have hD9 := hD.sub (ws' := [(o, .inr (3, [.int (nI 0), .int (nI n), .ref (ad 0), .ref (ad 1), .int (nI kl), .int (nI ki), .int (nI kw), .ref (ad 2), .ref (ad 3), .int (nI bo), .int (nI bt), .ref (ad 4), .ref (ad 5), .ref (ad 6), .ref (ad 7), .ref (ad 8), .int (nI my), .ref (ad 9), .int (nI pg), .ref (ad 10), .int (nI lg), .ref (ad 11), .int (nI ng)])), (ad 1, .inl (cA 0, 16, .inl (nA ph)))]) [0, 1] (by decide) rfl
        exact W.iret (v := (nI (((2 ^ (zms 2 (2 ^ n - 1))) * (2 ^ (2 * (zms 3 (2 ^ n - 1))))) * 1))) hx hb hr (fun t ht hW => ⟨⟨(nI (((2 ^ (zms 2 (2 ^ n - 1))) * (2 ^ (2 * (zms 3 (2 ^ n - 1))))) * 1)), (), rfl, Or.inr (Or.inr (Or.inr (Or.inl ⟨rfl, congrArg nI (zt_ways3 hn1 hn c_8)⟩))), by rw [ht]; exact hP9, hD9⟩, hS.F ht⟩) hS.2.2 pm_d_total_129
      · refine lv_bipush (v := (nI 8)) hx hb pm_d_total_122 (by decide) ?_
        refine lv_goto (tgt := 128) hx hb pm_d_total_124 (by decide) ?_
        refine lv_imul hx hb pm_d_total_128 ?_
        refine zt_i (pk_mul ((2 ^ (zms 2 (2 ^ n - 1))) * (2 ^ (2 * (zms 3 (2 ^ n - 1))))) 8) ?_
        have hP9 := hP.sub (ws' := [(o, .inr (3, [.int (nI 0), .int (nI n), .ref (ad 0), .ref (ad 1), .int (nI kl), .int (nI ki), .int (nI kw), .ref (ad 2), .ref (ad 3), .int (nI bo), .int (nI bt), .ref (ad 4), .ref (ad 5), .ref (ad 6), .ref (ad 7), .ref (ad 8), .int (nI my), .ref (ad 9), .int (nI pg), .ref (ad 10), .int (nI lg), .ref (ad 11), .int (nI ng)])), (ad 1, .inl (cA 0, 16, .inl (nA ph)))]) [0, 1] rfl
        have hD9 := hD.sub (ws' := [(o, .inr (3, [.int (nI 0), .int (nI n), .ref (ad 0), .ref (ad 1), .int (nI kl), .int (nI ki), .int (nI kw), .ref (ad 2), .ref (ad 3), .int (nI bo), .int (nI bt), .ref (ad 4), .ref (ad 5), .ref (ad 6), .ref (ad 7), .ref (ad 8), .int (nI my), .ref (ad 9), .int (nI pg), .ref (ad 10), .int (nI lg), .ref (ad 11), .int (nI ng)])), (ad 1, .inl (cA 0, 16, .inl (nA ph)))]) [0, 1] (by decide) rfl
        exact W.iret (v := (nI (((2 ^ (zms 2 (2 ^ n - 1))) * (2 ^ (2 * (zms 3 (2 ^ n - 1))))) * 8))) hx hb hr (fun t ht hW => ⟨⟨(nI (((2 ^ (zms 2 (2 ^ n - 1))) * (2 ^ (2 * (zms 3 (2 ^ n - 1))))) * 8)), (), rfl, Or.inr (Or.inr (Or.inr (Or.inl ⟨rfl, congrArg nI (zt_ways4 hn1 hn c_8)⟩))), by rw [ht]; exact hP9, hD9⟩, hS.F ht⟩) hS.2.2 pm_d_total_129
    · refine lv_tableOut (tgt := 130) hx hb pm_d_total_58 hno.2 (by decide) ?_
      refine lv_iconst (v := (-1)) hx hb pm_d_total_130 (by decide) ?_
      have hP9 := hP.sub (ws' := [(o, .inr (3, [.int (nI 0), .int (nI n), .ref (ad 0), .ref (ad 1), .int (nI kl), .int (nI ki), .int (nI kw), .ref (ad 2), .ref (ad 3), .int (nI bo), .int (nI bt), .ref (ad 4), .ref (ad 5), .ref (ad 6), .ref (ad 7), .ref (ad 8), .int (nI my), .ref (ad 9), .int (nI pg), .ref (ad 10), .int (nI lg), .ref (ad 11), .int (nI ng)])), (ad 1, .inl (cA 0, 16, .inl (nA ph)))]) [0, 1] rfl
      have hD9 := hD.sub (ws' := [(o, .inr (3, [.int (nI 0), .int (nI n), .ref (ad 0), .ref (ad 1), .int (nI kl), .int (nI ki), .int (nI kw), .ref (ad 2), .ref (ad 3), .int (nI bo), .int (nI bt), .ref (ad 4), .ref (ad 5), .ref (ad 6), .ref (ad 7), .ref (ad 8), .int (nI my), .ref (ad 9), .int (nI pg), .ref (ad 10), .int (nI lg), .ref (ad 11), .int (nI ng)])), (ad 1, .inl (cA 0, 16, .inl (nA ph)))]) [0, 1] (by decide) rfl
      exact W.iret (v := (-1)) hx hb hr (fun t ht hW => ⟨⟨(-1), (), rfl, Or.inr (Or.inr (Or.inr (Or.inr ⟨hno.1, rfl⟩))), by rw [ht]; exact hP9, hD9⟩, hS.F ht⟩) hS.2.2 pm_d_total_131
  · refine lv_iload_n hx hb pm_d_total_21 rfl (lv_at hl 2 rfl) ?_
    refine lv_aload_n hx hb pm_d_total_22 rfl (lv_at hl 0 rfl) ?_
    refine va_get (D := (dC, dI)) (ci := 3) (v := .ref (ad 1)) (C := pm_R) (T := pm_T) (N := 23) hx hb hts pm_in hown hK hP 0 rfl rfl 3 (by decide) (hts _ zk_pm13) (fun _ h9 => h9) rfl pm_d_total_23 ?_
    refine lv_iload hx hb pm_d_total_26 (lv_at hl 4 rfl) ?_
    refine zv_iald hx hb hK hP 1 0 rfl rfl (k := (i + 1)) (by omega) (by omega) pm_d_total_28 ?_
    have h8 := hph (i + 1)
    refine zi_ne (tgt := 36) hx hb pm_d_total_29 (by decide) (by omega) (fun c_9 => ?_) (fun c_9 => ?_)
    · refine lv_iconst (v := (nI 1)) hx hb pm_d_total_36 (by decide) ?_
      refine lv_iadd hx hb pm_d_total_37 ?_
      refine zt_i (pz_nz1 c_9) ?_
      refine lv_istore_n (lv' := [(2, .int (nI (pz_nz ph (i + 1)))), (0, .ref o), (1, .int x), (3, .int (nI (pz_odd ph i))), (4, .int (nI (i + 1)))]) hx hb pm_d_total_38 rfl hl (by decide) rfl (fun ls hl => ?_)
      refine lv_iload_n hx hb pm_d_total_39 rfl (lv_at hl 3 rfl) ?_
      refine lv_aload_n hx hb pm_d_total_40 rfl (lv_at hl 1 rfl) ?_
      refine va_get (D := (dC, dI)) (ci := 3) (v := .ref (ad 1)) (C := pm_R) (T := pm_T) (N := 23) hx hb hts pm_in hown hK hP 0 rfl rfl 3 (by decide) (hts _ zk_pm13) (fun _ h9 => h9) rfl pm_d_total_41 ?_
      refine lv_iload hx hb pm_d_total_44 (lv_at hl 4 rfl) ?_
      refine zv_iald hx hb hK hP 1 0 rfl rfl (k := (i + 1)) (by omega) (by omega) pm_d_total_46 ?_
      refine lv_iconst (v := (nI 1)) hx hb pm_d_total_47 (by decide) ?_
      refine lv_iand hx hb pm_d_total_48 ?_
      refine zt_i (zb_m2 (a := (ph (i + 1))) (by omega)) ?_
      refine lv_iadd hx hb pm_d_total_49 ?_
      refine zt_i (nI_add (pz_odd ph i) ((ph (i + 1)) % 2)) ?_
      refine lv_istore_n (lv' := [(3, .int (nI (pz_odd ph (i + 1)))), (2, .int (nI (pz_nz ph (i + 1)))), (0, .ref o), (1, .int x), (4, .int (nI (i + 1)))]) hx hb pm_d_total_50 rfl hl (by decide) rfl (fun ls hl => ?_)
      refine lv_iinc (v := (nI ((i + 1) + 1))) (lv' := [(4, .int (nI ((i + 1) + 1))), (3, .int (nI (pz_odd ph (i + 1)))), (2, .int (nI (pz_nz ph (i + 1)))), (0, .ref o), (1, .int x)]) hx hb pm_d_total_51 hl (k := 4) rfl (nI_1 (i + 1)) (by decide) rfl (fun ls hl => ?_)
      refine lv_goto (tgt := 12) hx hb pm_d_total_54 (by decide) ?_
      exact ih12 _ _ _ _ (by omega) ⟨i + 1, rfl, by omega, hP, hD, hS, lv_sub hl [3, 4, 2, 1, 0] rfl⟩
    · refine lv_iconst (v := (nI 0)) hx hb pm_d_total_32 (by decide) ?_
      refine lv_goto (tgt := 37) hx hb pm_d_total_33 (by decide) ?_
      refine lv_iadd hx hb pm_d_total_37 ?_
      refine zt_i (pz_nz0 c_9) ?_
      refine lv_istore_n (lv' := [(2, .int (nI (pz_nz ph (i + 1)))), (0, .ref o), (1, .int x), (3, .int (nI (pz_odd ph i))), (4, .int (nI (i + 1)))]) hx hb pm_d_total_38 rfl hl (by decide) rfl (fun ls hl => ?_)
      refine lv_iload_n hx hb pm_d_total_39 rfl (lv_at hl 3 rfl) ?_
      refine lv_aload_n hx hb pm_d_total_40 rfl (lv_at hl 1 rfl) ?_
      refine va_get (D := (dC, dI)) (ci := 3) (v := .ref (ad 1)) (C := pm_R) (T := pm_T) (N := 23) hx hb hts pm_in hown hK hP 0 rfl rfl 3 (by decide) (hts _ zk_pm13) (fun _ h9 => h9) rfl pm_d_total_41 ?_
      refine lv_iload hx hb pm_d_total_44 (lv_at hl 4 rfl) ?_
      refine zv_iald hx hb hK hP 1 0 rfl rfl (k := (i + 1)) (by omega) (by omega) pm_d_total_46 ?_
      refine lv_iconst (v := (nI 1)) hx hb pm_d_total_47 (by decide) ?_
      refine lv_iand hx hb pm_d_total_48 ?_
      refine zt_i (zb_m2 (a := (ph (i + 1))) (by omega)) ?_
      refine lv_iadd hx hb pm_d_total_49 ?_
      refine zt_i (nI_add (pz_odd ph i) ((ph (i + 1)) % 2)) ?_
      refine lv_istore_n (lv' := [(3, .int (nI (pz_odd ph (i + 1)))), (2, .int (nI (pz_nz ph (i + 1)))), (0, .ref o), (1, .int x), (4, .int (nI (i + 1)))]) hx hb pm_d_total_50 rfl hl (by decide) rfl (fun ls hl => ?_)
      refine lv_iinc (v := (nI ((i + 1) + 1))) (lv' := [(4, .int (nI ((i + 1) + 1))), (3, .int (nI (pz_odd ph (i + 1)))), (2, .int (nI (pz_nz ph (i + 1)))), (0, .ref o), (1, .int x)]) hx hb pm_d_total_51 hl (k := 4) rfl (nI_1 (i + 1)) (by decide) rfl (fun ls hl => ?_)
      refine lv_goto (tgt := 12) hx hb pm_d_total_54 (by decide) ?_
      exact ih12 _ _ _ _ (by omega) ⟨i + 1, rfl, by omega, hP, hD, hS, lv_sub hl [3, 4, 2, 1, 0] rfl⟩
