set_option maxHeartbeats 4000000 in
set_option maxRecDepth 100000 in
/-- first() -/
theorem pm_first (l : Launch) (dC : Nat → ClassId) (dI : Nat → Nat → Nat) (cA : Nat → ClassId) (o : Nat) (ad : Nat → Nat) (n kl ki kw bo bt my pg lg ng : Nat) (hn : n ≤ 4) : Met l pm_y_first pm_w_first ({ frames := 0, cells := 0, slots := 0, locals := 0 }) (va_Pc [.ref o] (zR (dC, dI) cA [(o, .inr (3, [.int (nI 0), .int (nI n), .ref (ad 0), .ref (ad 1), .int (nI kl), .int (nI ki), .int (nI kw), .ref (ad 2), .ref (ad 3), .int (nI bo), .int (nI bt), .ref (ad 4), .ref (ad 5), .ref (ad 6), .ref (ad 7), .ref (ad 8), .int (nI my), .ref (ad 9), .int (nI pg), .ref (ad 10), .int (nI lg), .ref (ad 11), .int (nI ng)]))])) (vp_Si (fun r => r = nI (bn_s0 n n))) 0 0 (fun _ => False) := by
  refine Met.ofW (cc := pm_c_first) (maxL := 3) (ret := (some .int)) (by decide) rfl ?_
  intro p e s m args below meth c s₁ B hml hv
  obtain ⟨rfl, hP, hK⟩ := hv
  have hx := B.exec
  have hb := B.bytes
  have hr := B.returns
  have hts0 := atoms_spec (ws := pm_w_first) B.pre
  have hts : ∀ w ∈ zz_tbl, w.before _ s = true := fun w h => hts0 w (List.mem_cons_of_mem _ h)
  have hown : s.vm.findClass pm_R = some m.cls := findClass_of_methodNamed B.named
  have hlocks := B.notSynchronized
  have hP : va_P (dC, dI) zz_cl [(o, .inr (3, [.int (nI 0), .int (nI n), .ref (ad 0), .ref (ad 1), .int (nI kl), .int (nI ki), .int (nI kw), .ref (ad 2), .ref (ad 3), .int (nI bo), .int (nI bt), .ref (ad 4), .ref (ad 5), .ref (ad 6), .ref (ad 7), .ref (ad 8), .int (nI my), .ref (ad 9), .int (nI pg), .ref (ad 10), .int (nI lg), .ref (ad 11), .int (nI ng)]))] s.heap := hP
  have hl := lv_entry ([.ref o]) (n := 3) (Nat.le_of_ble_eq_true rfl)
  rw [lg_entry_eq]
  generalize (lg_sl ([.ref o]) ++ List.replicate (3 - (lg_sl ([.ref o])).length) Slot.unset).toArray = ls at hl ⊢
  have hl : lv_has ls 3 [(0, .ref o)] := hl
  refine lv_iconst (v := (nI 0)) hx hb pm_d_first_0 (by decide) ?_
  refine lv_istore_n (lv' := [(1, .int (nI 0)), (0, .ref o)]) hx hb pm_d_first_1 rfl hl (by decide) rfl (fun ls hl => ?_)
  refine lv_iconst (v := (nI 0)) hx hb pm_d_first_2 (by decide) ?_
  refine lv_istore_n (lv' := [(2, .int (nI 0)), (1, .int (nI 0)), (0, .ref o)]) hx hb pm_d_first_3 rfl hl (by decide) rfl (fun ls hl => ?_)
  refine zl_loop (J := fun k ls H locs => ∃ (i : Nat), k = n - i ∧ (i ≤ n) ∧ H = s.heap ∧ locs = [] ∧ lv_has ls 3 [(0, .ref o), (1, .int (nI (bn_s0 n i))), (2, .int (nI i))]) (fun k4 ls H locs hJ4 ih4 => ?_) (n - 0) ⟨0, rfl, Nat.zero_le _, rfl, rfl, lv_sub hl [2, 1, 0] rfl⟩
  obtain ⟨i, hk4, hi, rfl, rfl, hl⟩ := hJ4
  refine lv_iload_n hx hb pm_d_first_4 rfl (lv_at hl 2 rfl) ?_
  refine lv_aload_n hx hb pm_d_first_5 rfl (lv_at hl 0 rfl) ?_
  refine va_get (D := (dC, dI)) (ci := 3) (v := .int (nI n)) (C := pm_R) (T := pm_T) (N := 23) hx hb hts pm_in hown hK hP 0 rfl rfl 1 (by decide) (hts _ zk_pm56) (fun _ h9 => h9) rfl pm_d_first_6 ?_
  refine zc_ge (tgt := 31) hx hb pm_d_first_9 (by decide) (by omega) (by omega) (fun c_1 => ?_) (fun c_1 => ?_)
  · refine lv_iload_n hx hb pm_d_first_31 rfl (lv_at hl 1 rfl) ?_
    exact W.iret (v := (nI (bn_s0 n i))) hx hb hr (fun t ht hW => ⟨(nI (bn_s0 n i)), rfl, by rw [show i = n by omega], ht⟩) (fun q h => by cases h) pm_d_first_32
  · have hin : n * i < 32 := by have := Nat.mul_le_mul hn (show i ≤ 3 by omega); omega
    refine lv_iload_n hx hb pm_d_first_12 rfl (lv_at hl 1 rfl) ?_
    refine lv_iconst (v := (nI 1)) hx hb pm_d_first_13 (by decide) ?_
    refine lv_iload_n hx hb pm_d_first_14 rfl (lv_at hl 2 rfl) ?_
    refine lv_ishl hx hb pm_d_first_15 ?_
    refine zt_i (zb_shl1 (k := i) (by omega)) ?_
    refine lv_aload_n hx hb pm_d_first_16 rfl (lv_at hl 0 rfl) ?_
    refine va_get (D := (dC, dI)) (ci := 3) (v := .int (nI n)) (C := pm_R) (T := pm_T) (N := 23) hx hb hts pm_in hown hK hP 0 rfl rfl 1 (by decide) (hts _ zk_pm56) (fun _ h9 => h9) rfl pm_d_first_17 ?_
    refine lv_iload_n hx hb pm_d_first_20 rfl (lv_at hl 2 rfl) ?_
    refine lv_imul hx hb pm_d_first_21 ?_
    refine zt_i (pk_mul n i) ?_
    refine lv_ishl hx hb pm_d_first_22 ?_
    refine zt_i (zb_shl (a := (2 ^ i)) (k := (n * i)) (by omega)) ?_
    refine lv_ior hx hb pm_d_first_23 ?_
    refine zt_i (zb_or (bn_s0 n i) ((2 ^ i) * 2 ^ (n * i))) ?_
    refine lv_istore_n (lv' := [(1, .int (nI (bn_s0 n (i + 1)))), (0, .ref o), (2, .int (nI i))]) hx hb pm_d_first_24 rfl hl (by decide) rfl (fun ls hl => ?_)
    refine lv_iinc (v := (nI (i + 1))) (lv' := [(2, .int (nI (i + 1))), (1, .int (nI (bn_s0 n (i + 1)))), (0, .ref o)]) hx hb pm_d_first_25 hl (k := 2) rfl (nI_1 i) (by decide) rfl (fun ls hl => ?_)
    refine lv_goto (tgt := 4) hx hb pm_d_first_28 (by decide) ?_
    exact ih4 _ _ _ _ (by omega) ⟨i + 1, rfl, by omega, rfl, rfl, lv_sub hl [2, 1, 0] rfl⟩
set_option maxHeartbeats 4000000 in
set_option maxRecDepth 100000 in
/-- goal() -/
theorem pm_goal (l : Launch) (dC : Nat → ClassId) (dI : Nat → Nat → Nat) (cA : Nat → ClassId) (o : Nat) (ad : Nat → Nat) (n kl ki kw bo bt my pg lg ng : Nat) (pa : Nat → Nat) (hn : n ≤ 4) : Met l pm_y_goal pm_w_goal ({ frames := 0, cells := 0, slots := 0, locals := 0 }) (va_Pc [.ref o] (zR (dC, dI) cA [(o, .inr (3, [.int (nI 0), .int (nI n), .ref (ad 0), .ref (ad 1), .int (nI kl), .int (nI ki), .int (nI kw), .ref (ad 2), .ref (ad 3), .int (nI bo), .int (nI bt), .ref (ad 4), .ref (ad 5), .ref (ad 6), .ref (ad 7), .ref (ad 8), .int (nI my), .ref (ad 9), .int (nI pg), .ref (ad 10), .int (nI lg), .ref (ad 11), .int (nI ng)])), (ad 0, .inl (cA 0, 4, .inl (nA pa)))])) (vp_Si (fun r => r = nI (zc_code n pa n))) 0 0 (fun _ => False) := by
  refine Met.ofW (cc := pm_c_goal) (maxL := 3) (ret := (some .int)) (by decide) rfl ?_
  intro p e s m args below meth c s₁ B hml hv
  obtain ⟨rfl, hP, hK⟩ := hv
  have hx := B.exec
  have hb := B.bytes
  have hr := B.returns
  have hts0 := atoms_spec (ws := pm_w_goal) B.pre
  have hts : ∀ w ∈ zz_tbl, w.before _ s = true := fun w h => hts0 w (List.mem_cons_of_mem _ h)
  have hown : s.vm.findClass pm_R = some m.cls := findClass_of_methodNamed B.named
  have hlocks := B.notSynchronized
  have hP : va_P (dC, dI) zz_cl [(o, .inr (3, [.int (nI 0), .int (nI n), .ref (ad 0), .ref (ad 1), .int (nI kl), .int (nI ki), .int (nI kw), .ref (ad 2), .ref (ad 3), .int (nI bo), .int (nI bt), .ref (ad 4), .ref (ad 5), .ref (ad 6), .ref (ad 7), .ref (ad 8), .int (nI my), .ref (ad 9), .int (nI pg), .ref (ad 10), .int (nI lg), .ref (ad 11), .int (nI ng)])), (ad 0, .inl (cA 0, 4, .inl (nA pa)))] s.heap := hP
  have hl := lv_entry ([.ref o]) (n := 3) (Nat.le_of_ble_eq_true rfl)
  rw [lg_entry_eq]
  generalize (lg_sl ([.ref o]) ++ List.replicate (3 - (lg_sl ([.ref o])).length) Slot.unset).toArray = ls at hl ⊢
  have hl : lv_has ls 3 [(0, .ref o)] := hl
  refine lv_iconst (v := (nI 0)) hx hb pm_d_goal_0 (by decide) ?_
  refine lv_istore_n (lv' := [(1, .int (nI 0)), (0, .ref o)]) hx hb pm_d_goal_1 rfl hl (by decide) rfl (fun ls hl => ?_)
  refine lv_iconst (v := (nI 0)) hx hb pm_d_goal_2 (by decide) ?_
  refine lv_istore_n (lv' := [(2, .int (nI 0)), (1, .int (nI 0)), (0, .ref o)]) hx hb pm_d_goal_3 rfl hl (by decide) rfl (fun ls hl => ?_)
  refine zl_loop (J := fun k ls H locs => ∃ (i : Nat), k = n - i ∧ (i ≤ n) ∧ H = s.heap ∧ locs = [] ∧ lv_has ls 3 [(0, .ref o), (1, .int (nI (zc_code n pa i))), (2, .int (nI i))]) (fun k4 ls H locs hJ4 ih4 => ?_) (n - 0) ⟨0, rfl, Nat.zero_le _, rfl, rfl, lv_sub hl [2, 1, 0] rfl⟩
  obtain ⟨i, hk4, hi, rfl, rfl, hl⟩ := hJ4
  refine lv_iload_n hx hb pm_d_goal_4 rfl (lv_at hl 2 rfl) ?_
  refine lv_aload_n hx hb pm_d_goal_5 rfl (lv_at hl 0 rfl) ?_
  refine va_get (D := (dC, dI)) (ci := 3) (v := .int (nI n)) (C := pm_R) (T := pm_T) (N := 23) hx hb hts pm_in hown hK hP 0 rfl rfl 1 (by decide) (hts _ zk_pm56) (fun _ h9 => h9) rfl pm_d_goal_6 ?_
  refine zc_ge (tgt := 34) hx hb pm_d_goal_9 (by decide) (by omega) (by omega) (fun c_1 => ?_) (fun c_1 => ?_)
  · refine lv_iload_n hx hb pm_d_goal_34 rfl (lv_at hl 1 rfl) ?_
    exact W.iret (v := (nI (zc_code n pa i))) hx hb hr (fun t ht hW => ⟨(nI (zc_code n pa i)), rfl, by rw [show i = n by omega], ht⟩) (fun q h => by cases h) pm_d_goal_35
  · have hin : n * i < 32 := by have := Nat.mul_le_mul hn (show i ≤ 3 by omega); omega
    refine lv_iload_n hx hb pm_d_goal_12 rfl (lv_at hl 1 rfl) ?_
    refine lv_aload_n hx hb pm_d_goal_13 rfl (lv_at hl 0 rfl) ?_
    refine va_get (D := (dC, dI)) (ci := 3) (v := .ref (ad 0)) (C := pm_R) (T := pm_T) (N := 23) hx hb hts pm_in hown hK hP 0 rfl rfl 2 (by decide) (hts _ zk_pm7) (fun _ h9 => h9) rfl pm_d_goal_14 ?_
    refine lv_iload_n hx hb pm_d_goal_17 rfl (lv_at hl 2 rfl) ?_
    refine zv_iald hx hb hK hP 1 0 rfl rfl (k := i) (by omega) (by omega) pm_d_goal_18 ?_
    refine lv_aload_n hx hb pm_d_goal_19 rfl (lv_at hl 0 rfl) ?_
    refine va_get (D := (dC, dI)) (ci := 3) (v := .int (nI n)) (C := pm_R) (T := pm_T) (N := 23) hx hb hts pm_in hown hK hP 0 rfl rfl 1 (by decide) (hts _ zk_pm56) (fun _ h9 => h9) rfl pm_d_goal_20 ?_
    refine lv_iload_n hx hb pm_d_goal_23 rfl (lv_at hl 2 rfl) ?_
    refine lv_imul hx hb pm_d_goal_24 ?_
    refine zt_i (pk_mul n i) ?_
    refine lv_ishl hx hb pm_d_goal_25 ?_
    refine zt_i (zb_shl (a := (pa i)) (k := (n * i)) (by omega)) ?_
    refine lv_ior hx hb pm_d_goal_26 ?_
    refine zt_i zm_goal ?_
    refine lv_istore_n (lv' := [(1, .int (nI (zc_code n pa (i + 1)))), (0, .ref o), (2, .int (nI i))]) hx hb pm_d_goal_27 rfl hl (by decide) rfl (fun ls hl => ?_)
    refine lv_iinc (v := (nI (i + 1))) (lv' := [(2, .int (nI (i + 1))), (1, .int (nI (zc_code n pa (i + 1)))), (0, .ref o)]) hx hb pm_d_goal_28 hl (k := 2) rfl (nI_1 i) (by decide) rfl (fun ls hl => ?_)
    refine lv_goto (tgt := 4) hx hb pm_d_goal_31 (by decide) ?_
    exact ih4 _ _ _ _ (by omega) ⟨i + 1, rfl, by omega, rfl, rfl, lv_sub hl [2, 1, 0] rfl⟩
set_option maxHeartbeats 4000000 in
set_option maxRecDepth 100000 in
/-- partOf(m, w) -/
theorem pm_partOf (l : Launch) (dC : Nat → ClassId) (dI : Nat → Nat → Nat) (cA : Nat → ClassId) (o : Nat) (ad : Nat → Nat) (n kl ki kw bo bt my pg lg ng : Nat) (m0 w0 : Nat) (hn : n ≤ 4) (hm : m0 < 2 ^ 31) (hw : w0 < 4) : Met l pm_y_partOf pm_w_partOf ({ frames := 1, cells := 0, slots := 0, locals := 20 }) (va_Pc [.ref o, .int (nI m0), .int (nI w0)] (zR (dC, dI) cA [(o, .inr (3, [.int (nI 0), .int (nI n), .ref (ad 0), .ref (ad 1), .int (nI kl), .int (nI ki), .int (nI kw), .ref (ad 2), .ref (ad 3), .int (nI bo), .int (nI bt), .ref (ad 4), .ref (ad 5), .ref (ad 6), .ref (ad 7), .ref (ad 8), .int (nI my), .ref (ad 9), .int (nI pg), .ref (ad 10), .int (nI lg), .ref (ad 11), .int (nI ng)]))])) (vp_Si (fun r => r = nI (bn_par n m0 w0))) 0 0 (fun _ => False) := by
  refine Met.ofW (cc := pm_c_partOf) (maxL := 3) (ret := (some .int)) (by decide) rfl ?_
  intro p e s m args below meth c s₁ B hml hv
  obtain ⟨rfl, hP, hK⟩ := hv
  have hx := B.exec
  have hb := B.bytes
  have hr := B.returns
  have hts0 := atoms_spec (ws := pm_w_partOf) B.pre
  have hts : ∀ w ∈ zz_tbl, w.before _ s = true := fun w h => hts0 w (List.mem_cons_of_mem _ h)
  have hown : s.vm.findClass pm_R = some m.cls := findClass_of_methodNamed B.named
  have hlocks := B.notSynchronized
  have hP : va_P (dC, dI) zz_cl [(o, .inr (3, [.int (nI 0), .int (nI n), .ref (ad 0), .ref (ad 1), .int (nI kl), .int (nI ki), .int (nI kw), .ref (ad 2), .ref (ad 3), .int (nI bo), .int (nI bt), .ref (ad 4), .ref (ad 5), .ref (ad 6), .ref (ad 7), .ref (ad 8), .int (nI my), .ref (ad 9), .int (nI pg), .ref (ad 10), .int (nI lg), .ref (ad 11), .int (nI ng)]))] s.heap := hP
  have hl := lv_entry ([.ref o, .int (nI m0), .int (nI w0)]) (n := 3) (Nat.le_of_ble_eq_true rfl)
  rw [lg_entry_eq]
  generalize (lg_sl ([.ref o, .int (nI m0), .int (nI w0)]) ++ List.replicate (3 - (lg_sl ([.ref o, .int (nI m0), .int (nI w0)])).length) Slot.unset).toArray = ls at hl ⊢
  have hl : lv_has ls 3 [(0, .ref o), (1, .int (nI m0)), (2, .int (nI w0))] := hl
  have hpow : 0 < 2 ^ n := Nat.two_pow_pos n
  have hpow2 : 2 ^ n ≤ 2 ^ 4 := Nat.pow_le_pow_right (by decide) hn
  have hin : n * w0 < 32 := by have := Nat.mul_le_mul hn (show w0 ≤ 3 by omega); omega
  have hdv := Nat.div_le_self m0 (2 ^ (n * w0))
  refine lv_iload_n hx hb pm_d_partOf_0 rfl (lv_at hl 1 rfl) ?_
  refine lv_aload_n hx hb pm_d_partOf_1 rfl (lv_at hl 0 rfl) ?_
  refine va_get (D := (dC, dI)) (ci := 3) (v := .int (nI n)) (C := pm_R) (T := pm_T) (N := 23) hx hb hts pm_in hown hK hP 0 rfl rfl 1 (by decide) (hts _ zk_pm56) (fun _ h9 => h9) rfl pm_d_partOf_2 ?_
  refine lv_iload_n hx hb pm_d_partOf_5 rfl (lv_at hl 2 rfl) ?_
  refine lv_imul hx hb pm_d_partOf_6 ?_
  refine zt_i (pk_mul n w0) ?_
  refine lv_ishr hx hb pm_d_partOf_7 ?_
  refine zt_i (zb_shr (a := m0) (k := (n * w0)) (by omega) (by omega)) ?_
  refine lv_aload_n hx hb pm_d_partOf_8 rfl (lv_at hl 0 rfl) ?_
  refine zq_Vi (n := 0) (As := []) (rest := [.int (nI (m0 / 2 ^ (n * w0)))]) ⟨hx, hb, hml, hown, hts⟩ (pm_parities l dC dI cA o ad n kl ki kw bo bt my pg lg ng (by omega)) zg_pm79 (by decide +kernel) ⟨rfl, rfl⟩ ⟨Nat.le_of_ble_eq_true rfl, Nat.le_of_ble_eq_true rfl⟩ hK (hP.sub (ws' := [(o, .inr (3, [.int (nI 0), .int (nI n), .ref (ad 0), .ref (ad 1), .int (nI kl), .int (nI ki), .int (nI kw), .ref (ad 2), .ref (ad 3), .int (nI bo), .int (nI bt), .ref (ad 4), .ref (ad 5), .ref (ad 6), .ref (ad 7), .ref (ad 8), .int (nI my), .ref (ad 9), .int (nI pg), .ref (ad 10), .int (nI lg), .ref (ad 11), .int (nI ng)]))]) [0] rfl) 3 0 rfl rfl rfl rfl hl.1 rfl (Nat.le_of_ble_eq_true rfl) pm_d_partOf_9 (fun r_1 h_2 => ?_) ⟨Nat.le_of_ble_eq_true rfl, Nat.le_of_ble_eq_true rfl⟩
  subst h_2
  refine lv_iconst (v := (nI 1)) hx hb pm_d_partOf_12 (by decide) ?_
  refine lv_isub hx hb pm_d_partOf_13 ?_
  refine zt_i (pk_sub (a := (2 ^ n)) (b := 1) (by omega)) ?_
  refine lv_iand hx hb pm_d_partOf_14 ?_
  refine zt_i (zm_part (by omega) (by omega)) ?_
  exact W.iret (v := (nI (bn_par n m0 w0))) hx hb hr (fun t ht hW => ⟨(nI (bn_par n m0 w0)), rfl, rfl, ht⟩) (fun q h => by cases h) pm_d_partOf_15
set_option maxHeartbeats 4000000 in
set_option maxRecDepth 100000 in
/-- had(m) -/
theorem pm_had (l : Launch) (dC : Nat → ClassId) (dI : Nat → Nat → Nat) (cA : Nat → ClassId) (o : Nat) (ad : Nat → Nat) (n kl ki kw bo bt my pg lg ng : Nat) (m0 : Nat) (hn : n ≤ 4) (hm : m0 < 2 ^ 31) (hpos : ∀ q, q < n → 1 ≤ bn_par n m0 q) : Met l pm_y_had pm_w_had ({ frames := 2, cells := 0, slots := 0, locals := 42 }) (va_Pc [.ref o, .int (nI m0)] (zR (dC, dI) cA [(o, .inr (3, [.int (nI 0), .int (nI n), .ref (ad 0), .ref (ad 1), .int (nI kl), .int (nI ki), .int (nI kw), .ref (ad 2), .ref (ad 3), .int (nI bo), .int (nI bt), .ref (ad 4), .ref (ad 5), .ref (ad 6), .ref (ad 7), .ref (ad 8), .int (nI my), .ref (ad 9), .int (nI pg), .ref (ad 10), .int (nI lg), .ref (ad 11), .int (nI ng)]))])) (vp_Si (fun r => r = nI (bn_had n m0 n))) 0 0 (fun _ => False) := by
  refine Met.ofW (cc := pm_c_had) (maxL := 4) (ret := (some .int)) (by decide) rfl ?_
  intro p e s m args below meth c s₁ B hml hv
  obtain ⟨rfl, hP, hK⟩ := hv
  have hx := B.exec
  have hb := B.bytes
  have hr := B.returns
  have hts0 := atoms_spec (ws := pm_w_had) B.pre
  have hts : ∀ w ∈ zz_tbl, w.before _ s = true := fun w h => hts0 w (List.mem_cons_of_mem _ h)
  have hown : s.vm.findClass pm_R = some m.cls := findClass_of_methodNamed B.named
  have hlocks := B.notSynchronized
  have hP : va_P (dC, dI) zz_cl [(o, .inr (3, [.int (nI 0), .int (nI n), .ref (ad 0), .ref (ad 1), .int (nI kl), .int (nI ki), .int (nI kw), .ref (ad 2), .ref (ad 3), .int (nI bo), .int (nI bt), .ref (ad 4), .ref (ad 5), .ref (ad 6), .ref (ad 7), .ref (ad 8), .int (nI my), .ref (ad 9), .int (nI pg), .ref (ad 10), .int (nI lg), .ref (ad 11), .int (nI ng)]))] s.heap := hP
  have hl := lv_entry ([.ref o, .int (nI m0)]) (n := 4) (Nat.le_of_ble_eq_true rfl)
  rw [lg_entry_eq]
  generalize (lg_sl ([.ref o, .int (nI m0)]) ++ List.replicate (4 - (lg_sl ([.ref o, .int (nI m0)])).length) Slot.unset).toArray = ls at hl ⊢
  have hl : lv_has ls 4 [(0, .ref o), (1, .int (nI m0))] := hl
  have hpow : 0 < 2 ^ n := Nat.two_pow_pos n
  have hpow2 : 2 ^ n ≤ 2 ^ 4 := Nat.pow_le_pow_right (by decide) hn
  refine lv_iconst (v := (nI 0)) hx hb pm_d_had_0 (by decide) ?_
  refine lv_istore_n (lv' := [(2, .int (nI 0)), (0, .ref o), (1, .int (nI m0))]) hx hb pm_d_had_1 rfl hl (by decide) rfl (fun ls hl => ?_)
  refine lv_iconst (v := (nI 0)) hx hb pm_d_had_2 (by decide) ?_
  refine lv_istore_n (lv' := [(3, .int (nI 0)), (2, .int (nI 0)), (0, .ref o), (1, .int (nI m0))]) hx hb pm_d_had_3 rfl hl (by decide) rfl (fun ls hl => ?_)
  refine zl_loop (J := fun k ls H locs => ∃ (i : Nat), k = n - i ∧ (i ≤ n) ∧ H = s.heap ∧ locs = [] ∧ lv_has ls 4 [(0, .ref o), (1, .int (nI m0)), (2, .int (nI (bn_had n m0 i))), (3, .int (nI i))]) (fun k4 ls H locs hJ4 ih4 => ?_) (n - 0) ⟨0, rfl, Nat.zero_le _, rfl, rfl, lv_sub hl [2, 3, 1, 0] rfl⟩
  obtain ⟨i, hk4, hi, rfl, rfl, hl⟩ := hJ4
  refine lv_iload_n hx hb pm_d_had_4 rfl (lv_at hl 3 rfl) ?_
  refine lv_aload_n hx hb pm_d_had_5 rfl (lv_at hl 0 rfl) ?_
  refine va_get (D := (dC, dI)) (ci := 3) (v := .int (nI n)) (C := pm_R) (T := pm_T) (N := 23) hx hb hts pm_in hown hK hP 0 rfl rfl 1 (by decide) (hts _ zk_pm56) (fun _ h9 => h9) rfl pm_d_had_6 ?_
  refine zc_ge (tgt := 31) hx hb pm_d_had_9 (by decide) (by omega) (by omega) (fun c_1 => ?_) (fun c_1 => ?_)
  · refine lv_iload_n hx hb pm_d_had_31 rfl (lv_at hl 2 rfl) ?_
    exact W.iret (v := (nI (bn_had n m0 i))) hx hb hr (fun t ht hW => ⟨(nI (bn_had n m0 i)), rfl, by rw [show i = n by omega], ht⟩) (fun q h => by cases h) pm_d_had_32
  · refine lv_iload_n hx hb pm_d_had_12 rfl (lv_at hl 2 rfl) ?_
    refine lv_iconst (v := (nI 1)) hx hb pm_d_had_13 (by decide) ?_
    refine lv_aload_n hx hb pm_d_had_14 rfl (lv_at hl 0 rfl) ?_
    refine lv_iload_n hx hb pm_d_had_15 rfl (lv_at hl 1 rfl) ?_
    refine lv_iload_n hx hb pm_d_had_16 rfl (lv_at hl 3 rfl) ?_
    refine zq_Vi (n := 2) (As := [.int (nI m0), .int (nI i)]) (rest := [.int (nI 1), .int (nI (bn_had n m0 i))]) ⟨hx, hb, hml, hown, hts⟩ (pm_partOf l dC dI cA o ad n kl ki kw bo bt my pg lg ng m0 i hn (by omega) (by omega)) zg_pm138 (by decide +kernel) ⟨rfl, rfl⟩ ⟨Nat.le_of_ble_eq_true rfl, Nat.le_of_ble_eq_true rfl⟩ hK (hP.sub (ws' := [(o, .inr (3, [.int (nI 0), .int (nI n), .ref (ad 0), .ref (ad 1), .int (nI kl), .int (nI ki), .int (nI kw), .ref (ad 2), .ref (ad 3), .int (nI bo), .int (nI bt), .ref (ad 4), .ref (ad 5), .ref (ad 6), .ref (ad 7), .ref (ad 8), .int (nI my), .ref (ad 9), .int (nI pg), .ref (ad 10), .int (nI lg), .ref (ad 11), .int (nI ng)]))]) [0] rfl) 3 0 rfl rfl rfl rfl hl.1 rfl (Nat.le_of_ble_eq_true rfl) pm_d_had_17 (fun r_2 h_3 => ?_) ⟨Nat.le_of_ble_eq_true rfl, Nat.le_of_ble_eq_true rfl⟩
    subst h_3
    have hp1 := hpos i (by omega)
    have hp2 : bn_par n m0 i < 2 ^ n := Nat.mod_lt _ hpow
    refine lv_iconst (v := (nI 1)) hx hb pm_d_had_20 (by decide) ?_
    refine lv_isub hx hb pm_d_had_21 ?_
    refine zt_i (pk_sub (a := (bn_par n m0 i)) (b := 1) (by omega)) ?_
    refine lv_ishl hx hb pm_d_had_22 ?_
    refine zt_i (zb_shl1 (k := ((bn_par n m0 i) - 1)) (by omega)) ?_
    refine lv_ior hx hb pm_d_had_23 ?_
    refine zt_i (zb_or (bn_had n m0 i) (2 ^ ((bn_par n m0 i) - 1))) ?_
    refine lv_istore_n (lv' := [(2, .int (nI (bn_had n m0 (i + 1)))), (0, .ref o), (1, .int (nI m0)), (3, .int (nI i))]) hx hb pm_d_had_24 rfl hl (by decide) rfl (fun ls hl => ?_)
    refine lv_iinc (v := (nI (i + 1))) (lv' := [(3, .int (nI (i + 1))), (2, .int (nI (bn_had n m0 (i + 1)))), (0, .ref o), (1, .int (nI m0))]) hx hb pm_d_had_25 hl (k := 3) rfl (nI_1 i) (by decide) rfl (fun ls hl => ?_)
    refine lv_goto (tgt := 4) hx hb pm_d_had_28 (by decide) ?_
    exact ih4 _ _ _ _ (by omega) ⟨i + 1, rfl, by omega, rfl, rfl, lv_sub hl [2, 3, 1, 0] rfl⟩
