set_option maxHeartbeats 4000000 in
set_option maxRecDepth 100000 in
/-- mapCode() -/
theorem pc_mapCode (l : Launch) (dC : Nat → ClassId) (dI : Nat → Nat → Nat) (cA : Nat → ClassId) (o a1 a2 o3 a4 n lk : Nat) (li ne : Int32) (pa : Nat → Nat) (hn : n ≤ 4) : Met l pc_y_mapCode pc_w_mapCode ({ frames := 0, cells := 0, slots := 0, locals := 0 }) (va_Pc [.ref o] (zR (dC, dI) cA [(o, .inr (2, [.ref a1, .ref a2, .ref o3, .ref a4, .int (nI n), .int (nI lk), .int li, .int ne])), (a1, .inl (cA 0, 4, .inl (nA pa)))])) (vp_Si (fun r => r = nI (zc_code n pa n))) 0 0 (fun _ => False) := by
  refine Met.ofW (cc := pc_c_mapCode) (maxL := 3) (ret := (some .int)) (by decide) rfl ?_
  intro p e s m args below meth c s₁ B hml hv
  obtain ⟨rfl, hP, hK⟩ := hv
  have hx := B.exec
  have hb := B.bytes
  have hr := B.returns
  have hts0 := atoms_spec (ws := pc_w_mapCode) B.pre
  have hts : ∀ w ∈ zz_tbl, w.before _ s = true := fun w h => hts0 w (List.mem_cons_of_mem _ h)
  have hown : s.vm.findClass pc_R = some m.cls := findClass_of_methodNamed B.named
  have hlocks := B.notSynchronized
  have hP : va_P (dC, dI) zz_cl [(o, .inr (2, [.ref a1, .ref a2, .ref o3, .ref a4, .int (nI n), .int (nI lk), .int li, .int ne])), (a1, .inl (cA 0, 4, .inl (nA pa)))] s.heap := hP
  have hl := lv_entry ([.ref o]) (n := 3) (Nat.le_of_ble_eq_true rfl)
  rw [lg_entry_eq]
  generalize (lg_sl ([.ref o]) ++ List.replicate (3 - (lg_sl ([.ref o])).length) Slot.unset).toArray = ls at hl ⊢
  have hl : lv_has ls 3 [(0, .ref o)] := hl
  refine lv_iconst (v := (nI 0)) hx hb pc_d_mapCode_0 (by decide) ?_
  refine lv_istore_n (lv' := [(1, .int (nI 0)), (0, .ref o)]) hx hb pc_d_mapCode_1 rfl hl (by decide) rfl (fun ls hl => ?_)
  refine lv_iconst (v := (nI 0)) hx hb pc_d_mapCode_2 (by decide) ?_
  refine lv_istore_n (lv' := [(2, .int (nI 0)), (1, .int (nI 0)), (0, .ref o)]) hx hb pc_d_mapCode_3 rfl hl (by decide) rfl (fun ls hl => ?_)
  refine zl_loop (J := fun k ls H locs => ∃ (i : Nat), k = n - i ∧ (i ≤ n) ∧ H = s.heap ∧ locs = [] ∧ lv_has ls 3 [(0, .ref o), (1, .int (nI (zc_code n pa i))), (2, .int (nI i))]) (fun k4 ls H locs hJ4 ih4 => ?_) (n - 0) ⟨0, rfl, Nat.zero_le _, rfl, rfl, lv_sub hl [2, 1, 0] rfl⟩
  obtain ⟨i, hk4, hi, rfl, rfl, hl⟩ := hJ4
  refine lv_iload_n hx hb pc_d_mapCode_4 rfl (lv_at hl 2 rfl) ?_
  refine lv_aload_n hx hb pc_d_mapCode_5 rfl (lv_at hl 0 rfl) ?_
  refine va_get (D := (dC, dI)) (ci := 2) (v := .int (nI n)) (C := pc_R) (T := pc_T) (N := 8) hx hb hts pc_in hown hK hP 0 rfl rfl 4 (by decide) (hts _ zk_pc95) (fun _ h9 => h9) rfl pc_d_mapCode_6 ?_
  refine zc_ge (tgt := 34) hx hb pc_d_mapCode_9 (by decide) (by omega) (by omega) (fun c_1 => ?_) (fun c_1 => ?_)
  · refine lv_iload_n hx hb pc_d_mapCode_34 rfl (lv_at hl 1 rfl) ?_
    exact W.iret (v := (nI (zc_code n pa i))) hx hb hr (fun t ht hW => ⟨(nI (zc_code n pa i)), rfl, by rw [show i = n by omega], ht⟩) (fun q h => by cases h) pc_d_mapCode_35
  · have hin : i * n < 32 := by have := Nat.mul_le_mul (show i ≤ 3 by omega) hn; omega
    refine lv_iload_n hx hb pc_d_mapCode_12 rfl (lv_at hl 1 rfl) ?_
    refine lv_aload_n hx hb pc_d_mapCode_13 rfl (lv_at hl 0 rfl) ?_
    refine va_get (D := (dC, dI)) (ci := 2) (v := .ref a1) (C := pc_R) (T := pc_T) (N := 8) hx hb hts pc_in hown hK hP 0 rfl rfl 0 (by decide) (hts _ zk_pc9) (fun _ h9 => h9) rfl pc_d_mapCode_14 ?_
    refine lv_iload_n hx hb pc_d_mapCode_17 rfl (lv_at hl 2 rfl) ?_
    refine zv_iald hx hb hK hP 1 0 rfl rfl (k := i) (by omega) (by omega) pc_d_mapCode_18 ?_
    refine lv_iload_n hx hb pc_d_mapCode_19 rfl (lv_at hl 2 rfl) ?_
    refine lv_aload_n hx hb pc_d_mapCode_20 rfl (lv_at hl 0 rfl) ?_
    refine va_get (D := (dC, dI)) (ci := 2) (v := .int (nI n)) (C := pc_R) (T := pc_T) (N := 8) hx hb hts pc_in hown hK hP 0 rfl rfl 4 (by decide) (hts _ zk_pc95) (fun _ h9 => h9) rfl pc_d_mapCode_21 ?_
    refine lv_imul hx hb pc_d_mapCode_24 ?_
    refine zt_i (pk_mul i n) ?_
    refine lv_ishl hx hb pc_d_mapCode_25 ?_
    refine zt_i (zb_shl (a := (pa i)) (k := (i * n)) (by omega)) ?_
    refine lv_ior hx hb pc_d_mapCode_26 ?_
    refine zt_i (zb_or (zc_code n pa i) ((pa i) * 2 ^ (i * n))) ?_
    refine lv_istore_n (lv' := [(1, .int (nI ((zc_code n pa i) ||| ((pa i) * 2 ^ (i * n))))), (0, .ref o), (2, .int (nI i))]) hx hb pc_d_mapCode_27 rfl hl (by decide) rfl (fun ls hl => ?_)
    refine lv_iinc (v := (nI (i + 1))) (lv' := [(2, .int (nI (i + 1))), (1, .int (nI ((zc_code n pa i) ||| ((pa i) * 2 ^ (i * n))))), (0, .ref o)]) hx hb pc_d_mapCode_28 hl (k := 2) rfl (nI_1 i) (by decide) rfl (fun ls hl => ?_)
    refine lv_goto (tgt := 4) hx hb pc_d_mapCode_31 (by decide) ?_
    exact ih4 _ _ _ _ (by omega) ⟨i + 1, rfl, by omega, rfl, rfl, lv_sub hl [2, 1, 0] rfl⟩
set_option maxHeartbeats 4000000 in
set_option maxRecDepth 100000 in
/-- countPhases(bits) -/
theorem pc_countPhases (l : Launch) (dC : Nat → ClassId) (dI : Nat → Nat → Nat) (cA : Nat → ClassId) (o a1 a2 o3 a4 n lk : Nat) (li ne : Int32) (ph : Nat → Nat) (bt : Nat) (hn : n ≤ 4) (hph : ∀ j, ph j < 8) : Met l pc_y_countPhases pc_w_countPhases ({ frames := 1, cells := 0, slots := 0, locals := 20 }) (va_Pc [.ref o, .int (nI bt)] (zR (dC, dI) cA [(o, .inr (2, [.ref a1, .ref a2, .ref o3, .ref a4, .int (nI n), .int (nI lk), .int li, .int ne])), (a2, .inl (cA 0, 16, .inl (nA ph)))])) (vp_Si (fun r => r = nI (zc_cnt ph bt (2 ^ n - 1)))) 0 0 (fun _ => False) := by
  refine Met.ofW (cc := pc_c_countPhases) (maxL := 4) (ret := (some .int)) (by decide) rfl ?_
  intro p e s m args below meth c s₁ B hml hv
  obtain ⟨rfl, hP, hK⟩ := hv
  have hx := B.exec
  have hb := B.bytes
  have hr := B.returns
  have hts0 := atoms_spec (ws := pc_w_countPhases) B.pre
  have hts : ∀ w ∈ zz_tbl, w.before _ s = true := fun w h => hts0 w (List.mem_cons_of_mem _ h)
  have hown : s.vm.findClass pc_R = some m.cls := findClass_of_methodNamed B.named
  have hlocks := B.notSynchronized
  have hP : va_P (dC, dI) zz_cl [(o, .inr (2, [.ref a1, .ref a2, .ref o3, .ref a4, .int (nI n), .int (nI lk), .int li, .int ne])), (a2, .inl (cA 0, 16, .inl (nA ph)))] s.heap := hP
  have hl := lv_entry ([.ref o, .int (nI bt)]) (n := 4) (Nat.le_of_ble_eq_true rfl)
  rw [lg_entry_eq]
  generalize (lg_sl ([.ref o, .int (nI bt)]) ++ List.replicate (4 - (lg_sl ([.ref o, .int (nI bt)])).length) Slot.unset).toArray = ls at hl ⊢
  have hl : lv_has ls 4 [(0, .ref o), (1, .int (nI bt))] := hl
  have hpow : 0 < 2 ^ n := Nat.two_pow_pos n
  have hpow2 : 2 ^ n ≤ 2 ^ 4 := Nat.pow_le_pow_right (by decide) hn
  refine lv_iconst (v := (nI 0)) hx hb pc_d_countPhases_0 (by decide) ?_
  refine lv_istore_n (lv' := [(2, .int (nI 0)), (0, .ref o), (1, .int (nI bt))]) hx hb pc_d_countPhases_1 rfl hl (by decide) rfl (fun ls hl => ?_)
  refine lv_iconst (v := (nI 1)) hx hb pc_d_countPhases_2 (by decide) ?_
  refine lv_istore_n (lv' := [(3, .int (nI 1)), (2, .int (nI 0)), (0, .ref o), (1, .int (nI bt))]) hx hb pc_d_countPhases_3 rfl hl (by decide) rfl (fun ls hl => ?_)
  refine zl_loop (J := fun k ls H locs => ∃ (i : Nat) (ct : Nat), k = 2 ^ n - 1 - i ∧ (i ≤ 2 ^ n - 1) ∧ (ct = zc_cnt ph bt i) ∧ H = s.heap ∧ locs = [] ∧ lv_has ls 4 [(0, .ref o), (1, .int (nI bt)), (2, .int (nI ct)), (3, .int (nI (i + 1)))]) (fun k4 ls H locs hJ4 ih4 => ?_) (2 ^ n - 1 - 0) ⟨0, 0, rfl, Nat.zero_le _, rfl, rfl, rfl, lv_sub hl [2, 3, 1, 0] rfl⟩
  obtain ⟨i, ct, hk4, hi, hct, rfl, rfl, hl⟩ := hJ4
  refine lv_iload_n hx hb pc_d_countPhases_4 rfl (lv_at hl 3 rfl) ?_
  refine lv_aload_n hx hb pc_d_countPhases_5 rfl (lv_at hl 0 rfl) ?_
  refine zq_Vi (n := 0) (As := []) (rest := [.int (nI (i + 1))]) ⟨hx, hb, hml, hown, hts⟩ (pc_lastParity l dC dI cA o a1 a2 o3 a4 n lk li ne (by omega)) zg_pc55 (by decide +kernel) ⟨rfl, rfl⟩ ⟨Nat.le_of_ble_eq_true rfl, Nat.le_of_ble_eq_true rfl⟩ hK (hP.sub (ws' := [(o, .inr (2, [.ref a1, .ref a2, .ref o3, .ref a4, .int (nI n), .int (nI lk), .int li, .int ne]))]) [0] rfl) 2 0 rfl rfl rfl rfl hl.1 rfl (Nat.le_of_ble_eq_true rfl) pc_d_countPhases_6 (fun r_1 h_2 => ?_) ⟨Nat.le_of_ble_eq_true rfl, Nat.le_of_ble_eq_true rfl⟩
  subst h_2
  refine zc_gt (tgt := 32) hx hb pc_d_countPhases_9 (by decide) (by omega) (by omega) (fun c_3 => ?_) (fun c_3 => ?_)
  · refine lv_iload_n hx hb pc_d_countPhases_32 rfl (lv_at hl 2 rfl) ?_
    exact W.iret (v := (nI ct)) hx hb hr (fun t ht hW => ⟨(nI ct), rfl, by rw [hct, show i = 2 ^ n - 1 by omega], ht⟩) (fun q h => by cases h) pc_d_countPhases_33
  · refine lv_aload_n hx hb pc_d_countPhases_12 rfl (lv_at hl 0 rfl) ?_
    refine va_get (D := (dC, dI)) (ci := 2) (v := .ref a2) (C := pc_R) (T := pc_T) (N := 8) hx hb hts pc_in hown hK hP 0 rfl rfl 1 (by decide) (hts _ zk_pc13) (fun _ h9 => h9) rfl pc_d_countPhases_13 ?_
    refine lv_iload_n hx hb pc_d_countPhases_16 rfl (lv_at hl 3 rfl) ?_
    refine zv_iald hx hb hK hP 1 0 rfl rfl (k := (i + 1)) (by omega) (by omega) pc_d_countPhases_17 ?_
    refine lv_iload_n hx hb pc_d_countPhases_18 rfl (lv_at hl 1 rfl) ?_
    refine lv_iand hx hb pc_d_countPhases_19 ?_
    refine zt_i (zb_and (ph (i + 1)) bt) ?_
    refine zi_eq (tgt := 26) hx hb pc_d_countPhases_20 (by decide) (Nat.lt_of_le_of_lt Nat.and_le_left (by have := hph (i + 1); omega)) (fun c_4 => ?_) (fun c_4 => ?_)
    · refine lv_iinc (v := (nI ((i + 1) + 1))) (lv' := [(3, .int (nI ((i + 1) + 1))), (0, .ref o), (1, .int (nI bt)), (2, .int (nI ct))]) hx hb pc_d_countPhases_26 hl (k := 3) rfl (nI_1 (i + 1)) (by decide) rfl (fun ls hl => ?_)
      refine lv_goto (tgt := 4) hx hb pc_d_countPhases_29 (by decide) ?_
      exact ih4 _ _ _ _ (by omega) ⟨i + 1, _, rfl, by omega, by rw [zc_cnt0 c_4]; exact hct, rfl, rfl, lv_sub hl [1, 2, 3, 0] rfl⟩
    · refine lv_iinc (v := (nI (ct + 1))) (lv' := [(2, .int (nI (ct + 1))), (0, .ref o), (1, .int (nI bt)), (3, .int (nI (i + 1)))]) hx hb pc_d_countPhases_23 hl (k := 2) rfl (nI_1 ct) (by decide) rfl (fun ls hl => ?_)
      refine lv_iinc (v := (nI ((i + 1) + 1))) (lv' := [(3, .int (nI ((i + 1) + 1))), (2, .int (nI (ct + 1))), (0, .ref o), (1, .int (nI bt))]) hx hb pc_d_countPhases_26 hl (k := 3) rfl (nI_1 (i + 1)) (by decide) rfl (fun ls hl => ?_)
      refine lv_goto (tgt := 4) hx hb pc_d_countPhases_29 (by decide) ?_
      exact ih4 _ _ _ _ (by omega) ⟨i + 1, _, rfl, by omega, by rw [zc_cnt1 c_4, hct], rfl, rfl, lv_sub hl [2, 3, 1, 0] rfl⟩
set_option maxHeartbeats 4000000 in
set_option maxRecDepth 100000 in
/-- function(x) -/
theorem pc_function (l : Launch) (dC : Nat → ClassId) (dI : Nat → Nat → Nat) (cA : Nat → ClassId) (o a1 a2 o3 a4 n lk : Nat) (li ne : Int32) (ph : Nat → Nat) (x : Int32) (hn : n ≤ 4) (hph : ∀ j, ph j < 8) : Met l pc_y_function pc_w_function ({ frames := 1, cells := 0, slots := 0, locals := 20 }) (va_Pc [.ref o, .int x] (zR (dC, dI) cA [(o, .inr (2, [.ref a1, .ref a2, .ref o3, .ref a4, .int (nI n), .int (nI lk), .int li, .int ne])), (a2, .inl (cA 0, 16, .inl (nA ph)))])) (vp_Si (fun r => (∃ x1, x1 < 2 ^ n ∧ x = nI x1 ∧ r = nI (pz_f ph x1 (2 ^ n - 1) % 8)) ∨ (¬ zw_in (2 ^ n) x ∧ r = (-1)))) 0 0 (fun _ => False) := by
  refine Met.ofW (cc := pc_c_function) (maxL := 4) (ret := (some .int)) (by decide) rfl ?_
  intro p e s m args below meth c s₁ B hml hv
  obtain ⟨rfl, hP, hK⟩ := hv
  have hx := B.exec
  have hb := B.bytes
  have hr := B.returns
  have hts0 := atoms_spec (ws := pc_w_function) B.pre
  have hts : ∀ w ∈ zz_tbl, w.before _ s = true := fun w h => hts0 w (List.mem_cons_of_mem _ h)
  have hown : s.vm.findClass pc_R = some m.cls := findClass_of_methodNamed B.named
  have hlocks := B.notSynchronized
  have hP : va_P (dC, dI) zz_cl [(o, .inr (2, [.ref a1, .ref a2, .ref o3, .ref a4, .int (nI n), .int (nI lk), .int li, .int ne])), (a2, .inl (cA 0, 16, .inl (nA ph)))] s.heap := hP
  have hl := lv_entry ([.ref o, .int x]) (n := 4) (Nat.le_of_ble_eq_true rfl)
  rw [lg_entry_eq]
  generalize (lg_sl ([.ref o, .int x]) ++ List.replicate (4 - (lg_sl ([.ref o, .int x])).length) Slot.unset).toArray = ls at hl ⊢
  have hl : lv_has ls 4 [(0, .ref o), (1, .int x)] := hl
  have hpow : 0 < 2 ^ n := Nat.two_pow_pos n
  have hpow2 : 2 ^ n ≤ 2 ^ 4 := Nat.pow_le_pow_right (by decide) hn
  refine lv_iload_n hx hb pc_d_function_0 rfl (lv_at hl 1 rfl) ?_
  refine lv_if_lt (tgt := 12) hx hb pc_d_function_1 (by decide) (fun c_1 => ?_) (fun c_1 => ?_)
  · refine lv_iconst (v := (-1)) hx hb pc_d_function_12 (by decide) ?_
    exact W.iret (v := (-1)) hx hb hr (fun t ht hW => ⟨(-1), rfl, Or.inr ⟨zw_neg (by omega) c_1, rfl⟩, ht⟩) (fun q h => by cases h) pc_d_function_13
  · refine lv_iload_n hx hb pc_d_function_4 rfl (lv_at hl 1 rfl) ?_
    refine lv_aload_n hx hb pc_d_function_5 rfl (lv_at hl 0 rfl) ?_
    refine zq_Vi (n := 0) (As := []) (rest := [.int x]) ⟨hx, hb, hml, hown, hts⟩ (pc_lastParity l dC dI cA o a1 a2 o3 a4 n lk li ne (by omega)) zg_pc55 (by decide +kernel) ⟨rfl, rfl⟩ ⟨Nat.le_of_ble_eq_true rfl, Nat.le_of_ble_eq_true rfl⟩ hK (hP.sub (ws' := [(o, .inr (2, [.ref a1, .ref a2, .ref o3, .ref a4, .int (nI n), .int (nI lk), .int li, .int ne]))]) [0] rfl) 2 0 rfl rfl rfl rfl hl.1 rfl (Nat.le_of_ble_eq_true rfl) pc_d_function_6 (fun r_2 h_3 => ?_) ⟨Nat.le_of_ble_eq_true rfl, Nat.le_of_ble_eq_true rfl⟩
    subst h_3
    refine lv_icmp_le (tgt := 14) hx hb pc_d_function_9 (by decide) (fun c_4 => ?_) (fun c_4 => ?_)
    · obtain ⟨x1, hx1, rfl⟩ := zw_le (by omega) c_1 c_4
      refine lv_iconst (v := (nI 0)) hx hb pc_d_function_14 (by decide) ?_
      refine lv_istore_n (lv' := [(2, .int (nI 0)), (0, .ref o), (1, .int (nI x1))]) hx hb pc_d_function_15 rfl hl (by decide) rfl (fun ls hl => ?_)
      refine lv_iconst (v := (nI 1)) hx hb pc_d_function_16 (by decide) ?_
      refine lv_istore_n (lv' := [(3, .int (nI 1)), (2, .int (nI 0)), (0, .ref o), (1, .int (nI x1))]) hx hb pc_d_function_17 rfl hl (by decide) rfl (fun ls hl => ?_)
      refine zl_loop (J := fun k ls H locs => ∃ (i : Nat) (sm : Nat), k = 2 ^ n - 1 - i ∧ (i ≤ 2 ^ n - 1) ∧ (sm = pz_f ph x1 i) ∧ H = s.heap ∧ locs = [] ∧ lv_has ls 4 [(0, .ref o), (1, .int (nI x1)), (2, .int (nI sm)), (3, .int (nI (i + 1)))]) (fun k18 ls H locs hJ18 ih18 => ?_) (2 ^ n - 1 - 0) ⟨0, 0, rfl, Nat.zero_le _, rfl, rfl, rfl, lv_sub hl [2, 3, 1, 0] rfl⟩
      obtain ⟨i, sm, hk18, hi, hsm, rfl, rfl, hl⟩ := hJ18
      refine lv_iload_n hx hb pc_d_function_18 rfl (lv_at hl 3 rfl) ?_
      refine lv_aload_n hx hb pc_d_function_19 rfl (lv_at hl 0 rfl) ?_
      refine zq_Vi (n := 0) (As := []) (rest := [.int (nI (i + 1))]) ⟨hx, hb, hml, hown, hts⟩ (pc_lastParity l dC dI cA o a1 a2 o3 a4 n lk li ne (by omega)) zg_pc55 (by decide +kernel) ⟨rfl, rfl⟩ ⟨Nat.le_of_ble_eq_true rfl, Nat.le_of_ble_eq_true rfl⟩ hK (hP.sub (ws' := [(o, .inr (2, [.ref a1, .ref a2, .ref o3, .ref a4, .int (nI n), .int (nI lk), .int li, .int ne]))]) [0] rfl) 2 0 rfl rfl rfl rfl hl.1 rfl (Nat.le_of_ble_eq_true rfl) pc_d_function_20 (fun r_5 h_6 => ?_) ⟨Nat.le_of_ble_eq_true rfl, Nat.le_of_ble_eq_true rfl⟩
      subst h_6
      refine zc_gt (tgt := 52) hx hb pc_d_function_23 (by decide) (by omega) (by omega) (fun c_7 => ?_) (fun c_7 => ?_)
      · have hle := zf_le x1 hph i
        refine lv_iload_n hx hb pc_d_function_52 rfl (lv_at hl 2 rfl) ?_
        refine lv_bipush (v := (nI 7)) hx hb pc_d_function_53 (by decide) ?_
        refine lv_iand hx hb pc_d_function_55 ?_
        refine zt_i (zb_m8 (a := sm) (by omega)) ?_
        exact W.iret (v := (nI (sm % 8))) hx hb hr (fun t ht hW => ⟨(nI (sm % 8)), rfl, Or.inl ⟨x1, by omega, rfl, by rw [hsm, show i = 2 ^ n - 1 by omega]⟩, ht⟩) (fun q h => by cases h) pc_d_function_56
      · refine lv_iload_n hx hb pc_d_function_26 rfl (lv_at hl 3 rfl) ?_
        refine lv_iload_n hx hb pc_d_function_27 rfl (lv_at hl 1 rfl) ?_
        refine lv_iand hx hb pc_d_function_28 ?_
        refine zt_i (zb_and (i + 1) x1) ?_
        refine zq_Si (n := 1) (As := [.int (nI ((i + 1) &&& x1))]) (rest := []) ⟨hx, hb, hml, hown, hts⟩ (jd_bitCount l ((i + 1) &&& x1) (Nat.lt_of_le_of_lt Nat.and_le_left (by omega))) zg_pc59 (by decide +kernel) ⟨rfl, rfl⟩ ⟨Nat.le_of_ble_eq_true rfl, Nat.le_of_ble_eq_true rfl⟩ rfl hl.1 rfl (Nat.le_of_ble_eq_true rfl) pc_d_function_29 (fun r_8 h_9 => ?_) ⟨Nat.le_of_ble_eq_true rfl, Nat.le_of_ble_eq_true rfl⟩
        subst h_9
        refine lv_iconst (v := (nI 1)) hx hb pc_d_function_32 (by decide) ?_
        have hpop := pz_pop_lt ((i + 1) &&& x1)
        refine lv_iand hx hb pc_d_function_33 ?_
        refine zt_i (zb_m2 (a := (pz_pop ((i + 1) &&& x1))) (by omega)) ?_
        refine zi_eq (tgt := 46) hx hb pc_d_function_34 (by decide) (by omega) (fun c_10 => ?_) (fun c_10 => ?_)
        · refine lv_iinc (v := (nI ((i + 1) + 1))) (lv' := [(3, .int (nI ((i + 1) + 1))), (0, .ref o), (1, .int (nI x1)), (2, .int (nI sm))]) hx hb pc_d_function_46 hl (k := 3) rfl (nI_1 (i + 1)) (by decide) rfl (fun ls hl => ?_)
          refine lv_goto (tgt := 18) hx hb pc_d_function_49 (by decide) ?_
          exact ih18 _ _ _ _ (by omega) ⟨i + 1, _, rfl, by omega, by rw [zf_add0 c_10]; exact hsm, rfl, rfl, lv_sub hl [1, 2, 3, 0] rfl⟩
        · refine lv_iload_n hx hb pc_d_function_37 rfl (lv_at hl 2 rfl) ?_
          refine lv_aload_n hx hb pc_d_function_38 rfl (lv_at hl 0 rfl) ?_
          refine va_get (D := (dC, dI)) (ci := 2) (v := .ref a2) (C := pc_R) (T := pc_T) (N := 8) hx hb hts pc_in hown hK hP 0 rfl rfl 1 (by decide) (hts _ zk_pc13) (fun _ h9 => h9) rfl pc_d_function_39 ?_
          refine lv_iload_n hx hb pc_d_function_42 rfl (lv_at hl 3 rfl) ?_
          refine zv_iald hx hb hK hP 1 0 rfl rfl (k := (i + 1)) (by omega) (by omega) pc_d_function_43 ?_
          refine lv_iadd hx hb pc_d_function_44 ?_
          refine zt_i (nI_add sm (ph (i + 1))) ?_
          refine lv_istore_n (lv' := [(2, .int (nI (sm + (ph (i + 1))))), (0, .ref o), (1, .int (nI x1)), (3, .int (nI (i + 1)))]) hx hb pc_d_function_45 rfl hl (by decide) rfl (fun ls hl => ?_)
          refine lv_iinc (v := (nI ((i + 1) + 1))) (lv' := [(3, .int (nI ((i + 1) + 1))), (2, .int (nI (sm + (ph (i + 1))))), (0, .ref o), (1, .int (nI x1))]) hx hb pc_d_function_46 hl (k := 3) rfl (nI_1 (i + 1)) (by decide) rfl (fun ls hl => ?_)
          refine lv_goto (tgt := 18) hx hb pc_d_function_49 (by decide) ?_
          exact ih18 _ _ _ _ (by omega) ⟨i + 1, _, rfl, by omega, by rw [zf_add1 c_10, hsm], rfl, rfl, lv_sub hl [2, 3, 1, 0] rfl⟩
    · refine lv_iconst (v := (-1)) hx hb pc_d_function_12 (by decide) ?_
      exact W.iret (v := (-1)) hx hb hr (fun t ht hW => ⟨(-1), rfl, Or.inr ⟨fun h => c_4 (by obtain ⟨j, h1, rfl⟩ := h; exact nI_le (by omega) (by omega)), rfl⟩, ht⟩) (fun q h => by cases h) pc_d_function_13
set_option maxHeartbeats 4000000 in
set_option maxRecDepth 100000 in
/-- startWith(m) -/
theorem pc_startWith (l : Launch) (dC : Nat → ClassId) (dI : Nat → Nat → Nat) (cA : Nat → ClassId) (sz : Nat) (o a1 a2 o3 a4 n lk : Nat) (li ne : Int32) (pa ph : Nat → Nat) (m0 : Nat)  : Met l pc_y_startWith pc_w_startWith ({ frames := 1, cells := 0, slots := 0, locals := 23 }) (va_Pc [.ref o, .int (nI m0)] (zB (dC, dI) cA [(o, .inr (2, [.ref a1, .ref a2, .ref o3, .ref a4, .int (nI n), .int (nI lk), .int li, .int ne])), (a1, .inl (cA 0, 4, .inl (nA pa))), (a2, .inl (cA 0, 16, .inl (nA ph)))] sz)) (va_Qv (fun (u : (Nat → Nat) × (Nat → Nat)) => (∀ j, j < 4 → u.1 j = 2 ^ j) ∧ ∀ j, j < 16 → u.2 j = 0) (fun u t => zE (dC, dI) (va_A [(o, .inr (2, [.ref a1, .ref a2, .ref o3, .ref a4, .int (nI n), .int (nI lk), .int li, .int ne])), (a1, .inl (cA 0, 4, .inl (nA pa))), (a2, .inl (cA 0, 16, .inl (nA ph)))] sz) ((fun (u : (Nat → Nat) × (Nat → Nat)) => [(o, .inr (2, [.ref a1, .ref a2, .ref o3, .ref a4, .int (nI m0), .int (nI 0), .int (-1), .int (-1)])), (a1, .inl (cA 0, 4, .inl (nA u.1))), (a2, .inl (cA 0, 16, .inl (nA u.2)))]) u) t) (va_A [(o, .inr (2, [.ref a1, .ref a2, .ref o3, .ref a4, .int (nI n), .int (nI lk), .int li, .int ne])), (a1, .inl (cA 0, 4, .inl (nA pa))), (a2, .inl (cA 0, 16, .inl (nA ph)))] sz)) 0 0 (va_A [(o, .inr (2, [.ref a1, .ref a2, .ref o3, .ref a4, .int (nI n), .int (nI lk), .int li, .int ne])), (a1, .inl (cA 0, 4, .inl (nA pa))), (a2, .inl (cA 0, 16, .inl (nA ph)))] sz) := by
  refine Met.ofW (cc := pc_c_startWith) (maxL := 3) (ret := (none : Option Jvm.ClassFile.FieldType)) (by decide) rfl ?_
  intro p e s m args below meth c s₁ B hml hv
  obtain ⟨rfl, hsz, hP, hK, hD0, hZ⟩ := hv
  have hx := B.exec
  have hb := B.bytes
  have hr := B.returns
  have hts0 := atoms_spec (ws := pc_w_startWith) B.pre
  have hts : ∀ w ∈ zz_tbl, w.before _ s = true := fun w h => hts0 w (List.mem_cons_of_mem _ h)
  have hown : s.vm.findClass pc_R = some m.cls := findClass_of_methodNamed B.named
  have hlocks := B.notSynchronized
  subst hsz
  have hD := hD0.self (sz := s.heap.size)
  generalize hAe : va_A [(o, .inr (2, [.ref a1, .ref a2, .ref o3, .ref a4, .int (nI n), .int (nI lk), .int li, .int ne])), (a1, .inl (cA 0, 4, .inl (nA pa))), (a2, .inl (cA 0, 16, .inl (nA ph)))] s.heap.size = A at hD hZ ⊢
  have hA : ∀ q : Nat, s.heap.size ≤ q → A q := fun q h => by rw [← hAe]; exact Or.inr h
  have hS : va_S A s.heap s.heap [] := va_S.rf
  have hP : va_P (dC, dI) zz_cl [(o, .inr (2, [.ref a1, .ref a2, .ref o3, .ref a4, .int (nI n), .int (nI lk), .int li, .int ne])), (a1, .inl (cA 0, 4, .inl (nA pa))), (a2, .inl (cA 0, 16, .inl (nA ph)))] s.heap := hP
  have hl := lv_entry ([.ref o, .int (nI m0)]) (n := 3) (Nat.le_of_ble_eq_true rfl)
  rw [lg_entry_eq]
  generalize (lg_sl ([.ref o, .int (nI m0)]) ++ List.replicate (3 - (lg_sl ([.ref o, .int (nI m0)])).length) Slot.unset).toArray = ls at hl ⊢
  have hl : lv_has ls 3 [(0, .ref o), (1, .int (nI m0))] := hl
  refine lv_aload_n hx hb pc_d_startWith_0 rfl (lv_at hl 0 rfl) ?_
  refine lv_iload_n hx hb pc_d_startWith_1 rfl (lv_at hl 1 rfl) ?_
  refine va_put (D := (dC, dI)) (ci := 2) (v := .int (nI m0)) (ty := .int) (C := pc_R) (T := pc_T) (N := 8) hx hb hts pc_in pc_t pc_ok pc_nm hown hK hP hD hS 0 rfl rfl 4 (by decide) (hts _ zk_pc95) (fun _ h9 => h9) rfl (by decide +kernel) rfl rfl (Nat.le_of_ble_eq_true rfl) pc_d_startWith_2 (fun H locs hP hD hS => ?_)
  have hP : va_P (dC, dI) zz_cl [(o, .inr (2, [.ref a1, .ref a2, .ref o3, .ref a4, .int (nI m0), .int (nI lk), .int li, .int ne])), (a1, .inl (cA 0, 4, .inl (nA pa))), (a2, .inl (cA 0, 16, .inl (nA ph)))] H := hP
  have hD : va_D A [(o, .inr (2, [.ref a1, .ref a2, .ref o3, .ref a4, .int (nI m0), .int (nI lk), .int li, .int ne])), (a1, .inl (cA 0, 4, .inl (nA pa))), (a2, .inl (cA 0, 16, .inl (nA ph)))] := hD
  refine lv_iconst (v := (nI 0)) hx hb pc_d_startWith_5 (by decide) ?_
  refine lv_istore_n (lv' := [(2, .int (nI 0)), (0, .ref o), (1, .int (nI m0))]) hx hb pc_d_startWith_6 rfl hl (by decide) rfl (fun ls hl => ?_)
  refine zl_loop (J := fun k ls H locs => ∃ (i : Nat) (g : Nat → Nat), k = 4 - i ∧ (i ≤ 4) ∧ (∀ j, j < i → g j = 2 ^ j) ∧ va_P (dC, dI) zz_cl [(a2, .inl (cA 0, 16, .inl (nA ph))), (o, .inr (2, [.ref a1, .ref a2, .ref o3, .ref a4, .int (nI m0), .int (nI lk), .int li, .int ne])), (a1, .inl (cA 0, 4, .inl (nA g)))] H ∧ va_D A [(a2, .inl (cA 0, 16, .inl (nA ph))), (o, .inr (2, [.ref a1, .ref a2, .ref o3, .ref a4, .int (nI m0), .int (nI lk), .int li, .int ne])), (a1, .inl (cA 0, 4, .inl (nA g)))] ∧ va_S A s.heap H locs ∧ lv_has ls 3 [(0, .ref o), (1, .int (nI m0)), (2, .int (nI i))]) (fun k7 ls H locs hJ7 ih7 => ?_) (4 - 0) ⟨0, pa, rfl, Nat.zero_le _, fun j h => absurd h (Nat.not_lt_zero _), hP.sub [2, 0, 1] rfl, hD.sub [2, 0, 1] (by decide) rfl, hS, lv_sub hl [1, 2, 0] rfl⟩
  obtain ⟨i, g, hk7, hi, hg, hP, hD, hS, hl⟩ := hJ7
  refine lv_iload_n hx hb pc_d_startWith_7 rfl (lv_at hl 2 rfl) ?_
  refine lv_iconst (v := (nI 4)) hx hb pc_d_startWith_8 (by decide) ?_
  refine zc_ge (tgt := 27) hx hb pc_d_startWith_9 (by decide) (by omega) (by omega) (fun c_1 => ?_) (fun c_1 => ?_)
  · refine lv_aload_n hx hb pc_d_startWith_27 rfl (lv_at hl 0 rfl) ?_
    refine va_get (D := (dC, dI)) (ci := 2) (v := .ref a2) (C := pc_R) (T := pc_T) (N := 8) hx hb hts pc_in hown hK hP 1 rfl rfl 1 (by decide) (hts _ zk_pc13) (fun _ h9 => h9) rfl pc_d_startWith_28 ?_
    refine lv_iconst (v := (nI 0)) hx hb pc_d_startWith_31 (by decide) ?_
    refine zq_Swv (n := 2) (As := [.ref a2, .int (nI 0)]) (rest := []) (wc := [(a2, .inl (cA 0, 16, .inl (nA ph)))]) (wr := [(o, .inr (2, [.ref a1, .ref a2, .ref o3, .ref a4, .int (nI m0), .int (nI lk), .int li, .int ne])), (a1, .inl (cA 0, 4, .inl (nA g)))]) ⟨hx, hb, hml, hown, hts⟩ (jd_fill l dC dI cA _ a2 16 0 ph (by omega)) zg_pc107 (by decide +kernel) ⟨rfl, rfl⟩ ⟨Nat.le_of_ble_eq_true rfl, Nat.le_of_ble_eq_true rfl⟩ hK hP hD hS hA hZ [0] [1, 2] rfl rfl (by decide) rfl hl.1 rfl (Nat.le_of_ble_eq_true rfl) pc_d_startWith_32 (fun u_4 H locs h_3 hP hD hS => ?_) ⟨Nat.le_of_ble_eq_true rfl, Nat.le_of_ble_eq_true rfl⟩
    have hP : va_P (dC, dI) zz_cl [(o, .inr (2, [.ref a1, .ref a2, .ref o3, .ref a4, .int (nI m0), .int (nI lk), .int li, .int ne])), (a1, .inl (cA 0, 4, .inl (nA g))), (a2, .inl (cA 0, 16, .inl (nA u_4)))] H := hP
    have hD : va_D A [(o, .inr (2, [.ref a1, .ref a2, .ref o3, .ref a4, .int (nI m0), .int (nI lk), .int li, .int ne])), (a1, .inl (cA 0, 4, .inl (nA g))), (a2, .inl (cA 0, 16, .inl (nA u_4)))] := hD
    refine lv_aload_n hx hb pc_d_startWith_35 rfl (lv_at hl 0 rfl) ?_
    refine lv_iconst (v := (nI 0)) hx hb pc_d_startWith_36 (by decide) ?_
    refine va_put (D := (dC, dI)) (ci := 2) (v := .int (nI 0)) (ty := .boolean) (C := pc_R) (T := pc_T) (N := 8) hx hb hts pc_in pc_t pc_ok pc_nm hown hK hP hD hS 0 rfl rfl 5 (by decide) (hts _ zk_pc44) (fun _ h9 => h9) rfl (by decide +kernel) rfl rfl (Nat.le_of_ble_eq_true rfl) pc_d_startWith_37 (fun H locs hP hD hS => ?_)
    have hP : va_P (dC, dI) zz_cl [(o, .inr (2, [.ref a1, .ref a2, .ref o3, .ref a4, .int (nI m0), .int (nI 0), .int li, .int ne])), (a1, .inl (cA 0, 4, .inl (nA g))), (a2, .inl (cA 0, 16, .inl (nA u_4)))] H := hP
    have hD : va_D A [(o, .inr (2, [.ref a1, .ref a2, .ref o3, .ref a4, .int (nI m0), .int (nI 0), .int li, .int ne])), (a1, .inl (cA 0, 4, .inl (nA g))), (a2, .inl (cA 0, 16, .inl (nA u_4)))] := hD
    refine lv_aload_n hx hb pc_d_startWith_40 rfl (lv_at hl 0 rfl) ?_
    refine zq_Vwv (n := 0) (As := []) (rest := []) (wc := [(o, .inr (2, [.ref a1, .ref a2, .ref o3, .ref a4, .int (nI m0), .int (nI 0), .int li, .int ne]))]) (wr := [(a1, .inl (cA 0, 4, .inl (nA g))), (a2, .inl (cA 0, 16, .inl (nA u_4)))]) ⟨hx, hb, hml, hown, hts⟩ (pc_forgetPlans l dC dI cA _ o a1 a2 o3 a4 m0 0 li ne) zg_pc37 (by decide +kernel) ⟨rfl, rfl⟩ ⟨Nat.le_of_ble_eq_true rfl, Nat.le_of_ble_eq_true rfl⟩ hK hP hD hS hA hZ [0] [1, 2] rfl rfl (by decide) 2 0 rfl rfl rfl rfl hl.1 rfl (Nat.le_of_ble_eq_true rfl) pc_d_startWith_41 (fun u_7 H locs h_6 hP hD hS => ?_) ⟨Nat.le_of_ble_eq_true rfl, Nat.le_of_ble_eq_true rfl⟩
    have hP : va_P (dC, dI) zz_cl [(a1, .inl (cA 0, 4, .inl (nA g))), (a2, .inl (cA 0, 16, .inl (nA u_4))), (o, .inr (2, [.ref a1, .ref a2, .ref o3, .ref a4, .int (nI m0), .int (nI 0), .int (-1), .int (-1)]))] H := hP
    have hD : va_D A [(a1, .inl (cA 0, 4, .inl (nA g))), (a2, .inl (cA 0, 16, .inl (nA u_4))), (o, .inr (2, [.ref a1, .ref a2, .ref o3, .ref a4, .int (nI m0), .int (nI 0), .int (-1), .int (-1)]))] := hD
    have hP9 := hP.sub (ws' := [(o, .inr (2, [.ref a1, .ref a2, .ref o3, .ref a4, .int (nI m0), .int (nI 0), .int (-1), .int (-1)])), (a1, .inl (cA 0, 4, .inl (nA g))), (a2, .inl (cA 0, 16, .inl (nA u_4)))]) [2, 0, 1] rfl
    have hD9 := hD.sub (ws' := [(o, .inr (2, [.ref a1, .ref a2, .ref o3, .ref a4, .int (nI m0), .int (nI 0), .int (-1), .int (-1)])), (a1, .inl (cA 0, 4, .inl (nA g))), (a2, .inl (cA 0, 16, .inl (nA u_4)))]) [2, 0, 1] (by decide) rfl
    exact W.vret hx hb hr (fun t ht hW => ⟨⟨(g, u_4), rfl, ⟨fun j h => hg j (by omega), fun j h => (h_3 j).trans (if_pos h)⟩, by rw [ht]; exact hP9, hD9⟩, hS.F ht⟩) hS.2.2 pc_d_startWith_44
  · refine lv_aload_n hx hb pc_d_startWith_12 rfl (lv_at hl 0 rfl) ?_
    refine va_get (D := (dC, dI)) (ci := 2) (v := .ref a1) (C := pc_R) (T := pc_T) (N := 8) hx hb hts pc_in hown hK hP 1 rfl rfl 0 (by decide) (hts _ zk_pc9) (fun _ h9 => h9) rfl pc_d_startWith_13 ?_
    refine lv_iload_n hx hb pc_d_startWith_16 rfl (lv_at hl 2 rfl) ?_
    refine lv_iconst (v := (nI 1)) hx hb pc_d_startWith_17 (by decide) ?_
    refine lv_iload_n hx hb pc_d_startWith_18 rfl (lv_at hl 2 rfl) ?_
    refine lv_ishl hx hb pc_d_startWith_19 ?_
    refine zt_i (zb_shl1 (k := i) (by omega)) ?_
    refine zv_iast hx hb hK hP hD hS 2 0 rfl rfl (k := i) (v := (2 ^ i)) (by omega) (by omega) pc_d_startWith_20 (fun H locs hP hD hS => ?_)
    have hP : va_P (dC, dI) zz_cl [(a2, .inl (cA 0, 16, .inl (nA ph))), (o, .inr (2, [.ref a1, .ref a2, .ref o3, .ref a4, .int (nI m0), .int (nI lk), .int li, .int ne])), (a1, .inl (cA 0, 4, .inl (nA (va_up g i (2 ^ i)))))] H := hP
    have hD : va_D A [(a2, .inl (cA 0, 16, .inl (nA ph))), (o, .inr (2, [.ref a1, .ref a2, .ref o3, .ref a4, .int (nI m0), .int (nI lk), .int li, .int ne])), (a1, .inl (cA 0, 4, .inl (nA (va_up g i (2 ^ i)))))] := hD
    refine lv_iinc (v := (nI (i + 1))) (lv' := [(2, .int (nI (i + 1))), (0, .ref o), (1, .int (nI m0))]) hx hb pc_d_startWith_21 hl (k := 2) rfl (nI_1 i) (by decide) rfl (fun ls hl => ?_)
    refine lv_goto (tgt := 7) hx hb pc_d_startWith_24 (by decide) ?_
    exact ih7 _ _ _ _ (by omega) ⟨i + 1, _, rfl, by omega, zf_pow hg, hP, hD, hS, lv_sub hl [1, 2, 0] rfl⟩
set_option maxHeartbeats 4000000 in
set_option maxRecDepth 100000 in
/-- begin(x) -/
theorem pc_begin (l : Launch) (dC : Nat → ClassId) (dI : Nat → Nat → Nat) (cA : Nat → ClassId) (sz : Nat) (o a1 a2 o3 a4 n lk : Nat) (li ne : Int32) (pa ph : Nat → Nat) (x : Int32)  : Met l pc_y_begin pc_w_begin ({ frames := 2, cells := 0, slots := 0, locals := 45 }) (va_Pc [.ref o, .int x] (zB (dC, dI) cA [(o, .inr (2, [.ref a1, .ref a2, .ref o3, .ref a4, .int (nI n), .int (nI lk), .int li, .int ne])), (a1, .inl (cA 0, 4, .inl (nA pa))), (a2, .inl (cA 0, 16, .inl (nA ph)))] sz)) (va_Qi (fun (r : Int32) (u : Nat × (Nat → Nat) × (Nat → Nat) × Nat × Int32 × Int32) => (∃ m0, 1 ≤ m0 ∧ m0 ≤ 4 ∧ x = nI m0 ∧ r = nI 1 ∧ (∀ j, j < 4 → u.2.1 j = 2 ^ j) ∧ (∀ j, j < 16 → u.2.2.1 j = 0) ∧ u = (m0, u.2.1, u.2.2.1, 0, (-1), (-1))) ∨ (¬ zw_pa 4 x ∧ r = nI 0 ∧ u = (n, pa, ph, lk, li, ne))) (fun u t => zE (dC, dI) (va_A [(o, .inr (2, [.ref a1, .ref a2, .ref o3, .ref a4, .int (nI n), .int (nI lk), .int li, .int ne])), (a1, .inl (cA 0, 4, .inl (nA pa))), (a2, .inl (cA 0, 16, .inl (nA ph)))] sz) ((fun (u : Nat × (Nat → Nat) × (Nat → Nat) × Nat × Int32 × Int32) => [(o, .inr (2, [.ref a1, .ref a2, .ref o3, .ref a4, .int (nI u.1), .int (nI u.2.2.2.1), .int u.2.2.2.2.1, .int u.2.2.2.2.2])), (a1, .inl (cA 0, 4, .inl (nA u.2.1))), (a2, .inl (cA 0, 16, .inl (nA u.2.2.1)))]) u) t) (va_A [(o, .inr (2, [.ref a1, .ref a2, .ref o3, .ref a4, .int (nI n), .int (nI lk), .int li, .int ne])), (a1, .inl (cA 0, 4, .inl (nA pa))), (a2, .inl (cA 0, 16, .inl (nA ph)))] sz)) 0 0 (va_A [(o, .inr (2, [.ref a1, .ref a2, .ref o3, .ref a4, .int (nI n), .int (nI lk), .int li, .int ne])), (a1, .inl (cA 0, 4, .inl (nA pa))), (a2, .inl (cA 0, 16, .inl (nA ph)))] sz) := by
  refine Met.ofW (cc := pc_c_begin) (maxL := 2) (ret := (some .boolean)) (by decide) rfl ?_
  intro p e s m args below meth c s₁ B hml hv
  obtain ⟨rfl, hsz, hP, hK, hD0, hZ⟩ := hv
  have hx := B.exec
  have hb := B.bytes
  have hr := B.returns
  have hts0 := atoms_spec (ws := pc_w_begin) B.pre
  have hts : ∀ w ∈ zz_tbl, w.before _ s = true := fun w h => hts0 w (List.mem_cons_of_mem _ h)
  have hown : s.vm.findClass pc_R = some m.cls := findClass_of_methodNamed B.named
  have hlocks := B.notSynchronized
  subst hsz
  have hD := hD0.self (sz := s.heap.size)
  generalize hAe : va_A [(o, .inr (2, [.ref a1, .ref a2, .ref o3, .ref a4, .int (nI n), .int (nI lk), .int li, .int ne])), (a1, .inl (cA 0, 4, .inl (nA pa))), (a2, .inl (cA 0, 16, .inl (nA ph)))] s.heap.size = A at hD hZ ⊢
  have hA : ∀ q : Nat, s.heap.size ≤ q → A q := fun q h => by rw [← hAe]; exact Or.inr h
  have hS : va_S A s.heap s.heap [] := va_S.rf
  have hP : va_P (dC, dI) zz_cl [(o, .inr (2, [.ref a1, .ref a2, .ref o3, .ref a4, .int (nI n), .int (nI lk), .int li, .int ne])), (a1, .inl (cA 0, 4, .inl (nA pa))), (a2, .inl (cA 0, 16, .inl (nA ph)))] s.heap := hP
  have hl := lv_entry ([.ref o, .int x]) (n := 2) (Nat.le_of_ble_eq_true rfl)
  rw [lg_entry_eq]
  generalize (lg_sl ([.ref o, .int x]) ++ List.replicate (2 - (lg_sl ([.ref o, .int x])).length) Slot.unset).toArray = ls at hl ⊢
  have hl : lv_has ls 2 [(0, .ref o), (1, .int x)] := hl
  refine lv_iload_n hx hb pc_d_begin_0 rfl (lv_at hl 1 rfl) ?_
  refine lv_iconst (v := (nI 1)) hx hb pc_d_begin_1 (by decide) ?_
  refine lv_icmp_lt (tgt := 10) hx hb pc_d_begin_2 (by decide) (fun c_1 => ?_) (fun c_1 => ?_)
  · refine lv_iconst (v := (nI 0)) hx hb pc_d_begin_10 (by decide) ?_
    have hP9 := hP.sub (ws' := [(o, .inr (2, [.ref a1, .ref a2, .ref o3, .ref a4, .int (nI n), .int (nI lk), .int li, .int ne])), (a1, .inl (cA 0, 4, .inl (nA pa))), (a2, .inl (cA 0, 16, .inl (nA ph)))]) [0, 1, 2] rfl
    have hD9 := hD.sub (ws' := [(o, .inr (2, [.ref a1, .ref a2, .ref o3, .ref a4, .int (nI n), .int (nI lk), .int li, .int ne])), (a1, .inl (cA 0, 4, .inl (nA pa))), (a2, .inl (cA 0, 16, .inl (nA ph)))]) [0, 1, 2] (by decide) rfl
    exact W.zret (v := (nI 0)) hx hb hr (by decide) (fun t ht hW => ⟨⟨(nI 0), (n, pa, ph, lk, li, ne), rfl, Or.inr ⟨fun h => zw_pa_lt (by decide) c_1 h, rfl, rfl⟩, by rw [ht]; exact hP9, hD9⟩, hS.F ht⟩) hS.2.2 pc_d_begin_11
  · refine lv_iload_n hx hb pc_d_begin_5 rfl (lv_at hl 1 rfl) ?_
    refine lv_iconst (v := (nI 4)) hx hb pc_d_begin_6 (by decide) ?_
    refine lv_icmp_le (tgt := 12) hx hb pc_d_begin_7 (by decide) (fun c_2 => ?_) (fun c_2 => ?_)
    · obtain ⟨m0, hm1, hm4, rfl⟩ := zw_14 c_1 c_2
      refine lv_aload_n hx hb pc_d_begin_12 rfl (lv_at hl 0 rfl) ?_
      refine lv_iload_n hx hb pc_d_begin_13 rfl (lv_at hl 1 rfl) ?_
      refine zq_Vwv (n := 1) (As := [.int (nI m0)]) (rest := []) (wc := [(o, .inr (2, [.ref a1, .ref a2, .ref o3, .ref a4, .int (nI n), .int (nI lk), .int li, .int ne])), (a1, .inl (cA 0, 4, .inl (nA pa))), (a2, .inl (cA 0, 16, .inl (nA ph)))]) (wr := []) ⟨hx, hb, hml, hown, hts⟩ (pc_startWith l dC dI cA _ o a1 a2 o3 a4 n lk li ne pa ph m0) zg_pc29 (by decide +kernel) ⟨rfl, rfl⟩ ⟨Nat.le_of_ble_eq_true rfl, Nat.le_of_ble_eq_true rfl⟩ hK hP hD hS hA hZ [0, 1, 2] [] rfl rfl (by decide) 2 0 rfl rfl rfl rfl hl.1 rfl (Nat.le_of_ble_eq_true rfl) pc_d_begin_14 (fun u_5 H locs h_4 hP hD hS => ?_) ⟨Nat.le_of_ble_eq_true rfl, Nat.le_of_ble_eq_true rfl⟩
      obtain ⟨pa_u_5, ph_u_5⟩ := u_5
      have hP : va_P (dC, dI) zz_cl [(o, .inr (2, [.ref a1, .ref a2, .ref o3, .ref a4, .int (nI m0), .int (nI 0), .int (-1), .int (-1)])), (a1, .inl (cA 0, 4, .inl (nA pa_u_5))), (a2, .inl (cA 0, 16, .inl (nA ph_u_5)))] H := hP
      have hD : va_D A [(o, .inr (2, [.ref a1, .ref a2, .ref o3, .ref a4, .int (nI m0), .int (nI 0), .int (-1), .int (-1)])), (a1, .inl (cA 0, 4, .inl (nA pa_u_5))), (a2, .inl (cA 0, 16, .inl (nA ph_u_5)))] := hD
      refine lv_iconst (v := (nI 1)) hx hb pc_d_begin_17 (by decide) ?_
      have hP9 := hP.sub (ws' := [(o, .inr (2, [.ref a1, .ref a2, .ref o3, .ref a4, .int (nI m0), .int (nI 0), .int (-1), .int (-1)])), (a1, .inl (cA 0, 4, .inl (nA pa_u_5))), (a2, .inl (cA 0, 16, .inl (nA ph_u_5)))]) [0, 1, 2] rfl
      have hD9 := hD.sub (ws' := [(o, .inr (2, [.ref a1, .ref a2, .ref o3, .ref a4, .int (nI m0), .int (nI 0), .int (-1), .int (-1)])), (a1, .inl (cA 0, 4, .inl (nA pa_u_5))), (a2, .inl (cA 0, 16, .inl (nA ph_u_5)))]) [0, 1, 2] (by decide) rfl
      exact W.zret (v := (nI 1)) hx hb hr (by decide) (fun t ht hW => ⟨⟨(nI 1), (m0, pa_u_5, ph_u_5, 0, (-1), (-1)), rfl, Or.inl ⟨m0, hm1, hm4, rfl, rfl, h_4.1, h_4.2, rfl⟩, by rw [ht]; exact hP9, hD9⟩, hS.F ht⟩) hS.2.2 pc_d_begin_18
    · refine lv_iconst (v := (nI 0)) hx hb pc_d_begin_10 (by decide) ?_
      have hP9 := hP.sub (ws' := [(o, .inr (2, [.ref a1, .ref a2, .ref o3, .ref a4, .int (nI n), .int (nI lk), .int li, .int ne])), (a1, .inl (cA 0, 4, .inl (nA pa))), (a2, .inl (cA 0, 16, .inl (nA ph)))]) [0, 1, 2] rfl
      have hD9 := hD.sub (ws' := [(o, .inr (2, [.ref a1, .ref a2, .ref o3, .ref a4, .int (nI n), .int (nI lk), .int li, .int ne])), (a1, .inl (cA 0, 4, .inl (nA pa))), (a2, .inl (cA 0, 16, .inl (nA ph)))]) [0, 1, 2] (by decide) rfl
      exact W.zret (v := (nI 0)) hx hb hr (by decide) (fun t ht hW => ⟨⟨(nI 0), (n, pa, ph, lk, li, ne), rfl, Or.inr ⟨fun h => c_2 (by obtain ⟨j, h1, h2, rfl⟩ := h; exact nI_le (by omega) (by decide)), rfl, rfl⟩, by rw [ht]; exact hP9, hD9⟩, hS.F ht⟩) hS.2.2 pc_d_begin_11
