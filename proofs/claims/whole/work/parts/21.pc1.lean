set_option maxHeartbeats 4000000 in
set_option maxRecDepth 100000 in
/-- lastParity(): 2 ^ n - 1 -/
theorem pc_lastParity (l : Launch) (dC : Nat → ClassId) (dI : Nat → Nat → Nat) (cA : Nat → ClassId) (o a1 a2 o3 a4 n lk : Nat) (li ne : Int32) (hn : n < 31) : Met l pc_y_lastParity pc_w_lastParity ({ frames := 0, cells := 0, slots := 0, locals := 0 }) (va_Pc [.ref o] (zR (dC, dI) cA [(o, .inr (2, [.ref a1, .ref a2, .ref o3, .ref a4, .int (nI n), .int (nI lk), .int li, .int ne]))])) (vp_Si (fun r => r = nI (2 ^ n - 1))) 0 0 (fun _ => False) := by
  refine Met.ofW (cc := pc_c_lastParity) (maxL := 1) (ret := (some .int)) (by decide) rfl ?_
  intro p e s m args below meth c s₁ B hml hv
  obtain ⟨rfl, hP, hK⟩ := hv
  have hx := B.exec
  have hb := B.bytes
  have hr := B.returns
  have hts0 := atoms_spec (ws := pc_w_lastParity) B.pre
  have hts : ∀ w ∈ zz_tbl, w.before _ s = true := fun w h => hts0 w (List.mem_cons_of_mem _ h)
  have hown : s.vm.findClass pc_R = some m.cls := findClass_of_methodNamed B.named
  have hlocks := B.notSynchronized
  have hP : va_P (dC, dI) zz_cl [(o, .inr (2, [.ref a1, .ref a2, .ref o3, .ref a4, .int (nI n), .int (nI lk), .int li, .int ne]))] s.heap := hP
  have hl := lv_entry ([.ref o]) (n := 1) (Nat.le_of_ble_eq_true rfl)
  rw [lg_entry_eq]
  generalize (lg_sl ([.ref o]) ++ List.replicate (1 - (lg_sl ([.ref o])).length) Slot.unset).toArray = ls at hl ⊢
  have hl : lv_has ls 1 [(0, .ref o)] := hl
  have hpow : 0 < 2 ^ n := Nat.two_pow_pos n
  refine lv_iconst (v := (nI 1)) hx hb pc_d_lastParity_0 (by decide) ?_
  refine lv_aload_n hx hb pc_d_lastParity_1 rfl (lv_at hl 0 rfl) ?_
  refine va_get (D := (dC, dI)) (ci := 2) (v := .int (nI n)) (C := pc_R) (T := pc_T) (N := 8) hx hb hts pc_in hown hK hP 0 rfl rfl 4 (by decide) (hts _ zk_pc95) (fun _ h9 => h9) rfl pc_d_lastParity_2 ?_
  refine lv_ishl hx hb pc_d_lastParity_5 ?_
  refine zt_i (zb_shl1 (k := n) (by omega)) ?_
  refine lv_iconst (v := (nI 1)) hx hb pc_d_lastParity_6 (by decide) ?_
  refine lv_isub hx hb pc_d_lastParity_7 ?_
  refine zt_i (pk_sub (a := (2 ^ n)) (b := 1) (by omega)) ?_
  exact W.iret (v := (nI ((2 ^ n) - 1))) hx hb hr (fun t ht hW => ⟨(nI ((2 ^ n) - 1)), rfl, rfl, ht⟩) (fun q h => by cases h) pc_d_lastParity_8
set_option maxHeartbeats 4000000 in
set_option maxRecDepth 100000 in
/-- isWire(a): whether a is one of 0 .. n - 1 -/
theorem pc_isWire (l : Launch) (dC : Nat → ClassId) (dI : Nat → Nat → Nat) (cA : Nat → ClassId) (o a1 a2 o3 a4 n lk : Nat) (li ne : Int32) (a : Int32) (hn : n < 31) : Met l pc_y_isWire pc_w_isWire ({ frames := 0, cells := 0, slots := 0, locals := 0 }) (va_Pc [.ref o, .int a] (zR (dC, dI) cA [(o, .inr (2, [.ref a1, .ref a2, .ref o3, .ref a4, .int (nI n), .int (nI lk), .int li, .int ne]))])) (vp_Si (fun r => (zw_in n a ∧ r = nI 1) ∨ (¬ zw_in n a ∧ r = nI 0))) 0 0 (fun _ => False) := by
  refine Met.ofW (cc := pc_c_isWire) (maxL := 2) (ret := (some .boolean)) (by decide) rfl ?_
  intro p e s m args below meth c s₁ B hml hv
  obtain ⟨rfl, hP, hK⟩ := hv
  have hx := B.exec
  have hb := B.bytes
  have hr := B.returns
  have hts0 := atoms_spec (ws := pc_w_isWire) B.pre
  have hts : ∀ w ∈ zz_tbl, w.before _ s = true := fun w h => hts0 w (List.mem_cons_of_mem _ h)
  have hown : s.vm.findClass pc_R = some m.cls := findClass_of_methodNamed B.named
  have hlocks := B.notSynchronized
  have hP : va_P (dC, dI) zz_cl [(o, .inr (2, [.ref a1, .ref a2, .ref o3, .ref a4, .int (nI n), .int (nI lk), .int li, .int ne]))] s.heap := hP
  have hl := lv_entry ([.ref o, .int a]) (n := 2) (Nat.le_of_ble_eq_true rfl)
  rw [lg_entry_eq]
  generalize (lg_sl ([.ref o, .int a]) ++ List.replicate (2 - (lg_sl ([.ref o, .int a])).length) Slot.unset).toArray = ls at hl ⊢
  have hl : lv_has ls 2 [(0, .ref o), (1, .int a)] := hl
  refine lv_iload_n hx hb pc_d_isWire_0 rfl (lv_at hl 1 rfl) ?_
  refine lv_if_lt (tgt := 16) hx hb pc_d_isWire_1 (by decide) (fun c_1 => ?_) (fun c_1 => ?_)
  · refine lv_iconst (v := (nI 0)) hx hb pc_d_isWire_16 (by decide) ?_
    exact W.zret (v := (nI 0)) hx hb hr (by decide) (fun t ht hW => ⟨(nI 0), rfl, Or.inr ⟨zw_neg (by omega) c_1, rfl⟩, ht⟩) (fun q h => by cases h) pc_d_isWire_17
  · refine lv_iload_n hx hb pc_d_isWire_4 rfl (lv_at hl 1 rfl) ?_
    refine lv_aload_n hx hb pc_d_isWire_5 rfl (lv_at hl 0 rfl) ?_
    refine va_get (D := (dC, dI)) (ci := 2) (v := .int (nI n)) (C := pc_R) (T := pc_T) (N := 8) hx hb hts pc_in hown hK hP 0 rfl rfl 4 (by decide) (hts _ zk_pc95) (fun _ h9 => h9) rfl pc_d_isWire_6 ?_
    refine lv_icmp_ge (tgt := 16) hx hb pc_d_isWire_9 (by decide) (fun c_2 => ?_) (fun c_2 => ?_)
    · refine lv_iconst (v := (nI 0)) hx hb pc_d_isWire_16 (by decide) ?_
      exact W.zret (v := (nI 0)) hx hb hr (by decide) (fun t ht hW => ⟨(nI 0), rfl, Or.inr ⟨zw_big (by omega) c_2, rfl⟩, ht⟩) (fun q h => by cases h) pc_d_isWire_17
    · refine lv_iconst (v := (nI 1)) hx hb pc_d_isWire_12 (by decide) ?_
      refine lv_goto (tgt := 17) hx hb pc_d_isWire_13 (by decide) ?_
      exact W.zret (v := (nI 1)) hx hb hr (by decide) (fun t ht hW => ⟨(nI 1), rfl, Or.inl ⟨zw_ok (by omega) c_1 c_2, rfl⟩, ht⟩) (fun q h => by cases h) pc_d_isWire_17
set_option maxHeartbeats 4000000 in
set_option maxRecDepth 100000 in
/-- isParity(a): whether a is one of 1 .. 2 ^ n - 1 -/
theorem pc_isParity (l : Launch) (dC : Nat → ClassId) (dI : Nat → Nat → Nat) (cA : Nat → ClassId) (o a1 a2 o3 a4 n lk : Nat) (li ne : Int32) (a : Int32) (hn : n ≤ 4) : Met l pc_y_isParity pc_w_isParity ({ frames := 1, cells := 0, slots := 0, locals := 20 }) (va_Pc [.ref o, .int a] (zR (dC, dI) cA [(o, .inr (2, [.ref a1, .ref a2, .ref o3, .ref a4, .int (nI n), .int (nI lk), .int li, .int ne]))])) (vp_Si (fun r => (zw_pa (2 ^ n - 1) a ∧ r = nI 1) ∨ (¬ zw_pa (2 ^ n - 1) a ∧ r = nI 0))) 0 0 (fun _ => False) := by
  refine Met.ofW (cc := pc_c_isParity) (maxL := 2) (ret := (some .boolean)) (by decide) rfl ?_
  intro p e s m args below meth c s₁ B hml hv
  obtain ⟨rfl, hP, hK⟩ := hv
  have hx := B.exec
  have hb := B.bytes
  have hr := B.returns
  have hts0 := atoms_spec (ws := pc_w_isParity) B.pre
  have hts : ∀ w ∈ zz_tbl, w.before _ s = true := fun w h => hts0 w (List.mem_cons_of_mem _ h)
  have hown : s.vm.findClass pc_R = some m.cls := findClass_of_methodNamed B.named
  have hlocks := B.notSynchronized
  have hP : va_P (dC, dI) zz_cl [(o, .inr (2, [.ref a1, .ref a2, .ref o3, .ref a4, .int (nI n), .int (nI lk), .int li, .int ne]))] s.heap := hP
  have hl := lv_entry ([.ref o, .int a]) (n := 2) (Nat.le_of_ble_eq_true rfl)
  rw [lg_entry_eq]
  generalize (lg_sl ([.ref o, .int a]) ++ List.replicate (2 - (lg_sl ([.ref o, .int a])).length) Slot.unset).toArray = ls at hl ⊢
  have hl : lv_has ls 2 [(0, .ref o), (1, .int a)] := hl
  have hpow : 0 < 2 ^ n := Nat.two_pow_pos n
  have hpow2 : 2 ^ n ≤ 2 ^ 4 := Nat.pow_le_pow_right (by decide) hn
  refine lv_iload_n hx hb pc_d_isParity_0 rfl (lv_at hl 1 rfl) ?_
  refine lv_iconst (v := (nI 1)) hx hb pc_d_isParity_1 (by decide) ?_
  refine lv_icmp_lt (tgt := 17) hx hb pc_d_isParity_2 (by decide) (fun c_1 => ?_) (fun c_1 => ?_)
  · refine lv_iconst (v := (nI 0)) hx hb pc_d_isParity_17 (by decide) ?_
    exact W.zret (v := (nI 0)) hx hb hr (by decide) (fun t ht hW => ⟨(nI 0), rfl, Or.inr ⟨zw_pa_lt (by omega) c_1, rfl⟩, ht⟩) (fun q h => by cases h) pc_d_isParity_18
  · refine lv_iload_n hx hb pc_d_isParity_5 rfl (lv_at hl 1 rfl) ?_
    refine lv_aload_n hx hb pc_d_isParity_6 rfl (lv_at hl 0 rfl) ?_
    refine zq_Vi (n := 0) (As := []) (rest := [.int a]) ⟨hx, hb, hml, hown, hts⟩ (pc_lastParity l dC dI cA o a1 a2 o3 a4 n lk li ne (by omega)) zg_pc55 (by decide +kernel) ⟨rfl, rfl⟩ ⟨Nat.le_of_ble_eq_true rfl, Nat.le_of_ble_eq_true rfl⟩ hK (hP.sub (ws' := [(o, .inr (2, [.ref a1, .ref a2, .ref o3, .ref a4, .int (nI n), .int (nI lk), .int li, .int ne]))]) [0] rfl) 2 0 rfl rfl rfl rfl hl.1 rfl (Nat.le_of_ble_eq_true rfl) pc_d_isParity_7 (fun r_2 h_3 => ?_) ⟨Nat.le_of_ble_eq_true rfl, Nat.le_of_ble_eq_true rfl⟩
    subst h_3
    refine lv_icmp_gt (tgt := 17) hx hb pc_d_isParity_10 (by decide) (fun c_4 => ?_) (fun c_4 => ?_)
    · refine lv_iconst (v := (nI 0)) hx hb pc_d_isParity_17 (by decide) ?_
      exact W.zret (v := (nI 0)) hx hb hr (by decide) (fun t ht hW => ⟨(nI 0), rfl, Or.inr ⟨zw_pa_gt (by omega) c_4, rfl⟩, ht⟩) (fun q h => by cases h) pc_d_isParity_18
    · refine lv_iconst (v := (nI 1)) hx hb pc_d_isParity_13 (by decide) ?_
      refine lv_goto (tgt := 18) hx hb pc_d_isParity_14 (by decide) ?_
      exact W.zret (v := (nI 1)) hx hb hr (by decide) (fun t ht hW => ⟨(nI 1), rfl, Or.inl ⟨zw_pa_ok (by omega) c_1 c_4, rfl⟩, ht⟩) (fun q h => by cases h) pc_d_isParity_18
set_option maxHeartbeats 4000000 in
set_option maxRecDepth 100000 in
/-- areTwoWires(a, b) -/
theorem pc_areTwoWires (l : Launch) (dC : Nat → ClassId) (dI : Nat → Nat → Nat) (cA : Nat → ClassId) (o a1 a2 o3 a4 n lk : Nat) (li ne : Int32) (a b : Int32) (hn : n < 31) : Met l pc_y_areTwoWires pc_w_areTwoWires ({ frames := 1, cells := 0, slots := 0, locals := 21 }) (va_Pc [.ref o, .int a, .int b] (zR (dC, dI) cA [(o, .inr (2, [.ref a1, .ref a2, .ref o3, .ref a4, .int (nI n), .int (nI lk), .int li, .int ne]))])) (vp_Si (fun r => ((zw_in n a ∧ zw_in n b ∧ a ≠ b) ∧ r = nI 1) ∨ (¬ (zw_in n a ∧ zw_in n b ∧ a ≠ b) ∧ r = nI 0))) 0 0 (fun _ => False) := by
  refine Met.ofW (cc := pc_c_areTwoWires) (maxL := 3) (ret := (some .boolean)) (by decide) rfl ?_
  intro p e s m args below meth c s₁ B hml hv
  obtain ⟨rfl, hP, hK⟩ := hv
  have hx := B.exec
  have hb := B.bytes
  have hr := B.returns
  have hts0 := atoms_spec (ws := pc_w_areTwoWires) B.pre
  have hts : ∀ w ∈ zz_tbl, w.before _ s = true := fun w h => hts0 w (List.mem_cons_of_mem _ h)
  have hown : s.vm.findClass pc_R = some m.cls := findClass_of_methodNamed B.named
  have hlocks := B.notSynchronized
  have hP : va_P (dC, dI) zz_cl [(o, .inr (2, [.ref a1, .ref a2, .ref o3, .ref a4, .int (nI n), .int (nI lk), .int li, .int ne]))] s.heap := hP
  have hl := lv_entry ([.ref o, .int a, .int b]) (n := 3) (Nat.le_of_ble_eq_true rfl)
  rw [lg_entry_eq]
  generalize (lg_sl ([.ref o, .int a, .int b]) ++ List.replicate (3 - (lg_sl ([.ref o, .int a, .int b])).length) Slot.unset).toArray = ls at hl ⊢
  have hl : lv_has ls 3 [(0, .ref o), (1, .int a), (2, .int b)] := hl
  refine lv_aload_n hx hb pc_d_areTwoWires_0 rfl (lv_at hl 0 rfl) ?_
  refine lv_iload_n hx hb pc_d_areTwoWires_1 rfl (lv_at hl 1 rfl) ?_
  refine zq_Vi (n := 1) (As := [.int a]) (rest := []) ⟨hx, hb, hml, hown, hts⟩ (pc_isWire l dC dI cA o a1 a2 o3 a4 n lk li ne a (by omega)) zg_pc40 (by decide +kernel) ⟨rfl, rfl⟩ ⟨Nat.le_of_ble_eq_true rfl, Nat.le_of_ble_eq_true rfl⟩ hK (hP.sub (ws' := [(o, .inr (2, [.ref a1, .ref a2, .ref o3, .ref a4, .int (nI n), .int (nI lk), .int li, .int ne]))]) [0] rfl) 2 0 rfl rfl rfl rfl hl.1 rfl (Nat.le_of_ble_eq_true rfl) pc_d_areTwoWires_2 (fun r_1 h_2 => ?_) ⟨Nat.le_of_ble_eq_true rfl, Nat.le_of_ble_eq_true rfl⟩
  rcases h_2 with ⟨⟨ja, hja, rfl⟩, rfl⟩ | ⟨hna, rfl⟩
  · refine zi_eq (tgt := 25) hx hb pc_d_areTwoWires_5 (by decide) (by omega) (fun c_3 => absurd c_3 (by omega)) (fun c_3 => ?_)
    refine lv_aload_n hx hb pc_d_areTwoWires_8 rfl (lv_at hl 0 rfl) ?_
    refine lv_iload_n hx hb pc_d_areTwoWires_9 rfl (lv_at hl 2 rfl) ?_
    refine zq_Vi (n := 1) (As := [.int b]) (rest := []) ⟨hx, hb, hml, hown, hts⟩ (pc_isWire l dC dI cA o a1 a2 o3 a4 n lk li ne b (by omega)) zg_pc40 (by decide +kernel) ⟨rfl, rfl⟩ ⟨Nat.le_of_ble_eq_true rfl, Nat.le_of_ble_eq_true rfl⟩ hK (hP.sub (ws' := [(o, .inr (2, [.ref a1, .ref a2, .ref o3, .ref a4, .int (nI n), .int (nI lk), .int li, .int ne]))]) [0] rfl) 2 0 rfl rfl rfl rfl hl.1 rfl (Nat.le_of_ble_eq_true rfl) pc_d_areTwoWires_10 (fun r_4 h_5 => ?_) ⟨Nat.le_of_ble_eq_true rfl, Nat.le_of_ble_eq_true rfl⟩
    rcases h_5 with ⟨⟨jb, hjb, rfl⟩, rfl⟩ | ⟨hnb, rfl⟩
    · refine zi_eq (tgt := 25) hx hb pc_d_areTwoWires_13 (by decide) (by omega) (fun c_6 => absurd c_6 (by omega)) (fun c_6 => ?_)
      refine lv_iload_n hx hb pc_d_areTwoWires_16 rfl (lv_at hl 1 rfl) ?_
      refine lv_iload_n hx hb pc_d_areTwoWires_17 rfl (lv_at hl 2 rfl) ?_
      refine zc_eq (tgt := 25) hx hb pc_d_areTwoWires_18 (by decide) (by omega) (by omega) (fun c_7 => ?_) (fun c_7 => ?_)
      · refine lv_iconst (v := (nI 0)) hx hb pc_d_areTwoWires_25 (by decide) ?_
        exact W.zret (v := (nI 0)) hx hb hr (by decide) (fun t ht hW => ⟨(nI 0), rfl, Or.inr ⟨fun h => h.2.2 (by rw [c_7]), rfl⟩, ht⟩) (fun q h => by cases h) pc_d_areTwoWires_26
      · refine lv_iconst (v := (nI 1)) hx hb pc_d_areTwoWires_21 (by decide) ?_
        refine lv_goto (tgt := 26) hx hb pc_d_areTwoWires_22 (by decide) ?_
        exact W.zret (v := (nI 1)) hx hb hr (by decide) (fun t ht hW => ⟨(nI 1), rfl, Or.inl ⟨⟨⟨ja, hja, rfl⟩, ⟨jb, hjb, rfl⟩, fun q => c_7 ((nI_eq (by omega) (by omega)).mp q)⟩, rfl⟩, ht⟩) (fun q h => by cases h) pc_d_areTwoWires_26
    · refine zi_eq (tgt := 25) hx hb pc_d_areTwoWires_13 (by decide) (by omega) (fun c_8 => ?_) (fun c_8 => absurd c_8 (by omega))
      refine lv_iconst (v := (nI 0)) hx hb pc_d_areTwoWires_25 (by decide) ?_
      exact W.zret (v := (nI 0)) hx hb hr (by decide) (fun t ht hW => ⟨(nI 0), rfl, Or.inr ⟨fun h => hnb (h.2.1), rfl⟩, ht⟩) (fun q h => by cases h) pc_d_areTwoWires_26
  · refine zi_eq (tgt := 25) hx hb pc_d_areTwoWires_5 (by decide) (by omega) (fun c_9 => ?_) (fun c_9 => absurd c_9 (by omega))
    refine lv_iconst (v := (nI 0)) hx hb pc_d_areTwoWires_25 (by decide) ?_
    exact W.zret (v := (nI 0)) hx hb hr (by decide) (fun t ht hW => ⟨(nI 0), rfl, Or.inr ⟨fun h => hna (h.1), rfl⟩, ht⟩) (fun q h => by cases h) pc_d_areTwoWires_26
set_option maxHeartbeats 4000000 in
set_option maxRecDepth 100000 in
/-- forgetPlans(): both places are -1 -/
theorem pc_forgetPlans (l : Launch) (dC : Nat → ClassId) (dI : Nat → Nat → Nat) (cA : Nat → ClassId) (sz : Nat) (o a1 a2 o3 a4 n lk : Nat) (li ne : Int32)  : Met l pc_y_forgetPlans pc_w_forgetPlans ({ frames := 0, cells := 0, slots := 0, locals := 0 }) (va_Pc [.ref o] (zB (dC, dI) cA [(o, .inr (2, [.ref a1, .ref a2, .ref o3, .ref a4, .int (nI n), .int (nI lk), .int li, .int ne]))] sz)) (va_Qv (fun (_ : Unit) => True) (fun u t => zE (dC, dI) (va_A [(o, .inr (2, [.ref a1, .ref a2, .ref o3, .ref a4, .int (nI n), .int (nI lk), .int li, .int ne]))] sz) ((fun _ => [(o, .inr (2, [.ref a1, .ref a2, .ref o3, .ref a4, .int (nI n), .int (nI lk), .int (-1), .int (-1)]))]) u) t) (va_A [(o, .inr (2, [.ref a1, .ref a2, .ref o3, .ref a4, .int (nI n), .int (nI lk), .int li, .int ne]))] sz)) 0 0 (va_A [(o, .inr (2, [.ref a1, .ref a2, .ref o3, .ref a4, .int (nI n), .int (nI lk), .int li, .int ne]))] sz) := by
  refine Met.ofW (cc := pc_c_forgetPlans) (maxL := 1) (ret := (none : Option Jvm.ClassFile.FieldType)) (by decide) rfl ?_
  intro p e s m args below meth c s₁ B hml hv
  obtain ⟨rfl, hsz, hP, hK, hD0, hZ⟩ := hv
  have hx := B.exec
  have hb := B.bytes
  have hr := B.returns
  have hts0 := atoms_spec (ws := pc_w_forgetPlans) B.pre
  have hts : ∀ w ∈ zz_tbl, w.before _ s = true := fun w h => hts0 w (List.mem_cons_of_mem _ h)
  have hown : s.vm.findClass pc_R = some m.cls := findClass_of_methodNamed B.named
  have hlocks := B.notSynchronized
  subst hsz
  have hD := hD0.self (sz := s.heap.size)
  generalize hAe : va_A [(o, .inr (2, [.ref a1, .ref a2, .ref o3, .ref a4, .int (nI n), .int (nI lk), .int li, .int ne]))] s.heap.size = A at hD hZ ⊢
  have hA : ∀ q : Nat, s.heap.size ≤ q → A q := fun q h => by rw [← hAe]; exact Or.inr h
  have hS : va_S A s.heap s.heap [] := va_S.rf
  have hP : va_P (dC, dI) zz_cl [(o, .inr (2, [.ref a1, .ref a2, .ref o3, .ref a4, .int (nI n), .int (nI lk), .int li, .int ne]))] s.heap := hP
  have hl := lv_entry ([.ref o]) (n := 1) (Nat.le_of_ble_eq_true rfl)
  rw [lg_entry_eq]
  generalize (lg_sl ([.ref o]) ++ List.replicate (1 - (lg_sl ([.ref o])).length) Slot.unset).toArray = ls at hl ⊢
  have hl : lv_has ls 1 [(0, .ref o)] := hl
  refine lv_aload_n hx hb pc_d_forgetPlans_0 rfl (lv_at hl 0 rfl) ?_
  refine lv_iconst (v := (-1)) hx hb pc_d_forgetPlans_1 (by decide) ?_
  refine va_put (D := (dC, dI)) (ci := 2) (v := .int (-1)) (ty := .int) (C := pc_R) (T := pc_T) (N := 8) hx hb hts pc_in pc_t pc_ok pc_nm hown hK hP hD hS 0 rfl rfl 6 (by decide) (hts _ zk_pc82) (fun _ h9 => h9) rfl (by decide +kernel) rfl rfl (Nat.le_of_ble_eq_true rfl) pc_d_forgetPlans_2 (fun H locs hP hD hS => ?_)
  have hP : va_P (dC, dI) zz_cl [(o, .inr (2, [.ref a1, .ref a2, .ref o3, .ref a4, .int (nI n), .int (nI lk), .int (-1), .int ne]))] H := hP
  have hD : va_D A [(o, .inr (2, [.ref a1, .ref a2, .ref o3, .ref a4, .int (nI n), .int (nI lk), .int (-1), .int ne]))] := hD
  refine lv_aload_n hx hb pc_d_forgetPlans_5 rfl (lv_at hl 0 rfl) ?_
  refine lv_iconst (v := (-1)) hx hb pc_d_forgetPlans_6 (by decide) ?_
  refine va_put (D := (dC, dI)) (ci := 2) (v := .int (-1)) (ty := .int) (C := pc_R) (T := pc_T) (N := 8) hx hb hts pc_in pc_t pc_ok pc_nm hown hK hP hD hS 0 rfl rfl 7 (by decide) (hts _ zk_pc48) (fun _ h9 => h9) rfl (by decide +kernel) rfl rfl (Nat.le_of_ble_eq_true rfl) pc_d_forgetPlans_7 (fun H locs hP hD hS => ?_)
  have hP : va_P (dC, dI) zz_cl [(o, .inr (2, [.ref a1, .ref a2, .ref o3, .ref a4, .int (nI n), .int (nI lk), .int (-1), .int (-1)]))] H := hP
  have hD : va_D A [(o, .inr (2, [.ref a1, .ref a2, .ref o3, .ref a4, .int (nI n), .int (nI lk), .int (-1), .int (-1)]))] := hD
  have hP9 := hP.sub (ws' := [(o, .inr (2, [.ref a1, .ref a2, .ref o3, .ref a4, .int (nI n), .int (nI lk), .int (-1), .int (-1)]))]) [0] rfl
  have hD9 := hD.sub (ws' := [(o, .inr (2, [.ref a1, .ref a2, .ref o3, .ref a4, .int (nI n), .int (nI lk), .int (-1), .int (-1)]))]) [0] (by decide) rfl
  exact W.vret hx hb hr (fun t ht hW => ⟨⟨(), rfl, trivial, by rw [ht]; exact hP9, hD9⟩, hS.F ht⟩) hS.2.2 pc_d_forgetPlans_10
set_option maxHeartbeats 4000000 in
set_option maxRecDepth 100000 in
/-- parity(a) -/
theorem pc_parity (l : Launch) (dC : Nat → ClassId) (dI : Nat → Nat → Nat) (cA : Nat → ClassId) (o a1 a2 o3 a4 n lk : Nat) (li ne : Int32) (pa : Nat → Nat) (a : Int32) (hn : n ≤ 4) : Met l pc_y_parity pc_w_parity ({ frames := 1, cells := 0, slots := 0, locals := 21 }) (va_Pc [.ref o, .int a] (zR (dC, dI) cA [(o, .inr (2, [.ref a1, .ref a2, .ref o3, .ref a4, .int (nI n), .int (nI lk), .int li, .int ne])), (a1, .inl (cA 0, 4, .inl (nA pa)))])) (vp_Si (fun r => (∃ j, j < n ∧ a = nI j ∧ r = nI (pa j)) ∨ (¬ zw_in n a ∧ r = (-1)))) 0 0 (fun _ => False) := by
  refine Met.ofW (cc := pc_c_parity) (maxL := 2) (ret := (some .int)) (by decide) rfl ?_
  intro p e s m args below meth c s₁ B hml hv
  obtain ⟨rfl, hP, hK⟩ := hv
  have hx := B.exec
  have hb := B.bytes
  have hr := B.returns
  have hts0 := atoms_spec (ws := pc_w_parity) B.pre
  have hts : ∀ w ∈ zz_tbl, w.before _ s = true := fun w h => hts0 w (List.mem_cons_of_mem _ h)
  have hown : s.vm.findClass pc_R = some m.cls := findClass_of_methodNamed B.named
  have hlocks := B.notSynchronized
  have hP : va_P (dC, dI) zz_cl [(o, .inr (2, [.ref a1, .ref a2, .ref o3, .ref a4, .int (nI n), .int (nI lk), .int li, .int ne])), (a1, .inl (cA 0, 4, .inl (nA pa)))] s.heap := hP
  have hl := lv_entry ([.ref o, .int a]) (n := 2) (Nat.le_of_ble_eq_true rfl)
  rw [lg_entry_eq]
  generalize (lg_sl ([.ref o, .int a]) ++ List.replicate (2 - (lg_sl ([.ref o, .int a])).length) Slot.unset).toArray = ls at hl ⊢
  have hl : lv_has ls 2 [(0, .ref o), (1, .int a)] := hl
  refine lv_aload_n hx hb pc_d_parity_0 rfl (lv_at hl 0 rfl) ?_
  refine lv_iload_n hx hb pc_d_parity_1 rfl (lv_at hl 1 rfl) ?_
  refine zq_Vi (n := 1) (As := [.int a]) (rest := []) ⟨hx, hb, hml, hown, hts⟩ (pc_isWire l dC dI cA o a1 a2 o3 a4 n lk li ne a (by omega)) zg_pc40 (by decide +kernel) ⟨rfl, rfl⟩ ⟨Nat.le_of_ble_eq_true rfl, Nat.le_of_ble_eq_true rfl⟩ hK (hP.sub (ws' := [(o, .inr (2, [.ref a1, .ref a2, .ref o3, .ref a4, .int (nI n), .int (nI lk), .int li, .int ne]))]) [0] rfl) 2 0 rfl rfl rfl rfl hl.1 rfl (Nat.le_of_ble_eq_true rfl) pc_d_parity_2 (fun r_1 h_2 => ?_) ⟨Nat.le_of_ble_eq_true rfl, Nat.le_of_ble_eq_true rfl⟩
  rcases h_2 with ⟨⟨ja, hja, rfl⟩, rfl⟩ | ⟨hna, rfl⟩
  · refine zi_eq (tgt := 17) hx hb pc_d_parity_5 (by decide) (by omega) (fun c_3 => absurd c_3 (by omega)) (fun c_3 => ?_)
    refine lv_aload_n hx hb pc_d_parity_8 rfl (lv_at hl 0 rfl) ?_
    refine va_get (D := (dC, dI)) (ci := 2) (v := .ref a1) (C := pc_R) (T := pc_T) (N := 8) hx hb hts pc_in hown hK hP 0 rfl rfl 0 (by decide) (hts _ zk_pc9) (fun _ h9 => h9) rfl pc_d_parity_9 ?_
    refine lv_iload_n hx hb pc_d_parity_12 rfl (lv_at hl 1 rfl) ?_
    refine zv_iald hx hb hK hP 1 0 rfl rfl (k := ja) (by omega) (by omega) pc_d_parity_13 ?_
    refine lv_goto (tgt := 18) hx hb pc_d_parity_14 (by decide) ?_
    exact W.iret (v := (nI (pa ja))) hx hb hr (fun t ht hW => ⟨(nI (pa ja)), rfl, Or.inl ⟨ja, hja, rfl, rfl⟩, ht⟩) (fun q h => by cases h) pc_d_parity_18
  · refine zi_eq (tgt := 17) hx hb pc_d_parity_5 (by decide) (by omega) (fun c_4 => ?_) (fun c_4 => absurd c_4 (by omega))
    refine lv_iconst (v := (-1)) hx hb pc_d_parity_17 (by decide) ?_
    exact W.iret (v := (-1)) hx hb hr (fun t ht hW => ⟨(-1), rfl, Or.inr ⟨hna, rfl⟩, ht⟩) (fun q h => by cases h) pc_d_parity_18
set_option maxHeartbeats 4000000 in
set_option maxRecDepth 100000 in
/-- phase(a) -/
theorem pc_phase (l : Launch) (dC : Nat → ClassId) (dI : Nat → Nat → Nat) (cA : Nat → ClassId) (o a1 a2 o3 a4 n lk : Nat) (li ne : Int32) (ph : Nat → Nat) (a : Int32) (hn : n ≤ 4) : Met l pc_y_phase pc_w_phase ({ frames := 2, cells := 0, slots := 0, locals := 41 }) (va_Pc [.ref o, .int a] (zR (dC, dI) cA [(o, .inr (2, [.ref a1, .ref a2, .ref o3, .ref a4, .int (nI n), .int (nI lk), .int li, .int ne])), (a2, .inl (cA 0, 16, .inl (nA ph)))])) (vp_Si (fun r => (∃ j, 1 ≤ j ∧ j ≤ 2 ^ n - 1 ∧ a = nI j ∧ r = nI (ph j)) ∨ (¬ zw_pa (2 ^ n - 1) a ∧ r = (-1)))) 0 0 (fun _ => False) := by
  refine Met.ofW (cc := pc_c_phase) (maxL := 2) (ret := (some .int)) (by decide) rfl ?_
  intro p e s m args below meth c s₁ B hml hv
  obtain ⟨rfl, hP, hK⟩ := hv
  have hx := B.exec
  have hb := B.bytes
  have hr := B.returns
  have hts0 := atoms_spec (ws := pc_w_phase) B.pre
  have hts : ∀ w ∈ zz_tbl, w.before _ s = true := fun w h => hts0 w (List.mem_cons_of_mem _ h)
  have hown : s.vm.findClass pc_R = some m.cls := findClass_of_methodNamed B.named
  have hlocks := B.notSynchronized
  have hP : va_P (dC, dI) zz_cl [(o, .inr (2, [.ref a1, .ref a2, .ref o3, .ref a4, .int (nI n), .int (nI lk), .int li, .int ne])), (a2, .inl (cA 0, 16, .inl (nA ph)))] s.heap := hP
  have hl := lv_entry ([.ref o, .int a]) (n := 2) (Nat.le_of_ble_eq_true rfl)
  rw [lg_entry_eq]
  generalize (lg_sl ([.ref o, .int a]) ++ List.replicate (2 - (lg_sl ([.ref o, .int a])).length) Slot.unset).toArray = ls at hl ⊢
  have hl : lv_has ls 2 [(0, .ref o), (1, .int a)] := hl
  have hpow : 0 < 2 ^ n := Nat.two_pow_pos n
  have hpow2 : 2 ^ n ≤ 2 ^ 4 := Nat.pow_le_pow_right (by decide) hn
  refine lv_aload_n hx hb pc_d_phase_0 rfl (lv_at hl 0 rfl) ?_
  refine lv_iload_n hx hb pc_d_phase_1 rfl (lv_at hl 1 rfl) ?_
  refine zq_Vi (n := 1) (As := [.int a]) (rest := []) ⟨hx, hb, hml, hown, hts⟩ (pc_isParity l dC dI cA o a1 a2 o3 a4 n lk li ne a (by omega)) zg_pc52 (by decide +kernel) ⟨rfl, rfl⟩ ⟨Nat.le_of_ble_eq_true rfl, Nat.le_of_ble_eq_true rfl⟩ hK (hP.sub (ws' := [(o, .inr (2, [.ref a1, .ref a2, .ref o3, .ref a4, .int (nI n), .int (nI lk), .int li, .int ne]))]) [0] rfl) 2 0 rfl rfl rfl rfl hl.1 rfl (Nat.le_of_ble_eq_true rfl) pc_d_phase_2 (fun r_1 h_2 => ?_) ⟨Nat.le_of_ble_eq_true rfl, Nat.le_of_ble_eq_true rfl⟩
  rcases h_2 with ⟨⟨jp_3, hjp_3a, hjp_3b, rfl⟩, rfl⟩ | ⟨hnjp_3, rfl⟩
  · refine zi_eq (tgt := 17) hx hb pc_d_phase_5 (by decide) (by omega) (fun c_4 => absurd c_4 (by omega)) (fun c_4 => ?_)
    refine lv_aload_n hx hb pc_d_phase_8 rfl (lv_at hl 0 rfl) ?_
    refine va_get (D := (dC, dI)) (ci := 2) (v := .ref a2) (C := pc_R) (T := pc_T) (N := 8) hx hb hts pc_in hown hK hP 0 rfl rfl 1 (by decide) (hts _ zk_pc13) (fun _ h9 => h9) rfl pc_d_phase_9 ?_
    refine lv_iload_n hx hb pc_d_phase_12 rfl (lv_at hl 1 rfl) ?_
    refine zv_iald hx hb hK hP 1 0 rfl rfl (k := jp_3) (by omega) (by omega) pc_d_phase_13 ?_
    refine lv_goto (tgt := 18) hx hb pc_d_phase_14 (by decide) ?_
    exact W.iret (v := (nI (ph jp_3))) hx hb hr (fun t ht hW => ⟨(nI (ph jp_3)), rfl, Or.inl ⟨jp_3, hjp_3a, hjp_3b, rfl, rfl⟩, ht⟩) (fun q h => by cases h) pc_d_phase_18
  · refine zi_eq (tgt := 17) hx hb pc_d_phase_5 (by decide) (by omega) (fun c_5 => ?_) (fun c_5 => absurd c_5 (by omega))
    refine lv_iconst (v := (-1)) hx hb pc_d_phase_17 (by decide) ?_
    exact W.iret (v := (-1)) hx hb hr (fun t ht hW => ⟨(-1), rfl, Or.inr ⟨hnjp_3, rfl⟩, ht⟩) (fun q h => by cases h) pc_d_phase_18
set_option maxHeartbeats 4000000 in
set_option maxRecDepth 100000 in
/-- join(a, b) -/
theorem pc_join (l : Launch) (dC : Nat → ClassId) (dI : Nat → Nat → Nat) (cA : Nat → ClassId) (sz : Nat) (o a1 a2 o3 a4 n lk : Nat) (li ne : Int32) (pa : Nat → Nat) (a b : Int32) (hn : n ≤ 4) : Met l pc_y_join pc_w_join ({ frames := 2, cells := 0, slots := 0, locals := 43 }) (va_Pc [.ref o, .int a, .int b] (zB (dC, dI) cA [(o, .inr (2, [.ref a1, .ref a2, .ref o3, .ref a4, .int (nI n), .int (nI lk), .int li, .int ne])), (a1, .inl (cA 0, 4, .inl (nA pa)))] sz)) (va_Qi (fun (r : Int32) (u : (Nat → Nat) × Int32 × Int32) => (∃ ja jb, ja < n ∧ jb < n ∧ ja ≠ jb ∧ a = nI ja ∧ b = nI jb ∧ r = nI 1 ∧ u = (va_up pa jb (pa jb ^^^ pa ja), (-1), (-1))) ∨ (¬ (zw_in n a ∧ zw_in n b ∧ a ≠ b) ∧ r = nI 0 ∧ u = (pa, li, ne))) (fun u t => zE (dC, dI) (va_A [(o, .inr (2, [.ref a1, .ref a2, .ref o3, .ref a4, .int (nI n), .int (nI lk), .int li, .int ne])), (a1, .inl (cA 0, 4, .inl (nA pa)))] sz) ((fun (u : (Nat → Nat) × Int32 × Int32) => [(o, .inr (2, [.ref a1, .ref a2, .ref o3, .ref a4, .int (nI n), .int (nI lk), .int u.2.1, .int u.2.2])), (a1, .inl (cA 0, 4, .inl (nA u.1)))]) u) t) (va_A [(o, .inr (2, [.ref a1, .ref a2, .ref o3, .ref a4, .int (nI n), .int (nI lk), .int li, .int ne])), (a1, .inl (cA 0, 4, .inl (nA pa)))] sz)) 0 0 (va_A [(o, .inr (2, [.ref a1, .ref a2, .ref o3, .ref a4, .int (nI n), .int (nI lk), .int li, .int ne])), (a1, .inl (cA 0, 4, .inl (nA pa)))] sz) := by
  refine Met.ofW (cc := pc_c_join) (maxL := 3) (ret := (some .boolean)) (by decide) rfl ?_
  intro p e s m args below meth c s₁ B hml hv
  obtain ⟨rfl, hsz, hP, hK, hD0, hZ⟩ := hv
  have hx := B.exec
  have hb := B.bytes
  have hr := B.returns
  have hts0 := atoms_spec (ws := pc_w_join) B.pre
  have hts : ∀ w ∈ zz_tbl, w.before _ s = true := fun w h => hts0 w (List.mem_cons_of_mem _ h)
  have hown : s.vm.findClass pc_R = some m.cls := findClass_of_methodNamed B.named
  have hlocks := B.notSynchronized
  subst hsz
  have hD := hD0.self (sz := s.heap.size)
  generalize hAe : va_A [(o, .inr (2, [.ref a1, .ref a2, .ref o3, .ref a4, .int (nI n), .int (nI lk), .int li, .int ne])), (a1, .inl (cA 0, 4, .inl (nA pa)))] s.heap.size = A at hD hZ ⊢
  have hA : ∀ q : Nat, s.heap.size ≤ q → A q := fun q h => by rw [← hAe]; exact Or.inr h
  have hS : va_S A s.heap s.heap [] := va_S.rf
  have hP : va_P (dC, dI) zz_cl [(o, .inr (2, [.ref a1, .ref a2, .ref o3, .ref a4, .int (nI n), .int (nI lk), .int li, .int ne])), (a1, .inl (cA 0, 4, .inl (nA pa)))] s.heap := hP
  have hl := lv_entry ([.ref o, .int a, .int b]) (n := 3) (Nat.le_of_ble_eq_true rfl)
  rw [lg_entry_eq]
  generalize (lg_sl ([.ref o, .int a, .int b]) ++ List.replicate (3 - (lg_sl ([.ref o, .int a, .int b])).length) Slot.unset).toArray = ls at hl ⊢
  have hl : lv_has ls 3 [(0, .ref o), (1, .int a), (2, .int b)] := hl
  refine lv_aload_n hx hb pc_d_join_0 rfl (lv_at hl 0 rfl) ?_
  refine lv_iload_n hx hb pc_d_join_1 rfl (lv_at hl 1 rfl) ?_
  refine lv_iload_n hx hb pc_d_join_2 rfl (lv_at hl 2 rfl) ?_
  refine zq_Vi (n := 2) (As := [.int a, .int b]) (rest := []) ⟨hx, hb, hml, hown, hts⟩ (pc_areTwoWires l dC dI cA o a1 a2 o3 a4 n lk li ne a b (by omega)) zg_pc33 (by decide +kernel) ⟨rfl, rfl⟩ ⟨Nat.le_of_ble_eq_true rfl, Nat.le_of_ble_eq_true rfl⟩ hK (hP.sub (ws' := [(o, .inr (2, [.ref a1, .ref a2, .ref o3, .ref a4, .int (nI n), .int (nI lk), .int li, .int ne]))]) [0] rfl) 2 0 rfl rfl rfl rfl hl.1 rfl (Nat.le_of_ble_eq_true rfl) pc_d_join_3 (fun r_1 h_2 => ?_) ⟨Nat.le_of_ble_eq_true rfl, Nat.le_of_ble_eq_true rfl⟩
  rcases h_2 with ⟨⟨⟨ja, hja, rfl⟩, ⟨jb, hjb, rfl⟩, hab⟩, rfl⟩ | ⟨hno, rfl⟩
  · refine zi_ne (tgt := 11) hx hb pc_d_join_6 (by decide) (by omega) (fun c_3 => ?_) (fun c_3 => absurd c_3 (by omega))
    refine lv_aload_n hx hb pc_d_join_11 rfl (lv_at hl 0 rfl) ?_
    refine va_get (D := (dC, dI)) (ci := 2) (v := .ref a1) (C := pc_R) (T := pc_T) (N := 8) hx hb hts pc_in hown hK hP 0 rfl rfl 0 (by decide) (hts _ zk_pc9) (fun _ h9 => h9) rfl pc_d_join_12 ?_
    refine lv_iload_n hx hb pc_d_join_15 rfl (lv_at hl 2 rfl) ?_
    refine lv_dup2_11 hx hb pc_d_join_16 rfl rfl ?_
    refine zv_iald hx hb hK hP 1 0 rfl rfl (k := jb) (by omega) (by omega) pc_d_join_17 ?_
    refine lv_aload_n hx hb pc_d_join_18 rfl (lv_at hl 0 rfl) ?_
    refine va_get (D := (dC, dI)) (ci := 2) (v := .ref a1) (C := pc_R) (T := pc_T) (N := 8) hx hb hts pc_in hown hK hP 0 rfl rfl 0 (by decide) (hts _ zk_pc9) (fun _ h9 => h9) rfl pc_d_join_19 ?_
    refine lv_iload_n hx hb pc_d_join_22 rfl (lv_at hl 1 rfl) ?_
    refine zv_iald hx hb hK hP 1 0 rfl rfl (k := ja) (by omega) (by omega) pc_d_join_23 ?_
    refine lv_ixor hx hb pc_d_join_24 ?_
    refine zt_i (zb_xor (pa jb) (pa ja)) ?_
    refine zv_iast hx hb hK hP hD hS 1 0 rfl rfl (k := jb) (v := ((pa jb) ^^^ (pa ja))) (by omega) (by omega) pc_d_join_25 (fun H locs hP hD hS => ?_)
    have hP : va_P (dC, dI) zz_cl [(o, .inr (2, [.ref a1, .ref a2, .ref o3, .ref a4, .int (nI n), .int (nI lk), .int li, .int ne])), (a1, .inl (cA 0, 4, .inl (nA (va_up pa jb ((pa jb) ^^^ (pa ja))))))] H := hP
    have hD : va_D A [(o, .inr (2, [.ref a1, .ref a2, .ref o3, .ref a4, .int (nI n), .int (nI lk), .int li, .int ne])), (a1, .inl (cA 0, 4, .inl (nA (va_up pa jb ((pa jb) ^^^ (pa ja))))))] := hD
    refine lv_aload_n hx hb pc_d_join_26 rfl (lv_at hl 0 rfl) ?_
    refine zq_Vwv (n := 0) (As := []) (rest := []) (wc := [(o, .inr (2, [.ref a1, .ref a2, .ref o3, .ref a4, .int (nI n), .int (nI lk), .int li, .int ne]))]) (wr := [(a1, .inl (cA 0, 4, .inl (nA (va_up pa jb ((pa jb) ^^^ (pa ja))))))]) ⟨hx, hb, hml, hown, hts⟩ (pc_forgetPlans l dC dI cA _ o a1 a2 o3 a4 n lk li ne) zg_pc37 (by decide +kernel) ⟨rfl, rfl⟩ ⟨Nat.le_of_ble_eq_true rfl, Nat.le_of_ble_eq_true rfl⟩ hK hP hD hS hA hZ [0] [1] rfl rfl (by decide) 2 0 rfl rfl rfl rfl hl.1 rfl (Nat.le_of_ble_eq_true rfl) pc_d_join_27 (fun u_6 H locs h_5 hP hD hS => ?_) ⟨Nat.le_of_ble_eq_true rfl, Nat.le_of_ble_eq_true rfl⟩
    have hP : va_P (dC, dI) zz_cl [(a1, .inl (cA 0, 4, .inl (nA (va_up pa jb ((pa jb) ^^^ (pa ja)))))), (o, .inr (2, [.ref a1, .ref a2, .ref o3, .ref a4, .int (nI n), .int (nI lk), .int (-1), .int (-1)]))] H := hP
    have hD : va_D A [(a1, .inl (cA 0, 4, .inl (nA (va_up pa jb ((pa jb) ^^^ (pa ja)))))), (o, .inr (2, [.ref a1, .ref a2, .ref o3, .ref a4, .int (nI n), .int (nI lk), .int (-1), .int (-1)]))] := hD
    refine lv_iconst (v := (nI 1)) hx hb pc_d_join_30 (by decide) ?_
    have hP9 := hP.sub (ws' := [(o, .inr (2, [.ref a1, .ref a2, .ref o3, .ref a4, .int (nI n), .int (nI lk), .int (-1), .int (-1)])), (a1, .inl (cA 0, 4, .inl (nA (va_up pa jb ((pa jb) ^^^ (pa ja))))))]) [1, 0] rfl
    have hD9 := hD.sub (ws' := [(o, .inr (2, [.ref a1, .ref a2, .ref o3, .ref a4, .int (nI n), .int (nI lk), .int (-1), .int (-1)])), (a1, .inl (cA 0, 4, .inl (nA (va_up pa jb ((pa jb) ^^^ (pa ja))))))]) [1, 0] (by decide) rfl
    exact W.zret (v := (nI 1)) hx hb hr (by decide) (fun t ht hW => ⟨⟨(nI 1), (va_up pa jb (pa jb ^^^ pa ja), (-1), (-1)), rfl, Or.inl ⟨ja, jb, hja, hjb, fun q => hab (by rw [q]), rfl, rfl, rfl, rfl⟩, by rw [ht]; exact hP9, hD9⟩, hS.F ht⟩) hS.2.2 pc_d_join_31
  · refine zi_ne (tgt := 11) hx hb pc_d_join_6 (by decide) (by omega) (fun c_7 => absurd c_7 (by omega)) (fun c_7 => ?_)
    refine lv_iconst (v := (nI 0)) hx hb pc_d_join_9 (by decide) ?_
    have hP9 := hP.sub (ws' := [(o, .inr (2, [.ref a1, .ref a2, .ref o3, .ref a4, .int (nI n), .int (nI lk), .int li, .int ne])), (a1, .inl (cA 0, 4, .inl (nA pa)))]) [0, 1] rfl
    have hD9 := hD.sub (ws' := [(o, .inr (2, [.ref a1, .ref a2, .ref o3, .ref a4, .int (nI n), .int (nI lk), .int li, .int ne])), (a1, .inl (cA 0, 4, .inl (nA pa)))]) [0, 1] (by decide) rfl
    exact W.zret (v := (nI 0)) hx hb hr (by decide) (fun t ht hW => ⟨⟨(nI 0), (pa, li, ne), rfl, Or.inr ⟨hno, rfl, rfl⟩, by rw [ht]; exact hP9, hD9⟩, hS.F ht⟩) hS.2.2 pc_d_join_10
set_option maxHeartbeats 4000000 in
set_option maxRecDepth 100000 in
/-- change(a, b) -/
theorem pc_change (l : Launch) (dC : Nat → ClassId) (dI : Nat → Nat → Nat) (cA : Nat → ClassId) (sz : Nat) (o a1 a2 o3 a4 n lk : Nat) (li ne : Int32) (pa : Nat → Nat) (a b : Int32) (hn : n ≤ 4) : Met l pc_y_change pc_w_change ({ frames := 2, cells := 0, slots := 0, locals := 43 }) (va_Pc [.ref o, .int a, .int b] (zB (dC, dI) cA [(o, .inr (2, [.ref a1, .ref a2, .ref o3, .ref a4, .int (nI n), .int (nI lk), .int li, .int ne])), (a1, .inl (cA 0, 4, .inl (nA pa)))] sz)) (va_Qi (fun (r : Int32) (u : (Nat → Nat) × Int32 × Int32) => (∃ ja jb, ja < n ∧ jb < n ∧ ja ≠ jb ∧ a = nI ja ∧ b = nI jb ∧ r = nI 1 ∧ u = (va_up (va_up pa ja (pa jb)) jb (pa ja), (-1), (-1))) ∨ (¬ (zw_in n a ∧ zw_in n b ∧ a ≠ b) ∧ r = nI 0 ∧ u = (pa, li, ne))) (fun u t => zE (dC, dI) (va_A [(o, .inr (2, [.ref a1, .ref a2, .ref o3, .ref a4, .int (nI n), .int (nI lk), .int li, .int ne])), (a1, .inl (cA 0, 4, .inl (nA pa)))] sz) ((fun (u : (Nat → Nat) × Int32 × Int32) => [(o, .inr (2, [.ref a1, .ref a2, .ref o3, .ref a4, .int (nI n), .int (nI lk), .int u.2.1, .int u.2.2])), (a1, .inl (cA 0, 4, .inl (nA u.1)))]) u) t) (va_A [(o, .inr (2, [.ref a1, .ref a2, .ref o3, .ref a4, .int (nI n), .int (nI lk), .int li, .int ne])), (a1, .inl (cA 0, 4, .inl (nA pa)))] sz)) 0 0 (va_A [(o, .inr (2, [.ref a1, .ref a2, .ref o3, .ref a4, .int (nI n), .int (nI lk), .int li, .int ne])), (a1, .inl (cA 0, 4, .inl (nA pa)))] sz) := by
  refine Met.ofW (cc := pc_c_change) (maxL := 4) (ret := (some .boolean)) (by decide) rfl ?_
  intro p e s m args below meth c s₁ B hml hv
  obtain ⟨rfl, hsz, hP, hK, hD0, hZ⟩ := hv
  have hx := B.exec
  have hb := B.bytes
  have hr := B.returns
  have hts0 := atoms_spec (ws := pc_w_change) B.pre
  have hts : ∀ w ∈ zz_tbl, w.before _ s = true := fun w h => hts0 w (List.mem_cons_of_mem _ h)
  have hown : s.vm.findClass pc_R = some m.cls := findClass_of_methodNamed B.named
  have hlocks := B.notSynchronized
  subst hsz
  have hD := hD0.self (sz := s.heap.size)
  generalize hAe : va_A [(o, .inr (2, [.ref a1, .ref a2, .ref o3, .ref a4, .int (nI n), .int (nI lk), .int li, .int ne])), (a1, .inl (cA 0, 4, .inl (nA pa)))] s.heap.size = A at hD hZ ⊢
  have hA : ∀ q : Nat, s.heap.size ≤ q → A q := fun q h => by rw [← hAe]; exact Or.inr h
  have hS : va_S A s.heap s.heap [] := va_S.rf
  have hP : va_P (dC, dI) zz_cl [(o, .inr (2, [.ref a1, .ref a2, .ref o3, .ref a4, .int (nI n), .int (nI lk), .int li, .int ne])), (a1, .inl (cA 0, 4, .inl (nA pa)))] s.heap := hP
  have hl := lv_entry ([.ref o, .int a, .int b]) (n := 4) (Nat.le_of_ble_eq_true rfl)
  rw [lg_entry_eq]
  generalize (lg_sl ([.ref o, .int a, .int b]) ++ List.replicate (4 - (lg_sl ([.ref o, .int a, .int b])).length) Slot.unset).toArray = ls at hl ⊢
  have hl : lv_has ls 4 [(0, .ref o), (1, .int a), (2, .int b)] := hl
  refine lv_aload_n hx hb pc_d_change_0 rfl (lv_at hl 0 rfl) ?_
  refine lv_iload_n hx hb pc_d_change_1 rfl (lv_at hl 1 rfl) ?_
  refine lv_iload_n hx hb pc_d_change_2 rfl (lv_at hl 2 rfl) ?_
  refine zq_Vi (n := 2) (As := [.int a, .int b]) (rest := []) ⟨hx, hb, hml, hown, hts⟩ (pc_areTwoWires l dC dI cA o a1 a2 o3 a4 n lk li ne a b (by omega)) zg_pc33 (by decide +kernel) ⟨rfl, rfl⟩ ⟨Nat.le_of_ble_eq_true rfl, Nat.le_of_ble_eq_true rfl⟩ hK (hP.sub (ws' := [(o, .inr (2, [.ref a1, .ref a2, .ref o3, .ref a4, .int (nI n), .int (nI lk), .int li, .int ne]))]) [0] rfl) 2 0 rfl rfl rfl rfl hl.1 rfl (Nat.le_of_ble_eq_true rfl) pc_d_change_3 (fun r_1 h_2 => ?_) ⟨Nat.le_of_ble_eq_true rfl, Nat.le_of_ble_eq_true rfl⟩
  rcases h_2 with ⟨⟨⟨ja, hja, rfl⟩, ⟨jb, hjb, rfl⟩, hab⟩, rfl⟩ | ⟨hno, rfl⟩
  · refine zi_ne (tgt := 11) hx hb pc_d_change_6 (by decide) (by omega) (fun c_3 => ?_) (fun c_3 => absurd c_3 (by omega))
    refine lv_aload_n hx hb pc_d_change_11 rfl (lv_at hl 0 rfl) ?_
    refine va_get (D := (dC, dI)) (ci := 2) (v := .ref a1) (C := pc_R) (T := pc_T) (N := 8) hx hb hts pc_in hown hK hP 0 rfl rfl 0 (by decide) (hts _ zk_pc9) (fun _ h9 => h9) rfl pc_d_change_12 ?_
    refine lv_iload_n hx hb pc_d_change_15 rfl (lv_at hl 1 rfl) ?_
    refine zv_iald hx hb hK hP 1 0 rfl rfl (k := ja) (by omega) (by omega) pc_d_change_16 ?_
    refine lv_istore_n (lv' := [(3, .int (nI (pa ja))), (0, .ref o), (1, .int (nI ja)), (2, .int (nI jb))]) hx hb pc_d_change_17 rfl hl (by decide) rfl (fun ls hl => ?_)
    refine lv_aload_n hx hb pc_d_change_18 rfl (lv_at hl 1 rfl) ?_
    refine va_get (D := (dC, dI)) (ci := 2) (v := .ref a1) (C := pc_R) (T := pc_T) (N := 8) hx hb hts pc_in hown hK hP 0 rfl rfl 0 (by decide) (hts _ zk_pc9) (fun _ h9 => h9) rfl pc_d_change_19 ?_
    refine lv_iload_n hx hb pc_d_change_22 rfl (lv_at hl 2 rfl) ?_
    refine lv_aload_n hx hb pc_d_change_23 rfl (lv_at hl 1 rfl) ?_
    refine va_get (D := (dC, dI)) (ci := 2) (v := .ref a1) (C := pc_R) (T := pc_T) (N := 8) hx hb hts pc_in hown hK hP 0 rfl rfl 0 (by decide) (hts _ zk_pc9) (fun _ h9 => h9) rfl pc_d_change_24 ?_
    refine lv_iload_n hx hb pc_d_change_27 rfl (lv_at hl 3 rfl) ?_
    refine zv_iald hx hb hK hP 1 0 rfl rfl (k := jb) (by omega) (by omega) pc_d_change_28 ?_
    refine zv_iast hx hb hK hP hD hS 1 0 rfl rfl (k := ja) (v := (pa jb)) (by omega) (by omega) pc_d_change_29 (fun H locs hP hD hS => ?_)
    have hP : va_P (dC, dI) zz_cl [(o, .inr (2, [.ref a1, .ref a2, .ref o3, .ref a4, .int (nI n), .int (nI lk), .int li, .int ne])), (a1, .inl (cA 0, 4, .inl (nA (va_up pa ja (pa jb)))))] H := hP
    have hD : va_D A [(o, .inr (2, [.ref a1, .ref a2, .ref o3, .ref a4, .int (nI n), .int (nI lk), .int li, .int ne])), (a1, .inl (cA 0, 4, .inl (nA (va_up pa ja (pa jb)))))] := hD
    refine lv_aload_n hx hb pc_d_change_30 rfl (lv_at hl 1 rfl) ?_
    refine va_get (D := (dC, dI)) (ci := 2) (v := .ref a1) (C := pc_R) (T := pc_T) (N := 8) hx hb hts pc_in hown hK hP 0 rfl rfl 0 (by decide) (hts _ zk_pc9) (fun _ h9 => h9) rfl pc_d_change_31 ?_
    refine lv_iload_n hx hb pc_d_change_34 rfl (lv_at hl 3 rfl) ?_
    refine lv_iload_n hx hb pc_d_change_35 rfl (lv_at hl 0 rfl) ?_
    refine zv_iast hx hb hK hP hD hS 1 0 rfl rfl (k := jb) (v := (pa ja)) (by omega) (by omega) pc_d_change_36 (fun H locs hP hD hS => ?_)
    have hP : va_P (dC, dI) zz_cl [(o, .inr (2, [.ref a1, .ref a2, .ref o3, .ref a4, .int (nI n), .int (nI lk), .int li, .int ne])), (a1, .inl (cA 0, 4, .inl (nA (va_up (va_up pa ja (pa jb)) jb (pa ja)))))] H := hP
    have hD : va_D A [(o, .inr (2, [.ref a1, .ref a2, .ref o3, .ref a4, .int (nI n), .int (nI lk), .int li, .int ne])), (a1, .inl (cA 0, 4, .inl (nA (va_up (va_up pa ja (pa jb)) jb (pa ja)))))] := hD
    refine lv_aload_n hx hb pc_d_change_37 rfl (lv_at hl 1 rfl) ?_
    refine zq_Vwv (n := 0) (As := []) (rest := []) (wc := [(o, .inr (2, [.ref a1, .ref a2, .ref o3, .ref a4, .int (nI n), .int (nI lk), .int li, .int ne]))]) (wr := [(a1, .inl (cA 0, 4, .inl (nA (va_up (va_up pa ja (pa jb)) jb (pa ja)))))]) ⟨hx, hb, hml, hown, hts⟩ (pc_forgetPlans l dC dI cA _ o a1 a2 o3 a4 n lk li ne) zg_pc37 (by decide +kernel) ⟨rfl, rfl⟩ ⟨Nat.le_of_ble_eq_true rfl, Nat.le_of_ble_eq_true rfl⟩ hK hP hD hS hA hZ [0] [1] rfl rfl (by decide) 2 0 rfl rfl rfl rfl hl.1 rfl (Nat.le_of_ble_eq_true rfl) pc_d_change_38 (fun u_6 H locs h_5 hP hD hS => ?_) ⟨Nat.le_of_ble_eq_true rfl, Nat.le_of_ble_eq_true rfl⟩
    have hP : va_P (dC, dI) zz_cl [(a1, .inl (cA 0, 4, .inl (nA (va_up (va_up pa ja (pa jb)) jb (pa ja))))), (o, .inr (2, [.ref a1, .ref a2, .ref o3, .ref a4, .int (nI n), .int (nI lk), .int (-1), .int (-1)]))] H := hP
    have hD : va_D A [(a1, .inl (cA 0, 4, .inl (nA (va_up (va_up pa ja (pa jb)) jb (pa ja))))), (o, .inr (2, [.ref a1, .ref a2, .ref o3, .ref a4, .int (nI n), .int (nI lk), .int (-1), .int (-1)]))] := hD
    refine lv_iconst (v := (nI 1)) hx hb pc_d_change_41 (by decide) ?_
    have hP9 := hP.sub (ws' := [(o, .inr (2, [.ref a1, .ref a2, .ref o3, .ref a4, .int (nI n), .int (nI lk), .int (-1), .int (-1)])), (a1, .inl (cA 0, 4, .inl (nA (va_up (va_up pa ja (pa jb)) jb (pa ja)))))]) [1, 0] rfl
    have hD9 := hD.sub (ws' := [(o, .inr (2, [.ref a1, .ref a2, .ref o3, .ref a4, .int (nI n), .int (nI lk), .int (-1), .int (-1)])), (a1, .inl (cA 0, 4, .inl (nA (va_up (va_up pa ja (pa jb)) jb (pa ja)))))]) [1, 0] (by decide) rfl
    exact W.zret (v := (nI 1)) hx hb hr (by decide) (fun t ht hW => ⟨⟨(nI 1), (va_up (va_up pa ja (pa jb)) jb (pa ja), (-1), (-1)), rfl, Or.inl ⟨ja, jb, hja, hjb, fun q => hab (by rw [q]), rfl, rfl, rfl, rfl⟩, by rw [ht]; exact hP9, hD9⟩, hS.F ht⟩) hS.2.2 pc_d_change_42
  · refine zi_ne (tgt := 11) hx hb pc_d_change_6 (by decide) (by omega) (fun c_7 => absurd c_7 (by omega)) (fun c_7 => ?_)
    refine lv_iconst (v := (nI 0)) hx hb pc_d_change_9 (by decide) ?_
    have hP9 := hP.sub (ws' := [(o, .inr (2, [.ref a1, .ref a2, .ref o3, .ref a4, .int (nI n), .int (nI lk), .int li, .int ne])), (a1, .inl (cA 0, 4, .inl (nA pa)))]) [0, 1] rfl
    have hD9 := hD.sub (ws' := [(o, .inr (2, [.ref a1, .ref a2, .ref o3, .ref a4, .int (nI n), .int (nI lk), .int li, .int ne])), (a1, .inl (cA 0, 4, .inl (nA pa)))]) [0, 1] (by decide) rfl
    exact W.zret (v := (nI 0)) hx hb hr (by decide) (fun t ht hW => ⟨⟨(nI 0), (pa, li, ne), rfl, Or.inr ⟨hno, rfl, rfl⟩, by rw [ht]; exact hP9, hD9⟩, hS.F ht⟩) hS.2.2 pc_d_change_10
set_option maxHeartbeats 4000000 in
set_option maxRecDepth 100000 in
/-- turn(a, x) -/
theorem pc_turn (l : Launch) (dC : Nat → ClassId) (dI : Nat → Nat → Nat) (cA : Nat → ClassId) (sz : Nat) (o a1 a2 o3 a4 n lk : Nat) (li ne : Int32) (pa ph : Nat → Nat) (a x : Int32) (hn : n ≤ 4) (hpa : ∀ j, j < n → pa j < 16) : Met l pc_y_turn pc_w_turn ({ frames := 1, cells := 0, slots := 0, locals := 21 }) (va_Pc [.ref o, .int a, .int x] (zB (dC, dI) cA [(o, .inr (2, [.ref a1, .ref a2, .ref o3, .ref a4, .int (nI n), .int (nI lk), .int li, .int ne])), (a1, .inl (cA 0, 4, .inl (nA pa))), (a2, .inl (cA 0, 16, .inl (nA ph)))] sz)) (va_Qi (fun (r : Int32) (u : (Nat → Nat) × Nat × Int32) => (∃ ja, ja < n ∧ a = nI ja ∧ ¬ x < (-7) ∧ x ≤ nI 7 ∧ r = nI 1 ∧ u = (va_up ph (pa ja) (zt8 (ph (pa ja)) x), 0, (-1))) ∨ (¬ (zw_in n a ∧ ¬ x < (-7) ∧ x ≤ nI 7) ∧ r = nI 0 ∧ u = (ph, lk, ne))) (fun u t => zE (dC, dI) (va_A [(o, .inr (2, [.ref a1, .ref a2, .ref o3, .ref a4, .int (nI n), .int (nI lk), .int li, .int ne])), (a1, .inl (cA 0, 4, .inl (nA pa))), (a2, .inl (cA 0, 16, .inl (nA ph)))] sz) ((fun (u : (Nat → Nat) × Nat × Int32) => [(o, .inr (2, [.ref a1, .ref a2, .ref o3, .ref a4, .int (nI n), .int (nI u.2.1), .int li, .int u.2.2])), (a1, .inl (cA 0, 4, .inl (nA pa))), (a2, .inl (cA 0, 16, .inl (nA u.1)))]) u) t) (va_A [(o, .inr (2, [.ref a1, .ref a2, .ref o3, .ref a4, .int (nI n), .int (nI lk), .int li, .int ne])), (a1, .inl (cA 0, 4, .inl (nA pa))), (a2, .inl (cA 0, 16, .inl (nA ph)))] sz)) 0 0 (va_A [(o, .inr (2, [.ref a1, .ref a2, .ref o3, .ref a4, .int (nI n), .int (nI lk), .int li, .int ne])), (a1, .inl (cA 0, 4, .inl (nA pa))), (a2, .inl (cA 0, 16, .inl (nA ph)))] sz) := by
  refine Met.ofW (cc := pc_c_turn) (maxL := 4) (ret := (some .boolean)) (by decide) rfl ?_
  intro p e s m args below meth c s₁ B hml hv
  obtain ⟨rfl, hsz, hP, hK, hD0, hZ⟩ := hv
  have hx := B.exec
  have hb := B.bytes
  have hr := B.returns
  have hts0 := atoms_spec (ws := pc_w_turn) B.pre
  have hts : ∀ w ∈ zz_tbl, w.before _ s = true := fun w h => hts0 w (List.mem_cons_of_mem _ h)
  have hown : s.vm.findClass pc_R = some m.cls := findClass_of_methodNamed B.named
  have hlocks := B.notSynchronized
  subst hsz
  have hD := hD0.self (sz := s.heap.size)
  generalize hAe : va_A [(o, .inr (2, [.ref a1, .ref a2, .ref o3, .ref a4, .int (nI n), .int (nI lk), .int li, .int ne])), (a1, .inl (cA 0, 4, .inl (nA pa))), (a2, .inl (cA 0, 16, .inl (nA ph)))] s.heap.size = A at hD hZ ⊢
  have hA : ∀ q : Nat, s.heap.size ≤ q → A q := fun q h => by rw [← hAe]; exact Or.inr h
  have hS : va_S A s.heap s.heap [] := va_S.rf
  have hP : va_P (dC, dI) zz_cl [(o, .inr (2, [.ref a1, .ref a2, .ref o3, .ref a4, .int (nI n), .int (nI lk), .int li, .int ne])), (a1, .inl (cA 0, 4, .inl (nA pa))), (a2, .inl (cA 0, 16, .inl (nA ph)))] s.heap := hP
  have hl := lv_entry ([.ref o, .int a, .int x]) (n := 4) (Nat.le_of_ble_eq_true rfl)
  rw [lg_entry_eq]
  generalize (lg_sl ([.ref o, .int a, .int x]) ++ List.replicate (4 - (lg_sl ([.ref o, .int a, .int x])).length) Slot.unset).toArray = ls at hl ⊢
  have hl : lv_has ls 4 [(0, .ref o), (1, .int a), (2, .int x)] := hl
  refine lv_aload_n hx hb pc_d_turn_0 rfl (lv_at hl 0 rfl) ?_
  refine lv_iload_n hx hb pc_d_turn_1 rfl (lv_at hl 1 rfl) ?_
  refine zq_Vi (n := 1) (As := [.int a]) (rest := []) ⟨hx, hb, hml, hown, hts⟩ (pc_isWire l dC dI cA o a1 a2 o3 a4 n lk li ne a (by omega)) zg_pc40 (by decide +kernel) ⟨rfl, rfl⟩ ⟨Nat.le_of_ble_eq_true rfl, Nat.le_of_ble_eq_true rfl⟩ hK (hP.sub (ws' := [(o, .inr (2, [.ref a1, .ref a2, .ref o3, .ref a4, .int (nI n), .int (nI lk), .int li, .int ne]))]) [0] rfl) 2 0 rfl rfl rfl rfl hl.1 rfl (Nat.le_of_ble_eq_true rfl) pc_d_turn_2 (fun r_1 h_2 => ?_) ⟨Nat.le_of_ble_eq_true rfl, Nat.le_of_ble_eq_true rfl⟩
  rcases h_2 with ⟨⟨ja, hja, rfl⟩, rfl⟩ | ⟨hna, rfl⟩
  · refine zi_eq (tgt := 20) hx hb pc_d_turn_5 (by decide) (by omega) (fun c_3 => absurd c_3 (by omega)) (fun c_3 => ?_)
    refine lv_iload_n hx hb pc_d_turn_8 rfl (lv_at hl 2 rfl) ?_
    refine lv_bipush (v := (-7)) hx hb pc_d_turn_9 (by decide) ?_
    refine lv_icmp_lt (tgt := 20) hx hb pc_d_turn_11 (by decide) (fun c_4 => ?_) (fun c_4 => ?_)
    · refine lv_iconst (v := (nI 0)) hx hb pc_d_turn_20 (by decide) ?_
      have hP9 := hP.sub (ws' := [(o, .inr (2, [.ref a1, .ref a2, .ref o3, .ref a4, .int (nI n), .int (nI lk), .int li, .int ne])), (a1, .inl (cA 0, 4, .inl (nA pa))), (a2, .inl (cA 0, 16, .inl (nA ph)))]) [0, 1, 2] rfl
      have hD9 := hD.sub (ws' := [(o, .inr (2, [.ref a1, .ref a2, .ref o3, .ref a4, .int (nI n), .int (nI lk), .int li, .int ne])), (a1, .inl (cA 0, 4, .inl (nA pa))), (a2, .inl (cA 0, 16, .inl (nA ph)))]) [0, 1, 2] (by decide) rfl
      exact W.zret (v := (nI 0)) hx hb hr (by decide) (fun t ht hW => ⟨⟨(nI 0), (ph, lk, ne), rfl, Or.inr ⟨fun h => h.2.1 c_4, rfl, rfl⟩, by rw [ht]; exact hP9, hD9⟩, hS.F ht⟩) hS.2.2 pc_d_turn_21
    · refine lv_iload_n hx hb pc_d_turn_14 rfl (lv_at hl 2 rfl) ?_
      refine lv_bipush (v := (nI 7)) hx hb pc_d_turn_15 (by decide) ?_
      refine lv_icmp_le (tgt := 22) hx hb pc_d_turn_17 (by decide) (fun c_5 => ?_) (fun c_5 => ?_)
      · refine lv_aload_n hx hb pc_d_turn_22 rfl (lv_at hl 0 rfl) ?_
        refine va_get (D := (dC, dI)) (ci := 2) (v := .ref a1) (C := pc_R) (T := pc_T) (N := 8) hx hb hts pc_in hown hK hP 0 rfl rfl 0 (by decide) (hts _ zk_pc9) (fun _ h9 => h9) rfl pc_d_turn_23 ?_
        refine lv_iload_n hx hb pc_d_turn_26 rfl (lv_at hl 1 rfl) ?_
        refine zv_iald hx hb hK hP 1 0 rfl rfl (k := ja) (by omega) (by omega) pc_d_turn_27 ?_
        refine lv_istore_n (lv' := [(3, .int (nI (pa ja))), (0, .ref o), (1, .int (nI ja)), (2, .int x)]) hx hb pc_d_turn_28 rfl hl (by decide) rfl (fun ls hl => ?_)
        have hq := hpa ja hja
        refine lv_aload_n hx hb pc_d_turn_29 rfl (lv_at hl 1 rfl) ?_
        refine va_get (D := (dC, dI)) (ci := 2) (v := .ref a2) (C := pc_R) (T := pc_T) (N := 8) hx hb hts pc_in hown hK hP 0 rfl rfl 1 (by decide) (hts _ zk_pc13) (fun _ h9 => h9) rfl pc_d_turn_30 ?_
        refine lv_iload_n hx hb pc_d_turn_33 rfl (lv_at hl 0 rfl) ?_
        refine lv_aload_n hx hb pc_d_turn_34 rfl (lv_at hl 1 rfl) ?_
        refine va_get (D := (dC, dI)) (ci := 2) (v := .ref a2) (C := pc_R) (T := pc_T) (N := 8) hx hb hts pc_in hown hK hP 0 rfl rfl 1 (by decide) (hts _ zk_pc13) (fun _ h9 => h9) rfl pc_d_turn_35 ?_
        refine lv_iload_n hx hb pc_d_turn_38 rfl (lv_at hl 0 rfl) ?_
        refine zv_iald hx hb hK hP 2 0 rfl rfl (k := (pa ja)) (by omega) (by omega) pc_d_turn_39 ?_
        refine lv_iload_n hx hb pc_d_turn_40 rfl (lv_at hl 3 rfl) ?_
        refine lv_iadd hx hb pc_d_turn_41 ?_
        refine lv_bipush (v := (nI 7)) hx hb pc_d_turn_42 (by decide) ?_
        refine lv_iand hx hb pc_d_turn_44 ?_
        refine zt_i (zt8_eq _ _) ?_
        refine zv_iast hx hb hK hP hD hS 2 0 rfl rfl (k := (pa ja)) (v := (zt8 (ph (pa ja)) x)) (by omega) (by omega) pc_d_turn_45 (fun H locs hP hD hS => ?_)
        have hP : va_P (dC, dI) zz_cl [(o, .inr (2, [.ref a1, .ref a2, .ref o3, .ref a4, .int (nI n), .int (nI lk), .int li, .int ne])), (a1, .inl (cA 0, 4, .inl (nA pa))), (a2, .inl (cA 0, 16, .inl (nA (va_up ph (pa ja) (zt8 (ph (pa ja)) x)))))] H := hP
        have hD : va_D A [(o, .inr (2, [.ref a1, .ref a2, .ref o3, .ref a4, .int (nI n), .int (nI lk), .int li, .int ne])), (a1, .inl (cA 0, 4, .inl (nA pa))), (a2, .inl (cA 0, 16, .inl (nA (va_up ph (pa ja) (zt8 (ph (pa ja)) x)))))] := hD
        refine lv_aload_n hx hb pc_d_turn_46 rfl (lv_at hl 1 rfl) ?_
        refine lv_iconst (v := (nI 0)) hx hb pc_d_turn_47 (by decide) ?_
        refine va_put (D := (dC, dI)) (ci := 2) (v := .int (nI 0)) (ty := .boolean) (C := pc_R) (T := pc_T) (N := 8) hx hb hts pc_in pc_t pc_ok pc_nm hown hK hP hD hS 0 rfl rfl 5 (by decide) (hts _ zk_pc44) (fun _ h9 => h9) rfl (by decide +kernel) rfl rfl (Nat.le_of_ble_eq_true rfl) pc_d_turn_48 (fun H locs hP hD hS => ?_)
        have hP : va_P (dC, dI) zz_cl [(o, .inr (2, [.ref a1, .ref a2, .ref o3, .ref a4, .int (nI n), .int (nI 0), .int li, .int ne])), (a1, .inl (cA 0, 4, .inl (nA pa))), (a2, .inl (cA 0, 16, .inl (nA (va_up ph (pa ja) (zt8 (ph (pa ja)) x)))))] H := hP
        have hD : va_D A [(o, .inr (2, [.ref a1, .ref a2, .ref o3, .ref a4, .int (nI n), .int (nI 0), .int li, .int ne])), (a1, .inl (cA 0, 4, .inl (nA pa))), (a2, .inl (cA 0, 16, .inl (nA (va_up ph (pa ja) (zt8 (ph (pa ja)) x)))))] := hD
        refine lv_aload_n hx hb pc_d_turn_51 rfl (lv_at hl 1 rfl) ?_
        refine lv_iconst (v := (-1)) hx hb pc_d_turn_52 (by decide) ?_
        refine va_put (D := (dC, dI)) (ci := 2) (v := .int (-1)) (ty := .int) (C := pc_R) (T := pc_T) (N := 8) hx hb hts pc_in pc_t pc_ok pc_nm hown hK hP hD hS 0 rfl rfl 7 (by decide) (hts _ zk_pc48) (fun _ h9 => h9) rfl (by decide +kernel) rfl rfl (Nat.le_of_ble_eq_true rfl) pc_d_turn_53 (fun H locs hP hD hS => ?_)
        have hP : va_P (dC, dI) zz_cl [(o, .inr (2, [.ref a1, .ref a2, .ref o3, .ref a4, .int (nI n), .int (nI 0), .int li, .int (-1)])), (a1, .inl (cA 0, 4, .inl (nA pa))), (a2, .inl (cA 0, 16, .inl (nA (va_up ph (pa ja) (zt8 (ph (pa ja)) x)))))] H := hP
        have hD : va_D A [(o, .inr (2, [.ref a1, .ref a2, .ref o3, .ref a4, .int (nI n), .int (nI 0), .int li, .int (-1)])), (a1, .inl (cA 0, 4, .inl (nA pa))), (a2, .inl (cA 0, 16, .inl (nA (va_up ph (pa ja) (zt8 (ph (pa ja)) x)))))] := hD
        refine lv_iconst (v := (nI 1)) hx hb pc_d_turn_56 (by decide) ?_
        have hP9 := hP.sub (ws' := [(o, .inr (2, [.ref a1, .ref a2, .ref o3, .ref a4, .int (nI n), .int (nI 0), .int li, .int (-1)])), (a1, .inl (cA 0, 4, .inl (nA pa))), (a2, .inl (cA 0, 16, .inl (nA (va_up ph (pa ja) (zt8 (ph (pa ja)) x)))))]) [0, 1, 2] rfl
        have hD9 := hD.sub (ws' := [(o, .inr (2, [.ref a1, .ref a2, .ref o3, .ref a4, .int (nI n), .int (nI 0), .int li, .int (-1)])), (a1, .inl (cA 0, 4, .inl (nA pa))), (a2, .inl (cA 0, 16, .inl (nA (va_up ph (pa ja) (zt8 (ph (pa ja)) x)))))]) [0, 1, 2] (by decide) rfl
        exact W.zret (v := (nI 1)) hx hb hr (by decide) (fun t ht hW => ⟨⟨(nI 1), (va_up ph (pa ja) (zt8 (ph (pa ja)) x), 0, (-1)), rfl, Or.inl ⟨ja, hja, rfl, c_4, c_5, rfl, rfl⟩, by rw [ht]; exact hP9, hD9⟩, hS.F ht⟩) hS.2.2 pc_d_turn_57
      · refine lv_iconst (v := (nI 0)) hx hb pc_d_turn_20 (by decide) ?_
        have hP9 := hP.sub (ws' := [(o, .inr (2, [.ref a1, .ref a2, .ref o3, .ref a4, .int (nI n), .int (nI lk), .int li, .int ne])), (a1, .inl (cA 0, 4, .inl (nA pa))), (a2, .inl (cA 0, 16, .inl (nA ph)))]) [0, 1, 2] rfl
        have hD9 := hD.sub (ws' := [(o, .inr (2, [.ref a1, .ref a2, .ref o3, .ref a4, .int (nI n), .int (nI lk), .int li, .int ne])), (a1, .inl (cA 0, 4, .inl (nA pa))), (a2, .inl (cA 0, 16, .inl (nA ph)))]) [0, 1, 2] (by decide) rfl
        exact W.zret (v := (nI 0)) hx hb hr (by decide) (fun t ht hW => ⟨⟨(nI 0), (ph, lk, ne), rfl, Or.inr ⟨fun h => c_5 h.2.2, rfl, rfl⟩, by rw [ht]; exact hP9, hD9⟩, hS.F ht⟩) hS.2.2 pc_d_turn_21
  · refine zi_eq (tgt := 20) hx hb pc_d_turn_5 (by decide) (by omega) (fun c_6 => ?_) (fun c_6 => absurd c_6 (by omega))
    refine lv_iconst (v := (nI 0)) hx hb pc_d_turn_20 (by decide) ?_
    have hP9 := hP.sub (ws' := [(o, .inr (2, [.ref a1, .ref a2, .ref o3, .ref a4, .int (nI n), .int (nI lk), .int li, .int ne])), (a1, .inl (cA 0, 4, .inl (nA pa))), (a2, .inl (cA 0, 16, .inl (nA ph)))]) [0, 1, 2] rfl
    have hD9 := hD.sub (ws' := [(o, .inr (2, [.ref a1, .ref a2, .ref o3, .ref a4, .int (nI n), .int (nI lk), .int li, .int ne])), (a1, .inl (cA 0, 4, .inl (nA pa))), (a2, .inl (cA 0, 16, .inl (nA ph)))]) [0, 1, 2] (by decide) rfl
    exact W.zret (v := (nI 0)) hx hb hr (by decide) (fun t ht hW => ⟨⟨(nI 0), (ph, lk, ne), rfl, Or.inr ⟨fun h => hna h.1, rfl, rfl⟩, by rw [ht]; exact hP9, hD9⟩, hS.F ht⟩) hS.2.2 pc_d_turn_21
