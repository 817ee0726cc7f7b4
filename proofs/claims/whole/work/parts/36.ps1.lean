set_option maxHeartbeats 4000000 in
set_option maxRecDepth 100000 in
/-- parityOf(st, w) -/
theorem ps_parityOf (l : Launch) (dC : Nat → ClassId) (dI : Nat → Nat → Nat) (cA : Nat → ClassId) (o p1 m1 n mb mk cnt sp : Nat) (s0 w0 : Nat) (hn : n ≤ 4) (hs : s0 < 2 ^ 31) (hw : w0 < 4) : Met l ps_y_parityOf ps_w_parityOf ({ frames := 0, cells := 0, slots := 0, locals := 0 }) (va_Pc [.ref o, .int (nI s0), .int (nI w0)] (zR (dC, dI) cA [(o, .inr (1, [.int (nI n), .int (nI mb), .int (nI mk), .ref p1, .ref m1, .int (nI cnt), .int (nI sp)]))])) (vp_Si (fun r => r = nI (bn_par n s0 w0))) 0 0 (fun _ => False) := by
  refine Met.ofW (cc := ps_c_parityOf) (maxL := 3) (ret := (some .int)) (by decide) rfl ?_
  intro p e s m args below meth c s₁ B hml hv
  obtain ⟨rfl, hP, hK⟩ := hv
  have hx := B.exec
  have hb := B.bytes
  have hr := B.returns
  have hts0 := atoms_spec (ws := ps_w_parityOf) B.pre
  have hts : ∀ w ∈ zz_tbl, w.before _ s = true := fun w h => hts0 w (List.mem_cons_of_mem _ h)
  have hown : s.vm.findClass ps_R = some m.cls := findClass_of_methodNamed B.named
  have hlocks := B.notSynchronized
  have hP : va_P (dC, dI) zz_cl [(o, .inr (1, [.int (nI n), .int (nI mb), .int (nI mk), .ref p1, .ref m1, .int (nI cnt), .int (nI sp)]))] s.heap := hP
  have hl := lv_entry ([.ref o, .int (nI s0), .int (nI w0)]) (n := 3) (Nat.le_of_ble_eq_true rfl)
  rw [lg_entry_eq]
  generalize (lg_sl ([.ref o, .int (nI s0), .int (nI w0)]) ++ List.replicate (3 - (lg_sl ([.ref o, .int (nI s0), .int (nI w0)])).length) Slot.unset).toArray = ls at hl ⊢
  have hl : lv_has ls 3 [(0, .ref o), (1, .int (nI s0)), (2, .int (nI w0))] := hl
  have hpow : 0 < 2 ^ n := Nat.two_pow_pos n
  have hpow2 : 2 ^ n ≤ 2 ^ 4 := Nat.pow_le_pow_right (by decide) hn
  have hwn : w0 * n ≤ 12 := Nat.mul_le_mul (show w0 ≤ 3 by omega) hn
  refine lv_iload_n hx hb ps_d_parityOf_0 rfl (lv_at hl 1 rfl) ?_
  refine lv_iload_n hx hb ps_d_parityOf_1 rfl (lv_at hl 2 rfl) ?_
  refine lv_aload_n hx hb ps_d_parityOf_2 rfl (lv_at hl 0 rfl) ?_
  refine va_get (D := (dC, dI)) (ci := 1) (v := .int (nI n)) (C := ps_R) (T := ps_T) (N := 7) hx hb hts ps_in hown hK hP 0 rfl rfl 0 (by decide) (hts _ zk_ps9) (fun _ h9 => h9) rfl ps_d_parityOf_3 ?_
  refine lv_imul hx hb ps_d_parityOf_6 ?_
  refine zt_i (pk_mul w0 n) ?_
  refine lv_ishr hx hb ps_d_parityOf_7 ?_
  refine zt_i (zb_shr (a := s0) (k := (w0 * n)) (by omega) (by omega)) ?_
  have hd := Nat.div_le_self s0 (2 ^ (w0 * n))
  refine lv_iconst (v := (nI 1)) hx hb ps_d_parityOf_8 (by decide) ?_
  refine lv_aload_n hx hb ps_d_parityOf_9 rfl (lv_at hl 0 rfl) ?_
  refine va_get (D := (dC, dI)) (ci := 1) (v := .int (nI n)) (C := ps_R) (T := ps_T) (N := 7) hx hb hts ps_in hown hK hP 0 rfl rfl 0 (by decide) (hts _ zk_ps9) (fun _ h9 => h9) rfl ps_d_parityOf_10 ?_
  refine lv_ishl hx hb ps_d_parityOf_13 ?_
  refine zt_i (zb_shl1 (k := n) (by omega)) ?_
  refine lv_iconst (v := (nI 1)) hx hb ps_d_parityOf_14 (by decide) ?_
  refine lv_isub hx hb ps_d_parityOf_15 ?_
  refine zt_i (pk_sub (a := (2 ^ n)) (b := 1) (by omega)) ?_
  refine lv_iand hx hb ps_d_parityOf_16 ?_
  refine zt_i (zb_mk (a := (s0 / 2 ^ (w0 * n))) (n := n) (by omega) (by omega)) ?_
  exact W.iret (v := (nI (bn_par n s0 w0))) hx hb hr (fun t ht hW => ⟨(nI (bn_par n s0 w0)), rfl, rfl, ht⟩) (fun q h => by cases h) ps_d_parityOf_17
set_option maxHeartbeats 4000000 in
set_option maxRecDepth 100000 in
/-- withParity(st, w, other) -/
theorem ps_withParity (l : Launch) (dC : Nat → ClassId) (dI : Nat → Nat → Nat) (cA : Nat → ClassId) (o p1 m1 n mb mk cnt sp : Nat) (s0 w0 ot : Nat) (hn1 : 1 ≤ n) (hn : n ≤ 4) (hmb : mb = n * n) (hmk : mk = if n < 4 then 1 else 0) (hs : s0 < 65536) (hw : w0 < n) (ho : ot < 2 ^ n) : Met l ps_y_withParity ps_w_withParity ({ frames := 1, cells := 0, slots := 0, locals := 22 }) (va_Pc [.ref o, .int (nI s0), .int (nI w0), .int (nI ot)] (zR (dC, dI) cA [(o, .inr (1, [.int (nI n), .int (nI mb), .int (nI mk), .ref p1, .ref m1, .int (nI cnt), .int (nI sp)]))])) (vp_Si (fun r => r = nI (bn_with n s0 w0 ot))) 0 0 (fun _ => False) := by
  refine Met.ofW (cc := ps_c_withParity) (maxL := 5) (ret := (some .int)) (by decide) rfl ?_
  intro p e s m args below meth c s₁ B hml hv
  obtain ⟨rfl, hP, hK⟩ := hv
  have hx := B.exec
  have hb := B.bytes
  have hr := B.returns
  have hts0 := atoms_spec (ws := ps_w_withParity) B.pre
  have hts : ∀ w ∈ zz_tbl, w.before _ s = true := fun w h => hts0 w (List.mem_cons_of_mem _ h)
  have hown : s.vm.findClass ps_R = some m.cls := findClass_of_methodNamed B.named
  have hlocks := B.notSynchronized
  have hP : va_P (dC, dI) zz_cl [(o, .inr (1, [.int (nI n), .int (nI mb), .int (nI mk), .ref p1, .ref m1, .int (nI cnt), .int (nI sp)]))] s.heap := hP
  have hl := lv_entry ([.ref o, .int (nI s0), .int (nI w0), .int (nI ot)]) (n := 5) (Nat.le_of_ble_eq_true rfl)
  rw [lg_entry_eq]
  generalize (lg_sl ([.ref o, .int (nI s0), .int (nI w0), .int (nI ot)]) ++ List.replicate (5 - (lg_sl ([.ref o, .int (nI s0), .int (nI w0), .int (nI ot)])).length) Slot.unset).toArray = ls at hl ⊢
  have hl : lv_has ls 5 [(0, .ref o), (1, .int (nI s0)), (2, .int (nI w0)), (3, .int (nI ot))] := hl
  have hpow : 0 < 2 ^ n := Nat.two_pow_pos n
  have hpow2 : 2 ^ n ≤ 2 ^ 4 := Nat.pow_le_pow_right (by decide) hn
  have hwn : w0 * n ≤ 12 := Nat.mul_le_mul (show w0 ≤ 3 by omega) hn
  have hnx := zp_put hn1 hn hs hw ho
  have hmk2 := zp_mk (n := n) hmk
  have hnn := zp_nn hn1 hn
  have hpl := zp_par n (bn_put n s0 w0 ot) w0
  refine lv_iload_n hx hb ps_d_withParity_0 rfl (lv_at hl 1 rfl) ?_
  refine lv_iload_n hx hb ps_d_withParity_1 rfl (lv_at hl 3 rfl) ?_
  refine lv_iload_n hx hb ps_d_withParity_2 rfl (lv_at hl 2 rfl) ?_
  refine lv_aload_n hx hb ps_d_withParity_3 rfl (lv_at hl 0 rfl) ?_
  refine va_get (D := (dC, dI)) (ci := 1) (v := .int (nI n)) (C := ps_R) (T := ps_T) (N := 7) hx hb hts ps_in hown hK hP 0 rfl rfl 0 (by decide) (hts _ zk_ps9) (fun _ h9 => h9) rfl ps_d_withParity_4 ?_
  refine lv_imul hx hb ps_d_withParity_7 ?_
  refine zt_i (pk_mul w0 n) ?_
  refine lv_ishl hx hb ps_d_withParity_8 ?_
  refine zt_i (zb_shl (a := ot) (k := (w0 * n)) (by omega)) ?_
  refine lv_ixor hx hb ps_d_withParity_9 ?_
  refine zt_i (zb_xor s0 (ot * 2 ^ (w0 * n))) ?_
  refine lv_istore (lv' := [(4, .int (nI (bn_put n s0 w0 ot))), (0, .ref o), (1, .int (nI s0)), (2, .int (nI w0)), (3, .int (nI ot))]) hx hb ps_d_withParity_10 hl (by decide) rfl (fun ls hl => ?_)
  refine lv_aload_n hx hb ps_d_withParity_12 rfl (lv_at hl 1 rfl) ?_
  refine va_get (D := (dC, dI)) (ci := 1) (v := .int (nI mk)) (C := ps_R) (T := ps_T) (N := 7) hx hb hts ps_in hown hK hP 0 rfl rfl 2 (by decide) (hts _ zk_ps18) (fun _ h9 => h9) rfl ps_d_withParity_13 ?_
  refine zi_eq (tgt := 40) hx hb ps_d_withParity_16 (by decide) (by omega) (fun c_1 => ?_) (fun c_1 => ?_)
  · refine lv_iload hx hb ps_d_withParity_40 (lv_at hl 0 rfl) ?_
    exact W.iret (v := (nI (bn_put n s0 w0 ot))) hx hb hr (fun t ht hW => ⟨(nI (bn_put n s0 w0 ot)), rfl, by rw [bn_with, if_neg (by omega)], ht⟩) (fun q h => by cases h) ps_d_withParity_42
  · refine lv_iload hx hb ps_d_withParity_19 (lv_at hl 0 rfl) ?_
    refine lv_iconst (v := (nI 1)) hx hb ps_d_withParity_21 (by decide) ?_
    refine lv_aload_n hx hb ps_d_withParity_22 rfl (lv_at hl 1 rfl) ?_
    refine va_get (D := (dC, dI)) (ci := 1) (v := .int (nI mb)) (C := ps_R) (T := ps_T) (N := 7) hx hb hts ps_in hown hK hP 0 rfl rfl 1 (by decide) (hts _ zk_ps15) (fun _ h9 => h9) rfl ps_d_withParity_23 ?_
    refine lv_aload_n hx hb ps_d_withParity_26 rfl (lv_at hl 1 rfl) ?_
    refine lv_iload hx hb ps_d_withParity_27 (lv_at hl 0 rfl) ?_
    refine lv_iload_n hx hb ps_d_withParity_29 rfl (lv_at hl 3 rfl) ?_
    refine zq_Vi (n := 2) (As := [.int (nI (bn_put n s0 w0 ot)), .int (nI w0)]) (rest := [.int (nI mb), .int (nI 1), .int (nI (bn_put n s0 w0 ot))]) ⟨hx, hb, hml, hown, hts⟩ (ps_parityOf l dC dI cA o p1 m1 n mb mk cnt sp (bn_put n s0 w0 ot) w0 hn (by omega) (by omega)) zg_ps61 (by decide +kernel) ⟨rfl, rfl⟩ ⟨Nat.le_of_ble_eq_true rfl, Nat.le_of_ble_eq_true rfl⟩ hK (hP.sub (ws' := [(o, .inr (1, [.int (nI n), .int (nI mb), .int (nI mk), .ref p1, .ref m1, .int (nI cnt), .int (nI sp)]))]) [0] rfl) 1 0 rfl rfl rfl rfl hl.1 rfl (Nat.le_of_ble_eq_true rfl) ps_d_withParity_30 (fun r_2 h_3 => ?_) ⟨Nat.le_of_ble_eq_true rfl, Nat.le_of_ble_eq_true rfl⟩
    subst h_3
    refine lv_iadd hx hb ps_d_withParity_33 ?_
    refine zt_i (nI_add mb (bn_par n (bn_put n s0 w0 ot) w0)) ?_
    refine lv_iconst (v := (nI 1)) hx hb ps_d_withParity_34 (by decide) ?_
    refine lv_isub hx hb ps_d_withParity_35 ?_
    refine zt_i (pk_sub (a := (mb + (bn_par n (bn_put n s0 w0 ot) w0))) (b := 1) (by omega)) ?_
    refine lv_ishl hx hb ps_d_withParity_36 ?_
    refine zt_i (zb_shl1 (k := ((mb + (bn_par n (bn_put n s0 w0 ot) w0)) - 1)) (by omega)) ?_
    refine lv_ior hx hb ps_d_withParity_37 ?_
    refine zt_i (zb_or (bn_put n s0 w0 ot) (2 ^ ((mb + (bn_par n (bn_put n s0 w0 ot) w0)) - 1))) ?_
    refine lv_istore (lv' := [(4, .int (nI ((bn_put n s0 w0 ot) ||| (2 ^ ((mb + (bn_par n (bn_put n s0 w0 ot) w0)) - 1))))), (0, .ref o), (1, .int (nI s0)), (2, .int (nI w0)), (3, .int (nI ot))]) hx hb ps_d_withParity_38 hl (by decide) rfl (fun ls hl => ?_)
    refine lv_iload hx hb ps_d_withParity_40 (lv_at hl 0 rfl) ?_
    exact W.iret (v := (nI ((bn_put n s0 w0 ot) ||| (2 ^ ((mb + (bn_par n (bn_put n s0 w0 ot) w0)) - 1))))) hx hb hr (fun t ht hW => ⟨(nI ((bn_put n s0 w0 ot) ||| (2 ^ ((mb + (bn_par n (bn_put n s0 w0 ot) w0)) - 1)))), rfl, by rw [bn_with, if_pos (by omega), ← hmb], ht⟩) (fun q h => by cases h) ps_d_withParity_42
set_option maxHeartbeats 4000000 in
set_option maxRecDepth 100000 in
/-- stateAt(i) -/
theorem ps_stateAt (l : Launch) (dC : Nat → ClassId) (dI : Nat → Nat → Nat) (cA : Nat → ClassId) (o p1 m1 n mb mk cnt sp : Nat) (pn i0 : Nat) (st fr lb pl : Nat → Nat) (hpn : pn < 2 ^ 31) (hi : i0 < cnt) (hc : cnt ≤ pn) (hok : zp_ok st fr lb pl cnt) : Met l ps_y_stateAt ps_w_stateAt ({ frames := 0, cells := 0, slots := 0, locals := 0 }) (va_Pc [.ref o, .int (nI i0)] (zR (dC, dI) cA [(o, .inr (1, [.int (nI n), .int (nI mb), .int (nI mk), .ref p1, .ref m1, .int (nI cnt), .int (nI sp)])), (p1, .inl (cA 1, pn, .inr (.inl (lA pl))))])) (vp_Si (fun r => r = nI (st i0))) 0 0 (fun _ => False) := by
  refine Met.ofW (cc := ps_c_stateAt) (maxL := 2) (ret := (some .int)) (by decide) rfl ?_
  intro p e s m args below meth c s₁ B hml hv
  obtain ⟨rfl, hP, hK⟩ := hv
  have hx := B.exec
  have hb := B.bytes
  have hr := B.returns
  have hts0 := atoms_spec (ws := ps_w_stateAt) B.pre
  have hts : ∀ w ∈ zz_tbl, w.before _ s = true := fun w h => hts0 w (List.mem_cons_of_mem _ h)
  have hown : s.vm.findClass ps_R = some m.cls := findClass_of_methodNamed B.named
  have hlocks := B.notSynchronized
  have hP : va_P (dC, dI) zz_cl [(o, .inr (1, [.int (nI n), .int (nI mb), .int (nI mk), .ref p1, .ref m1, .int (nI cnt), .int (nI sp)])), (p1, .inl (cA 1, pn, .inr (.inl (lA pl))))] s.heap := hP
  have hl := lv_entry ([.ref o, .int (nI i0)]) (n := 2) (Nat.le_of_ble_eq_true rfl)
  rw [lg_entry_eq]
  generalize (lg_sl ([.ref o, .int (nI i0)]) ++ List.replicate (2 - (lg_sl ([.ref o, .int (nI i0)])).length) Slot.unset).toArray = ls at hl ⊢
  have hl : lv_has ls 2 [(0, .ref o), (1, .int (nI i0))] := hl
  obtain ⟨z1, z2, z3, z4⟩ := hok i0 hi
  refine lv_aload_n hx hb ps_d_stateAt_0 rfl (lv_at hl 0 rfl) ?_
  refine va_get (D := (dC, dI)) (ci := 1) (v := .ref p1) (C := ps_R) (T := ps_T) (N := 7) hx hb hts ps_in hown hK hP 0 rfl rfl 3 (by decide) (hts _ zk_ps26) (fun _ h9 => h9) rfl ps_d_stateAt_1 ?_
  refine lv_iload_n hx hb ps_d_stateAt_4 rfl (lv_at hl 1 rfl) ?_
  refine zv_lald hx hb hK hP 1 1 rfl rfl (k := i0) (by omega) (by omega) ps_d_stateAt_5 ?_
  refine lv_bipush (v := (nI 20)) hx hb ps_d_stateAt_6 (by decide) ?_
  refine lv_lshr (v := lN ((pl i0) / 2 ^ 20)) hx hb ps_d_stateAt_8 (zl_shr (by omega) (by decide)) ?_
  refine lv_l2i (v := nI ((pl i0) / 2 ^ 20)) hx hb ps_d_stateAt_9 (lN_i _) ?_
  exact W.iret (v := (nI ((pl i0) / 2 ^ 20))) hx hb hr (fun t ht hW => ⟨(nI ((pl i0) / 2 ^ 20)), rfl, congrArg nI (by omega), ht⟩) (fun q h => by cases h) ps_d_stateAt_10
set_option maxHeartbeats 4000000 in
set_option maxRecDepth 100000 in
/-- fromAt(i) -/
theorem ps_fromAt (l : Launch) (dC : Nat → ClassId) (dI : Nat → Nat → Nat) (cA : Nat → ClassId) (o p1 m1 n mb mk cnt sp : Nat) (pn i0 : Nat) (st fr lb pl : Nat → Nat) (hpn : pn < 2 ^ 31) (hi : i0 < cnt) (hc : cnt ≤ pn) (hok : zp_ok st fr lb pl cnt) : Met l ps_y_fromAt ps_w_fromAt ({ frames := 0, cells := 0, slots := 0, locals := 0 }) (va_Pc [.ref o, .int (nI i0)] (zR (dC, dI) cA [(o, .inr (1, [.int (nI n), .int (nI mb), .int (nI mk), .ref p1, .ref m1, .int (nI cnt), .int (nI sp)])), (p1, .inl (cA 1, pn, .inr (.inl (lA pl))))])) (vp_Si (fun r => r = nI (fr i0))) 0 0 (fun _ => False) := by
  refine Met.ofW (cc := ps_c_fromAt) (maxL := 2) (ret := (some .int)) (by decide) rfl ?_
  intro p e s m args below meth c s₁ B hml hv
  obtain ⟨rfl, hP, hK⟩ := hv
  have hx := B.exec
  have hb := B.bytes
  have hr := B.returns
  have hts0 := atoms_spec (ws := ps_w_fromAt) B.pre
  have hts : ∀ w ∈ zz_tbl, w.before _ s = true := fun w h => hts0 w (List.mem_cons_of_mem _ h)
  have hown : s.vm.findClass ps_R = some m.cls := findClass_of_methodNamed B.named
  have hlocks := B.notSynchronized
  have hP : va_P (dC, dI) zz_cl [(o, .inr (1, [.int (nI n), .int (nI mb), .int (nI mk), .ref p1, .ref m1, .int (nI cnt), .int (nI sp)])), (p1, .inl (cA 1, pn, .inr (.inl (lA pl))))] s.heap := hP
  have hl := lv_entry ([.ref o, .int (nI i0)]) (n := 2) (Nat.le_of_ble_eq_true rfl)
  rw [lg_entry_eq]
  generalize (lg_sl ([.ref o, .int (nI i0)]) ++ List.replicate (2 - (lg_sl ([.ref o, .int (nI i0)])).length) Slot.unset).toArray = ls at hl ⊢
  have hl : lv_has ls 2 [(0, .ref o), (1, .int (nI i0))] := hl
  obtain ⟨z1, z2, z3, z4⟩ := hok i0 hi
  refine lv_aload_n hx hb ps_d_fromAt_0 rfl (lv_at hl 0 rfl) ?_
  refine va_get (D := (dC, dI)) (ci := 1) (v := .ref p1) (C := ps_R) (T := ps_T) (N := 7) hx hb hts ps_in hown hK hP 0 rfl rfl 3 (by decide) (hts _ zk_ps26) (fun _ h9 => h9) rfl ps_d_fromAt_1 ?_
  refine lv_iload_n hx hb ps_d_fromAt_4 rfl (lv_at hl 1 rfl) ?_
  refine zv_lald hx hb hK hP 1 1 rfl rfl (k := i0) (by omega) (by omega) ps_d_fromAt_5 ?_
  refine lv_iconst (v := (nI 4)) hx hb ps_d_fromAt_6 (by decide) ?_
  refine lv_lshr (v := lN ((pl i0) / 2 ^ 4)) hx hb ps_d_fromAt_7 (zl_shr (by omega) (by decide)) ?_
  refine lv_l2i (v := nI ((pl i0) / 2 ^ 4)) hx hb ps_d_fromAt_8 (lN_i _) ?_
  refine lv_ldc (v := nI 65535) hx hb hown (hts _ zk_ps65) ps_d_fromAt_9 ?_
  refine lv_iand hx hb ps_d_fromAt_11 ?_
  refine zt_i (zb_m65535 ((pl i0) / 2 ^ 4)) ?_
  exact W.iret (v := (nI (((pl i0) / 2 ^ 4) % 65536))) hx hb hr (fun t ht hW => ⟨(nI (((pl i0) / 2 ^ 4) % 65536)), rfl, congrArg nI (by omega), ht⟩) (fun q h => by cases h) ps_d_fromAt_12
