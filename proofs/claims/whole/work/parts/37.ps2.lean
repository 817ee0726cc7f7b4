set_option maxHeartbeats 4000000 in
set_option maxRecDepth 100000 in
/-- meet(st, from, join) -/
theorem ps_meet (l : Launch) (dC : Nat → ClassId) (dI : Nat → Nat → Nat) (cA : Nat → ClassId) (sz : Nat) (o p1 m1 n mb mk cnt sp : Nat) (pn ml s0 f0 l0 : Nat) (st pl mt : Nat → Nat) (hpn : pn < 2 ^ 31) (hml0 : ml < 2 ^ 31) (hs : s0 < 65536) (hsm : s0 / 32 < ml) (hf : f0 < 65536) (hl0 : l0 < 16) (hc : cnt ≤ pn) (hmet : zp_met st mt cnt) (hcap : (∀ i, i < cnt → st i ≠ s0) → cnt < pn) : Met l ps_y_meet ps_w_meet ({ frames := 0, cells := 0, slots := 0, locals := 0 }) (va_Pc [.ref o, .int (nI s0), .int (nI f0), .int (nI l0)] (zB (dC, dI) cA [(o, .inr (1, [.int (nI n), .int (nI mb), .int (nI mk), .ref p1, .ref m1, .int (nI cnt), .int (nI sp)])), (p1, .inl (cA 1, pn, .inr (.inl (lA pl)))), (m1, .inl (cA 0, ml, .inl (nA mt)))] sz)) (va_Qv (fun (u : (Nat → Nat) × (Nat → Nat) × Nat) => ((∃ i, i < cnt ∧ st i = s0) ∧ u = (pl, mt, cnt)) ∨ ((∀ i, i < cnt → st i ≠ s0) ∧ u = (va_up pl cnt (s0 * 2 ^ 20 + f0 * 16 + l0), va_up mt (s0 / 32) (mt (s0 / 32) ||| 2 ^ (s0 % 32)), cnt + 1))) (fun u t => zE (dC, dI) (va_A [(o, .inr (1, [.int (nI n), .int (nI mb), .int (nI mk), .ref p1, .ref m1, .int (nI cnt), .int (nI sp)])), (p1, .inl (cA 1, pn, .inr (.inl (lA pl)))), (m1, .inl (cA 0, ml, .inl (nA mt)))] sz) ((fun (u : (Nat → Nat) × (Nat → Nat) × Nat) => [(o, .inr (1, [.int (nI n), .int (nI mb), .int (nI mk), .ref p1, .ref m1, .int (nI u.2.2), .int (nI sp)])), (p1, .inl (cA 1, pn, .inr (.inl (lA u.1)))), (m1, .inl (cA 0, ml, .inl (nA u.2.1)))]) u) t) (va_A [(o, .inr (1, [.int (nI n), .int (nI mb), .int (nI mk), .ref p1, .ref m1, .int (nI cnt), .int (nI sp)])), (p1, .inl (cA 1, pn, .inr (.inl (lA pl)))), (m1, .inl (cA 0, ml, .inl (nA mt)))] sz)) 0 0 (va_A [(o, .inr (1, [.int (nI n), .int (nI mb), .int (nI mk), .ref p1, .ref m1, .int (nI cnt), .int (nI sp)])), (p1, .inl (cA 1, pn, .inr (.inl (lA pl)))), (m1, .inl (cA 0, ml, .inl (nA mt)))] sz) := by
  refine Met.ofW (cc := ps_c_meet) (maxL := 6) (ret := (none : Option Jvm.ClassFile.FieldType)) (by decide) rfl ?_
  intro p e s m args below meth c s₁ B hml hv
  obtain ⟨rfl, hsz, hP, hK, hD0, hZ⟩ := hv
  have hx := B.exec
  have hb := B.bytes
  have hr := B.returns
  have hts0 := atoms_spec (ws := ps_w_meet) B.pre
  have hts : ∀ w ∈ zz_tbl, w.before _ s = true := fun w h => hts0 w (List.mem_cons_of_mem _ h)
  have hown : s.vm.findClass ps_R = some m.cls := findClass_of_methodNamed B.named
  have hlocks := B.notSynchronized
  subst hsz
  have hD := hD0.self (sz := s.heap.size)
  generalize hAe : va_A [(o, .inr (1, [.int (nI n), .int (nI mb), .int (nI mk), .ref p1, .ref m1, .int (nI cnt), .int (nI sp)])), (p1, .inl (cA 1, pn, .inr (.inl (lA pl)))), (m1, .inl (cA 0, ml, .inl (nA mt)))] s.heap.size = A at hD hZ ⊢
  have hA : ∀ q : Nat, s.heap.size ≤ q → A q := fun q h => by rw [← hAe]; exact Or.inr h
  have hS : va_S A s.heap s.heap [] := va_S.rf
  have hP : va_P (dC, dI) zz_cl [(o, .inr (1, [.int (nI n), .int (nI mb), .int (nI mk), .ref p1, .ref m1, .int (nI cnt), .int (nI sp)])), (p1, .inl (cA 1, pn, .inr (.inl (lA pl)))), (m1, .inl (cA 0, ml, .inl (nA mt)))] s.heap := hP
  have hl := lv_entry ([.ref o, .int (nI s0), .int (nI f0), .int (nI l0)]) (n := 6) (Nat.le_of_ble_eq_true rfl)
  rw [lg_entry_eq]
  generalize (lg_sl ([.ref o, .int (nI s0), .int (nI f0), .int (nI l0)]) ++ List.replicate (6 - (lg_sl ([.ref o, .int (nI s0), .int (nI f0), .int (nI l0)])).length) Slot.unset).toArray = ls at hl ⊢
  have hl : lv_has ls 6 [(0, .ref o), (1, .int (nI s0)), (2, .int (nI f0)), (3, .int (nI l0))] := hl
  have hm32 := hmet.1 (s0 / 32)
  refine lv_iload_n hx hb ps_d_meet_0 rfl (lv_at hl 1 rfl) ?_
  refine lv_iconst (v := (nI 5)) hx hb ps_d_meet_1 (by decide) ?_
  refine lv_ishr hx hb ps_d_meet_2 ?_
  refine zt_i (zb_shr (a := s0) (k := 5) (by omega) (by omega)) ?_
  refine lv_istore (lv' := [(4, .int (nI (s0 / 32))), (0, .ref o), (1, .int (nI s0)), (2, .int (nI f0)), (3, .int (nI l0))]) hx hb ps_d_meet_3 hl (by decide) rfl (fun ls hl => ?_)
  refine lv_iconst (v := (nI 1)) hx hb ps_d_meet_5 (by decide) ?_
  refine lv_iload_n hx hb ps_d_meet_6 rfl (lv_at hl 2 rfl) ?_
  refine lv_ishl hx hb ps_d_meet_7 ?_
  refine zt_i (zb_shl32 (k := s0) (by omega)) ?_
  refine lv_istore (lv' := [(5, .int (nI (2 ^ (s0 % 32)))), (4, .int (nI (s0 / 32))), (0, .ref o), (1, .int (nI s0)), (2, .int (nI f0)), (3, .int (nI l0))]) hx hb ps_d_meet_8 hl (by decide) rfl (fun ls hl => ?_)
  refine lv_aload_n hx hb ps_d_meet_10 rfl (lv_at hl 2 rfl) ?_
  refine va_get (D := (dC, dI)) (ci := 1) (v := .ref m1) (C := ps_R) (T := ps_T) (N := 7) hx hb hts ps_in hown hK hP 0 rfl rfl 4 (by decide) (hts _ zk_ps30) (fun _ h9 => h9) rfl ps_d_meet_11 ?_
  refine lv_iload hx hb ps_d_meet_14 (lv_at hl 1 rfl) ?_
  refine zv_iald hx hb hK hP 2 0 rfl rfl (k := (s0 / 32)) (by omega) (by omega) ps_d_meet_16 ?_
  refine lv_iload hx hb ps_d_meet_17 (lv_at hl 0 rfl) ?_
  refine lv_iand hx hb ps_d_meet_19 ?_
  refine zt_i (zb_and (mt (s0 / 32)) (2 ^ (s0 % 32))) ?_
  refine zj_ne (tgt := 79) hx hb ps_d_meet_20 (by decide) (Nat.lt_of_le_of_lt Nat.and_le_left hm32) (fun c_1 => ?_) (fun c_1 => ?_)
  · have hP9 := hP.sub (ws' := [(o, .inr (1, [.int (nI n), .int (nI mb), .int (nI mk), .ref p1, .ref m1, .int (nI cnt), .int (nI sp)])), (p1, .inl (cA 1, pn, .inr (.inl (lA pl)))), (m1, .inl (cA 0, ml, .inl (nA mt)))]) [0, 1, 2] rfl
    have hD9 := hD.sub (ws' := [(o, .inr (1, [.int (nI n), .int (nI mb), .int (nI mk), .ref p1, .ref m1, .int (nI cnt), .int (nI sp)])), (p1, .inl (cA 1, pn, .inr (.inl (lA pl)))), (m1, .inl (cA 0, ml, .inl (nA mt)))]) [0, 1, 2] (by decide) rfl
    exact W.vret hx hb hr (fun t ht hW => ⟨⟨(pl, mt, cnt), rfl, Or.inl ⟨(hmet.2 s0 hs).mp (zp_set c_1), rfl⟩, by rw [ht]; exact hP9, hD9⟩, hS.F ht⟩) hS.2.2 ps_d_meet_79
  · refine lv_aload_n hx hb ps_d_meet_23 rfl (lv_at hl 2 rfl) ?_
    refine va_get (D := (dC, dI)) (ci := 1) (v := .int (nI cnt)) (C := ps_R) (T := ps_T) (N := 7) hx hb hts ps_in hown hK hP 0 rfl rfl 5 (by decide) (hts _ zk_ps41) (fun _ h9 => h9) rfl ps_d_meet_24 ?_
    refine lv_aload_n hx hb ps_d_meet_27 rfl (lv_at hl 2 rfl) ?_
    refine va_get (D := (dC, dI)) (ci := 1) (v := .ref p1) (C := ps_R) (T := ps_T) (N := 7) hx hb hts ps_in hown hK hP 0 rfl rfl 3 (by decide) (hts _ zk_ps26) (fun _ h9 => h9) rfl ps_d_meet_28 ?_
    refine va_alen (v := (nI pn)) hx hb hK hP 1 1 rfl rfl rfl ps_d_meet_31 ?_
    refine zc_ge (tgt := 79) hx hb ps_d_meet_32 (by decide) (by omega) (by omega) (fun c_2 => ?_) (fun c_2 => ?_)
    · have hP9 := hP.sub (ws' := [(o, .inr (1, [.int (nI n), .int (nI mb), .int (nI mk), .ref p1, .ref m1, .int (nI cnt), .int (nI sp)])), (p1, .inl (cA 1, pn, .inr (.inl (lA pl)))), (m1, .inl (cA 0, ml, .inl (nA mt)))]) [0, 1, 2] rfl
      have hD9 := hD.sub (ws' := [(o, .inr (1, [.int (nI n), .int (nI mb), .int (nI mk), .ref p1, .ref m1, .int (nI cnt), .int (nI sp)])), (p1, .inl (cA 1, pn, .inr (.inl (lA pl)))), (m1, .inl (cA 0, ml, .inl (nA mt)))]) [0, 1, 2] (by decide) rfl
      exact W.vret hx hb hr (fun t ht hW => ⟨⟨(pl, mt, cnt), rfl, absurd (hcap (zp_clear hmet hs c_1)) (by omega), by rw [ht]; exact hP9, hD9⟩, hS.F ht⟩) hS.2.2 ps_d_meet_79
    · refine lv_aload_n hx hb ps_d_meet_35 rfl (lv_at hl 2 rfl) ?_
      refine va_get (D := (dC, dI)) (ci := 1) (v := .ref m1) (C := ps_R) (T := ps_T) (N := 7) hx hb hts ps_in hown hK hP 0 rfl rfl 4 (by decide) (hts _ zk_ps30) (fun _ h9 => h9) rfl ps_d_meet_36 ?_
      refine lv_iload hx hb ps_d_meet_39 (lv_at hl 1 rfl) ?_
      refine lv_dup2_11 hx hb ps_d_meet_41 rfl rfl ?_
      refine zv_iald hx hb hK hP 2 0 rfl rfl (k := (s0 / 32)) (by omega) (by omega) ps_d_meet_42 ?_
      refine lv_iload hx hb ps_d_meet_43 (lv_at hl 0 rfl) ?_
      refine lv_ior hx hb ps_d_meet_45 ?_
      refine zt_i (zb_or (mt (s0 / 32)) (2 ^ (s0 % 32))) ?_
      refine zv_iast hx hb hK hP hD hS 2 0 rfl rfl (k := (s0 / 32)) (v := ((mt (s0 / 32)) ||| (2 ^ (s0 % 32)))) (by omega) (by omega) ps_d_meet_46 (fun H locs hP hD hS => ?_)
      have hP : va_P (dC, dI) zz_cl [(o, .inr (1, [.int (nI n), .int (nI mb), .int (nI mk), .ref p1, .ref m1, .int (nI cnt), .int (nI sp)])), (p1, .inl (cA 1, pn, .inr (.inl (lA pl)))), (m1, .inl (cA 0, ml, .inl (nA (va_up mt (s0 / 32) ((mt (s0 / 32)) ||| (2 ^ (s0 % 32)))))))] H := hP
      have hD : va_D A [(o, .inr (1, [.int (nI n), .int (nI mb), .int (nI mk), .ref p1, .ref m1, .int (nI cnt), .int (nI sp)])), (p1, .inl (cA 1, pn, .inr (.inl (lA pl)))), (m1, .inl (cA 0, ml, .inl (nA (va_up mt (s0 / 32) ((mt (s0 / 32)) ||| (2 ^ (s0 % 32)))))))] := hD
      refine lv_aload_n hx hb ps_d_meet_47 rfl (lv_at hl 2 rfl) ?_
      refine va_get (D := (dC, dI)) (ci := 1) (v := .ref p1) (C := ps_R) (T := ps_T) (N := 7) hx hb hts ps_in hown hK hP 0 rfl rfl 3 (by decide) (hts _ zk_ps26) (fun _ h9 => h9) rfl ps_d_meet_48 ?_
      refine lv_aload_n hx hb ps_d_meet_51 rfl (lv_at hl 2 rfl) ?_
      refine va_get (D := (dC, dI)) (ci := 1) (v := .int (nI cnt)) (C := ps_R) (T := ps_T) (N := 7) hx hb hts ps_in hown hK hP 0 rfl rfl 5 (by decide) (hts _ zk_ps41) (fun _ h9 => h9) rfl ps_d_meet_52 ?_
      refine lv_iload_n hx hb ps_d_meet_55 rfl (lv_at hl 3 rfl) ?_
      refine lv_i2l (v := lN s0) hx hb ps_d_meet_56 (nI_l (by omega)) ?_
      refine lv_bipush (v := (nI 20)) hx hb ps_d_meet_57 (by decide) ?_
      refine lv_lshl (v := lN (s0 * 2 ^ 20)) hx hb ps_d_meet_59 (zl_shl (by decide)) ?_
      refine lv_iload_n hx hb ps_d_meet_60 rfl (lv_at hl 4 rfl) ?_
      refine lv_iconst (v := (nI 4)) hx hb ps_d_meet_61 (by decide) ?_
      refine lv_ishl hx hb ps_d_meet_62 ?_
      refine zt_i (zb_shl (a := f0) (k := 4) (by omega)) ?_
      refine lv_i2l (v := lN (f0 * 2 ^ 4)) hx hb ps_d_meet_63 (nI_l (by omega)) ?_
      refine lv_lor hx hb ps_d_meet_64 ?_
      refine zt_l (zl_or (s0 * 2 ^ 20) (f0 * 2 ^ 4)) ?_
      refine lv_iload_n hx hb ps_d_meet_65 rfl (lv_at hl 5 rfl) ?_
      refine lv_i2l (v := lN l0) hx hb ps_d_meet_66 (nI_l (by omega)) ?_
      refine lv_lor hx hb ps_d_meet_67 ?_
      refine zt_l (zl_or ((s0 * 2 ^ 20) ||| (f0 * 2 ^ 4)) l0) ?_
      refine zv_last hx hb hK hP hD hS 1 1 rfl rfl (k := cnt) (v := (((s0 * 2 ^ 20) ||| (f0 * 2 ^ 4)) ||| l0)) (by omega) (by omega) ps_d_meet_68 (fun H locs hP hD hS => ?_)
      have hP : va_P (dC, dI) zz_cl [(o, .inr (1, [.int (nI n), .int (nI mb), .int (nI mk), .ref p1, .ref m1, .int (nI cnt), .int (nI sp)])), (p1, .inl (cA 1, pn, .inr (.inl (lA (va_up pl cnt (((s0 * 2 ^ 20) ||| (f0 * 2 ^ 4)) ||| l0)))))), (m1, .inl (cA 0, ml, .inl (nA (va_up mt (s0 / 32) ((mt (s0 / 32)) ||| (2 ^ (s0 % 32)))))))] H := hP
      have hD : va_D A [(o, .inr (1, [.int (nI n), .int (nI mb), .int (nI mk), .ref p1, .ref m1, .int (nI cnt), .int (nI sp)])), (p1, .inl (cA 1, pn, .inr (.inl (lA (va_up pl cnt (((s0 * 2 ^ 20) ||| (f0 * 2 ^ 4)) ||| l0)))))), (m1, .inl (cA 0, ml, .inl (nA (va_up mt (s0 / 32) ((mt (s0 / 32)) ||| (2 ^ (s0 % 32)))))))] := hD
      refine lv_aload_n hx hb ps_d_meet_69 rfl (lv_at hl 2 rfl) ?_
      refine lv_dup hx hb ps_d_meet_70 rfl ?_
      refine va_get (D := (dC, dI)) (ci := 1) (v := .int (nI cnt)) (C := ps_R) (T := ps_T) (N := 7) hx hb hts ps_in hown hK hP 0 rfl rfl 5 (by decide) (hts _ zk_ps41) (fun _ h9 => h9) rfl ps_d_meet_71 ?_
      refine lv_iconst (v := (nI 1)) hx hb ps_d_meet_74 (by decide) ?_
      refine lv_iadd hx hb ps_d_meet_75 ?_
      refine zt_i (nI_add cnt 1) ?_
      refine va_put (D := (dC, dI)) (ci := 1) (v := .int (nI (cnt + 1))) (ty := .int) (C := ps_R) (T := ps_T) (N := 7) hx hb hts ps_in ps_t ps_ok ps_nm hown hK hP hD hS 0 rfl rfl 5 (by decide) (hts _ zk_ps41) (fun _ h9 => h9) rfl (by decide +kernel) rfl rfl (Nat.le_of_ble_eq_true rfl) ps_d_meet_76 (fun H locs hP hD hS => ?_)
      have hP : va_P (dC, dI) zz_cl [(o, .inr (1, [.int (nI n), .int (nI mb), .int (nI mk), .ref p1, .ref m1, .int (nI (cnt + 1)), .int (nI sp)])), (p1, .inl (cA 1, pn, .inr (.inl (lA (va_up pl cnt (((s0 * 2 ^ 20) ||| (f0 * 2 ^ 4)) ||| l0)))))), (m1, .inl (cA 0, ml, .inl (nA (va_up mt (s0 / 32) ((mt (s0 / 32)) ||| (2 ^ (s0 % 32)))))))] H := hP
      have hD : va_D A [(o, .inr (1, [.int (nI n), .int (nI mb), .int (nI mk), .ref p1, .ref m1, .int (nI (cnt + 1)), .int (nI sp)])), (p1, .inl (cA 1, pn, .inr (.inl (lA (va_up pl cnt (((s0 * 2 ^ 20) ||| (f0 * 2 ^ 4)) ||| l0)))))), (m1, .inl (cA 0, ml, .inl (nA (va_up mt (s0 / 32) ((mt (s0 / 32)) ||| (2 ^ (s0 % 32)))))))] := hD
      have hP9 := hP.sub (ws' := [(o, .inr (1, [.int (nI n), .int (nI mb), .int (nI mk), .ref p1, .ref m1, .int (nI (cnt + 1)), .int (nI sp)])), (p1, .inl (cA 1, pn, .inr (.inl (lA (va_up pl cnt (((s0 * 2 ^ 20) ||| (f0 * 2 ^ 4)) ||| l0)))))), (m1, .inl (cA 0, ml, .inl (nA (va_up mt (s0 / 32) ((mt (s0 / 32)) ||| (2 ^ (s0 % 32)))))))]) [0, 1, 2] rfl
      have hD9 := hD.sub (ws' := [(o, .inr (1, [.int (nI n), .int (nI mb), .int (nI mk), .ref p1, .ref m1, .int (nI (cnt + 1)), .int (nI sp)])), (p1, .inl (cA 1, pn, .inr (.inl (lA (va_up pl cnt (((s0 * 2 ^ 20) ||| (f0 * 2 ^ 4)) ||| l0)))))), (m1, .inl (cA 0, ml, .inl (nA (va_up mt (s0 / 32) ((mt (s0 / 32)) ||| (2 ^ (s0 % 32)))))))]) [0, 1, 2] (by decide) rfl
      exact W.vret hx hb hr (fun t ht hW => ⟨⟨(va_up pl cnt (((s0 * 2 ^ 20) ||| (f0 * 2 ^ 4)) ||| l0), va_up mt (s0 / 32) ((mt (s0 / 32)) ||| (2 ^ (s0 % 32))), cnt + 1), rfl, Or.inr ⟨zp_clear hmet hs c_1, by rw [← zp_or hf hl0]⟩, by rw [ht]; exact hP9, hD9⟩, hS.F ht⟩) hS.2.2 ps_d_meet_79
