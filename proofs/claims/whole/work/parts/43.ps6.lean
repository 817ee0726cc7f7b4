set_option maxHeartbeats 4000000 in
set_option maxRecDepth 100000 in
/-- PlanSearch(1) -/
theorem ps_init1 (l : Launch) (dC : Nat → ClassId) (dI : Nat → Nat → Nat) (cA : Nat → ClassId) (sz : Nat) (o : Nat)  : Met l ps_y_init ps_w_init ({ frames := 2, cells := 2, slots := 2, locals := 46 }) (va_Pc [.ref o, .int (nI 1)] (zB (dC, dI) cA [(o, .inr (1, [.int (nI 0), .int (nI 0), .int (nI 0), .null, .null, .int (nI 0), .int (nI 0)]))] sz)) (va_Qv (fun (u : Nat × Nat × (Nat → Nat) × (Nat → Nat)) => zp_I 1 (fun _ => 3) (fun _ => 0) (fun _ => 0) (fun _ => []) u.2.2.1 u.2.2.2 1 0) (fun u t => zE (dC, dI) (va_A [(o, .inr (1, [.int (nI 0), .int (nI 0), .int (nI 0), .null, .null, .int (nI 0), .int (nI 0)]))] sz) ((fun (u : Nat × Nat × (Nat → Nat) × (Nat → Nat)) => [(o, .inr (1, [.int (nI 1), .int (nI 1), .int (nI 1), .ref u.1, .ref u.2.1, .int (nI 1), .int (nI 0)])), (u.1, .inl (cA 1, 1, .inr (.inl (lA u.2.2.1)))), (u.2.1, .inl (cA 0, 1, .inl (nA u.2.2.2)))]) u) t) (va_A [(o, .inr (1, [.int (nI 0), .int (nI 0), .int (nI 0), .null, .null, .int (nI 0), .int (nI 0)]))] sz)) 2 2 (va_A [(o, .inr (1, [.int (nI 0), .int (nI 0), .int (nI 0), .null, .null, .int (nI 0), .int (nI 0)]))] sz) := by
  refine Met.ofW (cc := ps_c_init) (maxL := 5) (ret := (none : Option Jvm.ClassFile.FieldType)) (by decide) rfl ?_
  intro p e s m args below meth c s₁ B hml hv
  obtain ⟨rfl, hsz, hP, hK, hD0, hZ⟩ := hv
  have hx := B.exec
  have hb := B.bytes
  have hr := B.returns
  have hts0 := atoms_spec (ws := ps_w_init) B.pre
  have hts : ∀ w ∈ zz_tbl, w.before _ s = true := fun w h => hts0 w (List.mem_cons_of_mem _ h)
  have hown : s.vm.findClass ps_R = some m.cls := findClass_of_methodNamed B.named
  have hlocks := B.notSynchronized
  have hin : meth.name = "<init>" := (name_of_methodNamed B.named B.method).1
  subst hsz
  have hD := hD0.self (sz := s.heap.size)
  generalize hAe : va_A [(o, .inr (1, [.int (nI 0), .int (nI 0), .int (nI 0), .null, .null, .int (nI 0), .int (nI 0)]))] s.heap.size = A at hD hZ ⊢
  have hA : ∀ q : Nat, s.heap.size ≤ q → A q := fun q h => by rw [← hAe]; exact Or.inr h
  have hS : va_S A s.heap s.heap [] := va_S.rf
  have hP : va_P (dC, dI) zz_cl [(o, .inr (1, [.int (nI 0), .int (nI 0), .int (nI 0), .null, .null, .int (nI 0), .int (nI 0)]))] s.heap := hP
  have hl := lv_entry ([.ref o, .int (nI 1)]) (n := 5) (Nat.le_of_ble_eq_true rfl)
  rw [lg_entry_eq]
  generalize (lg_sl ([.ref o, .int (nI 1)]) ++ List.replicate (5 - (lg_sl ([.ref o, .int (nI 1)])).length) Slot.unset).toArray = ls at hl ⊢
  have hl : lv_has ls 5 [(0, .ref o), (1, .int (nI 1))] := hl
  have hn1 : 1 ≤ 1 := by decide
  have hn : 1 ≤ 4 := by decide
  have hmb : 1 = 1 * 1 := by decide
  have hmk : 1 = if 1 < 4 then 1 else 0 := by decide
  refine lv_aload_n hx hb ps_d_init_0 rfl (lv_at hl 0 rfl) ?_
  refine W.objInit hx hb hown (hts _ zk_ps3) (hts _ zk_im_object) (hts _ zk_cd_object) rfl (by rw [hml]; exact hl.1) rfl ps_d_init_1 (Nat.le_of_ble_eq_true rfl) (Nat.le_of_ble_eq_true rfl) ?_
  refine W.eq (g2 := F0 m 4 ls []) rfl ?_
  refine lv_aload_n hx hb ps_d_init_4 rfl (lv_at hl 0 rfl) ?_
  refine lv_iload_n hx hb ps_d_init_5 rfl (lv_at hl 1 rfl) ?_
  refine va_putF (D := (dC, dI)) (ci := 1) (v := .int (nI 1)) (ty := .int) (C := ps_R) (T := ps_T) (N := 7) hx hb hts ps_in ps_t ps_ok ps_nm hown hK hP hD hS 0 rfl rfl 0 (by decide) (hts _ zk_ps9) (fun _ h9 => h9) rfl hin rfl (by decide +kernel) rfl rfl (Nat.le_of_ble_eq_true rfl) ps_d_init_6 (fun H locs hP hD hS => ?_)
  have hP : va_P (dC, dI) zz_cl [(o, .inr (1, [.int (nI 1), .int (nI 0), .int (nI 0), .null, .null, .int (nI 0), .int (nI 0)]))] H := hP
  have hD : va_D A [(o, .inr (1, [.int (nI 1), .int (nI 0), .int (nI 0), .null, .null, .int (nI 0), .int (nI 0)]))] := hD
  refine lv_aload_n hx hb ps_d_init_9 rfl (lv_at hl 0 rfl) ?_
  refine lv_iload_n hx hb ps_d_init_10 rfl (lv_at hl 1 rfl) ?_
  refine lv_iload_n hx hb ps_d_init_11 rfl (lv_at hl 1 rfl) ?_
  refine lv_imul hx hb ps_d_init_12 ?_
  refine zt_i (y := nI 1) (by decide) ?_
  refine va_putF (D := (dC, dI)) (ci := 1) (v := .int (nI 1)) (ty := .int) (C := ps_R) (T := ps_T) (N := 7) hx hb hts ps_in ps_t ps_ok ps_nm hown hK hP hD hS 0 rfl rfl 1 (by decide) (hts _ zk_ps15) (fun _ h9 => h9) rfl hin rfl (by decide +kernel) rfl rfl (Nat.le_of_ble_eq_true rfl) ps_d_init_13 (fun H locs hP hD hS => ?_)
  have hP : va_P (dC, dI) zz_cl [(o, .inr (1, [.int (nI 1), .int (nI 1), .int (nI 0), .null, .null, .int (nI 0), .int (nI 0)]))] H := hP
  have hD : va_D A [(o, .inr (1, [.int (nI 1), .int (nI 1), .int (nI 0), .null, .null, .int (nI 0), .int (nI 0)]))] := hD
  refine lv_aload_n hx hb ps_d_init_16 rfl (lv_at hl 0 rfl) ?_
  refine lv_iload_n hx hb ps_d_init_17 rfl (lv_at hl 1 rfl) ?_
  refine lv_iconst (v := (nI 4)) hx hb ps_d_init_18 (by decide) ?_
  refine zc_ge (tgt := 26) hx hb ps_d_init_19 (by decide) (by omega) (by omega) (fun c_1 => absurd c_1 (by omega)) (fun c_1 => ?_)
  refine lv_iconst (v := (nI 1)) hx hb ps_d_init_22 (by decide) ?_
  refine lv_goto (tgt := 27) hx hb ps_d_init_23 (by decide) ?_
  refine va_putF (D := (dC, dI)) (ci := 1) (v := .int (nI 1)) (ty := .boolean) (C := ps_R) (T := ps_T) (N := 7) hx hb hts ps_in ps_t ps_ok ps_nm hown hK hP hD hS 0 rfl rfl 2 (by decide) (hts _ zk_ps18) (fun _ h9 => h9) rfl hin rfl (by decide +kernel) rfl rfl (Nat.le_of_ble_eq_true rfl) ps_d_init_27 (fun H locs hP hD hS => ?_)
  have hP : va_P (dC, dI) zz_cl [(o, .inr (1, [.int (nI 1), .int (nI 1), .int (nI 1), .null, .null, .int (nI 0), .int (nI 0)]))] H := hP
  have hD : va_D A [(o, .inr (1, [.int (nI 1), .int (nI 1), .int (nI 1), .null, .null, .int (nI 0), .int (nI 0)]))] := hD
  refine lv_aload_n hx hb ps_d_init_30 rfl (lv_at hl 0 rfl) ?_
  refine va_get (D := (dC, dI)) (ci := 1) (v := .int (nI 1)) (C := ps_R) (T := ps_T) (N := 7) hx hb hts ps_in hown hK hP 0 rfl rfl 1 (by decide) (hts _ zk_ps15) (fun _ h9 => h9) rfl ps_d_init_31 ?_
  refine lv_aload_n hx hb ps_d_init_34 rfl (lv_at hl 0 rfl) ?_
  refine va_get (D := (dC, dI)) (ci := 1) (v := .int (nI 1)) (C := ps_R) (T := ps_T) (N := 7) hx hb hts ps_in hown hK hP 0 rfl rfl 2 (by decide) (hts _ zk_ps18) (fun _ h9 => h9) rfl ps_d_init_35 ?_
  refine zi_eq (tgt := 49) hx hb ps_d_init_38 (by decide) (by omega) (fun c_2 => absurd c_2 (by omega)) (fun c_2 => ?_)
  refine lv_iconst (v := (nI 1)) hx hb ps_d_init_41 (by decide) ?_
  refine lv_iload_n hx hb ps_d_init_42 rfl (lv_at hl 1 rfl) ?_
  refine lv_ishl hx hb ps_d_init_43 ?_
  refine zt_i (y := nI 2) (by decide) ?_
  refine lv_iconst (v := (nI 1)) hx hb ps_d_init_44 (by decide) ?_
  refine lv_isub hx hb ps_d_init_45 ?_
  refine zt_i (y := nI 1) (by decide) ?_
  refine lv_goto (tgt := 50) hx hb ps_d_init_46 (by decide) ?_
  refine lv_iadd hx hb ps_d_init_50 ?_
  refine zt_i (y := nI 2) (by decide) ?_
  refine lv_istore_n (lv' := [(2, .int (nI 2)), (0, .ref o), (1, .int (nI 1))]) hx hb ps_d_init_51 rfl hl (by decide) rfl (fun ls hl => ?_)
  refine lv_aload_n hx hb ps_d_init_52 rfl (lv_at hl 1 rfl) ?_
  refine zs_get hx hb hZ.2.2.2 hS hown (hts _ zk_ps22) ps_d_init_53 (fun t_3 ht_3 => ?_)
  refine lv_iload_n hx hb ps_d_init_56 rfl (lv_at hl 2 rfl) ?_
  refine zs_ald hx hb ht_3 hS (k := 1) (by omega) (by decide) ps_d_init_57 ?_
  refine zt_i (show nI (zs_states 1) = nI 1 from rfl) ?_
  refine zn_l (N' := 1) hx hb (hts _ zk_ac_long) hK hP hD hS hA (by decide) (Nat.le_of_ble_eq_true rfl) (Nat.le_of_ble_eq_true rfl) ps_d_init_58 (fun q_4 H hP hD hS => ?_)
  have hP : va_P (dC, dI) zz_cl [(o, .inr (1, [.int (nI 1), .int (nI 1), .int (nI 1), .null, .null, .int (nI 0), .int (nI 0)])), (q_4, .inl (cA 1, 1, .inr (.inl (lA (fun _ => 0)))))] H := hP
  have hD : va_D A [(o, .inr (1, [.int (nI 1), .int (nI 1), .int (nI 1), .null, .null, .int (nI 0), .int (nI 0)])), (q_4, .inl (cA 1, 1, .inr (.inl (lA (fun _ => 0)))))] := hD
  refine va_putF (D := (dC, dI)) (ci := 1) (v := .ref q_4) (ty := .array .long) (C := ps_R) (T := ps_T) (N := 7) hx hb hts ps_in ps_t ps_ok ps_nm hown hK hP hD hS 0 rfl rfl 3 (by decide) (hts _ zk_ps26) (fun _ h9 => h9) rfl hin rfl (by decide +kernel) rfl rfl (Nat.le_of_ble_eq_true rfl) ps_d_init_60 (fun H locs hP hD hS => ?_)
  have hP : va_P (dC, dI) zz_cl [(o, .inr (1, [.int (nI 1), .int (nI 1), .int (nI 1), .ref q_4, .null, .int (nI 0), .int (nI 0)])), (q_4, .inl (cA 1, 1, .inr (.inl (lA (fun _ => 0)))))] H := hP
  have hD : va_D A [(o, .inr (1, [.int (nI 1), .int (nI 1), .int (nI 1), .ref q_4, .null, .int (nI 0), .int (nI 0)])), (q_4, .inl (cA 1, 1, .inr (.inl (lA (fun _ => 0)))))] := hD
  refine lv_aload_n hx hb ps_d_init_63 rfl (lv_at hl 1 rfl) ?_
  refine lv_iconst (v := (nI 1)) hx hb ps_d_init_64 (by decide) ?_
  refine lv_iload_n hx hb ps_d_init_65 rfl (lv_at hl 0 rfl) ?_
  refine lv_ishl hx hb ps_d_init_66 ?_
  refine zt_i (y := nI 4) (by decide) ?_
  refine lv_iconst (v := (nI 5)) hx hb ps_d_init_67 (by decide) ?_
  refine lv_ishr hx hb ps_d_init_68 ?_
  refine zt_i (y := nI 0) (by decide) ?_
  refine lv_iconst (v := (nI 1)) hx hb ps_d_init_69 (by decide) ?_
  refine lv_iadd hx hb ps_d_init_70 ?_
  refine zt_i (y := nI 1) (by decide) ?_
  refine zn_i (N' := 1) hx hb (hts _ zk_ac_int) hK hP hD hS hA (by decide) (Nat.le_of_ble_eq_true rfl) (Nat.le_of_ble_eq_true rfl) ps_d_init_71 (fun q_5 H hP hD hS => ?_)
  have hP : va_P (dC, dI) zz_cl [(o, .inr (1, [.int (nI 1), .int (nI 1), .int (nI 1), .ref q_4, .null, .int (nI 0), .int (nI 0)])), (q_4, .inl (cA 1, 1, .inr (.inl (lA (fun _ => 0))))), (q_5, .inl (cA 0, 1, .inl (nA (fun _ => 0))))] H := hP
  have hD : va_D A [(o, .inr (1, [.int (nI 1), .int (nI 1), .int (nI 1), .ref q_4, .null, .int (nI 0), .int (nI 0)])), (q_4, .inl (cA 1, 1, .inr (.inl (lA (fun _ => 0))))), (q_5, .inl (cA 0, 1, .inl (nA (fun _ => 0))))] := hD
  refine va_putF (D := (dC, dI)) (ci := 1) (v := .ref q_5) (ty := .array .int) (C := ps_R) (T := ps_T) (N := 7) hx hb hts ps_in ps_t ps_ok ps_nm hown hK hP hD hS 0 rfl rfl 4 (by decide) (hts _ zk_ps30) (fun _ h9 => h9) rfl hin rfl (by decide +kernel) rfl rfl (Nat.le_of_ble_eq_true rfl) ps_d_init_73 (fun H locs hP hD hS => ?_)
  have hP : va_P (dC, dI) zz_cl [(o, .inr (1, [.int (nI 1), .int (nI 1), .int (nI 1), .ref q_4, .ref q_5, .int (nI 0), .int (nI 0)])), (q_4, .inl (cA 1, 1, .inr (.inl (lA (fun _ => 0))))), (q_5, .inl (cA 0, 1, .inl (nA (fun _ => 0))))] H := hP
  have hD : va_D A [(o, .inr (1, [.int (nI 1), .int (nI 1), .int (nI 1), .ref q_4, .ref q_5, .int (nI 0), .int (nI 0)])), (q_4, .inl (cA 1, 1, .inr (.inl (lA (fun _ => 0))))), (q_5, .inl (cA 0, 1, .inl (nA (fun _ => 0))))] := hD
  refine lv_iconst (v := (nI 0)) hx hb ps_d_init_76 (by decide) ?_
  refine lv_istore_n (lv' := [(3, .int (nI 0)), (2, .int (nI 2)), (0, .ref o), (1, .int (nI 1))]) hx hb ps_d_init_77 rfl hl (by decide) rfl (fun ls hl => ?_)
  refine lv_iconst (v := (nI 0)) hx hb ps_d_init_78 (by decide) ?_
  refine lv_istore (lv' := [(4, .int (nI 0)), (3, .int (nI 0)), (2, .int (nI 2)), (0, .ref o), (1, .int (nI 1))]) hx hb ps_d_init_79 hl (by decide) rfl (fun ls hl => ?_)
  refine lv_iload hx hb ps_d_init_81 (lv_at hl 0 rfl) ?_
  refine lv_iload_n hx hb ps_d_init_83 rfl (lv_at hl 4 rfl) ?_
  refine zc_ge (tgt := 105) hx hb ps_d_init_84 (by decide) (by omega) (by omega) (fun c_6 => absurd c_6 (by omega)) (fun c_6 => ?_)
  refine lv_aload_n hx hb ps_d_init_87 rfl (lv_at hl 3 rfl) ?_
  refine lv_iload_n hx hb ps_d_init_88 rfl (lv_at hl 1 rfl) ?_
  refine lv_iload hx hb ps_d_init_89 (lv_at hl 0 rfl) ?_
  refine lv_iconst (v := (nI 1)) hx hb ps_d_init_91 (by decide) ?_
  refine lv_iload hx hb ps_d_init_92 (lv_at hl 0 rfl) ?_
  refine lv_ishl hx hb ps_d_init_94 ?_
  refine zt_i (y := nI 1) (by decide) ?_
  refine zq_Vi (n := 3) (As := [.int (nI 0), .int (nI 0), .int (nI 1)]) (rest := []) ⟨hx, hb, hml, hown, hts⟩ (ps_withParity l dC dI cA o q_4 q_5 1 1 1 0 0 0 0 1 hn1 hn hmb hmk (by decide) (by omega) (by decide)) zg_ps33 (by decide +kernel) ⟨rfl, rfl⟩ ⟨Nat.le_of_ble_eq_true rfl, Nat.le_of_ble_eq_true rfl⟩ hK (hP.sub (ws' := [(o, .inr (1, [.int (nI 1), .int (nI 1), .int (nI 1), .ref q_4, .ref q_5, .int (nI 0), .int (nI 0)]))]) [0] rfl) 1 0 rfl rfl rfl rfl hl.1 rfl (Nat.le_of_ble_eq_true rfl) ps_d_init_95 (fun r_7 h_8 => ?_) ⟨Nat.le_of_ble_eq_true rfl, Nat.le_of_ble_eq_true rfl⟩
  subst h_8
  refine zt_i (show nI (bn_with 1 0 0 1) = nI 3 from congrArg nI (by decide +kernel)) ?_
  refine lv_istore_n (lv' := [(3, .int (nI 3)), (4, .int (nI 0)), (2, .int (nI 2)), (0, .ref o), (1, .int (nI 1))]) hx hb ps_d_init_98 rfl hl (by decide) rfl (fun ls hl => ?_)
  refine lv_iinc (v := (nI 1)) (lv' := [(4, .int (nI 1)), (3, .int (nI 3)), (2, .int (nI 2)), (0, .ref o), (1, .int (nI 1))]) hx hb ps_d_init_99 hl (k := 1) rfl (by decide) (by decide) rfl (fun ls hl => ?_)
  refine lv_goto (tgt := 81) hx hb ps_d_init_102 (by decide) ?_
  refine lv_iload hx hb ps_d_init_81 (lv_at hl 0 rfl) ?_
  refine lv_iload_n hx hb ps_d_init_83 rfl (lv_at hl 4 rfl) ?_
  refine zc_ge (tgt := 105) hx hb ps_d_init_84 (by decide) (by omega) (by omega) (fun c_9 => ?_) (fun c_9 => absurd c_9 (by omega))
  refine lv_aload_n hx hb ps_d_init_105 rfl (lv_at hl 3 rfl) ?_
  refine lv_iload_n hx hb ps_d_init_106 rfl (lv_at hl 1 rfl) ?_
  refine lv_iconst (v := (nI 0)) hx hb ps_d_init_107 (by decide) ?_
  refine lv_iconst (v := (nI 0)) hx hb ps_d_init_108 (by decide) ?_
  refine zq_Vwv (n := 3) (As := [.int (nI 3), .int (nI 0), .int (nI 0)]) (rest := []) (wc := [(o, .inr (1, [.int (nI 1), .int (nI 1), .int (nI 1), .ref q_4, .ref q_5, .int (nI 0), .int (nI 0)])), (q_4, .inl (cA 1, 1, .inr (.inl (lA (fun _ => 0))))), (q_5, .inl (cA 0, 1, .inl (nA (fun _ => 0))))]) (wr := []) ⟨hx, hb, hml, hown, hts⟩ (ps_meet l dC dI cA _ o q_4 q_5 1 1 1 0 0 1 1 3 0 0 (fun _ => 0) (fun _ => 0) (fun _ => 0) (by decide) (by decide) (by decide) (by decide) (by decide) (by decide) (by decide) (zp_met0 _) (fun _ => by decide)) zg_ps37 (by decide +kernel) ⟨rfl, rfl⟩ ⟨Nat.le_of_ble_eq_true rfl, Nat.le_of_ble_eq_true rfl⟩ hK hP hD hS hA hZ [0, 1, 2] [] rfl rfl (by decide) 1 0 rfl rfl rfl rfl hl.1 rfl (Nat.le_of_ble_eq_true rfl) ps_d_init_109 (fun u_12 H locs h_11 hP hD hS => ?_) ⟨Nat.le_of_ble_eq_true rfl, Nat.le_of_ble_eq_true rfl⟩
  rcases h_11 with ⟨hold, rfl⟩ | ⟨hnew, rfl⟩
  · obtain ⟨i, hi, -⟩ := hold
    exact absurd hi (Nat.not_lt_zero _)
  · have hP : va_P (dC, dI) zz_cl [(o, .inr (1, [.int (nI 1), .int (nI 1), .int (nI 1), .ref q_4, .ref q_5, .int (nI (0 + 1)), .int (nI 0)])), (q_4, .inl (cA 1, 1, .inr (.inl (lA (va_up (fun _ => 0) 0 (3 * 2 ^ 20 + 0 * 16 + 0)))))), (q_5, .inl (cA 0, 1, .inl (nA (va_up (fun _ => 0) (3 / 32) (((fun _ => 0) (3 / 32)) ||| 2 ^ (3 % 32))))))] H := hP
    have hD : va_D A [(o, .inr (1, [.int (nI 1), .int (nI 1), .int (nI 1), .ref q_4, .ref q_5, .int (nI (0 + 1)), .int (nI 0)])), (q_4, .inl (cA 1, 1, .inr (.inl (lA (va_up (fun _ => 0) 0 (3 * 2 ^ 20 + 0 * 16 + 0)))))), (q_5, .inl (cA 0, 1, .inl (nA (va_up (fun _ => 0) (3 / 32) (((fun _ => 0) (3 / 32)) ||| 2 ^ (3 % 32))))))] := hD
    have hP9 := hP.sub (ws' := [(o, .inr (1, [.int (nI 1), .int (nI 1), .int (nI 1), .ref q_4, .ref q_5, .int (nI (0 + 1)), .int (nI 0)])), (q_4, .inl (cA 1, 1, .inr (.inl (lA (va_up (fun _ => 0) 0 (3 * 2 ^ 20 + 0 * 16 + 0)))))), (q_5, .inl (cA 0, 1, .inl (nA (va_up (fun _ => 0) (3 / 32) (((fun _ => 0) (3 / 32)) ||| 2 ^ (3 % 32))))))]) [0, 1, 2] rfl
    have hD9 := hD.sub (ws' := [(o, .inr (1, [.int (nI 1), .int (nI 1), .int (nI 1), .ref q_4, .ref q_5, .int (nI (0 + 1)), .int (nI 0)])), (q_4, .inl (cA 1, 1, .inr (.inl (lA (va_up (fun _ => 0) 0 (3 * 2 ^ 20 + 0 * 16 + 0)))))), (q_5, .inl (cA 0, 1, .inl (nA (va_up (fun _ => 0) (3 / 32) (((fun _ => 0) (3 / 32)) ||| 2 ^ (3 % 32))))))]) [0, 1, 2] (by decide) rfl
    refine W.widen (k := 2) (n := 2) (Nat.le_of_ble_eq_true rfl) (Nat.le_of_ble_eq_true rfl) ?_
    exact W.vret hx hb hr (fun t ht hW => ⟨⟨(q_4, q_5, va_up (fun _ => 0) 0 (3 * 2 ^ 20 + 0 * 16 + 0), va_up (fun _ => 0) (3 / 32) (((fun _ => 0) (3 / 32)) ||| 2 ^ (3 % 32))), rfl, zp_I0 bn_st1 (by decide), by rw [ht]; exact hP9, hD9⟩, hS.F ht⟩) hS.2.2 ps_d_init_112
set_option maxHeartbeats 4000000 in
set_option maxRecDepth 100000 in
/-- PlanSearch(2) -/
theorem ps_init2 (l : Launch) (dC : Nat → ClassId) (dI : Nat → Nat → Nat) (cA : Nat → ClassId) (sz : Nat) (o : Nat)  : Met l ps_y_init ps_w_init ({ frames := 2, cells := 2, slots := 12, locals := 46 }) (va_Pc [.ref o, .int (nI 2)] (zB (dC, dI) cA [(o, .inr (1, [.int (nI 0), .int (nI 0), .int (nI 0), .null, .null, .int (nI 0), .int (nI 0)]))] sz)) (va_Qv (fun (u : Nat × Nat × (Nat → Nat) × (Nat → Nat)) => zp_I 2 (fun _ => 57) (fun _ => 0) (fun _ => 0) (fun _ => []) u.2.2.1 u.2.2.2 1 0) (fun u t => zE (dC, dI) (va_A [(o, .inr (1, [.int (nI 0), .int (nI 0), .int (nI 0), .null, .null, .int (nI 0), .int (nI 0)]))] sz) ((fun (u : Nat × Nat × (Nat → Nat) × (Nat → Nat)) => [(o, .inr (1, [.int (nI 2), .int (nI 4), .int (nI 1), .ref u.1, .ref u.2.1, .int (nI 1), .int (nI 0)])), (u.1, .inl (cA 1, 7, .inr (.inl (lA u.2.2.1)))), (u.2.1, .inl (cA 0, 5, .inl (nA u.2.2.2)))]) u) t) (va_A [(o, .inr (1, [.int (nI 0), .int (nI 0), .int (nI 0), .null, .null, .int (nI 0), .int (nI 0)]))] sz)) 2 12 (va_A [(o, .inr (1, [.int (nI 0), .int (nI 0), .int (nI 0), .null, .null, .int (nI 0), .int (nI 0)]))] sz) := by
  refine Met.ofW (cc := ps_c_init) (maxL := 5) (ret := (none : Option Jvm.ClassFile.FieldType)) (by decide) rfl ?_
  intro p e s m args below meth c s₁ B hml hv
  obtain ⟨rfl, hsz, hP, hK, hD0, hZ⟩ := hv
  have hx := B.exec
  have hb := B.bytes
  have hr := B.returns
  have hts0 := atoms_spec (ws := ps_w_init) B.pre
  have hts : ∀ w ∈ zz_tbl, w.before _ s = true := fun w h => hts0 w (List.mem_cons_of_mem _ h)
  have hown : s.vm.findClass ps_R = some m.cls := findClass_of_methodNamed B.named
  have hlocks := B.notSynchronized
  have hin : meth.name = "<init>" := (name_of_methodNamed B.named B.method).1
  subst hsz
  have hD := hD0.self (sz := s.heap.size)
  generalize hAe : va_A [(o, .inr (1, [.int (nI 0), .int (nI 0), .int (nI 0), .null, .null, .int (nI 0), .int (nI 0)]))] s.heap.size = A at hD hZ ⊢
  have hA : ∀ q : Nat, s.heap.size ≤ q → A q := fun q h => by rw [← hAe]; exact Or.inr h
  have hS : va_S A s.heap s.heap [] := va_S.rf
  have hP : va_P (dC, dI) zz_cl [(o, .inr (1, [.int (nI 0), .int (nI 0), .int (nI 0), .null, .null, .int (nI 0), .int (nI 0)]))] s.heap := hP
  have hl := lv_entry ([.ref o, .int (nI 2)]) (n := 5) (Nat.le_of_ble_eq_true rfl)
  rw [lg_entry_eq]
  generalize (lg_sl ([.ref o, .int (nI 2)]) ++ List.replicate (5 - (lg_sl ([.ref o, .int (nI 2)])).length) Slot.unset).toArray = ls at hl ⊢
  have hl : lv_has ls 5 [(0, .ref o), (1, .int (nI 2))] := hl
  have hn1 : 1 ≤ 2 := by decide
  have hn : 2 ≤ 4 := by decide
  have hmb : 4 = 2 * 2 := by decide
  have hmk : 1 = if 2 < 4 then 1 else 0 := by decide
  refine lv_aload_n hx hb ps_d_init_0 rfl (lv_at hl 0 rfl) ?_
  refine W.objInit hx hb hown (hts _ zk_ps3) (hts _ zk_im_object) (hts _ zk_cd_object) rfl (by rw [hml]; exact hl.1) rfl ps_d_init_1 (Nat.le_of_ble_eq_true rfl) (Nat.le_of_ble_eq_true rfl) ?_
  refine W.eq (g2 := F0 m 4 ls []) rfl ?_
  refine lv_aload_n hx hb ps_d_init_4 rfl (lv_at hl 0 rfl) ?_
  refine lv_iload_n hx hb ps_d_init_5 rfl (lv_at hl 1 rfl) ?_
  refine va_putF (D := (dC, dI)) (ci := 1) (v := .int (nI 2)) (ty := .int) (C := ps_R) (T := ps_T) (N := 7) hx hb hts ps_in ps_t ps_ok ps_nm hown hK hP hD hS 0 rfl rfl 0 (by decide) (hts _ zk_ps9) (fun _ h9 => h9) rfl hin rfl (by decide +kernel) rfl rfl (Nat.le_of_ble_eq_true rfl) ps_d_init_6 (fun H locs hP hD hS => ?_)
  have hP : va_P (dC, dI) zz_cl [(o, .inr (1, [.int (nI 2), .int (nI 0), .int (nI 0), .null, .null, .int (nI 0), .int (nI 0)]))] H := hP
  have hD : va_D A [(o, .inr (1, [.int (nI 2), .int (nI 0), .int (nI 0), .null, .null, .int (nI 0), .int (nI 0)]))] := hD
  refine lv_aload_n hx hb ps_d_init_9 rfl (lv_at hl 0 rfl) ?_
  refine lv_iload_n hx hb ps_d_init_10 rfl (lv_at hl 1 rfl) ?_
  refine lv_iload_n hx hb ps_d_init_11 rfl (lv_at hl 1 rfl) ?_
  refine lv_imul hx hb ps_d_init_12 ?_
  refine zt_i (y := nI 4) (by decide) ?_
  refine va_putF (D := (dC, dI)) (ci := 1) (v := .int (nI 4)) (ty := .int) (C := ps_R) (T := ps_T) (N := 7) hx hb hts ps_in ps_t ps_ok ps_nm hown hK hP hD hS 0 rfl rfl 1 (by decide) (hts _ zk_ps15) (fun _ h9 => h9) rfl hin rfl (by decide +kernel) rfl rfl (Nat.le_of_ble_eq_true rfl) ps_d_init_13 (fun H locs hP hD hS => ?_)
  have hP : va_P (dC, dI) zz_cl [(o, .inr (1, [.int (nI 2), .int (nI 4), .int (nI 0), .null, .null, .int (nI 0), .int (nI 0)]))] H := hP
  have hD : va_D A [(o, .inr (1, [.int (nI 2), .int (nI 4), .int (nI 0), .null, .null, .int (nI 0), .int (nI 0)]))] := hD
  refine lv_aload_n hx hb ps_d_init_16 rfl (lv_at hl 0 rfl) ?_
  refine lv_iload_n hx hb ps_d_init_17 rfl (lv_at hl 1 rfl) ?_
  refine lv_iconst (v := (nI 4)) hx hb ps_d_init_18 (by decide) ?_
  refine zc_ge (tgt := 26) hx hb ps_d_init_19 (by decide) (by omega) (by omega) (fun c_1 => absurd c_1 (by omega)) (fun c_1 => ?_)
  refine lv_iconst (v := (nI 1)) hx hb ps_d_init_22 (by decide) ?_
  refine lv_goto (tgt := 27) hx hb ps_d_init_23 (by decide) ?_
  refine va_putF (D := (dC, dI)) (ci := 1) (v := .int (nI 1)) (ty := .boolean) (C := ps_R) (T := ps_T) (N := 7) hx hb hts ps_in ps_t ps_ok ps_nm hown hK hP hD hS 0 rfl rfl 2 (by decide) (hts _ zk_ps18) (fun _ h9 => h9) rfl hin rfl (by decide +kernel) rfl rfl (Nat.le_of_ble_eq_true rfl) ps_d_init_27 (fun H locs hP hD hS => ?_)
  have hP : va_P (dC, dI) zz_cl [(o, .inr (1, [.int (nI 2), .int (nI 4), .int (nI 1), .null, .null, .int (nI 0), .int (nI 0)]))] H := hP
  have hD : va_D A [(o, .inr (1, [.int (nI 2), .int (nI 4), .int (nI 1), .null, .null, .int (nI 0), .int (nI 0)]))] := hD
  refine lv_aload_n hx hb ps_d_init_30 rfl (lv_at hl 0 rfl) ?_
  refine va_get (D := (dC, dI)) (ci := 1) (v := .int (nI 4)) (C := ps_R) (T := ps_T) (N := 7) hx hb hts ps_in hown hK hP 0 rfl rfl 1 (by decide) (hts _ zk_ps15) (fun _ h9 => h9) rfl ps_d_init_31 ?_
  refine lv_aload_n hx hb ps_d_init_34 rfl (lv_at hl 0 rfl) ?_
  refine va_get (D := (dC, dI)) (ci := 1) (v := .int (nI 1)) (C := ps_R) (T := ps_T) (N := 7) hx hb hts ps_in hown hK hP 0 rfl rfl 2 (by decide) (hts _ zk_ps18) (fun _ h9 => h9) rfl ps_d_init_35 ?_
  refine zi_eq (tgt := 49) hx hb ps_d_init_38 (by decide) (by omega) (fun c_2 => absurd c_2 (by omega)) (fun c_2 => ?_)
  refine lv_iconst (v := (nI 1)) hx hb ps_d_init_41 (by decide) ?_
  refine lv_iload_n hx hb ps_d_init_42 rfl (lv_at hl 1 rfl) ?_
  refine lv_ishl hx hb ps_d_init_43 ?_
  refine zt_i (y := nI 4) (by decide) ?_
  refine lv_iconst (v := (nI 1)) hx hb ps_d_init_44 (by decide) ?_
  refine lv_isub hx hb ps_d_init_45 ?_
  refine zt_i (y := nI 3) (by decide) ?_
  refine lv_goto (tgt := 50) hx hb ps_d_init_46 (by decide) ?_
  refine lv_iadd hx hb ps_d_init_50 ?_
  refine zt_i (y := nI 7) (by decide) ?_
  refine lv_istore_n (lv' := [(2, .int (nI 7)), (0, .ref o), (1, .int (nI 2))]) hx hb ps_d_init_51 rfl hl (by decide) rfl (fun ls hl => ?_)
  refine lv_aload_n hx hb ps_d_init_52 rfl (lv_at hl 1 rfl) ?_
  refine zs_get hx hb hZ.2.2.2 hS hown (hts _ zk_ps22) ps_d_init_53 (fun t_3 ht_3 => ?_)
  refine lv_iload_n hx hb ps_d_init_56 rfl (lv_at hl 2 rfl) ?_
  refine zs_ald hx hb ht_3 hS (k := 2) (by omega) (by decide) ps_d_init_57 ?_
  refine zt_i (show nI (zs_states 2) = nI 7 from rfl) ?_
  refine zn_l (N' := 7) hx hb (hts _ zk_ac_long) hK hP hD hS hA (by decide) (Nat.le_of_ble_eq_true rfl) (Nat.le_of_ble_eq_true rfl) ps_d_init_58 (fun q_4 H hP hD hS => ?_)
  have hP : va_P (dC, dI) zz_cl [(o, .inr (1, [.int (nI 2), .int (nI 4), .int (nI 1), .null, .null, .int (nI 0), .int (nI 0)])), (q_4, .inl (cA 1, 7, .inr (.inl (lA (fun _ => 0)))))] H := hP
  have hD : va_D A [(o, .inr (1, [.int (nI 2), .int (nI 4), .int (nI 1), .null, .null, .int (nI 0), .int (nI 0)])), (q_4, .inl (cA 1, 7, .inr (.inl (lA (fun _ => 0)))))] := hD
  refine va_putF (D := (dC, dI)) (ci := 1) (v := .ref q_4) (ty := .array .long) (C := ps_R) (T := ps_T) (N := 7) hx hb hts ps_in ps_t ps_ok ps_nm hown hK hP hD hS 0 rfl rfl 3 (by decide) (hts _ zk_ps26) (fun _ h9 => h9) rfl hin rfl (by decide +kernel) rfl rfl (Nat.le_of_ble_eq_true rfl) ps_d_init_60 (fun H locs hP hD hS => ?_)
  have hP : va_P (dC, dI) zz_cl [(o, .inr (1, [.int (nI 2), .int (nI 4), .int (nI 1), .ref q_4, .null, .int (nI 0), .int (nI 0)])), (q_4, .inl (cA 1, 7, .inr (.inl (lA (fun _ => 0)))))] H := hP
  have hD : va_D A [(o, .inr (1, [.int (nI 2), .int (nI 4), .int (nI 1), .ref q_4, .null, .int (nI 0), .int (nI 0)])), (q_4, .inl (cA 1, 7, .inr (.inl (lA (fun _ => 0)))))] := hD
  refine lv_aload_n hx hb ps_d_init_63 rfl (lv_at hl 1 rfl) ?_
  refine lv_iconst (v := (nI 1)) hx hb ps_d_init_64 (by decide) ?_
  refine lv_iload_n hx hb ps_d_init_65 rfl (lv_at hl 0 rfl) ?_
  refine lv_ishl hx hb ps_d_init_66 ?_
  refine zt_i (y := nI 128) (by decide) ?_
  refine lv_iconst (v := (nI 5)) hx hb ps_d_init_67 (by decide) ?_
  refine lv_ishr hx hb ps_d_init_68 ?_
  refine zt_i (y := nI 4) (by decide) ?_
  refine lv_iconst (v := (nI 1)) hx hb ps_d_init_69 (by decide) ?_
  refine lv_iadd hx hb ps_d_init_70 ?_
  refine zt_i (y := nI 5) (by decide) ?_
  refine zn_i (N' := 5) hx hb (hts _ zk_ac_int) hK hP hD hS hA (by decide) (Nat.le_of_ble_eq_true rfl) (Nat.le_of_ble_eq_true rfl) ps_d_init_71 (fun q_5 H hP hD hS => ?_)
  have hP : va_P (dC, dI) zz_cl [(o, .inr (1, [.int (nI 2), .int (nI 4), .int (nI 1), .ref q_4, .null, .int (nI 0), .int (nI 0)])), (q_4, .inl (cA 1, 7, .inr (.inl (lA (fun _ => 0))))), (q_5, .inl (cA 0, 5, .inl (nA (fun _ => 0))))] H := hP
  have hD : va_D A [(o, .inr (1, [.int (nI 2), .int (nI 4), .int (nI 1), .ref q_4, .null, .int (nI 0), .int (nI 0)])), (q_4, .inl (cA 1, 7, .inr (.inl (lA (fun _ => 0))))), (q_5, .inl (cA 0, 5, .inl (nA (fun _ => 0))))] := hD
  refine va_putF (D := (dC, dI)) (ci := 1) (v := .ref q_5) (ty := .array .int) (C := ps_R) (T := ps_T) (N := 7) hx hb hts ps_in ps_t ps_ok ps_nm hown hK hP hD hS 0 rfl rfl 4 (by decide) (hts _ zk_ps30) (fun _ h9 => h9) rfl hin rfl (by decide +kernel) rfl rfl (Nat.le_of_ble_eq_true rfl) ps_d_init_73 (fun H locs hP hD hS => ?_)
  have hP : va_P (dC, dI) zz_cl [(o, .inr (1, [.int (nI 2), .int (nI 4), .int (nI 1), .ref q_4, .ref q_5, .int (nI 0), .int (nI 0)])), (q_4, .inl (cA 1, 7, .inr (.inl (lA (fun _ => 0))))), (q_5, .inl (cA 0, 5, .inl (nA (fun _ => 0))))] H := hP
  have hD : va_D A [(o, .inr (1, [.int (nI 2), .int (nI 4), .int (nI 1), .ref q_4, .ref q_5, .int (nI 0), .int (nI 0)])), (q_4, .inl (cA 1, 7, .inr (.inl (lA (fun _ => 0))))), (q_5, .inl (cA 0, 5, .inl (nA (fun _ => 0))))] := hD
  refine lv_iconst (v := (nI 0)) hx hb ps_d_init_76 (by decide) ?_
  refine lv_istore_n (lv' := [(3, .int (nI 0)), (2, .int (nI 7)), (0, .ref o), (1, .int (nI 2))]) hx hb ps_d_init_77 rfl hl (by decide) rfl (fun ls hl => ?_)
  refine lv_iconst (v := (nI 0)) hx hb ps_d_init_78 (by decide) ?_
  refine lv_istore (lv' := [(4, .int (nI 0)), (3, .int (nI 0)), (2, .int (nI 7)), (0, .ref o), (1, .int (nI 2))]) hx hb ps_d_init_79 hl (by decide) rfl (fun ls hl => ?_)
  refine lv_iload hx hb ps_d_init_81 (lv_at hl 0 rfl) ?_
  refine lv_iload_n hx hb ps_d_init_83 rfl (lv_at hl 4 rfl) ?_
  refine zc_ge (tgt := 105) hx hb ps_d_init_84 (by decide) (by omega) (by omega) (fun c_6 => absurd c_6 (by omega)) (fun c_6 => ?_)
  refine lv_aload_n hx hb ps_d_init_87 rfl (lv_at hl 3 rfl) ?_
  refine lv_iload_n hx hb ps_d_init_88 rfl (lv_at hl 1 rfl) ?_
  refine lv_iload hx hb ps_d_init_89 (lv_at hl 0 rfl) ?_
  refine lv_iconst (v := (nI 1)) hx hb ps_d_init_91 (by decide) ?_
  refine lv_iload hx hb ps_d_init_92 (lv_at hl 0 rfl) ?_
  refine lv_ishl hx hb ps_d_init_94 ?_
  refine zt_i (y := nI 1) (by decide) ?_
  refine zq_Vi (n := 3) (As := [.int (nI 0), .int (nI 0), .int (nI 1)]) (rest := []) ⟨hx, hb, hml, hown, hts⟩ (ps_withParity l dC dI cA o q_4 q_5 2 4 1 0 0 0 0 1 hn1 hn hmb hmk (by decide) (by omega) (by decide)) zg_ps33 (by decide +kernel) ⟨rfl, rfl⟩ ⟨Nat.le_of_ble_eq_true rfl, Nat.le_of_ble_eq_true rfl⟩ hK (hP.sub (ws' := [(o, .inr (1, [.int (nI 2), .int (nI 4), .int (nI 1), .ref q_4, .ref q_5, .int (nI 0), .int (nI 0)]))]) [0] rfl) 1 0 rfl rfl rfl rfl hl.1 rfl (Nat.le_of_ble_eq_true rfl) ps_d_init_95 (fun r_7 h_8 => ?_) ⟨Nat.le_of_ble_eq_true rfl, Nat.le_of_ble_eq_true rfl⟩
  subst h_8
  refine zt_i (show nI (bn_with 2 0 0 1) = nI 17 from congrArg nI (by decide +kernel)) ?_
  refine lv_istore_n (lv' := [(3, .int (nI 17)), (4, .int (nI 0)), (2, .int (nI 7)), (0, .ref o), (1, .int (nI 2))]) hx hb ps_d_init_98 rfl hl (by decide) rfl (fun ls hl => ?_)
  refine lv_iinc (v := (nI 1)) (lv' := [(4, .int (nI 1)), (3, .int (nI 17)), (2, .int (nI 7)), (0, .ref o), (1, .int (nI 2))]) hx hb ps_d_init_99 hl (k := 1) rfl (by decide) (by decide) rfl (fun ls hl => ?_)
  refine lv_goto (tgt := 81) hx hb ps_d_init_102 (by decide) ?_
  refine lv_iload hx hb ps_d_init_81 (lv_at hl 0 rfl) ?_
  refine lv_iload_n hx hb ps_d_init_83 rfl (lv_at hl 4 rfl) ?_
  refine zc_ge (tgt := 105) hx hb ps_d_init_84 (by decide) (by omega) (by omega) (fun c_9 => absurd c_9 (by omega)) (fun c_9 => ?_)
  refine lv_aload_n hx hb ps_d_init_87 rfl (lv_at hl 3 rfl) ?_
  refine lv_iload_n hx hb ps_d_init_88 rfl (lv_at hl 1 rfl) ?_
  refine lv_iload hx hb ps_d_init_89 (lv_at hl 0 rfl) ?_
  refine lv_iconst (v := (nI 1)) hx hb ps_d_init_91 (by decide) ?_
  refine lv_iload hx hb ps_d_init_92 (lv_at hl 0 rfl) ?_
  refine lv_ishl hx hb ps_d_init_94 ?_
  refine zt_i (y := nI 2) (by decide) ?_
  refine zq_Vi (n := 3) (As := [.int (nI 17), .int (nI 1), .int (nI 2)]) (rest := []) ⟨hx, hb, hml, hown, hts⟩ (ps_withParity l dC dI cA o q_4 q_5 2 4 1 0 0 17 1 2 hn1 hn hmb hmk (by decide) (by omega) (by decide)) zg_ps33 (by decide +kernel) ⟨rfl, rfl⟩ ⟨Nat.le_of_ble_eq_true rfl, Nat.le_of_ble_eq_true rfl⟩ hK (hP.sub (ws' := [(o, .inr (1, [.int (nI 2), .int (nI 4), .int (nI 1), .ref q_4, .ref q_5, .int (nI 0), .int (nI 0)]))]) [0] rfl) 1 0 rfl rfl rfl rfl hl.1 rfl (Nat.le_of_ble_eq_true rfl) ps_d_init_95 (fun r_10 h_11 => ?_) ⟨Nat.le_of_ble_eq_true rfl, Nat.le_of_ble_eq_true rfl⟩
  subst h_11
  refine zt_i (show nI (bn_with 2 17 1 2) = nI 57 from congrArg nI (by decide +kernel)) ?_
  refine lv_istore_n (lv' := [(3, .int (nI 57)), (4, .int (nI 1)), (2, .int (nI 7)), (0, .ref o), (1, .int (nI 2))]) hx hb ps_d_init_98 rfl hl (by decide) rfl (fun ls hl => ?_)
  refine lv_iinc (v := (nI 2)) (lv' := [(4, .int (nI 2)), (3, .int (nI 57)), (2, .int (nI 7)), (0, .ref o), (1, .int (nI 2))]) hx hb ps_d_init_99 hl (k := 1) rfl (by decide) (by decide) rfl (fun ls hl => ?_)
  refine lv_goto (tgt := 81) hx hb ps_d_init_102 (by decide) ?_
  refine lv_iload hx hb ps_d_init_81 (lv_at hl 0 rfl) ?_
  refine lv_iload_n hx hb ps_d_init_83 rfl (lv_at hl 4 rfl) ?_
  refine zc_ge (tgt := 105) hx hb ps_d_init_84 (by decide) (by omega) (by omega) (fun c_12 => ?_) (fun c_12 => absurd c_12 (by omega))
  refine lv_aload_n hx hb ps_d_init_105 rfl (lv_at hl 3 rfl) ?_
  refine lv_iload_n hx hb ps_d_init_106 rfl (lv_at hl 1 rfl) ?_
  refine lv_iconst (v := (nI 0)) hx hb ps_d_init_107 (by decide) ?_
  refine lv_iconst (v := (nI 0)) hx hb ps_d_init_108 (by decide) ?_
  refine zq_Vwv (n := 3) (As := [.int (nI 57), .int (nI 0), .int (nI 0)]) (rest := []) (wc := [(o, .inr (1, [.int (nI 2), .int (nI 4), .int (nI 1), .ref q_4, .ref q_5, .int (nI 0), .int (nI 0)])), (q_4, .inl (cA 1, 7, .inr (.inl (lA (fun _ => 0))))), (q_5, .inl (cA 0, 5, .inl (nA (fun _ => 0))))]) (wr := []) ⟨hx, hb, hml, hown, hts⟩ (ps_meet l dC dI cA _ o q_4 q_5 2 4 1 0 0 7 5 57 0 0 (fun _ => 0) (fun _ => 0) (fun _ => 0) (by decide) (by decide) (by decide) (by decide) (by decide) (by decide) (by decide) (zp_met0 _) (fun _ => by decide)) zg_ps37 (by decide +kernel) ⟨rfl, rfl⟩ ⟨Nat.le_of_ble_eq_true rfl, Nat.le_of_ble_eq_true rfl⟩ hK hP hD hS hA hZ [0, 1, 2] [] rfl rfl (by decide) 1 0 rfl rfl rfl rfl hl.1 rfl (Nat.le_of_ble_eq_true rfl) ps_d_init_109 (fun u_15 H locs h_14 hP hD hS => ?_) ⟨Nat.le_of_ble_eq_true rfl, Nat.le_of_ble_eq_true rfl⟩
  rcases h_14 with ⟨hold, rfl⟩ | ⟨hnew, rfl⟩
  · obtain ⟨i, hi, -⟩ := hold
    exact absurd hi (Nat.not_lt_zero _)
  · have hP : va_P (dC, dI) zz_cl [(o, .inr (1, [.int (nI 2), .int (nI 4), .int (nI 1), .ref q_4, .ref q_5, .int (nI (0 + 1)), .int (nI 0)])), (q_4, .inl (cA 1, 7, .inr (.inl (lA (va_up (fun _ => 0) 0 (57 * 2 ^ 20 + 0 * 16 + 0)))))), (q_5, .inl (cA 0, 5, .inl (nA (va_up (fun _ => 0) (57 / 32) (((fun _ => 0) (57 / 32)) ||| 2 ^ (57 % 32))))))] H := hP
    have hD : va_D A [(o, .inr (1, [.int (nI 2), .int (nI 4), .int (nI 1), .ref q_4, .ref q_5, .int (nI (0 + 1)), .int (nI 0)])), (q_4, .inl (cA 1, 7, .inr (.inl (lA (va_up (fun _ => 0) 0 (57 * 2 ^ 20 + 0 * 16 + 0)))))), (q_5, .inl (cA 0, 5, .inl (nA (va_up (fun _ => 0) (57 / 32) (((fun _ => 0) (57 / 32)) ||| 2 ^ (57 % 32))))))] := hD
    have hP9 := hP.sub (ws' := [(o, .inr (1, [.int (nI 2), .int (nI 4), .int (nI 1), .ref q_4, .ref q_5, .int (nI (0 + 1)), .int (nI 0)])), (q_4, .inl (cA 1, 7, .inr (.inl (lA (va_up (fun _ => 0) 0 (57 * 2 ^ 20 + 0 * 16 + 0)))))), (q_5, .inl (cA 0, 5, .inl (nA (va_up (fun _ => 0) (57 / 32) (((fun _ => 0) (57 / 32)) ||| 2 ^ (57 % 32))))))]) [0, 1, 2] rfl
    have hD9 := hD.sub (ws' := [(o, .inr (1, [.int (nI 2), .int (nI 4), .int (nI 1), .ref q_4, .ref q_5, .int (nI (0 + 1)), .int (nI 0)])), (q_4, .inl (cA 1, 7, .inr (.inl (lA (va_up (fun _ => 0) 0 (57 * 2 ^ 20 + 0 * 16 + 0)))))), (q_5, .inl (cA 0, 5, .inl (nA (va_up (fun _ => 0) (57 / 32) (((fun _ => 0) (57 / 32)) ||| 2 ^ (57 % 32))))))]) [0, 1, 2] (by decide) rfl
    refine W.widen (k := 2) (n := 12) (Nat.le_of_ble_eq_true rfl) (Nat.le_of_ble_eq_true rfl) ?_
    exact W.vret hx hb hr (fun t ht hW => ⟨⟨(q_4, q_5, va_up (fun _ => 0) 0 (57 * 2 ^ 20 + 0 * 16 + 0), va_up (fun _ => 0) (57 / 32) (((fun _ => 0) (57 / 32)) ||| 2 ^ (57 % 32))), rfl, zp_I0 bn_st2 (by decide), by rw [ht]; exact hP9, hD9⟩, hS.F ht⟩) hS.2.2 ps_d_init_112
set_option maxHeartbeats 4000000 in
set_option maxRecDepth 100000 in
/-- PlanSearch(3) -/
theorem ps_init3 (l : Launch) (dC : Nat → ClassId) (dI : Nat → Nat → Nat) (cA : Nat → ClassId) (sz : Nat) (o : Nat)  : Met l ps_y_init ps_w_init ({ frames := 2, cells := 2, slots := 2908, locals := 46 }) (va_Pc [.ref o, .int (nI 3)] (zB (dC, dI) cA [(o, .inr (1, [.int (nI 0), .int (nI 0), .int (nI 0), .null, .null, .int (nI 0), .int (nI 0)]))] sz)) (va_Qv (fun (u : Nat × Nat × (Nat → Nat) × (Nat → Nat)) => zp_I 3 (fun _ => 5905) (fun _ => 0) (fun _ => 0) (fun _ => []) u.2.2.1 u.2.2.2 1 0) (fun u t => zE (dC, dI) (va_A [(o, .inr (1, [.int (nI 0), .int (nI 0), .int (nI 0), .null, .null, .int (nI 0), .int (nI 0)]))] sz) ((fun (u : Nat × Nat × (Nat → Nat) × (Nat → Nat)) => [(o, .inr (1, [.int (nI 3), .int (nI 9), .int (nI 1), .ref u.1, .ref u.2.1, .int (nI 1), .int (nI 0)])), (u.1, .inl (cA 1, 859, .inr (.inl (lA u.2.2.1)))), (u.2.1, .inl (cA 0, 2049, .inl (nA u.2.2.2)))]) u) t) (va_A [(o, .inr (1, [.int (nI 0), .int (nI 0), .int (nI 0), .null, .null, .int (nI 0), .int (nI 0)]))] sz)) 2 2908 (va_A [(o, .inr (1, [.int (nI 0), .int (nI 0), .int (nI 0), .null, .null, .int (nI 0), .int (nI 0)]))] sz) := by
  refine Met.ofW (cc := ps_c_init) (maxL := 5) (ret := (none : Option Jvm.ClassFile.FieldType)) (by decide) rfl ?_
  intro p e s m args below meth c s₁ B hml hv
  obtain ⟨rfl, hsz, hP, hK, hD0, hZ⟩ := hv
  have hx := B.exec
  have hb := B.bytes
  have hr := B.returns
  have hts0 := atoms_spec (ws := ps_w_init) B.pre
  have hts : ∀ w ∈ zz_tbl, w.before _ s = true := fun w h => hts0 w (List.mem_cons_of_mem _ h)
  have hown : s.vm.findClass ps_R = some m.cls := findClass_of_methodNamed B.named
  have hlocks := B.notSynchronized
  have hin : meth.name = "<init>" := (name_of_methodNamed B.named B.method).1
  subst hsz
  have hD := hD0.self (sz := s.heap.size)
  generalize hAe : va_A [(o, .inr (1, [.int (nI 0), .int (nI 0), .int (nI 0), .null, .null, .int (nI 0), .int (nI 0)]))] s.heap.size = A at hD hZ ⊢
  have hA : ∀ q : Nat, s.heap.size ≤ q → A q := fun q h => by rw [← hAe]; exact Or.inr h
  have hS : va_S A s.heap s.heap [] := va_S.rf
  have hP : va_P (dC, dI) zz_cl [(o, .inr (1, [.int (nI 0), .int (nI 0), .int (nI 0), .null, .null, .int (nI 0), .int (nI 0)]))] s.heap := hP
  have hl := lv_entry ([.ref o, .int (nI 3)]) (n := 5) (Nat.le_of_ble_eq_true rfl)
  rw [lg_entry_eq]
  generalize (lg_sl ([.ref o, .int (nI 3)]) ++ List.replicate (5 - (lg_sl ([.ref o, .int (nI 3)])).length) Slot.unset).toArray = ls at hl ⊢
  have hl : lv_has ls 5 [(0, .ref o), (1, .int (nI 3))] := hl
  have hn1 : 1 ≤ 3 := by decide
  have hn : 3 ≤ 4 := by decide
  have hmb : 9 = 3 * 3 := by decide
  have hmk : 1 = if 3 < 4 then 1 else 0 := by decide
  refine lv_aload_n hx hb ps_d_init_0 rfl (lv_at hl 0 rfl) ?_
  refine W.objInit hx hb hown (hts _ zk_ps3) (hts _ zk_im_object) (hts _ zk_cd_object) rfl (by rw [hml]; exact hl.1) rfl ps_d_init_1 (Nat.le_of_ble_eq_true rfl) (Nat.le_of_ble_eq_true rfl) ?_
  refine W.eq (g2 := F0 m 4 ls []) rfl ?_
  refine lv_aload_n hx hb ps_d_init_4 rfl (lv_at hl 0 rfl) ?_
  refine lv_iload_n hx hb ps_d_init_5 rfl (lv_at hl 1 rfl) ?_
  refine va_putF (D := (dC, dI)) (ci := 1) (v := .int (nI 3)) (ty := .int) (C := ps_R) (T := ps_T) (N := 7) hx hb hts ps_in ps_t ps_ok ps_nm hown hK hP hD hS 0 rfl rfl 0 (by decide) (hts _ zk_ps9) (fun _ h9 => h9) rfl hin rfl (by decide +kernel) rfl rfl (Nat.le_of_ble_eq_true rfl) ps_d_init_6 (fun H locs hP hD hS => ?_)
  have hP : va_P (dC, dI) zz_cl [(o, .inr (1, [.int (nI 3), .int (nI 0), .int (nI 0), .null, .null, .int (nI 0), .int (nI 0)]))] H := hP
  have hD : va_D A [(o, .inr (1, [.int (nI 3), .int (nI 0), .int (nI 0), .null, .null, .int (nI 0), .int (nI 0)]))] := hD
  refine lv_aload_n hx hb ps_d_init_9 rfl (lv_at hl 0 rfl) ?_
  refine lv_iload_n hx hb ps_d_init_10 rfl (lv_at hl 1 rfl) ?_
  refine lv_iload_n hx hb ps_d_init_11 rfl (lv_at hl 1 rfl) ?_
  refine lv_imul hx hb ps_d_init_12 ?_
  refine zt_i (y := nI 9) (by decide) ?_
  refine va_putF (D := (dC, dI)) (ci := 1) (v := .int (nI 9)) (ty := .int) (C := ps_R) (T := ps_T) (N := 7) hx hb hts ps_in ps_t ps_ok ps_nm hown hK hP hD hS 0 rfl rfl 1 (by decide) (hts _ zk_ps15) (fun _ h9 => h9) rfl hin rfl (by decide +kernel) rfl rfl (Nat.le_of_ble_eq_true rfl) ps_d_init_13 (fun H locs hP hD hS => ?_)
  have hP : va_P (dC, dI) zz_cl [(o, .inr (1, [.int (nI 3), .int (nI 9), .int (nI 0), .null, .null, .int (nI 0), .int (nI 0)]))] H := hP
  have hD : va_D A [(o, .inr (1, [.int (nI 3), .int (nI 9), .int (nI 0), .null, .null, .int (nI 0), .int (nI 0)]))] := hD
  refine lv_aload_n hx hb ps_d_init_16 rfl (lv_at hl 0 rfl) ?_
  refine lv_iload_n hx hb ps_d_init_17 rfl (lv_at hl 1 rfl) ?_
  refine lv_iconst (v := (nI 4)) hx hb ps_d_init_18 (by decide) ?_
  refine zc_ge (tgt := 26) hx hb ps_d_init_19 (by decide) (by omega) (by omega) (fun c_1 => absurd c_1 (by omega)) (fun c_1 => ?_)
  refine lv_iconst (v := (nI 1)) hx hb ps_d_init_22 (by decide) ?_
  refine lv_goto (tgt := 27) hx hb ps_d_init_23 (by decide) ?_
  refine va_putF (D := (dC, dI)) (ci := 1) (v := .int (nI 1)) (ty := .boolean) (C := ps_R) (T := ps_T) (N := 7) hx hb hts ps_in ps_t ps_ok ps_nm hown hK hP hD hS 0 rfl rfl 2 (by decide) (hts _ zk_ps18) (fun _ h9 => h9) rfl hin rfl (by decide +kernel) rfl rfl (Nat.le_of_ble_eq_true rfl) ps_d_init_27 (fun H locs hP hD hS => ?_)
  have hP : va_P (dC, dI) zz_cl [(o, .inr (1, [.int (nI 3), .int (nI 9), .int (nI 1), .null, .null, .int (nI 0), .int (nI 0)]))] H := hP
  have hD : va_D A [(o, .inr (1, [.int (nI 3), .int (nI 9), .int (nI 1), .null, .null, .int (nI 0), .int (nI 0)]))] := hD
  refine lv_aload_n hx hb ps_d_init_30 rfl (lv_at hl 0 rfl) ?_
  refine va_get (D := (dC, dI)) (ci := 1) (v := .int (nI 9)) (C := ps_R) (T := ps_T) (N := 7) hx hb hts ps_in hown hK hP 0 rfl rfl 1 (by decide) (hts _ zk_ps15) (fun _ h9 => h9) rfl ps_d_init_31 ?_
  refine lv_aload_n hx hb ps_d_init_34 rfl (lv_at hl 0 rfl) ?_
  refine va_get (D := (dC, dI)) (ci := 1) (v := .int (nI 1)) (C := ps_R) (T := ps_T) (N := 7) hx hb hts ps_in hown hK hP 0 rfl rfl 2 (by decide) (hts _ zk_ps18) (fun _ h9 => h9) rfl ps_d_init_35 ?_
  refine zi_eq (tgt := 49) hx hb ps_d_init_38 (by decide) (by omega) (fun c_2 => absurd c_2 (by omega)) (fun c_2 => ?_)
  refine lv_iconst (v := (nI 1)) hx hb ps_d_init_41 (by decide) ?_
  refine lv_iload_n hx hb ps_d_init_42 rfl (lv_at hl 1 rfl) ?_
  refine lv_ishl hx hb ps_d_init_43 ?_
  refine zt_i (y := nI 8) (by decide) ?_
  refine lv_iconst (v := (nI 1)) hx hb ps_d_init_44 (by decide) ?_
  refine lv_isub hx hb ps_d_init_45 ?_
  refine zt_i (y := nI 7) (by decide) ?_
  refine lv_goto (tgt := 50) hx hb ps_d_init_46 (by decide) ?_
  refine lv_iadd hx hb ps_d_init_50 ?_
  refine zt_i (y := nI 16) (by decide) ?_
  refine lv_istore_n (lv' := [(2, .int (nI 16)), (0, .ref o), (1, .int (nI 3))]) hx hb ps_d_init_51 rfl hl (by decide) rfl (fun ls hl => ?_)
  refine lv_aload_n hx hb ps_d_init_52 rfl (lv_at hl 1 rfl) ?_
  refine zs_get hx hb hZ.2.2.2 hS hown (hts _ zk_ps22) ps_d_init_53 (fun t_3 ht_3 => ?_)
  refine lv_iload_n hx hb ps_d_init_56 rfl (lv_at hl 2 rfl) ?_
  refine zs_ald hx hb ht_3 hS (k := 3) (by omega) (by decide) ps_d_init_57 ?_
  refine zt_i (show nI (zs_states 3) = nI 859 from rfl) ?_
  refine zn_l (N' := 859) hx hb (hts _ zk_ac_long) hK hP hD hS hA (by decide) (Nat.le_of_ble_eq_true rfl) (Nat.le_of_ble_eq_true rfl) ps_d_init_58 (fun q_4 H hP hD hS => ?_)
  have hP : va_P (dC, dI) zz_cl [(o, .inr (1, [.int (nI 3), .int (nI 9), .int (nI 1), .null, .null, .int (nI 0), .int (nI 0)])), (q_4, .inl (cA 1, 859, .inr (.inl (lA (fun _ => 0)))))] H := hP
  have hD : va_D A [(o, .inr (1, [.int (nI 3), .int (nI 9), .int (nI 1), .null, .null, .int (nI 0), .int (nI 0)])), (q_4, .inl (cA 1, 859, .inr (.inl (lA (fun _ => 0)))))] := hD
  refine va_putF (D := (dC, dI)) (ci := 1) (v := .ref q_4) (ty := .array .long) (C := ps_R) (T := ps_T) (N := 7) hx hb hts ps_in ps_t ps_ok ps_nm hown hK hP hD hS 0 rfl rfl 3 (by decide) (hts _ zk_ps26) (fun _ h9 => h9) rfl hin rfl (by decide +kernel) rfl rfl (Nat.le_of_ble_eq_true rfl) ps_d_init_60 (fun H locs hP hD hS => ?_)
  have hP : va_P (dC, dI) zz_cl [(o, .inr (1, [.int (nI 3), .int (nI 9), .int (nI 1), .ref q_4, .null, .int (nI 0), .int (nI 0)])), (q_4, .inl (cA 1, 859, .inr (.inl (lA (fun _ => 0)))))] H := hP
  have hD : va_D A [(o, .inr (1, [.int (nI 3), .int (nI 9), .int (nI 1), .ref q_4, .null, .int (nI 0), .int (nI 0)])), (q_4, .inl (cA 1, 859, .inr (.inl (lA (fun _ => 0)))))] := hD
  refine lv_aload_n hx hb ps_d_init_63 rfl (lv_at hl 1 rfl) ?_
  refine lv_iconst (v := (nI 1)) hx hb ps_d_init_64 (by decide) ?_
  refine lv_iload_n hx hb ps_d_init_65 rfl (lv_at hl 0 rfl) ?_
  refine lv_ishl hx hb ps_d_init_66 ?_
  refine zt_i (y := nI 65536) (by decide) ?_
  refine lv_iconst (v := (nI 5)) hx hb ps_d_init_67 (by decide) ?_
  refine lv_ishr hx hb ps_d_init_68 ?_
  refine zt_i (y := nI 2048) (by decide) ?_
  refine lv_iconst (v := (nI 1)) hx hb ps_d_init_69 (by decide) ?_
  refine lv_iadd hx hb ps_d_init_70 ?_
  refine zt_i (y := nI 2049) (by decide) ?_
  refine zn_i (N' := 2049) hx hb (hts _ zk_ac_int) hK hP hD hS hA (by decide) (Nat.le_of_ble_eq_true rfl) (Nat.le_of_ble_eq_true rfl) ps_d_init_71 (fun q_5 H hP hD hS => ?_)
  have hP : va_P (dC, dI) zz_cl [(o, .inr (1, [.int (nI 3), .int (nI 9), .int (nI 1), .ref q_4, .null, .int (nI 0), .int (nI 0)])), (q_4, .inl (cA 1, 859, .inr (.inl (lA (fun _ => 0))))), (q_5, .inl (cA 0, 2049, .inl (nA (fun _ => 0))))] H := hP
  have hD : va_D A [(o, .inr (1, [.int (nI 3), .int (nI 9), .int (nI 1), .ref q_4, .null, .int (nI 0), .int (nI 0)])), (q_4, .inl (cA 1, 859, .inr (.inl (lA (fun _ => 0))))), (q_5, .inl (cA 0, 2049, .inl (nA (fun _ => 0))))] := hD
  refine va_putF (D := (dC, dI)) (ci := 1) (v := .ref q_5) (ty := .array .int) (C := ps_R) (T := ps_T) (N := 7) hx hb hts ps_in ps_t ps_ok ps_nm hown hK hP hD hS 0 rfl rfl 4 (by decide) (hts _ zk_ps30) (fun _ h9 => h9) rfl hin rfl (by decide +kernel) rfl rfl (Nat.le_of_ble_eq_true rfl) ps_d_init_73 (fun H locs hP hD hS => ?_)
  have hP : va_P (dC, dI) zz_cl [(o, .inr (1, [.int (nI 3), .int (nI 9), .int (nI 1), .ref q_4, .ref q_5, .int (nI 0), .int (nI 0)])), (q_4, .inl (cA 1, 859, .inr (.inl (lA (fun _ => 0))))), (q_5, .inl (cA 0, 2049, .inl (nA (fun _ => 0))))] H := hP
  have hD : va_D A [(o, .inr (1, [.int (nI 3), .int (nI 9), .int (nI 1), .ref q_4, .ref q_5, .int (nI 0), .int (nI 0)])), (q_4, .inl (cA 1, 859, .inr (.inl (lA (fun _ => 0))))), (q_5, .inl (cA 0, 2049, .inl (nA (fun _ => 0))))] := hD
  refine lv_iconst (v := (nI 0)) hx hb ps_d_init_76 (by decide) ?_
  refine lv_istore_n (lv' := [(3, .int (nI 0)), (2, .int (nI 16)), (0, .ref o), (1, .int (nI 3))]) hx hb ps_d_init_77 rfl hl (by decide) rfl (fun ls hl => ?_)
  refine lv_iconst (v := (nI 0)) hx hb ps_d_init_78 (by decide) ?_
  refine lv_istore (lv' := [(4, .int (nI 0)), (3, .int (nI 0)), (2, .int (nI 16)), (0, .ref o), (1, .int (nI 3))]) hx hb ps_d_init_79 hl (by decide) rfl (fun ls hl => ?_)
  refine lv_iload hx hb ps_d_init_81 (lv_at hl 0 rfl) ?_
  refine lv_iload_n hx hb ps_d_init_83 rfl (lv_at hl 4 rfl) ?_
  refine zc_ge (tgt := 105) hx hb ps_d_init_84 (by decide) (by omega) (by omega) (fun c_6 => absurd c_6 (by omega)) (fun c_6 => ?_)
  refine lv_aload_n hx hb ps_d_init_87 rfl (lv_at hl 3 rfl) ?_
  refine lv_iload_n hx hb ps_d_init_88 rfl (lv_at hl 1 rfl) ?_
  refine lv_iload hx hb ps_d_init_89 (lv_at hl 0 rfl) ?_
  refine lv_iconst (v := (nI 1)) hx hb ps_d_init_91 (by decide) ?_
  refine lv_iload hx hb ps_d_init_92 (lv_at hl 0 rfl) ?_
  refine lv_ishl hx hb ps_d_init_94 ?_
  refine zt_i (y := nI 1) (by decide) ?_
  refine zq_Vi (n := 3) (As := [.int (nI 0), .int (nI 0), .int (nI 1)]) (rest := []) ⟨hx, hb, hml, hown, hts⟩ (ps_withParity l dC dI cA o q_4 q_5 3 9 1 0 0 0 0 1 hn1 hn hmb hmk (by decide) (by omega) (by decide)) zg_ps33 (by decide +kernel) ⟨rfl, rfl⟩ ⟨Nat.le_of_ble_eq_true rfl, Nat.le_of_ble_eq_true rfl⟩ hK (hP.sub (ws' := [(o, .inr (1, [.int (nI 3), .int (nI 9), .int (nI 1), .ref q_4, .ref q_5, .int (nI 0), .int (nI 0)]))]) [0] rfl) 1 0 rfl rfl rfl rfl hl.1 rfl (Nat.le_of_ble_eq_true rfl) ps_d_init_95 (fun r_7 h_8 => ?_) ⟨Nat.le_of_ble_eq_true rfl, Nat.le_of_ble_eq_true rfl⟩
  subst h_8
  refine zt_i (show nI (bn_with 3 0 0 1) = nI 513 from congrArg nI (by decide +kernel)) ?_
  refine lv_istore_n (lv' := [(3, .int (nI 513)), (4, .int (nI 0)), (2, .int (nI 16)), (0, .ref o), (1, .int (nI 3))]) hx hb ps_d_init_98 rfl hl (by decide) rfl (fun ls hl => ?_)
  refine lv_iinc (v := (nI 1)) (lv' := [(4, .int (nI 1)), (3, .int (nI 513)), (2, .int (nI 16)), (0, .ref o), (1, .int (nI 3))]) hx hb ps_d_init_99 hl (k := 1) rfl (by decide) (by decide) rfl (fun ls hl => ?_)
  refine lv_goto (tgt := 81) hx hb ps_d_init_102 (by decide) ?_
  refine lv_iload hx hb ps_d_init_81 (lv_at hl 0 rfl) ?_
  refine lv_iload_n hx hb ps_d_init_83 rfl (lv_at hl 4 rfl) ?_
  refine zc_ge (tgt := 105) hx hb ps_d_init_84 (by decide) (by omega) (by omega) (fun c_9 => absurd c_9 (by omega)) (fun c_9 => ?_)
  refine lv_aload_n hx hb ps_d_init_87 rfl (lv_at hl 3 rfl) ?_
  refine lv_iload_n hx hb ps_d_init_88 rfl (lv_at hl 1 rfl) ?_
  refine lv_iload hx hb ps_d_init_89 (lv_at hl 0 rfl) ?_
  refine lv_iconst (v := (nI 1)) hx hb ps_d_init_91 (by decide) ?_
  refine lv_iload hx hb ps_d_init_92 (lv_at hl 0 rfl) ?_
  refine lv_ishl hx hb ps_d_init_94 ?_
  refine zt_i (y := nI 2) (by decide) ?_
  refine zq_Vi (n := 3) (As := [.int (nI 513), .int (nI 1), .int (nI 2)]) (rest := []) ⟨hx, hb, hml, hown, hts⟩ (ps_withParity l dC dI cA o q_4 q_5 3 9 1 0 0 513 1 2 hn1 hn hmb hmk (by decide) (by omega) (by decide)) zg_ps33 (by decide +kernel) ⟨rfl, rfl⟩ ⟨Nat.le_of_ble_eq_true rfl, Nat.le_of_ble_eq_true rfl⟩ hK (hP.sub (ws' := [(o, .inr (1, [.int (nI 3), .int (nI 9), .int (nI 1), .ref q_4, .ref q_5, .int (nI 0), .int (nI 0)]))]) [0] rfl) 1 0 rfl rfl rfl rfl hl.1 rfl (Nat.le_of_ble_eq_true rfl) ps_d_init_95 (fun r_10 h_11 => ?_) ⟨Nat.le_of_ble_eq_true rfl, Nat.le_of_ble_eq_true rfl⟩
  subst h_11
  refine zt_i (show nI (bn_with 3 513 1 2) = nI 1553 from congrArg nI (by decide +kernel)) ?_
  refine lv_istore_n (lv' := [(3, .int (nI 1553)), (4, .int (nI 1)), (2, .int (nI 16)), (0, .ref o), (1, .int (nI 3))]) hx hb ps_d_init_98 rfl hl (by decide) rfl (fun ls hl => ?_)
  refine lv_iinc (v := (nI 2)) (lv' := [(4, .int (nI 2)), (3, .int (nI 1553)), (2, .int (nI 16)), (0, .ref o), (1, .int (nI 3))]) hx hb ps_d_init_99 hl (k := 1) rfl (by decide) (by decide) rfl (fun ls hl => ?_)
  refine lv_goto (tgt := 81) hx hb ps_d_init_102 (by decide) ?_
  refine lv_iload hx hb ps_d_init_81 (lv_at hl 0 rfl) ?_
  refine lv_iload_n hx hb ps_d_init_83 rfl (lv_at hl 4 rfl) ?_
  refine zc_ge (tgt := 105) hx hb ps_d_init_84 (by decide) (by omega) (by omega) (fun c_12 => absurd c_12 (by omega)) (fun c_12 => ?_)
  refine lv_aload_n hx hb ps_d_init_87 rfl (lv_at hl 3 rfl) ?_
  refine lv_iload_n hx hb ps_d_init_88 rfl (lv_at hl 1 rfl) ?_
  refine lv_iload hx hb ps_d_init_89 (lv_at hl 0 rfl) ?_
  refine lv_iconst (v := (nI 1)) hx hb ps_d_init_91 (by decide) ?_
  refine lv_iload hx hb ps_d_init_92 (lv_at hl 0 rfl) ?_
  refine lv_ishl hx hb ps_d_init_94 ?_
  refine zt_i (y := nI 4) (by decide) ?_
  refine zq_Vi (n := 3) (As := [.int (nI 1553), .int (nI 2), .int (nI 4)]) (rest := []) ⟨hx, hb, hml, hown, hts⟩ (ps_withParity l dC dI cA o q_4 q_5 3 9 1 0 0 1553 2 4 hn1 hn hmb hmk (by decide) (by omega) (by decide)) zg_ps33 (by decide +kernel) ⟨rfl, rfl⟩ ⟨Nat.le_of_ble_eq_true rfl, Nat.le_of_ble_eq_true rfl⟩ hK (hP.sub (ws' := [(o, .inr (1, [.int (nI 3), .int (nI 9), .int (nI 1), .ref q_4, .ref q_5, .int (nI 0), .int (nI 0)]))]) [0] rfl) 1 0 rfl rfl rfl rfl hl.1 rfl (Nat.le_of_ble_eq_true rfl) ps_d_init_95 (fun r_13 h_14 => ?_) ⟨Nat.le_of_ble_eq_true rfl, Nat.le_of_ble_eq_true rfl⟩
  subst h_14
  refine zt_i (show nI (bn_with 3 1553 2 4) = nI 5905 from congrArg nI (by decide +kernel)) ?_
  refine lv_istore_n (lv' := [(3, .int (nI 5905)), (4, .int (nI 2)), (2, .int (nI 16)), (0, .ref o), (1, .int (nI 3))]) hx hb ps_d_init_98 rfl hl (by decide) rfl (fun ls hl => ?_)
  refine lv_iinc (v := (nI 3)) (lv' := [(4, .int (nI 3)), (3, .int (nI 5905)), (2, .int (nI 16)), (0, .ref o), (1, .int (nI 3))]) hx hb ps_d_init_99 hl (k := 1) rfl (by decide) (by decide) rfl (fun ls hl => ?_)
  refine lv_goto (tgt := 81) hx hb ps_d_init_102 (by decide) ?_
  refine lv_iload hx hb ps_d_init_81 (lv_at hl 0 rfl) ?_
  refine lv_iload_n hx hb ps_d_init_83 rfl (lv_at hl 4 rfl) ?_
  refine zc_ge (tgt := 105) hx hb ps_d_init_84 (by decide) (by omega) (by omega) (fun c_15 => ?_) (fun c_15 => absurd c_15 (by omega))
  refine lv_aload_n hx hb ps_d_init_105 rfl (lv_at hl 3 rfl) ?_
  refine lv_iload_n hx hb ps_d_init_106 rfl (lv_at hl 1 rfl) ?_
  refine lv_iconst (v := (nI 0)) hx hb ps_d_init_107 (by decide) ?_
  refine lv_iconst (v := (nI 0)) hx hb ps_d_init_108 (by decide) ?_
  refine zq_Vwv (n := 3) (As := [.int (nI 5905), .int (nI 0), .int (nI 0)]) (rest := []) (wc := [(o, .inr (1, [.int (nI 3), .int (nI 9), .int (nI 1), .ref q_4, .ref q_5, .int (nI 0), .int (nI 0)])), (q_4, .inl (cA 1, 859, .inr (.inl (lA (fun _ => 0))))), (q_5, .inl (cA 0, 2049, .inl (nA (fun _ => 0))))]) (wr := []) ⟨hx, hb, hml, hown, hts⟩ (ps_meet l dC dI cA _ o q_4 q_5 3 9 1 0 0 859 2049 5905 0 0 (fun _ => 0) (fun _ => 0) (fun _ => 0) (by decide) (by decide) (by decide) (by decide) (by decide) (by decide) (by decide) (zp_met0 _) (fun _ => by decide)) zg_ps37 (by decide +kernel) ⟨rfl, rfl⟩ ⟨Nat.le_of_ble_eq_true rfl, Nat.le_of_ble_eq_true rfl⟩ hK hP hD hS hA hZ [0, 1, 2] [] rfl rfl (by decide) 1 0 rfl rfl rfl rfl hl.1 rfl (Nat.le_of_ble_eq_true rfl) ps_d_init_109 (fun u_18 H locs h_17 hP hD hS => ?_) ⟨Nat.le_of_ble_eq_true rfl, Nat.le_of_ble_eq_true rfl⟩
  rcases h_17 with ⟨hold, rfl⟩ | ⟨hnew, rfl⟩
  · obtain ⟨i, hi, -⟩ := hold
    exact absurd hi (Nat.not_lt_zero _)
  · have hP : va_P (dC, dI) zz_cl [(o, .inr (1, [.int (nI 3), .int (nI 9), .int (nI 1), .ref q_4, .ref q_5, .int (nI (0 + 1)), .int (nI 0)])), (q_4, .inl (cA 1, 859, .inr (.inl (lA (va_up (fun _ => 0) 0 (5905 * 2 ^ 20 + 0 * 16 + 0)))))), (q_5, .inl (cA 0, 2049, .inl (nA (va_up (fun _ => 0) (5905 / 32) (((fun _ => 0) (5905 / 32)) ||| 2 ^ (5905 % 32))))))] H := hP
    have hD : va_D A [(o, .inr (1, [.int (nI 3), .int (nI 9), .int (nI 1), .ref q_4, .ref q_5, .int (nI (0 + 1)), .int (nI 0)])), (q_4, .inl (cA 1, 859, .inr (.inl (lA (va_up (fun _ => 0) 0 (5905 * 2 ^ 20 + 0 * 16 + 0)))))), (q_5, .inl (cA 0, 2049, .inl (nA (va_up (fun _ => 0) (5905 / 32) (((fun _ => 0) (5905 / 32)) ||| 2 ^ (5905 % 32))))))] := hD
    have hP9 := hP.sub (ws' := [(o, .inr (1, [.int (nI 3), .int (nI 9), .int (nI 1), .ref q_4, .ref q_5, .int (nI (0 + 1)), .int (nI 0)])), (q_4, .inl (cA 1, 859, .inr (.inl (lA (va_up (fun _ => 0) 0 (5905 * 2 ^ 20 + 0 * 16 + 0)))))), (q_5, .inl (cA 0, 2049, .inl (nA (va_up (fun _ => 0) (5905 / 32) (((fun _ => 0) (5905 / 32)) ||| 2 ^ (5905 % 32))))))]) [0, 1, 2] rfl
    have hD9 := hD.sub (ws' := [(o, .inr (1, [.int (nI 3), .int (nI 9), .int (nI 1), .ref q_4, .ref q_5, .int (nI (0 + 1)), .int (nI 0)])), (q_4, .inl (cA 1, 859, .inr (.inl (lA (va_up (fun _ => 0) 0 (5905 * 2 ^ 20 + 0 * 16 + 0)))))), (q_5, .inl (cA 0, 2049, .inl (nA (va_up (fun _ => 0) (5905 / 32) (((fun _ => 0) (5905 / 32)) ||| 2 ^ (5905 % 32))))))]) [0, 1, 2] (by decide) rfl
    refine W.widen (k := 2) (n := 2908) (Nat.le_of_ble_eq_true rfl) (Nat.le_of_ble_eq_true rfl) ?_
    exact W.vret hx hb hr (fun t ht hW => ⟨⟨(q_4, q_5, va_up (fun _ => 0) 0 (5905 * 2 ^ 20 + 0 * 16 + 0), va_up (fun _ => 0) (5905 / 32) (((fun _ => 0) (5905 / 32)) ||| 2 ^ (5905 % 32))), rfl, zp_I0 bn_st3 (by decide), by rw [ht]; exact hP9, hD9⟩, hS.F ht⟩) hS.2.2 ps_d_init_112
set_option maxHeartbeats 4000000 in
set_option maxRecDepth 100000 in
/-- PlanSearch(4) -/
theorem ps_init4 (l : Launch) (dC : Nat → ClassId) (dI : Nat → Nat → Nat) (cA : Nat → ClassId) (sz : Nat) (o : Nat)  : Met l ps_y_init ps_w_init ({ frames := 2, cells := 2, slots := 22209, locals := 46 }) (va_Pc [.ref o, .int (nI 4)] (zB (dC, dI) cA [(o, .inr (1, [.int (nI 0), .int (nI 0), .int (nI 0), .null, .null, .int (nI 0), .int (nI 0)]))] sz)) (va_Qv (fun (u : Nat × Nat × (Nat → Nat) × (Nat → Nat)) => zp_I 4 (fun _ => 33825) (fun _ => 0) (fun _ => 0) (fun _ => []) u.2.2.1 u.2.2.2 1 0) (fun u t => zE (dC, dI) (va_A [(o, .inr (1, [.int (nI 0), .int (nI 0), .int (nI 0), .null, .null, .int (nI 0), .int (nI 0)]))] sz) ((fun (u : Nat × Nat × (Nat → Nat) × (Nat → Nat)) => [(o, .inr (1, [.int (nI 4), .int (nI 16), .int (nI 0), .ref u.1, .ref u.2.1, .int (nI 1), .int (nI 0)])), (u.1, .inl (cA 1, 20160, .inr (.inl (lA u.2.2.1)))), (u.2.1, .inl (cA 0, 2049, .inl (nA u.2.2.2)))]) u) t) (va_A [(o, .inr (1, [.int (nI 0), .int (nI 0), .int (nI 0), .null, .null, .int (nI 0), .int (nI 0)]))] sz)) 2 22209 (va_A [(o, .inr (1, [.int (nI 0), .int (nI 0), .int (nI 0), .null, .null, .int (nI 0), .int (nI 0)]))] sz) := by
  refine Met.ofW (cc := ps_c_init) (maxL := 5) (ret := (none : Option Jvm.ClassFile.FieldType)) (by decide) rfl ?_
  intro p e s m args below meth c s₁ B hml hv
  obtain ⟨rfl, hsz, hP, hK, hD0, hZ⟩ := hv
  have hx := B.exec
  have hb := B.bytes
  have hr := B.returns
  have hts0 := atoms_spec (ws := ps_w_init) B.pre
  have hts : ∀ w ∈ zz_tbl, w.before _ s = true := fun w h => hts0 w (List.mem_cons_of_mem _ h)
  have hown : s.vm.findClass ps_R = some m.cls := findClass_of_methodNamed B.named
  have hlocks := B.notSynchronized
  have hin : meth.name = "<init>" := (name_of_methodNamed B.named B.method).1
  subst hsz
  have hD := hD0.self (sz := s.heap.size)
  generalize hAe : va_A [(o, .inr (1, [.int (nI 0), .int (nI 0), .int (nI 0), .null, .null, .int (nI 0), .int (nI 0)]))] s.heap.size = A at hD hZ ⊢
  have hA : ∀ q : Nat, s.heap.size ≤ q → A q := fun q h => by rw [← hAe]; exact Or.inr h
  have hS : va_S A s.heap s.heap [] := va_S.rf
  have hP : va_P (dC, dI) zz_cl [(o, .inr (1, [.int (nI 0), .int (nI 0), .int (nI 0), .null, .null, .int (nI 0), .int (nI 0)]))] s.heap := hP
  have hl := lv_entry ([.ref o, .int (nI 4)]) (n := 5) (Nat.le_of_ble_eq_true rfl)
  rw [lg_entry_eq]
  generalize (lg_sl ([.ref o, .int (nI 4)]) ++ List.replicate (5 - (lg_sl ([.ref o, .int (nI 4)])).length) Slot.unset).toArray = ls at hl ⊢
  have hl : lv_has ls 5 [(0, .ref o), (1, .int (nI 4))] := hl
  have hn1 : 1 ≤ 4 := by decide
  have hn : 4 ≤ 4 := by decide
  have hmb : 16 = 4 * 4 := by decide
  have hmk : 0 = if 4 < 4 then 1 else 0 := by decide
  refine lv_aload_n hx hb ps_d_init_0 rfl (lv_at hl 0 rfl) ?_
  refine W.objInit hx hb hown (hts _ zk_ps3) (hts _ zk_im_object) (hts _ zk_cd_object) rfl (by rw [hml]; exact hl.1) rfl ps_d_init_1 (Nat.le_of_ble_eq_true rfl) (Nat.le_of_ble_eq_true rfl) ?_
  refine W.eq (g2 := F0 m 4 ls []) rfl ?_
  refine lv_aload_n hx hb ps_d_init_4 rfl (lv_at hl 0 rfl) ?_
  refine lv_iload_n hx hb ps_d_init_5 rfl (lv_at hl 1 rfl) ?_
  refine va_putF (D := (dC, dI)) (ci := 1) (v := .int (nI 4)) (ty := .int) (C := ps_R) (T := ps_T) (N := 7) hx hb hts ps_in ps_t ps_ok ps_nm hown hK hP hD hS 0 rfl rfl 0 (by decide) (hts _ zk_ps9) (fun _ h9 => h9) rfl hin rfl (by decide +kernel) rfl rfl (Nat.le_of_ble_eq_true rfl) ps_d_init_6 (fun H locs hP hD hS => ?_)
  have hP : va_P (dC, dI) zz_cl [(o, .inr (1, [.int (nI 4), .int (nI 0), .int (nI 0), .null, .null, .int (nI 0), .int (nI 0)]))] H := hP
  have hD : va_D A [(o, .inr (1, [.int (nI 4), .int (nI 0), .int (nI 0), .null, .null, .int (nI 0), .int (nI 0)]))] := hD
  refine lv_aload_n hx hb ps_d_init_9 rfl (lv_at hl 0 rfl) ?_
  refine lv_iload_n hx hb ps_d_init_10 rfl (lv_at hl 1 rfl) ?_
  refine lv_iload_n hx hb ps_d_init_11 rfl (lv_at hl 1 rfl) ?_
  refine lv_imul hx hb ps_d_init_12 ?_
  refine zt_i (y := nI 16) (by decide) ?_
  refine va_putF (D := (dC, dI)) (ci := 1) (v := .int (nI 16)) (ty := .int) (C := ps_R) (T := ps_T) (N := 7) hx hb hts ps_in ps_t ps_ok ps_nm hown hK hP hD hS 0 rfl rfl 1 (by decide) (hts _ zk_ps15) (fun _ h9 => h9) rfl hin rfl (by decide +kernel) rfl rfl (Nat.le_of_ble_eq_true rfl) ps_d_init_13 (fun H locs hP hD hS => ?_)
  have hP : va_P (dC, dI) zz_cl [(o, .inr (1, [.int (nI 4), .int (nI 16), .int (nI 0), .null, .null, .int (nI 0), .int (nI 0)]))] H := hP
  have hD : va_D A [(o, .inr (1, [.int (nI 4), .int (nI 16), .int (nI 0), .null, .null, .int (nI 0), .int (nI 0)]))] := hD
  refine lv_aload_n hx hb ps_d_init_16 rfl (lv_at hl 0 rfl) ?_
  refine lv_iload_n hx hb ps_d_init_17 rfl (lv_at hl 1 rfl) ?_
  refine lv_iconst (v := (nI 4)) hx hb ps_d_init_18 (by decide) ?_
  refine zc_ge (tgt := 26) hx hb ps_d_init_19 (by decide) (by omega) (by omega) (fun c_1 => ?_) (fun c_1 => absurd c_1 (by omega))
  refine lv_iconst (v := (nI 0)) hx hb ps_d_init_26 (by decide) ?_
  refine va_putF (D := (dC, dI)) (ci := 1) (v := .int (nI 0)) (ty := .boolean) (C := ps_R) (T := ps_T) (N := 7) hx hb hts ps_in ps_t ps_ok ps_nm hown hK hP hD hS 0 rfl rfl 2 (by decide) (hts _ zk_ps18) (fun _ h9 => h9) rfl hin rfl (by decide +kernel) rfl rfl (Nat.le_of_ble_eq_true rfl) ps_d_init_27 (fun H locs hP hD hS => ?_)
  have hP : va_P (dC, dI) zz_cl [(o, .inr (1, [.int (nI 4), .int (nI 16), .int (nI 0), .null, .null, .int (nI 0), .int (nI 0)]))] H := hP
  have hD : va_D A [(o, .inr (1, [.int (nI 4), .int (nI 16), .int (nI 0), .null, .null, .int (nI 0), .int (nI 0)]))] := hD
  refine lv_aload_n hx hb ps_d_init_30 rfl (lv_at hl 0 rfl) ?_
  refine va_get (D := (dC, dI)) (ci := 1) (v := .int (nI 16)) (C := ps_R) (T := ps_T) (N := 7) hx hb hts ps_in hown hK hP 0 rfl rfl 1 (by decide) (hts _ zk_ps15) (fun _ h9 => h9) rfl ps_d_init_31 ?_
  refine lv_aload_n hx hb ps_d_init_34 rfl (lv_at hl 0 rfl) ?_
  refine va_get (D := (dC, dI)) (ci := 1) (v := .int (nI 0)) (C := ps_R) (T := ps_T) (N := 7) hx hb hts ps_in hown hK hP 0 rfl rfl 2 (by decide) (hts _ zk_ps18) (fun _ h9 => h9) rfl ps_d_init_35 ?_
  refine zi_eq (tgt := 49) hx hb ps_d_init_38 (by decide) (by omega) (fun c_2 => ?_) (fun c_2 => absurd c_2 (by omega))
  refine lv_iconst (v := (nI 0)) hx hb ps_d_init_49 (by decide) ?_
  refine lv_iadd hx hb ps_d_init_50 ?_
  refine zt_i (y := nI 16) (by decide) ?_
  refine lv_istore_n (lv' := [(2, .int (nI 16)), (0, .ref o), (1, .int (nI 4))]) hx hb ps_d_init_51 rfl hl (by decide) rfl (fun ls hl => ?_)
  refine lv_aload_n hx hb ps_d_init_52 rfl (lv_at hl 1 rfl) ?_
  refine zs_get hx hb hZ.2.2.2 hS hown (hts _ zk_ps22) ps_d_init_53 (fun t_3 ht_3 => ?_)
  refine lv_iload_n hx hb ps_d_init_56 rfl (lv_at hl 2 rfl) ?_
  refine zs_ald hx hb ht_3 hS (k := 4) (by omega) (by decide) ps_d_init_57 ?_
  refine zt_i (show nI (zs_states 4) = nI 20160 from rfl) ?_
  refine zn_l (N' := 20160) hx hb (hts _ zk_ac_long) hK hP hD hS hA (by decide) (Nat.le_of_ble_eq_true rfl) (Nat.le_of_ble_eq_true rfl) ps_d_init_58 (fun q_4 H hP hD hS => ?_)
  have hP : va_P (dC, dI) zz_cl [(o, .inr (1, [.int (nI 4), .int (nI 16), .int (nI 0), .null, .null, .int (nI 0), .int (nI 0)])), (q_4, .inl (cA 1, 20160, .inr (.inl (lA (fun _ => 0)))))] H := hP
  have hD : va_D A [(o, .inr (1, [.int (nI 4), .int (nI 16), .int (nI 0), .null, .null, .int (nI 0), .int (nI 0)])), (q_4, .inl (cA 1, 20160, .inr (.inl (lA (fun _ => 0)))))] := hD
  refine va_putF (D := (dC, dI)) (ci := 1) (v := .ref q_4) (ty := .array .long) (C := ps_R) (T := ps_T) (N := 7) hx hb hts ps_in ps_t ps_ok ps_nm hown hK hP hD hS 0 rfl rfl 3 (by decide) (hts _ zk_ps26) (fun _ h9 => h9) rfl hin rfl (by decide +kernel) rfl rfl (Nat.le_of_ble_eq_true rfl) ps_d_init_60 (fun H locs hP hD hS => ?_)
  have hP : va_P (dC, dI) zz_cl [(o, .inr (1, [.int (nI 4), .int (nI 16), .int (nI 0), .ref q_4, .null, .int (nI 0), .int (nI 0)])), (q_4, .inl (cA 1, 20160, .inr (.inl (lA (fun _ => 0)))))] H := hP
  have hD : va_D A [(o, .inr (1, [.int (nI 4), .int (nI 16), .int (nI 0), .ref q_4, .null, .int (nI 0), .int (nI 0)])), (q_4, .inl (cA 1, 20160, .inr (.inl (lA (fun _ => 0)))))] := hD
  refine lv_aload_n hx hb ps_d_init_63 rfl (lv_at hl 1 rfl) ?_
  refine lv_iconst (v := (nI 1)) hx hb ps_d_init_64 (by decide) ?_
  refine lv_iload_n hx hb ps_d_init_65 rfl (lv_at hl 0 rfl) ?_
  refine lv_ishl hx hb ps_d_init_66 ?_
  refine zt_i (y := nI 65536) (by decide) ?_
  refine lv_iconst (v := (nI 5)) hx hb ps_d_init_67 (by decide) ?_
  refine lv_ishr hx hb ps_d_init_68 ?_
  refine zt_i (y := nI 2048) (by decide) ?_
  refine lv_iconst (v := (nI 1)) hx hb ps_d_init_69 (by decide) ?_
  refine lv_iadd hx hb ps_d_init_70 ?_
  refine zt_i (y := nI 2049) (by decide) ?_
  refine zn_i (N' := 2049) hx hb (hts _ zk_ac_int) hK hP hD hS hA (by decide) (Nat.le_of_ble_eq_true rfl) (Nat.le_of_ble_eq_true rfl) ps_d_init_71 (fun q_5 H hP hD hS => ?_)
  have hP : va_P (dC, dI) zz_cl [(o, .inr (1, [.int (nI 4), .int (nI 16), .int (nI 0), .ref q_4, .null, .int (nI 0), .int (nI 0)])), (q_4, .inl (cA 1, 20160, .inr (.inl (lA (fun _ => 0))))), (q_5, .inl (cA 0, 2049, .inl (nA (fun _ => 0))))] H := hP
  have hD : va_D A [(o, .inr (1, [.int (nI 4), .int (nI 16), .int (nI 0), .ref q_4, .null, .int (nI 0), .int (nI 0)])), (q_4, .inl (cA 1, 20160, .inr (.inl (lA (fun _ => 0))))), (q_5, .inl (cA 0, 2049, .inl (nA (fun _ => 0))))] := hD
  refine va_putF (D := (dC, dI)) (ci := 1) (v := .ref q_5) (ty := .array .int) (C := ps_R) (T := ps_T) (N := 7) hx hb hts ps_in ps_t ps_ok ps_nm hown hK hP hD hS 0 rfl rfl 4 (by decide) (hts _ zk_ps30) (fun _ h9 => h9) rfl hin rfl (by decide +kernel) rfl rfl (Nat.le_of_ble_eq_true rfl) ps_d_init_73 (fun H locs hP hD hS => ?_)
  have hP : va_P (dC, dI) zz_cl [(o, .inr (1, [.int (nI 4), .int (nI 16), .int (nI 0), .ref q_4, .ref q_5, .int (nI 0), .int (nI 0)])), (q_4, .inl (cA 1, 20160, .inr (.inl (lA (fun _ => 0))))), (q_5, .inl (cA 0, 2049, .inl (nA (fun _ => 0))))] H := hP
  have hD : va_D A [(o, .inr (1, [.int (nI 4), .int (nI 16), .int (nI 0), .ref q_4, .ref q_5, .int (nI 0), .int (nI 0)])), (q_4, .inl (cA 1, 20160, .inr (.inl (lA (fun _ => 0))))), (q_5, .inl (cA 0, 2049, .inl (nA (fun _ => 0))))] := hD
  refine lv_iconst (v := (nI 0)) hx hb ps_d_init_76 (by decide) ?_
  refine lv_istore_n (lv' := [(3, .int (nI 0)), (2, .int (nI 16)), (0, .ref o), (1, .int (nI 4))]) hx hb ps_d_init_77 rfl hl (by decide) rfl (fun ls hl => ?_)
  refine lv_iconst (v := (nI 0)) hx hb ps_d_init_78 (by decide) ?_
  refine lv_istore (lv' := [(4, .int (nI 0)), (3, .int (nI 0)), (2, .int (nI 16)), (0, .ref o), (1, .int (nI 4))]) hx hb ps_d_init_79 hl (by decide) rfl (fun ls hl => ?_)
  refine lv_iload hx hb ps_d_init_81 (lv_at hl 0 rfl) ?_
  refine lv_iload_n hx hb ps_d_init_83 rfl (lv_at hl 4 rfl) ?_
  refine zc_ge (tgt := 105) hx hb ps_d_init_84 (by decide) (by omega) (by omega) (fun c_6 => absurd c_6 (by omega)) (fun c_6 => ?_)
  refine lv_aload_n hx hb ps_d_init_87 rfl (lv_at hl 3 rfl) ?_
  refine lv_iload_n hx hb ps_d_init_88 rfl (lv_at hl 1 rfl) ?_
  refine lv_iload hx hb ps_d_init_89 (lv_at hl 0 rfl) ?_
  refine lv_iconst (v := (nI 1)) hx hb ps_d_init_91 (by decide) ?_
  refine lv_iload hx hb ps_d_init_92 (lv_at hl 0 rfl) ?_
  refine lv_ishl hx hb ps_d_init_94 ?_
  refine zt_i (y := nI 1) (by decide) ?_
  refine zq_Vi (n := 3) (As := [.int (nI 0), .int (nI 0), .int (nI 1)]) (rest := []) ⟨hx, hb, hml, hown, hts⟩ (ps_withParity l dC dI cA o q_4 q_5 4 16 0 0 0 0 0 1 hn1 hn hmb hmk (by decide) (by omega) (by decide)) zg_ps33 (by decide +kernel) ⟨rfl, rfl⟩ ⟨Nat.le_of_ble_eq_true rfl, Nat.le_of_ble_eq_true rfl⟩ hK (hP.sub (ws' := [(o, .inr (1, [.int (nI 4), .int (nI 16), .int (nI 0), .ref q_4, .ref q_5, .int (nI 0), .int (nI 0)]))]) [0] rfl) 1 0 rfl rfl rfl rfl hl.1 rfl (Nat.le_of_ble_eq_true rfl) ps_d_init_95 (fun r_7 h_8 => ?_) ⟨Nat.le_of_ble_eq_true rfl, Nat.le_of_ble_eq_true rfl⟩
  subst h_8
  refine zt_i (show nI (bn_with 4 0 0 1) = nI 1 from congrArg nI (by decide +kernel)) ?_
  refine lv_istore_n (lv' := [(3, .int (nI 1)), (4, .int (nI 0)), (2, .int (nI 16)), (0, .ref o), (1, .int (nI 4))]) hx hb ps_d_init_98 rfl hl (by decide) rfl (fun ls hl => ?_)
  refine lv_iinc (v := (nI 1)) (lv' := [(4, .int (nI 1)), (3, .int (nI 1)), (2, .int (nI 16)), (0, .ref o), (1, .int (nI 4))]) hx hb ps_d_init_99 hl (k := 1) rfl (by decide) (by decide) rfl (fun ls hl => ?_)
  refine lv_goto (tgt := 81) hx hb ps_d_init_102 (by decide) ?_
  refine lv_iload hx hb ps_d_init_81 (lv_at hl 0 rfl) ?_
  refine lv_iload_n hx hb ps_d_init_83 rfl (lv_at hl 4 rfl) ?_
  refine zc_ge (tgt := 105) hx hb ps_d_init_84 (by decide) (by omega) (by omega) (fun c_9 => absurd c_9 (by omega)) (fun c_9 => ?_)
  refine lv_aload_n hx hb ps_d_init_87 rfl (lv_at hl 3 rfl) ?_
  refine lv_iload_n hx hb ps_d_init_88 rfl (lv_at hl 1 rfl) ?_
  refine lv_iload hx hb ps_d_init_89 (lv_at hl 0 rfl) ?_
  refine lv_iconst (v := (nI 1)) hx hb ps_d_init_91 (by decide) ?_
  refine lv_iload hx hb ps_d_init_92 (lv_at hl 0 rfl) ?_
  refine lv_ishl hx hb ps_d_init_94 ?_
  refine zt_i (y := nI 2) (by decide) ?_
  refine zq_Vi (n := 3) (As := [.int (nI 1), .int (nI 1), .int (nI 2)]) (rest := []) ⟨hx, hb, hml, hown, hts⟩ (ps_withParity l dC dI cA o q_4 q_5 4 16 0 0 0 1 1 2 hn1 hn hmb hmk (by decide) (by omega) (by decide)) zg_ps33 (by decide +kernel) ⟨rfl, rfl⟩ ⟨Nat.le_of_ble_eq_true rfl, Nat.le_of_ble_eq_true rfl⟩ hK (hP.sub (ws' := [(o, .inr (1, [.int (nI 4), .int (nI 16), .int (nI 0), .ref q_4, .ref q_5, .int (nI 0), .int (nI 0)]))]) [0] rfl) 1 0 rfl rfl rfl rfl hl.1 rfl (Nat.le_of_ble_eq_true rfl) ps_d_init_95 (fun r_10 h_11 => ?_) ⟨Nat.le_of_ble_eq_true rfl, Nat.le_of_ble_eq_true rfl⟩
  subst h_11
  refine zt_i (show nI (bn_with 4 1 1 2) = nI 33 from congrArg nI (by decide +kernel)) ?_
  refine lv_istore_n (lv' := [(3, .int (nI 33)), (4, .int (nI 1)), (2, .int (nI 16)), (0, .ref o), (1, .int (nI 4))]) hx hb ps_d_init_98 rfl hl (by decide) rfl (fun ls hl => ?_)
  refine lv_iinc (v := (nI 2)) (lv' := [(4, .int (nI 2)), (3, .int (nI 33)), (2, .int (nI 16)), (0, .ref o), (1, .int (nI 4))]) hx hb ps_d_init_99 hl (k := 1) rfl (by decide) (by decide) rfl (fun ls hl => ?_)
  refine lv_goto (tgt := 81) hx hb ps_d_init_102 (by decide) ?_
  refine lv_iload hx hb ps_d_init_81 (lv_at hl 0 rfl) ?_
  refine lv_iload_n hx hb ps_d_init_83 rfl (lv_at hl 4 rfl) ?_
  refine zc_ge (tgt := 105) hx hb ps_d_init_84 (by decide) (by omega) (by omega) (fun c_12 => absurd c_12 (by omega)) (fun c_12 => ?_)
  refine lv_aload_n hx hb ps_d_init_87 rfl (lv_at hl 3 rfl) ?_
  refine lv_iload_n hx hb ps_d_init_88 rfl (lv_at hl 1 rfl) ?_
  refine lv_iload hx hb ps_d_init_89 (lv_at hl 0 rfl) ?_
  refine lv_iconst (v := (nI 1)) hx hb ps_d_init_91 (by decide) ?_
  refine lv_iload hx hb ps_d_init_92 (lv_at hl 0 rfl) ?_
  refine lv_ishl hx hb ps_d_init_94 ?_
  refine zt_i (y := nI 4) (by decide) ?_
  refine zq_Vi (n := 3) (As := [.int (nI 33), .int (nI 2), .int (nI 4)]) (rest := []) ⟨hx, hb, hml, hown, hts⟩ (ps_withParity l dC dI cA o q_4 q_5 4 16 0 0 0 33 2 4 hn1 hn hmb hmk (by decide) (by omega) (by decide)) zg_ps33 (by decide +kernel) ⟨rfl, rfl⟩ ⟨Nat.le_of_ble_eq_true rfl, Nat.le_of_ble_eq_true rfl⟩ hK (hP.sub (ws' := [(o, .inr (1, [.int (nI 4), .int (nI 16), .int (nI 0), .ref q_4, .ref q_5, .int (nI 0), .int (nI 0)]))]) [0] rfl) 1 0 rfl rfl rfl rfl hl.1 rfl (Nat.le_of_ble_eq_true rfl) ps_d_init_95 (fun r_13 h_14 => ?_) ⟨Nat.le_of_ble_eq_true rfl, Nat.le_of_ble_eq_true rfl⟩
  subst h_14
  refine zt_i (show nI (bn_with 4 33 2 4) = nI 1057 from congrArg nI (by decide +kernel)) ?_
  refine lv_istore_n (lv' := [(3, .int (nI 1057)), (4, .int (nI 2)), (2, .int (nI 16)), (0, .ref o), (1, .int (nI 4))]) hx hb ps_d_init_98 rfl hl (by decide) rfl (fun ls hl => ?_)
  refine lv_iinc (v := (nI 3)) (lv' := [(4, .int (nI 3)), (3, .int (nI 1057)), (2, .int (nI 16)), (0, .ref o), (1, .int (nI 4))]) hx hb ps_d_init_99 hl (k := 1) rfl (by decide) (by decide) rfl (fun ls hl => ?_)
  refine lv_goto (tgt := 81) hx hb ps_d_init_102 (by decide) ?_
  refine lv_iload hx hb ps_d_init_81 (lv_at hl 0 rfl) ?_
  refine lv_iload_n hx hb ps_d_init_83 rfl (lv_at hl 4 rfl) ?_
  refine zc_ge (tgt := 105) hx hb ps_d_init_84 (by decide) (by omega) (by omega) (fun c_15 => absurd c_15 (by omega)) (fun c_15 => ?_)
  refine lv_aload_n hx hb ps_d_init_87 rfl (lv_at hl 3 rfl) ?_
  refine lv_iload_n hx hb ps_d_init_88 rfl (lv_at hl 1 rfl) ?_
  refine lv_iload hx hb ps_d_init_89 (lv_at hl 0 rfl) ?_
  refine lv_iconst (v := (nI 1)) hx hb ps_d_init_91 (by decide) ?_
  refine lv_iload hx hb ps_d_init_92 (lv_at hl 0 rfl) ?_
  refine lv_ishl hx hb ps_d_init_94 ?_
  refine zt_i (y := nI 8) (by decide) ?_
  refine zq_Vi (n := 3) (As := [.int (nI 1057), .int (nI 3), .int (nI 8)]) (rest := []) ⟨hx, hb, hml, hown, hts⟩ (ps_withParity l dC dI cA o q_4 q_5 4 16 0 0 0 1057 3 8 hn1 hn hmb hmk (by decide) (by omega) (by decide)) zg_ps33 (by decide +kernel) ⟨rfl, rfl⟩ ⟨Nat.le_of_ble_eq_true rfl, Nat.le_of_ble_eq_true rfl⟩ hK (hP.sub (ws' := [(o, .inr (1, [.int (nI 4), .int (nI 16), .int (nI 0), .ref q_4, .ref q_5, .int (nI 0), .int (nI 0)]))]) [0] rfl) 1 0 rfl rfl rfl rfl hl.1 rfl (Nat.le_of_ble_eq_true rfl) ps_d_init_95 (fun r_16 h_17 => ?_) ⟨Nat.le_of_ble_eq_true rfl, Nat.le_of_ble_eq_true rfl⟩
  subst h_17
  refine zt_i (show nI (bn_with 4 1057 3 8) = nI 33825 from congrArg nI (by decide +kernel)) ?_
  refine lv_istore_n (lv' := [(3, .int (nI 33825)), (4, .int (nI 3)), (2, .int (nI 16)), (0, .ref o), (1, .int (nI 4))]) hx hb ps_d_init_98 rfl hl (by decide) rfl (fun ls hl => ?_)
  refine lv_iinc (v := (nI 4)) (lv' := [(4, .int (nI 4)), (3, .int (nI 33825)), (2, .int (nI 16)), (0, .ref o), (1, .int (nI 4))]) hx hb ps_d_init_99 hl (k := 1) rfl (by decide) (by decide) rfl (fun ls hl => ?_)
  refine lv_goto (tgt := 81) hx hb ps_d_init_102 (by decide) ?_
  refine lv_iload hx hb ps_d_init_81 (lv_at hl 0 rfl) ?_
  refine lv_iload_n hx hb ps_d_init_83 rfl (lv_at hl 4 rfl) ?_
  refine zc_ge (tgt := 105) hx hb ps_d_init_84 (by decide) (by omega) (by omega) (fun c_18 => ?_) (fun c_18 => absurd c_18 (by omega))
  refine lv_aload_n hx hb ps_d_init_105 rfl (lv_at hl 3 rfl) ?_
  refine lv_iload_n hx hb ps_d_init_106 rfl (lv_at hl 1 rfl) ?_
  refine lv_iconst (v := (nI 0)) hx hb ps_d_init_107 (by decide) ?_
  refine lv_iconst (v := (nI 0)) hx hb ps_d_init_108 (by decide) ?_
  refine zq_Vwv (n := 3) (As := [.int (nI 33825), .int (nI 0), .int (nI 0)]) (rest := []) (wc := [(o, .inr (1, [.int (nI 4), .int (nI 16), .int (nI 0), .ref q_4, .ref q_5, .int (nI 0), .int (nI 0)])), (q_4, .inl (cA 1, 20160, .inr (.inl (lA (fun _ => 0))))), (q_5, .inl (cA 0, 2049, .inl (nA (fun _ => 0))))]) (wr := []) ⟨hx, hb, hml, hown, hts⟩ (ps_meet l dC dI cA _ o q_4 q_5 4 16 0 0 0 20160 2049 33825 0 0 (fun _ => 0) (fun _ => 0) (fun _ => 0) (by decide) (by decide) (by decide) (by decide) (by decide) (by decide) (by decide) (zp_met0 _) (fun _ => by decide)) zg_ps37 (by decide +kernel) ⟨rfl, rfl⟩ ⟨Nat.le_of_ble_eq_true rfl, Nat.le_of_ble_eq_true rfl⟩ hK hP hD hS hA hZ [0, 1, 2] [] rfl rfl (by decide) 1 0 rfl rfl rfl rfl hl.1 rfl (Nat.le_of_ble_eq_true rfl) ps_d_init_109 (fun u_21 H locs h_20 hP hD hS => ?_) ⟨Nat.le_of_ble_eq_true rfl, Nat.le_of_ble_eq_true rfl⟩
  rcases h_20 with ⟨hold, rfl⟩ | ⟨hnew, rfl⟩
  · obtain ⟨i, hi, -⟩ := hold
    exact absurd hi (Nat.not_lt_zero _)
  · have hP : va_P (dC, dI) zz_cl [(o, .inr (1, [.int (nI 4), .int (nI 16), .int (nI 0), .ref q_4, .ref q_5, .int (nI (0 + 1)), .int (nI 0)])), (q_4, .inl (cA 1, 20160, .inr (.inl (lA (va_up (fun _ => 0) 0 (33825 * 2 ^ 20 + 0 * 16 + 0)))))), (q_5, .inl (cA 0, 2049, .inl (nA (va_up (fun _ => 0) (33825 / 32) (((fun _ => 0) (33825 / 32)) ||| 2 ^ (33825 % 32))))))] H := hP
    have hD : va_D A [(o, .inr (1, [.int (nI 4), .int (nI 16), .int (nI 0), .ref q_4, .ref q_5, .int (nI (0 + 1)), .int (nI 0)])), (q_4, .inl (cA 1, 20160, .inr (.inl (lA (va_up (fun _ => 0) 0 (33825 * 2 ^ 20 + 0 * 16 + 0)))))), (q_5, .inl (cA 0, 2049, .inl (nA (va_up (fun _ => 0) (33825 / 32) (((fun _ => 0) (33825 / 32)) ||| 2 ^ (33825 % 32))))))] := hD
    have hP9 := hP.sub (ws' := [(o, .inr (1, [.int (nI 4), .int (nI 16), .int (nI 0), .ref q_4, .ref q_5, .int (nI (0 + 1)), .int (nI 0)])), (q_4, .inl (cA 1, 20160, .inr (.inl (lA (va_up (fun _ => 0) 0 (33825 * 2 ^ 20 + 0 * 16 + 0)))))), (q_5, .inl (cA 0, 2049, .inl (nA (va_up (fun _ => 0) (33825 / 32) (((fun _ => 0) (33825 / 32)) ||| 2 ^ (33825 % 32))))))]) [0, 1, 2] rfl
    have hD9 := hD.sub (ws' := [(o, .inr (1, [.int (nI 4), .int (nI 16), .int (nI 0), .ref q_4, .ref q_5, .int (nI (0 + 1)), .int (nI 0)])), (q_4, .inl (cA 1, 20160, .inr (.inl (lA (va_up (fun _ => 0) 0 (33825 * 2 ^ 20 + 0 * 16 + 0)))))), (q_5, .inl (cA 0, 2049, .inl (nA (va_up (fun _ => 0) (33825 / 32) (((fun _ => 0) (33825 / 32)) ||| 2 ^ (33825 % 32))))))]) [0, 1, 2] (by decide) rfl
    refine W.widen (k := 2) (n := 22209) (Nat.le_of_ble_eq_true rfl) (Nat.le_of_ble_eq_true rfl) ?_
    exact W.vret hx hb hr (fun t ht hW => ⟨⟨(q_4, q_5, va_up (fun _ => 0) 0 (33825 * 2 ^ 20 + 0 * 16 + 0), va_up (fun _ => 0) (33825 / 32) (((fun _ => 0) (33825 / 32)) ||| 2 ^ (33825 % 32))), rfl, zp_I0 (show bn_st 4 4 = 33825 by decide +kernel) (by decide), by rw [ht]; exact hP9, hD9⟩, hS.F ht⟩) hS.2.2 ps_d_init_112
