set_option maxHeartbeats 4000000 in
set_option maxRecDepth 100000 in
/-- lengthTo(k) -/
theorem ps_lengthTo (l : Launch) (dC : Nat → ClassId) (dI : Nat → Nat → Nat) (cA : Nat → ClassId) (o p1 m1 n mb mk cnt sp : Nat) (pn k0 : Nat) (st fr lb pl : Nat → Nat) (pw : Nat → List Nat) (M0 : Nat) (hpn : pn ≤ 65536) (hk : k0 < cnt) (hc : cnt ≤ pn) (hok : zp_ok st fr lb pl cnt) (hB : bz_inv (bn_nx n) (bn_st n n) (bn_V n) st fr lb pw cnt M0) : Met l ps_y_lengthTo ps_w_lengthTo ({ frames := 1, cells := 0, slots := 0, locals := 21 }) (va_Pc [.ref o, .int (nI k0)] (zR (dC, dI) cA [(o, .inr (1, [.int (nI n), .int (nI mb), .int (nI mk), .ref p1, .ref m1, .int (nI cnt), .int (nI sp)])), (p1, .inl (cA 1, pn, .inr (.inl (lA pl))))])) (vp_Si (fun r => r = nI (pw k0).length)) 0 0 (fun _ => False) := by
  refine Met.ofW (cc := ps_c_lengthTo) (maxL := 4) (ret := (some .int)) (by decide) rfl ?_
  intro p e s m args below meth c s₁ B hml hv
  obtain ⟨rfl, hP, hK⟩ := hv
  have hx := B.exec
  have hb := B.bytes
  have hr := B.returns
  have hts0 := atoms_spec (ws := ps_w_lengthTo) B.pre
  have hts : ∀ w ∈ zz_tbl, w.before _ s = true := fun w h => hts0 w (List.mem_cons_of_mem _ h)
  have hown : s.vm.findClass ps_R = some m.cls := findClass_of_methodNamed B.named
  have hlocks := B.notSynchronized
  have hP : va_P (dC, dI) zz_cl [(o, .inr (1, [.int (nI n), .int (nI mb), .int (nI mk), .ref p1, .ref m1, .int (nI cnt), .int (nI sp)])), (p1, .inl (cA 1, pn, .inr (.inl (lA pl))))] s.heap := hP
  have hl := lv_entry ([.ref o, .int (nI k0)]) (n := 4) (Nat.le_of_ble_eq_true rfl)
  rw [lg_entry_eq]
  generalize (lg_sl ([.ref o, .int (nI k0)]) ++ List.replicate (4 - (lg_sl ([.ref o, .int (nI k0)])).length) Slot.unset).toArray = ls at hl ⊢
  have hl : lv_has ls 4 [(0, .ref o), (1, .int (nI k0))] := hl
  have hwl := zp_wl hB (k0 + 1) k0 (by omega) hk
  refine lv_iconst (v := (nI 0)) hx hb ps_d_lengthTo_0 (by decide) ?_
  refine lv_istore_n (lv' := [(2, .int (nI 0)), (0, .ref o), (1, .int (nI k0))]) hx hb ps_d_lengthTo_1 rfl hl (by decide) rfl (fun ls hl => ?_)
  refine lv_iload_n hx hb ps_d_lengthTo_2 rfl (lv_at hl 2 rfl) ?_
  refine lv_istore_n (lv' := [(3, .int (nI k0)), (2, .int (nI 0)), (0, .ref o), (1, .int (nI k0))]) hx hb ps_d_lengthTo_3 rfl hl (by decide) rfl (fun ls hl => ?_)
  refine zl_loop (J := fun k ls H locs => ∃ (t0 : Nat) (ln : Nat), k = t0 ∧ (t0 < cnt) ∧ (ln + (pw t0).length = (pw k0).length) ∧ H = s.heap ∧ locs = [] ∧ lv_has ls 4 [(0, .ref o), (1, .int (nI k0)), (2, .int (nI ln)), (3, .int (nI t0))]) (fun k4 ls H locs hJ4 ih4 => ?_) (k0) ⟨k0, 0, rfl, hk, Nat.zero_add _, rfl, rfl, lv_sub hl [2, 3, 1, 0] rfl⟩
  obtain ⟨t0, ln, hk4, ht, hln, rfl, rfl, hl⟩ := hJ4
  refine lv_iload_n hx hb ps_d_lengthTo_4 rfl (lv_at hl 3 rfl) ?_
  refine zi_le (tgt := 29) hx hb ps_d_lengthTo_5 (by decide) (by omega) (fun c_1 => ?_) (fun c_1 => ?_)
  · refine lv_iload_n hx hb ps_d_lengthTo_29 rfl (lv_at hl 2 rfl) ?_
    exact W.iret (v := (nI ln)) hx hb hr (fun t ht hW => ⟨(nI ln), rfl, congrArg nI (by rw [c_1, hB.1.2.2] at hln; exact hln), ht⟩) (fun q h => by cases h) ps_d_lengthTo_30
  · obtain ⟨⟨g1, -⟩, -, g3, -⟩ := hB.2.1 t0 c_1 ht
    have g4 : (pw t0).length = (pw (fr t0)).length + 1 := by rw [g3]; rfl
    refine lv_iload_n hx hb ps_d_lengthTo_8 rfl (lv_at hl 2 rfl) ?_
    refine lv_aload_n hx hb ps_d_lengthTo_9 rfl (lv_at hl 0 rfl) ?_
    refine va_get (D := (dC, dI)) (ci := 1) (v := .ref p1) (C := ps_R) (T := ps_T) (N := 7) hx hb hts ps_in hown hK hP 0 rfl rfl 3 (by decide) (hts _ zk_ps26) (fun _ h9 => h9) rfl ps_d_lengthTo_10 ?_
    refine va_alen (v := (nI pn)) hx hb hK hP 1 1 rfl rfl rfl ps_d_lengthTo_13 ?_
    refine zc_ge (tgt := 29) hx hb ps_d_lengthTo_14 (by decide) (by omega) (by omega) (fun c_2 => absurd c_2 (by omega)) (fun c_2 => ?_)
    refine lv_aload_n hx hb ps_d_lengthTo_17 rfl (lv_at hl 0 rfl) ?_
    refine lv_iload_n hx hb ps_d_lengthTo_18 rfl (lv_at hl 3 rfl) ?_
    refine zq_Vi (n := 1) (As := [.int (nI t0)]) (rest := []) ⟨hx, hb, hml, hown, hts⟩ (ps_fromAt l dC dI cA o p1 m1 n mb mk cnt sp pn t0 st fr lb pl (by omega) (by omega) (by omega) hok) zg_ps58 (by decide +kernel) ⟨rfl, rfl⟩ ⟨Nat.le_of_ble_eq_true rfl, Nat.le_of_ble_eq_true rfl⟩ hK (hP.sub (ws' := [(o, .inr (1, [.int (nI n), .int (nI mb), .int (nI mk), .ref p1, .ref m1, .int (nI cnt), .int (nI sp)])), (p1, .inl (cA 1, pn, .inr (.inl (lA pl))))]) [0, 1] rfl) 1 0 rfl rfl rfl rfl hl.1 rfl (Nat.le_of_ble_eq_true rfl) ps_d_lengthTo_19 (fun r_3 h_4 => ?_) ⟨Nat.le_of_ble_eq_true rfl, Nat.le_of_ble_eq_true rfl⟩
    subst h_4
    refine lv_istore_n (lv' := [(3, .int (nI (fr t0))), (0, .ref o), (1, .int (nI k0)), (2, .int (nI ln))]) hx hb ps_d_lengthTo_22 rfl hl (by decide) rfl (fun ls hl => ?_)
    refine lv_iinc (v := (nI (ln + 1))) (lv' := [(2, .int (nI (ln + 1))), (3, .int (nI (fr t0))), (0, .ref o), (1, .int (nI k0))]) hx hb ps_d_lengthTo_23 hl (k := 3) rfl (nI_1 ln) (by decide) rfl (fun ls hl => ?_)
    refine lv_goto (tgt := 4) hx hb ps_d_lengthTo_26 (by decide) ?_
    exact ih4 _ _ _ _ (by omega) ⟨_, ln + 1, rfl, by omega, by omega, rfl, rfl, lv_sub hl [2, 3, 0, 1] rfl⟩
set_option maxHeartbeats 4000000 in
set_option maxRecDepth 100000 in
/-- answer(k, x) -/
theorem ps_answer (l : Launch) (dC : Nat → ClassId) (dI : Nat → Nat → Nat) (cA : Nat → ClassId) (o p1 m1 n mb mk cnt sp : Nat) (pn k0 : Nat) (x : Int32) (st fr lb pl : Nat → Nat) (pw : Nat → List Nat) (M0 : Nat) (hpn : pn ≤ 65536) (hk : k0 < cnt) (hc : cnt ≤ pn) (hok : zp_ok st fr lb pl cnt) (hB : bz_inv (bn_nx n) (bn_st n n) (bn_V n) st fr lb pw cnt M0) : Met l ps_y_answer ps_w_answer ({ frames := 2, cells := 0, slots := 0, locals := 44 }) (va_Pc [.ref o, .int (nI k0), .int x] (zR (dC, dI) cA [(o, .inr (1, [.int (nI n), .int (nI mb), .int (nI mk), .ref p1, .ref m1, .int (nI cnt), .int (nI sp)])), (p1, .inl (cA 1, pn, .inr (.inl (lA pl))))])) (vp_Si (fun r => zq_ans (pw k0) x r)) 0 0 (fun _ => False) := by
  refine Met.ofW (cc := ps_c_answer) (maxL := 6) (ret := (some .int)) (by decide) rfl ?_
  intro p e s m args below meth c s₁ B hml hv
  obtain ⟨rfl, hP, hK⟩ := hv
  have hx := B.exec
  have hb := B.bytes
  have hr := B.returns
  have hts0 := atoms_spec (ws := ps_w_answer) B.pre
  have hts : ∀ w ∈ zz_tbl, w.before _ s = true := fun w h => hts0 w (List.mem_cons_of_mem _ h)
  have hown : s.vm.findClass ps_R = some m.cls := findClass_of_methodNamed B.named
  have hlocks := B.notSynchronized
  have hP : va_P (dC, dI) zz_cl [(o, .inr (1, [.int (nI n), .int (nI mb), .int (nI mk), .ref p1, .ref m1, .int (nI cnt), .int (nI sp)])), (p1, .inl (cA 1, pn, .inr (.inl (lA pl))))] s.heap := hP
  have hl := lv_entry ([.ref o, .int (nI k0), .int x]) (n := 6) (Nat.le_of_ble_eq_true rfl)
  rw [lg_entry_eq]
  generalize (lg_sl ([.ref o, .int (nI k0), .int x]) ++ List.replicate (6 - (lg_sl ([.ref o, .int (nI k0), .int x])).length) Slot.unset).toArray = ls at hl ⊢
  have hl : lv_has ls 6 [(0, .ref o), (1, .int (nI k0)), (2, .int x)] := hl
  have hwl := zp_wl hB (k0 + 1) k0 (by omega) hk
  have hlen : (pw k0).length < 2 ^ 31 := by omega
  refine lv_iload_n hx hb ps_d_answer_0 rfl (lv_at hl 1 rfl) ?_
  refine lv_if_lt (tgt := 12) hx hb ps_d_answer_1 (by decide) (fun c_1 => absurd c_1 (nI_pos (by omega))) (fun c_1 => ?_)
  refine lv_iload_n hx hb ps_d_answer_4 rfl (lv_at hl 1 rfl) ?_
  refine lv_aload_n hx hb ps_d_answer_5 rfl (lv_at hl 0 rfl) ?_
  refine va_get (D := (dC, dI)) (ci := 1) (v := .int (nI cnt)) (C := ps_R) (T := ps_T) (N := 7) hx hb hts ps_in hown hK hP 0 rfl rfl 5 (by decide) (hts _ zk_ps41) (fun _ h9 => h9) rfl ps_d_answer_6 ?_
  refine zc_lt (tgt := 14) hx hb ps_d_answer_9 (by decide) (by omega) (by omega) (fun c_2 => ?_) (fun c_2 => absurd c_2 (by omega))
  refine lv_aload_n hx hb ps_d_answer_14 rfl (lv_at hl 0 rfl) ?_
  refine lv_iload_n hx hb ps_d_answer_15 rfl (lv_at hl 1 rfl) ?_
  refine zq_Vi (n := 1) (As := [.int (nI k0)]) (rest := []) ⟨hx, hb, hml, hown, hts⟩ (ps_lengthTo l dC dI cA o p1 m1 n mb mk cnt sp pn k0 st fr lb pl pw M0 hpn hk hc hok hB) zg_ps55 (by decide +kernel) ⟨rfl, rfl⟩ ⟨Nat.le_of_ble_eq_true rfl, Nat.le_of_ble_eq_true rfl⟩ hK (hP.sub (ws' := [(o, .inr (1, [.int (nI n), .int (nI mb), .int (nI mk), .ref p1, .ref m1, .int (nI cnt), .int (nI sp)])), (p1, .inl (cA 1, pn, .inr (.inl (lA pl))))]) [0, 1] rfl) 1 0 rfl rfl rfl rfl hl.1 rfl (Nat.le_of_ble_eq_true rfl) ps_d_answer_16 (fun r_3 h_4 => ?_) ⟨Nat.le_of_ble_eq_true rfl, Nat.le_of_ble_eq_true rfl⟩
  subst h_4
  refine lv_istore_n (lv' := [(3, .int (nI ((pw k0).length))), (0, .ref o), (1, .int (nI k0)), (2, .int x)]) hx hb ps_d_answer_19 rfl hl (by decide) rfl (fun ls hl => ?_)
  refine lv_iload_n hx hb ps_d_answer_20 rfl (lv_at hl 3 rfl) ?_
  refine lv_iconst (v := (-1)) hx hb ps_d_answer_21 (by decide) ?_
  refine lv_icmp_ne (tgt := 27) hx hb ps_d_answer_22 (by decide) (fun c_5 => ?_) (fun c_5 => ?_)
  · refine lv_iload_n hx hb ps_d_answer_27 rfl (lv_at hl 3 rfl) ?_
    refine lv_if_lt (tgt := 36) hx hb ps_d_answer_28 (by decide) (fun c_6 => ?_) (fun c_6 => ?_)
    · refine lv_iconst (v := (-1)) hx hb ps_d_answer_36 (by decide) ?_
      exact W.iret (v := (-1)) hx hb hr (fun t ht hW => ⟨(-1), rfl, zq_neg hlen c_5 c_6, ht⟩) (fun q h => by cases h) ps_d_answer_37
    · refine lv_iload_n hx hb ps_d_answer_31 rfl (lv_at hl 3 rfl) ?_
      refine lv_iload_n hx hb ps_d_answer_32 rfl (lv_at hl 0 rfl) ?_
      refine lv_icmp_lt (tgt := 38) hx hb ps_d_answer_33 (by decide) (fun c_7 => ?_) (fun c_7 => ?_)
      · obtain ⟨j, hj, rfl⟩ := zw_lt hlen c_6 c_7
        refine lv_iload_n hx hb ps_d_answer_38 rfl (lv_at hl 2 rfl) ?_
        refine lv_istore (lv' := [(4, .int (nI k0)), (3, .int (nI ((pw k0).length))), (0, .ref o), (1, .int (nI k0)), (2, .int (nI j))]) hx hb ps_d_answer_39 hl (by decide) rfl (fun ls hl => ?_)
        refine lv_iload_n hx hb ps_d_answer_41 rfl (lv_at hl 1 rfl) ?_
        refine lv_iconst (v := (nI 1)) hx hb ps_d_answer_42 (by decide) ?_
        refine lv_isub hx hb ps_d_answer_43 ?_
        refine zt_i (pk_sub (a := ((pw k0).length)) (b := 1) (by omega)) ?_
        refine lv_istore (lv' := [(5, .int (nI (((pw k0).length) - 1))), (4, .int (nI k0)), (3, .int (nI ((pw k0).length))), (0, .ref o), (1, .int (nI k0)), (2, .int (nI j))]) hx hb ps_d_answer_44 hl (by decide) rfl (fun ls hl => ?_)
        refine zl_loop (J := fun k ls H locs => ∃ (t0 : Nat) (kq : Nat), k = kq ∧ (t0 < cnt) ∧ (j ≤ kq ∧ kq < (pw k0).length) ∧ (pw t0 = (pw k0).drop ((pw k0).length - 1 - kq)) ∧ H = s.heap ∧ locs = [] ∧ lv_has ls 6 [(0, .ref o), (1, .int (nI k0)), (2, .int (nI j)), (3, .int (nI ((pw k0).length))), (4, .int (nI t0)), (5, .int (nI kq))]) (fun k46 ls H locs hJ46 ih46 => ?_) ((pw k0).length - 1) ⟨k0, (pw k0).length - 1, rfl, hk, by omega, by rw [Nat.sub_self]; rfl, rfl, rfl, lv_sub hl [3, 4, 5, 2, 1, 0] rfl⟩
        obtain ⟨t0, kq, hk46, ht, hkq, hdr, rfl, rfl, hl⟩ := hJ46
        refine lv_iload hx hb ps_d_answer_46 (lv_at hl 5 rfl) ?_
        refine lv_iload_n hx hb ps_d_answer_48 rfl (lv_at hl 2 rfl) ?_
        refine zc_le (tgt := 66) hx hb ps_d_answer_49 (by decide) (by omega) (by omega) (fun c_8 => ?_) (fun c_8 => ?_)
        · have hpos : 0 < t0 := by
            rcases Nat.eq_zero_or_pos t0 with q | q
            · rw [q, hB.1.2.2] at hdr
              have := congrArg List.length hdr
              rw [List.length_drop, List.length_nil] at this
              omega
            · exact q
          obtain ⟨⟨g1, -⟩, -, g3, -⟩ := hB.2.1 t0 hpos ht
          have hd1 := zp_drop (g3.symm.trans hdr)
          obtain ⟨z1, z2, z3, z4⟩ := hok t0 ht
          refine lv_aload_n hx hb ps_d_answer_66 rfl (lv_at hl 0 rfl) ?_
          refine va_get (D := (dC, dI)) (ci := 1) (v := .ref p1) (C := ps_R) (T := ps_T) (N := 7) hx hb hts ps_in hown hK hP 0 rfl rfl 3 (by decide) (hts _ zk_ps26) (fun _ h9 => h9) rfl ps_d_answer_67 ?_
          refine lv_iload hx hb ps_d_answer_70 (lv_at hl 4 rfl) ?_
          refine zv_lald hx hb hK hP 1 1 rfl rfl (k := t0) (by omega) (by omega) ps_d_answer_72 ?_
          refine lv_l2i (v := nI (pl t0)) hx hb ps_d_answer_73 (lN_i _) ?_
          refine lv_bipush (v := (nI 15)) hx hb ps_d_answer_74 (by decide) ?_
          refine lv_iand hx hb ps_d_answer_76 ?_
          refine zt_i (zb_m16 (pl t0)) ?_
          exact W.iret (v := (nI ((pl t0) % 16))) hx hb hr (fun t ht hW => ⟨(nI ((pl t0) % 16)), rfl, Or.inr (Or.inl ⟨j, hj, rfl, by rw [show (pw k0).length - 1 - j = (pw k0).length - 1 - kq by omega, hd1.1]; exact congrArg nI (by omega)⟩), ht⟩) (fun q h => by cases h) ps_d_answer_77
        · have hpos : 0 < t0 := by
            rcases Nat.eq_zero_or_pos t0 with q | q
            · rw [q, hB.1.2.2] at hdr
              have := congrArg List.length hdr
              rw [List.length_drop, List.length_nil] at this
              omega
            · exact q
          obtain ⟨⟨g1, -⟩, -, g3, -⟩ := hB.2.1 t0 hpos ht
          have hd1 := zp_drop (g3.symm.trans hdr)
          obtain ⟨z1, z2, z3, z4⟩ := hok t0 ht
          refine lv_aload_n hx hb ps_d_answer_52 rfl (lv_at hl 0 rfl) ?_
          refine lv_iload hx hb ps_d_answer_53 (lv_at hl 4 rfl) ?_
          refine zq_Vi (n := 1) (As := [.int (nI t0)]) (rest := []) ⟨hx, hb, hml, hown, hts⟩ (ps_fromAt l dC dI cA o p1 m1 n mb mk cnt sp pn t0 st fr lb pl (by omega) (by omega) (by omega) hok) zg_ps58 (by decide +kernel) ⟨rfl, rfl⟩ ⟨Nat.le_of_ble_eq_true rfl, Nat.le_of_ble_eq_true rfl⟩ hK (hP.sub (ws' := [(o, .inr (1, [.int (nI n), .int (nI mb), .int (nI mk), .ref p1, .ref m1, .int (nI cnt), .int (nI sp)])), (p1, .inl (cA 1, pn, .inr (.inl (lA pl))))]) [0, 1] rfl) 1 0 rfl rfl rfl rfl hl.1 rfl (Nat.le_of_ble_eq_true rfl) ps_d_answer_55 (fun r_9 h_10 => ?_) ⟨Nat.le_of_ble_eq_true rfl, Nat.le_of_ble_eq_true rfl⟩
          subst h_10
          refine lv_istore (lv' := [(4, .int (nI (fr t0))), (0, .ref o), (1, .int (nI k0)), (2, .int (nI j)), (3, .int (nI ((pw k0).length))), (5, .int (nI kq))]) hx hb ps_d_answer_58 hl (by decide) rfl (fun ls hl => ?_)
          refine lv_iinc (v := (nI (kq - 1))) (lv' := [(5, .int (nI (kq - 1))), (4, .int (nI (fr t0))), (0, .ref o), (1, .int (nI k0)), (2, .int (nI j)), (3, .int (nI ((pw k0).length)))]) hx hb ps_d_answer_60 hl (k := 5) rfl (sb_m1 (by omega)) (by decide) rfl (fun ls hl => ?_)
          refine lv_goto (tgt := 46) hx hb ps_d_answer_63 (by decide) ?_
          exact ih46 _ _ _ _ (by omega) ⟨_, kq - 1, rfl, by omega, by omega, by rw [hd1.2]; exact congrArg (fun q => (pw k0).drop q) (by omega), rfl, rfl, lv_sub hl [2, 3, 4, 5, 1, 0] rfl⟩
      · refine lv_iconst (v := (-1)) hx hb ps_d_answer_36 (by decide) ?_
        exact W.iret (v := (-1)) hx hb hr (fun t ht hW => ⟨(-1), rfl, zq_big hlen c_5 c_7, ht⟩) (fun q h => by cases h) ps_d_answer_37
  · refine lv_iload_n hx hb ps_d_answer_25 rfl (lv_at hl 0 rfl) ?_
    exact W.iret (v := (nI ((pw k0).length))) hx hb hr (fun t ht hW => ⟨(nI ((pw k0).length)), rfl, Or.inl ⟨c_5, rfl⟩, ht⟩) (fun q h => by cases h) ps_d_answer_26
