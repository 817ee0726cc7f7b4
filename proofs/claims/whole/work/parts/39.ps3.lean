set_option maxHeartbeats 4000000 in
set_option maxRecDepth 100000 in
/-- spreadFrom(k) -/
theorem ps_spreadFrom (l : Launch) (dC : Nat → ClassId) (dI : Nat → Nat → Nat) (cA : Nat → ClassId) (sz : Nat) (o p1 m1 n mb mk cnt sp : Nat) (pn ml k0 : Nat) (st fr lb pl : Nat → Nat) (mt : Nat → Nat) (pw : Nat → List Nat) (hn1 : 1 ≤ n) (hn : n ≤ 4) (hmb : mb = n * n) (hmk : mk = if n < 4 then 1 else 0) (hpn : pn ≤ 65536) (hml0 : ml < 2 ^ 31) (hk : k0 < cnt) (hc : cnt ≤ pn) (hI : zp_I n st fr lb pw pl mt cnt (16 * k0)) (hcap : zp_cap n pn) (hbd : zp_bd n ml) : Met l ps_y_spreadFrom ps_w_spreadFrom ({ frames := 2, cells := 0, slots := 0, locals := 46 }) (va_Pc [.ref o, .int (nI k0)] (zB (dC, dI) cA [(o, .inr (1, [.int (nI n), .int (nI mb), .int (nI mk), .ref p1, .ref m1, .int (nI cnt), .int (nI sp)])), (p1, .inl (cA 1, pn, .inr (.inl (lA pl)))), (m1, .inl (cA 0, ml, .inl (nA mt)))] sz)) (va_Qv (fun (u : (Nat → Nat) × (Nat → Nat) × (Nat → Nat) × (Nat → List Nat) × (Nat → Nat) × (Nat → Nat) × Nat) => zp_I n u.1 u.2.1 u.2.2.1 u.2.2.2.1 u.2.2.2.2.1 u.2.2.2.2.2.1 u.2.2.2.2.2.2 (16 * (k0 + 1)) ∧ zp_ext st u.1 pw u.2.2.2.1 cnt u.2.2.2.2.2.2 ∧ u.2.2.2.2.2.2 ≤ pn) (fun u t => zE (dC, dI) (va_A [(o, .inr (1, [.int (nI n), .int (nI mb), .int (nI mk), .ref p1, .ref m1, .int (nI cnt), .int (nI sp)])), (p1, .inl (cA 1, pn, .inr (.inl (lA pl)))), (m1, .inl (cA 0, ml, .inl (nA mt)))] sz) ((fun (u : (Nat → Nat) × (Nat → Nat) × (Nat → Nat) × (Nat → List Nat) × (Nat → Nat) × (Nat → Nat) × Nat) => [(o, .inr (1, [.int (nI n), .int (nI mb), .int (nI mk), .ref p1, .ref m1, .int (nI u.2.2.2.2.2.2), .int (nI sp)])), (p1, .inl (cA 1, pn, .inr (.inl (lA u.2.2.2.2.1)))), (m1, .inl (cA 0, ml, .inl (nA u.2.2.2.2.2.1)))]) u) t) (va_A [(o, .inr (1, [.int (nI n), .int (nI mb), .int (nI mk), .ref p1, .ref m1, .int (nI cnt), .int (nI sp)])), (p1, .inl (cA 1, pn, .inr (.inl (lA pl)))), (m1, .inl (cA 0, ml, .inl (nA mt)))] sz)) 0 0 (va_A [(o, .inr (1, [.int (nI n), .int (nI mb), .int (nI mk), .ref p1, .ref m1, .int (nI cnt), .int (nI sp)])), (p1, .inl (cA 1, pn, .inr (.inl (lA pl)))), (m1, .inl (cA 0, ml, .inl (nA mt)))] sz) := by
  refine Met.ofW (cc := ps_c_spreadFrom) (maxL := 6) (ret := (none : Option Jvm.ClassFile.FieldType)) (by decide) rfl ?_
  intro p e s m args below meth c s₁ B hml hv
  obtain ⟨rfl, hsz, hP, hK, hD0, hZ⟩ := hv
  have hx := B.exec
  have hb := B.bytes
  have hr := B.returns
  have hts0 := atoms_spec (ws := ps_w_spreadFrom) B.pre
  have hts : ∀ w ∈ zz_tbl, w.before _ s = true := fun w h => hts0 w (List.mem_cons_of_mem _ h)
  have hown : s.vm.findClass ps_R = some m.cls := findClass_of_methodNamed B.named
  have hlocks := B.notSynchronized
  subst hsz
  have hD := hD0.self (sz := s.heap.size)
  generalize hAe : va_A [(o, .inr (1, [.int (nI n), .int (nI mb), .int (nI mk), .ref p1, .ref m1, .int (nI cnt), .int (nI sp)])), (p1, .inl (cA 1, pn, .inr (.inl (lA pl)))), (m1, .inl (cA 0, ml, .inl (nA mt)))] s.heap.size = A at hD hZ ⊢
  have hA : ∀ q : Nat, s.heap.size ≤ q → A q := fun q h => by rw [← hAe]; exact Or.inr h
  have hS : va_S A s.heap s.heap [] := va_S.rf
  have hP : va_P (dC, dI) zz_cl [(o, .inr (1, [.int (nI n), .int (nI mb), .int (nI mk), .ref p1, .ref m1, .int (nI cnt), .int (nI sp)])), (p1, .inl (cA 1, pn, .inr (.inl (lA pl)))), (m1, .inl (cA 0, ml, .inl (nA mt)))] s.heap := hP
  have hl := lv_entry ([.ref o, .int (nI k0)]) (n := 6) (Nat.le_of_ble_eq_true rfl)
  rw [lg_entry_eq]
  generalize (lg_sl ([.ref o, .int (nI k0)]) ++ List.replicate (6 - (lg_sl ([.ref o, .int (nI k0)])).length) Slot.unset).toArray = ls at hl ⊢
  have hl : lv_has ls 6 [(0, .ref o), (1, .int (nI k0))] := hl
  have hpow : 0 < 2 ^ n := Nat.two_pow_pos n
  have hpow2 : 2 ^ n ≤ 2 ^ 4 := Nat.pow_le_pow_right (by decide) hn
  obtain ⟨z1, z2, z3, z4⟩ := hI.2.1 k0 hk
  refine lv_aload_n hx hb ps_d_spreadFrom_0 rfl (lv_at hl 0 rfl) ?_
  refine lv_iload_n hx hb ps_d_spreadFrom_1 rfl (lv_at hl 1 rfl) ?_
  refine zq_Vi (n := 1) (As := [.int (nI k0)]) (rest := []) ⟨hx, hb, hml, hown, hts⟩ (ps_stateAt l dC dI cA o p1 m1 n mb mk cnt sp pn k0 st fr lb pl (by omega) (by omega) (by omega) hI.2.1) zg_ps44 (by decide +kernel) ⟨rfl, rfl⟩ ⟨Nat.le_of_ble_eq_true rfl, Nat.le_of_ble_eq_true rfl⟩ hK (hP.sub (ws' := [(o, .inr (1, [.int (nI n), .int (nI mb), .int (nI mk), .ref p1, .ref m1, .int (nI cnt), .int (nI sp)])), (p1, .inl (cA 1, pn, .inr (.inl (lA pl))))]) [0, 1] rfl) 1 0 rfl rfl rfl rfl hl.1 rfl (Nat.le_of_ble_eq_true rfl) ps_d_spreadFrom_2 (fun r_1 h_2 => ?_) ⟨Nat.le_of_ble_eq_true rfl, Nat.le_of_ble_eq_true rfl⟩
  subst h_2
  refine lv_istore_n (lv' := [(2, .int (nI (st k0))), (0, .ref o), (1, .int (nI k0))]) hx hb ps_d_spreadFrom_5 rfl hl (by decide) rfl (fun ls hl => ?_)
  refine lv_iconst (v := (nI 0)) hx hb ps_d_spreadFrom_6 (by decide) ?_
  refine lv_istore_n (lv' := [(3, .int (nI 0)), (2, .int (nI (st k0))), (0, .ref o), (1, .int (nI k0))]) hx hb ps_d_spreadFrom_7 rfl hl (by decide) rfl (fun ls hl => ?_)
  refine zl_loop (J := fun k ls H locs => ∃ (a : Nat) (sa : Nat → Nat) (fa : Nat → Nat) (la : Nat → Nat) (wa : Nat → List Nat) (pa : Nat → Nat) (ma : Nat → Nat) (ca : Nat), k = n - a ∧ (a ≤ n) ∧ (zp_I n sa fa la wa pa ma ca (16 * k0 + 4 * a)) ∧ (zp_ext st sa pw wa cnt ca) ∧ (ca ≤ pn) ∧ va_P (dC, dI) zz_cl [(o, .inr (1, [.int (nI n), .int (nI mb), .int (nI mk), .ref p1, .ref m1, .int (nI ca), .int (nI sp)])), (p1, .inl (cA 1, pn, .inr (.inl (lA pa)))), (m1, .inl (cA 0, ml, .inl (nA ma)))] H ∧ va_D A [(o, .inr (1, [.int (nI n), .int (nI mb), .int (nI mk), .ref p1, .ref m1, .int (nI ca), .int (nI sp)])), (p1, .inl (cA 1, pn, .inr (.inl (lA pa)))), (m1, .inl (cA 0, ml, .inl (nA ma)))] ∧ va_S A s.heap H locs ∧ lv_has ls 6 [(0, .ref o), (1, .int (nI k0)), (2, .int (nI (st k0))), (3, .int (nI a))]) (fun k8 ls H locs hJ8 ih8 => ?_) (n - 0) ⟨0, st, fr, lb, pw, pl, mt, cnt, rfl, Nat.zero_le _, hI, zp_ext_rf _ _ _, hc, hP, hD, hS, lv_sub hl [2, 3, 1, 0] rfl⟩
  obtain ⟨a, sa, fa, la, wa, pa, ma, ca, hk8, ha, hI, hX, hcc, hP, hD, hS, hl⟩ := hJ8
  refine lv_iload_n hx hb ps_d_spreadFrom_8 rfl (lv_at hl 3 rfl) ?_
  refine lv_aload_n hx hb ps_d_spreadFrom_9 rfl (lv_at hl 0 rfl) ?_
  refine va_get (D := (dC, dI)) (ci := 1) (v := .int (nI n)) (C := ps_R) (T := ps_T) (N := 7) hx hb hts ps_in hown hK hP 0 rfl rfl 0 (by decide) (hts _ zk_ps9) (fun _ h9 => h9) rfl ps_d_spreadFrom_10 ?_
  refine zc_ge (tgt := 74) hx hb ps_d_spreadFrom_13 (by decide) (by omega) (by omega) (fun c_3 => ?_) (fun c_3 => ?_)
  · have hP9 := hP.sub (ws' := [(o, .inr (1, [.int (nI n), .int (nI mb), .int (nI mk), .ref p1, .ref m1, .int (nI ca), .int (nI sp)])), (p1, .inl (cA 1, pn, .inr (.inl (lA pa)))), (m1, .inl (cA 0, ml, .inl (nA ma)))]) [0, 1, 2] rfl
    have hD9 := hD.sub (ws' := [(o, .inr (1, [.int (nI n), .int (nI mb), .int (nI mk), .ref p1, .ref m1, .int (nI ca), .int (nI sp)])), (p1, .inl (cA 1, pn, .inr (.inl (lA pa)))), (m1, .inl (cA 0, ml, .inl (nA ma)))]) [0, 1, 2] (by decide) rfl
    exact W.vret hx hb hr (fun t ht hW => ⟨⟨(sa, fa, la, wa, pa, ma, ca), rfl, ⟨zp_gapa hn (by rw [show 16 * k0 + 4 * n = 16 * k0 + 4 * a by omega]; exact hI), hX, hcc⟩, by rw [ht]; exact hP9, hD9⟩, hS.F ht⟩) hS.2.2 ps_d_spreadFrom_74
  · refine lv_iconst (v := (nI 0)) hx hb ps_d_spreadFrom_16 (by decide) ?_
    refine lv_istore (lv' := [(4, .int (nI 0)), (0, .ref o), (1, .int (nI k0)), (2, .int (nI (st k0))), (3, .int (nI a))]) hx hb ps_d_spreadFrom_17 hl (by decide) rfl (fun ls hl => ?_)
    refine zl_loop (J := fun k ls H locs => ∃ (b : Nat) (sa : Nat → Nat) (fa : Nat → Nat) (la : Nat → Nat) (wa : Nat → List Nat) (pa : Nat → Nat) (ma : Nat → Nat) (ca : Nat), k = n - b ∧ (b ≤ n) ∧ (zp_I n sa fa la wa pa ma ca (16 * k0 + 4 * a + b)) ∧ (zp_ext st sa pw wa cnt ca) ∧ (ca ≤ pn) ∧ va_P (dC, dI) zz_cl [(o, .inr (1, [.int (nI n), .int (nI mb), .int (nI mk), .ref p1, .ref m1, .int (nI ca), .int (nI sp)])), (p1, .inl (cA 1, pn, .inr (.inl (lA pa)))), (m1, .inl (cA 0, ml, .inl (nA ma)))] H ∧ va_D A [(o, .inr (1, [.int (nI n), .int (nI mb), .int (nI mk), .ref p1, .ref m1, .int (nI ca), .int (nI sp)])), (p1, .inl (cA 1, pn, .inr (.inl (lA pa)))), (m1, .inl (cA 0, ml, .inl (nA ma)))] ∧ va_S A s.heap H locs ∧ lv_has ls 6 [(0, .ref o), (1, .int (nI k0)), (2, .int (nI (st k0))), (3, .int (nI a)), (4, .int (nI b))]) (fun k19 ls H locs hJ19 ih19 => ?_) (n - 0) ⟨0, sa, fa, la, wa, pa, ma, ca, rfl, Nat.zero_le _, hI, hX, hcc, hP, hD, hS, lv_sub hl [1, 2, 3, 4, 0] rfl⟩
    obtain ⟨b, sa, fa, la, wa, pa, ma, ca, hk19, hb0, hI, hX, hcc, hP, hD, hS, hl⟩ := hJ19
    refine lv_iload hx hb ps_d_spreadFrom_19 (lv_at hl 4 rfl) ?_
    refine lv_aload_n hx hb ps_d_spreadFrom_21 rfl (lv_at hl 0 rfl) ?_
    refine va_get (D := (dC, dI)) (ci := 1) (v := .int (nI n)) (C := ps_R) (T := ps_T) (N := 7) hx hb hts ps_in hown hK hP 0 rfl rfl 0 (by decide) (hts _ zk_ps9) (fun _ h9 => h9) rfl ps_d_spreadFrom_22 ?_
    refine zc_ge (tgt := 68) hx hb ps_d_spreadFrom_25 (by decide) (by omega) (by omega) (fun c_4 => ?_) (fun c_4 => ?_)
    · refine lv_iinc (v := (nI (a + 1))) (lv' := [(3, .int (nI (a + 1))), (0, .ref o), (1, .int (nI k0)), (2, .int (nI (st k0))), (4, .int (nI b))]) hx hb ps_d_spreadFrom_68 hl (k := 3) rfl (nI_1 a) (by decide) rfl (fun ls hl => ?_)
      refine lv_goto (tgt := 8) hx hb ps_d_spreadFrom_71 (by decide) ?_
      exact ih8 _ _ _ _ (by omega) ⟨a + 1, sa, fa, la, wa, pa, ma, ca, rfl, by omega, zp_gapb hn (by omega) (by rw [show 16 * k0 + 4 * a + n = 16 * k0 + 4 * a + b by omega]; exact hI), hX, hcc, hP, hD, hS, lv_sub hl [1, 2, 3, 0] rfl⟩
    · refine lv_iload_n hx hb ps_d_spreadFrom_28 rfl (lv_at hl 3 rfl) ?_
      refine lv_iload hx hb ps_d_spreadFrom_29 (lv_at hl 4 rfl) ?_
      refine zc_eq (tgt := 62) hx hb ps_d_spreadFrom_31 (by decide) (by omega) (by omega) (fun c_5 => ?_) (fun c_5 => ?_)
      · refine lv_iinc (v := (nI (b + 1))) (lv' := [(4, .int (nI (b + 1))), (0, .ref o), (1, .int (nI k0)), (2, .int (nI (st k0))), (3, .int (nI a))]) hx hb ps_d_spreadFrom_62 hl (k := 4) rfl (nI_1 b) (by decide) rfl (fun ls hl => ?_)
        refine lv_goto (tgt := 19) hx hb ps_d_spreadFrom_65 (by decide) ?_
        exact ih19 _ _ _ _ (by omega) ⟨b + 1, _, _, _, wa, _, _, _, rfl, by omega, zp_gap1 hI (by omega) (by omega) c_5, hX, hcc, hP, hD, hS, lv_sub hl [1, 2, 3, 4, 0] rfl⟩
      · have hv := zp_Vab (n := n) (show a < n by omega) (show b < n by omega) hn c_5
        have hkc : k0 < ca := by have := hX.1; omega
        have hnx : bn_with n (st k0) b (bn_par n (st k0) a) = bn_nx n (sa k0) (4 * a + b) := by rw [(hX.2 k0 hk).1, zp_nx (by omega)]
        have hz := zp_next hI hcap hbd hkc hv.1 hv.2
        rw [← hnx] at hz
        refine lv_aload_n hx hb ps_d_spreadFrom_34 rfl (lv_at hl 0 rfl) ?_
        refine lv_iload_n hx hb ps_d_spreadFrom_35 rfl (lv_at hl 2 rfl) ?_
        refine lv_iload hx hb ps_d_spreadFrom_36 (lv_at hl 4 rfl) ?_
        refine lv_aload_n hx hb ps_d_spreadFrom_38 rfl (lv_at hl 0 rfl) ?_
        refine lv_iload_n hx hb ps_d_spreadFrom_39 rfl (lv_at hl 2 rfl) ?_
        refine lv_iload_n hx hb ps_d_spreadFrom_40 rfl (lv_at hl 3 rfl) ?_
        refine zq_Vi (n := 2) (As := [.int (nI (st k0)), .int (nI a)]) (rest := [.int (nI b), .int (nI (st k0)), .ref o]) ⟨hx, hb, hml, hown, hts⟩ (ps_parityOf l dC dI cA o p1 m1 n mb mk ca sp (st k0) a hn (by omega) (by omega)) zg_ps61 (by decide +kernel) ⟨rfl, rfl⟩ ⟨Nat.le_of_ble_eq_true rfl, Nat.le_of_ble_eq_true rfl⟩ hK (hP.sub (ws' := [(o, .inr (1, [.int (nI n), .int (nI mb), .int (nI mk), .ref p1, .ref m1, .int (nI ca), .int (nI sp)]))]) [0] rfl) 1 0 rfl rfl rfl rfl hl.1 rfl (Nat.le_of_ble_eq_true rfl) ps_d_spreadFrom_41 (fun r_6 h_7 => ?_) ⟨Nat.le_of_ble_eq_true rfl, Nat.le_of_ble_eq_true rfl⟩
        subst h_7
        refine zq_Vi (n := 3) (As := [.int (nI (st k0)), .int (nI b), .int (nI (bn_par n (st k0) a))]) (rest := []) ⟨hx, hb, hml, hown, hts⟩ (ps_withParity l dC dI cA o p1 m1 n mb mk ca sp (st k0) b (bn_par n (st k0) a) hn1 hn hmb hmk (by omega) (by omega) (zp_par n (st k0) a)) zg_ps33 (by decide +kernel) ⟨rfl, rfl⟩ ⟨Nat.le_of_ble_eq_true rfl, Nat.le_of_ble_eq_true rfl⟩ hK (hP.sub (ws' := [(o, .inr (1, [.int (nI n), .int (nI mb), .int (nI mk), .ref p1, .ref m1, .int (nI ca), .int (nI sp)]))]) [0] rfl) 1 0 rfl rfl rfl rfl hl.1 rfl (Nat.le_of_ble_eq_true rfl) ps_d_spreadFrom_44 (fun r_8 h_9 => ?_) ⟨Nat.le_of_ble_eq_true rfl, Nat.le_of_ble_eq_true rfl⟩
        subst h_9
        refine lv_istore (lv' := [(5, .int (nI (bn_with n (st k0) b (bn_par n (st k0) a)))), (0, .ref o), (1, .int (nI k0)), (2, .int (nI (st k0))), (3, .int (nI a)), (4, .int (nI b))]) hx hb ps_d_spreadFrom_47 hl (by decide) rfl (fun ls hl => ?_)
        refine lv_aload_n hx hb ps_d_spreadFrom_49 rfl (lv_at hl 1 rfl) ?_
        refine lv_iload hx hb ps_d_spreadFrom_50 (lv_at hl 0 rfl) ?_
        refine lv_iload_n hx hb ps_d_spreadFrom_52 rfl (lv_at hl 2 rfl) ?_
        refine lv_iconst (v := (nI 4)) hx hb ps_d_spreadFrom_53 (by decide) ?_
        refine lv_iload_n hx hb ps_d_spreadFrom_54 rfl (lv_at hl 4 rfl) ?_
        refine lv_imul hx hb ps_d_spreadFrom_55 ?_
        refine zt_i (pk_mul 4 a) ?_
        refine lv_iload hx hb ps_d_spreadFrom_56 (lv_at hl 5 rfl) ?_
        refine lv_iadd hx hb ps_d_spreadFrom_58 ?_
        refine zt_i (nI_add (4 * a) b) ?_
        refine zq_Vwv (n := 3) (As := [.int (nI (bn_with n (st k0) b (bn_par n (st k0) a))), .int (nI k0), .int (nI ((4 * a) + b))]) (rest := []) (wc := [(o, .inr (1, [.int (nI n), .int (nI mb), .int (nI mk), .ref p1, .ref m1, .int (nI ca), .int (nI sp)])), (p1, .inl (cA 1, pn, .inr (.inl (lA pa)))), (m1, .inl (cA 0, ml, .inl (nA ma)))]) (wr := []) ⟨hx, hb, hml, hown, hts⟩ (ps_meet l dC dI cA _ o p1 m1 n mb mk ca sp pn ml (bn_with n (st k0) b (bn_par n (st k0) a)) k0 ((4 * a) + b) sa pa ma (by omega) hml0 hz.1 hz.2.1 (by omega) (by omega) hcc hI.2.2 hz.2.2) zg_ps37 (by decide +kernel) ⟨rfl, rfl⟩ ⟨Nat.le_of_ble_eq_true rfl, Nat.le_of_ble_eq_true rfl⟩ hK hP hD hS hA hZ [0, 1, 2] [] rfl rfl (by decide) 1 0 rfl rfl rfl rfl hl.1 rfl (Nat.le_of_ble_eq_true rfl) ps_d_spreadFrom_59 (fun u_12 H locs h_11 hP hD hS => ?_) ⟨Nat.le_of_ble_eq_true rfl, Nat.le_of_ble_eq_true rfl⟩
        rcases h_11 with ⟨hold, rfl⟩ | ⟨hnew, rfl⟩
        · have hP : va_P (dC, dI) zz_cl [(o, .inr (1, [.int (nI n), .int (nI mb), .int (nI mk), .ref p1, .ref m1, .int (nI ca), .int (nI sp)])), (p1, .inl (cA 1, pn, .inr (.inl (lA pa)))), (m1, .inl (cA 0, ml, .inl (nA ma)))] H := hP
          have hD : va_D A [(o, .inr (1, [.int (nI n), .int (nI mb), .int (nI mk), .ref p1, .ref m1, .int (nI ca), .int (nI sp)])), (p1, .inl (cA 1, pn, .inr (.inl (lA pa)))), (m1, .inl (cA 0, ml, .inl (nA ma)))] := hD
          refine lv_iinc (v := (nI (b + 1))) (lv' := [(4, .int (nI (b + 1))), (5, .int (nI (bn_with n (st k0) b (bn_par n (st k0) a)))), (0, .ref o), (1, .int (nI k0)), (2, .int (nI (st k0))), (3, .int (nI a))]) hx hb ps_d_spreadFrom_62 hl (k := 5) rfl (nI_1 b) (by decide) rfl (fun ls hl => ?_)
          refine lv_goto (tgt := 19) hx hb ps_d_spreadFrom_65 (by decide) ?_
          exact ih19 _ _ _ _ (by omega) ⟨b + 1, sa, fa, la, wa, _, _, _, rfl, by omega, zp_old (M := 16 * k0 + 4 * a + b) hI hkc hv.2 (by omega) (by rw [← hnx]; exact hold), hX, hcc, hP, hD, hS, lv_sub hl [2, 3, 4, 5, 0] rfl⟩
        · have hP : va_P (dC, dI) zz_cl [(o, .inr (1, [.int (nI n), .int (nI mb), .int (nI mk), .ref p1, .ref m1, .int (nI (ca + 1)), .int (nI sp)])), (p1, .inl (cA 1, pn, .inr (.inl (lA (va_up pa ca ((bn_with n (st k0) b (bn_par n (st k0) a)) * 2 ^ 20 + k0 * 16 + ((4 * a) + b))))))), (m1, .inl (cA 0, ml, .inl (nA (va_up ma ((bn_with n (st k0) b (bn_par n (st k0) a)) / 32) ((ma ((bn_with n (st k0) b (bn_par n (st k0) a)) / 32)) ||| 2 ^ ((bn_with n (st k0) b (bn_par n (st k0) a)) % 32))))))] H := hP
          have hD : va_D A [(o, .inr (1, [.int (nI n), .int (nI mb), .int (nI mk), .ref p1, .ref m1, .int (nI (ca + 1)), .int (nI sp)])), (p1, .inl (cA 1, pn, .inr (.inl (lA (va_up pa ca ((bn_with n (st k0) b (bn_par n (st k0) a)) * 2 ^ 20 + k0 * 16 + ((4 * a) + b))))))), (m1, .inl (cA 0, ml, .inl (nA (va_up ma ((bn_with n (st k0) b (bn_par n (st k0) a)) / 32) ((ma ((bn_with n (st k0) b (bn_par n (st k0) a)) / 32)) ||| 2 ^ ((bn_with n (st k0) b (bn_par n (st k0) a)) % 32))))))] := hD
          refine lv_iinc (v := (nI (b + 1))) (lv' := [(4, .int (nI (b + 1))), (5, .int (nI (bn_with n (st k0) b (bn_par n (st k0) a)))), (0, .ref o), (1, .int (nI k0)), (2, .int (nI (st k0))), (3, .int (nI a))]) hx hb ps_d_spreadFrom_62 hl (k := 5) rfl (nI_1 b) (by decide) rfl (fun ls hl => ?_)
          refine lv_goto (tgt := 19) hx hb ps_d_spreadFrom_65 (by decide) ?_
          exact ih19 _ _ _ _ (by omega) ⟨b + 1, va_up sa ca _, va_up fa ca k0, va_up la ca (4 * a + b), va_up wa ca ((4 * a + b) :: wa k0), _, _, _, rfl, by omega, zp_new (M := 16 * k0 + 4 * a + b) hI hkc hv.1 hv.2 (by omega) hnx hnew hz.1 (by omega), zp_ext_up hX, by have := hz.2.2 hnew; omega, hP, hD, hS, lv_sub hl [2, 3, 4, 5, 0] rfl⟩
