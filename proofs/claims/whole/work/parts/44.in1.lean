theorem zf_nw {n : Nat} (h1 : 1 ≤ n) (hn : n ≤ 4) : n ≤ zs_shifts n + (2 ^ n - 1) ∧ zs_shifts n + (2 ^ n - 1) - n < 32 := by
  rcases (show n = 1 ∨ n = 2 ∨ n = 3 ∨ n = 4 by omega) with rfl | rfl | rfl | rfl <;> decide
set_option maxHeartbeats 4000000 in
set_option maxRecDepth 100000 in
/-- LeastPhases() -/
theorem lp_init (l : Launch) (dC : Nat → ClassId) (dI : Nat → Nat → Nat) (cA : Nat → ClassId) (sz : Nat) (o : Nat)  : Met l lp_y_init lp_w_init ({ frames := 1, cells := 20, slots := 321, locals := 12 }) (va_Pc [.ref o] (fun U => zB (dC, dI) cA [(o, .inr (0, [.null, .int (nI 0), .int (nI 0), .null, .null, .int (nI 0)]))] sz U ∧ va_AOA .int U)) (va_Qv (fun (_ : Nat × Nat × Nat × (Nat → Nat)) => True) (fun u t => zE (dC, dI) (va_A [(o, .inr (0, [.null, .int (nI 0), .int (nI 0), .null, .null, .int (nI 0)]))] sz) ((fun (u : Nat × Nat × Nat × (Nat → Nat)) => ([(o, .inr (0, [.ref u.1, .int (nI 0), .int (nI 0), .ref u.2.1, .ref u.2.2.1, .int (nI 0)])), (u.1, .inl (cA 0, 16, .inl (nA (fun _ => 0)))), (u.2.1, .inl (cA 0, 16, .inl (nA (fun _ => 0)))), (u.2.2.1, .inl (cA 4, 17, .inr (.inr (.inr (.inr (zg_o u.2.2.2))))))] ++ zg_w cA u.2.2.2 (fun _ _ => 0))) u) t) (va_A [(o, .inr (0, [.null, .int (nI 0), .int (nI 0), .null, .null, .int (nI 0)]))] sz)) 20 321 (va_A [(o, .inr (0, [.null, .int (nI 0), .int (nI 0), .null, .null, .int (nI 0)]))] sz) := by
  refine Met.ofW (cc := lp_c_init) (maxL := 1) (ret := (none : Option Jvm.ClassFile.FieldType)) (by decide) rfl ?_
  intro p e s m args below meth c s₁ B hml hv
  obtain ⟨rfl, ⟨hsz, hP, hK, hD0, hZ⟩, hAOA⟩ := hv
  have hx := B.exec
  have hb := B.bytes
  have hr := B.returns
  have hts0 := atoms_spec (ws := lp_w_init) B.pre
  have hts : ∀ w ∈ zz_tbl, w.before _ s = true := fun w h => hts0 w (List.mem_cons_of_mem _ h)
  have hown : s.vm.findClass lp_R = some m.cls := findClass_of_methodNamed B.named
  have hlocks := B.notSynchronized
  have hin : meth.name = "<init>" := (name_of_methodNamed B.named B.method).1
  subst hsz
  have hD := hD0.self (sz := s.heap.size)
  generalize hAe : va_A [(o, .inr (0, [.null, .int (nI 0), .int (nI 0), .null, .null, .int (nI 0)]))] s.heap.size = A at hD hZ ⊢
  have hA : ∀ q : Nat, s.heap.size ≤ q → A q := fun q h => by rw [← hAe]; exact Or.inr h
  have hS : va_S A s.heap s.heap [] := va_S.rf
  have hP : va_P (dC, dI) zz_cl [(o, .inr (0, [.null, .int (nI 0), .int (nI 0), .null, .null, .int (nI 0)]))] s.heap := hP
  have hl := lv_entry ([.ref o]) (n := 1) (Nat.le_of_ble_eq_true rfl)
  rw [lg_entry_eq]
  generalize (lg_sl ([.ref o]) ++ List.replicate (1 - (lg_sl ([.ref o])).length) Slot.unset).toArray = ls at hl ⊢
  have hl : lv_has ls 1 [(0, .ref o)] := hl
  refine lv_aload_n hx hb lp_d_init_0 rfl (lv_at hl 0 rfl) ?_
  refine W.objInit hx hb hown (hts _ zk_lp3) (hts _ zk_im_object) (hts _ zk_cd_object) rfl (by rw [hml]; exact hl.1) rfl lp_d_init_1 (Nat.le_of_ble_eq_true rfl) (Nat.le_of_ble_eq_true rfl) ?_
  refine W.eq (g2 := F0 m 4 ls []) rfl ?_
  refine lv_aload_n hx hb lp_d_init_4 rfl (lv_at hl 0 rfl) ?_
  refine lv_bipush (v := (nI 16)) hx hb lp_d_init_5 (by decide) ?_
  refine zn_i (N' := 16) hx hb (hts _ zk_ac_int) hK hP hD hS hA (by decide) (Nat.le_of_ble_eq_true rfl) (Nat.le_of_ble_eq_true rfl) lp_d_init_7 (fun q_1 H hP hD hS => ?_)
  have hP : va_P (dC, dI) zz_cl [(o, .inr (0, [.null, .int (nI 0), .int (nI 0), .null, .null, .int (nI 0)])), (q_1, .inl (cA 0, 16, .inl (nA (fun _ => 0))))] H := hP
  have hD : va_D A [(o, .inr (0, [.null, .int (nI 0), .int (nI 0), .null, .null, .int (nI 0)])), (q_1, .inl (cA 0, 16, .inl (nA (fun _ => 0))))] := hD
  refine va_putF (D := (dC, dI)) (ci := 0) (v := .ref q_1) (ty := .array .int) (C := lp_R) (T := lp_T) (N := 6) hx hb hts lp_in lp_t lp_ok lp_nm hown hK hP hD hS 0 rfl rfl 0 (by decide) (hts _ zk_lp9) (fun _ h9 => h9) rfl hin rfl (by decide +kernel) rfl rfl (Nat.le_of_ble_eq_true rfl) lp_d_init_9 (fun H locs hP hD hS => ?_)
  have hP : va_P (dC, dI) zz_cl [(o, .inr (0, [.ref q_1, .int (nI 0), .int (nI 0), .null, .null, .int (nI 0)])), (q_1, .inl (cA 0, 16, .inl (nA (fun _ => 0))))] H := hP
  have hD : va_D A [(o, .inr (0, [.ref q_1, .int (nI 0), .int (nI 0), .null, .null, .int (nI 0)])), (q_1, .inl (cA 0, 16, .inl (nA (fun _ => 0))))] := hD
  refine lv_aload_n hx hb lp_d_init_12 rfl (lv_at hl 0 rfl) ?_
  refine lv_bipush (v := (nI 16)) hx hb lp_d_init_13 (by decide) ?_
  refine zn_i (N' := 16) hx hb (hts _ zk_ac_int) hK hP hD hS hA (by decide) (Nat.le_of_ble_eq_true rfl) (Nat.le_of_ble_eq_true rfl) lp_d_init_15 (fun q_2 H hP hD hS => ?_)
  have hP : va_P (dC, dI) zz_cl [(o, .inr (0, [.ref q_1, .int (nI 0), .int (nI 0), .null, .null, .int (nI 0)])), (q_1, .inl (cA 0, 16, .inl (nA (fun _ => 0)))), (q_2, .inl (cA 0, 16, .inl (nA (fun _ => 0))))] H := hP
  have hD : va_D A [(o, .inr (0, [.ref q_1, .int (nI 0), .int (nI 0), .null, .null, .int (nI 0)])), (q_1, .inl (cA 0, 16, .inl (nA (fun _ => 0)))), (q_2, .inl (cA 0, 16, .inl (nA (fun _ => 0))))] := hD
  refine va_putF (D := (dC, dI)) (ci := 0) (v := .ref q_2) (ty := .array .int) (C := lp_R) (T := lp_T) (N := 6) hx hb hts lp_in lp_t lp_ok lp_nm hown hK hP hD hS 0 rfl rfl 3 (by decide) (hts _ zk_lp15) (fun _ h9 => h9) rfl hin rfl (by decide +kernel) rfl rfl (Nat.le_of_ble_eq_true rfl) lp_d_init_17 (fun H locs hP hD hS => ?_)
  have hP : va_P (dC, dI) zz_cl [(o, .inr (0, [.ref q_1, .int (nI 0), .int (nI 0), .ref q_2, .null, .int (nI 0)])), (q_1, .inl (cA 0, 16, .inl (nA (fun _ => 0)))), (q_2, .inl (cA 0, 16, .inl (nA (fun _ => 0))))] H := hP
  have hD : va_D A [(o, .inr (0, [.ref q_1, .int (nI 0), .int (nI 0), .ref q_2, .null, .int (nI 0)])), (q_1, .inl (cA 0, 16, .inl (nA (fun _ => 0)))), (q_2, .inl (cA 0, 16, .inl (nA (fun _ => 0))))] := hD
  refine lv_aload_n hx hb lp_d_init_20 rfl (lv_at hl 0 rfl) ?_
  refine lv_bipush (v := (nI 17)) hx hb lp_d_init_21 (by decide) ?_
  refine lv_bipush (v := (nI 16)) hx hb lp_d_init_23 (by decide) ?_
  refine zn_g hx hb hown (hts _ zk_lp18) hAOA (hts _ zk_ac_int) hK hP hD hS hA (Nat.le_of_ble_eq_true rfl) (Nat.le_of_ble_eq_true rfl) lp_d_init_25 (fun q_3 rr H hP hD hS => ?_)
  have hP : va_P (dC, dI) zz_cl ([(o, .inr (0, [.ref q_1, .int (nI 0), .int (nI 0), .ref q_2, .null, .int (nI 0)])), (q_1, .inl (cA 0, 16, .inl (nA (fun _ => 0)))), (q_2, .inl (cA 0, 16, .inl (nA (fun _ => 0)))), (q_3, .inl (cA 4, 17, .inr (.inr (.inr (.inr (zg_o rr))))))] ++ zg_w cA rr (fun _ _ => 0)) H := hP
  have hD : va_D A ([(o, .inr (0, [.ref q_1, .int (nI 0), .int (nI 0), .ref q_2, .null, .int (nI 0)])), (q_1, .inl (cA 0, 16, .inl (nA (fun _ => 0)))), (q_2, .inl (cA 0, 16, .inl (nA (fun _ => 0)))), (q_3, .inl (cA 4, 17, .inr (.inr (.inr (.inr (zg_o rr))))))] ++ zg_w cA rr (fun _ _ => 0)) := hD
  refine va_putF (D := (dC, dI)) (ci := 0) (v := .ref q_3) (ty := .array (.array .int)) (C := lp_R) (T := lp_T) (N := 6) hx hb hts lp_in lp_t lp_ok lp_nm hown hK hP hD hS 0 rfl rfl 4 (by decide) (hts _ zk_lp20) (fun _ h9 => h9) rfl hin rfl (by decide +kernel) rfl rfl (Nat.le_of_ble_eq_true rfl) lp_d_init_29 (fun H locs hP hD hS => ?_)
  have hP : va_P (dC, dI) zz_cl ([(o, .inr (0, [.ref q_1, .int (nI 0), .int (nI 0), .ref q_2, .ref q_3, .int (nI 0)])), (q_1, .inl (cA 0, 16, .inl (nA (fun _ => 0)))), (q_2, .inl (cA 0, 16, .inl (nA (fun _ => 0)))), (q_3, .inl (cA 4, 17, .inr (.inr (.inr (.inr (zg_o rr))))))] ++ zg_w cA rr (fun _ _ => 0)) H := hP
  have hD : va_D A ([(o, .inr (0, [.ref q_1, .int (nI 0), .int (nI 0), .ref q_2, .ref q_3, .int (nI 0)])), (q_1, .inl (cA 0, 16, .inl (nA (fun _ => 0)))), (q_2, .inl (cA 0, 16, .inl (nA (fun _ => 0)))), (q_3, .inl (cA 4, 17, .inr (.inr (.inr (.inr (zg_o rr))))))] ++ zg_w cA rr (fun _ _ => 0)) := hD
  have hP9 := hP.sub (ws' := ([(o, .inr (0, [.ref q_1, .int (nI 0), .int (nI 0), .ref q_2, .ref q_3, .int (nI 0)])), (q_1, .inl (cA 0, 16, .inl (nA (fun _ => 0)))), (q_2, .inl (cA 0, 16, .inl (nA (fun _ => 0)))), (q_3, .inl (cA 4, 17, .inr (.inr (.inr (.inr (zg_o rr))))))] ++ zg_w cA rr (fun _ _ => 0))) [0, 1, 2, 3, 4, 5, 6, 7, 8, 9, 10, 11, 12, 13, 14, 15, 16, 17, 18, 19, 20] rfl
  have hD9 := hD.sub (ws' := ([(o, .inr (0, [.ref q_1, .int (nI 0), .int (nI 0), .ref q_2, .ref q_3, .int (nI 0)])), (q_1, .inl (cA 0, 16, .inl (nA (fun _ => 0)))), (q_2, .inl (cA 0, 16, .inl (nA (fun _ => 0)))), (q_3, .inl (cA 4, 17, .inr (.inr (.inr (.inr (zg_o rr))))))] ++ zg_w cA rr (fun _ _ => 0))) [0, 1, 2, 3, 4, 5, 6, 7, 8, 9, 10, 11, 12, 13, 14, 15, 16, 17, 18, 19, 20] (by decide) rfl
  refine W.widen (k := 20) (n := 321) (Nat.le_of_ble_eq_true rfl) (Nat.le_of_ble_eq_true rfl) ?_
  exact W.vret hx hb hr (fun t ht hW => ⟨⟨(q_1, q_2, q_3, rr), rfl, trivial, by rw [ht]; exact hP9, hD9⟩, hS.F ht⟩) hS.2.2 lp_d_init_32
set_option maxHeartbeats 4000000 in
set_option maxRecDepth 100000 in
/-- countWays(n) -/
theorem lp_countWays (l : Launch) (n : Nat) (hn1 : 1 ≤ n) (hn : n ≤ 4) : Met l lp_y_countWays lp_w_countWays ({ frames := 0, cells := 0, slots := 0, locals := 0 }) (va_Pc [.int (nI n)] (zs_all (fun _ => False))) (vp_Si (fun r => r = nI (2 ^ (zs_shifts n + (2 ^ n - 1) - n)))) 0 0 (fun _ => False) := by
  refine Met.ofW (cc := lp_c_countWays) (maxL := 2) (ret := (some .int)) (by decide) rfl ?_
  intro p e s m args below meth c s₁ B hml hv
  obtain ⟨rfl, hZ⟩ := hv
  have hx := B.exec
  have hb := B.bytes
  have hr := B.returns
  have hts0 := atoms_spec (ws := lp_w_countWays) B.pre
  have hts : ∀ w ∈ zz_tbl, w.before _ s = true := fun w h => hts0 w (List.mem_cons_of_mem _ h)
  have hown : s.vm.findClass lp_R = some m.cls := findClass_of_methodNamed B.named
  have hlocks := B.notSynchronized
  have hS : va_S (fun _ => False) s.heap s.heap [] := va_S.rf
  have hl := lv_entry ([.int (nI n)]) (n := 2) (Nat.le_of_ble_eq_true rfl)
  rw [lg_entry_eq]
  generalize (lg_sl ([.int (nI n)]) ++ List.replicate (2 - (lg_sl ([.int (nI n)])).length) Slot.unset).toArray = ls at hl ⊢
  have hl : lv_has ls 2 [(0, .int (nI n))] := hl
  have hpow : 0 < 2 ^ n := Nat.two_pow_pos n
  have hpow2 : 2 ^ n ≤ 2 ^ 4 := Nat.pow_le_pow_right (by decide) hn
  have hww := zf_ways hn1 hn
  have hnw := zf_nw hn1 hn
  refine lv_iconst (v := (nI 1)) hx hb lp_d_countWays_0 (by decide) ?_
  refine lv_iload_n hx hb lp_d_countWays_1 rfl (lv_at hl 0 rfl) ?_
  refine lv_ishl hx hb lp_d_countWays_2 ?_
  refine zt_i (zb_shl1 (k := n) (by omega)) ?_
  refine lv_iconst (v := (nI 1)) hx hb lp_d_countWays_3 (by decide) ?_
  refine lv_isub hx hb lp_d_countWays_4 ?_
  refine zt_i (pk_sub (a := (2 ^ n)) (b := 1) (by omega)) ?_
  refine lv_istore_n (lv' := [(1, .int (nI ((2 ^ n) - 1))), (0, .int (nI n))]) hx hb lp_d_countWays_5 rfl hl (by decide) rfl (fun ls hl => ?_)
  refine lv_iconst (v := (nI 1)) hx hb lp_d_countWays_6 (by decide) ?_
  refine zs_get hx hb hZ.2.2.1 hS hown (hts _ zk_lp23) lp_d_countWays_7 (fun t_1 ht_1 => ?_)
  refine lv_iload_n hx hb lp_d_countWays_10 rfl (lv_at hl 1 rfl) ?_
  refine zs_ald hx hb ht_1 hS (k := n) (by omega) (by decide) lp_d_countWays_11 ?_
  refine lv_iload_n hx hb lp_d_countWays_12 rfl (lv_at hl 0 rfl) ?_
  refine lv_iadd hx hb lp_d_countWays_13 ?_
  refine zt_i (nI_add (zs_shifts n) ((2 ^ n) - 1)) ?_
  refine lv_iload_n hx hb lp_d_countWays_14 rfl (lv_at hl 1 rfl) ?_
  refine lv_isub hx hb lp_d_countWays_15 ?_
  refine zt_i (pk_sub (a := ((zs_shifts n) + ((2 ^ n) - 1))) (b := n) (by omega)) ?_
  refine lv_ishl hx hb lp_d_countWays_16 ?_
  refine zt_i (zb_shl1 (k := (((zs_shifts n) + ((2 ^ n) - 1)) - n)) (by omega)) ?_
  exact W.iret (v := (nI (2 ^ (((zs_shifts n) + ((2 ^ n) - 1)) - n)))) hx hb hr (fun t ht hW => ⟨(nI (2 ^ (((zs_shifts n) + ((2 ^ n) - 1)) - n))), rfl, rfl, ht⟩) (fun q h => by cases h) lp_d_countWays_17
section ZX
variable {p : Program} {l : Launch} {e : Env} {R : Room} {s : State} {m : MethodId} {args : Array Value} {below : List Frame} {meth : Method} {c : Code} {H : Heap} {locs : List Loc} {cells slots : Nat} {Q : State → Prop}
variable {cc : ByteArray} {nL index : Nat} {own : String} {b : Nat} {rest : List Value} {pc : Nat} {ls : Array Slot} {dC : Nat → ClassId} {dI : Nat → Nat → Nat} {cA : Nat → ClassId} {A0 : Nat → Prop} {ws wr : va_W}
/-- a read by invokestatic, of the static arrays alone -/
theorem zq_Sz {y : MethodName} {bytes : ByteArray} {maxL n : Nat} {ret : Option FieldType} {rm : Room} {As st0 : List Value} {post : Int32 → Prop} (S : CallFix p m c cc nL s args zz_tbl own) (hM : Met l y (Cond.code y bytes maxL ret :: zz_tbl) rm (va_Pc As (zs_all (fun _ => False))) (vp_Si post) 0 0 (fun _ => False)) (hG : GoodIn zz_tbl (va_wsS own index y (Cond.code y bytes maxL ret :: zz_tbl)))
    (hd : y.cls ≠ "java/lang/invoke/MethodHandle" ∧ y.cls ≠ "java/lang/invoke/VarHandle" ∧ (parseMethodDescriptor y.desc).map (fun d => d.parameters.length) = some n) (hrc : rm.cells = 0 ∧ rm.slots = 0) (hR : rm.frames + 1 ≤ R.frames ∧ 8 + (maxL + 11) + rm.locals ≤ R.locals) (hS : va_S A0 s.heap H locs) (hZ : zs_all A0 s)
    (hn : As.length = n) (hl : ls.size = nL) (hst : st0 = As.reverse ++ rest) (hW : (rest.map fun v => v.category).sum ≤ 8) (hdg : decode cc pc = .ok (.invokestatic index, 3))
    (kk : ∀ r : Int32, post r → W p l e R s m args below meth c H locs cells slots Q (F0 m (pc + 3) ls (.int r :: rest))) (h0 : cells ≤ R.cells ∧ slots ≤ R.slots) : W p l e R s m args below meth c H locs cells slots Q (F0 m pc ls st0) := by
  refine vp_callSi (va_Run.run (va_runS (As := As) (rest := rest) S hM (va_cwS n S.2.2.2.2 hG rfl hrc.1 hrc.2 hd hR) ⟨fun a U g mk q => ⟨q.1, zs_move (locs := []) q.2 (va_S.rf : va_S _ U.heap U.heap []) (fun _ h => h) (Vm.Alike.refl U.vm)⟩, fun U hU hW => ⟨rfl, zs_move hZ (by rw [hU]; exact hS) (fun _ h => h.elim) hW.alike⟩⟩ rfl hn hl hst (by show 2 * 0 + _ ≤ 8; omega) hdg h0)) kk
/-- new LeastPhases(): the constructor of a nest mate -/
theorem zq_lpinit (S : CallFix p m c cc nL s args zz_tbl own) {host : String} (hN : va_Nw (.methodLinkNest own index lp_y_init host) s) (hAOA : va_AOA .int s) (hR : 1 + 1 ≤ R.frames ∧ 8 + (1 + 11) + 12 ≤ R.locals)
    (hK : va_K (dC, dI) zz_cl (zT cA) s) (hP : va_P (dC, dI) zz_cl ws H) (hD : va_D A0 ws) (hS : va_S A0 s.heap H locs) (hA : ∀ q, s.heap.size ≤ q → A0 q) (hZ : zs_all A0 s) (isC isR : List Nat) (hwc : isC.map (fun i => ws[i]?) = ([(b, .inr (0, [.null, .int (nI 0), .int (nI 0), .null, .null, .int (nI 0)]))] : va_W).map some) (hwr : isR.map (fun i => ws[i]?) = wr.map some) (hnd : va_nd isC = true ∧ va_nd isR = true ∧ ∀ i ∈ isR, i ∉ isC)
    (hl : ls.size = nL) (hW : (rest.map fun v => v.category).sum ≤ 8) (hdg : decode cc pc = .ok (.invokespecial index, 3))
    (kk : ∀ (u : Nat × Nat × Nat × (Nat → Nat)) (H1 : Heap) (locs1 : List Loc), va_P (dC, dI) zz_cl (wr ++ ([(b, .inr (0, [.ref u.1, .int (nI 0), .int (nI 0), .ref u.2.1, .ref u.2.2.1, .int (nI 0)])), (u.1, .inl (cA 0, 16, .inl (nA (fun _ => 0)))), (u.2.1, .inl (cA 0, 16, .inl (nA (fun _ => 0)))), (u.2.2.1, .inl (cA 4, 17, .inr (.inr (.inr (.inr (zg_o u.2.2.2))))))] ++ zg_w cA u.2.2.2 (fun _ _ => 0))) H1 → va_D A0 (wr ++ ([(b, .inr (0, [.ref u.1, .int (nI 0), .int (nI 0), .ref u.2.1, .ref u.2.2.1, .int (nI 0)])), (u.1, .inl (cA 0, 16, .inl (nA (fun _ => 0)))), (u.2.1, .inl (cA 0, 16, .inl (nA (fun _ => 0)))), (u.2.2.1, .inl (cA 4, 17, .inr (.inr (.inr (.inr (zg_o u.2.2.2))))))] ++ zg_w cA u.2.2.2 (fun _ _ => 0))) → va_S A0 s.heap H1 locs1 → W p l e R s m args below meth c H1 locs1 (cells + 20) (slots + 321) Q (F0 m (pc + 3) ls rest)) (h0 : cells + 20 ≤ R.cells ∧ slots + 321 ≤ R.slots) : W p l e R s m args below meth c H locs cells slots Q (F0 m pc ls (.ref b :: rest)) := by
  have hDc := hD.sub isC hnd.1 hwc
  have hPc : va_P (dC, dI) zz_cl [(b, .inr (0, [.null, .int (nI 0), .int (nI 0), .null, .null, .int (nI 0)]))] H := fun k x hx => by
    obtain ⟨i, -, h2⟩ := va_in_of isC hwc hx
    exact hP i x h2
  have hF := va_free hD hS hA isC hwc
  refine va_callv (va_runIN (As := []) (rest := rest) (b := b) S (lp_init l dC dI cA H.size b) ⟨va_cnB 0 S.2.2.2.2 (zz_I zk_cd_lp_init) rfl rfl rfl hN (S.2.2.2.2 _ zk_in_lp) (by decide +kernel) hR, rfl, S.2.2.2.2 _ zk_im_lp_init⟩ ⟨fun a U g mk q => ⟨(zB_bl (av := [.ref b]) a U g mk ⟨q.1, q.2.1⟩).1, (zB_bl (av := [.ref b]) a U g mk ⟨q.1, q.2.1⟩).2, va_AOA.moved (u := U) (U := U.calling g mk a) (Vm.Alike.refl U.vm) q.2.2⟩, fun U hU hW => ⟨rfl, ⟨by rw [hU], by rw [hU]; exact hPc, va_K.moved hW.alike hK, hDc.weaken (fun _ _ _ _ => trivial), zs_move hZ (by rw [hU]; exact hS) hF hW.alike⟩, va_AOA.moved hW.alike hAOA⟩⟩ rfl rfl hl rfl (by show 2 * 0 + _ ≤ 8; omega) hdg h0) hS (fun q _ h => hF q h) hF (fun u t H1 locs ht hvm hw hB hz1 hk1 hS => ?_)
  obtain ⟨hP1, hD1⟩ := hB
  rw [ht] at hP1
  obtain ⟨hP2, hD2⟩ := va_join hP hD isC isR hwc hwr hnd.2.1 hnd.2.2 hk1 hF hP1 hD1
  exact kk u H1 locs hP2 hD2 hS
end ZX
