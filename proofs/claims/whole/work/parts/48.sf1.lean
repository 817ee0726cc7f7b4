section ZV
variable {p : Program} {l : Launch} {e : Env} {R : Room} {s : State} {m : MethodId} {args : Array Value} {below : List Frame} {meth : Method} {c : Code} {H : Heap} {locs : List Loc} {cells slots : Nat} {Q : State → Prop}
variable {y : MethodName} {bytes cc : ByteArray} {maxL nL mc ms n index : Nat} {rm : Room} {own : String} {b : Nat} {As rest st0 : List Value} {pc : Nat} {ls : Array Slot} {D : va_G} {cA : Nat → ClassId} {wc : va_W} {A0 : Nat → Prop} {ws wr : va_W}
/-- a constructor by invokespecial -/
theorem zq_Iwv {σ : Type} {post : σ → Prop} {w1 : σ → va_W} (S : CallFix p m c cc nL s args zz_tbl own) (hM : Met l y (Cond.code y bytes maxL none :: zz_tbl) rm (va_Pc (.ref b :: As) (zB D cA wc H.size)) (va_Qv post (fun u t => zE D (va_A wc H.size) (w1 u) t) (va_A wc H.size)) mc ms (va_A wc H.size)) (hcd : Cond.code y bytes maxL none ∈ zz_tbl) (hln : Cond.methodLink own index y ∈ zz_tbl) (him : Cond.instanceMethod y ∈ zz_tbl) (hini : Cond.initialized y.cls ∈ zz_tbl) (hnm : y.name = "<init>")
    (hd : y.cls ≠ "java/lang/invoke/MethodHandle" ∧ y.cls ≠ "java/lang/invoke/VarHandle" ∧ (parseMethodDescriptor y.desc).map (fun d => d.parameters.length) = some n) (hrc : rm.cells = mc ∧ rm.slots = ms) (hR : rm.frames + 1 ≤ R.frames ∧ 8 + (maxL + 11) + rm.locals ≤ R.locals)
    (hK : va_K D zz_cl (zT cA) s) (hP : va_P D zz_cl ws H) (hD : va_D A0 ws) (hS : va_S A0 s.heap H locs) (hA : ∀ q, s.heap.size ≤ q → A0 q) (hZ : zs_all A0 s) (isC isR : List Nat) (hwc : isC.map (fun i => ws[i]?) = wc.map some) (hwr : isR.map (fun i => ws[i]?) = wr.map some) (hnd : va_nd isC = true ∧ va_nd isR = true ∧ ∀ i ∈ isR, i ∉ isC)
    (hn : As.length = n) (hl : ls.size = nL) (hst : st0 = As.reverse ++ .ref b :: rest) (hW : (rest.map fun v => v.category).sum ≤ 8) (hdg : decode cc pc = .ok (.invokespecial index, 3))
    (kk : ∀ (u : σ) (H1 : Heap) (locs1 : List Loc), post u → va_P D zz_cl (wr ++ w1 u) H1 → va_D A0 (wr ++ w1 u) → va_S A0 s.heap H1 locs1 → W p l e R s m args below meth c H1 locs1 (cells + mc) (slots + ms) Q (F0 m (pc + 3) ls rest)) (h0 : cells + mc ≤ R.cells ∧ slots + ms ≤ R.slots) : W p l e R s m args below meth c H locs cells slots Q (F0 m pc ls st0) := by
  have hDc := hD.sub isC hnd.1 hwc
  have hPc : va_P D zz_cl wc H := fun k x hx => by
    obtain ⟨i, -, h2⟩ := va_in_of isC hwc hx
    exact hP i x h2
  have hF := va_free hD hS hA isC hwc
  have ht := S.2.2.2.2
  refine va_callv (va_runI (As := As) (rest := rest) (b := b) S hM (cwI n ht (zz_I hcd) rfl hrc.1 hrc.2 (ht _ hini) (ht _ hln) (ht _ him) hnm hd hR) ⟨zB_bl, fun U hU hW => ⟨rfl, by rw [hU], by rw [hU]; exact hPc, va_K.moved hW.alike hK, hDc.weaken (fun _ _ _ _ => trivial), zs_move hZ (by rw [hU]; exact hS) hF hW.alike⟩⟩ rfl hn hl hst (by show 2 * 0 + _ ≤ 8; omega) hdg h0) hS (fun q _ h => hF q h) hF (fun u t H1 locs ht hvm hw hB hz1 hk1 hS => ?_)
  obtain ⟨hP1, hD1⟩ := hB
  rw [ht] at hP1
  obtain ⟨hP2, hD2⟩ := va_join hP hD isC isR hwc hwr hnd.2.1 hnd.2.2 hk1 hF hP1 hD1
  exact kk u H1 locs hw hP2 hD2 hS
end ZV
set_option maxHeartbeats 4000000 in
set_option maxRecDepth 100000 in
/-- searchForWires(), there is one -/
theorem pc_sfw (l : Launch) (dC : Nat → ClassId) (dI : Nat → Nat → Nat) (cA : Nat → ClassId) (sz : Nat) (o a1 a2 o3 a4 n lk : Nat) (li ne : Int32) (sf : Nat → Option Nat) (q0 : Nat) (hn : n ≤ 4) (hsf : sf n = some q0) : Met l pc_y_searchForWires pc_w_searchForWires ({ frames := 0, cells := 0, slots := 0, locals := 0 }) (va_Pc [.ref o] (zB (dC, dI) cA [(o, .inr (2, [.ref a1, .ref a2, .ref o3, .ref a4, .int (nI n), .int (nI lk), .int li, .int ne])), (a4, .inl (cA 3, 5, .inr (.inr (.inr (.inr sf)))))] sz)) (va_Qr (fun (_ : Unit) => True) (fun u q t => q = (fun _ => q0) u ∧ zE (dC, dI) (va_A [(o, .inr (2, [.ref a1, .ref a2, .ref o3, .ref a4, .int (nI n), .int (nI lk), .int li, .int ne])), (a4, .inl (cA 3, 5, .inr (.inr (.inr (.inr sf)))))] sz) ((fun _ => [(o, .inr (2, [.ref a1, .ref a2, .ref o3, .ref a4, .int (nI n), .int (nI lk), .int li, .int ne])), (a4, .inl (cA 3, 5, .inr (.inr (.inr (.inr sf)))))]) u) t) (va_A [(o, .inr (2, [.ref a1, .ref a2, .ref o3, .ref a4, .int (nI n), .int (nI lk), .int li, .int ne])), (a4, .inl (cA 3, 5, .inr (.inr (.inr (.inr sf)))))] sz)) 0 0 (va_A [(o, .inr (2, [.ref a1, .ref a2, .ref o3, .ref a4, .int (nI n), .int (nI lk), .int li, .int ne])), (a4, .inl (cA 3, 5, .inr (.inr (.inr (.inr sf)))))] sz) := by
  refine Met.ofW (cc := pc_c_searchForWires) (maxL := 1) (ret := (some (.object "PhaseCounts$PlanSearch"))) (by decide) rfl ?_
  intro p e s m args below meth c s₁ B hml hv
  obtain ⟨rfl, hsz, hP, hK, hD0, hZ⟩ := hv
  have hx := B.exec
  have hb := B.bytes
  have hr := B.returns
  have hts0 := atoms_spec (ws := pc_w_searchForWires) B.pre
  have hts : ∀ w ∈ zz_tbl, w.before _ s = true := fun w h => hts0 w (List.mem_cons_of_mem _ h)
  have hown : s.vm.findClass pc_R = some m.cls := findClass_of_methodNamed B.named
  have hlocks := B.notSynchronized
  subst hsz
  have hD := hD0.self (sz := s.heap.size)
  generalize hAe : va_A [(o, .inr (2, [.ref a1, .ref a2, .ref o3, .ref a4, .int (nI n), .int (nI lk), .int li, .int ne])), (a4, .inl (cA 3, 5, .inr (.inr (.inr (.inr sf)))))] s.heap.size = A at hD hZ ⊢
  have hA : ∀ q : Nat, s.heap.size ≤ q → A q := fun q h => by rw [← hAe]; exact Or.inr h
  have hS : va_S A s.heap s.heap [] := va_S.rf
  have hP : va_P (dC, dI) zz_cl [(o, .inr (2, [.ref a1, .ref a2, .ref o3, .ref a4, .int (nI n), .int (nI lk), .int li, .int ne])), (a4, .inl (cA 3, 5, .inr (.inr (.inr (.inr sf)))))] s.heap := hP
  have hl := lv_entry ([.ref o]) (n := 1) (Nat.le_of_ble_eq_true rfl)
  rw [lg_entry_eq]
  generalize (lg_sl ([.ref o]) ++ List.replicate (1 - (lg_sl ([.ref o])).length) Slot.unset).toArray = ls at hl ⊢
  have hl : lv_has ls 1 [(0, .ref o)] := hl
  refine lv_aload_n hx hb pc_d_searchForWires_0 rfl (lv_at hl 0 rfl) ?_
  refine va_get (D := (dC, dI)) (ci := 2) (v := .ref a4) (C := pc_R) (T := pc_T) (N := 8) hx hb hts pc_in hown hK hP 0 rfl rfl 3 (by decide) (hts _ zk_pc25) (fun _ h9 => h9) rfl pc_d_searchForWires_1 ?_
  refine lv_aload_n hx hb pc_d_searchForWires_4 rfl (lv_at hl 0 rfl) ?_
  refine va_get (D := (dC, dI)) (ci := 2) (v := .int (nI n)) (C := pc_R) (T := pc_T) (N := 8) hx hb hts pc_in hown hK hP 0 rfl rfl 4 (by decide) (hts _ zk_pc95) (fun _ h9 => h9) rfl pc_d_searchForWires_5 ?_
  refine va_aldq (C := "PhaseCounts$PlanSearch") hx hb hK hP 1 3 rfl rfl (vp_in_nI (by omega) (by decide)) pc_d_searchForWires_8 ?_
  refine zt_v (y := .ref q0) (by rw [nI_clamp (by omega), hsf]; rfl) ?_
  refine lv_ifnonnull (tgt := 32) hx hb pc_d_searchForWires_9 (by decide) ?_
  refine lv_aload_n hx hb pc_d_searchForWires_32 rfl (lv_at hl 0 rfl) ?_
  refine va_get (D := (dC, dI)) (ci := 2) (v := .ref a4) (C := pc_R) (T := pc_T) (N := 8) hx hb hts pc_in hown hK hP 0 rfl rfl 3 (by decide) (hts _ zk_pc25) (fun _ h9 => h9) rfl pc_d_searchForWires_33 ?_
  refine lv_aload_n hx hb pc_d_searchForWires_36 rfl (lv_at hl 0 rfl) ?_
  refine va_get (D := (dC, dI)) (ci := 2) (v := .int (nI n)) (C := pc_R) (T := pc_T) (N := 8) hx hb hts pc_in hown hK hP 0 rfl rfl 4 (by decide) (hts _ zk_pc95) (fun _ h9 => h9) rfl pc_d_searchForWires_37 ?_
  refine va_aldq (C := "PhaseCounts$PlanSearch") hx hb hK hP 1 3 rfl rfl (vp_in_nI (by omega) (by decide)) pc_d_searchForWires_40 ?_
  refine zt_v (y := .ref q0) (by rw [nI_clamp (by omega), hsf]; rfl) ?_
  have hP9 := hP.sub (ws' := [(o, .inr (2, [.ref a1, .ref a2, .ref o3, .ref a4, .int (nI n), .int (nI lk), .int li, .int ne])), (a4, .inl (cA 3, 5, .inr (.inr (.inr (.inr sf)))))]) [0, 1] rfl
  have hD9 := hD.sub (ws' := [(o, .inr (2, [.ref a1, .ref a2, .ref o3, .ref a4, .int (nI n), .int (nI lk), .int li, .int ne])), (a4, .inl (cA 3, 5, .inr (.inr (.inr (.inr sf)))))]) [0, 1] (by decide) rfl
  exact W.aret (v := .ref q0) hx hb hr (Or.inl ⟨_, rfl⟩) (Or.inr ⟨_, rfl⟩) (fun t ht hW => ⟨⟨(), q0, rfl, trivial, rfl, by rw [ht]; exact hP9, hD9⟩, hS.F ht⟩) hS.2.2 pc_d_searchForWires_41
set_option maxHeartbeats 4000000 in
set_option maxRecDepth 100000 in
/-- searchForWires(), there is none for 1 wires -/
theorem pc_sfw1 (l : Launch) (dC : Nat → ClassId) (dI : Nat → Nat → Nat) (cA : Nat → ClassId) (sz : Nat) (o a1 a2 o3 a4 lk : Nat) (li ne : Int32) (sf : Nat → Option Nat) (hsf : sf 1 = none) : Met l pc_y_searchForWires pc_w_searchForWires ({ frames := 3, cells := 3, slots := 9, locals := 70 }) (va_Pc [.ref o] (zB (dC, dI) cA [(o, .inr (2, [.ref a1, .ref a2, .ref o3, .ref a4, .int (nI 1), .int (nI lk), .int li, .int ne])), (a4, .inl (cA 3, 5, .inr (.inr (.inr (.inr sf)))))] sz)) (va_Qr (fun (u : Nat × Nat × Nat × (Nat → Nat) × (Nat → Nat)) => zp_I 1 (fun _ => 3) (fun _ => 0) (fun _ => 0) (fun _ => []) u.2.2.2.1 u.2.2.2.2 1 0) (fun u q t => q = (fun (u : Nat × Nat × Nat × (Nat → Nat) × (Nat → Nat)) => u.1) u ∧ zE (dC, dI) (va_A [(o, .inr (2, [.ref a1, .ref a2, .ref o3, .ref a4, .int (nI 1), .int (nI lk), .int li, .int ne])), (a4, .inl (cA 3, 5, .inr (.inr (.inr (.inr sf)))))] sz) ((fun (u : Nat × Nat × Nat × (Nat → Nat) × (Nat → Nat)) => [(o, .inr (2, [.ref a1, .ref a2, .ref o3, .ref a4, .int (nI 1), .int (nI lk), .int li, .int ne])), (a4, .inl (cA 3, 5, .inr (.inr (.inr (.inr (va_up sf 1 (some u.1))))))), (u.1, .inr (1, [.int (nI 1), .int (nI 1), .int (nI 1), .ref u.2.1, .ref u.2.2.1, .int (nI 1), .int (nI 0)])), (u.2.1, .inl (cA 1, 1, .inr (.inl (lA u.2.2.2.1)))), (u.2.2.1, .inl (cA 0, 1, .inl (nA u.2.2.2.2)))]) u) t) (va_A [(o, .inr (2, [.ref a1, .ref a2, .ref o3, .ref a4, .int (nI 1), .int (nI lk), .int li, .int ne])), (a4, .inl (cA 3, 5, .inr (.inr (.inr (.inr sf)))))] sz)) 3 9 (va_A [(o, .inr (2, [.ref a1, .ref a2, .ref o3, .ref a4, .int (nI 1), .int (nI lk), .int li, .int ne])), (a4, .inl (cA 3, 5, .inr (.inr (.inr (.inr sf)))))] sz) := by
  refine Met.ofW (cc := pc_c_searchForWires) (maxL := 1) (ret := (some (.object "PhaseCounts$PlanSearch"))) (by decide) rfl ?_
  intro p e s m args below meth c s₁ B hml hv
  obtain ⟨rfl, hsz, hP, hK, hD0, hZ⟩ := hv
  have hx := B.exec
  have hb := B.bytes
  have hr := B.returns
  have hts0 := atoms_spec (ws := pc_w_searchForWires) B.pre
  have hts : ∀ w ∈ zz_tbl, w.before _ s = true := fun w h => hts0 w (List.mem_cons_of_mem _ h)
  have hown : s.vm.findClass pc_R = some m.cls := findClass_of_methodNamed B.named
  have hlocks := B.notSynchronized
  subst hsz
  have hD := hD0.self (sz := s.heap.size)
  generalize hAe : va_A [(o, .inr (2, [.ref a1, .ref a2, .ref o3, .ref a4, .int (nI 1), .int (nI lk), .int li, .int ne])), (a4, .inl (cA 3, 5, .inr (.inr (.inr (.inr sf)))))] s.heap.size = A at hD hZ ⊢
  have hA : ∀ q : Nat, s.heap.size ≤ q → A q := fun q h => by rw [← hAe]; exact Or.inr h
  have hS : va_S A s.heap s.heap [] := va_S.rf
  have hP : va_P (dC, dI) zz_cl [(o, .inr (2, [.ref a1, .ref a2, .ref o3, .ref a4, .int (nI 1), .int (nI lk), .int li, .int ne])), (a4, .inl (cA 3, 5, .inr (.inr (.inr (.inr sf)))))] s.heap := hP
  have hl := lv_entry ([.ref o]) (n := 1) (Nat.le_of_ble_eq_true rfl)
  rw [lg_entry_eq]
  generalize (lg_sl ([.ref o]) ++ List.replicate (1 - (lg_sl ([.ref o])).length) Slot.unset).toArray = ls at hl ⊢
  have hl : lv_has ls 1 [(0, .ref o)] := hl
  refine lv_aload_n hx hb pc_d_searchForWires_0 rfl (lv_at hl 0 rfl) ?_
  refine va_get (D := (dC, dI)) (ci := 2) (v := .ref a4) (C := pc_R) (T := pc_T) (N := 8) hx hb hts pc_in hown hK hP 0 rfl rfl 3 (by decide) (hts _ zk_pc25) (fun _ h9 => h9) rfl pc_d_searchForWires_1 ?_
  refine lv_aload_n hx hb pc_d_searchForWires_4 rfl (lv_at hl 0 rfl) ?_
  refine va_get (D := (dC, dI)) (ci := 2) (v := .int (nI 1)) (C := pc_R) (T := pc_T) (N := 8) hx hb hts pc_in hown hK hP 0 rfl rfl 4 (by decide) (hts _ zk_pc95) (fun _ h9 => h9) rfl pc_d_searchForWires_5 ?_
  refine va_aldq (C := "PhaseCounts$PlanSearch") hx hb hK hP 1 3 rfl rfl (vp_in_nI (by omega) (by decide)) pc_d_searchForWires_8 ?_
  refine zt_v (y := .null) (by rw [nI_clamp (n := 1) (by omega), hsf]; rfl) ?_
  refine lv_ifnonnullN hx hb pc_d_searchForWires_9 ?_
  refine lv_aload_n hx hb pc_d_searchForWires_12 rfl (lv_at hl 0 rfl) ?_
  refine va_get (D := (dC, dI)) (ci := 2) (v := .ref a4) (C := pc_R) (T := pc_T) (N := 8) hx hb hts pc_in hown hK hP 0 rfl rfl 3 (by decide) (hts _ zk_pc25) (fun _ h9 => h9) rfl pc_d_searchForWires_13 ?_
  refine lv_aload_n hx hb pc_d_searchForWires_16 rfl (lv_at hl 0 rfl) ?_
  refine va_get (D := (dC, dI)) (ci := 2) (v := .int (nI 1)) (C := pc_R) (T := pc_T) (N := 8) hx hb hts pc_in hown hK hP 0 rfl rfl 4 (by decide) (hts _ zk_pc95) (fun _ h9 => h9) rfl pc_d_searchForWires_17 ?_
  refine va_new (ci := 1) (fs := [.int (nI 0), .int (nI 0), .int (nI 0), .null, .null, .int (nI 0), .int (nI 0)]) (C := ps_R) (T := ps_T) (N := 7) hx hb hts ps_in ps_t ps_ok hown (hts _ zk_pc23) (hts _ zk_ma_ps) (hts _ zk_in_ps) hK hP hD hS hA rfl (fun j hj => by rcases (show j = 0 ∨ j = 1 ∨ j = 2 ∨ j = 3 ∨ j = 4 ∨ j = 5 ∨ j = 6 by omega) with rfl | rfl | rfl | rfl | rfl | rfl | rfl <;> rfl) (Nat.le_of_ble_eq_true rfl) (Nat.le_of_ble_eq_true rfl) pc_d_searchForWires_20 (fun q_1 H hP hD hS => ?_)
  have hP : va_P (dC, dI) zz_cl [(o, .inr (2, [.ref a1, .ref a2, .ref o3, .ref a4, .int (nI 1), .int (nI lk), .int li, .int ne])), (a4, .inl (cA 3, 5, .inr (.inr (.inr (.inr sf))))), (q_1, .inr (1, [.int (nI 0), .int (nI 0), .int (nI 0), .null, .null, .int (nI 0), .int (nI 0)]))] H := hP
  have hD : va_D A [(o, .inr (2, [.ref a1, .ref a2, .ref o3, .ref a4, .int (nI 1), .int (nI lk), .int li, .int ne])), (a4, .inl (cA 3, 5, .inr (.inr (.inr (.inr sf))))), (q_1, .inr (1, [.int (nI 0), .int (nI 0), .int (nI 0), .null, .null, .int (nI 0), .int (nI 0)]))] := hD
  refine lv_dup hx hb pc_d_searchForWires_23 rfl ?_
  refine lv_aload_n hx hb pc_d_searchForWires_24 rfl (lv_at hl 0 rfl) ?_
  refine va_get (D := (dC, dI)) (ci := 2) (v := .int (nI 1)) (C := pc_R) (T := pc_T) (N := 8) hx hb hts pc_in hown hK hP 0 rfl rfl 4 (by decide) (hts _ zk_pc95) (fun _ h9 => h9) rfl pc_d_searchForWires_25 ?_
  refine zq_Iwv (n := 1) (As := [.int (nI 1)]) (rest := [.ref q_1, .int (nI 1), .ref a4]) (wc := [(q_1, .inr (1, [.int (nI 0), .int (nI 0), .int (nI 0), .null, .null, .int (nI 0), .int (nI 0)]))]) (wr := [(o, .inr (2, [.ref a1, .ref a2, .ref o3, .ref a4, .int (nI 1), .int (nI lk), .int li, .int ne])), (a4, .inl (cA 3, 5, .inr (.inr (.inr (.inr sf)))))]) ⟨hx, hb, hml, hown, hts⟩ (ps_init1 l dC dI cA _ q_1) zk_cd_ps_init zk_pc115 zk_im_ps_init zk_in_ps rfl (by decide +kernel) ⟨rfl, rfl⟩ ⟨Nat.le_of_ble_eq_true rfl, Nat.le_of_ble_eq_true rfl⟩ hK hP hD hS hA hZ [2] [0, 1] rfl rfl (by decide) rfl hl.1 rfl (Nat.le_of_ble_eq_true rfl) pc_d_searchForWires_28 (fun u_2 H locs h_3 hP hD hS => ?_) ⟨Nat.le_of_ble_eq_true rfl, Nat.le_of_ble_eq_true rfl⟩
  obtain ⟨p1, m1, pl, mt⟩ := u_2
  have hP : va_P (dC, dI) zz_cl [(o, .inr (2, [.ref a1, .ref a2, .ref o3, .ref a4, .int (nI 1), .int (nI lk), .int li, .int ne])), (a4, .inl (cA 3, 5, .inr (.inr (.inr (.inr sf))))), (q_1, .inr (1, [.int (nI 1), .int (nI 1), .int (nI 1), .ref p1, .ref m1, .int (nI 1), .int (nI 0)])), (p1, .inl (cA 1, 1, .inr (.inl (lA pl)))), (m1, .inl (cA 0, 1, .inl (nA mt)))] H := hP
  have hD : va_D A [(o, .inr (2, [.ref a1, .ref a2, .ref o3, .ref a4, .int (nI 1), .int (nI lk), .int li, .int ne])), (a4, .inl (cA 3, 5, .inr (.inr (.inr (.inr sf))))), (q_1, .inr (1, [.int (nI 1), .int (nI 1), .int (nI 1), .ref p1, .ref m1, .int (nI 1), .int (nI 0)])), (p1, .inl (cA 1, 1, .inr (.inl (lA pl)))), (m1, .inl (cA 0, 1, .inl (nA mt)))] := hD
  refine va_astq (r := (ps_R, ps_T, 7)) hx hb hK hP hD hS 1 3 2 1 rfl rfl rfl rfl (vp_in_nI (by omega) (by decide)) pc_d_searchForWires_31 (fun H locs hP hD hS => ?_)
  rw [nI_clamp (n := 1) (by omega)] at hP hD
  have hP : va_P (dC, dI) zz_cl [(o, .inr (2, [.ref a1, .ref a2, .ref o3, .ref a4, .int (nI 1), .int (nI lk), .int li, .int ne])), (a4, .inl (cA 3, 5, .inr (.inr (.inr (.inr (va_up sf 1 (some q_1))))))), (q_1, .inr (1, [.int (nI 1), .int (nI 1), .int (nI 1), .ref p1, .ref m1, .int (nI 1), .int (nI 0)])), (p1, .inl (cA 1, 1, .inr (.inl (lA pl)))), (m1, .inl (cA 0, 1, .inl (nA mt)))] H := hP
  have hD : va_D A [(o, .inr (2, [.ref a1, .ref a2, .ref o3, .ref a4, .int (nI 1), .int (nI lk), .int li, .int ne])), (a4, .inl (cA 3, 5, .inr (.inr (.inr (.inr (va_up sf 1 (some q_1))))))), (q_1, .inr (1, [.int (nI 1), .int (nI 1), .int (nI 1), .ref p1, .ref m1, .int (nI 1), .int (nI 0)])), (p1, .inl (cA 1, 1, .inr (.inl (lA pl)))), (m1, .inl (cA 0, 1, .inl (nA mt)))] := hD
  refine lv_aload_n hx hb pc_d_searchForWires_32 rfl (lv_at hl 0 rfl) ?_
  refine va_get (D := (dC, dI)) (ci := 2) (v := .ref a4) (C := pc_R) (T := pc_T) (N := 8) hx hb hts pc_in hown hK hP 0 rfl rfl 3 (by decide) (hts _ zk_pc25) (fun _ h9 => h9) rfl pc_d_searchForWires_33 ?_
  refine lv_aload_n hx hb pc_d_searchForWires_36 rfl (lv_at hl 0 rfl) ?_
  refine va_get (D := (dC, dI)) (ci := 2) (v := .int (nI 1)) (C := pc_R) (T := pc_T) (N := 8) hx hb hts pc_in hown hK hP 0 rfl rfl 4 (by decide) (hts _ zk_pc95) (fun _ h9 => h9) rfl pc_d_searchForWires_37 ?_
  refine va_aldq (C := "PhaseCounts$PlanSearch") hx hb hK hP 1 3 rfl rfl (vp_in_nI (by omega) (by decide)) pc_d_searchForWires_40 ?_
  refine zt_v (y := .ref q_1) (by rw [nI_clamp (n := 1) (by omega), va_up_self]; rfl) ?_
  have hP9 := hP.sub (ws' := [(o, .inr (2, [.ref a1, .ref a2, .ref o3, .ref a4, .int (nI 1), .int (nI lk), .int li, .int ne])), (a4, .inl (cA 3, 5, .inr (.inr (.inr (.inr (va_up sf 1 (some q_1))))))), (q_1, .inr (1, [.int (nI 1), .int (nI 1), .int (nI 1), .ref p1, .ref m1, .int (nI 1), .int (nI 0)])), (p1, .inl (cA 1, 1, .inr (.inl (lA pl)))), (m1, .inl (cA 0, 1, .inl (nA mt)))]) [0, 1, 2, 3, 4] rfl
  have hD9 := hD.sub (ws' := [(o, .inr (2, [.ref a1, .ref a2, .ref o3, .ref a4, .int (nI 1), .int (nI lk), .int li, .int ne])), (a4, .inl (cA 3, 5, .inr (.inr (.inr (.inr (va_up sf 1 (some q_1))))))), (q_1, .inr (1, [.int (nI 1), .int (nI 1), .int (nI 1), .ref p1, .ref m1, .int (nI 1), .int (nI 0)])), (p1, .inl (cA 1, 1, .inr (.inl (lA pl)))), (m1, .inl (cA 0, 1, .inl (nA mt)))]) [0, 1, 2, 3, 4] (by decide) rfl
  refine W.widen (k := 3) (n := 9) (Nat.le_of_ble_eq_true rfl) (Nat.le_of_ble_eq_true rfl) ?_
  exact W.aret (v := .ref q_1) hx hb hr (Or.inl ⟨_, rfl⟩) (Or.inr ⟨_, rfl⟩) (fun t ht hW => ⟨⟨(q_1, p1, m1, pl, mt), q_1, rfl, h_3, rfl, by rw [ht]; exact hP9, hD9⟩, hS.F ht⟩) hS.2.2 pc_d_searchForWires_41
set_option maxHeartbeats 4000000 in
set_option maxRecDepth 100000 in
/-- searchForWires(), there is none for 2 wires -/
theorem pc_sfw2 (l : Launch) (dC : Nat → ClassId) (dI : Nat → Nat → Nat) (cA : Nat → ClassId) (sz : Nat) (o a1 a2 o3 a4 lk : Nat) (li ne : Int32) (sf : Nat → Option Nat) (hsf : sf 2 = none) : Met l pc_y_searchForWires pc_w_searchForWires ({ frames := 3, cells := 3, slots := 19, locals := 70 }) (va_Pc [.ref o] (zB (dC, dI) cA [(o, .inr (2, [.ref a1, .ref a2, .ref o3, .ref a4, .int (nI 2), .int (nI lk), .int li, .int ne])), (a4, .inl (cA 3, 5, .inr (.inr (.inr (.inr sf)))))] sz)) (va_Qr (fun (u : Nat × Nat × Nat × (Nat → Nat) × (Nat → Nat)) => zp_I 2 (fun _ => 57) (fun _ => 0) (fun _ => 0) (fun _ => []) u.2.2.2.1 u.2.2.2.2 1 0) (fun u q t => q = (fun (u : Nat × Nat × Nat × (Nat → Nat) × (Nat → Nat)) => u.1) u ∧ zE (dC, dI) (va_A [(o, .inr (2, [.ref a1, .ref a2, .ref o3, .ref a4, .int (nI 2), .int (nI lk), .int li, .int ne])), (a4, .inl (cA 3, 5, .inr (.inr (.inr (.inr sf)))))] sz) ((fun (u : Nat × Nat × Nat × (Nat → Nat) × (Nat → Nat)) => [(o, .inr (2, [.ref a1, .ref a2, .ref o3, .ref a4, .int (nI 2), .int (nI lk), .int li, .int ne])), (a4, .inl (cA 3, 5, .inr (.inr (.inr (.inr (va_up sf 2 (some u.1))))))), (u.1, .inr (1, [.int (nI 2), .int (nI 4), .int (nI 1), .ref u.2.1, .ref u.2.2.1, .int (nI 1), .int (nI 0)])), (u.2.1, .inl (cA 1, 7, .inr (.inl (lA u.2.2.2.1)))), (u.2.2.1, .inl (cA 0, 5, .inl (nA u.2.2.2.2)))]) u) t) (va_A [(o, .inr (2, [.ref a1, .ref a2, .ref o3, .ref a4, .int (nI 2), .int (nI lk), .int li, .int ne])), (a4, .inl (cA 3, 5, .inr (.inr (.inr (.inr sf)))))] sz)) 3 19 (va_A [(o, .inr (2, [.ref a1, .ref a2, .ref o3, .ref a4, .int (nI 2), .int (nI lk), .int li, .int ne])), (a4, .inl (cA 3, 5, .inr (.inr (.inr (.inr sf)))))] sz) := by
  refine Met.ofW (cc := pc_c_searchForWires) (maxL := 1) (ret := (some (.object "PhaseCounts$PlanSearch"))) (by decide) rfl ?_
  intro p e s m args below meth c s₁ B hml hv
  obtain ⟨rfl, hsz, hP, hK, hD0, hZ⟩ := hv
  have hx := B.exec
  have hb := B.bytes
  have hr := B.returns
  have hts0 := atoms_spec (ws := pc_w_searchForWires) B.pre
  have hts : ∀ w ∈ zz_tbl, w.before _ s = true := fun w h => hts0 w (List.mem_cons_of_mem _ h)
  have hown : s.vm.findClass pc_R = some m.cls := findClass_of_methodNamed B.named
  have hlocks := B.notSynchronized
  subst hsz
  have hD := hD0.self (sz := s.heap.size)
  generalize hAe : va_A [(o, .inr (2, [.ref a1, .ref a2, .ref o3, .ref a4, .int (nI 2), .int (nI lk), .int li, .int ne])), (a4, .inl (cA 3, 5, .inr (.inr (.inr (.inr sf)))))] s.heap.size = A at hD hZ ⊢
  have hA : ∀ q : Nat, s.heap.size ≤ q → A q := fun q h => by rw [← hAe]; exact Or.inr h
  have hS : va_S A s.heap s.heap [] := va_S.rf
  have hP : va_P (dC, dI) zz_cl [(o, .inr (2, [.ref a1, .ref a2, .ref o3, .ref a4, .int (nI 2), .int (nI lk), .int li, .int ne])), (a4, .inl (cA 3, 5, .inr (.inr (.inr (.inr sf)))))] s.heap := hP
  have hl := lv_entry ([.ref o]) (n := 1) (Nat.le_of_ble_eq_true rfl)
  rw [lg_entry_eq]
  generalize (lg_sl ([.ref o]) ++ List.replicate (1 - (lg_sl ([.ref o])).length) Slot.unset).toArray = ls at hl ⊢
  have hl : lv_has ls 1 [(0, .ref o)] := hl
  refine lv_aload_n hx hb pc_d_searchForWires_0 rfl (lv_at hl 0 rfl) ?_
  refine va_get (D := (dC, dI)) (ci := 2) (v := .ref a4) (C := pc_R) (T := pc_T) (N := 8) hx hb hts pc_in hown hK hP 0 rfl rfl 3 (by decide) (hts _ zk_pc25) (fun _ h9 => h9) rfl pc_d_searchForWires_1 ?_
  refine lv_aload_n hx hb pc_d_searchForWires_4 rfl (lv_at hl 0 rfl) ?_
  refine va_get (D := (dC, dI)) (ci := 2) (v := .int (nI 2)) (C := pc_R) (T := pc_T) (N := 8) hx hb hts pc_in hown hK hP 0 rfl rfl 4 (by decide) (hts _ zk_pc95) (fun _ h9 => h9) rfl pc_d_searchForWires_5 ?_
  refine va_aldq (C := "PhaseCounts$PlanSearch") hx hb hK hP 1 3 rfl rfl (vp_in_nI (by omega) (by decide)) pc_d_searchForWires_8 ?_
  refine zt_v (y := .null) (by rw [nI_clamp (n := 2) (by omega), hsf]; rfl) ?_
  refine lv_ifnonnullN hx hb pc_d_searchForWires_9 ?_
  refine lv_aload_n hx hb pc_d_searchForWires_12 rfl (lv_at hl 0 rfl) ?_
  refine va_get (D := (dC, dI)) (ci := 2) (v := .ref a4) (C := pc_R) (T := pc_T) (N := 8) hx hb hts pc_in hown hK hP 0 rfl rfl 3 (by decide) (hts _ zk_pc25) (fun _ h9 => h9) rfl pc_d_searchForWires_13 ?_
  refine lv_aload_n hx hb pc_d_searchForWires_16 rfl (lv_at hl 0 rfl) ?_
  refine va_get (D := (dC, dI)) (ci := 2) (v := .int (nI 2)) (C := pc_R) (T := pc_T) (N := 8) hx hb hts pc_in hown hK hP 0 rfl rfl 4 (by decide) (hts _ zk_pc95) (fun _ h9 => h9) rfl pc_d_searchForWires_17 ?_
  refine va_new (ci := 1) (fs := [.int (nI 0), .int (nI 0), .int (nI 0), .null, .null, .int (nI 0), .int (nI 0)]) (C := ps_R) (T := ps_T) (N := 7) hx hb hts ps_in ps_t ps_ok hown (hts _ zk_pc23) (hts _ zk_ma_ps) (hts _ zk_in_ps) hK hP hD hS hA rfl (fun j hj => by rcases (show j = 0 ∨ j = 1 ∨ j = 2 ∨ j = 3 ∨ j = 4 ∨ j = 5 ∨ j = 6 by omega) with rfl | rfl | rfl | rfl | rfl | rfl | rfl <;> rfl) (Nat.le_of_ble_eq_true rfl) (Nat.le_of_ble_eq_true rfl) pc_d_searchForWires_20 (fun q_1 H hP hD hS => ?_)
  have hP : va_P (dC, dI) zz_cl [(o, .inr (2, [.ref a1, .ref a2, .ref o3, .ref a4, .int (nI 2), .int (nI lk), .int li, .int ne])), (a4, .inl (cA 3, 5, .inr (.inr (.inr (.inr sf))))), (q_1, .inr (1, [.int (nI 0), .int (nI 0), .int (nI 0), .null, .null, .int (nI 0), .int (nI 0)]))] H := hP
  have hD : va_D A [(o, .inr (2, [.ref a1, .ref a2, .ref o3, .ref a4, .int (nI 2), .int (nI lk), .int li, .int ne])), (a4, .inl (cA 3, 5, .inr (.inr (.inr (.inr sf))))), (q_1, .inr (1, [.int (nI 0), .int (nI 0), .int (nI 0), .null, .null, .int (nI 0), .int (nI 0)]))] := hD
  refine lv_dup hx hb pc_d_searchForWires_23 rfl ?_
  refine lv_aload_n hx hb pc_d_searchForWires_24 rfl (lv_at hl 0 rfl) ?_
  refine va_get (D := (dC, dI)) (ci := 2) (v := .int (nI 2)) (C := pc_R) (T := pc_T) (N := 8) hx hb hts pc_in hown hK hP 0 rfl rfl 4 (by decide) (hts _ zk_pc95) (fun _ h9 => h9) rfl pc_d_searchForWires_25 ?_
  refine zq_Iwv (n := 1) (As := [.int (nI 2)]) (rest := [.ref q_1, .int (nI 2), .ref a4]) (wc := [(q_1, .inr (1, [.int (nI 0), .int (nI 0), .int (nI 0), .null, .null, .int (nI 0), .int (nI 0)]))]) (wr := [(o, .inr (2, [.ref a1, .ref a2, .ref o3, .ref a4, .int (nI 2), .int (nI lk), .int li, .int ne])), (a4, .inl (cA 3, 5, .inr (.inr (.inr (.inr sf)))))]) ⟨hx, hb, hml, hown, hts⟩ (ps_init2 l dC dI cA _ q_1) zk_cd_ps_init zk_pc115 zk_im_ps_init zk_in_ps rfl (by decide +kernel) ⟨rfl, rfl⟩ ⟨Nat.le_of_ble_eq_true rfl, Nat.le_of_ble_eq_true rfl⟩ hK hP hD hS hA hZ [2] [0, 1] rfl rfl (by decide) rfl hl.1 rfl (Nat.le_of_ble_eq_true rfl) pc_d_searchForWires_28 (fun u_2 H locs h_3 hP hD hS => ?_) ⟨Nat.le_of_ble_eq_true rfl, Nat.le_of_ble_eq_true rfl⟩
  obtain ⟨p1, m1, pl, mt⟩ := u_2
  have hP : va_P (dC, dI) zz_cl [(o, .inr (2, [.ref a1, .ref a2, .ref o3, .ref a4, .int (nI 2), .int (nI lk), .int li, .int ne])), (a4, .inl (cA 3, 5, .inr (.inr (.inr (.inr sf))))), (q_1, .inr (1, [.int (nI 2), .int (nI 4), .int (nI 1), .ref p1, .ref m1, .int (nI 1), .int (nI 0)])), (p1, .inl (cA 1, 7, .inr (.inl (lA pl)))), (m1, .inl (cA 0, 5, .inl (nA mt)))] H := hP
  have hD : va_D A [(o, .inr (2, [.ref a1, .ref a2, .ref o3, .ref a4, .int (nI 2), .int (nI lk), .int li, .int ne])), (a4, .inl (cA 3, 5, .inr (.inr (.inr (.inr sf))))), (q_1, .inr (1, [.int (nI 2), .int (nI 4), .int (nI 1), .ref p1, .ref m1, .int (nI 1), .int (nI 0)])), (p1, .inl (cA 1, 7, .inr (.inl (lA pl)))), (m1, .inl (cA 0, 5, .inl (nA mt)))] := hD
  refine va_astq (r := (ps_R, ps_T, 7)) hx hb hK hP hD hS 1 3 2 1 rfl rfl rfl rfl (vp_in_nI (by omega) (by decide)) pc_d_searchForWires_31 (fun H locs hP hD hS => ?_)
  rw [nI_clamp (n := 2) (by omega)] at hP hD
  have hP : va_P (dC, dI) zz_cl [(o, .inr (2, [.ref a1, .ref a2, .ref o3, .ref a4, .int (nI 2), .int (nI lk), .int li, .int ne])), (a4, .inl (cA 3, 5, .inr (.inr (.inr (.inr (va_up sf 2 (some q_1))))))), (q_1, .inr (1, [.int (nI 2), .int (nI 4), .int (nI 1), .ref p1, .ref m1, .int (nI 1), .int (nI 0)])), (p1, .inl (cA 1, 7, .inr (.inl (lA pl)))), (m1, .inl (cA 0, 5, .inl (nA mt)))] H := hP
  have hD : va_D A [(o, .inr (2, [.ref a1, .ref a2, .ref o3, .ref a4, .int (nI 2), .int (nI lk), .int li, .int ne])), (a4, .inl (cA 3, 5, .inr (.inr (.inr (.inr (va_up sf 2 (some q_1))))))), (q_1, .inr (1, [.int (nI 2), .int (nI 4), .int (nI 1), .ref p1, .ref m1, .int (nI 1), .int (nI 0)])), (p1, .inl (cA 1, 7, .inr (.inl (lA pl)))), (m1, .inl (cA 0, 5, .inl (nA mt)))] := hD
  refine lv_aload_n hx hb pc_d_searchForWires_32 rfl (lv_at hl 0 rfl) ?_
  refine va_get (D := (dC, dI)) (ci := 2) (v := .ref a4) (C := pc_R) (T := pc_T) (N := 8) hx hb hts pc_in hown hK hP 0 rfl rfl 3 (by decide) (hts _ zk_pc25) (fun _ h9 => h9) rfl pc_d_searchForWires_33 ?_
  refine lv_aload_n hx hb pc_d_searchForWires_36 rfl (lv_at hl 0 rfl) ?_
  refine va_get (D := (dC, dI)) (ci := 2) (v := .int (nI 2)) (C := pc_R) (T := pc_T) (N := 8) hx hb hts pc_in hown hK hP 0 rfl rfl 4 (by decide) (hts _ zk_pc95) (fun _ h9 => h9) rfl pc_d_searchForWires_37 ?_
  refine va_aldq (C := "PhaseCounts$PlanSearch") hx hb hK hP 1 3 rfl rfl (vp_in_nI (by omega) (by decide)) pc_d_searchForWires_40 ?_
  refine zt_v (y := .ref q_1) (by rw [nI_clamp (n := 2) (by omega), va_up_self]; rfl) ?_
  have hP9 := hP.sub (ws' := [(o, .inr (2, [.ref a1, .ref a2, .ref o3, .ref a4, .int (nI 2), .int (nI lk), .int li, .int ne])), (a4, .inl (cA 3, 5, .inr (.inr (.inr (.inr (va_up sf 2 (some q_1))))))), (q_1, .inr (1, [.int (nI 2), .int (nI 4), .int (nI 1), .ref p1, .ref m1, .int (nI 1), .int (nI 0)])), (p1, .inl (cA 1, 7, .inr (.inl (lA pl)))), (m1, .inl (cA 0, 5, .inl (nA mt)))]) [0, 1, 2, 3, 4] rfl
  have hD9 := hD.sub (ws' := [(o, .inr (2, [.ref a1, .ref a2, .ref o3, .ref a4, .int (nI 2), .int (nI lk), .int li, .int ne])), (a4, .inl (cA 3, 5, .inr (.inr (.inr (.inr (va_up sf 2 (some q_1))))))), (q_1, .inr (1, [.int (nI 2), .int (nI 4), .int (nI 1), .ref p1, .ref m1, .int (nI 1), .int (nI 0)])), (p1, .inl (cA 1, 7, .inr (.inl (lA pl)))), (m1, .inl (cA 0, 5, .inl (nA mt)))]) [0, 1, 2, 3, 4] (by decide) rfl
  refine W.widen (k := 3) (n := 19) (Nat.le_of_ble_eq_true rfl) (Nat.le_of_ble_eq_true rfl) ?_
  exact W.aret (v := .ref q_1) hx hb hr (Or.inl ⟨_, rfl⟩) (Or.inr ⟨_, rfl⟩) (fun t ht hW => ⟨⟨(q_1, p1, m1, pl, mt), q_1, rfl, h_3, rfl, by rw [ht]; exact hP9, hD9⟩, hS.F ht⟩) hS.2.2 pc_d_searchForWires_41
set_option maxHeartbeats 4000000 in
set_option maxRecDepth 100000 in
/-- searchForWires(), there is none for 3 wires -/
theorem pc_sfw3 (l : Launch) (dC : Nat → ClassId) (dI : Nat → Nat → Nat) (cA : Nat → ClassId) (sz : Nat) (o a1 a2 o3 a4 lk : Nat) (li ne : Int32) (sf : Nat → Option Nat) (hsf : sf 3 = none) : Met l pc_y_searchForWires pc_w_searchForWires ({ frames := 3, cells := 3, slots := 2915, locals := 70 }) (va_Pc [.ref o] (zB (dC, dI) cA [(o, .inr (2, [.ref a1, .ref a2, .ref o3, .ref a4, .int (nI 3), .int (nI lk), .int li, .int ne])), (a4, .inl (cA 3, 5, .inr (.inr (.inr (.inr sf)))))] sz)) (va_Qr (fun (u : Nat × Nat × Nat × (Nat → Nat) × (Nat → Nat)) => zp_I 3 (fun _ => 5905) (fun _ => 0) (fun _ => 0) (fun _ => []) u.2.2.2.1 u.2.2.2.2 1 0) (fun u q t => q = (fun (u : Nat × Nat × Nat × (Nat → Nat) × (Nat → Nat)) => u.1) u ∧ zE (dC, dI) (va_A [(o, .inr (2, [.ref a1, .ref a2, .ref o3, .ref a4, .int (nI 3), .int (nI lk), .int li, .int ne])), (a4, .inl (cA 3, 5, .inr (.inr (.inr (.inr sf)))))] sz) ((fun (u : Nat × Nat × Nat × (Nat → Nat) × (Nat → Nat)) => [(o, .inr (2, [.ref a1, .ref a2, .ref o3, .ref a4, .int (nI 3), .int (nI lk), .int li, .int ne])), (a4, .inl (cA 3, 5, .inr (.inr (.inr (.inr (va_up sf 3 (some u.1))))))), (u.1, .inr (1, [.int (nI 3), .int (nI 9), .int (nI 1), .ref u.2.1, .ref u.2.2.1, .int (nI 1), .int (nI 0)])), (u.2.1, .inl (cA 1, 859, .inr (.inl (lA u.2.2.2.1)))), (u.2.2.1, .inl (cA 0, 2049, .inl (nA u.2.2.2.2)))]) u) t) (va_A [(o, .inr (2, [.ref a1, .ref a2, .ref o3, .ref a4, .int (nI 3), .int (nI lk), .int li, .int ne])), (a4, .inl (cA 3, 5, .inr (.inr (.inr (.inr sf)))))] sz)) 3 2915 (va_A [(o, .inr (2, [.ref a1, .ref a2, .ref o3, .ref a4, .int (nI 3), .int (nI lk), .int li, .int ne])), (a4, .inl (cA 3, 5, .inr (.inr (.inr (.inr sf)))))] sz) := by
  refine Met.ofW (cc := pc_c_searchForWires) (maxL := 1) (ret := (some (.object "PhaseCounts$PlanSearch"))) (by decide) rfl ?_
  intro p e s m args below meth c s₁ B hml hv
  obtain ⟨rfl, hsz, hP, hK, hD0, hZ⟩ := hv
  have hx := B.exec
  have hb := B.bytes
  have hr := B.returns
  have hts0 := atoms_spec (ws := pc_w_searchForWires) B.pre
  have hts : ∀ w ∈ zz_tbl, w.before _ s = true := fun w h => hts0 w (List.mem_cons_of_mem _ h)
  have hown : s.vm.findClass pc_R = some m.cls := findClass_of_methodNamed B.named
  have hlocks := B.notSynchronized
  subst hsz
  have hD := hD0.self (sz := s.heap.size)
  generalize hAe : va_A [(o, .inr (2, [.ref a1, .ref a2, .ref o3, .ref a4, .int (nI 3), .int (nI lk), .int li, .int ne])), (a4, .inl (cA 3, 5, .inr (.inr (.inr (.inr sf)))))] s.heap.size = A at hD hZ ⊢
  have hA : ∀ q : Nat, s.heap.size ≤ q → A q := fun q h => by rw [← hAe]; exact Or.inr h
  have hS : va_S A s.heap s.heap [] := va_S.rf
  have hP : va_P (dC, dI) zz_cl [(o, .inr (2, [.ref a1, .ref a2, .ref o3, .ref a4, .int (nI 3), .int (nI lk), .int li, .int ne])), (a4, .inl (cA 3, 5, .inr (.inr (.inr (.inr sf)))))] s.heap := hP
  have hl := lv_entry ([.ref o]) (n := 1) (Nat.le_of_ble_eq_true rfl)
  rw [lg_entry_eq]
  generalize (lg_sl ([.ref o]) ++ List.replicate (1 - (lg_sl ([.ref o])).length) Slot.unset).toArray = ls at hl ⊢
  have hl : lv_has ls 1 [(0, .ref o)] := hl
  refine lv_aload_n hx hb pc_d_searchForWires_0 rfl (lv_at hl 0 rfl) ?_
  refine va_get (D := (dC, dI)) (ci := 2) (v := .ref a4) (C := pc_R) (T := pc_T) (N := 8) hx hb hts pc_in hown hK hP 0 rfl rfl 3 (by decide) (hts _ zk_pc25) (fun _ h9 => h9) rfl pc_d_searchForWires_1 ?_
  refine lv_aload_n hx hb pc_d_searchForWires_4 rfl (lv_at hl 0 rfl) ?_
  refine va_get (D := (dC, dI)) (ci := 2) (v := .int (nI 3)) (C := pc_R) (T := pc_T) (N := 8) hx hb hts pc_in hown hK hP 0 rfl rfl 4 (by decide) (hts _ zk_pc95) (fun _ h9 => h9) rfl pc_d_searchForWires_5 ?_
  refine va_aldq (C := "PhaseCounts$PlanSearch") hx hb hK hP 1 3 rfl rfl (vp_in_nI (by omega) (by decide)) pc_d_searchForWires_8 ?_
  refine zt_v (y := .null) (by rw [nI_clamp (n := 3) (by omega), hsf]; rfl) ?_
  refine lv_ifnonnullN hx hb pc_d_searchForWires_9 ?_
  refine lv_aload_n hx hb pc_d_searchForWires_12 rfl (lv_at hl 0 rfl) ?_
  refine va_get (D := (dC, dI)) (ci := 2) (v := .ref a4) (C := pc_R) (T := pc_T) (N := 8) hx hb hts pc_in hown hK hP 0 rfl rfl 3 (by decide) (hts _ zk_pc25) (fun _ h9 => h9) rfl pc_d_searchForWires_13 ?_
  refine lv_aload_n hx hb pc_d_searchForWires_16 rfl (lv_at hl 0 rfl) ?_
  refine va_get (D := (dC, dI)) (ci := 2) (v := .int (nI 3)) (C := pc_R) (T := pc_T) (N := 8) hx hb hts pc_in hown hK hP 0 rfl rfl 4 (by decide) (hts _ zk_pc95) (fun _ h9 => h9) rfl pc_d_searchForWires_17 ?_
  refine va_new (ci := 1) (fs := [.int (nI 0), .int (nI 0), .int (nI 0), .null, .null, .int (nI 0), .int (nI 0)]) (C := ps_R) (T := ps_T) (N := 7) hx hb hts ps_in ps_t ps_ok hown (hts _ zk_pc23) (hts _ zk_ma_ps) (hts _ zk_in_ps) hK hP hD hS hA rfl (fun j hj => by rcases (show j = 0 ∨ j = 1 ∨ j = 2 ∨ j = 3 ∨ j = 4 ∨ j = 5 ∨ j = 6 by omega) with rfl | rfl | rfl | rfl | rfl | rfl | rfl <;> rfl) (Nat.le_of_ble_eq_true rfl) (Nat.le_of_ble_eq_true rfl) pc_d_searchForWires_20 (fun q_1 H hP hD hS => ?_)
  have hP : va_P (dC, dI) zz_cl [(o, .inr (2, [.ref a1, .ref a2, .ref o3, .ref a4, .int (nI 3), .int (nI lk), .int li, .int ne])), (a4, .inl (cA 3, 5, .inr (.inr (.inr (.inr sf))))), (q_1, .inr (1, [.int (nI 0), .int (nI 0), .int (nI 0), .null, .null, .int (nI 0), .int (nI 0)]))] H := hP
  have hD : va_D A [(o, .inr (2, [.ref a1, .ref a2, .ref o3, .ref a4, .int (nI 3), .int (nI lk), .int li, .int ne])), (a4, .inl (cA 3, 5, .inr (.inr (.inr (.inr sf))))), (q_1, .inr (1, [.int (nI 0), .int (nI 0), .int (nI 0), .null, .null, .int (nI 0), .int (nI 0)]))] := hD
  refine lv_dup hx hb pc_d_searchForWires_23 rfl ?_
  refine lv_aload_n hx hb pc_d_searchForWires_24 rfl (lv_at hl 0 rfl) ?_
  refine va_get (D := (dC, dI)) (ci := 2) (v := .int (nI 3)) (C := pc_R) (T := pc_T) (N := 8) hx hb hts pc_in hown hK hP 0 rfl rfl 4 (by decide) (hts _ zk_pc95) (fun _ h9 => h9) rfl pc_d_searchForWires_25 ?_
  refine zq_Iwv (n := 1) (As := [.int (nI 3)]) (rest := [.ref q_1, .int (nI 3), .ref a4]) (wc := [(q_1, .inr (1, [.int (nI 0), .int (nI 0), .int (nI 0), .null, .null, .int (nI 0), .int (nI 0)]))]) (wr := [(o, .inr (2, [.ref a1, .ref a2, .ref o3, .ref a4, .int (nI 3), .int (nI lk), .int li, .int ne])), (a4, .inl (cA 3, 5, .inr (.inr (.inr (.inr sf)))))]) ⟨hx, hb, hml, hown, hts⟩ (ps_init3 l dC dI cA _ q_1) zk_cd_ps_init zk_pc115 zk_im_ps_init zk_in_ps rfl (by decide +kernel) ⟨rfl, rfl⟩ ⟨Nat.le_of_ble_eq_true rfl, Nat.le_of_ble_eq_true rfl⟩ hK hP hD hS hA hZ [2] [0, 1] rfl rfl (by decide) rfl hl.1 rfl (Nat.le_of_ble_eq_true rfl) pc_d_searchForWires_28 (fun u_2 H locs h_3 hP hD hS => ?_) ⟨Nat.le_of_ble_eq_true rfl, Nat.le_of_ble_eq_true rfl⟩
  obtain ⟨p1, m1, pl, mt⟩ := u_2
  have hP : va_P (dC, dI) zz_cl [(o, .inr (2, [.ref a1, .ref a2, .ref o3, .ref a4, .int (nI 3), .int (nI lk), .int li, .int ne])), (a4, .inl (cA 3, 5, .inr (.inr (.inr (.inr sf))))), (q_1, .inr (1, [.int (nI 3), .int (nI 9), .int (nI 1), .ref p1, .ref m1, .int (nI 1), .int (nI 0)])), (p1, .inl (cA 1, 859, .inr (.inl (lA pl)))), (m1, .inl (cA 0, 2049, .inl (nA mt)))] H := hP
  have hD : va_D A [(o, .inr (2, [.ref a1, .ref a2, .ref o3, .ref a4, .int (nI 3), .int (nI lk), .int li, .int ne])), (a4, .inl (cA 3, 5, .inr (.inr (.inr (.inr sf))))), (q_1, .inr (1, [.int (nI 3), .int (nI 9), .int (nI 1), .ref p1, .ref m1, .int (nI 1), .int (nI 0)])), (p1, .inl (cA 1, 859, .inr (.inl (lA pl)))), (m1, .inl (cA 0, 2049, .inl (nA mt)))] := hD
  refine va_astq (r := (ps_R, ps_T, 7)) hx hb hK hP hD hS 1 3 2 1 rfl rfl rfl rfl (vp_in_nI (by omega) (by decide)) pc_d_searchForWires_31 (fun H locs hP hD hS => ?_)
  rw [nI_clamp (n := 3) (by omega)] at hP hD
  have hP : va_P (dC, dI) zz_cl [(o, .inr (2, [.ref a1, .ref a2, .ref o3, .ref a4, .int (nI 3), .int (nI lk), .int li, .int ne])), (a4, .inl (cA 3, 5, .inr (.inr (.inr (.inr (va_up sf 3 (some q_1))))))), (q_1, .inr (1, [.int (nI 3), .int (nI 9), .int (nI 1), .ref p1, .ref m1, .int (nI 1), .int (nI 0)])), (p1, .inl (cA 1, 859, .inr (.inl (lA pl)))), (m1, .inl (cA 0, 2049, .inl (nA mt)))] H := hP
  have hD : va_D A [(o, .inr (2, [.ref a1, .ref a2, .ref o3, .ref a4, .int (nI 3), .int (nI lk), .int li, .int ne])), (a4, .inl (cA 3, 5, .inr (.inr (.inr (.inr (va_up sf 3 (some q_1))))))), (q_1, .inr (1, [.int (nI 3), .int (nI 9), .int (nI 1), .ref p1, .ref m1, .int (nI 1), .int (nI 0)])), (p1, .inl (cA 1, 859, .inr (.inl (lA pl)))), (m1, .inl (cA 0, 2049, .inl (nA mt)))] := hD
  refine lv_aload_n hx hb pc_d_searchForWires_32 rfl (lv_at hl 0 rfl) ?_
  refine va_get (D := (dC, dI)) (ci := 2) (v := .ref a4) (C := pc_R) (T := pc_T) (N := 8) hx hb hts pc_in hown hK hP 0 rfl rfl 3 (by decide) (hts _ zk_pc25) (fun _ h9 => h9) rfl pc_d_searchForWires_33 ?_
  refine lv_aload_n hx hb pc_d_searchForWires_36 rfl (lv_at hl 0 rfl) ?_
  refine va_get (D := (dC, dI)) (ci := 2) (v := .int (nI 3)) (C := pc_R) (T := pc_T) (N := 8) hx hb hts pc_in hown hK hP 0 rfl rfl 4 (by decide) (hts _ zk_pc95) (fun _ h9 => h9) rfl pc_d_searchForWires_37 ?_
  refine va_aldq (C := "PhaseCounts$PlanSearch") hx hb hK hP 1 3 rfl rfl (vp_in_nI (by omega) (by decide)) pc_d_searchForWires_40 ?_
  refine zt_v (y := .ref q_1) (by rw [nI_clamp (n := 3) (by omega), va_up_self]; rfl) ?_
  have hP9 := hP.sub (ws' := [(o, .inr (2, [.ref a1, .ref a2, .ref o3, .ref a4, .int (nI 3), .int (nI lk), .int li, .int ne])), (a4, .inl (cA 3, 5, .inr (.inr (.inr (.inr (va_up sf 3 (some q_1))))))), (q_1, .inr (1, [.int (nI 3), .int (nI 9), .int (nI 1), .ref p1, .ref m1, .int (nI 1), .int (nI 0)])), (p1, .inl (cA 1, 859, .inr (.inl (lA pl)))), (m1, .inl (cA 0, 2049, .inl (nA mt)))]) [0, 1, 2, 3, 4] rfl
  have hD9 := hD.sub (ws' := [(o, .inr (2, [.ref a1, .ref a2, .ref o3, .ref a4, .int (nI 3), .int (nI lk), .int li, .int ne])), (a4, .inl (cA 3, 5, .inr (.inr (.inr (.inr (va_up sf 3 (some q_1))))))), (q_1, .inr (1, [.int (nI 3), .int (nI 9), .int (nI 1), .ref p1, .ref m1, .int (nI 1), .int (nI 0)])), (p1, .inl (cA 1, 859, .inr (.inl (lA pl)))), (m1, .inl (cA 0, 2049, .inl (nA mt)))]) [0, 1, 2, 3, 4] (by decide) rfl
  refine W.widen (k := 3) (n := 2915) (Nat.le_of_ble_eq_true rfl) (Nat.le_of_ble_eq_true rfl) ?_
  exact W.aret (v := .ref q_1) hx hb hr (Or.inl ⟨_, rfl⟩) (Or.inr ⟨_, rfl⟩) (fun t ht hW => ⟨⟨(q_1, p1, m1, pl, mt), q_1, rfl, h_3, rfl, by rw [ht]; exact hP9, hD9⟩, hS.F ht⟩) hS.2.2 pc_d_searchForWires_41
set_option maxHeartbeats 4000000 in
set_option maxRecDepth 100000 in
/-- searchForWires(), there is none for 4 wires -/
theorem pc_sfw4 (l : Launch) (dC : Nat → ClassId) (dI : Nat → Nat → Nat) (cA : Nat → ClassId) (sz : Nat) (o a1 a2 o3 a4 lk : Nat) (li ne : Int32) (sf : Nat → Option Nat) (hsf : sf 4 = none) : Met l pc_y_searchForWires pc_w_searchForWires ({ frames := 3, cells := 3, slots := 22216, locals := 70 }) (va_Pc [.ref o] (zB (dC, dI) cA [(o, .inr (2, [.ref a1, .ref a2, .ref o3, .ref a4, .int (nI 4), .int (nI lk), .int li, .int ne])), (a4, .inl (cA 3, 5, .inr (.inr (.inr (.inr sf)))))] sz)) (va_Qr (fun (u : Nat × Nat × Nat × (Nat → Nat) × (Nat → Nat)) => zp_I 4 (fun _ => 33825) (fun _ => 0) (fun _ => 0) (fun _ => []) u.2.2.2.1 u.2.2.2.2 1 0) (fun u q t => q = (fun (u : Nat × Nat × Nat × (Nat → Nat) × (Nat → Nat)) => u.1) u ∧ zE (dC, dI) (va_A [(o, .inr (2, [.ref a1, .ref a2, .ref o3, .ref a4, .int (nI 4), .int (nI lk), .int li, .int ne])), (a4, .inl (cA 3, 5, .inr (.inr (.inr (.inr sf)))))] sz) ((fun (u : Nat × Nat × Nat × (Nat → Nat) × (Nat → Nat)) => [(o, .inr (2, [.ref a1, .ref a2, .ref o3, .ref a4, .int (nI 4), .int (nI lk), .int li, .int ne])), (a4, .inl (cA 3, 5, .inr (.inr (.inr (.inr (va_up sf 4 (some u.1))))))), (u.1, .inr (1, [.int (nI 4), .int (nI 16), .int (nI 0), .ref u.2.1, .ref u.2.2.1, .int (nI 1), .int (nI 0)])), (u.2.1, .inl (cA 1, 20160, .inr (.inl (lA u.2.2.2.1)))), (u.2.2.1, .inl (cA 0, 2049, .inl (nA u.2.2.2.2)))]) u) t) (va_A [(o, .inr (2, [.ref a1, .ref a2, .ref o3, .ref a4, .int (nI 4), .int (nI lk), .int li, .int ne])), (a4, .inl (cA 3, 5, .inr (.inr (.inr (.inr sf)))))] sz)) 3 22216 (va_A [(o, .inr (2, [.ref a1, .ref a2, .ref o3, .ref a4, .int (nI 4), .int (nI lk), .int li, .int ne])), (a4, .inl (cA 3, 5, .inr (.inr (.inr (.inr sf)))))] sz) := by
  refine Met.ofW (cc := pc_c_searchForWires) (maxL := 1) (ret := (some (.object "PhaseCounts$PlanSearch"))) (by decide) rfl ?_
  intro p e s m args below meth c s₁ B hml hv
  obtain ⟨rfl, hsz, hP, hK, hD0, hZ⟩ := hv
  have hx := B.exec
  have hb := B.bytes
  have hr := B.returns
  have hts0 := atoms_spec (ws := pc_w_searchForWires) B.pre
  have hts : ∀ w ∈ zz_tbl, w.before _ s = true := fun w h => hts0 w (List.mem_cons_of_mem _ h)
  have hown : s.vm.findClass pc_R = some m.cls := findClass_of_methodNamed B.named
  have hlocks := B.notSynchronized
  subst hsz
  have hD := hD0.self (sz := s.heap.size)
  generalize hAe : va_A [(o, .inr (2, [.ref a1, .ref a2, .ref o3, .ref a4, .int (nI 4), .int (nI lk), .int li, .int ne])), (a4, .inl (cA 3, 5, .inr (.inr (.inr (.inr sf)))))] s.heap.size = A at hD hZ ⊢
  have hA : ∀ q : Nat, s.heap.size ≤ q → A q := fun q h => by rw [← hAe]; exact Or.inr h
  have hS : va_S A s.heap s.heap [] := va_S.rf
  have hP : va_P (dC, dI) zz_cl [(o, .inr (2, [.ref a1, .ref a2, .ref o3, .ref a4, .int (nI 4), .int (nI lk), .int li, .int ne])), (a4, .inl (cA 3, 5, .inr (.inr (.inr (.inr sf)))))] s.heap := hP
  have hl := lv_entry ([.ref o]) (n := 1) (Nat.le_of_ble_eq_true rfl)
  rw [lg_entry_eq]
  generalize (lg_sl ([.ref o]) ++ List.replicate (1 - (lg_sl ([.ref o])).length) Slot.unset).toArray = ls at hl ⊢
  have hl : lv_has ls 1 [(0, .ref o)] := hl
  refine lv_aload_n hx hb pc_d_searchForWires_0 rfl (lv_at hl 0 rfl) ?_
  refine va_get (D := (dC, dI)) (ci := 2) (v := .ref a4) (C := pc_R) (T := pc_T) (N := 8) hx hb hts pc_in hown hK hP 0 rfl rfl 3 (by decide) (hts _ zk_pc25) (fun _ h9 => h9) rfl pc_d_searchForWires_1 ?_
  refine lv_aload_n hx hb pc_d_searchForWires_4 rfl (lv_at hl 0 rfl) ?_
  refine va_get (D := (dC, dI)) (ci := 2) (v := .int (nI 4)) (C := pc_R) (T := pc_T) (N := 8) hx hb hts pc_in hown hK hP 0 rfl rfl 4 (by decide) (hts _ zk_pc95) (fun _ h9 => h9) rfl pc_d_searchForWires_5 ?_
  refine va_aldq (C := "PhaseCounts$PlanSearch") hx hb hK hP 1 3 rfl rfl (vp_in_nI (by omega) (by decide)) pc_d_searchForWires_8 ?_
  refine zt_v (y := .null) (by rw [nI_clamp (n := 4) (by omega), hsf]; rfl) ?_
  refine lv_ifnonnullN hx hb pc_d_searchForWires_9 ?_
  refine lv_aload_n hx hb pc_d_searchForWires_12 rfl (lv_at hl 0 rfl) ?_
  refine va_get (D := (dC, dI)) (ci := 2) (v := .ref a4) (C := pc_R) (T := pc_T) (N := 8) hx hb hts pc_in hown hK hP 0 rfl rfl 3 (by decide) (hts _ zk_pc25) (fun _ h9 => h9) rfl pc_d_searchForWires_13 ?_
  refine lv_aload_n hx hb pc_d_searchForWires_16 rfl (lv_at hl 0 rfl) ?_
  refine va_get (D := (dC, dI)) (ci := 2) (v := .int (nI 4)) (C := pc_R) (T := pc_T) (N := 8) hx hb hts pc_in hown hK hP 0 rfl rfl 4 (by decide) (hts _ zk_pc95) (fun _ h9 => h9) rfl pc_d_searchForWires_17 ?_
  refine va_new (ci := 1) (fs := [.int (nI 0), .int (nI 0), .int (nI 0), .null, .null, .int (nI 0), .int (nI 0)]) (C := ps_R) (T := ps_T) (N := 7) hx hb hts ps_in ps_t ps_ok hown (hts _ zk_pc23) (hts _ zk_ma_ps) (hts _ zk_in_ps) hK hP hD hS hA rfl (fun j hj => by rcases (show j = 0 ∨ j = 1 ∨ j = 2 ∨ j = 3 ∨ j = 4 ∨ j = 5 ∨ j = 6 by omega) with rfl | rfl | rfl | rfl | rfl | rfl | rfl <;> rfl) (Nat.le_of_ble_eq_true rfl) (Nat.le_of_ble_eq_true rfl) pc_d_searchForWires_20 (fun q_1 H hP hD hS => ?_)
  have hP : va_P (dC, dI) zz_cl [(o, .inr (2, [.ref a1, .ref a2, .ref o3, .ref a4, .int (nI 4), .int (nI lk), .int li, .int ne])), (a4, .inl (cA 3, 5, .inr (.inr (.inr (.inr sf))))), (q_1, .inr (1, [.int (nI 0), .int (nI 0), .int (nI 0), .null, .null, .int (nI 0), .int (nI 0)]))] H := hP
  have hD : va_D A [(o, .inr (2, [.ref a1, .ref a2, .ref o3, .ref a4, .int (nI 4), .int (nI lk), .int li, .int ne])), (a4, .inl (cA 3, 5, .inr (.inr (.inr (.inr sf))))), (q_1, .inr (1, [.int (nI 0), .int (nI 0), .int (nI 0), .null, .null, .int (nI 0), .int (nI 0)]))] := hD
  refine lv_dup hx hb pc_d_searchForWires_23 rfl ?_
  refine lv_aload_n hx hb pc_d_searchForWires_24 rfl (lv_at hl 0 rfl) ?_
  refine va_get (D := (dC, dI)) (ci := 2) (v := .int (nI 4)) (C := pc_R) (T := pc_T) (N := 8) hx hb hts pc_in hown hK hP 0 rfl rfl 4 (by decide) (hts _ zk_pc95) (fun _ h9 => h9) rfl pc_d_searchForWires_25 ?_
  refine zq_Iwv (n := 1) (As := [.int (nI 4)]) (rest := [.ref q_1, .int (nI 4), .ref a4]) (wc := [(q_1, .inr (1, [.int (nI 0), .int (nI 0), .int (nI 0), .null, .null, .int (nI 0), .int (nI 0)]))]) (wr := [(o, .inr (2, [.ref a1, .ref a2, .ref o3, .ref a4, .int (nI 4), .int (nI lk), .int li, .int ne])), (a4, .inl (cA 3, 5, .inr (.inr (.inr (.inr sf)))))]) ⟨hx, hb, hml, hown, hts⟩ (ps_init4 l dC dI cA _ q_1) zk_cd_ps_init zk_pc115 zk_im_ps_init zk_in_ps rfl (by decide +kernel) ⟨rfl, rfl⟩ ⟨Nat.le_of_ble_eq_true rfl, Nat.le_of_ble_eq_true rfl⟩ hK hP hD hS hA hZ [2] [0, 1] rfl rfl (by decide) rfl hl.1 rfl (Nat.le_of_ble_eq_true rfl) pc_d_searchForWires_28 (fun u_2 H locs h_3 hP hD hS => ?_) ⟨Nat.le_of_ble_eq_true rfl, Nat.le_of_ble_eq_true rfl⟩
  obtain ⟨p1, m1, pl, mt⟩ := u_2
  have hP : va_P (dC, dI) zz_cl [(o, .inr (2, [.ref a1, .ref a2, .ref o3, .ref a4, .int (nI 4), .int (nI lk), .int li, .int ne])), (a4, .inl (cA 3, 5, .inr (.inr (.inr (.inr sf))))), (q_1, .inr (1, [.int (nI 4), .int (nI 16), .int (nI 0), .ref p1, .ref m1, .int (nI 1), .int (nI 0)])), (p1, .inl (cA 1, 20160, .inr (.inl (lA pl)))), (m1, .inl (cA 0, 2049, .inl (nA mt)))] H := hP
  have hD : va_D A [(o, .inr (2, [.ref a1, .ref a2, .ref o3, .ref a4, .int (nI 4), .int (nI lk), .int li, .int ne])), (a4, .inl (cA 3, 5, .inr (.inr (.inr (.inr sf))))), (q_1, .inr (1, [.int (nI 4), .int (nI 16), .int (nI 0), .ref p1, .ref m1, .int (nI 1), .int (nI 0)])), (p1, .inl (cA 1, 20160, .inr (.inl (lA pl)))), (m1, .inl (cA 0, 2049, .inl (nA mt)))] := hD
  refine va_astq (r := (ps_R, ps_T, 7)) hx hb hK hP hD hS 1 3 2 1 rfl rfl rfl rfl (vp_in_nI (by omega) (by decide)) pc_d_searchForWires_31 (fun H locs hP hD hS => ?_)
  rw [nI_clamp (n := 4) (by omega)] at hP hD
  have hP : va_P (dC, dI) zz_cl [(o, .inr (2, [.ref a1, .ref a2, .ref o3, .ref a4, .int (nI 4), .int (nI lk), .int li, .int ne])), (a4, .inl (cA 3, 5, .inr (.inr (.inr (.inr (va_up sf 4 (some q_1))))))), (q_1, .inr (1, [.int (nI 4), .int (nI 16), .int (nI 0), .ref p1, .ref m1, .int (nI 1), .int (nI 0)])), (p1, .inl (cA 1, 20160, .inr (.inl (lA pl)))), (m1, .inl (cA 0, 2049, .inl (nA mt)))] H := hP
  have hD : va_D A [(o, .inr (2, [.ref a1, .ref a2, .ref o3, .ref a4, .int (nI 4), .int (nI lk), .int li, .int ne])), (a4, .inl (cA 3, 5, .inr (.inr (.inr (.inr (va_up sf 4 (some q_1))))))), (q_1, .inr (1, [.int (nI 4), .int (nI 16), .int (nI 0), .ref p1, .ref m1, .int (nI 1), .int (nI 0)])), (p1, .inl (cA 1, 20160, .inr (.inl (lA pl)))), (m1, .inl (cA 0, 2049, .inl (nA mt)))] := hD
  refine lv_aload_n hx hb pc_d_searchForWires_32 rfl (lv_at hl 0 rfl) ?_
  refine va_get (D := (dC, dI)) (ci := 2) (v := .ref a4) (C := pc_R) (T := pc_T) (N := 8) hx hb hts pc_in hown hK hP 0 rfl rfl 3 (by decide) (hts _ zk_pc25) (fun _ h9 => h9) rfl pc_d_searchForWires_33 ?_
  refine lv_aload_n hx hb pc_d_searchForWires_36 rfl (lv_at hl 0 rfl) ?_
  refine va_get (D := (dC, dI)) (ci := 2) (v := .int (nI 4)) (C := pc_R) (T := pc_T) (N := 8) hx hb hts pc_in hown hK hP 0 rfl rfl 4 (by decide) (hts _ zk_pc95) (fun _ h9 => h9) rfl pc_d_searchForWires_37 ?_
  refine va_aldq (C := "PhaseCounts$PlanSearch") hx hb hK hP 1 3 rfl rfl (vp_in_nI (by omega) (by decide)) pc_d_searchForWires_40 ?_
  refine zt_v (y := .ref q_1) (by rw [nI_clamp (n := 4) (by omega), va_up_self]; rfl) ?_
  have hP9 := hP.sub (ws' := [(o, .inr (2, [.ref a1, .ref a2, .ref o3, .ref a4, .int (nI 4), .int (nI lk), .int li, .int ne])), (a4, .inl (cA 3, 5, .inr (.inr (.inr (.inr (va_up sf 4 (some q_1))))))), (q_1, .inr (1, [.int (nI 4), .int (nI 16), .int (nI 0), .ref p1, .ref m1, .int (nI 1), .int (nI 0)])), (p1, .inl (cA 1, 20160, .inr (.inl (lA pl)))), (m1, .inl (cA 0, 2049, .inl (nA mt)))]) [0, 1, 2, 3, 4] rfl
  have hD9 := hD.sub (ws' := [(o, .inr (2, [.ref a1, .ref a2, .ref o3, .ref a4, .int (nI 4), .int (nI lk), .int li, .int ne])), (a4, .inl (cA 3, 5, .inr (.inr (.inr (.inr (va_up sf 4 (some q_1))))))), (q_1, .inr (1, [.int (nI 4), .int (nI 16), .int (nI 0), .ref p1, .ref m1, .int (nI 1), .int (nI 0)])), (p1, .inl (cA 1, 20160, .inr (.inl (lA pl)))), (m1, .inl (cA 0, 2049, .inl (nA mt)))]) [0, 1, 2, 3, 4] (by decide) rfl
  refine W.widen (k := 3) (n := 22216) (Nat.le_of_ble_eq_true rfl) (Nat.le_of_ble_eq_true rfl) ?_
  exact W.aret (v := .ref q_1) hx hb hr (Or.inl ⟨_, rfl⟩) (Or.inr ⟨_, rfl⟩) (fun t ht hW => ⟨⟨(q_1, p1, m1, pl, mt), q_1, rfl, h_3, rfl, by rw [ht]; exact hP9, hD9⟩, hS.F ht⟩) hS.2.2 pc_d_searchForWires_41
