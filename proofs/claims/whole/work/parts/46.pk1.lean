/-- what LeastPhases holds when it is known: the least phases of the function of ph -/
def zk_known (n : Nat) (ph be : Nat → Nat) (od fi : Nat) : Prop := (pz_vec (2 ^ n - 1) be ∧ pz_rel (2 ^ n - 1) ph be) ∧ od = pz_odd be (2 ^ n - 1) ∧ fi = pz_nz be (2 ^ n - 1) ∧ pz_low (2 ^ n - 1) (fun w => pz_vec (2 ^ n - 1) w ∧ pz_rel (2 ^ n - 1) ph w) be
theorem zk_of {n : Nat} (h1 : 1 ≤ n) (hn : n ≤ 4) {ph be : Nat → Nat} {od fi : Nat} (h8 : ∀ j, ph j < 8) (h : pz_st (2 ^ n - 1) (fun w => pz_vec (2 ^ n - 1) w ∧ pz_rel (2 ^ n - 1) ph w) 1000 be od fi) : zk_known n ph be od fi := by
  rcases h with ⟨-, -, h⟩ | h
  · exact absurd ⟨fun p _ _ => h8 p, pz_rel_refl _ _⟩ (h ph)
  · exact h
section ZY
variable {p : Program} {l : Launch} {e : Env} {R : Room} {s : State} {m : MethodId} {args : Array Value} {below : List Frame} {meth : Method} {c : Code} {H : Heap} {locs : List Loc} {cells slots : Nat} {Q : State → Prop}
variable {y : MethodName} {bytes cc : ByteArray} {maxL nL mc ms n index : Nat} {ret : Option FieldType} {rm : Room} {own C : String} {b : Nat} {As rest st0 : List Value} {pc : Nat} {ls : Array Slot} {D : va_G} {cA : Nat → ClassId} {wc : va_W} {A0 : Nat → Prop} {ws wr : va_W}
/-- a call by invokevirtual that answers a cell that is known and writes -/
theorem zq_Vwr {σ : Type} {post : σ → Prop} {w1 : σ → va_W} {ra : σ → Nat} (S : CallFix p m c cc nL s args zz_tbl own) (hM : Met l y (Cond.code y bytes maxL ret :: zz_tbl) rm (va_Pc (.ref b :: As) (zB D cA wc H.size)) (va_Qr post (fun u q t => q = ra u ∧ zE D (va_A wc H.size) (w1 u) t) (va_A wc H.size)) mc ms (va_A wc H.size)) (hG : GoodIn zz_tbl (wsV own index C y (Cond.code y bytes maxL ret :: zz_tbl)))
    (hd : y.cls = C ∧ y.cls ≠ "java/lang/invoke/MethodHandle" ∧ y.cls ≠ "java/lang/invoke/VarHandle" ∧ (parseMethodDescriptor y.desc).map (fun d => d.parameters.length) = some n) (hrc : rm.cells = mc ∧ rm.slots = ms) (hR : rm.frames + 1 ≤ R.frames ∧ 8 + (maxL + 11) + rm.locals ≤ R.locals)
    (hK : va_K D zz_cl (zT cA) s) (hP : va_P D zz_cl ws H) (hD : va_D A0 ws) (hS : va_S A0 s.heap H locs) (hA : ∀ q, s.heap.size ≤ q → A0 q) (hZ : zs_all A0 s) (isC isR : List Nat) (hwc : isC.map (fun i => ws[i]?) = wc.map some) (hwr : isR.map (fun i => ws[i]?) = wr.map some) (hnd : va_nd isC = true ∧ va_nd isR = true ∧ ∀ i ∈ isR, i ∉ isC)
    (ci q0 : Nat) {q : vw_C} {fs : List Value} (hc : zz_cl[ci]? = some q) (he : wc[q0]? = some (b, .inr (ci, fs))) (hq : q.1 = C)
    (hn : As.length = n) (hl : ls.size = nL) (hst : st0 = As.reverse ++ .ref b :: rest) (hW : (rest.map fun v => v.category).sum ≤ 8) (hdg : decode cc pc = .ok (.invokevirtual index, 3))
    (kk : ∀ (u : σ) (H1 : Heap) (locs1 : List Loc), post u → va_P D zz_cl (wr ++ w1 u) H1 → va_D A0 (wr ++ w1 u) → va_S A0 s.heap H1 locs1 → W p l e R s m args below meth c H1 locs1 (cells + mc) (slots + ms) Q (F0 m (pc + 3) ls (.ref (ra u) :: rest))) (h0 : cells + mc ≤ R.cells ∧ slots + ms ≤ R.slots) : W p l e R s m args below meth c H locs cells slots Q (F0 m pc ls st0) := by
  subst hq
  have hDc := hD.sub isC hnd.1 hwc
  have hPc : va_P D zz_cl wc H := fun k x hx => by
    obtain ⟨i, -, h2⟩ := va_in_of isC hwc hx
    exact hP i x h2
  have hF := va_free hD hS hA isC hwc
  refine va_callr (va_runV (As := As) (rest := rest) (b := b) (C := q.1) S hM (cwV n S.2.2.2.2 hG rfl hrc.1 hrc.2 hd hR) ⟨zB_bl, va_recv hK hPc (ci := ci) (q0 := q0) hc he, fun U hU hW => ⟨rfl, by rw [hU], by rw [hU]; exact hPc, va_K.moved hW.alike hK, hDc.weaken (fun _ _ _ _ => trivial), zs_move hZ (by rw [hU]; exact hS) hF hW.alike⟩⟩ rfl hn hl hst (by show 2 * 0 + _ ≤ 8; omega) hdg h0) hS (fun q _ h => hF q h) hF (fun u ra1 t H1 locs ht hvm hw hB hz1 hk1 hS => ?_)
  obtain ⟨rfl, hP1, hD1⟩ := hB
  rw [ht] at hP1
  obtain ⟨hP2, hD2⟩ := va_join hP hD isC isR hwc hwr hnd.2.1 hnd.2.2 hk1 hF hP1 hD1
  exact kk u H1 locs hw hP2 hD2 hS
end ZY
set_option maxHeartbeats 4000000 in
set_option maxRecDepth 100000 in
/-- knownLeast() -/
theorem pc_knownLeast (l : Launch) (dC : Nat → ClassId) (dI : Nat → Nat → Nat) (cA : Nat → ClassId) (sz : Nat) (o a1 a2 o3 a4 b1 t1 g1 n lk od fi la0 : Nat) (li ne : Int32) (ph be tr rr : Nat → Nat) (M : Nat → Nat → Nat) (hn1 : 1 ≤ n) (hn : n ≤ 4) (hlk : lk ≤ 1) (hph : ∀ j, ph j < 8) (hbe : ∀ j, be j < 8) (htr : ∀ j, tr j < 8) (hkn : lk = 1 → zk_known n ph be od fi) : Met l pc_y_knownLeast pc_w_knownLeast ({ frames := 4, cells := 0, slots := 0, locals := 114 }) (va_Pc [.ref o] (zB (dC, dI) cA ([(o, .inr (2, [.ref a1, .ref a2, .ref o3, .ref a4, .int (nI n), .int (nI lk), .int li, .int ne])), (a2, .inl (cA 0, 16, .inl (nA ph))), (o3, .inr (0, [.ref b1, .int (nI od), .int (nI fi), .ref t1, .ref g1, .int (nI la0)])), (b1, .inl (cA 0, 16, .inl (nA be))), (t1, .inl (cA 0, 16, .inl (nA tr))), (g1, .inl (cA 4, 17, .inr (.inr (.inr (.inr (zg_o rr))))))] ++ zg_w cA rr M) sz)) (va_Qr (fun (u : (Nat → Nat) × (Nat → Nat) × (Nat → Nat → Nat) × Nat × Nat × Nat) => (∀ j, u.1 j < 8) ∧ (∀ j, u.2.1 j < 8) ∧ zk_known n ph u.1 u.2.2.2.1 u.2.2.2.2.1) (fun u q t => q = o3 ∧ zE (dC, dI) (va_A ([(o, .inr (2, [.ref a1, .ref a2, .ref o3, .ref a4, .int (nI n), .int (nI lk), .int li, .int ne])), (a2, .inl (cA 0, 16, .inl (nA ph))), (o3, .inr (0, [.ref b1, .int (nI od), .int (nI fi), .ref t1, .ref g1, .int (nI la0)])), (b1, .inl (cA 0, 16, .inl (nA be))), (t1, .inl (cA 0, 16, .inl (nA tr))), (g1, .inl (cA 4, 17, .inr (.inr (.inr (.inr (zg_o rr))))))] ++ zg_w cA rr M) sz) ((fun (u : (Nat → Nat) × (Nat → Nat) × (Nat → Nat → Nat) × Nat × Nat × Nat) => ([(o, .inr (2, [.ref a1, .ref a2, .ref o3, .ref a4, .int (nI n), .int (nI 1), .int li, .int ne])), (a2, .inl (cA 0, 16, .inl (nA ph))), (o3, .inr (0, [.ref b1, .int (nI u.2.2.2.1), .int (nI u.2.2.2.2.1), .ref t1, .ref g1, .int (nI u.2.2.2.2.2)])), (b1, .inl (cA 0, 16, .inl (nA u.1))), (t1, .inl (cA 0, 16, .inl (nA u.2.1))), (g1, .inl (cA 4, 17, .inr (.inr (.inr (.inr (zg_o rr))))))] ++ zg_w cA rr u.2.2.1)) u) t) (va_A ([(o, .inr (2, [.ref a1, .ref a2, .ref o3, .ref a4, .int (nI n), .int (nI lk), .int li, .int ne])), (a2, .inl (cA 0, 16, .inl (nA ph))), (o3, .inr (0, [.ref b1, .int (nI od), .int (nI fi), .ref t1, .ref g1, .int (nI la0)])), (b1, .inl (cA 0, 16, .inl (nA be))), (t1, .inl (cA 0, 16, .inl (nA tr))), (g1, .inl (cA 4, 17, .inr (.inr (.inr (.inr (zg_o rr))))))] ++ zg_w cA rr M) sz)) 0 0 (va_A ([(o, .inr (2, [.ref a1, .ref a2, .ref o3, .ref a4, .int (nI n), .int (nI lk), .int li, .int ne])), (a2, .inl (cA 0, 16, .inl (nA ph))), (o3, .inr (0, [.ref b1, .int (nI od), .int (nI fi), .ref t1, .ref g1, .int (nI la0)])), (b1, .inl (cA 0, 16, .inl (nA be))), (t1, .inl (cA 0, 16, .inl (nA tr))), (g1, .inl (cA 4, 17, .inr (.inr (.inr (.inr (zg_o rr))))))] ++ zg_w cA rr M) sz) := by
  refine Met.ofW (cc := pc_c_knownLeast) (maxL := 1) (ret := (some (.object "PhaseCounts$LeastPhases"))) (by decide) rfl ?_
  intro p e s m args below meth c s₁ B hml hv
  obtain ⟨rfl, hsz, hP, hK, hD0, hZ⟩ := hv
  have hx := B.exec
  have hb := B.bytes
  have hr := B.returns
  have hts0 := atoms_spec (ws := pc_w_knownLeast) B.pre
  have hts : ∀ w ∈ zz_tbl, w.before _ s = true := fun w h => hts0 w (List.mem_cons_of_mem _ h)
  have hown : s.vm.findClass pc_R = some m.cls := findClass_of_methodNamed B.named
  have hlocks := B.notSynchronized
  subst hsz
  have hD := hD0.self (sz := s.heap.size)
  generalize hAe : va_A ([(o, .inr (2, [.ref a1, .ref a2, .ref o3, .ref a4, .int (nI n), .int (nI lk), .int li, .int ne])), (a2, .inl (cA 0, 16, .inl (nA ph))), (o3, .inr (0, [.ref b1, .int (nI od), .int (nI fi), .ref t1, .ref g1, .int (nI la0)])), (b1, .inl (cA 0, 16, .inl (nA be))), (t1, .inl (cA 0, 16, .inl (nA tr))), (g1, .inl (cA 4, 17, .inr (.inr (.inr (.inr (zg_o rr))))))] ++ zg_w cA rr M) s.heap.size = A at hD hZ ⊢
  have hA : ∀ q : Nat, s.heap.size ≤ q → A q := fun q h => by rw [← hAe]; exact Or.inr h
  have hS : va_S A s.heap s.heap [] := va_S.rf
  have hP : va_P (dC, dI) zz_cl ([(o, .inr (2, [.ref a1, .ref a2, .ref o3, .ref a4, .int (nI n), .int (nI lk), .int li, .int ne])), (a2, .inl (cA 0, 16, .inl (nA ph))), (o3, .inr (0, [.ref b1, .int (nI od), .int (nI fi), .ref t1, .ref g1, .int (nI la0)])), (b1, .inl (cA 0, 16, .inl (nA be))), (t1, .inl (cA 0, 16, .inl (nA tr))), (g1, .inl (cA 4, 17, .inr (.inr (.inr (.inr (zg_o rr))))))] ++ zg_w cA rr M) s.heap := hP
  have hl := lv_entry ([.ref o]) (n := 1) (Nat.le_of_ble_eq_true rfl)
  rw [lg_entry_eq]
  generalize (lg_sl ([.ref o]) ++ List.replicate (1 - (lg_sl ([.ref o])).length) Slot.unset).toArray = ls at hl ⊢
  have hl : lv_has ls 1 [(0, .ref o)] := hl
  refine lv_aload_n hx hb pc_d_knownLeast_0 rfl (lv_at hl 0 rfl) ?_
  refine va_get (D := (dC, dI)) (ci := 2) (v := .int (nI lk)) (C := pc_R) (T := pc_T) (N := 8) hx hb hts pc_in hown hK hP 0 rfl rfl 5 (by decide) (hts _ zk_pc44) (fun _ h9 => h9) rfl pc_d_knownLeast_1 ?_
  refine zi_ne (tgt := 27) hx hb pc_d_knownLeast_4 (by decide) (by omega) (fun c_1 => ?_) (fun c_1 => ?_)
  · obtain rfl : lk = 1 := by omega
    refine lv_aload_n hx hb pc_d_knownLeast_27 rfl (lv_at hl 0 rfl) ?_
    refine va_get (D := (dC, dI)) (ci := 2) (v := .ref o3) (C := pc_R) (T := pc_T) (N := 8) hx hb hts pc_in hown hK hP 0 rfl rfl 2 (by decide) (hts _ zk_pc19) (fun _ h9 => h9) rfl pc_d_knownLeast_28 ?_
    have hP9 := hP.sub (ws' := ([(o, .inr (2, [.ref a1, .ref a2, .ref o3, .ref a4, .int (nI n), .int (nI 1), .int li, .int ne])), (a2, .inl (cA 0, 16, .inl (nA ph))), (o3, .inr (0, [.ref b1, .int (nI od), .int (nI fi), .ref t1, .ref g1, .int (nI la0)])), (b1, .inl (cA 0, 16, .inl (nA be))), (t1, .inl (cA 0, 16, .inl (nA tr))), (g1, .inl (cA 4, 17, .inr (.inr (.inr (.inr (zg_o rr))))))] ++ zg_w cA rr M)) [0, 1, 2, 3, 4, 5, 6, 7, 8, 9, 10, 11, 12, 13, 14, 15, 16, 17, 18, 19, 20, 21, 22] rfl
    have hD9 := hD.sub (ws' := ([(o, .inr (2, [.ref a1, .ref a2, .ref o3, .ref a4, .int (nI n), .int (nI 1), .int li, .int ne])), (a2, .inl (cA 0, 16, .inl (nA ph))), (o3, .inr (0, [.ref b1, .int (nI od), .int (nI fi), .ref t1, .ref g1, .int (nI la0)])), (b1, .inl (cA 0, 16, .inl (nA be))), (t1, .inl (cA 0, 16, .inl (nA tr))), (g1, .inl (cA 4, 17, .inr (.inr (.inr (.inr (zg_o rr))))))] ++ zg_w cA rr M)) [0, 1, 2, 3, 4, 5, 6, 7, 8, 9, 10, 11, 12, 13, 14, 15, 16, 17, 18, 19, 20, 21, 22] (by decide) rfl
    exact W.aret (v := .ref o3) hx hb hr (Or.inl ⟨_, rfl⟩) (Or.inr ⟨_, rfl⟩) (fun t ht hW => ⟨⟨(be, tr, M, od, fi, la0), o3, rfl, ⟨hbe, htr, hkn rfl⟩, rfl, by rw [ht]; exact hP9, hD9⟩, hS.F ht⟩) hS.2.2 pc_d_knownLeast_31
  · refine lv_aload_n hx hb pc_d_knownLeast_7 rfl (lv_at hl 0 rfl) ?_
    refine va_get (D := (dC, dI)) (ci := 2) (v := .ref o3) (C := pc_R) (T := pc_T) (N := 8) hx hb hts pc_in hown hK hP 0 rfl rfl 2 (by decide) (hts _ zk_pc19) (fun _ h9 => h9) rfl pc_d_knownLeast_8 ?_
    refine lv_aload_n hx hb pc_d_knownLeast_11 rfl (lv_at hl 0 rfl) ?_
    refine va_get (D := (dC, dI)) (ci := 2) (v := .ref a2) (C := pc_R) (T := pc_T) (N := 8) hx hb hts pc_in hown hK hP 0 rfl rfl 1 (by decide) (hts _ zk_pc13) (fun _ h9 => h9) rfl pc_d_knownLeast_12 ?_
    refine lv_aload_n hx hb pc_d_knownLeast_15 rfl (lv_at hl 0 rfl) ?_
    refine va_get (D := (dC, dI)) (ci := 2) (v := .int (nI n)) (C := pc_R) (T := pc_T) (N := 8) hx hb hts pc_in hown hK hP 0 rfl rfl 4 (by decide) (hts _ zk_pc95) (fun _ h9 => h9) rfl pc_d_knownLeast_16 ?_
    refine zq_Vwv (n := 2) (As := [.ref a2, .int (nI n)]) (rest := []) (wc := ([(o3, .inr (0, [.ref b1, .int (nI od), .int (nI fi), .ref t1, .ref g1, .int (nI la0)])), (b1, .inl (cA 0, 16, .inl (nA be))), (t1, .inl (cA 0, 16, .inl (nA tr))), (g1, .inl (cA 4, 17, .inr (.inr (.inr (.inr (zg_o rr)))))), (a2, .inl (cA 0, 16, .inl (nA ph)))] ++ zg_w cA rr M)) (wr := [(o, .inr (2, [.ref a1, .ref a2, .ref o3, .ref a4, .int (nI n), .int (nI lk), .int li, .int ne]))]) ⟨hx, hb, hml, hown, hts⟩ (lp_find l dC dI cA _ o3 b1 t1 g1 a2 n od fi la0 be tr ph rr M hn1 hn htr hbe hph) zg_pc113 (by decide +kernel) ⟨rfl, rfl⟩ ⟨Nat.le_of_ble_eq_true rfl, Nat.le_of_ble_eq_true rfl⟩ hK hP hD hS hA hZ [2, 3, 4, 5, 1, 6, 7, 8, 9, 10, 11, 12, 13, 14, 15, 16, 17, 18, 19, 20, 21, 22] [0] rfl rfl (by decide) 0 0 rfl rfl rfl rfl hl.1 rfl (Nat.le_of_ble_eq_true rfl) pc_d_knownLeast_19 (fun u_4 H locs h_3 hP hD hS => ?_) ⟨Nat.le_of_ble_eq_true rfl, Nat.le_of_ble_eq_true rfl⟩
    obtain ⟨be4, tr4, M4, od4, fi4⟩ := u_4
    obtain ⟨lb4, lt4, ls4⟩ := h_3
    try dsimp only at lb4 lt4 ls4
    have hP : va_P (dC, dI) zz_cl ([(o, .inr (2, [.ref a1, .ref a2, .ref o3, .ref a4, .int (nI n), .int (nI lk), .int li, .int ne])), (o3, .inr (0, [.ref b1, .int (nI od4), .int (nI fi4), .ref t1, .ref g1, .int (nI (2 ^ n - 1))])), (b1, .inl (cA 0, 16, .inl (nA be4))), (t1, .inl (cA 0, 16, .inl (nA tr4))), (g1, .inl (cA 4, 17, .inr (.inr (.inr (.inr (zg_o rr)))))), (a2, .inl (cA 0, 16, .inl (nA ph)))] ++ zg_w cA rr M4) H := hP
    have hD : va_D A ([(o, .inr (2, [.ref a1, .ref a2, .ref o3, .ref a4, .int (nI n), .int (nI lk), .int li, .int ne])), (o3, .inr (0, [.ref b1, .int (nI od4), .int (nI fi4), .ref t1, .ref g1, .int (nI (2 ^ n - 1))])), (b1, .inl (cA 0, 16, .inl (nA be4))), (t1, .inl (cA 0, 16, .inl (nA tr4))), (g1, .inl (cA 4, 17, .inr (.inr (.inr (.inr (zg_o rr)))))), (a2, .inl (cA 0, 16, .inl (nA ph)))] ++ zg_w cA rr M4) := hD
    refine lv_aload_n hx hb pc_d_knownLeast_22 rfl (lv_at hl 0 rfl) ?_
    refine lv_iconst (v := (nI 1)) hx hb pc_d_knownLeast_23 (by decide) ?_
    refine va_put (D := (dC, dI)) (ci := 2) (v := .int (nI 1)) (ty := .boolean) (C := pc_R) (T := pc_T) (N := 8) hx hb hts pc_in pc_t pc_ok pc_nm hown hK hP hD hS 0 rfl rfl 5 (by decide) (hts _ zk_pc44) (fun _ h9 => h9) rfl (by decide +kernel) rfl rfl (Nat.le_of_ble_eq_true rfl) pc_d_knownLeast_24 (fun H locs hP hD hS => ?_)
    have hP : va_P (dC, dI) zz_cl ([(o, .inr (2, [.ref a1, .ref a2, .ref o3, .ref a4, .int (nI n), .int (nI 1), .int li, .int ne])), (o3, .inr (0, [.ref b1, .int (nI od4), .int (nI fi4), .ref t1, .ref g1, .int (nI (2 ^ n - 1))])), (b1, .inl (cA 0, 16, .inl (nA be4))), (t1, .inl (cA 0, 16, .inl (nA tr4))), (g1, .inl (cA 4, 17, .inr (.inr (.inr (.inr (zg_o rr)))))), (a2, .inl (cA 0, 16, .inl (nA ph)))] ++ zg_w cA rr M4) H := hP
    have hD : va_D A ([(o, .inr (2, [.ref a1, .ref a2, .ref o3, .ref a4, .int (nI n), .int (nI 1), .int li, .int ne])), (o3, .inr (0, [.ref b1, .int (nI od4), .int (nI fi4), .ref t1, .ref g1, .int (nI (2 ^ n - 1))])), (b1, .inl (cA 0, 16, .inl (nA be4))), (t1, .inl (cA 0, 16, .inl (nA tr4))), (g1, .inl (cA 4, 17, .inr (.inr (.inr (.inr (zg_o rr)))))), (a2, .inl (cA 0, 16, .inl (nA ph)))] ++ zg_w cA rr M4) := hD
    refine lv_aload_n hx hb pc_d_knownLeast_27 rfl (lv_at hl 0 rfl) ?_
    refine va_get (D := (dC, dI)) (ci := 2) (v := .ref o3) (C := pc_R) (T := pc_T) (N := 8) hx hb hts pc_in hown hK hP 0 rfl rfl 2 (by decide) (hts _ zk_pc19) (fun _ h9 => h9) rfl pc_d_knownLeast_28 ?_
    have hP9 := hP.sub (ws' := ([(o, .inr (2, [.ref a1, .ref a2, .ref o3, .ref a4, .int (nI n), .int (nI 1), .int li, .int ne])), (a2, .inl (cA 0, 16, .inl (nA ph))), (o3, .inr (0, [.ref b1, .int (nI od4), .int (nI fi4), .ref t1, .ref g1, .int (nI (2 ^ n - 1))])), (b1, .inl (cA 0, 16, .inl (nA be4))), (t1, .inl (cA 0, 16, .inl (nA tr4))), (g1, .inl (cA 4, 17, .inr (.inr (.inr (.inr (zg_o rr))))))] ++ zg_w cA rr M4)) [0, 5, 1, 2, 3, 4, 6, 7, 8, 9, 10, 11, 12, 13, 14, 15, 16, 17, 18, 19, 20, 21, 22] rfl
    have hD9 := hD.sub (ws' := ([(o, .inr (2, [.ref a1, .ref a2, .ref o3, .ref a4, .int (nI n), .int (nI 1), .int li, .int ne])), (a2, .inl (cA 0, 16, .inl (nA ph))), (o3, .inr (0, [.ref b1, .int (nI od4), .int (nI fi4), .ref t1, .ref g1, .int (nI (2 ^ n - 1))])), (b1, .inl (cA 0, 16, .inl (nA be4))), (t1, .inl (cA 0, 16, .inl (nA tr4))), (g1, .inl (cA 4, 17, .inr (.inr (.inr (.inr (zg_o rr))))))] ++ zg_w cA rr M4)) [0, 5, 1, 2, 3, 4, 6, 7, 8, 9, 10, 11, 12, 13, 14, 15, 16, 17, 18, 19, 20, 21, 22] (by decide) rfl
    exact W.aret (v := .ref o3) hx hb hr (Or.inl ⟨_, rfl⟩) (Or.inr ⟨_, rfl⟩) (fun t ht hW => ⟨⟨(be4, tr4, M4, od4, fi4, 2 ^ n - 1), o3, rfl, ⟨lb4, lt4, zk_of hn1 hn hph ls4⟩, rfl, by rw [ht]; exact hP9, hD9⟩, hS.F ht⟩) hS.2.2 pc_d_knownLeast_31
