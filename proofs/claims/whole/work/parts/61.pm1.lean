set_option maxHeartbeats 4000000 in
set_option maxRecDepth 100000 in
/-- parities(): 2 ^ n -/
theorem pm_parities (l : Launch) (dC : Nat → ClassId) (dI : Nat → Nat → Nat) (cA : Nat → ClassId) (o : Nat) (ad : Nat → Nat) (n kl ki kw bo bt my pg lg ng : Nat) (hn : n < 31) : Met l pm_y_parities pm_w_parities ({ frames := 0, cells := 0, slots := 0, locals := 0 }) (va_Pc [.ref o] (zR (dC, dI) cA [(o, .inr (3, [.int (nI 0), .int (nI n), .ref (ad 0), .ref (ad 1), .int (nI kl), .int (nI ki), .int (nI kw), .ref (ad 2), .ref (ad 3), .int (nI bo), .int (nI bt), .ref (ad 4), .ref (ad 5), .ref (ad 6), .ref (ad 7), .ref (ad 8), .int (nI my), .ref (ad 9), .int (nI pg), .ref (ad 10), .int (nI lg), .ref (ad 11), .int (nI ng)]))])) (vp_Si (fun r => r = nI (2 ^ n))) 0 0 (fun _ => False) := by
  refine Met.ofW (cc := pm_c_parities) (maxL := 1) (ret := (some .int)) (by decide) rfl ?_
  intro p e s m args below meth c s₁ B hml hv
  obtain ⟨rfl, hP, hK⟩ := hv
  have hx := B.exec
  have hb := B.bytes
  have hr := B.returns
  have hts0 := atoms_spec (ws := pm_w_parities) B.pre
  have hts : ∀ w ∈ zz_tbl, w.before _ s = true := fun w h => hts0 w (List.mem_cons_of_mem _ h)
  have hown : s.vm.findClass pm_R = some m.cls := findClass_of_methodNamed B.named
  have hlocks := B.notSynchronized
  have hP : va_P (dC, dI) zz_cl [(o, .inr (3, [.int (nI 0), .int (nI n), .ref (ad 0), .ref (ad 1), .int (nI kl), .int (nI ki), .int (nI kw), .ref (ad 2), .ref (ad 3), .int (nI bo), .int (nI bt), .ref (ad 4), .ref (ad 5), .ref (ad 6), .ref (ad 7), .ref (ad 8), .int (nI my), .ref (ad 9), .int (nI pg), .ref (ad 10), .int (nI lg), .ref (ad 11), .int (nI ng)]))] s.heap := hP
  have hl := lv_entry ([.ref o]) (n := 1) (Nat.le_of_ble_eq_true rfl)
  rw [lg_entry_eq]
  generalize (lg_sl ([.ref o]) ++ List.replicate (1 - (lg_sl ([.ref o])).length) Slot.unset).toArray = ls at hl ⊢
  have hl : lv_has ls 1 [(0, .ref o)] := hl
  refine lv_iconst (v := (nI 1)) hx hb pm_d_parities_0 (by decide) ?_
  refine lv_aload_n hx hb pm_d_parities_1 rfl (lv_at hl 0 rfl) ?_
  refine va_get (D := (dC, dI)) (ci := 3) (v := .int (nI n)) (C := pm_R) (T := pm_T) (N := 23) hx hb hts pm_in hown hK hP 0 rfl rfl 1 (by decide) (hts _ zk_pm56) (fun _ h9 => h9) rfl pm_d_parities_2 ?_
  refine lv_ishl hx hb pm_d_parities_5 ?_
  refine zt_i (zb_shl1 (k := n) (by omega)) ?_
  exact W.iret (v := (nI (2 ^ n))) hx hb hr (fun t ht hW => ⟨(nI (2 ^ n)), rfl, rfl, ht⟩) (fun q h => by cases h) pm_d_parities_6
set_option maxHeartbeats 4000000 in
set_option maxRecDepth 100000 in
/-- isWire(a) -/
theorem pm_isWire (l : Launch) (dC : Nat → ClassId) (dI : Nat → Nat → Nat) (cA : Nat → ClassId) (o : Nat) (ad : Nat → Nat) (n kl ki kw bo bt my pg lg ng : Nat) (a : Int32) (hn : n < 31) : Met l pm_y_isWire pm_w_isWire ({ frames := 0, cells := 0, slots := 0, locals := 0 }) (va_Pc [.ref o, .int a] (zR (dC, dI) cA [(o, .inr (3, [.int (nI 0), .int (nI n), .ref (ad 0), .ref (ad 1), .int (nI kl), .int (nI ki), .int (nI kw), .ref (ad 2), .ref (ad 3), .int (nI bo), .int (nI bt), .ref (ad 4), .ref (ad 5), .ref (ad 6), .ref (ad 7), .ref (ad 8), .int (nI my), .ref (ad 9), .int (nI pg), .ref (ad 10), .int (nI lg), .ref (ad 11), .int (nI ng)]))])) (vp_Si (fun r => (zw_in n a ∧ r = nI 1) ∨ (¬ zw_in n a ∧ r = nI 0))) 0 0 (fun _ => False) := by
  refine Met.ofW (cc := pm_c_isWire) (maxL := 2) (ret := (some .boolean)) (by decide) rfl ?_
  intro p e s m args below meth c s₁ B hml hv
  obtain ⟨rfl, hP, hK⟩ := hv
  have hx := B.exec
  have hb := B.bytes
  have hr := B.returns
  have hts0 := atoms_spec (ws := pm_w_isWire) B.pre
  have hts : ∀ w ∈ zz_tbl, w.before _ s = true := fun w h => hts0 w (List.mem_cons_of_mem _ h)
  have hown : s.vm.findClass pm_R = some m.cls := findClass_of_methodNamed B.named
  have hlocks := B.notSynchronized
  have hP : va_P (dC, dI) zz_cl [(o, .inr (3, [.int (nI 0), .int (nI n), .ref (ad 0), .ref (ad 1), .int (nI kl), .int (nI ki), .int (nI kw), .ref (ad 2), .ref (ad 3), .int (nI bo), .int (nI bt), .ref (ad 4), .ref (ad 5), .ref (ad 6), .ref (ad 7), .ref (ad 8), .int (nI my), .ref (ad 9), .int (nI pg), .ref (ad 10), .int (nI lg), .ref (ad 11), .int (nI ng)]))] s.heap := hP
  have hl := lv_entry ([.ref o, .int a]) (n := 2) (Nat.le_of_ble_eq_true rfl)
  rw [lg_entry_eq]
  generalize (lg_sl ([.ref o, .int a]) ++ List.replicate (2 - (lg_sl ([.ref o, .int a])).length) Slot.unset).toArray = ls at hl ⊢
  have hl : lv_has ls 2 [(0, .ref o), (1, .int a)] := hl
  refine lv_iload_n hx hb pm_d_isWire_0 rfl (lv_at hl 1 rfl) ?_
  refine lv_if_lt (tgt := 16) hx hb pm_d_isWire_1 (by decide) (fun c_1 => ?_) (fun c_1 => ?_)
  · refine lv_iconst (v := (nI 0)) hx hb pm_d_isWire_16 (by decide) ?_
    exact W.zret (v := (nI 0)) hx hb hr (by decide) (fun t ht hW => ⟨(nI 0), rfl, Or.inr ⟨zw_neg (by omega) c_1, rfl⟩, ht⟩) (fun q h => by cases h) pm_d_isWire_17
  · refine lv_iload_n hx hb pm_d_isWire_4 rfl (lv_at hl 1 rfl) ?_
    refine lv_aload_n hx hb pm_d_isWire_5 rfl (lv_at hl 0 rfl) ?_
    refine va_get (D := (dC, dI)) (ci := 3) (v := .int (nI n)) (C := pm_R) (T := pm_T) (N := 23) hx hb hts pm_in hown hK hP 0 rfl rfl 1 (by decide) (hts _ zk_pm56) (fun _ h9 => h9) rfl pm_d_isWire_6 ?_
    refine lv_icmp_ge (tgt := 16) hx hb pm_d_isWire_9 (by decide) (fun c_2 => ?_) (fun c_2 => ?_)
    · refine lv_iconst (v := (nI 0)) hx hb pm_d_isWire_16 (by decide) ?_
      exact W.zret (v := (nI 0)) hx hb hr (by decide) (fun t ht hW => ⟨(nI 0), rfl, Or.inr ⟨zw_big (by omega) c_2, rfl⟩, ht⟩) (fun q h => by cases h) pm_d_isWire_17
    · refine lv_iconst (v := (nI 1)) hx hb pm_d_isWire_12 (by decide) ?_
      refine lv_goto (tgt := 17) hx hb pm_d_isWire_13 (by decide) ?_
      exact W.zret (v := (nI 1)) hx hb hr (by decide) (fun t ht hW => ⟨(nI 1), rfl, Or.inl ⟨zw_ok (by omega) c_1 c_2, rfl⟩, ht⟩) (fun q h => by cases h) pm_d_isWire_17
set_option maxHeartbeats 4000000 in
set_option maxRecDepth 100000 in
/-- phasesChange() -/
theorem pm_phasesChange (l : Launch) (dC : Nat → ClassId) (dI : Nat → Nat → Nat) (cA : Nat → ClassId) (sz : Nat) (o : Nat) (ad : Nat → Nat) (n kl ki kw bo bt my pg lg ng : Nat)  : Met l pm_y_phasesChange pm_w_phasesChange ({ frames := 0, cells := 0, slots := 0, locals := 0 }) (va_Pc [.ref o] (zB (dC, dI) cA [(o, .inr (3, [.int (nI 0), .int (nI n), .ref (ad 0), .ref (ad 1), .int (nI kl), .int (nI ki), .int (nI kw), .ref (ad 2), .ref (ad 3), .int (nI bo), .int (nI bt), .ref (ad 4), .ref (ad 5), .ref (ad 6), .ref (ad 7), .ref (ad 8), .int (nI my), .ref (ad 9), .int (nI pg), .ref (ad 10), .int (nI lg), .ref (ad 11), .int (nI ng)]))] sz)) (va_Qv (fun (_ : Unit) => True) (fun u t => zE (dC, dI) (va_A [(o, .inr (3, [.int (nI 0), .int (nI n), .ref (ad 0), .ref (ad 1), .int (nI kl), .int (nI ki), .int (nI kw), .ref (ad 2), .ref (ad 3), .int (nI bo), .int (nI bt), .ref (ad 4), .ref (ad 5), .ref (ad 6), .ref (ad 7), .ref (ad 8), .int (nI my), .ref (ad 9), .int (nI pg), .ref (ad 10), .int (nI lg), .ref (ad 11), .int (nI ng)]))] sz) ((fun _ => [(o, .inr (3, [.int (nI 0), .int (nI n), .ref (ad 0), .ref (ad 1), .int (nI 0), .int (nI ki), .int (nI 0), .ref (ad 2), .ref (ad 3), .int (nI bo), .int (nI bt), .ref (ad 4), .ref (ad 5), .ref (ad 6), .ref (ad 7), .ref (ad 8), .int (nI my), .ref (ad 9), .int (nI pg), .ref (ad 10), .int (nI lg), .ref (ad 11), .int (nI ng)]))]) u) t) (va_A [(o, .inr (3, [.int (nI 0), .int (nI n), .ref (ad 0), .ref (ad 1), .int (nI kl), .int (nI ki), .int (nI kw), .ref (ad 2), .ref (ad 3), .int (nI bo), .int (nI bt), .ref (ad 4), .ref (ad 5), .ref (ad 6), .ref (ad 7), .ref (ad 8), .int (nI my), .ref (ad 9), .int (nI pg), .ref (ad 10), .int (nI lg), .ref (ad 11), .int (nI ng)]))] sz)) 0 0 (va_A [(o, .inr (3, [.int (nI 0), .int (nI n), .ref (ad 0), .ref (ad 1), .int (nI kl), .int (nI ki), .int (nI kw), .ref (ad 2), .ref (ad 3), .int (nI bo), .int (nI bt), .ref (ad 4), .ref (ad 5), .ref (ad 6), .ref (ad 7), .ref (ad 8), .int (nI my), .ref (ad 9), .int (nI pg), .ref (ad 10), .int (nI lg), .ref (ad 11), .int (nI ng)]))] sz) := by
  refine Met.ofW (cc := pm_c_phasesChange) (maxL := 1) (ret := (none : Option Jvm.ClassFile.FieldType)) (by decide) rfl ?_
  intro p e s m args below meth c s₁ B hml hv
  obtain ⟨rfl, hsz, hP, hK, hD0, hZ⟩ := hv
  have hx := B.exec
  have hb := B.bytes
  have hr := B.returns
  have hts0 := atoms_spec (ws := pm_w_phasesChange) B.pre
  have hts : ∀ w ∈ zz_tbl, w.before _ s = true := fun w h => hts0 w (List.mem_cons_of_mem _ h)
  have hown : s.vm.findClass pm_R = some m.cls := findClass_of_methodNamed B.named
  have hlocks := B.notSynchronized
  subst hsz
  have hD := hD0.self (sz := s.heap.size)
  generalize hAe : va_A [(o, .inr (3, [.int (nI 0), .int (nI n), .ref (ad 0), .ref (ad 1), .int (nI kl), .int (nI ki), .int (nI kw), .ref (ad 2), .ref (ad 3), .int (nI bo), .int (nI bt), .ref (ad 4), .ref (ad 5), .ref (ad 6), .ref (ad 7), .ref (ad 8), .int (nI my), .ref (ad 9), .int (nI pg), .ref (ad 10), .int (nI lg), .ref (ad 11), .int (nI ng)]))] s.heap.size = A at hD hZ ⊢
  have hA : ∀ q : Nat, s.heap.size ≤ q → A q := fun q h => by rw [← hAe]; exact Or.inr h
  have hS : va_S A s.heap s.heap [] := va_S.rf
  have hP : va_P (dC, dI) zz_cl [(o, .inr (3, [.int (nI 0), .int (nI n), .ref (ad 0), .ref (ad 1), .int (nI kl), .int (nI ki), .int (nI kw), .ref (ad 2), .ref (ad 3), .int (nI bo), .int (nI bt), .ref (ad 4), .ref (ad 5), .ref (ad 6), .ref (ad 7), .ref (ad 8), .int (nI my), .ref (ad 9), .int (nI pg), .ref (ad 10), .int (nI lg), .ref (ad 11), .int (nI ng)]))] s.heap := hP
  have hl := lv_entry ([.ref o]) (n := 1) (Nat.le_of_ble_eq_true rfl)
  rw [lg_entry_eq]
  generalize (lg_sl ([.ref o]) ++ List.replicate (1 - (lg_sl ([.ref o])).length) Slot.unset).toArray = ls at hl ⊢
  have hl : lv_has ls 1 [(0, .ref o)] := hl
  refine lv_aload_n hx hb pm_d_phasesChange_0 rfl (lv_at hl 0 rfl) ?_
  refine lv_iconst (v := (nI 0)) hx hb pm_d_phasesChange_1 (by decide) ?_
  refine va_put (D := (dC, dI)) (ci := 3) (v := .int (nI 0)) (ty := .boolean) (C := pm_R) (T := pm_T) (N := 23) hx hb hts pm_in pm_t pm_ok pm_nm hown hK hP hD hS 0 rfl rfl 4 (by decide) (hts _ zk_pm66) (fun _ h9 => h9) rfl (by decide +kernel) rfl rfl (Nat.le_of_ble_eq_true rfl) pm_d_phasesChange_2 (fun H locs hP hD hS => ?_)
  have hP : va_P (dC, dI) zz_cl [(o, .inr (3, [.int (nI 0), .int (nI n), .ref (ad 0), .ref (ad 1), .int (nI 0), .int (nI ki), .int (nI kw), .ref (ad 2), .ref (ad 3), .int (nI bo), .int (nI bt), .ref (ad 4), .ref (ad 5), .ref (ad 6), .ref (ad 7), .ref (ad 8), .int (nI my), .ref (ad 9), .int (nI pg), .ref (ad 10), .int (nI lg), .ref (ad 11), .int (nI ng)]))] H := hP
  have hD : va_D A [(o, .inr (3, [.int (nI 0), .int (nI n), .ref (ad 0), .ref (ad 1), .int (nI 0), .int (nI ki), .int (nI kw), .ref (ad 2), .ref (ad 3), .int (nI bo), .int (nI bt), .ref (ad 4), .ref (ad 5), .ref (ad 6), .ref (ad 7), .ref (ad 8), .int (nI my), .ref (ad 9), .int (nI pg), .ref (ad 10), .int (nI lg), .ref (ad 11), .int (nI ng)]))] := hD
  refine lv_aload_n hx hb pm_d_phasesChange_5 rfl (lv_at hl 0 rfl) ?_
  refine lv_iconst (v := (nI 0)) hx hb pm_d_phasesChange_6 (by decide) ?_
  refine va_put (D := (dC, dI)) (ci := 3) (v := .int (nI 0)) (ty := .boolean) (C := pm_R) (T := pm_T) (N := 23) hx hb hts pm_in pm_t pm_ok pm_nm hown hK hP hD hS 0 rfl rfl 6 (by decide) (hts _ zk_pm69) (fun _ h9 => h9) rfl (by decide +kernel) rfl rfl (Nat.le_of_ble_eq_true rfl) pm_d_phasesChange_7 (fun H locs hP hD hS => ?_)
  have hP : va_P (dC, dI) zz_cl [(o, .inr (3, [.int (nI 0), .int (nI n), .ref (ad 0), .ref (ad 1), .int (nI 0), .int (nI ki), .int (nI 0), .ref (ad 2), .ref (ad 3), .int (nI bo), .int (nI bt), .ref (ad 4), .ref (ad 5), .ref (ad 6), .ref (ad 7), .ref (ad 8), .int (nI my), .ref (ad 9), .int (nI pg), .ref (ad 10), .int (nI lg), .ref (ad 11), .int (nI ng)]))] H := hP
  have hD : va_D A [(o, .inr (3, [.int (nI 0), .int (nI n), .ref (ad 0), .ref (ad 1), .int (nI 0), .int (nI ki), .int (nI 0), .ref (ad 2), .ref (ad 3), .int (nI bo), .int (nI bt), .ref (ad 4), .ref (ad 5), .ref (ad 6), .ref (ad 7), .ref (ad 8), .int (nI my), .ref (ad 9), .int (nI pg), .ref (ad 10), .int (nI lg), .ref (ad 11), .int (nI ng)]))] := hD
  have hP9 := hP.sub (ws' := [(o, .inr (3, [.int (nI 0), .int (nI n), .ref (ad 0), .ref (ad 1), .int (nI 0), .int (nI ki), .int (nI 0), .ref (ad 2), .ref (ad 3), .int (nI bo), .int (nI bt), .ref (ad 4), .ref (ad 5), .ref (ad 6), .ref (ad 7), .ref (ad 8), .int (nI my), .ref (ad 9), .int (nI pg), .ref (ad 10), .int (nI lg), .ref (ad 11), .int (nI ng)]))]) [0] rfl
  have hD9 := hD.sub (ws' := [(o, .inr (3, [.int (nI 0), .int (nI n), .ref (ad 0), .ref (ad 1), .int (nI 0), .int (nI ki), .int (nI 0), .ref (ad 2), .ref (ad 3), .int (nI bo), .int (nI bt), .ref (ad 4), .ref (ad 5), .ref (ad 6), .ref (ad 7), .ref (ad 8), .int (nI my), .ref (ad 9), .int (nI pg), .ref (ad 10), .int (nI lg), .ref (ad 11), .int (nI ng)]))]) [0] (by decide) rfl
  exact W.vret hx hb hr (fun t ht hW => ⟨⟨(), rfl, trivial, by rw [ht]; exact hP9, hD9⟩, hS.F ht⟩) hS.2.2 pm_d_phasesChange_10
set_option maxHeartbeats 4000000 in
set_option maxRecDepth 100000 in
/-- mapChanges() -/
theorem pm_mapChanges (l : Launch) (dC : Nat → ClassId) (dI : Nat → Nat → Nat) (cA : Nat → ClassId) (sz : Nat) (o : Nat) (ad : Nat → Nat) (n kl ki kw bo bt my pg lg ng : Nat)  : Met l pm_y_mapChanges pm_w_mapChanges ({ frames := 0, cells := 0, slots := 0, locals := 0 }) (va_Pc [.ref o] (zB (dC, dI) cA [(o, .inr (3, [.int (nI 0), .int (nI n), .ref (ad 0), .ref (ad 1), .int (nI kl), .int (nI ki), .int (nI kw), .ref (ad 2), .ref (ad 3), .int (nI bo), .int (nI bt), .ref (ad 4), .ref (ad 5), .ref (ad 6), .ref (ad 7), .ref (ad 8), .int (nI my), .ref (ad 9), .int (nI pg), .ref (ad 10), .int (nI lg), .ref (ad 11), .int (nI ng)]))] sz)) (va_Qv (fun (_ : Unit) => True) (fun u t => zE (dC, dI) (va_A [(o, .inr (3, [.int (nI 0), .int (nI n), .ref (ad 0), .ref (ad 1), .int (nI kl), .int (nI ki), .int (nI kw), .ref (ad 2), .ref (ad 3), .int (nI bo), .int (nI bt), .ref (ad 4), .ref (ad 5), .ref (ad 6), .ref (ad 7), .ref (ad 8), .int (nI my), .ref (ad 9), .int (nI pg), .ref (ad 10), .int (nI lg), .ref (ad 11), .int (nI ng)]))] sz) ((fun _ => [(o, .inr (3, [.int (nI 0), .int (nI n), .ref (ad 0), .ref (ad 1), .int (nI kl), .int (nI 0), .int (nI 0), .ref (ad 2), .ref (ad 3), .int (nI bo), .int (nI bt), .ref (ad 4), .ref (ad 5), .ref (ad 6), .ref (ad 7), .ref (ad 8), .int (nI my), .ref (ad 9), .int (nI pg), .ref (ad 10), .int (nI lg), .ref (ad 11), .int (nI ng)]))]) u) t) (va_A [(o, .inr (3, [.int (nI 0), .int (nI n), .ref (ad 0), .ref (ad 1), .int (nI kl), .int (nI ki), .int (nI kw), .ref (ad 2), .ref (ad 3), .int (nI bo), .int (nI bt), .ref (ad 4), .ref (ad 5), .ref (ad 6), .ref (ad 7), .ref (ad 8), .int (nI my), .ref (ad 9), .int (nI pg), .ref (ad 10), .int (nI lg), .ref (ad 11), .int (nI ng)]))] sz)) 0 0 (va_A [(o, .inr (3, [.int (nI 0), .int (nI n), .ref (ad 0), .ref (ad 1), .int (nI kl), .int (nI ki), .int (nI kw), .ref (ad 2), .ref (ad 3), .int (nI bo), .int (nI bt), .ref (ad 4), .ref (ad 5), .ref (ad 6), .ref (ad 7), .ref (ad 8), .int (nI my), .ref (ad 9), .int (nI pg), .ref (ad 10), .int (nI lg), .ref (ad 11), .int (nI ng)]))] sz) := by
  refine Met.ofW (cc := pm_c_mapChanges) (maxL := 1) (ret := (none : Option Jvm.ClassFile.FieldType)) (by decide) rfl ?_
  intro p e s m args below meth c s₁ B hml hv
  obtain ⟨rfl, hsz, hP, hK, hD0, hZ⟩ := hv
  have hx := B.exec
  have hb := B.bytes
  have hr := B.returns
  have hts0 := atoms_spec (ws := pm_w_mapChanges) B.pre
  have hts : ∀ w ∈ zz_tbl, w.before _ s = true := fun w h => hts0 w (List.mem_cons_of_mem _ h)
  have hown : s.vm.findClass pm_R = some m.cls := findClass_of_methodNamed B.named
  have hlocks := B.notSynchronized
  subst hsz
  have hD := hD0.self (sz := s.heap.size)
  generalize hAe : va_A [(o, .inr (3, [.int (nI 0), .int (nI n), .ref (ad 0), .ref (ad 1), .int (nI kl), .int (nI ki), .int (nI kw), .ref (ad 2), .ref (ad 3), .int (nI bo), .int (nI bt), .ref (ad 4), .ref (ad 5), .ref (ad 6), .ref (ad 7), .ref (ad 8), .int (nI my), .ref (ad 9), .int (nI pg), .ref (ad 10), .int (nI lg), .ref (ad 11), .int (nI ng)]))] s.heap.size = A at hD hZ ⊢
  have hA : ∀ q : Nat, s.heap.size ≤ q → A q := fun q h => by rw [← hAe]; exact Or.inr h
  have hS : va_S A s.heap s.heap [] := va_S.rf
  have hP : va_P (dC, dI) zz_cl [(o, .inr (3, [.int (nI 0), .int (nI n), .ref (ad 0), .ref (ad 1), .int (nI kl), .int (nI ki), .int (nI kw), .ref (ad 2), .ref (ad 3), .int (nI bo), .int (nI bt), .ref (ad 4), .ref (ad 5), .ref (ad 6), .ref (ad 7), .ref (ad 8), .int (nI my), .ref (ad 9), .int (nI pg), .ref (ad 10), .int (nI lg), .ref (ad 11), .int (nI ng)]))] s.heap := hP
  have hl := lv_entry ([.ref o]) (n := 1) (Nat.le_of_ble_eq_true rfl)
  rw [lg_entry_eq]
  generalize (lg_sl ([.ref o]) ++ List.replicate (1 - (lg_sl ([.ref o])).length) Slot.unset).toArray = ls at hl ⊢
  have hl : lv_has ls 1 [(0, .ref o)] := hl
  refine lv_aload_n hx hb pm_d_mapChanges_0 rfl (lv_at hl 0 rfl) ?_
  refine lv_iconst (v := (nI 0)) hx hb pm_d_mapChanges_1 (by decide) ?_
  refine va_put (D := (dC, dI)) (ci := 3) (v := .int (nI 0)) (ty := .boolean) (C := pm_R) (T := pm_T) (N := 23) hx hb hts pm_in pm_t pm_ok pm_nm hown hK hP hD hS 0 rfl rfl 5 (by decide) (hts _ zk_pm62) (fun _ h9 => h9) rfl (by decide +kernel) rfl rfl (Nat.le_of_ble_eq_true rfl) pm_d_mapChanges_2 (fun H locs hP hD hS => ?_)
  have hP : va_P (dC, dI) zz_cl [(o, .inr (3, [.int (nI 0), .int (nI n), .ref (ad 0), .ref (ad 1), .int (nI kl), .int (nI 0), .int (nI kw), .ref (ad 2), .ref (ad 3), .int (nI bo), .int (nI bt), .ref (ad 4), .ref (ad 5), .ref (ad 6), .ref (ad 7), .ref (ad 8), .int (nI my), .ref (ad 9), .int (nI pg), .ref (ad 10), .int (nI lg), .ref (ad 11), .int (nI ng)]))] H := hP
  have hD : va_D A [(o, .inr (3, [.int (nI 0), .int (nI n), .ref (ad 0), .ref (ad 1), .int (nI kl), .int (nI 0), .int (nI kw), .ref (ad 2), .ref (ad 3), .int (nI bo), .int (nI bt), .ref (ad 4), .ref (ad 5), .ref (ad 6), .ref (ad 7), .ref (ad 8), .int (nI my), .ref (ad 9), .int (nI pg), .ref (ad 10), .int (nI lg), .ref (ad 11), .int (nI ng)]))] := hD
  refine lv_aload_n hx hb pm_d_mapChanges_5 rfl (lv_at hl 0 rfl) ?_
  refine lv_iconst (v := (nI 0)) hx hb pm_d_mapChanges_6 (by decide) ?_
  refine va_put (D := (dC, dI)) (ci := 3) (v := .int (nI 0)) (ty := .boolean) (C := pm_R) (T := pm_T) (N := 23) hx hb hts pm_in pm_t pm_ok pm_nm hown hK hP hD hS 0 rfl rfl 6 (by decide) (hts _ zk_pm69) (fun _ h9 => h9) rfl (by decide +kernel) rfl rfl (Nat.le_of_ble_eq_true rfl) pm_d_mapChanges_7 (fun H locs hP hD hS => ?_)
  have hP : va_P (dC, dI) zz_cl [(o, .inr (3, [.int (nI 0), .int (nI n), .ref (ad 0), .ref (ad 1), .int (nI kl), .int (nI 0), .int (nI 0), .ref (ad 2), .ref (ad 3), .int (nI bo), .int (nI bt), .ref (ad 4), .ref (ad 5), .ref (ad 6), .ref (ad 7), .ref (ad 8), .int (nI my), .ref (ad 9), .int (nI pg), .ref (ad 10), .int (nI lg), .ref (ad 11), .int (nI ng)]))] H := hP
  have hD : va_D A [(o, .inr (3, [.int (nI 0), .int (nI n), .ref (ad 0), .ref (ad 1), .int (nI kl), .int (nI 0), .int (nI 0), .ref (ad 2), .ref (ad 3), .int (nI bo), .int (nI bt), .ref (ad 4), .ref (ad 5), .ref (ad 6), .ref (ad 7), .ref (ad 8), .int (nI my), .ref (ad 9), .int (nI pg), .ref (ad 10), .int (nI lg), .ref (ad 11), .int (nI ng)]))] := hD
  have hP9 := hP.sub (ws' := [(o, .inr (3, [.int (nI 0), .int (nI n), .ref (ad 0), .ref (ad 1), .int (nI kl), .int (nI 0), .int (nI 0), .ref (ad 2), .ref (ad 3), .int (nI bo), .int (nI bt), .ref (ad 4), .ref (ad 5), .ref (ad 6), .ref (ad 7), .ref (ad 8), .int (nI my), .ref (ad 9), .int (nI pg), .ref (ad 10), .int (nI lg), .ref (ad 11), .int (nI ng)]))]) [0] rfl
  have hD9 := hD.sub (ws' := [(o, .inr (3, [.int (nI 0), .int (nI n), .ref (ad 0), .ref (ad 1), .int (nI kl), .int (nI 0), .int (nI 0), .ref (ad 2), .ref (ad 3), .int (nI bo), .int (nI bt), .ref (ad 4), .ref (ad 5), .ref (ad 6), .ref (ad 7), .ref (ad 8), .int (nI my), .ref (ad 9), .int (nI pg), .ref (ad 10), .int (nI lg), .ref (ad 11), .int (nI ng)]))]) [0] (by decide) rfl
  exact W.vret hx hb hr (fun t ht hW => ⟨⟨(), rfl, trivial, by rw [ht]; exact hP9, hD9⟩, hS.F ht⟩) hS.2.2 pm_d_mapChanges_10
set_option maxHeartbeats 4000000 in
set_option maxRecDepth 100000 in
/-- start(m0) -/
theorem pm_start (l : Launch) (dC : Nat → ClassId) (dI : Nat → Nat → Nat) (cA : Nat → ClassId) (sz : Nat) (o : Nat) (ad : Nat → Nat) (n kl ki kw bo bt my pg lg ng : Nat) (pa ph : Nat → Nat) (m0 : Nat) (hm0 : m0 ≤ 4) : Met l pm_y_start pm_w_start ({ frames := 1, cells := 0, slots := 0, locals := 20 }) (va_Pc [.ref o, .int (nI m0)] (zB (dC, dI) cA [(o, .inr (3, [.int (nI 0), .int (nI n), .ref (ad 0), .ref (ad 1), .int (nI kl), .int (nI ki), .int (nI kw), .ref (ad 2), .ref (ad 3), .int (nI bo), .int (nI bt), .ref (ad 4), .ref (ad 5), .ref (ad 6), .ref (ad 7), .ref (ad 8), .int (nI my), .ref (ad 9), .int (nI pg), .ref (ad 10), .int (nI lg), .ref (ad 11), .int (nI ng)])), (ad 0, .inl (cA 0, 4, .inl (nA pa))), (ad 1, .inl (cA 0, 16, .inl (nA ph)))] sz)) (va_Qv (fun (u : (Nat → Nat) × (Nat → Nat)) => (∀ j, j < m0 → u.1 j = 2 ^ j) ∧ ∀ j, j < 16 → u.2 j = 0) (fun u t => zE (dC, dI) (va_A [(o, .inr (3, [.int (nI 0), .int (nI n), .ref (ad 0), .ref (ad 1), .int (nI kl), .int (nI ki), .int (nI kw), .ref (ad 2), .ref (ad 3), .int (nI bo), .int (nI bt), .ref (ad 4), .ref (ad 5), .ref (ad 6), .ref (ad 7), .ref (ad 8), .int (nI my), .ref (ad 9), .int (nI pg), .ref (ad 10), .int (nI lg), .ref (ad 11), .int (nI ng)])), (ad 0, .inl (cA 0, 4, .inl (nA pa))), (ad 1, .inl (cA 0, 16, .inl (nA ph)))] sz) ((fun (u : (Nat → Nat) × (Nat → Nat)) => [(o, .inr (3, [.int (nI 0), .int (nI m0), .ref (ad 0), .ref (ad 1), .int (nI 0), .int (nI 0), .int (nI 0), .ref (ad 2), .ref (ad 3), .int (nI bo), .int (nI bt), .ref (ad 4), .ref (ad 5), .ref (ad 6), .ref (ad 7), .ref (ad 8), .int (nI my), .ref (ad 9), .int (nI pg), .ref (ad 10), .int (nI lg), .ref (ad 11), .int (nI ng)])), (ad 0, .inl (cA 0, 4, .inl (nA u.1))), (ad 1, .inl (cA 0, 16, .inl (nA u.2)))]) u) t) (va_A [(o, .inr (3, [.int (nI 0), .int (nI n), .ref (ad 0), .ref (ad 1), .int (nI kl), .int (nI ki), .int (nI kw), .ref (ad 2), .ref (ad 3), .int (nI bo), .int (nI bt), .ref (ad 4), .ref (ad 5), .ref (ad 6), .ref (ad 7), .ref (ad 8), .int (nI my), .ref (ad 9), .int (nI pg), .ref (ad 10), .int (nI lg), .ref (ad 11), .int (nI ng)])), (ad 0, .inl (cA 0, 4, .inl (nA pa))), (ad 1, .inl (cA 0, 16, .inl (nA ph)))] sz)) 0 0 (va_A [(o, .inr (3, [.int (nI 0), .int (nI n), .ref (ad 0), .ref (ad 1), .int (nI kl), .int (nI ki), .int (nI kw), .ref (ad 2), .ref (ad 3), .int (nI bo), .int (nI bt), .ref (ad 4), .ref (ad 5), .ref (ad 6), .ref (ad 7), .ref (ad 8), .int (nI my), .ref (ad 9), .int (nI pg), .ref (ad 10), .int (nI lg), .ref (ad 11), .int (nI ng)])), (ad 0, .inl (cA 0, 4, .inl (nA pa))), (ad 1, .inl (cA 0, 16, .inl (nA ph)))] sz) := by
  refine Met.ofW (cc := pm_c_start) (maxL := 3) (ret := (none : Option Jvm.ClassFile.FieldType)) (by decide) rfl ?_
  intro p e s m args below meth c s₁ B hml hv
  obtain ⟨rfl, hsz, hP, hK, hD0, hZ⟩ := hv
  have hx := B.exec
  have hb := B.bytes
  have hr := B.returns
  have hts0 := atoms_spec (ws := pm_w_start) B.pre
  have hts : ∀ w ∈ zz_tbl, w.before _ s = true := fun w h => hts0 w (List.mem_cons_of_mem _ h)
  have hown : s.vm.findClass pm_R = some m.cls := findClass_of_methodNamed B.named
  have hlocks := B.notSynchronized
  subst hsz
  have hD := hD0.self (sz := s.heap.size)
  generalize hAe : va_A [(o, .inr (3, [.int (nI 0), .int (nI n), .ref (ad 0), .ref (ad 1), .int (nI kl), .int (nI ki), .int (nI kw), .ref (ad 2), .ref (ad 3), .int (nI bo), .int (nI bt), .ref (ad 4), .ref (ad 5), .ref (ad 6), .ref (ad 7), .ref (ad 8), .int (nI my), .ref (ad 9), .int (nI pg), .ref (ad 10), .int (nI lg), .ref (ad 11), .int (nI ng)])), (ad 0, .inl (cA 0, 4, .inl (nA pa))), (ad 1, .inl (cA 0, 16, .inl (nA ph)))] s.heap.size = A at hD hZ ⊢
  have hA : ∀ q : Nat, s.heap.size ≤ q → A q := fun q h => by rw [← hAe]; exact Or.inr h
  have hS : va_S A s.heap s.heap [] := va_S.rf
  have hP : va_P (dC, dI) zz_cl [(o, .inr (3, [.int (nI 0), .int (nI n), .ref (ad 0), .ref (ad 1), .int (nI kl), .int (nI ki), .int (nI kw), .ref (ad 2), .ref (ad 3), .int (nI bo), .int (nI bt), .ref (ad 4), .ref (ad 5), .ref (ad 6), .ref (ad 7), .ref (ad 8), .int (nI my), .ref (ad 9), .int (nI pg), .ref (ad 10), .int (nI lg), .ref (ad 11), .int (nI ng)])), (ad 0, .inl (cA 0, 4, .inl (nA pa))), (ad 1, .inl (cA 0, 16, .inl (nA ph)))] s.heap := hP
  have hl := lv_entry ([.ref o, .int (nI m0)]) (n := 3) (Nat.le_of_ble_eq_true rfl)
  rw [lg_entry_eq]
  generalize (lg_sl ([.ref o, .int (nI m0)]) ++ List.replicate (3 - (lg_sl ([.ref o, .int (nI m0)])).length) Slot.unset).toArray = ls at hl ⊢
  have hl : lv_has ls 3 [(0, .ref o), (1, .int (nI m0))] := hl
  refine lv_aload_n hx hb pm_d_start_0 rfl (lv_at hl 0 rfl) ?_
  refine lv_iload_n hx hb pm_d_start_1 rfl (lv_at hl 1 rfl) ?_
  refine va_put (D := (dC, dI)) (ci := 3) (v := .int (nI m0)) (ty := .int) (C := pm_R) (T := pm_T) (N := 23) hx hb hts pm_in pm_t pm_ok pm_nm hown hK hP hD hS 0 rfl rfl 1 (by decide) (hts _ zk_pm56) (fun _ h9 => h9) rfl (by decide +kernel) rfl rfl (Nat.le_of_ble_eq_true rfl) pm_d_start_2 (fun H locs hP hD hS => ?_)
  have hP : va_P (dC, dI) zz_cl [(o, .inr (3, [.int (nI 0), .int (nI m0), .ref (ad 0), .ref (ad 1), .int (nI kl), .int (nI ki), .int (nI kw), .ref (ad 2), .ref (ad 3), .int (nI bo), .int (nI bt), .ref (ad 4), .ref (ad 5), .ref (ad 6), .ref (ad 7), .ref (ad 8), .int (nI my), .ref (ad 9), .int (nI pg), .ref (ad 10), .int (nI lg), .ref (ad 11), .int (nI ng)])), (ad 0, .inl (cA 0, 4, .inl (nA pa))), (ad 1, .inl (cA 0, 16, .inl (nA ph)))] H := hP
  have hD : va_D A [(o, .inr (3, [.int (nI 0), .int (nI m0), .ref (ad 0), .ref (ad 1), .int (nI kl), .int (nI ki), .int (nI kw), .ref (ad 2), .ref (ad 3), .int (nI bo), .int (nI bt), .ref (ad 4), .ref (ad 5), .ref (ad 6), .ref (ad 7), .ref (ad 8), .int (nI my), .ref (ad 9), .int (nI pg), .ref (ad 10), .int (nI lg), .ref (ad 11), .int (nI ng)])), (ad 0, .inl (cA 0, 4, .inl (nA pa))), (ad 1, .inl (cA 0, 16, .inl (nA ph)))] := hD
  refine lv_iconst (v := (nI 0)) hx hb pm_d_start_5 (by decide) ?_
  refine lv_istore_n (lv' := [(2, .int (nI 0)), (0, .ref o), (1, .int (nI m0))]) hx hb pm_d_start_6 rfl hl (by decide) rfl (fun ls hl => ?_)
  refine zl_loop (J := fun k ls H locs => ∃ (i : Nat) (g : Nat → Nat), k = 4 - i ∧ (i ≤ 4) ∧ (∀ j, j < i → j < m0 → g j = 2 ^ j) ∧ va_P (dC, dI) zz_cl [(o, .inr (3, [.int (nI 0), .int (nI m0), .ref (ad 0), .ref (ad 1), .int (nI kl), .int (nI ki), .int (nI kw), .ref (ad 2), .ref (ad 3), .int (nI bo), .int (nI bt), .ref (ad 4), .ref (ad 5), .ref (ad 6), .ref (ad 7), .ref (ad 8), .int (nI my), .ref (ad 9), .int (nI pg), .ref (ad 10), .int (nI lg), .ref (ad 11), .int (nI ng)])), (ad 0, .inl (cA 0, 4, .inl (nA g))), (ad 1, .inl (cA 0, 16, .inl (nA ph)))] H ∧ va_D A [(o, .inr (3, [.int (nI 0), .int (nI m0), .ref (ad 0), .ref (ad 1), .int (nI kl), .int (nI ki), .int (nI kw), .ref (ad 2), .ref (ad 3), .int (nI bo), .int (nI bt), .ref (ad 4), .ref (ad 5), .ref (ad 6), .ref (ad 7), .ref (ad 8), .int (nI my), .ref (ad 9), .int (nI pg), .ref (ad 10), .int (nI lg), .ref (ad 11), .int (nI ng)])), (ad 0, .inl (cA 0, 4, .inl (nA g))), (ad 1, .inl (cA 0, 16, .inl (nA ph)))] ∧ va_S A s.heap H locs ∧ lv_has ls 3 [(0, .ref o), (1, .int (nI m0)), (2, .int (nI i))]) (fun k7 ls H locs hJ7 ih7 => ?_) (4 - 0) ⟨0, pa, rfl, Nat.zero_le _, fun j h => absurd h (Nat.not_lt_zero _), hP, hD, hS, lv_sub hl [1, 2, 0] rfl⟩
  obtain ⟨i, g, hk7, hi, hg, hP, hD, hS, hl⟩ := hJ7
  refine lv_iload_n hx hb pm_d_start_7 rfl (lv_at hl 2 rfl) ?_
  refine lv_iconst (v := (nI 4)) hx hb pm_d_start_8 (by decide) ?_
  refine zc_ge (tgt := 36) hx hb pm_d_start_9 (by decide) (by omega) (by omega) (fun c_1 => ?_) (fun c_1 => ?_)
  · refine lv_iconst (v := (nI 0)) hx hb pm_d_start_36 (by decide) ?_
    refine lv_istore_n (lv' := [(2, .int (nI 0)), (0, .ref o), (1, .int (nI m0))]) hx hb pm_d_start_37 rfl hl (by decide) rfl (fun ls hl => ?_)
    refine zl_loop (J := fun k ls H locs => ∃ (i2 : Nat) (g2 : Nat → Nat), k = 16 - i2 ∧ (i2 ≤ 16) ∧ (∀ j, j < i2 → g2 j = 0) ∧ va_P (dC, dI) zz_cl [(o, .inr (3, [.int (nI 0), .int (nI m0), .ref (ad 0), .ref (ad 1), .int (nI kl), .int (nI ki), .int (nI kw), .ref (ad 2), .ref (ad 3), .int (nI bo), .int (nI bt), .ref (ad 4), .ref (ad 5), .ref (ad 6), .ref (ad 7), .ref (ad 8), .int (nI my), .ref (ad 9), .int (nI pg), .ref (ad 10), .int (nI lg), .ref (ad 11), .int (nI ng)])), (ad 0, .inl (cA 0, 4, .inl (nA g))), (ad 1, .inl (cA 0, 16, .inl (nA g2)))] H ∧ va_D A [(o, .inr (3, [.int (nI 0), .int (nI m0), .ref (ad 0), .ref (ad 1), .int (nI kl), .int (nI ki), .int (nI kw), .ref (ad 2), .ref (ad 3), .int (nI bo), .int (nI bt), .ref (ad 4), .ref (ad 5), .ref (ad 6), .ref (ad 7), .ref (ad 8), .int (nI my), .ref (ad 9), .int (nI pg), .ref (ad 10), .int (nI lg), .ref (ad 11), .int (nI ng)])), (ad 0, .inl (cA 0, 4, .inl (nA g))), (ad 1, .inl (cA 0, 16, .inl (nA g2)))] ∧ va_S A s.heap H locs ∧ lv_has ls 3 [(0, .ref o), (1, .int (nI m0)), (2, .int (nI i2))]) (fun k38 ls H locs hJ38 ih38 => ?_) (16 - 0) ⟨0, ph, rfl, Nat.zero_le _, fun j h => absurd h (Nat.not_lt_zero _), hP, hD, hS, lv_sub hl [1, 2, 0] rfl⟩
    obtain ⟨i2, g2, hk38, hi2, hg2, hP, hD, hS, hl⟩ := hJ38
    refine lv_iload_n hx hb pm_d_start_38 rfl (lv_at hl 2 rfl) ?_
    refine lv_bipush (v := (nI 16)) hx hb pm_d_start_39 (by decide) ?_
    refine zc_ge (tgt := 57) hx hb pm_d_start_41 (by decide) (by omega) (by omega) (fun c_2 => ?_) (fun c_2 => ?_)
    · refine lv_aload_n hx hb pm_d_start_57 rfl (lv_at hl 0 rfl) ?_
      refine zq_Vwv (n := 0) (As := []) (rest := []) (wc := [(o, .inr (3, [.int (nI 0), .int (nI m0), .ref (ad 0), .ref (ad 1), .int (nI kl), .int (nI ki), .int (nI kw), .ref (ad 2), .ref (ad 3), .int (nI bo), .int (nI bt), .ref (ad 4), .ref (ad 5), .ref (ad 6), .ref (ad 7), .ref (ad 8), .int (nI my), .ref (ad 9), .int (nI pg), .ref (ad 10), .int (nI lg), .ref (ad 11), .int (nI ng)]))]) (wr := [(ad 0, .inl (cA 0, 4, .inl (nA g))), (ad 1, .inl (cA 0, 16, .inl (nA g2)))]) ⟨hx, hb, hml, hown, hts⟩ (pm_phasesChange l dC dI cA _ o ad m0 kl ki kw bo bt my pg lg ng) zg_pm59 (by decide +kernel) ⟨rfl, rfl⟩ ⟨Nat.le_of_ble_eq_true rfl, Nat.le_of_ble_eq_true rfl⟩ hK hP hD hS hA hZ [0] [1, 2] rfl rfl (by decide) 3 0 rfl rfl rfl rfl hl.1 rfl (Nat.le_of_ble_eq_true rfl) pm_d_start_58 (fun u_5 H locs h_4 hP hD hS => ?_) ⟨Nat.le_of_ble_eq_true rfl, Nat.le_of_ble_eq_true rfl⟩
      have hP : va_P (dC, dI) zz_cl [(ad 0, .inl (cA 0, 4, .inl (nA g))), (ad 1, .inl (cA 0, 16, .inl (nA g2))), (o, .inr (3, [.int (nI 0), .int (nI m0), .ref (ad 0), .ref (ad 1), .int (nI 0), .int (nI ki), .int (nI 0), .ref (ad 2), .ref (ad 3), .int (nI bo), .int (nI bt), .ref (ad 4), .ref (ad 5), .ref (ad 6), .ref (ad 7), .ref (ad 8), .int (nI my), .ref (ad 9), .int (nI pg), .ref (ad 10), .int (nI lg), .ref (ad 11), .int (nI ng)]))] H := hP
      have hD : va_D A [(ad 0, .inl (cA 0, 4, .inl (nA g))), (ad 1, .inl (cA 0, 16, .inl (nA g2))), (o, .inr (3, [.int (nI 0), .int (nI m0), .ref (ad 0), .ref (ad 1), .int (nI 0), .int (nI ki), .int (nI 0), .ref (ad 2), .ref (ad 3), .int (nI bo), .int (nI bt), .ref (ad 4), .ref (ad 5), .ref (ad 6), .ref (ad 7), .ref (ad 8), .int (nI my), .ref (ad 9), .int (nI pg), .ref (ad 10), .int (nI lg), .ref (ad 11), .int (nI ng)]))] := hD
      refine lv_aload_n hx hb pm_d_start_61 rfl (lv_at hl 0 rfl) ?_
      refine lv_iconst (v := (nI 0)) hx hb pm_d_start_62 (by decide) ?_
      refine va_put (D := (dC, dI)) (ci := 3) (v := .int (nI 0)) (ty := .boolean) (C := pm_R) (T := pm_T) (N := 23) hx hb hts pm_in pm_t pm_ok pm_nm hown hK hP hD hS 2 rfl rfl 5 (by decide) (hts _ zk_pm62) (fun _ h9 => h9) rfl (by decide +kernel) rfl rfl (Nat.le_of_ble_eq_true rfl) pm_d_start_63 (fun H locs hP hD hS => ?_)
      have hP : va_P (dC, dI) zz_cl [(ad 0, .inl (cA 0, 4, .inl (nA g))), (ad 1, .inl (cA 0, 16, .inl (nA g2))), (o, .inr (3, [.int (nI 0), .int (nI m0), .ref (ad 0), .ref (ad 1), .int (nI 0), .int (nI 0), .int (nI 0), .ref (ad 2), .ref (ad 3), .int (nI bo), .int (nI bt), .ref (ad 4), .ref (ad 5), .ref (ad 6), .ref (ad 7), .ref (ad 8), .int (nI my), .ref (ad 9), .int (nI pg), .ref (ad 10), .int (nI lg), .ref (ad 11), .int (nI ng)]))] H := hP
      have hD : va_D A [(ad 0, .inl (cA 0, 4, .inl (nA g))), (ad 1, .inl (cA 0, 16, .inl (nA g2))), (o, .inr (3, [.int (nI 0), .int (nI m0), .ref (ad 0), .ref (ad 1), .int (nI 0), .int (nI 0), .int (nI 0), .ref (ad 2), .ref (ad 3), .int (nI bo), .int (nI bt), .ref (ad 4), .ref (ad 5), .ref (ad 6), .ref (ad 7), .ref (ad 8), .int (nI my), .ref (ad 9), .int (nI pg), .ref (ad 10), .int (nI lg), .ref (ad 11), .int (nI ng)]))] := hD
      have hP9 := hP.sub (ws' := [(o, .inr (3, [.int (nI 0), .int (nI m0), .ref (ad 0), .ref (ad 1), .int (nI 0), .int (nI 0), .int (nI 0), .ref (ad 2), .ref (ad 3), .int (nI bo), .int (nI bt), .ref (ad 4), .ref (ad 5), .ref (ad 6), .ref (ad 7), .ref (ad 8), .int (nI my), .ref (ad 9), .int (nI pg), .ref (ad 10), .int (nI lg), .ref (ad 11), .int (nI ng)])), (ad 0, .inl (cA 0, 4, .inl (nA g))), (ad 1, .inl (cA 0, 16, .inl (nA g2)))]) [2, 0, 1] rfl
      have hD9 := hD.sub (ws' := [(o, .inr (3, [.int (nI 0), .int (nI m0), .ref (ad 0), .ref (ad 1), .int (nI 0), .int (nI 0), .int (nI 0), .ref (ad 2), .ref (ad 3), .int (nI bo), .int (nI bt), .ref (ad 4), .ref (ad 5), .ref (ad 6), .ref (ad 7), .ref (ad 8), .int (nI my), .ref (ad 9), .int (nI pg), .ref (ad 10), .int (nI lg), .ref (ad 11), .int (nI ng)])), (ad 0, .inl (cA 0, 4, .inl (nA g))), (ad 1, .inl (cA 0, 16, .inl (nA g2)))]) [2, 0, 1] (by decide) rfl
      exact W.vret hx hb hr (fun t ht hW => ⟨⟨(g, g2), rfl, ⟨fun j h => hg j (by omega) h, fun j h => hg2 j (by omega)⟩, by rw [ht]; exact hP9, hD9⟩, hS.F ht⟩) hS.2.2 pm_d_start_66
    · refine lv_aload_n hx hb pm_d_start_44 rfl (lv_at hl 0 rfl) ?_
      refine va_get (D := (dC, dI)) (ci := 3) (v := .ref (ad 1)) (C := pm_R) (T := pm_T) (N := 23) hx hb hts pm_in hown hK hP 0 rfl rfl 3 (by decide) (hts _ zk_pm13) (fun _ h9 => h9) rfl pm_d_start_45 ?_
      refine lv_iload_n hx hb pm_d_start_48 rfl (lv_at hl 2 rfl) ?_
      refine lv_iconst (v := (nI 0)) hx hb pm_d_start_49 (by decide) ?_
      refine zv_iast hx hb hK hP hD hS 2 0 rfl rfl (k := i2) (v := 0) (by omega) (by omega) pm_d_start_50 (fun H locs hP hD hS => ?_)
      have hP : va_P (dC, dI) zz_cl [(o, .inr (3, [.int (nI 0), .int (nI m0), .ref (ad 0), .ref (ad 1), .int (nI kl), .int (nI ki), .int (nI kw), .ref (ad 2), .ref (ad 3), .int (nI bo), .int (nI bt), .ref (ad 4), .ref (ad 5), .ref (ad 6), .ref (ad 7), .ref (ad 8), .int (nI my), .ref (ad 9), .int (nI pg), .ref (ad 10), .int (nI lg), .ref (ad 11), .int (nI ng)])), (ad 0, .inl (cA 0, 4, .inl (nA g))), (ad 1, .inl (cA 0, 16, .inl (nA (va_up g2 i2 0))))] H := hP
      have hD : va_D A [(o, .inr (3, [.int (nI 0), .int (nI m0), .ref (ad 0), .ref (ad 1), .int (nI kl), .int (nI ki), .int (nI kw), .ref (ad 2), .ref (ad 3), .int (nI bo), .int (nI bt), .ref (ad 4), .ref (ad 5), .ref (ad 6), .ref (ad 7), .ref (ad 8), .int (nI my), .ref (ad 9), .int (nI pg), .ref (ad 10), .int (nI lg), .ref (ad 11), .int (nI ng)])), (ad 0, .inl (cA 0, 4, .inl (nA g))), (ad 1, .inl (cA 0, 16, .inl (nA (va_up g2 i2 0))))] := hD
      refine lv_iinc (v := (nI (i2 + 1))) (lv' := [(2, .int (nI (i2 + 1))), (0, .ref o), (1, .int (nI m0))]) hx hb pm_d_start_51 hl (k := 2) rfl (nI_1 i2) (by decide) rfl (fun ls hl => ?_)
      refine lv_goto (tgt := 38) hx hb pm_d_start_54 (by decide) ?_
      exact ih38 _ _ _ _ (by omega) ⟨i2 + 1, _, rfl, by omega, zm_zero hg2, hP, hD, hS, lv_sub hl [1, 2, 0] rfl⟩
  · refine lv_aload_n hx hb pm_d_start_12 rfl (lv_at hl 0 rfl) ?_
    refine va_get (D := (dC, dI)) (ci := 3) (v := .ref (ad 0)) (C := pm_R) (T := pm_T) (N := 23) hx hb hts pm_in hown hK hP 0 rfl rfl 2 (by decide) (hts _ zk_pm7) (fun _ h9 => h9) rfl pm_d_start_13 ?_
    refine lv_iload_n hx hb pm_d_start_16 rfl (lv_at hl 2 rfl) ?_
    refine lv_iload_n hx hb pm_d_start_17 rfl (lv_at hl 2 rfl) ?_
    refine lv_iload_n hx hb pm_d_start_18 rfl (lv_at hl 1 rfl) ?_
    refine zc_ge (tgt := 28) hx hb pm_d_start_19 (by decide) (by omega) (by omega) (fun c_6 => ?_) (fun c_6 => ?_)
    · refine lv_iconst (v := (nI 0)) hx hb pm_d_start_28 (by decide) ?_
      refine zv_iast hx hb hK hP hD hS 1 0 rfl rfl (k := i) (v := 0) (by omega) (by omega) pm_d_start_29 (fun H locs hP hD hS => ?_)
      have hP : va_P (dC, dI) zz_cl [(o, .inr (3, [.int (nI 0), .int (nI m0), .ref (ad 0), .ref (ad 1), .int (nI kl), .int (nI ki), .int (nI kw), .ref (ad 2), .ref (ad 3), .int (nI bo), .int (nI bt), .ref (ad 4), .ref (ad 5), .ref (ad 6), .ref (ad 7), .ref (ad 8), .int (nI my), .ref (ad 9), .int (nI pg), .ref (ad 10), .int (nI lg), .ref (ad 11), .int (nI ng)])), (ad 0, .inl (cA 0, 4, .inl (nA (va_up g i 0)))), (ad 1, .inl (cA 0, 16, .inl (nA ph)))] H := hP
      have hD : va_D A [(o, .inr (3, [.int (nI 0), .int (nI m0), .ref (ad 0), .ref (ad 1), .int (nI kl), .int (nI ki), .int (nI kw), .ref (ad 2), .ref (ad 3), .int (nI bo), .int (nI bt), .ref (ad 4), .ref (ad 5), .ref (ad 6), .ref (ad 7), .ref (ad 8), .int (nI my), .ref (ad 9), .int (nI pg), .ref (ad 10), .int (nI lg), .ref (ad 11), .int (nI ng)])), (ad 0, .inl (cA 0, 4, .inl (nA (va_up g i 0)))), (ad 1, .inl (cA 0, 16, .inl (nA ph)))] := hD
      refine lv_iinc (v := (nI (i + 1))) (lv' := [(2, .int (nI (i + 1))), (0, .ref o), (1, .int (nI m0))]) hx hb pm_d_start_30 hl (k := 2) rfl (nI_1 i) (by decide) rfl (fun ls hl => ?_)
      refine lv_goto (tgt := 7) hx hb pm_d_start_33 (by decide) ?_
      exact ih7 _ _ _ _ (by omega) ⟨i + 1, _, rfl, by omega, zm_pow hg (fun h => absurd h (by omega)), hP, hD, hS, lv_sub hl [1, 2, 0] rfl⟩
    · refine lv_iconst (v := (nI 1)) hx hb pm_d_start_22 (by decide) ?_
      refine lv_iload_n hx hb pm_d_start_23 rfl (lv_at hl 2 rfl) ?_
      refine lv_ishl hx hb pm_d_start_24 ?_
      refine zt_i (zb_shl1 (k := i) (by omega)) ?_
      refine lv_goto (tgt := 29) hx hb pm_d_start_25 (by decide) ?_
      refine zv_iast hx hb hK hP hD hS 1 0 rfl rfl (k := i) (v := (2 ^ i)) (by omega) (by omega) pm_d_start_29 (fun H locs hP hD hS => ?_)
      have hP : va_P (dC, dI) zz_cl [(o, .inr (3, [.int (nI 0), .int (nI m0), .ref (ad 0), .ref (ad 1), .int (nI kl), .int (nI ki), .int (nI kw), .ref (ad 2), .ref (ad 3), .int (nI bo), .int (nI bt), .ref (ad 4), .ref (ad 5), .ref (ad 6), .ref (ad 7), .ref (ad 8), .int (nI my), .ref (ad 9), .int (nI pg), .ref (ad 10), .int (nI lg), .ref (ad 11), .int (nI ng)])), (ad 0, .inl (cA 0, 4, .inl (nA (va_up g i (2 ^ i))))), (ad 1, .inl (cA 0, 16, .inl (nA ph)))] H := hP
      have hD : va_D A [(o, .inr (3, [.int (nI 0), .int (nI m0), .ref (ad 0), .ref (ad 1), .int (nI kl), .int (nI ki), .int (nI kw), .ref (ad 2), .ref (ad 3), .int (nI bo), .int (nI bt), .ref (ad 4), .ref (ad 5), .ref (ad 6), .ref (ad 7), .ref (ad 8), .int (nI my), .ref (ad 9), .int (nI pg), .ref (ad 10), .int (nI lg), .ref (ad 11), .int (nI ng)])), (ad 0, .inl (cA 0, 4, .inl (nA (va_up g i (2 ^ i))))), (ad 1, .inl (cA 0, 16, .inl (nA ph)))] := hD
      refine lv_iinc (v := (nI (i + 1))) (lv' := [(2, .int (nI (i + 1))), (0, .ref o), (1, .int (nI m0))]) hx hb pm_d_start_30 hl (k := 2) rfl (nI_1 i) (by decide) rfl (fun ls hl => ?_)
      refine lv_goto (tgt := 7) hx hb pm_d_start_33 (by decide) ?_
      exact ih7 _ _ _ _ (by omega) ⟨i + 1, _, rfl, by omega, zm_pow hg (fun _ => rfl), hP, hD, hS, lv_sub hl [1, 2, 0] rfl⟩
set_option maxHeartbeats 4000000 in
set_option maxRecDepth 100000 in
/-- begin(x) -/
theorem pm_begin (l : Launch) (dC : Nat → ClassId) (dI : Nat → Nat → Nat) (cA : Nat → ClassId) (sz : Nat) (o : Nat) (ad : Nat → Nat) (n kl ki kw bo bt my pg lg ng : Nat) (pa ph : Nat → Nat) (x : Int32)  : Met l pm_y_begin pm_w_begin ({ frames := 2, cells := 0, slots := 0, locals := 42 }) (va_Pc [.ref o, .int x] (zB (dC, dI) cA [(o, .inr (3, [.int (nI 0), .int (nI n), .ref (ad 0), .ref (ad 1), .int (nI kl), .int (nI ki), .int (nI kw), .ref (ad 2), .ref (ad 3), .int (nI bo), .int (nI bt), .ref (ad 4), .ref (ad 5), .ref (ad 6), .ref (ad 7), .ref (ad 8), .int (nI my), .ref (ad 9), .int (nI pg), .ref (ad 10), .int (nI lg), .ref (ad 11), .int (nI ng)])), (ad 0, .inl (cA 0, 4, .inl (nA pa))), (ad 1, .inl (cA 0, 16, .inl (nA ph)))] sz)) (va_Qi (fun (r : Int32) (u : Nat × (Nat → Nat) × (Nat → Nat) × Nat × Nat × Nat) => (∃ m0, 1 ≤ m0 ∧ m0 ≤ 4 ∧ x = nI m0 ∧ r = nI 1 ∧ (∀ j, j < m0 → u.2.1 j = 2 ^ j) ∧ (∀ j, j < 16 → u.2.2.1 j = 0) ∧ u = (m0, u.2.1, u.2.2.1, 0, 0, 0)) ∨ (¬ zw_pa 4 x ∧ r = nI 0 ∧ u = (n, pa, ph, kl, ki, kw))) (fun u t => zE (dC, dI) (va_A [(o, .inr (3, [.int (nI 0), .int (nI n), .ref (ad 0), .ref (ad 1), .int (nI kl), .int (nI ki), .int (nI kw), .ref (ad 2), .ref (ad 3), .int (nI bo), .int (nI bt), .ref (ad 4), .ref (ad 5), .ref (ad 6), .ref (ad 7), .ref (ad 8), .int (nI my), .ref (ad 9), .int (nI pg), .ref (ad 10), .int (nI lg), .ref (ad 11), .int (nI ng)])), (ad 0, .inl (cA 0, 4, .inl (nA pa))), (ad 1, .inl (cA 0, 16, .inl (nA ph)))] sz) ((fun (u : Nat × (Nat → Nat) × (Nat → Nat) × Nat × Nat × Nat) => [(o, .inr (3, [.int (nI 0), .int (nI u.1), .ref (ad 0), .ref (ad 1), .int (nI u.2.2.2.1), .int (nI u.2.2.2.2.1), .int (nI u.2.2.2.2.2), .ref (ad 2), .ref (ad 3), .int (nI bo), .int (nI bt), .ref (ad 4), .ref (ad 5), .ref (ad 6), .ref (ad 7), .ref (ad 8), .int (nI my), .ref (ad 9), .int (nI pg), .ref (ad 10), .int (nI lg), .ref (ad 11), .int (nI ng)])), (ad 0, .inl (cA 0, 4, .inl (nA u.2.1))), (ad 1, .inl (cA 0, 16, .inl (nA u.2.2.1)))]) u) t) (va_A [(o, .inr (3, [.int (nI 0), .int (nI n), .ref (ad 0), .ref (ad 1), .int (nI kl), .int (nI ki), .int (nI kw), .ref (ad 2), .ref (ad 3), .int (nI bo), .int (nI bt), .ref (ad 4), .ref (ad 5), .ref (ad 6), .ref (ad 7), .ref (ad 8), .int (nI my), .ref (ad 9), .int (nI pg), .ref (ad 10), .int (nI lg), .ref (ad 11), .int (nI ng)])), (ad 0, .inl (cA 0, 4, .inl (nA pa))), (ad 1, .inl (cA 0, 16, .inl (nA ph)))] sz)) 0 0 (va_A [(o, .inr (3, [.int (nI 0), .int (nI n), .ref (ad 0), .ref (ad 1), .int (nI kl), .int (nI ki), .int (nI kw), .ref (ad 2), .ref (ad 3), .int (nI bo), .int (nI bt), .ref (ad 4), .ref (ad 5), .ref (ad 6), .ref (ad 7), .ref (ad 8), .int (nI my), .ref (ad 9), .int (nI pg), .ref (ad 10), .int (nI lg), .ref (ad 11), .int (nI ng)])), (ad 0, .inl (cA 0, 4, .inl (nA pa))), (ad 1, .inl (cA 0, 16, .inl (nA ph)))] sz) := by
  refine Met.ofW (cc := pm_c_begin) (maxL := 2) (ret := (some .boolean)) (by decide) rfl ?_
  intro p e s m args below meth c s₁ B hml hv
  obtain ⟨rfl, hsz, hP, hK, hD0, hZ⟩ := hv
  have hx := B.exec
  have hb := B.bytes
  have hr := B.returns
  have hts0 := atoms_spec (ws := pm_w_begin) B.pre
  have hts : ∀ w ∈ zz_tbl, w.before _ s = true := fun w h => hts0 w (List.mem_cons_of_mem _ h)
  have hown : s.vm.findClass pm_R = some m.cls := findClass_of_methodNamed B.named
  have hlocks := B.notSynchronized
  subst hsz
  have hD := hD0.self (sz := s.heap.size)
  generalize hAe : va_A [(o, .inr (3, [.int (nI 0), .int (nI n), .ref (ad 0), .ref (ad 1), .int (nI kl), .int (nI ki), .int (nI kw), .ref (ad 2), .ref (ad 3), .int (nI bo), .int (nI bt), .ref (ad 4), .ref (ad 5), .ref (ad 6), .ref (ad 7), .ref (ad 8), .int (nI my), .ref (ad 9), .int (nI pg), .ref (ad 10), .int (nI lg), .ref (ad 11), .int (nI ng)])), (ad 0, .inl (cA 0, 4, .inl (nA pa))), (ad 1, .inl (cA 0, 16, .inl (nA ph)))] s.heap.size = A at hD hZ ⊢
  have hA : ∀ q : Nat, s.heap.size ≤ q → A q := fun q h => by rw [← hAe]; exact Or.inr h
  have hS : va_S A s.heap s.heap [] := va_S.rf
  have hP : va_P (dC, dI) zz_cl [(o, .inr (3, [.int (nI 0), .int (nI n), .ref (ad 0), .ref (ad 1), .int (nI kl), .int (nI ki), .int (nI kw), .ref (ad 2), .ref (ad 3), .int (nI bo), .int (nI bt), .ref (ad 4), .ref (ad 5), .ref (ad 6), .ref (ad 7), .ref (ad 8), .int (nI my), .ref (ad 9), .int (nI pg), .ref (ad 10), .int (nI lg), .ref (ad 11), .int (nI ng)])), (ad 0, .inl (cA 0, 4, .inl (nA pa))), (ad 1, .inl (cA 0, 16, .inl (nA ph)))] s.heap := hP
  have hl := lv_entry ([.ref o, .int x]) (n := 2) (Nat.le_of_ble_eq_true rfl)
  rw [lg_entry_eq]
  generalize (lg_sl ([.ref o, .int x]) ++ List.replicate (2 - (lg_sl ([.ref o, .int x])).length) Slot.unset).toArray = ls at hl ⊢
  have hl : lv_has ls 2 [(0, .ref o), (1, .int x)] := hl
  refine lv_aload_n hx hb pm_d_begin_0 rfl (lv_at hl 0 rfl) ?_
  refine lv_iconst (v := (nI 0)) hx hb pm_d_begin_1 (by decide) ?_
  refine va_put (D := (dC, dI)) (ci := 3) (v := .int (nI 0)) (ty := .int) (C := pm_R) (T := pm_T) (N := 23) hx hb hts pm_in pm_t pm_ok pm_nm hown hK hP hD hS 0 rfl rfl 0 (by decide) (hts _ zk_pm52) (fun _ h9 => h9) rfl (by decide +kernel) rfl rfl (Nat.le_of_ble_eq_true rfl) pm_d_begin_2 (fun H locs hP hD hS => ?_)
  have hP : va_P (dC, dI) zz_cl [(o, .inr (3, [.int (nI 0), .int (nI n), .ref (ad 0), .ref (ad 1), .int (nI kl), .int (nI ki), .int (nI kw), .ref (ad 2), .ref (ad 3), .int (nI bo), .int (nI bt), .ref (ad 4), .ref (ad 5), .ref (ad 6), .ref (ad 7), .ref (ad 8), .int (nI my), .ref (ad 9), .int (nI pg), .ref (ad 10), .int (nI lg), .ref (ad 11), .int (nI ng)])), (ad 0, .inl (cA 0, 4, .inl (nA pa))), (ad 1, .inl (cA 0, 16, .inl (nA ph)))] H := hP
  have hD : va_D A [(o, .inr (3, [.int (nI 0), .int (nI n), .ref (ad 0), .ref (ad 1), .int (nI kl), .int (nI ki), .int (nI kw), .ref (ad 2), .ref (ad 3), .int (nI bo), .int (nI bt), .ref (ad 4), .ref (ad 5), .ref (ad 6), .ref (ad 7), .ref (ad 8), .int (nI my), .ref (ad 9), .int (nI pg), .ref (ad 10), .int (nI lg), .ref (ad 11), .int (nI ng)])), (ad 0, .inl (cA 0, 4, .inl (nA pa))), (ad 1, .inl (cA 0, 16, .inl (nA ph)))] := hD
  refine lv_iload_n hx hb pm_d_begin_5 rfl (lv_at hl 1 rfl) ?_
  refine lv_iconst (v := (nI 1)) hx hb pm_d_begin_6 (by decide) ?_
  refine lv_icmp_lt (tgt := 15) hx hb pm_d_begin_7 (by decide) (fun c_1 => ?_) (fun c_1 => ?_)
  · refine lv_iconst (v := (nI 0)) hx hb pm_d_begin_15 (by decide) ?_
    have hP9 := hP.sub (ws' := [(o, .inr (3, [.int (nI 0), .int (nI n), .ref (ad 0), .ref (ad 1), .int (nI kl), .int (nI ki), .int (nI kw), .ref (ad 2), .ref (ad 3), .int (nI bo), .int (nI bt), .ref (ad 4), .ref (ad 5), .ref (ad 6), .ref (ad 7), .ref (ad 8), .int (nI my), .ref (ad 9), .int (nI pg), .ref (ad 10), .int (nI lg), .ref (ad 11), .int (nI ng)])), (ad 0, .inl (cA 0, 4, .inl (nA pa))), (ad 1, .inl (cA 0, 16, .inl (nA ph)))]) [0, 1, 2] rfl
    have hD9 := hD.sub (ws' := [(o, .inr (3, [.int (nI 0), .int (nI n), .ref (ad 0), .ref (ad 1), .int (nI kl), .int (nI ki), .int (nI kw), .ref (ad 2), .ref (ad 3), .int (nI bo), .int (nI bt), .ref (ad 4), .ref (ad 5), .ref (ad 6), .ref (ad 7), .ref (ad 8), .int (nI my), .ref (ad 9), .int (nI pg), .ref (ad 10), .int (nI lg), .ref (ad 11), .int (nI ng)])), (ad 0, .inl (cA 0, 4, .inl (nA pa))), (ad 1, .inl (cA 0, 16, .inl (nA ph)))]) [0, 1, 2] (by decide) rfl
    exact W.zret (v := (nI 0)) hx hb hr (by decide) (fun t ht hW => ⟨⟨(nI 0), (n, pa, ph, kl, ki, kw), rfl, Or.inr ⟨fun h => zw_pa_lt (by decide) c_1 h, rfl, rfl⟩, by rw [ht]; exact hP9, hD9⟩, hS.F ht⟩) hS.2.2 pm_d_begin_16
  · refine lv_iload_n hx hb pm_d_begin_10 rfl (lv_at hl 1 rfl) ?_
    refine lv_iconst (v := (nI 4)) hx hb pm_d_begin_11 (by decide) ?_
    refine lv_icmp_le (tgt := 17) hx hb pm_d_begin_12 (by decide) (fun c_2 => ?_) (fun c_2 => ?_)
    · obtain ⟨m0, hm1, hm4, rfl⟩ := zw_14 c_1 c_2
      refine lv_aload_n hx hb pm_d_begin_17 rfl (lv_at hl 0 rfl) ?_
      refine lv_iload_n hx hb pm_d_begin_18 rfl (lv_at hl 1 rfl) ?_
      refine zq_Vwv (n := 1) (As := [.int (nI m0)]) (rest := []) (wc := [(o, .inr (3, [.int (nI 0), .int (nI n), .ref (ad 0), .ref (ad 1), .int (nI kl), .int (nI ki), .int (nI kw), .ref (ad 2), .ref (ad 3), .int (nI bo), .int (nI bt), .ref (ad 4), .ref (ad 5), .ref (ad 6), .ref (ad 7), .ref (ad 8), .int (nI my), .ref (ad 9), .int (nI pg), .ref (ad 10), .int (nI lg), .ref (ad 11), .int (nI ng)])), (ad 0, .inl (cA 0, 4, .inl (nA pa))), (ad 1, .inl (cA 0, 16, .inl (nA ph)))]) (wr := []) ⟨hx, hb, hml, hown, hts⟩ (pm_start l dC dI cA _ o ad n kl ki kw bo bt my pg lg ng pa ph m0 (by omega)) zg_pm48 (by decide +kernel) ⟨rfl, rfl⟩ ⟨Nat.le_of_ble_eq_true rfl, Nat.le_of_ble_eq_true rfl⟩ hK hP hD hS hA hZ [0, 1, 2] [] rfl rfl (by decide) 3 0 rfl rfl rfl rfl hl.1 rfl (Nat.le_of_ble_eq_true rfl) pm_d_begin_19 (fun u_5 H locs h_4 hP hD hS => ?_) ⟨Nat.le_of_ble_eq_true rfl, Nat.le_of_ble_eq_true rfl⟩
      obtain ⟨pa_u_5, ph_u_5⟩ := u_5
      have hP : va_P (dC, dI) zz_cl [(o, .inr (3, [.int (nI 0), .int (nI m0), .ref (ad 0), .ref (ad 1), .int (nI 0), .int (nI 0), .int (nI 0), .ref (ad 2), .ref (ad 3), .int (nI bo), .int (nI bt), .ref (ad 4), .ref (ad 5), .ref (ad 6), .ref (ad 7), .ref (ad 8), .int (nI my), .ref (ad 9), .int (nI pg), .ref (ad 10), .int (nI lg), .ref (ad 11), .int (nI ng)])), (ad 0, .inl (cA 0, 4, .inl (nA pa_u_5))), (ad 1, .inl (cA 0, 16, .inl (nA ph_u_5)))] H := hP
      have hD : va_D A [(o, .inr (3, [.int (nI 0), .int (nI m0), .ref (ad 0), .ref (ad 1), .int (nI 0), .int (nI 0), .int (nI 0), .ref (ad 2), .ref (ad 3), .int (nI bo), .int (nI bt), .ref (ad 4), .ref (ad 5), .ref (ad 6), .ref (ad 7), .ref (ad 8), .int (nI my), .ref (ad 9), .int (nI pg), .ref (ad 10), .int (nI lg), .ref (ad 11), .int (nI ng)])), (ad 0, .inl (cA 0, 4, .inl (nA pa_u_5))), (ad 1, .inl (cA 0, 16, .inl (nA ph_u_5)))] := hD
      refine lv_iconst (v := (nI 1)) hx hb pm_d_begin_22 (by decide) ?_
      have hP9 := hP.sub (ws' := [(o, .inr (3, [.int (nI 0), .int (nI m0), .ref (ad 0), .ref (ad 1), .int (nI 0), .int (nI 0), .int (nI 0), .ref (ad 2), .ref (ad 3), .int (nI bo), .int (nI bt), .ref (ad 4), .ref (ad 5), .ref (ad 6), .ref (ad 7), .ref (ad 8), .int (nI my), .ref (ad 9), .int (nI pg), .ref (ad 10), .int (nI lg), .ref (ad 11), .int (nI ng)])), (ad 0, .inl (cA 0, 4, .inl (nA pa_u_5))), (ad 1, .inl (cA 0, 16, .inl (nA ph_u_5)))]) [0, 1, 2] rfl
      have hD9 := hD.sub (ws' := [(o, .inr (3, [.int (nI 0), .int (nI m0), .ref (ad 0), .ref (ad 1), .int (nI 0), .int (nI 0), .int (nI 0), .ref (ad 2), .ref (ad 3), .int (nI bo), .int (nI bt), .ref (ad 4), .ref (ad 5), .ref (ad 6), .ref (ad 7), .ref (ad 8), .int (nI my), .ref (ad 9), .int (nI pg), .ref (ad 10), .int (nI lg), .ref (ad 11), .int (nI ng)])), (ad 0, .inl (cA 0, 4, .inl (nA pa_u_5))), (ad 1, .inl (cA 0, 16, .inl (nA ph_u_5)))]) [0, 1, 2] (by decide) rfl
      exact W.zret (v := (nI 1)) hx hb hr (by decide) (fun t ht hW => ⟨⟨(nI 1), (m0, pa_u_5, ph_u_5, 0, 0, 0), rfl, Or.inl ⟨m0, hm1, hm4, rfl, rfl, h_4.1, h_4.2, rfl⟩, by rw [ht]; exact hP9, hD9⟩, hS.F ht⟩) hS.2.2 pm_d_begin_23
    · refine lv_iconst (v := (nI 0)) hx hb pm_d_begin_15 (by decide) ?_
      have hP9 := hP.sub (ws' := [(o, .inr (3, [.int (nI 0), .int (nI n), .ref (ad 0), .ref (ad 1), .int (nI kl), .int (nI ki), .int (nI kw), .ref (ad 2), .ref (ad 3), .int (nI bo), .int (nI bt), .ref (ad 4), .ref (ad 5), .ref (ad 6), .ref (ad 7), .ref (ad 8), .int (nI my), .ref (ad 9), .int (nI pg), .ref (ad 10), .int (nI lg), .ref (ad 11), .int (nI ng)])), (ad 0, .inl (cA 0, 4, .inl (nA pa))), (ad 1, .inl (cA 0, 16, .inl (nA ph)))]) [0, 1, 2] rfl
      have hD9 := hD.sub (ws' := [(o, .inr (3, [.int (nI 0), .int (nI n), .ref (ad 0), .ref (ad 1), .int (nI kl), .int (nI ki), .int (nI kw), .ref (ad 2), .ref (ad 3), .int (nI bo), .int (nI bt), .ref (ad 4), .ref (ad 5), .ref (ad 6), .ref (ad 7), .ref (ad 8), .int (nI my), .ref (ad 9), .int (nI pg), .ref (ad 10), .int (nI lg), .ref (ad 11), .int (nI ng)])), (ad 0, .inl (cA 0, 4, .inl (nA pa))), (ad 1, .inl (cA 0, 16, .inl (nA ph)))]) [0, 1, 2] (by decide) rfl
      exact W.zret (v := (nI 0)) hx hb hr (by decide) (fun t ht hW => ⟨⟨(nI 0), (n, pa, ph, kl, ki, kw), rfl, Or.inr ⟨fun h => c_2 (by obtain ⟨j, h1, h2, rfl⟩ := h; exact nI_le (by omega) (by decide)), rfl, rfl⟩, by rw [ht]; exact hP9, hD9⟩, hS.F ht⟩) hS.2.2 pm_d_begin_16
