def pz_pop (k : Nat) : Nat := k % 2 + k / 2 % 2 + k / 4 % 2 + k / 8 % 2
set_option maxRecDepth 100000 in
theorem jd_bc : ∀ x, x < 16 → (((((((((nI x) - ((((nI x).toUInt32 >>> ((nI 1).toUInt32 &&& Int32.toUInt32 31)).toInt32) &&& 1431655765)) &&& 858993459) + (((((nI x) - ((((nI x).toUInt32 >>> ((nI 1).toUInt32 &&& Int32.toUInt32 31)).toInt32) &&& 1431655765)).toUInt32 >>> ((nI 2).toUInt32 &&& Int32.toUInt32 31)).toInt32) &&& 858993459)) + ((((((nI x) - ((((nI x).toUInt32 >>> ((nI 1).toUInt32 &&& Int32.toUInt32 31)).toInt32) &&& 1431655765)) &&& 858993459) + (((((nI x) - ((((nI x).toUInt32 >>> ((nI 1).toUInt32 &&& Int32.toUInt32 31)).toInt32) &&& 1431655765)).toUInt32 >>> ((nI 2).toUInt32 &&& Int32.toUInt32 31)).toInt32) &&& 858993459)).toUInt32 >>> ((nI 4).toUInt32 &&& Int32.toUInt32 31)).toInt32)) &&& 252645135) + ((((((((nI x) - ((((nI x).toUInt32 >>> ((nI 1).toUInt32 &&& Int32.toUInt32 31)).toInt32) &&& 1431655765)) &&& 858993459) + (((((nI x) - ((((nI x).toUInt32 >>> ((nI 1).toUInt32 &&& Int32.toUInt32 31)).toInt32) &&& 1431655765)).toUInt32 >>> ((nI 2).toUInt32 &&& Int32.toUInt32 31)).toInt32) &&& 858993459)) + ((((((nI x) - ((((nI x).toUInt32 >>> ((nI 1).toUInt32 &&& Int32.toUInt32 31)).toInt32) &&& 1431655765)) &&& 858993459) + (((((nI x) - ((((nI x).toUInt32 >>> ((nI 1).toUInt32 &&& Int32.toUInt32 31)).toInt32) &&& 1431655765)).toUInt32 >>> ((nI 2).toUInt32 &&& Int32.toUInt32 31)).toInt32) &&& 858993459)).toUInt32 >>> ((nI 4).toUInt32 &&& Int32.toUInt32 31)).toInt32)) &&& 252645135).toUInt32 >>> ((nI 8).toUInt32 &&& Int32.toUInt32 31)).toInt32)) + (((((((((nI x) - ((((nI x).toUInt32 >>> ((nI 1).toUInt32 &&& Int32.toUInt32 31)).toInt32) &&& 1431655765)) &&& 858993459) + (((((nI x) - ((((nI x).toUInt32 >>> ((nI 1).toUInt32 &&& Int32.toUInt32 31)).toInt32) &&& 1431655765)).toUInt32 >>> ((nI 2).toUInt32 &&& Int32.toUInt32 31)).toInt32) &&& 858993459)) + ((((((nI x) - ((((nI x).toUInt32 >>> ((nI 1).toUInt32 &&& Int32.toUInt32 31)).toInt32) &&& 1431655765)) &&& 858993459) + (((((nI x) - ((((nI x).toUInt32 >>> ((nI 1).toUInt32 &&& Int32.toUInt32 31)).toInt32) &&& 1431655765)).toUInt32 >>> ((nI 2).toUInt32 &&& Int32.toUInt32 31)).toInt32) &&& 858993459)).toUInt32 >>> ((nI 4).toUInt32 &&& Int32.toUInt32 31)).toInt32)) &&& 252645135) + ((((((((nI x) - ((((nI x).toUInt32 >>> ((nI 1).toUInt32 &&& Int32.toUInt32 31)).toInt32) &&& 1431655765)) &&& 858993459) + (((((nI x) - ((((nI x).toUInt32 >>> ((nI 1).toUInt32 &&& Int32.toUInt32 31)).toInt32) &&& 1431655765)).toUInt32 >>> ((nI 2).toUInt32 &&& Int32.toUInt32 31)).toInt32) &&& 858993459)) + ((((((nI x) - ((((nI x).toUInt32 >>> ((nI 1).toUInt32 &&& Int32.toUInt32 31)).toInt32) &&& 1431655765)) &&& 858993459) + (((((nI x) - ((((nI x).toUInt32 >>> ((nI 1).toUInt32 &&& Int32.toUInt32 31)).toInt32) &&& 1431655765)).toUInt32 >>> ((nI 2).toUInt32 &&& Int32.toUInt32 31)).toInt32) &&& 858993459)).toUInt32 >>> ((nI 4).toUInt32 &&& Int32.toUInt32 31)).toInt32)) &&& 252645135).toUInt32 >>> ((nI 8).toUInt32 &&& Int32.toUInt32 31)).toInt32)).toUInt32 >>> ((nI 16).toUInt32 &&& Int32.toUInt32 31)).toInt32)) &&& (nI 63)) = nI (pz_pop x) := by decide +kernel
def pz_ctz (k : Nat) : Nat := if k % 2 = 1 then 0 else if k / 2 % 2 = 1 then 1 else if k / 4 % 2 = 1 then 2 else if k / 8 % 2 = 1 then 3 else if k / 16 % 2 = 1 then 4 else 5
theorem jd_cz : ∀ x, x < 64 → 1 ≤ x → ((((nI x) ^^^ (-1)) &&& ((nI x) - (nI 1))) = nI 0 ∧ pz_ctz x = 0) ∨ ((((nI x) ^^^ (-1)) &&& ((nI x) - (nI 1))) = nI 1 ∧ pz_ctz x = 1) ∨ ((((nI x) ^^^ (-1)) &&& ((nI x) - (nI 1))) = nI 3 ∧ pz_ctz x = 2) ∨ ((((nI x) ^^^ (-1)) &&& ((nI x) - (nI 1))) = nI 7 ∧ pz_ctz x = 3) ∨ ((((nI x) ^^^ (-1)) &&& ((nI x) - (nI 1))) = nI 15 ∧ pz_ctz x = 4) ∨ ((((nI x) ^^^ (-1)) &&& ((nI x) - (nI 1))) = nI 31 ∧ pz_ctz x = 5) := by decide +kernel
set_option maxHeartbeats 4000000 in
set_option maxRecDepth 100000 in
/-- Integer.bitCount of a number below 16 -/
theorem jd_bitCount (l : Launch) (x : Nat) (hx0 : x < 16) : Met l jd_y_bitCount jd_w_bitCount ({ frames := 0, cells := 0, slots := 0, locals := 0 }) (va_Pc [.int (nI x)] (fun _ => True)) (vp_Si (fun r => r = nI (pz_pop x))) 0 0 (fun _ => False) := by
  refine Met.ofW (cc := jd_c_bitCount) (maxL := 1) (ret := (some .int)) (by decide) rfl ?_
  intro p e s m args below meth c s₁ B hml hv
  obtain ⟨rfl, -⟩ := hv
  have hx := B.exec
  have hb := B.bytes
  have hr := B.returns
  have hts0 := atoms_spec (ws := jd_w_bitCount) B.pre
  have hts : ∀ w ∈ zz_tbl, w.before _ s = true := fun w h => hts0 w (List.mem_cons_of_mem _ h)
  have hown : s.vm.findClass jd_Ri = some m.cls := findClass_of_methodNamed B.named
  have hlocks := B.notSynchronized
  have hl := lv_entry ([.int (nI x)]) (n := 1) (Nat.le_of_ble_eq_true rfl)
  rw [lg_entry_eq]
  generalize (lg_sl ([.int (nI x)]) ++ List.replicate (1 - (lg_sl ([.int (nI x)])).length) Slot.unset).toArray = ls at hl ⊢
  have hl : lv_has ls 1 [(0, .int (nI x))] := hl
  refine lv_iload_n hx hb jd_d_bitCount_0 rfl (lv_at hl 0 rfl) ?_
  refine lv_iload_n hx hb jd_d_bitCount_1 rfl (lv_at hl 0 rfl) ?_
  refine lv_iconst (v := (nI 1)) hx hb jd_d_bitCount_2 (by decide) ?_
  refine lv_iushr (v := (((nI x).toUInt32 >>> ((nI 1).toUInt32 &&& Int32.toUInt32 31)).toInt32)) hx hb jd_d_bitCount_3 rfl ?_
  refine lv_ldcw (v := 1431655765) hx hb hown (hts _ zk_ji265) jd_d_bitCount_4 ?_
  refine lv_iand hx hb jd_d_bitCount_7 ?_
  refine lv_isub hx hb jd_d_bitCount_8 ?_
  refine lv_topi (fun y_1 ey_1 => ?_)
  refine lv_istore_n (lv' := [(0, .int y_1)]) hx hb jd_d_bitCount_9 rfl hl (by decide) rfl (fun ls hl => ?_)
  refine lv_iload_n hx hb jd_d_bitCount_10 rfl (lv_at hl 0 rfl) ?_
  refine lv_ldcw (v := 858993459) hx hb hown (hts _ zk_ji266) jd_d_bitCount_11 ?_
  refine lv_iand hx hb jd_d_bitCount_14 ?_
  refine lv_iload_n hx hb jd_d_bitCount_15 rfl (lv_at hl 0 rfl) ?_
  refine lv_iconst (v := (nI 2)) hx hb jd_d_bitCount_16 (by decide) ?_
  refine lv_iushr (v := ((y_1.toUInt32 >>> ((nI 2).toUInt32 &&& Int32.toUInt32 31)).toInt32)) hx hb jd_d_bitCount_17 rfl ?_
  refine lv_ldcw (v := 858993459) hx hb hown (hts _ zk_ji266) jd_d_bitCount_18 ?_
  refine lv_iand hx hb jd_d_bitCount_21 ?_
  refine lv_iadd hx hb jd_d_bitCount_22 ?_
  refine lv_topi (fun y_2 ey_2 => ?_)
  refine lv_istore_n (lv' := [(0, .int y_2)]) hx hb jd_d_bitCount_23 rfl hl (by decide) rfl (fun ls hl => ?_)
  refine lv_iload_n hx hb jd_d_bitCount_24 rfl (lv_at hl 0 rfl) ?_
  refine lv_iload_n hx hb jd_d_bitCount_25 rfl (lv_at hl 0 rfl) ?_
  refine lv_iconst (v := (nI 4)) hx hb jd_d_bitCount_26 (by decide) ?_
  refine lv_iushr (v := ((y_2.toUInt32 >>> ((nI 4).toUInt32 &&& Int32.toUInt32 31)).toInt32)) hx hb jd_d_bitCount_27 rfl ?_
  refine lv_iadd hx hb jd_d_bitCount_28 ?_
  refine lv_ldcw (v := 252645135) hx hb hown (hts _ zk_ji267) jd_d_bitCount_29 ?_
  refine lv_iand hx hb jd_d_bitCount_32 ?_
  refine lv_topi (fun y_3 ey_3 => ?_)
  refine lv_istore_n (lv' := [(0, .int y_3)]) hx hb jd_d_bitCount_33 rfl hl (by decide) rfl (fun ls hl => ?_)
  refine lv_iload_n hx hb jd_d_bitCount_34 rfl (lv_at hl 0 rfl) ?_
  refine lv_iload_n hx hb jd_d_bitCount_35 rfl (lv_at hl 0 rfl) ?_
  refine lv_bipush (v := (nI 8)) hx hb jd_d_bitCount_36 (by decide) ?_
  refine lv_iushr (v := ((y_3.toUInt32 >>> ((nI 8).toUInt32 &&& Int32.toUInt32 31)).toInt32)) hx hb jd_d_bitCount_38 rfl ?_
  refine lv_iadd hx hb jd_d_bitCount_39 ?_
  refine lv_topi (fun y_4 ey_4 => ?_)
  refine lv_istore_n (lv' := [(0, .int y_4)]) hx hb jd_d_bitCount_40 rfl hl (by decide) rfl (fun ls hl => ?_)
  refine lv_iload_n hx hb jd_d_bitCount_41 rfl (lv_at hl 0 rfl) ?_
  refine lv_iload_n hx hb jd_d_bitCount_42 rfl (lv_at hl 0 rfl) ?_
  refine lv_bipush (v := (nI 16)) hx hb jd_d_bitCount_43 (by decide) ?_
  refine lv_iushr (v := ((y_4.toUInt32 >>> ((nI 16).toUInt32 &&& Int32.toUInt32 31)).toInt32)) hx hb jd_d_bitCount_45 rfl ?_
  refine lv_iadd hx hb jd_d_bitCount_46 ?_
  refine lv_topi (fun y_5 ey_5 => ?_)
  refine lv_istore_n (lv' := [(0, .int y_5)]) hx hb jd_d_bitCount_47 rfl hl (by decide) rfl (fun ls hl => ?_)
  refine lv_iload_n hx hb jd_d_bitCount_48 rfl (lv_at hl 0 rfl) ?_
  refine lv_bipush (v := (nI 63)) hx hb jd_d_bitCount_49 (by decide) ?_
  refine lv_iand hx hb jd_d_bitCount_51 ?_
  exact W.iret (v := (y_5 &&& (nI 63))) hx hb hr (fun t ht hW => ⟨(y_5 &&& (nI 63)), rfl, by rw [ey_5, ey_4, ey_3, ey_2, ey_1]; exact jd_bc x hx0, ht⟩) (fun q h => by cases h) jd_d_bitCount_52
set_option maxHeartbeats 4000000 in
set_option maxRecDepth 100000 in
/-- Arrays.fill(a, x) -/
theorem jd_fill (l : Launch) (dC : Nat → ClassId) (dI : Nat → Nat → Nat) (cA : Nat → ClassId) (sz : Nat) (o k0 x : Nat) (f : Nat → Nat) (hk0 : k0 < 2 ^ 31) : Met l jd_y_fill jd_w_fill ({ frames := 0, cells := 0, slots := 0, locals := 0 }) (va_Pc [.ref o, .int (nI x)] (zB (dC, dI) cA [(o, .inl (cA 0, k0, .inl (nA f)))] sz)) (va_Qv (fun (u : Nat → Nat) => ∀ j, u j = if j < k0 then x else f j) (fun u t => zE (dC, dI) (va_A [(o, .inl (cA 0, k0, .inl (nA f)))] sz) ((fun (u : Nat → Nat) => [(o, .inl (cA 0, k0, .inl (nA u)))]) u) t) (va_A [(o, .inl (cA 0, k0, .inl (nA f)))] sz)) 0 0 (va_A [(o, .inl (cA 0, k0, .inl (nA f)))] sz) := by
  refine Met.ofW (cc := jd_c_fill) (maxL := 4) (ret := (none : Option Jvm.ClassFile.FieldType)) (by decide) rfl ?_
  intro p e s m args below meth c s₁ B hml hv
  obtain ⟨rfl, hsz, hP, hK, hD0, hZ⟩ := hv
  have hx := B.exec
  have hb := B.bytes
  have hr := B.returns
  have hts0 := atoms_spec (ws := jd_w_fill) B.pre
  have hts : ∀ w ∈ zz_tbl, w.before _ s = true := fun w h => hts0 w (List.mem_cons_of_mem _ h)
  have hown : s.vm.findClass jd_Ra = some m.cls := findClass_of_methodNamed B.named
  have hlocks := B.notSynchronized
  subst hsz
  have hD := hD0.self (sz := s.heap.size)
  generalize hAe : va_A [(o, .inl (cA 0, k0, .inl (nA f)))] s.heap.size = A at hD hZ ⊢
  have hA : ∀ q : Nat, s.heap.size ≤ q → A q := fun q h => by rw [← hAe]; exact Or.inr h
  have hS : va_S A s.heap s.heap [] := va_S.rf
  have hP : va_P (dC, dI) zz_cl [(o, .inl (cA 0, k0, .inl (nA f)))] s.heap := hP
  have hl := lv_entry ([.ref o, .int (nI x)]) (n := 4) (Nat.le_of_ble_eq_true rfl)
  rw [lg_entry_eq]
  generalize (lg_sl ([.ref o, .int (nI x)]) ++ List.replicate (4 - (lg_sl ([.ref o, .int (nI x)])).length) Slot.unset).toArray = ls at hl ⊢
  have hl : lv_has ls 4 [(0, .ref o), (1, .int (nI x))] := hl
  refine lv_iconst (v := (nI 0)) hx hb jd_d_fill_0 (by decide) ?_
  refine lv_istore_n (lv' := [(2, .int (nI 0)), (0, .ref o), (1, .int (nI x))]) hx hb jd_d_fill_1 rfl hl (by decide) rfl (fun ls hl => ?_)
  refine lv_aload_n hx hb jd_d_fill_2 rfl (lv_at hl 1 rfl) ?_
  refine va_alen (v := (nI k0)) hx hb hK hP 0 0 rfl rfl rfl jd_d_fill_3 ?_
  refine lv_istore_n (lv' := [(3, .int (nI k0)), (2, .int (nI 0)), (0, .ref o), (1, .int (nI x))]) hx hb jd_d_fill_4 rfl hl (by decide) rfl (fun ls hl => ?_)
  refine zl_loop (J := fun k ls H locs => ∃ (i : Nat) (g : Nat → Nat), k = k0 - i ∧ (i ≤ k0) ∧ (∀ j, g j = if j < i then x else f j) ∧ va_P (dC, dI) zz_cl [(o, .inl (cA 0, k0, .inl (nA g)))] H ∧ va_D A [(o, .inl (cA 0, k0, .inl (nA g)))] ∧ va_S A s.heap H locs ∧ lv_has ls 4 [(0, .ref o), (1, .int (nI x)), (2, .int (nI i)), (3, .int (nI k0))]) (fun k5 ls H locs hJ5 ih5 => ?_) (k0 - 0) ⟨0, f, rfl, Nat.zero_le _, fun j => by simp, hP, hD, hS, lv_sub hl [2, 3, 1, 0] rfl⟩
  obtain ⟨i, g, hk5, hi, hg, hP, hD, hS, hl⟩ := hJ5
  refine lv_iload_n hx hb jd_d_fill_5 rfl (lv_at hl 2 rfl) ?_
  refine lv_iload_n hx hb jd_d_fill_6 rfl (lv_at hl 3 rfl) ?_
  refine zc_ge (tgt := 20) hx hb jd_d_fill_7 (by decide) (by omega) (by omega) (fun c_1 => ?_) (fun c_1 => ?_)
  · have hP9 := hP.sub (ws' := [(o, .inl (cA 0, k0, .inl (nA g)))]) [0] rfl
    have hD9 := hD.sub (ws' := [(o, .inl (cA 0, k0, .inl (nA g)))]) [0] (by decide) rfl
    exact W.vret hx hb hr (fun t ht hW => ⟨⟨g, rfl, fun j => by rw [hg j, show i = k0 by omega], by rw [ht]; exact hP9, hD9⟩, hS.F ht⟩) hS.2.2 jd_d_fill_20
  · refine lv_aload_n hx hb jd_d_fill_10 rfl (lv_at hl 0 rfl) ?_
    refine lv_iload_n hx hb jd_d_fill_11 rfl (lv_at hl 2 rfl) ?_
    refine lv_iload_n hx hb jd_d_fill_12 rfl (lv_at hl 1 rfl) ?_
    refine zv_iast hx hb hK hP hD hS 0 0 rfl rfl (k := i) (v := x) (by omega) (by omega) jd_d_fill_13 (fun H locs hP hD hS => ?_)
    have hP : va_P (dC, dI) zz_cl [(o, .inl (cA 0, k0, .inl (nA (va_up g i x))))] H := hP
    have hD : va_D A [(o, .inl (cA 0, k0, .inl (nA (va_up g i x))))] := hD
    refine lv_iinc (v := (nI (i + 1))) (lv' := [(2, .int (nI (i + 1))), (0, .ref o), (1, .int (nI x)), (3, .int (nI k0))]) hx hb jd_d_fill_14 hl (k := 2) rfl (nI_1 i) (by decide) rfl (fun ls hl => ?_)
    refine lv_goto (tgt := 5) hx hb jd_d_fill_17 (by decide) ?_
    exact ih5 _ _ _ _ (by omega) ⟨i + 1, _, rfl, by omega, zf_step hg, hP, hD, hS, lv_sub hl [1, 2, 0, 3] rfl⟩
set_option maxHeartbeats 4000000 in
set_option maxRecDepth 100000 in
/-- Integer.numberOfTrailingZeros of 1 .. 63 -/
theorem jd_ctz (l : Launch) (x : Nat) (hx0 : x < 64) (hx1 : 1 ≤ x) : Met l jd_y_numberOfTrailingZeros jd_w_numberOfTrailingZeros ({ frames := 0, cells := 0, slots := 0, locals := 0 }) (va_Pc [.int (nI x)] (fun _ => True)) (vp_Si (fun r => r = nI (pz_ctz x))) 0 0 (fun _ => False) := by
  refine Met.ofW (cc := jd_c_numberOfTrailingZeros) (maxL := 2) (ret := (some .int)) (by decide) rfl ?_
  intro p e s m args below meth c s₁ B hml hv
  obtain ⟨rfl, -⟩ := hv
  have hx := B.exec
  have hb := B.bytes
  have hr := B.returns
  have hts0 := atoms_spec (ws := jd_w_numberOfTrailingZeros) B.pre
  have hts : ∀ w ∈ zz_tbl, w.before _ s = true := fun w h => hts0 w (List.mem_cons_of_mem _ h)
  have hown : s.vm.findClass jd_Ri = some m.cls := findClass_of_methodNamed B.named
  have hlocks := B.notSynchronized
  have hl := lv_entry ([.int (nI x)]) (n := 2) (Nat.le_of_ble_eq_true rfl)
  rw [lg_entry_eq]
  generalize (lg_sl ([.int (nI x)]) ++ List.replicate (2 - (lg_sl ([.int (nI x)])).length) Slot.unset).toArray = ls at hl ⊢
  have hl : lv_has ls 2 [(0, .int (nI x))] := hl
  refine lv_iload_n hx hb jd_d_numberOfTrailingZeros_0 rfl (lv_at hl 0 rfl) ?_
  refine lv_iconst (v := (-1)) hx hb jd_d_numberOfTrailingZeros_1 (by decide) ?_
  refine lv_ixor hx hb jd_d_numberOfTrailingZeros_2 ?_
  refine lv_iload_n hx hb jd_d_numberOfTrailingZeros_3 rfl (lv_at hl 0 rfl) ?_
  refine lv_iconst (v := (nI 1)) hx hb jd_d_numberOfTrailingZeros_4 (by decide) ?_
  refine lv_isub hx hb jd_d_numberOfTrailingZeros_5 ?_
  refine lv_iand hx hb jd_d_numberOfTrailingZeros_6 ?_
  rcases jd_cz x hx0 hx1 with ⟨he, ct⟩ | ⟨he, ct⟩ | ⟨he, ct⟩ | ⟨he, ct⟩ | ⟨he, ct⟩ | ⟨he, ct⟩
  · refine zt_i he ?_
    refine lv_istore_n (lv' := [(0, .int (nI 0))]) hx hb jd_d_numberOfTrailingZeros_7 rfl hl (by decide) rfl (fun ls hl => ?_)
    refine lv_iload_n hx hb jd_d_numberOfTrailingZeros_8 rfl (lv_at hl 0 rfl) ?_
    refine lv_if_gt (tgt := 17) hx hb jd_d_numberOfTrailingZeros_9 (by decide) (fun c_1 => absurd c_1 (by decide)) (fun c_1 => ?_)
    refine lv_iload_n hx hb jd_d_numberOfTrailingZeros_12 rfl (lv_at hl 0 rfl) ?_
    refine lv_bipush (v := (nI 32)) hx hb jd_d_numberOfTrailingZeros_13 (by decide) ?_
    refine lv_iand hx hb jd_d_numberOfTrailingZeros_15 ?_
    refine zt_i (zb_and 0 32) ?_
    exact W.iret (v := (nI (0 &&& 32))) hx hb hr (fun t ht hW => ⟨(nI (0 &&& 32)), rfl, (congrArg nI ct).symm, ht⟩) (fun q h => by cases h) jd_d_numberOfTrailingZeros_16
  · refine zt_i he ?_
    refine lv_istore_n (lv' := [(0, .int (nI 1))]) hx hb jd_d_numberOfTrailingZeros_7 rfl hl (by decide) rfl (fun ls hl => ?_)
    refine lv_iload_n hx hb jd_d_numberOfTrailingZeros_8 rfl (lv_at hl 0 rfl) ?_
    refine lv_if_gt (tgt := 17) hx hb jd_d_numberOfTrailingZeros_9 (by decide) (fun c_2 => ?_) (fun c_2 => absurd c_2 (by decide))
    refine lv_iconst (v := (nI 1)) hx hb jd_d_numberOfTrailingZeros_17 (by decide) ?_
    refine lv_istore_n (lv' := [(1, .int (nI 1)), (0, .int (nI 1))]) hx hb jd_d_numberOfTrailingZeros_18 rfl hl (by decide) rfl (fun ls hl => ?_)
    refine lv_iload_n hx hb jd_d_numberOfTrailingZeros_19 rfl (lv_at hl 1 rfl) ?_
    refine lv_ldcw (v := 65536) hx hb hown (hts _ zk_ji264) jd_d_numberOfTrailingZeros_20 ?_
    refine lv_icmp_le (tgt := 34) hx hb jd_d_numberOfTrailingZeros_23 (by decide) (fun c_3 => ?_) (fun c_3 => absurd c_3 (by decide))
    refine lv_iload_n hx hb jd_d_numberOfTrailingZeros_34 rfl (lv_at hl 1 rfl) ?_
    refine lv_sipush (v := (nI 256)) hx hb jd_d_numberOfTrailingZeros_35 (by decide) ?_
    refine zc_le (tgt := 49) hx hb jd_d_numberOfTrailingZeros_38 (by decide) (by omega) (by omega) (fun c_4 => ?_) (fun c_4 => absurd c_4 (by omega))
    refine lv_iload_n hx hb jd_d_numberOfTrailingZeros_49 rfl (lv_at hl 1 rfl) ?_
    refine lv_bipush (v := (nI 16)) hx hb jd_d_numberOfTrailingZeros_50 (by decide) ?_
    refine zc_le (tgt := 62) hx hb jd_d_numberOfTrailingZeros_52 (by decide) (by omega) (by omega) (fun c_5 => ?_) (fun c_5 => absurd c_5 (by omega))
    refine lv_iload_n hx hb jd_d_numberOfTrailingZeros_62 rfl (lv_at hl 1 rfl) ?_
    refine lv_iconst (v := (nI 4)) hx hb jd_d_numberOfTrailingZeros_63 (by decide) ?_
    refine zc_le (tgt := 74) hx hb jd_d_numberOfTrailingZeros_64 (by decide) (by omega) (by omega) (fun c_6 => ?_) (fun c_6 => absurd c_6 (by omega))
    refine lv_iload_n hx hb jd_d_numberOfTrailingZeros_74 rfl (lv_at hl 0 rfl) ?_
    refine lv_iload_n hx hb jd_d_numberOfTrailingZeros_75 rfl (lv_at hl 1 rfl) ?_
    refine lv_iconst (v := (nI 1)) hx hb jd_d_numberOfTrailingZeros_76 (by decide) ?_
    refine lv_iushr (v := (nI 0)) hx hb jd_d_numberOfTrailingZeros_77 (by decide) ?_
    refine lv_iadd hx hb jd_d_numberOfTrailingZeros_78 ?_
    refine zt_i (nI_add 1 0) ?_
    exact W.iret (v := (nI (1 + 0))) hx hb hr (fun t ht hW => ⟨(nI (1 + 0)), rfl, (congrArg nI ct).symm, ht⟩) (fun q h => by cases h) jd_d_numberOfTrailingZeros_79
  · refine zt_i he ?_
    refine lv_istore_n (lv' := [(0, .int (nI 3))]) hx hb jd_d_numberOfTrailingZeros_7 rfl hl (by decide) rfl (fun ls hl => ?_)
    refine lv_iload_n hx hb jd_d_numberOfTrailingZeros_8 rfl (lv_at hl 0 rfl) ?_
    refine lv_if_gt (tgt := 17) hx hb jd_d_numberOfTrailingZeros_9 (by decide) (fun c_7 => ?_) (fun c_7 => absurd c_7 (by decide))
    refine lv_iconst (v := (nI 1)) hx hb jd_d_numberOfTrailingZeros_17 (by decide) ?_
    refine lv_istore_n (lv' := [(1, .int (nI 1)), (0, .int (nI 3))]) hx hb jd_d_numberOfTrailingZeros_18 rfl hl (by decide) rfl (fun ls hl => ?_)
    refine lv_iload_n hx hb jd_d_numberOfTrailingZeros_19 rfl (lv_at hl 1 rfl) ?_
    refine lv_ldcw (v := 65536) hx hb hown (hts _ zk_ji264) jd_d_numberOfTrailingZeros_20 ?_
    refine lv_icmp_le (tgt := 34) hx hb jd_d_numberOfTrailingZeros_23 (by decide) (fun c_8 => ?_) (fun c_8 => absurd c_8 (by decide))
    refine lv_iload_n hx hb jd_d_numberOfTrailingZeros_34 rfl (lv_at hl 1 rfl) ?_
    refine lv_sipush (v := (nI 256)) hx hb jd_d_numberOfTrailingZeros_35 (by decide) ?_
    refine zc_le (tgt := 49) hx hb jd_d_numberOfTrailingZeros_38 (by decide) (by omega) (by omega) (fun c_9 => ?_) (fun c_9 => absurd c_9 (by omega))
    refine lv_iload_n hx hb jd_d_numberOfTrailingZeros_49 rfl (lv_at hl 1 rfl) ?_
    refine lv_bipush (v := (nI 16)) hx hb jd_d_numberOfTrailingZeros_50 (by decide) ?_
    refine zc_le (tgt := 62) hx hb jd_d_numberOfTrailingZeros_52 (by decide) (by omega) (by omega) (fun c_10 => ?_) (fun c_10 => absurd c_10 (by omega))
    refine lv_iload_n hx hb jd_d_numberOfTrailingZeros_62 rfl (lv_at hl 1 rfl) ?_
    refine lv_iconst (v := (nI 4)) hx hb jd_d_numberOfTrailingZeros_63 (by decide) ?_
    refine zc_le (tgt := 74) hx hb jd_d_numberOfTrailingZeros_64 (by decide) (by omega) (by omega) (fun c_11 => ?_) (fun c_11 => absurd c_11 (by omega))
    refine lv_iload_n hx hb jd_d_numberOfTrailingZeros_74 rfl (lv_at hl 0 rfl) ?_
    refine lv_iload_n hx hb jd_d_numberOfTrailingZeros_75 rfl (lv_at hl 1 rfl) ?_
    refine lv_iconst (v := (nI 1)) hx hb jd_d_numberOfTrailingZeros_76 (by decide) ?_
    refine lv_iushr (v := (nI 1)) hx hb jd_d_numberOfTrailingZeros_77 (by decide) ?_
    refine lv_iadd hx hb jd_d_numberOfTrailingZeros_78 ?_
    refine zt_i (nI_add 1 1) ?_
    exact W.iret (v := (nI (1 + 1))) hx hb hr (fun t ht hW => ⟨(nI (1 + 1)), rfl, (congrArg nI ct).symm, ht⟩) (fun q h => by cases h) jd_d_numberOfTrailingZeros_79
  · refine zt_i he ?_
    refine lv_istore_n (lv' := [(0, .int (nI 7))]) hx hb jd_d_numberOfTrailingZeros_7 rfl hl (by decide) rfl (fun ls hl => ?_)
    refine lv_iload_n hx hb jd_d_numberOfTrailingZeros_8 rfl (lv_at hl 0 rfl) ?_
    refine lv_if_gt (tgt := 17) hx hb jd_d_numberOfTrailingZeros_9 (by decide) (fun c_12 => ?_) (fun c_12 => absurd c_12 (by decide))
    refine lv_iconst (v := (nI 1)) hx hb jd_d_numberOfTrailingZeros_17 (by decide) ?_
    refine lv_istore_n (lv' := [(1, .int (nI 1)), (0, .int (nI 7))]) hx hb jd_d_numberOfTrailingZeros_18 rfl hl (by decide) rfl (fun ls hl => ?_)
    refine lv_iload_n hx hb jd_d_numberOfTrailingZeros_19 rfl (lv_at hl 1 rfl) ?_
    refine lv_ldcw (v := 65536) hx hb hown (hts _ zk_ji264) jd_d_numberOfTrailingZeros_20 ?_
    refine lv_icmp_le (tgt := 34) hx hb jd_d_numberOfTrailingZeros_23 (by decide) (fun c_13 => ?_) (fun c_13 => absurd c_13 (by decide))
    refine lv_iload_n hx hb jd_d_numberOfTrailingZeros_34 rfl (lv_at hl 1 rfl) ?_
    refine lv_sipush (v := (nI 256)) hx hb jd_d_numberOfTrailingZeros_35 (by decide) ?_
    refine zc_le (tgt := 49) hx hb jd_d_numberOfTrailingZeros_38 (by decide) (by omega) (by omega) (fun c_14 => ?_) (fun c_14 => absurd c_14 (by omega))
    refine lv_iload_n hx hb jd_d_numberOfTrailingZeros_49 rfl (lv_at hl 1 rfl) ?_
    refine lv_bipush (v := (nI 16)) hx hb jd_d_numberOfTrailingZeros_50 (by decide) ?_
    refine zc_le (tgt := 62) hx hb jd_d_numberOfTrailingZeros_52 (by decide) (by omega) (by omega) (fun c_15 => ?_) (fun c_15 => absurd c_15 (by omega))
    refine lv_iload_n hx hb jd_d_numberOfTrailingZeros_62 rfl (lv_at hl 1 rfl) ?_
    refine lv_iconst (v := (nI 4)) hx hb jd_d_numberOfTrailingZeros_63 (by decide) ?_
    refine zc_le (tgt := 74) hx hb jd_d_numberOfTrailingZeros_64 (by decide) (by omega) (by omega) (fun c_16 => absurd c_16 (by omega)) (fun c_16 => ?_)
    refine lv_iinc (v := (nI 3)) (lv' := [(1, .int (nI 3)), (0, .int (nI 7))]) hx hb jd_d_numberOfTrailingZeros_67 hl (k := 0) rfl (by decide) (by decide) rfl (fun ls hl => ?_)
    refine lv_iload_n hx hb jd_d_numberOfTrailingZeros_70 rfl (lv_at hl 1 rfl) ?_
    refine lv_iconst (v := (nI 2)) hx hb jd_d_numberOfTrailingZeros_71 (by decide) ?_
    refine lv_iushr (v := (nI 1)) hx hb jd_d_numberOfTrailingZeros_72 (by decide) ?_
    refine lv_istore_n (lv' := [(0, .int (nI 1)), (1, .int (nI 3))]) hx hb jd_d_numberOfTrailingZeros_73 rfl hl (by decide) rfl (fun ls hl => ?_)
    refine lv_iload_n hx hb jd_d_numberOfTrailingZeros_74 rfl (lv_at hl 1 rfl) ?_
    refine lv_iload_n hx hb jd_d_numberOfTrailingZeros_75 rfl (lv_at hl 0 rfl) ?_
    refine lv_iconst (v := (nI 1)) hx hb jd_d_numberOfTrailingZeros_76 (by decide) ?_
    refine lv_iushr (v := (nI 0)) hx hb jd_d_numberOfTrailingZeros_77 (by decide) ?_
    refine lv_iadd hx hb jd_d_numberOfTrailingZeros_78 ?_
    refine zt_i (nI_add 3 0) ?_
    exact W.iret (v := (nI (3 + 0))) hx hb hr (fun t ht hW => ⟨(nI (3 + 0)), rfl, (congrArg nI ct).symm, ht⟩) (fun q h => by cases h) jd_d_numberOfTrailingZeros_79
  · refine zt_i he ?_
    refine lv_istore_n (lv' := [(0, .int (nI 15))]) hx hb jd_d_numberOfTrailingZeros_7 rfl hl (by decide) rfl (fun ls hl => ?_)
    refine lv_iload_n hx hb jd_d_numberOfTrailingZeros_8 rfl (lv_at hl 0 rfl) ?_
    refine lv_if_gt (tgt := 17) hx hb jd_d_numberOfTrailingZeros_9 (by decide) (fun c_17 => ?_) (fun c_17 => absurd c_17 (by decide))
    refine lv_iconst (v := (nI 1)) hx hb jd_d_numberOfTrailingZeros_17 (by decide) ?_
    refine lv_istore_n (lv' := [(1, .int (nI 1)), (0, .int (nI 15))]) hx hb jd_d_numberOfTrailingZeros_18 rfl hl (by decide) rfl (fun ls hl => ?_)
    refine lv_iload_n hx hb jd_d_numberOfTrailingZeros_19 rfl (lv_at hl 1 rfl) ?_
    refine lv_ldcw (v := 65536) hx hb hown (hts _ zk_ji264) jd_d_numberOfTrailingZeros_20 ?_
    refine lv_icmp_le (tgt := 34) hx hb jd_d_numberOfTrailingZeros_23 (by decide) (fun c_18 => ?_) (fun c_18 => absurd c_18 (by decide))
    refine lv_iload_n hx hb jd_d_numberOfTrailingZeros_34 rfl (lv_at hl 1 rfl) ?_
    refine lv_sipush (v := (nI 256)) hx hb jd_d_numberOfTrailingZeros_35 (by decide) ?_
    refine zc_le (tgt := 49) hx hb jd_d_numberOfTrailingZeros_38 (by decide) (by omega) (by omega) (fun c_19 => ?_) (fun c_19 => absurd c_19 (by omega))
    refine lv_iload_n hx hb jd_d_numberOfTrailingZeros_49 rfl (lv_at hl 1 rfl) ?_
    refine lv_bipush (v := (nI 16)) hx hb jd_d_numberOfTrailingZeros_50 (by decide) ?_
    refine zc_le (tgt := 62) hx hb jd_d_numberOfTrailingZeros_52 (by decide) (by omega) (by omega) (fun c_20 => ?_) (fun c_20 => absurd c_20 (by omega))
    refine lv_iload_n hx hb jd_d_numberOfTrailingZeros_62 rfl (lv_at hl 1 rfl) ?_
    refine lv_iconst (v := (nI 4)) hx hb jd_d_numberOfTrailingZeros_63 (by decide) ?_
    refine zc_le (tgt := 74) hx hb jd_d_numberOfTrailingZeros_64 (by decide) (by omega) (by omega) (fun c_21 => absurd c_21 (by omega)) (fun c_21 => ?_)
    refine lv_iinc (v := (nI 3)) (lv' := [(1, .int (nI 3)), (0, .int (nI 15))]) hx hb jd_d_numberOfTrailingZeros_67 hl (k := 0) rfl (by decide) (by decide) rfl (fun ls hl => ?_)
    refine lv_iload_n hx hb jd_d_numberOfTrailingZeros_70 rfl (lv_at hl 1 rfl) ?_
    refine lv_iconst (v := (nI 2)) hx hb jd_d_numberOfTrailingZeros_71 (by decide) ?_
    refine lv_iushr (v := (nI 3)) hx hb jd_d_numberOfTrailingZeros_72 (by decide) ?_
    refine lv_istore_n (lv' := [(0, .int (nI 3)), (1, .int (nI 3))]) hx hb jd_d_numberOfTrailingZeros_73 rfl hl (by decide) rfl (fun ls hl => ?_)
    refine lv_iload_n hx hb jd_d_numberOfTrailingZeros_74 rfl (lv_at hl 1 rfl) ?_
    refine lv_iload_n hx hb jd_d_numberOfTrailingZeros_75 rfl (lv_at hl 0 rfl) ?_
    refine lv_iconst (v := (nI 1)) hx hb jd_d_numberOfTrailingZeros_76 (by decide) ?_
    refine lv_iushr (v := (nI 1)) hx hb jd_d_numberOfTrailingZeros_77 (by decide) ?_
    refine lv_iadd hx hb jd_d_numberOfTrailingZeros_78 ?_
    refine zt_i (nI_add 3 1) ?_
    exact W.iret (v := (nI (3 + 1))) hx hb hr (fun t ht hW => ⟨(nI (3 + 1)), rfl, (congrArg nI ct).symm, ht⟩) (fun q h => by cases h) jd_d_numberOfTrailingZeros_79
  · refine zt_i he ?_
    refine lv_istore_n (lv' := [(0, .int (nI 31))]) hx hb jd_d_numberOfTrailingZeros_7 rfl hl (by decide) rfl (fun ls hl => ?_)
    refine lv_iload_n hx hb jd_d_numberOfTrailingZeros_8 rfl (lv_at hl 0 rfl) ?_
    refine lv_if_gt (tgt := 17) hx hb jd_d_numberOfTrailingZeros_9 (by decide) (fun c_22 => ?_) (fun c_22 => absurd c_22 (by decide))
    refine lv_iconst (v := (nI 1)) hx hb jd_d_numberOfTrailingZeros_17 (by decide) ?_
    refine lv_istore_n (lv' := [(1, .int (nI 1)), (0, .int (nI 31))]) hx hb jd_d_numberOfTrailingZeros_18 rfl hl (by decide) rfl (fun ls hl => ?_)
    refine lv_iload_n hx hb jd_d_numberOfTrailingZeros_19 rfl (lv_at hl 1 rfl) ?_
    refine lv_ldcw (v := 65536) hx hb hown (hts _ zk_ji264) jd_d_numberOfTrailingZeros_20 ?_
    refine lv_icmp_le (tgt := 34) hx hb jd_d_numberOfTrailingZeros_23 (by decide) (fun c_23 => ?_) (fun c_23 => absurd c_23 (by decide))
    refine lv_iload_n hx hb jd_d_numberOfTrailingZeros_34 rfl (lv_at hl 1 rfl) ?_
    refine lv_sipush (v := (nI 256)) hx hb jd_d_numberOfTrailingZeros_35 (by decide) ?_
    refine zc_le (tgt := 49) hx hb jd_d_numberOfTrailingZeros_38 (by decide) (by omega) (by omega) (fun c_24 => ?_) (fun c_24 => absurd c_24 (by omega))
    refine lv_iload_n hx hb jd_d_numberOfTrailingZeros_49 rfl (lv_at hl 1 rfl) ?_
    refine lv_bipush (v := (nI 16)) hx hb jd_d_numberOfTrailingZeros_50 (by decide) ?_
    refine zc_le (tgt := 62) hx hb jd_d_numberOfTrailingZeros_52 (by decide) (by omega) (by omega) (fun c_25 => absurd c_25 (by omega)) (fun c_25 => ?_)
    refine lv_iinc (v := (nI 5)) (lv' := [(1, .int (nI 5)), (0, .int (nI 31))]) hx hb jd_d_numberOfTrailingZeros_55 hl (k := 0) rfl (by decide) (by decide) rfl (fun ls hl => ?_)
    refine lv_iload_n hx hb jd_d_numberOfTrailingZeros_58 rfl (lv_at hl 1 rfl) ?_
    refine lv_iconst (v := (nI 4)) hx hb jd_d_numberOfTrailingZeros_59 (by decide) ?_
    refine lv_iushr (v := (nI 1)) hx hb jd_d_numberOfTrailingZeros_60 (by decide) ?_
    refine lv_istore_n (lv' := [(0, .int (nI 1)), (1, .int (nI 5))]) hx hb jd_d_numberOfTrailingZeros_61 rfl hl (by decide) rfl (fun ls hl => ?_)
    refine lv_iload_n hx hb jd_d_numberOfTrailingZeros_62 rfl (lv_at hl 0 rfl) ?_
    refine lv_iconst (v := (nI 4)) hx hb jd_d_numberOfTrailingZeros_63 (by decide) ?_
    refine zc_le (tgt := 74) hx hb jd_d_numberOfTrailingZeros_64 (by decide) (by omega) (by omega) (fun c_26 => ?_) (fun c_26 => absurd c_26 (by omega))
    refine lv_iload_n hx hb jd_d_numberOfTrailingZeros_74 rfl (lv_at hl 1 rfl) ?_
    refine lv_iload_n hx hb jd_d_numberOfTrailingZeros_75 rfl (lv_at hl 0 rfl) ?_
    refine lv_iconst (v := (nI 1)) hx hb jd_d_numberOfTrailingZeros_76 (by decide) ?_
    refine lv_iushr (v := (nI 0)) hx hb jd_d_numberOfTrailingZeros_77 (by decide) ?_
    refine lv_iadd hx hb jd_d_numberOfTrailingZeros_78 ?_
    refine zt_i (nI_add 5 0) ?_
    exact W.iret (v := (nI (5 + 0))) hx hb hr (fun t ht hW => ⟨(nI (5 + 0)), rfl, (congrArg nI ct).symm, ht⟩) (fun q h => by cases h) jd_d_numberOfTrailingZeros_79
