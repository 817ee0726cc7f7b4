theorem zs_st0 {b : Nat} {s : State} (hgv : (Jvm.Cond.and given_1 narrow_1).before #[Value.ref b] s = true) (hts : ∀ w ∈ lw_tbl, w.before #[Value.ref b] s = true) : zs_one "PhaseCounts$LeastPhases" "SHIFT_SET" 6 zs_set (fun q : Nat => s.heap.size ≤ q) s := by
  have hs := flat_of_before _ hgv
  have hA : ∀ a : Nat, a < s.heap.size → ¬ (fun q : Nat => s.heap.size ≤ q) a := fun a h => Nat.not_le.mpr h
  obtain ⟨t, ht, hT⟩ := va_Tof (tm := (.static "PhaseCounts$LeastPhases" "SHIFT_SET" "[I")) (N := 6) (f := fun j => .int (nI (zs_set j))) (A := fun q : Nat => s.heap.size ≤ q) (by decide) (hs (.arrayOf (.static "PhaseCounts$LeastPhases" "SHIFT_SET" "[I") .int) (by decide +kernel)) (va_eqt (z := Int32.ofNat 6) (hs (.eq (.length (.static "PhaseCounts$LeastPhases" "SHIFT_SET" "[I")) (.int 6)) (by decide +kernel))) (fun j hj => by
    rcases (show j = 0 ∨ j = 1 ∨ j = 2 ∨ j = 3 ∨ j = 4 ∨ j = 5 by omega) with rfl | rfl | rfl | rfl | rfl | rfl
    · exact va_eqt (z := 7) (hs (.eq (.elem (.static "PhaseCounts$LeastPhases" "SHIFT_SET" "[I") (.int 0)) (.int 7)) (by decide +kernel))
    · exact va_eqt (z := 11) (hs (.eq (.elem (.static "PhaseCounts$LeastPhases" "SHIFT_SET" "[I") (.int 1)) (.int 11)) (by decide +kernel))
    · exact va_eqt (z := 13) (hs (.eq (.elem (.static "PhaseCounts$LeastPhases" "SHIFT_SET" "[I") (.int 2)) (.int 13)) (by decide +kernel))
    · exact va_eqt (z := 14) (hs (.eq (.elem (.static "PhaseCounts$LeastPhases" "SHIFT_SET" "[I") (.int 3)) (.int 14)) (by decide +kernel))
    · exact va_eqt (z := 15) (hs (.eq (.elem (.static "PhaseCounts$LeastPhases" "SHIFT_SET" "[I") (.int 4)) (.int 15)) (by decide +kernel))
    · exact va_eqt (z := 15) (hs (.eq (.elem (.static "PhaseCounts$LeastPhases" "SHIFT_SET" "[I") (.int 5)) (.int 15)) (by decide +kernel))
    ) hA
  exact ⟨t, va_Zof (hts (.laysStatic "PhaseCounts$LeastPhases" "SHIFT_SET" "[I") (List.mem_append_right _ (List.mem_of_getElem? (l := tables_1) (i := 194) (by decide +kernel)))) (hts _ (zz_of zk_in_lp)) ht hA, hT⟩
theorem zs_st1 {b : Nat} {s : State} (hgv : (Jvm.Cond.and given_1 narrow_1).before #[Value.ref b] s = true) (hts : ∀ w ∈ lw_tbl, w.before #[Value.ref b] s = true) : zs_one "PhaseCounts$LeastPhases" "SHIFT_SIZE" 6 zs_size (fun q : Nat => s.heap.size ≤ q) s := by
  have hs := flat_of_before _ hgv
  have hA : ∀ a : Nat, a < s.heap.size → ¬ (fun q : Nat => s.heap.size ≤ q) a := fun a h => Nat.not_le.mpr h
  obtain ⟨t, ht, hT⟩ := va_Tof (tm := (.static "PhaseCounts$LeastPhases" "SHIFT_SIZE" "[I")) (N := 6) (f := fun j => .int (nI (zs_size j))) (A := fun q : Nat => s.heap.size ≤ q) (by decide) (hs (.arrayOf (.static "PhaseCounts$LeastPhases" "SHIFT_SIZE" "[I") .int) (by decide +kernel)) (va_eqt (z := Int32.ofNat 6) (hs (.eq (.length (.static "PhaseCounts$LeastPhases" "SHIFT_SIZE" "[I")) (.int 6)) (by decide +kernel))) (fun j hj => by
    rcases (show j = 0 ∨ j = 1 ∨ j = 2 ∨ j = 3 ∨ j = 4 ∨ j = 5 by omega) with rfl | rfl | rfl | rfl | rfl | rfl
    · exact va_eqt (z := 2) (hs (.eq (.elem (.static "PhaseCounts$LeastPhases" "SHIFT_SIZE" "[I") (.int 0)) (.int 2)) (by decide +kernel))
    · exact va_eqt (z := 2) (hs (.eq (.elem (.static "PhaseCounts$LeastPhases" "SHIFT_SIZE" "[I") (.int 1)) (.int 2)) (by decide +kernel))
    · exact va_eqt (z := 2) (hs (.eq (.elem (.static "PhaseCounts$LeastPhases" "SHIFT_SIZE" "[I") (.int 2)) (.int 2)) (by decide +kernel))
    · exact va_eqt (z := 2) (hs (.eq (.elem (.static "PhaseCounts$LeastPhases" "SHIFT_SIZE" "[I") (.int 3)) (.int 2)) (by decide +kernel))
    · exact va_eqt (z := 2) (hs (.eq (.elem (.static "PhaseCounts$LeastPhases" "SHIFT_SIZE" "[I") (.int 4)) (.int 2)) (by decide +kernel))
    · exact va_eqt (z := 1) (hs (.eq (.elem (.static "PhaseCounts$LeastPhases" "SHIFT_SIZE" "[I") (.int 5)) (.int 1)) (by decide +kernel))
    ) hA
  exact ⟨t, va_Zof (hts (.laysStatic "PhaseCounts$LeastPhases" "SHIFT_SIZE" "[I") (List.mem_append_right _ (List.mem_of_getElem? (l := tables_1) (i := 196) (by decide +kernel)))) (hts _ (zz_of zk_in_lp)) ht hA, hT⟩
theorem zs_st2 {b : Nat} {s : State} (hgv : (Jvm.Cond.and given_1 narrow_1).before #[Value.ref b] s = true) (hts : ∀ w ∈ lw_tbl, w.before #[Value.ref b] s = true) : zs_one "PhaseCounts$LeastPhases" "SHIFTS_OF_WIRES" 5 zs_shifts (fun q : Nat => s.heap.size ≤ q) s := by
  have hs := flat_of_before _ hgv
  have hA : ∀ a : Nat, a < s.heap.size → ¬ (fun q : Nat => s.heap.size ≤ q) a := fun a h => Nat.not_le.mpr h
  obtain ⟨t, ht, hT⟩ := va_Tof (tm := (.static "PhaseCounts$LeastPhases" "SHIFTS_OF_WIRES" "[I")) (N := 5) (f := fun j => .int (nI (zs_shifts j))) (A := fun q : Nat => s.heap.size ≤ q) (by decide) (hs (.arrayOf (.static "PhaseCounts$LeastPhases" "SHIFTS_OF_WIRES" "[I") .int) (by decide +kernel)) (va_eqt (z := Int32.ofNat 5) (hs (.eq (.length (.static "PhaseCounts$LeastPhases" "SHIFTS_OF_WIRES" "[I")) (.int 5)) (by decide +kernel))) (fun j hj => by
    rcases (show j = 0 ∨ j = 1 ∨ j = 2 ∨ j = 3 ∨ j = 4 by omega) with rfl | rfl | rfl | rfl | rfl
    · exact va_eqt (z := 0) (hs (.eq (.elem (.static "PhaseCounts$LeastPhases" "SHIFTS_OF_WIRES" "[I") (.int 0)) (.int 0)) (by decide +kernel))
    · exact va_eqt (z := 0) (hs (.eq (.elem (.static "PhaseCounts$LeastPhases" "SHIFTS_OF_WIRES" "[I") (.int 1)) (.int 0)) (by decide +kernel))
    · exact va_eqt (z := 0) (hs (.eq (.elem (.static "PhaseCounts$LeastPhases" "SHIFTS_OF_WIRES" "[I") (.int 2)) (.int 0)) (by decide +kernel))
    · exact va_eqt (z := 1) (hs (.eq (.elem (.static "PhaseCounts$LeastPhases" "SHIFTS_OF_WIRES" "[I") (.int 3)) (.int 1)) (by decide +kernel))
    · exact va_eqt (z := 6) (hs (.eq (.elem (.static "PhaseCounts$LeastPhases" "SHIFTS_OF_WIRES" "[I") (.int 4)) (.int 6)) (by decide +kernel))
    ) hA
  exact ⟨t, va_Zof (hts (.laysStatic "PhaseCounts$LeastPhases" "SHIFTS_OF_WIRES" "[I") (List.mem_append_right _ (List.mem_of_getElem? (l := tables_1) (i := 184) (by decide +kernel)))) (hts _ (zz_of zk_in_lp)) ht hA, hT⟩
theorem zs_st3 {b : Nat} {s : State} (hgv : (Jvm.Cond.and given_1 narrow_1).before #[Value.ref b] s = true) (hts : ∀ w ∈ lw_tbl, w.before #[Value.ref b] s = true) : zs_one "PhaseCounts$PlanSearch" "STATES_OF_WIRES" 5 zs_states (fun q : Nat => s.heap.size ≤ q) s := by
  have hs := flat_of_before _ hgv
  have hA : ∀ a : Nat, a < s.heap.size → ¬ (fun q : Nat => s.heap.size ≤ q) a := fun a h => Nat.not_le.mpr h
  obtain ⟨t, ht, hT⟩ := va_Tof (tm := (.static "PhaseCounts$PlanSearch" "STATES_OF_WIRES" "[I")) (N := 5) (f := fun j => .int (nI (zs_states j))) (A := fun q : Nat => s.heap.size ≤ q) (by decide) (hs (.arrayOf (.static "PhaseCounts$PlanSearch" "STATES_OF_WIRES" "[I") .int) (by decide +kernel)) (va_eqt (z := Int32.ofNat 5) (hs (.eq (.length (.static "PhaseCounts$PlanSearch" "STATES_OF_WIRES" "[I")) (.int 5)) (by decide +kernel))) (fun j hj => by
    rcases (show j = 0 ∨ j = 1 ∨ j = 2 ∨ j = 3 ∨ j = 4 by omega) with rfl | rfl | rfl | rfl | rfl
    · exact va_eqt (z := 0) (hs (.eq (.elem (.static "PhaseCounts$PlanSearch" "STATES_OF_WIRES" "[I") (.int 0)) (.int 0)) (by decide +kernel))
    · exact va_eqt (z := 1) (hs (.eq (.elem (.static "PhaseCounts$PlanSearch" "STATES_OF_WIRES" "[I") (.int 1)) (.int 1)) (by decide +kernel))
    · exact va_eqt (z := 7) (hs (.eq (.elem (.static "PhaseCounts$PlanSearch" "STATES_OF_WIRES" "[I") (.int 2)) (.int 7)) (by decide +kernel))
    · exact va_eqt (z := 859) (hs (.eq (.elem (.static "PhaseCounts$PlanSearch" "STATES_OF_WIRES" "[I") (.int 3)) (.int 859)) (by decide +kernel))
    · exact va_eqt (z := 20160) (hs (.eq (.elem (.static "PhaseCounts$PlanSearch" "STATES_OF_WIRES" "[I") (.int 4)) (.int 20160)) (by decide +kernel))
    ) hA
  exact ⟨t, va_Zof (hts (.laysStatic "PhaseCounts$PlanSearch" "STATES_OF_WIRES" "[I") (List.mem_append_right _ (List.mem_of_getElem? (l := tables_1) (i := 215) (by decide +kernel)))) (hts _ (zz_of zk_in_ps)) ht hA, hT⟩
theorem zs_start {b : Nat} {s : State} (hgv : (Jvm.Cond.and given_1 narrow_1).before #[Value.ref b] s = true) (hts : ∀ w ∈ lw_tbl, w.before #[Value.ref b] s = true) : zs_all (fun q : Nat => s.heap.size ≤ q) s := ⟨zs_st0 hgv hts, zs_st1 hgv hts, zs_st2 hgv hts, zs_st3 hgv hts⟩
theorem zk_ac {args : Array Value} {s : State} {ty : FieldType} (h : (Cond.arrayClass ty).before args s = true) : ∃ cA : ClassId, ArrOfT s cA ty ∧ s.vm.findClass ("[" ++ ty.toString) = some cA := by
  obtain ⟨cB, kB, comp, h1, h2, h3⟩ := Cond.arrayClass_spec h
  exact ⟨cB, fun n z => ⟨fun k h => (by cases h), kB, h2, comp, h3⟩, h1⟩
theorem zk_ao {args : Array Value} {s : State} {C : String} (h : (Cond.arrayOver (.object C)).before args s = true) : ∃ cA : ClassId, ArrOfT s cA (.object C) ∧ va_RA s cA (.object C) := by
  obtain ⟨comp, cB, kB, h1, -, h2, h3, h4⟩ := Cond.arrayOver_spec h
  exact ⟨cB, fun n z => ⟨fun k h => (by cases h), kB, h2, comp, h3⟩, kB, comp, h2, h3, h1, h4⟩
theorem zk_aa {args : Array Value} {s : State} {ty : FieldType} (h : (Cond.arrayOver (.array ty)).before args s = true) : ∃ cA : ClassId, ArrOfT s cA (.array ty) ∧ s.vm.findClass ("[" ++ (FieldType.array ty).toString) = some cA := by
  obtain ⟨comp, cB, kB, h1, -, h2, h3, h4⟩ := arrayOverA_spec h
  exact ⟨cB, fun n z => ⟨fun k h => (by cases h), kB, h2, comp, h3⟩, h4⟩
theorem zk_start {b : Nat} {s : State} (hts0 : ∀ w ∈ lw_tbl, w.before #[Value.ref b] s = true) : ∃ (dC : Nat → ClassId) (dI : Nat → Nat → Nat) (cA : Nat → ClassId), va_K (dC, dI) zz_cl (zT cA) s := by
  have hts : ∀ w ∈ zz_tbl, w.before #[Value.ref b] s = true := fun w h => hts0 w (zz_of h)
  obtain ⟨d0, i0, h0⟩ := u_known (C := lp_R) (T := lp_T) (N := 6) (n := 6) hts lp_in (hts _ zk_ma_lp)
  obtain ⟨d1, i1, h1⟩ := u_known (C := ps_R) (T := ps_T) (N := 7) (n := 7) hts ps_in (hts _ zk_ma_ps)
  obtain ⟨d2, i2, h2⟩ := u_known (C := pc_R) (T := pc_T) (N := 8) (n := 8) hts pc_in (hts _ zk_ma_pc)
  obtain ⟨d3, i3, h3⟩ := u_known (C := pm_R) (T := pm_T) (N := 23) (n := 23) hts pm_in (hts _ zk_ma_pm)
  obtain ⟨c0, a0, r0⟩ := zk_ac (hts _ zk_ac_int)
  obtain ⟨c1, a1, r1⟩ := zk_ac (hts _ zk_ac_long)
  obtain ⟨c2, a2, r2⟩ := zk_ac (hts _ zk_ac_boolean)
  obtain ⟨c3, a3, r3⟩ := zk_ao (C := "PhaseCounts$PlanSearch") (hts0 _ (List.mem_append_right _ (List.mem_of_getElem? (l := tables_1) (i := 49) (by decide +kernel))))
  obtain ⟨c4, a4, r4⟩ := zk_aa (ty := .int) (hts0 _ (List.mem_append_right _ (List.mem_of_getElem? (l := tables_1) (i := 24) (by decide +kernel))))
  refine ⟨fun k => if k = 0 then d0 else if k = 1 then d1 else if k = 2 then d2 else d3, fun k => if k = 0 then i0 else if k = 1 then i1 else if k = 2 then i2 else i3, fun k => if k = 0 then c0 else if k = 1 then c1 else if k = 2 then c2 else if k = 3 then c3 else c4, fun k q hq => ?_, fun k q hq => ?_⟩
  · match k, hq with
    | 0, hq => cases hq; exact h0
    | 1, hq => cases hq; exact h1
    | 2, hq => cases hq; exact h2
    | 3, hq => cases hq; exact h3
    | k + 4, hq => simp [zz_cl] at hq
  · match k, hq with
    | 0, hq => cases hq; exact ⟨a0, r0⟩
    | 1, hq => cases hq; exact ⟨a1, r1⟩
    | 2, hq => cases hq; exact ⟨a2, r2⟩
    | 3, hq => cases hq; exact ⟨a3, r3⟩
    | 4, hq => cases hq; exact ⟨a4, r4⟩
    | k + 5, hq => simp [zT] at hq
section ZINI
variable {p : Program} {l : Launch} {e : Env} {R : Room} {s : State} {m : MethodId} {args : Array Value} {below : List Frame} {meth : Method} {c : Code} {H : Heap} {locs : List Loc} {cells slots : Nat} {Q : State → Prop}
variable {cc : ByteArray} {nL index : Nat} {own : String} {b : Nat} {rest : List Value} {pc : Nat} {ls : Array Slot} {dC : Nat → ClassId} {dI : Nat → Nat → Nat} {cA : Nat → ClassId} {A0 : Nat → Prop}
/-- new PhaseCounts() -/
theorem zq_pcinit (S : CallFix p m c cc nL s args zz_tbl own) (hln : Cond.methodLink own index pc_y_init ∈ zz_tbl) (hN : va_Nw (.methodLinkNest pc_R 18 lp_y_init "PhaseCounts") s) (hAOA : va_AOA .int s) (hAO : va_AO "PhaseCounts$PlanSearch" s) (hR : 2 + 1 ≤ R.frames ∧ 8 + (1 + 11) + 45 ≤ R.locals)
    (hK : va_K (dC, dI) zz_cl (zT cA) s) (hP : va_P (dC, dI) zz_cl [(b, .inr (2, [.null, .null, .null, .null, .int (nI 0), .int (nI 0), .int (nI 0), .int (nI 0)]))] H) (hD : va_D A0 [(b, .inr (2, [.null, .null, .null, .null, .int (nI 0), .int (nI 0), .int (nI 0), .int (nI 0)]))]) (hS : va_S A0 s.heap H locs) (hA : ∀ q, s.heap.size ≤ q → A0 q) (hZ : zs_all A0 s) (hl : ls.size = nL) (hW : (rest.map fun v => v.category).sum ≤ 8) (hdg : decode cc pc = .ok (.invokespecial index, 3))
    (kk : ∀ (u : Nat × Nat × Nat × Nat × Nat × Nat × Nat × (Nat → Nat) × (Nat → Nat) × (Nat → Nat)) (H1 : Heap) (locs1 : List Loc), (∀ j, j < 4 → u.2.2.2.2.2.2.2.2.1 j = 2 ^ j) → (∀ j, j < 16 → u.2.2.2.2.2.2.2.2.2 j = 0) → va_P (dC, dI) zz_cl ([(b, .inr (2, [.ref u.1, .ref u.2.1, .ref u.2.2.1, .ref u.2.2.2.1, .int (nI 1), .int (nI 0), .int (-1), .int (-1)])), (u.1, .inl (cA 0, 4, .inl (nA u.2.2.2.2.2.2.2.2.1))), (u.2.1, .inl (cA 0, 16, .inl (nA u.2.2.2.2.2.2.2.2.2))), (u.2.2.1, .inr (0, [.ref u.2.2.2.2.1, .int (nI 0), .int (nI 0), .ref u.2.2.2.2.2.1, .ref u.2.2.2.2.2.2.1, .int (nI 0)])), (u.2.2.2.2.1, .inl (cA 0, 16, .inl (nA (fun _ => 0)))), (u.2.2.2.2.2.1, .inl (cA 0, 16, .inl (nA (fun _ => 0)))), (u.2.2.2.2.2.2.1, .inl (cA 4, 17, .inr (.inr (.inr (.inr (zg_o (u.2.2.2.2.2.2.2.1))))))), (u.2.2.2.1, .inl (cA 3, 5, .inr (.inr (.inr (.inr (fun _ => none))))))] ++ zg_w cA (u.2.2.2.2.2.2.2.1) (fun _ _ => 0)) H1 → va_D A0 ([(b, .inr (2, [.ref u.1, .ref u.2.1, .ref u.2.2.1, .ref u.2.2.2.1, .int (nI 1), .int (nI 0), .int (-1), .int (-1)])), (u.1, .inl (cA 0, 4, .inl (nA u.2.2.2.2.2.2.2.2.1))), (u.2.1, .inl (cA 0, 16, .inl (nA u.2.2.2.2.2.2.2.2.2))), (u.2.2.1, .inr (0, [.ref u.2.2.2.2.1, .int (nI 0), .int (nI 0), .ref u.2.2.2.2.2.1, .ref u.2.2.2.2.2.2.1, .int (nI 0)])), (u.2.2.2.2.1, .inl (cA 0, 16, .inl (nA (fun _ => 0)))), (u.2.2.2.2.2.1, .inl (cA 0, 16, .inl (nA (fun _ => 0)))), (u.2.2.2.2.2.2.1, .inl (cA 4, 17, .inr (.inr (.inr (.inr (zg_o (u.2.2.2.2.2.2.2.1))))))), (u.2.2.2.1, .inl (cA 3, 5, .inr (.inr (.inr (.inr (fun _ => none))))))] ++ zg_w cA (u.2.2.2.2.2.2.2.1) (fun _ _ => 0)) → va_S A0 s.heap H1 locs1 → W p l e R s m args below meth c H1 locs1 (cells + 24) (slots + 352) Q (F0 m (pc + 3) ls rest)) (h0 : cells + 24 ≤ R.cells ∧ slots + 352 ≤ R.slots) : W p l e R s m args below meth c H locs cells slots Q (F0 m pc ls (.ref b :: rest)) := by
  have hF := va_free (wc := [(b, .inr (2, [.null, .null, .null, .null, .int (nI 0), .int (nI 0), .int (nI 0), .int (nI 0)]))]) hD hS hA [0] rfl
  have ht := S.2.2.2.2
  refine va_callv (va_runI (As := []) (rest := rest) (b := b) S (pc_init l dC dI cA H.size b) (cwI 0 ht (zz_I zk_cd_pc_init) rfl rfl rfl (ht _ zk_in_pc) (ht _ hln) (ht _ zk_im_pc_init) rfl (by decide +kernel) hR) ⟨fun a U g mk q => ⟨(zB_bl (av := [.ref b]) a U g mk ⟨q.1, q.2.1⟩).1, (zB_bl (av := [.ref b]) a U g mk ⟨q.1, q.2.1⟩).2, va_AOA.moved (u := U) (U := U.calling g mk a) (Vm.Alike.refl U.vm) q.2.2.1, va_AO.moved (u := U) (U := U.calling g mk a) (Vm.Alike.refl U.vm) q.2.2.2.1, va_Nw.same (u := U) (U := U.calling g mk a) rfl rfl q.2.2.2.2⟩, fun U hU hW => ⟨rfl, ⟨by rw [hU], by rw [hU]; exact hP, va_K.moved hW.alike hK, hD.weaken (fun _ _ _ _ => trivial), zs_move hZ (by rw [hU]; exact hS) hF hW.alike⟩, va_AOA.moved hW.alike hAOA, va_AO.moved hW.alike hAO, va_Nw.warmM hW hN⟩⟩ rfl rfl hl rfl (by show 2 * 0 + _ ≤ 8; omega) hdg h0) hS (fun q _ h => hF q h) hF (fun u t H1 locs ht hvm hw hB hz1 hk1 hS => ?_)
  obtain ⟨hP1, hD1⟩ := hB
  rw [ht] at hP1
  obtain ⟨hP2, hD2⟩ := va_join (wr := []) hP hD [0] [] rfl rfl (by decide) (by decide) hk1 hF hP1 hD1
  exact kk u H1 locs hw.1 hw.2 hP2 hD2 hS
end ZINI

