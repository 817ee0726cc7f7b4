/-! THE CLAIM OUT OF ONE WALK OF THE LAW'S BODY. Your part is whole_start (and what it stands on); all else here is the same for every law, but numbers. -/
def R_law : String := "PhaseCountsLaw"
def lw_P (b : Addr) (xs : List Int32) (args : Array Value) (s : State) : Prop := args = #[.ref b] ∧ s.IntsAt b xs ∧ xs.length ≤ 1536 ∧ (Jvm.Cond.and given_1 narrow_1).before args s = true
def lw_Q (_ : Array Value) (s : State) (o : Outcome) (t : State) : Prop := o = .returned (some (.int 1)) ∧ Framed s o t [] 600000 7302250
def lw_Z (below : List Frame) (a : Array Value) (s : State) : State → Prop := fun t => ∃ o, t.status = .running ∧ Ended t below o ∧ lw_Q a s o t
/-- the law's own end, with 1 on the stack, nothing written that was there before, its room as the claim has it -/
theorem lw_ret {p : Program} {l : Launch} {e : Env} {s : State} {m : MethodId} {below : List Frame} {meth : Method} {c : Code} {b : Nat} (hx : p.tables.exec = Jvm.exec) (hb : c.code = code) (hr : meth.sig.returnType = ret) (hlocks : meth.locks = false) {pc : Nat} {H : Heap} {ls : Array Slot} (hdg : decode code pc = .ok (.ireturn, 1)) : W p l e room_1 s m #[Value.ref b] below meth c H [] 600000 7302250 (lw_Z below #[Value.ref b] s) (F0 m pc ls [.int 1]) := by
  intro T hT X
  obtain ⟨fs, hret, hrun, hended, hW, hframe⟩ := X.leave (v := some (.int 1)) (hlocks := hlocks) (fun h => by rw [hr] at h; cases h)
  have hmeth' : T.vm.method? m = some meth := X.method'
  refine ⟨T.setFrames fs, ?_, .returned (some (.int 1)), hrun, hended, rfl, ⟨_, rfl⟩, hW, hframe⟩
  jvm_step X.here [X.here.top, hx, hb, hdg, hmeth', hr, ret, narrow_b1]
  (try refine ⟨rfl, ?_⟩); (try refine ⟨rfl, ?_⟩)
  first | (intro acts; rw [hret _ acts rfl rfl rfl]) | rw [hret _ _ rfl rfl rfl]
  exact Steps.refl _
/-- what holds at the law's entry: the machine, the code, the tables' words (any of lw_tbl by 'hts w (by decide +kernel)'), the script of L ints xs at the cell b, what the Statement gives of the start (any of its parts by flat_of_before) -/
def lw_At (p : Program) (s : State) (m : MethodId) (meth : Method) (c : Code) (b L : Nat) (xs : Nat → Int32) : Prop :=
  p.tables.exec = Jvm.exec ∧ c.code = code ∧ meth.sig.returnType = ret ∧ c.maxLocals = 4 ∧ s.vm.findClass R_law = some m.cls ∧ (∀ w ∈ lw_tbl, w.before #[Value.ref b] s = true) ∧ va_X b L xs s s.heap ∧ b < s.heap.size ∧ meth.locks = false ∧ (Jvm.Cond.and given_1 narrow_1).before #[Value.ref b] s = true
theorem zi_in {i L : Nat} (hL : L ≤ 1536) (hi : i ≤ 1539) (h : ¬ nI L - nI 3 < nI i) : i + 3 ≤ L := by
  rcases Nat.lt_or_ge L 3 with q | q
  · exfalso
    apply h
    have h1 : nI L - nI 3 < 0 := by
      rcases (show L = 0 ∨ L = 1 ∨ L = 2 by omega) with rfl | rfl | rfl <;> decide
    have h2 := nI_pos (n := i) (by omega)
    rw [Int32.lt_iff_toInt_lt] at h1 h2 ⊢
    omega
  · rw [pk_sub q] at h
    have := mt (nI_ltI (a := L - 3) (b := i) (by omega) (by omega)).mpr h
    omega
set_option maxHeartbeats 4000000 in
set_option maxRecDepth 100000 in
/-- THE LAW'S LOOP -/
theorem law_loop {p : Program} {l : Launch} {e : Env} {s : State} {m : MethodId} {below : List Frame} {meth : Method} {c : Code} {dC : Nat → ClassId} {dI : Nat → Nat → Nat} {cA : Nat → ClassId} {b L o om : Nat} {xs : Nat → Int32} (hL : L ≤ 1536) (C0 : lw_At p s m meth c b L xs) (hK : va_K (dC, dI) zz_cl (zT cA) s) (hZ : zs_all (fun q : Nat => s.heap.size ≤ q) s) :
    ∀ (f i : Nat), i ≤ L + 3 → L + 4 ≤ i + f → ∀ (kc ks : Nat) (w : va_W) (H : Heap) (locs : List Loc), zInv cA o om kc ks w → va_P (dC, dI) zz_cl w H → va_D (fun q : Nat => s.heap.size ≤ q) w → va_S (fun q : Nat => s.heap.size ≤ q) s.heap H locs → ∀ (ls : Array Slot), lv_has ls 4 [(0, .ref b), (1, .ref o), (2, .ref om), (3, .int (nI i))] → W p l e room_1 s m #[Value.ref b] below meth c H locs (38 + kc) (262777 + ks) (lw_Z below #[Value.ref b] s) (F0 m 18 ls []) := by
  obtain ⟨hx, hb, hr, hml, hown, hts0, hX, hbl, hlocks, hgv⟩ := C0
  have hts : ∀ w ∈ zz_tbl, w.before #[Value.ref b] s = true := fun w h => hts0 w (zz_of h)
  have hown : s.vm.findClass lw_R = some m.cls := hown
  have hA : ∀ q : Nat, s.heap.size ≤ q → (fun q : Nat => s.heap.size ≤ q) q := fun _ h => h
  have hbA : ¬ (fun q : Nat => s.heap.size ≤ q) b := Nat.not_le.mpr hbl
  have S : CallFix p m c code 4 s #[Value.ref b] zz_tbl lw_R := ⟨hx, hb, hml, hown, hts⟩
  intro f
  induction f with
  | zero =>
    intro i h1 h2
    exact absurd h2 (by omega)
  | succ f ih =>
    intro i hi0 hif kc ks w H locs hV hP hD hS ls hl
    have hbd : kc ≤ 12 ∧ ks ≤ 25159 := by
      obtain ⟨n, pa, ph, w1, w2, hC, -, -⟩ := hV
      exact (zCR_k hC).2.2
    refine lv_iload_n hx hb lw_d_18 rfl (lv_at hl 3 rfl) ?_
    refine lv_aload_n hx hb lw_d_19 rfl (lv_at hl 0 rfl) ?_
    refine va_slen hx hb hX hbl hbA hS lw_d_20 ?_
    refine lv_iconst (v := nI 3) hx hb lw_d_21 (by decide) ?_
    refine lv_isub hx hb lw_d_22 ?_
    refine lv_icmp_gt (tgt := 398) hx hb lw_d_23 (by decide) (fun _ => ?_) (fun hc => ?_)
    · refine lv_iconst (v := 1) hx hb lw_d_398 (by decide) ?_
      refine va_forget (fun q hq => hS.2.2 q hq) ?_
      refine W.widen (k := 600000) (n := 7302250) (by omega) (by omega) ?_
      exact lw_ret hx hb hr hlocks lw_d_399
    · have hi : i + 3 ≤ L := zi_in hL (by omega) hc
      refine lv_aload_n hx hb lw_d_26 rfl (lv_at hl 0 rfl) ?_
      refine lv_iload_n hx hb lw_d_27 rfl (lv_at hl 3 rfl) ?_
      refine va_sld hx hb hX hbl hbA hS (vp_in_nI (by omega) (by omega)) lw_d_28 ?_
      refine lv_bipush (v := nI 15) hx hb lw_d_29 (by decide) ?_
      refine lv_iand hx hb lw_d_31 ?_
      refine zt_i (pk_and _ 4 rfl) ?_
      have hk16 : (xs (nI i).toNatClampNeg).toBitVec.toNat % 2 ^ 4 < 16 := Nat.mod_lt _ (by decide)
      generalize (xs (nI i).toNatClampNeg).toBitVec.toNat % 2 ^ 4 = k at hk16 ⊢
      have kk : ∀ (kc ks : Nat) (w : va_W) (H : Heap) (locs : List Loc), zInv cA o om kc ks w → va_P (dC, dI) zz_cl w H → va_D (fun q : Nat => s.heap.size ≤ q) w → va_S (fun q : Nat => s.heap.size ≤ q) s.heap H locs → W p l e room_1 s m #[Value.ref b] below meth c H locs (38 + kc) (262777 + ks) (lw_Z below #[Value.ref b] s) (F0 m 392 ls []) := by
        intro kc ks w H locs hV hP hD hS
        refine lv_iinc (v := nI (i + 3)) (lv' := [(3, .int (nI (i + 3))), (0, .ref b), (1, .ref o), (2, .ref om)]) hx hb lw_d_392 hl (k := 3) rfl (nI_add i 3) (by decide) rfl (fun ls hl => ?_)
        refine lv_goto (tgt := 18) hx hb lw_d_395 (by decide) ?_
        exact ih (i + 3) (by omega) (by omega) kc ks w H locs hV hP hD hS ls (lv_sub hl [1, 2, 3, 0] rfl)
      rcases (show k = 0 ∨ k = 1 ∨ k = 2 ∨ k = 3 ∨ k = 4 ∨ k = 5 ∨ k = 6 ∨ k = 7 ∨ k = 8 ∨ k = 9 ∨ k = 10 ∨ k = 11 ∨ k = 12 ∨ k = 13 ∨ k = 14 ∨ k = 15 by omega) with rfl | rfl | rfl | rfl | rfl | rfl | rfl | rfl | rfl | rfl | rfl | rfl | rfl | rfl | rfl | rfl
      · refine lv_tableIn (off := 64) (tgt := 96) hx hb lw_d_32 (by decide) (by decide) (by decide) (by decide) ?_
        exact zL_begin S hx hb hK hA hZ hX hbl hbA hL hi hV hP hD hS hl kk
      · refine lv_tableIn (off := 87) (tgt := 119) hx hb lw_d_32 (by decide) (by decide) (by decide) (by decide) ?_
        exact zL_join S hx hb hK hA hZ hX hbl hbA hL hi hV hP hD hS hl kk
      · refine lv_tableIn (off := 120) (tgt := 152) hx hb lw_d_32 (by decide) (by decide) (by decide) (by decide) ?_
        exact zL_change S hx hb hK hA hZ hX hbl hbA hL hi hV hP hD hS hl kk
      · refine lv_tableIn (off := 153) (tgt := 185) hx hb lw_d_32 (by decide) (by decide) (by decide) (by decide) ?_
        exact zL_turn S hx hb hK hA hZ hX hbl hbA hL hi hV hP hD hS hl kk
      · refine lv_tableIn (off := 186) (tgt := 218) hx hb lw_d_32 (by decide) (by decide) (by decide) (by decide) ?_
        exact zL_parity S hx hb hK hA hZ hX hbl hbA hL hi hV hP hD hS hl kk
      · refine lv_tableIn (off := 209) (tgt := 241) hx hb lw_d_32 (by decide) (by decide) (by decide) (by decide) ?_
        exact zL_phase S hx hb hK hA hZ hX hbl hbA hL hi hV hP hD hS hl kk
      · refine lv_tableIn (off := 232) (tgt := 264) hx hb lw_d_32 (by decide) (by decide) (by decide) (by decide) ?_
        exact zL_function S hx hb hK hA hZ hX hbl hbA hL hi hV hP hD hS hl kk
      · refine lv_tableIn (off := 255) (tgt := 287) hx hb lw_d_32 (by decide) (by decide) (by decide) (by decide) ?_
        exact zL_least S hx hb hK hA hZ hX hbl hbA hL hi hV hP hD hS hl kk
      · refine lv_tableIn (off := 278) (tgt := 310) hx hb lw_d_32 (by decide) (by decide) (by decide) (by decide) ?_
        exact zL_settle S hx hb hK hA hZ hX hbl hbA hL hi hV hP hD hS hl kk
      · refine lv_tableIn (off := 291) (tgt := 323) hx hb lw_d_32 (by decide) (by decide) (by decide) (by decide) ?_
        exact zL_linear S hx hb hK hA hZ hX hbl hbA hL hi hV hP hD hS hl kk
      · refine lv_tableIn (off := 314) (tgt := 346) hx hb lw_d_32 (by decide) (by decide) (by decide) (by decide) ?_
        exact zL_network S hx hb hK hA hZ hX hbl hbA hL hi hV hP hD hS hl kk
      · refine lv_tableIn (off := 337) (tgt := 369) hx hb lw_d_32 (by decide) (by decide) (by decide) (by decide) ?_
        exact zL_total S hx hb hK hA hZ hX hbl hbA hL hi hV hP hD hS hl kk
      · refine lv_tableOut (tgt := 392) hx hb lw_d_32 (by decide) (by decide) ?_
        exact kk kc ks w H locs hV hP hD hS
      · refine lv_tableOut (tgt := 392) hx hb lw_d_32 (by decide) (by decide) ?_
        exact kk kc ks w H locs hV hP hD hS
      · refine lv_tableOut (tgt := 392) hx hb lw_d_32 (by decide) (by decide) ?_
        exact kk kc ks w H locs hV hP hD hS
      · refine lv_tableOut (tgt := 392) hx hb lw_d_32 (by decide) (by decide) ?_
        exact kk kc ks w H locs hV hP hD hS
set_option maxHeartbeats 4000000 in
set_option maxRecDepth 100000 in
theorem zInv_start {cA : Nat → ClassId} {o om a1 a2 o3 b1 t1 g1 a4 : Nat} {ad pa1 pa2 rr : Nat → Nat} (h1 : ∀ j, j < 4 → pa1 j = 2 ^ j) (h2 : ∀ j, j < 1 → pa2 j = 2 ^ j) : zInv cA o om 0 0 (zfl [[(o, .inr (2, [.ref a1, .ref a2, .ref o3, .ref a4, .int (nI 1), .int (nI 0), .int (-1), .int (-1)]))], [(a1, .inl (cA 0, 4, .inl (nA pa1)))], [(a2, .inl (cA 0, 16, .inl (nA (fun _ => 0))))], [(o3, .inr (0, [.ref b1, .int (nI 0), .int (nI 0), .ref t1, .ref g1, .int (nI 0)]))], [(b1, .inl (cA 0, 16, .inl (nA (fun _ => 0))))], [(t1, .inl (cA 0, 16, .inl (nA (fun _ => 0))))], [(g1, .inl (cA 4, 17, .inr (.inr (.inr (.inr (zg_o rr))))))], zg_w cA rr (fun _ _ => 0), [(a4, .inl (cA 3, 5, .inr (.inr (.inr (.inr (fun _ => none))))))], []] ++ zfl [[(om, .inr (3, [.int (nI 0), .int (nI 1), .ref (ad 0), .ref (ad 1), .int (nI 0), .int (nI 0), .int (nI 0), .ref (ad 2), .ref (ad 3), .int (nI 0), .int (nI 0), .ref (ad 4), .ref (ad 5), .ref (ad 6), .ref (ad 7), .ref (ad 8), .int (nI 0), .ref (ad 9), .int (nI 0), .ref (ad 10), .int (nI 0), .ref (ad 11), .int (nI 0)]))], [(ad 0, .inl (cA 0, 4, .inl (nA pa2)))], [(ad 1, .inl (cA 0, 16, .inl (nA (fun _ => 0))))], [(ad 2, .inl (cA 0, 16, .inl (nA (fun _ => 0))))], [(ad 3, .inl (cA 0, 16, .inl (nA (fun _ => 0))))], [(ad 4, .inl (cA 0, 6, .inl (nA (fun _ => 0))))], [(ad 5, .inl (cA 2, 65536, .inl (nA (fun _ => 0))))], [(ad 6, .inl (cA 0, 65536, .inl (nA (fun _ => 0))))], [(ad 7, .inl (cA 0, 65536, .inl (nA (fun _ => 0))))], [(ad 8, .inl (cA 0, 65536, .inl (nA (fun _ => 0))))], [(ad 9, .inl (cA 0, 64, .inl (nA (fun _ => 0))))], [(ad 10, .inl (cA 0, 64, .inl (nA (fun _ => 0))))], [(ad 11, .inl (cA 0, 64, .inl (nA (fun _ => 0))))]]) := by
  refine ⟨1, (fun j => 2 ^ j), (fun _ => 0), _, _, ?_, ?_, rfl⟩
  · exact ⟨a1, a2, o3, b1, t1, g1, a4, 0, 0, 0, 0, (-1), (-1), (fun _ => none), pa1, (fun _ => 0), (fun _ => 0), (fun _ => 0), rr, (fun _ _ => 0), [], (fun _ _ => False), rfl, ⟨rfl, rfl⟩, ⟨Nat.le_refl 1, by decide, zr_begin (fun _ _ => rfl), fun _ => Nat.succ_pos 7⟩, ⟨fun j hj => h1 j (by omega), fun _ _ => rfl, fun _ => Nat.succ_pos 7⟩, ⟨by decide, fun _ => Nat.succ_pos 7, fun _ => Nat.succ_pos 7, fun h => absurd h (by decide)⟩, ⟨fun _ => [], List.Perm.refl _, fun k _ _ => Or.inl ⟨rfl, rfl, fun _ _ z => z.2⟩⟩, Or.inl rfl, Or.inl rfl⟩
  · exact ⟨ad, 0, 0, 0, 0, 0, 0, 0, 0, 0, pa2, (fun _ => 0), (fun _ => 0), (fun _ => 0), (fun _ => 0), (fun _ => 0), (fun _ => 0), (fun _ => 0), (fun _ => 0), (fun _ => 0), (fun _ => 0), (fun _ => 0), rfl, ⟨Nat.le_refl 1, by decide, zr_begin (fun _ _ => rfl), fun _ => Nat.succ_pos 7⟩, ⟨h2, fun _ _ => rfl, fun _ => Nat.succ_pos 7⟩, ⟨by decide, fun _ => Nat.succ_pos 7, fun _ => Nat.succ_pos 7, fun h => absurd h (by decide)⟩, ⟨by decide, fun h => absurd h (by decide)⟩, ⟨by decide, fun h => absurd h (by decide)⟩⟩
set_option maxHeartbeats 4000000 in
set_option maxRecDepth 100000 in
/-- THE LAW, from its entry -/
theorem whole_start {p : Program} {e : Env} {s : State} {m : MethodId} {below : List Frame} {meth : Method} {c : Code} (l : Launch) {b L : Nat} {xs : Nat → Int32} (hL : L ≤ 1536) (C0 : lw_At p s m meth c b L xs) : W p l e room_1 s m #[Value.ref b] below meth c s.heap [] 0 0 (lw_Z below #[Value.ref b] s) (entryFrame m ([Value.ref b] : List Value).toArray 4) := by
  obtain ⟨hx, hb, hr, hml, hown, hts0, hX, hbl, hlocks, hgv⟩ := id C0
  have hts : ∀ w ∈ zz_tbl, w.before #[Value.ref b] s = true := fun w h => hts0 w (zz_of h)
  have hown : s.vm.findClass lw_R = some m.cls := hown
  have hA : ∀ q : Nat, s.heap.size ≤ q → (fun q : Nat => s.heap.size ≤ q) q := fun _ h => h
  have hbA : ¬ (fun q : Nat => s.heap.size ≤ q) b := Nat.not_le.mpr hbl
  have S : CallFix p m c code 4 s #[Value.ref b] zz_tbl lw_R := ⟨hx, hb, hml, hown, hts⟩
  obtain ⟨dC, dI, cA, hK⟩ := zk_start hts0
  have hZ := zs_start hgv hts0
  have hAOA : va_AOA .int s := hts0 (.arrayOver (.array .int)) (List.mem_append_right _ (List.mem_of_getElem? (l := tables_1) (i := 24) (by decide +kernel)))
  have hAO : va_AO "PhaseCounts$PlanSearch" s := va_AO.of (hts0 (.arrayOver (.object "PhaseCounts$PlanSearch")) (List.mem_append_right _ (List.mem_of_getElem? (l := tables_1) (i := 49) (by decide +kernel))))
  have hNN : va_Nw (.methodLinkNest pc_R 18 lp_y_init "PhaseCounts") s := va_Nw.of rfl (hts0 (.methodLinkNest pc_R 18 lp_y_init "PhaseCounts") (List.mem_append_right _ (List.mem_of_getElem? (l := tables_1) (i := 19) (by decide +kernel))))
  have hS : va_S (fun q : Nat => s.heap.size ≤ q) s.heap s.heap [] := va_S.rf
  have hP : va_P (dC, dI) zz_cl [] s.heap := fun k q h => by simp at h
  have hD : va_D (fun q : Nat => s.heap.size ≤ q) [] := ⟨fun i j p q h => by simp at h, fun k q h => by simp at h⟩
  have hl := lv_entry ([.ref b]) (n := 4) (Nat.le_of_ble_eq_true rfl)
  rw [lg_entry_eq]
  generalize (lg_sl ([.ref b]) ++ List.replicate (4 - (lg_sl ([.ref b])).length) Slot.unset).toArray = ls at hl ⊢
  have hl : lv_has ls 4 [(0, .ref b)] := hl
  refine va_new (ci := 2) (fs := [.null, .null, .null, .null, .int (nI 0), .int (nI 0), .int (nI 0), .int (nI 0)]) (C := pc_R) (T := pc_T) (N := 8) hx hb hts pc_in pc_t pc_ok hown (hts _ zk_lw7) (hts _ zk_ma_pc) (hts _ zk_in_pc) hK hP hD hS hA rfl (fun j hj => by rcases (show j = 0 ∨ j = 1 ∨ j = 2 ∨ j = 3 ∨ j = 4 ∨ j = 5 ∨ j = 6 ∨ j = 7 by omega) with rfl | rfl | rfl | rfl | rfl | rfl | rfl | rfl <;> rfl) (Nat.le_of_ble_eq_true rfl) (Nat.le_of_ble_eq_true rfl) lw_d_0 (fun o H hP hD hS => ?_)
  have hP : va_P (dC, dI) zz_cl [(o, .inr (2, [.null, .null, .null, .null, .int (nI 0), .int (nI 0), .int (nI 0), .int (nI 0)]))] H := hP
  have hD : va_D (fun q : Nat => s.heap.size ≤ q) [(o, .inr (2, [.null, .null, .null, .null, .int (nI 0), .int (nI 0), .int (nI 0), .int (nI 0)]))] := hD
  refine lv_dup hx hb lw_d_3 rfl ?_
  refine zq_pcinit (rest := [.ref o]) S zk_lw9 hNN hAOA hAO ⟨Nat.le_of_ble_eq_true rfl, Nat.le_of_ble_eq_true rfl⟩ hK hP hD hS hA hZ hl.1 (Nat.le_of_ble_eq_true rfl) lw_d_4 (fun u H locs hpa1 hph1 hP hD hS => ?_) ⟨Nat.le_of_ble_eq_true rfl, Nat.le_of_ble_eq_true rfl⟩
  obtain ⟨a1, a2, o3, a4, b1, t1, g1, rr, pa1, ph1⟩ := u
  have hpa1 : ∀ j, j < 4 → pa1 j = 2 ^ j := hpa1
  have hph1 : ∀ j, j < 16 → ph1 j = 0 := hph1
  have hP : va_P (dC, dI) zz_cl ([(o, .inr (2, [.ref a1, .ref a2, .ref o3, .ref a4, .int (nI 1), .int (nI 0), .int (-1), .int (-1)])), (a1, .inl (cA 0, 4, .inl (nA pa1))), (a2, .inl (cA 0, 16, .inl (nA ph1))), (o3, .inr (0, [.ref b1, .int (nI 0), .int (nI 0), .ref t1, .ref g1, .int (nI 0)])), (b1, .inl (cA 0, 16, .inl (nA (fun _ => 0)))), (t1, .inl (cA 0, 16, .inl (nA (fun _ => 0)))), (g1, .inl (cA 4, 17, .inr (.inr (.inr (.inr (zg_o rr)))))), (a4, .inl (cA 3, 5, .inr (.inr (.inr (.inr (fun _ => none))))))] ++ zg_w cA rr (fun _ _ => 0)) H := hP
  have hD : va_D (fun q : Nat => s.heap.size ≤ q) ([(o, .inr (2, [.ref a1, .ref a2, .ref o3, .ref a4, .int (nI 1), .int (nI 0), .int (-1), .int (-1)])), (a1, .inl (cA 0, 4, .inl (nA pa1))), (a2, .inl (cA 0, 16, .inl (nA ph1))), (o3, .inr (0, [.ref b1, .int (nI 0), .int (nI 0), .ref t1, .ref g1, .int (nI 0)])), (b1, .inl (cA 0, 16, .inl (nA (fun _ => 0)))), (t1, .inl (cA 0, 16, .inl (nA (fun _ => 0)))), (g1, .inl (cA 4, 17, .inr (.inr (.inr (.inr (zg_o rr)))))), (a4, .inl (cA 3, 5, .inr (.inr (.inr (.inr (fun _ => none))))))] ++ zg_w cA rr (fun _ _ => 0)) := hD
  have hP := hP.set hD (p := 2) (a := a2) (e := .inl (cA 0, 16, .inl (nA (fun _ => 0)))) rfl (by
    show H[a2]? = some (vp_cell (cA 0) (16, .inl (nA (fun _ => 0))))
    rw [← zx_arr hph1]
    exact hP 2 _ rfl) (fun _ _ => rfl)
  have hD := hD.set (p := 2) (a := a2) (e := .inl (cA 0, 16, .inl (nA (fun _ => 0)))) rfl
  have hpm : List.Perm (([(o, .inr (2, [.ref a1, .ref a2, .ref o3, .ref a4, .int (nI 1), .int (nI 0), .int (-1), .int (-1)])), (a1, .inl (cA 0, 4, .inl (nA pa1))), (a2, .inl (cA 0, 16, .inl (nA (fun _ => 0)))), (o3, .inr (0, [.ref b1, .int (nI 0), .int (nI 0), .ref t1, .ref g1, .int (nI 0)])), (b1, .inl (cA 0, 16, .inl (nA (fun _ => 0)))), (t1, .inl (cA 0, 16, .inl (nA (fun _ => 0)))), (g1, .inl (cA 4, 17, .inr (.inr (.inr (.inr (zg_o rr)))))), (a4, .inl (cA 3, 5, .inr (.inr (.inr (.inr (fun _ => none))))))] ++ zg_w cA rr (fun _ _ => 0)) : va_W) (zfl [[(o, .inr (2, [.ref a1, .ref a2, .ref o3, .ref a4, .int (nI 1), .int (nI 0), .int (-1), .int (-1)]))], [(a1, .inl (cA 0, 4, .inl (nA pa1)))], [(a2, .inl (cA 0, 16, .inl (nA (fun _ => 0))))], [(o3, .inr (0, [.ref b1, .int (nI 0), .int (nI 0), .ref t1, .ref g1, .int (nI 0)]))], [(b1, .inl (cA 0, 16, .inl (nA (fun _ => 0))))], [(t1, .inl (cA 0, 16, .inl (nA (fun _ => 0))))], [(g1, .inl (cA 4, 17, .inr (.inr (.inr (.inr (zg_o rr))))))], zg_w cA rr (fun _ _ => 0), [(a4, .inl (cA 3, 5, .inr (.inr (.inr (.inr (fun _ => none))))))], []]) := zx_perm [[(o, .inr (2, [.ref a1, .ref a2, .ref o3, .ref a4, .int (nI 1), .int (nI 0), .int (-1), .int (-1)]))], [(a1, .inl (cA 0, 4, .inl (nA pa1)))], [(a2, .inl (cA 0, 16, .inl (nA (fun _ => 0))))], [(o3, .inr (0, [.ref b1, .int (nI 0), .int (nI 0), .ref t1, .ref g1, .int (nI 0)]))], [(b1, .inl (cA 0, 16, .inl (nA (fun _ => 0))))], [(t1, .inl (cA 0, 16, .inl (nA (fun _ => 0))))], [(g1, .inl (cA 4, 17, .inr (.inr (.inr (.inr (zg_o rr))))))], zg_w cA rr (fun _ _ => 0), [(a4, .inl (cA 3, 5, .inr (.inr (.inr (.inr (fun _ => none))))))], []] [0, 1, 2, 3, 4, 5, 6, 8, 9, 7] (by show List.Perm [0, 1, 2, 3, 4, 5, 6, 8, 9, 7] (List.range 10); decide)
  have hP := zx_P hpm hP
  have hD := zx_D hpm hD
  refine lv_astore_n (lv' := [(1, .ref o), (0, .ref b)]) hx hb lw_d_7 rfl hl (by decide) rfl (fun ls hl => ?_)
  refine va_new (ci := 3) (fs := [.int (nI 0), .int (nI 0), .null, .null, .int (nI 0), .int (nI 0), .int (nI 0), .null, .null, .int (nI 0), .int (nI 0), .null, .null, .null, .null, .null, .int (nI 0), .null, .int (nI 0), .null, .int (nI 0), .null, .int (nI 0)]) (C := pm_R) (T := pm_T) (N := 23) hx hb hts pm_in pm_t pm_ok hown (hts _ zk_lw10) (hts _ zk_ma_pm) (hts _ zk_in_pm) hK hP hD hS hA rfl (fun j hj => by rcases (show j = 0 ∨ j = 1 ∨ j = 2 ∨ j = 3 ∨ j = 4 ∨ j = 5 ∨ j = 6 ∨ j = 7 ∨ j = 8 ∨ j = 9 ∨ j = 10 ∨ j = 11 ∨ j = 12 ∨ j = 13 ∨ j = 14 ∨ j = 15 ∨ j = 16 ∨ j = 17 ∨ j = 18 ∨ j = 19 ∨ j = 20 ∨ j = 21 ∨ j = 22 by omega) with rfl | rfl | rfl | rfl | rfl | rfl | rfl | rfl | rfl | rfl | rfl | rfl | rfl | rfl | rfl | rfl | rfl | rfl | rfl | rfl | rfl | rfl | rfl <;> rfl) (Nat.le_of_ble_eq_true rfl) (Nat.le_of_ble_eq_true rfl) lw_d_8 (fun om H hP hD hS => ?_)
  have hP := zx_P List.perm_append_comm hP
  have hD := zx_D List.perm_append_comm hD
  refine lv_dup hx hb lw_d_11 rfl ?_
  obtain ⟨i1, i2, i3⟩ := zx_idx [(om, .inr (3, [.int (nI 0), .int (nI 0), .null, .null, .int (nI 0), .int (nI 0), .int (nI 0), .null, .null, .int (nI 0), .int (nI 0), .null, .null, .null, .null, .null, .int (nI 0), .null, .int (nI 0), .null, .int (nI 0), .null, .int (nI 0)]))] (zfl [[(o, .inr (2, [.ref a1, .ref a2, .ref o3, .ref a4, .int (nI 1), .int (nI 0), .int (-1), .int (-1)]))], [(a1, .inl (cA 0, 4, .inl (nA pa1)))], [(a2, .inl (cA 0, 16, .inl (nA (fun _ => 0))))], [(o3, .inr (0, [.ref b1, .int (nI 0), .int (nI 0), .ref t1, .ref g1, .int (nI 0)]))], [(b1, .inl (cA 0, 16, .inl (nA (fun _ => 0))))], [(t1, .inl (cA 0, 16, .inl (nA (fun _ => 0))))], [(g1, .inl (cA 4, 17, .inr (.inr (.inr (.inr (zg_o rr))))))], zg_w cA rr (fun _ _ => 0), [(a4, .inl (cA 3, 5, .inr (.inr (.inr (.inr (fun _ => none))))))], []])
  refine zq_Iwv (n := 0) (As := []) (rest := [.ref om]) S (pm_init l dC dI cA H.size om) zk_cd_pm_init zk_lw12 zk_im_pm_init zk_in_pm rfl (by decide +kernel) ⟨rfl, rfl⟩ ⟨Nat.le_of_ble_eq_true rfl, Nat.le_of_ble_eq_true rfl⟩ hK hP hD hS hA hZ _ _ i1 i2 i3 rfl hl.1 rfl (Nat.le_of_ble_eq_true rfl) lw_d_12 (fun u H locs hq hP hD hS => ?_) ⟨Nat.le_of_ble_eq_true rfl, Nat.le_of_ble_eq_true rfl⟩
  obtain ⟨ad, pa2, ph2⟩ := u
  have hpa2 : ∀ j, j < 1 → pa2 j = 2 ^ j := hq.1
  have hph2 : ∀ j, j < 16 → ph2 j = 0 := hq.2
  have hP : va_P (dC, dI) zz_cl (zfl [[(om, .inr (3, [.int (nI 0), .int (nI 1), .ref (ad 0), .ref (ad 1), .int (nI 0), .int (nI 0), .int (nI 0), .ref (ad 2), .ref (ad 3), .int (nI 0), .int (nI 0), .ref (ad 4), .ref (ad 5), .ref (ad 6), .ref (ad 7), .ref (ad 8), .int (nI 0), .ref (ad 9), .int (nI 0), .ref (ad 10), .int (nI 0), .ref (ad 11), .int (nI 0)]))], [(ad 0, .inl (cA 0, 4, .inl (nA pa2)))], [(ad 1, .inl (cA 0, 16, .inl (nA ph2)))], [(ad 2, .inl (cA 0, 16, .inl (nA (fun _ => 0))))], [(ad 3, .inl (cA 0, 16, .inl (nA (fun _ => 0))))], [(ad 4, .inl (cA 0, 6, .inl (nA (fun _ => 0))))], [(ad 5, .inl (cA 2, 65536, .inl (nA (fun _ => 0))))], [(ad 6, .inl (cA 0, 65536, .inl (nA (fun _ => 0))))], [(ad 7, .inl (cA 0, 65536, .inl (nA (fun _ => 0))))], [(ad 8, .inl (cA 0, 65536, .inl (nA (fun _ => 0))))], [(ad 9, .inl (cA 0, 64, .inl (nA (fun _ => 0))))], [(ad 10, .inl (cA 0, 64, .inl (nA (fun _ => 0))))], [(ad 11, .inl (cA 0, 64, .inl (nA (fun _ => 0))))]] ++ zfl [[(o, .inr (2, [.ref a1, .ref a2, .ref o3, .ref a4, .int (nI 1), .int (nI 0), .int (-1), .int (-1)]))], [(a1, .inl (cA 0, 4, .inl (nA pa1)))], [(a2, .inl (cA 0, 16, .inl (nA (fun _ => 0))))], [(o3, .inr (0, [.ref b1, .int (nI 0), .int (nI 0), .ref t1, .ref g1, .int (nI 0)]))], [(b1, .inl (cA 0, 16, .inl (nA (fun _ => 0))))], [(t1, .inl (cA 0, 16, .inl (nA (fun _ => 0))))], [(g1, .inl (cA 4, 17, .inr (.inr (.inr (.inr (zg_o rr))))))], zg_w cA rr (fun _ _ => 0), [(a4, .inl (cA 3, 5, .inr (.inr (.inr (.inr (fun _ => none))))))], []]) H := zx_P List.perm_append_comm hP
  have hD : va_D (fun q : Nat => s.heap.size ≤ q) (zfl [[(om, .inr (3, [.int (nI 0), .int (nI 1), .ref (ad 0), .ref (ad 1), .int (nI 0), .int (nI 0), .int (nI 0), .ref (ad 2), .ref (ad 3), .int (nI 0), .int (nI 0), .ref (ad 4), .ref (ad 5), .ref (ad 6), .ref (ad 7), .ref (ad 8), .int (nI 0), .ref (ad 9), .int (nI 0), .ref (ad 10), .int (nI 0), .ref (ad 11), .int (nI 0)]))], [(ad 0, .inl (cA 0, 4, .inl (nA pa2)))], [(ad 1, .inl (cA 0, 16, .inl (nA ph2)))], [(ad 2, .inl (cA 0, 16, .inl (nA (fun _ => 0))))], [(ad 3, .inl (cA 0, 16, .inl (nA (fun _ => 0))))], [(ad 4, .inl (cA 0, 6, .inl (nA (fun _ => 0))))], [(ad 5, .inl (cA 2, 65536, .inl (nA (fun _ => 0))))], [(ad 6, .inl (cA 0, 65536, .inl (nA (fun _ => 0))))], [(ad 7, .inl (cA 0, 65536, .inl (nA (fun _ => 0))))], [(ad 8, .inl (cA 0, 65536, .inl (nA (fun _ => 0))))], [(ad 9, .inl (cA 0, 64, .inl (nA (fun _ => 0))))], [(ad 10, .inl (cA 0, 64, .inl (nA (fun _ => 0))))], [(ad 11, .inl (cA 0, 64, .inl (nA (fun _ => 0))))]] ++ zfl [[(o, .inr (2, [.ref a1, .ref a2, .ref o3, .ref a4, .int (nI 1), .int (nI 0), .int (-1), .int (-1)]))], [(a1, .inl (cA 0, 4, .inl (nA pa1)))], [(a2, .inl (cA 0, 16, .inl (nA (fun _ => 0))))], [(o3, .inr (0, [.ref b1, .int (nI 0), .int (nI 0), .ref t1, .ref g1, .int (nI 0)]))], [(b1, .inl (cA 0, 16, .inl (nA (fun _ => 0))))], [(t1, .inl (cA 0, 16, .inl (nA (fun _ => 0))))], [(g1, .inl (cA 4, 17, .inr (.inr (.inr (.inr (zg_o rr))))))], zg_w cA rr (fun _ _ => 0), [(a4, .inl (cA 3, 5, .inr (.inr (.inr (.inr (fun _ => none))))))], []]) := zx_D List.perm_append_comm hD
  have hP := hP.set hD (p := 2) (a := ad 1) (e := .inl (cA 0, 16, .inl (nA (fun _ => 0)))) rfl (by
    show H[ad 1]? = some (vp_cell (cA 0) (16, .inl (nA (fun _ => 0))))
    rw [← zx_arr hph2]
    exact hP 2 _ rfl) (fun _ _ => rfl)
  have hD := hD.set (p := 2) (a := ad 1) (e := .inl (cA 0, 16, .inl (nA (fun _ => 0)))) rfl
  have hP : va_P (dC, dI) zz_cl (zfl [[(o, .inr (2, [.ref a1, .ref a2, .ref o3, .ref a4, .int (nI 1), .int (nI 0), .int (-1), .int (-1)]))], [(a1, .inl (cA 0, 4, .inl (nA pa1)))], [(a2, .inl (cA 0, 16, .inl (nA (fun _ => 0))))], [(o3, .inr (0, [.ref b1, .int (nI 0), .int (nI 0), .ref t1, .ref g1, .int (nI 0)]))], [(b1, .inl (cA 0, 16, .inl (nA (fun _ => 0))))], [(t1, .inl (cA 0, 16, .inl (nA (fun _ => 0))))], [(g1, .inl (cA 4, 17, .inr (.inr (.inr (.inr (zg_o rr))))))], zg_w cA rr (fun _ _ => 0), [(a4, .inl (cA 3, 5, .inr (.inr (.inr (.inr (fun _ => none))))))], []] ++ zfl [[(om, .inr (3, [.int (nI 0), .int (nI 1), .ref (ad 0), .ref (ad 1), .int (nI 0), .int (nI 0), .int (nI 0), .ref (ad 2), .ref (ad 3), .int (nI 0), .int (nI 0), .ref (ad 4), .ref (ad 5), .ref (ad 6), .ref (ad 7), .ref (ad 8), .int (nI 0), .ref (ad 9), .int (nI 0), .ref (ad 10), .int (nI 0), .ref (ad 11), .int (nI 0)]))], [(ad 0, .inl (cA 0, 4, .inl (nA pa2)))], [(ad 1, .inl (cA 0, 16, .inl (nA (fun _ => 0))))], [(ad 2, .inl (cA 0, 16, .inl (nA (fun _ => 0))))], [(ad 3, .inl (cA 0, 16, .inl (nA (fun _ => 0))))], [(ad 4, .inl (cA 0, 6, .inl (nA (fun _ => 0))))], [(ad 5, .inl (cA 2, 65536, .inl (nA (fun _ => 0))))], [(ad 6, .inl (cA 0, 65536, .inl (nA (fun _ => 0))))], [(ad 7, .inl (cA 0, 65536, .inl (nA (fun _ => 0))))], [(ad 8, .inl (cA 0, 65536, .inl (nA (fun _ => 0))))], [(ad 9, .inl (cA 0, 64, .inl (nA (fun _ => 0))))], [(ad 10, .inl (cA 0, 64, .inl (nA (fun _ => 0))))], [(ad 11, .inl (cA 0, 64, .inl (nA (fun _ => 0))))]]) H := zx_P List.perm_append_comm hP
  have hD : va_D (fun q : Nat => s.heap.size ≤ q) (zfl [[(o, .inr (2, [.ref a1, .ref a2, .ref o3, .ref a4, .int (nI 1), .int (nI 0), .int (-1), .int (-1)]))], [(a1, .inl (cA 0, 4, .inl (nA pa1)))], [(a2, .inl (cA 0, 16, .inl (nA (fun _ => 0))))], [(o3, .inr (0, [.ref b1, .int (nI 0), .int (nI 0), .ref t1, .ref g1, .int (nI 0)]))], [(b1, .inl (cA 0, 16, .inl (nA (fun _ => 0))))], [(t1, .inl (cA 0, 16, .inl (nA (fun _ => 0))))], [(g1, .inl (cA 4, 17, .inr (.inr (.inr (.inr (zg_o rr))))))], zg_w cA rr (fun _ _ => 0), [(a4, .inl (cA 3, 5, .inr (.inr (.inr (.inr (fun _ => none))))))], []] ++ zfl [[(om, .inr (3, [.int (nI 0), .int (nI 1), .ref (ad 0), .ref (ad 1), .int (nI 0), .int (nI 0), .int (nI 0), .ref (ad 2), .ref (ad 3), .int (nI 0), .int (nI 0), .ref (ad 4), .ref (ad 5), .ref (ad 6), .ref (ad 7), .ref (ad 8), .int (nI 0), .ref (ad 9), .int (nI 0), .ref (ad 10), .int (nI 0), .ref (ad 11), .int (nI 0)]))], [(ad 0, .inl (cA 0, 4, .inl (nA pa2)))], [(ad 1, .inl (cA 0, 16, .inl (nA (fun _ => 0))))], [(ad 2, .inl (cA 0, 16, .inl (nA (fun _ => 0))))], [(ad 3, .inl (cA 0, 16, .inl (nA (fun _ => 0))))], [(ad 4, .inl (cA 0, 6, .inl (nA (fun _ => 0))))], [(ad 5, .inl (cA 2, 65536, .inl (nA (fun _ => 0))))], [(ad 6, .inl (cA 0, 65536, .inl (nA (fun _ => 0))))], [(ad 7, .inl (cA 0, 65536, .inl (nA (fun _ => 0))))], [(ad 8, .inl (cA 0, 65536, .inl (nA (fun _ => 0))))], [(ad 9, .inl (cA 0, 64, .inl (nA (fun _ => 0))))], [(ad 10, .inl (cA 0, 64, .inl (nA (fun _ => 0))))], [(ad 11, .inl (cA 0, 64, .inl (nA (fun _ => 0))))]]) := zx_D List.perm_append_comm hD
  refine lv_astore_n (lv' := [(2, .ref om), (1, .ref o), (0, .ref b)]) hx hb lw_d_15 rfl hl (by decide) rfl (fun ls hl => ?_)
  refine lv_iconst (v := nI 0) hx hb lw_d_16 (by decide) ?_
  refine lv_istore_n (lv' := [(3, .int (nI 0)), (2, .ref om), (1, .ref o), (0, .ref b)]) hx hb lw_d_17 rfl hl (by decide) rfl (fun ls hl => ?_)
  refine W.widen (k := 38 + 0) (n := 262777 + 0) (Nat.le_of_ble_eq_true rfl) (Nat.le_of_ble_eq_true rfl) ?_
  exact law_loop hL C0 hK hZ (L + 4) 0 (by omega) (by omega) 0 0 _ H locs (zInv_start hpa1 hpa2) hP hD hS ls (lv_sub hl [3, 2, 1, 0] rfl)

