/-! worlds, contracts and calls in one form for all methods of the claim -/
abbrev zT (cA : Nat → ClassId) : List (ClassId × FieldType) := [(cA 0, .int), (cA 1, .long), (cA 2, .boolean), (cA 3, .object "PhaseCounts$PlanSearch"), (cA 4, .array .int)]
/-- a static array of ours that nobody writes -/
def zs_one (C n : String) (N : Nat) (g : Nat → Nat) (A : Nat → Prop) (U : State) : Prop := ∃ t : Nat, va_Z C n "[I" (.ref t) A U U.heap ∧ va_T .int t N (fun j => .int (nI (g j))) A U U.heap
def zs_set : Nat → Nat := fun j => [7, 11, 13, 14, 15, 15].getD j 0
def zs_size : Nat → Nat := fun j => [2, 2, 2, 2, 2, 1].getD j 0
def zs_shifts : Nat → Nat := fun j => [0, 0, 0, 1, 6].getD j 0
def zs_states : Nat → Nat := fun j => [0, 1, 7, 859, 20160].getD j 0
def zs_all (A : Nat → Prop) (U : State) : Prop := zs_one "PhaseCounts$LeastPhases" "SHIFT_SET" 6 zs_set A U ∧ zs_one "PhaseCounts$LeastPhases" "SHIFT_SIZE" 6 zs_size A U ∧ zs_one "PhaseCounts$LeastPhases" "SHIFTS_OF_WIRES" 5 zs_shifts A U ∧ zs_one "PhaseCounts$PlanSearch" "STATES_OF_WIRES" 5 zs_states A U
theorem zs_one_move {C n : String} {N : Nat} {g : Nat → Nat} {A B : Nat → Prop} {s U : State} {locs : List Loc} (h : zs_one C n N g A s) (hS : va_S A s.heap U.heap locs) (hAB : ∀ q, B q → A q) (hvm : s.vm.Alike U.vm) : zs_one C n N g B U := by
  obtain ⟨t, h1, h2⟩ := h
  exact ⟨t, ((h1.kept (fun a h3 h4 => hS.2.1 a h3 h4)).moved hvm).narrow hAB, ((h2.kept (fun a h3 h4 => hS.2.1 a h3 h4)).moved hvm).narrow hAB⟩
theorem zs_move {A B : Nat → Prop} {s U : State} {locs : List Loc} (h : zs_all A s) (hS : va_S A s.heap U.heap locs) (hAB : ∀ q, B q → A q) (hvm : s.vm.Alike U.vm) : zs_all B U :=
  ⟨zs_one_move h.1 hS hAB hvm, zs_one_move h.2.1 hS hAB hvm, zs_one_move h.2.2.1 hS hAB hvm, zs_one_move h.2.2.2 hS hAB hvm⟩
/-- a start: the cells ws, the classes, the size of the heap, the static arrays -/
def zB (D : va_G) (cA : Nat → ClassId) (ws : va_W) (sz : Nat) (U : State) : Prop := U.heap.size = sz ∧ va_P D zz_cl ws U.heap ∧ va_K D zz_cl (zT cA) U ∧ va_D (fun _ => True) ws ∧ zs_all (va_A ws sz) U
/-- a start of a method that only reads -/
def zR (D : va_G) (cA : Nat → ClassId) (ws : va_W) (U : State) : Prop := va_P D zz_cl ws U.heap ∧ va_K D zz_cl (zT cA) U
/-- an end: the cells w1, nothing but ws and new cells touched -/
def zE (D : va_G) (A : Nat → Prop) (w1 : va_W) (t : State) : Prop := va_P D zz_cl w1 t.heap ∧ va_D A w1
theorem zB_bl {D : va_G} {cA : Nat → ClassId} {ws : va_W} {sz : Nat} {av : List Value} : FrameBlind (va_Pc av (zB D cA ws sz)) := fun a U g mk q => by
  obtain ⟨q0, q1, qP, qK, qD, qZ⟩ := q
  exact ⟨q0, q1, qP, va_K.moved (u := U) (U := U.calling g mk a) (Vm.Alike.refl U.vm) qK, qD, zs_move (locs := []) qZ (va_S.rf : va_S _ U.heap U.heap []) (fun _ h => h) (Vm.Alike.refl U.vm)⟩
theorem zR_bl {D : va_G} {cA : Nat → ClassId} {ws : va_W} {av : List Value} : FrameBlind (va_Pc av (zR D cA ws)) := fun a U g mk q => by
  obtain ⟨q0, qP, qK⟩ := q
  exact ⟨q0, qP, va_K.moved (u := U) (U := U.calling g mk a) (Vm.Alike.refl U.vm) qK⟩
theorem zN_bl {av : List Value} : FrameBlind (va_Pc av (fun _ => True)) := fun a U g mk q => q
section ZQ
variable {p : Program} {l : Launch} {e : Env} {R : Room} {s : State} {m : MethodId} {args : Array Value} {below : List Frame} {meth : Method} {c : Code} {H : Heap} {locs : List Loc} {cells slots : Nat} {Q : State → Prop}
variable {y : MethodName} {bytes cc : ByteArray} {maxL nL mc ms n index : Nat} {ret : Option FieldType} {rm : Room} {own C : String} {b : Nat} {As rest st0 : List Value} {pc : Nat} {ls : Array Slot} {D : va_G} {cA : Nat → ClassId} {wc : va_W}
/-- a read by invokevirtual -/
theorem zq_Vi {post : Int32 → Prop} (S : CallFix p m c cc nL s args zz_tbl own) (hM : Met l y (Cond.code y bytes maxL ret :: zz_tbl) rm (va_Pc (.ref b :: As) (zR D cA wc)) (vp_Si post) 0 0 (fun _ => False)) (hG : GoodIn zz_tbl (wsV own index C y (Cond.code y bytes maxL ret :: zz_tbl)))
    (hd : y.cls = C ∧ y.cls ≠ "java/lang/invoke/MethodHandle" ∧ y.cls ≠ "java/lang/invoke/VarHandle" ∧ (parseMethodDescriptor y.desc).map (fun d => d.parameters.length) = some n) (hrc : rm.cells = 0 ∧ rm.slots = 0) (hR : rm.frames + 1 ≤ R.frames ∧ 8 + (maxL + 11) + rm.locals ≤ R.locals)
    (hK : va_K D zz_cl (zT cA) s) (hP : va_P D zz_cl wc H) (ci q0 : Nat) {q : vw_C} {fs : List Value} (hc : zz_cl[ci]? = some q) (he : wc[q0]? = some (b, .inr (ci, fs))) (hq : q.1 = C)
    (hn : As.length = n) (hl : ls.size = nL) (hst : st0 = As.reverse ++ .ref b :: rest) (hW : (rest.map fun v => v.category).sum ≤ 8) (hdg : decode cc pc = .ok (.invokevirtual index, 3))
    (kk : ∀ r : Int32, post r → W p l e R s m args below meth c H locs cells slots Q (F0 m (pc + 3) ls (.int r :: rest))) (h0 : cells ≤ R.cells ∧ slots ≤ R.slots) : W p l e R s m args below meth c H locs cells slots Q (F0 m pc ls st0) := by
  subst hq
  refine vp_callSi (va_Run.run (va_runV (As := As) (rest := rest) (b := b) (C := q.1) S hM (cwV n S.2.2.2.2 hG rfl hrc.1 hrc.2 hd hR) ⟨zR_bl, va_recv hK hP (ci := ci) (q0 := q0) hc he, fun U hU hW => ⟨rfl, by rw [hU]; exact hP, va_K.moved hW.alike hK⟩⟩ rfl hn hl hst (by show 2 * 0 + _ ≤ 8; omega) hdg h0)) kk
/-- a read by invokestatic, of no cell -/
theorem zq_Si {post : Int32 → Prop} (S : CallFix p m c cc nL s args zz_tbl own) (hM : Met l y (Cond.code y bytes maxL ret :: zz_tbl) rm (va_Pc As (fun _ => True)) (vp_Si post) 0 0 (fun _ => False)) (hG : GoodIn zz_tbl (va_wsS own index y (Cond.code y bytes maxL ret :: zz_tbl)))
    (hd : y.cls ≠ "java/lang/invoke/MethodHandle" ∧ y.cls ≠ "java/lang/invoke/VarHandle" ∧ (parseMethodDescriptor y.desc).map (fun d => d.parameters.length) = some n) (hrc : rm.cells = 0 ∧ rm.slots = 0) (hR : rm.frames + 1 ≤ R.frames ∧ 8 + (maxL + 11) + rm.locals ≤ R.locals)
    (hn : As.length = n) (hl : ls.size = nL) (hst : st0 = As.reverse ++ rest) (hW : (rest.map fun v => v.category).sum ≤ 8) (hdg : decode cc pc = .ok (.invokestatic index, 3))
    (kk : ∀ r : Int32, post r → W p l e R s m args below meth c H locs cells slots Q (F0 m (pc + 3) ls (.int r :: rest))) (h0 : cells ≤ R.cells ∧ slots ≤ R.slots) : W p l e R s m args below meth c H locs cells slots Q (F0 m pc ls st0) := by
  refine vp_callSi (va_Run.run (va_runS (As := As) (rest := rest) S hM (va_cwS n S.2.2.2.2 hG rfl hrc.1 hrc.2 hd hR) ⟨zN_bl, fun U hU hW => ⟨rfl, trivial⟩⟩ rfl hn hl hst (by show 2 * 0 + _ ≤ 8; omega) hdg h0)) kk
variable {A0 : Nat → Prop} {ws wr : va_W}
/-- a call by invokevirtual that answers an int and writes -/
theorem zq_Vwi {σ : Type} {post : Int32 → σ → Prop} {w1 : σ → va_W} (S : CallFix p m c cc nL s args zz_tbl own) (hM : Met l y (Cond.code y bytes maxL ret :: zz_tbl) rm (va_Pc (.ref b :: As) (zB D cA wc H.size)) (va_Qi post (fun u t => zE D (va_A wc H.size) (w1 u) t) (va_A wc H.size)) mc ms (va_A wc H.size)) (hG : GoodIn zz_tbl (wsV own index C y (Cond.code y bytes maxL ret :: zz_tbl)))
    (hd : y.cls = C ∧ y.cls ≠ "java/lang/invoke/MethodHandle" ∧ y.cls ≠ "java/lang/invoke/VarHandle" ∧ (parseMethodDescriptor y.desc).map (fun d => d.parameters.length) = some n) (hrc : rm.cells = mc ∧ rm.slots = ms) (hR : rm.frames + 1 ≤ R.frames ∧ 8 + (maxL + 11) + rm.locals ≤ R.locals)
    (hK : va_K D zz_cl (zT cA) s) (hP : va_P D zz_cl ws H) (hD : va_D A0 ws) (hS : va_S A0 s.heap H locs) (hA : ∀ q, s.heap.size ≤ q → A0 q) (hZ : zs_all A0 s) (isC isR : List Nat) (hwc : isC.map (fun i => ws[i]?) = wc.map some) (hwr : isR.map (fun i => ws[i]?) = wr.map some) (hnd : va_nd isC = true ∧ va_nd isR = true ∧ ∀ i ∈ isR, i ∉ isC)
    (ci q0 : Nat) {q : vw_C} {fs : List Value} (hc : zz_cl[ci]? = some q) (he : wc[q0]? = some (b, .inr (ci, fs))) (hq : q.1 = C)
    (hn : As.length = n) (hl : ls.size = nL) (hst : st0 = As.reverse ++ .ref b :: rest) (hW : (rest.map fun v => v.category).sum ≤ 8) (hdg : decode cc pc = .ok (.invokevirtual index, 3))
    (kk : ∀ (r : Int32) (u : σ) (H1 : Heap) (locs1 : List Loc), post r u → va_P D zz_cl (wr ++ w1 u) H1 → va_D A0 (wr ++ w1 u) → va_S A0 s.heap H1 locs1 → W p l e R s m args below meth c H1 locs1 (cells + mc) (slots + ms) Q (F0 m (pc + 3) ls (.int r :: rest))) (h0 : cells + mc ≤ R.cells ∧ slots + ms ≤ R.slots) : W p l e R s m args below meth c H locs cells slots Q (F0 m pc ls st0) := by
  subst hq
  have hDc := hD.sub isC hnd.1 hwc
  have hPc : va_P D zz_cl wc H := fun k x hx => by
    obtain ⟨i, -, h2⟩ := va_in_of isC hwc hx
    exact hP i x h2
  have hF := va_free hD hS hA isC hwc
  refine va_calli (va_runV (As := As) (rest := rest) (b := b) (C := q.1) S hM (cwV n S.2.2.2.2 hG rfl hrc.1 hrc.2 hd hR) ⟨zB_bl, va_recv hK hPc (ci := ci) (q0 := q0) hc he, fun U hU hW => ⟨rfl, by rw [hU], by rw [hU]; exact hPc, va_K.moved hW.alike hK, hDc.weaken (fun _ _ _ _ => trivial), zs_move hZ (by rw [hU]; exact hS) hF hW.alike⟩⟩ rfl hn hl hst (by show 2 * 0 + _ ≤ 8; omega) hdg h0) hS (fun q _ h => hF q h) hF (fun r u t H1 locs ht hvm hw hB hz1 hk1 hS => ?_)
  obtain ⟨hP1, hD1⟩ := hB
  rw [ht] at hP1
  obtain ⟨hP2, hD2⟩ := va_join hP hD isC isR hwc hwr hnd.2.1 hnd.2.2 hk1 hF hP1 hD1
  exact kk r u H1 locs hw hP2 hD2 hS
/-- a call by invokevirtual that answers nothing and writes -/
theorem zq_Vwv {σ : Type} {post : σ → Prop} {w1 : σ → va_W} (S : CallFix p m c cc nL s args zz_tbl own) (hM : Met l y (Cond.code y bytes maxL ret :: zz_tbl) rm (va_Pc (.ref b :: As) (zB D cA wc H.size)) (va_Qv post (fun u t => zE D (va_A wc H.size) (w1 u) t) (va_A wc H.size)) mc ms (va_A wc H.size)) (hG : GoodIn zz_tbl (wsV own index C y (Cond.code y bytes maxL ret :: zz_tbl)))
    (hd : y.cls = C ∧ y.cls ≠ "java/lang/invoke/MethodHandle" ∧ y.cls ≠ "java/lang/invoke/VarHandle" ∧ (parseMethodDescriptor y.desc).map (fun d => d.parameters.length) = some n) (hrc : rm.cells = mc ∧ rm.slots = ms) (hR : rm.frames + 1 ≤ R.frames ∧ 8 + (maxL + 11) + rm.locals ≤ R.locals)
    (hK : va_K D zz_cl (zT cA) s) (hP : va_P D zz_cl ws H) (hD : va_D A0 ws) (hS : va_S A0 s.heap H locs) (hA : ∀ q, s.heap.size ≤ q → A0 q) (hZ : zs_all A0 s) (isC isR : List Nat) (hwc : isC.map (fun i => ws[i]?) = wc.map some) (hwr : isR.map (fun i => ws[i]?) = wr.map some) (hnd : va_nd isC = true ∧ va_nd isR = true ∧ ∀ i ∈ isR, i ∉ isC)
    (ci q0 : Nat) {q : vw_C} {fs : List Value} (hc : zz_cl[ci]? = some q) (he : wc[q0]? = some (b, .inr (ci, fs))) (hq : q.1 = C)
    (hn : As.length = n) (hl : ls.size = nL) (hst : st0 = As.reverse ++ .ref b :: rest) (hW : (rest.map fun v => v.category).sum ≤ 8) (hdg : decode cc pc = .ok (.invokevirtual index, 3))
    (kk : ∀ (u : σ) (H1 : Heap) (locs1 : List Loc), post u → va_P D zz_cl (wr ++ w1 u) H1 → va_D A0 (wr ++ w1 u) → va_S A0 s.heap H1 locs1 → W p l e R s m args below meth c H1 locs1 (cells + mc) (slots + ms) Q (F0 m (pc + 3) ls rest)) (h0 : cells + mc ≤ R.cells ∧ slots + ms ≤ R.slots) : W p l e R s m args below meth c H locs cells slots Q (F0 m pc ls st0) := by
  subst hq
  have hDc := hD.sub isC hnd.1 hwc
  have hPc : va_P D zz_cl wc H := fun k x hx => by
    obtain ⟨i, -, h2⟩ := va_in_of isC hwc hx
    exact hP i x h2
  have hF := va_free hD hS hA isC hwc
  refine va_callv (va_runV (As := As) (rest := rest) (b := b) (C := q.1) S hM (cwV n S.2.2.2.2 hG rfl hrc.1 hrc.2 hd hR) ⟨zB_bl, va_recv hK hPc (ci := ci) (q0 := q0) hc he, fun U hU hW => ⟨rfl, by rw [hU], by rw [hU]; exact hPc, va_K.moved hW.alike hK, hDc.weaken (fun _ _ _ _ => trivial), zs_move hZ (by rw [hU]; exact hS) hF hW.alike⟩⟩ rfl hn hl hst (by show 2 * 0 + _ ≤ 8; omega) hdg h0) hS (fun q _ h => hF q h) hF (fun u t H1 locs ht hvm hw hB hz1 hk1 hS => ?_)
  obtain ⟨hP1, hD1⟩ := hB
  rw [ht] at hP1
  obtain ⟨hP2, hD2⟩ := va_join hP hD isC isR hwc hwr hnd.2.1 hnd.2.2 hk1 hF hP1 hD1
  exact kk u H1 locs hw hP2 hD2 hS
/-- a call by invokestatic that answers nothing and writes -/
theorem zq_Swv {σ : Type} {post : σ → Prop} {w1 : σ → va_W} (S : CallFix p m c cc nL s args zz_tbl own) (hM : Met l y (Cond.code y bytes maxL ret :: zz_tbl) rm (va_Pc As (zB D cA wc H.size)) (va_Qv post (fun u t => zE D (va_A wc H.size) (w1 u) t) (va_A wc H.size)) mc ms (va_A wc H.size)) (hG : GoodIn zz_tbl (va_wsS own index y (Cond.code y bytes maxL ret :: zz_tbl)))
    (hd : y.cls ≠ "java/lang/invoke/MethodHandle" ∧ y.cls ≠ "java/lang/invoke/VarHandle" ∧ (parseMethodDescriptor y.desc).map (fun d => d.parameters.length) = some n) (hrc : rm.cells = mc ∧ rm.slots = ms) (hR : rm.frames + 1 ≤ R.frames ∧ 8 + (maxL + 11) + rm.locals ≤ R.locals)
    (hK : va_K D zz_cl (zT cA) s) (hP : va_P D zz_cl ws H) (hD : va_D A0 ws) (hS : va_S A0 s.heap H locs) (hA : ∀ q, s.heap.size ≤ q → A0 q) (hZ : zs_all A0 s) (isC isR : List Nat) (hwc : isC.map (fun i => ws[i]?) = wc.map some) (hwr : isR.map (fun i => ws[i]?) = wr.map some) (hnd : va_nd isC = true ∧ va_nd isR = true ∧ ∀ i ∈ isR, i ∉ isC)
    (hn : As.length = n) (hl : ls.size = nL) (hst : st0 = As.reverse ++ rest) (hW : (rest.map fun v => v.category).sum ≤ 8) (hdg : decode cc pc = .ok (.invokestatic index, 3))
    (kk : ∀ (u : σ) (H1 : Heap) (locs1 : List Loc), post u → va_P D zz_cl (wr ++ w1 u) H1 → va_D A0 (wr ++ w1 u) → va_S A0 s.heap H1 locs1 → W p l e R s m args below meth c H1 locs1 (cells + mc) (slots + ms) Q (F0 m (pc + 3) ls rest)) (h0 : cells + mc ≤ R.cells ∧ slots + ms ≤ R.slots) : W p l e R s m args below meth c H locs cells slots Q (F0 m pc ls st0) := by
  have hDc := hD.sub isC hnd.1 hwc
  have hPc : va_P D zz_cl wc H := fun k x hx => by
    obtain ⟨i, -, h2⟩ := va_in_of isC hwc hx
    exact hP i x h2
  have hF := va_free hD hS hA isC hwc
  refine va_callv (va_runS (As := As) (rest := rest) S hM (va_cwS n S.2.2.2.2 hG rfl hrc.1 hrc.2 hd hR) ⟨zB_bl, fun U hU hW => ⟨rfl, by rw [hU], by rw [hU]; exact hPc, va_K.moved hW.alike hK, hDc.weaken (fun _ _ _ _ => trivial), zs_move hZ (by rw [hU]; exact hS) hF hW.alike⟩⟩ rfl hn hl hst (by show 2 * 0 + _ ≤ 8; omega) hdg h0) hS (fun q _ h => hF q h) hF (fun u t H1 locs ht hvm hw hB hz1 hk1 hS => ?_)
  obtain ⟨hP1, hD1⟩ := hB
  rw [ht] at hP1
  obtain ⟨hP2, hD2⟩ := va_join hP hD isC isR hwc hwr hnd.2.1 hnd.2.2 hk1 hF hP1 hD1
  exact kk u H1 locs hw hP2 hD2 hS
/-- a loop: its head is come to with J; k falls -/
theorem zl_loop (J : Nat → Array Slot → Heap → List Loc → Prop) (step : ∀ (k : Nat) (ls : Array Slot) (H : Heap) (locs : List Loc), J k ls H locs → (∀ (k' : Nat) (ls' : Array Slot) (H' : Heap) (locs' : List Loc), k' < k → J k' ls' H' locs' → W p l e R s m args below meth c H' locs' cells slots Q (F0 m pc ls' [])) → W p l e R s m args below meth c H locs cells slots Q (F0 m pc ls [])) (k0 : Nat) (h0 : J k0 ls H locs) : W p l e R s m args below meth c H locs cells slots Q (F0 m pc ls []) := by
  have key : ∀ (n k : Nat) (ls : Array Slot) (H : Heap) (locs : List Loc), k < n → J k ls H locs → W p l e R s m args below meth c H locs cells slots Q (F0 m pc ls []) := by
    intro n
    induction n with
    | zero => intro k ls H locs h; exact absurd h (Nat.not_lt_zero _)
    | succ n ih => exact fun k ls H locs h hJ => step k ls H locs hJ (fun k' ls' H' locs' h1 h2 => ih k' ls' H' locs' (by omega) h2)
  exact key (k0 + 1) k0 ls H locs (by omega) h0
/-- a place that several ways come to -/
theorem zl_cut (pc2 : Nat) (J : Array Slot → Heap → List Loc → Prop) {st : List Value} (body : ∀ (ls : Array Slot) (H : Heap) (locs : List Loc), J ls H locs → W p l e R s m args below meth c H locs cells slots Q (F0 m pc2 ls [])) (main : (∀ (ls : Array Slot) (H : Heap) (locs : List Loc), J ls H locs → W p l e R s m args below meth c H locs cells slots Q (F0 m pc2 ls [])) → W p l e R s m args below meth c H locs cells slots Q (F0 m pc ls st)) : W p l e R s m args below meth c H locs cells slots Q (F0 m pc ls st) := main body
end ZQ
