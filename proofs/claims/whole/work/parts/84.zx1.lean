/-! THE LAW: a world in pieces -/
def zfl : List va_W → va_W
  | [] => []
  | [x] => x
  | x :: y :: l => x ++ zfl (y :: l)
theorem zfl_eq : ∀ l : List va_W, zfl l = l.flatten
  | [] => rfl
  | [x] => by simp [zfl]
  | x :: y :: l => by
    rw [zfl, zfl_eq (y :: l)]
    simp
theorem zx_flat {a b : List va_W} (h : a.Perm b) : a.flatten.Perm b.flatten := by
  induction h with
  | nil => exact List.Perm.refl _
  | cons x _ ih =>
    simp only [List.flatten_cons]
    exact ih.append_left x
  | swap x y l =>
    simp only [List.flatten_cons]
    rw [← List.append_assoc, ← List.append_assoc]
    exact List.perm_append_comm.append_right _
  | trans _ _ h1 h2 => exact h1.trans h2
theorem zx_all (a : List va_W) : (List.range a.length).map (fun i => a.getD i []) = a := by
  refine List.ext_getElem (by simp) (fun i h1 h2 => ?_)
  rw [List.getElem_map, List.getElem_range, List.getD_eq_getElem?_getD, List.getElem?_eq_getElem h2]
  rfl
theorem zx_perm (a : List va_W) (r : List Nat) (hr : r.Perm (List.range a.length)) : (zfl (r.map (fun i => a.getD i []))).Perm (zfl a) := by
  rw [zfl_eq, zfl_eq]
  have h := zx_flat (hr.map (fun i => a.getD i []))
  rw [zx_all] at h
  exact h
theorem zx_last (l : List va_W) {x y : va_W} (h : x.Perm y) : (zfl (l ++ [x])).Perm (zfl (l ++ [y])) := by
  rw [zfl_eq, zfl_eq, List.flatten_append, List.flatten_append]
  refine List.Perm.append_left _ ?_
  simpa using h
theorem zx_P {D : va_G} {cl : List vw_C} {w w' : va_W} {H : Heap} (h : w.Perm w') (hP : va_P D cl w H) : va_P D cl w' H := fun k q hk => by
  obtain ⟨i, hi⟩ := List.getElem?_of_mem (h.mem_iff.mpr (List.mem_of_getElem? hk))
  exact hP i q hi
theorem zx_Dn {A : Nat → Prop} {w : va_W} : va_D A w ↔ (w.map (fun q => q.1)).Nodup ∧ ∀ q ∈ w, A q.1 := by
  constructor
  · intro h
    refine ⟨?_, fun q hq => ?_⟩
    · refine List.pairwise_iff_getElem.mpr (fun i j hi hj hij e => ?_)
      rw [List.length_map] at hi hj
      rw [List.getElem_map, List.getElem_map] at e
      have := h.1 i j _ _ (List.getElem?_eq_getElem hi) (List.getElem?_eq_getElem hj) e
      omega
    · obtain ⟨i, hi⟩ := List.getElem?_of_mem hq
      exact h.2 i q hi
  · intro h
    refine ⟨fun i j x y hi hj e => ?_, fun k q hk => h.2 q (List.mem_of_getElem? hk)⟩
    obtain ⟨li, ei⟩ := List.getElem?_eq_some_iff.mp hi
    obtain ⟨lj, ej⟩ := List.getElem?_eq_some_iff.mp hj
    have key : ∀ (a b : Nat) (ha : a < w.length) (hb : b < w.length), a < b → w[a].1 = w[b].1 → False := by
      intro a b ha hb hab e1
      have := List.pairwise_iff_getElem.mp h.1 a b (by rw [List.length_map]; exact ha) (by rw [List.length_map]; exact hb) hab
      rw [List.getElem_map, List.getElem_map] at this
      exact this e1
    rcases Nat.lt_trichotomy i j with q | q | q
    · exact absurd (by rw [ei, ej]; exact e) (key i j li lj q)
    · exact q
    · exact absurd (by rw [ei, ej]; exact e.symm) (key j i lj li q)
theorem zx_D {A : Nat → Prop} {w w' : va_W} (h : w.Perm w') (hD : va_D A w) : va_D A w' := by
  obtain ⟨a, b⟩ := zx_Dn.mp hD
  exact zx_Dn.mpr ⟨(h.map (fun q => q.1)).nodup_iff.mp a, fun q hq => b q (h.mem_iff.mpr hq)⟩
theorem zx_nd : ∀ l : List Nat, l.Nodup → va_nd l = true
  | [], _ => rfl
  | a :: l, h => by
    obtain ⟨h1, h2⟩ := List.nodup_cons.mp h
    simp only [va_nd, Bool.and_eq_true, decide_eq_true_eq]
    exact ⟨h1, zx_nd l h2⟩
theorem zx_idx (wc wr : va_W) : (List.range wc.length).map (fun i => (wc ++ wr)[i]?) = wc.map some ∧ ((List.range wr.length).map (fun i => wc.length + i)).map (fun i => (wc ++ wr)[i]?) = wr.map some ∧ (va_nd (List.range wc.length) = true ∧ va_nd ((List.range wr.length).map (fun i => wc.length + i)) = true ∧ ∀ i ∈ (List.range wr.length).map (fun i => wc.length + i), i ∉ List.range wc.length) := by
  refine ⟨?_, ?_, zx_nd _ List.nodup_range, ?_, ?_⟩
  · refine List.ext_getElem (by simp) (fun i h1 h2 => ?_)
    have hi : i < wc.length := by simpa using h2
    rw [List.getElem_map, List.getElem_map, List.getElem_range, List.getElem?_append_left hi, List.getElem?_eq_getElem hi]
  · refine List.ext_getElem (by simp) (fun i h1 h2 => ?_)
    have hi : i < wr.length := by simpa using h2
    rw [List.getElem_map, List.getElem_map, List.getElem_map, List.getElem_range, List.getElem?_append_right (by omega), Nat.add_sub_cancel_left, List.getElem?_eq_getElem hi]
  · refine zx_nd _ (List.pairwise_map.mpr ((List.nodup_range (n := wr.length)).imp ?_))
    intro a b h e
    omega
  · intro i hi h
    obtain ⟨j, -, rfl⟩ := List.mem_map.mp hi
    have := List.mem_range.mp h
    omega
/-- the cells of an array that are looked at -/
theorem zx_arr {cA : ClassId} {n : Nat} {f g : Nat → Nat} (h : ∀ j, j < n → f j = g j) : vp_cell cA (n, .inl (nA f)) = vp_cell cA (n, .inl (nA g)) := by
  have e : (fun j : Fin n => Value.int (nA f j.val)) = fun j : Fin n => Value.int (nA g j.val) := funext fun j => by
    show Value.int (nI (f j.1)) = Value.int (nI (g j.1))
    rw [h j.1 j.2]
  show ({ cls := cA, slots := Array.ofFn (fun j : Fin n => Value.int (nA f j.val)), vm := .none } : Cell) = { cls := cA, slots := Array.ofFn (fun j : Fin n => Value.int (nA g j.val)), vm := .none }
  rw [e]
section ZX
variable {p : Program} {l : Launch} {e : Env} {R : Room} {s : State} {m : MethodId} {args : Array Value} {below : List Frame} {meth : Method} {c : Code} {H : Heap} {locs : List Loc} {cells slots : Nat} {Q : State → Prop}
variable {y : MethodName} {bytes cc : ByteArray} {maxL nL mc ms n index : Nat} {ret : Option FieldType} {rm : Room} {own C : String} {b : Nat} {As rest st0 : List Value} {pc : Nat} {ls : Array Slot} {D : va_G} {cA : Nat → ClassId} {wc : va_W}
variable {A0 : Nat → Prop} {wo : va_W}
theorem zx_Vi {post : Int32 → Prop} (S : CallFix p m c cc nL s args zz_tbl own) (hM : Met l y (Cond.code y bytes maxL ret :: zz_tbl) rm (va_Pc (.ref b :: As) (zR D cA wc)) (vp_Si post) 0 0 (fun _ => False)) (hG : GoodIn zz_tbl (wsV own index C y (Cond.code y bytes maxL ret :: zz_tbl)))
    (hd : y.cls = C ∧ y.cls ≠ "java/lang/invoke/MethodHandle" ∧ y.cls ≠ "java/lang/invoke/VarHandle" ∧ (parseMethodDescriptor y.desc).map (fun d => d.parameters.length) = some n) (hrc : rm.cells = 0 ∧ rm.slots = 0) (hR : rm.frames + 1 ≤ R.frames ∧ 8 + (maxL + 11) + rm.locals ≤ R.locals)
    (hK : va_K D zz_cl (zT cA) s) (segs rs : List va_W) (hP : va_P D zz_cl (zfl segs ++ wo) H) (pi : List Nat) (N : Nat) (hN : segs.length = N) (hpi : pi.Perm (List.range N)) (hsp : zfl (pi.map (fun i => segs.getD i [])) = wc ++ zfl rs)
    (ci q0 : Nat) {q : vw_C} {fs : List Value} (hc : zz_cl[ci]? = some q) (he : wc[q0]? = some (b, .inr (ci, fs))) (hq : q.1 = C)
    (hn : As.length = n) (hl : ls.size = nL) (hst : st0 = As.reverse ++ .ref b :: rest) (hW : (rest.map fun v => v.category).sum ≤ 8) (hdg : decode cc pc = .ok (.invokevirtual index, 3))
    (kk : ∀ r : Int32, post r → W p l e R s m args below meth c H locs cells slots Q (F0 m (pc + 3) ls (.int r :: rest))) (h0 : cells ≤ R.cells ∧ slots ≤ R.slots) : W p l e R s m args below meth c H locs cells slots Q (F0 m pc ls st0) := by
  have hp := (zx_perm segs pi (by rw [hN]; exact hpi)).symm
  rw [hsp] at hp
  have hP2 := zx_P (hp.append_right wo) hP
  have hPc : va_P D zz_cl wc H := fun k x hx => hP2 k x (by
    have hk := (List.getElem?_eq_some_iff.mp hx).1
    rw [List.getElem?_append_left (by rw [List.length_append]; omega), List.getElem?_append_left hk]
    exact hx)
  exact zq_Vi S hM hG hd hrc hR hK hPc ci q0 hc he hq hn hl hst hW hdg kk h0
theorem zx_Vwi {σ : Type} {post : Int32 → σ → Prop} {w1 : σ → va_W} (S : CallFix p m c cc nL s args zz_tbl own) (hM : Met l y (Cond.code y bytes maxL ret :: zz_tbl) rm (va_Pc (.ref b :: As) (zB D cA wc H.size)) (va_Qi post (fun u t => zE D (va_A wc H.size) (w1 u) t) (va_A wc H.size)) mc ms (va_A wc H.size)) (hG : GoodIn zz_tbl (wsV own index C y (Cond.code y bytes maxL ret :: zz_tbl)))
    (hd : y.cls = C ∧ y.cls ≠ "java/lang/invoke/MethodHandle" ∧ y.cls ≠ "java/lang/invoke/VarHandle" ∧ (parseMethodDescriptor y.desc).map (fun d => d.parameters.length) = some n) (hrc : rm.cells = mc ∧ rm.slots = ms) (hR : rm.frames + 1 ≤ R.frames ∧ 8 + (maxL + 11) + rm.locals ≤ R.locals)
    (hK : va_K D zz_cl (zT cA) s) (segs rs : List va_W) (hP : va_P D zz_cl (zfl segs ++ wo) H) (hD : va_D A0 (zfl segs ++ wo)) (hS : va_S A0 s.heap H locs) (hA : ∀ q, s.heap.size ≤ q → A0 q) (hZ : zs_all A0 s) (pi : List Nat) (N : Nat) (hN : segs.length = N) (hpi : pi.Perm (List.range N)) (hsp : zfl (pi.map (fun i => segs.getD i [])) = wc ++ zfl rs)
    (segs2 : σ → List va_W) (pj : List Nat) (N2 : Nat) (hN2 : ∀ u, (segs2 u).length = N2) (hpj : pj.Perm (List.range N2)) (hsj : ∀ u, zfl (pj.map (fun i => (segs2 u).getD i [])) = w1 u ++ zfl rs)
    (ci q0 : Nat) {q : vw_C} {fs : List Value} (hc : zz_cl[ci]? = some q) (he : wc[q0]? = some (b, .inr (ci, fs))) (hq : q.1 = C)
    (hn : As.length = n) (hl : ls.size = nL) (hst : st0 = As.reverse ++ .ref b :: rest) (hW : (rest.map fun v => v.category).sum ≤ 8) (hdg : decode cc pc = .ok (.invokevirtual index, 3))
    (kk : ∀ (r : Int32) (u : σ) (H1 : Heap) (locs1 : List Loc), post r u → va_P D zz_cl (zfl (segs2 u) ++ wo) H1 → va_D A0 (zfl (segs2 u) ++ wo) → va_S A0 s.heap H1 locs1 → W p l e R s m args below meth c H1 locs1 (cells + mc) (slots + ms) Q (F0 m (pc + 3) ls (.int r :: rest))) (h0 : cells + mc ≤ R.cells ∧ slots + ms ≤ R.slots) : W p l e R s m args below meth c H locs cells slots Q (F0 m pc ls st0) := by
  have hp := (zx_perm segs pi (by rw [hN]; exact hpi)).symm
  rw [hsp] at hp
  have hp2 := (hp.append_right wo)
  rw [List.append_assoc] at hp2
  have hP2 := zx_P hp2 hP
  have hD2 := zx_D hp2 hD
  obtain ⟨i1, i2, i3⟩ := zx_idx wc (zfl rs ++ wo)
  refine zq_Vwi S hM hG hd hrc hR hK hP2 hD2 hS hA hZ _ _ i1 i2 i3 ci q0 hc he hq hn hl hst hW hdg (fun r u H1 locs1 hpo hP3 hD3 hS3 => ?_) h0
  have hj := zx_perm (segs2 u) pj (by rw [hN2 u]; exact hpj)
  rw [hsj] at hj
  have hj2 : ((zfl rs ++ wo) ++ w1 u).Perm (zfl (segs2 u) ++ wo) := by
    refine List.Perm.trans List.perm_append_comm ?_
    rw [← List.append_assoc]
    exact hj.append_right wo
  exact kk r u H1 locs1 hpo (zx_P hj2 hP3) (zx_D hj2 hD3) hS3
end ZX
