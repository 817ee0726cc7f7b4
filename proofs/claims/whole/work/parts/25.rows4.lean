/-! the grid of LeastPhases: an outer array and 17 rows of 16; a call of Arrays.fill on one cell of a world; static arrays -/
def zg_w (cA : Nat → ClassId) (r : Nat → Nat) (M : Nat → Nat → Nat) : va_W := (List.range 17).map (fun i => (r i, .inl (cA 0, 16, .inl (nA (M i)))))
def zg_o (r : Nat → Nat) : Nat → Option Nat := fun i => if i < 17 then some (r i) else none
theorem zg_get {cA : Nat → ClassId} {r : Nat → Nat} {M : Nat → Nat → Nat} {X : va_W} {i : Nat} (hi : i < 17) : (X ++ zg_w cA r M)[X.length + i]? = some (r i, .inl (cA 0, 16, .inl (nA (M i)))) := by
  rw [List.getElem?_append_right (Nat.le_add_right _ _), Nat.add_sub_cancel_left]
  unfold zg_w
  rw [List.getElem?_map, List.getElem?_range hi]
  rfl
theorem zg_set {cA : Nat → ClassId} {r : Nat → Nat} {M : Nat → Nat → Nat} {X : va_W} {i : Nat} (hi : i < 17) (f : Nat → Nat) : (X ++ zg_w cA r M).set (X.length + i) (r i, .inl (cA 0, 16, .inl (nA f))) = X ++ zg_w cA r (va_up M i f) := by
  rw [List.set_append_right _ _ (Nat.le_add_right _ _), Nat.add_sub_cancel_left]
  congr 1
  unfold zg_w
  apply List.ext_getElem?
  intro k
  by_cases e : k = i
  · subst e
    rw [List.getElem?_set_self (by simpa using hi), List.getElem?_map, List.getElem?_range hi]
    simp [va_up_self]
  · rw [List.getElem?_set_ne (Ne.symm e), List.getElem?_map, List.getElem?_map]
    by_cases hk : k < 17
    · rw [List.getElem?_range hk]
      simp [va_up_ne _ _ e]
    · rw [List.getElem?_eq_none (by simpa using hk)]
      rfl
section ZG
variable {p : Program} {l : Launch} {e : Env} {R : Room} {s : State} {m : MethodId} {args : Array Value} {below : List Frame} {meth : Method} {c : Code} {H : Heap} {locs : List Loc} {cells slots : Nat} {Q : State → Prop}
variable {cc : ByteArray} {pc : Nat} {ls : Array Slot} {rest : List Value} {D : va_G} {A : Nat → Prop} {a : Nat} {X ws : va_W} {H0 : Heap} {cA : Nat → ClassId} {r : Nat → Nat} {M : Nat → Nat → Nat}
theorem zg_iald (hexec : p.tables.exec = Jvm.exec) (hb : c.code = cc) (hK : va_K D zz_cl (zT cA) s) (hP : va_P D zz_cl (X ++ zg_w cA r M) H) {i k : Nat} (hi : i < 17) (hk : k < 16) (hdg : decode cc pc = .ok (.iaload, 1))
    (kk : W p l e R s m args below meth c H locs cells slots Q (F0 m (pc + 1) ls (.int (nI (M i k)) :: rest))) : W p l e R s m args below meth c H locs cells slots Q (F0 m pc ls (.int (nI k) :: .ref (r i) :: rest)) :=
  zv_iald hexec hb hK hP (X.length + i) 0 (zg_get hi) rfl hk (by decide) hdg kk
theorem zg_iast (hexec : p.tables.exec = Jvm.exec) (hb : c.code = cc) (hK : va_K D zz_cl (zT cA) s) (hP : va_P D zz_cl (X ++ zg_w cA r M) H) (hD : va_D A (X ++ zg_w cA r M)) (hS : va_S A H0 H locs) {i k v : Nat} (hi : i < 17) (hk : k < 16) (hdg : decode cc pc = .ok (.iastore, 1))
    (kk : ∀ (H1 : Heap) (locs1 : List Loc), va_P D zz_cl (X ++ zg_w cA r (va_up M i (va_up (M i) k v))) H1 → va_D A (X ++ zg_w cA r (va_up M i (va_up (M i) k v))) → va_S A H0 H1 locs1 → W p l e R s m args below meth c H1 locs1 cells slots Q (F0 m (pc + 1) ls rest)) : W p l e R s m args below meth c H locs cells slots Q (F0 m pc ls (.int (nI v) :: .int (nI k) :: .ref (r i) :: rest)) := by
  refine zv_iast hexec hb hK hP hD hS (X.length + i) 0 (zg_get hi) rfl hk (by decide) hdg (fun H1 l1 p1 d1 s1 => ?_)
  rw [zg_set hi] at p1 d1
  exact kk H1 l1 p1 d1 s1
theorem zg_aald (hexec : p.tables.exec = Jvm.exec) (hb : c.code = cc) (hK : va_K D zz_cl (zT cA) s) (hP : va_P D zz_cl ws H) (q0 : Nat) (ha : ws[q0]? = some (a, .inl (cA 4, 17, .inr (.inr (.inr (.inr (zg_o r))))))) {i : Nat} (hi : i < 17) (hdg : decode cc pc = .ok (.aaload, 1))
    (kk : W p l e R s m args below meth c H locs cells slots Q (F0 m (pc + 1) ls (.ref (r i) :: rest))) : W p l e R s m args below meth c H locs cells slots Q (F0 m pc ls (.int (nI i) :: .ref a :: rest)) := by
  have ec : (nI i).toNatClampNeg = i := nI_clamp (by omega)
  refine W.aald (v := .ref (r i)) (ty := .array .int) hexec hb (hP q0 _ ha) ((hK.2 4 _ rfl).1 17 (fun j => va_rf (zg_o r j))) rfl (fun q => by cases q) (by show ¬ (nI i < 0 ∨ (arrV _ _ _).slots.size ≤ _); rw [arrV_size]; exact vp_in_nI (N := 17) hi (by decide)) ?_ rfl rfl hdg kk
  show (arrV _ _ _).slots[_]? = _
  rw [ec, arrV_read _ _ hi]
  simp [zg_o, hi, va_rf]
/-- Arrays.fill on one cell, wherever it stands in the world -/
theorem zq_fill {own : String} {nL index k0 x : Nat} {f : Nat → Nat} (S : CallFix p m c cc nL s args zz_tbl own) (hG : GoodIn zz_tbl (va_wsS own index jd_y_fill jd_w_fill)) (hR : 1 ≤ R.frames ∧ 23 ≤ R.locals)
    (hK : va_K D zz_cl (zT cA) s) (hP : va_P D zz_cl ws H) (hD : va_D A ws) (hS : va_S A s.heap H locs) (hA : ∀ q, s.heap.size ≤ q → A q) (hZ : zs_all A s) (q0 : Nat) (ha : ws[q0]? = some (a, .inl (cA 0, k0, .inl (nA f)))) (hk0 : k0 < 2 ^ 31)
    (hl : ls.size = nL) (hW : (rest.map fun v => v.category).sum ≤ 8) (hdg : decode cc pc = .ok (.invokestatic index, 3))
    (kk : ∀ (u : Nat → Nat) (H1 : Heap) (locs1 : List Loc), (∀ j, u j = if j < k0 then x else f j) → va_P D zz_cl (ws.set q0 (a, .inl (cA 0, k0, .inl (nA u)))) H1 → va_D A (ws.set q0 (a, .inl (cA 0, k0, .inl (nA u)))) → va_S A s.heap H1 locs1 → W p l e R s m args below meth c H1 locs1 cells slots Q (F0 m (pc + 3) ls rest)) (h0 : cells ≤ R.cells ∧ slots ≤ R.slots) : W p l e R s m args below meth c H locs cells slots Q (F0 m pc ls (.int (nI x) :: .ref a :: rest)) := by
  obtain ⟨dC, dI⟩ := D
  have hDc : va_D A [(a, .inl (cA 0, k0, .inl (nA f)))] := hD.sub [q0] rfl (by simp [ha])
  have hPc : va_P (dC, dI) zz_cl [(a, .inl (cA 0, k0, .inl (nA f)))] H := fun k y hy => by
    have h1 : k < 1 := (List.getElem?_eq_some_iff.mp hy).1
    rw [show k = 0 by omega] at hy
    cases hy
    exact hP q0 _ ha
  have hF : ∀ q, va_A [(a, .inl (cA 0, k0, .inl (nA f)))] H.size q → A q := va_free hD hS hA [q0] (by simp [ha])
  refine va_callv (va_runS (As := [.ref a, .int (nI x)]) (rest := rest) S (jd_fill l dC dI cA H.size a k0 x f hk0) (va_cwS 2 S.2.2.2.2 hG rfl rfl rfl (by decide +kernel) hR) ⟨zB_bl, fun U hU hW => ⟨rfl, by rw [hU], by rw [hU]; exact hPc, va_K.moved hW.alike hK, hDc.weaken (fun _ _ _ _ => trivial), zs_move hZ (by rw [hU]; exact hS) hF hW.alike⟩⟩ rfl rfl hl rfl (by show 2 * 0 + _ ≤ 8; omega) hdg h0) hS (fun q _ h => hF q h) hF (fun u t H1 locs ht hvm hw hB hz1 hk1 hS => ?_)
  obtain ⟨hP1, hD1⟩ := hB
  rw [ht] at hP1
  refine kk u H1 locs hw (fun k y hy => ?_) (hD.set ha) hS
  have hlen := (List.getElem?_eq_some_iff.mp ha).1
  by_cases hkp : k = q0
  · subst hkp
    rw [List.getElem?_set_self hlen] at hy
    cases hy
    exact hP1 0 _ rfl
  · rw [List.getElem?_set_ne (Ne.symm hkp)] at hy
    refine (hP k y hy).kept (hk1 y.1 ((hP k y hy).lt) (fun z => ?_))
    rcases z with ⟨k2, e2, h2⟩ | h2
    · have h1 : k2 < 1 := (List.getElem?_eq_some_iff.mp h2).1
      rw [show k2 = 0 by omega] at h2
      have e3 : a = y.1 := congrArg Prod.fst (Option.some.inj h2)
      exact hkp (hD.1 k q0 y _ hy ha e3.symm)
    · exact absurd (hP k y hy).lt (by omega)
/-- a static array: its reference, then an element -/
theorem zs_get (hexec : p.tables.exec = Jvm.exec) (hb : c.code = cc) {C n own : String} {N index : Nat} {g : Nat → Nat} (hZ : zs_one C n N g A s) (hS : va_S A s.heap H locs) (hown : s.vm.findClass own = some m.cls) (hlink : (Cond.fieldLink own index C n "[I").before args s = true) (hdg : decode cc pc = .ok (.getstatic index, 3))
    (kk : ∀ t : Nat, va_T .int t N (fun j => .int (nI (g j))) A s s.heap → W p l e R s m args below meth c H locs cells slots Q (F0 m (pc + 3) ls (.ref t :: rest))) : W p l e R s m args below meth c H locs cells slots Q (F0 m pc ls rest) := by
  obtain ⟨t, h1, h2⟩ := hZ
  exact va_gets hexec hb h1 hS hown hlink (fun _ h => h) hdg (kk t h2)
theorem zs_ald (hexec : p.tables.exec = Jvm.exec) (hb : c.code = cc) {t N k : Nat} {g : Nat → Nat} (hT : va_T .int t N (fun j => .int (nI (g j))) A s s.heap) (hS : va_S A s.heap H locs) (hk : k < N) (hN : N < 2 ^ 31) (hdg : decode cc pc = .ok (.iaload, 1))
    (kk : W p l e R s m args below meth c H locs cells slots Q (F0 m (pc + 1) ls (.int (nI (g k)) :: rest))) : W p l e R s m args below meth c H locs cells slots Q (F0 m pc ls (.int (nI k) :: .ref t :: rest)) :=
  va_ti hexec hb hT hS (vp_in_nI hk hN) (by rw [nI_clamp (by omega)]) hdg kk
end ZG
theorem zm_min (a b : Nat) (ha : a < 2 ^ 31) (hb : b < 2 ^ 31) : (if nI b < nI a then nI b else nI a) = nI (min a b) := by
  by_cases h : b < a
  · rw [if_pos (nI_lt h ha), Nat.min_eq_right (by omega)]
  · rw [if_neg (nI_nlt (by omega) hb), Nat.min_eq_left (by omega)]
theorem zm_cpy (f g : Nat → Nat) (n : Nat) : va_cpy (nA f) (nA g) 0 0 n = nA (fun k => if k < n then f k else g k) := by
  funext k
  simp only [va_cpy, nA]
  by_cases h : k < n
  · rw [if_pos (by omega), if_pos h]
    simp
  · rw [if_neg (by omega), if_neg h]
