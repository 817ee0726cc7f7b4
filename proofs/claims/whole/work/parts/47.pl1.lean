/-! what least, settle, network and total answer -/
def zl_no (n : Nat) (x : Int32) : Prop := x ≠ 0 ∧ x ≠ nI 1 ∧ ∀ j, 1 ≤ j → j ≤ 2 ^ n - 1 → x ≠ nI (100 + j)
def zl_ans (n : Nat) (be : Nat → Nat) (od fi : Nat) (x r : Int32) : Prop := (x = 0 ∧ r = nI od) ∨ (x = nI 1 ∧ r = nI fi) ∨ (∃ j, 1 ≤ j ∧ j ≤ 2 ^ n - 1 ∧ x = nI (100 + j) ∧ r = nI (be j)) ∨ (zl_no n x ∧ r = (-1))
theorem zl_100 {x : Int32} {j : Nat} (h : x - nI 100 = nI j) : x = nI (100 + j) := by
  have : x = nI j + nI 100 := by rw [← h, Int32.sub_add_cancel]
  rw [this, nI_add, Nat.add_comm]
theorem zl_no_le {n : Nat} {x : Int32} (h0 : ¬ x = 0) (h1 : ¬ x = nI 1) (h : x ≤ nI 100) (hn : 2 ^ n - 1 < 1000) : zl_no n x := by
  refine ⟨h0, h1, fun j a b e => ?_⟩
  rw [e] at h
  exact nI_ge (a := 100) (b := 100 + j) (by omega) (by omega) h
theorem zl_no_pa {n : Nat} {x : Int32} (h0 : ¬ x = 0) (h1 : ¬ x = nI 1) (h : ¬ zw_pa (2 ^ n - 1) (x - nI 100)) : zl_no n x := by
  refine ⟨h0, h1, fun j a b e => h ⟨j, a, b, ?_⟩⟩
  rw [e, ← nI_add, Int32.add_comm, Int32.add_sub_cancel]
def zc_dif (ph be : Nat → Nat) : Nat → Nat
  | 0 => 0
  | k + 1 => zc_dif ph be k + (if ph (k + 1) = be (k + 1) then 0 else 1)
theorem zc_dif0 {ph be : Nat → Nat} {k : Nat} (h : ph (k + 1) = be (k + 1)) : zc_dif ph be (k + 1) = zc_dif ph be k := by
  simp only [zc_dif]
  rw [if_pos h]
  omega
theorem zc_dif1 {ph be : Nat → Nat} {k : Nat} (h : ¬ ph (k + 1) = be (k + 1)) : zc_dif ph be (k + 1) = zc_dif ph be k + 1 := by
  simp only [zc_dif]
  rw [if_neg h]
theorem zc_set0 {ph be pc : Nat → Nat} {i : Nat} (h : ∀ j, pc j = if 1 ≤ j ∧ j ≤ i then be j else ph j) (e : ph (i + 1) = be (i + 1)) : ∀ j, pc j = if 1 ≤ j ∧ j ≤ i + 1 then be j else ph j := by
  intro j
  rw [h j]
  by_cases q : j = i + 1
  · subst q
    rw [if_neg (by omega), if_pos (by omega), e]
  · by_cases c : 1 ≤ j ∧ j ≤ i
    · rw [if_pos c, if_pos (by omega)]
    · rw [if_neg c, if_neg (by omega)]
theorem zc_set1 {ph be pc : Nat → Nat} {i : Nat} (h : ∀ j, pc j = if 1 ≤ j ∧ j ≤ i then be j else ph j) : ∀ j, va_up pc (i + 1) (be (i + 1)) j = if 1 ≤ j ∧ j ≤ i + 1 then be j else ph j := by
  intro j
  by_cases q : j = i + 1
  · subst q
    rw [va_up_self, if_pos (by omega)]
  · rw [va_up_ne _ _ q, h j]
    by_cases c : 1 ≤ j ∧ j ≤ i
    · rw [if_pos c, if_pos (by omega)]
    · rw [if_neg c, if_neg (by omega)]
def zc_need (be : Nat → Nat) : Nat → Nat
  | 0 => 0
  | k + 1 => if be (k + 1) = 0 then zc_need be k else zc_need be k ||| 2 ^ k
theorem zc_need0 {be : Nat → Nat} {k : Nat} (h : be (k + 1) = 0) : zc_need be (k + 1) = zc_need be k := by
  simp only [zc_need]
  rw [if_pos h]
theorem zc_need1 {be : Nat → Nat} {k : Nat} (h : 0 < be (k + 1)) : zc_need be (k + 1) = zc_need be k ||| 2 ^ k := by
  simp only [zc_need]
  rw [if_neg (by omega)]
def zt_ans (n a b w : Nat) (x r : Int32) : Prop := (x = nI 0 ∧ r = nI n) ∨ (x = nI 1 ∧ r = nI a) ∨ (x = nI 2 ∧ r = nI b) ∨ (x = nI 3 ∧ r = nI w) ∨ ((x ≠ nI 0 ∧ x ≠ nI 1 ∧ x ≠ nI 2 ∧ x ≠ nI 3) ∧ r = (-1))
theorem zt_03 (x : Int32) : x = nI 0 ∨ x = nI 1 ∨ x = nI 2 ∨ x = nI 3 ∨ ((x ≠ nI 0 ∧ x ≠ nI 1 ∧ x ≠ nI 2 ∧ x ≠ nI 3) ∧ (x.toInt < 0 ∨ 3 < x.toInt)) := by
  rcases pk_ix x (n := 4) (by decide) with h | h | ⟨j, hj, rfl⟩
  · refine Or.inr (Or.inr (Or.inr (Or.inr ⟨?_, ?_⟩)))
    · have q := zw_neg (n := 4) (by decide) h
      exact ⟨fun e => q ⟨0, by decide, e⟩, fun e => q ⟨1, by decide, e⟩, fun e => q ⟨2, by decide, e⟩, fun e => q ⟨3, by decide, e⟩⟩
    · rw [Int32.lt_iff_toInt_lt, Int32.toInt_zero] at h
      exact Or.inl h
  · refine Or.inr (Or.inr (Or.inr (Or.inr ⟨?_, ?_⟩)))
    · have q := zw_big (n := 4) (by decide) h
      exact ⟨fun e => q ⟨0, by decide, e⟩, fun e => q ⟨1, by decide, e⟩, fun e => q ⟨2, by decide, e⟩, fun e => q ⟨3, by decide, e⟩⟩
    · rw [Int32.le_iff_toInt_le, nI_toInt (by decide)] at h
      exact Or.inr (by omega)
  · rcases (show j = 0 ∨ j = 1 ∨ j = 2 ∨ j = 3 by omega) with rfl | rfl | rfl | rfl
    · exact Or.inl rfl
    · exact Or.inr (Or.inl rfl)
    · exact Or.inr (Or.inr (Or.inl rfl))
    · exact Or.inr (Or.inr (Or.inr (Or.inl rfl)))
set_option maxHeartbeats 4000000 in
set_option maxRecDepth 100000 in
/-- least(x) -/
theorem pc_least (l : Launch) (dC : Nat → ClassId) (dI : Nat → Nat → Nat) (cA : Nat → ClassId) (sz : Nat) (o a1 a2 o3 a4 b1 t1 g1 n lk od fi la0 : Nat) (li ne : Int32) (ph be tr rr : Nat → Nat) (M : Nat → Nat → Nat) (x : Int32) (hn1 : 1 ≤ n) (hn : n ≤ 4) (hlk : lk ≤ 1) (hph : ∀ j, ph j < 8) (hbe : ∀ j, be j < 8) (htr : ∀ j, tr j < 8) (hkn : lk = 1 → zk_known n ph be od fi) : Met l pc_y_least pc_w_least ({ frames := 5, cells := 0, slots := 0, locals := 134 }) (va_Pc [.ref o, .int x] (zB (dC, dI) cA ([(o, .inr (2, [.ref a1, .ref a2, .ref o3, .ref a4, .int (nI n), .int (nI lk), .int li, .int ne])), (a2, .inl (cA 0, 16, .inl (nA ph))), (o3, .inr (0, [.ref b1, .int (nI od), .int (nI fi), .ref t1, .ref g1, .int (nI la0)])), (b1, .inl (cA 0, 16, .inl (nA be))), (t1, .inl (cA 0, 16, .inl (nA tr))), (g1, .inl (cA 4, 17, .inr (.inr (.inr (.inr (zg_o rr))))))] ++ zg_w cA rr M) sz)) (va_Qi (fun (r : Int32) (u : ((Nat → Nat) × (Nat → Nat) × (Nat → Nat → Nat) × Nat × Nat × Nat) × Nat) => (∀ j, u.1.1 j < 8) ∧ (∀ j, u.1.2.1 j < 8) ∧ u.2 ≤ 1 ∧ (u.2 = 1 → zk_known n ph u.1.1 u.1.2.2.2.1 u.1.2.2.2.2.1) ∧ ((u.2 = 1 ∧ zl_ans n u.1.1 u.1.2.2.2.1 u.1.2.2.2.2.1 x r) ∨ (zl_no n x ∧ r = (-1)))) (fun u t => zE (dC, dI) (va_A ([(o, .inr (2, [.ref a1, .ref a2, .ref o3, .ref a4, .int (nI n), .int (nI lk), .int li, .int ne])), (a2, .inl (cA 0, 16, .inl (nA ph))), (o3, .inr (0, [.ref b1, .int (nI od), .int (nI fi), .ref t1, .ref g1, .int (nI la0)])), (b1, .inl (cA 0, 16, .inl (nA be))), (t1, .inl (cA 0, 16, .inl (nA tr))), (g1, .inl (cA 4, 17, .inr (.inr (.inr (.inr (zg_o rr))))))] ++ zg_w cA rr M) sz) ((fun (u : ((Nat → Nat) × (Nat → Nat) × (Nat → Nat → Nat) × Nat × Nat × Nat) × Nat) => ([(o, .inr (2, [.ref a1, .ref a2, .ref o3, .ref a4, .int (nI n), .int (nI u.2), .int li, .int ne])), (a2, .inl (cA 0, 16, .inl (nA ph))), (o3, .inr (0, [.ref b1, .int (nI u.1.2.2.2.1), .int (nI u.1.2.2.2.2.1), .ref t1, .ref g1, .int (nI u.1.2.2.2.2.2)])), (b1, .inl (cA 0, 16, .inl (nA u.1.1))), (t1, .inl (cA 0, 16, .inl (nA u.1.2.1))), (g1, .inl (cA 4, 17, .inr (.inr (.inr (.inr (zg_o rr))))))] ++ zg_w cA rr u.1.2.2.1)) u) t) (va_A ([(o, .inr (2, [.ref a1, .ref a2, .ref o3, .ref a4, .int (nI n), .int (nI lk), .int li, .int ne])), (a2, .inl (cA 0, 16, .inl (nA ph))), (o3, .inr (0, [.ref b1, .int (nI od), .int (nI fi), .ref t1, .ref g1, .int (nI la0)])), (b1, .inl (cA 0, 16, .inl (nA be))), (t1, .inl (cA 0, 16, .inl (nA tr))), (g1, .inl (cA 4, 17, .inr (.inr (.inr (.inr (zg_o rr))))))] ++ zg_w cA rr M) sz)) 0 0 (va_A ([(o, .inr (2, [.ref a1, .ref a2, .ref o3, .ref a4, .int (nI n), .int (nI lk), .int li, .int ne])), (a2, .inl (cA 0, 16, .inl (nA ph))), (o3, .inr (0, [.ref b1, .int (nI od), .int (nI fi), .ref t1, .ref g1, .int (nI la0)])), (b1, .inl (cA 0, 16, .inl (nA be))), (t1, .inl (cA 0, 16, .inl (nA tr))), (g1, .inl (cA 4, 17, .inr (.inr (.inr (.inr (zg_o rr))))))] ++ zg_w cA rr M) sz) := by
  refine Met.ofW (cc := pc_c_least) (maxL := 2) (ret := (some .int)) (by decide) rfl ?_
  intro p e s m args below meth c s₁ B hml hv
  obtain ⟨rfl, hsz, hP, hK, hD0, hZ⟩ := hv
  have hx := B.exec
  have hb := B.bytes
  have hr := B.returns
  have hts0 := atoms_spec (ws := pc_w_least) B.pre
  have hts : ∀ w ∈ zz_tbl, w.before _ s = true := fun w h => hts0 w (List.mem_cons_of_mem _ h)
  have hown : s.vm.findClass pc_R = some m.cls := findClass_of_methodNamed B.named
  have hlocks := B.notSynchronized
  subst hsz
  have hD := hD0.self (sz := s.heap.size)
  generalize hAe : va_A ([(o, .inr (2, [.ref a1, .ref a2, .ref o3, .ref a4, .int (nI n), .int (nI lk), .int li, .int ne])), (a2, .inl (cA 0, 16, .inl (nA ph))), (o3, .inr (0, [.ref b1, .int (nI od), .int (nI fi), .ref t1, .ref g1, .int (nI la0)])), (b1, .inl (cA 0, 16, .inl (nA be))), (t1, .inl (cA 0, 16, .inl (nA tr))), (g1, .inl (cA 4, 17, .inr (.inr (.inr (.inr (zg_o rr))))))] ++ zg_w cA rr M) s.heap.size = A at hD hZ ⊢
  have hA : ∀ q : Nat, s.heap.size ≤ q → A q := fun q h => by rw [← hAe]; exact Or.inr h
  have hS : va_S A s.heap s.heap [] := va_S.rf
  have hP : va_P (dC, dI) zz_cl ([(o, .inr (2, [.ref a1, .ref a2, .ref o3, .ref a4, .int (nI n), .int (nI lk), .int li, .int ne])), (a2, .inl (cA 0, 16, .inl (nA ph))), (o3, .inr (0, [.ref b1, .int (nI od), .int (nI fi), .ref t1, .ref g1, .int (nI la0)])), (b1, .inl (cA 0, 16, .inl (nA be))), (t1, .inl (cA 0, 16, .inl (nA tr))), (g1, .inl (cA 4, 17, .inr (.inr (.inr (.inr (zg_o rr))))))] ++ zg_w cA rr M) s.heap := hP
  have hl := lv_entry ([.ref o, .int x]) (n := 2) (Nat.le_of_ble_eq_true rfl)
  rw [lg_entry_eq]
  generalize (lg_sl ([.ref o, .int x]) ++ List.replicate (2 - (lg_sl ([.ref o, .int x])).length) Slot.unset).toArray = ls at hl ⊢
  have hl : lv_has ls 2 [(0, .ref o), (1, .int x)] := hl
  have hpow : 0 < 2 ^ n := Nat.two_pow_pos n
  have hpow2 : 2 ^ n ≤ 2 ^ 4 := Nat.pow_le_pow_right (by decide) hn
  refine lv_iload_n hx hb pc_d_least_0 rfl (lv_at hl 1 rfl) ?_
  refine lv_if_ne (tgt := 12) hx hb pc_d_least_1 (by decide) (fun c_1 => ?_) (fun c_1 => ?_)
  · refine lv_iload_n hx hb pc_d_least_12 rfl (lv_at hl 1 rfl) ?_
    refine lv_iconst (v := (nI 1)) hx hb pc_d_least_13 (by decide) ?_
    refine lv_icmp_ne (tgt := 25) hx hb pc_d_least_14 (by decide) (fun c_2 => ?_) (fun c_2 => ?_)
    · refine lv_iload_n hx hb pc_d_least_25 rfl (lv_at hl 1 rfl) ?_
      refine lv_bipush (v := (nI 100)) hx hb pc_d_least_26 (by decide) ?_
      refine lv_icmp_le (tgt := 55) hx hb pc_d_least_28 (by decide) (fun c_3 => ?_) (fun c_3 => ?_)
      · refine lv_iconst (v := (-1)) hx hb pc_d_least_55 (by decide) ?_
        have hP9 := hP.sub (ws' := ([(o, .inr (2, [.ref a1, .ref a2, .ref o3, .ref a4, .int (nI n), .int (nI lk), .int li, .int ne])), (a2, .inl (cA 0, 16, .inl (nA ph))), (o3, .inr (0, [.ref b1, .int (nI od), .int (nI fi), .ref t1, .ref g1, .int (nI la0)])), (b1, .inl (cA 0, 16, .inl (nA be))), (t1, .inl (cA 0, 16, .inl (nA tr))), (g1, .inl (cA 4, 17, .inr (.inr (.inr (.inr (zg_o rr))))))] ++ zg_w cA rr M)) [0, 1, 2, 3, 4, 5, 6, 7, 8, 9, 10, 11, 12, 13, 14, 15, 16, 17, 18, 19, 20, 21, 22] rfl
        have hD9 := hD.sub (ws' := ([(o, .inr (2, [.ref a1, .ref a2, .ref o3, .ref a4, .int (nI n), .int (nI lk), .int li, .int ne])), (a2, .inl (cA 0, 16, .inl (nA ph))), (o3, .inr (0, [.ref b1, .int (nI od), .int (nI fi), .ref t1, .ref g1, .int (nI la0)])), (b1, .inl (cA 0, 16, .inl (nA be))), (t1, .inl (cA 0, 16, .inl (nA tr))), (g1, .inl (cA 4, 17, .inr (.inr (.inr (.inr (zg_o rr))))))] ++ zg_w cA rr M)) [0, 1, 2, 3, 4, 5, 6, 7, 8, 9, 10, 11, 12, 13, 14, 15, 16, 17, 18, 19, 20, 21, 22] (by decide) rfl
        exact W.iret (v := (-1)) hx hb hr (fun t ht hW => ⟨⟨(-1), ((be, tr, M, od, fi, la0), lk), rfl, ⟨hbe, htr, hlk, hkn, Or.inr ⟨zl_no_le c_1 c_2 c_3 (by omega), rfl⟩⟩, by rw [ht]; exact hP9, hD9⟩, hS.F ht⟩) hS.2.2 pc_d_least_56
      · refine lv_aload_n hx hb pc_d_least_31 rfl (lv_at hl 0 rfl) ?_
        refine lv_iload_n hx hb pc_d_least_32 rfl (lv_at hl 1 rfl) ?_
        refine lv_bipush (v := (nI 100)) hx hb pc_d_least_33 (by decide) ?_
        refine lv_isub hx hb pc_d_least_35 ?_
        refine zq_Vi (n := 1) (As := [.int (x - (nI 100))]) (rest := []) ⟨hx, hb, hml, hown, hts⟩ (pc_isParity l dC dI cA o a1 a2 o3 a4 n lk li ne (x - (nI 100)) (by omega)) zg_pc52 (by decide +kernel) ⟨rfl, rfl⟩ ⟨Nat.le_of_ble_eq_true rfl, Nat.le_of_ble_eq_true rfl⟩ hK (hP.sub (ws' := [(o, .inr (2, [.ref a1, .ref a2, .ref o3, .ref a4, .int (nI n), .int (nI lk), .int li, .int ne]))]) [0] rfl) 2 0 rfl rfl rfl rfl hl.1 rfl (Nat.le_of_ble_eq_true rfl) pc_d_least_36 (fun r_4 h_5 => ?_) ⟨Nat.le_of_ble_eq_true rfl, Nat.le_of_ble_eq_true rfl⟩
        rcases h_5 with ⟨⟨jp_6, hjp_6a, hjp_6b, hjp_6c⟩, rfl⟩ | ⟨hnjp_6, rfl⟩
        · refine zi_eq (tgt := 55) hx hb pc_d_least_39 (by decide) (by omega) (fun c_7 => absurd c_7 (by omega)) (fun c_7 => ?_)
          refine lv_aload_n hx hb pc_d_least_42 rfl (lv_at hl 0 rfl) ?_
          refine zq_Vwr (ra := fun _ => o3) (n := 0) (As := []) (rest := []) (wc := ([(o, .inr (2, [.ref a1, .ref a2, .ref o3, .ref a4, .int (nI n), .int (nI lk), .int li, .int ne])), (a2, .inl (cA 0, 16, .inl (nA ph))), (o3, .inr (0, [.ref b1, .int (nI od), .int (nI fi), .ref t1, .ref g1, .int (nI la0)])), (b1, .inl (cA 0, 16, .inl (nA be))), (t1, .inl (cA 0, 16, .inl (nA tr))), (g1, .inl (cA 4, 17, .inr (.inr (.inr (.inr (zg_o rr))))))] ++ zg_w cA rr M)) (wr := []) ⟨hx, hb, hml, hown, hts⟩ (pc_knownLeast l dC dI cA _ o a1 a2 o3 a4 b1 t1 g1 n lk od fi la0 li ne ph be tr rr M hn1 hn hlk hph hbe htr hkn) zg_pc65 (by decide +kernel) ⟨rfl, rfl⟩ ⟨Nat.le_of_ble_eq_true rfl, Nat.le_of_ble_eq_true rfl⟩ hK hP hD hS hA hZ [0, 1, 2, 3, 4, 5, 6, 7, 8, 9, 10, 11, 12, 13, 14, 15, 16, 17, 18, 19, 20, 21, 22] [] rfl rfl (by decide) 2 0 rfl rfl rfl rfl hl.1 rfl (Nat.le_of_ble_eq_true rfl) pc_d_least_43 (fun u_10 H locs h_9 hP hD hS => ?_) ⟨Nat.le_of_ble_eq_true rfl, Nat.le_of_ble_eq_true rfl⟩
          obtain ⟨be10, tr10, M10, od10, fi10, la10⟩ := u_10
          obtain ⟨lb10, lt10, lz10⟩ := h_9
          try dsimp only at lb10 lt10 lz10
          have hP : va_P (dC, dI) zz_cl ([(o, .inr (2, [.ref a1, .ref a2, .ref o3, .ref a4, .int (nI n), .int (nI 1), .int li, .int ne])), (a2, .inl (cA 0, 16, .inl (nA ph))), (o3, .inr (0, [.ref b1, .int (nI od10), .int (nI fi10), .ref t1, .ref g1, .int (nI la10)])), (b1, .inl (cA 0, 16, .inl (nA be10))), (t1, .inl (cA 0, 16, .inl (nA tr10))), (g1, .inl (cA 4, 17, .inr (.inr (.inr (.inr (zg_o rr))))))] ++ zg_w cA rr M10) H := hP
          have hD : va_D A ([(o, .inr (2, [.ref a1, .ref a2, .ref o3, .ref a4, .int (nI n), .int (nI 1), .int li, .int ne])), (a2, .inl (cA 0, 16, .inl (nA ph))), (o3, .inr (0, [.ref b1, .int (nI od10), .int (nI fi10), .ref t1, .ref g1, .int (nI la10)])), (b1, .inl (cA 0, 16, .inl (nA be10))), (t1, .inl (cA 0, 16, .inl (nA tr10))), (g1, .inl (cA 4, 17, .inr (.inr (.inr (.inr (zg_o rr))))))] ++ zg_w cA rr M10) := hD
          refine va_get (D := (dC, dI)) (ci := 0) (v := .ref b1) (C := lp_R) (T := lp_T) (N := 6) hx hb hts lp_in hown hK hP 2 rfl rfl 0 (by decide) (hts _ zk_pc75) (fun _ h9 => h9) rfl pc_d_least_46 ?_
          refine lv_iload_n hx hb pc_d_least_49 rfl (lv_at hl 1 rfl) ?_
          refine lv_bipush (v := (nI 100)) hx hb pc_d_least_50 (by decide) ?_
          refine lv_isub hx hb pc_d_least_52 ?_
          refine zt_i hjp_6c ?_
          refine zv_iald hx hb hK hP 3 0 rfl rfl (k := jp_6) (by omega) (by omega) pc_d_least_53 ?_
          have hP9 := hP.sub (ws' := ([(o, .inr (2, [.ref a1, .ref a2, .ref o3, .ref a4, .int (nI n), .int (nI 1), .int li, .int ne])), (a2, .inl (cA 0, 16, .inl (nA ph))), (o3, .inr (0, [.ref b1, .int (nI od10), .int (nI fi10), .ref t1, .ref g1, .int (nI la10)])), (b1, .inl (cA 0, 16, .inl (nA be10))), (t1, .inl (cA 0, 16, .inl (nA tr10))), (g1, .inl (cA 4, 17, .inr (.inr (.inr (.inr (zg_o rr))))))] ++ zg_w cA rr M10)) [0, 1, 2, 3, 4, 5, 6, 7, 8, 9, 10, 11, 12, 13, 14, 15, 16, 17, 18, 19, 20, 21, 22] rfl
          have hD9 := hD.sub (ws' := ([(o, .inr (2, [.ref a1, .ref a2, .ref o3, .ref a4, .int (nI n), .int (nI 1), .int li, .int ne])), (a2, .inl (cA 0, 16, .inl (nA ph))), (o3, .inr (0, [.ref b1, .int (nI od10), .int (nI fi10), .ref t1, .ref g1, .int (nI la10)])), (b1, .inl (cA 0, 16, .inl (nA be10))), (t1, .inl (cA 0, 16, .inl (nA tr10))), (g1, .inl (cA 4, 17, .inr (.inr (.inr (.inr (zg_o rr))))))] ++ zg_w cA rr M10)) [0, 1, 2, 3, 4, 5, 6, 7, 8, 9, 10, 11, 12, 13, 14, 15, 16, 17, 18, 19, 20, 21, 22] (by decide) rfl
          exact W.iret (v := (nI (be10 jp_6))) hx hb hr (fun t ht hW => ⟨⟨(nI (be10 jp_6)), ((be10, tr10, M10, od10, fi10, la10), 1), rfl, ⟨lb10, lt10, Nat.le_refl _, fun _ => lz10, Or.inl ⟨rfl, Or.inr (Or.inr (Or.inl ⟨jp_6, hjp_6a, hjp_6b, zl_100 hjp_6c, rfl⟩))⟩⟩, by rw [ht]; exact hP9, hD9⟩, hS.F ht⟩) hS.2.2 pc_d_least_54
        · refine zi_eq (tgt := 55) hx hb pc_d_least_39 (by decide) (by omega) (fun c_11 => ?_) (fun c_11 => absurd c_11 (by omega))
          refine lv_iconst (v := (-1)) hx hb pc_d_least_55 (by decide) ?_
          have hP9 := hP.sub (ws' := ([(o, .inr (2, [.ref a1, .ref a2, .ref o3, .ref a4, .int (nI n), .int (nI lk), .int li, .int ne])), (a2, .inl (cA 0, 16, .inl (nA ph))), (o3, .inr (0, [.ref b1, .int (nI od), .int (nI fi), .ref t1, .ref g1, .int (nI la0)])), (b1, .inl (cA 0, 16, .inl (nA be))), (t1, .inl (cA 0, 16, .inl (nA tr))), (g1, .inl (cA 4, 17, .inr (.inr (.inr (.inr (zg_o rr))))))] ++ zg_w cA rr M)) [0, 1, 2, 3, 4, 5, 6, 7, 8, 9, 10, 11, 12, 13, 14, 15, 16, 17, 18, 19, 20, 21, 22] rfl
          have hD9 := hD.sub (ws' := ([(o, .inr (2, [.ref a1, .ref a2, .ref o3, .ref a4, .int (nI n), .int (nI lk), .int li, .int ne])), (a2, .inl (cA 0, 16, .inl (nA ph))), (o3, .inr (0, [.ref b1, .int (nI od), .int (nI fi), .ref t1, .ref g1, .int (nI la0)])), (b1, .inl (cA 0, 16, .inl (nA be))), (t1, .inl (cA 0, 16, .inl (nA tr))), (g1, .inl (cA 4, 17, .inr (.inr (.inr (.inr (zg_o rr))))))] ++ zg_w cA rr M)) [0, 1, 2, 3, 4, 5, 6, 7, 8, 9, 10, 11, 12, 13, 14, 15, 16, 17, 18, 19, 20, 21, 22] (by decide) rfl
          exact W.iret (v := (-1)) hx hb hr (fun t ht hW => ⟨⟨(-1), ((be, tr, M, od, fi, la0), lk), rfl, ⟨hbe, htr, hlk, hkn, Or.inr ⟨zl_no_pa c_1 c_2 hnjp_6, rfl⟩⟩, by rw [ht]; exact hP9, hD9⟩, hS.F ht⟩) hS.2.2 pc_d_least_56
    · refine lv_aload_n hx hb pc_d_least_17 rfl (lv_at hl 0 rfl) ?_
      refine zq_Vwr (ra := fun _ => o3) (n := 0) (As := []) (rest := []) (wc := ([(o, .inr (2, [.ref a1, .ref a2, .ref o3, .ref a4, .int (nI n), .int (nI lk), .int li, .int ne])), (a2, .inl (cA 0, 16, .inl (nA ph))), (o3, .inr (0, [.ref b1, .int (nI od), .int (nI fi), .ref t1, .ref g1, .int (nI la0)])), (b1, .inl (cA 0, 16, .inl (nA be))), (t1, .inl (cA 0, 16, .inl (nA tr))), (g1, .inl (cA 4, 17, .inr (.inr (.inr (.inr (zg_o rr))))))] ++ zg_w cA rr M)) (wr := []) ⟨hx, hb, hml, hown, hts⟩ (pc_knownLeast l dC dI cA _ o a1 a2 o3 a4 b1 t1 g1 n lk od fi la0 li ne ph be tr rr M hn1 hn hlk hph hbe htr hkn) zg_pc65 (by decide +kernel) ⟨rfl, rfl⟩ ⟨Nat.le_of_ble_eq_true rfl, Nat.le_of_ble_eq_true rfl⟩ hK hP hD hS hA hZ [0, 1, 2, 3, 4, 5, 6, 7, 8, 9, 10, 11, 12, 13, 14, 15, 16, 17, 18, 19, 20, 21, 22] [] rfl rfl (by decide) 2 0 rfl rfl rfl rfl hl.1 rfl (Nat.le_of_ble_eq_true rfl) pc_d_least_18 (fun u_14 H locs h_13 hP hD hS => ?_) ⟨Nat.le_of_ble_eq_true rfl, Nat.le_of_ble_eq_true rfl⟩
      obtain ⟨be14, tr14, M14, od14, fi14, la14⟩ := u_14
      obtain ⟨lb14, lt14, lz14⟩ := h_13
      try dsimp only at lb14 lt14 lz14
      have hP : va_P (dC, dI) zz_cl ([(o, .inr (2, [.ref a1, .ref a2, .ref o3, .ref a4, .int (nI n), .int (nI 1), .int li, .int ne])), (a2, .inl (cA 0, 16, .inl (nA ph))), (o3, .inr (0, [.ref b1, .int (nI od14), .int (nI fi14), .ref t1, .ref g1, .int (nI la14)])), (b1, .inl (cA 0, 16, .inl (nA be14))), (t1, .inl (cA 0, 16, .inl (nA tr14))), (g1, .inl (cA 4, 17, .inr (.inr (.inr (.inr (zg_o rr))))))] ++ zg_w cA rr M14) H := hP
      have hD : va_D A ([(o, .inr (2, [.ref a1, .ref a2, .ref o3, .ref a4, .int (nI n), .int (nI 1), .int li, .int ne])), (a2, .inl (cA 0, 16, .inl (nA ph))), (o3, .inr (0, [.ref b1, .int (nI od14), .int (nI fi14), .ref t1, .ref g1, .int (nI la14)])), (b1, .inl (cA 0, 16, .inl (nA be14))), (t1, .inl (cA 0, 16, .inl (nA tr14))), (g1, .inl (cA 4, 17, .inr (.inr (.inr (.inr (zg_o rr))))))] ++ zg_w cA rr M14) := hD
      refine va_get (D := (dC, dI)) (ci := 0) (v := .int (nI fi14)) (C := lp_R) (T := lp_T) (N := 6) hx hb hts lp_in hown hK hP 2 rfl rfl 2 (by decide) (hts _ zk_pc72) (fun _ h9 => h9) rfl pc_d_least_21 ?_
      have hP9 := hP.sub (ws' := ([(o, .inr (2, [.ref a1, .ref a2, .ref o3, .ref a4, .int (nI n), .int (nI 1), .int li, .int ne])), (a2, .inl (cA 0, 16, .inl (nA ph))), (o3, .inr (0, [.ref b1, .int (nI od14), .int (nI fi14), .ref t1, .ref g1, .int (nI la14)])), (b1, .inl (cA 0, 16, .inl (nA be14))), (t1, .inl (cA 0, 16, .inl (nA tr14))), (g1, .inl (cA 4, 17, .inr (.inr (.inr (.inr (zg_o rr))))))] ++ zg_w cA rr M14)) [0, 1, 2, 3, 4, 5, 6, 7, 8, 9, 10, 11, 12, 13, 14, 15, 16, 17, 18, 19, 20, 21, 22] rfl
      have hD9 := hD.sub (ws' := ([(o, .inr (2, [.ref a1, .ref a2, .ref o3, .ref a4, .int (nI n), .int (nI 1), .int li, .int ne])), (a2, .inl (cA 0, 16, .inl (nA ph))), (o3, .inr (0, [.ref b1, .int (nI od14), .int (nI fi14), .ref t1, .ref g1, .int (nI la14)])), (b1, .inl (cA 0, 16, .inl (nA be14))), (t1, .inl (cA 0, 16, .inl (nA tr14))), (g1, .inl (cA 4, 17, .inr (.inr (.inr (.inr (zg_o rr))))))] ++ zg_w cA rr M14)) [0, 1, 2, 3, 4, 5, 6, 7, 8, 9, 10, 11, 12, 13, 14, 15, 16, 17, 18, 19, 20, 21, 22] (by decide) rfl
      exact W.iret (v := (nI fi14)) hx hb hr (fun t ht hW => ⟨⟨(nI fi14), ((be14, tr14, M14, od14, fi14, la14), 1), rfl, ⟨lb14, lt14, Nat.le_refl _, fun _ => lz14, Or.inl ⟨rfl, Or.inr (Or.inl ⟨c_2, rfl⟩)⟩⟩, by rw [ht]; exact hP9, hD9⟩, hS.F ht⟩) hS.2.2 pc_d_least_24
  · refine lv_aload_n hx hb pc_d_least_4 rfl (lv_at hl 0 rfl) ?_
    refine zq_Vwr (ra := fun _ => o3) (n := 0) (As := []) (rest := []) (wc := ([(o, .inr (2, [.ref a1, .ref a2, .ref o3, .ref a4, .int (nI n), .int (nI lk), .int li, .int ne])), (a2, .inl (cA 0, 16, .inl (nA ph))), (o3, .inr (0, [.ref b1, .int (nI od), .int (nI fi), .ref t1, .ref g1, .int (nI la0)])), (b1, .inl (cA 0, 16, .inl (nA be))), (t1, .inl (cA 0, 16, .inl (nA tr))), (g1, .inl (cA 4, 17, .inr (.inr (.inr (.inr (zg_o rr))))))] ++ zg_w cA rr M)) (wr := []) ⟨hx, hb, hml, hown, hts⟩ (pc_knownLeast l dC dI cA _ o a1 a2 o3 a4 b1 t1 g1 n lk od fi la0 li ne ph be tr rr M hn1 hn hlk hph hbe htr hkn) zg_pc65 (by decide +kernel) ⟨rfl, rfl⟩ ⟨Nat.le_of_ble_eq_true rfl, Nat.le_of_ble_eq_true rfl⟩ hK hP hD hS hA hZ [0, 1, 2, 3, 4, 5, 6, 7, 8, 9, 10, 11, 12, 13, 14, 15, 16, 17, 18, 19, 20, 21, 22] [] rfl rfl (by decide) 2 0 rfl rfl rfl rfl hl.1 rfl (Nat.le_of_ble_eq_true rfl) pc_d_least_5 (fun u_17 H locs h_16 hP hD hS => ?_) ⟨Nat.le_of_ble_eq_true rfl, Nat.le_of_ble_eq_true rfl⟩
    obtain ⟨be17, tr17, M17, od17, fi17, la17⟩ := u_17
    obtain ⟨lb17, lt17, lz17⟩ := h_16
    try dsimp only at lb17 lt17 lz17
    have hP : va_P (dC, dI) zz_cl ([(o, .inr (2, [.ref a1, .ref a2, .ref o3, .ref a4, .int (nI n), .int (nI 1), .int li, .int ne])), (a2, .inl (cA 0, 16, .inl (nA ph))), (o3, .inr (0, [.ref b1, .int (nI od17), .int (nI fi17), .ref t1, .ref g1, .int (nI la17)])), (b1, .inl (cA 0, 16, .inl (nA be17))), (t1, .inl (cA 0, 16, .inl (nA tr17))), (g1, .inl (cA 4, 17, .inr (.inr (.inr (.inr (zg_o rr))))))] ++ zg_w cA rr M17) H := hP
    have hD : va_D A ([(o, .inr (2, [.ref a1, .ref a2, .ref o3, .ref a4, .int (nI n), .int (nI 1), .int li, .int ne])), (a2, .inl (cA 0, 16, .inl (nA ph))), (o3, .inr (0, [.ref b1, .int (nI od17), .int (nI fi17), .ref t1, .ref g1, .int (nI la17)])), (b1, .inl (cA 0, 16, .inl (nA be17))), (t1, .inl (cA 0, 16, .inl (nA tr17))), (g1, .inl (cA 4, 17, .inr (.inr (.inr (.inr (zg_o rr))))))] ++ zg_w cA rr M17) := hD
    refine va_get (D := (dC, dI)) (ci := 0) (v := .int (nI od17)) (C := lp_R) (T := lp_T) (N := 6) hx hb hts lp_in hown hK hP 2 rfl rfl 1 (by decide) (hts _ zk_pc69) (fun _ h9 => h9) rfl pc_d_least_8 ?_
    have hP9 := hP.sub (ws' := ([(o, .inr (2, [.ref a1, .ref a2, .ref o3, .ref a4, .int (nI n), .int (nI 1), .int li, .int ne])), (a2, .inl (cA 0, 16, .inl (nA ph))), (o3, .inr (0, [.ref b1, .int (nI od17), .int (nI fi17), .ref t1, .ref g1, .int (nI la17)])), (b1, .inl (cA 0, 16, .inl (nA be17))), (t1, .inl (cA 0, 16, .inl (nA tr17))), (g1, .inl (cA 4, 17, .inr (.inr (.inr (.inr (zg_o rr))))))] ++ zg_w cA rr M17)) [0, 1, 2, 3, 4, 5, 6, 7, 8, 9, 10, 11, 12, 13, 14, 15, 16, 17, 18, 19, 20, 21, 22] rfl
    have hD9 := hD.sub (ws' := ([(o, .inr (2, [.ref a1, .ref a2, .ref o3, .ref a4, .int (nI n), .int (nI 1), .int li, .int ne])), (a2, .inl (cA 0, 16, .inl (nA ph))), (o3, .inr (0, [.ref b1, .int (nI od17), .int (nI fi17), .ref t1, .ref g1, .int (nI la17)])), (b1, .inl (cA 0, 16, .inl (nA be17))), (t1, .inl (cA 0, 16, .inl (nA tr17))), (g1, .inl (cA 4, 17, .inr (.inr (.inr (.inr (zg_o rr))))))] ++ zg_w cA rr M17)) [0, 1, 2, 3, 4, 5, 6, 7, 8, 9, 10, 11, 12, 13, 14, 15, 16, 17, 18, 19, 20, 21, 22] (by decide) rfl
    exact W.iret (v := (nI od17)) hx hb hr (fun t ht hW => ⟨⟨(nI od17), ((be17, tr17, M17, od17, fi17, la17), 1), rfl, ⟨lb17, lt17, Nat.le_refl _, fun _ => lz17, Or.inl ⟨rfl, Or.inl ⟨c_1, rfl⟩⟩⟩, by rw [ht]; exact hP9, hD9⟩, hS.F ht⟩) hS.2.2 pc_d_least_11
set_option maxHeartbeats 4000000 in
set_option maxRecDepth 100000 in
/-- settle() -/
theorem pc_settle (l : Launch) (dC : Nat → ClassId) (dI : Nat → Nat → Nat) (cA : Nat → ClassId) (sz : Nat) (o a1 a2 o3 a4 b1 t1 g1 n lk od fi la0 : Nat) (li ne : Int32) (ph be tr rr : Nat → Nat) (M : Nat → Nat → Nat) (hn1 : 1 ≤ n) (hn : n ≤ 4) (hlk : lk ≤ 1) (hph : ∀ j, ph j < 8) (hbe : ∀ j, be j < 8) (htr : ∀ j, tr j < 8) (hkn : lk = 1 → zk_known n ph be od fi) : Met l pc_y_settle pc_w_settle ({ frames := 5, cells := 0, slots := 0, locals := 134 }) (va_Pc [.ref o] (zB (dC, dI) cA ([(o, .inr (2, [.ref a1, .ref a2, .ref o3, .ref a4, .int (nI n), .int (nI lk), .int li, .int ne])), (a2, .inl (cA 0, 16, .inl (nA ph))), (o3, .inr (0, [.ref b1, .int (nI od), .int (nI fi), .ref t1, .ref g1, .int (nI la0)])), (b1, .inl (cA 0, 16, .inl (nA be))), (t1, .inl (cA 0, 16, .inl (nA tr))), (g1, .inl (cA 4, 17, .inr (.inr (.inr (.inr (zg_o rr))))))] ++ zg_w cA rr M) sz)) (va_Qi (fun (r : Int32) (u : ((Nat → Nat) × (Nat → Nat) × (Nat → Nat → Nat) × Nat × Nat × Nat) × (Nat → Nat)) => (∀ j, u.1.1 j < 8) ∧ (∀ j, u.1.2.1 j < 8) ∧ zk_known n ph u.1.1 u.1.2.2.2.1 u.1.2.2.2.2.1 ∧ r = nI (zc_dif ph u.1.1 (2 ^ n - 1)) ∧ ∀ j, u.2 j = if 1 ≤ j ∧ j ≤ 2 ^ n - 1 then u.1.1 j else ph j) (fun u t => zE (dC, dI) (va_A ([(o, .inr (2, [.ref a1, .ref a2, .ref o3, .ref a4, .int (nI n), .int (nI lk), .int li, .int ne])), (a2, .inl (cA 0, 16, .inl (nA ph))), (o3, .inr (0, [.ref b1, .int (nI od), .int (nI fi), .ref t1, .ref g1, .int (nI la0)])), (b1, .inl (cA 0, 16, .inl (nA be))), (t1, .inl (cA 0, 16, .inl (nA tr))), (g1, .inl (cA 4, 17, .inr (.inr (.inr (.inr (zg_o rr))))))] ++ zg_w cA rr M) sz) ((fun (u : ((Nat → Nat) × (Nat → Nat) × (Nat → Nat → Nat) × Nat × Nat × Nat) × (Nat → Nat)) => ([(o, .inr (2, [.ref a1, .ref a2, .ref o3, .ref a4, .int (nI n), .int (nI 1), .int li, .int ne])), (a2, .inl (cA 0, 16, .inl (nA u.2))), (o3, .inr (0, [.ref b1, .int (nI u.1.2.2.2.1), .int (nI u.1.2.2.2.2.1), .ref t1, .ref g1, .int (nI u.1.2.2.2.2.2)])), (b1, .inl (cA 0, 16, .inl (nA u.1.1))), (t1, .inl (cA 0, 16, .inl (nA u.1.2.1))), (g1, .inl (cA 4, 17, .inr (.inr (.inr (.inr (zg_o rr))))))] ++ zg_w cA rr u.1.2.2.1)) u) t) (va_A ([(o, .inr (2, [.ref a1, .ref a2, .ref o3, .ref a4, .int (nI n), .int (nI lk), .int li, .int ne])), (a2, .inl (cA 0, 16, .inl (nA ph))), (o3, .inr (0, [.ref b1, .int (nI od), .int (nI fi), .ref t1, .ref g1, .int (nI la0)])), (b1, .inl (cA 0, 16, .inl (nA be))), (t1, .inl (cA 0, 16, .inl (nA tr))), (g1, .inl (cA 4, 17, .inr (.inr (.inr (.inr (zg_o rr))))))] ++ zg_w cA rr M) sz)) 0 0 (va_A ([(o, .inr (2, [.ref a1, .ref a2, .ref o3, .ref a4, .int (nI n), .int (nI lk), .int li, .int ne])), (a2, .inl (cA 0, 16, .inl (nA ph))), (o3, .inr (0, [.ref b1, .int (nI od), .int (nI fi), .ref t1, .ref g1, .int (nI la0)])), (b1, .inl (cA 0, 16, .inl (nA be))), (t1, .inl (cA 0, 16, .inl (nA tr))), (g1, .inl (cA 4, 17, .inr (.inr (.inr (.inr (zg_o rr))))))] ++ zg_w cA rr M) sz) := by
  refine Met.ofW (cc := pc_c_settle) (maxL := 4) (ret := (some .int)) (by decide) rfl ?_
  intro p e s m args below meth c s₁ B hml hv
  obtain ⟨rfl, hsz, hP, hK, hD0, hZ⟩ := hv
  have hx := B.exec
  have hb := B.bytes
  have hr := B.returns
  have hts0 := atoms_spec (ws := pc_w_settle) B.pre
  have hts : ∀ w ∈ zz_tbl, w.before _ s = true := fun w h => hts0 w (List.mem_cons_of_mem _ h)
  have hown : s.vm.findClass pc_R = some m.cls := findClass_of_methodNamed B.named
  have hlocks := B.notSynchronized
  subst hsz
  have hD := hD0.self (sz := s.heap.size)
  generalize hAe : va_A ([(o, .inr (2, [.ref a1, .ref a2, .ref o3, .ref a4, .int (nI n), .int (nI lk), .int li, .int ne])), (a2, .inl (cA 0, 16, .inl (nA ph))), (o3, .inr (0, [.ref b1, .int (nI od), .int (nI fi), .ref t1, .ref g1, .int (nI la0)])), (b1, .inl (cA 0, 16, .inl (nA be))), (t1, .inl (cA 0, 16, .inl (nA tr))), (g1, .inl (cA 4, 17, .inr (.inr (.inr (.inr (zg_o rr))))))] ++ zg_w cA rr M) s.heap.size = A at hD hZ ⊢
  have hA : ∀ q : Nat, s.heap.size ≤ q → A q := fun q h => by rw [← hAe]; exact Or.inr h
  have hS : va_S A s.heap s.heap [] := va_S.rf
  have hP : va_P (dC, dI) zz_cl ([(o, .inr (2, [.ref a1, .ref a2, .ref o3, .ref a4, .int (nI n), .int (nI lk), .int li, .int ne])), (a2, .inl (cA 0, 16, .inl (nA ph))), (o3, .inr (0, [.ref b1, .int (nI od), .int (nI fi), .ref t1, .ref g1, .int (nI la0)])), (b1, .inl (cA 0, 16, .inl (nA be))), (t1, .inl (cA 0, 16, .inl (nA tr))), (g1, .inl (cA 4, 17, .inr (.inr (.inr (.inr (zg_o rr))))))] ++ zg_w cA rr M) s.heap := hP
  have hl := lv_entry ([.ref o]) (n := 4) (Nat.le_of_ble_eq_true rfl)
  rw [lg_entry_eq]
  generalize (lg_sl ([.ref o]) ++ List.replicate (4 - (lg_sl ([.ref o])).length) Slot.unset).toArray = ls at hl ⊢
  have hl : lv_has ls 4 [(0, .ref o)] := hl
  have hpow : 0 < 2 ^ n := Nat.two_pow_pos n
  have hpow2 : 2 ^ n ≤ 2 ^ 4 := Nat.pow_le_pow_right (by decide) hn
  refine lv_aload_n hx hb pc_d_settle_0 rfl (lv_at hl 0 rfl) ?_
  refine zq_Vwr (ra := fun _ => o3) (n := 0) (As := []) (rest := []) (wc := ([(o, .inr (2, [.ref a1, .ref a2, .ref o3, .ref a4, .int (nI n), .int (nI lk), .int li, .int ne])), (a2, .inl (cA 0, 16, .inl (nA ph))), (o3, .inr (0, [.ref b1, .int (nI od), .int (nI fi), .ref t1, .ref g1, .int (nI la0)])), (b1, .inl (cA 0, 16, .inl (nA be))), (t1, .inl (cA 0, 16, .inl (nA tr))), (g1, .inl (cA 4, 17, .inr (.inr (.inr (.inr (zg_o rr))))))] ++ zg_w cA rr M)) (wr := []) ⟨hx, hb, hml, hown, hts⟩ (pc_knownLeast l dC dI cA _ o a1 a2 o3 a4 b1 t1 g1 n lk od fi la0 li ne ph be tr rr M hn1 hn hlk hph hbe htr hkn) zg_pc65 (by decide +kernel) ⟨rfl, rfl⟩ ⟨Nat.le_of_ble_eq_true rfl, Nat.le_of_ble_eq_true rfl⟩ hK hP hD hS hA hZ [0, 1, 2, 3, 4, 5, 6, 7, 8, 9, 10, 11, 12, 13, 14, 15, 16, 17, 18, 19, 20, 21, 22] [] rfl rfl (by decide) 2 0 rfl rfl rfl rfl hl.1 rfl (Nat.le_of_ble_eq_true rfl) pc_d_settle_1 (fun u_3 H locs h_2 hP hD hS => ?_) ⟨Nat.le_of_ble_eq_true rfl, Nat.le_of_ble_eq_true rfl⟩
  obtain ⟨be3, tr3, M3, od3, fi3, la3⟩ := u_3
  obtain ⟨lb3, lt3, lz3⟩ := h_2
  try dsimp only at lb3 lt3 lz3
  have hP : va_P (dC, dI) zz_cl ([(o, .inr (2, [.ref a1, .ref a2, .ref o3, .ref a4, .int (nI n), .int (nI 1), .int li, .int ne])), (a2, .inl (cA 0, 16, .inl (nA ph))), (o3, .inr (0, [.ref b1, .int (nI od3), .int (nI fi3), .ref t1, .ref g1, .int (nI la3)])), (b1, .inl (cA 0, 16, .inl (nA be3))), (t1, .inl (cA 0, 16, .inl (nA tr3))), (g1, .inl (cA 4, 17, .inr (.inr (.inr (.inr (zg_o rr))))))] ++ zg_w cA rr M3) H := hP
  have hD : va_D A ([(o, .inr (2, [.ref a1, .ref a2, .ref o3, .ref a4, .int (nI n), .int (nI 1), .int li, .int ne])), (a2, .inl (cA 0, 16, .inl (nA ph))), (o3, .inr (0, [.ref b1, .int (nI od3), .int (nI fi3), .ref t1, .ref g1, .int (nI la3)])), (b1, .inl (cA 0, 16, .inl (nA be3))), (t1, .inl (cA 0, 16, .inl (nA tr3))), (g1, .inl (cA 4, 17, .inr (.inr (.inr (.inr (zg_o rr))))))] ++ zg_w cA rr M3) := hD
  refine va_get (D := (dC, dI)) (ci := 0) (v := .ref b1) (C := lp_R) (T := lp_T) (N := 6) hx hb hts lp_in hown hK hP 2 rfl rfl 0 (by decide) (hts _ zk_pc75) (fun _ h9 => h9) rfl pc_d_settle_4 ?_
  refine lv_astore_n (lv' := [(1, .ref b1), (0, .ref o)]) hx hb pc_d_settle_7 rfl hl (by decide) rfl (fun ls hl => ?_)
  refine lv_iconst (v := (nI 0)) hx hb pc_d_settle_8 (by decide) ?_
  refine lv_istore_n (lv' := [(2, .int (nI 0)), (1, .ref b1), (0, .ref o)]) hx hb pc_d_settle_9 rfl hl (by decide) rfl (fun ls hl => ?_)
  refine lv_iconst (v := (nI 1)) hx hb pc_d_settle_10 (by decide) ?_
  refine lv_istore_n (lv' := [(3, .int (nI 1)), (2, .int (nI 0)), (1, .ref b1), (0, .ref o)]) hx hb pc_d_settle_11 rfl hl (by decide) rfl (fun ls hl => ?_)
  refine zl_loop (J := fun k ls H locs => ∃ (i : Nat) (ct : Nat) (pcur : Nat → Nat), k = 2 ^ n - 1 - i ∧ (i ≤ 2 ^ n - 1) ∧ (ct = zc_dif ph be3 i) ∧ (∀ j, pcur j = if 1 ≤ j ∧ j ≤ i then be3 j else ph j) ∧ va_P (dC, dI) zz_cl ([(o, .inr (2, [.ref a1, .ref a2, .ref o3, .ref a4, .int (nI n), .int (nI 1), .int li, .int ne])), (a2, .inl (cA 0, 16, .inl (nA pcur))), (o3, .inr (0, [.ref b1, .int (nI od3), .int (nI fi3), .ref t1, .ref g1, .int (nI la3)])), (b1, .inl (cA 0, 16, .inl (nA be3))), (t1, .inl (cA 0, 16, .inl (nA tr3))), (g1, .inl (cA 4, 17, .inr (.inr (.inr (.inr (zg_o rr))))))] ++ zg_w cA rr M3) H ∧ va_D A ([(o, .inr (2, [.ref a1, .ref a2, .ref o3, .ref a4, .int (nI n), .int (nI 1), .int li, .int ne])), (a2, .inl (cA 0, 16, .inl (nA pcur))), (o3, .inr (0, [.ref b1, .int (nI od3), .int (nI fi3), .ref t1, .ref g1, .int (nI la3)])), (b1, .inl (cA 0, 16, .inl (nA be3))), (t1, .inl (cA 0, 16, .inl (nA tr3))), (g1, .inl (cA 4, 17, .inr (.inr (.inr (.inr (zg_o rr))))))] ++ zg_w cA rr M3) ∧ va_S A s.heap H locs ∧ lv_has ls 4 [(0, .ref o), (1, .ref b1), (2, .int (nI ct)), (3, .int (nI (i + 1)))]) (fun k12 ls H locs hJ12 ih12 => ?_) (2 ^ n - 1 - 0) ⟨0, 0, ph, rfl, Nat.zero_le _, rfl, fun j => by rw [if_neg (by omega)], hP, hD, hS, lv_sub hl [3, 2, 1, 0] rfl⟩
  obtain ⟨i, ct, pcur, hk12, hi, hct, hpc, hP, hD, hS, hl⟩ := hJ12
  refine lv_iload_n hx hb pc_d_settle_12 rfl (lv_at hl 3 rfl) ?_
  refine lv_aload_n hx hb pc_d_settle_13 rfl (lv_at hl 0 rfl) ?_
  refine zq_Vi (n := 0) (As := []) (rest := [.int (nI (i + 1))]) ⟨hx, hb, hml, hown, hts⟩ (pc_lastParity l dC dI cA o a1 a2 o3 a4 n 1 li ne (by omega)) zg_pc55 (by decide +kernel) ⟨rfl, rfl⟩ ⟨Nat.le_of_ble_eq_true rfl, Nat.le_of_ble_eq_true rfl⟩ hK (hP.sub (ws' := [(o, .inr (2, [.ref a1, .ref a2, .ref o3, .ref a4, .int (nI n), .int (nI 1), .int li, .int ne]))]) [0] rfl) 2 0 rfl rfl rfl rfl hl.1 rfl (Nat.le_of_ble_eq_true rfl) pc_d_settle_14 (fun r_4 h_5 => ?_) ⟨Nat.le_of_ble_eq_true rfl, Nat.le_of_ble_eq_true rfl⟩
  subst h_5
  refine zc_gt (tgt := 50) hx hb pc_d_settle_17 (by decide) (by omega) (by omega) (fun c_6 => ?_) (fun c_6 => ?_)
  · refine lv_iload_n hx hb pc_d_settle_50 rfl (lv_at hl 2 rfl) ?_
    have hP9 := hP.sub (ws' := ([(o, .inr (2, [.ref a1, .ref a2, .ref o3, .ref a4, .int (nI n), .int (nI 1), .int li, .int ne])), (a2, .inl (cA 0, 16, .inl (nA pcur))), (o3, .inr (0, [.ref b1, .int (nI od3), .int (nI fi3), .ref t1, .ref g1, .int (nI la3)])), (b1, .inl (cA 0, 16, .inl (nA be3))), (t1, .inl (cA 0, 16, .inl (nA tr3))), (g1, .inl (cA 4, 17, .inr (.inr (.inr (.inr (zg_o rr))))))] ++ zg_w cA rr M3)) [0, 1, 2, 3, 4, 5, 6, 7, 8, 9, 10, 11, 12, 13, 14, 15, 16, 17, 18, 19, 20, 21, 22] rfl
    have hD9 := hD.sub (ws' := ([(o, .inr (2, [.ref a1, .ref a2, .ref o3, .ref a4, .int (nI n), .int (nI 1), .int li, .int ne])), (a2, .inl (cA 0, 16, .inl (nA pcur))), (o3, .inr (0, [.ref b1, .int (nI od3), .int (nI fi3), .ref t1, .ref g1, .int (nI la3)])), (b1, .inl (cA 0, 16, .inl (nA be3))), (t1, .inl (cA 0, 16, .inl (nA tr3))), (g1, .inl (cA 4, 17, .inr (.inr (.inr (.inr (zg_o rr))))))] ++ zg_w cA rr M3)) [0, 1, 2, 3, 4, 5, 6, 7, 8, 9, 10, 11, 12, 13, 14, 15, 16, 17, 18, 19, 20, 21, 22] (by decide) rfl
    exact W.iret (v := (nI ct)) hx hb hr (fun t ht hW => ⟨⟨(nI ct), ((be3, tr3, M3, od3, fi3, la3), pcur), rfl, ⟨lb3, lt3, lz3, by rw [hct, show i = 2 ^ n - 1 by omega], by rw [show i = 2 ^ n - 1 by omega] at hpc; exact hpc⟩, by rw [ht]; exact hP9, hD9⟩, hS.F ht⟩) hS.2.2 pc_d_settle_51
  · refine lv_aload_n hx hb pc_d_settle_20 rfl (lv_at hl 0 rfl) ?_
    refine va_get (D := (dC, dI)) (ci := 2) (v := .ref a2) (C := pc_R) (T := pc_T) (N := 8) hx hb hts pc_in hown hK hP 0 rfl rfl 1 (by decide) (hts _ zk_pc13) (fun _ h9 => h9) rfl pc_d_settle_21 ?_
    refine lv_iload_n hx hb pc_d_settle_24 rfl (lv_at hl 3 rfl) ?_
    refine zv_iald hx hb hK hP 1 0 rfl rfl (k := (i + 1)) (by omega) (by omega) pc_d_settle_25 ?_
    have hpcn : pcur (i + 1) = ph (i + 1) := by rw [hpc, if_neg (by omega)]
    refine lv_aload_n hx hb pc_d_settle_26 rfl (lv_at hl 1 rfl) ?_
    refine lv_iload_n hx hb pc_d_settle_27 rfl (lv_at hl 3 rfl) ?_
    refine zv_iald hx hb hK hP 3 0 rfl rfl (k := (i + 1)) (by omega) (by omega) pc_d_settle_28 ?_
    have h8 := lb3 (i + 1)
    have h9 := hph (i + 1)
    have h10 : pcur (i + 1) < 8 := by rw [hpcn]; exact h9
    refine zc_eq (tgt := 44) hx hb pc_d_settle_29 (by decide) (by omega) (by omega) (fun c_7 => ?_) (fun c_7 => ?_)
    · refine lv_iinc (v := (nI ((i + 1) + 1))) (lv' := [(3, .int (nI ((i + 1) + 1))), (0, .ref o), (1, .ref b1), (2, .int (nI ct))]) hx hb pc_d_settle_44 hl (k := 3) rfl (nI_1 (i + 1)) (by decide) rfl (fun ls hl => ?_)
      refine lv_goto (tgt := 12) hx hb pc_d_settle_47 (by decide) ?_
      exact ih12 _ _ _ _ (by omega) ⟨i + 1, _, _, rfl, by omega, by rw [zc_dif0 (by rw [← hpcn]; exact c_7)]; exact hct, zc_set0 hpc (by rw [← hpcn]; exact c_7), hP, hD, hS, lv_sub hl [1, 2, 3, 0] rfl⟩
    · refine lv_aload_n hx hb pc_d_settle_32 rfl (lv_at hl 0 rfl) ?_
      refine va_get (D := (dC, dI)) (ci := 2) (v := .ref a2) (C := pc_R) (T := pc_T) (N := 8) hx hb hts pc_in hown hK hP 0 rfl rfl 1 (by decide) (hts _ zk_pc13) (fun _ h9 => h9) rfl pc_d_settle_33 ?_
      refine lv_iload_n hx hb pc_d_settle_36 rfl (lv_at hl 3 rfl) ?_
      refine lv_aload_n hx hb pc_d_settle_37 rfl (lv_at hl 1 rfl) ?_
      refine lv_iload_n hx hb pc_d_settle_38 rfl (lv_at hl 3 rfl) ?_
      refine zv_iald hx hb hK hP 3 0 rfl rfl (k := (i + 1)) (by omega) (by omega) pc_d_settle_39 ?_
      refine zv_iast hx hb hK hP hD hS 1 0 rfl rfl (k := (i + 1)) (v := (be3 (i + 1))) (by omega) (by omega) pc_d_settle_40 (fun H locs hP hD hS => ?_)
      have hP : va_P (dC, dI) zz_cl ([(o, .inr (2, [.ref a1, .ref a2, .ref o3, .ref a4, .int (nI n), .int (nI 1), .int li, .int ne])), (a2, .inl (cA 0, 16, .inl (nA (va_up pcur (i + 1) (be3 (i + 1)))))), (o3, .inr (0, [.ref b1, .int (nI od3), .int (nI fi3), .ref t1, .ref g1, .int (nI la3)])), (b1, .inl (cA 0, 16, .inl (nA be3))), (t1, .inl (cA 0, 16, .inl (nA tr3))), (g1, .inl (cA 4, 17, .inr (.inr (.inr (.inr (zg_o rr))))))] ++ zg_w cA rr M3) H := hP
      have hD : va_D A ([(o, .inr (2, [.ref a1, .ref a2, .ref o3, .ref a4, .int (nI n), .int (nI 1), .int li, .int ne])), (a2, .inl (cA 0, 16, .inl (nA (va_up pcur (i + 1) (be3 (i + 1)))))), (o3, .inr (0, [.ref b1, .int (nI od3), .int (nI fi3), .ref t1, .ref g1, .int (nI la3)])), (b1, .inl (cA 0, 16, .inl (nA be3))), (t1, .inl (cA 0, 16, .inl (nA tr3))), (g1, .inl (cA 4, 17, .inr (.inr (.inr (.inr (zg_o rr))))))] ++ zg_w cA rr M3) := hD
      refine lv_iinc (v := (nI (ct + 1))) (lv' := [(2, .int (nI (ct + 1))), (0, .ref o), (1, .ref b1), (3, .int (nI (i + 1)))]) hx hb pc_d_settle_41 hl (k := 2) rfl (nI_1 ct) (by decide) rfl (fun ls hl => ?_)
      refine lv_iinc (v := (nI ((i + 1) + 1))) (lv' := [(3, .int (nI ((i + 1) + 1))), (2, .int (nI (ct + 1))), (0, .ref o), (1, .ref b1)]) hx hb pc_d_settle_44 hl (k := 3) rfl (nI_1 (i + 1)) (by decide) rfl (fun ls hl => ?_)
      refine lv_goto (tgt := 12) hx hb pc_d_settle_47 (by decide) ?_
      exact ih12 _ _ _ _ (by omega) ⟨i + 1, _, _, rfl, by omega, by rw [zc_dif1 (by rw [← hpcn]; exact c_7), hct], zc_set1 hpc, hP, hD, hS, lv_sub hl [2, 3, 1, 0] rfl⟩
set_option maxHeartbeats 4000000 in
set_option maxRecDepth 100000 in
/-- neededParities() -/
theorem pc_needed (l : Launch) (dC : Nat → ClassId) (dI : Nat → Nat → Nat) (cA : Nat → ClassId) (sz : Nat) (o a1 a2 o3 a4 b1 t1 g1 n lk od fi la0 : Nat) (li ne : Int32) (ph be tr rr : Nat → Nat) (M : Nat → Nat → Nat) (hn1 : 1 ≤ n) (hn : n ≤ 4) (hlk : lk ≤ 1) (hph : ∀ j, ph j < 8) (hbe : ∀ j, be j < 8) (htr : ∀ j, tr j < 8) (hkn : lk = 1 → zk_known n ph be od fi) : Met l pc_y_neededParities pc_w_neededParities ({ frames := 5, cells := 0, slots := 0, locals := 134 }) (va_Pc [.ref o] (zB (dC, dI) cA ([(o, .inr (2, [.ref a1, .ref a2, .ref o3, .ref a4, .int (nI n), .int (nI lk), .int li, .int ne])), (a2, .inl (cA 0, 16, .inl (nA ph))), (o3, .inr (0, [.ref b1, .int (nI od), .int (nI fi), .ref t1, .ref g1, .int (nI la0)])), (b1, .inl (cA 0, 16, .inl (nA be))), (t1, .inl (cA 0, 16, .inl (nA tr))), (g1, .inl (cA 4, 17, .inr (.inr (.inr (.inr (zg_o rr))))))] ++ zg_w cA rr M) sz)) (va_Qi (fun (r : Int32) (u : (Nat → Nat) × (Nat → Nat) × (Nat → Nat → Nat) × Nat × Nat × Nat) => (∀ j, u.1 j < 8) ∧ (∀ j, u.2.1 j < 8) ∧ zk_known n ph u.1 u.2.2.2.1 u.2.2.2.2.1 ∧ r = nI (zc_need u.1 (2 ^ n - 1))) (fun u t => zE (dC, dI) (va_A ([(o, .inr (2, [.ref a1, .ref a2, .ref o3, .ref a4, .int (nI n), .int (nI lk), .int li, .int ne])), (a2, .inl (cA 0, 16, .inl (nA ph))), (o3, .inr (0, [.ref b1, .int (nI od), .int (nI fi), .ref t1, .ref g1, .int (nI la0)])), (b1, .inl (cA 0, 16, .inl (nA be))), (t1, .inl (cA 0, 16, .inl (nA tr))), (g1, .inl (cA 4, 17, .inr (.inr (.inr (.inr (zg_o rr))))))] ++ zg_w cA rr M) sz) ((fun (u : (Nat → Nat) × (Nat → Nat) × (Nat → Nat → Nat) × Nat × Nat × Nat) => ([(o, .inr (2, [.ref a1, .ref a2, .ref o3, .ref a4, .int (nI n), .int (nI 1), .int li, .int ne])), (a2, .inl (cA 0, 16, .inl (nA ph))), (o3, .inr (0, [.ref b1, .int (nI u.2.2.2.1), .int (nI u.2.2.2.2.1), .ref t1, .ref g1, .int (nI u.2.2.2.2.2)])), (b1, .inl (cA 0, 16, .inl (nA u.1))), (t1, .inl (cA 0, 16, .inl (nA u.2.1))), (g1, .inl (cA 4, 17, .inr (.inr (.inr (.inr (zg_o rr))))))] ++ zg_w cA rr u.2.2.1)) u) t) (va_A ([(o, .inr (2, [.ref a1, .ref a2, .ref o3, .ref a4, .int (nI n), .int (nI lk), .int li, .int ne])), (a2, .inl (cA 0, 16, .inl (nA ph))), (o3, .inr (0, [.ref b1, .int (nI od), .int (nI fi), .ref t1, .ref g1, .int (nI la0)])), (b1, .inl (cA 0, 16, .inl (nA be))), (t1, .inl (cA 0, 16, .inl (nA tr))), (g1, .inl (cA 4, 17, .inr (.inr (.inr (.inr (zg_o rr))))))] ++ zg_w cA rr M) sz)) 0 0 (va_A ([(o, .inr (2, [.ref a1, .ref a2, .ref o3, .ref a4, .int (nI n), .int (nI lk), .int li, .int ne])), (a2, .inl (cA 0, 16, .inl (nA ph))), (o3, .inr (0, [.ref b1, .int (nI od), .int (nI fi), .ref t1, .ref g1, .int (nI la0)])), (b1, .inl (cA 0, 16, .inl (nA be))), (t1, .inl (cA 0, 16, .inl (nA tr))), (g1, .inl (cA 4, 17, .inr (.inr (.inr (.inr (zg_o rr))))))] ++ zg_w cA rr M) sz) := by
  refine Met.ofW (cc := pc_c_neededParities) (maxL := 4) (ret := (some .int)) (by decide) rfl ?_
  intro p e s m args below meth c s₁ B hml hv
  obtain ⟨rfl, hsz, hP, hK, hD0, hZ⟩ := hv
  have hx := B.exec
  have hb := B.bytes
  have hr := B.returns
  have hts0 := atoms_spec (ws := pc_w_neededParities) B.pre
  have hts : ∀ w ∈ zz_tbl, w.before _ s = true := fun w h => hts0 w (List.mem_cons_of_mem _ h)
  have hown : s.vm.findClass pc_R = some m.cls := findClass_of_methodNamed B.named
  have hlocks := B.notSynchronized
  subst hsz
  have hD := hD0.self (sz := s.heap.size)
  generalize hAe : va_A ([(o, .inr (2, [.ref a1, .ref a2, .ref o3, .ref a4, .int (nI n), .int (nI lk), .int li, .int ne])), (a2, .inl (cA 0, 16, .inl (nA ph))), (o3, .inr (0, [.ref b1, .int (nI od), .int (nI fi), .ref t1, .ref g1, .int (nI la0)])), (b1, .inl (cA 0, 16, .inl (nA be))), (t1, .inl (cA 0, 16, .inl (nA tr))), (g1, .inl (cA 4, 17, .inr (.inr (.inr (.inr (zg_o rr))))))] ++ zg_w cA rr M) s.heap.size = A at hD hZ ⊢
  have hA : ∀ q : Nat, s.heap.size ≤ q → A q := fun q h => by rw [← hAe]; exact Or.inr h
  have hS : va_S A s.heap s.heap [] := va_S.rf
  have hP : va_P (dC, dI) zz_cl ([(o, .inr (2, [.ref a1, .ref a2, .ref o3, .ref a4, .int (nI n), .int (nI lk), .int li, .int ne])), (a2, .inl (cA 0, 16, .inl (nA ph))), (o3, .inr (0, [.ref b1, .int (nI od), .int (nI fi), .ref t1, .ref g1, .int (nI la0)])), (b1, .inl (cA 0, 16, .inl (nA be))), (t1, .inl (cA 0, 16, .inl (nA tr))), (g1, .inl (cA 4, 17, .inr (.inr (.inr (.inr (zg_o rr))))))] ++ zg_w cA rr M) s.heap := hP
  have hl := lv_entry ([.ref o]) (n := 4) (Nat.le_of_ble_eq_true rfl)
  rw [lg_entry_eq]
  generalize (lg_sl ([.ref o]) ++ List.replicate (4 - (lg_sl ([.ref o])).length) Slot.unset).toArray = ls at hl ⊢
  have hl : lv_has ls 4 [(0, .ref o)] := hl
  have hpow : 0 < 2 ^ n := Nat.two_pow_pos n
  have hpow2 : 2 ^ n ≤ 2 ^ 4 := Nat.pow_le_pow_right (by decide) hn
  refine lv_aload_n hx hb pc_d_neededParities_0 rfl (lv_at hl 0 rfl) ?_
  refine zq_Vwr (ra := fun _ => o3) (n := 0) (As := []) (rest := []) (wc := ([(o, .inr (2, [.ref a1, .ref a2, .ref o3, .ref a4, .int (nI n), .int (nI lk), .int li, .int ne])), (a2, .inl (cA 0, 16, .inl (nA ph))), (o3, .inr (0, [.ref b1, .int (nI od), .int (nI fi), .ref t1, .ref g1, .int (nI la0)])), (b1, .inl (cA 0, 16, .inl (nA be))), (t1, .inl (cA 0, 16, .inl (nA tr))), (g1, .inl (cA 4, 17, .inr (.inr (.inr (.inr (zg_o rr))))))] ++ zg_w cA rr M)) (wr := []) ⟨hx, hb, hml, hown, hts⟩ (pc_knownLeast l dC dI cA _ o a1 a2 o3 a4 b1 t1 g1 n lk od fi la0 li ne ph be tr rr M hn1 hn hlk hph hbe htr hkn) zg_pc65 (by decide +kernel) ⟨rfl, rfl⟩ ⟨Nat.le_of_ble_eq_true rfl, Nat.le_of_ble_eq_true rfl⟩ hK hP hD hS hA hZ [0, 1, 2, 3, 4, 5, 6, 7, 8, 9, 10, 11, 12, 13, 14, 15, 16, 17, 18, 19, 20, 21, 22] [] rfl rfl (by decide) 2 0 rfl rfl rfl rfl hl.1 rfl (Nat.le_of_ble_eq_true rfl) pc_d_neededParities_1 (fun u_3 H locs h_2 hP hD hS => ?_) ⟨Nat.le_of_ble_eq_true rfl, Nat.le_of_ble_eq_true rfl⟩
  obtain ⟨be3, tr3, M3, od3, fi3, la3⟩ := u_3
  obtain ⟨lb3, lt3, lz3⟩ := h_2
  try dsimp only at lb3 lt3 lz3
  have hP : va_P (dC, dI) zz_cl ([(o, .inr (2, [.ref a1, .ref a2, .ref o3, .ref a4, .int (nI n), .int (nI 1), .int li, .int ne])), (a2, .inl (cA 0, 16, .inl (nA ph))), (o3, .inr (0, [.ref b1, .int (nI od3), .int (nI fi3), .ref t1, .ref g1, .int (nI la3)])), (b1, .inl (cA 0, 16, .inl (nA be3))), (t1, .inl (cA 0, 16, .inl (nA tr3))), (g1, .inl (cA 4, 17, .inr (.inr (.inr (.inr (zg_o rr))))))] ++ zg_w cA rr M3) H := hP
  have hD : va_D A ([(o, .inr (2, [.ref a1, .ref a2, .ref o3, .ref a4, .int (nI n), .int (nI 1), .int li, .int ne])), (a2, .inl (cA 0, 16, .inl (nA ph))), (o3, .inr (0, [.ref b1, .int (nI od3), .int (nI fi3), .ref t1, .ref g1, .int (nI la3)])), (b1, .inl (cA 0, 16, .inl (nA be3))), (t1, .inl (cA 0, 16, .inl (nA tr3))), (g1, .inl (cA 4, 17, .inr (.inr (.inr (.inr (zg_o rr))))))] ++ zg_w cA rr M3) := hD
  refine va_get (D := (dC, dI)) (ci := 0) (v := .ref b1) (C := lp_R) (T := lp_T) (N := 6) hx hb hts lp_in hown hK hP 2 rfl rfl 0 (by decide) (hts _ zk_pc75) (fun _ h9 => h9) rfl pc_d_neededParities_4 ?_
  refine lv_astore_n (lv' := [(1, .ref b1), (0, .ref o)]) hx hb pc_d_neededParities_7 rfl hl (by decide) rfl (fun ls hl => ?_)
  refine lv_iconst (v := (nI 0)) hx hb pc_d_neededParities_8 (by decide) ?_
  refine lv_istore_n (lv' := [(2, .int (nI 0)), (1, .ref b1), (0, .ref o)]) hx hb pc_d_neededParities_9 rfl hl (by decide) rfl (fun ls hl => ?_)
  refine lv_iconst (v := (nI 1)) hx hb pc_d_neededParities_10 (by decide) ?_
  refine lv_istore_n (lv' := [(3, .int (nI 1)), (2, .int (nI 0)), (1, .ref b1), (0, .ref o)]) hx hb pc_d_neededParities_11 rfl hl (by decide) rfl (fun ls hl => ?_)
  refine zl_loop (J := fun k ls H locs => ∃ (i : Nat) (nd : Nat), k = 2 ^ n - 1 - i ∧ (i ≤ 2 ^ n - 1) ∧ (nd = zc_need be3 i) ∧ va_P (dC, dI) zz_cl ([(o, .inr (2, [.ref a1, .ref a2, .ref o3, .ref a4, .int (nI n), .int (nI 1), .int li, .int ne])), (a2, .inl (cA 0, 16, .inl (nA ph))), (o3, .inr (0, [.ref b1, .int (nI od3), .int (nI fi3), .ref t1, .ref g1, .int (nI la3)])), (b1, .inl (cA 0, 16, .inl (nA be3))), (t1, .inl (cA 0, 16, .inl (nA tr3))), (g1, .inl (cA 4, 17, .inr (.inr (.inr (.inr (zg_o rr))))))] ++ zg_w cA rr M3) H ∧ va_D A ([(o, .inr (2, [.ref a1, .ref a2, .ref o3, .ref a4, .int (nI n), .int (nI 1), .int li, .int ne])), (a2, .inl (cA 0, 16, .inl (nA ph))), (o3, .inr (0, [.ref b1, .int (nI od3), .int (nI fi3), .ref t1, .ref g1, .int (nI la3)])), (b1, .inl (cA 0, 16, .inl (nA be3))), (t1, .inl (cA 0, 16, .inl (nA tr3))), (g1, .inl (cA 4, 17, .inr (.inr (.inr (.inr (zg_o rr))))))] ++ zg_w cA rr M3) ∧ va_S A s.heap H locs ∧ lv_has ls 4 [(0, .ref o), (1, .ref b1), (2, .int (nI nd)), (3, .int (nI (i + 1)))]) (fun k12 ls H locs hJ12 ih12 => ?_) (2 ^ n - 1 - 0) ⟨0, 0, rfl, Nat.zero_le _, rfl, hP, hD, hS, lv_sub hl [3, 2, 1, 0] rfl⟩
  obtain ⟨i, nd, hk12, hi, hnd, hP, hD, hS, hl⟩ := hJ12
  refine lv_iload_n hx hb pc_d_neededParities_12 rfl (lv_at hl 3 rfl) ?_
  refine lv_aload_n hx hb pc_d_neededParities_13 rfl (lv_at hl 0 rfl) ?_
  refine zq_Vi (n := 0) (As := []) (rest := [.int (nI (i + 1))]) ⟨hx, hb, hml, hown, hts⟩ (pc_lastParity l dC dI cA o a1 a2 o3 a4 n 1 li ne (by omega)) zg_pc55 (by decide +kernel) ⟨rfl, rfl⟩ ⟨Nat.le_of_ble_eq_true rfl, Nat.le_of_ble_eq_true rfl⟩ hK (hP.sub (ws' := [(o, .inr (2, [.ref a1, .ref a2, .ref o3, .ref a4, .int (nI n), .int (nI 1), .int li, .int ne]))]) [0] rfl) 2 0 rfl rfl rfl rfl hl.1 rfl (Nat.le_of_ble_eq_true rfl) pc_d_neededParities_14 (fun r_4 h_5 => ?_) ⟨Nat.le_of_ble_eq_true rfl, Nat.le_of_ble_eq_true rfl⟩
  subst h_5
  refine zc_gt (tgt := 40) hx hb pc_d_neededParities_17 (by decide) (by omega) (by omega) (fun c_6 => ?_) (fun c_6 => ?_)
  · refine lv_iload_n hx hb pc_d_neededParities_40 rfl (lv_at hl 2 rfl) ?_
    have hP9 := hP.sub (ws' := ([(o, .inr (2, [.ref a1, .ref a2, .ref o3, .ref a4, .int (nI n), .int (nI 1), .int li, .int ne])), (a2, .inl (cA 0, 16, .inl (nA ph))), (o3, .inr (0, [.ref b1, .int (nI od3), .int (nI fi3), .ref t1, .ref g1, .int (nI la3)])), (b1, .inl (cA 0, 16, .inl (nA be3))), (t1, .inl (cA 0, 16, .inl (nA tr3))), (g1, .inl (cA 4, 17, .inr (.inr (.inr (.inr (zg_o rr))))))] ++ zg_w cA rr M3)) [0, 1, 2, 3, 4, 5, 6, 7, 8, 9, 10, 11, 12, 13, 14, 15, 16, 17, 18, 19, 20, 21, 22] rfl
    have hD9 := hD.sub (ws' := ([(o, .inr (2, [.ref a1, .ref a2, .ref o3, .ref a4, .int (nI n), .int (nI 1), .int li, .int ne])), (a2, .inl (cA 0, 16, .inl (nA ph))), (o3, .inr (0, [.ref b1, .int (nI od3), .int (nI fi3), .ref t1, .ref g1, .int (nI la3)])), (b1, .inl (cA 0, 16, .inl (nA be3))), (t1, .inl (cA 0, 16, .inl (nA tr3))), (g1, .inl (cA 4, 17, .inr (.inr (.inr (.inr (zg_o rr))))))] ++ zg_w cA rr M3)) [0, 1, 2, 3, 4, 5, 6, 7, 8, 9, 10, 11, 12, 13, 14, 15, 16, 17, 18, 19, 20, 21, 22] (by decide) rfl
    exact W.iret (v := (nI nd)) hx hb hr (fun t ht hW => ⟨⟨(nI nd), (be3, tr3, M3, od3, fi3, la3), rfl, ⟨lb3, lt3, lz3, by rw [hnd, show i = 2 ^ n - 1 by omega]⟩, by rw [ht]; exact hP9, hD9⟩, hS.F ht⟩) hS.2.2 pc_d_neededParities_41
  · refine lv_aload_n hx hb pc_d_neededParities_20 rfl (lv_at hl 1 rfl) ?_
    refine lv_iload_n hx hb pc_d_neededParities_21 rfl (lv_at hl 3 rfl) ?_
    refine zv_iald hx hb hK hP 3 0 rfl rfl (k := (i + 1)) (by omega) (by omega) pc_d_neededParities_22 ?_
    have h8 := lb3 (i + 1)
    refine zi_eq (tgt := 34) hx hb pc_d_neededParities_23 (by decide) (by omega) (fun c_7 => ?_) (fun c_7 => ?_)
    · refine lv_iinc (v := (nI ((i + 1) + 1))) (lv' := [(3, .int (nI ((i + 1) + 1))), (0, .ref o), (1, .ref b1), (2, .int (nI nd))]) hx hb pc_d_neededParities_34 hl (k := 3) rfl (nI_1 (i + 1)) (by decide) rfl (fun ls hl => ?_)
      refine lv_goto (tgt := 12) hx hb pc_d_neededParities_37 (by decide) ?_
      exact ih12 _ _ _ _ (by omega) ⟨i + 1, _, rfl, by omega, by rw [zc_need0 c_7]; exact hnd, hP, hD, hS, lv_sub hl [1, 2, 3, 0] rfl⟩
    · refine lv_iload_n hx hb pc_d_neededParities_26 rfl (lv_at hl 2 rfl) ?_
      refine lv_iconst (v := (nI 1)) hx hb pc_d_neededParities_27 (by decide) ?_
      refine lv_iload_n hx hb pc_d_neededParities_28 rfl (lv_at hl 3 rfl) ?_
      refine lv_iconst (v := (nI 1)) hx hb pc_d_neededParities_29 (by decide) ?_
      refine lv_isub hx hb pc_d_neededParities_30 ?_
      refine zt_i (pk_sub (a := (i + 1)) (b := 1) (by omega)) ?_
      refine lv_ishl hx hb pc_d_neededParities_31 ?_
      refine zt_i (zb_shl1 (k := ((i + 1) - 1)) (by omega)) ?_
      refine lv_ior hx hb pc_d_neededParities_32 ?_
      refine zt_i (zb_or nd (2 ^ ((i + 1) - 1))) ?_
      refine lv_istore_n (lv' := [(2, .int (nI (nd ||| (2 ^ ((i + 1) - 1))))), (0, .ref o), (1, .ref b1), (3, .int (nI (i + 1)))]) hx hb pc_d_neededParities_33 rfl hl (by decide) rfl (fun ls hl => ?_)
      refine lv_iinc (v := (nI ((i + 1) + 1))) (lv' := [(3, .int (nI ((i + 1) + 1))), (2, .int (nI (nd ||| (2 ^ ((i + 1) - 1))))), (0, .ref o), (1, .ref b1)]) hx hb pc_d_neededParities_34 hl (k := 3) rfl (nI_1 (i + 1)) (by decide) rfl (fun ls hl => ?_)
      refine lv_goto (tgt := 12) hx hb pc_d_neededParities_37 (by decide) ?_
      exact ih12 _ _ _ _ (by omega) ⟨i + 1, _, rfl, by omega, by rw [zc_need1 c_7, hnd, show i + 1 - 1 = i by omega], hP, hD, hS, lv_sub hl [2, 3, 1, 0] rfl⟩
set_option maxHeartbeats 4000000 in
set_option maxRecDepth 100000 in
/-- total(x) -/
theorem pc_total (l : Launch) (dC : Nat → ClassId) (dI : Nat → Nat → Nat) (cA : Nat → ClassId) (sz : Nat) (o a1 a2 o3 a4 n lk : Nat) (li ne : Int32) (ph : Nat → Nat) (x : Int32) (hn1 : 1 ≤ n) (hn : n ≤ 4) (hph : ∀ j, ph j < 8) : Met l pc_y_total pc_w_total ({ frames := 2, cells := 0, slots := 0, locals := 43 }) (va_Pc [.ref o, .int x] (zB (dC, dI) cA [(o, .inr (2, [.ref a1, .ref a2, .ref o3, .ref a4, .int (nI n), .int (nI lk), .int li, .int ne])), (a2, .inl (cA 0, 16, .inl (nA ph)))] sz)) (va_Qi (fun (r : Int32) (_ : Unit) => zt_ans n (zc_cnt ph 7 (2 ^ n - 1)) (zc_cnt ph 1 (2 ^ n - 1)) (2 ^ (zs_shifts n + (2 ^ n - 1) - n)) x r) (fun u t => zE (dC, dI) (va_A [(o, .inr (2, [.ref a1, .ref a2, .ref o3, .ref a4, .int (nI n), .int (nI lk), .int li, .int ne])), (a2, .inl (cA 0, 16, .inl (nA ph)))] sz) ((fun _ => [(o, .inr (2, [.ref a1, .ref a2, .ref o3, .ref a4, .int (nI n), .int (nI lk), .int li, .int ne])), (a2, .inl (cA 0, 16, .inl (nA ph)))]) u) t) (va_A [(o, .inr (2, [.ref a1, .ref a2, .ref o3, .ref a4, .int (nI n), .int (nI lk), .int li, .int ne])), (a2, .inl (cA 0, 16, .inl (nA ph)))] sz)) 0 0 (va_A [(o, .inr (2, [.ref a1, .ref a2, .ref o3, .ref a4, .int (nI n), .int (nI lk), .int li, .int ne])), (a2, .inl (cA 0, 16, .inl (nA ph)))] sz) := by
  refine Met.ofW (cc := pc_c_total) (maxL := 2) (ret := (some .int)) (by decide) rfl ?_
  intro p e s m args below meth c s₁ B hml hv
  obtain ⟨rfl, hsz, hP, hK, hD0, hZ⟩ := hv
  have hx := B.exec
  have hb := B.bytes
  have hr := B.returns
  have hts0 := atoms_spec (ws := pc_w_total) B.pre
  have hts : ∀ w ∈ zz_tbl, w.before _ s = true := fun w h => hts0 w (List.mem_cons_of_mem _ h)
  have hown : s.vm.findClass pc_R = some m.cls := findClass_of_methodNamed B.named
  have hlocks := B.notSynchronized
  subst hsz
  have hD := hD0.self (sz := s.heap.size)
  generalize hAe : va_A [(o, .inr (2, [.ref a1, .ref a2, .ref o3, .ref a4, .int (nI n), .int (nI lk), .int li, .int ne])), (a2, .inl (cA 0, 16, .inl (nA ph)))] s.heap.size = A at hD hZ ⊢
  have hA : ∀ q : Nat, s.heap.size ≤ q → A q := fun q h => by rw [← hAe]; exact Or.inr h
  have hS : va_S A s.heap s.heap [] := va_S.rf
  have hP : va_P (dC, dI) zz_cl [(o, .inr (2, [.ref a1, .ref a2, .ref o3, .ref a4, .int (nI n), .int (nI lk), .int li, .int ne])), (a2, .inl (cA 0, 16, .inl (nA ph)))] s.heap := hP
  have hl := lv_entry ([.ref o, .int x]) (n := 2) (Nat.le_of_ble_eq_true rfl)
  rw [lg_entry_eq]
  generalize (lg_sl ([.ref o, .int x]) ++ List.replicate (2 - (lg_sl ([.ref o, .int x])).length) Slot.unset).toArray = ls at hl ⊢
  have hl : lv_has ls 2 [(0, .ref o), (1, .int x)] := hl
  refine lv_iload_n hx hb pc_d_total_0 rfl (lv_at hl 1 rfl) ?_
  rcases zt_03 x with rfl | rfl | rfl | rfl | hno
  · refine lv_tableIn (off := 31) (tgt := 32) hx hb pc_d_total_1 (by decide) (by decide) (by decide) (by decide) ?_
    refine lv_aload_n hx hb pc_d_total_32 rfl (lv_at hl 0 rfl) ?_
    refine va_get (D := (dC, dI)) (ci := 2) (v := .int (nI n)) (C := pc_R) (T := pc_T) (N := 8) hx hb hts pc_in hown hK hP 0 rfl rfl 4 (by decide) (hts _ zk_pc95) (fun _ h9 => h9) rfl pc_d_total_33 ?_
    have hP9 := hP.sub (ws' := [(o, .inr (2, [.ref a1, .ref a2, .ref o3, .ref a4, .int (nI n), .int (nI lk), .int li, .int ne])), (a2, .inl (cA 0, 16, .inl (nA ph)))]) [0, 1] rfl
    have hD9 := hD.sub (ws' := [(o, .inr (2, [.ref a1, .ref a2, .ref o3, .ref a4, .int (nI n), .int (nI lk), .int li, .int ne])), (a2, .inl (cA 0, 16, .inl (nA ph)))]) [0, 1] (by decide) rfl
    exact W.iret (v := (nI n)) hx hb hr (fun t ht hW => ⟨⟨(nI n), (), rfl, Or.inl ⟨rfl, rfl⟩, by rw [ht]; exact hP9, hD9⟩, hS.F ht⟩) hS.2.2 pc_d_total_36
  · refine lv_tableIn (off := 36) (tgt := 37) hx hb pc_d_total_1 (by decide) (by decide) (by decide) (by decide) ?_
    refine lv_aload_n hx hb pc_d_total_37 rfl (lv_at hl 0 rfl) ?_
    refine lv_bipush (v := (nI 7)) hx hb pc_d_total_38 (by decide) ?_
    refine zq_Vi (n := 1) (As := [.int (nI 7)]) (rest := []) ⟨hx, hb, hml, hown, hts⟩ (pc_countPhases l dC dI cA o a1 a2 o3 a4 n lk li ne ph 7 (by omega) hph) zg_pc101 (by decide +kernel) ⟨rfl, rfl⟩ ⟨Nat.le_of_ble_eq_true rfl, Nat.le_of_ble_eq_true rfl⟩ hK (hP.sub (ws' := [(o, .inr (2, [.ref a1, .ref a2, .ref o3, .ref a4, .int (nI n), .int (nI lk), .int li, .int ne])), (a2, .inl (cA 0, 16, .inl (nA ph)))]) [0, 1] rfl) 2 0 rfl rfl rfl rfl hl.1 rfl (Nat.le_of_ble_eq_true rfl) pc_d_total_40 (fun r_1 h_2 => ?_) ⟨Nat.le_of_ble_eq_true rfl, Nat.le_of_ble_eq_true rfl⟩
    subst h_2
    have hP9 := hP.sub (ws' := [(o, .inr (2, [.ref a1, .ref a2, .ref o3, .ref a4, .int (nI n), .int (nI lk), .int li, .int ne])), (a2, .inl (cA 0, 16, .inl (nA ph)))]) [0, 1] rfl
    have hD9 := hD.sub (ws' := [(o, .inr (2, [.ref a1, .ref a2, .ref o3, .ref a4, .int (nI n), .int (nI lk), .int li, .int ne])), (a2, .inl (cA 0, 16, .inl (nA ph)))]) [0, 1] (by decide) rfl
    exact W.iret (v := (nI (zc_cnt ph 7 (2 ^ n - 1)))) hx hb hr (fun t ht hW => ⟨⟨(nI (zc_cnt ph 7 (2 ^ n - 1))), (), rfl, Or.inr (Or.inl ⟨rfl, rfl⟩), by rw [ht]; exact hP9, hD9⟩, hS.F ht⟩) hS.2.2 pc_d_total_43
  · refine lv_tableIn (off := 43) (tgt := 44) hx hb pc_d_total_1 (by decide) (by decide) (by decide) (by decide) ?_
    refine lv_aload_n hx hb pc_d_total_44 rfl (lv_at hl 0 rfl) ?_
    refine lv_iconst (v := (nI 1)) hx hb pc_d_total_45 (by decide) ?_
    refine zq_Vi (n := 1) (As := [.int (nI 1)]) (rest := []) ⟨hx, hb, hml, hown, hts⟩ (pc_countPhases l dC dI cA o a1 a2 o3 a4 n lk li ne ph 1 (by omega) hph) zg_pc101 (by decide +kernel) ⟨rfl, rfl⟩ ⟨Nat.le_of_ble_eq_true rfl, Nat.le_of_ble_eq_true rfl⟩ hK (hP.sub (ws' := [(o, .inr (2, [.ref a1, .ref a2, .ref o3, .ref a4, .int (nI n), .int (nI lk), .int li, .int ne])), (a2, .inl (cA 0, 16, .inl (nA ph)))]) [0, 1] rfl) 2 0 rfl rfl rfl rfl hl.1 rfl (Nat.le_of_ble_eq_true rfl) pc_d_total_46 (fun r_3 h_4 => ?_) ⟨Nat.le_of_ble_eq_true rfl, Nat.le_of_ble_eq_true rfl⟩
    subst h_4
    have hP9 := hP.sub (ws' := [(o, .inr (2, [.ref a1, .ref a2, .ref o3, .ref a4, .int (nI n), .int (nI lk), .int li, .int ne])), (a2, .inl (cA 0, 16, .inl (nA ph)))]) [0, 1] rfl
    have hD9 := hD.sub (ws' := [(o, .inr (2, [.ref a1, .ref a2, .ref o3, .ref a4, .int (nI n), .int (nI lk), .int li, .int ne])), (a2, .inl (cA 0, 16, .inl (nA ph)))]) [0, 1] (by decide) rfl
    exact W.iret (v := (nI (zc_cnt ph 1 (2 ^ n - 1)))) hx hb hr (fun t ht hW => ⟨⟨(nI (zc_cnt ph 1 (2 ^ n - 1))), (), rfl, Or.inr (Or.inr (Or.inl ⟨rfl, rfl⟩)), by rw [ht]; exact hP9, hD9⟩, hS.F ht⟩) hS.2.2 pc_d_total_49
  · refine lv_tableIn (off := 49) (tgt := 50) hx hb pc_d_total_1 (by decide) (by decide) (by decide) (by decide) ?_
    refine lv_aload_n hx hb pc_d_total_50 rfl (lv_at hl 0 rfl) ?_
    refine va_get (D := (dC, dI)) (ci := 2) (v := .int (nI n)) (C := pc_R) (T := pc_T) (N := 8) hx hb hts pc_in hown hK hP 0 rfl rfl 4 (by decide) (hts _ zk_pc95) (fun _ h9 => h9) rfl pc_d_total_51 ?_
    refine zq_Sz (n := 1) (As := [.int (nI n)]) (rest := []) ⟨hx, hb, hml, hown, hts⟩ (lp_countWays l n hn1 hn) zg_pc104 (by decide +kernel) ⟨rfl, rfl⟩ ⟨Nat.le_of_ble_eq_true rfl, Nat.le_of_ble_eq_true rfl⟩ hS hZ rfl hl.1 rfl (Nat.le_of_ble_eq_true rfl) pc_d_total_54 (fun r_5 h_6 => ?_) ⟨Nat.le_of_ble_eq_true rfl, Nat.le_of_ble_eq_true rfl⟩
    subst h_6
    have hP9 := hP.sub (ws' := [(o, .inr (2, [.ref a1, .ref a2, .ref o3, .ref a4, .int (nI n), .int (nI lk), .int li, .int ne])), (a2, .inl (cA 0, 16, .inl (nA ph)))]) [0, 1] rfl
    have hD9 := hD.sub (ws' := [(o, .inr (2, [.ref a1, .ref a2, .ref o3, .ref a4, .int (nI n), .int (nI lk), .int li, .int ne])), (a2, .inl (cA 0, 16, .inl (nA ph)))]) [0, 1] (by decide) rfl
    exact W.iret (v := (nI (2 ^ (zs_shifts n + (2 ^ n - 1) - n)))) hx hb hr (fun t ht hW => ⟨⟨(nI (2 ^ (zs_shifts n + (2 ^ n - 1) - n))), (), rfl, Or.inr (Or.inr (Or.inr (Or.inl ⟨rfl, rfl⟩))), by rw [ht]; exact hP9, hD9⟩, hS.F ht⟩) hS.2.2 pc_d_total_57
  · refine lv_tableOut (tgt := 58) hx hb pc_d_total_1 hno.2 (by decide) ?_
    refine lv_iconst (v := (-1)) hx hb pc_d_total_58 (by decide) ?_
    have hP9 := hP.sub (ws' := [(o, .inr (2, [.ref a1, .ref a2, .ref o3, .ref a4, .int (nI n), .int (nI lk), .int li, .int ne])), (a2, .inl (cA 0, 16, .inl (nA ph)))]) [0, 1] rfl
    have hD9 := hD.sub (ws' := [(o, .inr (2, [.ref a1, .ref a2, .ref o3, .ref a4, .int (nI n), .int (nI lk), .int li, .int ne])), (a2, .inl (cA 0, 16, .inl (nA ph)))]) [0, 1] (by decide) rfl
    exact W.iret (v := (-1)) hx hb hr (fun t ht hW => ⟨⟨(-1), (), rfl, Or.inr (Or.inr (Or.inr (Or.inr ⟨hno.1, rfl⟩))), by rw [ht]; exact hP9, hD9⟩, hS.F ht⟩) hS.2.2 pc_d_total_59
