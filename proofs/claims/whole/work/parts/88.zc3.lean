theorem zseg (x0 x1 x2 x3 x4 x5 x6 x7 x8 : va_W) (a b c : Nat × va_E) (R : va_W) : zfl [x0, x1, x2, x3, x4, x5, x6, x7, x8, [a], [b], [c], R] = zfl [x0, x1, x2, x3, x4, x5, x6, x7, x8, [a, b, c] ++ R] := rfl
theorem zPn_le {n : Nat} (h1 : 1 ≤ n) (hn : n ≤ 4) : zPn n ≤ 65536 ∧ zMl n < 2 ^ 31 := by
  rcases (show n = 1 ∨ n = 2 ∨ n = 3 ∨ n = 4 by omega) with rfl | rfl | rfl | rfl <;> decide
theorem zwt_lin {n : Nat} {pa pa0 : Nat → Nat} (h1 : 1 ≤ n) (hn : n ≤ 4) (h : zr n pa) (e : zc_code n pa0 n = zc_code n pa n) : zc_code n pa0 n ||| 0 * 2 ^ (n * n) < 2 ^ 31 := by
  rw [e, Nat.zero_mul, Nat.or_zero]
  refine Nat.lt_of_lt_of_le (zr_lt h1 hn h) (Nat.pow_le_pow_right (by decide) ?_)
  have := Nat.mul_le_mul hn hn
  omega
theorem zwt_net {n : Nat} {pa pa0 : Nat → Nat} (h1 : 1 ≤ n) (hn : n ≤ 3) (h : zr n pa) (e : zc_code n pa0 n = zc_code n pa n) : ∀ nd, nd < 128 → zc_code n pa0 n ||| nd * 2 ^ (n * n) < 2 ^ 31 := by
  intro nd hd
  rw [e]
  have a := zr_lt h1 (by omega) h
  have b := (br_sz h1 hn).1
  have c : nd * 2 ^ (n * n) ≤ 128 * 512 := Nat.mul_le_mul (by omega) b
  exact Nat.or_lt_two_pow (n := 31) (by omega) (by omega)
theorem zcnt_up1 {sf : Nat → Option Nat} {kc q : Nat} (h : kc = zcnt sf) (e : sf 1 = none) : kc + 3 = zcnt (va_up sf 1 (some q)) := by
  rw [h]
  simp [zcnt, va_up, e, zon]
  try omega
theorem zslt_up1 {sf : Nat → Option Nat} {ks q : Nat} (h : ks = zslt sf) (e : sf 1 = none) : ks + 9 = zslt (va_up sf 1 (some q)) := by
  rw [h]
  simp [zslt, va_up, e, zon]
  try omega
theorem zcnt_up2 {sf : Nat → Option Nat} {kc q : Nat} (h : kc = zcnt sf) (e : sf 2 = none) : kc + 3 = zcnt (va_up sf 2 (some q)) := by
  rw [h]
  simp [zcnt, va_up, e, zon]
  try omega
theorem zslt_up2 {sf : Nat → Option Nat} {ks q : Nat} (h : ks = zslt sf) (e : sf 2 = none) : ks + 19 = zslt (va_up sf 2 (some q)) := by
  rw [h]
  simp [zslt, va_up, e, zon]
  try omega
theorem zcnt_up3 {sf : Nat → Option Nat} {kc q : Nat} (h : kc = zcnt sf) (e : sf 3 = none) : kc + 3 = zcnt (va_up sf 3 (some q)) := by
  rw [h]
  simp [zcnt, va_up, e, zon]
  try omega
theorem zslt_up3 {sf : Nat → Option Nat} {ks q : Nat} (h : ks = zslt sf) (e : sf 3 = none) : ks + 2915 = zslt (va_up sf 3 (some q)) := by
  rw [h]
  simp [zslt, va_up, e, zon]
  try omega
theorem zcnt_up4 {sf : Nat → Option Nat} {kc q : Nat} (h : kc = zcnt sf) (e : sf 4 = none) : kc + 3 = zcnt (va_up sf 4 (some q)) := by
  rw [h]
  simp [zcnt, va_up, e, zon]
  try omega
theorem zslt_up4 {sf : Nat → Option Nat} {ks q : Nat} (h : ks = zslt sf) (e : sf 4 = none) : ks + 22216 = zslt (va_up sf 4 (some q)) := by
  rw [h]
  simp [zslt, va_up, e, zon]
  try omega
section ZCALL
variable {p : Program} {l : Launch} {e : Env} {s : State} {m : MethodId} {args : Array Value} {below : List Frame} {meth : Method} {c : Code} {H : Heap} {locs : List Loc} {Q : State → Prop} {ls : Array Slot} {dC : Nat → ClassId} {dI : Nat → Nat → Nat} {cA : Nat → ClassId} {A0 : Nat → Prop} {w wo : va_W} {o kc ks n : Nat} {pa ph : Nat → Nat}
set_option maxHeartbeats 4000000 in
set_option maxRecDepth 100000 in
theorem zC_linear (S : CallFix p m c code 4 s args zz_tbl lw_R) (hK : va_K (dC, dI) zz_cl (zT cA) s) (hA : ∀ q, s.heap.size ≤ q → A0 q) (hZ : zs_all A0 s) (hC : zCR cA o kc ks n pa ph w) (hP : va_P (dC, dI) zz_cl (w ++ wo) H) (hD : va_D A0 (w ++ wo)) (hS : va_S A0 s.heap H locs) (x : Int32) (hl : ls.size = 4)
    (kk : ∀ (r : Int32) (kc' ks' : Nat) (w' : va_W) (H1 : Heap) (locs1 : List Loc), zQi n pa x r → zCR cA o kc' ks' n pa ph w' → va_P (dC, dI) zz_cl (w' ++ wo) H1 → va_D A0 (w' ++ wo) → va_S A0 s.heap H1 locs1 → W p l e room_1 s m args below meth c H1 locs1 (38 + kc') (262777 + ks') Q (F0 m 332 ls [.int r])) : W p l e room_1 s m args below meth c H locs (38 + kc) (262777 + ks) Q (F0 m 329 ls [.int x, .ref o]) := by
  obtain ⟨a1, a2, o3, b1, t1, g1, a4, lk, od, fi, la0, li, ne, sf, pa0, ph0, be, tr, rr, M, XX, L, rfl, ⟨hkc, hks⟩, ⟨hn1, hn, hzr, hp8⟩, ⟨hpa, hph, hq8⟩, ⟨hlk, hbe, htr, hkn⟩, hX, hli, hne⟩ := hC
  have hbd := zcnt_le hkc hks
  obtain ⟨Xn, Rx, hpe, hXo, hre⟩ := zXs_split hn1 hn hX
  have hPx := hP
  have hpe2 := (zx_last [[(o, .inr (2, [.ref a1, .ref a2, .ref o3, .ref a4, .int (nI n), .int (nI lk), .int li, .int ne]))], [(a1, .inl (cA 0, 4, .inl (nA pa0)))], [(a2, .inl (cA 0, 16, .inl (nA ph0)))], [(o3, .inr (0, [.ref b1, .int (nI od), .int (nI fi), .ref t1, .ref g1, .int (nI la0)]))], [(b1, .inl (cA 0, 16, .inl (nA be)))], [(t1, .inl (cA 0, 16, .inl (nA tr)))], [(g1, .inl (cA 4, 17, .inr (.inr (.inr (.inr (zg_o rr))))))], zg_w cA rr M, [(a4, .inl (cA 3, 5, .inr (.inr (.inr (.inr sf)))))]] hpe).append_right wo
  have hP := zx_P hpe2 hP
  have hD := zx_D hpe2 hD
  obtain ⟨ws, hws⟩ := zr_lin hn1 hn hzr
  have hcode : zc_code n pa0 n = zc_code n pa n := zc_code_congr n hpa
  have hwt : zc_code n pa0 n ||| 0 * 2 ^ (n * n) < 2 ^ 31 := zwt_lin hn1 hn hzr hcode
  have hf := hws.1
  rw [← hcode] at hf
  rcases hXo with ⟨hsn, rfl, hno⟩ | ⟨q0, p1, m1, cnt, sp, st, fr, lb, pl, mt, pw, hsn, rfl, ⟨hc1, hc2, hI⟩, hLw⟩
  case inr =>
    have hcap := zr_cap hn1 hn
    have hpnb := zPn_le hn1 hn
    have hin : li = (-1) ∨ ∃ k, li = nI k ∧ k < cnt ∧ pw k = ws := by
      rcases hli with z | ⟨ws1, z1, z2⟩
      · exact Or.inl z
      · obtain ⟨j, j1, j2, j3⟩ := hLw _ _ z2
        exact Or.inr ⟨j, j1, j2, j3.trans (zLin_uniq z1 hws)⟩
    refine zx_Vwi (n := 1) (As := [.int x]) (rest := []) S (pc_linear l dC dI cA H.size o a1 a2 o3 a4 q0 p1 m1 n lk (n * n) (if n < 4 then 1 else 0) cnt sp (zPn n) (zMl n) li ne sf pa0 st fr lb pl mt pw ws x hn1 hn hsn rfl rfl hpnb.1 hpnb.2 hc1 hc2 hI hcap.1 hcap.2 hwt hf hin) zg_lw53 (by decide +kernel) ⟨rfl, rfl⟩ ⟨Nat.le_of_ble_eq_true rfl, Nat.le_of_ble_eq_true rfl⟩ hK [[(o, .inr (2, [.ref a1, .ref a2, .ref o3, .ref a4, .int (nI n), .int (nI lk), .int li, .int ne]))], [(a1, .inl (cA 0, 4, .inl (nA pa0)))], [(a2, .inl (cA 0, 16, .inl (nA ph0)))], [(o3, .inr (0, [.ref b1, .int (nI od), .int (nI fi), .ref t1, .ref g1, .int (nI la0)]))], [(b1, .inl (cA 0, 16, .inl (nA be)))], [(t1, .inl (cA 0, 16, .inl (nA tr)))], [(g1, .inl (cA 4, 17, .inr (.inr (.inr (.inr (zg_o rr))))))], zg_w cA rr M, [(a4, .inl (cA 3, 5, .inr (.inr (.inr (.inr sf)))))], [(q0, .inr (1, [.int (nI n), .int (nI (n * n)), .int (nI (if n < 4 then 1 else 0)), .ref p1, .ref m1, .int (nI cnt), .int (nI sp)]))], [(p1, .inl (cA 1, zPn n, .inr (.inl (lA pl))))], [(m1, .inl (cA 0, zMl n, .inl (nA mt)))], Rx] [Rx, [(a2, .inl (cA 0, 16, .inl (nA ph0)))], [(o3, .inr (0, [.ref b1, .int (nI od), .int (nI fi), .ref t1, .ref g1, .int (nI la0)]))], [(b1, .inl (cA 0, 16, .inl (nA be)))], [(t1, .inl (cA 0, 16, .inl (nA tr)))], [(g1, .inl (cA 4, 17, .inr (.inr (.inr (.inr (zg_o rr))))))], zg_w cA rr M] hP hD hS hA hZ [0, 1, 8, 9, 10, 11, 12, 2, 3, 4, 5, 6, 7] 13 rfl (by decide) rfl (fun u => [[(o, .inr (2, [.ref a1, .ref a2, .ref o3, .ref a4, .int (nI n), .int (nI lk), .int u.2.2, .int ne]))], [(a1, .inl (cA 0, 4, .inl (nA pa0)))], [(a2, .inl (cA 0, 16, .inl (nA ph0)))], [(o3, .inr (0, [.ref b1, .int (nI od), .int (nI fi), .ref t1, .ref g1, .int (nI la0)]))], [(b1, .inl (cA 0, 16, .inl (nA be)))], [(t1, .inl (cA 0, 16, .inl (nA tr)))], [(g1, .inl (cA 4, 17, .inr (.inr (.inr (.inr (zg_o rr))))))], zg_w cA rr M, [(a4, .inl (cA 3, 5, .inr (.inr (.inr (.inr sf)))))], [(q0, .inr (1, [.int (nI n), .int (nI (n * n)), .int (nI (if n < 4 then 1 else 0)), .ref p1, .ref m1, .int (nI u.1.2.2.2.2.2.2), .int (nI u.2.1)]))], [(p1, .inl (cA 1, (zPn n), .inr (.inl (lA u.1.2.2.2.2.1))))], [(m1, .inl (cA 0, (zMl n), .inl (nA u.1.2.2.2.2.2.1)))], Rx]) [0, 1, 8, 9, 10, 11, 12, 2, 3, 4, 5, 6, 7] 13 (fun _ => rfl) (by decide) (fun _ => rfl) 2 0 rfl rfl rfl rfl hl rfl (Nat.le_of_ble_eq_true rfl) lw_d_329 (fun r u H1 locs1 hq hP hD hS => ?_) (zcnt_h hbd (by decide) (by decide))
    obtain ⟨y1, y2, y3, y4, y5, y6⟩ := hq
    have hX2 := hre sf _ (fun i w => L i w ∨ (i = u.2.2 ∧ w = ws)) (fun _ _ => rfl) (Or.inr ⟨q0, p1, m1, u.1.2.2.2.2.2.2, u.2.1, _, _, _, u.1.2.2.2.2.1, u.1.2.2.2.2.2.1, _, hsn, rfl, ⟨y4, y3, y2⟩, fun i w hw => by
      rcases hw with hw | ⟨rfl, rfl⟩
      · obtain ⟨j, j1, j2, j3⟩ := hLw i w hw
        exact ⟨j, j1, Nat.lt_of_lt_of_le j2 y5.1, by rw [(y5.2 j j2).2, j3]⟩
      · exact y6⟩)
    obtain ⟨XX2, hXX2⟩ : ∃ X : va_W, X = ([(q0, .inr (1, [.int (nI n), .int (nI (n * n)), .int (nI (if n < 4 then 1 else 0)), .ref p1, .ref m1, .int (nI u.1.2.2.2.2.2.2), .int (nI u.2.1)])), (p1, .inl (cA 1, (zPn n), .inr (.inl (lA u.1.2.2.2.2.1)))), (m1, .inl (cA 0, (zMl n), .inl (nA u.1.2.2.2.2.2.1)))] ++ Rx) := ⟨_, rfl⟩
    rw [zseg, ← hXX2] at hP hD
    have hX3 := hX2
    rw [← hXX2] at hX3
    exact kk r kc ks _ H1 locs1 ⟨ws, hws, y1⟩ ⟨a1, a2, o3, b1, t1, g1, a4, lk, od, fi, la0, u.2.2, ne, sf, pa0, ph0, be, tr, rr, M, XX2, (fun i w => L i w ∨ (i = u.2.2 ∧ w = ws)), rfl, ⟨hkc, hks⟩, ⟨hn1, hn, hzr, hp8⟩, ⟨hpa, hph, hq8⟩, ⟨hlk, hbe, htr, hkn⟩, hX3, (Or.inr ⟨ws, hws, Or.inr ⟨rfl, rfl⟩⟩), (hne.imp id (fun z => ⟨z.1, z.2.imp (fun w z2 => ⟨z2.1, Or.inl z2.2⟩)⟩))⟩ hP hD hS
  have hv1 : li = (-1) := by
    rcases hli with z | ⟨ws1, z1, z2⟩
    · exact z
    · exact absurd z2 (hno _ _)
  subst hv1
  rcases (show n = 1 ∨ n = 2 ∨ n = 3 ∨ n = 4 by omega) with rfl | rfl | rfl | rfl
  · refine zx_Vwi (n := 1) (As := [.int x]) (rest := []) S (pc_linear1 l dC dI cA H.size o a1 a2 o3 a4 lk ne sf pa0 ws x hsn (zr_cap hn1 hn).1 (zr_cap hn1 hn).2 hwt hf) zg_lw53 (by decide +kernel) ⟨rfl, rfl⟩ ⟨Nat.le_of_ble_eq_true rfl, Nat.le_of_ble_eq_true rfl⟩ hK [[(o, .inr (2, [.ref a1, .ref a2, .ref o3, .ref a4, .int (nI 1), .int (nI lk), .int (-1), .int ne]))], [(a1, .inl (cA 0, 4, .inl (nA pa0)))], [(a2, .inl (cA 0, 16, .inl (nA ph0)))], [(o3, .inr (0, [.ref b1, .int (nI od), .int (nI fi), .ref t1, .ref g1, .int (nI la0)]))], [(b1, .inl (cA 0, 16, .inl (nA be)))], [(t1, .inl (cA 0, 16, .inl (nA tr)))], [(g1, .inl (cA 4, 17, .inr (.inr (.inr (.inr (zg_o rr))))))], zg_w cA rr M, [(a4, .inl (cA 3, 5, .inr (.inr (.inr (.inr sf)))))], Rx] [Rx, [(a2, .inl (cA 0, 16, .inl (nA ph0)))], [(o3, .inr (0, [.ref b1, .int (nI od), .int (nI fi), .ref t1, .ref g1, .int (nI la0)]))], [(b1, .inl (cA 0, 16, .inl (nA be)))], [(t1, .inl (cA 0, 16, .inl (nA tr)))], [(g1, .inl (cA 4, 17, .inr (.inr (.inr (.inr (zg_o rr))))))], zg_w cA rr M] hP hD hS hA hZ [0, 1, 8, 9, 2, 3, 4, 5, 6, 7] 10 rfl (by decide) rfl (fun u => [[(o, .inr (2, [.ref a1, .ref a2, .ref o3, .ref a4, .int (nI 1), .int (nI lk), .int u.2.2.2, .int ne]))], [(a1, .inl (cA 0, 4, .inl (nA pa0)))], [(a2, .inl (cA 0, 16, .inl (nA ph0)))], [(o3, .inr (0, [.ref b1, .int (nI od), .int (nI fi), .ref t1, .ref g1, .int (nI la0)]))], [(b1, .inl (cA 0, 16, .inl (nA be)))], [(t1, .inl (cA 0, 16, .inl (nA tr)))], [(g1, .inl (cA 4, 17, .inr (.inr (.inr (.inr (zg_o rr))))))], zg_w cA rr M, [(a4, .inl (cA 3, 5, .inr (.inr (.inr (.inr (va_up sf 1 (some u.1.1)))))))], [(u.1.1, .inr (1, [.int (nI 1), .int (nI 1), .int (nI 1), .ref u.1.2.1, .ref u.1.2.2, .int (nI u.2.1.2.2.2.2.2.2), .int (nI u.2.2.1)]))], [(u.1.2.1, .inl (cA 1, 1, .inr (.inl (lA u.2.1.2.2.2.2.1))))], [(u.1.2.2, .inl (cA 0, 1, .inl (nA u.2.1.2.2.2.2.2.1)))], Rx]) [0, 1, 8, 9, 10, 11, 12, 2, 3, 4, 5, 6, 7] 13 (fun _ => rfl) (by decide) (fun _ => rfl) 2 0 rfl rfl rfl rfl hl rfl (Nat.le_of_ble_eq_true rfl) lw_d_329 (fun r u H1 locs1 hq hP hD hS => ?_) (zcnt_h hbd (by decide) (by decide))
    obtain ⟨y1, y2, y3, y4, -, y6⟩ := hq
    have hX2 := hre (va_up sf 1 (some u.1.1)) _ (fun i w => i = u.2.2.2 ∧ w = ws) (fun j hj => va_up_ne _ _ hj) (Or.inr ⟨u.1.1, u.1.2.1, u.1.2.2, u.2.1.2.2.2.2.2.2, u.2.2.1, _, _, _, u.2.1.2.2.2.2.1, u.2.1.2.2.2.2.2.1, _, va_up_self _ _ _, rfl, ⟨y4, y3, y2⟩, fun i w hw => by
      obtain ⟨rfl, rfl⟩ := hw
      exact y6⟩)
    rw [Nat.add_assoc 38 kc 3, Nat.add_assoc 262777 ks 9]
    obtain ⟨XX2, hXX2⟩ : ∃ X : va_W, X = ([(u.1.1, .inr (1, [.int (nI 1), .int (nI 1), .int (nI 1), .ref u.1.2.1, .ref u.1.2.2, .int (nI u.2.1.2.2.2.2.2.2), .int (nI u.2.2.1)])), (u.1.2.1, .inl (cA 1, 1, .inr (.inl (lA u.2.1.2.2.2.2.1)))), (u.1.2.2, .inl (cA 0, 1, .inl (nA u.2.1.2.2.2.2.2.1)))] ++ Rx) := ⟨_, rfl⟩
    rw [zseg, ← hXX2] at hP hD
    have hX3 : zXs cA 1 (va_up sf 1 (some u.1.1)) XX2 (fun i w => i = u.2.2.2 ∧ w = ws) := by
      rw [hXX2]
      exact hX2
    exact kk r (kc + 3) (ks + 9) _ H1 locs1 ⟨ws, hws, y1⟩ ⟨a1, a2, o3, b1, t1, g1, a4, lk, od, fi, la0, u.2.2.2, ne, (va_up sf 1 (some u.1.1)), pa0, ph0, be, tr, rr, M, XX2, (fun i w => i = u.2.2.2 ∧ w = ws), rfl, ⟨zcnt_up1 hkc hsn, zslt_up1 hks hsn⟩, ⟨hn1, hn, hzr, hp8⟩, ⟨hpa, hph, hq8⟩, ⟨hlk, hbe, htr, hkn⟩, hX3, (Or.inr ⟨ws, hws, rfl, rfl⟩), (hne.imp id (fun z => absurd z.2.choose_spec.2 (hno _ _)))⟩ hP hD hS
  · refine zx_Vwi (n := 1) (As := [.int x]) (rest := []) S (pc_linear2 l dC dI cA H.size o a1 a2 o3 a4 lk ne sf pa0 ws x hsn (zr_cap hn1 hn).1 (zr_cap hn1 hn).2 hwt hf) zg_lw53 (by decide +kernel) ⟨rfl, rfl⟩ ⟨Nat.le_of_ble_eq_true rfl, Nat.le_of_ble_eq_true rfl⟩ hK [[(o, .inr (2, [.ref a1, .ref a2, .ref o3, .ref a4, .int (nI 2), .int (nI lk), .int (-1), .int ne]))], [(a1, .inl (cA 0, 4, .inl (nA pa0)))], [(a2, .inl (cA 0, 16, .inl (nA ph0)))], [(o3, .inr (0, [.ref b1, .int (nI od), .int (nI fi), .ref t1, .ref g1, .int (nI la0)]))], [(b1, .inl (cA 0, 16, .inl (nA be)))], [(t1, .inl (cA 0, 16, .inl (nA tr)))], [(g1, .inl (cA 4, 17, .inr (.inr (.inr (.inr (zg_o rr))))))], zg_w cA rr M, [(a4, .inl (cA 3, 5, .inr (.inr (.inr (.inr sf)))))], Rx] [Rx, [(a2, .inl (cA 0, 16, .inl (nA ph0)))], [(o3, .inr (0, [.ref b1, .int (nI od), .int (nI fi), .ref t1, .ref g1, .int (nI la0)]))], [(b1, .inl (cA 0, 16, .inl (nA be)))], [(t1, .inl (cA 0, 16, .inl (nA tr)))], [(g1, .inl (cA 4, 17, .inr (.inr (.inr (.inr (zg_o rr))))))], zg_w cA rr M] hP hD hS hA hZ [0, 1, 8, 9, 2, 3, 4, 5, 6, 7] 10 rfl (by decide) rfl (fun u => [[(o, .inr (2, [.ref a1, .ref a2, .ref o3, .ref a4, .int (nI 2), .int (nI lk), .int u.2.2.2, .int ne]))], [(a1, .inl (cA 0, 4, .inl (nA pa0)))], [(a2, .inl (cA 0, 16, .inl (nA ph0)))], [(o3, .inr (0, [.ref b1, .int (nI od), .int (nI fi), .ref t1, .ref g1, .int (nI la0)]))], [(b1, .inl (cA 0, 16, .inl (nA be)))], [(t1, .inl (cA 0, 16, .inl (nA tr)))], [(g1, .inl (cA 4, 17, .inr (.inr (.inr (.inr (zg_o rr))))))], zg_w cA rr M, [(a4, .inl (cA 3, 5, .inr (.inr (.inr (.inr (va_up sf 2 (some u.1.1)))))))], [(u.1.1, .inr (1, [.int (nI 2), .int (nI 4), .int (nI 1), .ref u.1.2.1, .ref u.1.2.2, .int (nI u.2.1.2.2.2.2.2.2), .int (nI u.2.2.1)]))], [(u.1.2.1, .inl (cA 1, 7, .inr (.inl (lA u.2.1.2.2.2.2.1))))], [(u.1.2.2, .inl (cA 0, 5, .inl (nA u.2.1.2.2.2.2.2.1)))], Rx]) [0, 1, 8, 9, 10, 11, 12, 2, 3, 4, 5, 6, 7] 13 (fun _ => rfl) (by decide) (fun _ => rfl) 2 0 rfl rfl rfl rfl hl rfl (Nat.le_of_ble_eq_true rfl) lw_d_329 (fun r u H1 locs1 hq hP hD hS => ?_) (zcnt_h hbd (by decide) (by decide))
    obtain ⟨y1, y2, y3, y4, -, y6⟩ := hq
    have hX2 := hre (va_up sf 2 (some u.1.1)) _ (fun i w => i = u.2.2.2 ∧ w = ws) (fun j hj => va_up_ne _ _ hj) (Or.inr ⟨u.1.1, u.1.2.1, u.1.2.2, u.2.1.2.2.2.2.2.2, u.2.2.1, _, _, _, u.2.1.2.2.2.2.1, u.2.1.2.2.2.2.2.1, _, va_up_self _ _ _, rfl, ⟨y4, y3, y2⟩, fun i w hw => by
      obtain ⟨rfl, rfl⟩ := hw
      exact y6⟩)
    rw [Nat.add_assoc 38 kc 3, Nat.add_assoc 262777 ks 19]
    obtain ⟨XX2, hXX2⟩ : ∃ X : va_W, X = ([(u.1.1, .inr (1, [.int (nI 2), .int (nI 4), .int (nI 1), .ref u.1.2.1, .ref u.1.2.2, .int (nI u.2.1.2.2.2.2.2.2), .int (nI u.2.2.1)])), (u.1.2.1, .inl (cA 1, 7, .inr (.inl (lA u.2.1.2.2.2.2.1)))), (u.1.2.2, .inl (cA 0, 5, .inl (nA u.2.1.2.2.2.2.2.1)))] ++ Rx) := ⟨_, rfl⟩
    rw [zseg, ← hXX2] at hP hD
    have hX3 : zXs cA 2 (va_up sf 2 (some u.1.1)) XX2 (fun i w => i = u.2.2.2 ∧ w = ws) := by
      rw [hXX2]
      exact hX2
    exact kk r (kc + 3) (ks + 19) _ H1 locs1 ⟨ws, hws, y1⟩ ⟨a1, a2, o3, b1, t1, g1, a4, lk, od, fi, la0, u.2.2.2, ne, (va_up sf 2 (some u.1.1)), pa0, ph0, be, tr, rr, M, XX2, (fun i w => i = u.2.2.2 ∧ w = ws), rfl, ⟨zcnt_up2 hkc hsn, zslt_up2 hks hsn⟩, ⟨hn1, hn, hzr, hp8⟩, ⟨hpa, hph, hq8⟩, ⟨hlk, hbe, htr, hkn⟩, hX3, (Or.inr ⟨ws, hws, rfl, rfl⟩), (hne.imp id (fun z => absurd z.2.choose_spec.2 (hno _ _)))⟩ hP hD hS
  · refine zx_Vwi (n := 1) (As := [.int x]) (rest := []) S (pc_linear3 l dC dI cA H.size o a1 a2 o3 a4 lk ne sf pa0 ws x hsn (zr_cap hn1 hn).1 (zr_cap hn1 hn).2 hwt hf) zg_lw53 (by decide +kernel) ⟨rfl, rfl⟩ ⟨Nat.le_of_ble_eq_true rfl, Nat.le_of_ble_eq_true rfl⟩ hK [[(o, .inr (2, [.ref a1, .ref a2, .ref o3, .ref a4, .int (nI 3), .int (nI lk), .int (-1), .int ne]))], [(a1, .inl (cA 0, 4, .inl (nA pa0)))], [(a2, .inl (cA 0, 16, .inl (nA ph0)))], [(o3, .inr (0, [.ref b1, .int (nI od), .int (nI fi), .ref t1, .ref g1, .int (nI la0)]))], [(b1, .inl (cA 0, 16, .inl (nA be)))], [(t1, .inl (cA 0, 16, .inl (nA tr)))], [(g1, .inl (cA 4, 17, .inr (.inr (.inr (.inr (zg_o rr))))))], zg_w cA rr M, [(a4, .inl (cA 3, 5, .inr (.inr (.inr (.inr sf)))))], Rx] [Rx, [(a2, .inl (cA 0, 16, .inl (nA ph0)))], [(o3, .inr (0, [.ref b1, .int (nI od), .int (nI fi), .ref t1, .ref g1, .int (nI la0)]))], [(b1, .inl (cA 0, 16, .inl (nA be)))], [(t1, .inl (cA 0, 16, .inl (nA tr)))], [(g1, .inl (cA 4, 17, .inr (.inr (.inr (.inr (zg_o rr))))))], zg_w cA rr M] hP hD hS hA hZ [0, 1, 8, 9, 2, 3, 4, 5, 6, 7] 10 rfl (by decide) rfl (fun u => [[(o, .inr (2, [.ref a1, .ref a2, .ref o3, .ref a4, .int (nI 3), .int (nI lk), .int u.2.2.2, .int ne]))], [(a1, .inl (cA 0, 4, .inl (nA pa0)))], [(a2, .inl (cA 0, 16, .inl (nA ph0)))], [(o3, .inr (0, [.ref b1, .int (nI od), .int (nI fi), .ref t1, .ref g1, .int (nI la0)]))], [(b1, .inl (cA 0, 16, .inl (nA be)))], [(t1, .inl (cA 0, 16, .inl (nA tr)))], [(g1, .inl (cA 4, 17, .inr (.inr (.inr (.inr (zg_o rr))))))], zg_w cA rr M, [(a4, .inl (cA 3, 5, .inr (.inr (.inr (.inr (va_up sf 3 (some u.1.1)))))))], [(u.1.1, .inr (1, [.int (nI 3), .int (nI 9), .int (nI 1), .ref u.1.2.1, .ref u.1.2.2, .int (nI u.2.1.2.2.2.2.2.2), .int (nI u.2.2.1)]))], [(u.1.2.1, .inl (cA 1, 859, .inr (.inl (lA u.2.1.2.2.2.2.1))))], [(u.1.2.2, .inl (cA 0, 2049, .inl (nA u.2.1.2.2.2.2.2.1)))], Rx]) [0, 1, 8, 9, 10, 11, 12, 2, 3, 4, 5, 6, 7] 13 (fun _ => rfl) (by decide) (fun _ => rfl) 2 0 rfl rfl rfl rfl hl rfl (Nat.le_of_ble_eq_true rfl) lw_d_329 (fun r u H1 locs1 hq hP hD hS => ?_) (zcnt_h hbd (by decide) (by decide))
    obtain ⟨y1, y2, y3, y4, -, y6⟩ := hq
    have hX2 := hre (va_up sf 3 (some u.1.1)) _ (fun i w => i = u.2.2.2 ∧ w = ws) (fun j hj => va_up_ne _ _ hj) (Or.inr ⟨u.1.1, u.1.2.1, u.1.2.2, u.2.1.2.2.2.2.2.2, u.2.2.1, _, _, _, u.2.1.2.2.2.2.1, u.2.1.2.2.2.2.2.1, _, va_up_self _ _ _, rfl, ⟨y4, y3, y2⟩, fun i w hw => by
      obtain ⟨rfl, rfl⟩ := hw
      exact y6⟩)
    rw [Nat.add_assoc 38 kc 3, Nat.add_assoc 262777 ks 2915]
    obtain ⟨XX2, hXX2⟩ : ∃ X : va_W, X = ([(u.1.1, .inr (1, [.int (nI 3), .int (nI 9), .int (nI 1), .ref u.1.2.1, .ref u.1.2.2, .int (nI u.2.1.2.2.2.2.2.2), .int (nI u.2.2.1)])), (u.1.2.1, .inl (cA 1, 859, .inr (.inl (lA u.2.1.2.2.2.2.1)))), (u.1.2.2, .inl (cA 0, 2049, .inl (nA u.2.1.2.2.2.2.2.1)))] ++ Rx) := ⟨_, rfl⟩
    rw [zseg, ← hXX2] at hP hD
    have hX3 : zXs cA 3 (va_up sf 3 (some u.1.1)) XX2 (fun i w => i = u.2.2.2 ∧ w = ws) := by
      rw [hXX2]
      exact hX2
    exact kk r (kc + 3) (ks + 2915) _ H1 locs1 ⟨ws, hws, y1⟩ ⟨a1, a2, o3, b1, t1, g1, a4, lk, od, fi, la0, u.2.2.2, ne, (va_up sf 3 (some u.1.1)), pa0, ph0, be, tr, rr, M, XX2, (fun i w => i = u.2.2.2 ∧ w = ws), rfl, ⟨zcnt_up3 hkc hsn, zslt_up3 hks hsn⟩, ⟨hn1, hn, hzr, hp8⟩, ⟨hpa, hph, hq8⟩, ⟨hlk, hbe, htr, hkn⟩, hX3, (Or.inr ⟨ws, hws, rfl, rfl⟩), (hne.imp id (fun z => absurd z.2.choose_spec.2 (hno _ _)))⟩ hP hD hS
  · refine zx_Vwi (n := 1) (As := [.int x]) (rest := []) S (pc_linear4 l dC dI cA H.size o a1 a2 o3 a4 lk ne sf pa0 ws x hsn (zr_cap hn1 hn).1 (zr_cap hn1 hn).2 hwt hf) zg_lw53 (by decide +kernel) ⟨rfl, rfl⟩ ⟨Nat.le_of_ble_eq_true rfl, Nat.le_of_ble_eq_true rfl⟩ hK [[(o, .inr (2, [.ref a1, .ref a2, .ref o3, .ref a4, .int (nI 4), .int (nI lk), .int (-1), .int ne]))], [(a1, .inl (cA 0, 4, .inl (nA pa0)))], [(a2, .inl (cA 0, 16, .inl (nA ph0)))], [(o3, .inr (0, [.ref b1, .int (nI od), .int (nI fi), .ref t1, .ref g1, .int (nI la0)]))], [(b1, .inl (cA 0, 16, .inl (nA be)))], [(t1, .inl (cA 0, 16, .inl (nA tr)))], [(g1, .inl (cA 4, 17, .inr (.inr (.inr (.inr (zg_o rr))))))], zg_w cA rr M, [(a4, .inl (cA 3, 5, .inr (.inr (.inr (.inr sf)))))], Rx] [Rx, [(a2, .inl (cA 0, 16, .inl (nA ph0)))], [(o3, .inr (0, [.ref b1, .int (nI od), .int (nI fi), .ref t1, .ref g1, .int (nI la0)]))], [(b1, .inl (cA 0, 16, .inl (nA be)))], [(t1, .inl (cA 0, 16, .inl (nA tr)))], [(g1, .inl (cA 4, 17, .inr (.inr (.inr (.inr (zg_o rr))))))], zg_w cA rr M] hP hD hS hA hZ [0, 1, 8, 9, 2, 3, 4, 5, 6, 7] 10 rfl (by decide) rfl (fun u => [[(o, .inr (2, [.ref a1, .ref a2, .ref o3, .ref a4, .int (nI 4), .int (nI lk), .int u.2.2.2, .int ne]))], [(a1, .inl (cA 0, 4, .inl (nA pa0)))], [(a2, .inl (cA 0, 16, .inl (nA ph0)))], [(o3, .inr (0, [.ref b1, .int (nI od), .int (nI fi), .ref t1, .ref g1, .int (nI la0)]))], [(b1, .inl (cA 0, 16, .inl (nA be)))], [(t1, .inl (cA 0, 16, .inl (nA tr)))], [(g1, .inl (cA 4, 17, .inr (.inr (.inr (.inr (zg_o rr))))))], zg_w cA rr M, [(a4, .inl (cA 3, 5, .inr (.inr (.inr (.inr (va_up sf 4 (some u.1.1)))))))], [(u.1.1, .inr (1, [.int (nI 4), .int (nI 16), .int (nI 0), .ref u.1.2.1, .ref u.1.2.2, .int (nI u.2.1.2.2.2.2.2.2), .int (nI u.2.2.1)]))], [(u.1.2.1, .inl (cA 1, 20160, .inr (.inl (lA u.2.1.2.2.2.2.1))))], [(u.1.2.2, .inl (cA 0, 2049, .inl (nA u.2.1.2.2.2.2.2.1)))], Rx]) [0, 1, 8, 9, 10, 11, 12, 2, 3, 4, 5, 6, 7] 13 (fun _ => rfl) (by decide) (fun _ => rfl) 2 0 rfl rfl rfl rfl hl rfl (Nat.le_of_ble_eq_true rfl) lw_d_329 (fun r u H1 locs1 hq hP hD hS => ?_) (zcnt_h hbd (by decide) (by decide))
    obtain ⟨y1, y2, y3, y4, -, y6⟩ := hq
    have hX2 := hre (va_up sf 4 (some u.1.1)) _ (fun i w => i = u.2.2.2 ∧ w = ws) (fun j hj => va_up_ne _ _ hj) (Or.inr ⟨u.1.1, u.1.2.1, u.1.2.2, u.2.1.2.2.2.2.2.2, u.2.2.1, _, _, _, u.2.1.2.2.2.2.1, u.2.1.2.2.2.2.2.1, _, va_up_self _ _ _, rfl, ⟨y4, y3, y2⟩, fun i w hw => by
      obtain ⟨rfl, rfl⟩ := hw
      exact y6⟩)
    rw [Nat.add_assoc 38 kc 3, Nat.add_assoc 262777 ks 22216]
    obtain ⟨XX2, hXX2⟩ : ∃ X : va_W, X = ([(u.1.1, .inr (1, [.int (nI 4), .int (nI 16), .int (nI 0), .ref u.1.2.1, .ref u.1.2.2, .int (nI u.2.1.2.2.2.2.2.2), .int (nI u.2.2.1)])), (u.1.2.1, .inl (cA 1, 20160, .inr (.inl (lA u.2.1.2.2.2.2.1)))), (u.1.2.2, .inl (cA 0, 2049, .inl (nA u.2.1.2.2.2.2.2.1)))] ++ Rx) := ⟨_, rfl⟩
    rw [zseg, ← hXX2] at hP hD
    have hX3 : zXs cA 4 (va_up sf 4 (some u.1.1)) XX2 (fun i w => i = u.2.2.2 ∧ w = ws) := by
      rw [hXX2]
      exact hX2
    exact kk r (kc + 3) (ks + 22216) _ H1 locs1 ⟨ws, hws, y1⟩ ⟨a1, a2, o3, b1, t1, g1, a4, lk, od, fi, la0, u.2.2.2, ne, (va_up sf 4 (some u.1.1)), pa0, ph0, be, tr, rr, M, XX2, (fun i w => i = u.2.2.2 ∧ w = ws), rfl, ⟨zcnt_up4 hkc hsn, zslt_up4 hks hsn⟩, ⟨hn1, hn, hzr, hp8⟩, ⟨hpa, hph, hq8⟩, ⟨hlk, hbe, htr, hkn⟩, hX3, (Or.inr ⟨ws, hws, rfl, rfl⟩), (hne.imp id (fun z => absurd z.2.choose_spec.2 (hno _ _)))⟩ hP hD hS
set_option maxHeartbeats 4000000 in
set_option maxRecDepth 100000 in
theorem zC_network (S : CallFix p m c code 4 s args zz_tbl lw_R) (hK : va_K (dC, dI) zz_cl (zT cA) s) (hA : ∀ q, s.heap.size ≤ q → A0 q) (hZ : zs_all A0 s) (hC : zCR cA o kc ks n pa ph w) (hP : va_P (dC, dI) zz_cl (w ++ wo) H) (hD : va_D A0 (w ++ wo)) (hS : va_S A0 s.heap H locs) (x : Int32) (hl : ls.size = 4)
    (kk : ∀ (r : Int32) (kc' ks' : Nat) (w' : va_W) (H1 : Heap) (locs1 : List Loc), zQn n pa ph x r → zCR cA o kc' ks' n pa ph w' → va_P (dC, dI) zz_cl (w' ++ wo) H1 → va_D A0 (w' ++ wo) → va_S A0 s.heap H1 locs1 → W p l e room_1 s m args below meth c H1 locs1 (38 + kc') (262777 + ks') Q (F0 m 355 ls [.int r])) : W p l e room_1 s m args below meth c H locs (38 + kc) (262777 + ks) Q (F0 m 352 ls [.int x, .ref o]) := by
  obtain ⟨a1, a2, o3, b1, t1, g1, a4, lk, od, fi, la0, li, ne, sf, pa0, ph0, be, tr, rr, M, XX, L, rfl, ⟨hkc, hks⟩, ⟨hn1, hn, hzr, hp8⟩, ⟨hpa, hph, hq8⟩, ⟨hlk, hbe, htr, hkn⟩, hX, hli, hne⟩ := hC
  have hbd := zcnt_le hkc hks
  rcases (show n ≤ 3 ∨ n = 4 by omega) with hn3 | hn4
  case inr =>
    subst hn4
    refine zx_Vi (n := 1) (As := [.int x]) (rest := []) S (pc_network4 l dC dI cA o a1 a2 o3 a4 lk li ne x) zg_lw57 (by decide +kernel) ⟨rfl, rfl⟩ ⟨Nat.le_of_ble_eq_true rfl, Nat.le_of_ble_eq_true rfl⟩ hK [[(o, .inr (2, [.ref a1, .ref a2, .ref o3, .ref a4, .int (nI 4), .int (nI lk), .int li, .int ne]))], [(a1, .inl (cA 0, 4, .inl (nA pa0)))], [(a2, .inl (cA 0, 16, .inl (nA ph0)))], [(o3, .inr (0, [.ref b1, .int (nI od), .int (nI fi), .ref t1, .ref g1, .int (nI la0)]))], [(b1, .inl (cA 0, 16, .inl (nA be)))], [(t1, .inl (cA 0, 16, .inl (nA tr)))], [(g1, .inl (cA 4, 17, .inr (.inr (.inr (.inr (zg_o rr))))))], zg_w cA rr M, [(a4, .inl (cA 3, 5, .inr (.inr (.inr (.inr sf)))))], XX] [[(a1, .inl (cA 0, 4, .inl (nA pa0)))], [(a2, .inl (cA 0, 16, .inl (nA ph0)))], [(o3, .inr (0, [.ref b1, .int (nI od), .int (nI fi), .ref t1, .ref g1, .int (nI la0)]))], [(b1, .inl (cA 0, 16, .inl (nA be)))], [(t1, .inl (cA 0, 16, .inl (nA tr)))], [(g1, .inl (cA 4, 17, .inr (.inr (.inr (.inr (zg_o rr))))))], zg_w cA rr M, [(a4, .inl (cA 3, 5, .inr (.inr (.inr (.inr sf)))))], XX] hP [0, 1, 2, 3, 4, 5, 6, 7, 8, 9] 10 rfl (by decide) rfl 2 0 rfl rfl rfl rfl hl rfl (Nat.le_of_ble_eq_true rfl) lw_d_352 (fun r hq => ?_) (zcnt_h' hbd)
    exact kk r kc ks _ H locs (Or.inl ⟨rfl, hq⟩) ⟨a1, a2, o3, b1, t1, g1, a4, lk, od, fi, la0, li, ne, sf, pa0, ph0, be, tr, rr, M, XX, L, rfl, ⟨hkc, hks⟩, ⟨hn1, hn, hzr, hp8⟩, ⟨hpa, hph, hq8⟩, ⟨hlk, hbe, htr, hkn⟩, hX, hli, hne⟩ hP hD hS
  obtain ⟨Xn, Rx, hpe, hXo, hre⟩ := zXs_split hn1 hn hX
  have hPx := hP
  have hpe2 := (zx_last [[(o, .inr (2, [.ref a1, .ref a2, .ref o3, .ref a4, .int (nI n), .int (nI lk), .int li, .int ne]))], [(a1, .inl (cA 0, 4, .inl (nA pa0)))], [(a2, .inl (cA 0, 16, .inl (nA ph0)))], [(o3, .inr (0, [.ref b1, .int (nI od), .int (nI fi), .ref t1, .ref g1, .int (nI la0)]))], [(b1, .inl (cA 0, 16, .inl (nA be)))], [(t1, .inl (cA 0, 16, .inl (nA tr)))], [(g1, .inl (cA 4, 17, .inr (.inr (.inr (.inr (zg_o rr))))))], zg_w cA rr M, [(a4, .inl (cA 3, 5, .inr (.inr (.inr (.inr sf)))))]] hpe).append_right wo
  have hP := zx_P hpe2 hP
  have hD := zx_D hpe2 hD
  obtain ⟨ws, hws⟩ := zr_net (ph := ph) hn1 hn3 hzr
  have hcode : zc_code n pa0 n = zc_code n pa n := zc_code_congr n hpa
  have hwt : ∀ nd, nd < 128 → zc_code n pa0 n ||| nd * 2 ^ (n * n) < 2 ^ 31 := zwt_net hn1 hn3 hzr hcode
  have hf := (zNet_rel (zAg_rel (zAg_sy hph)) hws).1
  rw [← hcode] at hf
  rcases hXo with ⟨hsn, rfl, hno⟩ | ⟨q0, p1, m1, cnt, sp, st, fr, lb, pl, mt, pw, hsn, rfl, ⟨hc1, hc2, hI⟩, hLw⟩
  case inr =>
    have hcap := zr_cap hn1 hn
    have hpnb := zPn_le hn1 hn
    have hin : ne = (-1) ∨ ∃ k, ne = nI k ∧ k < cnt ∧ pw k = ws := by
      rcases hne with z | ⟨-, ws1, z1, z2⟩
      · exact Or.inl z
      · obtain ⟨j, j1, j2, j3⟩ := hLw _ _ z2
        exact Or.inr ⟨j, j1, j2, j3.trans (zNet_uniq hp8 z1 hws)⟩
    refine zx_Vwi (n := 1) (As := [.int x]) (rest := []) S (pc_network l dC dI cA H.size o a1 a2 o3 a4 b1 t1 g1 q0 p1 m1 n lk od fi la0 (n * n) (if n < 4 then 1 else 0) cnt sp (zPn n) (zMl n) li ne sf pa0 ph0 be tr rr st fr lb pl mt M pw ws x hn1 hn3 hsn rfl rfl hpnb.1 hpnb.2 hc1 hc2 hI hcap.1 hcap.2 hlk hq8 hbe htr hkn hf hwt hin) zg_lw57 (by decide +kernel) ⟨rfl, rfl⟩ ⟨Nat.le_of_ble_eq_true rfl, Nat.le_of_ble_eq_true rfl⟩ hK [[(o, .inr (2, [.ref a1, .ref a2, .ref o3, .ref a4, .int (nI n), .int (nI lk), .int li, .int ne]))], [(a1, .inl (cA 0, 4, .inl (nA pa0)))], [(a2, .inl (cA 0, 16, .inl (nA ph0)))], [(o3, .inr (0, [.ref b1, .int (nI od), .int (nI fi), .ref t1, .ref g1, .int (nI la0)]))], [(b1, .inl (cA 0, 16, .inl (nA be)))], [(t1, .inl (cA 0, 16, .inl (nA tr)))], [(g1, .inl (cA 4, 17, .inr (.inr (.inr (.inr (zg_o rr))))))], zg_w cA rr M, [(a4, .inl (cA 3, 5, .inr (.inr (.inr (.inr sf)))))], [(q0, .inr (1, [.int (nI n), .int (nI (n * n)), .int (nI (if n < 4 then 1 else 0)), .ref p1, .ref m1, .int (nI cnt), .int (nI sp)]))], [(p1, .inl (cA 1, zPn n, .inr (.inl (lA pl))))], [(m1, .inl (cA 0, zMl n, .inl (nA mt)))], Rx] [Rx] hP hD hS hA hZ [0, 1, 2, 3, 4, 5, 6, 8, 9, 10, 11, 7, 12] 13 rfl (by decide) rfl (fun u => [[(o, .inr (2, [.ref a1, .ref a2, .ref o3, .ref a4, .int (nI n), .int (nI u.2.2), .int li, .int u.1.2.2]))], [(a1, .inl (cA 0, 4, .inl (nA pa0)))], [(a2, .inl (cA 0, 16, .inl (nA ph0)))], [(o3, .inr (0, [.ref b1, .int (nI u.2.1.2.2.2.1), .int (nI u.2.1.2.2.2.2.1), .ref t1, .ref g1, .int (nI u.2.1.2.2.2.2.2)]))], [(b1, .inl (cA 0, 16, .inl (nA u.2.1.1)))], [(t1, .inl (cA 0, 16, .inl (nA u.2.1.2.1)))], [(g1, .inl (cA 4, 17, .inr (.inr (.inr (.inr (zg_o rr))))))], zg_w cA rr u.2.1.2.2.1, [(a4, .inl (cA 3, 5, .inr (.inr (.inr (.inr sf)))))], [(q0, .inr (1, [.int (nI n), .int (nI (n * n)), .int (nI (if n < 4 then 1 else 0)), .ref p1, .ref m1, .int (nI u.1.1.2.2.2.2.2.2), .int (nI u.1.2.1)]))], [(p1, .inl (cA 1, (zPn n), .inr (.inl (lA u.1.1.2.2.2.2.1))))], [(m1, .inl (cA 0, (zMl n), .inl (nA u.1.1.2.2.2.2.2.1)))], Rx]) [0, 1, 2, 3, 4, 5, 6, 8, 9, 10, 11, 7, 12] 13 (fun _ => rfl) (by decide) (fun _ => rfl) 2 0 rfl rfl rfl rfl hl rfl (Nat.le_of_ble_eq_true rfl) lw_d_352 (fun r u H1 locs1 hq hP hD hS => ?_) (zcnt_h hbd (by decide) (by decide))
    obtain ⟨y1, y2, y3, y4, y5, y6, y7, y8, y9, y10⟩ := hq
    have hX2 := hre sf _ (fun i w => L i w ∨ (i = u.1.2.2 ∧ w = ws)) (fun _ _ => rfl) (Or.inr ⟨q0, p1, m1, u.1.1.2.2.2.2.2.2, u.1.2.1, _, _, _, u.1.1.2.2.2.2.1, u.1.1.2.2.2.2.2.1, _, hsn, rfl, ⟨y4, y3, y2⟩, fun i w hw => by
      rcases hw with hw | ⟨rfl, rfl⟩
      · obtain ⟨j, j1, j2, j3⟩ := hLw i w hw
        exact ⟨j, j1, Nat.lt_of_lt_of_le j2 y5.1, by rw [(y5.2 j j2).2, j3]⟩
      · exact y6⟩)
    obtain ⟨XX2, hXX2⟩ : ∃ X : va_W, X = ([(q0, .inr (1, [.int (nI n), .int (nI (n * n)), .int (nI (if n < 4 then 1 else 0)), .ref p1, .ref m1, .int (nI u.1.1.2.2.2.2.2.2), .int (nI u.1.2.1)])), (p1, .inl (cA 1, (zPn n), .inr (.inl (lA u.1.1.2.2.2.2.1)))), (m1, .inl (cA 0, (zMl n), .inl (nA u.1.1.2.2.2.2.2.1)))] ++ Rx) := ⟨_, rfl⟩
    rw [zseg, ← hXX2] at hP hD
    have hX3 := hX2
    rw [← hXX2] at hX3
    exact kk r kc ks _ H1 locs1 (Or.inr ⟨hn3, ws, hws, y1⟩) ⟨a1, a2, o3, b1, t1, g1, a4, u.2.2, u.2.1.2.2.2.1, u.2.1.2.2.2.2.1, u.2.1.2.2.2.2.2, li, u.1.2.2, sf, pa0, ph0, u.2.1.1, u.2.1.2.1, rr, u.2.1.2.2.1, XX2, (fun i w => L i w ∨ (i = u.1.2.2 ∧ w = ws)), rfl, ⟨hkc, hks⟩, ⟨hn1, hn, hzr, hp8⟩, ⟨hpa, hph, hq8⟩, ⟨y9, y7, y8, y10⟩, hX3, (hli.imp id (fun z => z.imp (fun w z2 => ⟨z2.1, Or.inl z2.2⟩))), (Or.inr ⟨hn3, ws, hws, Or.inr ⟨rfl, rfl⟩⟩)⟩ hP hD hS
  have hv1 : ne = (-1) := by
    rcases hne with z | ⟨-, ws1, z1, z2⟩
    · exact z
    · exact absurd z2 (hno _ _)
  subst hv1
  rcases (show n = 1 ∨ n = 2 ∨ n = 3 by omega) with rfl | rfl | rfl
  · refine zx_Vwi (n := 1) (As := [.int x]) (rest := []) S (pc_network1 l dC dI cA H.size o a1 a2 o3 a4 b1 t1 g1 lk od fi la0 li sf pa0 ph0 be tr rr M ws x hsn (zr_cap hn1 hn).1 (zr_cap hn1 hn).2 hlk hq8 hbe htr hkn hf hwt) zg_lw57 (by decide +kernel) ⟨rfl, rfl⟩ ⟨Nat.le_of_ble_eq_true rfl, Nat.le_of_ble_eq_true rfl⟩ hK [[(o, .inr (2, [.ref a1, .ref a2, .ref o3, .ref a4, .int (nI 1), .int (nI lk), .int li, .int (-1)]))], [(a1, .inl (cA 0, 4, .inl (nA pa0)))], [(a2, .inl (cA 0, 16, .inl (nA ph0)))], [(o3, .inr (0, [.ref b1, .int (nI od), .int (nI fi), .ref t1, .ref g1, .int (nI la0)]))], [(b1, .inl (cA 0, 16, .inl (nA be)))], [(t1, .inl (cA 0, 16, .inl (nA tr)))], [(g1, .inl (cA 4, 17, .inr (.inr (.inr (.inr (zg_o rr))))))], zg_w cA rr M, [(a4, .inl (cA 3, 5, .inr (.inr (.inr (.inr sf)))))], Rx] [Rx] hP hD hS hA hZ [0, 1, 2, 3, 4, 5, 6, 8, 7, 9] 10 rfl (by decide) rfl (fun u => [[(o, .inr (2, [.ref a1, .ref a2, .ref o3, .ref a4, .int (nI 1), .int (nI u.2.2.2), .int li, .int u.2.1.2.2]))], [(a1, .inl (cA 0, 4, .inl (nA pa0)))], [(a2, .inl (cA 0, 16, .inl (nA ph0)))], [(o3, .inr (0, [.ref b1, .int (nI u.2.2.1.2.2.2.1), .int (nI u.2.2.1.2.2.2.2.1), .ref t1, .ref g1, .int (nI u.2.2.1.2.2.2.2.2)]))], [(b1, .inl (cA 0, 16, .inl (nA u.2.2.1.1)))], [(t1, .inl (cA 0, 16, .inl (nA u.2.2.1.2.1)))], [(g1, .inl (cA 4, 17, .inr (.inr (.inr (.inr (zg_o rr))))))], zg_w cA rr u.2.2.1.2.2.1, [(a4, .inl (cA 3, 5, .inr (.inr (.inr (.inr (va_up sf 1 (some u.1.1)))))))], [(u.1.1, .inr (1, [.int (nI 1), .int (nI 1), .int (nI 1), .ref u.1.2.1, .ref u.1.2.2, .int (nI u.2.1.1.2.2.2.2.2.2), .int (nI u.2.1.2.1)]))], [(u.1.2.1, .inl (cA 1, 1, .inr (.inl (lA u.2.1.1.2.2.2.2.1))))], [(u.1.2.2, .inl (cA 0, 1, .inl (nA u.2.1.1.2.2.2.2.2.1)))], Rx]) [0, 1, 2, 3, 4, 5, 6, 8, 9, 10, 11, 7, 12] 13 (fun _ => rfl) (by decide) (fun _ => rfl) 2 0 rfl rfl rfl rfl hl rfl (Nat.le_of_ble_eq_true rfl) lw_d_352 (fun r u H1 locs1 hq hP hD hS => ?_) (zcnt_h hbd (by decide) (by decide))
    obtain ⟨y1, y2, y3, y4, -, y6, y7, y8, y9, y10⟩ := hq
    have hX2 := hre (va_up sf 1 (some u.1.1)) _ (fun i w => i = u.2.1.2.2 ∧ w = ws) (fun j hj => va_up_ne _ _ hj) (Or.inr ⟨u.1.1, u.1.2.1, u.1.2.2, u.2.1.1.2.2.2.2.2.2, u.2.1.2.1, _, _, _, u.2.1.1.2.2.2.2.1, u.2.1.1.2.2.2.2.2.1, _, va_up_self _ _ _, rfl, ⟨y4, y3, y2⟩, fun i w hw => by
      obtain ⟨rfl, rfl⟩ := hw
      exact y6⟩)
    rw [Nat.add_assoc 38 kc 3, Nat.add_assoc 262777 ks 9]
    obtain ⟨XX2, hXX2⟩ : ∃ X : va_W, X = ([(u.1.1, .inr (1, [.int (nI 1), .int (nI 1), .int (nI 1), .ref u.1.2.1, .ref u.1.2.2, .int (nI u.2.1.1.2.2.2.2.2.2), .int (nI u.2.1.2.1)])), (u.1.2.1, .inl (cA 1, 1, .inr (.inl (lA u.2.1.1.2.2.2.2.1)))), (u.1.2.2, .inl (cA 0, 1, .inl (nA u.2.1.1.2.2.2.2.2.1)))] ++ Rx) := ⟨_, rfl⟩
    rw [zseg, ← hXX2] at hP hD
    have hX3 : zXs cA 1 (va_up sf 1 (some u.1.1)) XX2 (fun i w => i = u.2.1.2.2 ∧ w = ws) := by
      rw [hXX2]
      exact hX2
    exact kk r (kc + 3) (ks + 9) _ H1 locs1 (Or.inr ⟨hn3, ws, hws, y1⟩) ⟨a1, a2, o3, b1, t1, g1, a4, u.2.2.2, u.2.2.1.2.2.2.1, u.2.2.1.2.2.2.2.1, u.2.2.1.2.2.2.2.2, li, u.2.1.2.2, (va_up sf 1 (some u.1.1)), pa0, ph0, u.2.2.1.1, u.2.2.1.2.1, rr, u.2.2.1.2.2.1, XX2, (fun i w => i = u.2.1.2.2 ∧ w = ws), rfl, ⟨zcnt_up1 hkc hsn, zslt_up1 hks hsn⟩, ⟨hn1, hn, hzr, hp8⟩, ⟨hpa, hph, hq8⟩, ⟨y9, y7, y8, y10⟩, hX3, (hli.imp id (fun z => absurd z.choose_spec.2 (hno _ _))), (Or.inr ⟨hn3, ws, hws, rfl, rfl⟩)⟩ hP hD hS
  · refine zx_Vwi (n := 1) (As := [.int x]) (rest := []) S (pc_network2 l dC dI cA H.size o a1 a2 o3 a4 b1 t1 g1 lk od fi la0 li sf pa0 ph0 be tr rr M ws x hsn (zr_cap hn1 hn).1 (zr_cap hn1 hn).2 hlk hq8 hbe htr hkn hf hwt) zg_lw57 (by decide +kernel) ⟨rfl, rfl⟩ ⟨Nat.le_of_ble_eq_true rfl, Nat.le_of_ble_eq_true rfl⟩ hK [[(o, .inr (2, [.ref a1, .ref a2, .ref o3, .ref a4, .int (nI 2), .int (nI lk), .int li, .int (-1)]))], [(a1, .inl (cA 0, 4, .inl (nA pa0)))], [(a2, .inl (cA 0, 16, .inl (nA ph0)))], [(o3, .inr (0, [.ref b1, .int (nI od), .int (nI fi), .ref t1, .ref g1, .int (nI la0)]))], [(b1, .inl (cA 0, 16, .inl (nA be)))], [(t1, .inl (cA 0, 16, .inl (nA tr)))], [(g1, .inl (cA 4, 17, .inr (.inr (.inr (.inr (zg_o rr))))))], zg_w cA rr M, [(a4, .inl (cA 3, 5, .inr (.inr (.inr (.inr sf)))))], Rx] [Rx] hP hD hS hA hZ [0, 1, 2, 3, 4, 5, 6, 8, 7, 9] 10 rfl (by decide) rfl (fun u => [[(o, .inr (2, [.ref a1, .ref a2, .ref o3, .ref a4, .int (nI 2), .int (nI u.2.2.2), .int li, .int u.2.1.2.2]))], [(a1, .inl (cA 0, 4, .inl (nA pa0)))], [(a2, .inl (cA 0, 16, .inl (nA ph0)))], [(o3, .inr (0, [.ref b1, .int (nI u.2.2.1.2.2.2.1), .int (nI u.2.2.1.2.2.2.2.1), .ref t1, .ref g1, .int (nI u.2.2.1.2.2.2.2.2)]))], [(b1, .inl (cA 0, 16, .inl (nA u.2.2.1.1)))], [(t1, .inl (cA 0, 16, .inl (nA u.2.2.1.2.1)))], [(g1, .inl (cA 4, 17, .inr (.inr (.inr (.inr (zg_o rr))))))], zg_w cA rr u.2.2.1.2.2.1, [(a4, .inl (cA 3, 5, .inr (.inr (.inr (.inr (va_up sf 2 (some u.1.1)))))))], [(u.1.1, .inr (1, [.int (nI 2), .int (nI 4), .int (nI 1), .ref u.1.2.1, .ref u.1.2.2, .int (nI u.2.1.1.2.2.2.2.2.2), .int (nI u.2.1.2.1)]))], [(u.1.2.1, .inl (cA 1, 7, .inr (.inl (lA u.2.1.1.2.2.2.2.1))))], [(u.1.2.2, .inl (cA 0, 5, .inl (nA u.2.1.1.2.2.2.2.2.1)))], Rx]) [0, 1, 2, 3, 4, 5, 6, 8, 9, 10, 11, 7, 12] 13 (fun _ => rfl) (by decide) (fun _ => rfl) 2 0 rfl rfl rfl rfl hl rfl (Nat.le_of_ble_eq_true rfl) lw_d_352 (fun r u H1 locs1 hq hP hD hS => ?_) (zcnt_h hbd (by decide) (by decide))
    obtain ⟨y1, y2, y3, y4, -, y6, y7, y8, y9, y10⟩ := hq
    have hX2 := hre (va_up sf 2 (some u.1.1)) _ (fun i w => i = u.2.1.2.2 ∧ w = ws) (fun j hj => va_up_ne _ _ hj) (Or.inr ⟨u.1.1, u.1.2.1, u.1.2.2, u.2.1.1.2.2.2.2.2.2, u.2.1.2.1, _, _, _, u.2.1.1.2.2.2.2.1, u.2.1.1.2.2.2.2.2.1, _, va_up_self _ _ _, rfl, ⟨y4, y3, y2⟩, fun i w hw => by
      obtain ⟨rfl, rfl⟩ := hw
      exact y6⟩)
    rw [Nat.add_assoc 38 kc 3, Nat.add_assoc 262777 ks 19]
    obtain ⟨XX2, hXX2⟩ : ∃ X : va_W, X = ([(u.1.1, .inr (1, [.int (nI 2), .int (nI 4), .int (nI 1), .ref u.1.2.1, .ref u.1.2.2, .int (nI u.2.1.1.2.2.2.2.2.2), .int (nI u.2.1.2.1)])), (u.1.2.1, .inl (cA 1, 7, .inr (.inl (lA u.2.1.1.2.2.2.2.1)))), (u.1.2.2, .inl (cA 0, 5, .inl (nA u.2.1.1.2.2.2.2.2.1)))] ++ Rx) := ⟨_, rfl⟩
    rw [zseg, ← hXX2] at hP hD
    have hX3 : zXs cA 2 (va_up sf 2 (some u.1.1)) XX2 (fun i w => i = u.2.1.2.2 ∧ w = ws) := by
      rw [hXX2]
      exact hX2
    exact kk r (kc + 3) (ks + 19) _ H1 locs1 (Or.inr ⟨hn3, ws, hws, y1⟩) ⟨a1, a2, o3, b1, t1, g1, a4, u.2.2.2, u.2.2.1.2.2.2.1, u.2.2.1.2.2.2.2.1, u.2.2.1.2.2.2.2.2, li, u.2.1.2.2, (va_up sf 2 (some u.1.1)), pa0, ph0, u.2.2.1.1, u.2.2.1.2.1, rr, u.2.2.1.2.2.1, XX2, (fun i w => i = u.2.1.2.2 ∧ w = ws), rfl, ⟨zcnt_up2 hkc hsn, zslt_up2 hks hsn⟩, ⟨hn1, hn, hzr, hp8⟩, ⟨hpa, hph, hq8⟩, ⟨y9, y7, y8, y10⟩, hX3, (hli.imp id (fun z => absurd z.choose_spec.2 (hno _ _))), (Or.inr ⟨hn3, ws, hws, rfl, rfl⟩)⟩ hP hD hS
  · refine zx_Vwi (n := 1) (As := [.int x]) (rest := []) S (pc_network3 l dC dI cA H.size o a1 a2 o3 a4 b1 t1 g1 lk od fi la0 li sf pa0 ph0 be tr rr M ws x hsn (zr_cap hn1 hn).1 (zr_cap hn1 hn).2 hlk hq8 hbe htr hkn hf hwt) zg_lw57 (by decide +kernel) ⟨rfl, rfl⟩ ⟨Nat.le_of_ble_eq_true rfl, Nat.le_of_ble_eq_true rfl⟩ hK [[(o, .inr (2, [.ref a1, .ref a2, .ref o3, .ref a4, .int (nI 3), .int (nI lk), .int li, .int (-1)]))], [(a1, .inl (cA 0, 4, .inl (nA pa0)))], [(a2, .inl (cA 0, 16, .inl (nA ph0)))], [(o3, .inr (0, [.ref b1, .int (nI od), .int (nI fi), .ref t1, .ref g1, .int (nI la0)]))], [(b1, .inl (cA 0, 16, .inl (nA be)))], [(t1, .inl (cA 0, 16, .inl (nA tr)))], [(g1, .inl (cA 4, 17, .inr (.inr (.inr (.inr (zg_o rr))))))], zg_w cA rr M, [(a4, .inl (cA 3, 5, .inr (.inr (.inr (.inr sf)))))], Rx] [Rx] hP hD hS hA hZ [0, 1, 2, 3, 4, 5, 6, 8, 7, 9] 10 rfl (by decide) rfl (fun u => [[(o, .inr (2, [.ref a1, .ref a2, .ref o3, .ref a4, .int (nI 3), .int (nI u.2.2.2), .int li, .int u.2.1.2.2]))], [(a1, .inl (cA 0, 4, .inl (nA pa0)))], [(a2, .inl (cA 0, 16, .inl (nA ph0)))], [(o3, .inr (0, [.ref b1, .int (nI u.2.2.1.2.2.2.1), .int (nI u.2.2.1.2.2.2.2.1), .ref t1, .ref g1, .int (nI u.2.2.1.2.2.2.2.2)]))], [(b1, .inl (cA 0, 16, .inl (nA u.2.2.1.1)))], [(t1, .inl (cA 0, 16, .inl (nA u.2.2.1.2.1)))], [(g1, .inl (cA 4, 17, .inr (.inr (.inr (.inr (zg_o rr))))))], zg_w cA rr u.2.2.1.2.2.1, [(a4, .inl (cA 3, 5, .inr (.inr (.inr (.inr (va_up sf 3 (some u.1.1)))))))], [(u.1.1, .inr (1, [.int (nI 3), .int (nI 9), .int (nI 1), .ref u.1.2.1, .ref u.1.2.2, .int (nI u.2.1.1.2.2.2.2.2.2), .int (nI u.2.1.2.1)]))], [(u.1.2.1, .inl (cA 1, 859, .inr (.inl (lA u.2.1.1.2.2.2.2.1))))], [(u.1.2.2, .inl (cA 0, 2049, .inl (nA u.2.1.1.2.2.2.2.2.1)))], Rx]) [0, 1, 2, 3, 4, 5, 6, 8, 9, 10, 11, 7, 12] 13 (fun _ => rfl) (by decide) (fun _ => rfl) 2 0 rfl rfl rfl rfl hl rfl (Nat.le_of_ble_eq_true rfl) lw_d_352 (fun r u H1 locs1 hq hP hD hS => ?_) (zcnt_h hbd (by decide) (by decide))
    obtain ⟨y1, y2, y3, y4, -, y6, y7, y8, y9, y10⟩ := hq
    have hX2 := hre (va_up sf 3 (some u.1.1)) _ (fun i w => i = u.2.1.2.2 ∧ w = ws) (fun j hj => va_up_ne _ _ hj) (Or.inr ⟨u.1.1, u.1.2.1, u.1.2.2, u.2.1.1.2.2.2.2.2.2, u.2.1.2.1, _, _, _, u.2.1.1.2.2.2.2.1, u.2.1.1.2.2.2.2.2.1, _, va_up_self _ _ _, rfl, ⟨y4, y3, y2⟩, fun i w hw => by
      obtain ⟨rfl, rfl⟩ := hw
      exact y6⟩)
    rw [Nat.add_assoc 38 kc 3, Nat.add_assoc 262777 ks 2915]
    obtain ⟨XX2, hXX2⟩ : ∃ X : va_W, X = ([(u.1.1, .inr (1, [.int (nI 3), .int (nI 9), .int (nI 1), .ref u.1.2.1, .ref u.1.2.2, .int (nI u.2.1.1.2.2.2.2.2.2), .int (nI u.2.1.2.1)])), (u.1.2.1, .inl (cA 1, 859, .inr (.inl (lA u.2.1.1.2.2.2.2.1)))), (u.1.2.2, .inl (cA 0, 2049, .inl (nA u.2.1.1.2.2.2.2.2.1)))] ++ Rx) := ⟨_, rfl⟩
    rw [zseg, ← hXX2] at hP hD
    have hX3 : zXs cA 3 (va_up sf 3 (some u.1.1)) XX2 (fun i w => i = u.2.1.2.2 ∧ w = ws) := by
      rw [hXX2]
      exact hX2
    exact kk r (kc + 3) (ks + 2915) _ H1 locs1 (Or.inr ⟨hn3, ws, hws, y1⟩) ⟨a1, a2, o3, b1, t1, g1, a4, u.2.2.2, u.2.2.1.2.2.2.1, u.2.2.1.2.2.2.2.1, u.2.2.1.2.2.2.2.2, li, u.2.1.2.2, (va_up sf 3 (some u.1.1)), pa0, ph0, u.2.2.1.1, u.2.2.1.2.1, rr, u.2.2.1.2.2.1, XX2, (fun i w => i = u.2.1.2.2 ∧ w = ws), rfl, ⟨zcnt_up3 hkc hsn, zslt_up3 hks hsn⟩, ⟨hn1, hn, hzr, hp8⟩, ⟨hpa, hph, hq8⟩, ⟨y9, y7, y8, y10⟩, hX3, (hli.imp id (fun z => absurd z.choose_spec.2 (hno _ _))), (Or.inr ⟨hn3, ws, hws, rfl, rfl⟩)⟩ hP hD hS
end ZCALL

