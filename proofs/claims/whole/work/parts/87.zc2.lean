section ZCALL
variable {p : Program} {l : Launch} {e : Env} {s : State} {m : MethodId} {args : Array Value} {below : List Frame} {meth : Method} {c : Code} {H : Heap} {locs : List Loc} {Q : State → Prop} {ls : Array Slot} {dC : Nat → ClassId} {dI : Nat → Nat → Nat} {cA : Nat → ClassId} {A0 : Nat → Prop} {w wo : va_W} {o kc ks n : Nat} {pa ph : Nat → Nat}
set_option maxHeartbeats 4000000 in
set_option maxRecDepth 100000 in
theorem zC_least (S : CallFix p m c code 4 s args zz_tbl lw_R) (hK : va_K (dC, dI) zz_cl (zT cA) s) (hA : ∀ q, s.heap.size ≤ q → A0 q) (hZ : zs_all A0 s) (hC : zCR cA o kc ks n pa ph w) (hP : va_P (dC, dI) zz_cl (w ++ wo) H) (hD : va_D A0 (w ++ wo)) (hS : va_S A0 s.heap H locs) (x : Int32) (hl : ls.size = 4)
    (kk : ∀ (r : Int32) (w' : va_W) (H1 : Heap) (locs1 : List Loc), zQl n ph x r → zCR cA o kc ks n pa ph w' → va_P (dC, dI) zz_cl (w' ++ wo) H1 → va_D A0 (w' ++ wo) → va_S A0 s.heap H1 locs1 → W p l e room_1 s m args below meth c H1 locs1 (38 + kc) (262777 + ks) Q (F0 m 296 ls [.int r])) : W p l e room_1 s m args below meth c H locs (38 + kc) (262777 + ks) Q (F0 m 293 ls [.int x, .ref o]) := by
  obtain ⟨a1, a2, o3, b1, t1, g1, a4, lk, od, fi, la0, li, ne, sf, pa0, ph0, be, tr, rr, M, XX, L, rfl, ⟨hkc, hks⟩, ⟨hn1, hn, hzr, hp8⟩, ⟨hpa, hph, hq8⟩, ⟨hlk, hbe, htr, hkn⟩, hX, hli, hne⟩ := hC
  have hbd := zcnt_le hkc hks
  refine zx_Vwi (n := 1) (As := [.int x]) (rest := []) S (pc_least l dC dI cA H.size o a1 a2 o3 a4 b1 t1 g1 n lk od fi la0 li ne ph0 be tr rr M x hn1 hn hlk hq8 hbe htr hkn) zg_lw44 (by decide +kernel) ⟨rfl, rfl⟩ ⟨Nat.le_of_ble_eq_true rfl, Nat.le_of_ble_eq_true rfl⟩ hK [[(o, .inr (2, [.ref a1, .ref a2, .ref o3, .ref a4, .int (nI n), .int (nI lk), .int li, .int ne]))], [(a1, .inl (cA 0, 4, .inl (nA pa0)))], [(a2, .inl (cA 0, 16, .inl (nA ph0)))], [(o3, .inr (0, [.ref b1, .int (nI od), .int (nI fi), .ref t1, .ref g1, .int (nI la0)]))], [(b1, .inl (cA 0, 16, .inl (nA be)))], [(t1, .inl (cA 0, 16, .inl (nA tr)))], [(g1, .inl (cA 4, 17, .inr (.inr (.inr (.inr (zg_o rr))))))], zg_w cA rr M, [(a4, .inl (cA 3, 5, .inr (.inr (.inr (.inr sf)))))], XX] [[(a1, .inl (cA 0, 4, .inl (nA pa0)))], [(a4, .inl (cA 3, 5, .inr (.inr (.inr (.inr sf)))))], XX] hP hD hS hA hZ [0, 2, 3, 4, 5, 6, 7, 1, 8, 9] 10 rfl (by decide) rfl (fun u => [[(o, .inr (2, [.ref a1, .ref a2, .ref o3, .ref a4, .int (nI n), .int (nI u.2), .int li, .int ne]))], [(a1, .inl (cA 0, 4, .inl (nA pa0)))], [(a2, .inl (cA 0, 16, .inl (nA ph0)))], [(o3, .inr (0, [.ref b1, .int (nI u.1.2.2.2.1), .int (nI u.1.2.2.2.2.1), .ref t1, .ref g1, .int (nI u.1.2.2.2.2.2)]))], [(b1, .inl (cA 0, 16, .inl (nA u.1.1)))], [(t1, .inl (cA 0, 16, .inl (nA u.1.2.1)))], [(g1, .inl (cA 4, 17, .inr (.inr (.inr (.inr (zg_o rr))))))], zg_w cA rr u.1.2.2.1, [(a4, .inl (cA 3, 5, .inr (.inr (.inr (.inr sf)))))], XX]) [0, 2, 3, 4, 5, 6, 7, 1, 8, 9] 10 (fun _ => rfl) (by decide) (fun _ => rfl) 2 0 rfl rfl rfl rfl hl rfl (Nat.le_of_ble_eq_true rfl) lw_d_293 (fun r u H1 locs1 hq hP hD hS => ?_) (zcnt_h hbd (by decide) (by decide))
  obtain ⟨q1, q2, q3, q4, q5⟩ := hq
  have hans : zQl n ph x r := by
    rcases q5 with ⟨z1, z2⟩ | ⟨z1, z2⟩
    · exact ⟨_, _, _, zk_rel (zAg_rel hph) (q4 z1), z2⟩
    · obtain ⟨b, o1, f1, z3⟩ := zk_ex n hp8
      exact ⟨b, o1, f1, z3, Or.inr (Or.inr (Or.inr ⟨z1, z2⟩))⟩
  exact kk r _ H1 locs1 hans ⟨a1, a2, o3, b1, t1, g1, a4, _, _, _, _, li, ne, sf, pa0, ph0, _, _, rr, _, XX, L, rfl, ⟨hkc, hks⟩, ⟨hn1, hn, hzr, hp8⟩, ⟨hpa, hph, hq8⟩, ⟨q3, q1, q2, q4⟩, hX, hli, hne⟩ hP hD hS
/-- what is told when the phases settle -/
theorem zs_tell {n : Nat} {pa ph ph0 b v : Nat → Nat} {od fi : Nat} (hph : zAg n ph0 ph) (hp8 : ∀ j, ph j < 8) (hb8 : ∀ j, b j < 8) (hk : zk_known n ph0 b od fi) (hv : ∀ j, v j = if 1 ≤ j ∧ j ≤ 2 ^ n - 1 then b j else ph0 j) :
    (∀ j, (fun j => if 1 ≤ j ∧ j ≤ 2 ^ n - 1 then b j else ph j) j < 8) ∧ zAg n v (fun j => if 1 ≤ j ∧ j ≤ 2 ^ n - 1 then b j else ph j) ∧ ((∀ j, ph0 j < 8) → ∀ j, v j < 8) ∧ zk_known n v b od fi ∧ ∀ (g : Nat) (ws : List Nat), zNet n g ph ws → zNet n g (fun j => if 1 ≤ j ∧ j ≤ 2 ^ n - 1 then b j else ph j) ws := by
  have hr : pz_rel (2 ^ n - 1) b v := pz_rel_eq (fun j h1 h2 => by rw [hv j, if_pos ⟨h1, h2⟩])
  have hr2 : pz_rel (2 ^ n - 1) b (fun j => if 1 ≤ j ∧ j ≤ 2 ^ n - 1 then b j else ph j) := pz_rel_eq (fun j h1 h2 => by
    show b j = if 1 ≤ j ∧ j ≤ 2 ^ n - 1 then b j else ph j
    rw [if_pos ⟨h1, h2⟩])
  refine ⟨fun j => ?_, fun j hj => ?_, fun h8 j => ?_, zk_rel (pz_rel_trans hk.1.2 hr) hk, fun g ws hz => zNet_rel (pz_rel_trans (pz_rel_trans (pz_rel_symm (zAg_rel hph)) hk.1.2) hr2) hz⟩
  · show (if 1 ≤ j ∧ j ≤ 2 ^ n - 1 then b j else ph j) < 8
    split
    · exact hb8 j
    · exact hp8 j
  · rw [hv j]
    show _ = if 1 ≤ j ∧ j ≤ 2 ^ n - 1 then b j else ph j
    rw [hph j hj]
  · rw [hv j]
    split
    · exact hb8 j
    · exact h8 j
set_option maxHeartbeats 4000000 in
set_option maxRecDepth 100000 in
theorem zC_settle (S : CallFix p m c code 4 s args zz_tbl lw_R) (hK : va_K (dC, dI) zz_cl (zT cA) s) (hA : ∀ q, s.heap.size ≤ q → A0 q) (hZ : zs_all A0 s) (hC : zCR cA o kc ks n pa ph w) (hP : va_P (dC, dI) zz_cl (w ++ wo) H) (hD : va_D A0 (w ++ wo)) (hS : va_S A0 s.heap H locs)  (hl : ls.size = 4)
    (kk : ∀ (r : Int32) (ph' : Nat → Nat) (w' : va_W) (H1 : Heap) (locs1 : List Loc), zQs n ph r ph' → zCR cA o kc ks n pa ph' w' → va_P (dC, dI) zz_cl (w' ++ wo) H1 → va_D A0 (w' ++ wo) → va_S A0 s.heap H1 locs1 → W p l e room_1 s m args below meth c H1 locs1 (38 + kc) (262777 + ks) Q (F0 m 314 ls [.int r])) : W p l e room_1 s m args below meth c H locs (38 + kc) (262777 + ks) Q (F0 m 311 ls [ .ref o]) := by
  obtain ⟨a1, a2, o3, b1, t1, g1, a4, lk, od, fi, la0, li, ne, sf, pa0, ph0, be, tr, rr, M, XX, L, rfl, ⟨hkc, hks⟩, ⟨hn1, hn, hzr, hp8⟩, ⟨hpa, hph, hq8⟩, ⟨hlk, hbe, htr, hkn⟩, hX, hli, hne⟩ := hC
  have hbd := zcnt_le hkc hks
  refine zx_Vwi (n := 0) (As := []) (rest := []) S (pc_settle l dC dI cA H.size o a1 a2 o3 a4 b1 t1 g1 n lk od fi la0 li ne ph0 be tr rr M hn1 hn hlk hq8 hbe htr hkn) zg_lw48 (by decide +kernel) ⟨rfl, rfl⟩ ⟨Nat.le_of_ble_eq_true rfl, Nat.le_of_ble_eq_true rfl⟩ hK [[(o, .inr (2, [.ref a1, .ref a2, .ref o3, .ref a4, .int (nI n), .int (nI lk), .int li, .int ne]))], [(a1, .inl (cA 0, 4, .inl (nA pa0)))], [(a2, .inl (cA 0, 16, .inl (nA ph0)))], [(o3, .inr (0, [.ref b1, .int (nI od), .int (nI fi), .ref t1, .ref g1, .int (nI la0)]))], [(b1, .inl (cA 0, 16, .inl (nA be)))], [(t1, .inl (cA 0, 16, .inl (nA tr)))], [(g1, .inl (cA 4, 17, .inr (.inr (.inr (.inr (zg_o rr))))))], zg_w cA rr M, [(a4, .inl (cA 3, 5, .inr (.inr (.inr (.inr sf)))))], XX] [[(a1, .inl (cA 0, 4, .inl (nA pa0)))], [(a4, .inl (cA 3, 5, .inr (.inr (.inr (.inr sf)))))], XX] hP hD hS hA hZ [0, 2, 3, 4, 5, 6, 7, 1, 8, 9] 10 rfl (by decide) rfl (fun u => [[(o, .inr (2, [.ref a1, .ref a2, .ref o3, .ref a4, .int (nI n), .int (nI 1), .int li, .int ne]))], [(a1, .inl (cA 0, 4, .inl (nA pa0)))], [(a2, .inl (cA 0, 16, .inl (nA u.2)))], [(o3, .inr (0, [.ref b1, .int (nI u.1.2.2.2.1), .int (nI u.1.2.2.2.2.1), .ref t1, .ref g1, .int (nI u.1.2.2.2.2.2)]))], [(b1, .inl (cA 0, 16, .inl (nA u.1.1)))], [(t1, .inl (cA 0, 16, .inl (nA u.1.2.1)))], [(g1, .inl (cA 4, 17, .inr (.inr (.inr (.inr (zg_o rr))))))], zg_w cA rr u.1.2.2.1, [(a4, .inl (cA 3, 5, .inr (.inr (.inr (.inr sf)))))], XX]) [0, 2, 3, 4, 5, 6, 7, 1, 8, 9] 10 (fun _ => rfl) (by decide) (fun _ => rfl) 2 0 rfl rfl rfl rfl hl rfl (Nat.le_of_ble_eq_true rfl) lw_d_311 (fun r u H1 locs1 hq hP hD hS => ?_) (zcnt_h hbd (by decide) (by decide))
  obtain ⟨q1, q2, q3, q4, q5⟩ := hq
  have e0 := zs_tell (pa := pa) hph hp8 q1 q3 q5
  exact kk r _ _ H1 locs1 ⟨_, _, _, zk_rel (zAg_rel hph) q3, by rw [q4, zc_dif_congr _ (zAg_in hph) (fun _ _ _ => rfl)], rfl⟩ ⟨a1, a2, o3, b1, t1, g1, a4, 1, _, _, _, li, ne, sf, pa0, _, _, _, rr, _, XX, L, rfl, ⟨hkc, hks⟩, ⟨hn1, hn, hzr, e0.1⟩, ⟨hpa, e0.2.1, e0.2.2.1 hq8⟩, ⟨Nat.le_refl 1, q1, q2, fun _ => e0.2.2.2.1⟩, hX, hli, (hne.imp id (fun z => ⟨z.1, z.2.imp (fun ws z2 => ⟨e0.2.2.2.2 _ ws z2.1, z2.2⟩)⟩))⟩ hP hD hS
end ZCALL

