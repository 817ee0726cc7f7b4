theorem br_all1 {s l : Nat} (hs : s ∈ bn_L1) (hV : bn_V 1 l) (hl : l < 16) : bn_nx 1 s l ∈ bn_L1 := by
  have h := List.all_eq_true.mp (List.all_eq_true.mp bn_c1 s hs) l (List.mem_range.mpr hl)
  rw [show bn_v 1 l = true from hV] at h
  rw [bn_b1] at h
  exact bn_set_mem h
theorem br_mem1 : ∀ w, bz_ok (bn_V 1) w → bz_run (bn_nx 1) (bn_st 1 1) w ∈ bn_L1
  | [], _ => by
    rw [bn_st1]
    exact bn_set_mem (by rw [← bn_b1]; exact bn_in1)
  | l :: w, h => by
    obtain ⟨a, b⟩ := h l List.mem_cons_self
    exact br_all1 (br_mem1 w (fun x hx => h x (List.mem_cons_of_mem _ hx))) a b
theorem br_rel1 {s l : Nat} (hs : s ∈ bn_L1) (hV : bn_V 1 l) (hl : l < 16) : bn_nx 1 s l % 2 = bn_map 1 (s % 2) l ∧ bn_nx 1 s l / 2 = (s / 2 ||| bn_had 1 (bn_nx 1 s l % 2) 1) := by
  have h := List.all_eq_true.mp (List.all_eq_true.mp bn_r1 s hs) l (List.mem_range.mpr hl)
  rw [show bn_v 1 l = true from hV] at h
  have h2 : (bn_nx 1 s l % 2 == bn_map 1 (s % 2) l && bn_nx 1 s l / 2 == (s / 2 ||| bn_had 1 (bn_nx 1 s l % 2) 1)) = true := h
  rw [Bool.and_eq_true] at h2
  exact ⟨eq_of_beq h2.1, eq_of_beq h2.2⟩
theorem br_wd1 {s : Nat} (hs : s ∈ bn_L1) : ∃ w, bz_ok (bn_V 1) w ∧ w.length ≤ 64 ∧ bz_run (bn_nx 1) (bn_st 1 1) w = s := by
  rw [← bn_w1] at hs
  obtain ⟨w, h1, h2⟩ := List.mem_map.mp hs
  have h := List.all_eq_true.mp bn_wok1 w h1
  rw [Bool.and_eq_true] at h
  refine ⟨w, fun l hl => ?_, Nat.le_trans (of_decide_eq_true h.1) (by decide), by rw [bn_st1]; exact h2⟩
  have h3 := List.all_eq_true.mp h.2 l hl
  rw [Bool.and_eq_true] at h3
  exact ⟨h3.1, of_decide_eq_true h3.2⟩
theorem br_fl1 {s : Nat} (hs : s ∈ bn_L1) : s % 2 + 2 ∈ bn_L1 ∧ s < 4 := by
  have h := List.all_eq_true.mp bn_f1 s hs
  rw [Bool.and_eq_true] at h
  refine ⟨bn_set_mem (by rw [← bn_b1]; exact h.1), of_decide_eq_true h.2⟩
theorem br_pt1 : (bn_L1.all fun s => (List.range 1).all fun q => decide (1 ≤ bn_par 1 (s % 2) q)) = true := by decide +kernel
theorem br_ps1 {s : Nat} (hs : s ∈ bn_L1) : ∀ q, q < 1 → 1 ≤ bn_par 1 (s % 2) q := fun q hq =>
  of_decide_eq_true (List.all_eq_true.mp (List.all_eq_true.mp br_pt1 s hs) q (List.mem_range.mpr hq))
theorem br_st1 : bn_st 1 1 % 2 = bn_s0 1 1 ∧ bn_st 1 1 / 2 = bn_had 1 (bn_s0 1 1) 1 := by decide +kernel
theorem br_all2 {s l : Nat} (hs : s ∈ bn_L2) (hV : bn_V 2 l) (hl : l < 16) : bn_nx 2 s l ∈ bn_L2 := by
  have h := List.all_eq_true.mp (List.all_eq_true.mp bn_c2 s hs) l (List.mem_range.mpr hl)
  rw [show bn_v 2 l = true from hV] at h
  rw [bn_b2] at h
  exact bn_set_mem h
theorem br_mem2 : ∀ w, bz_ok (bn_V 2) w → bz_run (bn_nx 2) (bn_st 2 2) w ∈ bn_L2
  | [], _ => by
    rw [bn_st2]
    exact bn_set_mem (by rw [← bn_b2]; exact bn_in2)
  | l :: w, h => by
    obtain ⟨a, b⟩ := h l List.mem_cons_self
    exact br_all2 (br_mem2 w (fun x hx => h x (List.mem_cons_of_mem _ hx))) a b
theorem br_rel2 {s l : Nat} (hs : s ∈ bn_L2) (hV : bn_V 2 l) (hl : l < 16) : bn_nx 2 s l % 16 = bn_map 2 (s % 16) l ∧ bn_nx 2 s l / 16 = (s / 16 ||| bn_had 2 (bn_nx 2 s l % 16) 2) := by
  have h := List.all_eq_true.mp (List.all_eq_true.mp bn_r2 s hs) l (List.mem_range.mpr hl)
  rw [show bn_v 2 l = true from hV] at h
  have h2 : (bn_nx 2 s l % 16 == bn_map 2 (s % 16) l && bn_nx 2 s l / 16 == (s / 16 ||| bn_had 2 (bn_nx 2 s l % 16) 2)) = true := h
  rw [Bool.and_eq_true] at h2
  exact ⟨eq_of_beq h2.1, eq_of_beq h2.2⟩
theorem br_wd2 {s : Nat} (hs : s ∈ bn_L2) : ∃ w, bz_ok (bn_V 2) w ∧ w.length ≤ 64 ∧ bz_run (bn_nx 2) (bn_st 2 2) w = s := by
  rw [← bn_w2] at hs
  obtain ⟨w, h1, h2⟩ := List.mem_map.mp hs
  have h := List.all_eq_true.mp bn_wok2 w h1
  rw [Bool.and_eq_true] at h
  refine ⟨w, fun l hl => ?_, Nat.le_trans (of_decide_eq_true h.1) (by decide), by rw [bn_st2]; exact h2⟩
  have h3 := List.all_eq_true.mp h.2 l hl
  rw [Bool.and_eq_true] at h3
  exact ⟨h3.1, of_decide_eq_true h3.2⟩
theorem br_fl2 {s : Nat} (hs : s ∈ bn_L2) : s % 16 + 112 ∈ bn_L2 ∧ s < 128 := by
  have h := List.all_eq_true.mp bn_f2 s hs
  rw [Bool.and_eq_true] at h
  refine ⟨bn_set_mem (by rw [← bn_b2]; exact h.1), of_decide_eq_true h.2⟩
theorem br_pt2 : (bn_L2.all fun s => (List.range 2).all fun q => decide (1 ≤ bn_par 2 (s % 16) q)) = true := by decide +kernel
theorem br_ps2 {s : Nat} (hs : s ∈ bn_L2) : ∀ q, q < 2 → 1 ≤ bn_par 2 (s % 16) q := fun q hq =>
  of_decide_eq_true (List.all_eq_true.mp (List.all_eq_true.mp br_pt2 s hs) q (List.mem_range.mpr hq))
theorem br_st2 : bn_st 2 2 % 16 = bn_s0 2 2 ∧ bn_st 2 2 / 16 = bn_had 2 (bn_s0 2 2) 2 := by decide +kernel
theorem br_all3 {s l : Nat} (hs : s ∈ bn_L3) (hV : bn_V 3 l) (hl : l < 16) : bn_nx 3 s l ∈ bn_L3 := by
  have h := List.all_eq_true.mp (List.all_eq_true.mp bn_c3 s hs) l (List.mem_range.mpr hl)
  rw [show bn_v 3 l = true from hV] at h
  rw [bn_b3] at h
  exact bn_set_mem h
theorem br_mem3 : ∀ w, bz_ok (bn_V 3) w → bz_run (bn_nx 3) (bn_st 3 3) w ∈ bn_L3
  | [], _ => by
    rw [bn_st3]
    exact bn_set_mem (by rw [← bn_b3]; exact bn_in3)
  | l :: w, h => by
    obtain ⟨a, b⟩ := h l List.mem_cons_self
    exact br_all3 (br_mem3 w (fun x hx => h x (List.mem_cons_of_mem _ hx))) a b
theorem br_rel3 {s l : Nat} (hs : s ∈ bn_L3) (hV : bn_V 3 l) (hl : l < 16) : bn_nx 3 s l % 512 = bn_map 3 (s % 512) l ∧ bn_nx 3 s l / 512 = (s / 512 ||| bn_had 3 (bn_nx 3 s l % 512) 3) := by
  have h := List.all_eq_true.mp (List.all_eq_true.mp bn_r3 s hs) l (List.mem_range.mpr hl)
  rw [show bn_v 3 l = true from hV] at h
  have h2 : (bn_nx 3 s l % 512 == bn_map 3 (s % 512) l && bn_nx 3 s l / 512 == (s / 512 ||| bn_had 3 (bn_nx 3 s l % 512) 3)) = true := h
  rw [Bool.and_eq_true] at h2
  exact ⟨eq_of_beq h2.1, eq_of_beq h2.2⟩
theorem br_wd3 {s : Nat} (hs : s ∈ bn_L3) : ∃ w, bz_ok (bn_V 3) w ∧ w.length ≤ 64 ∧ bz_run (bn_nx 3) (bn_st 3 3) w = s := by
  rw [← bn_w3] at hs
  obtain ⟨w, h1, h2⟩ := List.mem_map.mp hs
  have h := List.all_eq_true.mp bn_wok3 w h1
  rw [Bool.and_eq_true] at h
  refine ⟨w, fun l hl => ?_, Nat.le_trans (of_decide_eq_true h.1) (by decide), by rw [bn_st3]; exact h2⟩
  have h3 := List.all_eq_true.mp h.2 l hl
  rw [Bool.and_eq_true] at h3
  exact ⟨h3.1, of_decide_eq_true h3.2⟩
theorem br_fl3 {s : Nat} (hs : s ∈ bn_L3) : s % 512 + 65024 ∈ bn_L3 ∧ s < 65536 := by
  have h := List.all_eq_true.mp bn_f3 s hs
  rw [Bool.and_eq_true] at h
  refine ⟨bn_set_mem (by rw [← bn_b3]; exact h.1), of_decide_eq_true h.2⟩
theorem br_pt3 : (bn_L3.all fun s => (List.range 3).all fun q => decide (1 ≤ bn_par 3 (s % 512) q)) = true := by decide +kernel
theorem br_ps3 {s : Nat} (hs : s ∈ bn_L3) : ∀ q, q < 3 → 1 ≤ bn_par 3 (s % 512) q := fun q hq =>
  of_decide_eq_true (List.all_eq_true.mp (List.all_eq_true.mp br_pt3 s hs) q (List.mem_range.mpr hq))
theorem br_st3 : bn_st 3 3 % 512 = bn_s0 3 3 ∧ bn_st 3 3 / 512 = bn_had 3 (bn_s0 3 3) 3 := by decide +kernel
/-- all that is wanted of the states of one, two and three wires -/
theorem br_n {n : Nat} (h1 : 1 ≤ n) (hn : n ≤ 3) : ∃ L : List Nat, (∀ w, bz_ok (bn_V n) w → bz_run (bn_nx n) (bn_st n n) w ∈ L) ∧
    (∀ s l, s ∈ L → bn_V n l → l < 16 → bn_nx n s l % 2 ^ (n * n) = bn_map n (s % 2 ^ (n * n)) l ∧ bn_nx n s l / 2 ^ (n * n) = (s / 2 ^ (n * n) ||| bn_had n (bn_nx n s l % 2 ^ (n * n)) n)) ∧
    (∀ s, s ∈ L → ∃ w, bz_ok (bn_V n) w ∧ w.length ≤ 64 ∧ bz_run (bn_nx n) (bn_st n n) w = s) ∧
    (∀ s, s ∈ L → s % 2 ^ (n * n) + (2 ^ (2 ^ n - 1) - 1) * 2 ^ (n * n) ∈ L ∧ s < 2 ^ (n * n) * 2 ^ (2 ^ n - 1)) ∧
    (∀ s, s ∈ L → ∀ q, q < n → 1 ≤ bn_par n (s % 2 ^ (n * n)) q) ∧
    (bn_st n n % 2 ^ (n * n) = bn_s0 n n ∧ bn_st n n / 2 ^ (n * n) = bn_had n (bn_s0 n n) n) ∧ L.length = (if n = 1 then 1 else if n = 2 then 7 else 859) := by
  rcases (show n = 1 ∨ n = 2 ∨ n = 3 by omega) with rfl | rfl | rfl
  · exact ⟨bn_L1, br_mem1, fun s l a b c => br_rel1 a b c, fun s a => br_wd1 a, fun s a => br_fl1 a, fun s a => br_ps1 a, br_st1, bn_len1⟩
  · exact ⟨bn_L2, br_mem2, fun s l a b c => br_rel2 a b c, fun s a => br_wd2 a, fun s a => br_fl2 a, fun s a => br_ps2 a, br_st2, bn_len2⟩
  · exact ⟨bn_L3, br_mem3, fun s l a b c => br_rel3 a b c, fun s a => br_wd3 a, fun s a => br_fl3 a, fun s a => br_ps3 a, br_st3, bn_len3⟩
