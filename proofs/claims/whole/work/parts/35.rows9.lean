/-! PlanSearch, the pure side: places and met -/
theorem zb_m16 (a : Nat) : nI a &&& nI 15 = nI (a % 16) := by
  rw [zb_and]
  exact congrArg nI (Nat.and_two_pow_sub_one_eq_mod a 4)
theorem zb_m65535 (a : Nat) : nI a &&& nI 65535 = nI (a % 65536) := by
  rw [zb_and]
  exact congrArg nI (Nat.and_two_pow_sub_one_eq_mod a 16)
theorem zb_s32 {k : Nat} (hk : k < 2 ^ 31) : ((nI k &&& 31).toBitVec.smod 32).toNat = k % 32 := by
  have e : nI k &&& 31 = nI (k % 32) := pk_andN (by omega) 5 rfl
  rw [e]
  have := zb_s31 (k % 32) (by omega)
  have e2 : nI (k % 32) &&& 31 = nI (k % 32) := by
    have := pk_andN (n := k % 32) (m := 31) (by omega) 5 rfl
    rw [this, Nat.mod_eq_of_lt (show k % 32 < 2 ^ 5 by omega)]
  rw [e2] at this
  exact this
theorem zb_shl32 {k : Nat} (hk : k < 2 ^ 31) : nI 1 <<< (nI k &&& 31) = nI (2 ^ (k % 32)) := by
  apply zb_inj
  apply BitVec.eq_of_toNat_eq
  rw [pk_shl (nI 1) (nI k &&& 31) (k % 32) (zb_s32 hk), zb_tb, zb_tb, BitVec.toNat_ofNat, BitVec.toNat_ofNat, Nat.mod_mul_mod, Nat.one_mul]
theorem zb_zero {x : Nat} (hx : x < 2 ^ 32) : nI x = 0 ↔ x = 0 := by
  constructor
  · intro h
    have h2 := congrArg (fun y : Int32 => y.toBitVec.toNat) h
    have e : (nI x).toBitVec.toNat = x := pk_tn hx
    have e2 : (0 : Int32).toBitVec.toNat = 0 := rfl
    simp only [e, e2] at h2
    exact h2
  · intro h
    rw [h]
    exact nI_0
theorem zl_shl {a k : Nat} (hk : k < 64) : lN a <<< ((nI k).toInt64 &&& 63) = lN (a * 2 ^ k) := by
  have hs : ∀ k, k < 64 → (((nI k).toInt64 &&& 63).toBitVec.smod 64).toNat = k := by decide +kernel
  have e := hs k hk
  apply Int64.toBitVec_inj.mp
  rw [Int64.toBitVec_shiftLeft]
  apply BitVec.eq_of_toNat_eq
  simp only [BitVec.shiftLeft_eq', BitVec.toNat_shiftLeft, e]
  show (BitVec.ofNat 64 a).toNat <<< k % 2 ^ 64 = (BitVec.ofNat 64 (a * 2 ^ k)).toNat
  rw [BitVec.toNat_ofNat, BitVec.toNat_ofNat, Nat.shiftLeft_eq, Nat.mod_mul_mod]
theorem zl_or (a b : Nat) : lN a ||| lN b = lN (a ||| b) := by
  apply Int64.toBitVec_inj.mp
  rw [Int64.toBitVec_or]
  exact (BitVec.ofNat_or (x := a) (y := b)).symm
theorem zl_shr {a k : Nat} (ha : a < 2 ^ 62) (hk : k < 64) : lN a >>> ((nI k).toInt64 &&& 63) = lN (a / 2 ^ k) := by
  have hs : ∀ k, k < 64 → (((nI k).toInt64 &&& 63).toBitVec.smod 64).toNat = k := by decide +kernel
  have e := hs k hk
  apply Int64.toBitVec_inj.mp
  rw [Int64.toBitVec_shiftRight]
  simp only [BitVec.sshiftRight_eq', e]
  have hm : (lN a).toBitVec = BitVec.ofNat 64 a := rfl
  have hmsb : (BitVec.ofNat 64 a).msb = false := by
    rw [BitVec.msb_eq_decide, BitVec.toNat_ofNat, Nat.mod_eq_of_lt (by omega)]
    simp
    omega
  rw [hm, BitVec.sshiftRight_eq_of_msb_false hmsb]
  apply BitVec.eq_of_toNat_eq
  show _ = (BitVec.ofNat 64 (a / 2 ^ k)).toNat
  rw [BitVec.toNat_ushiftRight, BitVec.toNat_ofNat, BitVec.toNat_ofNat, Nat.mod_eq_of_lt (by omega), Nat.shiftRight_eq_div_pow, Nat.mod_eq_of_lt]
  exact Nat.lt_of_le_of_lt (Nat.div_le_self _ _) (by omega)
/-- state, place before and join in one number -/
theorem zp_or {s f l : Nat} (hf : f < 65536) (hl : l < 16) : (s * 2 ^ 20 ||| f * 2 ^ 4) ||| l = s * 2 ^ 20 + f * 16 + l := by
  have e1 : s * 2 ^ 20 ||| f * 2 ^ 4 = s * 2 ^ 20 + f * 2 ^ 4 := by
    have := Nat.two_pow_add_eq_or_of_lt (i := 20) (b := f * 2 ^ 4) (by omega) s
    rw [Nat.mul_comm s] 
    exact this.symm
  rw [e1]
  have e2 : s * 2 ^ 20 + f * 2 ^ 4 = 2 ^ 4 * (s * 2 ^ 16 + f) := by omega
  rw [e2]
  have := Nat.two_pow_add_eq_or_of_lt (i := 4) (b := l) (by omega) (s * 2 ^ 16 + f)
  rw [← this]
def zp_ok (st fr lb pl : Nat → Nat) (cnt : Nat) : Prop := ∀ i, i < cnt → pl i = st i * 2 ^ 20 + fr i * 16 + lb i ∧ st i < 65536 ∧ fr i < 65536 ∧ lb i < 16
def zp_met (st mt : Nat → Nat) (cnt : Nat) : Prop := (∀ w, mt w < 2 ^ 32) ∧ ∀ s, s < 65536 → ((mt (s / 32)).testBit (s % 32) = true ↔ ∃ i, i < cnt ∧ st i = s)
theorem zp_bit (x b : Nat) : (x &&& 2 ^ b = 0 ↔ x.testBit b = false) := by
  constructor
  · intro h
    have := congrArg (fun y => Nat.testBit y b) h
    simp only [Nat.testBit_and, Nat.zero_testBit, Nat.testBit_two_pow_self, Bool.and_true] at this
    exact this
  · intro h
    apply Nat.eq_of_testBit_eq
    intro i
    simp only [Nat.testBit_and, Nat.zero_testBit, Nat.testBit_two_pow]
    by_cases e : b = i
    · subst e
      simp [h]
    · simp [e]
theorem zp_ok_up {st fr lb pl : Nat → Nat} {cnt s f l : Nat} (h : zp_ok st fr lb pl cnt) (hs : s < 65536) (hf : f < 65536) (hl : l < 16) : zp_ok (va_up st cnt s) (va_up fr cnt f) (va_up lb cnt l) (va_up pl cnt (s * 2 ^ 20 + f * 16 + l)) (cnt + 1) := by
  intro i hi
  by_cases e : i = cnt
  · subst e
    rw [va_up_self, va_up_self, va_up_self, va_up_self]
    exact ⟨rfl, hs, hf, hl⟩
  · rw [va_up_ne _ _ e, va_up_ne _ _ e, va_up_ne _ _ e, va_up_ne _ _ e]
    exact h i (by omega)
theorem zp_met_up {st mt : Nat → Nat} {cnt s : Nat} (h : zp_met st mt cnt) (hs : s < 65536) : zp_met (va_up st cnt s) (va_up mt (s / 32) (mt (s / 32) ||| 2 ^ (s % 32))) (cnt + 1) := by
  refine ⟨fun w => ?_, fun x hx => ?_⟩
  · by_cases e : w = s / 32
    · subst e
      rw [va_up_self]
      exact Nat.or_lt_two_pow (h.1 _) (Nat.pow_lt_pow_right (by decide) (by omega))
    · rw [va_up_ne _ _ e]
      exact h.1 w
  · have hx2 := h.2 x hx
    have key : ((va_up mt (s / 32) (mt (s / 32) ||| 2 ^ (s % 32))) (x / 32)).testBit (x % 32) = true ↔ ((mt (x / 32)).testBit (x % 32) = true ∨ x = s) := by
      by_cases e : x / 32 = s / 32
      · rw [e, va_up_self, Nat.testBit_or, Bool.or_eq_true, Nat.testBit_two_pow, decide_eq_true_eq]
        constructor
        · rintro (q | q)
          · exact Or.inl q
          · exact Or.inr (by omega)
        · rintro (q | q)
          · exact Or.inl q
          · exact Or.inr (by omega)
      · rw [va_up_ne _ _ e]
        constructor
        · exact Or.inl
        · rintro (q | q)
          · exact q
          · exact absurd (by rw [q]) e
    rw [key, hx2]
    constructor
    · rintro (⟨i, h1, h2⟩ | q)
      · exact ⟨i, by omega, by rw [va_up_ne _ _ (show i ≠ cnt by omega)]; exact h2⟩
      · exact ⟨cnt, by omega, by rw [va_up_self]; exact q.symm⟩
    · rintro ⟨i, h1, h2⟩
      by_cases e : i = cnt
      · subst e
        rw [va_up_self] at h2
        exact Or.inr h2.symm
      · rw [va_up_ne _ _ e] at h2
        exact Or.inl ⟨i, by omega, h2⟩
section ZJ
variable {p : Program} {l : Launch} {e : Env} {R : Room} {s : State} {m : MethodId} {args : Array Value} {below : List Frame} {meth : Method} {c : Code} {H : Heap} {locs : List Loc} {cells slots : Nat} {Q : State → Prop} {cc : ByteArray} {pc : Nat} {ls : Array Slot} {rest : List Value}
theorem zj_ne (hexec : p.tables.exec = Jvm.exec) (hb : c.code = cc) {x : Nat} {off : Int} {tgt : Nat} (hdg : decode cc pc = .ok (.ifCond .ne off, 3)) (ht : (pc : Int) + off = (tgt : Int)) (hx : x < 2 ^ 32)
    (kt : ¬ x = 0 → W p l e R s m args below meth c H locs cells slots Q (F0 m tgt ls rest)) (kf : x = 0 → W p l e R s m args below meth c H locs cells slots Q (F0 m (pc + 3) ls rest)) : W p l e R s m args below meth c H locs cells slots Q (F0 m pc ls (.int (nI x) :: rest)) :=
  lv_if_ne hexec hb hdg ht (fun h => kt (fun q => h ((zb_zero hx).mpr q))) (fun h => kf ((zb_zero hx).mp h))
end ZJ
theorem zp_put {n s0 w0 ot : Nat} (h1 : 1 ≤ n) (hn : n ≤ 4) (hs : s0 < 65536) (hw : w0 < n) (ho : ot < 2 ^ n) : bn_put n s0 w0 ot < 65536 := by
  have h : ot * 2 ^ (w0 * n) < 2 ^ 16 := by
    rcases (show n = 1 ∨ n = 2 ∨ n = 3 ∨ n = 4 by omega) with rfl | rfl | rfl | rfl
    · rw [show w0 = 0 by omega]; omega
    · rcases (show w0 = 0 ∨ w0 = 1 by omega) with rfl | rfl <;> omega
    · rcases (show w0 = 0 ∨ w0 = 1 ∨ w0 = 2 by omega) with rfl | rfl | rfl <;> omega
    · rcases (show w0 = 0 ∨ w0 = 1 ∨ w0 = 2 ∨ w0 = 3 by omega) with rfl | rfl | rfl | rfl <;> omega
  exact Nat.xor_lt_two_pow (n := 16) hs h
theorem zp_mk {n mk : Nat} (h : mk = if n < 4 then 1 else 0) : (n < 4 → mk = 1) ∧ (¬ n < 4 → mk = 0) := ⟨fun q => by rw [h, if_pos q], fun q => by rw [h, if_neg q]⟩
theorem zp_nn {n : Nat} (h1 : 1 ≤ n) (hn : n ≤ 4) : 1 ≤ n * n ∧ n * n ≤ 16 := by
  rcases (show n = 1 ∨ n = 2 ∨ n = 3 ∨ n = 4 by omega) with rfl | rfl | rfl | rfl <;> decide
theorem zp_par (n s0 w0 : Nat) : bn_par n s0 w0 < 2 ^ n := Nat.mod_lt _ (Nat.two_pow_pos n)
theorem zp_set {x b : Nat} (h : ¬ x &&& 2 ^ b = 0) : x.testBit b = true := by
  cases e : x.testBit b with
  | true => rfl
  | false => exact absurd ((zp_bit x b).mpr e) h
theorem zp_clear {st mt : Nat → Nat} {cnt s0 : Nat} (hm : zp_met st mt cnt) (hs : s0 < 65536) (h : mt (s0 / 32) &&& 2 ^ (s0 % 32) = 0) : ∀ i, i < cnt → st i ≠ s0 := by
  intro i hi e
  have := (hm.2 s0 hs).mpr ⟨i, hi, e⟩
  rw [(zp_bit _ _).mp h] at this
  cases this
