/-- the law's two objects, in step -/
def zInv (cA : Nat → ClassId) (o om kc ks : Nat) (w : va_W) : Prop := ∃ (n : Nat) (pa ph : Nat → Nat) (w1 w2 : va_W), zCR cA o kc ks n pa ph w1 ∧ zMR cA om n pa ph w2 ∧ w = w1 ++ w2
theorem zCR_k {cA : Nat → ClassId} {o kc ks n : Nat} {pa ph : Nat → Nat} {w : va_W} (h : zCR cA o kc ks n pa ph w) : n ≤ 4 ∧ (∀ j, ph j < 8) ∧ kc ≤ 12 ∧ ks ≤ 25159 := by
  obtain ⟨a1, a2, o3, b1, t1, g1, a4, lk, od, fi, la0, li, ne, sf, pa0, ph0, be, tr, rr, M, XX, L, -, ⟨hkc, hks⟩, ⟨hn1, hn, hzr, hp8⟩, -⟩ := h
  exact ⟨hn, hp8, zcnt_le hkc hks⟩
theorem zi_ld {i k L : Nat} (h : i + 3 ≤ L) (hL : L ≤ 1536) (hk : k < 3) : vp_in (nI i + nI k) L := by
  rw [nI_add]
  exact vp_in_nI (by omega) (by omega)
section ZLAW
variable {p : Program} {l : Launch} {e : Env} {s : State} {m : MethodId} {args : Array Value} {below : List Frame} {meth : Method} {c : Code} {H : Heap} {locs : List Loc} {Q : State → Prop} {ls : Array Slot} {dC : Nat → ClassId} {dI : Nat → Nat → Nat} {cA : Nat → ClassId} {A0 : Nat → Prop} {w : va_W} {o om kc ks b L i : Nat} {xs : Nat → Int32}
set_option maxHeartbeats 1000000 in
set_option maxRecDepth 100000 in
theorem zL_begin (S : CallFix p m c code 4 s args zz_tbl lw_R) (hx : p.tables.exec = Jvm.exec) (hb : c.code = code) (hK : va_K (dC, dI) zz_cl (zT cA) s) (hA : ∀ q, s.heap.size ≤ q → A0 q) (hZ : zs_all A0 s) (hX : va_X b L xs s s.heap) (hbl : b < s.heap.size) (hbA : ¬ A0 b) (hL : L ≤ 1536) (hi : i + 3 ≤ L) (hV : zInv cA o om kc ks w) (hP : va_P (dC, dI) zz_cl w H) (hD : va_D A0 w) (hS : va_S A0 s.heap H locs) (hl : lv_has ls 4 [(0, .ref b), (1, .ref o), (2, .ref om), (3, .int (nI i))])
    (kk : ∀ (kc ks : Nat) (w : va_W) (H : Heap) (locs : List Loc), zInv cA o om kc ks w → va_P (dC, dI) zz_cl w H → va_D A0 w → va_S A0 s.heap H locs → W p l e room_1 s m args below meth c H locs (38 + kc) (262777 + ks) Q (F0 m 392 ls [])) : W p l e room_1 s m args below meth c H locs (38 + kc) (262777 + ks) Q (F0 m 96 ls []) := by
  obtain ⟨n, pa, ph, w1, w2, hC, hM, rfl⟩ := hV
  obtain ⟨hn, hp8, -⟩ := zCR_k hC
  refine lv_aload_n hx hb lw_d_96 rfl (lv_at hl 1 rfl) ?_
  refine lv_aload_n hx hb lw_d_97 rfl (lv_at hl 0 rfl) ?_
  refine lv_iload_n hx hb lw_d_98 rfl (lv_at hl 3 rfl) ?_
  refine lv_iconst (v := nI 1) hx hb lw_d_99 (by decide) ?_
  refine lv_iadd hx hb lw_d_100 ?_
  refine va_sld hx hb hX hbl hbA hS (zi_ld hi hL (by decide)) lw_d_101 ?_
  refine zC_begin S hK hA hZ hC hP hD hS _ hl.1 (fun r1 n1 pa1 ph1 w1 H locs q1 hC hP hD hS => ?_)
  have hbd := (zCR_k hC).2.2
  have hP := zx_P List.perm_append_comm hP
  have hD := zx_D List.perm_append_comm hD
  refine lv_aload_n hx hb lw_d_105 rfl (lv_at hl 2 rfl) ?_
  refine lv_aload_n hx hb lw_d_106 rfl (lv_at hl 0 rfl) ?_
  refine lv_iload_n hx hb lw_d_107 rfl (lv_at hl 3 rfl) ?_
  refine lv_iconst (v := nI 1) hx hb lw_d_108 (by decide) ?_
  refine lv_iadd hx hb lw_d_109 ?_
  refine va_sld hx hb hX hbl hbA hS (zi_ld hi hL (by decide)) lw_d_110 ?_
  refine zM_begin S hK hA hZ hM hP hD hS _ r1 hl.1 hbd (fun r2 n2 pa2 ph2 w2 H locs q2 hM hP hD hS => ?_)
  have hP := zx_P List.perm_append_comm hP
  have hD := zx_D List.perm_append_comm hD
  obtain ⟨e1, rfl, rfl, rfl⟩ := zQb_eq q1 q2
  refine lv_icmp_eq (tgt := 392) hx hb lw_d_114 (by decide) (fun _ => ?_) (fun z => absurd e1 z)
  exact kk _ _ _ _ _ ⟨_, _, _, _, _, hC, hM, rfl⟩ hP hD hS
set_option maxHeartbeats 1000000 in
set_option maxRecDepth 100000 in
theorem zL_join (S : CallFix p m c code 4 s args zz_tbl lw_R) (hx : p.tables.exec = Jvm.exec) (hb : c.code = code) (hK : va_K (dC, dI) zz_cl (zT cA) s) (hA : ∀ q, s.heap.size ≤ q → A0 q) (hZ : zs_all A0 s) (hX : va_X b L xs s s.heap) (hbl : b < s.heap.size) (hbA : ¬ A0 b) (hL : L ≤ 1536) (hi : i + 3 ≤ L) (hV : zInv cA o om kc ks w) (hP : va_P (dC, dI) zz_cl w H) (hD : va_D A0 w) (hS : va_S A0 s.heap H locs) (hl : lv_has ls 4 [(0, .ref b), (1, .ref o), (2, .ref om), (3, .int (nI i))])
    (kk : ∀ (kc ks : Nat) (w : va_W) (H : Heap) (locs : List Loc), zInv cA o om kc ks w → va_P (dC, dI) zz_cl w H → va_D A0 w → va_S A0 s.heap H locs → W p l e room_1 s m args below meth c H locs (38 + kc) (262777 + ks) Q (F0 m 392 ls [])) : W p l e room_1 s m args below meth c H locs (38 + kc) (262777 + ks) Q (F0 m 119 ls []) := by
  obtain ⟨n, pa, ph, w1, w2, hC, hM, rfl⟩ := hV
  obtain ⟨hn, hp8, -⟩ := zCR_k hC
  refine lv_aload_n hx hb lw_d_119 rfl (lv_at hl 1 rfl) ?_
  refine lv_aload_n hx hb lw_d_120 rfl (lv_at hl 0 rfl) ?_
  refine lv_iload_n hx hb lw_d_121 rfl (lv_at hl 3 rfl) ?_
  refine lv_iconst (v := nI 1) hx hb lw_d_122 (by decide) ?_
  refine lv_iadd hx hb lw_d_123 ?_
  refine va_sld hx hb hX hbl hbA hS (zi_ld hi hL (by decide)) lw_d_124 ?_
  refine lv_aload_n hx hb lw_d_125 rfl (lv_at hl 0 rfl) ?_
  refine lv_iload_n hx hb lw_d_126 rfl (lv_at hl 3 rfl) ?_
  refine lv_iconst (v := nI 2) hx hb lw_d_127 (by decide) ?_
  refine lv_iadd hx hb lw_d_128 ?_
  refine va_sld hx hb hX hbl hbA hS (zi_ld hi hL (by decide)) lw_d_129 ?_
  refine zC_join S hK hA hZ hC hP hD hS _ _ hl.1 (fun r1 pa1 w1 H locs q1 hC hP hD hS => ?_)
  have hbd := (zCR_k hC).2.2
  have hP := zx_P List.perm_append_comm hP
  have hD := zx_D List.perm_append_comm hD
  refine lv_aload_n hx hb lw_d_133 rfl (lv_at hl 2 rfl) ?_
  refine lv_aload_n hx hb lw_d_134 rfl (lv_at hl 0 rfl) ?_
  refine lv_iload_n hx hb lw_d_135 rfl (lv_at hl 3 rfl) ?_
  refine lv_iconst (v := nI 1) hx hb lw_d_136 (by decide) ?_
  refine lv_iadd hx hb lw_d_137 ?_
  refine va_sld hx hb hX hbl hbA hS (zi_ld hi hL (by decide)) lw_d_138 ?_
  refine lv_aload_n hx hb lw_d_139 rfl (lv_at hl 0 rfl) ?_
  refine lv_iload_n hx hb lw_d_140 rfl (lv_at hl 3 rfl) ?_
  refine lv_iconst (v := nI 2) hx hb lw_d_141 (by decide) ?_
  refine lv_iadd hx hb lw_d_142 ?_
  refine va_sld hx hb hX hbl hbA hS (zi_ld hi hL (by decide)) lw_d_143 ?_
  refine zM_join S hK hA hZ hM hP hD hS _ _ r1 hl.1 hbd (fun r2 pa2 w2 H locs q2 hM hP hD hS => ?_)
  have hP := zx_P List.perm_append_comm hP
  have hD := zx_D List.perm_append_comm hD
  obtain ⟨e1, rfl⟩ := zQj_eq hn q1 q2
  refine lv_icmp_eq (tgt := 392) hx hb lw_d_147 (by decide) (fun _ => ?_) (fun z => absurd e1 z)
  exact kk _ _ _ _ _ ⟨_, _, _, _, _, hC, hM, rfl⟩ hP hD hS
set_option maxHeartbeats 1000000 in
set_option maxRecDepth 100000 in
theorem zL_change (S : CallFix p m c code 4 s args zz_tbl lw_R) (hx : p.tables.exec = Jvm.exec) (hb : c.code = code) (hK : va_K (dC, dI) zz_cl (zT cA) s) (hA : ∀ q, s.heap.size ≤ q → A0 q) (hZ : zs_all A0 s) (hX : va_X b L xs s s.heap) (hbl : b < s.heap.size) (hbA : ¬ A0 b) (hL : L ≤ 1536) (hi : i + 3 ≤ L) (hV : zInv cA o om kc ks w) (hP : va_P (dC, dI) zz_cl w H) (hD : va_D A0 w) (hS : va_S A0 s.heap H locs) (hl : lv_has ls 4 [(0, .ref b), (1, .ref o), (2, .ref om), (3, .int (nI i))])
    (kk : ∀ (kc ks : Nat) (w : va_W) (H : Heap) (locs : List Loc), zInv cA o om kc ks w → va_P (dC, dI) zz_cl w H → va_D A0 w → va_S A0 s.heap H locs → W p l e room_1 s m args below meth c H locs (38 + kc) (262777 + ks) Q (F0 m 392 ls [])) : W p l e room_1 s m args below meth c H locs (38 + kc) (262777 + ks) Q (F0 m 152 ls []) := by
  obtain ⟨n, pa, ph, w1, w2, hC, hM, rfl⟩ := hV
  obtain ⟨hn, hp8, -⟩ := zCR_k hC
  refine lv_aload_n hx hb lw_d_152 rfl (lv_at hl 1 rfl) ?_
  refine lv_aload_n hx hb lw_d_153 rfl (lv_at hl 0 rfl) ?_
  refine lv_iload_n hx hb lw_d_154 rfl (lv_at hl 3 rfl) ?_
  refine lv_iconst (v := nI 1) hx hb lw_d_155 (by decide) ?_
  refine lv_iadd hx hb lw_d_156 ?_
  refine va_sld hx hb hX hbl hbA hS (zi_ld hi hL (by decide)) lw_d_157 ?_
  refine lv_aload_n hx hb lw_d_158 rfl (lv_at hl 0 rfl) ?_
  refine lv_iload_n hx hb lw_d_159 rfl (lv_at hl 3 rfl) ?_
  refine lv_iconst (v := nI 2) hx hb lw_d_160 (by decide) ?_
  refine lv_iadd hx hb lw_d_161 ?_
  refine va_sld hx hb hX hbl hbA hS (zi_ld hi hL (by decide)) lw_d_162 ?_
  refine zC_change S hK hA hZ hC hP hD hS _ _ hl.1 (fun r1 pa1 w1 H locs q1 hC hP hD hS => ?_)
  have hbd := (zCR_k hC).2.2
  have hP := zx_P List.perm_append_comm hP
  have hD := zx_D List.perm_append_comm hD
  refine lv_aload_n hx hb lw_d_166 rfl (lv_at hl 2 rfl) ?_
  refine lv_aload_n hx hb lw_d_167 rfl (lv_at hl 0 rfl) ?_
  refine lv_iload_n hx hb lw_d_168 rfl (lv_at hl 3 rfl) ?_
  refine lv_iconst (v := nI 1) hx hb lw_d_169 (by decide) ?_
  refine lv_iadd hx hb lw_d_170 ?_
  refine va_sld hx hb hX hbl hbA hS (zi_ld hi hL (by decide)) lw_d_171 ?_
  refine lv_aload_n hx hb lw_d_172 rfl (lv_at hl 0 rfl) ?_
  refine lv_iload_n hx hb lw_d_173 rfl (lv_at hl 3 rfl) ?_
  refine lv_iconst (v := nI 2) hx hb lw_d_174 (by decide) ?_
  refine lv_iadd hx hb lw_d_175 ?_
  refine va_sld hx hb hX hbl hbA hS (zi_ld hi hL (by decide)) lw_d_176 ?_
  refine zM_change S hK hA hZ hM hP hD hS _ _ r1 hl.1 hbd (fun r2 pa2 w2 H locs q2 hM hP hD hS => ?_)
  have hP := zx_P List.perm_append_comm hP
  have hD := zx_D List.perm_append_comm hD
  obtain ⟨e1, rfl⟩ := zQc_eq hn q1 q2
  refine lv_icmp_eq (tgt := 392) hx hb lw_d_180 (by decide) (fun _ => ?_) (fun z => absurd e1 z)
  exact kk _ _ _ _ _ ⟨_, _, _, _, _, hC, hM, rfl⟩ hP hD hS
set_option maxHeartbeats 1000000 in
set_option maxRecDepth 100000 in
theorem zL_turn (S : CallFix p m c code 4 s args zz_tbl lw_R) (hx : p.tables.exec = Jvm.exec) (hb : c.code = code) (hK : va_K (dC, dI) zz_cl (zT cA) s) (hA : ∀ q, s.heap.size ≤ q → A0 q) (hZ : zs_all A0 s) (hX : va_X b L xs s s.heap) (hbl : b < s.heap.size) (hbA : ¬ A0 b) (hL : L ≤ 1536) (hi : i + 3 ≤ L) (hV : zInv cA o om kc ks w) (hP : va_P (dC, dI) zz_cl w H) (hD : va_D A0 w) (hS : va_S A0 s.heap H locs) (hl : lv_has ls 4 [(0, .ref b), (1, .ref o), (2, .ref om), (3, .int (nI i))])
    (kk : ∀ (kc ks : Nat) (w : va_W) (H : Heap) (locs : List Loc), zInv cA o om kc ks w → va_P (dC, dI) zz_cl w H → va_D A0 w → va_S A0 s.heap H locs → W p l e room_1 s m args below meth c H locs (38 + kc) (262777 + ks) Q (F0 m 392 ls [])) : W p l e room_1 s m args below meth c H locs (38 + kc) (262777 + ks) Q (F0 m 185 ls []) := by
  obtain ⟨n, pa, ph, w1, w2, hC, hM, rfl⟩ := hV
  obtain ⟨hn, hp8, -⟩ := zCR_k hC
  refine lv_aload_n hx hb lw_d_185 rfl (lv_at hl 1 rfl) ?_
  refine lv_aload_n hx hb lw_d_186 rfl (lv_at hl 0 rfl) ?_
  refine lv_iload_n hx hb lw_d_187 rfl (lv_at hl 3 rfl) ?_
  refine lv_iconst (v := nI 1) hx hb lw_d_188 (by decide) ?_
  refine lv_iadd hx hb lw_d_189 ?_
  refine va_sld hx hb hX hbl hbA hS (zi_ld hi hL (by decide)) lw_d_190 ?_
  refine lv_aload_n hx hb lw_d_191 rfl (lv_at hl 0 rfl) ?_
  refine lv_iload_n hx hb lw_d_192 rfl (lv_at hl 3 rfl) ?_
  refine lv_iconst (v := nI 2) hx hb lw_d_193 (by decide) ?_
  refine lv_iadd hx hb lw_d_194 ?_
  refine va_sld hx hb hX hbl hbA hS (zi_ld hi hL (by decide)) lw_d_195 ?_
  refine zC_turn S hK hA hZ hC hP hD hS _ _ hl.1 (fun r1 ph1 w1 H locs q1 hC hP hD hS => ?_)
  have hbd := (zCR_k hC).2.2
  have hP := zx_P List.perm_append_comm hP
  have hD := zx_D List.perm_append_comm hD
  refine lv_aload_n hx hb lw_d_199 rfl (lv_at hl 2 rfl) ?_
  refine lv_aload_n hx hb lw_d_200 rfl (lv_at hl 0 rfl) ?_
  refine lv_iload_n hx hb lw_d_201 rfl (lv_at hl 3 rfl) ?_
  refine lv_iconst (v := nI 1) hx hb lw_d_202 (by decide) ?_
  refine lv_iadd hx hb lw_d_203 ?_
  refine va_sld hx hb hX hbl hbA hS (zi_ld hi hL (by decide)) lw_d_204 ?_
  refine lv_aload_n hx hb lw_d_205 rfl (lv_at hl 0 rfl) ?_
  refine lv_iload_n hx hb lw_d_206 rfl (lv_at hl 3 rfl) ?_
  refine lv_iconst (v := nI 2) hx hb lw_d_207 (by decide) ?_
  refine lv_iadd hx hb lw_d_208 ?_
  refine va_sld hx hb hX hbl hbA hS (zi_ld hi hL (by decide)) lw_d_209 ?_
  refine zM_turn S hK hA hZ hM hP hD hS _ _ r1 hl.1 hbd (fun r2 ph2 w2 H locs q2 hM hP hD hS => ?_)
  have hP := zx_P List.perm_append_comm hP
  have hD := zx_D List.perm_append_comm hD
  obtain ⟨e1, rfl⟩ := zQt_eq hn q1 q2
  refine lv_icmp_eq (tgt := 392) hx hb lw_d_213 (by decide) (fun _ => ?_) (fun z => absurd e1 z)
  exact kk _ _ _ _ _ ⟨_, _, _, _, _, hC, hM, rfl⟩ hP hD hS
set_option maxHeartbeats 1000000 in
set_option maxRecDepth 100000 in
theorem zL_parity (S : CallFix p m c code 4 s args zz_tbl lw_R) (hx : p.tables.exec = Jvm.exec) (hb : c.code = code) (hK : va_K (dC, dI) zz_cl (zT cA) s) (hA : ∀ q, s.heap.size ≤ q → A0 q) (hZ : zs_all A0 s) (hX : va_X b L xs s s.heap) (hbl : b < s.heap.size) (hbA : ¬ A0 b) (hL : L ≤ 1536) (hi : i + 3 ≤ L) (hV : zInv cA o om kc ks w) (hP : va_P (dC, dI) zz_cl w H) (hD : va_D A0 w) (hS : va_S A0 s.heap H locs) (hl : lv_has ls 4 [(0, .ref b), (1, .ref o), (2, .ref om), (3, .int (nI i))])
    (kk : ∀ (kc ks : Nat) (w : va_W) (H : Heap) (locs : List Loc), zInv cA o om kc ks w → va_P (dC, dI) zz_cl w H → va_D A0 w → va_S A0 s.heap H locs → W p l e room_1 s m args below meth c H locs (38 + kc) (262777 + ks) Q (F0 m 392 ls [])) : W p l e room_1 s m args below meth c H locs (38 + kc) (262777 + ks) Q (F0 m 218 ls []) := by
  obtain ⟨n, pa, ph, w1, w2, hC, hM, rfl⟩ := hV
  obtain ⟨hn, hp8, -⟩ := zCR_k hC
  refine lv_aload_n hx hb lw_d_218 rfl (lv_at hl 1 rfl) ?_
  refine lv_aload_n hx hb lw_d_219 rfl (lv_at hl 0 rfl) ?_
  refine lv_iload_n hx hb lw_d_220 rfl (lv_at hl 3 rfl) ?_
  refine lv_iconst (v := nI 1) hx hb lw_d_221 (by decide) ?_
  refine lv_iadd hx hb lw_d_222 ?_
  refine va_sld hx hb hX hbl hbA hS (zi_ld hi hL (by decide)) lw_d_223 ?_
  refine zC_parity S hK hA hZ hC hP hD hS _ hl.1 (fun r1 w1 H locs q1 hC hP hD hS => ?_)
  have hbd := (zCR_k hC).2.2
  have hP := zx_P List.perm_append_comm hP
  have hD := zx_D List.perm_append_comm hD
  refine lv_aload_n hx hb lw_d_227 rfl (lv_at hl 2 rfl) ?_
  refine lv_aload_n hx hb lw_d_228 rfl (lv_at hl 0 rfl) ?_
  refine lv_iload_n hx hb lw_d_229 rfl (lv_at hl 3 rfl) ?_
  refine lv_iconst (v := nI 1) hx hb lw_d_230 (by decide) ?_
  refine lv_iadd hx hb lw_d_231 ?_
  refine va_sld hx hb hX hbl hbA hS (zi_ld hi hL (by decide)) lw_d_232 ?_
  refine zM_parity S hK hA hZ hM hP hD hS _ r1 hl.1 hbd (fun r2 w2 H locs q2 hM hP hD hS => ?_)
  have hP := zx_P List.perm_append_comm hP
  have hD := zx_D List.perm_append_comm hD
  have e1 := zQp_eq hn q1 q2
  refine lv_icmp_eq (tgt := 392) hx hb lw_d_236 (by decide) (fun _ => ?_) (fun z => absurd e1 z)
  exact kk _ _ _ _ _ ⟨_, _, _, _, _, hC, hM, rfl⟩ hP hD hS
set_option maxHeartbeats 1000000 in
set_option maxRecDepth 100000 in
theorem zL_phase (S : CallFix p m c code 4 s args zz_tbl lw_R) (hx : p.tables.exec = Jvm.exec) (hb : c.code = code) (hK : va_K (dC, dI) zz_cl (zT cA) s) (hA : ∀ q, s.heap.size ≤ q → A0 q) (hZ : zs_all A0 s) (hX : va_X b L xs s s.heap) (hbl : b < s.heap.size) (hbA : ¬ A0 b) (hL : L ≤ 1536) (hi : i + 3 ≤ L) (hV : zInv cA o om kc ks w) (hP : va_P (dC, dI) zz_cl w H) (hD : va_D A0 w) (hS : va_S A0 s.heap H locs) (hl : lv_has ls 4 [(0, .ref b), (1, .ref o), (2, .ref om), (3, .int (nI i))])
    (kk : ∀ (kc ks : Nat) (w : va_W) (H : Heap) (locs : List Loc), zInv cA o om kc ks w → va_P (dC, dI) zz_cl w H → va_D A0 w → va_S A0 s.heap H locs → W p l e room_1 s m args below meth c H locs (38 + kc) (262777 + ks) Q (F0 m 392 ls [])) : W p l e room_1 s m args below meth c H locs (38 + kc) (262777 + ks) Q (F0 m 241 ls []) := by
  obtain ⟨n, pa, ph, w1, w2, hC, hM, rfl⟩ := hV
  obtain ⟨hn, hp8, -⟩ := zCR_k hC
  refine lv_aload_n hx hb lw_d_241 rfl (lv_at hl 1 rfl) ?_
  refine lv_aload_n hx hb lw_d_242 rfl (lv_at hl 0 rfl) ?_
  refine lv_iload_n hx hb lw_d_243 rfl (lv_at hl 3 rfl) ?_
  refine lv_iconst (v := nI 1) hx hb lw_d_244 (by decide) ?_
  refine lv_iadd hx hb lw_d_245 ?_
  refine va_sld hx hb hX hbl hbA hS (zi_ld hi hL (by decide)) lw_d_246 ?_
  refine zC_phase S hK hA hZ hC hP hD hS _ hl.1 (fun r1 w1 H locs q1 hC hP hD hS => ?_)
  have hbd := (zCR_k hC).2.2
  have hP := zx_P List.perm_append_comm hP
  have hD := zx_D List.perm_append_comm hD
  refine lv_aload_n hx hb lw_d_250 rfl (lv_at hl 2 rfl) ?_
  refine lv_aload_n hx hb lw_d_251 rfl (lv_at hl 0 rfl) ?_
  refine lv_iload_n hx hb lw_d_252 rfl (lv_at hl 3 rfl) ?_
  refine lv_iconst (v := nI 1) hx hb lw_d_253 (by decide) ?_
  refine lv_iadd hx hb lw_d_254 ?_
  refine va_sld hx hb hX hbl hbA hS (zi_ld hi hL (by decide)) lw_d_255 ?_
  refine zM_phase S hK hA hZ hM hP hD hS _ r1 hl.1 hbd (fun r2 w2 H locs q2 hM hP hD hS => ?_)
  have hP := zx_P List.perm_append_comm hP
  have hD := zx_D List.perm_append_comm hD
  have e1 := zQh_eq hn q1 q2
  refine lv_icmp_eq (tgt := 392) hx hb lw_d_259 (by decide) (fun _ => ?_) (fun z => absurd e1 z)
  exact kk _ _ _ _ _ ⟨_, _, _, _, _, hC, hM, rfl⟩ hP hD hS
set_option maxHeartbeats 1000000 in
set_option maxRecDepth 100000 in
theorem zL_function (S : CallFix p m c code 4 s args zz_tbl lw_R) (hx : p.tables.exec = Jvm.exec) (hb : c.code = code) (hK : va_K (dC, dI) zz_cl (zT cA) s) (hA : ∀ q, s.heap.size ≤ q → A0 q) (hZ : zs_all A0 s) (hX : va_X b L xs s s.heap) (hbl : b < s.heap.size) (hbA : ¬ A0 b) (hL : L ≤ 1536) (hi : i + 3 ≤ L) (hV : zInv cA o om kc ks w) (hP : va_P (dC, dI) zz_cl w H) (hD : va_D A0 w) (hS : va_S A0 s.heap H locs) (hl : lv_has ls 4 [(0, .ref b), (1, .ref o), (2, .ref om), (3, .int (nI i))])
    (kk : ∀ (kc ks : Nat) (w : va_W) (H : Heap) (locs : List Loc), zInv cA o om kc ks w → va_P (dC, dI) zz_cl w H → va_D A0 w → va_S A0 s.heap H locs → W p l e room_1 s m args below meth c H locs (38 + kc) (262777 + ks) Q (F0 m 392 ls [])) : W p l e room_1 s m args below meth c H locs (38 + kc) (262777 + ks) Q (F0 m 264 ls []) := by
  obtain ⟨n, pa, ph, w1, w2, hC, hM, rfl⟩ := hV
  obtain ⟨hn, hp8, -⟩ := zCR_k hC
  refine lv_aload_n hx hb lw_d_264 rfl (lv_at hl 1 rfl) ?_
  refine lv_aload_n hx hb lw_d_265 rfl (lv_at hl 0 rfl) ?_
  refine lv_iload_n hx hb lw_d_266 rfl (lv_at hl 3 rfl) ?_
  refine lv_iconst (v := nI 1) hx hb lw_d_267 (by decide) ?_
  refine lv_iadd hx hb lw_d_268 ?_
  refine va_sld hx hb hX hbl hbA hS (zi_ld hi hL (by decide)) lw_d_269 ?_
  refine zC_function S hK hA hZ hC hP hD hS _ hl.1 (fun r1 w1 H locs q1 hC hP hD hS => ?_)
  have hbd := (zCR_k hC).2.2
  have hP := zx_P List.perm_append_comm hP
  have hD := zx_D List.perm_append_comm hD
  refine lv_aload_n hx hb lw_d_273 rfl (lv_at hl 2 rfl) ?_
  refine lv_aload_n hx hb lw_d_274 rfl (lv_at hl 0 rfl) ?_
  refine lv_iload_n hx hb lw_d_275 rfl (lv_at hl 3 rfl) ?_
  refine lv_iconst (v := nI 1) hx hb lw_d_276 (by decide) ?_
  refine lv_iadd hx hb lw_d_277 ?_
  refine va_sld hx hb hX hbl hbA hS (zi_ld hi hL (by decide)) lw_d_278 ?_
  refine zM_function S hK hA hZ hM hP hD hS _ r1 hl.1 hbd (fun r2 w2 H locs q2 hM hP hD hS => ?_)
  have hP := zx_P List.perm_append_comm hP
  have hD := zx_D List.perm_append_comm hD
  have e1 := zQf_eq hn q1 q2
  refine lv_icmp_eq (tgt := 392) hx hb lw_d_282 (by decide) (fun _ => ?_) (fun z => absurd e1 z)
  exact kk _ _ _ _ _ ⟨_, _, _, _, _, hC, hM, rfl⟩ hP hD hS
set_option maxHeartbeats 1000000 in
set_option maxRecDepth 100000 in
theorem zL_least (S : CallFix p m c code 4 s args zz_tbl lw_R) (hx : p.tables.exec = Jvm.exec) (hb : c.code = code) (hK : va_K (dC, dI) zz_cl (zT cA) s) (hA : ∀ q, s.heap.size ≤ q → A0 q) (hZ : zs_all A0 s) (hX : va_X b L xs s s.heap) (hbl : b < s.heap.size) (hbA : ¬ A0 b) (hL : L ≤ 1536) (hi : i + 3 ≤ L) (hV : zInv cA o om kc ks w) (hP : va_P (dC, dI) zz_cl w H) (hD : va_D A0 w) (hS : va_S A0 s.heap H locs) (hl : lv_has ls 4 [(0, .ref b), (1, .ref o), (2, .ref om), (3, .int (nI i))])
    (kk : ∀ (kc ks : Nat) (w : va_W) (H : Heap) (locs : List Loc), zInv cA o om kc ks w → va_P (dC, dI) zz_cl w H → va_D A0 w → va_S A0 s.heap H locs → W p l e room_1 s m args below meth c H locs (38 + kc) (262777 + ks) Q (F0 m 392 ls [])) : W p l e room_1 s m args below meth c H locs (38 + kc) (262777 + ks) Q (F0 m 287 ls []) := by
  obtain ⟨n, pa, ph, w1, w2, hC, hM, rfl⟩ := hV
  obtain ⟨hn, hp8, -⟩ := zCR_k hC
  refine lv_aload_n hx hb lw_d_287 rfl (lv_at hl 1 rfl) ?_
  refine lv_aload_n hx hb lw_d_288 rfl (lv_at hl 0 rfl) ?_
  refine lv_iload_n hx hb lw_d_289 rfl (lv_at hl 3 rfl) ?_
  refine lv_iconst (v := nI 1) hx hb lw_d_290 (by decide) ?_
  refine lv_iadd hx hb lw_d_291 ?_
  refine va_sld hx hb hX hbl hbA hS (zi_ld hi hL (by decide)) lw_d_292 ?_
  refine zC_least S hK hA hZ hC hP hD hS _ hl.1 (fun r1 w1 H locs q1 hC hP hD hS => ?_)
  have hbd := (zCR_k hC).2.2
  have hP := zx_P List.perm_append_comm hP
  have hD := zx_D List.perm_append_comm hD
  refine lv_aload_n hx hb lw_d_296 rfl (lv_at hl 2 rfl) ?_
  refine lv_aload_n hx hb lw_d_297 rfl (lv_at hl 0 rfl) ?_
  refine lv_iload_n hx hb lw_d_298 rfl (lv_at hl 3 rfl) ?_
  refine lv_iconst (v := nI 1) hx hb lw_d_299 (by decide) ?_
  refine lv_iadd hx hb lw_d_300 ?_
  refine va_sld hx hb hX hbl hbA hS (zi_ld hi hL (by decide)) lw_d_301 ?_
  refine zM_least S hK hA hZ hM hP hD hS _ r1 hl.1 hbd (fun r2 w2 H locs q2 hM hP hD hS => ?_)
  have hP := zx_P List.perm_append_comm hP
  have hD := zx_D List.perm_append_comm hD
  have e1 := zQl_eq hn q1 q2
  refine lv_icmp_eq (tgt := 392) hx hb lw_d_305 (by decide) (fun _ => ?_) (fun z => absurd e1 z)
  exact kk _ _ _ _ _ ⟨_, _, _, _, _, hC, hM, rfl⟩ hP hD hS
set_option maxHeartbeats 1000000 in
set_option maxRecDepth 100000 in
theorem zL_settle (S : CallFix p m c code 4 s args zz_tbl lw_R) (hx : p.tables.exec = Jvm.exec) (hb : c.code = code) (hK : va_K (dC, dI) zz_cl (zT cA) s) (hA : ∀ q, s.heap.size ≤ q → A0 q) (hZ : zs_all A0 s) (hX : va_X b L xs s s.heap) (hbl : b < s.heap.size) (hbA : ¬ A0 b) (hL : L ≤ 1536) (hi : i + 3 ≤ L) (hV : zInv cA o om kc ks w) (hP : va_P (dC, dI) zz_cl w H) (hD : va_D A0 w) (hS : va_S A0 s.heap H locs) (hl : lv_has ls 4 [(0, .ref b), (1, .ref o), (2, .ref om), (3, .int (nI i))])
    (kk : ∀ (kc ks : Nat) (w : va_W) (H : Heap) (locs : List Loc), zInv cA o om kc ks w → va_P (dC, dI) zz_cl w H → va_D A0 w → va_S A0 s.heap H locs → W p l e room_1 s m args below meth c H locs (38 + kc) (262777 + ks) Q (F0 m 392 ls [])) : W p l e room_1 s m args below meth c H locs (38 + kc) (262777 + ks) Q (F0 m 310 ls []) := by
  obtain ⟨n, pa, ph, w1, w2, hC, hM, rfl⟩ := hV
  obtain ⟨hn, hp8, -⟩ := zCR_k hC
  refine lv_aload_n hx hb lw_d_310 rfl (lv_at hl 1 rfl) ?_
  refine zC_settle S hK hA hZ hC hP hD hS  hl.1 (fun r1 ph1 w1 H locs q1 hC hP hD hS => ?_)
  have hbd := (zCR_k hC).2.2
  have hP := zx_P List.perm_append_comm hP
  have hD := zx_D List.perm_append_comm hD
  refine lv_aload_n hx hb lw_d_314 rfl (lv_at hl 2 rfl) ?_
  refine zM_settle S hK hA hZ hM hP hD hS  r1 hl.1 hbd (fun r2 ph2 w2 H locs q2 hM hP hD hS => ?_)
  have hP := zx_P List.perm_append_comm hP
  have hD := zx_D List.perm_append_comm hD
  obtain ⟨e1, e2⟩ := zQs_eq q1 q2
  refine lv_icmp_eq (tgt := 392) hx hb lw_d_318 (by decide) (fun _ => ?_) (fun z => absurd e1 z)
  exact kk _ _ _ _ _ ⟨_, _, _, _, _, hC, zMR_ag hM (fun j => (e2 j).symm), rfl⟩ hP hD hS
set_option maxHeartbeats 1000000 in
set_option maxRecDepth 100000 in
theorem zL_linear (S : CallFix p m c code 4 s args zz_tbl lw_R) (hx : p.tables.exec = Jvm.exec) (hb : c.code = code) (hK : va_K (dC, dI) zz_cl (zT cA) s) (hA : ∀ q, s.heap.size ≤ q → A0 q) (hZ : zs_all A0 s) (hX : va_X b L xs s s.heap) (hbl : b < s.heap.size) (hbA : ¬ A0 b) (hL : L ≤ 1536) (hi : i + 3 ≤ L) (hV : zInv cA o om kc ks w) (hP : va_P (dC, dI) zz_cl w H) (hD : va_D A0 w) (hS : va_S A0 s.heap H locs) (hl : lv_has ls 4 [(0, .ref b), (1, .ref o), (2, .ref om), (3, .int (nI i))])
    (kk : ∀ (kc ks : Nat) (w : va_W) (H : Heap) (locs : List Loc), zInv cA o om kc ks w → va_P (dC, dI) zz_cl w H → va_D A0 w → va_S A0 s.heap H locs → W p l e room_1 s m args below meth c H locs (38 + kc) (262777 + ks) Q (F0 m 392 ls [])) : W p l e room_1 s m args below meth c H locs (38 + kc) (262777 + ks) Q (F0 m 323 ls []) := by
  obtain ⟨n, pa, ph, w1, w2, hC, hM, rfl⟩ := hV
  obtain ⟨hn, hp8, -⟩ := zCR_k hC
  refine lv_aload_n hx hb lw_d_323 rfl (lv_at hl 1 rfl) ?_
  refine lv_aload_n hx hb lw_d_324 rfl (lv_at hl 0 rfl) ?_
  refine lv_iload_n hx hb lw_d_325 rfl (lv_at hl 3 rfl) ?_
  refine lv_iconst (v := nI 1) hx hb lw_d_326 (by decide) ?_
  refine lv_iadd hx hb lw_d_327 ?_
  refine va_sld hx hb hX hbl hbA hS (zi_ld hi hL (by decide)) lw_d_328 ?_
  refine zC_linear S hK hA hZ hC hP hD hS _ hl.1 (fun r1 kc ks w1 H locs q1 hC hP hD hS => ?_)
  have hbd := (zCR_k hC).2.2
  have hP := zx_P List.perm_append_comm hP
  have hD := zx_D List.perm_append_comm hD
  refine lv_aload_n hx hb lw_d_332 rfl (lv_at hl 2 rfl) ?_
  refine lv_aload_n hx hb lw_d_333 rfl (lv_at hl 0 rfl) ?_
  refine lv_iload_n hx hb lw_d_334 rfl (lv_at hl 3 rfl) ?_
  refine lv_iconst (v := nI 1) hx hb lw_d_335 (by decide) ?_
  refine lv_iadd hx hb lw_d_336 ?_
  refine va_sld hx hb hX hbl hbA hS (zi_ld hi hL (by decide)) lw_d_337 ?_
  refine zM_linear S hK hA hZ hM hP hD hS _ r1 hl.1 hbd (fun r2 w2 H locs q2 hM hP hD hS => ?_)
  have hP := zx_P List.perm_append_comm hP
  have hD := zx_D List.perm_append_comm hD
  have e1 := zQi_eq q1 q2
  refine lv_icmp_eq (tgt := 392) hx hb lw_d_341 (by decide) (fun _ => ?_) (fun z => absurd e1 z)
  exact kk _ _ _ _ _ ⟨_, _, _, _, _, hC, hM, rfl⟩ hP hD hS
set_option maxHeartbeats 1000000 in
set_option maxRecDepth 100000 in
theorem zL_network (S : CallFix p m c code 4 s args zz_tbl lw_R) (hx : p.tables.exec = Jvm.exec) (hb : c.code = code) (hK : va_K (dC, dI) zz_cl (zT cA) s) (hA : ∀ q, s.heap.size ≤ q → A0 q) (hZ : zs_all A0 s) (hX : va_X b L xs s s.heap) (hbl : b < s.heap.size) (hbA : ¬ A0 b) (hL : L ≤ 1536) (hi : i + 3 ≤ L) (hV : zInv cA o om kc ks w) (hP : va_P (dC, dI) zz_cl w H) (hD : va_D A0 w) (hS : va_S A0 s.heap H locs) (hl : lv_has ls 4 [(0, .ref b), (1, .ref o), (2, .ref om), (3, .int (nI i))])
    (kk : ∀ (kc ks : Nat) (w : va_W) (H : Heap) (locs : List Loc), zInv cA o om kc ks w → va_P (dC, dI) zz_cl w H → va_D A0 w → va_S A0 s.heap H locs → W p l e room_1 s m args below meth c H locs (38 + kc) (262777 + ks) Q (F0 m 392 ls [])) : W p l e room_1 s m args below meth c H locs (38 + kc) (262777 + ks) Q (F0 m 346 ls []) := by
  obtain ⟨n, pa, ph, w1, w2, hC, hM, rfl⟩ := hV
  obtain ⟨hn, hp8, -⟩ := zCR_k hC
  refine lv_aload_n hx hb lw_d_346 rfl (lv_at hl 1 rfl) ?_
  refine lv_aload_n hx hb lw_d_347 rfl (lv_at hl 0 rfl) ?_
  refine lv_iload_n hx hb lw_d_348 rfl (lv_at hl 3 rfl) ?_
  refine lv_iconst (v := nI 1) hx hb lw_d_349 (by decide) ?_
  refine lv_iadd hx hb lw_d_350 ?_
  refine va_sld hx hb hX hbl hbA hS (zi_ld hi hL (by decide)) lw_d_351 ?_
  refine zC_network S hK hA hZ hC hP hD hS _ hl.1 (fun r1 kc ks w1 H locs q1 hC hP hD hS => ?_)
  have hbd := (zCR_k hC).2.2
  have hP := zx_P List.perm_append_comm hP
  have hD := zx_D List.perm_append_comm hD
  refine lv_aload_n hx hb lw_d_355 rfl (lv_at hl 2 rfl) ?_
  refine lv_aload_n hx hb lw_d_356 rfl (lv_at hl 0 rfl) ?_
  refine lv_iload_n hx hb lw_d_357 rfl (lv_at hl 3 rfl) ?_
  refine lv_iconst (v := nI 1) hx hb lw_d_358 (by decide) ?_
  refine lv_iadd hx hb lw_d_359 ?_
  refine va_sld hx hb hX hbl hbA hS (zi_ld hi hL (by decide)) lw_d_360 ?_
  refine zM_network S hK hA hZ hM hP hD hS _ r1 hl.1 hbd (fun r2 w2 H locs q2 hM hP hD hS => ?_)
  have hP := zx_P List.perm_append_comm hP
  have hD := zx_D List.perm_append_comm hD
  have e1 := zQn_eq hp8 q1 q2
  refine lv_icmp_eq (tgt := 392) hx hb lw_d_364 (by decide) (fun _ => ?_) (fun z => absurd e1 z)
  exact kk _ _ _ _ _ ⟨_, _, _, _, _, hC, hM, rfl⟩ hP hD hS
set_option maxHeartbeats 1000000 in
set_option maxRecDepth 100000 in
theorem zL_total (S : CallFix p m c code 4 s args zz_tbl lw_R) (hx : p.tables.exec = Jvm.exec) (hb : c.code = code) (hK : va_K (dC, dI) zz_cl (zT cA) s) (hA : ∀ q, s.heap.size ≤ q → A0 q) (hZ : zs_all A0 s) (hX : va_X b L xs s s.heap) (hbl : b < s.heap.size) (hbA : ¬ A0 b) (hL : L ≤ 1536) (hi : i + 3 ≤ L) (hV : zInv cA o om kc ks w) (hP : va_P (dC, dI) zz_cl w H) (hD : va_D A0 w) (hS : va_S A0 s.heap H locs) (hl : lv_has ls 4 [(0, .ref b), (1, .ref o), (2, .ref om), (3, .int (nI i))])
    (kk : ∀ (kc ks : Nat) (w : va_W) (H : Heap) (locs : List Loc), zInv cA o om kc ks w → va_P (dC, dI) zz_cl w H → va_D A0 w → va_S A0 s.heap H locs → W p l e room_1 s m args below meth c H locs (38 + kc) (262777 + ks) Q (F0 m 392 ls [])) : W p l e room_1 s m args below meth c H locs (38 + kc) (262777 + ks) Q (F0 m 369 ls []) := by
  obtain ⟨n, pa, ph, w1, w2, hC, hM, rfl⟩ := hV
  obtain ⟨hn, hp8, -⟩ := zCR_k hC
  refine lv_aload_n hx hb lw_d_369 rfl (lv_at hl 1 rfl) ?_
  refine lv_aload_n hx hb lw_d_370 rfl (lv_at hl 0 rfl) ?_
  refine lv_iload_n hx hb lw_d_371 rfl (lv_at hl 3 rfl) ?_
  refine lv_iconst (v := nI 1) hx hb lw_d_372 (by decide) ?_
  refine lv_iadd hx hb lw_d_373 ?_
  refine va_sld hx hb hX hbl hbA hS (zi_ld hi hL (by decide)) lw_d_374 ?_
  refine zC_total S hK hA hZ hC hP hD hS _ hl.1 (fun r1 w1 H locs q1 hC hP hD hS => ?_)
  have hbd := (zCR_k hC).2.2
  have hP := zx_P List.perm_append_comm hP
  have hD := zx_D List.perm_append_comm hD
  refine lv_aload_n hx hb lw_d_378 rfl (lv_at hl 2 rfl) ?_
  refine lv_aload_n hx hb lw_d_379 rfl (lv_at hl 0 rfl) ?_
  refine lv_iload_n hx hb lw_d_380 rfl (lv_at hl 3 rfl) ?_
  refine lv_iconst (v := nI 1) hx hb lw_d_381 (by decide) ?_
  refine lv_iadd hx hb lw_d_382 ?_
  refine va_sld hx hb hX hbl hbA hS (zi_ld hi hL (by decide)) lw_d_383 ?_
  refine zM_total S hK hA hZ hM hP hD hS _ r1 hl.1 hbd (fun r2 w2 H locs q2 hM hP hD hS => ?_)
  have hP := zx_P List.perm_append_comm hP
  have hD := zx_D List.perm_append_comm hD
  have e1 := zt_ans_eq q1 q2
  refine lv_icmp_eq (tgt := 392) hx hb lw_d_387 (by decide) (fun _ => ?_) (fun z => absurd e1 z)
  exact kk _ _ _ _ _ ⟨_, _, _, _, _, hC, hM, rfl⟩ hP hD hS
end ZLAW

