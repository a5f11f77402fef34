/-! the law: its cases -/
def lz_s (xs : Nat → Int32) (i : Int) : Int := (xs i.toNat).toInt
theorem lz_srg (xs : Nat → Int32) (i : Int) : -2147483648 ≤ lz_s xs i ∧ lz_s xs i < 2147483648 := kb_rgJ _
theorem sv_up {m : Int} {C N : kb_M} (h : sv_R m C N) : sv_R (m + 1) C N := ⟨h.1, h.2.1, h.2.2.1, ⟨h.2.2.2.1.1, h.2.2.2.1.2.1, by have := h.2.2.2.1.2.2; omega⟩, h.2.2.2.2⟩
theorem lz_h6 {m : Int} {C N : kb_M} (h : sv_R m C N) : 0 ≤ C 6 0 ∧ C 6 0 ≤ 1000000 := by
  obtain ⟨w1, w2, w3, w4⟩ := h.2.2.2.2.2.2
  omega
theorem lz_m6 {m : Int} {C N : kb_M} (h : sv_R m C N) : 0 ≤ C 6 1 ∧ C 6 1 ≤ 1000000 := by
  obtain ⟨w1, w2, w3, w4⟩ := h.2.2.2.2.2.2
  omega
theorem lz_v6 {m : Int} {C N : kb_M} (h : sv_R m C N) (hm : m < 1000000) : 0 ≤ C 3 4 ∧ C 3 4 < 1000000 := by
  obtain ⟨w1, w2, w3⟩ := h.2.2.2.1
  omega
theorem lz_v7 {m : Int} {C N : kb_M} (h : sv_R m C N) (hm : m < 1000000) : 0 ≤ N 22 9 ∧ N 22 9 < 1000000 := by
  obtain ⟨w1, w2, w3⟩ := h.2.2.2.1
  omega
theorem lz_n7 {m : Int} {C N : kb_M} (h : sv_R m C N) : 0 ≤ N 22 0 ∧ N 22 0 ≤ 16 := by
  have := h.1.2.1
  omega
section lz
variable {p : Program} {l : Launch} {e : Env} {s : State} {m : MethodId} {args : Array Value} {below : List Frame} {meth : Method} {c : Code} {D : va_G} {ad : Nat → Nat} {cy : Nat → ClassId} {A : Nat → Prop} {Q : State → Prop}
variable {M : kb_M} {b L : Nat} {xs : Nat → Int32} {k : Int}
theorem kb_sld {R : Room} {nL cells slots : Nat} {cc : ByteArray} {own : String} {Ts : List Cond} {pc : Nat} {lv : List (Nat × Value)} {st : List Value} (X : kb_X p s m c cc nL args Ts own D ad cy A) (hX : va_X b L xs s s.heap) (hbl : b < s.heap.size) (hbA : ¬ A b) (hL : L ≤ 4096) {i r : Int} (hi : 0 ≤ i ∧ i < (L : Int)) (hr : lz_s xs i = r) (hd : decode cc pc = .ok (.iaload, 1)) (k : kb_B p l e R s m args below meth c D ad cy A nL cells slots Q (pc + 1) lv (kb_i r :: st) M) : kb_B p l e R s m args below meth c D ad cy A nL cells slots Q pc lv (kb_i i :: .ref b :: st) M := by
  intro H locs ls hM hP hS hl
  subst hr
  have hg : kb_rg i := ⟨by omega, by omega⟩
  refine va_sld X.1.1 X.1.2.1 hX hbl hbA hS (kb_Jin hg hi) hd ?_
  rw [kb_Jcl hg]
  have e1 : (Value.int (xs i.toNat)) = kb_i (lz_s xs i) := by rw [kb_i, lz_s, ← kb_ofJ]
  rw [e1]
  exact k H locs ls hM hP hS hl
theorem kb_slen {R : Room} {nL cells slots : Nat} {cc : ByteArray} {own : String} {Ts : List Cond} {pc : Nat} {lv : List (Nat × Value)} {st : List Value} (X : kb_X p s m c cc nL args Ts own D ad cy A) (hX : va_X b L xs s s.heap) (hbl : b < s.heap.size) (hbA : ¬ A b) (hd : decode cc pc = .ok (.arraylength, 1)) (k : kb_B p l e R s m args below meth c D ad cy A nL cells slots Q (pc + 1) lv (kb_i (L : Int) :: st) M) : kb_B p l e R s m args below meth c D ad cy A nL cells slots Q pc lv (.ref b :: st) M := by
  intro H locs ls hM hP hS hl
  refine va_slen X.1.1 X.1.2.1 hX hbl hbA hS hd ?_
  have e1 : (Value.int (Int32.ofNat L)) = kb_i (L : Int) := by rw [kb_i, kb_J, Int32.ofInt_eq_ofNat]
  rw [e1]
  exact k H locs ls hM hP hS hl
theorem kb_icmp_same {R : Room} {nL cells slots : Nat} {cc : ByteArray} {own : String} {Ts : List Cond} {pc : Nat} {lv : List (Nat × Value)} {st : List Value} (X : kb_X p s m c cc nL args Ts own D ad cy A) {a a2 off : Int} {tgt : Nat} (h : a = a2) (hd : decode cc pc = .ok (.if_icmp .eq off, 3)) (ht : (pc : Int) + off = (tgt : Int)) (k : kb_B p l e R s m args below meth c D ad cy A nL cells slots Q tgt lv st M) : kb_B p l e R s m args below meth c D ad cy A nL cells slots Q pc lv (kb_i a2 :: kb_i a :: st) M := by
  intro H locs ls hM hP hS hl
  subst h
  exact lv_icmp_eq X.1.1 X.1.2.1 hd ht (fun _ => k H locs ls hM hP hS hl) (fun h => absurd rfl h)
theorem kb_lcmp_same {R : Room} {nL cells slots : Nat} {cc : ByteArray} {own : String} {Ts : List Cond} {pc : Nat} {lv : List (Nat × Value)} {st : List Value} (X : kb_X p s m c cc nL args Ts own D ad cy A) {a a2 off : Int} {tgt : Nat} (h : a = a2) (hd1 : decode cc pc = .ok (.lcmp, 1)) (hd : decode cc (pc + 1) = .ok (.ifCond .eq off, 3)) (ht : ((pc + 1 : Nat) : Int) + off = (tgt : Int)) (k : kb_B p l e R s m args below meth c D ad cy A nL cells slots Q tgt lv st M) : kb_B p l e R s m args below meth c D ad cy A nL cells slots Q pc lv (kb_l a2 :: kb_l a :: st) M := by
  intro H locs ls hM hP hS hl
  subst h
  refine W.lcmp X.1.1 X.1.2.1 hd1 ?_
  have e1 : lg_cmp (kb_L a) (kb_L a) = 0 := by
    unfold lg_cmp
    rw [if_neg (fun h => by have h2 := Int64.lt_iff_toInt_lt.mp h; omega), if_pos rfl]
  rw [e1]
  exact lv_if_eq X.1.1 X.1.2.1 hd ht (fun _ => k H locs ls hM hP hS hl) (fun h => absurd rfl h)

set_option maxHeartbeats 4000000 in
set_option maxRecDepth 100000 in
theorem lz_c0 (X : kb_X p s m c cL_law 4 args wsL_law RL D ad cy A) (hX : va_X b L xs s s.heap) (hbl : b < s.heap.size) (hbA : ¬ A b) (hL : L ≤ 4096) (hk : 0 ≤ k ∧ 8 * k + 8 ≤ (L : Int)) (hR : sv_R k M M) {a1 a2 a3 : Int} (e1 : lz_s xs (8 * k + 1) = a1) (g1 : -2147483648 ≤ a1 ∧ a1 < 2147483648) (e2 : lz_s xs (8 * k + 2) = a2) (g2 : -2147483648 ≤ a2 ∧ a2 < 2147483648) (e3 : lz_s xs (8 * k + 3) = a3) (g3 : -2147483648 ≤ a3 ∧ a3 < 2147483648) (K : ∀ M2 : kb_M, sv_R (k + 1) M2 M2 → kb_B p l e room_1 s m args below meth c D ad cy A 4 600000 7302250 Q 1191 [(3, kb_i (8 * k)), (2, .ref (ad 22)), (1, .ref (ad 0)), (0, .ref b)] [] M2) : kb_B p l e room_1 s m args below meth c D ad cy A 4 600000 7302250 Q 152 [(3, kb_i (8 * k)), (2, .ref (ad 22)), (1, .ref (ad 0)), (0, .ref b)] [] M := by
  have hR1 : sv_R k M (sp_probeM M a1 a2 a3) := sv_Rr (fun q hq => fr_probe M a1 a2 a3 hq) hR
  have hs := sm_probe a1 a2 a3 hR1
  refine kb_aload_n X 2 rfl dL_law_152 ?_
  refine kb_aload_n X 3 rfl dL_law_153 ?_
  refine kb_iload_n X 0 rfl dL_law_154 ?_
  refine kb_iconst X dL_law_155 ?_
  refine kb_iadd X dL_law_156 ?_
  refine kb_sld X hX hbl hbA hL (r := a1) (by omega) e1 dL_law_157 ?_
  refine kb_aload_n X 3 rfl dL_law_158 ?_
  refine kb_iload_n X 0 rfl dL_law_159 ?_
  refine kb_iconst X dL_law_160 ?_
  refine kb_iadd X dL_law_161 ?_
  refine kb_sld X hX hbl hbA hL (r := a2) (by omega) e2 dL_law_162 ?_
  refine kb_aload_n X 3 rfl dL_law_163 ?_
  refine kb_iload_n X 0 rfl dL_law_164 ?_
  refine kb_iconst X dL_law_165 ?_
  refine kb_iadd X dL_law_166 ?_
  refine kb_sld X hX hbl hbA hL (r := a3) (by omega) e3 dL_law_167 ?_
  refine kb_cVi X (rest := []) [kb_i a1, kb_i a2, kb_i a3] 0 (fl := [some 1, some 2, some 3, some 4, some 5, some 6]) (C := RX6) rfl rfl (c_X6_probe l D ad cy M a1 a2 a3 g1 g2 g3) gL_law_X6_probe rfl ⟨rfl, hy_X6_probe⟩ ⟨(Nat.le_of_ble_eq_true rfl), (Nat.le_of_ble_eq_true rfl)⟩ rfl (Nat.le_of_ble_eq_true rfl) ⟨(Nat.le_of_ble_eq_true rfl), (Nat.le_of_ble_eq_true rfl)⟩ dL_law_168 rfl ?_
  refine kb_aload_n X 1 rfl dL_law_171 ?_
  refine kb_aload_n X 3 rfl dL_law_172 ?_
  refine kb_iload_n X 0 rfl dL_law_173 ?_
  refine kb_iconst X dL_law_174 ?_
  refine kb_iadd X dL_law_175 ?_
  refine kb_sld X hX hbl hbA hL (r := a1) (by omega) e1 dL_law_176 ?_
  refine kb_aload_n X 3 rfl dL_law_177 ?_
  refine kb_iload_n X 0 rfl dL_law_178 ?_
  refine kb_iconst X dL_law_179 ?_
  refine kb_iadd X dL_law_180 ?_
  refine kb_sld X hX hbl hbA hL (r := a2) (by omega) e2 dL_law_181 ?_
  refine kb_aload_n X 3 rfl dL_law_182 ?_
  refine kb_iload_n X 0 rfl dL_law_183 ?_
  refine kb_iconst X dL_law_184 ?_
  refine kb_iadd X dL_law_185 ?_
  refine kb_sld X hX hbl hbA hL (r := a3) (by omega) e3 dL_law_186 ?_
  refine kb_cVi X (rest := [kb_i (sp_probeR a1 a2 a3)]) [kb_i a1, kb_i a2, kb_i a3] 22 (fl := [none, some 23, some 24, none, none, none, none, none, none, none, none, some 25, some 26, some 27, some 28, some 29, none, some 30, some 31, none, some 32, some 33, some 34, some 35, none, none, none, some 36]) (C := RX7) rfl rfl (c_X7_probe l D ad cy (sp_probeM M a1 a2 a3) a1 a2 a3 g1 g2 g3) gL_law_X7_probe rfl ⟨rfl, hy_X7_probe⟩ ⟨(Nat.le_of_ble_eq_true rfl), (Nat.le_of_ble_eq_true rfl)⟩ rfl (Nat.le_of_ble_eq_true rfl) ⟨(Nat.le_of_ble_eq_true rfl), (Nat.le_of_ble_eq_true rfl)⟩ dL_law_187 rfl ?_
  refine kb_icmp_same X (tgt := 1191) (rfl) dL_law_190 (by decide) ?_
  exact K _ (sv_up (sv_Rl (fun q hq => fs_probe _ a1 a2 a3 hq) hs))
set_option maxHeartbeats 4000000 in
set_option maxRecDepth 100000 in
theorem lz_c1 (X : kb_X p s m c cL_law 4 args wsL_law RL D ad cy A) (hX : va_X b L xs s s.heap) (hbl : b < s.heap.size) (hbA : ¬ A b) (hL : L ≤ 4096) (hk : 0 ≤ k ∧ 8 * k + 8 ≤ (L : Int)) (hR : sv_R k M M) {a1 a2 : Int} (e1 : lz_s xs (8 * k + 1) = a1) (g1 : -2147483648 ≤ a1 ∧ a1 < 2147483648) (e2 : lz_s xs (8 * k + 2) = a2) (g2 : -2147483648 ≤ a2 ∧ a2 < 2147483648) (K : ∀ M2 : kb_M, sv_R (k + 1) M2 M2 → kb_B p l e room_1 s m args below meth c D ad cy A 4 600000 7302250 Q 1191 [(3, kb_i (8 * k)), (2, .ref (ad 22)), (1, .ref (ad 0)), (0, .ref b)] [] M2) : kb_B p l e room_1 s m args below meth c D ad cy A 4 600000 7302250 Q 195 [(3, kb_i (8 * k)), (2, .ref (ad 22)), (1, .ref (ad 0)), (0, .ref b)] [] M := by
  have hR1 : sv_R k M (sp_paceM M a1 a2) := sv_Rr (fun q hq => fr_pace M a1 a2 hq) hR
  have hs := sm_pace a1 a2 hR1
  refine kb_aload_n X 2 rfl dL_law_195 ?_
  refine kb_aload_n X 3 rfl dL_law_196 ?_
  refine kb_iload_n X 0 rfl dL_law_197 ?_
  refine kb_iconst X dL_law_198 ?_
  refine kb_iadd X dL_law_199 ?_
  refine kb_sld X hX hbl hbA hL (r := a1) (by omega) e1 dL_law_200 ?_
  refine kb_aload_n X 3 rfl dL_law_201 ?_
  refine kb_iload_n X 0 rfl dL_law_202 ?_
  refine kb_iconst X dL_law_203 ?_
  refine kb_iadd X dL_law_204 ?_
  refine kb_sld X hX hbl hbA hL (r := a2) (by omega) e2 dL_law_205 ?_
  refine kb_cVi X (rest := []) [kb_i a1, kb_i a2] 0 (fl := [some 1, some 2, some 3, some 4, some 5, some 6]) (C := RX6) rfl rfl (c_X6_pace l D ad cy M a1 a2 g1 g2 (sv_IL hR.2.2.1)) gL_law_X6_pace rfl ⟨rfl, hy_X6_pace⟩ ⟨(Nat.le_of_ble_eq_true rfl), (Nat.le_of_ble_eq_true rfl)⟩ rfl (Nat.le_of_ble_eq_true rfl) ⟨(Nat.le_of_ble_eq_true rfl), (Nat.le_of_ble_eq_true rfl)⟩ dL_law_206 rfl ?_
  refine kb_aload_n X 1 rfl dL_law_209 ?_
  refine kb_aload_n X 3 rfl dL_law_210 ?_
  refine kb_iload_n X 0 rfl dL_law_211 ?_
  refine kb_iconst X dL_law_212 ?_
  refine kb_iadd X dL_law_213 ?_
  refine kb_sld X hX hbl hbA hL (r := a1) (by omega) e1 dL_law_214 ?_
  refine kb_aload_n X 3 rfl dL_law_215 ?_
  refine kb_iload_n X 0 rfl dL_law_216 ?_
  refine kb_iconst X dL_law_217 ?_
  refine kb_iadd X dL_law_218 ?_
  refine kb_sld X hX hbl hbA hL (r := a2) (by omega) e2 dL_law_219 ?_
  refine kb_cVi X (rest := [kb_i (sp_paceR M a1 a2)]) [kb_i a1, kb_i a2] 22 (fl := [none, some 23, some 24, none, none, none, none, none, none, none, none, some 25, some 26, some 27, some 28, some 29, none, some 30, some 31, none, some 32, some 33, some 34, some 35, none, none, none, some 36]) (C := RX7) rfl rfl (c_X7_pace l D ad cy (sp_paceM M a1 a2) a1 a2 g1 g2 (sv_mIL hR1.2.2.1)) gL_law_X7_pace rfl ⟨rfl, hy_X7_pace⟩ ⟨(Nat.le_of_ble_eq_true rfl), (Nat.le_of_ble_eq_true rfl)⟩ rfl (Nat.le_of_ble_eq_true rfl) ⟨(Nat.le_of_ble_eq_true rfl), (Nat.le_of_ble_eq_true rfl)⟩ dL_law_220 rfl ?_
  refine kb_icmp_same X (tgt := 1191) (hs.1) dL_law_223 (by decide) ?_
  exact K _ (sv_up (sv_Rl (fun q hq => fs_pace _ a1 a2 hq) hs.2))
set_option maxHeartbeats 4000000 in
set_option maxRecDepth 100000 in
theorem lz_c2_0 (X : kb_X p s m c cL_law 4 args wsL_law RL D ad cy A) (hX : va_X b L xs s s.heap) (hbl : b < s.heap.size) (hbA : ¬ A b) (hL : L ≤ 4096) (hk : 0 ≤ k ∧ 8 * k + 8 ≤ (L : Int)) (hR : sv_R k M M) {a1 a2 : Int} (e1 : lz_s xs (8 * k + 1) = a1) (g1 : -2147483648 ≤ a1 ∧ a1 < 2147483648) (e2 : lz_s xs (8 * k + 2) = a2) (g2 : -2147483648 ≤ a2 ∧ a2 < 2147483648) (hz : a2 = 0) (K : ∀ M2 : kb_M, sv_R (k + 1) M2 M2 → kb_B p l e room_1 s m args below meth c D ad cy A 4 600000 7302250 Q 1191 [(3, kb_i (8 * k)), (2, .ref (ad 22)), (1, .ref (ad 0)), (0, .ref b)] [] M2) : kb_B p l e room_1 s m args below meth c D ad cy A 4 600000 7302250 Q 228 [(3, kb_i (8 * k)), (2, .ref (ad 22)), (1, .ref (ad 0)), (0, .ref b)] [] M := by
  have hR1 : sv_R k M (sp_deadM M a1 0) := sv_Rr (fun q hq => fr_dead M a1 0 hq) hR
  have hs := sm_dead a1 0 (Or.inl rfl) hR1
  refine kb_aload_n X 2 rfl dL_law_228 ?_
  refine kb_aload_n X 3 rfl dL_law_229 ?_
  refine kb_iload_n X 0 rfl dL_law_230 ?_
  refine kb_iconst X dL_law_231 ?_
  refine kb_iadd X dL_law_232 ?_
  refine kb_sld X hX hbl hbA hL (r := a1) (by omega) e1 dL_law_233 ?_
  refine kb_aload_n X 3 rfl dL_law_234 ?_
  refine kb_iload_n X 0 rfl dL_law_235 ?_
  refine kb_iconst X dL_law_236 ?_
  refine kb_iadd X dL_law_237 ?_
  refine kb_sld X hX hbl hbA hL (r := a2) (by omega) e2 dL_law_238 ?_
  refine kb_if_eq X g2 (tgt := 246) dL_law_239 (by decide) (fun _ => ?_) (fun h => absurd hz h)
  refine kb_iconst X dL_law_246 ?_
  refine kb_cVi X (rest := []) [kb_i a1, kb_i 0] 0 (fl := [some 1, some 2, some 3, some 4, some 5, some 6]) (C := RX6) rfl rfl (c_X6_dead l D ad cy M a1 0 g1 (Or.inl rfl) (sv_IP hR.1)) gL_law_X6_dead rfl ⟨rfl, hy_X6_dead⟩ ⟨(Nat.le_of_ble_eq_true rfl), (Nat.le_of_ble_eq_true rfl)⟩ rfl (Nat.le_of_ble_eq_true rfl) ⟨(Nat.le_of_ble_eq_true rfl), (Nat.le_of_ble_eq_true rfl)⟩ dL_law_247 rfl ?_
  refine kb_aload_n X 1 rfl dL_law_250 ?_
  refine kb_aload_n X 3 rfl dL_law_251 ?_
  refine kb_iload_n X 0 rfl dL_law_252 ?_
  refine kb_iconst X dL_law_253 ?_
  refine kb_iadd X dL_law_254 ?_
  refine kb_sld X hX hbl hbA hL (r := a1) (by omega) e1 dL_law_255 ?_
  refine kb_aload_n X 3 rfl dL_law_256 ?_
  refine kb_iload_n X 0 rfl dL_law_257 ?_
  refine kb_iconst X dL_law_258 ?_
  refine kb_iadd X dL_law_259 ?_
  refine kb_sld X hX hbl hbA hL (r := a2) (by omega) e2 dL_law_260 ?_
  refine kb_if_eq X g2 (tgt := 268) dL_law_261 (by decide) (fun _ => ?_) (fun h => absurd hz h)
  refine kb_iconst X dL_law_268 ?_
  refine kb_cVi X (rest := [kb_i (sp_deadR M a1 0)]) [kb_i a1, kb_i 0] 22 (fl := [none, some 23, some 24, none, none, none, none, none, none, none, none, some 25, some 26, some 27, some 28, some 29, none, some 30, some 31, none, some 32, some 33, some 34, some 35, none, none, none, some 36]) (C := RX7) rfl rfl (c_X7_dead l D ad cy (sp_deadM M a1 0) a1 0 g1 (Or.inl rfl) (sv_mIP hR1.1)) gL_law_X7_dead rfl ⟨rfl, hy_X7_dead⟩ ⟨(Nat.le_of_ble_eq_true rfl), (Nat.le_of_ble_eq_true rfl)⟩ rfl (Nat.le_of_ble_eq_true rfl) ⟨(Nat.le_of_ble_eq_true rfl), (Nat.le_of_ble_eq_true rfl)⟩ dL_law_269 rfl ?_
  refine kb_icmp_same X (tgt := 1191) (hs.1) dL_law_272 (by decide) ?_
  exact K _ (sv_up (sv_Rl (fun q hq => fs_dead _ a1 0 hq) hs.2))
set_option maxHeartbeats 4000000 in
set_option maxRecDepth 100000 in
theorem lz_c2_1 (X : kb_X p s m c cL_law 4 args wsL_law RL D ad cy A) (hX : va_X b L xs s s.heap) (hbl : b < s.heap.size) (hbA : ¬ A b) (hL : L ≤ 4096) (hk : 0 ≤ k ∧ 8 * k + 8 ≤ (L : Int)) (hR : sv_R k M M) {a1 a2 : Int} (e1 : lz_s xs (8 * k + 1) = a1) (g1 : -2147483648 ≤ a1 ∧ a1 < 2147483648) (e2 : lz_s xs (8 * k + 2) = a2) (g2 : -2147483648 ≤ a2 ∧ a2 < 2147483648) (hz : a2 ≠ 0) (K : ∀ M2 : kb_M, sv_R (k + 1) M2 M2 → kb_B p l e room_1 s m args below meth c D ad cy A 4 600000 7302250 Q 1191 [(3, kb_i (8 * k)), (2, .ref (ad 22)), (1, .ref (ad 0)), (0, .ref b)] [] M2) : kb_B p l e room_1 s m args below meth c D ad cy A 4 600000 7302250 Q 228 [(3, kb_i (8 * k)), (2, .ref (ad 22)), (1, .ref (ad 0)), (0, .ref b)] [] M := by
  have hR1 : sv_R k M (sp_deadM M a1 1) := sv_Rr (fun q hq => fr_dead M a1 1 hq) hR
  have hs := sm_dead a1 1 (Or.inr rfl) hR1
  refine kb_aload_n X 2 rfl dL_law_228 ?_
  refine kb_aload_n X 3 rfl dL_law_229 ?_
  refine kb_iload_n X 0 rfl dL_law_230 ?_
  refine kb_iconst X dL_law_231 ?_
  refine kb_iadd X dL_law_232 ?_
  refine kb_sld X hX hbl hbA hL (r := a1) (by omega) e1 dL_law_233 ?_
  refine kb_aload_n X 3 rfl dL_law_234 ?_
  refine kb_iload_n X 0 rfl dL_law_235 ?_
  refine kb_iconst X dL_law_236 ?_
  refine kb_iadd X dL_law_237 ?_
  refine kb_sld X hX hbl hbA hL (r := a2) (by omega) e2 dL_law_238 ?_
  refine kb_if_eq X g2 (tgt := 246) dL_law_239 (by decide) (fun h => absurd h hz) (fun _ => ?_)
  refine kb_iconst X dL_law_242 ?_
  refine kb_goto X (tgt := 247) dL_law_243 (by decide) ?_
  refine kb_cVi X (rest := []) [kb_i a1, kb_i 1] 0 (fl := [some 1, some 2, some 3, some 4, some 5, some 6]) (C := RX6) rfl rfl (c_X6_dead l D ad cy M a1 1 g1 (Or.inr rfl) (sv_IP hR.1)) gL_law_X6_dead rfl ⟨rfl, hy_X6_dead⟩ ⟨(Nat.le_of_ble_eq_true rfl), (Nat.le_of_ble_eq_true rfl)⟩ rfl (Nat.le_of_ble_eq_true rfl) ⟨(Nat.le_of_ble_eq_true rfl), (Nat.le_of_ble_eq_true rfl)⟩ dL_law_247 rfl ?_
  refine kb_aload_n X 1 rfl dL_law_250 ?_
  refine kb_aload_n X 3 rfl dL_law_251 ?_
  refine kb_iload_n X 0 rfl dL_law_252 ?_
  refine kb_iconst X dL_law_253 ?_
  refine kb_iadd X dL_law_254 ?_
  refine kb_sld X hX hbl hbA hL (r := a1) (by omega) e1 dL_law_255 ?_
  refine kb_aload_n X 3 rfl dL_law_256 ?_
  refine kb_iload_n X 0 rfl dL_law_257 ?_
  refine kb_iconst X dL_law_258 ?_
  refine kb_iadd X dL_law_259 ?_
  refine kb_sld X hX hbl hbA hL (r := a2) (by omega) e2 dL_law_260 ?_
  refine kb_if_eq X g2 (tgt := 268) dL_law_261 (by decide) (fun h => absurd h hz) (fun _ => ?_)
  refine kb_iconst X dL_law_264 ?_
  refine kb_goto X (tgt := 269) dL_law_265 (by decide) ?_
  refine kb_cVi X (rest := [kb_i (sp_deadR M a1 1)]) [kb_i a1, kb_i 1] 22 (fl := [none, some 23, some 24, none, none, none, none, none, none, none, none, some 25, some 26, some 27, some 28, some 29, none, some 30, some 31, none, some 32, some 33, some 34, some 35, none, none, none, some 36]) (C := RX7) rfl rfl (c_X7_dead l D ad cy (sp_deadM M a1 1) a1 1 g1 (Or.inr rfl) (sv_mIP hR1.1)) gL_law_X7_dead rfl ⟨rfl, hy_X7_dead⟩ ⟨(Nat.le_of_ble_eq_true rfl), (Nat.le_of_ble_eq_true rfl)⟩ rfl (Nat.le_of_ble_eq_true rfl) ⟨(Nat.le_of_ble_eq_true rfl), (Nat.le_of_ble_eq_true rfl)⟩ dL_law_269 rfl ?_
  refine kb_icmp_same X (tgt := 1191) (hs.1) dL_law_272 (by decide) ?_
  exact K _ (sv_up (sv_Rl (fun q hq => fs_dead _ a1 1 hq) hs.2))
set_option maxHeartbeats 4000000 in
set_option maxRecDepth 100000 in
theorem lz_c3 (X : kb_X p s m c cL_law 4 args wsL_law RL D ad cy A) (hX : va_X b L xs s s.heap) (hbl : b < s.heap.size) (hbA : ¬ A b) (hL : L ≤ 4096) (hk : 0 ≤ k ∧ 8 * k + 8 ≤ (L : Int)) (hR : sv_R k M M) {a1 a2 a3 : Int} (e1 : lz_s xs (8 * k + 1) = a1) (g1 : -2147483648 ≤ a1 ∧ a1 < 2147483648) (e2 : lz_s xs (8 * k + 2) = a2) (g2 : -2147483648 ≤ a2 ∧ a2 < 2147483648) (e3 : lz_s xs (8 * k + 3) = a3) (g3 : -2147483648 ≤ a3 ∧ a3 < 2147483648) (K : ∀ M2 : kb_M, sv_R (k + 1) M2 M2 → kb_B p l e room_1 s m args below meth c D ad cy A 4 600000 7302250 Q 1191 [(3, kb_i (8 * k)), (2, .ref (ad 22)), (1, .ref (ad 0)), (0, .ref b)] [] M2) : kb_B p l e room_1 s m args below meth c D ad cy A 4 600000 7302250 Q 277 [(3, kb_i (8 * k)), (2, .ref (ad 22)), (1, .ref (ad 0)), (0, .ref b)] [] M := by
  have hs := sm_delay a1 a2 a3 hR
  refine kb_aload_n X 2 rfl dL_law_277 ?_
  refine kb_aload_n X 3 rfl dL_law_278 ?_
  refine kb_iload_n X 0 rfl dL_law_279 ?_
  refine kb_iconst X dL_law_280 ?_
  refine kb_iadd X dL_law_281 ?_
  refine kb_sld X hX hbl hbA hL (r := a1) (by omega) e1 dL_law_282 ?_
  refine kb_aload_n X 3 rfl dL_law_283 ?_
  refine kb_iload_n X 0 rfl dL_law_284 ?_
  refine kb_iconst X dL_law_285 ?_
  refine kb_iadd X dL_law_286 ?_
  refine kb_sld X hX hbl hbA hL (r := a2) (by omega) e2 dL_law_287 ?_
  refine kb_aload_n X 3 rfl dL_law_288 ?_
  refine kb_iload_n X 0 rfl dL_law_289 ?_
  refine kb_iconst X dL_law_290 ?_
  refine kb_iadd X dL_law_291 ?_
  refine kb_sld X hX hbl hbA hL (r := a3) (by omega) e3 dL_law_292 ?_
  refine kb_cVi X (rest := []) [kb_i a1, kb_i a2, kb_i a3] 0 (fl := [some 1, some 2, some 3, some 4, some 5, some 6]) (C := RX6) rfl rfl (c_X6_delay l D ad cy M a1 a2 a3 g1 g2 g3 (sv_IP hR.1)) gL_law_X6_delay rfl ⟨rfl, hy_X6_delay⟩ ⟨(Nat.le_of_ble_eq_true rfl), (Nat.le_of_ble_eq_true rfl)⟩ rfl (Nat.le_of_ble_eq_true rfl) ⟨(Nat.le_of_ble_eq_true rfl), (Nat.le_of_ble_eq_true rfl)⟩ dL_law_293 rfl ?_
  refine kb_aload_n X 1 rfl dL_law_296 ?_
  refine kb_aload_n X 3 rfl dL_law_297 ?_
  refine kb_iload_n X 0 rfl dL_law_298 ?_
  refine kb_iconst X dL_law_299 ?_
  refine kb_iadd X dL_law_300 ?_
  refine kb_sld X hX hbl hbA hL (r := a1) (by omega) e1 dL_law_301 ?_
  refine kb_aload_n X 3 rfl dL_law_302 ?_
  refine kb_iload_n X 0 rfl dL_law_303 ?_
  refine kb_iconst X dL_law_304 ?_
  refine kb_iadd X dL_law_305 ?_
  refine kb_sld X hX hbl hbA hL (r := a2) (by omega) e2 dL_law_306 ?_
  refine kb_aload_n X 3 rfl dL_law_307 ?_
  refine kb_iload_n X 0 rfl dL_law_308 ?_
  refine kb_iconst X dL_law_309 ?_
  refine kb_iadd X dL_law_310 ?_
  refine kb_sld X hX hbl hbA hL (r := a3) (by omega) e3 dL_law_311 ?_
  refine kb_cVi X (rest := [kb_i (sp_delayR M a1 a2 a3)]) [kb_i a1, kb_i a2, kb_i a3] 22 (fl := [none, some 23, some 24, none, none, none, none, none, none, none, none, some 25, some 26, some 27, some 28, some 29, none, some 30, some 31, none, some 32, some 33, some 34, some 35, none, none, none, some 36]) (C := RX7) rfl rfl (c_X7_delay l D ad cy M a1 a2 a3 g1 g2 g3 (sv_mIP hR.1)) gL_law_X7_delay rfl ⟨rfl, hy_X7_delay⟩ ⟨(Nat.le_of_ble_eq_true rfl), (Nat.le_of_ble_eq_true rfl)⟩ rfl (Nat.le_of_ble_eq_true rfl) ⟨(Nat.le_of_ble_eq_true rfl), (Nat.le_of_ble_eq_true rfl)⟩ dL_law_312 rfl ?_
  refine kb_icmp_same X (tgt := 1191) (hs) dL_law_315 (by decide) ?_
  exact K _ (sv_up hR)
set_option maxHeartbeats 4000000 in
set_option maxRecDepth 100000 in
theorem lz_c4 (X : kb_X p s m c cL_law 4 args wsL_law RL D ad cy A) (hX : va_X b L xs s s.heap) (hbl : b < s.heap.size) (hbA : ¬ A b) (hL : L ≤ 4096) (hk : 0 ≤ k ∧ 8 * k + 8 ≤ (L : Int)) (hR : sv_R k M M) {a1 a2 a3 a4 a5 : Int} (e1 : lz_s xs (8 * k + 1) = a1) (g1 : -2147483648 ≤ a1 ∧ a1 < 2147483648) (e2 : lz_s xs (8 * k + 2) = a2) (g2 : -2147483648 ≤ a2 ∧ a2 < 2147483648) (e3 : lz_s xs (8 * k + 3) = a3) (g3 : -2147483648 ≤ a3 ∧ a3 < 2147483648) (e4 : lz_s xs (8 * k + 4) = a4) (g4 : -2147483648 ≤ a4 ∧ a4 < 2147483648) (e5 : lz_s xs (8 * k + 5) = a5) (g5 : -2147483648 ≤ a5 ∧ a5 < 2147483648) (K : ∀ M2 : kb_M, sv_R (k + 1) M2 M2 → kb_B p l e room_1 s m args below meth c D ad cy A 4 600000 7302250 Q 1191 [(3, kb_i (8 * k)), (2, .ref (ad 22)), (1, .ref (ad 0)), (0, .ref b)] [] M2) : kb_B p l e room_1 s m args below meth c D ad cy A 4 600000 7302250 Q 320 [(3, kb_i (8 * k)), (2, .ref (ad 22)), (1, .ref (ad 0)), (0, .ref b)] [] M := by
  have hR1 : sv_R k M (sp_pointM M a1 a2 a3 a4 a5) := sv_Rr (fun q hq => fr_point M a1 a2 a3 a4 a5 hq) hR
  have hs := sm_point a1 a2 a3 a4 a5 hR1
  refine kb_aload_n X 2 rfl dL_law_320 ?_
  refine kb_aload_n X 3 rfl dL_law_321 ?_
  refine kb_iload_n X 0 rfl dL_law_322 ?_
  refine kb_iconst X dL_law_323 ?_
  refine kb_iadd X dL_law_324 ?_
  refine kb_sld X hX hbl hbA hL (r := a1) (by omega) e1 dL_law_325 ?_
  refine kb_aload_n X 3 rfl dL_law_326 ?_
  refine kb_iload_n X 0 rfl dL_law_327 ?_
  refine kb_iconst X dL_law_328 ?_
  refine kb_iadd X dL_law_329 ?_
  refine kb_sld X hX hbl hbA hL (r := a2) (by omega) e2 dL_law_330 ?_
  refine kb_aload_n X 3 rfl dL_law_331 ?_
  refine kb_iload_n X 0 rfl dL_law_332 ?_
  refine kb_iconst X dL_law_333 ?_
  refine kb_iadd X dL_law_334 ?_
  refine kb_sld X hX hbl hbA hL (r := a3) (by omega) e3 dL_law_335 ?_
  refine kb_aload_n X 3 rfl dL_law_336 ?_
  refine kb_iload_n X 0 rfl dL_law_337 ?_
  refine kb_iconst X dL_law_338 ?_
  refine kb_iadd X dL_law_339 ?_
  refine kb_sld X hX hbl hbA hL (r := a4) (by omega) e4 dL_law_340 ?_
  refine kb_aload_n X 3 rfl dL_law_341 ?_
  refine kb_iload_n X 0 rfl dL_law_342 ?_
  refine kb_iconst X dL_law_343 ?_
  refine kb_iadd X dL_law_344 ?_
  refine kb_sld X hX hbl hbA hL (r := a5) (by omega) e5 dL_law_345 ?_
  refine kb_cVi X (rest := []) [kb_i a1, kb_i a2, kb_i a3, kb_i a4, kb_i a5] 0 (fl := [some 1, some 2, some 3, some 4, some 5, some 6]) (C := RX6) rfl rfl (c_X6_point l D ad cy M a1 a2 a3 a4 a5 g1 g2 g3 g4 g5 (sv_sc hR.2.1)) gL_law_X6_point rfl ⟨rfl, hy_X6_point⟩ ⟨(Nat.le_of_ble_eq_true rfl), (Nat.le_of_ble_eq_true rfl)⟩ rfl (Nat.le_of_ble_eq_true rfl) ⟨(Nat.le_of_ble_eq_true rfl), (Nat.le_of_ble_eq_true rfl)⟩ dL_law_346 rfl ?_
  refine kb_aload_n X 1 rfl dL_law_349 ?_
  refine kb_aload_n X 3 rfl dL_law_350 ?_
  refine kb_iload_n X 0 rfl dL_law_351 ?_
  refine kb_iconst X dL_law_352 ?_
  refine kb_iadd X dL_law_353 ?_
  refine kb_sld X hX hbl hbA hL (r := a1) (by omega) e1 dL_law_354 ?_
  refine kb_aload_n X 3 rfl dL_law_355 ?_
  refine kb_iload_n X 0 rfl dL_law_356 ?_
  refine kb_iconst X dL_law_357 ?_
  refine kb_iadd X dL_law_358 ?_
  refine kb_sld X hX hbl hbA hL (r := a2) (by omega) e2 dL_law_359 ?_
  refine kb_aload_n X 3 rfl dL_law_360 ?_
  refine kb_iload_n X 0 rfl dL_law_361 ?_
  refine kb_iconst X dL_law_362 ?_
  refine kb_iadd X dL_law_363 ?_
  refine kb_sld X hX hbl hbA hL (r := a3) (by omega) e3 dL_law_364 ?_
  refine kb_aload_n X 3 rfl dL_law_365 ?_
  refine kb_iload_n X 0 rfl dL_law_366 ?_
  refine kb_iconst X dL_law_367 ?_
  refine kb_iadd X dL_law_368 ?_
  refine kb_sld X hX hbl hbA hL (r := a4) (by omega) e4 dL_law_369 ?_
  refine kb_aload_n X 3 rfl dL_law_370 ?_
  refine kb_iload_n X 0 rfl dL_law_371 ?_
  refine kb_iconst X dL_law_372 ?_
  refine kb_iadd X dL_law_373 ?_
  refine kb_sld X hX hbl hbA hL (r := a5) (by omega) e5 dL_law_374 ?_
  refine kb_cVi X (rest := [kb_i (sp_pointR M a1 a2 a3 a4 a5)]) [kb_i a1, kb_i a2, kb_i a3, kb_i a4, kb_i a5] 22 (fl := [none, some 23, some 24, none, none, none, none, none, none, none, none, some 25, some 26, some 27, some 28, some 29, none, some 30, some 31, none, some 32, some 33, some 34, some 35, none, none, none, some 36]) (C := RX7) rfl rfl (c_X7_point l D ad cy (sp_pointM M a1 a2 a3 a4 a5) a1 a2 a3 a4 a5 g1 g2 g3 g4 g5 (sv_msc hR1.2.1)) gL_law_X7_point rfl ⟨rfl, hy_X7_point⟩ ⟨(Nat.le_of_ble_eq_true rfl), (Nat.le_of_ble_eq_true rfl)⟩ rfl (Nat.le_of_ble_eq_true rfl) ⟨(Nat.le_of_ble_eq_true rfl), (Nat.le_of_ble_eq_true rfl)⟩ dL_law_375 rfl ?_
  refine kb_icmp_same X (tgt := 1191) (hs.1) dL_law_378 (by decide) ?_
  exact K _ (sv_up (sv_Rl (fun q hq => fs_point _ a1 a2 a3 a4 a5 hq) hs.2))
set_option maxHeartbeats 4000000 in
set_option maxRecDepth 100000 in
theorem lz_c5 (X : kb_X p s m c cL_law 4 args wsL_law RL D ad cy A) (hX : va_X b L xs s s.heap) (hbl : b < s.heap.size) (hbA : ¬ A b) (hL : L ≤ 4096) (hk : 0 ≤ k ∧ 8 * k + 8 ≤ (L : Int)) (hR : sv_R k M M) (K : ∀ M2 : kb_M, sv_R (k + 1) M2 M2 → kb_B p l e room_1 s m args below meth c D ad cy A 4 600000 7302250 Q 1191 [(3, kb_i (8 * k)), (2, .ref (ad 22)), (1, .ref (ad 0)), (0, .ref b)] [] M2) : kb_B p l e room_1 s m args below meth c D ad cy A 4 600000 7302250 Q 383 [(3, kb_i (8 * k)), (2, .ref (ad 22)), (1, .ref (ad 0)), (0, .ref b)] [] M := by
  have hR1 : sv_R k M (kb_wr M 2 5 0) := sv_Rr (fun q hq => kb_wr_other M 5 0 (by omega)) hR
  have hs := sm_clear hR1
  refine kb_aload_n X 2 rfl dL_law_383 ?_
  refine kb_cVi X (rest := []) [] 0 (fl := [some 1, some 2, some 3, some 4, some 5, some 6]) (C := RX6) rfl rfl (c_X6_clear l D ad cy M  ) gL_law_X6_clear rfl ⟨rfl, hy_X6_clear⟩ ⟨(Nat.le_of_ble_eq_true rfl), (Nat.le_of_ble_eq_true rfl)⟩ rfl (Nat.le_of_ble_eq_true rfl) ⟨(Nat.le_of_ble_eq_true rfl), (Nat.le_of_ble_eq_true rfl)⟩ dL_law_384 rfl ?_
  refine kb_aload_n X 1 rfl dL_law_387 ?_
  refine kb_cVi X (rest := [kb_i (M 2 5)]) [] 22 (fl := [none, some 23, some 24, none, none, none, none, none, none, none, none, some 25, some 26, some 27, some 28, some 29, none, some 30, some 31, none, some 32, some 33, some 34, some 35, none, none, none, some 36]) (C := RX7) rfl rfl (c_X7_clear l D ad cy (kb_wr M 2 5 0)  ) gL_law_X7_clear rfl ⟨rfl, hy_X7_clear⟩ ⟨(Nat.le_of_ble_eq_true rfl), (Nat.le_of_ble_eq_true rfl)⟩ rfl (Nat.le_of_ble_eq_true rfl) ⟨(Nat.le_of_ble_eq_true rfl), (Nat.le_of_ble_eq_true rfl)⟩ dL_law_388 rfl ?_
  refine kb_icmp_same X (tgt := 1191) (hs.1) dL_law_391 (by decide) ?_
  exact K _ (sv_up (sv_Rl (fun q hq => kb_wr_other _ 10 0 (by omega)) hs.2))
set_option maxHeartbeats 4000000 in
set_option maxRecDepth 100000 in
theorem lz_c6 (X : kb_X p s m c cL_law 4 args wsL_law RL D ad cy A) (hX : va_X b L xs s s.heap) (hbl : b < s.heap.size) (hbA : ¬ A b) (hL : L ≤ 4096) (hk : 0 ≤ k ∧ 8 * k + 8 ≤ (L : Int)) (hR : sv_R k M M) {a1 a2 : Int} (e1 : lz_s xs (8 * k + 1) = a1) (g1 : -2147483648 ≤ a1 ∧ a1 < 2147483648) (e2 : lz_s xs (8 * k + 2) = a2) (g2 : -2147483648 ≤ a2 ∧ a2 < 2147483648) (K : ∀ M2 : kb_M, sv_R (k + 1) M2 M2 → kb_B p l e room_1 s m args below meth c D ad cy A 4 600000 7302250 Q 1191 [(3, kb_i (8 * k)), (2, .ref (ad 22)), (1, .ref (ad 0)), (0, .ref b)] [] M2) : kb_B p l e room_1 s m args below meth c D ad cy A 4 600000 7302250 Q 396 [(3, kb_i (8 * k)), (2, .ref (ad 22)), (1, .ref (ad 0)), (0, .ref b)] [] M := by
  have hs := sm_pointAt a1 a2 hR
  refine kb_aload_n X 2 rfl dL_law_396 ?_
  refine kb_aload_n X 3 rfl dL_law_397 ?_
  refine kb_iload_n X 0 rfl dL_law_398 ?_
  refine kb_iconst X dL_law_399 ?_
  refine kb_iadd X dL_law_400 ?_
  refine kb_sld X hX hbl hbA hL (r := a1) (by omega) e1 dL_law_401 ?_
  refine kb_aload_n X 3 rfl dL_law_402 ?_
  refine kb_iload_n X 0 rfl dL_law_403 ?_
  refine kb_iconst X dL_law_404 ?_
  refine kb_iadd X dL_law_405 ?_
  refine kb_sld X hX hbl hbA hL (r := a2) (by omega) e2 dL_law_406 ?_
  refine kb_cVi X (rest := []) [kb_i a1, kb_i a2] 0 (fl := [some 1, some 2, some 3, some 4, some 5, some 6]) (C := RX6) rfl rfl (c_X6_pointAt l D ad cy M a1 a2 g1 g2) gL_law_X6_pointAt rfl ⟨rfl, hy_X6_pointAt⟩ ⟨(Nat.le_of_ble_eq_true rfl), (Nat.le_of_ble_eq_true rfl)⟩ rfl (Nat.le_of_ble_eq_true rfl) ⟨(Nat.le_of_ble_eq_true rfl), (Nat.le_of_ble_eq_true rfl)⟩ dL_law_407 rfl ?_
  refine kb_aload_n X 1 rfl dL_law_410 ?_
  refine kb_aload_n X 3 rfl dL_law_411 ?_
  refine kb_iload_n X 0 rfl dL_law_412 ?_
  refine kb_iconst X dL_law_413 ?_
  refine kb_iadd X dL_law_414 ?_
  refine kb_sld X hX hbl hbA hL (r := a1) (by omega) e1 dL_law_415 ?_
  refine kb_aload_n X 3 rfl dL_law_416 ?_
  refine kb_iload_n X 0 rfl dL_law_417 ?_
  refine kb_iconst X dL_law_418 ?_
  refine kb_iadd X dL_law_419 ?_
  refine kb_sld X hX hbl hbA hL (r := a2) (by omega) e2 dL_law_420 ?_
  refine kb_cVi X (rest := [kb_i (sp_pointAtR M a1 a2)]) [kb_i a1, kb_i a2] 22 (fl := [none, some 23, some 24, none, none, none, none, none, none, none, none, some 25, some 26, some 27, some 28, some 29, none, some 30, some 31, none, some 32, some 33, some 34, some 35, none, none, none, some 36]) (C := RX7) rfl rfl (c_X7_pointAt l D ad cy M a1 a2 g1 g2 (sv_msc hR.2.1)) gL_law_X7_pointAt rfl ⟨rfl, hy_X7_pointAt⟩ ⟨(Nat.le_of_ble_eq_true rfl), (Nat.le_of_ble_eq_true rfl)⟩ rfl (Nat.le_of_ble_eq_true rfl) ⟨(Nat.le_of_ble_eq_true rfl), (Nat.le_of_ble_eq_true rfl)⟩ dL_law_421 rfl ?_
  refine kb_icmp_same X (tgt := 1191) (hs) dL_law_424 (by decide) ?_
  exact K _ (sv_up hR)
set_option maxHeartbeats 4000000 in
set_option maxRecDepth 100000 in
theorem lz_c7 (X : kb_X p s m c cL_law 4 args wsL_law RL D ad cy A) (hX : va_X b L xs s s.heap) (hbl : b < s.heap.size) (hbA : ¬ A b) (hL : L ≤ 4096) (hk : 0 ≤ k ∧ 8 * k + 8 ≤ (L : Int)) (hR : sv_R k M M) {a1 : Int} (e1 : lz_s xs (8 * k + 1) = a1) (g1 : -2147483648 ≤ a1 ∧ a1 < 2147483648) (K : ∀ M2 : kb_M, sv_R (k + 1) M2 M2 → kb_B p l e room_1 s m args below meth c D ad cy A 4 600000 7302250 Q 1191 [(3, kb_i (8 * k)), (2, .ref (ad 22)), (1, .ref (ad 0)), (0, .ref b)] [] M2) : kb_B p l e room_1 s m args below meth c D ad cy A 4 600000 7302250 Q 429 [(3, kb_i (8 * k)), (2, .ref (ad 22)), (1, .ref (ad 0)), (0, .ref b)] [] M := by
  have hR1 : sv_R k M (sp_lookM M a1) := sv_Rr (fun q hq => fr_look M a1 hq) hR
  have hs := sm_look a1 hR1
  refine kb_aload_n X 2 rfl dL_law_429 ?_
  refine kb_aload_n X 3 rfl dL_law_430 ?_
  refine kb_iload_n X 0 rfl dL_law_431 ?_
  refine kb_iconst X dL_law_432 ?_
  refine kb_iadd X dL_law_433 ?_
  refine kb_sld X hX hbl hbA hL (r := a1) (by omega) e1 dL_law_434 ?_
  refine kb_cVi X (rest := []) [kb_i a1] 0 (fl := [some 1, some 2, some 3, some 4, some 5, some 6]) (C := RX6) rfl rfl (c_X6_look l D ad cy M a1 g1 (sv_IP hR.1) (sv_IL hR.2.2.1) (sv_sc hR.2.1) (lz_h6 hR) (lz_m6 hR) (lz_v6 hR (by omega))) gL_law_X6_look rfl ⟨rfl, hy_X6_look⟩ ⟨(Nat.le_of_ble_eq_true rfl), (Nat.le_of_ble_eq_true rfl)⟩ rfl (Nat.le_of_ble_eq_true rfl) ⟨(Nat.le_of_ble_eq_true rfl), (Nat.le_of_ble_eq_true rfl)⟩ dL_law_435 rfl ?_
  refine kb_aload_n X 1 rfl dL_law_438 ?_
  refine kb_aload_n X 3 rfl dL_law_439 ?_
  refine kb_iload_n X 0 rfl dL_law_440 ?_
  refine kb_iconst X dL_law_441 ?_
  refine kb_iadd X dL_law_442 ?_
  refine kb_sld X hX hbl hbA hL (r := a1) (by omega) e1 dL_law_443 ?_
  refine kb_cVi X (rest := [kb_i (sp_lookR M a1)]) [kb_i a1] 22 (fl := [none, some 23, some 24, none, none, none, none, none, none, none, none, some 25, some 26, some 27, some 28, some 29, none, some 30, some 31, none, some 32, some 33, some 34, some 35, none, none, none, some 36]) (C := RX7) rfl rfl (c_X7_look l D ad cy (sp_lookM M a1) a1 g1 (sv_mIP hR1.1) (sv_mIL hR1.2.2.1) (sv_msc hR1.2.1) hR1.2.2.2.2.2.2.2.2.1 hR1.2.2.2.2.2.2.2.2.2 (lz_v7 hR1 (by omega))) gL_law_X7_look rfl ⟨rfl, hy_X7_look⟩ ⟨(Nat.le_of_ble_eq_true rfl), (Nat.le_of_ble_eq_true rfl)⟩ rfl (Nat.le_of_ble_eq_true rfl) ⟨(Nat.le_of_ble_eq_true rfl), (Nat.le_of_ble_eq_true rfl)⟩ dL_law_444 rfl ?_
  refine kb_icmp_same X (tgt := 1191) (hs.1) dL_law_447 (by decide) ?_
  exact K _ ((sv_Rl (fun q hq => fs_look _ a1 hq) hs.2))
set_option maxHeartbeats 4000000 in
set_option maxRecDepth 100000 in
theorem lz_c8 (X : kb_X p s m c cL_law 4 args wsL_law RL D ad cy A) (hX : va_X b L xs s s.heap) (hbl : b < s.heap.size) (hbA : ¬ A b) (hL : L ≤ 4096) (hk : 0 ≤ k ∧ 8 * k + 8 ≤ (L : Int)) (hR : sv_R k M M) {a1 a2 a3 : Int} (e1 : lz_s xs (8 * k + 1) = a1) (g1 : -2147483648 ≤ a1 ∧ a1 < 2147483648) (e2 : lz_s xs (8 * k + 2) = a2) (g2 : -2147483648 ≤ a2 ∧ a2 < 2147483648) (e3 : lz_s xs (8 * k + 3) = a3) (g3 : -2147483648 ≤ a3 ∧ a3 < 2147483648) (K : ∀ M2 : kb_M, sv_R (k + 1) M2 M2 → kb_B p l e room_1 s m args below meth c D ad cy A 4 600000 7302250 Q 1191 [(3, kb_i (8 * k)), (2, .ref (ad 22)), (1, .ref (ad 0)), (0, .ref b)] [] M2) : kb_B p l e room_1 s m args below meth c D ad cy A 4 600000 7302250 Q 452 [(3, kb_i (8 * k)), (2, .ref (ad 22)), (1, .ref (ad 0)), (0, .ref b)] [] M := by
  have hs := sm_sample a1 a2 a3 hR
  refine kb_aload_n X 2 rfl dL_law_452 ?_
  refine kb_aload_n X 3 rfl dL_law_453 ?_
  refine kb_iload_n X 0 rfl dL_law_454 ?_
  refine kb_iconst X dL_law_455 ?_
  refine kb_iadd X dL_law_456 ?_
  refine kb_sld X hX hbl hbA hL (r := a1) (by omega) e1 dL_law_457 ?_
  refine kb_aload_n X 3 rfl dL_law_458 ?_
  refine kb_iload_n X 0 rfl dL_law_459 ?_
  refine kb_iconst X dL_law_460 ?_
  refine kb_iadd X dL_law_461 ?_
  refine kb_sld X hX hbl hbA hL (r := a2) (by omega) e2 dL_law_462 ?_
  refine kb_aload_n X 3 rfl dL_law_463 ?_
  refine kb_iload_n X 0 rfl dL_law_464 ?_
  refine kb_iconst X dL_law_465 ?_
  refine kb_iadd X dL_law_466 ?_
  refine kb_sld X hX hbl hbA hL (r := a3) (by omega) e3 dL_law_467 ?_
  refine kb_cVi X (rest := []) [kb_i a1, kb_i a2, kb_i a3] 0 (fl := [some 1, some 2, some 3, some 4, some 5, some 6]) (C := RX6) rfl rfl (c_X6_sample l D ad cy M a1 a2 a3 g1 g2 g3 (sv_IL hR.2.2.1)) gL_law_X6_sample rfl ⟨rfl, hy_X6_sample⟩ ⟨(Nat.le_of_ble_eq_true rfl), (Nat.le_of_ble_eq_true rfl)⟩ rfl (Nat.le_of_ble_eq_true rfl) ⟨(Nat.le_of_ble_eq_true rfl), (Nat.le_of_ble_eq_true rfl)⟩ dL_law_468 rfl ?_
  refine kb_aload_n X 1 rfl dL_law_471 ?_
  refine kb_aload_n X 3 rfl dL_law_472 ?_
  refine kb_iload_n X 0 rfl dL_law_473 ?_
  refine kb_iconst X dL_law_474 ?_
  refine kb_iadd X dL_law_475 ?_
  refine kb_sld X hX hbl hbA hL (r := a1) (by omega) e1 dL_law_476 ?_
  refine kb_aload_n X 3 rfl dL_law_477 ?_
  refine kb_iload_n X 0 rfl dL_law_478 ?_
  refine kb_iconst X dL_law_479 ?_
  refine kb_iadd X dL_law_480 ?_
  refine kb_sld X hX hbl hbA hL (r := a2) (by omega) e2 dL_law_481 ?_
  refine kb_aload_n X 3 rfl dL_law_482 ?_
  refine kb_iload_n X 0 rfl dL_law_483 ?_
  refine kb_iconst X dL_law_484 ?_
  refine kb_iadd X dL_law_485 ?_
  refine kb_sld X hX hbl hbA hL (r := a3) (by omega) e3 dL_law_486 ?_
  refine kb_cVi X (rest := [kb_i (sp_sampleR M a1 a2 a3)]) [kb_i a1, kb_i a2, kb_i a3] 22 (fl := [none, some 23, some 24, none, none, none, none, none, none, none, none, some 25, some 26, some 27, some 28, some 29, none, some 30, some 31, none, some 32, some 33, some 34, some 35, none, none, none, some 36]) (C := RX7) rfl rfl (c_X7_sample l D ad cy M a1 a2 a3 g1 g2 g3 (sv_mIP hR.1) (sv_mIL hR.2.2.1)) gL_law_X7_sample rfl ⟨rfl, hy_X7_sample⟩ ⟨(Nat.le_of_ble_eq_true rfl), (Nat.le_of_ble_eq_true rfl)⟩ rfl (Nat.le_of_ble_eq_true rfl) ⟨(Nat.le_of_ble_eq_true rfl), (Nat.le_of_ble_eq_true rfl)⟩ dL_law_487 rfl ?_
  refine kb_icmp_same X (tgt := 1191) (hs) dL_law_490 (by decide) ?_
  exact K _ (sv_up hR)
set_option maxHeartbeats 4000000 in
set_option maxRecDepth 100000 in
theorem lz_c9 (X : kb_X p s m c cL_law 4 args wsL_law RL D ad cy A) (hX : va_X b L xs s s.heap) (hbl : b < s.heap.size) (hbA : ¬ A b) (hL : L ≤ 4096) (hk : 0 ≤ k ∧ 8 * k + 8 ≤ (L : Int)) (hR : sv_R k M M) {a1 a2 : Int} (e1 : lz_s xs (8 * k + 1) = a1) (g1 : -2147483648 ≤ a1 ∧ a1 < 2147483648) (e2 : lz_s xs (8 * k + 2) = a2) (g2 : -2147483648 ≤ a2 ∧ a2 < 2147483648) (K : ∀ M2 : kb_M, sv_R (k + 1) M2 M2 → kb_B p l e room_1 s m args below meth c D ad cy A 4 600000 7302250 Q 1191 [(3, kb_i (8 * k)), (2, .ref (ad 22)), (1, .ref (ad 0)), (0, .ref b)] [] M2) : kb_B p l e room_1 s m args below meth c D ad cy A 4 600000 7302250 Q 495 [(3, kb_i (8 * k)), (2, .ref (ad 22)), (1, .ref (ad 0)), (0, .ref b)] [] M := by
  have hR1 : sv_R k M (sp_windowM M a1 a2) := sv_Rr (fun q hq => fr_window M a1 a2 hq) hR
  have hs := sm_window a1 a2 hR1
  refine kb_aload_n X 2 rfl dL_law_495 ?_
  refine kb_aload_n X 3 rfl dL_law_496 ?_
  refine kb_iload_n X 0 rfl dL_law_497 ?_
  refine kb_iconst X dL_law_498 ?_
  refine kb_iadd X dL_law_499 ?_
  refine kb_sld X hX hbl hbA hL (r := a1) (by omega) e1 dL_law_500 ?_
  refine kb_aload_n X 3 rfl dL_law_501 ?_
  refine kb_iload_n X 0 rfl dL_law_502 ?_
  refine kb_iconst X dL_law_503 ?_
  refine kb_iadd X dL_law_504 ?_
  refine kb_sld X hX hbl hbA hL (r := a2) (by omega) e2 dL_law_505 ?_
  refine kb_cVi X (rest := []) [kb_i a1, kb_i a2] 0 (fl := [some 1, some 2, some 3, some 4, some 5, some 6]) (C := RX6) rfl rfl (c_X6_window l D ad cy M a1 a2 g1 g2) gL_law_X6_window rfl ⟨rfl, hy_X6_window⟩ ⟨(Nat.le_of_ble_eq_true rfl), (Nat.le_of_ble_eq_true rfl)⟩ rfl (Nat.le_of_ble_eq_true rfl) ⟨(Nat.le_of_ble_eq_true rfl), (Nat.le_of_ble_eq_true rfl)⟩ dL_law_506 rfl ?_
  refine kb_aload_n X 1 rfl dL_law_509 ?_
  refine kb_aload_n X 3 rfl dL_law_510 ?_
  refine kb_iload_n X 0 rfl dL_law_511 ?_
  refine kb_iconst X dL_law_512 ?_
  refine kb_iadd X dL_law_513 ?_
  refine kb_sld X hX hbl hbA hL (r := a1) (by omega) e1 dL_law_514 ?_
  refine kb_aload_n X 3 rfl dL_law_515 ?_
  refine kb_iload_n X 0 rfl dL_law_516 ?_
  refine kb_iconst X dL_law_517 ?_
  refine kb_iadd X dL_law_518 ?_
  refine kb_sld X hX hbl hbA hL (r := a2) (by omega) e2 dL_law_519 ?_
  refine kb_cVi X (rest := [kb_i (sp_windowR M a1 a2)]) [kb_i a1, kb_i a2] 22 (fl := [none, some 23, some 24, none, none, none, none, none, none, none, none, some 25, some 26, some 27, some 28, some 29, none, some 30, some 31, none, some 32, some 33, some 34, some 35, none, none, none, some 36]) (C := RX7) rfl rfl (c_X7_window l D ad cy (sp_windowM M a1 a2) a1 a2 g1 g2) gL_law_X7_window rfl ⟨rfl, hy_X7_window⟩ ⟨(Nat.le_of_ble_eq_true rfl), (Nat.le_of_ble_eq_true rfl)⟩ rfl (Nat.le_of_ble_eq_true rfl) ⟨(Nat.le_of_ble_eq_true rfl), (Nat.le_of_ble_eq_true rfl)⟩ dL_law_520 rfl ?_
  refine kb_icmp_same X (tgt := 1191) (hs.1) dL_law_523 (by decide) ?_
  exact K _ (sv_up (sv_Rl (fun q hq => fs_window _ a1 a2 hq) hs.2))
set_option maxHeartbeats 4000000 in
set_option maxRecDepth 100000 in
theorem lz_c10 (X : kb_X p s m c cL_law 4 args wsL_law RL D ad cy A) (hX : va_X b L xs s s.heap) (hbl : b < s.heap.size) (hbA : ¬ A b) (hL : L ≤ 4096) (hk : 0 ≤ k ∧ 8 * k + 8 ≤ (L : Int)) (hR : sv_R k M M) {a1 a2 a3 : Int} (e1 : lz_s xs (8 * k + 1) = a1) (g1 : -2147483648 ≤ a1 ∧ a1 < 2147483648) (e2 : lz_s xs (8 * k + 2) = a2) (g2 : -2147483648 ≤ a2 ∧ a2 < 2147483648) (e3 : lz_s xs (8 * k + 3) = a3) (g3 : -2147483648 ≤ a3 ∧ a3 < 2147483648) (K : ∀ M2 : kb_M, sv_R (k + 1) M2 M2 → kb_B p l e room_1 s m args below meth c D ad cy A 4 600000 7302250 Q 1191 [(3, kb_i (8 * k)), (2, .ref (ad 22)), (1, .ref (ad 0)), (0, .ref b)] [] M2) : kb_B p l e room_1 s m args below meth c D ad cy A 4 600000 7302250 Q 528 [(3, kb_i (8 * k)), (2, .ref (ad 22)), (1, .ref (ad 0)), (0, .ref b)] [] M := by
  have hs := sm_weight a1 a2 a3 hR
  refine kb_aload_n X 2 rfl dL_law_528 ?_
  refine kb_aload_n X 3 rfl dL_law_529 ?_
  refine kb_iload_n X 0 rfl dL_law_530 ?_
  refine kb_iconst X dL_law_531 ?_
  refine kb_iadd X dL_law_532 ?_
  refine kb_sld X hX hbl hbA hL (r := a1) (by omega) e1 dL_law_533 ?_
  refine kb_aload_n X 3 rfl dL_law_534 ?_
  refine kb_iload_n X 0 rfl dL_law_535 ?_
  refine kb_iconst X dL_law_536 ?_
  refine kb_iadd X dL_law_537 ?_
  refine kb_sld X hX hbl hbA hL (r := a2) (by omega) e2 dL_law_538 ?_
  refine kb_aload_n X 3 rfl dL_law_539 ?_
  refine kb_iload_n X 0 rfl dL_law_540 ?_
  refine kb_iconst X dL_law_541 ?_
  refine kb_iadd X dL_law_542 ?_
  refine kb_sld X hX hbl hbA hL (r := a3) (by omega) e3 dL_law_543 ?_
  refine kb_cVi X (rest := []) [kb_i a1, kb_i a2, kb_i a3] 0 (fl := [some 1, some 2, some 3, some 4, some 5, some 6]) (C := RX6) rfl rfl (c_X6_weight l D ad cy M a1 a2 a3 g1 g2 g3 (sv_IP hR.1)) gL_law_X6_weight rfl ⟨rfl, hy_X6_weight⟩ ⟨(Nat.le_of_ble_eq_true rfl), (Nat.le_of_ble_eq_true rfl)⟩ rfl (Nat.le_of_ble_eq_true rfl) ⟨(Nat.le_of_ble_eq_true rfl), (Nat.le_of_ble_eq_true rfl)⟩ dL_law_544 rfl ?_
  refine kb_aload_n X 1 rfl dL_law_547 ?_
  refine kb_aload_n X 3 rfl dL_law_548 ?_
  refine kb_iload_n X 0 rfl dL_law_549 ?_
  refine kb_iconst X dL_law_550 ?_
  refine kb_iadd X dL_law_551 ?_
  refine kb_sld X hX hbl hbA hL (r := a1) (by omega) e1 dL_law_552 ?_
  refine kb_aload_n X 3 rfl dL_law_553 ?_
  refine kb_iload_n X 0 rfl dL_law_554 ?_
  refine kb_iconst X dL_law_555 ?_
  refine kb_iadd X dL_law_556 ?_
  refine kb_sld X hX hbl hbA hL (r := a2) (by omega) e2 dL_law_557 ?_
  refine kb_aload_n X 3 rfl dL_law_558 ?_
  refine kb_iload_n X 0 rfl dL_law_559 ?_
  refine kb_iconst X dL_law_560 ?_
  refine kb_iadd X dL_law_561 ?_
  refine kb_sld X hX hbl hbA hL (r := a3) (by omega) e3 dL_law_562 ?_
  refine kb_cVi X (rest := [kb_i (sp_weightR M a1 a2 a3)]) [kb_i a1, kb_i a2, kb_i a3] 22 (fl := [none, some 23, some 24, none, none, none, none, none, none, none, none, some 25, some 26, some 27, some 28, some 29, none, some 30, some 31, none, some 32, some 33, some 34, some 35, none, none, none, some 36]) (C := RX7) rfl rfl (c_X7_weight l D ad cy M a1 a2 a3 g1 g2 g3 (sv_mIP hR.1)) gL_law_X7_weight rfl ⟨rfl, hy_X7_weight⟩ ⟨(Nat.le_of_ble_eq_true rfl), (Nat.le_of_ble_eq_true rfl)⟩ rfl (Nat.le_of_ble_eq_true rfl) ⟨(Nat.le_of_ble_eq_true rfl), (Nat.le_of_ble_eq_true rfl)⟩ dL_law_563 rfl ?_
  refine kb_icmp_same X (tgt := 1191) (hs) dL_law_566 (by decide) ?_
  exact K _ (sv_up hR)
set_option maxHeartbeats 4000000 in
set_option maxRecDepth 100000 in
theorem lz_c11 (X : kb_X p s m c cL_law 4 args wsL_law RL D ad cy A) (hX : va_X b L xs s s.heap) (hbl : b < s.heap.size) (hbA : ¬ A b) (hL : L ≤ 4096) (hk : 0 ≤ k ∧ 8 * k + 8 ≤ (L : Int)) (hR : sv_R k M M) {a1 a2 a3 : Int} (e1 : lz_s xs (8 * k + 1) = a1) (g1 : -2147483648 ≤ a1 ∧ a1 < 2147483648) (e2 : lz_s xs (8 * k + 2) = a2) (g2 : -2147483648 ≤ a2 ∧ a2 < 2147483648) (e3 : lz_s xs (8 * k + 3) = a3) (g3 : -2147483648 ≤ a3 ∧ a3 < 2147483648) (K : ∀ M2 : kb_M, sv_R (k + 1) M2 M2 → kb_B p l e room_1 s m args below meth c D ad cy A 4 600000 7302250 Q 1191 [(3, kb_i (8 * k)), (2, .ref (ad 22)), (1, .ref (ad 0)), (0, .ref b)] [] M2) : kb_B p l e room_1 s m args below meth c D ad cy A 4 600000 7302250 Q 571 [(3, kb_i (8 * k)), (2, .ref (ad 22)), (1, .ref (ad 0)), (0, .ref b)] [] M := by
  have hR1 : sv_R k M (sp_sumM M a1 a2 a3) := sv_Rr (fun q hq => fr_sum M a1 a2 a3 hq) hR
  have hs := sm_sum a1 a2 a3 hR1
  refine kb_aload_n X 2 rfl dL_law_571 ?_
  refine kb_aload_n X 3 rfl dL_law_572 ?_
  refine kb_iload_n X 0 rfl dL_law_573 ?_
  refine kb_iconst X dL_law_574 ?_
  refine kb_iadd X dL_law_575 ?_
  refine kb_sld X hX hbl hbA hL (r := a1) (by omega) e1 dL_law_576 ?_
  refine kb_aload_n X 3 rfl dL_law_577 ?_
  refine kb_iload_n X 0 rfl dL_law_578 ?_
  refine kb_iconst X dL_law_579 ?_
  refine kb_iadd X dL_law_580 ?_
  refine kb_sld X hX hbl hbA hL (r := a2) (by omega) e2 dL_law_581 ?_
  refine kb_aload_n X 3 rfl dL_law_582 ?_
  refine kb_iload_n X 0 rfl dL_law_583 ?_
  refine kb_iconst X dL_law_584 ?_
  refine kb_iadd X dL_law_585 ?_
  refine kb_sld X hX hbl hbA hL (r := a3) (by omega) e3 dL_law_586 ?_
  refine kb_cVi X (rest := []) [kb_i a1, kb_i a2, kb_i a3] 0 (fl := [some 1, some 2, some 3, some 4, some 5, some 6]) (C := RX6) rfl rfl (c_X6_sum l D ad cy M a1 a2 a3 g1 g2 g3 (sv_IP hR.1) (sv_IL hR.2.2.1)) gL_law_X6_sum rfl ⟨rfl, hy_X6_sum⟩ ⟨(Nat.le_of_ble_eq_true rfl), (Nat.le_of_ble_eq_true rfl)⟩ rfl (Nat.le_of_ble_eq_true rfl) ⟨(Nat.le_of_ble_eq_true rfl), (Nat.le_of_ble_eq_true rfl)⟩ dL_law_587 rfl ?_
  refine kb_aload_n X 1 rfl dL_law_590 ?_
  refine kb_aload_n X 3 rfl dL_law_591 ?_
  refine kb_iload_n X 0 rfl dL_law_592 ?_
  refine kb_iconst X dL_law_593 ?_
  refine kb_iadd X dL_law_594 ?_
  refine kb_sld X hX hbl hbA hL (r := a1) (by omega) e1 dL_law_595 ?_
  refine kb_aload_n X 3 rfl dL_law_596 ?_
  refine kb_iload_n X 0 rfl dL_law_597 ?_
  refine kb_iconst X dL_law_598 ?_
  refine kb_iadd X dL_law_599 ?_
  refine kb_sld X hX hbl hbA hL (r := a2) (by omega) e2 dL_law_600 ?_
  refine kb_aload_n X 3 rfl dL_law_601 ?_
  refine kb_iload_n X 0 rfl dL_law_602 ?_
  refine kb_iconst X dL_law_603 ?_
  refine kb_iadd X dL_law_604 ?_
  refine kb_sld X hX hbl hbA hL (r := a3) (by omega) e3 dL_law_605 ?_
  refine kb_cVi X (rest := [kb_i (sp_sumR M a1 a2 a3)]) [kb_i a1, kb_i a2, kb_i a3] 22 (fl := [none, some 23, some 24, none, none, none, none, none, none, none, none, some 25, some 26, some 27, some 28, some 29, none, some 30, some 31, none, some 32, some 33, some 34, some 35, none, none, none, some 36]) (C := RX7) rfl rfl (c_X7_sum l D ad cy (sp_sumM M a1 a2 a3) a1 a2 a3 g1 g2 g3 (sv_mIP hR1.1) (sv_mIL hR1.2.2.1)) gL_law_X7_sum rfl ⟨rfl, hy_X7_sum⟩ ⟨(Nat.le_of_ble_eq_true rfl), (Nat.le_of_ble_eq_true rfl)⟩ rfl (Nat.le_of_ble_eq_true rfl) ⟨(Nat.le_of_ble_eq_true rfl), (Nat.le_of_ble_eq_true rfl)⟩ dL_law_606 rfl ?_
  refine kb_icmp_same X (tgt := 1191) (hs.1) dL_law_609 (by decide) ?_
  exact K _ (sv_up hs.2)
set_option maxHeartbeats 4000000 in
set_option maxRecDepth 100000 in
theorem lz_c12 (X : kb_X p s m c cL_law 4 args wsL_law RL D ad cy A) (hX : va_X b L xs s s.heap) (hbl : b < s.heap.size) (hbA : ¬ A b) (hL : L ≤ 4096) (hk : 0 ≤ k ∧ 8 * k + 8 ≤ (L : Int)) (hR : sv_R k M M) {a1 a2 a3 : Int} (e1 : lz_s xs (8 * k + 1) = a1) (g1 : -2147483648 ≤ a1 ∧ a1 < 2147483648) (e2 : lz_s xs (8 * k + 2) = a2) (g2 : -2147483648 ≤ a2 ∧ a2 < 2147483648) (e3 : lz_s xs (8 * k + 3) = a3) (g3 : -2147483648 ≤ a3 ∧ a3 < 2147483648) (K : ∀ M2 : kb_M, sv_R (k + 1) M2 M2 → kb_B p l e room_1 s m args below meth c D ad cy A 4 600000 7302250 Q 1191 [(3, kb_i (8 * k)), (2, .ref (ad 22)), (1, .ref (ad 0)), (0, .ref b)] [] M2) : kb_B p l e room_1 s m args below meth c D ad cy A 4 600000 7302250 Q 614 [(3, kb_i (8 * k)), (2, .ref (ad 22)), (1, .ref (ad 0)), (0, .ref b)] [] M := by
  have hR1 : sv_R k M (sp_meanM M a1 a2 a3) := sv_Rr (fun q hq => fr_mean M a1 a2 a3 hq) hR
  have hs := sm_mean a1 a2 a3 hR1
  refine kb_aload_n X 2 rfl dL_law_614 ?_
  refine kb_aload_n X 3 rfl dL_law_615 ?_
  refine kb_iload_n X 0 rfl dL_law_616 ?_
  refine kb_iconst X dL_law_617 ?_
  refine kb_iadd X dL_law_618 ?_
  refine kb_sld X hX hbl hbA hL (r := a1) (by omega) e1 dL_law_619 ?_
  refine kb_aload_n X 3 rfl dL_law_620 ?_
  refine kb_iload_n X 0 rfl dL_law_621 ?_
  refine kb_iconst X dL_law_622 ?_
  refine kb_iadd X dL_law_623 ?_
  refine kb_sld X hX hbl hbA hL (r := a2) (by omega) e2 dL_law_624 ?_
  refine kb_aload_n X 3 rfl dL_law_625 ?_
  refine kb_iload_n X 0 rfl dL_law_626 ?_
  refine kb_iconst X dL_law_627 ?_
  refine kb_iadd X dL_law_628 ?_
  refine kb_sld X hX hbl hbA hL (r := a3) (by omega) e3 dL_law_629 ?_
  refine kb_cVi X (rest := []) [kb_i a1, kb_i a2, kb_i a3] 0 (fl := [some 1, some 2, some 3, some 4, some 5, some 6]) (C := RX6) rfl rfl (c_X6_mean l D ad cy M a1 a2 a3 g1 g2 g3 (sv_IP hR.1) (sv_IL hR.2.2.1)) gL_law_X6_mean rfl ⟨rfl, hy_X6_mean⟩ ⟨(Nat.le_of_ble_eq_true rfl), (Nat.le_of_ble_eq_true rfl)⟩ rfl (Nat.le_of_ble_eq_true rfl) ⟨(Nat.le_of_ble_eq_true rfl), (Nat.le_of_ble_eq_true rfl)⟩ dL_law_630 rfl ?_
  refine kb_aload_n X 1 rfl dL_law_633 ?_
  refine kb_aload_n X 3 rfl dL_law_634 ?_
  refine kb_iload_n X 0 rfl dL_law_635 ?_
  refine kb_iconst X dL_law_636 ?_
  refine kb_iadd X dL_law_637 ?_
  refine kb_sld X hX hbl hbA hL (r := a1) (by omega) e1 dL_law_638 ?_
  refine kb_aload_n X 3 rfl dL_law_639 ?_
  refine kb_iload_n X 0 rfl dL_law_640 ?_
  refine kb_iconst X dL_law_641 ?_
  refine kb_iadd X dL_law_642 ?_
  refine kb_sld X hX hbl hbA hL (r := a2) (by omega) e2 dL_law_643 ?_
  refine kb_aload_n X 3 rfl dL_law_644 ?_
  refine kb_iload_n X 0 rfl dL_law_645 ?_
  refine kb_iconst X dL_law_646 ?_
  refine kb_iadd X dL_law_647 ?_
  refine kb_sld X hX hbl hbA hL (r := a3) (by omega) e3 dL_law_648 ?_
  refine kb_cVi X (rest := [kb_i (sp_meanR M a1 a2 a3)]) [kb_i a1, kb_i a2, kb_i a3] 22 (fl := [none, some 23, some 24, none, none, none, none, none, none, none, none, some 25, some 26, some 27, some 28, some 29, none, some 30, some 31, none, some 32, some 33, some 34, some 35, none, none, none, some 36]) (C := RX7) rfl rfl (c_X7_mean l D ad cy (sp_meanM M a1 a2 a3) a1 a2 a3 g1 g2 g3 (sv_mIP hR1.1) (sv_mIL hR1.2.2.1)) gL_law_X7_mean rfl ⟨rfl, hy_X7_mean⟩ ⟨(Nat.le_of_ble_eq_true rfl), (Nat.le_of_ble_eq_true rfl)⟩ rfl (Nat.le_of_ble_eq_true rfl) ⟨(Nat.le_of_ble_eq_true rfl), (Nat.le_of_ble_eq_true rfl)⟩ dL_law_649 rfl ?_
  refine kb_icmp_same X (tgt := 1191) (hs.1) dL_law_652 (by decide) ?_
  exact K _ (sv_up hs.2)
set_option maxHeartbeats 4000000 in
set_option maxRecDepth 100000 in
theorem lz_c13 (X : kb_X p s m c cL_law 4 args wsL_law RL D ad cy A) (hX : va_X b L xs s s.heap) (hbl : b < s.heap.size) (hbA : ¬ A b) (hL : L ≤ 4096) (hk : 0 ≤ k ∧ 8 * k + 8 ≤ (L : Int)) (hR : sv_R k M M) {a1 a2 a3 a4 a5 a6 a7 : Int} (e1 : lz_s xs (8 * k + 1) = a1) (g1 : -2147483648 ≤ a1 ∧ a1 < 2147483648) (e2 : lz_s xs (8 * k + 2) = a2) (g2 : -2147483648 ≤ a2 ∧ a2 < 2147483648) (e3 : lz_s xs (8 * k + 3) = a3) (g3 : -2147483648 ≤ a3 ∧ a3 < 2147483648) (e4 : lz_s xs (8 * k + 4) = a4) (g4 : -2147483648 ≤ a4 ∧ a4 < 2147483648) (e5 : lz_s xs (8 * k + 5) = a5) (g5 : -2147483648 ≤ a5 ∧ a5 < 2147483648) (e6 : lz_s xs (8 * k + 6) = a6) (g6 : -2147483648 ≤ a6 ∧ a6 < 2147483648) (e7 : lz_s xs (8 * k + 7) = a7) (g7 : -2147483648 ≤ a7 ∧ a7 < 2147483648) (K : ∀ M2 : kb_M, sv_R (k + 1) M2 M2 → kb_B p l e room_1 s m args below meth c D ad cy A 4 600000 7302250 Q 1191 [(3, kb_i (8 * k)), (2, .ref (ad 22)), (1, .ref (ad 0)), (0, .ref b)] [] M2) : kb_B p l e room_1 s m args below meth c D ad cy A 4 600000 7302250 Q 657 [(3, kb_i (8 * k)), (2, .ref (ad 22)), (1, .ref (ad 0)), (0, .ref b)] [] M := by
  have hR1 : sv_R k M (sp_picM M a1 a2 a3 a4 a5 a6 a7) := sv_Rr (fun q hq => fr_pic M a1 a2 a3 a4 a5 a6 a7 hq) hR
  have hs := sm_picture a1 a2 a3 a4 a5 a6 a7 hR1
  refine kb_aload_n X 2 rfl dL_law_657 ?_
  refine kb_aload_n X 3 rfl dL_law_658 ?_
  refine kb_iload_n X 0 rfl dL_law_659 ?_
  refine kb_iconst X dL_law_660 ?_
  refine kb_iadd X dL_law_661 ?_
  refine kb_sld X hX hbl hbA hL (r := a1) (by omega) e1 dL_law_662 ?_
  refine kb_aload_n X 3 rfl dL_law_663 ?_
  refine kb_iload_n X 0 rfl dL_law_664 ?_
  refine kb_iconst X dL_law_665 ?_
  refine kb_iadd X dL_law_666 ?_
  refine kb_sld X hX hbl hbA hL (r := a2) (by omega) e2 dL_law_667 ?_
  refine kb_aload_n X 3 rfl dL_law_668 ?_
  refine kb_iload_n X 0 rfl dL_law_669 ?_
  refine kb_iconst X dL_law_670 ?_
  refine kb_iadd X dL_law_671 ?_
  refine kb_sld X hX hbl hbA hL (r := a3) (by omega) e3 dL_law_672 ?_
  refine kb_aload_n X 3 rfl dL_law_673 ?_
  refine kb_iload_n X 0 rfl dL_law_674 ?_
  refine kb_iconst X dL_law_675 ?_
  refine kb_iadd X dL_law_676 ?_
  refine kb_sld X hX hbl hbA hL (r := a4) (by omega) e4 dL_law_677 ?_
  refine kb_aload_n X 3 rfl dL_law_678 ?_
  refine kb_iload_n X 0 rfl dL_law_679 ?_
  refine kb_iconst X dL_law_680 ?_
  refine kb_iadd X dL_law_681 ?_
  refine kb_sld X hX hbl hbA hL (r := a5) (by omega) e5 dL_law_682 ?_
  refine kb_aload_n X 3 rfl dL_law_683 ?_
  refine kb_iload_n X 0 rfl dL_law_684 ?_
  refine kb_bipush X (by decide) dL_law_685 ?_
  refine kb_iadd X dL_law_687 ?_
  refine kb_sld X hX hbl hbA hL (r := a6) (by omega) e6 dL_law_688 ?_
  refine kb_aload_n X 3 rfl dL_law_689 ?_
  refine kb_iload_n X 0 rfl dL_law_690 ?_
  refine kb_bipush X (by decide) dL_law_691 ?_
  refine kb_iadd X dL_law_693 ?_
  refine kb_sld X hX hbl hbA hL (r := a7) (by omega) e7 dL_law_694 ?_
  refine kb_cVi X (rest := []) [kb_i a1, kb_i a2, kb_i a3, kb_i a4, kb_i a5, kb_i a6, kb_i a7] 0 (fl := [some 1, some 2, some 3, some 4, some 5, some 6]) (C := RX6) rfl rfl (c_X6_picture l D ad cy M a1 a2 a3 a4 a5 a6 a7 g1 g2 g3 g4 g5 g6 g7 (sv_IP hR.1) (sv_IL hR.2.2.1) (sv_IR hR.2.2.2.2.1)) gL_law_X6_picture rfl ⟨rfl, hy_X6_picture⟩ ⟨(Nat.le_of_ble_eq_true rfl), (Nat.le_of_ble_eq_true rfl)⟩ rfl (Nat.le_of_ble_eq_true rfl) ⟨(Nat.le_of_ble_eq_true rfl), (Nat.le_of_ble_eq_true rfl)⟩ dL_law_695 rfl ?_
  refine kb_aload_n X 1 rfl dL_law_698 ?_
  refine kb_aload_n X 3 rfl dL_law_699 ?_
  refine kb_iload_n X 0 rfl dL_law_700 ?_
  refine kb_iconst X dL_law_701 ?_
  refine kb_iadd X dL_law_702 ?_
  refine kb_sld X hX hbl hbA hL (r := a1) (by omega) e1 dL_law_703 ?_
  refine kb_aload_n X 3 rfl dL_law_704 ?_
  refine kb_iload_n X 0 rfl dL_law_705 ?_
  refine kb_iconst X dL_law_706 ?_
  refine kb_iadd X dL_law_707 ?_
  refine kb_sld X hX hbl hbA hL (r := a2) (by omega) e2 dL_law_708 ?_
  refine kb_aload_n X 3 rfl dL_law_709 ?_
  refine kb_iload_n X 0 rfl dL_law_710 ?_
  refine kb_iconst X dL_law_711 ?_
  refine kb_iadd X dL_law_712 ?_
  refine kb_sld X hX hbl hbA hL (r := a3) (by omega) e3 dL_law_713 ?_
  refine kb_aload_n X 3 rfl dL_law_714 ?_
  refine kb_iload_n X 0 rfl dL_law_715 ?_
  refine kb_iconst X dL_law_716 ?_
  refine kb_iadd X dL_law_717 ?_
  refine kb_sld X hX hbl hbA hL (r := a4) (by omega) e4 dL_law_718 ?_
  refine kb_aload_n X 3 rfl dL_law_719 ?_
  refine kb_iload_n X 0 rfl dL_law_720 ?_
  refine kb_iconst X dL_law_721 ?_
  refine kb_iadd X dL_law_722 ?_
  refine kb_sld X hX hbl hbA hL (r := a5) (by omega) e5 dL_law_723 ?_
  refine kb_aload_n X 3 rfl dL_law_724 ?_
  refine kb_iload_n X 0 rfl dL_law_725 ?_
  refine kb_bipush X (by decide) dL_law_726 ?_
  refine kb_iadd X dL_law_728 ?_
  refine kb_sld X hX hbl hbA hL (r := a6) (by omega) e6 dL_law_729 ?_
  refine kb_aload_n X 3 rfl dL_law_730 ?_
  refine kb_iload_n X 0 rfl dL_law_731 ?_
  refine kb_bipush X (by decide) dL_law_732 ?_
  refine kb_iadd X dL_law_734 ?_
  refine kb_sld X hX hbl hbA hL (r := a7) (by omega) e7 dL_law_735 ?_
  refine kb_cVi X (rest := [kb_i (sp_picR M a1 a2 a3 a4 a5 a6 a7)]) [kb_i a1, kb_i a2, kb_i a3, kb_i a4, kb_i a5, kb_i a6, kb_i a7] 22 (fl := [none, some 23, some 24, none, none, none, none, none, none, none, none, some 25, some 26, some 27, some 28, some 29, none, some 30, some 31, none, some 32, some 33, some 34, some 35, none, none, none, some 36]) (C := RX7) rfl rfl (c_X7_picture l D ad cy (sp_picM M a1 a2 a3 a4 a5 a6 a7) a1 a2 a3 a4 a5 a6 a7 g1 g2 g3 g4 g5 g6 g7 (sv_mIP hR1.1) (sv_mIL hR1.2.2.1) (sv_mIR hR1.2.2.2.2.1)) gL_law_X7_picture rfl ⟨rfl, hy_X7_picture⟩ ⟨(Nat.le_of_ble_eq_true rfl), (Nat.le_of_ble_eq_true rfl)⟩ rfl (Nat.le_of_ble_eq_true rfl) ⟨(Nat.le_of_ble_eq_true rfl), (Nat.le_of_ble_eq_true rfl)⟩ dL_law_736 rfl ?_
  refine kb_icmp_same X (tgt := 1191) (hs.1) dL_law_739 (by decide) ?_
  exact K _ (sv_up (sv_Rl (fun q hq => fs_pic _ a1 a2 a3 a4 a5 a6 a7 hq) hs.2))
set_option maxHeartbeats 4000000 in
set_option maxRecDepth 100000 in
theorem lz_c14 (X : kb_X p s m c cL_law 4 args wsL_law RL D ad cy A) (hX : va_X b L xs s s.heap) (hbl : b < s.heap.size) (hbA : ¬ A b) (hL : L ≤ 4096) (hk : 0 ≤ k ∧ 8 * k + 8 ≤ (L : Int)) (hR : sv_R k M M) {a1 a2 a3 : Int} (e1 : lz_s xs (8 * k + 1) = a1) (g1 : -2147483648 ≤ a1 ∧ a1 < 2147483648) (e2 : lz_s xs (8 * k + 2) = a2) (g2 : -2147483648 ≤ a2 ∧ a2 < 2147483648) (e3 : lz_s xs (8 * k + 3) = a3) (g3 : -2147483648 ≤ a3 ∧ a3 < 2147483648) (K : ∀ M2 : kb_M, sv_R (k + 1) M2 M2 → kb_B p l e room_1 s m args below meth c D ad cy A 4 600000 7302250 Q 1191 [(3, kb_i (8 * k)), (2, .ref (ad 22)), (1, .ref (ad 0)), (0, .ref b)] [] M2) : kb_B p l e room_1 s m args below meth c D ad cy A 4 600000 7302250 Q 744 [(3, kb_i (8 * k)), (2, .ref (ad 22)), (1, .ref (ad 0)), (0, .ref b)] [] M := by
  have hs := sm_pixel a1 a2 a3 hR
  refine kb_aload_n X 2 rfl dL_law_744 ?_
  refine kb_aload_n X 3 rfl dL_law_745 ?_
  refine kb_iload_n X 0 rfl dL_law_746 ?_
  refine kb_iconst X dL_law_747 ?_
  refine kb_iadd X dL_law_748 ?_
  refine kb_sld X hX hbl hbA hL (r := a1) (by omega) e1 dL_law_749 ?_
  refine kb_aload_n X 3 rfl dL_law_750 ?_
  refine kb_iload_n X 0 rfl dL_law_751 ?_
  refine kb_iconst X dL_law_752 ?_
  refine kb_iadd X dL_law_753 ?_
  refine kb_sld X hX hbl hbA hL (r := a2) (by omega) e2 dL_law_754 ?_
  refine kb_aload_n X 3 rfl dL_law_755 ?_
  refine kb_iload_n X 0 rfl dL_law_756 ?_
  refine kb_iconst X dL_law_757 ?_
  refine kb_iadd X dL_law_758 ?_
  refine kb_sld X hX hbl hbA hL (r := a3) (by omega) e3 dL_law_759 ?_
  refine kb_cVi X (rest := []) [kb_i a1, kb_i a2, kb_i a3] 0 (fl := [some 1, some 2, some 3, some 4, some 5, some 6]) (C := RX6) rfl rfl (c_X6_pixel l D ad cy M a1 a2 a3 g1 g2 g3 (sv_IR hR.2.2.2.2.1)) gL_law_X6_pixel rfl ⟨rfl, hy_X6_pixel⟩ ⟨(Nat.le_of_ble_eq_true rfl), (Nat.le_of_ble_eq_true rfl)⟩ rfl (Nat.le_of_ble_eq_true rfl) ⟨(Nat.le_of_ble_eq_true rfl), (Nat.le_of_ble_eq_true rfl)⟩ dL_law_760 rfl ?_
  refine kb_aload_n X 1 rfl dL_law_763 ?_
  refine kb_aload_n X 3 rfl dL_law_764 ?_
  refine kb_iload_n X 0 rfl dL_law_765 ?_
  refine kb_iconst X dL_law_766 ?_
  refine kb_iadd X dL_law_767 ?_
  refine kb_sld X hX hbl hbA hL (r := a1) (by omega) e1 dL_law_768 ?_
  refine kb_aload_n X 3 rfl dL_law_769 ?_
  refine kb_iload_n X 0 rfl dL_law_770 ?_
  refine kb_iconst X dL_law_771 ?_
  refine kb_iadd X dL_law_772 ?_
  refine kb_sld X hX hbl hbA hL (r := a2) (by omega) e2 dL_law_773 ?_
  refine kb_aload_n X 3 rfl dL_law_774 ?_
  refine kb_iload_n X 0 rfl dL_law_775 ?_
  refine kb_iconst X dL_law_776 ?_
  refine kb_iadd X dL_law_777 ?_
  refine kb_sld X hX hbl hbA hL (r := a3) (by omega) e3 dL_law_778 ?_
  refine kb_cVi X (rest := [kb_i (sp_pixelR M a1 a2 a3)]) [kb_i a1, kb_i a2, kb_i a3] 22 (fl := [none, some 23, some 24, none, none, none, none, none, none, none, none, some 25, some 26, some 27, some 28, some 29, none, some 30, some 31, none, some 32, some 33, some 34, some 35, none, none, none, some 36]) (C := RX7) rfl rfl (c_X7_pixel l D ad cy M a1 a2 a3 g1 g2 g3 (sv_mIR hR.2.2.2.2.1)) gL_law_X7_pixel rfl ⟨rfl, hy_X7_pixel⟩ ⟨(Nat.le_of_ble_eq_true rfl), (Nat.le_of_ble_eq_true rfl)⟩ rfl (Nat.le_of_ble_eq_true rfl) ⟨(Nat.le_of_ble_eq_true rfl), (Nat.le_of_ble_eq_true rfl)⟩ dL_law_779 rfl ?_
  refine kb_icmp_same X (tgt := 1191) (hs) dL_law_782 (by decide) ?_
  exact K _ (sv_up hR)
set_option maxHeartbeats 4000000 in
set_option maxRecDepth 100000 in
theorem lz_c15 (X : kb_X p s m c cL_law 4 args wsL_law RL D ad cy A) (hX : va_X b L xs s s.heap) (hbl : b < s.heap.size) (hbA : ¬ A b) (hL : L ≤ 4096) (hk : 0 ≤ k ∧ 8 * k + 8 ≤ (L : Int)) (hR : sv_R k M M) {a1 a2 : Int} (e1 : lz_s xs (8 * k + 1) = a1) (g1 : -2147483648 ≤ a1 ∧ a1 < 2147483648) (e2 : lz_s xs (8 * k + 2) = a2) (g2 : -2147483648 ≤ a2 ∧ a2 < 2147483648) (K : ∀ M2 : kb_M, sv_R (k + 1) M2 M2 → kb_B p l e room_1 s m args below meth c D ad cy A 4 600000 7302250 Q 1191 [(3, kb_i (8 * k)), (2, .ref (ad 22)), (1, .ref (ad 0)), (0, .ref b)] [] M2) : kb_B p l e room_1 s m args below meth c D ad cy A 4 600000 7302250 Q 787 [(3, kb_i (8 * k)), (2, .ref (ad 22)), (1, .ref (ad 0)), (0, .ref b)] [] M := by
  have hs := sm_about a1 a2 hR
  refine kb_aload_n X 2 rfl dL_law_787 ?_
  refine kb_aload_n X 3 rfl dL_law_788 ?_
  refine kb_iload_n X 0 rfl dL_law_789 ?_
  refine kb_iconst X dL_law_790 ?_
  refine kb_iadd X dL_law_791 ?_
  refine kb_sld X hX hbl hbA hL (r := a1) (by omega) e1 dL_law_792 ?_
  refine kb_aload_n X 3 rfl dL_law_793 ?_
  refine kb_iload_n X 0 rfl dL_law_794 ?_
  refine kb_iconst X dL_law_795 ?_
  refine kb_iadd X dL_law_796 ?_
  refine kb_sld X hX hbl hbA hL (r := a2) (by omega) e2 dL_law_797 ?_
  refine kb_cVi X (rest := []) [kb_i a1, kb_i a2] 0 (fl := [some 1, some 2, some 3, some 4, some 5, some 6]) (C := RX6) rfl rfl (c_X6_about l D ad cy M a1 a2 g1 g2 (sv_IR hR.2.2.2.2.1)) gL_law_X6_about rfl ⟨rfl, hy_X6_about⟩ ⟨(Nat.le_of_ble_eq_true rfl), (Nat.le_of_ble_eq_true rfl)⟩ rfl (Nat.le_of_ble_eq_true rfl) ⟨(Nat.le_of_ble_eq_true rfl), (Nat.le_of_ble_eq_true rfl)⟩ dL_law_798 rfl ?_
  refine kb_aload_n X 1 rfl dL_law_801 ?_
  refine kb_aload_n X 3 rfl dL_law_802 ?_
  refine kb_iload_n X 0 rfl dL_law_803 ?_
  refine kb_iconst X dL_law_804 ?_
  refine kb_iadd X dL_law_805 ?_
  refine kb_sld X hX hbl hbA hL (r := a1) (by omega) e1 dL_law_806 ?_
  refine kb_aload_n X 3 rfl dL_law_807 ?_
  refine kb_iload_n X 0 rfl dL_law_808 ?_
  refine kb_iconst X dL_law_809 ?_
  refine kb_iadd X dL_law_810 ?_
  refine kb_sld X hX hbl hbA hL (r := a2) (by omega) e2 dL_law_811 ?_
  refine kb_cVi X (rest := [kb_i (sp_aboutR M a1 a2)]) [kb_i a1, kb_i a2] 22 (fl := [none, some 23, some 24, none, none, none, none, none, none, none, none, some 25, some 26, some 27, some 28, some 29, none, some 30, some 31, none, some 32, some 33, some 34, some 35, none, none, none, some 36]) (C := RX7) rfl rfl (c_X7_about l D ad cy M a1 a2 g1 g2 (sv_mIR hR.2.2.2.2.1)) gL_law_X7_about rfl ⟨rfl, hy_X7_about⟩ ⟨(Nat.le_of_ble_eq_true rfl), (Nat.le_of_ble_eq_true rfl)⟩ rfl (Nat.le_of_ble_eq_true rfl) ⟨(Nat.le_of_ble_eq_true rfl), (Nat.le_of_ble_eq_true rfl)⟩ dL_law_812 rfl ?_
  refine kb_icmp_same X (tgt := 1191) (hs) dL_law_815 (by decide) ?_
  exact K _ (sv_up hR)
set_option maxHeartbeats 4000000 in
set_option maxRecDepth 100000 in
theorem lz_c16 (X : kb_X p s m c cL_law 4 args wsL_law RL D ad cy A) (hX : va_X b L xs s s.heap) (hbl : b < s.heap.size) (hbA : ¬ A b) (hL : L ≤ 4096) (hk : 0 ≤ k ∧ 8 * k + 8 ≤ (L : Int)) (hR : sv_R k M M) {a1 a2 : Int} (e1 : lz_s xs (8 * k + 1) = a1) (g1 : -2147483648 ≤ a1 ∧ a1 < 2147483648) (e2 : lz_s xs (8 * k + 2) = a2) (g2 : -2147483648 ≤ a2 ∧ a2 < 2147483648) (K : ∀ M2 : kb_M, sv_R (k + 1) M2 M2 → kb_B p l e room_1 s m args below meth c D ad cy A 4 600000 7302250 Q 1191 [(3, kb_i (8 * k)), (2, .ref (ad 22)), (1, .ref (ad 0)), (0, .ref b)] [] M2) : kb_B p l e room_1 s m args below meth c D ad cy A 4 600000 7302250 Q 820 [(3, kb_i (8 * k)), (2, .ref (ad 22)), (1, .ref (ad 0)), (0, .ref b)] [] M := by
  have hR1 : sv_R k M (sp_difM M a1 a2) := sv_Rr (fun q hq => fr_dif M a1 a2 hq) hR
  have hs := sm_differ a1 a2 hR1
  refine kb_aload_n X 2 rfl dL_law_820 ?_
  refine kb_aload_n X 3 rfl dL_law_821 ?_
  refine kb_iload_n X 0 rfl dL_law_822 ?_
  refine kb_iconst X dL_law_823 ?_
  refine kb_iadd X dL_law_824 ?_
  refine kb_sld X hX hbl hbA hL (r := a1) (by omega) e1 dL_law_825 ?_
  refine kb_aload_n X 3 rfl dL_law_826 ?_
  refine kb_iload_n X 0 rfl dL_law_827 ?_
  refine kb_iconst X dL_law_828 ?_
  refine kb_iadd X dL_law_829 ?_
  refine kb_sld X hX hbl hbA hL (r := a2) (by omega) e2 dL_law_830 ?_
  refine kb_cVi X (rest := []) [kb_i a1, kb_i a2] 0 (fl := [some 1, some 2, some 3, some 4, some 5, some 6]) (C := RX6) rfl rfl (c_X6_differ l D ad cy M a1 a2 g1 g2 (sv_IR hR.2.2.2.2.1)) gL_law_X6_differ rfl ⟨rfl, hy_X6_differ⟩ ⟨(Nat.le_of_ble_eq_true rfl), (Nat.le_of_ble_eq_true rfl)⟩ rfl (Nat.le_of_ble_eq_true rfl) ⟨(Nat.le_of_ble_eq_true rfl), (Nat.le_of_ble_eq_true rfl)⟩ dL_law_831 rfl ?_
  refine kb_aload_n X 1 rfl dL_law_834 ?_
  refine kb_aload_n X 3 rfl dL_law_835 ?_
  refine kb_iload_n X 0 rfl dL_law_836 ?_
  refine kb_iconst X dL_law_837 ?_
  refine kb_iadd X dL_law_838 ?_
  refine kb_sld X hX hbl hbA hL (r := a1) (by omega) e1 dL_law_839 ?_
  refine kb_aload_n X 3 rfl dL_law_840 ?_
  refine kb_iload_n X 0 rfl dL_law_841 ?_
  refine kb_iconst X dL_law_842 ?_
  refine kb_iadd X dL_law_843 ?_
  refine kb_sld X hX hbl hbA hL (r := a2) (by omega) e2 dL_law_844 ?_
  refine kb_cVi X (rest := [kb_i (sp_difR M a1 a2)]) [kb_i a1, kb_i a2] 22 (fl := [none, some 23, some 24, none, none, none, none, none, none, none, none, some 25, some 26, some 27, some 28, some 29, none, some 30, some 31, none, some 32, some 33, some 34, some 35, none, none, none, some 36]) (C := RX7) rfl rfl (c_X7_differ l D ad cy (sp_difM M a1 a2) a1 a2 g1 g2 (sv_mIR hR1.2.2.2.2.1)) gL_law_X7_differ rfl ⟨rfl, hy_X7_differ⟩ ⟨(Nat.le_of_ble_eq_true rfl), (Nat.le_of_ble_eq_true rfl)⟩ rfl (Nat.le_of_ble_eq_true rfl) ⟨(Nat.le_of_ble_eq_true rfl), (Nat.le_of_ble_eq_true rfl)⟩ dL_law_845 rfl ?_
  refine kb_icmp_same X (tgt := 1191) (hs.1) dL_law_848 (by decide) ?_
  exact K _ (sv_up (sv_Rl (fun q hq => fs_dif _ a1 a2 hq) hs.2))
set_option maxHeartbeats 4000000 in
set_option maxRecDepth 100000 in
theorem lz_c17 (X : kb_X p s m c cL_law 4 args wsL_law RL D ad cy A) (hX : va_X b L xs s s.heap) (hbl : b < s.heap.size) (hbA : ¬ A b) (hL : L ≤ 4096) (hk : 0 ≤ k ∧ 8 * k + 8 ≤ (L : Int)) (hR : sv_R k M M) {a1 a2 a3 a4 : Int} (e1 : lz_s xs (8 * k + 1) = a1) (g1 : -2147483648 ≤ a1 ∧ a1 < 2147483648) (e2 : lz_s xs (8 * k + 2) = a2) (g2 : -2147483648 ≤ a2 ∧ a2 < 2147483648) (e3 : lz_s xs (8 * k + 3) = a3) (g3 : -2147483648 ≤ a3 ∧ a3 < 2147483648) (e4 : lz_s xs (8 * k + 4) = a4) (g4 : -2147483648 ≤ a4 ∧ a4 < 2147483648) (K : ∀ M2 : kb_M, sv_R (k + 1) M2 M2 → kb_B p l e room_1 s m args below meth c D ad cy A 4 600000 7302250 Q 1191 [(3, kb_i (8 * k)), (2, .ref (ad 22)), (1, .ref (ad 0)), (0, .ref b)] [] M2) : kb_B p l e room_1 s m args below meth c D ad cy A 4 600000 7302250 Q 853 [(3, kb_i (8 * k)), (2, .ref (ad 22)), (1, .ref (ad 0)), (0, .ref b)] [] M := by
  have hR1 : sv_R k M (sp_turnM M a1 a2 a3 a4) := sv_Rr (fun q hq => fr_turn M a1 a2 a3 a4 hq) hR
  have hs := sm_turn a1 a2 a3 a4 hR1
  refine kb_aload_n X 2 rfl dL_law_853 ?_
  refine kb_aload_n X 3 rfl dL_law_854 ?_
  refine kb_iload_n X 0 rfl dL_law_855 ?_
  refine kb_iconst X dL_law_856 ?_
  refine kb_iadd X dL_law_857 ?_
  refine kb_sld X hX hbl hbA hL (r := a1) (by omega) e1 dL_law_858 ?_
  refine kb_aload_n X 3 rfl dL_law_859 ?_
  refine kb_iload_n X 0 rfl dL_law_860 ?_
  refine kb_iconst X dL_law_861 ?_
  refine kb_iadd X dL_law_862 ?_
  refine kb_sld X hX hbl hbA hL (r := a2) (by omega) e2 dL_law_863 ?_
  refine kb_aload_n X 3 rfl dL_law_864 ?_
  refine kb_iload_n X 0 rfl dL_law_865 ?_
  refine kb_iconst X dL_law_866 ?_
  refine kb_iadd X dL_law_867 ?_
  refine kb_sld X hX hbl hbA hL (r := a3) (by omega) e3 dL_law_868 ?_
  refine kb_aload_n X 3 rfl dL_law_869 ?_
  refine kb_iload_n X 0 rfl dL_law_870 ?_
  refine kb_iconst X dL_law_871 ?_
  refine kb_iadd X dL_law_872 ?_
  refine kb_sld X hX hbl hbA hL (r := a4) (by omega) e4 dL_law_873 ?_
  refine kb_cVi X (rest := []) [kb_i a1, kb_i a2, kb_i a3, kb_i a4] 0 (fl := [some 1, some 2, some 3, some 4, some 5, some 6]) (C := RX6) rfl rfl (c_X6_turn l D ad cy M a1 a2 a3 a4 g1 g2 g3 g4 (sv_IP hR.1) (sv_IL hR.2.2.1)) gL_law_X6_turn rfl ⟨rfl, hy_X6_turn⟩ ⟨(Nat.le_of_ble_eq_true rfl), (Nat.le_of_ble_eq_true rfl)⟩ rfl (Nat.le_of_ble_eq_true rfl) ⟨(Nat.le_of_ble_eq_true rfl), (Nat.le_of_ble_eq_true rfl)⟩ dL_law_874 rfl ?_
  refine kb_aload_n X 1 rfl dL_law_877 ?_
  refine kb_aload_n X 3 rfl dL_law_878 ?_
  refine kb_iload_n X 0 rfl dL_law_879 ?_
  refine kb_iconst X dL_law_880 ?_
  refine kb_iadd X dL_law_881 ?_
  refine kb_sld X hX hbl hbA hL (r := a1) (by omega) e1 dL_law_882 ?_
  refine kb_aload_n X 3 rfl dL_law_883 ?_
  refine kb_iload_n X 0 rfl dL_law_884 ?_
  refine kb_iconst X dL_law_885 ?_
  refine kb_iadd X dL_law_886 ?_
  refine kb_sld X hX hbl hbA hL (r := a2) (by omega) e2 dL_law_887 ?_
  refine kb_aload_n X 3 rfl dL_law_888 ?_
  refine kb_iload_n X 0 rfl dL_law_889 ?_
  refine kb_iconst X dL_law_890 ?_
  refine kb_iadd X dL_law_891 ?_
  refine kb_sld X hX hbl hbA hL (r := a3) (by omega) e3 dL_law_892 ?_
  refine kb_aload_n X 3 rfl dL_law_893 ?_
  refine kb_iload_n X 0 rfl dL_law_894 ?_
  refine kb_iconst X dL_law_895 ?_
  refine kb_iadd X dL_law_896 ?_
  refine kb_sld X hX hbl hbA hL (r := a4) (by omega) e4 dL_law_897 ?_
  refine kb_cVi X (rest := [kb_i (sp_turnR M a1 a2 a3 a4)]) [kb_i a1, kb_i a2, kb_i a3, kb_i a4] 22 (fl := [none, some 23, some 24, none, none, none, none, none, none, none, none, some 25, some 26, some 27, some 28, some 29, none, some 30, some 31, none, some 32, some 33, some 34, some 35, none, none, none, some 36]) (C := RX7) rfl rfl (c_X7_turn l D ad cy (sp_turnM M a1 a2 a3 a4) a1 a2 a3 a4 g1 g2 g3 g4 (sv_mIP hR1.1) (sv_mIL hR1.2.2.1)) gL_law_X7_turn rfl ⟨rfl, hy_X7_turn⟩ ⟨(Nat.le_of_ble_eq_true rfl), (Nat.le_of_ble_eq_true rfl)⟩ rfl (Nat.le_of_ble_eq_true rfl) ⟨(Nat.le_of_ble_eq_true rfl), (Nat.le_of_ble_eq_true rfl)⟩ dL_law_898 rfl ?_
  refine kb_icmp_same X (tgt := 1191) (hs.1) dL_law_901 (by decide) ?_
  exact K _ (sv_up hs.2)
set_option maxHeartbeats 4000000 in
set_option maxRecDepth 100000 in
theorem lz_c18 (X : kb_X p s m c cL_law 4 args wsL_law RL D ad cy A) (hX : va_X b L xs s s.heap) (hbl : b < s.heap.size) (hbA : ¬ A b) (hL : L ≤ 4096) (hk : 0 ≤ k ∧ 8 * k + 8 ≤ (L : Int)) (hR : sv_R k M M) {a1 a2 a3 a4 : Int} (e1 : lz_s xs (8 * k + 1) = a1) (g1 : -2147483648 ≤ a1 ∧ a1 < 2147483648) (e2 : lz_s xs (8 * k + 2) = a2) (g2 : -2147483648 ≤ a2 ∧ a2 < 2147483648) (e3 : lz_s xs (8 * k + 3) = a3) (g3 : -2147483648 ≤ a3 ∧ a3 < 2147483648) (e4 : lz_s xs (8 * k + 4) = a4) (g4 : -2147483648 ≤ a4 ∧ a4 < 2147483648) (K : ∀ M2 : kb_M, sv_R (k + 1) M2 M2 → kb_B p l e room_1 s m args below meth c D ad cy A 4 600000 7302250 Q 1191 [(3, kb_i (8 * k)), (2, .ref (ad 22)), (1, .ref (ad 0)), (0, .ref b)] [] M2) : kb_B p l e room_1 s m args below meth c D ad cy A 4 600000 7302250 Q 906 [(3, kb_i (8 * k)), (2, .ref (ad 22)), (1, .ref (ad 0)), (0, .ref b)] [] M := by
  have hR1 : sv_R k M (sp_fanM M a1 a2 a3 a4) := sv_Rr (fun q hq => fr_fan M a1 a2 a3 a4 hq) hR
  have hs := sm_fan a1 a2 a3 a4 hR1
  refine kb_aload_n X 2 rfl dL_law_906 ?_
  refine kb_aload_n X 3 rfl dL_law_907 ?_
  refine kb_iload_n X 0 rfl dL_law_908 ?_
  refine kb_iconst X dL_law_909 ?_
  refine kb_iadd X dL_law_910 ?_
  refine kb_sld X hX hbl hbA hL (r := a1) (by omega) e1 dL_law_911 ?_
  refine kb_aload_n X 3 rfl dL_law_912 ?_
  refine kb_iload_n X 0 rfl dL_law_913 ?_
  refine kb_iconst X dL_law_914 ?_
  refine kb_iadd X dL_law_915 ?_
  refine kb_sld X hX hbl hbA hL (r := a2) (by omega) e2 dL_law_916 ?_
  refine kb_aload_n X 3 rfl dL_law_917 ?_
  refine kb_iload_n X 0 rfl dL_law_918 ?_
  refine kb_iconst X dL_law_919 ?_
  refine kb_iadd X dL_law_920 ?_
  refine kb_sld X hX hbl hbA hL (r := a3) (by omega) e3 dL_law_921 ?_
  refine kb_aload_n X 3 rfl dL_law_922 ?_
  refine kb_iload_n X 0 rfl dL_law_923 ?_
  refine kb_iconst X dL_law_924 ?_
  refine kb_iadd X dL_law_925 ?_
  refine kb_sld X hX hbl hbA hL (r := a4) (by omega) e4 dL_law_926 ?_
  refine kb_cVi X (rest := []) [kb_i a1, kb_i a2, kb_i a3, kb_i a4] 0 (fl := [some 1, some 2, some 3, some 4, some 5, some 6]) (C := RX6) rfl rfl (c_X6_fan l D ad cy M a1 a2 a3 a4 g1 g2 g3 g4 (sv_IP hR.1) (sv_IL hR.2.2.1)) gL_law_X6_fan rfl ⟨rfl, hy_X6_fan⟩ ⟨(Nat.le_of_ble_eq_true rfl), (Nat.le_of_ble_eq_true rfl)⟩ rfl (Nat.le_of_ble_eq_true rfl) ⟨(Nat.le_of_ble_eq_true rfl), (Nat.le_of_ble_eq_true rfl)⟩ dL_law_927 rfl ?_
  refine kb_aload_n X 1 rfl dL_law_930 ?_
  refine kb_aload_n X 3 rfl dL_law_931 ?_
  refine kb_iload_n X 0 rfl dL_law_932 ?_
  refine kb_iconst X dL_law_933 ?_
  refine kb_iadd X dL_law_934 ?_
  refine kb_sld X hX hbl hbA hL (r := a1) (by omega) e1 dL_law_935 ?_
  refine kb_aload_n X 3 rfl dL_law_936 ?_
  refine kb_iload_n X 0 rfl dL_law_937 ?_
  refine kb_iconst X dL_law_938 ?_
  refine kb_iadd X dL_law_939 ?_
  refine kb_sld X hX hbl hbA hL (r := a2) (by omega) e2 dL_law_940 ?_
  refine kb_aload_n X 3 rfl dL_law_941 ?_
  refine kb_iload_n X 0 rfl dL_law_942 ?_
  refine kb_iconst X dL_law_943 ?_
  refine kb_iadd X dL_law_944 ?_
  refine kb_sld X hX hbl hbA hL (r := a3) (by omega) e3 dL_law_945 ?_
  refine kb_aload_n X 3 rfl dL_law_946 ?_
  refine kb_iload_n X 0 rfl dL_law_947 ?_
  refine kb_iconst X dL_law_948 ?_
  refine kb_iadd X dL_law_949 ?_
  refine kb_sld X hX hbl hbA hL (r := a4) (by omega) e4 dL_law_950 ?_
  refine kb_cVi X (rest := [kb_i (sp_fanR M a1 a2 a3 a4)]) [kb_i a1, kb_i a2, kb_i a3, kb_i a4] 22 (fl := [none, some 23, some 24, none, none, none, none, none, none, none, none, some 25, some 26, some 27, some 28, some 29, none, some 30, some 31, none, some 32, some 33, some 34, some 35, none, none, none, some 36]) (C := RX7) rfl rfl (c_X7_fan l D ad cy (sp_fanM M a1 a2 a3 a4) a1 a2 a3 a4 g1 g2 g3 g4 (sv_mIP hR1.1) (sv_mIL hR1.2.2.1)) gL_law_X7_fan rfl ⟨rfl, hy_X7_fan⟩ ⟨(Nat.le_of_ble_eq_true rfl), (Nat.le_of_ble_eq_true rfl)⟩ rfl (Nat.le_of_ble_eq_true rfl) ⟨(Nat.le_of_ble_eq_true rfl), (Nat.le_of_ble_eq_true rfl)⟩ dL_law_951 rfl ?_
  refine kb_icmp_same X (tgt := 1191) (hs.1) dL_law_954 (by decide) ?_
  exact K _ (sv_up (sv_Rl (fun q hq => fs_fan _ a1 a2 a3 a4 hq) hs.2))
set_option maxHeartbeats 4000000 in
set_option maxRecDepth 100000 in
theorem lz_c19 (X : kb_X p s m c cL_law 4 args wsL_law RL D ad cy A) (hX : va_X b L xs s s.heap) (hbl : b < s.heap.size) (hbA : ¬ A b) (hL : L ≤ 4096) (hk : 0 ≤ k ∧ 8 * k + 8 ≤ (L : Int)) (hR : sv_R k M M) {a1 a2 : Int} (e1 : lz_s xs (8 * k + 1) = a1) (g1 : -2147483648 ≤ a1 ∧ a1 < 2147483648) (e2 : lz_s xs (8 * k + 2) = a2) (g2 : -2147483648 ≤ a2 ∧ a2 < 2147483648) (K : ∀ M2 : kb_M, sv_R (k + 1) M2 M2 → kb_B p l e room_1 s m args below meth c D ad cy A 4 600000 7302250 Q 1191 [(3, kb_i (8 * k)), (2, .ref (ad 22)), (1, .ref (ad 0)), (0, .ref b)] [] M2) : kb_B p l e room_1 s m args below meth c D ad cy A 4 600000 7302250 Q 959 [(3, kb_i (8 * k)), (2, .ref (ad 22)), (1, .ref (ad 0)), (0, .ref b)] [] M := by
  have hs := sm_fanAt a1 a2 hR
  refine kb_aload_n X 2 rfl dL_law_959 ?_
  refine kb_aload_n X 3 rfl dL_law_960 ?_
  refine kb_iload_n X 0 rfl dL_law_961 ?_
  refine kb_iconst X dL_law_962 ?_
  refine kb_iadd X dL_law_963 ?_
  refine kb_sld X hX hbl hbA hL (r := a1) (by omega) e1 dL_law_964 ?_
  refine kb_aload_n X 3 rfl dL_law_965 ?_
  refine kb_iload_n X 0 rfl dL_law_966 ?_
  refine kb_iconst X dL_law_967 ?_
  refine kb_iadd X dL_law_968 ?_
  refine kb_sld X hX hbl hbA hL (r := a2) (by omega) e2 dL_law_969 ?_
  refine kb_cVi X (rest := []) [kb_i a1, kb_i a2] 0 (fl := [some 1, some 2, some 3, some 4, some 5, some 6]) (C := RX6) rfl rfl (c_X6_fanAt l D ad cy M a1 a2 g1 g2) gL_law_X6_fanAt rfl ⟨rfl, hy_X6_fanAt⟩ ⟨(Nat.le_of_ble_eq_true rfl), (Nat.le_of_ble_eq_true rfl)⟩ rfl (Nat.le_of_ble_eq_true rfl) ⟨(Nat.le_of_ble_eq_true rfl), (Nat.le_of_ble_eq_true rfl)⟩ dL_law_970 rfl ?_
  refine kb_aload_n X 1 rfl dL_law_973 ?_
  refine kb_aload_n X 3 rfl dL_law_974 ?_
  refine kb_iload_n X 0 rfl dL_law_975 ?_
  refine kb_iconst X dL_law_976 ?_
  refine kb_iadd X dL_law_977 ?_
  refine kb_sld X hX hbl hbA hL (r := a1) (by omega) e1 dL_law_978 ?_
  refine kb_aload_n X 3 rfl dL_law_979 ?_
  refine kb_iload_n X 0 rfl dL_law_980 ?_
  refine kb_iconst X dL_law_981 ?_
  refine kb_iadd X dL_law_982 ?_
  refine kb_sld X hX hbl hbA hL (r := a2) (by omega) e2 dL_law_983 ?_
  refine kb_cVi X (rest := [kb_i (sp_fanAtR M a1 a2)]) [kb_i a1, kb_i a2] 22 (fl := [none, some 23, some 24, none, none, none, none, none, none, none, none, some 25, some 26, some 27, some 28, some 29, none, some 30, some 31, none, some 32, some 33, some 34, some 35, none, none, none, some 36]) (C := RX7) rfl rfl (c_X7_fanAt l D ad cy M a1 a2 g1 g2 (sv_mIF hR.2.2.2.2.2.1)) gL_law_X7_fanAt rfl ⟨rfl, hy_X7_fanAt⟩ ⟨(Nat.le_of_ble_eq_true rfl), (Nat.le_of_ble_eq_true rfl)⟩ rfl (Nat.le_of_ble_eq_true rfl) ⟨(Nat.le_of_ble_eq_true rfl), (Nat.le_of_ble_eq_true rfl)⟩ dL_law_984 rfl ?_
  refine kb_icmp_same X (tgt := 1191) (hs) dL_law_987 (by decide) ?_
  exact K _ (sv_up hR)
set_option maxHeartbeats 4000000 in
set_option maxRecDepth 100000 in
theorem lz_c20 (X : kb_X p s m c cL_law 4 args wsL_law RL D ad cy A) (hX : va_X b L xs s s.heap) (hbl : b < s.heap.size) (hbA : ¬ A b) (hL : L ≤ 4096) (hk : 0 ≤ k ∧ 8 * k + 8 ≤ (L : Int)) (hR : sv_R k M M) {a1 a2 a3 a4 a5 : Int} (e1 : lz_s xs (8 * k + 1) = a1) (g1 : -2147483648 ≤ a1 ∧ a1 < 2147483648) (e2 : lz_s xs (8 * k + 2) = a2) (g2 : -2147483648 ≤ a2 ∧ a2 < 2147483648) (e3 : lz_s xs (8 * k + 3) = a3) (g3 : -2147483648 ≤ a3 ∧ a3 < 2147483648) (e4 : lz_s xs (8 * k + 4) = a4) (g4 : -2147483648 ≤ a4 ∧ a4 < 2147483648) (e5 : lz_s xs (8 * k + 5) = a5) (g5 : -2147483648 ≤ a5 ∧ a5 < 2147483648) (K : ∀ M2 : kb_M, sv_R (k + 1) M2 M2 → kb_B p l e room_1 s m args below meth c D ad cy A 4 600000 7302250 Q 1191 [(3, kb_i (8 * k)), (2, .ref (ad 22)), (1, .ref (ad 0)), (0, .ref b)] [] M2) : kb_B p l e room_1 s m args below meth c D ad cy A 4 600000 7302250 Q 992 [(3, kb_i (8 * k)), (2, .ref (ad 22)), (1, .ref (ad 0)), (0, .ref b)] [] M := by
  have hs := sm_board a1 a2 a3 a4 a5 hR
  refine kb_aload_n X 2 rfl dL_law_992 ?_
  refine kb_aload_n X 3 rfl dL_law_993 ?_
  refine kb_iload_n X 0 rfl dL_law_994 ?_
  refine kb_iconst X dL_law_995 ?_
  refine kb_iadd X dL_law_996 ?_
  refine kb_sld X hX hbl hbA hL (r := a1) (by omega) e1 dL_law_997 ?_
  refine kb_aload_n X 3 rfl dL_law_998 ?_
  refine kb_iload_n X 0 rfl dL_law_999 ?_
  refine kb_iconst X dL_law_1000 ?_
  refine kb_iadd X dL_law_1001 ?_
  refine kb_sld X hX hbl hbA hL (r := a2) (by omega) e2 dL_law_1002 ?_
  refine kb_aload_n X 3 rfl dL_law_1003 ?_
  refine kb_iload_n X 0 rfl dL_law_1004 ?_
  refine kb_iconst X dL_law_1005 ?_
  refine kb_iadd X dL_law_1006 ?_
  refine kb_sld X hX hbl hbA hL (r := a3) (by omega) e3 dL_law_1007 ?_
  refine kb_aload_n X 3 rfl dL_law_1008 ?_
  refine kb_iload_n X 0 rfl dL_law_1009 ?_
  refine kb_iconst X dL_law_1010 ?_
  refine kb_iadd X dL_law_1011 ?_
  refine kb_sld X hX hbl hbA hL (r := a4) (by omega) e4 dL_law_1012 ?_
  refine kb_aload_n X 3 rfl dL_law_1013 ?_
  refine kb_iload_n X 0 rfl dL_law_1014 ?_
  refine kb_iconst X dL_law_1015 ?_
  refine kb_iadd X dL_law_1016 ?_
  refine kb_sld X hX hbl hbA hL (r := a5) (by omega) e5 dL_law_1017 ?_
  refine kb_cVi X (rest := []) [kb_i a1, kb_i a2, kb_i a3, kb_i a4, kb_i a5] 0 (fl := [some 1, some 2, some 3, some 4, some 5, some 6]) (C := RX6) rfl rfl (c_X6_board l D ad cy M a1 a2 a3 a4 a5 g1 g2 g3 g4 g5 (sv_IF hR.2.2.2.2.2.1)) gL_law_X6_board rfl ⟨rfl, hy_X6_board⟩ ⟨(Nat.le_of_ble_eq_true rfl), (Nat.le_of_ble_eq_true rfl)⟩ rfl (Nat.le_of_ble_eq_true rfl) ⟨(Nat.le_of_ble_eq_true rfl), (Nat.le_of_ble_eq_true rfl)⟩ dL_law_1018 rfl ?_
  refine kb_aload_n X 1 rfl dL_law_1021 ?_
  refine kb_aload_n X 3 rfl dL_law_1022 ?_
  refine kb_iload_n X 0 rfl dL_law_1023 ?_
  refine kb_iconst X dL_law_1024 ?_
  refine kb_iadd X dL_law_1025 ?_
  refine kb_sld X hX hbl hbA hL (r := a1) (by omega) e1 dL_law_1026 ?_
  refine kb_aload_n X 3 rfl dL_law_1027 ?_
  refine kb_iload_n X 0 rfl dL_law_1028 ?_
  refine kb_iconst X dL_law_1029 ?_
  refine kb_iadd X dL_law_1030 ?_
  refine kb_sld X hX hbl hbA hL (r := a2) (by omega) e2 dL_law_1031 ?_
  refine kb_aload_n X 3 rfl dL_law_1032 ?_
  refine kb_iload_n X 0 rfl dL_law_1033 ?_
  refine kb_iconst X dL_law_1034 ?_
  refine kb_iadd X dL_law_1035 ?_
  refine kb_sld X hX hbl hbA hL (r := a3) (by omega) e3 dL_law_1036 ?_
  refine kb_aload_n X 3 rfl dL_law_1037 ?_
  refine kb_iload_n X 0 rfl dL_law_1038 ?_
  refine kb_iconst X dL_law_1039 ?_
  refine kb_iadd X dL_law_1040 ?_
  refine kb_sld X hX hbl hbA hL (r := a4) (by omega) e4 dL_law_1041 ?_
  refine kb_aload_n X 3 rfl dL_law_1042 ?_
  refine kb_iload_n X 0 rfl dL_law_1043 ?_
  refine kb_iconst X dL_law_1044 ?_
  refine kb_iadd X dL_law_1045 ?_
  refine kb_sld X hX hbl hbA hL (r := a5) (by omega) e5 dL_law_1046 ?_
  refine kb_cVi X (rest := [kb_i (sp_boardR M a1 a2 a3 a4 a5)]) [kb_i a1, kb_i a2, kb_i a3, kb_i a4, kb_i a5] 22 (fl := [none, some 23, some 24, none, none, none, none, none, none, none, none, some 25, some 26, some 27, some 28, some 29, none, some 30, some 31, none, some 32, some 33, some 34, some 35, none, none, none, some 36]) (C := RX7) rfl rfl (c_X7_board l D ad cy M a1 a2 a3 a4 a5 g1 g2 g3 g4 g5 (sv_mIF hR.2.2.2.2.2.1)) gL_law_X7_board rfl ⟨rfl, hy_X7_board⟩ ⟨(Nat.le_of_ble_eq_true rfl), (Nat.le_of_ble_eq_true rfl)⟩ rfl (Nat.le_of_ble_eq_true rfl) ⟨(Nat.le_of_ble_eq_true rfl), (Nat.le_of_ble_eq_true rfl)⟩ dL_law_1047 rfl ?_
  refine kb_icmp_same X (tgt := 1191) (hs) dL_law_1050 (by decide) ?_
  exact K _ (sv_up hR)
set_option maxHeartbeats 4000000 in
set_option maxRecDepth 100000 in
theorem lz_c21 (X : kb_X p s m c cL_law 4 args wsL_law RL D ad cy A) (hX : va_X b L xs s s.heap) (hbl : b < s.heap.size) (hbA : ¬ A b) (hL : L ≤ 4096) (hk : 0 ≤ k ∧ 8 * k + 8 ≤ (L : Int)) (hR : sv_R k M M) {a1 a2 a3 a4 : Int} (e1 : lz_s xs (8 * k + 1) = a1) (g1 : -2147483648 ≤ a1 ∧ a1 < 2147483648) (e2 : lz_s xs (8 * k + 2) = a2) (g2 : -2147483648 ≤ a2 ∧ a2 < 2147483648) (e3 : lz_s xs (8 * k + 3) = a3) (g3 : -2147483648 ≤ a3 ∧ a3 < 2147483648) (e4 : lz_s xs (8 * k + 4) = a4) (g4 : -2147483648 ≤ a4 ∧ a4 < 2147483648) (K : ∀ M2 : kb_M, sv_R (k + 1) M2 M2 → kb_B p l e room_1 s m args below meth c D ad cy A 4 600000 7302250 Q 1191 [(3, kb_i (8 * k)), (2, .ref (ad 22)), (1, .ref (ad 0)), (0, .ref b)] [] M2) : kb_B p l e room_1 s m args below meth c D ad cy A 4 600000 7302250 Q 1055 [(3, kb_i (8 * k)), (2, .ref (ad 22)), (1, .ref (ad 0)), (0, .ref b)] [] M := by
  refine kb_aload_n X 2 rfl dL_law_1055 ?_
  refine kb_aload_n X 3 rfl dL_law_1056 ?_
  refine kb_iload_n X 0 rfl dL_law_1057 ?_
  refine kb_iconst X dL_law_1058 ?_
  refine kb_iadd X dL_law_1059 ?_
  refine kb_sld X hX hbl hbA hL (r := a1) (by omega) e1 dL_law_1060 ?_
  refine kb_aload_n X 3 rfl dL_law_1061 ?_
  refine kb_iload_n X 0 rfl dL_law_1062 ?_
  refine kb_iconst X dL_law_1063 ?_
  refine kb_iadd X dL_law_1064 ?_
  refine kb_sld X hX hbl hbA hL (r := a2) (by omega) e2 dL_law_1065 ?_
  refine kb_aload_n X 3 rfl dL_law_1066 ?_
  refine kb_iload_n X 0 rfl dL_law_1067 ?_
  refine kb_iconst X dL_law_1068 ?_
  refine kb_iadd X dL_law_1069 ?_
  refine kb_sld X hX hbl hbA hL (r := a3) (by omega) e3 dL_law_1070 ?_
  refine kb_aload_n X 3 rfl dL_law_1071 ?_
  refine kb_iload_n X 0 rfl dL_law_1072 ?_
  refine kb_iconst X dL_law_1073 ?_
  refine kb_iadd X dL_law_1074 ?_
  refine kb_sld X hX hbl hbA hL (r := a4) (by omega) e4 dL_law_1075 ?_
  refine kb_cVi X (rest := []) [kb_i a1, kb_i a2, kb_i a3, kb_i a4] 0 (fl := [some 1, some 2, some 3, some 4, some 5, some 6]) (C := RX6) rfl rfl (c_X6_caliper l D ad cy M a1 a2 a3 a4 g1 g2 g3 g4) gL_law_X6_caliper rfl ⟨rfl, hy_X6_caliper⟩ ⟨(Nat.le_of_ble_eq_true rfl), (Nat.le_of_ble_eq_true rfl)⟩ rfl (Nat.le_of_ble_eq_true rfl) ⟨(Nat.le_of_ble_eq_true rfl), (Nat.le_of_ble_eq_true rfl)⟩ dL_law_1076 rfl ?_
  refine kb_aload_n X 1 rfl dL_law_1079 ?_
  refine kb_aload_n X 3 rfl dL_law_1080 ?_
  refine kb_iload_n X 0 rfl dL_law_1081 ?_
  refine kb_iconst X dL_law_1082 ?_
  refine kb_iadd X dL_law_1083 ?_
  refine kb_sld X hX hbl hbA hL (r := a1) (by omega) e1 dL_law_1084 ?_
  refine kb_aload_n X 3 rfl dL_law_1085 ?_
  refine kb_iload_n X 0 rfl dL_law_1086 ?_
  refine kb_iconst X dL_law_1087 ?_
  refine kb_iadd X dL_law_1088 ?_
  refine kb_sld X hX hbl hbA hL (r := a2) (by omega) e2 dL_law_1089 ?_
  refine kb_aload_n X 3 rfl dL_law_1090 ?_
  refine kb_iload_n X 0 rfl dL_law_1091 ?_
  refine kb_iconst X dL_law_1092 ?_
  refine kb_iadd X dL_law_1093 ?_
  refine kb_sld X hX hbl hbA hL (r := a3) (by omega) e3 dL_law_1094 ?_
  refine kb_aload_n X 3 rfl dL_law_1095 ?_
  refine kb_iload_n X 0 rfl dL_law_1096 ?_
  refine kb_iconst X dL_law_1097 ?_
  refine kb_iadd X dL_law_1098 ?_
  refine kb_sld X hX hbl hbA hL (r := a4) (by omega) e4 dL_law_1099 ?_
  refine kb_cVi X (rest := [kb_i (sp_calR a1 a2 a3 a4)]) [kb_i a1, kb_i a2, kb_i a3, kb_i a4] 22 (fl := [none, some 23, some 24, none, none, none, none, none, none, none, none, some 25, some 26, some 27, some 28, some 29, none, some 30, some 31, none, some 32, some 33, some 34, some 35, none, none, none, some 36]) (C := RX7) rfl rfl (c_X7_caliper l D ad cy M a1 a2 a3 a4 g1 g2 g3 g4) gL_law_X7_caliper rfl ⟨rfl, hy_X7_caliper⟩ ⟨(Nat.le_of_ble_eq_true rfl), (Nat.le_of_ble_eq_true rfl)⟩ rfl (Nat.le_of_ble_eq_true rfl) ⟨(Nat.le_of_ble_eq_true rfl), (Nat.le_of_ble_eq_true rfl)⟩ dL_law_1100 rfl ?_
  refine kb_icmp_same X (tgt := 1191) (rfl) dL_law_1103 (by decide) ?_
  exact K _ (sv_up hR)
set_option maxHeartbeats 4000000 in
set_option maxRecDepth 100000 in
theorem lz_c22 (X : kb_X p s m c cL_law 4 args wsL_law RL D ad cy A) (hX : va_X b L xs s s.heap) (hbl : b < s.heap.size) (hbA : ¬ A b) (hL : L ≤ 4096) (hk : 0 ≤ k ∧ 8 * k + 8 ≤ (L : Int)) (hR : sv_R k M M) {a1 : Int} (e1 : lz_s xs (8 * k + 1) = a1) (g1 : -2147483648 ≤ a1 ∧ a1 < 2147483648) (K : ∀ M2 : kb_M, sv_R (k + 1) M2 M2 → kb_B p l e room_1 s m args below meth c D ad cy A 4 600000 7302250 Q 1191 [(3, kb_i (8 * k)), (2, .ref (ad 22)), (1, .ref (ad 0)), (0, .ref b)] [] M2) : kb_B p l e room_1 s m args below meth c D ad cy A 4 600000 7302250 Q 1108 [(3, kb_i (8 * k)), (2, .ref (ad 22)), (1, .ref (ad 0)), (0, .ref b)] [] M := by
  have hR1 : sv_R k M (sp_capM M a1) := sv_Rr (fun q hq => fr_cap M a1 hq) hR
  have hs := sm_cap a1 hR1
  refine kb_aload_n X 2 rfl dL_law_1108 ?_
  refine kb_aload_n X 3 rfl dL_law_1109 ?_
  refine kb_iload_n X 0 rfl dL_law_1110 ?_
  refine kb_iconst X dL_law_1111 ?_
  refine kb_iadd X dL_law_1112 ?_
  refine kb_sld X hX hbl hbA hL (r := a1) (by omega) e1 dL_law_1113 ?_
  refine kb_cVi X (rest := []) [kb_i a1] 0 (fl := [some 1, some 2, some 3, some 4, some 5, some 6]) (C := RX6) rfl rfl (c_X6_cap l D ad cy M a1 g1) gL_law_X6_cap rfl ⟨rfl, hy_X6_cap⟩ ⟨(Nat.le_of_ble_eq_true rfl), (Nat.le_of_ble_eq_true rfl)⟩ rfl (Nat.le_of_ble_eq_true rfl) ⟨(Nat.le_of_ble_eq_true rfl), (Nat.le_of_ble_eq_true rfl)⟩ dL_law_1114 rfl ?_
  refine kb_aload_n X 1 rfl dL_law_1117 ?_
  refine kb_aload_n X 3 rfl dL_law_1118 ?_
  refine kb_iload_n X 0 rfl dL_law_1119 ?_
  refine kb_iconst X dL_law_1120 ?_
  refine kb_iadd X dL_law_1121 ?_
  refine kb_sld X hX hbl hbA hL (r := a1) (by omega) e1 dL_law_1122 ?_
  refine kb_cVi X (rest := [kb_i (sp_capR M a1)]) [kb_i a1] 22 (fl := [none, some 23, some 24, none, none, none, none, none, none, none, none, some 25, some 26, some 27, some 28, some 29, none, some 30, some 31, none, some 32, some 33, some 34, some 35, none, none, none, some 36]) (C := RX7) rfl rfl (c_X7_cap l D ad cy (sp_capM M a1) a1 g1) gL_law_X7_cap rfl ⟨rfl, hy_X7_cap⟩ ⟨(Nat.le_of_ble_eq_true rfl), (Nat.le_of_ble_eq_true rfl)⟩ rfl (Nat.le_of_ble_eq_true rfl) ⟨(Nat.le_of_ble_eq_true rfl), (Nat.le_of_ble_eq_true rfl)⟩ dL_law_1123 rfl ?_
  refine kb_icmp_same X (tgt := 1191) (hs.1) dL_law_1126 (by decide) ?_
  exact K _ (sv_up (sv_Rl (fun q hq => fs_cap _ a1 hq) hs.2))
set_option maxHeartbeats 4000000 in
set_option maxRecDepth 100000 in
theorem lz_c23 (X : kb_X p s m c cL_law 4 args wsL_law RL D ad cy A) (hX : va_X b L xs s s.heap) (hbl : b < s.heap.size) (hbA : ¬ A b) (hL : L ≤ 4096) (hk : 0 ≤ k ∧ 8 * k + 8 ≤ (L : Int)) (hR : sv_R k M M) {a1 : Int} (e1 : lz_s xs (8 * k + 1) = a1) (g1 : -2147483648 ≤ a1 ∧ a1 < 2147483648) (K : ∀ M2 : kb_M, sv_R (k + 1) M2 M2 → kb_B p l e room_1 s m args below meth c D ad cy A 4 600000 7302250 Q 1191 [(3, kb_i (8 * k)), (2, .ref (ad 22)), (1, .ref (ad 0)), (0, .ref b)] [] M2) : kb_B p l e room_1 s m args below meth c D ad cy A 4 600000 7302250 Q 1131 [(3, kb_i (8 * k)), (2, .ref (ad 22)), (1, .ref (ad 0)), (0, .ref b)] [] M := by
  have hR1 : sv_R k M (sp_tickM M a1) := sv_Rr (fun q hq => fr_tick M a1 hq) hR
  have hs := sm_tick a1 hR1
  refine kb_aload_n X 2 rfl dL_law_1131 ?_
  refine kb_aload_n X 3 rfl dL_law_1132 ?_
  refine kb_iload_n X 0 rfl dL_law_1133 ?_
  refine kb_iconst X dL_law_1134 ?_
  refine kb_iadd X dL_law_1135 ?_
  refine kb_sld X hX hbl hbA hL (r := a1) (by omega) e1 dL_law_1136 ?_
  refine kb_cVi X (rest := []) [kb_i a1] 0 (fl := [some 1, some 2, some 3, some 4, some 5, some 6]) (C := RX6) rfl rfl (c_X6_tick l D ad cy M a1 g1 (lz_h6 hR)) gL_law_X6_tick rfl ⟨rfl, hy_X6_tick⟩ ⟨(Nat.le_of_ble_eq_true rfl), (Nat.le_of_ble_eq_true rfl)⟩ rfl (Nat.le_of_ble_eq_true rfl) ⟨(Nat.le_of_ble_eq_true rfl), (Nat.le_of_ble_eq_true rfl)⟩ dL_law_1137 rfl ?_
  refine kb_aload_n X 1 rfl dL_law_1140 ?_
  refine kb_aload_n X 3 rfl dL_law_1141 ?_
  refine kb_iload_n X 0 rfl dL_law_1142 ?_
  refine kb_iconst X dL_law_1143 ?_
  refine kb_iadd X dL_law_1144 ?_
  refine kb_sld X hX hbl hbA hL (r := a1) (by omega) e1 dL_law_1145 ?_
  refine kb_cVi X (rest := [kb_i (sp_tickR M a1)]) [kb_i a1] 22 (fl := [none, some 23, some 24, none, none, none, none, none, none, none, none, some 25, some 26, some 27, some 28, some 29, none, some 30, some 31, none, some 32, some 33, some 34, some 35, none, none, none, some 36]) (C := RX7) rfl rfl (c_X7_tick l D ad cy (sp_tickM M a1) a1 g1 hR1.2.2.2.2.2.2.2.2.1) gL_law_X7_tick rfl ⟨rfl, hy_X7_tick⟩ ⟨(Nat.le_of_ble_eq_true rfl), (Nat.le_of_ble_eq_true rfl)⟩ rfl (Nat.le_of_ble_eq_true rfl) ⟨(Nat.le_of_ble_eq_true rfl), (Nat.le_of_ble_eq_true rfl)⟩ dL_law_1146 rfl ?_
  refine kb_icmp_same X (tgt := 1191) (hs.1) dL_law_1149 (by decide) ?_
  exact K _ (sv_up (sv_Rl (fun q hq => fs_tick _ a1 hq) hs.2))
set_option maxHeartbeats 4000000 in
set_option maxRecDepth 100000 in
theorem lz_c24 (X : kb_X p s m c cL_law 4 args wsL_law RL D ad cy A) (hX : va_X b L xs s s.heap) (hbl : b < s.heap.size) (hbA : ¬ A b) (hL : L ≤ 4096) (hk : 0 ≤ k ∧ 8 * k + 8 ≤ (L : Int)) (hR : sv_R k M M) {a1 : Int} (e1 : lz_s xs (8 * k + 1) = a1) (g1 : -2147483648 ≤ a1 ∧ a1 < 2147483648) (K : ∀ M2 : kb_M, sv_R (k + 1) M2 M2 → kb_B p l e room_1 s m args below meth c D ad cy A 4 600000 7302250 Q 1191 [(3, kb_i (8 * k)), (2, .ref (ad 22)), (1, .ref (ad 0)), (0, .ref b)] [] M2) : kb_B p l e room_1 s m args below meth c D ad cy A 4 600000 7302250 Q 1154 [(3, kb_i (8 * k)), (2, .ref (ad 22)), (1, .ref (ad 0)), (0, .ref b)] [] M := by
  have hs := sm_count a1 hR
  refine kb_aload_n X 2 rfl dL_law_1154 ?_
  refine kb_aload_n X 3 rfl dL_law_1155 ?_
  refine kb_iload_n X 0 rfl dL_law_1156 ?_
  refine kb_iconst X dL_law_1157 ?_
  refine kb_iadd X dL_law_1158 ?_
  refine kb_sld X hX hbl hbA hL (r := a1) (by omega) e1 dL_law_1159 ?_
  refine kb_cVi X (rest := []) [kb_i a1] 0 (fl := [some 1, some 2, some 3, some 4, some 5, some 6]) (C := RX6) rfl rfl (c_X6_count l D ad cy M a1 g1) gL_law_X6_count rfl ⟨rfl, hy_X6_count⟩ ⟨(Nat.le_of_ble_eq_true rfl), (Nat.le_of_ble_eq_true rfl)⟩ rfl (Nat.le_of_ble_eq_true rfl) ⟨(Nat.le_of_ble_eq_true rfl), (Nat.le_of_ble_eq_true rfl)⟩ dL_law_1160 rfl ?_
  refine kb_aload_n X 1 rfl dL_law_1163 ?_
  refine kb_aload_n X 3 rfl dL_law_1164 ?_
  refine kb_iload_n X 0 rfl dL_law_1165 ?_
  refine kb_iconst X dL_law_1166 ?_
  refine kb_iadd X dL_law_1167 ?_
  refine kb_sld X hX hbl hbA hL (r := a1) (by omega) e1 dL_law_1168 ?_
  refine kb_cVi X (rest := [kb_i (sp_countR M a1)]) [kb_i a1] 22 (fl := [none, some 23, some 24, none, none, none, none, none, none, none, none, some 25, some 26, some 27, some 28, some 29, none, some 30, some 31, none, some 32, some 33, some 34, some 35, none, none, none, some 36]) (C := RX7) rfl rfl (c_X7_count l D ad cy M a1 g1 (lz_n7 hR)) gL_law_X7_count rfl ⟨rfl, hy_X7_count⟩ ⟨(Nat.le_of_ble_eq_true rfl), (Nat.le_of_ble_eq_true rfl)⟩ rfl (Nat.le_of_ble_eq_true rfl) ⟨(Nat.le_of_ble_eq_true rfl), (Nat.le_of_ble_eq_true rfl)⟩ dL_law_1169 rfl ?_
  refine kb_icmp_same X (tgt := 1191) (hs) dL_law_1172 (by decide) ?_
  exact K _ (sv_up hR)
set_option maxHeartbeats 4000000 in
set_option maxRecDepth 100000 in
theorem lz_c25 (X : kb_X p s m c cL_law 4 args wsL_law RL D ad cy A) (hX : va_X b L xs s s.heap) (hbl : b < s.heap.size) (hbA : ¬ A b) (hL : L ≤ 4096) (hk : 0 ≤ k ∧ 8 * k + 8 ≤ (L : Int)) (hR : sv_R k M M) (K : ∀ M2 : kb_M, sv_R (k + 1) M2 M2 → kb_B p l e room_1 s m args below meth c D ad cy A 4 600000 7302250 Q 1191 [(3, kb_i (8 * k)), (2, .ref (ad 22)), (1, .ref (ad 0)), (0, .ref b)] [] M2) : kb_B p l e room_1 s m args below meth c D ad cy A 4 600000 7302250 Q 1177 [(3, kb_i (8 * k)), (2, .ref (ad 22)), (1, .ref (ad 0)), (0, .ref b)] [] M := by
  have hs := sm_digest  hR
  refine kb_aload_n X 2 rfl dL_law_1177 ?_
  refine kb_cVl X (rest := []) [] 0 (fl := [some 1, some 2, some 3, some 4, some 5, some 6]) (C := RX6) rfl rfl (c_X6_digest l D ad cy M  (sv_IP hR.1) (sv_IL hR.2.2.1) (sv_IR hR.2.2.2.2.1) (sv_sc hR.2.1)) gL_law_X6_digest rfl ⟨rfl, hy_X6_digest⟩ ⟨(Nat.le_of_ble_eq_true rfl), (Nat.le_of_ble_eq_true rfl)⟩ rfl (Nat.le_of_ble_eq_true rfl) ⟨(Nat.le_of_ble_eq_true rfl), (Nat.le_of_ble_eq_true rfl)⟩ dL_law_1178 rfl ?_
  refine kb_aload_n X 1 rfl dL_law_1181 ?_
  refine kb_cVl X (rest := [kb_l (sp_dig M)]) [] 22 (fl := [none, some 23, some 24, none, none, none, none, none, none, none, none, some 25, some 26, some 27, some 28, some 29, none, some 30, some 31, none, some 32, some 33, some 34, some 35, none, none, none, some 36]) (C := RX7) rfl rfl (c_X7_digest l D ad cy M  (sv_mIP hR.1) (sv_mIL hR.2.2.1) (sv_mIR hR.2.2.2.2.1) (sv_msc hR.2.1)) gL_law_X7_digest rfl ⟨rfl, hy_X7_digest⟩ ⟨(Nat.le_of_ble_eq_true rfl), (Nat.le_of_ble_eq_true rfl)⟩ rfl (Nat.le_of_ble_eq_true rfl) ⟨(Nat.le_of_ble_eq_true rfl), (Nat.le_of_ble_eq_true rfl)⟩ dL_law_1182 rfl ?_
  refine kb_lcmp_same X (tgt := 1191) (hs) dL_law_1185 dL_law_1186 (by decide) ?_
  exact K _ (sv_up hR)
end lz
