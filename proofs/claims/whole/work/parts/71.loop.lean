/-! the law: its loop and its entry -/
section lzl
variable {p : Program} {l : Launch} {e : Env} {s : State} {m : MethodId} {args : Array Value} {below : List Frame} {meth : Method} {c : Code} {D : va_G} {ad : Nat → Nat} {cy : Nat → ClassId} {A : Nat → Prop} {Q : State → Prop}
variable {M : kb_M} {b L : Nat} {xs : Nat → Int32} {k : Int}
theorem lz_head (X : kb_X p s m c cL_law 4 args wsL_law RL D ad cy A) (hX : va_X b L xs s s.heap) (hbl : b < s.heap.size) (hbA : ¬ A b) (hL : L ≤ 4096) (hk : 0 ≤ k ∧ k ≤ 513) (hend : ∀ lv (M : kb_M), kb_B p l e room_1 s m args below meth c D ad cy A 4 600000 7302250 Q 1197 lv [] M) (K : 8 * k + 8 ≤ (L : Int) → kb_B p l e room_1 s m args below meth c D ad cy A 4 600000 7302250 Q 27 [(3, kb_i (8 * k)), (2, .ref (ad 22)), (1, .ref (ad 0)), (0, .ref b)] [] M) : kb_B p l e room_1 s m args below meth c D ad cy A 4 600000 7302250 Q 18 [(3, kb_i (8 * k)), (2, .ref (ad 22)), (1, .ref (ad 0)), (0, .ref b)] [] M := by
  refine kb_iload_n X 0 rfl dL_law_18 ?_
  refine kb_aload_n X 3 rfl dL_law_19 ?_
  refine kb_slen X hX hbl hbA dL_law_20 ?_
  refine kb_bipush X (by decide) dL_law_21 ?_
  refine kb_isub X dL_law_23 ?_
  refine kb_icmp_gt X ⟨by omega, by omega⟩ ⟨by omega, by omega⟩ (tgt := 1197) dL_law_24 (by decide) (fun _ => ?_) (fun h => ?_)
  · exact hend _ M
  · exact K (by omega)
theorem lz_tail (X : kb_X p s m c cL_law 4 args wsL_law RL D ad cy A) (K : kb_B p l e room_1 s m args below meth c D ad cy A 4 600000 7302250 Q 18 [(3, kb_i (8 * (k + 1))), (2, .ref (ad 22)), (1, .ref (ad 0)), (0, .ref b)] [] M) : kb_B p l e room_1 s m args below meth c D ad cy A 4 600000 7302250 Q 1191 [(3, kb_i (8 * k)), (2, .ref (ad 22)), (1, .ref (ad 0)), (0, .ref b)] [] M := by
  refine kb_iinc X (b := 8 * (k + 1)) (lv' := [(3, kb_i (8 * (k + 1))), (2, .ref (ad 22)), (1, .ref (ad 0)), (0, .ref b)]) 0 rfl dL_law_1191 (by omega) (by decide) rfl ?_
  exact kb_goto X (tgt := 18) dL_law_1194 (by decide) K
set_option maxHeartbeats 4000000 in
theorem lz_body (X : kb_X p s m c cL_law 4 args wsL_law RL D ad cy A) (hX : va_X b L xs s s.heap) (hbl : b < s.heap.size) (hbA : ¬ A b) (hL : L ≤ 4096) (hk : 0 ≤ k ∧ 8 * k + 8 ≤ (L : Int)) (hR : sv_R k M M) (K : ∀ M2 : kb_M, sv_R (k + 1) M2 M2 → kb_B p l e room_1 s m args below meth c D ad cy A 4 600000 7302250 Q 1191 [(3, kb_i (8 * k)), (2, .ref (ad 22)), (1, .ref (ad 0)), (0, .ref b)] [] M2) : kb_B p l e room_1 s m args below meth c D ad cy A 4 600000 7302250 Q 27 [(3, kb_i (8 * k)), (2, .ref (ad 22)), (1, .ref (ad 0)), (0, .ref b)] [] M := by
  refine kb_aload_n X 3 rfl dL_law_27 ?_
  refine kb_iload_n X 0 rfl dL_law_28 ?_
  refine kb_sld X hX hbl hbA hL (r := lz_s xs (8 * k)) (by omega) rfl dL_law_29 ?_
  refine kb_bipush X (by decide) dL_law_30 ?_
  refine kb_iand31 X dL_law_32 ?_
  generalize ht : lz_s xs (8 * k) % 32 = t
  have hr : t = 0 ∨ t = 1 ∨ t = 2 ∨ t = 3 ∨ t = 4 ∨ t = 5 ∨ t = 6 ∨ t = 7 ∨ t = 8 ∨ t = 9 ∨ t = 10 ∨ t = 11 ∨ t = 12 ∨ t = 13 ∨ t = 14 ∨ t = 15 ∨ t = 16 ∨ t = 17 ∨ t = 18 ∨ t = 19 ∨ t = 20 ∨ t = 21 ∨ t = 22 ∨ t = 23 ∨ t = 24 ∨ t = 25 ∨ (26 ≤ t ∧ t < 32) := by omega
  rcases hr with rfl | rfl | rfl | rfl | rfl | rfl | rfl | rfl | rfl | rfl | rfl | rfl | rfl | rfl | rfl | rfl | rfl | rfl | rfl | rfl | rfl | rfl | rfl | rfl | rfl | rfl | hr
  · refine kb_tabIn X (tgt := 152) 0 ⟨by decide, by decide⟩ dL_law_33 (by decide) (by decide) rfl (by decide) ?_
    exact lz_c0 X hX hbl hbA hL hk hR rfl (lz_srg xs _) rfl (lz_srg xs _) rfl (lz_srg xs _) K
  · refine kb_tabIn X (tgt := 195) 1 ⟨by decide, by decide⟩ dL_law_33 (by decide) (by decide) rfl (by decide) ?_
    exact lz_c1 X hX hbl hbA hL hk hR rfl (lz_srg xs _) rfl (lz_srg xs _) K
  · refine kb_tabIn X (tgt := 228) 2 ⟨by decide, by decide⟩ dL_law_33 (by decide) (by decide) rfl (by decide) ?_
    by_cases hz : lz_s xs (8 * k + 2) = 0
    · exact lz_c2_0 X hX hbl hbA hL hk hR rfl (lz_srg xs _) rfl (lz_srg xs _) hz K
    · exact lz_c2_1 X hX hbl hbA hL hk hR rfl (lz_srg xs _) rfl (lz_srg xs _) hz K
  · refine kb_tabIn X (tgt := 277) 3 ⟨by decide, by decide⟩ dL_law_33 (by decide) (by decide) rfl (by decide) ?_
    exact lz_c3 X hX hbl hbA hL hk hR rfl (lz_srg xs _) rfl (lz_srg xs _) rfl (lz_srg xs _) K
  · refine kb_tabIn X (tgt := 320) 4 ⟨by decide, by decide⟩ dL_law_33 (by decide) (by decide) rfl (by decide) ?_
    exact lz_c4 X hX hbl hbA hL hk hR rfl (lz_srg xs _) rfl (lz_srg xs _) rfl (lz_srg xs _) rfl (lz_srg xs _) rfl (lz_srg xs _) K
  · refine kb_tabIn X (tgt := 383) 5 ⟨by decide, by decide⟩ dL_law_33 (by decide) (by decide) rfl (by decide) ?_
    exact lz_c5 X hX hbl hbA hL hk hR  K
  · refine kb_tabIn X (tgt := 396) 6 ⟨by decide, by decide⟩ dL_law_33 (by decide) (by decide) rfl (by decide) ?_
    exact lz_c6 X hX hbl hbA hL hk hR rfl (lz_srg xs _) rfl (lz_srg xs _) K
  · refine kb_tabIn X (tgt := 429) 7 ⟨by decide, by decide⟩ dL_law_33 (by decide) (by decide) rfl (by decide) ?_
    exact lz_c7 X hX hbl hbA hL hk hR rfl (lz_srg xs _) K
  · refine kb_tabIn X (tgt := 452) 8 ⟨by decide, by decide⟩ dL_law_33 (by decide) (by decide) rfl (by decide) ?_
    exact lz_c8 X hX hbl hbA hL hk hR rfl (lz_srg xs _) rfl (lz_srg xs _) rfl (lz_srg xs _) K
  · refine kb_tabIn X (tgt := 495) 9 ⟨by decide, by decide⟩ dL_law_33 (by decide) (by decide) rfl (by decide) ?_
    exact lz_c9 X hX hbl hbA hL hk hR rfl (lz_srg xs _) rfl (lz_srg xs _) K
  · refine kb_tabIn X (tgt := 528) 10 ⟨by decide, by decide⟩ dL_law_33 (by decide) (by decide) rfl (by decide) ?_
    exact lz_c10 X hX hbl hbA hL hk hR rfl (lz_srg xs _) rfl (lz_srg xs _) rfl (lz_srg xs _) K
  · refine kb_tabIn X (tgt := 571) 11 ⟨by decide, by decide⟩ dL_law_33 (by decide) (by decide) rfl (by decide) ?_
    exact lz_c11 X hX hbl hbA hL hk hR rfl (lz_srg xs _) rfl (lz_srg xs _) rfl (lz_srg xs _) K
  · refine kb_tabIn X (tgt := 614) 12 ⟨by decide, by decide⟩ dL_law_33 (by decide) (by decide) rfl (by decide) ?_
    exact lz_c12 X hX hbl hbA hL hk hR rfl (lz_srg xs _) rfl (lz_srg xs _) rfl (lz_srg xs _) K
  · refine kb_tabIn X (tgt := 657) 13 ⟨by decide, by decide⟩ dL_law_33 (by decide) (by decide) rfl (by decide) ?_
    exact lz_c13 X hX hbl hbA hL hk hR rfl (lz_srg xs _) rfl (lz_srg xs _) rfl (lz_srg xs _) rfl (lz_srg xs _) rfl (lz_srg xs _) rfl (lz_srg xs _) rfl (lz_srg xs _) K
  · refine kb_tabIn X (tgt := 744) 14 ⟨by decide, by decide⟩ dL_law_33 (by decide) (by decide) rfl (by decide) ?_
    exact lz_c14 X hX hbl hbA hL hk hR rfl (lz_srg xs _) rfl (lz_srg xs _) rfl (lz_srg xs _) K
  · refine kb_tabIn X (tgt := 787) 15 ⟨by decide, by decide⟩ dL_law_33 (by decide) (by decide) rfl (by decide) ?_
    exact lz_c15 X hX hbl hbA hL hk hR rfl (lz_srg xs _) rfl (lz_srg xs _) K
  · refine kb_tabIn X (tgt := 820) 16 ⟨by decide, by decide⟩ dL_law_33 (by decide) (by decide) rfl (by decide) ?_
    exact lz_c16 X hX hbl hbA hL hk hR rfl (lz_srg xs _) rfl (lz_srg xs _) K
  · refine kb_tabIn X (tgt := 853) 17 ⟨by decide, by decide⟩ dL_law_33 (by decide) (by decide) rfl (by decide) ?_
    exact lz_c17 X hX hbl hbA hL hk hR rfl (lz_srg xs _) rfl (lz_srg xs _) rfl (lz_srg xs _) rfl (lz_srg xs _) K
  · refine kb_tabIn X (tgt := 906) 18 ⟨by decide, by decide⟩ dL_law_33 (by decide) (by decide) rfl (by decide) ?_
    exact lz_c18 X hX hbl hbA hL hk hR rfl (lz_srg xs _) rfl (lz_srg xs _) rfl (lz_srg xs _) rfl (lz_srg xs _) K
  · refine kb_tabIn X (tgt := 959) 19 ⟨by decide, by decide⟩ dL_law_33 (by decide) (by decide) rfl (by decide) ?_
    exact lz_c19 X hX hbl hbA hL hk hR rfl (lz_srg xs _) rfl (lz_srg xs _) K
  · refine kb_tabIn X (tgt := 992) 20 ⟨by decide, by decide⟩ dL_law_33 (by decide) (by decide) rfl (by decide) ?_
    exact lz_c20 X hX hbl hbA hL hk hR rfl (lz_srg xs _) rfl (lz_srg xs _) rfl (lz_srg xs _) rfl (lz_srg xs _) rfl (lz_srg xs _) K
  · refine kb_tabIn X (tgt := 1055) 21 ⟨by decide, by decide⟩ dL_law_33 (by decide) (by decide) rfl (by decide) ?_
    exact lz_c21 X hX hbl hbA hL hk hR rfl (lz_srg xs _) rfl (lz_srg xs _) rfl (lz_srg xs _) rfl (lz_srg xs _) K
  · refine kb_tabIn X (tgt := 1108) 22 ⟨by decide, by decide⟩ dL_law_33 (by decide) (by decide) rfl (by decide) ?_
    exact lz_c22 X hX hbl hbA hL hk hR rfl (lz_srg xs _) K
  · refine kb_tabIn X (tgt := 1131) 23 ⟨by decide, by decide⟩ dL_law_33 (by decide) (by decide) rfl (by decide) ?_
    exact lz_c23 X hX hbl hbA hL hk hR rfl (lz_srg xs _) K
  · refine kb_tabIn X (tgt := 1154) 24 ⟨by decide, by decide⟩ dL_law_33 (by decide) (by decide) rfl (by decide) ?_
    exact lz_c24 X hX hbl hbA hL hk hR rfl (lz_srg xs _) K
  · refine kb_tabIn X (tgt := 1177) 25 ⟨by decide, by decide⟩ dL_law_33 (by decide) (by decide) rfl (by decide) ?_
    exact lz_c25 X hX hbl hbA hL hk hR  K
  · refine kb_tabOut X ⟨by omega, by omega⟩ (tgt := 1191) dL_law_33 (Or.inr (by omega)) (by decide) ?_
    exact K M (sv_up hR)
theorem lz_loop (X : kb_X p s m c cL_law 4 args wsL_law RL D ad cy A) (hX : va_X b L xs s s.heap) (hbl : b < s.heap.size) (hbA : ¬ A b) (hL : L ≤ 4096) (hend : ∀ lv (M : kb_M), kb_B p l e room_1 s m args below meth c D ad cy A 4 600000 7302250 Q 1197 lv [] M) : ∀ (n : Nat) (k : Int), 0 ≤ k → k + n = 513 → ∀ M : kb_M, sv_R k M M → kb_B p l e room_1 s m args below meth c D ad cy A 4 600000 7302250 Q 18 [(3, kb_i (8 * k)), (2, .ref (ad 22)), (1, .ref (ad 0)), (0, .ref b)] [] M := by
  intro n
  induction n with
  | zero =>
    intro k h0 h1 M hR
    exact lz_head X hX hbl hbA hL (by omega) hend (fun h => absurd h (by omega))
  | succ n ih =>
    intro k h0 h1 M hR
    refine lz_head X hX hbl hbA hL (by omega) hend (fun h => ?_)
    exact lz_body X hX hbl hbA hL ⟨h0, h⟩ hR (fun M2 hR2 => lz_tail X (ih (k + 1) (by omega) (by omega) M2 hR2))
theorem kc_astore_n {R : Room} {nL cells slots : Nat} {cc : ByteArray} {own : String} {Ts : List Cond} {pc : Nat} {lv : List (Nat × Value)} {st : List Value} {ws : va_W} (X : kc_X p s m c cc nL args Ts own D cy A) {i : Fin 4} {a : Nat} {lv' : List (Nat × Value)} (hd : decode cc pc = .ok (.astore_n i, 1)) (hn : (i : Nat) < nL) (hv : ((i : Nat), (.ref a : Value)) :: lv.filter (fun q => !(q.1 == (i : Nat)) && !(q.1 + 1 == (i : Nat) && q.2.category == 2)) = lv') (k : kc_B p l e R s m args below meth c D A nL cells slots Q (pc + 1) lv' st ws) : kc_B p l e R s m args below meth c D A nL cells slots Q pc lv (.ref a :: st) ws := by
  intro H locs ls hP hD hS hl
  exact lv_astore_n X.1.1 X.1.2.1 hd rfl hl hn hv (fun ls' hl' => k H locs ls' hP hD hS hl')
theorem kc_istore_n {R : Room} {nL cells slots : Nat} {cc : ByteArray} {own : String} {Ts : List Cond} {pc : Nat} {lv : List (Nat × Value)} {st : List Value} {ws : va_W} (X : kc_X p s m c cc nL args Ts own D cy A) {i : Fin 4} {a : Int} {lv' : List (Nat × Value)} (hd : decode cc pc = .ok (.istore_n i, 1)) (hn : (i : Nat) < nL) (hv : ((i : Nat), (kb_i a : Value)) :: lv.filter (fun q => !(q.1 == (i : Nat)) && !(q.1 + 1 == (i : Nat) && q.2.category == 2)) = lv') (k : kc_B p l e R s m args below meth c D A nL cells slots Q (pc + 1) lv' st ws) : kc_B p l e R s m args below meth c D A nL cells slots Q pc lv (kb_i a :: st) ws := by
  intro H locs ls hP hD hS hl
  exact lv_istore_n X.1.1 X.1.2.1 hd rfl hl hn hv (fun ls' hl' => k H locs ls' hP hD hS hl')
theorem lzw_c6 : Cond.classLink RL 7 RX6 ∈ wsL_law := by decide +kernel
theorem lzw_n6 : Cond.instantiable RX6 6 ∈ wsL_law := by decide +kernel
theorem lzw_z6 : Cond.initialized RX6 ∈ wsL_law := by decide +kernel
theorem lzw_c7 : Cond.classLink RL 10 RX7 ∈ wsL_law := by decide +kernel
theorem lzw_n7 : Cond.instantiable RX7 28 ∈ wsL_law := by decide +kernel
theorem lzw_z7 : Cond.initialized RX7 ∈ wsL_law := by decide +kernel
theorem lzw_j6 : Cond.methodLink RL 9 yX6_init ∈ wsL_law := by decide +kernel
theorem lzw_i6 : Cond.instanceMethod yX6_init ∈ wsL_law := by decide +kernel
theorem lzw_j7 : Cond.methodLink RL 12 yX7_init ∈ wsL_law := by decide +kernel
theorem lzw_i7 : Cond.instanceMethod yX7_init ∈ wsL_law := by decide +kernel
set_option maxHeartbeats 4000000 in
set_option maxRecDepth 100000 in
theorem lz_entry (X : kc_X p s m c cL_law 4 args wsL_law RL D cy A) (hX : va_X b L xs s s.heap) (hbl : b < s.heap.size) (hbA : ¬ A b) (hL : L ≤ 4096) (hnw : va_Nw kb_nw s) (hend : ∀ (ad : Nat → Nat) lv (M : kb_M), kb_B p l e room_1 s m args below meth c D ad cy A 4 600000 7302250 Q 1197 lv [] M) : kc_B p l e room_1 s m args below meth c D A 4 0 0 Q 0 [(0, .ref b)] [] [] := by
  refine kc_new (C := RX6) (T := TX6) (N := 6) (ci := 6) (fs := [.null, .null, .null, .null, .null, .null]) X inlX6 tyX6 tyX6_ok lzw_c6 lzw_n6 lzw_z6 rfl (by decide +kernel) (Nat.le_of_ble_eq_true rfl) (Nat.le_of_ble_eq_true rfl) dL_law_0 (fun h6 => kc_eqw (ws' := [] ++ [(h6, .inr (6, [.null, .null, .null, .null, .null, .null]))]) rfl ?_)
  refine kc_dup X rfl dL_law_3 ?_
  refine kc_callI (wr := []) X (c_X6_init l D cy h6) [] rfl rfl rfl gL_law_X6_init rfl lzw_z6 lzw_j6 lzw_i6 rfl (by decide +kernel) ⟨(Nat.le_of_ble_eq_true rfl), (Nat.le_of_ble_eq_true rfl)⟩ (Nat.le_of_ble_eq_true rfl) ⟨(Nat.le_of_ble_eq_true rfl), (Nat.le_of_ble_eq_true rfl)⟩ dL_law_4 (fun u => kc_eqw (ws' := kc_W_X6_init cy h6 u) rfl ?_)
  refine kc_astore_n X (lv' := [(1, .ref h6), (0, .ref b)]) dL_law_7 (by decide) rfl ?_
  refine kc_new (C := RX7) (T := TX7) (N := 28) (ci := 7) (fs := [kb_i 0, .null, .null, kb_i 0, kb_i 0, kb_i 0, kb_i 0, kb_i 0, kb_i 0, kb_i 0, kb_i 0, .null, .null, .null, .null, .null, kb_i 0, .null, .null, kb_i 0, .null, .null, .null, .null, kb_i 0, kb_i 0, kb_i 0, .null]) X inlX7 tyX7 tyX7_ok lzw_c7 lzw_n7 lzw_z7 rfl (by decide +kernel) (Nat.le_of_ble_eq_true rfl) (Nat.le_of_ble_eq_true rfl) dL_law_8 (fun h7 => ?_)
  refine kc_dup X rfl dL_law_11 ?_
  refine kc_callI (wr := kc_W_X6_init cy h6 u) X (c_X7_init l D cy h7) [0, 1, 2, 3, 4, 5, 6, 7, 8, 9, 10, 11, 12, 13, 14, 15, 16, 17, 18, 19, 20, 21] rfl rfl rfl gL_law_X7_init rfl lzw_z7 lzw_j7 lzw_i7 rfl (by decide +kernel) ⟨(Nat.le_of_ble_eq_true rfl), (Nat.le_of_ble_eq_true rfl)⟩ (Nat.le_of_ble_eq_true rfl) ⟨(Nat.le_of_ble_eq_true rfl), (Nat.le_of_ble_eq_true rfl)⟩ dL_law_12 (fun v => ?_)
  refine kc_astore_n X (lv' := [(2, .ref h7), (1, .ref h6), (0, .ref b)]) dL_law_15 (by decide) rfl ?_
  refine kc_iconst X dL_law_16 ?_
  refine kc_istore_n X (lv' := [(3, kb_i 0), (2, .ref h7), (1, .ref h6), (0, .ref b)]) dL_law_17 (by decide) rfl ?_
  refine kc_widen X (k1 := 600000) (n1 := 7302250) (Nat.le_of_ble_eq_true rfl) (Nat.le_of_ble_eq_true rfl) ?_
  intro H locs ls hP hD hS hl
  have X2 : kb_X p s m c cL_law 4 args wsL_law RL D (lz_ad h6 u h7 v) cy A := ⟨X.1, X.2.1, fun M2 => kb_Dany (lz_D hD), X.2.2, hnw⟩
  exact lz_loop X2 hX hbl hbA hL (hend _) 513 0 (by omega) (by omega) lz_M lz_R H locs ls lz_ok (lz_P hP) hS hl
end lzl
