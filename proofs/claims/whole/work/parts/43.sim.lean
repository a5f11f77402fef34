/-! side by side: a look as a whole -/
theorem mo_lsh_q (N : kb_M) {q : Nat} (h : q ≠ 22 ∧ q ≠ 30 ∧ q ≠ 31) : mo_lsh N q = N q := by
  unfold mo_lsh
  split
  · unfold kb_wr mo_sh
    simp [h.1, h.2.1, h.2.2]
  · rfl
theorem mo_lsh_22 (N : kb_M) {j : Int} (h : j ≠ 16) : mo_lsh N 22 j = N 22 j := by
  unfold mo_lsh
  split
  · unfold kb_wr mo_sh
    simp [h]
  · rfl
theorem mo_lsh_30 (N : kb_M) (j : Int) : mo_lsh N 30 j = if N 22 16 = 6 ∧ 0 ≤ j ∧ j < 5 then N 30 (j + 1) else N 30 j := by
  unfold mo_lsh
  by_cases h : N 22 16 = 6
  · rw [if_pos h]
    show (if 0 ≤ j ∧ j < 6 - 1 then N 30 (j + 1) else N 30 j) = _
    by_cases hj : 0 ≤ j ∧ j < 5
    · rw [if_pos (by omega), if_pos ⟨h, hj⟩]
    · rw [if_neg (by omega), if_neg (fun q => hj q.2)]
  · rw [if_neg h, if_neg (fun q => h q.1)]
theorem mo_lsh_31 (N : kb_M) (p : Int) : mo_lsh N 31 p = if N 22 16 = 6 ∧ 0 ≤ p ∧ p < 32000 then N 31 (p + 6400) else N 31 p := by
  unfold mo_lsh
  by_cases h : N 22 16 = 6
  · rw [if_pos h]
    show (if 0 ≤ p ∧ p < 38400 - 6400 then N 31 (p + 6400) else N 31 p) = _
    by_cases hj : 0 ≤ p ∧ p < 32000
    · rw [if_pos (by omega), if_pos ⟨h, hj⟩]
    · rw [if_neg (by omega), if_neg (fun q => hj q.2)]
  · rw [if_neg h, if_neg (fun q => h q.1)]
theorem mo_lbg_q (N : kb_M) (t : Int) {q : Nat} (h : q ≠ 22 ∧ q ≠ 30 ∧ q ≠ 31) : mo_lbg N t q = N q := by
  unfold mo_lbg
  rw [kb_wr_other _ _ _ h.2.1]
  unfold mo_cl
  simp only [h.2.2, if_false]
  exact mo_lsh_q N h
theorem mo_lbg_22 (N : kb_M) (t : Int) {j : Int} (h : j ≠ 16) : mo_lbg N t 22 j = N 22 j := mo_lsh_22 N h
theorem mo_lbg_30 (N : kb_M) (t j : Int) : mo_lbg N t 30 j = if j = mo_L N then t else mo_lsh N 30 j := rfl
theorem mo_lbg_31 (N : kb_M) (t p : Int) : mo_lbg N t 31 p = if 6400 * mo_L N ≤ p ∧ p < 6400 * mo_L N + 6400 then 0 else mo_lsh N 31 p := rfl
theorem mo_lkN_q (N : kb_M) (t : Int) {q : Nat} (h : q ≠ 22 ∧ q ≠ 25 ∧ q ≠ 26 ∧ q ≠ 30 ∧ q ≠ 31) : mo_lkN N t q = N q := by
  unfold mo_lkN
  rw [kb_wr_other _ _ _ h.1, kb_wr_other _ _ _ h.1, kb_wr_other _ _ _ h.1]
  unfold mo_mvI
  simp only [h.2.1, h.2.2.1, if_false]
  rw [mo_lk_q _ _ _ _ h.2.2.2.2, mo_lbg_q N t ⟨h.1, h.2.2.2.1, h.2.2.2.2⟩]
theorem mo_lkN_22 (N : kb_M) (t : Int) {j : Int} (h8 : j ≠ 8) (h9 : j ≠ 9) (h16 : j ≠ 16) : mo_lkN N t 22 j = N 22 j := by
  have e : mo_lkN N t 22 j = mo_lk (mo_lbg N t) (mo_L N) t (N 22 10).toNat 22 j := by
    unfold mo_lkN
    simp only [kb_wr, mo_mvI, if_true, h8, h9, h16, if_false]
    rfl
  rw [e, mo_lk_q _ _ _ _ (by decide), mo_lbg_22 N t h16]
theorem sm_look {m : Int} {C N : kb_M} (t : Int) (hR : sv_R m C N) : sp_lookR C t = mo_lookR N t ∧ sv_R (m + 1) (sp_lookM C t) (mo_lookM N t) := by
  have hup : sv_R (m + 1) C N := by
    obtain ⟨hP, hS, hL, ⟨e1, e2, e3⟩, r⟩ := hR
    exact ⟨hP, hS, hL, ⟨e1, e2, by omega⟩, r⟩
  obtain ⟨hP, hS, hL, hE, hG, hF, hW⟩ := id hR
  obtain ⟨p1, p2, p3, p4, p5, p6, p7, p8, p9, p10, p11⟩ := id hP
  obtain ⟨l1, l2, l3, l4, l5, l6, l7⟩ := id hL
  obtain ⟨s1, s2, s3⟩ := id hS
  obtain ⟨w1, w2, w3, w4⟩ := id hW
  unfold sp_lookR mo_lookR sp_lookM mo_lookM
  rw [p1, p4, w1, w2]
  by_cases hi : 0 ≤ t ∧ t < N 22 0
  · obtain ⟨x1, x2, x3, x4⟩ := p3 t hi.1 hi.2
    rw [x2, if_pos (show 0 ≤ t ∧ t < N 22 0 ∧ t < 16 by omega), if_pos hi]
    by_cases hd : N 24 t = 0
    · rw [if_pos hd, if_pos hd]
      by_cases hq : N 22 7 < N 22 8 + mo_al N * mo_al N * mo_al N
      · rw [if_pos hq, if_pos hq, if_neg (fun q => q.2.2 hq), if_neg (fun q => q.2.2 hq)]
        exact ⟨rfl, hup⟩
      · rw [if_neg hq, if_neg hq, if_pos ⟨by omega, hd, hq⟩, if_pos ⟨hi, hd, hq⟩]
        have eLr : sp_bgr C = mo_L N := by
          unfold sp_bgr mo_L
          rw [l1]
          by_cases h6 : N 22 16 = 6
          · rw [if_neg (by omega), if_pos h6]
          · rw [if_pos (by omega), if_neg h6]
        have eK : sp_lkR C = mo_L N + 1 := by
          unfold sp_lkR mo_L
          rw [l1]
          by_cases h6 : N 22 16 = 6
          · rw [if_neg (by omega), if_pos h6, h6]
            rfl
          · rw [if_pos (by omega), if_neg h6]
        refine ⟨eK, ?_⟩
        have hLb : 0 ≤ mo_L N ∧ mo_L N < 6 := by
          unfold mo_L
          split <;> omega
        -- the new world of the class
        have ew : C 6 0 + C 1 6 * C 1 6 * C 1 6 = N 22 8 + mo_al N * mo_al N * mo_al N := by rw [w1, p4]
        have hB2 : sp_bgn (kb_wr C 6 0 (N 22 8 + mo_al N * mo_al N * mo_al N)) t 3 2 = if C 3 3 < 6 then C 3 2 else (C 3 2 + 1) % 6 := rfl
        have hBs : sp_bgs (kb_wr C 6 0 (N 22 8 + mo_al N * mo_al N * mo_al N)) = sp_bgs C := rfl
        have hslot : (sp_bgn (kb_wr C 6 0 (N 22 8 + mo_al N * mo_al N * mo_al N)) t 3 2 + mo_L N) % 6 = sp_bgs C := by
          rw [hB2]
          unfold sp_bgs mo_L
          rw [l1]
          by_cases h6 : N 22 16 = 6
          · have h7 : ¬ N 22 16 < 6 := by omega
            simp only [if_neg h7, if_pos h6]
            omega
          · have h7 : N 22 16 < 6 := by omega
            simp only [if_pos h7, if_neg h6]
        have hsb : 0 ≤ sp_bgs C ∧ sp_bgs C < 6 := by
          unfold sp_bgs
          split <;> omega
        have eC : sp_lookN C t = sp_mv (sp_lk (sp_bgn (kb_wr C 6 0 (N 22 8 + mo_al N * mo_al N * mo_al N)) t) (mo_L N) (N 22 10).toNat) := by
          unfold sp_lookN
          rw [ew, eLr, s1]
        rw [eC]
        generalize hB : sp_bgn (kb_wr C 6 0 (N 22 8 + mo_al N * mo_al N * mo_al N)) t = B at *
        have b16 : ∀ p : Int, B 16 p = if sp_bgs C * 6400 ≤ p ∧ p < sp_bgs C * 6400 + 6400 then 0 else C 16 p := by
          intro p; rw [← hB]; rfl
        have b17 : ∀ k : Int, B 17 k = if k = sp_bgs C then t else C 17 k := by
          intro k; rw [← hB]; rfl
        have b33 : B 3 3 = if C 3 3 < 6 then C 3 3 + 1 else C 3 3 := by rw [← hB]; rfl
        have b34 : B 3 4 = C 3 4 + 1 := by rw [← hB]; rfl
        have bq : ∀ q : Nat, q ≠ 3 → q ≠ 6 → q ≠ 16 → q ≠ 17 → B q = C q := by
          intro q h3 h6 h16 h17
          rw [← hB]
          simp only [sp_bgn, sp_cl, sp_bg2, sp_bg1, kb_wr, h3, h6, h16, h17, if_false]
        have b60 : B 6 0 = N 22 8 + mo_al N * mo_al N * mo_al N := by rw [← hB]; rfl
        have b61 : B 6 1 = C 6 1 := by rw [← hB]; rfl
        have hPB : sv_P B (mo_lbg N t) := sv_P_cg (fun j hj => by rw [bq 1 (by decide) (by decide) (by decide) (by decide)]) (bq 7 (by decide) (by decide) (by decide) (by decide)) (bq 8 (by decide) (by decide) (by decide) (by decide)) (mo_lbg_22 N t (by decide)) (mo_lbg_22 N t (by decide)) (mo_lbg_22 N t (by decide)) (mo_lbg_22 N t (by decide)) (mo_lbg_22 N t (by decide)) (mo_lbg_q N t (by decide)) (mo_lbg_q N t (by decide)) hP
        have hSB : sv_S B (mo_lbg N t) := by
          unfold sv_S at *
          rw [bq 2 (by decide) (by decide) (by decide) (by decide), bq 11 (by decide) (by decide) (by decide) (by decide), bq 12 (by decide) (by decide) (by decide) (by decide), bq 13 (by decide) (by decide) (by decide) (by decide), bq 14 (by decide) (by decide) (by decide) (by decide), bq 15 (by decide) (by decide) (by decide) (by decide), mo_lbg_22 N t (show (10 : Int) ≠ 16 by decide), mo_lbg_q N t (show 25 ≠ 22 ∧ 25 ≠ 30 ∧ 25 ≠ 31 by decide), mo_lbg_q N t (show 26 ≠ 22 ∧ 26 ≠ 30 ∧ 26 ≠ 31 by decide), mo_lbg_q N t (show 27 ≠ 22 ∧ 27 ≠ 30 ∧ 27 ≠ 31 by decide), mo_lbg_q N t (show 28 ≠ 22 ∧ 28 ≠ 30 ∧ 28 ≠ 31 by decide), mo_lbg_q N t (show 29 ≠ 22 ∧ 29 ≠ 30 ∧ 29 ≠ 31 by decide)]
          exact hS
        have hBo : 0 ≤ B 3 2 ∧ B 3 2 < 6 := by rw [hB2]; split <;> omega
        have h17B : B 17 ((B 3 2 + mo_L N) % 6) = t := by rw [hslot, b17, if_pos rfl]
        have d10 : mo_lbg N t 22 10 = N 22 10 := mo_lbg_22 N t (by decide)
        have d0 : mo_lbg N t 22 0 = N 22 0 := mo_lbg_22 N t (by decide)
        -- what both hear
        have hH := sm_hear (L := mo_L N) (t := t) hPB hSB hBo hLb (by rw [d0]; exact hi) h17B (fun l i s a1 a2 a3 a4 a5 a6 => by
          rw [b16, mo_lbg_31, mo_lsh_31]
          by_cases hl : l = mo_L N
          · rw [if_pos (by rw [hl, hslot]; omega), if_pos (by rw [hl]; omega)]
          · have hne : (B 3 2 + l) % 6 ≠ sp_bgs C := by rw [← hslot]; omega
            rw [if_neg (by omega), if_neg (by omega)]
            by_cases h6 : N 22 16 = 6
            · have hL5 : mo_L N = 5 := by unfold mo_L; rw [if_pos h6]
              rw [if_pos ⟨h6, by omega, by omega⟩, hB2, if_neg (by omega)]
              have := l5 (l + 1) i s (by omega) (by omega) a3 a4 a5 a6
              rw [show ((C 3 2 + 1) % 6 + l) % 6 = (C 3 2 + (l + 1)) % 6 by omega, show 400 * (16 * l + i) + s + 6400 = 400 * (16 * (l + 1) + i) + s by omega]
              exact this
            · have hLn : mo_L N = N 22 16 := by unfold mo_L; rw [if_neg h6]
              rw [if_neg (fun q => h6 q.1), hB2, if_pos (by omega)]
              exact l5 l i s a1 (by omega) a3 a4 a5 a6) (N 22 10).toNat (by rw [d10]; omega)
        have hbC := sp_lk_bb (B := B) (l := mo_L N) hslot (fun p a b => by rw [b16, if_pos ⟨a, b⟩]) (fun p => by
          rw [b16]
          have := l6 p
          split <;> omega) (sv_sc hSB) (by rw [bq 1 (by decide) (by decide) (by decide) (by decide), p1]; omega) (N 22 10).toNat (by rw [bq 2 (by decide) (by decide) (by decide) (by decide), s1]; omega)
        have hbD := mo_lk_bb (B := mo_lbg N t) (l := mo_L N) (t := t) (fun p a b => by rw [mo_lbg_31, if_pos (by omega)]) (fun p => by
          rw [mo_lbg_31, mo_lsh_31]
          have := l7 p
          have := l7 (p + 6400)
          split
          · omega
          · split <;> omega) (sv_msc hSB) (by rw [d0]; omega) (N 22 10).toNat (by rw [d10]; omega)
        generalize hX : sp_lk B (mo_L N) (N 22 10).toNat = X at *
        have xq : ∀ q : Nat, q ≠ 1 → q ≠ 9 → q ≠ 10 → q ≠ 16 → X q = B q := by
          intro q h1 h2 h3 h4
          rw [← hX]
          exact sp_lk_q B _ _ ⟨h1, h2, h3, h4⟩
        have x1 : ∀ j : Int, j ≠ 4 → X 1 j = C 1 j := by
          intro j hj
          rw [← hX, sp_lk_1 B _ _ hj, bq 1 (by decide) (by decide) (by decide) (by decide)]
        have xc : ∀ q : Nat, q ≠ 1 → q ≠ 9 → q ≠ 10 → q ≠ 16 → q ≠ 3 → q ≠ 6 → q ≠ 17 → X q = C q := by
          intro q h1 h2 h3 h4 h5 h6 h7
          rw [xq q h1 h2 h3 h4, bq q h5 h6 h4 h7]
        have x3 : ∀ j : Int, X 3 j = B 3 j := fun j => by rw [xq 3 (by decide) (by decide) (by decide) (by decide)]
        have x6 : ∀ j : Int, X 6 j = B 6 j := fun j => by rw [xq 6 (by decide) (by decide) (by decide) (by decide)]
        have x17 : ∀ j : Int, X 17 j = B 17 j := fun j => by rw [xq 17 (by decide) (by decide) (by decide) (by decide)]
        have x2 : X 2 5 = N 22 10 := by rw [xc 2 (by decide) (by decide) (by decide) (by decide) (by decide) (by decide) (by decide), s1]
        have n31 : ∀ p : Int, mo_lkN N t 31 p = mo_lk (mo_lbg N t) (mo_L N) t (N 22 10).toNat 31 p := fun p => rfl
        have n30 : ∀ j : Int, mo_lkN N t 30 j = if j = mo_L N then t else mo_lsh N 30 j := by
          intro j
          have e : mo_lkN N t 30 j = mo_lk (mo_lbg N t) (mo_L N) t (N 22 10).toNat 30 j := rfl
          rw [e, mo_lk_q _ _ _ _ (by decide)]
          rfl
        have n16 : mo_lkN N t 22 16 = mo_L N + 1 := rfl
        have n9 : mo_lkN N t 22 9 = N 22 9 + 1 := rfl
        have n8 : mo_lkN N t 22 8 = N 22 8 + mo_al N * mo_al N * mo_al N := rfl
        have c3 : ∀ j : Int, sp_mv X 3 j = B 3 j := x3
        have hal := sp_cube (sv_al_b p2)
        refine ⟨?_, ?_, ?_, ?_, ?_, ?_, ?_⟩
        · exact sv_P_cg x1 (xc 7 (by decide) (by decide) (by decide) (by decide) (by decide) (by decide) (by decide)) (xc 8 (by decide) (by decide) (by decide) (by decide) (by decide) (by decide) (by decide)) (mo_lkN_22 N t (by decide) (by decide) (by decide)) (mo_lkN_22 N t (by decide) (by decide) (by decide)) (mo_lkN_22 N t (by decide) (by decide) (by decide)) (mo_lkN_22 N t (by decide) (by decide) (by decide)) (mo_lkN_22 N t (by decide) (by decide) (by decide)) (mo_lkN_q N t (by decide)) (mo_lkN_q N t (by decide)) hP
        · have e10 : mo_lkN N t 22 10 = N 22 10 := mo_lkN_22 N t (by decide) (by decide) (by decide)
          refine ⟨by rw [e10]; exact x2, by rw [e10]; exact s2, fun k a b => ?_⟩
          rw [e10] at b
          obtain ⟨⟨y1, y2, y3, y4, y5⟩, z1, z2, z3, z4, z5⟩ := s3 k a b
          have f11 : sp_mv X 11 k = max (-2000) (min (N 25 k + N 28 k) 2000) := by
            have e : sp_mv X 11 k = if 0 ≤ k ∧ k < X 2 5 then max (-2000) (min (X 11 k + X 14 k) 2000) else X 11 k := rfl
            rw [e, if_pos (by omega), xc 11 (by decide) (by decide) (by decide) (by decide) (by decide) (by decide) (by decide), xc 14 (by decide) (by decide) (by decide) (by decide) (by decide) (by decide) (by decide), y1, y4]
          have f12 : sp_mv X 12 k = max 0 (min (N 26 k + N 29 k) 4000) := by
            have e : sp_mv X 12 k = if 0 ≤ k ∧ k < X 2 5 then max 0 (min (X 12 k + X 15 k) 4000) else X 12 k := rfl
            rw [e, if_pos (by omega), xc 12 (by decide) (by decide) (by decide) (by decide) (by decide) (by decide) (by decide), xc 15 (by decide) (by decide) (by decide) (by decide) (by decide) (by decide) (by decide), y2, y5]
          have g25 : mo_lkN N t 25 k = max (-2000) (min (N 25 k + N 28 k) 2000) := by
            have e : mo_lkN N t 25 k = if 0 ≤ k ∧ k < N 22 10 then max (-2000) (min (mo_lk (mo_lbg N t) (mo_L N) t (N 22 10).toNat 25 k + mo_lk (mo_lbg N t) (mo_L N) t (N 22 10).toNat 28 k) 2000) else mo_lk (mo_lbg N t) (mo_L N) t (N 22 10).toNat 25 k := rfl
            rw [e, if_pos ⟨a, b⟩, mo_lk_q _ _ _ _ (show 25 ≠ 31 by decide), mo_lk_q _ _ _ _ (show 28 ≠ 31 by decide), mo_lbg_q N t (by decide), mo_lbg_q N t (by decide)]
          have g26 : mo_lkN N t 26 k = max 0 (min (N 26 k + N 29 k) 4000) := by
            have e : mo_lkN N t 26 k = if 0 ≤ k ∧ k < N 22 10 then max 0 (min (mo_lk (mo_lbg N t) (mo_L N) t (N 22 10).toNat 26 k + mo_lk (mo_lbg N t) (mo_L N) t (N 22 10).toNat 29 k) 4000) else mo_lk (mo_lbg N t) (mo_L N) t (N 22 10).toNat 26 k := rfl
            rw [e, if_pos ⟨a, b⟩, mo_lk_q _ _ _ _ (show 26 ≠ 31 by decide), mo_lk_q _ _ _ _ (show 29 ≠ 31 by decide), mo_lbg_q N t (by decide), mo_lbg_q N t (by decide)]
          rw [f11, f12, g25, g26, mo_lkN_q N t (q := 27) (by decide), mo_lkN_q N t (q := 28) (by decide), mo_lkN_q N t (q := 29) (by decide)]
          have h13 : sp_mv X 13 k = C 13 k := by
            show X 13 k = C 13 k
            rw [xc 13 (by decide) (by decide) (by decide) (by decide) (by decide) (by decide) (by decide)]
          have h14 : sp_mv X 14 k = C 14 k := by
            show X 14 k = C 14 k
            rw [xc 14 (by decide) (by decide) (by decide) (by decide) (by decide) (by decide) (by decide)]
          have h15 : sp_mv X 15 k = C 15 k := by
            show X 15 k = C 15 k
            rw [xc 15 (by decide) (by decide) (by decide) (by decide) (by decide) (by decide) (by decide)]
          rw [h13, h14, h15, y3, y4, y5]
          exact ⟨⟨rfl, rfl, rfl, rfl, rfl⟩, by omega, by omega, z3, z4, z5⟩
        · refine ⟨?_, ?_, ?_, fun l a b => ?_, fun l i s a b a3 a4 a5 a6 => ?_, fun p => ?_, fun p => ?_⟩
          · rw [c3, b33, n16]
            exact eK
          · rw [c3]
            exact hBo
          · rw [n16]
            omega
          · rw [n16] at b
            have e0 : mo_lkN N t 22 0 = N 22 0 := mo_lkN_22 N t (by decide) (by decide) (by decide)
            rw [c3, e0, n30]
            have e17 : sp_mv X 17 ((B 3 2 + l) % 6) = B 17 ((B 3 2 + l) % 6) := x17 _
            rw [e17]
            by_cases hl : l = mo_L N
            · rw [if_pos hl, hl, h17B]
              exact ⟨rfl, hi⟩
            · have hne : (B 3 2 + l) % 6 ≠ sp_bgs C := by rw [← hslot]; omega
              rw [if_neg hl, b17, if_neg hne, mo_lsh_30, hB2]
              by_cases h6 : N 22 16 = 6
              · have hL5 : mo_L N = 5 := by unfold mo_L; rw [if_pos h6]
                rw [if_pos (show N 22 16 = 6 ∧ 0 ≤ l ∧ l < 5 from ⟨h6, a, by omega⟩), if_neg (show ¬ C 3 3 < 6 by omega)]
                have := l4 (l + 1) (by omega) (by omega)
                rw [show ((C 3 2 + 1) % 6 + l) % 6 = (C 3 2 + (l + 1)) % 6 by omega]
                exact this
              · have hLn : mo_L N = N 22 16 := by unfold mo_L; rw [if_neg h6]
                rw [if_neg (show ¬ (N 22 16 = 6 ∧ 0 ≤ l ∧ l < 5) from fun q => h6 q.1), if_pos (show C 3 3 < 6 by omega)]
                exact l4 l a (by omega)
          · rw [n16] at b
            rw [c3, n31]
            exact hH l i s a (by omega) a3 a4 a5 a6
          · exact (hbC p).1
          · rw [n31]
            exact (hbD p).1
        · obtain ⟨e1, e2, e3⟩ := hE
          refine ⟨?_, ?_, ?_⟩
          · rw [c3, b34, n9, e1]
          · rw [n9]; omega
          · rw [n9]; omega
        · have e19 : mo_lkN N t 22 19 = N 22 19 := mo_lkN_22 N t (by decide) (by decide) (by decide)
          have h4 : sp_mv X 4 = C 4 := by
            show X 4 = C 4
            exact xc 4 (by decide) (by decide) (by decide) (by decide) (by decide) (by decide) (by decide)
          have h18 : sp_mv X 18 = C 18 := by
            show X 18 = C 18
            exact xc 18 (by decide) (by decide) (by decide) (by decide) (by decide) (by decide) (by decide)
          have h19 : sp_mv X 19 = C 19 := by
            show X 19 = C 19
            exact xc 19 (by decide) (by decide) (by decide) (by decide) (by decide) (by decide) (by decide)
          have h20 : sp_mv X 20 = C 20 := by
            show X 20 = C 20
            exact xc 20 (by decide) (by decide) (by decide) (by decide) (by decide) (by decide) (by decide)
          unfold sv_G sp_wh sp_rw sp_rh at *
          rw [e19, h4, h18, h19, h20, mo_lkN_q N t (q := 32) (by decide), mo_lkN_q N t (q := 33) (by decide), mo_lkN_q N t (q := 34) (by decide)]
          exact hG
        · have h5 : sp_mv X 5 = C 5 := by
            show X 5 = C 5
            exact xc 5 (by decide) (by decide) (by decide) (by decide) (by decide) (by decide) (by decide)
          have h21 : sp_mv X 21 = C 21 := by
            show X 21 = C 21
            exact xc 21 (by decide) (by decide) (by decide) (by decide) (by decide) (by decide) (by decide)
          unfold sv_F sp_fb at *
          rw [h5, h21, mo_lkN_22 N t (j := 24) (by decide) (by decide) (by decide), mo_lkN_22 N t (j := 25) (by decide) (by decide) (by decide), mo_lkN_22 N t (j := 26) (by decide) (by decide) (by decide), mo_lkN_q N t (q := 36) (by decide)]
          exact hF
        · have h60 : sp_mv X 6 0 = N 22 8 + mo_al N * mo_al N * mo_al N := by
            show X 6 0 = _
            rw [x6, b60]
          have h61 : sp_mv X 6 1 = C 6 1 := by
            show X 6 1 = _
            rw [x6, b61]
          unfold sv_W
          rw [h60, h61, n8, mo_lkN_22 N t (j := 7) (by decide) (by decide) (by decide)]
          exact ⟨rfl, w2, by omega, w4⟩
    · rw [if_neg hd, if_neg hd, if_neg (fun q => hd q.2.1), if_neg (fun q => hd q.2.1)]
      exact ⟨rfl, hup⟩
  · rw [if_neg (by omega), if_neg hi, if_neg (fun q => hi ⟨q.1.1, q.1.2.1⟩), if_neg (fun q => hi q.1)]
    exact ⟨rfl, hup⟩
