/-! side by side: pictures, their differences, the fan -/
theorem mo_nx_34 (M : kb_M) (p : Int) : mo_nx M 34 p = if M 22 19 = 4 ∧ 0 ≤ p ∧ p < 768 then M 34 (p + 256) else M 34 p := by
  unfold mo_nx
  by_cases h : M 22 19 = 4
  · rw [if_pos h]
    show (if 0 ≤ p ∧ p < 1024 - 256 then M 34 (p + 256) else M 34 p) = _
    by_cases hj : 0 ≤ p ∧ p < 768
    · rw [if_pos (by omega), if_pos ⟨h, hj⟩]
    · rw [if_neg (by omega), if_neg (fun q => hj q.2)]
  · rw [if_neg h, if_neg (fun q => h q.1)]
    rfl
theorem mo_nx_32 (M : kb_M) (p : Int) : mo_nx M 32 p = if M 22 19 = 4 ∧ 0 ≤ p ∧ p < 3 then M 32 (p + 1) else M 32 p := by
  unfold mo_nx
  by_cases h : M 22 19 = 4
  · rw [if_pos h]
    show (if 0 ≤ p ∧ p < 4 - 1 then M 32 (p + 1) else M 32 p) = _
    by_cases hj : 0 ≤ p ∧ p < 3
    · rw [if_pos (by omega), if_pos ⟨h, hj⟩]
    · rw [if_neg (by omega), if_neg (fun q => hj q.2)]
  · rw [if_neg h, if_neg (fun q => h q.1)]
    rfl
theorem mo_nx_33 (M : kb_M) (p : Int) : mo_nx M 33 p = if M 22 19 = 4 ∧ 0 ≤ p ∧ p < 3 then M 33 (p + 1) else M 33 p := by
  unfold mo_nx
  by_cases h : M 22 19 = 4
  · rw [if_pos h]
    show (if 0 ≤ p ∧ p < 4 - 1 then M 33 (p + 1) else M 33 p) = _
    by_cases hj : 0 ≤ p ∧ p < 3
    · rw [if_pos (by omega), if_pos ⟨h, hj⟩]
    · rw [if_neg (by omega), if_neg (fun q => hj q.2)]
  · rw [if_neg h, if_neg (fun q => h q.1)]
    rfl
theorem sv_G_new {C N C' N' : kb_M} {w h : Int} (hG : sv_G C N) (hw : 1 ≤ w ∧ w ≤ 16) (hh : 1 ≤ h ∧ h ≤ 16)
    (c43 : C' 4 3 = if C 4 4 < 4 then C 4 3 else (C 4 3 + 1) % 4) (c44 : C' 4 4 = sp_rbr C)
    (c19 : ∀ t, C' 19 t = if t = sp_rbs C then w else C 19 t) (c20 : ∀ t, C' 20 t = if t = sp_rbs C then h else C 20 t)
    (c18 : ∀ k, ¬ (sp_rbs C * 256 ≤ k ∧ k < sp_rbs C * 256 + 256) → C' 18 k = C 18 k)
    (n19 : N' 22 19 = mo_P N + 1)
    (n32 : ∀ p, N' 32 p = if p = mo_P N then w else if N 22 19 = 4 ∧ 0 ≤ p ∧ p < 3 then N 32 (p + 1) else N 32 p)
    (n33 : ∀ p, N' 33 p = if p = mo_P N then h else if N 22 19 = 4 ∧ 0 ≤ p ∧ p < 3 then N 33 (p + 1) else N 33 p)
    (n34 : ∀ k, k < 256 * mo_P N → N' 34 k = if N 22 19 = 4 ∧ 0 ≤ k ∧ k < 768 then N 34 (k + 256) else N 34 k)
    (px : ∀ k, 0 ≤ k → k < w * h → C' 18 (sp_rbs C * 256 + k) = N' 34 (256 * mo_P N + k)) : sv_G C' N' := by
  obtain ⟨g1, g2, g3, g4, g5, g6⟩ := id hG
  have hpb := mo_P_b g3
  have hsb := sp_rbs_b g2
  have hslot : (C' 4 3 + mo_P N) % 4 = sp_rbs C := by
    rw [c43]
    unfold mo_P sp_rbs
    rw [g1]
    by_cases h4 : N 22 19 = 4
    · have h5 : ¬ N 22 19 < 4 := by omega
      simp only [if_neg h5, if_pos h4]
      omega
    · have h5 : N 22 19 < 4 := by omega
      simp only [if_pos h5, if_neg h4]
  have ho : 0 ≤ C' 4 3 ∧ C' 4 3 < 4 := by rw [c43]; split <;> omega
  have eK : sp_rbr C = mo_P N + 1 := by
    unfold sp_rbr mo_P
    rw [g1]
    by_cases h4 : N 22 19 = 4
    · have h5 : ¬ N 22 19 < 4 := by omega
      simp only [if_neg h5, if_pos h4, h4]
      rfl
    · have h5 : N 22 19 < 4 := by omega
      simp only [if_pos h5, if_neg h4]
  have hother : ∀ p, 0 ≤ p → p < mo_P N → ∃ p', (0 ≤ p' ∧ p' < N 22 19) ∧ (C' 4 3 + p) % 4 = (C 4 3 + p') % 4 ∧ (if N 22 19 = 4 ∧ 0 ≤ p ∧ p < 3 then p + 1 else p) = p' := by
    intro p a b
    rw [c43, g1]
    unfold mo_P at b
    by_cases h4 : N 22 19 = 4
    · rw [if_pos h4] at b
      refine ⟨p + 1, by omega, ?_, if_pos ⟨h4, by omega⟩⟩
      rw [if_neg (by omega)]
      omega
    · rw [if_neg h4] at b
      exact ⟨p, by omega, by rw [if_pos (by omega)], if_neg (fun q => h4 q.1)⟩
  refine ⟨by rw [c44, n19, eK], ho, by omega, fun p a b => ?_, fun p k a b a1 b1 => ?_, fun t => ?_⟩
  · rw [n19] at b
    rw [c19, c20, n32, n33]
    by_cases hp : p = mo_P N
    · rw [if_pos hp, if_pos hp, hp, if_pos hslot, if_pos hslot]
      exact ⟨rfl, rfl, hw, hh⟩
    · have hne : (C' 4 3 + p) % 4 ≠ sp_rbs C := by rw [← hslot]; omega
      rw [if_neg hp, if_neg hp, if_neg hne, if_neg hne]
      obtain ⟨p', q1, q2, q3⟩ := hother p a (by omega)
      rw [q2]
      have := g4 p' q1.1 q1.2
      by_cases h4 : N 22 19 = 4 ∧ 0 ≤ p ∧ p < 3
      · rw [if_pos h4] at q3
        rw [if_pos h4, if_pos h4, q3]
        exact this
      · rw [if_neg h4] at q3
        rw [if_neg h4, if_neg h4, q3]
        exact this
  · rw [n19] at b
    rw [n32, n33] at b1
    by_cases hp : p = mo_P N
    · rw [if_pos hp, if_pos hp] at b1
      rw [hp, hslot]
      exact px k a1 b1
    · have hne : (C' 4 3 + p) % 4 ≠ sp_rbs C := by rw [← hslot]; omega
      rw [if_neg hp, if_neg hp] at b1
      obtain ⟨p', q1, q2, q3⟩ := hother p a (by omega)
      have hg := g4 p' q1.1 q1.2
      have hm := sp_mulb (a := N 32 p') (b := N 33 p') (A := 16) (B := 16) (by omega) (by omega) (by omega) (by omega)
      have e : k < N 32 p' * N 33 p' := by
        by_cases h4 : N 22 19 = 4 ∧ 0 ≤ p ∧ p < 3
        · rw [if_pos h4] at q3
          rw [if_pos h4, if_pos h4, q3] at b1
          exact b1
        · rw [if_neg h4] at q3
          rw [if_neg h4, if_neg h4, q3] at b1
          exact b1
      have hg5 := g5 p' k q1.1 q1.2 a1 e
      rw [c18 _ (by omega), n34 _ (by omega), q2, hg5]
      by_cases h4 : N 22 19 = 4 ∧ 0 ≤ p ∧ p < 3
      · rw [if_pos h4] at q3
        rw [if_pos (by omega)]
        congr 1
        omega
      · rw [if_neg h4] at q3
        rw [if_neg (by omega), q3]
  · have hq := g6 t
    unfold sp_rw sp_rh at hq ⊢
    rw [c19, c20]
    by_cases ht : t = sp_rbs C
    · rw [if_pos ht, if_pos ht]
      split <;> omega
    · rw [if_neg ht, if_neg ht]
      exact hq
/-- what a picture touches -/
theorem sp_pc_18 (B : kb_M) (b x0 z0 sx sz w sl : Int) (n : Nat) : ∀ p : Int, ¬ (sl * 256 ≤ p ∧ p < sl * 256 + n) → sp_pc B b x0 z0 sx sz w sl n 18 p = B 18 p := by
  induction n with
  | zero => intro p _; rfl
  | succ n ih =>
    intro p hp
    have h1 := ih p (by omega)
    show (if p = sl * 256 + (n : Int) then _ else sp_jmM (sp_pc B b x0 z0 sx sz w sl n) _ _ 18 p) = _
    rw [if_neg (by omega), sp_jmM_q _ _ _ (by decide), h1]
theorem mo_pc_34 (B : kb_M) (b x0 z0 sx sz w p : Int) (n : Nat) : ∀ k : Int, ¬ (256 * p ≤ k ∧ k < 256 * p + n) → mo_pc B b x0 z0 sx sz w p n 34 k = B 34 k := by
  induction n with
  | zero => intro k _; rfl
  | succ n ih =>
    intro k hk
    have h1 := ih k (by omega)
    show (if k = 256 * p + (n : Int) then _ else mo_pc B b x0 z0 sx sz w p n 34 k) = _
    rw [if_neg (by omega), h1]
theorem sv_pcs {C D : kb_M} (b x0 z0 sx sz w sl p : Int) (hP : sv_P C D) (hL : sv_L C D) : ∀ n : Nat, sv_P (sp_pc C b x0 z0 sx sz w sl n) (mo_pc D b x0 z0 sx sz w p n) ∧ sv_L (sp_pc C b x0 z0 sx sz w sl n) (mo_pc D b x0 z0 sx sz w p n) := by
  intro n
  have d22 : mo_pc D b x0 z0 sx sz w p n 22 = D 22 := mo_pc_q D b x0 z0 sx sz w p n (by decide)
  refine ⟨sv_P_cg (fun j hj => sp_pc_1 C b x0 z0 sx sz w sl n hj) (sp_pc_q C b x0 z0 sx sz w sl n (by decide)) (sp_pc_q C b x0 z0 sx sz w sl n (by decide)) (by rw [d22]) (by rw [d22]) (by rw [d22]) (by rw [d22]) (by rw [d22]) (mo_pc_q D b x0 z0 sx sz w p n (by decide)) (mo_pc_q D b x0 z0 sx sz w p n (by decide)) hP, ?_⟩
  unfold sv_L at *
  rw [sp_pc_q C b x0 z0 sx sz w sl n (q := 3) (by decide), sp_pc_q C b x0 z0 sx sz w sl n (q := 16) (by decide), sp_pc_q C b x0 z0 sx sz w sl n (q := 17) (by decide), d22, mo_pc_q D b x0 z0 sx sz w p n (q := 30) (by decide), mo_pc_q D b x0 z0 sx sz w p n (q := 31) (by decide)]
  exact hL
theorem sv_pcp {C D : kb_M} (b x0 z0 sx sz w sl p : Int) (hP : sv_P C D) (hL : sv_L C D) : ∀ n : Nat, ∀ k : Int, 0 ≤ k → k < n → sp_pc C b x0 z0 sx sz w sl n 18 (sl * 256 + k) = mo_pc D b x0 z0 sx sz w p n 34 (256 * p + k) := by
  intro n
  induction n with
  | zero => intro k a b; omega
  | succ n ih =>
    intro k a b1
    obtain ⟨q1, q2⟩ := sv_pcs b x0 z0 sx sz w sl p hP hL n
    show (if sl * 256 + k = sl * 256 + (n : Int) then sp_jm (sp_pc C b x0 z0 sx sz w sl n) b (x0 + ((n : Int) % w) * sx) (z0 + ((n : Int) / w) * sz) else sp_jmM (sp_pc C b x0 z0 sx sz w sl n) _ _ 18 (sl * 256 + k)) = (if 256 * p + k = 256 * p + (n : Int) then mo_jp (mo_pc D b x0 z0 sx sz w p n) b (x0 + ((n : Int) % w) * sx) (z0 + ((n : Int) / w) * sz) else mo_pc D b x0 z0 sx sz w p n 34 (256 * p + k))
    by_cases hk : k = n
    · rw [if_pos (by omega), if_pos (by omega)]
      exact sv_jm q1 q2 _ _ _
    · rw [if_neg (by omega), if_neg (by omega), sp_jmM_q _ _ _ (by decide)]
      exact ih k a (by omega)
theorem sp_rbn_q (C : kb_M) (w h : Int) {q : Nat} (h1 : q ≠ 4 ∧ q ≠ 19 ∧ q ≠ 20) : sp_rbn C w h q = C q := by
  unfold sp_rbn sp_rb1 kb_wr
  simp [h1.1, h1.2.1, h1.2.2]
theorem sm_picture {m : Int} {C N : kb_M} (b x z sx sz w h : Int) (hR : sv_R m C N) : sp_picR C b x z sx sz w h = mo_picR N b x z sx sz w h ∧ sv_R m (sp_picM C b x z sx sz w h) (mo_picM N b x z sx sz w h) := by
  obtain ⟨hP, hS, hL, hE, hG, hF, hW⟩ := id hR
  unfold sp_picR mo_picR sp_picM mo_picM
  have ha := sv_al hL b
  by_cases hc : (0 < b ∧ b < 2 ^ (N 22 16).toNat) ∧ ((-2000 ≤ x ∧ x ≤ 2000) ∧ 0 ≤ z ∧ z ≤ 4000) ∧ (1 ≤ sx ∧ sx ≤ 500) ∧ (1 ≤ sz ∧ sz ≤ 500) ∧ (1 ≤ w ∧ w ≤ 16) ∧ 1 ≤ h ∧ h ≤ 16
  · have hc2 : (0 < b ∧ b / 2 ^ (C 3 3).toNat = 0) ∧ ((-2000 ≤ x ∧ x ≤ 2000) ∧ 0 ≤ z ∧ z ≤ 4000) ∧ (1 ≤ sx ∧ sx ≤ 500) ∧ (1 ≤ sz ∧ sz ≤ 500) ∧ (1 ≤ w ∧ w ≤ 16) ∧ 1 ≤ h ∧ h ≤ 16 := ⟨ha.mpr hc.1, hc.2⟩
    rw [if_pos hc, if_pos hc, if_pos hc2, if_pos hc2]
    have hw : 1 ≤ w ∧ w ≤ 16 := hc.2.2.2.2.1
    have hh : 1 ≤ h ∧ h ≤ 16 := hc.2.2.2.2.2
    have hm := sp_mulb (a := w) (b := h) (A := 16) (B := 16) (by omega) (by omega) (by omega) (by omega)
    have hPB : sv_P (sp_rbn C w h) (mo_B0 N w h) := sv_P_cg (fun j hj => by rw [sp_rbn_q C w h (by decide)]) (sp_rbn_q C w h (by decide)) (sp_rbn_q C w h (by decide)) (mo_nx_22 N (by decide)) (mo_nx_22 N (by decide)) (mo_nx_22 N (by decide)) (mo_nx_22 N (by decide)) (mo_nx_22 N (by decide)) (mo_nx_q N (by decide)) (mo_nx_q N (by decide)) hP
    have hLB : sv_L (sp_rbn C w h) (mo_B0 N w h) := by
      unfold sv_L at *
      rw [sp_rbn_q C w h (q := 3) (by decide), sp_rbn_q C w h (q := 16) (by decide), sp_rbn_q C w h (q := 17) (by decide), show mo_B0 N w h 22 16 = N 22 16 from mo_nx_22 N (by decide), show mo_B0 N w h 22 0 = N 22 0 from mo_nx_22 N (by decide), show mo_B0 N w h 30 = N 30 from mo_nx_q N (by decide), show mo_B0 N w h 31 = N 31 from mo_nx_q N (by decide)]
      exact hL
    have hpp := sv_pcp b x z sx sz w (sp_rbs C) (mo_P N) hPB hLB (w * h).toNat
    have h18 := sp_pc_18 (sp_rbn C w h) b x z sx sz w (sp_rbs C) (w * h).toNat
    have h34 := mo_pc_34 (mo_B0 N w h) b x z sx sz w (mo_P N) (w * h).toNat
    obtain ⟨hP2, hL2⟩ := sv_pcs b x z sx sz w (sp_rbs C) (mo_P N) hPB hLB (w * h).toNat
    have n22 : ∀ j : Int, j ≠ 19 → mo_pc (mo_B0 N w h) b x z sx sz w (mo_P N) (w * h).toNat 22 j = N 22 j := fun j hj => mo_pcB_22 N b x z sx sz w h (mo_P N) _ hj
    have nq : ∀ q : Nat, q ≠ 22 ∧ q ≠ 32 ∧ q ≠ 33 ∧ q ≠ 34 → mo_pc (mo_B0 N w h) b x z sx sz w (mo_P N) (w * h).toNat q = N q := fun q hq => mo_pcB_q N b x z sx sz w h (mo_P N) _ hq
    have n19 := mo_pcB_sz N b x z sx sz w h (mo_P N) (w * h).toNat
    have n32 : mo_pc (mo_B0 N w h) b x z sx sz w (mo_P N) (w * h).toNat 32 = mo_B0 N w h 32 := mo_pc_q _ _ _ _ _ _ _ _ _ (by decide)
    have n33 : mo_pc (mo_B0 N w h) b x z sx sz w (mo_P N) (w * h).toNat 33 = mo_B0 N w h 33 := mo_pc_q _ _ _ _ _ _ _ _ _ (by decide)
    have cq : ∀ q : Nat, q ≠ 1 → q ≠ 9 → q ≠ 10 → q ≠ 18 → q ≠ 4 → q ≠ 19 → q ≠ 20 → sp_pc (sp_rbn C w h) b x z sx sz w (sp_rbs C) (w * h).toNat q = C q := by
      intro q a1 a2 a3 a4 a5 a6 a7
      rw [sp_pc_q _ _ _ _ _ _ _ _ _ ⟨a1, a2, a3, a4⟩, sp_rbn_q C w h ⟨a5, a6, a7⟩]
    have c4 : sp_pc (sp_rbn C w h) b x z sx sz w (sp_rbs C) (w * h).toNat 4 = sp_rbn C w h 4 := sp_pc_q _ _ _ _ _ _ _ _ _ (by decide)
    have c19 : sp_pc (sp_rbn C w h) b x z sx sz w (sp_rbs C) (w * h).toNat 19 = sp_rbn C w h 19 := sp_pc_q _ _ _ _ _ _ _ _ _ (by decide)
    have c20 : sp_pc (sp_rbn C w h) b x z sx sz w (sp_rbs C) (w * h).toNat 20 = sp_rbn C w h 20 := sp_pc_q _ _ _ _ _ _ _ _ _ (by decide)
    generalize sp_pc (sp_rbn C w h) b x z sx sz w (sp_rbs C) (w * h).toNat = X at *
    generalize mo_pc (mo_B0 N w h) b x z sx sz w (mo_P N) (w * h).toNat = Y at *
    have hG2 : sv_G X Y := sv_G_new hG hw hh (by rw [c4]; rfl) (by rw [c4]; rfl) (fun t => by rw [c19]; rfl) (fun t => by rw [c20]; rfl) (fun k hk => by rw [h18 k (by omega), sp_rbn_q C w h (by decide)]) n19
      (fun p => by
        rw [n32, ← mo_nx_32]
        rfl)
      (fun p => by
        rw [n33, ← mo_nx_33]
        rfl)
      (fun k hk => by
        rw [h34 k (by omega), ← mo_nx_34]
        rfl)
      (fun k a b1 => hpp k a (by omega))
    refine ⟨?_, hP2, ?_, hL2, ?_, hG2, ?_, ?_⟩
    · have := hG2.1
      rw [n19, c4] at this
      exact this
    · unfold sv_S at *
      rw [cq 2 (by decide) (by decide) (by decide) (by decide) (by decide) (by decide) (by decide), cq 11 (by decide) (by decide) (by decide) (by decide) (by decide) (by decide) (by decide), cq 12 (by decide) (by decide) (by decide) (by decide) (by decide) (by decide) (by decide), cq 13 (by decide) (by decide) (by decide) (by decide) (by decide) (by decide) (by decide), cq 14 (by decide) (by decide) (by decide) (by decide) (by decide) (by decide) (by decide), cq 15 (by decide) (by decide) (by decide) (by decide) (by decide) (by decide) (by decide), n22 10 (by decide), nq 25 (by decide), nq 26 (by decide), nq 27 (by decide), nq 28 (by decide), nq 29 (by decide)]
      exact hS
    · unfold sv_E at *
      rw [cq 3 (by decide) (by decide) (by decide) (by decide) (by decide) (by decide) (by decide), n22 9 (by decide)]
      exact hE
    · unfold sv_F sp_fb at *
      rw [cq 5 (by decide) (by decide) (by decide) (by decide) (by decide) (by decide) (by decide), cq 21 (by decide) (by decide) (by decide) (by decide) (by decide) (by decide) (by decide), n22 24 (by decide), n22 25 (by decide), n22 26 (by decide), nq 36 (by decide)]
      exact hF
    · unfold sv_W at *
      rw [cq 6 (by decide) (by decide) (by decide) (by decide) (by decide) (by decide) (by decide), n22 8 (by decide), n22 7 (by decide)]
      exact hW
  · have hc2 : ¬ ((0 < b ∧ b / 2 ^ (C 3 3).toNat = 0) ∧ ((-2000 ≤ x ∧ x ≤ 2000) ∧ 0 ≤ z ∧ z ≤ 4000) ∧ (1 ≤ sx ∧ sx ≤ 500) ∧ (1 ≤ sz ∧ sz ≤ 500) ∧ (1 ≤ w ∧ w ≤ 16) ∧ 1 ≤ h ∧ h ≤ 16) := fun q => hc ⟨ha.mp q.1, q.2⟩
    rw [if_neg hc, if_neg hc, if_neg hc2, if_neg hc2]
    exact ⟨rfl, hR⟩
/-- differences -/
theorem sp_df_18 {B : kb_M} {t o n0 : Int} (ht : 0 ≤ t ∧ t < 4) (ho : 0 ≤ o ∧ o < 4) (h0 : 0 ≤ n0 ∧ n0 < 4) : ∀ n : Nat, n ≤ 256 → ∀ p : Int, sp_df B t o n0 n 18 p = if n0 * 256 ≤ p ∧ p < n0 * 256 + n then sp_nm (sp_px B t (p - n0 * 256) - sp_px B o (p - n0 * 256)) else B 18 p := by
  intro n
  induction n with
  | zero =>
    intro _ p
    rw [if_neg (by omega)]
    rfl
  | succ n ih =>
    intro hn p
    have ih := ih (by omega)
    have e : ∀ s : Int, 0 ≤ s → s < 4 → sp_px (sp_df B t o n0 n) s n = sp_px B s n := by
      intro s a b
      unfold sp_px
      rw [if_pos (by omega), if_pos (by omega), ih, if_neg (by omega)]
    show (if p = n0 * 256 + (n : Int) then sp_nm (sp_px (sp_df B t o n0 n) t n - sp_px (sp_df B t o n0 n) o n) else sp_df B t o n0 n 18 p) = _
    rw [e t ht.1 ht.2, e o ho.1 ho.2, ih]
    by_cases hp : p = n0 * 256 + (n : Int)
    · rw [if_pos hp, if_pos (by omega), show p - n0 * 256 = n by omega]
    · rw [if_neg hp]
      by_cases h1 : n0 * 256 ≤ p ∧ p < n0 * 256 + (n : Int)
      · rw [if_pos h1, if_pos (by omega)]
      · rw [if_neg h1, if_neg (by omega)]
theorem sm_differ {m : Int} {C N : kb_M} (p q : Int) (hR : sv_R m C N) : sp_difR C p q = mo_difR N p q ∧ sv_R m (sp_difM C p q) (mo_difM N p q) := by
  obtain ⟨hP, hS, hL, hE, hG, hF, hW⟩ := id hR
  have hg1 := hG.1
  have hg2 := hG.2.1
  unfold sp_difR mo_difR sp_difM mo_difM
  rw [hg1]
  by_cases hc : (0 ≤ p ∧ p < N 22 19) ∧ 0 ≤ q ∧ q < N 22 19
  · rw [show sp_rw C (sp_rs C p) = N 32 p from sv_rw hG hc.1, show sp_rw C (sp_rs C q) = N 32 q from sv_rw hG hc.2, show sp_rh C (sp_rs C p) = N 33 p from sv_rh hG hc.1, show sp_rh C (sp_rs C q) = N 33 q from sv_rh hG hc.2]
    rw [if_pos hc, if_pos hc]
    by_cases he : N 32 p = N 32 q ∧ N 33 p = N 33 q
    · rw [if_pos he, if_pos he, if_pos ⟨hc, he⟩, if_pos ⟨hc, he⟩]
      obtain ⟨g1, g2, g3, g4, g5, g6⟩ := id hG
      obtain ⟨-, -, hw, hh⟩ := g4 p hc.1.1 hc.1.2
      have hm := sp_mulb (a := N 32 p) (b := N 33 p) (A := 16) (B := 16) (by omega) (by omega) (by omega) (by omega)
      have hs1 : 0 ≤ sp_rs C p ∧ sp_rs C p < 4 := by unfold sp_rs; omega
      have hs2 : 0 ≤ sp_rs C q ∧ sp_rs C q < 4 := by unfold sp_rs; omega
      have hsb := sp_rbs_b g2
      have hpb := mo_P_b g3
      have h18 := sp_df_18 (B := sp_rbn C (N 32 p) (N 33 p)) hs1 hs2 hsb (N 32 p * N 33 p).toNat (by omega)
      have e18 : ∀ s k : Int, sp_px (sp_rbn C (N 32 p) (N 33 p)) s k = sp_px C s k := by
        intro s k
        unfold sp_px
        rw [sp_rbn_q C _ _ (by decide)]
      have cq : ∀ c : Nat, c ≠ 18 → c ≠ 4 → c ≠ 19 → c ≠ 20 → sp_df (sp_rbn C (N 32 p) (N 33 p)) (sp_rs C p) (sp_rs C q) (sp_rbs C) (N 32 p * N 33 p).toNat c = C c := by
        intro c a1 a2 a3 a4
        rw [sp_df_q _ _ _ _ _ a1, sp_rbn_q C _ _ ⟨a2, a3, a4⟩]
      have c4 := sp_df_q (sp_rbn C (N 32 p) (N 33 p)) (sp_rs C p) (sp_rs C q) (sp_rbs C) (N 32 p * N 33 p).toNat (q := 4) (by decide)
      have c19 := sp_df_q (sp_rbn C (N 32 p) (N 33 p)) (sp_rs C p) (sp_rs C q) (sp_rbs C) (N 32 p * N 33 p).toNat (q := 19) (by decide)
      have c20 := sp_df_q (sp_rbn C (N 32 p) (N 33 p)) (sp_rs C p) (sp_rs C q) (sp_rbs C) (N 32 p * N 33 p).toNat (q := 20) (by decide)
      have d22 : mo_D0 N p q 22 19 = N 22 19 := rfl
      have dP : mo_P (mo_D0 N p q) = mo_P N := rfl
      have nq : ∀ c : Nat, c ≠ 22 → c ≠ 32 → c ≠ 33 → c ≠ 34 → c ≠ 35 → mo_cp (kb_wr (kb_wr (mo_nx (mo_D0 N p q)) 32 (mo_P N) (N 32 p)) 33 (mo_P N) (N 33 p)) (mo_P N) (N 32 p * N 33 p) c = N c := by
        intro c a1 a2 a3 a4 a5
        have e1 : mo_cp (kb_wr (kb_wr (mo_nx (mo_D0 N p q)) 32 (mo_P N) (N 32 p)) 33 (mo_P N) (N 33 p)) (mo_P N) (N 32 p * N 33 p) c = kb_wr (kb_wr (mo_nx (mo_D0 N p q)) 32 (mo_P N) (N 32 p)) 33 (mo_P N) (N 33 p) c := by
          unfold mo_cp
          rw [if_neg a4]
        rw [e1, kb_wr_other _ _ _ a3, kb_wr_other _ _ _ a2, mo_nx_q _ ⟨a1, a2, a3, a4⟩]
        unfold mo_D0 mo_md
        rw [if_neg a5]
      have n22 : ∀ j : Int, j ≠ 19 → mo_cp (kb_wr (kb_wr (mo_nx (mo_D0 N p q)) 32 (mo_P N) (N 32 p)) 33 (mo_P N) (N 33 p)) (mo_P N) (N 32 p * N 33 p) 22 j = N 22 j := by
        intro j hj
        exact mo_nx_22 (mo_D0 N p q) hj
      have n19 : mo_cp (kb_wr (kb_wr (mo_nx (mo_D0 N p q)) 32 (mo_P N) (N 32 p)) 33 (mo_P N) (N 33 p)) (mo_P N) (N 32 p * N 33 p) 22 19 = mo_P N + 1 := mo_nx_19 (mo_D0 N p q)
      have n32 : ∀ k, mo_cp (kb_wr (kb_wr (mo_nx (mo_D0 N p q)) 32 (mo_P N) (N 32 p)) 33 (mo_P N) (N 33 p)) (mo_P N) (N 32 p * N 33 p) 32 k = if k = mo_P N then N 32 p else mo_nx (mo_D0 N p q) 32 k := fun k => rfl
      have n33 : ∀ k, mo_cp (kb_wr (kb_wr (mo_nx (mo_D0 N p q)) 32 (mo_P N) (N 32 p)) 33 (mo_P N) (N 33 p)) (mo_P N) (N 32 p * N 33 p) 33 k = if k = mo_P N then N 33 p else mo_nx (mo_D0 N p q) 33 k := fun k => rfl
      have n35 : ∀ k, mo_nx (mo_D0 N p q) 35 k = if 0 ≤ k ∧ k < N 32 p * N 33 p then sp_nm (N 34 (256 * p + k) - N 34 (256 * q + k)) else N 35 k := by
        intro k
        rw [mo_nx_q _ (by decide)]
        rfl
      have n34 : ∀ k, mo_cp (kb_wr (kb_wr (mo_nx (mo_D0 N p q)) 32 (mo_P N) (N 32 p)) 33 (mo_P N) (N 33 p)) (mo_P N) (N 32 p * N 33 p) 34 k = if 256 * mo_P N ≤ k ∧ k < 256 * mo_P N + N 32 p * N 33 p then mo_nx (mo_D0 N p q) 35 (k - 256 * mo_P N) else mo_nx (mo_D0 N p q) 34 k := fun k => rfl
      generalize sp_df (sp_rbn C (N 32 p) (N 33 p)) (sp_rs C p) (sp_rs C q) (sp_rbs C) (N 32 p * N 33 p).toNat = X at *
      generalize mo_cp (kb_wr (kb_wr (mo_nx (mo_D0 N p q)) 32 (mo_P N) (N 32 p)) 33 (mo_P N) (N 33 p)) (mo_P N) (N 32 p * N 33 p) = Y at *
      have hG2 : sv_G X Y := sv_G_new hG hw hh (by rw [c4]; rfl) (by rw [c4]; rfl) (fun t => by rw [c19]; rfl) (fun t => by rw [c20]; rfl) (fun k hk => by rw [h18 k, if_neg (by omega), sp_rbn_q C _ _ (by decide)]) n19
        (fun k => by rw [n32, mo_nx_32]; rfl)
        (fun k => by rw [n33, mo_nx_33]; rfl)
        (fun k hk => by rw [n34, if_neg (by omega), mo_nx_34]; rfl)
        (fun k a b1 => by
          rw [h18, if_pos (by omega), n34, if_pos (by omega), n35, if_pos (by omega), e18, e18, show sp_rbs C * 256 + k - sp_rbs C * 256 = k by omega, show 256 * mo_P N + k - 256 * mo_P N = k by omega]
          rw [show sp_px C (sp_rs C p) k = N 34 (256 * p + k) from sv_px hG hc.1 ⟨a, b1⟩, show sp_px C (sp_rs C q) k = N 34 (256 * q + k) from sv_px hG hc.2 ⟨a, by rw [← he.1, ← he.2]; exact b1⟩])
      refine ⟨?_, sv_P_cg (fun j hj => by rw [cq 1 (by decide) (by decide) (by decide) (by decide)]) (cq 7 (by decide) (by decide) (by decide) (by decide)) (cq 8 (by decide) (by decide) (by decide) (by decide)) (n22 0 (by decide)) (n22 3 (by decide)) (n22 4 (by decide)) (n22 5 (by decide)) (n22 6 (by decide)) (nq 23 (by decide) (by decide) (by decide) (by decide) (by decide)) (nq 24 (by decide) (by decide) (by decide) (by decide) (by decide)) hP, ?_, ?_, ?_, hG2, ?_, ?_⟩
      · have := hG2.1
        rw [n19, c4] at this
        exact this
      · unfold sv_S at *
        rw [cq 2 (by decide) (by decide) (by decide) (by decide), cq 11 (by decide) (by decide) (by decide) (by decide), cq 12 (by decide) (by decide) (by decide) (by decide), cq 13 (by decide) (by decide) (by decide) (by decide), cq 14 (by decide) (by decide) (by decide) (by decide), cq 15 (by decide) (by decide) (by decide) (by decide), n22 10 (by decide), nq 25 (by decide) (by decide) (by decide) (by decide) (by decide), nq 26 (by decide) (by decide) (by decide) (by decide) (by decide), nq 27 (by decide) (by decide) (by decide) (by decide) (by decide), nq 28 (by decide) (by decide) (by decide) (by decide) (by decide), nq 29 (by decide) (by decide) (by decide) (by decide) (by decide)]
        exact hS
      · unfold sv_L at *
        rw [cq 3 (by decide) (by decide) (by decide) (by decide), cq 16 (by decide) (by decide) (by decide) (by decide), cq 17 (by decide) (by decide) (by decide) (by decide), n22 16 (by decide), n22 0 (by decide), nq 30 (by decide) (by decide) (by decide) (by decide) (by decide), nq 31 (by decide) (by decide) (by decide) (by decide) (by decide)]
        exact hL
      · unfold sv_E at *
        rw [cq 3 (by decide) (by decide) (by decide) (by decide), n22 9 (by decide)]
        exact hE
      · unfold sv_F sp_fb at *
        rw [cq 5 (by decide) (by decide) (by decide) (by decide), cq 21 (by decide) (by decide) (by decide) (by decide), n22 24 (by decide), n22 25 (by decide), n22 26 (by decide), nq 36 (by decide) (by decide) (by decide) (by decide) (by decide)]
        exact hF
      · unfold sv_W at *
        rw [cq 6 (by decide) (by decide) (by decide) (by decide), n22 8 (by decide), n22 7 (by decide)]
        exact hW
    · rw [if_neg he, if_neg he, if_neg (fun r => he r.2), if_neg (fun r => he r.2)]
      exact ⟨rfl, hR⟩
  · rw [if_neg hc, if_neg hc, if_neg (fun r => hc r.1), if_neg (fun r => hc r.1)]
    exact ⟨rfl, hR⟩
/-- the fan -/
theorem sv_fns {C D : kb_M} (lk n m r : Int) (hP : sv_P C D) (hL : sv_L C D) : ∀ j : Nat, sv_P (sp_fn C lk m r j) (mo_fn D lk n m r j) ∧ sv_L (sp_fn C lk m r j) (mo_fn D lk n m r j) := by
  intro j
  have d22 : mo_fn D lk n m r j 22 = D 22 := mo_fn_q D lk n m r j (by decide)
  refine ⟨sv_P_cg (fun k hk => sp_fn_1 C lk m r j hk) (sp_fn_q C lk m r j (by decide)) (sp_fn_q C lk m r j (by decide)) (by rw [d22]) (by rw [d22]) (by rw [d22]) (by rw [d22]) (by rw [d22]) (mo_fn_q D lk n m r j (by decide)) (mo_fn_q D lk n m r j (by decide)) hP, ?_⟩
  unfold sv_L at *
  rw [sp_fn_q C lk m r j (q := 3) (by decide), sp_fn_q C lk m r j (q := 16) (by decide), sp_fn_q C lk m r j (q := 17) (by decide), d22, mo_fn_q D lk n m r j (q := 30) (by decide), mo_fn_q D lk n m r j (q := 31) (by decide)]
  exact hL
theorem sv_fnv {C D : kb_M} {lk n m r : Int} (hP : sv_P C D) (hL : sv_L C D) (c1 : C 5 1 = n) (c3 : C 5 3 = r) (hm : 1 ≤ m ∧ m ≤ 16) (hbC : ∀ j : Int, -2000 ≤ C 21 j ∧ C 21 j ≤ 2000) (hbD : ∀ j : Int, -2000 ≤ D 36 j ∧ D 36 j ≤ 2000) : ∀ j : Nat, (∀ a k : Int, 0 ≤ a → 0 ≤ k → k < m → m * a + k < j → sp_fn C lk m r j 21 (a * 16 + k) = mo_fn D lk n m r j 36 (16 * a + k)) ∧ (∀ p : Int, -2000 ≤ sp_fn C lk m r j 21 p ∧ sp_fn C lk m r j 21 p ≤ 2000) ∧ ∀ p : Int, -2000 ≤ mo_fn D lk n m r j 36 p ∧ mo_fn D lk n m r j 36 p ≤ 2000 := by
  intro j
  induction j with
  | zero =>
    refine ⟨fun a k h1 h2 h3 h4 => ?_, hbC, hbD⟩
    have := Int.mul_nonneg (a := m) (b := a) (by omega) h1
    omega
  | succ j ih =>
    obtain ⟨i1, i2, i3⟩ := ih
    obtain ⟨q1, q2⟩ := sv_fns lk n m r hP hL j
    have hmod := Int.emod_nonneg (j : Int) (show m ≠ 0 by omega)
    have hmlt := Int.emod_lt_of_pos (j : Int) (show 0 < m by omega)
    have hdiv : m * ((j : Int) / m) + (j : Int) % m = j := Int.mul_ediv_add_emod _ _
    have hxo : sp_xo (sp_fn C lk m r j) ((j : Int) / m) ((j : Int) % m) = mo_xo n r ((j : Int) / m) ((j : Int) % m) := by
      unfold sp_xo mo_xo
      rw [sp_fn_q C lk m r j (q := 5) (by decide), c1, c3]
    have hv := sv_jm q1 q2 (2 ^ lk.toNat) (mo_xo n r ((j : Int) / m) ((j : Int) % m)) ((j : Int) % m * r)
    have hvb := mo_jp_b (sv_mIP q1) (sv_mIL q2).2.1 (2 ^ lk.toNat) (mo_xo n r ((j : Int) / m) ((j : Int) % m)) ((j : Int) % m * r)
    have eC : ∀ p : Int, sp_fn C lk m r (j + 1) 21 p = if p = (j : Int) / m * 16 + (j : Int) % m then mo_jp (mo_fn D lk n m r j) (2 ^ lk.toNat) (mo_xo n r ((j : Int) / m) ((j : Int) % m)) ((j : Int) % m * r) else sp_fn C lk m r j 21 p := by
      intro p
      show (if p = (j : Int) / m * 16 + (j : Int) % m then sp_jm (sp_fn C lk m r j) (2 ^ lk.toNat) (sp_xo (sp_fn C lk m r j) ((j : Int) / m) ((j : Int) % m)) ((j : Int) % m * r) else sp_jmM (sp_fn C lk m r j) _ _ 21 p) = _
      rw [hxo, hv, sp_jmM_q _ _ _ (by decide)]
    have eD : ∀ p : Int, mo_fn D lk n m r (j + 1) 36 p = if p = 16 * ((j : Int) / m) + (j : Int) % m then mo_jp (mo_fn D lk n m r j) (2 ^ lk.toNat) (mo_xo n r ((j : Int) / m) ((j : Int) % m)) ((j : Int) % m * r) else mo_fn D lk n m r j 36 p := fun p => rfl
    refine ⟨fun a k h1 h2 h3 h4 => ?_, fun p => ?_, fun p => ?_⟩
    · rw [eC, eD]
      by_cases he : a = (j : Int) / m ∧ k = (j : Int) % m
      · rw [if_pos (by omega), if_pos (by omega)]
      · rw [if_neg (by omega), if_neg (by omega)]
        refine i1 a k h1 h2 h3 ?_
        rcases Int.lt_or_le (m * a + k) (j : Int) with h5 | h5
        · exact h5
        · exfalso
          have h6 : m * a + k = (j : Int) := by omega
          apply he
          rw [← h6, Int.add_comm]
          refine ⟨?_, ?_⟩
          · rw [Int.add_mul_ediv_left _ _ (by omega), Int.ediv_eq_zero_of_lt h2 h3, Int.zero_add]
          · rw [Int.add_mul_emod_self_left, Int.emod_eq_of_lt h2 h3]
    · rw [eC]
      have := i2 p
      split <;> omega
    · rw [eD]
      have := i3 p
      split <;> omega
theorem sm_fan {m : Int} {C N : kb_M} (lk n k r : Int) (hR : sv_R m C N) : sp_fanR C lk n k r = mo_fanR N lk n k r ∧ sv_R m (sp_fanM C lk n k r) (mo_fanM N lk n k r) := by
  obtain ⟨hP, hS, hL, hE, hG, hF, hW⟩ := id hR
  unfold sp_fanR mo_fanR sp_fanM mo_fanM
  rw [hL.1]
  refine ⟨rfl, ?_⟩
  by_cases hc : (0 ≤ lk ∧ lk < N 22 16) ∧ (2 ≤ n ∧ n ≤ 9) ∧ (2 ≤ k ∧ k ≤ 16) ∧ 1 ≤ r ∧ r ≤ 250
  · rw [if_pos hc, if_pos hc]
    have f5 : ∀ q : Nat, q ≠ 5 → sp_fb0 C n k r q = C q := by
      intro q hq
      unfold sp_fb0
      rw [kb_wr_other _ _ _ hq, kb_wr_other _ _ _ hq, kb_wr_other _ _ _ hq]
    have g22 : ∀ q : Nat, q ≠ 22 → mo_fb0 N n k r q = N q := by
      intro q hq
      unfold mo_fb0
      rw [kb_wr_other _ _ _ hq, kb_wr_other _ _ _ hq, kb_wr_other _ _ _ hq]
    have g22' : ∀ j : Int, j ≠ 24 → j ≠ 25 → j ≠ 26 → mo_fb0 N n k r 22 j = N 22 j := by
      intro j h1 h2 h3
      unfold mo_fb0 kb_wr
      simp [h1, h2, h3]
    have hPB : sv_P (sp_fb0 C n k r) (mo_fb0 N n k r) := sv_P_cg (fun j _ => by rw [f5 1 (by decide)]) (f5 7 (by decide)) (f5 8 (by decide)) (g22' 0 (by decide) (by decide) (by decide)) (g22' 3 (by decide) (by decide) (by decide)) (g22' 4 (by decide) (by decide) (by decide)) (g22' 5 (by decide) (by decide) (by decide)) (g22' 6 (by decide) (by decide) (by decide)) (g22 23 (by decide)) (g22 24 (by decide)) hP
    have hLB : sv_L (sp_fb0 C n k r) (mo_fb0 N n k r) := by
      unfold sv_L at *
      rw [f5 3 (by decide), f5 16 (by decide), f5 17 (by decide), g22' 16 (by decide) (by decide) (by decide), g22' 0 (by decide) (by decide) (by decide), g22 30 (by decide), g22 31 (by decide)]
      exact hL
    have hbC : ∀ j : Int, -2000 ≤ sp_fb0 C n k r 21 j ∧ sp_fb0 C n k r 21 j ≤ 2000 := by
      rw [f5 21 (by decide)]
      exact hF.2.2.2.2.2.2.1
    have hbD : ∀ j : Int, -2000 ≤ mo_fb0 N n k r 36 j ∧ mo_fb0 N n k r 36 j ≤ 2000 := by
      rw [g22 36 (by decide)]
      exact hF.2.2.2.2.2.2.2
    obtain ⟨hv1, hv2, hv3⟩ := sv_fnv (lk := lk) (n := n) (m := k) (r := r) hPB hLB rfl rfl (by omega) hbC hbD (k * n).toNat
    obtain ⟨hP2, hL2⟩ := sv_fns lk n k r hPB hLB (k * n).toNat
    have cq : ∀ q : Nat, q ≠ 1 → q ≠ 9 → q ≠ 10 → q ≠ 21 → q ≠ 5 → sp_fn (sp_fb0 C n k r) lk k r (k * n).toNat q = C q := by
      intro q a1 a2 a3 a4 a5
      rw [sp_fn_q _ _ _ _ _ ⟨a1, a2, a3, a4⟩, f5 q a5]
    have c5 : sp_fn (sp_fb0 C n k r) lk k r (k * n).toNat 5 = sp_fb0 C n k r 5 := sp_fn_q _ _ _ _ _ (by decide)
    have nq : ∀ q : Nat, q ≠ 36 → q ≠ 22 → mo_fn (mo_fb0 N n k r) lk n k r (k * n).toNat q = N q := by
      intro q a1 a2
      rw [mo_fn_q _ _ _ _ _ _ a1, g22 q a2]
    have n22 : mo_fn (mo_fb0 N n k r) lk n k r (k * n).toNat 22 = mo_fb0 N n k r 22 := mo_fn_q _ _ _ _ _ _ (by decide)
    generalize sp_fn (sp_fb0 C n k r) lk k r (k * n).toNat = X at *
    generalize mo_fn (mo_fb0 N n k r) lk n k r (k * n).toNat = Y at *
    refine ⟨hP2, ?_, hL2, ?_, ?_, ?_, ?_⟩
    · unfold sv_S at *
      rw [cq 2 (by decide) (by decide) (by decide) (by decide) (by decide), cq 11 (by decide) (by decide) (by decide) (by decide) (by decide), cq 12 (by decide) (by decide) (by decide) (by decide) (by decide), cq 13 (by decide) (by decide) (by decide) (by decide) (by decide), cq 14 (by decide) (by decide) (by decide) (by decide) (by decide), cq 15 (by decide) (by decide) (by decide) (by decide) (by decide), n22, g22' 10 (by decide) (by decide) (by decide), nq 25 (by decide) (by decide), nq 26 (by decide) (by decide), nq 27 (by decide) (by decide), nq 28 (by decide) (by decide), nq 29 (by decide) (by decide)]
      exact hS
    · unfold sv_E at *
      rw [cq 3 (by decide) (by decide) (by decide) (by decide) (by decide), n22, g22' 9 (by decide) (by decide) (by decide)]
      exact hE
    · unfold sv_G sp_wh sp_rw sp_rh at *
      rw [cq 4 (by decide) (by decide) (by decide) (by decide) (by decide), cq 18 (by decide) (by decide) (by decide) (by decide) (by decide), cq 19 (by decide) (by decide) (by decide) (by decide) (by decide), cq 20 (by decide) (by decide) (by decide) (by decide) (by decide), n22, g22' 19 (by decide) (by decide) (by decide), nq 32 (by decide) (by decide), nq 33 (by decide) (by decide), nq 34 (by decide) (by decide)]
      exact hG
    · have d24 : Y 22 24 = n := by rw [n22]; rfl
      have d25 : Y 22 25 = k := by rw [n22]; rfl
      have d26 : Y 22 26 = r := by rw [n22]; rfl
      refine ⟨?_, ?_, ?_, ?_, fun _ => ⟨?_, ?_, ?_⟩, fun a j a1 a2 a3 a4 => ?_, hv2, hv3⟩
      · rw [d24, c5]; rfl
      · rw [d25, c5]; rfl
      · rw [d24]; omega
      · rw [d25]; omega
      · rw [d26, c5]; rfl
      · rw [d25]; omega
      · rw [d26]; omega
      · rw [d24] at a2
        rw [d25] at a4
        refine hv1 a j a1 a3 a4 ?_
        have h1 : k * a ≤ k * (n - 1) := Int.mul_le_mul_of_nonneg_left (by omega) (by omega)
        rw [Int.mul_sub] at h1
        have h2 := Int.mul_nonneg (a := k) (b := n) (by omega) (by omega)
        omega
    · unfold sv_W at *
      rw [cq 6 (by decide) (by decide) (by decide) (by decide) (by decide), n22, g22' 8 (by decide) (by decide) (by decide), g22' 7 (by decide) (by decide) (by decide)]
      exact hW
  · rw [if_neg hc, if_neg hc]
    exact hR
