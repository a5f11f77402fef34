/-! call by call: the same answer, and side by side again -/
theorem sp_sum_1 : ∀ n : Nat, sp_sum (fun _ => 1) n = (n : Int) := by
  intro n
  induction n with
  | zero => rfl
  | succ n ih =>
    simp only [sp_sum]
    rw [ih]
    rfl
theorem sp_sum_upd {f g : Int → Int} {i : Int} (h0 : 0 ≤ i) (h : ∀ j, j ≠ i → g j = f j) : ∀ n : Nat, i < n → sp_sum g n = sp_sum f n - f i + g i := by
  intro n
  induction n with
  | zero => intro h1; omega
  | succ n ih =>
    intro h1
    simp only [sp_sum]
    by_cases hi : i = n
    · have e : sp_sum g n = sp_sum f n := sp_sum_eq n (fun k a b => h k (by omega))
      rw [e, ← hi]
      omega
    · rw [ih (by omega), h n (by omega)]
      omega
theorem sm_probe {m : Int} {C N : kb_M} (n f p : Int) (hR : sv_R m C N) : sv_R m (sp_probeM C n f p) (mo_probeN N n f p) := by
  unfold sp_probeM mo_probeN
  by_cases hc : (2 ≤ n ∧ n ≤ 16) ∧ (-2000 ≤ f ∧ f ≤ 2000) ∧ (1 ≤ p ∧ p ≤ 200) ∧ f + (n - 1) * p ≤ 2000
  · rw [if_pos hc, if_pos hc]
    obtain ⟨⟨p1, p2, p3, p4, p5, p6, p7, p8, p9, p10, p11⟩, hS, ⟨l1, l2, l3, l4, l5, l6, l7⟩, hE, ⟨g1, g2, g3, g4, g5, g6⟩, hF, ⟨w1, w2, w3, w4⟩⟩ := hR
    refine ⟨⟨rfl, hc.1, fun i a b => ?_, ?_, p5, p6, p7, p8, p9, p10, p11⟩, hS, ⟨rfl, (show (0 : Int) ≤ 0 ∧ (0 : Int) < 6 by decide), (show (0 : Int) ≤ 0 ∧ (0 : Int) ≤ 6 by decide), fun l a b => ?_, fun l i s a b => ?_, l6, l7⟩, hE, ⟨rfl, (show (0 : Int) ≤ 0 ∧ (0 : Int) < 4 by decide), (show (0 : Int) ≤ 0 ∧ (0 : Int) ≤ 4 by decide), fun l a b => ?_, fun l s a b => ?_, g6⟩, hF, ⟨rfl, w2, (show (0 : Int) ≤ 0 ∧ (0 : Int) ≤ 1000000 by decide), w4⟩⟩
    · have hb : i < n := b
      have h1 := sp_mulb (a := i) (b := p) (A := 16) (B := 200) a (by omega) (by omega) (by omega)
      have h2 : i * p ≤ (n - 1) * p := Int.mul_le_mul_of_nonneg_right (by omega) (by omega)
      have e1 : (if 0 ≤ i ∧ i < n then f + i * p else C 7 i) = f + i * p := if_pos ⟨a, hb⟩
      have e2 : (if 0 ≤ i ∧ i < n then f + i * p else N 23 i) = f + i * p := if_pos ⟨a, hb⟩
      have e3 : (if 0 ≤ i ∧ i < n then 0 else C 8 i) = 0 := if_pos ⟨a, hb⟩
      have e4 : (if 0 ≤ i ∧ i < n then 0 else N 24 i) = 0 := if_pos ⟨a, hb⟩
      exact ⟨e1.trans e2.symm, e3.trans e4.symm, ⟨by show -2000 ≤ (if 0 ≤ i ∧ i < n then f + i * p else N 23 i); rw [e2]; omega, by show (if 0 ≤ i ∧ i < n then f + i * p else N 23 i) ≤ 2000; rw [e2]; omega⟩, Or.inl e4⟩
    · show n = sp_sum (fun i => if (if 0 ≤ i ∧ i < n then 0 else N 24 i) = 0 then 1 else 0) n.toNat
      rw [sp_sum_eq (g := fun _ => 1) n.toNat (fun k a b => by
        try dsimp only
        rw [if_pos (show 0 ≤ k ∧ k < n by omega)]
        rfl), sp_sum_1]
      omega
    · exact absurd (show l < 0 from b) (by omega)
    · exact absurd (show l < 0 from b) (by omega)
    · exact absurd (show l < 0 from b) (by omega)
    · exact absurd (show l < 0 from b) (by omega)
  · rw [if_neg hc, if_neg hc]
    exact hR
theorem sm_pace {m : Int} {C N : kb_M} (p q : Int) (hR : sv_R m C N) : sp_paceR C p q = mo_paceR N p q ∧ sv_R m (sp_paceM C p q) (mo_paceM N p q) := by
  have e : C 3 3 = N 22 16 := hR.2.2.1.1
  unfold sp_paceR mo_paceR sp_paceM mo_paceM
  rw [e]
  refine ⟨rfl, ?_⟩
  split
  · rename_i hc
    obtain ⟨⟨p1, p2, p3, p4, p5, p6, p7, p8, p9, p10, p11⟩, hS, hL, hE, hG, hF, hW⟩ := hR
    exact ⟨⟨p1, p2, p3, p4, rfl, rfl, hc.1.1, hc.1.2, p9, p10, p11⟩, hS, hL, hE, hG, hF, hW⟩
  · exact hR
theorem sm_dead {m : Int} {C N : kb_M} (i d : Int) (hd : d = 0 ∨ d = 1) (hR : sv_R m C N) : sp_deadR C i d = mo_deadR N i d ∧ sv_R m (sp_deadM C i d) (mo_deadM N i d) := by
  have hP := hR.1
  have e5 := hP.1
  have hn := hP.2.1
  by_cases hi : 0 ≤ i ∧ i < N 22 0
  · obtain ⟨x1, x2, x3, x4⟩ := hP.2.2.1 i hi.1 hi.2
    have e6 := hP.2.2.2.1
    have hb : (kb_b (0 ≤ i ∧ i < C 1 5 ∧ i < 16 ∧ C 8 i ≠ 0) = d) ↔ (N 24 i = d) := by
      rcases x4 with x4 | x4
      · rw [kb_b0 (by omega), x4]
      · rw [kb_b1 (by omega), x4]
    have hiff : (kb_b (0 ≤ i ∧ i < C 1 5 ∧ i < 16 ∧ C 8 i ≠ 0) = d ∨ (d ≠ 0 ∧ C 1 6 = 1)) ↔ (N 24 i = d ∨ (d ≠ 0 ∧ mo_al N = 1)) := by rw [hb, e6]
    unfold sp_deadR mo_deadR sp_deadM mo_deadM
    rw [if_pos (show 0 ≤ i ∧ i < C 1 5 ∧ i < 16 by omega), if_pos hi]
    by_cases hq : N 24 i = d ∨ (d ≠ 0 ∧ mo_al N = 1)
    · rw [if_pos (hiff.mpr hq), if_pos hq, if_neg (fun z => z.2 (hiff.mpr hq)), if_neg (fun z => z.2 hq)]
      exact ⟨rfl, hR⟩
    · rw [if_neg (fun z => hq (hiff.mp z)), if_neg hq, if_pos ⟨by omega, fun z => hq (hiff.mp z)⟩, if_pos ⟨hi, hq⟩]
      refine ⟨rfl, ?_⟩
      obtain ⟨⟨p1, p2, p3, p4, p5, p6, p7, p8, p9, p10, p11⟩, hS, hL, hE, hG, hF, hW⟩ := hR
      refine ⟨⟨p1, p2, fun j a b => ?_, ?_, p5, p6, p7, p8, p9, p10, p11⟩, hS, hL, hE, hG, hF, hW⟩
      · obtain ⟨y1, y2, y3, y4⟩ := p3 j a b
        refine ⟨y1, ?_, y3, ?_⟩
        · show (if j = i then d else C 8 j) = (if j = i then d else N 24 j)
          rw [y2]
        · show (if j = i then d else N 24 j) = 0 ∨ (if j = i then d else N 24 j) = 1
          split
          · exact hd
          · exact y4
      · show C 1 6 + 1 - 2 * d = sp_sum (fun j => if (if j = i then d else N 24 j) = 0 then 1 else 0) (N 22 0).toNat
        rw [sp_sum_upd (f := fun j => if N 24 j = 0 then 1 else 0) hi.1 (fun j hj => by
          try dsimp only
          rw [if_neg hj]) (N 22 0).toNat (by omega)]
        rw [p4]
        unfold mo_al
        simp only [if_true]
        rcases hd with rfl | rfl
        · rw [if_neg (show ¬ N 24 i = 0 by omega)]
          simp only [if_true]
          omega
        · rw [if_pos (show N 24 i = 0 by omega), if_neg (show ¬ (1 : Int) = 0 by decide)]
          omega
  · unfold sp_deadR mo_deadR sp_deadM mo_deadM
    rw [if_neg (by omega), if_neg hi, if_neg (fun z => hi (by omega)), if_neg (fun z => hi z.1)]
    exact ⟨rfl, hR⟩
theorem sm_delay {m : Int} {C N : kb_M} (i x z : Int) (hR : sv_R m C N) : sp_delayR C i x z = mo_delayR N i x z := by
  have e5 := hR.1.1
  have hn := hR.1.2.1
  unfold sp_delayR mo_delayR
  by_cases hc : (0 ≤ i ∧ i < N 22 0) ∧ (-2000 ≤ x ∧ x ≤ 2000) ∧ 0 ≤ z ∧ z ≤ 4000
  · rw [if_pos hc, if_pos (by omega), sv_dly hR.1 hc.1]
  · rw [if_neg hc, if_neg (by omega)]
theorem sm_weight {m : Int} {C N : kb_M} (i x z : Int) (hR : sv_R m C N) : sp_weightR C i x z = mo_weightR N i x z := by
  have e5 := hR.1.1
  have hn := hR.1.2.1
  unfold sp_weightR mo_weightR
  by_cases hc : (0 ≤ i ∧ i < N 22 0) ∧ (-2000 ≤ x ∧ x ≤ 2000) ∧ 0 ≤ z ∧ z ≤ 4000
  · rw [if_pos hc, if_pos (by omega), sv_wt hR.1 hc.1]
  · rw [if_neg hc, if_neg (by omega)]
theorem sm_point {m : Int} {C N : kb_M} (x z t dx dz : Int) (hR : sv_R m C N) : sp_pointR C x z t dx dz = mo_pointR N x z t dx dz ∧ sv_R m (sp_pointM C x z t dx dz) (mo_pointM N x z t dx dz) := by
  obtain ⟨hP, ⟨s1, s2, s3⟩, hL, hE, hG, hF, hW⟩ := id hR
  unfold sp_pointR mo_pointR sp_pointM mo_pointM
  rw [s1]
  by_cases hc : ((-2000 ≤ x ∧ x ≤ 2000) ∧ 0 ≤ z ∧ z ≤ 4000) ∧ (-100 ≤ t ∧ t ≤ 100) ∧ (-200 ≤ dx ∧ dx ≤ 200) ∧ -200 ≤ dz ∧ dz ≤ 200
  · rw [if_pos hc, if_pos hc]
    by_cases h8 : N 22 10 = 8
    · rw [if_pos (by omega), if_pos h8, if_neg (by omega), if_neg (fun q => q.2 h8)]
      exact ⟨rfl, hR⟩
    · rw [if_neg (by omega), if_neg h8, if_pos ⟨hc, by omega⟩, if_pos ⟨hc, h8⟩]
      refine ⟨rfl, hP, ⟨?_, ?_, fun k a b => ?_⟩, hL, hE, hG, hF, hW⟩
      · show C 2 5 + 1 = N 22 10 + 1
        omega
      · show 0 ≤ N 22 10 + 1 ∧ N 22 10 + 1 ≤ 8
        omega
      · have hb : k < N 22 10 + 1 := b
        show ((if k = C 2 5 then x else C 11 k) = (if k = N 22 10 then x else N 25 k) ∧ (if k = C 2 5 then z else C 12 k) = (if k = N 22 10 then z else N 26 k) ∧ (if k = C 2 5 then t else C 13 k) = (if k = N 22 10 then t else N 27 k) ∧ (if k = C 2 5 then dx else C 14 k) = (if k = N 22 10 then dx else N 28 k) ∧ (if k = C 2 5 then dz else C 15 k) = (if k = N 22 10 then dz else N 29 k)) ∧ (-2000 ≤ (if k = N 22 10 then x else N 25 k) ∧ (if k = N 22 10 then x else N 25 k) ≤ 2000) ∧ (0 ≤ (if k = N 22 10 then z else N 26 k) ∧ (if k = N 22 10 then z else N 26 k) ≤ 4000) ∧ (-100 ≤ (if k = N 22 10 then t else N 27 k) ∧ (if k = N 22 10 then t else N 27 k) ≤ 100) ∧ (-200 ≤ (if k = N 22 10 then dx else N 28 k) ∧ (if k = N 22 10 then dx else N 28 k) ≤ 200) ∧ (-200 ≤ (if k = N 22 10 then dz else N 29 k) ∧ (if k = N 22 10 then dz else N 29 k) ≤ 200)
        rw [s1]
        by_cases hk : k = N 22 10
        · refine ⟨⟨by rw [if_pos hk, if_pos hk], by rw [if_pos hk, if_pos hk], by rw [if_pos hk, if_pos hk], by rw [if_pos hk, if_pos hk], by rw [if_pos hk, if_pos hk]⟩, ?_, ?_, ?_, ?_, ?_⟩ <;> rw [if_pos hk] <;> omega
        · simp only [hk, if_false]
          exact s3 k a (by omega)
  · rw [if_neg hc, if_neg hc, if_neg (fun q => hc q.1), if_neg (fun q => hc q.1)]
    exact ⟨rfl, hR⟩
theorem sm_clear {m : Int} {C N : kb_M} (hR : sv_R m C N) : C 2 5 = N 22 10 ∧ sv_R m (kb_wr C 2 5 0) (kb_wr N 22 10 0) := by
  obtain ⟨hP, ⟨s1, s2, s3⟩, hL, hE, hG, hF, hW⟩ := hR
  exact ⟨s1, hP, ⟨rfl, (show (0 : Int) ≤ 0 ∧ (0 : Int) ≤ 8 by decide), fun k a b => absurd (show k < 0 from b) (by omega)⟩, hL, hE, hG, hF, hW⟩
theorem sm_pointAt {m : Int} {C N : kb_M} (k t : Int) (hR : sv_R m C N) : sp_pointAtR C k t = mo_pointAtR N k t := by
  obtain ⟨s1, s2, s3⟩ := hR.2.1
  unfold sp_pointAtR mo_pointAtR
  by_cases hk : 0 ≤ k ∧ k < N 22 10
  · rw [if_pos (by omega)]
    obtain ⟨⟨q1, q2, q3, q4, q5⟩, q⟩ := s3 k hk.1 hk.2
    rw [q1, q2, q3]
    by_cases ht : 0 ≤ t ∧ t ≤ 2
    · rw [if_pos (show (0 ≤ k ∧ k < N 22 10) ∧ 0 ≤ t ∧ t ≤ 2 from ⟨hk, ht⟩)]
      by_cases h0 : t = 0
      · rw [if_pos h0, if_pos h0]
      · rw [if_neg h0, if_neg h0]
        by_cases h1 : t = 1
        · rw [if_pos h1, if_pos h1]
        · rw [if_neg h1, if_neg h1, if_pos (by omega)]
    · rw [if_neg (by omega), if_neg (by omega), if_neg (by omega), if_neg (fun q => ht q.2)]
  · rw [if_neg (by omega), if_neg (fun q => hk q.1)]
theorem sm_sample {m : Int} {C N : kb_M} (l i s : Int) (hR : sv_R m C N) : sp_sampleR C l i s = mo_sampleR N l i s := by
  have e5 := hR.1.1
  have hn := hR.1.2.1
  have e3 := hR.2.2.1.1
  unfold sp_sampleR mo_sampleR
  by_cases hc : (0 ≤ l ∧ l < N 22 16) ∧ (0 ≤ i ∧ i < N 22 0) ∧ 0 ≤ s ∧ s ≤ 399
  · rw [if_pos hc, if_pos (by omega), sv_at hR.2.2.1 hc.1 (by omega)]
  · rw [if_neg hc, if_neg (by omega)]
theorem sm_window {m : Int} {C N : kb_M} (w f : Int) (hR : sv_R m C N) : sp_windowR C w f = mo_windowR N w f ∧ sv_R m (sp_windowM C w f) (mo_windowM N w f) := by
  unfold sp_windowR mo_windowR sp_windowM mo_windowM
  by_cases hc : (0 ≤ w ∧ w ≤ 2) ∧ 1 ≤ f ∧ f ≤ 9
  · rw [if_pos hc, if_pos hc, if_pos hc, if_pos hc]
    obtain ⟨⟨p1, p2, p3, p4, p5, p6, p7, p8, p9, p10, p11⟩, hS, hL, hE, hG, hF, hW⟩ := hR
    exact ⟨p9, ⟨p1, p2, p3, p4, p5, p6, p7, p8, rfl, rfl, hc.2⟩, hS, hL, hE, hG, hF, hW⟩
  · rw [if_neg hc, if_neg hc, if_neg hc, if_neg hc]
    exact ⟨rfl, hR⟩
theorem sm_aim {m : Int} {C N : kb_M} (x z : Int) (hR : sv_R m C N) : sv_R m (sp_aim C x z) N := hR
theorem sm_sum {m : Int} {C N : kb_M} (l x z : Int) (hR : sv_R m C N) : sp_sumR C l x z = mo_sumR N l x z ∧ sv_R m (sp_sumM C l x z) N := by
  have e3 := hR.2.2.1.1
  unfold sp_sumR mo_sumR sp_sumM
  rw [e3]
  by_cases hc : (0 ≤ l ∧ l < N 22 16) ∧ (-2000 ≤ x ∧ x ≤ 2000) ∧ 0 ≤ z ∧ z ≤ 4000
  · rw [if_pos hc, if_pos hc, if_pos hc, sv_as hR.1 hR.2.2.1 hc.1]
    exact ⟨rfl, sm_aim x z hR⟩
  · rw [if_neg hc, if_neg hc, if_neg hc]
    exact ⟨rfl, hR⟩
theorem sm_jmM {m : Int} {C N : kb_M} (x z : Int) (hR : sv_R m C N) : sv_R m (sp_jmM C x z) N := by
  unfold sp_jmM
  split
  · exact sm_aim x z hR
  · exact hR
theorem sm_mean {m : Int} {C N : kb_M} (b x z : Int) (hR : sv_R m C N) : sp_meanR C b x z = mo_meanR N b x z ∧ sv_R m (sp_meanM C b x z) N := by
  have ha := sv_al hR.2.2.1 b
  unfold sp_meanR mo_meanR sp_meanM
  by_cases hc : (0 < b ∧ b < 2 ^ (N 22 16).toNat) ∧ (-2000 ≤ x ∧ x ≤ 2000) ∧ 0 ≤ z ∧ z ≤ 4000
  · rw [if_pos hc, if_pos ⟨ha.mpr hc.1, hc.2⟩, if_pos ⟨ha.mpr hc.1, hc.2⟩, sv_jm hR.1 hR.2.2.1]
    unfold mo_jp
    rw [if_pos hc.2]
    exact ⟨rfl, sm_jmM x z hR⟩
  · rw [if_neg hc, if_neg (fun q => hc ⟨ha.mp q.1, q.2⟩), if_neg (fun q => hc ⟨ha.mp q.1, q.2⟩)]
    exact ⟨rfl, hR⟩
theorem sm_turn {m : Int} {C N : kb_M} (l o x z : Int) (hR : sv_R m C N) : sp_turnR C l o x z = mo_turnR N l o x z ∧ sv_R m (sp_turnM C l o x z) N := by
  have e3 := hR.2.2.1.1
  have hL := hR.2.2.1
  unfold sp_turnR mo_turnR sp_turnM
  rw [e3]
  by_cases hc : (0 ≤ l ∧ l < N 22 16) ∧ (0 ≤ o ∧ o < N 22 16) ∧ (-2000 ≤ x ∧ x ≤ 2000) ∧ 0 ≤ z ∧ z ≤ 4000
  · rw [if_pos hc, if_pos hc, (hL.2.2.2.1 l hc.1.1 hc.1.2).1, (hL.2.2.2.1 o hc.2.1.1 hc.2.1.2).1]
    by_cases hs : N 30 l = N 30 o
    · rw [if_pos hs, if_pos hs, if_pos ⟨hc, hs⟩]
      exact ⟨sv_tn (fun s => sv_lkn hR.1 hL hc.1 hc.2.1 x z s) 16, sm_aim x z hR⟩
    · rw [if_neg hs, if_neg hs, if_neg (fun q => hs q.2)]
      exact ⟨rfl, hR⟩
  · rw [if_neg hc, if_neg hc, if_neg (fun q => hc q.1)]
    exact ⟨rfl, hR⟩
theorem sm_pixel {m : Int} {C N : kb_M} (p k l : Int) (hR : sv_R m C N) : sp_pixelR C p k l = mo_pixelR N p k l := by
  have hG := hR.2.2.2.2.1
  unfold sp_pixelR mo_pixelR
  rw [hG.1]
  by_cases hp : 0 ≤ p ∧ p < N 22 19
  · rw [sv_rw hG hp, sv_rh hG hp]
    obtain ⟨q1, q2, q3, q4⟩ := hG.2.2.2.1 p hp.1 hp.2
    by_cases hc : (0 ≤ p ∧ p < N 22 19) ∧ (0 ≤ k ∧ k ≤ N 32 p - 1) ∧ 0 ≤ l ∧ l ≤ N 33 p - 1
    · rw [if_pos hc, if_pos hc, show 256 * p + k + N 32 p * l = 256 * p + (k + N 32 p * l) by omega]
      have h1 := sp_mulb (a := N 32 p) (b := l) (A := 16) (B := 15) (by omega) (by omega) (by omega) (by omega)
      have h2 : N 32 p * l ≤ N 32 p * (N 33 p - 1) := Int.mul_le_mul_of_nonneg_left (by omega) (by omega)
      rw [Int.mul_sub] at h2
      exact sv_px hG hp (by omega)
    · rw [if_neg hc, if_neg hc]
  · rw [if_neg (fun q => hp q.1), if_neg (fun q => hp q.1)]
theorem sm_about {m : Int} {C N : kb_M} (p t : Int) (hR : sv_R m C N) : sp_aboutR C p t = mo_aboutR N p t := by
  have hG := hR.2.2.2.2.1
  unfold sp_aboutR mo_aboutR
  rw [hG.1]
  by_cases hp : 0 ≤ p ∧ p < N 22 19
  · obtain ⟨q1, q2, q3, q4⟩ := hG.2.2.2.1 p hp.1 hp.2
    have hm := sp_mulb (a := N 32 p - 1) (b := N 33 p) (A := 15) (B := 16) (by omega) (by omega) (by omega) (by omega)
    rw [Int.sub_mul] at hm
    have hb := sp_best_b (fun k => N 34 (256 * p + k)) (N 32 p * N 33 p - 1).toNat
    have e2 : sp_px C ((C 4 3 + p) % 4) (sp_mxI C ((C 4 3 + p) % 4)) = N 34 (256 * p + mo_mxI N p) := by
      rw [sv_mx hG hp]
      have hpos := sp_mulb (a := N 32 p - 1) (b := N 33 p - 1) (A := 15) (B := 15) (by omega) (by omega) (by omega) (by omega)
      have ex : (N 32 p - 1) * (N 33 p - 1) = N 32 p * N 33 p - N 32 p - N 33 p + 1 := by grind
      refine sv_px hG hp ?_
      unfold mo_mxI
      omega
    rw [if_pos hp, sv_rw hG hp, sv_rh hG hp, e2, sv_mx hG hp]
    by_cases ht : 0 ≤ t ∧ t ≤ 3
    · rw [if_pos (show (0 ≤ p ∧ p < N 22 19) ∧ 0 ≤ t ∧ t ≤ 3 from ⟨hp, ht⟩)]
      by_cases h0 : t = 0
      · rw [if_pos h0, if_pos h0]
      · rw [if_neg h0, if_neg h0]
        by_cases h1 : t = 1
        · rw [if_pos h1, if_pos h1]
        · rw [if_neg h1, if_neg h1]
          by_cases h2 : t = 2
          · rw [if_pos h2, if_pos h2]
          · rw [if_neg h2, if_neg h2, if_pos (by omega)]
    · rw [if_neg (by omega), if_neg (by omega), if_neg (by omega), if_neg (by omega), if_neg (fun q => ht q.2)]
  · rw [if_neg hp, if_neg (fun q => hp q.1)]
theorem sm_fanAt {m : Int} {C N : kb_M} (a k : Int) (hR : sv_R m C N) : sp_fanAtR C a k = mo_fanAtR N a k := by
  obtain ⟨f1, f2, f3, f4, f5, f6, f7, f8⟩ := hR.2.2.2.2.2.1
  unfold sp_fanAtR mo_fanAtR
  by_cases hc : (0 ≤ a ∧ a < N 22 24) ∧ 0 ≤ k ∧ k < N 22 25
  · rw [if_pos (by omega), if_pos hc]
    unfold sp_fv
    rw [if_pos (by omega)]
    exact f6 a k hc.1.1 hc.1.2 hc.2.1 hc.2.2
  · rw [if_neg (by omega), if_neg hc]
theorem sv_fv {C N : kb_M} (hF : sv_F C N) {s a k : Int} (h : s ≠ 0 → (0 ≤ a ∧ a < N 22 24) ∧ 0 ≤ k ∧ k < N 22 25) : s * sp_fv C a k = mo_shr N s a k := by
  obtain ⟨f1, f2, f3, f4, f5, f6, f7, f8⟩ := hF
  unfold mo_shr
  by_cases hs : s = 0
  · rw [if_pos hs, hs, Int.zero_mul]
  · rw [if_neg hs]
    obtain ⟨h1, h2⟩ := h hs
    unfold sp_fv
    rw [if_pos (by omega), f6 a k h1.1 h1.2 h2.1 h2.2]
theorem sv_la {C N : kb_M} (hF : sv_F C N) (h0 : N 22 24 ≠ 0) {x z : Int} (hz : 0 ≤ z) : sp_la C x z = mo_la N x z := by
  obtain ⟨f1, f2, f3, f4, f5, f6, f7, f8⟩ := id hF
  obtain ⟨g1, g2, g3, g4⟩ := f5 h0
  have ew : sp_wd C x z = mo_wd N x z := by
    unfold sp_wd mo_wd
    rw [f1]
  unfold sp_la mo_la
  rw [ew, f1, f2, g1]
  have hd := sp_divb (z := 16 * z) (f := N 22 26) g3 (by omega)
  generalize mo_wd N x z = wd
  generalize 16 * z / N 22 26 = dp at *
  by_cases hc : wd < 0 ∨ 16 * (N 22 24 - 1) < wd ∨ 16 * (N 22 25 - 1) < dp
  · rw [if_pos hc, if_pos hc]
  · rw [if_neg hc, if_neg hc]
    unfold sp_mx mo_mx
    rw [sv_fv hF (s := (16 - wd % 16) * (16 - dp % 16)) (fun _ => by omega), sv_fv hF (s := wd % 16 * (16 - dp % 16)) (fun q => by have := mo_nz q; omega), sv_fv hF (s := (16 - wd % 16) * (dp % 16)) (fun q => by have := mo_nz q; omega), sv_fv hF (s := wd % 16 * (dp % 16)) (fun q => by have := mo_nz q; omega), Int.add_assoc (mo_shr N ((16 - wd % 16) * (16 - dp % 16)) (wd / 16) (dp / 16) + mo_shr N (wd % 16 * (16 - dp % 16)) (wd / 16 + 1) (dp / 16))]
theorem sm_board {m : Int} {C N : kb_M} (w h s u v : Int) (hR : sv_R m C N) : sp_boardR C w h s u v = mo_boardR N w h s u v := by
  have hF := hR.2.2.2.2.2.1
  unfold sp_boardR mo_boardR
  rw [hF.1]
  by_cases hc : ((2 ≤ w ∧ w ≤ 12) ∧ (2 ≤ h ∧ h ≤ 12) ∧ 1 ≤ s ∧ s ≤ 500) ∧ (0 ≤ u ∧ u ≤ w - 1) ∧ (0 ≤ v ∧ v ≤ h - 1) ∧ N 22 24 ≠ 0
  · rw [if_pos hc, if_pos hc]
    exact sv_la hF hc.2.2.2 (Int.mul_nonneg (by omega) (by omega))
  · rw [if_neg hc, if_neg hc]
theorem sm_cap {m : Int} {C N : kb_M} (n : Int) (hR : sv_R m C N) : sp_capR C n = mo_capR N n ∧ sv_R m (sp_capM C n) (mo_capM N n) := by
  unfold sp_capR mo_capR sp_capM mo_capM
  by_cases hc : 0 ≤ n ∧ n ≤ 1000000
  · rw [if_pos hc, if_pos hc, if_pos hc, if_pos hc]
    obtain ⟨hP, hS, hL, hE, hG, hF, ⟨w1, w2, w3, w4⟩⟩ := hR
    exact ⟨w2, hP, hS, hL, hE, hG, hF, ⟨w1, rfl, w3, hc⟩⟩
  · rw [if_neg hc, if_neg hc, if_neg hc, if_neg hc]
    exact ⟨rfl, hR⟩
theorem sm_tick {m : Int} {C N : kb_M} (n : Int) (hR : sv_R m C N) : sp_tickR C n = mo_tickR N n ∧ sv_R m (sp_tickM C n) (mo_tickM N n) := by
  have e := hR.2.2.2.2.2.2.1
  unfold sp_tickR mo_tickR sp_tickM mo_tickM
  by_cases hc : 1 ≤ n ∧ n ≤ 1000
  · rw [if_pos hc, if_pos hc, if_pos hc, if_pos hc, e]
    obtain ⟨hP, hS, hL, hE, hG, hF, ⟨w1, w2, w3, w4⟩⟩ := hR
    refine ⟨rfl, hP, hS, hL, hE, hG, hF, ⟨?_, w2, ?_, w4⟩⟩
    · show sp_cool (C 6 0) n.toNat = sp_cool (N 22 8) n.toNat
      rw [e]
    · exact sp_cool_b w3 n.toNat
  · rw [if_neg hc, if_neg hc, if_neg hc, if_neg hc]
    exact ⟨rfl, hR⟩
theorem sm_count {m : Int} {C N : kb_M} (t : Int) (hR : sv_R m C N) : sp_countR C t = mo_countR N t := by
  obtain ⟨hP, hS, hL, hE, hG, hF, hW⟩ := hR
  unfold sp_countR mo_countR
  rw [hP.1, hP.2.2.2.1, hS.1, hL.1, hG.1, hW.1, hE.1]
theorem sm_digest {m : Int} {C N : kb_M} (hR : sv_R m C N) : sp_dig C = mo_dig N := by
  obtain ⟨hP, hS, hL, hE, hG, hF, hW⟩ := id hR
  have hn := hP.2.1
  have e1 : sp_hs (sp_countR C) 131 7 = sp_hs (mo_countR N) 131 7 := sv_hs rfl 7 (fun k _ _ => sm_count k hR)
  have e2 : ∀ n : Nat, (n : Int) ≤ N 22 10 → sp_hq C (sp_hs (sp_countR C) 131 7) n = mo_hq N (sp_hs (mo_countR N) 131 7) n := by
    intro n
    induction n with
    | zero => intro _; exact e1
    | succ n ih =>
      intro h
      simp only [sp_hq, mo_hq]
      have h10 := hS.2.1
      rw [ih (by omega), sm_pointAt n 0 hR, sm_pointAt n 1 hR]
      unfold mo_pointAtR
      rw [if_pos (by omega), if_pos rfl, if_pos (by omega), if_neg (by decide), if_pos rfl]
  have e3 : ∀ n : Nat, (n : Int) ≤ N 22 16 → sp_hl C (sp_hq C (sp_hs (sp_countR C) 131 7) (C 2 5).toNat) n = mo_hl N (mo_hq N (sp_hs (mo_countR N) 131 7) (N 22 10).toNat) n := by
    intro n
    induction n with
    | zero =>
      intro _
      simp only [sp_hl, mo_hl]
      rw [hS.1]
      exact e2 _ (by have := hS.2.1; omega)
    | succ n ih =>
      intro h
      simp only [sp_hl, mo_hl]
      rw [hP.1]
      refine sv_hs ?_ _ (fun k a b => ?_)
      · rw [ih (by omega), (hL.2.2.2.1 n (by omega) (by omega)).1]
      · unfold sp_rsm mo_rsm
        apply sp_sum_eq
        intro s h1 h2
        try dsimp only
        rw [sv_at hL (by omega) (by omega)]
  have e4 : ∀ n : Nat, (n : Int) ≤ N 22 19 → sp_hp C (sp_hl C (sp_hq C (sp_hs (sp_countR C) 131 7) (C 2 5).toNat) (C 3 3).toNat) n = mo_hp N (mo_hl N (mo_hq N (sp_hs (mo_countR N) 131 7) (N 22 10).toNat) (N 22 16).toNat) n := by
    intro n
    induction n with
    | zero =>
      intro _
      simp only [sp_hp, mo_hp]
      rw [hL.1]
      exact e3 _ (by have := hL.2.2.1; omega)
    | succ n ih =>
      intro h
      simp only [sp_hp, mo_hp]
      have hp : 0 ≤ (n : Int) ∧ (n : Int) < N 22 19 := by omega
      rw [sv_rw hG hp, sv_rh hG hp]
      refine sv_hs (ih (by omega)) _ (fun k a b => ?_)
      exact sv_px hG hp (by omega)
  unfold sp_dig mo_dig
  rw [hG.1]
  exact e4 _ (by have := hG.2.2.1; omega)
