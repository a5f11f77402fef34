/-! the reference: what its methods answer -/
def mo_g (M : kb_M) (i x : Int) : Int := max (M 23 i - x) (-(M 23 i - x))
def mo_dly (M : kb_M) (i x z : Int) : Int := sp_dl (M 22 3) (M 22 4) (mo_g M i x) z
def mo_xs (M : kb_M) : Prop := ∀ j : Int, 0 ≤ j → j < M 22 0 → -2000 ≤ M 23 j ∧ M 23 j ≤ 2000
def mo_IP (M : kb_M) : Prop := mo_xs M ∧ (2 ≤ M 22 0 ∧ M 22 0 ≤ 16) ∧ (1 ≤ M 22 3 ∧ M 22 3 ≤ 1000) ∧ (1 ≤ M 22 4 ∧ M 22 4 ≤ 1000) ∧ (1 ≤ M 22 6 ∧ M 22 6 ≤ 9)
theorem mo_g_b {M : kb_M} {i x : Int} (h : mo_xs M) (hi : 0 ≤ i ∧ i < M 22 0) (hx : -2000 ≤ x ∧ x ≤ 2000) : 0 ≤ mo_g M i x ∧ mo_g M i x ≤ 4000 := by
  unfold mo_g
  have := h i hi.1 hi.2
  omega
theorem mo_dly_b {M : kb_M} {i x z : Int} (h : mo_IP M) (hi : 0 ≤ i ∧ i < M 22 0) (hx : -2000 ≤ x ∧ x ≤ 2000) (hz : 0 ≤ z ∧ z ≤ 4000) : 0 ≤ mo_dly M i x z ∧ mo_dly M i x z ≤ 16001000 := sp_dl_b h.2.2.1 h.2.2.2.1 (mo_g_b h.1 hi hx) hz
/-- rounding: half of one more than the quotient -/
theorem mo_half {r P : Int} (hP : 1 ≤ P) : (r / P + 1) / 2 = (r + P) / (2 * P) := by
  have h1 : r / P + 1 = (r + P) / P := by
    have := Int.add_mul_ediv_right r 1 (c := P) (by omega)
    rw [Int.one_mul] at this
    omega
  rw [h1, Int.ediv_ediv_of_nonneg (by omega), Int.mul_comm P 2]
theorem mo_dl_eq {P T a x z r : Int} (hP : 1 ≤ P) (hr : r = sp_sq (4 * T * T * ((x - a) * (x - a) + z * z))) : (r / P + 1) / 2 = sp_dl P T (max (a - x) (-(a - x))) z := by
  rw [mo_half hP, hr]
  unfold sp_dl
  rw [sp_absq, show (x - a) * (x - a) = (a - x) * (a - x) by grind]
def mo_rt (v r b : Int) : Prop := 0 ≤ r ∧ 0 ≤ b ∧ r + 2 * b ≤ 134217728 ∧ r * r ≤ v ∧ ((b = 0 ∧ v < (r + 1) * (r + 1)) ∨ ((∃ j : Nat, b = 2 ^ j) ∧ v < (r + 2 * b) * (r + 2 * b)))
theorem mo_rt_0 {v : Int} (h : 0 ≤ v ∧ v ≤ 1000000000000000) : mo_rt v 0 67108864 := ⟨by omega, by omega, by omega, by omega, Or.inr ⟨⟨26, by decide⟩, by omega⟩⟩
theorem mo_rt_S {v r b r2 : Int} (h : mo_rt v r b) (hb : 0 < b) (hr : ((r + b) * (r + b) ≤ v ∧ r2 = r + b) ∨ (v < (r + b) * (r + b) ∧ r2 = r)) : mo_rt v r2 (b / 2) := by
  obtain ⟨h1, h2, h3, h4, h5⟩ := h
  rcases h5 with ⟨h5, _⟩ | ⟨⟨j, hj⟩, h6⟩
  · omega
  have hr2 : r2 * r2 ≤ v ∧ v < (r2 + b) * (r2 + b) ∧ 0 ≤ r2 ∧ r2 + b ≤ r + 2 * b := by
    rcases hr with ⟨q1, q2⟩ | ⟨q1, q2⟩
    · subst q2
      refine ⟨q1, ?_, by omega, by omega⟩
      rw [show r + b + b = r + 2 * b by omega]
      exact h6
    · subst q2
      exact ⟨h4, q1, h1, by omega⟩
  refine ⟨hr2.2.2.1, by omega, by omega, hr2.1, ?_⟩
  cases j with
  | zero =>
    left
    have : b = 1 := hj
    subst this
    exact ⟨by omega, hr2.2.1⟩
  | succ j =>
    right
    have e : b = 2 ^ j * 2 := hj
    have e2 : b / 2 = 2 ^ j := by omega
    refine ⟨⟨j, e2⟩, ?_⟩
    rw [show 2 * (b / 2) = b by omega]
    exact hr2.2.1
theorem mo_rt_sq {v r b : Int} (h : mo_rt v r b) (hb : b ≤ 0) : r = sp_sq v := by
  obtain ⟨h1, h2, h3, h4, h5⟩ := h
  rcases h5 with ⟨h5, h6⟩ | ⟨⟨j, hj⟩, h6⟩
  · exact (sp_sq_eq h1 h4 h6).symm
  · have : (0 : Int) < 2 ^ j := Int.pow_pos (by omega)
    omega
theorem mo_sqr_b {r : Int} (h0 : 0 ≤ r) (h : r ≤ 134217728) : 0 ≤ r * r ∧ r * r ≤ 18014398509481984 := sp_mulb (A := 134217728) (B := 134217728) h0 h h0 h
def mo_al (M : kb_M) : Int := sp_sum (fun i => if M 24 i = 0 then 1 else 0) (M 22 0).toNat
theorem mo_al_b {M : kb_M} (n : Nat) : 0 ≤ sp_sum (fun i => if M 24 i = 0 then 1 else 0) n ∧ sp_sum (fun i => if M 24 i = 0 then 1 else 0) n ≤ (n : Int) := by
  have h1 := sp_sum_nn (f := fun i => if M 24 i = 0 then 1 else 0) n (fun k _ _ => by
    try dsimp only
    split <;> omega)
  have h2 := sp_sum_b (f := fun i => if M 24 i = 0 then 1 else 0) (b := 1) n (fun k _ _ => by
    try dsimp only
    split <;> omega)
  omega
def mo_wt (M : kb_M) (i x z : Int) : Int := if M 24 i = 0 then (if M 22 5 = 0 then 1 else if z / M 22 6 < mo_g M i x then 0 else if M 22 5 = 1 then 1 else z / M 22 6 - mo_g M i x + 1) else 0
theorem mo_wt_b {M : kb_M} {i x z : Int} (h : mo_IP M) (hi : 0 ≤ i ∧ i < M 22 0) (hx : -2000 ≤ x ∧ x ≤ 2000) (hz : 0 ≤ z ∧ z ≤ 4000) : 0 ≤ mo_wt M i x z ∧ mo_wt M i x z ≤ 4001 := by
  have h1 := mo_g_b h.1 hi hx
  have h2 := sp_divb (z := z) (f := M 22 6) h.2.2.2.2.1 hz.1
  unfold mo_wt
  split
  · split
    · omega
    · split
      · omega
      · split <;> omega
  · omega
def mo_at (M : kb_M) (lk i s : Int) : Int := if 0 ≤ s ∧ s ≤ 399 then M 31 (400 * (16 * lk + i) + s) else 0
def mo_IL (M : kb_M) : Prop := (0 ≤ M 22 16 ∧ M 22 16 ≤ 6) ∧ (∀ j : Int, -1600 ≤ M 31 j ∧ M 31 j ≤ 1600) ∧ ∀ j : Int, 0 ≤ j → j < M 22 16 → 0 ≤ M 30 j ∧ M 30 j < M 22 0
theorem mo_at_b {M : kb_M} (h : ∀ j : Int, -1600 ≤ M 31 j ∧ M 31 j ≤ 1600) (lk i s : Int) : -1600 ≤ mo_at M lk i s ∧ mo_at M lk i s ≤ 1600 := by
  unfold mo_at
  split
  · exact h _
  · omega
def mo_as (M : kb_M) (lk x z : Int) : Int := sp_sum (fun i => mo_wt M i x z * mo_at M lk i (mo_dly M (M 30 lk) x z + mo_dly M i x z)) (M 22 0).toNat
def mo_ws (M : kb_M) (x z : Int) (n : Nat) : Int := sp_sum (fun i => mo_wt M i x z) n
def mo_jt (M : kb_M) (b x z : Int) (n : Nat) : Int := sp_sum (fun k => if b / 2 ^ k.toNat % 2 = 0 then 0 else mo_as M k x z) n
def mo_jw (M : kb_M) (b x z : Int) (n : Nat) : Int := sp_sum (fun k => if b / 2 ^ k.toNat % 2 = 0 then 0 else mo_ws M x z (M 22 0).toNat) n
def mo_jm (M : kb_M) (b x z : Int) : Int := if mo_jw M b x z (M 22 16).toNat = 0 then 0 else (mo_jt M b x z (M 22 16).toNat).tdiv (mo_jw M b x z (M 22 16).toNat)
def mo_jp (M : kb_M) (b x z : Int) : Int := if (-2000 ≤ x ∧ x ≤ 2000) ∧ 0 ≤ z ∧ z ≤ 4000 then mo_jm M b x z else 0
theorem mo_ws_b {M : kb_M} {x z : Int} (h : mo_IP M) (hx : -2000 ≤ x ∧ x ≤ 2000) (hz : 0 ≤ z ∧ z ≤ 4000) (n : Nat) (hn : (n : Int) ≤ M 22 0) : 0 ≤ mo_ws M x z n ∧ mo_ws M x z n ≤ 64016 := by
  have h1 := sp_sum_nn (f := fun i => mo_wt M i x z) n (fun k a b => (mo_wt_b h (by omega) hx hz).1)
  have h2 := sp_sum_b (f := fun i => mo_wt M i x z) (b := 4001) n (fun k a b => by have := mo_wt_b (i := k) h (by omega) hx hz; constructor <;> (show _ ≤ _) <;> first | omega | (simp only []; omega))
  have := h.2.1
  unfold mo_ws
  omega
theorem mo_as_w {M : kb_M} {x z : Int} (h : mo_IP M) (hb : ∀ p : Int, -1600 ≤ M 31 p ∧ M 31 p ≤ 1600) (hx : -2000 ≤ x ∧ x ≤ 2000) (hz : 0 ≤ z ∧ z ≤ 4000) (lk : Int) : -(1600 * mo_ws M x z (M 22 0).toNat) ≤ mo_as M lk x z ∧ mo_as M lk x z ≤ 1600 * mo_ws M x z (M 22 0).toNat :=
  sp_sum_w (w := fun i => mo_wt M i x z) _ (fun k a b => sp_wmul (mo_wt_b h (by have := h.2.1; omega) hx hz).1 (mo_at_b hb _ _ _))
theorem mo_jw_b {M : kb_M} {x z : Int} (h : mo_IP M) (hx : -2000 ≤ x ∧ x ≤ 2000) (hz : 0 ≤ z ∧ z ≤ 4000) (b : Int) (n : Nat) : 0 ≤ mo_jw M b x z n ∧ mo_jw M b x z n ≤ 64016 * n := by
  have h4 := mo_ws_b h hx hz (M 22 0).toNat (by have := h.2.1; omega)
  have h1 := sp_sum_nn (f := fun k => if b / 2 ^ k.toNat % 2 = 0 then 0 else mo_ws M x z (M 22 0).toNat) n (fun k _ _ => by
    try dsimp only
    split <;> omega)
  have h2 := sp_sum_b (f := fun k => if b / 2 ^ k.toNat % 2 = 0 then 0 else mo_ws M x z (M 22 0).toNat) (b := 64016) n (fun k _ _ => by
    try dsimp only
    split <;> omega)
  exact ⟨h1, h2.2⟩
theorem mo_jt_w {M : kb_M} {x z : Int} (h : mo_IP M) (hb : ∀ p : Int, -1600 ≤ M 31 p ∧ M 31 p ≤ 1600) (hx : -2000 ≤ x ∧ x ≤ 2000) (hz : 0 ≤ z ∧ z ≤ 4000) (b : Int) (n : Nat) : -(1600 * mo_jw M b x z n) ≤ mo_jt M b x z n ∧ mo_jt M b x z n ≤ 1600 * mo_jw M b x z n := by
  refine sp_sum_w (w := fun k => if b / 2 ^ k.toNat % 2 = 0 then 0 else mo_ws M x z (M 22 0).toNat) n (fun k _ _ => ?_)
  have h1 := mo_as_w h hb hx hz k
  try dsimp only
  split <;> omega
theorem mo_jm_b {M : kb_M} (h : mo_IP M) (hb : ∀ p : Int, -1600 ≤ M 31 p ∧ M 31 p ≤ 1600) {x z : Int} (hx : -2000 ≤ x ∧ x ≤ 2000) (hz : 0 ≤ z ∧ z ≤ 4000) (b : Int) : -1600 ≤ mo_jm M b x z ∧ mo_jm M b x z ≤ 1600 := by
  unfold mo_jm
  split
  · omega
  · have h1 := mo_jw_b h hx hz b (M 22 16).toNat
    exact sp_tdw (by omega) (mo_jt_w h hb hx hz b _)
theorem mo_jp_b {M : kb_M} (h : mo_IP M) (hb : ∀ p : Int, -1600 ≤ M 31 p ∧ M 31 p ≤ 1600) (b x z : Int) : -1600 ≤ mo_jp M b x z ∧ mo_jp M b x z ≤ 1600 := by
  unfold mo_jp
  split
  · rename_i hp
    exact mo_jm_b h hb hp.1 hp.2 b
  · omega
def mo_probeM (M : kb_M) (n f p : Int) : kb_M := fun q => if q = 22 then (fun k => if k = 0 then n else if k = 16 then 0 else if k = 19 then 0 else if k = 8 then 0 else M 22 k) else if q = 23 then (fun k => if 0 ≤ k ∧ k < n then f + k * p else M 23 k) else if q = 24 then (fun k => if 0 ≤ k ∧ k < n then 0 else M 24 k) else M q
def mo_rnI (M : kb_M) (n f p j : Int) : kb_M := fun q => if q = 22 then (fun k => if k = 0 then n else M 22 k) else if q = 23 then (fun k => if 0 ≤ k ∧ k < j then f + k * p else M 23 k) else if q = 24 then (fun k => if 0 ≤ k ∧ k < j then 0 else M 24 k) else M q
theorem mo_rnI_0 (M : kb_M) (n f p : Int) : kb_wr M 22 0 n = mo_rnI M n f p 0 := by
  apply sp_ext
  intro q k
  simp only [kb_wr, mo_rnI, sp_ia]
  grind
theorem mo_rnI_S (M : kb_M) (n f p i : Int) (h : 0 ≤ i) : kb_wr (kb_wr (mo_rnI M n f p i) 23 i (f + i * p)) 24 i 0 = mo_rnI M n f p (i + 1) := by
  apply sp_ext
  intro q k
  simp only [kb_wr, mo_rnI, sp_ia]
  grind
theorem mo_rnI_E (M : kb_M) (n f p : Int) : kb_wr (kb_wr (kb_wr (mo_rnI M n f p n) 22 16 0) 22 19 0) 22 8 0 = mo_probeM M n f p := by
  apply sp_ext
  intro q k
  simp only [kb_wr, mo_rnI, mo_probeM, sp_ia]
  grind
def mo_probeN (M : kb_M) (n f p : Int) : kb_M := if (2 ≤ n ∧ n ≤ 16) ∧ (-2000 ≤ f ∧ f ≤ 2000) ∧ (1 ≤ p ∧ p ≤ 200) ∧ f + (n - 1) * p ≤ 2000 then mo_probeM M n f p else M
def mo_paceR (M : kb_M) (p q : Int) : Int := if (1 ≤ p ∧ p ≤ 1000) ∧ 1 ≤ q ∧ q ≤ 1000 then (if 0 < M 22 16 then -3 else 1) else -2
def mo_paceM (M : kb_M) (p q : Int) : kb_M := if ((1 ≤ p ∧ p ≤ 1000) ∧ 1 ≤ q ∧ q ≤ 1000) ∧ ¬ 0 < M 22 16 then kb_wr (kb_wr M 22 3 p) 22 4 q else M
def mo_deadR (M : kb_M) (i d : Int) : Int := if 0 ≤ i ∧ i < M 22 0 then (if M 24 i = d ∨ (d ≠ 0 ∧ mo_al M = 1) then -3 else 1) else -2
def mo_deadM (M : kb_M) (i d : Int) : kb_M := if (0 ≤ i ∧ i < M 22 0) ∧ ¬ (M 24 i = d ∨ (d ≠ 0 ∧ mo_al M = 1)) then kb_wr M 24 i d else M
def mo_delayR (M : kb_M) (i x z : Int) : Int := if (0 ≤ i ∧ i < M 22 0) ∧ (-2000 ≤ x ∧ x ≤ 2000) ∧ 0 ≤ z ∧ z ≤ 4000 then mo_dly M i x z else -2
def mo_weightR (M : kb_M) (i x z : Int) : Int := if (0 ≤ i ∧ i < M 22 0) ∧ (-2000 ≤ x ∧ x ≤ 2000) ∧ 0 ≤ z ∧ z ≤ 4000 then mo_wt M i x z else -2
def mo_sc (M : kb_M) : Prop := (0 ≤ M 22 10 ∧ M 22 10 ≤ 8) ∧ ∀ k : Int, 0 ≤ k → k < M 22 10 → (-2000 ≤ M 25 k ∧ M 25 k ≤ 2000) ∧ (0 ≤ M 26 k ∧ M 26 k ≤ 4000) ∧ (-100 ≤ M 27 k ∧ M 27 k ≤ 100) ∧ (-200 ≤ M 28 k ∧ M 28 k ≤ 200) ∧ (-200 ≤ M 29 k ∧ M 29 k ≤ 200)
def mo_pointR (M : kb_M) (x z t dx dz : Int) : Int := if ((-2000 ≤ x ∧ x ≤ 2000) ∧ 0 ≤ z ∧ z ≤ 4000) ∧ (-100 ≤ t ∧ t ≤ 100) ∧ (-200 ≤ dx ∧ dx ≤ 200) ∧ -200 ≤ dz ∧ dz ≤ 200 then (if M 22 10 = 8 then -4 else M 22 10) else -2
def mo_putM (M : kb_M) (x z t dx dz : Int) : kb_M := kb_wr (kb_wr (kb_wr (kb_wr (kb_wr (kb_wr M 25 (M 22 10) x) 26 (M 22 10) z) 27 (M 22 10) t) 28 (M 22 10) dx) 29 (M 22 10) dz) 22 10 (M 22 10 + 1)
def mo_pointM (M : kb_M) (x z t dx dz : Int) : kb_M := if (((-2000 ≤ x ∧ x ≤ 2000) ∧ 0 ≤ z ∧ z ≤ 4000) ∧ (-100 ≤ t ∧ t ≤ 100) ∧ (-200 ≤ dx ∧ dx ≤ 200) ∧ -200 ≤ dz ∧ dz ≤ 200) ∧ M 22 10 ≠ 8 then mo_putM M x z t dx dz else M
def mo_pointAtR (M : kb_M) (k t : Int) : Int := if (0 ≤ k ∧ k < M 22 10) ∧ 0 ≤ t ∧ t ≤ 2 then (if t = 0 then M 25 k else if t = 1 then M 26 k else M 27 k) else -5000
def mo_ld (M : kb_M) (lk i s a : Int) : kb_M := fun q => if q = 31 then (fun p => M 31 p + (if (0 ≤ s ∧ s ≤ 399) ∧ p = 400 * (16 * lk + i) + s then a else 0)) else M q
theorem mo_ld_in (M : kb_M) (lk i s a : Int) (h : 0 ≤ s ∧ s ≤ 399) : kb_wr M 31 (400 * (16 * lk + i) + s) (M 31 (400 * (16 * lk + i) + s) + a) = mo_ld M lk i s a := by
  apply sp_ext
  intro q k
  simp only [kb_wr, mo_ld, sp_ia]
  grind
theorem mo_ld_out (M : kb_M) (lk i s a : Int) (h : ¬ (0 ≤ s ∧ s ≤ 399)) : M = mo_ld M lk i s a := by
  apply sp_ext
  intro q k
  simp only [mo_ld, sp_ia]
  grind
def mo_sampleR (M : kb_M) (lk i s : Int) : Int := if (0 ≤ lk ∧ lk < M 22 16) ∧ (0 ≤ i ∧ i < M 22 0) ∧ 0 ≤ s ∧ s ≤ 399 then mo_at M lk i s else -1000000
def mo_windowR (M : kb_M) (w f : Int) : Int := if (0 ≤ w ∧ w ≤ 2) ∧ 1 ≤ f ∧ f ≤ 9 then M 22 5 else -2
def mo_windowM (M : kb_M) (w f : Int) : kb_M := if (0 ≤ w ∧ w ≤ 2) ∧ 1 ≤ f ∧ f ≤ 9 then kb_wr (kb_wr M 22 5 w) 22 6 f else M
def mo_sumR (M : kb_M) (lk x z : Int) : Int := if (0 ≤ lk ∧ lk < M 22 16) ∧ (-2000 ≤ x ∧ x ≤ 2000) ∧ 0 ≤ z ∧ z ≤ 4000 then mo_as M lk x z else -1000000000
def mo_meanR (M : kb_M) (b x z : Int) : Int := if (0 < b ∧ b < 2 ^ (M 22 16).toNat) ∧ (-2000 ≤ x ∧ x ≤ 2000) ∧ 0 ≤ z ∧ z ≤ 4000 then mo_jm M b x z else -1000000000
def mo_capR (M : kb_M) (n : Int) : Int := if 0 ≤ n ∧ n ≤ 1000000 then M 22 7 else -2
def mo_capM (M : kb_M) (n : Int) : kb_M := if 0 ≤ n ∧ n ≤ 1000000 then kb_wr M 22 7 n else M
def mo_tkI (M : kb_M) (j : Int) : kb_M := kb_wr M 22 8 (sp_cool (M 22 8) j.toNat)
theorem mo_tkI_S (M : kb_M) (i : Int) (h : 0 ≤ i) : kb_wr (mo_tkI M i) 22 8 (sp_cool (M 22 8) i.toNat - (sp_cool (M 22 8) i.toNat + 31) / 32) = mo_tkI M (i + 1) := by
  unfold mo_tkI
  rw [sp_wrwr, sp_coolS _ h]
def mo_tickR (M : kb_M) (n : Int) : Int := if 1 ≤ n ∧ n ≤ 1000 then sp_cool (M 22 8) n.toNat else -2
def mo_tickM (M : kb_M) (n : Int) : kb_M := if 1 ≤ n ∧ n ≤ 1000 then mo_tkI M n else M
def mo_countR (M : kb_M) (t : Int) : Int := if t = 0 then M 22 0 else if t = 1 then mo_al M else if t = 2 then M 22 10 else if t = 3 then M 22 16 else if t = 4 then M 22 19 else if t = 5 then M 22 8 else if t = 6 then M 22 9 else -2
def mo_fanAtR (M : kb_M) (a k : Int) : Int := if (0 ≤ a ∧ a < M 22 24) ∧ 0 ≤ k ∧ k < M 22 25 then M 36 (16 * a + k) else -1000000000
def mo_IF (M : kb_M) : Prop := (0 ≤ M 22 24 ∧ M 22 24 ≤ 9) ∧ (0 ≤ M 22 25 ∧ M 22 25 ≤ 16) ∧ (M 22 24 ≠ 0 → 1 ≤ M 22 25 ∧ 1 ≤ M 22 26 ∧ M 22 26 ≤ 250) ∧ ∀ j : Int, -2000 ≤ M 36 j ∧ M 36 j ≤ 2000
def mo_IR (M : kb_M) : Prop := (0 ≤ M 22 19 ∧ M 22 19 ≤ 4) ∧ ∀ j : Int, 0 ≤ j → j < M 22 19 → (1 ≤ M 32 j ∧ M 32 j ≤ 16) ∧ (1 ≤ M 33 j ∧ M 33 j ≤ 16)
def mo_px (M : kb_M) (p k : Int) : Int := M 34 (256 * p + k)
def mo_pixelR (M : kb_M) (p k l : Int) : Int := if (0 ≤ p ∧ p < M 22 19) ∧ (0 ≤ k ∧ k ≤ M 32 p - 1) ∧ 0 ≤ l ∧ l ≤ M 33 p - 1 then M 34 (256 * p + k + M 32 p * l) else -1000000000
def mo_mxI (M : kb_M) (p : Int) : Int := sp_best (fun k => M 34 (256 * p + k)) (M 32 p * M 33 p - 1).toNat
def mo_aboutR (M : kb_M) (p t : Int) : Int := if (0 ≤ p ∧ p < M 22 19) ∧ 0 ≤ t ∧ t ≤ 3 then (if t = 0 then M 32 p else if t = 1 then M 33 p else if t = 2 then M 34 (256 * p + mo_mxI M p) else mo_mxI M p) else -2
def mo_sh (M : kb_M) (q0 : Nat) (d j : Int) : kb_M := fun q => if q = q0 then (fun p => if 0 ≤ p ∧ p < j - d then M q0 (p + d) else M q0 p) else M q
theorem mo_sh_0 (M : kb_M) (q0 : Nat) (d : Int) : M = mo_sh M q0 d d := by
  apply sp_ext
  intro q k
  simp only [mo_sh, sp_ia]
  split
  · rw [if_neg (by omega)]
    subst q
    rfl
  · rfl
theorem mo_sh_r (M : kb_M) (q0 : Nat) {d i : Int} (h : 0 ≤ d) : mo_sh M q0 d i q0 i = M q0 i := by
  simp only [mo_sh, sp_ia, if_true]
  rw [if_neg (by omega)]
theorem mo_sh_S (M : kb_M) (q0 : Nat) {d i : Int} (hd : 0 ≤ d) (h : d ≤ i) : kb_wr (mo_sh M q0 d i) q0 (i - d) (M q0 i) = mo_sh M q0 d (i + 1) := by
  apply sp_ext
  intro q k
  simp only [kb_wr, mo_sh, sp_ia]
  by_cases hq : q = q0
  · subst hq
    simp only [if_true]
    by_cases hk : k = i - d
    · rw [if_pos hk, if_pos (by omega)]
      congr 1
      omega
    · rw [if_neg hk]
      by_cases h1 : 0 ≤ k ∧ k < i - d
      · rw [if_pos h1, if_pos (by omega)]
      · rw [if_neg h1, if_neg (by omega)]
  · simp only [hq, if_false]
theorem mo_pow_b {k : Int} (h : 0 ≤ k ∧ k ≤ 6) : 0 < (2 : Int) ^ k.toNat ∧ (2 : Int) ^ k.toNat ≤ 64 := by
  have h2 : k = 0 ∨ k = 1 ∨ k = 2 ∨ k = 3 ∨ k = 4 ∨ k = 5 ∨ k = 6 := by omega
  rcases h2 with rfl | rfl | rfl | rfl | rfl | rfl | rfl <;> decide
theorem mo_jm_b3 {M : kb_M} {x z b : Int} (h : mo_IP M) (hb : mo_IL M) (hx : -2000 ≤ x ∧ x ≤ 2000) (hz : 0 ≤ z ∧ z ≤ 4000) : -1600 ≤ mo_jm M b x z ∧ mo_jm M b x z ≤ 1600 := mo_jm_b h hb.2.1 hx hz b

