/-! the reference: looks, pictures, turns, fans, digest -/
def mo_cl (M : kb_M) (l j : Int) : kb_M := fun q => if q = 31 then (fun p => if 6400 * l ≤ p ∧ p < 6400 * l + j then 0 else M 31 p) else M q
theorem mo_cl_0 (M : kb_M) (l : Int) : M = mo_cl M l 0 := by
  apply sp_ext
  intro q k
  simp only [mo_cl, sp_ia]
  split
  · rw [if_neg (by omega)]
    subst q
    rfl
  · rfl
theorem mo_cl_S (M : kb_M) (l i : Int) (h : 0 ≤ i) : kb_wr (mo_cl M l i) 31 (6400 * l + i) 0 = mo_cl M l (i + 1) := by
  apply sp_ext
  intro q k
  simp only [kb_wr, mo_cl, sp_ia]
  grind
def mo_hearI (A : kb_M) (l ds st x z j : Int) : kb_M := fun q => if q = 31 then (fun p => A 31 p + (if l * 6400 ≤ p ∧ p < l * 6400 + j * 400 ∧ A 24 ((p - l * 6400) / 400) = 0 then st * sp_hat (ds + mo_dly A ((p - l * 6400) / 400) x z) ((p - l * 6400) % 400) else 0)) else A q
theorem mo_hearI_0 (A : kb_M) (l ds st x z : Int) : A = mo_hearI A l ds st x z 0 := by
  apply sp_ext
  intro q p
  simp only [mo_hearI, sp_ia]
  split
  · rw [if_neg (by omega)]
    subst q
    omega
  · rfl
theorem mo_hearI_D (A : kb_M) (l ds st x z a : Int) (_ : 0 ≤ a) (hd : A 24 a ≠ 0) : mo_hearI A l ds st x z a = mo_hearI A l ds st x z (a + 1) := by
  apply sp_ext
  intro q p
  simp only [mo_hearI, sp_ia]
  split
  · by_cases hp : l * 6400 + a * 400 ≤ p ∧ p < l * 6400 + a * 400 + 400
    · have e : (p - l * 6400) / 400 = a := by omega
      rw [e, if_neg (by omega), if_neg (by omega)]
    · congr 1
      by_cases h1 : l * 6400 ≤ p ∧ p < l * 6400 + a * 400 ∧ A 24 ((p - l * 6400) / 400) = 0
      · rw [if_pos h1, if_pos (by omega)]
      · rw [if_neg h1, if_neg (by omega)]
  · rfl
theorem mo_hearI_S (A : kb_M) (l ds st x z a d : Int) (h0 : 0 ≤ a ∧ a < 16) (hd : A 24 a = 0) (he : d = ds + mo_dly A a x z) : mo_ld (mo_ld (mo_ld (mo_hearI A l ds st x z a) l a (d - 1) st) l a d (2 * st)) l a (d + 1) st = mo_hearI A l ds st x z (a + 1) := by
  apply sp_ext
  intro q p
  simp only [mo_ld, mo_hearI, sp_ia]
  by_cases hq : q = 31
  · subst hq
    simp only [if_true]
    by_cases hp : l * 6400 + a * 400 ≤ p ∧ p < l * 6400 + a * 400 + 400
    · have e : (p - l * 6400) / 400 = a := by omega
      have e2 : (p - l * 6400) % 400 = p - l * 6400 - a * 400 := by omega
      rw [e, e2, ← he]
      unfold sp_hat
      rw [if_neg (show ¬ (l * 6400 ≤ p ∧ p < l * 6400 + a * 400 ∧ A 24 a = 0) by omega), if_pos (show l * 6400 ≤ p ∧ p < l * 6400 + (a + 1) * 400 ∧ A 24 a = 0 by omega)]
      by_cases c1 : p = l * 6400 + a * 400 + (d - 1)
      · rw [if_pos (show (0 ≤ d - 1 ∧ d - 1 ≤ 399) ∧ p = 400 * (16 * l + a) + (d - 1) by omega), if_neg (show ¬ ((0 ≤ d ∧ d ≤ 399) ∧ p = 400 * (16 * l + a) + d) by omega), if_neg (show ¬ ((0 ≤ d + 1 ∧ d + 1 ≤ 399) ∧ p = 400 * (16 * l + a) + (d + 1)) by omega), if_pos (show p - l * 6400 - a * 400 = d - 1 by omega)]
        omega
      · rw [if_neg (show ¬ ((0 ≤ d - 1 ∧ d - 1 ≤ 399) ∧ p = 400 * (16 * l + a) + (d - 1)) by omega), if_neg (show ¬ p - l * 6400 - a * 400 = d - 1 by omega)]
        by_cases c2 : p = l * 6400 + a * 400 + d
        · rw [if_pos (show (0 ≤ d ∧ d ≤ 399) ∧ p = 400 * (16 * l + a) + d by omega), if_neg (show ¬ ((0 ≤ d + 1 ∧ d + 1 ≤ 399) ∧ p = 400 * (16 * l + a) + (d + 1)) by omega), if_pos (show p - l * 6400 - a * 400 = d by omega)]
          omega
        · rw [if_neg (show ¬ ((0 ≤ d ∧ d ≤ 399) ∧ p = 400 * (16 * l + a) + d) by omega), if_neg (show ¬ p - l * 6400 - a * 400 = d by omega)]
          by_cases c3 : p = l * 6400 + a * 400 + (d + 1)
          · rw [if_pos (show (0 ≤ d + 1 ∧ d + 1 ≤ 399) ∧ p = 400 * (16 * l + a) + (d + 1) by omega), if_pos (show p - l * 6400 - a * 400 = d + 1 by omega)]
            omega
          · rw [if_neg (show ¬ ((0 ≤ d + 1 ∧ d + 1 ≤ 399) ∧ p = 400 * (16 * l + a) + (d + 1)) by omega), if_neg (show ¬ p - l * 6400 - a * 400 = d + 1 by omega)]
            omega
    · rw [if_neg (show ¬ ((0 ≤ d - 1 ∧ d - 1 ≤ 399) ∧ p = 400 * (16 * l + a) + (d - 1)) by omega), if_neg (show ¬ ((0 ≤ d ∧ d ≤ 399) ∧ p = 400 * (16 * l + a) + d) by omega), if_neg (show ¬ ((0 ≤ d + 1 ∧ d + 1 ≤ 399) ∧ p = 400 * (16 * l + a) + (d + 1)) by omega)]
      simp only [Int.add_zero]
      congr 1
      by_cases h1 : l * 6400 ≤ p ∧ p < l * 6400 + a * 400 ∧ A 24 ((p - l * 6400) / 400) = 0
      · rw [if_pos h1, if_pos (by omega)]
      · rw [if_neg h1, if_neg (by omega)]
  · simp only [hq, if_false]
theorem mo_hearI_b {A : kb_M} {l ds t x z j b : Int} (h : ∀ p : Int, -b ≤ A 31 p ∧ A 31 p ≤ b) (ht : -100 ≤ t ∧ t ≤ 100) : ∀ p : Int, -(b + 200) ≤ mo_hearI A l ds t x z j 31 p ∧ mo_hearI A l ds t x z j 31 p ≤ b + 200 := by
  intro p
  have h1 := h p
  show -(b + 200) ≤ A 31 p + _ ∧ A 31 p + _ ≤ b + 200
  split
  · have := sp_hatm (d := ds + mo_dly A ((p - l * 6400) / 400) x z) (s := (p - l * 6400) % 400) ht
    omega
  · omega
theorem mo_ld_b {A : kb_M} {l i s t b : Int} (h : ∀ p : Int, -b ≤ A 31 p ∧ A 31 p ≤ b) (ht : -200 ≤ t ∧ t ≤ 200) : ∀ p : Int, -(b + 200) ≤ mo_ld A l i s t 31 p ∧ mo_ld A l i s t 31 p ≤ b + 200 := by
  intro p
  have h1 := h p
  show -(b + 200) ≤ A 31 p + _ ∧ A 31 p + _ ≤ b + 200
  split <;> omega
def mo_hear (M : kb_M) (l t k : Int) : kb_M := mo_hearI M l (mo_dly M t (M 25 k) (M 26 k)) (M 27 k) (M 25 k) (M 26 k) (M 22 0)
def mo_lk (M : kb_M) (l t : Int) : Nat → kb_M
  | 0 => M
  | n + 1 => mo_hear (mo_lk M l t n) l t (n : Int)
theorem mo_lkS (M : kb_M) (l t : Int) {i : Int} (h : 0 ≤ i) : mo_lk M l t (i + 1).toNat = mo_hear (mo_lk M l t i.toNat) l t i := by
  obtain ⟨n, rfl⟩ := Int.eq_ofNat_of_zero_le h
  show mo_lk M l t (n + 1) = _
  rfl
theorem mo_lk_q (M : kb_M) (l t : Int) (n : Nat) {q : Nat} (h : q ≠ 31) : mo_lk M l t n q = M q := by
  induction n with
  | zero => rfl
  | succ n ih =>
    simp only [mo_lk]
    rw [← ih]
    unfold mo_hear mo_hearI
    simp [h]
theorem mo_lk_b {M : kb_M} {l t : Int} (n : Nat) (h : ∀ p : Int, -1600 ≤ M 31 p ∧ M 31 p ≤ 1600) (hsc : mo_sc M) (hn : (n : Int) ≤ M 22 10) : ∀ p : Int, -(1600 + 200 * (n : Int)) ≤ mo_lk M l t n 31 p ∧ mo_lk M l t n 31 p ≤ 1600 + 200 * (n : Int) := by
  induction n with
  | zero => intro p; have := h p; simp only [mo_lk]; omega
  | succ n ih =>
    intro p
    have h1 := ih (by omega)
    simp only [mo_lk]
    unfold mo_hear
    have ht : -100 ≤ mo_lk M l t n 27 n ∧ mo_lk M l t n 27 n ≤ 100 := by
      rw [mo_lk_q M l t n (show 27 ≠ 31 by decide)]
      exact (hsc.2 n (by omega) (by omega)).2.2.1
    have h2 := mo_hearI_b (A := mo_lk M l t n) (l := l) (ds := mo_dly (mo_lk M l t n) t (mo_lk M l t n 25 n) (mo_lk M l t n 26 n)) (x := mo_lk M l t n 25 n) (z := mo_lk M l t n 26 n) (j := mo_lk M l t n 22 0) (b := 1600 + 200 * (n : Int)) h1 ht p
    omega
theorem mo_lk_IP {M : kb_M} {l t : Int} (n : Nat) (h : mo_IP M) : mo_IP (mo_lk M l t n) := by
  unfold mo_IP mo_xs at *
  rw [mo_lk_q M l t n (show 22 ≠ 31 by decide), mo_lk_q M l t n (show 23 ≠ 31 by decide)]
  exact h
def mo_mvI (M : kb_M) (j : Int) : kb_M := fun q => if q = 25 then (fun k => if 0 ≤ k ∧ k < j then max (-2000) (min (M 25 k + M 28 k) 2000) else M 25 k) else if q = 26 then (fun k => if 0 ≤ k ∧ k < j then max 0 (min (M 26 k + M 29 k) 4000) else M 26 k) else M q
theorem mo_mvI_0 (M : kb_M) : M = mo_mvI M 0 := by
  apply sp_ext
  intro q k
  simp only [mo_mvI, sp_ia]
  grind
theorem mo_mvI_S (M : kb_M) (i : Int) (h : 0 ≤ i) : kb_wr (kb_wr (mo_mvI M i) 25 i (max (-2000) (min (M 25 i + M 28 i) 2000))) 26 i (max 0 (min (M 26 i + M 29 i) 4000)) = mo_mvI M (i + 1) := by
  apply sp_ext
  intro q k
  simp only [kb_wr, mo_mvI, sp_ia]
  grind
/-- room for one more look: where it lies, and the world with the elder ones moved on -/
def mo_L (M : kb_M) : Int := if M 22 16 = 6 then 5 else M 22 16
def mo_lsh (M : kb_M) : kb_M := if M 22 16 = 6 then kb_wr (mo_sh (mo_sh M 31 6400 38400) 30 1 6) 22 16 5 else M
def mo_lbg (M : kb_M) (t : Int) : kb_M := kb_wr (mo_cl (mo_lsh M) (mo_L M) 6400) 30 (mo_L M) t
def mo_lkN (M : kb_M) (t : Int) : kb_M := kb_wr (kb_wr (kb_wr (mo_mvI (mo_lk (mo_lbg M t) (mo_L M) t (M 22 10).toNat) (M 22 10)) 22 8 (M 22 8 + mo_al M * mo_al M * mo_al M)) 22 9 (M 22 9 + 1)) 22 16 (mo_L M + 1)
def mo_lookR (M : kb_M) (t : Int) : Int := if 0 ≤ t ∧ t < M 22 0 then (if M 24 t = 0 then (if M 22 7 < M 22 8 + mo_al M * mo_al M * mo_al M then -5 else mo_L M + 1) else -3) else -2
def mo_lookM (M : kb_M) (t : Int) : kb_M := if (0 ≤ t ∧ t < M 22 0) ∧ M 24 t = 0 ∧ ¬ M 22 7 < M 22 8 + mo_al M * mo_al M * mo_al M then mo_lkN M t else M
/-- room for one more picture -/
def mo_P (M : kb_M) : Int := if M 22 19 = 4 then 3 else M 22 19
def mo_nx (M : kb_M) : kb_M := if M 22 19 = 4 then kb_wr (mo_sh (mo_sh (mo_sh M 34 256 1024) 32 1 4) 33 1 4) 22 19 4 else kb_wr M 22 19 (M 22 19 + 1)
theorem mo_sh_comm (M : kb_M) {a b : Nat} (h : a ≠ b) (d e i j : Int) (v : Int) (k : Int) : kb_wr (mo_sh M a d i) b k v = mo_sh (kb_wr M b k v) a d i := by
  apply sp_ext
  intro q p
  simp only [kb_wr, mo_sh, sp_ia]
  by_cases h1 : q = a
  · subst h1
    simp [h]
  · simp [h1]
theorem mo_sh2_S (M : kb_M) {a b : Nat} (hab : a ≠ b) {i : Int} (h : 1 ≤ i) : kb_wr (kb_wr (mo_sh (mo_sh M a 1 i) b 1 i) a (i - 1) (M a i)) b (i - 1) (M b i) = mo_sh (mo_sh M a 1 (i + 1)) b 1 (i + 1) := by
  rw [mo_sh_comm _ (Ne.symm hab) 1 1 i i, mo_sh_S M a (by decide) h]
  have e : M b i = (mo_sh M a 1 (i + 1)) b i := by
    simp only [mo_sh, sp_ia]
    rw [if_neg (Ne.symm hab)]
  rw [e]
  exact mo_sh_S _ _ (by decide) h
theorem mo_sh2_a (M : kb_M) {a b : Nat} (hab : a ≠ b) (i : Int) : mo_sh (mo_sh M a 1 i) b 1 i a i = M a i := by
  have : mo_sh (mo_sh M a 1 i) b 1 i a i = mo_sh M a 1 i a i := by
    rw [show mo_sh (mo_sh M a 1 i) b 1 i a = mo_sh M a 1 i a by unfold mo_sh; simp [hab]]
  rw [this, mo_sh_r _ _ (by decide)]
theorem mo_sh2_b (M : kb_M) {a b : Nat} (hab : a ≠ b) (i v k : Int) : kb_wr (mo_sh (mo_sh M a 1 i) b 1 i) a k v b i = M b i := by
  rw [kb_wr_other _ _ _ (Ne.symm hab), mo_sh_r _ _ (by decide)]
  simp only [mo_sh, sp_ia]
  rw [if_neg (Ne.symm hab)]
/-- pictures -/
def mo_pc (B : kb_M) (b x0 z0 sx sz w p : Int) : Nat → kb_M
  | 0 => B
  | n + 1 => kb_wr (mo_pc B b x0 z0 sx sz w p n) 34 (256 * p + (n : Int)) (mo_jp (mo_pc B b x0 z0 sx sz w p n) b (x0 + ((n : Int) % w) * sx) (z0 + ((n : Int) / w) * sz))
theorem mo_pcS (B : kb_M) (b x0 z0 sx sz w p k l v : Int) (hk : 0 ≤ k ∧ k < w) (hl : 0 ≤ l) (hv : v = mo_jp (mo_pc B b x0 z0 sx sz w p (w * l + k).toNat) b (x0 + k * sx) (z0 + l * sz)) : kb_wr (mo_pc B b x0 z0 sx sz w p (w * l + k).toNat) 34 (256 * p + k + w * l) v = mo_pc B b x0 z0 sx sz w p (w * l + (k + 1)).toNat := by
  subst hv
  have h0 : 0 ≤ w * l := Int.mul_nonneg (by omega) hl
  obtain ⟨n, hn⟩ := Int.eq_ofNat_of_zero_le (show 0 ≤ w * l + k by omega)
  have e1 : (w * l + (k + 1)).toNat = n + 1 := by omega
  have e2 : (w * l + k).toNat = n := by omega
  have e3 : (n : Int) % w = k := by rw [← hn, Int.add_comm, Int.add_mul_emod_self_left, Int.emod_eq_of_lt hk.1 hk.2]
  have e4 : (n : Int) / w = l := by rw [← hn, Int.add_comm, Int.add_mul_ediv_left _ _ (by omega), Int.ediv_eq_zero_of_lt hk.1 hk.2, Int.zero_add]
  rw [e1, e2]
  simp only [mo_pc]
  rw [e3, e4, show 256 * p + k + w * l = 256 * p + (n : Int) by omega]
theorem mo_pc_q (B : kb_M) (b x0 z0 sx sz w p : Int) (n : Nat) {q : Nat} (h : q ≠ 34) : mo_pc B b x0 z0 sx sz w p n q = B q := by
  induction n with
  | zero => rfl
  | succ n ih =>
    simp only [mo_pc]
    rw [kb_wr_other _ _ _ h, ih]
theorem mo_IP_cg {M N : kb_M} (h1 : ∀ j : Int, j ≠ 19 → j ≠ 24 → j ≠ 25 → j ≠ 26 → N 22 j = M 22 j) (h7 : N 23 = M 23) (h : mo_IP M) : mo_IP N := by
  unfold mo_IP mo_xs at *
  rw [h1 0 (by decide) (by decide) (by decide) (by decide), h1 3 (by decide) (by decide) (by decide) (by decide), h1 4 (by decide) (by decide) (by decide) (by decide), h1 6 (by decide) (by decide) (by decide) (by decide), h7]
  exact h
theorem mo_IL_cg {M N : kb_M} (h1 : ∀ j : Int, j ≠ 19 → j ≠ 24 → j ≠ 25 → j ≠ 26 → N 22 j = M 22 j) (h3 : N 30 = M 30) (h16 : N 31 = M 31) (h : mo_IL M) : mo_IL N := by
  unfold mo_IL at *
  rw [h1 0 (by decide) (by decide) (by decide) (by decide), h1 16 (by decide) (by decide) (by decide) (by decide), h3, h16]
  exact h
def mo_B0 (M : kb_M) (w h : Int) : kb_M := kb_wr (kb_wr (mo_nx M) 32 (mo_P M) w) 33 (mo_P M) h
theorem mo_nx_q (M : kb_M) {q : Nat} (h : q ≠ 22 ∧ q ≠ 32 ∧ q ≠ 33 ∧ q ≠ 34) : mo_nx M q = M q := by
  unfold mo_nx
  split
  · unfold kb_wr mo_sh
    simp [h.1, h.2.1, h.2.2.1, h.2.2.2]
  · unfold kb_wr
    simp [h.1]
theorem mo_nx_22 (M : kb_M) {j : Int} (h : j ≠ 19) : mo_nx M 22 j = M 22 j := by
  unfold mo_nx
  split
  · unfold kb_wr mo_sh
    simp [h]
  · unfold kb_wr
    simp [h]
theorem mo_nx_19 (M : kb_M) : mo_nx M 22 19 = mo_P M + 1 := by
  unfold mo_nx mo_P
  split
  · unfold kb_wr mo_sh
    simp
  · unfold kb_wr
    simp
theorem mo_pcB_q (M : kb_M) (b x0 z0 sx sz w h p : Int) (n : Nat) {q : Nat} (hq : q ≠ 22 ∧ q ≠ 32 ∧ q ≠ 33 ∧ q ≠ 34) : mo_pc (mo_B0 M w h) b x0 z0 sx sz w p n q = M q := by
  rw [mo_pc_q _ _ _ _ _ _ _ _ _ hq.2.2.2]
  unfold mo_B0
  rw [kb_wr_other _ _ _ hq.2.2.1, kb_wr_other _ _ _ hq.2.1, mo_nx_q _ hq]
theorem mo_pcB_22 (M : kb_M) (b x0 z0 sx sz w h p : Int) (n : Nat) {j : Int} (hj : j ≠ 19) : mo_pc (mo_B0 M w h) b x0 z0 sx sz w p n 22 j = M 22 j := by
  rw [mo_pc_q _ _ _ _ _ _ _ _ _ (show 22 ≠ 34 by decide)]
  unfold mo_B0
  rw [kb_wr_other _ _ _ (show 22 ≠ 33 by decide), kb_wr_other _ _ _ (show 22 ≠ 32 by decide), mo_nx_22 _ hj]
theorem mo_pcB_IP {M : kb_M} {b x0 z0 sx sz w h p : Int} (n : Nat) (hI : mo_IP M) : mo_IP (mo_pc (mo_B0 M w h) b x0 z0 sx sz w p n) := mo_IP_cg (fun j h1 _ _ _ => mo_pcB_22 _ _ _ _ _ _ _ _ _ _ h1) (mo_pcB_q _ _ _ _ _ _ _ _ _ _ (by decide)) hI
theorem mo_pcB_IL {M : kb_M} {b x0 z0 sx sz w h p : Int} (n : Nat) (hI : mo_IL M) : mo_IL (mo_pc (mo_B0 M w h) b x0 z0 sx sz w p n) := mo_IL_cg (fun j h1 _ _ _ => mo_pcB_22 _ _ _ _ _ _ _ _ _ _ h1) (mo_pcB_q _ _ _ _ _ _ _ _ _ _ (by decide)) (mo_pcB_q _ _ _ _ _ _ _ _ _ _ (by decide)) hI
theorem mo_pcB_sz (M : kb_M) (b x0 z0 sx sz w h p : Int) (n : Nat) : mo_pc (mo_B0 M w h) b x0 z0 sx sz w p n 22 19 = mo_P M + 1 := by
  rw [mo_pc_q _ _ _ _ _ _ _ _ _ (show 22 ≠ 34 by decide)]
  unfold mo_B0
  rw [kb_wr_other _ _ _ (show 22 ≠ 33 by decide), kb_wr_other _ _ _ (show 22 ≠ 32 by decide), mo_nx_19]
theorem mo_P_b {M : kb_M} (h : 0 ≤ M 22 19 ∧ M 22 19 ≤ 4) : 0 ≤ mo_P M ∧ mo_P M < 4 := by
  unfold mo_P
  split <;> omega
def mo_picR (M : kb_M) (b x z sx sz w h : Int) : Int := if (0 < b ∧ b < 2 ^ (M 22 16).toNat) ∧ ((-2000 ≤ x ∧ x ≤ 2000) ∧ 0 ≤ z ∧ z ≤ 4000) ∧ (1 ≤ sx ∧ sx ≤ 500) ∧ (1 ≤ sz ∧ sz ≤ 500) ∧ (1 ≤ w ∧ w ≤ 16) ∧ 1 ≤ h ∧ h ≤ 16 then mo_P M + 1 else -2
def mo_picM (M : kb_M) (b x z sx sz w h : Int) : kb_M := if (0 < b ∧ b < 2 ^ (M 22 16).toNat) ∧ ((-2000 ≤ x ∧ x ≤ 2000) ∧ 0 ≤ z ∧ z ≤ 4000) ∧ (1 ≤ sx ∧ sx ≤ 500) ∧ (1 ≤ sz ∧ sz ≤ 500) ∧ (1 ≤ w ∧ w ≤ 16) ∧ 1 ≤ h ∧ h ≤ 16 then mo_pc (mo_B0 M w h) b x z sx sz w (mo_P M) (w * h).toNat else M
def mo_md (M : kb_M) (p q j : Int) : kb_M := fun c => if c = 35 then (fun k => if 0 ≤ k ∧ k < j then sp_nm (M 34 (256 * p + k) - M 34 (256 * q + k)) else M 35 k) else M c
theorem mo_md_0 (M : kb_M) (p q : Int) : M = mo_md M p q 0 := by
  apply sp_ext
  intro c k
  simp only [mo_md, sp_ia]
  grind
theorem mo_md_S (M : kb_M) (p q i : Int) (h : 0 ≤ i) : kb_wr (mo_md M p q i) 35 i (sp_nm (M 34 (256 * p + i) - M 34 (256 * q + i))) = mo_md M p q (i + 1) := by
  apply sp_ext
  intro c k
  simp only [kb_wr, mo_md, sp_ia]
  grind
def mo_cp (M : kb_M) (t j : Int) : kb_M := fun c => if c = 34 then (fun k => if 256 * t ≤ k ∧ k < 256 * t + j then M 35 (k - 256 * t) else M 34 k) else M c
theorem mo_cp_0 (M : kb_M) (t : Int) : M = mo_cp M t 0 := by
  apply sp_ext
  intro c k
  simp only [mo_cp, sp_ia]
  split
  · rw [if_neg (by omega)]
    subst c
    rfl
  · rfl
theorem mo_cp_S (M : kb_M) (t i : Int) (h : 0 ≤ i) : kb_wr (mo_cp M t i) 34 (256 * t + i) (M 35 i) = mo_cp M t (i + 1) := by
  apply sp_ext
  intro c k
  simp only [kb_wr, mo_cp, sp_ia]
  by_cases hc : c = 34
  · subst hc
    simp only [if_true]
    by_cases hk : k = 256 * t + i
    · rw [if_pos hk, if_pos (by omega)]
      congr 1
      omega
    · rw [if_neg hk]
      by_cases h1 : 256 * t ≤ k ∧ k < 256 * t + i
      · rw [if_pos h1, if_pos (by omega)]
      · rw [if_neg h1, if_neg (by omega)]
  · simp only [hc, if_false]
def mo_difR (M : kb_M) (p q : Int) : Int := if (0 ≤ p ∧ p < M 22 19) ∧ 0 ≤ q ∧ q < M 22 19 then (if M 32 p = M 32 q ∧ M 33 p = M 33 q then mo_P M + 1 else -3) else -2
def mo_D0 (M : kb_M) (p q : Int) : kb_M := mo_md M p q (M 32 p * M 33 p)
def mo_difM (M : kb_M) (p q : Int) : kb_M := if ((0 ≤ p ∧ p < M 22 19) ∧ 0 ≤ q ∧ q < M 22 19) ∧ M 32 p = M 32 q ∧ M 33 p = M 33 q then mo_cp (kb_wr (kb_wr (mo_nx (mo_D0 M p q)) 32 (mo_P M) (M 32 p)) 33 (mo_P M) (M 33 p)) (mo_P M) (M 32 p * M 33 p) else M
theorem mo_dif_sz (M : kb_M) (p q w h t j : Int) (n : Int) : mo_cp (kb_wr (kb_wr (mo_nx (mo_md M p q n)) 32 t w) 33 t h) t j 22 19 = mo_P M + 1 := mo_nx_19 (mo_md M p q n)
/-- the turn -/
def mo_lt (M : kb_M) (lk o x z s i t : Int) : Int := mo_at M lk i (mo_dly M (M 30 lk) x z + mo_dly M i x z + t) * mo_at M o i (mo_dly M (M 30 lk) x z + mo_dly M i x z + t + s)
def mo_li (M : kb_M) (lk o x z s i : Int) (n : Nat) : Int := sp_sum (fun t => mo_lt M lk o x z s i (t - 6)) n
def mo_lkn (M : kb_M) (lk o x z s : Int) : Int := sp_sum (fun i => mo_li M lk o x z s i 13) (M 22 0).toNat
theorem mo_liS (M : kb_M) (lk o x z s i : Int) {t : Int} (h : -6 ≤ t) : mo_li M lk o x z s i (t + 1 + 6).toNat = mo_li M lk o x z s i (t + 6).toNat + mo_lt M lk o x z s i t := by
  unfold mo_li
  have h1 := sp_sumS (fun t => mo_lt M lk o x z s i (t - 6)) (i := t + 6) (by omega)
  rw [show t + 1 + 6 = t + 6 + 1 by omega, h1]
  show _ + mo_lt M lk o x z s i (t + 6 - 6) = _
  rw [Int.add_sub_cancel]
theorem sp_prod_b {a b : Int} (h1 : -1600 ≤ a ∧ a ≤ 1600) (h2 : -1600 ≤ b ∧ b ≤ 1600) : -2560000 ≤ a * b ∧ a * b ≤ 2560000 := by
  have h3 := sp_mulb (a := a + 1600) (b := b + 1600) (A := 3200) (B := 3200) (by omega) (by omega) (by omega) (by omega)
  have h4 := sp_mulb (a := 1600 - a) (b := b + 1600) (A := 3200) (B := 3200) (by omega) (by omega) (by omega) (by omega)
  have h5 := sp_mulb (a := a + 1600) (b := 1600 - b) (A := 3200) (B := 3200) (by omega) (by omega) (by omega) (by omega)
  have h6 := sp_mulb (a := 1600 - a) (b := 1600 - b) (A := 3200) (B := 3200) (by omega) (by omega) (by omega) (by omega)
  have e3 : (a + 1600) * (b + 1600) = a * b + 1600 * a + 1600 * b + 2560000 := by grind
  have e4 : (1600 - a) * (b + 1600) = -(a * b) - 1600 * a + 1600 * b + 2560000 := by grind
  have e5 : (a + 1600) * (1600 - b) = -(a * b) + 1600 * a - 1600 * b + 2560000 := by grind
  have e6 : (1600 - a) * (1600 - b) = a * b - 1600 * a - 1600 * b + 2560000 := by grind
  omega
theorem mo_lkn_b {M : kb_M} (h : ∀ p : Int, -1600 ≤ M 31 p ∧ M 31 p ≤ 1600) (hn : 0 ≤ M 22 0 ∧ M 22 0 ≤ 16) (lk o x z s : Int) : -532480000 ≤ mo_lkn M lk o x z s ∧ mo_lkn M lk o x z s ≤ 532480000 := by
  have hb : ∀ i, -33280000 ≤ mo_li M lk o x z s i 13 ∧ mo_li M lk o x z s i 13 ≤ 33280000 := by
    intro i
    have := sp_sum_b (f := fun t => mo_lt M lk o x z s i (t - 6)) (b := 2560000) 13 (fun k _ _ => sp_prod_b (mo_at_b h _ _ _) (mo_at_b h _ _ _))
    unfold mo_li
    omega
  have := sp_sum_b (f := fun i => mo_li M lk o x z s i 13) (b := 33280000) (M 22 0).toNat (fun k _ _ => hb _)
  unfold mo_lkn
  omega
theorem mo_tnS (f : Int → Int) {k : Int} (h : 1 ≤ k) : sp_tn f (k + 1 - 1).toNat = if f (sp_tn f (k - 1).toNat) < f (sp_cd k.toNat) then sp_cd k.toNat else sp_tn f (k - 1).toNat := by
  obtain ⟨n, rfl⟩ : ∃ n : Nat, k = (n : Int) + 1 := ⟨(k - 1).toNat, by omega⟩
  have e1 : ((n : Int) + 1 + 1 - 1).toNat = n + 1 := by omega
  have e2 : ((n : Int) + 1 - 1).toNat = n := by omega
  have e3 : ((n : Int) + 1).toNat = n + 1 := by omega
  rw [e1, e2, e3]
  rfl
theorem mo_cd1 {k : Int} (h : 1 ≤ k) (h1 : k.tmod 2 = 1) : (-(k + 1)).tdiv 2 = sp_cd k.toNat := by
  rw [kb_tm (by omega)] at h1
  unfold sp_cd
  rw [if_pos (by omega), Int.neg_tdiv, kb_td (by omega)]
  omega
theorem mo_cd2 {k : Int} (h : 1 ≤ k) (h1 : k.tmod 2 ≠ 1) : k.tdiv 2 = sp_cd k.toNat := by
  rw [kb_tm (by omega)] at h1
  unfold sp_cd
  rw [if_neg (by omega), kb_td (by omega)]
  omega
def mo_turnR (M : kb_M) (lk o x z : Int) : Int := if (0 ≤ lk ∧ lk < M 22 16) ∧ (0 ≤ o ∧ o < M 22 16) ∧ (-2000 ≤ x ∧ x ≤ 2000) ∧ 0 ≤ z ∧ z ≤ 4000 then (if M 30 lk = M 30 o then sp_tn (mo_lkn M lk o x z) 16 else -101) else -100
/-- the fan -/
def mo_xo (n r a k : Int) : Int := (k * r * (a - (n - 1) / 2)).tdiv 8
def mo_fn (B : kb_M) (lk n m r : Int) : Nat → kb_M
  | 0 => B
  | j + 1 => kb_wr (mo_fn B lk n m r j) 36 (16 * ((j : Int) / m) + (j : Int) % m) (mo_jp (mo_fn B lk n m r j) (2 ^ lk.toNat) (mo_xo n r ((j : Int) / m) ((j : Int) % m)) ((j : Int) % m * r))
theorem mo_fnS (B : kb_M) (lk n m r a k v : Int) (hk : 0 ≤ k ∧ k < m) (ha : 0 ≤ a) (hv : v = mo_jp (mo_fn B lk n m r (m * a + k).toNat) (2 ^ lk.toNat) (mo_xo n r a k) (k * r)) : kb_wr (mo_fn B lk n m r (m * a + k).toNat) 36 (16 * a + k) v = mo_fn B lk n m r (m * a + (k + 1)).toNat := by
  subst hv
  have h0 : 0 ≤ m * a := Int.mul_nonneg (by omega) ha
  obtain ⟨j, hj⟩ := Int.eq_ofNat_of_zero_le (show 0 ≤ m * a + k by omega)
  have e1 : (m * a + (k + 1)).toNat = j + 1 := by omega
  have e2 : (m * a + k).toNat = j := by omega
  have e3 : (j : Int) % m = k := by rw [← hj, Int.add_comm, Int.add_mul_emod_self_left, Int.emod_eq_of_lt hk.1 hk.2]
  have e4 : (j : Int) / m = a := by rw [← hj, Int.add_comm, Int.add_mul_ediv_left _ _ (by omega), Int.ediv_eq_zero_of_lt hk.1 hk.2, Int.zero_add]
  rw [e1, e2]
  simp only [mo_fn]
  rw [e3, e4]
theorem mo_fn_q (B : kb_M) (lk n m r : Int) (j : Nat) {q : Nat} (h : q ≠ 36) : mo_fn B lk n m r j q = B q := by
  induction j with
  | zero => rfl
  | succ j ih =>
    simp only [mo_fn]
    rw [kb_wr_other _ _ _ h, ih]
def mo_fb0 (M : kb_M) (n k r : Int) : kb_M := kb_wr (kb_wr (kb_wr M 22 24 n) 22 25 k) 22 26 r
theorem mo_fnB_22 (M : kb_M) (lk n m r : Int) (j : Nat) {k : Int} (_ : k ≠ 19) (h1 : k ≠ 24) (h2 : k ≠ 25) (h3 : k ≠ 26) : mo_fn (mo_fb0 M n m r) lk n m r j 22 k = M 22 k := by
  rw [mo_fn_q _ _ _ _ _ _ (show 22 ≠ 36 by decide)]
  unfold mo_fb0 kb_wr
  simp [h1, h2, h3]
theorem mo_fnB_q (M : kb_M) (lk n m r : Int) (j : Nat) {q : Nat} (h : q ≠ 22 ∧ q ≠ 36) : mo_fn (mo_fb0 M n m r) lk n m r j q = M q := by
  rw [mo_fn_q _ _ _ _ _ _ h.2]
  unfold mo_fb0 kb_wr
  simp [h.1]
theorem mo_fnB_IP {M : kb_M} {lk n m r : Int} (j : Nat) (hI : mo_IP M) : mo_IP (mo_fn (mo_fb0 M n m r) lk n m r j) := mo_IP_cg (fun _ h0 h1 h2 h3 => mo_fnB_22 _ _ _ _ _ _ h0 h1 h2 h3) (mo_fnB_q _ _ _ _ _ _ (by decide)) hI
theorem mo_fnB_IL {M : kb_M} {lk n m r : Int} (j : Nat) (hI : mo_IL M) : mo_IL (mo_fn (mo_fb0 M n m r) lk n m r j) := mo_IL_cg (fun _ h0 h1 h2 h3 => mo_fnB_22 _ _ _ _ _ _ h0 h1 h2 h3) (mo_fnB_q _ _ _ _ _ _ (by decide)) (mo_fnB_q _ _ _ _ _ _ (by decide)) hI
theorem mo_xo_b {n r a k : Int} (hl : 2 ≤ n ∧ n ≤ 9) (hr : 1 ≤ r ∧ r ≤ 250) (ha : 0 ≤ a ∧ a < 9) (hk : 0 ≤ k ∧ k < 16) : (0 ≤ k * r ∧ k * r ≤ 3750) ∧ (-33750 ≤ k * r * (a - (n - 1) / 2) ∧ k * r * (a - (n - 1) / 2) ≤ 33750) ∧ -33750 ≤ mo_xo n r a k ∧ mo_xo n r a k ≤ 33750 := by
  have h1 := sp_mulb (a := k) (b := r) (A := 15) (B := 250) hk.1 (by omega) (by omega) hr.2
  have h5 : -33750 ≤ k * r * (a - (n - 1) / 2) ∧ k * r * (a - (n - 1) / 2) ≤ 33750 := by
    generalize hd : a - (n - 1) / 2 = d
    have h2 := sp_mulb (a := k * r) (b := d + 9) (A := 3750) (B := 18) h1.1 h1.2 (by omega) (by omega)
    rw [Int.mul_add] at h2
    have h3 : k * r * d ≤ k * r * 9 := Int.mul_le_mul_of_nonneg_left (by omega) h1.1
    omega
  exact ⟨h1, h5, sp_tdb (by omega) h5⟩
def mo_fanR (M : kb_M) (lk n k r : Int) : Int := if (0 ≤ lk ∧ lk < M 22 16) ∧ (2 ≤ n ∧ n ≤ 9) ∧ (2 ≤ k ∧ k ≤ 16) ∧ 1 ≤ r ∧ r ≤ 250 then 1 else -2
def mo_fanM (M : kb_M) (lk n k r : Int) : kb_M := if (0 ≤ lk ∧ lk < M 22 16) ∧ (2 ≤ n ∧ n ≤ 9) ∧ (2 ≤ k ∧ k ≤ 16) ∧ 1 ≤ r ∧ r ≤ 250 then mo_fn (mo_fb0 M n k r) lk n k r (k * n).toNat else M
def mo_shr (M : kb_M) (s a k : Int) : Int := if s = 0 then 0 else s * M 36 (16 * a + k)
theorem mo_shr_b {M : kb_M} (h : ∀ j : Int, -2000 ≤ M 36 j ∧ M 36 j ≤ 2000) {s : Int} (hs : 0 ≤ s ∧ s ≤ 256) (a k : Int) : -512000 ≤ mo_shr M s a k ∧ mo_shr M s a k ≤ 512000 := by
  unfold mo_shr
  split
  · omega
  · exact sp_shv hs (h _)
def mo_wd (M : kb_M) (x z : Int) : Int := 16 * ((M 22 24 - 1) / 2) + (if z = 0 then 0 else (128 * x).tdiv z)
def mo_mx (M : kb_M) (wd dp : Int) : Int := (mo_shr M ((16 - wd % 16) * (16 - dp % 16)) (wd / 16) (dp / 16) + mo_shr M (wd % 16 * (16 - dp % 16)) (wd / 16 + 1) (dp / 16) + mo_shr M ((16 - wd % 16) * (dp % 16)) (wd / 16) (dp / 16 + 1) + mo_shr M (wd % 16 * (dp % 16)) (wd / 16 + 1) (dp / 16 + 1)).tdiv 256
def mo_la (M : kb_M) (x z : Int) : Int := if mo_wd M x z < 0 ∨ 16 * (M 22 24 - 1) < mo_wd M x z ∨ 16 * (M 22 25 - 1) < 16 * z / M 22 26 then 0 else mo_mx M (mo_wd M x z) (16 * z / M 22 26)
theorem mo_la_0 {M : kb_M} {x z wd dp : Int} (h1 : wd = mo_wd M x z) (h2 : dp = 16 * z / M 22 26) (h : wd < 0 ∨ 16 * (M 22 24 - 1) < wd ∨ 16 * (M 22 25 - 1) < dp) : 0 = mo_la M x z := by
  unfold mo_la
  rw [← h1, ← h2, if_pos h]
theorem mo_la_1 {M : kb_M} {x z wd dp : Int} (h1 : wd = mo_wd M x z) (h2 : dp = 16 * z / M 22 26) (h : ¬ (wd < 0 ∨ 16 * (M 22 24 - 1) < wd ∨ 16 * (M 22 25 - 1) < dp)) : mo_la M x z = mo_mx M wd dp := by
  unfold mo_la
  rw [← h1, ← h2, if_neg h]
def mo_boardR (M : kb_M) (w h s u v : Int) : Int := if ((2 ≤ w ∧ w ≤ 12) ∧ (2 ≤ h ∧ h ≤ 12) ∧ 1 ≤ s ∧ s ≤ 500) ∧ (0 ≤ u ∧ u ≤ w - 1) ∧ (0 ≤ v ∧ v ≤ h - 1) ∧ M 22 24 ≠ 0 then mo_la M ((s * (2 * u - w + 1)).tdiv 2) (s * v) else -1000000000
/-- the digest -/
theorem mo_countR_rg {M : kb_M} (h : kb_ok M) (ha : 0 ≤ mo_al M ∧ mo_al M ≤ 16) (t : Int) : -2147483648 ≤ mo_countR M t ∧ mo_countR M t < 2147483648 := by
  unfold mo_countR
  split
  · exact h _ _
  split
  · omega
  split
  · exact h _ _
  split
  · exact h _ _
  split
  · exact h _ _
  split
  · exact h _ _
  split
  · exact h _ _
  omega
def mo_hq (M : kb_M) (h : Int) : Nat → Int
  | 0 => h
  | n + 1 => 31 * (31 * mo_hq M h n + M 25 (n : Int)) + M 26 (n : Int)
theorem mo_hqS (M : kb_M) (h : Int) {i : Int} (hi : 0 ≤ i) : mo_hq M h (i + 1).toNat = 31 * (31 * mo_hq M h i.toNat + M 25 i) + M 26 i := by
  obtain ⟨n, rfl⟩ := Int.eq_ofNat_of_zero_le hi
  show mo_hq M h (n + 1) = _
  rfl
def mo_rsm (M : kb_M) (lk i : Int) : Int := sp_sum (fun b => (b + 1) * mo_at M lk i b) 400
def mo_hl (M : kb_M) (h : Int) : Nat → Int
  | 0 => h
  | n + 1 => sp_hs (mo_rsm M (n : Int)) (31 * mo_hl M h n + M 30 (n : Int)) (M 22 0).toNat
theorem mo_hlS (M : kb_M) (h : Int) {i : Int} (hi : 0 ≤ i) : mo_hl M h (i + 1).toNat = sp_hs (mo_rsm M i) (31 * mo_hl M h i.toNat + M 30 i) (M 22 0).toNat := by
  obtain ⟨n, rfl⟩ := Int.eq_ofNat_of_zero_le hi
  show mo_hl M h (n + 1) = _
  rfl
def mo_hp (M : kb_M) (h : Int) : Nat → Int
  | 0 => h
  | n + 1 => sp_hs (fun k => M 34 (256 * (n : Int) + k)) (mo_hp M h n) (M 32 (n : Int) * M 33 (n : Int)).toNat
theorem mo_hpS (M : kb_M) (h : Int) {i : Int} (hi : 0 ≤ i) : mo_hp M h (i + 1).toNat = sp_hs (fun k => M 34 (256 * i + k)) (mo_hp M h i.toNat) (M 32 i * M 33 i).toNat := by
  obtain ⟨n, rfl⟩ := Int.eq_ofNat_of_zero_le hi
  show mo_hp M h (n + 1) = _
  rfl
def mo_dig (M : kb_M) : Int := mo_hp M (mo_hl M (mo_hq M (sp_hs (mo_countR M) 131 7) (M 22 10).toNat) (M 22 16).toNat) (M 22 19).toNat
theorem mo_cd_b {k : Int} (h : 1 ≤ k ∧ k ≤ 16) : -8 ≤ sp_cd k.toNat ∧ sp_cd k.toNat ≤ 8 := by
  unfold sp_cd
  split <;> omega
theorem mo_nz {a b : Int} (h : a * b ≠ 0) : a ≠ 0 ∧ b ≠ 0 := ⟨fun e => h (by rw [e, Int.zero_mul]), fun e => h (by rw [e, Int.mul_zero])⟩
theorem mo_calb {a b : Int} (ha : -4000 ≤ a ∧ a ≤ 4000) (hb : -4000 ≤ b ∧ b ≤ 4000) : 0 ≤ a * a + b * b ∧ a * a + b * b ≤ 32000000 := by
  have h1 := sp_mulb (a := max a (-a)) (b := max a (-a)) (A := 4000) (B := 4000) (by omega) (by omega) (by omega) (by omega)
  have h2 := sp_mulb (a := max b (-b)) (b := max b (-b)) (A := 4000) (B := 4000) (by omega) (by omega) (by omega) (by omega)
  rw [sp_absq] at h1 h2
  omega
theorem mo_cl_b {A : kb_M} {l j : Int} (h : ∀ p : Int, -1600 ≤ A 31 p ∧ A 31 p ≤ 1600) : ∀ p : Int, -1600 ≤ mo_cl A l j 31 p ∧ mo_cl A l j 31 p ≤ 1600 := by
  intro p
  have := h p
  show -1600 ≤ (if _ then 0 else A 31 p) ∧ (if _ then 0 else A 31 p) ≤ 1600
  split <;> omega
theorem mo_sh_b {A : kb_M} {d j : Int} (h : ∀ p : Int, -1600 ≤ A 31 p ∧ A 31 p ≤ 1600) : ∀ p : Int, -1600 ≤ mo_sh A 31 d j 31 p ∧ mo_sh A 31 d j 31 p ≤ 1600 := by
  intro p
  have h1 := h p
  have h2 := h (p + d)
  show -1600 ≤ (if _ then A 31 (p + d) else A 31 p) ∧ (if _ then A 31 (p + d) else A 31 p) ≤ 1600
  split <;> omega
theorem mo_mvI_25 (M : kb_M) (k : Int) : mo_mvI M k 25 k = M 25 k := by
  simp [mo_mvI]
theorem mo_mvI_26 (M : kb_M) (k : Int) : mo_mvI M k 26 k = M 26 k := by
  simp [mo_mvI]
theorem mo_lkN_B {M : kb_M} {t k3 k4 k5 : Int} (h : M 22 16 ≠ 6) (h3 : k3 = 6400) (h4 : k4 = M 22 10) (h5 : k5 = M 22 10) : kb_wr (kb_wr (kb_wr (mo_mvI (mo_lk (kb_wr (mo_cl M (M 22 16) k3) 30 (M 22 16) t) (M 22 16) t k4.toNat) k5) 22 8 (M 22 8 + mo_al M * mo_al M * mo_al M)) 22 9 (M 22 9 + 1)) 22 16 (M 22 16 + 1) = mo_lkN M t := by
  subst h3 h4 h5
  unfold mo_lkN mo_lbg mo_lsh mo_L
  rw [if_neg h, if_neg h]
theorem mo_lkN_A {M : kb_M} {t k1 k2 k3 k4 k5 : Int} (h : M 22 16 = 6) (h1 : k1 = 38400) (h2 : k2 = 6) (h3 : k3 = 6400) (h4 : k4 = M 22 10) (h5 : k5 = M 22 10) : kb_wr (kb_wr (kb_wr (mo_mvI (mo_lk (kb_wr (mo_cl (kb_wr (mo_sh (mo_sh M 31 6400 k1) 30 1 k2) 22 16 (M 22 16 - 1)) (M 22 16 - 1) k3) 30 (M 22 16 - 1) t) (M 22 16 - 1) t k4.toNat) k5) 22 8 (M 22 8 + mo_al M * mo_al M * mo_al M)) 22 9 (M 22 9 + 1)) 22 16 (M 22 16 - 1 + 1) = mo_lkN M t := by
  subst h1 h2 h3 h4 h5
  unfold mo_lkN mo_lbg mo_lsh mo_L
  rw [if_pos h, if_pos h, show M 22 16 - 1 = 5 by omega]

