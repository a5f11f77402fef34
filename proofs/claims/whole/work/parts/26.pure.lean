/-! hearing, sums, means -/
def sp_hat (d s : Int) : Int := if s = d - 1 then 1 else if s = d then 2 else if s = d + 1 then 1 else 0
def sp_hearI (A : kb_M) (lk out st j : Int) : kb_M := fun q => if q = 16 then (fun p => A 16 p + (if (A 3 2 + lk) % 6 * 6400 ≤ p ∧ p < (A 3 2 + lk) % 6 * 6400 + j * 400 ∧ A 8 ((p - (A 3 2 + lk) % 6 * 6400) / 400) = 0 then st * sp_hat (out + sp_ad A ((p - (A 3 2 + lk) % 6 * 6400) / 400)) ((p - (A 3 2 + lk) % 6 * 6400) % 400) else 0)) else A q
theorem sp_hearI_0 (A : kb_M) (lk out st : Int) : A = sp_hearI A lk out st 0 := by
  apply sp_ext
  intro q p
  simp only [sp_hearI, sp_ia]
  split
  · rw [if_neg (by omega)]
    subst q
    omega
  · rfl
theorem sp_hearI_D (A : kb_M) (lk out st a : Int) (_ : 0 ≤ a) (hd : A 8 a ≠ 0) : sp_hearI A lk out st a = sp_hearI A lk out st (a + 1) := by
  apply sp_ext
  intro q p
  simp only [sp_hearI, sp_ia]
  split
  · by_cases hp : (A 3 2 + lk) % 6 * 6400 + a * 400 ≤ p ∧ p < (A 3 2 + lk) % 6 * 6400 + a * 400 + 400
    · have e : (p - (A 3 2 + lk) % 6 * 6400) / 400 = a := by omega
      rw [e, if_neg (by omega), if_neg (by omega)]
    · congr 1
      by_cases h1 : (A 3 2 + lk) % 6 * 6400 ≤ p ∧ p < (A 3 2 + lk) % 6 * 6400 + a * 400 ∧ A 8 ((p - (A 3 2 + lk) % 6 * 6400) / 400) = 0
      · rw [if_pos h1, if_pos (by omega)]
      · rw [if_neg h1, if_neg (by omega)]
  · rfl
theorem sp_hearI_S (A : kb_M) (lk out st a d : Int) (h0 : 0 ≤ a ∧ a < 16) (hd : A 8 a = 0) (he : d = out + sp_ad A a) : sp_ld (sp_ld (sp_ld (sp_hearI A lk out st a) lk a (d - 1) st) lk a d (2 * st)) lk a (d + 1) st = sp_hearI A lk out st (a + 1) := by
  apply sp_ext
  intro q p
  simp only [sp_ld, sp_hearI, sp_ia]
  by_cases hq : q = 16
  · subst hq
    simp only [if_true, show ¬ (3 : Nat) = 16 by decide, if_false]
    by_cases hp : (A 3 2 + lk) % 6 * 6400 + a * 400 ≤ p ∧ p < (A 3 2 + lk) % 6 * 6400 + a * 400 + 400
    · have e : (p - (A 3 2 + lk) % 6 * 6400) / 400 = a := by omega
      have e2 : (p - (A 3 2 + lk) % 6 * 6400) % 400 = p - (A 3 2 + lk) % 6 * 6400 - a * 400 := by omega
      rw [e, e2, ← he]
      generalize (A 3 2 + lk) % 6 * 6400 = S at *
      unfold sp_hat
      rw [if_neg (show ¬ (S ≤ p ∧ p < S + a * 400 ∧ A 8 a = 0) by omega), if_pos (show S ≤ p ∧ p < S + (a + 1) * 400 ∧ A 8 a = 0 by omega)]
      by_cases c1 : p = S + a * 400 + (d - 1)
      · rw [if_pos (show (0 ≤ d - 1 ∧ d - 1 < 400 ∧ 0 ≤ a ∧ a < 16) ∧ p = S + a * 400 + (d - 1) by omega), if_neg (show ¬ ((0 ≤ d ∧ d < 400 ∧ 0 ≤ a ∧ a < 16) ∧ p = S + a * 400 + d) by omega), if_neg (show ¬ ((0 ≤ d + 1 ∧ d + 1 < 400 ∧ 0 ≤ a ∧ a < 16) ∧ p = S + a * 400 + (d + 1)) by omega), if_pos (show p - S - a * 400 = d - 1 by omega)]
        omega
      · rw [if_neg (show ¬ ((0 ≤ d - 1 ∧ d - 1 < 400 ∧ 0 ≤ a ∧ a < 16) ∧ p = S + a * 400 + (d - 1)) by omega), if_neg (show ¬ p - S - a * 400 = d - 1 by omega)]
        by_cases c2 : p = S + a * 400 + d
        · rw [if_pos (show (0 ≤ d ∧ d < 400 ∧ 0 ≤ a ∧ a < 16) ∧ p = S + a * 400 + d by omega), if_neg (show ¬ ((0 ≤ d + 1 ∧ d + 1 < 400 ∧ 0 ≤ a ∧ a < 16) ∧ p = S + a * 400 + (d + 1)) by omega), if_pos (show p - S - a * 400 = d by omega)]
          omega
        · rw [if_neg (show ¬ ((0 ≤ d ∧ d < 400 ∧ 0 ≤ a ∧ a < 16) ∧ p = S + a * 400 + d) by omega), if_neg (show ¬ p - S - a * 400 = d by omega)]
          by_cases c3 : p = S + a * 400 + (d + 1)
          · rw [if_pos (show (0 ≤ d + 1 ∧ d + 1 < 400 ∧ 0 ≤ a ∧ a < 16) ∧ p = S + a * 400 + (d + 1) by omega), if_pos (show p - S - a * 400 = d + 1 by omega)]
            omega
          · rw [if_neg (show ¬ ((0 ≤ d + 1 ∧ d + 1 < 400 ∧ 0 ≤ a ∧ a < 16) ∧ p = S + a * 400 + (d + 1)) by omega), if_neg (show ¬ p - S - a * 400 = d + 1 by omega)]
            omega
    · rw [if_neg (show ¬ ((0 ≤ d - 1 ∧ d - 1 < 400 ∧ 0 ≤ a ∧ a < 16) ∧ p = (A 3 2 + lk) % 6 * 6400 + a * 400 + (d - 1)) by omega), if_neg (show ¬ ((0 ≤ d ∧ d < 400 ∧ 0 ≤ a ∧ a < 16) ∧ p = (A 3 2 + lk) % 6 * 6400 + a * 400 + d) by omega), if_neg (show ¬ ((0 ≤ d + 1 ∧ d + 1 < 400 ∧ 0 ≤ a ∧ a < 16) ∧ p = (A 3 2 + lk) % 6 * 6400 + a * 400 + (d + 1)) by omega)]
      simp only [Int.add_zero]
      congr 1
      by_cases h1 : (A 3 2 + lk) % 6 * 6400 ≤ p ∧ p < (A 3 2 + lk) % 6 * 6400 + a * 400 ∧ A 8 ((p - (A 3 2 + lk) % 6 * 6400) / 400) = 0
      · rw [if_pos h1, if_pos (by omega)]
      · rw [if_neg h1, if_neg (by omega)]
  · simp only [hq, if_false]
def sp_out (A : kb_M) (lk : Int) : Int := sp_ad A (A 17 ((A 3 2 + lk) % 6))
def sp_hear (M : kb_M) (lk k : Int) : kb_M := sp_hearI (sp_aim M (M 11 k) (M 12 k)) lk (sp_out (sp_aim M (M 11 k) (M 12 k)) lk) (M 13 k) (M 1 5)
theorem sp_ad_b {M : kb_M} {x z i : Int} (h : sp_IP M) (hx : -2000 ≤ x ∧ x ≤ 2000) (hz : 0 ≤ z ∧ z ≤ 4000) : 0 ≤ sp_ad (sp_aim M x z) i ∧ sp_ad (sp_aim M x z) i ≤ 16001000 := by
  obtain ⟨hxs, hn, ha, hP, hT, hf⟩ := h
  have e : sp_ad (sp_aim M x z) i = if 0 ≤ i ∧ i < M 1 5 ∧ i < 16 then (if 0 ≤ i ∧ i < M 1 5 then sp_dly M i x z else M 9 i) else 0 := rfl
  rw [e]
  split
  · rw [if_pos (by omega)]
    exact sp_dly_b hxs hP hT hx hz
  · omega
theorem sp_aw_b {M : kb_M} {x z i : Int} (h : sp_IP M) (hx : -2000 ≤ x ∧ x ≤ 2000) (hz : 0 ≤ z ∧ z ≤ 4000) : 0 ≤ sp_aw (sp_aim M x z) i ∧ sp_aw (sp_aim M x z) i ≤ 4001 := by
  obtain ⟨hxs, hn, ha, hP, hT, hf⟩ := h
  have e : sp_aw (sp_aim M x z) i = if 0 ≤ i ∧ i < M 1 5 ∧ i < 16 then (if 0 ≤ i ∧ i < M 1 5 then sp_wt M i x z else M 10 i) else 0 := rfl
  rw [e]
  split
  · rw [if_pos (by omega)]
    exact sp_wt_b2 hxs hx hf hz
  · omega
theorem sp_hat_b (d s : Int) : 0 ≤ sp_hat d s ∧ sp_hat d s ≤ 2 := by
  unfold sp_hat
  split
  · omega
  · split
    · omega
    · split <;> omega
theorem sp_hatm {t d s : Int} (ht : -100 ≤ t ∧ t ≤ 100) : -200 ≤ t * sp_hat d s ∧ t * sp_hat d s ≤ 200 := by
  unfold sp_hat
  split
  · omega
  · split
    · omega
    · split <;> omega
theorem sp_hearI_b {A : kb_M} {lk out t j b : Int} (h : ∀ p : Int, -b ≤ A 16 p ∧ A 16 p ≤ b) (ht : -100 ≤ t ∧ t ≤ 100) : ∀ p : Int, -(b + 200) ≤ sp_hearI A lk out t j 16 p ∧ sp_hearI A lk out t j 16 p ≤ b + 200 := by
  intro p
  have h1 := h p
  show -(b + 200) ≤ A 16 p + _ ∧ A 16 p + _ ≤ b + 200
  split
  · have := sp_hatm (d := out + sp_ad A ((p - (A 3 2 + lk) % 6 * 6400) / 400)) (s := (p - (A 3 2 + lk) % 6 * 6400) % 400) ht
    omega
  · omega
theorem sp_ld_b {A : kb_M} {lk i s t b : Int} (h : ∀ p : Int, -b ≤ A 16 p ∧ A 16 p ≤ b) (ht : -200 ≤ t ∧ t ≤ 200) : ∀ p : Int, -(b + 200) ≤ sp_ld A lk i s t 16 p ∧ sp_ld A lk i s t 16 p ≤ b + 200 := by
  intro p
  have h1 := h p
  show -(b + 200) ≤ A 16 p + _ ∧ A 16 p + _ ≤ b + 200
  split <;> omega
/-- all points heard, n of them done -/
def sp_lk (M : kb_M) (lk : Int) : Nat → kb_M
  | 0 => M
  | n + 1 => sp_hear (sp_lk M lk n) lk (n : Int)
theorem sp_lkS (M : kb_M) (lk : Int) {i : Int} (h : 0 ≤ i) : sp_lk M lk (i + 1).toNat = sp_hear (sp_lk M lk i.toNat) lk i := by
  obtain ⟨n, rfl⟩ := Int.eq_ofNat_of_zero_le h
  show sp_lk M lk (n + 1) = _
  rfl
theorem sp_hear_q (M : kb_M) (lk k : Int) {q : Nat} (h : q ≠ 1 ∧ q ≠ 9 ∧ q ≠ 10 ∧ q ≠ 16) : sp_hear M lk k q = M q := by
  unfold sp_hear sp_hearI sp_aim sp_aimI
  simp [h.1, h.2.1, h.2.2.1, h.2.2.2]
theorem sp_hear_1 (M : kb_M) (lk k : Int) {j : Int} (h : j ≠ 4) : sp_hear M lk k 1 j = M 1 j := by
  unfold sp_hear sp_hearI sp_aim sp_aimI
  simp [h]
theorem sp_lk_q (M : kb_M) (lk : Int) (n : Nat) {q : Nat} (h : q ≠ 1 ∧ q ≠ 9 ∧ q ≠ 10 ∧ q ≠ 16) : sp_lk M lk n q = M q := by
  induction n with
  | zero => rfl
  | succ n ih => simp only [sp_lk]; rw [sp_hear_q _ _ _ h, ih]
theorem sp_lk_1 (M : kb_M) (lk : Int) (n : Nat) {j : Int} (h : j ≠ 4) : sp_lk M lk n 1 j = M 1 j := by
  induction n with
  | zero => rfl
  | succ n ih => simp only [sp_lk]; rw [sp_hear_1 _ _ _ h, ih]
theorem sp_lk_IP {M : kb_M} {lk : Int} (n : Nat) (h : sp_IP M) : sp_IP (sp_lk M lk n) := by
  unfold sp_IP sp_xs at *
  simp only [sp_lk_1 M lk n (show (5 : Int) ≠ 4 by decide), sp_lk_1 M lk n (show (6 : Int) ≠ 4 by decide), sp_lk_1 M lk n (show (7 : Int) ≠ 4 by decide), sp_lk_1 M lk n (show (8 : Int) ≠ 4 by decide), sp_lk_1 M lk n (show (10 : Int) ≠ 4 by decide), sp_lk_q M lk n (show 7 ≠ 1 ∧ 7 ≠ 9 ∧ 7 ≠ 10 ∧ 7 ≠ 16 by decide)]
  exact h
theorem sp_lk_sc {M : kb_M} {lk : Int} (n : Nat) (h : sp_sc M) : sp_sc (sp_lk M lk n) := by
  unfold sp_sc at *
  simp only [sp_lk_q M lk n (show 2 ≠ 1 ∧ 2 ≠ 9 ∧ 2 ≠ 10 ∧ 2 ≠ 16 by decide), sp_lk_q M lk n (show 11 ≠ 1 ∧ 11 ≠ 9 ∧ 11 ≠ 10 ∧ 11 ≠ 16 by decide), sp_lk_q M lk n (show 12 ≠ 1 ∧ 12 ≠ 9 ∧ 12 ≠ 10 ∧ 12 ≠ 16 by decide), sp_lk_q M lk n (show 13 ≠ 1 ∧ 13 ≠ 9 ∧ 13 ≠ 10 ∧ 13 ≠ 16 by decide), sp_lk_q M lk n (show 14 ≠ 1 ∧ 14 ≠ 9 ∧ 14 ≠ 10 ∧ 14 ≠ 16 by decide), sp_lk_q M lk n (show 15 ≠ 1 ∧ 15 ≠ 9 ∧ 15 ≠ 10 ∧ 15 ≠ 16 by decide)]
  exact h
theorem sp_lk_b {M : kb_M} {lk : Int} (n : Nat) (h : ∀ p : Int, -1600 ≤ M 16 p ∧ M 16 p ≤ 1600) (hsc : sp_sc M) (hn : (n : Int) ≤ M 2 5) : ∀ p : Int, -(1600 + 200 * (n : Int)) ≤ sp_lk M lk n 16 p ∧ sp_lk M lk n 16 p ≤ 1600 + 200 * (n : Int) := by
  induction n with
  | zero => intro p; have := h p; simp only [sp_lk]; omega
  | succ n ih =>
    intro p
    have h1 := ih (by omega)
    simp only [sp_lk]
    unfold sp_hear
    have ht : -100 ≤ sp_lk M lk n 13 n ∧ sp_lk M lk n 13 n ≤ 100 := by
      rw [sp_lk_q M lk n (show 13 ≠ 1 ∧ 13 ≠ 9 ∧ 13 ≠ 10 ∧ 13 ≠ 16 by decide)]
      exact (hsc.2 n (by omega) (by omega)).2.2.1
    have h2 := sp_hearI_b (A := sp_aim (sp_lk M lk n) (sp_lk M lk n 11 n) (sp_lk M lk n 12 n)) (lk := lk) (out := sp_out (sp_aim (sp_lk M lk n) (sp_lk M lk n 11 n) (sp_lk M lk n 12 n)) lk) (j := sp_lk M lk n 1 5) (b := 1600 + 200 * (n : Int)) h1 ht p
    omega
def sp_lkR (M : kb_M) : Int := if M 3 3 < 6 then M 3 3 + 1 else M 3 3
theorem sp_bgr_b {M : kb_M} (h : 0 ≤ M 3 3 ∧ M 3 3 ≤ 6) : 0 ≤ sp_bgr M ∧ sp_bgr M < 6 := by
  unfold sp_bgr
  split <;> omega
theorem sp_look_sz (M : kb_M) (e t l : Int) (n : Nat) : sp_lk (sp_bgn (kb_wr M 6 0 e) t) l n 3 3 = sp_lkR M := by
  rw [sp_lk_q _ _ _ (by decide)]
  rfl
def sp_lookR (M : kb_M) (t : Int) : Int := if 0 ≤ t ∧ t < M 1 5 ∧ t < 16 then (if M 8 t = 0 then (if M 6 1 < M 6 0 + M 1 6 * M 1 6 * M 1 6 then -5 else sp_lkR M) else -3) else -2
def sp_lookN (M : kb_M) (t : Int) : kb_M := sp_mv (sp_lk (sp_bgn (kb_wr M 6 0 (M 6 0 + M 1 6 * M 1 6 * M 1 6)) t) (sp_bgr M) (M 2 5).toNat)
def sp_lookM (M : kb_M) (t : Int) : kb_M := if (0 ≤ t ∧ t < M 1 5 ∧ t < 16) ∧ M 8 t = 0 ∧ ¬ M 6 1 < M 6 0 + M 1 6 * M 1 6 * M 1 6 then sp_lookN M t else M
theorem sp_bgn_b {M : kb_M} {t : Int} (h : ∀ p : Int, -1600 ≤ M 16 p ∧ M 16 p ≤ 1600) : ∀ p : Int, -1600 ≤ sp_bgn M t 16 p ∧ sp_bgn M t 16 p ≤ 1600 := by
  intro p
  have h1 := h p
  show -1600 ≤ (if _ then 0 else M 16 p) ∧ (if _ then 0 else M 16 p) ≤ 1600
  split <;> omega
theorem sp_cube {a : Int} (h : 0 ≤ a ∧ a ≤ 16) : 0 ≤ a * a * a ∧ a * a * a ≤ 4096 := by
  have h1 := sp_mulb h.1 h.2 h.1 h.2
  exact sp_mulb (A := 256) h1.1 h1.2 h.1 h.2
/-- the sum of one look at what the elements aim at -/
def sp_as (A : kb_M) (lk : Int) : Int := sp_sum (fun i => sp_aw A i * sp_at A lk i (sp_out A lk + sp_ad A i)) (A 1 5).toNat
theorem sp_at_b {A : kb_M} (h : ∀ p : Int, -1600 ≤ A 16 p ∧ A 16 p ≤ 1600) (lk i s : Int) : -1600 ≤ sp_at A lk i s ∧ sp_at A lk i s ≤ 1600 := by
  unfold sp_at
  split
  · exact h _
  · omega
theorem sp_wmul {w s : Int} (hw : 0 ≤ w) (hs : -1600 ≤ s ∧ s ≤ 1600) : -(1600 * w) ≤ w * s ∧ w * s ≤ 1600 * w := by
  have h1 : w * s ≤ w * 1600 := Int.mul_le_mul_of_nonneg_left hs.2 hw
  have h2 : w * (-1600) ≤ w * s := Int.mul_le_mul_of_nonneg_left hs.1 hw
  omega
theorem sp_sum_w {f w : Int → Int} : ∀ n : Nat, (∀ k : Int, 0 ≤ k → k < n → -(1600 * w k) ≤ f k ∧ f k ≤ 1600 * w k) → -(1600 * sp_sum w n) ≤ sp_sum f n ∧ sp_sum f n ≤ 1600 * sp_sum w n := by
  intro n
  induction n with
  | zero => intro _; simp [sp_sum]
  | succ n ih =>
    intro h
    have h1 := ih (fun k a c => h k a (by omega))
    have h2 := h n (by omega) (by omega)
    simp only [sp_sum]
    omega
theorem sp_aim4 {M : kb_M} {x z : Int} (h : sp_IP M) : sp_sum (fun i => sp_aw (sp_aim M x z) i) (M 1 5).toNat = sp_aim M x z 1 4 := by
  show _ = sp_sum (fun a => sp_wt M a x z) (M 1 5).toNat
  apply sp_sum_eq
  intro k h1 h2
  have e : sp_aw (sp_aim M x z) k = if 0 ≤ k ∧ k < M 1 5 ∧ k < 16 then (if 0 ≤ k ∧ k < M 1 5 then sp_wt M k x z else M 10 k) else 0 := rfl
  have hn := h.2.1
  rw [e, if_pos (by omega), if_pos (by omega)]
theorem sp_as_w {M : kb_M} {x z : Int} (h : sp_IP M) (hb : ∀ p : Int, -1600 ≤ M 16 p ∧ M 16 p ≤ 1600) (hx : -2000 ≤ x ∧ x ≤ 2000) (hz : 0 ≤ z ∧ z ≤ 4000) (lk : Int) : -(1600 * sp_aim M x z 1 4) ≤ sp_as (sp_aim M x z) lk ∧ sp_as (sp_aim M x z) lk ≤ 1600 * sp_aim M x z 1 4 := by
  rw [← sp_aim4 h]
  exact sp_sum_w (w := fun i => sp_aw (sp_aim M x z) i) _ (fun k _ _ => sp_wmul (sp_aw_b h hx hz).1 (sp_at_b hb _ _ _))
theorem sp_aim4_b {M : kb_M} {x z : Int} (h : sp_IP M) (hx : -2000 ≤ x ∧ x ≤ 2000) (hz : 0 ≤ z ∧ z ≤ 4000) : 0 ≤ sp_aim M x z 1 4 ∧ sp_aim M x z 1 4 ≤ 64016 := by
  obtain ⟨hxs, hn, ha, hP, hT, hf⟩ := h
  exact sp_ws_b hxs hx hf hz (M 1 5) hn
def sp_jt (A : kb_M) (b : Int) (n : Nat) : Int := sp_sum (fun k => if b / 2 ^ k.toNat % 2 = 0 then 0 else sp_as A k) n
def sp_jw (A : kb_M) (b : Int) (n : Nat) : Int := sp_sum (fun k => if b / 2 ^ k.toNat % 2 = 0 then 0 else A 1 4) n
theorem sp_jw_b {M : kb_M} {x z : Int} (h : sp_IP M) (hx : -2000 ≤ x ∧ x ≤ 2000) (hz : 0 ≤ z ∧ z ≤ 4000) (b : Int) (n : Nat) : 0 ≤ sp_jw (sp_aim M x z) b n ∧ sp_jw (sp_aim M x z) b n ≤ 64016 * n := by
  have h4 := sp_aim4_b h hx hz
  have h1 := sp_sum_nn (f := fun k => if b / 2 ^ k.toNat % 2 = 0 then 0 else sp_aim M x z 1 4) n (fun k _ _ => by
    try dsimp only
    split <;> omega)
  have h2 := sp_sum_b (f := fun k => if b / 2 ^ k.toNat % 2 = 0 then 0 else sp_aim M x z 1 4) (b := 64016) n (fun k _ _ => by
    try dsimp only
    split <;> omega)
  exact ⟨h1, h2.2⟩
theorem sp_jt_w {M : kb_M} {x z : Int} (h : sp_IP M) (hb : ∀ p : Int, -1600 ≤ M 16 p ∧ M 16 p ≤ 1600) (hx : -2000 ≤ x ∧ x ≤ 2000) (hz : 0 ≤ z ∧ z ≤ 4000) (b : Int) (n : Nat) : -(1600 * sp_jw (sp_aim M x z) b n) ≤ sp_jt (sp_aim M x z) b n ∧ sp_jt (sp_aim M x z) b n ≤ 1600 * sp_jw (sp_aim M x z) b n := by
  refine sp_sum_w (w := fun k => if b / 2 ^ k.toNat % 2 = 0 then 0 else sp_aim M x z 1 4) n (fun k _ _ => ?_)
  have h1 := sp_as_w h hb hx hz k
  try dsimp only
  split <;> omega
def sp_jm (M : kb_M) (b x z : Int) : Int := if (-2000 ≤ x ∧ x ≤ 2000) ∧ 0 ≤ z ∧ z ≤ 4000 then (if sp_jw (sp_aim M x z) b (M 3 3).toNat = 0 then 0 else (sp_jt (sp_aim M x z) b (M 3 3).toNat).tdiv (sp_jw (sp_aim M x z) b (M 3 3).toNat)) else 0
def sp_jmM (M : kb_M) (x z : Int) : kb_M := if (-2000 ≤ x ∧ x ≤ 2000) ∧ 0 ≤ z ∧ z ≤ 4000 then sp_aim M x z else M
theorem sp_tdw {t w : Int} (hw : 0 < w) (h : -(1600 * w) ≤ t ∧ t ≤ 1600 * w) : -1600 ≤ t.tdiv w ∧ t.tdiv w ≤ 1600 := by
  have hp : ∀ u : Int, 0 ≤ u → u ≤ 1600 * w → 0 ≤ u / w ∧ u / w ≤ 1600 := fun u h1 h2 => ⟨Int.ediv_nonneg h1 (by omega), by
    apply Int.le_of_lt_add_one
    apply Int.ediv_lt_of_lt_mul hw
    rw [Int.add_mul]
    omega⟩
  rcases Int.lt_or_le t 0 with h1 | h1
  · have e : t.tdiv w = -((-t) / w) := by rw [← Int.tdiv_eq_ediv_of_nonneg (by omega), Int.neg_tdiv, Int.neg_neg]
    have := hp (-t) (by omega) (by omega)
    omega
  · rw [Int.tdiv_eq_ediv_of_nonneg h1]
    have := hp t h1 h.2
    omega
theorem sp_jm_b {M : kb_M} (h : sp_IP M) (hb : ∀ p : Int, -1600 ≤ M 16 p ∧ M 16 p ≤ 1600) (b x z : Int) : -1600 ≤ sp_jm M b x z ∧ sp_jm M b x z ≤ 1600 := by
  unfold sp_jm
  split
  · rename_i hp
    split
    · omega
    · have h1 := sp_jw_b h hp.1 hp.2 b (M 3 3).toNat
      exact sp_tdw (by omega) (sp_jt_w h hb hp.1 hp.2 b _)
  · omega
def sp_sumR (M : kb_M) (lk x z : Int) : Int := if (0 ≤ lk ∧ lk < M 3 3) ∧ (-2000 ≤ x ∧ x ≤ 2000) ∧ 0 ≤ z ∧ z ≤ 4000 then sp_as (sp_aim M x z) lk else -1000000000
def sp_sumM (M : kb_M) (lk x z : Int) : kb_M := if (0 ≤ lk ∧ lk < M 3 3) ∧ (-2000 ≤ x ∧ x ≤ 2000) ∧ 0 ≤ z ∧ z ≤ 4000 then sp_aim M x z else M
def sp_al (M : kb_M) (b : Int) : Prop := 0 < b ∧ b / 2 ^ (M 3 3).toNat = 0
def sp_meanR (M : kb_M) (b x z : Int) : Int := if (0 < b ∧ b / 2 ^ (M 3 3).toNat = 0) ∧ (-2000 ≤ x ∧ x ≤ 2000) ∧ 0 ≤ z ∧ z ≤ 4000 then sp_jm M b x z else -1000000000
def sp_meanM (M : kb_M) (b x z : Int) : kb_M := if (0 < b ∧ b / 2 ^ (M 3 3).toNat = 0) ∧ (-2000 ≤ x ∧ x ≤ 2000) ∧ 0 ≤ z ∧ z ≤ 4000 then sp_jmM M x z else M
theorem sp_bgn_o {M : kb_M} {t e : Int} (h : 0 ≤ M 3 2 ∧ M 3 2 < 6) : 0 ≤ sp_bgn (kb_wr M 6 0 e) t 3 2 ∧ sp_bgn (kb_wr M 6 0 e) t 3 2 < 6 := by
  show 0 ≤ (if M 3 3 < 6 then M 3 2 else (M 3 2 + 1) % 6) ∧ (if M 3 3 < 6 then M 3 2 else (M 3 2 + 1) % 6) < 6
  split <;> omega
theorem sp_shrb {a : Int} {n : Nat} (h : -2147483648 ≤ a ∧ a < 2147483648) : -2147483648 ≤ a / 2 ^ n ∧ a / 2 ^ n < 2147483648 := by
  have h4 : (0 : Int) < 2 ^ n := Int.pow_pos (by omega)
  have h5 : (1 : Int) ≤ 2 ^ n := h4
  have h6 : (2147483648 : Int) * 1 ≤ 2147483648 * 2 ^ n := Int.mul_le_mul_of_nonneg_left h5 (by omega)
  exact ⟨Int.le_ediv_of_mul_le h4 (by omega), Int.ediv_lt_of_lt_mul h4 (by omega)⟩

