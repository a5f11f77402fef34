/-! looks, ring, scene, fan of the class -/
def sp_pl (M : kb_M) (l i s : Int) : Int := if 0 ≤ s ∧ s < 400 ∧ 0 ≤ i ∧ i < 16 then (M 3 2 + l) % 6 * 6400 + i * 400 + s else -1
theorem sp_pl_b (M : kb_M) (l i s : Int) : -1 ≤ sp_pl M l i s ∧ sp_pl M l i s < 38400 := by
  unfold sp_pl
  split <;> omega
theorem sp_at_pl (M : kb_M) (l i s : Int) : sp_at M l i s = if 0 ≤ sp_pl M l i s then M 16 (sp_pl M l i s) else 0 := by
  unfold sp_at sp_pl
  by_cases h : 0 ≤ s ∧ s < 400 ∧ 0 ≤ i ∧ i < 16
  · rw [if_pos h, if_pos h, if_pos (by omega)]
  · rw [if_neg h, if_neg h, if_neg (by omega)]
theorem sp_ld_pl (M : kb_M) (l i s a : Int) (h : 0 ≤ sp_pl M l i s) : kb_wr M 16 (sp_pl M l i s) (M 16 (sp_pl M l i s) + a) = sp_ld M l i s a := by
  by_cases hc : 0 ≤ s ∧ s < 400 ∧ 0 ≤ i ∧ i < 16
  · rw [← sp_ld_in M l i s a hc]
    unfold sp_pl
    rw [if_pos hc]
  · exfalso
    unfold sp_pl at h
    rw [if_neg hc] at h
    omega
theorem sp_ld_pn (M : kb_M) (l i s a : Int) (h : sp_pl M l i s < 0) : M = sp_ld M l i s a := by
  by_cases hc : 0 ≤ s ∧ s < 400 ∧ 0 ≤ i ∧ i < 16
  · exfalso
    unfold sp_pl at h
    rw [if_pos hc] at h
    omega
  · exact sp_ld_out M l i s a hc
def sp_bg1 (M : kb_M) : kb_M := fun q => if q = 3 then (fun k => if k = 2 then (if M 3 3 < 6 then M 3 2 else (M 3 2 + 1) % 6) else if k = 3 then (if M 3 3 < 6 then M 3 3 + 1 else M 3 3) else M 3 k) else M q
theorem sp_bg1_lt {M : kb_M} (h : M 3 3 < 6) : sp_bg1 M = kb_wr M 3 3 (M 3 3 + 1) := by
  apply sp_ext
  intro q k
  simp only [sp_bg1, kb_wr, sp_ia]
  grind
theorem sp_bg1_ge {M : kb_M} (h : ¬ M 3 3 < 6) : sp_bg1 M = kb_wr M 3 2 ((M 3 2 + 1) % 6) := by
  apply sp_ext
  intro q k
  simp only [sp_bg1, kb_wr, sp_ia]
  grind
def sp_bgs (M : kb_M) : Int := if M 3 3 < 6 then (M 3 2 + M 3 3) % 6 else M 3 2
def sp_bgr (M : kb_M) : Int := if M 3 3 < 6 then M 3 3 else 5
def sp_bg2 (M : kb_M) (t : Int) : kb_M := kb_wr (kb_wr (sp_bg1 M) 3 4 (M 3 4 + 1)) 17 (sp_bgs M) t
def sp_bgn (M : kb_M) (t : Int) : kb_M := sp_cl (sp_bg2 M t) (sp_bgs M) (sp_bgs M * 6400 + 6400)
theorem sp_bgn_lt {M : kb_M} {t x a : Int} (h : M 3 3 < 6) (hx : x = (M 3 2 + (M 3 3 + 1 - 1)) % 6) (ha : a = x * 6400 + 6400) : sp_cl (kb_wr (kb_wr (kb_wr M 3 3 (M 3 3 + 1)) 3 4 (M 3 4 + 1)) 17 x t) x a = sp_bgn M t := by
  have e : sp_bgs M = x := by unfold sp_bgs; rw [if_pos h, hx]; congr 1; omega
  unfold sp_bgn sp_bg2
  rw [e, sp_bg1_lt h, ha]
theorem sp_bgn_ge {M : kb_M} {t x a : Int} (h : 6 ≤ M 3 3) (h6 : M 3 3 ≤ 6) (ho : 0 ≤ M 3 2 ∧ M 3 2 < 6) (hx : x = ((M 3 2 + 1) % 6 + (M 3 3 - 1)) % 6) (ha : a = x * 6400 + 6400) : sp_cl (kb_wr (kb_wr (kb_wr M 3 2 ((M 3 2 + 1) % 6)) 3 4 (M 3 4 + 1)) 17 x t) x a = sp_bgn M t := by
  have e : sp_bgs M = x := by unfold sp_bgs; rw [if_neg (by omega), hx]; omega
  unfold sp_bgn sp_bg2
  rw [e, sp_bg1_ge (by omega), ha]
def sp_rw (M : kb_M) (s : Int) : Int := if 0 ≤ s ∧ s < 4 then M 19 s else 0
def sp_rh (M : kb_M) (s : Int) : Int := if 0 ≤ s ∧ s < 4 then M 20 s else 0
def sp_px (M : kb_M) (s k : Int) : Int := if 0 ≤ s ∧ s < 4 ∧ 0 ≤ k ∧ k < 256 then M 18 (s * 256 + k) else 0
theorem sp_rw_rg {M : kb_M} (h : kb_ok M) (s : Int) : -2147483648 ≤ sp_rw M s ∧ sp_rw M s < 2147483648 := by
  unfold sp_rw
  split
  · exact h 19 s
  · omega
theorem sp_rh_rg {M : kb_M} (h : kb_ok M) (s : Int) : -2147483648 ≤ sp_rh M s ∧ sp_rh M s < 2147483648 := by
  unfold sp_rh
  split
  · exact h 20 s
  · omega
theorem sp_px_rg {M : kb_M} (h : kb_ok M) (s k : Int) : -2147483648 ≤ sp_px M s k ∧ sp_px M s k < 2147483648 := by
  unfold sp_px
  split
  · exact h 18 (s * 256 + k)
  · omega
def sp_rb1 (M : kb_M) : kb_M := fun q => if q = 4 then (fun k => if k = 3 then (if M 4 4 < 4 then M 4 3 else (M 4 3 + 1) % 4) else if k = 4 then (if M 4 4 < 4 then M 4 4 + 1 else M 4 4) else M 4 k) else M q
theorem sp_rb1_lt {M : kb_M} (h : M 4 4 < 4) : sp_rb1 M = kb_wr M 4 4 (M 4 4 + 1) := by
  apply sp_ext
  intro q k
  simp only [sp_rb1, kb_wr, sp_ia]
  grind
theorem sp_rb1_ge {M : kb_M} (h : ¬ M 4 4 < 4) : sp_rb1 M = kb_wr M 4 3 ((M 4 3 + 1) % 4) := by
  apply sp_ext
  intro q k
  simp only [sp_rb1, kb_wr, sp_ia]
  grind
def sp_rbs (M : kb_M) : Int := if M 4 4 < 4 then (M 4 3 + M 4 4) % 4 else M 4 3
def sp_rbn (M : kb_M) (w h : Int) : kb_M := kb_wr (kb_wr (sp_rb1 M) 19 (sp_rbs M) w) 20 (sp_rbs M) h
theorem sp_rbs_lt {M : kb_M} {x : Int} (h : M 4 4 < 4) (hx : x = (M 4 3 + (M 4 4 + 1 - 1)) % 4) : x = sp_rbs M := by
  unfold sp_rbs; rw [if_pos h, hx]; congr 1; omega
theorem sp_rbs_ge {M : kb_M} {x : Int} (h : 4 ≤ M 4 4) (h4 : M 4 4 ≤ 4) (ho : 0 ≤ M 4 3 ∧ M 4 3 < 4) (hx : x = ((M 4 3 + 1) % 4 + (M 4 4 - 1)) % 4) : x = sp_rbs M := by
  unfold sp_rbs; rw [if_neg (by omega), hx]; omega
theorem sp_rbn_lt {M : kb_M} {w h x : Int} (hl : M 4 4 < 4) (hx : x = (M 4 3 + (M 4 4 + 1 - 1)) % 4) : kb_wr (kb_wr (kb_wr M 4 4 (M 4 4 + 1)) 19 x w) 20 x h = sp_rbn M w h := by
  rw [sp_rbs_lt hl hx]
  unfold sp_rbn
  rw [sp_rb1_lt hl]
theorem sp_rbn_ge {M : kb_M} {w h x : Int} (hl : 4 ≤ M 4 4) (h4 : M 4 4 ≤ 4) (ho : 0 ≤ M 4 3 ∧ M 4 3 < 4) (hx : x = ((M 4 3 + 1) % 4 + (M 4 4 - 1)) % 4) : kb_wr (kb_wr (kb_wr M 4 3 ((M 4 3 + 1) % 4)) 19 x w) 20 x h = sp_rbn M w h := by
  rw [sp_rbs_ge hl h4 ho hx]
  unfold sp_rbn
  rw [sp_rb1_ge (by omega)]
def sp_best (f : Int → Int) : Nat → Int
  | 0 => 0
  | n + 1 => if f (sp_best f n) < f ((n + 1 : Nat) : Int) then ((n + 1 : Nat) : Int) else sp_best f n
theorem sp_best_b (f : Int → Int) : ∀ n : Nat, 0 ≤ sp_best f n ∧ sp_best f n ≤ n := by
  intro n
  induction n with
  | zero => simp [sp_best]
  | succ n ih =>
    simp only [sp_best]
    split <;> omega
theorem sp_bestS (f : Int → Int) {k : Int} (h : 1 ≤ k) : sp_best f (k + 1 - 1).toNat = if f (sp_best f (k - 1).toNat) < f k then k else sp_best f (k - 1).toNat := by
  obtain ⟨n, rfl⟩ : ∃ n : Nat, k = ((n + 1 : Nat) : Int) := ⟨(k - 1).toNat, by omega⟩
  have e1 : (((n + 1 : Nat) : Int) + 1 - 1).toNat = n + 1 := by omega
  have e2 : (((n + 1 : Nat) : Int) - 1).toNat = n := by omega
  rw [e1, e2]
  rfl
/-- a hash over n numbers -/
def sp_hs (f : Int → Int) (h : Int) : Nat → Int
  | 0 => h
  | n + 1 => 31 * sp_hs f h n + f (n : Int)
theorem sp_hsS (f : Int → Int) (h : Int) {i : Int} (hi : 0 ≤ i) : sp_hs f h (i + 1).toNat = 31 * sp_hs f h i.toNat + f i := by
  obtain ⟨n, rfl⟩ := Int.eq_ofNat_of_zero_le hi
  show sp_hs f h (n + 1) = _
  rfl
def sp_hp (M : kb_M) (h : Int) : Nat → Int
  | 0 => h
  | n + 1 => sp_hs (fun k => sp_px M ((M 4 3 + (n : Int)) % 4) k) (sp_hp M h n) (sp_rw M ((M 4 3 + (n : Int)) % 4) * sp_rh M ((M 4 3 + (n : Int)) % 4)).toNat
theorem sp_hpS (M : kb_M) (h : Int) {i : Int} (hi : 0 ≤ i) : sp_hp M h (i + 1).toNat = sp_hs (fun k => sp_px M ((M 4 3 + i) % 4) k) (sp_hp M h i.toNat) (sp_rw M ((M 4 3 + i) % 4) * sp_rh M ((M 4 3 + i) % 4)).toNat := by
  obtain ⟨n, rfl⟩ := Int.eq_ofNat_of_zero_le hi
  show sp_hp M h (n + 1) = _
  rfl
/-- the bounds of the scene -/
def sp_sc (M : kb_M) : Prop := (0 ≤ M 2 5 ∧ M 2 5 ≤ 8) ∧ ∀ k : Int, 0 ≤ k → k < M 2 5 → (-2000 ≤ M 11 k ∧ M 11 k ≤ 2000) ∧ (0 ≤ M 12 k ∧ M 12 k ≤ 4000) ∧ (-100 ≤ M 13 k ∧ M 13 k ≤ 100) ∧ (-200 ≤ M 14 k ∧ M 14 k ≤ 200) ∧ (-200 ≤ M 15 k ∧ M 15 k ≤ 200)
def sp_mvI (M : kb_M) (j : Int) : kb_M := fun q => if q = 11 then (fun k => if 0 ≤ k ∧ k < j then max (-2000) (min (M 11 k + M 14 k) 2000) else M 11 k) else if q = 12 then (fun k => if 0 ≤ k ∧ k < j then max 0 (min (M 12 k + M 15 k) 4000) else M 12 k) else M q
def sp_mv (M : kb_M) : kb_M := sp_mvI M (M 2 5)
theorem sp_mvI_0 (M : kb_M) : M = sp_mvI M 0 := by
  apply sp_ext
  intro q k
  simp only [sp_mvI, sp_ia]
  grind
theorem sp_mvI_S (M : kb_M) (i : Int) (h : 0 ≤ i) : kb_wr (kb_wr (sp_mvI M i) 11 i (max (-2000) (min (M 11 i + M 14 i) 2000))) 12 i (max 0 (min (M 12 i + M 15 i) 4000)) = sp_mvI M (i + 1) := by
  apply sp_ext
  intro q k
  simp only [kb_wr, sp_mvI, sp_ia]
  grind
/-- the fan -/
def sp_fv (M : kb_M) (a k : Int) : Int := if 0 ≤ a ∧ a < M 5 1 ∧ a < 9 ∧ 0 ≤ k ∧ k < M 5 2 ∧ k < 16 then M 21 (a * 16 + k) else 0
def sp_xo (M : kb_M) (a k : Int) : Int := (k * M 5 3 * (a - (M 5 1 - 1) / 2)).tdiv 8
def sp_fb (M : kb_M) : Prop := ∀ j : Int, -2000 ≤ M 21 j ∧ M 21 j ≤ 2000
theorem sp_fv_b {M : kb_M} (h : sp_fb M) (a k : Int) : -2000 ≤ sp_fv M a k ∧ sp_fv M a k ≤ 2000 := by
  unfold sp_fv
  split
  · exact h _
  · omega
def sp_wd (M : kb_M) (x z : Int) : Int := 16 * ((M 5 1 - 1) / 2) + (if z = 0 then 0 else (128 * x).tdiv z)
def sp_mx (f : Int → Int → Int) (wd dp : Int) : Int := ((16 - wd % 16) * (16 - dp % 16) * f (wd / 16) (dp / 16) + wd % 16 * (16 - dp % 16) * f (wd / 16 + 1) (dp / 16) + ((16 - wd % 16) * (dp % 16) * f (wd / 16) (dp / 16 + 1) + wd % 16 * (dp % 16) * f (wd / 16 + 1) (dp / 16 + 1))).tdiv 256
def sp_la (M : kb_M) (x z : Int) : Int := if sp_wd M x z < 0 ∨ 16 * (M 5 1 - 1) < sp_wd M x z ∨ 16 * (M 5 2 - 1) < 16 * z / M 5 3 then 0 else sp_mx (sp_fv M) (sp_wd M x z) (16 * z / M 5 3)
theorem sp_shv {s v : Int} (hs : 0 ≤ s ∧ s ≤ 256) (hv : -2000 ≤ v ∧ v ≤ 2000) : -512000 ≤ s * v ∧ s * v ≤ 512000 := by
  have h1 := sp_mulb (a := s) (b := v + 2000) (A := 256) (B := 4000) hs.1 hs.2 (by omega) (by omega)
  rw [Int.mul_add] at h1
  have h2 : s * v ≤ s * 2000 := Int.mul_le_mul_of_nonneg_left hv.2 hs.1
  omega
theorem sp_shg {g f : Int} (hg : 0 ≤ g ∧ g < 16) (hf : 0 ≤ f ∧ f < 16) : (0 ≤ (16 - g) * (16 - f) ∧ (16 - g) * (16 - f) ≤ 256) ∧ (0 ≤ g * (16 - f) ∧ g * (16 - f) ≤ 256) ∧ (0 ≤ (16 - g) * f ∧ (16 - g) * f ≤ 256) ∧ (0 ≤ g * f ∧ g * f ≤ 256) := by
  refine ⟨?_, ?_, ?_, ?_⟩
  · exact sp_mulb (A := 16) (B := 16) (by omega) (by omega) (by omega) (by omega)
  · exact sp_mulb (A := 16) (B := 16) (by omega) (by omega) (by omega) (by omega)
  · exact sp_mulb (A := 16) (B := 16) (by omega) (by omega) (by omega) (by omega)
  · exact sp_mulb (A := 16) (B := 16) (by omega) (by omega) (by omega) (by omega)
theorem sp_tdb {x z b : Int} (hz : 0 ≤ z) (hx : -b ≤ x ∧ x ≤ b) : -b ≤ x.tdiv z ∧ x.tdiv z ≤ b := by
  rcases Int.lt_or_le x 0 with h | h
  · have e : x.tdiv z = -((-x) / z) := by
      rw [← Int.tdiv_eq_ediv_of_nonneg (by omega), Int.neg_tdiv, Int.neg_neg]
    have h1 := Int.ediv_nonneg (a := -x) (b := z) (by omega) hz
    have h2 := Int.ediv_le_self (a := -x) z (by omega)
    omega
  · rw [Int.tdiv_eq_ediv_of_nonneg h]
    have h1 := Int.ediv_nonneg (a := x) (b := z) h hz
    have h2 := Int.ediv_le_self (a := x) z h
    omega
theorem sp_xob (M : kb_M) {a k : Int} (hl : 1 ≤ M 5 1 ∧ M 5 1 ≤ 9) (hr : 1 ≤ M 5 3 ∧ M 5 3 ≤ 250) (ha : 0 ≤ a ∧ a < 9) (hk : 0 ≤ k ∧ k < 16) : (0 ≤ k * M 5 3 ∧ k * M 5 3 ≤ 3750) ∧ -33750 ≤ k * M 5 3 * (a - (M 5 1 - 1) / 2) ∧ k * M 5 3 * (a - (M 5 1 - 1) / 2) ≤ 33750 := by
  have h1 := sp_mulb (a := k) (b := M 5 3) (A := 15) (B := 250) hk.1 (by omega) (by omega) hr.2
  refine ⟨h1, ?_⟩
  generalize hd : a - (M 5 1 - 1) / 2 = d
  have h2 := sp_mulb (a := k * M 5 3) (b := d + 9) (A := 3750) (B := 18) h1.1 h1.2 (by omega) (by omega)
  rw [Int.mul_add] at h2
  have h3 : k * M 5 3 * d ≤ k * M 5 3 * 9 := Int.mul_le_mul_of_nonneg_left (by omega) h1.1
  omega
theorem sp_la_0 {M : kb_M} {x z wd dp : Int} (h1 : wd = sp_wd M x z) (h2 : dp = 16 * z / M 5 3) (h : wd < 0 ∨ 16 * (M 5 1 - 1) < wd ∨ 16 * (M 5 2 - 1) < dp) : 0 = sp_la M x z := by
  unfold sp_la
  rw [← h1, ← h2, if_pos h]
theorem sp_la_1 {M : kb_M} {x z wd dp : Int} (h1 : wd = sp_wd M x z) (h2 : dp = 16 * z / M 5 3) (h : ¬ (wd < 0 ∨ 16 * (M 5 1 - 1) < wd ∨ 16 * (M 5 2 - 1) < dp)) : sp_la M x z = sp_mx (sp_fv M) wd dp := by
  unfold sp_la
  rw [← h1, ← h2, if_neg h]

