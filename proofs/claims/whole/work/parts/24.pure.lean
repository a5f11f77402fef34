/-! the class's own methods -/
theorem kb_bP {p q : Prop} [Decidable p] [Decidable q] (h : p ↔ q) : kb_b p = kb_b q := by
  unfold kb_b
  by_cases hp : p
  · rw [if_pos hp, if_pos (h.mp hp)]
  · rw [if_neg hp, if_neg (fun z => hp (h.mpr z))]
def sp_probeR (n f p : Int) : Int := if (2 ≤ n ∧ n ≤ 16) ∧ (-2000 ≤ f ∧ f ≤ 2000) ∧ (1 ≤ p ∧ p ≤ 200) ∧ f + (n - 1) * p ≤ 2000 then 1 else -2
def sp_probeM (M : kb_M) (n f p : Int) : kb_M := if (2 ≤ n ∧ n ≤ 16) ∧ (-2000 ≤ f ∧ f ≤ 2000) ∧ (1 ≤ p ∧ p ≤ 200) ∧ f + (n - 1) * p ≤ 2000 then kb_wr (kb_wr (kb_wr (kb_wr (kb_wr (sp_rn M n f p n) 3 2 0) 3 3 0) 4 3 0) 4 4 0) 6 0 0 else M
def sp_paceR (M : kb_M) (p q : Int) : Int := if (1 ≤ p ∧ p ≤ 1000) ∧ 1 ≤ q ∧ q ≤ 1000 then (if 0 < M 3 3 then -3 else 1) else -2
def sp_paceM (M : kb_M) (p q : Int) : kb_M := if ((1 ≤ p ∧ p ≤ 1000) ∧ 1 ≤ q ∧ q ≤ 1000) ∧ ¬ 0 < M 3 3 then kb_wr (kb_wr M 1 7 p) 1 8 q else M
def sp_deadR (M : kb_M) (i d : Int) : Int := if 0 ≤ i ∧ i < M 1 5 ∧ i < 16 then (if kb_b (0 ≤ i ∧ i < M 1 5 ∧ i < 16 ∧ M 8 i ≠ 0) = d ∨ (d ≠ 0 ∧ M 1 6 = 1) then -3 else 1) else -2
def sp_deadM (M : kb_M) (i d : Int) : kb_M := if (0 ≤ i ∧ i < M 1 5 ∧ i < 16) ∧ ¬ (kb_b (0 ≤ i ∧ i < M 1 5 ∧ i < 16 ∧ M 8 i ≠ 0) = d ∨ (d ≠ 0 ∧ M 1 6 = 1)) then kb_wr (kb_wr M 8 i d) 1 6 (M 1 6 + 1 - 2 * d) else M
def sp_delayR (M : kb_M) (i x z : Int) : Int := if (0 ≤ i ∧ i < M 1 5 ∧ i < 16) ∧ (-2000 ≤ x ∧ x ≤ 2000) ∧ 0 ≤ z ∧ z ≤ 4000 then sp_dly M i x z else -2
def sp_weightR (M : kb_M) (i x z : Int) : Int := if (0 ≤ i ∧ i < M 1 5 ∧ i < 16) ∧ (-2000 ≤ x ∧ x ≤ 2000) ∧ 0 ≤ z ∧ z ≤ 4000 then sp_wt M i x z else -2
def sp_pointR (M : kb_M) (x z t dx dz : Int) : Int := if ((-2000 ≤ x ∧ x ≤ 2000) ∧ 0 ≤ z ∧ z ≤ 4000) ∧ (-100 ≤ t ∧ t ≤ 100) ∧ (-200 ≤ dx ∧ dx ≤ 200) ∧ -200 ≤ dz ∧ dz ≤ 200 then (if 8 ≤ M 2 5 then -4 else M 2 5) else -2
def sp_putM (M : kb_M) (x z t dx dz : Int) : kb_M := kb_wr (kb_wr (kb_wr (kb_wr (kb_wr (kb_wr M 11 (M 2 5) x) 12 (M 2 5) z) 13 (M 2 5) t) 14 (M 2 5) dx) 15 (M 2 5) dz) 2 5 (M 2 5 + 1)
def sp_pointM (M : kb_M) (x z t dx dz : Int) : kb_M := if (((-2000 ≤ x ∧ x ≤ 2000) ∧ 0 ≤ z ∧ z ≤ 4000) ∧ (-100 ≤ t ∧ t ≤ 100) ∧ (-200 ≤ dx ∧ dx ≤ 200) ∧ -200 ≤ dz ∧ dz ≤ 200) ∧ M 2 5 < 8 then sp_putM M x z t dx dz else M
def sp_pointAtR (M : kb_M) (k t : Int) : Int := if 0 ≤ k ∧ k < M 2 5 ∧ k < 8 then (if t = 0 then M 11 k else if t = 1 then M 12 k else if t = 2 then M 13 k else -5000) else -5000
def sp_sampleR (M : kb_M) (lk i s : Int) : Int := if (0 ≤ lk ∧ lk < M 3 3) ∧ (0 ≤ i ∧ i < M 1 5 ∧ i < 16) ∧ 0 ≤ s ∧ s ≤ 399 then sp_at M lk i s else -1000000
def sp_windowR (M : kb_M) (w f : Int) : Int := if (0 ≤ w ∧ w ≤ 2) ∧ 1 ≤ f ∧ f ≤ 9 then M 1 9 else -2
def sp_windowM (M : kb_M) (w f : Int) : kb_M := if (0 ≤ w ∧ w ≤ 2) ∧ 1 ≤ f ∧ f ≤ 9 then kb_wr (kb_wr M 1 9 w) 1 10 f else M
def sp_capR (M : kb_M) (n : Int) : Int := if 0 ≤ n ∧ n ≤ 1000000 then M 6 1 else -2
def sp_capM (M : kb_M) (n : Int) : kb_M := if 0 ≤ n ∧ n ≤ 1000000 then kb_wr M 6 1 n else M
def sp_cool (h : Int) : Nat → Int
  | 0 => h
  | n + 1 => sp_cool h n - (sp_cool h n + 31) / 32
theorem sp_coolS (h : Int) {i : Int} (hi : 0 ≤ i) : sp_cool h (i + 1).toNat = sp_cool h i.toNat - (sp_cool h i.toNat + 31) / 32 := by
  obtain ⟨n, rfl⟩ := Int.eq_ofNat_of_zero_le hi
  show sp_cool h (n + 1) = _
  rfl
theorem sp_cool_b {h : Int} (hh : 0 ≤ h ∧ h ≤ 1000000) : ∀ n, 0 ≤ sp_cool h n ∧ sp_cool h n ≤ 1000000 := by
  intro n
  induction n with
  | zero => exact hh
  | succ n ih =>
    simp only [sp_cool]
    omega
def sp_tickR (M : kb_M) (n : Int) : Int := if 1 ≤ n ∧ n ≤ 1000 then sp_cool (M 6 0) n.toNat else -2
def sp_tkI (M : kb_M) (j : Int) : kb_M := kb_wr M 6 0 (sp_cool (M 6 0) j.toNat)
def sp_tickM (M : kb_M) (n : Int) : kb_M := if 1 ≤ n ∧ n ≤ 1000 then sp_tkI M n else M
theorem sp_wrwr (M : kb_M) (q : Nat) (k a b : Int) : kb_wr (kb_wr M q k a) q k b = kb_wr M q k b := by
  apply sp_ext
  intro x j
  simp only [kb_wr, sp_ia]
  grind
theorem sp_wrself (M : kb_M) (q : Nat) (k : Int) : kb_wr M q k (M q k) = M := by
  apply sp_ext
  intro x j
  simp only [kb_wr, sp_ia]
  grind
theorem sp_tkI_S (M : kb_M) (i : Int) (h : 0 ≤ i) : kb_wr (sp_tkI M i) 6 0 (sp_cool (M 6 0) i.toNat - (sp_cool (M 6 0) i.toNat + 31) / 32) = sp_tkI M (i + 1) := by
  unfold sp_tkI
  rw [sp_wrwr, sp_coolS _ h]
def sp_countR (M : kb_M) (t : Int) : Int := if t = 0 then M 1 5 else if t = 1 then M 1 6 else if t = 2 then M 2 5 else if t = 3 then M 3 3 else if t = 4 then M 4 4 else if t = 5 then M 6 0 else if t = 6 then M 3 4 else -2
theorem sp_countR_rg {M : kb_M} (h : kb_ok M) (t : Int) : -2147483648 ≤ sp_countR M t ∧ sp_countR M t < 2147483648 := by
  unfold sp_countR
  split
  · exact h _ _
  split
  · exact h _ _
  split
  · exact h _ _
  split
  · exact h _ _
  split
  · exact h _ _
  split
  · exact h _ _
  split
  · exact h _ _
  omega
def sp_calR (x z u v : Int) : Int := if ((-2000 ≤ x ∧ x ≤ 2000) ∧ 0 ≤ z ∧ z ≤ 4000) ∧ (-2000 ≤ u ∧ u ≤ 2000) ∧ 0 ≤ v ∧ v ≤ 4000 then sp_sq ((x - u) * (x - u) + (z - v) * (z - v)) else -2
theorem sp_absq (a : Int) : max a (-a) * max a (-a) = a * a := by
  rcases Int.le_total 0 a with h | h
  · rw [show max a (-a) = a by omega]
  · rw [show max a (-a) = -a by omega, Int.neg_mul_neg]
theorem sp_calb {a b : Int} (ha : 0 ≤ a ∧ a ≤ 4000) (hb : 0 ≤ b ∧ b ≤ 4000) : 0 ≤ a * a + b * b ∧ a * a + b * b ≤ 32000000 ∧ sp_sq (a * a + b * b) ≤ a + b := by
  have h1 := sp_mulb (a := a) (b := a) (A := 4000) (B := 4000) ha.1 ha.2 ha.1 ha.2
  have h2 := sp_mulb (a := b) (b := b) (A := 4000) (B := 4000) hb.1 hb.2 hb.1 hb.2
  refine ⟨by omega, by omega, ?_⟩
  have h6 := sp_sq_le (v := a * a + b * b) (by omega)
  have hn := sp_sq_nn (a * a + b * b)
  rcases Int.lt_or_le (a + b) (sp_sq (a * a + b * b)) with h7 | h7
  · exfalso
    have h8 : (a + b + 1) * (a + b + 1) ≤ sp_sq (a * a + b * b) * sp_sq (a * a + b * b) := Int.mul_le_mul (by omega) (by omega) (by omega) hn
    have h9 : (a + b + 1) * (a + b + 1) = a * a + b * b + 2 * (a * b) + 2 * a + 2 * b + 1 := by grind
    have h10 := Int.mul_nonneg ha.1 hb.1
    omega
  · exact h7
def sp_fanAtR (M : kb_M) (a k : Int) : Int := if 0 ≤ a ∧ a < M 5 1 ∧ a < 9 ∧ 0 ≤ k ∧ k < M 5 2 ∧ k < 16 then sp_fv M a k else -1000000000
def sp_boardR (M : kb_M) (w h s u v : Int) : Int := if ((2 ≤ w ∧ w ≤ 12) ∧ (2 ≤ h ∧ h ≤ 12) ∧ 1 ≤ s ∧ s ≤ 500) ∧ (0 ≤ u ∧ u ≤ w - 1) ∧ (0 ≤ v ∧ v ≤ h - 1) ∧ M 5 1 ≠ 0 then sp_la M ((s * (2 * u - w + 1)).tdiv 2) (s * v) else -1000000000
def sp_pixelR (M : kb_M) (p k l : Int) : Int := if (0 ≤ p ∧ p < M 4 4) ∧ (0 ≤ k ∧ k ≤ sp_rw M ((M 4 3 + p) % 4) - 1) ∧ 0 ≤ l ∧ l ≤ sp_rh M ((M 4 3 + p) % 4) - 1 then sp_px M ((M 4 3 + p) % 4) (k + sp_rw M ((M 4 3 + p) % 4) * l) else -1000000000
def sp_mxI (M : kb_M) (t : Int) : Int := sp_best (sp_px M t) (sp_rw M t * sp_rh M t - 1).toNat
def sp_aboutR (M : kb_M) (p t : Int) : Int := if 0 ≤ p ∧ p < M 4 4 then (if t = 0 then sp_rw M ((M 4 3 + p) % 4) else if t = 1 then sp_rh M ((M 4 3 + p) % 4) else if t = 2 then sp_px M ((M 4 3 + p) % 4) (sp_mxI M ((M 4 3 + p) % 4)) else if t = 3 then sp_mxI M ((M 4 3 + p) % 4) else -2) else -2
theorem sp_mxI_b {M : kb_M} {t : Int} (hw : 0 ≤ sp_rw M t ∧ sp_rw M t ≤ 16) (hv : 0 ≤ sp_rh M t ∧ sp_rh M t ≤ 16) : 0 ≤ sp_mxI M t ∧ sp_mxI M t ≤ 256 := by
  have h1 := sp_mulb hw.1 hw.2 hv.1 hv.2
  have h2 := sp_best_b (sp_px M t) (sp_rw M t * sp_rh M t - 1).toNat
  unfold sp_mxI
  omega
def sp_wh (M : kb_M) : Prop := ∀ t : Int, (0 ≤ sp_rw M t ∧ sp_rw M t ≤ 16) ∧ (0 ≤ sp_rh M t ∧ sp_rh M t ≤ 16)
/-- what holds of the class's cells at all times -/
def sp_IP (M : kb_M) : Prop := sp_xs M ∧ (0 ≤ M 1 5 ∧ M 1 5 ≤ 16) ∧ (0 ≤ M 1 6 ∧ M 1 6 ≤ 16) ∧ (1 ≤ M 1 7 ∧ M 1 7 ≤ 1000) ∧ (1 ≤ M 1 8 ∧ M 1 8 ≤ 1000) ∧ (1 ≤ M 1 10 ∧ M 1 10 ≤ 9)
def sp_IL (M : kb_M) : Prop := (0 ≤ M 3 2 ∧ M 3 2 < 6) ∧ (0 ≤ M 3 3 ∧ M 3 3 ≤ 6) ∧ ∀ j : Int, -1600 ≤ M 16 j ∧ M 16 j ≤ 1600
def sp_IR (M : kb_M) : Prop := (0 ≤ M 4 3 ∧ M 4 3 < 4) ∧ (0 ≤ M 4 4 ∧ M 4 4 ≤ 4) ∧ sp_wh M
def sp_IF (M : kb_M) : Prop := (M 5 1 ≠ 0 → (1 ≤ M 5 1 ∧ M 5 1 ≤ 9) ∧ (1 ≤ M 5 2 ∧ M 5 2 ≤ 16) ∧ (1 ≤ M 5 3 ∧ M 5 3 ≤ 250)) ∧ sp_fb M

