/-! pure words: roots, sums, what the methods of the class answer and leave -/
def sp_sqN (v : Nat) : Nat → Nat
  | 0 => 0
  | n + 1 => if (n + 1) * (n + 1) ≤ v then n + 1 else sp_sqN v n
def sp_sq (v : Int) : Int := (sp_sqN v.toNat v.toNat : Int)
theorem sp_sqN_le (v : Nat) : ∀ n, sp_sqN v n * sp_sqN v n ≤ v := by
  intro n
  induction n with
  | zero => simp [sp_sqN]
  | succ n ih =>
    unfold sp_sqN
    split
    · assumption
    · exact ih
theorem sp_sqN_ge (v : Nat) : ∀ n k : Nat, k ≤ n → k * k ≤ v → k ≤ sp_sqN v n := by
  intro n
  induction n with
  | zero => intro k h _; omega
  | succ n ih =>
    intro k h hk
    unfold sp_sqN
    split
    · exact h
    · rename_i h2
      rcases Nat.lt_or_ge n k with h3 | h3
      · have : k = n + 1 := by omega
        subst this
        exact absurd hk h2
      · exact ih k h3 hk
theorem sp_sq_nn (v : Int) : 0 ≤ sp_sq v := Int.natCast_nonneg _
theorem sp_sq_le {v : Int} (h : 0 ≤ v) : sp_sq v * sp_sq v ≤ v := by
  have h1 := sp_sqN_le v.toNat v.toNat
  unfold sp_sq
  have h2 : ((sp_sqN v.toNat v.toNat * sp_sqN v.toNat v.toNat : Nat) : Int) ≤ (v.toNat : Int) := Int.ofNat_le.mpr h1
  rw [Int.natCast_mul] at h2
  omega
theorem sp_sq_ge {v k : Int} (h : 0 ≤ k) (hk : k * k ≤ v) : k ≤ sp_sq v := by
  obtain ⟨n, rfl⟩ := Int.eq_ofNat_of_zero_le h
  obtain ⟨w, rfl⟩ := Int.eq_ofNat_of_zero_le (Int.le_trans (Int.mul_nonneg h h) hk)
  have h1 : n * n ≤ w := by
    rw [← Int.natCast_mul] at hk
    exact Int.ofNat_le.mp hk
  have h2 : n ≤ w := by
    rcases Nat.eq_zero_or_pos n with h3 | h3
    · omega
    · exact Nat.le_trans (Nat.le_mul_of_pos_left n h3) h1
  unfold sp_sq
  rw [Int.toNat_natCast]
  exact Int.ofNat_le.mpr (sp_sqN_ge w w n h2 h1)
theorem sp_sq_lt {v : Int} (h : 0 ≤ v) : v < (sp_sq v + 1) * (sp_sq v + 1) := by
  rcases Int.lt_or_le v ((sp_sq v + 1) * (sp_sq v + 1)) with h1 | h1
  · exact h1
  · have h2 := sp_sq_ge (v := v) (k := sp_sq v + 1) (by have := sp_sq_nn v; omega) h1
    omega
theorem sp_sq_eq {v r : Int} (h0 : 0 ≤ r) (h1 : r * r ≤ v) (h2 : v < (r + 1) * (r + 1)) : sp_sq v = r := by
  have hv : 0 ≤ v := Int.le_trans (Int.mul_nonneg h0 h0) h1
  have h3 := sp_sq_ge h0 h1
  rcases Int.lt_or_le r (sp_sq v) with h4 | h4
  · have h5 : (r + 1) * (r + 1) ≤ sp_sq v * sp_sq v := Int.mul_le_mul (by omega) (by omega) (by omega) (sp_sq_nn v)
    have h6 := sp_sq_le hv
    omega
  · omega
/-- one step of Newton's way from above -/
theorem sp_newton {v g : Int} (hv : 0 ≤ v) (hg : 0 < g) (hr : sp_sq v ≤ g) : sp_sq v ≤ (g + v / g) / 2 ∧ (sp_sq v < g → (g + v / g) / 2 - sp_sq v ≤ (g - sp_sq v) / 2) := by
  have hn := sp_sq_nn v
  have h1 := sp_sq_le hv
  have h2 := sp_sq_lt hv
  generalize sp_sq v = r at *
  refine ⟨?_, fun hlt => ?_⟩
  · -- 2 r ≤ g + v / g
    have h3 : 2 * r - g ≤ v / g := by
      apply Int.le_ediv_of_mul_le hg
      have h4 : (2 * r - g) * g = r * r - (g - r) * (g - r) := by
        rw [Int.sub_mul, Int.sub_mul, Int.mul_sub, Int.mul_sub, Int.mul_comm r g, Int.mul_assoc 2 r g, Int.mul_comm r g]
        omega
      have h5 : 0 ≤ (g - r) * (g - r) := Int.mul_nonneg (by omega) (by omega)
      omega
    omega
  · have h3 : v / g ≤ r := by
      apply Int.le_of_lt_add_one
      apply Int.ediv_lt_of_lt_mul hg
      have h4 : (r + 1) * (r + 1) ≤ (r + 1) * g := Int.mul_le_mul_of_nonneg_left (by omega) (by omega)
      omega
    omega
def sp_sum (f : Int → Int) : Nat → Int
  | 0 => 0
  | n + 1 => sp_sum f n + f (n : Int)
theorem sp_sum_b {f : Int → Int} {b : Int} : ∀ n : Nat, (∀ k : Int, 0 ≤ k → k < n → -b ≤ f k ∧ f k ≤ b) → -(b * n) ≤ sp_sum f n ∧ sp_sum f n ≤ b * n := by
  intro n
  induction n with
  | zero => intro _; simp [sp_sum]
  | succ n ih =>
    intro h
    have h1 := ih (fun k a c => h k a (by omega))
    have h2 := h n (by omega) (by omega)
    have h3 : b * ((n + 1 : Nat) : Int) = b * n + b := by rw [show ((n + 1 : Nat) : Int) = (n : Int) + 1 from rfl, Int.mul_add, Int.mul_one]
    simp only [sp_sum]
    omega
theorem sp_sum_nn {f : Int → Int} : ∀ n : Nat, (∀ k : Int, 0 ≤ k → k < n → 0 ≤ f k) → 0 ≤ sp_sum f n := by
  intro n
  induction n with
  | zero => intro _; simp [sp_sum]
  | succ n ih =>
    intro h
    have h1 := ih (fun k a c => h k a (by omega))
    have h2 := h n (by omega) (by omega)
    simp only [sp_sum]
    omega
theorem sp_sum_eq {f g : Int → Int} : ∀ n : Nat, (∀ k : Int, 0 ≤ k → k < n → f k = g k) → sp_sum f n = sp_sum g n := by
  intro n
  induction n with
  | zero => intro _; rfl
  | succ n ih =>
    intro h
    simp only [sp_sum]
    rw [ih (fun k a c => h k a (by omega)), h n (by omega) (by omega)]
theorem sp_sumS (f : Int → Int) {i : Int} (h : 0 ≤ i) : sp_sum f (i + 1).toNat = sp_sum f i.toNat + f i := by
  obtain ⟨n, rfl⟩ := Int.eq_ofNat_of_zero_le h
  show sp_sum f (n + 1) = _
  rfl
/-! the class: what its methods answer -/
def sp_gap (M : kb_M) (i x : Int) : Int := if 0 ≤ i ∧ i < M 1 5 ∧ i < 16 then max (M 7 i - x) (-(M 7 i - x)) else 0
def sp_xs (M : kb_M) : Prop := ∀ j : Int, 0 ≤ j → j < M 1 5 → -2000 ≤ M 7 j ∧ M 7 j ≤ 2000
theorem sp_gap_b {M : kb_M} {i x : Int} (h : sp_xs M) (hx : -2000 ≤ x ∧ x ≤ 2000) : 0 ≤ sp_gap M i x ∧ sp_gap M i x ≤ 4000 := by
  unfold sp_gap
  split
  · have := h i (by omega) (by omega)
    omega
  · omega
def sp_dl (P T g z : Int) : Int := (sp_sq (4 * T * T * (g * g + z * z)) + P) / (2 * P)
def sp_dly (M : kb_M) (i x z : Int) : Int := sp_dl (M 1 7) (M 1 8) (sp_gap M i x) z
theorem sp_mulb {a b A B : Int} (h0 : 0 ≤ a) (h1 : a ≤ A) (h2 : 0 ≤ b) (h3 : b ≤ B) : 0 ≤ a * b ∧ a * b ≤ A * B :=
  ⟨Int.mul_nonneg h0 h2, Int.mul_le_mul h1 h3 h2 (by omega)⟩
/-- the square under the root, and where Newton starts -/
theorem sp_sqb {T g z : Int} (hT : 1 ≤ T ∧ T ≤ 1000) (hg : 0 ≤ g ∧ g ≤ 4000) (hz : 0 ≤ z ∧ z ≤ 4000) : 0 ≤ 4 * T * T * (g * g + z * z) ∧ 4 * T * T * (g * g + z * z) ≤ 128000000000000 ∧ 0 ≤ 2 * T * (g + z) ∧ 2 * T * (g + z) ≤ 16000000 ∧ sp_sq (4 * T * T * (g * g + z * z)) ≤ 2 * T * (g + z) := by
  have h1 := sp_mulb (a := g) (b := g) (A := 4000) (B := 4000) hg.1 hg.2 hg.1 hg.2
  have h2 := sp_mulb (a := z) (b := z) (A := 4000) (B := 4000) hz.1 hz.2 hz.1 hz.2
  have h3 := sp_mulb (a := 4 * T) (b := T) (A := 4000) (B := 1000) (by omega) (by omega) (by omega) hT.2
  have h4 := sp_mulb (a := 4 * T * T) (b := g * g + z * z) (A := 4000000) (B := 32000000) h3.1 h3.2 (by omega) (by omega)
  have h5 := sp_mulb (a := 2 * T) (b := g + z) (A := 2000) (B := 8000) (by omega) (by omega) (by omega) (by omega)
  refine ⟨h4.1, h4.2, h5.1, h5.2, ?_⟩
  have h6 := sp_sq_le h4.1
  have hn := sp_sq_nn (4 * T * T * (g * g + z * z))
  rcases Int.lt_or_le (2 * T * (g + z)) (sp_sq (4 * T * T * (g * g + z * z))) with h7 | h7
  · exfalso
    have h8 : (2 * T * (g + z) + 1) * (2 * T * (g + z) + 1) ≤ sp_sq (4 * T * T * (g * g + z * z)) * sp_sq (4 * T * T * (g * g + z * z)) := Int.mul_le_mul (by omega) (by omega) (by omega) hn
    have h9 : (2 * T * (g + z)) * (2 * T * (g + z)) = 4 * T * T * (g * g + z * z) + 8 * (T * T) * (g * z) := by grind
    have h10 : 0 ≤ 8 * (T * T) * (g * z) := Int.mul_nonneg (by have := Int.mul_nonneg (a := T) (b := T) (by omega) (by omega); omega) (Int.mul_nonneg hg.1 hz.1)
    have h11 : (2 * T * (g + z) + 1) * (2 * T * (g + z) + 1) = (2 * T * (g + z)) * (2 * T * (g + z)) + 2 * (2 * T * (g + z)) + 1 := by grind
    omega
  · exact h7
theorem sp_dl_b {P T g z : Int} (hP : 1 ≤ P ∧ P ≤ 1000) (hT : 1 ≤ T ∧ T ≤ 1000) (hg : 0 ≤ g ∧ g ≤ 4000) (hz : 0 ≤ z ∧ z ≤ 4000) : 0 ≤ sp_dl P T g z ∧ sp_dl P T g z ≤ 16001000 := by
  have h1 := sp_sqb hT hg hz
  have hn := sp_sq_nn (4 * T * T * (g * g + z * z))
  unfold sp_dl
  generalize sp_sq (4 * T * T * (g * g + z * z)) = r at *
  refine ⟨Int.ediv_nonneg (by omega) (by omega), ?_⟩
  have h2 : (r + P) / (2 * P) ≤ r + P := Int.ediv_le_self _ (by omega)
  omega
def sp_wt (M : kb_M) (i x z : Int) : Int :=
  if 0 ≤ i ∧ i < M 1 5 ∧ i < 16 ∧ M 8 i = 0 then
    (if M 1 9 = 0 then 1 else if z / M 1 10 < sp_gap M i x then 0 else if M 1 9 = 1 then 1 else z / M 1 10 - sp_gap M i x + 1)
  else 0
theorem sp_divb {z f : Int} (hf : 1 ≤ f) (hz : 0 ≤ z) : 0 ≤ z / f ∧ z / f ≤ z := ⟨Int.ediv_nonneg hz (by omega), Int.ediv_le_self _ hz⟩
theorem sp_wt_b {M : kb_M} {i x z : Int} (h : sp_xs M) (hx : -2000 ≤ x ∧ x ≤ 2000) (hf : 1 ≤ M 1 10) (hz : 0 ≤ z ∧ z ≤ 4000) : 0 ≤ sp_wt M i x z ∧ sp_wt M i x z ≤ 4001 := by
  have h1 := sp_gap_b (i := i) h hx
  have h2 := sp_divb hf hz.1
  unfold sp_wt
  split
  · split
    · omega
    · split
      · omega
      · split <;> omega
  · omega
/-- the world when aim has done j elements -/
def sp_aimI (M : kb_M) (x z j : Int) : kb_M := fun q => if q = 9 then (fun k => if 0 ≤ k ∧ k < j then sp_dly M k x z else M 9 k) else if q = 10 then (fun k => if 0 ≤ k ∧ k < j then sp_wt M k x z else M 10 k) else if q = 1 then (fun k => if k = 4 then sp_sum (fun a => sp_wt M a x z) j.toNat else M 1 k) else M q
def sp_aim (M : kb_M) (x z : Int) : kb_M := sp_aimI M x z (M 1 5)
theorem sp_ext {M N : kb_M} (h : ∀ q k, M q k = N q k) : M = N := by
  funext q k
  exact h q k
theorem sp_ia {α β : Type} {p : Prop} [Decidable p] (f g : α → β) (x : α) : (if p then f else g) x = if p then f x else g x := by split <;> rfl
theorem sp_aimI_0 (M : kb_M) (x z : Int) : kb_wr M 1 4 0 = sp_aimI M x z 0 := by
  apply sp_ext
  intro q k
  simp only [kb_wr, sp_aimI, sp_ia]
  grind [sp_sum]
theorem sp_aimI_S (M : kb_M) (x z i : Int) (h : 0 ≤ i) : kb_wr (kb_wr (kb_wr (sp_aimI M x z i) 9 i (sp_dly M i x z)) 10 i (sp_wt M i x z)) 1 4 (sp_sum (fun a => sp_wt M a x z) i.toNat + sp_wt M i x z) = sp_aimI M x z (i + 1) := by
  have hs := sp_sumS (fun a => sp_wt M a x z) h
  apply sp_ext
  intro q k
  simp only [kb_wr, sp_aimI, sp_ia, hs]
  grind
/-- the world when renew has done j elements -/
def sp_rn (M : kb_M) (n f p j : Int) : kb_M := fun q => if q = 1 then (fun k => if k = 5 then n else if k = 6 then n else M 1 k) else if q = 7 then (fun k => if 0 ≤ k ∧ k < j then f + k * p else M 7 k) else if q = 8 then (fun k => if 0 ≤ k ∧ k < j then 0 else M 8 k) else M q
theorem sp_rn_0 (M : kb_M) (n f p : Int) : kb_wr (kb_wr M 1 5 n) 1 6 n = sp_rn M n f p 0 := by
  apply sp_ext
  intro q k
  simp only [kb_wr, sp_rn, sp_ia]
  grind
theorem sp_rn_S (M : kb_M) (n f p i : Int) (h : 0 ≤ i) : kb_wr (kb_wr (sp_rn M n f p i) 7 i (f + i * p)) 8 i 0 = sp_rn M n f p (i + 1) := by
  apply sp_ext
  intro q k
  simp only [kb_wr, sp_rn, sp_ia]
  grind
/-- the looks -/
def sp_at (M : kb_M) (l i s : Int) : Int := if 0 ≤ s ∧ s < 400 ∧ 0 ≤ i ∧ i < 16 then M 16 ((M 3 2 + l) % 6 * 6400 + i * 400 + s) else 0
def sp_ld (M : kb_M) (l i s a : Int) : kb_M := fun q => if q = 16 then (fun p => M 16 p + (if (0 ≤ s ∧ s < 400 ∧ 0 ≤ i ∧ i < 16) ∧ p = (M 3 2 + l) % 6 * 6400 + i * 400 + s then a else 0)) else M q
theorem sp_ld_in (M : kb_M) (l i s a : Int) (h : 0 ≤ s ∧ s < 400 ∧ 0 ≤ i ∧ i < 16) : kb_wr M 16 ((M 3 2 + l) % 6 * 6400 + i * 400 + s) (M 16 ((M 3 2 + l) % 6 * 6400 + i * 400 + s) + a) = sp_ld M l i s a := by
  apply sp_ext
  intro q k
  simp only [kb_wr, sp_ld, sp_ia]
  grind
theorem sp_ld_out (M : kb_M) (l i s a : Int) (h : ¬ (0 ≤ s ∧ s < 400 ∧ 0 ≤ i ∧ i < 16)) : M = sp_ld M l i s a := by
  apply sp_ext
  intro q k
  simp only [sp_ld, sp_ia]
  grind
/-- the world of a new look, when j of its samples are cleared -/
def sp_bg (M : kb_M) (t : Int) : kb_M := fun q => if q = 3 then (fun k => if k = 2 then (if M 3 3 < 6 then M 3 2 else (M 3 2 + 1) % 6) else if k = 3 then (if M 3 3 < 6 then M 3 3 + 1 else M 3 3) else if k = 4 then M 3 4 + 1 else M 3 k) else if q = 17 then (fun k => if k = (if M 3 3 < 6 then M 3 2 + M 3 3 else M 3 2 + 1 + M 3 3 - 1) % 6 then t else M 17 k) else M q
def sp_bgS (M : kb_M) : Int := (if M 3 3 < 6 then M 3 2 + M 3 3 else M 3 2 + M 3 3) % 6
/-- j first samples of a slot cleared -/
def sp_cl (M : kb_M) (sl j : Int) : kb_M := fun q => if q = 16 then (fun p => if sl * 6400 ≤ p ∧ p < j then 0 else M 16 p) else M q
theorem sp_cl_0 (M : kb_M) (sl : Int) : M = sp_cl M sl (sl * 6400) := by
  apply sp_ext
  intro q k
  simp only [sp_cl, sp_ia]
  grind
theorem sp_cl_S (M : kb_M) (sl i : Int) (h : sl * 6400 ≤ i) : kb_wr (sp_cl M sl i) 16 i 0 = sp_cl M sl (i + 1) := by
  apply sp_ext
  intro q k
  simp only [kb_wr, sp_cl, sp_ia]
  grind
def sp_hv (s : Int) : Nat → Int
  | 0 => s
  | n + 1 => sp_hv s n / 2
theorem sp_hv_le (s : Int) : ∀ n : Nat, sp_hv s n ≤ s / 2 ^ n := by
  intro n
  induction n with
  | zero => simp [sp_hv]
  | succ n ih =>
    simp only [sp_hv]
    have h1 : s / 2 ^ (n + 1) = s / 2 ^ n / 2 := by rw [Int.pow_succ, Int.ediv_ediv_of_nonneg (Int.le_of_lt (Int.pow_pos (by omega)))]
    rw [h1]
    omega
theorem sp_hv_0 {s : Int} (n : Nat) (hs : s ≤ 100000000) : n = 100 → sp_hv s n ≤ 0 := by
  intro h
  have h1 := sp_hv_le s n
  subst h
  have h2 : (2 : Int) ^ 100 = 1267650600228229401496703205376 := by decide
  rw [h2] at h1
  omega
theorem sp_dly_b {M : kb_M} {i x z : Int} (hxs : sp_xs M) (hP : 1 ≤ M 1 7 ∧ M 1 7 ≤ 1000) (hT : 1 ≤ M 1 8 ∧ M 1 8 ≤ 1000) (hx : -2000 ≤ x ∧ x ≤ 2000) (hz : 0 ≤ z ∧ z ≤ 4000) : 0 ≤ sp_dly M i x z ∧ sp_dly M i x z ≤ 16001000 := sp_dl_b hP hT (sp_gap_b hxs hx) hz
theorem sp_wt_b2 {M : kb_M} {i x z : Int} (h : sp_xs M) (hx : -2000 ≤ x ∧ x ≤ 2000) (hf : 1 ≤ M 1 10 ∧ M 1 10 ≤ 9) (hz : 0 ≤ z ∧ z ≤ 4000) : 0 ≤ sp_wt M i x z ∧ sp_wt M i x z ≤ 4001 := sp_wt_b h hx hf.1 hz
theorem sp_ws_b {M : kb_M} {x z : Int} (h : sp_xs M) (hx : -2000 ≤ x ∧ x ≤ 2000) (hf : 1 ≤ M 1 10 ∧ M 1 10 ≤ 9) (hz : 0 ≤ z ∧ z ≤ 4000) (i : Int) (hi : 0 ≤ i ∧ i ≤ 16) : 0 ≤ sp_sum (fun a => sp_wt M a x z) i.toNat ∧ sp_sum (fun a => sp_wt M a x z) i.toNat ≤ 64016 := by
  have h1 := sp_sum_nn (f := fun a => sp_wt M a x z) i.toNat (fun k _ _ => (sp_wt_b2 h hx hf hz).1)
  have h2 := sp_sum_b (f := fun a => sp_wt M a x z) (b := 4001) i.toNat (fun k _ _ => by have := sp_wt_b2 (i := k) h hx hf hz; constructor <;> (show _ ≤ _) <;> first | omega | (simp only []; omega))
  omega
def sp_ad (M : kb_M) (i : Int) : Int := if 0 ≤ i ∧ i < M 1 5 ∧ i < 16 then M 9 i else 0
def sp_aw (M : kb_M) (i : Int) : Int := if 0 ≤ i ∧ i < M 1 5 ∧ i < 16 then M 10 i else 0

