/-! pictures, turns, fans, digests -/
def sp_pc (B : kb_M) (b x0 z0 sx sz w sl : Int) : Nat → kb_M
  | 0 => B
  | n + 1 => kb_wr (sp_jmM (sp_pc B b x0 z0 sx sz w sl n) (x0 + ((n : Int) % w) * sx) (z0 + ((n : Int) / w) * sz)) 18 (sl * 256 + (n : Int)) (sp_jm (sp_pc B b x0 z0 sx sz w sl n) b (x0 + ((n : Int) % w) * sx) (z0 + ((n : Int) / w) * sz))
theorem sp_pcS (B : kb_M) (b x0 z0 sx sz w sl k l : Int) (hk : 0 ≤ k ∧ k < w) (hl : 0 ≤ l) : kb_wr (sp_jmM (sp_pc B b x0 z0 sx sz w sl (w * l + k).toNat) (x0 + k * sx) (z0 + l * sz)) 18 (sl * 256 + (k + w * l)) (sp_jm (sp_pc B b x0 z0 sx sz w sl (w * l + k).toNat) b (x0 + k * sx) (z0 + l * sz)) = sp_pc B b x0 z0 sx sz w sl (w * l + (k + 1)).toNat := by
  have h0 : 0 ≤ w * l := Int.mul_nonneg (by omega) hl
  obtain ⟨n, hn⟩ := Int.eq_ofNat_of_zero_le (show 0 ≤ w * l + k by omega)
  have e1 : (w * l + (k + 1)).toNat = n + 1 := by omega
  have e2 : (w * l + k).toNat = n := by omega
  have e3 : (n : Int) % w = k := by rw [← hn, Int.add_comm, Int.add_mul_emod_self_left, Int.emod_eq_of_lt hk.1 hk.2]
  have e4 : (n : Int) / w = l := by rw [← hn, Int.add_comm, Int.add_mul_ediv_left _ _ (by omega), Int.ediv_eq_zero_of_lt hk.1 hk.2, Int.zero_add]
  rw [e1, e2]
  simp only [sp_pc]
  rw [e3, e4, show k + w * l = (n : Int) by omega]
theorem sp_jmM_q (M : kb_M) (x z : Int) {q : Nat} (h : q ≠ 1 ∧ q ≠ 9 ∧ q ≠ 10) : sp_jmM M x z q = M q := by
  unfold sp_jmM
  split
  · unfold sp_aim sp_aimI
    simp [h.1, h.2.1, h.2.2]
  · rfl
theorem sp_jmM_1 (M : kb_M) (x z : Int) {j : Int} (h : j ≠ 4) : sp_jmM M x z 1 j = M 1 j := by
  unfold sp_jmM
  split
  · unfold sp_aim sp_aimI
    simp [h]
  · rfl
theorem sp_pc_q (B : kb_M) (b x0 z0 sx sz w sl : Int) (n : Nat) {q : Nat} (h : q ≠ 1 ∧ q ≠ 9 ∧ q ≠ 10 ∧ q ≠ 18) : sp_pc B b x0 z0 sx sz w sl n q = B q := by
  induction n with
  | zero => rfl
  | succ n ih =>
    simp only [sp_pc]
    rw [kb_wr_other _ _ _ h.2.2.2, sp_jmM_q _ _ _ ⟨h.1, h.2.1, h.2.2.1⟩, ih]
theorem sp_pc_1 (B : kb_M) (b x0 z0 sx sz w sl : Int) (n : Nat) {j : Int} (h : j ≠ 4) : sp_pc B b x0 z0 sx sz w sl n 1 j = B 1 j := by
  induction n with
  | zero => rfl
  | succ n ih =>
    simp only [sp_pc]
    rw [kb_wr_other _ _ _ (by decide), sp_jmM_1 _ _ _ h, ih]
theorem sp_IP_cg {M N : kb_M} (h1 : ∀ j : Int, j ≠ 4 → N 1 j = M 1 j) (h7 : N 7 = M 7) (h : sp_IP M) : sp_IP N := by
  unfold sp_IP sp_xs at *
  rw [h1 5 (by decide), h1 6 (by decide), h1 7 (by decide), h1 8 (by decide), h1 10 (by decide), h7]
  exact h
theorem sp_IL_cg {M N : kb_M} (h3 : N 3 = M 3) (h16 : N 16 = M 16) (h : sp_IL M) : sp_IL N := by
  unfold sp_IL at *
  rw [h3, h16]
  exact h
theorem sp_pc_IP {B : kb_M} {b x0 z0 sx sz w sl : Int} (n : Nat) (h : sp_IP B) : sp_IP (sp_pc B b x0 z0 sx sz w sl n) := sp_IP_cg (fun _ hj => sp_pc_1 _ _ _ _ _ _ _ _ _ hj) (sp_pc_q _ _ _ _ _ _ _ _ _ (by decide)) h
theorem sp_pc_IL {B : kb_M} {b x0 z0 sx sz w sl : Int} (n : Nat) (h : sp_IL B) : sp_IL (sp_pc B b x0 z0 sx sz w sl n) := sp_IL_cg (sp_pc_q _ _ _ _ _ _ _ _ _ (by decide)) (sp_pc_q _ _ _ _ _ _ _ _ _ (by decide)) h
def sp_rbr (M : kb_M) : Int := if M 4 4 < 4 then M 4 4 + 1 else M 4 4
theorem sp_rbs_b {M : kb_M} (h : 0 ≤ M 4 3 ∧ M 4 3 < 4) : 0 ≤ sp_rbs M ∧ sp_rbs M < 4 := by
  unfold sp_rbs
  split <;> omega
def sp_picR (M : kb_M) (b x z sx sz w h : Int) : Int := if (0 < b ∧ b / 2 ^ (M 3 3).toNat = 0) ∧ ((-2000 ≤ x ∧ x ≤ 2000) ∧ 0 ≤ z ∧ z ≤ 4000) ∧ (1 ≤ sx ∧ sx ≤ 500) ∧ (1 ≤ sz ∧ sz ≤ 500) ∧ (1 ≤ w ∧ w ≤ 16) ∧ 1 ≤ h ∧ h ≤ 16 then sp_rbr M else -2
def sp_picM (M : kb_M) (b x z sx sz w h : Int) : kb_M := if (0 < b ∧ b / 2 ^ (M 3 3).toNat = 0) ∧ ((-2000 ≤ x ∧ x ≤ 2000) ∧ 0 ≤ z ∧ z ≤ 4000) ∧ (1 ≤ sx ∧ sx ≤ 500) ∧ (1 ≤ sz ∧ sz ≤ 500) ∧ (1 ≤ w ∧ w ≤ 16) ∧ 1 ≤ h ∧ h ≤ 16 then sp_pc (sp_rbn M w h) b x z sx sz w (sp_rbs M) (w * h).toNat else M
theorem sp_pic_sz (M : kb_M) (b x z sx sz w h sl : Int) (n : Nat) : sp_pc (sp_rbn M w h) b x z sx sz w sl n 4 4 = sp_rbr M := by
  rw [sp_pc_q _ _ _ _ _ _ _ _ _ (by decide)]
  rfl
/-- a number put back into an int's range -/
def sp_nm (a : Int) : Int := Int.bmod a 4294967296
theorem sp_nm_rg (a : Int) : -2147483648 ≤ sp_nm a ∧ sp_nm a < 2147483648 := by
  unfold sp_nm
  have h1 := Int.le_bmod (x := a) (m := 4294967296) (by decide)
  have h2 := Int.bmod_lt (x := a) (m := 4294967296) (by decide)
  omega
theorem sp_nm_J (a : Int) : kb_J (sp_nm a) = kb_J a := by
  apply Int32.toInt_inj.mp
  have h := sp_nm_rg a
  rw [kb_Ji h]
  exact Int32.toInt_ofInt.symm
theorem sp_nm_id {a : Int} (h : -2147483648 ≤ a ∧ a < 2147483648) : sp_nm a = a := Int.bmod_eq_of_le (by omega) (by omega)
section kb_nrms
variable {p : Program} {l : Launch} {e : Env} {R : Room} {s : State} {m : MethodId} {args : Array Value} {below : List Frame} {meth : Method} {c : Code} {D : va_G} {ad : Nat → Nat} {cy : Nat → ClassId} {A : Nat → Prop} {nL cells slots : Nat} {Q : State → Prop}
variable {pc : Nat} {lv : List (Nat × Value)} {st : List Value} {M : kb_M}
theorem kb_nrm {a : Int} (k : kb_B p l e R s m args below meth c D ad cy A nL cells slots Q pc lv (kb_i (sp_nm a) :: st) M) : kb_B p l e R s m args below meth c D ad cy A nL cells slots Q pc lv (kb_i a :: st) M := by
  rw [show kb_i a = kb_i (sp_nm a) by rw [kb_i, kb_i, sp_nm_J]]
  exact k
end kb_nrms
def sp_df (B : kb_M) (t o n0 : Int) : Nat → kb_M
  | 0 => B
  | n + 1 => kb_wr (sp_df B t o n0 n) 18 (n0 * 256 + (n : Int)) (sp_nm (sp_px (sp_df B t o n0 n) t n - sp_px (sp_df B t o n0 n) o n))
theorem sp_dfS (B : kb_M) (t o n0 : Int) {i : Int} (h : 0 ≤ i) : sp_df B t o n0 (i + 1).toNat = kb_wr (sp_df B t o n0 i.toNat) 18 (n0 * 256 + i) (sp_nm (sp_px (sp_df B t o n0 i.toNat) t i - sp_px (sp_df B t o n0 i.toNat) o i)) := by
  obtain ⟨n, rfl⟩ := Int.eq_ofNat_of_zero_le h
  show sp_df B t o n0 (n + 1) = _
  rfl
theorem sp_df_q (B : kb_M) (t o n0 : Int) (n : Nat) {q : Nat} (h : q ≠ 18) : sp_df B t o n0 n q = B q := by
  induction n with
  | zero => rfl
  | succ n ih =>
    simp only [sp_df]
    rw [kb_wr_other _ _ _ h, ih]
def sp_rs (M : kb_M) (p : Int) : Int := (M 4 3 + p) % 4
def sp_difR (M : kb_M) (p q : Int) : Int := if (0 ≤ p ∧ p < M 4 4) ∧ 0 ≤ q ∧ q < M 4 4 then (if sp_rw M (sp_rs M p) = sp_rw M (sp_rs M q) ∧ sp_rh M (sp_rs M p) = sp_rh M (sp_rs M q) then sp_rbr M else -3) else -2
def sp_difM (M : kb_M) (p q : Int) : kb_M := if ((0 ≤ p ∧ p < M 4 4) ∧ 0 ≤ q ∧ q < M 4 4) ∧ sp_rw M (sp_rs M p) = sp_rw M (sp_rs M q) ∧ sp_rh M (sp_rs M p) = sp_rh M (sp_rs M q) then sp_df (sp_rbn M (sp_rw M (sp_rs M p)) (sp_rh M (sp_rs M p))) (sp_rs M p) (sp_rs M q) (sp_rbs M) (sp_rw M (sp_rs M p) * sp_rh M (sp_rs M p)).toNat else M
/-- the turn of two looks -/
def sp_lt (M : kb_M) (lk o s i t : Int) : Int := sp_at M lk i (sp_out M lk + sp_ad M i + t) * sp_at M o i (sp_out M lk + sp_ad M i + t + s)
def sp_li (M : kb_M) (lk o s i : Int) (n : Nat) : Int := sp_sum (fun t => sp_lt M lk o s i (t - 6)) n
def sp_lkn (M : kb_M) (lk o s : Int) : Int := sp_sum (fun i => sp_li M lk o s i 13) (M 1 5).toNat
theorem sp_liS (M : kb_M) (lk o s i : Int) {t : Int} (h : -6 ≤ t) : sp_li M lk o s i (t + 1 + 6).toNat = sp_li M lk o s i (t + 6).toNat + sp_lt M lk o s i t := by
  unfold sp_li
  have h1 := sp_sumS (fun t => sp_lt M lk o s i (t - 6)) (i := t + 6) (by omega)
  rw [show t + 1 + 6 = t + 6 + 1 by omega, h1]
  show _ + sp_lt M lk o s i (t + 6 - 6) = _
  rw [Int.add_sub_cancel]
theorem sp_lt_b {M : kb_M} (h : ∀ p : Int, -1600 ≤ M 16 p ∧ M 16 p ≤ 1600) (lk o s i t : Int) : -2560000 ≤ sp_lt M lk o s i t ∧ sp_lt M lk o s i t ≤ 2560000 := by
  unfold sp_lt
  have h1 := sp_at_b h lk i (sp_out M lk + sp_ad M i + t)
  have h2 := sp_at_b h o i (sp_out M lk + sp_ad M i + t + s)
  generalize sp_at M lk i (sp_out M lk + sp_ad M i + t) = a at *
  generalize sp_at M o i (sp_out M lk + sp_ad M i + t + s) = b at *
  have h3 := sp_mulb (a := a + 1600) (b := b + 1600) (A := 3200) (B := 3200) (by omega) (by omega) (by omega) (by omega)
  have h4 := sp_mulb (a := 1600 - a) (b := b + 1600) (A := 3200) (B := 3200) (by omega) (by omega) (by omega) (by omega)
  have h5 := sp_mulb (a := a + 1600) (b := 1600 - b) (A := 3200) (B := 3200) (by omega) (by omega) (by omega) (by omega)
  have h6 := sp_mulb (a := 1600 - a) (b := 1600 - b) (A := 3200) (B := 3200) (by omega) (by omega) (by omega) (by omega)
  have e3 : (a + 1600) * (b + 1600) = a * b + 1600 * a + 1600 * b + 2560000 := by grind
  have e4 : (1600 - a) * (b + 1600) = -(a * b) - 1600 * a + 1600 * b + 2560000 := by grind
  have e5 : (a + 1600) * (1600 - b) = -(a * b) + 1600 * a - 1600 * b + 2560000 := by grind
  have e6 : (1600 - a) * (1600 - b) = a * b - 1600 * a - 1600 * b + 2560000 := by grind
  omega
theorem sp_li_b {M : kb_M} (h : ∀ p : Int, -1600 ≤ M 16 p ∧ M 16 p ≤ 1600) (lk o s i : Int) : -33280000 ≤ sp_li M lk o s i 13 ∧ sp_li M lk o s i 13 ≤ 33280000 := by
  have := sp_sum_b (f := fun t => sp_lt M lk o s i (t - 6)) (b := 2560000) 13 (fun k _ _ => sp_lt_b h _ _ _ _ _)
  unfold sp_li
  omega
theorem sp_lkn_b {M : kb_M} (h : ∀ p : Int, -1600 ≤ M 16 p ∧ M 16 p ≤ 1600) (hn : 0 ≤ M 1 5 ∧ M 1 5 ≤ 16) (lk o s : Int) : -532480000 ≤ sp_lkn M lk o s ∧ sp_lkn M lk o s ≤ 532480000 := by
  have := sp_sum_b (f := fun i => sp_li M lk o s i 13) (b := 33280000) (M 1 5).toNat (fun k _ _ => sp_li_b h _ _ _ _)
  unfold sp_lkn
  omega
def sp_cd (n : Nat) : Int := if n % 2 = 1 then -(((n : Int) + 1) / 2) else (n : Int) / 2
def sp_tn (f : Int → Int) : Nat → Int
  | 0 => 0
  | n + 1 => if f (sp_tn f n) < f (sp_cd (n + 1)) then sp_cd (n + 1) else sp_tn f n
theorem sp_tn_a (f : Int → Int) {z : Int} (h : 1 ≤ z) : sp_tn f (2 * z - 1).toNat = if f (sp_tn f (2 * z - 2).toNat) < f (-z) then -z else sp_tn f (2 * z - 2).toNat := by
  obtain ⟨n, rfl⟩ : ∃ n : Nat, z = (n : Int) + 1 := ⟨(z - 1).toNat, by omega⟩
  have e1 : (2 * ((n : Int) + 1) - 1).toNat = 2 * n + 1 := by omega
  have e2 : (2 * ((n : Int) + 1) - 2).toNat = 2 * n := by omega
  have e3 : sp_cd (2 * n + 1) = -((n : Int) + 1) := by unfold sp_cd; rw [if_pos (by omega)]; omega
  rw [e1, e2]
  simp only [sp_tn, e3]
theorem sp_tn_c (f : Int → Int) {z : Int} (h : 1 ≤ z) : sp_tn f (2 * z).toNat = if f (sp_tn f (2 * z - 1).toNat) < f z then z else sp_tn f (2 * z - 1).toNat := by
  obtain ⟨n, rfl⟩ : ∃ n : Nat, z = (n : Int) + 1 := ⟨(z - 1).toNat, by omega⟩
  have e1 : (2 * ((n : Int) + 1)).toNat = 2 * n + 1 + 1 := by omega
  have e2 : (2 * ((n : Int) + 1) - 1).toNat = 2 * n + 1 := by omega
  have e3 : sp_cd (2 * n + 1 + 1) = (n : Int) + 1 := by unfold sp_cd; rw [if_neg (by omega)]; omega
  rw [e1, e2]
  rw [show sp_tn f (2 * n + 1 + 1) = if f (sp_tn f (2 * n + 1)) < f (sp_cd (2 * n + 1 + 1)) then sp_cd (2 * n + 1 + 1) else sp_tn f (2 * n + 1) from rfl, e3]
def sp_tI (f : Int → Int) (z s b g : Int) : Prop := ((s = -z ∧ b = sp_tn f (2 * z - 2).toNat) ∨ (s = z ∧ b = sp_tn f (2 * z - 1).toNat) ∨ (s = 3 * z ∧ b = sp_tn f (2 * z).toNat)) ∧ g = f b
theorem sp_tI_S {f : Int → Int} {z s b g b2 g2 : Int} (h : sp_tI f z s b g) (hz : 1 ≤ z) (hs : s ≤ z) (hb : (g < f s ∧ b2 = s ∧ g2 = f s) ∨ (f s ≤ g ∧ b2 = b ∧ g2 = g)) : sp_tI f z (s + 2 * z) b2 g2 := by
  obtain ⟨h1, h2⟩ := h
  refine ⟨?_, by rcases hb with ⟨q1, q2, q3⟩ | ⟨q1, q2, q3⟩ <;> subst q2 <;> first | exact q3 | (rw [q3, h2])⟩
  rcases h1 with ⟨e, e2⟩ | ⟨e, e2⟩ | ⟨e, _⟩
  · right; left
    refine ⟨by omega, ?_⟩
    rw [sp_tn_a f hz, ← e2, ← h2, ← e]
    rcases hb with ⟨q1, q2, q3⟩ | ⟨q1, q2, q3⟩
    · rw [if_pos q1, q2]
    · rw [if_neg (by omega), q2]
  · right; right
    refine ⟨by omega, ?_⟩
    rw [sp_tn_c f hz, ← e2, ← h2, ← e]
    rcases hb with ⟨q1, q2, q3⟩ | ⟨q1, q2, q3⟩
    · rw [if_pos q1, q2]
    · rw [if_neg (by omega), q2]
  · omega
def sp_tJ (f : Int → Int) (z w b g : Int) : Prop := sp_tI f z (w * z) b g ∧ (w = -1 ∨ w = 1 ∨ w = 3)
theorem sp_tJ_b {f : Int → Int} {z w b g : Int} (h : sp_tJ f z w b g) (hz : 1 ≤ z ∧ z ≤ 8) (hw : w ≤ 1) : -8 ≤ w * z ∧ w * z ≤ 8 := by
  obtain ⟨h1, h2⟩ := h
  clear h1
  rcases h2 with e | e | e
  · subst e; omega
  · subst e; omega
  · omega
theorem sp_tJ_S {f : Int → Int} {z w b g b2 g2 : Int} (h : sp_tJ f z w b g) (hz : 1 ≤ z) (hw : w ≤ 1) (hb : (g < f (w * z) ∧ b2 = w * z ∧ g2 = f (w * z)) ∨ (f (w * z) ≤ g ∧ b2 = b ∧ g2 = g)) : sp_tJ f z (w + 2) b2 g2 := by
  obtain ⟨h1, h2⟩ := h
  have hs : w * z ≤ z := by
    clear h1 hb
    rcases h2 with e | e | e
    · subst e; omega
    · subst e; omega
    · omega
  refine ⟨?_, by omega⟩
  rw [Int.add_mul]
  exact sp_tI_S h1 hz hs hb
def sp_turnR (M : kb_M) (lk o x z : Int) : Int := if (0 ≤ lk ∧ lk < M 3 3) ∧ (0 ≤ o ∧ o < M 3 3) ∧ (-2000 ≤ x ∧ x ≤ 2000) ∧ 0 ≤ z ∧ z ≤ 4000 then (if M 17 ((M 3 2 + lk) % 6) = M 17 ((M 3 2 + o) % 6) then sp_tn (sp_lkn (sp_aim M x z) lk o) 16 else -101) else -100
def sp_turnM (M : kb_M) (lk o x z : Int) : kb_M := if ((0 ≤ lk ∧ lk < M 3 3) ∧ (0 ≤ o ∧ o < M 3 3) ∧ (-2000 ≤ x ∧ x ≤ 2000) ∧ 0 ≤ z ∧ z ≤ 4000) ∧ M 17 ((M 3 2 + lk) % 6) = M 17 ((M 3 2 + o) % 6) then sp_aim M x z else M
/-- the fan -/
def sp_fn (B : kb_M) (lk n r : Int) : Nat → kb_M
  | 0 => B
  | j + 1 => kb_wr (sp_jmM (sp_fn B lk n r j) (sp_xo (sp_fn B lk n r j) ((j : Int) / n) ((j : Int) % n)) ((j : Int) % n * r)) 21 ((j : Int) / n * 16 + (j : Int) % n) (sp_jm (sp_fn B lk n r j) (2 ^ lk.toNat) (sp_xo (sp_fn B lk n r j) ((j : Int) / n) ((j : Int) % n)) ((j : Int) % n * r))
theorem sp_fnS (B : kb_M) (lk n r a k : Int) (hk : 0 ≤ k ∧ k < n) (ha : 0 ≤ a) : kb_wr (sp_jmM (sp_fn B lk n r (n * a + k).toNat) (sp_xo (sp_fn B lk n r (n * a + k).toNat) a k) (k * r)) 21 (a * 16 + k) (sp_jm (sp_fn B lk n r (n * a + k).toNat) (2 ^ lk.toNat) (sp_xo (sp_fn B lk n r (n * a + k).toNat) a k) (k * r)) = sp_fn B lk n r (n * a + (k + 1)).toNat := by
  have h0 : 0 ≤ n * a := Int.mul_nonneg (by omega) ha
  obtain ⟨j, hj⟩ := Int.eq_ofNat_of_zero_le (show 0 ≤ n * a + k by omega)
  have e1 : (n * a + (k + 1)).toNat = j + 1 := by omega
  have e2 : (n * a + k).toNat = j := by omega
  have e3 : (j : Int) % n = k := by rw [← hj, Int.add_comm, Int.add_mul_emod_self_left, Int.emod_eq_of_lt hk.1 hk.2]
  have e4 : (j : Int) / n = a := by rw [← hj, Int.add_comm, Int.add_mul_ediv_left _ _ (by omega), Int.ediv_eq_zero_of_lt hk.1 hk.2, Int.zero_add]
  rw [e1, e2]
  simp only [sp_fn]
  rw [e3, e4]
theorem sp_fn_q (B : kb_M) (lk n r : Int) (j : Nat) {q : Nat} (h : q ≠ 1 ∧ q ≠ 9 ∧ q ≠ 10 ∧ q ≠ 21) : sp_fn B lk n r j q = B q := by
  induction j with
  | zero => rfl
  | succ j ih =>
    simp only [sp_fn]
    rw [kb_wr_other _ _ _ h.2.2.2, sp_jmM_q _ _ _ ⟨h.1, h.2.1, h.2.2.1⟩, ih]
theorem sp_fn_1 (B : kb_M) (lk n r : Int) (j : Nat) {k : Int} (h : k ≠ 4) : sp_fn B lk n r j 1 k = B 1 k := by
  induction j with
  | zero => rfl
  | succ j ih =>
    simp only [sp_fn]
    rw [kb_wr_other _ _ _ (by decide), sp_jmM_1 _ _ _ h, ih]
theorem sp_fn_IP {B : kb_M} {lk n r : Int} (j : Nat) (h : sp_IP B) : sp_IP (sp_fn B lk n r j) := sp_IP_cg (fun _ hj => sp_fn_1 _ _ _ _ _ hj) (sp_fn_q _ _ _ _ _ (by decide)) h
theorem sp_fn_IL {B : kb_M} {lk n r : Int} (j : Nat) (h : sp_IL B) : sp_IL (sp_fn B lk n r j) := sp_IL_cg (sp_fn_q _ _ _ _ _ (by decide)) (sp_fn_q _ _ _ _ _ (by decide)) h
def sp_fb0 (M : kb_M) (n k r : Int) : kb_M := kb_wr (kb_wr (kb_wr M 5 1 n) 5 2 k) 5 3 r
def sp_fanR (M : kb_M) (lk n k r : Int) : Int := if (0 ≤ lk ∧ lk < M 3 3) ∧ (2 ≤ n ∧ n ≤ 9) ∧ (2 ≤ k ∧ k ≤ 16) ∧ 1 ≤ r ∧ r ≤ 250 then 1 else -2
def sp_fanM (M : kb_M) (lk n k r : Int) : kb_M := if (0 ≤ lk ∧ lk < M 3 3) ∧ (2 ≤ n ∧ n ≤ 9) ∧ (2 ≤ k ∧ k ≤ 16) ∧ 1 ≤ r ∧ r ≤ 250 then sp_fn (sp_fb0 M n k r) lk k r (k * n).toNat else M
/-- the digest -/
theorem sp_pointAtR_rg {M : kb_M} (h : kb_ok M) (k t : Int) : -2147483648 ≤ sp_pointAtR M k t ∧ sp_pointAtR M k t < 2147483648 := by
  unfold sp_pointAtR
  split
  · split
    · exact h _ _
    · split
      · exact h _ _
      · split
        · exact h _ _
        · omega
  · omega
def sp_hq (M : kb_M) (h : Int) : Nat → Int
  | 0 => h
  | n + 1 => 31 * (31 * sp_hq M h n + sp_pointAtR M (n : Int) 0) + sp_pointAtR M (n : Int) 1
theorem sp_hqS (M : kb_M) (h : Int) {i : Int} (hi : 0 ≤ i) : sp_hq M h (i + 1).toNat = 31 * (31 * sp_hq M h i.toNat + sp_pointAtR M i 0) + sp_pointAtR M i 1 := by
  obtain ⟨n, rfl⟩ := Int.eq_ofNat_of_zero_le hi
  show sp_hq M h (n + 1) = _
  rfl
def sp_rsm (M : kb_M) (lk i : Int) : Int := sp_sum (fun b => (b + 1) * sp_at M lk i b) 400
def sp_hl (M : kb_M) (h : Int) : Nat → Int
  | 0 => h
  | n + 1 => sp_hs (sp_rsm M (n : Int)) (31 * sp_hl M h n + M 17 ((M 3 2 + (n : Int)) % 6)) (M 1 5).toNat
theorem sp_hlS (M : kb_M) (h : Int) {i : Int} (hi : 0 ≤ i) : sp_hl M h (i + 1).toNat = sp_hs (sp_rsm M i) (31 * sp_hl M h i.toNat + M 17 ((M 3 2 + i) % 6)) (M 1 5).toNat := by
  obtain ⟨n, rfl⟩ := Int.eq_ofNat_of_zero_le hi
  show sp_hl M h (n + 1) = _
  rfl
def sp_dig (M : kb_M) : Int := sp_hp M (sp_hl M (sp_hq M (sp_hs (sp_countR M) 131 7) (M 2 5).toNat) (M 3 3).toNat) (M 4 4).toNat
theorem sp_dif_sz (M : kb_M) (w h t o n0 : Int) (n : Nat) : sp_df (sp_rbn M w h) t o n0 n 4 4 = sp_rbr M := by
  rw [sp_df_q _ _ _ _ _ (by decide)]
  rfl
theorem sp_xo_b (M : kb_M) {a k : Int} (hl : 1 ≤ M 5 1 ∧ M 5 1 ≤ 9) (hr : 1 ≤ M 5 3 ∧ M 5 3 ≤ 250) (ha : 0 ≤ a ∧ a < 9) (hk : 0 ≤ k ∧ k < 16) : -33750 ≤ sp_xo M a k ∧ sp_xo M a k ≤ 33750 := by
  have h := sp_xob M hl hr ha hk
  exact sp_tdb (by omega) h.2
theorem sp_pow_b {k : Int} (h : 0 ≤ k ∧ k < 6) : 0 < (2 : Int) ^ k.toNat ∧ (2 : Int) ^ k.toNat ≤ 32 := by
  have h2 : k = 0 ∨ k = 1 ∨ k = 2 ∨ k = 3 ∨ k = 4 ∨ k = 5 := by omega
  rcases h2 with rfl | rfl | rfl | rfl | rfl | rfl <;> decide

