/-! side by side: look -/
theorem sv_P_cg {C N C' N' : kb_M} (h1 : ∀ j : Int, j ≠ 4 → C' 1 j = C 1 j) (h7 : C' 7 = C 7) (h8 : C' 8 = C 8) (n0 : N' 22 0 = N 22 0) (n3 : N' 22 3 = N 22 3) (n4 : N' 22 4 = N 22 4) (n5 : N' 22 5 = N 22 5) (n6 : N' 22 6 = N 22 6) (n23 : N' 23 = N 23) (n24 : N' 24 = N 24) (h : sv_P C N) : sv_P C' N' := by
  unfold sv_P mo_al at *
  rw [h1 5 (by decide), h1 6 (by decide), h1 7 (by decide), h1 8 (by decide), h1 9 (by decide), h1 10 (by decide), h7, h8, n0, n3, n4, n5, n6, n23, n24]
  exact h
theorem sp_lk_bb {B : kb_M} {l sl : Int} (hsl : (B 3 2 + l) % 6 = sl) (hz : ∀ p : Int, sl * 6400 ≤ p → p < sl * 6400 + 6400 → B 16 p = 0) (hb : ∀ p : Int, -1600 ≤ B 16 p ∧ B 16 p ≤ 1600) (hsc : sp_sc B) (hn : 0 ≤ B 1 5 ∧ B 1 5 ≤ 16) : ∀ n : Nat, (n : Int) ≤ B 2 5 → ∀ p : Int, (-1600 ≤ sp_lk B l n 16 p ∧ sp_lk B l n 16 p ≤ 1600) ∧ (sl * 6400 ≤ p → p < sl * 6400 + 6400 → -(200 * (n : Int)) ≤ sp_lk B l n 16 p ∧ sp_lk B l n 16 p ≤ 200 * (n : Int)) := by
  intro n
  induction n with
  | zero =>
    intro _ p
    simp only [sp_lk]
    refine ⟨hb p, fun a b => ?_⟩
    rw [hz p a b]
    omega
  | succ n ih =>
    intro hle p
    have h1 := ih (by omega) p
    have h8 := hsc.1
    simp only [sp_lk]
    have ht : -100 ≤ sp_lk B l n 13 n ∧ sp_lk B l n 13 n ≤ 100 := by
      rw [sp_lk_q B l n (show 13 ≠ 1 ∧ 13 ≠ 9 ∧ 13 ≠ 10 ∧ 13 ≠ 16 by decide)]
      exact (hsc.2 n (by omega) (by omega)).2.2.1
    have e3 : sp_lk B l n 3 2 = B 3 2 := by rw [sp_lk_q B l n (show 3 ≠ 1 ∧ 3 ≠ 9 ∧ 3 ≠ 10 ∧ 3 ≠ 16 by decide)]
    have e1 : sp_lk B l n 1 5 = B 1 5 := sp_lk_1 B l n (by decide)
    have e : sp_hear (sp_lk B l n) l n 16 p = sp_lk B l n 16 p + (if (sp_lk B l n 3 2 + l) % 6 * 6400 ≤ p ∧ p < (sp_lk B l n 3 2 + l) % 6 * 6400 + sp_lk B l n 1 5 * 400 ∧ sp_lk B l n 8 ((p - (sp_lk B l n 3 2 + l) % 6 * 6400) / 400) = 0 then sp_lk B l n 13 n * sp_hat (sp_out (sp_aim (sp_lk B l n) (sp_lk B l n 11 n) (sp_lk B l n 12 n)) l + sp_ad (sp_aim (sp_lk B l n) (sp_lk B l n 11 n) (sp_lk B l n 12 n)) ((p - (sp_lk B l n 3 2 + l) % 6 * 6400) / 400)) ((p - (sp_lk B l n 3 2 + l) % 6 * 6400) % 400) else 0) := rfl
    rw [e, e3, e1, hsl]
    split
    · have := sp_hatm (t := sp_lk B l n 13 n) (d := sp_out (sp_aim (sp_lk B l n) (sp_lk B l n 11 n) (sp_lk B l n 12 n)) l + sp_ad (sp_aim (sp_lk B l n) (sp_lk B l n 11 n) (sp_lk B l n 12 n)) ((p - sl * 6400) / 400)) (s := (p - sl * 6400) % 400) ht
      omega
    · omega
theorem mo_lk_bb {B : kb_M} {l t : Int} (hz : ∀ p : Int, l * 6400 ≤ p → p < l * 6400 + 6400 → B 31 p = 0) (hb : ∀ p : Int, -1600 ≤ B 31 p ∧ B 31 p ≤ 1600) (hsc : mo_sc B) (hn : 0 ≤ B 22 0 ∧ B 22 0 ≤ 16) : ∀ n : Nat, (n : Int) ≤ B 22 10 → ∀ p : Int, (-1600 ≤ mo_lk B l t n 31 p ∧ mo_lk B l t n 31 p ≤ 1600) ∧ (l * 6400 ≤ p → p < l * 6400 + 6400 → -(200 * (n : Int)) ≤ mo_lk B l t n 31 p ∧ mo_lk B l t n 31 p ≤ 200 * (n : Int)) := by
  intro n
  induction n with
  | zero =>
    intro _ p
    simp only [mo_lk]
    refine ⟨hb p, fun a b => ?_⟩
    rw [hz p a b]
    omega
  | succ n ih =>
    intro hle p
    have h1 := ih (by omega) p
    have h8 := hsc.1
    simp only [mo_lk]
    have ht : -100 ≤ mo_lk B l t n 27 n ∧ mo_lk B l t n 27 n ≤ 100 := by
      rw [mo_lk_q B l t n (show 27 ≠ 31 by decide)]
      exact (hsc.2 n (by omega) (by omega)).2.2.1
    have e1 : mo_lk B l t n 22 0 = B 22 0 := by rw [mo_lk_q B l t n (show 22 ≠ 31 by decide)]
    have e : mo_hear (mo_lk B l t n) l t n 31 p = mo_lk B l t n 31 p + (if l * 6400 ≤ p ∧ p < l * 6400 + mo_lk B l t n 22 0 * 400 ∧ mo_lk B l t n 24 ((p - l * 6400) / 400) = 0 then mo_lk B l t n 27 n * sp_hat (mo_dly (mo_lk B l t n) t (mo_lk B l t n 25 n) (mo_lk B l t n 26 n) + mo_dly (mo_lk B l t n) ((p - l * 6400) / 400) (mo_lk B l t n 25 n) (mo_lk B l t n 26 n)) ((p - l * 6400) % 400) else 0) := rfl
    rw [e, e1]
    split
    · have := sp_hatm (t := mo_lk B l t n 27 n) (d := mo_dly (mo_lk B l t n) t (mo_lk B l t n 25 n) (mo_lk B l t n 26 n) + mo_dly (mo_lk B l t n) ((p - l * 6400) / 400) (mo_lk B l t n 25 n) (mo_lk B l t n 26 n)) (s := (p - l * 6400) % 400) ht
      omega
    · omega
/-- hearing, side by side -/
theorem sm_hear {B D : kb_M} {L t : Int} (hP : sv_P B D) (hS : sv_S B D) (ho : 0 ≤ B 3 2 ∧ B 3 2 < 6) (hL : 0 ≤ L ∧ L < 6) (ht : 0 ≤ t ∧ t < D 22 0) (h17 : B 17 ((B 3 2 + L) % 6) = t) (h0 : ∀ l i s : Int, 0 ≤ l → l ≤ L → 0 ≤ i → i < 16 → 0 ≤ s → s < 400 → B 16 ((B 3 2 + l) % 6 * 6400 + i * 400 + s) = D 31 (400 * (16 * l + i) + s)) : ∀ n : Nat, (n : Int) ≤ D 22 10 → ∀ l i s : Int, 0 ≤ l → l ≤ L → 0 ≤ i → i < 16 → 0 ≤ s → s < 400 → sp_lk B L n 16 ((B 3 2 + l) % 6 * 6400 + i * 400 + s) = mo_lk D L t n 31 (400 * (16 * l + i) + s) := by
  intro n
  induction n with
  | zero => intro _; exact h0
  | succ n ih =>
    intro hle l i s a1 a2 a3 a4 a5 a6
    have h1 := ih (by omega) l i s a1 a2 a3 a4 a5 a6
    simp only [sp_lk, mo_lk]
    have e3 : sp_lk B L n 3 2 = B 3 2 := by rw [sp_lk_q B L n (show 3 ≠ 1 ∧ 3 ≠ 9 ∧ 3 ≠ 10 ∧ 3 ≠ 16 by decide)]
    have e15 : sp_lk B L n 1 5 = B 1 5 := sp_lk_1 B L n (by decide)
    have c8 : sp_lk B L n 8 = B 8 := sp_lk_q B L n (show 8 ≠ 1 ∧ 8 ≠ 9 ∧ 8 ≠ 10 ∧ 8 ≠ 16 by decide)
    have c11 : sp_lk B L n 11 = B 11 := sp_lk_q B L n (show 11 ≠ 1 ∧ 11 ≠ 9 ∧ 11 ≠ 10 ∧ 11 ≠ 16 by decide)
    have c12 : sp_lk B L n 12 = B 12 := sp_lk_q B L n (show 12 ≠ 1 ∧ 12 ≠ 9 ∧ 12 ≠ 10 ∧ 12 ≠ 16 by decide)
    have c13 : sp_lk B L n 13 = B 13 := sp_lk_q B L n (show 13 ≠ 1 ∧ 13 ≠ 9 ∧ 13 ≠ 10 ∧ 13 ≠ 16 by decide)
    have c17 : sp_lk B L n 17 = B 17 := sp_lk_q B L n (show 17 ≠ 1 ∧ 17 ≠ 9 ∧ 17 ≠ 10 ∧ 17 ≠ 16 by decide)
    have d22 : mo_lk D L t n 22 = D 22 := mo_lk_q D L t n (show 22 ≠ 31 by decide)
    have d23 : mo_lk D L t n 23 = D 23 := mo_lk_q D L t n (show 23 ≠ 31 by decide)
    have d24 : mo_lk D L t n 24 = D 24 := mo_lk_q D L t n (show 24 ≠ 31 by decide)
    have d25 : mo_lk D L t n 25 = D 25 := mo_lk_q D L t n (show 25 ≠ 31 by decide)
    have d26 : mo_lk D L t n 26 = D 26 := mo_lk_q D L t n (show 26 ≠ 31 by decide)
    have d27 : mo_lk D L t n 27 = D 27 := mo_lk_q D L t n (show 27 ≠ 31 by decide)
    have hPX : sv_P (sp_lk B L n) (mo_lk D L t n) := sv_P_cg (fun j hj => sp_lk_1 B L n hj) (sp_lk_q B L n (show 7 ≠ 1 ∧ 7 ≠ 9 ∧ 7 ≠ 10 ∧ 7 ≠ 16 by decide)) c8 (by rw [d22]) (by rw [d22]) (by rw [d22]) (by rw [d22]) (by rw [d22]) d23 d24 hP
    have n10 := hS.2.1
    obtain ⟨⟨s1, s2, s3, s4, s5⟩, -⟩ := hS.2.2 n (by omega) (by omega)
    have hn0 := hP.2.1
    have e5 := hP.1
    have eC : sp_hear (sp_lk B L n) L n 16 ((B 3 2 + l) % 6 * 6400 + i * 400 + s) = sp_lk B L n 16 ((B 3 2 + l) % 6 * 6400 + i * 400 + s) + (if (sp_lk B L n 3 2 + L) % 6 * 6400 ≤ ((B 3 2 + l) % 6 * 6400 + i * 400 + s) ∧ ((B 3 2 + l) % 6 * 6400 + i * 400 + s) < (sp_lk B L n 3 2 + L) % 6 * 6400 + sp_lk B L n 1 5 * 400 ∧ sp_lk B L n 8 ((((B 3 2 + l) % 6 * 6400 + i * 400 + s) - (sp_lk B L n 3 2 + L) % 6 * 6400) / 400) = 0 then sp_lk B L n 13 n * sp_hat (sp_ad (sp_aim (sp_lk B L n) (sp_lk B L n 11 n) (sp_lk B L n 12 n)) (sp_lk B L n 17 ((sp_lk B L n 3 2 + L) % 6)) + sp_ad (sp_aim (sp_lk B L n) (sp_lk B L n 11 n) (sp_lk B L n 12 n)) ((((B 3 2 + l) % 6 * 6400 + i * 400 + s) - (sp_lk B L n 3 2 + L) % 6 * 6400) / 400)) ((((B 3 2 + l) % 6 * 6400 + i * 400 + s) - (sp_lk B L n 3 2 + L) % 6 * 6400) % 400) else 0) := rfl
    have eD : mo_hear (mo_lk D L t n) L t n 31 (400 * (16 * l + i) + s) = mo_lk D L t n 31 (400 * (16 * l + i) + s) + (if L * 6400 ≤ (400 * (16 * l + i) + s) ∧ (400 * (16 * l + i) + s) < L * 6400 + mo_lk D L t n 22 0 * 400 ∧ mo_lk D L t n 24 (((400 * (16 * l + i) + s) - L * 6400) / 400) = 0 then mo_lk D L t n 27 n * sp_hat (mo_dly (mo_lk D L t n) t (mo_lk D L t n 25 n) (mo_lk D L t n 26 n) + mo_dly (mo_lk D L t n) (((400 * (16 * l + i) + s) - L * 6400) / 400) (mo_lk D L t n 25 n) (mo_lk D L t n 26 n)) (((400 * (16 * l + i) + s) - L * 6400) % 400) else 0) := rfl
    rw [eC, eD, h1]
    congr 1
    rw [e3, e15, c8, c11, c12, c13, c17, h17, d24, d25, d26, d27, s1, s2, s3, e5]
    have ed22 : mo_lk D L t n 22 0 = D 22 0 := by rw [d22]
    rw [ed22]
    by_cases hl : l = L
    · subst hl
      have q1 : ((B 3 2 + l) % 6 * 6400 + i * 400 + s - (B 3 2 + l) % 6 * 6400) / 400 = i := by omega
      have q2 : ((B 3 2 + l) % 6 * 6400 + i * 400 + s - (B 3 2 + l) % 6 * 6400) % 400 = s := by omega
      have q3 : (400 * (16 * l + i) + s - l * 6400) / 400 = i := by omega
      have q4 : (400 * (16 * l + i) + s - l * 6400) % 400 = s := by omega
      rw [q1, q2, q3, q4]
      by_cases hi : i < D 22 0
      · obtain ⟨y1, y2, y3, y4⟩ := hP.2.2.1 i a3 hi
        rw [y2]
        by_cases hd : D 24 i = 0
        · rw [if_pos ⟨by omega, by omega, hd⟩, if_pos ⟨by omega, by omega, hd⟩]
          rw [sv_ad hPX (by rw [ed22]; exact ht), sv_ad hPX (by rw [ed22]; exact ⟨a3, hi⟩)]
        · rw [if_neg (fun q => hd q.2.2), if_neg (fun q => hd q.2.2)]
      · rw [if_neg (by omega), if_neg (by omega)]
    · rw [if_neg (by omega), if_neg (by omega)]
