/-! whole numbers for ints and longs -/
def kb_J (a : Int) : Int32 := Int32.ofInt a
def kb_L (a : Int) : Int64 := Int64.ofInt a
abbrev kb_i (a : Int) : Value := .int (kb_J a)
abbrev kb_l (a : Int) : Value := .long (kb_L a)
def kb_rg (a : Int) : Prop := -2147483648 ≤ a ∧ a < 2147483648
def kb_rl (a : Int) : Prop := -9223372036854775808 ≤ a ∧ a < 9223372036854775808
theorem kb_Ji {a : Int} (h : kb_rg a) : (kb_J a).toInt = a := Int32.toInt_ofInt_of_le (by have := h.1; omega) (by have := h.2; omega)
theorem kb_Li {a : Int} (h : kb_rl a) : (kb_L a).toInt = a := Int64.toInt_ofInt_of_le (by have := h.1; omega) (by have := h.2; omega)
theorem kb_ofJ (x : Int32) : x = kb_J x.toInt := (Int32.ofInt_toInt x).symm
theorem kb_rgJ (x : Int32) : kb_rg x.toInt := ⟨Int32.le_toInt x, Int32.toInt_lt x⟩
theorem kb_Jadd (a b : Int) : kb_J (a + b) = kb_J a + kb_J b := Int32.ofInt_add a b
theorem kb_Jsub (a b : Int) : kb_J (a - b) = kb_J a - kb_J b := Int32.ofInt_sub a b
theorem kb_Jmul (a b : Int) : kb_J (a * b) = kb_J a * kb_J b := Int32.ofInt_mul a b
theorem kb_Jneg (a : Int) : kb_J (-a) = -kb_J a := Int32.ofInt_neg a
theorem kb_Ladd (a b : Int) : kb_L (a + b) = kb_L a + kb_L b := Int64.ofInt_add a b
theorem kb_Lsub (a b : Int) : kb_L (a - b) = kb_L a - kb_L b := Int64.ofInt_sub a b
theorem kb_Lmul (a b : Int) : kb_L (a * b) = kb_L a * kb_L b := Int64.ofInt_mul a b
theorem kb_Jlt {a b : Int} (ha : kb_rg a) (hb : kb_rg b) : kb_J a < kb_J b ↔ a < b := by rw [Int32.lt_iff_toInt_lt, kb_Ji ha, kb_Ji hb]
theorem kb_Jle {a b : Int} (ha : kb_rg a) (hb : kb_rg b) : kb_J a ≤ kb_J b ↔ a ≤ b := by rw [Int32.le_iff_toInt_le, kb_Ji ha, kb_Ji hb]
theorem kb_Jeq {a b : Int} (ha : kb_rg a) (hb : kb_rg b) : kb_J a = kb_J b ↔ a = b := by rw [← Int32.toInt_inj, kb_Ji ha, kb_Ji hb]
theorem kb_Llt {a b : Int} (ha : kb_rl a) (hb : kb_rl b) : kb_L a < kb_L b ↔ a < b := by rw [Int64.lt_iff_toInt_lt, kb_Li ha, kb_Li hb]
theorem kb_Leq {a b : Int} (ha : kb_rl a) (hb : kb_rl b) : kb_L a = kb_L b ↔ a = b := by rw [← Int64.toInt_inj, kb_Li ha, kb_Li hb]
theorem kb_rg0 : kb_rg 0 := by unfold kb_rg; omega
theorem kb_rl0 : kb_rl 0 := by unfold kb_rl; omega
theorem kb_J0 : kb_J 0 = 0 := by decide
theorem kb_L0 : kb_L 0 = 0 := by decide
theorem kb_Jz {a : Int} (ha : kb_rg a) : kb_J a = 0 ↔ a = 0 := by rw [← kb_J0]; exact kb_Jeq ha kb_rg0
theorem kb_Lz {a : Int} (ha : kb_rl a) : kb_L a = 0 ↔ a = 0 := by rw [← kb_L0]; exact kb_Leq ha kb_rl0
theorem kb_JL {a : Int} (ha : kb_rg a) : (kb_J a).toInt64 = kb_L a := by
  have h1 : Int32.minValue.toInt = -2147483648 := by decide
  have h2 : Int32.maxValue.toInt = 2147483647 := by decide
  exact Int32.toInt64_ofInt (by have := ha.1; omega) (by have := ha.2; omega)
theorem kb_LJ (a : Int) : (kb_L a).toInt32 = kb_J a := Int64.toInt32_ofInt
theorem kb_Jdiv {a b : Int} (ha : kb_rg a) (hb : kb_rg b) : kb_J (a.tdiv b) = kb_J a / kb_J b := by
  apply Int32.toInt_inj.mp
  rw [Int32.toInt_div, kb_Ji ha, kb_Ji hb]
  exact Int32.toInt_ofInt
theorem kb_Ldiv {a b : Int} (ha : kb_rl a) (hb : kb_rl b) : kb_L (a.tdiv b) = kb_L a / kb_L b := by
  apply Int64.toInt_inj.mp
  rw [Int64.toInt_div, kb_Li ha, kb_Li hb]
  exact Int64.toInt_ofInt
theorem kb_Jrem {a b : Int} (ha : kb_rg a) (hb : kb_rg b) : kb_J (a.tmod b) = kb_J a - kb_J a / kb_J b * kb_J b := by
  rw [← kb_Jdiv ha hb, ← kb_Jmul, ← kb_Jsub]
  congr 1
  have := Int.tmod_add_mul_tdiv a b
  rw [Int.mul_comm] at this
  omega
theorem kb_td {a b : Int} (h : 0 ≤ a) : a.tdiv b = a / b := Int.tdiv_eq_ediv_of_nonneg h
theorem kb_tm {a b : Int} (h : 0 ≤ a) : a.tmod b = a % b := Int.tmod_eq_emod_of_nonneg h
theorem kb_Jin {a : Int} {n : Nat} (ha : kb_rg a) (h : 0 ≤ a ∧ a < n) : vp_in (kb_J a) n := vp_in_iff.mpr (by rw [kb_Ji ha]; exact h)
theorem kb_Jcl {a : Int} (ha : kb_rg a) : (kb_J a).toNatClampNeg = a.toNat := by
  show (kb_J a).toInt.toNat = a.toNat
  rw [kb_Ji ha]
def kb_b (q : Prop) [Decidable q] : Int := if q then 1 else 0
theorem kb_b1 {q : Prop} [Decidable q] (h : q) : kb_b q = 1 := if_pos h
theorem kb_b0 {q : Prop} [Decidable q] (h : ¬ q) : kb_b q = 0 := if_neg h
theorem kb_brg (q : Prop) [Decidable q] : kb_rg (kb_b q) := by
  unfold kb_b kb_rg
  split <;> omega
theorem kb_bz {q : Prop} [Decidable q] : kb_b q = 0 ↔ ¬ q := by
  unfold kb_b
  by_cases h : q <;> simp [h]
theorem kb_bn {q : Prop} [Decidable q] : kb_b q ≠ 0 ↔ q := by
  unfold kb_b
  by_cases h : q <;> simp [h]
theorem kb_and1 (a : Int) : kb_J a &&& kb_J 1 = kb_J (a % 2) := by
  apply Int32.toBitVec_inj.mp
  show (kb_J a).toBitVec &&& (kb_J 1).toBitVec = (kb_J (a % 2)).toBitVec
  have e1 : (kb_J 1).toBitVec = 1#32 := by decide
  have h : a % 2 = 0 ∨ a % 2 = 1 := by omega
  have e2 : (kb_J a).toBitVec = BitVec.ofInt 32 a := rfl
  rw [e1, e2]
  apply BitVec.eq_of_toNat_eq
  rw [BitVec.toNat_and, show (1#32).toNat = 2 ^ 1 - 1 from rfl, Nat.and_two_pow_sub_one_eq_mod, BitVec.toNat_ofInt]
  rcases h with h | h
  · rw [h, show (kb_J 0).toBitVec.toNat = 0 from by decide]
    omega
  · rw [h, show (kb_J 1).toBitVec.toNat = 1 from by decide]
    omega
theorem kb_and31 (a : Int) : kb_J a &&& kb_J 31 = kb_J (a % 32) := by
  apply Int32.toBitVec_inj.mp
  show (kb_J a).toBitVec &&& (kb_J 31).toBitVec = (kb_J (a % 32)).toBitVec
  have e1 : (kb_J 31).toBitVec = 31#32 := by decide
  have e2 : (kb_J a).toBitVec = BitVec.ofInt 32 a := rfl
  have e3 : (kb_J (a % 32)).toBitVec = BitVec.ofInt 32 (a % 32) := rfl
  rw [e1, e2, e3]
  apply BitVec.eq_of_toNat_eq
  rw [BitVec.toNat_and, show (31#32).toNat = 2 ^ 5 - 1 from rfl, Nat.and_two_pow_sub_one_eq_mod, BitVec.toNat_ofInt, BitVec.toNat_ofInt]
  omega
theorem kb_shr {a k : Int} (ha : kb_rg a) (h0 : 0 ≤ k) (h1 : k < 32) : kb_J a >>> (kb_J k &&& 31) = kb_J (a / 2 ^ k.toNat) := by
  obtain ⟨n, rfl⟩ : ∃ n : Nat, k = n := ⟨k.toNat, by omega⟩
  have e0 : kb_J (n : Int) &&& 31 = kb_J (n : Int) := by
    have h2 := kb_and31 (n : Int)
    rw [show kb_J 31 = 31 from by decide] at h2
    rw [h2, show (n : Int) % 32 = n by omega]
  have e1 : ((kb_J (n : Int)).toBitVec.smod 32).toNat = n := by
    have h3 : ∀ j : Nat, j < 32 → ((kb_J (j : Int)).toBitVec.smod 32).toNat = j := by decide
    exact h3 n (by omega)
  rw [e0]
  apply Int32.toInt_inj.mp
  rw [pk_shr _ _ n e1, kb_Ji ha, kb_Ji]
  · rw [Int.shiftRight_eq_div_pow]; rfl
  · have h4 : (0 : Int) < 2 ^ n := Int.pow_pos (by omega)
    have h5 : (1 : Int) ≤ 2 ^ n := h4
    constructor
    · have := ha.1
      rw [show ((n : Int)).toNat = n from rfl]
      apply Int.le_ediv_of_mul_le h4
      have h6 : (2147483648 : Int) * 1 ≤ 2147483648 * 2 ^ n := Int.mul_le_mul_of_nonneg_left h5 (by omega)
      omega
    · have := ha.2
      rw [show ((n : Int)).toNat = n from rfl]
      apply Int.ediv_lt_of_lt_mul h4
      have h6 : (2147483648 : Int) * 1 ≤ 2147483648 * 2 ^ n := Int.mul_le_mul_of_nonneg_left h5 (by omega)
      omega
theorem kb_shl {k : Int} (h0 : 0 ≤ k) (h1 : k < 31) : kb_J 1 <<< (kb_J k &&& 31) = kb_J (2 ^ k.toNat) := by
  obtain ⟨n, rfl⟩ : ∃ n : Nat, k = n := ⟨k.toNat, by omega⟩
  have h3 : ∀ j : Nat, j < 31 → kb_J 1 <<< (kb_J (j : Int) &&& 31) = kb_J (2 ^ j) := by decide
  exact h3 n (by omega)
theorem kb_lcmp (a b : Int) (ha : kb_rl a) (hb : kb_rl b) : lg_cmp (kb_L a) (kb_L b) = if b < a then 1 else if a = b then 0 else -1 := by
  unfold lg_cmp
  simp only [kb_Llt hb ha, kb_Leq ha hb]
def kb_z (a b : Int) : Int := if b < a then 1 else if a = b then 0 else -1
theorem kb_zJ (a b : Int) (ha : kb_rl a) (hb : kb_rl b) : lg_cmp (kb_L a) (kb_L b) = kb_J (kb_z a b) := by
  rw [kb_lcmp a b ha hb]
  unfold kb_z
  split
  · decide
  · split <;> decide
theorem kb_Jmax {a b : Int} (ha : kb_rg a) (hb : kb_rg b) : kb_J (max a b) = if kb_J a < kb_J b then kb_J b else kb_J a := by
  by_cases h : a < b
  · rw [if_pos ((kb_Jlt ha hb).mpr h), show max a b = b by omega]
  · rw [if_neg (fun q => h ((kb_Jlt ha hb).mp q)), show max a b = a by omega]
theorem kb_Jmin {a b : Int} (ha : kb_rg a) (hb : kb_rg b) : kb_J (min a b) = if kb_J b < kb_J a then kb_J b else kb_J a := by
  by_cases h : b < a
  · rw [if_pos ((kb_Jlt hb ha).mpr h), show min a b = b by omega]
  · rw [if_neg (fun q => h ((kb_Jlt hb ha).mp q)), show min a b = a by omega]
theorem kb_Jabs {a : Int} (ha : kb_rg a) (_ : a ≠ -2147483648) : kb_J (max a (-a)) = if 0 ≤ kb_J a then kb_J a else 0 - kb_J a := by
  have e := kb_Jle kb_rg0 ha
  rw [kb_J0] at e
  by_cases h : 0 ≤ a
  · rw [if_pos (e.mpr h), show max a (-a) = a by omega]
  · rw [if_neg (fun q => h (e.mp q)), show max a (-a) = 0 - a by omega, kb_Jsub, kb_J0]
theorem kb_xorP {a b : Int} (ha : kb_rg a) (hb : kb_rg b) (h0 : 0 ≤ a) (h1 : 0 ≤ b) : ∃ v : Int, 0 ≤ v ∧ kb_rg v ∧ kb_J a ^^^ kb_J b = kb_J v := by
  refine ⟨(kb_J a ^^^ kb_J b).toInt, ?_, kb_rgJ _, kb_ofJ _⟩
  show 0 ≤ ((kb_J a).toBitVec ^^^ (kb_J b).toBitVec).toInt
  have m1 : (kb_J a).toBitVec.msb = false := by
    rw [BitVec.msb_eq_toInt]
    have : (kb_J a).toBitVec.toInt = a := kb_Ji ha
    rw [this]
    simp; omega
  have m2 : (kb_J b).toBitVec.msb = false := by
    rw [BitVec.msb_eq_toInt]
    have : (kb_J b).toBitVec.toInt = b := kb_Ji hb
    rw [this]
    simp; omega
  have m3 : ((kb_J a).toBitVec ^^^ (kb_J b).toBitVec).msb = false := by rw [BitVec.msb_xor, m1, m2]; rfl
  rw [BitVec.msb_eq_toInt] at m3
  simpa using m3
theorem kb_zrg (a b : Int) : kb_rg (kb_z a b) := by
  unfold kb_z kb_rg
  split
  · omega
  · split <;> omega

/-! the world: 37 cells of a fixed shape, and what they hold -/
abbrev kb_M : Type := Nat → Int → Int
abbrev kb_T : Type := (Nat × List (Option Nat)) ⊕ (Nat × Nat)
def kb_ok (M : kb_M) : Prop := ∀ (q : Nat) (k : Int), kb_rg (M q k)
def kb_wr (M : kb_M) (q : Nat) (k a : Int) : kb_M := fun x => if x = q then (fun j => if j = k then a else M x j) else M x
def kb_fv (ad : Nat → Nat) (f : Int → Int) (k : Nat) (o : Option Nat) : Value := match o with
  | some j => .ref (ad j)
  | none => kb_i (f (k : Int))
def kb_en (ad : Nat → Nat) (cy : Nat → ClassId) (f : Int → Int) (d : kb_T) : va_E := match d with
  | .inl o => .inr (o.1, o.2.mapIdx (kb_fv ad f))
  | .inr a => .inl (cy a.1, a.2, .inl (fun k => kb_J (f (k : Int))))
def kb_sh : List kb_T := [.inl (6, [some 1, some 2, some 3, some 4, some 5, some 6]), .inl (3, [some 7, some 8, some 9, some 10, none, none, none, none, none, none, none]), .inl (5, [some 11, some 12, some 13, some 14, some 15, none]), .inl (1, [some 16, some 17, none, none, none]), .inl (4, [some 18, some 19, some 20, none, none]), .inl (0, [some 21, none, none, none]), .inl (2, [none, none]), .inr (0, 16), .inr (1, 16), .inr (0, 16), .inr (0, 16), .inr (0, 8), .inr (0, 8), .inr (0, 8), .inr (0, 8), .inr (0, 8), .inr (0, 38400), .inr (0, 6), .inr (0, 1024), .inr (0, 4), .inr (0, 4), .inr (0, 144), .inl (7, [none, some 23, some 24, none, none, none, none, none, none, none, none, some 25, some 26, some 27, some 28, some 29, none, some 30, some 31, none, some 32, some 33, some 34, some 35, none, none, none, some 36]), .inr (0, 16), .inr (1, 16), .inr (0, 8), .inr (0, 8), .inr (0, 8), .inr (0, 8), .inr (0, 8), .inr (0, 6), .inr (0, 38400), .inr (0, 4), .inr (0, 4), .inr (0, 1024), .inr (0, 256), .inr (0, 144)]
def kb_ws (ad : Nat → Nat) (cy : Nat → ClassId) (M : kb_M) : va_W := kb_sh.mapIdx (fun q d => (ad q, kb_en ad cy (M q) d))
abbrev kb_ty (cy : Nat → ClassId) : List (ClassId × FieldType) := [(cy 0, .int), (cy 1, .boolean)]
theorem kb_wsat {ad : Nat → Nat} {cy : Nat → ClassId} {M : kb_M} {q : Nat} {d : kb_T} (h : kb_sh[q]? = some d) : (kb_ws ad cy M)[q]? = some (ad q, kb_en ad cy (M q) d) := by
  unfold kb_ws
  rw [List.getElem?_mapIdx, h]
  rfl
theorem kb_fvat {ad : Nat → Nat} {f : Int → Int} {fl : List (Option Nat)} {k : Nat} {o : Option Nat} (h : fl[k]? = some o) : (fl.mapIdx (kb_fv ad f))[k]? = some (kb_fv ad f k o) := by
  rw [List.getElem?_mapIdx, h]
  rfl
theorem kb_wr_same (M : kb_M) (q : Nat) (k a : Int) : kb_wr M q k a q = fun j => if j = k then a else M q j := by
  unfold kb_wr
  simp
theorem kb_wr_other (M : kb_M) {q x : Nat} (k a : Int) (h : x ≠ q) : kb_wr M q k a x = M x := by
  unfold kb_wr
  simp [h]
theorem kb_wset {ad : Nat → Nat} {cy : Nat → ClassId} {M : kb_M} {q : Nat} {d : kb_T} (h : kb_sh[q]? = some d) (k a : Int) : (kb_ws ad cy M).set q (ad q, kb_en ad cy (kb_wr M q k a q) d) = kb_ws ad cy (kb_wr M q k a) := by
  apply List.ext_getElem?
  intro i
  unfold kb_ws
  rw [List.getElem?_set]
  by_cases hi : q = i
  · subst hi
    have hl : q < (List.mapIdx (fun q d => (ad q, kb_en ad cy (M q) d)) kb_sh).length := by
      rw [List.length_mapIdx]
      exact (List.getElem?_eq_some_iff.mp h).1
    rw [if_pos rfl, if_pos hl, List.getElem?_mapIdx, h]
    rfl
  · rw [if_neg hi, List.getElem?_mapIdx, List.getElem?_mapIdx, kb_wr_other M k a (fun q => hi q.symm)]
theorem kb_fvset {ad : Nat → Nat} {M : kb_M} {q k : Nat} {a : Int} {fl : List (Option Nat)} (h : fl[k]? = some none) : (fl.mapIdx (kb_fv ad (M q))).set k (kb_i a) = fl.mapIdx (kb_fv ad (kb_wr M q k a q)) := by
  apply List.ext_getElem?
  intro i
  rw [List.getElem?_set]
  by_cases hi : k = i
  · subst hi
    have hl : k < (List.mapIdx (kb_fv ad (M q)) fl).length := by
      rw [List.length_mapIdx]
      exact (List.getElem?_eq_some_iff.mp h).1
    rw [if_pos rfl, if_pos hl, List.getElem?_mapIdx, h, kb_wr_same]
    show some (kb_i a) = some (kb_i (if ((k : Int) = (k : Int)) then a else M q k))
    rw [if_pos rfl]
  · rw [if_neg hi, List.getElem?_mapIdx, List.getElem?_mapIdx, kb_wr_same]
    cases fl[i]? with
    | none => rfl
    | some o =>
      cases o with
      | some j => rfl
      | none =>
        show some (kb_i (M q i)) = some (kb_i (if ((i : Int) = (k : Int)) then a else M q i))
        rw [if_neg (by omega)]
theorem kb_arset {M : kb_M} {q : Nat} {i a : Int} (h : 0 ≤ i) : upd (fun k : Nat => kb_J (M q (k : Int))) i.toNat (kb_J a) = fun k : Nat => kb_J (kb_wr M q i a q (k : Int)) := by
  funext k
  rw [kb_wr_same]
  show (if k = i.toNat then kb_J a else kb_J (M q k)) = kb_J (if ((k : Int) = i) then a else M q k)
  by_cases hk : k = i.toNat
  · rw [if_pos hk, if_pos (by omega)]
  · rw [if_neg hk, if_neg (by omega)]
theorem kb_okwr {M : kb_M} (h : kb_ok M) {q : Nat} {k a : Int} (ha : kb_rg a) : kb_ok (kb_wr M q k a) := by
  intro x j
  unfold kb_wr
  split
  · show kb_rg (if j = k then a else M x j)
    split
    · exact ha
    · exact h x j
  · exact h x j
theorem kb_Dany {A : Nat → Prop} {ad : Nat → Nat} {cy : Nat → ClassId} {M M' : kb_M} (h : va_D A (kb_ws ad cy M)) : va_D A (kb_ws ad cy M') := by
  have key : ∀ (k : Nat) (q : Nat × va_E), (kb_ws ad cy M')[k]? = some q → ∃ q', (kb_ws ad cy M)[k]? = some q' ∧ q'.1 = q.1 := by
    intro k q hq
    unfold kb_ws at hq ⊢
    rw [List.getElem?_mapIdx] at hq ⊢
    cases hs : kb_sh[k]? with
    | none => rw [hs] at hq; cases hq
    | some d =>
      rw [hs] at hq
      cases hq
      exact ⟨_, rfl, rfl⟩
  refine ⟨fun i j p q hi hj he => ?_, fun k q hk => ?_⟩
  · obtain ⟨p', a1, a2⟩ := key i p hi
    obtain ⟨q', b1, b2⟩ := key j q hj
    exact h.1 i j p' q' a1 b1 (by rw [a2, b2, he])
  · obtain ⟨p', a1, a2⟩ := key k q hk
    rw [← a2]
    exact h.2 k p' a1
def kb_A (ad : Nat → Nat) (sz : Nat) : Nat → Prop := fun q => (∃ k, k < 37 ∧ ad k = q) ∨ sz ≤ q
abbrev kb_nw : Cond := .methodLinkNest "SoundBoard$Probe" 72 yX6_root "SoundBoard"
/-- a world at a state -/
def kb_st (D : va_G) (ad : Nat → Nat) (cy : Nat → ClassId) (sz : Nat) (M : kb_M) (U : State) : Prop :=
  U.heap.size = sz ∧ kb_ok M ∧ va_P D vwCl (kb_ws ad cy M) U.heap ∧ va_K D vwCl (kb_ty cy) U ∧ va_D (fun _ => True) (kb_ws ad cy M) ∧ va_Nw kb_nw U
def kb_en2 (D : va_G) (ad : Nat → Nat) (cy : Nat → ClassId) (M : kb_M) (t : State) : Prop := kb_ok M ∧ va_P D vwCl (kb_ws ad cy M) t.heap
/-- contracts: the method answers r (an int), the world holds M' -/
def kb_Ci (l : Launch) (D : va_G) (ad : Nat → Nat) (cy : Nat → ClassId) (y : MethodName) (ws : List Cond) (fr lo : Nat) (args : List Value) (M : kb_M) (r : Int) (M' : kb_M) : Prop :=
  ∀ sz, Met l y ws ({ frames := fr, cells := 0, slots := 0, locals := lo }) (va_Pc args (kb_st D ad cy sz M)) (va_Qi (fun (v : Int32) (_ : Unit) => v = kb_J r) (fun _ t => kb_en2 D ad cy M' t) (kb_A ad sz)) 0 0 (kb_A ad sz)
def kb_Cl (l : Launch) (D : va_G) (ad : Nat → Nat) (cy : Nat → ClassId) (y : MethodName) (ws : List Cond) (fr lo : Nat) (args : List Value) (M : kb_M) (r : Int) (M' : kb_M) : Prop :=
  ∀ sz, Met l y ws ({ frames := fr, cells := 0, slots := 0, locals := lo }) (va_Pc args (kb_st D ad cy sz M)) (va_Ql (fun (v : Int64) (_ : Unit) => v = kb_L r) (fun _ t => kb_en2 D ad cy M' t) (kb_A ad sz)) 0 0 (kb_A ad sz)
def kb_Cv (l : Launch) (D : va_G) (ad : Nat → Nat) (cy : Nat → ClassId) (y : MethodName) (ws : List Cond) (fr lo : Nat) (args : List Value) (M : kb_M) (M' : kb_M) : Prop :=
  ∀ sz, Met l y ws ({ frames := fr, cells := 0, slots := 0, locals := lo }) (va_Pc args (kb_st D ad cy sz M)) (va_Qv (fun (_ : Unit) => True) (fun _ t => kb_en2 D ad cy M' t) (kb_A ad sz)) 0 0 (kb_A ad sz)
/-- what does not change in a method's walk -/
def kb_X (p : Program) (s : State) (m : MethodId) (c : Code) (cc : ByteArray) (nL : Nat) (args : Array Value) (Ts : List Cond) (own : String) (D : va_G) (ad : Nat → Nat) (cy : Nat → ClassId) (A : Nat → Prop) : Prop :=
  CallFix p m c cc nL s args Ts own ∧ va_K D vwCl (kb_ty cy) s ∧ (∀ M : kb_M, va_D A (kb_ws ad cy M)) ∧ (∀ q, s.heap.size ≤ q → A q) ∧ va_Nw kb_nw s
/-- the machine at pc, with these locals, this stack, this world, comes to Q -/
def kb_B (p : Program) (l : Launch) (e : Env) (R : Room) (s : State) (m : MethodId) (args : Array Value) (below : List Frame) (meth : Method) (c : Code) (D : va_G) (ad : Nat → Nat) (cy : Nat → ClassId) (A : Nat → Prop) (nL cells slots : Nat) (Q : State → Prop) (pc : Nat) (lv : List (Nat × Value)) (st : List Value) (M : kb_M) : Prop :=
  ∀ (H : Heap) (locs : List Loc) (ls : Array Slot), kb_ok M → va_P D vwCl (kb_ws ad cy M) H → va_S A s.heap H locs → lv_has ls nL lv → W p l e R s m args below meth c H locs cells slots Q (F0 m pc ls st)

theorem kb_Dself {ad : Nat → Nat} {cy : Nat → ClassId} {M : kb_M} {sz : Nat} (h : va_D (fun _ => True) (kb_ws ad cy M)) : va_D (kb_A ad sz) (kb_ws ad cy M) := by
  refine ⟨h.1, fun k q hk => Or.inl ⟨k, ?_, ?_⟩⟩
  · have h1 := (List.getElem?_eq_some_iff.mp hk).1
    unfold kb_ws at h1
    rw [List.length_mapIdx] at h1
    exact h1
  · unfold kb_ws at hk
    rw [List.getElem?_mapIdx] at hk
    cases hs : kb_sh[k]? with
    | none => rw [hs] at hk; cases hk
    | some d =>
      rw [hs] at hk
      cases hk
      rfl
section kb_rows
variable {p : Program} {l : Launch} {e : Env} {R : Room} {s : State} {m : MethodId} {args : Array Value} {below : List Frame} {meth : Method} {c : Code} {D : va_G} {ad : Nat → Nat} {cy : Nat → ClassId} {A : Nat → Prop} {nL cells slots : Nat} {Q : State → Prop}
variable {cc : ByteArray} {own : String} {Ts : List Cond} {pc : Nat} {lv : List (Nat × Value)} {st : List Value} {M : kb_M}
theorem kb_M_ok (k : kb_ok M → kb_B p l e R s m args below meth c D ad cy A nL cells slots Q pc lv st M) : kb_B p l e R s m args below meth c D ad cy A nL cells slots Q pc lv st M := fun H locs ls hM hP hS hl => k hM H locs ls hM hP hS hl
theorem kb_eqM {M' : kb_M} (h : M' = M) (k : kb_B p l e R s m args below meth c D ad cy A nL cells slots Q pc lv st M') : kb_B p l e R s m args below meth c D ad cy A nL cells slots Q pc lv st M := h ▸ k
theorem kb_sub {lv' : List (Nat × Value)} (ks : List Nat) (h : lv_pick lv ks = lv') (k : kb_B p l e R s m args below meth c D ad cy A nL cells slots Q pc lv' st M) : kb_B p l e R s m args below meth c D ad cy A nL cells slots Q pc lv st M := fun H locs ls hM hP hS hl => k H locs ls hM hP hS (lv_sub hl ks h)
theorem kb_nmi {a : Int} (k : ∀ b : Int, b = a → kb_B p l e R s m args below meth c D ad cy A nL cells slots Q pc lv (kb_i b :: st) M) : kb_B p l e R s m args below meth c D ad cy A nL cells slots Q pc lv (kb_i a :: st) M := k a rfl
theorem kb_nml {a : Int} (k : ∀ b : Int, b = a → kb_B p l e R s m args below meth c D ad cy A nL cells slots Q pc lv (kb_l b :: st) M) : kb_B p l e R s m args below meth c D ad cy A nL cells slots Q pc lv (kb_l a :: st) M := k a rfl
theorem kb_eqi {a b : Int} (h : a = b) (k : kb_B p l e R s m args below meth c D ad cy A nL cells slots Q pc lv (kb_i b :: st) M) : kb_B p l e R s m args below meth c D ad cy A nL cells slots Q pc lv (kb_i a :: st) M := h ▸ k
theorem kb_eql {a b : Int} (h : a = b) (k : kb_B p l e R s m args below meth c D ad cy A nL cells slots Q pc lv (kb_l b :: st) M) : kb_B p l e R s m args below meth c D ad cy A nL cells slots Q pc lv (kb_l a :: st) M := h ▸ k
theorem kb_iload_n (X : kb_X p s m c cc nL args Ts own D ad cy A) {i : Fin 4} {a : Int} (j : Nat) (hj : lv[j]? = some ((i : Nat), kb_i a)) (hd : decode cc pc = .ok (.iload_n i, 1)) (k : kb_B p l e R s m args below meth c D ad cy A nL cells slots Q (pc + 1) lv (kb_i a :: st) M) : kb_B p l e R s m args below meth c D ad cy A nL cells slots Q pc lv st M := by
  intro H locs ls hM hP hS hl
  exact lv_iload_n X.1.1 X.1.2.1 hd rfl (lv_at hl j hj) (k H locs ls hM hP hS hl)
theorem kb_iload (X : kb_X p s m c cc nL args Ts own D ad cy A) {i : Nat} {a : Int} (j : Nat) (hj : lv[j]? = some (i, kb_i a)) (hd : decode cc pc = .ok (.iload i, 2)) (k : kb_B p l e R s m args below meth c D ad cy A nL cells slots Q (pc + 2) lv (kb_i a :: st) M) : kb_B p l e R s m args below meth c D ad cy A nL cells slots Q pc lv st M := by
  intro H locs ls hM hP hS hl
  exact lv_iload X.1.1 X.1.2.1 hd (lv_at hl j hj) (k H locs ls hM hP hS hl)
theorem kb_aload_n (X : kb_X p s m c cc nL args Ts own D ad cy A) {i : Fin 4} {q : Nat} (j : Nat) (hj : lv[j]? = some ((i : Nat), .ref q)) (hd : decode cc pc = .ok (.aload_n i, 1)) (k : kb_B p l e R s m args below meth c D ad cy A nL cells slots Q (pc + 1) lv (.ref q :: st) M) : kb_B p l e R s m args below meth c D ad cy A nL cells slots Q pc lv st M := by
  intro H locs ls hM hP hS hl
  exact lv_aload_n X.1.1 X.1.2.1 hd rfl (lv_at hl j hj) (k H locs ls hM hP hS hl)
theorem kb_aload (X : kb_X p s m c cc nL args Ts own D ad cy A) {i : Nat} {q : Nat} (j : Nat) (hj : lv[j]? = some (i, .ref q)) (hd : decode cc pc = .ok (.aload i, 2)) (k : kb_B p l e R s m args below meth c D ad cy A nL cells slots Q (pc + 2) lv (.ref q :: st) M) : kb_B p l e R s m args below meth c D ad cy A nL cells slots Q pc lv st M := by
  intro H locs ls hM hP hS hl
  exact lv_aload X.1.1 X.1.2.1 hd (lv_at hl j hj) (k H locs ls hM hP hS hl)
theorem kb_lload_n (X : kb_X p s m c cc nL args Ts own D ad cy A) {i : Fin 4} {a : Int} (j : Nat) (hj : lv[j]? = some ((i : Nat), kb_l a)) (hd : decode cc pc = .ok (.lload_n i, 1)) (k : kb_B p l e R s m args below meth c D ad cy A nL cells slots Q (pc + 1) lv (kb_l a :: st) M) : kb_B p l e R s m args below meth c D ad cy A nL cells slots Q pc lv st M := by
  intro H locs ls hM hP hS hl
  exact lv_lload_n X.1.1 X.1.2.1 hd rfl (lv_at hl j hj) (k H locs ls hM hP hS hl)
theorem kb_lload (X : kb_X p s m c cc nL args Ts own D ad cy A) {i : Nat} {a : Int} (j : Nat) (hj : lv[j]? = some (i, kb_l a)) (hd : decode cc pc = .ok (.lload i, 2)) (k : kb_B p l e R s m args below meth c D ad cy A nL cells slots Q (pc + 2) lv (kb_l a :: st) M) : kb_B p l e R s m args below meth c D ad cy A nL cells slots Q pc lv st M := by
  intro H locs ls hM hP hS hl
  exact lv_lload X.1.1 X.1.2.1 hd (lv_at hl j hj) (k H locs ls hM hP hS hl)
theorem kb_istore_n (X : kb_X p s m c cc nL args Ts own D ad cy A) {i : Fin 4} {a : Int} {lv' : List (Nat × Value)} (hd : decode cc pc = .ok (.istore_n i, 1)) (hn : (i : Nat) < nL) (hv : ((i : Nat), (kb_i a : Value)) :: lv.filter (fun q => !(q.1 == (i : Nat)) && !(q.1 + 1 == (i : Nat) && q.2.category == 2)) = lv') (k : kb_B p l e R s m args below meth c D ad cy A nL cells slots Q (pc + 1) lv' st M) : kb_B p l e R s m args below meth c D ad cy A nL cells slots Q pc lv (kb_i a :: st) M := by
  intro H locs ls hM hP hS hl
  exact lv_istore_n X.1.1 X.1.2.1 hd rfl hl hn hv (fun ls' hl' => k H locs ls' hM hP hS hl')
theorem kb_istore (X : kb_X p s m c cc nL args Ts own D ad cy A) {i : Nat} {a : Int} {lv' : List (Nat × Value)} (hd : decode cc pc = .ok (.istore i, 2)) (hn : i < nL) (hv : ((i : Nat), (kb_i a : Value)) :: lv.filter (fun q => !(q.1 == i) && !(q.1 + 1 == i && q.2.category == 2)) = lv') (k : kb_B p l e R s m args below meth c D ad cy A nL cells slots Q (pc + 2) lv' st M) : kb_B p l e R s m args below meth c D ad cy A nL cells slots Q pc lv (kb_i a :: st) M := by
  intro H locs ls hM hP hS hl
  exact lv_istore X.1.1 X.1.2.1 hd hl hn hv (fun ls' hl' => k H locs ls' hM hP hS hl')
theorem kb_lstore_n (X : kb_X p s m c cc nL args Ts own D ad cy A) {i : Fin 4} {a : Int} {lv' : List (Nat × Value)} (hd : decode cc pc = .ok (.lstore_n i, 1)) (hn : (i : Nat) + 1 < nL) (hv : ((i : Nat), (kb_l a : Value)) :: lv.filter (fun q => !(q.1 == (i : Nat)) && (!(q.1 == (i : Nat) + 1) && !(q.1 + 1 == (i : Nat) && q.2.category == 2))) = lv') (k : kb_B p l e R s m args below meth c D ad cy A nL cells slots Q (pc + 1) lv' st M) : kb_B p l e R s m args below meth c D ad cy A nL cells slots Q pc lv (kb_l a :: st) M := by
  intro H locs ls hM hP hS hl
  exact lv_lstore_n X.1.1 X.1.2.1 hd rfl hl hn hv (fun ls' hl' => k H locs ls' hM hP hS hl')
theorem kb_lstore (X : kb_X p s m c cc nL args Ts own D ad cy A) {i : Nat} {a : Int} {lv' : List (Nat × Value)} (hd : decode cc pc = .ok (.lstore i, 2)) (hn : i + 1 < nL) (hv : ((i : Nat), (kb_l a : Value)) :: lv.filter (fun q => !(q.1 == i) && (!(q.1 == i + 1) && !(q.1 + 1 == i && q.2.category == 2))) = lv') (k : kb_B p l e R s m args below meth c D ad cy A nL cells slots Q (pc + 2) lv' st M) : kb_B p l e R s m args below meth c D ad cy A nL cells slots Q pc lv (kb_l a :: st) M := by
  intro H locs ls hM hP hS hl
  exact lv_lstore X.1.1 X.1.2.1 hd hl hn hv (fun ls' hl' => k H locs ls' hM hP hS hl')
theorem kb_astore_n (X : kb_X p s m c cc nL args Ts own D ad cy A) {i : Fin 4} {a : Nat} {lv' : List (Nat × Value)} (hd : decode cc pc = .ok (.astore_n i, 1)) (hn : (i : Nat) < nL) (hv : ((i : Nat), (.ref a : Value)) :: lv.filter (fun q => !(q.1 == (i : Nat)) && !(q.1 + 1 == (i : Nat) && q.2.category == 2)) = lv') (k : kb_B p l e R s m args below meth c D ad cy A nL cells slots Q (pc + 1) lv' st M) : kb_B p l e R s m args below meth c D ad cy A nL cells slots Q pc lv (.ref a :: st) M := by
  intro H locs ls hM hP hS hl
  exact lv_astore_n X.1.1 X.1.2.1 hd rfl hl hn hv (fun ls' hl' => k H locs ls' hM hP hS hl')
theorem kb_astore (X : kb_X p s m c cc nL args Ts own D ad cy A) {i : Nat} {a : Nat} {lv' : List (Nat × Value)} (hd : decode cc pc = .ok (.astore i, 2)) (hn : i < nL) (hv : ((i : Nat), (.ref a : Value)) :: lv.filter (fun q => !(q.1 == i) && !(q.1 + 1 == i && q.2.category == 2)) = lv') (k : kb_B p l e R s m args below meth c D ad cy A nL cells slots Q (pc + 2) lv' st M) : kb_B p l e R s m args below meth c D ad cy A nL cells slots Q pc lv (.ref a :: st) M := by
  intro H locs ls hM hP hS hl
  exact lv_astore X.1.1 X.1.2.1 hd hl hn hv (fun ls' hl' => k H locs ls' hM hP hS hl')
theorem kb_iinc (X : kb_X p s m c cc nL args Ts own D ad cy A) {i : Nat} {n a b : Int} {lv' : List (Nat × Value)} (j : Nat) (hj : lv[j]? = some (i, kb_i a)) (hd : decode cc pc = .ok (.iinc i n, 3)) (hb : a + n = b) (hn : i < nL) (hv : (i, kb_i b) :: lv.filter (fun q => !(q.1 == i) && !(q.1 + 1 == i && q.2.category == 2)) = lv') (k : kb_B p l e R s m args below meth c D ad cy A nL cells slots Q (pc + 3) lv' st M) : kb_B p l e R s m args below meth c D ad cy A nL cells slots Q pc lv st M := by
  intro H locs ls hM hP hS hl
  subst hb
  exact lv_iinc X.1.1 X.1.2.1 hd hl hj (kb_Jadd a n).symm hn hv (fun ls' hl' => k H locs ls' hM hP hS hl')
theorem kb_iconst (X : kb_X p s m c cc nL args Ts own D ad cy A) {n : Int} (hd : decode cc pc = .ok (.iconst n, 1)) (k : kb_B p l e R s m args below meth c D ad cy A nL cells slots Q (pc + 1) lv (kb_i n :: st) M) : kb_B p l e R s m args below meth c D ad cy A nL cells slots Q pc lv st M := by
  intro H locs ls hM hP hS hl
  exact lv_iconst X.1.1 X.1.2.1 hd rfl (k H locs ls hM hP hS hl)
theorem kb_bipush (X : kb_X p s m c cc nL args Ts own D ad cy A) {n : Int} (hv : (Int8.ofInt n).toInt32 = kb_J n) (hd : decode cc pc = .ok (.bipush n, 2)) (k : kb_B p l e R s m args below meth c D ad cy A nL cells slots Q (pc + 2) lv (kb_i n :: st) M) : kb_B p l e R s m args below meth c D ad cy A nL cells slots Q pc lv st M := by
  intro H locs ls hM hP hS hl
  exact lv_bipush X.1.1 X.1.2.1 hd hv (k H locs ls hM hP hS hl)
theorem kb_sipush (X : kb_X p s m c cc nL args Ts own D ad cy A) {n : Int} (hv : (Int16.ofInt n).toInt32 = kb_J n) (hd : decode cc pc = .ok (.sipush n, 3)) (k : kb_B p l e R s m args below meth c D ad cy A nL cells slots Q (pc + 3) lv (kb_i n :: st) M) : kb_B p l e R s m args below meth c D ad cy A nL cells slots Q pc lv st M := by
  intro H locs ls hM hP hS hl
  exact lv_sipush X.1.1 X.1.2.1 hd hv (k H locs ls hM hP hS hl)
theorem kb_ldc (X : kb_X p s m c cc nL args Ts own D ad cy A) {index : Nat} {v : Int32} (n : Int) (hw : Cond.constant own index v ∈ Ts) (hv : v = kb_J n) (hd : decode cc pc = .ok (.ldc index, 2)) (k : kb_B p l e R s m args below meth c D ad cy A nL cells slots Q (pc + 2) lv (kb_i n :: st) M) : kb_B p l e R s m args below meth c D ad cy A nL cells slots Q pc lv st M := by
  intro H locs ls hM hP hS hl
  subst hv
  exact lv_ldc X.1.1 X.1.2.1 X.1.2.2.2.1 (X.1.2.2.2.2 _ hw) hd (k H locs ls hM hP hS hl)
theorem kb_lconst (X : kb_X p s m c cc nL args Ts own D ad cy A) {n : Fin 2} (hd : decode cc pc = .ok (.lconst n, 1)) (k : kb_B p l e R s m args below meth c D ad cy A nL cells slots Q (pc + 1) lv (kb_l ((n : Nat) : Int) :: st) M) : kb_B p l e R s m args below meth c D ad cy A nL cells slots Q pc lv st M := by
  intro H locs ls hM hP hS hl
  exact lv_lconst X.1.1 X.1.2.1 hd (Int64.ofInt_eq_ofNat).symm (k H locs ls hM hP hS hl)
theorem kb_ldc2 (X : kb_X p s m c cc nL args Ts own D ad cy A) {index : Nat} {v : Int64} (n : Int) (hw : Cond.constantLong own index v ∈ Ts) (hv : v = kb_L n) (hd : decode cc pc = .ok (.ldc2_w index, 3)) (k : kb_B p l e R s m args below meth c D ad cy A nL cells slots Q (pc + 3) lv (kb_l n :: st) M) : kb_B p l e R s m args below meth c D ad cy A nL cells slots Q pc lv st M := by
  intro H locs ls hM hP hS hl
  subst hv
  exact lv_ldc2 X.1.1 X.1.2.1 X.1.2.2.2.1 (X.1.2.2.2.2 _ hw) hd (k H locs ls hM hP hS hl)
theorem kb_iadd (X : kb_X p s m c cc nL args Ts own D ad cy A) {a b : Int} (hd : decode cc pc = .ok (.iadd, 1)) (k : kb_B p l e R s m args below meth c D ad cy A nL cells slots Q (pc + 1) lv (kb_i (a + b) :: st) M) : kb_B p l e R s m args below meth c D ad cy A nL cells slots Q pc lv (kb_i b :: kb_i a :: st) M := by
  intro H locs ls hM hP hS hl
  refine lv_iadd X.1.1 X.1.2.1 hd ?_
  rw [← kb_Jadd]
  exact k H locs ls hM hP hS hl
theorem kb_isub (X : kb_X p s m c cc nL args Ts own D ad cy A) {a b : Int} (hd : decode cc pc = .ok (.isub, 1)) (k : kb_B p l e R s m args below meth c D ad cy A nL cells slots Q (pc + 1) lv (kb_i (a - b) :: st) M) : kb_B p l e R s m args below meth c D ad cy A nL cells slots Q pc lv (kb_i b :: kb_i a :: st) M := by
  intro H locs ls hM hP hS hl
  refine lv_isub X.1.1 X.1.2.1 hd ?_
  rw [← kb_Jsub]
  exact k H locs ls hM hP hS hl
theorem kb_imul (X : kb_X p s m c cc nL args Ts own D ad cy A) {a b : Int} (hd : decode cc pc = .ok (.imul, 1)) (k : kb_B p l e R s m args below meth c D ad cy A nL cells slots Q (pc + 1) lv (kb_i (a * b) :: st) M) : kb_B p l e R s m args below meth c D ad cy A nL cells slots Q pc lv (kb_i b :: kb_i a :: st) M := by
  intro H locs ls hM hP hS hl
  refine lv_imul X.1.1 X.1.2.1 hd ?_
  rw [← kb_Jmul]
  exact k H locs ls hM hP hS hl
theorem kb_ladd (X : kb_X p s m c cc nL args Ts own D ad cy A) {a b : Int} (hd : decode cc pc = .ok (.ladd, 1)) (k : kb_B p l e R s m args below meth c D ad cy A nL cells slots Q (pc + 1) lv (kb_l (a + b) :: st) M) : kb_B p l e R s m args below meth c D ad cy A nL cells slots Q pc lv (kb_l b :: kb_l a :: st) M := by
  intro H locs ls hM hP hS hl
  refine lv_ladd X.1.1 X.1.2.1 hd ?_
  rw [← kb_Ladd]
  exact k H locs ls hM hP hS hl
theorem kb_lsub (X : kb_X p s m c cc nL args Ts own D ad cy A) {a b : Int} (hd : decode cc pc = .ok (.lsub, 1)) (k : kb_B p l e R s m args below meth c D ad cy A nL cells slots Q (pc + 1) lv (kb_l (a - b) :: st) M) : kb_B p l e R s m args below meth c D ad cy A nL cells slots Q pc lv (kb_l b :: kb_l a :: st) M := by
  intro H locs ls hM hP hS hl
  refine lv_lsub X.1.1 X.1.2.1 hd ?_
  rw [← kb_Lsub]
  exact k H locs ls hM hP hS hl
theorem kb_lmul (X : kb_X p s m c cc nL args Ts own D ad cy A) {a b : Int} (hd : decode cc pc = .ok (.lmul, 1)) (k : kb_B p l e R s m args below meth c D ad cy A nL cells slots Q (pc + 1) lv (kb_l (a * b) :: st) M) : kb_B p l e R s m args below meth c D ad cy A nL cells slots Q pc lv (kb_l b :: kb_l a :: st) M := by
  intro H locs ls hM hP hS hl
  refine lv_lmul X.1.1 X.1.2.1 hd ?_
  rw [← kb_Lmul]
  exact k H locs ls hM hP hS hl
theorem kb_ineg (X : kb_X p s m c cc nL args Ts own D ad cy A) {a : Int} (hd : decode cc pc = .ok (.ineg, 1)) (k : kb_B p l e R s m args below meth c D ad cy A nL cells slots Q (pc + 1) lv (kb_i (-a) :: st) M) : kb_B p l e R s m args below meth c D ad cy A nL cells slots Q pc lv (kb_i a :: st) M := by
  intro H locs ls hM hP hS hl
  refine lv_ineg X.1.1 X.1.2.1 hd ?_
  rw [← kb_Jneg]
  exact k H locs ls hM hP hS hl
theorem kb_idiv (X : kb_X p s m c cc nL args Ts own D ad cy A) {a b : Int} (ha : kb_rg a) (hb : kb_rg b) (h0 : b ≠ 0) (hd : decode cc pc = .ok (.idiv, 1)) (k : kb_B p l e R s m args below meth c D ad cy A nL cells slots Q (pc + 1) lv (kb_i (a.tdiv b) :: st) M) : kb_B p l e R s m args below meth c D ad cy A nL cells slots Q pc lv (kb_i b :: kb_i a :: st) M := by
  intro H locs ls hM hP hS hl
  refine lv_idiv X.1.1 X.1.2.1 hd (fun q => h0 ((kb_Jz hb).mp q)) ?_
  rw [← kb_Jdiv ha hb]
  exact k H locs ls hM hP hS hl
theorem kb_irem (X : kb_X p s m c cc nL args Ts own D ad cy A) {a b : Int} (ha : kb_rg a) (hb : kb_rg b) (h0 : b ≠ 0) (hd : decode cc pc = .ok (.irem, 1)) (k : kb_B p l e R s m args below meth c D ad cy A nL cells slots Q (pc + 1) lv (kb_i (a.tmod b) :: st) M) : kb_B p l e R s m args below meth c D ad cy A nL cells slots Q pc lv (kb_i b :: kb_i a :: st) M := by
  intro H locs ls hM hP hS hl
  refine lv_irem X.1.1 X.1.2.1 hd (fun q => h0 ((kb_Jz hb).mp q)) ?_
  rw [← kb_Jrem ha hb]
  exact k H locs ls hM hP hS hl
theorem kb_ldiv (X : kb_X p s m c cc nL args Ts own D ad cy A) {a b : Int} (ha : kb_rl a) (hb : kb_rl b) (h0 : b ≠ 0) (hd : decode cc pc = .ok (.ldiv, 1)) (k : kb_B p l e R s m args below meth c D ad cy A nL cells slots Q (pc + 1) lv (kb_l (a.tdiv b) :: st) M) : kb_B p l e R s m args below meth c D ad cy A nL cells slots Q pc lv (kb_l b :: kb_l a :: st) M := by
  intro H locs ls hM hP hS hl
  refine lv_ldiv X.1.1 X.1.2.1 hd (fun q => h0 ((kb_Lz hb).mp q)) ?_
  rw [← kb_Ldiv ha hb]
  exact k H locs ls hM hP hS hl
theorem kb_iand1 (X : kb_X p s m c cc nL args Ts own D ad cy A) {a : Int} (hd : decode cc pc = .ok (.iand, 1)) (k : kb_B p l e R s m args below meth c D ad cy A nL cells slots Q (pc + 1) lv (kb_i (a % 2) :: st) M) : kb_B p l e R s m args below meth c D ad cy A nL cells slots Q pc lv (kb_i 1 :: kb_i a :: st) M := by
  intro H locs ls hM hP hS hl
  refine lv_iand X.1.1 X.1.2.1 hd ?_
  rw [kb_and1]
  exact k H locs ls hM hP hS hl
theorem kb_iand31 (X : kb_X p s m c cc nL args Ts own D ad cy A) {a : Int} (hd : decode cc pc = .ok (.iand, 1)) (k : kb_B p l e R s m args below meth c D ad cy A nL cells slots Q (pc + 1) lv (kb_i (a % 32) :: st) M) : kb_B p l e R s m args below meth c D ad cy A nL cells slots Q pc lv (kb_i 31 :: kb_i a :: st) M := by
  intro H locs ls hM hP hS hl
  refine lv_iand X.1.1 X.1.2.1 hd ?_
  rw [kb_and31]
  exact k H locs ls hM hP hS hl
theorem kb_ishr (X : kb_X p s m c cc nL args Ts own D ad cy A) {a b : Int} (ha : kb_rg a) (h0 : 0 ≤ b) (h1 : b < 32) (hd : decode cc pc = .ok (.ishr, 1)) (k : kb_B p l e R s m args below meth c D ad cy A nL cells slots Q (pc + 1) lv (kb_i (a / 2 ^ b.toNat) :: st) M) : kb_B p l e R s m args below meth c D ad cy A nL cells slots Q pc lv (kb_i b :: kb_i a :: st) M := by
  intro H locs ls hM hP hS hl
  refine lv_ishr X.1.1 X.1.2.1 hd ?_
  rw [kb_shr ha h0 h1]
  exact k H locs ls hM hP hS hl
theorem kb_ishl1 (X : kb_X p s m c cc nL args Ts own D ad cy A) {b : Int} (h0 : 0 ≤ b) (h1 : b < 31) (hd : decode cc pc = .ok (.ishl, 1)) (k : kb_B p l e R s m args below meth c D ad cy A nL cells slots Q (pc + 1) lv (kb_i (2 ^ b.toNat) :: st) M) : kb_B p l e R s m args below meth c D ad cy A nL cells slots Q pc lv (kb_i b :: kb_i 1 :: st) M := by
  intro H locs ls hM hP hS hl
  refine lv_ishl X.1.1 X.1.2.1 hd ?_
  rw [kb_shl h0 h1]
  exact k H locs ls hM hP hS hl
theorem kb_i2l (X : kb_X p s m c cc nL args Ts own D ad cy A) {a : Int} (ha : kb_rg a) (hd : decode cc pc = .ok (.i2l, 1)) (k : kb_B p l e R s m args below meth c D ad cy A nL cells slots Q (pc + 1) lv (kb_l a :: st) M) : kb_B p l e R s m args below meth c D ad cy A nL cells slots Q pc lv (kb_i a :: st) M := by
  intro H locs ls hM hP hS hl
  exact lv_i2l X.1.1 X.1.2.1 hd (kb_JL ha) (k H locs ls hM hP hS hl)
theorem kb_l2i (X : kb_X p s m c cc nL args Ts own D ad cy A) {a : Int} (hd : decode cc pc = .ok (.l2i, 1)) (k : kb_B p l e R s m args below meth c D ad cy A nL cells slots Q (pc + 1) lv (kb_i a :: st) M) : kb_B p l e R s m args below meth c D ad cy A nL cells slots Q pc lv (kb_l a :: st) M := by
  intro H locs ls hM hP hS hl
  exact lv_l2i X.1.1 X.1.2.1 hd (kb_LJ a) (k H locs ls hM hP hS hl)
theorem kb_dup (X : kb_X p s m c cc nL args Ts own D ad cy A) {v : Value} (hc : v.category = 1) (hd : decode cc pc = .ok (.dup, 1)) (k : kb_B p l e R s m args below meth c D ad cy A nL cells slots Q (pc + 1) lv (v :: v :: st) M) : kb_B p l e R s m args below meth c D ad cy A nL cells slots Q pc lv (v :: st) M := by
  intro H locs ls hM hP hS hl
  exact lv_dup X.1.1 X.1.2.1 hd hc (k H locs ls hM hP hS hl)
theorem kb_dup2 (X : kb_X p s m c cc nL args Ts own D ad cy A) {v u : Value} (hv : v.category = 1) (hu : u.category = 1) (hd : decode cc pc = .ok (.dup2, 1)) (k : kb_B p l e R s m args below meth c D ad cy A nL cells slots Q (pc + 1) lv (v :: u :: v :: u :: st) M) : kb_B p l e R s m args below meth c D ad cy A nL cells slots Q pc lv (v :: u :: st) M := by
  intro H locs ls hM hP hS hl
  exact lv_dup2_11 X.1.1 X.1.2.1 hd hv hu (k H locs ls hM hP hS hl)
theorem kb_ixorP (X : kb_X p s m c cc nL args Ts own D ad cy A) {a b : Int} (ha : kb_rg a) (hb : kb_rg b) (h0 : 0 ≤ a) (h1 : 0 ≤ b) (hd : decode cc pc = .ok (.ixor, 1)) (k : ∀ v : Int, 0 ≤ v → kb_rg v → kb_B p l e R s m args below meth c D ad cy A nL cells slots Q (pc + 1) lv (kb_i v :: st) M) : kb_B p l e R s m args below meth c D ad cy A nL cells slots Q pc lv (kb_i b :: kb_i a :: st) M := by
  intro H locs ls hM hP hS hl
  obtain ⟨v, h2, h3, h4⟩ := kb_xorP ha hb h0 h1
  refine lv_ixor X.1.1 X.1.2.1 hd ?_
  rw [h4]
  exact k v h2 h3 H locs ls hM hP hS hl
theorem kb_icmp_eq (X : kb_X p s m c cc nL args Ts own D ad cy A) {a b : Int} (ha : kb_rg a) (hb : kb_rg b) {off : Int} {tgt : Nat} (hd : decode cc pc = .ok (.if_icmp .eq off, 3)) (ht : (pc : Int) + off = (tgt : Int)) (kt : a = b → kb_B p l e R s m args below meth c D ad cy A nL cells slots Q tgt lv st M) (kf : a ≠ b → kb_B p l e R s m args below meth c D ad cy A nL cells slots Q (pc + 3) lv st M) : kb_B p l e R s m args below meth c D ad cy A nL cells slots Q pc lv (kb_i b :: kb_i a :: st) M := by
  intro H locs ls hM hP hS hl
  exact lv_icmp_eq X.1.1 X.1.2.1 hd ht (fun h => kt ((kb_Jeq ha hb).mp h) H locs ls hM hP hS hl) (fun h => kf (fun z => h ((kb_Jeq ha hb).mpr z)) H locs ls hM hP hS hl)
theorem kb_icmp_ne (X : kb_X p s m c cc nL args Ts own D ad cy A) {a b : Int} (ha : kb_rg a) (hb : kb_rg b) {off : Int} {tgt : Nat} (hd : decode cc pc = .ok (.if_icmp .ne off, 3)) (ht : (pc : Int) + off = (tgt : Int)) (kt : a ≠ b → kb_B p l e R s m args below meth c D ad cy A nL cells slots Q tgt lv st M) (kf : a = b → kb_B p l e R s m args below meth c D ad cy A nL cells slots Q (pc + 3) lv st M) : kb_B p l e R s m args below meth c D ad cy A nL cells slots Q pc lv (kb_i b :: kb_i a :: st) M := by
  intro H locs ls hM hP hS hl
  exact lv_icmp_ne X.1.1 X.1.2.1 hd ht (fun h => kt (fun z => h ((kb_Jeq ha hb).mpr z)) H locs ls hM hP hS hl) (fun h => kf ((kb_Jeq ha hb).mp (by first | exact h | exact Decidable.of_not_not h)) H locs ls hM hP hS hl)
theorem kb_icmp_lt (X : kb_X p s m c cc nL args Ts own D ad cy A) {a b : Int} (ha : kb_rg a) (hb : kb_rg b) {off : Int} {tgt : Nat} (hd : decode cc pc = .ok (.if_icmp .lt off, 3)) (ht : (pc : Int) + off = (tgt : Int)) (kt : a < b → kb_B p l e R s m args below meth c D ad cy A nL cells slots Q tgt lv st M) (kf : b ≤ a → kb_B p l e R s m args below meth c D ad cy A nL cells slots Q (pc + 3) lv st M) : kb_B p l e R s m args below meth c D ad cy A nL cells slots Q pc lv (kb_i b :: kb_i a :: st) M := by
  intro H locs ls hM hP hS hl
  exact lv_icmp_lt X.1.1 X.1.2.1 hd ht (fun h => kt ((kb_Jlt ha hb).mp h) H locs ls hM hP hS hl) (fun h => kf (by have h2 : ¬ (a < b) := fun z => h ((kb_Jlt ha hb).mpr z); omega) H locs ls hM hP hS hl)
theorem kb_icmp_ge (X : kb_X p s m c cc nL args Ts own D ad cy A) {a b : Int} (ha : kb_rg a) (hb : kb_rg b) {off : Int} {tgt : Nat} (hd : decode cc pc = .ok (.if_icmp .ge off, 3)) (ht : (pc : Int) + off = (tgt : Int)) (kt : b ≤ a → kb_B p l e R s m args below meth c D ad cy A nL cells slots Q tgt lv st M) (kf : a < b → kb_B p l e R s m args below meth c D ad cy A nL cells slots Q (pc + 3) lv st M) : kb_B p l e R s m args below meth c D ad cy A nL cells slots Q pc lv (kb_i b :: kb_i a :: st) M := by
  intro H locs ls hM hP hS hl
  exact lv_icmp_ge X.1.1 X.1.2.1 hd ht (fun h => kt ((kb_Jle hb ha).mp h) H locs ls hM hP hS hl) (fun h => kf (by have h2 : ¬ (b ≤ a) := fun z => h ((kb_Jle hb ha).mpr z); omega) H locs ls hM hP hS hl)
theorem kb_icmp_gt (X : kb_X p s m c cc nL args Ts own D ad cy A) {a b : Int} (ha : kb_rg a) (hb : kb_rg b) {off : Int} {tgt : Nat} (hd : decode cc pc = .ok (.if_icmp .gt off, 3)) (ht : (pc : Int) + off = (tgt : Int)) (kt : b < a → kb_B p l e R s m args below meth c D ad cy A nL cells slots Q tgt lv st M) (kf : a ≤ b → kb_B p l e R s m args below meth c D ad cy A nL cells slots Q (pc + 3) lv st M) : kb_B p l e R s m args below meth c D ad cy A nL cells slots Q pc lv (kb_i b :: kb_i a :: st) M := by
  intro H locs ls hM hP hS hl
  exact lv_icmp_gt X.1.1 X.1.2.1 hd ht (fun h => kt ((kb_Jlt hb ha).mp h) H locs ls hM hP hS hl) (fun h => kf (by have h2 : ¬ (b < a) := fun z => h ((kb_Jlt hb ha).mpr z); omega) H locs ls hM hP hS hl)
theorem kb_icmp_le (X : kb_X p s m c cc nL args Ts own D ad cy A) {a b : Int} (ha : kb_rg a) (hb : kb_rg b) {off : Int} {tgt : Nat} (hd : decode cc pc = .ok (.if_icmp .le off, 3)) (ht : (pc : Int) + off = (tgt : Int)) (kt : a ≤ b → kb_B p l e R s m args below meth c D ad cy A nL cells slots Q tgt lv st M) (kf : b < a → kb_B p l e R s m args below meth c D ad cy A nL cells slots Q (pc + 3) lv st M) : kb_B p l e R s m args below meth c D ad cy A nL cells slots Q pc lv (kb_i b :: kb_i a :: st) M := by
  intro H locs ls hM hP hS hl
  exact lv_icmp_le X.1.1 X.1.2.1 hd ht (fun h => kt ((kb_Jle ha hb).mp h) H locs ls hM hP hS hl) (fun h => kf (by have h2 : ¬ (a ≤ b) := fun z => h ((kb_Jle ha hb).mpr z); omega) H locs ls hM hP hS hl)
theorem kb_if_eq (X : kb_X p s m c cc nL args Ts own D ad cy A) {a : Int} (ha : kb_rg a) {off : Int} {tgt : Nat} (hd : decode cc pc = .ok (.ifCond .eq off, 3)) (ht : (pc : Int) + off = (tgt : Int)) (kt : a = 0 → kb_B p l e R s m args below meth c D ad cy A nL cells slots Q tgt lv st M) (kf : a ≠ 0 → kb_B p l e R s m args below meth c D ad cy A nL cells slots Q (pc + 3) lv st M) : kb_B p l e R s m args below meth c D ad cy A nL cells slots Q pc lv (kb_i a :: st) M := by
  intro H locs ls hM hP hS hl
  exact lv_if_eq X.1.1 X.1.2.1 hd ht (fun h => kt ((kb_Jz ha).mp h) H locs ls hM hP hS hl) (fun h => kf (fun z => h ((kb_Jz ha).mpr z)) H locs ls hM hP hS hl)
theorem kb_if_ne (X : kb_X p s m c cc nL args Ts own D ad cy A) {a : Int} (ha : kb_rg a) {off : Int} {tgt : Nat} (hd : decode cc pc = .ok (.ifCond .ne off, 3)) (ht : (pc : Int) + off = (tgt : Int)) (kt : a ≠ 0 → kb_B p l e R s m args below meth c D ad cy A nL cells slots Q tgt lv st M) (kf : a = 0 → kb_B p l e R s m args below meth c D ad cy A nL cells slots Q (pc + 3) lv st M) : kb_B p l e R s m args below meth c D ad cy A nL cells slots Q pc lv (kb_i a :: st) M := by
  intro H locs ls hM hP hS hl
  exact lv_if_ne X.1.1 X.1.2.1 hd ht (fun h => kt (fun z => h ((kb_Jz ha).mpr z)) H locs ls hM hP hS hl) (fun h => kf ((kb_Jz ha).mp (by first | exact h | exact Decidable.of_not_not h)) H locs ls hM hP hS hl)
theorem kb_if_lt (X : kb_X p s m c cc nL args Ts own D ad cy A) {a : Int} (ha : kb_rg a) {off : Int} {tgt : Nat} (hd : decode cc pc = .ok (.ifCond .lt off, 3)) (ht : (pc : Int) + off = (tgt : Int)) (kt : a < 0 → kb_B p l e R s m args below meth c D ad cy A nL cells slots Q tgt lv st M) (kf : 0 ≤ a → kb_B p l e R s m args below meth c D ad cy A nL cells slots Q (pc + 3) lv st M) : kb_B p l e R s m args below meth c D ad cy A nL cells slots Q pc lv (kb_i a :: st) M := by
  intro H locs ls hM hP hS hl
  exact lv_if_lt X.1.1 X.1.2.1 hd ht (fun h => kt (by have h2 := kb_Jlt ha kb_rg0; rw [kb_J0] at h2; exact h2.mp h) H locs ls hM hP hS hl) (fun h => kf (by have h2 := kb_Jlt ha kb_rg0; rw [kb_J0] at h2; rw [h2] at h; omega) H locs ls hM hP hS hl)
theorem kb_if_ge (X : kb_X p s m c cc nL args Ts own D ad cy A) {a : Int} (ha : kb_rg a) {off : Int} {tgt : Nat} (hd : decode cc pc = .ok (.ifCond .ge off, 3)) (ht : (pc : Int) + off = (tgt : Int)) (kt : 0 ≤ a → kb_B p l e R s m args below meth c D ad cy A nL cells slots Q tgt lv st M) (kf : a < 0 → kb_B p l e R s m args below meth c D ad cy A nL cells slots Q (pc + 3) lv st M) : kb_B p l e R s m args below meth c D ad cy A nL cells slots Q pc lv (kb_i a :: st) M := by
  intro H locs ls hM hP hS hl
  exact lv_if_ge X.1.1 X.1.2.1 hd ht (fun h => kt (by have h2 := kb_Jle kb_rg0 ha; rw [kb_J0] at h2; exact h2.mp h) H locs ls hM hP hS hl) (fun h => kf (by have h2 := kb_Jle kb_rg0 ha; rw [kb_J0] at h2; rw [h2] at h; omega) H locs ls hM hP hS hl)
theorem kb_if_gt (X : kb_X p s m c cc nL args Ts own D ad cy A) {a : Int} (ha : kb_rg a) {off : Int} {tgt : Nat} (hd : decode cc pc = .ok (.ifCond .gt off, 3)) (ht : (pc : Int) + off = (tgt : Int)) (kt : 0 < a → kb_B p l e R s m args below meth c D ad cy A nL cells slots Q tgt lv st M) (kf : a ≤ 0 → kb_B p l e R s m args below meth c D ad cy A nL cells slots Q (pc + 3) lv st M) : kb_B p l e R s m args below meth c D ad cy A nL cells slots Q pc lv (kb_i a :: st) M := by
  intro H locs ls hM hP hS hl
  exact lv_if_gt X.1.1 X.1.2.1 hd ht (fun h => kt (by have h2 := kb_Jlt kb_rg0 ha; rw [kb_J0] at h2; exact h2.mp h) H locs ls hM hP hS hl) (fun h => kf (by have h2 := kb_Jlt kb_rg0 ha; rw [kb_J0] at h2; rw [h2] at h; omega) H locs ls hM hP hS hl)
theorem kb_if_le (X : kb_X p s m c cc nL args Ts own D ad cy A) {a : Int} (ha : kb_rg a) {off : Int} {tgt : Nat} (hd : decode cc pc = .ok (.ifCond .le off, 3)) (ht : (pc : Int) + off = (tgt : Int)) (kt : a ≤ 0 → kb_B p l e R s m args below meth c D ad cy A nL cells slots Q tgt lv st M) (kf : 0 < a → kb_B p l e R s m args below meth c D ad cy A nL cells slots Q (pc + 3) lv st M) : kb_B p l e R s m args below meth c D ad cy A nL cells slots Q pc lv (kb_i a :: st) M := by
  intro H locs ls hM hP hS hl
  exact lv_if_le X.1.1 X.1.2.1 hd ht (fun h => kt (by have h2 := kb_Jle ha kb_rg0; rw [kb_J0] at h2; exact h2.mp h) H locs ls hM hP hS hl) (fun h => kf (by have h2 := kb_Jle ha kb_rg0; rw [kb_J0] at h2; rw [h2] at h; omega) H locs ls hM hP hS hl)
theorem kb_ifb_eq (X : kb_X p s m c cc nL args Ts own D ad cy A) {q : Prop} [Decidable q] {off : Int} {tgt : Nat} (hd : decode cc pc = .ok (.ifCond .eq off, 3)) (ht : (pc : Int) + off = (tgt : Int)) (kt : ¬ q → kb_B p l e R s m args below meth c D ad cy A nL cells slots Q tgt lv st M) (kf : q → kb_B p l e R s m args below meth c D ad cy A nL cells slots Q (pc + 3) lv st M) : kb_B p l e R s m args below meth c D ad cy A nL cells slots Q pc lv (kb_i (kb_b q) :: st) M := by
  intro H locs ls hM hP hS hl
  exact kb_if_eq X (kb_brg q) hd ht (fun h => kt (kb_bz.mp h)) (fun h => kf (kb_bn.mp h)) H locs ls hM hP hS hl
theorem kb_ifb_ne (X : kb_X p s m c cc nL args Ts own D ad cy A) {q : Prop} [Decidable q] {off : Int} {tgt : Nat} (hd : decode cc pc = .ok (.ifCond .ne off, 3)) (ht : (pc : Int) + off = (tgt : Int)) (kt : q → kb_B p l e R s m args below meth c D ad cy A nL cells slots Q tgt lv st M) (kf : ¬ q → kb_B p l e R s m args below meth c D ad cy A nL cells slots Q (pc + 3) lv st M) : kb_B p l e R s m args below meth c D ad cy A nL cells slots Q pc lv (kb_i (kb_b q) :: st) M := by
  intro H locs ls hM hP hS hl
  exact kb_if_ne X (kb_brg q) hd ht (fun h => kt (kb_bn.mp h)) (fun h => kf (kb_bz.mp h)) H locs ls hM hP hS hl
theorem kb_lcmp_eq (X : kb_X p s m c cc nL args Ts own D ad cy A) {a b : Int} (ha : kb_rl a) (hb : kb_rl b) {off : Int} {tgt : Nat} (hd1 : decode cc pc = .ok (.lcmp, 1)) (hd : decode cc (pc + 1) = .ok (.ifCond .eq off, 3)) (ht : ((pc + 1 : Nat) : Int) + off = (tgt : Int)) (kt : a = b → kb_B p l e R s m args below meth c D ad cy A nL cells slots Q tgt lv st M) (kf : a ≠ b → kb_B p l e R s m args below meth c D ad cy A nL cells slots Q (pc + 4) lv st M) : kb_B p l e R s m args below meth c D ad cy A nL cells slots Q pc lv (kb_l b :: kb_l a :: st) M := by
  intro H locs ls hM hP hS hl
  refine W.lcmp X.1.1 X.1.2.1 hd1 ?_
  rw [kb_zJ a b ha hb]
  exact kb_if_eq X (kb_zrg a b) hd ht (fun h => kt (by unfold kb_z at h; split at h <;> (try split at h) <;> omega)) (fun h => kf (by unfold kb_z at h; split at h <;> (try split at h) <;> omega)) H locs ls hM hP hS hl
theorem kb_lcmp_ne (X : kb_X p s m c cc nL args Ts own D ad cy A) {a b : Int} (ha : kb_rl a) (hb : kb_rl b) {off : Int} {tgt : Nat} (hd1 : decode cc pc = .ok (.lcmp, 1)) (hd : decode cc (pc + 1) = .ok (.ifCond .ne off, 3)) (ht : ((pc + 1 : Nat) : Int) + off = (tgt : Int)) (kt : a ≠ b → kb_B p l e R s m args below meth c D ad cy A nL cells slots Q tgt lv st M) (kf : a = b → kb_B p l e R s m args below meth c D ad cy A nL cells slots Q (pc + 4) lv st M) : kb_B p l e R s m args below meth c D ad cy A nL cells slots Q pc lv (kb_l b :: kb_l a :: st) M := by
  intro H locs ls hM hP hS hl
  refine W.lcmp X.1.1 X.1.2.1 hd1 ?_
  rw [kb_zJ a b ha hb]
  exact kb_if_ne X (kb_zrg a b) hd ht (fun h => kt (by unfold kb_z at h; split at h <;> (try split at h) <;> omega)) (fun h => kf (by unfold kb_z at h; split at h <;> (try split at h) <;> omega)) H locs ls hM hP hS hl
theorem kb_lcmp_lt (X : kb_X p s m c cc nL args Ts own D ad cy A) {a b : Int} (ha : kb_rl a) (hb : kb_rl b) {off : Int} {tgt : Nat} (hd1 : decode cc pc = .ok (.lcmp, 1)) (hd : decode cc (pc + 1) = .ok (.ifCond .lt off, 3)) (ht : ((pc + 1 : Nat) : Int) + off = (tgt : Int)) (kt : a < b → kb_B p l e R s m args below meth c D ad cy A nL cells slots Q tgt lv st M) (kf : b ≤ a → kb_B p l e R s m args below meth c D ad cy A nL cells slots Q (pc + 4) lv st M) : kb_B p l e R s m args below meth c D ad cy A nL cells slots Q pc lv (kb_l b :: kb_l a :: st) M := by
  intro H locs ls hM hP hS hl
  refine W.lcmp X.1.1 X.1.2.1 hd1 ?_
  rw [kb_zJ a b ha hb]
  exact kb_if_lt X (kb_zrg a b) hd ht (fun h => kt (by unfold kb_z at h; split at h <;> (try split at h) <;> omega)) (fun h => kf (by unfold kb_z at h; split at h <;> (try split at h) <;> omega)) H locs ls hM hP hS hl
theorem kb_lcmp_ge (X : kb_X p s m c cc nL args Ts own D ad cy A) {a b : Int} (ha : kb_rl a) (hb : kb_rl b) {off : Int} {tgt : Nat} (hd1 : decode cc pc = .ok (.lcmp, 1)) (hd : decode cc (pc + 1) = .ok (.ifCond .ge off, 3)) (ht : ((pc + 1 : Nat) : Int) + off = (tgt : Int)) (kt : b ≤ a → kb_B p l e R s m args below meth c D ad cy A nL cells slots Q tgt lv st M) (kf : a < b → kb_B p l e R s m args below meth c D ad cy A nL cells slots Q (pc + 4) lv st M) : kb_B p l e R s m args below meth c D ad cy A nL cells slots Q pc lv (kb_l b :: kb_l a :: st) M := by
  intro H locs ls hM hP hS hl
  refine W.lcmp X.1.1 X.1.2.1 hd1 ?_
  rw [kb_zJ a b ha hb]
  exact kb_if_ge X (kb_zrg a b) hd ht (fun h => kt (by unfold kb_z at h; split at h <;> (try split at h) <;> omega)) (fun h => kf (by unfold kb_z at h; split at h <;> (try split at h) <;> omega)) H locs ls hM hP hS hl
theorem kb_lcmp_gt (X : kb_X p s m c cc nL args Ts own D ad cy A) {a b : Int} (ha : kb_rl a) (hb : kb_rl b) {off : Int} {tgt : Nat} (hd1 : decode cc pc = .ok (.lcmp, 1)) (hd : decode cc (pc + 1) = .ok (.ifCond .gt off, 3)) (ht : ((pc + 1 : Nat) : Int) + off = (tgt : Int)) (kt : b < a → kb_B p l e R s m args below meth c D ad cy A nL cells slots Q tgt lv st M) (kf : a ≤ b → kb_B p l e R s m args below meth c D ad cy A nL cells slots Q (pc + 4) lv st M) : kb_B p l e R s m args below meth c D ad cy A nL cells slots Q pc lv (kb_l b :: kb_l a :: st) M := by
  intro H locs ls hM hP hS hl
  refine W.lcmp X.1.1 X.1.2.1 hd1 ?_
  rw [kb_zJ a b ha hb]
  exact kb_if_gt X (kb_zrg a b) hd ht (fun h => kt (by unfold kb_z at h; split at h <;> (try split at h) <;> omega)) (fun h => kf (by unfold kb_z at h; split at h <;> (try split at h) <;> omega)) H locs ls hM hP hS hl
theorem kb_lcmp_le (X : kb_X p s m c cc nL args Ts own D ad cy A) {a b : Int} (ha : kb_rl a) (hb : kb_rl b) {off : Int} {tgt : Nat} (hd1 : decode cc pc = .ok (.lcmp, 1)) (hd : decode cc (pc + 1) = .ok (.ifCond .le off, 3)) (ht : ((pc + 1 : Nat) : Int) + off = (tgt : Int)) (kt : a ≤ b → kb_B p l e R s m args below meth c D ad cy A nL cells slots Q tgt lv st M) (kf : b < a → kb_B p l e R s m args below meth c D ad cy A nL cells slots Q (pc + 4) lv st M) : kb_B p l e R s m args below meth c D ad cy A nL cells slots Q pc lv (kb_l b :: kb_l a :: st) M := by
  intro H locs ls hM hP hS hl
  refine W.lcmp X.1.1 X.1.2.1 hd1 ?_
  rw [kb_zJ a b ha hb]
  exact kb_if_le X (kb_zrg a b) hd ht (fun h => kt (by unfold kb_z at h; split at h <;> (try split at h) <;> omega)) (fun h => kf (by unfold kb_z at h; split at h <;> (try split at h) <;> omega)) H locs ls hM hP hS hl
theorem kb_goto (X : kb_X p s m c cc nL args Ts own D ad cy A) {off : Int} {tgt : Nat} (hd : decode cc pc = .ok (.goto off, 3)) (ht : (pc : Int) + off = (tgt : Int)) (k : kb_B p l e R s m args below meth c D ad cy A nL cells slots Q tgt lv st M) : kb_B p l e R s m args below meth c D ad cy A nL cells slots Q pc lv st M := by
  intro H locs ls hM hP hS hl
  exact lv_goto X.1.1 X.1.2.1 hd ht (k H locs ls hM hP hS hl)
theorem kb_tabOut (X : kb_X p s m c cc nL args Ts own D ad cy A) {a dflt lo hi : Int} {offs : Array Int} {len tgt : Nat} (ha : kb_rg a) (hd : decode cc pc = .ok (.tableswitch dflt lo hi offs, len)) (h : a < lo ∨ hi < a) (ht : (pc : Int) + dflt = (tgt : Int)) (k : kb_B p l e R s m args below meth c D ad cy A nL cells slots Q tgt lv st M) : kb_B p l e R s m args below meth c D ad cy A nL cells slots Q pc lv (kb_i a :: st) M := by
  intro H locs ls hM hP hS hl
  exact lv_tableOut X.1.1 X.1.2.1 hd (by rw [kb_Ji ha]; exact h) ht (k H locs ls hM hP hS hl)
theorem kb_tabIn (X : kb_X p s m c cc nL args Ts own D ad cy A) {dflt lo hi : Int} {offs : Array Int} {len tgt : Nat} {off : Int} (a : Int) (ha : kb_rg a) (hd : decode cc pc = .ok (.tableswitch dflt lo hi offs, len)) (h1 : ¬ a < lo) (h2 : ¬ hi < a) (ho : offs[(a - lo).toNat]? = some off) (ht : (pc : Int) + off = (tgt : Int)) (k : kb_B p l e R s m args below meth c D ad cy A nL cells slots Q tgt lv st M) : kb_B p l e R s m args below meth c D ad cy A nL cells slots Q pc lv (kb_i a :: st) M := by
  intro H locs ls hM hP hS hl
  exact lv_tableIn X.1.1 X.1.2.1 hd (by rw [kb_Ji ha]; exact h1) (by rw [kb_Ji ha]; exact h2) (by rw [kb_Ji ha]; exact ho) ht (k H locs ls hM hP hS hl)
theorem kb_getI (X : kb_X p s m c cc nL args Ts own D ad cy A) {ref C : String} {T : u_T} {N ci index : Nat} (hin : ∀ w ∈ u_ws C T N, w ∈ Ts) (q k0 : Nat) {fl : List (Option Nat)} (hq : kb_sh[q]? = some (.inl (ci, fl))) (hc : vwCl[ci]? = some (C, T, N)) (hk : k0 < N) (hw : Cond.fieldLink own index ref (T k0).2.1 (T k0).2.2.1 ∈ Ts) (href : (T k0).1 = ref) (hf : fl[k0]? = some none) (hd : decode cc pc = .ok (.getfield index, 3)) (k : kb_B p l e R s m args below meth c D ad cy A nL cells slots Q (pc + 3) lv (kb_i (M q (k0 : Int)) :: st) M) : kb_B p l e R s m args below meth c D ad cy A nL cells slots Q pc lv (.ref (ad q) :: st) M := by
  intro H locs ls hM hP hS hl
  subst href
  exact va_get X.1.1 X.1.2.1 X.1.2.2.2.2 hin X.1.2.2.2.1 X.2.1 hP q (kb_wsat hq) hc k0 hk (X.1.2.2.2.2 _ hw) (fun _ h9 => h9) (kb_fvat hf) hd (k H locs ls hM hP hS hl)
theorem kb_getR (X : kb_X p s m c cc nL args Ts own D ad cy A) {ref C : String} {T : u_T} {N ci index : Nat} (hin : ∀ w ∈ u_ws C T N, w ∈ Ts) (q k0 : Nat) {fl : List (Option Nat)} (hq : kb_sh[q]? = some (.inl (ci, fl))) (hc : vwCl[ci]? = some (C, T, N)) (hk : k0 < N) (hw : Cond.fieldLink own index ref (T k0).2.1 (T k0).2.2.1 ∈ Ts) (href : (T k0).1 = ref) {j : Nat} (hf : fl[k0]? = some (some j)) (hd : decode cc pc = .ok (.getfield index, 3)) (k : kb_B p l e R s m args below meth c D ad cy A nL cells slots Q (pc + 3) lv (.ref (ad j) :: st) M) : kb_B p l e R s m args below meth c D ad cy A nL cells slots Q pc lv (.ref (ad q) :: st) M := by
  intro H locs ls hM hP hS hl
  subst href
  exact va_get X.1.1 X.1.2.1 X.1.2.2.2.2 hin X.1.2.2.2.1 X.2.1 hP q (kb_wsat hq) hc k0 hk (X.1.2.2.2.2 _ hw) (fun _ h9 => h9) (kb_fvat hf) hd (k H locs ls hM hP hS hl)
theorem kb_putI (X : kb_X p s m c cc nL args Ts own D ad cy A) {ref C : String} {T : u_T} {N ci index : Nat} (hin : ∀ w ∈ u_ws C T N, w ∈ Ts) (q k0 : Nat) {fl : List (Option Nat)} (hq : kb_sh[q]? = some (.inl (ci, fl))) (hc : vwCl[ci]? = some (C, T, N)) (hk : k0 < N) (hw : Cond.fieldLink own index ref (T k0).2.1 (T k0).2.2.1 ∈ Ts) (href : (T k0).1 = ref) (hf : fl[k0]? = some none) (ty0 : Nat → FieldType) (hty : ∀ k, k < N → parseFieldDescriptor (T k).2.2.1 = some (ty0 k)) (hnm : ∀ a, a < N → ∀ b, b < N → a ≠ b → (T a).2.1 ≠ (T b).2.1) (hfin : (T k0).2.2.2 = false) (hpd : parseFieldDescriptor (T k0).2.2.1 = some .int) {a : Int} (ha : kb_rg a) (hd : decode cc pc = .ok (.putfield index, 3)) (k : kb_B p l e R s m args below meth c D ad cy A nL cells slots Q (pc + 3) lv st (kb_wr M q (k0 : Int) a)) : kb_B p l e R s m args below meth c D ad cy A nL cells slots Q pc lv (kb_i a :: .ref (ad q) :: st) M := by
  intro H locs ls hM hP hS hl
  subst href
  refine va_put X.1.1 X.1.2.1 X.1.2.2.2.2 hin ty0 hty hnm X.1.2.2.2.1 X.2.1 hP (X.2.2.1 M) hS q (kb_wsat hq) hc k0 hk (X.1.2.2.2.2 _ hw) (fun _ h9 => h9) hfin hpd rfl rfl (by rw [List.length_mapIdx]; exact (List.getElem?_eq_some_iff.mp hf).1) hd (fun H1 locs1 hP1 _ hS1 => ?_)
  refine k H1 locs1 ls (kb_okwr hM ha) ?_ hS1 hl
  rw [← kb_wset hq (k0 : Int) a]
  have e1 := kb_fvset (ad := ad) (M := M) (q := q) (a := a) hf
  show va_P D vwCl ((kb_ws ad cy M).set q (ad q, .inr (ci, fl.mapIdx (kb_fv ad (kb_wr M q (k0 : Int) a q))))) H1
  rw [← e1]
  exact hP1
theorem kb_iald (X : kb_X p s m c cc nL args Ts own D ad cy A) (q : Nat) {n : Nat} {i : Int} (hq : kb_sh[q]? = some (.inr (0, n))) (hi : 0 ≤ i ∧ i < (n : Int)) (hn : n ≤ 65536) (hd : decode cc pc = .ok (.iaload, 1)) (k : kb_B p l e R s m args below meth c D ad cy A nL cells slots Q (pc + 1) lv (kb_i (M q i) :: st) M) : kb_B p l e R s m args below meth c D ad cy A nL cells slots Q pc lv (kb_i i :: .ref (ad q) :: st) M := by
  intro H locs ls hM hP hS hl
  have hr : kb_rg i := ⟨by omega, by omega⟩
  refine va_iald X.1.1 X.1.2.1 X.2.1 hP q 0 (kb_wsat hq) rfl (kb_Jin hr hi) hd ?_
  have e1 : kb_J (M q (((kb_J i).toNatClampNeg : Nat) : Int)) = kb_J (M q i) := by rw [kb_Jcl hr, Int.toNat_of_nonneg hi.1]
  show W p l e R s m args below meth c H locs cells slots Q (F0 m (pc + 1) ls (.int (kb_J (M q (((kb_J i).toNatClampNeg : Nat) : Int))) :: st))
  rw [e1]
  exact k H locs ls hM hP hS hl
theorem kb_zald (X : kb_X p s m c cc nL args Ts own D ad cy A) (q : Nat) {n : Nat} {i : Int} (hq : kb_sh[q]? = some (.inr (1, n))) (hi : 0 ≤ i ∧ i < (n : Int)) (hn : n ≤ 65536) (hd : decode cc pc = .ok (.baload, 1)) (k : kb_B p l e R s m args below meth c D ad cy A nL cells slots Q (pc + 1) lv (kb_i (M q i) :: st) M) : kb_B p l e R s m args below meth c D ad cy A nL cells slots Q pc lv (kb_i i :: .ref (ad q) :: st) M := by
  intro H locs ls hM hP hS hl
  have hr : kb_rg i := ⟨by omega, by omega⟩
  refine va_zald X.1.1 X.1.2.1 X.2.1 hP q 1 (kb_wsat hq) rfl (kb_Jin hr hi) hd ?_
  have e1 : kb_J (M q (((kb_J i).toNatClampNeg : Nat) : Int)) = kb_J (M q i) := by rw [kb_Jcl hr, Int.toNat_of_nonneg hi.1]
  show W p l e R s m args below meth c H locs cells slots Q (F0 m (pc + 1) ls (.int (kb_J (M q (((kb_J i).toNatClampNeg : Nat) : Int))) :: st))
  rw [e1]
  exact k H locs ls hM hP hS hl
theorem kb_alen (X : kb_X p s m c cc nL args Ts own D ad cy A) (q : Nat) {n : Nat} (hq : kb_sh[q]? = some (.inr (0, n))) (hn : n ≤ 65536) (hd : decode cc pc = .ok (.arraylength, 1)) (k : kb_B p l e R s m args below meth c D ad cy A nL cells slots Q (pc + 1) lv (kb_i (n : Int) :: st) M) : kb_B p l e R s m args below meth c D ad cy A nL cells slots Q pc lv (.ref (ad q) :: st) M := by
  intro H locs ls hM hP hS hl
  refine va_alen X.1.1 X.1.2.1 X.2.1 hP q 0 (kb_wsat hq) rfl rfl hd ?_
  have e1 : Int32.ofNat n = kb_J (n : Int) := Int32.ofInt_eq_ofNat.symm
  show W p l e R s m args below meth c H locs cells slots Q (F0 m (pc + 1) ls (.int (Int32.ofNat n) :: st))
  rw [e1]
  exact k H locs ls hM hP hS hl
theorem kb_iast (X : kb_X p s m c cc nL args Ts own D ad cy A) (q : Nat) {n : Nat} {i a : Int} (hq : kb_sh[q]? = some (.inr (0, n))) (hi : 0 ≤ i ∧ i < (n : Int)) (hn : n ≤ 65536) (ha : kb_rg a) (hd : decode cc pc = .ok (.iastore, 1)) (k : kb_B p l e R s m args below meth c D ad cy A nL cells slots Q (pc + 1) lv st (kb_wr M q i a)) : kb_B p l e R s m args below meth c D ad cy A nL cells slots Q pc lv (kb_i a :: kb_i i :: .ref (ad q) :: st) M := by
  intro H locs ls hM hP hS hl
  have hr : kb_rg i := ⟨by omega, by omega⟩
  refine va_iast X.1.1 X.1.2.1 X.2.1 hP (X.2.2.1 M) hS q 0 (kb_wsat hq) rfl (kb_Jin hr hi) hd (fun H1 locs1 hP1 _ hS1 => ?_)
  refine k H1 locs1 ls (kb_okwr hM ha) ?_ hS1 hl
  rw [← kb_wset hq i a]
  have e1 := kb_arset (M := M) (q := q) (a := a) hi.1
  show va_P D vwCl ((kb_ws ad cy M).set q (ad q, .inl (cy 0, n, .inl (fun k : Nat => kb_J (kb_wr M q i a q (k : Int)))))) H1
  rw [← e1]
  rw [kb_Jcl hr] at hP1
  exact hP1
theorem kb_zast (X : kb_X p s m c cc nL args Ts own D ad cy A) (q : Nat) {n : Nat} {i a : Int} (hq : kb_sh[q]? = some (.inr (1, n))) (hi : 0 ≤ i ∧ i < (n : Int)) (hn : n ≤ 65536) (ha : a = 0 ∨ a = 1) (hd : decode cc pc = .ok (.bastore, 1)) (k : kb_B p l e R s m args below meth c D ad cy A nL cells slots Q (pc + 1) lv st (kb_wr M q i a)) : kb_B p l e R s m args below meth c D ad cy A nL cells slots Q pc lv (kb_i a :: kb_i i :: .ref (ad q) :: st) M := by
  intro H locs ls hM hP hS hl
  have hr : kb_rg i := ⟨by omega, by omega⟩
  refine va_zast X.1.1 X.1.2.1 X.2.1 hP (X.2.2.1 M) hS q 1 (kb_wsat hq) rfl (kb_Jin hr hi) hd (fun H1 locs1 hP1 _ hS1 => ?_)
  refine k H1 locs1 ls (kb_okwr hM (by rcases ha with rfl | rfl <;> unfold kb_rg <;> omega)) ?_ hS1 hl
  rw [← kb_wset hq i a]
  have e1 := kb_arset (M := M) (q := q) (a := a) hi.1
  show va_P D vwCl ((kb_ws ad cy M).set q (ad q, .inl (cy 1, n, .inl (fun k : Nat => kb_J (kb_wr M q i a q (k : Int)))))) H1
  rw [← e1]
  rw [kb_Jcl hr] at hP1
  rw [show vp_nar .boolean (kb_J a) = kb_J a from by rcases ha with rfl | rfl <;> decide] at hP1
  exact hP1
theorem kb_mmax (X : kb_X p s m c cc nL args Ts own D ad cy A) {a b : Int} (ha : kb_rg a) (hb : kb_rg b) {index : Nat} (hlink : Cond.methodLink own index Lib.Math.max.name ∈ Ts) (hstat : Cond.static Lib.Math.max.name ∈ Ts) (hini : Cond.initialized "java/lang/Math" ∈ Ts) (hcode : Cond.code Lib.Math.max.name Lib.Math.max.code 2 (some .int) ∈ Ts) (hframes : 1 ≤ R.frames) (hlocals : (st.map fun v => v.category).sum + 13 ≤ R.locals) (hc : cells ≤ R.cells) (hs : slots ≤ R.slots) (hd : decode cc pc = .ok (.invokestatic index, 3)) (k : kb_B p l e R s m args below meth c D ad cy A nL cells slots Q (pc + 3) lv (kb_i (max a b) :: st) M) : kb_B p l e R s m args below meth c D ad cy A nL cells slots Q pc lv (kb_i b :: kb_i a :: st) M := by
  intro H locs ls hM hP hS hl
  refine va_mmax X.1.1 X.1.2.1 (by rw [X.1.2.2.1]; exact hl.1.symm) X.1.2.2.2.1 (X.1.2.2.2.2 _ hlink) (X.1.2.2.2.2 _ hstat) (X.1.2.2.2.2 _ hini) (X.1.2.2.2.2 _ hcode) hframes hlocals hc hs hd ?_
  rw [← kb_Jmax ha hb]
  exact k H locs ls hM hP hS hl
theorem kb_mmin (X : kb_X p s m c cc nL args Ts own D ad cy A) {a b : Int} (ha : kb_rg a) (hb : kb_rg b) {index : Nat} (hlink : Cond.methodLink own index Lib.Math.min.name ∈ Ts) (hstat : Cond.static Lib.Math.min.name ∈ Ts) (hini : Cond.initialized "java/lang/Math" ∈ Ts) (hcode : Cond.code Lib.Math.min.name Lib.Math.min.code 2 (some .int) ∈ Ts) (hframes : 1 ≤ R.frames) (hlocals : (st.map fun v => v.category).sum + 13 ≤ R.locals) (hc : cells ≤ R.cells) (hs : slots ≤ R.slots) (hd : decode cc pc = .ok (.invokestatic index, 3)) (k : kb_B p l e R s m args below meth c D ad cy A nL cells slots Q (pc + 3) lv (kb_i (min a b) :: st) M) : kb_B p l e R s m args below meth c D ad cy A nL cells slots Q pc lv (kb_i b :: kb_i a :: st) M := by
  intro H locs ls hM hP hS hl
  refine va_mmin X.1.1 X.1.2.1 (by rw [X.1.2.2.1]; exact hl.1.symm) X.1.2.2.2.1 (X.1.2.2.2.2 _ hlink) (X.1.2.2.2.2 _ hstat) (X.1.2.2.2.2 _ hini) (X.1.2.2.2.2 _ hcode) hframes hlocals hc hs hd ?_
  rw [← kb_Jmin ha hb]
  exact k H locs ls hM hP hS hl
theorem kb_mabs (X : kb_X p s m c cc nL args Ts own D ad cy A) {a : Int} (ha : kb_rg a) (hb : a ≠ -2147483648) {index : Nat} (hlink : Cond.methodLink own index Lib.Math.abs.name ∈ Ts) (hstat : Cond.static Lib.Math.abs.name ∈ Ts) (hini : Cond.initialized "java/lang/Math" ∈ Ts) (hcode : Cond.code Lib.Math.abs.name Lib.Math.abs.code 1 (some .int) ∈ Ts) (hframes : 1 ≤ R.frames) (hlocals : (st.map fun v => v.category).sum + 13 ≤ R.locals) (hc : cells ≤ R.cells) (hs : slots ≤ R.slots) (hd : decode cc pc = .ok (.invokestatic index, 3)) (k : kb_B p l e R s m args below meth c D ad cy A nL cells slots Q (pc + 3) lv (kb_i (max a (-a)) :: st) M) : kb_B p l e R s m args below meth c D ad cy A nL cells slots Q pc lv (kb_i a :: st) M := by
  intro H locs ls hM hP hS hl
  refine va_mabs X.1.1 X.1.2.1 (by rw [X.1.2.2.1]; exact hl.1.symm) X.1.2.2.2.1 (X.1.2.2.2.2 _ hlink) (X.1.2.2.2.2 _ hstat) (X.1.2.2.2.2 _ hini) (X.1.2.2.2.2 _ hcode) hframes hlocals hc hs hd ?_
  rw [← kb_Jabs ha hb]
  exact k H locs ls hM hP hS hl
theorem kb_cVi (X : kb_X p s m c cc nL args Ts own D ad cy A) {y : MethodName} {ws ws' : List Cond} {fr lo index maxL n : Nat} {bytes : ByteArray} {ret : FieldType} {M' : kb_M} {r : Int} (As : List Value) (q : Nat) {ci : Nat} {fl : List (Option Nat)} {C : String} {T : u_T} {N : Nat} (hq : kb_sh[q]? = some (.inl (ci, fl))) (hc : vwCl[ci]? = some (C, T, N)) {rest stk : List Value} (hM9 : kb_Ci l D ad cy y ws fr lo (.ref (ad q) :: As) M r M') (hG : GoodIn Ts (wsV own index C y ws)) (hws : ws = Cond.code y bytes maxL (some ret) :: ws') (hy : y.cls = C ∧ y.cls ≠ "java/lang/invoke/MethodHandle" ∧ y.cls ≠ "java/lang/invoke/VarHandle" ∧ (parseMethodDescriptor y.desc).map (fun d => d.parameters.length) = some n) (hR : fr + 1 ≤ R.frames ∧ 8 + (maxL + 11) + lo ≤ R.locals) (hn : As.length = n) (hcat : (rest.map fun v => v.category).sum ≤ 8) (hf : cells + 0 ≤ R.cells ∧ slots + 0 ≤ R.slots) (hd : decode cc pc = .ok (.invokevirtual index, 3)) (hstk : stk = (As.reverse ++ .ref (ad q) :: rest)) (k : kb_B p l e R s m args below meth c D ad cy A nL cells slots Q (pc + 3) lv (kb_i r :: rest) M') : kb_B p l e R s m args below meth c D ad cy A nL cells slots Q pc lv stk M := by
  intro H locs ls hM hP hS hl
  subst hstk
  have hAs : ∀ q, kb_A ad H.size q → A q := by
    intro q hq
    rcases hq with ⟨k0, h1, h2⟩ | hq
    · have h3 := (X.2.2.1 M).2 k0
      have hlen : k0 < kb_sh.length := h1
      have h4 := h3 _ (kb_wsat (ad := ad) (cy := cy) (M := M) (List.getElem?_eq_getElem hlen))
      rw [← h2]
      exact h4
    · exact X.2.2.2.1 q (Nat.le_trans hS.1 hq)
  have hblind : FrameBlind (va_Pc (.ref (ad q) :: As) (kb_st D ad cy H.size M)) := fun a U g mk q => ⟨q.1, q.2.1, q.2.2.1, q.2.2.2.1, va_K.moved (u := U) (U := U.calling g mk a) (Vm.Alike.refl U.vm) q.2.2.2.2.1, q.2.2.2.2.2.1, va_Nw.same rfl (rfl : U.vm = (U.calling g mk a).vm) q.2.2.2.2.2.2⟩
  have hgo : ∀ U : State, U.heap = H → s.WarmedH U.vm → va_Pc (.ref (ad q) :: As) (kb_st D ad cy H.size M) (.ref (ad q) :: As).toArray U := fun U hU hW => ⟨rfl, by rw [hU], hM, by rw [hU]; exact hP, va_K.moved hW.alike X.2.1, (X.2.2.1 M).weaken (fun _ _ _ _ => trivial), va_Nw.warmM hW X.2.2.2.2⟩
  refine va_calli (va_runV (As := As) (rest := rest) X.1 (hM9 H.size) (cwV n X.1.2.2.2.2 hG hws rfl rfl hy hR) ⟨hblind, va_recv X.2.1 hP hc (kb_wsat hq), hgo⟩ rfl hn hl.1 rfl (lv_room hcat) hd hf) hS (fun q _ h => hAs q h) hAs (fun r1 u t H1 locs1 ht hvm hw hB hz1 hk1 hS1 => ?_)
  subst hw
  exact k H1 locs1 ls hB.1 (by rw [← ht]; exact hB.2) hS1 hl
theorem kb_cSi (X : kb_X p s m c cc nL args Ts own D ad cy A) {y : MethodName} {ws ws' : List Cond} {fr lo index maxL n : Nat} {bytes : ByteArray} {ret : FieldType} {M' : kb_M} {r : Int} (As : List Value) {rest stk : List Value} (hM9 : kb_Ci l D ad cy y ws fr lo As M r M') (hG : GoodIn Ts (va_wsS own index y ws)) (hws : ws = Cond.code y bytes maxL (some ret) :: ws') (hy : y.cls ≠ "java/lang/invoke/MethodHandle" ∧ y.cls ≠ "java/lang/invoke/VarHandle" ∧ (parseMethodDescriptor y.desc).map (fun d => d.parameters.length) = some n) (hR : fr + 1 ≤ R.frames ∧ 8 + (maxL + 11) + lo ≤ R.locals) (hn : As.length = n) (hcat : (rest.map fun v => v.category).sum ≤ 8) (hf : cells + 0 ≤ R.cells ∧ slots + 0 ≤ R.slots) (hd : decode cc pc = .ok (.invokestatic index, 3)) (hstk : stk = (As.reverse ++ rest)) (k : kb_B p l e R s m args below meth c D ad cy A nL cells slots Q (pc + 3) lv (kb_i r :: rest) M') : kb_B p l e R s m args below meth c D ad cy A nL cells slots Q pc lv stk M := by
  intro H locs ls hM hP hS hl
  subst hstk
  have hAs : ∀ q, kb_A ad H.size q → A q := by
    intro q hq
    rcases hq with ⟨k0, h1, h2⟩ | hq
    · have h3 := (X.2.2.1 M).2 k0
      have hlen : k0 < kb_sh.length := h1
      have h4 := h3 _ (kb_wsat (ad := ad) (cy := cy) (M := M) (List.getElem?_eq_getElem hlen))
      rw [← h2]
      exact h4
    · exact X.2.2.2.1 q (Nat.le_trans hS.1 hq)
  have hblind : FrameBlind (va_Pc As (kb_st D ad cy H.size M)) := fun a U g mk q => ⟨q.1, q.2.1, q.2.2.1, q.2.2.2.1, va_K.moved (u := U) (U := U.calling g mk a) (Vm.Alike.refl U.vm) q.2.2.2.2.1, q.2.2.2.2.2.1, va_Nw.same rfl (rfl : U.vm = (U.calling g mk a).vm) q.2.2.2.2.2.2⟩
  have hgo : ∀ U : State, U.heap = H → s.WarmedH U.vm → va_Pc As (kb_st D ad cy H.size M) As.toArray U := fun U hU hW => ⟨rfl, by rw [hU], hM, by rw [hU]; exact hP, va_K.moved hW.alike X.2.1, (X.2.2.1 M).weaken (fun _ _ _ _ => trivial), va_Nw.warmM hW X.2.2.2.2⟩
  refine va_calli (va_runS (As := As) (rest := rest) X.1 (hM9 H.size) (va_cwS n X.1.2.2.2.2 hG hws rfl rfl hy hR) ⟨hblind, hgo⟩ rfl hn hl.1 rfl (lv_room hcat) hd hf) hS (fun q _ h => hAs q h) hAs (fun r1 u t H1 locs1 ht hvm hw hB hz1 hk1 hS1 => ?_)
  subst hw
  exact k H1 locs1 ls hB.1 (by rw [← ht]; exact hB.2) hS1 hl
theorem kb_cVl (X : kb_X p s m c cc nL args Ts own D ad cy A) {y : MethodName} {ws ws' : List Cond} {fr lo index maxL n : Nat} {bytes : ByteArray} {ret : FieldType} {M' : kb_M} {r : Int} (As : List Value) (q : Nat) {ci : Nat} {fl : List (Option Nat)} {C : String} {T : u_T} {N : Nat} (hq : kb_sh[q]? = some (.inl (ci, fl))) (hc : vwCl[ci]? = some (C, T, N)) {rest stk : List Value} (hM9 : kb_Cl l D ad cy y ws fr lo (.ref (ad q) :: As) M r M') (hG : GoodIn Ts (wsV own index C y ws)) (hws : ws = Cond.code y bytes maxL (some ret) :: ws') (hy : y.cls = C ∧ y.cls ≠ "java/lang/invoke/MethodHandle" ∧ y.cls ≠ "java/lang/invoke/VarHandle" ∧ (parseMethodDescriptor y.desc).map (fun d => d.parameters.length) = some n) (hR : fr + 1 ≤ R.frames ∧ 8 + (maxL + 11) + lo ≤ R.locals) (hn : As.length = n) (hcat : (rest.map fun v => v.category).sum ≤ 8) (hf : cells + 0 ≤ R.cells ∧ slots + 0 ≤ R.slots) (hd : decode cc pc = .ok (.invokevirtual index, 3)) (hstk : stk = (As.reverse ++ .ref (ad q) :: rest)) (k : kb_B p l e R s m args below meth c D ad cy A nL cells slots Q (pc + 3) lv (kb_l r :: rest) M') : kb_B p l e R s m args below meth c D ad cy A nL cells slots Q pc lv stk M := by
  intro H locs ls hM hP hS hl
  subst hstk
  have hAs : ∀ q, kb_A ad H.size q → A q := by
    intro q hq
    rcases hq with ⟨k0, h1, h2⟩ | hq
    · have h3 := (X.2.2.1 M).2 k0
      have hlen : k0 < kb_sh.length := h1
      have h4 := h3 _ (kb_wsat (ad := ad) (cy := cy) (M := M) (List.getElem?_eq_getElem hlen))
      rw [← h2]
      exact h4
    · exact X.2.2.2.1 q (Nat.le_trans hS.1 hq)
  have hblind : FrameBlind (va_Pc (.ref (ad q) :: As) (kb_st D ad cy H.size M)) := fun a U g mk q => ⟨q.1, q.2.1, q.2.2.1, q.2.2.2.1, va_K.moved (u := U) (U := U.calling g mk a) (Vm.Alike.refl U.vm) q.2.2.2.2.1, q.2.2.2.2.2.1, va_Nw.same rfl (rfl : U.vm = (U.calling g mk a).vm) q.2.2.2.2.2.2⟩
  have hgo : ∀ U : State, U.heap = H → s.WarmedH U.vm → va_Pc (.ref (ad q) :: As) (kb_st D ad cy H.size M) (.ref (ad q) :: As).toArray U := fun U hU hW => ⟨rfl, by rw [hU], hM, by rw [hU]; exact hP, va_K.moved hW.alike X.2.1, (X.2.2.1 M).weaken (fun _ _ _ _ => trivial), va_Nw.warmM hW X.2.2.2.2⟩
  refine va_calll (va_runV (As := As) (rest := rest) X.1 (hM9 H.size) (cwV n X.1.2.2.2.2 hG hws rfl rfl hy hR) ⟨hblind, va_recv X.2.1 hP hc (kb_wsat hq), hgo⟩ rfl hn hl.1 rfl (lv_room hcat) hd hf) hS (fun q _ h => hAs q h) hAs (fun r1 u t H1 locs1 ht hvm hw hB hz1 hk1 hS1 => ?_)
  subst hw
  exact k H1 locs1 ls hB.1 (by rw [← ht]; exact hB.2) hS1 hl
theorem kb_cSl (X : kb_X p s m c cc nL args Ts own D ad cy A) {y : MethodName} {ws ws' : List Cond} {fr lo index maxL n : Nat} {bytes : ByteArray} {ret : FieldType} {M' : kb_M} {r : Int} (As : List Value) {rest stk : List Value} (hM9 : kb_Cl l D ad cy y ws fr lo As M r M') (hG : GoodIn Ts (va_wsS own index y ws)) (hws : ws = Cond.code y bytes maxL (some ret) :: ws') (hy : y.cls ≠ "java/lang/invoke/MethodHandle" ∧ y.cls ≠ "java/lang/invoke/VarHandle" ∧ (parseMethodDescriptor y.desc).map (fun d => d.parameters.length) = some n) (hR : fr + 1 ≤ R.frames ∧ 8 + (maxL + 11) + lo ≤ R.locals) (hn : As.length = n) (hcat : (rest.map fun v => v.category).sum ≤ 8) (hf : cells + 0 ≤ R.cells ∧ slots + 0 ≤ R.slots) (hd : decode cc pc = .ok (.invokestatic index, 3)) (hstk : stk = (As.reverse ++ rest)) (k : kb_B p l e R s m args below meth c D ad cy A nL cells slots Q (pc + 3) lv (kb_l r :: rest) M') : kb_B p l e R s m args below meth c D ad cy A nL cells slots Q pc lv stk M := by
  intro H locs ls hM hP hS hl
  subst hstk
  have hAs : ∀ q, kb_A ad H.size q → A q := by
    intro q hq
    rcases hq with ⟨k0, h1, h2⟩ | hq
    · have h3 := (X.2.2.1 M).2 k0
      have hlen : k0 < kb_sh.length := h1
      have h4 := h3 _ (kb_wsat (ad := ad) (cy := cy) (M := M) (List.getElem?_eq_getElem hlen))
      rw [← h2]
      exact h4
    · exact X.2.2.2.1 q (Nat.le_trans hS.1 hq)
  have hblind : FrameBlind (va_Pc As (kb_st D ad cy H.size M)) := fun a U g mk q => ⟨q.1, q.2.1, q.2.2.1, q.2.2.2.1, va_K.moved (u := U) (U := U.calling g mk a) (Vm.Alike.refl U.vm) q.2.2.2.2.1, q.2.2.2.2.2.1, va_Nw.same rfl (rfl : U.vm = (U.calling g mk a).vm) q.2.2.2.2.2.2⟩
  have hgo : ∀ U : State, U.heap = H → s.WarmedH U.vm → va_Pc As (kb_st D ad cy H.size M) As.toArray U := fun U hU hW => ⟨rfl, by rw [hU], hM, by rw [hU]; exact hP, va_K.moved hW.alike X.2.1, (X.2.2.1 M).weaken (fun _ _ _ _ => trivial), va_Nw.warmM hW X.2.2.2.2⟩
  refine va_calll (va_runS (As := As) (rest := rest) X.1 (hM9 H.size) (va_cwS n X.1.2.2.2.2 hG hws rfl rfl hy hR) ⟨hblind, hgo⟩ rfl hn hl.1 rfl (lv_room hcat) hd hf) hS (fun q _ h => hAs q h) hAs (fun r1 u t H1 locs1 ht hvm hw hB hz1 hk1 hS1 => ?_)
  subst hw
  exact k H1 locs1 ls hB.1 (by rw [← ht]; exact hB.2) hS1 hl
theorem kb_cNl (X : kb_X p s m c cc nL args Ts own D ad cy A) {y : MethodName} {ws ws' : List Cond} {fr lo index maxL n : Nat} {bytes : ByteArray} {ret : FieldType} {M' : kb_M} {r : Int} (As : List Value) {host : String} (hnw : va_Nw (.methodLinkNest own index y host) s) (hst : Cond.static y ∈ Ts) (hini : Cond.initialized y.cls ∈ Ts) {rest stk : List Value} (hM9 : kb_Cl l D ad cy y ws fr lo As M r M') (hG : GoodIn Ts ws) (hws : ws = Cond.code y bytes maxL (some ret) :: ws') (hy : y.cls ≠ "java/lang/invoke/MethodHandle" ∧ y.cls ≠ "java/lang/invoke/VarHandle" ∧ (parseMethodDescriptor y.desc).map (fun d => d.parameters.length) = some n) (hR : fr + 1 ≤ R.frames ∧ 8 + (maxL + 11) + lo ≤ R.locals) (hn : As.length = n) (hcat : (rest.map fun v => v.category).sum ≤ 8) (hf : cells + 0 ≤ R.cells ∧ slots + 0 ≤ R.slots) (hd : decode cc pc = .ok (.invokestatic index, 3)) (hstk : stk = (As.reverse ++ rest)) (k : kb_B p l e R s m args below meth c D ad cy A nL cells slots Q (pc + 3) lv (kb_l r :: rest) M') : kb_B p l e R s m args below meth c D ad cy A nL cells slots Q pc lv stk M := by
  intro H locs ls hM hP hS hl
  subst hstk
  have hAs : ∀ q, kb_A ad H.size q → A q := by
    intro q hq
    rcases hq with ⟨k0, h1, h2⟩ | hq
    · have h3 := (X.2.2.1 M).2 k0
      have hlen : k0 < kb_sh.length := h1
      have h4 := h3 _ (kb_wsat (ad := ad) (cy := cy) (M := M) (List.getElem?_eq_getElem hlen))
      rw [← h2]
      exact h4
    · exact X.2.2.2.1 q (Nat.le_trans hS.1 hq)
  have hblind : FrameBlind (va_Pc As (kb_st D ad cy H.size M)) := fun a U g mk q => ⟨q.1, q.2.1, q.2.2.1, q.2.2.2.1, va_K.moved (u := U) (U := U.calling g mk a) (Vm.Alike.refl U.vm) q.2.2.2.2.1, q.2.2.2.2.2.1, va_Nw.same rfl (rfl : U.vm = (U.calling g mk a).vm) q.2.2.2.2.2.2⟩
  have hgo : ∀ U : State, U.heap = H → s.WarmedH U.vm → va_Pc As (kb_st D ad cy H.size M) As.toArray U := fun U hU hW => ⟨rfl, by rw [hU], hM, by rw [hU]; exact hP, va_K.moved hW.alike X.2.1, (X.2.2.1 M).weaken (fun _ _ _ _ => trivial), va_Nw.warmM hW X.2.2.2.2⟩
  refine va_calll (va_runSN (As := As) (rest := rest) X.1 (hM9 H.size) ⟨va_cnB n X.1.2.2.2.2 hG hws rfl rfl hnw (X.1.2.2.2.2 _ hini) hy hR, X.1.2.2.2.2 _ hst, trivial⟩ ⟨hblind, hgo⟩ rfl hn hl.1 rfl (lv_room hcat) hd hf) hS (fun q _ h => hAs q h) hAs (fun r1 u t H1 locs1 ht hvm hw hB hz1 hk1 hS1 => ?_)
  subst hw
  exact k H1 locs1 ls hB.1 (by rw [← ht]; exact hB.2) hS1 hl
theorem kb_cVv (X : kb_X p s m c cc nL args Ts own D ad cy A) {y : MethodName} {ws ws' : List Cond} {fr lo index maxL n : Nat} {bytes : ByteArray} {M' : kb_M} (As : List Value) (q : Nat) {ci : Nat} {fl : List (Option Nat)} {C : String} {T : u_T} {N : Nat} (hq : kb_sh[q]? = some (.inl (ci, fl))) (hc : vwCl[ci]? = some (C, T, N)) {rest stk : List Value} (hM9 : kb_Cv l D ad cy y ws fr lo (.ref (ad q) :: As) M M') (hG : GoodIn Ts (wsV own index C y ws)) (hws : ws = Cond.code y bytes maxL none :: ws') (hy : y.cls = C ∧ y.cls ≠ "java/lang/invoke/MethodHandle" ∧ y.cls ≠ "java/lang/invoke/VarHandle" ∧ (parseMethodDescriptor y.desc).map (fun d => d.parameters.length) = some n) (hR : fr + 1 ≤ R.frames ∧ 8 + (maxL + 11) + lo ≤ R.locals) (hn : As.length = n) (hcat : (rest.map fun v => v.category).sum ≤ 8) (hf : cells + 0 ≤ R.cells ∧ slots + 0 ≤ R.slots) (hd : decode cc pc = .ok (.invokevirtual index, 3)) (hstk : stk = (As.reverse ++ .ref (ad q) :: rest)) (k : kb_B p l e R s m args below meth c D ad cy A nL cells slots Q (pc + 3) lv rest M') : kb_B p l e R s m args below meth c D ad cy A nL cells slots Q pc lv stk M := by
  intro H locs ls hM hP hS hl
  subst hstk
  have hAs : ∀ q, kb_A ad H.size q → A q := by
    intro q hq
    rcases hq with ⟨k0, h1, h2⟩ | hq
    · have h3 := (X.2.2.1 M).2 k0
      have hlen : k0 < kb_sh.length := h1
      have h4 := h3 _ (kb_wsat (ad := ad) (cy := cy) (M := M) (List.getElem?_eq_getElem hlen))
      rw [← h2]
      exact h4
    · exact X.2.2.2.1 q (Nat.le_trans hS.1 hq)
  have hblind : FrameBlind (va_Pc (.ref (ad q) :: As) (kb_st D ad cy H.size M)) := fun a U g mk q => ⟨q.1, q.2.1, q.2.2.1, q.2.2.2.1, va_K.moved (u := U) (U := U.calling g mk a) (Vm.Alike.refl U.vm) q.2.2.2.2.1, q.2.2.2.2.2.1, va_Nw.same rfl (rfl : U.vm = (U.calling g mk a).vm) q.2.2.2.2.2.2⟩
  have hgo : ∀ U : State, U.heap = H → s.WarmedH U.vm → va_Pc (.ref (ad q) :: As) (kb_st D ad cy H.size M) (.ref (ad q) :: As).toArray U := fun U hU hW => ⟨rfl, by rw [hU], hM, by rw [hU]; exact hP, va_K.moved hW.alike X.2.1, (X.2.2.1 M).weaken (fun _ _ _ _ => trivial), va_Nw.warmM hW X.2.2.2.2⟩
  refine va_callv (va_runV (As := As) (rest := rest) X.1 (hM9 H.size) (cwV n X.1.2.2.2.2 hG hws rfl rfl hy hR) ⟨hblind, va_recv X.2.1 hP hc (kb_wsat hq), hgo⟩ rfl hn hl.1 rfl (lv_room hcat) hd hf) hS (fun q _ h => hAs q h) hAs (fun u t H1 locs1 ht hvm hw hB hz1 hk1 hS1 => ?_)
  exact k H1 locs1 ls hB.1 (by rw [← ht]; exact hB.2) hS1 hl
theorem kb_cSv (X : kb_X p s m c cc nL args Ts own D ad cy A) {y : MethodName} {ws ws' : List Cond} {fr lo index maxL n : Nat} {bytes : ByteArray} {M' : kb_M} (As : List Value) {rest stk : List Value} (hM9 : kb_Cv l D ad cy y ws fr lo As M M') (hG : GoodIn Ts (va_wsS own index y ws)) (hws : ws = Cond.code y bytes maxL none :: ws') (hy : y.cls ≠ "java/lang/invoke/MethodHandle" ∧ y.cls ≠ "java/lang/invoke/VarHandle" ∧ (parseMethodDescriptor y.desc).map (fun d => d.parameters.length) = some n) (hR : fr + 1 ≤ R.frames ∧ 8 + (maxL + 11) + lo ≤ R.locals) (hn : As.length = n) (hcat : (rest.map fun v => v.category).sum ≤ 8) (hf : cells + 0 ≤ R.cells ∧ slots + 0 ≤ R.slots) (hd : decode cc pc = .ok (.invokestatic index, 3)) (hstk : stk = (As.reverse ++ rest)) (k : kb_B p l e R s m args below meth c D ad cy A nL cells slots Q (pc + 3) lv rest M') : kb_B p l e R s m args below meth c D ad cy A nL cells slots Q pc lv stk M := by
  intro H locs ls hM hP hS hl
  subst hstk
  have hAs : ∀ q, kb_A ad H.size q → A q := by
    intro q hq
    rcases hq with ⟨k0, h1, h2⟩ | hq
    · have h3 := (X.2.2.1 M).2 k0
      have hlen : k0 < kb_sh.length := h1
      have h4 := h3 _ (kb_wsat (ad := ad) (cy := cy) (M := M) (List.getElem?_eq_getElem hlen))
      rw [← h2]
      exact h4
    · exact X.2.2.2.1 q (Nat.le_trans hS.1 hq)
  have hblind : FrameBlind (va_Pc As (kb_st D ad cy H.size M)) := fun a U g mk q => ⟨q.1, q.2.1, q.2.2.1, q.2.2.2.1, va_K.moved (u := U) (U := U.calling g mk a) (Vm.Alike.refl U.vm) q.2.2.2.2.1, q.2.2.2.2.2.1, va_Nw.same rfl (rfl : U.vm = (U.calling g mk a).vm) q.2.2.2.2.2.2⟩
  have hgo : ∀ U : State, U.heap = H → s.WarmedH U.vm → va_Pc As (kb_st D ad cy H.size M) As.toArray U := fun U hU hW => ⟨rfl, by rw [hU], hM, by rw [hU]; exact hP, va_K.moved hW.alike X.2.1, (X.2.2.1 M).weaken (fun _ _ _ _ => trivial), va_Nw.warmM hW X.2.2.2.2⟩
  refine va_callv (va_runS (As := As) (rest := rest) X.1 (hM9 H.size) (va_cwS n X.1.2.2.2.2 hG hws rfl rfl hy hR) ⟨hblind, hgo⟩ rfl hn hl.1 rfl (lv_room hcat) hd hf) hS (fun q _ h => hAs q h) hAs (fun u t H1 locs1 ht hvm hw hB hz1 hk1 hS1 => ?_)
  exact k H1 locs1 ls hB.1 (by rw [← ht]; exact hB.2) hS1 hl
end kb_rows
section kb_ends
variable {p : Program} {l : Launch} {e : Env} {R : Room} {s : State} {m : MethodId} {args : Array Value} {below : List Frame} {meth : Method} {c : Code} {D : va_G} {ad : Nat → Nat} {cy : Nat → ClassId} {nL : Nat}
variable {cc : ByteArray} {own : String} {Ts : List Cond} {pc : Nat} {lv : List (Nat × Value)} {st : List Value} {M : kb_M} {sz : Nat}
theorem kb_iret (X : kb_X p s m c cc nL args Ts own D ad cy (kb_A ad s.heap.size)) (hr : meth.sig.returnType = some .int) (hlocks : meth.locks = false) {a r : Int} {M' : kb_M} (hd : decode cc pc = .ok (.ireturn, 1)) (ha : a = r) (hm : M = M') : kb_B p l e R s m args below meth c D ad cy (kb_A ad s.heap.size) nL 0 0 (MQ below (va_Qi (fun (v : Int32) (_ : Unit) => v = kb_J r) (fun _ t => kb_en2 D ad cy M' t) (kb_A ad s.heap.size)) args s 0 0 (kb_A ad s.heap.size)) pc lv [kb_i a] M := by
  intro H locs ls hM hP hS hl
  subst ha hm
  exact W.iret X.1.1 X.1.2.1 hr (fun t ht hW => ⟨⟨_, (), rfl, rfl, hM, by rw [ht]; exact hP⟩, hS.F ht⟩) hS.2.2 hd hlocks
theorem kb_lret (X : kb_X p s m c cc nL args Ts own D ad cy (kb_A ad s.heap.size)) (hr : meth.sig.returnType = some .long) (hlocks : meth.locks = false) {a r : Int} {M' : kb_M} (hd : decode cc pc = .ok (.lreturn, 1)) (ha : a = r) (hm : M = M') : kb_B p l e R s m args below meth c D ad cy (kb_A ad s.heap.size) nL 0 0 (MQ below (va_Ql (fun (v : Int64) (_ : Unit) => v = kb_L r) (fun _ t => kb_en2 D ad cy M' t) (kb_A ad s.heap.size)) args s 0 0 (kb_A ad s.heap.size)) pc lv [kb_l a] M := by
  intro H locs ls hM hP hS hl
  subst ha hm
  exact W.lret X.1.1 X.1.2.1 hr (fun t ht hW => ⟨⟨_, (), rfl, rfl, hM, by rw [ht]; exact hP⟩, hS.F ht⟩) hS.2.2 hd hlocks
theorem kb_zret (X : kb_X p s m c cc nL args Ts own D ad cy (kb_A ad s.heap.size)) (hr : meth.sig.returnType = some .boolean) (hlocks : meth.locks = false) {a r : Int} {M' : kb_M} (h01 : a = 0 ∨ a = 1) (hd : decode cc pc = .ok (.ireturn, 1)) (ha : a = r) (hm : M = M') : kb_B p l e R s m args below meth c D ad cy (kb_A ad s.heap.size) nL 0 0 (MQ below (va_Qi (fun (v : Int32) (_ : Unit) => v = kb_J r) (fun _ t => kb_en2 D ad cy M' t) (kb_A ad s.heap.size)) args s 0 0 (kb_A ad s.heap.size)) pc lv [kb_i a] M := by
  intro H locs ls hM hP hS hl
  subst ha hm
  exact W.zret X.1.1 X.1.2.1 hr (by rcases h01 with rfl | rfl <;> first | rfl | decide) (fun t ht hW => ⟨⟨_, (), rfl, rfl, hM, by rw [ht]; exact hP⟩, hS.F ht⟩) hS.2.2 hd hlocks
theorem kb_vret (X : kb_X p s m c cc nL args Ts own D ad cy (kb_A ad s.heap.size)) (hr : meth.sig.returnType = none) (hlocks : meth.locks = false) {M' : kb_M} (hd : decode cc pc = .ok (.return_, 1)) (hm : M = M') : kb_B p l e R s m args below meth c D ad cy (kb_A ad s.heap.size) nL 0 0 (MQ below (va_Qv (fun (_ : Unit) => True) (fun _ t => kb_en2 D ad cy M' t) (kb_A ad s.heap.size)) args s 0 0 (kb_A ad s.heap.size)) pc lv [] M := by
  intro H locs ls hM hP hS hl
  subst hm
  exact W.vret X.1.1 X.1.2.1 hr (fun t ht hW => ⟨⟨(), rfl, trivial, hM, by rw [ht]; exact hP⟩, hS.F ht⟩) hS.2.2 hd hlocks
end kb_ends
theorem kb_ofW {l : Launch} {y : MethodName} {ws ws' : List Cond} {rm : Room} {Pc : Array Value → State → Prop} {Qc : Array Value → State → Outcome → State → Prop} {mc ms : Nat} {free : Addr → Prop} {cc : ByteArray} {maxL : Nat} {ret : Option FieldType}
    (hy : plainFor y = true) (hw : ws = Cond.code y cc maxL ret :: ws')
    (body : ∀ p e s m args below meth c s₁, BodyLoose p l y (headSpec ws rm) cc maxL ret e s m args below meth c s₁ → c.maxLocals = maxL → Pc args s →
      W p l e (headSpec ws rm).room s m args below meth c s.heap [] 0 0 (MQ below Qc args s mc ms free) (entryFrame m args maxL)) : Met l y ws rm Pc Qc mc ms free := by
  refine MetFree.of_bodySF (code := cc) (maxLocals := maxL) (ret := ret) hy ?_ ?_
  · intro args s m h hn
    obtain ⟨meth, c, h1, h2, h3, h4, h5, h6, -, -⟩ := Cond.code_spec hn (atoms_spec (ws := ws) h _ (by rw [hw]; exact List.mem_cons_self))
    exact ⟨meth, c, h1, h2, h3, h4, h5, h6⟩
  · intro p e s m args below meth c s₁ B hml hP _
    have hh0 : s₁.heap = s.heap := by rw [B.state]; rfl
    obtain ⟨t, a1, o, b1, b2, b3⟩ := body p e s m args below meth c s₁ B hml hP s₁ hh0 (Stand.of_body B)
    exact ⟨t, o, a1, b1, b2, ⟨b3.1, b3.2⟩⟩
theorem kb_mkCi {l : Launch} {D : va_G} {ad : Nat → Nat} {cy : Nat → ClassId} {y : MethodName} {ws ws' : List Cond} {fr lo maxL : Nat} {cc : ByteArray} {ret : FieldType} {av : List Value} {lv : List (Nat × Value)} {M M' : kb_M} {r : Int} (hy : plainFor y = true) (hw : ws = Cond.code y cc maxL (some ret) :: ws') (hlen : (lg_sl av).length ≤ maxL) (hlv : lv_args 0 av = lv) (h : ∀ (p : Program) (e : Env) (s : State) (m : MethodId) (args : Array Value) (below : List Frame) (meth : Method) (c : Code), kb_X p s m c cc maxL args ws y.cls D ad cy (kb_A ad s.heap.size) → meth.sig.returnType = (some ret) → meth.locks = false → kb_ok M → kb_B p l e ({ frames := fr, cells := 0, slots := 0, locals := lo }) s m args below meth c D ad cy (kb_A ad s.heap.size) maxL 0 0 (MQ below (va_Qi (fun (v : Int32) (_ : Unit) => v = kb_J r) (fun _ t => kb_en2 D ad cy M' t) (kb_A ad s.heap.size)) args s 0 0 (kb_A ad s.heap.size)) 0 lv [] M) : kb_Ci l D ad cy y ws fr lo av M r M' := by
  intro sz
  refine kb_ofW (cc := cc) (maxL := maxL) (ret := (some ret)) hy hw ?_
  intro p e s m args below meth c s₁ B hml hv
  obtain ⟨rfl, hsz, hM, hP, hK, hD0, hnw⟩ := hv
  have hts := atoms_spec (ws := ws) B.pre
  have hown : s.vm.findClass y.cls = some m.cls := findClass_of_methodNamed B.named
  subst hsz
  have X : kb_X p s m c cc maxL av.toArray ws y.cls D ad cy (kb_A ad s.heap.size) := ⟨⟨B.exec, B.bytes, hml, hown, hts⟩, hK, fun M2 => kb_Dself (kb_Dany hD0), fun q hq => Or.inr hq, hnw⟩
  have hl := lv_entry av (n := maxL) hlen
  rw [hlv] at hl
  rw [lg_entry_eq]
  exact h p e s m _ below meth c X B.returns B.notSynchronized hM _ _ _ hM hP va_S.rf hl
theorem kb_mkCl {l : Launch} {D : va_G} {ad : Nat → Nat} {cy : Nat → ClassId} {y : MethodName} {ws ws' : List Cond} {fr lo maxL : Nat} {cc : ByteArray} {ret : FieldType} {av : List Value} {lv : List (Nat × Value)} {M M' : kb_M} {r : Int} (hy : plainFor y = true) (hw : ws = Cond.code y cc maxL (some ret) :: ws') (hlen : (lg_sl av).length ≤ maxL) (hlv : lv_args 0 av = lv) (h : ∀ (p : Program) (e : Env) (s : State) (m : MethodId) (args : Array Value) (below : List Frame) (meth : Method) (c : Code), kb_X p s m c cc maxL args ws y.cls D ad cy (kb_A ad s.heap.size) → meth.sig.returnType = (some ret) → meth.locks = false → kb_ok M → kb_B p l e ({ frames := fr, cells := 0, slots := 0, locals := lo }) s m args below meth c D ad cy (kb_A ad s.heap.size) maxL 0 0 (MQ below (va_Ql (fun (v : Int64) (_ : Unit) => v = kb_L r) (fun _ t => kb_en2 D ad cy M' t) (kb_A ad s.heap.size)) args s 0 0 (kb_A ad s.heap.size)) 0 lv [] M) : kb_Cl l D ad cy y ws fr lo av M r M' := by
  intro sz
  refine kb_ofW (cc := cc) (maxL := maxL) (ret := (some ret)) hy hw ?_
  intro p e s m args below meth c s₁ B hml hv
  obtain ⟨rfl, hsz, hM, hP, hK, hD0, hnw⟩ := hv
  have hts := atoms_spec (ws := ws) B.pre
  have hown : s.vm.findClass y.cls = some m.cls := findClass_of_methodNamed B.named
  subst hsz
  have X : kb_X p s m c cc maxL av.toArray ws y.cls D ad cy (kb_A ad s.heap.size) := ⟨⟨B.exec, B.bytes, hml, hown, hts⟩, hK, fun M2 => kb_Dself (kb_Dany hD0), fun q hq => Or.inr hq, hnw⟩
  have hl := lv_entry av (n := maxL) hlen
  rw [hlv] at hl
  rw [lg_entry_eq]
  exact h p e s m _ below meth c X B.returns B.notSynchronized hM _ _ _ hM hP va_S.rf hl
theorem kb_mkCv {l : Launch} {D : va_G} {ad : Nat → Nat} {cy : Nat → ClassId} {y : MethodName} {ws ws' : List Cond} {fr lo maxL : Nat} {cc : ByteArray} {av : List Value} {lv : List (Nat × Value)} {M M' : kb_M} (hy : plainFor y = true) (hw : ws = Cond.code y cc maxL none :: ws') (hlen : (lg_sl av).length ≤ maxL) (hlv : lv_args 0 av = lv) (h : ∀ (p : Program) (e : Env) (s : State) (m : MethodId) (args : Array Value) (below : List Frame) (meth : Method) (c : Code), kb_X p s m c cc maxL args ws y.cls D ad cy (kb_A ad s.heap.size) → meth.sig.returnType = none → meth.locks = false → kb_ok M → kb_B p l e ({ frames := fr, cells := 0, slots := 0, locals := lo }) s m args below meth c D ad cy (kb_A ad s.heap.size) maxL 0 0 (MQ below (va_Qv (fun (_ : Unit) => True) (fun _ t => kb_en2 D ad cy M' t) (kb_A ad s.heap.size)) args s 0 0 (kb_A ad s.heap.size)) 0 lv [] M) : kb_Cv l D ad cy y ws fr lo av M M' := by
  intro sz
  refine kb_ofW (cc := cc) (maxL := maxL) (ret := none) hy hw ?_
  intro p e s m args below meth c s₁ B hml hv
  obtain ⟨rfl, hsz, hM, hP, hK, hD0, hnw⟩ := hv
  have hts := atoms_spec (ws := ws) B.pre
  have hown : s.vm.findClass y.cls = some m.cls := findClass_of_methodNamed B.named
  subst hsz
  have X : kb_X p s m c cc maxL av.toArray ws y.cls D ad cy (kb_A ad s.heap.size) := ⟨⟨B.exec, B.bytes, hml, hown, hts⟩, hK, fun M2 => kb_Dself (kb_Dany hD0), fun q hq => Or.inr hq, hnw⟩
  have hl := lv_entry av (n := maxL) hlen
  rw [hlv] at hl
  rw [lg_entry_eq]
  exact h p e s m _ below meth c X B.returns B.notSynchronized hM _ _ _ hM hP va_S.rf hl
