-- J9_floorMod_7cf53
theorem hy_J9_floorMod_7cf53 : yJ9_floorMod_7cf53.cls ≠ "java/lang/invoke/MethodHandle" ∧ yJ9_floorMod_7cf53.cls ≠ "java/lang/invoke/VarHandle" ∧ (parseMethodDescriptor yJ9_floorMod_7cf53.desc).map (fun d => d.parameters.length) = some 2 := by decide +kernel
set_option maxHeartbeats 4000000 in
set_option maxRecDepth 100000 in
theorem c_J9_floorMod_7cf53 (l : Launch) (D : va_G) (ad : Nat → Nat) (cy : Nat → ClassId) (M : kb_M) (a : Int) (b : Int) (ha : 0 ≤ a ∧ a < 2147483648) (hb : 0 < b ∧ b < 1000) : kb_Ci l D ad cy yJ9_floorMod_7cf53 wsJ9_floorMod_7cf53 0 0 [kb_i a, kb_i b] M (a % b) (M) := by
  refine kb_mkCi (cc := cJ9_floorMod_7cf53) (maxL := 3) (lv := [(0, kb_i a), (1, kb_i b)]) (by decide +kernel) rfl (Nat.le_of_ble_eq_true rfl) rfl ?_
  intro p e s m args below meth c X hr hlocks hM
  refine kb_iload_n X 0 rfl dJ9_floorMod_7cf53_0 ?_
  refine kb_iload_n X 1 rfl dJ9_floorMod_7cf53_1 ?_
  refine kb_irem X ⟨by omega, by omega⟩ ⟨by omega, by omega⟩ (by omega) dJ9_floorMod_7cf53_2 ?_
  refine kb_eqi (b := a % b) (kb_tm (by omega)) ?_
  have m1 := Int.emod_nonneg a (show b ≠ 0 by omega)
  have m2 := Int.emod_lt_of_pos a (show 0 < b by omega)
  refine kb_nmi (fun x2_1 ex2_1 => ?_)
  refine kb_istore_n (lv' := [(2, kb_i x2_1), (0, kb_i a), (1, kb_i b)]) X dJ9_floorMod_7cf53_3 (by decide) rfl ?_
  refine kb_iload_n X 1 rfl dJ9_floorMod_7cf53_4 ?_
  refine kb_iload_n X 2 rfl dJ9_floorMod_7cf53_5 ?_
  refine kb_ixorP X ⟨by omega, by omega⟩ ⟨by omega, by omega⟩ (by omega) (by omega) dJ9_floorMod_7cf53_6 (fun z2 hz2 hr2 => ?_)
  have g2 : -2147483648 ≤ z2 ∧ z2 < 2147483648 := hr2
  refine kb_if_ge (tgt := 18) X ⟨by omega, by omega⟩ dJ9_floorMod_7cf53_7 (by decide) (fun h3 => ?_) (fun h3 => ?_)
  ·
    refine kb_iload_n X 0 rfl dJ9_floorMod_7cf53_18 ?_
    exact kb_iret X hr hlocks dJ9_floorMod_7cf53_19 (by first | rfl | assumption | omega | exact (kb_b1 (by omega)).symm | exact (kb_b0 (by omega)).symm) (by rfl)
  ·
    refine kb_iload_n X 0 rfl dJ9_floorMod_7cf53_10 ?_
    refine kb_if_eq (tgt := 18) X ⟨by omega, by omega⟩ dJ9_floorMod_7cf53_11 (by decide) (fun h4 => ?_) (fun h4 => ?_)
    ·
      refine kb_iload_n X 0 rfl dJ9_floorMod_7cf53_18 ?_
      exact kb_iret X hr hlocks dJ9_floorMod_7cf53_19 (by first | rfl | assumption | omega | exact (kb_b1 (by omega)).symm | exact (kb_b0 (by omega)).symm) (by rfl)
    ·
      refine kb_iload_n X 0 rfl dJ9_floorMod_7cf53_14 ?_
      refine kb_iload_n X 2 rfl dJ9_floorMod_7cf53_15 ?_
      refine kb_iadd X dJ9_floorMod_7cf53_16 ?_
      exact kb_iret X hr hlocks dJ9_floorMod_7cf53_17 (by first | rfl | assumption | omega | exact (kb_b1 (by omega)).symm | exact (kb_b0 (by omega)).symm) (by rfl)
-- X6_within
theorem hy_X6_within : yX6_within.cls ≠ "java/lang/invoke/MethodHandle" ∧ yX6_within.cls ≠ "java/lang/invoke/VarHandle" ∧ (parseMethodDescriptor yX6_within.desc).map (fun d => d.parameters.length) = some 3 := by decide +kernel
set_option maxHeartbeats 4000000 in
set_option maxRecDepth 100000 in
theorem c_X6_within (l : Launch) (D : va_G) (ad : Nat → Nat) (cy : Nat → ClassId) (M : kb_M) (v : Int) (lo : Int) (hi : Int) (hv : -2147483648 ≤ v ∧ v < 2147483648) (hlo : -2147483648 ≤ lo ∧ lo < 2147483648) (hhi : -2147483648 ≤ hi ∧ hi < 2147483648) : kb_Ci l D ad cy yX6_within wsX6_within 0 0 [kb_i v, kb_i lo, kb_i hi] M (kb_b (lo ≤ v ∧ v ≤ hi)) (M) := by
  refine kb_mkCi (cc := cX6_within) (maxL := 3) (lv := [(0, kb_i v), (1, kb_i lo), (2, kb_i hi)]) (plainFor_of_name (by decide)) rfl (Nat.le_of_ble_eq_true rfl) rfl ?_
  intro p e s m args below meth c X hr hlocks hM
  refine kb_iload_n X 0 rfl dX6_within_0 ?_
  refine kb_iload_n X 1 rfl dX6_within_1 ?_
  refine kb_icmp_lt (tgt := 14) X ⟨by omega, by omega⟩ ⟨by omega, by omega⟩ dX6_within_2 (by decide) (fun h1 => ?_) (fun h1 => ?_)
  ·
    refine kb_iconst X dX6_within_14 ?_
    exact kb_zret X hr hlocks (by first | exact Or.inl rfl | exact Or.inr rfl) dX6_within_15 (by first | rfl | assumption | omega | exact (kb_b1 (by omega)).symm | exact (kb_b0 (by omega)).symm) (by rfl)
  ·
    refine kb_iload_n X 0 rfl dX6_within_5 ?_
    refine kb_iload_n X 2 rfl dX6_within_6 ?_
    refine kb_icmp_gt (tgt := 14) X ⟨by omega, by omega⟩ ⟨by omega, by omega⟩ dX6_within_7 (by decide) (fun h2 => ?_) (fun h2 => ?_)
    ·
      refine kb_iconst X dX6_within_14 ?_
      exact kb_zret X hr hlocks (by first | exact Or.inl rfl | exact Or.inr rfl) dX6_within_15 (by first | rfl | assumption | omega | exact (kb_b1 (by omega)).symm | exact (kb_b0 (by omega)).symm) (by rfl)
    ·
      refine kb_iconst X dX6_within_10 ?_
      refine kb_goto (tgt := 15) X dX6_within_11 (by decide) ?_
      exact kb_zret X hr hlocks (by first | exact Or.inl rfl | exact Or.inr rfl) dX6_within_15 (by first | rfl | assumption | omega | exact (kb_b1 (by omega)).symm | exact (kb_b0 (by omega)).symm) (by rfl)
-- X6_isPlace
theorem hy_X6_isPlace : yX6_isPlace.cls ≠ "java/lang/invoke/MethodHandle" ∧ yX6_isPlace.cls ≠ "java/lang/invoke/VarHandle" ∧ (parseMethodDescriptor yX6_isPlace.desc).map (fun d => d.parameters.length) = some 2 := by decide +kernel
set_option maxHeartbeats 4000000 in
set_option maxRecDepth 100000 in
theorem c_X6_isPlace (l : Launch) (D : va_G) (ad : Nat → Nat) (cy : Nat → ClassId) (M : kb_M) (x : Int) (z : Int) (hx : -2147483648 ≤ x ∧ x < 2147483648) (hz : -2147483648 ≤ z ∧ z < 2147483648) : kb_Ci l D ad cy yX6_isPlace wsX6_isPlace 1 22 [kb_i x, kb_i z] M (kb_b ((-2000 ≤ x ∧ x ≤ 2000) ∧ 0 ≤ z ∧ z ≤ 4000)) (M) := by
  refine kb_mkCi (cc := cX6_isPlace) (maxL := 2) (lv := [(0, kb_i x), (1, kb_i z)]) (plainFor_of_name (by decide)) rfl (Nat.le_of_ble_eq_true rfl) rfl ?_
  intro p e s m args below meth c X hr hlocks hM
  refine kb_iload_n X 0 rfl dX6_isPlace_0 ?_
  refine kb_sipush X (by decide) dX6_isPlace_1 ?_
  refine kb_sipush X (by decide) dX6_isPlace_4 ?_
  refine kb_cSi X (rest := []) [kb_i x, kb_i ((-2000)), kb_i 2000] (c_X6_within l D ad cy M x ((-2000)) 2000 (by first | omega | assumption | exact ⟨by omega, by omega⟩) (by first | omega | assumption | exact ⟨by omega, by omega⟩) (by first | omega | assumption | exact ⟨by omega, by omega⟩)) gX6_isPlace_X6_within rfl hy_X6_within ⟨by decide, by decide⟩ rfl (Nat.le_of_ble_eq_true rfl) ⟨by decide, by decide⟩ dX6_isPlace_7 rfl ?_
  refine kb_ifb_eq (tgt := 28) X dX6_isPlace_10 (by decide) (fun h1 => ?_) (fun h1 => ?_)
  ·
    refine kb_iconst X dX6_isPlace_28 ?_
    exact kb_zret X hr hlocks (by first | exact Or.inl rfl | exact Or.inr rfl) dX6_isPlace_29 (by first | rfl | assumption | omega | exact (kb_b1 (by omega)).symm | exact (kb_b0 (by omega)).symm) (by rfl)
  ·
    refine kb_iload_n X 1 rfl dX6_isPlace_13 ?_
    refine kb_iconst X dX6_isPlace_14 ?_
    refine kb_sipush X (by decide) dX6_isPlace_15 ?_
    refine kb_cSi X (rest := []) [kb_i z, kb_i 0, kb_i 4000] (c_X6_within l D ad cy M z 0 4000 (by first | omega | assumption | exact ⟨by omega, by omega⟩) (by first | omega | assumption | exact ⟨by omega, by omega⟩) (by first | omega | assumption | exact ⟨by omega, by omega⟩)) gX6_isPlace_X6_within rfl hy_X6_within ⟨by decide, by decide⟩ rfl (Nat.le_of_ble_eq_true rfl) ⟨by decide, by decide⟩ dX6_isPlace_18 rfl ?_
    refine kb_ifb_eq (tgt := 28) X dX6_isPlace_21 (by decide) (fun h2 => ?_) (fun h2 => ?_)
    ·
      refine kb_iconst X dX6_isPlace_28 ?_
      exact kb_zret X hr hlocks (by first | exact Or.inl rfl | exact Or.inr rfl) dX6_isPlace_29 (by first | rfl | assumption | omega | exact (kb_b1 (by omega)).symm | exact (kb_b0 (by omega)).symm) (by rfl)
    ·
      refine kb_iconst X dX6_isPlace_24 ?_
      refine kb_goto (tgt := 29) X dX6_isPlace_25 (by decide) ?_
      exact kb_zret X hr hlocks (by first | exact Or.inl rfl | exact Or.inr rfl) dX6_isPlace_29 (by first | rfl | assumption | omega | exact (kb_b1 (by omega)).symm | exact (kb_b0 (by omega)).symm) (by rfl)
-- X6_root
theorem hy_X6_root : yX6_root.cls ≠ "java/lang/invoke/MethodHandle" ∧ yX6_root.cls ≠ "java/lang/invoke/VarHandle" ∧ (parseMethodDescriptor yX6_root.desc).map (fun d => d.parameters.length) = some 2 := by decide +kernel
set_option maxHeartbeats 4000000 in
set_option maxRecDepth 100000 in
theorem c_X6_root (l : Launch) (D : va_G) (ad : Nat → Nat) (cy : Nat → ClassId) (M : kb_M) (v : Int) (s0 : Int) (hv : 0 ≤ v ∧ v ≤ 1000000000000000) (hs : sp_sq v ≤ s0) (hs2 : s0 ≤ 100000000) : kb_Cl l D ad cy yX6_root wsX6_root 0 0 [kb_l (v), kb_l (s0)] M (sp_sq v) (M) := by
  refine kb_mkCl (cc := cX6_root) (maxL := 9) (lv := [(0, kb_l (v)), (2, kb_l (s0))]) (plainFor_of_name (by decide)) rfl (Nat.le_of_ble_eq_true rfl) rfl ?_
  intro p e s m args below meth c X hr hlocks hM
  have hnn := sp_sq_nn v
  refine kb_lload_n X 1 rfl dX6_root_0 ?_
  refine kb_lstore (lv' := [(4, kb_l (s0)), (0, kb_l (v)), (2, kb_l (s0))]) X dX6_root_1 (by decide) rfl ?_
  refine kb_iconst X dX6_root_3 ?_
  refine kb_istore (lv' := [(6, kb_i 0), (4, kb_l (s0)), (0, kb_l (v)), (2, kb_l (s0))]) X dX6_root_4 (by decide) rfl ?_
  have L6 : ∀ nn_ : Nat, ∀ (u k : Int), (100 - k).toNat < nn_ → (sp_sq v ≤ u ∧ u ≤ s0 ∧ 0 ≤ k ∧ k ≤ 100) → (u - sp_sq v ≤ sp_hv s0 k.toNat) → kb_B p l e ({ frames := 0, cells := 0, slots := 0, locals := 0 } : Room) s m args below meth c D ad cy (kb_A ad s.heap.size) 9 0 0 (MQ below (va_Ql (fun (vq_ : Int64) (_ : Unit) => vq_ = kb_L (sp_sq v)) (fun _ t => kb_en2 D ad cy (M) t) (kb_A ad s.heap.size)) args s 0 0 (kb_A ad s.heap.size)) 6 [(0, kb_l (v)), (2, kb_l (s0)), (4, kb_l (u)), (6, kb_i k)] [] M := by
    intro nn_
    induction nn_ with
    | zero => intro u k hn; exact absurd hn (Nat.not_lt_zero _)
    | succ nn_ ih1 =>
      intro u k hn hI hJ
      refine kb_iload X 3 rfl dX6_root_6 ?_
      refine kb_bipush X (by decide) dX6_root_8 ?_
      refine kb_icmp_ge (tgt := 54) X ⟨by omega, by omega⟩ ⟨by decide, by decide⟩ dX6_root_10 (by decide) (fun h2 => ?_) (fun h2 => ?_)
      ·
        have hz := sp_hv_0 (s := s0) k.toNat (by omega)
        refine kb_lload X 2 rfl dX6_root_54 ?_
        exact kb_lret X hr hlocks dX6_root_56 (by first | omega | (have h100 : k.toNat = 100 := (by omega); have h101 := hz h100; omega)) (by rfl)
      ·
        refine kb_lload X 2 rfl dX6_root_13 ?_
        refine kb_lconst X dX6_root_15 ?_
        refine kb_eql (b := 0) rfl ?_
        refine kb_lcmp_le (tgt := 54) X ⟨by omega, by omega⟩ ⟨by decide, by decide⟩ dX6_root_16 dX6_root_17 (by decide) (fun h3 => ?_) (fun h3 => ?_)
        ·
          have hz := sp_hv_0 (s := s0) k.toNat (by omega)
          refine kb_lload X 2 rfl dX6_root_54 ?_
          exact kb_lret X hr hlocks dX6_root_56 (by first | omega | (have h100 : k.toNat = 100 := (by omega); have h101 := hz h100; omega)) (by rfl)
        ·
          have db := sp_divb (z := v) (f := u) (by omega) (by omega)
          have nw := sp_newton (v := v) (g := u) (by omega) (by omega) hI.1
          refine kb_lload X 2 rfl dX6_root_20 ?_
          refine kb_lload_n X 0 rfl dX6_root_22 ?_
          refine kb_lload X 2 rfl dX6_root_23 ?_
          refine kb_ldiv X ⟨by omega, by omega⟩ ⟨by omega, by omega⟩ (by omega) dX6_root_25 ?_
          refine kb_eql (b := v / u) (kb_td (by omega)) ?_
          refine kb_ladd X dX6_root_26 ?_
          refine kb_ldc2 (v := 2) X (2) (by decide +kernel) (by decide) dX6_root_27 ?_
          refine kb_ldiv X ⟨by omega, by omega⟩ ⟨by decide, by decide⟩ (by omega) dX6_root_30 ?_
          refine kb_eql (b := (u + (v / u)) / 2) (kb_td (by omega)) ?_
          refine kb_nml (fun x7_4 ex7_4 => ?_)
          refine kb_lstore (lv' := [(7, kb_l (x7_4)), (0, kb_l (v)), (2, kb_l (s0)), (4, kb_l (u)), (6, kb_i k)]) X dX6_root_31 (by decide) rfl ?_
          refine kb_lload X 0 rfl dX6_root_33 ?_
          refine kb_lload X 3 rfl dX6_root_35 ?_
          refine kb_lcmp_lt (tgt := 44) X ⟨by omega, by omega⟩ ⟨by omega, by omega⟩ dX6_root_37 dX6_root_38 (by decide) (fun h5 => ?_) (fun h5 => ?_)
          ·
            refine kb_lload X 0 rfl dX6_root_44 ?_
            refine kb_lstore (lv' := [(4, kb_l (x7_4)), (7, kb_l (x7_4)), (0, kb_l (v)), (2, kb_l (s0)), (6, kb_i k)]) X dX6_root_46 (by decide) rfl ?_
            refine kb_iinc (lv' := [(6, kb_i (k + 1)), (4, kb_l (x7_4)), (7, kb_l (x7_4)), (0, kb_l (v)), (2, kb_l (s0))]) X 4 rfl dX6_root_48 rfl (by decide) rfl ?_
            refine kb_goto (tgt := 6) X dX6_root_51 (by decide) ?_
            refine kb_sub [3, 4, 1, 0] (lv' := [(0, kb_l (v)), (2, kb_l (s0)), (4, kb_l (x7_4)), (6, kb_i (k + 1))]) rfl ?_
            exact ih1 x7_4 (k + 1) (by omega) (by first | omega | assumption | exact ⟨by omega, by omega⟩) (by rw [show (k + 1).toNat = k.toNat + 1 by omega]; simp only [sp_hv]; omega)
          ·
            refine kb_lload X 3 rfl dX6_root_41 ?_
            exact kb_lret X hr hlocks dX6_root_43 (by first | rfl | assumption | omega | exact (kb_b1 (by omega)).symm | exact (kb_b0 (by omega)).symm) (by rfl)
  refine kb_sub [2, 3, 1, 0] (lv' := [(0, kb_l (v)), (2, kb_l (s0)), (4, kb_l (s0)), (6, kb_i 0)]) rfl ?_
  exact L6 _ s0 0 (Nat.lt_succ_self _) (by first | omega | assumption | exact ⟨by omega, by omega⟩) (by simp only [Int.toNat_zero, sp_hv]; omega)
-- X3_has
theorem hf_X3_has_51 : Cond.fieldLink yX3_has.cls 51 RX3 "size" "I" ∈ wsX3_has := by decide +kernel
theorem hi_X3_has_X3 : ∀ w ∈ wsX30, w ∈ wsX3_has := by decide +kernel
theorem hy_X3_has : yX3_has.cls ≠ "java/lang/invoke/MethodHandle" ∧ yX3_has.cls ≠ "java/lang/invoke/VarHandle" ∧ (parseMethodDescriptor yX3_has.desc).map (fun d => d.parameters.length) = some 1 := by decide +kernel
set_option maxHeartbeats 4000000 in
set_option maxRecDepth 100000 in
theorem c_X3_has (l : Launch) (D : va_G) (ad : Nat → Nat) (cy : Nat → ClassId) (M : kb_M) (i : Int) (hi : -2147483648 ≤ i ∧ i < 2147483648) : kb_Ci l D ad cy yX3_has wsX3_has 0 0 [.ref (ad 1), kb_i i] M (kb_b (0 ≤ i ∧ i < M 1 5 ∧ i < 16)) (M) := by
  refine kb_mkCi (cc := cX3_has) (maxL := 2) (lv := [(0, .ref (ad 1)), (1, kb_i i)]) (plainFor_of_name (by decide)) rfl (Nat.le_of_ble_eq_true rfl) rfl ?_
  intro p e s m args below meth c X hr hlocks hM
  refine kb_iload_n X 1 rfl dX3_has_0 ?_
  refine kb_if_lt (tgt := 22) X ⟨by omega, by omega⟩ dX3_has_1 (by decide) (fun h1 => ?_) (fun h1 => ?_)
  ·
    refine kb_iconst X dX3_has_22 ?_
    exact kb_zret X hr hlocks (by first | exact Or.inl rfl | exact Or.inr rfl) dX3_has_23 (by first | rfl | assumption | omega | exact (kb_b1 (by omega)).symm | exact (kb_b0 (by omega)).symm) (by rfl)
  ·
    refine kb_iload_n X 1 rfl dX3_has_4 ?_
    refine kb_aload_n X 0 rfl dX3_has_5 ?_
    refine kg_X3_size X hi_X3_has_X3 hf_X3_has_51 dX3_has_6 ?_
    have g2 : -2147483648 ≤ M 1 5 ∧ M 1 5 < 2147483648 := hM 1 5
    refine kb_icmp_ge (tgt := 22) X ⟨by omega, by omega⟩ ⟨by omega, by omega⟩ dX3_has_9 (by decide) (fun h3 => ?_) (fun h3 => ?_)
    ·
      refine kb_iconst X dX3_has_22 ?_
      exact kb_zret X hr hlocks (by first | exact Or.inl rfl | exact Or.inr rfl) dX3_has_23 (by first | rfl | assumption | omega | exact (kb_b1 (by omega)).symm | exact (kb_b0 (by omega)).symm) (by rfl)
    ·
      refine kb_iload_n X 1 rfl dX3_has_12 ?_
      refine kb_bipush X (by decide) dX3_has_13 ?_
      refine kb_icmp_ge (tgt := 22) X ⟨by omega, by omega⟩ ⟨by decide, by decide⟩ dX3_has_15 (by decide) (fun h4 => ?_) (fun h4 => ?_)
      ·
        refine kb_iconst X dX3_has_22 ?_
        exact kb_zret X hr hlocks (by first | exact Or.inl rfl | exact Or.inr rfl) dX3_has_23 (by first | rfl | assumption | omega | exact (kb_b1 (by omega)).symm | exact (kb_b0 (by omega)).symm) (by rfl)
      ·
        refine kb_iconst X dX3_has_18 ?_
        refine kb_goto (tgt := 23) X dX3_has_19 (by decide) ?_
        exact kb_zret X hr hlocks (by first | exact Or.inl rfl | exact Or.inr rfl) dX3_has_23 (by first | rfl | assumption | omega | exact (kb_b1 (by omega)).symm | exact (kb_b0 (by omega)).symm) (by rfl)
-- X3_isDead
theorem hf_X3_isDead_15 : Cond.fieldLink yX3_isDead.cls 15 RX3 "deads" "[Z" ∈ wsX3_isDead := by decide +kernel
theorem hi_X3_isDead_X3 : ∀ w ∈ wsX30, w ∈ wsX3_isDead := by decide +kernel
theorem hy_X3_isDead : yX3_isDead.cls ≠ "java/lang/invoke/MethodHandle" ∧ yX3_isDead.cls ≠ "java/lang/invoke/VarHandle" ∧ (parseMethodDescriptor yX3_isDead.desc).map (fun d => d.parameters.length) = some 1 := by decide +kernel
set_option maxHeartbeats 4000000 in
set_option maxRecDepth 100000 in
theorem c_X3_isDead (l : Launch) (D : va_G) (ad : Nat → Nat) (cy : Nat → ClassId) (M : kb_M) (i : Int) (hi : -2147483648 ≤ i ∧ i < 2147483648) : kb_Ci l D ad cy yX3_isDead wsX3_isDead 1 21 [.ref (ad 1), kb_i i] M (kb_b (0 ≤ i ∧ i < M 1 5 ∧ i < 16 ∧ M 8 i ≠ 0)) (M) := by
  refine kb_mkCi (cc := cX3_isDead) (maxL := 2) (lv := [(0, .ref (ad 1)), (1, kb_i i)]) (plainFor_of_name (by decide)) rfl (Nat.le_of_ble_eq_true rfl) rfl ?_
  intro p e s m args below meth c X hr hlocks hM
  refine kb_aload_n X 0 rfl dX3_isDead_0 ?_
  refine kb_iload_n X 1 rfl dX3_isDead_1 ?_
  refine kb_cVi X (rest := []) [kb_i i] 1 (fl := [some 7, some 8, some 9, some 10, none, none, none, none, none, none, none]) (C := RX3) rfl rfl (c_X3_has l D ad cy M i (by first | omega | assumption | exact ⟨by omega, by omega⟩)) gX3_isDead_X3_has rfl ⟨rfl, hy_X3_has⟩ ⟨by decide, by decide⟩ rfl (Nat.le_of_ble_eq_true rfl) ⟨by decide, by decide⟩ dX3_isDead_2 rfl ?_
  refine kb_ifb_eq (tgt := 21) X dX3_isDead_5 (by decide) (fun h1 => ?_) (fun h1 => ?_)
  ·
    refine kb_iconst X dX3_isDead_21 ?_
    exact kb_zret X hr hlocks (by first | exact Or.inl rfl | exact Or.inr rfl) dX3_isDead_22 (by first | rfl | assumption | omega | exact (kb_b1 (by omega)).symm | exact (kb_b0 (by omega)).symm) (by rfl)
  ·
    refine kb_aload_n X 0 rfl dX3_isDead_8 ?_
    refine kg_X3_deads X hi_X3_isDead_X3 hf_X3_isDead_15 dX3_isDead_9 ?_
    refine kb_iload_n X 1 rfl dX3_isDead_12 ?_
    refine kb_zald X 8 (n := 16) rfl ⟨by omega, by omega⟩ (by decide) dX3_isDead_13 ?_
    have g2 : -2147483648 ≤ M 8 i ∧ M 8 i < 2147483648 := hM 8 i
    refine kb_if_eq (tgt := 21) X ⟨by omega, by omega⟩ dX3_isDead_14 (by decide) (fun h3 => ?_) (fun h3 => ?_)
    ·
      refine kb_iconst X dX3_isDead_21 ?_
      exact kb_zret X hr hlocks (by first | exact Or.inl rfl | exact Or.inr rfl) dX3_isDead_22 (by first | rfl | assumption | omega | exact (kb_b1 (by omega)).symm | exact (kb_b0 (by omega)).symm) (by rfl)
    ·
      refine kb_iconst X dX3_isDead_17 ?_
      refine kb_goto (tgt := 22) X dX3_isDead_18 (by decide) ?_
      exact kb_zret X hr hlocks (by first | exact Or.inl rfl | exact Or.inr rfl) dX3_isDead_22 (by first | rfl | assumption | omega | exact (kb_b1 (by omega)).symm | exact (kb_b0 (by omega)).symm) (by rfl)
-- X3_gap
theorem hf_X3_gap_9 : Cond.fieldLink yX3_gap.cls 9 RX3 "xs" "[I" ∈ wsX3_gap := by decide +kernel
theorem hi_X3_gap_X3 : ∀ w ∈ wsX30, w ∈ wsX3_gap := by decide +kernel
theorem hy_X3_gap : yX3_gap.cls ≠ "java/lang/invoke/MethodHandle" ∧ yX3_gap.cls ≠ "java/lang/invoke/VarHandle" ∧ (parseMethodDescriptor yX3_gap.desc).map (fun d => d.parameters.length) = some 2 := by decide +kernel
theorem hm_X3_gap_abs : Cond.methodLink yX3_gap.cls 61 Lib.Math.abs.name ∈ wsX3_gap ∧ Cond.static Lib.Math.abs.name ∈ wsX3_gap ∧ Cond.initialized "java/lang/Math" ∈ wsX3_gap ∧ Cond.code Lib.Math.abs.name Lib.Math.abs.code 1 (some .int) ∈ wsX3_gap := by decide +kernel
set_option maxHeartbeats 4000000 in
set_option maxRecDepth 100000 in
theorem c_X3_gap (l : Launch) (D : va_G) (ad : Nat → Nat) (cy : Nat → ClassId) (M : kb_M) (i : Int) (x : Int) (hi : -2147483648 ≤ i ∧ i < 2147483648) (hx : -2000 ≤ x ∧ x ≤ 2000) (hxs : sp_xs M) : kb_Ci l D ad cy yX3_gap wsX3_gap 1 24 [.ref (ad 1), kb_i i, kb_i x] M (sp_gap M i x) (M) := by
  refine kb_mkCi (cc := cX3_gap) (maxL := 3) (lv := [(0, .ref (ad 1)), (1, kb_i i), (2, kb_i x)]) (plainFor_of_name (by decide)) rfl (Nat.le_of_ble_eq_true rfl) rfl ?_
  intro p e s m args below meth c X hr hlocks hM
  refine kb_aload_n X 0 rfl dX3_gap_0 ?_
  refine kb_iload_n X 1 rfl dX3_gap_1 ?_
  refine kb_cVi X (rest := []) [kb_i i] 1 (fl := [some 7, some 8, some 9, some 10, none, none, none, none, none, none, none]) (C := RX3) rfl rfl (c_X3_has l D ad cy M i (by first | omega | assumption | exact ⟨by omega, by omega⟩)) gX3_gap_X3_has rfl ⟨rfl, hy_X3_has⟩ ⟨by decide, by decide⟩ rfl (Nat.le_of_ble_eq_true rfl) ⟨by decide, by decide⟩ dX3_gap_2 rfl ?_
  refine kb_ifb_eq (tgt := 22) X dX3_gap_5 (by decide) (fun h1 => ?_) (fun h1 => ?_)
  ·
    refine kb_iconst X dX3_gap_22 ?_
    exact kb_iret X hr hlocks dX3_gap_23 (by first | (unfold sp_gap; rw [if_pos (by omega)]) | (unfold sp_gap; rw [if_neg (by omega)])) (by rfl)
  ·
    have b7 := hxs i (by omega) (by omega)
    refine kb_aload_n X 0 rfl dX3_gap_8 ?_
    refine kg_X3_xs X hi_X3_gap_X3 hf_X3_gap_9 dX3_gap_9 ?_
    refine kb_iload_n X 1 rfl dX3_gap_12 ?_
    refine kb_iald X 7 (n := 16) rfl ⟨by omega, by omega⟩ (by decide) dX3_gap_13 ?_
    have g2 : -2147483648 ≤ M 7 i ∧ M 7 i < 2147483648 := hM 7 i
    refine kb_iload_n X 2 rfl dX3_gap_14 ?_
    refine kb_isub X dX3_gap_15 ?_
    refine kb_mabs X ⟨by omega, by omega⟩ (by omega) hm_X3_gap_abs.1 hm_X3_gap_abs.2.1 hm_X3_gap_abs.2.2.1 hm_X3_gap_abs.2.2.2 (by decide) (Nat.le_of_ble_eq_true rfl) (by decide) (by decide) dX3_gap_16 ?_
    refine kb_goto (tgt := 23) X dX3_gap_19 (by decide) ?_
    exact kb_iret X hr hlocks dX3_gap_23 (by first | (unfold sp_gap; rw [if_pos (by omega)]) | (unfold sp_gap; rw [if_neg (by omega)])) (by rfl)
-- X3_delayOf
theorem hf_X3_delayOf_25 : Cond.fieldLink yX3_delayOf.cls 25 RX3 "steps" "I" ∈ wsX3_delayOf := by decide +kernel
theorem hf_X3_delayOf_29 : Cond.fieldLink yX3_delayOf.cls 29 RX3 "ticks" "I" ∈ wsX3_delayOf := by decide +kernel
theorem hi_X3_delayOf_X3 : ∀ w ∈ wsX30, w ∈ wsX3_delayOf := by decide +kernel
theorem hy_X3_delayOf : yX3_delayOf.cls ≠ "java/lang/invoke/MethodHandle" ∧ yX3_delayOf.cls ≠ "java/lang/invoke/VarHandle" ∧ (parseMethodDescriptor yX3_delayOf.desc).map (fun d => d.parameters.length) = some 3 := by decide +kernel
set_option maxHeartbeats 4000000 in
set_option maxRecDepth 100000 in
theorem c_X3_delayOf (l : Launch) (D : va_G) (ad : Nat → Nat) (cy : Nat → ClassId) (M : kb_M) (i : Int) (x : Int) (z : Int) (hi : -2147483648 ≤ i ∧ i < 2147483648) (hx : -2000 ≤ x ∧ x ≤ 2000) (hz : 0 ≤ z ∧ z ≤ 4000) (hxs : sp_xs M) (hP : 1 ≤ M 1 7 ∧ M 1 7 ≤ 1000) (hT : 1 ≤ M 1 8 ∧ M 1 8 ≤ 1000) : kb_Ci l D ad cy yX3_delayOf wsX3_delayOf 2 46 [.ref (ad 1), kb_i i, kb_i x, kb_i z] M (sp_dly M i x z) (M) := by
  refine kb_mkCi (cc := cX3_delayOf) (maxL := 10) (lv := [(0, .ref (ad 1)), (1, kb_i i), (2, kb_i x), (3, kb_i z)]) (plainFor_of_name (by decide)) rfl (Nat.le_of_ble_eq_true rfl) rfl ?_
  intro p e s m args below meth c X hr hlocks hM
  refine kb_aload_n X 0 rfl dX3_delayOf_0 ?_
  refine kg_X3_steps X hi_X3_delayOf_X3 hf_X3_delayOf_25 dX3_delayOf_1 ?_
  have g1 : -2147483648 ≤ M 1 7 ∧ M 1 7 < 2147483648 := hM 1 7
  refine kb_iconst X dX3_delayOf_4 ?_
  refine kb_icmp_ge (tgt := 10) X ⟨by omega, by omega⟩ ⟨by decide, by decide⟩ dX3_delayOf_5 (by decide) (fun h2 => ?_) (fun h2 => ?_)
  ·
    refine kb_aload_n X 0 rfl dX3_delayOf_10 ?_
    refine kb_iload_n X 1 rfl dX3_delayOf_11 ?_
    refine kb_iload_n X 2 rfl dX3_delayOf_12 ?_
    refine kb_cVi X (rest := []) [kb_i i, kb_i x] 1 (fl := [some 7, some 8, some 9, some 10, none, none, none, none, none, none, none]) (C := RX3) rfl rfl (c_X3_gap l D ad cy M i x (by first | omega | assumption | exact ⟨by omega, by omega⟩) (by first | omega | assumption | exact ⟨by omega, by omega⟩) (by first | omega | assumption | exact ⟨by omega, by omega⟩)) gX3_delayOf_X3_gap rfl ⟨rfl, hy_X3_gap⟩ ⟨by decide, by decide⟩ rfl (Nat.le_of_ble_eq_true rfl) ⟨by decide, by decide⟩ dX3_delayOf_13 rfl ?_
    have g3 : 0 ≤ (sp_gap M i x) ∧ (sp_gap M i x) ≤ 4000 := by apply sp_gap_b <;> first | assumption | omega
    refine kb_i2l X ⟨by omega, by omega⟩ dX3_delayOf_16 ?_
    refine kb_nml (fun x4_4 ex4_4 => ?_)
    refine kb_lstore (lv' := [(4, kb_l (x4_4)), (0, .ref (ad 1)), (1, kb_i i), (2, kb_i x), (3, kb_i z)]) X dX3_delayOf_17 (by decide) rfl ?_
    refine kb_iload_n X 4 rfl dX3_delayOf_19 ?_
    refine kb_i2l X ⟨by omega, by omega⟩ dX3_delayOf_20 ?_
    refine kb_lstore (lv' := [(6, kb_l (z)), (4, kb_l (x4_4)), (0, .ref (ad 1)), (1, kb_i i), (2, kb_i x), (3, kb_i z)]) X dX3_delayOf_21 (by decide) rfl ?_
    refine kb_ldc2 (v := 4) X (4) (by decide +kernel) (by decide) dX3_delayOf_23 ?_
    refine kb_aload_n X 2 rfl dX3_delayOf_26 ?_
    refine kg_X3_ticks X hi_X3_delayOf_X3 hf_X3_delayOf_29 dX3_delayOf_27 ?_
    have g5 : -2147483648 ≤ M 1 8 ∧ M 1 8 < 2147483648 := hM 1 8
    refine kb_i2l X ⟨by omega, by omega⟩ dX3_delayOf_30 ?_
    refine kb_lmul X dX3_delayOf_31 ?_
    refine kb_aload_n X 2 rfl dX3_delayOf_32 ?_
    refine kg_X3_ticks X hi_X3_delayOf_X3 hf_X3_delayOf_29 dX3_delayOf_33 ?_
    refine kb_i2l X ⟨by omega, by omega⟩ dX3_delayOf_36 ?_
    refine kb_lmul X dX3_delayOf_37 ?_
    refine kb_lload X 1 rfl dX3_delayOf_38 ?_
    refine kb_lload X 1 rfl dX3_delayOf_40 ?_
    refine kb_lmul X dX3_delayOf_42 ?_
    refine kb_lload X 0 rfl dX3_delayOf_43 ?_
    refine kb_lload X 0 rfl dX3_delayOf_45 ?_
    refine kb_lmul X dX3_delayOf_47 ?_
    refine kb_ladd X dX3_delayOf_48 ?_
    refine kb_lmul X dX3_delayOf_49 ?_
    refine kb_ldc2 (v := 2) X (2) (by decide +kernel) (by decide) dX3_delayOf_50 ?_
    refine kb_aload_n X 2 rfl dX3_delayOf_53 ?_
    refine kg_X3_ticks X hi_X3_delayOf_X3 hf_X3_delayOf_29 dX3_delayOf_54 ?_
    refine kb_i2l X ⟨by omega, by omega⟩ dX3_delayOf_57 ?_
    refine kb_lmul X dX3_delayOf_58 ?_
    refine kb_lload X 1 rfl dX3_delayOf_59 ?_
    refine kb_lload X 0 rfl dX3_delayOf_61 ?_
    refine kb_ladd X dX3_delayOf_63 ?_
    refine kb_lmul X dX3_delayOf_64 ?_
    have sb := sp_sqb (T := M 1 8) (g := x4_4) (z := z) hT (by omega) hz
    have sn := sp_sq_nn (4 * M 1 8 * M 1 8 * (x4_4 * x4_4 + z * z))
    refine kb_cNl X (rest := []) [kb_l (((4 * (M 1 8)) * (M 1 8)) * ((x4_4 * x4_4) + (z * z))), kb_l ((2 * (M 1 8)) * (x4_4 + z))] X.2.2.2.2 (by decide +kernel) (by decide +kernel) (c_X6_root l D ad cy M (((4 * (M 1 8)) * (M 1 8)) * ((x4_4 * x4_4) + (z * z))) ((2 * (M 1 8)) * (x4_4 + z)) (by omega) (by exact sb.2.2.2.2) (by omega)) gX3_delayOf_X6_root_n72 rfl hy_X6_root ⟨by decide, by decide⟩ rfl (Nat.le_of_ble_eq_true rfl) ⟨by decide, by decide⟩ dX3_delayOf_65 rfl ?_
    refine kb_nml (fun x8_6 ex8_6 => ?_)
    refine kb_lstore (lv' := [(8, kb_l (x8_6)), (6, kb_l (z)), (4, kb_l (x4_4)), (0, .ref (ad 1)), (1, kb_i i), (2, kb_i x), (3, kb_i z)]) X dX3_delayOf_68 (by decide) rfl ?_
    refine kb_lload X 0 rfl dX3_delayOf_70 ?_
    refine kb_aload_n X 3 rfl dX3_delayOf_72 ?_
    refine kg_X3_steps X hi_X3_delayOf_X3 hf_X3_delayOf_25 dX3_delayOf_73 ?_
    refine kb_i2l X ⟨by omega, by omega⟩ dX3_delayOf_76 ?_
    refine kb_ladd X dX3_delayOf_77 ?_
    refine kb_ldc2 (v := 2) X (2) (by decide +kernel) (by decide) dX3_delayOf_78 ?_
    refine kb_aload_n X 3 rfl dX3_delayOf_81 ?_
    refine kg_X3_steps X hi_X3_delayOf_X3 hf_X3_delayOf_25 dX3_delayOf_82 ?_
    refine kb_i2l X ⟨by omega, by omega⟩ dX3_delayOf_85 ?_
    refine kb_lmul X dX3_delayOf_86 ?_
    refine kb_ldiv X ⟨by omega, by omega⟩ ⟨by omega, by omega⟩ (by omega) dX3_delayOf_87 ?_
    refine kb_eql (b := (x8_6 + (M 1 7)) / (2 * (M 1 7))) (kb_td (by omega)) ?_
    refine kb_l2i X dX3_delayOf_88 ?_
    exact kb_iret X hr hlocks dX3_delayOf_89 (by subst_vars; rfl) (by rfl)
  ·
    refine kb_iconst X dX3_delayOf_8 ?_
    exact kb_iret X hr hlocks dX3_delayOf_9 (by first | rfl | assumption | omega | exact (kb_b1 (by omega)).symm | exact (kb_b0 (by omega)).symm) (by rfl)
-- X3_weightOf
theorem hf_X3_weightOf_32 : Cond.fieldLink yX3_weightOf.cls 32 RX3 "window" "I" ∈ wsX3_weightOf := by decide +kernel
theorem hf_X3_weightOf_35 : Cond.fieldLink yX3_weightOf.cls 35 RX3 "narrowness" "I" ∈ wsX3_weightOf := by decide +kernel
theorem hi_X3_weightOf_X3 : ∀ w ∈ wsX30, w ∈ wsX3_weightOf := by decide +kernel
theorem hy_X3_weightOf : yX3_weightOf.cls ≠ "java/lang/invoke/MethodHandle" ∧ yX3_weightOf.cls ≠ "java/lang/invoke/VarHandle" ∧ (parseMethodDescriptor yX3_weightOf.desc).map (fun d => d.parameters.length) = some 3 := by decide +kernel
set_option maxHeartbeats 4000000 in
set_option maxRecDepth 100000 in
theorem c_X3_weightOf (l : Launch) (D : va_G) (ad : Nat → Nat) (cy : Nat → ClassId) (M : kb_M) (i : Int) (x : Int) (z : Int) (hi : -2147483648 ≤ i ∧ i < 2147483648) (hx : -2000 ≤ x ∧ x ≤ 2000) (hz : 0 ≤ z ∧ z ≤ 4000) (hxs : sp_xs M) (hf : 1 ≤ M 1 10 ∧ M 1 10 ≤ 9) : kb_Ci l D ad cy yX3_weightOf wsX3_weightOf 2 46 [.ref (ad 1), kb_i i, kb_i x, kb_i z] M (sp_wt M i x z) (M) := by
  refine kb_mkCi (cc := cX3_weightOf) (maxL := 6) (lv := [(0, .ref (ad 1)), (1, kb_i i), (2, kb_i x), (3, kb_i z)]) (plainFor_of_name (by decide)) rfl (Nat.le_of_ble_eq_true rfl) rfl ?_
  intro p e s m args below meth c X hr hlocks hM
  refine kb_aload_n X 0 rfl dX3_weightOf_0 ?_
  refine kb_iload_n X 1 rfl dX3_weightOf_1 ?_
  refine kb_cVi X (rest := []) [kb_i i] 1 (fl := [some 7, some 8, some 9, some 10, none, none, none, none, none, none, none]) (C := RX3) rfl rfl (c_X3_has l D ad cy M i (by first | omega | assumption | exact ⟨by omega, by omega⟩)) gX3_weightOf_X3_has rfl ⟨rfl, hy_X3_has⟩ ⟨by decide, by decide⟩ rfl (Nat.le_of_ble_eq_true rfl) ⟨by decide, by decide⟩ dX3_weightOf_2 rfl ?_
  refine kb_ifb_eq (tgt := 16) X dX3_weightOf_5 (by decide) (fun h1 => ?_) (fun h1 => ?_)
  ·
    refine kb_iconst X dX3_weightOf_16 ?_
    exact kb_iret X hr hlocks dX3_weightOf_17 (by subst_vars; simp only [sp_wt]; grind) (by rfl)
  ·
    refine kb_aload_n X 0 rfl dX3_weightOf_8 ?_
    refine kb_iload_n X 1 rfl dX3_weightOf_9 ?_
    refine kb_cVi X (rest := []) [kb_i i] 1 (fl := [some 7, some 8, some 9, some 10, none, none, none, none, none, none, none]) (C := RX3) rfl rfl (c_X3_isDead l D ad cy M i (by first | omega | assumption | exact ⟨by omega, by omega⟩)) gX3_weightOf_X3_isDead rfl ⟨rfl, hy_X3_isDead⟩ ⟨by decide, by decide⟩ rfl (Nat.le_of_ble_eq_true rfl) ⟨by decide, by decide⟩ dX3_weightOf_10 rfl ?_
    refine kb_ifb_eq (tgt := 18) X dX3_weightOf_13 (by decide) (fun h2 => ?_) (fun h2 => ?_)
    ·
      refine kb_aload_n X 0 rfl dX3_weightOf_18 ?_
      refine kg_X3_window X hi_X3_weightOf_X3 hf_X3_weightOf_32 dX3_weightOf_19 ?_
      have g3 : -2147483648 ≤ M 1 9 ∧ M 1 9 < 2147483648 := hM 1 9
      refine kb_if_eq (tgt := 33) X ⟨by omega, by omega⟩ dX3_weightOf_22 (by decide) (fun h4 => ?_) (fun h4 => ?_)
      ·
        refine kb_iconst X dX3_weightOf_33 ?_
        exact kb_iret X hr hlocks dX3_weightOf_34 (by subst_vars; simp only [sp_wt]; grind) (by rfl)
      ·
        refine kb_aload_n X 0 rfl dX3_weightOf_25 ?_
        refine kg_X3_narrowness X hi_X3_weightOf_X3 hf_X3_weightOf_35 dX3_weightOf_26 ?_
        have g5 : -2147483648 ≤ M 1 10 ∧ M 1 10 < 2147483648 := hM 1 10
        refine kb_iconst X dX3_weightOf_29 ?_
        refine kb_icmp_ge (tgt := 35) X ⟨by omega, by omega⟩ ⟨by decide, by decide⟩ dX3_weightOf_30 (by decide) (fun h6 => ?_) (fun h6 => ?_)
        ·
          refine kb_iload_n X 3 rfl dX3_weightOf_35 ?_
          refine kb_aload_n X 0 rfl dX3_weightOf_36 ?_
          refine kg_X3_narrowness X hi_X3_weightOf_X3 hf_X3_weightOf_35 dX3_weightOf_37 ?_
          refine kb_idiv X ⟨by omega, by omega⟩ ⟨by omega, by omega⟩ (by omega) dX3_weightOf_40 ?_
          refine kb_eqi (b := z / (M 1 10)) (kb_td (by omega)) ?_
          have db := sp_divb (z := z) (f := M 1 10) hf.1 hz.1
          refine kb_nmi (fun x4_7 ex4_7 => ?_)
          refine kb_istore (lv' := [(4, kb_i x4_7), (0, .ref (ad 1)), (1, kb_i i), (2, kb_i x), (3, kb_i z)]) X dX3_weightOf_41 (by decide) rfl ?_
          refine kb_aload_n X 1 rfl dX3_weightOf_43 ?_
          refine kb_iload_n X 2 rfl dX3_weightOf_44 ?_
          refine kb_iload_n X 3 rfl dX3_weightOf_45 ?_
          refine kb_cVi X (rest := []) [kb_i i, kb_i x] 1 (fl := [some 7, some 8, some 9, some 10, none, none, none, none, none, none, none]) (C := RX3) rfl rfl (c_X3_gap l D ad cy M i x (by first | omega | assumption | exact ⟨by omega, by omega⟩) (by first | omega | assumption | exact ⟨by omega, by omega⟩) (by first | omega | assumption | exact ⟨by omega, by omega⟩)) gX3_weightOf_X3_gap rfl ⟨rfl, hy_X3_gap⟩ ⟨by decide, by decide⟩ rfl (Nat.le_of_ble_eq_true rfl) ⟨by decide, by decide⟩ dX3_weightOf_46 rfl ?_
          have g8 : 0 ≤ (sp_gap M i x) ∧ (sp_gap M i x) ≤ 4000 := by apply sp_gap_b <;> first | assumption | omega
          refine kb_nmi (fun x5_9 ex5_9 => ?_)
          refine kb_istore (lv' := [(5, kb_i x5_9), (4, kb_i x4_7), (0, .ref (ad 1)), (1, kb_i i), (2, kb_i x), (3, kb_i z)]) X dX3_weightOf_49 (by decide) rfl ?_
          refine kb_iload X 0 rfl dX3_weightOf_51 ?_
          refine kb_iload X 1 rfl dX3_weightOf_53 ?_
          refine kb_icmp_le (tgt := 60) X ⟨by omega, by omega⟩ ⟨by omega, by omega⟩ dX3_weightOf_55 (by decide) (fun h10 => ?_) (fun h10 => ?_)
          ·
            refine kb_aload_n X 2 rfl dX3_weightOf_60 ?_
            refine kg_X3_window X hi_X3_weightOf_X3 hf_X3_weightOf_32 dX3_weightOf_61 ?_
            refine kb_iconst X dX3_weightOf_64 ?_
            refine kb_icmp_ne (tgt := 72) X ⟨by omega, by omega⟩ ⟨by decide, by decide⟩ dX3_weightOf_65 (by decide) (fun h11 => ?_) (fun h11 => ?_)
            ·
              refine kb_iload X 1 rfl dX3_weightOf_72 ?_
              refine kb_iload X 0 rfl dX3_weightOf_74 ?_
              refine kb_isub X dX3_weightOf_76 ?_
              refine kb_iconst X dX3_weightOf_77 ?_
              refine kb_iadd X dX3_weightOf_78 ?_
              exact kb_iret X hr hlocks dX3_weightOf_79 (by subst_vars; simp only [sp_wt]; grind) (by rfl)
            ·
              refine kb_iconst X dX3_weightOf_68 ?_
              refine kb_goto (tgt := 79) X dX3_weightOf_69 (by decide) ?_
              exact kb_iret X hr hlocks dX3_weightOf_79 (by subst_vars; simp only [sp_wt]; grind) (by rfl)
          ·
            refine kb_iconst X dX3_weightOf_58 ?_
            exact kb_iret X hr hlocks dX3_weightOf_59 (by subst_vars; simp only [sp_wt]; grind) (by rfl)
        ·
          refine kb_iconst X dX3_weightOf_33 ?_
          exact kb_iret X hr hlocks dX3_weightOf_34 (by subst_vars; simp only [sp_wt]; grind) (by rfl)
    ·
      refine kb_iconst X dX3_weightOf_16 ?_
      exact kb_iret X hr hlocks dX3_weightOf_17 (by subst_vars; simp only [sp_wt]; grind) (by rfl)
-- X3_aim
theorem hf_X3_aim_19 : Cond.fieldLink yX3_aim.cls 19 RX3 "aimedDelays" "[I" ∈ wsX3_aim := by decide +kernel
theorem hf_X3_aim_22 : Cond.fieldLink yX3_aim.cls 22 RX3 "aimedWeights" "[I" ∈ wsX3_aim := by decide +kernel
theorem hf_X3_aim_51 : Cond.fieldLink yX3_aim.cls 51 RX3 "size" "I" ∈ wsX3_aim := by decide +kernel
theorem hf_X3_aim_79 : Cond.fieldLink yX3_aim.cls 79 RX3 "aimedTotal" "I" ∈ wsX3_aim := by decide +kernel
theorem hi_X3_aim_X3 : ∀ w ∈ wsX30, w ∈ wsX3_aim := by decide +kernel
theorem hy_X3_aim : yX3_aim.cls ≠ "java/lang/invoke/MethodHandle" ∧ yX3_aim.cls ≠ "java/lang/invoke/VarHandle" ∧ (parseMethodDescriptor yX3_aim.desc).map (fun d => d.parameters.length) = some 2 := by decide +kernel
set_option maxHeartbeats 4000000 in
set_option maxRecDepth 100000 in
theorem c_X3_aim (l : Launch) (D : va_G) (ad : Nat → Nat) (cy : Nat → ClassId) (M : kb_M) (x : Int) (z : Int) (hx : -2000 ≤ x ∧ x ≤ 2000) (hz : 0 ≤ z ∧ z ≤ 4000) (hxs : sp_xs M) (hP : 1 ≤ M 1 7 ∧ M 1 7 ≤ 1000) (hT : 1 ≤ M 1 8 ∧ M 1 8 ≤ 1000) (hf : 1 ≤ M 1 10 ∧ M 1 10 ≤ 9) (hn : 0 ≤ M 1 5 ∧ M 1 5 ≤ 16) : kb_Cv l D ad cy yX3_aim wsX3_aim 3 75 [.ref (ad 1), kb_i x, kb_i z] M (sp_aim M x z) := by
  refine kb_mkCv (cc := cX3_aim) (maxL := 4) (lv := [(0, .ref (ad 1)), (1, kb_i x), (2, kb_i z)]) (plainFor_of_name (by decide)) rfl (Nat.le_of_ble_eq_true rfl) rfl ?_
  intro p e s m args below meth c X hr hlocks hM
  refine kb_aload_n X 0 rfl dX3_aim_0 ?_
  refine kb_iconst X dX3_aim_1 ?_
  refine kp_X3_aimedTotal X hi_X3_aim_X3 hf_X3_aim_79 ⟨by decide, by decide⟩ dX3_aim_2 ?_
  refine kb_iconst X dX3_aim_5 ?_
  refine kb_istore_n (lv' := [(3, kb_i 0), (0, .ref (ad 1)), (1, kb_i x), (2, kb_i z)]) X dX3_aim_6 (by decide) rfl ?_
  have L7 : ∀ nn_ : Nat, ∀ (a : Int), (16 - a).toNat < nn_ → (0 ≤ a ∧ a ≤ M 1 5) → kb_B p l e ({ frames := 3, cells := 0, slots := 0, locals := 75 } : Room) s m args below meth c D ad cy (kb_A ad s.heap.size) 4 0 0 (MQ below (va_Qv (fun (_ : Unit) => True) (fun _ t => kb_en2 D ad cy (sp_aim M x z) t) (kb_A ad s.heap.size)) args s 0 0 (kb_A ad s.heap.size)) 7 [(0, .ref (ad 1)), (1, kb_i x), (2, kb_i z), (3, kb_i a)] [] ((sp_aimI M x z a)) := by
    intro nn_
    induction nn_ with
    | zero => intro a hn; exact absurd hn (Nat.not_lt_zero _)
    | succ nn_ ih1 =>
      intro a hn hI
      have sb := sp_ws_b (x := x) (z := z) hxs hx hf hz a (by omega)
      refine kb_iload_n X 3 rfl dX3_aim_7 ?_
      refine kb_aload_n X 0 rfl dX3_aim_8 ?_
      refine kg_X3_size X hi_X3_aim_X3 hf_X3_aim_51 dX3_aim_9 ?_
      refine kb_eqi (b := M 1 5) (by first | rfl | simp [kb_wr]) ?_
      have g2 : -2147483648 ≤ M 1 5 ∧ M 1 5 < 2147483648 := hM 1 5
      refine kb_icmp_ge (tgt := 68) X ⟨by omega, by omega⟩ ⟨by omega, by omega⟩ dX3_aim_12 (by decide) (fun h3 => ?_) (fun h3 => ?_)
      ·
        exact kb_vret X hr hlocks dX3_aim_68 (by (have e : a = M 1 5 := by omega); rw [e]; rfl)
      ·
        refine kb_iload_n X 3 rfl dX3_aim_15 ?_
        refine kb_bipush X (by decide) dX3_aim_16 ?_
        refine kb_icmp_ge (tgt := 68) X ⟨by omega, by omega⟩ ⟨by decide, by decide⟩ dX3_aim_18 (by decide) (fun h4 => ?_) (fun h4 => ?_)
        ·
          exact kb_vret X hr hlocks dX3_aim_68 (by (have e : a = M 1 5 := by omega); rw [e]; rfl)
        ·
          refine kb_aload_n X 0 rfl dX3_aim_21 ?_
          refine kg_X3_aimedDelays X hi_X3_aim_X3 hf_X3_aim_19 dX3_aim_22 ?_
          refine kb_iload_n X 3 rfl dX3_aim_25 ?_
          refine kb_aload_n X 0 rfl dX3_aim_26 ?_
          refine kb_iload_n X 3 rfl dX3_aim_27 ?_
          refine kb_iload_n X 1 rfl dX3_aim_28 ?_
          refine kb_iload_n X 2 rfl dX3_aim_29 ?_
          refine kb_cVi X (rest := [kb_i a, .ref (ad 9)]) [kb_i a, kb_i x, kb_i z] 1 (fl := [some 7, some 8, some 9, some 10, none, none, none, none, none, none, none]) (C := RX3) rfl rfl (c_X3_delayOf l D ad cy ((sp_aimI M x z a)) a x z (by first | omega | assumption | exact ⟨by omega, by omega⟩) (by first | omega | assumption | exact ⟨by omega, by omega⟩) (by first | omega | assumption | exact ⟨by omega, by omega⟩) (by first | omega | assumption | exact ⟨by omega, by omega⟩) (by first | omega | assumption | exact ⟨by omega, by omega⟩) (by first | omega | assumption | exact ⟨by omega, by omega⟩)) gX3_aim_X3_delayOf rfl ⟨rfl, hy_X3_delayOf⟩ ⟨by decide, by decide⟩ rfl (Nat.le_of_ble_eq_true rfl) ⟨by decide, by decide⟩ dX3_aim_30 rfl ?_
          have g5 : 0 ≤ (sp_dly M a x z) ∧ (sp_dly M a x z) ≤ 16001000 := by apply sp_dly_b <;> first | assumption | omega
          refine kb_eqi (b := sp_dly M a x z) (rfl) ?_
          refine kb_iast X 9 (n := 16) rfl ⟨by omega, by omega⟩ (by decide) ⟨by omega, by omega⟩ dX3_aim_33 ?_
          refine kb_aload_n X 0 rfl dX3_aim_34 ?_
          refine kg_X3_aimedWeights X hi_X3_aim_X3 hf_X3_aim_22 dX3_aim_35 ?_
          refine kb_iload_n X 3 rfl dX3_aim_38 ?_
          refine kb_aload_n X 0 rfl dX3_aim_39 ?_
          refine kb_iload_n X 3 rfl dX3_aim_40 ?_
          refine kb_iload_n X 1 rfl dX3_aim_41 ?_
          refine kb_iload_n X 2 rfl dX3_aim_42 ?_
          refine kb_cVi X (rest := [kb_i a, .ref (ad 10)]) [kb_i a, kb_i x, kb_i z] 1 (fl := [some 7, some 8, some 9, some 10, none, none, none, none, none, none, none]) (C := RX3) rfl rfl (c_X3_weightOf l D ad cy (kb_wr ((sp_aimI M x z a)) 9 a (sp_dly M a x z)) a x z (by first | omega | assumption | exact ⟨by omega, by omega⟩) (by first | omega | assumption | exact ⟨by omega, by omega⟩) (by first | omega | assumption | exact ⟨by omega, by omega⟩) (by first | omega | assumption | exact ⟨by omega, by omega⟩) (by first | omega | assumption | exact ⟨by omega, by omega⟩)) gX3_aim_X3_weightOf rfl ⟨rfl, hy_X3_weightOf⟩ ⟨by decide, by decide⟩ rfl (Nat.le_of_ble_eq_true rfl) ⟨by decide, by decide⟩ dX3_aim_43 rfl ?_
          have g6 : 0 ≤ (sp_wt M a x z) ∧ (sp_wt M a x z) ≤ 4001 := by apply sp_wt_b2 <;> first | assumption | omega
          refine kb_eqi (b := sp_wt M a x z) (rfl) ?_
          refine kb_iast X 10 (n := 16) rfl ⟨by omega, by omega⟩ (by decide) ⟨by omega, by omega⟩ dX3_aim_46 ?_
          refine kb_aload_n X 0 rfl dX3_aim_47 ?_
          refine kb_dup X rfl dX3_aim_48 ?_
          refine kg_X3_aimedTotal X hi_X3_aim_X3 hf_X3_aim_79 dX3_aim_49 ?_
          refine kb_eqi (b := sp_sum (fun b => sp_wt M b x z) a.toNat) (by first | rfl | simp [kb_wr]) ?_
          refine kb_aload_n X 0 rfl dX3_aim_52 ?_
          refine kg_X3_aimedWeights X hi_X3_aim_X3 hf_X3_aim_22 dX3_aim_53 ?_
          refine kb_iload_n X 3 rfl dX3_aim_56 ?_
          refine kb_iald X 10 (n := 16) rfl ⟨by omega, by omega⟩ (by decide) dX3_aim_57 ?_
          refine kb_eqi (b := (sp_wt M a x z)) (by first | rfl | simp [kb_wr]) ?_
          refine kb_iadd X dX3_aim_58 ?_
          refine kp_X3_aimedTotal X hi_X3_aim_X3 hf_X3_aim_79 ⟨by omega, by omega⟩ dX3_aim_59 ?_
          refine kb_iinc (lv' := [(3, kb_i (a + 1)), (0, .ref (ad 1)), (1, kb_i x), (2, kb_i z)]) X 3 rfl dX3_aim_62 rfl (by decide) rfl ?_
          refine kb_goto (tgt := 7) X dX3_aim_65 (by decide) ?_
          refine kb_sub [1, 2, 3, 0] (lv' := [(0, .ref (ad 1)), (1, kb_i x), (2, kb_i z), (3, kb_i (a + 1))]) rfl ?_
          refine kb_eqM (M' := sp_aimI M x z (a + 1)) ((sp_aimI_S M x z a hI.1).symm) ?_
          exact ih1 (a + 1) (by omega) (by first | omega | assumption | exact ⟨by omega, by omega⟩)
  refine kb_sub [1, 2, 3, 0] (lv' := [(0, .ref (ad 1)), (1, kb_i x), (2, kb_i z), (3, kb_i 0)]) rfl ?_
  refine kb_eqM (M' := sp_aimI M x z 0) ((sp_aimI_0 M x z).symm) ?_
  exact L7 _ 0 (Nat.lt_succ_self _) (by first | omega | assumption | exact ⟨by omega, by omega⟩)
-- X3_aimedDelay
theorem hf_X3_aimedDelay_19 : Cond.fieldLink yX3_aimedDelay.cls 19 RX3 "aimedDelays" "[I" ∈ wsX3_aimedDelay := by decide +kernel
theorem hi_X3_aimedDelay_X3 : ∀ w ∈ wsX30, w ∈ wsX3_aimedDelay := by decide +kernel
theorem hy_X3_aimedDelay : yX3_aimedDelay.cls ≠ "java/lang/invoke/MethodHandle" ∧ yX3_aimedDelay.cls ≠ "java/lang/invoke/VarHandle" ∧ (parseMethodDescriptor yX3_aimedDelay.desc).map (fun d => d.parameters.length) = some 1 := by decide +kernel
set_option maxHeartbeats 4000000 in
set_option maxRecDepth 100000 in
theorem c_X3_aimedDelay (l : Launch) (D : va_G) (ad : Nat → Nat) (cy : Nat → ClassId) (M : kb_M) (i : Int) (hi : -2147483648 ≤ i ∧ i < 2147483648) : kb_Ci l D ad cy yX3_aimedDelay wsX3_aimedDelay 1 21 [.ref (ad 1), kb_i i] M (sp_ad M i) (M) := by
  refine kb_mkCi (cc := cX3_aimedDelay) (maxL := 2) (lv := [(0, .ref (ad 1)), (1, kb_i i)]) (plainFor_of_name (by decide)) rfl (Nat.le_of_ble_eq_true rfl) rfl ?_
  intro p e s m args below meth c X hr hlocks hM
  refine kb_aload_n X 0 rfl dX3_aimedDelay_0 ?_
  refine kb_iload_n X 1 rfl dX3_aimedDelay_1 ?_
  refine kb_cVi X (rest := []) [kb_i i] 1 (fl := [some 7, some 8, some 9, some 10, none, none, none, none, none, none, none]) (C := RX3) rfl rfl (c_X3_has l D ad cy M i (by first | omega | assumption | exact ⟨by omega, by omega⟩)) gX3_aimedDelay_X3_has rfl ⟨rfl, hy_X3_has⟩ ⟨by decide, by decide⟩ rfl (Nat.le_of_ble_eq_true rfl) ⟨by decide, by decide⟩ dX3_aimedDelay_2 rfl ?_
  refine kb_ifb_eq (tgt := 17) X dX3_aimedDelay_5 (by decide) (fun h1 => ?_) (fun h1 => ?_)
  ·
    refine kb_iconst X dX3_aimedDelay_17 ?_
    exact kb_iret X hr hlocks dX3_aimedDelay_18 (by unfold sp_ad; first | rw [if_pos (by omega)] | rw [if_neg (by omega)]) (by rfl)
  ·
    refine kb_aload_n X 0 rfl dX3_aimedDelay_8 ?_
    refine kg_X3_aimedDelays X hi_X3_aimedDelay_X3 hf_X3_aimedDelay_19 dX3_aimedDelay_9 ?_
    refine kb_iload_n X 1 rfl dX3_aimedDelay_12 ?_
    refine kb_iald X 9 (n := 16) rfl ⟨by omega, by omega⟩ (by decide) dX3_aimedDelay_13 ?_
    have g2 : -2147483648 ≤ M 9 i ∧ M 9 i < 2147483648 := hM 9 i
    refine kb_goto (tgt := 18) X dX3_aimedDelay_14 (by decide) ?_
    exact kb_iret X hr hlocks dX3_aimedDelay_18 (by unfold sp_ad; first | rw [if_pos (by omega)] | rw [if_neg (by omega)]) (by rfl)
-- X3_aimedWeight
theorem hf_X3_aimedWeight_22 : Cond.fieldLink yX3_aimedWeight.cls 22 RX3 "aimedWeights" "[I" ∈ wsX3_aimedWeight := by decide +kernel
theorem hi_X3_aimedWeight_X3 : ∀ w ∈ wsX30, w ∈ wsX3_aimedWeight := by decide +kernel
theorem hy_X3_aimedWeight : yX3_aimedWeight.cls ≠ "java/lang/invoke/MethodHandle" ∧ yX3_aimedWeight.cls ≠ "java/lang/invoke/VarHandle" ∧ (parseMethodDescriptor yX3_aimedWeight.desc).map (fun d => d.parameters.length) = some 1 := by decide +kernel
set_option maxHeartbeats 4000000 in
set_option maxRecDepth 100000 in
theorem c_X3_aimedWeight (l : Launch) (D : va_G) (ad : Nat → Nat) (cy : Nat → ClassId) (M : kb_M) (i : Int) (hi : -2147483648 ≤ i ∧ i < 2147483648) : kb_Ci l D ad cy yX3_aimedWeight wsX3_aimedWeight 1 21 [.ref (ad 1), kb_i i] M (sp_aw M i) (M) := by
  refine kb_mkCi (cc := cX3_aimedWeight) (maxL := 2) (lv := [(0, .ref (ad 1)), (1, kb_i i)]) (plainFor_of_name (by decide)) rfl (Nat.le_of_ble_eq_true rfl) rfl ?_
  intro p e s m args below meth c X hr hlocks hM
  refine kb_aload_n X 0 rfl dX3_aimedWeight_0 ?_
  refine kb_iload_n X 1 rfl dX3_aimedWeight_1 ?_
  refine kb_cVi X (rest := []) [kb_i i] 1 (fl := [some 7, some 8, some 9, some 10, none, none, none, none, none, none, none]) (C := RX3) rfl rfl (c_X3_has l D ad cy M i (by first | omega | assumption | exact ⟨by omega, by omega⟩)) gX3_aimedWeight_X3_has rfl ⟨rfl, hy_X3_has⟩ ⟨by decide, by decide⟩ rfl (Nat.le_of_ble_eq_true rfl) ⟨by decide, by decide⟩ dX3_aimedWeight_2 rfl ?_
  refine kb_ifb_eq (tgt := 17) X dX3_aimedWeight_5 (by decide) (fun h1 => ?_) (fun h1 => ?_)
  ·
    refine kb_iconst X dX3_aimedWeight_17 ?_
    exact kb_iret X hr hlocks dX3_aimedWeight_18 (by unfold sp_aw; first | rw [if_pos (by omega)] | rw [if_neg (by omega)]) (by rfl)
  ·
    refine kb_aload_n X 0 rfl dX3_aimedWeight_8 ?_
    refine kg_X3_aimedWeights X hi_X3_aimedWeight_X3 hf_X3_aimedWeight_22 dX3_aimedWeight_9 ?_
    refine kb_iload_n X 1 rfl dX3_aimedWeight_12 ?_
    refine kb_iald X 10 (n := 16) rfl ⟨by omega, by omega⟩ (by decide) dX3_aimedWeight_13 ?_
    have g2 : -2147483648 ≤ M 10 i ∧ M 10 i < 2147483648 := hM 10 i
    refine kb_goto (tgt := 18) X dX3_aimedWeight_14 (by decide) ?_
    exact kb_iret X hr hlocks dX3_aimedWeight_18 (by unfold sp_aw; first | rw [if_pos (by omega)] | rw [if_neg (by omega)]) (by rfl)
-- X3_setDead
theorem hf_X3_setDead_15 : Cond.fieldLink yX3_setDead.cls 15 RX3 "deads" "[Z" ∈ wsX3_setDead := by decide +kernel
theorem hf_X3_setDead_54 : Cond.fieldLink yX3_setDead.cls 54 RX3 "alive" "I" ∈ wsX3_setDead := by decide +kernel
theorem hi_X3_setDead_X3 : ∀ w ∈ wsX30, w ∈ wsX3_setDead := by decide +kernel
theorem hy_X3_setDead : yX3_setDead.cls ≠ "java/lang/invoke/MethodHandle" ∧ yX3_setDead.cls ≠ "java/lang/invoke/VarHandle" ∧ (parseMethodDescriptor yX3_setDead.desc).map (fun d => d.parameters.length) = some 2 := by decide +kernel
set_option maxHeartbeats 4000000 in
set_option maxRecDepth 100000 in
theorem c_X3_setDead (l : Launch) (D : va_G) (ad : Nat → Nat) (cy : Nat → ClassId) (M : kb_M) (i : Int) (d : Int) (hi : 0 ≤ i ∧ i < M 1 5 ∧ i < 16) (hd : d = 0 ∨ d = 1) (ha : 0 ≤ M 1 6 ∧ M 1 6 ≤ 16) : kb_Cv l D ad cy yX3_setDead wsX3_setDead 1 21 [.ref (ad 1), kb_i i, kb_i d] M (kb_wr (kb_wr M 8 i d) 1 6 (M 1 6 + 1 - 2 * d)) := by
  refine kb_mkCv (cc := cX3_setDead) (maxL := 3) (lv := [(0, .ref (ad 1)), (1, kb_i i), (2, kb_i d)]) (plainFor_of_name (by decide)) rfl (Nat.le_of_ble_eq_true rfl) rfl ?_
  intro p e s m args below meth c X hr hlocks hM
  refine kb_aload_n X 0 rfl dX3_setDead_0 ?_
  refine kb_iload_n X 1 rfl dX3_setDead_1 ?_
  refine kb_cVi X (rest := []) [kb_i i] 1 (fl := [some 7, some 8, some 9, some 10, none, none, none, none, none, none, none]) (C := RX3) rfl rfl (c_X3_has l D ad cy M i (by first | omega | assumption | exact ⟨by omega, by omega⟩)) gX3_setDead_X3_has rfl ⟨rfl, hy_X3_has⟩ ⟨by decide, by decide⟩ rfl (Nat.le_of_ble_eq_true rfl) ⟨by decide, by decide⟩ dX3_setDead_2 rfl ?_
  refine kb_ifb_eq (tgt := 33) X dX3_setDead_5 (by decide) (fun h1 => ?_) (fun h1 => ?_)
  ·
    exact kb_vret X hr hlocks dX3_setDead_33 (by first | (exfalso; omega) | (congr 1; omega))
  ·
    refine kb_aload_n X 0 rfl dX3_setDead_8 ?_
    refine kg_X3_deads X hi_X3_setDead_X3 hf_X3_setDead_15 dX3_setDead_9 ?_
    refine kb_iload_n X 1 rfl dX3_setDead_12 ?_
    refine kb_iload_n X 2 rfl dX3_setDead_13 ?_
    refine kb_zast X 8 (n := 16) rfl ⟨by omega, by omega⟩ (by decide) (by omega) dX3_setDead_14 ?_
    refine kb_aload_n X 0 rfl dX3_setDead_15 ?_
    refine kb_dup X rfl dX3_setDead_16 ?_
    refine kg_X3_alive X hi_X3_setDead_X3 hf_X3_setDead_54 dX3_setDead_17 ?_
    refine kb_eqi (b := M 1 6) (by first | rfl | simp [kb_wr]) ?_
    have g2 : -2147483648 ≤ M 1 6 ∧ M 1 6 < 2147483648 := hM 1 6
    refine kb_iload_n X 2 rfl dX3_setDead_20 ?_
    refine kb_if_eq (tgt := 28) X ⟨by omega, by omega⟩ dX3_setDead_21 (by decide) (fun h3 => ?_) (fun h3 => ?_)
    ·
      refine kb_iconst X dX3_setDead_28 ?_
      refine kb_iadd X dX3_setDead_29 ?_
      refine kp_X3_alive X hi_X3_setDead_X3 hf_X3_setDead_54 ⟨by omega, by omega⟩ dX3_setDead_30 ?_
      exact kb_vret X hr hlocks dX3_setDead_33 (by first | (exfalso; omega) | (congr 1; omega))
    ·
      refine kb_iconst X dX3_setDead_24 ?_
      refine kb_goto (tgt := 29) X dX3_setDead_25 (by decide) ?_
      refine kb_iadd X dX3_setDead_29 ?_
      refine kp_X3_alive X hi_X3_setDead_X3 hf_X3_setDead_54 ⟨by omega, by omega⟩ dX3_setDead_30 ?_
      exact kb_vret X hr hlocks dX3_setDead_33 (by first | (exfalso; omega) | (congr 1; omega))
-- X3_renew
theorem hf_X3_renew_9 : Cond.fieldLink yX3_renew.cls 9 RX3 "xs" "[I" ∈ wsX3_renew := by decide +kernel
theorem hf_X3_renew_15 : Cond.fieldLink yX3_renew.cls 15 RX3 "deads" "[Z" ∈ wsX3_renew := by decide +kernel
theorem hf_X3_renew_51 : Cond.fieldLink yX3_renew.cls 51 RX3 "size" "I" ∈ wsX3_renew := by decide +kernel
theorem hf_X3_renew_54 : Cond.fieldLink yX3_renew.cls 54 RX3 "alive" "I" ∈ wsX3_renew := by decide +kernel
theorem hi_X3_renew_X3 : ∀ w ∈ wsX30, w ∈ wsX3_renew := by decide +kernel
theorem hy_X3_renew : yX3_renew.cls ≠ "java/lang/invoke/MethodHandle" ∧ yX3_renew.cls ≠ "java/lang/invoke/VarHandle" ∧ (parseMethodDescriptor yX3_renew.desc).map (fun d => d.parameters.length) = some 3 := by decide +kernel
theorem hm_X3_renew_max : Cond.methodLink yX3_renew.cls 48 Lib.Math.max.name ∈ wsX3_renew ∧ Cond.static Lib.Math.max.name ∈ wsX3_renew ∧ Cond.initialized "java/lang/Math" ∈ wsX3_renew ∧ Cond.code Lib.Math.max.name Lib.Math.max.code 2 (some .int) ∈ wsX3_renew := by decide +kernel
theorem hm_X3_renew_min : Cond.methodLink yX3_renew.cls 42 Lib.Math.min.name ∈ wsX3_renew ∧ Cond.static Lib.Math.min.name ∈ wsX3_renew ∧ Cond.initialized "java/lang/Math" ∈ wsX3_renew ∧ Cond.code Lib.Math.min.name Lib.Math.min.code 2 (some .int) ∈ wsX3_renew := by decide +kernel
set_option maxHeartbeats 4000000 in
set_option maxRecDepth 100000 in
theorem c_X3_renew (l : Launch) (D : va_G) (ad : Nat → Nat) (cy : Nat → ClassId) (M : kb_M) (n : Int) (f : Int) (p0 : Int) (hn : 0 ≤ n ∧ n ≤ 16) (hf : -2000 ≤ f ∧ f ≤ 2000) (hp : 1 ≤ p0 ∧ p0 ≤ 200) : kb_Cv l D ad cy yX3_renew wsX3_renew 1 24 [.ref (ad 1), kb_i n, kb_i f, kb_i p0] M (sp_rn M n f p0 n) := by
  refine kb_mkCv (cc := cX3_renew) (maxL := 5) (lv := [(0, .ref (ad 1)), (1, kb_i n), (2, kb_i f), (3, kb_i p0)]) (plainFor_of_name (by decide)) rfl (Nat.le_of_ble_eq_true rfl) rfl ?_
  intro p e s m args below meth c X hr hlocks hM
  refine kb_aload_n X 0 rfl dX3_renew_0 ?_
  refine kb_iconst X dX3_renew_1 ?_
  refine kb_iload_n X 1 rfl dX3_renew_2 ?_
  refine kb_bipush X (by decide) dX3_renew_3 ?_
  refine kb_mmin X ⟨by omega, by omega⟩ ⟨by decide, by decide⟩ hm_X3_renew_min.1 hm_X3_renew_min.2.1 hm_X3_renew_min.2.2.1 hm_X3_renew_min.2.2.2 (by decide) (Nat.le_of_ble_eq_true rfl) (by decide) (by decide) dX3_renew_5 ?_
  refine kb_mmax X ⟨by decide, by decide⟩ ⟨by omega, by omega⟩ hm_X3_renew_max.1 hm_X3_renew_max.2.1 hm_X3_renew_max.2.2.1 hm_X3_renew_max.2.2.2 (by decide) (Nat.le_of_ble_eq_true rfl) (by decide) (by decide) dX3_renew_8 ?_
  refine kb_eqi (b := n) (by omega) ?_
  refine kp_X3_size X hi_X3_renew_X3 hf_X3_renew_51 ⟨by omega, by omega⟩ dX3_renew_11 ?_
  refine kb_aload_n X 0 rfl dX3_renew_14 ?_
  refine kb_aload_n X 0 rfl dX3_renew_15 ?_
  refine kg_X3_size X hi_X3_renew_X3 hf_X3_renew_51 dX3_renew_16 ?_
  refine kb_eqi (b := n) (by first | rfl | simp [kb_wr]) ?_
  refine kp_X3_alive X hi_X3_renew_X3 hf_X3_renew_54 ⟨by omega, by omega⟩ dX3_renew_19 ?_
  refine kb_iconst X dX3_renew_22 ?_
  refine kb_istore (lv' := [(4, kb_i 0), (0, .ref (ad 1)), (1, kb_i n), (2, kb_i f), (3, kb_i p0)]) X dX3_renew_23 (by decide) rfl ?_
  have L25 : ∀ nn_ : Nat, ∀ (a : Int), (16 - a).toNat < nn_ → (0 ≤ a ∧ a ≤ n) → kb_B p l e ({ frames := 1, cells := 0, slots := 0, locals := 24 } : Room) s m args below meth c D ad cy (kb_A ad s.heap.size) 5 0 0 (MQ below (va_Qv (fun (_ : Unit) => True) (fun _ t => kb_en2 D ad cy (sp_rn M n f p0 n) t) (kb_A ad s.heap.size)) args s 0 0 (kb_A ad s.heap.size)) 25 [(0, .ref (ad 1)), (1, kb_i n), (2, kb_i f), (3, kb_i p0), (4, kb_i a)] [] ((sp_rn M n f p0 a)) := by
    intro nn_
    induction nn_ with
    | zero => intro a hn; exact absurd hn (Nat.not_lt_zero _)
    | succ nn_ ih1 =>
      intro a hn hI
      refine kb_iload X 4 rfl dX3_renew_25 ?_
      refine kb_aload_n X 0 rfl dX3_renew_27 ?_
      refine kg_X3_size X hi_X3_renew_X3 hf_X3_renew_51 dX3_renew_28 ?_
      refine kb_eqi (b := n) (by first | rfl | simp [kb_wr]) ?_
      refine kb_icmp_ge (tgt := 61) X ⟨by omega, by omega⟩ ⟨by omega, by omega⟩ dX3_renew_31 (by decide) (fun h2 => ?_) (fun h2 => ?_)
      ·
        exact kb_vret X hr hlocks dX3_renew_61 (by (have e : a = n := by omega); rw [e])
      ·
        have m1 := sp_mulb (a := a) (b := p0) (A := 16) (B := 200) (by omega) (by omega) (by omega) (by omega)
        refine kb_aload_n X 0 rfl dX3_renew_34 ?_
        refine kg_X3_xs X hi_X3_renew_X3 hf_X3_renew_9 dX3_renew_35 ?_
        refine kb_iload X 4 rfl dX3_renew_38 ?_
        refine kb_iload_n X 2 rfl dX3_renew_40 ?_
        refine kb_iload X 4 rfl dX3_renew_41 ?_
        refine kb_iload_n X 3 rfl dX3_renew_43 ?_
        refine kb_imul X dX3_renew_44 ?_
        refine kb_iadd X dX3_renew_45 ?_
        refine kb_iast X 7 (n := 16) rfl ⟨by omega, by omega⟩ (by decide) ⟨by omega, by omega⟩ dX3_renew_46 ?_
        refine kb_aload_n X 0 rfl dX3_renew_47 ?_
        refine kg_X3_deads X hi_X3_renew_X3 hf_X3_renew_15 dX3_renew_48 ?_
        refine kb_iload X 4 rfl dX3_renew_51 ?_
        refine kb_iconst X dX3_renew_53 ?_
        refine kb_zast X 8 (n := 16) rfl ⟨by omega, by omega⟩ (by decide) (by omega) dX3_renew_54 ?_
        refine kb_iinc (lv' := [(4, kb_i (a + 1)), (0, .ref (ad 1)), (1, kb_i n), (2, kb_i f), (3, kb_i p0)]) X 4 rfl dX3_renew_55 rfl (by decide) rfl ?_
        refine kb_goto (tgt := 25) X dX3_renew_58 (by decide) ?_
        refine kb_sub [1, 2, 3, 4, 0] (lv' := [(0, .ref (ad 1)), (1, kb_i n), (2, kb_i f), (3, kb_i p0), (4, kb_i (a + 1))]) rfl ?_
        refine kb_eqM (M' := sp_rn M n f p0 (a + 1)) ((sp_rn_S M n f p0 a hI.1).symm) ?_
        exact ih1 (a + 1) (by omega) (by first | omega | assumption | exact ⟨by omega, by omega⟩)
  refine kb_sub [1, 2, 3, 4, 0] (lv' := [(0, .ref (ad 1)), (1, kb_i n), (2, kb_i f), (3, kb_i p0), (4, kb_i 0)]) rfl ?_
  refine kb_eqM (M' := sp_rn M n f p0 0) ((sp_rn_0 M n f p0).symm) ?_
  exact L25 _ 0 (Nat.lt_succ_self _) (by first | omega | assumption | exact ⟨by omega, by omega⟩)
