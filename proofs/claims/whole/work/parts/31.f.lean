-- X7_in
theorem hy_X7_in : yX7_in.cls ≠ "java/lang/invoke/MethodHandle" ∧ yX7_in.cls ≠ "java/lang/invoke/VarHandle" ∧ (parseMethodDescriptor yX7_in.desc).map (fun d => d.parameters.length) = some 3 := by decide +kernel
set_option maxHeartbeats 4000000 in
set_option maxRecDepth 100000 in
theorem c_X7_in (l : Launch) (D : va_G) (ad : Nat → Nat) (cy : Nat → ClassId) (M : kb_M) (v : Int) (lo : Int) (hi : Int) (hv : -9223372036854775808 ≤ v ∧ v < 9223372036854775808) (hlo : -9223372036854775808 ≤ lo ∧ lo < 9223372036854775808) (hhi : -9223372036854775808 ≤ hi ∧ hi < 9223372036854775808) : kb_Ci l D ad cy yX7_in wsX7_in 0 0 [kb_l (v), kb_l (lo), kb_l (hi)] M (kb_b (lo ≤ v ∧ v ≤ hi)) (M) := by
  refine kb_mkCi (cc := cX7_in) (maxL := 6) (lv := [(0, kb_l (v)), (2, kb_l (lo)), (4, kb_l (hi))]) (plainFor_of_name (by decide)) rfl (Nat.le_of_ble_eq_true rfl) rfl ?_
  intro p e s m args below meth c X hr hlocks hM
  refine kb_lload_n X 0 rfl dX7_in_0 ?_
  refine kb_lload_n X 1 rfl dX7_in_1 ?_
  refine kb_lcmp_lt (tgt := 17) X ⟨by omega, by omega⟩ ⟨by omega, by omega⟩ dX7_in_2 dX7_in_3 (by decide) (fun h1 => ?_) (fun h1 => ?_)
  ·
    refine kb_iconst X dX7_in_17 ?_
    exact kb_zret X hr hlocks (by first | exact Or.inl rfl | exact Or.inr rfl) dX7_in_18 (by first | rfl | assumption | omega | exact (kb_b1 (by omega)).symm | exact (kb_b0 (by omega)).symm) (by first | rfl | (exfalso; omega))
  ·
    refine kb_lload_n X 0 rfl dX7_in_6 ?_
    refine kb_lload X 2 rfl dX7_in_7 ?_
    refine kb_lcmp_gt (tgt := 17) X ⟨by omega, by omega⟩ ⟨by omega, by omega⟩ dX7_in_9 dX7_in_10 (by decide) (fun h2 => ?_) (fun h2 => ?_)
    ·
      refine kb_iconst X dX7_in_17 ?_
      exact kb_zret X hr hlocks (by first | exact Or.inl rfl | exact Or.inr rfl) dX7_in_18 (by first | rfl | assumption | omega | exact (kb_b1 (by omega)).symm | exact (kb_b0 (by omega)).symm) (by first | rfl | (exfalso; omega))
    ·
      refine kb_iconst X dX7_in_13 ?_
      refine kb_goto (tgt := 18) X dX7_in_14 (by decide) ?_
      exact kb_zret X hr hlocks (by first | exact Or.inl rfl | exact Or.inr rfl) dX7_in_18 (by first | rfl | assumption | omega | exact (kb_b1 (by omega)).symm | exact (kb_b0 (by omega)).symm) (by first | rfl | (exfalso; omega))
-- X7_isPlace
theorem hy_X7_isPlace : yX7_isPlace.cls ≠ "java/lang/invoke/MethodHandle" ∧ yX7_isPlace.cls ≠ "java/lang/invoke/VarHandle" ∧ (parseMethodDescriptor yX7_isPlace.desc).map (fun d => d.parameters.length) = some 2 := by decide +kernel
set_option maxHeartbeats 4000000 in
set_option maxRecDepth 100000 in
theorem c_X7_isPlace (l : Launch) (D : va_G) (ad : Nat → Nat) (cy : Nat → ClassId) (M : kb_M) (x : Int) (z : Int) (hx : -2147483648 ≤ x ∧ x < 2147483648) (hz : -2147483648 ≤ z ∧ z < 2147483648) : kb_Ci l D ad cy yX7_isPlace wsX7_isPlace 1 25 [kb_i x, kb_i z] M (kb_b ((-2000 ≤ x ∧ x ≤ 2000) ∧ 0 ≤ z ∧ z ≤ 4000)) (M) := by
  refine kb_mkCi (cc := cX7_isPlace) (maxL := 2) (lv := [(0, kb_i x), (1, kb_i z)]) (plainFor_of_name (by decide)) rfl (Nat.le_of_ble_eq_true rfl) rfl ?_
  intro p e s m args below meth c X hr hlocks hM
  refine kb_iload_n X 0 rfl dX7_isPlace_0 ?_
  refine kb_i2l X ⟨by omega, by omega⟩ dX7_isPlace_1 ?_
  refine kb_ldc2 (v := -2000) X (-2000) (by decide +kernel) (by decide) dX7_isPlace_2 ?_
  refine kb_ldc2 (v := 2000) X (2000) (by decide +kernel) (by decide) dX7_isPlace_5 ?_
  refine kb_cSi X (rest := []) [kb_l (x), kb_l ((-2000)), kb_l (2000)] (c_X7_in l D ad cy M x ((-2000)) 2000 (by first | omega | assumption | exact ⟨by omega, by omega⟩) (by first | omega | assumption | exact ⟨by omega, by omega⟩) (by first | omega | assumption | exact ⟨by omega, by omega⟩)) gX7_isPlace_X7_in rfl hy_X7_in ⟨by decide, by decide⟩ rfl (Nat.le_of_ble_eq_true rfl) ⟨by decide, by decide⟩ dX7_isPlace_8 rfl ?_
  refine kb_ifb_eq (tgt := 30) X dX7_isPlace_11 (by decide) (fun h1 => ?_) (fun h1 => ?_)
  ·
    refine kb_iconst X dX7_isPlace_30 ?_
    exact kb_zret X hr hlocks (by first | exact Or.inl rfl | exact Or.inr rfl) dX7_isPlace_31 (by first | rfl | assumption | omega | exact (kb_b1 (by omega)).symm | exact (kb_b0 (by omega)).symm) (by first | rfl | (exfalso; omega))
  ·
    refine kb_iload_n X 1 rfl dX7_isPlace_14 ?_
    refine kb_i2l X ⟨by omega, by omega⟩ dX7_isPlace_15 ?_
    refine kb_lconst X dX7_isPlace_16 ?_
    refine kb_eql (b := 0) rfl ?_
    refine kb_ldc2 (v := 4000) X (4000) (by decide +kernel) (by decide) dX7_isPlace_17 ?_
    refine kb_cSi X (rest := []) [kb_l (z), kb_l (0), kb_l (4000)] (c_X7_in l D ad cy M z 0 4000 (by first | omega | assumption | exact ⟨by omega, by omega⟩) (by first | omega | assumption | exact ⟨by omega, by omega⟩) (by first | omega | assumption | exact ⟨by omega, by omega⟩)) gX7_isPlace_X7_in rfl hy_X7_in ⟨by decide, by decide⟩ rfl (Nat.le_of_ble_eq_true rfl) ⟨by decide, by decide⟩ dX7_isPlace_20 rfl ?_
    refine kb_ifb_eq (tgt := 30) X dX7_isPlace_23 (by decide) (fun h2 => ?_) (fun h2 => ?_)
    ·
      refine kb_iconst X dX7_isPlace_30 ?_
      exact kb_zret X hr hlocks (by first | exact Or.inl rfl | exact Or.inr rfl) dX7_isPlace_31 (by first | rfl | assumption | omega | exact (kb_b1 (by omega)).symm | exact (kb_b0 (by omega)).symm) (by first | rfl | (exfalso; omega))
    ·
      refine kb_iconst X dX7_isPlace_26 ?_
      refine kb_goto (tgt := 31) X dX7_isPlace_27 (by decide) ?_
      exact kb_zret X hr hlocks (by first | exact Or.inl rfl | exact Or.inr rfl) dX7_isPlace_31 (by first | rfl | assumption | omega | exact (kb_b1 (by omega)).symm | exact (kb_b0 (by omega)).symm) (by first | rfl | (exfalso; omega))
-- X7_probe
theorem hf_X7_probe_19 : Cond.fieldLink yX7_probe.cls 19 RX7 "n" "I" ∈ wsX7_probe := by decide +kernel
theorem hf_X7_probe_23 : Cond.fieldLink yX7_probe.cls 23 RX7 "xs" "[I" ∈ wsX7_probe := by decide +kernel
theorem hf_X7_probe_27 : Cond.fieldLink yX7_probe.cls 27 RX7 "isDead" "[Z" ∈ wsX7_probe := by decide +kernel
theorem hf_X7_probe_87 : Cond.fieldLink yX7_probe.cls 87 RX7 "looks" "I" ∈ wsX7_probe := by decide +kernel
theorem hf_X7_probe_90 : Cond.fieldLink yX7_probe.cls 90 RX7 "pictures" "I" ∈ wsX7_probe := by decide +kernel
theorem hf_X7_probe_93 : Cond.fieldLink yX7_probe.cls 93 RX7 "heat" "I" ∈ wsX7_probe := by decide +kernel
theorem hi_X7_probe_X7 : ∀ w ∈ wsX70, w ∈ wsX7_probe := by decide +kernel
theorem hy_X7_probe : yX7_probe.cls ≠ "java/lang/invoke/MethodHandle" ∧ yX7_probe.cls ≠ "java/lang/invoke/VarHandle" ∧ (parseMethodDescriptor yX7_probe.desc).map (fun d => d.parameters.length) = some 3 := by decide +kernel
set_option maxHeartbeats 4000000 in
set_option maxRecDepth 100000 in
theorem c_X7_probe (l : Launch) (D : va_G) (ad : Nat → Nat) (cy : Nat → ClassId) (M : kb_M) (n : Int) (f : Int) (p0 : Int) (hn : -2147483648 ≤ n ∧ n < 2147483648) (hf : -2147483648 ≤ f ∧ f < 2147483648) (hp0 : -2147483648 ≤ p0 ∧ p0 < 2147483648) : kb_Ci l D ad cy yX7_probe wsX7_probe 1 25 [.ref (ad 22), kb_i n, kb_i f, kb_i p0] M (sp_probeR n f p0) (mo_probeN M n f p0) := by
  refine kb_mkCi (cc := cX7_probe) (maxL := 5) (lv := [(0, .ref (ad 22)), (1, kb_i n), (2, kb_i f), (3, kb_i p0)]) (plainFor_of_name (by decide)) rfl (Nat.le_of_ble_eq_true rfl) rfl ?_
  intro p e s m args below meth c X hr hlocks hM
  refine kb_iload_n X 1 rfl dX7_probe_0 ?_
  refine kb_i2l X ⟨by omega, by omega⟩ dX7_probe_1 ?_
  refine kb_ldc2 (v := 2) X (2) (by decide +kernel) (by decide) dX7_probe_2 ?_
  refine kb_ldc2 (v := 16) X (16) (by decide +kernel) (by decide) dX7_probe_5 ?_
  refine kb_cSi X (rest := []) [kb_l (n), kb_l (2), kb_l (16)] (c_X7_in l D ad cy M n 2 16 (by first | omega | assumption | exact ⟨by omega, by omega⟩) (by first | omega | assumption | exact ⟨by omega, by omega⟩) (by first | omega | assumption | exact ⟨by omega, by omega⟩)) gX7_probe_X7_in rfl hy_X7_in ⟨by decide, by decide⟩ rfl (Nat.le_of_ble_eq_true rfl) ⟨by decide, by decide⟩ dX7_probe_8 rfl ?_
  refine kb_ifb_eq (tgt := 60) X dX7_probe_11 (by decide) (fun h1 => ?_) (fun h1 => ?_)
  ·
    refine kb_bipush X (by decide) dX7_probe_60 ?_
    exact kb_iret X hr hlocks dX7_probe_62 (by unfold sp_probeR; repeat (first | rw [if_pos (by omega)] | rw [if_neg (by omega)]); try first | rfl | omega) (by unfold mo_probeN; rw [if_neg (by omega)])
  ·
    refine kb_iload_n X 3 rfl dX7_probe_14 ?_
    refine kb_i2l X ⟨by omega, by omega⟩ dX7_probe_15 ?_
    refine kb_lconst X dX7_probe_16 ?_
    refine kb_eql (b := 1) rfl ?_
    refine kb_ldc2 (v := 200) X (200) (by decide +kernel) (by decide) dX7_probe_17 ?_
    refine kb_cSi X (rest := []) [kb_l (p0), kb_l (1), kb_l (200)] (c_X7_in l D ad cy M p0 1 200 (by first | omega | assumption | exact ⟨by omega, by omega⟩) (by first | omega | assumption | exact ⟨by omega, by omega⟩) (by first | omega | assumption | exact ⟨by omega, by omega⟩)) gX7_probe_X7_in rfl hy_X7_in ⟨by decide, by decide⟩ rfl (Nat.le_of_ble_eq_true rfl) ⟨by decide, by decide⟩ dX7_probe_20 rfl ?_
    refine kb_ifb_eq (tgt := 60) X dX7_probe_23 (by decide) (fun h2 => ?_) (fun h2 => ?_)
    ·
      refine kb_bipush X (by decide) dX7_probe_60 ?_
      exact kb_iret X hr hlocks dX7_probe_62 (by unfold sp_probeR; repeat (first | rw [if_pos (by omega)] | rw [if_neg (by omega)]); try first | rfl | omega) (by unfold mo_probeN; rw [if_neg (by omega)])
    ·
      refine kb_iload_n X 2 rfl dX7_probe_26 ?_
      refine kb_i2l X ⟨by omega, by omega⟩ dX7_probe_27 ?_
      refine kb_ldc2 (v := -2000) X (-2000) (by decide +kernel) (by decide) dX7_probe_28 ?_
      refine kb_ldc2 (v := 2000) X (2000) (by decide +kernel) (by decide) dX7_probe_31 ?_
      refine kb_cSi X (rest := []) [kb_l (f), kb_l ((-2000)), kb_l (2000)] (c_X7_in l D ad cy M f ((-2000)) 2000 (by first | omega | assumption | exact ⟨by omega, by omega⟩) (by first | omega | assumption | exact ⟨by omega, by omega⟩) (by first | omega | assumption | exact ⟨by omega, by omega⟩)) gX7_probe_X7_in rfl hy_X7_in ⟨by decide, by decide⟩ rfl (Nat.le_of_ble_eq_true rfl) ⟨by decide, by decide⟩ dX7_probe_34 rfl ?_
      refine kb_ifb_eq (tgt := 60) X dX7_probe_37 (by decide) (fun h3 => ?_) (fun h3 => ?_)
      ·
        refine kb_bipush X (by decide) dX7_probe_60 ?_
        exact kb_iret X hr hlocks dX7_probe_62 (by unfold sp_probeR; repeat (first | rw [if_pos (by omega)] | rw [if_neg (by omega)]); try first | rfl | omega) (by unfold mo_probeN; rw [if_neg (by omega)])
      ·
        have m1 := sp_mulb (a := n - 1) (b := p0) (A := 15) (B := 200) (by omega) (by omega) (by omega) (by omega)
        refine kb_iload_n X 2 rfl dX7_probe_40 ?_
        refine kb_iload_n X 1 rfl dX7_probe_41 ?_
        refine kb_iconst X dX7_probe_42 ?_
        refine kb_isub X dX7_probe_43 ?_
        refine kb_iload_n X 3 rfl dX7_probe_44 ?_
        refine kb_imul X dX7_probe_45 ?_
        refine kb_iadd X dX7_probe_46 ?_
        refine kb_i2l X ⟨by omega, by omega⟩ dX7_probe_47 ?_
        refine kb_ldc2 (v := -2000) X (-2000) (by decide +kernel) (by decide) dX7_probe_48 ?_
        refine kb_ldc2 (v := 2000) X (2000) (by decide +kernel) (by decide) dX7_probe_51 ?_
        refine kb_cSi X (rest := []) [kb_l (f + ((n - 1) * p0)), kb_l ((-2000)), kb_l (2000)] (c_X7_in l D ad cy M (f + ((n - 1) * p0)) ((-2000)) 2000 (by first | omega | assumption | exact ⟨by omega, by omega⟩) (by first | omega | assumption | exact ⟨by omega, by omega⟩) (by first | omega | assumption | exact ⟨by omega, by omega⟩)) gX7_probe_X7_in rfl hy_X7_in ⟨by decide, by decide⟩ rfl (Nat.le_of_ble_eq_true rfl) ⟨by decide, by decide⟩ dX7_probe_54 rfl ?_
        refine kb_ifb_ne (tgt := 63) X dX7_probe_57 (by decide) (fun h4 => ?_) (fun h4 => ?_)
        ·
          refine kb_aload_n X 0 rfl dX7_probe_63 ?_
          refine kb_iload_n X 1 rfl dX7_probe_64 ?_
          refine kp_X7_n X hi_X7_probe_X7 hf_X7_probe_19 ⟨by omega, by omega⟩ dX7_probe_65 ?_
          refine kb_iconst X dX7_probe_68 ?_
          refine kb_istore (lv' := [(4, kb_i 0), (0, .ref (ad 22)), (1, kb_i n), (2, kb_i f), (3, kb_i p0)]) X dX7_probe_69 (by decide) rfl ?_
          have L71 : ∀ nn_ : Nat, ∀ (a : Int), (16 - a).toNat < nn_ → (0 ≤ a ∧ a ≤ n) → kb_B p l e ({ frames := 1, cells := 0, slots := 0, locals := 25 } : Room) s m args below meth c D ad cy (kb_A ad s.heap.size) 5 0 0 (MQ below (va_Qi (fun (vq_ : Int32) (_ : Unit) => vq_ = kb_J (sp_probeR n f p0)) (fun _ t => kb_en2 D ad cy (mo_probeN M n f p0) t) (kb_A ad s.heap.size)) args s 0 0 (kb_A ad s.heap.size)) 71 [(0, .ref (ad 22)), (1, kb_i n), (2, kb_i f), (3, kb_i p0), (4, kb_i a)] [] ((mo_rnI M n f p0 a)) := by
            intro nn_
            induction nn_ with
            | zero => intro a hn; exact absurd hn (Nat.not_lt_zero _)
            | succ nn_ ih5 =>
              intro a hn hI
              refine kb_iload X 4 rfl dX7_probe_71 ?_
              refine kb_aload_n X 0 rfl dX7_probe_73 ?_
              refine kg_X7_n X hi_X7_probe_X7 hf_X7_probe_19 dX7_probe_74 ?_
              refine kb_eqi (b := n) (by first | rfl | simp [kb_wr]) ?_
              refine kb_icmp_ge (tgt := 107) X ⟨by omega, by omega⟩ ⟨by omega, by omega⟩ dX7_probe_77 (by decide) (fun h6 => ?_) (fun h6 => ?_)
              ·
                refine kb_aload_n X 0 rfl dX7_probe_107 ?_
                refine kb_iconst X dX7_probe_108 ?_
                refine kp_X7_looks X hi_X7_probe_X7 hf_X7_probe_87 ⟨by decide, by decide⟩ dX7_probe_109 ?_
                refine kb_aload_n X 0 rfl dX7_probe_112 ?_
                refine kb_iconst X dX7_probe_113 ?_
                refine kp_X7_pictures X hi_X7_probe_X7 hf_X7_probe_90 ⟨by decide, by decide⟩ dX7_probe_114 ?_
                refine kb_aload_n X 0 rfl dX7_probe_117 ?_
                refine kb_iconst X dX7_probe_118 ?_
                refine kp_X7_heat X hi_X7_probe_X7 hf_X7_probe_93 ⟨by decide, by decide⟩ dX7_probe_119 ?_
                refine kb_iconst X dX7_probe_122 ?_
                exact kb_iret X hr hlocks dX7_probe_123 (by unfold sp_probeR; repeat (first | rw [if_pos (by omega)] | rw [if_neg (by omega)]); try first | rfl | omega) (by (have e : a = n := by omega); unfold mo_probeN; rw [if_pos (by omega), e]; exact mo_rnI_E _ _ _ _)
              ·
                have m2 := sp_mulb (a := a) (b := p0) (A := 16) (B := 200) (by omega) (by omega) (by omega) (by omega)
                refine kb_aload_n X 0 rfl dX7_probe_80 ?_
                refine kg_X7_xs X hi_X7_probe_X7 hf_X7_probe_23 dX7_probe_81 ?_
                refine kb_iload X 4 rfl dX7_probe_84 ?_
                refine kb_iload_n X 2 rfl dX7_probe_86 ?_
                refine kb_iload X 4 rfl dX7_probe_87 ?_
                refine kb_iload_n X 3 rfl dX7_probe_89 ?_
                refine kb_imul X dX7_probe_90 ?_
                refine kb_iadd X dX7_probe_91 ?_
                refine kb_iast X 23 (n := 16) rfl ⟨by omega, by omega⟩ (by decide) ⟨by omega, by omega⟩ dX7_probe_92 ?_
                refine kb_aload_n X 0 rfl dX7_probe_93 ?_
                refine kg_X7_isDead X hi_X7_probe_X7 hf_X7_probe_27 dX7_probe_94 ?_
                refine kb_iload X 4 rfl dX7_probe_97 ?_
                refine kb_iconst X dX7_probe_99 ?_
                refine kb_zast X 24 (n := 16) rfl ⟨by omega, by omega⟩ (by decide) (by omega) dX7_probe_100 ?_
                refine kb_iinc (lv' := [(4, kb_i (a + 1)), (0, .ref (ad 22)), (1, kb_i n), (2, kb_i f), (3, kb_i p0)]) X 4 rfl dX7_probe_101 rfl (by decide) rfl ?_
                refine kb_goto (tgt := 71) X dX7_probe_104 (by decide) ?_
                refine kb_sub [1, 2, 3, 4, 0] (lv' := [(0, .ref (ad 22)), (1, kb_i n), (2, kb_i f), (3, kb_i p0), (4, kb_i (a + 1))]) rfl ?_
                refine kb_eqM (M' := mo_rnI M n f p0 (a + 1)) ((mo_rnI_S M n f p0 a hI.1).symm) ?_
                exact ih5 (a + 1) (by omega) (by first | omega | assumption | exact ⟨by omega, by omega⟩)
          refine kb_sub [1, 2, 3, 4, 0] (lv' := [(0, .ref (ad 22)), (1, kb_i n), (2, kb_i f), (3, kb_i p0), (4, kb_i 0)]) rfl ?_
          refine kb_eqM (M' := mo_rnI M n f p0 (0 : Int)) ((mo_rnI_0 M n f p0).symm) ?_
          exact L71 _ (0 : Int) (Nat.lt_succ_self _) (by first | omega | assumption | exact ⟨by omega, by omega⟩)
        ·
          refine kb_bipush X (by decide) dX7_probe_60 ?_
          exact kb_iret X hr hlocks dX7_probe_62 (by unfold sp_probeR; repeat (first | rw [if_pos (by omega)] | rw [if_neg (by omega)]); try first | rfl | omega) (by unfold mo_probeN; rw [if_neg (by omega)])
-- X7_pace
theorem hf_X7_pace_31 : Cond.fieldLink yX7_pace.cls 31 RX7 "steps" "I" ∈ wsX7_pace := by decide +kernel
theorem hf_X7_pace_34 : Cond.fieldLink yX7_pace.cls 34 RX7 "ticks" "I" ∈ wsX7_pace := by decide +kernel
theorem hf_X7_pace_87 : Cond.fieldLink yX7_pace.cls 87 RX7 "looks" "I" ∈ wsX7_pace := by decide +kernel
theorem hi_X7_pace_X7 : ∀ w ∈ wsX70, w ∈ wsX7_pace := by decide +kernel
theorem hy_X7_pace : yX7_pace.cls ≠ "java/lang/invoke/MethodHandle" ∧ yX7_pace.cls ≠ "java/lang/invoke/VarHandle" ∧ (parseMethodDescriptor yX7_pace.desc).map (fun d => d.parameters.length) = some 2 := by decide +kernel
set_option maxHeartbeats 4000000 in
set_option maxRecDepth 100000 in
theorem c_X7_pace (l : Launch) (D : va_G) (ad : Nat → Nat) (cy : Nat → ClassId) (M : kb_M) (p0 : Int) (q0 : Int) (hp0 : -2147483648 ≤ p0 ∧ p0 < 2147483648) (hq0 : -2147483648 ≤ q0 ∧ q0 < 2147483648) (hIL : mo_IL M) : kb_Ci l D ad cy yX7_pace wsX7_pace 1 25 [.ref (ad 22), kb_i p0, kb_i q0] M (mo_paceR M p0 q0) (mo_paceM M p0 q0) := by
  refine kb_mkCi (cc := cX7_pace) (maxL := 3) (lv := [(0, .ref (ad 22)), (1, kb_i p0), (2, kb_i q0)]) (plainFor_of_name (by decide)) rfl (Nat.le_of_ble_eq_true rfl) rfl ?_
  intro p e s m args below meth c X hr hlocks hM
  obtain ⟨hs, hsb, hsn⟩ := id hIL
  refine kb_iload_n X 1 rfl dX7_pace_0 ?_
  refine kb_i2l X ⟨by omega, by omega⟩ dX7_pace_1 ?_
  refine kb_lconst X dX7_pace_2 ?_
  refine kb_eql (b := 1) rfl ?_
  refine kb_ldc2 (v := 1000) X (1000) (by decide +kernel) (by decide) dX7_pace_3 ?_
  refine kb_cSi X (rest := []) [kb_l (p0), kb_l (1), kb_l (1000)] (c_X7_in l D ad cy M p0 1 1000 (by first | omega | assumption | exact ⟨by omega, by omega⟩) (by first | omega | assumption | exact ⟨by omega, by omega⟩) (by first | omega | assumption | exact ⟨by omega, by omega⟩)) gX7_pace_X7_in rfl hy_X7_in ⟨by decide, by decide⟩ rfl (Nat.le_of_ble_eq_true rfl) ⟨by decide, by decide⟩ dX7_pace_6 rfl ?_
  refine kb_ifb_eq (tgt := 24) X dX7_pace_9 (by decide) (fun h1 => ?_) (fun h1 => ?_)
  ·
    refine kb_bipush X (by decide) dX7_pace_24 ?_
    exact kb_iret X hr hlocks dX7_pace_26 (by unfold mo_paceR; repeat (first | rw [if_pos (by omega)] | rw [if_neg (by omega)]); try first | rfl | omega) (by unfold mo_paceM; repeat (first | rw [if_pos (by omega)] | rw [if_neg (by omega)]); try first | rfl | omega)
  ·
    refine kb_iload_n X 2 rfl dX7_pace_12 ?_
    refine kb_i2l X ⟨by omega, by omega⟩ dX7_pace_13 ?_
    refine kb_lconst X dX7_pace_14 ?_
    refine kb_eql (b := 1) rfl ?_
    refine kb_ldc2 (v := 1000) X (1000) (by decide +kernel) (by decide) dX7_pace_15 ?_
    refine kb_cSi X (rest := []) [kb_l (q0), kb_l (1), kb_l (1000)] (c_X7_in l D ad cy M q0 1 1000 (by first | omega | assumption | exact ⟨by omega, by omega⟩) (by first | omega | assumption | exact ⟨by omega, by omega⟩) (by first | omega | assumption | exact ⟨by omega, by omega⟩)) gX7_pace_X7_in rfl hy_X7_in ⟨by decide, by decide⟩ rfl (Nat.le_of_ble_eq_true rfl) ⟨by decide, by decide⟩ dX7_pace_18 rfl ?_
    refine kb_ifb_ne (tgt := 27) X dX7_pace_21 (by decide) (fun h2 => ?_) (fun h2 => ?_)
    ·
      refine kb_aload_n X 0 rfl dX7_pace_27 ?_
      refine kg_X7_looks X hi_X7_pace_X7 hf_X7_pace_87 dX7_pace_28 ?_
      have g3 : -2147483648 ≤ M 22 16 ∧ M 22 16 < 2147483648 := hM 22 16
      refine kb_if_le (tgt := 37) X ⟨by omega, by omega⟩ dX7_pace_31 (by decide) (fun h4 => ?_) (fun h4 => ?_)
      ·
        refine kb_aload_n X 0 rfl dX7_pace_37 ?_
        refine kb_iload_n X 1 rfl dX7_pace_38 ?_
        refine kp_X7_steps X hi_X7_pace_X7 hf_X7_pace_31 ⟨by omega, by omega⟩ dX7_pace_39 ?_
        refine kb_aload_n X 0 rfl dX7_pace_42 ?_
        refine kb_iload_n X 2 rfl dX7_pace_43 ?_
        refine kp_X7_ticks X hi_X7_pace_X7 hf_X7_pace_34 ⟨by omega, by omega⟩ dX7_pace_44 ?_
        refine kb_iconst X dX7_pace_47 ?_
        exact kb_iret X hr hlocks dX7_pace_48 (by unfold mo_paceR; repeat (first | rw [if_pos (by omega)] | rw [if_neg (by omega)]); try first | rfl | omega) (by unfold mo_paceM; repeat (first | rw [if_pos (by omega)] | rw [if_neg (by omega)]); try first | rfl | omega)
      ·
        refine kb_bipush X (by decide) dX7_pace_34 ?_
        exact kb_iret X hr hlocks dX7_pace_36 (by unfold mo_paceR; repeat (first | rw [if_pos (by omega)] | rw [if_neg (by omega)]); try first | rfl | omega) (by unfold mo_paceM; repeat (first | rw [if_pos (by omega)] | rw [if_neg (by omega)]); try first | rfl | omega)
    ·
      refine kb_bipush X (by decide) dX7_pace_24 ?_
      exact kb_iret X hr hlocks dX7_pace_26 (by unfold mo_paceR; repeat (first | rw [if_pos (by omega)] | rw [if_neg (by omega)]); try first | rfl | omega) (by unfold mo_paceM; repeat (first | rw [if_pos (by omega)] | rw [if_neg (by omega)]); try first | rfl | omega)
-- X7_alive
theorem hf_X7_alive_19 : Cond.fieldLink yX7_alive.cls 19 RX7 "n" "I" ∈ wsX7_alive := by decide +kernel
theorem hf_X7_alive_27 : Cond.fieldLink yX7_alive.cls 27 RX7 "isDead" "[Z" ∈ wsX7_alive := by decide +kernel
theorem hi_X7_alive_X7 : ∀ w ∈ wsX70, w ∈ wsX7_alive := by decide +kernel
theorem hy_X7_alive : yX7_alive.cls ≠ "java/lang/invoke/MethodHandle" ∧ yX7_alive.cls ≠ "java/lang/invoke/VarHandle" ∧ (parseMethodDescriptor yX7_alive.desc).map (fun d => d.parameters.length) = some 0 := by decide +kernel
set_option maxHeartbeats 4000000 in
set_option maxRecDepth 100000 in
theorem c_X7_alive (l : Launch) (D : va_G) (ad : Nat → Nat) (cy : Nat → ClassId) (M : kb_M)  (hn : 0 ≤ M 22 0 ∧ M 22 0 ≤ 16) : kb_Ci l D ad cy yX7_alive wsX7_alive 0 0 [.ref (ad 22)] M (mo_al M) (M) := by
  refine kb_mkCi (cc := cX7_alive) (maxL := 3) (lv := [(0, .ref (ad 22))]) (plainFor_of_name (by decide)) rfl (Nat.le_of_ble_eq_true rfl) rfl ?_
  intro p e s m args below meth c X hr hlocks hM
  refine kb_iconst X dX7_alive_0 ?_
  refine kb_istore_n (lv' := [(1, kb_i 0), (0, .ref (ad 22))]) X dX7_alive_1 (by decide) rfl ?_
  refine kb_iconst X dX7_alive_2 ?_
  refine kb_istore_n (lv' := [(2, kb_i 0), (1, kb_i 0), (0, .ref (ad 22))]) X dX7_alive_3 (by decide) rfl ?_
  have L4 : ∀ nn_ : Nat, ∀ (u a : Int), (16 - a).toNat < nn_ → (0 ≤ a ∧ a ≤ M 22 0) → (u = sp_sum (fun i => if M 24 i = 0 then 1 else 0) a.toNat) → kb_B p l e ({ frames := 0, cells := 0, slots := 0, locals := 0 } : Room) s m args below meth c D ad cy (kb_A ad s.heap.size) 3 0 0 (MQ below (va_Qi (fun (vq_ : Int32) (_ : Unit) => vq_ = kb_J (mo_al M)) (fun _ t => kb_en2 D ad cy (M) t) (kb_A ad s.heap.size)) args s 0 0 (kb_A ad s.heap.size)) 4 [(0, .ref (ad 22)), (1, kb_i u), (2, kb_i a)] [] M := by
    intro nn_
    induction nn_ with
    | zero => intro u a hn; exact absurd hn (Nat.not_lt_zero _)
    | succ nn_ ih1 =>
      intro u a hn hI hJ
      refine kb_iload_n X 2 rfl dX7_alive_4 ?_
      refine kb_aload_n X 0 rfl dX7_alive_5 ?_
      refine kg_X7_n X hi_X7_alive_X7 hf_X7_alive_19 dX7_alive_6 ?_
      have g2 : -2147483648 ≤ M 22 0 ∧ M 22 0 < 2147483648 := hM 22 0
      refine kb_icmp_ge (tgt := 35) X ⟨by omega, by omega⟩ ⟨by omega, by omega⟩ dX7_alive_9 (by decide) (fun h3 => ?_) (fun h3 => ?_)
      ·
        refine kb_iload_n X 1 rfl dX7_alive_35 ?_
        exact kb_iret X hr hlocks dX7_alive_36 (by (have e : a = M 22 0 := by omega); rw [hJ, e]; rfl) (by first | rfl | (exfalso; omega))
      ·
        refine kb_iload_n X 1 rfl dX7_alive_12 ?_
        refine kb_aload_n X 0 rfl dX7_alive_13 ?_
        refine kg_X7_isDead X hi_X7_alive_X7 hf_X7_alive_27 dX7_alive_14 ?_
        refine kb_iload_n X 2 rfl dX7_alive_17 ?_
        refine kb_zald X 24 (n := 16) rfl ⟨by omega, by omega⟩ (by decide) dX7_alive_18 ?_
        have g4 : -2147483648 ≤ M 24 a ∧ M 24 a < 2147483648 := hM 24 a
        refine kb_if_eq (tgt := 26) X ⟨by omega, by omega⟩ dX7_alive_19 (by decide) (fun h5 => ?_) (fun h5 => ?_)
        ·
          refine kb_iconst X dX7_alive_26 ?_
          refine kb_iadd X dX7_alive_27 ?_
          refine kb_nmi (fun x1_6 ex1_6 => ?_)
          refine kb_istore_n (lv' := [(1, kb_i x1_6), (0, .ref (ad 22)), (2, kb_i a)]) X dX7_alive_28 (by decide) rfl ?_
          refine kb_iinc (lv' := [(2, kb_i (a + 1)), (1, kb_i x1_6), (0, .ref (ad 22))]) X 2 rfl dX7_alive_29 rfl (by decide) rfl ?_
          refine kb_goto (tgt := 4) X dX7_alive_32 (by decide) ?_
          refine kb_sub [2, 1, 0] (lv' := [(0, .ref (ad 22)), (1, kb_i x1_6), (2, kb_i (a + 1))]) rfl ?_
          exact ih1 x1_6 (a + 1) (by omega) (by first | omega | assumption | exact ⟨by omega, by omega⟩) (by rw [sp_sumS _ hI.1, ← hJ]; subst_vars; first | rw [if_pos (by assumption)] | (rw [if_neg (by assumption)]))
        ·
          refine kb_iconst X dX7_alive_22 ?_
          refine kb_goto (tgt := 27) X dX7_alive_23 (by decide) ?_
          refine kb_iadd X dX7_alive_27 ?_
          refine kb_nmi (fun x1_7 ex1_7 => ?_)
          refine kb_istore_n (lv' := [(1, kb_i x1_7), (0, .ref (ad 22)), (2, kb_i a)]) X dX7_alive_28 (by decide) rfl ?_
          refine kb_iinc (lv' := [(2, kb_i (a + 1)), (1, kb_i x1_7), (0, .ref (ad 22))]) X 2 rfl dX7_alive_29 rfl (by decide) rfl ?_
          refine kb_goto (tgt := 4) X dX7_alive_32 (by decide) ?_
          refine kb_sub [2, 1, 0] (lv' := [(0, .ref (ad 22)), (1, kb_i x1_7), (2, kb_i (a + 1))]) rfl ?_
          exact ih1 x1_7 (a + 1) (by omega) (by first | omega | assumption | exact ⟨by omega, by omega⟩) (by rw [sp_sumS _ hI.1, ← hJ]; subst_vars; first | rw [if_pos (by assumption)] | (rw [if_neg (by assumption)]))
  refine kb_sub [2, 1, 0] (lv' := [(0, .ref (ad 22)), (1, kb_i 0), (2, kb_i 0)]) rfl ?_
  exact L4 _ (0 : Int) (0 : Int) (Nat.lt_succ_self _) (by first | omega | assumption | exact ⟨by omega, by omega⟩) (rfl)
-- X7_dead
theorem hf_X7_dead_19 : Cond.fieldLink yX7_dead.cls 19 RX7 "n" "I" ∈ wsX7_dead := by decide +kernel
theorem hf_X7_dead_27 : Cond.fieldLink yX7_dead.cls 27 RX7 "isDead" "[Z" ∈ wsX7_dead := by decide +kernel
theorem hi_X7_dead_X7 : ∀ w ∈ wsX70, w ∈ wsX7_dead := by decide +kernel
theorem hy_X7_dead : yX7_dead.cls ≠ "java/lang/invoke/MethodHandle" ∧ yX7_dead.cls ≠ "java/lang/invoke/VarHandle" ∧ (parseMethodDescriptor yX7_dead.desc).map (fun d => d.parameters.length) = some 2 := by decide +kernel
set_option maxHeartbeats 4000000 in
set_option maxRecDepth 100000 in
theorem c_X7_dead (l : Launch) (D : va_G) (ad : Nat → Nat) (cy : Nat → ClassId) (M : kb_M) (i : Int) (d : Int) (hi : -2147483648 ≤ i ∧ i < 2147483648) (hd : d = 0 ∨ d = 1) (hIP : mo_IP M) : kb_Ci l D ad cy yX7_dead wsX7_dead 1 25 [.ref (ad 22), kb_i i, kb_i d] M (mo_deadR M i d) (mo_deadM M i d) := by
  refine kb_mkCi (cc := cX7_dead) (maxL := 3) (lv := [(0, .ref (ad 22)), (1, kb_i i), (2, kb_i d)]) (plainFor_of_name (by decide)) rfl (Nat.le_of_ble_eq_true rfl) rfl ?_
  intro p e s m args below meth c X hr hlocks hM
  obtain ⟨hxs, hn, hP, hT, hf⟩ := id hIP
  refine kb_iload_n X 1 rfl dX7_dead_0 ?_
  refine kb_i2l X ⟨by omega, by omega⟩ dX7_dead_1 ?_
  refine kb_lconst X dX7_dead_2 ?_
  refine kb_eql (b := 0) rfl ?_
  refine kb_aload_n X 0 rfl dX7_dead_3 ?_
  refine kg_X7_n X hi_X7_dead_X7 hf_X7_dead_19 dX7_dead_4 ?_
  have g1 : -2147483648 ≤ M 22 0 ∧ M 22 0 < 2147483648 := hM 22 0
  refine kb_iconst X dX7_dead_7 ?_
  refine kb_isub X dX7_dead_8 ?_
  refine kb_i2l X ⟨by omega, by omega⟩ dX7_dead_9 ?_
  refine kb_cSi X (rest := []) [kb_l (i), kb_l (0), kb_l ((M 22 0) - 1)] (c_X7_in l D ad cy M i 0 ((M 22 0) - 1) (by first | omega | assumption | exact ⟨by omega, by omega⟩) (by first | omega | assumption | exact ⟨by omega, by omega⟩) (by first | omega | assumption | exact ⟨by omega, by omega⟩)) gX7_dead_X7_in rfl hy_X7_in ⟨by decide, by decide⟩ rfl (Nat.le_of_ble_eq_true rfl) ⟨by decide, by decide⟩ dX7_dead_10 rfl ?_
  refine kb_ifb_ne (tgt := 19) X dX7_dead_13 (by decide) (fun h2 => ?_) (fun h2 => ?_)
  ·
    refine kb_aload_n X 0 rfl dX7_dead_19 ?_
    refine kg_X7_isDead X hi_X7_dead_X7 hf_X7_dead_27 dX7_dead_20 ?_
    refine kb_iload_n X 1 rfl dX7_dead_23 ?_
    refine kb_zald X 24 (n := 16) rfl ⟨by omega, by omega⟩ (by decide) dX7_dead_24 ?_
    have g3 : -2147483648 ≤ M 24 i ∧ M 24 i < 2147483648 := hM 24 i
    refine kb_iload_n X 2 rfl dX7_dead_25 ?_
    refine kb_icmp_eq (tgt := 41) X ⟨by omega, by omega⟩ ⟨by omega, by omega⟩ dX7_dead_26 (by decide) (fun h4 => ?_) (fun h4 => ?_)
    ·
      refine kb_bipush X (by decide) dX7_dead_41 ?_
      exact kb_iret X hr hlocks dX7_dead_43 (by unfold mo_deadR; repeat (first | rw [if_pos (by omega)] | rw [if_neg (by omega)]); try first | rfl | omega) (by unfold mo_deadM; repeat (first | rw [if_pos (by omega)] | rw [if_neg (by omega)]); try first | rfl | omega)
    ·
      refine kb_iload_n X 2 rfl dX7_dead_29 ?_
      refine kb_if_eq (tgt := 44) X ⟨by omega, by omega⟩ dX7_dead_30 (by decide) (fun h5 => ?_) (fun h5 => ?_)
      ·
        refine kb_aload_n X 0 rfl dX7_dead_44 ?_
        refine kg_X7_isDead X hi_X7_dead_X7 hf_X7_dead_27 dX7_dead_45 ?_
        refine kb_iload_n X 1 rfl dX7_dead_48 ?_
        refine kb_iload_n X 2 rfl dX7_dead_49 ?_
        refine kb_zast X 24 (n := 16) rfl ⟨by omega, by omega⟩ (by decide) (by omega) dX7_dead_50 ?_
        refine kb_iconst X dX7_dead_51 ?_
        exact kb_iret X hr hlocks dX7_dead_52 (by unfold mo_deadR; repeat (first | rw [if_pos (by omega)] | rw [if_neg (by omega)]); try first | rfl | omega) (by unfold mo_deadM; repeat (first | rw [if_pos (by omega)] | rw [if_neg (by omega)]); try first | rfl | omega)
      ·
        refine kb_aload_n X 0 rfl dX7_dead_33 ?_
        refine kb_cVi X (rest := []) [] 22 (fl := [none, some 23, some 24, none, none, none, none, none, none, none, none, some 25, some 26, some 27, some 28, some 29, none, some 30, some 31, none, some 32, some 33, some 34, some 35, none, none, none, some 36]) (C := RX7) rfl rfl (c_X7_alive l D ad cy M  (by first | omega | assumption | exact ⟨by omega, by omega⟩)) gX7_dead_X7_alive rfl ⟨rfl, hy_X7_alive⟩ ⟨by decide, by decide⟩ rfl (Nat.le_of_ble_eq_true rfl) ⟨by decide, by decide⟩ dX7_dead_34 rfl ?_
        have g6 : 0 ≤ (mo_al M) ∧ (mo_al M) ≤ 16 := by have := mo_al_b (M := M) (M 22 0).toNat; unfold mo_al; omega
        refine kb_iconst X dX7_dead_37 ?_
        refine kb_icmp_ne (tgt := 44) X ⟨by omega, by omega⟩ ⟨by decide, by decide⟩ dX7_dead_38 (by decide) (fun h7 => ?_) (fun h7 => ?_)
        ·
          refine kb_aload_n X 0 rfl dX7_dead_44 ?_
          refine kg_X7_isDead X hi_X7_dead_X7 hf_X7_dead_27 dX7_dead_45 ?_
          refine kb_iload_n X 1 rfl dX7_dead_48 ?_
          refine kb_iload_n X 2 rfl dX7_dead_49 ?_
          refine kb_zast X 24 (n := 16) rfl ⟨by omega, by omega⟩ (by decide) (by omega) dX7_dead_50 ?_
          refine kb_iconst X dX7_dead_51 ?_
          exact kb_iret X hr hlocks dX7_dead_52 (by unfold mo_deadR; repeat (first | rw [if_pos (by omega)] | rw [if_neg (by omega)]); try first | rfl | omega) (by unfold mo_deadM; repeat (first | rw [if_pos (by omega)] | rw [if_neg (by omega)]); try first | rfl | omega)
        ·
          refine kb_bipush X (by decide) dX7_dead_41 ?_
          exact kb_iret X hr hlocks dX7_dead_43 (by unfold mo_deadR; repeat (first | rw [if_pos (by omega)] | rw [if_neg (by omega)]); try first | rfl | omega) (by unfold mo_deadM; repeat (first | rw [if_pos (by omega)] | rw [if_neg (by omega)]); try first | rfl | omega)
  ·
    refine kb_bipush X (by decide) dX7_dead_16 ?_
    exact kb_iret X hr hlocks dX7_dead_18 (by unfold mo_deadR; repeat (first | rw [if_pos (by omega)] | rw [if_neg (by omega)]); try first | rfl | omega) (by unfold mo_deadM; repeat (first | rw [if_pos (by omega)] | rw [if_neg (by omega)]); try first | rfl | omega)
-- X7_rootOf
theorem hy_X7_rootOf : yX7_rootOf.cls ≠ "java/lang/invoke/MethodHandle" ∧ yX7_rootOf.cls ≠ "java/lang/invoke/VarHandle" ∧ (parseMethodDescriptor yX7_rootOf.desc).map (fun d => d.parameters.length) = some 1 := by decide +kernel
set_option maxHeartbeats 4000000 in
set_option maxRecDepth 100000 in
theorem c_X7_rootOf (l : Launch) (D : va_G) (ad : Nat → Nat) (cy : Nat → ClassId) (M : kb_M) (v : Int) (hv : 0 ≤ v ∧ v ≤ 1000000000000000) : kb_Cl l D ad cy yX7_rootOf wsX7_rootOf 0 0 [kb_l (v)] M (sp_sq v) (M) := by
  refine kb_mkCl (cc := cX7_rootOf) (maxL := 6) (lv := [(0, kb_l (v))]) (plainFor_of_name (by decide)) rfl (Nat.le_of_ble_eq_true rfl) rfl ?_
  intro p e s m args below meth c X hr hlocks hM
  refine kb_lconst X dX7_rootOf_0 ?_
  refine kb_eql (b := 0) rfl ?_
  refine kb_lstore_n (lv' := [(2, kb_l (0)), (0, kb_l (v))]) X dX7_rootOf_1 (by decide) rfl ?_
  refine kb_ldc2 (v := 67108864) X (67108864) (by decide +kernel) (by decide) dX7_rootOf_2 ?_
  refine kb_lstore (lv' := [(4, kb_l (67108864)), (2, kb_l (0)), (0, kb_l (v))]) X dX7_rootOf_5 (by decide) rfl ?_
  have L7 : ∀ nn_ : Nat, ∀ (r b : Int), (b).toNat < nn_ → (mo_rt v r b) → kb_B p l e ({ frames := 0, cells := 0, slots := 0, locals := 0 } : Room) s m args below meth c D ad cy (kb_A ad s.heap.size) 6 0 0 (MQ below (va_Ql (fun (vq_ : Int64) (_ : Unit) => vq_ = kb_L (sp_sq v)) (fun _ t => kb_en2 D ad cy (M) t) (kb_A ad s.heap.size)) args s 0 0 (kb_A ad s.heap.size)) 7 [(0, kb_l (v)), (2, kb_l (r)), (4, kb_l (b))] [] M := by
    intro nn_
    induction nn_ with
    | zero => intro r b hn; exact absurd hn (Nat.not_lt_zero _)
    | succ nn_ ih1 =>
      intro r b hn hJ
      refine kb_lload X 2 rfl dX7_rootOf_7 ?_
      refine kb_lconst X dX7_rootOf_9 ?_
      refine kb_eql (b := 0) rfl ?_
      obtain ⟨j1, j2, j3, j4, -⟩ := id hJ
      refine kb_lcmp_le (tgt := 44) X ⟨by omega, by omega⟩ ⟨by decide, by decide⟩ dX7_rootOf_10 dX7_rootOf_11 (by decide) (fun h2 => ?_) (fun h2 => ?_)
      ·
        refine kb_lload_n X 1 rfl dX7_rootOf_44 ?_
        exact kb_lret X hr hlocks dX7_rootOf_45 (by exact mo_rt_sq hJ (by omega)) (by first | rfl | (exfalso; omega))
      ·
        have sb := mo_sqr_b (r := r + b) (by omega) (by omega)
        refine kb_lload_n X 1 rfl dX7_rootOf_14 ?_
        refine kb_lload X 2 rfl dX7_rootOf_15 ?_
        refine kb_ladd X dX7_rootOf_17 ?_
        refine kb_lload_n X 1 rfl dX7_rootOf_18 ?_
        refine kb_lload X 2 rfl dX7_rootOf_19 ?_
        refine kb_ladd X dX7_rootOf_21 ?_
        refine kb_lmul X dX7_rootOf_22 ?_
        refine kb_lload_n X 0 rfl dX7_rootOf_23 ?_
        refine kb_lcmp_gt (tgt := 33) X ⟨by omega, by omega⟩ ⟨by omega, by omega⟩ dX7_rootOf_24 dX7_rootOf_25 (by decide) (fun h3 => ?_) (fun h3 => ?_)
        ·
          refine kb_lload X 2 rfl dX7_rootOf_33 ?_
          refine kb_ldc2 (v := 2) X (2) (by decide +kernel) (by decide) dX7_rootOf_35 ?_
          refine kb_ldiv X ⟨by omega, by omega⟩ ⟨by decide, by decide⟩ (by omega) dX7_rootOf_38 ?_
          refine kb_eql (b := b / 2) (kb_td (by omega)) ?_
          refine kb_nml (fun x4_4 ex4_4 => ?_)
          refine kb_lstore (lv' := [(4, kb_l (x4_4)), (0, kb_l (v)), (2, kb_l (r))]) X dX7_rootOf_39 (by decide) rfl ?_
          refine kb_goto (tgt := 7) X dX7_rootOf_41 (by decide) ?_
          refine kb_sub [1, 2, 0] (lv' := [(0, kb_l (v)), (2, kb_l (r)), (4, kb_l (x4_4))]) rfl ?_
          exact ih1 r x4_4 (by omega) (by subst_vars; refine mo_rt_S hJ (by omega) ?_; first | (left; exact ⟨by omega, rfl⟩) | (right; exact ⟨by omega, rfl⟩))
        ·
          refine kb_lload_n X 1 rfl dX7_rootOf_28 ?_
          refine kb_lload X 2 rfl dX7_rootOf_29 ?_
          refine kb_ladd X dX7_rootOf_31 ?_
          refine kb_nml (fun x2_5 ex2_5 => ?_)
          refine kb_lstore_n (lv' := [(2, kb_l (x2_5)), (0, kb_l (v)), (4, kb_l (b))]) X dX7_rootOf_32 (by decide) rfl ?_
          refine kb_lload X 2 rfl dX7_rootOf_33 ?_
          refine kb_ldc2 (v := 2) X (2) (by decide +kernel) (by decide) dX7_rootOf_35 ?_
          refine kb_ldiv X ⟨by omega, by omega⟩ ⟨by decide, by decide⟩ (by omega) dX7_rootOf_38 ?_
          refine kb_eql (b := b / 2) (kb_td (by omega)) ?_
          refine kb_nml (fun x4_6 ex4_6 => ?_)
          refine kb_lstore (lv' := [(4, kb_l (x4_6)), (2, kb_l (x2_5)), (0, kb_l (v))]) X dX7_rootOf_39 (by decide) rfl ?_
          refine kb_goto (tgt := 7) X dX7_rootOf_41 (by decide) ?_
          refine kb_sub [2, 1, 0] (lv' := [(0, kb_l (v)), (2, kb_l (x2_5)), (4, kb_l (x4_6))]) rfl ?_
          exact ih1 x2_5 x4_6 (by omega) (by subst_vars; refine mo_rt_S hJ (by omega) ?_; first | (left; exact ⟨by omega, rfl⟩) | (right; exact ⟨by omega, rfl⟩))
  refine kb_sub [2, 1, 0] (lv' := [(0, kb_l (v)), (2, kb_l (0)), (4, kb_l (67108864))]) rfl ?_
  exact L7 _ (0 : Int) (67108864 : Int) (Nat.lt_succ_self _) (mo_rt_0 hv)
-- X7_delayOf
theorem hf_X7_delayOf_23 : Cond.fieldLink yX7_delayOf.cls 23 RX7 "xs" "[I" ∈ wsX7_delayOf := by decide +kernel
theorem hf_X7_delayOf_31 : Cond.fieldLink yX7_delayOf.cls 31 RX7 "steps" "I" ∈ wsX7_delayOf := by decide +kernel
theorem hf_X7_delayOf_34 : Cond.fieldLink yX7_delayOf.cls 34 RX7 "ticks" "I" ∈ wsX7_delayOf := by decide +kernel
theorem hi_X7_delayOf_X7 : ∀ w ∈ wsX70, w ∈ wsX7_delayOf := by decide +kernel
theorem hy_X7_delayOf : yX7_delayOf.cls ≠ "java/lang/invoke/MethodHandle" ∧ yX7_delayOf.cls ≠ "java/lang/invoke/VarHandle" ∧ (parseMethodDescriptor yX7_delayOf.desc).map (fun d => d.parameters.length) = some 3 := by decide +kernel
set_option maxHeartbeats 4000000 in
set_option maxRecDepth 100000 in
theorem c_X7_delayOf (l : Launch) (D : va_G) (ad : Nat → Nat) (cy : Nat → ClassId) (M : kb_M) (i : Int) (x : Int) (z : Int) (hi : 0 ≤ i ∧ i < M 22 0) (hx : -2000 ≤ x ∧ x ≤ 2000) (hz : 0 ≤ z ∧ z ≤ 4000) (hIP : mo_IP M) : kb_Ci l D ad cy yX7_delayOf wsX7_delayOf 1 25 [.ref (ad 22), kb_i i, kb_i x, kb_i z] M (mo_dly M i x z) (M) := by
  refine kb_mkCi (cc := cX7_delayOf) (maxL := 10) (lv := [(0, .ref (ad 22)), (1, kb_i i), (2, kb_i x), (3, kb_i z)]) (plainFor_of_name (by decide)) rfl (Nat.le_of_ble_eq_true rfl) rfl ?_
  intro p e s m args below meth c X hr hlocks hM
  obtain ⟨hxs, hn, hP, hT, hf⟩ := id hIP
  have xb := hxs i hi.1 hi.2
  refine kb_iload_n X 2 rfl dX7_delayOf_0 ?_
  refine kb_aload_n X 0 rfl dX7_delayOf_1 ?_
  refine kg_X7_xs X hi_X7_delayOf_X7 hf_X7_delayOf_23 dX7_delayOf_2 ?_
  refine kb_iload_n X 1 rfl dX7_delayOf_5 ?_
  refine kb_iald X 23 (n := 16) rfl ⟨by omega, by omega⟩ (by decide) dX7_delayOf_6 ?_
  have g1 : -2147483648 ≤ M 23 i ∧ M 23 i < 2147483648 := hM 23 i
  refine kb_isub X dX7_delayOf_7 ?_
  skip
  refine kb_i2l X ⟨by omega, by omega⟩ dX7_delayOf_8 ?_
  refine kb_nml (fun x4_2 ex4_2 => ?_)
  refine kb_lstore (lv' := [(4, kb_l (x4_2)), (0, .ref (ad 22)), (1, kb_i i), (2, kb_i x), (3, kb_i z)]) X dX7_delayOf_9 (by decide) rfl ?_
  refine kb_lload X 0 rfl dX7_delayOf_11 ?_
  refine kb_lload X 0 rfl dX7_delayOf_13 ?_
  refine kb_lmul X dX7_delayOf_15 ?_
  refine kb_iload_n X 4 rfl dX7_delayOf_16 ?_
  refine kb_i2l X ⟨by omega, by omega⟩ dX7_delayOf_17 ?_
  refine kb_iload_n X 4 rfl dX7_delayOf_18 ?_
  refine kb_i2l X ⟨by omega, by omega⟩ dX7_delayOf_19 ?_
  refine kb_lmul X dX7_delayOf_20 ?_
  refine kb_ladd X dX7_delayOf_21 ?_
  refine kb_lstore (lv' := [(6, kb_l ((x4_2 * x4_2) + (z * z))), (4, kb_l (x4_2)), (0, .ref (ad 22)), (1, kb_i i), (2, kb_i x), (3, kb_i z)]) X dX7_delayOf_22 (by decide) rfl ?_
  refine kb_ldc2 (v := 4) X (4) (by decide +kernel) (by decide) dX7_delayOf_24 ?_
  refine kb_aload_n X 2 rfl dX7_delayOf_27 ?_
  refine kg_X7_ticks X hi_X7_delayOf_X7 hf_X7_delayOf_34 dX7_delayOf_28 ?_
  have g3 : -2147483648 ≤ M 22 4 ∧ M 22 4 < 2147483648 := hM 22 4
  refine kb_i2l X ⟨by omega, by omega⟩ dX7_delayOf_31 ?_
  refine kb_lmul X dX7_delayOf_32 ?_
  refine kb_aload_n X 2 rfl dX7_delayOf_33 ?_
  refine kg_X7_ticks X hi_X7_delayOf_X7 hf_X7_delayOf_34 dX7_delayOf_34 ?_
  refine kb_i2l X ⟨by omega, by omega⟩ dX7_delayOf_37 ?_
  refine kb_lmul X dX7_delayOf_38 ?_
  refine kb_lload X 0 rfl dX7_delayOf_39 ?_
  refine kb_lmul X dX7_delayOf_41 ?_
  have ab := sp_absq (x4_2)
  have sb := sp_sqb (T := M 22 4) (g := max (x4_2) (-(x4_2))) (z := z) hT (by omega) hz
  rw [ab] at sb
  have sn := sp_sq_nn (4 * M 22 4 * M 22 4 * (x4_2 * x4_2 + z * z))
  refine kb_cSl X (rest := []) [kb_l (((4 * (M 22 4)) * (M 22 4)) * ((x4_2 * x4_2) + (z * z)))] (c_X7_rootOf l D ad cy M (((4 * (M 22 4)) * (M 22 4)) * ((x4_2 * x4_2) + (z * z))) (by subst_vars; omega)) gX7_delayOf_X7_rootOf rfl hy_X7_rootOf ⟨by decide, by decide⟩ rfl (Nat.le_of_ble_eq_true rfl) ⟨by decide, by decide⟩ dX7_delayOf_42 rfl ?_
  refine kb_nml (fun x8_4 ex8_4 => ?_)
  refine kb_lstore (lv' := [(8, kb_l (x8_4)), (6, kb_l ((x4_2 * x4_2) + (z * z))), (4, kb_l (x4_2)), (0, .ref (ad 22)), (1, kb_i i), (2, kb_i x), (3, kb_i z)]) X dX7_delayOf_45 (by decide) rfl ?_
  refine kb_lload X 0 rfl dX7_delayOf_47 ?_
  refine kb_aload_n X 3 rfl dX7_delayOf_49 ?_
  refine kg_X7_steps X hi_X7_delayOf_X7 hf_X7_delayOf_31 dX7_delayOf_50 ?_
  have g5 : -2147483648 ≤ M 22 3 ∧ M 22 3 < 2147483648 := hM 22 3
  refine kb_i2l X ⟨by omega, by omega⟩ dX7_delayOf_53 ?_
  refine kb_ldiv X ⟨by omega, by omega⟩ ⟨by omega, by omega⟩ (by omega) dX7_delayOf_54 ?_
  refine kb_eql (b := x8_4 / (M 22 3)) (kb_td (by omega)) ?_
  have db := sp_divb (z := x8_4) (f := M 22 3) hP.1 (by omega)
  refine kb_lconst X dX7_delayOf_55 ?_
  refine kb_eql (b := 1) rfl ?_
  refine kb_ladd X dX7_delayOf_56 ?_
  refine kb_ldc2 (v := 2) X (2) (by decide +kernel) (by decide) dX7_delayOf_57 ?_
  refine kb_ldiv X ⟨by omega, by omega⟩ ⟨by decide, by decide⟩ (by omega) dX7_delayOf_60 ?_
  refine kb_eql (b := ((x8_4 / (M 22 3)) + 1) / 2) (kb_td (by omega)) ?_
  refine kb_l2i X dX7_delayOf_61 ?_
  exact kb_iret X hr hlocks dX7_delayOf_62 (by exact mo_dl_eq hP.1 (by subst_vars; rfl)) (by first | rfl | (exfalso; omega))
-- X7_weightOf
theorem hf_X7_weightOf_23 : Cond.fieldLink yX7_weightOf.cls 23 RX7 "xs" "[I" ∈ wsX7_weightOf := by decide +kernel
theorem hf_X7_weightOf_27 : Cond.fieldLink yX7_weightOf.cls 27 RX7 "isDead" "[Z" ∈ wsX7_weightOf := by decide +kernel
theorem hf_X7_weightOf_37 : Cond.fieldLink yX7_weightOf.cls 37 RX7 "part" "I" ∈ wsX7_weightOf := by decide +kernel
theorem hf_X7_weightOf_149 : Cond.fieldLink yX7_weightOf.cls 149 RX7 "window" "I" ∈ wsX7_weightOf := by decide +kernel
theorem hi_X7_weightOf_X7 : ∀ w ∈ wsX70, w ∈ wsX7_weightOf := by decide +kernel
theorem hy_X7_weightOf : yX7_weightOf.cls ≠ "java/lang/invoke/MethodHandle" ∧ yX7_weightOf.cls ≠ "java/lang/invoke/VarHandle" ∧ (parseMethodDescriptor yX7_weightOf.desc).map (fun d => d.parameters.length) = some 3 := by decide +kernel
set_option maxHeartbeats 4000000 in
set_option maxRecDepth 100000 in
theorem c_X7_weightOf (l : Launch) (D : va_G) (ad : Nat → Nat) (cy : Nat → ClassId) (M : kb_M) (i : Int) (x : Int) (z : Int) (hi : 0 ≤ i ∧ i < M 22 0) (hx : -2000 ≤ x ∧ x ≤ 2000) (hz : 0 ≤ z ∧ z ≤ 4000) (hIP : mo_IP M) : kb_Ci l D ad cy yX7_weightOf wsX7_weightOf 0 0 [.ref (ad 22), kb_i i, kb_i x, kb_i z] M (mo_wt M i x z) (M) := by
  refine kb_mkCi (cc := cX7_weightOf) (maxL := 6) (lv := [(0, .ref (ad 22)), (1, kb_i i), (2, kb_i x), (3, kb_i z)]) (plainFor_of_name (by decide)) rfl (Nat.le_of_ble_eq_true rfl) rfl ?_
  intro p e s m args below meth c X hr hlocks hM
  obtain ⟨hxs, hn, hP, hT, hf⟩ := id hIP
  have xb := hxs i hi.1 hi.2
  refine kb_aload_n X 0 rfl dX7_weightOf_0 ?_
  refine kg_X7_isDead X hi_X7_weightOf_X7 hf_X7_weightOf_27 dX7_weightOf_1 ?_
  refine kb_iload_n X 1 rfl dX7_weightOf_4 ?_
  refine kb_zald X 24 (n := 16) rfl ⟨by omega, by omega⟩ (by decide) dX7_weightOf_5 ?_
  have g1 : -2147483648 ≤ M 24 i ∧ M 24 i < 2147483648 := hM 24 i
  refine kb_if_eq (tgt := 11) X ⟨by omega, by omega⟩ dX7_weightOf_6 (by decide) (fun h2 => ?_) (fun h2 => ?_)
  ·
    refine kb_iload_n X 2 rfl dX7_weightOf_11 ?_
    refine kb_aload_n X 0 rfl dX7_weightOf_12 ?_
    refine kg_X7_xs X hi_X7_weightOf_X7 hf_X7_weightOf_23 dX7_weightOf_13 ?_
    refine kb_iload_n X 1 rfl dX7_weightOf_16 ?_
    refine kb_iald X 23 (n := 16) rfl ⟨by omega, by omega⟩ (by decide) dX7_weightOf_17 ?_
    have g3 : -2147483648 ≤ M 23 i ∧ M 23 i < 2147483648 := hM 23 i
    refine kb_icmp_ge (tgt := 32) X ⟨by omega, by omega⟩ ⟨by omega, by omega⟩ dX7_weightOf_18 (by decide) (fun h4 => ?_) (fun h4 => ?_)
    ·
      refine kb_iload_n X 2 rfl dX7_weightOf_32 ?_
      refine kb_aload_n X 0 rfl dX7_weightOf_33 ?_
      refine kg_X7_xs X hi_X7_weightOf_X7 hf_X7_weightOf_23 dX7_weightOf_34 ?_
      refine kb_iload_n X 1 rfl dX7_weightOf_37 ?_
      refine kb_iald X 23 (n := 16) rfl ⟨by omega, by omega⟩ (by decide) dX7_weightOf_38 ?_
      refine kb_isub X dX7_weightOf_39 ?_
      refine kb_nmi (fun x4_5 ex4_5 => ?_)
      refine kb_istore (lv' := [(4, kb_i x4_5), (0, .ref (ad 22)), (1, kb_i i), (2, kb_i x), (3, kb_i z)]) X dX7_weightOf_40 (by decide) rfl ?_
      refine kb_iload_n X 4 rfl dX7_weightOf_42 ?_
      refine kb_aload_n X 1 rfl dX7_weightOf_43 ?_
      refine kg_X7_part X hi_X7_weightOf_X7 hf_X7_weightOf_37 dX7_weightOf_44 ?_
      have g6 : -2147483648 ≤ M 22 6 ∧ M 22 6 < 2147483648 := hM 22 6
      refine kb_idiv X ⟨by omega, by omega⟩ ⟨by omega, by omega⟩ (by omega) dX7_weightOf_47 ?_
      refine kb_eqi (b := z / (M 22 6)) (kb_td (by omega)) ?_
      have db := sp_divb (z := z) (f := M 22 6) hf.1 hz.1
      refine kb_nmi (fun x5_7 ex5_7 => ?_)
      refine kb_istore (lv' := [(5, kb_i x5_7), (4, kb_i x4_5), (0, .ref (ad 22)), (1, kb_i i), (2, kb_i x), (3, kb_i z)]) X dX7_weightOf_48 (by decide) rfl ?_
      refine kb_aload_n X 2 rfl dX7_weightOf_50 ?_
      refine kg_X7_window X hi_X7_weightOf_X7 hf_X7_weightOf_149 dX7_weightOf_51 ?_
      have g8 : -2147483648 ≤ M 22 5 ∧ M 22 5 < 2147483648 := hM 22 5
      refine kb_if_ne (tgt := 61) X ⟨by omega, by omega⟩ dX7_weightOf_54 (by decide) (fun h9 => ?_) (fun h9 => ?_)
      ·
        refine kb_iload X 1 rfl dX7_weightOf_61 ?_
        refine kb_iload X 0 rfl dX7_weightOf_63 ?_
        refine kb_icmp_le (tgt := 72) X ⟨by omega, by omega⟩ ⟨by omega, by omega⟩ dX7_weightOf_65 (by decide) (fun h10 => ?_) (fun h10 => ?_)
        ·
          refine kb_aload_n X 2 rfl dX7_weightOf_72 ?_
          refine kg_X7_window X hi_X7_weightOf_X7 hf_X7_weightOf_149 dX7_weightOf_73 ?_
          refine kb_iconst X dX7_weightOf_76 ?_
          refine kb_icmp_ne (tgt := 84) X ⟨by omega, by omega⟩ ⟨by decide, by decide⟩ dX7_weightOf_77 (by decide) (fun h11 => ?_) (fun h11 => ?_)
          ·
            refine kb_iload X 0 rfl dX7_weightOf_84 ?_
            refine kb_iload X 1 rfl dX7_weightOf_86 ?_
            refine kb_isub X dX7_weightOf_88 ?_
            refine kb_iconst X dX7_weightOf_89 ?_
            refine kb_iadd X dX7_weightOf_90 ?_
            exact kb_iret X hr hlocks dX7_weightOf_91 (by (have eg : mo_g M i x = (max (M 23 i - x) (-(M 23 i - x))) := rfl); unfold mo_wt; first | rw [if_neg (by omega)] | (rw [if_pos (by omega), eg]; repeat (first | rw [if_pos (by omega)] | rw [if_neg (by omega)]); try omega)) (by first | rfl | (exfalso; omega))
          ·
            refine kb_iconst X dX7_weightOf_80 ?_
            refine kb_goto (tgt := 91) X dX7_weightOf_81 (by decide) ?_
            exact kb_iret X hr hlocks dX7_weightOf_91 (by (have eg : mo_g M i x = (max (M 23 i - x) (-(M 23 i - x))) := rfl); unfold mo_wt; first | rw [if_neg (by omega)] | (rw [if_pos (by omega), eg]; repeat (first | rw [if_pos (by omega)] | rw [if_neg (by omega)]); try omega)) (by first | rfl | (exfalso; omega))
        ·
          refine kb_iconst X dX7_weightOf_68 ?_
          refine kb_goto (tgt := 91) X dX7_weightOf_69 (by decide) ?_
          exact kb_iret X hr hlocks dX7_weightOf_91 (by (have eg : mo_g M i x = (max (M 23 i - x) (-(M 23 i - x))) := rfl); unfold mo_wt; first | rw [if_neg (by omega)] | (rw [if_pos (by omega), eg]; repeat (first | rw [if_pos (by omega)] | rw [if_neg (by omega)]); try omega)) (by first | rfl | (exfalso; omega))
      ·
        refine kb_iconst X dX7_weightOf_57 ?_
        refine kb_goto (tgt := 91) X dX7_weightOf_58 (by decide) ?_
        exact kb_iret X hr hlocks dX7_weightOf_91 (by (have eg : mo_g M i x = (max (M 23 i - x) (-(M 23 i - x))) := rfl); unfold mo_wt; first | rw [if_neg (by omega)] | (rw [if_pos (by omega), eg]; repeat (first | rw [if_pos (by omega)] | rw [if_neg (by omega)]); try omega)) (by first | rfl | (exfalso; omega))
    ·
      refine kb_aload_n X 0 rfl dX7_weightOf_21 ?_
      refine kg_X7_xs X hi_X7_weightOf_X7 hf_X7_weightOf_23 dX7_weightOf_22 ?_
      refine kb_iload_n X 1 rfl dX7_weightOf_25 ?_
      refine kb_iald X 23 (n := 16) rfl ⟨by omega, by omega⟩ (by decide) dX7_weightOf_26 ?_
      refine kb_iload_n X 2 rfl dX7_weightOf_27 ?_
      refine kb_isub X dX7_weightOf_28 ?_
      refine kb_goto (tgt := 40) X dX7_weightOf_29 (by decide) ?_
      refine kb_nmi (fun x4_12 ex4_12 => ?_)
      refine kb_istore (lv' := [(4, kb_i x4_12), (0, .ref (ad 22)), (1, kb_i i), (2, kb_i x), (3, kb_i z)]) X dX7_weightOf_40 (by decide) rfl ?_
      refine kb_iload_n X 4 rfl dX7_weightOf_42 ?_
      refine kb_aload_n X 1 rfl dX7_weightOf_43 ?_
      refine kg_X7_part X hi_X7_weightOf_X7 hf_X7_weightOf_37 dX7_weightOf_44 ?_
      have g13 : -2147483648 ≤ M 22 6 ∧ M 22 6 < 2147483648 := hM 22 6
      refine kb_idiv X ⟨by omega, by omega⟩ ⟨by omega, by omega⟩ (by omega) dX7_weightOf_47 ?_
      refine kb_eqi (b := z / (M 22 6)) (kb_td (by omega)) ?_
      have db := sp_divb (z := z) (f := M 22 6) hf.1 hz.1
      refine kb_nmi (fun x5_14 ex5_14 => ?_)
      refine kb_istore (lv' := [(5, kb_i x5_14), (4, kb_i x4_12), (0, .ref (ad 22)), (1, kb_i i), (2, kb_i x), (3, kb_i z)]) X dX7_weightOf_48 (by decide) rfl ?_
      refine kb_aload_n X 2 rfl dX7_weightOf_50 ?_
      refine kg_X7_window X hi_X7_weightOf_X7 hf_X7_weightOf_149 dX7_weightOf_51 ?_
      have g15 : -2147483648 ≤ M 22 5 ∧ M 22 5 < 2147483648 := hM 22 5
      refine kb_if_ne (tgt := 61) X ⟨by omega, by omega⟩ dX7_weightOf_54 (by decide) (fun h16 => ?_) (fun h16 => ?_)
      ·
        refine kb_iload X 1 rfl dX7_weightOf_61 ?_
        refine kb_iload X 0 rfl dX7_weightOf_63 ?_
        refine kb_icmp_le (tgt := 72) X ⟨by omega, by omega⟩ ⟨by omega, by omega⟩ dX7_weightOf_65 (by decide) (fun h17 => ?_) (fun h17 => ?_)
        ·
          refine kb_aload_n X 2 rfl dX7_weightOf_72 ?_
          refine kg_X7_window X hi_X7_weightOf_X7 hf_X7_weightOf_149 dX7_weightOf_73 ?_
          refine kb_iconst X dX7_weightOf_76 ?_
          refine kb_icmp_ne (tgt := 84) X ⟨by omega, by omega⟩ ⟨by decide, by decide⟩ dX7_weightOf_77 (by decide) (fun h18 => ?_) (fun h18 => ?_)
          ·
            refine kb_iload X 0 rfl dX7_weightOf_84 ?_
            refine kb_iload X 1 rfl dX7_weightOf_86 ?_
            refine kb_isub X dX7_weightOf_88 ?_
            refine kb_iconst X dX7_weightOf_89 ?_
            refine kb_iadd X dX7_weightOf_90 ?_
            exact kb_iret X hr hlocks dX7_weightOf_91 (by (have eg : mo_g M i x = (max (M 23 i - x) (-(M 23 i - x))) := rfl); unfold mo_wt; first | rw [if_neg (by omega)] | (rw [if_pos (by omega), eg]; repeat (first | rw [if_pos (by omega)] | rw [if_neg (by omega)]); try omega)) (by first | rfl | (exfalso; omega))
          ·
            refine kb_iconst X dX7_weightOf_80 ?_
            refine kb_goto (tgt := 91) X dX7_weightOf_81 (by decide) ?_
            exact kb_iret X hr hlocks dX7_weightOf_91 (by (have eg : mo_g M i x = (max (M 23 i - x) (-(M 23 i - x))) := rfl); unfold mo_wt; first | rw [if_neg (by omega)] | (rw [if_pos (by omega), eg]; repeat (first | rw [if_pos (by omega)] | rw [if_neg (by omega)]); try omega)) (by first | rfl | (exfalso; omega))
        ·
          refine kb_iconst X dX7_weightOf_68 ?_
          refine kb_goto (tgt := 91) X dX7_weightOf_69 (by decide) ?_
          exact kb_iret X hr hlocks dX7_weightOf_91 (by (have eg : mo_g M i x = (max (M 23 i - x) (-(M 23 i - x))) := rfl); unfold mo_wt; first | rw [if_neg (by omega)] | (rw [if_pos (by omega), eg]; repeat (first | rw [if_pos (by omega)] | rw [if_neg (by omega)]); try omega)) (by first | rfl | (exfalso; omega))
      ·
        refine kb_iconst X dX7_weightOf_57 ?_
        refine kb_goto (tgt := 91) X dX7_weightOf_58 (by decide) ?_
        exact kb_iret X hr hlocks dX7_weightOf_91 (by (have eg : mo_g M i x = (max (M 23 i - x) (-(M 23 i - x))) := rfl); unfold mo_wt; first | rw [if_neg (by omega)] | (rw [if_pos (by omega), eg]; repeat (first | rw [if_pos (by omega)] | rw [if_neg (by omega)]); try omega)) (by first | rfl | (exfalso; omega))
  ·
    refine kb_iconst X dX7_weightOf_9 ?_
    exact kb_iret X hr hlocks dX7_weightOf_10 (by (have eg : mo_g M i x = (max (M 23 i - x) (-(M 23 i - x))) := rfl); unfold mo_wt; first | rw [if_neg (by omega)] | (rw [if_pos (by omega), eg]; repeat (first | rw [if_pos (by omega)] | rw [if_neg (by omega)]); try omega)) (by first | rfl | (exfalso; omega))
-- X7_delay
theorem hf_X7_delay_19 : Cond.fieldLink yX7_delay.cls 19 RX7 "n" "I" ∈ wsX7_delay := by decide +kernel
theorem hi_X7_delay_X7 : ∀ w ∈ wsX70, w ∈ wsX7_delay := by decide +kernel
theorem hy_X7_delay : yX7_delay.cls ≠ "java/lang/invoke/MethodHandle" ∧ yX7_delay.cls ≠ "java/lang/invoke/VarHandle" ∧ (parseMethodDescriptor yX7_delay.desc).map (fun d => d.parameters.length) = some 3 := by decide +kernel
set_option maxHeartbeats 4000000 in
set_option maxRecDepth 100000 in
theorem c_X7_delay (l : Launch) (D : va_G) (ad : Nat → Nat) (cy : Nat → ClassId) (M : kb_M) (i : Int) (x : Int) (z : Int) (hi : -2147483648 ≤ i ∧ i < 2147483648) (hx : -2147483648 ≤ x ∧ x < 2147483648) (hz : -2147483648 ≤ z ∧ z < 2147483648) (hIP : mo_IP M) : kb_Ci l D ad cy yX7_delay wsX7_delay 2 54 [.ref (ad 22), kb_i i, kb_i x, kb_i z] M (mo_delayR M i x z) (M) := by
  refine kb_mkCi (cc := cX7_delay) (maxL := 4) (lv := [(0, .ref (ad 22)), (1, kb_i i), (2, kb_i x), (3, kb_i z)]) (plainFor_of_name (by decide)) rfl (Nat.le_of_ble_eq_true rfl) rfl ?_
  intro p e s m args below meth c X hr hlocks hM
  obtain ⟨hxs, hn, hP, hT, hf⟩ := id hIP
  refine kb_iload_n X 1 rfl dX7_delay_0 ?_
  refine kb_i2l X ⟨by omega, by omega⟩ dX7_delay_1 ?_
  refine kb_lconst X dX7_delay_2 ?_
  refine kb_eql (b := 0) rfl ?_
  refine kb_aload_n X 0 rfl dX7_delay_3 ?_
  refine kg_X7_n X hi_X7_delay_X7 hf_X7_delay_19 dX7_delay_4 ?_
  have g1 : -2147483648 ≤ M 22 0 ∧ M 22 0 < 2147483648 := hM 22 0
  refine kb_iconst X dX7_delay_7 ?_
  refine kb_isub X dX7_delay_8 ?_
  refine kb_i2l X ⟨by omega, by omega⟩ dX7_delay_9 ?_
  refine kb_cSi X (rest := []) [kb_l (i), kb_l (0), kb_l ((M 22 0) - 1)] (c_X7_in l D ad cy M i 0 ((M 22 0) - 1) (by first | omega | assumption | exact ⟨by omega, by omega⟩) (by first | omega | assumption | exact ⟨by omega, by omega⟩) (by first | omega | assumption | exact ⟨by omega, by omega⟩)) gX7_delay_X7_in rfl hy_X7_in ⟨by decide, by decide⟩ rfl (Nat.le_of_ble_eq_true rfl) ⟨by decide, by decide⟩ dX7_delay_10 rfl ?_
  refine kb_ifb_eq (tgt := 34) X dX7_delay_13 (by decide) (fun h2 => ?_) (fun h2 => ?_)
  ·
    refine kb_bipush X (by decide) dX7_delay_34 ?_
    exact kb_iret X hr hlocks dX7_delay_36 (by unfold mo_delayR; repeat (first | rw [if_pos (by omega)] | rw [if_neg (by omega)]); try first | rfl | omega) (by first | rfl | (exfalso; omega))
  ·
    refine kb_iload_n X 2 rfl dX7_delay_16 ?_
    refine kb_iload_n X 3 rfl dX7_delay_17 ?_
    refine kb_cSi X (rest := []) [kb_i x, kb_i z] (c_X7_isPlace l D ad cy M x z (by first | omega | assumption | exact ⟨by omega, by omega⟩) (by first | omega | assumption | exact ⟨by omega, by omega⟩)) gX7_delay_X7_isPlace rfl hy_X7_isPlace ⟨by decide, by decide⟩ rfl (Nat.le_of_ble_eq_true rfl) ⟨by decide, by decide⟩ dX7_delay_18 rfl ?_
    refine kb_ifb_eq (tgt := 34) X dX7_delay_21 (by decide) (fun h3 => ?_) (fun h3 => ?_)
    ·
      refine kb_bipush X (by decide) dX7_delay_34 ?_
      exact kb_iret X hr hlocks dX7_delay_36 (by unfold mo_delayR; repeat (first | rw [if_pos (by omega)] | rw [if_neg (by omega)]); try first | rfl | omega) (by first | rfl | (exfalso; omega))
    ·
      refine kb_aload_n X 0 rfl dX7_delay_24 ?_
      refine kb_iload_n X 1 rfl dX7_delay_25 ?_
      refine kb_iload_n X 2 rfl dX7_delay_26 ?_
      refine kb_iload_n X 3 rfl dX7_delay_27 ?_
      refine kb_cVi X (rest := []) [kb_i i, kb_i x, kb_i z] 22 (fl := [none, some 23, some 24, none, none, none, none, none, none, none, none, some 25, some 26, some 27, some 28, some 29, none, some 30, some 31, none, some 32, some 33, some 34, some 35, none, none, none, some 36]) (C := RX7) rfl rfl (c_X7_delayOf l D ad cy M i x z (by first | omega | assumption | exact ⟨by omega, by omega⟩) (by first | omega | assumption | exact ⟨by omega, by omega⟩) (by first | omega | assumption | exact ⟨by omega, by omega⟩) (by first | omega | assumption | exact ⟨by omega, by omega⟩)) gX7_delay_X7_delayOf rfl ⟨rfl, hy_X7_delayOf⟩ ⟨by decide, by decide⟩ rfl (Nat.le_of_ble_eq_true rfl) ⟨by decide, by decide⟩ dX7_delay_28 rfl ?_
      have g4 : 0 ≤ (mo_dly M i x z) ∧ (mo_dly M i x z) ≤ 16001000 := by apply mo_dly_b <;> first | assumption | omega
      refine kb_goto (tgt := 36) X dX7_delay_31 (by decide) ?_
      exact kb_iret X hr hlocks dX7_delay_36 (by unfold mo_delayR; repeat (first | rw [if_pos (by omega)] | rw [if_neg (by omega)]); try first | rfl | omega) (by first | rfl | (exfalso; omega))
-- X7_weight
theorem hf_X7_weight_19 : Cond.fieldLink yX7_weight.cls 19 RX7 "n" "I" ∈ wsX7_weight := by decide +kernel
theorem hi_X7_weight_X7 : ∀ w ∈ wsX70, w ∈ wsX7_weight := by decide +kernel
theorem hy_X7_weight : yX7_weight.cls ≠ "java/lang/invoke/MethodHandle" ∧ yX7_weight.cls ≠ "java/lang/invoke/VarHandle" ∧ (parseMethodDescriptor yX7_weight.desc).map (fun d => d.parameters.length) = some 3 := by decide +kernel
set_option maxHeartbeats 4000000 in
set_option maxRecDepth 100000 in
theorem c_X7_weight (l : Launch) (D : va_G) (ad : Nat → Nat) (cy : Nat → ClassId) (M : kb_M) (i : Int) (x : Int) (z : Int) (hi : -2147483648 ≤ i ∧ i < 2147483648) (hx : -2147483648 ≤ x ∧ x < 2147483648) (hz : -2147483648 ≤ z ∧ z < 2147483648) (hIP : mo_IP M) : kb_Ci l D ad cy yX7_weight wsX7_weight 2 46 [.ref (ad 22), kb_i i, kb_i x, kb_i z] M (mo_weightR M i x z) (M) := by
  refine kb_mkCi (cc := cX7_weight) (maxL := 4) (lv := [(0, .ref (ad 22)), (1, kb_i i), (2, kb_i x), (3, kb_i z)]) (plainFor_of_name (by decide)) rfl (Nat.le_of_ble_eq_true rfl) rfl ?_
  intro p e s m args below meth c X hr hlocks hM
  obtain ⟨hxs, hn, hP, hT, hf⟩ := id hIP
  refine kb_iload_n X 1 rfl dX7_weight_0 ?_
  refine kb_i2l X ⟨by omega, by omega⟩ dX7_weight_1 ?_
  refine kb_lconst X dX7_weight_2 ?_
  refine kb_eql (b := 0) rfl ?_
  refine kb_aload_n X 0 rfl dX7_weight_3 ?_
  refine kg_X7_n X hi_X7_weight_X7 hf_X7_weight_19 dX7_weight_4 ?_
  have g1 : -2147483648 ≤ M 22 0 ∧ M 22 0 < 2147483648 := hM 22 0
  refine kb_iconst X dX7_weight_7 ?_
  refine kb_isub X dX7_weight_8 ?_
  refine kb_i2l X ⟨by omega, by omega⟩ dX7_weight_9 ?_
  refine kb_cSi X (rest := []) [kb_l (i), kb_l (0), kb_l ((M 22 0) - 1)] (c_X7_in l D ad cy M i 0 ((M 22 0) - 1) (by first | omega | assumption | exact ⟨by omega, by omega⟩) (by first | omega | assumption | exact ⟨by omega, by omega⟩) (by first | omega | assumption | exact ⟨by omega, by omega⟩)) gX7_weight_X7_in rfl hy_X7_in ⟨by decide, by decide⟩ rfl (Nat.le_of_ble_eq_true rfl) ⟨by decide, by decide⟩ dX7_weight_10 rfl ?_
  refine kb_ifb_eq (tgt := 34) X dX7_weight_13 (by decide) (fun h2 => ?_) (fun h2 => ?_)
  ·
    refine kb_bipush X (by decide) dX7_weight_34 ?_
    exact kb_iret X hr hlocks dX7_weight_36 (by unfold mo_weightR; repeat (first | rw [if_pos (by omega)] | rw [if_neg (by omega)]); try first | rfl | omega) (by first | rfl | (exfalso; omega))
  ·
    refine kb_iload_n X 2 rfl dX7_weight_16 ?_
    refine kb_iload_n X 3 rfl dX7_weight_17 ?_
    refine kb_cSi X (rest := []) [kb_i x, kb_i z] (c_X7_isPlace l D ad cy M x z (by first | omega | assumption | exact ⟨by omega, by omega⟩) (by first | omega | assumption | exact ⟨by omega, by omega⟩)) gX7_weight_X7_isPlace rfl hy_X7_isPlace ⟨by decide, by decide⟩ rfl (Nat.le_of_ble_eq_true rfl) ⟨by decide, by decide⟩ dX7_weight_18 rfl ?_
    refine kb_ifb_eq (tgt := 34) X dX7_weight_21 (by decide) (fun h3 => ?_) (fun h3 => ?_)
    ·
      refine kb_bipush X (by decide) dX7_weight_34 ?_
      exact kb_iret X hr hlocks dX7_weight_36 (by unfold mo_weightR; repeat (first | rw [if_pos (by omega)] | rw [if_neg (by omega)]); try first | rfl | omega) (by first | rfl | (exfalso; omega))
    ·
      refine kb_aload_n X 0 rfl dX7_weight_24 ?_
      refine kb_iload_n X 1 rfl dX7_weight_25 ?_
      refine kb_iload_n X 2 rfl dX7_weight_26 ?_
      refine kb_iload_n X 3 rfl dX7_weight_27 ?_
      refine kb_cVi X (rest := []) [kb_i i, kb_i x, kb_i z] 22 (fl := [none, some 23, some 24, none, none, none, none, none, none, none, none, some 25, some 26, some 27, some 28, some 29, none, some 30, some 31, none, some 32, some 33, some 34, some 35, none, none, none, some 36]) (C := RX7) rfl rfl (c_X7_weightOf l D ad cy M i x z (by first | omega | assumption | exact ⟨by omega, by omega⟩) (by first | omega | assumption | exact ⟨by omega, by omega⟩) (by first | omega | assumption | exact ⟨by omega, by omega⟩) (by first | omega | assumption | exact ⟨by omega, by omega⟩)) gX7_weight_X7_weightOf rfl ⟨rfl, hy_X7_weightOf⟩ ⟨by decide, by decide⟩ rfl (Nat.le_of_ble_eq_true rfl) ⟨by decide, by decide⟩ dX7_weight_28 rfl ?_
      have g4 : 0 ≤ (mo_wt M i x z) ∧ (mo_wt M i x z) ≤ 4001 := by apply mo_wt_b <;> first | assumption | omega
      refine kb_goto (tgt := 36) X dX7_weight_31 (by decide) ?_
      exact kb_iret X hr hlocks dX7_weight_36 (by unfold mo_weightR; repeat (first | rw [if_pos (by omega)] | rw [if_neg (by omega)]); try first | rfl | omega) (by first | rfl | (exfalso; omega))
-- X7_point
theorem hf_X7_point_44 : Cond.fieldLink yX7_point.cls 44 RX7 "px" "[I" ∈ wsX7_point := by decide +kernel
theorem hf_X7_point_47 : Cond.fieldLink yX7_point.cls 47 RX7 "pz" "[I" ∈ wsX7_point := by decide +kernel
theorem hf_X7_point_50 : Cond.fieldLink yX7_point.cls 50 RX7 "strength" "[I" ∈ wsX7_point := by decide +kernel
theorem hf_X7_point_53 : Cond.fieldLink yX7_point.cls 53 RX7 "moveX" "[I" ∈ wsX7_point := by decide +kernel
theorem hf_X7_point_56 : Cond.fieldLink yX7_point.cls 56 RX7 "moveZ" "[I" ∈ wsX7_point := by decide +kernel
theorem hf_X7_point_124 : Cond.fieldLink yX7_point.cls 124 RX7 "points" "I" ∈ wsX7_point := by decide +kernel
theorem hi_X7_point_X7 : ∀ w ∈ wsX70, w ∈ wsX7_point := by decide +kernel
theorem hy_X7_point : yX7_point.cls ≠ "java/lang/invoke/MethodHandle" ∧ yX7_point.cls ≠ "java/lang/invoke/VarHandle" ∧ (parseMethodDescriptor yX7_point.desc).map (fun d => d.parameters.length) = some 5 := by decide +kernel
set_option maxHeartbeats 4000000 in
set_option maxRecDepth 100000 in
theorem c_X7_point (l : Launch) (D : va_G) (ad : Nat → Nat) (cy : Nat → ClassId) (M : kb_M) (x : Int) (z : Int) (t0 : Int) (dx : Int) (dz : Int) (hx : -2147483648 ≤ x ∧ x < 2147483648) (hz : -2147483648 ≤ z ∧ z < 2147483648) (ht0 : -2147483648 ≤ t0 ∧ t0 < 2147483648) (hdx : -2147483648 ≤ dx ∧ dx < 2147483648) (hdz : -2147483648 ≤ dz ∧ dz < 2147483648) (hsc : mo_sc M) : kb_Ci l D ad cy yX7_point wsX7_point 2 46 [.ref (ad 22), kb_i x, kb_i z, kb_i t0, kb_i dx, kb_i dz] M (mo_pointR M x z t0 dx dz) (mo_pointM M x z t0 dx dz) := by
  refine kb_mkCi (cc := cX7_point) (maxL := 6) (lv := [(0, .ref (ad 22)), (1, kb_i x), (2, kb_i z), (3, kb_i t0), (4, kb_i dx), (5, kb_i dz)]) (plainFor_of_name (by decide)) rfl (Nat.le_of_ble_eq_true rfl) rfl ?_
  intro p e s m args below meth c X hr hlocks hM
  have hn := hsc.1
  refine kb_iload_n X 1 rfl dX7_point_0 ?_
  refine kb_iload_n X 2 rfl dX7_point_1 ?_
  refine kb_cSi X (rest := []) [kb_i x, kb_i z] (c_X7_isPlace l D ad cy M x z (by first | omega | assumption | exact ⟨by omega, by omega⟩) (by first | omega | assumption | exact ⟨by omega, by omega⟩)) gX7_point_X7_isPlace rfl hy_X7_isPlace ⟨by decide, by decide⟩ rfl (Nat.le_of_ble_eq_true rfl) ⟨by decide, by decide⟩ dX7_point_2 rfl ?_
  refine kb_ifb_eq (tgt := 52) X dX7_point_5 (by decide) (fun h1 => ?_) (fun h1 => ?_)
  ·
    refine kb_bipush X (by decide) dX7_point_52 ?_
    exact kb_iret X hr hlocks dX7_point_54 (by unfold mo_pointR; repeat (first | rw [if_pos (by omega)] | rw [if_neg (by omega)]); try first | rfl | omega) (by unfold mo_pointM; repeat (first | rw [if_pos (by omega)] | rw [if_neg (by omega)]); try first | rfl | omega)
  ·
    refine kb_iload_n X 3 rfl dX7_point_8 ?_
    refine kb_i2l X ⟨by omega, by omega⟩ dX7_point_9 ?_
    refine kb_ldc2 (v := -100) X (-100) (by decide +kernel) (by decide) dX7_point_10 ?_
    refine kb_ldc2 (v := 100) X (100) (by decide +kernel) (by decide) dX7_point_13 ?_
    refine kb_cSi X (rest := []) [kb_l (t0), kb_l ((-100)), kb_l (100)] (c_X7_in l D ad cy M t0 ((-100)) 100 (by first | omega | assumption | exact ⟨by omega, by omega⟩) (by first | omega | assumption | exact ⟨by omega, by omega⟩) (by first | omega | assumption | exact ⟨by omega, by omega⟩)) gX7_point_X7_in rfl hy_X7_in ⟨by decide, by decide⟩ rfl (Nat.le_of_ble_eq_true rfl) ⟨by decide, by decide⟩ dX7_point_16 rfl ?_
    refine kb_ifb_eq (tgt := 52) X dX7_point_19 (by decide) (fun h2 => ?_) (fun h2 => ?_)
    ·
      refine kb_bipush X (by decide) dX7_point_52 ?_
      exact kb_iret X hr hlocks dX7_point_54 (by unfold mo_pointR; repeat (first | rw [if_pos (by omega)] | rw [if_neg (by omega)]); try first | rfl | omega) (by unfold mo_pointM; repeat (first | rw [if_pos (by omega)] | rw [if_neg (by omega)]); try first | rfl | omega)
    ·
      refine kb_iload X 4 rfl dX7_point_22 ?_
      refine kb_i2l X ⟨by omega, by omega⟩ dX7_point_24 ?_
      refine kb_ldc2 (v := -200) X (-200) (by decide +kernel) (by decide) dX7_point_25 ?_
      refine kb_ldc2 (v := 200) X (200) (by decide +kernel) (by decide) dX7_point_28 ?_
      refine kb_cSi X (rest := []) [kb_l (dx), kb_l ((-200)), kb_l (200)] (c_X7_in l D ad cy M dx ((-200)) 200 (by first | omega | assumption | exact ⟨by omega, by omega⟩) (by first | omega | assumption | exact ⟨by omega, by omega⟩) (by first | omega | assumption | exact ⟨by omega, by omega⟩)) gX7_point_X7_in rfl hy_X7_in ⟨by decide, by decide⟩ rfl (Nat.le_of_ble_eq_true rfl) ⟨by decide, by decide⟩ dX7_point_31 rfl ?_
      refine kb_ifb_eq (tgt := 52) X dX7_point_34 (by decide) (fun h3 => ?_) (fun h3 => ?_)
      ·
        refine kb_bipush X (by decide) dX7_point_52 ?_
        exact kb_iret X hr hlocks dX7_point_54 (by unfold mo_pointR; repeat (first | rw [if_pos (by omega)] | rw [if_neg (by omega)]); try first | rfl | omega) (by unfold mo_pointM; repeat (first | rw [if_pos (by omega)] | rw [if_neg (by omega)]); try first | rfl | omega)
      ·
        refine kb_iload X 5 rfl dX7_point_37 ?_
        refine kb_i2l X ⟨by omega, by omega⟩ dX7_point_39 ?_
        refine kb_ldc2 (v := -200) X (-200) (by decide +kernel) (by decide) dX7_point_40 ?_
        refine kb_ldc2 (v := 200) X (200) (by decide +kernel) (by decide) dX7_point_43 ?_
        refine kb_cSi X (rest := []) [kb_l (dz), kb_l ((-200)), kb_l (200)] (c_X7_in l D ad cy M dz ((-200)) 200 (by first | omega | assumption | exact ⟨by omega, by omega⟩) (by first | omega | assumption | exact ⟨by omega, by omega⟩) (by first | omega | assumption | exact ⟨by omega, by omega⟩)) gX7_point_X7_in rfl hy_X7_in ⟨by decide, by decide⟩ rfl (Nat.le_of_ble_eq_true rfl) ⟨by decide, by decide⟩ dX7_point_46 rfl ?_
        refine kb_ifb_ne (tgt := 55) X dX7_point_49 (by decide) (fun h4 => ?_) (fun h4 => ?_)
        ·
          refine kb_aload_n X 0 rfl dX7_point_55 ?_
          refine kg_X7_points X hi_X7_point_X7 hf_X7_point_124 dX7_point_56 ?_
          have g5 : -2147483648 ≤ M 22 10 ∧ M 22 10 < 2147483648 := hM 22 10
          refine kb_bipush X (by decide) dX7_point_59 ?_
          refine kb_icmp_ne (tgt := 67) X ⟨by omega, by omega⟩ ⟨by decide, by decide⟩ dX7_point_61 (by decide) (fun h6 => ?_) (fun h6 => ?_)
          ·
            refine kb_aload_n X 0 rfl dX7_point_67 ?_
            refine kg_X7_px X hi_X7_point_X7 hf_X7_point_44 dX7_point_68 ?_
            refine kb_aload_n X 0 rfl dX7_point_71 ?_
            refine kg_X7_points X hi_X7_point_X7 hf_X7_point_124 dX7_point_72 ?_
            refine kb_iload_n X 1 rfl dX7_point_75 ?_
            refine kb_iast X 25 (n := 8) rfl ⟨by omega, by omega⟩ (by decide) ⟨by omega, by omega⟩ dX7_point_76 ?_
            refine kb_aload_n X 0 rfl dX7_point_77 ?_
            refine kg_X7_pz X hi_X7_point_X7 hf_X7_point_47 dX7_point_78 ?_
            refine kb_aload_n X 0 rfl dX7_point_81 ?_
            refine kg_X7_points X hi_X7_point_X7 hf_X7_point_124 dX7_point_82 ?_
            refine kb_eqi (b := M 22 10) (by first | rfl | simp [kb_wr]) ?_
            refine kb_iload_n X 2 rfl dX7_point_85 ?_
            refine kb_iast X 26 (n := 8) rfl ⟨by omega, by omega⟩ (by decide) ⟨by omega, by omega⟩ dX7_point_86 ?_
            refine kb_aload_n X 0 rfl dX7_point_87 ?_
            refine kg_X7_strength X hi_X7_point_X7 hf_X7_point_50 dX7_point_88 ?_
            refine kb_aload_n X 0 rfl dX7_point_91 ?_
            refine kg_X7_points X hi_X7_point_X7 hf_X7_point_124 dX7_point_92 ?_
            refine kb_eqi (b := M 22 10) (by first | rfl | simp [kb_wr]) ?_
            refine kb_iload_n X 3 rfl dX7_point_95 ?_
            refine kb_iast X 27 (n := 8) rfl ⟨by omega, by omega⟩ (by decide) ⟨by omega, by omega⟩ dX7_point_96 ?_
            refine kb_aload_n X 0 rfl dX7_point_97 ?_
            refine kg_X7_moveX X hi_X7_point_X7 hf_X7_point_53 dX7_point_98 ?_
            refine kb_aload_n X 0 rfl dX7_point_101 ?_
            refine kg_X7_points X hi_X7_point_X7 hf_X7_point_124 dX7_point_102 ?_
            refine kb_eqi (b := M 22 10) (by first | rfl | simp [kb_wr]) ?_
            refine kb_iload X 4 rfl dX7_point_105 ?_
            refine kb_iast X 28 (n := 8) rfl ⟨by omega, by omega⟩ (by decide) ⟨by omega, by omega⟩ dX7_point_107 ?_
            refine kb_aload_n X 0 rfl dX7_point_108 ?_
            refine kg_X7_moveZ X hi_X7_point_X7 hf_X7_point_56 dX7_point_109 ?_
            refine kb_aload_n X 0 rfl dX7_point_112 ?_
            refine kg_X7_points X hi_X7_point_X7 hf_X7_point_124 dX7_point_113 ?_
            refine kb_eqi (b := M 22 10) (by first | rfl | simp [kb_wr]) ?_
            refine kb_iload X 5 rfl dX7_point_116 ?_
            refine kb_iast X 29 (n := 8) rfl ⟨by omega, by omega⟩ (by decide) ⟨by omega, by omega⟩ dX7_point_118 ?_
            refine kb_aload_n X 0 rfl dX7_point_119 ?_
            refine kb_dup X rfl dX7_point_120 ?_
            refine kg_X7_points X hi_X7_point_X7 hf_X7_point_124 dX7_point_121 ?_
            refine kb_eqi (b := M 22 10) (by first | rfl | simp [kb_wr]) ?_
            refine kb_iconst X dX7_point_124 ?_
            refine kb_iadd X dX7_point_125 ?_
            refine kp_X7_points X hi_X7_point_X7 hf_X7_point_124 ⟨by omega, by omega⟩ dX7_point_126 ?_
            refine kb_aload_n X 0 rfl dX7_point_129 ?_
            refine kg_X7_points X hi_X7_point_X7 hf_X7_point_124 dX7_point_130 ?_
            refine kb_eqi (b := ((M 22 10) + 1)) (by first | rfl | simp [kb_wr]) ?_
            refine kb_iconst X dX7_point_133 ?_
            refine kb_isub X dX7_point_134 ?_
            exact kb_iret X hr hlocks dX7_point_135 (by unfold mo_pointR; repeat (first | rw [if_pos (by omega)] | rw [if_neg (by omega)]); try first | rfl | omega) (by unfold mo_pointM; repeat (first | rw [if_pos (by omega)] | rw [if_neg (by omega)]); try first | rfl | omega)
          ·
            refine kb_bipush X (by decide) dX7_point_64 ?_
            exact kb_iret X hr hlocks dX7_point_66 (by unfold mo_pointR; repeat (first | rw [if_pos (by omega)] | rw [if_neg (by omega)]); try first | rfl | omega) (by unfold mo_pointM; repeat (first | rw [if_pos (by omega)] | rw [if_neg (by omega)]); try first | rfl | omega)
        ·
          refine kb_bipush X (by decide) dX7_point_52 ?_
          exact kb_iret X hr hlocks dX7_point_54 (by unfold mo_pointR; repeat (first | rw [if_pos (by omega)] | rw [if_neg (by omega)]); try first | rfl | omega) (by unfold mo_pointM; repeat (first | rw [if_pos (by omega)] | rw [if_neg (by omega)]); try first | rfl | omega)
-- X7_clear
theorem hf_X7_clear_124 : Cond.fieldLink yX7_clear.cls 124 RX7 "points" "I" ∈ wsX7_clear := by decide +kernel
theorem hi_X7_clear_X7 : ∀ w ∈ wsX70, w ∈ wsX7_clear := by decide +kernel
theorem hy_X7_clear : yX7_clear.cls ≠ "java/lang/invoke/MethodHandle" ∧ yX7_clear.cls ≠ "java/lang/invoke/VarHandle" ∧ (parseMethodDescriptor yX7_clear.desc).map (fun d => d.parameters.length) = some 0 := by decide +kernel
set_option maxHeartbeats 4000000 in
set_option maxRecDepth 100000 in
theorem c_X7_clear (l : Launch) (D : va_G) (ad : Nat → Nat) (cy : Nat → ClassId) (M : kb_M)   : kb_Ci l D ad cy yX7_clear wsX7_clear 0 0 [.ref (ad 22)] M (M 22 10) (kb_wr M 22 10 0) := by
  refine kb_mkCi (cc := cX7_clear) (maxL := 2) (lv := [(0, .ref (ad 22))]) (plainFor_of_name (by decide)) rfl (Nat.le_of_ble_eq_true rfl) rfl ?_
  intro p e s m args below meth c X hr hlocks hM
  refine kb_aload_n X 0 rfl dX7_clear_0 ?_
  refine kg_X7_points X hi_X7_clear_X7 hf_X7_clear_124 dX7_clear_1 ?_
  have g1 : -2147483648 ≤ M 22 10 ∧ M 22 10 < 2147483648 := hM 22 10
  refine kb_istore_n (lv' := [(1, kb_i (M 22 10)), (0, .ref (ad 22))]) X dX7_clear_4 (by decide) rfl ?_
  refine kb_aload_n X 1 rfl dX7_clear_5 ?_
  refine kb_iconst X dX7_clear_6 ?_
  refine kp_X7_points X hi_X7_clear_X7 hf_X7_clear_124 ⟨by decide, by decide⟩ dX7_clear_7 ?_
  refine kb_iload_n X 0 rfl dX7_clear_10 ?_
  exact kb_iret X hr hlocks dX7_clear_11 (by first | rfl | assumption | omega | exact (kb_b1 (by omega)).symm | exact (kb_b0 (by omega)).symm) (by first | rfl | (exfalso; omega))
-- X7_pointAt
theorem hf_X7_pointAt_44 : Cond.fieldLink yX7_pointAt.cls 44 RX7 "px" "[I" ∈ wsX7_pointAt := by decide +kernel
theorem hf_X7_pointAt_47 : Cond.fieldLink yX7_pointAt.cls 47 RX7 "pz" "[I" ∈ wsX7_pointAt := by decide +kernel
theorem hf_X7_pointAt_50 : Cond.fieldLink yX7_pointAt.cls 50 RX7 "strength" "[I" ∈ wsX7_pointAt := by decide +kernel
theorem hf_X7_pointAt_124 : Cond.fieldLink yX7_pointAt.cls 124 RX7 "points" "I" ∈ wsX7_pointAt := by decide +kernel
theorem hi_X7_pointAt_X7 : ∀ w ∈ wsX70, w ∈ wsX7_pointAt := by decide +kernel
theorem hy_X7_pointAt : yX7_pointAt.cls ≠ "java/lang/invoke/MethodHandle" ∧ yX7_pointAt.cls ≠ "java/lang/invoke/VarHandle" ∧ (parseMethodDescriptor yX7_pointAt.desc).map (fun d => d.parameters.length) = some 2 := by decide +kernel
set_option maxHeartbeats 4000000 in
set_option maxRecDepth 100000 in
theorem c_X7_pointAt (l : Launch) (D : va_G) (ad : Nat → Nat) (cy : Nat → ClassId) (M : kb_M) (k : Int) (t0 : Int) (hk : -2147483648 ≤ k ∧ k < 2147483648) (ht0 : -2147483648 ≤ t0 ∧ t0 < 2147483648) (hsc : mo_sc M) : kb_Ci l D ad cy yX7_pointAt wsX7_pointAt 1 25 [.ref (ad 22), kb_i k, kb_i t0] M (mo_pointAtR M k t0) (M) := by
  refine kb_mkCi (cc := cX7_pointAt) (maxL := 3) (lv := [(0, .ref (ad 22)), (1, kb_i k), (2, kb_i t0)]) (plainFor_of_name (by decide)) rfl (Nat.le_of_ble_eq_true rfl) rfl ?_
  intro p e s m args below meth c X hr hlocks hM
  have hn := hsc.1
  refine kb_iload_n X 1 rfl dX7_pointAt_0 ?_
  refine kb_i2l X ⟨by omega, by omega⟩ dX7_pointAt_1 ?_
  refine kb_lconst X dX7_pointAt_2 ?_
  refine kb_eql (b := 0) rfl ?_
  refine kb_aload_n X 0 rfl dX7_pointAt_3 ?_
  refine kg_X7_points X hi_X7_pointAt_X7 hf_X7_pointAt_124 dX7_pointAt_4 ?_
  have g1 : -2147483648 ≤ M 22 10 ∧ M 22 10 < 2147483648 := hM 22 10
  refine kb_iconst X dX7_pointAt_7 ?_
  refine kb_isub X dX7_pointAt_8 ?_
  refine kb_i2l X ⟨by omega, by omega⟩ dX7_pointAt_9 ?_
  refine kb_cSi X (rest := []) [kb_l (k), kb_l (0), kb_l ((M 22 10) - 1)] (c_X7_in l D ad cy M k 0 ((M 22 10) - 1) (by first | omega | assumption | exact ⟨by omega, by omega⟩) (by first | omega | assumption | exact ⟨by omega, by omega⟩) (by first | omega | assumption | exact ⟨by omega, by omega⟩)) gX7_pointAt_X7_in rfl hy_X7_in ⟨by decide, by decide⟩ rfl (Nat.le_of_ble_eq_true rfl) ⟨by decide, by decide⟩ dX7_pointAt_10 rfl ?_
  refine kb_ifb_eq (tgt := 28) X dX7_pointAt_13 (by decide) (fun h2 => ?_) (fun h2 => ?_)
  ·
    refine kb_sipush X (by decide) dX7_pointAt_28 ?_
    exact kb_iret X hr hlocks dX7_pointAt_31 (by unfold mo_pointAtR; repeat (first | rw [if_pos (by omega)] | rw [if_neg (by omega)]); try first | rfl | omega) (by first | rfl | (exfalso; omega))
  ·
    refine kb_iload_n X 2 rfl dX7_pointAt_16 ?_
    refine kb_i2l X ⟨by omega, by omega⟩ dX7_pointAt_17 ?_
    refine kb_lconst X dX7_pointAt_18 ?_
    refine kb_eql (b := 0) rfl ?_
    refine kb_ldc2 (v := 2) X (2) (by decide +kernel) (by decide) dX7_pointAt_19 ?_
    refine kb_cSi X (rest := []) [kb_l (t0), kb_l (0), kb_l (2)] (c_X7_in l D ad cy M t0 0 2 (by first | omega | assumption | exact ⟨by omega, by omega⟩) (by first | omega | assumption | exact ⟨by omega, by omega⟩) (by first | omega | assumption | exact ⟨by omega, by omega⟩)) gX7_pointAt_X7_in rfl hy_X7_in ⟨by decide, by decide⟩ rfl (Nat.le_of_ble_eq_true rfl) ⟨by decide, by decide⟩ dX7_pointAt_22 rfl ?_
    refine kb_ifb_ne (tgt := 32) X dX7_pointAt_25 (by decide) (fun h3 => ?_) (fun h3 => ?_)
    ·
      refine kb_iload_n X 2 rfl dX7_pointAt_32 ?_
      refine kb_if_ne (tgt := 45) X ⟨by omega, by omega⟩ dX7_pointAt_33 (by decide) (fun h4 => ?_) (fun h4 => ?_)
      ·
        refine kb_iload_n X 2 rfl dX7_pointAt_45 ?_
        refine kb_iconst X dX7_pointAt_46 ?_
        refine kb_icmp_ne (tgt := 59) X ⟨by omega, by omega⟩ ⟨by decide, by decide⟩ dX7_pointAt_47 (by decide) (fun h5 => ?_) (fun h5 => ?_)
        ·
          refine kb_aload_n X 0 rfl dX7_pointAt_59 ?_
          refine kg_X7_strength X hi_X7_pointAt_X7 hf_X7_pointAt_50 dX7_pointAt_60 ?_
          refine kb_iload_n X 1 rfl dX7_pointAt_63 ?_
          refine kb_iald X 27 (n := 8) rfl ⟨by omega, by omega⟩ (by decide) dX7_pointAt_64 ?_
          have g6 : -2147483648 ≤ M 27 k ∧ M 27 k < 2147483648 := hM 27 k
          exact kb_iret X hr hlocks dX7_pointAt_65 (by unfold mo_pointAtR; repeat (first | rw [if_pos (by omega)] | rw [if_neg (by omega)]); try first | rfl | omega) (by first | rfl | (exfalso; omega))
        ·
          refine kb_aload_n X 0 rfl dX7_pointAt_50 ?_
          refine kg_X7_pz X hi_X7_pointAt_X7 hf_X7_pointAt_47 dX7_pointAt_51 ?_
          refine kb_iload_n X 1 rfl dX7_pointAt_54 ?_
          refine kb_iald X 26 (n := 8) rfl ⟨by omega, by omega⟩ (by decide) dX7_pointAt_55 ?_
          have g7 : -2147483648 ≤ M 26 k ∧ M 26 k < 2147483648 := hM 26 k
          refine kb_goto (tgt := 65) X dX7_pointAt_56 (by decide) ?_
          exact kb_iret X hr hlocks dX7_pointAt_65 (by unfold mo_pointAtR; repeat (first | rw [if_pos (by omega)] | rw [if_neg (by omega)]); try first | rfl | omega) (by first | rfl | (exfalso; omega))
      ·
        refine kb_aload_n X 0 rfl dX7_pointAt_36 ?_
        refine kg_X7_px X hi_X7_pointAt_X7 hf_X7_pointAt_44 dX7_pointAt_37 ?_
        refine kb_iload_n X 1 rfl dX7_pointAt_40 ?_
        refine kb_iald X 25 (n := 8) rfl ⟨by omega, by omega⟩ (by decide) dX7_pointAt_41 ?_
        have g8 : -2147483648 ≤ M 25 k ∧ M 25 k < 2147483648 := hM 25 k
        refine kb_goto (tgt := 65) X dX7_pointAt_42 (by decide) ?_
        exact kb_iret X hr hlocks dX7_pointAt_65 (by unfold mo_pointAtR; repeat (first | rw [if_pos (by omega)] | rw [if_neg (by omega)]); try first | rfl | omega) (by first | rfl | (exfalso; omega))
    ·
      refine kb_sipush X (by decide) dX7_pointAt_28 ?_
      exact kb_iret X hr hlocks dX7_pointAt_31 (by unfold mo_pointAtR; repeat (first | rw [if_pos (by omega)] | rw [if_neg (by omega)]); try first | rfl | omega) (by first | rfl | (exfalso; omega))
-- X7_add
theorem hf_X7_add_63 : Cond.fieldLink yX7_add.cls 63 RX7 "samples" "[I" ∈ wsX7_add := by decide +kernel
theorem hi_X7_add_X7 : ∀ w ∈ wsX70, w ∈ wsX7_add := by decide +kernel
theorem hy_X7_add : yX7_add.cls ≠ "java/lang/invoke/MethodHandle" ∧ yX7_add.cls ≠ "java/lang/invoke/VarHandle" ∧ (parseMethodDescriptor yX7_add.desc).map (fun d => d.parameters.length) = some 4 := by decide +kernel
set_option maxHeartbeats 4000000 in
set_option maxRecDepth 100000 in
theorem c_X7_add (l : Launch) (D : va_G) (ad : Nat → Nat) (cy : Nat → ClassId) (M : kb_M) (lk : Int) (i : Int) (s0 : Int) (a0 : Int) (hlk : 0 ≤ lk ∧ lk < 6) (hi : 0 ≤ i ∧ i < 16) (hs0 : -2147483648 ≤ s0 ∧ s0 < 2147483648) (hm : -1000 ≤ a0 ∧ a0 ≤ 1000) (hb : ∀ j : Int, -1000000 ≤ M 31 j ∧ M 31 j ≤ 1000000) : kb_Cv l D ad cy yX7_add wsX7_add 1 25 [.ref (ad 22), kb_i lk, kb_i i, kb_i s0, kb_i a0] M (mo_ld M lk i s0 a0) := by
  refine kb_mkCv (cc := cX7_add) (maxL := 5) (lv := [(0, .ref (ad 22)), (1, kb_i lk), (2, kb_i i), (3, kb_i s0), (4, kb_i a0)]) (plainFor_of_name (by decide)) rfl (Nat.le_of_ble_eq_true rfl) rfl ?_
  intro p e s m args below meth c X hr hlocks hM
  refine kb_iload_n X 3 rfl dX7_add_0 ?_
  refine kb_i2l X ⟨by omega, by omega⟩ dX7_add_1 ?_
  refine kb_lconst X dX7_add_2 ?_
  refine kb_eql (b := 0) rfl ?_
  refine kb_ldc2 (v := 399) X (399) (by decide +kernel) (by decide) dX7_add_3 ?_
  refine kb_cSi X (rest := []) [kb_l (s0), kb_l (0), kb_l (399)] (c_X7_in l D ad cy M s0 0 399 (by first | omega | assumption | exact ⟨by omega, by omega⟩) (by first | omega | assumption | exact ⟨by omega, by omega⟩) (by first | omega | assumption | exact ⟨by omega, by omega⟩)) gX7_add_X7_in rfl hy_X7_in ⟨by decide, by decide⟩ rfl (Nat.le_of_ble_eq_true rfl) ⟨by decide, by decide⟩ dX7_add_6 rfl ?_
  refine kb_ifb_eq (tgt := 34) X dX7_add_9 (by decide) (fun h1 => ?_) (fun h1 => ?_)
  ·
    exact kb_vret X hr hlocks dX7_add_34 (by first | exact mo_ld_in _ _ _ _ _ (by omega) | exact mo_ld_out _ _ _ _ _ (by omega))
  ·
    have b31 := hb (400 * (16 * lk + i) + s0)
    refine kb_aload_n X 0 rfl dX7_add_12 ?_
    refine kg_X7_samples X hi_X7_add_X7 hf_X7_add_63 dX7_add_13 ?_
    refine kb_sipush X (by decide) dX7_add_16 ?_
    refine kb_bipush X (by decide) dX7_add_19 ?_
    refine kb_iload_n X 1 rfl dX7_add_21 ?_
    refine kb_imul X dX7_add_22 ?_
    refine kb_iload_n X 2 rfl dX7_add_23 ?_
    refine kb_iadd X dX7_add_24 ?_
    refine kb_imul X dX7_add_25 ?_
    refine kb_iload_n X 3 rfl dX7_add_26 ?_
    refine kb_iadd X dX7_add_27 ?_
    refine kb_dup2 X rfl rfl dX7_add_28 ?_
    refine kb_iald X 31 (n := 38400) rfl ⟨by omega, by omega⟩ (by decide) dX7_add_29 ?_
    have g2 : -2147483648 ≤ M 31 ((400 * ((16 * lk) + i)) + s0) ∧ M 31 ((400 * ((16 * lk) + i)) + s0) < 2147483648 := hM 31 ((400 * ((16 * lk) + i)) + s0)
    refine kb_iload X 4 rfl dX7_add_30 ?_
    refine kb_iadd X dX7_add_32 ?_
    refine kb_iast X 31 (n := 38400) rfl ⟨by omega, by omega⟩ (by decide) ⟨by omega, by omega⟩ dX7_add_33 ?_
    exact kb_vret X hr hlocks dX7_add_34 (by first | exact mo_ld_in _ _ _ _ _ (by omega) | exact mo_ld_out _ _ _ _ _ (by omega))
-- X7_held
theorem hy_X7_held : yX7_held.cls ≠ "java/lang/invoke/MethodHandle" ∧ yX7_held.cls ≠ "java/lang/invoke/VarHandle" ∧ (parseMethodDescriptor yX7_held.desc).map (fun d => d.parameters.length) = some 3 := by decide +kernel
set_option maxHeartbeats 4000000 in
set_option maxRecDepth 100000 in
theorem c_X7_held (l : Launch) (D : va_G) (ad : Nat → Nat) (cy : Nat → ClassId) (M : kb_M) (v : Int) (lo : Int) (hi : Int) (hv : -2147483648 ≤ v ∧ v < 2147483648) (hlo : -2147483648 ≤ lo ∧ lo < 2147483648) (hhi : -2147483648 ≤ hi ∧ hi < 2147483648) (hh : lo ≤ hi) : kb_Ci l D ad cy yX7_held wsX7_held 0 0 [kb_i v, kb_i lo, kb_i hi] M (max lo (min v hi)) (M) := by
  refine kb_mkCi (cc := cX7_held) (maxL := 3) (lv := [(0, kb_i v), (1, kb_i lo), (2, kb_i hi)]) (plainFor_of_name (by decide)) rfl (Nat.le_of_ble_eq_true rfl) rfl ?_
  intro p e s m args below meth c X hr hlocks hM
  refine kb_iload_n X 0 rfl dX7_held_0 ?_
  refine kb_iload_n X 1 rfl dX7_held_1 ?_
  refine kb_icmp_ge (tgt := 9) X ⟨by omega, by omega⟩ ⟨by omega, by omega⟩ dX7_held_2 (by decide) (fun h1 => ?_) (fun h1 => ?_)
  ·
    refine kb_iload_n X 0 rfl dX7_held_9 ?_
    refine kb_iload_n X 2 rfl dX7_held_10 ?_
    refine kb_icmp_le (tgt := 18) X ⟨by omega, by omega⟩ ⟨by omega, by omega⟩ dX7_held_11 (by decide) (fun h2 => ?_) (fun h2 => ?_)
    ·
      refine kb_iload_n X 0 rfl dX7_held_18 ?_
      exact kb_iret X hr hlocks dX7_held_19 (by first | rfl | assumption | omega | exact (kb_b1 (by omega)).symm | exact (kb_b0 (by omega)).symm) (by first | rfl | (exfalso; omega))
    ·
      refine kb_iload_n X 2 rfl dX7_held_14 ?_
      refine kb_goto (tgt := 19) X dX7_held_15 (by decide) ?_
      exact kb_iret X hr hlocks dX7_held_19 (by first | rfl | assumption | omega | exact (kb_b1 (by omega)).symm | exact (kb_b0 (by omega)).symm) (by first | rfl | (exfalso; omega))
  ·
    refine kb_iload_n X 1 rfl dX7_held_5 ?_
    refine kb_goto (tgt := 19) X dX7_held_6 (by decide) ?_
    exact kb_iret X hr hlocks dX7_held_19 (by first | rfl | assumption | omega | exact (kb_b1 (by omega)).symm | exact (kb_b0 (by omega)).symm) (by first | rfl | (exfalso; omega))
-- X7_isLook
theorem hf_X7_isLook_87 : Cond.fieldLink yX7_isLook.cls 87 RX7 "looks" "I" ∈ wsX7_isLook := by decide +kernel
theorem hi_X7_isLook_X7 : ∀ w ∈ wsX70, w ∈ wsX7_isLook := by decide +kernel
theorem hy_X7_isLook : yX7_isLook.cls ≠ "java/lang/invoke/MethodHandle" ∧ yX7_isLook.cls ≠ "java/lang/invoke/VarHandle" ∧ (parseMethodDescriptor yX7_isLook.desc).map (fun d => d.parameters.length) = some 1 := by decide +kernel
set_option maxHeartbeats 4000000 in
set_option maxRecDepth 100000 in
theorem c_X7_isLook (l : Launch) (D : va_G) (ad : Nat → Nat) (cy : Nat → ClassId) (M : kb_M) (lk : Int) (hlk : -2147483648 ≤ lk ∧ lk < 2147483648) (hs : 0 ≤ M 22 16 ∧ M 22 16 ≤ 6) : kb_Ci l D ad cy yX7_isLook wsX7_isLook 1 25 [.ref (ad 22), kb_i lk] M (kb_b (0 ≤ lk ∧ lk ≤ M 22 16 - 1)) (M) := by
  refine kb_mkCi (cc := cX7_isLook) (maxL := 2) (lv := [(0, .ref (ad 22)), (1, kb_i lk)]) (plainFor_of_name (by decide)) rfl (Nat.le_of_ble_eq_true rfl) rfl ?_
  intro p e s m args below meth c X hr hlocks hM
  refine kb_iload_n X 1 rfl dX7_isLook_0 ?_
  refine kb_i2l X ⟨by omega, by omega⟩ dX7_isLook_1 ?_
  refine kb_lconst X dX7_isLook_2 ?_
  refine kb_eql (b := 0) rfl ?_
  refine kb_aload_n X 0 rfl dX7_isLook_3 ?_
  refine kg_X7_looks X hi_X7_isLook_X7 hf_X7_isLook_87 dX7_isLook_4 ?_
  have g1 : -2147483648 ≤ M 22 16 ∧ M 22 16 < 2147483648 := hM 22 16
  refine kb_iconst X dX7_isLook_7 ?_
  refine kb_isub X dX7_isLook_8 ?_
  refine kb_i2l X ⟨by omega, by omega⟩ dX7_isLook_9 ?_
  refine kb_cSi X (rest := []) [kb_l (lk), kb_l (0), kb_l ((M 22 16) - 1)] (c_X7_in l D ad cy M lk 0 ((M 22 16) - 1) (by first | omega | assumption | exact ⟨by omega, by omega⟩) (by first | omega | assumption | exact ⟨by omega, by omega⟩) (by first | omega | assumption | exact ⟨by omega, by omega⟩)) gX7_isLook_X7_in rfl hy_X7_in ⟨by decide, by decide⟩ rfl (Nat.le_of_ble_eq_true rfl) ⟨by decide, by decide⟩ dX7_isLook_10 rfl ?_
  exact kb_zret X hr hlocks (by unfold kb_b; split; exact Or.inr rfl; exact Or.inl rfl) dX7_isLook_13 (by first | rfl | assumption | omega | exact (kb_b1 (by omega)).symm | exact (kb_b0 (by omega)).symm) (by first | rfl | (exfalso; omega))
-- X7_sampleAt
theorem hf_X7_sampleAt_63 : Cond.fieldLink yX7_sampleAt.cls 63 RX7 "samples" "[I" ∈ wsX7_sampleAt := by decide +kernel
theorem hi_X7_sampleAt_X7 : ∀ w ∈ wsX70, w ∈ wsX7_sampleAt := by decide +kernel
theorem hy_X7_sampleAt : yX7_sampleAt.cls ≠ "java/lang/invoke/MethodHandle" ∧ yX7_sampleAt.cls ≠ "java/lang/invoke/VarHandle" ∧ (parseMethodDescriptor yX7_sampleAt.desc).map (fun d => d.parameters.length) = some 3 := by decide +kernel
set_option maxHeartbeats 4000000 in
set_option maxRecDepth 100000 in
theorem c_X7_sampleAt (l : Launch) (D : va_G) (ad : Nat → Nat) (cy : Nat → ClassId) (M : kb_M) (lk : Int) (i : Int) (s0 : Int) (hlk : 0 ≤ lk ∧ lk < 6) (hi : 0 ≤ i ∧ i < 16) (hs0 : -2147483648 ≤ s0 ∧ s0 < 2147483648) : kb_Ci l D ad cy yX7_sampleAt wsX7_sampleAt 1 25 [.ref (ad 22), kb_i lk, kb_i i, kb_i s0] M (mo_at M lk i s0) (M) := by
  refine kb_mkCi (cc := cX7_sampleAt) (maxL := 4) (lv := [(0, .ref (ad 22)), (1, kb_i lk), (2, kb_i i), (3, kb_i s0)]) (plainFor_of_name (by decide)) rfl (Nat.le_of_ble_eq_true rfl) rfl ?_
  intro p e s m args below meth c X hr hlocks hM
  refine kb_iload_n X 3 rfl dX7_sampleAt_0 ?_
  refine kb_i2l X ⟨by omega, by omega⟩ dX7_sampleAt_1 ?_
  refine kb_lconst X dX7_sampleAt_2 ?_
  refine kb_eql (b := 0) rfl ?_
  refine kb_ldc2 (v := 399) X (399) (by decide +kernel) (by decide) dX7_sampleAt_3 ?_
  refine kb_cSi X (rest := []) [kb_l (s0), kb_l (0), kb_l (399)] (c_X7_in l D ad cy M s0 0 399 (by first | omega | assumption | exact ⟨by omega, by omega⟩) (by first | omega | assumption | exact ⟨by omega, by omega⟩) (by first | omega | assumption | exact ⟨by omega, by omega⟩)) gX7_sampleAt_X7_in rfl hy_X7_in ⟨by decide, by decide⟩ rfl (Nat.le_of_ble_eq_true rfl) ⟨by decide, by decide⟩ dX7_sampleAt_6 rfl ?_
  refine kb_ifb_eq (tgt := 32) X dX7_sampleAt_9 (by decide) (fun h1 => ?_) (fun h1 => ?_)
  ·
    refine kb_iconst X dX7_sampleAt_32 ?_
    exact kb_iret X hr hlocks dX7_sampleAt_33 (by unfold mo_at; first | rw [if_pos (by omega)] | rw [if_neg (by omega)]) (by first | rfl | (exfalso; omega))
  ·
    refine kb_aload_n X 0 rfl dX7_sampleAt_12 ?_
    refine kg_X7_samples X hi_X7_sampleAt_X7 hf_X7_sampleAt_63 dX7_sampleAt_13 ?_
    refine kb_sipush X (by decide) dX7_sampleAt_16 ?_
    refine kb_bipush X (by decide) dX7_sampleAt_19 ?_
    refine kb_iload_n X 1 rfl dX7_sampleAt_21 ?_
    refine kb_imul X dX7_sampleAt_22 ?_
    refine kb_iload_n X 2 rfl dX7_sampleAt_23 ?_
    refine kb_iadd X dX7_sampleAt_24 ?_
    refine kb_imul X dX7_sampleAt_25 ?_
    refine kb_iload_n X 3 rfl dX7_sampleAt_26 ?_
    refine kb_iadd X dX7_sampleAt_27 ?_
    refine kb_iald X 31 (n := 38400) rfl ⟨by omega, by omega⟩ (by decide) dX7_sampleAt_28 ?_
    have g2 : -2147483648 ≤ M 31 ((400 * ((16 * lk) + i)) + s0) ∧ M 31 ((400 * ((16 * lk) + i)) + s0) < 2147483648 := hM 31 ((400 * ((16 * lk) + i)) + s0)
    refine kb_goto (tgt := 33) X dX7_sampleAt_29 (by decide) ?_
    exact kb_iret X hr hlocks dX7_sampleAt_33 (by unfold mo_at; first | rw [if_pos (by omega)] | rw [if_neg (by omega)]) (by first | rfl | (exfalso; omega))
-- X7_sample
theorem hf_X7_sample_19 : Cond.fieldLink yX7_sample.cls 19 RX7 "n" "I" ∈ wsX7_sample := by decide +kernel
theorem hi_X7_sample_X7 : ∀ w ∈ wsX70, w ∈ wsX7_sample := by decide +kernel
theorem hy_X7_sample : yX7_sample.cls ≠ "java/lang/invoke/MethodHandle" ∧ yX7_sample.cls ≠ "java/lang/invoke/VarHandle" ∧ (parseMethodDescriptor yX7_sample.desc).map (fun d => d.parameters.length) = some 3 := by decide +kernel
set_option maxHeartbeats 4000000 in
set_option maxRecDepth 100000 in
theorem c_X7_sample (l : Launch) (D : va_G) (ad : Nat → Nat) (cy : Nat → ClassId) (M : kb_M) (lk : Int) (i : Int) (s0 : Int) (hlk : -2147483648 ≤ lk ∧ lk < 2147483648) (hi : -2147483648 ≤ i ∧ i < 2147483648) (hs0 : -2147483648 ≤ s0 ∧ s0 < 2147483648) (hIP : mo_IP M) (hIL : mo_IL M) : kb_Ci l D ad cy yX7_sample wsX7_sample 2 48 [.ref (ad 22), kb_i lk, kb_i i, kb_i s0] M (mo_sampleR M lk i s0) (M) := by
  refine kb_mkCi (cc := cX7_sample) (maxL := 4) (lv := [(0, .ref (ad 22)), (1, kb_i lk), (2, kb_i i), (3, kb_i s0)]) (plainFor_of_name (by decide)) rfl (Nat.le_of_ble_eq_true rfl) rfl ?_
  intro p e s m args below meth c X hr hlocks hM
  obtain ⟨hxs, hn, hP, hT, hf⟩ := id hIP
  obtain ⟨hs, hsb, hsn⟩ := id hIL
  refine kb_aload_n X 0 rfl dX7_sample_0 ?_
  refine kb_iload_n X 1 rfl dX7_sample_1 ?_
  refine kb_cVi X (rest := []) [kb_i lk] 22 (fl := [none, some 23, some 24, none, none, none, none, none, none, none, none, some 25, some 26, some 27, some 28, some 29, none, some 30, some 31, none, some 32, some 33, some 34, some 35, none, none, none, some 36]) (C := RX7) rfl rfl (c_X7_isLook l D ad cy M lk (by first | omega | assumption | exact ⟨by omega, by omega⟩) (by first | omega | assumption | exact ⟨by omega, by omega⟩)) gX7_sample_X7_isLook rfl ⟨rfl, hy_X7_isLook⟩ ⟨by decide, by decide⟩ rfl (Nat.le_of_ble_eq_true rfl) ⟨by decide, by decide⟩ dX7_sample_2 rfl ?_
  refine kb_ifb_eq (tgt := 46) X dX7_sample_5 (by decide) (fun h1 => ?_) (fun h1 => ?_)
  ·
    refine kb_ldc (v := -1000000) X (-1000000) (by decide +kernel) (by decide) dX7_sample_46 ?_
    exact kb_iret X hr hlocks dX7_sample_48 (by unfold mo_sampleR; repeat (first | rw [if_pos (by omega)] | rw [if_neg (by omega)]); try first | rfl | omega) (by first | rfl | (exfalso; omega))
  ·
    refine kb_iload_n X 2 rfl dX7_sample_8 ?_
    refine kb_i2l X ⟨by omega, by omega⟩ dX7_sample_9 ?_
    refine kb_lconst X dX7_sample_10 ?_
    refine kb_eql (b := 0) rfl ?_
    refine kb_aload_n X 0 rfl dX7_sample_11 ?_
    refine kg_X7_n X hi_X7_sample_X7 hf_X7_sample_19 dX7_sample_12 ?_
    have g2 : -2147483648 ≤ M 22 0 ∧ M 22 0 < 2147483648 := hM 22 0
    refine kb_iconst X dX7_sample_15 ?_
    refine kb_isub X dX7_sample_16 ?_
    refine kb_i2l X ⟨by omega, by omega⟩ dX7_sample_17 ?_
    refine kb_cSi X (rest := []) [kb_l (i), kb_l (0), kb_l ((M 22 0) - 1)] (c_X7_in l D ad cy M i 0 ((M 22 0) - 1) (by first | omega | assumption | exact ⟨by omega, by omega⟩) (by first | omega | assumption | exact ⟨by omega, by omega⟩) (by first | omega | assumption | exact ⟨by omega, by omega⟩)) gX7_sample_X7_in rfl hy_X7_in ⟨by decide, by decide⟩ rfl (Nat.le_of_ble_eq_true rfl) ⟨by decide, by decide⟩ dX7_sample_18 rfl ?_
    refine kb_ifb_eq (tgt := 46) X dX7_sample_21 (by decide) (fun h3 => ?_) (fun h3 => ?_)
    ·
      refine kb_ldc (v := -1000000) X (-1000000) (by decide +kernel) (by decide) dX7_sample_46 ?_
      exact kb_iret X hr hlocks dX7_sample_48 (by unfold mo_sampleR; repeat (first | rw [if_pos (by omega)] | rw [if_neg (by omega)]); try first | rfl | omega) (by first | rfl | (exfalso; omega))
    ·
      refine kb_iload_n X 3 rfl dX7_sample_24 ?_
      refine kb_i2l X ⟨by omega, by omega⟩ dX7_sample_25 ?_
      refine kb_lconst X dX7_sample_26 ?_
      refine kb_eql (b := 0) rfl ?_
      refine kb_ldc2 (v := 399) X (399) (by decide +kernel) (by decide) dX7_sample_27 ?_
      refine kb_cSi X (rest := []) [kb_l (s0), kb_l (0), kb_l (399)] (c_X7_in l D ad cy M s0 0 399 (by first | omega | assumption | exact ⟨by omega, by omega⟩) (by first | omega | assumption | exact ⟨by omega, by omega⟩) (by first | omega | assumption | exact ⟨by omega, by omega⟩)) gX7_sample_X7_in rfl hy_X7_in ⟨by decide, by decide⟩ rfl (Nat.le_of_ble_eq_true rfl) ⟨by decide, by decide⟩ dX7_sample_30 rfl ?_
      refine kb_ifb_eq (tgt := 46) X dX7_sample_33 (by decide) (fun h4 => ?_) (fun h4 => ?_)
      ·
        refine kb_ldc (v := -1000000) X (-1000000) (by decide +kernel) (by decide) dX7_sample_46 ?_
        exact kb_iret X hr hlocks dX7_sample_48 (by unfold mo_sampleR; repeat (first | rw [if_pos (by omega)] | rw [if_neg (by omega)]); try first | rfl | omega) (by first | rfl | (exfalso; omega))
      ·
        refine kb_aload_n X 0 rfl dX7_sample_36 ?_
        refine kb_iload_n X 1 rfl dX7_sample_37 ?_
        refine kb_iload_n X 2 rfl dX7_sample_38 ?_
        refine kb_iload_n X 3 rfl dX7_sample_39 ?_
        refine kb_cVi X (rest := []) [kb_i lk, kb_i i, kb_i s0] 22 (fl := [none, some 23, some 24, none, none, none, none, none, none, none, none, some 25, some 26, some 27, some 28, some 29, none, some 30, some 31, none, some 32, some 33, some 34, some 35, none, none, none, some 36]) (C := RX7) rfl rfl (c_X7_sampleAt l D ad cy M lk i s0 (by first | omega | assumption | exact ⟨by omega, by omega⟩) (by first | omega | assumption | exact ⟨by omega, by omega⟩) (by first | omega | assumption | exact ⟨by omega, by omega⟩)) gX7_sample_X7_sampleAt rfl ⟨rfl, hy_X7_sampleAt⟩ ⟨by decide, by decide⟩ rfl (Nat.le_of_ble_eq_true rfl) ⟨by decide, by decide⟩ dX7_sample_40 rfl ?_
        refine kb_goto (tgt := 48) X dX7_sample_43 (by decide) ?_
        exact kb_iret X hr hlocks dX7_sample_48 (by unfold mo_sampleR; repeat (first | rw [if_pos (by omega)] | rw [if_neg (by omega)]); try first | rfl | omega) (by first | rfl | (exfalso; omega))
-- X7_window
theorem hf_X7_window_37 : Cond.fieldLink yX7_window.cls 37 RX7 "part" "I" ∈ wsX7_window := by decide +kernel
theorem hf_X7_window_149 : Cond.fieldLink yX7_window.cls 149 RX7 "window" "I" ∈ wsX7_window := by decide +kernel
theorem hi_X7_window_X7 : ∀ w ∈ wsX70, w ∈ wsX7_window := by decide +kernel
theorem hy_X7_window : yX7_window.cls ≠ "java/lang/invoke/MethodHandle" ∧ yX7_window.cls ≠ "java/lang/invoke/VarHandle" ∧ (parseMethodDescriptor yX7_window.desc).map (fun d => d.parameters.length) = some 2 := by decide +kernel
set_option maxHeartbeats 4000000 in
set_option maxRecDepth 100000 in
theorem c_X7_window (l : Launch) (D : va_G) (ad : Nat → Nat) (cy : Nat → ClassId) (M : kb_M) (w : Int) (f : Int) (hw : -2147483648 ≤ w ∧ w < 2147483648) (hf : -2147483648 ≤ f ∧ f < 2147483648) : kb_Ci l D ad cy yX7_window wsX7_window 1 25 [.ref (ad 22), kb_i w, kb_i f] M (mo_windowR M w f) (mo_windowM M w f) := by
  refine kb_mkCi (cc := cX7_window) (maxL := 4) (lv := [(0, .ref (ad 22)), (1, kb_i w), (2, kb_i f)]) (plainFor_of_name (by decide)) rfl (Nat.le_of_ble_eq_true rfl) rfl ?_
  intro p e s m args below meth c X hr hlocks hM
  refine kb_iload_n X 1 rfl dX7_window_0 ?_
  refine kb_i2l X ⟨by omega, by omega⟩ dX7_window_1 ?_
  refine kb_lconst X dX7_window_2 ?_
  refine kb_eql (b := 0) rfl ?_
  refine kb_ldc2 (v := 2) X (2) (by decide +kernel) (by decide) dX7_window_3 ?_
  refine kb_cSi X (rest := []) [kb_l (w), kb_l (0), kb_l (2)] (c_X7_in l D ad cy M w 0 2 (by first | omega | assumption | exact ⟨by omega, by omega⟩) (by first | omega | assumption | exact ⟨by omega, by omega⟩) (by first | omega | assumption | exact ⟨by omega, by omega⟩)) gX7_window_X7_in rfl hy_X7_in ⟨by decide, by decide⟩ rfl (Nat.le_of_ble_eq_true rfl) ⟨by decide, by decide⟩ dX7_window_6 rfl ?_
  refine kb_ifb_eq (tgt := 24) X dX7_window_9 (by decide) (fun h1 => ?_) (fun h1 => ?_)
  ·
    refine kb_bipush X (by decide) dX7_window_24 ?_
    exact kb_iret X hr hlocks dX7_window_26 (by unfold mo_windowR; repeat (first | rw [if_pos (by omega)] | rw [if_neg (by omega)]); try first | rfl | omega) (by unfold mo_windowM; repeat (first | rw [if_pos (by omega)] | rw [if_neg (by omega)]); try first | rfl | omega)
  ·
    refine kb_iload_n X 2 rfl dX7_window_12 ?_
    refine kb_i2l X ⟨by omega, by omega⟩ dX7_window_13 ?_
    refine kb_lconst X dX7_window_14 ?_
    refine kb_eql (b := 1) rfl ?_
    refine kb_ldc2 (v := 9) X (9) (by decide +kernel) (by decide) dX7_window_15 ?_
    refine kb_cSi X (rest := []) [kb_l (f), kb_l (1), kb_l (9)] (c_X7_in l D ad cy M f 1 9 (by first | omega | assumption | exact ⟨by omega, by omega⟩) (by first | omega | assumption | exact ⟨by omega, by omega⟩) (by first | omega | assumption | exact ⟨by omega, by omega⟩)) gX7_window_X7_in rfl hy_X7_in ⟨by decide, by decide⟩ rfl (Nat.le_of_ble_eq_true rfl) ⟨by decide, by decide⟩ dX7_window_18 rfl ?_
    refine kb_ifb_ne (tgt := 27) X dX7_window_21 (by decide) (fun h2 => ?_) (fun h2 => ?_)
    ·
      refine kb_aload_n X 0 rfl dX7_window_27 ?_
      refine kg_X7_window X hi_X7_window_X7 hf_X7_window_149 dX7_window_28 ?_
      have g3 : -2147483648 ≤ M 22 5 ∧ M 22 5 < 2147483648 := hM 22 5
      refine kb_istore_n (lv' := [(3, kb_i (M 22 5)), (0, .ref (ad 22)), (1, kb_i w), (2, kb_i f)]) X dX7_window_31 (by decide) rfl ?_
      refine kb_aload_n X 1 rfl dX7_window_32 ?_
      refine kb_iload_n X 2 rfl dX7_window_33 ?_
      refine kp_X7_window X hi_X7_window_X7 hf_X7_window_149 ⟨by omega, by omega⟩ dX7_window_34 ?_
      refine kb_aload_n X 1 rfl dX7_window_37 ?_
      refine kb_iload_n X 3 rfl dX7_window_38 ?_
      refine kp_X7_part X hi_X7_window_X7 hf_X7_window_37 ⟨by omega, by omega⟩ dX7_window_39 ?_
      refine kb_iload_n X 0 rfl dX7_window_42 ?_
      exact kb_iret X hr hlocks dX7_window_43 (by unfold mo_windowR; repeat (first | rw [if_pos (by omega)] | rw [if_neg (by omega)]); try first | rfl | omega) (by unfold mo_windowM; repeat (first | rw [if_pos (by omega)] | rw [if_neg (by omega)]); try first | rfl | omega)
    ·
      refine kb_bipush X (by decide) dX7_window_24 ?_
      exact kb_iret X hr hlocks dX7_window_26 (by unfold mo_windowR; repeat (first | rw [if_pos (by omega)] | rw [if_neg (by omega)]); try first | rfl | omega) (by unfold mo_windowM; repeat (first | rw [if_pos (by omega)] | rw [if_neg (by omega)]); try first | rfl | omega)
-- X7_sumOf
theorem hf_X7_sumOf_19 : Cond.fieldLink yX7_sumOf.cls 19 RX7 "n" "I" ∈ wsX7_sumOf := by decide +kernel
theorem hf_X7_sumOf_59 : Cond.fieldLink yX7_sumOf.cls 59 RX7 "senders" "[I" ∈ wsX7_sumOf := by decide +kernel
theorem hi_X7_sumOf_X7 : ∀ w ∈ wsX70, w ∈ wsX7_sumOf := by decide +kernel
theorem hy_X7_sumOf : yX7_sumOf.cls ≠ "java/lang/invoke/MethodHandle" ∧ yX7_sumOf.cls ≠ "java/lang/invoke/VarHandle" ∧ (parseMethodDescriptor yX7_sumOf.desc).map (fun d => d.parameters.length) = some 3 := by decide +kernel
set_option maxHeartbeats 4000000 in
set_option maxRecDepth 100000 in
theorem c_X7_sumOf (l : Launch) (D : va_G) (ad : Nat → Nat) (cy : Nat → ClassId) (M : kb_M) (lk : Int) (x : Int) (z : Int) (hlk : 0 ≤ lk ∧ lk < 6) (hx : -2000 ≤ x ∧ x ≤ 2000) (hz : 0 ≤ z ∧ z ≤ 4000) (hIP : mo_IP M) (hsd : 0 ≤ M 30 lk ∧ M 30 lk < M 22 0) (hsb : ∀ j : Int, -1600 ≤ M 31 j ∧ M 31 j ≤ 1600) : kb_Cl l D ad cy yX7_sumOf wsX7_sumOf 2 54 [.ref (ad 22), kb_i lk, kb_i x, kb_i z] M (mo_as M lk x z) (M) := by
  refine kb_mkCl (cc := cX7_sumOf) (maxL := 8) (lv := [(0, .ref (ad 22)), (1, kb_i lk), (2, kb_i x), (3, kb_i z)]) (plainFor_of_name (by decide)) rfl (Nat.le_of_ble_eq_true rfl) rfl ?_
  intro p e s m args below meth c X hr hlocks hM
  obtain ⟨hxs, hn, hP, hT, hf⟩ := id hIP
  refine kb_aload_n X 0 rfl dX7_sumOf_0 ?_
  refine kb_aload_n X 0 rfl dX7_sumOf_1 ?_
  refine kg_X7_senders X hi_X7_sumOf_X7 hf_X7_sumOf_59 dX7_sumOf_2 ?_
  refine kb_iload_n X 1 rfl dX7_sumOf_5 ?_
  refine kb_iald X 30 (n := 6) rfl ⟨by omega, by omega⟩ (by decide) dX7_sumOf_6 ?_
  have g1 : -2147483648 ≤ M 30 lk ∧ M 30 lk < 2147483648 := hM 30 lk
  refine kb_iload_n X 2 rfl dX7_sumOf_7 ?_
  refine kb_iload_n X 3 rfl dX7_sumOf_8 ?_
  refine kb_cVi X (rest := []) [kb_i (M 30 lk), kb_i x, kb_i z] 22 (fl := [none, some 23, some 24, none, none, none, none, none, none, none, none, some 25, some 26, some 27, some 28, some 29, none, some 30, some 31, none, some 32, some 33, some 34, some 35, none, none, none, some 36]) (C := RX7) rfl rfl (c_X7_delayOf l D ad cy M (M 30 lk) x z (by first | omega | assumption | exact ⟨by omega, by omega⟩) (by first | omega | assumption | exact ⟨by omega, by omega⟩) (by first | omega | assumption | exact ⟨by omega, by omega⟩) (by first | omega | assumption | exact ⟨by omega, by omega⟩)) gX7_sumOf_X7_delayOf rfl ⟨rfl, hy_X7_delayOf⟩ ⟨by decide, by decide⟩ rfl (Nat.le_of_ble_eq_true rfl) ⟨by decide, by decide⟩ dX7_sumOf_9 rfl ?_
  have g2 : 0 ≤ (mo_dly M (M 30 lk) x z) ∧ (mo_dly M (M 30 lk) x z) ≤ 16001000 := by apply mo_dly_b <;> first | assumption | omega
  refine kb_istore (lv' := [(4, kb_i (mo_dly M (M 30 lk) x z)), (0, .ref (ad 22)), (1, kb_i lk), (2, kb_i x), (3, kb_i z)]) X dX7_sumOf_12 (by decide) rfl ?_
  refine kb_lconst X dX7_sumOf_14 ?_
  refine kb_eql (b := 0) rfl ?_
  refine kb_lstore (lv' := [(5, kb_l (0)), (4, kb_i (mo_dly M (M 30 lk) x z)), (0, .ref (ad 22)), (1, kb_i lk), (2, kb_i x), (3, kb_i z)]) X dX7_sumOf_15 (by decide) rfl ?_
  refine kb_iconst X dX7_sumOf_17 ?_
  refine kb_istore (lv' := [(7, kb_i 0), (5, kb_l (0)), (4, kb_i (mo_dly M (M 30 lk) x z)), (0, .ref (ad 22)), (1, kb_i lk), (2, kb_i x), (3, kb_i z)]) X dX7_sumOf_18 (by decide) rfl ?_
  have L20 : ∀ nn_ : Nat, ∀ (u a : Int), (16 - a).toNat < nn_ → (0 ≤ a ∧ a ≤ M 22 0) → (u = sp_sum (fun i => mo_wt M i x z * mo_at M lk i (mo_dly M (M 30 lk) x z + mo_dly M i x z)) a.toNat) → kb_B p l e ({ frames := 2, cells := 0, slots := 0, locals := 54 } : Room) s m args below meth c D ad cy (kb_A ad s.heap.size) 8 0 0 (MQ below (va_Ql (fun (vq_ : Int64) (_ : Unit) => vq_ = kb_L (mo_as M lk x z)) (fun _ t => kb_en2 D ad cy (M) t) (kb_A ad s.heap.size)) args s 0 0 (kb_A ad s.heap.size)) 20 [(0, .ref (ad 22)), (1, kb_i lk), (2, kb_i x), (3, kb_i z), (4, kb_i (mo_dly M (M 30 lk) x z)), (5, kb_l (u)), (7, kb_i a)] [] M := by
    intro nn_
    induction nn_ with
    | zero => intro u a hn; exact absurd hn (Nat.not_lt_zero _)
    | succ nn_ ih3 =>
      intro u a hn hI hJ
      refine kb_iload X 6 rfl dX7_sumOf_20 ?_
      refine kb_aload_n X 0 rfl dX7_sumOf_22 ?_
      refine kg_X7_n X hi_X7_sumOf_X7 hf_X7_sumOf_19 dX7_sumOf_23 ?_
      have g4 : -2147483648 ≤ M 22 0 ∧ M 22 0 < 2147483648 := hM 22 0
      refine kb_icmp_ge (tgt := 69) X ⟨by omega, by omega⟩ ⟨by omega, by omega⟩ dX7_sumOf_26 (by decide) (fun h5 => ?_) (fun h5 => ?_)
      ·
        refine kb_lload X 5 rfl dX7_sumOf_69 ?_
        exact kb_lret X hr hlocks dX7_sumOf_71 (by (have e : a = M 22 0 := by omega); rw [hJ, e]; rfl) (by first | rfl | (exfalso; omega))
      ·
        refine kb_lload X 5 rfl dX7_sumOf_29 ?_
        refine kb_aload_n X 0 rfl dX7_sumOf_31 ?_
        refine kb_iload_n X 1 rfl dX7_sumOf_32 ?_
        refine kb_iload X 6 rfl dX7_sumOf_33 ?_
        refine kb_iload X 4 rfl dX7_sumOf_35 ?_
        refine kb_aload_n X 0 rfl dX7_sumOf_37 ?_
        refine kb_iload X 6 rfl dX7_sumOf_38 ?_
        refine kb_iload_n X 2 rfl dX7_sumOf_40 ?_
        refine kb_iload_n X 3 rfl dX7_sumOf_41 ?_
        refine kb_cVi X (rest := [kb_i (mo_dly M (M 30 lk) x z), kb_i a, kb_i lk, .ref (ad 22), kb_l (u)]) [kb_i a, kb_i x, kb_i z] 22 (fl := [none, some 23, some 24, none, none, none, none, none, none, none, none, some 25, some 26, some 27, some 28, some 29, none, some 30, some 31, none, some 32, some 33, some 34, some 35, none, none, none, some 36]) (C := RX7) rfl rfl (c_X7_delayOf l D ad cy M a x z (by first | omega | assumption | exact ⟨by omega, by omega⟩) (by first | omega | assumption | exact ⟨by omega, by omega⟩) (by first | omega | assumption | exact ⟨by omega, by omega⟩) (by first | omega | assumption | exact ⟨by omega, by omega⟩)) gX7_sumOf_X7_delayOf rfl ⟨rfl, hy_X7_delayOf⟩ ⟨by decide, by decide⟩ rfl (Nat.le_of_ble_eq_true rfl) ⟨by decide, by decide⟩ dX7_sumOf_42 rfl ?_
        have g6 : 0 ≤ (mo_dly M a x z) ∧ (mo_dly M a x z) ≤ 16001000 := by apply mo_dly_b <;> first | assumption | omega
        refine kb_iadd X dX7_sumOf_45 ?_
        refine kb_cVi X (rest := [kb_l (u)]) [kb_i lk, kb_i a, kb_i ((mo_dly M (M 30 lk) x z) + (mo_dly M a x z))] 22 (fl := [none, some 23, some 24, none, none, none, none, none, none, none, none, some 25, some 26, some 27, some 28, some 29, none, some 30, some 31, none, some 32, some 33, some 34, some 35, none, none, none, some 36]) (C := RX7) rfl rfl (c_X7_sampleAt l D ad cy M lk a ((mo_dly M (M 30 lk) x z) + (mo_dly M a x z)) (by first | omega | assumption | exact ⟨by omega, by omega⟩) (by first | omega | assumption | exact ⟨by omega, by omega⟩) (by first | omega | assumption | exact ⟨by omega, by omega⟩)) gX7_sumOf_X7_sampleAt rfl ⟨rfl, hy_X7_sampleAt⟩ ⟨by decide, by decide⟩ rfl (Nat.le_of_ble_eq_true rfl) ⟨by decide, by decide⟩ dX7_sumOf_46 rfl ?_
        have s1 := mo_at_b hsb lk a (mo_dly M (M 30 lk) x z + mo_dly M a x z)
        refine kb_i2l X ⟨by omega, by omega⟩ dX7_sumOf_49 ?_
        refine kb_aload_n X 0 rfl dX7_sumOf_50 ?_
        refine kb_iload X 6 rfl dX7_sumOf_51 ?_
        refine kb_iload_n X 2 rfl dX7_sumOf_53 ?_
        refine kb_iload_n X 3 rfl dX7_sumOf_54 ?_
        refine kb_cVi X (rest := [kb_l (mo_at M lk a ((mo_dly M (M 30 lk) x z) + (mo_dly M a x z))), kb_l (u)]) [kb_i a, kb_i x, kb_i z] 22 (fl := [none, some 23, some 24, none, none, none, none, none, none, none, none, some 25, some 26, some 27, some 28, some 29, none, some 30, some 31, none, some 32, some 33, some 34, some 35, none, none, none, some 36]) (C := RX7) rfl rfl (c_X7_weightOf l D ad cy M a x z (by first | omega | assumption | exact ⟨by omega, by omega⟩) (by first | omega | assumption | exact ⟨by omega, by omega⟩) (by first | omega | assumption | exact ⟨by omega, by omega⟩) (by first | omega | assumption | exact ⟨by omega, by omega⟩)) gX7_sumOf_X7_weightOf rfl ⟨rfl, hy_X7_weightOf⟩ ⟨by decide, by decide⟩ rfl (Nat.le_of_ble_eq_true rfl) ⟨by decide, by decide⟩ dX7_sumOf_55 rfl ?_
        have g7 : 0 ≤ (mo_wt M a x z) ∧ (mo_wt M a x z) ≤ 4001 := by apply mo_wt_b <;> first | assumption | omega
        refine kb_i2l X ⟨by omega, by omega⟩ dX7_sumOf_58 ?_
        refine kb_lmul X dX7_sumOf_59 ?_
        refine kb_ladd X dX7_sumOf_60 ?_
        refine kb_nml (fun x5_8 ex5_8 => ?_)
        refine kb_lstore (lv' := [(5, kb_l (x5_8)), (0, .ref (ad 22)), (1, kb_i lk), (2, kb_i x), (3, kb_i z), (4, kb_i (mo_dly M (M 30 lk) x z)), (7, kb_i a)]) X dX7_sumOf_61 (by decide) rfl ?_
        refine kb_iinc (lv' := [(7, kb_i (a + 1)), (5, kb_l (x5_8)), (0, .ref (ad 22)), (1, kb_i lk), (2, kb_i x), (3, kb_i z), (4, kb_i (mo_dly M (M 30 lk) x z))]) X 6 rfl dX7_sumOf_63 rfl (by decide) rfl ?_
        refine kb_goto (tgt := 20) X dX7_sumOf_66 (by decide) ?_
        refine kb_sub [2, 3, 4, 5, 6, 1, 0] (lv' := [(0, .ref (ad 22)), (1, kb_i lk), (2, kb_i x), (3, kb_i z), (4, kb_i (mo_dly M (M 30 lk) x z)), (5, kb_l (x5_8)), (7, kb_i (a + 1))]) rfl ?_
        exact ih3 x5_8 (a + 1) (by omega) (by first | omega | assumption | exact ⟨by omega, by omega⟩) (by rw [sp_sumS _ hI.1, ← hJ, Int.mul_comm (mo_wt M a x z)]; assumption)
  refine kb_sub [3, 4, 5, 6, 2, 1, 0] (lv' := [(0, .ref (ad 22)), (1, kb_i lk), (2, kb_i x), (3, kb_i z), (4, kb_i (mo_dly M (M 30 lk) x z)), (5, kb_l (0)), (7, kb_i 0)]) rfl ?_
  exact L20 _ (0 : Int) (0 : Int) (Nat.lt_succ_self _) (by first | omega | assumption | exact ⟨by omega, by omega⟩) (rfl)
-- X7_sum
theorem hy_X7_sum : yX7_sum.cls ≠ "java/lang/invoke/MethodHandle" ∧ yX7_sum.cls ≠ "java/lang/invoke/VarHandle" ∧ (parseMethodDescriptor yX7_sum.desc).map (fun d => d.parameters.length) = some 3 := by decide +kernel
set_option maxHeartbeats 4000000 in
set_option maxRecDepth 100000 in
theorem c_X7_sum (l : Launch) (D : va_G) (ad : Nat → Nat) (cy : Nat → ClassId) (M : kb_M) (lk : Int) (x : Int) (z : Int) (hlk : -2147483648 ≤ lk ∧ lk < 2147483648) (hx : -2147483648 ≤ x ∧ x < 2147483648) (hz : -2147483648 ≤ z ∧ z < 2147483648) (hIP : mo_IP M) (hIL : mo_IL M) : kb_Ci l D ad cy yX7_sum wsX7_sum 3 81 [.ref (ad 22), kb_i lk, kb_i x, kb_i z] M (mo_sumR M lk x z) (M) := by
  refine kb_mkCi (cc := cX7_sum) (maxL := 4) (lv := [(0, .ref (ad 22)), (1, kb_i lk), (2, kb_i x), (3, kb_i z)]) (plainFor_of_name (by decide)) rfl (Nat.le_of_ble_eq_true rfl) rfl ?_
  intro p e s m args below meth c X hr hlocks hM
  obtain ⟨hxs, hn, hP, hT, hf⟩ := id hIP
  obtain ⟨hs, hsb, hsn⟩ := id hIL
  refine kb_aload_n X 0 rfl dX7_sum_0 ?_
  refine kb_iload_n X 1 rfl dX7_sum_1 ?_
  refine kb_cVi X (rest := []) [kb_i lk] 22 (fl := [none, some 23, some 24, none, none, none, none, none, none, none, none, some 25, some 26, some 27, some 28, some 29, none, some 30, some 31, none, some 32, some 33, some 34, some 35, none, none, none, some 36]) (C := RX7) rfl rfl (c_X7_isLook l D ad cy M lk (by first | omega | assumption | exact ⟨by omega, by omega⟩) (by first | omega | assumption | exact ⟨by omega, by omega⟩)) gX7_sum_X7_isLook rfl ⟨rfl, hy_X7_isLook⟩ ⟨by decide, by decide⟩ rfl (Nat.le_of_ble_eq_true rfl) ⟨by decide, by decide⟩ dX7_sum_2 rfl ?_
  refine kb_ifb_eq (tgt := 27) X dX7_sum_5 (by decide) (fun h1 => ?_) (fun h1 => ?_)
  ·
    refine kb_ldc (v := -1000000000) X (-1000000000) (by decide +kernel) (by decide) dX7_sum_27 ?_
    exact kb_iret X hr hlocks dX7_sum_29 (by unfold mo_sumR; repeat (first | rw [if_pos (by omega)] | rw [if_neg (by omega)]); try first | rfl | omega) (by first | rfl | (exfalso; omega))
  ·
    refine kb_iload_n X 2 rfl dX7_sum_8 ?_
    refine kb_iload_n X 3 rfl dX7_sum_9 ?_
    refine kb_cSi X (rest := []) [kb_i x, kb_i z] (c_X7_isPlace l D ad cy M x z (by first | omega | assumption | exact ⟨by omega, by omega⟩) (by first | omega | assumption | exact ⟨by omega, by omega⟩)) gX7_sum_X7_isPlace rfl hy_X7_isPlace ⟨by decide, by decide⟩ rfl (Nat.le_of_ble_eq_true rfl) ⟨by decide, by decide⟩ dX7_sum_10 rfl ?_
    refine kb_ifb_eq (tgt := 27) X dX7_sum_13 (by decide) (fun h2 => ?_) (fun h2 => ?_)
    ·
      refine kb_ldc (v := -1000000000) X (-1000000000) (by decide +kernel) (by decide) dX7_sum_27 ?_
      exact kb_iret X hr hlocks dX7_sum_29 (by unfold mo_sumR; repeat (first | rw [if_pos (by omega)] | rw [if_neg (by omega)]); try first | rfl | omega) (by first | rfl | (exfalso; omega))
    ·
      have sd := hsn lk (by omega) (by omega)
      refine kb_aload_n X 0 rfl dX7_sum_16 ?_
      refine kb_iload_n X 1 rfl dX7_sum_17 ?_
      refine kb_iload_n X 2 rfl dX7_sum_18 ?_
      refine kb_iload_n X 3 rfl dX7_sum_19 ?_
      refine kb_cVl X (rest := []) [kb_i lk, kb_i x, kb_i z] 22 (fl := [none, some 23, some 24, none, none, none, none, none, none, none, none, some 25, some 26, some 27, some 28, some 29, none, some 30, some 31, none, some 32, some 33, some 34, some 35, none, none, none, some 36]) (C := RX7) rfl rfl (c_X7_sumOf l D ad cy M lk x z (by first | omega | assumption | exact ⟨by omega, by omega⟩) (by first | omega | assumption | exact ⟨by omega, by omega⟩) (by first | omega | assumption | exact ⟨by omega, by omega⟩) (by first | omega | assumption | exact ⟨by omega, by omega⟩) (by first | omega | assumption | exact ⟨by omega, by omega⟩) (by first | omega | assumption | exact ⟨by omega, by omega⟩)) gX7_sum_X7_sumOf rfl ⟨rfl, hy_X7_sumOf⟩ ⟨by decide, by decide⟩ rfl (Nat.le_of_ble_eq_true rfl) ⟨by decide, by decide⟩ dX7_sum_20 rfl ?_
      refine kb_l2i X dX7_sum_23 ?_
      refine kb_goto (tgt := 29) X dX7_sum_24 (by decide) ?_
      exact kb_iret X hr hlocks dX7_sum_29 (by unfold mo_sumR; repeat (first | rw [if_pos (by omega)] | rw [if_neg (by omega)]); try first | rfl | omega) (by first | rfl | (exfalso; omega))
-- X7_meanOf
theorem hf_X7_meanOf_19 : Cond.fieldLink yX7_meanOf.cls 19 RX7 "n" "I" ∈ wsX7_meanOf := by decide +kernel
theorem hf_X7_meanOf_87 : Cond.fieldLink yX7_meanOf.cls 87 RX7 "looks" "I" ∈ wsX7_meanOf := by decide +kernel
theorem hi_X7_meanOf_X7 : ∀ w ∈ wsX70, w ∈ wsX7_meanOf := by decide +kernel
theorem hy_X7_meanOf : yX7_meanOf.cls ≠ "java/lang/invoke/MethodHandle" ∧ yX7_meanOf.cls ≠ "java/lang/invoke/VarHandle" ∧ (parseMethodDescriptor yX7_meanOf.desc).map (fun d => d.parameters.length) = some 3 := by decide +kernel
set_option maxHeartbeats 4000000 in
set_option maxRecDepth 100000 in
theorem c_X7_meanOf (l : Launch) (D : va_G) (ad : Nat → Nat) (cy : Nat → ClassId) (M : kb_M) (bb : Int) (x : Int) (z : Int) (hbb : -2147483648 ≤ bb ∧ bb < 2147483648) (hx : -2000 ≤ x ∧ x ≤ 2000) (hz : 0 ≤ z ∧ z ≤ 4000) (hIP : mo_IP M) (hIL : mo_IL M) : kb_Ci l D ad cy yX7_meanOf wsX7_meanOf 3 81 [.ref (ad 22), kb_i bb, kb_i x, kb_i z] M (mo_jm M bb x z) (M) := by
  refine kb_mkCi (cc := cX7_meanOf) (maxL := 10) (lv := [(0, .ref (ad 22)), (1, kb_i bb), (2, kb_i x), (3, kb_i z)]) (plainFor_of_name (by decide)) rfl (Nat.le_of_ble_eq_true rfl) rfl ?_
  intro p e s m args below meth c X hr hlocks hM
  obtain ⟨hxs, hn0, hP, hT, hf⟩ := id hIP
  obtain ⟨hs, hsb, hsn⟩ := id hIL
  refine kb_lconst X dX7_meanOf_0 ?_
  refine kb_eql (b := 0) rfl ?_
  refine kb_lstore (lv' := [(4, kb_l (0)), (0, .ref (ad 22)), (1, kb_i bb), (2, kb_i x), (3, kb_i z)]) X dX7_meanOf_1 (by decide) rfl ?_
  refine kb_lconst X dX7_meanOf_3 ?_
  refine kb_eql (b := 0) rfl ?_
  refine kb_lstore (lv' := [(6, kb_l (0)), (4, kb_l (0)), (0, .ref (ad 22)), (1, kb_i bb), (2, kb_i x), (3, kb_i z)]) X dX7_meanOf_4 (by decide) rfl ?_
  refine kb_iconst X dX7_meanOf_6 ?_
  refine kb_istore (lv' := [(8, kb_i 0), (6, kb_l (0)), (4, kb_l (0)), (0, .ref (ad 22)), (1, kb_i bb), (2, kb_i x), (3, kb_i z)]) X dX7_meanOf_7 (by decide) rfl ?_
  have L9 : ∀ nn_ : Nat, ∀ (u w k : Int), (6 - k).toNat < nn_ → (0 ≤ k ∧ k ≤ M 22 16) → (u = mo_jt M bb x z k.toNat) → (w = mo_jw M bb x z k.toNat) → kb_B p l e ({ frames := 3, cells := 0, slots := 0, locals := 81 } : Room) s m args below meth c D ad cy (kb_A ad s.heap.size) 10 0 0 (MQ below (va_Qi (fun (vq_ : Int32) (_ : Unit) => vq_ = kb_J (mo_jm M bb x z)) (fun _ t => kb_en2 D ad cy (M) t) (kb_A ad s.heap.size)) args s 0 0 (kb_A ad s.heap.size)) 9 [(0, .ref (ad 22)), (1, kb_i bb), (2, kb_i x), (3, kb_i z), (4, kb_l (u)), (6, kb_l (w)), (8, kb_i k)] [] M := by
    intro nn_
    induction nn_ with
    | zero => intro u w k hn; exact absurd hn (Nat.not_lt_zero _)
    | succ nn_ ih1 =>
      intro u w k hn hI hT2 hW
      refine kb_iload X 6 rfl dX7_meanOf_9 ?_
      refine kb_aload_n X 0 rfl dX7_meanOf_11 ?_
      refine kg_X7_looks X hi_X7_meanOf_X7 hf_X7_meanOf_87 dX7_meanOf_12 ?_
      have g2 : -2147483648 ≤ M 22 16 ∧ M 22 16 < 2147483648 := hM 22 16
      refine kb_icmp_ge (tgt := 79) X ⟨by omega, by omega⟩ ⟨by omega, by omega⟩ dX7_meanOf_15 (by decide) (fun h3 => ?_) (fun h3 => ?_)
      ·
        have jb := mo_jw_b hIP hx hz bb k.toNat
        have jt := mo_jt_w hIP hsb hx hz bb k.toNat
        rw [← hW] at jb jt
        rw [← hT2] at jt
        refine kb_lload X 5 rfl dX7_meanOf_79 ?_
        refine kb_lconst X dX7_meanOf_81 ?_
        refine kb_eql (b := 0) rfl ?_
        refine kb_lcmp_ne (tgt := 90) X ⟨by omega, by omega⟩ ⟨by decide, by decide⟩ dX7_meanOf_82 dX7_meanOf_83 (by decide) (fun h4 => ?_) (fun h4 => ?_)
        ·
          refine kb_lload X 4 rfl dX7_meanOf_90 ?_
          refine kb_lload X 5 rfl dX7_meanOf_92 ?_
          refine kb_ldiv X ⟨by omega, by omega⟩ ⟨by omega, by omega⟩ (by omega) dX7_meanOf_94 ?_
          refine kb_l2i X dX7_meanOf_95 ?_
          exact kb_iret X hr hlocks dX7_meanOf_96 (by (have e : k = M 22 16 := by omega); unfold mo_jm; rw [← e, ← hW, ← hT2]; first | rw [if_pos (by assumption)] | rw [if_neg (by assumption)]) (by first | rfl | (exfalso; omega))
        ·
          refine kb_iconst X dX7_meanOf_86 ?_
          refine kb_goto (tgt := 96) X dX7_meanOf_87 (by decide) ?_
          exact kb_iret X hr hlocks dX7_meanOf_96 (by (have e : k = M 22 16 := by omega); unfold mo_jm; rw [← e, ← hW, ← hT2]; first | rw [if_pos (by assumption)] | rw [if_neg (by assumption)]) (by first | rfl | (exfalso; omega))
      ·
        have sd := hsn k hI.1 (by omega)
        have hsr := sp_shrb (a := bb) (n := k.toNat) hbb
        refine kb_iload_n X 1 rfl dX7_meanOf_18 ?_
        refine kb_iload X 6 rfl dX7_meanOf_19 ?_
        refine kb_ishr X ⟨by omega, by omega⟩ (by omega) (by omega) dX7_meanOf_21 ?_
        refine kb_iconst X dX7_meanOf_22 ?_
        refine kb_iand1 X dX7_meanOf_23 ?_
        refine kb_iconst X dX7_meanOf_24 ?_
        refine kb_icmp_ne (tgt := 73) X ⟨by omega, by omega⟩ ⟨by decide, by decide⟩ dX7_meanOf_25 (by decide) (fun h5 => ?_) (fun h5 => ?_)
        ·
          refine kb_iinc (lv' := [(8, kb_i (k + 1)), (0, .ref (ad 22)), (1, kb_i bb), (2, kb_i x), (3, kb_i z), (4, kb_l (u)), (6, kb_l (w))]) X 6 rfl dX7_meanOf_73 rfl (by decide) rfl ?_
          refine kb_goto (tgt := 9) X dX7_meanOf_76 (by decide) ?_
          refine kb_sub [1, 2, 3, 4, 5, 6, 0] (lv' := [(0, .ref (ad 22)), (1, kb_i bb), (2, kb_i x), (3, kb_i z), (4, kb_l (u)), (6, kb_l (w)), (8, kb_i (k + 1))]) rfl ?_
          exact ih1 u w (k + 1) (by omega) (by first | omega | assumption | exact ⟨by omega, by omega⟩) (by unfold mo_jt; rw [sp_sumS _ hI.1]; subst_vars; first | (rw [if_pos (by omega)]; exact (Int.add_zero _).symm) | (rw [if_neg (by omega)]; rfl)) (by unfold mo_jw; rw [sp_sumS _ hI.1]; first | (rw [if_pos (by omega)]; rw [hW]; exact (Int.add_zero _).symm) | (rw [if_neg (by omega), hK2, hW, show i2 = M 22 0 by omega]; rfl))
        ·
          refine kb_lload X 4 rfl dX7_meanOf_28 ?_
          refine kb_aload_n X 0 rfl dX7_meanOf_30 ?_
          refine kb_iload X 6 rfl dX7_meanOf_31 ?_
          refine kb_iload_n X 2 rfl dX7_meanOf_33 ?_
          refine kb_iload_n X 3 rfl dX7_meanOf_34 ?_
          refine kb_cVl X (rest := [kb_l (u)]) [kb_i k, kb_i x, kb_i z] 22 (fl := [none, some 23, some 24, none, none, none, none, none, none, none, none, some 25, some 26, some 27, some 28, some 29, none, some 30, some 31, none, some 32, some 33, some 34, some 35, none, none, none, some 36]) (C := RX7) rfl rfl (c_X7_sumOf l D ad cy M k x z (by first | omega | assumption | exact ⟨by omega, by omega⟩) (by first | omega | assumption | exact ⟨by omega, by omega⟩) (by first | omega | assumption | exact ⟨by omega, by omega⟩) (by first | omega | assumption | exact ⟨by omega, by omega⟩) (by first | omega | assumption | exact ⟨by omega, by omega⟩) (by first | omega | assumption | exact ⟨by omega, by omega⟩)) gX7_meanOf_X7_sumOf rfl ⟨rfl, hy_X7_sumOf⟩ ⟨by decide, by decide⟩ rfl (Nat.le_of_ble_eq_true rfl) ⟨by decide, by decide⟩ dX7_meanOf_35 rfl ?_
          refine kb_ladd X dX7_meanOf_38 ?_
          refine kb_nml (fun x4_6 ex4_6 => ?_)
          refine kb_lstore (lv' := [(4, kb_l (x4_6)), (0, .ref (ad 22)), (1, kb_i bb), (2, kb_i x), (3, kb_i z), (6, kb_l (w)), (8, kb_i k)]) X dX7_meanOf_39 (by decide) rfl ?_
          refine kb_iconst X dX7_meanOf_41 ?_
          refine kb_istore (lv' := [(9, kb_i 0), (4, kb_l (x4_6)), (0, .ref (ad 22)), (1, kb_i bb), (2, kb_i x), (3, kb_i z), (6, kb_l (w)), (8, kb_i k)]) X dX7_meanOf_42 (by decide) rfl ?_
          have L44 : ∀ nn_ : Nat, ∀ (w2 i2 : Int), (16 - i2).toNat < nn_ → (0 ≤ i2 ∧ i2 ≤ M 22 0) → (w2 = w + mo_ws M x z i2.toNat) → kb_B p l e ({ frames := 3, cells := 0, slots := 0, locals := 81 } : Room) s m args below meth c D ad cy (kb_A ad s.heap.size) 10 0 0 (MQ below (va_Qi (fun (vq_ : Int32) (_ : Unit) => vq_ = kb_J (mo_jm M bb x z)) (fun _ t => kb_en2 D ad cy (M) t) (kb_A ad s.heap.size)) args s 0 0 (kb_A ad s.heap.size)) 44 [(0, .ref (ad 22)), (1, kb_i bb), (2, kb_i x), (3, kb_i z), (4, kb_l (x4_6)), (6, kb_l (w2)), (8, kb_i k), (9, kb_i i2)] [] M := by
            intro nn_
            induction nn_ with
            | zero => intro w2 i2 hn; exact absurd hn (Nat.not_lt_zero _)
            | succ nn_ ih7 =>
              intro w2 i2 hn hI2 hK2
              refine kb_iload X 7 rfl dX7_meanOf_44 ?_
              refine kb_aload_n X 0 rfl dX7_meanOf_46 ?_
              refine kg_X7_n X hi_X7_meanOf_X7 hf_X7_meanOf_19 dX7_meanOf_47 ?_
              have g8 : -2147483648 ≤ M 22 0 ∧ M 22 0 < 2147483648 := hM 22 0
              refine kb_icmp_ge (tgt := 73) X ⟨by omega, by omega⟩ ⟨by omega, by omega⟩ dX7_meanOf_50 (by decide) (fun h9 => ?_) (fun h9 => ?_)
              ·
                refine kb_iinc (lv' := [(8, kb_i (k + 1)), (0, .ref (ad 22)), (1, kb_i bb), (2, kb_i x), (3, kb_i z), (4, kb_l (x4_6)), (6, kb_l (w2)), (9, kb_i i2)]) X 6 rfl dX7_meanOf_73 rfl (by decide) rfl ?_
                refine kb_goto (tgt := 9) X dX7_meanOf_76 (by decide) ?_
                refine kb_sub [1, 2, 3, 4, 5, 6, 0] (lv' := [(0, .ref (ad 22)), (1, kb_i bb), (2, kb_i x), (3, kb_i z), (4, kb_l (x4_6)), (6, kb_l (w2)), (8, kb_i (k + 1))]) rfl ?_
                exact ih1 x4_6 w2 (k + 1) (by omega) (by first | omega | assumption | exact ⟨by omega, by omega⟩) (by unfold mo_jt; rw [sp_sumS _ hI.1]; subst_vars; first | (rw [if_pos (by omega)]; exact (Int.add_zero _).symm) | (rw [if_neg (by omega)]; rfl)) (by unfold mo_jw; rw [sp_sumS _ hI.1]; first | (rw [if_pos (by omega)]; rw [hW]; exact (Int.add_zero _).symm) | (rw [if_neg (by omega), hK2, hW, show i2 = M 22 0 by omega]; rfl))
              ·
                refine kb_lload X 5 rfl dX7_meanOf_53 ?_
                refine kb_aload_n X 0 rfl dX7_meanOf_55 ?_
                refine kb_iload X 7 rfl dX7_meanOf_56 ?_
                refine kb_iload_n X 2 rfl dX7_meanOf_58 ?_
                refine kb_iload_n X 3 rfl dX7_meanOf_59 ?_
                refine kb_cVi X (rest := [kb_l (w2)]) [kb_i i2, kb_i x, kb_i z] 22 (fl := [none, some 23, some 24, none, none, none, none, none, none, none, none, some 25, some 26, some 27, some 28, some 29, none, some 30, some 31, none, some 32, some 33, some 34, some 35, none, none, none, some 36]) (C := RX7) rfl rfl (c_X7_weightOf l D ad cy M i2 x z (by first | omega | assumption | exact ⟨by omega, by omega⟩) (by first | omega | assumption | exact ⟨by omega, by omega⟩) (by first | omega | assumption | exact ⟨by omega, by omega⟩) (by first | omega | assumption | exact ⟨by omega, by omega⟩)) gX7_meanOf_X7_weightOf rfl ⟨rfl, hy_X7_weightOf⟩ ⟨by decide, by decide⟩ rfl (Nat.le_of_ble_eq_true rfl) ⟨by decide, by decide⟩ dX7_meanOf_60 rfl ?_
                have g10 : 0 ≤ (mo_wt M i2 x z) ∧ (mo_wt M i2 x z) ≤ 4001 := by apply mo_wt_b <;> first | assumption | omega
                refine kb_i2l X ⟨by omega, by omega⟩ dX7_meanOf_63 ?_
                refine kb_ladd X dX7_meanOf_64 ?_
                refine kb_nml (fun x6_11 ex6_11 => ?_)
                refine kb_lstore (lv' := [(6, kb_l (x6_11)), (0, .ref (ad 22)), (1, kb_i bb), (2, kb_i x), (3, kb_i z), (4, kb_l (x4_6)), (8, kb_i k), (9, kb_i i2)]) X dX7_meanOf_65 (by decide) rfl ?_
                refine kb_iinc (lv' := [(9, kb_i (i2 + 1)), (6, kb_l (x6_11)), (0, .ref (ad 22)), (1, kb_i bb), (2, kb_i x), (3, kb_i z), (4, kb_l (x4_6)), (8, kb_i k)]) X 7 rfl dX7_meanOf_67 rfl (by decide) rfl ?_
                refine kb_goto (tgt := 44) X dX7_meanOf_70 (by decide) ?_
                refine kb_sub [2, 3, 4, 5, 6, 1, 7, 0] (lv' := [(0, .ref (ad 22)), (1, kb_i bb), (2, kb_i x), (3, kb_i z), (4, kb_l (x4_6)), (6, kb_l (x6_11)), (8, kb_i k), (9, kb_i (i2 + 1))]) rfl ?_
                exact ih7 x6_11 (i2 + 1) (by omega) (by first | omega | assumption | exact ⟨by omega, by omega⟩) (by unfold mo_ws at hK2 ⊢; rw [sp_sumS _ hI2.1]; omega)
          refine kb_sub [2, 3, 4, 5, 1, 6, 7, 0] (lv' := [(0, .ref (ad 22)), (1, kb_i bb), (2, kb_i x), (3, kb_i z), (4, kb_l (x4_6)), (6, kb_l (w)), (8, kb_i k), (9, kb_i 0)]) rfl ?_
          exact L44 _ w (0 : Int) (Nat.lt_succ_self _) (by first | omega | assumption | exact ⟨by omega, by omega⟩) (by unfold mo_ws; exact (Int.add_zero _).symm)
  refine kb_sub [3, 4, 5, 6, 2, 1, 0] (lv' := [(0, .ref (ad 22)), (1, kb_i bb), (2, kb_i x), (3, kb_i z), (4, kb_l (0)), (6, kb_l (0)), (8, kb_i 0)]) rfl ?_
  exact L9 _ (0 : Int) (0 : Int) (0 : Int) (Nat.lt_succ_self _) (by first | omega | assumption | exact ⟨by omega, by omega⟩) (rfl) (rfl)
-- X7_areLooks
theorem hf_X7_areLooks_87 : Cond.fieldLink yX7_areLooks.cls 87 RX7 "looks" "I" ∈ wsX7_areLooks := by decide +kernel
theorem hi_X7_areLooks_X7 : ∀ w ∈ wsX70, w ∈ wsX7_areLooks := by decide +kernel
theorem hy_X7_areLooks : yX7_areLooks.cls ≠ "java/lang/invoke/MethodHandle" ∧ yX7_areLooks.cls ≠ "java/lang/invoke/VarHandle" ∧ (parseMethodDescriptor yX7_areLooks.desc).map (fun d => d.parameters.length) = some 1 := by decide +kernel
set_option maxHeartbeats 4000000 in
set_option maxRecDepth 100000 in
theorem c_X7_areLooks (l : Launch) (D : va_G) (ad : Nat → Nat) (cy : Nat → ClassId) (M : kb_M) (n : Int) (hn : -2147483648 ≤ n ∧ n < 2147483648) (hs : 0 ≤ M 22 16 ∧ M 22 16 ≤ 6) : kb_Ci l D ad cy yX7_areLooks wsX7_areLooks 0 0 [.ref (ad 22), kb_i n] M (kb_b (0 < n ∧ n < 2 ^ (M 22 16).toNat)) (M) := by
  refine kb_mkCi (cc := cX7_areLooks) (maxL := 2) (lv := [(0, .ref (ad 22)), (1, kb_i n)]) (plainFor_of_name (by decide)) rfl (Nat.le_of_ble_eq_true rfl) rfl ?_
  intro p e s m args below meth c X hr hlocks hM
  refine kb_iload_n X 1 rfl dX7_areLooks_0 ?_
  refine kb_if_le (tgt := 18) X ⟨by omega, by omega⟩ dX7_areLooks_1 (by decide) (fun h1 => ?_) (fun h1 => ?_)
  ·
    refine kb_iconst X dX7_areLooks_18 ?_
    exact kb_zret X hr hlocks (by first | exact Or.inl rfl | exact Or.inr rfl) dX7_areLooks_19 (by first | rfl | assumption | omega | exact (kb_b1 (by omega)).symm | exact (kb_b0 (by omega)).symm) (by first | rfl | (exfalso; omega))
  ·
    refine kb_iload_n X 1 rfl dX7_areLooks_4 ?_
    refine kb_iconst X dX7_areLooks_5 ?_
    refine kb_aload_n X 0 rfl dX7_areLooks_6 ?_
    refine kg_X7_looks X hi_X7_areLooks_X7 hf_X7_areLooks_87 dX7_areLooks_7 ?_
    have g2 : -2147483648 ≤ M 22 16 ∧ M 22 16 < 2147483648 := hM 22 16
    refine kb_ishl1 X (by omega) (by omega) dX7_areLooks_10 ?_
    have pb := mo_pow_b (k := M 22 16) hs
    refine kb_icmp_ge (tgt := 18) X ⟨by omega, by omega⟩ ⟨by omega, by omega⟩ dX7_areLooks_11 (by decide) (fun h3 => ?_) (fun h3 => ?_)
    ·
      refine kb_iconst X dX7_areLooks_18 ?_
      exact kb_zret X hr hlocks (by first | exact Or.inl rfl | exact Or.inr rfl) dX7_areLooks_19 (by first | rfl | assumption | omega | exact (kb_b1 (by omega)).symm | exact (kb_b0 (by omega)).symm) (by first | rfl | (exfalso; omega))
    ·
      refine kb_iconst X dX7_areLooks_14 ?_
      refine kb_goto (tgt := 19) X dX7_areLooks_15 (by decide) ?_
      exact kb_zret X hr hlocks (by first | exact Or.inl rfl | exact Or.inr rfl) dX7_areLooks_19 (by first | rfl | assumption | omega | exact (kb_b1 (by omega)).symm | exact (kb_b0 (by omega)).symm) (by first | rfl | (exfalso; omega))
-- X7_mean
theorem hy_X7_mean : yX7_mean.cls ≠ "java/lang/invoke/MethodHandle" ∧ yX7_mean.cls ≠ "java/lang/invoke/VarHandle" ∧ (parseMethodDescriptor yX7_mean.desc).map (fun d => d.parameters.length) = some 3 := by decide +kernel
set_option maxHeartbeats 4000000 in
set_option maxRecDepth 100000 in
theorem c_X7_mean (l : Launch) (D : va_G) (ad : Nat → Nat) (cy : Nat → ClassId) (M : kb_M) (n : Int) (x : Int) (z : Int) (hn : -2147483648 ≤ n ∧ n < 2147483648) (hx : -2147483648 ≤ x ∧ x < 2147483648) (hz : -2147483648 ≤ z ∧ z < 2147483648) (hIP : mo_IP M) (hIL : mo_IL M) : kb_Ci l D ad cy yX7_mean wsX7_mean 4 110 [.ref (ad 22), kb_i n, kb_i x, kb_i z] M (mo_meanR M n x z) (M) := by
  refine kb_mkCi (cc := cX7_mean) (maxL := 4) (lv := [(0, .ref (ad 22)), (1, kb_i n), (2, kb_i x), (3, kb_i z)]) (plainFor_of_name (by decide)) rfl (Nat.le_of_ble_eq_true rfl) rfl ?_
  intro p e s m args below meth c X hr hlocks hM
  obtain ⟨hxs, hn0, hP, hT, hf⟩ := id hIP
  obtain ⟨hs, hsb, hsn⟩ := id hIL
  refine kb_aload_n X 0 rfl dX7_mean_0 ?_
  refine kb_iload_n X 1 rfl dX7_mean_1 ?_
  refine kb_cVi X (rest := []) [kb_i n] 22 (fl := [none, some 23, some 24, none, none, none, none, none, none, none, none, some 25, some 26, some 27, some 28, some 29, none, some 30, some 31, none, some 32, some 33, some 34, some 35, none, none, none, some 36]) (C := RX7) rfl rfl (c_X7_areLooks l D ad cy M n (by first | omega | assumption | exact ⟨by omega, by omega⟩) (by first | omega | assumption | exact ⟨by omega, by omega⟩)) gX7_mean_X7_areLooks rfl ⟨rfl, hy_X7_areLooks⟩ ⟨by decide, by decide⟩ rfl (Nat.le_of_ble_eq_true rfl) ⟨by decide, by decide⟩ dX7_mean_2 rfl ?_
  refine kb_ifb_eq (tgt := 26) X dX7_mean_5 (by decide) (fun h1 => ?_) (fun h1 => ?_)
  ·
    refine kb_ldc (v := -1000000000) X (-1000000000) (by decide +kernel) (by decide) dX7_mean_26 ?_
    exact kb_iret X hr hlocks dX7_mean_28 (by unfold mo_meanR; repeat (first | rw [if_pos (by omega)] | rw [if_neg (by omega)]); try first | rfl | omega) (by first | rfl | (exfalso; omega))
  ·
    refine kb_iload_n X 2 rfl dX7_mean_8 ?_
    refine kb_iload_n X 3 rfl dX7_mean_9 ?_
    refine kb_cSi X (rest := []) [kb_i x, kb_i z] (c_X7_isPlace l D ad cy M x z (by first | omega | assumption | exact ⟨by omega, by omega⟩) (by first | omega | assumption | exact ⟨by omega, by omega⟩)) gX7_mean_X7_isPlace rfl hy_X7_isPlace ⟨by decide, by decide⟩ rfl (Nat.le_of_ble_eq_true rfl) ⟨by decide, by decide⟩ dX7_mean_10 rfl ?_
    refine kb_ifb_eq (tgt := 26) X dX7_mean_13 (by decide) (fun h2 => ?_) (fun h2 => ?_)
    ·
      refine kb_ldc (v := -1000000000) X (-1000000000) (by decide +kernel) (by decide) dX7_mean_26 ?_
      exact kb_iret X hr hlocks dX7_mean_28 (by unfold mo_meanR; repeat (first | rw [if_pos (by omega)] | rw [if_neg (by omega)]); try first | rfl | omega) (by first | rfl | (exfalso; omega))
    ·
      refine kb_aload_n X 0 rfl dX7_mean_16 ?_
      refine kb_iload_n X 1 rfl dX7_mean_17 ?_
      refine kb_iload_n X 2 rfl dX7_mean_18 ?_
      refine kb_iload_n X 3 rfl dX7_mean_19 ?_
      refine kb_cVi X (rest := []) [kb_i n, kb_i x, kb_i z] 22 (fl := [none, some 23, some 24, none, none, none, none, none, none, none, none, some 25, some 26, some 27, some 28, some 29, none, some 30, some 31, none, some 32, some 33, some 34, some 35, none, none, none, some 36]) (C := RX7) rfl rfl (c_X7_meanOf l D ad cy M n x z (by first | omega | assumption | exact ⟨by omega, by omega⟩) (by first | omega | assumption | exact ⟨by omega, by omega⟩) (by first | omega | assumption | exact ⟨by omega, by omega⟩) (by first | omega | assumption | exact ⟨by omega, by omega⟩) (by first | omega | assumption | exact ⟨by omega, by omega⟩)) gX7_mean_X7_meanOf rfl ⟨rfl, hy_X7_meanOf⟩ ⟨by decide, by decide⟩ rfl (Nat.le_of_ble_eq_true rfl) ⟨by decide, by decide⟩ dX7_mean_20 rfl ?_
      have g3 : -1600 ≤ (mo_jm M n x z) ∧ (mo_jm M n x z) ≤ 1600 := by apply mo_jm_b3 <;> first | assumption | omega
      refine kb_goto (tgt := 28) X dX7_mean_23 (by decide) ?_
      exact kb_iret X hr hlocks dX7_mean_28 (by unfold mo_meanR; repeat (first | rw [if_pos (by omega)] | rw [if_neg (by omega)]); try first | rfl | omega) (by first | rfl | (exfalso; omega))
