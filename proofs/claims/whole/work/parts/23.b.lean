-- X1_forget
theorem hf_X1_forget_19 : Cond.fieldLink yX1_forget.cls 19 RX1 "oldest" "I" ∈ wsX1_forget := by decide +kernel
theorem hf_X1_forget_23 : Cond.fieldLink yX1_forget.cls 23 RX1 "size" "I" ∈ wsX1_forget := by decide +kernel
theorem hi_X1_forget_X1 : ∀ w ∈ wsX10, w ∈ wsX1_forget := by decide +kernel
theorem hy_X1_forget : yX1_forget.cls ≠ "java/lang/invoke/MethodHandle" ∧ yX1_forget.cls ≠ "java/lang/invoke/VarHandle" ∧ (parseMethodDescriptor yX1_forget.desc).map (fun d => d.parameters.length) = some 0 := by decide +kernel
set_option maxHeartbeats 4000000 in
set_option maxRecDepth 100000 in
theorem c_X1_forget (l : Launch) (D : va_G) (ad : Nat → Nat) (cy : Nat → ClassId) (M : kb_M)   : kb_Cv l D ad cy yX1_forget wsX1_forget 0 0 [.ref (ad 3)] M (kb_wr (kb_wr M 3 2 0) 3 3 0) := by
  refine kb_mkCv (cc := cX1_forget) (maxL := 1) (lv := [(0, .ref (ad 3))]) (plainFor_of_name (by decide)) rfl (Nat.le_of_ble_eq_true rfl) rfl ?_
  intro p e s m args below meth c X hr hlocks hM
  refine kb_aload_n X 0 rfl dX1_forget_0 ?_
  refine kb_iconst X dX1_forget_1 ?_
  refine kp_X1_oldest X hi_X1_forget_X1 hf_X1_forget_19 ⟨by decide, by decide⟩ dX1_forget_2 ?_
  refine kb_aload_n X 0 rfl dX1_forget_5 ?_
  refine kb_iconst X dX1_forget_6 ?_
  refine kp_X1_size X hi_X1_forget_X1 hf_X1_forget_23 ⟨by decide, by decide⟩ dX1_forget_7 ?_
  exact kb_vret X hr hlocks dX1_forget_10 (by first | rfl | (exfalso; omega))
-- X1_has
theorem hf_X1_has_23 : Cond.fieldLink yX1_has.cls 23 RX1 "size" "I" ∈ wsX1_has := by decide +kernel
theorem hi_X1_has_X1 : ∀ w ∈ wsX10, w ∈ wsX1_has := by decide +kernel
theorem hy_X1_has : yX1_has.cls ≠ "java/lang/invoke/MethodHandle" ∧ yX1_has.cls ≠ "java/lang/invoke/VarHandle" ∧ (parseMethodDescriptor yX1_has.desc).map (fun d => d.parameters.length) = some 1 := by decide +kernel
set_option maxHeartbeats 4000000 in
set_option maxRecDepth 100000 in
theorem c_X1_has (l : Launch) (D : va_G) (ad : Nat → Nat) (cy : Nat → ClassId) (M : kb_M) (lk : Int) (hlk : -2147483648 ≤ lk ∧ lk < 2147483648) : kb_Ci l D ad cy yX1_has wsX1_has 0 0 [.ref (ad 3), kb_i lk] M (kb_b (0 ≤ lk ∧ lk < M 3 3)) (M) := by
  refine kb_mkCi (cc := cX1_has) (maxL := 2) (lv := [(0, .ref (ad 3)), (1, kb_i lk)]) (plainFor_of_name (by decide)) rfl (Nat.le_of_ble_eq_true rfl) rfl ?_
  intro p e s m args below meth c X hr hlocks hM
  refine kb_iload_n X 1 rfl dX1_has_0 ?_
  refine kb_if_lt (tgt := 16) X ⟨by omega, by omega⟩ dX1_has_1 (by decide) (fun h1 => ?_) (fun h1 => ?_)
  ·
    refine kb_iconst X dX1_has_16 ?_
    exact kb_zret X hr hlocks (by first | exact Or.inl rfl | exact Or.inr rfl) dX1_has_17 (by first | rfl | assumption | omega | exact (kb_b1 (by omega)).symm | exact (kb_b0 (by omega)).symm) (by first | rfl | (exfalso; omega))
  ·
    refine kb_iload_n X 1 rfl dX1_has_4 ?_
    refine kb_aload_n X 0 rfl dX1_has_5 ?_
    refine kg_X1_size X hi_X1_has_X1 hf_X1_has_23 dX1_has_6 ?_
    have g2 : -2147483648 ≤ M 3 3 ∧ M 3 3 < 2147483648 := hM 3 3
    refine kb_icmp_ge (tgt := 16) X ⟨by omega, by omega⟩ ⟨by omega, by omega⟩ dX1_has_9 (by decide) (fun h3 => ?_) (fun h3 => ?_)
    ·
      refine kb_iconst X dX1_has_16 ?_
      exact kb_zret X hr hlocks (by first | exact Or.inl rfl | exact Or.inr rfl) dX1_has_17 (by first | rfl | assumption | omega | exact (kb_b1 (by omega)).symm | exact (kb_b0 (by omega)).symm) (by first | rfl | (exfalso; omega))
    ·
      refine kb_iconst X dX1_has_12 ?_
      refine kb_goto (tgt := 17) X dX1_has_13 (by decide) ?_
      exact kb_zret X hr hlocks (by first | exact Or.inl rfl | exact Or.inr rfl) dX1_has_17 (by first | rfl | assumption | omega | exact (kb_b1 (by omega)).symm | exact (kb_b0 (by omega)).symm) (by first | rfl | (exfalso; omega))
-- X1_slotOf
theorem hf_X1_slotOf_19 : Cond.fieldLink yX1_slotOf.cls 19 RX1 "oldest" "I" ∈ wsX1_slotOf := by decide +kernel
theorem hi_X1_slotOf_X1 : ∀ w ∈ wsX10, w ∈ wsX1_slotOf := by decide +kernel
theorem hy_X1_slotOf : yX1_slotOf.cls ≠ "java/lang/invoke/MethodHandle" ∧ yX1_slotOf.cls ≠ "java/lang/invoke/VarHandle" ∧ (parseMethodDescriptor yX1_slotOf.desc).map (fun d => d.parameters.length) = some 1 := by decide +kernel
set_option maxHeartbeats 4000000 in
set_option maxRecDepth 100000 in
theorem c_X1_slotOf (l : Launch) (D : va_G) (ad : Nat → Nat) (cy : Nat → ClassId) (M : kb_M) (lk : Int) (ho : 0 ≤ M 3 2 ∧ M 3 2 < 6) (hl : 0 ≤ lk ∧ lk < 1000) : kb_Ci l D ad cy yX1_slotOf wsX1_slotOf 1 22 [.ref (ad 3), kb_i lk] M ((M 3 2 + lk) % 6) (M) := by
  refine kb_mkCi (cc := cX1_slotOf) (maxL := 2) (lv := [(0, .ref (ad 3)), (1, kb_i lk)]) (plainFor_of_name (by decide)) rfl (Nat.le_of_ble_eq_true rfl) rfl ?_
  intro p e s m args below meth c X hr hlocks hM
  refine kb_aload_n X 0 rfl dX1_slotOf_0 ?_
  refine kg_X1_oldest X hi_X1_slotOf_X1 hf_X1_slotOf_19 dX1_slotOf_1 ?_
  have g1 : -2147483648 ≤ M 3 2 ∧ M 3 2 < 2147483648 := hM 3 2
  refine kb_iload_n X 1 rfl dX1_slotOf_4 ?_
  refine kb_iadd X dX1_slotOf_5 ?_
  refine kb_bipush X (by decide) dX1_slotOf_6 ?_
  refine kb_cSi X (rest := []) [kb_i ((M 3 2) + lk), kb_i 6] (c_J9_floorMod_7cf53 l D ad cy M ((M 3 2) + lk) 6 (by first | omega | assumption | exact ⟨by omega, by omega⟩) (by first | omega | assumption | exact ⟨by omega, by omega⟩)) gX1_slotOf_J9_floorMod_7cf53 rfl hy_J9_floorMod_7cf53 ⟨by decide, by decide⟩ rfl (Nat.le_of_ble_eq_true rfl) ⟨by decide, by decide⟩ dX1_slotOf_8 rfl ?_
  exact kb_iret X hr hlocks dX1_slotOf_11 (by first | rfl | assumption | omega | exact (kb_b1 (by omega)).symm | exact (kb_b0 (by omega)).symm) (by first | rfl | (exfalso; omega))
-- X1_senderOf
theorem hf_X1_senderOf_16 : Cond.fieldLink yX1_senderOf.cls 16 RX1 "senders" "[I" ∈ wsX1_senderOf := by decide +kernel
theorem hi_X1_senderOf_X1 : ∀ w ∈ wsX10, w ∈ wsX1_senderOf := by decide +kernel
theorem hy_X1_senderOf : yX1_senderOf.cls ≠ "java/lang/invoke/MethodHandle" ∧ yX1_senderOf.cls ≠ "java/lang/invoke/VarHandle" ∧ (parseMethodDescriptor yX1_senderOf.desc).map (fun d => d.parameters.length) = some 1 := by decide +kernel
set_option maxHeartbeats 4000000 in
set_option maxRecDepth 100000 in
theorem c_X1_senderOf (l : Launch) (D : va_G) (ad : Nat → Nat) (cy : Nat → ClassId) (M : kb_M) (lk : Int) (ho : 0 ≤ M 3 2 ∧ M 3 2 < 6) (hl : 0 ≤ lk ∧ lk < 1000) : kb_Ci l D ad cy yX1_senderOf wsX1_senderOf 2 43 [.ref (ad 3), kb_i lk] M (M 17 ((M 3 2 + lk) % 6)) (M) := by
  refine kb_mkCi (cc := cX1_senderOf) (maxL := 2) (lv := [(0, .ref (ad 3)), (1, kb_i lk)]) (plainFor_of_name (by decide)) rfl (Nat.le_of_ble_eq_true rfl) rfl ?_
  intro p e s m args below meth c X hr hlocks hM
  refine kb_aload_n X 0 rfl dX1_senderOf_0 ?_
  refine kg_X1_senders X hi_X1_senderOf_X1 hf_X1_senderOf_16 dX1_senderOf_1 ?_
  refine kb_aload_n X 0 rfl dX1_senderOf_4 ?_
  refine kb_iload_n X 1 rfl dX1_senderOf_5 ?_
  refine kb_cVi X (rest := [.ref (ad 17)]) [kb_i lk] 3 (fl := [some 16, some 17, none, none, none]) (C := RX1) rfl rfl (c_X1_slotOf l D ad cy M lk (by first | omega | assumption | exact ⟨by omega, by omega⟩) (by first | omega | assumption | exact ⟨by omega, by omega⟩)) gX1_senderOf_X1_slotOf rfl ⟨rfl, hy_X1_slotOf⟩ ⟨by decide, by decide⟩ rfl (Nat.le_of_ble_eq_true rfl) ⟨by decide, by decide⟩ dX1_senderOf_6 rfl ?_
  refine kb_iald X 17 (n := 6) rfl ⟨by omega, by omega⟩ (by decide) dX1_senderOf_9 ?_
  have g1 : -2147483648 ≤ M 17 ((M 3 2 + lk) % 6) ∧ M 17 ((M 3 2 + lk) % 6) < 2147483648 := hM 17 ((M 3 2 + lk) % 6)
  exact kb_iret X hr hlocks dX1_senderOf_10 (by first | rfl | assumption | omega | exact (kb_b1 (by omega)).symm | exact (kb_b0 (by omega)).symm) (by first | rfl | (exfalso; omega))
-- X1_placeOf
theorem hy_X1_placeOf : yX1_placeOf.cls ≠ "java/lang/invoke/MethodHandle" ∧ yX1_placeOf.cls ≠ "java/lang/invoke/VarHandle" ∧ (parseMethodDescriptor yX1_placeOf.desc).map (fun d => d.parameters.length) = some 3 := by decide +kernel
set_option maxHeartbeats 4000000 in
set_option maxRecDepth 100000 in
theorem c_X1_placeOf (l : Launch) (D : va_G) (ad : Nat → Nat) (cy : Nat → ClassId) (M : kb_M) (lk : Int) (i : Int) (s0 : Int) (ho : 0 ≤ M 3 2 ∧ M 3 2 < 6) (hl : 0 ≤ lk ∧ lk < 1000) (hi : -2147483648 ≤ i ∧ i < 2147483648) (hs0 : -2147483648 ≤ s0 ∧ s0 < 2147483648) : kb_Ci l D ad cy yX1_placeOf wsX1_placeOf 2 43 [.ref (ad 3), kb_i lk, kb_i i, kb_i s0] M (sp_pl M lk i s0) (M) := by
  refine kb_mkCi (cc := cX1_placeOf) (maxL := 4) (lv := [(0, .ref (ad 3)), (1, kb_i lk), (2, kb_i i), (3, kb_i s0)]) (plainFor_of_name (by decide)) rfl (Nat.le_of_ble_eq_true rfl) rfl ?_
  intro p e s m args below meth c X hr hlocks hM
  refine kb_iload_n X 3 rfl dX1_placeOf_0 ?_
  refine kb_if_lt (tgt := 21) X ⟨by omega, by omega⟩ dX1_placeOf_1 (by decide) (fun h1 => ?_) (fun h1 => ?_)
  ·
    refine kb_iconst X dX1_placeOf_21 ?_
    exact kb_iret X hr hlocks dX1_placeOf_22 (by unfold sp_pl; first | rw [if_pos (by omega)] | rw [if_neg (by omega)]) (by first | rfl | (exfalso; omega))
  ·
    refine kb_iload_n X 3 rfl dX1_placeOf_4 ?_
    refine kb_sipush X (by decide) dX1_placeOf_5 ?_
    refine kb_icmp_ge (tgt := 21) X ⟨by omega, by omega⟩ ⟨by decide, by decide⟩ dX1_placeOf_8 (by decide) (fun h2 => ?_) (fun h2 => ?_)
    ·
      refine kb_iconst X dX1_placeOf_21 ?_
      exact kb_iret X hr hlocks dX1_placeOf_22 (by unfold sp_pl; first | rw [if_pos (by omega)] | rw [if_neg (by omega)]) (by first | rfl | (exfalso; omega))
    ·
      refine kb_iload_n X 2 rfl dX1_placeOf_11 ?_
      refine kb_if_lt (tgt := 21) X ⟨by omega, by omega⟩ dX1_placeOf_12 (by decide) (fun h3 => ?_) (fun h3 => ?_)
      ·
        refine kb_iconst X dX1_placeOf_21 ?_
        exact kb_iret X hr hlocks dX1_placeOf_22 (by unfold sp_pl; first | rw [if_pos (by omega)] | rw [if_neg (by omega)]) (by first | rfl | (exfalso; omega))
      ·
        refine kb_iload_n X 2 rfl dX1_placeOf_15 ?_
        refine kb_bipush X (by decide) dX1_placeOf_16 ?_
        refine kb_icmp_lt (tgt := 23) X ⟨by omega, by omega⟩ ⟨by decide, by decide⟩ dX1_placeOf_18 (by decide) (fun h4 => ?_) (fun h4 => ?_)
        ·
          refine kb_aload_n X 0 rfl dX1_placeOf_23 ?_
          refine kb_iload_n X 1 rfl dX1_placeOf_24 ?_
          refine kb_cVi X (rest := []) [kb_i lk] 3 (fl := [some 16, some 17, none, none, none]) (C := RX1) rfl rfl (c_X1_slotOf l D ad cy M lk (by first | omega | assumption | exact ⟨by omega, by omega⟩) (by first | omega | assumption | exact ⟨by omega, by omega⟩)) gX1_placeOf_X1_slotOf rfl ⟨rfl, hy_X1_slotOf⟩ ⟨by decide, by decide⟩ rfl (Nat.le_of_ble_eq_true rfl) ⟨by decide, by decide⟩ dX1_placeOf_25 rfl ?_
          refine kb_sipush X (by decide) dX1_placeOf_28 ?_
          refine kb_imul X dX1_placeOf_31 ?_
          refine kb_iload_n X 2 rfl dX1_placeOf_32 ?_
          refine kb_sipush X (by decide) dX1_placeOf_33 ?_
          refine kb_imul X dX1_placeOf_36 ?_
          refine kb_iadd X dX1_placeOf_37 ?_
          refine kb_iload_n X 3 rfl dX1_placeOf_38 ?_
          refine kb_iadd X dX1_placeOf_39 ?_
          exact kb_iret X hr hlocks dX1_placeOf_40 (by unfold sp_pl; first | rw [if_pos (by omega)] | rw [if_neg (by omega)]) (by first | rfl | (exfalso; omega))
        ·
          refine kb_iconst X dX1_placeOf_21 ?_
          exact kb_iret X hr hlocks dX1_placeOf_22 (by unfold sp_pl; first | rw [if_pos (by omega)] | rw [if_neg (by omega)]) (by first | rfl | (exfalso; omega))
-- X1_at
theorem hf_X1_at_12 : Cond.fieldLink yX1_at.cls 12 RX1 "samples" "[I" ∈ wsX1_at := by decide +kernel
theorem hi_X1_at_X1 : ∀ w ∈ wsX10, w ∈ wsX1_at := by decide +kernel
theorem hy_X1_at : yX1_at.cls ≠ "java/lang/invoke/MethodHandle" ∧ yX1_at.cls ≠ "java/lang/invoke/VarHandle" ∧ (parseMethodDescriptor yX1_at.desc).map (fun d => d.parameters.length) = some 3 := by decide +kernel
set_option maxHeartbeats 4000000 in
set_option maxRecDepth 100000 in
theorem c_X1_at (l : Launch) (D : va_G) (ad : Nat → Nat) (cy : Nat → ClassId) (M : kb_M) (lk : Int) (i : Int) (s0 : Int) (ho : 0 ≤ M 3 2 ∧ M 3 2 < 6) (hl : 0 ≤ lk ∧ lk < 1000) (hi : -2147483648 ≤ i ∧ i < 2147483648) (hs0 : -2147483648 ≤ s0 ∧ s0 < 2147483648) : kb_Ci l D ad cy yX1_at wsX1_at 3 66 [.ref (ad 3), kb_i lk, kb_i i, kb_i s0] M (sp_at M lk i s0) (M) := by
  refine kb_mkCi (cc := cX1_at) (maxL := 5) (lv := [(0, .ref (ad 3)), (1, kb_i lk), (2, kb_i i), (3, kb_i s0)]) (plainFor_of_name (by decide)) rfl (Nat.le_of_ble_eq_true rfl) rfl ?_
  intro p e s m args below meth c X hr hlocks hM
  refine kb_aload_n X 0 rfl dX1_at_0 ?_
  refine kb_iload_n X 1 rfl dX1_at_1 ?_
  refine kb_iload_n X 2 rfl dX1_at_2 ?_
  refine kb_iload_n X 3 rfl dX1_at_3 ?_
  refine kb_cVi X (rest := []) [kb_i lk, kb_i i, kb_i s0] 3 (fl := [some 16, some 17, none, none, none]) (C := RX1) rfl rfl (c_X1_placeOf l D ad cy M lk i s0 (by first | omega | assumption | exact ⟨by omega, by omega⟩) (by first | omega | assumption | exact ⟨by omega, by omega⟩) (by first | omega | assumption | exact ⟨by omega, by omega⟩) (by first | omega | assumption | exact ⟨by omega, by omega⟩)) gX1_at_X1_placeOf rfl ⟨rfl, hy_X1_placeOf⟩ ⟨by decide, by decide⟩ rfl (Nat.le_of_ble_eq_true rfl) ⟨by decide, by decide⟩ dX1_at_4 rfl ?_
  have g1 : -1 ≤ (sp_pl M lk i s0) ∧ (sp_pl M lk i s0) < 38400 := sp_pl_b _ _ _ _
  refine kb_nmi (fun x4_2 ex4_2 => ?_)
  refine kb_istore (lv' := [(4, kb_i x4_2), (0, .ref (ad 3)), (1, kb_i lk), (2, kb_i i), (3, kb_i s0)]) X dX1_at_7 (by decide) rfl ?_
  refine kb_iload X 0 rfl dX1_at_9 ?_
  refine kb_if_ge (tgt := 18) X ⟨by omega, by omega⟩ dX1_at_11 (by decide) (fun h3 => ?_) (fun h3 => ?_)
  ·
    refine kb_aload_n X 1 rfl dX1_at_18 ?_
    refine kg_X1_samples X hi_X1_at_X1 hf_X1_at_12 dX1_at_19 ?_
    refine kb_iload X 0 rfl dX1_at_22 ?_
    refine kb_iald X 16 (n := 38400) rfl ⟨by omega, by omega⟩ (by decide) dX1_at_24 ?_
    have g4 : -2147483648 ≤ M 16 x4_2 ∧ M 16 x4_2 < 2147483648 := hM 16 x4_2
    exact kb_iret X hr hlocks dX1_at_25 (by subst_vars; rw [sp_at_pl]; first | rw [if_pos (by omega)] | rw [if_neg (by omega)]) (by first | rfl | (exfalso; omega))
  ·
    refine kb_iconst X dX1_at_14 ?_
    refine kb_goto (tgt := 25) X dX1_at_15 (by decide) ?_
    exact kb_iret X hr hlocks dX1_at_25 (by subst_vars; rw [sp_at_pl]; first | rw [if_pos (by omega)] | rw [if_neg (by omega)]) (by first | rfl | (exfalso; omega))
-- X1_louder
theorem hf_X1_louder_12 : Cond.fieldLink yX1_louder.cls 12 RX1 "samples" "[I" ∈ wsX1_louder := by decide +kernel
theorem hi_X1_louder_X1 : ∀ w ∈ wsX10, w ∈ wsX1_louder := by decide +kernel
theorem hy_X1_louder : yX1_louder.cls ≠ "java/lang/invoke/MethodHandle" ∧ yX1_louder.cls ≠ "java/lang/invoke/VarHandle" ∧ (parseMethodDescriptor yX1_louder.desc).map (fun d => d.parameters.length) = some 4 := by decide +kernel
set_option maxHeartbeats 4000000 in
set_option maxRecDepth 100000 in
theorem c_X1_louder (l : Launch) (D : va_G) (ad : Nat → Nat) (cy : Nat → ClassId) (M : kb_M) (lk : Int) (i : Int) (s0 : Int) (a0 : Int) (ho : 0 ≤ M 3 2 ∧ M 3 2 < 6) (hl : 0 ≤ lk ∧ lk < 1000) (hi : -2147483648 ≤ i ∧ i < 2147483648) (hs0 : -2147483648 ≤ s0 ∧ s0 < 2147483648) (hm : -1000 ≤ a0 ∧ a0 ≤ 1000) (hb : ∀ j : Int, -1000000 ≤ M 16 j ∧ M 16 j ≤ 1000000) : kb_Cv l D ad cy yX1_louder wsX1_louder 3 66 [.ref (ad 3), kb_i lk, kb_i i, kb_i s0, kb_i a0] M (sp_ld M lk i s0 a0) := by
  refine kb_mkCv (cc := cX1_louder) (maxL := 6) (lv := [(0, .ref (ad 3)), (1, kb_i lk), (2, kb_i i), (3, kb_i s0), (4, kb_i a0)]) (plainFor_of_name (by decide)) rfl (Nat.le_of_ble_eq_true rfl) rfl ?_
  intro p e s m args below meth c X hr hlocks hM
  refine kb_aload_n X 0 rfl dX1_louder_0 ?_
  refine kb_iload_n X 1 rfl dX1_louder_1 ?_
  refine kb_iload_n X 2 rfl dX1_louder_2 ?_
  refine kb_iload_n X 3 rfl dX1_louder_3 ?_
  refine kb_cVi X (rest := []) [kb_i lk, kb_i i, kb_i s0] 3 (fl := [some 16, some 17, none, none, none]) (C := RX1) rfl rfl (c_X1_placeOf l D ad cy M lk i s0 (by first | omega | assumption | exact ⟨by omega, by omega⟩) (by first | omega | assumption | exact ⟨by omega, by omega⟩) (by first | omega | assumption | exact ⟨by omega, by omega⟩) (by first | omega | assumption | exact ⟨by omega, by omega⟩)) gX1_louder_X1_placeOf rfl ⟨rfl, hy_X1_placeOf⟩ ⟨by decide, by decide⟩ rfl (Nat.le_of_ble_eq_true rfl) ⟨by decide, by decide⟩ dX1_louder_4 rfl ?_
  have g1 : -1 ≤ (sp_pl M lk i s0) ∧ (sp_pl M lk i s0) < 38400 := sp_pl_b _ _ _ _
  refine kb_nmi (fun x5_2 ex5_2 => ?_)
  refine kb_istore (lv' := [(5, kb_i x5_2), (0, .ref (ad 3)), (1, kb_i lk), (2, kb_i i), (3, kb_i s0), (4, kb_i a0)]) X dX1_louder_7 (by decide) rfl ?_
  refine kb_iload X 0 rfl dX1_louder_9 ?_
  refine kb_if_lt (tgt := 26) X ⟨by omega, by omega⟩ dX1_louder_11 (by decide) (fun h3 => ?_) (fun h3 => ?_)
  ·
    exact kb_vret X hr hlocks dX1_louder_26 (by subst_vars; first | exact sp_ld_pl _ _ _ _ _ (by omega) | exact sp_ld_pn _ _ _ _ _ (by omega))
  ·
    have b16 := hb x5_2
    refine kb_aload_n X 1 rfl dX1_louder_14 ?_
    refine kg_X1_samples X hi_X1_louder_X1 hf_X1_louder_12 dX1_louder_15 ?_
    refine kb_iload X 0 rfl dX1_louder_18 ?_
    refine kb_dup2 X rfl rfl dX1_louder_20 ?_
    refine kb_iald X 16 (n := 38400) rfl ⟨by omega, by omega⟩ (by decide) dX1_louder_21 ?_
    have g4 : -2147483648 ≤ M 16 x5_2 ∧ M 16 x5_2 < 2147483648 := hM 16 x5_2
    refine kb_iload X 5 rfl dX1_louder_22 ?_
    refine kb_iadd X dX1_louder_24 ?_
    refine kb_iast X 16 (n := 38400) rfl ⟨by omega, by omega⟩ (by decide) ⟨by omega, by omega⟩ dX1_louder_25 ?_
    exact kb_vret X hr hlocks dX1_louder_26 (by subst_vars; first | exact sp_ld_pl _ _ _ _ _ (by omega) | exact sp_ld_pn _ _ _ _ _ (by omega))
-- X1_begin
theorem hf_X1_begin_12 : Cond.fieldLink yX1_begin.cls 12 RX1 "samples" "[I" ∈ wsX1_begin := by decide +kernel
theorem hf_X1_begin_16 : Cond.fieldLink yX1_begin.cls 16 RX1 "senders" "[I" ∈ wsX1_begin := by decide +kernel
theorem hf_X1_begin_19 : Cond.fieldLink yX1_begin.cls 19 RX1 "oldest" "I" ∈ wsX1_begin := by decide +kernel
theorem hf_X1_begin_23 : Cond.fieldLink yX1_begin.cls 23 RX1 "size" "I" ∈ wsX1_begin := by decide +kernel
theorem hf_X1_begin_26 : Cond.fieldLink yX1_begin.cls 26 RX1 "ever" "I" ∈ wsX1_begin := by decide +kernel
theorem hi_X1_begin_X1 : ∀ w ∈ wsX10, w ∈ wsX1_begin := by decide +kernel
theorem hy_X1_begin : yX1_begin.cls ≠ "java/lang/invoke/MethodHandle" ∧ yX1_begin.cls ≠ "java/lang/invoke/VarHandle" ∧ (parseMethodDescriptor yX1_begin.desc).map (fun d => d.parameters.length) = some 1 := by decide +kernel
set_option maxHeartbeats 4000000 in
set_option maxRecDepth 100000 in
theorem c_X1_begin (l : Launch) (D : va_G) (ad : Nat → Nat) (cy : Nat → ClassId) (M : kb_M) (t0 : Int) (ho : 0 ≤ M 3 2 ∧ M 3 2 < 6) (hs : 0 ≤ M 3 3 ∧ M 3 3 ≤ 6) (he : 0 ≤ M 3 4 ∧ M 3 4 < 1000000) (ht0 : -2147483648 ≤ t0 ∧ t0 < 2147483648) : kb_Ci l D ad cy yX1_begin wsX1_begin 2 43 [.ref (ad 3), kb_i t0] M (sp_bgr M) (sp_bgn M t0) := by
  refine kb_mkCi (cc := cX1_begin) (maxL := 4) (lv := [(0, .ref (ad 3)), (1, kb_i t0)]) (plainFor_of_name (by decide)) rfl (Nat.le_of_ble_eq_true rfl) rfl ?_
  intro p e s m args below meth c X hr hlocks hM
  refine kb_aload_n X 0 rfl dX1_begin_0 ?_
  refine kg_X1_size X hi_X1_begin_X1 hf_X1_begin_23 dX1_begin_1 ?_
  have g1 : -2147483648 ≤ M 3 3 ∧ M 3 3 < 2147483648 := hM 3 3
  refine kb_bipush X (by decide) dX1_begin_4 ?_
  refine kb_icmp_lt (tgt := 25) X ⟨by omega, by omega⟩ ⟨by decide, by decide⟩ dX1_begin_6 (by decide) (fun h2 => ?_) (fun h2 => ?_)
  ·
    refine kb_aload_n X 0 rfl dX1_begin_25 ?_
    refine kb_dup X rfl dX1_begin_26 ?_
    refine kg_X1_size X hi_X1_begin_X1 hf_X1_begin_23 dX1_begin_27 ?_
    refine kb_iconst X dX1_begin_30 ?_
    refine kb_iadd X dX1_begin_31 ?_
    refine kp_X1_size X hi_X1_begin_X1 hf_X1_begin_23 ⟨by omega, by omega⟩ dX1_begin_32 ?_
    refine kb_aload_n X 0 rfl dX1_begin_35 ?_
    refine kb_dup X rfl dX1_begin_36 ?_
    refine kg_X1_ever X hi_X1_begin_X1 hf_X1_begin_26 dX1_begin_37 ?_
    refine kb_eqi (b := M 3 4) (by first | rfl | simp [kb_wr]) ?_
    have g3 : -2147483648 ≤ M 3 4 ∧ M 3 4 < 2147483648 := hM 3 4
    refine kb_iconst X dX1_begin_40 ?_
    refine kb_iadd X dX1_begin_41 ?_
    refine kp_X1_ever X hi_X1_begin_X1 hf_X1_begin_26 ⟨by omega, by omega⟩ dX1_begin_42 ?_
    refine kb_aload_n X 0 rfl dX1_begin_45 ?_
    refine kb_aload_n X 0 rfl dX1_begin_46 ?_
    refine kg_X1_size X hi_X1_begin_X1 hf_X1_begin_23 dX1_begin_47 ?_
    refine kb_eqi (b := ((M 3 3) + 1)) (by first | rfl | simp [kb_wr]) ?_
    refine kb_iconst X dX1_begin_50 ?_
    refine kb_isub X dX1_begin_51 ?_
    refine kb_cVi X (rest := []) [kb_i ((((M 3 3) + 1)) - 1)] 3 (fl := [some 16, some 17, none, none, none]) (C := RX1) rfl rfl (c_X1_slotOf l D ad cy (kb_wr (kb_wr M 3 3 ((M 3 3) + 1)) 3 4 ((M 3 4) + 1)) ((((M 3 3) + 1)) - 1) (show 0 ≤ M 3 2 ∧ M 3 2 < 6 from (by first | omega | assumption | exact ⟨by omega, by omega⟩)) (by first | omega | assumption | exact ⟨by omega, by omega⟩)) gX1_begin_X1_slotOf rfl ⟨rfl, hy_X1_slotOf⟩ ⟨by decide, by decide⟩ rfl (Nat.le_of_ble_eq_true rfl) ⟨by decide, by decide⟩ dX1_begin_52 rfl ?_
    refine kb_eqi (b := (M 3 2 + ((((M 3 3) + 1)) - 1)) % 6) (by first | rfl | simp [kb_wr]) ?_
    refine kb_nmi (fun x2_4 ex2_4 => ?_)
    refine kb_istore_n (lv' := [(2, kb_i x2_4), (0, .ref (ad 3)), (1, kb_i t0)]) X dX1_begin_55 (by decide) rfl ?_
    refine kb_aload_n X 1 rfl dX1_begin_56 ?_
    refine kg_X1_senders X hi_X1_begin_X1 hf_X1_begin_16 dX1_begin_57 ?_
    refine kb_iload_n X 0 rfl dX1_begin_60 ?_
    refine kb_iload_n X 2 rfl dX1_begin_61 ?_
    refine kb_iast X 17 (n := 6) rfl ⟨by omega, by omega⟩ (by decide) ⟨by omega, by omega⟩ dX1_begin_62 ?_
    refine kb_iload_n X 0 rfl dX1_begin_63 ?_
    refine kb_sipush X (by decide) dX1_begin_64 ?_
    refine kb_imul X dX1_begin_67 ?_
    refine kb_nmi (fun x3_5 ex3_5 => ?_)
    refine kb_istore_n (lv' := [(3, kb_i x3_5), (2, kb_i x2_4), (0, .ref (ad 3)), (1, kb_i t0)]) X dX1_begin_68 (by decide) rfl ?_
    have L69 : ∀ nn_ : Nat, ∀ (a : Int), (x2_4 * 6400 + 6400 - a).toNat < nn_ → (x2_4 * 6400 ≤ a ∧ a ≤ x2_4 * 6400 + 6400) → kb_B p l e ({ frames := 2, cells := 0, slots := 0, locals := 43 } : Room) s m args below meth c D ad cy (kb_A ad s.heap.size) 4 0 0 (MQ below (va_Qi (fun (vq_ : Int32) (_ : Unit) => vq_ = kb_J (sp_bgr M)) (fun _ t => kb_en2 D ad cy (sp_bgn M t0) t) (kb_A ad s.heap.size)) args s 0 0 (kb_A ad s.heap.size)) 69 [(0, .ref (ad 3)), (1, kb_i t0), (2, kb_i x2_4), (3, kb_i a)] [] ((sp_cl (kb_wr (kb_wr (kb_wr M 3 3 ((M 3 3) + 1)) 3 4 ((M 3 4) + 1)) 17 x2_4 t0) x2_4 a)) := by
      intro nn_
      induction nn_ with
      | zero => intro a hn; exact absurd hn (Nat.not_lt_zero _)
      | succ nn_ ih6 =>
        intro a hn hI
        refine kb_iload_n X 3 rfl dX1_begin_69 ?_
        refine kb_iload_n X 2 rfl dX1_begin_70 ?_
        refine kb_sipush X (by decide) dX1_begin_71 ?_
        refine kb_imul X dX1_begin_74 ?_
        refine kb_sipush X (by decide) dX1_begin_75 ?_
        refine kb_iadd X dX1_begin_78 ?_
        refine kb_icmp_ge (tgt := 95) X ⟨by omega, by omega⟩ ⟨by omega, by omega⟩ dX1_begin_79 (by decide) (fun h7 => ?_) (fun h7 => ?_)
        ·
          refine kb_aload_n X 0 rfl dX1_begin_95 ?_
          refine kg_X1_size X hi_X1_begin_X1 hf_X1_begin_23 dX1_begin_96 ?_
          refine kb_eqi (b := ((M 3 3) + 1)) (by first | rfl | simp [kb_wr]) ?_
          refine kb_iconst X dX1_begin_99 ?_
          refine kb_isub X dX1_begin_100 ?_
          exact kb_iret X hr hlocks dX1_begin_101 (by unfold sp_bgr; first | (rw [if_pos (by omega)]; omega) | (rw [if_neg (by omega)]; omega)) (by first | exact sp_bgn_lt (by omega) (by omega) (by omega) | exact sp_bgn_ge (by omega) (by omega) ho (by omega) (by omega))
        ·
          refine kb_aload_n X 0 rfl dX1_begin_82 ?_
          refine kg_X1_samples X hi_X1_begin_X1 hf_X1_begin_12 dX1_begin_83 ?_
          refine kb_iload_n X 3 rfl dX1_begin_86 ?_
          refine kb_iconst X dX1_begin_87 ?_
          refine kb_iast X 16 (n := 38400) rfl ⟨by omega, by omega⟩ (by decide) ⟨by decide, by decide⟩ dX1_begin_88 ?_
          refine kb_iinc (lv' := [(3, kb_i (a + 1)), (0, .ref (ad 3)), (1, kb_i t0), (2, kb_i x2_4)]) X 3 rfl dX1_begin_89 rfl (by decide) rfl ?_
          refine kb_goto (tgt := 69) X dX1_begin_92 (by decide) ?_
          refine kb_sub [1, 2, 3, 0] (lv' := [(0, .ref (ad 3)), (1, kb_i t0), (2, kb_i x2_4), (3, kb_i (a + 1))]) rfl ?_
          refine kb_eqM (M' := sp_cl (kb_wr (kb_wr (kb_wr M 3 3 ((M 3 3) + 1)) 3 4 ((M 3 4) + 1)) 17 x2_4 t0) x2_4 (a + 1)) ((sp_cl_S _ _ _ hI.1).symm) ?_
          exact ih6 (a + 1) (by omega) (by first | omega | assumption | exact ⟨by omega, by omega⟩)
    refine kb_sub [2, 3, 1, 0] (lv' := [(0, .ref (ad 3)), (1, kb_i t0), (2, kb_i x2_4), (3, kb_i x3_5)]) rfl ?_
    refine kb_eqM (M' := sp_cl (kb_wr (kb_wr (kb_wr M 3 3 ((M 3 3) + 1)) 3 4 ((M 3 4) + 1)) 17 x2_4 t0) x2_4 x3_5) (by subst_vars; exact (sp_cl_0 _ _).symm) ?_
    exact L69 _ x3_5 (Nat.lt_succ_self _) (by first | omega | assumption | exact ⟨by omega, by omega⟩)
  ·
    refine kb_aload_n X 0 rfl dX1_begin_9 ?_
    refine kb_aload_n X 0 rfl dX1_begin_10 ?_
    refine kg_X1_oldest X hi_X1_begin_X1 hf_X1_begin_19 dX1_begin_11 ?_
    have g8 : -2147483648 ≤ M 3 2 ∧ M 3 2 < 2147483648 := hM 3 2
    refine kb_iconst X dX1_begin_14 ?_
    refine kb_iadd X dX1_begin_15 ?_
    refine kb_bipush X (by decide) dX1_begin_16 ?_
    refine kb_irem X ⟨by omega, by omega⟩ ⟨by decide, by decide⟩ (by omega) dX1_begin_18 ?_
    refine kb_eqi (b := ((M 3 2) + 1) % 6) (kb_tm (by omega)) ?_
    refine kp_X1_oldest X hi_X1_begin_X1 hf_X1_begin_19 ⟨by omega, by omega⟩ dX1_begin_19 ?_
    refine kb_goto (tgt := 35) X dX1_begin_22 (by decide) ?_
    refine kb_aload_n X 0 rfl dX1_begin_35 ?_
    refine kb_dup X rfl dX1_begin_36 ?_
    refine kg_X1_ever X hi_X1_begin_X1 hf_X1_begin_26 dX1_begin_37 ?_
    refine kb_eqi (b := M 3 4) (by first | rfl | simp [kb_wr]) ?_
    have g9 : -2147483648 ≤ M 3 4 ∧ M 3 4 < 2147483648 := hM 3 4
    refine kb_iconst X dX1_begin_40 ?_
    refine kb_iadd X dX1_begin_41 ?_
    refine kp_X1_ever X hi_X1_begin_X1 hf_X1_begin_26 ⟨by omega, by omega⟩ dX1_begin_42 ?_
    refine kb_aload_n X 0 rfl dX1_begin_45 ?_
    refine kb_aload_n X 0 rfl dX1_begin_46 ?_
    refine kg_X1_size X hi_X1_begin_X1 hf_X1_begin_23 dX1_begin_47 ?_
    refine kb_eqi (b := M 3 3) (by first | rfl | simp [kb_wr]) ?_
    refine kb_iconst X dX1_begin_50 ?_
    refine kb_isub X dX1_begin_51 ?_
    refine kb_cVi X (rest := []) [kb_i ((M 3 3) - 1)] 3 (fl := [some 16, some 17, none, none, none]) (C := RX1) rfl rfl (c_X1_slotOf l D ad cy (kb_wr (kb_wr M 3 2 (((M 3 2) + 1) % 6)) 3 4 ((M 3 4) + 1)) ((M 3 3) - 1) (show 0 ≤ (((M 3 2) + 1) % 6) ∧ (((M 3 2) + 1) % 6) < 6 from (by first | omega | assumption | exact ⟨by omega, by omega⟩)) (by first | omega | assumption | exact ⟨by omega, by omega⟩)) gX1_begin_X1_slotOf rfl ⟨rfl, hy_X1_slotOf⟩ ⟨by decide, by decide⟩ rfl (Nat.le_of_ble_eq_true rfl) ⟨by decide, by decide⟩ dX1_begin_52 rfl ?_
    refine kb_eqi (b := ((((M 3 2) + 1) % 6) + ((M 3 3) - 1)) % 6) (by first | rfl | simp [kb_wr]) ?_
    refine kb_nmi (fun x2_10 ex2_10 => ?_)
    refine kb_istore_n (lv' := [(2, kb_i x2_10), (0, .ref (ad 3)), (1, kb_i t0)]) X dX1_begin_55 (by decide) rfl ?_
    refine kb_aload_n X 1 rfl dX1_begin_56 ?_
    refine kg_X1_senders X hi_X1_begin_X1 hf_X1_begin_16 dX1_begin_57 ?_
    refine kb_iload_n X 0 rfl dX1_begin_60 ?_
    refine kb_iload_n X 2 rfl dX1_begin_61 ?_
    refine kb_iast X 17 (n := 6) rfl ⟨by omega, by omega⟩ (by decide) ⟨by omega, by omega⟩ dX1_begin_62 ?_
    refine kb_iload_n X 0 rfl dX1_begin_63 ?_
    refine kb_sipush X (by decide) dX1_begin_64 ?_
    refine kb_imul X dX1_begin_67 ?_
    refine kb_nmi (fun x3_11 ex3_11 => ?_)
    refine kb_istore_n (lv' := [(3, kb_i x3_11), (2, kb_i x2_10), (0, .ref (ad 3)), (1, kb_i t0)]) X dX1_begin_68 (by decide) rfl ?_
    have L69 : ∀ nn_ : Nat, ∀ (a : Int), (x2_10 * 6400 + 6400 - a).toNat < nn_ → (x2_10 * 6400 ≤ a ∧ a ≤ x2_10 * 6400 + 6400) → kb_B p l e ({ frames := 2, cells := 0, slots := 0, locals := 43 } : Room) s m args below meth c D ad cy (kb_A ad s.heap.size) 4 0 0 (MQ below (va_Qi (fun (vq_ : Int32) (_ : Unit) => vq_ = kb_J (sp_bgr M)) (fun _ t => kb_en2 D ad cy (sp_bgn M t0) t) (kb_A ad s.heap.size)) args s 0 0 (kb_A ad s.heap.size)) 69 [(0, .ref (ad 3)), (1, kb_i t0), (2, kb_i x2_10), (3, kb_i a)] [] ((sp_cl (kb_wr (kb_wr (kb_wr M 3 2 (((M 3 2) + 1) % 6)) 3 4 ((M 3 4) + 1)) 17 x2_10 t0) x2_10 a)) := by
      intro nn_
      induction nn_ with
      | zero => intro a hn; exact absurd hn (Nat.not_lt_zero _)
      | succ nn_ ih12 =>
        intro a hn hI
        refine kb_iload_n X 3 rfl dX1_begin_69 ?_
        refine kb_iload_n X 2 rfl dX1_begin_70 ?_
        refine kb_sipush X (by decide) dX1_begin_71 ?_
        refine kb_imul X dX1_begin_74 ?_
        refine kb_sipush X (by decide) dX1_begin_75 ?_
        refine kb_iadd X dX1_begin_78 ?_
        refine kb_icmp_ge (tgt := 95) X ⟨by omega, by omega⟩ ⟨by omega, by omega⟩ dX1_begin_79 (by decide) (fun h13 => ?_) (fun h13 => ?_)
        ·
          refine kb_aload_n X 0 rfl dX1_begin_95 ?_
          refine kg_X1_size X hi_X1_begin_X1 hf_X1_begin_23 dX1_begin_96 ?_
          refine kb_eqi (b := M 3 3) (by first | rfl | simp [kb_wr]) ?_
          refine kb_iconst X dX1_begin_99 ?_
          refine kb_isub X dX1_begin_100 ?_
          exact kb_iret X hr hlocks dX1_begin_101 (by unfold sp_bgr; first | (rw [if_pos (by omega)]; omega) | (rw [if_neg (by omega)]; omega)) (by first | exact sp_bgn_lt (by omega) (by omega) (by omega) | exact sp_bgn_ge (by omega) (by omega) ho (by omega) (by omega))
        ·
          refine kb_aload_n X 0 rfl dX1_begin_82 ?_
          refine kg_X1_samples X hi_X1_begin_X1 hf_X1_begin_12 dX1_begin_83 ?_
          refine kb_iload_n X 3 rfl dX1_begin_86 ?_
          refine kb_iconst X dX1_begin_87 ?_
          refine kb_iast X 16 (n := 38400) rfl ⟨by omega, by omega⟩ (by decide) ⟨by decide, by decide⟩ dX1_begin_88 ?_
          refine kb_iinc (lv' := [(3, kb_i (a + 1)), (0, .ref (ad 3)), (1, kb_i t0), (2, kb_i x2_10)]) X 3 rfl dX1_begin_89 rfl (by decide) rfl ?_
          refine kb_goto (tgt := 69) X dX1_begin_92 (by decide) ?_
          refine kb_sub [1, 2, 3, 0] (lv' := [(0, .ref (ad 3)), (1, kb_i t0), (2, kb_i x2_10), (3, kb_i (a + 1))]) rfl ?_
          refine kb_eqM (M' := sp_cl (kb_wr (kb_wr (kb_wr M 3 2 (((M 3 2) + 1) % 6)) 3 4 ((M 3 4) + 1)) 17 x2_10 t0) x2_10 (a + 1)) ((sp_cl_S _ _ _ hI.1).symm) ?_
          exact ih12 (a + 1) (by omega) (by first | omega | assumption | exact ⟨by omega, by omega⟩)
    refine kb_sub [2, 3, 1, 0] (lv' := [(0, .ref (ad 3)), (1, kb_i t0), (2, kb_i x2_10), (3, kb_i x3_11)]) rfl ?_
    refine kb_eqM (M' := sp_cl (kb_wr (kb_wr (kb_wr M 3 2 (((M 3 2) + 1) % 6)) 3 4 ((M 3 4) + 1)) 17 x2_10 t0) x2_10 x3_11) (by subst_vars; exact (sp_cl_0 _ _).symm) ?_
    exact L69 _ x3_11 (Nat.lt_succ_self _) (by first | omega | assumption | exact ⟨by omega, by omega⟩)
-- X1_rowSum
theorem hf_X1_rowSum_12 : Cond.fieldLink yX1_rowSum.cls 12 RX1 "samples" "[I" ∈ wsX1_rowSum := by decide +kernel
theorem hi_X1_rowSum_X1 : ∀ w ∈ wsX10, w ∈ wsX1_rowSum := by decide +kernel
theorem hy_X1_rowSum : yX1_rowSum.cls ≠ "java/lang/invoke/MethodHandle" ∧ yX1_rowSum.cls ≠ "java/lang/invoke/VarHandle" ∧ (parseMethodDescriptor yX1_rowSum.desc).map (fun d => d.parameters.length) = some 2 := by decide +kernel
set_option maxHeartbeats 4000000 in
set_option maxRecDepth 100000 in
theorem c_X1_rowSum (l : Launch) (D : va_G) (ad : Nat → Nat) (cy : Nat → ClassId) (M : kb_M) (lk : Int) (i : Int) (ho : 0 ≤ M 3 2 ∧ M 3 2 < 6) (hl : 0 ≤ lk ∧ lk < 1000) (hi : 0 ≤ i ∧ i < 16) : kb_Cl l D ad cy yX1_rowSum wsX1_rowSum 3 66 [.ref (ad 3), kb_i lk, kb_i i] M (sp_sum (fun b => (b + 1) * sp_at M lk i b) 400) (M) := by
  refine kb_mkCl (cc := cX1_rowSum) (maxL := 7) (lv := [(0, .ref (ad 3)), (1, kb_i lk), (2, kb_i i)]) (plainFor_of_name (by decide)) rfl (Nat.le_of_ble_eq_true rfl) rfl ?_
  intro p e s m args below meth c X hr hlocks hM
  refine kb_aload_n X 0 rfl dX1_rowSum_0 ?_
  refine kb_iload_n X 1 rfl dX1_rowSum_1 ?_
  refine kb_iload_n X 2 rfl dX1_rowSum_2 ?_
  refine kb_iconst X dX1_rowSum_3 ?_
  refine kb_cVi X (rest := []) [kb_i lk, kb_i i, kb_i 0] 3 (fl := [some 16, some 17, none, none, none]) (C := RX1) rfl rfl (c_X1_placeOf l D ad cy M lk i 0 (by first | omega | assumption | exact ⟨by omega, by omega⟩) (by first | omega | assumption | exact ⟨by omega, by omega⟩) (by first | omega | assumption | exact ⟨by omega, by omega⟩) (by first | omega | assumption | exact ⟨by omega, by omega⟩)) gX1_rowSum_X1_placeOf rfl ⟨rfl, hy_X1_placeOf⟩ ⟨by decide, by decide⟩ rfl (Nat.le_of_ble_eq_true rfl) ⟨by decide, by decide⟩ dX1_rowSum_4 rfl ?_
  have g1 : -1 ≤ (sp_pl M lk i 0) ∧ (sp_pl M lk i 0) < 38400 := sp_pl_b _ _ _ _
  have e3 : sp_pl M lk i 0 = (M 3 2 + lk) % 6 * 6400 + i * 400 + 0 := by unfold sp_pl; rw [if_pos (by omega)]
  refine kb_nmi (fun x3_2 ex3_2 => ?_)
  refine kb_istore_n (lv' := [(3, kb_i x3_2), (0, .ref (ad 3)), (1, kb_i lk), (2, kb_i i)]) X dX1_rowSum_7 (by decide) rfl ?_
  refine kb_iload_n X 0 rfl dX1_rowSum_8 ?_
  refine kb_if_lt (tgt := 25) X ⟨by omega, by omega⟩ dX1_rowSum_9 (by decide) (fun h3 => ?_) (fun h3 => ?_)
  ·
    refine kb_lconst X dX1_rowSum_25 ?_
    refine kb_eql (b := 0) rfl ?_
    exact kb_lret X hr hlocks dX1_rowSum_26 (by exfalso; omega) (by first | rfl | (exfalso; omega))
  ·
    refine kb_iload_n X 0 rfl dX1_rowSum_12 ?_
    refine kb_sipush X (by decide) dX1_rowSum_13 ?_
    refine kb_iadd X dX1_rowSum_16 ?_
    refine kb_aload_n X 1 rfl dX1_rowSum_17 ?_
    refine kg_X1_samples X hi_X1_rowSum_X1 hf_X1_rowSum_12 dX1_rowSum_18 ?_
    refine kb_alen X 16 (n := 38400) rfl (by decide) dX1_rowSum_21 ?_
    refine kb_icmp_le (tgt := 27) X ⟨by omega, by omega⟩ ⟨by decide, by decide⟩ dX1_rowSum_22 (by decide) (fun h4 => ?_) (fun h4 => ?_)
    ·
      refine kb_lconst X dX1_rowSum_27 ?_
      refine kb_eql (b := 0) rfl ?_
      refine kb_lstore (lv' := [(4, kb_l (0)), (3, kb_i x3_2), (0, .ref (ad 3)), (1, kb_i lk), (2, kb_i i)]) X dX1_rowSum_28 (by decide) rfl ?_
      refine kb_iconst X dX1_rowSum_30 ?_
      refine kb_istore (lv' := [(6, kb_i 0), (4, kb_l (0)), (3, kb_i x3_2), (0, .ref (ad 3)), (1, kb_i lk), (2, kb_i i)]) X dX1_rowSum_31 (by decide) rfl ?_
      have L33 : ∀ nn_ : Nat, ∀ (u a : Int), (400 - a).toNat < nn_ → (0 ≤ a ∧ a ≤ 400) → (u = sp_sum (fun b => (b + 1) * sp_at M lk i b) a.toNat) → kb_B p l e ({ frames := 3, cells := 0, slots := 0, locals := 66 } : Room) s m args below meth c D ad cy (kb_A ad s.heap.size) 7 0 0 (MQ below (va_Ql (fun (vq_ : Int64) (_ : Unit) => vq_ = kb_L (sp_sum (fun b => (b + 1) * sp_at M lk i b) 400)) (fun _ t => kb_en2 D ad cy (M) t) (kb_A ad s.heap.size)) args s 0 0 (kb_A ad s.heap.size)) 33 [(0, .ref (ad 3)), (1, kb_i lk), (2, kb_i i), (3, kb_i x3_2), (4, kb_l (u)), (6, kb_i a)] [] M := by
        intro nn_
        induction nn_ with
        | zero => intro u a hn; exact absurd hn (Nat.not_lt_zero _)
        | succ nn_ ih5 =>
          intro u a hn hI hJ
          refine kb_iload X 5 rfl dX1_rowSum_33 ?_
          refine kb_sipush X (by decide) dX1_rowSum_35 ?_
          refine kb_icmp_ge (tgt := 68) X ⟨by omega, by omega⟩ ⟨by decide, by decide⟩ dX1_rowSum_38 (by decide) (fun h6 => ?_) (fun h6 => ?_)
          ·
            refine kb_lload X 4 rfl dX1_rowSum_68 ?_
            exact kb_lret X hr hlocks dX1_rowSum_70 (by (have e : a = 400 := by omega); subst e; exact hJ) (by first | rfl | (exfalso; omega))
          ·
            refine kb_lload X 4 rfl dX1_rowSum_41 ?_
            refine kb_iload X 5 rfl dX1_rowSum_43 ?_
            refine kb_i2l X ⟨by omega, by omega⟩ dX1_rowSum_45 ?_
            refine kb_lconst X dX1_rowSum_46 ?_
            refine kb_eql (b := 1) rfl ?_
            refine kb_ladd X dX1_rowSum_47 ?_
            refine kb_aload_n X 0 rfl dX1_rowSum_48 ?_
            refine kg_X1_samples X hi_X1_rowSum_X1 hf_X1_rowSum_12 dX1_rowSum_49 ?_
            refine kb_iload_n X 3 rfl dX1_rowSum_52 ?_
            refine kb_iload X 5 rfl dX1_rowSum_53 ?_
            refine kb_iadd X dX1_rowSum_55 ?_
            refine kb_iald X 16 (n := 38400) rfl ⟨by omega, by omega⟩ (by decide) dX1_rowSum_56 ?_
            have g7 : -2147483648 ≤ M 16 (x3_2 + a) ∧ M 16 (x3_2 + a) < 2147483648 := hM 16 (x3_2 + a)
            refine kb_i2l X ⟨by omega, by omega⟩ dX1_rowSum_57 ?_
            refine kb_lmul X dX1_rowSum_58 ?_
            have e59 : M 16 (x3_2 + a) = sp_at M lk i a := by subst_vars; unfold sp_at; rw [if_pos (by omega), e3]; congr 1; omega
            refine kb_ladd X dX1_rowSum_59 ?_
            refine kb_nml (fun x4_8 ex4_8 => ?_)
            refine kb_lstore (lv' := [(4, kb_l (x4_8)), (0, .ref (ad 3)), (1, kb_i lk), (2, kb_i i), (3, kb_i x3_2), (6, kb_i a)]) X dX1_rowSum_60 (by decide) rfl ?_
            refine kb_iinc (lv' := [(6, kb_i (a + 1)), (4, kb_l (x4_8)), (0, .ref (ad 3)), (1, kb_i lk), (2, kb_i i), (3, kb_i x3_2)]) X 5 rfl dX1_rowSum_62 rfl (by decide) rfl ?_
            refine kb_goto (tgt := 33) X dX1_rowSum_65 (by decide) ?_
            refine kb_sub [2, 3, 4, 5, 1, 0] (lv' := [(0, .ref (ad 3)), (1, kb_i lk), (2, kb_i i), (3, kb_i x3_2), (4, kb_l (x4_8)), (6, kb_i (a + 1))]) rfl ?_
            exact ih5 x4_8 (a + 1) (by omega) (by first | omega | assumption | exact ⟨by omega, by omega⟩) (by rw [sp_sumS _ hI.1, ← hJ, ← e59]; simp_all)
      refine kb_sub [3, 4, 5, 2, 1, 0] (lv' := [(0, .ref (ad 3)), (1, kb_i lk), (2, kb_i i), (3, kb_i x3_2), (4, kb_l (0)), (6, kb_i 0)]) rfl ?_
      exact L33 _ 0 0 (Nat.lt_succ_self _) (by first | omega | assumption | exact ⟨by omega, by omega⟩) (rfl)
    ·
      refine kb_lconst X dX1_rowSum_25 ?_
      refine kb_eql (b := 0) rfl ?_
      exact kb_lret X hr hlocks dX1_rowSum_26 (by exfalso; omega) (by first | rfl | (exfalso; omega))
-- X2_cool
theorem hf_X2_cool_7 : Cond.fieldLink yX2_cool.cls 7 RX2 "heat" "I" ∈ wsX2_cool := by decide +kernel
theorem hi_X2_cool_X2 : ∀ w ∈ wsX20, w ∈ wsX2_cool := by decide +kernel
theorem hy_X2_cool : yX2_cool.cls ≠ "java/lang/invoke/MethodHandle" ∧ yX2_cool.cls ≠ "java/lang/invoke/VarHandle" ∧ (parseMethodDescriptor yX2_cool.desc).map (fun d => d.parameters.length) = some 0 := by decide +kernel
set_option maxHeartbeats 4000000 in
set_option maxRecDepth 100000 in
theorem c_X2_cool (l : Launch) (D : va_G) (ad : Nat → Nat) (cy : Nat → ClassId) (M : kb_M)  (hh : 0 ≤ M 6 0 ∧ M 6 0 ≤ 2000000) : kb_Cv l D ad cy yX2_cool wsX2_cool 0 0 [.ref (ad 6)] M (kb_wr M 6 0 (M 6 0 - (M 6 0 + 31) / 32)) := by
  refine kb_mkCv (cc := cX2_cool) (maxL := 1) (lv := [(0, .ref (ad 6))]) (plainFor_of_name (by decide)) rfl (Nat.le_of_ble_eq_true rfl) rfl ?_
  intro p e s m args below meth c X hr hlocks hM
  refine kb_aload_n X 0 rfl dX2_cool_0 ?_
  refine kb_dup X rfl dX2_cool_1 ?_
  refine kg_X2_heat X hi_X2_cool_X2 hf_X2_cool_7 dX2_cool_2 ?_
  have g1 : -2147483648 ≤ M 6 0 ∧ M 6 0 < 2147483648 := hM 6 0
  refine kb_aload_n X 0 rfl dX2_cool_5 ?_
  refine kg_X2_heat X hi_X2_cool_X2 hf_X2_cool_7 dX2_cool_6 ?_
  refine kb_bipush X (by decide) dX2_cool_9 ?_
  refine kb_iadd X dX2_cool_11 ?_
  refine kb_bipush X (by decide) dX2_cool_12 ?_
  refine kb_idiv X ⟨by omega, by omega⟩ ⟨by decide, by decide⟩ (by omega) dX2_cool_14 ?_
  refine kb_eqi (b := ((M 6 0) + 31) / 32) (kb_td (by omega)) ?_
  refine kb_isub X dX2_cool_15 ?_
  refine kp_X2_heat X hi_X2_cool_X2 hf_X2_cool_7 ⟨by omega, by omega⟩ dX2_cool_16 ?_
  exact kb_vret X hr hlocks dX2_cool_19 (by first | rfl | (exfalso; omega))
-- X4_forget
theorem hf_X4_forget_19 : Cond.fieldLink yX4_forget.cls 19 RX4 "oldest" "I" ∈ wsX4_forget := by decide +kernel
theorem hf_X4_forget_23 : Cond.fieldLink yX4_forget.cls 23 RX4 "size" "I" ∈ wsX4_forget := by decide +kernel
theorem hi_X4_forget_X4 : ∀ w ∈ wsX40, w ∈ wsX4_forget := by decide +kernel
theorem hy_X4_forget : yX4_forget.cls ≠ "java/lang/invoke/MethodHandle" ∧ yX4_forget.cls ≠ "java/lang/invoke/VarHandle" ∧ (parseMethodDescriptor yX4_forget.desc).map (fun d => d.parameters.length) = some 0 := by decide +kernel
set_option maxHeartbeats 4000000 in
set_option maxRecDepth 100000 in
theorem c_X4_forget (l : Launch) (D : va_G) (ad : Nat → Nat) (cy : Nat → ClassId) (M : kb_M)   : kb_Cv l D ad cy yX4_forget wsX4_forget 0 0 [.ref (ad 4)] M (kb_wr (kb_wr M 4 3 0) 4 4 0) := by
  refine kb_mkCv (cc := cX4_forget) (maxL := 1) (lv := [(0, .ref (ad 4))]) (plainFor_of_name (by decide)) rfl (Nat.le_of_ble_eq_true rfl) rfl ?_
  intro p e s m args below meth c X hr hlocks hM
  refine kb_aload_n X 0 rfl dX4_forget_0 ?_
  refine kb_iconst X dX4_forget_1 ?_
  refine kp_X4_oldest X hi_X4_forget_X4 hf_X4_forget_19 ⟨by decide, by decide⟩ dX4_forget_2 ?_
  refine kb_aload_n X 0 rfl dX4_forget_5 ?_
  refine kb_iconst X dX4_forget_6 ?_
  refine kp_X4_size X hi_X4_forget_X4 hf_X4_forget_23 ⟨by decide, by decide⟩ dX4_forget_7 ?_
  exact kb_vret X hr hlocks dX4_forget_10 (by first | rfl | (exfalso; omega))
-- X4_has
theorem hf_X4_has_23 : Cond.fieldLink yX4_has.cls 23 RX4 "size" "I" ∈ wsX4_has := by decide +kernel
theorem hi_X4_has_X4 : ∀ w ∈ wsX40, w ∈ wsX4_has := by decide +kernel
theorem hy_X4_has : yX4_has.cls ≠ "java/lang/invoke/MethodHandle" ∧ yX4_has.cls ≠ "java/lang/invoke/VarHandle" ∧ (parseMethodDescriptor yX4_has.desc).map (fun d => d.parameters.length) = some 1 := by decide +kernel
set_option maxHeartbeats 4000000 in
set_option maxRecDepth 100000 in
theorem c_X4_has (l : Launch) (D : va_G) (ad : Nat → Nat) (cy : Nat → ClassId) (M : kb_M) (p0 : Int) (hp0 : -2147483648 ≤ p0 ∧ p0 < 2147483648) : kb_Ci l D ad cy yX4_has wsX4_has 0 0 [.ref (ad 4), kb_i p0] M (kb_b (0 ≤ p0 ∧ p0 < M 4 4)) (M) := by
  refine kb_mkCi (cc := cX4_has) (maxL := 2) (lv := [(0, .ref (ad 4)), (1, kb_i p0)]) (plainFor_of_name (by decide)) rfl (Nat.le_of_ble_eq_true rfl) rfl ?_
  intro p e s m args below meth c X hr hlocks hM
  refine kb_iload_n X 1 rfl dX4_has_0 ?_
  refine kb_if_lt (tgt := 16) X ⟨by omega, by omega⟩ dX4_has_1 (by decide) (fun h1 => ?_) (fun h1 => ?_)
  ·
    refine kb_iconst X dX4_has_16 ?_
    exact kb_zret X hr hlocks (by first | exact Or.inl rfl | exact Or.inr rfl) dX4_has_17 (by first | rfl | assumption | omega | exact (kb_b1 (by omega)).symm | exact (kb_b0 (by omega)).symm) (by first | rfl | (exfalso; omega))
  ·
    refine kb_iload_n X 1 rfl dX4_has_4 ?_
    refine kb_aload_n X 0 rfl dX4_has_5 ?_
    refine kg_X4_size X hi_X4_has_X4 hf_X4_has_23 dX4_has_6 ?_
    have g2 : -2147483648 ≤ M 4 4 ∧ M 4 4 < 2147483648 := hM 4 4
    refine kb_icmp_ge (tgt := 16) X ⟨by omega, by omega⟩ ⟨by omega, by omega⟩ dX4_has_9 (by decide) (fun h3 => ?_) (fun h3 => ?_)
    ·
      refine kb_iconst X dX4_has_16 ?_
      exact kb_zret X hr hlocks (by first | exact Or.inl rfl | exact Or.inr rfl) dX4_has_17 (by first | rfl | assumption | omega | exact (kb_b1 (by omega)).symm | exact (kb_b0 (by omega)).symm) (by first | rfl | (exfalso; omega))
    ·
      refine kb_iconst X dX4_has_12 ?_
      refine kb_goto (tgt := 17) X dX4_has_13 (by decide) ?_
      exact kb_zret X hr hlocks (by first | exact Or.inl rfl | exact Or.inr rfl) dX4_has_17 (by first | rfl | assumption | omega | exact (kb_b1 (by omega)).symm | exact (kb_b0 (by omega)).symm) (by first | rfl | (exfalso; omega))
-- X4_slotOf
theorem hf_X4_slotOf_19 : Cond.fieldLink yX4_slotOf.cls 19 RX4 "oldest" "I" ∈ wsX4_slotOf := by decide +kernel
theorem hi_X4_slotOf_X4 : ∀ w ∈ wsX40, w ∈ wsX4_slotOf := by decide +kernel
theorem hy_X4_slotOf : yX4_slotOf.cls ≠ "java/lang/invoke/MethodHandle" ∧ yX4_slotOf.cls ≠ "java/lang/invoke/VarHandle" ∧ (parseMethodDescriptor yX4_slotOf.desc).map (fun d => d.parameters.length) = some 1 := by decide +kernel
set_option maxHeartbeats 4000000 in
set_option maxRecDepth 100000 in
theorem c_X4_slotOf (l : Launch) (D : va_G) (ad : Nat → Nat) (cy : Nat → ClassId) (M : kb_M) (p0 : Int) (ho : 0 ≤ M 4 3 ∧ M 4 3 < 4) (hl : 0 ≤ p0 ∧ p0 < 1000) : kb_Ci l D ad cy yX4_slotOf wsX4_slotOf 1 22 [.ref (ad 4), kb_i p0] M ((M 4 3 + p0) % 4) (M) := by
  refine kb_mkCi (cc := cX4_slotOf) (maxL := 2) (lv := [(0, .ref (ad 4)), (1, kb_i p0)]) (plainFor_of_name (by decide)) rfl (Nat.le_of_ble_eq_true rfl) rfl ?_
  intro p e s m args below meth c X hr hlocks hM
  refine kb_aload_n X 0 rfl dX4_slotOf_0 ?_
  refine kg_X4_oldest X hi_X4_slotOf_X4 hf_X4_slotOf_19 dX4_slotOf_1 ?_
  have g1 : -2147483648 ≤ M 4 3 ∧ M 4 3 < 2147483648 := hM 4 3
  refine kb_iload_n X 1 rfl dX4_slotOf_4 ?_
  refine kb_iadd X dX4_slotOf_5 ?_
  refine kb_iconst X dX4_slotOf_6 ?_
  refine kb_cSi X (rest := []) [kb_i ((M 4 3) + p0), kb_i 4] (c_J9_floorMod_7cf53 l D ad cy M ((M 4 3) + p0) 4 (by first | omega | assumption | exact ⟨by omega, by omega⟩) (by first | omega | assumption | exact ⟨by omega, by omega⟩)) gX4_slotOf_J9_floorMod_7cf53 rfl hy_J9_floorMod_7cf53 ⟨by decide, by decide⟩ rfl (Nat.le_of_ble_eq_true rfl) ⟨by decide, by decide⟩ dX4_slotOf_7 rfl ?_
  exact kb_iret X hr hlocks dX4_slotOf_10 (by first | rfl | assumption | omega | exact (kb_b1 (by omega)).symm | exact (kb_b0 (by omega)).symm) (by first | rfl | (exfalso; omega))
-- X4_isSlot
theorem hy_X4_isSlot : yX4_isSlot.cls ≠ "java/lang/invoke/MethodHandle" ∧ yX4_isSlot.cls ≠ "java/lang/invoke/VarHandle" ∧ (parseMethodDescriptor yX4_isSlot.desc).map (fun d => d.parameters.length) = some 1 := by decide +kernel
set_option maxHeartbeats 4000000 in
set_option maxRecDepth 100000 in
theorem c_X4_isSlot (l : Launch) (D : va_G) (ad : Nat → Nat) (cy : Nat → ClassId) (M : kb_M) (t0 : Int) (ht0 : -2147483648 ≤ t0 ∧ t0 < 2147483648) : kb_Ci l D ad cy yX4_isSlot wsX4_isSlot 0 0 [.ref (ad 4), kb_i t0] M (kb_b (0 ≤ t0 ∧ t0 < 4)) (M) := by
  refine kb_mkCi (cc := cX4_isSlot) (maxL := 2) (lv := [(0, .ref (ad 4)), (1, kb_i t0)]) (plainFor_of_name (by decide)) rfl (Nat.le_of_ble_eq_true rfl) rfl ?_
  intro p e s m args below meth c X hr hlocks hM
  refine kb_iload_n X 1 rfl dX4_isSlot_0 ?_
  refine kb_if_lt (tgt := 13) X ⟨by omega, by omega⟩ dX4_isSlot_1 (by decide) (fun h1 => ?_) (fun h1 => ?_)
  ·
    refine kb_iconst X dX4_isSlot_13 ?_
    exact kb_zret X hr hlocks (by first | exact Or.inl rfl | exact Or.inr rfl) dX4_isSlot_14 (by first | rfl | assumption | omega | exact (kb_b1 (by omega)).symm | exact (kb_b0 (by omega)).symm) (by first | rfl | (exfalso; omega))
  ·
    refine kb_iload_n X 1 rfl dX4_isSlot_4 ?_
    refine kb_iconst X dX4_isSlot_5 ?_
    refine kb_icmp_ge (tgt := 13) X ⟨by omega, by omega⟩ ⟨by decide, by decide⟩ dX4_isSlot_6 (by decide) (fun h2 => ?_) (fun h2 => ?_)
    ·
      refine kb_iconst X dX4_isSlot_13 ?_
      exact kb_zret X hr hlocks (by first | exact Or.inl rfl | exact Or.inr rfl) dX4_isSlot_14 (by first | rfl | assumption | omega | exact (kb_b1 (by omega)).symm | exact (kb_b0 (by omega)).symm) (by first | rfl | (exfalso; omega))
    ·
      refine kb_iconst X dX4_isSlot_9 ?_
      refine kb_goto (tgt := 14) X dX4_isSlot_10 (by decide) ?_
      exact kb_zret X hr hlocks (by first | exact Or.inl rfl | exact Or.inr rfl) dX4_isSlot_14 (by first | rfl | assumption | omega | exact (kb_b1 (by omega)).symm | exact (kb_b0 (by omega)).symm) (by first | rfl | (exfalso; omega))
-- X4_widthOf
theorem hf_X4_widthOf_13 : Cond.fieldLink yX4_widthOf.cls 13 RX4 "widths" "[I" ∈ wsX4_widthOf := by decide +kernel
theorem hi_X4_widthOf_X4 : ∀ w ∈ wsX40, w ∈ wsX4_widthOf := by decide +kernel
theorem hy_X4_widthOf : yX4_widthOf.cls ≠ "java/lang/invoke/MethodHandle" ∧ yX4_widthOf.cls ≠ "java/lang/invoke/VarHandle" ∧ (parseMethodDescriptor yX4_widthOf.desc).map (fun d => d.parameters.length) = some 1 := by decide +kernel
set_option maxHeartbeats 4000000 in
set_option maxRecDepth 100000 in
theorem c_X4_widthOf (l : Launch) (D : va_G) (ad : Nat → Nat) (cy : Nat → ClassId) (M : kb_M) (t0 : Int) (ht0 : -2147483648 ≤ t0 ∧ t0 < 2147483648) : kb_Ci l D ad cy yX4_widthOf wsX4_widthOf 1 21 [.ref (ad 4), kb_i t0] M (sp_rw M t0) (M) := by
  refine kb_mkCi (cc := cX4_widthOf) (maxL := 2) (lv := [(0, .ref (ad 4)), (1, kb_i t0)]) (plainFor_of_name (by decide)) rfl (Nat.le_of_ble_eq_true rfl) rfl ?_
  intro p e s m args below meth c X hr hlocks hM
  refine kb_aload_n X 0 rfl dX4_widthOf_0 ?_
  refine kb_iload_n X 1 rfl dX4_widthOf_1 ?_
  refine kb_cVi X (rest := []) [kb_i t0] 4 (fl := [some 18, some 19, some 20, none, none]) (C := RX4) rfl rfl (c_X4_isSlot l D ad cy M t0 (by first | omega | assumption | exact ⟨by omega, by omega⟩)) gX4_widthOf_X4_isSlot rfl ⟨rfl, hy_X4_isSlot⟩ ⟨by decide, by decide⟩ rfl (Nat.le_of_ble_eq_true rfl) ⟨by decide, by decide⟩ dX4_widthOf_2 rfl ?_
  refine kb_ifb_eq (tgt := 17) X dX4_widthOf_5 (by decide) (fun h1 => ?_) (fun h1 => ?_)
  ·
    refine kb_iconst X dX4_widthOf_17 ?_
    exact kb_iret X hr hlocks dX4_widthOf_18 (by unfold sp_rw; first | rw [if_pos (by omega)] | rw [if_neg (by omega)]) (by first | rfl | (exfalso; omega))
  ·
    refine kb_aload_n X 0 rfl dX4_widthOf_8 ?_
    refine kg_X4_widths X hi_X4_widthOf_X4 hf_X4_widthOf_13 dX4_widthOf_9 ?_
    refine kb_iload_n X 1 rfl dX4_widthOf_12 ?_
    refine kb_iald X 19 (n := 4) rfl ⟨by omega, by omega⟩ (by decide) dX4_widthOf_13 ?_
    have g2 : -2147483648 ≤ M 19 t0 ∧ M 19 t0 < 2147483648 := hM 19 t0
    refine kb_goto (tgt := 18) X dX4_widthOf_14 (by decide) ?_
    exact kb_iret X hr hlocks dX4_widthOf_18 (by unfold sp_rw; first | rw [if_pos (by omega)] | rw [if_neg (by omega)]) (by first | rfl | (exfalso; omega))
-- X4_heightOf
theorem hf_X4_heightOf_16 : Cond.fieldLink yX4_heightOf.cls 16 RX4 "heights" "[I" ∈ wsX4_heightOf := by decide +kernel
theorem hi_X4_heightOf_X4 : ∀ w ∈ wsX40, w ∈ wsX4_heightOf := by decide +kernel
theorem hy_X4_heightOf : yX4_heightOf.cls ≠ "java/lang/invoke/MethodHandle" ∧ yX4_heightOf.cls ≠ "java/lang/invoke/VarHandle" ∧ (parseMethodDescriptor yX4_heightOf.desc).map (fun d => d.parameters.length) = some 1 := by decide +kernel
set_option maxHeartbeats 4000000 in
set_option maxRecDepth 100000 in
theorem c_X4_heightOf (l : Launch) (D : va_G) (ad : Nat → Nat) (cy : Nat → ClassId) (M : kb_M) (t0 : Int) (ht0 : -2147483648 ≤ t0 ∧ t0 < 2147483648) : kb_Ci l D ad cy yX4_heightOf wsX4_heightOf 1 21 [.ref (ad 4), kb_i t0] M (sp_rh M t0) (M) := by
  refine kb_mkCi (cc := cX4_heightOf) (maxL := 2) (lv := [(0, .ref (ad 4)), (1, kb_i t0)]) (plainFor_of_name (by decide)) rfl (Nat.le_of_ble_eq_true rfl) rfl ?_
  intro p e s m args below meth c X hr hlocks hM
  refine kb_aload_n X 0 rfl dX4_heightOf_0 ?_
  refine kb_iload_n X 1 rfl dX4_heightOf_1 ?_
  refine kb_cVi X (rest := []) [kb_i t0] 4 (fl := [some 18, some 19, some 20, none, none]) (C := RX4) rfl rfl (c_X4_isSlot l D ad cy M t0 (by first | omega | assumption | exact ⟨by omega, by omega⟩)) gX4_heightOf_X4_isSlot rfl ⟨rfl, hy_X4_isSlot⟩ ⟨by decide, by decide⟩ rfl (Nat.le_of_ble_eq_true rfl) ⟨by decide, by decide⟩ dX4_heightOf_2 rfl ?_
  refine kb_ifb_eq (tgt := 17) X dX4_heightOf_5 (by decide) (fun h1 => ?_) (fun h1 => ?_)
  ·
    refine kb_iconst X dX4_heightOf_17 ?_
    exact kb_iret X hr hlocks dX4_heightOf_18 (by unfold sp_rh; first | rw [if_pos (by omega)] | rw [if_neg (by omega)]) (by first | rfl | (exfalso; omega))
  ·
    refine kb_aload_n X 0 rfl dX4_heightOf_8 ?_
    refine kg_X4_heights X hi_X4_heightOf_X4 hf_X4_heightOf_16 dX4_heightOf_9 ?_
    refine kb_iload_n X 1 rfl dX4_heightOf_12 ?_
    refine kb_iald X 20 (n := 4) rfl ⟨by omega, by omega⟩ (by decide) dX4_heightOf_13 ?_
    have g2 : -2147483648 ≤ M 20 t0 ∧ M 20 t0 < 2147483648 := hM 20 t0
    refine kb_goto (tgt := 18) X dX4_heightOf_14 (by decide) ?_
    exact kb_iret X hr hlocks dX4_heightOf_18 (by unfold sp_rh; first | rw [if_pos (by omega)] | rw [if_neg (by omega)]) (by first | rfl | (exfalso; omega))
-- X4_get
theorem hf_X4_get_9 : Cond.fieldLink yX4_get.cls 9 RX4 "pixels" "[I" ∈ wsX4_get := by decide +kernel
theorem hi_X4_get_X4 : ∀ w ∈ wsX40, w ∈ wsX4_get := by decide +kernel
theorem hy_X4_get : yX4_get.cls ≠ "java/lang/invoke/MethodHandle" ∧ yX4_get.cls ≠ "java/lang/invoke/VarHandle" ∧ (parseMethodDescriptor yX4_get.desc).map (fun d => d.parameters.length) = some 2 := by decide +kernel
set_option maxHeartbeats 4000000 in
set_option maxRecDepth 100000 in
theorem c_X4_get (l : Launch) (D : va_G) (ad : Nat → Nat) (cy : Nat → ClassId) (M : kb_M) (t0 : Int) (k0 : Int) (ht0 : -2147483648 ≤ t0 ∧ t0 < 2147483648) (hk0 : -2147483648 ≤ k0 ∧ k0 < 2147483648) : kb_Ci l D ad cy yX4_get wsX4_get 1 21 [.ref (ad 4), kb_i t0, kb_i k0] M (sp_px M t0 k0) (M) := by
  refine kb_mkCi (cc := cX4_get) (maxL := 3) (lv := [(0, .ref (ad 4)), (1, kb_i t0), (2, kb_i k0)]) (plainFor_of_name (by decide)) rfl (Nat.le_of_ble_eq_true rfl) rfl ?_
  intro p e s m args below meth c X hr hlocks hM
  refine kb_aload_n X 0 rfl dX4_get_0 ?_
  refine kb_iload_n X 1 rfl dX4_get_1 ?_
  refine kb_cVi X (rest := []) [kb_i t0] 4 (fl := [some 18, some 19, some 20, none, none]) (C := RX4) rfl rfl (c_X4_isSlot l D ad cy M t0 (by first | omega | assumption | exact ⟨by omega, by omega⟩)) gX4_get_X4_isSlot rfl ⟨rfl, hy_X4_isSlot⟩ ⟨by decide, by decide⟩ rfl (Nat.le_of_ble_eq_true rfl) ⟨by decide, by decide⟩ dX4_get_2 rfl ?_
  refine kb_ifb_eq (tgt := 34) X dX4_get_5 (by decide) (fun h1 => ?_) (fun h1 => ?_)
  ·
    refine kb_iconst X dX4_get_34 ?_
    exact kb_iret X hr hlocks dX4_get_35 (by unfold sp_px; first | rw [if_pos (by omega)] | rw [if_neg (by omega)]) (by first | rfl | (exfalso; omega))
  ·
    refine kb_iload_n X 2 rfl dX4_get_8 ?_
    refine kb_if_lt (tgt := 34) X ⟨by omega, by omega⟩ dX4_get_9 (by decide) (fun h2 => ?_) (fun h2 => ?_)
    ·
      refine kb_iconst X dX4_get_34 ?_
      exact kb_iret X hr hlocks dX4_get_35 (by unfold sp_px; first | rw [if_pos (by omega)] | rw [if_neg (by omega)]) (by first | rfl | (exfalso; omega))
    ·
      refine kb_iload_n X 2 rfl dX4_get_12 ?_
      refine kb_sipush X (by decide) dX4_get_13 ?_
      refine kb_icmp_ge (tgt := 34) X ⟨by omega, by omega⟩ ⟨by decide, by decide⟩ dX4_get_16 (by decide) (fun h3 => ?_) (fun h3 => ?_)
      ·
        refine kb_iconst X dX4_get_34 ?_
        exact kb_iret X hr hlocks dX4_get_35 (by unfold sp_px; first | rw [if_pos (by omega)] | rw [if_neg (by omega)]) (by first | rfl | (exfalso; omega))
      ·
        refine kb_aload_n X 0 rfl dX4_get_19 ?_
        refine kg_X4_pixels X hi_X4_get_X4 hf_X4_get_9 dX4_get_20 ?_
        refine kb_iload_n X 1 rfl dX4_get_23 ?_
        refine kb_sipush X (by decide) dX4_get_24 ?_
        refine kb_imul X dX4_get_27 ?_
        refine kb_iload_n X 2 rfl dX4_get_28 ?_
        refine kb_iadd X dX4_get_29 ?_
        refine kb_iald X 18 (n := 1024) rfl ⟨by omega, by omega⟩ (by decide) dX4_get_30 ?_
        have g4 : -2147483648 ≤ M 18 ((t0 * 256) + k0) ∧ M 18 ((t0 * 256) + k0) < 2147483648 := hM 18 ((t0 * 256) + k0)
        refine kb_goto (tgt := 35) X dX4_get_31 (by decide) ?_
        exact kb_iret X hr hlocks dX4_get_35 (by unfold sp_px; first | rw [if_pos (by omega)] | rw [if_neg (by omega)]) (by first | rfl | (exfalso; omega))
-- X4_set
theorem hf_X4_set_9 : Cond.fieldLink yX4_set.cls 9 RX4 "pixels" "[I" ∈ wsX4_set := by decide +kernel
theorem hi_X4_set_X4 : ∀ w ∈ wsX40, w ∈ wsX4_set := by decide +kernel
theorem hy_X4_set : yX4_set.cls ≠ "java/lang/invoke/MethodHandle" ∧ yX4_set.cls ≠ "java/lang/invoke/VarHandle" ∧ (parseMethodDescriptor yX4_set.desc).map (fun d => d.parameters.length) = some 3 := by decide +kernel
set_option maxHeartbeats 4000000 in
set_option maxRecDepth 100000 in
theorem c_X4_set (l : Launch) (D : va_G) (ad : Nat → Nat) (cy : Nat → ClassId) (M : kb_M) (t0 : Int) (k0 : Int) (v0 : Int) (ht : 0 ≤ t0 ∧ t0 < 4) (hk : 0 ≤ k0 ∧ k0 < 256) (hv0 : -2147483648 ≤ v0 ∧ v0 < 2147483648) : kb_Cv l D ad cy yX4_set wsX4_set 1 21 [.ref (ad 4), kb_i t0, kb_i k0, kb_i v0] M (kb_wr M 18 (t0 * 256 + k0) v0) := by
  refine kb_mkCv (cc := cX4_set) (maxL := 4) (lv := [(0, .ref (ad 4)), (1, kb_i t0), (2, kb_i k0), (3, kb_i v0)]) (plainFor_of_name (by decide)) rfl (Nat.le_of_ble_eq_true rfl) rfl ?_
  intro p e s m args below meth c X hr hlocks hM
  refine kb_aload_n X 0 rfl dX4_set_0 ?_
  refine kb_iload_n X 1 rfl dX4_set_1 ?_
  refine kb_cVi X (rest := []) [kb_i t0] 4 (fl := [some 18, some 19, some 20, none, none]) (C := RX4) rfl rfl (c_X4_isSlot l D ad cy M t0 (by first | omega | assumption | exact ⟨by omega, by omega⟩)) gX4_set_X4_isSlot rfl ⟨rfl, hy_X4_isSlot⟩ ⟨by decide, by decide⟩ rfl (Nat.le_of_ble_eq_true rfl) ⟨by decide, by decide⟩ dX4_set_2 rfl ?_
  refine kb_ifb_eq (tgt := 32) X dX4_set_5 (by decide) (fun h1 => ?_) (fun h1 => ?_)
  ·
    exact kb_vret X hr hlocks dX4_set_32 (by first | rfl | (exfalso; omega))
  ·
    refine kb_iload_n X 2 rfl dX4_set_8 ?_
    refine kb_if_lt (tgt := 32) X ⟨by omega, by omega⟩ dX4_set_9 (by decide) (fun h2 => ?_) (fun h2 => ?_)
    ·
      exact kb_vret X hr hlocks dX4_set_32 (by first | rfl | (exfalso; omega))
    ·
      refine kb_iload_n X 2 rfl dX4_set_12 ?_
      refine kb_sipush X (by decide) dX4_set_13 ?_
      refine kb_icmp_ge (tgt := 32) X ⟨by omega, by omega⟩ ⟨by decide, by decide⟩ dX4_set_16 (by decide) (fun h3 => ?_) (fun h3 => ?_)
      ·
        exact kb_vret X hr hlocks dX4_set_32 (by first | rfl | (exfalso; omega))
      ·
        refine kb_aload_n X 0 rfl dX4_set_19 ?_
        refine kg_X4_pixels X hi_X4_set_X4 hf_X4_set_9 dX4_set_20 ?_
        refine kb_iload_n X 1 rfl dX4_set_23 ?_
        refine kb_sipush X (by decide) dX4_set_24 ?_
        refine kb_imul X dX4_set_27 ?_
        refine kb_iload_n X 2 rfl dX4_set_28 ?_
        refine kb_iadd X dX4_set_29 ?_
        refine kb_iload_n X 3 rfl dX4_set_30 ?_
        refine kb_iast X 18 (n := 1024) rfl ⟨by omega, by omega⟩ (by decide) ⟨by omega, by omega⟩ dX4_set_31 ?_
        exact kb_vret X hr hlocks dX4_set_32 (by first | rfl | (exfalso; omega))
-- X4_begin
theorem hf_X4_begin_13 : Cond.fieldLink yX4_begin.cls 13 RX4 "widths" "[I" ∈ wsX4_begin := by decide +kernel
theorem hf_X4_begin_16 : Cond.fieldLink yX4_begin.cls 16 RX4 "heights" "[I" ∈ wsX4_begin := by decide +kernel
theorem hf_X4_begin_19 : Cond.fieldLink yX4_begin.cls 19 RX4 "oldest" "I" ∈ wsX4_begin := by decide +kernel
theorem hf_X4_begin_23 : Cond.fieldLink yX4_begin.cls 23 RX4 "size" "I" ∈ wsX4_begin := by decide +kernel
theorem hi_X4_begin_X4 : ∀ w ∈ wsX40, w ∈ wsX4_begin := by decide +kernel
theorem hy_X4_begin : yX4_begin.cls ≠ "java/lang/invoke/MethodHandle" ∧ yX4_begin.cls ≠ "java/lang/invoke/VarHandle" ∧ (parseMethodDescriptor yX4_begin.desc).map (fun d => d.parameters.length) = some 2 := by decide +kernel
set_option maxHeartbeats 4000000 in
set_option maxRecDepth 100000 in
theorem c_X4_begin (l : Launch) (D : va_G) (ad : Nat → Nat) (cy : Nat → ClassId) (M : kb_M) (w : Int) (h0 : Int) (ho : 0 ≤ M 4 3 ∧ M 4 3 < 4) (hs : 0 ≤ M 4 4 ∧ M 4 4 ≤ 4) (hw : -2147483648 ≤ w ∧ w < 2147483648) (hh0 : -2147483648 ≤ h0 ∧ h0 < 2147483648) : kb_Ci l D ad cy yX4_begin wsX4_begin 2 43 [.ref (ad 4), kb_i w, kb_i h0] M (sp_rbs M) (sp_rbn M w h0) := by
  refine kb_mkCi (cc := cX4_begin) (maxL := 4) (lv := [(0, .ref (ad 4)), (1, kb_i w), (2, kb_i h0)]) (plainFor_of_name (by decide)) rfl (Nat.le_of_ble_eq_true rfl) rfl ?_
  intro p e s m args below meth c X hr hlocks hM
  refine kb_aload_n X 0 rfl dX4_begin_0 ?_
  refine kg_X4_size X hi_X4_begin_X4 hf_X4_begin_23 dX4_begin_1 ?_
  have g1 : -2147483648 ≤ M 4 4 ∧ M 4 4 < 2147483648 := hM 4 4
  refine kb_iconst X dX4_begin_4 ?_
  refine kb_icmp_lt (tgt := 23) X ⟨by omega, by omega⟩ ⟨by decide, by decide⟩ dX4_begin_5 (by decide) (fun h2 => ?_) (fun h2 => ?_)
  ·
    refine kb_aload_n X 0 rfl dX4_begin_23 ?_
    refine kb_dup X rfl dX4_begin_24 ?_
    refine kg_X4_size X hi_X4_begin_X4 hf_X4_begin_23 dX4_begin_25 ?_
    refine kb_iconst X dX4_begin_28 ?_
    refine kb_iadd X dX4_begin_29 ?_
    refine kp_X4_size X hi_X4_begin_X4 hf_X4_begin_23 ⟨by omega, by omega⟩ dX4_begin_30 ?_
    refine kb_aload_n X 0 rfl dX4_begin_33 ?_
    refine kb_aload_n X 0 rfl dX4_begin_34 ?_
    refine kg_X4_size X hi_X4_begin_X4 hf_X4_begin_23 dX4_begin_35 ?_
    refine kb_eqi (b := ((M 4 4) + 1)) (by first | rfl | simp [kb_wr]) ?_
    refine kb_iconst X dX4_begin_38 ?_
    refine kb_isub X dX4_begin_39 ?_
    refine kb_cVi X (rest := []) [kb_i ((((M 4 4) + 1)) - 1)] 4 (fl := [some 18, some 19, some 20, none, none]) (C := RX4) rfl rfl (c_X4_slotOf l D ad cy (kb_wr M 4 4 ((M 4 4) + 1)) ((((M 4 4) + 1)) - 1) (show 0 ≤ M 4 3 ∧ M 4 3 < 4 from (by first | omega | assumption | exact ⟨by omega, by omega⟩)) (by first | omega | assumption | exact ⟨by omega, by omega⟩)) gX4_begin_X4_slotOf rfl ⟨rfl, hy_X4_slotOf⟩ ⟨by decide, by decide⟩ rfl (Nat.le_of_ble_eq_true rfl) ⟨by decide, by decide⟩ dX4_begin_40 rfl ?_
    refine kb_eqi (b := (M 4 3 + ((((M 4 4) + 1)) - 1)) % 4) (by first | rfl | simp [kb_wr]) ?_
    refine kb_nmi (fun x3_3 ex3_3 => ?_)
    refine kb_istore_n (lv' := [(3, kb_i x3_3), (0, .ref (ad 4)), (1, kb_i w), (2, kb_i h0)]) X dX4_begin_43 (by decide) rfl ?_
    refine kb_aload_n X 1 rfl dX4_begin_44 ?_
    refine kg_X4_widths X hi_X4_begin_X4 hf_X4_begin_13 dX4_begin_45 ?_
    refine kb_iload_n X 0 rfl dX4_begin_48 ?_
    refine kb_iload_n X 2 rfl dX4_begin_49 ?_
    refine kb_iast X 19 (n := 4) rfl ⟨by omega, by omega⟩ (by decide) ⟨by omega, by omega⟩ dX4_begin_50 ?_
    refine kb_aload_n X 1 rfl dX4_begin_51 ?_
    refine kg_X4_heights X hi_X4_begin_X4 hf_X4_begin_16 dX4_begin_52 ?_
    refine kb_iload_n X 0 rfl dX4_begin_55 ?_
    refine kb_iload_n X 3 rfl dX4_begin_56 ?_
    refine kb_iast X 20 (n := 4) rfl ⟨by omega, by omega⟩ (by decide) ⟨by omega, by omega⟩ dX4_begin_57 ?_
    refine kb_iload_n X 0 rfl dX4_begin_58 ?_
    exact kb_iret X hr hlocks dX4_begin_59 (by first | exact sp_rbs_lt (by omega) (by omega) | exact sp_rbs_ge (by omega) (by omega) ho (by omega)) (by first | exact sp_rbn_lt (by omega) (by omega) | exact sp_rbn_ge (by omega) (by omega) ho (by omega))
  ·
    refine kb_aload_n X 0 rfl dX4_begin_8 ?_
    refine kb_aload_n X 0 rfl dX4_begin_9 ?_
    refine kg_X4_oldest X hi_X4_begin_X4 hf_X4_begin_19 dX4_begin_10 ?_
    have g4 : -2147483648 ≤ M 4 3 ∧ M 4 3 < 2147483648 := hM 4 3
    refine kb_iconst X dX4_begin_13 ?_
    refine kb_iadd X dX4_begin_14 ?_
    refine kb_iconst X dX4_begin_15 ?_
    refine kb_irem X ⟨by omega, by omega⟩ ⟨by decide, by decide⟩ (by omega) dX4_begin_16 ?_
    refine kb_eqi (b := ((M 4 3) + 1) % 4) (kb_tm (by omega)) ?_
    refine kp_X4_oldest X hi_X4_begin_X4 hf_X4_begin_19 ⟨by omega, by omega⟩ dX4_begin_17 ?_
    refine kb_goto (tgt := 33) X dX4_begin_20 (by decide) ?_
    refine kb_aload_n X 0 rfl dX4_begin_33 ?_
    refine kb_aload_n X 0 rfl dX4_begin_34 ?_
    refine kg_X4_size X hi_X4_begin_X4 hf_X4_begin_23 dX4_begin_35 ?_
    refine kb_eqi (b := M 4 4) (by first | rfl | simp [kb_wr]) ?_
    refine kb_iconst X dX4_begin_38 ?_
    refine kb_isub X dX4_begin_39 ?_
    refine kb_cVi X (rest := []) [kb_i ((M 4 4) - 1)] 4 (fl := [some 18, some 19, some 20, none, none]) (C := RX4) rfl rfl (c_X4_slotOf l D ad cy (kb_wr M 4 3 (((M 4 3) + 1) % 4)) ((M 4 4) - 1) (show 0 ≤ (((M 4 3) + 1) % 4) ∧ (((M 4 3) + 1) % 4) < 4 from (by first | omega | assumption | exact ⟨by omega, by omega⟩)) (by first | omega | assumption | exact ⟨by omega, by omega⟩)) gX4_begin_X4_slotOf rfl ⟨rfl, hy_X4_slotOf⟩ ⟨by decide, by decide⟩ rfl (Nat.le_of_ble_eq_true rfl) ⟨by decide, by decide⟩ dX4_begin_40 rfl ?_
    refine kb_eqi (b := ((((M 4 3) + 1) % 4) + ((M 4 4) - 1)) % 4) (by first | rfl | simp [kb_wr]) ?_
    refine kb_nmi (fun x3_5 ex3_5 => ?_)
    refine kb_istore_n (lv' := [(3, kb_i x3_5), (0, .ref (ad 4)), (1, kb_i w), (2, kb_i h0)]) X dX4_begin_43 (by decide) rfl ?_
    refine kb_aload_n X 1 rfl dX4_begin_44 ?_
    refine kg_X4_widths X hi_X4_begin_X4 hf_X4_begin_13 dX4_begin_45 ?_
    refine kb_iload_n X 0 rfl dX4_begin_48 ?_
    refine kb_iload_n X 2 rfl dX4_begin_49 ?_
    refine kb_iast X 19 (n := 4) rfl ⟨by omega, by omega⟩ (by decide) ⟨by omega, by omega⟩ dX4_begin_50 ?_
    refine kb_aload_n X 1 rfl dX4_begin_51 ?_
    refine kg_X4_heights X hi_X4_begin_X4 hf_X4_begin_16 dX4_begin_52 ?_
    refine kb_iload_n X 0 rfl dX4_begin_55 ?_
    refine kb_iload_n X 3 rfl dX4_begin_56 ?_
    refine kb_iast X 20 (n := 4) rfl ⟨by omega, by omega⟩ (by decide) ⟨by omega, by omega⟩ dX4_begin_57 ?_
    refine kb_iload_n X 0 rfl dX4_begin_58 ?_
    exact kb_iret X hr hlocks dX4_begin_59 (by first | exact sp_rbs_lt (by omega) (by omega) | exact sp_rbs_ge (by omega) (by omega) ho (by omega)) (by first | exact sp_rbn_lt (by omega) (by omega) | exact sp_rbn_ge (by omega) (by omega) ho (by omega))
-- X4_firstGreatest
theorem hy_X4_firstGreatest : yX4_firstGreatest.cls ≠ "java/lang/invoke/MethodHandle" ∧ yX4_firstGreatest.cls ≠ "java/lang/invoke/VarHandle" ∧ (parseMethodDescriptor yX4_firstGreatest.desc).map (fun d => d.parameters.length) = some 1 := by decide +kernel
set_option maxHeartbeats 4000000 in
set_option maxRecDepth 100000 in
theorem c_X4_firstGreatest (l : Launch) (D : va_G) (ad : Nat → Nat) (cy : Nat → ClassId) (M : kb_M) (t0 : Int) (ht0 : -2147483648 ≤ t0 ∧ t0 < 2147483648) (hw : 0 ≤ sp_rw M t0 ∧ sp_rw M t0 ≤ 16) (hv : 0 ≤ sp_rh M t0 ∧ sp_rh M t0 ≤ 16) : kb_Ci l D ad cy yX4_firstGreatest wsX4_firstGreatest 2 43 [.ref (ad 4), kb_i t0] M (sp_best (sp_px M t0) (sp_rw M t0 * sp_rh M t0 - 1).toNat) (M) := by
  refine kb_mkCi (cc := cX4_firstGreatest) (maxL := 4) (lv := [(0, .ref (ad 4)), (1, kb_i t0)]) (plainFor_of_name (by decide)) rfl (Nat.le_of_ble_eq_true rfl) rfl ?_
  intro p e s m args below meth c X hr hlocks hM
  have mb := sp_mulb hw.1 hw.2 hv.1 hv.2
  refine kb_iconst X dX4_firstGreatest_0 ?_
  refine kb_istore_n (lv' := [(2, kb_i 0), (0, .ref (ad 4)), (1, kb_i t0)]) X dX4_firstGreatest_1 (by decide) rfl ?_
  refine kb_iconst X dX4_firstGreatest_2 ?_
  refine kb_istore_n (lv' := [(3, kb_i 1), (2, kb_i 0), (0, .ref (ad 4)), (1, kb_i t0)]) X dX4_firstGreatest_3 (by decide) rfl ?_
  have L4 : ∀ nn_ : Nat, ∀ (b k : Int), (300 - k).toNat < nn_ → (0 ≤ b ∧ b < k ∧ 1 ≤ k ∧ k ≤ 300) → (k ≤ sp_rw M t0 * sp_rh M t0 ∨ k = 1) → (b = sp_best (sp_px M t0) (k - 1).toNat) → kb_B p l e ({ frames := 2, cells := 0, slots := 0, locals := 43 } : Room) s m args below meth c D ad cy (kb_A ad s.heap.size) 4 0 0 (MQ below (va_Qi (fun (vq_ : Int32) (_ : Unit) => vq_ = kb_J (sp_best (sp_px M t0) (sp_rw M t0 * sp_rh M t0 - 1).toNat)) (fun _ t => kb_en2 D ad cy (M) t) (kb_A ad s.heap.size)) args s 0 0 (kb_A ad s.heap.size)) 4 [(0, .ref (ad 4)), (1, kb_i t0), (2, kb_i b), (3, kb_i k)] [] M := by
    intro nn_
    induction nn_ with
    | zero => intro b k hn; exact absurd hn (Nat.not_lt_zero _)
    | succ nn_ ih1 =>
      intro b k hn hI hK hJ
      refine kb_iload_n X 3 rfl dX4_firstGreatest_4 ?_
      refine kb_aload_n X 0 rfl dX4_firstGreatest_5 ?_
      refine kb_iload_n X 1 rfl dX4_firstGreatest_6 ?_
      refine kb_cVi X (rest := [kb_i k]) [kb_i t0] 4 (fl := [some 18, some 19, some 20, none, none]) (C := RX4) rfl rfl (c_X4_widthOf l D ad cy M t0 (by first | omega | assumption | exact ⟨by omega, by omega⟩)) gX4_firstGreatest_X4_widthOf rfl ⟨rfl, hy_X4_widthOf⟩ ⟨by decide, by decide⟩ rfl (Nat.le_of_ble_eq_true rfl) ⟨by decide, by decide⟩ dX4_firstGreatest_7 rfl ?_
      refine kb_aload_n X 0 rfl dX4_firstGreatest_10 ?_
      refine kb_iload_n X 1 rfl dX4_firstGreatest_11 ?_
      refine kb_cVi X (rest := [kb_i (sp_rw M t0), kb_i k]) [kb_i t0] 4 (fl := [some 18, some 19, some 20, none, none]) (C := RX4) rfl rfl (c_X4_heightOf l D ad cy M t0 (by first | omega | assumption | exact ⟨by omega, by omega⟩)) gX4_firstGreatest_X4_heightOf rfl ⟨rfl, hy_X4_heightOf⟩ ⟨by decide, by decide⟩ rfl (Nat.le_of_ble_eq_true rfl) ⟨by decide, by decide⟩ dX4_firstGreatest_12 rfl ?_
      refine kb_imul X dX4_firstGreatest_15 ?_
      refine kb_icmp_ge (tgt := 42) X ⟨by omega, by omega⟩ ⟨by omega, by omega⟩ dX4_firstGreatest_16 (by decide) (fun h2 => ?_) (fun h2 => ?_)
      ·
        refine kb_iload_n X 2 rfl dX4_firstGreatest_42 ?_
        exact kb_iret X hr hlocks dX4_firstGreatest_43 (by rw [hJ]; congr 1; omega) (by first | rfl | (exfalso; omega))
      ·
        refine kb_aload_n X 0 rfl dX4_firstGreatest_19 ?_
        refine kb_iload_n X 1 rfl dX4_firstGreatest_20 ?_
        refine kb_iload_n X 3 rfl dX4_firstGreatest_21 ?_
        refine kb_cVi X (rest := []) [kb_i t0, kb_i k] 4 (fl := [some 18, some 19, some 20, none, none]) (C := RX4) rfl rfl (c_X4_get l D ad cy M t0 k (by first | omega | assumption | exact ⟨by omega, by omega⟩) (by first | omega | assumption | exact ⟨by omega, by omega⟩)) gX4_firstGreatest_X4_get rfl ⟨rfl, hy_X4_get⟩ ⟨by decide, by decide⟩ rfl (Nat.le_of_ble_eq_true rfl) ⟨by decide, by decide⟩ dX4_firstGreatest_22 rfl ?_
        refine kb_aload_n X 0 rfl dX4_firstGreatest_25 ?_
        refine kb_iload_n X 1 rfl dX4_firstGreatest_26 ?_
        refine kb_iload_n X 2 rfl dX4_firstGreatest_27 ?_
        refine kb_cVi X (rest := [kb_i (sp_px M t0 k)]) [kb_i t0, kb_i b] 4 (fl := [some 18, some 19, some 20, none, none]) (C := RX4) rfl rfl (c_X4_get l D ad cy M t0 b (by first | omega | assumption | exact ⟨by omega, by omega⟩) (by first | omega | assumption | exact ⟨by omega, by omega⟩)) gX4_firstGreatest_X4_get rfl ⟨rfl, hy_X4_get⟩ ⟨by decide, by decide⟩ rfl (Nat.le_of_ble_eq_true rfl) ⟨by decide, by decide⟩ dX4_firstGreatest_28 rfl ?_
        have q1 := sp_px_rg hM t0 k
        have q2 := sp_px_rg hM t0 b
        refine kb_icmp_le (tgt := 36) X ⟨by omega, by omega⟩ ⟨by omega, by omega⟩ dX4_firstGreatest_31 (by decide) (fun h3 => ?_) (fun h3 => ?_)
        ·
          refine kb_iinc (lv' := [(3, kb_i (k + 1)), (0, .ref (ad 4)), (1, kb_i t0), (2, kb_i b)]) X 3 rfl dX4_firstGreatest_36 rfl (by decide) rfl ?_
          refine kb_goto (tgt := 4) X dX4_firstGreatest_39 (by decide) ?_
          refine kb_sub [1, 2, 3, 0] (lv' := [(0, .ref (ad 4)), (1, kb_i t0), (2, kb_i b), (3, kb_i (k + 1))]) rfl ?_
          exact ih1 b (k + 1) (by omega) (by first | omega | assumption | exact ⟨by omega, by omega⟩) (by omega) (by rw [sp_bestS _ (by omega)]; rw [← hJ]; first | (rw [if_pos (by omega)]) | (rw [if_neg (by omega)]))
        ·
          refine kb_iload_n X 3 rfl dX4_firstGreatest_34 ?_
          refine kb_istore_n (lv' := [(2, kb_i k), (0, .ref (ad 4)), (1, kb_i t0), (3, kb_i k)]) X dX4_firstGreatest_35 (by decide) rfl ?_
          refine kb_iinc (lv' := [(3, kb_i (k + 1)), (2, kb_i k), (0, .ref (ad 4)), (1, kb_i t0)]) X 3 rfl dX4_firstGreatest_36 rfl (by decide) rfl ?_
          refine kb_goto (tgt := 4) X dX4_firstGreatest_39 (by decide) ?_
          refine kb_sub [2, 3, 1, 0] (lv' := [(0, .ref (ad 4)), (1, kb_i t0), (2, kb_i k), (3, kb_i (k + 1))]) rfl ?_
          exact ih1 k (k + 1) (by omega) (by first | omega | assumption | exact ⟨by omega, by omega⟩) (by omega) (by rw [sp_bestS _ (by omega)]; rw [← hJ]; first | (rw [if_pos (by omega)]) | (rw [if_neg (by omega)]))
  refine kb_sub [2, 3, 1, 0] (lv' := [(0, .ref (ad 4)), (1, kb_i t0), (2, kb_i 0), (3, kb_i 1)]) rfl ?_
  exact L4 _ 0 1 (Nat.lt_succ_self _) (by first | omega | assumption | exact ⟨by omega, by omega⟩) (by omega) (rfl)
-- X4_digestOn
theorem hf_X4_digestOn_23 : Cond.fieldLink yX4_digestOn.cls 23 RX4 "size" "I" ∈ wsX4_digestOn := by decide +kernel
theorem hi_X4_digestOn_X4 : ∀ w ∈ wsX40, w ∈ wsX4_digestOn := by decide +kernel
theorem hy_X4_digestOn : yX4_digestOn.cls ≠ "java/lang/invoke/MethodHandle" ∧ yX4_digestOn.cls ≠ "java/lang/invoke/VarHandle" ∧ (parseMethodDescriptor yX4_digestOn.desc).map (fun d => d.parameters.length) = some 1 := by decide +kernel
set_option maxHeartbeats 4000000 in
set_option maxRecDepth 100000 in
theorem c_X4_digestOn (l : Launch) (D : va_G) (ad : Nat → Nat) (cy : Nat → ClassId) (M : kb_M) (h0 : Int) (ho : 0 ≤ M 4 3 ∧ M 4 3 < 4) (hs : 0 ≤ M 4 4 ∧ M 4 4 ≤ 4) (hwh : ∀ t0 : Int, (0 ≤ sp_rw M t0 ∧ sp_rw M t0 ≤ 16) ∧ (0 ≤ sp_rh M t0 ∧ sp_rh M t0 ≤ 16)) : kb_Cl l D ad cy yX4_digestOn wsX4_digestOn 2 43 [.ref (ad 4), kb_l (h0)] M (sp_hp M h0 (M 4 4).toNat) (M) := by
  refine kb_mkCl (cc := cX4_digestOn) (maxL := 8) (lv := [(0, .ref (ad 4)), (1, kb_l (h0))]) (plainFor_of_name (by decide)) rfl (Nat.le_of_ble_eq_true rfl) rfl ?_
  intro p e s m args below meth c X hr hlocks hM
  refine kb_lload_n X 1 rfl dX4_digestOn_0 ?_
  refine kb_lstore_n (lv' := [(3, kb_l (h0)), (0, .ref (ad 4)), (1, kb_l (h0))]) X dX4_digestOn_1 (by decide) rfl ?_
  refine kb_iconst X dX4_digestOn_2 ?_
  refine kb_istore (lv' := [(5, kb_i 0), (3, kb_l (h0)), (0, .ref (ad 4)), (1, kb_l (h0))]) X dX4_digestOn_3 (by decide) rfl ?_
  have L5 : ∀ nn_ : Nat, ∀ (u p1 : Int), (4 - p1).toNat < nn_ → (0 ≤ p1 ∧ p1 ≤ M 4 4) → (u = sp_hp M h0 p1.toNat) → kb_B p l e ({ frames := 2, cells := 0, slots := 0, locals := 43 } : Room) s m args below meth c D ad cy (kb_A ad s.heap.size) 8 0 0 (MQ below (va_Ql (fun (vq_ : Int64) (_ : Unit) => vq_ = kb_L (sp_hp M h0 (M 4 4).toNat)) (fun _ t => kb_en2 D ad cy (M) t) (kb_A ad s.heap.size)) args s 0 0 (kb_A ad s.heap.size)) 5 [(0, .ref (ad 4)), (1, kb_l (h0)), (3, kb_l (u)), (5, kb_i p1)] [] M := by
    intro nn_
    induction nn_ with
    | zero => intro u p1 hn; exact absurd hn (Nat.not_lt_zero _)
    | succ nn_ ih1 =>
      intro u p1 hn hI hJ
      refine kb_iload X 3 rfl dX4_digestOn_5 ?_
      refine kb_aload_n X 0 rfl dX4_digestOn_7 ?_
      refine kg_X4_size X hi_X4_digestOn_X4 hf_X4_digestOn_23 dX4_digestOn_8 ?_
      have g2 : -2147483648 ≤ M 4 4 ∧ M 4 4 < 2147483648 := hM 4 4
      refine kb_icmp_ge (tgt := 71) X ⟨by omega, by omega⟩ ⟨by omega, by omega⟩ dX4_digestOn_11 (by decide) (fun h3 => ?_) (fun h3 => ?_)
      ·
        refine kb_lload_n X 2 rfl dX4_digestOn_71 ?_
        exact kb_lret X hr hlocks dX4_digestOn_72 (by (have e : p1 = M 4 4 := by omega); rw [hJ, e]) (by first | rfl | (exfalso; omega))
      ·
        refine kb_aload_n X 0 rfl dX4_digestOn_14 ?_
        refine kb_iload X 3 rfl dX4_digestOn_15 ?_
        refine kb_cVi X (rest := []) [kb_i p1] 4 (fl := [some 18, some 19, some 20, none, none]) (C := RX4) rfl rfl (c_X4_slotOf l D ad cy M p1 (by first | omega | assumption | exact ⟨by omega, by omega⟩) (by first | omega | assumption | exact ⟨by omega, by omega⟩)) gX4_digestOn_X4_slotOf rfl ⟨rfl, hy_X4_slotOf⟩ ⟨by decide, by decide⟩ rfl (Nat.le_of_ble_eq_true rfl) ⟨by decide, by decide⟩ dX4_digestOn_17 rfl ?_
        refine kb_nmi (fun x6_4 ex6_4 => ?_)
        refine kb_istore (lv' := [(6, kb_i x6_4), (0, .ref (ad 4)), (1, kb_l (h0)), (3, kb_l (u)), (5, kb_i p1)]) X dX4_digestOn_20 (by decide) rfl ?_
        have wb := hwh x6_4
        have mb := sp_mulb wb.1.1 wb.1.2 wb.2.1 wb.2.2
        refine kb_iconst X dX4_digestOn_22 ?_
        refine kb_istore (lv' := [(7, kb_i 0), (6, kb_i x6_4), (0, .ref (ad 4)), (1, kb_l (h0)), (3, kb_l (u)), (5, kb_i p1)]) X dX4_digestOn_23 (by decide) rfl ?_
        have L25 : ∀ nn_ : Nat, ∀ (u2 k : Int), (300 - k).toNat < nn_ → (0 ≤ k ∧ k ≤ sp_rw M x6_4 * sp_rh M x6_4) → (u2 = sp_hs (fun k => sp_px M x6_4 k) u k.toNat) → kb_B p l e ({ frames := 2, cells := 0, slots := 0, locals := 43 } : Room) s m args below meth c D ad cy (kb_A ad s.heap.size) 8 0 0 (MQ below (va_Ql (fun (vq_ : Int64) (_ : Unit) => vq_ = kb_L (sp_hp M h0 (M 4 4).toNat)) (fun _ t => kb_en2 D ad cy (M) t) (kb_A ad s.heap.size)) args s 0 0 (kb_A ad s.heap.size)) 25 [(0, .ref (ad 4)), (1, kb_l (h0)), (3, kb_l (u2)), (5, kb_i p1), (6, kb_i x6_4), (7, kb_i k)] [] M := by
          intro nn_
          induction nn_ with
          | zero => intro u2 k hn; exact absurd hn (Nat.not_lt_zero _)
          | succ nn_ ih5 =>
            intro u2 k hn hI2 hK2
            refine kb_iload X 5 rfl dX4_digestOn_25 ?_
            refine kb_aload_n X 0 rfl dX4_digestOn_27 ?_
            refine kb_iload X 4 rfl dX4_digestOn_28 ?_
            refine kb_cVi X (rest := [kb_i k]) [kb_i x6_4] 4 (fl := [some 18, some 19, some 20, none, none]) (C := RX4) rfl rfl (c_X4_widthOf l D ad cy M x6_4 (by first | omega | assumption | exact ⟨by omega, by omega⟩)) gX4_digestOn_X4_widthOf rfl ⟨rfl, hy_X4_widthOf⟩ ⟨by decide, by decide⟩ rfl (Nat.le_of_ble_eq_true rfl) ⟨by decide, by decide⟩ dX4_digestOn_30 rfl ?_
            refine kb_aload_n X 0 rfl dX4_digestOn_33 ?_
            refine kb_iload X 4 rfl dX4_digestOn_34 ?_
            refine kb_cVi X (rest := [kb_i (sp_rw M x6_4), kb_i k]) [kb_i x6_4] 4 (fl := [some 18, some 19, some 20, none, none]) (C := RX4) rfl rfl (c_X4_heightOf l D ad cy M x6_4 (by first | omega | assumption | exact ⟨by omega, by omega⟩)) gX4_digestOn_X4_heightOf rfl ⟨rfl, hy_X4_heightOf⟩ ⟨by decide, by decide⟩ rfl (Nat.le_of_ble_eq_true rfl) ⟨by decide, by decide⟩ dX4_digestOn_36 rfl ?_
            refine kb_imul X dX4_digestOn_39 ?_
            refine kb_icmp_ge (tgt := 65) X ⟨by omega, by omega⟩ ⟨by omega, by omega⟩ dX4_digestOn_40 (by decide) (fun h6 => ?_) (fun h6 => ?_)
            ·
              refine kb_iinc (lv' := [(5, kb_i (p1 + 1)), (0, .ref (ad 4)), (1, kb_l (h0)), (3, kb_l (u2)), (6, kb_i x6_4), (7, kb_i k)]) X 3 rfl dX4_digestOn_65 rfl (by decide) rfl ?_
              refine kb_goto (tgt := 5) X dX4_digestOn_68 (by decide) ?_
              refine kb_sub [1, 2, 3, 0] (lv' := [(0, .ref (ad 4)), (1, kb_l (h0)), (3, kb_l (u2)), (5, kb_i (p1 + 1))]) rfl ?_
              exact ih1 u2 (p1 + 1) (by omega) (by first | omega | assumption | exact ⟨by omega, by omega⟩) (by rw [sp_hpS _ _ hI.1, ← hJ, hK2]; subst_vars; congr 1; omega)
            ·
              refine kb_ldc2 (v := 31) X (31) (by decide +kernel) (by decide) dX4_digestOn_43 ?_
              refine kb_lload_n X 2 rfl dX4_digestOn_46 ?_
              refine kb_lmul X dX4_digestOn_47 ?_
              refine kb_aload_n X 0 rfl dX4_digestOn_48 ?_
              refine kb_iload X 4 rfl dX4_digestOn_49 ?_
              refine kb_iload X 5 rfl dX4_digestOn_51 ?_
              refine kb_cVi X (rest := [kb_l (31 * u2)]) [kb_i x6_4, kb_i k] 4 (fl := [some 18, some 19, some 20, none, none]) (C := RX4) rfl rfl (c_X4_get l D ad cy M x6_4 k (by first | omega | assumption | exact ⟨by omega, by omega⟩) (by first | omega | assumption | exact ⟨by omega, by omega⟩)) gX4_digestOn_X4_get rfl ⟨rfl, hy_X4_get⟩ ⟨by decide, by decide⟩ rfl (Nat.le_of_ble_eq_true rfl) ⟨by decide, by decide⟩ dX4_digestOn_53 rfl ?_
              have q1 := sp_px_rg hM x6_4 k
              refine kb_i2l X ⟨by omega, by omega⟩ dX4_digestOn_56 ?_
              refine kb_ladd X dX4_digestOn_57 ?_
              refine kb_nml (fun x3_7 ex3_7 => ?_)
              refine kb_lstore_n (lv' := [(3, kb_l (x3_7)), (0, .ref (ad 4)), (1, kb_l (h0)), (5, kb_i p1), (6, kb_i x6_4), (7, kb_i k)]) X dX4_digestOn_58 (by decide) rfl ?_
              refine kb_iinc (lv' := [(7, kb_i (k + 1)), (3, kb_l (x3_7)), (0, .ref (ad 4)), (1, kb_l (h0)), (5, kb_i p1), (6, kb_i x6_4)]) X 5 rfl dX4_digestOn_59 rfl (by decide) rfl ?_
              refine kb_goto (tgt := 25) X dX4_digestOn_62 (by decide) ?_
              refine kb_sub [2, 3, 1, 4, 5, 0] (lv' := [(0, .ref (ad 4)), (1, kb_l (h0)), (3, kb_l (x3_7)), (5, kb_i p1), (6, kb_i x6_4), (7, kb_i (k + 1))]) rfl ?_
              exact ih5 x3_7 (k + 1) (by omega) (by omega) (by rw [sp_hsS _ _ hI2.1, ← hK2]; assumption)
        refine kb_sub [2, 3, 4, 5, 1, 0] (lv' := [(0, .ref (ad 4)), (1, kb_l (h0)), (3, kb_l (u)), (5, kb_i p1), (6, kb_i x6_4), (7, kb_i 0)]) rfl ?_
        exact L25 _ u 0 (Nat.lt_succ_self _) (by omega) (rfl)
  refine kb_sub [2, 3, 1, 0] (lv' := [(0, .ref (ad 4)), (1, kb_l (h0)), (3, kb_l (h0)), (5, kb_i 0)]) rfl ?_
  exact L5 _ h0 0 (Nat.lt_succ_self _) (by first | omega | assumption | exact ⟨by omega, by omega⟩) (rfl)
-- X5_has
theorem hf_X5_has_27 : Cond.fieldLink yX5_has.cls 27 RX5 "size" "I" ∈ wsX5_has := by decide +kernel
theorem hi_X5_has_X5 : ∀ w ∈ wsX50, w ∈ wsX5_has := by decide +kernel
theorem hy_X5_has : yX5_has.cls ≠ "java/lang/invoke/MethodHandle" ∧ yX5_has.cls ≠ "java/lang/invoke/VarHandle" ∧ (parseMethodDescriptor yX5_has.desc).map (fun d => d.parameters.length) = some 1 := by decide +kernel
set_option maxHeartbeats 4000000 in
set_option maxRecDepth 100000 in
theorem c_X5_has (l : Launch) (D : va_G) (ad : Nat → Nat) (cy : Nat → ClassId) (M : kb_M) (k : Int) (hk : -2147483648 ≤ k ∧ k < 2147483648) : kb_Ci l D ad cy yX5_has wsX5_has 0 0 [.ref (ad 2), kb_i k] M (kb_b (0 ≤ k ∧ k < M 2 5 ∧ k < 8)) (M) := by
  refine kb_mkCi (cc := cX5_has) (maxL := 2) (lv := [(0, .ref (ad 2)), (1, kb_i k)]) (plainFor_of_name (by decide)) rfl (Nat.le_of_ble_eq_true rfl) rfl ?_
  intro p e s m args below meth c X hr hlocks hM
  refine kb_iload_n X 1 rfl dX5_has_0 ?_
  refine kb_if_lt (tgt := 22) X ⟨by omega, by omega⟩ dX5_has_1 (by decide) (fun h1 => ?_) (fun h1 => ?_)
  ·
    refine kb_iconst X dX5_has_22 ?_
    exact kb_zret X hr hlocks (by first | exact Or.inl rfl | exact Or.inr rfl) dX5_has_23 (by first | rfl | assumption | omega | exact (kb_b1 (by omega)).symm | exact (kb_b0 (by omega)).symm) (by first | rfl | (exfalso; omega))
  ·
    refine kb_iload_n X 1 rfl dX5_has_4 ?_
    refine kb_aload_n X 0 rfl dX5_has_5 ?_
    refine kg_X5_size X hi_X5_has_X5 hf_X5_has_27 dX5_has_6 ?_
    have g2 : -2147483648 ≤ M 2 5 ∧ M 2 5 < 2147483648 := hM 2 5
    refine kb_icmp_ge (tgt := 22) X ⟨by omega, by omega⟩ ⟨by omega, by omega⟩ dX5_has_9 (by decide) (fun h3 => ?_) (fun h3 => ?_)
    ·
      refine kb_iconst X dX5_has_22 ?_
      exact kb_zret X hr hlocks (by first | exact Or.inl rfl | exact Or.inr rfl) dX5_has_23 (by first | rfl | assumption | omega | exact (kb_b1 (by omega)).symm | exact (kb_b0 (by omega)).symm) (by first | rfl | (exfalso; omega))
    ·
      refine kb_iload_n X 1 rfl dX5_has_12 ?_
      refine kb_bipush X (by decide) dX5_has_13 ?_
      refine kb_icmp_ge (tgt := 22) X ⟨by omega, by omega⟩ ⟨by decide, by decide⟩ dX5_has_15 (by decide) (fun h4 => ?_) (fun h4 => ?_)
      ·
        refine kb_iconst X dX5_has_22 ?_
        exact kb_zret X hr hlocks (by first | exact Or.inl rfl | exact Or.inr rfl) dX5_has_23 (by first | rfl | assumption | omega | exact (kb_b1 (by omega)).symm | exact (kb_b0 (by omega)).symm) (by first | rfl | (exfalso; omega))
      ·
        refine kb_iconst X dX5_has_18 ?_
        refine kb_goto (tgt := 23) X dX5_has_19 (by decide) ?_
        exact kb_zret X hr hlocks (by first | exact Or.inl rfl | exact Or.inr rfl) dX5_has_23 (by first | rfl | assumption | omega | exact (kb_b1 (by omega)).symm | exact (kb_b0 (by omega)).symm) (by first | rfl | (exfalso; omega))
-- X5_put
theorem hf_X5_put_11 : Cond.fieldLink yX5_put.cls 11 RX5 "xs" "[I" ∈ wsX5_put := by decide +kernel
theorem hf_X5_put_15 : Cond.fieldLink yX5_put.cls 15 RX5 "zs" "[I" ∈ wsX5_put := by decide +kernel
theorem hf_X5_put_18 : Cond.fieldLink yX5_put.cls 18 RX5 "strengths" "[I" ∈ wsX5_put := by decide +kernel
theorem hf_X5_put_21 : Cond.fieldLink yX5_put.cls 21 RX5 "dxs" "[I" ∈ wsX5_put := by decide +kernel
theorem hf_X5_put_24 : Cond.fieldLink yX5_put.cls 24 RX5 "dzs" "[I" ∈ wsX5_put := by decide +kernel
theorem hf_X5_put_27 : Cond.fieldLink yX5_put.cls 27 RX5 "size" "I" ∈ wsX5_put := by decide +kernel
theorem hi_X5_put_X5 : ∀ w ∈ wsX50, w ∈ wsX5_put := by decide +kernel
theorem hy_X5_put : yX5_put.cls ≠ "java/lang/invoke/MethodHandle" ∧ yX5_put.cls ≠ "java/lang/invoke/VarHandle" ∧ (parseMethodDescriptor yX5_put.desc).map (fun d => d.parameters.length) = some 5 := by decide +kernel
set_option maxHeartbeats 4000000 in
set_option maxRecDepth 100000 in
theorem c_X5_put (l : Launch) (D : va_G) (ad : Nat → Nat) (cy : Nat → ClassId) (M : kb_M) (x : Int) (z : Int) (t0 : Int) (dx : Int) (dz : Int) (hn : 0 ≤ M 2 5 ∧ M 2 5 < 8) (hx : -2147483648 ≤ x ∧ x < 2147483648) (hz : -2147483648 ≤ z ∧ z < 2147483648) (ht0 : -2147483648 ≤ t0 ∧ t0 < 2147483648) (hdx : -2147483648 ≤ dx ∧ dx < 2147483648) (hdz : -2147483648 ≤ dz ∧ dz < 2147483648) : kb_Ci l D ad cy yX5_put wsX5_put 0 0 [.ref (ad 2), kb_i x, kb_i z, kb_i t0, kb_i dx, kb_i dz] M (M 2 5) (kb_wr (kb_wr (kb_wr (kb_wr (kb_wr (kb_wr M 11 (M 2 5) x) 12 (M 2 5) z) 13 (M 2 5) t0) 14 (M 2 5) dx) 15 (M 2 5) dz) 2 5 (M 2 5 + 1)) := by
  refine kb_mkCi (cc := cX5_put) (maxL := 6) (lv := [(0, .ref (ad 2)), (1, kb_i x), (2, kb_i z), (3, kb_i t0), (4, kb_i dx), (5, kb_i dz)]) (plainFor_of_name (by decide)) rfl (Nat.le_of_ble_eq_true rfl) rfl ?_
  intro p e s m args below meth c X hr hlocks hM
  refine kb_aload_n X 0 rfl dX5_put_0 ?_
  refine kg_X5_size X hi_X5_put_X5 hf_X5_put_27 dX5_put_1 ?_
  have g1 : -2147483648 ≤ M 2 5 ∧ M 2 5 < 2147483648 := hM 2 5
  refine kb_if_lt (tgt := 16) X ⟨by omega, by omega⟩ dX5_put_4 (by decide) (fun h2 => ?_) (fun h2 => ?_)
  ·
    refine kb_bipush X (by decide) dX5_put_16 ?_
    exact kb_iret X hr hlocks dX5_put_18 (by first | rfl | assumption | omega | exact (kb_b1 (by omega)).symm | exact (kb_b0 (by omega)).symm) (by first | rfl | (exfalso; omega))
  ·
    refine kb_aload_n X 0 rfl dX5_put_7 ?_
    refine kg_X5_size X hi_X5_put_X5 hf_X5_put_27 dX5_put_8 ?_
    refine kb_bipush X (by decide) dX5_put_11 ?_
    refine kb_icmp_lt (tgt := 19) X ⟨by omega, by omega⟩ ⟨by decide, by decide⟩ dX5_put_13 (by decide) (fun h3 => ?_) (fun h3 => ?_)
    ·
      refine kb_aload_n X 0 rfl dX5_put_19 ?_
      refine kg_X5_xs X hi_X5_put_X5 hf_X5_put_11 dX5_put_20 ?_
      refine kb_aload_n X 0 rfl dX5_put_23 ?_
      refine kg_X5_size X hi_X5_put_X5 hf_X5_put_27 dX5_put_24 ?_
      refine kb_iload_n X 1 rfl dX5_put_27 ?_
      refine kb_iast X 11 (n := 8) rfl ⟨by omega, by omega⟩ (by decide) ⟨by omega, by omega⟩ dX5_put_28 ?_
      refine kb_aload_n X 0 rfl dX5_put_29 ?_
      refine kg_X5_zs X hi_X5_put_X5 hf_X5_put_15 dX5_put_30 ?_
      refine kb_aload_n X 0 rfl dX5_put_33 ?_
      refine kg_X5_size X hi_X5_put_X5 hf_X5_put_27 dX5_put_34 ?_
      refine kb_eqi (b := M 2 5) (by first | rfl | simp [kb_wr]) ?_
      refine kb_iload_n X 2 rfl dX5_put_37 ?_
      refine kb_iast X 12 (n := 8) rfl ⟨by omega, by omega⟩ (by decide) ⟨by omega, by omega⟩ dX5_put_38 ?_
      refine kb_aload_n X 0 rfl dX5_put_39 ?_
      refine kg_X5_strengths X hi_X5_put_X5 hf_X5_put_18 dX5_put_40 ?_
      refine kb_aload_n X 0 rfl dX5_put_43 ?_
      refine kg_X5_size X hi_X5_put_X5 hf_X5_put_27 dX5_put_44 ?_
      refine kb_eqi (b := M 2 5) (by first | rfl | simp [kb_wr]) ?_
      refine kb_iload_n X 3 rfl dX5_put_47 ?_
      refine kb_iast X 13 (n := 8) rfl ⟨by omega, by omega⟩ (by decide) ⟨by omega, by omega⟩ dX5_put_48 ?_
      refine kb_aload_n X 0 rfl dX5_put_49 ?_
      refine kg_X5_dxs X hi_X5_put_X5 hf_X5_put_21 dX5_put_50 ?_
      refine kb_aload_n X 0 rfl dX5_put_53 ?_
      refine kg_X5_size X hi_X5_put_X5 hf_X5_put_27 dX5_put_54 ?_
      refine kb_eqi (b := M 2 5) (by first | rfl | simp [kb_wr]) ?_
      refine kb_iload X 4 rfl dX5_put_57 ?_
      refine kb_iast X 14 (n := 8) rfl ⟨by omega, by omega⟩ (by decide) ⟨by omega, by omega⟩ dX5_put_59 ?_
      refine kb_aload_n X 0 rfl dX5_put_60 ?_
      refine kg_X5_dzs X hi_X5_put_X5 hf_X5_put_24 dX5_put_61 ?_
      refine kb_aload_n X 0 rfl dX5_put_64 ?_
      refine kg_X5_size X hi_X5_put_X5 hf_X5_put_27 dX5_put_65 ?_
      refine kb_eqi (b := M 2 5) (by first | rfl | simp [kb_wr]) ?_
      refine kb_iload X 5 rfl dX5_put_68 ?_
      refine kb_iast X 15 (n := 8) rfl ⟨by omega, by omega⟩ (by decide) ⟨by omega, by omega⟩ dX5_put_70 ?_
      refine kb_aload_n X 0 rfl dX5_put_71 ?_
      refine kb_dup X rfl dX5_put_72 ?_
      refine kg_X5_size X hi_X5_put_X5 hf_X5_put_27 dX5_put_73 ?_
      refine kb_eqi (b := M 2 5) (by first | rfl | simp [kb_wr]) ?_
      refine kb_iconst X dX5_put_76 ?_
      refine kb_iadd X dX5_put_77 ?_
      refine kp_X5_size X hi_X5_put_X5 hf_X5_put_27 ⟨by omega, by omega⟩ dX5_put_78 ?_
      refine kb_aload_n X 0 rfl dX5_put_81 ?_
      refine kg_X5_size X hi_X5_put_X5 hf_X5_put_27 dX5_put_82 ?_
      refine kb_eqi (b := ((M 2 5) + 1)) (by first | rfl | simp [kb_wr]) ?_
      refine kb_iconst X dX5_put_85 ?_
      refine kb_isub X dX5_put_86 ?_
      exact kb_iret X hr hlocks dX5_put_87 (by first | rfl | assumption | omega | exact (kb_b1 (by omega)).symm | exact (kb_b0 (by omega)).symm) (by first | rfl | (exfalso; omega))
    ·
      refine kb_bipush X (by decide) dX5_put_16 ?_
      exact kb_iret X hr hlocks dX5_put_18 (by first | rfl | assumption | omega | exact (kb_b1 (by omega)).symm | exact (kb_b0 (by omega)).symm) (by first | rfl | (exfalso; omega))
-- X5_move
theorem hf_X5_move_11 : Cond.fieldLink yX5_move.cls 11 RX5 "xs" "[I" ∈ wsX5_move := by decide +kernel
theorem hf_X5_move_15 : Cond.fieldLink yX5_move.cls 15 RX5 "zs" "[I" ∈ wsX5_move := by decide +kernel
theorem hf_X5_move_21 : Cond.fieldLink yX5_move.cls 21 RX5 "dxs" "[I" ∈ wsX5_move := by decide +kernel
theorem hf_X5_move_24 : Cond.fieldLink yX5_move.cls 24 RX5 "dzs" "[I" ∈ wsX5_move := by decide +kernel
theorem hf_X5_move_27 : Cond.fieldLink yX5_move.cls 27 RX5 "size" "I" ∈ wsX5_move := by decide +kernel
theorem hi_X5_move_X5 : ∀ w ∈ wsX50, w ∈ wsX5_move := by decide +kernel
theorem hy_X5_move : yX5_move.cls ≠ "java/lang/invoke/MethodHandle" ∧ yX5_move.cls ≠ "java/lang/invoke/VarHandle" ∧ (parseMethodDescriptor yX5_move.desc).map (fun d => d.parameters.length) = some 0 := by decide +kernel
theorem hm_X5_move_max : Cond.methodLink yX5_move.cls 37 Lib.Math.max.name ∈ wsX5_move ∧ Cond.static Lib.Math.max.name ∈ wsX5_move ∧ Cond.initialized "java/lang/Math" ∈ wsX5_move ∧ Cond.code Lib.Math.max.name Lib.Math.max.code 2 (some .int) ∈ wsX5_move := by decide +kernel
theorem hm_X5_move_min : Cond.methodLink yX5_move.cls 31 Lib.Math.min.name ∈ wsX5_move ∧ Cond.static Lib.Math.min.name ∈ wsX5_move ∧ Cond.initialized "java/lang/Math" ∈ wsX5_move ∧ Cond.code Lib.Math.min.name Lib.Math.min.code 2 (some .int) ∈ wsX5_move := by decide +kernel
set_option maxHeartbeats 4000000 in
set_option maxRecDepth 100000 in
theorem c_X5_move (l : Launch) (D : va_G) (ad : Nat → Nat) (cy : Nat → ClassId) (M : kb_M)  (hsc : sp_sc M) : kb_Cv l D ad cy yX5_move wsX5_move 1 24 [.ref (ad 2)] M (sp_mv M) := by
  refine kb_mkCv (cc := cX5_move) (maxL := 2) (lv := [(0, .ref (ad 2))]) (plainFor_of_name (by decide)) rfl (Nat.le_of_ble_eq_true rfl) rfl ?_
  intro p e s m args below meth c X hr hlocks hM
  have hn := hsc.1
  refine kb_iconst X dX5_move_0 ?_
  refine kb_istore_n (lv' := [(1, kb_i 0), (0, .ref (ad 2))]) X dX5_move_1 (by decide) rfl ?_
  have L2 : ∀ nn_ : Nat, ∀ (a : Int), (8 - a).toNat < nn_ → (0 ≤ a ∧ a ≤ M 2 5) → kb_B p l e ({ frames := 1, cells := 0, slots := 0, locals := 24 } : Room) s m args below meth c D ad cy (kb_A ad s.heap.size) 2 0 0 (MQ below (va_Qv (fun (_ : Unit) => True) (fun _ t => kb_en2 D ad cy (sp_mv M) t) (kb_A ad s.heap.size)) args s 0 0 (kb_A ad s.heap.size)) 2 [(0, .ref (ad 2)), (1, kb_i a)] [] ((sp_mvI M a)) := by
    intro nn_
    induction nn_ with
    | zero => intro a hn; exact absurd hn (Nat.not_lt_zero _)
    | succ nn_ ih1 =>
      intro a hn hI
      refine kb_iload_n X 1 rfl dX5_move_2 ?_
      refine kb_aload_n X 0 rfl dX5_move_3 ?_
      refine kg_X5_size X hi_X5_move_X5 hf_X5_move_27 dX5_move_4 ?_
      refine kb_eqi (b := M 2 5) (by first | rfl | simp [kb_wr, sp_mvI]) ?_
      have g2 : -2147483648 ≤ M 2 5 ∧ M 2 5 < 2147483648 := hM 2 5
      refine kb_icmp_ge (tgt := 82) X ⟨by omega, by omega⟩ ⟨by omega, by omega⟩ dX5_move_7 (by decide) (fun h3 => ?_) (fun h3 => ?_)
      ·
        exact kb_vret X hr hlocks dX5_move_82 (by (have e : a = M 2 5 := by omega); rw [e]; rfl)
      ·
        refine kb_iload_n X 1 rfl dX5_move_10 ?_
        refine kb_bipush X (by decide) dX5_move_11 ?_
        refine kb_icmp_ge (tgt := 82) X ⟨by omega, by omega⟩ ⟨by decide, by decide⟩ dX5_move_13 (by decide) (fun h4 => ?_) (fun h4 => ?_)
        ·
          exact kb_vret X hr hlocks dX5_move_82 (by (have e : a = M 2 5 := by omega); rw [e]; rfl)
        ·
          have sa := hsc.2 a (by omega) (by omega)
          refine kb_aload_n X 0 rfl dX5_move_16 ?_
          refine kg_X5_xs X hi_X5_move_X5 hf_X5_move_11 dX5_move_17 ?_
          refine kb_iload_n X 1 rfl dX5_move_20 ?_
          refine kb_sipush X (by decide) dX5_move_21 ?_
          refine kb_aload_n X 0 rfl dX5_move_24 ?_
          refine kg_X5_xs X hi_X5_move_X5 hf_X5_move_11 dX5_move_25 ?_
          refine kb_iload_n X 1 rfl dX5_move_28 ?_
          refine kb_iald X 11 (n := 8) rfl ⟨by omega, by omega⟩ (by decide) dX5_move_29 ?_
          refine kb_eqi (b := M 11 a) (by first | rfl | simp [kb_wr, sp_mvI]) ?_
          have g5 : -2147483648 ≤ M 11 a ∧ M 11 a < 2147483648 := hM 11 a
          refine kb_aload_n X 0 rfl dX5_move_30 ?_
          refine kg_X5_dxs X hi_X5_move_X5 hf_X5_move_21 dX5_move_31 ?_
          refine kb_iload_n X 1 rfl dX5_move_34 ?_
          refine kb_iald X 14 (n := 8) rfl ⟨by omega, by omega⟩ (by decide) dX5_move_35 ?_
          refine kb_eqi (b := M 14 a) (by first | rfl | simp [kb_wr, sp_mvI]) ?_
          have g6 : -2147483648 ≤ M 14 a ∧ M 14 a < 2147483648 := hM 14 a
          refine kb_iadd X dX5_move_36 ?_
          refine kb_sipush X (by decide) dX5_move_37 ?_
          refine kb_mmin X ⟨by omega, by omega⟩ ⟨by decide, by decide⟩ hm_X5_move_min.1 hm_X5_move_min.2.1 hm_X5_move_min.2.2.1 hm_X5_move_min.2.2.2 (by decide) (Nat.le_of_ble_eq_true rfl) (by decide) (by decide) dX5_move_40 ?_
          refine kb_mmax X ⟨by decide, by decide⟩ ⟨by omega, by omega⟩ hm_X5_move_max.1 hm_X5_move_max.2.1 hm_X5_move_max.2.2.1 hm_X5_move_max.2.2.2 (by decide) (Nat.le_of_ble_eq_true rfl) (by decide) (by decide) dX5_move_43 ?_
          refine kb_iast X 11 (n := 8) rfl ⟨by omega, by omega⟩ (by decide) ⟨by omega, by omega⟩ dX5_move_46 ?_
          refine kb_aload_n X 0 rfl dX5_move_47 ?_
          refine kg_X5_zs X hi_X5_move_X5 hf_X5_move_15 dX5_move_48 ?_
          refine kb_iload_n X 1 rfl dX5_move_51 ?_
          refine kb_iconst X dX5_move_52 ?_
          refine kb_aload_n X 0 rfl dX5_move_53 ?_
          refine kg_X5_zs X hi_X5_move_X5 hf_X5_move_15 dX5_move_54 ?_
          refine kb_iload_n X 1 rfl dX5_move_57 ?_
          refine kb_iald X 12 (n := 8) rfl ⟨by omega, by omega⟩ (by decide) dX5_move_58 ?_
          refine kb_eqi (b := M 12 a) (by first | rfl | simp [kb_wr, sp_mvI]) ?_
          have g7 : -2147483648 ≤ M 12 a ∧ M 12 a < 2147483648 := hM 12 a
          refine kb_aload_n X 0 rfl dX5_move_59 ?_
          refine kg_X5_dzs X hi_X5_move_X5 hf_X5_move_24 dX5_move_60 ?_
          refine kb_iload_n X 1 rfl dX5_move_63 ?_
          refine kb_iald X 15 (n := 8) rfl ⟨by omega, by omega⟩ (by decide) dX5_move_64 ?_
          refine kb_eqi (b := M 15 a) (by first | rfl | simp [kb_wr, sp_mvI]) ?_
          have g8 : -2147483648 ≤ M 15 a ∧ M 15 a < 2147483648 := hM 15 a
          refine kb_iadd X dX5_move_65 ?_
          refine kb_sipush X (by decide) dX5_move_66 ?_
          refine kb_mmin X ⟨by omega, by omega⟩ ⟨by decide, by decide⟩ hm_X5_move_min.1 hm_X5_move_min.2.1 hm_X5_move_min.2.2.1 hm_X5_move_min.2.2.2 (by decide) (Nat.le_of_ble_eq_true rfl) (by decide) (by decide) dX5_move_69 ?_
          refine kb_mmax X ⟨by decide, by decide⟩ ⟨by omega, by omega⟩ hm_X5_move_max.1 hm_X5_move_max.2.1 hm_X5_move_max.2.2.1 hm_X5_move_max.2.2.2 (by decide) (Nat.le_of_ble_eq_true rfl) (by decide) (by decide) dX5_move_72 ?_
          refine kb_iast X 12 (n := 8) rfl ⟨by omega, by omega⟩ (by decide) ⟨by omega, by omega⟩ dX5_move_75 ?_
          refine kb_iinc (lv' := [(1, kb_i (a + 1)), (0, .ref (ad 2))]) X 1 rfl dX5_move_76 rfl (by decide) rfl ?_
          refine kb_goto (tgt := 2) X dX5_move_79 (by decide) ?_
          refine kb_sub [1, 0] (lv' := [(0, .ref (ad 2)), (1, kb_i (a + 1))]) rfl ?_
          refine kb_eqM (M' := sp_mvI M (a + 1)) ((sp_mvI_S M a hI.1).symm) ?_
          exact ih1 (a + 1) (by omega) (by first | omega | assumption | exact ⟨by omega, by omega⟩)
  refine kb_sub [1, 0] (lv' := [(0, .ref (ad 2)), (1, kb_i 0)]) rfl ?_
  refine kb_eqM (M' := sp_mvI M 0) ((sp_mvI_0 M).symm) ?_
  exact L2 _ 0 (Nat.lt_succ_self _) (by first | omega | assumption | exact ⟨by omega, by omega⟩)
-- X0_begin
theorem hf_X0_begin_13 : Cond.fieldLink yX0_begin.cls 13 RX0 "step" "I" ∈ wsX0_begin := by decide +kernel
theorem hf_X0_begin_17 : Cond.fieldLink yX0_begin.cls 17 RX0 "lines" "I" ∈ wsX0_begin := by decide +kernel
theorem hf_X0_begin_20 : Cond.fieldLink yX0_begin.cls 20 RX0 "means" "I" ∈ wsX0_begin := by decide +kernel
theorem hi_X0_begin_X0 : ∀ w ∈ wsX00, w ∈ wsX0_begin := by decide +kernel
theorem hy_X0_begin : yX0_begin.cls ≠ "java/lang/invoke/MethodHandle" ∧ yX0_begin.cls ≠ "java/lang/invoke/VarHandle" ∧ (parseMethodDescriptor yX0_begin.desc).map (fun d => d.parameters.length) = some 3 := by decide +kernel
set_option maxHeartbeats 4000000 in
set_option maxRecDepth 100000 in
theorem c_X0_begin (l : Launch) (D : va_G) (ad : Nat → Nat) (cy : Nat → ClassId) (M : kb_M) (n : Int) (k : Int) (r0 : Int) (hn : -2147483648 ≤ n ∧ n < 2147483648) (hk : -2147483648 ≤ k ∧ k < 2147483648) (hr0 : -2147483648 ≤ r0 ∧ r0 < 2147483648) : kb_Cv l D ad cy yX0_begin wsX0_begin 0 0 [.ref (ad 5), kb_i n, kb_i k, kb_i r0] M (kb_wr (kb_wr (kb_wr M 5 1 n) 5 2 k) 5 3 r0) := by
  refine kb_mkCv (cc := cX0_begin) (maxL := 4) (lv := [(0, .ref (ad 5)), (1, kb_i n), (2, kb_i k), (3, kb_i r0)]) (plainFor_of_name (by decide)) rfl (Nat.le_of_ble_eq_true rfl) rfl ?_
  intro p e s m args below meth c X hr hlocks hM
  refine kb_aload_n X 0 rfl dX0_begin_0 ?_
  refine kb_iload_n X 1 rfl dX0_begin_1 ?_
  refine kp_X0_lines X hi_X0_begin_X0 hf_X0_begin_17 ⟨by omega, by omega⟩ dX0_begin_2 ?_
  refine kb_aload_n X 0 rfl dX0_begin_5 ?_
  refine kb_iload_n X 2 rfl dX0_begin_6 ?_
  refine kp_X0_means X hi_X0_begin_X0 hf_X0_begin_20 ⟨by omega, by omega⟩ dX0_begin_7 ?_
  refine kb_aload_n X 0 rfl dX0_begin_10 ?_
  refine kb_iload_n X 3 rfl dX0_begin_11 ?_
  refine kp_X0_step X hi_X0_begin_X0 hf_X0_begin_13 ⟨by omega, by omega⟩ dX0_begin_12 ?_
  exact kb_vret X hr hlocks dX0_begin_15 (by first | rfl | (exfalso; omega))
-- X0_has
theorem hf_X0_has_17 : Cond.fieldLink yX0_has.cls 17 RX0 "lines" "I" ∈ wsX0_has := by decide +kernel
theorem hf_X0_has_20 : Cond.fieldLink yX0_has.cls 20 RX0 "means" "I" ∈ wsX0_has := by decide +kernel
theorem hi_X0_has_X0 : ∀ w ∈ wsX00, w ∈ wsX0_has := by decide +kernel
theorem hy_X0_has : yX0_has.cls ≠ "java/lang/invoke/MethodHandle" ∧ yX0_has.cls ≠ "java/lang/invoke/VarHandle" ∧ (parseMethodDescriptor yX0_has.desc).map (fun d => d.parameters.length) = some 2 := by decide +kernel
set_option maxHeartbeats 4000000 in
set_option maxRecDepth 100000 in
theorem c_X0_has (l : Launch) (D : va_G) (ad : Nat → Nat) (cy : Nat → ClassId) (M : kb_M) (a : Int) (k : Int) (ha : -2147483648 ≤ a ∧ a < 2147483648) (hk : -2147483648 ≤ k ∧ k < 2147483648) : kb_Ci l D ad cy yX0_has wsX0_has 0 0 [.ref (ad 5), kb_i a, kb_i k] M (kb_b (0 ≤ a ∧ a < M 5 1 ∧ a < 9 ∧ 0 ≤ k ∧ k < M 5 2 ∧ k < 16)) (M) := by
  refine kb_mkCi (cc := cX0_has) (maxL := 3) (lv := [(0, .ref (ad 5)), (1, kb_i a), (2, kb_i k)]) (plainFor_of_name (by decide)) rfl (Nat.le_of_ble_eq_true rfl) rfl ?_
  intro p e s m args below meth c X hr hlocks hM
  refine kb_iload_n X 1 rfl dX0_has_0 ?_
  refine kb_if_lt (tgt := 40) X ⟨by omega, by omega⟩ dX0_has_1 (by decide) (fun h1 => ?_) (fun h1 => ?_)
  ·
    refine kb_iconst X dX0_has_40 ?_
    exact kb_zret X hr hlocks (by first | exact Or.inl rfl | exact Or.inr rfl) dX0_has_41 (by first | rfl | assumption | omega | exact (kb_b1 (by omega)).symm | exact (kb_b0 (by omega)).symm) (by first | rfl | (exfalso; omega))
  ·
    refine kb_iload_n X 1 rfl dX0_has_4 ?_
    refine kb_aload_n X 0 rfl dX0_has_5 ?_
    refine kg_X0_lines X hi_X0_has_X0 hf_X0_has_17 dX0_has_6 ?_
    have g2 : -2147483648 ≤ M 5 1 ∧ M 5 1 < 2147483648 := hM 5 1
    refine kb_icmp_ge (tgt := 40) X ⟨by omega, by omega⟩ ⟨by omega, by omega⟩ dX0_has_9 (by decide) (fun h3 => ?_) (fun h3 => ?_)
    ·
      refine kb_iconst X dX0_has_40 ?_
      exact kb_zret X hr hlocks (by first | exact Or.inl rfl | exact Or.inr rfl) dX0_has_41 (by first | rfl | assumption | omega | exact (kb_b1 (by omega)).symm | exact (kb_b0 (by omega)).symm) (by first | rfl | (exfalso; omega))
    ·
      refine kb_iload_n X 1 rfl dX0_has_12 ?_
      refine kb_bipush X (by decide) dX0_has_13 ?_
      refine kb_icmp_ge (tgt := 40) X ⟨by omega, by omega⟩ ⟨by decide, by decide⟩ dX0_has_15 (by decide) (fun h4 => ?_) (fun h4 => ?_)
      ·
        refine kb_iconst X dX0_has_40 ?_
        exact kb_zret X hr hlocks (by first | exact Or.inl rfl | exact Or.inr rfl) dX0_has_41 (by first | rfl | assumption | omega | exact (kb_b1 (by omega)).symm | exact (kb_b0 (by omega)).symm) (by first | rfl | (exfalso; omega))
      ·
        refine kb_iload_n X 2 rfl dX0_has_18 ?_
        refine kb_if_lt (tgt := 40) X ⟨by omega, by omega⟩ dX0_has_19 (by decide) (fun h5 => ?_) (fun h5 => ?_)
        ·
          refine kb_iconst X dX0_has_40 ?_
          exact kb_zret X hr hlocks (by first | exact Or.inl rfl | exact Or.inr rfl) dX0_has_41 (by first | rfl | assumption | omega | exact (kb_b1 (by omega)).symm | exact (kb_b0 (by omega)).symm) (by first | rfl | (exfalso; omega))
        ·
          refine kb_iload_n X 2 rfl dX0_has_22 ?_
          refine kb_aload_n X 0 rfl dX0_has_23 ?_
          refine kg_X0_means X hi_X0_has_X0 hf_X0_has_20 dX0_has_24 ?_
          have g6 : -2147483648 ≤ M 5 2 ∧ M 5 2 < 2147483648 := hM 5 2
          refine kb_icmp_ge (tgt := 40) X ⟨by omega, by omega⟩ ⟨by omega, by omega⟩ dX0_has_27 (by decide) (fun h7 => ?_) (fun h7 => ?_)
          ·
            refine kb_iconst X dX0_has_40 ?_
            exact kb_zret X hr hlocks (by first | exact Or.inl rfl | exact Or.inr rfl) dX0_has_41 (by first | rfl | assumption | omega | exact (kb_b1 (by omega)).symm | exact (kb_b0 (by omega)).symm) (by first | rfl | (exfalso; omega))
          ·
            refine kb_iload_n X 2 rfl dX0_has_30 ?_
            refine kb_bipush X (by decide) dX0_has_31 ?_
            refine kb_icmp_ge (tgt := 40) X ⟨by omega, by omega⟩ ⟨by decide, by decide⟩ dX0_has_33 (by decide) (fun h8 => ?_) (fun h8 => ?_)
            ·
              refine kb_iconst X dX0_has_40 ?_
              exact kb_zret X hr hlocks (by first | exact Or.inl rfl | exact Or.inr rfl) dX0_has_41 (by first | rfl | assumption | omega | exact (kb_b1 (by omega)).symm | exact (kb_b0 (by omega)).symm) (by first | rfl | (exfalso; omega))
            ·
              refine kb_iconst X dX0_has_36 ?_
              refine kb_goto (tgt := 41) X dX0_has_37 (by decide) ?_
              exact kb_zret X hr hlocks (by first | exact Or.inl rfl | exact Or.inr rfl) dX0_has_41 (by first | rfl | assumption | omega | exact (kb_b1 (by omega)).symm | exact (kb_b0 (by omega)).symm) (by first | rfl | (exfalso; omega))
-- X0_get
theorem hf_X0_get_9 : Cond.fieldLink yX0_get.cls 9 RX0 "values" "[I" ∈ wsX0_get := by decide +kernel
theorem hi_X0_get_X0 : ∀ w ∈ wsX00, w ∈ wsX0_get := by decide +kernel
theorem hy_X0_get : yX0_get.cls ≠ "java/lang/invoke/MethodHandle" ∧ yX0_get.cls ≠ "java/lang/invoke/VarHandle" ∧ (parseMethodDescriptor yX0_get.desc).map (fun d => d.parameters.length) = some 2 := by decide +kernel
set_option maxHeartbeats 4000000 in
set_option maxRecDepth 100000 in
theorem c_X0_get (l : Launch) (D : va_G) (ad : Nat → Nat) (cy : Nat → ClassId) (M : kb_M) (a : Int) (k : Int) (ha : -2147483648 ≤ a ∧ a < 2147483648) (hk : -2147483648 ≤ k ∧ k < 2147483648) : kb_Ci l D ad cy yX0_get wsX0_get 1 22 [.ref (ad 5), kb_i a, kb_i k] M (sp_fv M a k) (M) := by
  refine kb_mkCi (cc := cX0_get) (maxL := 3) (lv := [(0, .ref (ad 5)), (1, kb_i a), (2, kb_i k)]) (plainFor_of_name (by decide)) rfl (Nat.le_of_ble_eq_true rfl) rfl ?_
  intro p e s m args below meth c X hr hlocks hM
  refine kb_aload_n X 0 rfl dX0_get_0 ?_
  refine kb_iload_n X 1 rfl dX0_get_1 ?_
  refine kb_iload_n X 2 rfl dX0_get_2 ?_
  refine kb_cVi X (rest := []) [kb_i a, kb_i k] 5 (fl := [some 21, none, none, none]) (C := RX0) rfl rfl (c_X0_has l D ad cy M a k (by first | omega | assumption | exact ⟨by omega, by omega⟩) (by first | omega | assumption | exact ⟨by omega, by omega⟩)) gX0_get_X0_has rfl ⟨rfl, hy_X0_has⟩ ⟨by decide, by decide⟩ rfl (Nat.le_of_ble_eq_true rfl) ⟨by decide, by decide⟩ dX0_get_3 rfl ?_
  refine kb_ifb_eq (tgt := 23) X dX0_get_6 (by decide) (fun h1 => ?_) (fun h1 => ?_)
  ·
    refine kb_iconst X dX0_get_23 ?_
    exact kb_iret X hr hlocks dX0_get_24 (by unfold sp_fv; first | rw [if_pos (by omega)] | rw [if_neg (by omega)]) (by first | rfl | (exfalso; omega))
  ·
    refine kb_aload_n X 0 rfl dX0_get_9 ?_
    refine kg_X0_values X hi_X0_get_X0 hf_X0_get_9 dX0_get_10 ?_
    refine kb_iload_n X 1 rfl dX0_get_13 ?_
    refine kb_bipush X (by decide) dX0_get_14 ?_
    refine kb_imul X dX0_get_16 ?_
    refine kb_iload_n X 2 rfl dX0_get_17 ?_
    refine kb_iadd X dX0_get_18 ?_
    refine kb_iald X 21 (n := 144) rfl ⟨by omega, by omega⟩ (by decide) dX0_get_19 ?_
    have g2 : -2147483648 ≤ M 21 ((a * 16) + k) ∧ M 21 ((a * 16) + k) < 2147483648 := hM 21 ((a * 16) + k)
    refine kb_goto (tgt := 24) X dX0_get_20 (by decide) ?_
    exact kb_iret X hr hlocks dX0_get_24 (by unfold sp_fv; first | rw [if_pos (by omega)] | rw [if_neg (by omega)]) (by first | rfl | (exfalso; omega))
-- X0_set
theorem hf_X0_set_9 : Cond.fieldLink yX0_set.cls 9 RX0 "values" "[I" ∈ wsX0_set := by decide +kernel
theorem hi_X0_set_X0 : ∀ w ∈ wsX00, w ∈ wsX0_set := by decide +kernel
theorem hy_X0_set : yX0_set.cls ≠ "java/lang/invoke/MethodHandle" ∧ yX0_set.cls ≠ "java/lang/invoke/VarHandle" ∧ (parseMethodDescriptor yX0_set.desc).map (fun d => d.parameters.length) = some 3 := by decide +kernel
set_option maxHeartbeats 4000000 in
set_option maxRecDepth 100000 in
theorem c_X0_set (l : Launch) (D : va_G) (ad : Nat → Nat) (cy : Nat → ClassId) (M : kb_M) (a : Int) (k : Int) (v0 : Int) (hc : 0 ≤ a ∧ a < M 5 1 ∧ a < 9 ∧ 0 ≤ k ∧ k < M 5 2 ∧ k < 16) (hv0 : -2147483648 ≤ v0 ∧ v0 < 2147483648) : kb_Cv l D ad cy yX0_set wsX0_set 1 22 [.ref (ad 5), kb_i a, kb_i k, kb_i v0] M (kb_wr M 21 (a * 16 + k) v0) := by
  refine kb_mkCv (cc := cX0_set) (maxL := 4) (lv := [(0, .ref (ad 5)), (1, kb_i a), (2, kb_i k), (3, kb_i v0)]) (plainFor_of_name (by decide)) rfl (Nat.le_of_ble_eq_true rfl) rfl ?_
  intro p e s m args below meth c X hr hlocks hM
  refine kb_aload_n X 0 rfl dX0_set_0 ?_
  refine kb_iload_n X 1 rfl dX0_set_1 ?_
  refine kb_iload_n X 2 rfl dX0_set_2 ?_
  refine kb_cVi X (rest := []) [kb_i a, kb_i k] 5 (fl := [some 21, none, none, none]) (C := RX0) rfl rfl (c_X0_has l D ad cy M a k (by first | omega | assumption | exact ⟨by omega, by omega⟩) (by first | omega | assumption | exact ⟨by omega, by omega⟩)) gX0_set_X0_has rfl ⟨rfl, hy_X0_has⟩ ⟨by decide, by decide⟩ rfl (Nat.le_of_ble_eq_true rfl) ⟨by decide, by decide⟩ dX0_set_3 rfl ?_
  refine kb_ifb_eq (tgt := 21) X dX0_set_6 (by decide) (fun h1 => ?_) (fun h1 => ?_)
  ·
    exact kb_vret X hr hlocks dX0_set_21 (by first | rfl | (exfalso; omega))
  ·
    refine kb_aload_n X 0 rfl dX0_set_9 ?_
    refine kg_X0_values X hi_X0_set_X0 hf_X0_set_9 dX0_set_10 ?_
    refine kb_iload_n X 1 rfl dX0_set_13 ?_
    refine kb_bipush X (by decide) dX0_set_14 ?_
    refine kb_imul X dX0_set_16 ?_
    refine kb_iload_n X 2 rfl dX0_set_17 ?_
    refine kb_iadd X dX0_set_18 ?_
    refine kb_iload_n X 3 rfl dX0_set_19 ?_
    refine kb_iast X 21 (n := 144) rfl ⟨by omega, by omega⟩ (by decide) ⟨by omega, by omega⟩ dX0_set_20 ?_
    exact kb_vret X hr hlocks dX0_set_21 (by first | rfl | (exfalso; omega))
-- X0_middle
theorem hf_X0_middle_17 : Cond.fieldLink yX0_middle.cls 17 RX0 "lines" "I" ∈ wsX0_middle := by decide +kernel
theorem hi_X0_middle_X0 : ∀ w ∈ wsX00, w ∈ wsX0_middle := by decide +kernel
theorem hy_X0_middle : yX0_middle.cls ≠ "java/lang/invoke/MethodHandle" ∧ yX0_middle.cls ≠ "java/lang/invoke/VarHandle" ∧ (parseMethodDescriptor yX0_middle.desc).map (fun d => d.parameters.length) = some 0 := by decide +kernel
set_option maxHeartbeats 4000000 in
set_option maxRecDepth 100000 in
theorem c_X0_middle (l : Launch) (D : va_G) (ad : Nat → Nat) (cy : Nat → ClassId) (M : kb_M)  (hl : 1 ≤ M 5 1 ∧ M 5 1 ≤ 9) : kb_Ci l D ad cy yX0_middle wsX0_middle 0 0 [.ref (ad 5)] M ((M 5 1 - 1) / 2) (M) := by
  refine kb_mkCi (cc := cX0_middle) (maxL := 1) (lv := [(0, .ref (ad 5))]) (plainFor_of_name (by decide)) rfl (Nat.le_of_ble_eq_true rfl) rfl ?_
  intro p e s m args below meth c X hr hlocks hM
  refine kb_aload_n X 0 rfl dX0_middle_0 ?_
  refine kg_X0_lines X hi_X0_middle_X0 hf_X0_middle_17 dX0_middle_1 ?_
  have g1 : -2147483648 ≤ M 5 1 ∧ M 5 1 < 2147483648 := hM 5 1
  refine kb_iconst X dX0_middle_4 ?_
  refine kb_isub X dX0_middle_5 ?_
  refine kb_iconst X dX0_middle_6 ?_
  refine kb_idiv X ⟨by omega, by omega⟩ ⟨by decide, by decide⟩ (by omega) dX0_middle_7 ?_
  refine kb_eqi (b := ((M 5 1) - 1) / 2) (kb_td (by omega)) ?_
  exact kb_iret X hr hlocks dX0_middle_8 (by first | rfl | assumption | omega | exact (kb_b1 (by omega)).symm | exact (kb_b0 (by omega)).symm) (by first | rfl | (exfalso; omega))
-- X0_xOf
theorem hf_X0_xOf_13 : Cond.fieldLink yX0_xOf.cls 13 RX0 "step" "I" ∈ wsX0_xOf := by decide +kernel
theorem hi_X0_xOf_X0 : ∀ w ∈ wsX00, w ∈ wsX0_xOf := by decide +kernel
theorem hy_X0_xOf : yX0_xOf.cls ≠ "java/lang/invoke/MethodHandle" ∧ yX0_xOf.cls ≠ "java/lang/invoke/VarHandle" ∧ (parseMethodDescriptor yX0_xOf.desc).map (fun d => d.parameters.length) = some 2 := by decide +kernel
set_option maxHeartbeats 4000000 in
set_option maxRecDepth 100000 in
theorem c_X0_xOf (l : Launch) (D : va_G) (ad : Nat → Nat) (cy : Nat → ClassId) (M : kb_M) (a : Int) (k : Int) (hl : 1 ≤ M 5 1 ∧ M 5 1 ≤ 9) (hr5 : 1 ≤ M 5 3 ∧ M 5 3 ≤ 250) (ha : 0 ≤ a ∧ a < 9) (hk : 0 ≤ k ∧ k < 16) : kb_Ci l D ad cy yX0_xOf wsX0_xOf 1 20 [.ref (ad 5), kb_i a, kb_i k] M (sp_xo M a k) (M) := by
  refine kb_mkCi (cc := cX0_xOf) (maxL := 3) (lv := [(0, .ref (ad 5)), (1, kb_i a), (2, kb_i k)]) (plainFor_of_name (by decide)) rfl (Nat.le_of_ble_eq_true rfl) rfl ?_
  intro p e s m args below meth c X hr hlocks hM
  refine kb_iload_n X 2 rfl dX0_xOf_0 ?_
  refine kb_aload_n X 0 rfl dX0_xOf_1 ?_
  refine kg_X0_step X hi_X0_xOf_X0 hf_X0_xOf_13 dX0_xOf_2 ?_
  have g1 : -2147483648 ≤ M 5 3 ∧ M 5 3 < 2147483648 := hM 5 3
  refine kb_imul X dX0_xOf_5 ?_
  refine kb_iload_n X 1 rfl dX0_xOf_6 ?_
  refine kb_aload_n X 0 rfl dX0_xOf_7 ?_
  refine kb_cVi X (rest := [kb_i a, kb_i (k * (M 5 3))]) [] 5 (fl := [some 21, none, none, none]) (C := RX0) rfl rfl (c_X0_middle l D ad cy M  (by first | omega | assumption | exact ⟨by omega, by omega⟩)) gX0_xOf_X0_middle rfl ⟨rfl, hy_X0_middle⟩ ⟨by decide, by decide⟩ rfl (Nat.le_of_ble_eq_true rfl) ⟨by decide, by decide⟩ dX0_xOf_8 rfl ?_
  refine kb_isub X dX0_xOf_11 ?_
  refine kb_imul X dX0_xOf_12 ?_
  have xb := sp_xob M hl hr5 ha hk
  refine kb_bipush X (by decide) dX0_xOf_13 ?_
  refine kb_idiv X ⟨by omega, by omega⟩ ⟨by decide, by decide⟩ (by omega) dX0_xOf_15 ?_
  exact kb_iret X hr hlocks dX0_xOf_16 (by rfl) (by first | rfl | (exfalso; omega))
-- X0_laidAt
theorem hf_X0_laidAt_13 : Cond.fieldLink yX0_laidAt.cls 13 RX0 "step" "I" ∈ wsX0_laidAt := by decide +kernel
theorem hf_X0_laidAt_17 : Cond.fieldLink yX0_laidAt.cls 17 RX0 "lines" "I" ∈ wsX0_laidAt := by decide +kernel
theorem hf_X0_laidAt_20 : Cond.fieldLink yX0_laidAt.cls 20 RX0 "means" "I" ∈ wsX0_laidAt := by decide +kernel
theorem hi_X0_laidAt_X0 : ∀ w ∈ wsX00, w ∈ wsX0_laidAt := by decide +kernel
theorem hy_X0_laidAt : yX0_laidAt.cls ≠ "java/lang/invoke/MethodHandle" ∧ yX0_laidAt.cls ≠ "java/lang/invoke/VarHandle" ∧ (parseMethodDescriptor yX0_laidAt.desc).map (fun d => d.parameters.length) = some 2 := by decide +kernel
set_option maxHeartbeats 4000000 in
set_option maxRecDepth 100000 in
theorem c_X0_laidAt (l : Launch) (D : va_G) (ad : Nat → Nat) (cy : Nat → ClassId) (M : kb_M) (x : Int) (z : Int) (hl : 1 ≤ M 5 1 ∧ M 5 1 ≤ 9) (hk : 1 ≤ M 5 2 ∧ M 5 2 ≤ 16) (hr5 : 1 ≤ M 5 3 ∧ M 5 3 ≤ 250) (hx : -20000 ≤ x ∧ x ≤ 20000) (hz : 0 ≤ z ∧ z ≤ 10000) (hfb : sp_fb M) : kb_Ci l D ad cy yX0_laidAt wsX0_laidAt 2 44 [.ref (ad 5), kb_i x, kb_i z] M (sp_la M x z) (M) := by
  refine kb_mkCi (cc := cX0_laidAt) (maxL := 11) (lv := [(0, .ref (ad 5)), (1, kb_i x), (2, kb_i z)]) (plainFor_of_name (by decide)) rfl (Nat.le_of_ble_eq_true rfl) rfl ?_
  intro p e s m args below meth c X hr hlocks hM
  refine kb_aload_n X 0 rfl dX0_laidAt_0 ?_
  refine kg_X0_step X hi_X0_laidAt_X0 hf_X0_laidAt_13 dX0_laidAt_1 ?_
  have g1 : -2147483648 ≤ M 5 3 ∧ M 5 3 < 2147483648 := hM 5 3
  refine kb_iconst X dX0_laidAt_4 ?_
  refine kb_icmp_ge (tgt := 10) X ⟨by omega, by omega⟩ ⟨by decide, by decide⟩ dX0_laidAt_5 (by decide) (fun h2 => ?_) (fun h2 => ?_)
  ·
    have db := sp_divb (z := 16 * z) (f := M 5 3) hr5.1 (by omega)
    refine kb_bipush X (by decide) dX0_laidAt_10 ?_
    refine kb_iload_n X 2 rfl dX0_laidAt_12 ?_
    refine kb_imul X dX0_laidAt_13 ?_
    refine kb_aload_n X 0 rfl dX0_laidAt_14 ?_
    refine kg_X0_step X hi_X0_laidAt_X0 hf_X0_laidAt_13 dX0_laidAt_15 ?_
    refine kb_idiv X ⟨by omega, by omega⟩ ⟨by omega, by omega⟩ (by omega) dX0_laidAt_18 ?_
    refine kb_eqi (b := (16 * z) / (M 5 3)) (kb_td (by omega)) ?_
    refine kb_nmi (fun x3_3 ex3_3 => ?_)
    refine kb_istore_n (lv' := [(3, kb_i x3_3), (0, .ref (ad 5)), (1, kb_i x), (2, kb_i z)]) X dX0_laidAt_19 (by decide) rfl ?_
    refine kb_bipush X (by decide) dX0_laidAt_20 ?_
    refine kb_aload_n X 1 rfl dX0_laidAt_22 ?_
    refine kb_cVi X (rest := [kb_i 16]) [] 5 (fl := [some 21, none, none, none]) (C := RX0) rfl rfl (c_X0_middle l D ad cy M  (by first | omega | assumption | exact ⟨by omega, by omega⟩)) gX0_laidAt_X0_middle rfl ⟨rfl, hy_X0_middle⟩ ⟨by decide, by decide⟩ rfl (Nat.le_of_ble_eq_true rfl) ⟨by decide, by decide⟩ dX0_laidAt_23 rfl ?_
    refine kb_imul X dX0_laidAt_26 ?_
    refine kb_iload_n X 3 rfl dX0_laidAt_27 ?_
    refine kb_if_ne (tgt := 35) X ⟨by omega, by omega⟩ dX0_laidAt_28 (by decide) (fun h4 => ?_) (fun h4 => ?_)
    ·
      refine kb_sipush X (by decide) dX0_laidAt_35 ?_
      refine kb_iload_n X 2 rfl dX0_laidAt_38 ?_
      refine kb_imul X dX0_laidAt_39 ?_
      refine kb_iload_n X 3 rfl dX0_laidAt_40 ?_
      refine kb_idiv X ⟨by omega, by omega⟩ ⟨by omega, by omega⟩ (by omega) dX0_laidAt_41 ?_
      have tb := sp_tdb (x := 128 * x) (z := z) (b := 2560000) (by omega) (by omega)
      refine kb_iadd X dX0_laidAt_42 ?_
      refine kb_nmi (fun x4_5 ex4_5 => ?_)
      refine kb_istore (lv' := [(4, kb_i x4_5), (3, kb_i x3_3), (0, .ref (ad 5)), (1, kb_i x), (2, kb_i z)]) X dX0_laidAt_43 (by decide) rfl ?_
      refine kb_iload X 0 rfl dX0_laidAt_45 ?_
      refine kb_if_lt (tgt := 81) X ⟨by omega, by omega⟩ dX0_laidAt_47 (by decide) (fun h6 => ?_) (fun h6 => ?_)
      ·
        refine kb_iconst X dX0_laidAt_81 ?_
        exact kb_iret X hr hlocks dX0_laidAt_82 (by exact sp_la_0 (wd := x4_5) (dp := x3_3) (by unfold sp_wd; first | (rw [if_pos (by omega)]; omega) | (rw [if_neg (by omega)]; omega)) (by omega) (by omega)) (by first | rfl | (exfalso; omega))
      ·
        refine kb_iload X 0 rfl dX0_laidAt_50 ?_
        refine kb_bipush X (by decide) dX0_laidAt_52 ?_
        refine kb_aload_n X 2 rfl dX0_laidAt_54 ?_
        refine kg_X0_lines X hi_X0_laidAt_X0 hf_X0_laidAt_17 dX0_laidAt_55 ?_
        have g7 : -2147483648 ≤ M 5 1 ∧ M 5 1 < 2147483648 := hM 5 1
        refine kb_iconst X dX0_laidAt_58 ?_
        refine kb_isub X dX0_laidAt_59 ?_
        refine kb_imul X dX0_laidAt_60 ?_
        refine kb_icmp_gt (tgt := 81) X ⟨by omega, by omega⟩ ⟨by omega, by omega⟩ dX0_laidAt_61 (by decide) (fun h8 => ?_) (fun h8 => ?_)
        ·
          refine kb_iconst X dX0_laidAt_81 ?_
          exact kb_iret X hr hlocks dX0_laidAt_82 (by exact sp_la_0 (wd := x4_5) (dp := x3_3) (by unfold sp_wd; first | (rw [if_pos (by omega)]; omega) | (rw [if_neg (by omega)]; omega)) (by omega) (by omega)) (by first | rfl | (exfalso; omega))
        ·
          refine kb_iload_n X 1 rfl dX0_laidAt_64 ?_
          refine kb_if_lt (tgt := 81) X ⟨by omega, by omega⟩ dX0_laidAt_65 (by decide) (fun h9 => ?_) (fun h9 => ?_)
          ·
            refine kb_iconst X dX0_laidAt_81 ?_
            exact kb_iret X hr hlocks dX0_laidAt_82 (by exact sp_la_0 (wd := x4_5) (dp := x3_3) (by unfold sp_wd; first | (rw [if_pos (by omega)]; omega) | (rw [if_neg (by omega)]; omega)) (by omega) (by omega)) (by first | rfl | (exfalso; omega))
          ·
            refine kb_iload_n X 1 rfl dX0_laidAt_68 ?_
            refine kb_bipush X (by decide) dX0_laidAt_69 ?_
            refine kb_aload_n X 2 rfl dX0_laidAt_71 ?_
            refine kg_X0_means X hi_X0_laidAt_X0 hf_X0_laidAt_20 dX0_laidAt_72 ?_
            have g10 : -2147483648 ≤ M 5 2 ∧ M 5 2 < 2147483648 := hM 5 2
            refine kb_iconst X dX0_laidAt_75 ?_
            refine kb_isub X dX0_laidAt_76 ?_
            refine kb_imul X dX0_laidAt_77 ?_
            refine kb_icmp_le (tgt := 83) X ⟨by omega, by omega⟩ ⟨by omega, by omega⟩ dX0_laidAt_78 (by decide) (fun h11 => ?_) (fun h11 => ?_)
            ·
              refine kb_iload_n X 1 rfl dX0_laidAt_83 ?_
              refine kb_bipush X (by decide) dX0_laidAt_84 ?_
              refine kb_idiv X ⟨by omega, by omega⟩ ⟨by decide, by decide⟩ (by omega) dX0_laidAt_86 ?_
              refine kb_eqi (b := x3_3 / 16) (kb_td (by omega)) ?_
              refine kb_nmi (fun x5_12 ex5_12 => ?_)
              refine kb_istore (lv' := [(5, kb_i x5_12), (4, kb_i x4_5), (3, kb_i x3_3), (0, .ref (ad 5)), (1, kb_i x), (2, kb_i z)]) X dX0_laidAt_87 (by decide) rfl ?_
              refine kb_iload_n X 2 rfl dX0_laidAt_89 ?_
              refine kb_bipush X (by decide) dX0_laidAt_90 ?_
              refine kb_irem X ⟨by omega, by omega⟩ ⟨by decide, by decide⟩ (by omega) dX0_laidAt_92 ?_
              refine kb_eqi (b := x3_3 % 16) (kb_tm (by omega)) ?_
              refine kb_nmi (fun x6_13 ex6_13 => ?_)
              refine kb_istore (lv' := [(6, kb_i x6_13), (5, kb_i x5_12), (4, kb_i x4_5), (3, kb_i x3_3), (0, .ref (ad 5)), (1, kb_i x), (2, kb_i z)]) X dX0_laidAt_93 (by decide) rfl ?_
              refine kb_iload X 2 rfl dX0_laidAt_95 ?_
              refine kb_bipush X (by decide) dX0_laidAt_97 ?_
              refine kb_idiv X ⟨by omega, by omega⟩ ⟨by decide, by decide⟩ (by omega) dX0_laidAt_99 ?_
              refine kb_eqi (b := x4_5 / 16) (kb_td (by omega)) ?_
              refine kb_nmi (fun x7_14 ex7_14 => ?_)
              refine kb_istore (lv' := [(7, kb_i x7_14), (6, kb_i x6_13), (5, kb_i x5_12), (4, kb_i x4_5), (3, kb_i x3_3), (0, .ref (ad 5)), (1, kb_i x), (2, kb_i z)]) X dX0_laidAt_100 (by decide) rfl ?_
              refine kb_iload X 3 rfl dX0_laidAt_102 ?_
              refine kb_bipush X (by decide) dX0_laidAt_104 ?_
              refine kb_irem X ⟨by omega, by omega⟩ ⟨by decide, by decide⟩ (by omega) dX0_laidAt_106 ?_
              refine kb_eqi (b := x4_5 % 16) (kb_tm (by omega)) ?_
              refine kb_nmi (fun x8_15 ex8_15 => ?_)
              refine kb_istore (lv' := [(8, kb_i x8_15), (7, kb_i x7_14), (6, kb_i x6_13), (5, kb_i x5_12), (4, kb_i x4_5), (3, kb_i x3_3), (0, .ref (ad 5)), (1, kb_i x), (2, kb_i z)]) X dX0_laidAt_107 (by decide) rfl ?_
              refine kb_bipush X (by decide) dX0_laidAt_109 ?_
              refine kb_iload X 0 rfl dX0_laidAt_111 ?_
              refine kb_isub X dX0_laidAt_113 ?_
              refine kb_bipush X (by decide) dX0_laidAt_114 ?_
              refine kb_iload X 2 rfl dX0_laidAt_116 ?_
              refine kb_isub X dX0_laidAt_118 ?_
              refine kb_imul X dX0_laidAt_119 ?_
              refine kb_aload_n X 6 rfl dX0_laidAt_120 ?_
              refine kb_iload X 1 rfl dX0_laidAt_121 ?_
              refine kb_iload X 3 rfl dX0_laidAt_123 ?_
              refine kb_cVi X (rest := [kb_i ((16 - x8_15) * (16 - x6_13))]) [kb_i x7_14, kb_i x5_12] 5 (fl := [some 21, none, none, none]) (C := RX0) rfl rfl (c_X0_get l D ad cy M x7_14 x5_12 (by first | omega | assumption | exact ⟨by omega, by omega⟩) (by first | omega | assumption | exact ⟨by omega, by omega⟩)) gX0_laidAt_X0_get rfl ⟨rfl, hy_X0_get⟩ ⟨by decide, by decide⟩ rfl (Nat.le_of_ble_eq_true rfl) ⟨by decide, by decide⟩ dX0_laidAt_125 rfl ?_
              refine kb_imul X dX0_laidAt_128 ?_
              refine kb_iload X 0 rfl dX0_laidAt_129 ?_
              refine kb_bipush X (by decide) dX0_laidAt_131 ?_
              refine kb_iload X 2 rfl dX0_laidAt_133 ?_
              refine kb_isub X dX0_laidAt_135 ?_
              refine kb_imul X dX0_laidAt_136 ?_
              refine kb_aload_n X 6 rfl dX0_laidAt_137 ?_
              refine kb_iload X 1 rfl dX0_laidAt_138 ?_
              refine kb_iconst X dX0_laidAt_140 ?_
              refine kb_iadd X dX0_laidAt_141 ?_
              refine kb_iload X 3 rfl dX0_laidAt_142 ?_
              refine kb_cVi X (rest := [kb_i (x8_15 * (16 - x6_13)), kb_i (((16 - x8_15) * (16 - x6_13)) * (sp_fv M x7_14 x5_12))]) [kb_i (x7_14 + 1), kb_i x5_12] 5 (fl := [some 21, none, none, none]) (C := RX0) rfl rfl (c_X0_get l D ad cy M (x7_14 + 1) x5_12 (by first | omega | assumption | exact ⟨by omega, by omega⟩) (by first | omega | assumption | exact ⟨by omega, by omega⟩)) gX0_laidAt_X0_get rfl ⟨rfl, hy_X0_get⟩ ⟨by decide, by decide⟩ rfl (Nat.le_of_ble_eq_true rfl) ⟨by decide, by decide⟩ dX0_laidAt_144 rfl ?_
              refine kb_imul X dX0_laidAt_147 ?_
              refine kb_iadd X dX0_laidAt_148 ?_
              refine kb_nmi (fun x9_16 ex9_16 => ?_)
              refine kb_istore (lv' := [(9, kb_i x9_16), (8, kb_i x8_15), (7, kb_i x7_14), (6, kb_i x6_13), (5, kb_i x5_12), (4, kb_i x4_5), (3, kb_i x3_3), (0, .ref (ad 5)), (1, kb_i x), (2, kb_i z)]) X dX0_laidAt_149 (by decide) rfl ?_
              refine kb_bipush X (by decide) dX0_laidAt_151 ?_
              refine kb_iload X 1 rfl dX0_laidAt_153 ?_
              refine kb_isub X dX0_laidAt_155 ?_
              refine kb_iload X 3 rfl dX0_laidAt_156 ?_
              refine kb_imul X dX0_laidAt_158 ?_
              refine kb_aload_n X 7 rfl dX0_laidAt_159 ?_
              refine kb_iload X 2 rfl dX0_laidAt_160 ?_
              refine kb_iload X 4 rfl dX0_laidAt_162 ?_
              refine kb_iconst X dX0_laidAt_164 ?_
              refine kb_iadd X dX0_laidAt_165 ?_
              refine kb_cVi X (rest := [kb_i ((16 - x8_15) * x6_13)]) [kb_i x7_14, kb_i (x5_12 + 1)] 5 (fl := [some 21, none, none, none]) (C := RX0) rfl rfl (c_X0_get l D ad cy M x7_14 (x5_12 + 1) (by first | omega | assumption | exact ⟨by omega, by omega⟩) (by first | omega | assumption | exact ⟨by omega, by omega⟩)) gX0_laidAt_X0_get rfl ⟨rfl, hy_X0_get⟩ ⟨by decide, by decide⟩ rfl (Nat.le_of_ble_eq_true rfl) ⟨by decide, by decide⟩ dX0_laidAt_166 rfl ?_
              refine kb_imul X dX0_laidAt_169 ?_
              refine kb_iload X 1 rfl dX0_laidAt_170 ?_
              refine kb_iload X 3 rfl dX0_laidAt_172 ?_
              refine kb_imul X dX0_laidAt_174 ?_
              refine kb_aload_n X 7 rfl dX0_laidAt_175 ?_
              refine kb_iload X 2 rfl dX0_laidAt_176 ?_
              refine kb_iconst X dX0_laidAt_178 ?_
              refine kb_iadd X dX0_laidAt_179 ?_
              refine kb_iload X 4 rfl dX0_laidAt_180 ?_
              refine kb_iconst X dX0_laidAt_182 ?_
              refine kb_iadd X dX0_laidAt_183 ?_
              refine kb_cVi X (rest := [kb_i (x8_15 * x6_13), kb_i (((16 - x8_15) * x6_13) * (sp_fv M x7_14 (x5_12 + 1)))]) [kb_i (x7_14 + 1), kb_i (x5_12 + 1)] 5 (fl := [some 21, none, none, none]) (C := RX0) rfl rfl (c_X0_get l D ad cy M (x7_14 + 1) (x5_12 + 1) (by first | omega | assumption | exact ⟨by omega, by omega⟩) (by first | omega | assumption | exact ⟨by omega, by omega⟩)) gX0_laidAt_X0_get rfl ⟨rfl, hy_X0_get⟩ ⟨by decide, by decide⟩ rfl (Nat.le_of_ble_eq_true rfl) ⟨by decide, by decide⟩ dX0_laidAt_184 rfl ?_
              refine kb_imul X dX0_laidAt_187 ?_
              refine kb_iadd X dX0_laidAt_188 ?_
              refine kb_nmi (fun x10_17 ex10_17 => ?_)
              refine kb_istore (lv' := [(10, kb_i x10_17), (9, kb_i x9_16), (8, kb_i x8_15), (7, kb_i x7_14), (6, kb_i x6_13), (5, kb_i x5_12), (4, kb_i x4_5), (3, kb_i x3_3), (0, .ref (ad 5)), (1, kb_i x), (2, kb_i z)]) X dX0_laidAt_189 (by decide) rfl ?_
              have v1 := sp_fv_b hfb x7_14 x5_12
              have v2 := sp_fv_b hfb (x7_14 + 1) x5_12
              have v3 := sp_fv_b hfb x7_14 (x5_12 + 1)
              have v4 := sp_fv_b hfb (x7_14 + 1) (x5_12 + 1)
              have sg := sp_shg (g := x8_15) (f := x6_13) (by omega) (by omega)
              have w1 := sp_shv sg.1 v1
              have w2 := sp_shv sg.2.1 v2
              have w3 := sp_shv sg.2.2.1 v3
              have w4 := sp_shv sg.2.2.2 v4
              refine kb_iload X 1 rfl dX0_laidAt_191 ?_
              refine kb_iload X 0 rfl dX0_laidAt_193 ?_
              refine kb_iadd X dX0_laidAt_195 ?_
              refine kb_sipush X (by decide) dX0_laidAt_196 ?_
              refine kb_idiv X ⟨by omega, by omega⟩ ⟨by decide, by decide⟩ (by omega) dX0_laidAt_199 ?_
              exact kb_iret X hr hlocks dX0_laidAt_200 (by rw [sp_la_1 (M := M) (x := x) (z := z) (wd := x4_5) (dp := x3_3) (by unfold sp_wd; first | (rw [if_pos (by omega)]; omega) | (rw [if_neg (by omega)]; omega)) (by omega) (by omega)]; unfold sp_mx; subst_vars; rfl) (by first | rfl | (exfalso; omega))
            ·
              refine kb_iconst X dX0_laidAt_81 ?_
              exact kb_iret X hr hlocks dX0_laidAt_82 (by exact sp_la_0 (wd := x4_5) (dp := x3_3) (by unfold sp_wd; first | (rw [if_pos (by omega)]; omega) | (rw [if_neg (by omega)]; omega)) (by omega) (by omega)) (by first | rfl | (exfalso; omega))
    ·
      refine kb_iconst X dX0_laidAt_31 ?_
      refine kb_goto (tgt := 42) X dX0_laidAt_32 (by decide) ?_
      have tb := sp_tdb (x := 128 * x) (z := z) (b := 2560000) (by omega) (by omega)
      refine kb_iadd X dX0_laidAt_42 ?_
      refine kb_nmi (fun x4_18 ex4_18 => ?_)
      refine kb_istore (lv' := [(4, kb_i x4_18), (3, kb_i x3_3), (0, .ref (ad 5)), (1, kb_i x), (2, kb_i z)]) X dX0_laidAt_43 (by decide) rfl ?_
      refine kb_iload X 0 rfl dX0_laidAt_45 ?_
      refine kb_if_lt (tgt := 81) X ⟨by omega, by omega⟩ dX0_laidAt_47 (by decide) (fun h19 => ?_) (fun h19 => ?_)
      ·
        refine kb_iconst X dX0_laidAt_81 ?_
        exact kb_iret X hr hlocks dX0_laidAt_82 (by exact sp_la_0 (wd := x4_18) (dp := x3_3) (by unfold sp_wd; first | (rw [if_pos (by omega)]; omega) | (rw [if_neg (by omega)]; omega)) (by omega) (by omega)) (by first | rfl | (exfalso; omega))
      ·
        refine kb_iload X 0 rfl dX0_laidAt_50 ?_
        refine kb_bipush X (by decide) dX0_laidAt_52 ?_
        refine kb_aload_n X 2 rfl dX0_laidAt_54 ?_
        refine kg_X0_lines X hi_X0_laidAt_X0 hf_X0_laidAt_17 dX0_laidAt_55 ?_
        have g20 : -2147483648 ≤ M 5 1 ∧ M 5 1 < 2147483648 := hM 5 1
        refine kb_iconst X dX0_laidAt_58 ?_
        refine kb_isub X dX0_laidAt_59 ?_
        refine kb_imul X dX0_laidAt_60 ?_
        refine kb_icmp_gt (tgt := 81) X ⟨by omega, by omega⟩ ⟨by omega, by omega⟩ dX0_laidAt_61 (by decide) (fun h21 => ?_) (fun h21 => ?_)
        ·
          refine kb_iconst X dX0_laidAt_81 ?_
          exact kb_iret X hr hlocks dX0_laidAt_82 (by exact sp_la_0 (wd := x4_18) (dp := x3_3) (by unfold sp_wd; first | (rw [if_pos (by omega)]; omega) | (rw [if_neg (by omega)]; omega)) (by omega) (by omega)) (by first | rfl | (exfalso; omega))
        ·
          refine kb_iload_n X 1 rfl dX0_laidAt_64 ?_
          refine kb_if_lt (tgt := 81) X ⟨by omega, by omega⟩ dX0_laidAt_65 (by decide) (fun h22 => ?_) (fun h22 => ?_)
          ·
            refine kb_iconst X dX0_laidAt_81 ?_
            exact kb_iret X hr hlocks dX0_laidAt_82 (by exact sp_la_0 (wd := x4_18) (dp := x3_3) (by unfold sp_wd; first | (rw [if_pos (by omega)]; omega) | (rw [if_neg (by omega)]; omega)) (by omega) (by omega)) (by first | rfl | (exfalso; omega))
          ·
            refine kb_iload_n X 1 rfl dX0_laidAt_68 ?_
            refine kb_bipush X (by decide) dX0_laidAt_69 ?_
            refine kb_aload_n X 2 rfl dX0_laidAt_71 ?_
            refine kg_X0_means X hi_X0_laidAt_X0 hf_X0_laidAt_20 dX0_laidAt_72 ?_
            have g23 : -2147483648 ≤ M 5 2 ∧ M 5 2 < 2147483648 := hM 5 2
            refine kb_iconst X dX0_laidAt_75 ?_
            refine kb_isub X dX0_laidAt_76 ?_
            refine kb_imul X dX0_laidAt_77 ?_
            refine kb_icmp_le (tgt := 83) X ⟨by omega, by omega⟩ ⟨by omega, by omega⟩ dX0_laidAt_78 (by decide) (fun h24 => ?_) (fun h24 => ?_)
            ·
              refine kb_iload_n X 1 rfl dX0_laidAt_83 ?_
              refine kb_bipush X (by decide) dX0_laidAt_84 ?_
              refine kb_idiv X ⟨by omega, by omega⟩ ⟨by decide, by decide⟩ (by omega) dX0_laidAt_86 ?_
              refine kb_eqi (b := x3_3 / 16) (kb_td (by omega)) ?_
              refine kb_nmi (fun x5_25 ex5_25 => ?_)
              refine kb_istore (lv' := [(5, kb_i x5_25), (4, kb_i x4_18), (3, kb_i x3_3), (0, .ref (ad 5)), (1, kb_i x), (2, kb_i z)]) X dX0_laidAt_87 (by decide) rfl ?_
              refine kb_iload_n X 2 rfl dX0_laidAt_89 ?_
              refine kb_bipush X (by decide) dX0_laidAt_90 ?_
              refine kb_irem X ⟨by omega, by omega⟩ ⟨by decide, by decide⟩ (by omega) dX0_laidAt_92 ?_
              refine kb_eqi (b := x3_3 % 16) (kb_tm (by omega)) ?_
              refine kb_nmi (fun x6_26 ex6_26 => ?_)
              refine kb_istore (lv' := [(6, kb_i x6_26), (5, kb_i x5_25), (4, kb_i x4_18), (3, kb_i x3_3), (0, .ref (ad 5)), (1, kb_i x), (2, kb_i z)]) X dX0_laidAt_93 (by decide) rfl ?_
              refine kb_iload X 2 rfl dX0_laidAt_95 ?_
              refine kb_bipush X (by decide) dX0_laidAt_97 ?_
              refine kb_idiv X ⟨by omega, by omega⟩ ⟨by decide, by decide⟩ (by omega) dX0_laidAt_99 ?_
              refine kb_eqi (b := x4_18 / 16) (kb_td (by omega)) ?_
              refine kb_nmi (fun x7_27 ex7_27 => ?_)
              refine kb_istore (lv' := [(7, kb_i x7_27), (6, kb_i x6_26), (5, kb_i x5_25), (4, kb_i x4_18), (3, kb_i x3_3), (0, .ref (ad 5)), (1, kb_i x), (2, kb_i z)]) X dX0_laidAt_100 (by decide) rfl ?_
              refine kb_iload X 3 rfl dX0_laidAt_102 ?_
              refine kb_bipush X (by decide) dX0_laidAt_104 ?_
              refine kb_irem X ⟨by omega, by omega⟩ ⟨by decide, by decide⟩ (by omega) dX0_laidAt_106 ?_
              refine kb_eqi (b := x4_18 % 16) (kb_tm (by omega)) ?_
              refine kb_nmi (fun x8_28 ex8_28 => ?_)
              refine kb_istore (lv' := [(8, kb_i x8_28), (7, kb_i x7_27), (6, kb_i x6_26), (5, kb_i x5_25), (4, kb_i x4_18), (3, kb_i x3_3), (0, .ref (ad 5)), (1, kb_i x), (2, kb_i z)]) X dX0_laidAt_107 (by decide) rfl ?_
              refine kb_bipush X (by decide) dX0_laidAt_109 ?_
              refine kb_iload X 0 rfl dX0_laidAt_111 ?_
              refine kb_isub X dX0_laidAt_113 ?_
              refine kb_bipush X (by decide) dX0_laidAt_114 ?_
              refine kb_iload X 2 rfl dX0_laidAt_116 ?_
              refine kb_isub X dX0_laidAt_118 ?_
              refine kb_imul X dX0_laidAt_119 ?_
              refine kb_aload_n X 6 rfl dX0_laidAt_120 ?_
              refine kb_iload X 1 rfl dX0_laidAt_121 ?_
              refine kb_iload X 3 rfl dX0_laidAt_123 ?_
              refine kb_cVi X (rest := [kb_i ((16 - x8_28) * (16 - x6_26))]) [kb_i x7_27, kb_i x5_25] 5 (fl := [some 21, none, none, none]) (C := RX0) rfl rfl (c_X0_get l D ad cy M x7_27 x5_25 (by first | omega | assumption | exact ⟨by omega, by omega⟩) (by first | omega | assumption | exact ⟨by omega, by omega⟩)) gX0_laidAt_X0_get rfl ⟨rfl, hy_X0_get⟩ ⟨by decide, by decide⟩ rfl (Nat.le_of_ble_eq_true rfl) ⟨by decide, by decide⟩ dX0_laidAt_125 rfl ?_
              refine kb_imul X dX0_laidAt_128 ?_
              refine kb_iload X 0 rfl dX0_laidAt_129 ?_
              refine kb_bipush X (by decide) dX0_laidAt_131 ?_
              refine kb_iload X 2 rfl dX0_laidAt_133 ?_
              refine kb_isub X dX0_laidAt_135 ?_
              refine kb_imul X dX0_laidAt_136 ?_
              refine kb_aload_n X 6 rfl dX0_laidAt_137 ?_
              refine kb_iload X 1 rfl dX0_laidAt_138 ?_
              refine kb_iconst X dX0_laidAt_140 ?_
              refine kb_iadd X dX0_laidAt_141 ?_
              refine kb_iload X 3 rfl dX0_laidAt_142 ?_
              refine kb_cVi X (rest := [kb_i (x8_28 * (16 - x6_26)), kb_i (((16 - x8_28) * (16 - x6_26)) * (sp_fv M x7_27 x5_25))]) [kb_i (x7_27 + 1), kb_i x5_25] 5 (fl := [some 21, none, none, none]) (C := RX0) rfl rfl (c_X0_get l D ad cy M (x7_27 + 1) x5_25 (by first | omega | assumption | exact ⟨by omega, by omega⟩) (by first | omega | assumption | exact ⟨by omega, by omega⟩)) gX0_laidAt_X0_get rfl ⟨rfl, hy_X0_get⟩ ⟨by decide, by decide⟩ rfl (Nat.le_of_ble_eq_true rfl) ⟨by decide, by decide⟩ dX0_laidAt_144 rfl ?_
              refine kb_imul X dX0_laidAt_147 ?_
              refine kb_iadd X dX0_laidAt_148 ?_
              refine kb_nmi (fun x9_29 ex9_29 => ?_)
              refine kb_istore (lv' := [(9, kb_i x9_29), (8, kb_i x8_28), (7, kb_i x7_27), (6, kb_i x6_26), (5, kb_i x5_25), (4, kb_i x4_18), (3, kb_i x3_3), (0, .ref (ad 5)), (1, kb_i x), (2, kb_i z)]) X dX0_laidAt_149 (by decide) rfl ?_
              refine kb_bipush X (by decide) dX0_laidAt_151 ?_
              refine kb_iload X 1 rfl dX0_laidAt_153 ?_
              refine kb_isub X dX0_laidAt_155 ?_
              refine kb_iload X 3 rfl dX0_laidAt_156 ?_
              refine kb_imul X dX0_laidAt_158 ?_
              refine kb_aload_n X 7 rfl dX0_laidAt_159 ?_
              refine kb_iload X 2 rfl dX0_laidAt_160 ?_
              refine kb_iload X 4 rfl dX0_laidAt_162 ?_
              refine kb_iconst X dX0_laidAt_164 ?_
              refine kb_iadd X dX0_laidAt_165 ?_
              refine kb_cVi X (rest := [kb_i ((16 - x8_28) * x6_26)]) [kb_i x7_27, kb_i (x5_25 + 1)] 5 (fl := [some 21, none, none, none]) (C := RX0) rfl rfl (c_X0_get l D ad cy M x7_27 (x5_25 + 1) (by first | omega | assumption | exact ⟨by omega, by omega⟩) (by first | omega | assumption | exact ⟨by omega, by omega⟩)) gX0_laidAt_X0_get rfl ⟨rfl, hy_X0_get⟩ ⟨by decide, by decide⟩ rfl (Nat.le_of_ble_eq_true rfl) ⟨by decide, by decide⟩ dX0_laidAt_166 rfl ?_
              refine kb_imul X dX0_laidAt_169 ?_
              refine kb_iload X 1 rfl dX0_laidAt_170 ?_
              refine kb_iload X 3 rfl dX0_laidAt_172 ?_
              refine kb_imul X dX0_laidAt_174 ?_
              refine kb_aload_n X 7 rfl dX0_laidAt_175 ?_
              refine kb_iload X 2 rfl dX0_laidAt_176 ?_
              refine kb_iconst X dX0_laidAt_178 ?_
              refine kb_iadd X dX0_laidAt_179 ?_
              refine kb_iload X 4 rfl dX0_laidAt_180 ?_
              refine kb_iconst X dX0_laidAt_182 ?_
              refine kb_iadd X dX0_laidAt_183 ?_
              refine kb_cVi X (rest := [kb_i (x8_28 * x6_26), kb_i (((16 - x8_28) * x6_26) * (sp_fv M x7_27 (x5_25 + 1)))]) [kb_i (x7_27 + 1), kb_i (x5_25 + 1)] 5 (fl := [some 21, none, none, none]) (C := RX0) rfl rfl (c_X0_get l D ad cy M (x7_27 + 1) (x5_25 + 1) (by first | omega | assumption | exact ⟨by omega, by omega⟩) (by first | omega | assumption | exact ⟨by omega, by omega⟩)) gX0_laidAt_X0_get rfl ⟨rfl, hy_X0_get⟩ ⟨by decide, by decide⟩ rfl (Nat.le_of_ble_eq_true rfl) ⟨by decide, by decide⟩ dX0_laidAt_184 rfl ?_
              refine kb_imul X dX0_laidAt_187 ?_
              refine kb_iadd X dX0_laidAt_188 ?_
              refine kb_nmi (fun x10_30 ex10_30 => ?_)
              refine kb_istore (lv' := [(10, kb_i x10_30), (9, kb_i x9_29), (8, kb_i x8_28), (7, kb_i x7_27), (6, kb_i x6_26), (5, kb_i x5_25), (4, kb_i x4_18), (3, kb_i x3_3), (0, .ref (ad 5)), (1, kb_i x), (2, kb_i z)]) X dX0_laidAt_189 (by decide) rfl ?_
              have v1 := sp_fv_b hfb x7_27 x5_25
              have v2 := sp_fv_b hfb (x7_27 + 1) x5_25
              have v3 := sp_fv_b hfb x7_27 (x5_25 + 1)
              have v4 := sp_fv_b hfb (x7_27 + 1) (x5_25 + 1)
              have sg := sp_shg (g := x8_28) (f := x6_26) (by omega) (by omega)
              have w1 := sp_shv sg.1 v1
              have w2 := sp_shv sg.2.1 v2
              have w3 := sp_shv sg.2.2.1 v3
              have w4 := sp_shv sg.2.2.2 v4
              refine kb_iload X 1 rfl dX0_laidAt_191 ?_
              refine kb_iload X 0 rfl dX0_laidAt_193 ?_
              refine kb_iadd X dX0_laidAt_195 ?_
              refine kb_sipush X (by decide) dX0_laidAt_196 ?_
              refine kb_idiv X ⟨by omega, by omega⟩ ⟨by decide, by decide⟩ (by omega) dX0_laidAt_199 ?_
              exact kb_iret X hr hlocks dX0_laidAt_200 (by rw [sp_la_1 (M := M) (x := x) (z := z) (wd := x4_18) (dp := x3_3) (by unfold sp_wd; first | (rw [if_pos (by omega)]; omega) | (rw [if_neg (by omega)]; omega)) (by omega) (by omega)]; unfold sp_mx; subst_vars; rfl) (by first | rfl | (exfalso; omega))
            ·
              refine kb_iconst X dX0_laidAt_81 ?_
              exact kb_iret X hr hlocks dX0_laidAt_82 (by exact sp_la_0 (wd := x4_18) (dp := x3_3) (by unfold sp_wd; first | (rw [if_pos (by omega)]; omega) | (rw [if_neg (by omega)]; omega)) (by omega) (by omega)) (by first | rfl | (exfalso; omega))
  ·
    refine kb_iconst X dX0_laidAt_8 ?_
    exact kb_iret X hr hlocks dX0_laidAt_9 (by exfalso; omega) (by first | rfl | (exfalso; omega))
