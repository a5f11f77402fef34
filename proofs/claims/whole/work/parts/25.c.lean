-- X6_probe
theorem hf_X6_probe_10 : Cond.fieldLink yX6_probe.cls 10 RX6 "elements" "LSoundBoard$Probe;" ∈ wsX6_probe := by decide +kernel
theorem hf_X6_probe_26 : Cond.fieldLink yX6_probe.cls 26 RX6 "heard" "LSoundBoard$Looks;" ∈ wsX6_probe := by decide +kernel
theorem hf_X6_probe_33 : Cond.fieldLink yX6_probe.cls 33 RX6 "ring" "LSoundBoard$Ring;" ∈ wsX6_probe := by decide +kernel
theorem hf_X6_probe_47 : Cond.fieldLink yX6_probe.cls 47 RX6 "power" "LSoundBoard$Power;" ∈ wsX6_probe := by decide +kernel
theorem hf_X6_probe_63 : Cond.fieldLink yX6_probe.cls 63 RX2 "heat" "I" ∈ wsX6_probe := by decide +kernel
theorem hi_X6_probe_X2 : ∀ w ∈ wsX20, w ∈ wsX6_probe := by decide +kernel
theorem hi_X6_probe_X6 : ∀ w ∈ wsX60, w ∈ wsX6_probe := by decide +kernel
theorem hy_X6_probe : yX6_probe.cls ≠ "java/lang/invoke/MethodHandle" ∧ yX6_probe.cls ≠ "java/lang/invoke/VarHandle" ∧ (parseMethodDescriptor yX6_probe.desc).map (fun d => d.parameters.length) = some 3 := by decide +kernel
set_option maxHeartbeats 4000000 in
set_option maxRecDepth 100000 in
theorem c_X6_probe (l : Launch) (D : va_G) (ad : Nat → Nat) (cy : Nat → ClassId) (M : kb_M) (n : Int) (f : Int) (p0 : Int) (hn : -2147483648 ≤ n ∧ n < 2147483648) (hf : -2147483648 ≤ f ∧ f < 2147483648) (hp0 : -2147483648 ≤ p0 ∧ p0 < 2147483648) : kb_Ci l D ad cy yX6_probe wsX6_probe 2 48 [.ref (ad 0), kb_i n, kb_i f, kb_i p0] M (sp_probeR n f p0) (sp_probeM M n f p0) := by
  refine kb_mkCi (cc := cX6_probe) (maxL := 4) (lv := [(0, .ref (ad 0)), (1, kb_i n), (2, kb_i f), (3, kb_i p0)]) (plainFor_of_name (by decide)) rfl (Nat.le_of_ble_eq_true rfl) rfl ?_
  intro p e s m args below meth c X hr hlocks hM
  refine kb_iload_n X 1 rfl dX6_probe_0 ?_
  refine kb_iconst X dX6_probe_1 ?_
  refine kb_bipush X (by decide) dX6_probe_2 ?_
  refine kb_cSi X (rest := []) [kb_i n, kb_i 2, kb_i 16] (c_X6_within l D ad cy M n 2 16 (by first | omega | assumption | exact ⟨by omega, by omega⟩) (by first | omega | assumption | exact ⟨by omega, by omega⟩) (by first | omega | assumption | exact ⟨by omega, by omega⟩)) gX6_probe_X6_within rfl hy_X6_within ⟨by decide, by decide⟩ rfl (Nat.le_of_ble_eq_true rfl) ⟨by decide, by decide⟩ dX6_probe_4 rfl ?_
  refine kb_ifb_eq (tgt := 34) X dX6_probe_7 (by decide) (fun h1 => ?_) (fun h1 => ?_)
  ·
    refine kb_bipush X (by decide) dX6_probe_34 ?_
    exact kb_iret X hr hlocks dX6_probe_36 (by unfold sp_probeR; repeat (first | rw [if_pos (by omega)] | rw [if_neg (by omega)])) (by unfold sp_probeM; repeat (first | rw [if_pos (by omega)] | rw [if_neg (by omega)]))
  ·
    refine kb_iload_n X 2 rfl dX6_probe_10 ?_
    refine kb_sipush X (by decide) dX6_probe_11 ?_
    refine kb_sipush X (by decide) dX6_probe_14 ?_
    refine kb_cSi X (rest := []) [kb_i f, kb_i ((-2000)), kb_i 2000] (c_X6_within l D ad cy M f ((-2000)) 2000 (by first | omega | assumption | exact ⟨by omega, by omega⟩) (by first | omega | assumption | exact ⟨by omega, by omega⟩) (by first | omega | assumption | exact ⟨by omega, by omega⟩)) gX6_probe_X6_within rfl hy_X6_within ⟨by decide, by decide⟩ rfl (Nat.le_of_ble_eq_true rfl) ⟨by decide, by decide⟩ dX6_probe_17 rfl ?_
    refine kb_ifb_eq (tgt := 34) X dX6_probe_20 (by decide) (fun h2 => ?_) (fun h2 => ?_)
    ·
      refine kb_bipush X (by decide) dX6_probe_34 ?_
      exact kb_iret X hr hlocks dX6_probe_36 (by unfold sp_probeR; repeat (first | rw [if_pos (by omega)] | rw [if_neg (by omega)])) (by unfold sp_probeM; repeat (first | rw [if_pos (by omega)] | rw [if_neg (by omega)]))
    ·
      refine kb_iload_n X 3 rfl dX6_probe_23 ?_
      refine kb_iconst X dX6_probe_24 ?_
      refine kb_sipush X (by decide) dX6_probe_25 ?_
      refine kb_cSi X (rest := []) [kb_i p0, kb_i 1, kb_i 200] (c_X6_within l D ad cy M p0 1 200 (by first | omega | assumption | exact ⟨by omega, by omega⟩) (by first | omega | assumption | exact ⟨by omega, by omega⟩) (by first | omega | assumption | exact ⟨by omega, by omega⟩)) gX6_probe_X6_within rfl hy_X6_within ⟨by decide, by decide⟩ rfl (Nat.le_of_ble_eq_true rfl) ⟨by decide, by decide⟩ dX6_probe_28 rfl ?_
      refine kb_ifb_ne (tgt := 37) X dX6_probe_31 (by decide) (fun h3 => ?_) (fun h3 => ?_)
      ·
        have m1 := sp_mulb (a := n - 1) (b := p0) (A := 15) (B := 200) (by omega) (by omega) (by omega) (by omega)
        refine kb_iload_n X 2 rfl dX6_probe_37 ?_
        refine kb_iload_n X 1 rfl dX6_probe_38 ?_
        refine kb_iconst X dX6_probe_39 ?_
        refine kb_isub X dX6_probe_40 ?_
        refine kb_iload_n X 3 rfl dX6_probe_41 ?_
        refine kb_imul X dX6_probe_42 ?_
        refine kb_iadd X dX6_probe_43 ?_
        refine kb_sipush X (by decide) dX6_probe_44 ?_
        refine kb_icmp_le (tgt := 53) X ⟨by omega, by omega⟩ ⟨by decide, by decide⟩ dX6_probe_47 (by decide) (fun h4 => ?_) (fun h4 => ?_)
        ·
          refine kb_aload_n X 0 rfl dX6_probe_53 ?_
          refine kg_X6_elements X hi_X6_probe_X6 hf_X6_probe_10 dX6_probe_54 ?_
          refine kb_iload_n X 1 rfl dX6_probe_57 ?_
          refine kb_iload_n X 2 rfl dX6_probe_58 ?_
          refine kb_iload_n X 3 rfl dX6_probe_59 ?_
          refine kb_cVv X (rest := []) [kb_i n, kb_i f, kb_i p0] 1 (fl := [some 7, some 8, some 9, some 10, none, none, none, none, none, none, none]) (C := RX3) rfl rfl (c_X3_renew l D ad cy M n f p0 (by first | omega | assumption | exact ⟨by omega, by omega⟩) (by first | omega | assumption | exact ⟨by omega, by omega⟩) (by first | omega | assumption | exact ⟨by omega, by omega⟩)) gX6_probe_X3_renew rfl ⟨rfl, hy_X3_renew⟩ ⟨by decide, by decide⟩ rfl (Nat.le_of_ble_eq_true rfl) ⟨by decide, by decide⟩ dX6_probe_60 rfl ?_
          refine kb_aload_n X 0 rfl dX6_probe_63 ?_
          refine kg_X6_heard X hi_X6_probe_X6 hf_X6_probe_26 dX6_probe_64 ?_
          refine kb_cVv X (rest := []) [] 3 (fl := [some 16, some 17, none, none, none]) (C := RX1) rfl rfl (c_X1_forget l D ad cy (sp_rn M n f p0 n)  ) gX6_probe_X1_forget rfl ⟨rfl, hy_X1_forget⟩ ⟨by decide, by decide⟩ rfl (Nat.le_of_ble_eq_true rfl) ⟨by decide, by decide⟩ dX6_probe_67 rfl ?_
          refine kb_aload_n X 0 rfl dX6_probe_70 ?_
          refine kg_X6_ring X hi_X6_probe_X6 hf_X6_probe_33 dX6_probe_71 ?_
          refine kb_cVv X (rest := []) [] 4 (fl := [some 18, some 19, some 20, none, none]) (C := RX4) rfl rfl (c_X4_forget l D ad cy (kb_wr (kb_wr (sp_rn M n f p0 n) 3 2 0) 3 3 0)  ) gX6_probe_X4_forget rfl ⟨rfl, hy_X4_forget⟩ ⟨by decide, by decide⟩ rfl (Nat.le_of_ble_eq_true rfl) ⟨by decide, by decide⟩ dX6_probe_74 rfl ?_
          refine kb_aload_n X 0 rfl dX6_probe_77 ?_
          refine kg_X6_power X hi_X6_probe_X6 hf_X6_probe_47 dX6_probe_78 ?_
          refine kb_iconst X dX6_probe_81 ?_
          refine kp_X2_heat X hi_X6_probe_X2 hf_X6_probe_63 ⟨by decide, by decide⟩ dX6_probe_82 ?_
          refine kb_iconst X dX6_probe_85 ?_
          exact kb_iret X hr hlocks dX6_probe_86 (by unfold sp_probeR; repeat (first | rw [if_pos (by omega)] | rw [if_neg (by omega)])) (by unfold sp_probeM; repeat (first | rw [if_pos (by omega)] | rw [if_neg (by omega)]))
        ·
          refine kb_bipush X (by decide) dX6_probe_50 ?_
          exact kb_iret X hr hlocks dX6_probe_52 (by unfold sp_probeR; repeat (first | rw [if_pos (by omega)] | rw [if_neg (by omega)])) (by unfold sp_probeM; repeat (first | rw [if_pos (by omega)] | rw [if_neg (by omega)]))
      ·
        refine kb_bipush X (by decide) dX6_probe_34 ?_
        exact kb_iret X hr hlocks dX6_probe_36 (by unfold sp_probeR; repeat (first | rw [if_pos (by omega)] | rw [if_neg (by omega)])) (by unfold sp_probeM; repeat (first | rw [if_pos (by omega)] | rw [if_neg (by omega)]))
-- X6_pace
theorem hf_X6_pace_10 : Cond.fieldLink yX6_pace.cls 10 RX6 "elements" "LSoundBoard$Probe;" ∈ wsX6_pace := by decide +kernel
theorem hf_X6_pace_26 : Cond.fieldLink yX6_pace.cls 26 RX6 "heard" "LSoundBoard$Looks;" ∈ wsX6_pace := by decide +kernel
theorem hf_X6_pace_67 : Cond.fieldLink yX6_pace.cls 67 RX1 "size" "I" ∈ wsX6_pace := by decide +kernel
theorem hf_X6_pace_70 : Cond.fieldLink yX6_pace.cls 70 RX3 "steps" "I" ∈ wsX6_pace := by decide +kernel
theorem hf_X6_pace_73 : Cond.fieldLink yX6_pace.cls 73 RX3 "ticks" "I" ∈ wsX6_pace := by decide +kernel
theorem hi_X6_pace_X1 : ∀ w ∈ wsX10, w ∈ wsX6_pace := by decide +kernel
theorem hi_X6_pace_X3 : ∀ w ∈ wsX30, w ∈ wsX6_pace := by decide +kernel
theorem hi_X6_pace_X6 : ∀ w ∈ wsX60, w ∈ wsX6_pace := by decide +kernel
theorem hy_X6_pace : yX6_pace.cls ≠ "java/lang/invoke/MethodHandle" ∧ yX6_pace.cls ≠ "java/lang/invoke/VarHandle" ∧ (parseMethodDescriptor yX6_pace.desc).map (fun d => d.parameters.length) = some 2 := by decide +kernel
set_option maxHeartbeats 4000000 in
set_option maxRecDepth 100000 in
theorem c_X6_pace (l : Launch) (D : va_G) (ad : Nat → Nat) (cy : Nat → ClassId) (M : kb_M) (p0 : Int) (q0 : Int) (hp0 : -2147483648 ≤ p0 ∧ p0 < 2147483648) (hq0 : -2147483648 ≤ q0 ∧ q0 < 2147483648) (hIL : sp_IL M) : kb_Ci l D ad cy yX6_pace wsX6_pace 1 22 [.ref (ad 0), kb_i p0, kb_i q0] M (sp_paceR M p0 q0) (sp_paceM M p0 q0) := by
  refine kb_mkCi (cc := cX6_pace) (maxL := 3) (lv := [(0, .ref (ad 0)), (1, kb_i p0), (2, kb_i q0)]) (plainFor_of_name (by decide)) rfl (Nat.le_of_ble_eq_true rfl) rfl ?_
  intro p e s m args below meth c X hr hlocks hM
  obtain ⟨ho, hs, hsb⟩ := id hIL
  refine kb_iload_n X 1 rfl dX6_pace_0 ?_
  refine kb_iconst X dX6_pace_1 ?_
  refine kb_sipush X (by decide) dX6_pace_2 ?_
  refine kb_cSi X (rest := []) [kb_i p0, kb_i 1, kb_i 1000] (c_X6_within l D ad cy M p0 1 1000 (by first | omega | assumption | exact ⟨by omega, by omega⟩) (by first | omega | assumption | exact ⟨by omega, by omega⟩) (by first | omega | assumption | exact ⟨by omega, by omega⟩)) gX6_pace_X6_within rfl hy_X6_within ⟨by decide, by decide⟩ rfl (Nat.le_of_ble_eq_true rfl) ⟨by decide, by decide⟩ dX6_pace_5 rfl ?_
  refine kb_ifb_eq (tgt := 22) X dX6_pace_8 (by decide) (fun h1 => ?_) (fun h1 => ?_)
  ·
    refine kb_bipush X (by decide) dX6_pace_22 ?_
    exact kb_iret X hr hlocks dX6_pace_24 (by unfold sp_paceR; repeat (first | rw [if_pos (by omega)] | rw [if_neg (by omega)])) (by unfold sp_paceM; repeat (first | rw [if_pos (by omega)] | rw [if_neg (by omega)]))
  ·
    refine kb_iload_n X 2 rfl dX6_pace_11 ?_
    refine kb_iconst X dX6_pace_12 ?_
    refine kb_sipush X (by decide) dX6_pace_13 ?_
    refine kb_cSi X (rest := []) [kb_i q0, kb_i 1, kb_i 1000] (c_X6_within l D ad cy M q0 1 1000 (by first | omega | assumption | exact ⟨by omega, by omega⟩) (by first | omega | assumption | exact ⟨by omega, by omega⟩) (by first | omega | assumption | exact ⟨by omega, by omega⟩)) gX6_pace_X6_within rfl hy_X6_within ⟨by decide, by decide⟩ rfl (Nat.le_of_ble_eq_true rfl) ⟨by decide, by decide⟩ dX6_pace_16 rfl ?_
    refine kb_ifb_ne (tgt := 25) X dX6_pace_19 (by decide) (fun h2 => ?_) (fun h2 => ?_)
    ·
      refine kb_aload_n X 0 rfl dX6_pace_25 ?_
      refine kg_X6_heard X hi_X6_pace_X6 hf_X6_pace_26 dX6_pace_26 ?_
      refine kg_X1_size X hi_X6_pace_X1 hf_X6_pace_67 dX6_pace_29 ?_
      have g3 : -2147483648 ≤ M 3 3 ∧ M 3 3 < 2147483648 := hM 3 3
      refine kb_if_le (tgt := 38) X ⟨by omega, by omega⟩ dX6_pace_32 (by decide) (fun h4 => ?_) (fun h4 => ?_)
      ·
        refine kb_aload_n X 0 rfl dX6_pace_38 ?_
        refine kg_X6_elements X hi_X6_pace_X6 hf_X6_pace_10 dX6_pace_39 ?_
        refine kb_iload_n X 1 rfl dX6_pace_42 ?_
        refine kp_X3_steps X hi_X6_pace_X3 hf_X6_pace_70 ⟨by omega, by omega⟩ dX6_pace_43 ?_
        refine kb_aload_n X 0 rfl dX6_pace_46 ?_
        refine kg_X6_elements X hi_X6_pace_X6 hf_X6_pace_10 dX6_pace_47 ?_
        refine kb_iload_n X 2 rfl dX6_pace_50 ?_
        refine kp_X3_ticks X hi_X6_pace_X3 hf_X6_pace_73 ⟨by omega, by omega⟩ dX6_pace_51 ?_
        refine kb_iconst X dX6_pace_54 ?_
        exact kb_iret X hr hlocks dX6_pace_55 (by unfold sp_paceR; repeat (first | rw [if_pos (by omega)] | rw [if_neg (by omega)])) (by unfold sp_paceM; repeat (first | rw [if_pos (by omega)] | rw [if_neg (by omega)]))
      ·
        refine kb_bipush X (by decide) dX6_pace_35 ?_
        exact kb_iret X hr hlocks dX6_pace_37 (by unfold sp_paceR; repeat (first | rw [if_pos (by omega)] | rw [if_neg (by omega)])) (by unfold sp_paceM; repeat (first | rw [if_pos (by omega)] | rw [if_neg (by omega)]))
    ·
      refine kb_bipush X (by decide) dX6_pace_22 ?_
      exact kb_iret X hr hlocks dX6_pace_24 (by unfold sp_paceR; repeat (first | rw [if_pos (by omega)] | rw [if_neg (by omega)])) (by unfold sp_paceM; repeat (first | rw [if_pos (by omega)] | rw [if_neg (by omega)]))
-- X6_dead
theorem hf_X6_dead_10 : Cond.fieldLink yX6_dead.cls 10 RX6 "elements" "LSoundBoard$Probe;" ∈ wsX6_dead := by decide +kernel
theorem hf_X6_dead_83 : Cond.fieldLink yX6_dead.cls 83 RX3 "alive" "I" ∈ wsX6_dead := by decide +kernel
theorem hi_X6_dead_X3 : ∀ w ∈ wsX30, w ∈ wsX6_dead := by decide +kernel
theorem hi_X6_dead_X6 : ∀ w ∈ wsX60, w ∈ wsX6_dead := by decide +kernel
theorem hy_X6_dead : yX6_dead.cls ≠ "java/lang/invoke/MethodHandle" ∧ yX6_dead.cls ≠ "java/lang/invoke/VarHandle" ∧ (parseMethodDescriptor yX6_dead.desc).map (fun d => d.parameters.length) = some 2 := by decide +kernel
set_option maxHeartbeats 4000000 in
set_option maxRecDepth 100000 in
theorem c_X6_dead (l : Launch) (D : va_G) (ad : Nat → Nat) (cy : Nat → ClassId) (M : kb_M) (i : Int) (d : Int) (hi : -2147483648 ≤ i ∧ i < 2147483648) (hd : d = 0 ∨ d = 1) (hIP : sp_IP M) : kb_Ci l D ad cy yX6_dead wsX6_dead 2 43 [.ref (ad 0), kb_i i, kb_i d] M (sp_deadR M i d) (sp_deadM M i d) := by
  refine kb_mkCi (cc := cX6_dead) (maxL := 3) (lv := [(0, .ref (ad 0)), (1, kb_i i), (2, kb_i d)]) (plainFor_of_name (by decide)) rfl (Nat.le_of_ble_eq_true rfl) rfl ?_
  intro p e s m args below meth c X hr hlocks hM
  obtain ⟨hxs, hn, ha, hP, hT, hf⟩ := id hIP
  refine kb_aload_n X 0 rfl dX6_dead_0 ?_
  refine kg_X6_elements X hi_X6_dead_X6 hf_X6_dead_10 dX6_dead_1 ?_
  refine kb_iload_n X 1 rfl dX6_dead_4 ?_
  refine kb_cVi X (rest := []) [kb_i i] 1 (fl := [some 7, some 8, some 9, some 10, none, none, none, none, none, none, none]) (C := RX3) rfl rfl (c_X3_has l D ad cy M i (by first | omega | assumption | exact ⟨by omega, by omega⟩)) gX6_dead_X3_has rfl ⟨rfl, hy_X3_has⟩ ⟨by decide, by decide⟩ rfl (Nat.le_of_ble_eq_true rfl) ⟨by decide, by decide⟩ dX6_dead_5 rfl ?_
  refine kb_ifb_ne (tgt := 14) X dX6_dead_8 (by decide) (fun h1 => ?_) (fun h1 => ?_)
  ·
    refine kb_aload_n X 0 rfl dX6_dead_14 ?_
    refine kg_X6_elements X hi_X6_dead_X6 hf_X6_dead_10 dX6_dead_15 ?_
    refine kb_iload_n X 1 rfl dX6_dead_18 ?_
    refine kb_cVi X (rest := []) [kb_i i] 1 (fl := [some 7, some 8, some 9, some 10, none, none, none, none, none, none, none]) (C := RX3) rfl rfl (c_X3_isDead l D ad cy M i (by first | omega | assumption | exact ⟨by omega, by omega⟩)) gX6_dead_X3_isDead rfl ⟨rfl, hy_X3_isDead⟩ ⟨by decide, by decide⟩ rfl (Nat.le_of_ble_eq_true rfl) ⟨by decide, by decide⟩ dX6_dead_19 rfl ?_
    refine kb_iload_n X 2 rfl dX6_dead_22 ?_
    refine kb_icmp_eq (tgt := 41) X (kb_brg _) ⟨by omega, by omega⟩ dX6_dead_23 (by decide) (fun h2 => ?_) (fun h2 => ?_)
    ·
      refine kb_bipush X (by decide) dX6_dead_41 ?_
      exact kb_iret X hr hlocks dX6_dead_43 (by unfold sp_deadR; repeat (first | rw [if_pos (by omega)] | rw [if_neg (by omega)])) (by unfold sp_deadM; repeat (first | rw [if_pos (by omega)] | rw [if_neg (by omega)]))
    ·
      refine kb_iload_n X 2 rfl dX6_dead_26 ?_
      refine kb_if_eq (tgt := 44) X ⟨by omega, by omega⟩ dX6_dead_27 (by decide) (fun h3 => ?_) (fun h3 => ?_)
      ·
        refine kb_aload_n X 0 rfl dX6_dead_44 ?_
        refine kg_X6_elements X hi_X6_dead_X6 hf_X6_dead_10 dX6_dead_45 ?_
        refine kb_iload_n X 1 rfl dX6_dead_48 ?_
        refine kb_iload_n X 2 rfl dX6_dead_49 ?_
        refine kb_cVv X (rest := []) [kb_i i, kb_i d] 1 (fl := [some 7, some 8, some 9, some 10, none, none, none, none, none, none, none]) (C := RX3) rfl rfl (c_X3_setDead l D ad cy M i d (by first | omega | assumption | exact ⟨by omega, by omega⟩) (by first | omega | assumption | exact ⟨by omega, by omega⟩) (by first | omega | assumption | exact ⟨by omega, by omega⟩)) gX6_dead_X3_setDead rfl ⟨rfl, hy_X3_setDead⟩ ⟨by decide, by decide⟩ rfl (Nat.le_of_ble_eq_true rfl) ⟨by decide, by decide⟩ dX6_dead_50 rfl ?_
        refine kb_iconst X dX6_dead_53 ?_
        exact kb_iret X hr hlocks dX6_dead_54 (by unfold sp_deadR; repeat (first | rw [if_pos (by omega)] | rw [if_neg (by omega)])) (by unfold sp_deadM; repeat (first | rw [if_pos (by omega)] | rw [if_neg (by omega)]))
      ·
        refine kb_aload_n X 0 rfl dX6_dead_30 ?_
        refine kg_X6_elements X hi_X6_dead_X6 hf_X6_dead_10 dX6_dead_31 ?_
        refine kg_X3_alive X hi_X6_dead_X3 hf_X6_dead_83 dX6_dead_34 ?_
        have g4 : -2147483648 ≤ M 1 6 ∧ M 1 6 < 2147483648 := hM 1 6
        refine kb_iconst X dX6_dead_37 ?_
        refine kb_icmp_ne (tgt := 44) X ⟨by omega, by omega⟩ ⟨by decide, by decide⟩ dX6_dead_38 (by decide) (fun h5 => ?_) (fun h5 => ?_)
        ·
          refine kb_aload_n X 0 rfl dX6_dead_44 ?_
          refine kg_X6_elements X hi_X6_dead_X6 hf_X6_dead_10 dX6_dead_45 ?_
          refine kb_iload_n X 1 rfl dX6_dead_48 ?_
          refine kb_iload_n X 2 rfl dX6_dead_49 ?_
          refine kb_cVv X (rest := []) [kb_i i, kb_i d] 1 (fl := [some 7, some 8, some 9, some 10, none, none, none, none, none, none, none]) (C := RX3) rfl rfl (c_X3_setDead l D ad cy M i d (by first | omega | assumption | exact ⟨by omega, by omega⟩) (by first | omega | assumption | exact ⟨by omega, by omega⟩) (by first | omega | assumption | exact ⟨by omega, by omega⟩)) gX6_dead_X3_setDead rfl ⟨rfl, hy_X3_setDead⟩ ⟨by decide, by decide⟩ rfl (Nat.le_of_ble_eq_true rfl) ⟨by decide, by decide⟩ dX6_dead_50 rfl ?_
          refine kb_iconst X dX6_dead_53 ?_
          exact kb_iret X hr hlocks dX6_dead_54 (by unfold sp_deadR; repeat (first | rw [if_pos (by omega)] | rw [if_neg (by omega)])) (by unfold sp_deadM; repeat (first | rw [if_pos (by omega)] | rw [if_neg (by omega)]))
        ·
          refine kb_bipush X (by decide) dX6_dead_41 ?_
          exact kb_iret X hr hlocks dX6_dead_43 (by unfold sp_deadR; repeat (first | rw [if_pos (by omega)] | rw [if_neg (by omega)])) (by unfold sp_deadM; repeat (first | rw [if_pos (by omega)] | rw [if_neg (by omega)]))
  ·
    refine kb_bipush X (by decide) dX6_dead_11 ?_
    exact kb_iret X hr hlocks dX6_dead_13 (by unfold sp_deadR; repeat (first | rw [if_pos (by omega)] | rw [if_neg (by omega)])) (by unfold sp_deadM; repeat (first | rw [if_pos (by omega)] | rw [if_neg (by omega)]))
-- X6_delay
theorem hf_X6_delay_10 : Cond.fieldLink yX6_delay.cls 10 RX6 "elements" "LSoundBoard$Probe;" ∈ wsX6_delay := by decide +kernel
theorem hi_X6_delay_X6 : ∀ w ∈ wsX60, w ∈ wsX6_delay := by decide +kernel
theorem hy_X6_delay : yX6_delay.cls ≠ "java/lang/invoke/MethodHandle" ∧ yX6_delay.cls ≠ "java/lang/invoke/VarHandle" ∧ (parseMethodDescriptor yX6_delay.desc).map (fun d => d.parameters.length) = some 3 := by decide +kernel
set_option maxHeartbeats 4000000 in
set_option maxRecDepth 100000 in
theorem c_X6_delay (l : Launch) (D : va_G) (ad : Nat → Nat) (cy : Nat → ClassId) (M : kb_M) (i : Int) (x : Int) (z : Int) (hi : -2147483648 ≤ i ∧ i < 2147483648) (hx : -2147483648 ≤ x ∧ x < 2147483648) (hz : -2147483648 ≤ z ∧ z < 2147483648) (hIP : sp_IP M) : kb_Ci l D ad cy yX6_delay wsX6_delay 3 75 [.ref (ad 0), kb_i i, kb_i x, kb_i z] M (sp_delayR M i x z) (M) := by
  refine kb_mkCi (cc := cX6_delay) (maxL := 4) (lv := [(0, .ref (ad 0)), (1, kb_i i), (2, kb_i x), (3, kb_i z)]) (plainFor_of_name (by decide)) rfl (Nat.le_of_ble_eq_true rfl) rfl ?_
  intro p e s m args below meth c X hr hlocks hM
  obtain ⟨hxs, hn, ha, hP, hT, hf⟩ := id hIP
  refine kb_aload_n X 0 rfl dX6_delay_0 ?_
  refine kg_X6_elements X hi_X6_delay_X6 hf_X6_delay_10 dX6_delay_1 ?_
  refine kb_iload_n X 1 rfl dX6_delay_4 ?_
  refine kb_cVi X (rest := []) [kb_i i] 1 (fl := [some 7, some 8, some 9, some 10, none, none, none, none, none, none, none]) (C := RX3) rfl rfl (c_X3_has l D ad cy M i (by first | omega | assumption | exact ⟨by omega, by omega⟩)) gX6_delay_X3_has rfl ⟨rfl, hy_X3_has⟩ ⟨by decide, by decide⟩ rfl (Nat.le_of_ble_eq_true rfl) ⟨by decide, by decide⟩ dX6_delay_5 rfl ?_
  refine kb_ifb_eq (tgt := 19) X dX6_delay_8 (by decide) (fun h1 => ?_) (fun h1 => ?_)
  ·
    refine kb_bipush X (by decide) dX6_delay_19 ?_
    exact kb_iret X hr hlocks dX6_delay_21 (by unfold sp_delayR; repeat (first | rw [if_pos (by omega)] | rw [if_neg (by omega)])) (by first | rfl | (exfalso; omega))
  ·
    refine kb_iload_n X 2 rfl dX6_delay_11 ?_
    refine kb_iload_n X 3 rfl dX6_delay_12 ?_
    refine kb_cSi X (rest := []) [kb_i x, kb_i z] (c_X6_isPlace l D ad cy M x z (by first | omega | assumption | exact ⟨by omega, by omega⟩) (by first | omega | assumption | exact ⟨by omega, by omega⟩)) gX6_delay_X6_isPlace rfl hy_X6_isPlace ⟨by decide, by decide⟩ rfl (Nat.le_of_ble_eq_true rfl) ⟨by decide, by decide⟩ dX6_delay_13 rfl ?_
    refine kb_ifb_ne (tgt := 22) X dX6_delay_16 (by decide) (fun h2 => ?_) (fun h2 => ?_)
    ·
      refine kb_aload_n X 0 rfl dX6_delay_22 ?_
      refine kg_X6_elements X hi_X6_delay_X6 hf_X6_delay_10 dX6_delay_23 ?_
      refine kb_iload_n X 1 rfl dX6_delay_26 ?_
      refine kb_iload_n X 2 rfl dX6_delay_27 ?_
      refine kb_iload_n X 3 rfl dX6_delay_28 ?_
      refine kb_cVi X (rest := []) [kb_i i, kb_i x, kb_i z] 1 (fl := [some 7, some 8, some 9, some 10, none, none, none, none, none, none, none]) (C := RX3) rfl rfl (c_X3_delayOf l D ad cy M i x z (by first | omega | assumption | exact ⟨by omega, by omega⟩) (by first | omega | assumption | exact ⟨by omega, by omega⟩) (by first | omega | assumption | exact ⟨by omega, by omega⟩) (by first | omega | assumption | exact ⟨by omega, by omega⟩) (by first | omega | assumption | exact ⟨by omega, by omega⟩) (by first | omega | assumption | exact ⟨by omega, by omega⟩)) gX6_delay_X3_delayOf rfl ⟨rfl, hy_X3_delayOf⟩ ⟨by decide, by decide⟩ rfl (Nat.le_of_ble_eq_true rfl) ⟨by decide, by decide⟩ dX6_delay_29 rfl ?_
      have g3 : 0 ≤ (sp_dly M i x z) ∧ (sp_dly M i x z) ≤ 16001000 := by apply sp_dly_b <;> first | assumption | omega
      exact kb_iret X hr hlocks dX6_delay_32 (by unfold sp_delayR; repeat (first | rw [if_pos (by omega)] | rw [if_neg (by omega)])) (by first | rfl | (exfalso; omega))
    ·
      refine kb_bipush X (by decide) dX6_delay_19 ?_
      exact kb_iret X hr hlocks dX6_delay_21 (by unfold sp_delayR; repeat (first | rw [if_pos (by omega)] | rw [if_neg (by omega)])) (by first | rfl | (exfalso; omega))
-- X6_weight
theorem hf_X6_weight_10 : Cond.fieldLink yX6_weight.cls 10 RX6 "elements" "LSoundBoard$Probe;" ∈ wsX6_weight := by decide +kernel
theorem hi_X6_weight_X6 : ∀ w ∈ wsX60, w ∈ wsX6_weight := by decide +kernel
theorem hy_X6_weight : yX6_weight.cls ≠ "java/lang/invoke/MethodHandle" ∧ yX6_weight.cls ≠ "java/lang/invoke/VarHandle" ∧ (parseMethodDescriptor yX6_weight.desc).map (fun d => d.parameters.length) = some 3 := by decide +kernel
set_option maxHeartbeats 4000000 in
set_option maxRecDepth 100000 in
theorem c_X6_weight (l : Launch) (D : va_G) (ad : Nat → Nat) (cy : Nat → ClassId) (M : kb_M) (i : Int) (x : Int) (z : Int) (hi : -2147483648 ≤ i ∧ i < 2147483648) (hx : -2147483648 ≤ x ∧ x < 2147483648) (hz : -2147483648 ≤ z ∧ z < 2147483648) (hIP : sp_IP M) : kb_Ci l D ad cy yX6_weight wsX6_weight 3 71 [.ref (ad 0), kb_i i, kb_i x, kb_i z] M (sp_weightR M i x z) (M) := by
  refine kb_mkCi (cc := cX6_weight) (maxL := 4) (lv := [(0, .ref (ad 0)), (1, kb_i i), (2, kb_i x), (3, kb_i z)]) (plainFor_of_name (by decide)) rfl (Nat.le_of_ble_eq_true rfl) rfl ?_
  intro p e s m args below meth c X hr hlocks hM
  obtain ⟨hxs, hn, ha, hP, hT, hf⟩ := id hIP
  refine kb_aload_n X 0 rfl dX6_weight_0 ?_
  refine kg_X6_elements X hi_X6_weight_X6 hf_X6_weight_10 dX6_weight_1 ?_
  refine kb_iload_n X 1 rfl dX6_weight_4 ?_
  refine kb_cVi X (rest := []) [kb_i i] 1 (fl := [some 7, some 8, some 9, some 10, none, none, none, none, none, none, none]) (C := RX3) rfl rfl (c_X3_has l D ad cy M i (by first | omega | assumption | exact ⟨by omega, by omega⟩)) gX6_weight_X3_has rfl ⟨rfl, hy_X3_has⟩ ⟨by decide, by decide⟩ rfl (Nat.le_of_ble_eq_true rfl) ⟨by decide, by decide⟩ dX6_weight_5 rfl ?_
  refine kb_ifb_eq (tgt := 19) X dX6_weight_8 (by decide) (fun h1 => ?_) (fun h1 => ?_)
  ·
    refine kb_bipush X (by decide) dX6_weight_19 ?_
    exact kb_iret X hr hlocks dX6_weight_21 (by unfold sp_weightR; repeat (first | rw [if_pos (by omega)] | rw [if_neg (by omega)])) (by first | rfl | (exfalso; omega))
  ·
    refine kb_iload_n X 2 rfl dX6_weight_11 ?_
    refine kb_iload_n X 3 rfl dX6_weight_12 ?_
    refine kb_cSi X (rest := []) [kb_i x, kb_i z] (c_X6_isPlace l D ad cy M x z (by first | omega | assumption | exact ⟨by omega, by omega⟩) (by first | omega | assumption | exact ⟨by omega, by omega⟩)) gX6_weight_X6_isPlace rfl hy_X6_isPlace ⟨by decide, by decide⟩ rfl (Nat.le_of_ble_eq_true rfl) ⟨by decide, by decide⟩ dX6_weight_13 rfl ?_
    refine kb_ifb_ne (tgt := 22) X dX6_weight_16 (by decide) (fun h2 => ?_) (fun h2 => ?_)
    ·
      refine kb_aload_n X 0 rfl dX6_weight_22 ?_
      refine kg_X6_elements X hi_X6_weight_X6 hf_X6_weight_10 dX6_weight_23 ?_
      refine kb_iload_n X 1 rfl dX6_weight_26 ?_
      refine kb_iload_n X 2 rfl dX6_weight_27 ?_
      refine kb_iload_n X 3 rfl dX6_weight_28 ?_
      refine kb_cVi X (rest := []) [kb_i i, kb_i x, kb_i z] 1 (fl := [some 7, some 8, some 9, some 10, none, none, none, none, none, none, none]) (C := RX3) rfl rfl (c_X3_weightOf l D ad cy M i x z (by first | omega | assumption | exact ⟨by omega, by omega⟩) (by first | omega | assumption | exact ⟨by omega, by omega⟩) (by first | omega | assumption | exact ⟨by omega, by omega⟩) (by first | omega | assumption | exact ⟨by omega, by omega⟩) (by first | omega | assumption | exact ⟨by omega, by omega⟩)) gX6_weight_X3_weightOf rfl ⟨rfl, hy_X3_weightOf⟩ ⟨by decide, by decide⟩ rfl (Nat.le_of_ble_eq_true rfl) ⟨by decide, by decide⟩ dX6_weight_29 rfl ?_
      have g3 : 0 ≤ (sp_wt M i x z) ∧ (sp_wt M i x z) ≤ 4001 := by apply sp_wt_b2 <;> first | assumption | omega
      exact kb_iret X hr hlocks dX6_weight_32 (by unfold sp_weightR; repeat (first | rw [if_pos (by omega)] | rw [if_neg (by omega)])) (by first | rfl | (exfalso; omega))
    ·
      refine kb_bipush X (by decide) dX6_weight_19 ?_
      exact kb_iret X hr hlocks dX6_weight_21 (by unfold sp_weightR; repeat (first | rw [if_pos (by omega)] | rw [if_neg (by omega)])) (by first | rfl | (exfalso; omega))
-- X6_point
theorem hf_X6_point_19 : Cond.fieldLink yX6_point.cls 19 RX6 "scene" "LSoundBoard$Scene;" ∈ wsX6_point := by decide +kernel
theorem hf_X6_point_98 : Cond.fieldLink yX6_point.cls 98 RX5 "size" "I" ∈ wsX6_point := by decide +kernel
theorem hi_X6_point_X5 : ∀ w ∈ wsX50, w ∈ wsX6_point := by decide +kernel
theorem hi_X6_point_X6 : ∀ w ∈ wsX60, w ∈ wsX6_point := by decide +kernel
theorem hy_X6_point : yX6_point.cls ≠ "java/lang/invoke/MethodHandle" ∧ yX6_point.cls ≠ "java/lang/invoke/VarHandle" ∧ (parseMethodDescriptor yX6_point.desc).map (fun d => d.parameters.length) = some 5 := by decide +kernel
set_option maxHeartbeats 4000000 in
set_option maxRecDepth 100000 in
theorem c_X6_point (l : Launch) (D : va_G) (ad : Nat → Nat) (cy : Nat → ClassId) (M : kb_M) (x : Int) (z : Int) (t0 : Int) (dx : Int) (dz : Int) (hx : -2147483648 ≤ x ∧ x < 2147483648) (hz : -2147483648 ≤ z ∧ z < 2147483648) (ht0 : -2147483648 ≤ t0 ∧ t0 < 2147483648) (hdx : -2147483648 ≤ dx ∧ dx < 2147483648) (hdz : -2147483648 ≤ dz ∧ dz < 2147483648) (hsc : sp_sc M) : kb_Ci l D ad cy yX6_point wsX6_point 2 43 [.ref (ad 0), kb_i x, kb_i z, kb_i t0, kb_i dx, kb_i dz] M (sp_pointR M x z t0 dx dz) (sp_pointM M x z t0 dx dz) := by
  refine kb_mkCi (cc := cX6_point) (maxL := 6) (lv := [(0, .ref (ad 0)), (1, kb_i x), (2, kb_i z), (3, kb_i t0), (4, kb_i dx), (5, kb_i dz)]) (plainFor_of_name (by decide)) rfl (Nat.le_of_ble_eq_true rfl) rfl ?_
  intro p e s m args below meth c X hr hlocks hM
  have hn := hsc.1
  refine kb_iload_n X 1 rfl dX6_point_0 ?_
  refine kb_iload_n X 2 rfl dX6_point_1 ?_
  refine kb_cSi X (rest := []) [kb_i x, kb_i z] (c_X6_isPlace l D ad cy M x z (by first | omega | assumption | exact ⟨by omega, by omega⟩) (by first | omega | assumption | exact ⟨by omega, by omega⟩)) gX6_point_X6_isPlace rfl hy_X6_isPlace ⟨by decide, by decide⟩ rfl (Nat.le_of_ble_eq_true rfl) ⟨by decide, by decide⟩ dX6_point_2 rfl ?_
  refine kb_ifb_eq (tgt := 47) X dX6_point_5 (by decide) (fun h1 => ?_) (fun h1 => ?_)
  ·
    refine kb_bipush X (by decide) dX6_point_47 ?_
    exact kb_iret X hr hlocks dX6_point_49 (by unfold sp_pointR; repeat (first | rw [if_pos (by omega)] | rw [if_neg (by omega)])) (by unfold sp_pointM; repeat (first | rw [if_pos (by omega)] | rw [if_neg (by omega)]); first | rfl | done)
  ·
    refine kb_iload_n X 3 rfl dX6_point_8 ?_
    refine kb_bipush X (by decide) dX6_point_9 ?_
    refine kb_bipush X (by decide) dX6_point_11 ?_
    refine kb_cSi X (rest := []) [kb_i t0, kb_i ((-100)), kb_i 100] (c_X6_within l D ad cy M t0 ((-100)) 100 (by first | omega | assumption | exact ⟨by omega, by omega⟩) (by first | omega | assumption | exact ⟨by omega, by omega⟩) (by first | omega | assumption | exact ⟨by omega, by omega⟩)) gX6_point_X6_within rfl hy_X6_within ⟨by decide, by decide⟩ rfl (Nat.le_of_ble_eq_true rfl) ⟨by decide, by decide⟩ dX6_point_13 rfl ?_
    refine kb_ifb_eq (tgt := 47) X dX6_point_16 (by decide) (fun h2 => ?_) (fun h2 => ?_)
    ·
      refine kb_bipush X (by decide) dX6_point_47 ?_
      exact kb_iret X hr hlocks dX6_point_49 (by unfold sp_pointR; repeat (first | rw [if_pos (by omega)] | rw [if_neg (by omega)])) (by unfold sp_pointM; repeat (first | rw [if_pos (by omega)] | rw [if_neg (by omega)]); first | rfl | done)
    ·
      refine kb_iload X 4 rfl dX6_point_19 ?_
      refine kb_sipush X (by decide) dX6_point_21 ?_
      refine kb_sipush X (by decide) dX6_point_24 ?_
      refine kb_cSi X (rest := []) [kb_i dx, kb_i ((-200)), kb_i 200] (c_X6_within l D ad cy M dx ((-200)) 200 (by first | omega | assumption | exact ⟨by omega, by omega⟩) (by first | omega | assumption | exact ⟨by omega, by omega⟩) (by first | omega | assumption | exact ⟨by omega, by omega⟩)) gX6_point_X6_within rfl hy_X6_within ⟨by decide, by decide⟩ rfl (Nat.le_of_ble_eq_true rfl) ⟨by decide, by decide⟩ dX6_point_27 rfl ?_
      refine kb_ifb_eq (tgt := 47) X dX6_point_30 (by decide) (fun h3 => ?_) (fun h3 => ?_)
      ·
        refine kb_bipush X (by decide) dX6_point_47 ?_
        exact kb_iret X hr hlocks dX6_point_49 (by unfold sp_pointR; repeat (first | rw [if_pos (by omega)] | rw [if_neg (by omega)])) (by unfold sp_pointM; repeat (first | rw [if_pos (by omega)] | rw [if_neg (by omega)]); first | rfl | done)
      ·
        refine kb_iload X 5 rfl dX6_point_33 ?_
        refine kb_sipush X (by decide) dX6_point_35 ?_
        refine kb_sipush X (by decide) dX6_point_38 ?_
        refine kb_cSi X (rest := []) [kb_i dz, kb_i ((-200)), kb_i 200] (c_X6_within l D ad cy M dz ((-200)) 200 (by first | omega | assumption | exact ⟨by omega, by omega⟩) (by first | omega | assumption | exact ⟨by omega, by omega⟩) (by first | omega | assumption | exact ⟨by omega, by omega⟩)) gX6_point_X6_within rfl hy_X6_within ⟨by decide, by decide⟩ rfl (Nat.le_of_ble_eq_true rfl) ⟨by decide, by decide⟩ dX6_point_41 rfl ?_
        refine kb_ifb_ne (tgt := 50) X dX6_point_44 (by decide) (fun h4 => ?_) (fun h4 => ?_)
        ·
          refine kb_aload_n X 0 rfl dX6_point_50 ?_
          refine kg_X6_scene X hi_X6_point_X6 hf_X6_point_19 dX6_point_51 ?_
          refine kg_X5_size X hi_X6_point_X5 hf_X6_point_98 dX6_point_54 ?_
          have g5 : -2147483648 ≤ M 2 5 ∧ M 2 5 < 2147483648 := hM 2 5
          refine kb_bipush X (by decide) dX6_point_57 ?_
          refine kb_icmp_lt (tgt := 65) X ⟨by omega, by omega⟩ ⟨by decide, by decide⟩ dX6_point_59 (by decide) (fun h6 => ?_) (fun h6 => ?_)
          ·
            refine kb_aload_n X 0 rfl dX6_point_65 ?_
            refine kg_X6_scene X hi_X6_point_X6 hf_X6_point_19 dX6_point_66 ?_
            refine kb_iload_n X 1 rfl dX6_point_69 ?_
            refine kb_iload_n X 2 rfl dX6_point_70 ?_
            refine kb_iload_n X 3 rfl dX6_point_71 ?_
            refine kb_iload X 4 rfl dX6_point_72 ?_
            refine kb_iload X 5 rfl dX6_point_74 ?_
            refine kb_cVi X (rest := []) [kb_i x, kb_i z, kb_i t0, kb_i dx, kb_i dz] 2 (fl := [some 11, some 12, some 13, some 14, some 15, none]) (C := RX5) rfl rfl (c_X5_put l D ad cy M x z t0 dx dz (by first | omega | assumption | exact ⟨by omega, by omega⟩) (by first | omega | assumption | exact ⟨by omega, by omega⟩) (by first | omega | assumption | exact ⟨by omega, by omega⟩) (by first | omega | assumption | exact ⟨by omega, by omega⟩) (by first | omega | assumption | exact ⟨by omega, by omega⟩) (by first | omega | assumption | exact ⟨by omega, by omega⟩)) gX6_point_X5_put rfl ⟨rfl, hy_X5_put⟩ ⟨by decide, by decide⟩ rfl (Nat.le_of_ble_eq_true rfl) ⟨by decide, by decide⟩ dX6_point_76 rfl ?_
            exact kb_iret X hr hlocks dX6_point_79 (by unfold sp_pointR; repeat (first | rw [if_pos (by omega)] | rw [if_neg (by omega)])) (by unfold sp_pointM; repeat (first | rw [if_pos (by omega)] | rw [if_neg (by omega)]); first | rfl | done)
          ·
            refine kb_bipush X (by decide) dX6_point_62 ?_
            exact kb_iret X hr hlocks dX6_point_64 (by unfold sp_pointR; repeat (first | rw [if_pos (by omega)] | rw [if_neg (by omega)])) (by unfold sp_pointM; repeat (first | rw [if_pos (by omega)] | rw [if_neg (by omega)]); first | rfl | done)
        ·
          refine kb_bipush X (by decide) dX6_point_47 ?_
          exact kb_iret X hr hlocks dX6_point_49 (by unfold sp_pointR; repeat (first | rw [if_pos (by omega)] | rw [if_neg (by omega)])) (by unfold sp_pointM; repeat (first | rw [if_pos (by omega)] | rw [if_neg (by omega)]); first | rfl | done)
-- X6_clear
theorem hf_X6_clear_19 : Cond.fieldLink yX6_clear.cls 19 RX6 "scene" "LSoundBoard$Scene;" ∈ wsX6_clear := by decide +kernel
theorem hf_X6_clear_98 : Cond.fieldLink yX6_clear.cls 98 RX5 "size" "I" ∈ wsX6_clear := by decide +kernel
theorem hi_X6_clear_X5 : ∀ w ∈ wsX50, w ∈ wsX6_clear := by decide +kernel
theorem hi_X6_clear_X6 : ∀ w ∈ wsX60, w ∈ wsX6_clear := by decide +kernel
theorem hy_X6_clear : yX6_clear.cls ≠ "java/lang/invoke/MethodHandle" ∧ yX6_clear.cls ≠ "java/lang/invoke/VarHandle" ∧ (parseMethodDescriptor yX6_clear.desc).map (fun d => d.parameters.length) = some 0 := by decide +kernel
set_option maxHeartbeats 4000000 in
set_option maxRecDepth 100000 in
theorem c_X6_clear (l : Launch) (D : va_G) (ad : Nat → Nat) (cy : Nat → ClassId) (M : kb_M)   : kb_Ci l D ad cy yX6_clear wsX6_clear 0 0 [.ref (ad 0)] M (M 2 5) (kb_wr M 2 5 0) := by
  refine kb_mkCi (cc := cX6_clear) (maxL := 2) (lv := [(0, .ref (ad 0))]) (plainFor_of_name (by decide)) rfl (Nat.le_of_ble_eq_true rfl) rfl ?_
  intro p e s m args below meth c X hr hlocks hM
  refine kb_aload_n X 0 rfl dX6_clear_0 ?_
  refine kg_X6_scene X hi_X6_clear_X6 hf_X6_clear_19 dX6_clear_1 ?_
  refine kg_X5_size X hi_X6_clear_X5 hf_X6_clear_98 dX6_clear_4 ?_
  have g1 : -2147483648 ≤ M 2 5 ∧ M 2 5 < 2147483648 := hM 2 5
  refine kb_istore_n (lv' := [(1, kb_i (M 2 5)), (0, .ref (ad 0))]) X dX6_clear_7 (by decide) rfl ?_
  refine kb_aload_n X 1 rfl dX6_clear_8 ?_
  refine kg_X6_scene X hi_X6_clear_X6 hf_X6_clear_19 dX6_clear_9 ?_
  refine kb_iconst X dX6_clear_12 ?_
  refine kp_X5_size X hi_X6_clear_X5 hf_X6_clear_98 ⟨by decide, by decide⟩ dX6_clear_13 ?_
  refine kb_iload_n X 0 rfl dX6_clear_16 ?_
  exact kb_iret X hr hlocks dX6_clear_17 (by first | rfl | assumption | omega | exact (kb_b1 (by omega)).symm | exact (kb_b0 (by omega)).symm) (by first | rfl | (exfalso; omega))
-- X6_pointAt
theorem hf_X6_pointAt_19 : Cond.fieldLink yX6_pointAt.cls 19 RX6 "scene" "LSoundBoard$Scene;" ∈ wsX6_pointAt := by decide +kernel
theorem hf_X6_pointAt_104 : Cond.fieldLink yX6_pointAt.cls 104 RX5 "xs" "[I" ∈ wsX6_pointAt := by decide +kernel
theorem hf_X6_pointAt_108 : Cond.fieldLink yX6_pointAt.cls 108 RX5 "zs" "[I" ∈ wsX6_pointAt := by decide +kernel
theorem hf_X6_pointAt_111 : Cond.fieldLink yX6_pointAt.cls 111 RX5 "strengths" "[I" ∈ wsX6_pointAt := by decide +kernel
theorem hi_X6_pointAt_X5 : ∀ w ∈ wsX50, w ∈ wsX6_pointAt := by decide +kernel
theorem hi_X6_pointAt_X6 : ∀ w ∈ wsX60, w ∈ wsX6_pointAt := by decide +kernel
theorem hy_X6_pointAt : yX6_pointAt.cls ≠ "java/lang/invoke/MethodHandle" ∧ yX6_pointAt.cls ≠ "java/lang/invoke/VarHandle" ∧ (parseMethodDescriptor yX6_pointAt.desc).map (fun d => d.parameters.length) = some 2 := by decide +kernel
set_option maxHeartbeats 4000000 in
set_option maxRecDepth 100000 in
theorem c_X6_pointAt (l : Launch) (D : va_G) (ad : Nat → Nat) (cy : Nat → ClassId) (M : kb_M) (k : Int) (t0 : Int) (hk : -2147483648 ≤ k ∧ k < 2147483648) (ht0 : -2147483648 ≤ t0 ∧ t0 < 2147483648) : kb_Ci l D ad cy yX6_pointAt wsX6_pointAt 1 21 [.ref (ad 0), kb_i k, kb_i t0] M (sp_pointAtR M k t0) (M) := by
  refine kb_mkCi (cc := cX6_pointAt) (maxL := 3) (lv := [(0, .ref (ad 0)), (1, kb_i k), (2, kb_i t0)]) (plainFor_of_name (by decide)) rfl (Nat.le_of_ble_eq_true rfl) rfl ?_
  intro p e s m args below meth c X hr hlocks hM
  refine kb_aload_n X 0 rfl dX6_pointAt_0 ?_
  refine kg_X6_scene X hi_X6_pointAt_X6 hf_X6_pointAt_19 dX6_pointAt_1 ?_
  refine kb_iload_n X 1 rfl dX6_pointAt_4 ?_
  refine kb_cVi X (rest := []) [kb_i k] 2 (fl := [some 11, some 12, some 13, some 14, some 15, none]) (C := RX5) rfl rfl (c_X5_has l D ad cy M k (by first | omega | assumption | exact ⟨by omega, by omega⟩)) gX6_pointAt_X5_has rfl ⟨rfl, hy_X5_has⟩ ⟨by decide, by decide⟩ rfl (Nat.le_of_ble_eq_true rfl) ⟨by decide, by decide⟩ dX6_pointAt_5 rfl ?_
  refine kb_ifb_ne (tgt := 15) X dX6_pointAt_8 (by decide) (fun h1 => ?_) (fun h1 => ?_)
  ·
    refine kb_iload_n X 2 rfl dX6_pointAt_15 ?_
    rcases (show t0 < 0 ∨ 2 < t0 ∨ t0 = 0 ∨ t0 = 1 ∨ t0 = 2 by omega) with h2 | h2 | h2 | h2 | h2
    ·
      refine kb_tabOut (tgt := 74) X ⟨by omega, by omega⟩ dX6_pointAt_16 (by omega) (by decide) ?_
      refine kb_sipush X (by decide) dX6_pointAt_74 ?_
      exact kb_iret X hr hlocks dX6_pointAt_77 (by unfold sp_pointAtR; repeat (first | rw [if_pos (by omega)] | rw [if_neg (by omega)])) (by first | rfl | (exfalso; omega))
    ·
      refine kb_tabOut (tgt := 74) X ⟨by omega, by omega⟩ dX6_pointAt_16 (by omega) (by decide) ?_
      refine kb_sipush X (by decide) dX6_pointAt_74 ?_
      exact kb_iret X hr hlocks dX6_pointAt_77 (by unfold sp_pointAtR; repeat (first | rw [if_pos (by omega)] | rw [if_neg (by omega)])) (by first | rfl | (exfalso; omega))
    ·
      refine kb_tabIn (tgt := 44) X _ ⟨by omega, by omega⟩ dX6_pointAt_16 (by omega) (by omega) (off := 28) (by rw [h2]; rfl) (by decide) ?_
      refine kb_aload_n X 0 rfl dX6_pointAt_44 ?_
      refine kg_X6_scene X hi_X6_pointAt_X6 hf_X6_pointAt_19 dX6_pointAt_45 ?_
      refine kg_X5_xs X hi_X6_pointAt_X5 hf_X6_pointAt_104 dX6_pointAt_48 ?_
      refine kb_iload_n X 1 rfl dX6_pointAt_51 ?_
      refine kb_iald X 11 (n := 8) rfl ⟨by omega, by omega⟩ (by decide) dX6_pointAt_52 ?_
      have g3 : -2147483648 ≤ M 11 k ∧ M 11 k < 2147483648 := hM 11 k
      exact kb_iret X hr hlocks dX6_pointAt_53 (by unfold sp_pointAtR; repeat (first | rw [if_pos (by omega)] | rw [if_neg (by omega)])) (by first | rfl | (exfalso; omega))
    ·
      refine kb_tabIn (tgt := 54) X _ ⟨by omega, by omega⟩ dX6_pointAt_16 (by omega) (by omega) (off := 38) (by rw [h2]; rfl) (by decide) ?_
      refine kb_aload_n X 0 rfl dX6_pointAt_54 ?_
      refine kg_X6_scene X hi_X6_pointAt_X6 hf_X6_pointAt_19 dX6_pointAt_55 ?_
      refine kg_X5_zs X hi_X6_pointAt_X5 hf_X6_pointAt_108 dX6_pointAt_58 ?_
      refine kb_iload_n X 1 rfl dX6_pointAt_61 ?_
      refine kb_iald X 12 (n := 8) rfl ⟨by omega, by omega⟩ (by decide) dX6_pointAt_62 ?_
      have g4 : -2147483648 ≤ M 12 k ∧ M 12 k < 2147483648 := hM 12 k
      exact kb_iret X hr hlocks dX6_pointAt_63 (by unfold sp_pointAtR; repeat (first | rw [if_pos (by omega)] | rw [if_neg (by omega)])) (by first | rfl | (exfalso; omega))
    ·
      refine kb_tabIn (tgt := 64) X _ ⟨by omega, by omega⟩ dX6_pointAt_16 (by omega) (by omega) (off := 48) (by rw [h2]; rfl) (by decide) ?_
      refine kb_aload_n X 0 rfl dX6_pointAt_64 ?_
      refine kg_X6_scene X hi_X6_pointAt_X6 hf_X6_pointAt_19 dX6_pointAt_65 ?_
      refine kg_X5_strengths X hi_X6_pointAt_X5 hf_X6_pointAt_111 dX6_pointAt_68 ?_
      refine kb_iload_n X 1 rfl dX6_pointAt_71 ?_
      refine kb_iald X 13 (n := 8) rfl ⟨by omega, by omega⟩ (by decide) dX6_pointAt_72 ?_
      have g5 : -2147483648 ≤ M 13 k ∧ M 13 k < 2147483648 := hM 13 k
      exact kb_iret X hr hlocks dX6_pointAt_73 (by unfold sp_pointAtR; repeat (first | rw [if_pos (by omega)] | rw [if_neg (by omega)])) (by first | rfl | (exfalso; omega))
  ·
    refine kb_sipush X (by decide) dX6_pointAt_11 ?_
    exact kb_iret X hr hlocks dX6_pointAt_14 (by unfold sp_pointAtR; repeat (first | rw [if_pos (by omega)] | rw [if_neg (by omega)])) (by first | rfl | (exfalso; omega))
-- X6_sample
theorem hf_X6_sample_10 : Cond.fieldLink yX6_sample.cls 10 RX6 "elements" "LSoundBoard$Probe;" ∈ wsX6_sample := by decide +kernel
theorem hf_X6_sample_26 : Cond.fieldLink yX6_sample.cls 26 RX6 "heard" "LSoundBoard$Looks;" ∈ wsX6_sample := by decide +kernel
theorem hi_X6_sample_X6 : ∀ w ∈ wsX60, w ∈ wsX6_sample := by decide +kernel
theorem hy_X6_sample : yX6_sample.cls ≠ "java/lang/invoke/MethodHandle" ∧ yX6_sample.cls ≠ "java/lang/invoke/VarHandle" ∧ (parseMethodDescriptor yX6_sample.desc).map (fun d => d.parameters.length) = some 3 := by decide +kernel
set_option maxHeartbeats 4000000 in
set_option maxRecDepth 100000 in
theorem c_X6_sample (l : Launch) (D : va_G) (ad : Nat → Nat) (cy : Nat → ClassId) (M : kb_M) (lk : Int) (i : Int) (s0 : Int) (hlk : -2147483648 ≤ lk ∧ lk < 2147483648) (hi : -2147483648 ≤ i ∧ i < 2147483648) (hs0 : -2147483648 ≤ s0 ∧ s0 < 2147483648) (hIL : sp_IL M) : kb_Ci l D ad cy yX6_sample wsX6_sample 4 90 [.ref (ad 0), kb_i lk, kb_i i, kb_i s0] M (sp_sampleR M lk i s0) (M) := by
  refine kb_mkCi (cc := cX6_sample) (maxL := 4) (lv := [(0, .ref (ad 0)), (1, kb_i lk), (2, kb_i i), (3, kb_i s0)]) (plainFor_of_name (by decide)) rfl (Nat.le_of_ble_eq_true rfl) rfl ?_
  intro p e s m args below meth c X hr hlocks hM
  obtain ⟨ho, hs, hsb⟩ := id hIL
  refine kb_aload_n X 0 rfl dX6_sample_0 ?_
  refine kg_X6_heard X hi_X6_sample_X6 hf_X6_sample_26 dX6_sample_1 ?_
  refine kb_iload_n X 1 rfl dX6_sample_4 ?_
  refine kb_cVi X (rest := []) [kb_i lk] 3 (fl := [some 16, some 17, none, none, none]) (C := RX1) rfl rfl (c_X1_has l D ad cy M lk (by first | omega | assumption | exact ⟨by omega, by omega⟩)) gX6_sample_X1_has rfl ⟨rfl, hy_X1_has⟩ ⟨by decide, by decide⟩ rfl (Nat.le_of_ble_eq_true rfl) ⟨by decide, by decide⟩ dX6_sample_5 rfl ?_
  refine kb_ifb_eq (tgt := 33) X dX6_sample_8 (by decide) (fun h1 => ?_) (fun h1 => ?_)
  ·
    refine kb_ldc (v := -1000000) X (-1000000) (by decide +kernel) (by decide) dX6_sample_33 ?_
    exact kb_iret X hr hlocks dX6_sample_35 (by unfold sp_sampleR; repeat (first | rw [if_pos (by omega)] | rw [if_neg (by omega)])) (by first | rfl | (exfalso; omega))
  ·
    refine kb_aload_n X 0 rfl dX6_sample_11 ?_
    refine kg_X6_elements X hi_X6_sample_X6 hf_X6_sample_10 dX6_sample_12 ?_
    refine kb_iload_n X 2 rfl dX6_sample_15 ?_
    refine kb_cVi X (rest := []) [kb_i i] 1 (fl := [some 7, some 8, some 9, some 10, none, none, none, none, none, none, none]) (C := RX3) rfl rfl (c_X3_has l D ad cy M i (by first | omega | assumption | exact ⟨by omega, by omega⟩)) gX6_sample_X3_has rfl ⟨rfl, hy_X3_has⟩ ⟨by decide, by decide⟩ rfl (Nat.le_of_ble_eq_true rfl) ⟨by decide, by decide⟩ dX6_sample_16 rfl ?_
    refine kb_ifb_eq (tgt := 33) X dX6_sample_19 (by decide) (fun h2 => ?_) (fun h2 => ?_)
    ·
      refine kb_ldc (v := -1000000) X (-1000000) (by decide +kernel) (by decide) dX6_sample_33 ?_
      exact kb_iret X hr hlocks dX6_sample_35 (by unfold sp_sampleR; repeat (first | rw [if_pos (by omega)] | rw [if_neg (by omega)])) (by first | rfl | (exfalso; omega))
    ·
      refine kb_iload_n X 3 rfl dX6_sample_22 ?_
      refine kb_iconst X dX6_sample_23 ?_
      refine kb_sipush X (by decide) dX6_sample_24 ?_
      refine kb_cSi X (rest := []) [kb_i s0, kb_i 0, kb_i 399] (c_X6_within l D ad cy M s0 0 399 (by first | omega | assumption | exact ⟨by omega, by omega⟩) (by first | omega | assumption | exact ⟨by omega, by omega⟩) (by first | omega | assumption | exact ⟨by omega, by omega⟩)) gX6_sample_X6_within rfl hy_X6_within ⟨by decide, by decide⟩ rfl (Nat.le_of_ble_eq_true rfl) ⟨by decide, by decide⟩ dX6_sample_27 rfl ?_
      refine kb_ifb_ne (tgt := 36) X dX6_sample_30 (by decide) (fun h3 => ?_) (fun h3 => ?_)
      ·
        refine kb_aload_n X 0 rfl dX6_sample_36 ?_
        refine kg_X6_heard X hi_X6_sample_X6 hf_X6_sample_26 dX6_sample_37 ?_
        refine kb_iload_n X 1 rfl dX6_sample_40 ?_
        refine kb_iload_n X 2 rfl dX6_sample_41 ?_
        refine kb_iload_n X 3 rfl dX6_sample_42 ?_
        refine kb_cVi X (rest := []) [kb_i lk, kb_i i, kb_i s0] 3 (fl := [some 16, some 17, none, none, none]) (C := RX1) rfl rfl (c_X1_at l D ad cy M lk i s0 (by first | omega | assumption | exact ⟨by omega, by omega⟩) (by first | omega | assumption | exact ⟨by omega, by omega⟩) (by first | omega | assumption | exact ⟨by omega, by omega⟩) (by first | omega | assumption | exact ⟨by omega, by omega⟩)) gX6_sample_X1_at rfl ⟨rfl, hy_X1_at⟩ ⟨by decide, by decide⟩ rfl (Nat.le_of_ble_eq_true rfl) ⟨by decide, by decide⟩ dX6_sample_43 rfl ?_
        exact kb_iret X hr hlocks dX6_sample_46 (by unfold sp_sampleR; repeat (first | rw [if_pos (by omega)] | rw [if_neg (by omega)])) (by first | rfl | (exfalso; omega))
      ·
        refine kb_ldc (v := -1000000) X (-1000000) (by decide +kernel) (by decide) dX6_sample_33 ?_
        exact kb_iret X hr hlocks dX6_sample_35 (by unfold sp_sampleR; repeat (first | rw [if_pos (by omega)] | rw [if_neg (by omega)])) (by first | rfl | (exfalso; omega))
-- X6_window
theorem hf_X6_window_10 : Cond.fieldLink yX6_window.cls 10 RX6 "elements" "LSoundBoard$Probe;" ∈ wsX6_window := by decide +kernel
theorem hf_X6_window_147 : Cond.fieldLink yX6_window.cls 147 RX3 "window" "I" ∈ wsX6_window := by decide +kernel
theorem hf_X6_window_150 : Cond.fieldLink yX6_window.cls 150 RX3 "narrowness" "I" ∈ wsX6_window := by decide +kernel
theorem hi_X6_window_X3 : ∀ w ∈ wsX30, w ∈ wsX6_window := by decide +kernel
theorem hi_X6_window_X6 : ∀ w ∈ wsX60, w ∈ wsX6_window := by decide +kernel
theorem hy_X6_window : yX6_window.cls ≠ "java/lang/invoke/MethodHandle" ∧ yX6_window.cls ≠ "java/lang/invoke/VarHandle" ∧ (parseMethodDescriptor yX6_window.desc).map (fun d => d.parameters.length) = some 2 := by decide +kernel
set_option maxHeartbeats 4000000 in
set_option maxRecDepth 100000 in
theorem c_X6_window (l : Launch) (D : va_G) (ad : Nat → Nat) (cy : Nat → ClassId) (M : kb_M) (w : Int) (f : Int) (hw : -2147483648 ≤ w ∧ w < 2147483648) (hf : -2147483648 ≤ f ∧ f < 2147483648) : kb_Ci l D ad cy yX6_window wsX6_window 1 22 [.ref (ad 0), kb_i w, kb_i f] M (sp_windowR M w f) (sp_windowM M w f) := by
  refine kb_mkCi (cc := cX6_window) (maxL := 4) (lv := [(0, .ref (ad 0)), (1, kb_i w), (2, kb_i f)]) (plainFor_of_name (by decide)) rfl (Nat.le_of_ble_eq_true rfl) rfl ?_
  intro p e s m args below meth c X hr hlocks hM
  refine kb_iload_n X 1 rfl dX6_window_0 ?_
  refine kb_iconst X dX6_window_1 ?_
  refine kb_iconst X dX6_window_2 ?_
  refine kb_cSi X (rest := []) [kb_i w, kb_i 0, kb_i 2] (c_X6_within l D ad cy M w 0 2 (by first | omega | assumption | exact ⟨by omega, by omega⟩) (by first | omega | assumption | exact ⟨by omega, by omega⟩) (by first | omega | assumption | exact ⟨by omega, by omega⟩)) gX6_window_X6_within rfl hy_X6_within ⟨by decide, by decide⟩ rfl (Nat.le_of_ble_eq_true rfl) ⟨by decide, by decide⟩ dX6_window_3 rfl ?_
  refine kb_ifb_eq (tgt := 19) X dX6_window_6 (by decide) (fun h1 => ?_) (fun h1 => ?_)
  ·
    refine kb_bipush X (by decide) dX6_window_19 ?_
    exact kb_iret X hr hlocks dX6_window_21 (by unfold sp_windowR; repeat (first | rw [if_pos (by omega)] | rw [if_neg (by omega)])) (by unfold sp_windowM; repeat (first | rw [if_pos (by omega)] | rw [if_neg (by omega)]))
  ·
    refine kb_iload_n X 2 rfl dX6_window_9 ?_
    refine kb_iconst X dX6_window_10 ?_
    refine kb_bipush X (by decide) dX6_window_11 ?_
    refine kb_cSi X (rest := []) [kb_i f, kb_i 1, kb_i 9] (c_X6_within l D ad cy M f 1 9 (by first | omega | assumption | exact ⟨by omega, by omega⟩) (by first | omega | assumption | exact ⟨by omega, by omega⟩) (by first | omega | assumption | exact ⟨by omega, by omega⟩)) gX6_window_X6_within rfl hy_X6_within ⟨by decide, by decide⟩ rfl (Nat.le_of_ble_eq_true rfl) ⟨by decide, by decide⟩ dX6_window_13 rfl ?_
    refine kb_ifb_ne (tgt := 22) X dX6_window_16 (by decide) (fun h2 => ?_) (fun h2 => ?_)
    ·
      refine kb_aload_n X 0 rfl dX6_window_22 ?_
      refine kg_X6_elements X hi_X6_window_X6 hf_X6_window_10 dX6_window_23 ?_
      refine kg_X3_window X hi_X6_window_X3 hf_X6_window_147 dX6_window_26 ?_
      have g3 : -2147483648 ≤ M 1 9 ∧ M 1 9 < 2147483648 := hM 1 9
      refine kb_istore_n (lv' := [(3, kb_i (M 1 9)), (0, .ref (ad 0)), (1, kb_i w), (2, kb_i f)]) X dX6_window_29 (by decide) rfl ?_
      refine kb_aload_n X 1 rfl dX6_window_30 ?_
      refine kg_X6_elements X hi_X6_window_X6 hf_X6_window_10 dX6_window_31 ?_
      refine kb_iload_n X 2 rfl dX6_window_34 ?_
      refine kp_X3_window X hi_X6_window_X3 hf_X6_window_147 ⟨by omega, by omega⟩ dX6_window_35 ?_
      refine kb_aload_n X 1 rfl dX6_window_38 ?_
      refine kg_X6_elements X hi_X6_window_X6 hf_X6_window_10 dX6_window_39 ?_
      refine kb_iload_n X 3 rfl dX6_window_42 ?_
      refine kp_X3_narrowness X hi_X6_window_X3 hf_X6_window_150 ⟨by omega, by omega⟩ dX6_window_43 ?_
      refine kb_iload_n X 0 rfl dX6_window_46 ?_
      exact kb_iret X hr hlocks dX6_window_47 (by unfold sp_windowR; repeat (first | rw [if_pos (by omega)] | rw [if_neg (by omega)])) (by unfold sp_windowM; repeat (first | rw [if_pos (by omega)] | rw [if_neg (by omega)]))
    ·
      refine kb_bipush X (by decide) dX6_window_19 ?_
      exact kb_iret X hr hlocks dX6_window_21 (by unfold sp_windowR; repeat (first | rw [if_pos (by omega)] | rw [if_neg (by omega)])) (by unfold sp_windowM; repeat (first | rw [if_pos (by omega)] | rw [if_neg (by omega)]))
-- X6_cap
theorem hf_X6_cap_47 : Cond.fieldLink yX6_cap.cls 47 RX6 "power" "LSoundBoard$Power;" ∈ wsX6_cap := by decide +kernel
theorem hf_X6_cap_114 : Cond.fieldLink yX6_cap.cls 114 RX2 "most" "I" ∈ wsX6_cap := by decide +kernel
theorem hi_X6_cap_X2 : ∀ w ∈ wsX20, w ∈ wsX6_cap := by decide +kernel
theorem hi_X6_cap_X6 : ∀ w ∈ wsX60, w ∈ wsX6_cap := by decide +kernel
theorem hy_X6_cap : yX6_cap.cls ≠ "java/lang/invoke/MethodHandle" ∧ yX6_cap.cls ≠ "java/lang/invoke/VarHandle" ∧ (parseMethodDescriptor yX6_cap.desc).map (fun d => d.parameters.length) = some 1 := by decide +kernel
set_option maxHeartbeats 4000000 in
set_option maxRecDepth 100000 in
theorem c_X6_cap (l : Launch) (D : va_G) (ad : Nat → Nat) (cy : Nat → ClassId) (M : kb_M) (n : Int) (hn : -2147483648 ≤ n ∧ n < 2147483648) : kb_Ci l D ad cy yX6_cap wsX6_cap 1 22 [.ref (ad 0), kb_i n] M (sp_capR M n) (sp_capM M n) := by
  refine kb_mkCi (cc := cX6_cap) (maxL := 3) (lv := [(0, .ref (ad 0)), (1, kb_i n)]) (plainFor_of_name (by decide)) rfl (Nat.le_of_ble_eq_true rfl) rfl ?_
  intro p e s m args below meth c X hr hlocks hM
  refine kb_iload_n X 1 rfl dX6_cap_0 ?_
  refine kb_iconst X dX6_cap_1 ?_
  refine kb_ldc (v := 1000000) X (1000000) (by decide +kernel) (by decide) dX6_cap_2 ?_
  refine kb_cSi X (rest := []) [kb_i n, kb_i 0, kb_i 1000000] (c_X6_within l D ad cy M n 0 1000000 (by first | omega | assumption | exact ⟨by omega, by omega⟩) (by first | omega | assumption | exact ⟨by omega, by omega⟩) (by first | omega | assumption | exact ⟨by omega, by omega⟩)) gX6_cap_X6_within rfl hy_X6_within ⟨by decide, by decide⟩ rfl (Nat.le_of_ble_eq_true rfl) ⟨by decide, by decide⟩ dX6_cap_4 rfl ?_
  refine kb_ifb_ne (tgt := 13) X dX6_cap_7 (by decide) (fun h1 => ?_) (fun h1 => ?_)
  ·
    refine kb_aload_n X 0 rfl dX6_cap_13 ?_
    refine kg_X6_power X hi_X6_cap_X6 hf_X6_cap_47 dX6_cap_14 ?_
    refine kg_X2_most X hi_X6_cap_X2 hf_X6_cap_114 dX6_cap_17 ?_
    have g2 : -2147483648 ≤ M 6 1 ∧ M 6 1 < 2147483648 := hM 6 1
    refine kb_istore_n (lv' := [(2, kb_i (M 6 1)), (0, .ref (ad 0)), (1, kb_i n)]) X dX6_cap_20 (by decide) rfl ?_
    refine kb_aload_n X 1 rfl dX6_cap_21 ?_
    refine kg_X6_power X hi_X6_cap_X6 hf_X6_cap_47 dX6_cap_22 ?_
    refine kb_iload_n X 2 rfl dX6_cap_25 ?_
    refine kp_X2_most X hi_X6_cap_X2 hf_X6_cap_114 ⟨by omega, by omega⟩ dX6_cap_26 ?_
    refine kb_iload_n X 0 rfl dX6_cap_29 ?_
    exact kb_iret X hr hlocks dX6_cap_30 (by unfold sp_capR; repeat (first | rw [if_pos (by omega)] | rw [if_neg (by omega)])) (by unfold sp_capM; repeat (first | rw [if_pos (by omega)] | rw [if_neg (by omega)]))
  ·
    refine kb_bipush X (by decide) dX6_cap_10 ?_
    exact kb_iret X hr hlocks dX6_cap_12 (by unfold sp_capR; repeat (first | rw [if_pos (by omega)] | rw [if_neg (by omega)])) (by unfold sp_capM; repeat (first | rw [if_pos (by omega)] | rw [if_neg (by omega)]))
-- X6_tick
theorem hf_X6_tick_47 : Cond.fieldLink yX6_tick.cls 47 RX6 "power" "LSoundBoard$Power;" ∈ wsX6_tick := by decide +kernel
theorem hf_X6_tick_63 : Cond.fieldLink yX6_tick.cls 63 RX2 "heat" "I" ∈ wsX6_tick := by decide +kernel
theorem hi_X6_tick_X2 : ∀ w ∈ wsX20, w ∈ wsX6_tick := by decide +kernel
theorem hi_X6_tick_X6 : ∀ w ∈ wsX60, w ∈ wsX6_tick := by decide +kernel
theorem hy_X6_tick : yX6_tick.cls ≠ "java/lang/invoke/MethodHandle" ∧ yX6_tick.cls ≠ "java/lang/invoke/VarHandle" ∧ (parseMethodDescriptor yX6_tick.desc).map (fun d => d.parameters.length) = some 1 := by decide +kernel
set_option maxHeartbeats 4000000 in
set_option maxRecDepth 100000 in
theorem c_X6_tick (l : Launch) (D : va_G) (ad : Nat → Nat) (cy : Nat → ClassId) (M : kb_M) (n : Int) (hn : -2147483648 ≤ n ∧ n < 2147483648) (hh : 0 ≤ M 6 0 ∧ M 6 0 ≤ 1000000) : kb_Ci l D ad cy yX6_tick wsX6_tick 1 22 [.ref (ad 0), kb_i n] M (sp_tickR M n) (sp_tickM M n) := by
  refine kb_mkCi (cc := cX6_tick) (maxL := 3) (lv := [(0, .ref (ad 0)), (1, kb_i n)]) (plainFor_of_name (by decide)) rfl (Nat.le_of_ble_eq_true rfl) rfl ?_
  intro p e s m args below meth c X hr hlocks hM
  refine kb_iload_n X 1 rfl dX6_tick_0 ?_
  refine kb_iconst X dX6_tick_1 ?_
  refine kb_sipush X (by decide) dX6_tick_2 ?_
  refine kb_cSi X (rest := []) [kb_i n, kb_i 1, kb_i 1000] (c_X6_within l D ad cy M n 1 1000 (by first | omega | assumption | exact ⟨by omega, by omega⟩) (by first | omega | assumption | exact ⟨by omega, by omega⟩) (by first | omega | assumption | exact ⟨by omega, by omega⟩)) gX6_tick_X6_within rfl hy_X6_within ⟨by decide, by decide⟩ rfl (Nat.le_of_ble_eq_true rfl) ⟨by decide, by decide⟩ dX6_tick_5 rfl ?_
  refine kb_ifb_ne (tgt := 14) X dX6_tick_8 (by decide) (fun h1 => ?_) (fun h1 => ?_)
  ·
    refine kb_iconst X dX6_tick_14 ?_
    refine kb_istore_n (lv' := [(2, kb_i 0), (0, .ref (ad 0)), (1, kb_i n)]) X dX6_tick_15 (by decide) rfl ?_
    have L16 : ∀ nn_ : Nat, ∀ (a : Int), (1000 - a).toNat < nn_ → (0 ≤ a ∧ a ≤ n) → kb_B p l e ({ frames := 1, cells := 0, slots := 0, locals := 22 } : Room) s m args below meth c D ad cy (kb_A ad s.heap.size) 3 0 0 (MQ below (va_Qi (fun (vq_ : Int32) (_ : Unit) => vq_ = kb_J (sp_tickR M n)) (fun _ t => kb_en2 D ad cy (sp_tickM M n) t) (kb_A ad s.heap.size)) args s 0 0 (kb_A ad s.heap.size)) 16 [(0, .ref (ad 0)), (1, kb_i n), (2, kb_i a)] [] ((sp_tkI M a)) := by
      intro nn_
      induction nn_ with
      | zero => intro a hn; exact absurd hn (Nat.not_lt_zero _)
      | succ nn_ ih2 =>
        intro a hn hI
        have cb := sp_cool_b hh a.toNat
        refine kb_iload_n X 2 rfl dX6_tick_16 ?_
        refine kb_iload_n X 1 rfl dX6_tick_17 ?_
        refine kb_icmp_ge (tgt := 34) X ⟨by omega, by omega⟩ ⟨by omega, by omega⟩ dX6_tick_18 (by decide) (fun h3 => ?_) (fun h3 => ?_)
        ·
          refine kb_aload_n X 0 rfl dX6_tick_34 ?_
          refine kg_X6_power X hi_X6_tick_X6 hf_X6_tick_47 dX6_tick_35 ?_
          refine kg_X2_heat X hi_X6_tick_X2 hf_X6_tick_63 dX6_tick_38 ?_
          refine kb_eqi (b := sp_cool (M 6 0) a.toNat) (by first | rfl | simp [kb_wr]) ?_
          exact kb_iret X hr hlocks dX6_tick_41 (by (have e : a = n := by omega); subst e; unfold sp_tickR; rw [if_pos (by omega)]) (by (have e : a = n := by omega); subst e; unfold sp_tickM; rw [if_pos (by omega)])
        ·
          refine kb_aload_n X 0 rfl dX6_tick_21 ?_
          refine kg_X6_power X hi_X6_tick_X6 hf_X6_tick_47 dX6_tick_22 ?_
          refine kb_cVv X (rest := []) [] 6 (fl := [none, none]) (C := RX2) rfl rfl (c_X2_cool l D ad cy ((sp_tkI M a))  (show 0 ≤ sp_cool (M 6 0) a.toNat ∧ sp_cool (M 6 0) a.toNat ≤ 2000000 from (by first | omega | assumption | exact ⟨by omega, by omega⟩))) gX6_tick_X2_cool rfl ⟨rfl, hy_X2_cool⟩ ⟨by decide, by decide⟩ rfl (Nat.le_of_ble_eq_true rfl) ⟨by decide, by decide⟩ dX6_tick_25 rfl ?_
          refine kb_iinc (lv' := [(2, kb_i (a + 1)), (0, .ref (ad 0)), (1, kb_i n)]) X 2 rfl dX6_tick_28 rfl (by decide) rfl ?_
          refine kb_goto (tgt := 16) X dX6_tick_31 (by decide) ?_
          refine kb_sub [1, 2, 0] (lv' := [(0, .ref (ad 0)), (1, kb_i n), (2, kb_i (a + 1))]) rfl ?_
          refine kb_eqM (M' := sp_tkI M (a + 1)) ((sp_tkI_S M a hI.1).symm) ?_
          exact ih2 (a + 1) (by omega) (by first | omega | assumption | exact ⟨by omega, by omega⟩)
    refine kb_sub [1, 2, 0] (lv' := [(0, .ref (ad 0)), (1, kb_i n), (2, kb_i 0)]) rfl ?_
    refine kb_eqM (M' := sp_tkI M 0) ((sp_wrself M 6 0)) ?_
    exact L16 _ 0 (Nat.lt_succ_self _) (by first | omega | assumption | exact ⟨by omega, by omega⟩)
  ·
    refine kb_bipush X (by decide) dX6_tick_11 ?_
    exact kb_iret X hr hlocks dX6_tick_13 (by unfold sp_tickR; repeat (first | rw [if_pos (by omega)] | rw [if_neg (by omega)])) (by unfold sp_tickM; repeat (first | rw [if_pos (by omega)] | rw [if_neg (by omega)]))
-- X6_count
theorem hf_X6_count_10 : Cond.fieldLink yX6_count.cls 10 RX6 "elements" "LSoundBoard$Probe;" ∈ wsX6_count := by decide +kernel
theorem hf_X6_count_19 : Cond.fieldLink yX6_count.cls 19 RX6 "scene" "LSoundBoard$Scene;" ∈ wsX6_count := by decide +kernel
theorem hf_X6_count_26 : Cond.fieldLink yX6_count.cls 26 RX6 "heard" "LSoundBoard$Looks;" ∈ wsX6_count := by decide +kernel
theorem hf_X6_count_33 : Cond.fieldLink yX6_count.cls 33 RX6 "ring" "LSoundBoard$Ring;" ∈ wsX6_count := by decide +kernel
theorem hf_X6_count_47 : Cond.fieldLink yX6_count.cls 47 RX6 "power" "LSoundBoard$Power;" ∈ wsX6_count := by decide +kernel
theorem hf_X6_count_63 : Cond.fieldLink yX6_count.cls 63 RX2 "heat" "I" ∈ wsX6_count := by decide +kernel
theorem hf_X6_count_67 : Cond.fieldLink yX6_count.cls 67 RX1 "size" "I" ∈ wsX6_count := by decide +kernel
theorem hf_X6_count_83 : Cond.fieldLink yX6_count.cls 83 RX3 "alive" "I" ∈ wsX6_count := by decide +kernel
theorem hf_X6_count_98 : Cond.fieldLink yX6_count.cls 98 RX5 "size" "I" ∈ wsX6_count := by decide +kernel
theorem hf_X6_count_137 : Cond.fieldLink yX6_count.cls 137 RX3 "size" "I" ∈ wsX6_count := by decide +kernel
theorem hf_X6_count_178 : Cond.fieldLink yX6_count.cls 178 RX4 "size" "I" ∈ wsX6_count := by decide +kernel
theorem hf_X6_count_226 : Cond.fieldLink yX6_count.cls 226 RX1 "ever" "I" ∈ wsX6_count := by decide +kernel
theorem hi_X6_count_X1 : ∀ w ∈ wsX10, w ∈ wsX6_count := by decide +kernel
theorem hi_X6_count_X2 : ∀ w ∈ wsX20, w ∈ wsX6_count := by decide +kernel
theorem hi_X6_count_X3 : ∀ w ∈ wsX30, w ∈ wsX6_count := by decide +kernel
theorem hi_X6_count_X4 : ∀ w ∈ wsX40, w ∈ wsX6_count := by decide +kernel
theorem hi_X6_count_X5 : ∀ w ∈ wsX50, w ∈ wsX6_count := by decide +kernel
theorem hi_X6_count_X6 : ∀ w ∈ wsX60, w ∈ wsX6_count := by decide +kernel
theorem hy_X6_count : yX6_count.cls ≠ "java/lang/invoke/MethodHandle" ∧ yX6_count.cls ≠ "java/lang/invoke/VarHandle" ∧ (parseMethodDescriptor yX6_count.desc).map (fun d => d.parameters.length) = some 1 := by decide +kernel
set_option maxHeartbeats 4000000 in
set_option maxRecDepth 100000 in
theorem c_X6_count (l : Launch) (D : va_G) (ad : Nat → Nat) (cy : Nat → ClassId) (M : kb_M) (t0 : Int) (ht0 : -2147483648 ≤ t0 ∧ t0 < 2147483648) : kb_Ci l D ad cy yX6_count wsX6_count 0 0 [.ref (ad 0), kb_i t0] M (sp_countR M t0) (M) := by
  refine kb_mkCi (cc := cX6_count) (maxL := 2) (lv := [(0, .ref (ad 0)), (1, kb_i t0)]) (plainFor_of_name (by decide)) rfl (Nat.le_of_ble_eq_true rfl) rfl ?_
  intro p e s m args below meth c X hr hlocks hM
  refine kb_iload_n X 1 rfl dX6_count_0 ?_
  rcases (show t0 < 0 ∨ 6 < t0 ∨ t0 = 0 ∨ t0 = 1 ∨ t0 = 2 ∨ t0 = 3 ∨ t0 = 4 ∨ t0 = 5 ∨ t0 = 6 by omega) with h1 | h1 | h1 | h1 | h1 | h1 | h1 | h1 | h1
  ·
    refine kb_tabOut (tgt := 100) X ⟨by omega, by omega⟩ dX6_count_1 (by omega) (by decide) ?_
    refine kb_bipush X (by decide) dX6_count_100 ?_
    exact kb_iret X hr hlocks dX6_count_102 (by unfold sp_countR; repeat (first | rw [if_pos (by omega)] | rw [if_neg (by omega)])) (by first | rfl | (exfalso; omega))
  ·
    refine kb_tabOut (tgt := 100) X ⟨by omega, by omega⟩ dX6_count_1 (by omega) (by decide) ?_
    refine kb_bipush X (by decide) dX6_count_100 ?_
    exact kb_iret X hr hlocks dX6_count_102 (by unfold sp_countR; repeat (first | rw [if_pos (by omega)] | rw [if_neg (by omega)])) (by first | rfl | (exfalso; omega))
  ·
    refine kb_tabIn (tgt := 44) X _ ⟨by omega, by omega⟩ dX6_count_1 (by omega) (by omega) (off := 43) (by rw [h1]; rfl) (by decide) ?_
    refine kb_aload_n X 0 rfl dX6_count_44 ?_
    refine kg_X6_elements X hi_X6_count_X6 hf_X6_count_10 dX6_count_45 ?_
    refine kg_X3_size X hi_X6_count_X3 hf_X6_count_137 dX6_count_48 ?_
    have g2 : -2147483648 ≤ M 1 5 ∧ M 1 5 < 2147483648 := hM 1 5
    exact kb_iret X hr hlocks dX6_count_51 (by unfold sp_countR; repeat (first | rw [if_pos (by omega)] | rw [if_neg (by omega)])) (by first | rfl | (exfalso; omega))
  ·
    refine kb_tabIn (tgt := 52) X _ ⟨by omega, by omega⟩ dX6_count_1 (by omega) (by omega) (off := 51) (by rw [h1]; rfl) (by decide) ?_
    refine kb_aload_n X 0 rfl dX6_count_52 ?_
    refine kg_X6_elements X hi_X6_count_X6 hf_X6_count_10 dX6_count_53 ?_
    refine kg_X3_alive X hi_X6_count_X3 hf_X6_count_83 dX6_count_56 ?_
    have g3 : -2147483648 ≤ M 1 6 ∧ M 1 6 < 2147483648 := hM 1 6
    exact kb_iret X hr hlocks dX6_count_59 (by unfold sp_countR; repeat (first | rw [if_pos (by omega)] | rw [if_neg (by omega)])) (by first | rfl | (exfalso; omega))
  ·
    refine kb_tabIn (tgt := 60) X _ ⟨by omega, by omega⟩ dX6_count_1 (by omega) (by omega) (off := 59) (by rw [h1]; rfl) (by decide) ?_
    refine kb_aload_n X 0 rfl dX6_count_60 ?_
    refine kg_X6_scene X hi_X6_count_X6 hf_X6_count_19 dX6_count_61 ?_
    refine kg_X5_size X hi_X6_count_X5 hf_X6_count_98 dX6_count_64 ?_
    have g4 : -2147483648 ≤ M 2 5 ∧ M 2 5 < 2147483648 := hM 2 5
    exact kb_iret X hr hlocks dX6_count_67 (by unfold sp_countR; repeat (first | rw [if_pos (by omega)] | rw [if_neg (by omega)])) (by first | rfl | (exfalso; omega))
  ·
    refine kb_tabIn (tgt := 68) X _ ⟨by omega, by omega⟩ dX6_count_1 (by omega) (by omega) (off := 67) (by rw [h1]; rfl) (by decide) ?_
    refine kb_aload_n X 0 rfl dX6_count_68 ?_
    refine kg_X6_heard X hi_X6_count_X6 hf_X6_count_26 dX6_count_69 ?_
    refine kg_X1_size X hi_X6_count_X1 hf_X6_count_67 dX6_count_72 ?_
    have g5 : -2147483648 ≤ M 3 3 ∧ M 3 3 < 2147483648 := hM 3 3
    exact kb_iret X hr hlocks dX6_count_75 (by unfold sp_countR; repeat (first | rw [if_pos (by omega)] | rw [if_neg (by omega)])) (by first | rfl | (exfalso; omega))
  ·
    refine kb_tabIn (tgt := 76) X _ ⟨by omega, by omega⟩ dX6_count_1 (by omega) (by omega) (off := 75) (by rw [h1]; rfl) (by decide) ?_
    refine kb_aload_n X 0 rfl dX6_count_76 ?_
    refine kg_X6_ring X hi_X6_count_X6 hf_X6_count_33 dX6_count_77 ?_
    refine kg_X4_size X hi_X6_count_X4 hf_X6_count_178 dX6_count_80 ?_
    have g6 : -2147483648 ≤ M 4 4 ∧ M 4 4 < 2147483648 := hM 4 4
    exact kb_iret X hr hlocks dX6_count_83 (by unfold sp_countR; repeat (first | rw [if_pos (by omega)] | rw [if_neg (by omega)])) (by first | rfl | (exfalso; omega))
  ·
    refine kb_tabIn (tgt := 84) X _ ⟨by omega, by omega⟩ dX6_count_1 (by omega) (by omega) (off := 83) (by rw [h1]; rfl) (by decide) ?_
    refine kb_aload_n X 0 rfl dX6_count_84 ?_
    refine kg_X6_power X hi_X6_count_X6 hf_X6_count_47 dX6_count_85 ?_
    refine kg_X2_heat X hi_X6_count_X2 hf_X6_count_63 dX6_count_88 ?_
    have g7 : -2147483648 ≤ M 6 0 ∧ M 6 0 < 2147483648 := hM 6 0
    exact kb_iret X hr hlocks dX6_count_91 (by unfold sp_countR; repeat (first | rw [if_pos (by omega)] | rw [if_neg (by omega)])) (by first | rfl | (exfalso; omega))
  ·
    refine kb_tabIn (tgt := 92) X _ ⟨by omega, by omega⟩ dX6_count_1 (by omega) (by omega) (off := 91) (by rw [h1]; rfl) (by decide) ?_
    refine kb_aload_n X 0 rfl dX6_count_92 ?_
    refine kg_X6_heard X hi_X6_count_X6 hf_X6_count_26 dX6_count_93 ?_
    refine kg_X1_ever X hi_X6_count_X1 hf_X6_count_226 dX6_count_96 ?_
    have g8 : -2147483648 ≤ M 3 4 ∧ M 3 4 < 2147483648 := hM 3 4
    exact kb_iret X hr hlocks dX6_count_99 (by unfold sp_countR; repeat (first | rw [if_pos (by omega)] | rw [if_neg (by omega)])) (by first | rfl | (exfalso; omega))
-- X6_caliper
theorem hy_X6_caliper : yX6_caliper.cls ≠ "java/lang/invoke/MethodHandle" ∧ yX6_caliper.cls ≠ "java/lang/invoke/VarHandle" ∧ (parseMethodDescriptor yX6_caliper.desc).map (fun d => d.parameters.length) = some 4 := by decide +kernel
theorem hm_X6_caliper_abs : Cond.methodLink yX6_caliper.cls 213 Lib.Math.abs.name ∈ wsX6_caliper ∧ Cond.static Lib.Math.abs.name ∈ wsX6_caliper ∧ Cond.initialized "java/lang/Math" ∈ wsX6_caliper ∧ Cond.code Lib.Math.abs.name Lib.Math.abs.code 1 (some .int) ∈ wsX6_caliper := by decide +kernel
set_option maxHeartbeats 4000000 in
set_option maxRecDepth 100000 in
theorem c_X6_caliper (l : Launch) (D : va_G) (ad : Nat → Nat) (cy : Nat → ClassId) (M : kb_M) (x : Int) (z : Int) (u0 : Int) (v0 : Int) (hx : -2147483648 ≤ x ∧ x < 2147483648) (hz : -2147483648 ≤ z ∧ z < 2147483648) (hu0 : -2147483648 ≤ u0 ∧ u0 < 2147483648) (hv0 : -2147483648 ≤ v0 ∧ v0 < 2147483648) : kb_Ci l D ad cy yX6_caliper wsX6_caliper 2 43 [.ref (ad 0), kb_i x, kb_i z, kb_i u0, kb_i v0] M (sp_calR x z u0 v0) (M) := by
  refine kb_mkCi (cc := cX6_caliper) (maxL := 9) (lv := [(0, .ref (ad 0)), (1, kb_i x), (2, kb_i z), (3, kb_i u0), (4, kb_i v0)]) (plainFor_of_name (by decide)) rfl (Nat.le_of_ble_eq_true rfl) rfl ?_
  intro p e s m args below meth c X hr hlocks hM
  refine kb_iload_n X 1 rfl dX6_caliper_0 ?_
  refine kb_iload_n X 2 rfl dX6_caliper_1 ?_
  refine kb_cSi X (rest := []) [kb_i x, kb_i z] (c_X6_isPlace l D ad cy M x z (by first | omega | assumption | exact ⟨by omega, by omega⟩) (by first | omega | assumption | exact ⟨by omega, by omega⟩)) gX6_caliper_X6_isPlace rfl hy_X6_isPlace ⟨by decide, by decide⟩ rfl (Nat.le_of_ble_eq_true rfl) ⟨by decide, by decide⟩ dX6_caliper_2 rfl ?_
  refine kb_ifb_eq (tgt := 17) X dX6_caliper_5 (by decide) (fun h1 => ?_) (fun h1 => ?_)
  ·
    refine kb_bipush X (by decide) dX6_caliper_17 ?_
    exact kb_iret X hr hlocks dX6_caliper_19 (by unfold sp_calR; repeat (first | rw [if_pos (by omega)] | rw [if_neg (by omega)])) (by first | rfl | (exfalso; omega))
  ·
    refine kb_iload_n X 3 rfl dX6_caliper_8 ?_
    refine kb_iload X 4 rfl dX6_caliper_9 ?_
    refine kb_cSi X (rest := []) [kb_i u0, kb_i v0] (c_X6_isPlace l D ad cy M u0 v0 (by first | omega | assumption | exact ⟨by omega, by omega⟩) (by first | omega | assumption | exact ⟨by omega, by omega⟩)) gX6_caliper_X6_isPlace rfl hy_X6_isPlace ⟨by decide, by decide⟩ rfl (Nat.le_of_ble_eq_true rfl) ⟨by decide, by decide⟩ dX6_caliper_11 rfl ?_
    refine kb_ifb_ne (tgt := 20) X dX6_caliper_14 (by decide) (fun h2 => ?_) (fun h2 => ?_)
    ·
      refine kb_iload_n X 1 rfl dX6_caliper_20 ?_
      refine kb_iload_n X 3 rfl dX6_caliper_21 ?_
      refine kb_isub X dX6_caliper_22 ?_
      refine kb_mabs X ⟨by omega, by omega⟩ (by omega) hm_X6_caliper_abs.1 hm_X6_caliper_abs.2.1 hm_X6_caliper_abs.2.2.1 hm_X6_caliper_abs.2.2.2 (by decide) (Nat.le_of_ble_eq_true rfl) (by decide) (by decide) dX6_caliper_23 ?_
      refine kb_i2l X ⟨by omega, by omega⟩ dX6_caliper_26 ?_
      refine kb_nml (fun x5_3 ex5_3 => ?_)
      refine kb_lstore (lv' := [(5, kb_l (x5_3)), (0, .ref (ad 0)), (1, kb_i x), (2, kb_i z), (3, kb_i u0), (4, kb_i v0)]) X dX6_caliper_27 (by decide) rfl ?_
      refine kb_iload_n X 3 rfl dX6_caliper_29 ?_
      refine kb_iload X 5 rfl dX6_caliper_30 ?_
      refine kb_isub X dX6_caliper_32 ?_
      refine kb_mabs X ⟨by omega, by omega⟩ (by omega) hm_X6_caliper_abs.1 hm_X6_caliper_abs.2.1 hm_X6_caliper_abs.2.2.1 hm_X6_caliper_abs.2.2.2 (by decide) (Nat.le_of_ble_eq_true rfl) (by decide) (by decide) dX6_caliper_33 ?_
      refine kb_i2l X ⟨by omega, by omega⟩ dX6_caliper_36 ?_
      refine kb_nml (fun x7_4 ex7_4 => ?_)
      refine kb_lstore (lv' := [(7, kb_l (x7_4)), (5, kb_l (x5_3)), (0, .ref (ad 0)), (1, kb_i x), (2, kb_i z), (3, kb_i u0), (4, kb_i v0)]) X dX6_caliper_37 (by decide) rfl ?_
      have cb := sp_calb (a := x5_3) (b := x7_4) (by omega) (by omega)
      refine kb_lload X 1 rfl dX6_caliper_39 ?_
      refine kb_lload X 1 rfl dX6_caliper_41 ?_
      refine kb_lmul X dX6_caliper_43 ?_
      refine kb_lload X 0 rfl dX6_caliper_44 ?_
      refine kb_lload X 0 rfl dX6_caliper_46 ?_
      refine kb_lmul X dX6_caliper_48 ?_
      refine kb_ladd X dX6_caliper_49 ?_
      refine kb_lload X 1 rfl dX6_caliper_50 ?_
      refine kb_lload X 0 rfl dX6_caliper_52 ?_
      refine kb_ladd X dX6_caliper_54 ?_
      refine kb_cSl X (rest := []) [kb_l ((x5_3 * x5_3) + (x7_4 * x7_4)), kb_l (x5_3 + x7_4)] (c_X6_root l D ad cy M ((x5_3 * x5_3) + (x7_4 * x7_4)) (x5_3 + x7_4) (by omega) (by exact cb.2.2) (by omega)) gX6_caliper_X6_root rfl hy_X6_root ⟨by decide, by decide⟩ rfl (Nat.le_of_ble_eq_true rfl) ⟨by decide, by decide⟩ dX6_caliper_55 rfl ?_
      refine kb_l2i X dX6_caliper_58 ?_
      exact kb_iret X hr hlocks dX6_caliper_59 (by subst_vars; unfold sp_calR; rw [if_pos (by omega), sp_absq, sp_absq]) (by first | rfl | (exfalso; omega))
    ·
      refine kb_bipush X (by decide) dX6_caliper_17 ?_
      exact kb_iret X hr hlocks dX6_caliper_19 (by unfold sp_calR; repeat (first | rw [if_pos (by omega)] | rw [if_neg (by omega)])) (by first | rfl | (exfalso; omega))
-- X6_fanAt
theorem hf_X6_fanAt_40 : Cond.fieldLink yX6_fanAt.cls 40 RX6 "laid" "LSoundBoard$Fan;" ∈ wsX6_fanAt := by decide +kernel
theorem hi_X6_fanAt_X6 : ∀ w ∈ wsX60, w ∈ wsX6_fanAt := by decide +kernel
theorem hy_X6_fanAt : yX6_fanAt.cls ≠ "java/lang/invoke/MethodHandle" ∧ yX6_fanAt.cls ≠ "java/lang/invoke/VarHandle" ∧ (parseMethodDescriptor yX6_fanAt.desc).map (fun d => d.parameters.length) = some 2 := by decide +kernel
set_option maxHeartbeats 4000000 in
set_option maxRecDepth 100000 in
theorem c_X6_fanAt (l : Launch) (D : va_G) (ad : Nat → Nat) (cy : Nat → ClassId) (M : kb_M) (a : Int) (k : Int) (ha : -2147483648 ≤ a ∧ a < 2147483648) (hk : -2147483648 ≤ k ∧ k < 2147483648) : kb_Ci l D ad cy yX6_fanAt wsX6_fanAt 2 44 [.ref (ad 0), kb_i a, kb_i k] M (sp_fanAtR M a k) (M) := by
  refine kb_mkCi (cc := cX6_fanAt) (maxL := 3) (lv := [(0, .ref (ad 0)), (1, kb_i a), (2, kb_i k)]) (plainFor_of_name (by decide)) rfl (Nat.le_of_ble_eq_true rfl) rfl ?_
  intro p e s m args below meth c X hr hlocks hM
  refine kb_aload_n X 0 rfl dX6_fanAt_0 ?_
  refine kg_X6_laid X hi_X6_fanAt_X6 hf_X6_fanAt_40 dX6_fanAt_1 ?_
  refine kb_iload_n X 1 rfl dX6_fanAt_4 ?_
  refine kb_iload_n X 2 rfl dX6_fanAt_5 ?_
  refine kb_cVi X (rest := []) [kb_i a, kb_i k] 5 (fl := [some 21, none, none, none]) (C := RX0) rfl rfl (c_X0_has l D ad cy M a k (by first | omega | assumption | exact ⟨by omega, by omega⟩) (by first | omega | assumption | exact ⟨by omega, by omega⟩)) gX6_fanAt_X0_has rfl ⟨rfl, hy_X0_has⟩ ⟨by decide, by decide⟩ rfl (Nat.le_of_ble_eq_true rfl) ⟨by decide, by decide⟩ dX6_fanAt_6 rfl ?_
  refine kb_ifb_ne (tgt := 15) X dX6_fanAt_9 (by decide) (fun h1 => ?_) (fun h1 => ?_)
  ·
    refine kb_aload_n X 0 rfl dX6_fanAt_15 ?_
    refine kg_X6_laid X hi_X6_fanAt_X6 hf_X6_fanAt_40 dX6_fanAt_16 ?_
    refine kb_iload_n X 1 rfl dX6_fanAt_19 ?_
    refine kb_iload_n X 2 rfl dX6_fanAt_20 ?_
    refine kb_cVi X (rest := []) [kb_i a, kb_i k] 5 (fl := [some 21, none, none, none]) (C := RX0) rfl rfl (c_X0_get l D ad cy M a k (by first | omega | assumption | exact ⟨by omega, by omega⟩) (by first | omega | assumption | exact ⟨by omega, by omega⟩)) gX6_fanAt_X0_get rfl ⟨rfl, hy_X0_get⟩ ⟨by decide, by decide⟩ rfl (Nat.le_of_ble_eq_true rfl) ⟨by decide, by decide⟩ dX6_fanAt_21 rfl ?_
    exact kb_iret X hr hlocks dX6_fanAt_24 (by unfold sp_fanAtR; repeat (first | rw [if_pos (by omega)] | rw [if_neg (by omega)])) (by first | rfl | (exfalso; omega))
  ·
    refine kb_ldc (v := -1000000000) X (-1000000000) (by decide +kernel) (by decide) dX6_fanAt_12 ?_
    exact kb_iret X hr hlocks dX6_fanAt_14 (by unfold sp_fanAtR; repeat (first | rw [if_pos (by omega)] | rw [if_neg (by omega)])) (by first | rfl | (exfalso; omega))
-- X6_board
theorem hf_X6_board_40 : Cond.fieldLink yX6_board.cls 40 RX6 "laid" "LSoundBoard$Fan;" ∈ wsX6_board := by decide +kernel
theorem hf_X6_board_207 : Cond.fieldLink yX6_board.cls 207 RX0 "lines" "I" ∈ wsX6_board := by decide +kernel
theorem hi_X6_board_X0 : ∀ w ∈ wsX00, w ∈ wsX6_board := by decide +kernel
theorem hi_X6_board_X6 : ∀ w ∈ wsX60, w ∈ wsX6_board := by decide +kernel
theorem hy_X6_board : yX6_board.cls ≠ "java/lang/invoke/MethodHandle" ∧ yX6_board.cls ≠ "java/lang/invoke/VarHandle" ∧ (parseMethodDescriptor yX6_board.desc).map (fun d => d.parameters.length) = some 5 := by decide +kernel
set_option maxHeartbeats 4000000 in
set_option maxRecDepth 100000 in
theorem c_X6_board (l : Launch) (D : va_G) (ad : Nat → Nat) (cy : Nat → ClassId) (M : kb_M) (w : Int) (h0 : Int) (s0 : Int) (u0 : Int) (v0 : Int) (hw : -2147483648 ≤ w ∧ w < 2147483648) (hh0 : -2147483648 ≤ h0 ∧ h0 < 2147483648) (hs0 : -2147483648 ≤ s0 ∧ s0 < 2147483648) (hu0 : -2147483648 ≤ u0 ∧ u0 < 2147483648) (hv0 : -2147483648 ≤ v0 ∧ v0 < 2147483648) (hF : sp_IF M) : kb_Ci l D ad cy yX6_board wsX6_board 3 74 [.ref (ad 0), kb_i w, kb_i h0, kb_i s0, kb_i u0, kb_i v0] M (sp_boardR M w h0 s0 u0 v0) (M) := by
  refine kb_mkCi (cc := cX6_board) (maxL := 6) (lv := [(0, .ref (ad 0)), (1, kb_i w), (2, kb_i h0), (3, kb_i s0), (4, kb_i u0), (5, kb_i v0)]) (plainFor_of_name (by decide)) rfl (Nat.le_of_ble_eq_true rfl) rfl ?_
  intro p e s m args below meth c X hr hlocks hM
  obtain ⟨hF1, hF2⟩ := id hF
  refine kb_iload_n X 1 rfl dX6_board_0 ?_
  refine kb_iconst X dX6_board_1 ?_
  refine kb_bipush X (by decide) dX6_board_2 ?_
  refine kb_cSi X (rest := []) [kb_i w, kb_i 2, kb_i 12] (c_X6_within l D ad cy M w 2 12 (by first | omega | assumption | exact ⟨by omega, by omega⟩) (by first | omega | assumption | exact ⟨by omega, by omega⟩) (by first | omega | assumption | exact ⟨by omega, by omega⟩)) gX6_board_X6_within rfl hy_X6_within ⟨by decide, by decide⟩ rfl (Nat.le_of_ble_eq_true rfl) ⟨by decide, by decide⟩ dX6_board_4 rfl ?_
  refine kb_ifb_eq (tgt := 31) X dX6_board_7 (by decide) (fun h1 => ?_) (fun h1 => ?_)
  ·
    refine kb_ldc (v := -1000000000) X (-1000000000) (by decide +kernel) (by decide) dX6_board_31 ?_
    exact kb_iret X hr hlocks dX6_board_33 (by unfold sp_boardR; repeat (first | rw [if_pos (by omega)] | rw [if_neg (by omega)])) (by first | rfl | (exfalso; omega))
  ·
    refine kb_iload_n X 2 rfl dX6_board_10 ?_
    refine kb_iconst X dX6_board_11 ?_
    refine kb_bipush X (by decide) dX6_board_12 ?_
    refine kb_cSi X (rest := []) [kb_i h0, kb_i 2, kb_i 12] (c_X6_within l D ad cy M h0 2 12 (by first | omega | assumption | exact ⟨by omega, by omega⟩) (by first | omega | assumption | exact ⟨by omega, by omega⟩) (by first | omega | assumption | exact ⟨by omega, by omega⟩)) gX6_board_X6_within rfl hy_X6_within ⟨by decide, by decide⟩ rfl (Nat.le_of_ble_eq_true rfl) ⟨by decide, by decide⟩ dX6_board_14 rfl ?_
    refine kb_ifb_eq (tgt := 31) X dX6_board_17 (by decide) (fun h2 => ?_) (fun h2 => ?_)
    ·
      refine kb_ldc (v := -1000000000) X (-1000000000) (by decide +kernel) (by decide) dX6_board_31 ?_
      exact kb_iret X hr hlocks dX6_board_33 (by unfold sp_boardR; repeat (first | rw [if_pos (by omega)] | rw [if_neg (by omega)])) (by first | rfl | (exfalso; omega))
    ·
      refine kb_iload_n X 3 rfl dX6_board_20 ?_
      refine kb_iconst X dX6_board_21 ?_
      refine kb_sipush X (by decide) dX6_board_22 ?_
      refine kb_cSi X (rest := []) [kb_i s0, kb_i 1, kb_i 500] (c_X6_within l D ad cy M s0 1 500 (by first | omega | assumption | exact ⟨by omega, by omega⟩) (by first | omega | assumption | exact ⟨by omega, by omega⟩) (by first | omega | assumption | exact ⟨by omega, by omega⟩)) gX6_board_X6_within rfl hy_X6_within ⟨by decide, by decide⟩ rfl (Nat.le_of_ble_eq_true rfl) ⟨by decide, by decide⟩ dX6_board_25 rfl ?_
      refine kb_ifb_ne (tgt := 34) X dX6_board_28 (by decide) (fun h3 => ?_) (fun h3 => ?_)
      ·
        refine kb_iload X 4 rfl dX6_board_34 ?_
        refine kb_iconst X dX6_board_36 ?_
        refine kb_iload_n X 1 rfl dX6_board_37 ?_
        refine kb_iconst X dX6_board_38 ?_
        refine kb_isub X dX6_board_39 ?_
        refine kb_cSi X (rest := []) [kb_i u0, kb_i 0, kb_i (w - 1)] (c_X6_within l D ad cy M u0 0 (w - 1) (by first | omega | assumption | exact ⟨by omega, by omega⟩) (by first | omega | assumption | exact ⟨by omega, by omega⟩) (by first | omega | assumption | exact ⟨by omega, by omega⟩)) gX6_board_X6_within rfl hy_X6_within ⟨by decide, by decide⟩ rfl (Nat.le_of_ble_eq_true rfl) ⟨by decide, by decide⟩ dX6_board_40 rfl ?_
        refine kb_ifb_eq (tgt := 68) X dX6_board_43 (by decide) (fun h4 => ?_) (fun h4 => ?_)
        ·
          refine kb_ldc (v := -1000000000) X (-1000000000) (by decide +kernel) (by decide) dX6_board_68 ?_
          exact kb_iret X hr hlocks dX6_board_70 (by unfold sp_boardR; repeat (first | rw [if_pos (by omega)] | rw [if_neg (by omega)])) (by first | rfl | (exfalso; omega))
        ·
          refine kb_iload X 5 rfl dX6_board_46 ?_
          refine kb_iconst X dX6_board_48 ?_
          refine kb_iload_n X 2 rfl dX6_board_49 ?_
          refine kb_iconst X dX6_board_50 ?_
          refine kb_isub X dX6_board_51 ?_
          refine kb_cSi X (rest := []) [kb_i v0, kb_i 0, kb_i (h0 - 1)] (c_X6_within l D ad cy M v0 0 (h0 - 1) (by first | omega | assumption | exact ⟨by omega, by omega⟩) (by first | omega | assumption | exact ⟨by omega, by omega⟩) (by first | omega | assumption | exact ⟨by omega, by omega⟩)) gX6_board_X6_within rfl hy_X6_within ⟨by decide, by decide⟩ rfl (Nat.le_of_ble_eq_true rfl) ⟨by decide, by decide⟩ dX6_board_52 rfl ?_
          refine kb_ifb_eq (tgt := 68) X dX6_board_55 (by decide) (fun h5 => ?_) (fun h5 => ?_)
          ·
            refine kb_ldc (v := -1000000000) X (-1000000000) (by decide +kernel) (by decide) dX6_board_68 ?_
            exact kb_iret X hr hlocks dX6_board_70 (by unfold sp_boardR; repeat (first | rw [if_pos (by omega)] | rw [if_neg (by omega)])) (by first | rfl | (exfalso; omega))
          ·
            refine kb_aload_n X 0 rfl dX6_board_58 ?_
            refine kg_X6_laid X hi_X6_board_X6 hf_X6_board_40 dX6_board_59 ?_
            refine kg_X0_lines X hi_X6_board_X0 hf_X6_board_207 dX6_board_62 ?_
            have g6 : -2147483648 ≤ M 5 1 ∧ M 5 1 < 2147483648 := hM 5 1
            refine kb_if_ne (tgt := 71) X ⟨by omega, by omega⟩ dX6_board_65 (by decide) (fun h7 => ?_) (fun h7 => ?_)
            ·
              obtain ⟨hl5, hk5, hr5⟩ := hF1 (by omega)
              have m1 := sp_mulb (a := s0) (b := 2 * u0 - w + 1 + 11) (A := 500) (B := 22) (by omega) (by omega) (by omega) (by omega)
              have m2 := sp_mulb (a := s0) (b := v0) (A := 500) (B := 11) (by omega) (by omega) (by omega) (by omega)
              rw [Int.mul_add] at m1
              have m4 := sp_tdb (x := s0 * (2 * u0 - w + 1)) (z := 2) (b := 11000) (by omega) (by omega)
              refine kb_aload_n X 0 rfl dX6_board_71 ?_
              refine kg_X6_laid X hi_X6_board_X6 hf_X6_board_40 dX6_board_72 ?_
              refine kb_iload_n X 3 rfl dX6_board_75 ?_
              refine kb_iconst X dX6_board_76 ?_
              refine kb_iload X 4 rfl dX6_board_77 ?_
              refine kb_imul X dX6_board_79 ?_
              refine kb_iload_n X 1 rfl dX6_board_80 ?_
              refine kb_isub X dX6_board_81 ?_
              refine kb_iconst X dX6_board_82 ?_
              refine kb_iadd X dX6_board_83 ?_
              refine kb_imul X dX6_board_84 ?_
              refine kb_iconst X dX6_board_85 ?_
              refine kb_idiv X ⟨by omega, by omega⟩ ⟨by decide, by decide⟩ (by omega) dX6_board_86 ?_
              refine kb_iload_n X 3 rfl dX6_board_87 ?_
              refine kb_iload X 5 rfl dX6_board_88 ?_
              refine kb_imul X dX6_board_90 ?_
              refine kb_cVi X (rest := []) [kb_i ((s0 * (((2 * u0) - w) + 1)).tdiv 2), kb_i (s0 * v0)] 5 (fl := [some 21, none, none, none]) (C := RX0) rfl rfl (c_X0_laidAt l D ad cy M ((s0 * (((2 * u0) - w) + 1)).tdiv 2) (s0 * v0) (by first | omega | assumption | exact ⟨by omega, by omega⟩) (by first | omega | assumption | exact ⟨by omega, by omega⟩) (by first | omega | assumption | exact ⟨by omega, by omega⟩) (by first | omega | assumption | exact ⟨by omega, by omega⟩) (by first | omega | assumption | exact ⟨by omega, by omega⟩) (by first | omega | assumption | exact ⟨by omega, by omega⟩)) gX6_board_X0_laidAt rfl ⟨rfl, hy_X0_laidAt⟩ ⟨by decide, by decide⟩ rfl (Nat.le_of_ble_eq_true rfl) ⟨by decide, by decide⟩ dX6_board_91 rfl ?_
              exact kb_iret X hr hlocks dX6_board_94 (by unfold sp_boardR; repeat (first | rw [if_pos (by omega)] | rw [if_neg (by omega)])) (by first | rfl | (exfalso; omega))
            ·
              refine kb_ldc (v := -1000000000) X (-1000000000) (by decide +kernel) (by decide) dX6_board_68 ?_
              exact kb_iret X hr hlocks dX6_board_70 (by unfold sp_boardR; repeat (first | rw [if_pos (by omega)] | rw [if_neg (by omega)])) (by first | rfl | (exfalso; omega))
      ·
        refine kb_ldc (v := -1000000000) X (-1000000000) (by decide +kernel) (by decide) dX6_board_31 ?_
        exact kb_iret X hr hlocks dX6_board_33 (by unfold sp_boardR; repeat (first | rw [if_pos (by omega)] | rw [if_neg (by omega)])) (by first | rfl | (exfalso; omega))
-- X6_pixel
theorem hf_X6_pixel_33 : Cond.fieldLink yX6_pixel.cls 33 RX6 "ring" "LSoundBoard$Ring;" ∈ wsX6_pixel := by decide +kernel
theorem hi_X6_pixel_X6 : ∀ w ∈ wsX60, w ∈ wsX6_pixel := by decide +kernel
theorem hy_X6_pixel : yX6_pixel.cls ≠ "java/lang/invoke/MethodHandle" ∧ yX6_pixel.cls ≠ "java/lang/invoke/VarHandle" ∧ (parseMethodDescriptor yX6_pixel.desc).map (fun d => d.parameters.length) = some 3 := by decide +kernel
set_option maxHeartbeats 4000000 in
set_option maxRecDepth 100000 in
theorem c_X6_pixel (l : Launch) (D : va_G) (ad : Nat → Nat) (cy : Nat → ClassId) (M : kb_M) (p0 : Int) (k : Int) (l0 : Int) (hp0 : -2147483648 ≤ p0 ∧ p0 < 2147483648) (hk : -2147483648 ≤ k ∧ k < 2147483648) (hl0 : -2147483648 ≤ l0 ∧ l0 < 2147483648) (hIR : sp_IR M) : kb_Ci l D ad cy yX6_pixel wsX6_pixel 2 43 [.ref (ad 0), kb_i p0, kb_i k, kb_i l0] M (sp_pixelR M p0 k l0) (M) := by
  refine kb_mkCi (cc := cX6_pixel) (maxL := 6) (lv := [(0, .ref (ad 0)), (1, kb_i p0), (2, kb_i k), (3, kb_i l0)]) (plainFor_of_name (by decide)) rfl (Nat.le_of_ble_eq_true rfl) rfl ?_
  intro p e s m args below meth c X hr hlocks hM
  obtain ⟨hro, hrs, hwh⟩ := id hIR
  refine kb_aload_n X 0 rfl dX6_pixel_0 ?_
  refine kg_X6_ring X hi_X6_pixel_X6 hf_X6_pixel_33 dX6_pixel_1 ?_
  refine kb_iload_n X 1 rfl dX6_pixel_4 ?_
  refine kb_cVi X (rest := []) [kb_i p0] 4 (fl := [some 18, some 19, some 20, none, none]) (C := RX4) rfl rfl (c_X4_has l D ad cy M p0 (by first | omega | assumption | exact ⟨by omega, by omega⟩)) gX6_pixel_X4_has rfl ⟨rfl, hy_X4_has⟩ ⟨by decide, by decide⟩ rfl (Nat.le_of_ble_eq_true rfl) ⟨by decide, by decide⟩ dX6_pixel_5 rfl ?_
  refine kb_ifb_ne (tgt := 14) X dX6_pixel_8 (by decide) (fun h1 => ?_) (fun h1 => ?_)
  ·
    refine kb_aload_n X 0 rfl dX6_pixel_14 ?_
    refine kg_X6_ring X hi_X6_pixel_X6 hf_X6_pixel_33 dX6_pixel_15 ?_
    refine kb_iload_n X 1 rfl dX6_pixel_18 ?_
    refine kb_cVi X (rest := []) [kb_i p0] 4 (fl := [some 18, some 19, some 20, none, none]) (C := RX4) rfl rfl (c_X4_slotOf l D ad cy M p0 (by first | omega | assumption | exact ⟨by omega, by omega⟩) (by first | omega | assumption | exact ⟨by omega, by omega⟩)) gX6_pixel_X4_slotOf rfl ⟨rfl, hy_X4_slotOf⟩ ⟨by decide, by decide⟩ rfl (Nat.le_of_ble_eq_true rfl) ⟨by decide, by decide⟩ dX6_pixel_19 rfl ?_
    refine kb_nmi (fun x4_2 ex4_2 => ?_)
    refine kb_istore (lv' := [(4, kb_i x4_2), (0, .ref (ad 0)), (1, kb_i p0), (2, kb_i k), (3, kb_i l0)]) X dX6_pixel_22 (by decide) rfl ?_
    have wb := hwh x4_2
    refine kb_aload_n X 1 rfl dX6_pixel_24 ?_
    refine kg_X6_ring X hi_X6_pixel_X6 hf_X6_pixel_33 dX6_pixel_25 ?_
    refine kb_iload X 0 rfl dX6_pixel_28 ?_
    refine kb_cVi X (rest := []) [kb_i x4_2] 4 (fl := [some 18, some 19, some 20, none, none]) (C := RX4) rfl rfl (c_X4_widthOf l D ad cy M x4_2 (by first | omega | assumption | exact ⟨by omega, by omega⟩)) gX6_pixel_X4_widthOf rfl ⟨rfl, hy_X4_widthOf⟩ ⟨by decide, by decide⟩ rfl (Nat.le_of_ble_eq_true rfl) ⟨by decide, by decide⟩ dX6_pixel_30 rfl ?_
    refine kb_nmi (fun x5_3 ex5_3 => ?_)
    refine kb_istore (lv' := [(5, kb_i x5_3), (4, kb_i x4_2), (0, .ref (ad 0)), (1, kb_i p0), (2, kb_i k), (3, kb_i l0)]) X dX6_pixel_33 (by decide) rfl ?_
    have wb2 := hwh x4_2
    refine kb_iload_n X 4 rfl dX6_pixel_35 ?_
    refine kb_iconst X dX6_pixel_36 ?_
    refine kb_iload X 0 rfl dX6_pixel_37 ?_
    refine kb_iconst X dX6_pixel_39 ?_
    refine kb_isub X dX6_pixel_40 ?_
    refine kb_cSi X (rest := []) [kb_i k, kb_i 0, kb_i (x5_3 - 1)] (c_X6_within l D ad cy M k 0 (x5_3 - 1) (by first | omega | assumption | exact ⟨by omega, by omega⟩) (by first | omega | assumption | exact ⟨by omega, by omega⟩) (by first | omega | assumption | exact ⟨by omega, by omega⟩)) gX6_pixel_X6_within rfl hy_X6_within ⟨by decide, by decide⟩ rfl (Nat.le_of_ble_eq_true rfl) ⟨by decide, by decide⟩ dX6_pixel_41 rfl ?_
    refine kb_ifb_eq (tgt := 66) X dX6_pixel_44 (by decide) (fun h4 => ?_) (fun h4 => ?_)
    ·
      refine kb_ldc (v := -1000000000) X (-1000000000) (by decide +kernel) (by decide) dX6_pixel_66 ?_
      exact kb_iret X hr hlocks dX6_pixel_68 (by subst_vars; unfold sp_pixelR; first | rw [if_pos (by omega)] | rw [if_neg (by omega)]) (by first | rfl | (exfalso; omega))
    ·
      refine kb_iload_n X 5 rfl dX6_pixel_47 ?_
      refine kb_iconst X dX6_pixel_48 ?_
      refine kb_aload_n X 2 rfl dX6_pixel_49 ?_
      refine kg_X6_ring X hi_X6_pixel_X6 hf_X6_pixel_33 dX6_pixel_50 ?_
      refine kb_iload X 1 rfl dX6_pixel_53 ?_
      refine kb_cVi X (rest := [kb_i 0, kb_i l0]) [kb_i x4_2] 4 (fl := [some 18, some 19, some 20, none, none]) (C := RX4) rfl rfl (c_X4_heightOf l D ad cy M x4_2 (by first | omega | assumption | exact ⟨by omega, by omega⟩)) gX6_pixel_X4_heightOf rfl ⟨rfl, hy_X4_heightOf⟩ ⟨by decide, by decide⟩ rfl (Nat.le_of_ble_eq_true rfl) ⟨by decide, by decide⟩ dX6_pixel_55 rfl ?_
      refine kb_iconst X dX6_pixel_58 ?_
      refine kb_isub X dX6_pixel_59 ?_
      refine kb_cSi X (rest := []) [kb_i l0, kb_i 0, kb_i ((sp_rh M x4_2) - 1)] (c_X6_within l D ad cy M l0 0 ((sp_rh M x4_2) - 1) (by first | omega | assumption | exact ⟨by omega, by omega⟩) (by first | omega | assumption | exact ⟨by omega, by omega⟩) (by first | omega | assumption | exact ⟨by omega, by omega⟩)) gX6_pixel_X6_within rfl hy_X6_within ⟨by decide, by decide⟩ rfl (Nat.le_of_ble_eq_true rfl) ⟨by decide, by decide⟩ dX6_pixel_60 rfl ?_
      refine kb_ifb_ne (tgt := 69) X dX6_pixel_63 (by decide) (fun h5 => ?_) (fun h5 => ?_)
      ·
        have m1 := sp_mulb (a := x5_3) (b := l0) (A := 16) (B := 16) (by omega) (by omega) (by omega) (by omega)
        refine kb_aload_n X 2 rfl dX6_pixel_69 ?_
        refine kg_X6_ring X hi_X6_pixel_X6 hf_X6_pixel_33 dX6_pixel_70 ?_
        refine kb_iload X 1 rfl dX6_pixel_73 ?_
        refine kb_iload_n X 4 rfl dX6_pixel_75 ?_
        refine kb_iload X 0 rfl dX6_pixel_76 ?_
        refine kb_iload_n X 5 rfl dX6_pixel_78 ?_
        refine kb_imul X dX6_pixel_79 ?_
        refine kb_iadd X dX6_pixel_80 ?_
        refine kb_cVi X (rest := []) [kb_i x4_2, kb_i (k + (x5_3 * l0))] 4 (fl := [some 18, some 19, some 20, none, none]) (C := RX4) rfl rfl (c_X4_get l D ad cy M x4_2 (k + (x5_3 * l0)) (by first | omega | assumption | exact ⟨by omega, by omega⟩) (by first | omega | assumption | exact ⟨by omega, by omega⟩)) gX6_pixel_X4_get rfl ⟨rfl, hy_X4_get⟩ ⟨by decide, by decide⟩ rfl (Nat.le_of_ble_eq_true rfl) ⟨by decide, by decide⟩ dX6_pixel_81 rfl ?_
        exact kb_iret X hr hlocks dX6_pixel_84 (by subst_vars; unfold sp_pixelR; first | rw [if_pos (by omega)] | rw [if_neg (by omega)]) (by first | rfl | (exfalso; omega))
      ·
        refine kb_ldc (v := -1000000000) X (-1000000000) (by decide +kernel) (by decide) dX6_pixel_66 ?_
        exact kb_iret X hr hlocks dX6_pixel_68 (by subst_vars; unfold sp_pixelR; first | rw [if_pos (by omega)] | rw [if_neg (by omega)]) (by first | rfl | (exfalso; omega))
  ·
    refine kb_ldc (v := -1000000000) X (-1000000000) (by decide +kernel) (by decide) dX6_pixel_11 ?_
    exact kb_iret X hr hlocks dX6_pixel_13 (by subst_vars; unfold sp_pixelR; first | rw [if_pos (by omega)] | rw [if_neg (by omega)]) (by first | rfl | (exfalso; omega))
-- X6_about
theorem hf_X6_about_33 : Cond.fieldLink yX6_about.cls 33 RX6 "ring" "LSoundBoard$Ring;" ∈ wsX6_about := by decide +kernel
theorem hi_X6_about_X6 : ∀ w ∈ wsX60, w ∈ wsX6_about := by decide +kernel
theorem hy_X6_about : yX6_about.cls ≠ "java/lang/invoke/MethodHandle" ∧ yX6_about.cls ≠ "java/lang/invoke/VarHandle" ∧ (parseMethodDescriptor yX6_about.desc).map (fun d => d.parameters.length) = some 2 := by decide +kernel
set_option maxHeartbeats 4000000 in
set_option maxRecDepth 100000 in
theorem c_X6_about (l : Launch) (D : va_G) (ad : Nat → Nat) (cy : Nat → ClassId) (M : kb_M) (p0 : Int) (t0 : Int) (hp0 : -2147483648 ≤ p0 ∧ p0 < 2147483648) (ht0 : -2147483648 ≤ t0 ∧ t0 < 2147483648) (hIR : sp_IR M) : kb_Ci l D ad cy yX6_about wsX6_about 3 66 [.ref (ad 0), kb_i p0, kb_i t0] M (sp_aboutR M p0 t0) (M) := by
  refine kb_mkCi (cc := cX6_about) (maxL := 4) (lv := [(0, .ref (ad 0)), (1, kb_i p0), (2, kb_i t0)]) (plainFor_of_name (by decide)) rfl (Nat.le_of_ble_eq_true rfl) rfl ?_
  intro p e s m args below meth c X hr hlocks hM
  obtain ⟨hro, hrs, hwh⟩ := id hIR
  refine kb_aload_n X 0 rfl dX6_about_0 ?_
  refine kg_X6_ring X hi_X6_about_X6 hf_X6_about_33 dX6_about_1 ?_
  refine kb_iload_n X 1 rfl dX6_about_4 ?_
  refine kb_cVi X (rest := []) [kb_i p0] 4 (fl := [some 18, some 19, some 20, none, none]) (C := RX4) rfl rfl (c_X4_has l D ad cy M p0 (by first | omega | assumption | exact ⟨by omega, by omega⟩)) gX6_about_X4_has rfl ⟨rfl, hy_X4_has⟩ ⟨by decide, by decide⟩ rfl (Nat.le_of_ble_eq_true rfl) ⟨by decide, by decide⟩ dX6_about_5 rfl ?_
  refine kb_ifb_ne (tgt := 14) X dX6_about_8 (by decide) (fun h1 => ?_) (fun h1 => ?_)
  ·
    refine kb_aload_n X 0 rfl dX6_about_14 ?_
    refine kg_X6_ring X hi_X6_about_X6 hf_X6_about_33 dX6_about_15 ?_
    refine kb_iload_n X 1 rfl dX6_about_18 ?_
    refine kb_cVi X (rest := []) [kb_i p0] 4 (fl := [some 18, some 19, some 20, none, none]) (C := RX4) rfl rfl (c_X4_slotOf l D ad cy M p0 (by first | omega | assumption | exact ⟨by omega, by omega⟩) (by first | omega | assumption | exact ⟨by omega, by omega⟩)) gX6_about_X4_slotOf rfl ⟨rfl, hy_X4_slotOf⟩ ⟨by decide, by decide⟩ rfl (Nat.le_of_ble_eq_true rfl) ⟨by decide, by decide⟩ dX6_about_19 rfl ?_
    refine kb_nmi (fun x3_2 ex3_2 => ?_)
    refine kb_istore_n (lv' := [(3, kb_i x3_2), (0, .ref (ad 0)), (1, kb_i p0), (2, kb_i t0)]) X dX6_about_22 (by decide) rfl ?_
    refine kb_iload_n X 3 rfl dX6_about_23 ?_
    rcases (show t0 < 0 ∨ 3 < t0 ∨ t0 = 0 ∨ t0 = 1 ∨ t0 = 2 ∨ t0 = 3 by omega) with h3 | h3 | h3 | h3 | h3 | h3
    ·
      refine kb_tabOut (tgt := 100) X ⟨by omega, by omega⟩ dX6_about_24 (by omega) (by decide) ?_
      refine kb_bipush X (by decide) dX6_about_100 ?_
      exact kb_iret X hr hlocks dX6_about_102 (by subst_vars; unfold sp_aboutR; repeat (first | rw [if_pos (by omega)] | rw [if_neg (by omega)])) (by first | rfl | (exfalso; omega))
    ·
      refine kb_tabOut (tgt := 100) X ⟨by omega, by omega⟩ dX6_about_24 (by omega) (by decide) ?_
      refine kb_bipush X (by decide) dX6_about_100 ?_
      exact kb_iret X hr hlocks dX6_about_102 (by subst_vars; unfold sp_aboutR; repeat (first | rw [if_pos (by omega)] | rw [if_neg (by omega)])) (by first | rfl | (exfalso; omega))
    ·
      refine kb_tabIn (tgt := 56) X _ ⟨by omega, by omega⟩ dX6_about_24 (by omega) (by omega) (off := 32) (by rw [h3]; rfl) (by decide) ?_
      skip
      refine kb_aload_n X 1 rfl dX6_about_56 ?_
      refine kg_X6_ring X hi_X6_about_X6 hf_X6_about_33 dX6_about_57 ?_
      refine kb_iload_n X 0 rfl dX6_about_60 ?_
      refine kb_cVi X (rest := []) [kb_i x3_2] 4 (fl := [some 18, some 19, some 20, none, none]) (C := RX4) rfl rfl (c_X4_widthOf l D ad cy M x3_2 (by first | omega | assumption | exact ⟨by omega, by omega⟩)) gX6_about_X4_widthOf rfl ⟨rfl, hy_X4_widthOf⟩ ⟨by decide, by decide⟩ rfl (Nat.le_of_ble_eq_true rfl) ⟨by decide, by decide⟩ dX6_about_61 rfl ?_
      exact kb_iret X hr hlocks dX6_about_64 (by subst_vars; unfold sp_aboutR; repeat (first | rw [if_pos (by omega)] | rw [if_neg (by omega)])) (by first | rfl | (exfalso; omega))
    ·
      refine kb_tabIn (tgt := 65) X _ ⟨by omega, by omega⟩ dX6_about_24 (by omega) (by omega) (off := 41) (by rw [h3]; rfl) (by decide) ?_
      refine kb_aload_n X 1 rfl dX6_about_65 ?_
      refine kg_X6_ring X hi_X6_about_X6 hf_X6_about_33 dX6_about_66 ?_
      refine kb_iload_n X 0 rfl dX6_about_69 ?_
      refine kb_cVi X (rest := []) [kb_i x3_2] 4 (fl := [some 18, some 19, some 20, none, none]) (C := RX4) rfl rfl (c_X4_heightOf l D ad cy M x3_2 (by first | omega | assumption | exact ⟨by omega, by omega⟩)) gX6_about_X4_heightOf rfl ⟨rfl, hy_X4_heightOf⟩ ⟨by decide, by decide⟩ rfl (Nat.le_of_ble_eq_true rfl) ⟨by decide, by decide⟩ dX6_about_70 rfl ?_
      exact kb_iret X hr hlocks dX6_about_73 (by subst_vars; unfold sp_aboutR; repeat (first | rw [if_pos (by omega)] | rw [if_neg (by omega)])) (by first | rfl | (exfalso; omega))
    ·
      refine kb_tabIn (tgt := 74) X _ ⟨by omega, by omega⟩ dX6_about_24 (by omega) (by omega) (off := 50) (by rw [h3]; rfl) (by decide) ?_
      have wb := hwh x3_2
      have mb := sp_mxI_b wb.1 wb.2
      refine kb_aload_n X 1 rfl dX6_about_74 ?_
      refine kg_X6_ring X hi_X6_about_X6 hf_X6_about_33 dX6_about_75 ?_
      refine kb_iload_n X 0 rfl dX6_about_78 ?_
      refine kb_aload_n X 1 rfl dX6_about_79 ?_
      refine kg_X6_ring X hi_X6_about_X6 hf_X6_about_33 dX6_about_80 ?_
      refine kb_iload_n X 0 rfl dX6_about_83 ?_
      refine kb_cVi X (rest := [kb_i x3_2, .ref (ad 4)]) [kb_i x3_2] 4 (fl := [some 18, some 19, some 20, none, none]) (C := RX4) rfl rfl (c_X4_firstGreatest l D ad cy M x3_2 (by first | omega | assumption | exact ⟨by omega, by omega⟩) (by exact wb.1) (by exact wb.2)) gX6_about_X4_firstGreatest rfl ⟨rfl, hy_X4_firstGreatest⟩ ⟨by decide, by decide⟩ rfl (Nat.le_of_ble_eq_true rfl) ⟨by decide, by decide⟩ dX6_about_84 rfl ?_
      refine kb_eqi (b := sp_mxI M x3_2) (rfl) ?_
      refine kb_cVi X (rest := []) [kb_i x3_2, kb_i (sp_mxI M x3_2)] 4 (fl := [some 18, some 19, some 20, none, none]) (C := RX4) rfl rfl (c_X4_get l D ad cy M x3_2 (sp_mxI M x3_2) (by first | omega | assumption | exact ⟨by omega, by omega⟩) (by first | omega | assumption | exact ⟨by omega, by omega⟩)) gX6_about_X4_get rfl ⟨rfl, hy_X4_get⟩ ⟨by decide, by decide⟩ rfl (Nat.le_of_ble_eq_true rfl) ⟨by decide, by decide⟩ dX6_about_87 rfl ?_
      exact kb_iret X hr hlocks dX6_about_90 (by subst_vars; unfold sp_aboutR; repeat (first | rw [if_pos (by omega)] | rw [if_neg (by omega)])) (by first | rfl | (exfalso; omega))
    ·
      refine kb_tabIn (tgt := 91) X _ ⟨by omega, by omega⟩ dX6_about_24 (by omega) (by omega) (off := 67) (by rw [h3]; rfl) (by decide) ?_
      have wb := hwh x3_2
      refine kb_aload_n X 1 rfl dX6_about_91 ?_
      refine kg_X6_ring X hi_X6_about_X6 hf_X6_about_33 dX6_about_92 ?_
      refine kb_iload_n X 0 rfl dX6_about_95 ?_
      refine kb_cVi X (rest := []) [kb_i x3_2] 4 (fl := [some 18, some 19, some 20, none, none]) (C := RX4) rfl rfl (c_X4_firstGreatest l D ad cy M x3_2 (by first | omega | assumption | exact ⟨by omega, by omega⟩) (by exact wb.1) (by exact wb.2)) gX6_about_X4_firstGreatest rfl ⟨rfl, hy_X4_firstGreatest⟩ ⟨by decide, by decide⟩ rfl (Nat.le_of_ble_eq_true rfl) ⟨by decide, by decide⟩ dX6_about_96 rfl ?_
      refine kb_eqi (b := sp_mxI M x3_2) (rfl) ?_
      exact kb_iret X hr hlocks dX6_about_99 (by subst_vars; unfold sp_aboutR; repeat (first | rw [if_pos (by omega)] | rw [if_neg (by omega)])) (by first | rfl | (exfalso; omega))
  ·
    refine kb_bipush X (by decide) dX6_about_11 ?_
    exact kb_iret X hr hlocks dX6_about_13 (by subst_vars; unfold sp_aboutR; repeat (first | rw [if_pos (by omega)] | rw [if_neg (by omega)])) (by first | rfl | (exfalso; omega))
