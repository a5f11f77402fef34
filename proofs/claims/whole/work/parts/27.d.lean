-- X6_hear
theorem hf_X6_hear_10 : Cond.fieldLink yX6_hear.cls 10 RX6 "elements" "LSoundBoard$Probe;" ∈ wsX6_hear := by decide +kernel
theorem hf_X6_hear_19 : Cond.fieldLink yX6_hear.cls 19 RX6 "scene" "LSoundBoard$Scene;" ∈ wsX6_hear := by decide +kernel
theorem hf_X6_hear_26 : Cond.fieldLink yX6_hear.cls 26 RX6 "heard" "LSoundBoard$Looks;" ∈ wsX6_hear := by decide +kernel
theorem hf_X6_hear_104 : Cond.fieldLink yX6_hear.cls 104 RX5 "xs" "[I" ∈ wsX6_hear := by decide +kernel
theorem hf_X6_hear_108 : Cond.fieldLink yX6_hear.cls 108 RX5 "zs" "[I" ∈ wsX6_hear := by decide +kernel
theorem hf_X6_hear_111 : Cond.fieldLink yX6_hear.cls 111 RX5 "strengths" "[I" ∈ wsX6_hear := by decide +kernel
theorem hf_X6_hear_137 : Cond.fieldLink yX6_hear.cls 137 RX3 "size" "I" ∈ wsX6_hear := by decide +kernel
theorem hi_X6_hear_X3 : ∀ w ∈ wsX30, w ∈ wsX6_hear := by decide +kernel
theorem hi_X6_hear_X5 : ∀ w ∈ wsX50, w ∈ wsX6_hear := by decide +kernel
theorem hi_X6_hear_X6 : ∀ w ∈ wsX60, w ∈ wsX6_hear := by decide +kernel
theorem hy_X6_hear : yX6_hear.cls ≠ "java/lang/invoke/MethodHandle" ∧ yX6_hear.cls ≠ "java/lang/invoke/VarHandle" ∧ (parseMethodDescriptor yX6_hear.desc).map (fun d => d.parameters.length) = some 2 := by decide +kernel
set_option maxHeartbeats 4000000 in
set_option maxRecDepth 100000 in
theorem c_X6_hear (l : Launch) (D : va_G) (ad : Nat → Nat) (cy : Nat → ClassId) (M : kb_M) (lk : Int) (k : Int) (hIP : sp_IP M) (ho : 0 ≤ M 3 2 ∧ M 3 2 < 6) (hlk : 0 ≤ lk ∧ lk < 1000) (hk : 0 ≤ k ∧ k < M 2 5 ∧ k < 8) (hsc : sp_sc M) (hb : ∀ j : Int, -20000 ≤ M 16 j ∧ M 16 j ≤ 20000) : kb_Cv l D ad cy yX6_hear wsX6_hear 4 98 [.ref (ad 0), kb_i lk, kb_i k] M (sp_hear M lk k) := by
  refine kb_mkCv (cc := cX6_hear) (maxL := 7) (lv := [(0, .ref (ad 0)), (1, kb_i lk), (2, kb_i k)]) (plainFor_of_name (by decide)) rfl (Nat.le_of_ble_eq_true rfl) rfl ?_
  intro p e s m args below meth c X hr hlocks hM
  obtain ⟨hxs, hn, ha, hP, hT, hf⟩ := id hIP
  obtain ⟨q1, q2, q3, q4, q5⟩ := hsc.2 k hk.1 hk.2.1
  have q17 := hM 17 ((M 3 2 + lk) % 6)
  unfold kb_rg at q17
  have hob := sp_ad_b (i := M 17 ((M 3 2 + lk) % 6)) hIP q1 q2
  refine kb_aload_n X 0 rfl dX6_hear_0 ?_
  refine kg_X6_scene X hi_X6_hear_X6 hf_X6_hear_19 dX6_hear_1 ?_
  refine kb_iload_n X 2 rfl dX6_hear_4 ?_
  refine kb_cVi X (rest := []) [kb_i k] 2 (fl := [some 11, some 12, some 13, some 14, some 15, none]) (C := RX5) rfl rfl (c_X5_has l D ad cy M k (by first | omega | assumption | exact ⟨by omega, by omega⟩)) gX6_hear_X5_has rfl ⟨rfl, hy_X5_has⟩ ⟨by decide, by decide⟩ rfl (Nat.le_of_ble_eq_true rfl) ⟨by decide, by decide⟩ dX6_hear_5 rfl ?_
  refine kb_ifb_ne (tgt := 12) X dX6_hear_8 (by decide) (fun h1 => ?_) (fun h1 => ?_)
  ·
    refine kb_aload_n X 0 rfl dX6_hear_12 ?_
    refine kg_X6_scene X hi_X6_hear_X6 hf_X6_hear_19 dX6_hear_13 ?_
    refine kg_X5_strengths X hi_X6_hear_X5 hf_X6_hear_111 dX6_hear_16 ?_
    refine kb_iload_n X 2 rfl dX6_hear_19 ?_
    refine kb_iald X 13 (n := 8) rfl ⟨by omega, by omega⟩ (by decide) dX6_hear_20 ?_
    have g2 : -2147483648 ≤ M 13 k ∧ M 13 k < 2147483648 := hM 13 k
    refine kb_istore_n (lv' := [(3, kb_i (M 13 k)), (0, .ref (ad 0)), (1, kb_i lk), (2, kb_i k)]) X dX6_hear_21 (by decide) rfl ?_
    refine kb_aload_n X 1 rfl dX6_hear_22 ?_
    refine kg_X6_elements X hi_X6_hear_X6 hf_X6_hear_10 dX6_hear_23 ?_
    refine kb_aload_n X 1 rfl dX6_hear_26 ?_
    refine kg_X6_scene X hi_X6_hear_X6 hf_X6_hear_19 dX6_hear_27 ?_
    refine kg_X5_xs X hi_X6_hear_X5 hf_X6_hear_104 dX6_hear_30 ?_
    refine kb_iload_n X 3 rfl dX6_hear_33 ?_
    refine kb_iald X 11 (n := 8) rfl ⟨by omega, by omega⟩ (by decide) dX6_hear_34 ?_
    have g3 : -2147483648 ≤ M 11 k ∧ M 11 k < 2147483648 := hM 11 k
    refine kb_aload_n X 1 rfl dX6_hear_35 ?_
    refine kg_X6_scene X hi_X6_hear_X6 hf_X6_hear_19 dX6_hear_36 ?_
    refine kg_X5_zs X hi_X6_hear_X5 hf_X6_hear_108 dX6_hear_39 ?_
    refine kb_iload_n X 3 rfl dX6_hear_42 ?_
    refine kb_iald X 12 (n := 8) rfl ⟨by omega, by omega⟩ (by decide) dX6_hear_43 ?_
    have g4 : -2147483648 ≤ M 12 k ∧ M 12 k < 2147483648 := hM 12 k
    refine kb_cVv X (rest := []) [kb_i (M 11 k), kb_i (M 12 k)] 1 (fl := [some 7, some 8, some 9, some 10, none, none, none, none, none, none, none]) (C := RX3) rfl rfl (c_X3_aim l D ad cy M (M 11 k) (M 12 k) (by first | omega | assumption | exact ⟨by omega, by omega⟩) (by first | omega | assumption | exact ⟨by omega, by omega⟩) (by first | omega | assumption | exact ⟨by omega, by omega⟩) (by first | omega | assumption | exact ⟨by omega, by omega⟩) (by first | omega | assumption | exact ⟨by omega, by omega⟩) (by first | omega | assumption | exact ⟨by omega, by omega⟩) (by first | omega | assumption | exact ⟨by omega, by omega⟩)) gX6_hear_X3_aim rfl ⟨rfl, hy_X3_aim⟩ ⟨by decide, by decide⟩ rfl (Nat.le_of_ble_eq_true rfl) ⟨by decide, by decide⟩ dX6_hear_44 rfl ?_
    refine kb_aload_n X 1 rfl dX6_hear_47 ?_
    refine kg_X6_elements X hi_X6_hear_X6 hf_X6_hear_10 dX6_hear_48 ?_
    refine kb_aload_n X 1 rfl dX6_hear_51 ?_
    refine kg_X6_heard X hi_X6_hear_X6 hf_X6_hear_26 dX6_hear_52 ?_
    refine kb_iload_n X 2 rfl dX6_hear_55 ?_
    refine kb_cVi X (rest := [.ref (ad 1)]) [kb_i lk] 3 (fl := [some 16, some 17, none, none, none]) (C := RX1) rfl rfl (c_X1_senderOf l D ad cy (sp_aim M (M 11 k) (M 12 k)) lk (show 0 ≤ M 3 2 ∧ M 3 2 < 6 from (by first | omega | assumption | exact ⟨by omega, by omega⟩)) (by first | omega | assumption | exact ⟨by omega, by omega⟩)) gX6_hear_X1_senderOf rfl ⟨rfl, hy_X1_senderOf⟩ ⟨by decide, by decide⟩ rfl (Nat.le_of_ble_eq_true rfl) ⟨by decide, by decide⟩ dX6_hear_56 rfl ?_
    refine kb_eqi (b := (sp_aim M (M 11 k) (M 12 k)) 17 ((M 3 2 + lk) % 6)) (by first | rfl | simp [kb_wr]) ?_
    refine kb_cVi X (rest := []) [kb_i ((sp_aim M (M 11 k) (M 12 k)) 17 ((M 3 2 + lk) % 6))] 1 (fl := [some 7, some 8, some 9, some 10, none, none, none, none, none, none, none]) (C := RX3) rfl rfl (c_X3_aimedDelay l D ad cy (sp_aim M (M 11 k) (M 12 k)) ((sp_aim M (M 11 k) (M 12 k)) 17 ((M 3 2 + lk) % 6)) (by first | omega | assumption | exact ⟨by omega, by omega⟩)) gX6_hear_X3_aimedDelay rfl ⟨rfl, hy_X3_aimedDelay⟩ ⟨by decide, by decide⟩ rfl (Nat.le_of_ble_eq_true rfl) ⟨by decide, by decide⟩ dX6_hear_59 rfl ?_
    refine kb_eqi (b := sp_out (sp_aim M (M 11 k) (M 12 k)) lk) (rfl) ?_
    have hob2 : 0 ≤ sp_out (sp_aim M (M 11 k) (M 12 k)) lk ∧ sp_out (sp_aim M (M 11 k) (M 12 k)) lk ≤ 16001000 := hob
    refine kb_nmi (fun x4_5 ex4_5 => ?_)
    refine kb_istore (lv' := [(4, kb_i x4_5), (3, kb_i (M 13 k)), (0, .ref (ad 0)), (1, kb_i lk), (2, kb_i k)]) X dX6_hear_62 (by decide) rfl ?_
    refine kb_iconst X dX6_hear_64 ?_
    refine kb_istore (lv' := [(5, kb_i 0), (4, kb_i x4_5), (3, kb_i (M 13 k)), (0, .ref (ad 0)), (1, kb_i lk), (2, kb_i k)]) X dX6_hear_65 (by decide) rfl ?_
    have L67 : ∀ nn_ : Nat, ∀ (a : Int), (16 - a).toNat < nn_ → (0 ≤ a ∧ a ≤ M 1 5) → kb_B p l e ({ frames := 4, cells := 0, slots := 0, locals := 98 } : Room) s m args below meth c D ad cy (kb_A ad s.heap.size) 7 0 0 (MQ below (va_Qv (fun (_ : Unit) => True) (fun _ t => kb_en2 D ad cy (sp_hear M lk k) t) (kb_A ad s.heap.size)) args s 0 0 (kb_A ad s.heap.size)) 67 [(0, .ref (ad 0)), (1, kb_i lk), (2, kb_i k), (3, kb_i (M 13 k)), (4, kb_i x4_5), (5, kb_i a)] [] ((sp_hearI (sp_aim M (M 11 k) (M 12 k)) lk x4_5 (M 13 k) a)) := by
      intro nn_
      induction nn_ with
      | zero => intro a hn; exact absurd hn (Nat.not_lt_zero _)
      | succ nn_ ih6 =>
        intro a hn hI
        refine kb_iload X 5 rfl dX6_hear_67 ?_
        refine kb_aload_n X 0 rfl dX6_hear_69 ?_
        refine kg_X6_elements X hi_X6_hear_X6 hf_X6_hear_10 dX6_hear_70 ?_
        refine kg_X3_size X hi_X6_hear_X3 hf_X6_hear_137 dX6_hear_73 ?_
        refine kb_eqi (b := M 1 5) (by first | rfl | simp [kb_wr]) ?_
        have g7 : -2147483648 ≤ M 1 5 ∧ M 1 5 < 2147483648 := hM 1 5
        refine kb_icmp_ge (tgt := 156) X ⟨by omega, by omega⟩ ⟨by omega, by omega⟩ dX6_hear_76 (by decide) (fun h8 => ?_) (fun h8 => ?_)
        ·
          exact kb_vret X hr hlocks dX6_hear_156 (by (have e : a = M 1 5 := by omega); subst_vars; rfl)
        ·
          refine kb_aload_n X 0 rfl dX6_hear_79 ?_
          refine kg_X6_elements X hi_X6_hear_X6 hf_X6_hear_10 dX6_hear_80 ?_
          refine kb_iload X 5 rfl dX6_hear_83 ?_
          refine kb_cVi X (rest := []) [kb_i a] 1 (fl := [some 7, some 8, some 9, some 10, none, none, none, none, none, none, none]) (C := RX3) rfl rfl (c_X3_isDead l D ad cy ((sp_hearI (sp_aim M (M 11 k) (M 12 k)) lk x4_5 (M 13 k) a)) a (by first | omega | assumption | exact ⟨by omega, by omega⟩)) gX6_hear_X3_isDead rfl ⟨rfl, hy_X3_isDead⟩ ⟨by decide, by decide⟩ rfl (Nat.le_of_ble_eq_true rfl) ⟨by decide, by decide⟩ dX6_hear_85 rfl ?_
          refine kb_eqi (b := kb_b (0 ≤ a ∧ a < M 1 5 ∧ a < 16 ∧ M 8 a ≠ 0)) (by first | rfl | simp [kb_wr]) ?_
          refine kb_ifb_ne (tgt := 150) X dX6_hear_88 (by decide) (fun h9 => ?_) (fun h9 => ?_)
          ·
            refine kb_iinc (lv' := [(5, kb_i (a + 1)), (0, .ref (ad 0)), (1, kb_i lk), (2, kb_i k), (3, kb_i (M 13 k)), (4, kb_i x4_5)]) X 5 rfl dX6_hear_150 rfl (by decide) rfl ?_
            refine kb_goto (tgt := 67) X dX6_hear_153 (by decide) ?_
            refine kb_sub [1, 2, 3, 4, 5, 0] (lv' := [(0, .ref (ad 0)), (1, kb_i lk), (2, kb_i k), (3, kb_i (M 13 k)), (4, kb_i x4_5), (5, kb_i (a + 1))]) rfl ?_
            refine kb_eqM (M' := sp_hearI (sp_aim M (M 11 k) (M 12 k)) lk x4_5 (M 13 k) (a + 1)) (by first | exact (sp_hearI_S _ _ _ _ _ _ (by omega) (by show M 8 a = 0; omega) (by omega)).symm | exact (sp_hearI_D _ _ _ _ _ (by omega) (by show M 8 a ≠ 0; omega)).symm) ?_
            exact ih6 (a + 1) (by omega) (by first | omega | assumption | exact ⟨by omega, by omega⟩)
          ·
            refine kb_iload X 4 rfl dX6_hear_91 ?_
            refine kb_aload_n X 0 rfl dX6_hear_93 ?_
            refine kg_X6_elements X hi_X6_hear_X6 hf_X6_hear_10 dX6_hear_94 ?_
            refine kb_iload X 5 rfl dX6_hear_97 ?_
            refine kb_cVi X (rest := [kb_i x4_5]) [kb_i a] 1 (fl := [some 7, some 8, some 9, some 10, none, none, none, none, none, none, none]) (C := RX3) rfl rfl (c_X3_aimedDelay l D ad cy ((sp_hearI (sp_aim M (M 11 k) (M 12 k)) lk x4_5 (M 13 k) a)) a (by first | omega | assumption | exact ⟨by omega, by omega⟩)) gX6_hear_X3_aimedDelay rfl ⟨rfl, hy_X3_aimedDelay⟩ ⟨by decide, by decide⟩ rfl (Nat.le_of_ble_eq_true rfl) ⟨by decide, by decide⟩ dX6_hear_99 rfl ?_
            refine kb_eqi (b := sp_ad (sp_aim M (M 11 k) (M 12 k)) a) (rfl) ?_
            have hdb := sp_ad_b (i := a) hIP q1 q2
            refine kb_iadd X dX6_hear_102 ?_
            refine kb_nmi (fun x6_10 ex6_10 => ?_)
            refine kb_istore (lv' := [(6, kb_i x6_10), (0, .ref (ad 0)), (1, kb_i lk), (2, kb_i k), (3, kb_i (M 13 k)), (4, kb_i x4_5), (5, kb_i a)]) X dX6_hear_103 (by decide) rfl ?_
            have b1 := sp_hearI_b (A := sp_aim M (M 11 k) (M 12 k)) (lk := lk) (out := x4_5) (t := M 13 k) (j := a) (b := 20000) hb q3
            have b2 := sp_ld_b (lk := lk) (i := a) (s := x6_10 - 1) (t := M 13 k) b1 (by omega)
            have b3 := sp_ld_b (lk := lk) (i := a) (s := x6_10) (t := 2 * M 13 k) b2 (by omega)
            refine kb_aload_n X 1 rfl dX6_hear_105 ?_
            refine kg_X6_heard X hi_X6_hear_X6 hf_X6_hear_26 dX6_hear_106 ?_
            refine kb_iload_n X 2 rfl dX6_hear_109 ?_
            refine kb_iload X 6 rfl dX6_hear_110 ?_
            refine kb_iload X 0 rfl dX6_hear_112 ?_
            refine kb_iconst X dX6_hear_114 ?_
            refine kb_isub X dX6_hear_115 ?_
            refine kb_iload_n X 4 rfl dX6_hear_116 ?_
            refine kb_cVv X (rest := []) [kb_i lk, kb_i a, kb_i (x6_10 - 1), kb_i (M 13 k)] 3 (fl := [some 16, some 17, none, none, none]) (C := RX1) rfl rfl (c_X1_louder l D ad cy ((sp_hearI (sp_aim M (M 11 k) (M 12 k)) lk x4_5 (M 13 k) a)) lk a (x6_10 - 1) (M 13 k) (show 0 ≤ M 3 2 ∧ M 3 2 < 6 from (by first | omega | assumption | exact ⟨by omega, by omega⟩)) (by first | omega | assumption | exact ⟨by omega, by omega⟩) (by first | omega | assumption | exact ⟨by omega, by omega⟩) (by first | omega | assumption | exact ⟨by omega, by omega⟩) (by first | omega | assumption | exact ⟨by omega, by omega⟩) (fun j => by have := b1 j; omega)) gX6_hear_X1_louder rfl ⟨rfl, hy_X1_louder⟩ ⟨by decide, by decide⟩ rfl (Nat.le_of_ble_eq_true rfl) ⟨by decide, by decide⟩ dX6_hear_117 rfl ?_
            refine kb_aload_n X 1 rfl dX6_hear_120 ?_
            refine kg_X6_heard X hi_X6_hear_X6 hf_X6_hear_26 dX6_hear_121 ?_
            refine kb_iload_n X 2 rfl dX6_hear_124 ?_
            refine kb_iload X 6 rfl dX6_hear_125 ?_
            refine kb_iload X 0 rfl dX6_hear_127 ?_
            refine kb_iconst X dX6_hear_129 ?_
            refine kb_iload_n X 4 rfl dX6_hear_130 ?_
            refine kb_imul X dX6_hear_131 ?_
            refine kb_cVv X (rest := []) [kb_i lk, kb_i a, kb_i x6_10, kb_i (2 * (M 13 k))] 3 (fl := [some 16, some 17, none, none, none]) (C := RX1) rfl rfl (c_X1_louder l D ad cy (sp_ld ((sp_hearI (sp_aim M (M 11 k) (M 12 k)) lk x4_5 (M 13 k) a)) lk a (x6_10 - 1) (M 13 k)) lk a x6_10 (2 * (M 13 k)) (show 0 ≤ M 3 2 ∧ M 3 2 < 6 from (by first | omega | assumption | exact ⟨by omega, by omega⟩)) (by first | omega | assumption | exact ⟨by omega, by omega⟩) (by first | omega | assumption | exact ⟨by omega, by omega⟩) (by first | omega | assumption | exact ⟨by omega, by omega⟩) (by first | omega | assumption | exact ⟨by omega, by omega⟩) (fun j => by have := b2 j; omega)) gX6_hear_X1_louder rfl ⟨rfl, hy_X1_louder⟩ ⟨by decide, by decide⟩ rfl (Nat.le_of_ble_eq_true rfl) ⟨by decide, by decide⟩ dX6_hear_132 rfl ?_
            refine kb_aload_n X 1 rfl dX6_hear_135 ?_
            refine kg_X6_heard X hi_X6_hear_X6 hf_X6_hear_26 dX6_hear_136 ?_
            refine kb_iload_n X 2 rfl dX6_hear_139 ?_
            refine kb_iload X 6 rfl dX6_hear_140 ?_
            refine kb_iload X 0 rfl dX6_hear_142 ?_
            refine kb_iconst X dX6_hear_144 ?_
            refine kb_iadd X dX6_hear_145 ?_
            refine kb_iload_n X 4 rfl dX6_hear_146 ?_
            refine kb_cVv X (rest := []) [kb_i lk, kb_i a, kb_i (x6_10 + 1), kb_i (M 13 k)] 3 (fl := [some 16, some 17, none, none, none]) (C := RX1) rfl rfl (c_X1_louder l D ad cy (sp_ld (sp_ld ((sp_hearI (sp_aim M (M 11 k) (M 12 k)) lk x4_5 (M 13 k) a)) lk a (x6_10 - 1) (M 13 k)) lk a x6_10 (2 * (M 13 k))) lk a (x6_10 + 1) (M 13 k) (show 0 ≤ M 3 2 ∧ M 3 2 < 6 from (by first | omega | assumption | exact ⟨by omega, by omega⟩)) (by first | omega | assumption | exact ⟨by omega, by omega⟩) (by first | omega | assumption | exact ⟨by omega, by omega⟩) (by first | omega | assumption | exact ⟨by omega, by omega⟩) (by first | omega | assumption | exact ⟨by omega, by omega⟩) (fun j => by have := b3 j; omega)) gX6_hear_X1_louder rfl ⟨rfl, hy_X1_louder⟩ ⟨by decide, by decide⟩ rfl (Nat.le_of_ble_eq_true rfl) ⟨by decide, by decide⟩ dX6_hear_147 rfl ?_
            refine kb_iinc (lv' := [(5, kb_i (a + 1)), (6, kb_i x6_10), (0, .ref (ad 0)), (1, kb_i lk), (2, kb_i k), (3, kb_i (M 13 k)), (4, kb_i x4_5)]) X 6 rfl dX6_hear_150 rfl (by decide) rfl ?_
            refine kb_goto (tgt := 67) X dX6_hear_153 (by decide) ?_
            refine kb_sub [2, 3, 4, 5, 6, 0] (lv' := [(0, .ref (ad 0)), (1, kb_i lk), (2, kb_i k), (3, kb_i (M 13 k)), (4, kb_i x4_5), (5, kb_i (a + 1))]) rfl ?_
            refine kb_eqM (M' := sp_hearI (sp_aim M (M 11 k) (M 12 k)) lk x4_5 (M 13 k) (a + 1)) (by first | exact (sp_hearI_S _ _ _ _ _ _ (by omega) (by show M 8 a = 0; omega) (by omega)).symm | exact (sp_hearI_D _ _ _ _ _ (by omega) (by show M 8 a ≠ 0; omega)).symm) ?_
            exact ih6 (a + 1) (by omega) (by first | omega | assumption | exact ⟨by omega, by omega⟩)
    refine kb_sub [3, 4, 5, 2, 1, 0] (lv' := [(0, .ref (ad 0)), (1, kb_i lk), (2, kb_i k), (3, kb_i (M 13 k)), (4, kb_i x4_5), (5, kb_i 0)]) rfl ?_
    refine kb_eqM (M' := sp_hearI (sp_aim M (M 11 k) (M 12 k)) lk x4_5 (M 13 k) (0 : Int)) ((sp_hearI_0 _ _ _ _).symm) ?_
    exact L67 _ (0 : Int) (Nat.lt_succ_self _) (by first | omega | assumption | exact ⟨by omega, by omega⟩)
  ·
    exact kb_vret X hr hlocks dX6_hear_11 (by exfalso; omega)
-- X6_look
theorem hf_X6_look_10 : Cond.fieldLink yX6_look.cls 10 RX6 "elements" "LSoundBoard$Probe;" ∈ wsX6_look := by decide +kernel
theorem hf_X6_look_19 : Cond.fieldLink yX6_look.cls 19 RX6 "scene" "LSoundBoard$Scene;" ∈ wsX6_look := by decide +kernel
theorem hf_X6_look_26 : Cond.fieldLink yX6_look.cls 26 RX6 "heard" "LSoundBoard$Looks;" ∈ wsX6_look := by decide +kernel
theorem hf_X6_look_47 : Cond.fieldLink yX6_look.cls 47 RX6 "power" "LSoundBoard$Power;" ∈ wsX6_look := by decide +kernel
theorem hf_X6_look_63 : Cond.fieldLink yX6_look.cls 63 RX2 "heat" "I" ∈ wsX6_look := by decide +kernel
theorem hf_X6_look_67 : Cond.fieldLink yX6_look.cls 67 RX1 "size" "I" ∈ wsX6_look := by decide +kernel
theorem hf_X6_look_83 : Cond.fieldLink yX6_look.cls 83 RX3 "alive" "I" ∈ wsX6_look := by decide +kernel
theorem hf_X6_look_98 : Cond.fieldLink yX6_look.cls 98 RX5 "size" "I" ∈ wsX6_look := by decide +kernel
theorem hf_X6_look_114 : Cond.fieldLink yX6_look.cls 114 RX2 "most" "I" ∈ wsX6_look := by decide +kernel
theorem hi_X6_look_X1 : ∀ w ∈ wsX10, w ∈ wsX6_look := by decide +kernel
theorem hi_X6_look_X2 : ∀ w ∈ wsX20, w ∈ wsX6_look := by decide +kernel
theorem hi_X6_look_X3 : ∀ w ∈ wsX30, w ∈ wsX6_look := by decide +kernel
theorem hi_X6_look_X5 : ∀ w ∈ wsX50, w ∈ wsX6_look := by decide +kernel
theorem hi_X6_look_X6 : ∀ w ∈ wsX60, w ∈ wsX6_look := by decide +kernel
theorem hy_X6_look : yX6_look.cls ≠ "java/lang/invoke/MethodHandle" ∧ yX6_look.cls ≠ "java/lang/invoke/VarHandle" ∧ (parseMethodDescriptor yX6_look.desc).map (fun d => d.parameters.length) = some 1 := by decide +kernel
set_option maxHeartbeats 4000000 in
set_option maxRecDepth 100000 in
theorem c_X6_look (l : Launch) (D : va_G) (ad : Nat → Nat) (cy : Nat → ClassId) (M : kb_M) (t0 : Int) (ht0 : -2147483648 ≤ t0 ∧ t0 < 2147483648) (hIP : sp_IP M) (hIL : sp_IL M) (hsc : sp_sc M) (hh : 0 ≤ M 6 0 ∧ M 6 0 ≤ 1000000) (hmo : 0 ≤ M 6 1 ∧ M 6 1 ≤ 1000000) (hev : 0 ≤ M 3 4 ∧ M 3 4 < 1000000) : kb_Ci l D ad cy yX6_look wsX6_look 5 124 [.ref (ad 0), kb_i t0] M (sp_lookR M t0) (sp_lookM M t0) := by
  refine kb_mkCi (cc := cX6_look) (maxL := 5) (lv := [(0, .ref (ad 0)), (1, kb_i t0)]) (plainFor_of_name (by decide)) rfl (Nat.le_of_ble_eq_true rfl) rfl ?_
  intro p e s m args below meth c X hr hlocks hM
  obtain ⟨hxs, hn, ha, hP, hT, hf⟩ := id hIP
  obtain ⟨ho, hs, hsb⟩ := id hIL
  have hcb := sp_cube ha
  have hn2 := hsc.1
  have hbr := sp_bgr_b hs
  refine kb_aload_n X 0 rfl dX6_look_0 ?_
  refine kg_X6_elements X hi_X6_look_X6 hf_X6_look_10 dX6_look_1 ?_
  refine kb_iload_n X 1 rfl dX6_look_4 ?_
  refine kb_cVi X (rest := []) [kb_i t0] 1 (fl := [some 7, some 8, some 9, some 10, none, none, none, none, none, none, none]) (C := RX3) rfl rfl (c_X3_has l D ad cy M t0 (by first | omega | assumption | exact ⟨by omega, by omega⟩)) gX6_look_X3_has rfl ⟨rfl, hy_X3_has⟩ ⟨by decide, by decide⟩ rfl (Nat.le_of_ble_eq_true rfl) ⟨by decide, by decide⟩ dX6_look_5 rfl ?_
  refine kb_ifb_ne (tgt := 14) X dX6_look_8 (by decide) (fun h1 => ?_) (fun h1 => ?_)
  ·
    refine kb_aload_n X 0 rfl dX6_look_14 ?_
    refine kg_X6_elements X hi_X6_look_X6 hf_X6_look_10 dX6_look_15 ?_
    refine kb_iload_n X 1 rfl dX6_look_18 ?_
    refine kb_cVi X (rest := []) [kb_i t0] 1 (fl := [some 7, some 8, some 9, some 10, none, none, none, none, none, none, none]) (C := RX3) rfl rfl (c_X3_isDead l D ad cy M t0 (by first | omega | assumption | exact ⟨by omega, by omega⟩)) gX6_look_X3_isDead rfl ⟨rfl, hy_X3_isDead⟩ ⟨by decide, by decide⟩ rfl (Nat.le_of_ble_eq_true rfl) ⟨by decide, by decide⟩ dX6_look_19 rfl ?_
    refine kb_ifb_eq (tgt := 28) X dX6_look_22 (by decide) (fun h2 => ?_) (fun h2 => ?_)
    ·
      refine kb_aload_n X 0 rfl dX6_look_28 ?_
      refine kg_X6_elements X hi_X6_look_X6 hf_X6_look_10 dX6_look_29 ?_
      refine kg_X3_alive X hi_X6_look_X3 hf_X6_look_83 dX6_look_32 ?_
      have g3 : -2147483648 ≤ M 1 6 ∧ M 1 6 < 2147483648 := hM 1 6
      refine kb_aload_n X 0 rfl dX6_look_35 ?_
      refine kg_X6_elements X hi_X6_look_X6 hf_X6_look_10 dX6_look_36 ?_
      refine kg_X3_alive X hi_X6_look_X3 hf_X6_look_83 dX6_look_39 ?_
      refine kb_imul X dX6_look_42 ?_
      refine kb_aload_n X 0 rfl dX6_look_43 ?_
      refine kg_X6_elements X hi_X6_look_X6 hf_X6_look_10 dX6_look_44 ?_
      refine kg_X3_alive X hi_X6_look_X3 hf_X6_look_83 dX6_look_47 ?_
      refine kb_imul X dX6_look_50 ?_
      refine kb_nmi (fun x2_4 ex2_4 => ?_)
      refine kb_istore_n (lv' := [(2, kb_i x2_4), (0, .ref (ad 0)), (1, kb_i t0)]) X dX6_look_51 (by decide) rfl ?_
      refine kb_aload_n X 1 rfl dX6_look_52 ?_
      refine kg_X6_power X hi_X6_look_X6 hf_X6_look_47 dX6_look_53 ?_
      refine kg_X2_heat X hi_X6_look_X2 hf_X6_look_63 dX6_look_56 ?_
      have g5 : -2147483648 ≤ M 6 0 ∧ M 6 0 < 2147483648 := hM 6 0
      refine kb_iload_n X 0 rfl dX6_look_59 ?_
      refine kb_iadd X dX6_look_60 ?_
      refine kb_aload_n X 1 rfl dX6_look_61 ?_
      refine kg_X6_power X hi_X6_look_X6 hf_X6_look_47 dX6_look_62 ?_
      refine kg_X2_most X hi_X6_look_X2 hf_X6_look_114 dX6_look_65 ?_
      have g6 : -2147483648 ≤ M 6 1 ∧ M 6 1 < 2147483648 := hM 6 1
      refine kb_icmp_le (tgt := 74) X ⟨by omega, by omega⟩ ⟨by omega, by omega⟩ dX6_look_68 (by decide) (fun h7 => ?_) (fun h7 => ?_)
      ·
        refine kb_aload_n X 1 rfl dX6_look_74 ?_
        refine kg_X6_power X hi_X6_look_X6 hf_X6_look_47 dX6_look_75 ?_
        refine kb_dup X rfl dX6_look_78 ?_
        refine kg_X2_heat X hi_X6_look_X2 hf_X6_look_63 dX6_look_79 ?_
        refine kb_iload_n X 0 rfl dX6_look_82 ?_
        refine kb_iadd X dX6_look_83 ?_
        refine kp_X2_heat X hi_X6_look_X2 hf_X6_look_63 ⟨by omega, by omega⟩ dX6_look_84 ?_
        refine kb_aload_n X 1 rfl dX6_look_87 ?_
        refine kg_X6_heard X hi_X6_look_X6 hf_X6_look_26 dX6_look_88 ?_
        refine kb_iload_n X 2 rfl dX6_look_91 ?_
        refine kb_cVi X (rest := []) [kb_i t0] 3 (fl := [some 16, some 17, none, none, none]) (C := RX1) rfl rfl (c_X1_begin l D ad cy (kb_wr M 6 0 ((M 6 0) + x2_4)) t0 (show 0 ≤ M 3 2 ∧ M 3 2 < 6 from (by first | omega | assumption | exact ⟨by omega, by omega⟩)) (show 0 ≤ M 3 3 ∧ M 3 3 ≤ 6 from (by first | omega | assumption | exact ⟨by omega, by omega⟩)) (show 0 ≤ M 3 4 ∧ M 3 4 < 1000000 from (by first | omega | assumption | exact ⟨by omega, by omega⟩)) (by first | omega | assumption | exact ⟨by omega, by omega⟩)) gX6_look_X1_begin rfl ⟨rfl, hy_X1_begin⟩ ⟨by decide, by decide⟩ rfl (Nat.le_of_ble_eq_true rfl) ⟨by decide, by decide⟩ dX6_look_92 rfl ?_
        refine kb_eqi (b := sp_bgr M) (rfl) ?_
        refine kb_nmi (fun x3_8 ex3_8 => ?_)
        refine kb_istore_n (lv' := [(3, kb_i x3_8), (2, kb_i x2_4), (0, .ref (ad 0)), (1, kb_i t0)]) X dX6_look_95 (by decide) rfl ?_
        refine kb_iconst X dX6_look_96 ?_
        refine kb_istore (lv' := [(4, kb_i 0), (3, kb_i x3_8), (2, kb_i x2_4), (0, .ref (ad 0)), (1, kb_i t0)]) X dX6_look_97 (by decide) rfl ?_
        have L99 : ∀ nn_ : Nat, ∀ (k : Int), (8 - k).toNat < nn_ → (0 ≤ k ∧ k ≤ M 2 5) → kb_B p l e ({ frames := 5, cells := 0, slots := 0, locals := 124 } : Room) s m args below meth c D ad cy (kb_A ad s.heap.size) 5 0 0 (MQ below (va_Qi (fun (vq_ : Int32) (_ : Unit) => vq_ = kb_J (sp_lookR M t0)) (fun _ t => kb_en2 D ad cy (sp_lookM M t0) t) (kb_A ad s.heap.size)) args s 0 0 (kb_A ad s.heap.size)) 99 [(0, .ref (ad 0)), (1, kb_i t0), (2, kb_i x2_4), (3, kb_i x3_8), (4, kb_i k)] [] ((sp_lk (sp_bgn (kb_wr M 6 0 ((M 6 0) + x2_4)) t0) x3_8 k.toNat)) := by
          intro nn_
          induction nn_ with
          | zero => intro k hn; exact absurd hn (Nat.not_lt_zero _)
          | succ nn_ ih9 =>
            intro k hn hI
            have hIP1 : sp_IP ((sp_lk (sp_bgn (kb_wr M 6 0 ((M 6 0) + x2_4)) t0) x3_8 k.toNat)) := sp_lk_IP _ hIP
            have hsc1 : sp_sc ((sp_lk (sp_bgn (kb_wr M 6 0 ((M 6 0) + x2_4)) t0) x3_8 k.toNat)) := sp_lk_sc _ hsc
            have hb1 := sp_lk_b (M := sp_bgn (kb_wr M 6 0 (M 6 0 + x2_4)) t0) (lk := x3_8) k.toNat (sp_bgn_b hsb) hsc (by show ((k.toNat : Nat) : Int) ≤ M 2 5; omega)
            have ho1 : 0 ≤ ((sp_lk (sp_bgn (kb_wr M 6 0 ((M 6 0) + x2_4)) t0) x3_8 k.toNat)) 3 2 ∧ ((sp_lk (sp_bgn (kb_wr M 6 0 ((M 6 0) + x2_4)) t0) x3_8 k.toNat)) 3 2 < 6 := by rw [sp_lk_q _ _ _ (by decide)]; exact sp_bgn_o ho
            refine kb_iload X 4 rfl dX6_look_99 ?_
            refine kb_aload_n X 0 rfl dX6_look_101 ?_
            refine kg_X6_scene X hi_X6_look_X6 hf_X6_look_19 dX6_look_102 ?_
            refine kg_X5_size X hi_X6_look_X5 hf_X6_look_98 dX6_look_105 ?_
            refine kb_eqi (b := M 2 5) (by first | rfl | (rw [sp_lk_q _ _ _ (by decide)]; rfl)) ?_
            have g10 : -2147483648 ≤ M 2 5 ∧ M 2 5 < 2147483648 := hM 2 5
            refine kb_icmp_ge (tgt := 124) X ⟨by omega, by omega⟩ ⟨by omega, by omega⟩ dX6_look_108 (by decide) (fun h11 => ?_) (fun h11 => ?_)
            ·
              refine kb_aload_n X 0 rfl dX6_look_124 ?_
              refine kg_X6_scene X hi_X6_look_X6 hf_X6_look_19 dX6_look_125 ?_
              refine kb_cVv X (rest := []) [] 2 (fl := [some 11, some 12, some 13, some 14, some 15, none]) (C := RX5) rfl rfl (c_X5_move l D ad cy ((sp_lk (sp_bgn (kb_wr M 6 0 ((M 6 0) + x2_4)) t0) x3_8 k.toNat))  (by exact hsc1)) gX6_look_X5_move rfl ⟨rfl, hy_X5_move⟩ ⟨by decide, by decide⟩ rfl (Nat.le_of_ble_eq_true rfl) ⟨by decide, by decide⟩ dX6_look_128 rfl ?_
              refine kb_aload_n X 0 rfl dX6_look_131 ?_
              refine kg_X6_heard X hi_X6_look_X6 hf_X6_look_26 dX6_look_132 ?_
              refine kg_X1_size X hi_X6_look_X1 hf_X6_look_67 dX6_look_135 ?_
              refine kb_eqi (b := ((sp_lk (sp_bgn (kb_wr M 6 0 ((M 6 0) + x2_4)) t0) x3_8 k.toNat)) 3 3) (by first | rfl | (rw [sp_lk_q _ _ _ (by decide)]; rfl)) ?_
              exact kb_iret X hr hlocks dX6_look_138 (by rw [sp_look_sz]; unfold sp_lookR; subst_vars; repeat (first | rw [if_pos (by omega)] | rw [if_neg (by omega)])) (by (have e : k = M 2 5 := by omega); subst_vars; unfold sp_lookM; rw [if_pos (by omega)]; rfl)
            ·
              refine kb_aload_n X 0 rfl dX6_look_111 ?_
              refine kb_iload_n X 3 rfl dX6_look_112 ?_
              refine kb_iload X 4 rfl dX6_look_113 ?_
              refine kb_cVv X (rest := []) [kb_i x3_8, kb_i k] 0 (fl := [some 1, some 2, some 3, some 4, some 5, some 6]) (C := RX6) rfl rfl (c_X6_hear l D ad cy ((sp_lk (sp_bgn (kb_wr M 6 0 ((M 6 0) + x2_4)) t0) x3_8 k.toNat)) x3_8 k (by exact hIP1) (by exact ho1) (by omega) (by rw [sp_lk_q _ _ _ (by decide)]; show 0 ≤ k ∧ k < M 2 5 ∧ k < 8; omega) (by exact hsc1) (fun j => by have := hb1 j; omega)) gX6_look_X6_hear rfl ⟨rfl, hy_X6_hear⟩ ⟨by decide, by decide⟩ rfl (Nat.le_of_ble_eq_true rfl) ⟨by decide, by decide⟩ dX6_look_115 rfl ?_
              refine kb_iinc (lv' := [(4, kb_i (k + 1)), (0, .ref (ad 0)), (1, kb_i t0), (2, kb_i x2_4), (3, kb_i x3_8)]) X 4 rfl dX6_look_118 rfl (by decide) rfl ?_
              refine kb_goto (tgt := 99) X dX6_look_121 (by decide) ?_
              refine kb_sub [1, 2, 3, 4, 0] (lv' := [(0, .ref (ad 0)), (1, kb_i t0), (2, kb_i x2_4), (3, kb_i x3_8), (4, kb_i (k + 1))]) rfl ?_
              refine kb_eqM (M' := sp_lk (sp_bgn (kb_wr M 6 0 ((M 6 0) + x2_4)) t0) x3_8 (k + 1).toNat) (sp_lkS _ _ hI.1) ?_
              exact ih9 (k + 1) (by omega) (by first | omega | assumption | exact ⟨by omega, by omega⟩)
        refine kb_sub [3, 4, 2, 1, 0] (lv' := [(0, .ref (ad 0)), (1, kb_i t0), (2, kb_i x2_4), (3, kb_i x3_8), (4, kb_i 0)]) rfl ?_
        refine kb_eqM (M' := sp_lk (sp_bgn (kb_wr M 6 0 ((M 6 0) + x2_4)) t0) x3_8 (0 : Int).toNat) (rfl) ?_
        exact L99 _ (0 : Int) (Nat.lt_succ_self _) (by first | omega | assumption | exact ⟨by omega, by omega⟩)
      ·
        refine kb_bipush X (by decide) dX6_look_71 ?_
        exact kb_iret X hr hlocks dX6_look_73 (by unfold sp_lookR; repeat (first | rw [if_pos (by omega)] | rw [if_neg (by omega)])) (by unfold sp_lookM; rw [if_neg (by omega)])
    ·
      refine kb_bipush X (by decide) dX6_look_25 ?_
      exact kb_iret X hr hlocks dX6_look_27 (by unfold sp_lookR; repeat (first | rw [if_pos (by omega)] | rw [if_neg (by omega)])) (by unfold sp_lookM; rw [if_neg (by omega)])
  ·
    refine kb_bipush X (by decide) dX6_look_11 ?_
    exact kb_iret X hr hlocks dX6_look_13 (by unfold sp_lookR; repeat (first | rw [if_pos (by omega)] | rw [if_neg (by omega)])) (by unfold sp_lookM; rw [if_neg (by omega)])
-- X6_aimedSum
theorem hf_X6_aimedSum_10 : Cond.fieldLink yX6_aimedSum.cls 10 RX6 "elements" "LSoundBoard$Probe;" ∈ wsX6_aimedSum := by decide +kernel
theorem hf_X6_aimedSum_26 : Cond.fieldLink yX6_aimedSum.cls 26 RX6 "heard" "LSoundBoard$Looks;" ∈ wsX6_aimedSum := by decide +kernel
theorem hf_X6_aimedSum_137 : Cond.fieldLink yX6_aimedSum.cls 137 RX3 "size" "I" ∈ wsX6_aimedSum := by decide +kernel
theorem hi_X6_aimedSum_X3 : ∀ w ∈ wsX30, w ∈ wsX6_aimedSum := by decide +kernel
theorem hi_X6_aimedSum_X6 : ∀ w ∈ wsX60, w ∈ wsX6_aimedSum := by decide +kernel
theorem hy_X6_aimedSum : yX6_aimedSum.cls ≠ "java/lang/invoke/MethodHandle" ∧ yX6_aimedSum.cls ≠ "java/lang/invoke/VarHandle" ∧ (parseMethodDescriptor yX6_aimedSum.desc).map (fun d => d.parameters.length) = some 1 := by decide +kernel
set_option maxHeartbeats 4000000 in
set_option maxRecDepth 100000 in
theorem c_X6_aimedSum (l : Launch) (D : va_G) (ad : Nat → Nat) (cy : Nat → ClassId) (M : kb_M) (lk : Int) (hn : 0 ≤ M 1 5 ∧ M 1 5 ≤ 16) (ho : 0 ≤ M 3 2 ∧ M 3 2 < 6) (hlk : 0 ≤ lk ∧ lk < 1000) (hda : ∀ i : Int, 0 ≤ sp_ad M i ∧ sp_ad M i ≤ 20000000) (hwa : ∀ i : Int, 0 ≤ sp_aw M i ∧ sp_aw M i ≤ 4001) : kb_Ci l D ad cy yX6_aimedSum wsX6_aimedSum 4 90 [.ref (ad 0), kb_i lk] M (sp_as M lk) (M) := by
  refine kb_mkCi (cc := cX6_aimedSum) (maxL := 6) (lv := [(0, .ref (ad 0)), (1, kb_i lk)]) (plainFor_of_name (by decide)) rfl (Nat.le_of_ble_eq_true rfl) rfl ?_
  intro p e s m args below meth c X hr hlocks hM
  have q17 := hM 17 ((M 3 2 + lk) % 6)
  unfold kb_rg at q17
  have hod : 0 ≤ sp_out M lk ∧ sp_out M lk ≤ 20000000 := hda _
  refine kb_aload_n X 0 rfl dX6_aimedSum_0 ?_
  refine kg_X6_elements X hi_X6_aimedSum_X6 hf_X6_aimedSum_10 dX6_aimedSum_1 ?_
  refine kb_aload_n X 0 rfl dX6_aimedSum_4 ?_
  refine kg_X6_heard X hi_X6_aimedSum_X6 hf_X6_aimedSum_26 dX6_aimedSum_5 ?_
  refine kb_iload_n X 1 rfl dX6_aimedSum_8 ?_
  refine kb_cVi X (rest := [.ref (ad 1)]) [kb_i lk] 3 (fl := [some 16, some 17, none, none, none]) (C := RX1) rfl rfl (c_X1_senderOf l D ad cy M lk (by first | omega | assumption | exact ⟨by omega, by omega⟩) (by first | omega | assumption | exact ⟨by omega, by omega⟩)) gX6_aimedSum_X1_senderOf rfl ⟨rfl, hy_X1_senderOf⟩ ⟨by decide, by decide⟩ rfl (Nat.le_of_ble_eq_true rfl) ⟨by decide, by decide⟩ dX6_aimedSum_9 rfl ?_
  refine kb_cVi X (rest := []) [kb_i (M 17 ((M 3 2 + lk) % 6))] 1 (fl := [some 7, some 8, some 9, some 10, none, none, none, none, none, none, none]) (C := RX3) rfl rfl (c_X3_aimedDelay l D ad cy M (M 17 ((M 3 2 + lk) % 6)) (by first | omega | assumption | exact ⟨by omega, by omega⟩)) gX6_aimedSum_X3_aimedDelay rfl ⟨rfl, hy_X3_aimedDelay⟩ ⟨by decide, by decide⟩ rfl (Nat.le_of_ble_eq_true rfl) ⟨by decide, by decide⟩ dX6_aimedSum_12 rfl ?_
  refine kb_eqi (b := sp_out M lk) (rfl) ?_
  refine kb_nmi (fun x2_1 ex2_1 => ?_)
  refine kb_istore_n (lv' := [(2, kb_i x2_1), (0, .ref (ad 0)), (1, kb_i lk)]) X dX6_aimedSum_15 (by decide) rfl ?_
  refine kb_iconst X dX6_aimedSum_16 ?_
  refine kb_istore_n (lv' := [(3, kb_i 0), (2, kb_i x2_1), (0, .ref (ad 0)), (1, kb_i lk)]) X dX6_aimedSum_17 (by decide) rfl ?_
  refine kb_iconst X dX6_aimedSum_18 ?_
  refine kb_istore (lv' := [(4, kb_i 0), (3, kb_i 0), (2, kb_i x2_1), (0, .ref (ad 0)), (1, kb_i lk)]) X dX6_aimedSum_19 (by decide) rfl ?_
  have L21 : ∀ nn_ : Nat, ∀ (u a : Int), (16 - a).toNat < nn_ → (0 ≤ a ∧ a ≤ M 1 5) → (u = sp_sum (fun i => sp_aw M i * sp_at M lk i (sp_out M lk + sp_ad M i)) a.toNat) → kb_B p l e ({ frames := 4, cells := 0, slots := 0, locals := 90 } : Room) s m args below meth c D ad cy (kb_A ad s.heap.size) 6 0 0 (MQ below (va_Qi (fun (vq_ : Int32) (_ : Unit) => vq_ = kb_J (sp_as M lk)) (fun _ t => kb_en2 D ad cy (M) t) (kb_A ad s.heap.size)) args s 0 0 (kb_A ad s.heap.size)) 21 [(0, .ref (ad 0)), (1, kb_i lk), (2, kb_i x2_1), (3, kb_i u), (4, kb_i a)] [] M := by
    intro nn_
    induction nn_ with
    | zero => intro u a hn; exact absurd hn (Nat.not_lt_zero _)
    | succ nn_ ih2 =>
      intro u a hn hI hJ
      refine kb_iload X 4 rfl dX6_aimedSum_21 ?_
      refine kb_aload_n X 0 rfl dX6_aimedSum_23 ?_
      refine kg_X6_elements X hi_X6_aimedSum_X6 hf_X6_aimedSum_10 dX6_aimedSum_24 ?_
      refine kg_X3_size X hi_X6_aimedSum_X3 hf_X6_aimedSum_137 dX6_aimedSum_27 ?_
      have g3 : -2147483648 ≤ M 1 5 ∧ M 1 5 < 2147483648 := hM 1 5
      refine kb_icmp_ge (tgt := 82) X ⟨by omega, by omega⟩ ⟨by omega, by omega⟩ dX6_aimedSum_30 (by decide) (fun h4 => ?_) (fun h4 => ?_)
      ·
        refine kb_iload_n X 3 rfl dX6_aimedSum_82 ?_
        exact kb_iret X hr hlocks dX6_aimedSum_83 (by (have e : a = M 1 5 := by omega); rw [hJ, e]; rfl) (by first | rfl | (exfalso; omega))
      ·
        have w1 := hwa a
        have d1 := hda a
        refine kb_aload_n X 0 rfl dX6_aimedSum_33 ?_
        refine kg_X6_elements X hi_X6_aimedSum_X6 hf_X6_aimedSum_10 dX6_aimedSum_34 ?_
        refine kb_iload X 4 rfl dX6_aimedSum_37 ?_
        refine kb_cVi X (rest := []) [kb_i a] 1 (fl := [some 7, some 8, some 9, some 10, none, none, none, none, none, none, none]) (C := RX3) rfl rfl (c_X3_aimedWeight l D ad cy M a (by first | omega | assumption | exact ⟨by omega, by omega⟩)) gX6_aimedSum_X3_aimedWeight rfl ⟨rfl, hy_X3_aimedWeight⟩ ⟨by decide, by decide⟩ rfl (Nat.le_of_ble_eq_true rfl) ⟨by decide, by decide⟩ dX6_aimedSum_39 rfl ?_
        refine kb_nmi (fun x5_5 ex5_5 => ?_)
        refine kb_istore (lv' := [(5, kb_i x5_5), (0, .ref (ad 0)), (1, kb_i lk), (2, kb_i x2_1), (3, kb_i u), (4, kb_i a)]) X dX6_aimedSum_42 (by decide) rfl ?_
        refine kb_iload X 0 rfl dX6_aimedSum_44 ?_
        refine kb_if_eq (tgt := 76) X ⟨by omega, by omega⟩ dX6_aimedSum_46 (by decide) (fun h6 => ?_) (fun h6 => ?_)
        ·
          refine kb_iinc (lv' := [(4, kb_i (a + 1)), (5, kb_i x5_5), (0, .ref (ad 0)), (1, kb_i lk), (2, kb_i x2_1), (3, kb_i u)]) X 5 rfl dX6_aimedSum_76 rfl (by decide) rfl ?_
          refine kb_goto (tgt := 21) X dX6_aimedSum_79 (by decide) ?_
          refine kb_sub [2, 3, 4, 5, 0] (lv' := [(0, .ref (ad 0)), (1, kb_i lk), (2, kb_i x2_1), (3, kb_i u), (4, kb_i (a + 1))]) rfl ?_
          exact ih2 u (a + 1) (by omega) (by first | omega | assumption | exact ⟨by omega, by omega⟩) (by rw [sp_sumS _ hI.1, ← hJ]; subst_vars; first | rfl | (simp_all; done) | (rw [show sp_aw M a = 0 by omega]; omega))
        ·
          refine kb_iload_n X 4 rfl dX6_aimedSum_49 ?_
          refine kb_iload X 0 rfl dX6_aimedSum_50 ?_
          refine kb_aload_n X 1 rfl dX6_aimedSum_52 ?_
          refine kg_X6_heard X hi_X6_aimedSum_X6 hf_X6_aimedSum_26 dX6_aimedSum_53 ?_
          refine kb_iload_n X 2 rfl dX6_aimedSum_56 ?_
          refine kb_iload X 5 rfl dX6_aimedSum_57 ?_
          refine kb_iload_n X 3 rfl dX6_aimedSum_59 ?_
          refine kb_aload_n X 1 rfl dX6_aimedSum_60 ?_
          refine kg_X6_elements X hi_X6_aimedSum_X6 hf_X6_aimedSum_10 dX6_aimedSum_61 ?_
          refine kb_iload X 5 rfl dX6_aimedSum_64 ?_
          refine kb_cVi X (rest := [kb_i x2_1, kb_i a, kb_i lk, .ref (ad 3), kb_i x5_5, kb_i u]) [kb_i a] 1 (fl := [some 7, some 8, some 9, some 10, none, none, none, none, none, none, none]) (C := RX3) rfl rfl (c_X3_aimedDelay l D ad cy M a (by first | omega | assumption | exact ⟨by omega, by omega⟩)) gX6_aimedSum_X3_aimedDelay rfl ⟨rfl, hy_X3_aimedDelay⟩ ⟨by decide, by decide⟩ rfl (Nat.le_of_ble_eq_true rfl) ⟨by decide, by decide⟩ dX6_aimedSum_66 rfl ?_
          refine kb_iadd X dX6_aimedSum_69 ?_
          refine kb_cVi X (rest := [kb_i x5_5, kb_i u]) [kb_i lk, kb_i a, kb_i (x2_1 + (sp_ad M a))] 3 (fl := [some 16, some 17, none, none, none]) (C := RX1) rfl rfl (c_X1_at l D ad cy M lk a (x2_1 + (sp_ad M a)) (by first | omega | assumption | exact ⟨by omega, by omega⟩) (by first | omega | assumption | exact ⟨by omega, by omega⟩) (by first | omega | assumption | exact ⟨by omega, by omega⟩) (by first | omega | assumption | exact ⟨by omega, by omega⟩)) gX6_aimedSum_X1_at rfl ⟨rfl, hy_X1_at⟩ ⟨by decide, by decide⟩ rfl (Nat.le_of_ble_eq_true rfl) ⟨by decide, by decide⟩ dX6_aimedSum_70 rfl ?_
          refine kb_imul X dX6_aimedSum_73 ?_
          refine kb_iadd X dX6_aimedSum_74 ?_
          refine kb_nmi (fun x3_7 ex3_7 => ?_)
          refine kb_istore_n (lv' := [(3, kb_i x3_7), (5, kb_i x5_5), (0, .ref (ad 0)), (1, kb_i lk), (2, kb_i x2_1), (4, kb_i a)]) X dX6_aimedSum_75 (by decide) rfl ?_
          refine kb_iinc (lv' := [(4, kb_i (a + 1)), (3, kb_i x3_7), (5, kb_i x5_5), (0, .ref (ad 0)), (1, kb_i lk), (2, kb_i x2_1)]) X 5 rfl dX6_aimedSum_76 rfl (by decide) rfl ?_
          refine kb_goto (tgt := 21) X dX6_aimedSum_79 (by decide) ?_
          refine kb_sub [3, 4, 5, 1, 0] (lv' := [(0, .ref (ad 0)), (1, kb_i lk), (2, kb_i x2_1), (3, kb_i x3_7), (4, kb_i (a + 1))]) rfl ?_
          exact ih2 x3_7 (a + 1) (by omega) (by first | omega | assumption | exact ⟨by omega, by omega⟩) (by rw [sp_sumS _ hI.1, ← hJ]; subst_vars; first | rfl | (simp_all; done) | (rw [show sp_aw M a = 0 by omega]; omega))
  refine kb_sub [3, 4, 2, 1, 0] (lv' := [(0, .ref (ad 0)), (1, kb_i lk), (2, kb_i x2_1), (3, kb_i 0), (4, kb_i 0)]) rfl ?_
  exact L21 _ (0 : Int) (0 : Int) (Nat.lt_succ_self _) (by first | omega | assumption | exact ⟨by omega, by omega⟩) (rfl)
-- X6_sum
theorem hf_X6_sum_10 : Cond.fieldLink yX6_sum.cls 10 RX6 "elements" "LSoundBoard$Probe;" ∈ wsX6_sum := by decide +kernel
theorem hf_X6_sum_26 : Cond.fieldLink yX6_sum.cls 26 RX6 "heard" "LSoundBoard$Looks;" ∈ wsX6_sum := by decide +kernel
theorem hi_X6_sum_X6 : ∀ w ∈ wsX60, w ∈ wsX6_sum := by decide +kernel
theorem hy_X6_sum : yX6_sum.cls ≠ "java/lang/invoke/MethodHandle" ∧ yX6_sum.cls ≠ "java/lang/invoke/VarHandle" ∧ (parseMethodDescriptor yX6_sum.desc).map (fun d => d.parameters.length) = some 3 := by decide +kernel
set_option maxHeartbeats 4000000 in
set_option maxRecDepth 100000 in
theorem c_X6_sum (l : Launch) (D : va_G) (ad : Nat → Nat) (cy : Nat → ClassId) (M : kb_M) (lk : Int) (x : Int) (z : Int) (hlk : -2147483648 ≤ lk ∧ lk < 2147483648) (hx : -2147483648 ≤ x ∧ x < 2147483648) (hz : -2147483648 ≤ z ∧ z < 2147483648) (hIP : sp_IP M) (hIL : sp_IL M) : kb_Ci l D ad cy yX6_sum wsX6_sum 5 115 [.ref (ad 0), kb_i lk, kb_i x, kb_i z] M (sp_sumR M lk x z) (sp_sumM M lk x z) := by
  refine kb_mkCi (cc := cX6_sum) (maxL := 4) (lv := [(0, .ref (ad 0)), (1, kb_i lk), (2, kb_i x), (3, kb_i z)]) (plainFor_of_name (by decide)) rfl (Nat.le_of_ble_eq_true rfl) rfl ?_
  intro p e s m args below meth c X hr hlocks hM
  obtain ⟨hxs, hn, ha, hP, hT, hf⟩ := id hIP
  obtain ⟨ho, hs, hsb⟩ := id hIL
  refine kb_aload_n X 0 rfl dX6_sum_0 ?_
  refine kg_X6_heard X hi_X6_sum_X6 hf_X6_sum_26 dX6_sum_1 ?_
  refine kb_iload_n X 1 rfl dX6_sum_4 ?_
  refine kb_cVi X (rest := []) [kb_i lk] 3 (fl := [some 16, some 17, none, none, none]) (C := RX1) rfl rfl (c_X1_has l D ad cy M lk (by first | omega | assumption | exact ⟨by omega, by omega⟩)) gX6_sum_X1_has rfl ⟨rfl, hy_X1_has⟩ ⟨by decide, by decide⟩ rfl (Nat.le_of_ble_eq_true rfl) ⟨by decide, by decide⟩ dX6_sum_5 rfl ?_
  refine kb_ifb_eq (tgt := 19) X dX6_sum_8 (by decide) (fun h1 => ?_) (fun h1 => ?_)
  ·
    refine kb_ldc (v := -1000000000) X (-1000000000) (by decide +kernel) (by decide) dX6_sum_19 ?_
    exact kb_iret X hr hlocks dX6_sum_21 (by unfold sp_sumR; repeat (first | rw [if_pos (by omega)] | rw [if_neg (by omega)])) (by unfold sp_sumM; repeat (first | rw [if_pos (by omega)] | rw [if_neg (by omega)]))
  ·
    refine kb_iload_n X 2 rfl dX6_sum_11 ?_
    refine kb_iload_n X 3 rfl dX6_sum_12 ?_
    refine kb_cSi X (rest := []) [kb_i x, kb_i z] (c_X6_isPlace l D ad cy M x z (by first | omega | assumption | exact ⟨by omega, by omega⟩) (by first | omega | assumption | exact ⟨by omega, by omega⟩)) gX6_sum_X6_isPlace rfl hy_X6_isPlace ⟨by decide, by decide⟩ rfl (Nat.le_of_ble_eq_true rfl) ⟨by decide, by decide⟩ dX6_sum_13 rfl ?_
    refine kb_ifb_ne (tgt := 22) X dX6_sum_16 (by decide) (fun h2 => ?_) (fun h2 => ?_)
    ·
      refine kb_aload_n X 0 rfl dX6_sum_22 ?_
      refine kg_X6_elements X hi_X6_sum_X6 hf_X6_sum_10 dX6_sum_23 ?_
      refine kb_iload_n X 2 rfl dX6_sum_26 ?_
      refine kb_iload_n X 3 rfl dX6_sum_27 ?_
      refine kb_cVv X (rest := []) [kb_i x, kb_i z] 1 (fl := [some 7, some 8, some 9, some 10, none, none, none, none, none, none, none]) (C := RX3) rfl rfl (c_X3_aim l D ad cy M x z (by first | omega | assumption | exact ⟨by omega, by omega⟩) (by first | omega | assumption | exact ⟨by omega, by omega⟩) (by first | omega | assumption | exact ⟨by omega, by omega⟩) (by first | omega | assumption | exact ⟨by omega, by omega⟩) (by first | omega | assumption | exact ⟨by omega, by omega⟩) (by first | omega | assumption | exact ⟨by omega, by omega⟩) (by first | omega | assumption | exact ⟨by omega, by omega⟩)) gX6_sum_X3_aim rfl ⟨rfl, hy_X3_aim⟩ ⟨by decide, by decide⟩ rfl (Nat.le_of_ble_eq_true rfl) ⟨by decide, by decide⟩ dX6_sum_28 rfl ?_
      refine kb_aload_n X 0 rfl dX6_sum_31 ?_
      refine kb_iload_n X 1 rfl dX6_sum_32 ?_
      refine kb_cVi X (rest := []) [kb_i lk] 0 (fl := [some 1, some 2, some 3, some 4, some 5, some 6]) (C := RX6) rfl rfl (c_X6_aimedSum l D ad cy (sp_aim M x z) lk (show 0 ≤ M 1 5 ∧ M 1 5 ≤ 16 from (by first | omega | assumption | exact ⟨by omega, by omega⟩)) (show 0 ≤ M 3 2 ∧ M 3 2 < 6 from (by first | omega | assumption | exact ⟨by omega, by omega⟩)) (by first | omega | assumption | exact ⟨by omega, by omega⟩) (fun i => by have := sp_ad_b (i := i) hIP (x := x) (z := z) (by omega) (by omega); omega) (fun i => sp_aw_b hIP (by omega) (by omega))) gX6_sum_X6_aimedSum rfl ⟨rfl, hy_X6_aimedSum⟩ ⟨by decide, by decide⟩ rfl (Nat.le_of_ble_eq_true rfl) ⟨by decide, by decide⟩ dX6_sum_33 rfl ?_
      exact kb_iret X hr hlocks dX6_sum_36 (by unfold sp_sumR; repeat (first | rw [if_pos (by omega)] | rw [if_neg (by omega)])) (by unfold sp_sumM; repeat (first | rw [if_pos (by omega)] | rw [if_neg (by omega)]))
    ·
      refine kb_ldc (v := -1000000000) X (-1000000000) (by decide +kernel) (by decide) dX6_sum_19 ?_
      exact kb_iret X hr hlocks dX6_sum_21 (by unfold sp_sumR; repeat (first | rw [if_pos (by omega)] | rw [if_neg (by omega)])) (by unfold sp_sumM; repeat (first | rw [if_pos (by omega)] | rw [if_neg (by omega)]))
-- X6_areLooks
theorem hf_X6_areLooks_26 : Cond.fieldLink yX6_areLooks.cls 26 RX6 "heard" "LSoundBoard$Looks;" ∈ wsX6_areLooks := by decide +kernel
theorem hf_X6_areLooks_67 : Cond.fieldLink yX6_areLooks.cls 67 RX1 "size" "I" ∈ wsX6_areLooks := by decide +kernel
theorem hi_X6_areLooks_X1 : ∀ w ∈ wsX10, w ∈ wsX6_areLooks := by decide +kernel
theorem hi_X6_areLooks_X6 : ∀ w ∈ wsX60, w ∈ wsX6_areLooks := by decide +kernel
theorem hy_X6_areLooks : yX6_areLooks.cls ≠ "java/lang/invoke/MethodHandle" ∧ yX6_areLooks.cls ≠ "java/lang/invoke/VarHandle" ∧ (parseMethodDescriptor yX6_areLooks.desc).map (fun d => d.parameters.length) = some 1 := by decide +kernel
set_option maxHeartbeats 4000000 in
set_option maxRecDepth 100000 in
theorem c_X6_areLooks (l : Launch) (D : va_G) (ad : Nat → Nat) (cy : Nat → ClassId) (M : kb_M) (n : Int) (hn : -2147483648 ≤ n ∧ n < 2147483648) (hs : 0 ≤ M 3 3 ∧ M 3 3 ≤ 6) : kb_Ci l D ad cy yX6_areLooks wsX6_areLooks 0 0 [.ref (ad 0), kb_i n] M (kb_b (0 < n ∧ n / 2 ^ (M 3 3).toNat = 0)) (M) := by
  refine kb_mkCi (cc := cX6_areLooks) (maxL := 2) (lv := [(0, .ref (ad 0)), (1, kb_i n)]) (plainFor_of_name (by decide)) rfl (Nat.le_of_ble_eq_true rfl) rfl ?_
  intro p e s m args below meth c X hr hlocks hM
  refine kb_iload_n X 1 rfl dX6_areLooks_0 ?_
  refine kb_if_le (tgt := 20) X ⟨by omega, by omega⟩ dX6_areLooks_1 (by decide) (fun h1 => ?_) (fun h1 => ?_)
  ·
    refine kb_iconst X dX6_areLooks_20 ?_
    exact kb_zret X hr hlocks (by first | exact Or.inl rfl | exact Or.inr rfl) dX6_areLooks_21 (by first | rfl | assumption | omega | exact (kb_b1 (by omega)).symm | exact (kb_b0 (by omega)).symm) (by first | rfl | (exfalso; omega))
  ·
    refine kb_iload_n X 1 rfl dX6_areLooks_4 ?_
    refine kb_aload_n X 0 rfl dX6_areLooks_5 ?_
    refine kg_X6_heard X hi_X6_areLooks_X6 hf_X6_areLooks_26 dX6_areLooks_6 ?_
    refine kg_X1_size X hi_X6_areLooks_X1 hf_X6_areLooks_67 dX6_areLooks_9 ?_
    have g2 : -2147483648 ≤ M 3 3 ∧ M 3 3 < 2147483648 := hM 3 3
    refine kb_ishr X ⟨by omega, by omega⟩ (by omega) (by omega) dX6_areLooks_12 ?_
    have hsr := sp_shrb (a := n) (n := (M 3 3).toNat) hn
    refine kb_if_ne (tgt := 20) X ⟨by omega, by omega⟩ dX6_areLooks_13 (by decide) (fun h3 => ?_) (fun h3 => ?_)
    ·
      refine kb_iconst X dX6_areLooks_20 ?_
      exact kb_zret X hr hlocks (by first | exact Or.inl rfl | exact Or.inr rfl) dX6_areLooks_21 (by first | rfl | assumption | omega | exact (kb_b1 (by omega)).symm | exact (kb_b0 (by omega)).symm) (by first | rfl | (exfalso; omega))
    ·
      refine kb_iconst X dX6_areLooks_16 ?_
      refine kb_goto (tgt := 21) X dX6_areLooks_17 (by decide) ?_
      exact kb_zret X hr hlocks (by first | exact Or.inl rfl | exact Or.inr rfl) dX6_areLooks_21 (by first | rfl | assumption | omega | exact (kb_b1 (by omega)).symm | exact (kb_b0 (by omega)).symm) (by first | rfl | (exfalso; omega))
-- X6_joinedMean
theorem hf_X6_joinedMean_10 : Cond.fieldLink yX6_joinedMean.cls 10 RX6 "elements" "LSoundBoard$Probe;" ∈ wsX6_joinedMean := by decide +kernel
theorem hf_X6_joinedMean_26 : Cond.fieldLink yX6_joinedMean.cls 26 RX6 "heard" "LSoundBoard$Looks;" ∈ wsX6_joinedMean := by decide +kernel
theorem hf_X6_joinedMean_67 : Cond.fieldLink yX6_joinedMean.cls 67 RX1 "size" "I" ∈ wsX6_joinedMean := by decide +kernel
theorem hf_X6_joinedMean_169 : Cond.fieldLink yX6_joinedMean.cls 169 RX3 "aimedTotal" "I" ∈ wsX6_joinedMean := by decide +kernel
theorem hi_X6_joinedMean_X1 : ∀ w ∈ wsX10, w ∈ wsX6_joinedMean := by decide +kernel
theorem hi_X6_joinedMean_X3 : ∀ w ∈ wsX30, w ∈ wsX6_joinedMean := by decide +kernel
theorem hi_X6_joinedMean_X6 : ∀ w ∈ wsX60, w ∈ wsX6_joinedMean := by decide +kernel
theorem hy_X6_joinedMean : yX6_joinedMean.cls ≠ "java/lang/invoke/MethodHandle" ∧ yX6_joinedMean.cls ≠ "java/lang/invoke/VarHandle" ∧ (parseMethodDescriptor yX6_joinedMean.desc).map (fun d => d.parameters.length) = some 3 := by decide +kernel
set_option maxHeartbeats 4000000 in
set_option maxRecDepth 100000 in
theorem c_X6_joinedMean (l : Launch) (D : va_G) (ad : Nat → Nat) (cy : Nat → ClassId) (M : kb_M) (n : Int) (x : Int) (z : Int) (hn : -2147483648 ≤ n ∧ n < 2147483648) (hx : -2147483648 ≤ x ∧ x < 2147483648) (hz : -2147483648 ≤ z ∧ z < 2147483648) (hIP : sp_IP M) (hIL : sp_IL M) : kb_Ci l D ad cy yX6_joinedMean wsX6_joinedMean 5 115 [.ref (ad 0), kb_i n, kb_i x, kb_i z] M (sp_jm M n x z) (sp_jmM M x z) := by
  refine kb_mkCi (cc := cX6_joinedMean) (maxL := 7) (lv := [(0, .ref (ad 0)), (1, kb_i n), (2, kb_i x), (3, kb_i z)]) (plainFor_of_name (by decide)) rfl (Nat.le_of_ble_eq_true rfl) rfl ?_
  intro p e s m args below meth c X hr hlocks hM
  obtain ⟨hxs, hn, ha, hP, hT, hf⟩ := id hIP
  obtain ⟨ho, hs, hsb⟩ := id hIL
  refine kb_iload_n X 2 rfl dX6_joinedMean_0 ?_
  refine kb_iload_n X 3 rfl dX6_joinedMean_1 ?_
  refine kb_cSi X (rest := []) [kb_i x, kb_i z] (c_X6_isPlace l D ad cy M x z (by first | omega | assumption | exact ⟨by omega, by omega⟩) (by first | omega | assumption | exact ⟨by omega, by omega⟩)) gX6_joinedMean_X6_isPlace rfl hy_X6_isPlace ⟨by decide, by decide⟩ rfl (Nat.le_of_ble_eq_true rfl) ⟨by decide, by decide⟩ dX6_joinedMean_2 rfl ?_
  refine kb_ifb_ne (tgt := 10) X dX6_joinedMean_5 (by decide) (fun h1 => ?_) (fun h1 => ?_)
  ·
    refine kb_aload_n X 0 rfl dX6_joinedMean_10 ?_
    refine kg_X6_elements X hi_X6_joinedMean_X6 hf_X6_joinedMean_10 dX6_joinedMean_11 ?_
    refine kb_iload_n X 2 rfl dX6_joinedMean_14 ?_
    refine kb_iload_n X 3 rfl dX6_joinedMean_15 ?_
    refine kb_cVv X (rest := []) [kb_i x, kb_i z] 1 (fl := [some 7, some 8, some 9, some 10, none, none, none, none, none, none, none]) (C := RX3) rfl rfl (c_X3_aim l D ad cy M x z (by first | omega | assumption | exact ⟨by omega, by omega⟩) (by first | omega | assumption | exact ⟨by omega, by omega⟩) (by first | omega | assumption | exact ⟨by omega, by omega⟩) (by first | omega | assumption | exact ⟨by omega, by omega⟩) (by first | omega | assumption | exact ⟨by omega, by omega⟩) (by first | omega | assumption | exact ⟨by omega, by omega⟩) (by first | omega | assumption | exact ⟨by omega, by omega⟩)) gX6_joinedMean_X3_aim rfl ⟨rfl, hy_X3_aim⟩ ⟨by decide, by decide⟩ rfl (Nat.le_of_ble_eq_true rfl) ⟨by decide, by decide⟩ dX6_joinedMean_16 rfl ?_
    refine kb_iconst X dX6_joinedMean_19 ?_
    refine kb_istore (lv' := [(4, kb_i 0), (0, .ref (ad 0)), (1, kb_i n), (2, kb_i x), (3, kb_i z)]) X dX6_joinedMean_20 (by decide) rfl ?_
    refine kb_iconst X dX6_joinedMean_22 ?_
    refine kb_istore (lv' := [(5, kb_i 0), (4, kb_i 0), (0, .ref (ad 0)), (1, kb_i n), (2, kb_i x), (3, kb_i z)]) X dX6_joinedMean_23 (by decide) rfl ?_
    refine kb_iconst X dX6_joinedMean_25 ?_
    refine kb_istore (lv' := [(6, kb_i 0), (5, kb_i 0), (4, kb_i 0), (0, .ref (ad 0)), (1, kb_i n), (2, kb_i x), (3, kb_i z)]) X dX6_joinedMean_26 (by decide) rfl ?_
    have L28 : ∀ nn_ : Nat, ∀ (u w k : Int), (6 - k).toNat < nn_ → (0 ≤ k ∧ k ≤ M 3 3) → (u = sp_jt (sp_aim M x z) n k.toNat) → (w = sp_jw (sp_aim M x z) n k.toNat) → kb_B p l e ({ frames := 5, cells := 0, slots := 0, locals := 115 } : Room) s m args below meth c D ad cy (kb_A ad s.heap.size) 7 0 0 (MQ below (va_Qi (fun (vq_ : Int32) (_ : Unit) => vq_ = kb_J (sp_jm M n x z)) (fun _ t => kb_en2 D ad cy (sp_jmM M x z) t) (kb_A ad s.heap.size)) args s 0 0 (kb_A ad s.heap.size)) 28 [(0, .ref (ad 0)), (1, kb_i n), (2, kb_i x), (3, kb_i z), (4, kb_i u), (5, kb_i w), (6, kb_i k)] [] (sp_aim M x z) := by
      intro nn_
      induction nn_ with
      | zero => intro u w k hn; exact absurd hn (Nat.not_lt_zero _)
      | succ nn_ ih2 =>
        intro u w k hn hI hT2 hW
        refine kb_iload X 6 rfl dX6_joinedMean_28 ?_
        refine kb_aload_n X 0 rfl dX6_joinedMean_30 ?_
        refine kg_X6_heard X hi_X6_joinedMean_X6 hf_X6_joinedMean_26 dX6_joinedMean_31 ?_
        refine kg_X1_size X hi_X6_joinedMean_X1 hf_X6_joinedMean_67 dX6_joinedMean_34 ?_
        refine kb_eqi (b := M 3 3) (by first | rfl | simp [kb_wr]) ?_
        have g3 : -2147483648 ≤ M 3 3 ∧ M 3 3 < 2147483648 := hM 3 3
        refine kb_icmp_ge (tgt := 78) X ⟨by omega, by omega⟩ ⟨by omega, by omega⟩ dX6_joinedMean_37 (by decide) (fun h4 => ?_) (fun h4 => ?_)
        ·
          have jb := sp_jw_b hIP (x := x) (z := z) (by omega) (by omega) n k.toNat
          have jt := sp_jt_w hIP hsb (x := x) (z := z) (by omega) (by omega) n k.toNat
          rw [← hW] at jb jt
          rw [← hT2] at jt
          refine kb_iload X 5 rfl dX6_joinedMean_78 ?_
          refine kb_if_ne (tgt := 87) X ⟨by omega, by omega⟩ dX6_joinedMean_80 (by decide) (fun h5 => ?_) (fun h5 => ?_)
          ·
            refine kb_iload X 4 rfl dX6_joinedMean_87 ?_
            refine kb_iload X 5 rfl dX6_joinedMean_89 ?_
            refine kb_idiv X ⟨by omega, by omega⟩ ⟨by omega, by omega⟩ (by omega) dX6_joinedMean_91 ?_
            exact kb_iret X hr hlocks dX6_joinedMean_92 (by (have e : k = M 3 3 := by omega); unfold sp_jm; rw [if_pos (by omega), ← e, ← hW, ← hT2]; first | rw [if_pos (by assumption)] | rw [if_neg (by assumption)]) (by unfold sp_jmM; rw [if_pos (by omega)])
          ·
            refine kb_iconst X dX6_joinedMean_83 ?_
            refine kb_goto (tgt := 92) X dX6_joinedMean_84 (by decide) ?_
            exact kb_iret X hr hlocks dX6_joinedMean_92 (by (have e : k = M 3 3 := by omega); unfold sp_jm; rw [if_pos (by omega), ← e, ← hW, ← hT2]; first | rw [if_pos (by assumption)] | rw [if_neg (by assumption)]) (by unfold sp_jmM; rw [if_pos (by omega)])
        ·
          have h4b := sp_aim4_b hIP (x := x) (z := z) (by omega) (by omega)
          refine kb_iload_n X 1 rfl dX6_joinedMean_40 ?_
          refine kb_iload X 6 rfl dX6_joinedMean_41 ?_
          refine kb_ishr X ⟨by omega, by omega⟩ (by omega) (by omega) dX6_joinedMean_43 ?_
          refine kb_iconst X dX6_joinedMean_44 ?_
          refine kb_iand1 X dX6_joinedMean_45 ?_
          refine kb_if_eq (tgt := 72) X ⟨by omega, by omega⟩ dX6_joinedMean_46 (by decide) (fun h6 => ?_) (fun h6 => ?_)
          ·
            refine kb_iinc (lv' := [(6, kb_i (k + 1)), (0, .ref (ad 0)), (1, kb_i n), (2, kb_i x), (3, kb_i z), (4, kb_i u), (5, kb_i w)]) X 6 rfl dX6_joinedMean_72 rfl (by decide) rfl ?_
            refine kb_goto (tgt := 28) X dX6_joinedMean_75 (by decide) ?_
            refine kb_sub [1, 2, 3, 4, 5, 6, 0] (lv' := [(0, .ref (ad 0)), (1, kb_i n), (2, kb_i x), (3, kb_i z), (4, kb_i u), (5, kb_i w), (6, kb_i (k + 1))]) rfl ?_
            exact ih2 u w (k + 1) (by omega) (by first | omega | assumption | exact ⟨by omega, by omega⟩) (by unfold sp_jt; rw [sp_sumS _ hI.1]; subst_vars; first | (rw [if_neg (by assumption)]; rfl) | (rw [if_pos (by assumption)]; exact (Int.add_zero _).symm)) (by unfold sp_jw; rw [sp_sumS _ hI.1]; subst_vars; first | (rw [if_neg (by assumption)]; rfl) | (rw [if_pos (by assumption)]; exact (Int.add_zero _).symm))
          ·
            refine kb_iload X 4 rfl dX6_joinedMean_49 ?_
            refine kb_aload_n X 0 rfl dX6_joinedMean_51 ?_
            refine kb_iload X 6 rfl dX6_joinedMean_52 ?_
            refine kb_cVi X (rest := [kb_i u]) [kb_i k] 0 (fl := [some 1, some 2, some 3, some 4, some 5, some 6]) (C := RX6) rfl rfl (c_X6_aimedSum l D ad cy (sp_aim M x z) k (show 0 ≤ M 1 5 ∧ M 1 5 ≤ 16 from (by first | omega | assumption | exact ⟨by omega, by omega⟩)) (show 0 ≤ M 3 2 ∧ M 3 2 < 6 from (by first | omega | assumption | exact ⟨by omega, by omega⟩)) (by first | omega | assumption | exact ⟨by omega, by omega⟩) (fun i => by have := sp_ad_b (i := i) hIP (x := x) (z := z) (by omega) (by omega); omega) (fun i => sp_aw_b hIP (by omega) (by omega))) gX6_joinedMean_X6_aimedSum rfl ⟨rfl, hy_X6_aimedSum⟩ ⟨by decide, by decide⟩ rfl (Nat.le_of_ble_eq_true rfl) ⟨by decide, by decide⟩ dX6_joinedMean_54 rfl ?_
            refine kb_iadd X dX6_joinedMean_57 ?_
            refine kb_nmi (fun x4_7 ex4_7 => ?_)
            refine kb_istore (lv' := [(4, kb_i x4_7), (0, .ref (ad 0)), (1, kb_i n), (2, kb_i x), (3, kb_i z), (5, kb_i w), (6, kb_i k)]) X dX6_joinedMean_58 (by decide) rfl ?_
            refine kb_iload X 5 rfl dX6_joinedMean_60 ?_
            refine kb_aload_n X 1 rfl dX6_joinedMean_62 ?_
            refine kg_X6_elements X hi_X6_joinedMean_X6 hf_X6_joinedMean_10 dX6_joinedMean_63 ?_
            refine kg_X3_aimedTotal X hi_X6_joinedMean_X3 hf_X6_joinedMean_169 dX6_joinedMean_66 ?_
            refine kb_iadd X dX6_joinedMean_69 ?_
            refine kb_nmi (fun x5_8 ex5_8 => ?_)
            refine kb_istore (lv' := [(5, kb_i x5_8), (4, kb_i x4_7), (0, .ref (ad 0)), (1, kb_i n), (2, kb_i x), (3, kb_i z), (6, kb_i k)]) X dX6_joinedMean_70 (by decide) rfl ?_
            refine kb_iinc (lv' := [(6, kb_i (k + 1)), (5, kb_i x5_8), (4, kb_i x4_7), (0, .ref (ad 0)), (1, kb_i n), (2, kb_i x), (3, kb_i z)]) X 6 rfl dX6_joinedMean_72 rfl (by decide) rfl ?_
            refine kb_goto (tgt := 28) X dX6_joinedMean_75 (by decide) ?_
            refine kb_sub [3, 4, 5, 6, 2, 1, 0] (lv' := [(0, .ref (ad 0)), (1, kb_i n), (2, kb_i x), (3, kb_i z), (4, kb_i x4_7), (5, kb_i x5_8), (6, kb_i (k + 1))]) rfl ?_
            exact ih2 x4_7 x5_8 (k + 1) (by omega) (by first | omega | assumption | exact ⟨by omega, by omega⟩) (by unfold sp_jt; rw [sp_sumS _ hI.1]; subst_vars; first | (rw [if_neg (by assumption)]; rfl) | (rw [if_pos (by assumption)]; exact (Int.add_zero _).symm)) (by unfold sp_jw; rw [sp_sumS _ hI.1]; subst_vars; first | (rw [if_neg (by assumption)]; rfl) | (rw [if_pos (by assumption)]; exact (Int.add_zero _).symm))
    refine kb_sub [3, 4, 5, 6, 2, 1, 0] (lv' := [(0, .ref (ad 0)), (1, kb_i n), (2, kb_i x), (3, kb_i z), (4, kb_i 0), (5, kb_i 0), (6, kb_i 0)]) rfl ?_
    exact L28 _ (0 : Int) (0 : Int) (0 : Int) (Nat.lt_succ_self _) (by first | omega | assumption | exact ⟨by omega, by omega⟩) (rfl) (rfl)
  ·
    refine kb_iconst X dX6_joinedMean_8 ?_
    exact kb_iret X hr hlocks dX6_joinedMean_9 (by unfold sp_jm; rw [if_neg (by omega)]) (by unfold sp_jmM; rw [if_neg (by omega)])
-- X6_mean
theorem hy_X6_mean : yX6_mean.cls ≠ "java/lang/invoke/MethodHandle" ∧ yX6_mean.cls ≠ "java/lang/invoke/VarHandle" ∧ (parseMethodDescriptor yX6_mean.desc).map (fun d => d.parameters.length) = some 3 := by decide +kernel
set_option maxHeartbeats 4000000 in
set_option maxRecDepth 100000 in
theorem c_X6_mean (l : Launch) (D : va_G) (ad : Nat → Nat) (cy : Nat → ClassId) (M : kb_M) (n : Int) (x : Int) (z : Int) (hn : -2147483648 ≤ n ∧ n < 2147483648) (hx : -2147483648 ≤ x ∧ x < 2147483648) (hz : -2147483648 ≤ z ∧ z < 2147483648) (hIP : sp_IP M) (hIL : sp_IL M) : kb_Ci l D ad cy yX6_mean wsX6_mean 6 141 [.ref (ad 0), kb_i n, kb_i x, kb_i z] M (sp_meanR M n x z) (sp_meanM M n x z) := by
  refine kb_mkCi (cc := cX6_mean) (maxL := 4) (lv := [(0, .ref (ad 0)), (1, kb_i n), (2, kb_i x), (3, kb_i z)]) (plainFor_of_name (by decide)) rfl (Nat.le_of_ble_eq_true rfl) rfl ?_
  intro p e s m args below meth c X hr hlocks hM
  obtain ⟨hxs, hn, ha, hP, hT, hf⟩ := id hIP
  obtain ⟨ho, hs, hsb⟩ := id hIL
  refine kb_aload_n X 0 rfl dX6_mean_0 ?_
  refine kb_iload_n X 1 rfl dX6_mean_1 ?_
  refine kb_cVi X (rest := []) [kb_i n] 0 (fl := [some 1, some 2, some 3, some 4, some 5, some 6]) (C := RX6) rfl rfl (c_X6_areLooks l D ad cy M n (by first | omega | assumption | exact ⟨by omega, by omega⟩) (by first | omega | assumption | exact ⟨by omega, by omega⟩)) gX6_mean_X6_areLooks rfl ⟨rfl, hy_X6_areLooks⟩ ⟨by decide, by decide⟩ rfl (Nat.le_of_ble_eq_true rfl) ⟨by decide, by decide⟩ dX6_mean_2 rfl ?_
  refine kb_ifb_eq (tgt := 16) X dX6_mean_5 (by decide) (fun h1 => ?_) (fun h1 => ?_)
  ·
    refine kb_ldc (v := -1000000000) X (-1000000000) (by decide +kernel) (by decide) dX6_mean_16 ?_
    exact kb_iret X hr hlocks dX6_mean_18 (by unfold sp_meanR; repeat (first | rw [if_pos (by omega)] | rw [if_neg (by omega)])) (by unfold sp_meanM; repeat (first | rw [if_pos (by omega)] | rw [if_neg (by omega)]))
  ·
    refine kb_iload_n X 2 rfl dX6_mean_8 ?_
    refine kb_iload_n X 3 rfl dX6_mean_9 ?_
    refine kb_cSi X (rest := []) [kb_i x, kb_i z] (c_X6_isPlace l D ad cy M x z (by first | omega | assumption | exact ⟨by omega, by omega⟩) (by first | omega | assumption | exact ⟨by omega, by omega⟩)) gX6_mean_X6_isPlace rfl hy_X6_isPlace ⟨by decide, by decide⟩ rfl (Nat.le_of_ble_eq_true rfl) ⟨by decide, by decide⟩ dX6_mean_10 rfl ?_
    refine kb_ifb_ne (tgt := 19) X dX6_mean_13 (by decide) (fun h2 => ?_) (fun h2 => ?_)
    ·
      refine kb_aload_n X 0 rfl dX6_mean_19 ?_
      refine kb_iload_n X 1 rfl dX6_mean_20 ?_
      refine kb_iload_n X 2 rfl dX6_mean_21 ?_
      refine kb_iload_n X 3 rfl dX6_mean_22 ?_
      refine kb_cVi X (rest := []) [kb_i n, kb_i x, kb_i z] 0 (fl := [some 1, some 2, some 3, some 4, some 5, some 6]) (C := RX6) rfl rfl (c_X6_joinedMean l D ad cy M n x z (by first | omega | assumption | exact ⟨by omega, by omega⟩) (by first | omega | assumption | exact ⟨by omega, by omega⟩) (by first | omega | assumption | exact ⟨by omega, by omega⟩) (by first | omega | assumption | exact ⟨by omega, by omega⟩) (by first | omega | assumption | exact ⟨by omega, by omega⟩)) gX6_mean_X6_joinedMean rfl ⟨rfl, hy_X6_joinedMean⟩ ⟨by decide, by decide⟩ rfl (Nat.le_of_ble_eq_true rfl) ⟨by decide, by decide⟩ dX6_mean_23 rfl ?_
      exact kb_iret X hr hlocks dX6_mean_26 (by unfold sp_meanR; repeat (first | rw [if_pos (by omega)] | rw [if_neg (by omega)])) (by unfold sp_meanM; repeat (first | rw [if_pos (by omega)] | rw [if_neg (by omega)]))
    ·
      refine kb_ldc (v := -1000000000) X (-1000000000) (by decide +kernel) (by decide) dX6_mean_16 ?_
      exact kb_iret X hr hlocks dX6_mean_18 (by unfold sp_meanR; repeat (first | rw [if_pos (by omega)] | rw [if_neg (by omega)])) (by unfold sp_meanM; repeat (first | rw [if_pos (by omega)] | rw [if_neg (by omega)]))
