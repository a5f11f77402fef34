-- X6_picture
theorem hf_X6_picture_33 : Cond.fieldLink yX6_picture.cls 33 RX6 "ring" "LSoundBoard$Ring;" ∈ wsX6_picture := by decide +kernel
theorem hf_X6_picture_178 : Cond.fieldLink yX6_picture.cls 178 RX4 "size" "I" ∈ wsX6_picture := by decide +kernel
theorem hi_X6_picture_X4 : ∀ w ∈ wsX40, w ∈ wsX6_picture := by decide +kernel
theorem hi_X6_picture_X6 : ∀ w ∈ wsX60, w ∈ wsX6_picture := by decide +kernel
theorem hy_X6_picture : yX6_picture.cls ≠ "java/lang/invoke/MethodHandle" ∧ yX6_picture.cls ≠ "java/lang/invoke/VarHandle" ∧ (parseMethodDescriptor yX6_picture.desc).map (fun d => d.parameters.length) = some 7 := by decide +kernel
set_option maxHeartbeats 4000000 in
set_option maxRecDepth 100000 in
theorem c_X6_picture (l : Launch) (D : va_G) (ad : Nat → Nat) (cy : Nat → ClassId) (M : kb_M) (n : Int) (x : Int) (z : Int) (sx : Int) (sz : Int) (w : Int) (h0 : Int) (hn : -2147483648 ≤ n ∧ n < 2147483648) (hx : -2147483648 ≤ x ∧ x < 2147483648) (hz : -2147483648 ≤ z ∧ z < 2147483648) (hsx : -2147483648 ≤ sx ∧ sx < 2147483648) (hsz : -2147483648 ≤ sz ∧ sz < 2147483648) (hw : -2147483648 ≤ w ∧ w < 2147483648) (hh0 : -2147483648 ≤ h0 ∧ h0 < 2147483648) (hIP : sp_IP M) (hIL : sp_IL M) (hIR : sp_IR M) : kb_Ci l D ad cy yX6_picture wsX6_picture 6 141 [.ref (ad 0), kb_i n, kb_i x, kb_i z, kb_i sx, kb_i sz, kb_i w, kb_i h0] M (sp_picR M n x z sx sz w h0) (sp_picM M n x z sx sz w h0) := by
  refine kb_mkCi (cc := cX6_picture) (maxL := 11) (lv := [(0, .ref (ad 0)), (1, kb_i n), (2, kb_i x), (3, kb_i z), (4, kb_i sx), (5, kb_i sz), (6, kb_i w), (7, kb_i h0)]) (plainFor_of_name (by decide)) rfl (Nat.le_of_ble_eq_true rfl) rfl ?_
  intro p e s m args below meth c X hr hlocks hM
  obtain ⟨hxs, hn, ha, hP, hT, hf⟩ := id hIP
  obtain ⟨ho, hs, hsb⟩ := id hIL
  obtain ⟨hro, hrs, hwh⟩ := id hIR
  refine kb_aload_n X 0 rfl dX6_picture_0 ?_
  refine kb_iload_n X 1 rfl dX6_picture_1 ?_
  refine kb_cVi X (rest := []) [kb_i n] 0 (fl := [some 1, some 2, some 3, some 4, some 5, some 6]) (C := RX6) rfl rfl (c_X6_areLooks l D ad cy M n (by first | omega | assumption | exact ⟨by omega, by omega⟩) (by first | omega | assumption | exact ⟨by omega, by omega⟩)) gX6_picture_X6_areLooks rfl ⟨rfl, hy_X6_areLooks⟩ ⟨by decide, by decide⟩ rfl (Nat.le_of_ble_eq_true rfl) ⟨by decide, by decide⟩ dX6_picture_2 rfl ?_
  refine kb_ifb_eq (tgt := 40) X dX6_picture_5 (by decide) (fun h1 => ?_) (fun h1 => ?_)
  ·
    refine kb_bipush X (by decide) dX6_picture_40 ?_
    exact kb_iret X hr hlocks dX6_picture_42 (by unfold sp_picR; repeat (first | rw [if_pos (by omega)] | rw [if_neg (by omega)])) (by unfold sp_picM; rw [if_neg (by omega)])
  ·
    refine kb_iload_n X 2 rfl dX6_picture_8 ?_
    refine kb_iload_n X 3 rfl dX6_picture_9 ?_
    refine kb_cSi X (rest := []) [kb_i x, kb_i z] (c_X6_isPlace l D ad cy M x z (by first | omega | assumption | exact ⟨by omega, by omega⟩) (by first | omega | assumption | exact ⟨by omega, by omega⟩)) gX6_picture_X6_isPlace rfl hy_X6_isPlace ⟨by decide, by decide⟩ rfl (Nat.le_of_ble_eq_true rfl) ⟨by decide, by decide⟩ dX6_picture_10 rfl ?_
    refine kb_ifb_eq (tgt := 40) X dX6_picture_13 (by decide) (fun h2 => ?_) (fun h2 => ?_)
    ·
      refine kb_bipush X (by decide) dX6_picture_40 ?_
      exact kb_iret X hr hlocks dX6_picture_42 (by unfold sp_picR; repeat (first | rw [if_pos (by omega)] | rw [if_neg (by omega)])) (by unfold sp_picM; rw [if_neg (by omega)])
    ·
      refine kb_iload X 4 rfl dX6_picture_16 ?_
      refine kb_iconst X dX6_picture_18 ?_
      refine kb_sipush X (by decide) dX6_picture_19 ?_
      refine kb_cSi X (rest := []) [kb_i sx, kb_i 1, kb_i 500] (c_X6_within l D ad cy M sx 1 500 (by first | omega | assumption | exact ⟨by omega, by omega⟩) (by first | omega | assumption | exact ⟨by omega, by omega⟩) (by first | omega | assumption | exact ⟨by omega, by omega⟩)) gX6_picture_X6_within rfl hy_X6_within ⟨by decide, by decide⟩ rfl (Nat.le_of_ble_eq_true rfl) ⟨by decide, by decide⟩ dX6_picture_22 rfl ?_
      refine kb_ifb_eq (tgt := 40) X dX6_picture_25 (by decide) (fun h3 => ?_) (fun h3 => ?_)
      ·
        refine kb_bipush X (by decide) dX6_picture_40 ?_
        exact kb_iret X hr hlocks dX6_picture_42 (by unfold sp_picR; repeat (first | rw [if_pos (by omega)] | rw [if_neg (by omega)])) (by unfold sp_picM; rw [if_neg (by omega)])
      ·
        refine kb_iload X 5 rfl dX6_picture_28 ?_
        refine kb_iconst X dX6_picture_30 ?_
        refine kb_sipush X (by decide) dX6_picture_31 ?_
        refine kb_cSi X (rest := []) [kb_i sz, kb_i 1, kb_i 500] (c_X6_within l D ad cy M sz 1 500 (by first | omega | assumption | exact ⟨by omega, by omega⟩) (by first | omega | assumption | exact ⟨by omega, by omega⟩) (by first | omega | assumption | exact ⟨by omega, by omega⟩)) gX6_picture_X6_within rfl hy_X6_within ⟨by decide, by decide⟩ rfl (Nat.le_of_ble_eq_true rfl) ⟨by decide, by decide⟩ dX6_picture_34 rfl ?_
        refine kb_ifb_ne (tgt := 43) X dX6_picture_37 (by decide) (fun h4 => ?_) (fun h4 => ?_)
        ·
          refine kb_iload X 6 rfl dX6_picture_43 ?_
          refine kb_iconst X dX6_picture_45 ?_
          refine kb_bipush X (by decide) dX6_picture_46 ?_
          refine kb_cSi X (rest := []) [kb_i w, kb_i 1, kb_i 16] (c_X6_within l D ad cy M w 1 16 (by first | omega | assumption | exact ⟨by omega, by omega⟩) (by first | omega | assumption | exact ⟨by omega, by omega⟩) (by first | omega | assumption | exact ⟨by omega, by omega⟩)) gX6_picture_X6_within rfl hy_X6_within ⟨by decide, by decide⟩ rfl (Nat.le_of_ble_eq_true rfl) ⟨by decide, by decide⟩ dX6_picture_48 rfl ?_
          refine kb_ifb_eq (tgt := 65) X dX6_picture_51 (by decide) (fun h5 => ?_) (fun h5 => ?_)
          ·
            refine kb_bipush X (by decide) dX6_picture_65 ?_
            exact kb_iret X hr hlocks dX6_picture_67 (by unfold sp_picR; repeat (first | rw [if_pos (by omega)] | rw [if_neg (by omega)])) (by unfold sp_picM; rw [if_neg (by omega)])
          ·
            refine kb_iload X 7 rfl dX6_picture_54 ?_
            refine kb_iconst X dX6_picture_56 ?_
            refine kb_bipush X (by decide) dX6_picture_57 ?_
            refine kb_cSi X (rest := []) [kb_i h0, kb_i 1, kb_i 16] (c_X6_within l D ad cy M h0 1 16 (by first | omega | assumption | exact ⟨by omega, by omega⟩) (by first | omega | assumption | exact ⟨by omega, by omega⟩) (by first | omega | assumption | exact ⟨by omega, by omega⟩)) gX6_picture_X6_within rfl hy_X6_within ⟨by decide, by decide⟩ rfl (Nat.le_of_ble_eq_true rfl) ⟨by decide, by decide⟩ dX6_picture_59 rfl ?_
            refine kb_ifb_ne (tgt := 68) X dX6_picture_62 (by decide) (fun h6 => ?_) (fun h6 => ?_)
            ·
              refine kb_aload_n X 0 rfl dX6_picture_68 ?_
              refine kg_X6_ring X hi_X6_picture_X6 hf_X6_picture_33 dX6_picture_69 ?_
              refine kb_iload X 6 rfl dX6_picture_72 ?_
              refine kb_iload X 7 rfl dX6_picture_74 ?_
              refine kb_cVi X (rest := []) [kb_i w, kb_i h0] 4 (fl := [some 18, some 19, some 20, none, none]) (C := RX4) rfl rfl (c_X4_begin l D ad cy M w h0 (by first | omega | assumption | exact ⟨by omega, by omega⟩) (by first | omega | assumption | exact ⟨by omega, by omega⟩) (by first | omega | assumption | exact ⟨by omega, by omega⟩) (by first | omega | assumption | exact ⟨by omega, by omega⟩)) gX6_picture_X4_begin rfl ⟨rfl, hy_X4_begin⟩ ⟨by decide, by decide⟩ rfl (Nat.le_of_ble_eq_true rfl) ⟨by decide, by decide⟩ dX6_picture_76 rfl ?_
              refine kb_istore (lv' := [(8, kb_i (sp_rbs M)), (0, .ref (ad 0)), (1, kb_i n), (2, kb_i x), (3, kb_i z), (4, kb_i sx), (5, kb_i sz), (6, kb_i w), (7, kb_i h0)]) X dX6_picture_79 (by decide) rfl ?_
              have hrsb := sp_rbs_b hro
              refine kb_iconst X dX6_picture_81 ?_
              refine kb_istore (lv' := [(9, kb_i 0), (8, kb_i (sp_rbs M)), (0, .ref (ad 0)), (1, kb_i n), (2, kb_i x), (3, kb_i z), (4, kb_i sx), (5, kb_i sz), (6, kb_i w), (7, kb_i h0)]) X dX6_picture_82 (by decide) rfl ?_
              have L84 : ∀ nn_ : Nat, ∀ (l0 : Int), (16 - l0).toNat < nn_ → (0 ≤ l0 ∧ l0 ≤ h0) → kb_B p l e ({ frames := 6, cells := 0, slots := 0, locals := 141 } : Room) s m args below meth c D ad cy (kb_A ad s.heap.size) 11 0 0 (MQ below (va_Qi (fun (vq_ : Int32) (_ : Unit) => vq_ = kb_J (sp_picR M n x z sx sz w h0)) (fun _ t => kb_en2 D ad cy (sp_picM M n x z sx sz w h0) t) (kb_A ad s.heap.size)) args s 0 0 (kb_A ad s.heap.size)) 84 [(0, .ref (ad 0)), (1, kb_i n), (2, kb_i x), (3, kb_i z), (4, kb_i sx), (5, kb_i sz), (6, kb_i w), (7, kb_i h0), (8, kb_i (sp_rbs M)), (9, kb_i l0)] [] ((sp_pc (sp_rbn M w h0) n x z sx sz w (sp_rbs M) (w * l0).toNat)) := by
                intro nn_
                induction nn_ with
                | zero => intro l0 hn; exact absurd hn (Nat.not_lt_zero _)
                | succ nn_ ih7 =>
                  intro l0 hn hI
                  refine kb_iload X 9 rfl dX6_picture_84 ?_
                  refine kb_iload X 7 rfl dX6_picture_86 ?_
                  refine kb_icmp_ge (tgt := 149) X ⟨by omega, by omega⟩ ⟨by omega, by omega⟩ dX6_picture_88 (by decide) (fun h8 => ?_) (fun h8 => ?_)
                  ·
                    refine kb_aload_n X 0 rfl dX6_picture_149 ?_
                    refine kg_X6_ring X hi_X6_picture_X6 hf_X6_picture_33 dX6_picture_150 ?_
                    refine kg_X4_size X hi_X6_picture_X4 hf_X6_picture_178 dX6_picture_153 ?_
                    exact kb_iret X hr hlocks dX6_picture_156 (by rw [sp_pic_sz]; unfold sp_picR; rw [if_pos (by omega)]) (by (have e : l0 = h0 := by omega); unfold sp_picM; rw [if_pos (by omega), e])
                  ·
                    refine kb_iconst X dX6_picture_91 ?_
                    refine kb_istore (lv' := [(10, kb_i 0), (0, .ref (ad 0)), (1, kb_i n), (2, kb_i x), (3, kb_i z), (4, kb_i sx), (5, kb_i sz), (6, kb_i w), (7, kb_i h0), (8, kb_i (sp_rbs M)), (9, kb_i l0)]) X dX6_picture_92 (by decide) rfl ?_
                    have L94 : ∀ nn_ : Nat, ∀ (k : Int), (16 - k).toNat < nn_ → (0 ≤ k ∧ k ≤ w) → kb_B p l e ({ frames := 6, cells := 0, slots := 0, locals := 141 } : Room) s m args below meth c D ad cy (kb_A ad s.heap.size) 11 0 0 (MQ below (va_Qi (fun (vq_ : Int32) (_ : Unit) => vq_ = kb_J (sp_picR M n x z sx sz w h0)) (fun _ t => kb_en2 D ad cy (sp_picM M n x z sx sz w h0) t) (kb_A ad s.heap.size)) args s 0 0 (kb_A ad s.heap.size)) 94 [(0, .ref (ad 0)), (1, kb_i n), (2, kb_i x), (3, kb_i z), (4, kb_i sx), (5, kb_i sz), (6, kb_i w), (7, kb_i h0), (8, kb_i (sp_rbs M)), (9, kb_i l0), (10, kb_i k)] [] ((sp_pc (sp_rbn M w h0) n x z sx sz w (sp_rbs M) (w * l0 + k).toNat)) := by
                      intro nn_
                      induction nn_ with
                      | zero => intro k hn; exact absurd hn (Nat.not_lt_zero _)
                      | succ nn_ ih9 =>
                        intro k hn hK
                        refine kb_iload X 10 rfl dX6_picture_94 ?_
                        refine kb_iload X 6 rfl dX6_picture_96 ?_
                        refine kb_icmp_ge (tgt := 143) X ⟨by omega, by omega⟩ ⟨by omega, by omega⟩ dX6_picture_98 (by decide) (fun h10 => ?_) (fun h10 => ?_)
                        ·
                          refine kb_iinc (lv' := [(9, kb_i (l0 + 1)), (0, .ref (ad 0)), (1, kb_i n), (2, kb_i x), (3, kb_i z), (4, kb_i sx), (5, kb_i sz), (6, kb_i w), (7, kb_i h0), (8, kb_i (sp_rbs M)), (10, kb_i k)]) X 9 rfl dX6_picture_143 rfl (by decide) rfl ?_
                          refine kb_goto (tgt := 84) X dX6_picture_146 (by decide) ?_
                          refine kb_sub [1, 2, 3, 4, 5, 6, 7, 8, 9, 0] (lv' := [(0, .ref (ad 0)), (1, kb_i n), (2, kb_i x), (3, kb_i z), (4, kb_i sx), (5, kb_i sz), (6, kb_i w), (7, kb_i h0), (8, kb_i (sp_rbs M)), (9, kb_i (l0 + 1))]) rfl ?_
                          refine kb_eqM (M' := sp_pc (sp_rbn M w h0) n x z sx sz w (sp_rbs M) (w * (l0 + 1)).toNat) (by rw [show w * (l0 + 1) = w * l0 + k by rw [Int.mul_add]; omega]) ?_
                          exact ih7 (l0 + 1) (by omega) (by first | omega | assumption | exact ⟨by omega, by omega⟩)
                        ·
                          have m1 := sp_mulb (a := w) (b := l0) (A := 16) (B := 15) (by omega) (by omega) (by omega) (by omega)
                          have m2 := sp_mulb (a := k) (b := sx) (A := 15) (B := 500) (by omega) (by omega) (by omega) (by omega)
                          have m3 := sp_mulb (a := l0) (b := sz) (A := 15) (B := 500) (by omega) (by omega) (by omega) (by omega)
                          have hIP1 : sp_IP ((sp_pc (sp_rbn M w h0) n x z sx sz w (sp_rbs M) (w * l0 + k).toNat)) := sp_pc_IP _ hIP
                          have hIL1 : sp_IL ((sp_pc (sp_rbn M w h0) n x z sx sz w (sp_rbs M) (w * l0 + k).toNat)) := sp_pc_IL _ hIL
                          have jb := sp_jm_b hIP1 hIL1.2.2 n (x + k * sx) (z + l0 * sz)
                          refine kb_aload_n X 0 rfl dX6_picture_101 ?_
                          refine kg_X6_ring X hi_X6_picture_X6 hf_X6_picture_33 dX6_picture_102 ?_
                          refine kb_iload X 8 rfl dX6_picture_105 ?_
                          refine kb_iload X 10 rfl dX6_picture_107 ?_
                          refine kb_iload X 6 rfl dX6_picture_109 ?_
                          refine kb_iload X 9 rfl dX6_picture_111 ?_
                          refine kb_imul X dX6_picture_113 ?_
                          refine kb_iadd X dX6_picture_114 ?_
                          refine kb_aload_n X 0 rfl dX6_picture_115 ?_
                          refine kb_iload_n X 1 rfl dX6_picture_116 ?_
                          refine kb_iload_n X 2 rfl dX6_picture_117 ?_
                          refine kb_iload X 10 rfl dX6_picture_118 ?_
                          refine kb_iload X 4 rfl dX6_picture_120 ?_
                          refine kb_imul X dX6_picture_122 ?_
                          refine kb_iadd X dX6_picture_123 ?_
                          refine kb_iload_n X 3 rfl dX6_picture_124 ?_
                          refine kb_iload X 9 rfl dX6_picture_125 ?_
                          refine kb_iload X 5 rfl dX6_picture_127 ?_
                          refine kb_imul X dX6_picture_129 ?_
                          refine kb_iadd X dX6_picture_130 ?_
                          refine kb_cVi X (rest := [kb_i (k + (w * l0)), kb_i (sp_rbs M), .ref (ad 4)]) [kb_i n, kb_i (x + (k * sx)), kb_i (z + (l0 * sz))] 0 (fl := [some 1, some 2, some 3, some 4, some 5, some 6]) (C := RX6) rfl rfl (c_X6_joinedMean l D ad cy ((sp_pc (sp_rbn M w h0) n x z sx sz w (sp_rbs M) (w * l0 + k).toNat)) n (x + (k * sx)) (z + (l0 * sz)) (by first | omega | assumption | exact ⟨by omega, by omega⟩) (by first | omega | assumption | exact ⟨by omega, by omega⟩) (by first | omega | assumption | exact ⟨by omega, by omega⟩) (by exact hIP1) (by exact hIL1)) gX6_picture_X6_joinedMean rfl ⟨rfl, hy_X6_joinedMean⟩ ⟨by decide, by decide⟩ rfl (Nat.le_of_ble_eq_true rfl) ⟨by decide, by decide⟩ dX6_picture_131 rfl ?_
                          refine kb_cVv X (rest := []) [kb_i (sp_rbs M), kb_i (k + (w * l0)), kb_i (sp_jm ((sp_pc (sp_rbn M w h0) n x z sx sz w (sp_rbs M) (w * l0 + k).toNat)) n (x + (k * sx)) (z + (l0 * sz)))] 4 (fl := [some 18, some 19, some 20, none, none]) (C := RX4) rfl rfl (c_X4_set l D ad cy (sp_jmM ((sp_pc (sp_rbn M w h0) n x z sx sz w (sp_rbs M) (w * l0 + k).toNat)) (x + (k * sx)) (z + (l0 * sz))) (sp_rbs M) (k + (w * l0)) (sp_jm ((sp_pc (sp_rbn M w h0) n x z sx sz w (sp_rbs M) (w * l0 + k).toNat)) n (x + (k * sx)) (z + (l0 * sz))) (by first | omega | assumption | exact ⟨by omega, by omega⟩) (by first | omega | assumption | exact ⟨by omega, by omega⟩) (by first | omega | assumption | exact ⟨by omega, by omega⟩)) gX6_picture_X4_set rfl ⟨rfl, hy_X4_set⟩ ⟨by decide, by decide⟩ rfl (Nat.le_of_ble_eq_true rfl) ⟨by decide, by decide⟩ dX6_picture_134 rfl ?_
                          refine kb_iinc (lv' := [(10, kb_i (k + 1)), (0, .ref (ad 0)), (1, kb_i n), (2, kb_i x), (3, kb_i z), (4, kb_i sx), (5, kb_i sz), (6, kb_i w), (7, kb_i h0), (8, kb_i (sp_rbs M)), (9, kb_i l0)]) X 10 rfl dX6_picture_137 rfl (by decide) rfl ?_
                          refine kb_goto (tgt := 94) X dX6_picture_140 (by decide) ?_
                          refine kb_sub [1, 2, 3, 4, 5, 6, 7, 8, 9, 10, 0] (lv' := [(0, .ref (ad 0)), (1, kb_i n), (2, kb_i x), (3, kb_i z), (4, kb_i sx), (5, kb_i sz), (6, kb_i w), (7, kb_i h0), (8, kb_i (sp_rbs M)), (9, kb_i l0), (10, kb_i (k + 1))]) rfl ?_
                          refine kb_eqM (M' := sp_pc (sp_rbn M w h0) n x z sx sz w (sp_rbs M) (w * l0 + (k + 1)).toNat) ((sp_pcS _ _ _ _ _ _ _ _ _ _ (by omega) hI.1).symm) ?_
                          exact ih9 (k + 1) (by omega) (by first | omega | assumption | exact ⟨by omega, by omega⟩)
                    refine kb_sub [1, 2, 3, 4, 5, 6, 7, 8, 9, 10, 0] (lv' := [(0, .ref (ad 0)), (1, kb_i n), (2, kb_i x), (3, kb_i z), (4, kb_i sx), (5, kb_i sz), (6, kb_i w), (7, kb_i h0), (8, kb_i (sp_rbs M)), (9, kb_i l0), (10, kb_i 0)]) rfl ?_
                    refine kb_eqM (M' := sp_pc (sp_rbn M w h0) n x z sx sz w (sp_rbs M) (w * l0 + (0 : Int)).toNat) (by rw [Int.add_zero]) ?_
                    exact L94 _ (0 : Int) (Nat.lt_succ_self _) (by first | omega | assumption | exact ⟨by omega, by omega⟩)
              refine kb_sub [2, 3, 4, 5, 6, 7, 8, 9, 1, 0] (lv' := [(0, .ref (ad 0)), (1, kb_i n), (2, kb_i x), (3, kb_i z), (4, kb_i sx), (5, kb_i sz), (6, kb_i w), (7, kb_i h0), (8, kb_i (sp_rbs M)), (9, kb_i 0)]) rfl ?_
              refine kb_eqM (M' := sp_pc (sp_rbn M w h0) n x z sx sz w (sp_rbs M) (w * (0 : Int)).toNat) (by rw [Int.mul_zero]; rfl) ?_
              exact L84 _ (0 : Int) (Nat.lt_succ_self _) (by first | omega | assumption | exact ⟨by omega, by omega⟩)
            ·
              refine kb_bipush X (by decide) dX6_picture_65 ?_
              exact kb_iret X hr hlocks dX6_picture_67 (by unfold sp_picR; repeat (first | rw [if_pos (by omega)] | rw [if_neg (by omega)])) (by unfold sp_picM; rw [if_neg (by omega)])
        ·
          refine kb_bipush X (by decide) dX6_picture_40 ?_
          exact kb_iret X hr hlocks dX6_picture_42 (by unfold sp_picR; repeat (first | rw [if_pos (by omega)] | rw [if_neg (by omega)])) (by unfold sp_picM; rw [if_neg (by omega)])
-- X6_differ
theorem hf_X6_differ_33 : Cond.fieldLink yX6_differ.cls 33 RX6 "ring" "LSoundBoard$Ring;" ∈ wsX6_differ := by decide +kernel
theorem hf_X6_differ_178 : Cond.fieldLink yX6_differ.cls 178 RX4 "size" "I" ∈ wsX6_differ := by decide +kernel
theorem hi_X6_differ_X4 : ∀ w ∈ wsX40, w ∈ wsX6_differ := by decide +kernel
theorem hi_X6_differ_X6 : ∀ w ∈ wsX60, w ∈ wsX6_differ := by decide +kernel
theorem hy_X6_differ : yX6_differ.cls ≠ "java/lang/invoke/MethodHandle" ∧ yX6_differ.cls ≠ "java/lang/invoke/VarHandle" ∧ (parseMethodDescriptor yX6_differ.desc).map (fun d => d.parameters.length) = some 2 := by decide +kernel
set_option maxHeartbeats 4000000 in
set_option maxRecDepth 100000 in
theorem c_X6_differ (l : Launch) (D : va_G) (ad : Nat → Nat) (cy : Nat → ClassId) (M : kb_M) (p0 : Int) (q0 : Int) (hp0 : -2147483648 ≤ p0 ∧ p0 < 2147483648) (hq0 : -2147483648 ≤ q0 ∧ q0 < 2147483648) (hIR : sp_IR M) : kb_Ci l D ad cy yX6_differ wsX6_differ 3 66 [.ref (ad 0), kb_i p0, kb_i q0] M (sp_difR M p0 q0) (sp_difM M p0 q0) := by
  refine kb_mkCi (cc := cX6_differ) (maxL := 9) (lv := [(0, .ref (ad 0)), (1, kb_i p0), (2, kb_i q0)]) (plainFor_of_name (by decide)) rfl (Nat.le_of_ble_eq_true rfl) rfl ?_
  intro p e s m args below meth c X hr hlocks hM
  obtain ⟨hro, hrs, hwh⟩ := id hIR
  refine kb_aload_n X 0 rfl dX6_differ_0 ?_
  refine kg_X6_ring X hi_X6_differ_X6 hf_X6_differ_33 dX6_differ_1 ?_
  refine kb_iload_n X 1 rfl dX6_differ_4 ?_
  refine kb_cVi X (rest := []) [kb_i p0] 4 (fl := [some 18, some 19, some 20, none, none]) (C := RX4) rfl rfl (c_X4_has l D ad cy M p0 (by first | omega | assumption | exact ⟨by omega, by omega⟩)) gX6_differ_X4_has rfl ⟨rfl, hy_X4_has⟩ ⟨by decide, by decide⟩ rfl (Nat.le_of_ble_eq_true rfl) ⟨by decide, by decide⟩ dX6_differ_5 rfl ?_
  refine kb_ifb_eq (tgt := 22) X dX6_differ_8 (by decide) (fun h1 => ?_) (fun h1 => ?_)
  ·
    refine kb_bipush X (by decide) dX6_differ_22 ?_
    exact kb_iret X hr hlocks dX6_differ_24 (by unfold sp_difR sp_rs; repeat (first | rw [if_pos (by omega)] | rw [if_neg (by omega)])) (by unfold sp_difM sp_rs; rw [if_neg (by omega)])
  ·
    refine kb_aload_n X 0 rfl dX6_differ_11 ?_
    refine kg_X6_ring X hi_X6_differ_X6 hf_X6_differ_33 dX6_differ_12 ?_
    refine kb_iload_n X 2 rfl dX6_differ_15 ?_
    refine kb_cVi X (rest := []) [kb_i q0] 4 (fl := [some 18, some 19, some 20, none, none]) (C := RX4) rfl rfl (c_X4_has l D ad cy M q0 (by first | omega | assumption | exact ⟨by omega, by omega⟩)) gX6_differ_X4_has rfl ⟨rfl, hy_X4_has⟩ ⟨by decide, by decide⟩ rfl (Nat.le_of_ble_eq_true rfl) ⟨by decide, by decide⟩ dX6_differ_16 rfl ?_
    refine kb_ifb_ne (tgt := 25) X dX6_differ_19 (by decide) (fun h2 => ?_) (fun h2 => ?_)
    ·
      refine kb_aload_n X 0 rfl dX6_differ_25 ?_
      refine kg_X6_ring X hi_X6_differ_X6 hf_X6_differ_33 dX6_differ_26 ?_
      refine kb_iload_n X 1 rfl dX6_differ_29 ?_
      refine kb_cVi X (rest := []) [kb_i p0] 4 (fl := [some 18, some 19, some 20, none, none]) (C := RX4) rfl rfl (c_X4_slotOf l D ad cy M p0 (by first | omega | assumption | exact ⟨by omega, by omega⟩) (by first | omega | assumption | exact ⟨by omega, by omega⟩)) gX6_differ_X4_slotOf rfl ⟨rfl, hy_X4_slotOf⟩ ⟨by decide, by decide⟩ rfl (Nat.le_of_ble_eq_true rfl) ⟨by decide, by decide⟩ dX6_differ_30 rfl ?_
      refine kb_istore_n (lv' := [(3, kb_i ((M 4 3 + p0) % 4)), (0, .ref (ad 0)), (1, kb_i p0), (2, kb_i q0)]) X dX6_differ_33 (by decide) rfl ?_
      refine kb_aload_n X 1 rfl dX6_differ_34 ?_
      refine kg_X6_ring X hi_X6_differ_X6 hf_X6_differ_33 dX6_differ_35 ?_
      refine kb_iload_n X 3 rfl dX6_differ_38 ?_
      refine kb_cVi X (rest := []) [kb_i q0] 4 (fl := [some 18, some 19, some 20, none, none]) (C := RX4) rfl rfl (c_X4_slotOf l D ad cy M q0 (by first | omega | assumption | exact ⟨by omega, by omega⟩) (by first | omega | assumption | exact ⟨by omega, by omega⟩)) gX6_differ_X4_slotOf rfl ⟨rfl, hy_X4_slotOf⟩ ⟨by decide, by decide⟩ rfl (Nat.le_of_ble_eq_true rfl) ⟨by decide, by decide⟩ dX6_differ_39 rfl ?_
      refine kb_istore (lv' := [(4, kb_i ((M 4 3 + q0) % 4)), (3, kb_i ((M 4 3 + p0) % 4)), (0, .ref (ad 0)), (1, kb_i p0), (2, kb_i q0)]) X dX6_differ_42 (by decide) rfl ?_
      have wb := hwh ((M 4 3 + p0) % 4)
      have wb2 := hwh ((M 4 3 + q0) % 4)
      have mb := sp_mulb wb.1.1 wb.1.2 wb.2.1 wb.2.2
      have hrsb := sp_rbs_b hro
      refine kb_aload_n X 2 rfl dX6_differ_44 ?_
      refine kg_X6_ring X hi_X6_differ_X6 hf_X6_differ_33 dX6_differ_45 ?_
      refine kb_iload_n X 1 rfl dX6_differ_48 ?_
      refine kb_cVi X (rest := []) [kb_i ((M 4 3 + p0) % 4)] 4 (fl := [some 18, some 19, some 20, none, none]) (C := RX4) rfl rfl (c_X4_widthOf l D ad cy M ((M 4 3 + p0) % 4) (by first | omega | assumption | exact ⟨by omega, by omega⟩)) gX6_differ_X4_widthOf rfl ⟨rfl, hy_X4_widthOf⟩ ⟨by decide, by decide⟩ rfl (Nat.le_of_ble_eq_true rfl) ⟨by decide, by decide⟩ dX6_differ_49 rfl ?_
      refine kb_istore (lv' := [(5, kb_i (sp_rw M ((M 4 3 + p0) % 4))), (4, kb_i ((M 4 3 + q0) % 4)), (3, kb_i ((M 4 3 + p0) % 4)), (0, .ref (ad 0)), (1, kb_i p0), (2, kb_i q0)]) X dX6_differ_52 (by decide) rfl ?_
      refine kb_aload_n X 3 rfl dX6_differ_54 ?_
      refine kg_X6_ring X hi_X6_differ_X6 hf_X6_differ_33 dX6_differ_55 ?_
      refine kb_iload_n X 2 rfl dX6_differ_58 ?_
      refine kb_cVi X (rest := []) [kb_i ((M 4 3 + p0) % 4)] 4 (fl := [some 18, some 19, some 20, none, none]) (C := RX4) rfl rfl (c_X4_heightOf l D ad cy M ((M 4 3 + p0) % 4) (by first | omega | assumption | exact ⟨by omega, by omega⟩)) gX6_differ_X4_heightOf rfl ⟨rfl, hy_X4_heightOf⟩ ⟨by decide, by decide⟩ rfl (Nat.le_of_ble_eq_true rfl) ⟨by decide, by decide⟩ dX6_differ_59 rfl ?_
      refine kb_istore (lv' := [(6, kb_i (sp_rh M ((M 4 3 + p0) % 4))), (5, kb_i (sp_rw M ((M 4 3 + p0) % 4))), (4, kb_i ((M 4 3 + q0) % 4)), (3, kb_i ((M 4 3 + p0) % 4)), (0, .ref (ad 0)), (1, kb_i p0), (2, kb_i q0)]) X dX6_differ_62 (by decide) rfl ?_
      refine kb_iload X 1 rfl dX6_differ_64 ?_
      refine kb_aload_n X 4 rfl dX6_differ_66 ?_
      refine kg_X6_ring X hi_X6_differ_X6 hf_X6_differ_33 dX6_differ_67 ?_
      refine kb_iload X 2 rfl dX6_differ_70 ?_
      refine kb_cVi X (rest := [kb_i (sp_rw M ((M 4 3 + p0) % 4))]) [kb_i ((M 4 3 + q0) % 4)] 4 (fl := [some 18, some 19, some 20, none, none]) (C := RX4) rfl rfl (c_X4_widthOf l D ad cy M ((M 4 3 + q0) % 4) (by first | omega | assumption | exact ⟨by omega, by omega⟩)) gX6_differ_X4_widthOf rfl ⟨rfl, hy_X4_widthOf⟩ ⟨by decide, by decide⟩ rfl (Nat.le_of_ble_eq_true rfl) ⟨by decide, by decide⟩ dX6_differ_72 rfl ?_
      refine kb_icmp_ne (tgt := 92) X ⟨by omega, by omega⟩ ⟨by omega, by omega⟩ dX6_differ_75 (by decide) (fun h3 => ?_) (fun h3 => ?_)
      ·
        refine kb_bipush X (by decide) dX6_differ_92 ?_
        exact kb_iret X hr hlocks dX6_differ_94 (by unfold sp_difR sp_rs; repeat (first | rw [if_pos (by omega)] | rw [if_neg (by omega)])) (by unfold sp_difM sp_rs; rw [if_neg (by omega)])
      ·
        refine kb_iload X 0 rfl dX6_differ_78 ?_
        refine kb_aload_n X 4 rfl dX6_differ_80 ?_
        refine kg_X6_ring X hi_X6_differ_X6 hf_X6_differ_33 dX6_differ_81 ?_
        refine kb_iload X 2 rfl dX6_differ_84 ?_
        refine kb_cVi X (rest := [kb_i (sp_rh M ((M 4 3 + p0) % 4))]) [kb_i ((M 4 3 + q0) % 4)] 4 (fl := [some 18, some 19, some 20, none, none]) (C := RX4) rfl rfl (c_X4_heightOf l D ad cy M ((M 4 3 + q0) % 4) (by first | omega | assumption | exact ⟨by omega, by omega⟩)) gX6_differ_X4_heightOf rfl ⟨rfl, hy_X4_heightOf⟩ ⟨by decide, by decide⟩ rfl (Nat.le_of_ble_eq_true rfl) ⟨by decide, by decide⟩ dX6_differ_86 rfl ?_
        refine kb_icmp_eq (tgt := 95) X ⟨by omega, by omega⟩ ⟨by omega, by omega⟩ dX6_differ_89 (by decide) (fun h4 => ?_) (fun h4 => ?_)
        ·
          refine kb_aload_n X 4 rfl dX6_differ_95 ?_
          refine kg_X6_ring X hi_X6_differ_X6 hf_X6_differ_33 dX6_differ_96 ?_
          refine kb_iload X 1 rfl dX6_differ_99 ?_
          refine kb_iload X 0 rfl dX6_differ_101 ?_
          refine kb_cVi X (rest := []) [kb_i (sp_rw M ((M 4 3 + p0) % 4)), kb_i (sp_rh M ((M 4 3 + p0) % 4))] 4 (fl := [some 18, some 19, some 20, none, none]) (C := RX4) rfl rfl (c_X4_begin l D ad cy M (sp_rw M ((M 4 3 + p0) % 4)) (sp_rh M ((M 4 3 + p0) % 4)) (by first | omega | assumption | exact ⟨by omega, by omega⟩) (by first | omega | assumption | exact ⟨by omega, by omega⟩) (by first | omega | assumption | exact ⟨by omega, by omega⟩) (by first | omega | assumption | exact ⟨by omega, by omega⟩)) gX6_differ_X4_begin rfl ⟨rfl, hy_X4_begin⟩ ⟨by decide, by decide⟩ rfl (Nat.le_of_ble_eq_true rfl) ⟨by decide, by decide⟩ dX6_differ_103 rfl ?_
          refine kb_istore (lv' := [(7, kb_i (sp_rbs M)), (6, kb_i (sp_rh M ((M 4 3 + p0) % 4))), (5, kb_i (sp_rw M ((M 4 3 + p0) % 4))), (4, kb_i ((M 4 3 + q0) % 4)), (3, kb_i ((M 4 3 + p0) % 4)), (0, .ref (ad 0)), (1, kb_i p0), (2, kb_i q0)]) X dX6_differ_106 (by decide) rfl ?_
          refine kb_iconst X dX6_differ_108 ?_
          refine kb_istore (lv' := [(8, kb_i 0), (7, kb_i (sp_rbs M)), (6, kb_i (sp_rh M ((M 4 3 + p0) % 4))), (5, kb_i (sp_rw M ((M 4 3 + p0) % 4))), (4, kb_i ((M 4 3 + q0) % 4)), (3, kb_i ((M 4 3 + p0) % 4)), (0, .ref (ad 0)), (1, kb_i p0), (2, kb_i q0)]) X dX6_differ_109 (by decide) rfl ?_
          have L111 : ∀ nn_ : Nat, ∀ (k : Int), (256 - k).toNat < nn_ → (0 ≤ k ∧ k ≤ (sp_rw M ((M 4 3 + p0) % 4)) * (sp_rh M ((M 4 3 + p0) % 4))) → kb_B p l e ({ frames := 3, cells := 0, slots := 0, locals := 66 } : Room) s m args below meth c D ad cy (kb_A ad s.heap.size) 9 0 0 (MQ below (va_Qi (fun (vq_ : Int32) (_ : Unit) => vq_ = kb_J (sp_difR M p0 q0)) (fun _ t => kb_en2 D ad cy (sp_difM M p0 q0) t) (kb_A ad s.heap.size)) args s 0 0 (kb_A ad s.heap.size)) 111 [(0, .ref (ad 0)), (1, kb_i p0), (2, kb_i q0), (3, kb_i ((M 4 3 + p0) % 4)), (4, kb_i ((M 4 3 + q0) % 4)), (5, kb_i (sp_rw M ((M 4 3 + p0) % 4))), (6, kb_i (sp_rh M ((M 4 3 + p0) % 4))), (7, kb_i (sp_rbs M)), (8, kb_i k)] [] ((sp_df (sp_rbn M (sp_rw M ((M 4 3 + p0) % 4)) (sp_rh M ((M 4 3 + p0) % 4))) ((M 4 3 + p0) % 4) ((M 4 3 + q0) % 4) (sp_rbs M) k.toNat)) := by
            intro nn_
            induction nn_ with
            | zero => intro k hn; exact absurd hn (Nat.not_lt_zero _)
            | succ nn_ ih5 =>
              intro k hn hK
              refine kb_iload X 8 rfl dX6_differ_111 ?_
              refine kb_iload X 5 rfl dX6_differ_113 ?_
              refine kb_iload X 6 rfl dX6_differ_115 ?_
              refine kb_imul X dX6_differ_117 ?_
              refine kb_icmp_ge (tgt := 160) X ⟨by omega, by omega⟩ ⟨by omega, by omega⟩ dX6_differ_118 (by decide) (fun h6 => ?_) (fun h6 => ?_)
              ·
                refine kb_aload_n X 0 rfl dX6_differ_160 ?_
                refine kg_X6_ring X hi_X6_differ_X6 hf_X6_differ_33 dX6_differ_161 ?_
                refine kg_X4_size X hi_X6_differ_X4 hf_X6_differ_178 dX6_differ_164 ?_
                exact kb_iret X hr hlocks dX6_differ_167 (by rw [sp_dif_sz]; unfold sp_difR sp_rs; rw [if_pos (by omega), if_pos (by omega)]) (by (have e : k = (sp_rw M ((M 4 3 + p0) % 4)) * (sp_rh M ((M 4 3 + p0) % 4)) := by omega); unfold sp_difM sp_rs; rw [if_pos (by omega), e])
              ·
                refine kb_M_ok (fun hMk => ?_)
                have g1 := sp_px_rg hMk ((M 4 3 + p0) % 4) k
                have g2 := sp_px_rg hMk ((M 4 3 + q0) % 4) k
                refine kb_aload_n X 0 rfl dX6_differ_121 ?_
                refine kg_X6_ring X hi_X6_differ_X6 hf_X6_differ_33 dX6_differ_122 ?_
                refine kb_iload X 7 rfl dX6_differ_125 ?_
                refine kb_iload X 8 rfl dX6_differ_127 ?_
                refine kb_aload_n X 0 rfl dX6_differ_129 ?_
                refine kg_X6_ring X hi_X6_differ_X6 hf_X6_differ_33 dX6_differ_130 ?_
                refine kb_iload_n X 3 rfl dX6_differ_133 ?_
                refine kb_iload X 8 rfl dX6_differ_134 ?_
                refine kb_cVi X (rest := [kb_i k, kb_i (sp_rbs M), .ref (ad 4)]) [kb_i ((M 4 3 + p0) % 4), kb_i k] 4 (fl := [some 18, some 19, some 20, none, none]) (C := RX4) rfl rfl (c_X4_get l D ad cy ((sp_df (sp_rbn M (sp_rw M ((M 4 3 + p0) % 4)) (sp_rh M ((M 4 3 + p0) % 4))) ((M 4 3 + p0) % 4) ((M 4 3 + q0) % 4) (sp_rbs M) k.toNat)) ((M 4 3 + p0) % 4) k (by first | omega | assumption | exact ⟨by omega, by omega⟩) (by first | omega | assumption | exact ⟨by omega, by omega⟩)) gX6_differ_X4_get rfl ⟨rfl, hy_X4_get⟩ ⟨by decide, by decide⟩ rfl (Nat.le_of_ble_eq_true rfl) ⟨by decide, by decide⟩ dX6_differ_136 rfl ?_
                refine kb_aload_n X 0 rfl dX6_differ_139 ?_
                refine kg_X6_ring X hi_X6_differ_X6 hf_X6_differ_33 dX6_differ_140 ?_
                refine kb_iload X 4 rfl dX6_differ_143 ?_
                refine kb_iload X 8 rfl dX6_differ_145 ?_
                refine kb_cVi X (rest := [kb_i (sp_px ((sp_df (sp_rbn M (sp_rw M ((M 4 3 + p0) % 4)) (sp_rh M ((M 4 3 + p0) % 4))) ((M 4 3 + p0) % 4) ((M 4 3 + q0) % 4) (sp_rbs M) k.toNat)) ((M 4 3 + p0) % 4) k), kb_i k, kb_i (sp_rbs M), .ref (ad 4)]) [kb_i ((M 4 3 + q0) % 4), kb_i k] 4 (fl := [some 18, some 19, some 20, none, none]) (C := RX4) rfl rfl (c_X4_get l D ad cy ((sp_df (sp_rbn M (sp_rw M ((M 4 3 + p0) % 4)) (sp_rh M ((M 4 3 + p0) % 4))) ((M 4 3 + p0) % 4) ((M 4 3 + q0) % 4) (sp_rbs M) k.toNat)) ((M 4 3 + q0) % 4) k (by first | omega | assumption | exact ⟨by omega, by omega⟩) (by first | omega | assumption | exact ⟨by omega, by omega⟩)) gX6_differ_X4_get rfl ⟨rfl, hy_X4_get⟩ ⟨by decide, by decide⟩ rfl (Nat.le_of_ble_eq_true rfl) ⟨by decide, by decide⟩ dX6_differ_147 rfl ?_
                refine kb_isub X dX6_differ_150 ?_
                refine kb_nrm ?_
                have g7 := sp_nm_rg ((sp_px ((sp_df (sp_rbn M (sp_rw M ((M 4 3 + p0) % 4)) (sp_rh M ((M 4 3 + p0) % 4))) ((M 4 3 + p0) % 4) ((M 4 3 + q0) % 4) (sp_rbs M) k.toNat)) ((M 4 3 + p0) % 4) k) - (sp_px ((sp_df (sp_rbn M (sp_rw M ((M 4 3 + p0) % 4)) (sp_rh M ((M 4 3 + p0) % 4))) ((M 4 3 + p0) % 4) ((M 4 3 + q0) % 4) (sp_rbs M) k.toNat)) ((M 4 3 + q0) % 4) k))
                refine kb_cVv X (rest := []) [kb_i (sp_rbs M), kb_i k, kb_i (sp_nm ((sp_px ((sp_df (sp_rbn M (sp_rw M ((M 4 3 + p0) % 4)) (sp_rh M ((M 4 3 + p0) % 4))) ((M 4 3 + p0) % 4) ((M 4 3 + q0) % 4) (sp_rbs M) k.toNat)) ((M 4 3 + p0) % 4) k) - (sp_px ((sp_df (sp_rbn M (sp_rw M ((M 4 3 + p0) % 4)) (sp_rh M ((M 4 3 + p0) % 4))) ((M 4 3 + p0) % 4) ((M 4 3 + q0) % 4) (sp_rbs M) k.toNat)) ((M 4 3 + q0) % 4) k)))] 4 (fl := [some 18, some 19, some 20, none, none]) (C := RX4) rfl rfl (c_X4_set l D ad cy ((sp_df (sp_rbn M (sp_rw M ((M 4 3 + p0) % 4)) (sp_rh M ((M 4 3 + p0) % 4))) ((M 4 3 + p0) % 4) ((M 4 3 + q0) % 4) (sp_rbs M) k.toNat)) (sp_rbs M) k (sp_nm ((sp_px ((sp_df (sp_rbn M (sp_rw M ((M 4 3 + p0) % 4)) (sp_rh M ((M 4 3 + p0) % 4))) ((M 4 3 + p0) % 4) ((M 4 3 + q0) % 4) (sp_rbs M) k.toNat)) ((M 4 3 + p0) % 4) k) - (sp_px ((sp_df (sp_rbn M (sp_rw M ((M 4 3 + p0) % 4)) (sp_rh M ((M 4 3 + p0) % 4))) ((M 4 3 + p0) % 4) ((M 4 3 + q0) % 4) (sp_rbs M) k.toNat)) ((M 4 3 + q0) % 4) k))) (by first | omega | assumption | exact ⟨by omega, by omega⟩) (by first | omega | assumption | exact ⟨by omega, by omega⟩) (by first | omega | assumption | exact ⟨by omega, by omega⟩)) gX6_differ_X4_set rfl ⟨rfl, hy_X4_set⟩ ⟨by decide, by decide⟩ rfl (Nat.le_of_ble_eq_true rfl) ⟨by decide, by decide⟩ dX6_differ_151 rfl ?_
                refine kb_iinc (lv' := [(8, kb_i (k + 1)), (0, .ref (ad 0)), (1, kb_i p0), (2, kb_i q0), (3, kb_i ((M 4 3 + p0) % 4)), (4, kb_i ((M 4 3 + q0) % 4)), (5, kb_i (sp_rw M ((M 4 3 + p0) % 4))), (6, kb_i (sp_rh M ((M 4 3 + p0) % 4))), (7, kb_i (sp_rbs M))]) X 8 rfl dX6_differ_154 rfl (by decide) rfl ?_
                refine kb_goto (tgt := 111) X dX6_differ_157 (by decide) ?_
                refine kb_sub [1, 2, 3, 4, 5, 6, 7, 8, 0] (lv' := [(0, .ref (ad 0)), (1, kb_i p0), (2, kb_i q0), (3, kb_i ((M 4 3 + p0) % 4)), (4, kb_i ((M 4 3 + q0) % 4)), (5, kb_i (sp_rw M ((M 4 3 + p0) % 4))), (6, kb_i (sp_rh M ((M 4 3 + p0) % 4))), (7, kb_i (sp_rbs M)), (8, kb_i (k + 1))]) rfl ?_
                refine kb_eqM (M' := sp_df (sp_rbn M (sp_rw M ((M 4 3 + p0) % 4)) (sp_rh M ((M 4 3 + p0) % 4))) ((M 4 3 + p0) % 4) ((M 4 3 + q0) % 4) (sp_rbs M) (k + 1).toNat) (sp_dfS _ _ _ _ hK.1) ?_
                exact ih5 (k + 1) (by omega) (by first | omega | assumption | exact ⟨by omega, by omega⟩)
          refine kb_sub [6, 7, 8, 5, 4, 3, 2, 1, 0] (lv' := [(0, .ref (ad 0)), (1, kb_i p0), (2, kb_i q0), (3, kb_i ((M 4 3 + p0) % 4)), (4, kb_i ((M 4 3 + q0) % 4)), (5, kb_i (sp_rw M ((M 4 3 + p0) % 4))), (6, kb_i (sp_rh M ((M 4 3 + p0) % 4))), (7, kb_i (sp_rbs M)), (8, kb_i 0)]) rfl ?_
          refine kb_eqM (M' := sp_df (sp_rbn M (sp_rw M ((M 4 3 + p0) % 4)) (sp_rh M ((M 4 3 + p0) % 4))) ((M 4 3 + p0) % 4) ((M 4 3 + q0) % 4) (sp_rbs M) (0 : Int).toNat) (rfl) ?_
          exact L111 _ (0 : Int) (Nat.lt_succ_self _) (by first | omega | assumption | exact ⟨by omega, by omega⟩)
        ·
          refine kb_bipush X (by decide) dX6_differ_92 ?_
          exact kb_iret X hr hlocks dX6_differ_94 (by unfold sp_difR sp_rs; repeat (first | rw [if_pos (by omega)] | rw [if_neg (by omega)])) (by unfold sp_difM sp_rs; rw [if_neg (by omega)])
    ·
      refine kb_bipush X (by decide) dX6_differ_22 ?_
      exact kb_iret X hr hlocks dX6_differ_24 (by unfold sp_difR sp_rs; repeat (first | rw [if_pos (by omega)] | rw [if_neg (by omega)])) (by unfold sp_difM sp_rs; rw [if_neg (by omega)])
-- X6_likeness
theorem hf_X6_likeness_10 : Cond.fieldLink yX6_likeness.cls 10 RX6 "elements" "LSoundBoard$Probe;" ∈ wsX6_likeness := by decide +kernel
theorem hf_X6_likeness_26 : Cond.fieldLink yX6_likeness.cls 26 RX6 "heard" "LSoundBoard$Looks;" ∈ wsX6_likeness := by decide +kernel
theorem hf_X6_likeness_137 : Cond.fieldLink yX6_likeness.cls 137 RX3 "size" "I" ∈ wsX6_likeness := by decide +kernel
theorem hi_X6_likeness_X3 : ∀ w ∈ wsX30, w ∈ wsX6_likeness := by decide +kernel
theorem hi_X6_likeness_X6 : ∀ w ∈ wsX60, w ∈ wsX6_likeness := by decide +kernel
theorem hy_X6_likeness : yX6_likeness.cls ≠ "java/lang/invoke/MethodHandle" ∧ yX6_likeness.cls ≠ "java/lang/invoke/VarHandle" ∧ (parseMethodDescriptor yX6_likeness.desc).map (fun d => d.parameters.length) = some 3 := by decide +kernel
set_option maxHeartbeats 4000000 in
set_option maxRecDepth 100000 in
theorem c_X6_likeness (l : Launch) (D : va_G) (ad : Nat → Nat) (cy : Nat → ClassId) (M : kb_M) (lk : Int) (o0 : Int) (s0 : Int) (hn : 0 ≤ M 1 5 ∧ M 1 5 ≤ 16) (ho : 0 ≤ M 3 2 ∧ M 3 2 < 6) (hlk : 0 ≤ lk ∧ lk < 1000) (ho0 : 0 ≤ o0 ∧ o0 < 1000) (hs0 : -100 ≤ s0 ∧ s0 ≤ 100) (hda : ∀ i : Int, 0 ≤ sp_ad M i ∧ sp_ad M i ≤ 20000000) (hsb : ∀ j : Int, -1600 ≤ M 16 j ∧ M 16 j ≤ 1600) : kb_Ci l D ad cy yX6_likeness wsX6_likeness 4 90 [.ref (ad 0), kb_i lk, kb_i o0, kb_i s0] M (sp_lkn M lk o0 s0) (M) := by
  refine kb_mkCi (cc := cX6_likeness) (maxL := 10) (lv := [(0, .ref (ad 0)), (1, kb_i lk), (2, kb_i o0), (3, kb_i s0)]) (plainFor_of_name (by decide)) rfl (Nat.le_of_ble_eq_true rfl) rfl ?_
  intro p e s m args below meth c X hr hlocks hM
  have q17 := hM 17 ((M 3 2 + lk) % 6)
  unfold kb_rg at q17
  have hod : 0 ≤ sp_out M lk ∧ sp_out M lk ≤ 20000000 := hda _
  refine kb_aload_n X 0 rfl dX6_likeness_0 ?_
  refine kg_X6_elements X hi_X6_likeness_X6 hf_X6_likeness_10 dX6_likeness_1 ?_
  refine kb_aload_n X 0 rfl dX6_likeness_4 ?_
  refine kg_X6_heard X hi_X6_likeness_X6 hf_X6_likeness_26 dX6_likeness_5 ?_
  refine kb_iload_n X 1 rfl dX6_likeness_8 ?_
  refine kb_cVi X (rest := [.ref (ad 1)]) [kb_i lk] 3 (fl := [some 16, some 17, none, none, none]) (C := RX1) rfl rfl (c_X1_senderOf l D ad cy M lk (by first | omega | assumption | exact ⟨by omega, by omega⟩) (by first | omega | assumption | exact ⟨by omega, by omega⟩)) gX6_likeness_X1_senderOf rfl ⟨rfl, hy_X1_senderOf⟩ ⟨by decide, by decide⟩ rfl (Nat.le_of_ble_eq_true rfl) ⟨by decide, by decide⟩ dX6_likeness_9 rfl ?_
  refine kb_cVi X (rest := []) [kb_i (M 17 ((M 3 2 + lk) % 6))] 1 (fl := [some 7, some 8, some 9, some 10, none, none, none, none, none, none, none]) (C := RX3) rfl rfl (c_X3_aimedDelay l D ad cy M (M 17 ((M 3 2 + lk) % 6)) (by first | omega | assumption | exact ⟨by omega, by omega⟩)) gX6_likeness_X3_aimedDelay rfl ⟨rfl, hy_X3_aimedDelay⟩ ⟨by decide, by decide⟩ rfl (Nat.le_of_ble_eq_true rfl) ⟨by decide, by decide⟩ dX6_likeness_12 rfl ?_
  refine kb_eqi (b := sp_out M lk) (rfl) ?_
  refine kb_istore (lv' := [(4, kb_i (sp_out M lk)), (0, .ref (ad 0)), (1, kb_i lk), (2, kb_i o0), (3, kb_i s0)]) X dX6_likeness_15 (by decide) rfl ?_
  refine kb_iconst X dX6_likeness_17 ?_
  refine kb_istore (lv' := [(5, kb_i 0), (4, kb_i (sp_out M lk)), (0, .ref (ad 0)), (1, kb_i lk), (2, kb_i o0), (3, kb_i s0)]) X dX6_likeness_18 (by decide) rfl ?_
  refine kb_iconst X dX6_likeness_20 ?_
  refine kb_istore (lv' := [(6, kb_i 0), (5, kb_i 0), (4, kb_i (sp_out M lk)), (0, .ref (ad 0)), (1, kb_i lk), (2, kb_i o0), (3, kb_i s0)]) X dX6_likeness_21 (by decide) rfl ?_
  have L23 : ∀ nn_ : Nat, ∀ (u a : Int), (16 - a).toNat < nn_ → (0 ≤ a ∧ a ≤ M 1 5) → (u = sp_sum (fun i => sp_li M lk o0 s0 i 13) a.toNat) → kb_B p l e ({ frames := 4, cells := 0, slots := 0, locals := 90 } : Room) s m args below meth c D ad cy (kb_A ad s.heap.size) 10 0 0 (MQ below (va_Qi (fun (vq_ : Int32) (_ : Unit) => vq_ = kb_J (sp_lkn M lk o0 s0)) (fun _ t => kb_en2 D ad cy (M) t) (kb_A ad s.heap.size)) args s 0 0 (kb_A ad s.heap.size)) 23 [(0, .ref (ad 0)), (1, kb_i lk), (2, kb_i o0), (3, kb_i s0), (4, kb_i (sp_out M lk)), (5, kb_i u), (6, kb_i a)] [] M := by
    intro nn_
    induction nn_ with
    | zero => intro u a hn; exact absurd hn (Nat.not_lt_zero _)
    | succ nn_ ih1 =>
      intro u a hn hI hJ
      refine kb_iload X 6 rfl dX6_likeness_23 ?_
      refine kb_aload_n X 0 rfl dX6_likeness_25 ?_
      refine kg_X6_elements X hi_X6_likeness_X6 hf_X6_likeness_10 dX6_likeness_26 ?_
      refine kg_X3_size X hi_X6_likeness_X3 hf_X6_likeness_137 dX6_likeness_29 ?_
      have g2 : -2147483648 ≤ M 1 5 ∧ M 1 5 < 2147483648 := hM 1 5
      refine kb_icmp_ge (tgt := 119) X ⟨by omega, by omega⟩ ⟨by omega, by omega⟩ dX6_likeness_32 (by decide) (fun h3 => ?_) (fun h3 => ?_)
      ·
        refine kb_iload X 5 rfl dX6_likeness_119 ?_
        exact kb_iret X hr hlocks dX6_likeness_121 (by (have e : a = M 1 5 := by omega); rw [hJ, e]; rfl) (by first | rfl | (exfalso; omega))
      ·
        have d1 := hda a
        refine kb_iload X 4 rfl dX6_likeness_35 ?_
        refine kb_aload_n X 0 rfl dX6_likeness_37 ?_
        refine kg_X6_elements X hi_X6_likeness_X6 hf_X6_likeness_10 dX6_likeness_38 ?_
        refine kb_iload X 6 rfl dX6_likeness_41 ?_
        refine kb_cVi X (rest := [kb_i (sp_out M lk)]) [kb_i a] 1 (fl := [some 7, some 8, some 9, some 10, none, none, none, none, none, none, none]) (C := RX3) rfl rfl (c_X3_aimedDelay l D ad cy M a (by first | omega | assumption | exact ⟨by omega, by omega⟩)) gX6_likeness_X3_aimedDelay rfl ⟨rfl, hy_X3_aimedDelay⟩ ⟨by decide, by decide⟩ rfl (Nat.le_of_ble_eq_true rfl) ⟨by decide, by decide⟩ dX6_likeness_43 rfl ?_
        refine kb_iadd X dX6_likeness_46 ?_
        refine kb_istore (lv' := [(7, kb_i ((sp_out M lk) + (sp_ad M a))), (0, .ref (ad 0)), (1, kb_i lk), (2, kb_i o0), (3, kb_i s0), (4, kb_i (sp_out M lk)), (5, kb_i u), (6, kb_i a)]) X dX6_likeness_47 (by decide) rfl ?_
        refine kb_bipush X (by decide) dX6_likeness_49 ?_
        refine kb_istore (lv' := [(8, kb_i ((-6))), (7, kb_i ((sp_out M lk) + (sp_ad M a))), (0, .ref (ad 0)), (1, kb_i lk), (2, kb_i o0), (3, kb_i s0), (4, kb_i (sp_out M lk)), (5, kb_i u), (6, kb_i a)]) X dX6_likeness_51 (by decide) rfl ?_
        have L53 : ∀ nn_ : Nat, ∀ (u2 t : Int), (7 - t).toNat < nn_ → (-6 ≤ t ∧ t ≤ 7) → (u2 = u + sp_li M lk o0 s0 a (t + 6).toNat) → kb_B p l e ({ frames := 4, cells := 0, slots := 0, locals := 90 } : Room) s m args below meth c D ad cy (kb_A ad s.heap.size) 10 0 0 (MQ below (va_Qi (fun (vq_ : Int32) (_ : Unit) => vq_ = kb_J (sp_lkn M lk o0 s0)) (fun _ t => kb_en2 D ad cy (M) t) (kb_A ad s.heap.size)) args s 0 0 (kb_A ad s.heap.size)) 53 [(0, .ref (ad 0)), (1, kb_i lk), (2, kb_i o0), (3, kb_i s0), (4, kb_i (sp_out M lk)), (5, kb_i u2), (6, kb_i a), (7, kb_i ((sp_out M lk) + (sp_ad M a))), (8, kb_i t)] [] M := by
          intro nn_
          induction nn_ with
          | zero => intro u2 t hn; exact absurd hn (Nat.not_lt_zero _)
          | succ nn_ ih4 =>
            intro u2 t hn hK hK2
            refine kb_iload X 8 rfl dX6_likeness_53 ?_
            refine kb_bipush X (by decide) dX6_likeness_55 ?_
            refine kb_icmp_gt (tgt := 113) X ⟨by omega, by omega⟩ ⟨by decide, by decide⟩ dX6_likeness_57 (by decide) (fun h5 => ?_) (fun h5 => ?_)
            ·
              refine kb_iinc (lv' := [(6, kb_i (a + 1)), (0, .ref (ad 0)), (1, kb_i lk), (2, kb_i o0), (3, kb_i s0), (4, kb_i (sp_out M lk)), (5, kb_i u2), (7, kb_i ((sp_out M lk) + (sp_ad M a))), (8, kb_i t)]) X 6 rfl dX6_likeness_113 rfl (by decide) rfl ?_
              refine kb_goto (tgt := 23) X dX6_likeness_116 (by decide) ?_
              refine kb_sub [1, 2, 3, 4, 5, 6, 0] (lv' := [(0, .ref (ad 0)), (1, kb_i lk), (2, kb_i o0), (3, kb_i s0), (4, kb_i (sp_out M lk)), (5, kb_i u2), (6, kb_i (a + 1))]) rfl ?_
              exact ih1 u2 (a + 1) (by omega) (by first | omega | assumption | exact ⟨by omega, by omega⟩) (by rw [sp_sumS _ hI.1, ← hJ, hK2, show (t + 6).toNat = 13 by omega])
            ·
              refine kb_aload_n X 0 rfl dX6_likeness_60 ?_
              refine kg_X6_heard X hi_X6_likeness_X6 hf_X6_likeness_26 dX6_likeness_61 ?_
              refine kb_iload_n X 1 rfl dX6_likeness_64 ?_
              refine kb_iload X 6 rfl dX6_likeness_65 ?_
              refine kb_iload X 7 rfl dX6_likeness_67 ?_
              refine kb_iload X 8 rfl dX6_likeness_69 ?_
              refine kb_iadd X dX6_likeness_71 ?_
              refine kb_cVi X (rest := []) [kb_i lk, kb_i a, kb_i (((sp_out M lk) + (sp_ad M a)) + t)] 3 (fl := [some 16, some 17, none, none, none]) (C := RX1) rfl rfl (c_X1_at l D ad cy M lk a (((sp_out M lk) + (sp_ad M a)) + t) (by first | omega | assumption | exact ⟨by omega, by omega⟩) (by first | omega | assumption | exact ⟨by omega, by omega⟩) (by first | omega | assumption | exact ⟨by omega, by omega⟩) (by first | omega | assumption | exact ⟨by omega, by omega⟩)) gX6_likeness_X1_at rfl ⟨rfl, hy_X1_at⟩ ⟨by decide, by decide⟩ rfl (Nat.le_of_ble_eq_true rfl) ⟨by decide, by decide⟩ dX6_likeness_72 rfl ?_
              refine kb_istore (lv' := [(9, kb_i (sp_at M lk a (((sp_out M lk) + (sp_ad M a)) + t))), (0, .ref (ad 0)), (1, kb_i lk), (2, kb_i o0), (3, kb_i s0), (4, kb_i (sp_out M lk)), (5, kb_i u2), (6, kb_i a), (7, kb_i ((sp_out M lk) + (sp_ad M a))), (8, kb_i t)]) X dX6_likeness_75 (by decide) rfl ?_
              have s1 := sp_at_b hsb lk a (((sp_out M lk) + (sp_ad M a)) + t)
              refine kb_iload X 0 rfl dX6_likeness_77 ?_
              refine kb_if_eq (tgt := 107) X ⟨by omega, by omega⟩ dX6_likeness_79 (by decide) (fun h6 => ?_) (fun h6 => ?_)
              ·
                refine kb_iinc (lv' := [(8, kb_i (t + 1)), (9, kb_i (sp_at M lk a (((sp_out M lk) + (sp_ad M a)) + t))), (0, .ref (ad 0)), (1, kb_i lk), (2, kb_i o0), (3, kb_i s0), (4, kb_i (sp_out M lk)), (5, kb_i u2), (6, kb_i a), (7, kb_i ((sp_out M lk) + (sp_ad M a)))]) X 9 rfl dX6_likeness_107 rfl (by decide) rfl ?_
                refine kb_goto (tgt := 53) X dX6_likeness_110 (by decide) ?_
                refine kb_sub [2, 3, 4, 5, 6, 7, 8, 9, 0] (lv' := [(0, .ref (ad 0)), (1, kb_i lk), (2, kb_i o0), (3, kb_i s0), (4, kb_i (sp_out M lk)), (5, kb_i u2), (6, kb_i a), (7, kb_i ((sp_out M lk) + (sp_ad M a))), (8, kb_i (t + 1))]) rfl ?_
                exact ih4 u2 (t + 1) (by omega) (by first | omega | assumption | exact ⟨by omega, by omega⟩) (by rw [sp_liS _ _ _ _ _ hK.1]; unfold sp_lt; subst_vars; first | omega | (rw [show sp_at M lk a (sp_out M lk + sp_ad M a + t) = 0 by assumption]; omega))
              ·
                refine kb_iload X 6 rfl dX6_likeness_82 ?_
                refine kb_iload X 0 rfl dX6_likeness_84 ?_
                refine kb_aload_n X 1 rfl dX6_likeness_86 ?_
                refine kg_X6_heard X hi_X6_likeness_X6 hf_X6_likeness_26 dX6_likeness_87 ?_
                refine kb_iload_n X 3 rfl dX6_likeness_90 ?_
                refine kb_iload X 7 rfl dX6_likeness_91 ?_
                refine kb_iload X 8 rfl dX6_likeness_93 ?_
                refine kb_iload X 9 rfl dX6_likeness_95 ?_
                refine kb_iadd X dX6_likeness_97 ?_
                refine kb_iload_n X 4 rfl dX6_likeness_98 ?_
                refine kb_iadd X dX6_likeness_99 ?_
                refine kb_cVi X (rest := [kb_i (sp_at M lk a (((sp_out M lk) + (sp_ad M a)) + t)), kb_i u2]) [kb_i o0, kb_i a, kb_i ((((sp_out M lk) + (sp_ad M a)) + t) + s0)] 3 (fl := [some 16, some 17, none, none, none]) (C := RX1) rfl rfl (c_X1_at l D ad cy M o0 a ((((sp_out M lk) + (sp_ad M a)) + t) + s0) (by first | omega | assumption | exact ⟨by omega, by omega⟩) (by first | omega | assumption | exact ⟨by omega, by omega⟩) (by first | omega | assumption | exact ⟨by omega, by omega⟩) (by first | omega | assumption | exact ⟨by omega, by omega⟩)) gX6_likeness_X1_at rfl ⟨rfl, hy_X1_at⟩ ⟨by decide, by decide⟩ rfl (Nat.le_of_ble_eq_true rfl) ⟨by decide, by decide⟩ dX6_likeness_100 rfl ?_
                refine kb_imul X dX6_likeness_103 ?_
                refine kb_iadd X dX6_likeness_104 ?_
                refine kb_nmi (fun x5_7 ex5_7 => ?_)
                refine kb_istore (lv' := [(5, kb_i x5_7), (9, kb_i (sp_at M lk a (((sp_out M lk) + (sp_ad M a)) + t))), (0, .ref (ad 0)), (1, kb_i lk), (2, kb_i o0), (3, kb_i s0), (4, kb_i (sp_out M lk)), (6, kb_i a), (7, kb_i ((sp_out M lk) + (sp_ad M a))), (8, kb_i t)]) X dX6_likeness_105 (by decide) rfl ?_
                refine kb_iinc (lv' := [(8, kb_i (t + 1)), (5, kb_i x5_7), (9, kb_i (sp_at M lk a (((sp_out M lk) + (sp_ad M a)) + t))), (0, .ref (ad 0)), (1, kb_i lk), (2, kb_i o0), (3, kb_i s0), (4, kb_i (sp_out M lk)), (6, kb_i a), (7, kb_i ((sp_out M lk) + (sp_ad M a)))]) X 9 rfl dX6_likeness_107 rfl (by decide) rfl ?_
                refine kb_goto (tgt := 53) X dX6_likeness_110 (by decide) ?_
                refine kb_sub [3, 4, 5, 6, 7, 1, 8, 9, 0] (lv' := [(0, .ref (ad 0)), (1, kb_i lk), (2, kb_i o0), (3, kb_i s0), (4, kb_i (sp_out M lk)), (5, kb_i x5_7), (6, kb_i a), (7, kb_i ((sp_out M lk) + (sp_ad M a))), (8, kb_i (t + 1))]) rfl ?_
                exact ih4 x5_7 (t + 1) (by omega) (by first | omega | assumption | exact ⟨by omega, by omega⟩) (by rw [sp_liS _ _ _ _ _ hK.1]; unfold sp_lt; subst_vars; first | omega | (rw [show sp_at M lk a (sp_out M lk + sp_ad M a + t) = 0 by assumption]; omega))
        refine kb_sub [2, 3, 4, 5, 6, 7, 8, 1, 0] (lv' := [(0, .ref (ad 0)), (1, kb_i lk), (2, kb_i o0), (3, kb_i s0), (4, kb_i (sp_out M lk)), (5, kb_i u), (6, kb_i a), (7, kb_i ((sp_out M lk) + (sp_ad M a))), (8, kb_i ((-6)))]) rfl ?_
        exact L53 _ u ((-6)) (Nat.lt_succ_self _) (by first | omega | assumption | exact ⟨by omega, by omega⟩) (by exact (Int.add_zero _).symm)
  refine kb_sub [3, 4, 5, 6, 2, 1, 0] (lv' := [(0, .ref (ad 0)), (1, kb_i lk), (2, kb_i o0), (3, kb_i s0), (4, kb_i (sp_out M lk)), (5, kb_i 0), (6, kb_i 0)]) rfl ?_
  exact L23 _ (0 : Int) (0 : Int) (Nat.lt_succ_self _) (by first | omega | assumption | exact ⟨by omega, by omega⟩) (rfl)
-- X6_turn
theorem hf_X6_turn_10 : Cond.fieldLink yX6_turn.cls 10 RX6 "elements" "LSoundBoard$Probe;" ∈ wsX6_turn := by decide +kernel
theorem hf_X6_turn_26 : Cond.fieldLink yX6_turn.cls 26 RX6 "heard" "LSoundBoard$Looks;" ∈ wsX6_turn := by decide +kernel
theorem hi_X6_turn_X6 : ∀ w ∈ wsX60, w ∈ wsX6_turn := by decide +kernel
theorem hy_X6_turn : yX6_turn.cls ≠ "java/lang/invoke/MethodHandle" ∧ yX6_turn.cls ≠ "java/lang/invoke/VarHandle" ∧ (parseMethodDescriptor yX6_turn.desc).map (fun d => d.parameters.length) = some 4 := by decide +kernel
set_option maxHeartbeats 4000000 in
set_option maxRecDepth 100000 in
theorem c_X6_turn (l : Launch) (D : va_G) (ad : Nat → Nat) (cy : Nat → ClassId) (M : kb_M) (lk : Int) (o0 : Int) (x : Int) (z : Int) (hlk : -2147483648 ≤ lk ∧ lk < 2147483648) (ho0 : -2147483648 ≤ o0 ∧ o0 < 2147483648) (hx : -2147483648 ≤ x ∧ x < 2147483648) (hz : -2147483648 ≤ z ∧ z < 2147483648) (hIP : sp_IP M) (hIL : sp_IL M) : kb_Ci l D ad cy yX6_turn wsX6_turn 5 119 [.ref (ad 0), kb_i lk, kb_i o0, kb_i x, kb_i z] M (sp_turnR M lk o0 x z) (sp_turnM M lk o0 x z) := by
  refine kb_mkCi (cc := cX6_turn) (maxL := 10) (lv := [(0, .ref (ad 0)), (1, kb_i lk), (2, kb_i o0), (3, kb_i x), (4, kb_i z)]) (plainFor_of_name (by decide)) rfl (Nat.le_of_ble_eq_true rfl) rfl ?_
  intro p e s m args below meth c X hr hlocks hM
  obtain ⟨hxs, hn, ha, hP, hT, hf⟩ := id hIP
  obtain ⟨ho, hs, hsb⟩ := id hIL
  have qa := hM 17 ((M 3 2 + lk) % 6)
  have qb := hM 17 ((M 3 2 + o0) % 6)
  unfold kb_rg at qa qb
  refine kb_aload_n X 0 rfl dX6_turn_0 ?_
  refine kg_X6_heard X hi_X6_turn_X6 hf_X6_turn_26 dX6_turn_1 ?_
  refine kb_iload_n X 1 rfl dX6_turn_4 ?_
  refine kb_cVi X (rest := []) [kb_i lk] 3 (fl := [some 16, some 17, none, none, none]) (C := RX1) rfl rfl (c_X1_has l D ad cy M lk (by first | omega | assumption | exact ⟨by omega, by omega⟩)) gX6_turn_X1_has rfl ⟨rfl, hy_X1_has⟩ ⟨by decide, by decide⟩ rfl (Nat.le_of_ble_eq_true rfl) ⟨by decide, by decide⟩ dX6_turn_5 rfl ?_
  refine kb_ifb_eq (tgt := 31) X dX6_turn_8 (by decide) (fun h1 => ?_) (fun h1 => ?_)
  ·
    refine kb_bipush X (by decide) dX6_turn_31 ?_
    exact kb_iret X hr hlocks dX6_turn_33 (by unfold sp_turnR; repeat (first | rw [if_pos (by omega)] | rw [if_neg (by omega)])) (by unfold sp_turnM; rw [if_neg (by omega)])
  ·
    refine kb_aload_n X 0 rfl dX6_turn_11 ?_
    refine kg_X6_heard X hi_X6_turn_X6 hf_X6_turn_26 dX6_turn_12 ?_
    refine kb_iload_n X 2 rfl dX6_turn_15 ?_
    refine kb_cVi X (rest := []) [kb_i o0] 3 (fl := [some 16, some 17, none, none, none]) (C := RX1) rfl rfl (c_X1_has l D ad cy M o0 (by first | omega | assumption | exact ⟨by omega, by omega⟩)) gX6_turn_X1_has rfl ⟨rfl, hy_X1_has⟩ ⟨by decide, by decide⟩ rfl (Nat.le_of_ble_eq_true rfl) ⟨by decide, by decide⟩ dX6_turn_16 rfl ?_
    refine kb_ifb_eq (tgt := 31) X dX6_turn_19 (by decide) (fun h2 => ?_) (fun h2 => ?_)
    ·
      refine kb_bipush X (by decide) dX6_turn_31 ?_
      exact kb_iret X hr hlocks dX6_turn_33 (by unfold sp_turnR; repeat (first | rw [if_pos (by omega)] | rw [if_neg (by omega)])) (by unfold sp_turnM; rw [if_neg (by omega)])
    ·
      refine kb_iload_n X 3 rfl dX6_turn_22 ?_
      refine kb_iload X 4 rfl dX6_turn_23 ?_
      refine kb_cSi X (rest := []) [kb_i x, kb_i z] (c_X6_isPlace l D ad cy M x z (by first | omega | assumption | exact ⟨by omega, by omega⟩) (by first | omega | assumption | exact ⟨by omega, by omega⟩)) gX6_turn_X6_isPlace rfl hy_X6_isPlace ⟨by decide, by decide⟩ rfl (Nat.le_of_ble_eq_true rfl) ⟨by decide, by decide⟩ dX6_turn_25 rfl ?_
      refine kb_ifb_ne (tgt := 34) X dX6_turn_28 (by decide) (fun h3 => ?_) (fun h3 => ?_)
      ·
        refine kb_aload_n X 0 rfl dX6_turn_34 ?_
        refine kg_X6_heard X hi_X6_turn_X6 hf_X6_turn_26 dX6_turn_35 ?_
        refine kb_iload_n X 1 rfl dX6_turn_38 ?_
        refine kb_cVi X (rest := []) [kb_i lk] 3 (fl := [some 16, some 17, none, none, none]) (C := RX1) rfl rfl (c_X1_senderOf l D ad cy M lk (by first | omega | assumption | exact ⟨by omega, by omega⟩) (by first | omega | assumption | exact ⟨by omega, by omega⟩)) gX6_turn_X1_senderOf rfl ⟨rfl, hy_X1_senderOf⟩ ⟨by decide, by decide⟩ rfl (Nat.le_of_ble_eq_true rfl) ⟨by decide, by decide⟩ dX6_turn_39 rfl ?_
        refine kb_aload_n X 0 rfl dX6_turn_42 ?_
        refine kg_X6_heard X hi_X6_turn_X6 hf_X6_turn_26 dX6_turn_43 ?_
        refine kb_iload_n X 2 rfl dX6_turn_46 ?_
        refine kb_cVi X (rest := [kb_i (M 17 ((M 3 2 + lk) % 6))]) [kb_i o0] 3 (fl := [some 16, some 17, none, none, none]) (C := RX1) rfl rfl (c_X1_senderOf l D ad cy M o0 (by first | omega | assumption | exact ⟨by omega, by omega⟩) (by first | omega | assumption | exact ⟨by omega, by omega⟩)) gX6_turn_X1_senderOf rfl ⟨rfl, hy_X1_senderOf⟩ ⟨by decide, by decide⟩ rfl (Nat.le_of_ble_eq_true rfl) ⟨by decide, by decide⟩ dX6_turn_47 rfl ?_
        refine kb_icmp_eq (tgt := 56) X ⟨by omega, by omega⟩ ⟨by omega, by omega⟩ dX6_turn_50 (by decide) (fun h4 => ?_) (fun h4 => ?_)
        ·
          refine kb_aload_n X 0 rfl dX6_turn_56 ?_
          refine kg_X6_elements X hi_X6_turn_X6 hf_X6_turn_10 dX6_turn_57 ?_
          refine kb_iload_n X 3 rfl dX6_turn_60 ?_
          refine kb_iload X 4 rfl dX6_turn_61 ?_
          refine kb_cVv X (rest := []) [kb_i x, kb_i z] 1 (fl := [some 7, some 8, some 9, some 10, none, none, none, none, none, none, none]) (C := RX3) rfl rfl (c_X3_aim l D ad cy M x z (by first | omega | assumption | exact ⟨by omega, by omega⟩) (by first | omega | assumption | exact ⟨by omega, by omega⟩) (by first | omega | assumption | exact ⟨by omega, by omega⟩) (by first | omega | assumption | exact ⟨by omega, by omega⟩) (by first | omega | assumption | exact ⟨by omega, by omega⟩) (by first | omega | assumption | exact ⟨by omega, by omega⟩) (by first | omega | assumption | exact ⟨by omega, by omega⟩)) gX6_turn_X3_aim rfl ⟨rfl, hy_X3_aim⟩ ⟨by decide, by decide⟩ rfl (Nat.le_of_ble_eq_true rfl) ⟨by decide, by decide⟩ dX6_turn_63 rfl ?_
          have fb := fun s9 => sp_lkn_b (M := sp_aim M x z) hsb hn lk o0 s9
          refine kb_iconst X dX6_turn_66 ?_
          refine kb_istore (lv' := [(5, kb_i 0), (0, .ref (ad 0)), (1, kb_i lk), (2, kb_i o0), (3, kb_i x), (4, kb_i z)]) X dX6_turn_67 (by decide) rfl ?_
          refine kb_aload_n X 1 rfl dX6_turn_69 ?_
          refine kb_iload_n X 2 rfl dX6_turn_70 ?_
          refine kb_iload_n X 3 rfl dX6_turn_71 ?_
          refine kb_iconst X dX6_turn_72 ?_
          refine kb_cVi X (rest := []) [kb_i lk, kb_i o0, kb_i 0] 0 (fl := [some 1, some 2, some 3, some 4, some 5, some 6]) (C := RX6) rfl rfl (c_X6_likeness l D ad cy (sp_aim M x z) lk o0 0 (show 0 ≤ M 1 5 ∧ M 1 5 ≤ 16 from (by first | omega | assumption | exact ⟨by omega, by omega⟩)) (show 0 ≤ M 3 2 ∧ M 3 2 < 6 from (by first | omega | assumption | exact ⟨by omega, by omega⟩)) (by first | omega | assumption | exact ⟨by omega, by omega⟩) (by first | omega | assumption | exact ⟨by omega, by omega⟩) (by first | omega | assumption | exact ⟨by omega, by omega⟩) (fun i => by have := sp_ad_b (i := i) hIP (x := x) (z := z) (by omega) (by omega); omega) (by exact hsb)) gX6_turn_X6_likeness rfl ⟨rfl, hy_X6_likeness⟩ ⟨by decide, by decide⟩ rfl (Nat.le_of_ble_eq_true rfl) ⟨by decide, by decide⟩ dX6_turn_73 rfl ?_
          refine kb_nmi (fun x6_5 ex6_5 => ?_)
          refine kb_istore (lv' := [(6, kb_i x6_5), (5, kb_i 0), (0, .ref (ad 0)), (1, kb_i lk), (2, kb_i o0), (3, kb_i x), (4, kb_i z)]) X dX6_turn_76 (by decide) rfl ?_
          have f0 := fb 0
          refine kb_iconst X dX6_turn_78 ?_
          refine kb_istore (lv' := [(7, kb_i 1), (6, kb_i x6_5), (5, kb_i 0), (0, .ref (ad 0)), (1, kb_i lk), (2, kb_i o0), (3, kb_i x), (4, kb_i z)]) X dX6_turn_79 (by decide) rfl ?_
          have L81 : ∀ nn_ : Nat, ∀ (b gr y : Int), (9 - y).toNat < nn_ → (1 ≤ y ∧ y ≤ 9) → (b = sp_tn (sp_lkn (sp_aim M x z) lk o0) (2 * y - 2).toNat ∧ gr = (sp_lkn (sp_aim M x z) lk o0) b) → kb_B p l e ({ frames := 5, cells := 0, slots := 0, locals := 119 } : Room) s m args below meth c D ad cy (kb_A ad s.heap.size) 10 0 0 (MQ below (va_Qi (fun (vq_ : Int32) (_ : Unit) => vq_ = kb_J (sp_turnR M lk o0 x z)) (fun _ t => kb_en2 D ad cy (sp_turnM M lk o0 x z) t) (kb_A ad s.heap.size)) args s 0 0 (kb_A ad s.heap.size)) 81 [(0, .ref (ad 0)), (1, kb_i lk), (2, kb_i o0), (3, kb_i x), (4, kb_i z), (5, kb_i b), (6, kb_i gr), (7, kb_i y)] [] (sp_aim M x z) := by
            intro nn_
            induction nn_ with
            | zero => intro b gr y hn; exact absurd hn (Nat.not_lt_zero _)
            | succ nn_ ih6 =>
              intro b gr y hn hI hJ
              refine kb_iload X 7 rfl dX6_turn_81 ?_
              refine kb_bipush X (by decide) dX6_turn_83 ?_
              refine kb_icmp_gt (tgt := 140) X ⟨by omega, by omega⟩ ⟨by decide, by decide⟩ dX6_turn_85 (by decide) (fun h7 => ?_) (fun h7 => ?_)
              ·
                refine kb_iload X 5 rfl dX6_turn_140 ?_
                exact kb_iret X hr hlocks dX6_turn_142 (by unfold sp_turnR; rw [if_pos (by omega), if_pos (by omega), hJ.1, show (2 * y - 2).toNat = 16 by omega]) (by unfold sp_turnM; rw [if_pos (by omega)])
              ·
                refine kb_iconst X dX6_turn_88 ?_
                refine kb_istore (lv' := [(8, kb_i ((-1))), (0, .ref (ad 0)), (1, kb_i lk), (2, kb_i o0), (3, kb_i x), (4, kb_i z), (5, kb_i b), (6, kb_i gr), (7, kb_i y)]) X dX6_turn_89 (by decide) rfl ?_
                have L91 : ∀ nn_ : Nat, ∀ (b2 g2 s0 : Int), (4 - s0).toNat < nn_ → (-1 ≤ s0 ∧ s0 ≤ 3) → (sp_tJ (sp_lkn (sp_aim M x z) lk o0) y s0 b2 g2) → kb_B p l e ({ frames := 5, cells := 0, slots := 0, locals := 119 } : Room) s m args below meth c D ad cy (kb_A ad s.heap.size) 10 0 0 (MQ below (va_Qi (fun (vq_ : Int32) (_ : Unit) => vq_ = kb_J (sp_turnR M lk o0 x z)) (fun _ t => kb_en2 D ad cy (sp_turnM M lk o0 x z) t) (kb_A ad s.heap.size)) args s 0 0 (kb_A ad s.heap.size)) 91 [(0, .ref (ad 0)), (1, kb_i lk), (2, kb_i o0), (3, kb_i x), (4, kb_i z), (5, kb_i b2), (6, kb_i g2), (7, kb_i y), (8, kb_i s0)] [] (sp_aim M x z) := by
                  intro nn_
                  induction nn_ with
                  | zero => intro b2 g2 s0 hn; exact absurd hn (Nat.not_lt_zero _)
                  | succ nn_ ih8 =>
                    intro b2 g2 s0 hn hK hK2
                    refine kb_iload X 8 rfl dX6_turn_91 ?_
                    refine kb_iconst X dX6_turn_93 ?_
                    refine kb_icmp_gt (tgt := 134) X ⟨by omega, by omega⟩ ⟨by decide, by decide⟩ dX6_turn_94 (by decide) (fun h9 => ?_) (fun h9 => ?_)
                    ·
                      refine kb_iinc (lv' := [(7, kb_i (y + 1)), (0, .ref (ad 0)), (1, kb_i lk), (2, kb_i o0), (3, kb_i x), (4, kb_i z), (5, kb_i b2), (6, kb_i g2), (8, kb_i s0)]) X 7 rfl dX6_turn_134 rfl (by decide) rfl ?_
                      refine kb_goto (tgt := 81) X dX6_turn_137 (by decide) ?_
                      refine kb_sub [1, 2, 3, 4, 5, 6, 7, 0] (lv' := [(0, .ref (ad 0)), (1, kb_i lk), (2, kb_i o0), (3, kb_i x), (4, kb_i z), (5, kb_i b2), (6, kb_i g2), (7, kb_i (y + 1))]) rfl ?_
                      exact ih6 b2 g2 (y + 1) (by omega) (by first | omega | assumption | exact ⟨by omega, by omega⟩) (by obtain ⟨⟨t1, t2⟩, t3⟩ := hK2; refine ⟨?_, t2⟩; rw [show 2 * (y + 1) - 2 = 2 * y by omega]; (have e3 : s0 = 3 := by omega); subst e3; rcases t1 with ⟨e, _⟩ | ⟨e, _⟩ | ⟨_, e⟩; omega; omega; exact e)
                    ·
                      have pw := sp_tJ_b hK2 (by omega) (by omega)
                      refine kb_aload_n X 0 rfl dX6_turn_97 ?_
                      refine kb_iload_n X 1 rfl dX6_turn_98 ?_
                      refine kb_iload_n X 2 rfl dX6_turn_99 ?_
                      refine kb_iload X 8 rfl dX6_turn_100 ?_
                      refine kb_iload X 7 rfl dX6_turn_102 ?_
                      refine kb_imul X dX6_turn_104 ?_
                      refine kb_cVi X (rest := []) [kb_i lk, kb_i o0, kb_i (s0 * y)] 0 (fl := [some 1, some 2, some 3, some 4, some 5, some 6]) (C := RX6) rfl rfl (c_X6_likeness l D ad cy (sp_aim M x z) lk o0 (s0 * y) (show 0 ≤ M 1 5 ∧ M 1 5 ≤ 16 from (by first | omega | assumption | exact ⟨by omega, by omega⟩)) (show 0 ≤ M 3 2 ∧ M 3 2 < 6 from (by first | omega | assumption | exact ⟨by omega, by omega⟩)) (by first | omega | assumption | exact ⟨by omega, by omega⟩) (by first | omega | assumption | exact ⟨by omega, by omega⟩) (by exact ⟨by omega, by omega⟩) (fun i => by have := sp_ad_b (i := i) hIP (x := x) (z := z) (by omega) (by omega); omega) (by exact hsb)) gX6_turn_X6_likeness rfl ⟨rfl, hy_X6_likeness⟩ ⟨by decide, by decide⟩ rfl (Nat.le_of_ble_eq_true rfl) ⟨by decide, by decide⟩ dX6_turn_105 rfl ?_
                      have fs := fb (s0 * y)
                      refine kb_istore (lv' := [(9, kb_i (sp_lkn (sp_aim M x z) lk o0 (s0 * y))), (0, .ref (ad 0)), (1, kb_i lk), (2, kb_i o0), (3, kb_i x), (4, kb_i z), (5, kb_i b2), (6, kb_i g2), (7, kb_i y), (8, kb_i s0)]) X dX6_turn_108 (by decide) rfl ?_
                      have fb2 := fb b2
                      have eg2 := hK2.1.2
                      refine kb_iload X 0 rfl dX6_turn_110 ?_
                      refine kb_iload X 7 rfl dX6_turn_112 ?_
                      refine kb_icmp_le (tgt := 128) X ⟨by omega, by omega⟩ ⟨by omega, by omega⟩ dX6_turn_114 (by decide) (fun h10 => ?_) (fun h10 => ?_)
                      ·
                        refine kb_iinc (lv' := [(8, kb_i (s0 + 2)), (9, kb_i (sp_lkn (sp_aim M x z) lk o0 (s0 * y))), (0, .ref (ad 0)), (1, kb_i lk), (2, kb_i o0), (3, kb_i x), (4, kb_i z), (5, kb_i b2), (6, kb_i g2), (7, kb_i y)]) X 9 rfl dX6_turn_128 rfl (by decide) rfl ?_
                        refine kb_goto (tgt := 91) X dX6_turn_131 (by decide) ?_
                        refine kb_sub [2, 3, 4, 5, 6, 7, 8, 9, 0] (lv' := [(0, .ref (ad 0)), (1, kb_i lk), (2, kb_i o0), (3, kb_i x), (4, kb_i z), (5, kb_i b2), (6, kb_i g2), (7, kb_i y), (8, kb_i (s0 + 2))]) rfl ?_
                        exact ih8 b2 g2 (s0 + 2) (by omega) (by first | omega | assumption | exact ⟨by omega, by omega⟩) (by subst_vars; refine sp_tJ_S hK2 (by omega) (by omega) ?_; first | (left; exact ⟨by omega, rfl, rfl⟩) | (right; exact ⟨by omega, rfl, rfl⟩))
                      ·
                        refine kb_iload X 0 rfl dX6_turn_117 ?_
                        refine kb_nmi (fun x6_11 ex6_11 => ?_)
                        refine kb_istore (lv' := [(6, kb_i x6_11), (9, kb_i (sp_lkn (sp_aim M x z) lk o0 (s0 * y))), (0, .ref (ad 0)), (1, kb_i lk), (2, kb_i o0), (3, kb_i x), (4, kb_i z), (5, kb_i b2), (7, kb_i y), (8, kb_i s0)]) X dX6_turn_119 (by decide) rfl ?_
                        refine kb_iload X 9 rfl dX6_turn_121 ?_
                        refine kb_iload X 8 rfl dX6_turn_123 ?_
                        refine kb_imul X dX6_turn_125 ?_
                        refine kb_nmi (fun x5_12 ex5_12 => ?_)
                        refine kb_istore (lv' := [(5, kb_i x5_12), (6, kb_i x6_11), (9, kb_i (sp_lkn (sp_aim M x z) lk o0 (s0 * y))), (0, .ref (ad 0)), (1, kb_i lk), (2, kb_i o0), (3, kb_i x), (4, kb_i z), (7, kb_i y), (8, kb_i s0)]) X dX6_turn_126 (by decide) rfl ?_
                        refine kb_iinc (lv' := [(8, kb_i (s0 + 2)), (5, kb_i x5_12), (6, kb_i x6_11), (9, kb_i (sp_lkn (sp_aim M x z) lk o0 (s0 * y))), (0, .ref (ad 0)), (1, kb_i lk), (2, kb_i o0), (3, kb_i x), (4, kb_i z), (7, kb_i y)]) X 9 rfl dX6_turn_128 rfl (by decide) rfl ?_
                        refine kb_goto (tgt := 91) X dX6_turn_131 (by decide) ?_
                        refine kb_sub [4, 5, 6, 7, 8, 1, 2, 9, 0] (lv' := [(0, .ref (ad 0)), (1, kb_i lk), (2, kb_i o0), (3, kb_i x), (4, kb_i z), (5, kb_i x5_12), (6, kb_i x6_11), (7, kb_i y), (8, kb_i (s0 + 2))]) rfl ?_
                        exact ih8 x5_12 x6_11 (s0 + 2) (by omega) (by first | omega | assumption | exact ⟨by omega, by omega⟩) (by subst_vars; refine sp_tJ_S hK2 (by omega) (by omega) ?_; first | (left; exact ⟨by omega, rfl, rfl⟩) | (right; exact ⟨by omega, rfl, rfl⟩))
                refine kb_sub [1, 2, 3, 4, 5, 6, 7, 8, 0] (lv' := [(0, .ref (ad 0)), (1, kb_i lk), (2, kb_i o0), (3, kb_i x), (4, kb_i z), (5, kb_i b), (6, kb_i gr), (7, kb_i y), (8, kb_i ((-1)))]) rfl ?_
                exact L91 _ b gr ((-1)) (Nat.lt_succ_self _) (by first | omega | assumption | exact ⟨by omega, by omega⟩) (by exact ⟨⟨Or.inl ⟨by omega, hJ.1⟩, hJ.2⟩, Or.inl rfl⟩)
          refine kb_sub [3, 4, 5, 6, 7, 2, 1, 0] (lv' := [(0, .ref (ad 0)), (1, kb_i lk), (2, kb_i o0), (3, kb_i x), (4, kb_i z), (5, kb_i 0), (6, kb_i x6_5), (7, kb_i 1)]) rfl ?_
          exact L81 _ (0 : Int) x6_5 (1 : Int) (Nat.lt_succ_self _) (by first | omega | assumption | exact ⟨by omega, by omega⟩) (by refine ⟨rfl, ?_⟩; assumption)
        ·
          refine kb_bipush X (by decide) dX6_turn_53 ?_
          exact kb_iret X hr hlocks dX6_turn_55 (by unfold sp_turnR; repeat (first | rw [if_pos (by omega)] | rw [if_neg (by omega)])) (by unfold sp_turnM; rw [if_neg (by omega)])
      ·
        refine kb_bipush X (by decide) dX6_turn_31 ?_
        exact kb_iret X hr hlocks dX6_turn_33 (by unfold sp_turnR; repeat (first | rw [if_pos (by omega)] | rw [if_neg (by omega)])) (by unfold sp_turnM; rw [if_neg (by omega)])
-- X6_fan
theorem hf_X6_fan_26 : Cond.fieldLink yX6_fan.cls 26 RX6 "heard" "LSoundBoard$Looks;" ∈ wsX6_fan := by decide +kernel
theorem hf_X6_fan_40 : Cond.fieldLink yX6_fan.cls 40 RX6 "laid" "LSoundBoard$Fan;" ∈ wsX6_fan := by decide +kernel
theorem hi_X6_fan_X6 : ∀ w ∈ wsX60, w ∈ wsX6_fan := by decide +kernel
theorem hy_X6_fan : yX6_fan.cls ≠ "java/lang/invoke/MethodHandle" ∧ yX6_fan.cls ≠ "java/lang/invoke/VarHandle" ∧ (parseMethodDescriptor yX6_fan.desc).map (fun d => d.parameters.length) = some 4 := by decide +kernel
set_option maxHeartbeats 4000000 in
set_option maxRecDepth 100000 in
theorem c_X6_fan (l : Launch) (D : va_G) (ad : Nat → Nat) (cy : Nat → ClassId) (M : kb_M) (lk : Int) (n : Int) (k0 : Int) (r0 : Int) (hlk : -2147483648 ≤ lk ∧ lk < 2147483648) (hn : -2147483648 ≤ n ∧ n < 2147483648) (hk0 : -2147483648 ≤ k0 ∧ k0 < 2147483648) (hr0 : -2147483648 ≤ r0 ∧ r0 < 2147483648) (hIP : sp_IP M) (hIL : sp_IL M) : kb_Ci l D ad cy yX6_fan wsX6_fan 6 141 [.ref (ad 0), kb_i lk, kb_i n, kb_i k0, kb_i r0] M (sp_fanR M lk n k0 r0) (sp_fanM M lk n k0 r0) := by
  refine kb_mkCi (cc := cX6_fan) (maxL := 7) (lv := [(0, .ref (ad 0)), (1, kb_i lk), (2, kb_i n), (3, kb_i k0), (4, kb_i r0)]) (plainFor_of_name (by decide)) rfl (Nat.le_of_ble_eq_true rfl) rfl ?_
  intro p e s m args below meth c X hr hlocks hM
  obtain ⟨hxs, hn, ha, hP, hT, hf⟩ := id hIP
  obtain ⟨ho, hs, hsb⟩ := id hIL
  refine kb_aload_n X 0 rfl dX6_fan_0 ?_
  refine kg_X6_heard X hi_X6_fan_X6 hf_X6_fan_26 dX6_fan_1 ?_
  refine kb_iload_n X 1 rfl dX6_fan_4 ?_
  refine kb_cVi X (rest := []) [kb_i lk] 3 (fl := [some 16, some 17, none, none, none]) (C := RX1) rfl rfl (c_X1_has l D ad cy M lk (by first | omega | assumption | exact ⟨by omega, by omega⟩)) gX6_fan_X1_has rfl ⟨rfl, hy_X1_has⟩ ⟨by decide, by decide⟩ rfl (Nat.le_of_ble_eq_true rfl) ⟨by decide, by decide⟩ dX6_fan_5 rfl ?_
  refine kb_ifb_eq (tgt := 43) X dX6_fan_8 (by decide) (fun h1 => ?_) (fun h1 => ?_)
  ·
    refine kb_bipush X (by decide) dX6_fan_43 ?_
    exact kb_iret X hr hlocks dX6_fan_45 (by unfold sp_fanR; repeat (first | rw [if_pos (by omega)] | rw [if_neg (by omega)])) (by unfold sp_fanM; rw [if_neg (by omega)])
  ·
    refine kb_iload_n X 2 rfl dX6_fan_11 ?_
    refine kb_iconst X dX6_fan_12 ?_
    refine kb_bipush X (by decide) dX6_fan_13 ?_
    refine kb_cSi X (rest := []) [kb_i n, kb_i 2, kb_i 9] (c_X6_within l D ad cy M n 2 9 (by first | omega | assumption | exact ⟨by omega, by omega⟩) (by first | omega | assumption | exact ⟨by omega, by omega⟩) (by first | omega | assumption | exact ⟨by omega, by omega⟩)) gX6_fan_X6_within rfl hy_X6_within ⟨by decide, by decide⟩ rfl (Nat.le_of_ble_eq_true rfl) ⟨by decide, by decide⟩ dX6_fan_15 rfl ?_
    refine kb_ifb_eq (tgt := 43) X dX6_fan_18 (by decide) (fun h2 => ?_) (fun h2 => ?_)
    ·
      refine kb_bipush X (by decide) dX6_fan_43 ?_
      exact kb_iret X hr hlocks dX6_fan_45 (by unfold sp_fanR; repeat (first | rw [if_pos (by omega)] | rw [if_neg (by omega)])) (by unfold sp_fanM; rw [if_neg (by omega)])
    ·
      refine kb_iload_n X 3 rfl dX6_fan_21 ?_
      refine kb_iconst X dX6_fan_22 ?_
      refine kb_bipush X (by decide) dX6_fan_23 ?_
      refine kb_cSi X (rest := []) [kb_i k0, kb_i 2, kb_i 16] (c_X6_within l D ad cy M k0 2 16 (by first | omega | assumption | exact ⟨by omega, by omega⟩) (by first | omega | assumption | exact ⟨by omega, by omega⟩) (by first | omega | assumption | exact ⟨by omega, by omega⟩)) gX6_fan_X6_within rfl hy_X6_within ⟨by decide, by decide⟩ rfl (Nat.le_of_ble_eq_true rfl) ⟨by decide, by decide⟩ dX6_fan_25 rfl ?_
      refine kb_ifb_eq (tgt := 43) X dX6_fan_28 (by decide) (fun h3 => ?_) (fun h3 => ?_)
      ·
        refine kb_bipush X (by decide) dX6_fan_43 ?_
        exact kb_iret X hr hlocks dX6_fan_45 (by unfold sp_fanR; repeat (first | rw [if_pos (by omega)] | rw [if_neg (by omega)])) (by unfold sp_fanM; rw [if_neg (by omega)])
      ·
        refine kb_iload X 4 rfl dX6_fan_31 ?_
        refine kb_iconst X dX6_fan_33 ?_
        refine kb_sipush X (by decide) dX6_fan_34 ?_
        refine kb_cSi X (rest := []) [kb_i r0, kb_i 1, kb_i 250] (c_X6_within l D ad cy M r0 1 250 (by first | omega | assumption | exact ⟨by omega, by omega⟩) (by first | omega | assumption | exact ⟨by omega, by omega⟩) (by first | omega | assumption | exact ⟨by omega, by omega⟩)) gX6_fan_X6_within rfl hy_X6_within ⟨by decide, by decide⟩ rfl (Nat.le_of_ble_eq_true rfl) ⟨by decide, by decide⟩ dX6_fan_37 rfl ?_
        refine kb_ifb_ne (tgt := 46) X dX6_fan_40 (by decide) (fun h4 => ?_) (fun h4 => ?_)
        ·
          refine kb_aload_n X 0 rfl dX6_fan_46 ?_
          refine kg_X6_laid X hi_X6_fan_X6 hf_X6_fan_40 dX6_fan_47 ?_
          refine kb_iload_n X 2 rfl dX6_fan_50 ?_
          refine kb_iload_n X 3 rfl dX6_fan_51 ?_
          refine kb_iload X 4 rfl dX6_fan_52 ?_
          refine kb_cVv X (rest := []) [kb_i n, kb_i k0, kb_i r0] 5 (fl := [some 21, none, none, none]) (C := RX0) rfl rfl (c_X0_begin l D ad cy M n k0 r0 (by first | omega | assumption | exact ⟨by omega, by omega⟩) (by first | omega | assumption | exact ⟨by omega, by omega⟩) (by first | omega | assumption | exact ⟨by omega, by omega⟩)) gX6_fan_X0_begin rfl ⟨rfl, hy_X0_begin⟩ ⟨by decide, by decide⟩ rfl (Nat.le_of_ble_eq_true rfl) ⟨by decide, by decide⟩ dX6_fan_54 rfl ?_
          refine kb_iconst X dX6_fan_57 ?_
          refine kb_istore (lv' := [(5, kb_i 0), (0, .ref (ad 0)), (1, kb_i lk), (2, kb_i n), (3, kb_i k0), (4, kb_i r0)]) X dX6_fan_58 (by decide) rfl ?_
          have L60 : ∀ nn_ : Nat, ∀ (a : Int), (9 - a).toNat < nn_ → (0 ≤ a ∧ a ≤ n) → kb_B p l e ({ frames := 6, cells := 0, slots := 0, locals := 141 } : Room) s m args below meth c D ad cy (kb_A ad s.heap.size) 7 0 0 (MQ below (va_Qi (fun (vq_ : Int32) (_ : Unit) => vq_ = kb_J (sp_fanR M lk n k0 r0)) (fun _ t => kb_en2 D ad cy (sp_fanM M lk n k0 r0) t) (kb_A ad s.heap.size)) args s 0 0 (kb_A ad s.heap.size)) 60 [(0, .ref (ad 0)), (1, kb_i lk), (2, kb_i n), (3, kb_i k0), (4, kb_i r0), (5, kb_i a)] [] ((sp_fn (sp_fb0 M n k0 r0) lk k0 r0 (k0 * a).toNat)) := by
            intro nn_
            induction nn_ with
            | zero => intro a hn; exact absurd hn (Nat.not_lt_zero _)
            | succ nn_ ih5 =>
              intro a hn hI
              refine kb_iload X 5 rfl dX6_fan_60 ?_
              refine kb_iload_n X 2 rfl dX6_fan_62 ?_
              refine kb_icmp_ge (tgt := 121) X ⟨by omega, by omega⟩ ⟨by omega, by omega⟩ dX6_fan_63 (by decide) (fun h6 => ?_) (fun h6 => ?_)
              ·
                refine kb_iconst X dX6_fan_121 ?_
                exact kb_iret X hr hlocks dX6_fan_122 (by unfold sp_fanR; repeat (first | rw [if_pos (by omega)] | rw [if_neg (by omega)])) (by (have e : a = n := by omega); unfold sp_fanM; rw [if_pos (by omega), e])
              ·
                refine kb_iconst X dX6_fan_66 ?_
                refine kb_istore (lv' := [(6, kb_i 0), (0, .ref (ad 0)), (1, kb_i lk), (2, kb_i n), (3, kb_i k0), (4, kb_i r0), (5, kb_i a)]) X dX6_fan_67 (by decide) rfl ?_
                have L69 : ∀ nn_ : Nat, ∀ (k : Int), (16 - k).toNat < nn_ → (0 ≤ k ∧ k ≤ k0) → kb_B p l e ({ frames := 6, cells := 0, slots := 0, locals := 141 } : Room) s m args below meth c D ad cy (kb_A ad s.heap.size) 7 0 0 (MQ below (va_Qi (fun (vq_ : Int32) (_ : Unit) => vq_ = kb_J (sp_fanR M lk n k0 r0)) (fun _ t => kb_en2 D ad cy (sp_fanM M lk n k0 r0) t) (kb_A ad s.heap.size)) args s 0 0 (kb_A ad s.heap.size)) 69 [(0, .ref (ad 0)), (1, kb_i lk), (2, kb_i n), (3, kb_i k0), (4, kb_i r0), (5, kb_i a), (6, kb_i k)] [] ((sp_fn (sp_fb0 M n k0 r0) lk k0 r0 (k0 * a + k).toNat)) := by
                  intro nn_
                  induction nn_ with
                  | zero => intro k hn; exact absurd hn (Nat.not_lt_zero _)
                  | succ nn_ ih7 =>
                    intro k hn hK
                    refine kb_iload X 6 rfl dX6_fan_69 ?_
                    refine kb_iload_n X 3 rfl dX6_fan_71 ?_
                    refine kb_icmp_ge (tgt := 115) X ⟨by omega, by omega⟩ ⟨by omega, by omega⟩ dX6_fan_72 (by decide) (fun h8 => ?_) (fun h8 => ?_)
                    ·
                      refine kb_iinc (lv' := [(5, kb_i (a + 1)), (0, .ref (ad 0)), (1, kb_i lk), (2, kb_i n), (3, kb_i k0), (4, kb_i r0), (6, kb_i k)]) X 5 rfl dX6_fan_115 rfl (by decide) rfl ?_
                      refine kb_goto (tgt := 60) X dX6_fan_118 (by decide) ?_
                      refine kb_sub [1, 2, 3, 4, 5, 0] (lv' := [(0, .ref (ad 0)), (1, kb_i lk), (2, kb_i n), (3, kb_i k0), (4, kb_i r0), (5, kb_i (a + 1))]) rfl ?_
                      refine kb_eqM (M' := sp_fn (sp_fb0 M n k0 r0) lk k0 r0 (k0 * (a + 1)).toNat) (by rw [show k0 * (a + 1) = k0 * a + k by rw [Int.mul_add]; omega]) ?_
                      exact ih5 (a + 1) (by omega) (by first | omega | assumption | exact ⟨by omega, by omega⟩)
                    ·
                      have m1 := sp_mulb (a := k) (b := r0) (A := 15) (B := 250) (by omega) (by omega) (by omega) (by omega)
                      have hIP1 : sp_IP ((sp_fn (sp_fb0 M n k0 r0) lk k0 r0 (k0 * a + k).toNat)) := sp_fn_IP _ hIP
                      have hIL1 : sp_IL ((sp_fn (sp_fb0 M n k0 r0) lk k0 r0 (k0 * a + k).toNat)) := sp_fn_IL _ hIL
                      have e51 : ((sp_fn (sp_fb0 M n k0 r0) lk k0 r0 (k0 * a + k).toNat)) 5 1 = n := by rw [sp_fn_q _ _ _ _ _ (by decide)]; rfl
                      have e52 : ((sp_fn (sp_fb0 M n k0 r0) lk k0 r0 (k0 * a + k).toNat)) 5 2 = k0 := by rw [sp_fn_q _ _ _ _ _ (by decide)]; rfl
                      have e53 : ((sp_fn (sp_fb0 M n k0 r0) lk k0 r0 (k0 * a + k).toNat)) 5 3 = r0 := by rw [sp_fn_q _ _ _ _ _ (by decide)]; rfl
                      have jb := sp_jm_b hIP1 hIL1.2.2 (2 ^ lk.toNat) (sp_xo ((sp_fn (sp_fb0 M n k0 r0) lk k0 r0 (k0 * a + k).toNat)) a k) (k * r0)
                      have xob := sp_xo_b ((sp_fn (sp_fb0 M n k0 r0) lk k0 r0 (k0 * a + k).toNat)) (a := a) (k := k) (by omega) (by omega) (by omega) (by omega)
                      have pb := sp_pow_b (k := lk) (by omega)
                      refine kb_aload_n X 0 rfl dX6_fan_75 ?_
                      refine kg_X6_laid X hi_X6_fan_X6 hf_X6_fan_40 dX6_fan_76 ?_
                      refine kb_iload X 5 rfl dX6_fan_79 ?_
                      refine kb_iload X 6 rfl dX6_fan_81 ?_
                      refine kb_aload_n X 0 rfl dX6_fan_83 ?_
                      refine kb_iconst X dX6_fan_84 ?_
                      refine kb_iload_n X 1 rfl dX6_fan_85 ?_
                      refine kb_ishl1 X (by omega) (by omega) dX6_fan_86 ?_
                      refine kb_aload_n X 0 rfl dX6_fan_87 ?_
                      refine kg_X6_laid X hi_X6_fan_X6 hf_X6_fan_40 dX6_fan_88 ?_
                      refine kb_iload X 5 rfl dX6_fan_91 ?_
                      refine kb_iload X 6 rfl dX6_fan_93 ?_
                      refine kb_cVi X (rest := [kb_i (2 ^ lk.toNat), .ref (ad 0), kb_i k, kb_i a, .ref (ad 5)]) [kb_i a, kb_i k] 5 (fl := [some 21, none, none, none]) (C := RX0) rfl rfl (c_X0_xOf l D ad cy ((sp_fn (sp_fb0 M n k0 r0) lk k0 r0 (k0 * a + k).toNat)) a k (by omega) (by omega) (by first | omega | assumption | exact ⟨by omega, by omega⟩) (by first | omega | assumption | exact ⟨by omega, by omega⟩)) gX6_fan_X0_xOf rfl ⟨rfl, hy_X0_xOf⟩ ⟨by decide, by decide⟩ rfl (Nat.le_of_ble_eq_true rfl) ⟨by decide, by decide⟩ dX6_fan_95 rfl ?_
                      refine kb_iload X 6 rfl dX6_fan_98 ?_
                      refine kb_iload X 4 rfl dX6_fan_100 ?_
                      refine kb_imul X dX6_fan_102 ?_
                      refine kb_cVi X (rest := [kb_i k, kb_i a, .ref (ad 5)]) [kb_i (2 ^ lk.toNat), kb_i (sp_xo ((sp_fn (sp_fb0 M n k0 r0) lk k0 r0 (k0 * a + k).toNat)) a k), kb_i (k * r0)] 0 (fl := [some 1, some 2, some 3, some 4, some 5, some 6]) (C := RX6) rfl rfl (c_X6_joinedMean l D ad cy ((sp_fn (sp_fb0 M n k0 r0) lk k0 r0 (k0 * a + k).toNat)) (2 ^ lk.toNat) (sp_xo ((sp_fn (sp_fb0 M n k0 r0) lk k0 r0 (k0 * a + k).toNat)) a k) (k * r0) (by first | omega | assumption | exact ⟨by omega, by omega⟩) (by first | omega | assumption | exact ⟨by omega, by omega⟩) (by first | omega | assumption | exact ⟨by omega, by omega⟩) (by exact hIP1) (by exact hIL1)) gX6_fan_X6_joinedMean rfl ⟨rfl, hy_X6_joinedMean⟩ ⟨by decide, by decide⟩ rfl (Nat.le_of_ble_eq_true rfl) ⟨by decide, by decide⟩ dX6_fan_103 rfl ?_
                      refine kb_cVv X (rest := []) [kb_i a, kb_i k, kb_i (sp_jm ((sp_fn (sp_fb0 M n k0 r0) lk k0 r0 (k0 * a + k).toNat)) (2 ^ lk.toNat) (sp_xo ((sp_fn (sp_fb0 M n k0 r0) lk k0 r0 (k0 * a + k).toNat)) a k) (k * r0))] 5 (fl := [some 21, none, none, none]) (C := RX0) rfl rfl (c_X0_set l D ad cy (sp_jmM ((sp_fn (sp_fb0 M n k0 r0) lk k0 r0 (k0 * a + k).toNat)) (sp_xo ((sp_fn (sp_fb0 M n k0 r0) lk k0 r0 (k0 * a + k).toNat)) a k) (k * r0)) a k (sp_jm ((sp_fn (sp_fb0 M n k0 r0) lk k0 r0 (k0 * a + k).toNat)) (2 ^ lk.toNat) (sp_xo ((sp_fn (sp_fb0 M n k0 r0) lk k0 r0 (k0 * a + k).toNat)) a k) (k * r0)) (by rw [sp_jmM_q _ _ _ (by decide), e51, e52]; omega) (by first | omega | assumption | exact ⟨by omega, by omega⟩)) gX6_fan_X0_set rfl ⟨rfl, hy_X0_set⟩ ⟨by decide, by decide⟩ rfl (Nat.le_of_ble_eq_true rfl) ⟨by decide, by decide⟩ dX6_fan_106 rfl ?_
                      refine kb_iinc (lv' := [(6, kb_i (k + 1)), (0, .ref (ad 0)), (1, kb_i lk), (2, kb_i n), (3, kb_i k0), (4, kb_i r0), (5, kb_i a)]) X 6 rfl dX6_fan_109 rfl (by decide) rfl ?_
                      refine kb_goto (tgt := 69) X dX6_fan_112 (by decide) ?_
                      refine kb_sub [1, 2, 3, 4, 5, 6, 0] (lv' := [(0, .ref (ad 0)), (1, kb_i lk), (2, kb_i n), (3, kb_i k0), (4, kb_i r0), (5, kb_i a), (6, kb_i (k + 1))]) rfl ?_
                      refine kb_eqM (M' := sp_fn (sp_fb0 M n k0 r0) lk k0 r0 (k0 * a + (k + 1)).toNat) ((sp_fnS _ _ _ _ _ _ (by omega) hI.1).symm) ?_
                      exact ih7 (k + 1) (by omega) (by first | omega | assumption | exact ⟨by omega, by omega⟩)
                refine kb_sub [1, 2, 3, 4, 5, 6, 0] (lv' := [(0, .ref (ad 0)), (1, kb_i lk), (2, kb_i n), (3, kb_i k0), (4, kb_i r0), (5, kb_i a), (6, kb_i 0)]) rfl ?_
                refine kb_eqM (M' := sp_fn (sp_fb0 M n k0 r0) lk k0 r0 (k0 * a + (0 : Int)).toNat) (by rw [Int.add_zero]) ?_
                exact L69 _ (0 : Int) (Nat.lt_succ_self _) (by first | omega | assumption | exact ⟨by omega, by omega⟩)
          refine kb_sub [1, 2, 3, 4, 5, 0] (lv' := [(0, .ref (ad 0)), (1, kb_i lk), (2, kb_i n), (3, kb_i k0), (4, kb_i r0), (5, kb_i 0)]) rfl ?_
          refine kb_eqM (M' := sp_fn (sp_fb0 M n k0 r0) lk k0 r0 (k0 * (0 : Int)).toNat) (by rw [Int.mul_zero]; rfl) ?_
          exact L60 _ (0 : Int) (Nat.lt_succ_self _) (by first | omega | assumption | exact ⟨by omega, by omega⟩)
        ·
          refine kb_bipush X (by decide) dX6_fan_43 ?_
          exact kb_iret X hr hlocks dX6_fan_45 (by unfold sp_fanR; repeat (first | rw [if_pos (by omega)] | rw [if_neg (by omega)])) (by unfold sp_fanM; rw [if_neg (by omega)])
-- X6_digest
theorem hf_X6_digest_10 : Cond.fieldLink yX6_digest.cls 10 RX6 "elements" "LSoundBoard$Probe;" ∈ wsX6_digest := by decide +kernel
theorem hf_X6_digest_19 : Cond.fieldLink yX6_digest.cls 19 RX6 "scene" "LSoundBoard$Scene;" ∈ wsX6_digest := by decide +kernel
theorem hf_X6_digest_26 : Cond.fieldLink yX6_digest.cls 26 RX6 "heard" "LSoundBoard$Looks;" ∈ wsX6_digest := by decide +kernel
theorem hf_X6_digest_33 : Cond.fieldLink yX6_digest.cls 33 RX6 "ring" "LSoundBoard$Ring;" ∈ wsX6_digest := by decide +kernel
theorem hf_X6_digest_67 : Cond.fieldLink yX6_digest.cls 67 RX1 "size" "I" ∈ wsX6_digest := by decide +kernel
theorem hf_X6_digest_98 : Cond.fieldLink yX6_digest.cls 98 RX5 "size" "I" ∈ wsX6_digest := by decide +kernel
theorem hf_X6_digest_137 : Cond.fieldLink yX6_digest.cls 137 RX3 "size" "I" ∈ wsX6_digest := by decide +kernel
theorem hi_X6_digest_X1 : ∀ w ∈ wsX10, w ∈ wsX6_digest := by decide +kernel
theorem hi_X6_digest_X3 : ∀ w ∈ wsX30, w ∈ wsX6_digest := by decide +kernel
theorem hi_X6_digest_X5 : ∀ w ∈ wsX50, w ∈ wsX6_digest := by decide +kernel
theorem hi_X6_digest_X6 : ∀ w ∈ wsX60, w ∈ wsX6_digest := by decide +kernel
theorem hy_X6_digest : yX6_digest.cls ≠ "java/lang/invoke/MethodHandle" ∧ yX6_digest.cls ≠ "java/lang/invoke/VarHandle" ∧ (parseMethodDescriptor yX6_digest.desc).map (fun d => d.parameters.length) = some 0 := by decide +kernel
set_option maxHeartbeats 4000000 in
set_option maxRecDepth 100000 in
theorem c_X6_digest (l : Launch) (D : va_G) (ad : Nat → Nat) (cy : Nat → ClassId) (M : kb_M)  (hIP : sp_IP M) (hIL : sp_IL M) (hIR : sp_IR M) (hsc : sp_sc M) : kb_Cl l D ad cy yX6_digest wsX6_digest 4 92 [.ref (ad 0)] M (sp_dig M) (M) := by
  refine kb_mkCl (cc := cX6_digest) (maxL := 5) (lv := [(0, .ref (ad 0))]) (plainFor_of_name (by decide)) rfl (Nat.le_of_ble_eq_true rfl) rfl ?_
  intro p e s m args below meth c X hr hlocks hM
  obtain ⟨hxs, hn, ha, hP, hT, hf⟩ := id hIP
  obtain ⟨ho, hs, hsb⟩ := id hIL
  obtain ⟨hro, hrs, hwh⟩ := id hIR
  have hn2 := hsc.1
  refine kb_ldc2 (v := 131) X (131) (by decide +kernel) (by decide) dX6_digest_0 ?_
  refine kb_lstore_n (lv' := [(1, kb_l (131)), (0, .ref (ad 0))]) X dX6_digest_3 (by decide) rfl ?_
  refine kb_iconst X dX6_digest_4 ?_
  refine kb_istore_n (lv' := [(3, kb_i 0), (1, kb_l (131)), (0, .ref (ad 0))]) X dX6_digest_5 (by decide) rfl ?_
  have L6 : ∀ nn_ : Nat, ∀ (u k : Int), (7 - k).toNat < nn_ → (0 ≤ k ∧ k ≤ 7) → (u = sp_hs (sp_countR M) 131 k.toNat) → kb_B p l e ({ frames := 4, cells := 0, slots := 0, locals := 92 } : Room) s m args below meth c D ad cy (kb_A ad s.heap.size) 5 0 0 (MQ below (va_Ql (fun (vq_ : Int64) (_ : Unit) => vq_ = kb_L (sp_dig M)) (fun _ t => kb_en2 D ad cy (M) t) (kb_A ad s.heap.size)) args s 0 0 (kb_A ad s.heap.size)) 6 [(0, .ref (ad 0)), (1, kb_l (u)), (3, kb_i k)] [] M := by
    intro nn_
    induction nn_ with
    | zero => intro u k hn; exact absurd hn (Nat.not_lt_zero _)
    | succ nn_ ih1 =>
      intro u k hn hI hJ
      refine kb_iload_n X 2 rfl dX6_digest_6 ?_
      refine kb_bipush X (by decide) dX6_digest_7 ?_
      refine kb_icmp_gt (tgt := 31) X ⟨by omega, by omega⟩ ⟨by decide, by decide⟩ dX6_digest_9 (by decide) (fun h2 => ?_) (fun h2 => ?_)
      ·
        refine kb_iconst X dX6_digest_31 ?_
        refine kb_istore_n (lv' := [(3, kb_i 0), (0, .ref (ad 0)), (1, kb_l (u))]) X dX6_digest_32 (by decide) rfl ?_
        have L33 : ∀ nn_ : Nat, ∀ (u2 k2 : Int), (8 - k2).toNat < nn_ → (0 ≤ k2 ∧ k2 ≤ M 2 5) → (u2 = sp_hq M (sp_hs (sp_countR M) 131 7) k2.toNat) → kb_B p l e ({ frames := 4, cells := 0, slots := 0, locals := 92 } : Room) s m args below meth c D ad cy (kb_A ad s.heap.size) 5 0 0 (MQ below (va_Ql (fun (vq_ : Int64) (_ : Unit) => vq_ = kb_L (sp_dig M)) (fun _ t => kb_en2 D ad cy (M) t) (kb_A ad s.heap.size)) args s 0 0 (kb_A ad s.heap.size)) 33 [(0, .ref (ad 0)), (1, kb_l (u2)), (3, kb_i k2)] [] M := by
          intro nn_
          induction nn_ with
          | zero => intro u2 k2 hn; exact absurd hn (Nat.not_lt_zero _)
          | succ nn_ ih3 =>
            intro u2 k2 hn hI2 hJ2
            refine kb_iload_n X 2 rfl dX6_digest_33 ?_
            refine kb_aload_n X 0 rfl dX6_digest_34 ?_
            refine kg_X6_scene X hi_X6_digest_X6 hf_X6_digest_19 dX6_digest_35 ?_
            refine kg_X5_size X hi_X6_digest_X5 hf_X6_digest_98 dX6_digest_38 ?_
            have g4 : -2147483648 ≤ M 2 5 ∧ M 2 5 < 2147483648 := hM 2 5
            refine kb_icmp_ge (tgt := 78) X ⟨by omega, by omega⟩ ⟨by omega, by omega⟩ dX6_digest_41 (by decide) (fun h5 => ?_) (fun h5 => ?_)
            ·
              refine kb_iconst X dX6_digest_78 ?_
              refine kb_istore_n (lv' := [(3, kb_i 0), (0, .ref (ad 0)), (1, kb_l (u2))]) X dX6_digest_79 (by decide) rfl ?_
              have L80 : ∀ nn_ : Nat, ∀ (u3 k3 : Int), (6 - k3).toNat < nn_ → (0 ≤ k3 ∧ k3 ≤ M 3 3) → (u3 = sp_hl M (sp_hq M (sp_hs (sp_countR M) 131 7) (M 2 5).toNat) k3.toNat) → kb_B p l e ({ frames := 4, cells := 0, slots := 0, locals := 92 } : Room) s m args below meth c D ad cy (kb_A ad s.heap.size) 5 0 0 (MQ below (va_Ql (fun (vq_ : Int64) (_ : Unit) => vq_ = kb_L (sp_dig M)) (fun _ t => kb_en2 D ad cy (M) t) (kb_A ad s.heap.size)) args s 0 0 (kb_A ad s.heap.size)) 80 [(0, .ref (ad 0)), (1, kb_l (u3)), (3, kb_i k3)] [] M := by
                intro nn_
                induction nn_ with
                | zero => intro u3 k3 hn; exact absurd hn (Nat.not_lt_zero _)
                | succ nn_ ih6 =>
                  intro u3 k3 hn hI3 hJ3
                  refine kb_iload_n X 2 rfl dX6_digest_80 ?_
                  refine kb_aload_n X 0 rfl dX6_digest_81 ?_
                  refine kg_X6_heard X hi_X6_digest_X6 hf_X6_digest_26 dX6_digest_82 ?_
                  refine kg_X1_size X hi_X6_digest_X1 hf_X6_digest_67 dX6_digest_85 ?_
                  have g7 : -2147483648 ≤ M 3 3 ∧ M 3 3 < 2147483648 := hM 3 3
                  refine kb_icmp_ge (tgt := 151) X ⟨by omega, by omega⟩ ⟨by omega, by omega⟩ dX6_digest_88 (by decide) (fun h8 => ?_) (fun h8 => ?_)
                  ·
                    refine kb_aload_n X 0 rfl dX6_digest_151 ?_
                    refine kg_X6_ring X hi_X6_digest_X6 hf_X6_digest_33 dX6_digest_152 ?_
                    refine kb_lload_n X 1 rfl dX6_digest_155 ?_
                    refine kb_cVl X (rest := []) [kb_l (u3)] 4 (fl := [some 18, some 19, some 20, none, none]) (C := RX4) rfl rfl (c_X4_digestOn l D ad cy M u3 (by first | omega | assumption | exact ⟨by omega, by omega⟩) (by first | omega | assumption | exact ⟨by omega, by omega⟩) (by exact hwh)) gX6_digest_X4_digestOn rfl ⟨rfl, hy_X4_digestOn⟩ ⟨by decide, by decide⟩ rfl (Nat.le_of_ble_eq_true rfl) ⟨by decide, by decide⟩ dX6_digest_156 rfl ?_
                    have e3 : k3 = M 3 3 := by omega
                    exact kb_lret X hr hlocks dX6_digest_159 (by rw [hJ3, e3]; rfl) (by first | rfl | (exfalso; omega))
                  ·
                    refine kb_ldc2 (v := 31) X (31) (by decide +kernel) (by decide) dX6_digest_91 ?_
                    refine kb_lload_n X 1 rfl dX6_digest_94 ?_
                    refine kb_lmul X dX6_digest_95 ?_
                    refine kb_aload_n X 0 rfl dX6_digest_96 ?_
                    refine kg_X6_heard X hi_X6_digest_X6 hf_X6_digest_26 dX6_digest_97 ?_
                    refine kb_iload_n X 2 rfl dX6_digest_100 ?_
                    refine kb_cVi X (rest := [kb_l (31 * u3)]) [kb_i k3] 3 (fl := [some 16, some 17, none, none, none]) (C := RX1) rfl rfl (c_X1_senderOf l D ad cy M k3 (by first | omega | assumption | exact ⟨by omega, by omega⟩) (by first | omega | assumption | exact ⟨by omega, by omega⟩)) gX6_digest_X1_senderOf rfl ⟨rfl, hy_X1_senderOf⟩ ⟨by decide, by decide⟩ rfl (Nat.le_of_ble_eq_true rfl) ⟨by decide, by decide⟩ dX6_digest_101 rfl ?_
                    have gs := hM 17 ((M 3 2 + k3) % 6)
                    unfold kb_rg at gs
                    refine kb_i2l X ⟨by omega, by omega⟩ dX6_digest_104 ?_
                    refine kb_ladd X dX6_digest_105 ?_
                    refine kb_nml (fun x1_9 ex1_9 => ?_)
                    refine kb_lstore_n (lv' := [(1, kb_l (x1_9)), (0, .ref (ad 0)), (3, kb_i k3)]) X dX6_digest_106 (by decide) rfl ?_
                    refine kb_iconst X dX6_digest_107 ?_
                    refine kb_istore (lv' := [(4, kb_i 0), (1, kb_l (x1_9)), (0, .ref (ad 0)), (3, kb_i k3)]) X dX6_digest_108 (by decide) rfl ?_
                    have L110 : ∀ nn_ : Nat, ∀ (u4 i4 : Int), (16 - i4).toNat < nn_ → (0 ≤ i4 ∧ i4 ≤ M 1 5) → (u4 = sp_hs (sp_rsm M k3) (31 * u3 + M 17 ((M 3 2 + k3) % 6)) i4.toNat) → kb_B p l e ({ frames := 4, cells := 0, slots := 0, locals := 92 } : Room) s m args below meth c D ad cy (kb_A ad s.heap.size) 5 0 0 (MQ below (va_Ql (fun (vq_ : Int64) (_ : Unit) => vq_ = kb_L (sp_dig M)) (fun _ t => kb_en2 D ad cy (M) t) (kb_A ad s.heap.size)) args s 0 0 (kb_A ad s.heap.size)) 110 [(0, .ref (ad 0)), (1, kb_l (u4)), (3, kb_i k3), (4, kb_i i4)] [] M := by
                      intro nn_
                      induction nn_ with
                      | zero => intro u4 i4 hn; exact absurd hn (Nat.not_lt_zero _)
                      | succ nn_ ih10 =>
                        intro u4 i4 hn hI4 hJ4
                        refine kb_iload X 3 rfl dX6_digest_110 ?_
                        refine kb_aload_n X 0 rfl dX6_digest_112 ?_
                        refine kg_X6_elements X hi_X6_digest_X6 hf_X6_digest_10 dX6_digest_113 ?_
                        refine kg_X3_size X hi_X6_digest_X3 hf_X6_digest_137 dX6_digest_116 ?_
                        have g11 : -2147483648 ≤ M 1 5 ∧ M 1 5 < 2147483648 := hM 1 5
                        refine kb_icmp_ge (tgt := 145) X ⟨by omega, by omega⟩ ⟨by omega, by omega⟩ dX6_digest_119 (by decide) (fun h12 => ?_) (fun h12 => ?_)
                        ·
                          refine kb_iinc (lv' := [(3, kb_i (k3 + 1)), (0, .ref (ad 0)), (1, kb_l (u4)), (4, kb_i i4)]) X 2 rfl dX6_digest_145 rfl (by decide) rfl ?_
                          refine kb_goto (tgt := 80) X dX6_digest_148 (by decide) ?_
                          refine kb_sub [1, 2, 0] (lv' := [(0, .ref (ad 0)), (1, kb_l (u4)), (3, kb_i (k3 + 1))]) rfl ?_
                          exact ih6 u4 (k3 + 1) (by omega) (by first | omega | assumption | exact ⟨by omega, by omega⟩) (by rw [sp_hlS _ _ hI3.1, ← hJ3, hJ4, show i4 = M 1 5 by omega])
                        ·
                          refine kb_ldc2 (v := 31) X (31) (by decide +kernel) (by decide) dX6_digest_122 ?_
                          refine kb_lload_n X 1 rfl dX6_digest_125 ?_
                          refine kb_lmul X dX6_digest_126 ?_
                          refine kb_aload_n X 0 rfl dX6_digest_127 ?_
                          refine kg_X6_heard X hi_X6_digest_X6 hf_X6_digest_26 dX6_digest_128 ?_
                          refine kb_iload_n X 2 rfl dX6_digest_131 ?_
                          refine kb_iload X 3 rfl dX6_digest_132 ?_
                          refine kb_cVl X (rest := [kb_l (31 * u4)]) [kb_i k3, kb_i i4] 3 (fl := [some 16, some 17, none, none, none]) (C := RX1) rfl rfl (c_X1_rowSum l D ad cy M k3 i4 (by first | omega | assumption | exact ⟨by omega, by omega⟩) (by first | omega | assumption | exact ⟨by omega, by omega⟩) (by first | omega | assumption | exact ⟨by omega, by omega⟩)) gX6_digest_X1_rowSum rfl ⟨rfl, hy_X1_rowSum⟩ ⟨by decide, by decide⟩ rfl (Nat.le_of_ble_eq_true rfl) ⟨by decide, by decide⟩ dX6_digest_134 rfl ?_
                          refine kb_eql (b := sp_rsm M k3 i4) (rfl) ?_
                          refine kb_ladd X dX6_digest_137 ?_
                          refine kb_nml (fun x1_13 ex1_13 => ?_)
                          refine kb_lstore_n (lv' := [(1, kb_l (x1_13)), (0, .ref (ad 0)), (3, kb_i k3), (4, kb_i i4)]) X dX6_digest_138 (by decide) rfl ?_
                          refine kb_iinc (lv' := [(4, kb_i (i4 + 1)), (1, kb_l (x1_13)), (0, .ref (ad 0)), (3, kb_i k3)]) X 3 rfl dX6_digest_139 rfl (by decide) rfl ?_
                          refine kb_goto (tgt := 110) X dX6_digest_142 (by decide) ?_
                          refine kb_sub [2, 1, 3, 0] (lv' := [(0, .ref (ad 0)), (1, kb_l (x1_13)), (3, kb_i k3), (4, kb_i (i4 + 1))]) rfl ?_
                          exact ih10 x1_13 (i4 + 1) (by omega) (by first | omega | assumption | exact ⟨by omega, by omega⟩) (by rw [sp_hsS _ _ hI4.1, ← hJ4]; assumption)
                    refine kb_sub [2, 1, 3, 0] (lv' := [(0, .ref (ad 0)), (1, kb_l (x1_9)), (3, kb_i k3), (4, kb_i 0)]) rfl ?_
                    exact L110 _ x1_9 (0 : Int) (Nat.lt_succ_self _) (by first | omega | assumption | exact ⟨by omega, by omega⟩) (by subst_vars; rfl)
              refine kb_sub [1, 2, 0] (lv' := [(0, .ref (ad 0)), (1, kb_l (u2)), (3, kb_i 0)]) rfl ?_
              exact L80 _ u2 (0 : Int) (Nat.lt_succ_self _) (by first | omega | assumption | exact ⟨by omega, by omega⟩) (by (have e : k2 = M 2 5 := by omega); rw [hJ2, e]; rfl)
            ·
              refine kb_ldc2 (v := 31) X (31) (by decide +kernel) (by decide) dX6_digest_44 ?_
              refine kb_lload_n X 1 rfl dX6_digest_47 ?_
              refine kb_lmul X dX6_digest_48 ?_
              refine kb_aload_n X 0 rfl dX6_digest_49 ?_
              refine kb_iload_n X 2 rfl dX6_digest_50 ?_
              refine kb_iconst X dX6_digest_51 ?_
              refine kb_cVi X (rest := [kb_l (31 * u2)]) [kb_i k2, kb_i 0] 0 (fl := [some 1, some 2, some 3, some 4, some 5, some 6]) (C := RX6) rfl rfl (c_X6_pointAt l D ad cy M k2 0 (by first | omega | assumption | exact ⟨by omega, by omega⟩) (by first | omega | assumption | exact ⟨by omega, by omega⟩)) gX6_digest_X6_pointAt rfl ⟨rfl, hy_X6_pointAt⟩ ⟨by decide, by decide⟩ rfl (Nat.le_of_ble_eq_true rfl) ⟨by decide, by decide⟩ dX6_digest_52 rfl ?_
              have ga := sp_pointAtR_rg hM k2 0
              refine kb_i2l X ⟨by omega, by omega⟩ dX6_digest_55 ?_
              refine kb_ladd X dX6_digest_56 ?_
              refine kb_nml (fun x1_14 ex1_14 => ?_)
              refine kb_lstore_n (lv' := [(1, kb_l (x1_14)), (0, .ref (ad 0)), (3, kb_i k2)]) X dX6_digest_57 (by decide) rfl ?_
              refine kb_ldc2 (v := 31) X (31) (by decide +kernel) (by decide) dX6_digest_58 ?_
              refine kb_lload_n X 0 rfl dX6_digest_61 ?_
              refine kb_lmul X dX6_digest_62 ?_
              refine kb_aload_n X 1 rfl dX6_digest_63 ?_
              refine kb_iload_n X 2 rfl dX6_digest_64 ?_
              refine kb_iconst X dX6_digest_65 ?_
              refine kb_cVi X (rest := [kb_l (31 * x1_14)]) [kb_i k2, kb_i 1] 0 (fl := [some 1, some 2, some 3, some 4, some 5, some 6]) (C := RX6) rfl rfl (c_X6_pointAt l D ad cy M k2 1 (by first | omega | assumption | exact ⟨by omega, by omega⟩) (by first | omega | assumption | exact ⟨by omega, by omega⟩)) gX6_digest_X6_pointAt rfl ⟨rfl, hy_X6_pointAt⟩ ⟨by decide, by decide⟩ rfl (Nat.le_of_ble_eq_true rfl) ⟨by decide, by decide⟩ dX6_digest_66 rfl ?_
              have gb := sp_pointAtR_rg hM k2 1
              refine kb_i2l X ⟨by omega, by omega⟩ dX6_digest_69 ?_
              refine kb_ladd X dX6_digest_70 ?_
              refine kb_nml (fun x1_15 ex1_15 => ?_)
              refine kb_lstore_n (lv' := [(1, kb_l (x1_15)), (0, .ref (ad 0)), (3, kb_i k2)]) X dX6_digest_71 (by decide) rfl ?_
              refine kb_iinc (lv' := [(3, kb_i (k2 + 1)), (1, kb_l (x1_15)), (0, .ref (ad 0))]) X 2 rfl dX6_digest_72 rfl (by decide) rfl ?_
              refine kb_goto (tgt := 33) X dX6_digest_75 (by decide) ?_
              refine kb_sub [2, 1, 0] (lv' := [(0, .ref (ad 0)), (1, kb_l (x1_15)), (3, kb_i (k2 + 1))]) rfl ?_
              exact ih3 x1_15 (k2 + 1) (by omega) (by first | omega | assumption | exact ⟨by omega, by omega⟩) (by rw [sp_hqS _ _ hI2.1, ← hJ2]; subst_vars; rfl)
        refine kb_sub [1, 2, 0] (lv' := [(0, .ref (ad 0)), (1, kb_l (u)), (3, kb_i 0)]) rfl ?_
        exact L33 _ u (0 : Int) (Nat.lt_succ_self _) (by first | omega | assumption | exact ⟨by omega, by omega⟩) (by (have e : k = 7 := by omega); rw [hJ, e]; rfl)
      ·
        refine kb_ldc2 (v := 31) X (31) (by decide +kernel) (by decide) dX6_digest_12 ?_
        refine kb_lload_n X 1 rfl dX6_digest_15 ?_
        refine kb_lmul X dX6_digest_16 ?_
        refine kb_aload_n X 0 rfl dX6_digest_17 ?_
        refine kb_iload_n X 2 rfl dX6_digest_18 ?_
        refine kb_cVi X (rest := [kb_l (31 * u)]) [kb_i k] 0 (fl := [some 1, some 2, some 3, some 4, some 5, some 6]) (C := RX6) rfl rfl (c_X6_count l D ad cy M k (by first | omega | assumption | exact ⟨by omega, by omega⟩)) gX6_digest_X6_count rfl ⟨rfl, hy_X6_count⟩ ⟨by decide, by decide⟩ rfl (Nat.le_of_ble_eq_true rfl) ⟨by decide, by decide⟩ dX6_digest_19 rfl ?_
        have g16 : -2147483648 ≤ (sp_countR M k) ∧ (sp_countR M k) < 2147483648 := sp_countR_rg hM _
        refine kb_i2l X ⟨by omega, by omega⟩ dX6_digest_22 ?_
        refine kb_ladd X dX6_digest_23 ?_
        refine kb_nml (fun x1_17 ex1_17 => ?_)
        refine kb_lstore_n (lv' := [(1, kb_l (x1_17)), (0, .ref (ad 0)), (3, kb_i k)]) X dX6_digest_24 (by decide) rfl ?_
        refine kb_iinc (lv' := [(3, kb_i (k + 1)), (1, kb_l (x1_17)), (0, .ref (ad 0))]) X 2 rfl dX6_digest_25 rfl (by decide) rfl ?_
        refine kb_goto (tgt := 6) X dX6_digest_28 (by decide) ?_
        refine kb_sub [2, 1, 0] (lv' := [(0, .ref (ad 0)), (1, kb_l (x1_17)), (3, kb_i (k + 1))]) rfl ?_
        exact ih1 x1_17 (k + 1) (by omega) (by first | omega | assumption | exact ⟨by omega, by omega⟩) (by rw [sp_hsS _ _ hI.1, ← hJ]; assumption)
  refine kb_sub [2, 1, 0] (lv' := [(0, .ref (ad 0)), (1, kb_l (131)), (3, kb_i 0)]) rfl ?_
  exact L6 _ (131 : Int) (0 : Int) (Nat.lt_succ_self _) (by first | omega | assumption | exact ⟨by omega, by omega⟩) (rfl)
