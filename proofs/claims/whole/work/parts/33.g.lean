-- X7_next
theorem hf_X7_next_66 : Cond.fieldLink yX7_next.cls 66 RX7 "wide" "[I" ∈ wsX7_next := by decide +kernel
theorem hf_X7_next_69 : Cond.fieldLink yX7_next.cls 69 RX7 "tall" "[I" ∈ wsX7_next := by decide +kernel
theorem hf_X7_next_72 : Cond.fieldLink yX7_next.cls 72 RX7 "pixels" "[I" ∈ wsX7_next := by decide +kernel
theorem hf_X7_next_90 : Cond.fieldLink yX7_next.cls 90 RX7 "pictures" "I" ∈ wsX7_next := by decide +kernel
theorem hi_X7_next_X7 : ∀ w ∈ wsX70, w ∈ wsX7_next := by decide +kernel
theorem hy_X7_next : yX7_next.cls ≠ "java/lang/invoke/MethodHandle" ∧ yX7_next.cls ≠ "java/lang/invoke/VarHandle" ∧ (parseMethodDescriptor yX7_next.desc).map (fun d => d.parameters.length) = some 0 := by decide +kernel
set_option maxHeartbeats 4000000 in
set_option maxRecDepth 100000 in
theorem c_X7_next (l : Launch) (D : va_G) (ad : Nat → Nat) (cy : Nat → ClassId) (M : kb_M)  (hs : 0 ≤ M 22 19 ∧ M 22 19 ≤ 4) : kb_Ci l D ad cy yX7_next wsX7_next 0 0 [.ref (ad 22)] M (mo_P M) (mo_nx M) := by
  refine kb_mkCi (cc := cX7_next) (maxL := 2) (lv := [(0, .ref (ad 22))]) (plainFor_of_name (by decide)) rfl (Nat.le_of_ble_eq_true rfl) rfl ?_
  intro p e s m args below meth c X hr hlocks hM
  refine kb_aload_n X 0 rfl dX7_next_0 ?_
  refine kg_X7_pictures X hi_X7_next_X7 hf_X7_next_90 dX7_next_1 ?_
  have g1 : -2147483648 ≤ M 22 19 ∧ M 22 19 < 2147483648 := hM 22 19
  refine kb_iconst X dX7_next_4 ?_
  refine kb_icmp_ne (tgt := 92) X ⟨by omega, by omega⟩ ⟨by decide, by decide⟩ dX7_next_5 (by decide) (fun h2 => ?_) (fun h2 => ?_)
  ·
    refine kb_aload_n X 0 rfl dX7_next_92 ?_
    refine kb_dup X rfl dX7_next_93 ?_
    refine kg_X7_pictures X hi_X7_next_X7 hf_X7_next_90 dX7_next_94 ?_
    refine kb_iconst X dX7_next_97 ?_
    refine kb_iadd X dX7_next_98 ?_
    refine kp_X7_pictures X hi_X7_next_X7 hf_X7_next_90 ⟨by omega, by omega⟩ dX7_next_99 ?_
    refine kb_aload_n X 0 rfl dX7_next_102 ?_
    refine kg_X7_pictures X hi_X7_next_X7 hf_X7_next_90 dX7_next_103 ?_
    refine kb_eqi (b := ((M 22 19) + 1)) (by first | rfl | exact mo_sh_r _ _ (by decide) | exact mo_sh2_a _ (by decide) _ | exact mo_sh2_b _ (by decide) _ _ _) ?_
    refine kb_iconst X dX7_next_106 ?_
    refine kb_isub X dX7_next_107 ?_
    exact kb_iret X hr hlocks dX7_next_108 (by unfold mo_P; first | (rw [if_pos (by omega)]; omega) | (rw [if_neg (by omega)]; omega)) (by unfold mo_nx; first | (rw [if_neg (by omega)]; done) | ((have e : k = 1024 := by omega); (have e2 : k2 = 4 := by omega); rw [sp_wrwr, if_pos (by omega), e, e2, show M 22 19 - 1 + 1 = 4 by omega]))
  ·
    refine kb_sipush X (by decide) dX7_next_8 ?_
    refine kb_istore_n (lv' := [(1, kb_i 256), (0, .ref (ad 22))]) X dX7_next_11 (by decide) rfl ?_
    have L12 : ∀ nn_ : Nat, ∀ (k : Int), (1024 - k).toNat < nn_ → (256 ≤ k ∧ k ≤ 1024) → kb_B p l e ({ frames := 0, cells := 0, slots := 0, locals := 0 } : Room) s m args below meth c D ad cy (kb_A ad s.heap.size) 2 0 0 (MQ below (va_Qi (fun (vq_ : Int32) (_ : Unit) => vq_ = kb_J (mo_P M)) (fun _ t => kb_en2 D ad cy (mo_nx M) t) (kb_A ad s.heap.size)) args s 0 0 (kb_A ad s.heap.size)) 12 [(0, .ref (ad 22)), (1, kb_i k)] [] ((mo_sh M 34 256 k)) := by
      intro nn_
      induction nn_ with
      | zero => intro k hn; exact absurd hn (Nat.not_lt_zero _)
      | succ nn_ ih3 =>
        intro k hn hI
        refine kb_iload_n X 1 rfl dX7_next_12 ?_
        refine kb_sipush X (by decide) dX7_next_13 ?_
        refine kb_icmp_ge (tgt := 41) X ⟨by omega, by omega⟩ ⟨by decide, by decide⟩ dX7_next_16 (by decide) (fun h4 => ?_) (fun h4 => ?_)
        ·
          refine kb_iconst X dX7_next_41 ?_
          refine kb_istore_n (lv' := [(1, kb_i 1), (0, .ref (ad 22))]) X dX7_next_42 (by decide) rfl ?_
          have L43 : ∀ nn_ : Nat, ∀ (k2 : Int), (4 - k2).toNat < nn_ → (1 ≤ k2 ∧ k2 ≤ 4) → kb_B p l e ({ frames := 0, cells := 0, slots := 0, locals := 0 } : Room) s m args below meth c D ad cy (kb_A ad s.heap.size) 2 0 0 (MQ below (va_Qi (fun (vq_ : Int32) (_ : Unit) => vq_ = kb_J (mo_P M)) (fun _ t => kb_en2 D ad cy (mo_nx M) t) (kb_A ad s.heap.size)) args s 0 0 (kb_A ad s.heap.size)) 43 [(0, .ref (ad 22)), (1, kb_i k2)] [] ((mo_sh (mo_sh (mo_sh M 34 256 k) 32 1 k2) 33 1 k2)) := by
            intro nn_
            induction nn_ with
            | zero => intro k2 hn; exact absurd hn (Nat.not_lt_zero _)
            | succ nn_ ih5 =>
              intro k2 hn hI2
              refine kb_iload_n X 1 rfl dX7_next_43 ?_
              refine kb_iconst X dX7_next_44 ?_
              refine kb_icmp_ge (tgt := 82) X ⟨by omega, by omega⟩ ⟨by decide, by decide⟩ dX7_next_45 (by decide) (fun h6 => ?_) (fun h6 => ?_)
              ·
                refine kb_aload_n X 0 rfl dX7_next_82 ?_
                refine kb_dup X rfl dX7_next_83 ?_
                refine kg_X7_pictures X hi_X7_next_X7 hf_X7_next_90 dX7_next_84 ?_
                refine kb_eqi (b := M 22 19) (by first | rfl | exact mo_sh_r _ _ (by decide) | exact mo_sh2_a _ (by decide) _ | exact mo_sh2_b _ (by decide) _ _ _) ?_
                refine kb_iconst X dX7_next_87 ?_
                refine kb_isub X dX7_next_88 ?_
                refine kp_X7_pictures X hi_X7_next_X7 hf_X7_next_90 ⟨by omega, by omega⟩ dX7_next_89 ?_
                refine kb_aload_n X 0 rfl dX7_next_92 ?_
                refine kb_dup X rfl dX7_next_93 ?_
                refine kg_X7_pictures X hi_X7_next_X7 hf_X7_next_90 dX7_next_94 ?_
                refine kb_eqi (b := ((M 22 19) - 1)) (by first | rfl | exact mo_sh_r _ _ (by decide) | exact mo_sh2_a _ (by decide) _ | exact mo_sh2_b _ (by decide) _ _ _) ?_
                refine kb_iconst X dX7_next_97 ?_
                refine kb_iadd X dX7_next_98 ?_
                refine kp_X7_pictures X hi_X7_next_X7 hf_X7_next_90 ⟨by omega, by omega⟩ dX7_next_99 ?_
                refine kb_aload_n X 0 rfl dX7_next_102 ?_
                refine kg_X7_pictures X hi_X7_next_X7 hf_X7_next_90 dX7_next_103 ?_
                refine kb_eqi (b := ((((M 22 19) - 1)) + 1)) (by first | rfl | exact mo_sh_r _ _ (by decide) | exact mo_sh2_a _ (by decide) _ | exact mo_sh2_b _ (by decide) _ _ _) ?_
                refine kb_iconst X dX7_next_106 ?_
                refine kb_isub X dX7_next_107 ?_
                exact kb_iret X hr hlocks dX7_next_108 (by unfold mo_P; first | (rw [if_pos (by omega)]; omega) | (rw [if_neg (by omega)]; omega)) (by unfold mo_nx; first | (rw [if_neg (by omega)]; done) | ((have e : k = 1024 := by omega); (have e2 : k2 = 4 := by omega); rw [sp_wrwr, if_pos (by omega), e, e2, show M 22 19 - 1 + 1 = 4 by omega]))
              ·
                refine kb_aload_n X 0 rfl dX7_next_48 ?_
                refine kg_X7_wide X hi_X7_next_X7 hf_X7_next_66 dX7_next_49 ?_
                refine kb_iload_n X 1 rfl dX7_next_52 ?_
                refine kb_iconst X dX7_next_53 ?_
                refine kb_isub X dX7_next_54 ?_
                refine kb_aload_n X 0 rfl dX7_next_55 ?_
                refine kg_X7_wide X hi_X7_next_X7 hf_X7_next_66 dX7_next_56 ?_
                refine kb_iload_n X 1 rfl dX7_next_59 ?_
                refine kb_iald X 32 (n := 4) rfl ⟨by omega, by omega⟩ (by decide) dX7_next_60 ?_
                refine kb_eqi (b := M 32 k2) (by first | rfl | exact mo_sh_r _ _ (by decide) | exact mo_sh2_a _ (by decide) _ | exact mo_sh2_b _ (by decide) _ _ _) ?_
                have g7 : -2147483648 ≤ M 32 k2 ∧ M 32 k2 < 2147483648 := hM 32 k2
                refine kb_iast X 32 (n := 4) rfl ⟨by omega, by omega⟩ (by decide) ⟨by omega, by omega⟩ dX7_next_61 ?_
                refine kb_aload_n X 0 rfl dX7_next_62 ?_
                refine kg_X7_tall X hi_X7_next_X7 hf_X7_next_69 dX7_next_63 ?_
                refine kb_iload_n X 1 rfl dX7_next_66 ?_
                refine kb_iconst X dX7_next_67 ?_
                refine kb_isub X dX7_next_68 ?_
                refine kb_aload_n X 0 rfl dX7_next_69 ?_
                refine kg_X7_tall X hi_X7_next_X7 hf_X7_next_69 dX7_next_70 ?_
                refine kb_iload_n X 1 rfl dX7_next_73 ?_
                refine kb_iald X 33 (n := 4) rfl ⟨by omega, by omega⟩ (by decide) dX7_next_74 ?_
                refine kb_eqi (b := M 33 k2) (by first | rfl | exact mo_sh_r _ _ (by decide) | exact mo_sh2_a _ (by decide) _ | exact mo_sh2_b _ (by decide) _ _ _) ?_
                have g8 : -2147483648 ≤ M 33 k2 ∧ M 33 k2 < 2147483648 := hM 33 k2
                refine kb_iast X 33 (n := 4) rfl ⟨by omega, by omega⟩ (by decide) ⟨by omega, by omega⟩ dX7_next_75 ?_
                refine kb_iinc (lv' := [(1, kb_i (k2 + 1)), (0, .ref (ad 22))]) X 1 rfl dX7_next_76 rfl (by decide) rfl ?_
                refine kb_goto (tgt := 43) X dX7_next_79 (by decide) ?_
                refine kb_sub [1, 0] (lv' := [(0, .ref (ad 22)), (1, kb_i (k2 + 1))]) rfl ?_
                refine kb_eqM (M' := mo_sh (mo_sh (mo_sh M 34 256 k) 32 1 (k2 + 1)) 33 1 (k2 + 1)) ((mo_sh2_S (mo_sh M 34 256 k) (by decide) hI2.1).symm) ?_
                exact ih5 (k2 + 1) (by omega) (by first | omega | assumption | exact ⟨by omega, by omega⟩)
          refine kb_sub [1, 0] (lv' := [(0, .ref (ad 22)), (1, kb_i 1)]) rfl ?_
          refine kb_eqM (M' := mo_sh (mo_sh (mo_sh M 34 256 k) 32 1 (1 : Int)) 33 1 (1 : Int)) (by rw [← mo_sh_0, ← mo_sh_0]) ?_
          exact L43 _ (1 : Int) (Nat.lt_succ_self _) (by first | omega | assumption | exact ⟨by omega, by omega⟩)
        ·
          refine kb_aload_n X 0 rfl dX7_next_19 ?_
          refine kg_X7_pixels X hi_X7_next_X7 hf_X7_next_72 dX7_next_20 ?_
          refine kb_iload_n X 1 rfl dX7_next_23 ?_
          refine kb_sipush X (by decide) dX7_next_24 ?_
          refine kb_isub X dX7_next_27 ?_
          refine kb_aload_n X 0 rfl dX7_next_28 ?_
          refine kg_X7_pixels X hi_X7_next_X7 hf_X7_next_72 dX7_next_29 ?_
          refine kb_iload_n X 1 rfl dX7_next_32 ?_
          refine kb_iald X 34 (n := 1024) rfl ⟨by omega, by omega⟩ (by decide) dX7_next_33 ?_
          refine kb_eqi (b := M 34 k) (by first | rfl | exact mo_sh_r _ _ (by decide) | exact mo_sh2_a _ (by decide) _ | exact mo_sh2_b _ (by decide) _ _ _) ?_
          have g9 : -2147483648 ≤ M 34 k ∧ M 34 k < 2147483648 := hM 34 k
          refine kb_iast X 34 (n := 1024) rfl ⟨by omega, by omega⟩ (by decide) ⟨by omega, by omega⟩ dX7_next_34 ?_
          refine kb_iinc (lv' := [(1, kb_i (k + 1)), (0, .ref (ad 22))]) X 1 rfl dX7_next_35 rfl (by decide) rfl ?_
          refine kb_goto (tgt := 12) X dX7_next_38 (by decide) ?_
          refine kb_sub [1, 0] (lv' := [(0, .ref (ad 22)), (1, kb_i (k + 1))]) rfl ?_
          refine kb_eqM (M' := mo_sh M 34 256 (k + 1)) ((mo_sh_S _ _ (by decide) hI.1).symm) ?_
          exact ih3 (k + 1) (by omega) (by first | omega | assumption | exact ⟨by omega, by omega⟩)
    refine kb_sub [1, 0] (lv' := [(0, .ref (ad 22)), (1, kb_i 256)]) rfl ?_
    refine kb_eqM (M' := mo_sh M 34 256 (256 : Int)) ((mo_sh_0 _ _ _).symm) ?_
    exact L12 _ (256 : Int) (Nat.lt_succ_self _) (by first | omega | assumption | exact ⟨by omega, by omega⟩)
-- X7_picture
theorem hf_X7_picture_66 : Cond.fieldLink yX7_picture.cls 66 RX7 "wide" "[I" ∈ wsX7_picture := by decide +kernel
theorem hf_X7_picture_69 : Cond.fieldLink yX7_picture.cls 69 RX7 "tall" "[I" ∈ wsX7_picture := by decide +kernel
theorem hf_X7_picture_72 : Cond.fieldLink yX7_picture.cls 72 RX7 "pixels" "[I" ∈ wsX7_picture := by decide +kernel
theorem hf_X7_picture_90 : Cond.fieldLink yX7_picture.cls 90 RX7 "pictures" "I" ∈ wsX7_picture := by decide +kernel
theorem hi_X7_picture_X7 : ∀ w ∈ wsX70, w ∈ wsX7_picture := by decide +kernel
theorem hy_X7_picture : yX7_picture.cls ≠ "java/lang/invoke/MethodHandle" ∧ yX7_picture.cls ≠ "java/lang/invoke/VarHandle" ∧ (parseMethodDescriptor yX7_picture.desc).map (fun d => d.parameters.length) = some 7 := by decide +kernel
set_option maxHeartbeats 4000000 in
set_option maxRecDepth 100000 in
theorem c_X7_picture (l : Launch) (D : va_G) (ad : Nat → Nat) (cy : Nat → ClassId) (M : kb_M) (bb : Int) (x : Int) (z : Int) (sx : Int) (sz : Int) (w : Int) (h0 : Int) (hbb : -2147483648 ≤ bb ∧ bb < 2147483648) (hx : -2147483648 ≤ x ∧ x < 2147483648) (hz : -2147483648 ≤ z ∧ z < 2147483648) (hsx : -2147483648 ≤ sx ∧ sx < 2147483648) (hsz : -2147483648 ≤ sz ∧ sz < 2147483648) (hw : -2147483648 ≤ w ∧ w < 2147483648) (hh0 : -2147483648 ≤ h0 ∧ h0 < 2147483648) (hIP : mo_IP M) (hIL : mo_IL M) (hIR : mo_IR M) : kb_Ci l D ad cy yX7_picture wsX7_picture 4 110 [.ref (ad 22), kb_i bb, kb_i x, kb_i z, kb_i sx, kb_i sz, kb_i w, kb_i h0] M (mo_picR M bb x z sx sz w h0) (mo_picM M bb x z sx sz w h0) := by
  refine kb_mkCi (cc := cX7_picture) (maxL := 13) (lv := [(0, .ref (ad 22)), (1, kb_i bb), (2, kb_i x), (3, kb_i z), (4, kb_i sx), (5, kb_i sz), (6, kb_i w), (7, kb_i h0)]) (plainFor_of_name (by decide)) rfl (Nat.le_of_ble_eq_true rfl) rfl ?_
  intro p e s m args below meth c X hr hlocks hM
  obtain ⟨hxs, hn0, hP, hT, hf⟩ := id hIP
  obtain ⟨hs, hsb, hsn⟩ := id hIL
  obtain ⟨hrs, hwh⟩ := id hIR
  refine kb_aload_n X 0 rfl dX7_picture_0 ?_
  refine kb_iload_n X 1 rfl dX7_picture_1 ?_
  refine kb_cVi X (rest := []) [kb_i bb] 22 (fl := [none, some 23, some 24, none, none, none, none, none, none, none, none, some 25, some 26, some 27, some 28, some 29, none, some 30, some 31, none, some 32, some 33, some 34, some 35, none, none, none, some 36]) (C := RX7) rfl rfl (c_X7_areLooks l D ad cy M bb (by first | omega | assumption | exact ⟨by omega, by omega⟩) (by first | omega | assumption | exact ⟨by omega, by omega⟩)) gX7_picture_X7_areLooks rfl ⟨rfl, hy_X7_areLooks⟩ ⟨by decide, by decide⟩ rfl (Nat.le_of_ble_eq_true rfl) ⟨by decide, by decide⟩ dX7_picture_2 rfl ?_
  refine kb_ifb_eq (tgt := 68) X dX7_picture_5 (by decide) (fun h1 => ?_) (fun h1 => ?_)
  ·
    refine kb_bipush X (by decide) dX7_picture_68 ?_
    exact kb_iret X hr hlocks dX7_picture_70 (by unfold mo_picR; repeat (first | rw [if_pos (by omega)] | rw [if_neg (by omega)]); try first | rfl | omega) (by unfold mo_picM; rw [if_neg (by omega)])
  ·
    refine kb_iload_n X 2 rfl dX7_picture_8 ?_
    refine kb_iload_n X 3 rfl dX7_picture_9 ?_
    refine kb_cSi X (rest := []) [kb_i x, kb_i z] (c_X7_isPlace l D ad cy M x z (by first | omega | assumption | exact ⟨by omega, by omega⟩) (by first | omega | assumption | exact ⟨by omega, by omega⟩)) gX7_picture_X7_isPlace rfl hy_X7_isPlace ⟨by decide, by decide⟩ rfl (Nat.le_of_ble_eq_true rfl) ⟨by decide, by decide⟩ dX7_picture_10 rfl ?_
    refine kb_ifb_eq (tgt := 68) X dX7_picture_13 (by decide) (fun h2 => ?_) (fun h2 => ?_)
    ·
      refine kb_bipush X (by decide) dX7_picture_68 ?_
      exact kb_iret X hr hlocks dX7_picture_70 (by unfold mo_picR; repeat (first | rw [if_pos (by omega)] | rw [if_neg (by omega)]); try first | rfl | omega) (by unfold mo_picM; rw [if_neg (by omega)])
    ·
      refine kb_iload X 4 rfl dX7_picture_16 ?_
      refine kb_i2l X ⟨by omega, by omega⟩ dX7_picture_18 ?_
      refine kb_lconst X dX7_picture_19 ?_
      refine kb_eql (b := 1) rfl ?_
      refine kb_ldc2 (v := 500) X (500) (by decide +kernel) (by decide) dX7_picture_20 ?_
      refine kb_cSi X (rest := []) [kb_l (sx), kb_l (1), kb_l (500)] (c_X7_in l D ad cy M sx 1 500 (by first | omega | assumption | exact ⟨by omega, by omega⟩) (by first | omega | assumption | exact ⟨by omega, by omega⟩) (by first | omega | assumption | exact ⟨by omega, by omega⟩)) gX7_picture_X7_in rfl hy_X7_in ⟨by decide, by decide⟩ rfl (Nat.le_of_ble_eq_true rfl) ⟨by decide, by decide⟩ dX7_picture_23 rfl ?_
      refine kb_ifb_eq (tgt := 68) X dX7_picture_26 (by decide) (fun h3 => ?_) (fun h3 => ?_)
      ·
        refine kb_bipush X (by decide) dX7_picture_68 ?_
        exact kb_iret X hr hlocks dX7_picture_70 (by unfold mo_picR; repeat (first | rw [if_pos (by omega)] | rw [if_neg (by omega)]); try first | rfl | omega) (by unfold mo_picM; rw [if_neg (by omega)])
      ·
        refine kb_iload X 5 rfl dX7_picture_29 ?_
        refine kb_i2l X ⟨by omega, by omega⟩ dX7_picture_31 ?_
        refine kb_lconst X dX7_picture_32 ?_
        refine kb_eql (b := 1) rfl ?_
        refine kb_ldc2 (v := 500) X (500) (by decide +kernel) (by decide) dX7_picture_33 ?_
        refine kb_cSi X (rest := []) [kb_l (sz), kb_l (1), kb_l (500)] (c_X7_in l D ad cy M sz 1 500 (by first | omega | assumption | exact ⟨by omega, by omega⟩) (by first | omega | assumption | exact ⟨by omega, by omega⟩) (by first | omega | assumption | exact ⟨by omega, by omega⟩)) gX7_picture_X7_in rfl hy_X7_in ⟨by decide, by decide⟩ rfl (Nat.le_of_ble_eq_true rfl) ⟨by decide, by decide⟩ dX7_picture_36 rfl ?_
        refine kb_ifb_eq (tgt := 68) X dX7_picture_39 (by decide) (fun h4 => ?_) (fun h4 => ?_)
        ·
          refine kb_bipush X (by decide) dX7_picture_68 ?_
          exact kb_iret X hr hlocks dX7_picture_70 (by unfold mo_picR; repeat (first | rw [if_pos (by omega)] | rw [if_neg (by omega)]); try first | rfl | omega) (by unfold mo_picM; rw [if_neg (by omega)])
        ·
          refine kb_iload X 6 rfl dX7_picture_42 ?_
          refine kb_i2l X ⟨by omega, by omega⟩ dX7_picture_44 ?_
          refine kb_lconst X dX7_picture_45 ?_
          refine kb_eql (b := 1) rfl ?_
          refine kb_ldc2 (v := 16) X (16) (by decide +kernel) (by decide) dX7_picture_46 ?_
          refine kb_cSi X (rest := []) [kb_l (w), kb_l (1), kb_l (16)] (c_X7_in l D ad cy M w 1 16 (by first | omega | assumption | exact ⟨by omega, by omega⟩) (by first | omega | assumption | exact ⟨by omega, by omega⟩) (by first | omega | assumption | exact ⟨by omega, by omega⟩)) gX7_picture_X7_in rfl hy_X7_in ⟨by decide, by decide⟩ rfl (Nat.le_of_ble_eq_true rfl) ⟨by decide, by decide⟩ dX7_picture_49 rfl ?_
          refine kb_ifb_eq (tgt := 68) X dX7_picture_52 (by decide) (fun h5 => ?_) (fun h5 => ?_)
          ·
            refine kb_bipush X (by decide) dX7_picture_68 ?_
            exact kb_iret X hr hlocks dX7_picture_70 (by unfold mo_picR; repeat (first | rw [if_pos (by omega)] | rw [if_neg (by omega)]); try first | rfl | omega) (by unfold mo_picM; rw [if_neg (by omega)])
          ·
            refine kb_iload X 7 rfl dX7_picture_55 ?_
            refine kb_i2l X ⟨by omega, by omega⟩ dX7_picture_57 ?_
            refine kb_lconst X dX7_picture_58 ?_
            refine kb_eql (b := 1) rfl ?_
            refine kb_ldc2 (v := 16) X (16) (by decide +kernel) (by decide) dX7_picture_59 ?_
            refine kb_cSi X (rest := []) [kb_l (h0), kb_l (1), kb_l (16)] (c_X7_in l D ad cy M h0 1 16 (by first | omega | assumption | exact ⟨by omega, by omega⟩) (by first | omega | assumption | exact ⟨by omega, by omega⟩) (by first | omega | assumption | exact ⟨by omega, by omega⟩)) gX7_picture_X7_in rfl hy_X7_in ⟨by decide, by decide⟩ rfl (Nat.le_of_ble_eq_true rfl) ⟨by decide, by decide⟩ dX7_picture_62 rfl ?_
            refine kb_ifb_ne (tgt := 71) X dX7_picture_65 (by decide) (fun h6 => ?_) (fun h6 => ?_)
            ·
              refine kb_aload_n X 0 rfl dX7_picture_71 ?_
              refine kb_cVi X (rest := []) [] 22 (fl := [none, some 23, some 24, none, none, none, none, none, none, none, none, some 25, some 26, some 27, some 28, some 29, none, some 30, some 31, none, some 32, some 33, some 34, some 35, none, none, none, some 36]) (C := RX7) rfl rfl (c_X7_next l D ad cy M  (by first | omega | assumption | exact ⟨by omega, by omega⟩)) gX7_picture_X7_next rfl ⟨rfl, hy_X7_next⟩ ⟨by decide, by decide⟩ rfl (Nat.le_of_ble_eq_true rfl) ⟨by decide, by decide⟩ dX7_picture_72 rfl ?_
              refine kb_istore (lv' := [(8, kb_i (mo_P M)), (0, .ref (ad 22)), (1, kb_i bb), (2, kb_i x), (3, kb_i z), (4, kb_i sx), (5, kb_i sz), (6, kb_i w), (7, kb_i h0)]) X dX7_picture_75 (by decide) rfl ?_
              have hpb := mo_P_b hrs
              refine kb_aload_n X 1 rfl dX7_picture_77 ?_
              refine kg_X7_wide X hi_X7_picture_X7 hf_X7_picture_66 dX7_picture_78 ?_
              refine kb_iload X 0 rfl dX7_picture_81 ?_
              refine kb_iload X 7 rfl dX7_picture_83 ?_
              refine kb_iast X 32 (n := 4) rfl ⟨by omega, by omega⟩ (by decide) ⟨by omega, by omega⟩ dX7_picture_85 ?_
              refine kb_aload_n X 1 rfl dX7_picture_86 ?_
              refine kg_X7_tall X hi_X7_picture_X7 hf_X7_picture_69 dX7_picture_87 ?_
              refine kb_iload X 0 rfl dX7_picture_90 ?_
              refine kb_iload X 8 rfl dX7_picture_92 ?_
              refine kb_iast X 33 (n := 4) rfl ⟨by omega, by omega⟩ (by decide) ⟨by omega, by omega⟩ dX7_picture_94 ?_
              have hpb := mo_P_b hrs
              refine kb_iconst X dX7_picture_95 ?_
              refine kb_istore (lv' := [(9, kb_i 0), (8, kb_i (mo_P M)), (0, .ref (ad 22)), (1, kb_i bb), (2, kb_i x), (3, kb_i z), (4, kb_i sx), (5, kb_i sz), (6, kb_i w), (7, kb_i h0)]) X dX7_picture_96 (by decide) rfl ?_
              have L98 : ∀ nn_ : Nat, ∀ (l0 : Int), (16 - l0).toNat < nn_ → (0 ≤ l0 ∧ l0 ≤ h0) → kb_B p l e ({ frames := 4, cells := 0, slots := 0, locals := 110 } : Room) s m args below meth c D ad cy (kb_A ad s.heap.size) 13 0 0 (MQ below (va_Qi (fun (vq_ : Int32) (_ : Unit) => vq_ = kb_J (mo_picR M bb x z sx sz w h0)) (fun _ t => kb_en2 D ad cy (mo_picM M bb x z sx sz w h0) t) (kb_A ad s.heap.size)) args s 0 0 (kb_A ad s.heap.size)) 98 [(0, .ref (ad 22)), (1, kb_i bb), (2, kb_i x), (3, kb_i z), (4, kb_i sx), (5, kb_i sz), (6, kb_i w), (7, kb_i h0), (8, kb_i (mo_P M)), (9, kb_i l0)] [] ((mo_pc (mo_B0 M w h0) bb x z sx sz w (mo_P M) (w * l0).toNat)) := by
                intro nn_
                induction nn_ with
                | zero => intro l0 hn; exact absurd hn (Nat.not_lt_zero _)
                | succ nn_ ih7 =>
                  intro l0 hn hI
                  refine kb_iload X 9 rfl dX7_picture_98 ?_
                  refine kb_iload X 7 rfl dX7_picture_100 ?_
                  refine kb_icmp_ge (tgt := 188) X ⟨by omega, by omega⟩ ⟨by omega, by omega⟩ dX7_picture_102 (by decide) (fun h8 => ?_) (fun h8 => ?_)
                  ·
                    refine kb_aload_n X 0 rfl dX7_picture_188 ?_
                    refine kg_X7_pictures X hi_X7_picture_X7 hf_X7_picture_90 dX7_picture_189 ?_
                    exact kb_iret X hr hlocks dX7_picture_192 (by rw [mo_pcB_sz]; unfold mo_picR; rw [if_pos (by omega)]) (by (have e : l0 = h0 := by omega); unfold mo_picM; rw [if_pos (by omega), e])
                  ·
                    refine kb_iconst X dX7_picture_105 ?_
                    refine kb_istore (lv' := [(10, kb_i 0), (0, .ref (ad 22)), (1, kb_i bb), (2, kb_i x), (3, kb_i z), (4, kb_i sx), (5, kb_i sz), (6, kb_i w), (7, kb_i h0), (8, kb_i (mo_P M)), (9, kb_i l0)]) X dX7_picture_106 (by decide) rfl ?_
                    have L108 : ∀ nn_ : Nat, ∀ (k : Int), (16 - k).toNat < nn_ → (0 ≤ k ∧ k ≤ w) → kb_B p l e ({ frames := 4, cells := 0, slots := 0, locals := 110 } : Room) s m args below meth c D ad cy (kb_A ad s.heap.size) 13 0 0 (MQ below (va_Qi (fun (vq_ : Int32) (_ : Unit) => vq_ = kb_J (mo_picR M bb x z sx sz w h0)) (fun _ t => kb_en2 D ad cy (mo_picM M bb x z sx sz w h0) t) (kb_A ad s.heap.size)) args s 0 0 (kb_A ad s.heap.size)) 108 [(0, .ref (ad 22)), (1, kb_i bb), (2, kb_i x), (3, kb_i z), (4, kb_i sx), (5, kb_i sz), (6, kb_i w), (7, kb_i h0), (8, kb_i (mo_P M)), (9, kb_i l0), (10, kb_i k)] [] ((mo_pc (mo_B0 M w h0) bb x z sx sz w (mo_P M) (w * l0 + k).toNat)) := by
                      intro nn_
                      induction nn_ with
                      | zero => intro k hn; exact absurd hn (Nat.not_lt_zero _)
                      | succ nn_ ih9 =>
                        intro k hn hK
                        refine kb_iload X 10 rfl dX7_picture_108 ?_
                        refine kb_iload X 6 rfl dX7_picture_110 ?_
                        refine kb_icmp_ge (tgt := 182) X ⟨by omega, by omega⟩ ⟨by omega, by omega⟩ dX7_picture_112 (by decide) (fun h10 => ?_) (fun h10 => ?_)
                        ·
                          refine kb_iinc (lv' := [(9, kb_i (l0 + 1)), (0, .ref (ad 22)), (1, kb_i bb), (2, kb_i x), (3, kb_i z), (4, kb_i sx), (5, kb_i sz), (6, kb_i w), (7, kb_i h0), (8, kb_i (mo_P M)), (10, kb_i k)]) X 9 rfl dX7_picture_182 rfl (by decide) rfl ?_
                          refine kb_goto (tgt := 98) X dX7_picture_185 (by decide) ?_
                          refine kb_sub [1, 2, 3, 4, 5, 6, 7, 8, 9, 0] (lv' := [(0, .ref (ad 22)), (1, kb_i bb), (2, kb_i x), (3, kb_i z), (4, kb_i sx), (5, kb_i sz), (6, kb_i w), (7, kb_i h0), (8, kb_i (mo_P M)), (9, kb_i (l0 + 1))]) rfl ?_
                          refine kb_eqM (M' := mo_pc (mo_B0 M w h0) bb x z sx sz w (mo_P M) (w * (l0 + 1)).toNat) (by rw [show w * (l0 + 1) = w * l0 + k by rw [Int.mul_add]; omega]) ?_
                          exact ih7 (l0 + 1) (by omega) (by first | omega | assumption | exact ⟨by omega, by omega⟩)
                        ·
                          have m1 := sp_mulb (a := w) (b := l0) (A := 16) (B := 15) (by omega) (by omega) (by omega) (by omega)
                          have m2 := sp_mulb (a := k) (b := sx) (A := 15) (B := 500) (by omega) (by omega) (by omega) (by omega)
                          have m3 := sp_mulb (a := l0) (b := sz) (A := 15) (B := 500) (by omega) (by omega) (by omega) (by omega)
                          have hIP1 : mo_IP ((mo_pc (mo_B0 M w h0) bb x z sx sz w (mo_P M) (w * l0 + k).toNat)) := mo_pcB_IP _ hIP
                          have hIL1 : mo_IL ((mo_pc (mo_B0 M w h0) bb x z sx sz w (mo_P M) (w * l0 + k).toNat)) := mo_pcB_IL _ hIL
                          refine kb_iload_n X 2 rfl dX7_picture_115 ?_
                          refine kb_iload X 10 rfl dX7_picture_116 ?_
                          refine kb_iload X 4 rfl dX7_picture_118 ?_
                          refine kb_imul X dX7_picture_120 ?_
                          refine kb_iadd X dX7_picture_121 ?_
                          refine kb_istore (lv' := [(11, kb_i (x + (k * sx))), (0, .ref (ad 22)), (1, kb_i bb), (2, kb_i x), (3, kb_i z), (4, kb_i sx), (5, kb_i sz), (6, kb_i w), (7, kb_i h0), (8, kb_i (mo_P M)), (9, kb_i l0), (10, kb_i k)]) X dX7_picture_122 (by decide) rfl ?_
                          refine kb_iload_n X 4 rfl dX7_picture_124 ?_
                          refine kb_iload X 10 rfl dX7_picture_125 ?_
                          refine kb_iload X 6 rfl dX7_picture_127 ?_
                          refine kb_imul X dX7_picture_129 ?_
                          refine kb_iadd X dX7_picture_130 ?_
                          refine kb_istore (lv' := [(12, kb_i (z + (l0 * sz))), (11, kb_i (x + (k * sx))), (0, .ref (ad 22)), (1, kb_i bb), (2, kb_i x), (3, kb_i z), (4, kb_i sx), (5, kb_i sz), (6, kb_i w), (7, kb_i h0), (8, kb_i (mo_P M)), (9, kb_i l0), (10, kb_i k)]) X dX7_picture_131 (by decide) rfl ?_
                          refine kb_aload_n X 2 rfl dX7_picture_133 ?_
                          refine kg_X7_pixels X hi_X7_picture_X7 hf_X7_picture_72 dX7_picture_134 ?_
                          refine kb_sipush X (by decide) dX7_picture_137 ?_
                          refine kb_iload X 10 rfl dX7_picture_140 ?_
                          refine kb_imul X dX7_picture_142 ?_
                          refine kb_iload X 12 rfl dX7_picture_143 ?_
                          refine kb_iadd X dX7_picture_145 ?_
                          refine kb_iload X 8 rfl dX7_picture_146 ?_
                          refine kb_iload X 11 rfl dX7_picture_148 ?_
                          refine kb_imul X dX7_picture_150 ?_
                          refine kb_iadd X dX7_picture_151 ?_
                          refine kb_iload X 1 rfl dX7_picture_152 ?_
                          refine kb_iload X 0 rfl dX7_picture_154 ?_
                          refine kb_cSi X (rest := [kb_i (((256 * (mo_P M)) + k) + (w * l0)), .ref (ad 34)]) [kb_i (x + (k * sx)), kb_i (z + (l0 * sz))] (c_X7_isPlace l D ad cy ((mo_pc (mo_B0 M w h0) bb x z sx sz w (mo_P M) (w * l0 + k).toNat)) (x + (k * sx)) (z + (l0 * sz)) (by first | omega | assumption | exact ⟨by omega, by omega⟩) (by first | omega | assumption | exact ⟨by omega, by omega⟩)) gX7_picture_X7_isPlace rfl hy_X7_isPlace ⟨by decide, by decide⟩ rfl (Nat.le_of_ble_eq_true rfl) ⟨by decide, by decide⟩ dX7_picture_156 rfl ?_
                          refine kb_ifb_eq (tgt := 174) X dX7_picture_159 (by decide) (fun h11 => ?_) (fun h11 => ?_)
                          ·
                            refine kb_iconst X dX7_picture_174 ?_
                            refine kb_iast X 34 (n := 1024) rfl ⟨by omega, by omega⟩ (by decide) ⟨by decide, by decide⟩ dX7_picture_175 ?_
                            refine kb_iinc (lv' := [(10, kb_i (k + 1)), (12, kb_i (z + (l0 * sz))), (11, kb_i (x + (k * sx))), (0, .ref (ad 22)), (1, kb_i bb), (2, kb_i x), (3, kb_i z), (4, kb_i sx), (5, kb_i sz), (6, kb_i w), (7, kb_i h0), (8, kb_i (mo_P M)), (9, kb_i l0)]) X 12 rfl dX7_picture_176 rfl (by decide) rfl ?_
                            refine kb_goto (tgt := 108) X dX7_picture_179 (by decide) ?_
                            refine kb_sub [3, 4, 5, 6, 7, 8, 9, 10, 11, 12, 0] (lv' := [(0, .ref (ad 22)), (1, kb_i bb), (2, kb_i x), (3, kb_i z), (4, kb_i sx), (5, kb_i sz), (6, kb_i w), (7, kb_i h0), (8, kb_i (mo_P M)), (9, kb_i l0), (10, kb_i (k + 1))]) rfl ?_
                            refine kb_eqM (M' := mo_pc (mo_B0 M w h0) bb x z sx sz w (mo_P M) (w * l0 + (k + 1)).toNat) ((mo_pcS _ _ _ _ _ _ _ _ _ _ _ (by omega) hI.1 (by unfold mo_jp; first | rw [if_pos (by omega)] | rw [if_neg (by omega)])).symm) ?_
                            exact ih9 (k + 1) (by omega) (by first | omega | assumption | exact ⟨by omega, by omega⟩)
                          ·
                            refine kb_aload_n X 2 rfl dX7_picture_162 ?_
                            refine kb_iload_n X 3 rfl dX7_picture_163 ?_
                            refine kb_iload X 1 rfl dX7_picture_164 ?_
                            refine kb_iload X 0 rfl dX7_picture_166 ?_
                            refine kb_cVi X (rest := [kb_i (((256 * (mo_P M)) + k) + (w * l0)), .ref (ad 34)]) [kb_i bb, kb_i (x + (k * sx)), kb_i (z + (l0 * sz))] 22 (fl := [none, some 23, some 24, none, none, none, none, none, none, none, none, some 25, some 26, some 27, some 28, some 29, none, some 30, some 31, none, some 32, some 33, some 34, some 35, none, none, none, some 36]) (C := RX7) rfl rfl (c_X7_meanOf l D ad cy ((mo_pc (mo_B0 M w h0) bb x z sx sz w (mo_P M) (w * l0 + k).toNat)) bb (x + (k * sx)) (z + (l0 * sz)) (by first | omega | assumption | exact ⟨by omega, by omega⟩) (by first | omega | assumption | exact ⟨by omega, by omega⟩) (by first | omega | assumption | exact ⟨by omega, by omega⟩) (by exact hIP1) (by exact hIL1)) gX7_picture_X7_meanOf rfl ⟨rfl, hy_X7_meanOf⟩ ⟨by decide, by decide⟩ rfl (Nat.le_of_ble_eq_true rfl) ⟨by decide, by decide⟩ dX7_picture_168 rfl ?_
                            have g12 : -1600 ≤ (mo_jm ((mo_pc (mo_B0 M w h0) bb x z sx sz w (mo_P M) (w * l0 + k).toNat)) bb (x + (k * sx)) (z + (l0 * sz))) ∧ (mo_jm ((mo_pc (mo_B0 M w h0) bb x z sx sz w (mo_P M) (w * l0 + k).toNat)) bb (x + (k * sx)) (z + (l0 * sz))) ≤ 1600 := by apply mo_jm_b3 <;> first | assumption | omega
                            refine kb_goto (tgt := 175) X dX7_picture_171 (by decide) ?_
                            refine kb_iast X 34 (n := 1024) rfl ⟨by omega, by omega⟩ (by decide) ⟨by omega, by omega⟩ dX7_picture_175 ?_
                            refine kb_iinc (lv' := [(10, kb_i (k + 1)), (12, kb_i (z + (l0 * sz))), (11, kb_i (x + (k * sx))), (0, .ref (ad 22)), (1, kb_i bb), (2, kb_i x), (3, kb_i z), (4, kb_i sx), (5, kb_i sz), (6, kb_i w), (7, kb_i h0), (8, kb_i (mo_P M)), (9, kb_i l0)]) X 12 rfl dX7_picture_176 rfl (by decide) rfl ?_
                            refine kb_goto (tgt := 108) X dX7_picture_179 (by decide) ?_
                            refine kb_sub [3, 4, 5, 6, 7, 8, 9, 10, 11, 12, 0] (lv' := [(0, .ref (ad 22)), (1, kb_i bb), (2, kb_i x), (3, kb_i z), (4, kb_i sx), (5, kb_i sz), (6, kb_i w), (7, kb_i h0), (8, kb_i (mo_P M)), (9, kb_i l0), (10, kb_i (k + 1))]) rfl ?_
                            refine kb_eqM (M' := mo_pc (mo_B0 M w h0) bb x z sx sz w (mo_P M) (w * l0 + (k + 1)).toNat) ((mo_pcS _ _ _ _ _ _ _ _ _ _ _ (by omega) hI.1 (by unfold mo_jp; first | rw [if_pos (by omega)] | rw [if_neg (by omega)])).symm) ?_
                            exact ih9 (k + 1) (by omega) (by first | omega | assumption | exact ⟨by omega, by omega⟩)
                    refine kb_sub [1, 2, 3, 4, 5, 6, 7, 8, 9, 10, 0] (lv' := [(0, .ref (ad 22)), (1, kb_i bb), (2, kb_i x), (3, kb_i z), (4, kb_i sx), (5, kb_i sz), (6, kb_i w), (7, kb_i h0), (8, kb_i (mo_P M)), (9, kb_i l0), (10, kb_i 0)]) rfl ?_
                    refine kb_eqM (M' := mo_pc (mo_B0 M w h0) bb x z sx sz w (mo_P M) (w * l0 + (0 : Int)).toNat) (by rw [Int.add_zero]) ?_
                    exact L108 _ (0 : Int) (Nat.lt_succ_self _) (by first | omega | assumption | exact ⟨by omega, by omega⟩)
              refine kb_sub [2, 3, 4, 5, 6, 7, 8, 9, 1, 0] (lv' := [(0, .ref (ad 22)), (1, kb_i bb), (2, kb_i x), (3, kb_i z), (4, kb_i sx), (5, kb_i sz), (6, kb_i w), (7, kb_i h0), (8, kb_i (mo_P M)), (9, kb_i 0)]) rfl ?_
              refine kb_eqM (M' := mo_pc (mo_B0 M w h0) bb x z sx sz w (mo_P M) (w * (0 : Int)).toNat) (by rw [Int.mul_zero]; rfl) ?_
              exact L98 _ (0 : Int) (Nat.lt_succ_self _) (by first | omega | assumption | exact ⟨by omega, by omega⟩)
            ·
              refine kb_bipush X (by decide) dX7_picture_68 ?_
              exact kb_iret X hr hlocks dX7_picture_70 (by unfold mo_picR; repeat (first | rw [if_pos (by omega)] | rw [if_neg (by omega)]); try first | rfl | omega) (by unfold mo_picM; rw [if_neg (by omega)])
-- X7_isPicture
theorem hf_X7_isPicture_90 : Cond.fieldLink yX7_isPicture.cls 90 RX7 "pictures" "I" ∈ wsX7_isPicture := by decide +kernel
theorem hi_X7_isPicture_X7 : ∀ w ∈ wsX70, w ∈ wsX7_isPicture := by decide +kernel
theorem hy_X7_isPicture : yX7_isPicture.cls ≠ "java/lang/invoke/MethodHandle" ∧ yX7_isPicture.cls ≠ "java/lang/invoke/VarHandle" ∧ (parseMethodDescriptor yX7_isPicture.desc).map (fun d => d.parameters.length) = some 1 := by decide +kernel
set_option maxHeartbeats 4000000 in
set_option maxRecDepth 100000 in
theorem c_X7_isPicture (l : Launch) (D : va_G) (ad : Nat → Nat) (cy : Nat → ClassId) (M : kb_M) (p0 : Int) (hp0 : -2147483648 ≤ p0 ∧ p0 < 2147483648) (hs : 0 ≤ M 22 19 ∧ M 22 19 ≤ 4) : kb_Ci l D ad cy yX7_isPicture wsX7_isPicture 1 25 [.ref (ad 22), kb_i p0] M (kb_b (0 ≤ p0 ∧ p0 ≤ M 22 19 - 1)) (M) := by
  refine kb_mkCi (cc := cX7_isPicture) (maxL := 2) (lv := [(0, .ref (ad 22)), (1, kb_i p0)]) (plainFor_of_name (by decide)) rfl (Nat.le_of_ble_eq_true rfl) rfl ?_
  intro p e s m args below meth c X hr hlocks hM
  refine kb_iload_n X 1 rfl dX7_isPicture_0 ?_
  refine kb_i2l X ⟨by omega, by omega⟩ dX7_isPicture_1 ?_
  refine kb_lconst X dX7_isPicture_2 ?_
  refine kb_eql (b := 0) rfl ?_
  refine kb_aload_n X 0 rfl dX7_isPicture_3 ?_
  refine kg_X7_pictures X hi_X7_isPicture_X7 hf_X7_isPicture_90 dX7_isPicture_4 ?_
  have g1 : -2147483648 ≤ M 22 19 ∧ M 22 19 < 2147483648 := hM 22 19
  refine kb_iconst X dX7_isPicture_7 ?_
  refine kb_isub X dX7_isPicture_8 ?_
  refine kb_i2l X ⟨by omega, by omega⟩ dX7_isPicture_9 ?_
  refine kb_cSi X (rest := []) [kb_l (p0), kb_l (0), kb_l ((M 22 19) - 1)] (c_X7_in l D ad cy M p0 0 ((M 22 19) - 1) (by first | omega | assumption | exact ⟨by omega, by omega⟩) (by first | omega | assumption | exact ⟨by omega, by omega⟩) (by first | omega | assumption | exact ⟨by omega, by omega⟩)) gX7_isPicture_X7_in rfl hy_X7_in ⟨by decide, by decide⟩ rfl (Nat.le_of_ble_eq_true rfl) ⟨by decide, by decide⟩ dX7_isPicture_10 rfl ?_
  exact kb_zret X hr hlocks (by unfold kb_b; split; exact Or.inr rfl; exact Or.inl rfl) dX7_isPicture_13 (by first | rfl | assumption | omega | exact (kb_b1 (by omega)).symm | exact (kb_b0 (by omega)).symm) (by first | rfl | (exfalso; omega))
-- X7_pixel
theorem hf_X7_pixel_66 : Cond.fieldLink yX7_pixel.cls 66 RX7 "wide" "[I" ∈ wsX7_pixel := by decide +kernel
theorem hf_X7_pixel_69 : Cond.fieldLink yX7_pixel.cls 69 RX7 "tall" "[I" ∈ wsX7_pixel := by decide +kernel
theorem hf_X7_pixel_72 : Cond.fieldLink yX7_pixel.cls 72 RX7 "pixels" "[I" ∈ wsX7_pixel := by decide +kernel
theorem hi_X7_pixel_X7 : ∀ w ∈ wsX70, w ∈ wsX7_pixel := by decide +kernel
theorem hy_X7_pixel : yX7_pixel.cls ≠ "java/lang/invoke/MethodHandle" ∧ yX7_pixel.cls ≠ "java/lang/invoke/VarHandle" ∧ (parseMethodDescriptor yX7_pixel.desc).map (fun d => d.parameters.length) = some 3 := by decide +kernel
set_option maxHeartbeats 4000000 in
set_option maxRecDepth 100000 in
theorem c_X7_pixel (l : Launch) (D : va_G) (ad : Nat → Nat) (cy : Nat → ClassId) (M : kb_M) (p0 : Int) (k : Int) (l0 : Int) (hp0 : -2147483648 ≤ p0 ∧ p0 < 2147483648) (hk : -2147483648 ≤ k ∧ k < 2147483648) (hl0 : -2147483648 ≤ l0 ∧ l0 < 2147483648) (hIR : mo_IR M) : kb_Ci l D ad cy yX7_pixel wsX7_pixel 2 46 [.ref (ad 22), kb_i p0, kb_i k, kb_i l0] M (mo_pixelR M p0 k l0) (M) := by
  refine kb_mkCi (cc := cX7_pixel) (maxL := 4) (lv := [(0, .ref (ad 22)), (1, kb_i p0), (2, kb_i k), (3, kb_i l0)]) (plainFor_of_name (by decide)) rfl (Nat.le_of_ble_eq_true rfl) rfl ?_
  intro p e s m args below meth c X hr hlocks hM
  obtain ⟨hrs, hwh⟩ := id hIR
  refine kb_aload_n X 0 rfl dX7_pixel_0 ?_
  refine kb_iload_n X 1 rfl dX7_pixel_1 ?_
  refine kb_cVi X (rest := []) [kb_i p0] 22 (fl := [none, some 23, some 24, none, none, none, none, none, none, none, none, some 25, some 26, some 27, some 28, some 29, none, some 30, some 31, none, some 32, some 33, some 34, some 35, none, none, none, some 36]) (C := RX7) rfl rfl (c_X7_isPicture l D ad cy M p0 (by first | omega | assumption | exact ⟨by omega, by omega⟩) (by first | omega | assumption | exact ⟨by omega, by omega⟩)) gX7_pixel_X7_isPicture rfl ⟨rfl, hy_X7_isPicture⟩ ⟨by decide, by decide⟩ rfl (Nat.le_of_ble_eq_true rfl) ⟨by decide, by decide⟩ dX7_pixel_2 rfl ?_
  refine kb_ifb_eq (tgt := 68) X dX7_pixel_5 (by decide) (fun h1 => ?_) (fun h1 => ?_)
  ·
    refine kb_ldc (v := -1000000000) X (-1000000000) (by decide +kernel) (by decide) dX7_pixel_68 ?_
    exact kb_iret X hr hlocks dX7_pixel_70 (by unfold mo_pixelR; repeat (first | rw [if_pos (by omega)] | rw [if_neg (by omega)]); try first | rfl | omega) (by first | rfl | (exfalso; omega))
  ·
    have wb := hwh p0 (by omega) (by omega)
    refine kb_iload_n X 2 rfl dX7_pixel_8 ?_
    refine kb_i2l X ⟨by omega, by omega⟩ dX7_pixel_9 ?_
    refine kb_lconst X dX7_pixel_10 ?_
    refine kb_eql (b := 0) rfl ?_
    refine kb_aload_n X 0 rfl dX7_pixel_11 ?_
    refine kg_X7_wide X hi_X7_pixel_X7 hf_X7_pixel_66 dX7_pixel_12 ?_
    refine kb_iload_n X 1 rfl dX7_pixel_15 ?_
    refine kb_iald X 32 (n := 4) rfl ⟨by omega, by omega⟩ (by decide) dX7_pixel_16 ?_
    have g2 : -2147483648 ≤ M 32 p0 ∧ M 32 p0 < 2147483648 := hM 32 p0
    refine kb_iconst X dX7_pixel_17 ?_
    refine kb_isub X dX7_pixel_18 ?_
    refine kb_i2l X ⟨by omega, by omega⟩ dX7_pixel_19 ?_
    refine kb_cSi X (rest := []) [kb_l (k), kb_l (0), kb_l ((M 32 p0) - 1)] (c_X7_in l D ad cy M k 0 ((M 32 p0) - 1) (by first | omega | assumption | exact ⟨by omega, by omega⟩) (by first | omega | assumption | exact ⟨by omega, by omega⟩) (by first | omega | assumption | exact ⟨by omega, by omega⟩)) gX7_pixel_X7_in rfl hy_X7_in ⟨by decide, by decide⟩ rfl (Nat.le_of_ble_eq_true rfl) ⟨by decide, by decide⟩ dX7_pixel_20 rfl ?_
    refine kb_ifb_eq (tgt := 68) X dX7_pixel_23 (by decide) (fun h3 => ?_) (fun h3 => ?_)
    ·
      refine kb_ldc (v := -1000000000) X (-1000000000) (by decide +kernel) (by decide) dX7_pixel_68 ?_
      exact kb_iret X hr hlocks dX7_pixel_70 (by unfold mo_pixelR; repeat (first | rw [if_pos (by omega)] | rw [if_neg (by omega)]); try first | rfl | omega) (by first | rfl | (exfalso; omega))
    ·
      refine kb_iload_n X 3 rfl dX7_pixel_26 ?_
      refine kb_i2l X ⟨by omega, by omega⟩ dX7_pixel_27 ?_
      refine kb_lconst X dX7_pixel_28 ?_
      refine kb_eql (b := 0) rfl ?_
      refine kb_aload_n X 0 rfl dX7_pixel_29 ?_
      refine kg_X7_tall X hi_X7_pixel_X7 hf_X7_pixel_69 dX7_pixel_30 ?_
      refine kb_iload_n X 1 rfl dX7_pixel_33 ?_
      refine kb_iald X 33 (n := 4) rfl ⟨by omega, by omega⟩ (by decide) dX7_pixel_34 ?_
      have g4 : -2147483648 ≤ M 33 p0 ∧ M 33 p0 < 2147483648 := hM 33 p0
      refine kb_iconst X dX7_pixel_35 ?_
      refine kb_isub X dX7_pixel_36 ?_
      refine kb_i2l X ⟨by omega, by omega⟩ dX7_pixel_37 ?_
      refine kb_cSi X (rest := []) [kb_l (l0), kb_l (0), kb_l ((M 33 p0) - 1)] (c_X7_in l D ad cy M l0 0 ((M 33 p0) - 1) (by first | omega | assumption | exact ⟨by omega, by omega⟩) (by first | omega | assumption | exact ⟨by omega, by omega⟩) (by first | omega | assumption | exact ⟨by omega, by omega⟩)) gX7_pixel_X7_in rfl hy_X7_in ⟨by decide, by decide⟩ rfl (Nat.le_of_ble_eq_true rfl) ⟨by decide, by decide⟩ dX7_pixel_38 rfl ?_
      refine kb_ifb_eq (tgt := 68) X dX7_pixel_41 (by decide) (fun h5 => ?_) (fun h5 => ?_)
      ·
        refine kb_ldc (v := -1000000000) X (-1000000000) (by decide +kernel) (by decide) dX7_pixel_68 ?_
        exact kb_iret X hr hlocks dX7_pixel_70 (by unfold mo_pixelR; repeat (first | rw [if_pos (by omega)] | rw [if_neg (by omega)]); try first | rfl | omega) (by first | rfl | (exfalso; omega))
      ·
        have m1 := sp_mulb (a := M 32 p0) (b := l0) (A := 16) (B := 15) (by omega) (by omega) (by omega) (by omega)
        refine kb_aload_n X 0 rfl dX7_pixel_44 ?_
        refine kg_X7_pixels X hi_X7_pixel_X7 hf_X7_pixel_72 dX7_pixel_45 ?_
        refine kb_sipush X (by decide) dX7_pixel_48 ?_
        refine kb_iload_n X 1 rfl dX7_pixel_51 ?_
        refine kb_imul X dX7_pixel_52 ?_
        refine kb_iload_n X 2 rfl dX7_pixel_53 ?_
        refine kb_iadd X dX7_pixel_54 ?_
        refine kb_aload_n X 0 rfl dX7_pixel_55 ?_
        refine kg_X7_wide X hi_X7_pixel_X7 hf_X7_pixel_66 dX7_pixel_56 ?_
        refine kb_iload_n X 1 rfl dX7_pixel_59 ?_
        refine kb_iald X 32 (n := 4) rfl ⟨by omega, by omega⟩ (by decide) dX7_pixel_60 ?_
        refine kb_iload_n X 3 rfl dX7_pixel_61 ?_
        refine kb_imul X dX7_pixel_62 ?_
        refine kb_iadd X dX7_pixel_63 ?_
        refine kb_iald X 34 (n := 1024) rfl ⟨by omega, by omega⟩ (by decide) dX7_pixel_64 ?_
        have g6 : -2147483648 ≤ M 34 (((256 * p0) + k) + ((M 32 p0) * l0)) ∧ M 34 (((256 * p0) + k) + ((M 32 p0) * l0)) < 2147483648 := hM 34 (((256 * p0) + k) + ((M 32 p0) * l0))
        refine kb_goto (tgt := 70) X dX7_pixel_65 (by decide) ?_
        exact kb_iret X hr hlocks dX7_pixel_70 (by unfold mo_pixelR; repeat (first | rw [if_pos (by omega)] | rw [if_neg (by omega)]); try first | rfl | omega) (by first | rfl | (exfalso; omega))
-- X7_about
theorem hf_X7_about_66 : Cond.fieldLink yX7_about.cls 66 RX7 "wide" "[I" ∈ wsX7_about := by decide +kernel
theorem hf_X7_about_69 : Cond.fieldLink yX7_about.cls 69 RX7 "tall" "[I" ∈ wsX7_about := by decide +kernel
theorem hf_X7_about_72 : Cond.fieldLink yX7_about.cls 72 RX7 "pixels" "[I" ∈ wsX7_about := by decide +kernel
theorem hi_X7_about_X7 : ∀ w ∈ wsX70, w ∈ wsX7_about := by decide +kernel
theorem hy_X7_about : yX7_about.cls ≠ "java/lang/invoke/MethodHandle" ∧ yX7_about.cls ≠ "java/lang/invoke/VarHandle" ∧ (parseMethodDescriptor yX7_about.desc).map (fun d => d.parameters.length) = some 2 := by decide +kernel
set_option maxHeartbeats 4000000 in
set_option maxRecDepth 100000 in
theorem c_X7_about (l : Launch) (D : va_G) (ad : Nat → Nat) (cy : Nat → ClassId) (M : kb_M) (p0 : Int) (t0 : Int) (hp0 : -2147483648 ≤ p0 ∧ p0 < 2147483648) (ht0 : -2147483648 ≤ t0 ∧ t0 < 2147483648) (hIR : mo_IR M) : kb_Ci l D ad cy yX7_about wsX7_about 2 46 [.ref (ad 22), kb_i p0, kb_i t0] M (mo_aboutR M p0 t0) (M) := by
  refine kb_mkCi (cc := cX7_about) (maxL := 5) (lv := [(0, .ref (ad 22)), (1, kb_i p0), (2, kb_i t0)]) (plainFor_of_name (by decide)) rfl (Nat.le_of_ble_eq_true rfl) rfl ?_
  intro p e s m args below meth c X hr hlocks hM
  obtain ⟨hrs, hwh⟩ := id hIR
  refine kb_aload_n X 0 rfl dX7_about_0 ?_
  refine kb_iload_n X 1 rfl dX7_about_1 ?_
  refine kb_cVi X (rest := []) [kb_i p0] 22 (fl := [none, some 23, some 24, none, none, none, none, none, none, none, none, some 25, some 26, some 27, some 28, some 29, none, some 30, some 31, none, some 32, some 33, some 34, some 35, none, none, none, some 36]) (C := RX7) rfl rfl (c_X7_isPicture l D ad cy M p0 (by first | omega | assumption | exact ⟨by omega, by omega⟩) (by first | omega | assumption | exact ⟨by omega, by omega⟩)) gX7_about_X7_isPicture rfl ⟨rfl, hy_X7_isPicture⟩ ⟨by decide, by decide⟩ rfl (Nat.le_of_ble_eq_true rfl) ⟨by decide, by decide⟩ dX7_about_2 rfl ?_
  refine kb_ifb_eq (tgt := 20) X dX7_about_5 (by decide) (fun h1 => ?_) (fun h1 => ?_)
  ·
    refine kb_bipush X (by decide) dX7_about_20 ?_
    exact kb_iret X hr hlocks dX7_about_22 (by unfold mo_aboutR; first | rw [if_neg (by omega)] | (rw [if_pos (by omega), ← eb]; repeat (first | rw [if_pos (by omega)] | rw [if_neg (by omega)]))) (by first | rfl | (exfalso; omega))
  ·
    refine kb_iload_n X 2 rfl dX7_about_8 ?_
    refine kb_i2l X ⟨by omega, by omega⟩ dX7_about_9 ?_
    refine kb_lconst X dX7_about_10 ?_
    refine kb_eql (b := 0) rfl ?_
    refine kb_ldc2 (v := 3) X (3) (by decide +kernel) (by decide) dX7_about_11 ?_
    refine kb_cSi X (rest := []) [kb_l (t0), kb_l (0), kb_l (3)] (c_X7_in l D ad cy M t0 0 3 (by first | omega | assumption | exact ⟨by omega, by omega⟩) (by first | omega | assumption | exact ⟨by omega, by omega⟩) (by first | omega | assumption | exact ⟨by omega, by omega⟩)) gX7_about_X7_in rfl hy_X7_in ⟨by decide, by decide⟩ rfl (Nat.le_of_ble_eq_true rfl) ⟨by decide, by decide⟩ dX7_about_14 rfl ?_
    refine kb_ifb_ne (tgt := 23) X dX7_about_17 (by decide) (fun h2 => ?_) (fun h2 => ?_)
    ·
      have wb := hwh p0 (by omega) (by omega)
      have mb := sp_mulb (a := M 32 p0) (b := M 33 p0) (A := 16) (B := 16) (by omega) (by omega) (by omega) (by omega)
      refine kb_iconst X dX7_about_23 ?_
      refine kb_istore_n (lv' := [(3, kb_i 0), (0, .ref (ad 22)), (1, kb_i p0), (2, kb_i t0)]) X dX7_about_24 (by decide) rfl ?_
      refine kb_iconst X dX7_about_25 ?_
      refine kb_istore (lv' := [(4, kb_i 1), (3, kb_i 0), (0, .ref (ad 22)), (1, kb_i p0), (2, kb_i t0)]) X dX7_about_26 (by decide) rfl ?_
      have L28 : ∀ nn_ : Nat, ∀ (b k : Int), (300 - k).toNat < nn_ → (0 ≤ b ∧ b < k ∧ 1 ≤ k ∧ k ≤ 300) → (k ≤ M 32 p0 * M 33 p0 ∨ k = 1) → (b = sp_best (fun k => M 34 (256 * p0 + k)) (k - 1).toNat) → kb_B p l e ({ frames := 2, cells := 0, slots := 0, locals := 46 } : Room) s m args below meth c D ad cy (kb_A ad s.heap.size) 5 0 0 (MQ below (va_Qi (fun (vq_ : Int32) (_ : Unit) => vq_ = kb_J (mo_aboutR M p0 t0)) (fun _ t => kb_en2 D ad cy (M) t) (kb_A ad s.heap.size)) args s 0 0 (kb_A ad s.heap.size)) 28 [(0, .ref (ad 22)), (1, kb_i p0), (2, kb_i t0), (3, kb_i b), (4, kb_i k)] [] M := by
        intro nn_
        induction nn_ with
        | zero => intro b k hn; exact absurd hn (Nat.not_lt_zero _)
        | succ nn_ ih3 =>
          intro b k hn hI hK hJ
          refine kb_iload X 4 rfl dX7_about_28 ?_
          refine kb_aload_n X 0 rfl dX7_about_30 ?_
          refine kg_X7_wide X hi_X7_about_X7 hf_X7_about_66 dX7_about_31 ?_
          refine kb_iload_n X 1 rfl dX7_about_34 ?_
          refine kb_iald X 32 (n := 4) rfl ⟨by omega, by omega⟩ (by decide) dX7_about_35 ?_
          have g4 : -2147483648 ≤ M 32 p0 ∧ M 32 p0 < 2147483648 := hM 32 p0
          refine kb_aload_n X 0 rfl dX7_about_36 ?_
          refine kg_X7_tall X hi_X7_about_X7 hf_X7_about_69 dX7_about_37 ?_
          refine kb_iload_n X 1 rfl dX7_about_40 ?_
          refine kb_iald X 33 (n := 4) rfl ⟨by omega, by omega⟩ (by decide) dX7_about_41 ?_
          have g5 : -2147483648 ≤ M 33 p0 ∧ M 33 p0 < 2147483648 := hM 33 p0
          refine kb_imul X dX7_about_42 ?_
          refine kb_icmp_ge (tgt := 87) X ⟨by omega, by omega⟩ ⟨by omega, by omega⟩ dX7_about_43 (by decide) (fun h6 => ?_) (fun h6 => ?_)
          ·
            have eb : b = mo_mxI M p0 := by rw [hJ]; unfold mo_mxI; congr 1; omega
            refine kb_iload_n X 2 rfl dX7_about_87 ?_
            refine kb_if_ne (tgt := 100) X ⟨by omega, by omega⟩ dX7_about_88 (by decide) (fun h7 => ?_) (fun h7 => ?_)
            ·
              refine kb_iload_n X 2 rfl dX7_about_100 ?_
              refine kb_iconst X dX7_about_101 ?_
              refine kb_icmp_ne (tgt := 114) X ⟨by omega, by omega⟩ ⟨by decide, by decide⟩ dX7_about_102 (by decide) (fun h8 => ?_) (fun h8 => ?_)
              ·
                refine kb_iload_n X 2 rfl dX7_about_114 ?_
                refine kb_iconst X dX7_about_115 ?_
                refine kb_icmp_ne (tgt := 134) X ⟨by omega, by omega⟩ ⟨by decide, by decide⟩ dX7_about_116 (by decide) (fun h9 => ?_) (fun h9 => ?_)
                ·
                  refine kb_iload_n X 3 rfl dX7_about_134 ?_
                  exact kb_iret X hr hlocks dX7_about_135 (by unfold mo_aboutR; first | rw [if_neg (by omega)] | (rw [if_pos (by omega), ← eb]; repeat (first | rw [if_pos (by omega)] | rw [if_neg (by omega)]))) (by first | rfl | (exfalso; omega))
                ·
                  refine kb_aload_n X 0 rfl dX7_about_119 ?_
                  refine kg_X7_pixels X hi_X7_about_X7 hf_X7_about_72 dX7_about_120 ?_
                  refine kb_sipush X (by decide) dX7_about_123 ?_
                  refine kb_iload_n X 1 rfl dX7_about_126 ?_
                  refine kb_imul X dX7_about_127 ?_
                  refine kb_iload_n X 3 rfl dX7_about_128 ?_
                  refine kb_iadd X dX7_about_129 ?_
                  refine kb_iald X 34 (n := 1024) rfl ⟨by omega, by omega⟩ (by decide) dX7_about_130 ?_
                  have g10 : -2147483648 ≤ M 34 ((256 * p0) + b) ∧ M 34 ((256 * p0) + b) < 2147483648 := hM 34 ((256 * p0) + b)
                  refine kb_goto (tgt := 135) X dX7_about_131 (by decide) ?_
                  exact kb_iret X hr hlocks dX7_about_135 (by unfold mo_aboutR; first | rw [if_neg (by omega)] | (rw [if_pos (by omega), ← eb]; repeat (first | rw [if_pos (by omega)] | rw [if_neg (by omega)]))) (by first | rfl | (exfalso; omega))
              ·
                refine kb_aload_n X 0 rfl dX7_about_105 ?_
                refine kg_X7_tall X hi_X7_about_X7 hf_X7_about_69 dX7_about_106 ?_
                refine kb_iload_n X 1 rfl dX7_about_109 ?_
                refine kb_iald X 33 (n := 4) rfl ⟨by omega, by omega⟩ (by decide) dX7_about_110 ?_
                refine kb_goto (tgt := 135) X dX7_about_111 (by decide) ?_
                exact kb_iret X hr hlocks dX7_about_135 (by unfold mo_aboutR; first | rw [if_neg (by omega)] | (rw [if_pos (by omega), ← eb]; repeat (first | rw [if_pos (by omega)] | rw [if_neg (by omega)]))) (by first | rfl | (exfalso; omega))
            ·
              refine kb_aload_n X 0 rfl dX7_about_91 ?_
              refine kg_X7_wide X hi_X7_about_X7 hf_X7_about_66 dX7_about_92 ?_
              refine kb_iload_n X 1 rfl dX7_about_95 ?_
              refine kb_iald X 32 (n := 4) rfl ⟨by omega, by omega⟩ (by decide) dX7_about_96 ?_
              refine kb_goto (tgt := 135) X dX7_about_97 (by decide) ?_
              exact kb_iret X hr hlocks dX7_about_135 (by unfold mo_aboutR; first | rw [if_neg (by omega)] | (rw [if_pos (by omega), ← eb]; repeat (first | rw [if_pos (by omega)] | rw [if_neg (by omega)]))) (by first | rfl | (exfalso; omega))
          ·
            refine kb_aload_n X 0 rfl dX7_about_46 ?_
            refine kg_X7_pixels X hi_X7_about_X7 hf_X7_about_72 dX7_about_47 ?_
            refine kb_sipush X (by decide) dX7_about_50 ?_
            refine kb_iload_n X 1 rfl dX7_about_53 ?_
            refine kb_imul X dX7_about_54 ?_
            refine kb_iload X 4 rfl dX7_about_55 ?_
            refine kb_iadd X dX7_about_57 ?_
            refine kb_iald X 34 (n := 1024) rfl ⟨by omega, by omega⟩ (by decide) dX7_about_58 ?_
            have g11 : -2147483648 ≤ M 34 ((256 * p0) + k) ∧ M 34 ((256 * p0) + k) < 2147483648 := hM 34 ((256 * p0) + k)
            refine kb_aload_n X 0 rfl dX7_about_59 ?_
            refine kg_X7_pixels X hi_X7_about_X7 hf_X7_about_72 dX7_about_60 ?_
            refine kb_sipush X (by decide) dX7_about_63 ?_
            refine kb_iload_n X 1 rfl dX7_about_66 ?_
            refine kb_imul X dX7_about_67 ?_
            refine kb_iload_n X 3 rfl dX7_about_68 ?_
            refine kb_iadd X dX7_about_69 ?_
            refine kb_iald X 34 (n := 1024) rfl ⟨by omega, by omega⟩ (by decide) dX7_about_70 ?_
            have g12 : -2147483648 ≤ M 34 ((256 * p0) + b) ∧ M 34 ((256 * p0) + b) < 2147483648 := hM 34 ((256 * p0) + b)
            refine kb_icmp_le (tgt := 79) X ⟨by omega, by omega⟩ ⟨by omega, by omega⟩ dX7_about_71 (by decide) (fun h13 => ?_) (fun h13 => ?_)
            ·
              refine kb_iload_n X 3 rfl dX7_about_79 ?_
              refine kb_istore_n (lv' := [(3, kb_i b), (0, .ref (ad 22)), (1, kb_i p0), (2, kb_i t0), (4, kb_i k)]) X dX7_about_80 (by decide) rfl ?_
              refine kb_iinc (lv' := [(4, kb_i (k + 1)), (3, kb_i b), (0, .ref (ad 22)), (1, kb_i p0), (2, kb_i t0)]) X 4 rfl dX7_about_81 rfl (by decide) rfl ?_
              refine kb_goto (tgt := 28) X dX7_about_84 (by decide) ?_
              refine kb_sub [2, 3, 4, 1, 0] (lv' := [(0, .ref (ad 22)), (1, kb_i p0), (2, kb_i t0), (3, kb_i b), (4, kb_i (k + 1))]) rfl ?_
              exact ih3 b (k + 1) (by omega) (by first | omega | assumption | exact ⟨by omega, by omega⟩) (by omega) (by rw [sp_bestS _ (by omega)]; rw [← hJ]; first | (rw [if_pos (by omega)]) | (rw [if_neg (by omega)]))
            ·
              refine kb_iload X 4 rfl dX7_about_74 ?_
              refine kb_goto (tgt := 80) X dX7_about_76 (by decide) ?_
              refine kb_istore_n (lv' := [(3, kb_i k), (0, .ref (ad 22)), (1, kb_i p0), (2, kb_i t0), (4, kb_i k)]) X dX7_about_80 (by decide) rfl ?_
              refine kb_iinc (lv' := [(4, kb_i (k + 1)), (3, kb_i k), (0, .ref (ad 22)), (1, kb_i p0), (2, kb_i t0)]) X 4 rfl dX7_about_81 rfl (by decide) rfl ?_
              refine kb_goto (tgt := 28) X dX7_about_84 (by decide) ?_
              refine kb_sub [2, 3, 4, 1, 0] (lv' := [(0, .ref (ad 22)), (1, kb_i p0), (2, kb_i t0), (3, kb_i k), (4, kb_i (k + 1))]) rfl ?_
              exact ih3 k (k + 1) (by omega) (by first | omega | assumption | exact ⟨by omega, by omega⟩) (by omega) (by rw [sp_bestS _ (by omega)]; rw [← hJ]; first | (rw [if_pos (by omega)]) | (rw [if_neg (by omega)]))
      refine kb_sub [2, 3, 4, 1, 0] (lv' := [(0, .ref (ad 22)), (1, kb_i p0), (2, kb_i t0), (3, kb_i 0), (4, kb_i 1)]) rfl ?_
      exact L28 _ (0 : Int) (1 : Int) (Nat.lt_succ_self _) (by first | omega | assumption | exact ⟨by omega, by omega⟩) (by omega) (rfl)
    ·
      refine kb_bipush X (by decide) dX7_about_20 ?_
      exact kb_iret X hr hlocks dX7_about_22 (by unfold mo_aboutR; first | rw [if_neg (by omega)] | (rw [if_pos (by omega), ← eb]; repeat (first | rw [if_pos (by omega)] | rw [if_neg (by omega)]))) (by first | rfl | (exfalso; omega))
-- X7_differ
theorem hf_X7_differ_66 : Cond.fieldLink yX7_differ.cls 66 RX7 "wide" "[I" ∈ wsX7_differ := by decide +kernel
theorem hf_X7_differ_69 : Cond.fieldLink yX7_differ.cls 69 RX7 "tall" "[I" ∈ wsX7_differ := by decide +kernel
theorem hf_X7_differ_72 : Cond.fieldLink yX7_differ.cls 72 RX7 "pixels" "[I" ∈ wsX7_differ := by decide +kernel
theorem hf_X7_differ_75 : Cond.fieldLink yX7_differ.cls 75 RX7 "made" "[I" ∈ wsX7_differ := by decide +kernel
theorem hf_X7_differ_90 : Cond.fieldLink yX7_differ.cls 90 RX7 "pictures" "I" ∈ wsX7_differ := by decide +kernel
theorem hi_X7_differ_X7 : ∀ w ∈ wsX70, w ∈ wsX7_differ := by decide +kernel
theorem hy_X7_differ : yX7_differ.cls ≠ "java/lang/invoke/MethodHandle" ∧ yX7_differ.cls ≠ "java/lang/invoke/VarHandle" ∧ (parseMethodDescriptor yX7_differ.desc).map (fun d => d.parameters.length) = some 2 := by decide +kernel
set_option maxHeartbeats 4000000 in
set_option maxRecDepth 100000 in
theorem c_X7_differ (l : Launch) (D : va_G) (ad : Nat → Nat) (cy : Nat → ClassId) (M : kb_M) (p0 : Int) (q0 : Int) (hp0 : -2147483648 ≤ p0 ∧ p0 < 2147483648) (hq0 : -2147483648 ≤ q0 ∧ q0 < 2147483648) (hIR : mo_IR M) : kb_Ci l D ad cy yX7_differ wsX7_differ 2 46 [.ref (ad 22), kb_i p0, kb_i q0] M (mo_difR M p0 q0) (mo_difM M p0 q0) := by
  refine kb_mkCi (cc := cX7_differ) (maxL := 7) (lv := [(0, .ref (ad 22)), (1, kb_i p0), (2, kb_i q0)]) (plainFor_of_name (by decide)) rfl (Nat.le_of_ble_eq_true rfl) rfl ?_
  intro p e s m args below meth c X hr hlocks hM
  obtain ⟨hrs, hwh⟩ := id hIR
  refine kb_aload_n X 0 rfl dX7_differ_0 ?_
  refine kb_iload_n X 1 rfl dX7_differ_1 ?_
  refine kb_cVi X (rest := []) [kb_i p0] 22 (fl := [none, some 23, some 24, none, none, none, none, none, none, none, none, some 25, some 26, some 27, some 28, some 29, none, some 30, some 31, none, some 32, some 33, some 34, some 35, none, none, none, some 36]) (C := RX7) rfl rfl (c_X7_isPicture l D ad cy M p0 (by first | omega | assumption | exact ⟨by omega, by omega⟩) (by first | omega | assumption | exact ⟨by omega, by omega⟩)) gX7_differ_X7_isPicture rfl ⟨rfl, hy_X7_isPicture⟩ ⟨by decide, by decide⟩ rfl (Nat.le_of_ble_eq_true rfl) ⟨by decide, by decide⟩ dX7_differ_2 rfl ?_
  refine kb_ifb_eq (tgt := 16) X dX7_differ_5 (by decide) (fun h1 => ?_) (fun h1 => ?_)
  ·
    refine kb_bipush X (by decide) dX7_differ_16 ?_
    exact kb_iret X hr hlocks dX7_differ_18 (by unfold mo_difR; repeat (first | rw [if_pos (by omega)] | rw [if_neg (by omega)]); try first | rfl | omega) (by unfold mo_difM; rw [if_neg (by omega)])
  ·
    refine kb_aload_n X 0 rfl dX7_differ_8 ?_
    refine kb_iload_n X 2 rfl dX7_differ_9 ?_
    refine kb_cVi X (rest := []) [kb_i q0] 22 (fl := [none, some 23, some 24, none, none, none, none, none, none, none, none, some 25, some 26, some 27, some 28, some 29, none, some 30, some 31, none, some 32, some 33, some 34, some 35, none, none, none, some 36]) (C := RX7) rfl rfl (c_X7_isPicture l D ad cy M q0 (by first | omega | assumption | exact ⟨by omega, by omega⟩) (by first | omega | assumption | exact ⟨by omega, by omega⟩)) gX7_differ_X7_isPicture rfl ⟨rfl, hy_X7_isPicture⟩ ⟨by decide, by decide⟩ rfl (Nat.le_of_ble_eq_true rfl) ⟨by decide, by decide⟩ dX7_differ_10 rfl ?_
    refine kb_ifb_ne (tgt := 19) X dX7_differ_13 (by decide) (fun h2 => ?_) (fun h2 => ?_)
    ·
      have wb := hwh p0 (by omega) (by omega)
      have wb2 := hwh q0 (by omega) (by omega)
      have mb := sp_mulb (a := M 32 p0) (b := M 33 p0) (A := 16) (B := 16) (by omega) (by omega) (by omega) (by omega)
      have hpb := mo_P_b hrs
      refine kb_aload_n X 0 rfl dX7_differ_19 ?_
      refine kg_X7_wide X hi_X7_differ_X7 hf_X7_differ_66 dX7_differ_20 ?_
      refine kb_iload_n X 1 rfl dX7_differ_23 ?_
      refine kb_iald X 32 (n := 4) rfl ⟨by omega, by omega⟩ (by decide) dX7_differ_24 ?_
      have g3 : -2147483648 ≤ M 32 p0 ∧ M 32 p0 < 2147483648 := hM 32 p0
      refine kb_aload_n X 0 rfl dX7_differ_25 ?_
      refine kg_X7_wide X hi_X7_differ_X7 hf_X7_differ_66 dX7_differ_26 ?_
      refine kb_iload_n X 2 rfl dX7_differ_29 ?_
      refine kb_iald X 32 (n := 4) rfl ⟨by omega, by omega⟩ (by decide) dX7_differ_30 ?_
      have g4 : -2147483648 ≤ M 32 q0 ∧ M 32 q0 < 2147483648 := hM 32 q0
      refine kb_icmp_ne (tgt := 49) X ⟨by omega, by omega⟩ ⟨by omega, by omega⟩ dX7_differ_31 (by decide) (fun h5 => ?_) (fun h5 => ?_)
      ·
        refine kb_bipush X (by decide) dX7_differ_49 ?_
        exact kb_iret X hr hlocks dX7_differ_51 (by unfold mo_difR; repeat (first | rw [if_pos (by omega)] | rw [if_neg (by omega)]); try first | rfl | omega) (by unfold mo_difM; rw [if_neg (by omega)])
      ·
        refine kb_aload_n X 0 rfl dX7_differ_34 ?_
        refine kg_X7_tall X hi_X7_differ_X7 hf_X7_differ_69 dX7_differ_35 ?_
        refine kb_iload_n X 1 rfl dX7_differ_38 ?_
        refine kb_iald X 33 (n := 4) rfl ⟨by omega, by omega⟩ (by decide) dX7_differ_39 ?_
        have g6 : -2147483648 ≤ M 33 p0 ∧ M 33 p0 < 2147483648 := hM 33 p0
        refine kb_aload_n X 0 rfl dX7_differ_40 ?_
        refine kg_X7_tall X hi_X7_differ_X7 hf_X7_differ_69 dX7_differ_41 ?_
        refine kb_iload_n X 2 rfl dX7_differ_44 ?_
        refine kb_iald X 33 (n := 4) rfl ⟨by omega, by omega⟩ (by decide) dX7_differ_45 ?_
        have g7 : -2147483648 ≤ M 33 q0 ∧ M 33 q0 < 2147483648 := hM 33 q0
        refine kb_icmp_eq (tgt := 52) X ⟨by omega, by omega⟩ ⟨by omega, by omega⟩ dX7_differ_46 (by decide) (fun h8 => ?_) (fun h8 => ?_)
        ·
          refine kb_aload_n X 0 rfl dX7_differ_52 ?_
          refine kg_X7_wide X hi_X7_differ_X7 hf_X7_differ_66 dX7_differ_53 ?_
          refine kb_iload_n X 1 rfl dX7_differ_56 ?_
          refine kb_iald X 32 (n := 4) rfl ⟨by omega, by omega⟩ (by decide) dX7_differ_57 ?_
          refine kb_istore_n (lv' := [(3, kb_i (M 32 p0)), (0, .ref (ad 22)), (1, kb_i p0), (2, kb_i q0)]) X dX7_differ_58 (by decide) rfl ?_
          refine kb_aload_n X 1 rfl dX7_differ_59 ?_
          refine kg_X7_tall X hi_X7_differ_X7 hf_X7_differ_69 dX7_differ_60 ?_
          refine kb_iload_n X 2 rfl dX7_differ_63 ?_
          refine kb_iald X 33 (n := 4) rfl ⟨by omega, by omega⟩ (by decide) dX7_differ_64 ?_
          refine kb_istore (lv' := [(4, kb_i (M 33 p0)), (3, kb_i (M 32 p0)), (0, .ref (ad 22)), (1, kb_i p0), (2, kb_i q0)]) X dX7_differ_65 (by decide) rfl ?_
          refine kb_iconst X dX7_differ_67 ?_
          refine kb_istore (lv' := [(5, kb_i 0), (4, kb_i (M 33 p0)), (3, kb_i (M 32 p0)), (0, .ref (ad 22)), (1, kb_i p0), (2, kb_i q0)]) X dX7_differ_68 (by decide) rfl ?_
          have L70 : ∀ nn_ : Nat, ∀ (k : Int), (256 - k).toNat < nn_ → (0 ≤ k ∧ k ≤ M 32 p0 * M 33 p0) → kb_B p l e ({ frames := 2, cells := 0, slots := 0, locals := 46 } : Room) s m args below meth c D ad cy (kb_A ad s.heap.size) 7 0 0 (MQ below (va_Qi (fun (vq_ : Int32) (_ : Unit) => vq_ = kb_J (mo_difR M p0 q0)) (fun _ t => kb_en2 D ad cy (mo_difM M p0 q0) t) (kb_A ad s.heap.size)) args s 0 0 (kb_A ad s.heap.size)) 70 [(0, .ref (ad 22)), (1, kb_i p0), (2, kb_i q0), (3, kb_i (M 32 p0)), (4, kb_i (M 33 p0)), (5, kb_i k)] [] ((mo_md M p0 q0 k)) := by
            intro nn_
            induction nn_ with
            | zero => intro k hn; exact absurd hn (Nat.not_lt_zero _)
            | succ nn_ ih9 =>
              intro k hn hK
              refine kb_iload X 5 rfl dX7_differ_70 ?_
              refine kb_iload_n X 3 rfl dX7_differ_72 ?_
              refine kb_iload X 4 rfl dX7_differ_73 ?_
              refine kb_imul X dX7_differ_75 ?_
              refine kb_icmp_ge (tgt := 119) X ⟨by omega, by omega⟩ ⟨by omega, by omega⟩ dX7_differ_76 (by decide) (fun h10 => ?_) (fun h10 => ?_)
              ·
                refine kb_aload_n X 0 rfl dX7_differ_119 ?_
                refine kb_cVi X (rest := []) [] 22 (fl := [none, some 23, some 24, none, none, none, none, none, none, none, none, some 25, some 26, some 27, some 28, some 29, none, some 30, some 31, none, some 32, some 33, some 34, some 35, none, none, none, some 36]) (C := RX7) rfl rfl (c_X7_next l D ad cy ((mo_md M p0 q0 k))  (show 0 ≤ M 22 19 ∧ M 22 19 ≤ 4 from (by first | omega | assumption | exact ⟨by omega, by omega⟩))) gX7_differ_X7_next rfl ⟨rfl, hy_X7_next⟩ ⟨by decide, by decide⟩ rfl (Nat.le_of_ble_eq_true rfl) ⟨by decide, by decide⟩ dX7_differ_120 rfl ?_
                refine kb_eqi (b := mo_P M) (rfl) ?_
                refine kb_istore (lv' := [(5, kb_i (mo_P M)), (0, .ref (ad 22)), (1, kb_i p0), (2, kb_i q0), (3, kb_i (M 32 p0)), (4, kb_i (M 33 p0))]) X dX7_differ_123 (by decide) rfl ?_
                refine kb_aload_n X 1 rfl dX7_differ_125 ?_
                refine kg_X7_wide X hi_X7_differ_X7 hf_X7_differ_66 dX7_differ_126 ?_
                refine kb_iload X 0 rfl dX7_differ_129 ?_
                refine kb_iload_n X 4 rfl dX7_differ_131 ?_
                refine kb_iast X 32 (n := 4) rfl ⟨by omega, by omega⟩ (by decide) ⟨by omega, by omega⟩ dX7_differ_132 ?_
                refine kb_aload_n X 1 rfl dX7_differ_133 ?_
                refine kg_X7_tall X hi_X7_differ_X7 hf_X7_differ_69 dX7_differ_134 ?_
                refine kb_iload X 0 rfl dX7_differ_137 ?_
                refine kb_iload X 5 rfl dX7_differ_139 ?_
                refine kb_iast X 33 (n := 4) rfl ⟨by omega, by omega⟩ (by decide) ⟨by omega, by omega⟩ dX7_differ_141 ?_
                refine kb_iconst X dX7_differ_142 ?_
                refine kb_istore (lv' := [(6, kb_i 0), (5, kb_i (mo_P M)), (0, .ref (ad 22)), (1, kb_i p0), (2, kb_i q0), (3, kb_i (M 32 p0)), (4, kb_i (M 33 p0))]) X dX7_differ_143 (by decide) rfl ?_
                have L145 : ∀ nn_ : Nat, ∀ (k2 : Int), (256 - k2).toNat < nn_ → (0 ≤ k2 ∧ k2 ≤ M 32 p0 * M 33 p0) → kb_B p l e ({ frames := 2, cells := 0, slots := 0, locals := 46 } : Room) s m args below meth c D ad cy (kb_A ad s.heap.size) 7 0 0 (MQ below (va_Qi (fun (vq_ : Int32) (_ : Unit) => vq_ = kb_J (mo_difR M p0 q0)) (fun _ t => kb_en2 D ad cy (mo_difM M p0 q0) t) (kb_A ad s.heap.size)) args s 0 0 (kb_A ad s.heap.size)) 145 [(0, .ref (ad 22)), (1, kb_i p0), (2, kb_i q0), (3, kb_i (M 32 p0)), (4, kb_i (M 33 p0)), (5, kb_i (mo_P M)), (6, kb_i k2)] [] ((mo_cp (kb_wr (kb_wr (mo_nx ((mo_md M p0 q0 k))) 32 (mo_P M) (M 32 p0)) 33 (mo_P M) (M 33 p0)) (mo_P M) k2)) := by
                  intro nn_
                  induction nn_ with
                  | zero => intro k2 hn; exact absurd hn (Nat.not_lt_zero _)
                  | succ nn_ ih11 =>
                    intro k2 hn hK2
                    refine kb_iload X 6 rfl dX7_differ_145 ?_
                    refine kb_iload_n X 3 rfl dX7_differ_147 ?_
                    refine kb_iload X 4 rfl dX7_differ_148 ?_
                    refine kb_imul X dX7_differ_150 ?_
                    refine kb_icmp_ge (tgt := 181) X ⟨by omega, by omega⟩ ⟨by omega, by omega⟩ dX7_differ_151 (by decide) (fun h12 => ?_) (fun h12 => ?_)
                    ·
                      refine kb_aload_n X 0 rfl dX7_differ_181 ?_
                      refine kg_X7_pictures X hi_X7_differ_X7 hf_X7_differ_90 dX7_differ_182 ?_
                      exact kb_iret X hr hlocks dX7_differ_185 (by (have e : k = M 32 p0 * M 33 p0 := by omega); rw [mo_dif_sz]; unfold mo_difR; rw [if_pos (by omega), if_pos (by omega)]) (by (have e : k = M 32 p0 * M 33 p0 := by omega); (have e2 : k2 = M 32 p0 * M 33 p0 := by omega); unfold mo_difM mo_D0; rw [if_pos (by omega), e, e2])
                    ·
                      refine kb_M_ok (fun hMk => ?_)
                      have g35 := hMk 35 k2
                      unfold kb_rg at g35
                      refine kb_aload_n X 0 rfl dX7_differ_154 ?_
                      refine kg_X7_pixels X hi_X7_differ_X7 hf_X7_differ_72 dX7_differ_155 ?_
                      refine kb_sipush X (by decide) dX7_differ_158 ?_
                      refine kb_iload X 5 rfl dX7_differ_161 ?_
                      refine kb_imul X dX7_differ_163 ?_
                      refine kb_iload X 6 rfl dX7_differ_164 ?_
                      refine kb_iadd X dX7_differ_166 ?_
                      refine kb_aload_n X 0 rfl dX7_differ_167 ?_
                      refine kg_X7_made X hi_X7_differ_X7 hf_X7_differ_75 dX7_differ_168 ?_
                      refine kb_iload X 6 rfl dX7_differ_171 ?_
                      refine kb_iald X 35 (n := 256) rfl ⟨by omega, by omega⟩ (by decide) dX7_differ_173 ?_
                      refine kb_iast X 34 (n := 1024) rfl ⟨by omega, by omega⟩ (by decide) ⟨by omega, by omega⟩ dX7_differ_174 ?_
                      refine kb_iinc (lv' := [(6, kb_i (k2 + 1)), (0, .ref (ad 22)), (1, kb_i p0), (2, kb_i q0), (3, kb_i (M 32 p0)), (4, kb_i (M 33 p0)), (5, kb_i (mo_P M))]) X 6 rfl dX7_differ_175 rfl (by decide) rfl ?_
                      refine kb_goto (tgt := 145) X dX7_differ_178 (by decide) ?_
                      refine kb_sub [1, 2, 3, 4, 5, 6, 0] (lv' := [(0, .ref (ad 22)), (1, kb_i p0), (2, kb_i q0), (3, kb_i (M 32 p0)), (4, kb_i (M 33 p0)), (5, kb_i (mo_P M)), (6, kb_i (k2 + 1))]) rfl ?_
                      refine kb_eqM (M' := mo_cp (kb_wr (kb_wr (mo_nx ((mo_md M p0 q0 k))) 32 (mo_P M) (M 32 p0)) 33 (mo_P M) (M 33 p0)) (mo_P M) (k2 + 1)) ((mo_cp_S _ _ _ hK2.1).symm) ?_
                      exact ih11 (k2 + 1) (by omega) (by first | omega | assumption | exact ⟨by omega, by omega⟩)
                refine kb_sub [2, 3, 4, 5, 6, 1, 0] (lv' := [(0, .ref (ad 22)), (1, kb_i p0), (2, kb_i q0), (3, kb_i (M 32 p0)), (4, kb_i (M 33 p0)), (5, kb_i (mo_P M)), (6, kb_i 0)]) rfl ?_
                refine kb_eqM (M' := mo_cp (kb_wr (kb_wr (mo_nx ((mo_md M p0 q0 k))) 32 (mo_P M) (M 32 p0)) 33 (mo_P M) (M 33 p0)) (mo_P M) (0 : Int)) ((mo_cp_0 _ _).symm) ?_
                exact L145 _ (0 : Int) (Nat.lt_succ_self _) (by first | omega | assumption | exact ⟨by omega, by omega⟩)
              ·
                refine kb_aload_n X 0 rfl dX7_differ_79 ?_
                refine kg_X7_made X hi_X7_differ_X7 hf_X7_differ_75 dX7_differ_80 ?_
                refine kb_iload X 5 rfl dX7_differ_83 ?_
                refine kb_aload_n X 0 rfl dX7_differ_85 ?_
                refine kg_X7_pixels X hi_X7_differ_X7 hf_X7_differ_72 dX7_differ_86 ?_
                refine kb_sipush X (by decide) dX7_differ_89 ?_
                refine kb_iload_n X 1 rfl dX7_differ_92 ?_
                refine kb_imul X dX7_differ_93 ?_
                refine kb_iload X 5 rfl dX7_differ_94 ?_
                refine kb_iadd X dX7_differ_96 ?_
                refine kb_iald X 34 (n := 1024) rfl ⟨by omega, by omega⟩ (by decide) dX7_differ_97 ?_
                refine kb_eqi (b := M 34 ((256 * p0) + k)) (by first | rfl | simp [kb_wr]) ?_
                have g13 : -2147483648 ≤ M 34 ((256 * p0) + k) ∧ M 34 ((256 * p0) + k) < 2147483648 := hM 34 ((256 * p0) + k)
                refine kb_aload_n X 0 rfl dX7_differ_98 ?_
                refine kg_X7_pixels X hi_X7_differ_X7 hf_X7_differ_72 dX7_differ_99 ?_
                refine kb_sipush X (by decide) dX7_differ_102 ?_
                refine kb_iload_n X 2 rfl dX7_differ_105 ?_
                refine kb_imul X dX7_differ_106 ?_
                refine kb_iload X 5 rfl dX7_differ_107 ?_
                refine kb_iadd X dX7_differ_109 ?_
                refine kb_iald X 34 (n := 1024) rfl ⟨by omega, by omega⟩ (by decide) dX7_differ_110 ?_
                refine kb_eqi (b := M 34 ((256 * q0) + k)) (by first | rfl | simp [kb_wr]) ?_
                have g14 : -2147483648 ≤ M 34 ((256 * q0) + k) ∧ M 34 ((256 * q0) + k) < 2147483648 := hM 34 ((256 * q0) + k)
                refine kb_isub X dX7_differ_111 ?_
                refine kb_nrm ?_
                have g15 := sp_nm_rg ((M 34 ((256 * p0) + k)) - (M 34 ((256 * q0) + k)))
                refine kb_iast X 35 (n := 256) rfl ⟨by omega, by omega⟩ (by decide) ⟨by omega, by omega⟩ dX7_differ_112 ?_
                refine kb_iinc (lv' := [(5, kb_i (k + 1)), (0, .ref (ad 22)), (1, kb_i p0), (2, kb_i q0), (3, kb_i (M 32 p0)), (4, kb_i (M 33 p0))]) X 5 rfl dX7_differ_113 rfl (by decide) rfl ?_
                refine kb_goto (tgt := 70) X dX7_differ_116 (by decide) ?_
                refine kb_sub [1, 2, 3, 4, 5, 0] (lv' := [(0, .ref (ad 22)), (1, kb_i p0), (2, kb_i q0), (3, kb_i (M 32 p0)), (4, kb_i (M 33 p0)), (5, kb_i (k + 1))]) rfl ?_
                refine kb_eqM (M' := mo_md M p0 q0 (k + 1)) ((mo_md_S _ _ _ _ hK.1).symm) ?_
                exact ih9 (k + 1) (by omega) (by first | omega | assumption | exact ⟨by omega, by omega⟩)
          refine kb_sub [3, 4, 5, 2, 1, 0] (lv' := [(0, .ref (ad 22)), (1, kb_i p0), (2, kb_i q0), (3, kb_i (M 32 p0)), (4, kb_i (M 33 p0)), (5, kb_i 0)]) rfl ?_
          refine kb_eqM (M' := mo_md M p0 q0 (0 : Int)) ((mo_md_0 _ _ _).symm) ?_
          exact L70 _ (0 : Int) (Nat.lt_succ_self _) (by first | omega | assumption | exact ⟨by omega, by omega⟩)
        ·
          refine kb_bipush X (by decide) dX7_differ_49 ?_
          exact kb_iret X hr hlocks dX7_differ_51 (by unfold mo_difR; repeat (first | rw [if_pos (by omega)] | rw [if_neg (by omega)]); try first | rfl | omega) (by unfold mo_difM; rw [if_neg (by omega)])
    ·
      refine kb_bipush X (by decide) dX7_differ_16 ?_
      exact kb_iret X hr hlocks dX7_differ_18 (by unfold mo_difR; repeat (first | rw [if_pos (by omega)] | rw [if_neg (by omega)]); try first | rfl | omega) (by unfold mo_difM; rw [if_neg (by omega)])
-- X7_turned
theorem hf_X7_turned_19 : Cond.fieldLink yX7_turned.cls 19 RX7 "n" "I" ∈ wsX7_turned := by decide +kernel
theorem hf_X7_turned_59 : Cond.fieldLink yX7_turned.cls 59 RX7 "senders" "[I" ∈ wsX7_turned := by decide +kernel
theorem hi_X7_turned_X7 : ∀ w ∈ wsX70, w ∈ wsX7_turned := by decide +kernel
theorem hy_X7_turned : yX7_turned.cls ≠ "java/lang/invoke/MethodHandle" ∧ yX7_turned.cls ≠ "java/lang/invoke/VarHandle" ∧ (parseMethodDescriptor yX7_turned.desc).map (fun d => d.parameters.length) = some 5 := by decide +kernel
set_option maxHeartbeats 4000000 in
set_option maxRecDepth 100000 in
theorem c_X7_turned (l : Launch) (D : va_G) (ad : Nat → Nat) (cy : Nat → ClassId) (M : kb_M) (lk : Int) (o0 : Int) (x : Int) (z : Int) (s0 : Int) (hlk : 0 ≤ lk ∧ lk < 6) (ho0 : 0 ≤ o0 ∧ o0 < 6) (hx : -2000 ≤ x ∧ x ≤ 2000) (hz : 0 ≤ z ∧ z ≤ 4000) (hs0 : -100 ≤ s0 ∧ s0 ≤ 100) (hIP : mo_IP M) (hsd : 0 ≤ M 30 lk ∧ M 30 lk < M 22 0) (hsb : ∀ j : Int, -1600 ≤ M 31 j ∧ M 31 j ≤ 1600) : kb_Cl l D ad cy yX7_turned wsX7_turned 2 54 [.ref (ad 22), kb_i lk, kb_i o0, kb_i x, kb_i z, kb_i s0] M (mo_lkn M lk o0 x z s0) (M) := by
  refine kb_mkCl (cc := cX7_turned) (maxL := 12) (lv := [(0, .ref (ad 22)), (1, kb_i lk), (2, kb_i o0), (3, kb_i x), (4, kb_i z), (5, kb_i s0)]) (plainFor_of_name (by decide)) rfl (Nat.le_of_ble_eq_true rfl) rfl ?_
  intro p e s m args below meth c X hr hlocks hM
  obtain ⟨hxs, hn0, hP, hT, hf⟩ := id hIP
  refine kb_aload_n X 0 rfl dX7_turned_0 ?_
  refine kb_aload_n X 0 rfl dX7_turned_1 ?_
  refine kg_X7_senders X hi_X7_turned_X7 hf_X7_turned_59 dX7_turned_2 ?_
  refine kb_iload_n X 1 rfl dX7_turned_5 ?_
  refine kb_iald X 30 (n := 6) rfl ⟨by omega, by omega⟩ (by decide) dX7_turned_6 ?_
  have g1 : -2147483648 ≤ M 30 lk ∧ M 30 lk < 2147483648 := hM 30 lk
  refine kb_iload_n X 3 rfl dX7_turned_7 ?_
  refine kb_iload X 4 rfl dX7_turned_8 ?_
  refine kb_cVi X (rest := []) [kb_i (M 30 lk), kb_i x, kb_i z] 22 (fl := [none, some 23, some 24, none, none, none, none, none, none, none, none, some 25, some 26, some 27, some 28, some 29, none, some 30, some 31, none, some 32, some 33, some 34, some 35, none, none, none, some 36]) (C := RX7) rfl rfl (c_X7_delayOf l D ad cy M (M 30 lk) x z (by first | omega | assumption | exact ⟨by omega, by omega⟩) (by first | omega | assumption | exact ⟨by omega, by omega⟩) (by first | omega | assumption | exact ⟨by omega, by omega⟩) (by first | omega | assumption | exact ⟨by omega, by omega⟩)) gX7_turned_X7_delayOf rfl ⟨rfl, hy_X7_delayOf⟩ ⟨by decide, by decide⟩ rfl (Nat.le_of_ble_eq_true rfl) ⟨by decide, by decide⟩ dX7_turned_10 rfl ?_
  have g2 : 0 ≤ (mo_dly M (M 30 lk) x z) ∧ (mo_dly M (M 30 lk) x z) ≤ 16001000 := by apply mo_dly_b <;> first | assumption | omega
  refine kb_istore (lv' := [(6, kb_i (mo_dly M (M 30 lk) x z)), (0, .ref (ad 22)), (1, kb_i lk), (2, kb_i o0), (3, kb_i x), (4, kb_i z), (5, kb_i s0)]) X dX7_turned_13 (by decide) rfl ?_
  refine kb_lconst X dX7_turned_15 ?_
  refine kb_eql (b := 0) rfl ?_
  refine kb_lstore (lv' := [(7, kb_l (0)), (6, kb_i (mo_dly M (M 30 lk) x z)), (0, .ref (ad 22)), (1, kb_i lk), (2, kb_i o0), (3, kb_i x), (4, kb_i z), (5, kb_i s0)]) X dX7_turned_16 (by decide) rfl ?_
  refine kb_iconst X dX7_turned_18 ?_
  refine kb_istore (lv' := [(9, kb_i 0), (7, kb_l (0)), (6, kb_i (mo_dly M (M 30 lk) x z)), (0, .ref (ad 22)), (1, kb_i lk), (2, kb_i o0), (3, kb_i x), (4, kb_i z), (5, kb_i s0)]) X dX7_turned_19 (by decide) rfl ?_
  have L21 : ∀ nn_ : Nat, ∀ (u a : Int), (16 - a).toNat < nn_ → (0 ≤ a ∧ a ≤ M 22 0) → (u = sp_sum (fun i => mo_li M lk o0 x z s0 i 13) a.toNat) → kb_B p l e ({ frames := 2, cells := 0, slots := 0, locals := 54 } : Room) s m args below meth c D ad cy (kb_A ad s.heap.size) 12 0 0 (MQ below (va_Ql (fun (vq_ : Int64) (_ : Unit) => vq_ = kb_L (mo_lkn M lk o0 x z s0)) (fun _ t => kb_en2 D ad cy (M) t) (kb_A ad s.heap.size)) args s 0 0 (kb_A ad s.heap.size)) 21 [(0, .ref (ad 22)), (1, kb_i lk), (2, kb_i o0), (3, kb_i x), (4, kb_i z), (5, kb_i s0), (6, kb_i (mo_dly M (M 30 lk) x z)), (7, kb_l (u)), (9, kb_i a)] [] M := by
    intro nn_
    induction nn_ with
    | zero => intro u a hn; exact absurd hn (Nat.not_lt_zero _)
    | succ nn_ ih3 =>
      intro u a hn hI hJ
      refine kb_iload X 8 rfl dX7_turned_21 ?_
      refine kb_aload_n X 0 rfl dX7_turned_23 ?_
      refine kg_X7_n X hi_X7_turned_X7 hf_X7_turned_19 dX7_turned_24 ?_
      have g4 : -2147483648 ≤ M 22 0 ∧ M 22 0 < 2147483648 := hM 22 0
      refine kb_icmp_ge (tgt := 102) X ⟨by omega, by omega⟩ ⟨by omega, by omega⟩ dX7_turned_27 (by decide) (fun h5 => ?_) (fun h5 => ?_)
      ·
        refine kb_lload X 7 rfl dX7_turned_102 ?_
        exact kb_lret X hr hlocks dX7_turned_104 (by (have e : a = M 22 0 := by omega); rw [hJ, e]; rfl) (by first | rfl | (exfalso; omega))
      ·
        refine kb_iload X 6 rfl dX7_turned_30 ?_
        refine kb_aload_n X 0 rfl dX7_turned_32 ?_
        refine kb_iload X 8 rfl dX7_turned_33 ?_
        refine kb_iload_n X 3 rfl dX7_turned_35 ?_
        refine kb_iload X 4 rfl dX7_turned_36 ?_
        refine kb_cVi X (rest := [kb_i (mo_dly M (M 30 lk) x z)]) [kb_i a, kb_i x, kb_i z] 22 (fl := [none, some 23, some 24, none, none, none, none, none, none, none, none, some 25, some 26, some 27, some 28, some 29, none, some 30, some 31, none, some 32, some 33, some 34, some 35, none, none, none, some 36]) (C := RX7) rfl rfl (c_X7_delayOf l D ad cy M a x z (by first | omega | assumption | exact ⟨by omega, by omega⟩) (by first | omega | assumption | exact ⟨by omega, by omega⟩) (by first | omega | assumption | exact ⟨by omega, by omega⟩) (by first | omega | assumption | exact ⟨by omega, by omega⟩)) gX7_turned_X7_delayOf rfl ⟨rfl, hy_X7_delayOf⟩ ⟨by decide, by decide⟩ rfl (Nat.le_of_ble_eq_true rfl) ⟨by decide, by decide⟩ dX7_turned_38 rfl ?_
        have g6 : 0 ≤ (mo_dly M a x z) ∧ (mo_dly M a x z) ≤ 16001000 := by apply mo_dly_b <;> first | assumption | omega
        refine kb_iadd X dX7_turned_41 ?_
        refine kb_istore (lv' := [(10, kb_i ((mo_dly M (M 30 lk) x z) + (mo_dly M a x z))), (0, .ref (ad 22)), (1, kb_i lk), (2, kb_i o0), (3, kb_i x), (4, kb_i z), (5, kb_i s0), (6, kb_i (mo_dly M (M 30 lk) x z)), (7, kb_l (u)), (9, kb_i a)]) X dX7_turned_42 (by decide) rfl ?_
        refine kb_bipush X (by decide) dX7_turned_44 ?_
        refine kb_istore (lv' := [(11, kb_i ((-6))), (10, kb_i ((mo_dly M (M 30 lk) x z) + (mo_dly M a x z))), (0, .ref (ad 22)), (1, kb_i lk), (2, kb_i o0), (3, kb_i x), (4, kb_i z), (5, kb_i s0), (6, kb_i (mo_dly M (M 30 lk) x z)), (7, kb_l (u)), (9, kb_i a)]) X dX7_turned_46 (by decide) rfl ?_
        have L48 : ∀ nn_ : Nat, ∀ (u2 t : Int), (7 - t).toNat < nn_ → (-6 ≤ t ∧ t ≤ 7) → (u2 = u + mo_li M lk o0 x z s0 a (t + 6).toNat) → kb_B p l e ({ frames := 2, cells := 0, slots := 0, locals := 54 } : Room) s m args below meth c D ad cy (kb_A ad s.heap.size) 12 0 0 (MQ below (va_Ql (fun (vq_ : Int64) (_ : Unit) => vq_ = kb_L (mo_lkn M lk o0 x z s0)) (fun _ t => kb_en2 D ad cy (M) t) (kb_A ad s.heap.size)) args s 0 0 (kb_A ad s.heap.size)) 48 [(0, .ref (ad 22)), (1, kb_i lk), (2, kb_i o0), (3, kb_i x), (4, kb_i z), (5, kb_i s0), (6, kb_i (mo_dly M (M 30 lk) x z)), (7, kb_l (u2)), (9, kb_i a), (10, kb_i ((mo_dly M (M 30 lk) x z) + (mo_dly M a x z))), (11, kb_i t)] [] M := by
          intro nn_
          induction nn_ with
          | zero => intro u2 t hn; exact absurd hn (Nat.not_lt_zero _)
          | succ nn_ ih7 =>
            intro u2 t hn hK hK2
            refine kb_iload X 10 rfl dX7_turned_48 ?_
            refine kb_bipush X (by decide) dX7_turned_50 ?_
            refine kb_icmp_gt (tgt := 96) X ⟨by omega, by omega⟩ ⟨by decide, by decide⟩ dX7_turned_52 (by decide) (fun h8 => ?_) (fun h8 => ?_)
            ·
              refine kb_iinc (lv' := [(9, kb_i (a + 1)), (0, .ref (ad 22)), (1, kb_i lk), (2, kb_i o0), (3, kb_i x), (4, kb_i z), (5, kb_i s0), (6, kb_i (mo_dly M (M 30 lk) x z)), (7, kb_l (u2)), (10, kb_i ((mo_dly M (M 30 lk) x z) + (mo_dly M a x z))), (11, kb_i t)]) X 8 rfl dX7_turned_96 rfl (by decide) rfl ?_
              refine kb_goto (tgt := 21) X dX7_turned_99 (by decide) ?_
              refine kb_sub [1, 2, 3, 4, 5, 6, 7, 8, 0] (lv' := [(0, .ref (ad 22)), (1, kb_i lk), (2, kb_i o0), (3, kb_i x), (4, kb_i z), (5, kb_i s0), (6, kb_i (mo_dly M (M 30 lk) x z)), (7, kb_l (u2)), (9, kb_i (a + 1))]) rfl ?_
              exact ih3 u2 (a + 1) (by omega) (by first | omega | assumption | exact ⟨by omega, by omega⟩) (by rw [sp_sumS _ hI.1, ← hJ, hK2, show (t + 6).toNat = 13 by omega])
            ·
              refine kb_lload X 7 rfl dX7_turned_55 ?_
              refine kb_aload_n X 0 rfl dX7_turned_57 ?_
              refine kb_iload_n X 1 rfl dX7_turned_58 ?_
              refine kb_iload X 8 rfl dX7_turned_59 ?_
              refine kb_iload X 9 rfl dX7_turned_61 ?_
              refine kb_iload X 10 rfl dX7_turned_63 ?_
              refine kb_iadd X dX7_turned_65 ?_
              refine kb_cVi X (rest := [kb_l (u2)]) [kb_i lk, kb_i a, kb_i (((mo_dly M (M 30 lk) x z) + (mo_dly M a x z)) + t)] 22 (fl := [none, some 23, some 24, none, none, none, none, none, none, none, none, some 25, some 26, some 27, some 28, some 29, none, some 30, some 31, none, some 32, some 33, some 34, some 35, none, none, none, some 36]) (C := RX7) rfl rfl (c_X7_sampleAt l D ad cy M lk a (((mo_dly M (M 30 lk) x z) + (mo_dly M a x z)) + t) (by first | omega | assumption | exact ⟨by omega, by omega⟩) (by first | omega | assumption | exact ⟨by omega, by omega⟩) (by first | omega | assumption | exact ⟨by omega, by omega⟩)) gX7_turned_X7_sampleAt rfl ⟨rfl, hy_X7_sampleAt⟩ ⟨by decide, by decide⟩ rfl (Nat.le_of_ble_eq_true rfl) ⟨by decide, by decide⟩ dX7_turned_66 rfl ?_
              have s1 := mo_at_b hsb lk a (((mo_dly M (M 30 lk) x z) + (mo_dly M a x z)) + t)
              refine kb_i2l X ⟨by omega, by omega⟩ dX7_turned_69 ?_
              refine kb_aload_n X 0 rfl dX7_turned_70 ?_
              refine kb_iload_n X 2 rfl dX7_turned_71 ?_
              refine kb_iload X 8 rfl dX7_turned_72 ?_
              refine kb_iload X 9 rfl dX7_turned_74 ?_
              refine kb_iload X 10 rfl dX7_turned_76 ?_
              refine kb_iadd X dX7_turned_78 ?_
              refine kb_iload X 5 rfl dX7_turned_79 ?_
              refine kb_iadd X dX7_turned_81 ?_
              refine kb_cVi X (rest := [kb_l (mo_at M lk a (((mo_dly M (M 30 lk) x z) + (mo_dly M a x z)) + t)), kb_l (u2)]) [kb_i o0, kb_i a, kb_i ((((mo_dly M (M 30 lk) x z) + (mo_dly M a x z)) + t) + s0)] 22 (fl := [none, some 23, some 24, none, none, none, none, none, none, none, none, some 25, some 26, some 27, some 28, some 29, none, some 30, some 31, none, some 32, some 33, some 34, some 35, none, none, none, some 36]) (C := RX7) rfl rfl (c_X7_sampleAt l D ad cy M o0 a ((((mo_dly M (M 30 lk) x z) + (mo_dly M a x z)) + t) + s0) (by first | omega | assumption | exact ⟨by omega, by omega⟩) (by first | omega | assumption | exact ⟨by omega, by omega⟩) (by first | omega | assumption | exact ⟨by omega, by omega⟩)) gX7_turned_X7_sampleAt rfl ⟨rfl, hy_X7_sampleAt⟩ ⟨by decide, by decide⟩ rfl (Nat.le_of_ble_eq_true rfl) ⟨by decide, by decide⟩ dX7_turned_82 rfl ?_
              have s2 := mo_at_b hsb o0 a (((mo_dly M (M 30 lk) x z) + (mo_dly M a x z)) + t + s0)
              refine kb_i2l X ⟨by omega, by omega⟩ dX7_turned_85 ?_
              refine kb_lmul X dX7_turned_86 ?_
              refine kb_ladd X dX7_turned_87 ?_
              refine kb_nml (fun x7_9 ex7_9 => ?_)
              refine kb_lstore (lv' := [(7, kb_l (x7_9)), (0, .ref (ad 22)), (1, kb_i lk), (2, kb_i o0), (3, kb_i x), (4, kb_i z), (5, kb_i s0), (6, kb_i (mo_dly M (M 30 lk) x z)), (9, kb_i a), (10, kb_i ((mo_dly M (M 30 lk) x z) + (mo_dly M a x z))), (11, kb_i t)]) X dX7_turned_88 (by decide) rfl ?_
              refine kb_iinc (lv' := [(11, kb_i (t + 1)), (7, kb_l (x7_9)), (0, .ref (ad 22)), (1, kb_i lk), (2, kb_i o0), (3, kb_i x), (4, kb_i z), (5, kb_i s0), (6, kb_i (mo_dly M (M 30 lk) x z)), (9, kb_i a), (10, kb_i ((mo_dly M (M 30 lk) x z) + (mo_dly M a x z)))]) X 10 rfl dX7_turned_90 rfl (by decide) rfl ?_
              refine kb_goto (tgt := 48) X dX7_turned_93 (by decide) ?_
              refine kb_sub [2, 3, 4, 5, 6, 7, 8, 1, 9, 10, 0] (lv' := [(0, .ref (ad 22)), (1, kb_i lk), (2, kb_i o0), (3, kb_i x), (4, kb_i z), (5, kb_i s0), (6, kb_i (mo_dly M (M 30 lk) x z)), (7, kb_l (x7_9)), (9, kb_i a), (10, kb_i ((mo_dly M (M 30 lk) x z) + (mo_dly M a x z))), (11, kb_i (t + 1))]) rfl ?_
              exact ih7 x7_9 (t + 1) (by omega) (by first | omega | assumption | exact ⟨by omega, by omega⟩) (by rw [mo_liS _ _ _ _ _ _ _ hK.1]; unfold mo_lt; subst_vars; omega)
        refine kb_sub [2, 3, 4, 5, 6, 7, 8, 9, 10, 1, 0] (lv' := [(0, .ref (ad 22)), (1, kb_i lk), (2, kb_i o0), (3, kb_i x), (4, kb_i z), (5, kb_i s0), (6, kb_i (mo_dly M (M 30 lk) x z)), (7, kb_l (u)), (9, kb_i a), (10, kb_i ((mo_dly M (M 30 lk) x z) + (mo_dly M a x z))), (11, kb_i ((-6)))]) rfl ?_
        exact L48 _ u ((-6)) (Nat.lt_succ_self _) (by first | omega | assumption | exact ⟨by omega, by omega⟩) (by exact (Int.add_zero _).symm)
  refine kb_sub [3, 4, 5, 6, 7, 8, 2, 1, 0] (lv' := [(0, .ref (ad 22)), (1, kb_i lk), (2, kb_i o0), (3, kb_i x), (4, kb_i z), (5, kb_i s0), (6, kb_i (mo_dly M (M 30 lk) x z)), (7, kb_l (0)), (9, kb_i 0)]) rfl ?_
  exact L21 _ (0 : Int) (0 : Int) (Nat.lt_succ_self _) (by first | omega | assumption | exact ⟨by omega, by omega⟩) (rfl)
-- X7_turn
theorem hf_X7_turn_59 : Cond.fieldLink yX7_turn.cls 59 RX7 "senders" "[I" ∈ wsX7_turn := by decide +kernel
theorem hi_X7_turn_X7 : ∀ w ∈ wsX70, w ∈ wsX7_turn := by decide +kernel
theorem hy_X7_turn : yX7_turn.cls ≠ "java/lang/invoke/MethodHandle" ∧ yX7_turn.cls ≠ "java/lang/invoke/VarHandle" ∧ (parseMethodDescriptor yX7_turn.desc).map (fun d => d.parameters.length) = some 4 := by decide +kernel
set_option maxHeartbeats 4000000 in
set_option maxRecDepth 100000 in
theorem c_X7_turn (l : Launch) (D : va_G) (ad : Nat → Nat) (cy : Nat → ClassId) (M : kb_M) (lk : Int) (o0 : Int) (x : Int) (z : Int) (hlk : -2147483648 ≤ lk ∧ lk < 2147483648) (ho0 : -2147483648 ≤ o0 ∧ o0 < 2147483648) (hx : -2147483648 ≤ x ∧ x < 2147483648) (hz : -2147483648 ≤ z ∧ z < 2147483648) (hIP : mo_IP M) (hIL : mo_IL M) : kb_Ci l D ad cy yX7_turn wsX7_turn 3 85 [.ref (ad 22), kb_i lk, kb_i o0, kb_i x, kb_i z] M (mo_turnR M lk o0 x z) (M) := by
  refine kb_mkCi (cc := cX7_turn) (maxL := 12) (lv := [(0, .ref (ad 22)), (1, kb_i lk), (2, kb_i o0), (3, kb_i x), (4, kb_i z)]) (plainFor_of_name (by decide)) rfl (Nat.le_of_ble_eq_true rfl) rfl ?_
  intro p e s m args below meth c X hr hlocks hM
  obtain ⟨hxs, hn0, hP, hT, hf⟩ := id hIP
  obtain ⟨hs, hsb, hsn⟩ := id hIL
  refine kb_aload_n X 0 rfl dX7_turn_0 ?_
  refine kb_iload_n X 1 rfl dX7_turn_1 ?_
  refine kb_cVi X (rest := []) [kb_i lk] 22 (fl := [none, some 23, some 24, none, none, none, none, none, none, none, none, some 25, some 26, some 27, some 28, some 29, none, some 30, some 31, none, some 32, some 33, some 34, some 35, none, none, none, some 36]) (C := RX7) rfl rfl (c_X7_isLook l D ad cy M lk (by first | omega | assumption | exact ⟨by omega, by omega⟩) (by first | omega | assumption | exact ⟨by omega, by omega⟩)) gX7_turn_X7_isLook rfl ⟨rfl, hy_X7_isLook⟩ ⟨by decide, by decide⟩ rfl (Nat.le_of_ble_eq_true rfl) ⟨by decide, by decide⟩ dX7_turn_2 rfl ?_
  refine kb_ifb_eq (tgt := 25) X dX7_turn_5 (by decide) (fun h1 => ?_) (fun h1 => ?_)
  ·
    refine kb_bipush X (by decide) dX7_turn_25 ?_
    exact kb_iret X hr hlocks dX7_turn_27 (by unfold mo_turnR; repeat (first | rw [if_pos (by omega)] | rw [if_neg (by omega)]); try first | rfl | omega) (by first | rfl | (exfalso; omega))
  ·
    refine kb_aload_n X 0 rfl dX7_turn_8 ?_
    refine kb_iload_n X 2 rfl dX7_turn_9 ?_
    refine kb_cVi X (rest := []) [kb_i o0] 22 (fl := [none, some 23, some 24, none, none, none, none, none, none, none, none, some 25, some 26, some 27, some 28, some 29, none, some 30, some 31, none, some 32, some 33, some 34, some 35, none, none, none, some 36]) (C := RX7) rfl rfl (c_X7_isLook l D ad cy M o0 (by first | omega | assumption | exact ⟨by omega, by omega⟩) (by first | omega | assumption | exact ⟨by omega, by omega⟩)) gX7_turn_X7_isLook rfl ⟨rfl, hy_X7_isLook⟩ ⟨by decide, by decide⟩ rfl (Nat.le_of_ble_eq_true rfl) ⟨by decide, by decide⟩ dX7_turn_10 rfl ?_
    refine kb_ifb_eq (tgt := 25) X dX7_turn_13 (by decide) (fun h2 => ?_) (fun h2 => ?_)
    ·
      refine kb_bipush X (by decide) dX7_turn_25 ?_
      exact kb_iret X hr hlocks dX7_turn_27 (by unfold mo_turnR; repeat (first | rw [if_pos (by omega)] | rw [if_neg (by omega)]); try first | rfl | omega) (by first | rfl | (exfalso; omega))
    ·
      refine kb_iload_n X 3 rfl dX7_turn_16 ?_
      refine kb_iload X 4 rfl dX7_turn_17 ?_
      refine kb_cSi X (rest := []) [kb_i x, kb_i z] (c_X7_isPlace l D ad cy M x z (by first | omega | assumption | exact ⟨by omega, by omega⟩) (by first | omega | assumption | exact ⟨by omega, by omega⟩)) gX7_turn_X7_isPlace rfl hy_X7_isPlace ⟨by decide, by decide⟩ rfl (Nat.le_of_ble_eq_true rfl) ⟨by decide, by decide⟩ dX7_turn_19 rfl ?_
      refine kb_ifb_ne (tgt := 28) X dX7_turn_22 (by decide) (fun h3 => ?_) (fun h3 => ?_)
      ·
        have sd := hsn lk (by omega) (by omega)
        refine kb_aload_n X 0 rfl dX7_turn_28 ?_
        refine kg_X7_senders X hi_X7_turn_X7 hf_X7_turn_59 dX7_turn_29 ?_
        refine kb_iload_n X 1 rfl dX7_turn_32 ?_
        refine kb_iald X 30 (n := 6) rfl ⟨by omega, by omega⟩ (by decide) dX7_turn_33 ?_
        have g4 : -2147483648 ≤ M 30 lk ∧ M 30 lk < 2147483648 := hM 30 lk
        refine kb_aload_n X 0 rfl dX7_turn_34 ?_
        refine kg_X7_senders X hi_X7_turn_X7 hf_X7_turn_59 dX7_turn_35 ?_
        refine kb_iload_n X 2 rfl dX7_turn_38 ?_
        refine kb_iald X 30 (n := 6) rfl ⟨by omega, by omega⟩ (by decide) dX7_turn_39 ?_
        have g5 : -2147483648 ≤ M 30 o0 ∧ M 30 o0 < 2147483648 := hM 30 o0
        refine kb_icmp_eq (tgt := 46) X ⟨by omega, by omega⟩ ⟨by omega, by omega⟩ dX7_turn_40 (by decide) (fun h6 => ?_) (fun h6 => ?_)
        ·
          refine kb_iconst X dX7_turn_46 ?_
          refine kb_istore (lv' := [(5, kb_i 0), (0, .ref (ad 22)), (1, kb_i lk), (2, kb_i o0), (3, kb_i x), (4, kb_i z)]) X dX7_turn_47 (by decide) rfl ?_
          refine kb_aload_n X 1 rfl dX7_turn_49 ?_
          refine kb_iload_n X 2 rfl dX7_turn_50 ?_
          refine kb_iload_n X 3 rfl dX7_turn_51 ?_
          refine kb_iload_n X 4 rfl dX7_turn_52 ?_
          refine kb_iload X 5 rfl dX7_turn_53 ?_
          refine kb_iconst X dX7_turn_55 ?_
          refine kb_cVl X (rest := []) [kb_i lk, kb_i o0, kb_i x, kb_i z, kb_i 0] 22 (fl := [none, some 23, some 24, none, none, none, none, none, none, none, none, some 25, some 26, some 27, some 28, some 29, none, some 30, some 31, none, some 32, some 33, some 34, some 35, none, none, none, some 36]) (C := RX7) rfl rfl (c_X7_turned l D ad cy M lk o0 x z 0 (by first | omega | assumption | exact ⟨by omega, by omega⟩) (by first | omega | assumption | exact ⟨by omega, by omega⟩) (by first | omega | assumption | exact ⟨by omega, by omega⟩) (by first | omega | assumption | exact ⟨by omega, by omega⟩) (by first | omega | assumption | exact ⟨by omega, by omega⟩) (by first | omega | assumption | exact ⟨by omega, by omega⟩) (by first | omega | assumption | exact ⟨by omega, by omega⟩) (by first | omega | assumption | exact ⟨by omega, by omega⟩)) gX7_turn_X7_turned rfl ⟨rfl, hy_X7_turned⟩ ⟨by decide, by decide⟩ rfl (Nat.le_of_ble_eq_true rfl) ⟨by decide, by decide⟩ dX7_turn_56 rfl ?_
          have g7 : -532480000 ≤ (mo_lkn M lk o0 x z 0) ∧ (mo_lkn M lk o0 x z 0) ≤ 532480000 := mo_lkn_b (by assumption) (by omega) _ _ _ _ _
          refine kb_nml (fun x6_8 ex6_8 => ?_)
          refine kb_lstore (lv' := [(6, kb_l (x6_8)), (5, kb_i 0), (0, .ref (ad 22)), (1, kb_i lk), (2, kb_i o0), (3, kb_i x), (4, kb_i z)]) X dX7_turn_59 (by decide) rfl ?_
          refine kb_iconst X dX7_turn_61 ?_
          refine kb_istore (lv' := [(8, kb_i 1), (6, kb_l (x6_8)), (5, kb_i 0), (0, .ref (ad 22)), (1, kb_i lk), (2, kb_i o0), (3, kb_i x), (4, kb_i z)]) X dX7_turn_62 (by decide) rfl ?_
          have L64 : ∀ nn_ : Nat, ∀ (b gr k : Int), (17 - k).toNat < nn_ → (1 ≤ k ∧ k ≤ 17) → (b = sp_tn (mo_lkn M lk o0 x z) (k - 1).toNat ∧ gr = (mo_lkn M lk o0 x z) b) → kb_B p l e ({ frames := 3, cells := 0, slots := 0, locals := 85 } : Room) s m args below meth c D ad cy (kb_A ad s.heap.size) 12 0 0 (MQ below (va_Qi (fun (vq_ : Int32) (_ : Unit) => vq_ = kb_J (mo_turnR M lk o0 x z)) (fun _ t => kb_en2 D ad cy (M) t) (kb_A ad s.heap.size)) args s 0 0 (kb_A ad s.heap.size)) 64 [(0, .ref (ad 22)), (1, kb_i lk), (2, kb_i o0), (3, kb_i x), (4, kb_i z), (5, kb_i b), (6, kb_l (gr)), (8, kb_i k)] [] M := by
            intro nn_
            induction nn_ with
            | zero => intro b gr k hn; exact absurd hn (Nat.not_lt_zero _)
            | succ nn_ ih9 =>
              intro b gr k hn hI hJ
              refine kb_iload X 7 rfl dX7_turn_64 ?_
              refine kb_bipush X (by decide) dX7_turn_66 ?_
              refine kb_icmp_gt (tgt := 130) X ⟨by omega, by omega⟩ ⟨by decide, by decide⟩ dX7_turn_68 (by decide) (fun h10 => ?_) (fun h10 => ?_)
              ·
                refine kb_iload X 5 rfl dX7_turn_130 ?_
                exact kb_iret X hr hlocks dX7_turn_132 (by unfold mo_turnR; rw [if_pos (by omega), if_pos (by omega), hJ.1, show (k - 1).toNat = 16 by omega]) (by first | rfl | (exfalso; omega))
              ·
                have tb : k.tmod 2 = k % 2 := kb_tm (by omega)
                have cdb := mo_cd_b (k := k) (by omega)
                have fb := mo_lkn_b hsb (by omega) lk o0 x z (sp_cd k.toNat)
                have fb2 := mo_lkn_b hsb (by omega) lk o0 x z b
                have ej := hJ.2
                refine kb_iload X 7 rfl dX7_turn_71 ?_
                refine kb_iconst X dX7_turn_73 ?_
                refine kb_irem X ⟨by omega, by omega⟩ ⟨by decide, by decide⟩ (by omega) dX7_turn_74 ?_
                refine kb_iconst X dX7_turn_75 ?_
                refine kb_icmp_ne (tgt := 89) X ⟨by omega, by omega⟩ ⟨by decide, by decide⟩ dX7_turn_76 (by decide) (fun h11 => ?_) (fun h11 => ?_)
                ·
                  refine kb_iload X 7 rfl dX7_turn_89 ?_
                  refine kb_iconst X dX7_turn_91 ?_
                  refine kb_idiv X ⟨by omega, by omega⟩ ⟨by decide, by decide⟩ (by omega) dX7_turn_92 ?_
                  refine kb_eqi (b := sp_cd k.toNat) (mo_cd2 (by omega) (by assumption)) ?_
                  refine kb_istore (lv' := [(9, kb_i (sp_cd k.toNat)), (0, .ref (ad 22)), (1, kb_i lk), (2, kb_i o0), (3, kb_i x), (4, kb_i z), (5, kb_i b), (6, kb_l (gr)), (8, kb_i k)]) X dX7_turn_93 (by decide) rfl ?_
                  refine kb_aload_n X 1 rfl dX7_turn_95 ?_
                  refine kb_iload_n X 2 rfl dX7_turn_96 ?_
                  refine kb_iload_n X 3 rfl dX7_turn_97 ?_
                  refine kb_iload_n X 4 rfl dX7_turn_98 ?_
                  refine kb_iload X 5 rfl dX7_turn_99 ?_
                  refine kb_iload X 0 rfl dX7_turn_101 ?_
                  refine kb_cVl X (rest := []) [kb_i lk, kb_i o0, kb_i x, kb_i z, kb_i (sp_cd k.toNat)] 22 (fl := [none, some 23, some 24, none, none, none, none, none, none, none, none, some 25, some 26, some 27, some 28, some 29, none, some 30, some 31, none, some 32, some 33, some 34, some 35, none, none, none, some 36]) (C := RX7) rfl rfl (c_X7_turned l D ad cy M lk o0 x z (sp_cd k.toNat) (by first | omega | assumption | exact ⟨by omega, by omega⟩) (by first | omega | assumption | exact ⟨by omega, by omega⟩) (by first | omega | assumption | exact ⟨by omega, by omega⟩) (by first | omega | assumption | exact ⟨by omega, by omega⟩) (by first | omega | assumption | exact ⟨by omega, by omega⟩) (by first | omega | assumption | exact ⟨by omega, by omega⟩) (by first | omega | assumption | exact ⟨by omega, by omega⟩) (by first | omega | assumption | exact ⟨by omega, by omega⟩)) gX7_turn_X7_turned rfl ⟨rfl, hy_X7_turned⟩ ⟨by decide, by decide⟩ rfl (Nat.le_of_ble_eq_true rfl) ⟨by decide, by decide⟩ dX7_turn_103 rfl ?_
                  have g12 : -532480000 ≤ (mo_lkn M lk o0 x z (sp_cd k.toNat)) ∧ (mo_lkn M lk o0 x z (sp_cd k.toNat)) ≤ 532480000 := mo_lkn_b (by assumption) (by omega) _ _ _ _ _
                  refine kb_lstore (lv' := [(10, kb_l (mo_lkn M lk o0 x z (sp_cd k.toNat))), (9, kb_i (sp_cd k.toNat)), (0, .ref (ad 22)), (1, kb_i lk), (2, kb_i o0), (3, kb_i x), (4, kb_i z), (5, kb_i b), (6, kb_l (gr)), (8, kb_i k)]) X dX7_turn_106 (by decide) rfl ?_
                  refine kb_lload X 0 rfl dX7_turn_108 ?_
                  refine kb_lload X 8 rfl dX7_turn_110 ?_
                  refine kb_lcmp_le (tgt := 124) X ⟨by omega, by omega⟩ ⟨by omega, by omega⟩ dX7_turn_112 dX7_turn_113 (by decide) (fun h13 => ?_) (fun h13 => ?_)
                  ·
                    refine kb_iinc (lv' := [(8, kb_i (k + 1)), (10, kb_l (mo_lkn M lk o0 x z (sp_cd k.toNat))), (9, kb_i (sp_cd k.toNat)), (0, .ref (ad 22)), (1, kb_i lk), (2, kb_i o0), (3, kb_i x), (4, kb_i z), (5, kb_i b), (6, kb_l (gr))]) X 9 rfl dX7_turn_124 rfl (by decide) rfl ?_
                    refine kb_goto (tgt := 64) X dX7_turn_127 (by decide) ?_
                    refine kb_sub [3, 4, 5, 6, 7, 8, 9, 0] (lv' := [(0, .ref (ad 22)), (1, kb_i lk), (2, kb_i o0), (3, kb_i x), (4, kb_i z), (5, kb_i b), (6, kb_l (gr)), (8, kb_i (k + 1))]) rfl ?_
                    exact ih9 b gr (k + 1) (by omega) (by first | omega | assumption | exact ⟨by omega, by omega⟩) (by refine ⟨?_, by first | exact hJ.2 | (subst_vars; rfl)⟩; rw [mo_tnS _ hI.1, ← hJ.1, ← hJ.2]; first | (rw [if_pos (by omega)]; assumption) | rw [if_neg (by omega)])
                  ·
                    refine kb_lload X 0 rfl dX7_turn_116 ?_
                    refine kb_nml (fun x6_14 ex6_14 => ?_)
                    refine kb_lstore (lv' := [(6, kb_l (x6_14)), (10, kb_l (mo_lkn M lk o0 x z (sp_cd k.toNat))), (9, kb_i (sp_cd k.toNat)), (0, .ref (ad 22)), (1, kb_i lk), (2, kb_i o0), (3, kb_i x), (4, kb_i z), (5, kb_i b), (8, kb_i k)]) X dX7_turn_118 (by decide) rfl ?_
                    refine kb_iload X 2 rfl dX7_turn_120 ?_
                    refine kb_nmi (fun x5_15 ex5_15 => ?_)
                    refine kb_istore (lv' := [(5, kb_i x5_15), (6, kb_l (x6_14)), (10, kb_l (mo_lkn M lk o0 x z (sp_cd k.toNat))), (9, kb_i (sp_cd k.toNat)), (0, .ref (ad 22)), (1, kb_i lk), (2, kb_i o0), (3, kb_i x), (4, kb_i z), (8, kb_i k)]) X dX7_turn_122 (by decide) rfl ?_
                    refine kb_iinc (lv' := [(8, kb_i (k + 1)), (5, kb_i x5_15), (6, kb_l (x6_14)), (10, kb_l (mo_lkn M lk o0 x z (sp_cd k.toNat))), (9, kb_i (sp_cd k.toNat)), (0, .ref (ad 22)), (1, kb_i lk), (2, kb_i o0), (3, kb_i x), (4, kb_i z)]) X 9 rfl dX7_turn_124 rfl (by decide) rfl ?_
                    refine kb_goto (tgt := 64) X dX7_turn_127 (by decide) ?_
                    refine kb_sub [5, 6, 7, 8, 9, 1, 2, 0] (lv' := [(0, .ref (ad 22)), (1, kb_i lk), (2, kb_i o0), (3, kb_i x), (4, kb_i z), (5, kb_i x5_15), (6, kb_l (x6_14)), (8, kb_i (k + 1))]) rfl ?_
                    exact ih9 x5_15 x6_14 (k + 1) (by omega) (by first | omega | assumption | exact ⟨by omega, by omega⟩) (by refine ⟨?_, by first | exact hJ.2 | (subst_vars; rfl)⟩; rw [mo_tnS _ hI.1, ← hJ.1, ← hJ.2]; first | (rw [if_pos (by omega)]; assumption) | rw [if_neg (by omega)])
                ·
                  refine kb_iload X 7 rfl dX7_turn_79 ?_
                  refine kb_iconst X dX7_turn_81 ?_
                  refine kb_iadd X dX7_turn_82 ?_
                  refine kb_ineg X dX7_turn_83 ?_
                  refine kb_iconst X dX7_turn_84 ?_
                  refine kb_idiv X ⟨by omega, by omega⟩ ⟨by decide, by decide⟩ (by omega) dX7_turn_85 ?_
                  refine kb_eqi (b := sp_cd k.toNat) (mo_cd1 (by omega) (by assumption)) ?_
                  refine kb_goto (tgt := 93) X dX7_turn_86 (by decide) ?_
                  refine kb_istore (lv' := [(9, kb_i (sp_cd k.toNat)), (0, .ref (ad 22)), (1, kb_i lk), (2, kb_i o0), (3, kb_i x), (4, kb_i z), (5, kb_i b), (6, kb_l (gr)), (8, kb_i k)]) X dX7_turn_93 (by decide) rfl ?_
                  refine kb_aload_n X 1 rfl dX7_turn_95 ?_
                  refine kb_iload_n X 2 rfl dX7_turn_96 ?_
                  refine kb_iload_n X 3 rfl dX7_turn_97 ?_
                  refine kb_iload_n X 4 rfl dX7_turn_98 ?_
                  refine kb_iload X 5 rfl dX7_turn_99 ?_
                  refine kb_iload X 0 rfl dX7_turn_101 ?_
                  refine kb_cVl X (rest := []) [kb_i lk, kb_i o0, kb_i x, kb_i z, kb_i (sp_cd k.toNat)] 22 (fl := [none, some 23, some 24, none, none, none, none, none, none, none, none, some 25, some 26, some 27, some 28, some 29, none, some 30, some 31, none, some 32, some 33, some 34, some 35, none, none, none, some 36]) (C := RX7) rfl rfl (c_X7_turned l D ad cy M lk o0 x z (sp_cd k.toNat) (by first | omega | assumption | exact ⟨by omega, by omega⟩) (by first | omega | assumption | exact ⟨by omega, by omega⟩) (by first | omega | assumption | exact ⟨by omega, by omega⟩) (by first | omega | assumption | exact ⟨by omega, by omega⟩) (by first | omega | assumption | exact ⟨by omega, by omega⟩) (by first | omega | assumption | exact ⟨by omega, by omega⟩) (by first | omega | assumption | exact ⟨by omega, by omega⟩) (by first | omega | assumption | exact ⟨by omega, by omega⟩)) gX7_turn_X7_turned rfl ⟨rfl, hy_X7_turned⟩ ⟨by decide, by decide⟩ rfl (Nat.le_of_ble_eq_true rfl) ⟨by decide, by decide⟩ dX7_turn_103 rfl ?_
                  have g16 : -532480000 ≤ (mo_lkn M lk o0 x z (sp_cd k.toNat)) ∧ (mo_lkn M lk o0 x z (sp_cd k.toNat)) ≤ 532480000 := mo_lkn_b (by assumption) (by omega) _ _ _ _ _
                  refine kb_lstore (lv' := [(10, kb_l (mo_lkn M lk o0 x z (sp_cd k.toNat))), (9, kb_i (sp_cd k.toNat)), (0, .ref (ad 22)), (1, kb_i lk), (2, kb_i o0), (3, kb_i x), (4, kb_i z), (5, kb_i b), (6, kb_l (gr)), (8, kb_i k)]) X dX7_turn_106 (by decide) rfl ?_
                  refine kb_lload X 0 rfl dX7_turn_108 ?_
                  refine kb_lload X 8 rfl dX7_turn_110 ?_
                  refine kb_lcmp_le (tgt := 124) X ⟨by omega, by omega⟩ ⟨by omega, by omega⟩ dX7_turn_112 dX7_turn_113 (by decide) (fun h17 => ?_) (fun h17 => ?_)
                  ·
                    refine kb_iinc (lv' := [(8, kb_i (k + 1)), (10, kb_l (mo_lkn M lk o0 x z (sp_cd k.toNat))), (9, kb_i (sp_cd k.toNat)), (0, .ref (ad 22)), (1, kb_i lk), (2, kb_i o0), (3, kb_i x), (4, kb_i z), (5, kb_i b), (6, kb_l (gr))]) X 9 rfl dX7_turn_124 rfl (by decide) rfl ?_
                    refine kb_goto (tgt := 64) X dX7_turn_127 (by decide) ?_
                    refine kb_sub [3, 4, 5, 6, 7, 8, 9, 0] (lv' := [(0, .ref (ad 22)), (1, kb_i lk), (2, kb_i o0), (3, kb_i x), (4, kb_i z), (5, kb_i b), (6, kb_l (gr)), (8, kb_i (k + 1))]) rfl ?_
                    exact ih9 b gr (k + 1) (by omega) (by first | omega | assumption | exact ⟨by omega, by omega⟩) (by refine ⟨?_, by first | exact hJ.2 | (subst_vars; rfl)⟩; rw [mo_tnS _ hI.1, ← hJ.1, ← hJ.2]; first | (rw [if_pos (by omega)]; assumption) | rw [if_neg (by omega)])
                  ·
                    refine kb_lload X 0 rfl dX7_turn_116 ?_
                    refine kb_nml (fun x6_18 ex6_18 => ?_)
                    refine kb_lstore (lv' := [(6, kb_l (x6_18)), (10, kb_l (mo_lkn M lk o0 x z (sp_cd k.toNat))), (9, kb_i (sp_cd k.toNat)), (0, .ref (ad 22)), (1, kb_i lk), (2, kb_i o0), (3, kb_i x), (4, kb_i z), (5, kb_i b), (8, kb_i k)]) X dX7_turn_118 (by decide) rfl ?_
                    refine kb_iload X 2 rfl dX7_turn_120 ?_
                    refine kb_nmi (fun x5_19 ex5_19 => ?_)
                    refine kb_istore (lv' := [(5, kb_i x5_19), (6, kb_l (x6_18)), (10, kb_l (mo_lkn M lk o0 x z (sp_cd k.toNat))), (9, kb_i (sp_cd k.toNat)), (0, .ref (ad 22)), (1, kb_i lk), (2, kb_i o0), (3, kb_i x), (4, kb_i z), (8, kb_i k)]) X dX7_turn_122 (by decide) rfl ?_
                    refine kb_iinc (lv' := [(8, kb_i (k + 1)), (5, kb_i x5_19), (6, kb_l (x6_18)), (10, kb_l (mo_lkn M lk o0 x z (sp_cd k.toNat))), (9, kb_i (sp_cd k.toNat)), (0, .ref (ad 22)), (1, kb_i lk), (2, kb_i o0), (3, kb_i x), (4, kb_i z)]) X 9 rfl dX7_turn_124 rfl (by decide) rfl ?_
                    refine kb_goto (tgt := 64) X dX7_turn_127 (by decide) ?_
                    refine kb_sub [5, 6, 7, 8, 9, 1, 2, 0] (lv' := [(0, .ref (ad 22)), (1, kb_i lk), (2, kb_i o0), (3, kb_i x), (4, kb_i z), (5, kb_i x5_19), (6, kb_l (x6_18)), (8, kb_i (k + 1))]) rfl ?_
                    exact ih9 x5_19 x6_18 (k + 1) (by omega) (by first | omega | assumption | exact ⟨by omega, by omega⟩) (by refine ⟨?_, by first | exact hJ.2 | (subst_vars; rfl)⟩; rw [mo_tnS _ hI.1, ← hJ.1, ← hJ.2]; first | (rw [if_pos (by omega)]; assumption) | rw [if_neg (by omega)])
          refine kb_sub [3, 4, 5, 6, 7, 2, 1, 0] (lv' := [(0, .ref (ad 22)), (1, kb_i lk), (2, kb_i o0), (3, kb_i x), (4, kb_i z), (5, kb_i 0), (6, kb_l (x6_8)), (8, kb_i 1)]) rfl ?_
          exact L64 _ (0 : Int) x6_8 (1 : Int) (Nat.lt_succ_self _) (by first | omega | assumption | exact ⟨by omega, by omega⟩) (by refine ⟨rfl, ?_⟩; assumption)
        ·
          refine kb_bipush X (by decide) dX7_turn_43 ?_
          exact kb_iret X hr hlocks dX7_turn_45 (by unfold mo_turnR; repeat (first | rw [if_pos (by omega)] | rw [if_neg (by omega)]); try first | rfl | omega) (by first | rfl | (exfalso; omega))
      ·
        refine kb_bipush X (by decide) dX7_turn_25 ?_
        exact kb_iret X hr hlocks dX7_turn_27 (by unfold mo_turnR; repeat (first | rw [if_pos (by omega)] | rw [if_neg (by omega)]); try first | rfl | omega) (by first | rfl | (exfalso; omega))
-- X7_fan
theorem hf_X7_fan_78 : Cond.fieldLink yX7_fan.cls 78 RX7 "fan" "[I" ∈ wsX7_fan := by decide +kernel
theorem hf_X7_fan_182 : Cond.fieldLink yX7_fan.cls 182 RX7 "fanLines" "I" ∈ wsX7_fan := by decide +kernel
theorem hf_X7_fan_185 : Cond.fieldLink yX7_fan.cls 185 RX7 "fanMeans" "I" ∈ wsX7_fan := by decide +kernel
theorem hf_X7_fan_188 : Cond.fieldLink yX7_fan.cls 188 RX7 "fanStep" "I" ∈ wsX7_fan := by decide +kernel
theorem hi_X7_fan_X7 : ∀ w ∈ wsX70, w ∈ wsX7_fan := by decide +kernel
theorem hy_X7_fan : yX7_fan.cls ≠ "java/lang/invoke/MethodHandle" ∧ yX7_fan.cls ≠ "java/lang/invoke/VarHandle" ∧ (parseMethodDescriptor yX7_fan.desc).map (fun d => d.parameters.length) = some 4 := by decide +kernel
set_option maxHeartbeats 4000000 in
set_option maxRecDepth 100000 in
theorem c_X7_fan (l : Launch) (D : va_G) (ad : Nat → Nat) (cy : Nat → ClassId) (M : kb_M) (lk : Int) (n : Int) (k0 : Int) (r0 : Int) (hlk : -2147483648 ≤ lk ∧ lk < 2147483648) (hn : -2147483648 ≤ n ∧ n < 2147483648) (hk0 : -2147483648 ≤ k0 ∧ k0 < 2147483648) (hr0 : -2147483648 ≤ r0 ∧ r0 < 2147483648) (hIP : mo_IP M) (hIL : mo_IL M) : kb_Ci l D ad cy yX7_fan wsX7_fan 4 110 [.ref (ad 22), kb_i lk, kb_i n, kb_i k0, kb_i r0] M (mo_fanR M lk n k0 r0) (mo_fanM M lk n k0 r0) := by
  refine kb_mkCi (cc := cX7_fan) (maxL := 9) (lv := [(0, .ref (ad 22)), (1, kb_i lk), (2, kb_i n), (3, kb_i k0), (4, kb_i r0)]) (plainFor_of_name (by decide)) rfl (Nat.le_of_ble_eq_true rfl) rfl ?_
  intro p e s m args below meth c X hr hlocks hM
  obtain ⟨hxs, hn0, hP, hT, hf⟩ := id hIP
  obtain ⟨hs, hsb, hsn⟩ := id hIL
  refine kb_aload_n X 0 rfl dX7_fan_0 ?_
  refine kb_iload_n X 1 rfl dX7_fan_1 ?_
  refine kb_cVi X (rest := []) [kb_i lk] 22 (fl := [none, some 23, some 24, none, none, none, none, none, none, none, none, some 25, some 26, some 27, some 28, some 29, none, some 30, some 31, none, some 32, some 33, some 34, some 35, none, none, none, some 36]) (C := RX7) rfl rfl (c_X7_isLook l D ad cy M lk (by first | omega | assumption | exact ⟨by omega, by omega⟩) (by first | omega | assumption | exact ⟨by omega, by omega⟩)) gX7_fan_X7_isLook rfl ⟨rfl, hy_X7_isLook⟩ ⟨by decide, by decide⟩ rfl (Nat.le_of_ble_eq_true rfl) ⟨by decide, by decide⟩ dX7_fan_2 rfl ?_
  refine kb_ifb_eq (tgt := 49) X dX7_fan_5 (by decide) (fun h1 => ?_) (fun h1 => ?_)
  ·
    refine kb_bipush X (by decide) dX7_fan_49 ?_
    exact kb_iret X hr hlocks dX7_fan_51 (by unfold mo_fanR; repeat (first | rw [if_pos (by omega)] | rw [if_neg (by omega)]); try first | rfl | omega) (by unfold mo_fanM; rw [if_neg (by omega)])
  ·
    refine kb_iload_n X 2 rfl dX7_fan_8 ?_
    refine kb_i2l X ⟨by omega, by omega⟩ dX7_fan_9 ?_
    refine kb_ldc2 (v := 2) X (2) (by decide +kernel) (by decide) dX7_fan_10 ?_
    refine kb_ldc2 (v := 9) X (9) (by decide +kernel) (by decide) dX7_fan_13 ?_
    refine kb_cSi X (rest := []) [kb_l (n), kb_l (2), kb_l (9)] (c_X7_in l D ad cy M n 2 9 (by first | omega | assumption | exact ⟨by omega, by omega⟩) (by first | omega | assumption | exact ⟨by omega, by omega⟩) (by first | omega | assumption | exact ⟨by omega, by omega⟩)) gX7_fan_X7_in rfl hy_X7_in ⟨by decide, by decide⟩ rfl (Nat.le_of_ble_eq_true rfl) ⟨by decide, by decide⟩ dX7_fan_16 rfl ?_
    refine kb_ifb_eq (tgt := 49) X dX7_fan_19 (by decide) (fun h2 => ?_) (fun h2 => ?_)
    ·
      refine kb_bipush X (by decide) dX7_fan_49 ?_
      exact kb_iret X hr hlocks dX7_fan_51 (by unfold mo_fanR; repeat (first | rw [if_pos (by omega)] | rw [if_neg (by omega)]); try first | rfl | omega) (by unfold mo_fanM; rw [if_neg (by omega)])
    ·
      refine kb_iload_n X 3 rfl dX7_fan_22 ?_
      refine kb_i2l X ⟨by omega, by omega⟩ dX7_fan_23 ?_
      refine kb_ldc2 (v := 2) X (2) (by decide +kernel) (by decide) dX7_fan_24 ?_
      refine kb_ldc2 (v := 16) X (16) (by decide +kernel) (by decide) dX7_fan_27 ?_
      refine kb_cSi X (rest := []) [kb_l (k0), kb_l (2), kb_l (16)] (c_X7_in l D ad cy M k0 2 16 (by first | omega | assumption | exact ⟨by omega, by omega⟩) (by first | omega | assumption | exact ⟨by omega, by omega⟩) (by first | omega | assumption | exact ⟨by omega, by omega⟩)) gX7_fan_X7_in rfl hy_X7_in ⟨by decide, by decide⟩ rfl (Nat.le_of_ble_eq_true rfl) ⟨by decide, by decide⟩ dX7_fan_30 rfl ?_
      refine kb_ifb_eq (tgt := 49) X dX7_fan_33 (by decide) (fun h3 => ?_) (fun h3 => ?_)
      ·
        refine kb_bipush X (by decide) dX7_fan_49 ?_
        exact kb_iret X hr hlocks dX7_fan_51 (by unfold mo_fanR; repeat (first | rw [if_pos (by omega)] | rw [if_neg (by omega)]); try first | rfl | omega) (by unfold mo_fanM; rw [if_neg (by omega)])
      ·
        refine kb_iload X 4 rfl dX7_fan_36 ?_
        refine kb_i2l X ⟨by omega, by omega⟩ dX7_fan_38 ?_
        refine kb_lconst X dX7_fan_39 ?_
        refine kb_eql (b := 1) rfl ?_
        refine kb_ldc2 (v := 250) X (250) (by decide +kernel) (by decide) dX7_fan_40 ?_
        refine kb_cSi X (rest := []) [kb_l (r0), kb_l (1), kb_l (250)] (c_X7_in l D ad cy M r0 1 250 (by first | omega | assumption | exact ⟨by omega, by omega⟩) (by first | omega | assumption | exact ⟨by omega, by omega⟩) (by first | omega | assumption | exact ⟨by omega, by omega⟩)) gX7_fan_X7_in rfl hy_X7_in ⟨by decide, by decide⟩ rfl (Nat.le_of_ble_eq_true rfl) ⟨by decide, by decide⟩ dX7_fan_43 rfl ?_
        refine kb_ifb_ne (tgt := 52) X dX7_fan_46 (by decide) (fun h4 => ?_) (fun h4 => ?_)
        ·
          refine kb_aload_n X 0 rfl dX7_fan_52 ?_
          refine kb_iload_n X 2 rfl dX7_fan_53 ?_
          refine kp_X7_fanLines X hi_X7_fan_X7 hf_X7_fan_182 ⟨by omega, by omega⟩ dX7_fan_54 ?_
          refine kb_aload_n X 0 rfl dX7_fan_57 ?_
          refine kb_iload_n X 3 rfl dX7_fan_58 ?_
          refine kp_X7_fanMeans X hi_X7_fan_X7 hf_X7_fan_185 ⟨by omega, by omega⟩ dX7_fan_59 ?_
          refine kb_aload_n X 0 rfl dX7_fan_62 ?_
          refine kb_iload X 4 rfl dX7_fan_63 ?_
          refine kp_X7_fanStep X hi_X7_fan_X7 hf_X7_fan_188 ⟨by omega, by omega⟩ dX7_fan_65 ?_
          refine kb_iload_n X 2 rfl dX7_fan_68 ?_
          refine kb_iconst X dX7_fan_69 ?_
          refine kb_isub X dX7_fan_70 ?_
          refine kb_iconst X dX7_fan_71 ?_
          refine kb_idiv X ⟨by omega, by omega⟩ ⟨by decide, by decide⟩ (by omega) dX7_fan_72 ?_
          refine kb_eqi (b := (n - 1) / 2) (kb_td (by omega)) ?_
          refine kb_istore (lv' := [(5, kb_i ((n - 1) / 2)), (0, .ref (ad 22)), (1, kb_i lk), (2, kb_i n), (3, kb_i k0), (4, kb_i r0)]) X dX7_fan_73 (by decide) rfl ?_
          refine kb_iconst X dX7_fan_75 ?_
          refine kb_istore (lv' := [(6, kb_i 0), (5, kb_i ((n - 1) / 2)), (0, .ref (ad 22)), (1, kb_i lk), (2, kb_i n), (3, kb_i k0), (4, kb_i r0)]) X dX7_fan_76 (by decide) rfl ?_
          have L78 : ∀ nn_ : Nat, ∀ (a : Int), (9 - a).toNat < nn_ → (0 ≤ a ∧ a ≤ n) → kb_B p l e ({ frames := 4, cells := 0, slots := 0, locals := 110 } : Room) s m args below meth c D ad cy (kb_A ad s.heap.size) 9 0 0 (MQ below (va_Qi (fun (vq_ : Int32) (_ : Unit) => vq_ = kb_J (mo_fanR M lk n k0 r0)) (fun _ t => kb_en2 D ad cy (mo_fanM M lk n k0 r0) t) (kb_A ad s.heap.size)) args s 0 0 (kb_A ad s.heap.size)) 78 [(0, .ref (ad 22)), (1, kb_i lk), (2, kb_i n), (3, kb_i k0), (4, kb_i r0), (5, kb_i ((n - 1) / 2)), (6, kb_i a)] [] ((mo_fn (mo_fb0 M n k0 r0) lk n k0 r0 (k0 * a).toNat)) := by
            intro nn_
            induction nn_ with
            | zero => intro a hn; exact absurd hn (Nat.not_lt_zero _)
            | succ nn_ ih5 =>
              intro a hn hI
              refine kb_iload X 6 rfl dX7_fan_78 ?_
              refine kb_iload_n X 2 rfl dX7_fan_80 ?_
              refine kb_icmp_ge (tgt := 165) X ⟨by omega, by omega⟩ ⟨by omega, by omega⟩ dX7_fan_81 (by decide) (fun h6 => ?_) (fun h6 => ?_)
              ·
                refine kb_iconst X dX7_fan_165 ?_
                exact kb_iret X hr hlocks dX7_fan_166 (by unfold mo_fanR; repeat (first | rw [if_pos (by omega)] | rw [if_neg (by omega)]); try first | rfl | omega) (by (have e : a = n := by omega); unfold mo_fanM; rw [if_pos (by omega), e])
              ·
                refine kb_iconst X dX7_fan_84 ?_
                refine kb_istore (lv' := [(7, kb_i 0), (0, .ref (ad 22)), (1, kb_i lk), (2, kb_i n), (3, kb_i k0), (4, kb_i r0), (5, kb_i ((n - 1) / 2)), (6, kb_i a)]) X dX7_fan_85 (by decide) rfl ?_
                have L87 : ∀ nn_ : Nat, ∀ (k : Int), (16 - k).toNat < nn_ → (0 ≤ k ∧ k ≤ k0) → kb_B p l e ({ frames := 4, cells := 0, slots := 0, locals := 110 } : Room) s m args below meth c D ad cy (kb_A ad s.heap.size) 9 0 0 (MQ below (va_Qi (fun (vq_ : Int32) (_ : Unit) => vq_ = kb_J (mo_fanR M lk n k0 r0)) (fun _ t => kb_en2 D ad cy (mo_fanM M lk n k0 r0) t) (kb_A ad s.heap.size)) args s 0 0 (kb_A ad s.heap.size)) 87 [(0, .ref (ad 22)), (1, kb_i lk), (2, kb_i n), (3, kb_i k0), (4, kb_i r0), (5, kb_i ((n - 1) / 2)), (6, kb_i a), (7, kb_i k)] [] ((mo_fn (mo_fb0 M n k0 r0) lk n k0 r0 (k0 * a + k).toNat)) := by
                  intro nn_
                  induction nn_ with
                  | zero => intro k hn; exact absurd hn (Nat.not_lt_zero _)
                  | succ nn_ ih7 =>
                    intro k hn hK
                    refine kb_iload X 7 rfl dX7_fan_87 ?_
                    refine kb_iload_n X 3 rfl dX7_fan_89 ?_
                    refine kb_icmp_ge (tgt := 159) X ⟨by omega, by omega⟩ ⟨by omega, by omega⟩ dX7_fan_90 (by decide) (fun h8 => ?_) (fun h8 => ?_)
                    ·
                      refine kb_iinc (lv' := [(6, kb_i (a + 1)), (0, .ref (ad 22)), (1, kb_i lk), (2, kb_i n), (3, kb_i k0), (4, kb_i r0), (5, kb_i ((n - 1) / 2)), (7, kb_i k)]) X 6 rfl dX7_fan_159 rfl (by decide) rfl ?_
                      refine kb_goto (tgt := 78) X dX7_fan_162 (by decide) ?_
                      refine kb_sub [1, 2, 3, 4, 5, 6, 0] (lv' := [(0, .ref (ad 22)), (1, kb_i lk), (2, kb_i n), (3, kb_i k0), (4, kb_i r0), (5, kb_i ((n - 1) / 2)), (6, kb_i (a + 1))]) rfl ?_
                      refine kb_eqM (M' := mo_fn (mo_fb0 M n k0 r0) lk n k0 r0 (k0 * (a + 1)).toNat) (by rw [show k0 * (a + 1) = k0 * a + k by rw [Int.mul_add]; omega]) ?_
                      exact ih5 (a + 1) (by omega) (by first | omega | assumption | exact ⟨by omega, by omega⟩)
                    ·
                      have xb := mo_xo_b (n := n) (r := r0) (a := a) (k := k) (by omega) (by omega) (by omega) (by omega)
                      have hIP1 : mo_IP ((mo_fn (mo_fb0 M n k0 r0) lk n k0 r0 (k0 * a + k).toNat)) := mo_fnB_IP _ hIP
                      have hIL1 : mo_IL ((mo_fn (mo_fb0 M n k0 r0) lk n k0 r0 (k0 * a + k).toNat)) := mo_fnB_IL _ hIL
                      have pb := sp_pow_b (k := lk) (by omega)
                      refine kb_iload X 7 rfl dX7_fan_93 ?_
                      refine kb_iload X 4 rfl dX7_fan_95 ?_
                      refine kb_imul X dX7_fan_97 ?_
                      refine kb_iload X 6 rfl dX7_fan_98 ?_
                      refine kb_iload X 5 rfl dX7_fan_100 ?_
                      refine kb_isub X dX7_fan_102 ?_
                      refine kb_imul X dX7_fan_103 ?_
                      refine kb_bipush X (by decide) dX7_fan_104 ?_
                      refine kb_idiv X ⟨by omega, by omega⟩ ⟨by decide, by decide⟩ (by omega) dX7_fan_106 ?_
                      refine kb_eqi (b := mo_xo n r0 a k) (rfl) ?_
                      refine kb_istore (lv' := [(8, kb_i (mo_xo n r0 a k)), (0, .ref (ad 22)), (1, kb_i lk), (2, kb_i n), (3, kb_i k0), (4, kb_i r0), (5, kb_i ((n - 1) / 2)), (6, kb_i a), (7, kb_i k)]) X dX7_fan_107 (by decide) rfl ?_
                      refine kb_aload_n X 1 rfl dX7_fan_109 ?_
                      refine kg_X7_fan X hi_X7_fan_X7 hf_X7_fan_78 dX7_fan_110 ?_
                      refine kb_bipush X (by decide) dX7_fan_113 ?_
                      refine kb_iload X 7 rfl dX7_fan_115 ?_
                      refine kb_imul X dX7_fan_117 ?_
                      refine kb_iload X 8 rfl dX7_fan_118 ?_
                      refine kb_iadd X dX7_fan_120 ?_
                      refine kb_iload X 0 rfl dX7_fan_121 ?_
                      refine kb_iload X 8 rfl dX7_fan_123 ?_
                      refine kb_iload X 5 rfl dX7_fan_125 ?_
                      refine kb_imul X dX7_fan_127 ?_
                      refine kb_cSi X (rest := [kb_i ((16 * a) + k), .ref (ad 36)]) [kb_i (mo_xo n r0 a k), kb_i (k * r0)] (c_X7_isPlace l D ad cy ((mo_fn (mo_fb0 M n k0 r0) lk n k0 r0 (k0 * a + k).toNat)) (mo_xo n r0 a k) (k * r0) (by first | omega | assumption | exact ⟨by omega, by omega⟩) (by first | omega | assumption | exact ⟨by omega, by omega⟩)) gX7_fan_X7_isPlace rfl hy_X7_isPlace ⟨by decide, by decide⟩ rfl (Nat.le_of_ble_eq_true rfl) ⟨by decide, by decide⟩ dX7_fan_128 rfl ?_
                      refine kb_ifb_eq (tgt := 151) X dX7_fan_131 (by decide) (fun h9 => ?_) (fun h9 => ?_)
                      ·
                        refine kb_iconst X dX7_fan_151 ?_
                        refine kb_iast X 36 (n := 144) rfl ⟨by omega, by omega⟩ (by decide) ⟨by decide, by decide⟩ dX7_fan_152 ?_
                        refine kb_iinc (lv' := [(7, kb_i (k + 1)), (8, kb_i (mo_xo n r0 a k)), (0, .ref (ad 22)), (1, kb_i lk), (2, kb_i n), (3, kb_i k0), (4, kb_i r0), (5, kb_i ((n - 1) / 2)), (6, kb_i a)]) X 8 rfl dX7_fan_153 rfl (by decide) rfl ?_
                        refine kb_goto (tgt := 87) X dX7_fan_156 (by decide) ?_
                        refine kb_sub [2, 3, 4, 5, 6, 7, 8, 0] (lv' := [(0, .ref (ad 22)), (1, kb_i lk), (2, kb_i n), (3, kb_i k0), (4, kb_i r0), (5, kb_i ((n - 1) / 2)), (6, kb_i a), (7, kb_i (k + 1))]) rfl ?_
                        refine kb_eqM (M' := mo_fn (mo_fb0 M n k0 r0) lk n k0 r0 (k0 * a + (k + 1)).toNat) ((mo_fnS _ _ _ _ _ _ _ _ (by omega) hI.1 (by unfold mo_jp; first | rw [if_pos (by omega)] | rw [if_neg (by omega)])).symm) ?_
                        exact ih7 (k + 1) (by omega) (by first | omega | assumption | exact ⟨by omega, by omega⟩)
                      ·
                        refine kb_aload_n X 1 rfl dX7_fan_134 ?_
                        refine kb_iconst X dX7_fan_135 ?_
                        refine kb_iload_n X 2 rfl dX7_fan_136 ?_
                        refine kb_ishl1 X (by omega) (by omega) dX7_fan_137 ?_
                        refine kb_iload X 0 rfl dX7_fan_138 ?_
                        refine kb_iload X 8 rfl dX7_fan_140 ?_
                        refine kb_iload X 5 rfl dX7_fan_142 ?_
                        refine kb_imul X dX7_fan_144 ?_
                        refine kb_cVi X (rest := [kb_i ((16 * a) + k), .ref (ad 36)]) [kb_i (2 ^ lk.toNat), kb_i (mo_xo n r0 a k), kb_i (k * r0)] 22 (fl := [none, some 23, some 24, none, none, none, none, none, none, none, none, some 25, some 26, some 27, some 28, some 29, none, some 30, some 31, none, some 32, some 33, some 34, some 35, none, none, none, some 36]) (C := RX7) rfl rfl (c_X7_meanOf l D ad cy ((mo_fn (mo_fb0 M n k0 r0) lk n k0 r0 (k0 * a + k).toNat)) (2 ^ lk.toNat) (mo_xo n r0 a k) (k * r0) (by first | omega | assumption | exact ⟨by omega, by omega⟩) (by first | omega | assumption | exact ⟨by omega, by omega⟩) (by first | omega | assumption | exact ⟨by omega, by omega⟩) (by exact hIP1) (by exact hIL1)) gX7_fan_X7_meanOf rfl ⟨rfl, hy_X7_meanOf⟩ ⟨by decide, by decide⟩ rfl (Nat.le_of_ble_eq_true rfl) ⟨by decide, by decide⟩ dX7_fan_145 rfl ?_
                        have g10 : -1600 ≤ (mo_jm ((mo_fn (mo_fb0 M n k0 r0) lk n k0 r0 (k0 * a + k).toNat)) (2 ^ lk.toNat) (mo_xo n r0 a k) (k * r0)) ∧ (mo_jm ((mo_fn (mo_fb0 M n k0 r0) lk n k0 r0 (k0 * a + k).toNat)) (2 ^ lk.toNat) (mo_xo n r0 a k) (k * r0)) ≤ 1600 := by apply mo_jm_b3 <;> first | assumption | omega
                        refine kb_goto (tgt := 152) X dX7_fan_148 (by decide) ?_
                        refine kb_iast X 36 (n := 144) rfl ⟨by omega, by omega⟩ (by decide) ⟨by omega, by omega⟩ dX7_fan_152 ?_
                        refine kb_iinc (lv' := [(7, kb_i (k + 1)), (8, kb_i (mo_xo n r0 a k)), (0, .ref (ad 22)), (1, kb_i lk), (2, kb_i n), (3, kb_i k0), (4, kb_i r0), (5, kb_i ((n - 1) / 2)), (6, kb_i a)]) X 8 rfl dX7_fan_153 rfl (by decide) rfl ?_
                        refine kb_goto (tgt := 87) X dX7_fan_156 (by decide) ?_
                        refine kb_sub [2, 3, 4, 5, 6, 7, 8, 0] (lv' := [(0, .ref (ad 22)), (1, kb_i lk), (2, kb_i n), (3, kb_i k0), (4, kb_i r0), (5, kb_i ((n - 1) / 2)), (6, kb_i a), (7, kb_i (k + 1))]) rfl ?_
                        refine kb_eqM (M' := mo_fn (mo_fb0 M n k0 r0) lk n k0 r0 (k0 * a + (k + 1)).toNat) ((mo_fnS _ _ _ _ _ _ _ _ (by omega) hI.1 (by unfold mo_jp; first | rw [if_pos (by omega)] | rw [if_neg (by omega)])).symm) ?_
                        exact ih7 (k + 1) (by omega) (by first | omega | assumption | exact ⟨by omega, by omega⟩)
                refine kb_sub [1, 2, 3, 4, 5, 6, 7, 0] (lv' := [(0, .ref (ad 22)), (1, kb_i lk), (2, kb_i n), (3, kb_i k0), (4, kb_i r0), (5, kb_i ((n - 1) / 2)), (6, kb_i a), (7, kb_i 0)]) rfl ?_
                refine kb_eqM (M' := mo_fn (mo_fb0 M n k0 r0) lk n k0 r0 (k0 * a + (0 : Int)).toNat) (by rw [Int.add_zero]) ?_
                exact L87 _ (0 : Int) (Nat.lt_succ_self _) (by first | omega | assumption | exact ⟨by omega, by omega⟩)
          refine kb_sub [2, 3, 4, 5, 6, 1, 0] (lv' := [(0, .ref (ad 22)), (1, kb_i lk), (2, kb_i n), (3, kb_i k0), (4, kb_i r0), (5, kb_i ((n - 1) / 2)), (6, kb_i 0)]) rfl ?_
          refine kb_eqM (M' := mo_fn (mo_fb0 M n k0 r0) lk n k0 r0 (k0 * (0 : Int)).toNat) (by rw [Int.mul_zero]; rfl) ?_
          exact L78 _ (0 : Int) (Nat.lt_succ_self _) (by first | omega | assumption | exact ⟨by omega, by omega⟩)
        ·
          refine kb_bipush X (by decide) dX7_fan_49 ?_
          exact kb_iret X hr hlocks dX7_fan_51 (by unfold mo_fanR; repeat (first | rw [if_pos (by omega)] | rw [if_neg (by omega)]); try first | rfl | omega) (by unfold mo_fanM; rw [if_neg (by omega)])
-- X7_fanAt
theorem hf_X7_fanAt_78 : Cond.fieldLink yX7_fanAt.cls 78 RX7 "fan" "[I" ∈ wsX7_fanAt := by decide +kernel
theorem hf_X7_fanAt_182 : Cond.fieldLink yX7_fanAt.cls 182 RX7 "fanLines" "I" ∈ wsX7_fanAt := by decide +kernel
theorem hf_X7_fanAt_185 : Cond.fieldLink yX7_fanAt.cls 185 RX7 "fanMeans" "I" ∈ wsX7_fanAt := by decide +kernel
theorem hi_X7_fanAt_X7 : ∀ w ∈ wsX70, w ∈ wsX7_fanAt := by decide +kernel
theorem hy_X7_fanAt : yX7_fanAt.cls ≠ "java/lang/invoke/MethodHandle" ∧ yX7_fanAt.cls ≠ "java/lang/invoke/VarHandle" ∧ (parseMethodDescriptor yX7_fanAt.desc).map (fun d => d.parameters.length) = some 2 := by decide +kernel
set_option maxHeartbeats 4000000 in
set_option maxRecDepth 100000 in
theorem c_X7_fanAt (l : Launch) (D : va_G) (ad : Nat → Nat) (cy : Nat → ClassId) (M : kb_M) (a : Int) (k : Int) (ha : -2147483648 ≤ a ∧ a < 2147483648) (hk : -2147483648 ≤ k ∧ k < 2147483648) (hF : mo_IF M) : kb_Ci l D ad cy yX7_fanAt wsX7_fanAt 1 25 [.ref (ad 22), kb_i a, kb_i k] M (mo_fanAtR M a k) (M) := by
  refine kb_mkCi (cc := cX7_fanAt) (maxL := 3) (lv := [(0, .ref (ad 22)), (1, kb_i a), (2, kb_i k)]) (plainFor_of_name (by decide)) rfl (Nat.le_of_ble_eq_true rfl) rfl ?_
  intro p e s m args below meth c X hr hlocks hM
  obtain ⟨f1, f2, f3, f4⟩ := id hF
  refine kb_iload_n X 1 rfl dX7_fanAt_0 ?_
  refine kb_i2l X ⟨by omega, by omega⟩ dX7_fanAt_1 ?_
  refine kb_lconst X dX7_fanAt_2 ?_
  refine kb_eql (b := 0) rfl ?_
  refine kb_aload_n X 0 rfl dX7_fanAt_3 ?_
  refine kg_X7_fanLines X hi_X7_fanAt_X7 hf_X7_fanAt_182 dX7_fanAt_4 ?_
  have g1 : -2147483648 ≤ M 22 24 ∧ M 22 24 < 2147483648 := hM 22 24
  refine kb_iconst X dX7_fanAt_7 ?_
  refine kb_isub X dX7_fanAt_8 ?_
  refine kb_i2l X ⟨by omega, by omega⟩ dX7_fanAt_9 ?_
  refine kb_cSi X (rest := []) [kb_l (a), kb_l (0), kb_l ((M 22 24) - 1)] (c_X7_in l D ad cy M a 0 ((M 22 24) - 1) (by first | omega | assumption | exact ⟨by omega, by omega⟩) (by first | omega | assumption | exact ⟨by omega, by omega⟩) (by first | omega | assumption | exact ⟨by omega, by omega⟩)) gX7_fanAt_X7_in rfl hy_X7_in ⟨by decide, by decide⟩ rfl (Nat.le_of_ble_eq_true rfl) ⟨by decide, by decide⟩ dX7_fanAt_10 rfl ?_
  refine kb_ifb_eq (tgt := 46) X dX7_fanAt_13 (by decide) (fun h2 => ?_) (fun h2 => ?_)
  ·
    refine kb_ldc (v := -1000000000) X (-1000000000) (by decide +kernel) (by decide) dX7_fanAt_46 ?_
    exact kb_iret X hr hlocks dX7_fanAt_48 (by unfold mo_fanAtR; repeat (first | rw [if_pos (by omega)] | rw [if_neg (by omega)]); try first | rfl | omega) (by first | rfl | (exfalso; omega))
  ·
    refine kb_iload_n X 2 rfl dX7_fanAt_16 ?_
    refine kb_i2l X ⟨by omega, by omega⟩ dX7_fanAt_17 ?_
    refine kb_lconst X dX7_fanAt_18 ?_
    refine kb_eql (b := 0) rfl ?_
    refine kb_aload_n X 0 rfl dX7_fanAt_19 ?_
    refine kg_X7_fanMeans X hi_X7_fanAt_X7 hf_X7_fanAt_185 dX7_fanAt_20 ?_
    have g3 : -2147483648 ≤ M 22 25 ∧ M 22 25 < 2147483648 := hM 22 25
    refine kb_iconst X dX7_fanAt_23 ?_
    refine kb_isub X dX7_fanAt_24 ?_
    refine kb_i2l X ⟨by omega, by omega⟩ dX7_fanAt_25 ?_
    refine kb_cSi X (rest := []) [kb_l (k), kb_l (0), kb_l ((M 22 25) - 1)] (c_X7_in l D ad cy M k 0 ((M 22 25) - 1) (by first | omega | assumption | exact ⟨by omega, by omega⟩) (by first | omega | assumption | exact ⟨by omega, by omega⟩) (by first | omega | assumption | exact ⟨by omega, by omega⟩)) gX7_fanAt_X7_in rfl hy_X7_in ⟨by decide, by decide⟩ rfl (Nat.le_of_ble_eq_true rfl) ⟨by decide, by decide⟩ dX7_fanAt_26 rfl ?_
    refine kb_ifb_eq (tgt := 46) X dX7_fanAt_29 (by decide) (fun h4 => ?_) (fun h4 => ?_)
    ·
      refine kb_ldc (v := -1000000000) X (-1000000000) (by decide +kernel) (by decide) dX7_fanAt_46 ?_
      exact kb_iret X hr hlocks dX7_fanAt_48 (by unfold mo_fanAtR; repeat (first | rw [if_pos (by omega)] | rw [if_neg (by omega)]); try first | rfl | omega) (by first | rfl | (exfalso; omega))
    ·
      refine kb_aload_n X 0 rfl dX7_fanAt_32 ?_
      refine kg_X7_fan X hi_X7_fanAt_X7 hf_X7_fanAt_78 dX7_fanAt_33 ?_
      refine kb_bipush X (by decide) dX7_fanAt_36 ?_
      refine kb_iload_n X 1 rfl dX7_fanAt_38 ?_
      refine kb_imul X dX7_fanAt_39 ?_
      refine kb_iload_n X 2 rfl dX7_fanAt_40 ?_
      refine kb_iadd X dX7_fanAt_41 ?_
      refine kb_iald X 36 (n := 144) rfl ⟨by omega, by omega⟩ (by decide) dX7_fanAt_42 ?_
      have g5 : -2147483648 ≤ M 36 ((16 * a) + k) ∧ M 36 ((16 * a) + k) < 2147483648 := hM 36 ((16 * a) + k)
      refine kb_goto (tgt := 48) X dX7_fanAt_43 (by decide) ?_
      exact kb_iret X hr hlocks dX7_fanAt_48 (by unfold mo_fanAtR; repeat (first | rw [if_pos (by omega)] | rw [if_neg (by omega)]); try first | rfl | omega) (by first | rfl | (exfalso; omega))
-- X7_shared
theorem hf_X7_shared_78 : Cond.fieldLink yX7_shared.cls 78 RX7 "fan" "[I" ∈ wsX7_shared := by decide +kernel
theorem hi_X7_shared_X7 : ∀ w ∈ wsX70, w ∈ wsX7_shared := by decide +kernel
theorem hy_X7_shared : yX7_shared.cls ≠ "java/lang/invoke/MethodHandle" ∧ yX7_shared.cls ≠ "java/lang/invoke/VarHandle" ∧ (parseMethodDescriptor yX7_shared.desc).map (fun d => d.parameters.length) = some 3 := by decide +kernel
set_option maxHeartbeats 4000000 in
set_option maxRecDepth 100000 in
theorem c_X7_shared (l : Launch) (D : va_G) (ad : Nat → Nat) (cy : Nat → ClassId) (M : kb_M) (s0 : Int) (a : Int) (k : Int) (hs : 0 ≤ s0 ∧ s0 ≤ 256) (hc : s0 ≠ 0 → (0 ≤ a ∧ a ≤ 8) ∧ 0 ≤ k ∧ k ≤ 15) (ha : -2147483648 ≤ a ∧ a < 2147483648) (hk : -2147483648 ≤ k ∧ k < 2147483648) : kb_Cl l D ad cy yX7_shared wsX7_shared 0 0 [.ref (ad 22), kb_i s0, kb_i a, kb_i k] M (mo_shr M s0 a k) (M) := by
  refine kb_mkCl (cc := cX7_shared) (maxL := 4) (lv := [(0, .ref (ad 22)), (1, kb_i s0), (2, kb_i a), (3, kb_i k)]) (plainFor_of_name (by decide)) rfl (Nat.le_of_ble_eq_true rfl) rfl ?_
  intro p e s m args below meth c X hr hlocks hM
  refine kb_iload_n X 1 rfl dX7_shared_0 ?_
  refine kb_if_ne (tgt := 8) X ⟨by omega, by omega⟩ dX7_shared_1 (by decide) (fun h1 => ?_) (fun h1 => ?_)
  ·
    have hc2 := hc (by omega)
    refine kb_iload_n X 1 rfl dX7_shared_8 ?_
    refine kb_i2l X ⟨by omega, by omega⟩ dX7_shared_9 ?_
    refine kb_aload_n X 0 rfl dX7_shared_10 ?_
    refine kg_X7_fan X hi_X7_shared_X7 hf_X7_shared_78 dX7_shared_11 ?_
    refine kb_bipush X (by decide) dX7_shared_14 ?_
    refine kb_iload_n X 2 rfl dX7_shared_16 ?_
    refine kb_imul X dX7_shared_17 ?_
    refine kb_iload_n X 3 rfl dX7_shared_18 ?_
    refine kb_iadd X dX7_shared_19 ?_
    refine kb_iald X 36 (n := 144) rfl ⟨by omega, by omega⟩ (by decide) dX7_shared_20 ?_
    have g2 : -2147483648 ≤ M 36 ((16 * a) + k) ∧ M 36 ((16 * a) + k) < 2147483648 := hM 36 ((16 * a) + k)
    refine kb_i2l X ⟨by omega, by omega⟩ dX7_shared_21 ?_
    refine kb_lmul X dX7_shared_22 ?_
    exact kb_lret X hr hlocks dX7_shared_23 (by unfold mo_shr; first | rw [if_pos (by omega)] | rw [if_neg (by omega)]) (by first | rfl | (exfalso; omega))
  ·
    refine kb_lconst X dX7_shared_4 ?_
    refine kb_eql (b := 0) rfl ?_
    refine kb_goto (tgt := 23) X dX7_shared_5 (by decide) ?_
    exact kb_lret X hr hlocks dX7_shared_23 (by unfold mo_shr; first | rw [if_pos (by omega)] | rw [if_neg (by omega)]) (by first | rfl | (exfalso; omega))
-- X7_board
theorem hf_X7_board_182 : Cond.fieldLink yX7_board.cls 182 RX7 "fanLines" "I" ∈ wsX7_board := by decide +kernel
theorem hf_X7_board_185 : Cond.fieldLink yX7_board.cls 185 RX7 "fanMeans" "I" ∈ wsX7_board := by decide +kernel
theorem hf_X7_board_188 : Cond.fieldLink yX7_board.cls 188 RX7 "fanStep" "I" ∈ wsX7_board := by decide +kernel
theorem hi_X7_board_X7 : ∀ w ∈ wsX70, w ∈ wsX7_board := by decide +kernel
theorem hy_X7_board : yX7_board.cls ≠ "java/lang/invoke/MethodHandle" ∧ yX7_board.cls ≠ "java/lang/invoke/VarHandle" ∧ (parseMethodDescriptor yX7_board.desc).map (fun d => d.parameters.length) = some 5 := by decide +kernel
set_option maxHeartbeats 4000000 in
set_option maxRecDepth 100000 in
theorem c_X7_board (l : Launch) (D : va_G) (ad : Nat → Nat) (cy : Nat → ClassId) (M : kb_M) (w : Int) (h0 : Int) (s0 : Int) (u0 : Int) (v0 : Int) (hw : -2147483648 ≤ w ∧ w < 2147483648) (hh0 : -2147483648 ≤ h0 ∧ h0 < 2147483648) (hs0 : -2147483648 ≤ s0 ∧ s0 < 2147483648) (hu0 : -2147483648 ≤ u0 ∧ u0 < 2147483648) (hv0 : -2147483648 ≤ v0 ∧ v0 < 2147483648) (hF : mo_IF M) : kb_Ci l D ad cy yX7_board wsX7_board 1 25 [.ref (ad 22), kb_i w, kb_i h0, kb_i s0, kb_i u0, kb_i v0] M (mo_boardR M w h0 s0 u0 v0) (M) := by
  refine kb_mkCi (cc := cX7_board) (maxL := 16) (lv := [(0, .ref (ad 22)), (1, kb_i w), (2, kb_i h0), (3, kb_i s0), (4, kb_i u0), (5, kb_i v0)]) (plainFor_of_name (by decide)) rfl (Nat.le_of_ble_eq_true rfl) rfl ?_
  intro p e s m args below meth c X hr hlocks hM
  obtain ⟨f1, f2, f3, f4⟩ := id hF
  refine kb_iload_n X 1 rfl dX7_board_0 ?_
  refine kb_i2l X ⟨by omega, by omega⟩ dX7_board_1 ?_
  refine kb_ldc2 (v := 2) X (2) (by decide +kernel) (by decide) dX7_board_2 ?_
  refine kb_ldc2 (v := 12) X (12) (by decide +kernel) (by decide) dX7_board_5 ?_
  refine kb_cSi X (rest := []) [kb_l (w), kb_l (2), kb_l (12)] (c_X7_in l D ad cy M w 2 12 (by first | omega | assumption | exact ⟨by omega, by omega⟩) (by first | omega | assumption | exact ⟨by omega, by omega⟩) (by first | omega | assumption | exact ⟨by omega, by omega⟩)) gX7_board_X7_in rfl hy_X7_in ⟨by decide, by decide⟩ rfl (Nat.le_of_ble_eq_true rfl) ⟨by decide, by decide⟩ dX7_board_8 rfl ?_
  refine kb_ifb_eq (tgt := 75) X dX7_board_11 (by decide) (fun h1 => ?_) (fun h1 => ?_)
  ·
    refine kb_ldc (v := -1000000000) X (-1000000000) (by decide +kernel) (by decide) dX7_board_75 ?_
    exact kb_iret X hr hlocks dX7_board_77 (by unfold mo_boardR; repeat (first | rw [if_pos (by omega)] | rw [if_neg (by omega)]); try first | rfl | omega) (by first | rfl | (exfalso; omega))
  ·
    refine kb_iload_n X 2 rfl dX7_board_14 ?_
    refine kb_i2l X ⟨by omega, by omega⟩ dX7_board_15 ?_
    refine kb_ldc2 (v := 2) X (2) (by decide +kernel) (by decide) dX7_board_16 ?_
    refine kb_ldc2 (v := 12) X (12) (by decide +kernel) (by decide) dX7_board_19 ?_
    refine kb_cSi X (rest := []) [kb_l (h0), kb_l (2), kb_l (12)] (c_X7_in l D ad cy M h0 2 12 (by first | omega | assumption | exact ⟨by omega, by omega⟩) (by first | omega | assumption | exact ⟨by omega, by omega⟩) (by first | omega | assumption | exact ⟨by omega, by omega⟩)) gX7_board_X7_in rfl hy_X7_in ⟨by decide, by decide⟩ rfl (Nat.le_of_ble_eq_true rfl) ⟨by decide, by decide⟩ dX7_board_22 rfl ?_
    refine kb_ifb_eq (tgt := 75) X dX7_board_25 (by decide) (fun h2 => ?_) (fun h2 => ?_)
    ·
      refine kb_ldc (v := -1000000000) X (-1000000000) (by decide +kernel) (by decide) dX7_board_75 ?_
      exact kb_iret X hr hlocks dX7_board_77 (by unfold mo_boardR; repeat (first | rw [if_pos (by omega)] | rw [if_neg (by omega)]); try first | rfl | omega) (by first | rfl | (exfalso; omega))
    ·
      refine kb_iload_n X 3 rfl dX7_board_28 ?_
      refine kb_i2l X ⟨by omega, by omega⟩ dX7_board_29 ?_
      refine kb_lconst X dX7_board_30 ?_
      refine kb_eql (b := 1) rfl ?_
      refine kb_ldc2 (v := 500) X (500) (by decide +kernel) (by decide) dX7_board_31 ?_
      refine kb_cSi X (rest := []) [kb_l (s0), kb_l (1), kb_l (500)] (c_X7_in l D ad cy M s0 1 500 (by first | omega | assumption | exact ⟨by omega, by omega⟩) (by first | omega | assumption | exact ⟨by omega, by omega⟩) (by first | omega | assumption | exact ⟨by omega, by omega⟩)) gX7_board_X7_in rfl hy_X7_in ⟨by decide, by decide⟩ rfl (Nat.le_of_ble_eq_true rfl) ⟨by decide, by decide⟩ dX7_board_34 rfl ?_
      refine kb_ifb_eq (tgt := 75) X dX7_board_37 (by decide) (fun h3 => ?_) (fun h3 => ?_)
      ·
        refine kb_ldc (v := -1000000000) X (-1000000000) (by decide +kernel) (by decide) dX7_board_75 ?_
        exact kb_iret X hr hlocks dX7_board_77 (by unfold mo_boardR; repeat (first | rw [if_pos (by omega)] | rw [if_neg (by omega)]); try first | rfl | omega) (by first | rfl | (exfalso; omega))
      ·
        refine kb_iload X 4 rfl dX7_board_40 ?_
        refine kb_i2l X ⟨by omega, by omega⟩ dX7_board_42 ?_
        refine kb_lconst X dX7_board_43 ?_
        refine kb_eql (b := 0) rfl ?_
        refine kb_iload_n X 1 rfl dX7_board_44 ?_
        refine kb_iconst X dX7_board_45 ?_
        refine kb_isub X dX7_board_46 ?_
        refine kb_i2l X ⟨by omega, by omega⟩ dX7_board_47 ?_
        refine kb_cSi X (rest := []) [kb_l (u0), kb_l (0), kb_l (w - 1)] (c_X7_in l D ad cy M u0 0 (w - 1) (by first | omega | assumption | exact ⟨by omega, by omega⟩) (by first | omega | assumption | exact ⟨by omega, by omega⟩) (by first | omega | assumption | exact ⟨by omega, by omega⟩)) gX7_board_X7_in rfl hy_X7_in ⟨by decide, by decide⟩ rfl (Nat.le_of_ble_eq_true rfl) ⟨by decide, by decide⟩ dX7_board_48 rfl ?_
        refine kb_ifb_eq (tgt := 75) X dX7_board_51 (by decide) (fun h4 => ?_) (fun h4 => ?_)
        ·
          refine kb_ldc (v := -1000000000) X (-1000000000) (by decide +kernel) (by decide) dX7_board_75 ?_
          exact kb_iret X hr hlocks dX7_board_77 (by unfold mo_boardR; repeat (first | rw [if_pos (by omega)] | rw [if_neg (by omega)]); try first | rfl | omega) (by first | rfl | (exfalso; omega))
        ·
          refine kb_iload X 5 rfl dX7_board_54 ?_
          refine kb_i2l X ⟨by omega, by omega⟩ dX7_board_56 ?_
          refine kb_lconst X dX7_board_57 ?_
          refine kb_eql (b := 0) rfl ?_
          refine kb_iload_n X 2 rfl dX7_board_58 ?_
          refine kb_iconst X dX7_board_59 ?_
          refine kb_isub X dX7_board_60 ?_
          refine kb_i2l X ⟨by omega, by omega⟩ dX7_board_61 ?_
          refine kb_cSi X (rest := []) [kb_l (v0), kb_l (0), kb_l (h0 - 1)] (c_X7_in l D ad cy M v0 0 (h0 - 1) (by first | omega | assumption | exact ⟨by omega, by omega⟩) (by first | omega | assumption | exact ⟨by omega, by omega⟩) (by first | omega | assumption | exact ⟨by omega, by omega⟩)) gX7_board_X7_in rfl hy_X7_in ⟨by decide, by decide⟩ rfl (Nat.le_of_ble_eq_true rfl) ⟨by decide, by decide⟩ dX7_board_62 rfl ?_
          refine kb_ifb_eq (tgt := 75) X dX7_board_65 (by decide) (fun h5 => ?_) (fun h5 => ?_)
          ·
            refine kb_ldc (v := -1000000000) X (-1000000000) (by decide +kernel) (by decide) dX7_board_75 ?_
            exact kb_iret X hr hlocks dX7_board_77 (by unfold mo_boardR; repeat (first | rw [if_pos (by omega)] | rw [if_neg (by omega)]); try first | rfl | omega) (by first | rfl | (exfalso; omega))
          ·
            refine kb_aload_n X 0 rfl dX7_board_68 ?_
            refine kg_X7_fanLines X hi_X7_board_X7 hf_X7_board_182 dX7_board_69 ?_
            have g6 : -2147483648 ≤ M 22 24 ∧ M 22 24 < 2147483648 := hM 22 24
            refine kb_if_ne (tgt := 78) X ⟨by omega, by omega⟩ dX7_board_72 (by decide) (fun h7 => ?_) (fun h7 => ?_)
            ·
              have hl5 := f3 (by omega)
              have m1 := sp_mulb (a := s0) (b := 2 * u0 - w + 1 + 11) (A := 500) (B := 22) (by omega) (by omega) (by omega) (by omega)
              have m2 := sp_mulb (a := s0) (b := v0) (A := 500) (B := 11) (by omega) (by omega) (by omega) (by omega)
              rw [Int.mul_add] at m1
              have m4 := sp_tdb (x := s0 * (2 * u0 - w + 1)) (z := 2) (b := 11000) (by omega) (by omega)
              have db := sp_divb (z := 16 * (s0 * v0)) (f := M 22 26) (by omega) (by omega)
              refine kb_iload_n X 3 rfl dX7_board_78 ?_
              refine kb_iconst X dX7_board_79 ?_
              refine kb_iload X 4 rfl dX7_board_80 ?_
              refine kb_imul X dX7_board_82 ?_
              refine kb_iload_n X 1 rfl dX7_board_83 ?_
              refine kb_isub X dX7_board_84 ?_
              refine kb_iconst X dX7_board_85 ?_
              refine kb_iadd X dX7_board_86 ?_
              refine kb_imul X dX7_board_87 ?_
              refine kb_iconst X dX7_board_88 ?_
              refine kb_idiv X ⟨by omega, by omega⟩ ⟨by decide, by decide⟩ (by omega) dX7_board_89 ?_
              refine kb_istore (lv' := [(6, kb_i ((s0 * (((2 * u0) - w) + 1)).tdiv 2)), (0, .ref (ad 22)), (1, kb_i w), (2, kb_i h0), (3, kb_i s0), (4, kb_i u0), (5, kb_i v0)]) X dX7_board_90 (by decide) rfl ?_
              refine kb_iload_n X 4 rfl dX7_board_92 ?_
              refine kb_iload X 6 rfl dX7_board_93 ?_
              refine kb_imul X dX7_board_95 ?_
              refine kb_istore (lv' := [(7, kb_i (s0 * v0)), (6, kb_i ((s0 * (((2 * u0) - w) + 1)).tdiv 2)), (0, .ref (ad 22)), (1, kb_i w), (2, kb_i h0), (3, kb_i s0), (4, kb_i u0), (5, kb_i v0)]) X dX7_board_96 (by decide) rfl ?_
              have db7 := sp_divb (z := 16 * (s0 * v0)) (f := M 22 26) (by omega) (by omega)
              refine kb_bipush X (by decide) dX7_board_98 ?_
              refine kb_iload X 0 rfl dX7_board_100 ?_
              refine kb_imul X dX7_board_102 ?_
              refine kb_aload_n X 2 rfl dX7_board_103 ?_
              refine kg_X7_fanStep X hi_X7_board_X7 hf_X7_board_188 dX7_board_104 ?_
              have g8 : -2147483648 ≤ M 22 26 ∧ M 22 26 < 2147483648 := hM 22 26
              refine kb_idiv X ⟨by omega, by omega⟩ ⟨by omega, by omega⟩ (by omega) dX7_board_107 ?_
              refine kb_eqi (b := (16 * (s0 * v0)) / (M 22 26)) (kb_td (by omega)) ?_
              refine kb_nmi (fun x8_9 ex8_9 => ?_)
              refine kb_istore (lv' := [(8, kb_i x8_9), (7, kb_i (s0 * v0)), (6, kb_i ((s0 * (((2 * u0) - w) + 1)).tdiv 2)), (0, .ref (ad 22)), (1, kb_i w), (2, kb_i h0), (3, kb_i s0), (4, kb_i u0), (5, kb_i v0)]) X dX7_board_108 (by decide) rfl ?_
              refine kb_bipush X (by decide) dX7_board_110 ?_
              refine kb_aload_n X 3 rfl dX7_board_112 ?_
              refine kg_X7_fanLines X hi_X7_board_X7 hf_X7_board_182 dX7_board_113 ?_
              refine kb_iconst X dX7_board_116 ?_
              refine kb_isub X dX7_board_117 ?_
              refine kb_iconst X dX7_board_118 ?_
              refine kb_idiv X ⟨by omega, by omega⟩ ⟨by decide, by decide⟩ (by omega) dX7_board_119 ?_
              refine kb_eqi (b := ((M 22 24) - 1) / 2) (kb_td (by omega)) ?_
              refine kb_imul X dX7_board_120 ?_
              refine kb_iload X 1 rfl dX7_board_121 ?_
              refine kb_if_ne (tgt := 130) X ⟨by omega, by omega⟩ dX7_board_123 (by decide) (fun h10 => ?_) (fun h10 => ?_)
              ·
                refine kb_sipush X (by decide) dX7_board_130 ?_
                refine kb_iload X 2 rfl dX7_board_133 ?_
                refine kb_imul X dX7_board_135 ?_
                refine kb_iload X 1 rfl dX7_board_136 ?_
                refine kb_idiv X ⟨by omega, by omega⟩ ⟨by omega, by omega⟩ (by omega) dX7_board_138 ?_
                have tb := sp_tdb (x := 128 * ((s0 * (((2 * u0) - w) + 1)).tdiv 2)) (z := (s0 * v0)) (b := 2560000) (by omega) (by omega)
                refine kb_iadd X dX7_board_139 ?_
                refine kb_nmi (fun x9_11 ex9_11 => ?_)
                refine kb_istore (lv' := [(9, kb_i x9_11), (8, kb_i x8_9), (7, kb_i (s0 * v0)), (6, kb_i ((s0 * (((2 * u0) - w) + 1)).tdiv 2)), (0, .ref (ad 22)), (1, kb_i w), (2, kb_i h0), (3, kb_i s0), (4, kb_i u0), (5, kb_i v0)]) X dX7_board_140 (by decide) rfl ?_
                refine kb_iload X 0 rfl dX7_board_142 ?_
                refine kb_if_lt (tgt := 175) X ⟨by omega, by omega⟩ dX7_board_144 (by decide) (fun h12 => ?_) (fun h12 => ?_)
                ·
                  refine kb_iconst X dX7_board_175 ?_
                  exact kb_iret X hr hlocks dX7_board_176 (by unfold mo_boardR; rw [if_pos (by omega)]; exact mo_la_0 (wd := x9_11) (dp := x8_9) (by unfold mo_wd; first | (rw [if_pos (by omega)]; omega) | (rw [if_neg (by omega)]; omega)) (by omega) (by omega)) (by first | rfl | (exfalso; omega))
                ·
                  refine kb_iload X 0 rfl dX7_board_147 ?_
                  refine kb_bipush X (by decide) dX7_board_149 ?_
                  refine kb_aload_n X 4 rfl dX7_board_151 ?_
                  refine kg_X7_fanLines X hi_X7_board_X7 hf_X7_board_182 dX7_board_152 ?_
                  refine kb_iconst X dX7_board_155 ?_
                  refine kb_isub X dX7_board_156 ?_
                  refine kb_imul X dX7_board_157 ?_
                  refine kb_icmp_gt (tgt := 175) X ⟨by omega, by omega⟩ ⟨by omega, by omega⟩ dX7_board_158 (by decide) (fun h13 => ?_) (fun h13 => ?_)
                  ·
                    refine kb_iconst X dX7_board_175 ?_
                    exact kb_iret X hr hlocks dX7_board_176 (by unfold mo_boardR; rw [if_pos (by omega)]; exact mo_la_0 (wd := x9_11) (dp := x8_9) (by unfold mo_wd; first | (rw [if_pos (by omega)]; omega) | (rw [if_neg (by omega)]; omega)) (by omega) (by omega)) (by first | rfl | (exfalso; omega))
                  ·
                    refine kb_iload X 1 rfl dX7_board_161 ?_
                    refine kb_bipush X (by decide) dX7_board_163 ?_
                    refine kb_aload_n X 4 rfl dX7_board_165 ?_
                    refine kg_X7_fanMeans X hi_X7_board_X7 hf_X7_board_185 dX7_board_166 ?_
                    have g14 : -2147483648 ≤ M 22 25 ∧ M 22 25 < 2147483648 := hM 22 25
                    refine kb_iconst X dX7_board_169 ?_
                    refine kb_isub X dX7_board_170 ?_
                    refine kb_imul X dX7_board_171 ?_
                    refine kb_icmp_le (tgt := 177) X ⟨by omega, by omega⟩ ⟨by omega, by omega⟩ dX7_board_172 (by decide) (fun h15 => ?_) (fun h15 => ?_)
                    ·
                      refine kb_iload X 1 rfl dX7_board_177 ?_
                      refine kb_bipush X (by decide) dX7_board_179 ?_
                      refine kb_idiv X ⟨by omega, by omega⟩ ⟨by decide, by decide⟩ (by omega) dX7_board_181 ?_
                      refine kb_eqi (b := x8_9 / 16) (kb_td (by omega)) ?_
                      refine kb_nmi (fun x10_16 ex10_16 => ?_)
                      refine kb_istore (lv' := [(10, kb_i x10_16), (9, kb_i x9_11), (8, kb_i x8_9), (7, kb_i (s0 * v0)), (6, kb_i ((s0 * (((2 * u0) - w) + 1)).tdiv 2)), (0, .ref (ad 22)), (1, kb_i w), (2, kb_i h0), (3, kb_i s0), (4, kb_i u0), (5, kb_i v0)]) X dX7_board_182 (by decide) rfl ?_
                      refine kb_iload X 2 rfl dX7_board_184 ?_
                      refine kb_bipush X (by decide) dX7_board_186 ?_
                      refine kb_irem X ⟨by omega, by omega⟩ ⟨by decide, by decide⟩ (by omega) dX7_board_188 ?_
                      refine kb_eqi (b := x8_9 % 16) (kb_tm (by omega)) ?_
                      refine kb_nmi (fun x11_17 ex11_17 => ?_)
                      refine kb_istore (lv' := [(11, kb_i x11_17), (10, kb_i x10_16), (9, kb_i x9_11), (8, kb_i x8_9), (7, kb_i (s0 * v0)), (6, kb_i ((s0 * (((2 * u0) - w) + 1)).tdiv 2)), (0, .ref (ad 22)), (1, kb_i w), (2, kb_i h0), (3, kb_i s0), (4, kb_i u0), (5, kb_i v0)]) X dX7_board_189 (by decide) rfl ?_
                      refine kb_iload X 2 rfl dX7_board_191 ?_
                      refine kb_bipush X (by decide) dX7_board_193 ?_
                      refine kb_idiv X ⟨by omega, by omega⟩ ⟨by decide, by decide⟩ (by omega) dX7_board_195 ?_
                      refine kb_eqi (b := x9_11 / 16) (kb_td (by omega)) ?_
                      refine kb_nmi (fun x12_18 ex12_18 => ?_)
                      refine kb_istore (lv' := [(12, kb_i x12_18), (11, kb_i x11_17), (10, kb_i x10_16), (9, kb_i x9_11), (8, kb_i x8_9), (7, kb_i (s0 * v0)), (6, kb_i ((s0 * (((2 * u0) - w) + 1)).tdiv 2)), (0, .ref (ad 22)), (1, kb_i w), (2, kb_i h0), (3, kb_i s0), (4, kb_i u0), (5, kb_i v0)]) X dX7_board_196 (by decide) rfl ?_
                      refine kb_iload X 3 rfl dX7_board_198 ?_
                      refine kb_bipush X (by decide) dX7_board_200 ?_
                      refine kb_irem X ⟨by omega, by omega⟩ ⟨by decide, by decide⟩ (by omega) dX7_board_202 ?_
                      refine kb_eqi (b := x9_11 % 16) (kb_tm (by omega)) ?_
                      refine kb_nmi (fun x13_19 ex13_19 => ?_)
                      refine kb_istore (lv' := [(13, kb_i x13_19), (12, kb_i x12_18), (11, kb_i x11_17), (10, kb_i x10_16), (9, kb_i x9_11), (8, kb_i x8_9), (7, kb_i (s0 * v0)), (6, kb_i ((s0 * (((2 * u0) - w) + 1)).tdiv 2)), (0, .ref (ad 22)), (1, kb_i w), (2, kb_i h0), (3, kb_i s0), (4, kb_i u0), (5, kb_i v0)]) X dX7_board_203 (by decide) rfl ?_
                      have sg := sp_shg (g := x13_19) (f := x11_17) (by omega) (by omega)
                      have nz2 := mo_nz (a := x13_19) (b := 16 - x11_17)
                      have nz3 := mo_nz (a := 16 - x13_19) (b := x11_17)
                      have nz4 := mo_nz (a := x13_19) (b := x11_17)
                      have w1 := mo_shr_b f4 sg.1 x12_18 x10_16
                      have w2 := mo_shr_b f4 sg.2.1 (x12_18 + 1) x10_16
                      have w3 := mo_shr_b f4 sg.2.2.1 x12_18 (x10_16 + 1)
                      have w4 := mo_shr_b f4 sg.2.2.2 (x12_18 + 1) (x10_16 + 1)
                      refine kb_aload_n X 8 rfl dX7_board_205 ?_
                      refine kb_bipush X (by decide) dX7_board_206 ?_
                      refine kb_iload X 0 rfl dX7_board_208 ?_
                      refine kb_isub X dX7_board_210 ?_
                      refine kb_bipush X (by decide) dX7_board_211 ?_
                      refine kb_iload X 2 rfl dX7_board_213 ?_
                      refine kb_isub X dX7_board_215 ?_
                      refine kb_imul X dX7_board_216 ?_
                      refine kb_iload X 1 rfl dX7_board_217 ?_
                      refine kb_iload X 3 rfl dX7_board_219 ?_
                      refine kb_cVl X (rest := []) [kb_i ((16 - x13_19) * (16 - x11_17)), kb_i x12_18, kb_i x10_16] 22 (fl := [none, some 23, some 24, none, none, none, none, none, none, none, none, some 25, some 26, some 27, some 28, some 29, none, some 30, some 31, none, some 32, some 33, some 34, some 35, none, none, none, some 36]) (C := RX7) rfl rfl (c_X7_shared l D ad cy M ((16 - x13_19) * (16 - x11_17)) x12_18 x10_16 (by first | omega | assumption | exact ⟨by omega, by omega⟩) (fun _ => by omega) (by first | omega | assumption | exact ⟨by omega, by omega⟩) (by first | omega | assumption | exact ⟨by omega, by omega⟩)) gX7_board_X7_shared rfl ⟨rfl, hy_X7_shared⟩ ⟨by decide, by decide⟩ rfl (Nat.le_of_ble_eq_true rfl) ⟨by decide, by decide⟩ dX7_board_221 rfl ?_
                      refine kb_aload_n X 8 rfl dX7_board_224 ?_
                      refine kb_iload X 0 rfl dX7_board_225 ?_
                      refine kb_bipush X (by decide) dX7_board_227 ?_
                      refine kb_iload X 2 rfl dX7_board_229 ?_
                      refine kb_isub X dX7_board_231 ?_
                      refine kb_imul X dX7_board_232 ?_
                      refine kb_iload X 1 rfl dX7_board_233 ?_
                      refine kb_iconst X dX7_board_235 ?_
                      refine kb_iadd X dX7_board_236 ?_
                      refine kb_iload X 3 rfl dX7_board_237 ?_
                      refine kb_cVl X (rest := [kb_l (mo_shr M ((16 - x13_19) * (16 - x11_17)) x12_18 x10_16)]) [kb_i (x13_19 * (16 - x11_17)), kb_i (x12_18 + 1), kb_i x10_16] 22 (fl := [none, some 23, some 24, none, none, none, none, none, none, none, none, some 25, some 26, some 27, some 28, some 29, none, some 30, some 31, none, some 32, some 33, some 34, some 35, none, none, none, some 36]) (C := RX7) rfl rfl (c_X7_shared l D ad cy M (x13_19 * (16 - x11_17)) (x12_18 + 1) x10_16 (by first | omega | assumption | exact ⟨by omega, by omega⟩) (fun hz => by have := nz2 hz; omega) (by first | omega | assumption | exact ⟨by omega, by omega⟩) (by first | omega | assumption | exact ⟨by omega, by omega⟩)) gX7_board_X7_shared rfl ⟨rfl, hy_X7_shared⟩ ⟨by decide, by decide⟩ rfl (Nat.le_of_ble_eq_true rfl) ⟨by decide, by decide⟩ dX7_board_239 rfl ?_
                      refine kb_ladd X dX7_board_242 ?_
                      refine kb_aload_n X 8 rfl dX7_board_243 ?_
                      refine kb_bipush X (by decide) dX7_board_244 ?_
                      refine kb_iload X 0 rfl dX7_board_246 ?_
                      refine kb_isub X dX7_board_248 ?_
                      refine kb_iload X 2 rfl dX7_board_249 ?_
                      refine kb_imul X dX7_board_251 ?_
                      refine kb_iload X 1 rfl dX7_board_252 ?_
                      refine kb_iload X 3 rfl dX7_board_254 ?_
                      refine kb_iconst X dX7_board_256 ?_
                      refine kb_iadd X dX7_board_257 ?_
                      refine kb_cVl X (rest := [kb_l ((mo_shr M ((16 - x13_19) * (16 - x11_17)) x12_18 x10_16) + (mo_shr M (x13_19 * (16 - x11_17)) (x12_18 + 1) x10_16))]) [kb_i ((16 - x13_19) * x11_17), kb_i x12_18, kb_i (x10_16 + 1)] 22 (fl := [none, some 23, some 24, none, none, none, none, none, none, none, none, some 25, some 26, some 27, some 28, some 29, none, some 30, some 31, none, some 32, some 33, some 34, some 35, none, none, none, some 36]) (C := RX7) rfl rfl (c_X7_shared l D ad cy M ((16 - x13_19) * x11_17) x12_18 (x10_16 + 1) (by first | omega | assumption | exact ⟨by omega, by omega⟩) (fun hz => by have := nz3 hz; omega) (by first | omega | assumption | exact ⟨by omega, by omega⟩) (by first | omega | assumption | exact ⟨by omega, by omega⟩)) gX7_board_X7_shared rfl ⟨rfl, hy_X7_shared⟩ ⟨by decide, by decide⟩ rfl (Nat.le_of_ble_eq_true rfl) ⟨by decide, by decide⟩ dX7_board_258 rfl ?_
                      refine kb_ladd X dX7_board_261 ?_
                      refine kb_aload_n X 8 rfl dX7_board_262 ?_
                      refine kb_iload X 0 rfl dX7_board_263 ?_
                      refine kb_iload X 2 rfl dX7_board_265 ?_
                      refine kb_imul X dX7_board_267 ?_
                      refine kb_iload X 1 rfl dX7_board_268 ?_
                      refine kb_iconst X dX7_board_270 ?_
                      refine kb_iadd X dX7_board_271 ?_
                      refine kb_iload X 3 rfl dX7_board_272 ?_
                      refine kb_iconst X dX7_board_274 ?_
                      refine kb_iadd X dX7_board_275 ?_
                      refine kb_cVl X (rest := [kb_l (((mo_shr M ((16 - x13_19) * (16 - x11_17)) x12_18 x10_16) + (mo_shr M (x13_19 * (16 - x11_17)) (x12_18 + 1) x10_16)) + (mo_shr M ((16 - x13_19) * x11_17) x12_18 (x10_16 + 1)))]) [kb_i (x13_19 * x11_17), kb_i (x12_18 + 1), kb_i (x10_16 + 1)] 22 (fl := [none, some 23, some 24, none, none, none, none, none, none, none, none, some 25, some 26, some 27, some 28, some 29, none, some 30, some 31, none, some 32, some 33, some 34, some 35, none, none, none, some 36]) (C := RX7) rfl rfl (c_X7_shared l D ad cy M (x13_19 * x11_17) (x12_18 + 1) (x10_16 + 1) (by first | omega | assumption | exact ⟨by omega, by omega⟩) (fun hz => by have := nz4 hz; omega) (by first | omega | assumption | exact ⟨by omega, by omega⟩) (by first | omega | assumption | exact ⟨by omega, by omega⟩)) gX7_board_X7_shared rfl ⟨rfl, hy_X7_shared⟩ ⟨by decide, by decide⟩ rfl (Nat.le_of_ble_eq_true rfl) ⟨by decide, by decide⟩ dX7_board_276 rfl ?_
                      refine kb_ladd X dX7_board_279 ?_
                      refine kb_nml (fun x14_20 ex14_20 => ?_)
                      refine kb_lstore (lv' := [(14, kb_l (x14_20)), (13, kb_i x13_19), (12, kb_i x12_18), (11, kb_i x11_17), (10, kb_i x10_16), (9, kb_i x9_11), (8, kb_i x8_9), (7, kb_i (s0 * v0)), (6, kb_i ((s0 * (((2 * u0) - w) + 1)).tdiv 2)), (0, .ref (ad 22)), (1, kb_i w), (2, kb_i h0), (3, kb_i s0), (4, kb_i u0), (5, kb_i v0)]) X dX7_board_280 (by decide) rfl ?_
                      refine kb_lload X 0 rfl dX7_board_282 ?_
                      refine kb_ldc2 (v := 256) X (256) (by decide +kernel) (by decide) dX7_board_284 ?_
                      refine kb_ldiv X ⟨by omega, by omega⟩ ⟨by decide, by decide⟩ (by omega) dX7_board_287 ?_
                      refine kb_l2i X dX7_board_288 ?_
                      exact kb_iret X hr hlocks dX7_board_289 (by unfold mo_boardR; rw [if_pos (by omega), mo_la_1 (wd := x9_11) (dp := x8_9) (by unfold mo_wd; first | (rw [if_pos (by omega)]; omega) | (rw [if_neg (by omega)]; omega)) (by omega) (by omega)]; unfold mo_mx; subst_vars; rfl) (by first | rfl | (exfalso; omega))
                    ·
                      refine kb_iconst X dX7_board_175 ?_
                      exact kb_iret X hr hlocks dX7_board_176 (by unfold mo_boardR; rw [if_pos (by omega)]; exact mo_la_0 (wd := x9_11) (dp := x8_9) (by unfold mo_wd; first | (rw [if_pos (by omega)]; omega) | (rw [if_neg (by omega)]; omega)) (by omega) (by omega)) (by first | rfl | (exfalso; omega))
              ·
                refine kb_iconst X dX7_board_126 ?_
                refine kb_goto (tgt := 139) X dX7_board_127 (by decide) ?_
                have tb := sp_tdb (x := 128 * ((s0 * (((2 * u0) - w) + 1)).tdiv 2)) (z := (s0 * v0)) (b := 2560000) (by omega) (by omega)
                refine kb_iadd X dX7_board_139 ?_
                refine kb_nmi (fun x9_21 ex9_21 => ?_)
                refine kb_istore (lv' := [(9, kb_i x9_21), (8, kb_i x8_9), (7, kb_i (s0 * v0)), (6, kb_i ((s0 * (((2 * u0) - w) + 1)).tdiv 2)), (0, .ref (ad 22)), (1, kb_i w), (2, kb_i h0), (3, kb_i s0), (4, kb_i u0), (5, kb_i v0)]) X dX7_board_140 (by decide) rfl ?_
                refine kb_iload X 0 rfl dX7_board_142 ?_
                refine kb_if_lt (tgt := 175) X ⟨by omega, by omega⟩ dX7_board_144 (by decide) (fun h22 => ?_) (fun h22 => ?_)
                ·
                  refine kb_iconst X dX7_board_175 ?_
                  exact kb_iret X hr hlocks dX7_board_176 (by unfold mo_boardR; rw [if_pos (by omega)]; exact mo_la_0 (wd := x9_21) (dp := x8_9) (by unfold mo_wd; first | (rw [if_pos (by omega)]; omega) | (rw [if_neg (by omega)]; omega)) (by omega) (by omega)) (by first | rfl | (exfalso; omega))
                ·
                  refine kb_iload X 0 rfl dX7_board_147 ?_
                  refine kb_bipush X (by decide) dX7_board_149 ?_
                  refine kb_aload_n X 4 rfl dX7_board_151 ?_
                  refine kg_X7_fanLines X hi_X7_board_X7 hf_X7_board_182 dX7_board_152 ?_
                  refine kb_iconst X dX7_board_155 ?_
                  refine kb_isub X dX7_board_156 ?_
                  refine kb_imul X dX7_board_157 ?_
                  refine kb_icmp_gt (tgt := 175) X ⟨by omega, by omega⟩ ⟨by omega, by omega⟩ dX7_board_158 (by decide) (fun h23 => ?_) (fun h23 => ?_)
                  ·
                    refine kb_iconst X dX7_board_175 ?_
                    exact kb_iret X hr hlocks dX7_board_176 (by unfold mo_boardR; rw [if_pos (by omega)]; exact mo_la_0 (wd := x9_21) (dp := x8_9) (by unfold mo_wd; first | (rw [if_pos (by omega)]; omega) | (rw [if_neg (by omega)]; omega)) (by omega) (by omega)) (by first | rfl | (exfalso; omega))
                  ·
                    refine kb_iload X 1 rfl dX7_board_161 ?_
                    refine kb_bipush X (by decide) dX7_board_163 ?_
                    refine kb_aload_n X 4 rfl dX7_board_165 ?_
                    refine kg_X7_fanMeans X hi_X7_board_X7 hf_X7_board_185 dX7_board_166 ?_
                    have g24 : -2147483648 ≤ M 22 25 ∧ M 22 25 < 2147483648 := hM 22 25
                    refine kb_iconst X dX7_board_169 ?_
                    refine kb_isub X dX7_board_170 ?_
                    refine kb_imul X dX7_board_171 ?_
                    refine kb_icmp_le (tgt := 177) X ⟨by omega, by omega⟩ ⟨by omega, by omega⟩ dX7_board_172 (by decide) (fun h25 => ?_) (fun h25 => ?_)
                    ·
                      refine kb_iload X 1 rfl dX7_board_177 ?_
                      refine kb_bipush X (by decide) dX7_board_179 ?_
                      refine kb_idiv X ⟨by omega, by omega⟩ ⟨by decide, by decide⟩ (by omega) dX7_board_181 ?_
                      refine kb_eqi (b := x8_9 / 16) (kb_td (by omega)) ?_
                      refine kb_nmi (fun x10_26 ex10_26 => ?_)
                      refine kb_istore (lv' := [(10, kb_i x10_26), (9, kb_i x9_21), (8, kb_i x8_9), (7, kb_i (s0 * v0)), (6, kb_i ((s0 * (((2 * u0) - w) + 1)).tdiv 2)), (0, .ref (ad 22)), (1, kb_i w), (2, kb_i h0), (3, kb_i s0), (4, kb_i u0), (5, kb_i v0)]) X dX7_board_182 (by decide) rfl ?_
                      refine kb_iload X 2 rfl dX7_board_184 ?_
                      refine kb_bipush X (by decide) dX7_board_186 ?_
                      refine kb_irem X ⟨by omega, by omega⟩ ⟨by decide, by decide⟩ (by omega) dX7_board_188 ?_
                      refine kb_eqi (b := x8_9 % 16) (kb_tm (by omega)) ?_
                      refine kb_nmi (fun x11_27 ex11_27 => ?_)
                      refine kb_istore (lv' := [(11, kb_i x11_27), (10, kb_i x10_26), (9, kb_i x9_21), (8, kb_i x8_9), (7, kb_i (s0 * v0)), (6, kb_i ((s0 * (((2 * u0) - w) + 1)).tdiv 2)), (0, .ref (ad 22)), (1, kb_i w), (2, kb_i h0), (3, kb_i s0), (4, kb_i u0), (5, kb_i v0)]) X dX7_board_189 (by decide) rfl ?_
                      refine kb_iload X 2 rfl dX7_board_191 ?_
                      refine kb_bipush X (by decide) dX7_board_193 ?_
                      refine kb_idiv X ⟨by omega, by omega⟩ ⟨by decide, by decide⟩ (by omega) dX7_board_195 ?_
                      refine kb_eqi (b := x9_21 / 16) (kb_td (by omega)) ?_
                      refine kb_nmi (fun x12_28 ex12_28 => ?_)
                      refine kb_istore (lv' := [(12, kb_i x12_28), (11, kb_i x11_27), (10, kb_i x10_26), (9, kb_i x9_21), (8, kb_i x8_9), (7, kb_i (s0 * v0)), (6, kb_i ((s0 * (((2 * u0) - w) + 1)).tdiv 2)), (0, .ref (ad 22)), (1, kb_i w), (2, kb_i h0), (3, kb_i s0), (4, kb_i u0), (5, kb_i v0)]) X dX7_board_196 (by decide) rfl ?_
                      refine kb_iload X 3 rfl dX7_board_198 ?_
                      refine kb_bipush X (by decide) dX7_board_200 ?_
                      refine kb_irem X ⟨by omega, by omega⟩ ⟨by decide, by decide⟩ (by omega) dX7_board_202 ?_
                      refine kb_eqi (b := x9_21 % 16) (kb_tm (by omega)) ?_
                      refine kb_nmi (fun x13_29 ex13_29 => ?_)
                      refine kb_istore (lv' := [(13, kb_i x13_29), (12, kb_i x12_28), (11, kb_i x11_27), (10, kb_i x10_26), (9, kb_i x9_21), (8, kb_i x8_9), (7, kb_i (s0 * v0)), (6, kb_i ((s0 * (((2 * u0) - w) + 1)).tdiv 2)), (0, .ref (ad 22)), (1, kb_i w), (2, kb_i h0), (3, kb_i s0), (4, kb_i u0), (5, kb_i v0)]) X dX7_board_203 (by decide) rfl ?_
                      have sg := sp_shg (g := x13_29) (f := x11_27) (by omega) (by omega)
                      have nz2 := mo_nz (a := x13_29) (b := 16 - x11_27)
                      have nz3 := mo_nz (a := 16 - x13_29) (b := x11_27)
                      have nz4 := mo_nz (a := x13_29) (b := x11_27)
                      have w1 := mo_shr_b f4 sg.1 x12_28 x10_26
                      have w2 := mo_shr_b f4 sg.2.1 (x12_28 + 1) x10_26
                      have w3 := mo_shr_b f4 sg.2.2.1 x12_28 (x10_26 + 1)
                      have w4 := mo_shr_b f4 sg.2.2.2 (x12_28 + 1) (x10_26 + 1)
                      refine kb_aload_n X 8 rfl dX7_board_205 ?_
                      refine kb_bipush X (by decide) dX7_board_206 ?_
                      refine kb_iload X 0 rfl dX7_board_208 ?_
                      refine kb_isub X dX7_board_210 ?_
                      refine kb_bipush X (by decide) dX7_board_211 ?_
                      refine kb_iload X 2 rfl dX7_board_213 ?_
                      refine kb_isub X dX7_board_215 ?_
                      refine kb_imul X dX7_board_216 ?_
                      refine kb_iload X 1 rfl dX7_board_217 ?_
                      refine kb_iload X 3 rfl dX7_board_219 ?_
                      refine kb_cVl X (rest := []) [kb_i ((16 - x13_29) * (16 - x11_27)), kb_i x12_28, kb_i x10_26] 22 (fl := [none, some 23, some 24, none, none, none, none, none, none, none, none, some 25, some 26, some 27, some 28, some 29, none, some 30, some 31, none, some 32, some 33, some 34, some 35, none, none, none, some 36]) (C := RX7) rfl rfl (c_X7_shared l D ad cy M ((16 - x13_29) * (16 - x11_27)) x12_28 x10_26 (by first | omega | assumption | exact ⟨by omega, by omega⟩) (fun _ => by omega) (by first | omega | assumption | exact ⟨by omega, by omega⟩) (by first | omega | assumption | exact ⟨by omega, by omega⟩)) gX7_board_X7_shared rfl ⟨rfl, hy_X7_shared⟩ ⟨by decide, by decide⟩ rfl (Nat.le_of_ble_eq_true rfl) ⟨by decide, by decide⟩ dX7_board_221 rfl ?_
                      refine kb_aload_n X 8 rfl dX7_board_224 ?_
                      refine kb_iload X 0 rfl dX7_board_225 ?_
                      refine kb_bipush X (by decide) dX7_board_227 ?_
                      refine kb_iload X 2 rfl dX7_board_229 ?_
                      refine kb_isub X dX7_board_231 ?_
                      refine kb_imul X dX7_board_232 ?_
                      refine kb_iload X 1 rfl dX7_board_233 ?_
                      refine kb_iconst X dX7_board_235 ?_
                      refine kb_iadd X dX7_board_236 ?_
                      refine kb_iload X 3 rfl dX7_board_237 ?_
                      refine kb_cVl X (rest := [kb_l (mo_shr M ((16 - x13_29) * (16 - x11_27)) x12_28 x10_26)]) [kb_i (x13_29 * (16 - x11_27)), kb_i (x12_28 + 1), kb_i x10_26] 22 (fl := [none, some 23, some 24, none, none, none, none, none, none, none, none, some 25, some 26, some 27, some 28, some 29, none, some 30, some 31, none, some 32, some 33, some 34, some 35, none, none, none, some 36]) (C := RX7) rfl rfl (c_X7_shared l D ad cy M (x13_29 * (16 - x11_27)) (x12_28 + 1) x10_26 (by first | omega | assumption | exact ⟨by omega, by omega⟩) (fun hz => by have := nz2 hz; omega) (by first | omega | assumption | exact ⟨by omega, by omega⟩) (by first | omega | assumption | exact ⟨by omega, by omega⟩)) gX7_board_X7_shared rfl ⟨rfl, hy_X7_shared⟩ ⟨by decide, by decide⟩ rfl (Nat.le_of_ble_eq_true rfl) ⟨by decide, by decide⟩ dX7_board_239 rfl ?_
                      refine kb_ladd X dX7_board_242 ?_
                      refine kb_aload_n X 8 rfl dX7_board_243 ?_
                      refine kb_bipush X (by decide) dX7_board_244 ?_
                      refine kb_iload X 0 rfl dX7_board_246 ?_
                      refine kb_isub X dX7_board_248 ?_
                      refine kb_iload X 2 rfl dX7_board_249 ?_
                      refine kb_imul X dX7_board_251 ?_
                      refine kb_iload X 1 rfl dX7_board_252 ?_
                      refine kb_iload X 3 rfl dX7_board_254 ?_
                      refine kb_iconst X dX7_board_256 ?_
                      refine kb_iadd X dX7_board_257 ?_
                      refine kb_cVl X (rest := [kb_l ((mo_shr M ((16 - x13_29) * (16 - x11_27)) x12_28 x10_26) + (mo_shr M (x13_29 * (16 - x11_27)) (x12_28 + 1) x10_26))]) [kb_i ((16 - x13_29) * x11_27), kb_i x12_28, kb_i (x10_26 + 1)] 22 (fl := [none, some 23, some 24, none, none, none, none, none, none, none, none, some 25, some 26, some 27, some 28, some 29, none, some 30, some 31, none, some 32, some 33, some 34, some 35, none, none, none, some 36]) (C := RX7) rfl rfl (c_X7_shared l D ad cy M ((16 - x13_29) * x11_27) x12_28 (x10_26 + 1) (by first | omega | assumption | exact ⟨by omega, by omega⟩) (fun hz => by have := nz3 hz; omega) (by first | omega | assumption | exact ⟨by omega, by omega⟩) (by first | omega | assumption | exact ⟨by omega, by omega⟩)) gX7_board_X7_shared rfl ⟨rfl, hy_X7_shared⟩ ⟨by decide, by decide⟩ rfl (Nat.le_of_ble_eq_true rfl) ⟨by decide, by decide⟩ dX7_board_258 rfl ?_
                      refine kb_ladd X dX7_board_261 ?_
                      refine kb_aload_n X 8 rfl dX7_board_262 ?_
                      refine kb_iload X 0 rfl dX7_board_263 ?_
                      refine kb_iload X 2 rfl dX7_board_265 ?_
                      refine kb_imul X dX7_board_267 ?_
                      refine kb_iload X 1 rfl dX7_board_268 ?_
                      refine kb_iconst X dX7_board_270 ?_
                      refine kb_iadd X dX7_board_271 ?_
                      refine kb_iload X 3 rfl dX7_board_272 ?_
                      refine kb_iconst X dX7_board_274 ?_
                      refine kb_iadd X dX7_board_275 ?_
                      refine kb_cVl X (rest := [kb_l (((mo_shr M ((16 - x13_29) * (16 - x11_27)) x12_28 x10_26) + (mo_shr M (x13_29 * (16 - x11_27)) (x12_28 + 1) x10_26)) + (mo_shr M ((16 - x13_29) * x11_27) x12_28 (x10_26 + 1)))]) [kb_i (x13_29 * x11_27), kb_i (x12_28 + 1), kb_i (x10_26 + 1)] 22 (fl := [none, some 23, some 24, none, none, none, none, none, none, none, none, some 25, some 26, some 27, some 28, some 29, none, some 30, some 31, none, some 32, some 33, some 34, some 35, none, none, none, some 36]) (C := RX7) rfl rfl (c_X7_shared l D ad cy M (x13_29 * x11_27) (x12_28 + 1) (x10_26 + 1) (by first | omega | assumption | exact ⟨by omega, by omega⟩) (fun hz => by have := nz4 hz; omega) (by first | omega | assumption | exact ⟨by omega, by omega⟩) (by first | omega | assumption | exact ⟨by omega, by omega⟩)) gX7_board_X7_shared rfl ⟨rfl, hy_X7_shared⟩ ⟨by decide, by decide⟩ rfl (Nat.le_of_ble_eq_true rfl) ⟨by decide, by decide⟩ dX7_board_276 rfl ?_
                      refine kb_ladd X dX7_board_279 ?_
                      refine kb_nml (fun x14_30 ex14_30 => ?_)
                      refine kb_lstore (lv' := [(14, kb_l (x14_30)), (13, kb_i x13_29), (12, kb_i x12_28), (11, kb_i x11_27), (10, kb_i x10_26), (9, kb_i x9_21), (8, kb_i x8_9), (7, kb_i (s0 * v0)), (6, kb_i ((s0 * (((2 * u0) - w) + 1)).tdiv 2)), (0, .ref (ad 22)), (1, kb_i w), (2, kb_i h0), (3, kb_i s0), (4, kb_i u0), (5, kb_i v0)]) X dX7_board_280 (by decide) rfl ?_
                      refine kb_lload X 0 rfl dX7_board_282 ?_
                      refine kb_ldc2 (v := 256) X (256) (by decide +kernel) (by decide) dX7_board_284 ?_
                      refine kb_ldiv X ⟨by omega, by omega⟩ ⟨by decide, by decide⟩ (by omega) dX7_board_287 ?_
                      refine kb_l2i X dX7_board_288 ?_
                      exact kb_iret X hr hlocks dX7_board_289 (by unfold mo_boardR; rw [if_pos (by omega), mo_la_1 (wd := x9_21) (dp := x8_9) (by unfold mo_wd; first | (rw [if_pos (by omega)]; omega) | (rw [if_neg (by omega)]; omega)) (by omega) (by omega)]; unfold mo_mx; subst_vars; rfl) (by first | rfl | (exfalso; omega))
                    ·
                      refine kb_iconst X dX7_board_175 ?_
                      exact kb_iret X hr hlocks dX7_board_176 (by unfold mo_boardR; rw [if_pos (by omega)]; exact mo_la_0 (wd := x9_21) (dp := x8_9) (by unfold mo_wd; first | (rw [if_pos (by omega)]; omega) | (rw [if_neg (by omega)]; omega)) (by omega) (by omega)) (by first | rfl | (exfalso; omega))
            ·
              refine kb_ldc (v := -1000000000) X (-1000000000) (by decide +kernel) (by decide) dX7_board_75 ?_
              exact kb_iret X hr hlocks dX7_board_77 (by unfold mo_boardR; repeat (first | rw [if_pos (by omega)] | rw [if_neg (by omega)]); try first | rfl | omega) (by first | rfl | (exfalso; omega))
-- X7_caliper
theorem hy_X7_caliper : yX7_caliper.cls ≠ "java/lang/invoke/MethodHandle" ∧ yX7_caliper.cls ≠ "java/lang/invoke/VarHandle" ∧ (parseMethodDescriptor yX7_caliper.desc).map (fun d => d.parameters.length) = some 4 := by decide +kernel
set_option maxHeartbeats 4000000 in
set_option maxRecDepth 100000 in
theorem c_X7_caliper (l : Launch) (D : va_G) (ad : Nat → Nat) (cy : Nat → ClassId) (M : kb_M) (x : Int) (z : Int) (u0 : Int) (v0 : Int) (hx : -2147483648 ≤ x ∧ x < 2147483648) (hz : -2147483648 ≤ z ∧ z < 2147483648) (hu0 : -2147483648 ≤ u0 ∧ u0 < 2147483648) (hv0 : -2147483648 ≤ v0 ∧ v0 < 2147483648) : kb_Ci l D ad cy yX7_caliper wsX7_caliper 2 46 [.ref (ad 22), kb_i x, kb_i z, kb_i u0, kb_i v0] M (sp_calR x z u0 v0) (M) := by
  refine kb_mkCi (cc := cX7_caliper) (maxL := 9) (lv := [(0, .ref (ad 22)), (1, kb_i x), (2, kb_i z), (3, kb_i u0), (4, kb_i v0)]) (plainFor_of_name (by decide)) rfl (Nat.le_of_ble_eq_true rfl) rfl ?_
  intro p e s m args below meth c X hr hlocks hM
  refine kb_iload_n X 1 rfl dX7_caliper_0 ?_
  refine kb_iload_n X 2 rfl dX7_caliper_1 ?_
  refine kb_cSi X (rest := []) [kb_i x, kb_i z] (c_X7_isPlace l D ad cy M x z (by first | omega | assumption | exact ⟨by omega, by omega⟩) (by first | omega | assumption | exact ⟨by omega, by omega⟩)) gX7_caliper_X7_isPlace rfl hy_X7_isPlace ⟨by decide, by decide⟩ rfl (Nat.le_of_ble_eq_true rfl) ⟨by decide, by decide⟩ dX7_caliper_2 rfl ?_
  refine kb_ifb_eq (tgt := 17) X dX7_caliper_5 (by decide) (fun h1 => ?_) (fun h1 => ?_)
  ·
    refine kb_bipush X (by decide) dX7_caliper_17 ?_
    exact kb_iret X hr hlocks dX7_caliper_19 (by unfold sp_calR; repeat (first | rw [if_pos (by omega)] | rw [if_neg (by omega)]); try first | rfl | omega) (by first | rfl | (exfalso; omega))
  ·
    refine kb_iload_n X 3 rfl dX7_caliper_8 ?_
    refine kb_iload X 4 rfl dX7_caliper_9 ?_
    refine kb_cSi X (rest := []) [kb_i u0, kb_i v0] (c_X7_isPlace l D ad cy M u0 v0 (by first | omega | assumption | exact ⟨by omega, by omega⟩) (by first | omega | assumption | exact ⟨by omega, by omega⟩)) gX7_caliper_X7_isPlace rfl hy_X7_isPlace ⟨by decide, by decide⟩ rfl (Nat.le_of_ble_eq_true rfl) ⟨by decide, by decide⟩ dX7_caliper_11 rfl ?_
    refine kb_ifb_ne (tgt := 20) X dX7_caliper_14 (by decide) (fun h2 => ?_) (fun h2 => ?_)
    ·
      refine kb_iload_n X 1 rfl dX7_caliper_20 ?_
      refine kb_iload_n X 3 rfl dX7_caliper_21 ?_
      refine kb_isub X dX7_caliper_22 ?_
      refine kb_i2l X ⟨by omega, by omega⟩ dX7_caliper_23 ?_
      refine kb_lstore (lv' := [(5, kb_l (x - u0)), (0, .ref (ad 22)), (1, kb_i x), (2, kb_i z), (3, kb_i u0), (4, kb_i v0)]) X dX7_caliper_24 (by decide) rfl ?_
      refine kb_iload_n X 3 rfl dX7_caliper_26 ?_
      refine kb_iload X 5 rfl dX7_caliper_27 ?_
      refine kb_isub X dX7_caliper_29 ?_
      refine kb_i2l X ⟨by omega, by omega⟩ dX7_caliper_30 ?_
      refine kb_lstore (lv' := [(7, kb_l (z - v0)), (5, kb_l (x - u0)), (0, .ref (ad 22)), (1, kb_i x), (2, kb_i z), (3, kb_i u0), (4, kb_i v0)]) X dX7_caliper_31 (by decide) rfl ?_
      have cb := mo_calb (a := x - u0) (b := z - v0) (by omega) (by omega)
      refine kb_lload X 1 rfl dX7_caliper_33 ?_
      refine kb_lload X 1 rfl dX7_caliper_35 ?_
      refine kb_lmul X dX7_caliper_37 ?_
      refine kb_lload X 0 rfl dX7_caliper_38 ?_
      refine kb_lload X 0 rfl dX7_caliper_40 ?_
      refine kb_lmul X dX7_caliper_42 ?_
      refine kb_ladd X dX7_caliper_43 ?_
      refine kb_cSl X (rest := []) [kb_l (((x - u0) * (x - u0)) + ((z - v0) * (z - v0)))] (c_X7_rootOf l D ad cy M (((x - u0) * (x - u0)) + ((z - v0) * (z - v0))) (by first | omega | assumption | exact ⟨by omega, by omega⟩)) gX7_caliper_X7_rootOf rfl hy_X7_rootOf ⟨by decide, by decide⟩ rfl (Nat.le_of_ble_eq_true rfl) ⟨by decide, by decide⟩ dX7_caliper_44 rfl ?_
      refine kb_l2i X dX7_caliper_47 ?_
      exact kb_iret X hr hlocks dX7_caliper_48 (by unfold sp_calR; repeat (first | rw [if_pos (by omega)] | rw [if_neg (by omega)]); try first | rfl | omega) (by first | rfl | (exfalso; omega))
    ·
      refine kb_bipush X (by decide) dX7_caliper_17 ?_
      exact kb_iret X hr hlocks dX7_caliper_19 (by unfold sp_calR; repeat (first | rw [if_pos (by omega)] | rw [if_neg (by omega)]); try first | rfl | omega) (by first | rfl | (exfalso; omega))
-- X7_cap
theorem hf_X7_cap_41 : Cond.fieldLink yX7_cap.cls 41 RX7 "limit" "I" ∈ wsX7_cap := by decide +kernel
theorem hi_X7_cap_X7 : ∀ w ∈ wsX70, w ∈ wsX7_cap := by decide +kernel
theorem hy_X7_cap : yX7_cap.cls ≠ "java/lang/invoke/MethodHandle" ∧ yX7_cap.cls ≠ "java/lang/invoke/VarHandle" ∧ (parseMethodDescriptor yX7_cap.desc).map (fun d => d.parameters.length) = some 1 := by decide +kernel
set_option maxHeartbeats 4000000 in
set_option maxRecDepth 100000 in
theorem c_X7_cap (l : Launch) (D : va_G) (ad : Nat → Nat) (cy : Nat → ClassId) (M : kb_M) (n : Int) (hn : -2147483648 ≤ n ∧ n < 2147483648) : kb_Ci l D ad cy yX7_cap wsX7_cap 1 25 [.ref (ad 22), kb_i n] M (mo_capR M n) (mo_capM M n) := by
  refine kb_mkCi (cc := cX7_cap) (maxL := 3) (lv := [(0, .ref (ad 22)), (1, kb_i n)]) (plainFor_of_name (by decide)) rfl (Nat.le_of_ble_eq_true rfl) rfl ?_
  intro p e s m args below meth c X hr hlocks hM
  refine kb_iload_n X 1 rfl dX7_cap_0 ?_
  refine kb_i2l X ⟨by omega, by omega⟩ dX7_cap_1 ?_
  refine kb_lconst X dX7_cap_2 ?_
  refine kb_eql (b := 0) rfl ?_
  refine kb_ldc2 (v := 1000000) X (1000000) (by decide +kernel) (by decide) dX7_cap_3 ?_
  refine kb_cSi X (rest := []) [kb_l (n), kb_l (0), kb_l (1000000)] (c_X7_in l D ad cy M n 0 1000000 (by first | omega | assumption | exact ⟨by omega, by omega⟩) (by first | omega | assumption | exact ⟨by omega, by omega⟩) (by first | omega | assumption | exact ⟨by omega, by omega⟩)) gX7_cap_X7_in rfl hy_X7_in ⟨by decide, by decide⟩ rfl (Nat.le_of_ble_eq_true rfl) ⟨by decide, by decide⟩ dX7_cap_6 rfl ?_
  refine kb_ifb_ne (tgt := 15) X dX7_cap_9 (by decide) (fun h1 => ?_) (fun h1 => ?_)
  ·
    refine kb_aload_n X 0 rfl dX7_cap_15 ?_
    refine kg_X7_limit X hi_X7_cap_X7 hf_X7_cap_41 dX7_cap_16 ?_
    have g2 : -2147483648 ≤ M 22 7 ∧ M 22 7 < 2147483648 := hM 22 7
    refine kb_istore_n (lv' := [(2, kb_i (M 22 7)), (0, .ref (ad 22)), (1, kb_i n)]) X dX7_cap_19 (by decide) rfl ?_
    refine kb_aload_n X 1 rfl dX7_cap_20 ?_
    refine kb_iload_n X 2 rfl dX7_cap_21 ?_
    refine kp_X7_limit X hi_X7_cap_X7 hf_X7_cap_41 ⟨by omega, by omega⟩ dX7_cap_22 ?_
    refine kb_iload_n X 0 rfl dX7_cap_25 ?_
    exact kb_iret X hr hlocks dX7_cap_26 (by unfold mo_capR; repeat (first | rw [if_pos (by omega)] | rw [if_neg (by omega)]); try first | rfl | omega) (by unfold mo_capM; repeat (first | rw [if_pos (by omega)] | rw [if_neg (by omega)]); try first | rfl | omega)
  ·
    refine kb_bipush X (by decide) dX7_cap_12 ?_
    exact kb_iret X hr hlocks dX7_cap_14 (by unfold mo_capR; repeat (first | rw [if_pos (by omega)] | rw [if_neg (by omega)]); try first | rfl | omega) (by unfold mo_capM; repeat (first | rw [if_pos (by omega)] | rw [if_neg (by omega)]); try first | rfl | omega)
-- X7_tick
theorem hf_X7_tick_93 : Cond.fieldLink yX7_tick.cls 93 RX7 "heat" "I" ∈ wsX7_tick := by decide +kernel
theorem hi_X7_tick_X7 : ∀ w ∈ wsX70, w ∈ wsX7_tick := by decide +kernel
theorem hy_X7_tick : yX7_tick.cls ≠ "java/lang/invoke/MethodHandle" ∧ yX7_tick.cls ≠ "java/lang/invoke/VarHandle" ∧ (parseMethodDescriptor yX7_tick.desc).map (fun d => d.parameters.length) = some 1 := by decide +kernel
set_option maxHeartbeats 4000000 in
set_option maxRecDepth 100000 in
theorem c_X7_tick (l : Launch) (D : va_G) (ad : Nat → Nat) (cy : Nat → ClassId) (M : kb_M) (n : Int) (hn : -2147483648 ≤ n ∧ n < 2147483648) (hh : 0 ≤ M 22 8 ∧ M 22 8 ≤ 1000000) : kb_Ci l D ad cy yX7_tick wsX7_tick 1 25 [.ref (ad 22), kb_i n] M (mo_tickR M n) (mo_tickM M n) := by
  refine kb_mkCi (cc := cX7_tick) (maxL := 3) (lv := [(0, .ref (ad 22)), (1, kb_i n)]) (plainFor_of_name (by decide)) rfl (Nat.le_of_ble_eq_true rfl) rfl ?_
  intro p e s m args below meth c X hr hlocks hM
  refine kb_iload_n X 1 rfl dX7_tick_0 ?_
  refine kb_i2l X ⟨by omega, by omega⟩ dX7_tick_1 ?_
  refine kb_lconst X dX7_tick_2 ?_
  refine kb_eql (b := 1) rfl ?_
  refine kb_ldc2 (v := 1000) X (1000) (by decide +kernel) (by decide) dX7_tick_3 ?_
  refine kb_cSi X (rest := []) [kb_l (n), kb_l (1), kb_l (1000)] (c_X7_in l D ad cy M n 1 1000 (by first | omega | assumption | exact ⟨by omega, by omega⟩) (by first | omega | assumption | exact ⟨by omega, by omega⟩) (by first | omega | assumption | exact ⟨by omega, by omega⟩)) gX7_tick_X7_in rfl hy_X7_in ⟨by decide, by decide⟩ rfl (Nat.le_of_ble_eq_true rfl) ⟨by decide, by decide⟩ dX7_tick_6 rfl ?_
  refine kb_ifb_ne (tgt := 15) X dX7_tick_9 (by decide) (fun h1 => ?_) (fun h1 => ?_)
  ·
    refine kb_iconst X dX7_tick_15 ?_
    refine kb_istore_n (lv' := [(2, kb_i 0), (0, .ref (ad 22)), (1, kb_i n)]) X dX7_tick_16 (by decide) rfl ?_
    have L17 : ∀ nn_ : Nat, ∀ (a : Int), (1000 - a).toNat < nn_ → (0 ≤ a ∧ a ≤ n) → kb_B p l e ({ frames := 1, cells := 0, slots := 0, locals := 25 } : Room) s m args below meth c D ad cy (kb_A ad s.heap.size) 3 0 0 (MQ below (va_Qi (fun (vq_ : Int32) (_ : Unit) => vq_ = kb_J (mo_tickR M n)) (fun _ t => kb_en2 D ad cy (mo_tickM M n) t) (kb_A ad s.heap.size)) args s 0 0 (kb_A ad s.heap.size)) 17 [(0, .ref (ad 22)), (1, kb_i n), (2, kb_i a)] [] ((mo_tkI M a)) := by
      intro nn_
      induction nn_ with
      | zero => intro a hn; exact absurd hn (Nat.not_lt_zero _)
      | succ nn_ ih2 =>
        intro a hn hI
        have cb := sp_cool_b hh a.toNat
        refine kb_iload_n X 2 rfl dX7_tick_17 ?_
        refine kb_iload_n X 1 rfl dX7_tick_18 ?_
        refine kb_icmp_ge (tgt := 47) X ⟨by omega, by omega⟩ ⟨by omega, by omega⟩ dX7_tick_19 (by decide) (fun h3 => ?_) (fun h3 => ?_)
        ·
          refine kb_aload_n X 0 rfl dX7_tick_47 ?_
          refine kg_X7_heat X hi_X7_tick_X7 hf_X7_tick_93 dX7_tick_48 ?_
          refine kb_eqi (b := sp_cool (M 22 8) a.toNat) (by first | rfl | simp [kb_wr]) ?_
          exact kb_iret X hr hlocks dX7_tick_51 (by (have e : a = n := by omega); subst e; unfold mo_tickR; rw [if_pos (by omega)]) (by (have e : a = n := by omega); subst e; unfold mo_tickM; rw [if_pos (by omega)])
        ·
          refine kb_aload_n X 0 rfl dX7_tick_22 ?_
          refine kb_dup X rfl dX7_tick_23 ?_
          refine kg_X7_heat X hi_X7_tick_X7 hf_X7_tick_93 dX7_tick_24 ?_
          refine kb_eqi (b := sp_cool (M 22 8) a.toNat) (by first | rfl | simp [kb_wr]) ?_
          refine kb_aload_n X 0 rfl dX7_tick_27 ?_
          refine kg_X7_heat X hi_X7_tick_X7 hf_X7_tick_93 dX7_tick_28 ?_
          refine kb_eqi (b := sp_cool (M 22 8) a.toNat) (by first | rfl | simp [kb_wr]) ?_
          refine kb_bipush X (by decide) dX7_tick_31 ?_
          refine kb_iadd X dX7_tick_33 ?_
          refine kb_bipush X (by decide) dX7_tick_34 ?_
          refine kb_idiv X ⟨by omega, by omega⟩ ⟨by decide, by decide⟩ (by omega) dX7_tick_36 ?_
          refine kb_eqi (b := ((sp_cool (M 22 8) a.toNat) + 31) / 32) (kb_td (by omega)) ?_
          refine kb_isub X dX7_tick_37 ?_
          refine kp_X7_heat X hi_X7_tick_X7 hf_X7_tick_93 ⟨by omega, by omega⟩ dX7_tick_38 ?_
          refine kb_iinc (lv' := [(2, kb_i (a + 1)), (0, .ref (ad 22)), (1, kb_i n)]) X 2 rfl dX7_tick_41 rfl (by decide) rfl ?_
          refine kb_goto (tgt := 17) X dX7_tick_44 (by decide) ?_
          refine kb_sub [1, 2, 0] (lv' := [(0, .ref (ad 22)), (1, kb_i n), (2, kb_i (a + 1))]) rfl ?_
          refine kb_eqM (M' := mo_tkI M (a + 1)) ((mo_tkI_S M a hI.1).symm) ?_
          exact ih2 (a + 1) (by omega) (by first | omega | assumption | exact ⟨by omega, by omega⟩)
    refine kb_sub [1, 2, 0] (lv' := [(0, .ref (ad 22)), (1, kb_i n), (2, kb_i 0)]) rfl ?_
    refine kb_eqM (M' := mo_tkI M (0 : Int)) ((sp_wrself M 22 8)) ?_
    exact L17 _ (0 : Int) (Nat.lt_succ_self _) (by first | omega | assumption | exact ⟨by omega, by omega⟩)
  ·
    refine kb_bipush X (by decide) dX7_tick_12 ?_
    exact kb_iret X hr hlocks dX7_tick_14 (by unfold mo_tickR; repeat (first | rw [if_pos (by omega)] | rw [if_neg (by omega)]); try first | rfl | omega) (by unfold mo_tickM; repeat (first | rw [if_pos (by omega)] | rw [if_neg (by omega)]); try first | rfl | omega)
-- X7_count
theorem hf_X7_count_19 : Cond.fieldLink yX7_count.cls 19 RX7 "n" "I" ∈ wsX7_count := by decide +kernel
theorem hf_X7_count_87 : Cond.fieldLink yX7_count.cls 87 RX7 "looks" "I" ∈ wsX7_count := by decide +kernel
theorem hf_X7_count_90 : Cond.fieldLink yX7_count.cls 90 RX7 "pictures" "I" ∈ wsX7_count := by decide +kernel
theorem hf_X7_count_93 : Cond.fieldLink yX7_count.cls 93 RX7 "heat" "I" ∈ wsX7_count := by decide +kernel
theorem hf_X7_count_124 : Cond.fieldLink yX7_count.cls 124 RX7 "points" "I" ∈ wsX7_count := by decide +kernel
theorem hf_X7_count_136 : Cond.fieldLink yX7_count.cls 136 RX7 "ever" "I" ∈ wsX7_count := by decide +kernel
theorem hi_X7_count_X7 : ∀ w ∈ wsX70, w ∈ wsX7_count := by decide +kernel
theorem hy_X7_count : yX7_count.cls ≠ "java/lang/invoke/MethodHandle" ∧ yX7_count.cls ≠ "java/lang/invoke/VarHandle" ∧ (parseMethodDescriptor yX7_count.desc).map (fun d => d.parameters.length) = some 1 := by decide +kernel
set_option maxHeartbeats 4000000 in
set_option maxRecDepth 100000 in
theorem c_X7_count (l : Launch) (D : va_G) (ad : Nat → Nat) (cy : Nat → ClassId) (M : kb_M) (t0 : Int) (ht0 : -2147483648 ≤ t0 ∧ t0 < 2147483648) (hn0 : 0 ≤ M 22 0 ∧ M 22 0 ≤ 16) : kb_Ci l D ad cy yX7_count wsX7_count 1 22 [.ref (ad 22), kb_i t0] M (mo_countR M t0) (M) := by
  refine kb_mkCi (cc := cX7_count) (maxL := 2) (lv := [(0, .ref (ad 22)), (1, kb_i t0)]) (plainFor_of_name (by decide)) rfl (Nat.le_of_ble_eq_true rfl) rfl ?_
  intro p e s m args below meth c X hr hlocks hM
  refine kb_iload_n X 1 rfl dX7_count_0 ?_
  rcases (show t0 < 0 ∨ 6 < t0 ∨ t0 = 0 ∨ t0 = 1 ∨ t0 = 2 ∨ t0 = 3 ∨ t0 = 4 ∨ t0 = 5 ∨ t0 = 6 by omega) with h1 | h1 | h1 | h1 | h1 | h1 | h1 | h1 | h1
  ·
    refine kb_tabOut (tgt := 79) X ⟨by omega, by omega⟩ dX7_count_1 (by omega) (by decide) ?_
    refine kb_bipush X (by decide) dX7_count_79 ?_
    exact kb_iret X hr hlocks dX7_count_81 (by unfold mo_countR; repeat (first | rw [if_pos (by omega)] | rw [if_neg (by omega)]); try first | rfl | omega) (by first | rfl | (exfalso; omega))
  ·
    refine kb_tabOut (tgt := 79) X ⟨by omega, by omega⟩ dX7_count_1 (by omega) (by decide) ?_
    refine kb_bipush X (by decide) dX7_count_79 ?_
    exact kb_iret X hr hlocks dX7_count_81 (by unfold mo_countR; repeat (first | rw [if_pos (by omega)] | rw [if_neg (by omega)]); try first | rfl | omega) (by first | rfl | (exfalso; omega))
  ·
    refine kb_tabIn (tgt := 44) X _ ⟨by omega, by omega⟩ dX7_count_1 (by omega) (by omega) (off := 43) (by rw [h1]; rfl) (by decide) ?_
    refine kb_aload_n X 0 rfl dX7_count_44 ?_
    refine kg_X7_n X hi_X7_count_X7 hf_X7_count_19 dX7_count_45 ?_
    have g2 : -2147483648 ≤ M 22 0 ∧ M 22 0 < 2147483648 := hM 22 0
    exact kb_iret X hr hlocks dX7_count_48 (by unfold mo_countR; repeat (first | rw [if_pos (by omega)] | rw [if_neg (by omega)]); try first | rfl | omega) (by first | rfl | (exfalso; omega))
  ·
    refine kb_tabIn (tgt := 49) X _ ⟨by omega, by omega⟩ dX7_count_1 (by omega) (by omega) (off := 48) (by rw [h1]; rfl) (by decide) ?_
    refine kb_aload_n X 0 rfl dX7_count_49 ?_
    refine kb_cVi X (rest := []) [] 22 (fl := [none, some 23, some 24, none, none, none, none, none, none, none, none, some 25, some 26, some 27, some 28, some 29, none, some 30, some 31, none, some 32, some 33, some 34, some 35, none, none, none, some 36]) (C := RX7) rfl rfl (c_X7_alive l D ad cy M  (by first | omega | assumption | exact ⟨by omega, by omega⟩)) gX7_count_X7_alive rfl ⟨rfl, hy_X7_alive⟩ ⟨by decide, by decide⟩ rfl (Nat.le_of_ble_eq_true rfl) ⟨by decide, by decide⟩ dX7_count_50 rfl ?_
    have g3 : 0 ≤ (mo_al M) ∧ (mo_al M) ≤ 16 := by have := mo_al_b (M := M) (M 22 0).toNat; unfold mo_al; omega
    exact kb_iret X hr hlocks dX7_count_53 (by unfold mo_countR; repeat (first | rw [if_pos (by omega)] | rw [if_neg (by omega)]); try first | rfl | omega) (by first | rfl | (exfalso; omega))
  ·
    refine kb_tabIn (tgt := 54) X _ ⟨by omega, by omega⟩ dX7_count_1 (by omega) (by omega) (off := 53) (by rw [h1]; rfl) (by decide) ?_
    refine kb_aload_n X 0 rfl dX7_count_54 ?_
    refine kg_X7_points X hi_X7_count_X7 hf_X7_count_124 dX7_count_55 ?_
    have g4 : -2147483648 ≤ M 22 10 ∧ M 22 10 < 2147483648 := hM 22 10
    exact kb_iret X hr hlocks dX7_count_58 (by unfold mo_countR; repeat (first | rw [if_pos (by omega)] | rw [if_neg (by omega)]); try first | rfl | omega) (by first | rfl | (exfalso; omega))
  ·
    refine kb_tabIn (tgt := 59) X _ ⟨by omega, by omega⟩ dX7_count_1 (by omega) (by omega) (off := 58) (by rw [h1]; rfl) (by decide) ?_
    refine kb_aload_n X 0 rfl dX7_count_59 ?_
    refine kg_X7_looks X hi_X7_count_X7 hf_X7_count_87 dX7_count_60 ?_
    have g5 : -2147483648 ≤ M 22 16 ∧ M 22 16 < 2147483648 := hM 22 16
    exact kb_iret X hr hlocks dX7_count_63 (by unfold mo_countR; repeat (first | rw [if_pos (by omega)] | rw [if_neg (by omega)]); try first | rfl | omega) (by first | rfl | (exfalso; omega))
  ·
    refine kb_tabIn (tgt := 64) X _ ⟨by omega, by omega⟩ dX7_count_1 (by omega) (by omega) (off := 63) (by rw [h1]; rfl) (by decide) ?_
    refine kb_aload_n X 0 rfl dX7_count_64 ?_
    refine kg_X7_pictures X hi_X7_count_X7 hf_X7_count_90 dX7_count_65 ?_
    have g6 : -2147483648 ≤ M 22 19 ∧ M 22 19 < 2147483648 := hM 22 19
    exact kb_iret X hr hlocks dX7_count_68 (by unfold mo_countR; repeat (first | rw [if_pos (by omega)] | rw [if_neg (by omega)]); try first | rfl | omega) (by first | rfl | (exfalso; omega))
  ·
    refine kb_tabIn (tgt := 69) X _ ⟨by omega, by omega⟩ dX7_count_1 (by omega) (by omega) (off := 68) (by rw [h1]; rfl) (by decide) ?_
    refine kb_aload_n X 0 rfl dX7_count_69 ?_
    refine kg_X7_heat X hi_X7_count_X7 hf_X7_count_93 dX7_count_70 ?_
    have g7 : -2147483648 ≤ M 22 8 ∧ M 22 8 < 2147483648 := hM 22 8
    exact kb_iret X hr hlocks dX7_count_73 (by unfold mo_countR; repeat (first | rw [if_pos (by omega)] | rw [if_neg (by omega)]); try first | rfl | omega) (by first | rfl | (exfalso; omega))
  ·
    refine kb_tabIn (tgt := 74) X _ ⟨by omega, by omega⟩ dX7_count_1 (by omega) (by omega) (off := 73) (by rw [h1]; rfl) (by decide) ?_
    refine kb_aload_n X 0 rfl dX7_count_74 ?_
    refine kg_X7_ever X hi_X7_count_X7 hf_X7_count_136 dX7_count_75 ?_
    have g8 : -2147483648 ≤ M 22 9 ∧ M 22 9 < 2147483648 := hM 22 9
    exact kb_iret X hr hlocks dX7_count_78 (by unfold mo_countR; repeat (first | rw [if_pos (by omega)] | rw [if_neg (by omega)]); try first | rfl | omega) (by first | rfl | (exfalso; omega))
-- X7_digest
theorem hf_X7_digest_19 : Cond.fieldLink yX7_digest.cls 19 RX7 "n" "I" ∈ wsX7_digest := by decide +kernel
theorem hf_X7_digest_44 : Cond.fieldLink yX7_digest.cls 44 RX7 "px" "[I" ∈ wsX7_digest := by decide +kernel
theorem hf_X7_digest_47 : Cond.fieldLink yX7_digest.cls 47 RX7 "pz" "[I" ∈ wsX7_digest := by decide +kernel
theorem hf_X7_digest_59 : Cond.fieldLink yX7_digest.cls 59 RX7 "senders" "[I" ∈ wsX7_digest := by decide +kernel
theorem hf_X7_digest_66 : Cond.fieldLink yX7_digest.cls 66 RX7 "wide" "[I" ∈ wsX7_digest := by decide +kernel
theorem hf_X7_digest_69 : Cond.fieldLink yX7_digest.cls 69 RX7 "tall" "[I" ∈ wsX7_digest := by decide +kernel
theorem hf_X7_digest_72 : Cond.fieldLink yX7_digest.cls 72 RX7 "pixels" "[I" ∈ wsX7_digest := by decide +kernel
theorem hf_X7_digest_87 : Cond.fieldLink yX7_digest.cls 87 RX7 "looks" "I" ∈ wsX7_digest := by decide +kernel
theorem hf_X7_digest_90 : Cond.fieldLink yX7_digest.cls 90 RX7 "pictures" "I" ∈ wsX7_digest := by decide +kernel
theorem hf_X7_digest_124 : Cond.fieldLink yX7_digest.cls 124 RX7 "points" "I" ∈ wsX7_digest := by decide +kernel
theorem hi_X7_digest_X7 : ∀ w ∈ wsX70, w ∈ wsX7_digest := by decide +kernel
theorem hy_X7_digest : yX7_digest.cls ≠ "java/lang/invoke/MethodHandle" ∧ yX7_digest.cls ≠ "java/lang/invoke/VarHandle" ∧ (parseMethodDescriptor yX7_digest.desc).map (fun d => d.parameters.length) = some 0 := by decide +kernel
set_option maxHeartbeats 4000000 in
set_option maxRecDepth 100000 in
theorem c_X7_digest (l : Launch) (D : va_G) (ad : Nat → Nat) (cy : Nat → ClassId) (M : kb_M)  (hIP : mo_IP M) (hIL : mo_IL M) (hIR : mo_IR M) (hsc : mo_sc M) : kb_Cl l D ad cy yX7_digest wsX7_digest 2 48 [.ref (ad 22)] M (mo_dig M) (M) := by
  refine kb_mkCl (cc := cX7_digest) (maxL := 8) (lv := [(0, .ref (ad 22))]) (plainFor_of_name (by decide)) rfl (Nat.le_of_ble_eq_true rfl) rfl ?_
  intro p e s m args below meth c X hr hlocks hM
  obtain ⟨hxs, hn0, hP, hT, hf⟩ := id hIP
  obtain ⟨hs, hsb, hsn⟩ := id hIL
  obtain ⟨hrs, hwh⟩ := id hIR
  have hsc1 := hsc.1
  refine kb_ldc2 (v := 131) X (131) (by decide +kernel) (by decide) dX7_digest_0 ?_
  refine kb_lstore_n (lv' := [(1, kb_l (131)), (0, .ref (ad 22))]) X dX7_digest_3 (by decide) rfl ?_
  refine kb_iconst X dX7_digest_4 ?_
  refine kb_istore_n (lv' := [(3, kb_i 0), (1, kb_l (131)), (0, .ref (ad 22))]) X dX7_digest_5 (by decide) rfl ?_
  have L6 : ∀ nn_ : Nat, ∀ (u k : Int), (7 - k).toNat < nn_ → (0 ≤ k ∧ k ≤ 7) → (u = sp_hs (mo_countR M) 131 k.toNat) → kb_B p l e ({ frames := 2, cells := 0, slots := 0, locals := 48 } : Room) s m args below meth c D ad cy (kb_A ad s.heap.size) 8 0 0 (MQ below (va_Ql (fun (vq_ : Int64) (_ : Unit) => vq_ = kb_L (mo_dig M)) (fun _ t => kb_en2 D ad cy (M) t) (kb_A ad s.heap.size)) args s 0 0 (kb_A ad s.heap.size)) 6 [(0, .ref (ad 22)), (1, kb_l (u)), (3, kb_i k)] [] M := by
    intro nn_
    induction nn_ with
    | zero => intro u k hn; exact absurd hn (Nat.not_lt_zero _)
    | succ nn_ ih1 =>
      intro u k hn hI hJ
      refine kb_iload_n X 2 rfl dX7_digest_6 ?_
      refine kb_bipush X (by decide) dX7_digest_7 ?_
      refine kb_icmp_ge (tgt := 31) X ⟨by omega, by omega⟩ ⟨by decide, by decide⟩ dX7_digest_9 (by decide) (fun h2 => ?_) (fun h2 => ?_)
      ·
        refine kb_iconst X dX7_digest_31 ?_
        refine kb_istore_n (lv' := [(3, kb_i 0), (0, .ref (ad 22)), (1, kb_l (u))]) X dX7_digest_32 (by decide) rfl ?_
        have L33 : ∀ nn_ : Nat, ∀ (u2 k2 : Int), (8 - k2).toNat < nn_ → (0 ≤ k2 ∧ k2 ≤ M 22 10) → (u2 = mo_hq M (sp_hs (mo_countR M) 131 7) k2.toNat) → kb_B p l e ({ frames := 2, cells := 0, slots := 0, locals := 48 } : Room) s m args below meth c D ad cy (kb_A ad s.heap.size) 8 0 0 (MQ below (va_Ql (fun (vq_ : Int64) (_ : Unit) => vq_ = kb_L (mo_dig M)) (fun _ t => kb_en2 D ad cy (M) t) (kb_A ad s.heap.size)) args s 0 0 (kb_A ad s.heap.size)) 33 [(0, .ref (ad 22)), (1, kb_l (u2)), (3, kb_i k2)] [] M := by
          intro nn_
          induction nn_ with
          | zero => intro u2 k2 hn; exact absurd hn (Nat.not_lt_zero _)
          | succ nn_ ih3 =>
            intro u2 k2 hn hI2 hJ2
            refine kb_iload_n X 2 rfl dX7_digest_33 ?_
            refine kb_aload_n X 0 rfl dX7_digest_34 ?_
            refine kg_X7_points X hi_X7_digest_X7 hf_X7_digest_124 dX7_digest_35 ?_
            have g4 : -2147483648 ≤ M 22 10 ∧ M 22 10 < 2147483648 := hM 22 10
            refine kb_icmp_ge (tgt := 75) X ⟨by omega, by omega⟩ ⟨by omega, by omega⟩ dX7_digest_38 (by decide) (fun h5 => ?_) (fun h5 => ?_)
            ·
              refine kb_iconst X dX7_digest_75 ?_
              refine kb_istore_n (lv' := [(3, kb_i 0), (0, .ref (ad 22)), (1, kb_l (u2))]) X dX7_digest_76 (by decide) rfl ?_
              have L77 : ∀ nn_ : Nat, ∀ (u3 k3 : Int), (6 - k3).toNat < nn_ → (0 ≤ k3 ∧ k3 ≤ M 22 16) → (u3 = mo_hl M (mo_hq M (sp_hs (mo_countR M) 131 7) (M 22 10).toNat) k3.toNat) → kb_B p l e ({ frames := 2, cells := 0, slots := 0, locals := 48 } : Room) s m args below meth c D ad cy (kb_A ad s.heap.size) 8 0 0 (MQ below (va_Ql (fun (vq_ : Int64) (_ : Unit) => vq_ = kb_L (mo_dig M)) (fun _ t => kb_en2 D ad cy (M) t) (kb_A ad s.heap.size)) args s 0 0 (kb_A ad s.heap.size)) 77 [(0, .ref (ad 22)), (1, kb_l (u3)), (3, kb_i k3)] [] M := by
                intro nn_
                induction nn_ with
                | zero => intro u3 k3 hn; exact absurd hn (Nat.not_lt_zero _)
                | succ nn_ ih6 =>
                  intro u3 k3 hn hI3 hJ3
                  refine kb_iload_n X 2 rfl dX7_digest_77 ?_
                  refine kb_aload_n X 0 rfl dX7_digest_78 ?_
                  refine kg_X7_looks X hi_X7_digest_X7 hf_X7_digest_87 dX7_digest_79 ?_
                  have g7 : -2147483648 ≤ M 22 16 ∧ M 22 16 < 2147483648 := hM 22 16
                  refine kb_icmp_ge (tgt := 173) X ⟨by omega, by omega⟩ ⟨by omega, by omega⟩ dX7_digest_82 (by decide) (fun h8 => ?_) (fun h8 => ?_)
                  ·
                    refine kb_iconst X dX7_digest_173 ?_
                    refine kb_istore_n (lv' := [(3, kb_i 0), (0, .ref (ad 22)), (1, kb_l (u3))]) X dX7_digest_174 (by decide) rfl ?_
                    have L175 : ∀ nn_ : Nat, ∀ (u6 k6 : Int), (4 - k6).toNat < nn_ → (0 ≤ k6 ∧ k6 ≤ M 22 19) → (u6 = mo_hp M (mo_hl M (mo_hq M (sp_hs (mo_countR M) 131 7) (M 22 10).toNat) (M 22 16).toNat) k6.toNat) → kb_B p l e ({ frames := 2, cells := 0, slots := 0, locals := 48 } : Room) s m args below meth c D ad cy (kb_A ad s.heap.size) 8 0 0 (MQ below (va_Ql (fun (vq_ : Int64) (_ : Unit) => vq_ = kb_L (mo_dig M)) (fun _ t => kb_en2 D ad cy (M) t) (kb_A ad s.heap.size)) args s 0 0 (kb_A ad s.heap.size)) 175 [(0, .ref (ad 22)), (1, kb_l (u6)), (3, kb_i k6)] [] M := by
                      intro nn_
                      induction nn_ with
                      | zero => intro u6 k6 hn; exact absurd hn (Nat.not_lt_zero _)
                      | succ nn_ ih9 =>
                        intro u6 k6 hn hI6 hJ6
                        refine kb_iload_n X 2 rfl dX7_digest_175 ?_
                        refine kb_aload_n X 0 rfl dX7_digest_176 ?_
                        refine kg_X7_pictures X hi_X7_digest_X7 hf_X7_digest_90 dX7_digest_177 ?_
                        have g10 : -2147483648 ≤ M 22 19 ∧ M 22 19 < 2147483648 := hM 22 19
                        refine kb_icmp_ge (tgt := 237) X ⟨by omega, by omega⟩ ⟨by omega, by omega⟩ dX7_digest_180 (by decide) (fun h11 => ?_) (fun h11 => ?_)
                        ·
                          refine kb_lload_n X 1 rfl dX7_digest_237 ?_
                          exact kb_lret X hr hlocks dX7_digest_238 (by (have e : k6 = M 22 19 := by omega); rw [hJ6, e]; rfl) (by first | rfl | (exfalso; omega))
                        ·
                          have wb := hwh k6 (by omega) (by omega)
                          have mb := sp_mulb (a := M 32 k6) (b := M 33 k6) (A := 16) (B := 16) (by omega) (by omega) (by omega) (by omega)
                          refine kb_iconst X dX7_digest_183 ?_
                          refine kb_istore (lv' := [(4, kb_i 0), (0, .ref (ad 22)), (1, kb_l (u6)), (3, kb_i k6)]) X dX7_digest_184 (by decide) rfl ?_
                          have L186 : ∀ nn_ : Nat, ∀ (u7 i7 : Int), (300 - i7).toNat < nn_ → (0 ≤ i7 ∧ i7 ≤ M 32 k6 * M 33 k6) → (u7 = sp_hs (fun k => M 34 (256 * k6 + k)) u6 i7.toNat) → kb_B p l e ({ frames := 2, cells := 0, slots := 0, locals := 48 } : Room) s m args below meth c D ad cy (kb_A ad s.heap.size) 8 0 0 (MQ below (va_Ql (fun (vq_ : Int64) (_ : Unit) => vq_ = kb_L (mo_dig M)) (fun _ t => kb_en2 D ad cy (M) t) (kb_A ad s.heap.size)) args s 0 0 (kb_A ad s.heap.size)) 186 [(0, .ref (ad 22)), (1, kb_l (u7)), (3, kb_i k6), (4, kb_i i7)] [] M := by
                            intro nn_
                            induction nn_ with
                            | zero => intro u7 i7 hn; exact absurd hn (Nat.not_lt_zero _)
                            | succ nn_ ih12 =>
                              intro u7 i7 hn hI7 hJ7
                              refine kb_iload X 3 rfl dX7_digest_186 ?_
                              refine kb_aload_n X 0 rfl dX7_digest_188 ?_
                              refine kg_X7_wide X hi_X7_digest_X7 hf_X7_digest_66 dX7_digest_189 ?_
                              refine kb_iload_n X 2 rfl dX7_digest_192 ?_
                              refine kb_iald X 32 (n := 4) rfl ⟨by omega, by omega⟩ (by decide) dX7_digest_193 ?_
                              have g13 : -2147483648 ≤ M 32 k6 ∧ M 32 k6 < 2147483648 := hM 32 k6
                              refine kb_aload_n X 0 rfl dX7_digest_194 ?_
                              refine kg_X7_tall X hi_X7_digest_X7 hf_X7_digest_69 dX7_digest_195 ?_
                              refine kb_iload_n X 2 rfl dX7_digest_198 ?_
                              refine kb_iald X 33 (n := 4) rfl ⟨by omega, by omega⟩ (by decide) dX7_digest_199 ?_
                              have g14 : -2147483648 ≤ M 33 k6 ∧ M 33 k6 < 2147483648 := hM 33 k6
                              refine kb_imul X dX7_digest_200 ?_
                              refine kb_icmp_ge (tgt := 231) X ⟨by omega, by omega⟩ ⟨by omega, by omega⟩ dX7_digest_201 (by decide) (fun h15 => ?_) (fun h15 => ?_)
                              ·
                                refine kb_iinc (lv' := [(3, kb_i (k6 + 1)), (0, .ref (ad 22)), (1, kb_l (u7)), (4, kb_i i7)]) X 2 rfl dX7_digest_231 rfl (by decide) rfl ?_
                                refine kb_goto (tgt := 175) X dX7_digest_234 (by decide) ?_
                                refine kb_sub [1, 2, 0] (lv' := [(0, .ref (ad 22)), (1, kb_l (u7)), (3, kb_i (k6 + 1))]) rfl ?_
                                exact ih9 u7 (k6 + 1) (by omega) (by first | omega | assumption | exact ⟨by omega, by omega⟩) (by rw [mo_hpS _ _ hI6.1, ← hJ6, hJ7]; congr 1; omega)
                              ·
                                refine kb_ldc2 (v := 31) X (31) (by decide +kernel) (by decide) dX7_digest_204 ?_
                                refine kb_lload_n X 1 rfl dX7_digest_207 ?_
                                refine kb_lmul X dX7_digest_208 ?_
                                refine kb_aload_n X 0 rfl dX7_digest_209 ?_
                                refine kg_X7_pixels X hi_X7_digest_X7 hf_X7_digest_72 dX7_digest_210 ?_
                                refine kb_sipush X (by decide) dX7_digest_213 ?_
                                refine kb_iload_n X 2 rfl dX7_digest_216 ?_
                                refine kb_imul X dX7_digest_217 ?_
                                refine kb_iload X 3 rfl dX7_digest_218 ?_
                                refine kb_iadd X dX7_digest_220 ?_
                                refine kb_iald X 34 (n := 1024) rfl ⟨by omega, by omega⟩ (by decide) dX7_digest_221 ?_
                                have g16 : -2147483648 ≤ M 34 ((256 * k6) + i7) ∧ M 34 ((256 * k6) + i7) < 2147483648 := hM 34 ((256 * k6) + i7)
                                refine kb_i2l X ⟨by omega, by omega⟩ dX7_digest_222 ?_
                                refine kb_ladd X dX7_digest_223 ?_
                                refine kb_nml (fun x1_17 ex1_17 => ?_)
                                refine kb_lstore_n (lv' := [(1, kb_l (x1_17)), (0, .ref (ad 22)), (3, kb_i k6), (4, kb_i i7)]) X dX7_digest_224 (by decide) rfl ?_
                                refine kb_iinc (lv' := [(4, kb_i (i7 + 1)), (1, kb_l (x1_17)), (0, .ref (ad 22)), (3, kb_i k6)]) X 3 rfl dX7_digest_225 rfl (by decide) rfl ?_
                                refine kb_goto (tgt := 186) X dX7_digest_228 (by decide) ?_
                                refine kb_sub [2, 1, 3, 0] (lv' := [(0, .ref (ad 22)), (1, kb_l (x1_17)), (3, kb_i k6), (4, kb_i (i7 + 1))]) rfl ?_
                                exact ih12 x1_17 (i7 + 1) (by omega) (by omega) (by rw [sp_hsS _ _ hI7.1, ← hJ7]; assumption)
                          refine kb_sub [1, 2, 3, 0] (lv' := [(0, .ref (ad 22)), (1, kb_l (u6)), (3, kb_i k6), (4, kb_i 0)]) rfl ?_
                          exact L186 _ u6 (0 : Int) (Nat.lt_succ_self _) (by omega) (rfl)
                    refine kb_sub [1, 2, 0] (lv' := [(0, .ref (ad 22)), (1, kb_l (u3)), (3, kb_i 0)]) rfl ?_
                    exact L175 _ u3 (0 : Int) (Nat.lt_succ_self _) (by first | omega | assumption | exact ⟨by omega, by omega⟩) (by (have e : k3 = M 22 16 := by omega); rw [hJ3, e]; rfl)
                  ·
                    refine kb_ldc2 (v := 31) X (31) (by decide +kernel) (by decide) dX7_digest_85 ?_
                    refine kb_lload_n X 1 rfl dX7_digest_88 ?_
                    refine kb_lmul X dX7_digest_89 ?_
                    refine kb_aload_n X 0 rfl dX7_digest_90 ?_
                    refine kg_X7_senders X hi_X7_digest_X7 hf_X7_digest_59 dX7_digest_91 ?_
                    refine kb_iload_n X 2 rfl dX7_digest_94 ?_
                    refine kb_iald X 30 (n := 6) rfl ⟨by omega, by omega⟩ (by decide) dX7_digest_95 ?_
                    have g18 : -2147483648 ≤ M 30 k3 ∧ M 30 k3 < 2147483648 := hM 30 k3
                    refine kb_i2l X ⟨by omega, by omega⟩ dX7_digest_96 ?_
                    refine kb_ladd X dX7_digest_97 ?_
                    refine kb_nml (fun x1_19 ex1_19 => ?_)
                    refine kb_lstore_n (lv' := [(1, kb_l (x1_19)), (0, .ref (ad 22)), (3, kb_i k3)]) X dX7_digest_98 (by decide) rfl ?_
                    refine kb_iconst X dX7_digest_99 ?_
                    refine kb_istore (lv' := [(4, kb_i 0), (1, kb_l (x1_19)), (0, .ref (ad 22)), (3, kb_i k3)]) X dX7_digest_100 (by decide) rfl ?_
                    have L102 : ∀ nn_ : Nat, ∀ (u4 i4 : Int), (16 - i4).toNat < nn_ → (0 ≤ i4 ∧ i4 ≤ M 22 0) → (u4 = sp_hs (mo_rsm M k3) (31 * u3 + M 30 k3) i4.toNat) → kb_B p l e ({ frames := 2, cells := 0, slots := 0, locals := 48 } : Room) s m args below meth c D ad cy (kb_A ad s.heap.size) 8 0 0 (MQ below (va_Ql (fun (vq_ : Int64) (_ : Unit) => vq_ = kb_L (mo_dig M)) (fun _ t => kb_en2 D ad cy (M) t) (kb_A ad s.heap.size)) args s 0 0 (kb_A ad s.heap.size)) 102 [(0, .ref (ad 22)), (1, kb_l (u4)), (3, kb_i k3), (4, kb_i i4)] [] M := by
                      intro nn_
                      induction nn_ with
                      | zero => intro u4 i4 hn; exact absurd hn (Nat.not_lt_zero _)
                      | succ nn_ ih20 =>
                        intro u4 i4 hn hI4 hJ4
                        refine kb_iload X 3 rfl dX7_digest_102 ?_
                        refine kb_aload_n X 0 rfl dX7_digest_104 ?_
                        refine kg_X7_n X hi_X7_digest_X7 hf_X7_digest_19 dX7_digest_105 ?_
                        have g21 : -2147483648 ≤ M 22 0 ∧ M 22 0 < 2147483648 := hM 22 0
                        refine kb_icmp_ge (tgt := 167) X ⟨by omega, by omega⟩ ⟨by omega, by omega⟩ dX7_digest_108 (by decide) (fun h22 => ?_) (fun h22 => ?_)
                        ·
                          refine kb_iinc (lv' := [(3, kb_i (k3 + 1)), (0, .ref (ad 22)), (1, kb_l (u4)), (4, kb_i i4)]) X 2 rfl dX7_digest_167 rfl (by decide) rfl ?_
                          refine kb_goto (tgt := 77) X dX7_digest_170 (by decide) ?_
                          refine kb_sub [1, 2, 0] (lv' := [(0, .ref (ad 22)), (1, kb_l (u4)), (3, kb_i (k3 + 1))]) rfl ?_
                          exact ih6 u4 (k3 + 1) (by omega) (by first | omega | assumption | exact ⟨by omega, by omega⟩) (by rw [mo_hlS _ _ hI3.1, ← hJ3, hJ4, show i4 = M 22 0 by omega])
                        ·
                          refine kb_lconst X dX7_digest_111 ?_
                          refine kb_eql (b := 0) rfl ?_
                          refine kb_lstore (lv' := [(5, kb_l (0)), (0, .ref (ad 22)), (1, kb_l (u4)), (3, kb_i k3), (4, kb_i i4)]) X dX7_digest_112 (by decide) rfl ?_
                          refine kb_iconst X dX7_digest_114 ?_
                          refine kb_istore (lv' := [(7, kb_i 0), (5, kb_l (0)), (0, .ref (ad 22)), (1, kb_l (u4)), (3, kb_i k3), (4, kb_i i4)]) X dX7_digest_115 (by decide) rfl ?_
                          have L117 : ∀ nn_ : Nat, ∀ (v5 i5 : Int), (400 - i5).toNat < nn_ → (0 ≤ i5 ∧ i5 ≤ 400) → (v5 = sp_sum (fun b => (b + 1) * mo_at M k3 i4 b) i5.toNat) → kb_B p l e ({ frames := 2, cells := 0, slots := 0, locals := 48 } : Room) s m args below meth c D ad cy (kb_A ad s.heap.size) 8 0 0 (MQ below (va_Ql (fun (vq_ : Int64) (_ : Unit) => vq_ = kb_L (mo_dig M)) (fun _ t => kb_en2 D ad cy (M) t) (kb_A ad s.heap.size)) args s 0 0 (kb_A ad s.heap.size)) 117 [(0, .ref (ad 22)), (1, kb_l (u4)), (3, kb_i k3), (4, kb_i i4), (5, kb_l (v5)), (7, kb_i i5)] [] M := by
                            intro nn_
                            induction nn_ with
                            | zero => intro v5 i5 hn; exact absurd hn (Nat.not_lt_zero _)
                            | succ nn_ ih23 =>
                              intro v5 i5 hn hI5 hJ5
                              refine kb_iload X 5 rfl dX7_digest_117 ?_
                              refine kb_sipush X (by decide) dX7_digest_119 ?_
                              refine kb_icmp_ge (tgt := 152) X ⟨by omega, by omega⟩ ⟨by decide, by decide⟩ dX7_digest_122 (by decide) (fun h24 => ?_) (fun h24 => ?_)
                              ·
                                refine kb_ldc2 (v := 31) X (31) (by decide +kernel) (by decide) dX7_digest_152 ?_
                                refine kb_lload_n X 1 rfl dX7_digest_155 ?_
                                refine kb_lmul X dX7_digest_156 ?_
                                refine kb_lload X 4 rfl dX7_digest_157 ?_
                                refine kb_ladd X dX7_digest_159 ?_
                                refine kb_nml (fun x1_25 ex1_25 => ?_)
                                refine kb_lstore_n (lv' := [(1, kb_l (x1_25)), (0, .ref (ad 22)), (3, kb_i k3), (4, kb_i i4), (5, kb_l (v5)), (7, kb_i i5)]) X dX7_digest_160 (by decide) rfl ?_
                                refine kb_iinc (lv' := [(4, kb_i (i4 + 1)), (1, kb_l (x1_25)), (0, .ref (ad 22)), (3, kb_i k3), (5, kb_l (v5)), (7, kb_i i5)]) X 3 rfl dX7_digest_161 rfl (by decide) rfl ?_
                                refine kb_goto (tgt := 102) X dX7_digest_164 (by decide) ?_
                                refine kb_sub [2, 1, 3, 0] (lv' := [(0, .ref (ad 22)), (1, kb_l (x1_25)), (3, kb_i k3), (4, kb_i (i4 + 1))]) rfl ?_
                                exact ih20 x1_25 (i4 + 1) (by omega) (by first | omega | assumption | exact ⟨by omega, by omega⟩) (by rw [sp_hsS _ _ hI4.1, ← hJ4]; (have e5 : i5 = 400 := by omega); (have e6 : mo_rsm M k3 i4 = v5 := by rw [hJ5, e5]; rfl); rw [e6]; assumption)
                              ·
                                refine kb_lload X 4 rfl dX7_digest_125 ?_
                                refine kb_iload X 5 rfl dX7_digest_127 ?_
                                refine kb_i2l X ⟨by omega, by omega⟩ dX7_digest_129 ?_
                                refine kb_lconst X dX7_digest_130 ?_
                                refine kb_eql (b := 1) rfl ?_
                                refine kb_ladd X dX7_digest_131 ?_
                                refine kb_aload_n X 0 rfl dX7_digest_132 ?_
                                refine kb_iload_n X 2 rfl dX7_digest_133 ?_
                                refine kb_iload X 3 rfl dX7_digest_134 ?_
                                refine kb_iload X 5 rfl dX7_digest_136 ?_
                                refine kb_cVi X (rest := [kb_l (i5 + 1), kb_l (v5)]) [kb_i k3, kb_i i4, kb_i i5] 22 (fl := [none, some 23, some 24, none, none, none, none, none, none, none, none, some 25, some 26, some 27, some 28, some 29, none, some 30, some 31, none, some 32, some 33, some 34, some 35, none, none, none, some 36]) (C := RX7) rfl rfl (c_X7_sampleAt l D ad cy M k3 i4 i5 (by first | omega | assumption | exact ⟨by omega, by omega⟩) (by first | omega | assumption | exact ⟨by omega, by omega⟩) (by first | omega | assumption | exact ⟨by omega, by omega⟩)) gX7_digest_X7_sampleAt rfl ⟨rfl, hy_X7_sampleAt⟩ ⟨by decide, by decide⟩ rfl (Nat.le_of_ble_eq_true rfl) ⟨by decide, by decide⟩ dX7_digest_138 rfl ?_
                                have s1 := mo_at_b hsb k3 i4 i5
                                refine kb_i2l X ⟨by omega, by omega⟩ dX7_digest_141 ?_
                                refine kb_lmul X dX7_digest_142 ?_
                                refine kb_ladd X dX7_digest_143 ?_
                                refine kb_nml (fun x5_26 ex5_26 => ?_)
                                refine kb_lstore (lv' := [(5, kb_l (x5_26)), (0, .ref (ad 22)), (1, kb_l (u4)), (3, kb_i k3), (4, kb_i i4), (7, kb_i i5)]) X dX7_digest_144 (by decide) rfl ?_
                                refine kb_iinc (lv' := [(7, kb_i (i5 + 1)), (5, kb_l (x5_26)), (0, .ref (ad 22)), (1, kb_l (u4)), (3, kb_i k3), (4, kb_i i4)]) X 5 rfl dX7_digest_146 rfl (by decide) rfl ?_
                                refine kb_goto (tgt := 117) X dX7_digest_149 (by decide) ?_
                                refine kb_sub [2, 3, 4, 5, 1, 0] (lv' := [(0, .ref (ad 22)), (1, kb_l (u4)), (3, kb_i k3), (4, kb_i i4), (5, kb_l (x5_26)), (7, kb_i (i5 + 1))]) rfl ?_
                                exact ih23 x5_26 (i5 + 1) (by omega) (by first | omega | assumption | exact ⟨by omega, by omega⟩) (by rw [sp_sumS _ hI5.1, ← hJ5]; assumption)
                          refine kb_sub [2, 3, 4, 5, 1, 0] (lv' := [(0, .ref (ad 22)), (1, kb_l (u4)), (3, kb_i k3), (4, kb_i i4), (5, kb_l (0)), (7, kb_i 0)]) rfl ?_
                          exact L117 _ (0 : Int) (0 : Int) (Nat.lt_succ_self _) (by first | omega | assumption | exact ⟨by omega, by omega⟩) (rfl)
                    refine kb_sub [2, 1, 3, 0] (lv' := [(0, .ref (ad 22)), (1, kb_l (x1_19)), (3, kb_i k3), (4, kb_i 0)]) rfl ?_
                    exact L102 _ x1_19 (0 : Int) (Nat.lt_succ_self _) (by first | omega | assumption | exact ⟨by omega, by omega⟩) (by subst_vars; rfl)
              refine kb_sub [1, 2, 0] (lv' := [(0, .ref (ad 22)), (1, kb_l (u2)), (3, kb_i 0)]) rfl ?_
              exact L77 _ u2 (0 : Int) (Nat.lt_succ_self _) (by first | omega | assumption | exact ⟨by omega, by omega⟩) (by (have e : k2 = M 22 10 := by omega); rw [hJ2, e]; rfl)
            ·
              refine kb_ldc2 (v := 31) X (31) (by decide +kernel) (by decide) dX7_digest_41 ?_
              refine kb_lload_n X 1 rfl dX7_digest_44 ?_
              refine kb_lmul X dX7_digest_45 ?_
              refine kb_aload_n X 0 rfl dX7_digest_46 ?_
              refine kg_X7_px X hi_X7_digest_X7 hf_X7_digest_44 dX7_digest_47 ?_
              refine kb_iload_n X 2 rfl dX7_digest_50 ?_
              refine kb_iald X 25 (n := 8) rfl ⟨by omega, by omega⟩ (by decide) dX7_digest_51 ?_
              have g27 : -2147483648 ≤ M 25 k2 ∧ M 25 k2 < 2147483648 := hM 25 k2
              refine kb_i2l X ⟨by omega, by omega⟩ dX7_digest_52 ?_
              refine kb_ladd X dX7_digest_53 ?_
              refine kb_nml (fun x1_28 ex1_28 => ?_)
              refine kb_lstore_n (lv' := [(1, kb_l (x1_28)), (0, .ref (ad 22)), (3, kb_i k2)]) X dX7_digest_54 (by decide) rfl ?_
              refine kb_ldc2 (v := 31) X (31) (by decide +kernel) (by decide) dX7_digest_55 ?_
              refine kb_lload_n X 0 rfl dX7_digest_58 ?_
              refine kb_lmul X dX7_digest_59 ?_
              refine kb_aload_n X 1 rfl dX7_digest_60 ?_
              refine kg_X7_pz X hi_X7_digest_X7 hf_X7_digest_47 dX7_digest_61 ?_
              refine kb_iload_n X 2 rfl dX7_digest_64 ?_
              refine kb_iald X 26 (n := 8) rfl ⟨by omega, by omega⟩ (by decide) dX7_digest_65 ?_
              have g29 : -2147483648 ≤ M 26 k2 ∧ M 26 k2 < 2147483648 := hM 26 k2
              refine kb_i2l X ⟨by omega, by omega⟩ dX7_digest_66 ?_
              refine kb_ladd X dX7_digest_67 ?_
              refine kb_nml (fun x1_30 ex1_30 => ?_)
              refine kb_lstore_n (lv' := [(1, kb_l (x1_30)), (0, .ref (ad 22)), (3, kb_i k2)]) X dX7_digest_68 (by decide) rfl ?_
              refine kb_iinc (lv' := [(3, kb_i (k2 + 1)), (1, kb_l (x1_30)), (0, .ref (ad 22))]) X 2 rfl dX7_digest_69 rfl (by decide) rfl ?_
              refine kb_goto (tgt := 33) X dX7_digest_72 (by decide) ?_
              refine kb_sub [2, 1, 0] (lv' := [(0, .ref (ad 22)), (1, kb_l (x1_30)), (3, kb_i (k2 + 1))]) rfl ?_
              exact ih3 x1_30 (k2 + 1) (by omega) (by first | omega | assumption | exact ⟨by omega, by omega⟩) (by rw [mo_hqS _ _ hI2.1, ← hJ2]; subst_vars; rfl)
        refine kb_sub [1, 2, 0] (lv' := [(0, .ref (ad 22)), (1, kb_l (u)), (3, kb_i 0)]) rfl ?_
        exact L33 _ u (0 : Int) (Nat.lt_succ_self _) (by first | omega | assumption | exact ⟨by omega, by omega⟩) (by (have e : k = 7 := by omega); rw [hJ, e]; rfl)
      ·
        refine kb_ldc2 (v := 31) X (31) (by decide +kernel) (by decide) dX7_digest_12 ?_
        refine kb_lload_n X 1 rfl dX7_digest_15 ?_
        refine kb_lmul X dX7_digest_16 ?_
        refine kb_aload_n X 0 rfl dX7_digest_17 ?_
        refine kb_iload_n X 2 rfl dX7_digest_18 ?_
        refine kb_cVi X (rest := [kb_l (31 * u)]) [kb_i k] 22 (fl := [none, some 23, some 24, none, none, none, none, none, none, none, none, some 25, some 26, some 27, some 28, some 29, none, some 30, some 31, none, some 32, some 33, some 34, some 35, none, none, none, some 36]) (C := RX7) rfl rfl (c_X7_count l D ad cy M k (by first | omega | assumption | exact ⟨by omega, by omega⟩) (by first | omega | assumption | exact ⟨by omega, by omega⟩)) gX7_digest_X7_count rfl ⟨rfl, hy_X7_count⟩ ⟨by decide, by decide⟩ rfl (Nat.le_of_ble_eq_true rfl) ⟨by decide, by decide⟩ dX7_digest_19 rfl ?_
        have g31 : -2147483648 ≤ (mo_countR M k) ∧ (mo_countR M k) < 2147483648 := mo_countR_rg hM (by have := mo_al_b (M := M) (M 22 0).toNat; unfold mo_al; omega) _
        refine kb_i2l X ⟨by omega, by omega⟩ dX7_digest_22 ?_
        refine kb_ladd X dX7_digest_23 ?_
        refine kb_nml (fun x1_32 ex1_32 => ?_)
        refine kb_lstore_n (lv' := [(1, kb_l (x1_32)), (0, .ref (ad 22)), (3, kb_i k)]) X dX7_digest_24 (by decide) rfl ?_
        refine kb_iinc (lv' := [(3, kb_i (k + 1)), (1, kb_l (x1_32)), (0, .ref (ad 22))]) X 2 rfl dX7_digest_25 rfl (by decide) rfl ?_
        refine kb_goto (tgt := 6) X dX7_digest_28 (by decide) ?_
        refine kb_sub [2, 1, 0] (lv' := [(0, .ref (ad 22)), (1, kb_l (x1_32)), (3, kb_i (k + 1))]) rfl ?_
        exact ih1 x1_32 (k + 1) (by omega) (by first | omega | assumption | exact ⟨by omega, by omega⟩) (by rw [sp_hsS _ _ hI.1, ← hJ]; assumption)
  refine kb_sub [2, 1, 0] (lv' := [(0, .ref (ad 22)), (1, kb_l (131)), (3, kb_i 0)]) rfl ?_
  exact L6 _ (131 : Int) (0 : Int) (Nat.lt_succ_self _) (by first | omega | assumption | exact ⟨by omega, by omega⟩) (rfl)
