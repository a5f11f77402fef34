-- X7_look
theorem hf_X7_look_19 : Cond.fieldLink yX7_look.cls 19 RX7 "n" "I" ∈ wsX7_look := by decide +kernel
theorem hf_X7_look_27 : Cond.fieldLink yX7_look.cls 27 RX7 "isDead" "[Z" ∈ wsX7_look := by decide +kernel
theorem hf_X7_look_41 : Cond.fieldLink yX7_look.cls 41 RX7 "limit" "I" ∈ wsX7_look := by decide +kernel
theorem hf_X7_look_44 : Cond.fieldLink yX7_look.cls 44 RX7 "px" "[I" ∈ wsX7_look := by decide +kernel
theorem hf_X7_look_47 : Cond.fieldLink yX7_look.cls 47 RX7 "pz" "[I" ∈ wsX7_look := by decide +kernel
theorem hf_X7_look_50 : Cond.fieldLink yX7_look.cls 50 RX7 "strength" "[I" ∈ wsX7_look := by decide +kernel
theorem hf_X7_look_53 : Cond.fieldLink yX7_look.cls 53 RX7 "moveX" "[I" ∈ wsX7_look := by decide +kernel
theorem hf_X7_look_56 : Cond.fieldLink yX7_look.cls 56 RX7 "moveZ" "[I" ∈ wsX7_look := by decide +kernel
theorem hf_X7_look_59 : Cond.fieldLink yX7_look.cls 59 RX7 "senders" "[I" ∈ wsX7_look := by decide +kernel
theorem hf_X7_look_63 : Cond.fieldLink yX7_look.cls 63 RX7 "samples" "[I" ∈ wsX7_look := by decide +kernel
theorem hf_X7_look_87 : Cond.fieldLink yX7_look.cls 87 RX7 "looks" "I" ∈ wsX7_look := by decide +kernel
theorem hf_X7_look_93 : Cond.fieldLink yX7_look.cls 93 RX7 "heat" "I" ∈ wsX7_look := by decide +kernel
theorem hf_X7_look_124 : Cond.fieldLink yX7_look.cls 124 RX7 "points" "I" ∈ wsX7_look := by decide +kernel
theorem hf_X7_look_136 : Cond.fieldLink yX7_look.cls 136 RX7 "ever" "I" ∈ wsX7_look := by decide +kernel
theorem hi_X7_look_X7 : ∀ w ∈ wsX70, w ∈ wsX7_look := by decide +kernel
theorem hy_X7_look : yX7_look.cls ≠ "java/lang/invoke/MethodHandle" ∧ yX7_look.cls ≠ "java/lang/invoke/VarHandle" ∧ (parseMethodDescriptor yX7_look.desc).map (fun d => d.parameters.length) = some 1 := by decide +kernel
set_option maxHeartbeats 4000000 in
set_option maxRecDepth 100000 in
theorem c_X7_look (l : Launch) (D : va_G) (ad : Nat → Nat) (cy : Nat → ClassId) (M : kb_M) (t0 : Int) (ht0 : -2147483648 ≤ t0 ∧ t0 < 2147483648) (hIP : mo_IP M) (hIL : mo_IL M) (hsc : mo_sc M) (hh : 0 ≤ M 22 8 ∧ M 22 8 ≤ 1000000) (hmo : 0 ≤ M 22 7 ∧ M 22 7 ≤ 1000000) (hev : 0 ≤ M 22 9 ∧ M 22 9 < 1000000) : kb_Ci l D ad cy yX7_look wsX7_look 2 54 [.ref (ad 22), kb_i t0] M (mo_lookR M t0) (mo_lookM M t0) := by
  refine kb_mkCi (cc := cX7_look) (maxL := 8) (lv := [(0, .ref (ad 22)), (1, kb_i t0)]) (plainFor_of_name (by decide)) rfl (Nat.le_of_ble_eq_true rfl) rfl ?_
  intro p e s m args below meth c X hr hlocks hM
  obtain ⟨hxs, hn0, hP, hT, hf⟩ := id hIP
  obtain ⟨hs, hsb, hsn⟩ := id hIL
  have hsc1 := hsc.1
  refine kb_iload_n X 1 rfl dX7_look_0 ?_
  refine kb_i2l X ⟨by omega, by omega⟩ dX7_look_1 ?_
  refine kb_lconst X dX7_look_2 ?_
  refine kb_eql (b := 0) rfl ?_
  refine kb_aload_n X 0 rfl dX7_look_3 ?_
  refine kg_X7_n X hi_X7_look_X7 hf_X7_look_19 dX7_look_4 ?_
  have g1 : -2147483648 ≤ M 22 0 ∧ M 22 0 < 2147483648 := hM 22 0
  refine kb_iconst X dX7_look_7 ?_
  refine kb_isub X dX7_look_8 ?_
  refine kb_i2l X ⟨by omega, by omega⟩ dX7_look_9 ?_
  refine kb_cSi X (rest := []) [kb_l (t0), kb_l (0), kb_l ((M 22 0) - 1)] (c_X7_in l D ad cy M t0 0 ((M 22 0) - 1) (by first | omega | assumption | exact ⟨by omega, by omega⟩) (by first | omega | assumption | exact ⟨by omega, by omega⟩) (by first | omega | assumption | exact ⟨by omega, by omega⟩)) gX7_look_X7_in rfl hy_X7_in ⟨by decide, by decide⟩ rfl (Nat.le_of_ble_eq_true rfl) ⟨by decide, by decide⟩ dX7_look_10 rfl ?_
  refine kb_ifb_ne (tgt := 19) X dX7_look_13 (by decide) (fun h2 => ?_) (fun h2 => ?_)
  ·
    refine kb_aload_n X 0 rfl dX7_look_19 ?_
    refine kg_X7_isDead X hi_X7_look_X7 hf_X7_look_27 dX7_look_20 ?_
    refine kb_iload_n X 1 rfl dX7_look_23 ?_
    refine kb_zald X 24 (n := 16) rfl ⟨by omega, by omega⟩ (by decide) dX7_look_24 ?_
    have g3 : -2147483648 ≤ M 24 t0 ∧ M 24 t0 < 2147483648 := hM 24 t0
    refine kb_if_eq (tgt := 31) X ⟨by omega, by omega⟩ dX7_look_25 (by decide) (fun h4 => ?_) (fun h4 => ?_)
    ·
      refine kb_aload_n X 0 rfl dX7_look_31 ?_
      refine kb_cVi X (rest := []) [] 22 (fl := [none, some 23, some 24, none, none, none, none, none, none, none, none, some 25, some 26, some 27, some 28, some 29, none, some 30, some 31, none, some 32, some 33, some 34, some 35, none, none, none, some 36]) (C := RX7) rfl rfl (c_X7_alive l D ad cy M  (by first | omega | assumption | exact ⟨by omega, by omega⟩)) gX7_look_X7_alive rfl ⟨rfl, hy_X7_alive⟩ ⟨by decide, by decide⟩ rfl (Nat.le_of_ble_eq_true rfl) ⟨by decide, by decide⟩ dX7_look_32 rfl ?_
      have g5 : 0 ≤ (mo_al M) ∧ (mo_al M) ≤ 16 := by have := mo_al_b (M := M) (M 22 0).toNat; unfold mo_al; omega
      refine kb_istore_n (lv' := [(2, kb_i (mo_al M)), (0, .ref (ad 22)), (1, kb_i t0)]) X dX7_look_35 (by decide) rfl ?_
      have hcb := sp_cube (a := mo_al M) (by omega)
      refine kb_aload_n X 1 rfl dX7_look_36 ?_
      refine kg_X7_heat X hi_X7_look_X7 hf_X7_look_93 dX7_look_37 ?_
      have g6 : -2147483648 ≤ M 22 8 ∧ M 22 8 < 2147483648 := hM 22 8
      refine kb_iload_n X 0 rfl dX7_look_40 ?_
      refine kb_iload_n X 0 rfl dX7_look_41 ?_
      refine kb_imul X dX7_look_42 ?_
      refine kb_iload_n X 0 rfl dX7_look_43 ?_
      refine kb_imul X dX7_look_44 ?_
      refine kb_iadd X dX7_look_45 ?_
      refine kb_aload_n X 1 rfl dX7_look_46 ?_
      refine kg_X7_limit X hi_X7_look_X7 hf_X7_look_41 dX7_look_47 ?_
      have g7 : -2147483648 ≤ M 22 7 ∧ M 22 7 < 2147483648 := hM 22 7
      refine kb_icmp_le (tgt := 56) X ⟨by omega, by omega⟩ ⟨by omega, by omega⟩ dX7_look_50 (by decide) (fun h8 => ?_) (fun h8 => ?_)
      ·
        refine kb_sipush X (by decide) dX7_look_56 ?_
        refine kb_istore_n (lv' := [(3, kb_i 6400), (2, kb_i (mo_al M)), (0, .ref (ad 22)), (1, kb_i t0)]) X dX7_look_59 (by decide) rfl ?_
        refine kb_aload_n X 2 rfl dX7_look_60 ?_
        refine kg_X7_looks X hi_X7_look_X7 hf_X7_look_87 dX7_look_61 ?_
        have g9 : -2147483648 ≤ M 22 16 ∧ M 22 16 < 2147483648 := hM 22 16
        refine kb_bipush X (by decide) dX7_look_64 ?_
        refine kb_icmp_ne (tgt := 145) X ⟨by omega, by omega⟩ ⟨by decide, by decide⟩ dX7_look_66 (by decide) (fun h10 => ?_) (fun h10 => ?_)
        ·
          refine kb_iconst X dX7_look_145 ?_
          refine kb_istore (lv' := [(4, kb_i 0), (3, kb_i 6400), (2, kb_i (mo_al M)), (0, .ref (ad 22)), (1, kb_i t0)]) X dX7_look_146 (by decide) rfl ?_
          have L148 : ∀ nn_ : Nat, ∀ (k3 : Int), (6400 - k3).toNat < nn_ → (0 ≤ k3 ∧ k3 ≤ 6400) → kb_B p l e ({ frames := 2, cells := 0, slots := 0, locals := 54 } : Room) s m args below meth c D ad cy (kb_A ad s.heap.size) 8 0 0 (MQ below (va_Qi (fun (vq_ : Int32) (_ : Unit) => vq_ = kb_J (mo_lookR M t0)) (fun _ t => kb_en2 D ad cy (mo_lookM M t0) t) (kb_A ad s.heap.size)) args s 0 0 (kb_A ad s.heap.size)) 148 [(0, .ref (ad 22)), (1, kb_i t0), (2, kb_i (mo_al M)), (3, kb_i 6400), (4, kb_i k3)] [] ((mo_cl M (M 22 16) k3)) := by
            intro nn_
            induction nn_ with
            | zero => intro k3 hn; exact absurd hn (Nat.not_lt_zero _)
            | succ nn_ ih11 =>
              intro k3 hn hI3
              refine kb_iload X 4 rfl dX7_look_148 ?_
              refine kb_iload_n X 3 rfl dX7_look_150 ?_
              refine kb_icmp_ge (tgt := 175) X ⟨by omega, by omega⟩ ⟨by decide, by decide⟩ dX7_look_151 (by decide) (fun h12 => ?_) (fun h12 => ?_)
              ·
                refine kb_aload_n X 0 rfl dX7_look_175 ?_
                refine kg_X7_senders X hi_X7_look_X7 hf_X7_look_59 dX7_look_176 ?_
                refine kb_aload_n X 0 rfl dX7_look_179 ?_
                refine kg_X7_looks X hi_X7_look_X7 hf_X7_look_87 dX7_look_180 ?_
                refine kb_eqi (b := M 22 16) (by first | rfl | exact mo_sh_r _ _ (by decide) | (rw [mo_lk_q _ _ _ _ (by decide)]; rfl) | (rw [mo_mvI_25, mo_lk_q _ _ _ _ (by decide)]; rfl) | (rw [kb_wr_other _ _ _ (by decide), mo_mvI_26, mo_lk_q _ _ _ _ (by decide)]; rfl) | (show mo_lk _ _ _ _ _ _ = _; rw [mo_lk_q _ _ _ _ (by decide)]; rfl)) ?_
                refine kb_iload_n X 1 rfl dX7_look_183 ?_
                refine kb_iast X 30 (n := 6) rfl ⟨by omega, by omega⟩ (by decide) ⟨by omega, by omega⟩ dX7_look_184 ?_
                refine kb_iconst X dX7_look_185 ?_
                refine kb_istore (lv' := [(4, kb_i 0), (0, .ref (ad 22)), (1, kb_i t0), (2, kb_i (mo_al M)), (3, kb_i 6400)]) X dX7_look_186 (by decide) rfl ?_
                have L188 : ∀ nn_ : Nat, ∀ (k4 : Int), (8 - k4).toNat < nn_ → (0 ≤ k4 ∧ k4 ≤ M 22 10) → kb_B p l e ({ frames := 2, cells := 0, slots := 0, locals := 54 } : Room) s m args below meth c D ad cy (kb_A ad s.heap.size) 8 0 0 (MQ below (va_Qi (fun (vq_ : Int32) (_ : Unit) => vq_ = kb_J (mo_lookR M t0)) (fun _ t => kb_en2 D ad cy (mo_lookM M t0) t) (kb_A ad s.heap.size)) args s 0 0 (kb_A ad s.heap.size)) 188 [(0, .ref (ad 22)), (1, kb_i t0), (2, kb_i (mo_al M)), (3, kb_i 6400), (4, kb_i k4)] [] ((mo_lk (kb_wr ((mo_cl M (M 22 16) k3)) 30 (M 22 16) t0) (M 22 16) t0 k4.toNat)) := by
                  intro nn_
                  induction nn_ with
                  | zero => intro k4 hn; exact absurd hn (Nat.not_lt_zero _)
                  | succ nn_ ih13 =>
                    intro k4 hn hI4
                    refine kb_iload X 4 rfl dX7_look_188 ?_
                    refine kb_aload_n X 0 rfl dX7_look_190 ?_
                    refine kg_X7_points X hi_X7_look_X7 hf_X7_look_124 dX7_look_191 ?_
                    refine kb_eqi (b := M 22 10) (by first | rfl | exact mo_sh_r _ _ (by decide) | (rw [mo_lk_q _ _ _ _ (by decide)]; rfl) | (rw [mo_mvI_25, mo_lk_q _ _ _ _ (by decide)]; rfl) | (rw [kb_wr_other _ _ _ (by decide), mo_mvI_26, mo_lk_q _ _ _ _ (by decide)]; rfl) | (show mo_lk _ _ _ _ _ _ = _; rw [mo_lk_q _ _ _ _ (by decide)]; rfl)) ?_
                    have g14 : -2147483648 ≤ M 22 10 ∧ M 22 10 < 2147483648 := hM 22 10
                    refine kb_icmp_ge (tgt := 340) X ⟨by omega, by omega⟩ ⟨by omega, by omega⟩ dX7_look_194 (by decide) (fun h15 => ?_) (fun h15 => ?_)
                    ·
                      refine kb_iconst X dX7_look_340 ?_
                      refine kb_istore (lv' := [(4, kb_i 0), (0, .ref (ad 22)), (1, kb_i t0), (2, kb_i (mo_al M)), (3, kb_i 6400)]) X dX7_look_341 (by decide) rfl ?_
                      have L343 : ∀ nn_ : Nat, ∀ (k5 : Int), (8 - k5).toNat < nn_ → (0 ≤ k5 ∧ k5 ≤ M 22 10) → kb_B p l e ({ frames := 2, cells := 0, slots := 0, locals := 54 } : Room) s m args below meth c D ad cy (kb_A ad s.heap.size) 8 0 0 (MQ below (va_Qi (fun (vq_ : Int32) (_ : Unit) => vq_ = kb_J (mo_lookR M t0)) (fun _ t => kb_en2 D ad cy (mo_lookM M t0) t) (kb_A ad s.heap.size)) args s 0 0 (kb_A ad s.heap.size)) 343 [(0, .ref (ad 22)), (1, kb_i t0), (2, kb_i (mo_al M)), (3, kb_i 6400), (4, kb_i k5)] [] ((mo_mvI ((mo_lk (kb_wr ((mo_cl M (M 22 16) k3)) 30 (M 22 16) t0) (M 22 16) t0 k4.toNat)) k5)) := by
                        intro nn_
                        induction nn_ with
                        | zero => intro k5 hn; exact absurd hn (Nat.not_lt_zero _)
                        | succ nn_ ih16 =>
                          intro k5 hn hI5
                          refine kb_iload X 4 rfl dX7_look_343 ?_
                          refine kb_aload_n X 0 rfl dX7_look_345 ?_
                          refine kg_X7_points X hi_X7_look_X7 hf_X7_look_124 dX7_look_346 ?_
                          refine kb_eqi (b := M 22 10) (by first | rfl | exact mo_sh_r _ _ (by decide) | (rw [mo_lk_q _ _ _ _ (by decide)]; rfl) | (rw [mo_mvI_25, mo_lk_q _ _ _ _ (by decide)]; rfl) | (rw [kb_wr_other _ _ _ (by decide), mo_mvI_26, mo_lk_q _ _ _ _ (by decide)]; rfl) | (show mo_lk _ _ _ _ _ _ = _; rw [mo_lk_q _ _ _ _ (by decide)]; rfl)) ?_
                          refine kb_icmp_ge (tgt := 418) X ⟨by omega, by omega⟩ ⟨by omega, by omega⟩ dX7_look_349 (by decide) (fun h17 => ?_) (fun h17 => ?_)
                          ·
                            refine kb_aload_n X 0 rfl dX7_look_418 ?_
                            refine kb_dup X rfl dX7_look_419 ?_
                            refine kg_X7_heat X hi_X7_look_X7 hf_X7_look_93 dX7_look_420 ?_
                            refine kb_eqi (b := M 22 8) (by first | rfl | exact mo_sh_r _ _ (by decide) | (rw [mo_lk_q _ _ _ _ (by decide)]; rfl) | (rw [mo_mvI_25, mo_lk_q _ _ _ _ (by decide)]; rfl) | (rw [kb_wr_other _ _ _ (by decide), mo_mvI_26, mo_lk_q _ _ _ _ (by decide)]; rfl) | (show mo_lk _ _ _ _ _ _ = _; rw [mo_lk_q _ _ _ _ (by decide)]; rfl)) ?_
                            refine kb_iload_n X 2 rfl dX7_look_423 ?_
                            refine kb_iload_n X 2 rfl dX7_look_424 ?_
                            refine kb_imul X dX7_look_425 ?_
                            refine kb_iload_n X 2 rfl dX7_look_426 ?_
                            refine kb_imul X dX7_look_427 ?_
                            refine kb_iadd X dX7_look_428 ?_
                            refine kp_X7_heat X hi_X7_look_X7 hf_X7_look_93 ⟨by omega, by omega⟩ dX7_look_429 ?_
                            refine kb_aload_n X 0 rfl dX7_look_432 ?_
                            refine kb_dup X rfl dX7_look_433 ?_
                            refine kg_X7_ever X hi_X7_look_X7 hf_X7_look_136 dX7_look_434 ?_
                            refine kb_eqi (b := M 22 9) (by first | rfl | exact mo_sh_r _ _ (by decide) | (rw [mo_lk_q _ _ _ _ (by decide)]; rfl) | (rw [mo_mvI_25, mo_lk_q _ _ _ _ (by decide)]; rfl) | (rw [kb_wr_other _ _ _ (by decide), mo_mvI_26, mo_lk_q _ _ _ _ (by decide)]; rfl) | (show mo_lk _ _ _ _ _ _ = _; rw [mo_lk_q _ _ _ _ (by decide)]; rfl)) ?_
                            have g18 : -2147483648 ≤ M 22 9 ∧ M 22 9 < 2147483648 := hM 22 9
                            refine kb_iconst X dX7_look_437 ?_
                            refine kb_iadd X dX7_look_438 ?_
                            refine kp_X7_ever X hi_X7_look_X7 hf_X7_look_136 ⟨by omega, by omega⟩ dX7_look_439 ?_
                            refine kb_aload_n X 0 rfl dX7_look_442 ?_
                            refine kb_dup X rfl dX7_look_443 ?_
                            refine kg_X7_looks X hi_X7_look_X7 hf_X7_look_87 dX7_look_444 ?_
                            refine kb_eqi (b := M 22 16) (by first | rfl | exact mo_sh_r _ _ (by decide) | (rw [mo_lk_q _ _ _ _ (by decide)]; rfl) | (rw [mo_mvI_25, mo_lk_q _ _ _ _ (by decide)]; rfl) | (rw [kb_wr_other _ _ _ (by decide), mo_mvI_26, mo_lk_q _ _ _ _ (by decide)]; rfl) | (show mo_lk _ _ _ _ _ _ = _; rw [mo_lk_q _ _ _ _ (by decide)]; rfl)) ?_
                            refine kb_iconst X dX7_look_447 ?_
                            refine kb_iadd X dX7_look_448 ?_
                            refine kp_X7_looks X hi_X7_look_X7 hf_X7_look_87 ⟨by omega, by omega⟩ dX7_look_449 ?_
                            refine kb_aload_n X 0 rfl dX7_look_452 ?_
                            refine kg_X7_looks X hi_X7_look_X7 hf_X7_look_87 dX7_look_453 ?_
                            refine kb_eqi (b := ((M 22 16) + 1)) (by first | rfl | exact mo_sh_r _ _ (by decide) | (rw [mo_lk_q _ _ _ _ (by decide)]; rfl) | (rw [mo_mvI_25, mo_lk_q _ _ _ _ (by decide)]; rfl) | (rw [kb_wr_other _ _ _ (by decide), mo_mvI_26, mo_lk_q _ _ _ _ (by decide)]; rfl) | (show mo_lk _ _ _ _ _ _ = _; rw [mo_lk_q _ _ _ _ (by decide)]; rfl)) ?_
                            exact kb_iret X hr hlocks dX7_look_456 (by unfold mo_lookR; rw [if_pos (by omega), if_pos (by omega), if_neg (by omega)]; unfold mo_L; first | (rw [if_pos (by omega)]; omega) | (rw [if_neg (by omega)])) (by unfold mo_lookM; rw [if_pos (by omega)]; first | (have hq6 : M 22 16 = 6 := (by omega); exact mo_lkN_A hq6 (by omega) (by omega) (by omega) (by omega) (by omega)) | exact mo_lkN_B (by omega) (by omega) (by omega) (by omega))
                          ·
                            have sc5 := hsc.2 k5 (by omega) (by omega)
                            refine kb_aload_n X 0 rfl dX7_look_352 ?_
                            refine kg_X7_px X hi_X7_look_X7 hf_X7_look_44 dX7_look_353 ?_
                            refine kb_iload X 4 rfl dX7_look_356 ?_
                            refine kb_aload_n X 0 rfl dX7_look_358 ?_
                            refine kg_X7_px X hi_X7_look_X7 hf_X7_look_44 dX7_look_359 ?_
                            refine kb_iload X 4 rfl dX7_look_362 ?_
                            refine kb_iald X 25 (n := 8) rfl ⟨by omega, by omega⟩ (by decide) dX7_look_364 ?_
                            refine kb_eqi (b := M 25 k5) (by first | rfl | exact mo_sh_r _ _ (by decide) | (rw [mo_lk_q _ _ _ _ (by decide)]; rfl) | (rw [mo_mvI_25, mo_lk_q _ _ _ _ (by decide)]; rfl) | (rw [kb_wr_other _ _ _ (by decide), mo_mvI_26, mo_lk_q _ _ _ _ (by decide)]; rfl) | (show mo_lk _ _ _ _ _ _ = _; rw [mo_lk_q _ _ _ _ (by decide)]; rfl)) ?_
                            have g19 : -2147483648 ≤ M 25 k5 ∧ M 25 k5 < 2147483648 := hM 25 k5
                            refine kb_aload_n X 0 rfl dX7_look_365 ?_
                            refine kg_X7_moveX X hi_X7_look_X7 hf_X7_look_53 dX7_look_366 ?_
                            refine kb_iload X 4 rfl dX7_look_369 ?_
                            refine kb_iald X 28 (n := 8) rfl ⟨by omega, by omega⟩ (by decide) dX7_look_371 ?_
                            refine kb_eqi (b := M 28 k5) (by first | rfl | exact mo_sh_r _ _ (by decide) | (rw [mo_lk_q _ _ _ _ (by decide)]; rfl) | (rw [mo_mvI_25, mo_lk_q _ _ _ _ (by decide)]; rfl) | (rw [kb_wr_other _ _ _ (by decide), mo_mvI_26, mo_lk_q _ _ _ _ (by decide)]; rfl) | (show mo_lk _ _ _ _ _ _ = _; rw [mo_lk_q _ _ _ _ (by decide)]; rfl)) ?_
                            have g20 : -2147483648 ≤ M 28 k5 ∧ M 28 k5 < 2147483648 := hM 28 k5
                            refine kb_iadd X dX7_look_372 ?_
                            refine kb_sipush X (by decide) dX7_look_373 ?_
                            refine kb_sipush X (by decide) dX7_look_376 ?_
                            refine kb_cSi X (rest := [kb_i k5, .ref (ad 25)]) [kb_i ((M 25 k5) + (M 28 k5)), kb_i ((-2000)), kb_i 2000] (c_X7_held l D ad cy ((mo_mvI ((mo_lk (kb_wr ((mo_cl M (M 22 16) k3)) 30 (M 22 16) t0) (M 22 16) t0 k4.toNat)) k5)) ((M 25 k5) + (M 28 k5)) ((-2000)) 2000 (by first | omega | assumption | exact ⟨by omega, by omega⟩) (by first | omega | assumption | exact ⟨by omega, by omega⟩) (by first | omega | assumption | exact ⟨by omega, by omega⟩) (by first | omega | assumption | exact ⟨by omega, by omega⟩)) gX7_look_X7_held rfl hy_X7_held ⟨by decide, by decide⟩ rfl (Nat.le_of_ble_eq_true rfl) ⟨by decide, by decide⟩ dX7_look_379 rfl ?_
                            refine kb_iast X 25 (n := 8) rfl ⟨by omega, by omega⟩ (by decide) ⟨by omega, by omega⟩ dX7_look_382 ?_
                            refine kb_aload_n X 0 rfl dX7_look_383 ?_
                            refine kg_X7_pz X hi_X7_look_X7 hf_X7_look_47 dX7_look_384 ?_
                            refine kb_iload X 4 rfl dX7_look_387 ?_
                            refine kb_aload_n X 0 rfl dX7_look_389 ?_
                            refine kg_X7_pz X hi_X7_look_X7 hf_X7_look_47 dX7_look_390 ?_
                            refine kb_iload X 4 rfl dX7_look_393 ?_
                            refine kb_iald X 26 (n := 8) rfl ⟨by omega, by omega⟩ (by decide) dX7_look_395 ?_
                            refine kb_eqi (b := M 26 k5) (by first | rfl | exact mo_sh_r _ _ (by decide) | (rw [mo_lk_q _ _ _ _ (by decide)]; rfl) | (rw [mo_mvI_25, mo_lk_q _ _ _ _ (by decide)]; rfl) | (rw [kb_wr_other _ _ _ (by decide), mo_mvI_26, mo_lk_q _ _ _ _ (by decide)]; rfl) | (show mo_lk _ _ _ _ _ _ = _; rw [mo_lk_q _ _ _ _ (by decide)]; rfl)) ?_
                            have g21 : -2147483648 ≤ M 26 k5 ∧ M 26 k5 < 2147483648 := hM 26 k5
                            refine kb_aload_n X 0 rfl dX7_look_396 ?_
                            refine kg_X7_moveZ X hi_X7_look_X7 hf_X7_look_56 dX7_look_397 ?_
                            refine kb_iload X 4 rfl dX7_look_400 ?_
                            refine kb_iald X 29 (n := 8) rfl ⟨by omega, by omega⟩ (by decide) dX7_look_402 ?_
                            refine kb_eqi (b := M 29 k5) (by first | rfl | exact mo_sh_r _ _ (by decide) | (rw [mo_lk_q _ _ _ _ (by decide)]; rfl) | (rw [mo_mvI_25, mo_lk_q _ _ _ _ (by decide)]; rfl) | (rw [kb_wr_other _ _ _ (by decide), mo_mvI_26, mo_lk_q _ _ _ _ (by decide)]; rfl) | (show mo_lk _ _ _ _ _ _ = _; rw [mo_lk_q _ _ _ _ (by decide)]; rfl)) ?_
                            have g22 : -2147483648 ≤ M 29 k5 ∧ M 29 k5 < 2147483648 := hM 29 k5
                            refine kb_iadd X dX7_look_403 ?_
                            refine kb_iconst X dX7_look_404 ?_
                            refine kb_sipush X (by decide) dX7_look_405 ?_
                            refine kb_cSi X (rest := [kb_i k5, .ref (ad 26)]) [kb_i ((M 26 k5) + (M 29 k5)), kb_i 0, kb_i 4000] (c_X7_held l D ad cy (kb_wr ((mo_mvI ((mo_lk (kb_wr ((mo_cl M (M 22 16) k3)) 30 (M 22 16) t0) (M 22 16) t0 k4.toNat)) k5)) 25 k5 (max ((-2000)) (min ((M 25 k5) + (M 28 k5)) 2000))) ((M 26 k5) + (M 29 k5)) 0 4000 (by first | omega | assumption | exact ⟨by omega, by omega⟩) (by first | omega | assumption | exact ⟨by omega, by omega⟩) (by first | omega | assumption | exact ⟨by omega, by omega⟩) (by first | omega | assumption | exact ⟨by omega, by omega⟩)) gX7_look_X7_held rfl hy_X7_held ⟨by decide, by decide⟩ rfl (Nat.le_of_ble_eq_true rfl) ⟨by decide, by decide⟩ dX7_look_408 rfl ?_
                            refine kb_iast X 26 (n := 8) rfl ⟨by omega, by omega⟩ (by decide) ⟨by omega, by omega⟩ dX7_look_411 ?_
                            refine kb_iinc (lv' := [(4, kb_i (k5 + 1)), (0, .ref (ad 22)), (1, kb_i t0), (2, kb_i (mo_al M)), (3, kb_i 6400)]) X 4 rfl dX7_look_412 rfl (by decide) rfl ?_
                            refine kb_goto (tgt := 343) X dX7_look_415 (by decide) ?_
                            refine kb_sub [1, 2, 3, 4, 0] (lv' := [(0, .ref (ad 22)), (1, kb_i t0), (2, kb_i (mo_al M)), (3, kb_i 6400), (4, kb_i (k5 + 1))]) rfl ?_
                            refine kb_eqM (M' := mo_mvI ((mo_lk (kb_wr ((mo_cl M (M 22 16) k3)) 30 (M 22 16) t0) (M 22 16) t0 k4.toNat)) (k5 + 1)) (by rw [← mo_mvI_S _ _ hI5.1, mo_lk_q _ _ _ _ (show 25 ≠ 31 by decide), mo_lk_q _ _ _ _ (show 26 ≠ 31 by decide), mo_lk_q _ _ _ _ (show 28 ≠ 31 by decide), mo_lk_q _ _ _ _ (show 29 ≠ 31 by decide)]; rfl) ?_
                            exact ih16 (k5 + 1) (by omega) (by first | omega | assumption | exact ⟨by omega, by omega⟩)
                      refine kb_sub [1, 2, 3, 4, 0] (lv' := [(0, .ref (ad 22)), (1, kb_i t0), (2, kb_i (mo_al M)), (3, kb_i 6400), (4, kb_i 0)]) rfl ?_
                      refine kb_eqM (M' := mo_mvI ((mo_lk (kb_wr ((mo_cl M (M 22 16) k3)) 30 (M 22 16) t0) (M 22 16) t0 k4.toNat)) (0 : Int)) ((mo_mvI_0 _).symm) ?_
                      exact L343 _ (0 : Int) (Nat.lt_succ_self _) (by first | omega | assumption | exact ⟨by omega, by omega⟩)
                    ·
                      have sc1 := hsc.2 k4 (by omega) (by omega)
                      have hX0 : ((mo_lk (kb_wr ((mo_cl M (M 22 16) k3)) 30 (M 22 16) t0) (M 22 16) t0 k4.toNat)) 22 0 = M 22 0 := by rw [mo_lk_q _ _ _ _ (show 22 ≠ 31 by decide)]; rfl
                      have hIPk : mo_IP ((mo_lk (kb_wr ((mo_cl M (M 22 16) k3)) 30 (M 22 16) t0) (M 22 16) t0 k4.toNat)) := mo_lk_IP _ hIP
                      have hbk0 := mo_lk_b (M := (kb_wr ((mo_cl M (M 22 16) k3)) 30 (M 22 16) t0)) (l := (M 22 16)) (t := t0) k4.toNat (by first | exact mo_cl_b hsb | exact mo_cl_b (mo_sh_b hsb)) hsc (by show ((k4.toNat : Nat) : Int) ≤ M 22 10; omega)
                      have hbk : ∀ j : Int, -20000 ≤ ((mo_lk (kb_wr ((mo_cl M (M 22 16) k3)) 30 (M 22 16) t0) (M 22 16) t0 k4.toNat)) 31 j ∧ ((mo_lk (kb_wr ((mo_cl M (M 22 16) k3)) 30 (M 22 16) t0) (M 22 16) t0 k4.toNat)) 31 j ≤ 20000 := fun j => by have := hbk0 j; omega
                      refine kb_aload_n X 0 rfl dX7_look_197 ?_
                      refine kb_iload_n X 1 rfl dX7_look_198 ?_
                      refine kb_aload_n X 0 rfl dX7_look_199 ?_
                      refine kg_X7_px X hi_X7_look_X7 hf_X7_look_44 dX7_look_200 ?_
                      refine kb_iload X 4 rfl dX7_look_203 ?_
                      refine kb_iald X 25 (n := 8) rfl ⟨by omega, by omega⟩ (by decide) dX7_look_205 ?_
                      refine kb_eqi (b := M 25 k4) (by first | rfl | exact mo_sh_r _ _ (by decide) | (rw [mo_lk_q _ _ _ _ (by decide)]; rfl) | (rw [mo_mvI_25, mo_lk_q _ _ _ _ (by decide)]; rfl) | (rw [kb_wr_other _ _ _ (by decide), mo_mvI_26, mo_lk_q _ _ _ _ (by decide)]; rfl) | (show mo_lk _ _ _ _ _ _ = _; rw [mo_lk_q _ _ _ _ (by decide)]; rfl)) ?_
                      have g23 : -2147483648 ≤ M 25 k4 ∧ M 25 k4 < 2147483648 := hM 25 k4
                      refine kb_aload_n X 0 rfl dX7_look_206 ?_
                      refine kg_X7_pz X hi_X7_look_X7 hf_X7_look_47 dX7_look_207 ?_
                      refine kb_iload X 4 rfl dX7_look_210 ?_
                      refine kb_iald X 26 (n := 8) rfl ⟨by omega, by omega⟩ (by decide) dX7_look_212 ?_
                      refine kb_eqi (b := M 26 k4) (by first | rfl | exact mo_sh_r _ _ (by decide) | (rw [mo_lk_q _ _ _ _ (by decide)]; rfl) | (rw [mo_mvI_25, mo_lk_q _ _ _ _ (by decide)]; rfl) | (rw [kb_wr_other _ _ _ (by decide), mo_mvI_26, mo_lk_q _ _ _ _ (by decide)]; rfl) | (show mo_lk _ _ _ _ _ _ = _; rw [mo_lk_q _ _ _ _ (by decide)]; rfl)) ?_
                      have g24 : -2147483648 ≤ M 26 k4 ∧ M 26 k4 < 2147483648 := hM 26 k4
                      refine kb_cVi X (rest := []) [kb_i t0, kb_i (M 25 k4), kb_i (M 26 k4)] 22 (fl := [none, some 23, some 24, none, none, none, none, none, none, none, none, some 25, some 26, some 27, some 28, some 29, none, some 30, some 31, none, some 32, some 33, some 34, some 35, none, none, none, some 36]) (C := RX7) rfl rfl (c_X7_delayOf l D ad cy ((mo_lk (kb_wr ((mo_cl M (M 22 16) k3)) 30 (M 22 16) t0) (M 22 16) t0 k4.toNat)) t0 (M 25 k4) (M 26 k4) (by rw [mo_lk_q _ _ _ _ (show 22 ≠ 31 by decide)]; show 0 ≤ t0 ∧ t0 < M 22 0; omega) (by omega) (by omega) (by exact hIPk)) gX7_look_X7_delayOf rfl ⟨rfl, hy_X7_delayOf⟩ ⟨by decide, by decide⟩ rfl (Nat.le_of_ble_eq_true rfl) ⟨by decide, by decide⟩ dX7_look_213 rfl ?_
                      have g25 : 0 ≤ (mo_dly ((mo_lk (kb_wr ((mo_cl M (M 22 16) k3)) 30 (M 22 16) t0) (M 22 16) t0 k4.toNat)) t0 (M 25 k4) (M 26 k4)) ∧ (mo_dly ((mo_lk (kb_wr ((mo_cl M (M 22 16) k3)) 30 (M 22 16) t0) (M 22 16) t0 k4.toNat)) t0 (M 25 k4) (M 26 k4)) ≤ 16001000 := by apply mo_dly_b <;> first | assumption | omega
                      refine kb_istore (lv' := [(5, kb_i (mo_dly ((mo_lk (kb_wr ((mo_cl M (M 22 16) k3)) 30 (M 22 16) t0) (M 22 16) t0 k4.toNat)) t0 (M 25 k4) (M 26 k4))), (0, .ref (ad 22)), (1, kb_i t0), (2, kb_i (mo_al M)), (3, kb_i 6400), (4, kb_i k4)]) X dX7_look_216 (by decide) rfl ?_
                      refine kb_iconst X dX7_look_218 ?_
                      refine kb_istore (lv' := [(6, kb_i 0), (5, kb_i (mo_dly ((mo_lk (kb_wr ((mo_cl M (M 22 16) k3)) 30 (M 22 16) t0) (M 22 16) t0 k4.toNat)) t0 (M 25 k4) (M 26 k4))), (0, .ref (ad 22)), (1, kb_i t0), (2, kb_i (mo_al M)), (3, kb_i 6400), (4, kb_i k4)]) X dX7_look_219 (by decide) rfl ?_
                      have L221 : ∀ nn_ : Nat, ∀ (a : Int), (16 - a).toNat < nn_ → (0 ≤ a ∧ a ≤ M 22 0) → kb_B p l e ({ frames := 2, cells := 0, slots := 0, locals := 54 } : Room) s m args below meth c D ad cy (kb_A ad s.heap.size) 8 0 0 (MQ below (va_Qi (fun (vq_ : Int32) (_ : Unit) => vq_ = kb_J (mo_lookR M t0)) (fun _ t => kb_en2 D ad cy (mo_lookM M t0) t) (kb_A ad s.heap.size)) args s 0 0 (kb_A ad s.heap.size)) 221 [(0, .ref (ad 22)), (1, kb_i t0), (2, kb_i (mo_al M)), (3, kb_i 6400), (4, kb_i k4), (5, kb_i (mo_dly ((mo_lk (kb_wr ((mo_cl M (M 22 16) k3)) 30 (M 22 16) t0) (M 22 16) t0 k4.toNat)) t0 (M 25 k4) (M 26 k4))), (6, kb_i a)] [] ((mo_hearI ((mo_lk (kb_wr ((mo_cl M (M 22 16) k3)) 30 (M 22 16) t0) (M 22 16) t0 k4.toNat)) (M 22 16) (mo_dly ((mo_lk (kb_wr ((mo_cl M (M 22 16) k3)) 30 (M 22 16) t0) (M 22 16) t0 k4.toNat)) t0 (M 25 k4) (M 26 k4)) (M 27 k4) (M 25 k4) (M 26 k4) a)) := by
                        intro nn_
                        induction nn_ with
                        | zero => intro a hn; exact absurd hn (Nat.not_lt_zero _)
                        | succ nn_ ih26 =>
                          intro a hn hI6
                          refine kb_iload X 6 rfl dX7_look_221 ?_
                          refine kb_aload_n X 0 rfl dX7_look_223 ?_
                          refine kg_X7_n X hi_X7_look_X7 hf_X7_look_19 dX7_look_224 ?_
                          refine kb_eqi (b := M 22 0) (by first | rfl | exact mo_sh_r _ _ (by decide) | (rw [mo_lk_q _ _ _ _ (by decide)]; rfl) | (rw [mo_mvI_25, mo_lk_q _ _ _ _ (by decide)]; rfl) | (rw [kb_wr_other _ _ _ (by decide), mo_mvI_26, mo_lk_q _ _ _ _ (by decide)]; rfl) | (show mo_lk _ _ _ _ _ _ = _; rw [mo_lk_q _ _ _ _ (by decide)]; rfl)) ?_
                          refine kb_icmp_ge (tgt := 334) X ⟨by omega, by omega⟩ ⟨by omega, by omega⟩ dX7_look_227 (by decide) (fun h27 => ?_) (fun h27 => ?_)
                          ·
                            refine kb_iinc (lv' := [(4, kb_i (k4 + 1)), (0, .ref (ad 22)), (1, kb_i t0), (2, kb_i (mo_al M)), (3, kb_i 6400), (5, kb_i (mo_dly ((mo_lk (kb_wr ((mo_cl M (M 22 16) k3)) 30 (M 22 16) t0) (M 22 16) t0 k4.toNat)) t0 (M 25 k4) (M 26 k4))), (6, kb_i a)]) X 4 rfl dX7_look_334 rfl (by decide) rfl ?_
                            refine kb_goto (tgt := 188) X dX7_look_337 (by decide) ?_
                            refine kb_sub [1, 2, 3, 4, 0] (lv' := [(0, .ref (ad 22)), (1, kb_i t0), (2, kb_i (mo_al M)), (3, kb_i 6400), (4, kb_i (k4 + 1))]) rfl ?_
                            refine kb_eqM (M' := mo_lk (kb_wr ((mo_cl M (M 22 16) k3)) 30 (M 22 16) t0) (M 22 16) t0 (k4 + 1).toNat) (by rw [mo_lkS _ _ _ hI4.1]; unfold mo_hear; rw [mo_lk_q _ _ _ _ (show 25 ≠ 31 by decide), mo_lk_q _ _ _ _ (show 26 ≠ 31 by decide), mo_lk_q _ _ _ _ (show 27 ≠ 31 by decide), mo_lk_q _ _ _ _ (show 22 ≠ 31 by decide), show a = M 22 0 by omega]; rfl) ?_
                            exact ih13 (k4 + 1) (by omega) (by first | omega | assumption | exact ⟨by omega, by omega⟩)
                          ·
                            refine kb_aload_n X 0 rfl dX7_look_230 ?_
                            refine kg_X7_isDead X hi_X7_look_X7 hf_X7_look_27 dX7_look_231 ?_
                            refine kb_iload X 6 rfl dX7_look_234 ?_
                            refine kb_zald X 24 (n := 16) rfl ⟨by omega, by omega⟩ (by decide) dX7_look_236 ?_
                            refine kb_eqi (b := M 24 a) (by first | rfl | exact mo_sh_r _ _ (by decide) | (rw [mo_lk_q _ _ _ _ (by decide)]; rfl) | (rw [mo_mvI_25, mo_lk_q _ _ _ _ (by decide)]; rfl) | (rw [kb_wr_other _ _ _ (by decide), mo_mvI_26, mo_lk_q _ _ _ _ (by decide)]; rfl) | (show mo_lk _ _ _ _ _ _ = _; rw [mo_lk_q _ _ _ _ (by decide)]; rfl)) ?_
                            have g28 : -2147483648 ≤ M 24 a ∧ M 24 a < 2147483648 := hM 24 a
                            refine kb_if_ne (tgt := 328) X ⟨by omega, by omega⟩ dX7_look_237 (by decide) (fun h29 => ?_) (fun h29 => ?_)
                            ·
                              refine kb_iinc (lv' := [(6, kb_i (a + 1)), (0, .ref (ad 22)), (1, kb_i t0), (2, kb_i (mo_al M)), (3, kb_i 6400), (4, kb_i k4), (5, kb_i (mo_dly ((mo_lk (kb_wr ((mo_cl M (M 22 16) k3)) 30 (M 22 16) t0) (M 22 16) t0 k4.toNat)) t0 (M 25 k4) (M 26 k4)))]) X 6 rfl dX7_look_328 rfl (by decide) rfl ?_
                              refine kb_goto (tgt := 221) X dX7_look_331 (by decide) ?_
                              refine kb_sub [1, 2, 3, 4, 5, 6, 0] (lv' := [(0, .ref (ad 22)), (1, kb_i t0), (2, kb_i (mo_al M)), (3, kb_i 6400), (4, kb_i k4), (5, kb_i (mo_dly ((mo_lk (kb_wr ((mo_cl M (M 22 16) k3)) 30 (M 22 16) t0) (M 22 16) t0 k4.toNat)) t0 (M 25 k4) (M 26 k4))), (6, kb_i (a + 1))]) rfl ?_
                              refine kb_eqM (M' := mo_hearI ((mo_lk (kb_wr ((mo_cl M (M 22 16) k3)) 30 (M 22 16) t0) (M 22 16) t0 k4.toNat)) (M 22 16) (mo_dly ((mo_lk (kb_wr ((mo_cl M (M 22 16) k3)) 30 (M 22 16) t0) (M 22 16) t0 k4.toNat)) t0 (M 25 k4) (M 26 k4)) (M 27 k4) (M 25 k4) (M 26 k4) (a + 1)) (by first | exact (mo_hearI_S _ _ _ _ _ _ _ _ (by omega) (by rw [mo_lk_q _ _ _ _ (show 24 ≠ 31 by decide)]; show M 24 a = 0; omega) (by omega)).symm | exact (mo_hearI_D _ _ _ _ _ _ _ (by omega) (by rw [mo_lk_q _ _ _ _ (show 24 ≠ 31 by decide)]; show M 24 a ≠ 0; omega)).symm) ?_
                              exact ih26 (a + 1) (by omega) (by first | omega | assumption | exact ⟨by omega, by omega⟩)
                            ·
                              refine kb_iload X 5 rfl dX7_look_240 ?_
                              refine kb_aload_n X 0 rfl dX7_look_242 ?_
                              refine kb_iload X 6 rfl dX7_look_243 ?_
                              refine kb_aload_n X 0 rfl dX7_look_245 ?_
                              refine kg_X7_px X hi_X7_look_X7 hf_X7_look_44 dX7_look_246 ?_
                              refine kb_iload X 4 rfl dX7_look_249 ?_
                              refine kb_iald X 25 (n := 8) rfl ⟨by omega, by omega⟩ (by decide) dX7_look_251 ?_
                              refine kb_eqi (b := M 25 k4) (by first | rfl | exact mo_sh_r _ _ (by decide) | (rw [mo_lk_q _ _ _ _ (by decide)]; rfl) | (rw [mo_mvI_25, mo_lk_q _ _ _ _ (by decide)]; rfl) | (rw [kb_wr_other _ _ _ (by decide), mo_mvI_26, mo_lk_q _ _ _ _ (by decide)]; rfl) | (show mo_lk _ _ _ _ _ _ = _; rw [mo_lk_q _ _ _ _ (by decide)]; rfl)) ?_
                              refine kb_aload_n X 0 rfl dX7_look_252 ?_
                              refine kg_X7_pz X hi_X7_look_X7 hf_X7_look_47 dX7_look_253 ?_
                              refine kb_iload X 4 rfl dX7_look_256 ?_
                              refine kb_iald X 26 (n := 8) rfl ⟨by omega, by omega⟩ (by decide) dX7_look_258 ?_
                              refine kb_eqi (b := M 26 k4) (by first | rfl | exact mo_sh_r _ _ (by decide) | (rw [mo_lk_q _ _ _ _ (by decide)]; rfl) | (rw [mo_mvI_25, mo_lk_q _ _ _ _ (by decide)]; rfl) | (rw [kb_wr_other _ _ _ (by decide), mo_mvI_26, mo_lk_q _ _ _ _ (by decide)]; rfl) | (show mo_lk _ _ _ _ _ _ = _; rw [mo_lk_q _ _ _ _ (by decide)]; rfl)) ?_
                              refine kb_cVi X (rest := [kb_i (mo_dly ((mo_lk (kb_wr ((mo_cl M (M 22 16) k3)) 30 (M 22 16) t0) (M 22 16) t0 k4.toNat)) t0 (M 25 k4) (M 26 k4))]) [kb_i a, kb_i (M 25 k4), kb_i (M 26 k4)] 22 (fl := [none, some 23, some 24, none, none, none, none, none, none, none, none, some 25, some 26, some 27, some 28, some 29, none, some 30, some 31, none, some 32, some 33, some 34, some 35, none, none, none, some 36]) (C := RX7) rfl rfl (c_X7_delayOf l D ad cy ((mo_hearI ((mo_lk (kb_wr ((mo_cl M (M 22 16) k3)) 30 (M 22 16) t0) (M 22 16) t0 k4.toNat)) (M 22 16) (mo_dly ((mo_lk (kb_wr ((mo_cl M (M 22 16) k3)) 30 (M 22 16) t0) (M 22 16) t0 k4.toNat)) t0 (M 25 k4) (M 26 k4)) (M 27 k4) (M 25 k4) (M 26 k4) a)) a (M 25 k4) (M 26 k4) (by show 0 ≤ a ∧ a < mo_lk _ _ _ _ 22 0; rw [mo_lk_q _ _ _ _ (show 22 ≠ 31 by decide)]; show 0 ≤ a ∧ a < M 22 0; omega) (by omega) (by omega) (by exact hIPk)) gX7_look_X7_delayOf rfl ⟨rfl, hy_X7_delayOf⟩ ⟨by decide, by decide⟩ rfl (Nat.le_of_ble_eq_true rfl) ⟨by decide, by decide⟩ dX7_look_259 rfl ?_
                              have g30 : 0 ≤ (mo_dly ((mo_lk (kb_wr ((mo_cl M (M 22 16) k3)) 30 (M 22 16) t0) (M 22 16) t0 k4.toNat)) a (M 25 k4) (M 26 k4)) ∧ (mo_dly ((mo_lk (kb_wr ((mo_cl M (M 22 16) k3)) 30 (M 22 16) t0) (M 22 16) t0 k4.toNat)) a (M 25 k4) (M 26 k4)) ≤ 16001000 := by apply mo_dly_b <;> first | assumption | omega
                              refine kb_eqi (b := mo_dly ((mo_lk (kb_wr ((mo_cl M (M 22 16) k3)) 30 (M 22 16) t0) (M 22 16) t0 k4.toNat)) a (M 25 k4) (M 26 k4)) (rfl) ?_
                              have hd5 := mo_dly_b (M := ((mo_lk (kb_wr ((mo_cl M (M 22 16) k3)) 30 (M 22 16) t0) (M 22 16) t0 k4.toNat))) (i := t0) (x := M 25 k4) (z := M 26 k4) hIPk (by rw [mo_lk_q _ _ _ _ (show 22 ≠ 31 by decide)]; show 0 ≤ t0 ∧ t0 < M 22 0; omega) (by omega) (by omega)
                              refine kb_iadd X dX7_look_262 ?_
                              refine kb_nmi (fun x7_31 ex7_31 => ?_)
                              refine kb_istore (lv' := [(7, kb_i x7_31), (0, .ref (ad 22)), (1, kb_i t0), (2, kb_i (mo_al M)), (3, kb_i 6400), (4, kb_i k4), (5, kb_i (mo_dly ((mo_lk (kb_wr ((mo_cl M (M 22 16) k3)) 30 (M 22 16) t0) (M 22 16) t0 k4.toNat)) t0 (M 25 k4) (M 26 k4))), (6, kb_i a)]) X dX7_look_263 (by decide) rfl ?_
                              have b1 := mo_hearI_b (A := ((mo_lk (kb_wr ((mo_cl M (M 22 16) k3)) 30 (M 22 16) t0) (M 22 16) t0 k4.toNat))) (l := (M 22 16)) (ds := (mo_dly ((mo_lk (kb_wr ((mo_cl M (M 22 16) k3)) 30 (M 22 16) t0) (M 22 16) t0 k4.toNat)) t0 (M 25 k4) (M 26 k4))) (t := M 27 k4) (x := M 25 k4) (z := M 26 k4) (j := a) (b := 20000) hbk sc1.2.2.1
                              have b2 := mo_ld_b (l := (M 22 16)) (i := a) (s := x7_31 - 1) (t := M 27 k4) b1 (by omega)
                              have b3 := mo_ld_b (l := (M 22 16)) (i := a) (s := x7_31) (t := 2 * M 27 k4) b2 (by omega)
                              refine kb_aload_n X 1 rfl dX7_look_265 ?_
                              refine kb_aload_n X 1 rfl dX7_look_266 ?_
                              refine kg_X7_looks X hi_X7_look_X7 hf_X7_look_87 dX7_look_267 ?_
                              refine kb_eqi (b := M 22 16) (by first | rfl | exact mo_sh_r _ _ (by decide) | (rw [mo_lk_q _ _ _ _ (by decide)]; rfl) | (rw [mo_mvI_25, mo_lk_q _ _ _ _ (by decide)]; rfl) | (rw [kb_wr_other _ _ _ (by decide), mo_mvI_26, mo_lk_q _ _ _ _ (by decide)]; rfl) | (show mo_lk _ _ _ _ _ _ = _; rw [mo_lk_q _ _ _ _ (by decide)]; rfl)) ?_
                              refine kb_iload X 7 rfl dX7_look_270 ?_
                              refine kb_iload X 0 rfl dX7_look_272 ?_
                              refine kb_iconst X dX7_look_274 ?_
                              refine kb_isub X dX7_look_275 ?_
                              refine kb_aload_n X 1 rfl dX7_look_276 ?_
                              refine kg_X7_strength X hi_X7_look_X7 hf_X7_look_50 dX7_look_277 ?_
                              refine kb_iload X 5 rfl dX7_look_280 ?_
                              refine kb_iald X 27 (n := 8) rfl ⟨by omega, by omega⟩ (by decide) dX7_look_282 ?_
                              refine kb_eqi (b := M 27 k4) (by first | rfl | exact mo_sh_r _ _ (by decide) | (rw [mo_lk_q _ _ _ _ (by decide)]; rfl) | (rw [mo_mvI_25, mo_lk_q _ _ _ _ (by decide)]; rfl) | (rw [kb_wr_other _ _ _ (by decide), mo_mvI_26, mo_lk_q _ _ _ _ (by decide)]; rfl) | (show mo_lk _ _ _ _ _ _ = _; rw [mo_lk_q _ _ _ _ (by decide)]; rfl)) ?_
                              have g32 : -2147483648 ≤ M 27 k4 ∧ M 27 k4 < 2147483648 := hM 27 k4
                              refine kb_cVv X (rest := []) [kb_i (M 22 16), kb_i a, kb_i (x7_31 - 1), kb_i (M 27 k4)] 22 (fl := [none, some 23, some 24, none, none, none, none, none, none, none, none, some 25, some 26, some 27, some 28, some 29, none, some 30, some 31, none, some 32, some 33, some 34, some 35, none, none, none, some 36]) (C := RX7) rfl rfl (c_X7_add l D ad cy ((mo_hearI ((mo_lk (kb_wr ((mo_cl M (M 22 16) k3)) 30 (M 22 16) t0) (M 22 16) t0 k4.toNat)) (M 22 16) (mo_dly ((mo_lk (kb_wr ((mo_cl M (M 22 16) k3)) 30 (M 22 16) t0) (M 22 16) t0 k4.toNat)) t0 (M 25 k4) (M 26 k4)) (M 27 k4) (M 25 k4) (M 26 k4) a)) (M 22 16) a (x7_31 - 1) (M 27 k4) (by first | omega | assumption | exact ⟨by omega, by omega⟩) (by first | omega | assumption | exact ⟨by omega, by omega⟩) (by first | omega | assumption | exact ⟨by omega, by omega⟩) (by first | omega | assumption | exact ⟨by omega, by omega⟩) (fun j => by have := b1 j; omega)) gX7_look_X7_add rfl ⟨rfl, hy_X7_add⟩ ⟨by decide, by decide⟩ rfl (Nat.le_of_ble_eq_true rfl) ⟨by decide, by decide⟩ dX7_look_283 rfl ?_
                              refine kb_aload_n X 1 rfl dX7_look_286 ?_
                              refine kb_aload_n X 1 rfl dX7_look_287 ?_
                              refine kg_X7_looks X hi_X7_look_X7 hf_X7_look_87 dX7_look_288 ?_
                              refine kb_eqi (b := M 22 16) (by first | rfl | exact mo_sh_r _ _ (by decide) | (rw [mo_lk_q _ _ _ _ (by decide)]; rfl) | (rw [mo_mvI_25, mo_lk_q _ _ _ _ (by decide)]; rfl) | (rw [kb_wr_other _ _ _ (by decide), mo_mvI_26, mo_lk_q _ _ _ _ (by decide)]; rfl) | (show mo_lk _ _ _ _ _ _ = _; rw [mo_lk_q _ _ _ _ (by decide)]; rfl)) ?_
                              refine kb_iload X 7 rfl dX7_look_291 ?_
                              refine kb_iload X 0 rfl dX7_look_293 ?_
                              refine kb_iconst X dX7_look_295 ?_
                              refine kb_aload_n X 1 rfl dX7_look_296 ?_
                              refine kg_X7_strength X hi_X7_look_X7 hf_X7_look_50 dX7_look_297 ?_
                              refine kb_iload X 5 rfl dX7_look_300 ?_
                              refine kb_iald X 27 (n := 8) rfl ⟨by omega, by omega⟩ (by decide) dX7_look_302 ?_
                              refine kb_eqi (b := M 27 k4) (by first | rfl | exact mo_sh_r _ _ (by decide) | (rw [mo_lk_q _ _ _ _ (by decide)]; rfl) | (rw [mo_mvI_25, mo_lk_q _ _ _ _ (by decide)]; rfl) | (rw [kb_wr_other _ _ _ (by decide), mo_mvI_26, mo_lk_q _ _ _ _ (by decide)]; rfl) | (show mo_lk _ _ _ _ _ _ = _; rw [mo_lk_q _ _ _ _ (by decide)]; rfl)) ?_
                              refine kb_imul X dX7_look_303 ?_
                              refine kb_cVv X (rest := []) [kb_i (M 22 16), kb_i a, kb_i x7_31, kb_i (2 * (M 27 k4))] 22 (fl := [none, some 23, some 24, none, none, none, none, none, none, none, none, some 25, some 26, some 27, some 28, some 29, none, some 30, some 31, none, some 32, some 33, some 34, some 35, none, none, none, some 36]) (C := RX7) rfl rfl (c_X7_add l D ad cy (mo_ld ((mo_hearI ((mo_lk (kb_wr ((mo_cl M (M 22 16) k3)) 30 (M 22 16) t0) (M 22 16) t0 k4.toNat)) (M 22 16) (mo_dly ((mo_lk (kb_wr ((mo_cl M (M 22 16) k3)) 30 (M 22 16) t0) (M 22 16) t0 k4.toNat)) t0 (M 25 k4) (M 26 k4)) (M 27 k4) (M 25 k4) (M 26 k4) a)) (M 22 16) a (x7_31 - 1) (M 27 k4)) (M 22 16) a x7_31 (2 * (M 27 k4)) (by first | omega | assumption | exact ⟨by omega, by omega⟩) (by first | omega | assumption | exact ⟨by omega, by omega⟩) (by first | omega | assumption | exact ⟨by omega, by omega⟩) (by first | omega | assumption | exact ⟨by omega, by omega⟩) (fun j => by have := b2 j; omega)) gX7_look_X7_add rfl ⟨rfl, hy_X7_add⟩ ⟨by decide, by decide⟩ rfl (Nat.le_of_ble_eq_true rfl) ⟨by decide, by decide⟩ dX7_look_304 rfl ?_
                              refine kb_aload_n X 1 rfl dX7_look_307 ?_
                              refine kb_aload_n X 1 rfl dX7_look_308 ?_
                              refine kg_X7_looks X hi_X7_look_X7 hf_X7_look_87 dX7_look_309 ?_
                              refine kb_eqi (b := M 22 16) (by first | rfl | exact mo_sh_r _ _ (by decide) | (rw [mo_lk_q _ _ _ _ (by decide)]; rfl) | (rw [mo_mvI_25, mo_lk_q _ _ _ _ (by decide)]; rfl) | (rw [kb_wr_other _ _ _ (by decide), mo_mvI_26, mo_lk_q _ _ _ _ (by decide)]; rfl) | (show mo_lk _ _ _ _ _ _ = _; rw [mo_lk_q _ _ _ _ (by decide)]; rfl)) ?_
                              refine kb_iload X 7 rfl dX7_look_312 ?_
                              refine kb_iload X 0 rfl dX7_look_314 ?_
                              refine kb_iconst X dX7_look_316 ?_
                              refine kb_iadd X dX7_look_317 ?_
                              refine kb_aload_n X 1 rfl dX7_look_318 ?_
                              refine kg_X7_strength X hi_X7_look_X7 hf_X7_look_50 dX7_look_319 ?_
                              refine kb_iload X 5 rfl dX7_look_322 ?_
                              refine kb_iald X 27 (n := 8) rfl ⟨by omega, by omega⟩ (by decide) dX7_look_324 ?_
                              refine kb_eqi (b := M 27 k4) (by first | rfl | exact mo_sh_r _ _ (by decide) | (rw [mo_lk_q _ _ _ _ (by decide)]; rfl) | (rw [mo_mvI_25, mo_lk_q _ _ _ _ (by decide)]; rfl) | (rw [kb_wr_other _ _ _ (by decide), mo_mvI_26, mo_lk_q _ _ _ _ (by decide)]; rfl) | (show mo_lk _ _ _ _ _ _ = _; rw [mo_lk_q _ _ _ _ (by decide)]; rfl)) ?_
                              refine kb_cVv X (rest := []) [kb_i (M 22 16), kb_i a, kb_i (x7_31 + 1), kb_i (M 27 k4)] 22 (fl := [none, some 23, some 24, none, none, none, none, none, none, none, none, some 25, some 26, some 27, some 28, some 29, none, some 30, some 31, none, some 32, some 33, some 34, some 35, none, none, none, some 36]) (C := RX7) rfl rfl (c_X7_add l D ad cy (mo_ld (mo_ld ((mo_hearI ((mo_lk (kb_wr ((mo_cl M (M 22 16) k3)) 30 (M 22 16) t0) (M 22 16) t0 k4.toNat)) (M 22 16) (mo_dly ((mo_lk (kb_wr ((mo_cl M (M 22 16) k3)) 30 (M 22 16) t0) (M 22 16) t0 k4.toNat)) t0 (M 25 k4) (M 26 k4)) (M 27 k4) (M 25 k4) (M 26 k4) a)) (M 22 16) a (x7_31 - 1) (M 27 k4)) (M 22 16) a x7_31 (2 * (M 27 k4))) (M 22 16) a (x7_31 + 1) (M 27 k4) (by first | omega | assumption | exact ⟨by omega, by omega⟩) (by first | omega | assumption | exact ⟨by omega, by omega⟩) (by first | omega | assumption | exact ⟨by omega, by omega⟩) (by first | omega | assumption | exact ⟨by omega, by omega⟩) (fun j => by have := b3 j; omega)) gX7_look_X7_add rfl ⟨rfl, hy_X7_add⟩ ⟨by decide, by decide⟩ rfl (Nat.le_of_ble_eq_true rfl) ⟨by decide, by decide⟩ dX7_look_325 rfl ?_
                              refine kb_iinc (lv' := [(6, kb_i (a + 1)), (7, kb_i x7_31), (0, .ref (ad 22)), (1, kb_i t0), (2, kb_i (mo_al M)), (3, kb_i 6400), (4, kb_i k4), (5, kb_i (mo_dly ((mo_lk (kb_wr ((mo_cl M (M 22 16) k3)) 30 (M 22 16) t0) (M 22 16) t0 k4.toNat)) t0 (M 25 k4) (M 26 k4)))]) X 7 rfl dX7_look_328 rfl (by decide) rfl ?_
                              refine kb_goto (tgt := 221) X dX7_look_331 (by decide) ?_
                              refine kb_sub [2, 3, 4, 5, 6, 7, 0] (lv' := [(0, .ref (ad 22)), (1, kb_i t0), (2, kb_i (mo_al M)), (3, kb_i 6400), (4, kb_i k4), (5, kb_i (mo_dly ((mo_lk (kb_wr ((mo_cl M (M 22 16) k3)) 30 (M 22 16) t0) (M 22 16) t0 k4.toNat)) t0 (M 25 k4) (M 26 k4))), (6, kb_i (a + 1))]) rfl ?_
                              refine kb_eqM (M' := mo_hearI ((mo_lk (kb_wr ((mo_cl M (M 22 16) k3)) 30 (M 22 16) t0) (M 22 16) t0 k4.toNat)) (M 22 16) (mo_dly ((mo_lk (kb_wr ((mo_cl M (M 22 16) k3)) 30 (M 22 16) t0) (M 22 16) t0 k4.toNat)) t0 (M 25 k4) (M 26 k4)) (M 27 k4) (M 25 k4) (M 26 k4) (a + 1)) (by first | exact (mo_hearI_S _ _ _ _ _ _ _ _ (by omega) (by rw [mo_lk_q _ _ _ _ (show 24 ≠ 31 by decide)]; show M 24 a = 0; omega) (by omega)).symm | exact (mo_hearI_D _ _ _ _ _ _ _ (by omega) (by rw [mo_lk_q _ _ _ _ (show 24 ≠ 31 by decide)]; show M 24 a ≠ 0; omega)).symm) ?_
                              exact ih26 (a + 1) (by omega) (by first | omega | assumption | exact ⟨by omega, by omega⟩)
                      refine kb_sub [2, 3, 4, 5, 6, 1, 0] (lv' := [(0, .ref (ad 22)), (1, kb_i t0), (2, kb_i (mo_al M)), (3, kb_i 6400), (4, kb_i k4), (5, kb_i (mo_dly ((mo_lk (kb_wr ((mo_cl M (M 22 16) k3)) 30 (M 22 16) t0) (M 22 16) t0 k4.toNat)) t0 (M 25 k4) (M 26 k4))), (6, kb_i 0)]) rfl ?_
                      refine kb_eqM (M' := mo_hearI ((mo_lk (kb_wr ((mo_cl M (M 22 16) k3)) 30 (M 22 16) t0) (M 22 16) t0 k4.toNat)) (M 22 16) (mo_dly ((mo_lk (kb_wr ((mo_cl M (M 22 16) k3)) 30 (M 22 16) t0) (M 22 16) t0 k4.toNat)) t0 (M 25 k4) (M 26 k4)) (M 27 k4) (M 25 k4) (M 26 k4) (0 : Int)) ((mo_hearI_0 _ _ _ _ _ _).symm) ?_
                      exact L221 _ (0 : Int) (Nat.lt_succ_self _) (by first | omega | assumption | exact ⟨by omega, by omega⟩)
                refine kb_sub [1, 2, 3, 4, 0] (lv' := [(0, .ref (ad 22)), (1, kb_i t0), (2, kb_i (mo_al M)), (3, kb_i 6400), (4, kb_i 0)]) rfl ?_
                refine kb_eqM (M' := mo_lk (kb_wr ((mo_cl M (M 22 16) k3)) 30 (M 22 16) t0) (M 22 16) t0 (0 : Int).toNat) (rfl) ?_
                exact L188 _ (0 : Int) (Nat.lt_succ_self _) (by first | omega | assumption | exact ⟨by omega, by omega⟩)
              ·
                refine kb_aload_n X 0 rfl dX7_look_154 ?_
                refine kg_X7_samples X hi_X7_look_X7 hf_X7_look_63 dX7_look_155 ?_
                refine kb_iload_n X 3 rfl dX7_look_158 ?_
                refine kb_aload_n X 0 rfl dX7_look_159 ?_
                refine kg_X7_looks X hi_X7_look_X7 hf_X7_look_87 dX7_look_160 ?_
                refine kb_eqi (b := M 22 16) (by first | rfl | exact mo_sh_r _ _ (by decide) | (rw [mo_lk_q _ _ _ _ (by decide)]; rfl) | (rw [mo_mvI_25, mo_lk_q _ _ _ _ (by decide)]; rfl) | (rw [kb_wr_other _ _ _ (by decide), mo_mvI_26, mo_lk_q _ _ _ _ (by decide)]; rfl) | (show mo_lk _ _ _ _ _ _ = _; rw [mo_lk_q _ _ _ _ (by decide)]; rfl)) ?_
                refine kb_imul X dX7_look_163 ?_
                refine kb_iload X 4 rfl dX7_look_164 ?_
                refine kb_iadd X dX7_look_166 ?_
                refine kb_iconst X dX7_look_167 ?_
                refine kb_iast X 31 (n := 38400) rfl ⟨by omega, by omega⟩ (by decide) ⟨by decide, by decide⟩ dX7_look_168 ?_
                refine kb_iinc (lv' := [(4, kb_i (k3 + 1)), (0, .ref (ad 22)), (1, kb_i t0), (2, kb_i (mo_al M)), (3, kb_i 6400)]) X 4 rfl dX7_look_169 rfl (by decide) rfl ?_
                refine kb_goto (tgt := 148) X dX7_look_172 (by decide) ?_
                refine kb_sub [1, 2, 3, 4, 0] (lv' := [(0, .ref (ad 22)), (1, kb_i t0), (2, kb_i (mo_al M)), (3, kb_i 6400), (4, kb_i (k3 + 1))]) rfl ?_
                refine kb_eqM (M' := mo_cl M (M 22 16) (k3 + 1)) ((mo_cl_S _ _ _ hI3.1).symm) ?_
                exact ih11 (k3 + 1) (by omega) (by first | omega | assumption | exact ⟨by omega, by omega⟩)
          refine kb_sub [3, 4, 2, 1, 0] (lv' := [(0, .ref (ad 22)), (1, kb_i t0), (2, kb_i (mo_al M)), (3, kb_i 6400), (4, kb_i 0)]) rfl ?_
          refine kb_eqM (M' := mo_cl M (M 22 16) (0 : Int)) ((mo_cl_0 _ _).symm) ?_
          exact L148 _ (0 : Int) (Nat.lt_succ_self _) (by first | omega | assumption | exact ⟨by omega, by omega⟩)
        ·
          refine kb_iload_n X 0 rfl dX7_look_69 ?_
          refine kb_istore (lv' := [(4, kb_i 6400), (3, kb_i 6400), (2, kb_i (mo_al M)), (0, .ref (ad 22)), (1, kb_i t0)]) X dX7_look_70 (by decide) rfl ?_
          have L72 : ∀ nn_ : Nat, ∀ (k1 : Int), (38400 - k1).toNat < nn_ → (6400 ≤ k1 ∧ k1 ≤ 38400) → kb_B p l e ({ frames := 2, cells := 0, slots := 0, locals := 54 } : Room) s m args below meth c D ad cy (kb_A ad s.heap.size) 8 0 0 (MQ below (va_Qi (fun (vq_ : Int32) (_ : Unit) => vq_ = kb_J (mo_lookR M t0)) (fun _ t => kb_en2 D ad cy (mo_lookM M t0) t) (kb_A ad s.heap.size)) args s 0 0 (kb_A ad s.heap.size)) 72 [(0, .ref (ad 22)), (1, kb_i t0), (2, kb_i (mo_al M)), (3, kb_i 6400), (4, kb_i k1)] [] ((mo_sh M 31 6400 k1)) := by
            intro nn_
            induction nn_ with
            | zero => intro k1 hn; exact absurd hn (Nat.not_lt_zero _)
            | succ nn_ ih33 =>
              intro k1 hn hI1
              refine kb_iload X 4 rfl dX7_look_72 ?_
              refine kb_bipush X (by decide) dX7_look_74 ?_
              refine kb_iload_n X 3 rfl dX7_look_76 ?_
              refine kb_imul X dX7_look_77 ?_
              refine kb_icmp_ge (tgt := 103) X ⟨by omega, by omega⟩ ⟨by omega, by omega⟩ dX7_look_78 (by decide) (fun h34 => ?_) (fun h34 => ?_)
              ·
                refine kb_iconst X dX7_look_103 ?_
                refine kb_istore (lv' := [(4, kb_i 1), (0, .ref (ad 22)), (1, kb_i t0), (2, kb_i (mo_al M)), (3, kb_i 6400)]) X dX7_look_104 (by decide) rfl ?_
                have L106 : ∀ nn_ : Nat, ∀ (k2 : Int), (6 - k2).toNat < nn_ → (1 ≤ k2 ∧ k2 ≤ 6) → kb_B p l e ({ frames := 2, cells := 0, slots := 0, locals := 54 } : Room) s m args below meth c D ad cy (kb_A ad s.heap.size) 8 0 0 (MQ below (va_Qi (fun (vq_ : Int32) (_ : Unit) => vq_ = kb_J (mo_lookR M t0)) (fun _ t => kb_en2 D ad cy (mo_lookM M t0) t) (kb_A ad s.heap.size)) args s 0 0 (kb_A ad s.heap.size)) 106 [(0, .ref (ad 22)), (1, kb_i t0), (2, kb_i (mo_al M)), (3, kb_i 6400), (4, kb_i k2)] [] ((mo_sh (mo_sh M 31 6400 k1) 30 1 k2)) := by
                  intro nn_
                  induction nn_ with
                  | zero => intro k2 hn; exact absurd hn (Nat.not_lt_zero _)
                  | succ nn_ ih35 =>
                    intro k2 hn hI2
                    refine kb_iload X 4 rfl dX7_look_106 ?_
                    refine kb_bipush X (by decide) dX7_look_108 ?_
                    refine kb_icmp_ge (tgt := 135) X ⟨by omega, by omega⟩ ⟨by decide, by decide⟩ dX7_look_110 (by decide) (fun h36 => ?_) (fun h36 => ?_)
                    ·
                      refine kb_aload_n X 0 rfl dX7_look_135 ?_
                      refine kb_dup X rfl dX7_look_136 ?_
                      refine kg_X7_looks X hi_X7_look_X7 hf_X7_look_87 dX7_look_137 ?_
                      refine kb_eqi (b := M 22 16) (by first | rfl | exact mo_sh_r _ _ (by decide) | (rw [mo_lk_q _ _ _ _ (by decide)]; rfl) | (rw [mo_mvI_25, mo_lk_q _ _ _ _ (by decide)]; rfl) | (rw [kb_wr_other _ _ _ (by decide), mo_mvI_26, mo_lk_q _ _ _ _ (by decide)]; rfl) | (show mo_lk _ _ _ _ _ _ = _; rw [mo_lk_q _ _ _ _ (by decide)]; rfl)) ?_
                      refine kb_iconst X dX7_look_140 ?_
                      refine kb_isub X dX7_look_141 ?_
                      refine kp_X7_looks X hi_X7_look_X7 hf_X7_look_87 ⟨by omega, by omega⟩ dX7_look_142 ?_
                      refine kb_iconst X dX7_look_145 ?_
                      refine kb_istore (lv' := [(4, kb_i 0), (0, .ref (ad 22)), (1, kb_i t0), (2, kb_i (mo_al M)), (3, kb_i 6400)]) X dX7_look_146 (by decide) rfl ?_
                      have L148 : ∀ nn_ : Nat, ∀ (k3 : Int), (6400 - k3).toNat < nn_ → (0 ≤ k3 ∧ k3 ≤ 6400) → kb_B p l e ({ frames := 2, cells := 0, slots := 0, locals := 54 } : Room) s m args below meth c D ad cy (kb_A ad s.heap.size) 8 0 0 (MQ below (va_Qi (fun (vq_ : Int32) (_ : Unit) => vq_ = kb_J (mo_lookR M t0)) (fun _ t => kb_en2 D ad cy (mo_lookM M t0) t) (kb_A ad s.heap.size)) args s 0 0 (kb_A ad s.heap.size)) 148 [(0, .ref (ad 22)), (1, kb_i t0), (2, kb_i (mo_al M)), (3, kb_i 6400), (4, kb_i k3)] [] ((mo_cl (kb_wr ((mo_sh (mo_sh M 31 6400 k1) 30 1 k2)) 22 16 ((M 22 16) - 1)) (((M 22 16) - 1)) k3)) := by
                        intro nn_
                        induction nn_ with
                        | zero => intro k3 hn; exact absurd hn (Nat.not_lt_zero _)
                        | succ nn_ ih37 =>
                          intro k3 hn hI3
                          refine kb_iload X 4 rfl dX7_look_148 ?_
                          refine kb_iload_n X 3 rfl dX7_look_150 ?_
                          refine kb_icmp_ge (tgt := 175) X ⟨by omega, by omega⟩ ⟨by decide, by decide⟩ dX7_look_151 (by decide) (fun h38 => ?_) (fun h38 => ?_)
                          ·
                            refine kb_aload_n X 0 rfl dX7_look_175 ?_
                            refine kg_X7_senders X hi_X7_look_X7 hf_X7_look_59 dX7_look_176 ?_
                            refine kb_aload_n X 0 rfl dX7_look_179 ?_
                            refine kg_X7_looks X hi_X7_look_X7 hf_X7_look_87 dX7_look_180 ?_
                            refine kb_eqi (b := ((M 22 16) - 1)) (by first | rfl | exact mo_sh_r _ _ (by decide) | (rw [mo_lk_q _ _ _ _ (by decide)]; rfl) | (rw [mo_mvI_25, mo_lk_q _ _ _ _ (by decide)]; rfl) | (rw [kb_wr_other _ _ _ (by decide), mo_mvI_26, mo_lk_q _ _ _ _ (by decide)]; rfl) | (show mo_lk _ _ _ _ _ _ = _; rw [mo_lk_q _ _ _ _ (by decide)]; rfl)) ?_
                            refine kb_iload_n X 1 rfl dX7_look_183 ?_
                            refine kb_iast X 30 (n := 6) rfl ⟨by omega, by omega⟩ (by decide) ⟨by omega, by omega⟩ dX7_look_184 ?_
                            refine kb_iconst X dX7_look_185 ?_
                            refine kb_istore (lv' := [(4, kb_i 0), (0, .ref (ad 22)), (1, kb_i t0), (2, kb_i (mo_al M)), (3, kb_i 6400)]) X dX7_look_186 (by decide) rfl ?_
                            have L188 : ∀ nn_ : Nat, ∀ (k4 : Int), (8 - k4).toNat < nn_ → (0 ≤ k4 ∧ k4 ≤ M 22 10) → kb_B p l e ({ frames := 2, cells := 0, slots := 0, locals := 54 } : Room) s m args below meth c D ad cy (kb_A ad s.heap.size) 8 0 0 (MQ below (va_Qi (fun (vq_ : Int32) (_ : Unit) => vq_ = kb_J (mo_lookR M t0)) (fun _ t => kb_en2 D ad cy (mo_lookM M t0) t) (kb_A ad s.heap.size)) args s 0 0 (kb_A ad s.heap.size)) 188 [(0, .ref (ad 22)), (1, kb_i t0), (2, kb_i (mo_al M)), (3, kb_i 6400), (4, kb_i k4)] [] ((mo_lk (kb_wr ((mo_cl (kb_wr ((mo_sh (mo_sh M 31 6400 k1) 30 1 k2)) 22 16 ((M 22 16) - 1)) (((M 22 16) - 1)) k3)) 30 (((M 22 16) - 1)) t0) (((M 22 16) - 1)) t0 k4.toNat)) := by
                              intro nn_
                              induction nn_ with
                              | zero => intro k4 hn; exact absurd hn (Nat.not_lt_zero _)
                              | succ nn_ ih39 =>
                                intro k4 hn hI4
                                refine kb_iload X 4 rfl dX7_look_188 ?_
                                refine kb_aload_n X 0 rfl dX7_look_190 ?_
                                refine kg_X7_points X hi_X7_look_X7 hf_X7_look_124 dX7_look_191 ?_
                                refine kb_eqi (b := M 22 10) (by first | rfl | exact mo_sh_r _ _ (by decide) | (rw [mo_lk_q _ _ _ _ (by decide)]; rfl) | (rw [mo_mvI_25, mo_lk_q _ _ _ _ (by decide)]; rfl) | (rw [kb_wr_other _ _ _ (by decide), mo_mvI_26, mo_lk_q _ _ _ _ (by decide)]; rfl) | (show mo_lk _ _ _ _ _ _ = _; rw [mo_lk_q _ _ _ _ (by decide)]; rfl)) ?_
                                have g40 : -2147483648 ≤ M 22 10 ∧ M 22 10 < 2147483648 := hM 22 10
                                refine kb_icmp_ge (tgt := 340) X ⟨by omega, by omega⟩ ⟨by omega, by omega⟩ dX7_look_194 (by decide) (fun h41 => ?_) (fun h41 => ?_)
                                ·
                                  refine kb_iconst X dX7_look_340 ?_
                                  refine kb_istore (lv' := [(4, kb_i 0), (0, .ref (ad 22)), (1, kb_i t0), (2, kb_i (mo_al M)), (3, kb_i 6400)]) X dX7_look_341 (by decide) rfl ?_
                                  have L343 : ∀ nn_ : Nat, ∀ (k5 : Int), (8 - k5).toNat < nn_ → (0 ≤ k5 ∧ k5 ≤ M 22 10) → kb_B p l e ({ frames := 2, cells := 0, slots := 0, locals := 54 } : Room) s m args below meth c D ad cy (kb_A ad s.heap.size) 8 0 0 (MQ below (va_Qi (fun (vq_ : Int32) (_ : Unit) => vq_ = kb_J (mo_lookR M t0)) (fun _ t => kb_en2 D ad cy (mo_lookM M t0) t) (kb_A ad s.heap.size)) args s 0 0 (kb_A ad s.heap.size)) 343 [(0, .ref (ad 22)), (1, kb_i t0), (2, kb_i (mo_al M)), (3, kb_i 6400), (4, kb_i k5)] [] ((mo_mvI ((mo_lk (kb_wr ((mo_cl (kb_wr ((mo_sh (mo_sh M 31 6400 k1) 30 1 k2)) 22 16 ((M 22 16) - 1)) (((M 22 16) - 1)) k3)) 30 (((M 22 16) - 1)) t0) (((M 22 16) - 1)) t0 k4.toNat)) k5)) := by
                                    intro nn_
                                    induction nn_ with
                                    | zero => intro k5 hn; exact absurd hn (Nat.not_lt_zero _)
                                    | succ nn_ ih42 =>
                                      intro k5 hn hI5
                                      refine kb_iload X 4 rfl dX7_look_343 ?_
                                      refine kb_aload_n X 0 rfl dX7_look_345 ?_
                                      refine kg_X7_points X hi_X7_look_X7 hf_X7_look_124 dX7_look_346 ?_
                                      refine kb_eqi (b := M 22 10) (by first | rfl | exact mo_sh_r _ _ (by decide) | (rw [mo_lk_q _ _ _ _ (by decide)]; rfl) | (rw [mo_mvI_25, mo_lk_q _ _ _ _ (by decide)]; rfl) | (rw [kb_wr_other _ _ _ (by decide), mo_mvI_26, mo_lk_q _ _ _ _ (by decide)]; rfl) | (show mo_lk _ _ _ _ _ _ = _; rw [mo_lk_q _ _ _ _ (by decide)]; rfl)) ?_
                                      refine kb_icmp_ge (tgt := 418) X ⟨by omega, by omega⟩ ⟨by omega, by omega⟩ dX7_look_349 (by decide) (fun h43 => ?_) (fun h43 => ?_)
                                      ·
                                        refine kb_aload_n X 0 rfl dX7_look_418 ?_
                                        refine kb_dup X rfl dX7_look_419 ?_
                                        refine kg_X7_heat X hi_X7_look_X7 hf_X7_look_93 dX7_look_420 ?_
                                        refine kb_eqi (b := M 22 8) (by first | rfl | exact mo_sh_r _ _ (by decide) | (rw [mo_lk_q _ _ _ _ (by decide)]; rfl) | (rw [mo_mvI_25, mo_lk_q _ _ _ _ (by decide)]; rfl) | (rw [kb_wr_other _ _ _ (by decide), mo_mvI_26, mo_lk_q _ _ _ _ (by decide)]; rfl) | (show mo_lk _ _ _ _ _ _ = _; rw [mo_lk_q _ _ _ _ (by decide)]; rfl)) ?_
                                        refine kb_iload_n X 2 rfl dX7_look_423 ?_
                                        refine kb_iload_n X 2 rfl dX7_look_424 ?_
                                        refine kb_imul X dX7_look_425 ?_
                                        refine kb_iload_n X 2 rfl dX7_look_426 ?_
                                        refine kb_imul X dX7_look_427 ?_
                                        refine kb_iadd X dX7_look_428 ?_
                                        refine kp_X7_heat X hi_X7_look_X7 hf_X7_look_93 ⟨by omega, by omega⟩ dX7_look_429 ?_
                                        refine kb_aload_n X 0 rfl dX7_look_432 ?_
                                        refine kb_dup X rfl dX7_look_433 ?_
                                        refine kg_X7_ever X hi_X7_look_X7 hf_X7_look_136 dX7_look_434 ?_
                                        refine kb_eqi (b := M 22 9) (by first | rfl | exact mo_sh_r _ _ (by decide) | (rw [mo_lk_q _ _ _ _ (by decide)]; rfl) | (rw [mo_mvI_25, mo_lk_q _ _ _ _ (by decide)]; rfl) | (rw [kb_wr_other _ _ _ (by decide), mo_mvI_26, mo_lk_q _ _ _ _ (by decide)]; rfl) | (show mo_lk _ _ _ _ _ _ = _; rw [mo_lk_q _ _ _ _ (by decide)]; rfl)) ?_
                                        have g44 : -2147483648 ≤ M 22 9 ∧ M 22 9 < 2147483648 := hM 22 9
                                        refine kb_iconst X dX7_look_437 ?_
                                        refine kb_iadd X dX7_look_438 ?_
                                        refine kp_X7_ever X hi_X7_look_X7 hf_X7_look_136 ⟨by omega, by omega⟩ dX7_look_439 ?_
                                        refine kb_aload_n X 0 rfl dX7_look_442 ?_
                                        refine kb_dup X rfl dX7_look_443 ?_
                                        refine kg_X7_looks X hi_X7_look_X7 hf_X7_look_87 dX7_look_444 ?_
                                        refine kb_eqi (b := ((M 22 16) - 1)) (by first | rfl | exact mo_sh_r _ _ (by decide) | (rw [mo_lk_q _ _ _ _ (by decide)]; rfl) | (rw [mo_mvI_25, mo_lk_q _ _ _ _ (by decide)]; rfl) | (rw [kb_wr_other _ _ _ (by decide), mo_mvI_26, mo_lk_q _ _ _ _ (by decide)]; rfl) | (show mo_lk _ _ _ _ _ _ = _; rw [mo_lk_q _ _ _ _ (by decide)]; rfl)) ?_
                                        refine kb_iconst X dX7_look_447 ?_
                                        refine kb_iadd X dX7_look_448 ?_
                                        refine kp_X7_looks X hi_X7_look_X7 hf_X7_look_87 ⟨by omega, by omega⟩ dX7_look_449 ?_
                                        refine kb_aload_n X 0 rfl dX7_look_452 ?_
                                        refine kg_X7_looks X hi_X7_look_X7 hf_X7_look_87 dX7_look_453 ?_
                                        refine kb_eqi (b := ((((M 22 16) - 1)) + 1)) (by first | rfl | exact mo_sh_r _ _ (by decide) | (rw [mo_lk_q _ _ _ _ (by decide)]; rfl) | (rw [mo_mvI_25, mo_lk_q _ _ _ _ (by decide)]; rfl) | (rw [kb_wr_other _ _ _ (by decide), mo_mvI_26, mo_lk_q _ _ _ _ (by decide)]; rfl) | (show mo_lk _ _ _ _ _ _ = _; rw [mo_lk_q _ _ _ _ (by decide)]; rfl)) ?_
                                        exact kb_iret X hr hlocks dX7_look_456 (by unfold mo_lookR; rw [if_pos (by omega), if_pos (by omega), if_neg (by omega)]; unfold mo_L; first | (rw [if_pos (by omega)]; omega) | (rw [if_neg (by omega)])) (by unfold mo_lookM; rw [if_pos (by omega)]; first | (have hq6 : M 22 16 = 6 := (by omega); exact mo_lkN_A hq6 (by omega) (by omega) (by omega) (by omega) (by omega)) | exact mo_lkN_B (by omega) (by omega) (by omega) (by omega))
                                      ·
                                        have sc5 := hsc.2 k5 (by omega) (by omega)
                                        refine kb_aload_n X 0 rfl dX7_look_352 ?_
                                        refine kg_X7_px X hi_X7_look_X7 hf_X7_look_44 dX7_look_353 ?_
                                        refine kb_iload X 4 rfl dX7_look_356 ?_
                                        refine kb_aload_n X 0 rfl dX7_look_358 ?_
                                        refine kg_X7_px X hi_X7_look_X7 hf_X7_look_44 dX7_look_359 ?_
                                        refine kb_iload X 4 rfl dX7_look_362 ?_
                                        refine kb_iald X 25 (n := 8) rfl ⟨by omega, by omega⟩ (by decide) dX7_look_364 ?_
                                        refine kb_eqi (b := M 25 k5) (by first | rfl | exact mo_sh_r _ _ (by decide) | (rw [mo_lk_q _ _ _ _ (by decide)]; rfl) | (rw [mo_mvI_25, mo_lk_q _ _ _ _ (by decide)]; rfl) | (rw [kb_wr_other _ _ _ (by decide), mo_mvI_26, mo_lk_q _ _ _ _ (by decide)]; rfl) | (show mo_lk _ _ _ _ _ _ = _; rw [mo_lk_q _ _ _ _ (by decide)]; rfl)) ?_
                                        have g45 : -2147483648 ≤ M 25 k5 ∧ M 25 k5 < 2147483648 := hM 25 k5
                                        refine kb_aload_n X 0 rfl dX7_look_365 ?_
                                        refine kg_X7_moveX X hi_X7_look_X7 hf_X7_look_53 dX7_look_366 ?_
                                        refine kb_iload X 4 rfl dX7_look_369 ?_
                                        refine kb_iald X 28 (n := 8) rfl ⟨by omega, by omega⟩ (by decide) dX7_look_371 ?_
                                        refine kb_eqi (b := M 28 k5) (by first | rfl | exact mo_sh_r _ _ (by decide) | (rw [mo_lk_q _ _ _ _ (by decide)]; rfl) | (rw [mo_mvI_25, mo_lk_q _ _ _ _ (by decide)]; rfl) | (rw [kb_wr_other _ _ _ (by decide), mo_mvI_26, mo_lk_q _ _ _ _ (by decide)]; rfl) | (show mo_lk _ _ _ _ _ _ = _; rw [mo_lk_q _ _ _ _ (by decide)]; rfl)) ?_
                                        have g46 : -2147483648 ≤ M 28 k5 ∧ M 28 k5 < 2147483648 := hM 28 k5
                                        refine kb_iadd X dX7_look_372 ?_
                                        refine kb_sipush X (by decide) dX7_look_373 ?_
                                        refine kb_sipush X (by decide) dX7_look_376 ?_
                                        refine kb_cSi X (rest := [kb_i k5, .ref (ad 25)]) [kb_i ((M 25 k5) + (M 28 k5)), kb_i ((-2000)), kb_i 2000] (c_X7_held l D ad cy ((mo_mvI ((mo_lk (kb_wr ((mo_cl (kb_wr ((mo_sh (mo_sh M 31 6400 k1) 30 1 k2)) 22 16 ((M 22 16) - 1)) (((M 22 16) - 1)) k3)) 30 (((M 22 16) - 1)) t0) (((M 22 16) - 1)) t0 k4.toNat)) k5)) ((M 25 k5) + (M 28 k5)) ((-2000)) 2000 (by first | omega | assumption | exact ⟨by omega, by omega⟩) (by first | omega | assumption | exact ⟨by omega, by omega⟩) (by first | omega | assumption | exact ⟨by omega, by omega⟩) (by first | omega | assumption | exact ⟨by omega, by omega⟩)) gX7_look_X7_held rfl hy_X7_held ⟨by decide, by decide⟩ rfl (Nat.le_of_ble_eq_true rfl) ⟨by decide, by decide⟩ dX7_look_379 rfl ?_
                                        refine kb_iast X 25 (n := 8) rfl ⟨by omega, by omega⟩ (by decide) ⟨by omega, by omega⟩ dX7_look_382 ?_
                                        refine kb_aload_n X 0 rfl dX7_look_383 ?_
                                        refine kg_X7_pz X hi_X7_look_X7 hf_X7_look_47 dX7_look_384 ?_
                                        refine kb_iload X 4 rfl dX7_look_387 ?_
                                        refine kb_aload_n X 0 rfl dX7_look_389 ?_
                                        refine kg_X7_pz X hi_X7_look_X7 hf_X7_look_47 dX7_look_390 ?_
                                        refine kb_iload X 4 rfl dX7_look_393 ?_
                                        refine kb_iald X 26 (n := 8) rfl ⟨by omega, by omega⟩ (by decide) dX7_look_395 ?_
                                        refine kb_eqi (b := M 26 k5) (by first | rfl | exact mo_sh_r _ _ (by decide) | (rw [mo_lk_q _ _ _ _ (by decide)]; rfl) | (rw [mo_mvI_25, mo_lk_q _ _ _ _ (by decide)]; rfl) | (rw [kb_wr_other _ _ _ (by decide), mo_mvI_26, mo_lk_q _ _ _ _ (by decide)]; rfl) | (show mo_lk _ _ _ _ _ _ = _; rw [mo_lk_q _ _ _ _ (by decide)]; rfl)) ?_
                                        have g47 : -2147483648 ≤ M 26 k5 ∧ M 26 k5 < 2147483648 := hM 26 k5
                                        refine kb_aload_n X 0 rfl dX7_look_396 ?_
                                        refine kg_X7_moveZ X hi_X7_look_X7 hf_X7_look_56 dX7_look_397 ?_
                                        refine kb_iload X 4 rfl dX7_look_400 ?_
                                        refine kb_iald X 29 (n := 8) rfl ⟨by omega, by omega⟩ (by decide) dX7_look_402 ?_
                                        refine kb_eqi (b := M 29 k5) (by first | rfl | exact mo_sh_r _ _ (by decide) | (rw [mo_lk_q _ _ _ _ (by decide)]; rfl) | (rw [mo_mvI_25, mo_lk_q _ _ _ _ (by decide)]; rfl) | (rw [kb_wr_other _ _ _ (by decide), mo_mvI_26, mo_lk_q _ _ _ _ (by decide)]; rfl) | (show mo_lk _ _ _ _ _ _ = _; rw [mo_lk_q _ _ _ _ (by decide)]; rfl)) ?_
                                        have g48 : -2147483648 ≤ M 29 k5 ∧ M 29 k5 < 2147483648 := hM 29 k5
                                        refine kb_iadd X dX7_look_403 ?_
                                        refine kb_iconst X dX7_look_404 ?_
                                        refine kb_sipush X (by decide) dX7_look_405 ?_
                                        refine kb_cSi X (rest := [kb_i k5, .ref (ad 26)]) [kb_i ((M 26 k5) + (M 29 k5)), kb_i 0, kb_i 4000] (c_X7_held l D ad cy (kb_wr ((mo_mvI ((mo_lk (kb_wr ((mo_cl (kb_wr ((mo_sh (mo_sh M 31 6400 k1) 30 1 k2)) 22 16 ((M 22 16) - 1)) (((M 22 16) - 1)) k3)) 30 (((M 22 16) - 1)) t0) (((M 22 16) - 1)) t0 k4.toNat)) k5)) 25 k5 (max ((-2000)) (min ((M 25 k5) + (M 28 k5)) 2000))) ((M 26 k5) + (M 29 k5)) 0 4000 (by first | omega | assumption | exact ⟨by omega, by omega⟩) (by first | omega | assumption | exact ⟨by omega, by omega⟩) (by first | omega | assumption | exact ⟨by omega, by omega⟩) (by first | omega | assumption | exact ⟨by omega, by omega⟩)) gX7_look_X7_held rfl hy_X7_held ⟨by decide, by decide⟩ rfl (Nat.le_of_ble_eq_true rfl) ⟨by decide, by decide⟩ dX7_look_408 rfl ?_
                                        refine kb_iast X 26 (n := 8) rfl ⟨by omega, by omega⟩ (by decide) ⟨by omega, by omega⟩ dX7_look_411 ?_
                                        refine kb_iinc (lv' := [(4, kb_i (k5 + 1)), (0, .ref (ad 22)), (1, kb_i t0), (2, kb_i (mo_al M)), (3, kb_i 6400)]) X 4 rfl dX7_look_412 rfl (by decide) rfl ?_
                                        refine kb_goto (tgt := 343) X dX7_look_415 (by decide) ?_
                                        refine kb_sub [1, 2, 3, 4, 0] (lv' := [(0, .ref (ad 22)), (1, kb_i t0), (2, kb_i (mo_al M)), (3, kb_i 6400), (4, kb_i (k5 + 1))]) rfl ?_
                                        refine kb_eqM (M' := mo_mvI ((mo_lk (kb_wr ((mo_cl (kb_wr ((mo_sh (mo_sh M 31 6400 k1) 30 1 k2)) 22 16 ((M 22 16) - 1)) (((M 22 16) - 1)) k3)) 30 (((M 22 16) - 1)) t0) (((M 22 16) - 1)) t0 k4.toNat)) (k5 + 1)) (by rw [← mo_mvI_S _ _ hI5.1, mo_lk_q _ _ _ _ (show 25 ≠ 31 by decide), mo_lk_q _ _ _ _ (show 26 ≠ 31 by decide), mo_lk_q _ _ _ _ (show 28 ≠ 31 by decide), mo_lk_q _ _ _ _ (show 29 ≠ 31 by decide)]; rfl) ?_
                                        exact ih42 (k5 + 1) (by omega) (by first | omega | assumption | exact ⟨by omega, by omega⟩)
                                  refine kb_sub [1, 2, 3, 4, 0] (lv' := [(0, .ref (ad 22)), (1, kb_i t0), (2, kb_i (mo_al M)), (3, kb_i 6400), (4, kb_i 0)]) rfl ?_
                                  refine kb_eqM (M' := mo_mvI ((mo_lk (kb_wr ((mo_cl (kb_wr ((mo_sh (mo_sh M 31 6400 k1) 30 1 k2)) 22 16 ((M 22 16) - 1)) (((M 22 16) - 1)) k3)) 30 (((M 22 16) - 1)) t0) (((M 22 16) - 1)) t0 k4.toNat)) (0 : Int)) ((mo_mvI_0 _).symm) ?_
                                  exact L343 _ (0 : Int) (Nat.lt_succ_self _) (by first | omega | assumption | exact ⟨by omega, by omega⟩)
                                ·
                                  have sc1 := hsc.2 k4 (by omega) (by omega)
                                  have hX0 : ((mo_lk (kb_wr ((mo_cl (kb_wr ((mo_sh (mo_sh M 31 6400 k1) 30 1 k2)) 22 16 ((M 22 16) - 1)) (((M 22 16) - 1)) k3)) 30 (((M 22 16) - 1)) t0) (((M 22 16) - 1)) t0 k4.toNat)) 22 0 = M 22 0 := by rw [mo_lk_q _ _ _ _ (show 22 ≠ 31 by decide)]; rfl
                                  have hIPk : mo_IP ((mo_lk (kb_wr ((mo_cl (kb_wr ((mo_sh (mo_sh M 31 6400 k1) 30 1 k2)) 22 16 ((M 22 16) - 1)) (((M 22 16) - 1)) k3)) 30 (((M 22 16) - 1)) t0) (((M 22 16) - 1)) t0 k4.toNat)) := mo_lk_IP _ hIP
                                  have hbk0 := mo_lk_b (M := (kb_wr ((mo_cl (kb_wr ((mo_sh (mo_sh M 31 6400 k1) 30 1 k2)) 22 16 ((M 22 16) - 1)) (((M 22 16) - 1)) k3)) 30 (((M 22 16) - 1)) t0)) (l := (((M 22 16) - 1))) (t := t0) k4.toNat (by first | exact mo_cl_b hsb | exact mo_cl_b (mo_sh_b hsb)) hsc (by show ((k4.toNat : Nat) : Int) ≤ M 22 10; omega)
                                  have hbk : ∀ j : Int, -20000 ≤ ((mo_lk (kb_wr ((mo_cl (kb_wr ((mo_sh (mo_sh M 31 6400 k1) 30 1 k2)) 22 16 ((M 22 16) - 1)) (((M 22 16) - 1)) k3)) 30 (((M 22 16) - 1)) t0) (((M 22 16) - 1)) t0 k4.toNat)) 31 j ∧ ((mo_lk (kb_wr ((mo_cl (kb_wr ((mo_sh (mo_sh M 31 6400 k1) 30 1 k2)) 22 16 ((M 22 16) - 1)) (((M 22 16) - 1)) k3)) 30 (((M 22 16) - 1)) t0) (((M 22 16) - 1)) t0 k4.toNat)) 31 j ≤ 20000 := fun j => by have := hbk0 j; omega
                                  refine kb_aload_n X 0 rfl dX7_look_197 ?_
                                  refine kb_iload_n X 1 rfl dX7_look_198 ?_
                                  refine kb_aload_n X 0 rfl dX7_look_199 ?_
                                  refine kg_X7_px X hi_X7_look_X7 hf_X7_look_44 dX7_look_200 ?_
                                  refine kb_iload X 4 rfl dX7_look_203 ?_
                                  refine kb_iald X 25 (n := 8) rfl ⟨by omega, by omega⟩ (by decide) dX7_look_205 ?_
                                  refine kb_eqi (b := M 25 k4) (by first | rfl | exact mo_sh_r _ _ (by decide) | (rw [mo_lk_q _ _ _ _ (by decide)]; rfl) | (rw [mo_mvI_25, mo_lk_q _ _ _ _ (by decide)]; rfl) | (rw [kb_wr_other _ _ _ (by decide), mo_mvI_26, mo_lk_q _ _ _ _ (by decide)]; rfl) | (show mo_lk _ _ _ _ _ _ = _; rw [mo_lk_q _ _ _ _ (by decide)]; rfl)) ?_
                                  have g49 : -2147483648 ≤ M 25 k4 ∧ M 25 k4 < 2147483648 := hM 25 k4
                                  refine kb_aload_n X 0 rfl dX7_look_206 ?_
                                  refine kg_X7_pz X hi_X7_look_X7 hf_X7_look_47 dX7_look_207 ?_
                                  refine kb_iload X 4 rfl dX7_look_210 ?_
                                  refine kb_iald X 26 (n := 8) rfl ⟨by omega, by omega⟩ (by decide) dX7_look_212 ?_
                                  refine kb_eqi (b := M 26 k4) (by first | rfl | exact mo_sh_r _ _ (by decide) | (rw [mo_lk_q _ _ _ _ (by decide)]; rfl) | (rw [mo_mvI_25, mo_lk_q _ _ _ _ (by decide)]; rfl) | (rw [kb_wr_other _ _ _ (by decide), mo_mvI_26, mo_lk_q _ _ _ _ (by decide)]; rfl) | (show mo_lk _ _ _ _ _ _ = _; rw [mo_lk_q _ _ _ _ (by decide)]; rfl)) ?_
                                  have g50 : -2147483648 ≤ M 26 k4 ∧ M 26 k4 < 2147483648 := hM 26 k4
                                  refine kb_cVi X (rest := []) [kb_i t0, kb_i (M 25 k4), kb_i (M 26 k4)] 22 (fl := [none, some 23, some 24, none, none, none, none, none, none, none, none, some 25, some 26, some 27, some 28, some 29, none, some 30, some 31, none, some 32, some 33, some 34, some 35, none, none, none, some 36]) (C := RX7) rfl rfl (c_X7_delayOf l D ad cy ((mo_lk (kb_wr ((mo_cl (kb_wr ((mo_sh (mo_sh M 31 6400 k1) 30 1 k2)) 22 16 ((M 22 16) - 1)) (((M 22 16) - 1)) k3)) 30 (((M 22 16) - 1)) t0) (((M 22 16) - 1)) t0 k4.toNat)) t0 (M 25 k4) (M 26 k4) (by rw [mo_lk_q _ _ _ _ (show 22 ≠ 31 by decide)]; show 0 ≤ t0 ∧ t0 < M 22 0; omega) (by omega) (by omega) (by exact hIPk)) gX7_look_X7_delayOf rfl ⟨rfl, hy_X7_delayOf⟩ ⟨by decide, by decide⟩ rfl (Nat.le_of_ble_eq_true rfl) ⟨by decide, by decide⟩ dX7_look_213 rfl ?_
                                  have g51 : 0 ≤ (mo_dly ((mo_lk (kb_wr ((mo_cl (kb_wr ((mo_sh (mo_sh M 31 6400 k1) 30 1 k2)) 22 16 ((M 22 16) - 1)) (((M 22 16) - 1)) k3)) 30 (((M 22 16) - 1)) t0) (((M 22 16) - 1)) t0 k4.toNat)) t0 (M 25 k4) (M 26 k4)) ∧ (mo_dly ((mo_lk (kb_wr ((mo_cl (kb_wr ((mo_sh (mo_sh M 31 6400 k1) 30 1 k2)) 22 16 ((M 22 16) - 1)) (((M 22 16) - 1)) k3)) 30 (((M 22 16) - 1)) t0) (((M 22 16) - 1)) t0 k4.toNat)) t0 (M 25 k4) (M 26 k4)) ≤ 16001000 := by apply mo_dly_b <;> first | assumption | omega
                                  refine kb_istore (lv' := [(5, kb_i (mo_dly ((mo_lk (kb_wr ((mo_cl (kb_wr ((mo_sh (mo_sh M 31 6400 k1) 30 1 k2)) 22 16 ((M 22 16) - 1)) (((M 22 16) - 1)) k3)) 30 (((M 22 16) - 1)) t0) (((M 22 16) - 1)) t0 k4.toNat)) t0 (M 25 k4) (M 26 k4))), (0, .ref (ad 22)), (1, kb_i t0), (2, kb_i (mo_al M)), (3, kb_i 6400), (4, kb_i k4)]) X dX7_look_216 (by decide) rfl ?_
                                  refine kb_iconst X dX7_look_218 ?_
                                  refine kb_istore (lv' := [(6, kb_i 0), (5, kb_i (mo_dly ((mo_lk (kb_wr ((mo_cl (kb_wr ((mo_sh (mo_sh M 31 6400 k1) 30 1 k2)) 22 16 ((M 22 16) - 1)) (((M 22 16) - 1)) k3)) 30 (((M 22 16) - 1)) t0) (((M 22 16) - 1)) t0 k4.toNat)) t0 (M 25 k4) (M 26 k4))), (0, .ref (ad 22)), (1, kb_i t0), (2, kb_i (mo_al M)), (3, kb_i 6400), (4, kb_i k4)]) X dX7_look_219 (by decide) rfl ?_
                                  have L221 : ∀ nn_ : Nat, ∀ (a : Int), (16 - a).toNat < nn_ → (0 ≤ a ∧ a ≤ M 22 0) → kb_B p l e ({ frames := 2, cells := 0, slots := 0, locals := 54 } : Room) s m args below meth c D ad cy (kb_A ad s.heap.size) 8 0 0 (MQ below (va_Qi (fun (vq_ : Int32) (_ : Unit) => vq_ = kb_J (mo_lookR M t0)) (fun _ t => kb_en2 D ad cy (mo_lookM M t0) t) (kb_A ad s.heap.size)) args s 0 0 (kb_A ad s.heap.size)) 221 [(0, .ref (ad 22)), (1, kb_i t0), (2, kb_i (mo_al M)), (3, kb_i 6400), (4, kb_i k4), (5, kb_i (mo_dly ((mo_lk (kb_wr ((mo_cl (kb_wr ((mo_sh (mo_sh M 31 6400 k1) 30 1 k2)) 22 16 ((M 22 16) - 1)) (((M 22 16) - 1)) k3)) 30 (((M 22 16) - 1)) t0) (((M 22 16) - 1)) t0 k4.toNat)) t0 (M 25 k4) (M 26 k4))), (6, kb_i a)] [] ((mo_hearI ((mo_lk (kb_wr ((mo_cl (kb_wr ((mo_sh (mo_sh M 31 6400 k1) 30 1 k2)) 22 16 ((M 22 16) - 1)) (((M 22 16) - 1)) k3)) 30 (((M 22 16) - 1)) t0) (((M 22 16) - 1)) t0 k4.toNat)) (((M 22 16) - 1)) (mo_dly ((mo_lk (kb_wr ((mo_cl (kb_wr ((mo_sh (mo_sh M 31 6400 k1) 30 1 k2)) 22 16 ((M 22 16) - 1)) (((M 22 16) - 1)) k3)) 30 (((M 22 16) - 1)) t0) (((M 22 16) - 1)) t0 k4.toNat)) t0 (M 25 k4) (M 26 k4)) (M 27 k4) (M 25 k4) (M 26 k4) a)) := by
                                    intro nn_
                                    induction nn_ with
                                    | zero => intro a hn; exact absurd hn (Nat.not_lt_zero _)
                                    | succ nn_ ih52 =>
                                      intro a hn hI6
                                      refine kb_iload X 6 rfl dX7_look_221 ?_
                                      refine kb_aload_n X 0 rfl dX7_look_223 ?_
                                      refine kg_X7_n X hi_X7_look_X7 hf_X7_look_19 dX7_look_224 ?_
                                      refine kb_eqi (b := M 22 0) (by first | rfl | exact mo_sh_r _ _ (by decide) | (rw [mo_lk_q _ _ _ _ (by decide)]; rfl) | (rw [mo_mvI_25, mo_lk_q _ _ _ _ (by decide)]; rfl) | (rw [kb_wr_other _ _ _ (by decide), mo_mvI_26, mo_lk_q _ _ _ _ (by decide)]; rfl) | (show mo_lk _ _ _ _ _ _ = _; rw [mo_lk_q _ _ _ _ (by decide)]; rfl)) ?_
                                      refine kb_icmp_ge (tgt := 334) X ⟨by omega, by omega⟩ ⟨by omega, by omega⟩ dX7_look_227 (by decide) (fun h53 => ?_) (fun h53 => ?_)
                                      ·
                                        refine kb_iinc (lv' := [(4, kb_i (k4 + 1)), (0, .ref (ad 22)), (1, kb_i t0), (2, kb_i (mo_al M)), (3, kb_i 6400), (5, kb_i (mo_dly ((mo_lk (kb_wr ((mo_cl (kb_wr ((mo_sh (mo_sh M 31 6400 k1) 30 1 k2)) 22 16 ((M 22 16) - 1)) (((M 22 16) - 1)) k3)) 30 (((M 22 16) - 1)) t0) (((M 22 16) - 1)) t0 k4.toNat)) t0 (M 25 k4) (M 26 k4))), (6, kb_i a)]) X 4 rfl dX7_look_334 rfl (by decide) rfl ?_
                                        refine kb_goto (tgt := 188) X dX7_look_337 (by decide) ?_
                                        refine kb_sub [1, 2, 3, 4, 0] (lv' := [(0, .ref (ad 22)), (1, kb_i t0), (2, kb_i (mo_al M)), (3, kb_i 6400), (4, kb_i (k4 + 1))]) rfl ?_
                                        refine kb_eqM (M' := mo_lk (kb_wr ((mo_cl (kb_wr ((mo_sh (mo_sh M 31 6400 k1) 30 1 k2)) 22 16 ((M 22 16) - 1)) (((M 22 16) - 1)) k3)) 30 (((M 22 16) - 1)) t0) (((M 22 16) - 1)) t0 (k4 + 1).toNat) (by rw [mo_lkS _ _ _ hI4.1]; unfold mo_hear; rw [mo_lk_q _ _ _ _ (show 25 ≠ 31 by decide), mo_lk_q _ _ _ _ (show 26 ≠ 31 by decide), mo_lk_q _ _ _ _ (show 27 ≠ 31 by decide), mo_lk_q _ _ _ _ (show 22 ≠ 31 by decide), show a = M 22 0 by omega]; rfl) ?_
                                        exact ih39 (k4 + 1) (by omega) (by first | omega | assumption | exact ⟨by omega, by omega⟩)
                                      ·
                                        refine kb_aload_n X 0 rfl dX7_look_230 ?_
                                        refine kg_X7_isDead X hi_X7_look_X7 hf_X7_look_27 dX7_look_231 ?_
                                        refine kb_iload X 6 rfl dX7_look_234 ?_
                                        refine kb_zald X 24 (n := 16) rfl ⟨by omega, by omega⟩ (by decide) dX7_look_236 ?_
                                        refine kb_eqi (b := M 24 a) (by first | rfl | exact mo_sh_r _ _ (by decide) | (rw [mo_lk_q _ _ _ _ (by decide)]; rfl) | (rw [mo_mvI_25, mo_lk_q _ _ _ _ (by decide)]; rfl) | (rw [kb_wr_other _ _ _ (by decide), mo_mvI_26, mo_lk_q _ _ _ _ (by decide)]; rfl) | (show mo_lk _ _ _ _ _ _ = _; rw [mo_lk_q _ _ _ _ (by decide)]; rfl)) ?_
                                        have g54 : -2147483648 ≤ M 24 a ∧ M 24 a < 2147483648 := hM 24 a
                                        refine kb_if_ne (tgt := 328) X ⟨by omega, by omega⟩ dX7_look_237 (by decide) (fun h55 => ?_) (fun h55 => ?_)
                                        ·
                                          refine kb_iinc (lv' := [(6, kb_i (a + 1)), (0, .ref (ad 22)), (1, kb_i t0), (2, kb_i (mo_al M)), (3, kb_i 6400), (4, kb_i k4), (5, kb_i (mo_dly ((mo_lk (kb_wr ((mo_cl (kb_wr ((mo_sh (mo_sh M 31 6400 k1) 30 1 k2)) 22 16 ((M 22 16) - 1)) (((M 22 16) - 1)) k3)) 30 (((M 22 16) - 1)) t0) (((M 22 16) - 1)) t0 k4.toNat)) t0 (M 25 k4) (M 26 k4)))]) X 6 rfl dX7_look_328 rfl (by decide) rfl ?_
                                          refine kb_goto (tgt := 221) X dX7_look_331 (by decide) ?_
                                          refine kb_sub [1, 2, 3, 4, 5, 6, 0] (lv' := [(0, .ref (ad 22)), (1, kb_i t0), (2, kb_i (mo_al M)), (3, kb_i 6400), (4, kb_i k4), (5, kb_i (mo_dly ((mo_lk (kb_wr ((mo_cl (kb_wr ((mo_sh (mo_sh M 31 6400 k1) 30 1 k2)) 22 16 ((M 22 16) - 1)) (((M 22 16) - 1)) k3)) 30 (((M 22 16) - 1)) t0) (((M 22 16) - 1)) t0 k4.toNat)) t0 (M 25 k4) (M 26 k4))), (6, kb_i (a + 1))]) rfl ?_
                                          refine kb_eqM (M' := mo_hearI ((mo_lk (kb_wr ((mo_cl (kb_wr ((mo_sh (mo_sh M 31 6400 k1) 30 1 k2)) 22 16 ((M 22 16) - 1)) (((M 22 16) - 1)) k3)) 30 (((M 22 16) - 1)) t0) (((M 22 16) - 1)) t0 k4.toNat)) (((M 22 16) - 1)) (mo_dly ((mo_lk (kb_wr ((mo_cl (kb_wr ((mo_sh (mo_sh M 31 6400 k1) 30 1 k2)) 22 16 ((M 22 16) - 1)) (((M 22 16) - 1)) k3)) 30 (((M 22 16) - 1)) t0) (((M 22 16) - 1)) t0 k4.toNat)) t0 (M 25 k4) (M 26 k4)) (M 27 k4) (M 25 k4) (M 26 k4) (a + 1)) (by first | exact (mo_hearI_S _ _ _ _ _ _ _ _ (by omega) (by rw [mo_lk_q _ _ _ _ (show 24 ≠ 31 by decide)]; show M 24 a = 0; omega) (by omega)).symm | exact (mo_hearI_D _ _ _ _ _ _ _ (by omega) (by rw [mo_lk_q _ _ _ _ (show 24 ≠ 31 by decide)]; show M 24 a ≠ 0; omega)).symm) ?_
                                          exact ih52 (a + 1) (by omega) (by first | omega | assumption | exact ⟨by omega, by omega⟩)
                                        ·
                                          refine kb_iload X 5 rfl dX7_look_240 ?_
                                          refine kb_aload_n X 0 rfl dX7_look_242 ?_
                                          refine kb_iload X 6 rfl dX7_look_243 ?_
                                          refine kb_aload_n X 0 rfl dX7_look_245 ?_
                                          refine kg_X7_px X hi_X7_look_X7 hf_X7_look_44 dX7_look_246 ?_
                                          refine kb_iload X 4 rfl dX7_look_249 ?_
                                          refine kb_iald X 25 (n := 8) rfl ⟨by omega, by omega⟩ (by decide) dX7_look_251 ?_
                                          refine kb_eqi (b := M 25 k4) (by first | rfl | exact mo_sh_r _ _ (by decide) | (rw [mo_lk_q _ _ _ _ (by decide)]; rfl) | (rw [mo_mvI_25, mo_lk_q _ _ _ _ (by decide)]; rfl) | (rw [kb_wr_other _ _ _ (by decide), mo_mvI_26, mo_lk_q _ _ _ _ (by decide)]; rfl) | (show mo_lk _ _ _ _ _ _ = _; rw [mo_lk_q _ _ _ _ (by decide)]; rfl)) ?_
                                          refine kb_aload_n X 0 rfl dX7_look_252 ?_
                                          refine kg_X7_pz X hi_X7_look_X7 hf_X7_look_47 dX7_look_253 ?_
                                          refine kb_iload X 4 rfl dX7_look_256 ?_
                                          refine kb_iald X 26 (n := 8) rfl ⟨by omega, by omega⟩ (by decide) dX7_look_258 ?_
                                          refine kb_eqi (b := M 26 k4) (by first | rfl | exact mo_sh_r _ _ (by decide) | (rw [mo_lk_q _ _ _ _ (by decide)]; rfl) | (rw [mo_mvI_25, mo_lk_q _ _ _ _ (by decide)]; rfl) | (rw [kb_wr_other _ _ _ (by decide), mo_mvI_26, mo_lk_q _ _ _ _ (by decide)]; rfl) | (show mo_lk _ _ _ _ _ _ = _; rw [mo_lk_q _ _ _ _ (by decide)]; rfl)) ?_
                                          refine kb_cVi X (rest := [kb_i (mo_dly ((mo_lk (kb_wr ((mo_cl (kb_wr ((mo_sh (mo_sh M 31 6400 k1) 30 1 k2)) 22 16 ((M 22 16) - 1)) (((M 22 16) - 1)) k3)) 30 (((M 22 16) - 1)) t0) (((M 22 16) - 1)) t0 k4.toNat)) t0 (M 25 k4) (M 26 k4))]) [kb_i a, kb_i (M 25 k4), kb_i (M 26 k4)] 22 (fl := [none, some 23, some 24, none, none, none, none, none, none, none, none, some 25, some 26, some 27, some 28, some 29, none, some 30, some 31, none, some 32, some 33, some 34, some 35, none, none, none, some 36]) (C := RX7) rfl rfl (c_X7_delayOf l D ad cy ((mo_hearI ((mo_lk (kb_wr ((mo_cl (kb_wr ((mo_sh (mo_sh M 31 6400 k1) 30 1 k2)) 22 16 ((M 22 16) - 1)) (((M 22 16) - 1)) k3)) 30 (((M 22 16) - 1)) t0) (((M 22 16) - 1)) t0 k4.toNat)) (((M 22 16) - 1)) (mo_dly ((mo_lk (kb_wr ((mo_cl (kb_wr ((mo_sh (mo_sh M 31 6400 k1) 30 1 k2)) 22 16 ((M 22 16) - 1)) (((M 22 16) - 1)) k3)) 30 (((M 22 16) - 1)) t0) (((M 22 16) - 1)) t0 k4.toNat)) t0 (M 25 k4) (M 26 k4)) (M 27 k4) (M 25 k4) (M 26 k4) a)) a (M 25 k4) (M 26 k4) (by show 0 ≤ a ∧ a < mo_lk _ _ _ _ 22 0; rw [mo_lk_q _ _ _ _ (show 22 ≠ 31 by decide)]; show 0 ≤ a ∧ a < M 22 0; omega) (by omega) (by omega) (by exact hIPk)) gX7_look_X7_delayOf rfl ⟨rfl, hy_X7_delayOf⟩ ⟨by decide, by decide⟩ rfl (Nat.le_of_ble_eq_true rfl) ⟨by decide, by decide⟩ dX7_look_259 rfl ?_
                                          have g56 : 0 ≤ (mo_dly ((mo_lk (kb_wr ((mo_cl (kb_wr ((mo_sh (mo_sh M 31 6400 k1) 30 1 k2)) 22 16 ((M 22 16) - 1)) (((M 22 16) - 1)) k3)) 30 (((M 22 16) - 1)) t0) (((M 22 16) - 1)) t0 k4.toNat)) a (M 25 k4) (M 26 k4)) ∧ (mo_dly ((mo_lk (kb_wr ((mo_cl (kb_wr ((mo_sh (mo_sh M 31 6400 k1) 30 1 k2)) 22 16 ((M 22 16) - 1)) (((M 22 16) - 1)) k3)) 30 (((M 22 16) - 1)) t0) (((M 22 16) - 1)) t0 k4.toNat)) a (M 25 k4) (M 26 k4)) ≤ 16001000 := by apply mo_dly_b <;> first | assumption | omega
                                          refine kb_eqi (b := mo_dly ((mo_lk (kb_wr ((mo_cl (kb_wr ((mo_sh (mo_sh M 31 6400 k1) 30 1 k2)) 22 16 ((M 22 16) - 1)) (((M 22 16) - 1)) k3)) 30 (((M 22 16) - 1)) t0) (((M 22 16) - 1)) t0 k4.toNat)) a (M 25 k4) (M 26 k4)) (rfl) ?_
                                          have hd5 := mo_dly_b (M := ((mo_lk (kb_wr ((mo_cl (kb_wr ((mo_sh (mo_sh M 31 6400 k1) 30 1 k2)) 22 16 ((M 22 16) - 1)) (((M 22 16) - 1)) k3)) 30 (((M 22 16) - 1)) t0) (((M 22 16) - 1)) t0 k4.toNat))) (i := t0) (x := M 25 k4) (z := M 26 k4) hIPk (by rw [mo_lk_q _ _ _ _ (show 22 ≠ 31 by decide)]; show 0 ≤ t0 ∧ t0 < M 22 0; omega) (by omega) (by omega)
                                          refine kb_iadd X dX7_look_262 ?_
                                          refine kb_nmi (fun x7_57 ex7_57 => ?_)
                                          refine kb_istore (lv' := [(7, kb_i x7_57), (0, .ref (ad 22)), (1, kb_i t0), (2, kb_i (mo_al M)), (3, kb_i 6400), (4, kb_i k4), (5, kb_i (mo_dly ((mo_lk (kb_wr ((mo_cl (kb_wr ((mo_sh (mo_sh M 31 6400 k1) 30 1 k2)) 22 16 ((M 22 16) - 1)) (((M 22 16) - 1)) k3)) 30 (((M 22 16) - 1)) t0) (((M 22 16) - 1)) t0 k4.toNat)) t0 (M 25 k4) (M 26 k4))), (6, kb_i a)]) X dX7_look_263 (by decide) rfl ?_
                                          have b1 := mo_hearI_b (A := ((mo_lk (kb_wr ((mo_cl (kb_wr ((mo_sh (mo_sh M 31 6400 k1) 30 1 k2)) 22 16 ((M 22 16) - 1)) (((M 22 16) - 1)) k3)) 30 (((M 22 16) - 1)) t0) (((M 22 16) - 1)) t0 k4.toNat))) (l := (((M 22 16) - 1))) (ds := (mo_dly ((mo_lk (kb_wr ((mo_cl (kb_wr ((mo_sh (mo_sh M 31 6400 k1) 30 1 k2)) 22 16 ((M 22 16) - 1)) (((M 22 16) - 1)) k3)) 30 (((M 22 16) - 1)) t0) (((M 22 16) - 1)) t0 k4.toNat)) t0 (M 25 k4) (M 26 k4))) (t := M 27 k4) (x := M 25 k4) (z := M 26 k4) (j := a) (b := 20000) hbk sc1.2.2.1
                                          have b2 := mo_ld_b (l := (((M 22 16) - 1))) (i := a) (s := x7_57 - 1) (t := M 27 k4) b1 (by omega)
                                          have b3 := mo_ld_b (l := (((M 22 16) - 1))) (i := a) (s := x7_57) (t := 2 * M 27 k4) b2 (by omega)
                                          refine kb_aload_n X 1 rfl dX7_look_265 ?_
                                          refine kb_aload_n X 1 rfl dX7_look_266 ?_
                                          refine kg_X7_looks X hi_X7_look_X7 hf_X7_look_87 dX7_look_267 ?_
                                          refine kb_eqi (b := ((M 22 16) - 1)) (by first | rfl | exact mo_sh_r _ _ (by decide) | (rw [mo_lk_q _ _ _ _ (by decide)]; rfl) | (rw [mo_mvI_25, mo_lk_q _ _ _ _ (by decide)]; rfl) | (rw [kb_wr_other _ _ _ (by decide), mo_mvI_26, mo_lk_q _ _ _ _ (by decide)]; rfl) | (show mo_lk _ _ _ _ _ _ = _; rw [mo_lk_q _ _ _ _ (by decide)]; rfl)) ?_
                                          refine kb_iload X 7 rfl dX7_look_270 ?_
                                          refine kb_iload X 0 rfl dX7_look_272 ?_
                                          refine kb_iconst X dX7_look_274 ?_
                                          refine kb_isub X dX7_look_275 ?_
                                          refine kb_aload_n X 1 rfl dX7_look_276 ?_
                                          refine kg_X7_strength X hi_X7_look_X7 hf_X7_look_50 dX7_look_277 ?_
                                          refine kb_iload X 5 rfl dX7_look_280 ?_
                                          refine kb_iald X 27 (n := 8) rfl ⟨by omega, by omega⟩ (by decide) dX7_look_282 ?_
                                          refine kb_eqi (b := M 27 k4) (by first | rfl | exact mo_sh_r _ _ (by decide) | (rw [mo_lk_q _ _ _ _ (by decide)]; rfl) | (rw [mo_mvI_25, mo_lk_q _ _ _ _ (by decide)]; rfl) | (rw [kb_wr_other _ _ _ (by decide), mo_mvI_26, mo_lk_q _ _ _ _ (by decide)]; rfl) | (show mo_lk _ _ _ _ _ _ = _; rw [mo_lk_q _ _ _ _ (by decide)]; rfl)) ?_
                                          have g58 : -2147483648 ≤ M 27 k4 ∧ M 27 k4 < 2147483648 := hM 27 k4
                                          refine kb_cVv X (rest := []) [kb_i (((M 22 16) - 1)), kb_i a, kb_i (x7_57 - 1), kb_i (M 27 k4)] 22 (fl := [none, some 23, some 24, none, none, none, none, none, none, none, none, some 25, some 26, some 27, some 28, some 29, none, some 30, some 31, none, some 32, some 33, some 34, some 35, none, none, none, some 36]) (C := RX7) rfl rfl (c_X7_add l D ad cy ((mo_hearI ((mo_lk (kb_wr ((mo_cl (kb_wr ((mo_sh (mo_sh M 31 6400 k1) 30 1 k2)) 22 16 ((M 22 16) - 1)) (((M 22 16) - 1)) k3)) 30 (((M 22 16) - 1)) t0) (((M 22 16) - 1)) t0 k4.toNat)) (((M 22 16) - 1)) (mo_dly ((mo_lk (kb_wr ((mo_cl (kb_wr ((mo_sh (mo_sh M 31 6400 k1) 30 1 k2)) 22 16 ((M 22 16) - 1)) (((M 22 16) - 1)) k3)) 30 (((M 22 16) - 1)) t0) (((M 22 16) - 1)) t0 k4.toNat)) t0 (M 25 k4) (M 26 k4)) (M 27 k4) (M 25 k4) (M 26 k4) a)) (((M 22 16) - 1)) a (x7_57 - 1) (M 27 k4) (by first | omega | assumption | exact ⟨by omega, by omega⟩) (by first | omega | assumption | exact ⟨by omega, by omega⟩) (by first | omega | assumption | exact ⟨by omega, by omega⟩) (by first | omega | assumption | exact ⟨by omega, by omega⟩) (fun j => by have := b1 j; omega)) gX7_look_X7_add rfl ⟨rfl, hy_X7_add⟩ ⟨by decide, by decide⟩ rfl (Nat.le_of_ble_eq_true rfl) ⟨by decide, by decide⟩ dX7_look_283 rfl ?_
                                          refine kb_aload_n X 1 rfl dX7_look_286 ?_
                                          refine kb_aload_n X 1 rfl dX7_look_287 ?_
                                          refine kg_X7_looks X hi_X7_look_X7 hf_X7_look_87 dX7_look_288 ?_
                                          refine kb_eqi (b := ((M 22 16) - 1)) (by first | rfl | exact mo_sh_r _ _ (by decide) | (rw [mo_lk_q _ _ _ _ (by decide)]; rfl) | (rw [mo_mvI_25, mo_lk_q _ _ _ _ (by decide)]; rfl) | (rw [kb_wr_other _ _ _ (by decide), mo_mvI_26, mo_lk_q _ _ _ _ (by decide)]; rfl) | (show mo_lk _ _ _ _ _ _ = _; rw [mo_lk_q _ _ _ _ (by decide)]; rfl)) ?_
                                          refine kb_iload X 7 rfl dX7_look_291 ?_
                                          refine kb_iload X 0 rfl dX7_look_293 ?_
                                          refine kb_iconst X dX7_look_295 ?_
                                          refine kb_aload_n X 1 rfl dX7_look_296 ?_
                                          refine kg_X7_strength X hi_X7_look_X7 hf_X7_look_50 dX7_look_297 ?_
                                          refine kb_iload X 5 rfl dX7_look_300 ?_
                                          refine kb_iald X 27 (n := 8) rfl ⟨by omega, by omega⟩ (by decide) dX7_look_302 ?_
                                          refine kb_eqi (b := M 27 k4) (by first | rfl | exact mo_sh_r _ _ (by decide) | (rw [mo_lk_q _ _ _ _ (by decide)]; rfl) | (rw [mo_mvI_25, mo_lk_q _ _ _ _ (by decide)]; rfl) | (rw [kb_wr_other _ _ _ (by decide), mo_mvI_26, mo_lk_q _ _ _ _ (by decide)]; rfl) | (show mo_lk _ _ _ _ _ _ = _; rw [mo_lk_q _ _ _ _ (by decide)]; rfl)) ?_
                                          refine kb_imul X dX7_look_303 ?_
                                          refine kb_cVv X (rest := []) [kb_i (((M 22 16) - 1)), kb_i a, kb_i x7_57, kb_i (2 * (M 27 k4))] 22 (fl := [none, some 23, some 24, none, none, none, none, none, none, none, none, some 25, some 26, some 27, some 28, some 29, none, some 30, some 31, none, some 32, some 33, some 34, some 35, none, none, none, some 36]) (C := RX7) rfl rfl (c_X7_add l D ad cy (mo_ld ((mo_hearI ((mo_lk (kb_wr ((mo_cl (kb_wr ((mo_sh (mo_sh M 31 6400 k1) 30 1 k2)) 22 16 ((M 22 16) - 1)) (((M 22 16) - 1)) k3)) 30 (((M 22 16) - 1)) t0) (((M 22 16) - 1)) t0 k4.toNat)) (((M 22 16) - 1)) (mo_dly ((mo_lk (kb_wr ((mo_cl (kb_wr ((mo_sh (mo_sh M 31 6400 k1) 30 1 k2)) 22 16 ((M 22 16) - 1)) (((M 22 16) - 1)) k3)) 30 (((M 22 16) - 1)) t0) (((M 22 16) - 1)) t0 k4.toNat)) t0 (M 25 k4) (M 26 k4)) (M 27 k4) (M 25 k4) (M 26 k4) a)) (((M 22 16) - 1)) a (x7_57 - 1) (M 27 k4)) (((M 22 16) - 1)) a x7_57 (2 * (M 27 k4)) (by first | omega | assumption | exact ⟨by omega, by omega⟩) (by first | omega | assumption | exact ⟨by omega, by omega⟩) (by first | omega | assumption | exact ⟨by omega, by omega⟩) (by first | omega | assumption | exact ⟨by omega, by omega⟩) (fun j => by have := b2 j; omega)) gX7_look_X7_add rfl ⟨rfl, hy_X7_add⟩ ⟨by decide, by decide⟩ rfl (Nat.le_of_ble_eq_true rfl) ⟨by decide, by decide⟩ dX7_look_304 rfl ?_
                                          refine kb_aload_n X 1 rfl dX7_look_307 ?_
                                          refine kb_aload_n X 1 rfl dX7_look_308 ?_
                                          refine kg_X7_looks X hi_X7_look_X7 hf_X7_look_87 dX7_look_309 ?_
                                          refine kb_eqi (b := ((M 22 16) - 1)) (by first | rfl | exact mo_sh_r _ _ (by decide) | (rw [mo_lk_q _ _ _ _ (by decide)]; rfl) | (rw [mo_mvI_25, mo_lk_q _ _ _ _ (by decide)]; rfl) | (rw [kb_wr_other _ _ _ (by decide), mo_mvI_26, mo_lk_q _ _ _ _ (by decide)]; rfl) | (show mo_lk _ _ _ _ _ _ = _; rw [mo_lk_q _ _ _ _ (by decide)]; rfl)) ?_
                                          refine kb_iload X 7 rfl dX7_look_312 ?_
                                          refine kb_iload X 0 rfl dX7_look_314 ?_
                                          refine kb_iconst X dX7_look_316 ?_
                                          refine kb_iadd X dX7_look_317 ?_
                                          refine kb_aload_n X 1 rfl dX7_look_318 ?_
                                          refine kg_X7_strength X hi_X7_look_X7 hf_X7_look_50 dX7_look_319 ?_
                                          refine kb_iload X 5 rfl dX7_look_322 ?_
                                          refine kb_iald X 27 (n := 8) rfl ⟨by omega, by omega⟩ (by decide) dX7_look_324 ?_
                                          refine kb_eqi (b := M 27 k4) (by first | rfl | exact mo_sh_r _ _ (by decide) | (rw [mo_lk_q _ _ _ _ (by decide)]; rfl) | (rw [mo_mvI_25, mo_lk_q _ _ _ _ (by decide)]; rfl) | (rw [kb_wr_other _ _ _ (by decide), mo_mvI_26, mo_lk_q _ _ _ _ (by decide)]; rfl) | (show mo_lk _ _ _ _ _ _ = _; rw [mo_lk_q _ _ _ _ (by decide)]; rfl)) ?_
                                          refine kb_cVv X (rest := []) [kb_i (((M 22 16) - 1)), kb_i a, kb_i (x7_57 + 1), kb_i (M 27 k4)] 22 (fl := [none, some 23, some 24, none, none, none, none, none, none, none, none, some 25, some 26, some 27, some 28, some 29, none, some 30, some 31, none, some 32, some 33, some 34, some 35, none, none, none, some 36]) (C := RX7) rfl rfl (c_X7_add l D ad cy (mo_ld (mo_ld ((mo_hearI ((mo_lk (kb_wr ((mo_cl (kb_wr ((mo_sh (mo_sh M 31 6400 k1) 30 1 k2)) 22 16 ((M 22 16) - 1)) (((M 22 16) - 1)) k3)) 30 (((M 22 16) - 1)) t0) (((M 22 16) - 1)) t0 k4.toNat)) (((M 22 16) - 1)) (mo_dly ((mo_lk (kb_wr ((mo_cl (kb_wr ((mo_sh (mo_sh M 31 6400 k1) 30 1 k2)) 22 16 ((M 22 16) - 1)) (((M 22 16) - 1)) k3)) 30 (((M 22 16) - 1)) t0) (((M 22 16) - 1)) t0 k4.toNat)) t0 (M 25 k4) (M 26 k4)) (M 27 k4) (M 25 k4) (M 26 k4) a)) (((M 22 16) - 1)) a (x7_57 - 1) (M 27 k4)) (((M 22 16) - 1)) a x7_57 (2 * (M 27 k4))) (((M 22 16) - 1)) a (x7_57 + 1) (M 27 k4) (by first | omega | assumption | exact ⟨by omega, by omega⟩) (by first | omega | assumption | exact ⟨by omega, by omega⟩) (by first | omega | assumption | exact ⟨by omega, by omega⟩) (by first | omega | assumption | exact ⟨by omega, by omega⟩) (fun j => by have := b3 j; omega)) gX7_look_X7_add rfl ⟨rfl, hy_X7_add⟩ ⟨by decide, by decide⟩ rfl (Nat.le_of_ble_eq_true rfl) ⟨by decide, by decide⟩ dX7_look_325 rfl ?_
                                          refine kb_iinc (lv' := [(6, kb_i (a + 1)), (7, kb_i x7_57), (0, .ref (ad 22)), (1, kb_i t0), (2, kb_i (mo_al M)), (3, kb_i 6400), (4, kb_i k4), (5, kb_i (mo_dly ((mo_lk (kb_wr ((mo_cl (kb_wr ((mo_sh (mo_sh M 31 6400 k1) 30 1 k2)) 22 16 ((M 22 16) - 1)) (((M 22 16) - 1)) k3)) 30 (((M 22 16) - 1)) t0) (((M 22 16) - 1)) t0 k4.toNat)) t0 (M 25 k4) (M 26 k4)))]) X 7 rfl dX7_look_328 rfl (by decide) rfl ?_
                                          refine kb_goto (tgt := 221) X dX7_look_331 (by decide) ?_
                                          refine kb_sub [2, 3, 4, 5, 6, 7, 0] (lv' := [(0, .ref (ad 22)), (1, kb_i t0), (2, kb_i (mo_al M)), (3, kb_i 6400), (4, kb_i k4), (5, kb_i (mo_dly ((mo_lk (kb_wr ((mo_cl (kb_wr ((mo_sh (mo_sh M 31 6400 k1) 30 1 k2)) 22 16 ((M 22 16) - 1)) (((M 22 16) - 1)) k3)) 30 (((M 22 16) - 1)) t0) (((M 22 16) - 1)) t0 k4.toNat)) t0 (M 25 k4) (M 26 k4))), (6, kb_i (a + 1))]) rfl ?_
                                          refine kb_eqM (M' := mo_hearI ((mo_lk (kb_wr ((mo_cl (kb_wr ((mo_sh (mo_sh M 31 6400 k1) 30 1 k2)) 22 16 ((M 22 16) - 1)) (((M 22 16) - 1)) k3)) 30 (((M 22 16) - 1)) t0) (((M 22 16) - 1)) t0 k4.toNat)) (((M 22 16) - 1)) (mo_dly ((mo_lk (kb_wr ((mo_cl (kb_wr ((mo_sh (mo_sh M 31 6400 k1) 30 1 k2)) 22 16 ((M 22 16) - 1)) (((M 22 16) - 1)) k3)) 30 (((M 22 16) - 1)) t0) (((M 22 16) - 1)) t0 k4.toNat)) t0 (M 25 k4) (M 26 k4)) (M 27 k4) (M 25 k4) (M 26 k4) (a + 1)) (by first | exact (mo_hearI_S _ _ _ _ _ _ _ _ (by omega) (by rw [mo_lk_q _ _ _ _ (show 24 ≠ 31 by decide)]; show M 24 a = 0; omega) (by omega)).symm | exact (mo_hearI_D _ _ _ _ _ _ _ (by omega) (by rw [mo_lk_q _ _ _ _ (show 24 ≠ 31 by decide)]; show M 24 a ≠ 0; omega)).symm) ?_
                                          exact ih52 (a + 1) (by omega) (by first | omega | assumption | exact ⟨by omega, by omega⟩)
                                  refine kb_sub [2, 3, 4, 5, 6, 1, 0] (lv' := [(0, .ref (ad 22)), (1, kb_i t0), (2, kb_i (mo_al M)), (3, kb_i 6400), (4, kb_i k4), (5, kb_i (mo_dly ((mo_lk (kb_wr ((mo_cl (kb_wr ((mo_sh (mo_sh M 31 6400 k1) 30 1 k2)) 22 16 ((M 22 16) - 1)) (((M 22 16) - 1)) k3)) 30 (((M 22 16) - 1)) t0) (((M 22 16) - 1)) t0 k4.toNat)) t0 (M 25 k4) (M 26 k4))), (6, kb_i 0)]) rfl ?_
                                  refine kb_eqM (M' := mo_hearI ((mo_lk (kb_wr ((mo_cl (kb_wr ((mo_sh (mo_sh M 31 6400 k1) 30 1 k2)) 22 16 ((M 22 16) - 1)) (((M 22 16) - 1)) k3)) 30 (((M 22 16) - 1)) t0) (((M 22 16) - 1)) t0 k4.toNat)) (((M 22 16) - 1)) (mo_dly ((mo_lk (kb_wr ((mo_cl (kb_wr ((mo_sh (mo_sh M 31 6400 k1) 30 1 k2)) 22 16 ((M 22 16) - 1)) (((M 22 16) - 1)) k3)) 30 (((M 22 16) - 1)) t0) (((M 22 16) - 1)) t0 k4.toNat)) t0 (M 25 k4) (M 26 k4)) (M 27 k4) (M 25 k4) (M 26 k4) (0 : Int)) ((mo_hearI_0 _ _ _ _ _ _).symm) ?_
                                  exact L221 _ (0 : Int) (Nat.lt_succ_self _) (by first | omega | assumption | exact ⟨by omega, by omega⟩)
                            refine kb_sub [1, 2, 3, 4, 0] (lv' := [(0, .ref (ad 22)), (1, kb_i t0), (2, kb_i (mo_al M)), (3, kb_i 6400), (4, kb_i 0)]) rfl ?_
                            refine kb_eqM (M' := mo_lk (kb_wr ((mo_cl (kb_wr ((mo_sh (mo_sh M 31 6400 k1) 30 1 k2)) 22 16 ((M 22 16) - 1)) (((M 22 16) - 1)) k3)) 30 (((M 22 16) - 1)) t0) (((M 22 16) - 1)) t0 (0 : Int).toNat) (rfl) ?_
                            exact L188 _ (0 : Int) (Nat.lt_succ_self _) (by first | omega | assumption | exact ⟨by omega, by omega⟩)
                          ·
                            refine kb_aload_n X 0 rfl dX7_look_154 ?_
                            refine kg_X7_samples X hi_X7_look_X7 hf_X7_look_63 dX7_look_155 ?_
                            refine kb_iload_n X 3 rfl dX7_look_158 ?_
                            refine kb_aload_n X 0 rfl dX7_look_159 ?_
                            refine kg_X7_looks X hi_X7_look_X7 hf_X7_look_87 dX7_look_160 ?_
                            refine kb_eqi (b := ((M 22 16) - 1)) (by first | rfl | exact mo_sh_r _ _ (by decide) | (rw [mo_lk_q _ _ _ _ (by decide)]; rfl) | (rw [mo_mvI_25, mo_lk_q _ _ _ _ (by decide)]; rfl) | (rw [kb_wr_other _ _ _ (by decide), mo_mvI_26, mo_lk_q _ _ _ _ (by decide)]; rfl) | (show mo_lk _ _ _ _ _ _ = _; rw [mo_lk_q _ _ _ _ (by decide)]; rfl)) ?_
                            refine kb_imul X dX7_look_163 ?_
                            refine kb_iload X 4 rfl dX7_look_164 ?_
                            refine kb_iadd X dX7_look_166 ?_
                            refine kb_iconst X dX7_look_167 ?_
                            refine kb_iast X 31 (n := 38400) rfl ⟨by omega, by omega⟩ (by decide) ⟨by decide, by decide⟩ dX7_look_168 ?_
                            refine kb_iinc (lv' := [(4, kb_i (k3 + 1)), (0, .ref (ad 22)), (1, kb_i t0), (2, kb_i (mo_al M)), (3, kb_i 6400)]) X 4 rfl dX7_look_169 rfl (by decide) rfl ?_
                            refine kb_goto (tgt := 148) X dX7_look_172 (by decide) ?_
                            refine kb_sub [1, 2, 3, 4, 0] (lv' := [(0, .ref (ad 22)), (1, kb_i t0), (2, kb_i (mo_al M)), (3, kb_i 6400), (4, kb_i (k3 + 1))]) rfl ?_
                            refine kb_eqM (M' := mo_cl (kb_wr ((mo_sh (mo_sh M 31 6400 k1) 30 1 k2)) 22 16 ((M 22 16) - 1)) (((M 22 16) - 1)) (k3 + 1)) ((mo_cl_S _ _ _ hI3.1).symm) ?_
                            exact ih37 (k3 + 1) (by omega) (by first | omega | assumption | exact ⟨by omega, by omega⟩)
                      refine kb_sub [1, 2, 3, 4, 0] (lv' := [(0, .ref (ad 22)), (1, kb_i t0), (2, kb_i (mo_al M)), (3, kb_i 6400), (4, kb_i 0)]) rfl ?_
                      refine kb_eqM (M' := mo_cl (kb_wr ((mo_sh (mo_sh M 31 6400 k1) 30 1 k2)) 22 16 ((M 22 16) - 1)) (((M 22 16) - 1)) (0 : Int)) ((mo_cl_0 _ _).symm) ?_
                      exact L148 _ (0 : Int) (Nat.lt_succ_self _) (by first | omega | assumption | exact ⟨by omega, by omega⟩)
                    ·
                      refine kb_aload_n X 0 rfl dX7_look_113 ?_
                      refine kg_X7_senders X hi_X7_look_X7 hf_X7_look_59 dX7_look_114 ?_
                      refine kb_iload X 4 rfl dX7_look_117 ?_
                      refine kb_iconst X dX7_look_119 ?_
                      refine kb_isub X dX7_look_120 ?_
                      refine kb_aload_n X 0 rfl dX7_look_121 ?_
                      refine kg_X7_senders X hi_X7_look_X7 hf_X7_look_59 dX7_look_122 ?_
                      refine kb_iload X 4 rfl dX7_look_125 ?_
                      refine kb_iald X 30 (n := 6) rfl ⟨by omega, by omega⟩ (by decide) dX7_look_127 ?_
                      refine kb_eqi (b := M 30 k2) (by first | rfl | exact mo_sh_r _ _ (by decide) | (rw [mo_lk_q _ _ _ _ (by decide)]; rfl) | (rw [mo_mvI_25, mo_lk_q _ _ _ _ (by decide)]; rfl) | (rw [kb_wr_other _ _ _ (by decide), mo_mvI_26, mo_lk_q _ _ _ _ (by decide)]; rfl) | (show mo_lk _ _ _ _ _ _ = _; rw [mo_lk_q _ _ _ _ (by decide)]; rfl)) ?_
                      have g59 : -2147483648 ≤ M 30 k2 ∧ M 30 k2 < 2147483648 := hM 30 k2
                      refine kb_iast X 30 (n := 6) rfl ⟨by omega, by omega⟩ (by decide) ⟨by omega, by omega⟩ dX7_look_128 ?_
                      refine kb_iinc (lv' := [(4, kb_i (k2 + 1)), (0, .ref (ad 22)), (1, kb_i t0), (2, kb_i (mo_al M)), (3, kb_i 6400)]) X 4 rfl dX7_look_129 rfl (by decide) rfl ?_
                      refine kb_goto (tgt := 106) X dX7_look_132 (by decide) ?_
                      refine kb_sub [1, 2, 3, 4, 0] (lv' := [(0, .ref (ad 22)), (1, kb_i t0), (2, kb_i (mo_al M)), (3, kb_i 6400), (4, kb_i (k2 + 1))]) rfl ?_
                      refine kb_eqM (M' := mo_sh (mo_sh M 31 6400 k1) 30 1 (k2 + 1)) ((mo_sh_S _ _ (by decide) hI2.1).symm) ?_
                      exact ih35 (k2 + 1) (by omega) (by first | omega | assumption | exact ⟨by omega, by omega⟩)
                refine kb_sub [1, 2, 3, 4, 0] (lv' := [(0, .ref (ad 22)), (1, kb_i t0), (2, kb_i (mo_al M)), (3, kb_i 6400), (4, kb_i 1)]) rfl ?_
                refine kb_eqM (M' := mo_sh (mo_sh M 31 6400 k1) 30 1 (1 : Int)) ((mo_sh_0 _ _ _).symm) ?_
                exact L106 _ (1 : Int) (Nat.lt_succ_self _) (by first | omega | assumption | exact ⟨by omega, by omega⟩)
              ·
                refine kb_aload_n X 0 rfl dX7_look_81 ?_
                refine kg_X7_samples X hi_X7_look_X7 hf_X7_look_63 dX7_look_82 ?_
                refine kb_iload X 4 rfl dX7_look_85 ?_
                refine kb_iload_n X 3 rfl dX7_look_87 ?_
                refine kb_isub X dX7_look_88 ?_
                refine kb_aload_n X 0 rfl dX7_look_89 ?_
                refine kg_X7_samples X hi_X7_look_X7 hf_X7_look_63 dX7_look_90 ?_
                refine kb_iload X 4 rfl dX7_look_93 ?_
                refine kb_iald X 31 (n := 38400) rfl ⟨by omega, by omega⟩ (by decide) dX7_look_95 ?_
                refine kb_eqi (b := M 31 k1) (by first | rfl | exact mo_sh_r _ _ (by decide) | (rw [mo_lk_q _ _ _ _ (by decide)]; rfl) | (rw [mo_mvI_25, mo_lk_q _ _ _ _ (by decide)]; rfl) | (rw [kb_wr_other _ _ _ (by decide), mo_mvI_26, mo_lk_q _ _ _ _ (by decide)]; rfl) | (show mo_lk _ _ _ _ _ _ = _; rw [mo_lk_q _ _ _ _ (by decide)]; rfl)) ?_
                have g60 : -2147483648 ≤ M 31 k1 ∧ M 31 k1 < 2147483648 := hM 31 k1
                refine kb_iast X 31 (n := 38400) rfl ⟨by omega, by omega⟩ (by decide) ⟨by omega, by omega⟩ dX7_look_96 ?_
                refine kb_iinc (lv' := [(4, kb_i (k1 + 1)), (0, .ref (ad 22)), (1, kb_i t0), (2, kb_i (mo_al M)), (3, kb_i 6400)]) X 4 rfl dX7_look_97 rfl (by decide) rfl ?_
                refine kb_goto (tgt := 72) X dX7_look_100 (by decide) ?_
                refine kb_sub [1, 2, 3, 4, 0] (lv' := [(0, .ref (ad 22)), (1, kb_i t0), (2, kb_i (mo_al M)), (3, kb_i 6400), (4, kb_i (k1 + 1))]) rfl ?_
                refine kb_eqM (M' := mo_sh M 31 6400 (k1 + 1)) ((mo_sh_S _ _ (by decide) hI1.1).symm) ?_
                exact ih33 (k1 + 1) (by omega) (by first | omega | assumption | exact ⟨by omega, by omega⟩)
          refine kb_sub [3, 4, 2, 1, 0] (lv' := [(0, .ref (ad 22)), (1, kb_i t0), (2, kb_i (mo_al M)), (3, kb_i 6400), (4, kb_i 6400)]) rfl ?_
          refine kb_eqM (M' := mo_sh M 31 6400 (6400 : Int)) ((mo_sh_0 _ _ _).symm) ?_
          exact L72 _ (6400 : Int) (Nat.lt_succ_self _) (by first | omega | assumption | exact ⟨by omega, by omega⟩)
      ·
        refine kb_bipush X (by decide) dX7_look_53 ?_
        exact kb_iret X hr hlocks dX7_look_55 (by unfold mo_lookR; repeat (first | rw [if_pos (by omega)] | rw [if_neg (by omega)]); try first | rfl | omega) (by unfold mo_lookM; rw [if_neg (by omega)])
    ·
      refine kb_bipush X (by decide) dX7_look_28 ?_
      exact kb_iret X hr hlocks dX7_look_30 (by unfold mo_lookR; repeat (first | rw [if_pos (by omega)] | rw [if_neg (by omega)]); try first | rfl | omega) (by unfold mo_lookM; rw [if_neg (by omega)])
  ·
    refine kb_bipush X (by decide) dX7_look_16 ?_
    exact kb_iret X hr hlocks dX7_look_18 (by unfold mo_lookR; repeat (first | rw [if_pos (by omega)] | rw [if_neg (by omega)]); try first | rfl | omega) (by unfold mo_lookM; rw [if_neg (by omega)])
