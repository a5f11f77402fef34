section
-- ===== PART A: goes FIRST, ahead of the names: the tables' words, and 'selects' of the private methods out of them =====
/-- a private method of a class that the tables say can be made, by its rows of tables_1 -/
def lw_okq (q : MethodName × Nat) : Prop := (q.1.cls ≠ "java/lang/invoke/MethodHandle" ∧ q.1.cls ≠ "java/lang/invoke/VarHandle") ∧ Cond.instantiable q.1.cls q.2 ∈ tables_1 ∧ Cond.privateMethod q.1 ∈ tables_1 ∧ Cond.instanceMethod q.1 ∈ tables_1
theorem lw_p0 : lw_okq (⟨"SoundBoard", "hear", "(II)V"⟩, 6) := ⟨⟨by decide +kernel, by decide +kernel⟩, List.mem_of_getElem? (i := 11) (by decide +kernel), List.mem_of_getElem? (i := 306) (by decide +kernel), List.mem_of_getElem? (i := 307) (by decide +kernel)⟩
theorem lw_p1 : lw_okq (⟨"SoundBoard", "aimedSum", "(I)I"⟩, 6) := ⟨⟨by decide +kernel, by decide +kernel⟩, List.mem_of_getElem? (i := 11) (by decide +kernel), List.mem_of_getElem? (i := 369) (by decide +kernel), List.mem_of_getElem? (i := 370) (by decide +kernel)⟩
theorem lw_p2 : lw_okq (⟨"SoundBoard", "areLooks", "(I)Z"⟩, 6) := ⟨⟨by decide +kernel, by decide +kernel⟩, List.mem_of_getElem? (i := 11) (by decide +kernel), List.mem_of_getElem? (i := 381) (by decide +kernel), List.mem_of_getElem? (i := 382) (by decide +kernel)⟩
theorem lw_p3 : lw_okq (⟨"SoundBoard", "joinedMean", "(III)I"⟩, 6) := ⟨⟨by decide +kernel, by decide +kernel⟩, List.mem_of_getElem? (i := 11) (by decide +kernel), List.mem_of_getElem? (i := 385) (by decide +kernel), List.mem_of_getElem? (i := 386) (by decide +kernel)⟩
theorem lw_p4 : lw_okq (⟨"SoundBoard", "likeness", "(III)I"⟩, 6) := ⟨⟨by decide +kernel, by decide +kernel⟩, List.mem_of_getElem? (i := 11) (by decide +kernel), List.mem_of_getElem? (i := 450) (by decide +kernel), List.mem_of_getElem? (i := 451) (by decide +kernel)⟩
theorem lw_p5 : lw_okq (⟨"SoundBoardModel", "alive", "()I"⟩, 28) := ⟨⟨by decide +kernel, by decide +kernel⟩, List.mem_of_getElem? (i := 536) (by decide +kernel), List.mem_of_getElem? (i := 650) (by decide +kernel), List.mem_of_getElem? (i := 651) (by decide +kernel)⟩
theorem lw_p6 : lw_okq (⟨"SoundBoardModel", "delayOf", "(III)I"⟩, 28) := ⟨⟨by decide +kernel, by decide +kernel⟩, List.mem_of_getElem? (i := 536) (by decide +kernel), List.mem_of_getElem? (i := 662) (by decide +kernel), List.mem_of_getElem? (i := 663) (by decide +kernel)⟩
theorem lw_p7 : lw_okq (⟨"SoundBoardModel", "add", "(IIII)V"⟩, 28) := ⟨⟨by decide +kernel, by decide +kernel⟩, List.mem_of_getElem? (i := 536) (by decide +kernel), List.mem_of_getElem? (i := 690) (by decide +kernel), List.mem_of_getElem? (i := 691) (by decide +kernel)⟩
theorem lw_p8 : lw_okq (⟨"SoundBoardModel", "isLook", "(I)Z"⟩, 28) := ⟨⟨by decide +kernel, by decide +kernel⟩, List.mem_of_getElem? (i := 536) (by decide +kernel), List.mem_of_getElem? (i := 702) (by decide +kernel), List.mem_of_getElem? (i := 703) (by decide +kernel)⟩
theorem lw_p9 : lw_okq (⟨"SoundBoardModel", "sampleAt", "(III)I"⟩, 28) := ⟨⟨by decide +kernel, by decide +kernel⟩, List.mem_of_getElem? (i := 536) (by decide +kernel), List.mem_of_getElem? (i := 706) (by decide +kernel), List.mem_of_getElem? (i := 707) (by decide +kernel)⟩
theorem lw_p10 : lw_okq (⟨"SoundBoardModel", "weightOf", "(III)I"⟩, 28) := ⟨⟨by decide +kernel, by decide +kernel⟩, List.mem_of_getElem? (i := 536) (by decide +kernel), List.mem_of_getElem? (i := 720) (by decide +kernel), List.mem_of_getElem? (i := 721) (by decide +kernel)⟩
theorem lw_p11 : lw_okq (⟨"SoundBoardModel", "sumOf", "(III)J"⟩, 28) := ⟨⟨by decide +kernel, by decide +kernel⟩, List.mem_of_getElem? (i := 536) (by decide +kernel), List.mem_of_getElem? (i := 728) (by decide +kernel), List.mem_of_getElem? (i := 729) (by decide +kernel)⟩
theorem lw_p12 : lw_okq (⟨"SoundBoardModel", "areLooks", "(I)Z"⟩, 28) := ⟨⟨by decide +kernel, by decide +kernel⟩, List.mem_of_getElem? (i := 536) (by decide +kernel), List.mem_of_getElem? (i := 737) (by decide +kernel), List.mem_of_getElem? (i := 738) (by decide +kernel)⟩
theorem lw_p13 : lw_okq (⟨"SoundBoardModel", "meanOf", "(III)I"⟩, 28) := ⟨⟨by decide +kernel, by decide +kernel⟩, List.mem_of_getElem? (i := 536) (by decide +kernel), List.mem_of_getElem? (i := 741) (by decide +kernel), List.mem_of_getElem? (i := 742) (by decide +kernel)⟩
theorem lw_p14 : lw_okq (⟨"SoundBoardModel", "next", "()I"⟩, 28) := ⟨⟨by decide +kernel, by decide +kernel⟩, List.mem_of_getElem? (i := 536) (by decide +kernel), List.mem_of_getElem? (i := 750) (by decide +kernel), List.mem_of_getElem? (i := 751) (by decide +kernel)⟩
theorem lw_p15 : lw_okq (⟨"SoundBoardModel", "isPicture", "(I)Z"⟩, 28) := ⟨⟨by decide +kernel, by decide +kernel⟩, List.mem_of_getElem? (i := 536) (by decide +kernel), List.mem_of_getElem? (i := 758) (by decide +kernel), List.mem_of_getElem? (i := 759) (by decide +kernel)⟩
def lw_privs_1 : List (MethodName × Nat) := [(⟨"SoundBoard", "hear", "(II)V"⟩, 6), (⟨"SoundBoard", "aimedSum", "(I)I"⟩, 6), (⟨"SoundBoard", "areLooks", "(I)Z"⟩, 6), (⟨"SoundBoard", "joinedMean", "(III)I"⟩, 6), (⟨"SoundBoard", "likeness", "(III)I"⟩, 6), (⟨"SoundBoardModel", "alive", "()I"⟩, 28), (⟨"SoundBoardModel", "delayOf", "(III)I"⟩, 28), (⟨"SoundBoardModel", "add", "(IIII)V"⟩, 28), (⟨"SoundBoardModel", "isLook", "(I)Z"⟩, 28), (⟨"SoundBoardModel", "sampleAt", "(III)I"⟩, 28), (⟨"SoundBoardModel", "weightOf", "(III)I"⟩, 28), (⟨"SoundBoardModel", "sumOf", "(III)J"⟩, 28), (⟨"SoundBoardModel", "areLooks", "(I)Z"⟩, 28), (⟨"SoundBoardModel", "meanOf", "(III)I"⟩, 28), (⟨"SoundBoardModel", "next", "()I"⟩, 28), (⟨"SoundBoardModel", "isPicture", "(I)Z"⟩, 28)]
theorem lw_r1 : ∀ q ∈ lw_privs_1, lw_okq q := List.forall_mem_cons.mpr ⟨lw_p0, List.forall_mem_cons.mpr ⟨lw_p1, List.forall_mem_cons.mpr ⟨lw_p2, List.forall_mem_cons.mpr ⟨lw_p3, List.forall_mem_cons.mpr ⟨lw_p4, List.forall_mem_cons.mpr ⟨lw_p5, List.forall_mem_cons.mpr ⟨lw_p6, List.forall_mem_cons.mpr ⟨lw_p7, List.forall_mem_cons.mpr ⟨lw_p8, List.forall_mem_cons.mpr ⟨lw_p9, List.forall_mem_cons.mpr ⟨lw_p10, List.forall_mem_cons.mpr ⟨lw_p11, List.forall_mem_cons.mpr ⟨lw_p12, List.forall_mem_cons.mpr ⟨lw_p13, List.forall_mem_cons.mpr ⟨lw_p14, List.forall_mem_cons.mpr ⟨lw_p15, fun _ h => absurd h List.not_mem_nil⟩⟩⟩⟩⟩⟩⟩⟩⟩⟩⟩⟩⟩⟩⟩⟩
theorem lw_p16 : lw_okq (⟨"SoundBoardModel", "turned", "(IIIII)J"⟩, 28) := ⟨⟨by decide +kernel, by decide +kernel⟩, List.mem_of_getElem? (i := 536) (by decide +kernel), List.mem_of_getElem? (i := 775) (by decide +kernel), List.mem_of_getElem? (i := 776) (by decide +kernel)⟩
theorem lw_p17 : lw_okq (⟨"SoundBoardModel", "shared", "(III)J"⟩, 28) := ⟨⟨by decide +kernel, by decide +kernel⟩, List.mem_of_getElem? (i := 536) (by decide +kernel), List.mem_of_getElem? (i := 793) (by decide +kernel), List.mem_of_getElem? (i := 794) (by decide +kernel)⟩
def lw_privs_2 : List (MethodName × Nat) := [(⟨"SoundBoardModel", "turned", "(IIIII)J"⟩, 28), (⟨"SoundBoardModel", "shared", "(III)J"⟩, 28)]
theorem lw_r2 : ∀ q ∈ lw_privs_2, lw_okq q := List.forall_mem_cons.mpr ⟨lw_p16, List.forall_mem_cons.mpr ⟨lw_p17, fun _ h => absurd h List.not_mem_nil⟩⟩
def lw_privs : List (MethodName × Nat) := lw_privs_1 ++ (lw_privs_2)
def lw_tbl : List Cond := k2_sels lw_privs ++ tables_1
theorem lw_privs_ok : ∀ q ∈ lw_privs, lw_okq q := by
  show ∀ q ∈ lw_privs_1 ++ (lw_privs_2), lw_okq q
  exact List.forall_mem_append.mpr ⟨lw_r1, lw_r2⟩
end
section
/-! ===== BEGIN words of one list among another's, by their places ===== -/
theorem goodIn_r {big : List Cond} (ws : List Cond) (ps : List Nat) (hp : ws = ps.filterMap (fun i => big[i]?)) (h : ws.all goodWord = true) : GoodIn big ws := by
  intro w hw
  have h1 := List.all_eq_true.mp h w hw
  rw [hp] at hw
  obtain ⟨i, -, hi⟩ := List.mem_filterMap.mp hw
  have hm : w ∈ big := by first | exact List.mem_of_getElem? hi | exact List.getElem?_mem hi
  exact ⟨hm, good_of_word h1⟩
theorem goodIn_app {big a b : List Cond} (ha : GoodIn big a) (hb : GoodIn big b) : GoodIn big (a ++ b) := fun w h => (List.mem_append.mp h).elim (ha w) (hb w)
theorem goodIn_ca {big a b : List Cond} {c : Cond} (ha : GoodIn big (c :: a)) (hb : GoodIn big b) : GoodIn big (c :: (a ++ b)) := fun w h => (List.mem_cons.mp h).elim (fun e => ha w (List.mem_cons.mpr (Or.inl e))) (fun h => (List.mem_append.mp h).elim (fun h => ha w (List.mem_cons.mpr (Or.inr h))) (hb w))
theorem goodIn_sub {big ws : List Cond} (hm : ∀ w ∈ ws, w ∈ big) (h : ws.all goodWord = true) : GoodIn big ws := fun w hw => ⟨hm w hw, good_of_word (List.all_eq_true.mp h w hw)⟩
/-! ===== END ===== -/

/-! ===== BEGIN printed: names, fields, word lists, decode rows ===== -/
def RX0 : String := "SoundBoard$Fan"
def TX0 : u_T := fun k => match k with
  | 0 => ("SoundBoard$Fan", "values", "[I", true)
  | 1 => ("SoundBoard$Fan", "lines", "I", false)
  | 2 => ("SoundBoard$Fan", "means", "I", false)
  | _ => ("SoundBoard$Fan", "step", "I", false)
def tyX0 : Nat → FieldType := fun k => match k with
  | 0 => .array .int
  | 1 => .int
  | 2 => .int
  | _ => .int
abbrev wsX00 : List Cond := u_ws RX0 TX0 4
theorem nmX0 : ∀ a, a < 4 → ∀ b, b < 4 → a ≠ b → (TX0 a).2.1 ≠ (TX0 b).2.1 := by decide +kernel
theorem tyX0_ok : ∀ k, k < 4 → parseFieldDescriptor (TX0 k).2.2.1 = some (tyX0 k) := by decide +kernel
abbrev cX0_init : ByteArray := prog_2_method_1_code
def yX0_init : MethodName := ⟨RX0, "<init>", "()V"⟩
abbrev cX0_begin : ByteArray := prog_2_method_2_code
def yX0_begin : MethodName := ⟨RX0, "begin", "(III)V"⟩
abbrev cX0_has : ByteArray := prog_2_method_3_code
def yX0_has : MethodName := ⟨RX0, "has", "(II)Z"⟩
abbrev cX0_get : ByteArray := prog_2_method_4_code
def yX0_get : MethodName := ⟨RX0, "get", "(II)I"⟩
abbrev cX0_set : ByteArray := prog_2_method_5_code
def yX0_set : MethodName := ⟨RX0, "set", "(III)V"⟩
abbrev cX0_middle : ByteArray := prog_2_method_6_code
def yX0_middle : MethodName := ⟨RX0, "middle", "()I"⟩
abbrev cX0_xOf : ByteArray := prog_2_method_7_code
def yX0_xOf : MethodName := ⟨RX0, "xOf", "(II)I"⟩
abbrev cX0_laidAt : ByteArray := prog_2_method_8_code
def yX0_laidAt : MethodName := ⟨RX0, "laidAt", "(II)I"⟩
def RX1 : String := "SoundBoard$Looks"
def TX1 : u_T := fun k => match k with
  | 0 => ("SoundBoard$Looks", "samples", "[I", true)
  | 1 => ("SoundBoard$Looks", "senders", "[I", true)
  | 2 => ("SoundBoard$Looks", "oldest", "I", false)
  | 3 => ("SoundBoard$Looks", "size", "I", false)
  | _ => ("SoundBoard$Looks", "ever", "I", false)
def tyX1 : Nat → FieldType := fun k => match k with
  | 0 => .array .int
  | 1 => .array .int
  | 2 => .int
  | 3 => .int
  | _ => .int
abbrev wsX10 : List Cond := u_ws RX1 TX1 5
theorem nmX1 : ∀ a, a < 5 → ∀ b, b < 5 → a ≠ b → (TX1 a).2.1 ≠ (TX1 b).2.1 := by decide +kernel
theorem tyX1_ok : ∀ k, k < 5 → parseFieldDescriptor (TX1 k).2.2.1 = some (tyX1 k) := by decide +kernel
abbrev cX1_init : ByteArray := prog_3_method_1_code
def yX1_init : MethodName := ⟨RX1, "<init>", "()V"⟩
abbrev cX1_forget : ByteArray := prog_3_method_2_code
def yX1_forget : MethodName := ⟨RX1, "forget", "()V"⟩
abbrev cX1_has : ByteArray := prog_3_method_3_code
def yX1_has : MethodName := ⟨RX1, "has", "(I)Z"⟩
abbrev cX1_begin : ByteArray := prog_3_method_4_code
def yX1_begin : MethodName := ⟨RX1, "begin", "(I)I"⟩
abbrev cX1_slotOf : ByteArray := prog_3_method_5_code
def yX1_slotOf : MethodName := ⟨RX1, "slotOf", "(I)I"⟩
abbrev cX1_senderOf : ByteArray := prog_3_method_6_code
def yX1_senderOf : MethodName := ⟨RX1, "senderOf", "(I)I"⟩
abbrev cX1_placeOf : ByteArray := prog_3_method_7_code
def yX1_placeOf : MethodName := ⟨RX1, "placeOf", "(III)I"⟩
abbrev cX1_at : ByteArray := prog_3_method_8_code
def yX1_at : MethodName := ⟨RX1, "at", "(III)I"⟩
abbrev cX1_louder : ByteArray := prog_3_method_9_code
def yX1_louder : MethodName := ⟨RX1, "louder", "(IIII)V"⟩
abbrev cX1_rowSum : ByteArray := prog_3_method_10_code
def yX1_rowSum : MethodName := ⟨RX1, "rowSum", "(II)J"⟩
def RX2 : String := "SoundBoard$Power"
def TX2 : u_T := fun k => match k with
  | 0 => ("SoundBoard$Power", "heat", "I", false)
  | _ => ("SoundBoard$Power", "most", "I", false)
def tyX2 : Nat → FieldType := fun k => match k with
  | 0 => .int
  | _ => .int
abbrev wsX20 : List Cond := u_ws RX2 TX2 2
theorem nmX2 : ∀ a, a < 2 → ∀ b, b < 2 → a ≠ b → (TX2 a).2.1 ≠ (TX2 b).2.1 := by decide +kernel
theorem tyX2_ok : ∀ k, k < 2 → parseFieldDescriptor (TX2 k).2.2.1 = some (tyX2 k) := by decide +kernel
abbrev cX2_init : ByteArray := prog_4_method_1_code
def yX2_init : MethodName := ⟨RX2, "<init>", "()V"⟩
abbrev cX2_cool : ByteArray := prog_4_method_2_code
def yX2_cool : MethodName := ⟨RX2, "cool", "()V"⟩
def RX3 : String := "SoundBoard$Probe"
def TX3 : u_T := fun k => match k with
  | 0 => ("SoundBoard$Probe", "xs", "[I", true)
  | 1 => ("SoundBoard$Probe", "deads", "[Z", true)
  | 2 => ("SoundBoard$Probe", "aimedDelays", "[I", true)
  | 3 => ("SoundBoard$Probe", "aimedWeights", "[I", true)
  | 4 => ("SoundBoard$Probe", "aimedTotal", "I", false)
  | 5 => ("SoundBoard$Probe", "size", "I", false)
  | 6 => ("SoundBoard$Probe", "alive", "I", false)
  | 7 => ("SoundBoard$Probe", "steps", "I", false)
  | 8 => ("SoundBoard$Probe", "ticks", "I", false)
  | 9 => ("SoundBoard$Probe", "window", "I", false)
  | _ => ("SoundBoard$Probe", "narrowness", "I", false)
def tyX3 : Nat → FieldType := fun k => match k with
  | 0 => .array .int
  | 1 => .array .boolean
  | 2 => .array .int
  | 3 => .array .int
  | 4 => .int
  | 5 => .int
  | 6 => .int
  | 7 => .int
  | 8 => .int
  | 9 => .int
  | _ => .int
abbrev wsX30 : List Cond := u_ws RX3 TX3 11
theorem nmX3 : ∀ a, a < 11 → ∀ b, b < 11 → a ≠ b → (TX3 a).2.1 ≠ (TX3 b).2.1 := by decide +kernel
theorem tyX3_ok : ∀ k, k < 11 → parseFieldDescriptor (TX3 k).2.2.1 = some (tyX3 k) := by decide +kernel
abbrev cX3_init : ByteArray := prog_5_method_1_code
def yX3_init : MethodName := ⟨RX3, "<init>", "()V"⟩
abbrev cX3_renew : ByteArray := prog_5_method_2_code
def yX3_renew : MethodName := ⟨RX3, "renew", "(III)V"⟩
abbrev cX3_has : ByteArray := prog_5_method_3_code
def yX3_has : MethodName := ⟨RX3, "has", "(I)Z"⟩
abbrev cX3_isDead : ByteArray := prog_5_method_4_code
def yX3_isDead : MethodName := ⟨RX3, "isDead", "(I)Z"⟩
abbrev cX3_setDead : ByteArray := prog_5_method_5_code
def yX3_setDead : MethodName := ⟨RX3, "setDead", "(IZ)V"⟩
abbrev cX3_gap : ByteArray := prog_5_method_6_code
def yX3_gap : MethodName := ⟨RX3, "gap", "(II)I"⟩
abbrev cX3_delayOf : ByteArray := prog_5_method_7_code
def yX3_delayOf : MethodName := ⟨RX3, "delayOf", "(III)I"⟩
abbrev cX3_weightOf : ByteArray := prog_5_method_8_code
def yX3_weightOf : MethodName := ⟨RX3, "weightOf", "(III)I"⟩
abbrev cX3_aim : ByteArray := prog_5_method_9_code
def yX3_aim : MethodName := ⟨RX3, "aim", "(II)V"⟩
abbrev cX3_aimedDelay : ByteArray := prog_5_method_10_code
def yX3_aimedDelay : MethodName := ⟨RX3, "aimedDelay", "(I)I"⟩
abbrev cX3_aimedWeight : ByteArray := prog_5_method_11_code
def yX3_aimedWeight : MethodName := ⟨RX3, "aimedWeight", "(I)I"⟩
def RX4 : String := "SoundBoard$Ring"
def TX4 : u_T := fun k => match k with
  | 0 => ("SoundBoard$Ring", "pixels", "[I", true)
  | 1 => ("SoundBoard$Ring", "widths", "[I", true)
  | 2 => ("SoundBoard$Ring", "heights", "[I", true)
  | 3 => ("SoundBoard$Ring", "oldest", "I", false)
  | _ => ("SoundBoard$Ring", "size", "I", false)
def tyX4 : Nat → FieldType := fun k => match k with
  | 0 => .array .int
  | 1 => .array .int
  | 2 => .array .int
  | 3 => .int
  | _ => .int
abbrev wsX40 : List Cond := u_ws RX4 TX4 5
theorem nmX4 : ∀ a, a < 5 → ∀ b, b < 5 → a ≠ b → (TX4 a).2.1 ≠ (TX4 b).2.1 := by decide +kernel
theorem tyX4_ok : ∀ k, k < 5 → parseFieldDescriptor (TX4 k).2.2.1 = some (tyX4 k) := by decide +kernel
abbrev cX4_init : ByteArray := prog_6_method_1_code
def yX4_init : MethodName := ⟨RX4, "<init>", "()V"⟩
abbrev cX4_forget : ByteArray := prog_6_method_2_code
def yX4_forget : MethodName := ⟨RX4, "forget", "()V"⟩
abbrev cX4_has : ByteArray := prog_6_method_3_code
def yX4_has : MethodName := ⟨RX4, "has", "(I)Z"⟩
abbrev cX4_begin : ByteArray := prog_6_method_4_code
def yX4_begin : MethodName := ⟨RX4, "begin", "(II)I"⟩
abbrev cX4_slotOf : ByteArray := prog_6_method_5_code
def yX4_slotOf : MethodName := ⟨RX4, "slotOf", "(I)I"⟩
abbrev cX4_isSlot : ByteArray := prog_6_method_6_code
def yX4_isSlot : MethodName := ⟨RX4, "isSlot", "(I)Z"⟩
abbrev cX4_widthOf : ByteArray := prog_6_method_7_code
def yX4_widthOf : MethodName := ⟨RX4, "widthOf", "(I)I"⟩
abbrev cX4_heightOf : ByteArray := prog_6_method_8_code
def yX4_heightOf : MethodName := ⟨RX4, "heightOf", "(I)I"⟩
abbrev cX4_get : ByteArray := prog_6_method_9_code
def yX4_get : MethodName := ⟨RX4, "get", "(II)I"⟩
abbrev cX4_set : ByteArray := prog_6_method_10_code
def yX4_set : MethodName := ⟨RX4, "set", "(III)V"⟩
abbrev cX4_firstGreatest : ByteArray := prog_6_method_11_code
def yX4_firstGreatest : MethodName := ⟨RX4, "firstGreatest", "(I)I"⟩
abbrev cX4_digestOn : ByteArray := prog_6_method_12_code
def yX4_digestOn : MethodName := ⟨RX4, "digestOn", "(J)J"⟩
def RX5 : String := "SoundBoard$Scene"
def TX5 : u_T := fun k => match k with
  | 0 => ("SoundBoard$Scene", "xs", "[I", true)
  | 1 => ("SoundBoard$Scene", "zs", "[I", true)
  | 2 => ("SoundBoard$Scene", "strengths", "[I", true)
  | 3 => ("SoundBoard$Scene", "dxs", "[I", true)
  | 4 => ("SoundBoard$Scene", "dzs", "[I", true)
  | _ => ("SoundBoard$Scene", "size", "I", false)
def tyX5 : Nat → FieldType := fun k => match k with
  | 0 => .array .int
  | 1 => .array .int
  | 2 => .array .int
  | 3 => .array .int
  | 4 => .array .int
  | _ => .int
abbrev wsX50 : List Cond := u_ws RX5 TX5 6
theorem nmX5 : ∀ a, a < 6 → ∀ b, b < 6 → a ≠ b → (TX5 a).2.1 ≠ (TX5 b).2.1 := by decide +kernel
theorem tyX5_ok : ∀ k, k < 6 → parseFieldDescriptor (TX5 k).2.2.1 = some (tyX5 k) := by decide +kernel
abbrev cX5_init : ByteArray := prog_7_method_1_code
def yX5_init : MethodName := ⟨RX5, "<init>", "()V"⟩
abbrev cX5_has : ByteArray := prog_7_method_2_code
def yX5_has : MethodName := ⟨RX5, "has", "(I)Z"⟩
abbrev cX5_put : ByteArray := prog_7_method_3_code
def yX5_put : MethodName := ⟨RX5, "put", "(IIIII)I"⟩
abbrev cX5_move : ByteArray := prog_7_method_4_code
def yX5_move : MethodName := ⟨RX5, "move", "()V"⟩
def RX6 : String := "SoundBoard"
def TX6 : u_T := fun k => match k with
  | 0 => ("SoundBoard", "elements", "LSoundBoard$Probe;", true)
  | 1 => ("SoundBoard", "scene", "LSoundBoard$Scene;", true)
  | 2 => ("SoundBoard", "heard", "LSoundBoard$Looks;", true)
  | 3 => ("SoundBoard", "ring", "LSoundBoard$Ring;", true)
  | 4 => ("SoundBoard", "laid", "LSoundBoard$Fan;", true)
  | _ => ("SoundBoard", "power", "LSoundBoard$Power;", true)
def tyX6 : Nat → FieldType := fun k => match k with
  | 0 => .object "SoundBoard$Probe"
  | 1 => .object "SoundBoard$Scene"
  | 2 => .object "SoundBoard$Looks"
  | 3 => .object "SoundBoard$Ring"
  | 4 => .object "SoundBoard$Fan"
  | _ => .object "SoundBoard$Power"
abbrev wsX60 : List Cond := u_ws RX6 TX6 6
theorem nmX6 : ∀ a, a < 6 → ∀ b, b < 6 → a ≠ b → (TX6 a).2.1 ≠ (TX6 b).2.1 := by decide +kernel
theorem tyX6_ok : ∀ k, k < 6 → parseFieldDescriptor (TX6 k).2.2.1 = some (tyX6 k) := by decide +kernel
abbrev cX6_init : ByteArray := prog_1_method_1_code
def yX6_init : MethodName := ⟨RX6, "<init>", "()V"⟩
abbrev cX6_probe : ByteArray := prog_1_method_2_code
def yX6_probe : MethodName := ⟨RX6, "probe", "(III)I"⟩
abbrev cX6_pace : ByteArray := prog_1_method_3_code
def yX6_pace : MethodName := ⟨RX6, "pace", "(II)I"⟩
abbrev cX6_dead : ByteArray := prog_1_method_4_code
def yX6_dead : MethodName := ⟨RX6, "dead", "(IZ)I"⟩
abbrev cX6_delay : ByteArray := prog_1_method_5_code
def yX6_delay : MethodName := ⟨RX6, "delay", "(III)I"⟩
abbrev cX6_point : ByteArray := prog_1_method_6_code
def yX6_point : MethodName := ⟨RX6, "point", "(IIIII)I"⟩
abbrev cX6_clear : ByteArray := prog_1_method_7_code
def yX6_clear : MethodName := ⟨RX6, "clear", "()I"⟩
abbrev cX6_pointAt : ByteArray := prog_1_method_8_code
def yX6_pointAt : MethodName := ⟨RX6, "pointAt", "(II)I"⟩
abbrev cX6_look : ByteArray := prog_1_method_9_code
def yX6_look : MethodName := ⟨RX6, "look", "(I)I"⟩
abbrev cX6_hear : ByteArray := prog_1_method_10_code
def yX6_hear : MethodName := ⟨RX6, "hear", "(II)V"⟩
abbrev cX6_sample : ByteArray := prog_1_method_11_code
def yX6_sample : MethodName := ⟨RX6, "sample", "(III)I"⟩
abbrev cX6_window : ByteArray := prog_1_method_12_code
def yX6_window : MethodName := ⟨RX6, "window", "(II)I"⟩
abbrev cX6_weight : ByteArray := prog_1_method_13_code
def yX6_weight : MethodName := ⟨RX6, "weight", "(III)I"⟩
abbrev cX6_sum : ByteArray := prog_1_method_14_code
def yX6_sum : MethodName := ⟨RX6, "sum", "(III)I"⟩
abbrev cX6_mean : ByteArray := prog_1_method_15_code
def yX6_mean : MethodName := ⟨RX6, "mean", "(III)I"⟩
abbrev cX6_aimedSum : ByteArray := prog_1_method_16_code
def yX6_aimedSum : MethodName := ⟨RX6, "aimedSum", "(I)I"⟩
abbrev cX6_joinedMean : ByteArray := prog_1_method_17_code
def yX6_joinedMean : MethodName := ⟨RX6, "joinedMean", "(III)I"⟩
abbrev cX6_picture : ByteArray := prog_1_method_18_code
def yX6_picture : MethodName := ⟨RX6, "picture", "(IIIIIII)I"⟩
abbrev cX6_pixel : ByteArray := prog_1_method_19_code
def yX6_pixel : MethodName := ⟨RX6, "pixel", "(III)I"⟩
abbrev cX6_about : ByteArray := prog_1_method_20_code
def yX6_about : MethodName := ⟨RX6, "about", "(II)I"⟩
abbrev cX6_differ : ByteArray := prog_1_method_21_code
def yX6_differ : MethodName := ⟨RX6, "differ", "(II)I"⟩
abbrev cX6_turn : ByteArray := prog_1_method_22_code
def yX6_turn : MethodName := ⟨RX6, "turn", "(IIII)I"⟩
abbrev cX6_likeness : ByteArray := prog_1_method_23_code
def yX6_likeness : MethodName := ⟨RX6, "likeness", "(III)I"⟩
abbrev cX6_fan : ByteArray := prog_1_method_24_code
def yX6_fan : MethodName := ⟨RX6, "fan", "(IIII)I"⟩
abbrev cX6_fanAt : ByteArray := prog_1_method_25_code
def yX6_fanAt : MethodName := ⟨RX6, "fanAt", "(II)I"⟩
abbrev cX6_board : ByteArray := prog_1_method_26_code
def yX6_board : MethodName := ⟨RX6, "board", "(IIIII)I"⟩
abbrev cX6_caliper : ByteArray := prog_1_method_27_code
def yX6_caliper : MethodName := ⟨RX6, "caliper", "(IIII)I"⟩
abbrev cX6_cap : ByteArray := prog_1_method_28_code
def yX6_cap : MethodName := ⟨RX6, "cap", "(I)I"⟩
abbrev cX6_tick : ByteArray := prog_1_method_29_code
def yX6_tick : MethodName := ⟨RX6, "tick", "(I)I"⟩
abbrev cX6_count : ByteArray := prog_1_method_30_code
def yX6_count : MethodName := ⟨RX6, "count", "(I)I"⟩
abbrev cX6_digest : ByteArray := prog_1_method_31_code
def yX6_digest : MethodName := ⟨RX6, "digest", "()J"⟩
abbrev cX6_within : ByteArray := prog_1_method_32_code
def yX6_within : MethodName := ⟨RX6, "within", "(III)Z"⟩
abbrev cX6_isPlace : ByteArray := prog_1_method_33_code
def yX6_isPlace : MethodName := ⟨RX6, "isPlace", "(II)Z"⟩
abbrev cX6_areLooks : ByteArray := prog_1_method_34_code
def yX6_areLooks : MethodName := ⟨RX6, "areLooks", "(I)Z"⟩
abbrev cX6_root : ByteArray := prog_1_method_35_code
def yX6_root : MethodName := ⟨RX6, "root", "(JJ)J"⟩
def RX7 : String := "SoundBoardModel"
def TX7 : u_T := fun k => match k with
  | 0 => ("SoundBoardModel", "n", "I", false)
  | 1 => ("SoundBoardModel", "xs", "[I", true)
  | 2 => ("SoundBoardModel", "isDead", "[Z", true)
  | 3 => ("SoundBoardModel", "steps", "I", false)
  | 4 => ("SoundBoardModel", "ticks", "I", false)
  | 5 => ("SoundBoardModel", "window", "I", false)
  | 6 => ("SoundBoardModel", "part", "I", false)
  | 7 => ("SoundBoardModel", "limit", "I", false)
  | 8 => ("SoundBoardModel", "heat", "I", false)
  | 9 => ("SoundBoardModel", "ever", "I", false)
  | 10 => ("SoundBoardModel", "points", "I", false)
  | 11 => ("SoundBoardModel", "px", "[I", true)
  | 12 => ("SoundBoardModel", "pz", "[I", true)
  | 13 => ("SoundBoardModel", "strength", "[I", true)
  | 14 => ("SoundBoardModel", "moveX", "[I", true)
  | 15 => ("SoundBoardModel", "moveZ", "[I", true)
  | 16 => ("SoundBoardModel", "looks", "I", false)
  | 17 => ("SoundBoardModel", "senders", "[I", true)
  | 18 => ("SoundBoardModel", "samples", "[I", true)
  | 19 => ("SoundBoardModel", "pictures", "I", false)
  | 20 => ("SoundBoardModel", "wide", "[I", true)
  | 21 => ("SoundBoardModel", "tall", "[I", true)
  | 22 => ("SoundBoardModel", "pixels", "[I", true)
  | 23 => ("SoundBoardModel", "made", "[I", true)
  | 24 => ("SoundBoardModel", "fanLines", "I", false)
  | 25 => ("SoundBoardModel", "fanMeans", "I", false)
  | 26 => ("SoundBoardModel", "fanStep", "I", false)
  | _ => ("SoundBoardModel", "fan", "[I", true)
def tyX7 : Nat → FieldType := fun k => match k with
  | 0 => .int
  | 1 => .array .int
  | 2 => .array .boolean
  | 3 => .int
  | 4 => .int
  | 5 => .int
  | 6 => .int
  | 7 => .int
  | 8 => .int
  | 9 => .int
  | 10 => .int
  | 11 => .array .int
  | 12 => .array .int
  | 13 => .array .int
  | 14 => .array .int
  | 15 => .array .int
  | 16 => .int
  | 17 => .array .int
  | 18 => .array .int
  | 19 => .int
  | 20 => .array .int
  | 21 => .array .int
  | 22 => .array .int
  | 23 => .array .int
  | 24 => .int
  | 25 => .int
  | 26 => .int
  | _ => .array .int
abbrev wsX70 : List Cond := u_ws RX7 TX7 28
theorem nmX7 : ∀ a, a < 28 → ∀ b, b < 28 → a ≠ b → (TX7 a).2.1 ≠ (TX7 b).2.1 := by decide +kernel
theorem tyX7_ok : ∀ k, k < 28 → parseFieldDescriptor (TX7 k).2.2.1 = some (tyX7 k) := by decide +kernel
abbrev cX7_in : ByteArray := prog_9_method_1_code
def yX7_in : MethodName := ⟨RX7, "in", "(JJJ)Z"⟩
abbrev cX7_isPlace : ByteArray := prog_9_method_2_code
def yX7_isPlace : MethodName := ⟨RX7, "isPlace", "(II)Z"⟩
abbrev cX7_init : ByteArray := prog_9_method_3_code
def yX7_init : MethodName := ⟨RX7, "<init>", "()V"⟩
abbrev cX7_probe : ByteArray := prog_9_method_4_code
def yX7_probe : MethodName := ⟨RX7, "probe", "(III)I"⟩
abbrev cX7_pace : ByteArray := prog_9_method_5_code
def yX7_pace : MethodName := ⟨RX7, "pace", "(II)I"⟩
abbrev cX7_alive : ByteArray := prog_9_method_6_code
def yX7_alive : MethodName := ⟨RX7, "alive", "()I"⟩
abbrev cX7_dead : ByteArray := prog_9_method_7_code
def yX7_dead : MethodName := ⟨RX7, "dead", "(IZ)I"⟩
abbrev cX7_rootOf : ByteArray := prog_9_method_8_code
def yX7_rootOf : MethodName := ⟨RX7, "rootOf", "(J)J"⟩
abbrev cX7_delayOf : ByteArray := prog_9_method_9_code
def yX7_delayOf : MethodName := ⟨RX7, "delayOf", "(III)I"⟩
abbrev cX7_delay : ByteArray := prog_9_method_10_code
def yX7_delay : MethodName := ⟨RX7, "delay", "(III)I"⟩
abbrev cX7_point : ByteArray := prog_9_method_11_code
def yX7_point : MethodName := ⟨RX7, "point", "(IIIII)I"⟩
abbrev cX7_clear : ByteArray := prog_9_method_12_code
def yX7_clear : MethodName := ⟨RX7, "clear", "()I"⟩
abbrev cX7_pointAt : ByteArray := prog_9_method_13_code
def yX7_pointAt : MethodName := ⟨RX7, "pointAt", "(II)I"⟩
abbrev cX7_add : ByteArray := prog_9_method_14_code
def yX7_add : MethodName := ⟨RX7, "add", "(IIII)V"⟩
abbrev cX7_held : ByteArray := prog_9_method_15_code
def yX7_held : MethodName := ⟨RX7, "held", "(III)I"⟩
abbrev cX7_look : ByteArray := prog_9_method_16_code
def yX7_look : MethodName := ⟨RX7, "look", "(I)I"⟩
abbrev cX7_isLook : ByteArray := prog_9_method_17_code
def yX7_isLook : MethodName := ⟨RX7, "isLook", "(I)Z"⟩
abbrev cX7_sampleAt : ByteArray := prog_9_method_18_code
def yX7_sampleAt : MethodName := ⟨RX7, "sampleAt", "(III)I"⟩
abbrev cX7_sample : ByteArray := prog_9_method_19_code
def yX7_sample : MethodName := ⟨RX7, "sample", "(III)I"⟩
abbrev cX7_window : ByteArray := prog_9_method_20_code
def yX7_window : MethodName := ⟨RX7, "window", "(II)I"⟩
abbrev cX7_weightOf : ByteArray := prog_9_method_21_code
def yX7_weightOf : MethodName := ⟨RX7, "weightOf", "(III)I"⟩
abbrev cX7_weight : ByteArray := prog_9_method_22_code
def yX7_weight : MethodName := ⟨RX7, "weight", "(III)I"⟩
abbrev cX7_sumOf : ByteArray := prog_9_method_23_code
def yX7_sumOf : MethodName := ⟨RX7, "sumOf", "(III)J"⟩
abbrev cX7_sum : ByteArray := prog_9_method_24_code
def yX7_sum : MethodName := ⟨RX7, "sum", "(III)I"⟩
abbrev cX7_meanOf : ByteArray := prog_9_method_25_code
def yX7_meanOf : MethodName := ⟨RX7, "meanOf", "(III)I"⟩
abbrev cX7_areLooks : ByteArray := prog_9_method_26_code
def yX7_areLooks : MethodName := ⟨RX7, "areLooks", "(I)Z"⟩
abbrev cX7_mean : ByteArray := prog_9_method_27_code
def yX7_mean : MethodName := ⟨RX7, "mean", "(III)I"⟩
abbrev cX7_next : ByteArray := prog_9_method_28_code
def yX7_next : MethodName := ⟨RX7, "next", "()I"⟩
abbrev cX7_picture : ByteArray := prog_9_method_29_code
def yX7_picture : MethodName := ⟨RX7, "picture", "(IIIIIII)I"⟩
abbrev cX7_isPicture : ByteArray := prog_9_method_30_code
def yX7_isPicture : MethodName := ⟨RX7, "isPicture", "(I)Z"⟩
abbrev cX7_pixel : ByteArray := prog_9_method_31_code
def yX7_pixel : MethodName := ⟨RX7, "pixel", "(III)I"⟩
abbrev cX7_about : ByteArray := prog_9_method_32_code
def yX7_about : MethodName := ⟨RX7, "about", "(II)I"⟩
abbrev cX7_differ : ByteArray := prog_9_method_33_code
def yX7_differ : MethodName := ⟨RX7, "differ", "(II)I"⟩
abbrev cX7_turned : ByteArray := prog_9_method_34_code
def yX7_turned : MethodName := ⟨RX7, "turned", "(IIIII)J"⟩
abbrev cX7_turn : ByteArray := prog_9_method_35_code
def yX7_turn : MethodName := ⟨RX7, "turn", "(IIII)I"⟩
abbrev cX7_fan : ByteArray := prog_9_method_36_code
def yX7_fan : MethodName := ⟨RX7, "fan", "(IIII)I"⟩
abbrev cX7_fanAt : ByteArray := prog_9_method_37_code
def yX7_fanAt : MethodName := ⟨RX7, "fanAt", "(II)I"⟩
abbrev cX7_shared : ByteArray := prog_9_method_38_code
def yX7_shared : MethodName := ⟨RX7, "shared", "(III)J"⟩
abbrev cX7_board : ByteArray := prog_9_method_39_code
def yX7_board : MethodName := ⟨RX7, "board", "(IIIII)I"⟩
abbrev cX7_caliper : ByteArray := prog_9_method_40_code
def yX7_caliper : MethodName := ⟨RX7, "caliper", "(IIII)I"⟩
abbrev cX7_cap : ByteArray := prog_9_method_41_code
def yX7_cap : MethodName := ⟨RX7, "cap", "(I)I"⟩
abbrev cX7_tick : ByteArray := prog_9_method_42_code
def yX7_tick : MethodName := ⟨RX7, "tick", "(I)I"⟩
abbrev cX7_count : ByteArray := prog_9_method_43_code
def yX7_count : MethodName := ⟨RX7, "count", "(I)I"⟩
abbrev cX7_digest : ByteArray := prog_9_method_44_code
def yX7_digest : MethodName := ⟨RX7, "digest", "()J"⟩
def RJ9 : String := "java/lang/Math"
def TJ9 : u_T := fun k => match k with
  | _ => ("", "", "", false)
def tyJ9 : Nat → FieldType := fun k => match k with
  | _ => .int
abbrev wsJ90 : List Cond := u_ws RJ9 TJ9 0
theorem nmJ9 : ∀ a, a < 0 → ∀ b, b < 0 → a ≠ b → (TJ9 a).2.1 ≠ (TJ9 b).2.1 := by decide +kernel
theorem tyJ9_ok : ∀ k, k < 0 → parseFieldDescriptor (TJ9 k).2.2.1 = some (tyJ9 k) := by decide +kernel
abbrev cJ9_floorMod_7cf53 : ByteArray := prog_10_method_50_code
def yJ9_floorMod_7cf53 : MethodName := ⟨RJ9, "floorMod", "(II)I"⟩
abbrev cJ9_abs_0f7a4 : ByteArray := prog_10_method_59_code
def yJ9_abs_0f7a4 : MethodName := ⟨RJ9, "abs", "(I)I"⟩
abbrev cJ9_max_7cf53 : ByteArray := prog_10_method_65_code
def yJ9_max_7cf53 : MethodName := ⟨RJ9, "max", "(II)I"⟩
abbrev cJ9_min_7cf53 : ByteArray := prog_10_method_69_code
def yJ9_min_7cf53 : MethodName := ⟨RJ9, "min", "(II)I"⟩
def RL : String := "SoundBoardLaw"
abbrev cL_law : ByteArray := code
def yL_law : MethodName := ⟨RL, "law", "([I)Z"⟩
def wsX0_init : List Cond := .code yX0_init cX0_init 1 none :: ([.methodLink RX0 1 objectInit, .instanceMethod objectInit, .code objectInit ⟨#[0xb1]⟩ 1 none, .arrayClass .int, .fieldLink RX0 9 "SoundBoard$Fan" "values" "[I", .fieldLink RX0 13 "SoundBoard$Fan" "step" "I"] ++ wsX00)
def wsX0_begin : List Cond := .code yX0_begin cX0_begin 4 none :: ([.fieldLink RX0 17 "SoundBoard$Fan" "lines" "I", .fieldLink RX0 20 "SoundBoard$Fan" "means" "I", .fieldLink RX0 13 "SoundBoard$Fan" "step" "I"] ++ wsX00)
def wsX0_has : List Cond := .code yX0_has cX0_has 3 (some .boolean) :: ([.fieldLink RX0 17 "SoundBoard$Fan" "lines" "I", .fieldLink RX0 20 "SoundBoard$Fan" "means" "I"] ++ wsX00)
def wsX0_get : List Cond := .code yX0_get cX0_get 3 (some .int) :: ([.fieldLink RX0 9 "SoundBoard$Fan" "values" "[I", .methodLink RX0 23 yX0_has, .instanceMethod yX0_has, .selects RX0 yX0_has yX0_has, .initialized RX0, .code yX0_has cX0_has 3 (some .boolean), .fieldLink RX0 17 "SoundBoard$Fan" "lines" "I", .fieldLink RX0 20 "SoundBoard$Fan" "means" "I"] ++ wsX00)
def wsX0_set : List Cond := .code yX0_set cX0_set 4 none :: ([.fieldLink RX0 9 "SoundBoard$Fan" "values" "[I", .methodLink RX0 23 yX0_has, .instanceMethod yX0_has, .selects RX0 yX0_has yX0_has, .initialized RX0, .code yX0_has cX0_has 3 (some .boolean), .fieldLink RX0 17 "SoundBoard$Fan" "lines" "I", .fieldLink RX0 20 "SoundBoard$Fan" "means" "I"] ++ wsX00)
def wsX0_middle : List Cond := .code yX0_middle cX0_middle 1 (some .int) :: ([.fieldLink RX0 17 "SoundBoard$Fan" "lines" "I"] ++ wsX00)
def wsX0_xOf : List Cond := .code yX0_xOf cX0_xOf 3 (some .int) :: ([.fieldLink RX0 13 "SoundBoard$Fan" "step" "I", .methodLink RX0 27 yX0_middle, .instanceMethod yX0_middle, .selects RX0 yX0_middle yX0_middle, .initialized RX0, .code yX0_middle cX0_middle 1 (some .int), .fieldLink RX0 17 "SoundBoard$Fan" "lines" "I"] ++ wsX00)
def wsX0_laidAt : List Cond := .code yX0_laidAt cX0_laidAt 11 (some .int) :: ([.fieldLink RX0 13 "SoundBoard$Fan" "step" "I", .fieldLink RX0 17 "SoundBoard$Fan" "lines" "I", .fieldLink RX0 20 "SoundBoard$Fan" "means" "I", .methodLink RX0 27 yX0_middle, .instanceMethod yX0_middle, .selects RX0 yX0_middle yX0_middle, .initialized RX0, .code yX0_middle cX0_middle 1 (some .int), .methodLink RX0 31 yX0_get, .instanceMethod yX0_get, .selects RX0 yX0_get yX0_get, .code yX0_get cX0_get 3 (some .int), .fieldLink RX0 9 "SoundBoard$Fan" "values" "[I", .methodLink RX0 23 yX0_has, .instanceMethod yX0_has, .selects RX0 yX0_has yX0_has, .code yX0_has cX0_has 3 (some .boolean)] ++ wsX00)
def wsX1_init : List Cond := .code yX1_init cX1_init 1 none :: ([.methodLink RX1 5 objectInit, .instanceMethod objectInit, .code objectInit ⟨#[0xb1]⟩ 1 none, .constant RX1 11 (38400), .arrayClass .int, .fieldLink RX1 12 "SoundBoard$Looks" "samples" "[I", .fieldLink RX1 16 "SoundBoard$Looks" "senders" "[I"] ++ wsX10)
def wsX1_forget : List Cond := .code yX1_forget cX1_forget 1 none :: ([.fieldLink RX1 19 "SoundBoard$Looks" "oldest" "I", .fieldLink RX1 23 "SoundBoard$Looks" "size" "I"] ++ wsX10)
def wsX1_has : List Cond := .code yX1_has cX1_has 2 (some .boolean) :: ([.fieldLink RX1 23 "SoundBoard$Looks" "size" "I"] ++ wsX10)
def wsJ9_floorMod_7cf53 : List Cond := .code yJ9_floorMod_7cf53 cJ9_floorMod_7cf53 3 (some .int) :: ([])
def wsX1_slotOf : List Cond := .code yX1_slotOf cX1_slotOf 2 (some .int) :: ([.fieldLink RX1 19 "SoundBoard$Looks" "oldest" "I", .methodLink RX1 33 yJ9_floorMod_7cf53, .static yJ9_floorMod_7cf53, .initialized RJ9, .code yJ9_floorMod_7cf53 cJ9_floorMod_7cf53 3 (some .int)] ++ wsX10)
def wsX1_begin : List Cond := .code yX1_begin cX1_begin 4 (some .int) :: ([.fieldLink RX1 23 "SoundBoard$Looks" "size" "I", .fieldLink RX1 19 "SoundBoard$Looks" "oldest" "I", .fieldLink RX1 26 "SoundBoard$Looks" "ever" "I", .fieldLink RX1 16 "SoundBoard$Looks" "senders" "[I", .fieldLink RX1 12 "SoundBoard$Looks" "samples" "[I", .methodLink RX1 29 yX1_slotOf, .instanceMethod yX1_slotOf, .selects RX1 yX1_slotOf yX1_slotOf, .initialized RX1, .code yX1_slotOf cX1_slotOf 2 (some .int), .methodLink RX1 33 yJ9_floorMod_7cf53, .static yJ9_floorMod_7cf53, .initialized RJ9, .code yJ9_floorMod_7cf53 cJ9_floorMod_7cf53 3 (some .int)] ++ wsX10)
def wsX1_senderOf : List Cond := .code yX1_senderOf cX1_senderOf 2 (some .int) :: ([.fieldLink RX1 16 "SoundBoard$Looks" "senders" "[I", .methodLink RX1 29 yX1_slotOf, .instanceMethod yX1_slotOf, .selects RX1 yX1_slotOf yX1_slotOf, .initialized RX1, .code yX1_slotOf cX1_slotOf 2 (some .int), .fieldLink RX1 19 "SoundBoard$Looks" "oldest" "I", .methodLink RX1 33 yJ9_floorMod_7cf53, .static yJ9_floorMod_7cf53, .initialized RJ9, .code yJ9_floorMod_7cf53 cJ9_floorMod_7cf53 3 (some .int)] ++ wsX10)
def wsX1_placeOf : List Cond := .code yX1_placeOf cX1_placeOf 4 (some .int) :: ([.methodLink RX1 29 yX1_slotOf, .instanceMethod yX1_slotOf, .selects RX1 yX1_slotOf yX1_slotOf, .initialized RX1, .code yX1_slotOf cX1_slotOf 2 (some .int), .fieldLink RX1 19 "SoundBoard$Looks" "oldest" "I", .methodLink RX1 33 yJ9_floorMod_7cf53, .static yJ9_floorMod_7cf53, .initialized RJ9, .code yJ9_floorMod_7cf53 cJ9_floorMod_7cf53 3 (some .int)] ++ wsX10)
def wsX1_at : List Cond := .code yX1_at cX1_at 5 (some .int) :: ([.fieldLink RX1 12 "SoundBoard$Looks" "samples" "[I", .methodLink RX1 39 yX1_placeOf, .instanceMethod yX1_placeOf, .selects RX1 yX1_placeOf yX1_placeOf, .initialized RX1, .code yX1_placeOf cX1_placeOf 4 (some .int), .methodLink RX1 29 yX1_slotOf, .instanceMethod yX1_slotOf, .selects RX1 yX1_slotOf yX1_slotOf, .code yX1_slotOf cX1_slotOf 2 (some .int), .fieldLink RX1 19 "SoundBoard$Looks" "oldest" "I", .methodLink RX1 33 yJ9_floorMod_7cf53, .static yJ9_floorMod_7cf53, .initialized RJ9, .code yJ9_floorMod_7cf53 cJ9_floorMod_7cf53 3 (some .int)] ++ wsX10)
def wsX1_louder : List Cond := .code yX1_louder cX1_louder 6 none :: ([.fieldLink RX1 12 "SoundBoard$Looks" "samples" "[I", .methodLink RX1 39 yX1_placeOf, .instanceMethod yX1_placeOf, .selects RX1 yX1_placeOf yX1_placeOf, .initialized RX1, .code yX1_placeOf cX1_placeOf 4 (some .int), .methodLink RX1 29 yX1_slotOf, .instanceMethod yX1_slotOf, .selects RX1 yX1_slotOf yX1_slotOf, .code yX1_slotOf cX1_slotOf 2 (some .int), .fieldLink RX1 19 "SoundBoard$Looks" "oldest" "I", .methodLink RX1 33 yJ9_floorMod_7cf53, .static yJ9_floorMod_7cf53, .initialized RJ9, .code yJ9_floorMod_7cf53 cJ9_floorMod_7cf53 3 (some .int)] ++ wsX10)
def wsX1_rowSum : List Cond := .code yX1_rowSum cX1_rowSum 7 (some .long) :: ([.fieldLink RX1 12 "SoundBoard$Looks" "samples" "[I", .methodLink RX1 39 yX1_placeOf, .instanceMethod yX1_placeOf, .selects RX1 yX1_placeOf yX1_placeOf, .initialized RX1, .code yX1_placeOf cX1_placeOf 4 (some .int), .methodLink RX1 29 yX1_slotOf, .instanceMethod yX1_slotOf, .selects RX1 yX1_slotOf yX1_slotOf, .code yX1_slotOf cX1_slotOf 2 (some .int), .fieldLink RX1 19 "SoundBoard$Looks" "oldest" "I", .methodLink RX1 33 yJ9_floorMod_7cf53, .static yJ9_floorMod_7cf53, .initialized RJ9, .code yJ9_floorMod_7cf53 cJ9_floorMod_7cf53 3 (some .int)] ++ wsX10)
def wsX2_init : List Cond := .code yX2_init cX2_init 1 none :: ([.methodLink RX2 1 objectInit, .instanceMethod objectInit, .code objectInit ⟨#[0xb1]⟩ 1 none, .fieldLink RX2 7 "SoundBoard$Power" "heat" "I", .constant RX2 13 (100000), .fieldLink RX2 14 "SoundBoard$Power" "most" "I"] ++ wsX20)
def wsX2_cool : List Cond := .code yX2_cool cX2_cool 1 none :: ([.fieldLink RX2 7 "SoundBoard$Power" "heat" "I"] ++ wsX20)
def wsX3_renew : List Cond := .code yX3_renew cX3_renew 5 none :: ([.methodLink RX3 42 Lib.Math.min.name, .static Lib.Math.min.name, .initialized "java/lang/Math", .code Lib.Math.min.name Lib.Math.min.code 2 (some .int), .methodLink RX3 48 Lib.Math.max.name, .static Lib.Math.max.name, .code Lib.Math.max.name Lib.Math.max.code 2 (some .int), .fieldLink RX3 51 "SoundBoard$Probe" "size" "I", .fieldLink RX3 54 "SoundBoard$Probe" "alive" "I", .fieldLink RX3 9 "SoundBoard$Probe" "xs" "[I", .fieldLink RX3 15 "SoundBoard$Probe" "deads" "[Z"] ++ wsX30)
def wsX3_init_r1 : List Cond := [Cond.methodLink RX3 3 objectInit, Cond.instanceMethod objectInit, Cond.code objectInit ⟨#[0xb1]⟩ 1 none, Cond.arrayClass .int, Cond.fieldLink RX3 9 "SoundBoard$Probe" "xs" "[I", Cond.arrayClass .boolean, Cond.fieldLink RX3 15 "SoundBoard$Probe" "deads" "[Z", Cond.fieldLink RX3 19 "SoundBoard$Probe" "aimedDelays" "[I", Cond.fieldLink RX3 22 "SoundBoard$Probe" "aimedWeights" "[I", Cond.fieldLink RX3 25 "SoundBoard$Probe" "steps" "I", Cond.fieldLink RX3 29 "SoundBoard$Probe" "ticks" "I", Cond.fieldLink RX3 32 "SoundBoard$Probe" "window" "I", Cond.fieldLink RX3 35 "SoundBoard$Probe" "narrowness" "I", Cond.methodLink RX3 38 yX3_renew, Cond.instanceMethod yX3_renew, Cond.selects RX3 yX3_renew yX3_renew, Cond.initialized RX3, Cond.code yX3_renew cX3_renew 5 none, Cond.methodLink RX3 42 Lib.Math.min.name, Cond.static Lib.Math.min.name, Cond.initialized "java/lang/Math", Cond.code Lib.Math.min.name Lib.Math.min.code 2 (some .int), Cond.methodLink RX3 48 Lib.Math.max.name, Cond.static Lib.Math.max.name]
def wsX3_init_r2 : List Cond := [Cond.code Lib.Math.max.name Lib.Math.max.code 2 (some .int), Cond.fieldLink RX3 51 "SoundBoard$Probe" "size" "I", Cond.fieldLink RX3 54 "SoundBoard$Probe" "alive" "I"]
def wsX3_init : List Cond := .code yX3_init cX3_init 1 none :: ((wsX3_init_r1 ++ wsX3_init_r2) ++ wsX30)
def wsX3_has : List Cond := .code yX3_has cX3_has 2 (some .boolean) :: ([.fieldLink RX3 51 "SoundBoard$Probe" "size" "I"] ++ wsX30)
def wsX3_isDead : List Cond := .code yX3_isDead cX3_isDead 2 (some .boolean) :: ([.fieldLink RX3 15 "SoundBoard$Probe" "deads" "[Z", .methodLink RX3 57 yX3_has, .instanceMethod yX3_has, .selects RX3 yX3_has yX3_has, .initialized RX3, .code yX3_has cX3_has 2 (some .boolean), .fieldLink RX3 51 "SoundBoard$Probe" "size" "I"] ++ wsX30)
def wsX3_setDead : List Cond := .code yX3_setDead cX3_setDead 3 none :: ([.fieldLink RX3 15 "SoundBoard$Probe" "deads" "[Z", .fieldLink RX3 54 "SoundBoard$Probe" "alive" "I", .methodLink RX3 57 yX3_has, .instanceMethod yX3_has, .selects RX3 yX3_has yX3_has, .initialized RX3, .code yX3_has cX3_has 2 (some .boolean), .fieldLink RX3 51 "SoundBoard$Probe" "size" "I"] ++ wsX30)
def wsX3_gap : List Cond := .code yX3_gap cX3_gap 3 (some .int) :: ([.fieldLink RX3 9 "SoundBoard$Probe" "xs" "[I", .methodLink RX3 61 Lib.Math.abs.name, .static Lib.Math.abs.name, .initialized "java/lang/Math", .code Lib.Math.abs.name Lib.Math.abs.code 1 (some .int), .methodLink RX3 57 yX3_has, .instanceMethod yX3_has, .selects RX3 yX3_has yX3_has, .initialized RX3, .code yX3_has cX3_has 2 (some .boolean), .fieldLink RX3 51 "SoundBoard$Probe" "size" "I"] ++ wsX30)
def wsX6_root : List Cond := .code yX6_root cX6_root 9 (some .long) :: ([.constantLong RX6 247 (2)])
def wsX3_delayOf : List Cond := .code yX3_delayOf cX3_delayOf 10 (some .int) :: ([.fieldLink RX3 25 "SoundBoard$Probe" "steps" "I", .constantLong RX3 68 (4), .fieldLink RX3 29 "SoundBoard$Probe" "ticks" "I", .constantLong RX3 70 (2), .methodLink RX3 65 yX3_gap, .instanceMethod yX3_gap, .selects RX3 yX3_gap yX3_gap, .initialized RX3, .code yX3_gap cX3_gap 3 (some .int), .fieldLink RX3 9 "SoundBoard$Probe" "xs" "[I", .methodLink RX3 61 Lib.Math.abs.name, .static Lib.Math.abs.name, .initialized "java/lang/Math", .code Lib.Math.abs.name Lib.Math.abs.code 1 (some .int), .methodLink RX3 57 yX3_has, .instanceMethod yX3_has, .selects RX3 yX3_has yX3_has, .code yX3_has cX3_has 2 (some .boolean), .fieldLink RX3 51 "SoundBoard$Probe" "size" "I", .static yX6_root, .initialized RX6, .code yX6_root cX6_root 9 (some .long), .constantLong RX6 247 (2)] ++ wsX30)
def wsX3_weightOf : List Cond := .code yX3_weightOf cX3_weightOf 6 (some .int) :: ([.fieldLink RX3 32 "SoundBoard$Probe" "window" "I", .fieldLink RX3 35 "SoundBoard$Probe" "narrowness" "I", .methodLink RX3 57 yX3_has, .instanceMethod yX3_has, .selects RX3 yX3_has yX3_has, .initialized RX3, .code yX3_has cX3_has 2 (some .boolean), .fieldLink RX3 51 "SoundBoard$Probe" "size" "I", .methodLink RX3 76 yX3_isDead, .instanceMethod yX3_isDead, .selects RX3 yX3_isDead yX3_isDead, .code yX3_isDead cX3_isDead 2 (some .boolean), .fieldLink RX3 15 "SoundBoard$Probe" "deads" "[Z", .methodLink RX3 65 yX3_gap, .instanceMethod yX3_gap, .selects RX3 yX3_gap yX3_gap, .code yX3_gap cX3_gap 3 (some .int), .fieldLink RX3 9 "SoundBoard$Probe" "xs" "[I", .methodLink RX3 61 Lib.Math.abs.name, .static Lib.Math.abs.name, .initialized "java/lang/Math", .code Lib.Math.abs.name Lib.Math.abs.code 1 (some .int)] ++ wsX30)
def wsX3_aim_r1 : List Cond := [Cond.fieldLink RX3 79 "SoundBoard$Probe" "aimedTotal" "I", Cond.fieldLink RX3 51 "SoundBoard$Probe" "size" "I", Cond.fieldLink RX3 19 "SoundBoard$Probe" "aimedDelays" "[I", Cond.fieldLink RX3 22 "SoundBoard$Probe" "aimedWeights" "[I", Cond.methodLink RX3 82 yX3_delayOf, Cond.instanceMethod yX3_delayOf, Cond.selects RX3 yX3_delayOf yX3_delayOf, Cond.initialized RX3, Cond.code yX3_delayOf cX3_delayOf 10 (some .int), Cond.fieldLink RX3 25 "SoundBoard$Probe" "steps" "I", Cond.constantLong RX3 68 (4), Cond.fieldLink RX3 29 "SoundBoard$Probe" "ticks" "I", Cond.constantLong RX3 70 (2), Cond.methodLink RX3 65 yX3_gap, Cond.instanceMethod yX3_gap, Cond.selects RX3 yX3_gap yX3_gap, Cond.code yX3_gap cX3_gap 3 (some .int), Cond.fieldLink RX3 9 "SoundBoard$Probe" "xs" "[I", Cond.methodLink RX3 61 Lib.Math.abs.name, Cond.static Lib.Math.abs.name, Cond.initialized "java/lang/Math", Cond.code Lib.Math.abs.name Lib.Math.abs.code 1 (some .int), Cond.methodLink RX3 57 yX3_has, Cond.instanceMethod yX3_has]
def wsX3_aim_r2 : List Cond := [Cond.selects RX3 yX3_has yX3_has, Cond.code yX3_has cX3_has 2 (some .boolean), Cond.static yX6_root, Cond.initialized RX6, Cond.code yX6_root cX6_root 9 (some .long), Cond.constantLong RX6 247 (2), Cond.methodLink RX3 86 yX3_weightOf, Cond.instanceMethod yX3_weightOf, Cond.selects RX3 yX3_weightOf yX3_weightOf, Cond.code yX3_weightOf cX3_weightOf 6 (some .int), Cond.fieldLink RX3 32 "SoundBoard$Probe" "window" "I", Cond.fieldLink RX3 35 "SoundBoard$Probe" "narrowness" "I", Cond.methodLink RX3 76 yX3_isDead, Cond.instanceMethod yX3_isDead, Cond.selects RX3 yX3_isDead yX3_isDead, Cond.code yX3_isDead cX3_isDead 2 (some .boolean), Cond.fieldLink RX3 15 "SoundBoard$Probe" "deads" "[Z"]
def wsX3_aim : List Cond := .code yX3_aim cX3_aim 4 none :: ((wsX3_aim_r1 ++ wsX3_aim_r2) ++ wsX30)
def wsX3_aimedDelay : List Cond := .code yX3_aimedDelay cX3_aimedDelay 2 (some .int) :: ([.fieldLink RX3 19 "SoundBoard$Probe" "aimedDelays" "[I", .methodLink RX3 57 yX3_has, .instanceMethod yX3_has, .selects RX3 yX3_has yX3_has, .initialized RX3, .code yX3_has cX3_has 2 (some .boolean), .fieldLink RX3 51 "SoundBoard$Probe" "size" "I"] ++ wsX30)
def wsX3_aimedWeight : List Cond := .code yX3_aimedWeight cX3_aimedWeight 2 (some .int) :: ([.fieldLink RX3 22 "SoundBoard$Probe" "aimedWeights" "[I", .methodLink RX3 57 yX3_has, .instanceMethod yX3_has, .selects RX3 yX3_has yX3_has, .initialized RX3, .code yX3_has cX3_has 2 (some .boolean), .fieldLink RX3 51 "SoundBoard$Probe" "size" "I"] ++ wsX30)
def wsX4_init : List Cond := .code yX4_init cX4_init 1 none :: ([.methodLink RX4 3 objectInit, .instanceMethod objectInit, .code objectInit ⟨#[0xb1]⟩ 1 none, .arrayClass .int, .fieldLink RX4 9 "SoundBoard$Ring" "pixels" "[I", .fieldLink RX4 13 "SoundBoard$Ring" "widths" "[I", .fieldLink RX4 16 "SoundBoard$Ring" "heights" "[I"] ++ wsX40)
def wsX4_forget : List Cond := .code yX4_forget cX4_forget 1 none :: ([.fieldLink RX4 19 "SoundBoard$Ring" "oldest" "I", .fieldLink RX4 23 "SoundBoard$Ring" "size" "I"] ++ wsX40)
def wsX4_has : List Cond := .code yX4_has cX4_has 2 (some .boolean) :: ([.fieldLink RX4 23 "SoundBoard$Ring" "size" "I"] ++ wsX40)
def wsX4_slotOf : List Cond := .code yX4_slotOf cX4_slotOf 2 (some .int) :: ([.fieldLink RX4 19 "SoundBoard$Ring" "oldest" "I", .methodLink RX4 30 yJ9_floorMod_7cf53, .static yJ9_floorMod_7cf53, .initialized RJ9, .code yJ9_floorMod_7cf53 cJ9_floorMod_7cf53 3 (some .int)] ++ wsX40)
def wsX4_begin : List Cond := .code yX4_begin cX4_begin 4 (some .int) :: ([.fieldLink RX4 23 "SoundBoard$Ring" "size" "I", .fieldLink RX4 19 "SoundBoard$Ring" "oldest" "I", .fieldLink RX4 13 "SoundBoard$Ring" "widths" "[I", .fieldLink RX4 16 "SoundBoard$Ring" "heights" "[I", .methodLink RX4 26 yX4_slotOf, .instanceMethod yX4_slotOf, .selects RX4 yX4_slotOf yX4_slotOf, .initialized RX4, .code yX4_slotOf cX4_slotOf 2 (some .int), .methodLink RX4 30 yJ9_floorMod_7cf53, .static yJ9_floorMod_7cf53, .initialized RJ9, .code yJ9_floorMod_7cf53 cJ9_floorMod_7cf53 3 (some .int)] ++ wsX40)
def wsX4_isSlot : List Cond := .code yX4_isSlot cX4_isSlot 2 (some .boolean) :: ([])
def wsX4_widthOf : List Cond := .code yX4_widthOf cX4_widthOf 2 (some .int) :: ([.fieldLink RX4 13 "SoundBoard$Ring" "widths" "[I", .methodLink RX4 36 yX4_isSlot, .instanceMethod yX4_isSlot, .selects RX4 yX4_isSlot yX4_isSlot, .initialized RX4, .code yX4_isSlot cX4_isSlot 2 (some .boolean)] ++ wsX40)
def wsX4_heightOf : List Cond := .code yX4_heightOf cX4_heightOf 2 (some .int) :: ([.fieldLink RX4 16 "SoundBoard$Ring" "heights" "[I", .methodLink RX4 36 yX4_isSlot, .instanceMethod yX4_isSlot, .selects RX4 yX4_isSlot yX4_isSlot, .initialized RX4, .code yX4_isSlot cX4_isSlot 2 (some .boolean)] ++ wsX40)
def wsX4_get : List Cond := .code yX4_get cX4_get 3 (some .int) :: ([.fieldLink RX4 9 "SoundBoard$Ring" "pixels" "[I", .methodLink RX4 36 yX4_isSlot, .instanceMethod yX4_isSlot, .selects RX4 yX4_isSlot yX4_isSlot, .initialized RX4, .code yX4_isSlot cX4_isSlot 2 (some .boolean)] ++ wsX40)
def wsX4_set : List Cond := .code yX4_set cX4_set 4 none :: ([.fieldLink RX4 9 "SoundBoard$Ring" "pixels" "[I", .methodLink RX4 36 yX4_isSlot, .instanceMethod yX4_isSlot, .selects RX4 yX4_isSlot yX4_isSlot, .initialized RX4, .code yX4_isSlot cX4_isSlot 2 (some .boolean)] ++ wsX40)
def wsX4_firstGreatest : List Cond := .code yX4_firstGreatest cX4_firstGreatest 4 (some .int) :: ([.methodLink RX4 40 yX4_widthOf, .instanceMethod yX4_widthOf, .selects RX4 yX4_widthOf yX4_widthOf, .initialized RX4, .code yX4_widthOf cX4_widthOf 2 (some .int), .fieldLink RX4 13 "SoundBoard$Ring" "widths" "[I", .methodLink RX4 36 yX4_isSlot, .instanceMethod yX4_isSlot, .selects RX4 yX4_isSlot yX4_isSlot, .code yX4_isSlot cX4_isSlot 2 (some .boolean), .methodLink RX4 43 yX4_heightOf, .instanceMethod yX4_heightOf, .selects RX4 yX4_heightOf yX4_heightOf, .code yX4_heightOf cX4_heightOf 2 (some .int), .fieldLink RX4 16 "SoundBoard$Ring" "heights" "[I", .methodLink RX4 46 yX4_get, .instanceMethod yX4_get, .selects RX4 yX4_get yX4_get, .code yX4_get cX4_get 3 (some .int), .fieldLink RX4 9 "SoundBoard$Ring" "pixels" "[I"] ++ wsX40)
def wsX4_digestOn_r1 : List Cond := [Cond.fieldLink RX4 23 "SoundBoard$Ring" "size" "I", Cond.constantLong RX4 49 (31), Cond.methodLink RX4 26 yX4_slotOf, Cond.instanceMethod yX4_slotOf, Cond.selects RX4 yX4_slotOf yX4_slotOf, Cond.initialized RX4, Cond.code yX4_slotOf cX4_slotOf 2 (some .int), Cond.fieldLink RX4 19 "SoundBoard$Ring" "oldest" "I", Cond.methodLink RX4 30 yJ9_floorMod_7cf53, Cond.static yJ9_floorMod_7cf53, Cond.initialized RJ9, Cond.code yJ9_floorMod_7cf53 cJ9_floorMod_7cf53 3 (some .int), Cond.methodLink RX4 40 yX4_widthOf, Cond.instanceMethod yX4_widthOf, Cond.selects RX4 yX4_widthOf yX4_widthOf, Cond.code yX4_widthOf cX4_widthOf 2 (some .int), Cond.fieldLink RX4 13 "SoundBoard$Ring" "widths" "[I", Cond.methodLink RX4 36 yX4_isSlot, Cond.instanceMethod yX4_isSlot, Cond.selects RX4 yX4_isSlot yX4_isSlot, Cond.code yX4_isSlot cX4_isSlot 2 (some .boolean), Cond.methodLink RX4 43 yX4_heightOf, Cond.instanceMethod yX4_heightOf, Cond.selects RX4 yX4_heightOf yX4_heightOf]
def wsX4_digestOn_r2 : List Cond := [Cond.code yX4_heightOf cX4_heightOf 2 (some .int), Cond.fieldLink RX4 16 "SoundBoard$Ring" "heights" "[I", Cond.methodLink RX4 46 yX4_get, Cond.instanceMethod yX4_get, Cond.selects RX4 yX4_get yX4_get, Cond.code yX4_get cX4_get 3 (some .int), Cond.fieldLink RX4 9 "SoundBoard$Ring" "pixels" "[I"]
def wsX4_digestOn : List Cond := .code yX4_digestOn cX4_digestOn 8 (some .long) :: ((wsX4_digestOn_r1 ++ wsX4_digestOn_r2) ++ wsX40)
def wsX5_init : List Cond := .code yX5_init cX5_init 1 none :: ([.methodLink RX5 3 objectInit, .instanceMethod objectInit, .code objectInit ⟨#[0xb1]⟩ 1 none, .arrayClass .int, .fieldLink RX5 11 "SoundBoard$Scene" "xs" "[I", .fieldLink RX5 15 "SoundBoard$Scene" "zs" "[I", .fieldLink RX5 18 "SoundBoard$Scene" "strengths" "[I", .fieldLink RX5 21 "SoundBoard$Scene" "dxs" "[I", .fieldLink RX5 24 "SoundBoard$Scene" "dzs" "[I"] ++ wsX50)
def wsX5_has : List Cond := .code yX5_has cX5_has 2 (some .boolean) :: ([.fieldLink RX5 27 "SoundBoard$Scene" "size" "I"] ++ wsX50)
def wsX5_put : List Cond := .code yX5_put cX5_put 6 (some .int) :: ([.fieldLink RX5 27 "SoundBoard$Scene" "size" "I", .fieldLink RX5 11 "SoundBoard$Scene" "xs" "[I", .fieldLink RX5 15 "SoundBoard$Scene" "zs" "[I", .fieldLink RX5 18 "SoundBoard$Scene" "strengths" "[I", .fieldLink RX5 21 "SoundBoard$Scene" "dxs" "[I", .fieldLink RX5 24 "SoundBoard$Scene" "dzs" "[I"] ++ wsX50)
def wsX5_move : List Cond := .code yX5_move cX5_move 2 none :: ([.fieldLink RX5 27 "SoundBoard$Scene" "size" "I", .fieldLink RX5 11 "SoundBoard$Scene" "xs" "[I", .fieldLink RX5 21 "SoundBoard$Scene" "dxs" "[I", .methodLink RX5 31 Lib.Math.min.name, .static Lib.Math.min.name, .initialized "java/lang/Math", .code Lib.Math.min.name Lib.Math.min.code 2 (some .int), .methodLink RX5 37 Lib.Math.max.name, .static Lib.Math.max.name, .code Lib.Math.max.name Lib.Math.max.code 2 (some .int), .fieldLink RX5 15 "SoundBoard$Scene" "zs" "[I", .fieldLink RX5 24 "SoundBoard$Scene" "dzs" "[I"] ++ wsX50)
def wsX6_init_r1 : List Cond := [Cond.methodLink RX6 1 objectInit, Cond.instanceMethod objectInit, Cond.code objectInit ⟨#[0xb1]⟩ 1 none, Cond.classLink RX6 7 RX3, Cond.instantiable RX3 11, Cond.initialized RX3, Cond.fieldLink RX6 10 "SoundBoard" "elements" "LSoundBoard$Probe;", Cond.classLink RX6 16 RX5, Cond.instantiable RX5 6, Cond.initialized RX5, Cond.fieldLink RX6 19 "SoundBoard" "scene" "LSoundBoard$Scene;", Cond.classLink RX6 23 RX1, Cond.instantiable RX1 5, Cond.initialized RX1, Cond.fieldLink RX6 26 "SoundBoard" "heard" "LSoundBoard$Looks;", Cond.classLink RX6 30 RX4, Cond.instantiable RX4 5, Cond.initialized RX4, Cond.fieldLink RX6 33 "SoundBoard" "ring" "LSoundBoard$Ring;", Cond.classLink RX6 37 RX0, Cond.instantiable RX0 4, Cond.initialized RX0, Cond.fieldLink RX6 40 "SoundBoard" "laid" "LSoundBoard$Fan;", Cond.classLink RX6 44 RX2]
def wsX6_init_r2 : List Cond := [Cond.instantiable RX2 2, Cond.initialized RX2, Cond.fieldLink RX6 47 "SoundBoard" "power" "LSoundBoard$Power;", Cond.methodLink RX6 9 yX3_init, Cond.instanceMethod yX3_init, Cond.code yX3_init cX3_init 1 none, Cond.methodLink RX3 3 objectInit, Cond.arrayClass .int, Cond.fieldLink RX3 9 "SoundBoard$Probe" "xs" "[I", Cond.arrayClass .boolean, Cond.fieldLink RX3 15 "SoundBoard$Probe" "deads" "[Z", Cond.fieldLink RX3 19 "SoundBoard$Probe" "aimedDelays" "[I", Cond.fieldLink RX3 22 "SoundBoard$Probe" "aimedWeights" "[I", Cond.fieldLink RX3 25 "SoundBoard$Probe" "steps" "I", Cond.fieldLink RX3 29 "SoundBoard$Probe" "ticks" "I", Cond.fieldLink RX3 32 "SoundBoard$Probe" "window" "I", Cond.fieldLink RX3 35 "SoundBoard$Probe" "narrowness" "I", Cond.methodLink RX3 38 yX3_renew, Cond.instanceMethod yX3_renew, Cond.selects RX3 yX3_renew yX3_renew, Cond.code yX3_renew cX3_renew 5 none, Cond.methodLink RX3 42 Lib.Math.min.name, Cond.static Lib.Math.min.name, Cond.initialized "java/lang/Math"]
def wsX6_init_r3 : List Cond := [Cond.code Lib.Math.min.name Lib.Math.min.code 2 (some .int), Cond.methodLink RX3 48 Lib.Math.max.name, Cond.static Lib.Math.max.name, Cond.code Lib.Math.max.name Lib.Math.max.code 2 (some .int), Cond.fieldLink RX3 51 "SoundBoard$Probe" "size" "I", Cond.fieldLink RX3 54 "SoundBoard$Probe" "alive" "I", Cond.methodLink RX6 18 yX5_init, Cond.instanceMethod yX5_init, Cond.code yX5_init cX5_init 1 none, Cond.methodLink RX5 3 objectInit, Cond.fieldLink RX5 11 "SoundBoard$Scene" "xs" "[I", Cond.fieldLink RX5 15 "SoundBoard$Scene" "zs" "[I", Cond.fieldLink RX5 18 "SoundBoard$Scene" "strengths" "[I", Cond.fieldLink RX5 21 "SoundBoard$Scene" "dxs" "[I", Cond.fieldLink RX5 24 "SoundBoard$Scene" "dzs" "[I", Cond.methodLink RX6 25 yX1_init, Cond.instanceMethod yX1_init, Cond.code yX1_init cX1_init 1 none, Cond.methodLink RX1 5 objectInit, Cond.constant RX1 11 (38400), Cond.fieldLink RX1 12 "SoundBoard$Looks" "samples" "[I", Cond.fieldLink RX1 16 "SoundBoard$Looks" "senders" "[I", Cond.methodLink RX6 32 yX4_init, Cond.instanceMethod yX4_init]
def wsX6_init_r4 : List Cond := [Cond.code yX4_init cX4_init 1 none, Cond.methodLink RX4 3 objectInit, Cond.fieldLink RX4 9 "SoundBoard$Ring" "pixels" "[I", Cond.fieldLink RX4 13 "SoundBoard$Ring" "widths" "[I", Cond.fieldLink RX4 16 "SoundBoard$Ring" "heights" "[I", Cond.methodLink RX6 39 yX0_init, Cond.instanceMethod yX0_init, Cond.code yX0_init cX0_init 1 none, Cond.methodLink RX0 1 objectInit, Cond.fieldLink RX0 9 "SoundBoard$Fan" "values" "[I", Cond.fieldLink RX0 13 "SoundBoard$Fan" "step" "I", Cond.methodLink RX6 46 yX2_init, Cond.instanceMethod yX2_init, Cond.code yX2_init cX2_init 1 none, Cond.methodLink RX2 1 objectInit, Cond.fieldLink RX2 7 "SoundBoard$Power" "heat" "I", Cond.constant RX2 13 (100000), Cond.fieldLink RX2 14 "SoundBoard$Power" "most" "I"]
def wsX6_init : List Cond := .code yX6_init cX6_init 1 none :: ((wsX6_init_r1 ++ (wsX6_init_r2 ++ (wsX6_init_r3 ++ wsX6_init_r4))) ++ wsX30 ++ wsX60 ++ wsX50 ++ wsX10 ++ wsX40 ++ wsX00 ++ wsX20)
def wsX6_within : List Cond := .code yX6_within cX6_within 3 (some .boolean) :: ([])
def wsX6_probe_r1 : List Cond := [Cond.fieldLink RX6 10 "SoundBoard" "elements" "LSoundBoard$Probe;", Cond.fieldLink RX6 26 "SoundBoard" "heard" "LSoundBoard$Looks;", Cond.fieldLink RX6 33 "SoundBoard" "ring" "LSoundBoard$Ring;", Cond.fieldLink RX6 47 "SoundBoard" "power" "LSoundBoard$Power;", Cond.fieldLink RX6 63 "SoundBoard$Power" "heat" "I", Cond.methodLink RX6 51 yX6_within, Cond.static yX6_within, Cond.initialized RX6, Cond.code yX6_within cX6_within 3 (some .boolean), Cond.methodLink RX6 55 yX3_renew, Cond.instanceMethod yX3_renew, Cond.selects RX3 yX3_renew yX3_renew, Cond.initialized RX3, Cond.code yX3_renew cX3_renew 5 none, Cond.methodLink RX3 42 Lib.Math.min.name, Cond.static Lib.Math.min.name, Cond.initialized "java/lang/Math", Cond.code Lib.Math.min.name Lib.Math.min.code 2 (some .int), Cond.methodLink RX3 48 Lib.Math.max.name, Cond.static Lib.Math.max.name, Cond.code Lib.Math.max.name Lib.Math.max.code 2 (some .int), Cond.fieldLink RX3 51 "SoundBoard$Probe" "size" "I", Cond.fieldLink RX3 54 "SoundBoard$Probe" "alive" "I", Cond.fieldLink RX3 9 "SoundBoard$Probe" "xs" "[I"]
def wsX6_probe_r2 : List Cond := [Cond.fieldLink RX3 15 "SoundBoard$Probe" "deads" "[Z", Cond.methodLink RX6 59 yX1_forget, Cond.instanceMethod yX1_forget, Cond.selects RX1 yX1_forget yX1_forget, Cond.initialized RX1, Cond.code yX1_forget cX1_forget 1 none, Cond.fieldLink RX1 19 "SoundBoard$Looks" "oldest" "I", Cond.fieldLink RX1 23 "SoundBoard$Looks" "size" "I", Cond.methodLink RX6 62 yX4_forget, Cond.instanceMethod yX4_forget, Cond.selects RX4 yX4_forget yX4_forget, Cond.initialized RX4, Cond.code yX4_forget cX4_forget 1 none, Cond.fieldLink RX4 19 "SoundBoard$Ring" "oldest" "I", Cond.fieldLink RX4 23 "SoundBoard$Ring" "size" "I"]
def wsX6_probe : List Cond := .code yX6_probe cX6_probe 4 (some .int) :: ((wsX6_probe_r1 ++ wsX6_probe_r2) ++ wsX60 ++ wsX20 ++ wsX30 ++ wsX10 ++ wsX40)
def wsX6_pace : List Cond := .code yX6_pace cX6_pace 3 (some .int) :: ([.fieldLink RX6 26 "SoundBoard" "heard" "LSoundBoard$Looks;", .fieldLink RX6 67 "SoundBoard$Looks" "size" "I", .fieldLink RX6 10 "SoundBoard" "elements" "LSoundBoard$Probe;", .fieldLink RX6 70 "SoundBoard$Probe" "steps" "I", .fieldLink RX6 73 "SoundBoard$Probe" "ticks" "I", .methodLink RX6 51 yX6_within, .static yX6_within, .initialized RX6, .code yX6_within cX6_within 3 (some .boolean)] ++ wsX60 ++ wsX10 ++ wsX30)
def wsX6_dead : List Cond := .code yX6_dead cX6_dead 3 (some .int) :: ([.fieldLink RX6 10 "SoundBoard" "elements" "LSoundBoard$Probe;", .fieldLink RX6 83 "SoundBoard$Probe" "alive" "I", .methodLink RX6 76 yX3_has, .instanceMethod yX3_has, .selects RX3 yX3_has yX3_has, .initialized RX3, .code yX3_has cX3_has 2 (some .boolean), .fieldLink RX3 51 "SoundBoard$Probe" "size" "I", .methodLink RX6 80 yX3_isDead, .instanceMethod yX3_isDead, .selects RX3 yX3_isDead yX3_isDead, .code yX3_isDead cX3_isDead 2 (some .boolean), .fieldLink RX3 15 "SoundBoard$Probe" "deads" "[Z", .methodLink RX3 57 yX3_has, .methodLink RX6 86 yX3_setDead, .instanceMethod yX3_setDead, .selects RX3 yX3_setDead yX3_setDead, .code yX3_setDead cX3_setDead 3 none, .fieldLink RX3 54 "SoundBoard$Probe" "alive" "I"] ++ wsX60 ++ wsX30)
def wsX6_isPlace : List Cond := .code yX6_isPlace cX6_isPlace 2 (some .boolean) :: ([.methodLink RX6 51 yX6_within, .static yX6_within, .initialized RX6, .code yX6_within cX6_within 3 (some .boolean)])
def wsX6_delay_r1 : List Cond := [Cond.fieldLink RX6 10 "SoundBoard" "elements" "LSoundBoard$Probe;", Cond.methodLink RX6 76 yX3_has, Cond.instanceMethod yX3_has, Cond.selects RX3 yX3_has yX3_has, Cond.initialized RX3, Cond.code yX3_has cX3_has 2 (some .boolean), Cond.fieldLink RX3 51 "SoundBoard$Probe" "size" "I", Cond.methodLink RX6 90 yX6_isPlace, Cond.static yX6_isPlace, Cond.initialized RX6, Cond.code yX6_isPlace cX6_isPlace 2 (some .boolean), Cond.methodLink RX6 51 yX6_within, Cond.static yX6_within, Cond.code yX6_within cX6_within 3 (some .boolean), Cond.methodLink RX6 94 yX3_delayOf, Cond.instanceMethod yX3_delayOf, Cond.selects RX3 yX3_delayOf yX3_delayOf, Cond.code yX3_delayOf cX3_delayOf 10 (some .int), Cond.fieldLink RX3 25 "SoundBoard$Probe" "steps" "I", Cond.constantLong RX3 68 (4), Cond.fieldLink RX3 29 "SoundBoard$Probe" "ticks" "I", Cond.constantLong RX3 70 (2), Cond.methodLink RX3 65 yX3_gap, Cond.instanceMethod yX3_gap]
def wsX6_delay_r2 : List Cond := [Cond.selects RX3 yX3_gap yX3_gap, Cond.code yX3_gap cX3_gap 3 (some .int), Cond.fieldLink RX3 9 "SoundBoard$Probe" "xs" "[I", Cond.methodLink RX3 61 Lib.Math.abs.name, Cond.static Lib.Math.abs.name, Cond.initialized "java/lang/Math", Cond.code Lib.Math.abs.name Lib.Math.abs.code 1 (some .int), Cond.methodLink RX3 57 yX3_has, Cond.static yX6_root, Cond.code yX6_root cX6_root 9 (some .long), Cond.constantLong RX6 247 (2)]
def wsX6_delay : List Cond := .code yX6_delay cX6_delay 4 (some .int) :: ((wsX6_delay_r1 ++ wsX6_delay_r2) ++ wsX60 ++ wsX30)
def wsX6_point : List Cond := .code yX6_point cX6_point 6 (some .int) :: ([.fieldLink RX6 19 "SoundBoard" "scene" "LSoundBoard$Scene;", .fieldLink RX6 98 "SoundBoard$Scene" "size" "I", .methodLink RX6 90 yX6_isPlace, .static yX6_isPlace, .initialized RX6, .code yX6_isPlace cX6_isPlace 2 (some .boolean), .methodLink RX6 51 yX6_within, .static yX6_within, .code yX6_within cX6_within 3 (some .boolean), .methodLink RX6 99 yX5_put, .instanceMethod yX5_put, .selects RX5 yX5_put yX5_put, .initialized RX5, .code yX5_put cX5_put 6 (some .int), .fieldLink RX5 27 "SoundBoard$Scene" "size" "I", .fieldLink RX5 11 "SoundBoard$Scene" "xs" "[I", .fieldLink RX5 15 "SoundBoard$Scene" "zs" "[I", .fieldLink RX5 18 "SoundBoard$Scene" "strengths" "[I", .fieldLink RX5 21 "SoundBoard$Scene" "dxs" "[I", .fieldLink RX5 24 "SoundBoard$Scene" "dzs" "[I"] ++ wsX60 ++ wsX50)
def wsX6_clear : List Cond := .code yX6_clear cX6_clear 2 (some .int) :: ([.fieldLink RX6 19 "SoundBoard" "scene" "LSoundBoard$Scene;", .fieldLink RX6 98 "SoundBoard$Scene" "size" "I"] ++ wsX60 ++ wsX50)
def wsX6_pointAt : List Cond := .code yX6_pointAt cX6_pointAt 3 (some .int) :: ([.fieldLink RX6 19 "SoundBoard" "scene" "LSoundBoard$Scene;", .fieldLink RX6 104 "SoundBoard$Scene" "xs" "[I", .fieldLink RX6 108 "SoundBoard$Scene" "zs" "[I", .fieldLink RX6 111 "SoundBoard$Scene" "strengths" "[I", .methodLink RX6 103 yX5_has, .instanceMethod yX5_has, .selects RX5 yX5_has yX5_has, .initialized RX5, .code yX5_has cX5_has 2 (some .boolean), .fieldLink RX5 27 "SoundBoard$Scene" "size" "I"] ++ wsX60 ++ wsX50)
def wsX6_hear_r1 : List Cond := [Cond.fieldLink RX6 19 "SoundBoard" "scene" "LSoundBoard$Scene;", Cond.fieldLink RX6 111 "SoundBoard$Scene" "strengths" "[I", Cond.fieldLink RX6 10 "SoundBoard" "elements" "LSoundBoard$Probe;", Cond.fieldLink RX6 104 "SoundBoard$Scene" "xs" "[I", Cond.fieldLink RX6 108 "SoundBoard$Scene" "zs" "[I", Cond.fieldLink RX6 26 "SoundBoard" "heard" "LSoundBoard$Looks;", Cond.fieldLink RX6 137 "SoundBoard$Probe" "size" "I", Cond.methodLink RX6 103 yX5_has, Cond.instanceMethod yX5_has, Cond.selects RX5 yX5_has yX5_has, Cond.initialized RX5, Cond.code yX5_has cX5_has 2 (some .boolean), Cond.fieldLink RX5 27 "SoundBoard$Scene" "size" "I", Cond.methodLink RX6 128 yX3_aim, Cond.instanceMethod yX3_aim, Cond.selects RX3 yX3_aim yX3_aim, Cond.initialized RX3, Cond.code yX3_aim cX3_aim 4 none, Cond.fieldLink RX3 79 "SoundBoard$Probe" "aimedTotal" "I", Cond.fieldLink RX3 51 "SoundBoard$Probe" "size" "I", Cond.fieldLink RX3 19 "SoundBoard$Probe" "aimedDelays" "[I", Cond.fieldLink RX3 22 "SoundBoard$Probe" "aimedWeights" "[I", Cond.methodLink RX3 82 yX3_delayOf, Cond.instanceMethod yX3_delayOf]
def wsX6_hear_r2 : List Cond := [Cond.selects RX3 yX3_delayOf yX3_delayOf, Cond.code yX3_delayOf cX3_delayOf 10 (some .int), Cond.fieldLink RX3 25 "SoundBoard$Probe" "steps" "I", Cond.constantLong RX3 68 (4), Cond.fieldLink RX3 29 "SoundBoard$Probe" "ticks" "I", Cond.constantLong RX3 70 (2), Cond.methodLink RX3 65 yX3_gap, Cond.instanceMethod yX3_gap, Cond.selects RX3 yX3_gap yX3_gap, Cond.code yX3_gap cX3_gap 3 (some .int), Cond.fieldLink RX3 9 "SoundBoard$Probe" "xs" "[I", Cond.methodLink RX3 61 Lib.Math.abs.name, Cond.static Lib.Math.abs.name, Cond.initialized "java/lang/Math", Cond.code Lib.Math.abs.name Lib.Math.abs.code 1 (some .int), Cond.methodLink RX3 57 yX3_has, Cond.instanceMethod yX3_has, Cond.selects RX3 yX3_has yX3_has, Cond.code yX3_has cX3_has 2 (some .boolean), Cond.static yX6_root, Cond.initialized RX6, Cond.code yX6_root cX6_root 9 (some .long), Cond.constantLong RX6 247 (2), Cond.methodLink RX3 86 yX3_weightOf]
def wsX6_hear_r3 : List Cond := [Cond.instanceMethod yX3_weightOf, Cond.selects RX3 yX3_weightOf yX3_weightOf, Cond.code yX3_weightOf cX3_weightOf 6 (some .int), Cond.fieldLink RX3 32 "SoundBoard$Probe" "window" "I", Cond.fieldLink RX3 35 "SoundBoard$Probe" "narrowness" "I", Cond.methodLink RX3 76 yX3_isDead, Cond.instanceMethod yX3_isDead, Cond.selects RX3 yX3_isDead yX3_isDead, Cond.code yX3_isDead cX3_isDead 2 (some .boolean), Cond.fieldLink RX3 15 "SoundBoard$Probe" "deads" "[Z", Cond.methodLink RX6 131 yX1_senderOf, Cond.instanceMethod yX1_senderOf, Cond.selects RX1 yX1_senderOf yX1_senderOf, Cond.initialized RX1, Cond.code yX1_senderOf cX1_senderOf 2 (some .int), Cond.fieldLink RX1 16 "SoundBoard$Looks" "senders" "[I", Cond.methodLink RX1 29 yX1_slotOf, Cond.instanceMethod yX1_slotOf, Cond.selects RX1 yX1_slotOf yX1_slotOf, Cond.code yX1_slotOf cX1_slotOf 2 (some .int), Cond.fieldLink RX1 19 "SoundBoard$Looks" "oldest" "I", Cond.methodLink RX1 33 yJ9_floorMod_7cf53, Cond.static yJ9_floorMod_7cf53, Cond.initialized RJ9]
def wsX6_hear_r4 : List Cond := [Cond.code yJ9_floorMod_7cf53 cJ9_floorMod_7cf53 3 (some .int), Cond.methodLink RX6 134 yX3_aimedDelay, Cond.instanceMethod yX3_aimedDelay, Cond.selects RX3 yX3_aimedDelay yX3_aimedDelay, Cond.code yX3_aimedDelay cX3_aimedDelay 2 (some .int), Cond.methodLink RX6 80 yX3_isDead, Cond.methodLink RX6 138 yX1_louder, Cond.instanceMethod yX1_louder, Cond.selects RX1 yX1_louder yX1_louder, Cond.code yX1_louder cX1_louder 6 none, Cond.fieldLink RX1 12 "SoundBoard$Looks" "samples" "[I", Cond.methodLink RX1 39 yX1_placeOf, Cond.instanceMethod yX1_placeOf, Cond.selects RX1 yX1_placeOf yX1_placeOf, Cond.code yX1_placeOf cX1_placeOf 4 (some .int)]
def wsX6_hear : List Cond := .code yX6_hear cX6_hear 7 none :: ((wsX6_hear_r1 ++ (wsX6_hear_r2 ++ (wsX6_hear_r3 ++ wsX6_hear_r4))) ++ wsX60 ++ wsX50 ++ wsX30 ++ wsX10)
def wsX6_look_r1 : List Cond := [Cond.fieldLink RX6 10 "SoundBoard" "elements" "LSoundBoard$Probe;", Cond.fieldLink RX6 83 "SoundBoard$Probe" "alive" "I", Cond.fieldLink RX6 47 "SoundBoard" "power" "LSoundBoard$Power;", Cond.fieldLink RX6 63 "SoundBoard$Power" "heat" "I", Cond.fieldLink RX6 114 "SoundBoard$Power" "most" "I", Cond.fieldLink RX6 26 "SoundBoard" "heard" "LSoundBoard$Looks;", Cond.fieldLink RX6 19 "SoundBoard" "scene" "LSoundBoard$Scene;", Cond.fieldLink RX6 98 "SoundBoard$Scene" "size" "I", Cond.fieldLink RX6 67 "SoundBoard$Looks" "size" "I", Cond.methodLink RX6 76 yX3_has, Cond.instanceMethod yX3_has, Cond.selects RX3 yX3_has yX3_has, Cond.initialized RX3, Cond.code yX3_has cX3_has 2 (some .boolean), Cond.fieldLink RX3 51 "SoundBoard$Probe" "size" "I", Cond.methodLink RX6 80 yX3_isDead, Cond.instanceMethod yX3_isDead, Cond.selects RX3 yX3_isDead yX3_isDead, Cond.code yX3_isDead cX3_isDead 2 (some .boolean), Cond.fieldLink RX3 15 "SoundBoard$Probe" "deads" "[Z", Cond.methodLink RX3 57 yX3_has, Cond.methodLink RX6 117 yX1_begin, Cond.instanceMethod yX1_begin, Cond.selects RX1 yX1_begin yX1_begin]
def wsX6_look_r2 : List Cond := [Cond.initialized RX1, Cond.code yX1_begin cX1_begin 4 (some .int), Cond.fieldLink RX1 23 "SoundBoard$Looks" "size" "I", Cond.fieldLink RX1 19 "SoundBoard$Looks" "oldest" "I", Cond.fieldLink RX1 26 "SoundBoard$Looks" "ever" "I", Cond.fieldLink RX1 16 "SoundBoard$Looks" "senders" "[I", Cond.fieldLink RX1 12 "SoundBoard$Looks" "samples" "[I", Cond.methodLink RX1 29 yX1_slotOf, Cond.instanceMethod yX1_slotOf, Cond.selects RX1 yX1_slotOf yX1_slotOf, Cond.code yX1_slotOf cX1_slotOf 2 (some .int), Cond.methodLink RX1 33 yJ9_floorMod_7cf53, Cond.static yJ9_floorMod_7cf53, Cond.initialized RJ9, Cond.code yJ9_floorMod_7cf53 cJ9_floorMod_7cf53 3 (some .int), Cond.methodLink RX6 121 yX6_hear, Cond.instanceMethod yX6_hear, Cond.selects RX6 yX6_hear yX6_hear, Cond.initialized RX6, Cond.code yX6_hear cX6_hear 7 none, Cond.fieldLink RX6 111 "SoundBoard$Scene" "strengths" "[I", Cond.fieldLink RX6 104 "SoundBoard$Scene" "xs" "[I", Cond.fieldLink RX6 108 "SoundBoard$Scene" "zs" "[I", Cond.fieldLink RX6 137 "SoundBoard$Probe" "size" "I"]
def wsX6_look_r3 : List Cond := [Cond.methodLink RX6 103 yX5_has, Cond.instanceMethod yX5_has, Cond.selects RX5 yX5_has yX5_has, Cond.initialized RX5, Cond.code yX5_has cX5_has 2 (some .boolean), Cond.fieldLink RX5 27 "SoundBoard$Scene" "size" "I", Cond.methodLink RX6 128 yX3_aim, Cond.instanceMethod yX3_aim, Cond.selects RX3 yX3_aim yX3_aim, Cond.code yX3_aim cX3_aim 4 none, Cond.fieldLink RX3 79 "SoundBoard$Probe" "aimedTotal" "I", Cond.fieldLink RX3 19 "SoundBoard$Probe" "aimedDelays" "[I", Cond.fieldLink RX3 22 "SoundBoard$Probe" "aimedWeights" "[I", Cond.methodLink RX3 82 yX3_delayOf, Cond.instanceMethod yX3_delayOf, Cond.selects RX3 yX3_delayOf yX3_delayOf, Cond.code yX3_delayOf cX3_delayOf 10 (some .int), Cond.fieldLink RX3 25 "SoundBoard$Probe" "steps" "I", Cond.constantLong RX3 68 (4), Cond.fieldLink RX3 29 "SoundBoard$Probe" "ticks" "I", Cond.constantLong RX3 70 (2), Cond.methodLink RX3 65 yX3_gap, Cond.instanceMethod yX3_gap, Cond.selects RX3 yX3_gap yX3_gap]
def wsX6_look_r4 : List Cond := [Cond.code yX3_gap cX3_gap 3 (some .int), Cond.fieldLink RX3 9 "SoundBoard$Probe" "xs" "[I", Cond.methodLink RX3 61 Lib.Math.abs.name, Cond.static Lib.Math.abs.name, Cond.initialized "java/lang/Math", Cond.code Lib.Math.abs.name Lib.Math.abs.code 1 (some .int), Cond.static yX6_root, Cond.code yX6_root cX6_root 9 (some .long), Cond.constantLong RX6 247 (2), Cond.methodLink RX3 86 yX3_weightOf, Cond.instanceMethod yX3_weightOf, Cond.selects RX3 yX3_weightOf yX3_weightOf, Cond.code yX3_weightOf cX3_weightOf 6 (some .int), Cond.fieldLink RX3 32 "SoundBoard$Probe" "window" "I", Cond.fieldLink RX3 35 "SoundBoard$Probe" "narrowness" "I", Cond.methodLink RX3 76 yX3_isDead, Cond.methodLink RX6 131 yX1_senderOf, Cond.instanceMethod yX1_senderOf, Cond.selects RX1 yX1_senderOf yX1_senderOf, Cond.code yX1_senderOf cX1_senderOf 2 (some .int), Cond.methodLink RX6 134 yX3_aimedDelay, Cond.instanceMethod yX3_aimedDelay, Cond.selects RX3 yX3_aimedDelay yX3_aimedDelay, Cond.code yX3_aimedDelay cX3_aimedDelay 2 (some .int)]
def wsX6_look_r5 : List Cond := [Cond.methodLink RX6 138 yX1_louder, Cond.instanceMethod yX1_louder, Cond.selects RX1 yX1_louder yX1_louder, Cond.code yX1_louder cX1_louder 6 none, Cond.methodLink RX1 39 yX1_placeOf, Cond.instanceMethod yX1_placeOf, Cond.selects RX1 yX1_placeOf yX1_placeOf, Cond.code yX1_placeOf cX1_placeOf 4 (some .int), Cond.methodLink RX6 125 yX5_move, Cond.instanceMethod yX5_move, Cond.selects RX5 yX5_move yX5_move, Cond.code yX5_move cX5_move 2 none, Cond.fieldLink RX5 11 "SoundBoard$Scene" "xs" "[I", Cond.fieldLink RX5 21 "SoundBoard$Scene" "dxs" "[I", Cond.methodLink RX5 31 Lib.Math.min.name, Cond.static Lib.Math.min.name, Cond.code Lib.Math.min.name Lib.Math.min.code 2 (some .int), Cond.methodLink RX5 37 Lib.Math.max.name, Cond.static Lib.Math.max.name, Cond.code Lib.Math.max.name Lib.Math.max.code 2 (some .int), Cond.fieldLink RX5 15 "SoundBoard$Scene" "zs" "[I", Cond.fieldLink RX5 24 "SoundBoard$Scene" "dzs" "[I"]
def wsX6_look : List Cond := .code yX6_look cX6_look 5 (some .int) :: ((wsX6_look_r1 ++ (wsX6_look_r2 ++ (wsX6_look_r3 ++ (wsX6_look_r4 ++ wsX6_look_r5)))) ++ wsX60 ++ wsX30 ++ wsX20 ++ wsX50 ++ wsX10)
def wsX6_sample_r1 : List Cond := [Cond.fieldLink RX6 26 "SoundBoard" "heard" "LSoundBoard$Looks;", Cond.fieldLink RX6 10 "SoundBoard" "elements" "LSoundBoard$Probe;", Cond.constant RX6 143 (-1000000), Cond.methodLink RX6 142 yX1_has, Cond.instanceMethod yX1_has, Cond.selects RX1 yX1_has yX1_has, Cond.initialized RX1, Cond.code yX1_has cX1_has 2 (some .boolean), Cond.fieldLink RX1 23 "SoundBoard$Looks" "size" "I", Cond.methodLink RX6 76 yX3_has, Cond.instanceMethod yX3_has, Cond.selects RX3 yX3_has yX3_has, Cond.initialized RX3, Cond.code yX3_has cX3_has 2 (some .boolean), Cond.fieldLink RX3 51 "SoundBoard$Probe" "size" "I", Cond.methodLink RX6 51 yX6_within, Cond.static yX6_within, Cond.initialized RX6, Cond.code yX6_within cX6_within 3 (some .boolean), Cond.methodLink RX6 144 yX1_at, Cond.instanceMethod yX1_at, Cond.selects RX1 yX1_at yX1_at, Cond.code yX1_at cX1_at 5 (some .int), Cond.fieldLink RX1 12 "SoundBoard$Looks" "samples" "[I"]
def wsX6_sample_r2 : List Cond := [Cond.methodLink RX1 39 yX1_placeOf, Cond.instanceMethod yX1_placeOf, Cond.selects RX1 yX1_placeOf yX1_placeOf, Cond.code yX1_placeOf cX1_placeOf 4 (some .int), Cond.methodLink RX1 29 yX1_slotOf, Cond.instanceMethod yX1_slotOf, Cond.selects RX1 yX1_slotOf yX1_slotOf, Cond.code yX1_slotOf cX1_slotOf 2 (some .int), Cond.fieldLink RX1 19 "SoundBoard$Looks" "oldest" "I", Cond.methodLink RX1 33 yJ9_floorMod_7cf53, Cond.static yJ9_floorMod_7cf53, Cond.initialized RJ9, Cond.code yJ9_floorMod_7cf53 cJ9_floorMod_7cf53 3 (some .int)]
def wsX6_sample : List Cond := .code yX6_sample cX6_sample 4 (some .int) :: ((wsX6_sample_r1 ++ wsX6_sample_r2) ++ wsX60 ++ wsX10 ++ wsX30)
def wsX6_window : List Cond := .code yX6_window cX6_window 4 (some .int) :: ([.fieldLink RX6 10 "SoundBoard" "elements" "LSoundBoard$Probe;", .fieldLink RX6 147 "SoundBoard$Probe" "window" "I", .fieldLink RX6 150 "SoundBoard$Probe" "narrowness" "I", .methodLink RX6 51 yX6_within, .static yX6_within, .initialized RX6, .code yX6_within cX6_within 3 (some .boolean)] ++ wsX60 ++ wsX30)
def wsX6_weight_r1 : List Cond := [Cond.fieldLink RX6 10 "SoundBoard" "elements" "LSoundBoard$Probe;", Cond.methodLink RX6 76 yX3_has, Cond.instanceMethod yX3_has, Cond.selects RX3 yX3_has yX3_has, Cond.initialized RX3, Cond.code yX3_has cX3_has 2 (some .boolean), Cond.fieldLink RX3 51 "SoundBoard$Probe" "size" "I", Cond.methodLink RX6 90 yX6_isPlace, Cond.static yX6_isPlace, Cond.initialized RX6, Cond.code yX6_isPlace cX6_isPlace 2 (some .boolean), Cond.methodLink RX6 51 yX6_within, Cond.static yX6_within, Cond.code yX6_within cX6_within 3 (some .boolean), Cond.methodLink RX6 153 yX3_weightOf, Cond.instanceMethod yX3_weightOf, Cond.selects RX3 yX3_weightOf yX3_weightOf, Cond.code yX3_weightOf cX3_weightOf 6 (some .int), Cond.fieldLink RX3 32 "SoundBoard$Probe" "window" "I", Cond.fieldLink RX3 35 "SoundBoard$Probe" "narrowness" "I", Cond.methodLink RX3 57 yX3_has, Cond.methodLink RX3 76 yX3_isDead, Cond.instanceMethod yX3_isDead, Cond.selects RX3 yX3_isDead yX3_isDead]
def wsX6_weight_r2 : List Cond := [Cond.code yX3_isDead cX3_isDead 2 (some .boolean), Cond.fieldLink RX3 15 "SoundBoard$Probe" "deads" "[Z", Cond.methodLink RX3 65 yX3_gap, Cond.instanceMethod yX3_gap, Cond.selects RX3 yX3_gap yX3_gap, Cond.code yX3_gap cX3_gap 3 (some .int), Cond.fieldLink RX3 9 "SoundBoard$Probe" "xs" "[I", Cond.methodLink RX3 61 Lib.Math.abs.name, Cond.static Lib.Math.abs.name, Cond.initialized "java/lang/Math", Cond.code Lib.Math.abs.name Lib.Math.abs.code 1 (some .int)]
def wsX6_weight : List Cond := .code yX6_weight cX6_weight 4 (some .int) :: ((wsX6_weight_r1 ++ wsX6_weight_r2) ++ wsX60 ++ wsX30)
def wsX6_aimedSum_r1 : List Cond := [Cond.fieldLink RX6 10 "SoundBoard" "elements" "LSoundBoard$Probe;", Cond.fieldLink RX6 26 "SoundBoard" "heard" "LSoundBoard$Looks;", Cond.fieldLink RX6 137 "SoundBoard$Probe" "size" "I", Cond.methodLink RX6 131 yX1_senderOf, Cond.instanceMethod yX1_senderOf, Cond.selects RX1 yX1_senderOf yX1_senderOf, Cond.initialized RX1, Cond.code yX1_senderOf cX1_senderOf 2 (some .int), Cond.fieldLink RX1 16 "SoundBoard$Looks" "senders" "[I", Cond.methodLink RX1 29 yX1_slotOf, Cond.instanceMethod yX1_slotOf, Cond.selects RX1 yX1_slotOf yX1_slotOf, Cond.code yX1_slotOf cX1_slotOf 2 (some .int), Cond.fieldLink RX1 19 "SoundBoard$Looks" "oldest" "I", Cond.methodLink RX1 33 yJ9_floorMod_7cf53, Cond.static yJ9_floorMod_7cf53, Cond.initialized RJ9, Cond.code yJ9_floorMod_7cf53 cJ9_floorMod_7cf53 3 (some .int), Cond.methodLink RX6 134 yX3_aimedDelay, Cond.instanceMethod yX3_aimedDelay, Cond.selects RX3 yX3_aimedDelay yX3_aimedDelay, Cond.initialized RX3, Cond.code yX3_aimedDelay cX3_aimedDelay 2 (some .int), Cond.fieldLink RX3 19 "SoundBoard$Probe" "aimedDelays" "[I"]
def wsX6_aimedSum_r2 : List Cond := [Cond.methodLink RX3 57 yX3_has, Cond.instanceMethod yX3_has, Cond.selects RX3 yX3_has yX3_has, Cond.code yX3_has cX3_has 2 (some .boolean), Cond.fieldLink RX3 51 "SoundBoard$Probe" "size" "I", Cond.methodLink RX6 166 yX3_aimedWeight, Cond.instanceMethod yX3_aimedWeight, Cond.selects RX3 yX3_aimedWeight yX3_aimedWeight, Cond.code yX3_aimedWeight cX3_aimedWeight 2 (some .int), Cond.fieldLink RX3 22 "SoundBoard$Probe" "aimedWeights" "[I", Cond.methodLink RX6 144 yX1_at, Cond.instanceMethod yX1_at, Cond.selects RX1 yX1_at yX1_at, Cond.code yX1_at cX1_at 5 (some .int), Cond.fieldLink RX1 12 "SoundBoard$Looks" "samples" "[I", Cond.methodLink RX1 39 yX1_placeOf, Cond.instanceMethod yX1_placeOf, Cond.selects RX1 yX1_placeOf yX1_placeOf, Cond.code yX1_placeOf cX1_placeOf 4 (some .int)]
def wsX6_aimedSum : List Cond := .code yX6_aimedSum cX6_aimedSum 6 (some .int) :: ((wsX6_aimedSum_r1 ++ wsX6_aimedSum_r2) ++ wsX60 ++ wsX30 ++ wsX10)
def wsX6_sum_r1 : List Cond := [Cond.fieldLink RX6 26 "SoundBoard" "heard" "LSoundBoard$Looks;", Cond.constant RX6 156 (-1000000000), Cond.fieldLink RX6 10 "SoundBoard" "elements" "LSoundBoard$Probe;", Cond.methodLink RX6 142 yX1_has, Cond.instanceMethod yX1_has, Cond.selects RX1 yX1_has yX1_has, Cond.initialized RX1, Cond.code yX1_has cX1_has 2 (some .boolean), Cond.fieldLink RX1 23 "SoundBoard$Looks" "size" "I", Cond.methodLink RX6 90 yX6_isPlace, Cond.static yX6_isPlace, Cond.initialized RX6, Cond.code yX6_isPlace cX6_isPlace 2 (some .boolean), Cond.methodLink RX6 51 yX6_within, Cond.static yX6_within, Cond.code yX6_within cX6_within 3 (some .boolean), Cond.methodLink RX6 128 yX3_aim, Cond.instanceMethod yX3_aim, Cond.selects RX3 yX3_aim yX3_aim, Cond.initialized RX3, Cond.code yX3_aim cX3_aim 4 none, Cond.fieldLink RX3 79 "SoundBoard$Probe" "aimedTotal" "I", Cond.fieldLink RX3 51 "SoundBoard$Probe" "size" "I", Cond.fieldLink RX3 19 "SoundBoard$Probe" "aimedDelays" "[I"]
def wsX6_sum_r2 : List Cond := [Cond.fieldLink RX3 22 "SoundBoard$Probe" "aimedWeights" "[I", Cond.methodLink RX3 82 yX3_delayOf, Cond.instanceMethod yX3_delayOf, Cond.selects RX3 yX3_delayOf yX3_delayOf, Cond.code yX3_delayOf cX3_delayOf 10 (some .int), Cond.fieldLink RX3 25 "SoundBoard$Probe" "steps" "I", Cond.constantLong RX3 68 (4), Cond.fieldLink RX3 29 "SoundBoard$Probe" "ticks" "I", Cond.constantLong RX3 70 (2), Cond.methodLink RX3 65 yX3_gap, Cond.instanceMethod yX3_gap, Cond.selects RX3 yX3_gap yX3_gap, Cond.code yX3_gap cX3_gap 3 (some .int), Cond.fieldLink RX3 9 "SoundBoard$Probe" "xs" "[I", Cond.methodLink RX3 61 Lib.Math.abs.name, Cond.static Lib.Math.abs.name, Cond.initialized "java/lang/Math", Cond.code Lib.Math.abs.name Lib.Math.abs.code 1 (some .int), Cond.methodLink RX3 57 yX3_has, Cond.instanceMethod yX3_has, Cond.selects RX3 yX3_has yX3_has, Cond.code yX3_has cX3_has 2 (some .boolean), Cond.static yX6_root, Cond.code yX6_root cX6_root 9 (some .long)]
def wsX6_sum_r3 : List Cond := [Cond.constantLong RX6 247 (2), Cond.methodLink RX3 86 yX3_weightOf, Cond.instanceMethod yX3_weightOf, Cond.selects RX3 yX3_weightOf yX3_weightOf, Cond.code yX3_weightOf cX3_weightOf 6 (some .int), Cond.fieldLink RX3 32 "SoundBoard$Probe" "window" "I", Cond.fieldLink RX3 35 "SoundBoard$Probe" "narrowness" "I", Cond.methodLink RX3 76 yX3_isDead, Cond.instanceMethod yX3_isDead, Cond.selects RX3 yX3_isDead yX3_isDead, Cond.code yX3_isDead cX3_isDead 2 (some .boolean), Cond.fieldLink RX3 15 "SoundBoard$Probe" "deads" "[Z", Cond.methodLink RX6 157 yX6_aimedSum, Cond.instanceMethod yX6_aimedSum, Cond.selects RX6 yX6_aimedSum yX6_aimedSum, Cond.code yX6_aimedSum cX6_aimedSum 6 (some .int), Cond.fieldLink RX6 137 "SoundBoard$Probe" "size" "I", Cond.methodLink RX6 131 yX1_senderOf, Cond.instanceMethod yX1_senderOf, Cond.selects RX1 yX1_senderOf yX1_senderOf, Cond.code yX1_senderOf cX1_senderOf 2 (some .int), Cond.fieldLink RX1 16 "SoundBoard$Looks" "senders" "[I", Cond.methodLink RX1 29 yX1_slotOf, Cond.instanceMethod yX1_slotOf]
def wsX6_sum_r4 : List Cond := [Cond.selects RX1 yX1_slotOf yX1_slotOf, Cond.code yX1_slotOf cX1_slotOf 2 (some .int), Cond.fieldLink RX1 19 "SoundBoard$Looks" "oldest" "I", Cond.methodLink RX1 33 yJ9_floorMod_7cf53, Cond.static yJ9_floorMod_7cf53, Cond.initialized RJ9, Cond.code yJ9_floorMod_7cf53 cJ9_floorMod_7cf53 3 (some .int), Cond.methodLink RX6 134 yX3_aimedDelay, Cond.instanceMethod yX3_aimedDelay, Cond.selects RX3 yX3_aimedDelay yX3_aimedDelay, Cond.code yX3_aimedDelay cX3_aimedDelay 2 (some .int), Cond.methodLink RX6 166 yX3_aimedWeight, Cond.instanceMethod yX3_aimedWeight, Cond.selects RX3 yX3_aimedWeight yX3_aimedWeight, Cond.code yX3_aimedWeight cX3_aimedWeight 2 (some .int), Cond.methodLink RX6 144 yX1_at, Cond.instanceMethod yX1_at, Cond.selects RX1 yX1_at yX1_at, Cond.code yX1_at cX1_at 5 (some .int), Cond.fieldLink RX1 12 "SoundBoard$Looks" "samples" "[I", Cond.methodLink RX1 39 yX1_placeOf, Cond.instanceMethod yX1_placeOf, Cond.selects RX1 yX1_placeOf yX1_placeOf, Cond.code yX1_placeOf cX1_placeOf 4 (some .int)]
def wsX6_sum : List Cond := .code yX6_sum cX6_sum 4 (some .int) :: ((wsX6_sum_r1 ++ (wsX6_sum_r2 ++ (wsX6_sum_r3 ++ wsX6_sum_r4))) ++ wsX60 ++ wsX10 ++ wsX30)
def wsX6_areLooks : List Cond := .code yX6_areLooks cX6_areLooks 2 (some .boolean) :: ([.fieldLink RX6 26 "SoundBoard" "heard" "LSoundBoard$Looks;", .fieldLink RX6 67 "SoundBoard$Looks" "size" "I"] ++ wsX60 ++ wsX10)
def wsX6_joinedMean_r1 : List Cond := [Cond.fieldLink RX6 10 "SoundBoard" "elements" "LSoundBoard$Probe;", Cond.fieldLink RX6 26 "SoundBoard" "heard" "LSoundBoard$Looks;", Cond.fieldLink RX6 67 "SoundBoard$Looks" "size" "I", Cond.fieldLink RX6 169 "SoundBoard$Probe" "aimedTotal" "I", Cond.methodLink RX6 90 yX6_isPlace, Cond.static yX6_isPlace, Cond.initialized RX6, Cond.code yX6_isPlace cX6_isPlace 2 (some .boolean), Cond.methodLink RX6 51 yX6_within, Cond.static yX6_within, Cond.code yX6_within cX6_within 3 (some .boolean), Cond.methodLink RX6 128 yX3_aim, Cond.instanceMethod yX3_aim, Cond.selects RX3 yX3_aim yX3_aim, Cond.initialized RX3, Cond.code yX3_aim cX3_aim 4 none, Cond.fieldLink RX3 79 "SoundBoard$Probe" "aimedTotal" "I", Cond.fieldLink RX3 51 "SoundBoard$Probe" "size" "I", Cond.fieldLink RX3 19 "SoundBoard$Probe" "aimedDelays" "[I", Cond.fieldLink RX3 22 "SoundBoard$Probe" "aimedWeights" "[I", Cond.methodLink RX3 82 yX3_delayOf, Cond.instanceMethod yX3_delayOf, Cond.selects RX3 yX3_delayOf yX3_delayOf, Cond.code yX3_delayOf cX3_delayOf 10 (some .int)]
def wsX6_joinedMean_r2 : List Cond := [Cond.fieldLink RX3 25 "SoundBoard$Probe" "steps" "I", Cond.constantLong RX3 68 (4), Cond.fieldLink RX3 29 "SoundBoard$Probe" "ticks" "I", Cond.constantLong RX3 70 (2), Cond.methodLink RX3 65 yX3_gap, Cond.instanceMethod yX3_gap, Cond.selects RX3 yX3_gap yX3_gap, Cond.code yX3_gap cX3_gap 3 (some .int), Cond.fieldLink RX3 9 "SoundBoard$Probe" "xs" "[I", Cond.methodLink RX3 61 Lib.Math.abs.name, Cond.static Lib.Math.abs.name, Cond.initialized "java/lang/Math", Cond.code Lib.Math.abs.name Lib.Math.abs.code 1 (some .int), Cond.methodLink RX3 57 yX3_has, Cond.instanceMethod yX3_has, Cond.selects RX3 yX3_has yX3_has, Cond.code yX3_has cX3_has 2 (some .boolean), Cond.static yX6_root, Cond.code yX6_root cX6_root 9 (some .long), Cond.constantLong RX6 247 (2), Cond.methodLink RX3 86 yX3_weightOf, Cond.instanceMethod yX3_weightOf, Cond.selects RX3 yX3_weightOf yX3_weightOf, Cond.code yX3_weightOf cX3_weightOf 6 (some .int)]
def wsX6_joinedMean_r3 : List Cond := [Cond.fieldLink RX3 32 "SoundBoard$Probe" "window" "I", Cond.fieldLink RX3 35 "SoundBoard$Probe" "narrowness" "I", Cond.methodLink RX3 76 yX3_isDead, Cond.instanceMethod yX3_isDead, Cond.selects RX3 yX3_isDead yX3_isDead, Cond.code yX3_isDead cX3_isDead 2 (some .boolean), Cond.fieldLink RX3 15 "SoundBoard$Probe" "deads" "[Z", Cond.methodLink RX6 157 yX6_aimedSum, Cond.instanceMethod yX6_aimedSum, Cond.selects RX6 yX6_aimedSum yX6_aimedSum, Cond.code yX6_aimedSum cX6_aimedSum 6 (some .int), Cond.fieldLink RX6 137 "SoundBoard$Probe" "size" "I", Cond.methodLink RX6 131 yX1_senderOf, Cond.instanceMethod yX1_senderOf, Cond.selects RX1 yX1_senderOf yX1_senderOf, Cond.initialized RX1, Cond.code yX1_senderOf cX1_senderOf 2 (some .int), Cond.fieldLink RX1 16 "SoundBoard$Looks" "senders" "[I", Cond.methodLink RX1 29 yX1_slotOf, Cond.instanceMethod yX1_slotOf, Cond.selects RX1 yX1_slotOf yX1_slotOf, Cond.code yX1_slotOf cX1_slotOf 2 (some .int), Cond.fieldLink RX1 19 "SoundBoard$Looks" "oldest" "I", Cond.methodLink RX1 33 yJ9_floorMod_7cf53]
def wsX6_joinedMean_r4 : List Cond := [Cond.static yJ9_floorMod_7cf53, Cond.initialized RJ9, Cond.code yJ9_floorMod_7cf53 cJ9_floorMod_7cf53 3 (some .int), Cond.methodLink RX6 134 yX3_aimedDelay, Cond.instanceMethod yX3_aimedDelay, Cond.selects RX3 yX3_aimedDelay yX3_aimedDelay, Cond.code yX3_aimedDelay cX3_aimedDelay 2 (some .int), Cond.methodLink RX6 166 yX3_aimedWeight, Cond.instanceMethod yX3_aimedWeight, Cond.selects RX3 yX3_aimedWeight yX3_aimedWeight, Cond.code yX3_aimedWeight cX3_aimedWeight 2 (some .int), Cond.methodLink RX6 144 yX1_at, Cond.instanceMethod yX1_at, Cond.selects RX1 yX1_at yX1_at, Cond.code yX1_at cX1_at 5 (some .int), Cond.fieldLink RX1 12 "SoundBoard$Looks" "samples" "[I", Cond.methodLink RX1 39 yX1_placeOf, Cond.instanceMethod yX1_placeOf, Cond.selects RX1 yX1_placeOf yX1_placeOf, Cond.code yX1_placeOf cX1_placeOf 4 (some .int)]
def wsX6_joinedMean : List Cond := .code yX6_joinedMean cX6_joinedMean 7 (some .int) :: ((wsX6_joinedMean_r1 ++ (wsX6_joinedMean_r2 ++ (wsX6_joinedMean_r3 ++ wsX6_joinedMean_r4))) ++ wsX60 ++ wsX10 ++ wsX30)
def wsX6_mean_r1 : List Cond := [Cond.constant RX6 156 (-1000000000), Cond.methodLink RX6 160 yX6_areLooks, Cond.instanceMethod yX6_areLooks, Cond.selects RX6 yX6_areLooks yX6_areLooks, Cond.initialized RX6, Cond.code yX6_areLooks cX6_areLooks 2 (some .boolean), Cond.fieldLink RX6 26 "SoundBoard" "heard" "LSoundBoard$Looks;", Cond.fieldLink RX6 67 "SoundBoard$Looks" "size" "I", Cond.methodLink RX6 90 yX6_isPlace, Cond.static yX6_isPlace, Cond.code yX6_isPlace cX6_isPlace 2 (some .boolean), Cond.methodLink RX6 51 yX6_within, Cond.static yX6_within, Cond.code yX6_within cX6_within 3 (some .boolean), Cond.methodLink RX6 163 yX6_joinedMean, Cond.instanceMethod yX6_joinedMean, Cond.selects RX6 yX6_joinedMean yX6_joinedMean, Cond.code yX6_joinedMean cX6_joinedMean 7 (some .int), Cond.fieldLink RX6 10 "SoundBoard" "elements" "LSoundBoard$Probe;", Cond.fieldLink RX6 169 "SoundBoard$Probe" "aimedTotal" "I", Cond.methodLink RX6 128 yX3_aim, Cond.instanceMethod yX3_aim, Cond.selects RX3 yX3_aim yX3_aim, Cond.initialized RX3]
def wsX6_mean_r2 : List Cond := [Cond.code yX3_aim cX3_aim 4 none, Cond.fieldLink RX3 79 "SoundBoard$Probe" "aimedTotal" "I", Cond.fieldLink RX3 51 "SoundBoard$Probe" "size" "I", Cond.fieldLink RX3 19 "SoundBoard$Probe" "aimedDelays" "[I", Cond.fieldLink RX3 22 "SoundBoard$Probe" "aimedWeights" "[I", Cond.methodLink RX3 82 yX3_delayOf, Cond.instanceMethod yX3_delayOf, Cond.selects RX3 yX3_delayOf yX3_delayOf, Cond.code yX3_delayOf cX3_delayOf 10 (some .int), Cond.fieldLink RX3 25 "SoundBoard$Probe" "steps" "I", Cond.constantLong RX3 68 (4), Cond.fieldLink RX3 29 "SoundBoard$Probe" "ticks" "I", Cond.constantLong RX3 70 (2), Cond.methodLink RX3 65 yX3_gap, Cond.instanceMethod yX3_gap, Cond.selects RX3 yX3_gap yX3_gap, Cond.code yX3_gap cX3_gap 3 (some .int), Cond.fieldLink RX3 9 "SoundBoard$Probe" "xs" "[I", Cond.methodLink RX3 61 Lib.Math.abs.name, Cond.static Lib.Math.abs.name, Cond.initialized "java/lang/Math", Cond.code Lib.Math.abs.name Lib.Math.abs.code 1 (some .int), Cond.methodLink RX3 57 yX3_has, Cond.instanceMethod yX3_has]
def wsX6_mean_r3 : List Cond := [Cond.selects RX3 yX3_has yX3_has, Cond.code yX3_has cX3_has 2 (some .boolean), Cond.static yX6_root, Cond.code yX6_root cX6_root 9 (some .long), Cond.constantLong RX6 247 (2), Cond.methodLink RX3 86 yX3_weightOf, Cond.instanceMethod yX3_weightOf, Cond.selects RX3 yX3_weightOf yX3_weightOf, Cond.code yX3_weightOf cX3_weightOf 6 (some .int), Cond.fieldLink RX3 32 "SoundBoard$Probe" "window" "I", Cond.fieldLink RX3 35 "SoundBoard$Probe" "narrowness" "I", Cond.methodLink RX3 76 yX3_isDead, Cond.instanceMethod yX3_isDead, Cond.selects RX3 yX3_isDead yX3_isDead, Cond.code yX3_isDead cX3_isDead 2 (some .boolean), Cond.fieldLink RX3 15 "SoundBoard$Probe" "deads" "[Z", Cond.methodLink RX6 157 yX6_aimedSum, Cond.instanceMethod yX6_aimedSum, Cond.selects RX6 yX6_aimedSum yX6_aimedSum, Cond.code yX6_aimedSum cX6_aimedSum 6 (some .int), Cond.fieldLink RX6 137 "SoundBoard$Probe" "size" "I", Cond.methodLink RX6 131 yX1_senderOf, Cond.instanceMethod yX1_senderOf, Cond.selects RX1 yX1_senderOf yX1_senderOf]
def wsX6_mean_r4 : List Cond := [Cond.initialized RX1, Cond.code yX1_senderOf cX1_senderOf 2 (some .int), Cond.fieldLink RX1 16 "SoundBoard$Looks" "senders" "[I", Cond.methodLink RX1 29 yX1_slotOf, Cond.instanceMethod yX1_slotOf, Cond.selects RX1 yX1_slotOf yX1_slotOf, Cond.code yX1_slotOf cX1_slotOf 2 (some .int), Cond.fieldLink RX1 19 "SoundBoard$Looks" "oldest" "I", Cond.methodLink RX1 33 yJ9_floorMod_7cf53, Cond.static yJ9_floorMod_7cf53, Cond.initialized RJ9, Cond.code yJ9_floorMod_7cf53 cJ9_floorMod_7cf53 3 (some .int), Cond.methodLink RX6 134 yX3_aimedDelay, Cond.instanceMethod yX3_aimedDelay, Cond.selects RX3 yX3_aimedDelay yX3_aimedDelay, Cond.code yX3_aimedDelay cX3_aimedDelay 2 (some .int), Cond.methodLink RX6 166 yX3_aimedWeight, Cond.instanceMethod yX3_aimedWeight, Cond.selects RX3 yX3_aimedWeight yX3_aimedWeight, Cond.code yX3_aimedWeight cX3_aimedWeight 2 (some .int), Cond.methodLink RX6 144 yX1_at, Cond.instanceMethod yX1_at, Cond.selects RX1 yX1_at yX1_at, Cond.code yX1_at cX1_at 5 (some .int)]
def wsX6_mean_r5 : List Cond := [Cond.fieldLink RX1 12 "SoundBoard$Looks" "samples" "[I", Cond.methodLink RX1 39 yX1_placeOf, Cond.instanceMethod yX1_placeOf, Cond.selects RX1 yX1_placeOf yX1_placeOf, Cond.code yX1_placeOf cX1_placeOf 4 (some .int)]
def wsX6_mean : List Cond := .code yX6_mean cX6_mean 4 (some .int) :: ((wsX6_mean_r1 ++ (wsX6_mean_r2 ++ (wsX6_mean_r3 ++ (wsX6_mean_r4 ++ wsX6_mean_r5)))) ++ wsX60 ++ wsX10 ++ wsX30)
def wsX6_picture_r1 : List Cond := [Cond.fieldLink RX6 33 "SoundBoard" "ring" "LSoundBoard$Ring;", Cond.fieldLink RX6 178 "SoundBoard$Ring" "size" "I", Cond.methodLink RX6 160 yX6_areLooks, Cond.instanceMethod yX6_areLooks, Cond.selects RX6 yX6_areLooks yX6_areLooks, Cond.initialized RX6, Cond.code yX6_areLooks cX6_areLooks 2 (some .boolean), Cond.fieldLink RX6 26 "SoundBoard" "heard" "LSoundBoard$Looks;", Cond.fieldLink RX6 67 "SoundBoard$Looks" "size" "I", Cond.methodLink RX6 90 yX6_isPlace, Cond.static yX6_isPlace, Cond.code yX6_isPlace cX6_isPlace 2 (some .boolean), Cond.methodLink RX6 51 yX6_within, Cond.static yX6_within, Cond.code yX6_within cX6_within 3 (some .boolean), Cond.methodLink RX6 172 yX4_begin, Cond.instanceMethod yX4_begin, Cond.selects RX4 yX4_begin yX4_begin, Cond.initialized RX4, Cond.code yX4_begin cX4_begin 4 (some .int), Cond.fieldLink RX4 23 "SoundBoard$Ring" "size" "I", Cond.fieldLink RX4 19 "SoundBoard$Ring" "oldest" "I", Cond.fieldLink RX4 13 "SoundBoard$Ring" "widths" "[I", Cond.fieldLink RX4 16 "SoundBoard$Ring" "heights" "[I"]
def wsX6_picture_r2 : List Cond := [Cond.methodLink RX4 26 yX4_slotOf, Cond.instanceMethod yX4_slotOf, Cond.selects RX4 yX4_slotOf yX4_slotOf, Cond.code yX4_slotOf cX4_slotOf 2 (some .int), Cond.methodLink RX4 30 yJ9_floorMod_7cf53, Cond.static yJ9_floorMod_7cf53, Cond.initialized RJ9, Cond.code yJ9_floorMod_7cf53 cJ9_floorMod_7cf53 3 (some .int), Cond.methodLink RX6 163 yX6_joinedMean, Cond.instanceMethod yX6_joinedMean, Cond.selects RX6 yX6_joinedMean yX6_joinedMean, Cond.code yX6_joinedMean cX6_joinedMean 7 (some .int), Cond.fieldLink RX6 10 "SoundBoard" "elements" "LSoundBoard$Probe;", Cond.fieldLink RX6 169 "SoundBoard$Probe" "aimedTotal" "I", Cond.methodLink RX6 128 yX3_aim, Cond.instanceMethod yX3_aim, Cond.selects RX3 yX3_aim yX3_aim, Cond.initialized RX3, Cond.code yX3_aim cX3_aim 4 none, Cond.fieldLink RX3 79 "SoundBoard$Probe" "aimedTotal" "I", Cond.fieldLink RX3 51 "SoundBoard$Probe" "size" "I", Cond.fieldLink RX3 19 "SoundBoard$Probe" "aimedDelays" "[I", Cond.fieldLink RX3 22 "SoundBoard$Probe" "aimedWeights" "[I", Cond.methodLink RX3 82 yX3_delayOf]
def wsX6_picture_r3 : List Cond := [Cond.instanceMethod yX3_delayOf, Cond.selects RX3 yX3_delayOf yX3_delayOf, Cond.code yX3_delayOf cX3_delayOf 10 (some .int), Cond.fieldLink RX3 25 "SoundBoard$Probe" "steps" "I", Cond.constantLong RX3 68 (4), Cond.fieldLink RX3 29 "SoundBoard$Probe" "ticks" "I", Cond.constantLong RX3 70 (2), Cond.methodLink RX3 65 yX3_gap, Cond.instanceMethod yX3_gap, Cond.selects RX3 yX3_gap yX3_gap, Cond.code yX3_gap cX3_gap 3 (some .int), Cond.fieldLink RX3 9 "SoundBoard$Probe" "xs" "[I", Cond.methodLink RX3 61 Lib.Math.abs.name, Cond.static Lib.Math.abs.name, Cond.initialized "java/lang/Math", Cond.code Lib.Math.abs.name Lib.Math.abs.code 1 (some .int), Cond.methodLink RX3 57 yX3_has, Cond.instanceMethod yX3_has, Cond.selects RX3 yX3_has yX3_has, Cond.code yX3_has cX3_has 2 (some .boolean), Cond.static yX6_root, Cond.code yX6_root cX6_root 9 (some .long), Cond.constantLong RX6 247 (2), Cond.methodLink RX3 86 yX3_weightOf]
def wsX6_picture_r4 : List Cond := [Cond.instanceMethod yX3_weightOf, Cond.selects RX3 yX3_weightOf yX3_weightOf, Cond.code yX3_weightOf cX3_weightOf 6 (some .int), Cond.fieldLink RX3 32 "SoundBoard$Probe" "window" "I", Cond.fieldLink RX3 35 "SoundBoard$Probe" "narrowness" "I", Cond.methodLink RX3 76 yX3_isDead, Cond.instanceMethod yX3_isDead, Cond.selects RX3 yX3_isDead yX3_isDead, Cond.code yX3_isDead cX3_isDead 2 (some .boolean), Cond.fieldLink RX3 15 "SoundBoard$Probe" "deads" "[Z", Cond.methodLink RX6 157 yX6_aimedSum, Cond.instanceMethod yX6_aimedSum, Cond.selects RX6 yX6_aimedSum yX6_aimedSum, Cond.code yX6_aimedSum cX6_aimedSum 6 (some .int), Cond.fieldLink RX6 137 "SoundBoard$Probe" "size" "I", Cond.methodLink RX6 131 yX1_senderOf, Cond.instanceMethod yX1_senderOf, Cond.selects RX1 yX1_senderOf yX1_senderOf, Cond.initialized RX1, Cond.code yX1_senderOf cX1_senderOf 2 (some .int), Cond.fieldLink RX1 16 "SoundBoard$Looks" "senders" "[I", Cond.methodLink RX1 29 yX1_slotOf, Cond.instanceMethod yX1_slotOf, Cond.selects RX1 yX1_slotOf yX1_slotOf]
def wsX6_picture_r5 : List Cond := [Cond.code yX1_slotOf cX1_slotOf 2 (some .int), Cond.fieldLink RX1 19 "SoundBoard$Looks" "oldest" "I", Cond.methodLink RX1 33 yJ9_floorMod_7cf53, Cond.methodLink RX6 134 yX3_aimedDelay, Cond.instanceMethod yX3_aimedDelay, Cond.selects RX3 yX3_aimedDelay yX3_aimedDelay, Cond.code yX3_aimedDelay cX3_aimedDelay 2 (some .int), Cond.methodLink RX6 166 yX3_aimedWeight, Cond.instanceMethod yX3_aimedWeight, Cond.selects RX3 yX3_aimedWeight yX3_aimedWeight, Cond.code yX3_aimedWeight cX3_aimedWeight 2 (some .int), Cond.methodLink RX6 144 yX1_at, Cond.instanceMethod yX1_at, Cond.selects RX1 yX1_at yX1_at, Cond.code yX1_at cX1_at 5 (some .int), Cond.fieldLink RX1 12 "SoundBoard$Looks" "samples" "[I", Cond.methodLink RX1 39 yX1_placeOf, Cond.instanceMethod yX1_placeOf, Cond.selects RX1 yX1_placeOf yX1_placeOf, Cond.code yX1_placeOf cX1_placeOf 4 (some .int), Cond.methodLink RX6 175 yX4_set, Cond.instanceMethod yX4_set, Cond.selects RX4 yX4_set yX4_set, Cond.code yX4_set cX4_set 4 none]
def wsX6_picture_r6 : List Cond := [Cond.fieldLink RX4 9 "SoundBoard$Ring" "pixels" "[I", Cond.methodLink RX4 36 yX4_isSlot, Cond.instanceMethod yX4_isSlot, Cond.selects RX4 yX4_isSlot yX4_isSlot, Cond.code yX4_isSlot cX4_isSlot 2 (some .boolean)]
def wsX6_picture : List Cond := .code yX6_picture cX6_picture 11 (some .int) :: ((wsX6_picture_r1 ++ (wsX6_picture_r2 ++ (wsX6_picture_r3 ++ (wsX6_picture_r4 ++ (wsX6_picture_r5 ++ wsX6_picture_r6))))) ++ wsX60 ++ wsX40 ++ wsX10 ++ wsX30)
def wsX6_pixel_r1 : List Cond := [Cond.fieldLink RX6 33 "SoundBoard" "ring" "LSoundBoard$Ring;", Cond.constant RX6 156 (-1000000000), Cond.methodLink RX6 179 yX4_has, Cond.instanceMethod yX4_has, Cond.selects RX4 yX4_has yX4_has, Cond.initialized RX4, Cond.code yX4_has cX4_has 2 (some .boolean), Cond.fieldLink RX4 23 "SoundBoard$Ring" "size" "I", Cond.methodLink RX6 180 yX4_slotOf, Cond.instanceMethod yX4_slotOf, Cond.selects RX4 yX4_slotOf yX4_slotOf, Cond.code yX4_slotOf cX4_slotOf 2 (some .int), Cond.fieldLink RX4 19 "SoundBoard$Ring" "oldest" "I", Cond.methodLink RX4 30 yJ9_floorMod_7cf53, Cond.static yJ9_floorMod_7cf53, Cond.initialized RJ9, Cond.code yJ9_floorMod_7cf53 cJ9_floorMod_7cf53 3 (some .int), Cond.methodLink RX6 183 yX4_widthOf, Cond.instanceMethod yX4_widthOf, Cond.selects RX4 yX4_widthOf yX4_widthOf, Cond.code yX4_widthOf cX4_widthOf 2 (some .int), Cond.fieldLink RX4 13 "SoundBoard$Ring" "widths" "[I", Cond.methodLink RX4 36 yX4_isSlot, Cond.instanceMethod yX4_isSlot]
def wsX6_pixel_r2 : List Cond := [Cond.selects RX4 yX4_isSlot yX4_isSlot, Cond.code yX4_isSlot cX4_isSlot 2 (some .boolean), Cond.methodLink RX6 51 yX6_within, Cond.static yX6_within, Cond.initialized RX6, Cond.code yX6_within cX6_within 3 (some .boolean), Cond.methodLink RX6 186 yX4_heightOf, Cond.instanceMethod yX4_heightOf, Cond.selects RX4 yX4_heightOf yX4_heightOf, Cond.code yX4_heightOf cX4_heightOf 2 (some .int), Cond.fieldLink RX4 16 "SoundBoard$Ring" "heights" "[I", Cond.methodLink RX6 189 yX4_get, Cond.instanceMethod yX4_get, Cond.selects RX4 yX4_get yX4_get, Cond.code yX4_get cX4_get 3 (some .int), Cond.fieldLink RX4 9 "SoundBoard$Ring" "pixels" "[I"]
def wsX6_pixel : List Cond := .code yX6_pixel cX6_pixel 6 (some .int) :: ((wsX6_pixel_r1 ++ wsX6_pixel_r2) ++ wsX60 ++ wsX40)
def wsX6_about_r1 : List Cond := [Cond.fieldLink RX6 33 "SoundBoard" "ring" "LSoundBoard$Ring;", Cond.methodLink RX6 179 yX4_has, Cond.instanceMethod yX4_has, Cond.selects RX4 yX4_has yX4_has, Cond.initialized RX4, Cond.code yX4_has cX4_has 2 (some .boolean), Cond.fieldLink RX4 23 "SoundBoard$Ring" "size" "I", Cond.methodLink RX6 180 yX4_slotOf, Cond.instanceMethod yX4_slotOf, Cond.selects RX4 yX4_slotOf yX4_slotOf, Cond.code yX4_slotOf cX4_slotOf 2 (some .int), Cond.fieldLink RX4 19 "SoundBoard$Ring" "oldest" "I", Cond.methodLink RX4 30 yJ9_floorMod_7cf53, Cond.static yJ9_floorMod_7cf53, Cond.initialized RJ9, Cond.code yJ9_floorMod_7cf53 cJ9_floorMod_7cf53 3 (some .int), Cond.methodLink RX6 183 yX4_widthOf, Cond.instanceMethod yX4_widthOf, Cond.selects RX4 yX4_widthOf yX4_widthOf, Cond.code yX4_widthOf cX4_widthOf 2 (some .int), Cond.fieldLink RX4 13 "SoundBoard$Ring" "widths" "[I", Cond.methodLink RX4 36 yX4_isSlot, Cond.instanceMethod yX4_isSlot, Cond.selects RX4 yX4_isSlot yX4_isSlot]
def wsX6_about_r2 : List Cond := [Cond.code yX4_isSlot cX4_isSlot 2 (some .boolean), Cond.methodLink RX6 186 yX4_heightOf, Cond.instanceMethod yX4_heightOf, Cond.selects RX4 yX4_heightOf yX4_heightOf, Cond.code yX4_heightOf cX4_heightOf 2 (some .int), Cond.fieldLink RX4 16 "SoundBoard$Ring" "heights" "[I", Cond.methodLink RX6 192 yX4_firstGreatest, Cond.instanceMethod yX4_firstGreatest, Cond.selects RX4 yX4_firstGreatest yX4_firstGreatest, Cond.code yX4_firstGreatest cX4_firstGreatest 4 (some .int), Cond.methodLink RX4 40 yX4_widthOf, Cond.methodLink RX4 43 yX4_heightOf, Cond.methodLink RX4 46 yX4_get, Cond.instanceMethod yX4_get, Cond.selects RX4 yX4_get yX4_get, Cond.code yX4_get cX4_get 3 (some .int), Cond.fieldLink RX4 9 "SoundBoard$Ring" "pixels" "[I", Cond.methodLink RX6 189 yX4_get]
def wsX6_about : List Cond := .code yX6_about cX6_about 4 (some .int) :: ((wsX6_about_r1 ++ wsX6_about_r2) ++ wsX60 ++ wsX40)
def wsX6_differ_r1 : List Cond := [Cond.fieldLink RX6 33 "SoundBoard" "ring" "LSoundBoard$Ring;", Cond.fieldLink RX6 178 "SoundBoard$Ring" "size" "I", Cond.methodLink RX6 179 yX4_has, Cond.instanceMethod yX4_has, Cond.selects RX4 yX4_has yX4_has, Cond.initialized RX4, Cond.code yX4_has cX4_has 2 (some .boolean), Cond.fieldLink RX4 23 "SoundBoard$Ring" "size" "I", Cond.methodLink RX6 180 yX4_slotOf, Cond.instanceMethod yX4_slotOf, Cond.selects RX4 yX4_slotOf yX4_slotOf, Cond.code yX4_slotOf cX4_slotOf 2 (some .int), Cond.fieldLink RX4 19 "SoundBoard$Ring" "oldest" "I", Cond.methodLink RX4 30 yJ9_floorMod_7cf53, Cond.static yJ9_floorMod_7cf53, Cond.initialized RJ9, Cond.code yJ9_floorMod_7cf53 cJ9_floorMod_7cf53 3 (some .int), Cond.methodLink RX6 183 yX4_widthOf, Cond.instanceMethod yX4_widthOf, Cond.selects RX4 yX4_widthOf yX4_widthOf, Cond.code yX4_widthOf cX4_widthOf 2 (some .int), Cond.fieldLink RX4 13 "SoundBoard$Ring" "widths" "[I", Cond.methodLink RX4 36 yX4_isSlot, Cond.instanceMethod yX4_isSlot]
def wsX6_differ_r2 : List Cond := [Cond.selects RX4 yX4_isSlot yX4_isSlot, Cond.code yX4_isSlot cX4_isSlot 2 (some .boolean), Cond.methodLink RX6 186 yX4_heightOf, Cond.instanceMethod yX4_heightOf, Cond.selects RX4 yX4_heightOf yX4_heightOf, Cond.code yX4_heightOf cX4_heightOf 2 (some .int), Cond.fieldLink RX4 16 "SoundBoard$Ring" "heights" "[I", Cond.methodLink RX6 172 yX4_begin, Cond.instanceMethod yX4_begin, Cond.selects RX4 yX4_begin yX4_begin, Cond.code yX4_begin cX4_begin 4 (some .int), Cond.methodLink RX4 26 yX4_slotOf, Cond.methodLink RX6 189 yX4_get, Cond.instanceMethod yX4_get, Cond.selects RX4 yX4_get yX4_get, Cond.code yX4_get cX4_get 3 (some .int), Cond.fieldLink RX4 9 "SoundBoard$Ring" "pixels" "[I", Cond.methodLink RX6 175 yX4_set, Cond.instanceMethod yX4_set, Cond.selects RX4 yX4_set yX4_set, Cond.code yX4_set cX4_set 4 none]
def wsX6_differ : List Cond := .code yX6_differ cX6_differ 9 (some .int) :: ((wsX6_differ_r1 ++ wsX6_differ_r2) ++ wsX60 ++ wsX40)
def wsX6_likeness_r1 : List Cond := [Cond.fieldLink RX6 10 "SoundBoard" "elements" "LSoundBoard$Probe;", Cond.fieldLink RX6 26 "SoundBoard" "heard" "LSoundBoard$Looks;", Cond.fieldLink RX6 137 "SoundBoard$Probe" "size" "I", Cond.methodLink RX6 131 yX1_senderOf, Cond.instanceMethod yX1_senderOf, Cond.selects RX1 yX1_senderOf yX1_senderOf, Cond.initialized RX1, Cond.code yX1_senderOf cX1_senderOf 2 (some .int), Cond.fieldLink RX1 16 "SoundBoard$Looks" "senders" "[I", Cond.methodLink RX1 29 yX1_slotOf, Cond.instanceMethod yX1_slotOf, Cond.selects RX1 yX1_slotOf yX1_slotOf, Cond.code yX1_slotOf cX1_slotOf 2 (some .int), Cond.fieldLink RX1 19 "SoundBoard$Looks" "oldest" "I", Cond.methodLink RX1 33 yJ9_floorMod_7cf53, Cond.static yJ9_floorMod_7cf53, Cond.initialized RJ9, Cond.code yJ9_floorMod_7cf53 cJ9_floorMod_7cf53 3 (some .int), Cond.methodLink RX6 134 yX3_aimedDelay, Cond.instanceMethod yX3_aimedDelay, Cond.selects RX3 yX3_aimedDelay yX3_aimedDelay, Cond.initialized RX3, Cond.code yX3_aimedDelay cX3_aimedDelay 2 (some .int), Cond.fieldLink RX3 19 "SoundBoard$Probe" "aimedDelays" "[I"]
def wsX6_likeness_r2 : List Cond := [Cond.methodLink RX3 57 yX3_has, Cond.instanceMethod yX3_has, Cond.selects RX3 yX3_has yX3_has, Cond.code yX3_has cX3_has 2 (some .boolean), Cond.fieldLink RX3 51 "SoundBoard$Probe" "size" "I", Cond.methodLink RX6 144 yX1_at, Cond.instanceMethod yX1_at, Cond.selects RX1 yX1_at yX1_at, Cond.code yX1_at cX1_at 5 (some .int), Cond.fieldLink RX1 12 "SoundBoard$Looks" "samples" "[I", Cond.methodLink RX1 39 yX1_placeOf, Cond.instanceMethod yX1_placeOf, Cond.selects RX1 yX1_placeOf yX1_placeOf, Cond.code yX1_placeOf cX1_placeOf 4 (some .int)]
def wsX6_likeness : List Cond := .code yX6_likeness cX6_likeness 10 (some .int) :: ((wsX6_likeness_r1 ++ wsX6_likeness_r2) ++ wsX60 ++ wsX30 ++ wsX10)
def wsX6_turn_r1 : List Cond := [Cond.fieldLink RX6 26 "SoundBoard" "heard" "LSoundBoard$Looks;", Cond.fieldLink RX6 10 "SoundBoard" "elements" "LSoundBoard$Probe;", Cond.methodLink RX6 142 yX1_has, Cond.instanceMethod yX1_has, Cond.selects RX1 yX1_has yX1_has, Cond.initialized RX1, Cond.code yX1_has cX1_has 2 (some .boolean), Cond.fieldLink RX1 23 "SoundBoard$Looks" "size" "I", Cond.methodLink RX6 90 yX6_isPlace, Cond.static yX6_isPlace, Cond.initialized RX6, Cond.code yX6_isPlace cX6_isPlace 2 (some .boolean), Cond.methodLink RX6 51 yX6_within, Cond.static yX6_within, Cond.code yX6_within cX6_within 3 (some .boolean), Cond.methodLink RX6 131 yX1_senderOf, Cond.instanceMethod yX1_senderOf, Cond.selects RX1 yX1_senderOf yX1_senderOf, Cond.code yX1_senderOf cX1_senderOf 2 (some .int), Cond.fieldLink RX1 16 "SoundBoard$Looks" "senders" "[I", Cond.methodLink RX1 29 yX1_slotOf, Cond.instanceMethod yX1_slotOf, Cond.selects RX1 yX1_slotOf yX1_slotOf, Cond.code yX1_slotOf cX1_slotOf 2 (some .int)]
def wsX6_turn_r2 : List Cond := [Cond.fieldLink RX1 19 "SoundBoard$Looks" "oldest" "I", Cond.methodLink RX1 33 yJ9_floorMod_7cf53, Cond.static yJ9_floorMod_7cf53, Cond.initialized RJ9, Cond.code yJ9_floorMod_7cf53 cJ9_floorMod_7cf53 3 (some .int), Cond.methodLink RX6 128 yX3_aim, Cond.instanceMethod yX3_aim, Cond.selects RX3 yX3_aim yX3_aim, Cond.initialized RX3, Cond.code yX3_aim cX3_aim 4 none, Cond.fieldLink RX3 79 "SoundBoard$Probe" "aimedTotal" "I", Cond.fieldLink RX3 51 "SoundBoard$Probe" "size" "I", Cond.fieldLink RX3 19 "SoundBoard$Probe" "aimedDelays" "[I", Cond.fieldLink RX3 22 "SoundBoard$Probe" "aimedWeights" "[I", Cond.methodLink RX3 82 yX3_delayOf, Cond.instanceMethod yX3_delayOf, Cond.selects RX3 yX3_delayOf yX3_delayOf, Cond.code yX3_delayOf cX3_delayOf 10 (some .int), Cond.fieldLink RX3 25 "SoundBoard$Probe" "steps" "I", Cond.constantLong RX3 68 (4), Cond.fieldLink RX3 29 "SoundBoard$Probe" "ticks" "I", Cond.constantLong RX3 70 (2), Cond.methodLink RX3 65 yX3_gap, Cond.instanceMethod yX3_gap]
def wsX6_turn_r3 : List Cond := [Cond.selects RX3 yX3_gap yX3_gap, Cond.code yX3_gap cX3_gap 3 (some .int), Cond.fieldLink RX3 9 "SoundBoard$Probe" "xs" "[I", Cond.methodLink RX3 61 Lib.Math.abs.name, Cond.static Lib.Math.abs.name, Cond.initialized "java/lang/Math", Cond.code Lib.Math.abs.name Lib.Math.abs.code 1 (some .int), Cond.methodLink RX3 57 yX3_has, Cond.instanceMethod yX3_has, Cond.selects RX3 yX3_has yX3_has, Cond.code yX3_has cX3_has 2 (some .boolean), Cond.static yX6_root, Cond.code yX6_root cX6_root 9 (some .long), Cond.constantLong RX6 247 (2), Cond.methodLink RX3 86 yX3_weightOf, Cond.instanceMethod yX3_weightOf, Cond.selects RX3 yX3_weightOf yX3_weightOf, Cond.code yX3_weightOf cX3_weightOf 6 (some .int), Cond.fieldLink RX3 32 "SoundBoard$Probe" "window" "I", Cond.fieldLink RX3 35 "SoundBoard$Probe" "narrowness" "I", Cond.methodLink RX3 76 yX3_isDead, Cond.instanceMethod yX3_isDead, Cond.selects RX3 yX3_isDead yX3_isDead, Cond.code yX3_isDead cX3_isDead 2 (some .boolean)]
def wsX6_turn_r4 : List Cond := [Cond.fieldLink RX3 15 "SoundBoard$Probe" "deads" "[Z", Cond.methodLink RX6 195 yX6_likeness, Cond.instanceMethod yX6_likeness, Cond.selects RX6 yX6_likeness yX6_likeness, Cond.code yX6_likeness cX6_likeness 10 (some .int), Cond.fieldLink RX6 137 "SoundBoard$Probe" "size" "I", Cond.methodLink RX6 134 yX3_aimedDelay, Cond.instanceMethod yX3_aimedDelay, Cond.selects RX3 yX3_aimedDelay yX3_aimedDelay, Cond.code yX3_aimedDelay cX3_aimedDelay 2 (some .int), Cond.methodLink RX6 144 yX1_at, Cond.instanceMethod yX1_at, Cond.selects RX1 yX1_at yX1_at, Cond.code yX1_at cX1_at 5 (some .int), Cond.fieldLink RX1 12 "SoundBoard$Looks" "samples" "[I", Cond.methodLink RX1 39 yX1_placeOf, Cond.instanceMethod yX1_placeOf, Cond.selects RX1 yX1_placeOf yX1_placeOf, Cond.code yX1_placeOf cX1_placeOf 4 (some .int)]
def wsX6_turn : List Cond := .code yX6_turn cX6_turn 10 (some .int) :: ((wsX6_turn_r1 ++ (wsX6_turn_r2 ++ (wsX6_turn_r3 ++ wsX6_turn_r4))) ++ wsX60 ++ wsX10 ++ wsX30)
def wsX6_fan_r1 : List Cond := [Cond.fieldLink RX6 26 "SoundBoard" "heard" "LSoundBoard$Looks;", Cond.fieldLink RX6 40 "SoundBoard" "laid" "LSoundBoard$Fan;", Cond.methodLink RX6 142 yX1_has, Cond.instanceMethod yX1_has, Cond.selects RX1 yX1_has yX1_has, Cond.initialized RX1, Cond.code yX1_has cX1_has 2 (some .boolean), Cond.fieldLink RX1 23 "SoundBoard$Looks" "size" "I", Cond.methodLink RX6 51 yX6_within, Cond.static yX6_within, Cond.initialized RX6, Cond.code yX6_within cX6_within 3 (some .boolean), Cond.methodLink RX6 198 yX0_begin, Cond.instanceMethod yX0_begin, Cond.selects RX0 yX0_begin yX0_begin, Cond.initialized RX0, Cond.code yX0_begin cX0_begin 4 none, Cond.fieldLink RX0 17 "SoundBoard$Fan" "lines" "I", Cond.fieldLink RX0 20 "SoundBoard$Fan" "means" "I", Cond.fieldLink RX0 13 "SoundBoard$Fan" "step" "I", Cond.methodLink RX6 200 yX0_xOf, Cond.instanceMethod yX0_xOf, Cond.selects RX0 yX0_xOf yX0_xOf, Cond.code yX0_xOf cX0_xOf 3 (some .int)]
def wsX6_fan_r2 : List Cond := [Cond.methodLink RX0 27 yX0_middle, Cond.instanceMethod yX0_middle, Cond.selects RX0 yX0_middle yX0_middle, Cond.code yX0_middle cX0_middle 1 (some .int), Cond.methodLink RX6 163 yX6_joinedMean, Cond.instanceMethod yX6_joinedMean, Cond.selects RX6 yX6_joinedMean yX6_joinedMean, Cond.code yX6_joinedMean cX6_joinedMean 7 (some .int), Cond.fieldLink RX6 10 "SoundBoard" "elements" "LSoundBoard$Probe;", Cond.fieldLink RX6 67 "SoundBoard$Looks" "size" "I", Cond.fieldLink RX6 169 "SoundBoard$Probe" "aimedTotal" "I", Cond.methodLink RX6 90 yX6_isPlace, Cond.static yX6_isPlace, Cond.code yX6_isPlace cX6_isPlace 2 (some .boolean), Cond.methodLink RX6 128 yX3_aim, Cond.instanceMethod yX3_aim, Cond.selects RX3 yX3_aim yX3_aim, Cond.initialized RX3, Cond.code yX3_aim cX3_aim 4 none, Cond.fieldLink RX3 79 "SoundBoard$Probe" "aimedTotal" "I", Cond.fieldLink RX3 51 "SoundBoard$Probe" "size" "I", Cond.fieldLink RX3 19 "SoundBoard$Probe" "aimedDelays" "[I", Cond.fieldLink RX3 22 "SoundBoard$Probe" "aimedWeights" "[I", Cond.methodLink RX3 82 yX3_delayOf]
def wsX6_fan_r3 : List Cond := [Cond.instanceMethod yX3_delayOf, Cond.selects RX3 yX3_delayOf yX3_delayOf, Cond.code yX3_delayOf cX3_delayOf 10 (some .int), Cond.fieldLink RX3 25 "SoundBoard$Probe" "steps" "I", Cond.constantLong RX3 68 (4), Cond.fieldLink RX3 29 "SoundBoard$Probe" "ticks" "I", Cond.constantLong RX3 70 (2), Cond.methodLink RX3 65 yX3_gap, Cond.instanceMethod yX3_gap, Cond.selects RX3 yX3_gap yX3_gap, Cond.code yX3_gap cX3_gap 3 (some .int), Cond.fieldLink RX3 9 "SoundBoard$Probe" "xs" "[I", Cond.methodLink RX3 61 Lib.Math.abs.name, Cond.static Lib.Math.abs.name, Cond.initialized "java/lang/Math", Cond.code Lib.Math.abs.name Lib.Math.abs.code 1 (some .int), Cond.methodLink RX3 57 yX3_has, Cond.instanceMethod yX3_has, Cond.selects RX3 yX3_has yX3_has, Cond.code yX3_has cX3_has 2 (some .boolean), Cond.static yX6_root, Cond.code yX6_root cX6_root 9 (some .long), Cond.constantLong RX6 247 (2), Cond.methodLink RX3 86 yX3_weightOf]
def wsX6_fan_r4 : List Cond := [Cond.instanceMethod yX3_weightOf, Cond.selects RX3 yX3_weightOf yX3_weightOf, Cond.code yX3_weightOf cX3_weightOf 6 (some .int), Cond.fieldLink RX3 32 "SoundBoard$Probe" "window" "I", Cond.fieldLink RX3 35 "SoundBoard$Probe" "narrowness" "I", Cond.methodLink RX3 76 yX3_isDead, Cond.instanceMethod yX3_isDead, Cond.selects RX3 yX3_isDead yX3_isDead, Cond.code yX3_isDead cX3_isDead 2 (some .boolean), Cond.fieldLink RX3 15 "SoundBoard$Probe" "deads" "[Z", Cond.methodLink RX6 157 yX6_aimedSum, Cond.instanceMethod yX6_aimedSum, Cond.selects RX6 yX6_aimedSum yX6_aimedSum, Cond.code yX6_aimedSum cX6_aimedSum 6 (some .int), Cond.fieldLink RX6 137 "SoundBoard$Probe" "size" "I", Cond.methodLink RX6 131 yX1_senderOf, Cond.instanceMethod yX1_senderOf, Cond.selects RX1 yX1_senderOf yX1_senderOf, Cond.code yX1_senderOf cX1_senderOf 2 (some .int), Cond.fieldLink RX1 16 "SoundBoard$Looks" "senders" "[I", Cond.methodLink RX1 29 yX1_slotOf, Cond.instanceMethod yX1_slotOf, Cond.selects RX1 yX1_slotOf yX1_slotOf, Cond.code yX1_slotOf cX1_slotOf 2 (some .int)]
def wsX6_fan_r5 : List Cond := [Cond.fieldLink RX1 19 "SoundBoard$Looks" "oldest" "I", Cond.methodLink RX1 33 yJ9_floorMod_7cf53, Cond.static yJ9_floorMod_7cf53, Cond.initialized RJ9, Cond.code yJ9_floorMod_7cf53 cJ9_floorMod_7cf53 3 (some .int), Cond.methodLink RX6 134 yX3_aimedDelay, Cond.instanceMethod yX3_aimedDelay, Cond.selects RX3 yX3_aimedDelay yX3_aimedDelay, Cond.code yX3_aimedDelay cX3_aimedDelay 2 (some .int), Cond.methodLink RX6 166 yX3_aimedWeight, Cond.instanceMethod yX3_aimedWeight, Cond.selects RX3 yX3_aimedWeight yX3_aimedWeight, Cond.code yX3_aimedWeight cX3_aimedWeight 2 (some .int), Cond.methodLink RX6 144 yX1_at, Cond.instanceMethod yX1_at, Cond.selects RX1 yX1_at yX1_at, Cond.code yX1_at cX1_at 5 (some .int), Cond.fieldLink RX1 12 "SoundBoard$Looks" "samples" "[I", Cond.methodLink RX1 39 yX1_placeOf, Cond.instanceMethod yX1_placeOf, Cond.selects RX1 yX1_placeOf yX1_placeOf, Cond.code yX1_placeOf cX1_placeOf 4 (some .int), Cond.methodLink RX6 203 yX0_set, Cond.instanceMethod yX0_set]
def wsX6_fan_r6 : List Cond := [Cond.selects RX0 yX0_set yX0_set, Cond.code yX0_set cX0_set 4 none, Cond.fieldLink RX0 9 "SoundBoard$Fan" "values" "[I", Cond.methodLink RX0 23 yX0_has, Cond.instanceMethod yX0_has, Cond.selects RX0 yX0_has yX0_has, Cond.code yX0_has cX0_has 3 (some .boolean)]
def wsX6_fan : List Cond := .code yX6_fan cX6_fan 7 (some .int) :: ((wsX6_fan_r1 ++ (wsX6_fan_r2 ++ (wsX6_fan_r3 ++ (wsX6_fan_r4 ++ (wsX6_fan_r5 ++ wsX6_fan_r6))))) ++ wsX60 ++ wsX10 ++ wsX00 ++ wsX30)
def wsX6_fanAt : List Cond := .code yX6_fanAt cX6_fanAt 3 (some .int) :: ([.fieldLink RX6 40 "SoundBoard" "laid" "LSoundBoard$Fan;", .constant RX6 156 (-1000000000), .methodLink RX6 204 yX0_has, .instanceMethod yX0_has, .selects RX0 yX0_has yX0_has, .initialized RX0, .code yX0_has cX0_has 3 (some .boolean), .fieldLink RX0 17 "SoundBoard$Fan" "lines" "I", .fieldLink RX0 20 "SoundBoard$Fan" "means" "I", .methodLink RX6 206 yX0_get, .instanceMethod yX0_get, .selects RX0 yX0_get yX0_get, .code yX0_get cX0_get 3 (some .int), .fieldLink RX0 9 "SoundBoard$Fan" "values" "[I", .methodLink RX0 23 yX0_has] ++ wsX60 ++ wsX00)
def wsX6_board_r1 : List Cond := [Cond.constant RX6 156 (-1000000000), Cond.fieldLink RX6 40 "SoundBoard" "laid" "LSoundBoard$Fan;", Cond.fieldLink RX6 207 "SoundBoard$Fan" "lines" "I", Cond.methodLink RX6 51 yX6_within, Cond.static yX6_within, Cond.initialized RX6, Cond.code yX6_within cX6_within 3 (some .boolean), Cond.methodLink RX6 210 yX0_laidAt, Cond.instanceMethod yX0_laidAt, Cond.selects RX0 yX0_laidAt yX0_laidAt, Cond.initialized RX0, Cond.code yX0_laidAt cX0_laidAt 11 (some .int), Cond.fieldLink RX0 13 "SoundBoard$Fan" "step" "I", Cond.fieldLink RX0 17 "SoundBoard$Fan" "lines" "I", Cond.fieldLink RX0 20 "SoundBoard$Fan" "means" "I", Cond.methodLink RX0 27 yX0_middle, Cond.instanceMethod yX0_middle, Cond.selects RX0 yX0_middle yX0_middle, Cond.code yX0_middle cX0_middle 1 (some .int), Cond.methodLink RX0 31 yX0_get, Cond.instanceMethod yX0_get, Cond.selects RX0 yX0_get yX0_get, Cond.code yX0_get cX0_get 3 (some .int), Cond.fieldLink RX0 9 "SoundBoard$Fan" "values" "[I"]
def wsX6_board_r2 : List Cond := [Cond.methodLink RX0 23 yX0_has, Cond.instanceMethod yX0_has, Cond.selects RX0 yX0_has yX0_has, Cond.code yX0_has cX0_has 3 (some .boolean)]
def wsX6_board : List Cond := .code yX6_board cX6_board 6 (some .int) :: ((wsX6_board_r1 ++ wsX6_board_r2) ++ wsX60 ++ wsX00)
def wsX6_caliper : List Cond := .code yX6_caliper cX6_caliper 9 (some .int) :: ([.methodLink RX6 213 Lib.Math.abs.name, .static Lib.Math.abs.name, .initialized "java/lang/Math", .code Lib.Math.abs.name Lib.Math.abs.code 1 (some .int), .methodLink RX6 90 yX6_isPlace, .static yX6_isPlace, .initialized RX6, .code yX6_isPlace cX6_isPlace 2 (some .boolean), .methodLink RX6 51 yX6_within, .static yX6_within, .code yX6_within cX6_within 3 (some .boolean), .methodLink RX6 218 yX6_root, .static yX6_root, .code yX6_root cX6_root 9 (some .long), .constantLong RX6 247 (2)])
def wsX6_cap : List Cond := .code yX6_cap cX6_cap 3 (some .int) :: ([.constant RX6 222 (1000000), .fieldLink RX6 47 "SoundBoard" "power" "LSoundBoard$Power;", .fieldLink RX6 114 "SoundBoard$Power" "most" "I", .methodLink RX6 51 yX6_within, .static yX6_within, .initialized RX6, .code yX6_within cX6_within 3 (some .boolean)] ++ wsX60 ++ wsX20)
def wsX6_tick : List Cond := .code yX6_tick cX6_tick 3 (some .int) :: ([.fieldLink RX6 47 "SoundBoard" "power" "LSoundBoard$Power;", .fieldLink RX6 63 "SoundBoard$Power" "heat" "I", .methodLink RX6 51 yX6_within, .static yX6_within, .initialized RX6, .code yX6_within cX6_within 3 (some .boolean), .methodLink RX6 223 yX2_cool, .instanceMethod yX2_cool, .selects RX2 yX2_cool yX2_cool, .initialized RX2, .code yX2_cool cX2_cool 1 none, .fieldLink RX2 7 "SoundBoard$Power" "heat" "I"] ++ wsX60 ++ wsX20)
def wsX6_count : List Cond := .code yX6_count cX6_count 2 (some .int) :: ([.fieldLink RX6 10 "SoundBoard" "elements" "LSoundBoard$Probe;", .fieldLink RX6 137 "SoundBoard$Probe" "size" "I", .fieldLink RX6 83 "SoundBoard$Probe" "alive" "I", .fieldLink RX6 19 "SoundBoard" "scene" "LSoundBoard$Scene;", .fieldLink RX6 98 "SoundBoard$Scene" "size" "I", .fieldLink RX6 26 "SoundBoard" "heard" "LSoundBoard$Looks;", .fieldLink RX6 67 "SoundBoard$Looks" "size" "I", .fieldLink RX6 33 "SoundBoard" "ring" "LSoundBoard$Ring;", .fieldLink RX6 178 "SoundBoard$Ring" "size" "I", .fieldLink RX6 47 "SoundBoard" "power" "LSoundBoard$Power;", .fieldLink RX6 63 "SoundBoard$Power" "heat" "I", .fieldLink RX6 226 "SoundBoard$Looks" "ever" "I"] ++ wsX60 ++ wsX30 ++ wsX50 ++ wsX10 ++ wsX40 ++ wsX20)
def wsX6_digest_r1 : List Cond := [Cond.constantLong RX6 229 (131), Cond.constantLong RX6 231 (31), Cond.fieldLink RX6 19 "SoundBoard" "scene" "LSoundBoard$Scene;", Cond.fieldLink RX6 98 "SoundBoard$Scene" "size" "I", Cond.fieldLink RX6 26 "SoundBoard" "heard" "LSoundBoard$Looks;", Cond.fieldLink RX6 67 "SoundBoard$Looks" "size" "I", Cond.fieldLink RX6 10 "SoundBoard" "elements" "LSoundBoard$Probe;", Cond.fieldLink RX6 137 "SoundBoard$Probe" "size" "I", Cond.fieldLink RX6 33 "SoundBoard" "ring" "LSoundBoard$Ring;", Cond.methodLink RX6 233 yX6_count, Cond.instanceMethod yX6_count, Cond.selects RX6 yX6_count yX6_count, Cond.initialized RX6, Cond.code yX6_count cX6_count 2 (some .int), Cond.fieldLink RX6 83 "SoundBoard$Probe" "alive" "I", Cond.fieldLink RX6 178 "SoundBoard$Ring" "size" "I", Cond.fieldLink RX6 47 "SoundBoard" "power" "LSoundBoard$Power;", Cond.fieldLink RX6 63 "SoundBoard$Power" "heat" "I", Cond.fieldLink RX6 226 "SoundBoard$Looks" "ever" "I", Cond.methodLink RX6 236 yX6_pointAt, Cond.instanceMethod yX6_pointAt, Cond.selects RX6 yX6_pointAt yX6_pointAt, Cond.code yX6_pointAt cX6_pointAt 3 (some .int), Cond.fieldLink RX6 104 "SoundBoard$Scene" "xs" "[I"]
def wsX6_digest_r2 : List Cond := [Cond.fieldLink RX6 108 "SoundBoard$Scene" "zs" "[I", Cond.fieldLink RX6 111 "SoundBoard$Scene" "strengths" "[I", Cond.methodLink RX6 103 yX5_has, Cond.instanceMethod yX5_has, Cond.selects RX5 yX5_has yX5_has, Cond.initialized RX5, Cond.code yX5_has cX5_has 2 (some .boolean), Cond.fieldLink RX5 27 "SoundBoard$Scene" "size" "I", Cond.methodLink RX6 131 yX1_senderOf, Cond.instanceMethod yX1_senderOf, Cond.selects RX1 yX1_senderOf yX1_senderOf, Cond.initialized RX1, Cond.code yX1_senderOf cX1_senderOf 2 (some .int), Cond.fieldLink RX1 16 "SoundBoard$Looks" "senders" "[I", Cond.methodLink RX1 29 yX1_slotOf, Cond.instanceMethod yX1_slotOf, Cond.selects RX1 yX1_slotOf yX1_slotOf, Cond.code yX1_slotOf cX1_slotOf 2 (some .int), Cond.fieldLink RX1 19 "SoundBoard$Looks" "oldest" "I", Cond.methodLink RX1 33 yJ9_floorMod_7cf53, Cond.static yJ9_floorMod_7cf53, Cond.initialized RJ9, Cond.code yJ9_floorMod_7cf53 cJ9_floorMod_7cf53 3 (some .int), Cond.methodLink RX6 239 yX1_rowSum]
def wsX6_digest_r3 : List Cond := [Cond.instanceMethod yX1_rowSum, Cond.selects RX1 yX1_rowSum yX1_rowSum, Cond.code yX1_rowSum cX1_rowSum 7 (some .long), Cond.fieldLink RX1 12 "SoundBoard$Looks" "samples" "[I", Cond.methodLink RX1 39 yX1_placeOf, Cond.instanceMethod yX1_placeOf, Cond.selects RX1 yX1_placeOf yX1_placeOf, Cond.code yX1_placeOf cX1_placeOf 4 (some .int), Cond.methodLink RX6 243 yX4_digestOn, Cond.instanceMethod yX4_digestOn, Cond.selects RX4 yX4_digestOn yX4_digestOn, Cond.initialized RX4, Cond.code yX4_digestOn cX4_digestOn 8 (some .long), Cond.fieldLink RX4 23 "SoundBoard$Ring" "size" "I", Cond.constantLong RX4 49 (31), Cond.methodLink RX4 26 yX4_slotOf, Cond.instanceMethod yX4_slotOf, Cond.selects RX4 yX4_slotOf yX4_slotOf, Cond.code yX4_slotOf cX4_slotOf 2 (some .int), Cond.fieldLink RX4 19 "SoundBoard$Ring" "oldest" "I", Cond.methodLink RX4 30 yJ9_floorMod_7cf53, Cond.methodLink RX4 40 yX4_widthOf, Cond.instanceMethod yX4_widthOf, Cond.selects RX4 yX4_widthOf yX4_widthOf]
def wsX6_digest_r4 : List Cond := [Cond.code yX4_widthOf cX4_widthOf 2 (some .int), Cond.fieldLink RX4 13 "SoundBoard$Ring" "widths" "[I", Cond.methodLink RX4 36 yX4_isSlot, Cond.instanceMethod yX4_isSlot, Cond.selects RX4 yX4_isSlot yX4_isSlot, Cond.code yX4_isSlot cX4_isSlot 2 (some .boolean), Cond.methodLink RX4 43 yX4_heightOf, Cond.instanceMethod yX4_heightOf, Cond.selects RX4 yX4_heightOf yX4_heightOf, Cond.code yX4_heightOf cX4_heightOf 2 (some .int), Cond.fieldLink RX4 16 "SoundBoard$Ring" "heights" "[I", Cond.methodLink RX4 46 yX4_get, Cond.instanceMethod yX4_get, Cond.selects RX4 yX4_get yX4_get, Cond.code yX4_get cX4_get 3 (some .int), Cond.fieldLink RX4 9 "SoundBoard$Ring" "pixels" "[I"]
def wsX6_digest : List Cond := .code yX6_digest cX6_digest 5 (some .long) :: ((wsX6_digest_r1 ++ (wsX6_digest_r2 ++ (wsX6_digest_r3 ++ wsX6_digest_r4))) ++ wsX60 ++ wsX50 ++ wsX10 ++ wsX30 ++ wsX40 ++ wsX20)
def wsX7_in : List Cond := .code yX7_in cX7_in 6 (some .boolean) :: ([])
def wsX7_isPlace : List Cond := .code yX7_isPlace cX7_isPlace 2 (some .boolean) :: ([.constantLong RX7 3 (-2000), .constantLong RX7 5 (2000), .constantLong RX7 11 (4000), .methodLink RX7 7 yX7_in, .static yX7_in, .initialized RX7, .code yX7_in cX7_in 6 (some .boolean)])
def wsX7_init_r1 : List Cond := [Cond.methodLink RX7 13 objectInit, Cond.instanceMethod objectInit, Cond.code objectInit ⟨#[0xb1]⟩ 1 none, Cond.fieldLink RX7 19 "SoundBoardModel" "n" "I", Cond.arrayClass .int, Cond.fieldLink RX7 23 "SoundBoardModel" "xs" "[I", Cond.arrayClass .boolean, Cond.fieldLink RX7 27 "SoundBoardModel" "isDead" "[Z", Cond.fieldLink RX7 31 "SoundBoardModel" "steps" "I", Cond.fieldLink RX7 34 "SoundBoardModel" "ticks" "I", Cond.fieldLink RX7 37 "SoundBoardModel" "part" "I", Cond.constant RX7 40 (100000), Cond.fieldLink RX7 41 "SoundBoardModel" "limit" "I", Cond.fieldLink RX7 44 "SoundBoardModel" "px" "[I", Cond.fieldLink RX7 47 "SoundBoardModel" "pz" "[I", Cond.fieldLink RX7 50 "SoundBoardModel" "strength" "[I", Cond.fieldLink RX7 53 "SoundBoardModel" "moveX" "[I", Cond.fieldLink RX7 56 "SoundBoardModel" "moveZ" "[I", Cond.fieldLink RX7 59 "SoundBoardModel" "senders" "[I", Cond.constant RX7 62 (38400), Cond.fieldLink RX7 63 "SoundBoardModel" "samples" "[I", Cond.fieldLink RX7 66 "SoundBoardModel" "wide" "[I", Cond.fieldLink RX7 69 "SoundBoardModel" "tall" "[I", Cond.fieldLink RX7 72 "SoundBoardModel" "pixels" "[I"]
def wsX7_init_r2 : List Cond := [Cond.fieldLink RX7 75 "SoundBoardModel" "made" "[I", Cond.fieldLink RX7 78 "SoundBoardModel" "fan" "[I"]
def wsX7_init : List Cond := .code yX7_init cX7_init 1 none :: ((wsX7_init_r1 ++ wsX7_init_r2) ++ wsX70)
def wsX7_probe : List Cond := .code yX7_probe cX7_probe 5 (some .int) :: ([.constantLong RX7 81 (2), .constantLong RX7 83 (16), .constantLong RX7 85 (200), .constantLong RX7 3 (-2000), .constantLong RX7 5 (2000), .fieldLink RX7 19 "SoundBoardModel" "n" "I", .fieldLink RX7 23 "SoundBoardModel" "xs" "[I", .fieldLink RX7 27 "SoundBoardModel" "isDead" "[Z", .fieldLink RX7 87 "SoundBoardModel" "looks" "I", .fieldLink RX7 90 "SoundBoardModel" "pictures" "I", .fieldLink RX7 93 "SoundBoardModel" "heat" "I", .methodLink RX7 7 yX7_in, .static yX7_in, .initialized RX7, .code yX7_in cX7_in 6 (some .boolean)] ++ wsX70)
def wsX7_pace : List Cond := .code yX7_pace cX7_pace 3 (some .int) :: ([.constantLong RX7 96 (1000), .fieldLink RX7 87 "SoundBoardModel" "looks" "I", .fieldLink RX7 31 "SoundBoardModel" "steps" "I", .fieldLink RX7 34 "SoundBoardModel" "ticks" "I", .methodLink RX7 7 yX7_in, .static yX7_in, .initialized RX7, .code yX7_in cX7_in 6 (some .boolean)] ++ wsX70)
def wsX7_alive : List Cond := .code yX7_alive cX7_alive 3 (some .int) :: ([.fieldLink RX7 19 "SoundBoardModel" "n" "I", .fieldLink RX7 27 "SoundBoardModel" "isDead" "[Z"] ++ wsX70)
def wsX7_dead : List Cond := .code yX7_dead cX7_dead 3 (some .int) :: ([.fieldLink RX7 19 "SoundBoardModel" "n" "I", .fieldLink RX7 27 "SoundBoardModel" "isDead" "[Z", .methodLink RX7 7 yX7_in, .static yX7_in, .initialized RX7, .code yX7_in cX7_in 6 (some .boolean), .methodLink RX7 98 yX7_alive, .instanceMethod yX7_alive, .selects RX7 yX7_alive yX7_alive, .code yX7_alive cX7_alive 3 (some .int)] ++ wsX70)
def wsX7_rootOf : List Cond := .code yX7_rootOf cX7_rootOf 6 (some .long) :: ([.constantLong RX7 102 (67108864), .constantLong RX7 81 (2)])
def wsX7_delayOf : List Cond := .code yX7_delayOf cX7_delayOf 10 (some .int) :: ([.fieldLink RX7 23 "SoundBoardModel" "xs" "[I", .constantLong RX7 104 (4), .fieldLink RX7 34 "SoundBoardModel" "ticks" "I", .fieldLink RX7 31 "SoundBoardModel" "steps" "I", .constantLong RX7 81 (2), .methodLink RX7 106 yX7_rootOf, .static yX7_rootOf, .initialized RX7, .code yX7_rootOf cX7_rootOf 6 (some .long), .constantLong RX7 102 (67108864)] ++ wsX70)
def wsX7_delay : List Cond := .code yX7_delay cX7_delay 4 (some .int) :: ([.fieldLink RX7 19 "SoundBoardModel" "n" "I", .methodLink RX7 7 yX7_in, .static yX7_in, .initialized RX7, .code yX7_in cX7_in 6 (some .boolean), .methodLink RX7 110 yX7_isPlace, .static yX7_isPlace, .code yX7_isPlace cX7_isPlace 2 (some .boolean), .constantLong RX7 3 (-2000), .constantLong RX7 5 (2000), .constantLong RX7 11 (4000), .methodLink RX7 114 yX7_delayOf, .instanceMethod yX7_delayOf, .selects RX7 yX7_delayOf yX7_delayOf, .code yX7_delayOf cX7_delayOf 10 (some .int), .fieldLink RX7 23 "SoundBoardModel" "xs" "[I", .constantLong RX7 104 (4), .fieldLink RX7 34 "SoundBoardModel" "ticks" "I", .fieldLink RX7 31 "SoundBoardModel" "steps" "I", .constantLong RX7 81 (2), .methodLink RX7 106 yX7_rootOf, .static yX7_rootOf, .code yX7_rootOf cX7_rootOf 6 (some .long), .constantLong RX7 102 (67108864)] ++ wsX70)
def wsX7_point : List Cond := .code yX7_point cX7_point 6 (some .int) :: ([.constantLong RX7 118 (-100), .constantLong RX7 120 (100), .constantLong RX7 122 (-200), .constantLong RX7 85 (200), .fieldLink RX7 124 "SoundBoardModel" "points" "I", .fieldLink RX7 44 "SoundBoardModel" "px" "[I", .fieldLink RX7 47 "SoundBoardModel" "pz" "[I", .fieldLink RX7 50 "SoundBoardModel" "strength" "[I", .fieldLink RX7 53 "SoundBoardModel" "moveX" "[I", .fieldLink RX7 56 "SoundBoardModel" "moveZ" "[I", .methodLink RX7 110 yX7_isPlace, .static yX7_isPlace, .initialized RX7, .code yX7_isPlace cX7_isPlace 2 (some .boolean), .constantLong RX7 3 (-2000), .constantLong RX7 5 (2000), .constantLong RX7 11 (4000), .methodLink RX7 7 yX7_in, .static yX7_in, .code yX7_in cX7_in 6 (some .boolean)] ++ wsX70)
def wsX7_clear : List Cond := .code yX7_clear cX7_clear 2 (some .int) :: ([.fieldLink RX7 124 "SoundBoardModel" "points" "I"] ++ wsX70)
def wsX7_pointAt : List Cond := .code yX7_pointAt cX7_pointAt 3 (some .int) :: ([.fieldLink RX7 124 "SoundBoardModel" "points" "I", .constantLong RX7 81 (2), .fieldLink RX7 44 "SoundBoardModel" "px" "[I", .fieldLink RX7 47 "SoundBoardModel" "pz" "[I", .fieldLink RX7 50 "SoundBoardModel" "strength" "[I", .methodLink RX7 7 yX7_in, .static yX7_in, .initialized RX7, .code yX7_in cX7_in 6 (some .boolean)] ++ wsX70)
def wsX7_add : List Cond := .code yX7_add cX7_add 5 none :: ([.constantLong RX7 127 (399), .fieldLink RX7 63 "SoundBoardModel" "samples" "[I", .methodLink RX7 7 yX7_in, .static yX7_in, .initialized RX7, .code yX7_in cX7_in 6 (some .boolean)] ++ wsX70)
def wsX7_held : List Cond := .code yX7_held cX7_held 3 (some .int) :: ([])
def wsX7_look_r1 : List Cond := [Cond.fieldLink RX7 19 "SoundBoardModel" "n" "I", Cond.fieldLink RX7 27 "SoundBoardModel" "isDead" "[Z", Cond.fieldLink RX7 93 "SoundBoardModel" "heat" "I", Cond.fieldLink RX7 41 "SoundBoardModel" "limit" "I", Cond.fieldLink RX7 87 "SoundBoardModel" "looks" "I", Cond.fieldLink RX7 63 "SoundBoardModel" "samples" "[I", Cond.fieldLink RX7 59 "SoundBoardModel" "senders" "[I", Cond.fieldLink RX7 124 "SoundBoardModel" "points" "I", Cond.fieldLink RX7 44 "SoundBoardModel" "px" "[I", Cond.fieldLink RX7 47 "SoundBoardModel" "pz" "[I", Cond.fieldLink RX7 50 "SoundBoardModel" "strength" "[I", Cond.fieldLink RX7 53 "SoundBoardModel" "moveX" "[I", Cond.fieldLink RX7 56 "SoundBoardModel" "moveZ" "[I", Cond.fieldLink RX7 136 "SoundBoardModel" "ever" "I", Cond.methodLink RX7 7 yX7_in, Cond.static yX7_in, Cond.initialized RX7, Cond.code yX7_in cX7_in 6 (some .boolean), Cond.methodLink RX7 98 yX7_alive, Cond.instanceMethod yX7_alive, Cond.selects RX7 yX7_alive yX7_alive, Cond.code yX7_alive cX7_alive 3 (some .int), Cond.methodLink RX7 114 yX7_delayOf, Cond.instanceMethod yX7_delayOf]
def wsX7_look_r2 : List Cond := [Cond.selects RX7 yX7_delayOf yX7_delayOf, Cond.code yX7_delayOf cX7_delayOf 10 (some .int), Cond.fieldLink RX7 23 "SoundBoardModel" "xs" "[I", Cond.constantLong RX7 104 (4), Cond.fieldLink RX7 34 "SoundBoardModel" "ticks" "I", Cond.fieldLink RX7 31 "SoundBoardModel" "steps" "I", Cond.constantLong RX7 81 (2), Cond.methodLink RX7 106 yX7_rootOf, Cond.static yX7_rootOf, Cond.code yX7_rootOf cX7_rootOf 6 (some .long), Cond.constantLong RX7 102 (67108864), Cond.methodLink RX7 129 yX7_add, Cond.instanceMethod yX7_add, Cond.selects RX7 yX7_add yX7_add, Cond.code yX7_add cX7_add 5 none, Cond.constantLong RX7 127 (399), Cond.methodLink RX7 133 yX7_held, Cond.static yX7_held, Cond.code yX7_held cX7_held 3 (some .int)]
def wsX7_look : List Cond := .code yX7_look cX7_look 8 (some .int) :: ((wsX7_look_r1 ++ wsX7_look_r2) ++ wsX70)
def wsX7_isLook : List Cond := .code yX7_isLook cX7_isLook 2 (some .boolean) :: ([.fieldLink RX7 87 "SoundBoardModel" "looks" "I", .methodLink RX7 7 yX7_in, .static yX7_in, .initialized RX7, .code yX7_in cX7_in 6 (some .boolean)] ++ wsX70)
def wsX7_sampleAt : List Cond := .code yX7_sampleAt cX7_sampleAt 4 (some .int) :: ([.constantLong RX7 127 (399), .fieldLink RX7 63 "SoundBoardModel" "samples" "[I", .methodLink RX7 7 yX7_in, .static yX7_in, .initialized RX7, .code yX7_in cX7_in 6 (some .boolean)] ++ wsX70)
def wsX7_sample : List Cond := .code yX7_sample cX7_sample 4 (some .int) :: ([.fieldLink RX7 19 "SoundBoardModel" "n" "I", .constantLong RX7 127 (399), .constant RX7 146 (-1000000), .methodLink RX7 139 yX7_isLook, .instanceMethod yX7_isLook, .selects RX7 yX7_isLook yX7_isLook, .initialized RX7, .code yX7_isLook cX7_isLook 2 (some .boolean), .fieldLink RX7 87 "SoundBoardModel" "looks" "I", .methodLink RX7 7 yX7_in, .static yX7_in, .code yX7_in cX7_in 6 (some .boolean), .methodLink RX7 143 yX7_sampleAt, .instanceMethod yX7_sampleAt, .selects RX7 yX7_sampleAt yX7_sampleAt, .code yX7_sampleAt cX7_sampleAt 4 (some .int), .fieldLink RX7 63 "SoundBoardModel" "samples" "[I"] ++ wsX70)
def wsX7_window : List Cond := .code yX7_window cX7_window 4 (some .int) :: ([.constantLong RX7 81 (2), .constantLong RX7 147 (9), .fieldLink RX7 149 "SoundBoardModel" "window" "I", .fieldLink RX7 37 "SoundBoardModel" "part" "I", .methodLink RX7 7 yX7_in, .static yX7_in, .initialized RX7, .code yX7_in cX7_in 6 (some .boolean)] ++ wsX70)
def wsX7_weightOf : List Cond := .code yX7_weightOf cX7_weightOf 6 (some .int) :: ([.fieldLink RX7 27 "SoundBoardModel" "isDead" "[Z", .fieldLink RX7 23 "SoundBoardModel" "xs" "[I", .fieldLink RX7 37 "SoundBoardModel" "part" "I", .fieldLink RX7 149 "SoundBoardModel" "window" "I"] ++ wsX70)
def wsX7_weight : List Cond := .code yX7_weight cX7_weight 4 (some .int) :: ([.fieldLink RX7 19 "SoundBoardModel" "n" "I", .methodLink RX7 7 yX7_in, .static yX7_in, .initialized RX7, .code yX7_in cX7_in 6 (some .boolean), .methodLink RX7 110 yX7_isPlace, .static yX7_isPlace, .code yX7_isPlace cX7_isPlace 2 (some .boolean), .constantLong RX7 3 (-2000), .constantLong RX7 5 (2000), .constantLong RX7 11 (4000), .methodLink RX7 152 yX7_weightOf, .instanceMethod yX7_weightOf, .selects RX7 yX7_weightOf yX7_weightOf, .code yX7_weightOf cX7_weightOf 6 (some .int), .fieldLink RX7 27 "SoundBoardModel" "isDead" "[Z", .fieldLink RX7 23 "SoundBoardModel" "xs" "[I", .fieldLink RX7 37 "SoundBoardModel" "part" "I", .fieldLink RX7 149 "SoundBoardModel" "window" "I"] ++ wsX70)
def wsX7_sumOf_r1 : List Cond := [Cond.fieldLink RX7 59 "SoundBoardModel" "senders" "[I", Cond.fieldLink RX7 19 "SoundBoardModel" "n" "I", Cond.methodLink RX7 114 yX7_delayOf, Cond.instanceMethod yX7_delayOf, Cond.selects RX7 yX7_delayOf yX7_delayOf, Cond.initialized RX7, Cond.code yX7_delayOf cX7_delayOf 10 (some .int), Cond.fieldLink RX7 23 "SoundBoardModel" "xs" "[I", Cond.constantLong RX7 104 (4), Cond.fieldLink RX7 34 "SoundBoardModel" "ticks" "I", Cond.fieldLink RX7 31 "SoundBoardModel" "steps" "I", Cond.constantLong RX7 81 (2), Cond.methodLink RX7 106 yX7_rootOf, Cond.static yX7_rootOf, Cond.code yX7_rootOf cX7_rootOf 6 (some .long), Cond.constantLong RX7 102 (67108864), Cond.methodLink RX7 143 yX7_sampleAt, Cond.instanceMethod yX7_sampleAt, Cond.selects RX7 yX7_sampleAt yX7_sampleAt, Cond.code yX7_sampleAt cX7_sampleAt 4 (some .int), Cond.constantLong RX7 127 (399), Cond.fieldLink RX7 63 "SoundBoardModel" "samples" "[I", Cond.methodLink RX7 7 yX7_in, Cond.static yX7_in]
def wsX7_sumOf_r2 : List Cond := [Cond.code yX7_in cX7_in 6 (some .boolean), Cond.methodLink RX7 152 yX7_weightOf, Cond.instanceMethod yX7_weightOf, Cond.selects RX7 yX7_weightOf yX7_weightOf, Cond.code yX7_weightOf cX7_weightOf 6 (some .int), Cond.fieldLink RX7 27 "SoundBoardModel" "isDead" "[Z", Cond.fieldLink RX7 37 "SoundBoardModel" "part" "I", Cond.fieldLink RX7 149 "SoundBoardModel" "window" "I"]
def wsX7_sumOf : List Cond := .code yX7_sumOf cX7_sumOf 8 (some .long) :: ((wsX7_sumOf_r1 ++ wsX7_sumOf_r2) ++ wsX70)
def wsX7_sum_r1 : List Cond := [Cond.constant RX7 159 (-1000000000), Cond.methodLink RX7 139 yX7_isLook, Cond.instanceMethod yX7_isLook, Cond.selects RX7 yX7_isLook yX7_isLook, Cond.initialized RX7, Cond.code yX7_isLook cX7_isLook 2 (some .boolean), Cond.fieldLink RX7 87 "SoundBoardModel" "looks" "I", Cond.methodLink RX7 7 yX7_in, Cond.static yX7_in, Cond.code yX7_in cX7_in 6 (some .boolean), Cond.methodLink RX7 110 yX7_isPlace, Cond.static yX7_isPlace, Cond.code yX7_isPlace cX7_isPlace 2 (some .boolean), Cond.constantLong RX7 3 (-2000), Cond.constantLong RX7 5 (2000), Cond.constantLong RX7 11 (4000), Cond.methodLink RX7 155 yX7_sumOf, Cond.instanceMethod yX7_sumOf, Cond.selects RX7 yX7_sumOf yX7_sumOf, Cond.code yX7_sumOf cX7_sumOf 8 (some .long), Cond.fieldLink RX7 59 "SoundBoardModel" "senders" "[I", Cond.fieldLink RX7 19 "SoundBoardModel" "n" "I", Cond.methodLink RX7 114 yX7_delayOf, Cond.instanceMethod yX7_delayOf]
def wsX7_sum_r2 : List Cond := [Cond.selects RX7 yX7_delayOf yX7_delayOf, Cond.code yX7_delayOf cX7_delayOf 10 (some .int), Cond.fieldLink RX7 23 "SoundBoardModel" "xs" "[I", Cond.constantLong RX7 104 (4), Cond.fieldLink RX7 34 "SoundBoardModel" "ticks" "I", Cond.fieldLink RX7 31 "SoundBoardModel" "steps" "I", Cond.constantLong RX7 81 (2), Cond.methodLink RX7 106 yX7_rootOf, Cond.static yX7_rootOf, Cond.code yX7_rootOf cX7_rootOf 6 (some .long), Cond.constantLong RX7 102 (67108864), Cond.methodLink RX7 143 yX7_sampleAt, Cond.instanceMethod yX7_sampleAt, Cond.selects RX7 yX7_sampleAt yX7_sampleAt, Cond.code yX7_sampleAt cX7_sampleAt 4 (some .int), Cond.constantLong RX7 127 (399), Cond.fieldLink RX7 63 "SoundBoardModel" "samples" "[I", Cond.methodLink RX7 152 yX7_weightOf, Cond.instanceMethod yX7_weightOf, Cond.selects RX7 yX7_weightOf yX7_weightOf, Cond.code yX7_weightOf cX7_weightOf 6 (some .int), Cond.fieldLink RX7 27 "SoundBoardModel" "isDead" "[Z", Cond.fieldLink RX7 37 "SoundBoardModel" "part" "I", Cond.fieldLink RX7 149 "SoundBoardModel" "window" "I"]
def wsX7_sum : List Cond := .code yX7_sum cX7_sum 4 (some .int) :: ((wsX7_sum_r1 ++ wsX7_sum_r2) ++ wsX70)
def wsX7_meanOf_r1 : List Cond := [Cond.fieldLink RX7 87 "SoundBoardModel" "looks" "I", Cond.fieldLink RX7 19 "SoundBoardModel" "n" "I", Cond.methodLink RX7 155 yX7_sumOf, Cond.instanceMethod yX7_sumOf, Cond.selects RX7 yX7_sumOf yX7_sumOf, Cond.initialized RX7, Cond.code yX7_sumOf cX7_sumOf 8 (some .long), Cond.fieldLink RX7 59 "SoundBoardModel" "senders" "[I", Cond.methodLink RX7 114 yX7_delayOf, Cond.instanceMethod yX7_delayOf, Cond.selects RX7 yX7_delayOf yX7_delayOf, Cond.code yX7_delayOf cX7_delayOf 10 (some .int), Cond.fieldLink RX7 23 "SoundBoardModel" "xs" "[I", Cond.constantLong RX7 104 (4), Cond.fieldLink RX7 34 "SoundBoardModel" "ticks" "I", Cond.fieldLink RX7 31 "SoundBoardModel" "steps" "I", Cond.constantLong RX7 81 (2), Cond.methodLink RX7 106 yX7_rootOf, Cond.static yX7_rootOf, Cond.code yX7_rootOf cX7_rootOf 6 (some .long), Cond.constantLong RX7 102 (67108864), Cond.methodLink RX7 143 yX7_sampleAt, Cond.instanceMethod yX7_sampleAt, Cond.selects RX7 yX7_sampleAt yX7_sampleAt]
def wsX7_meanOf_r2 : List Cond := [Cond.code yX7_sampleAt cX7_sampleAt 4 (some .int), Cond.constantLong RX7 127 (399), Cond.fieldLink RX7 63 "SoundBoardModel" "samples" "[I", Cond.methodLink RX7 7 yX7_in, Cond.static yX7_in, Cond.code yX7_in cX7_in 6 (some .boolean), Cond.methodLink RX7 152 yX7_weightOf, Cond.instanceMethod yX7_weightOf, Cond.selects RX7 yX7_weightOf yX7_weightOf, Cond.code yX7_weightOf cX7_weightOf 6 (some .int), Cond.fieldLink RX7 27 "SoundBoardModel" "isDead" "[Z", Cond.fieldLink RX7 37 "SoundBoardModel" "part" "I", Cond.fieldLink RX7 149 "SoundBoardModel" "window" "I"]
def wsX7_meanOf : List Cond := .code yX7_meanOf cX7_meanOf 10 (some .int) :: ((wsX7_meanOf_r1 ++ wsX7_meanOf_r2) ++ wsX70)
def wsX7_areLooks : List Cond := .code yX7_areLooks cX7_areLooks 2 (some .boolean) :: ([.fieldLink RX7 87 "SoundBoardModel" "looks" "I"] ++ wsX70)
def wsX7_mean_r1 : List Cond := [Cond.constant RX7 159 (-1000000000), Cond.methodLink RX7 160 yX7_areLooks, Cond.instanceMethod yX7_areLooks, Cond.selects RX7 yX7_areLooks yX7_areLooks, Cond.initialized RX7, Cond.code yX7_areLooks cX7_areLooks 2 (some .boolean), Cond.fieldLink RX7 87 "SoundBoardModel" "looks" "I", Cond.methodLink RX7 110 yX7_isPlace, Cond.static yX7_isPlace, Cond.code yX7_isPlace cX7_isPlace 2 (some .boolean), Cond.constantLong RX7 3 (-2000), Cond.constantLong RX7 5 (2000), Cond.constantLong RX7 11 (4000), Cond.methodLink RX7 7 yX7_in, Cond.static yX7_in, Cond.code yX7_in cX7_in 6 (some .boolean), Cond.methodLink RX7 163 yX7_meanOf, Cond.instanceMethod yX7_meanOf, Cond.selects RX7 yX7_meanOf yX7_meanOf, Cond.code yX7_meanOf cX7_meanOf 10 (some .int), Cond.fieldLink RX7 19 "SoundBoardModel" "n" "I", Cond.methodLink RX7 155 yX7_sumOf, Cond.instanceMethod yX7_sumOf, Cond.selects RX7 yX7_sumOf yX7_sumOf]
def wsX7_mean_r2 : List Cond := [Cond.code yX7_sumOf cX7_sumOf 8 (some .long), Cond.fieldLink RX7 59 "SoundBoardModel" "senders" "[I", Cond.methodLink RX7 114 yX7_delayOf, Cond.instanceMethod yX7_delayOf, Cond.selects RX7 yX7_delayOf yX7_delayOf, Cond.code yX7_delayOf cX7_delayOf 10 (some .int), Cond.fieldLink RX7 23 "SoundBoardModel" "xs" "[I", Cond.constantLong RX7 104 (4), Cond.fieldLink RX7 34 "SoundBoardModel" "ticks" "I", Cond.fieldLink RX7 31 "SoundBoardModel" "steps" "I", Cond.constantLong RX7 81 (2), Cond.methodLink RX7 106 yX7_rootOf, Cond.static yX7_rootOf, Cond.code yX7_rootOf cX7_rootOf 6 (some .long), Cond.constantLong RX7 102 (67108864), Cond.methodLink RX7 143 yX7_sampleAt, Cond.instanceMethod yX7_sampleAt, Cond.selects RX7 yX7_sampleAt yX7_sampleAt, Cond.code yX7_sampleAt cX7_sampleAt 4 (some .int), Cond.constantLong RX7 127 (399), Cond.fieldLink RX7 63 "SoundBoardModel" "samples" "[I", Cond.methodLink RX7 152 yX7_weightOf, Cond.instanceMethod yX7_weightOf, Cond.selects RX7 yX7_weightOf yX7_weightOf]
def wsX7_mean_r3 : List Cond := [Cond.code yX7_weightOf cX7_weightOf 6 (some .int), Cond.fieldLink RX7 27 "SoundBoardModel" "isDead" "[Z", Cond.fieldLink RX7 37 "SoundBoardModel" "part" "I", Cond.fieldLink RX7 149 "SoundBoardModel" "window" "I"]
def wsX7_mean : List Cond := .code yX7_mean cX7_mean 4 (some .int) :: ((wsX7_mean_r1 ++ (wsX7_mean_r2 ++ wsX7_mean_r3)) ++ wsX70)
def wsX7_next : List Cond := .code yX7_next cX7_next 2 (some .int) :: ([.fieldLink RX7 90 "SoundBoardModel" "pictures" "I", .fieldLink RX7 72 "SoundBoardModel" "pixels" "[I", .fieldLink RX7 66 "SoundBoardModel" "wide" "[I", .fieldLink RX7 69 "SoundBoardModel" "tall" "[I"] ++ wsX70)
def wsX7_picture_r1 : List Cond := [Cond.constantLong RX7 166 (500), Cond.constantLong RX7 83 (16), Cond.fieldLink RX7 66 "SoundBoardModel" "wide" "[I", Cond.fieldLink RX7 69 "SoundBoardModel" "tall" "[I", Cond.fieldLink RX7 72 "SoundBoardModel" "pixels" "[I", Cond.fieldLink RX7 90 "SoundBoardModel" "pictures" "I", Cond.methodLink RX7 160 yX7_areLooks, Cond.instanceMethod yX7_areLooks, Cond.selects RX7 yX7_areLooks yX7_areLooks, Cond.initialized RX7, Cond.code yX7_areLooks cX7_areLooks 2 (some .boolean), Cond.fieldLink RX7 87 "SoundBoardModel" "looks" "I", Cond.methodLink RX7 110 yX7_isPlace, Cond.static yX7_isPlace, Cond.code yX7_isPlace cX7_isPlace 2 (some .boolean), Cond.constantLong RX7 3 (-2000), Cond.constantLong RX7 5 (2000), Cond.constantLong RX7 11 (4000), Cond.methodLink RX7 7 yX7_in, Cond.static yX7_in, Cond.code yX7_in cX7_in 6 (some .boolean), Cond.methodLink RX7 168 yX7_next, Cond.instanceMethod yX7_next, Cond.selects RX7 yX7_next yX7_next]
def wsX7_picture_r2 : List Cond := [Cond.code yX7_next cX7_next 2 (some .int), Cond.methodLink RX7 163 yX7_meanOf, Cond.instanceMethod yX7_meanOf, Cond.selects RX7 yX7_meanOf yX7_meanOf, Cond.code yX7_meanOf cX7_meanOf 10 (some .int), Cond.fieldLink RX7 19 "SoundBoardModel" "n" "I", Cond.methodLink RX7 155 yX7_sumOf, Cond.instanceMethod yX7_sumOf, Cond.selects RX7 yX7_sumOf yX7_sumOf, Cond.code yX7_sumOf cX7_sumOf 8 (some .long), Cond.fieldLink RX7 59 "SoundBoardModel" "senders" "[I", Cond.methodLink RX7 114 yX7_delayOf, Cond.instanceMethod yX7_delayOf, Cond.selects RX7 yX7_delayOf yX7_delayOf, Cond.code yX7_delayOf cX7_delayOf 10 (some .int), Cond.fieldLink RX7 23 "SoundBoardModel" "xs" "[I", Cond.constantLong RX7 104 (4), Cond.fieldLink RX7 34 "SoundBoardModel" "ticks" "I", Cond.fieldLink RX7 31 "SoundBoardModel" "steps" "I", Cond.constantLong RX7 81 (2), Cond.methodLink RX7 106 yX7_rootOf, Cond.static yX7_rootOf, Cond.code yX7_rootOf cX7_rootOf 6 (some .long), Cond.constantLong RX7 102 (67108864)]
def wsX7_picture_r3 : List Cond := [Cond.methodLink RX7 143 yX7_sampleAt, Cond.instanceMethod yX7_sampleAt, Cond.selects RX7 yX7_sampleAt yX7_sampleAt, Cond.code yX7_sampleAt cX7_sampleAt 4 (some .int), Cond.constantLong RX7 127 (399), Cond.fieldLink RX7 63 "SoundBoardModel" "samples" "[I", Cond.methodLink RX7 152 yX7_weightOf, Cond.instanceMethod yX7_weightOf, Cond.selects RX7 yX7_weightOf yX7_weightOf, Cond.code yX7_weightOf cX7_weightOf 6 (some .int), Cond.fieldLink RX7 27 "SoundBoardModel" "isDead" "[Z", Cond.fieldLink RX7 37 "SoundBoardModel" "part" "I", Cond.fieldLink RX7 149 "SoundBoardModel" "window" "I"]
def wsX7_picture : List Cond := .code yX7_picture cX7_picture 13 (some .int) :: ((wsX7_picture_r1 ++ (wsX7_picture_r2 ++ wsX7_picture_r3)) ++ wsX70)
def wsX7_isPicture : List Cond := .code yX7_isPicture cX7_isPicture 2 (some .boolean) :: ([.fieldLink RX7 90 "SoundBoardModel" "pictures" "I", .methodLink RX7 7 yX7_in, .static yX7_in, .initialized RX7, .code yX7_in cX7_in 6 (some .boolean)] ++ wsX70)
def wsX7_pixel : List Cond := .code yX7_pixel cX7_pixel 4 (some .int) :: ([.fieldLink RX7 66 "SoundBoardModel" "wide" "[I", .fieldLink RX7 69 "SoundBoardModel" "tall" "[I", .fieldLink RX7 72 "SoundBoardModel" "pixels" "[I", .constant RX7 159 (-1000000000), .methodLink RX7 171 yX7_isPicture, .instanceMethod yX7_isPicture, .selects RX7 yX7_isPicture yX7_isPicture, .initialized RX7, .code yX7_isPicture cX7_isPicture 2 (some .boolean), .fieldLink RX7 90 "SoundBoardModel" "pictures" "I", .methodLink RX7 7 yX7_in, .static yX7_in, .code yX7_in cX7_in 6 (some .boolean)] ++ wsX70)
def wsX7_about : List Cond := .code yX7_about cX7_about 5 (some .int) :: ([.constantLong RX7 174 (3), .fieldLink RX7 66 "SoundBoardModel" "wide" "[I", .fieldLink RX7 69 "SoundBoardModel" "tall" "[I", .fieldLink RX7 72 "SoundBoardModel" "pixels" "[I", .methodLink RX7 171 yX7_isPicture, .instanceMethod yX7_isPicture, .selects RX7 yX7_isPicture yX7_isPicture, .initialized RX7, .code yX7_isPicture cX7_isPicture 2 (some .boolean), .fieldLink RX7 90 "SoundBoardModel" "pictures" "I", .methodLink RX7 7 yX7_in, .static yX7_in, .code yX7_in cX7_in 6 (some .boolean)] ++ wsX70)
def wsX7_differ : List Cond := .code yX7_differ cX7_differ 7 (some .int) :: ([.fieldLink RX7 66 "SoundBoardModel" "wide" "[I", .fieldLink RX7 69 "SoundBoardModel" "tall" "[I", .fieldLink RX7 75 "SoundBoardModel" "made" "[I", .fieldLink RX7 72 "SoundBoardModel" "pixels" "[I", .fieldLink RX7 90 "SoundBoardModel" "pictures" "I", .methodLink RX7 171 yX7_isPicture, .instanceMethod yX7_isPicture, .selects RX7 yX7_isPicture yX7_isPicture, .initialized RX7, .code yX7_isPicture cX7_isPicture 2 (some .boolean), .methodLink RX7 7 yX7_in, .static yX7_in, .code yX7_in cX7_in 6 (some .boolean), .methodLink RX7 168 yX7_next, .instanceMethod yX7_next, .selects RX7 yX7_next yX7_next, .code yX7_next cX7_next 2 (some .int)] ++ wsX70)
def wsX7_turned_r1 : List Cond := [Cond.fieldLink RX7 59 "SoundBoardModel" "senders" "[I", Cond.fieldLink RX7 19 "SoundBoardModel" "n" "I", Cond.methodLink RX7 114 yX7_delayOf, Cond.instanceMethod yX7_delayOf, Cond.selects RX7 yX7_delayOf yX7_delayOf, Cond.initialized RX7, Cond.code yX7_delayOf cX7_delayOf 10 (some .int), Cond.fieldLink RX7 23 "SoundBoardModel" "xs" "[I", Cond.constantLong RX7 104 (4), Cond.fieldLink RX7 34 "SoundBoardModel" "ticks" "I", Cond.fieldLink RX7 31 "SoundBoardModel" "steps" "I", Cond.constantLong RX7 81 (2), Cond.methodLink RX7 106 yX7_rootOf, Cond.static yX7_rootOf, Cond.code yX7_rootOf cX7_rootOf 6 (some .long), Cond.constantLong RX7 102 (67108864), Cond.methodLink RX7 143 yX7_sampleAt, Cond.instanceMethod yX7_sampleAt, Cond.selects RX7 yX7_sampleAt yX7_sampleAt, Cond.code yX7_sampleAt cX7_sampleAt 4 (some .int), Cond.constantLong RX7 127 (399), Cond.fieldLink RX7 63 "SoundBoardModel" "samples" "[I", Cond.methodLink RX7 7 yX7_in, Cond.static yX7_in]
def wsX7_turned_r2 : List Cond := [Cond.code yX7_in cX7_in 6 (some .boolean)]
def wsX7_turned : List Cond := .code yX7_turned cX7_turned 12 (some .long) :: ((wsX7_turned_r1 ++ wsX7_turned_r2) ++ wsX70)
def wsX7_turn_r1 : List Cond := [Cond.fieldLink RX7 59 "SoundBoardModel" "senders" "[I", Cond.methodLink RX7 139 yX7_isLook, Cond.instanceMethod yX7_isLook, Cond.selects RX7 yX7_isLook yX7_isLook, Cond.initialized RX7, Cond.code yX7_isLook cX7_isLook 2 (some .boolean), Cond.fieldLink RX7 87 "SoundBoardModel" "looks" "I", Cond.methodLink RX7 7 yX7_in, Cond.static yX7_in, Cond.code yX7_in cX7_in 6 (some .boolean), Cond.methodLink RX7 110 yX7_isPlace, Cond.static yX7_isPlace, Cond.code yX7_isPlace cX7_isPlace 2 (some .boolean), Cond.constantLong RX7 3 (-2000), Cond.constantLong RX7 5 (2000), Cond.constantLong RX7 11 (4000), Cond.methodLink RX7 176 yX7_turned, Cond.instanceMethod yX7_turned, Cond.selects RX7 yX7_turned yX7_turned, Cond.code yX7_turned cX7_turned 12 (some .long), Cond.fieldLink RX7 19 "SoundBoardModel" "n" "I", Cond.methodLink RX7 114 yX7_delayOf, Cond.instanceMethod yX7_delayOf, Cond.selects RX7 yX7_delayOf yX7_delayOf]
def wsX7_turn_r2 : List Cond := [Cond.code yX7_delayOf cX7_delayOf 10 (some .int), Cond.fieldLink RX7 23 "SoundBoardModel" "xs" "[I", Cond.constantLong RX7 104 (4), Cond.fieldLink RX7 34 "SoundBoardModel" "ticks" "I", Cond.fieldLink RX7 31 "SoundBoardModel" "steps" "I", Cond.constantLong RX7 81 (2), Cond.methodLink RX7 106 yX7_rootOf, Cond.static yX7_rootOf, Cond.code yX7_rootOf cX7_rootOf 6 (some .long), Cond.constantLong RX7 102 (67108864), Cond.methodLink RX7 143 yX7_sampleAt, Cond.instanceMethod yX7_sampleAt, Cond.selects RX7 yX7_sampleAt yX7_sampleAt, Cond.code yX7_sampleAt cX7_sampleAt 4 (some .int), Cond.constantLong RX7 127 (399), Cond.fieldLink RX7 63 "SoundBoardModel" "samples" "[I"]
def wsX7_turn : List Cond := .code yX7_turn cX7_turn 12 (some .int) :: ((wsX7_turn_r1 ++ wsX7_turn_r2) ++ wsX70)
def wsX7_fan_r1 : List Cond := [Cond.constantLong RX7 81 (2), Cond.constantLong RX7 147 (9), Cond.constantLong RX7 83 (16), Cond.constantLong RX7 180 (250), Cond.fieldLink RX7 182 "SoundBoardModel" "fanLines" "I", Cond.fieldLink RX7 185 "SoundBoardModel" "fanMeans" "I", Cond.fieldLink RX7 188 "SoundBoardModel" "fanStep" "I", Cond.fieldLink RX7 78 "SoundBoardModel" "fan" "[I", Cond.methodLink RX7 139 yX7_isLook, Cond.instanceMethod yX7_isLook, Cond.selects RX7 yX7_isLook yX7_isLook, Cond.initialized RX7, Cond.code yX7_isLook cX7_isLook 2 (some .boolean), Cond.fieldLink RX7 87 "SoundBoardModel" "looks" "I", Cond.methodLink RX7 7 yX7_in, Cond.static yX7_in, Cond.code yX7_in cX7_in 6 (some .boolean), Cond.methodLink RX7 110 yX7_isPlace, Cond.static yX7_isPlace, Cond.code yX7_isPlace cX7_isPlace 2 (some .boolean), Cond.constantLong RX7 3 (-2000), Cond.constantLong RX7 5 (2000), Cond.constantLong RX7 11 (4000), Cond.methodLink RX7 163 yX7_meanOf]
def wsX7_fan_r2 : List Cond := [Cond.instanceMethod yX7_meanOf, Cond.selects RX7 yX7_meanOf yX7_meanOf, Cond.code yX7_meanOf cX7_meanOf 10 (some .int), Cond.fieldLink RX7 19 "SoundBoardModel" "n" "I", Cond.methodLink RX7 155 yX7_sumOf, Cond.instanceMethod yX7_sumOf, Cond.selects RX7 yX7_sumOf yX7_sumOf, Cond.code yX7_sumOf cX7_sumOf 8 (some .long), Cond.fieldLink RX7 59 "SoundBoardModel" "senders" "[I", Cond.methodLink RX7 114 yX7_delayOf, Cond.instanceMethod yX7_delayOf, Cond.selects RX7 yX7_delayOf yX7_delayOf, Cond.code yX7_delayOf cX7_delayOf 10 (some .int), Cond.fieldLink RX7 23 "SoundBoardModel" "xs" "[I", Cond.constantLong RX7 104 (4), Cond.fieldLink RX7 34 "SoundBoardModel" "ticks" "I", Cond.fieldLink RX7 31 "SoundBoardModel" "steps" "I", Cond.methodLink RX7 106 yX7_rootOf, Cond.static yX7_rootOf, Cond.code yX7_rootOf cX7_rootOf 6 (some .long), Cond.constantLong RX7 102 (67108864), Cond.methodLink RX7 143 yX7_sampleAt, Cond.instanceMethod yX7_sampleAt, Cond.selects RX7 yX7_sampleAt yX7_sampleAt]
def wsX7_fan_r3 : List Cond := [Cond.code yX7_sampleAt cX7_sampleAt 4 (some .int), Cond.constantLong RX7 127 (399), Cond.fieldLink RX7 63 "SoundBoardModel" "samples" "[I", Cond.methodLink RX7 152 yX7_weightOf, Cond.instanceMethod yX7_weightOf, Cond.selects RX7 yX7_weightOf yX7_weightOf, Cond.code yX7_weightOf cX7_weightOf 6 (some .int), Cond.fieldLink RX7 27 "SoundBoardModel" "isDead" "[Z", Cond.fieldLink RX7 37 "SoundBoardModel" "part" "I", Cond.fieldLink RX7 149 "SoundBoardModel" "window" "I"]
def wsX7_fan : List Cond := .code yX7_fan cX7_fan 9 (some .int) :: ((wsX7_fan_r1 ++ (wsX7_fan_r2 ++ wsX7_fan_r3)) ++ wsX70)
def wsX7_fanAt : List Cond := .code yX7_fanAt cX7_fanAt 3 (some .int) :: ([.fieldLink RX7 182 "SoundBoardModel" "fanLines" "I", .fieldLink RX7 185 "SoundBoardModel" "fanMeans" "I", .fieldLink RX7 78 "SoundBoardModel" "fan" "[I", .constant RX7 159 (-1000000000), .methodLink RX7 7 yX7_in, .static yX7_in, .initialized RX7, .code yX7_in cX7_in 6 (some .boolean)] ++ wsX70)
def wsX7_shared : List Cond := .code yX7_shared cX7_shared 4 (some .long) :: ([.fieldLink RX7 78 "SoundBoardModel" "fan" "[I"] ++ wsX70)
def wsX7_board : List Cond := .code yX7_board cX7_board 16 (some .int) :: ([.constantLong RX7 81 (2), .constantLong RX7 191 (12), .constantLong RX7 166 (500), .fieldLink RX7 182 "SoundBoardModel" "fanLines" "I", .constant RX7 159 (-1000000000), .fieldLink RX7 188 "SoundBoardModel" "fanStep" "I", .fieldLink RX7 185 "SoundBoardModel" "fanMeans" "I", .constantLong RX7 196 (256), .methodLink RX7 7 yX7_in, .static yX7_in, .initialized RX7, .code yX7_in cX7_in 6 (some .boolean), .methodLink RX7 193 yX7_shared, .instanceMethod yX7_shared, .selects RX7 yX7_shared yX7_shared, .code yX7_shared cX7_shared 4 (some .long), .fieldLink RX7 78 "SoundBoardModel" "fan" "[I"] ++ wsX70)
def wsX7_caliper : List Cond := .code yX7_caliper cX7_caliper 9 (some .int) :: ([.methodLink RX7 110 yX7_isPlace, .static yX7_isPlace, .initialized RX7, .code yX7_isPlace cX7_isPlace 2 (some .boolean), .constantLong RX7 3 (-2000), .constantLong RX7 5 (2000), .constantLong RX7 11 (4000), .methodLink RX7 7 yX7_in, .static yX7_in, .code yX7_in cX7_in 6 (some .boolean), .methodLink RX7 106 yX7_rootOf, .static yX7_rootOf, .code yX7_rootOf cX7_rootOf 6 (some .long), .constantLong RX7 102 (67108864), .constantLong RX7 81 (2)])
def wsX7_cap : List Cond := .code yX7_cap cX7_cap 3 (some .int) :: ([.constantLong RX7 198 (1000000), .fieldLink RX7 41 "SoundBoardModel" "limit" "I", .methodLink RX7 7 yX7_in, .static yX7_in, .initialized RX7, .code yX7_in cX7_in 6 (some .boolean)] ++ wsX70)
def wsX7_tick : List Cond := .code yX7_tick cX7_tick 3 (some .int) :: ([.constantLong RX7 96 (1000), .fieldLink RX7 93 "SoundBoardModel" "heat" "I", .methodLink RX7 7 yX7_in, .static yX7_in, .initialized RX7, .code yX7_in cX7_in 6 (some .boolean)] ++ wsX70)
def wsX7_count : List Cond := .code yX7_count cX7_count 2 (some .int) :: ([.fieldLink RX7 19 "SoundBoardModel" "n" "I", .fieldLink RX7 124 "SoundBoardModel" "points" "I", .fieldLink RX7 87 "SoundBoardModel" "looks" "I", .fieldLink RX7 90 "SoundBoardModel" "pictures" "I", .fieldLink RX7 93 "SoundBoardModel" "heat" "I", .fieldLink RX7 136 "SoundBoardModel" "ever" "I", .methodLink RX7 98 yX7_alive, .instanceMethod yX7_alive, .selects RX7 yX7_alive yX7_alive, .initialized RX7, .code yX7_alive cX7_alive 3 (some .int), .fieldLink RX7 27 "SoundBoardModel" "isDead" "[Z"] ++ wsX70)
def wsX7_digest_r1 : List Cond := [Cond.constantLong RX7 200 (131), Cond.constantLong RX7 202 (31), Cond.fieldLink RX7 124 "SoundBoardModel" "points" "I", Cond.fieldLink RX7 44 "SoundBoardModel" "px" "[I", Cond.fieldLink RX7 47 "SoundBoardModel" "pz" "[I", Cond.fieldLink RX7 87 "SoundBoardModel" "looks" "I", Cond.fieldLink RX7 59 "SoundBoardModel" "senders" "[I", Cond.fieldLink RX7 19 "SoundBoardModel" "n" "I", Cond.fieldLink RX7 90 "SoundBoardModel" "pictures" "I", Cond.fieldLink RX7 66 "SoundBoardModel" "wide" "[I", Cond.fieldLink RX7 69 "SoundBoardModel" "tall" "[I", Cond.fieldLink RX7 72 "SoundBoardModel" "pixels" "[I", Cond.methodLink RX7 204 yX7_count, Cond.instanceMethod yX7_count, Cond.selects RX7 yX7_count yX7_count, Cond.initialized RX7, Cond.code yX7_count cX7_count 2 (some .int), Cond.fieldLink RX7 93 "SoundBoardModel" "heat" "I", Cond.fieldLink RX7 136 "SoundBoardModel" "ever" "I", Cond.methodLink RX7 98 yX7_alive, Cond.instanceMethod yX7_alive, Cond.selects RX7 yX7_alive yX7_alive, Cond.code yX7_alive cX7_alive 3 (some .int), Cond.fieldLink RX7 27 "SoundBoardModel" "isDead" "[Z"]
def wsX7_digest_r2 : List Cond := [Cond.methodLink RX7 143 yX7_sampleAt, Cond.instanceMethod yX7_sampleAt, Cond.selects RX7 yX7_sampleAt yX7_sampleAt, Cond.code yX7_sampleAt cX7_sampleAt 4 (some .int), Cond.constantLong RX7 127 (399), Cond.fieldLink RX7 63 "SoundBoardModel" "samples" "[I", Cond.methodLink RX7 7 yX7_in, Cond.static yX7_in, Cond.code yX7_in cX7_in 6 (some .boolean)]
def wsX7_digest : List Cond := .code yX7_digest cX7_digest 8 (some .long) :: ((wsX7_digest_r1 ++ wsX7_digest_r2) ++ wsX70)
def wsJ9_abs_0f7a4 : List Cond := .code yJ9_abs_0f7a4 cJ9_abs_0f7a4 1 (some .int) :: ([])
def wsJ9_max_7cf53 : List Cond := .code yJ9_max_7cf53 cJ9_max_7cf53 2 (some .int) :: ([])
def wsJ9_min_7cf53 : List Cond := .code yJ9_min_7cf53 cJ9_min_7cf53 2 (some .int) :: ([])
def wsL_law_r1 : List Cond := [Cond.classLink RL 7 RX6, Cond.instantiable RX6 6, Cond.initialized RX6, Cond.classLink RL 10 RX7, Cond.instantiable RX7 28, Cond.initialized RX7, Cond.methodLink RL 9 yX6_init, Cond.instanceMethod yX6_init, Cond.code yX6_init cX6_init 1 none, Cond.methodLink RX6 1 objectInit, Cond.instanceMethod objectInit, Cond.code objectInit ⟨#[0xb1]⟩ 1 none, Cond.classLink RX6 7 RX3, Cond.instantiable RX3 11, Cond.initialized RX3, Cond.fieldLink RX6 10 "SoundBoard" "elements" "LSoundBoard$Probe;", Cond.classLink RX6 16 RX5, Cond.instantiable RX5 6, Cond.initialized RX5, Cond.fieldLink RX6 19 "SoundBoard" "scene" "LSoundBoard$Scene;", Cond.classLink RX6 23 RX1, Cond.instantiable RX1 5, Cond.initialized RX1, Cond.fieldLink RX6 26 "SoundBoard" "heard" "LSoundBoard$Looks;"]
def wsL_law_r2 : List Cond := [Cond.classLink RX6 30 RX4, Cond.instantiable RX4 5, Cond.initialized RX4, Cond.fieldLink RX6 33 "SoundBoard" "ring" "LSoundBoard$Ring;", Cond.classLink RX6 37 RX0, Cond.instantiable RX0 4, Cond.initialized RX0, Cond.fieldLink RX6 40 "SoundBoard" "laid" "LSoundBoard$Fan;", Cond.classLink RX6 44 RX2, Cond.instantiable RX2 2, Cond.initialized RX2, Cond.fieldLink RX6 47 "SoundBoard" "power" "LSoundBoard$Power;", Cond.methodLink RX6 9 yX3_init, Cond.instanceMethod yX3_init, Cond.code yX3_init cX3_init 1 none, Cond.methodLink RX3 3 objectInit, Cond.arrayClass .int, Cond.fieldLink RX3 9 "SoundBoard$Probe" "xs" "[I", Cond.arrayClass .boolean, Cond.fieldLink RX3 15 "SoundBoard$Probe" "deads" "[Z", Cond.fieldLink RX3 19 "SoundBoard$Probe" "aimedDelays" "[I", Cond.fieldLink RX3 22 "SoundBoard$Probe" "aimedWeights" "[I", Cond.fieldLink RX3 25 "SoundBoard$Probe" "steps" "I", Cond.fieldLink RX3 29 "SoundBoard$Probe" "ticks" "I"]
def wsL_law_r3 : List Cond := [Cond.fieldLink RX3 32 "SoundBoard$Probe" "window" "I", Cond.fieldLink RX3 35 "SoundBoard$Probe" "narrowness" "I", Cond.methodLink RX3 38 yX3_renew, Cond.instanceMethod yX3_renew, Cond.selects RX3 yX3_renew yX3_renew, Cond.code yX3_renew cX3_renew 5 none, Cond.methodLink RX3 42 Lib.Math.min.name, Cond.static Lib.Math.min.name, Cond.initialized "java/lang/Math", Cond.code Lib.Math.min.name Lib.Math.min.code 2 (some .int), Cond.methodLink RX3 48 Lib.Math.max.name, Cond.static Lib.Math.max.name, Cond.code Lib.Math.max.name Lib.Math.max.code 2 (some .int), Cond.fieldLink RX3 51 "SoundBoard$Probe" "size" "I", Cond.fieldLink RX3 54 "SoundBoard$Probe" "alive" "I", Cond.methodLink RX6 18 yX5_init, Cond.instanceMethod yX5_init, Cond.code yX5_init cX5_init 1 none, Cond.methodLink RX5 3 objectInit, Cond.fieldLink RX5 11 "SoundBoard$Scene" "xs" "[I", Cond.fieldLink RX5 15 "SoundBoard$Scene" "zs" "[I", Cond.fieldLink RX5 18 "SoundBoard$Scene" "strengths" "[I", Cond.fieldLink RX5 21 "SoundBoard$Scene" "dxs" "[I", Cond.fieldLink RX5 24 "SoundBoard$Scene" "dzs" "[I"]
def wsL_law_r4 : List Cond := [Cond.methodLink RX6 25 yX1_init, Cond.instanceMethod yX1_init, Cond.code yX1_init cX1_init 1 none, Cond.methodLink RX1 5 objectInit, Cond.constant RX1 11 (38400), Cond.fieldLink RX1 12 "SoundBoard$Looks" "samples" "[I", Cond.fieldLink RX1 16 "SoundBoard$Looks" "senders" "[I", Cond.methodLink RX6 32 yX4_init, Cond.instanceMethod yX4_init, Cond.code yX4_init cX4_init 1 none, Cond.methodLink RX4 3 objectInit, Cond.fieldLink RX4 9 "SoundBoard$Ring" "pixels" "[I", Cond.fieldLink RX4 13 "SoundBoard$Ring" "widths" "[I", Cond.fieldLink RX4 16 "SoundBoard$Ring" "heights" "[I", Cond.methodLink RX6 39 yX0_init, Cond.instanceMethod yX0_init, Cond.code yX0_init cX0_init 1 none, Cond.methodLink RX0 1 objectInit, Cond.fieldLink RX0 9 "SoundBoard$Fan" "values" "[I", Cond.fieldLink RX0 13 "SoundBoard$Fan" "step" "I", Cond.methodLink RX6 46 yX2_init, Cond.instanceMethod yX2_init, Cond.code yX2_init cX2_init 1 none, Cond.methodLink RX2 1 objectInit]
def wsL_law_r5 : List Cond := [Cond.fieldLink RX2 7 "SoundBoard$Power" "heat" "I", Cond.constant RX2 13 (100000), Cond.fieldLink RX2 14 "SoundBoard$Power" "most" "I", Cond.methodLink RL 12 yX7_init, Cond.instanceMethod yX7_init, Cond.code yX7_init cX7_init 1 none, Cond.methodLink RX7 13 objectInit, Cond.fieldLink RX7 19 "SoundBoardModel" "n" "I", Cond.fieldLink RX7 23 "SoundBoardModel" "xs" "[I", Cond.fieldLink RX7 27 "SoundBoardModel" "isDead" "[Z", Cond.fieldLink RX7 31 "SoundBoardModel" "steps" "I", Cond.fieldLink RX7 34 "SoundBoardModel" "ticks" "I", Cond.fieldLink RX7 37 "SoundBoardModel" "part" "I", Cond.constant RX7 40 (100000), Cond.fieldLink RX7 41 "SoundBoardModel" "limit" "I", Cond.fieldLink RX7 44 "SoundBoardModel" "px" "[I", Cond.fieldLink RX7 47 "SoundBoardModel" "pz" "[I", Cond.fieldLink RX7 50 "SoundBoardModel" "strength" "[I", Cond.fieldLink RX7 53 "SoundBoardModel" "moveX" "[I", Cond.fieldLink RX7 56 "SoundBoardModel" "moveZ" "[I", Cond.fieldLink RX7 59 "SoundBoardModel" "senders" "[I", Cond.constant RX7 62 (38400), Cond.fieldLink RX7 63 "SoundBoardModel" "samples" "[I", Cond.fieldLink RX7 66 "SoundBoardModel" "wide" "[I"]
def wsL_law_r6 : List Cond := [Cond.fieldLink RX7 69 "SoundBoardModel" "tall" "[I", Cond.fieldLink RX7 72 "SoundBoardModel" "pixels" "[I", Cond.fieldLink RX7 75 "SoundBoardModel" "made" "[I", Cond.fieldLink RX7 78 "SoundBoardModel" "fan" "[I", Cond.methodLink RL 13 yX6_probe, Cond.instanceMethod yX6_probe, Cond.selects RX6 yX6_probe yX6_probe, Cond.code yX6_probe cX6_probe 4 (some .int), Cond.fieldLink RX6 63 "SoundBoard$Power" "heat" "I", Cond.methodLink RX6 51 yX6_within, Cond.static yX6_within, Cond.code yX6_within cX6_within 3 (some .boolean), Cond.methodLink RX6 55 yX3_renew, Cond.methodLink RX6 59 yX1_forget, Cond.instanceMethod yX1_forget, Cond.selects RX1 yX1_forget yX1_forget, Cond.code yX1_forget cX1_forget 1 none, Cond.fieldLink RX1 19 "SoundBoard$Looks" "oldest" "I", Cond.fieldLink RX1 23 "SoundBoard$Looks" "size" "I", Cond.methodLink RX6 62 yX4_forget, Cond.instanceMethod yX4_forget, Cond.selects RX4 yX4_forget yX4_forget, Cond.code yX4_forget cX4_forget 1 none, Cond.fieldLink RX4 19 "SoundBoard$Ring" "oldest" "I"]
def wsL_law_r7 : List Cond := [Cond.fieldLink RX4 23 "SoundBoard$Ring" "size" "I", Cond.methodLink RL 17 yX7_probe, Cond.instanceMethod yX7_probe, Cond.selects RX7 yX7_probe yX7_probe, Cond.code yX7_probe cX7_probe 5 (some .int), Cond.constantLong RX7 81 (2), Cond.constantLong RX7 83 (16), Cond.constantLong RX7 85 (200), Cond.constantLong RX7 3 (-2000), Cond.constantLong RX7 5 (2000), Cond.fieldLink RX7 87 "SoundBoardModel" "looks" "I", Cond.fieldLink RX7 90 "SoundBoardModel" "pictures" "I", Cond.fieldLink RX7 93 "SoundBoardModel" "heat" "I", Cond.methodLink RX7 7 yX7_in, Cond.static yX7_in, Cond.code yX7_in cX7_in 6 (some .boolean), Cond.methodLink RL 18 yX6_pace, Cond.instanceMethod yX6_pace, Cond.selects RX6 yX6_pace yX6_pace, Cond.code yX6_pace cX6_pace 3 (some .int), Cond.fieldLink RX6 67 "SoundBoard$Looks" "size" "I", Cond.fieldLink RX6 70 "SoundBoard$Probe" "steps" "I", Cond.fieldLink RX6 73 "SoundBoard$Probe" "ticks" "I", Cond.methodLink RL 22 yX7_pace]
def wsL_law_r8 : List Cond := [Cond.instanceMethod yX7_pace, Cond.selects RX7 yX7_pace yX7_pace, Cond.code yX7_pace cX7_pace 3 (some .int), Cond.constantLong RX7 96 (1000), Cond.methodLink RL 23 yX6_dead, Cond.instanceMethod yX6_dead, Cond.selects RX6 yX6_dead yX6_dead, Cond.code yX6_dead cX6_dead 3 (some .int), Cond.fieldLink RX6 83 "SoundBoard$Probe" "alive" "I", Cond.methodLink RX6 76 yX3_has, Cond.instanceMethod yX3_has, Cond.selects RX3 yX3_has yX3_has, Cond.code yX3_has cX3_has 2 (some .boolean), Cond.methodLink RX6 80 yX3_isDead, Cond.instanceMethod yX3_isDead, Cond.selects RX3 yX3_isDead yX3_isDead, Cond.code yX3_isDead cX3_isDead 2 (some .boolean), Cond.methodLink RX3 57 yX3_has, Cond.methodLink RX6 86 yX3_setDead, Cond.instanceMethod yX3_setDead, Cond.selects RX3 yX3_setDead yX3_setDead, Cond.code yX3_setDead cX3_setDead 3 none, Cond.methodLink RL 27 yX7_dead, Cond.instanceMethod yX7_dead]
def wsL_law_r9 : List Cond := [Cond.selects RX7 yX7_dead yX7_dead, Cond.code yX7_dead cX7_dead 3 (some .int), Cond.methodLink RX7 98 yX7_alive, Cond.instanceMethod yX7_alive, Cond.selects RX7 yX7_alive yX7_alive, Cond.code yX7_alive cX7_alive 3 (some .int), Cond.methodLink RL 28 yX6_delay, Cond.instanceMethod yX6_delay, Cond.selects RX6 yX6_delay yX6_delay, Cond.code yX6_delay cX6_delay 4 (some .int), Cond.methodLink RX6 90 yX6_isPlace, Cond.static yX6_isPlace, Cond.code yX6_isPlace cX6_isPlace 2 (some .boolean), Cond.methodLink RX6 94 yX3_delayOf, Cond.instanceMethod yX3_delayOf, Cond.selects RX3 yX3_delayOf yX3_delayOf, Cond.code yX3_delayOf cX3_delayOf 10 (some .int), Cond.constantLong RX3 68 (4), Cond.constantLong RX3 70 (2), Cond.methodLink RX3 65 yX3_gap, Cond.instanceMethod yX3_gap, Cond.selects RX3 yX3_gap yX3_gap, Cond.code yX3_gap cX3_gap 3 (some .int), Cond.methodLink RX3 61 Lib.Math.abs.name]
def wsL_law_r10 : List Cond := [Cond.static Lib.Math.abs.name, Cond.code Lib.Math.abs.name Lib.Math.abs.code 1 (some .int), Cond.static yX6_root, Cond.code yX6_root cX6_root 9 (some .long), Cond.constantLong RX6 247 (2), Cond.methodLink RL 31 yX7_delay, Cond.instanceMethod yX7_delay, Cond.selects RX7 yX7_delay yX7_delay, Cond.code yX7_delay cX7_delay 4 (some .int), Cond.methodLink RX7 110 yX7_isPlace, Cond.static yX7_isPlace, Cond.code yX7_isPlace cX7_isPlace 2 (some .boolean), Cond.constantLong RX7 11 (4000), Cond.methodLink RX7 114 yX7_delayOf, Cond.instanceMethod yX7_delayOf, Cond.selects RX7 yX7_delayOf yX7_delayOf, Cond.code yX7_delayOf cX7_delayOf 10 (some .int), Cond.constantLong RX7 104 (4), Cond.methodLink RX7 106 yX7_rootOf, Cond.static yX7_rootOf, Cond.code yX7_rootOf cX7_rootOf 6 (some .long), Cond.constantLong RX7 102 (67108864), Cond.methodLink RL 32 yX6_point, Cond.instanceMethod yX6_point]
def wsL_law_r11 : List Cond := [Cond.selects RX6 yX6_point yX6_point, Cond.code yX6_point cX6_point 6 (some .int), Cond.fieldLink RX6 98 "SoundBoard$Scene" "size" "I", Cond.methodLink RX6 99 yX5_put, Cond.instanceMethod yX5_put, Cond.selects RX5 yX5_put yX5_put, Cond.code yX5_put cX5_put 6 (some .int), Cond.fieldLink RX5 27 "SoundBoard$Scene" "size" "I", Cond.methodLink RL 36 yX7_point, Cond.instanceMethod yX7_point, Cond.selects RX7 yX7_point yX7_point, Cond.code yX7_point cX7_point 6 (some .int), Cond.constantLong RX7 118 (-100), Cond.constantLong RX7 120 (100), Cond.constantLong RX7 122 (-200), Cond.fieldLink RX7 124 "SoundBoardModel" "points" "I", Cond.methodLink RL 37 yX6_clear, Cond.instanceMethod yX6_clear, Cond.selects RX6 yX6_clear yX6_clear, Cond.code yX6_clear cX6_clear 2 (some .int), Cond.methodLink RL 41 yX7_clear, Cond.instanceMethod yX7_clear, Cond.selects RX7 yX7_clear yX7_clear, Cond.code yX7_clear cX7_clear 2 (some .int)]
def wsL_law_r12 : List Cond := [Cond.methodLink RL 42 yX6_pointAt, Cond.instanceMethod yX6_pointAt, Cond.selects RX6 yX6_pointAt yX6_pointAt, Cond.code yX6_pointAt cX6_pointAt 3 (some .int), Cond.fieldLink RX6 104 "SoundBoard$Scene" "xs" "[I", Cond.fieldLink RX6 108 "SoundBoard$Scene" "zs" "[I", Cond.fieldLink RX6 111 "SoundBoard$Scene" "strengths" "[I", Cond.methodLink RX6 103 yX5_has, Cond.instanceMethod yX5_has, Cond.selects RX5 yX5_has yX5_has, Cond.code yX5_has cX5_has 2 (some .boolean), Cond.methodLink RL 45 yX7_pointAt, Cond.instanceMethod yX7_pointAt, Cond.selects RX7 yX7_pointAt yX7_pointAt, Cond.code yX7_pointAt cX7_pointAt 3 (some .int), Cond.methodLink RL 46 yX6_look, Cond.instanceMethod yX6_look, Cond.selects RX6 yX6_look yX6_look, Cond.code yX6_look cX6_look 5 (some .int), Cond.fieldLink RX6 114 "SoundBoard$Power" "most" "I", Cond.methodLink RX6 117 yX1_begin, Cond.instanceMethod yX1_begin, Cond.selects RX1 yX1_begin yX1_begin, Cond.code yX1_begin cX1_begin 4 (some .int)]
def wsL_law_r13 : List Cond := [Cond.fieldLink RX1 26 "SoundBoard$Looks" "ever" "I", Cond.methodLink RX1 29 yX1_slotOf, Cond.instanceMethod yX1_slotOf, Cond.selects RX1 yX1_slotOf yX1_slotOf, Cond.code yX1_slotOf cX1_slotOf 2 (some .int), Cond.methodLink RX1 33 yJ9_floorMod_7cf53, Cond.static yJ9_floorMod_7cf53, Cond.initialized RJ9, Cond.code yJ9_floorMod_7cf53 cJ9_floorMod_7cf53 3 (some .int), Cond.methodLink RX6 121 yX6_hear, Cond.instanceMethod yX6_hear, Cond.selects RX6 yX6_hear yX6_hear, Cond.code yX6_hear cX6_hear 7 none, Cond.fieldLink RX6 137 "SoundBoard$Probe" "size" "I", Cond.methodLink RX6 128 yX3_aim, Cond.instanceMethod yX3_aim, Cond.selects RX3 yX3_aim yX3_aim, Cond.code yX3_aim cX3_aim 4 none, Cond.fieldLink RX3 79 "SoundBoard$Probe" "aimedTotal" "I", Cond.methodLink RX3 82 yX3_delayOf, Cond.methodLink RX3 86 yX3_weightOf, Cond.instanceMethod yX3_weightOf, Cond.selects RX3 yX3_weightOf yX3_weightOf, Cond.code yX3_weightOf cX3_weightOf 6 (some .int)]
def wsL_law_r14 : List Cond := [Cond.methodLink RX3 76 yX3_isDead, Cond.methodLink RX6 131 yX1_senderOf, Cond.instanceMethod yX1_senderOf, Cond.selects RX1 yX1_senderOf yX1_senderOf, Cond.code yX1_senderOf cX1_senderOf 2 (some .int), Cond.methodLink RX6 134 yX3_aimedDelay, Cond.instanceMethod yX3_aimedDelay, Cond.selects RX3 yX3_aimedDelay yX3_aimedDelay, Cond.code yX3_aimedDelay cX3_aimedDelay 2 (some .int), Cond.methodLink RX6 138 yX1_louder, Cond.instanceMethod yX1_louder, Cond.selects RX1 yX1_louder yX1_louder, Cond.code yX1_louder cX1_louder 6 none, Cond.methodLink RX1 39 yX1_placeOf, Cond.instanceMethod yX1_placeOf, Cond.selects RX1 yX1_placeOf yX1_placeOf, Cond.code yX1_placeOf cX1_placeOf 4 (some .int), Cond.methodLink RX6 125 yX5_move, Cond.instanceMethod yX5_move, Cond.selects RX5 yX5_move yX5_move, Cond.code yX5_move cX5_move 2 none, Cond.methodLink RX5 31 Lib.Math.min.name, Cond.methodLink RX5 37 Lib.Math.max.name, Cond.methodLink RL 50 yX7_look]
def wsL_law_r15 : List Cond := [Cond.instanceMethod yX7_look, Cond.selects RX7 yX7_look yX7_look, Cond.code yX7_look cX7_look 8 (some .int), Cond.fieldLink RX7 136 "SoundBoardModel" "ever" "I", Cond.methodLink RX7 129 yX7_add, Cond.instanceMethod yX7_add, Cond.selects RX7 yX7_add yX7_add, Cond.code yX7_add cX7_add 5 none, Cond.constantLong RX7 127 (399), Cond.methodLink RX7 133 yX7_held, Cond.static yX7_held, Cond.code yX7_held cX7_held 3 (some .int), Cond.methodLink RL 51 yX6_sample, Cond.instanceMethod yX6_sample, Cond.selects RX6 yX6_sample yX6_sample, Cond.code yX6_sample cX6_sample 4 (some .int), Cond.constant RX6 143 (-1000000), Cond.methodLink RX6 142 yX1_has, Cond.instanceMethod yX1_has, Cond.selects RX1 yX1_has yX1_has, Cond.code yX1_has cX1_has 2 (some .boolean), Cond.methodLink RX6 144 yX1_at, Cond.instanceMethod yX1_at, Cond.selects RX1 yX1_at yX1_at]
def wsL_law_r16 : List Cond := [Cond.code yX1_at cX1_at 5 (some .int), Cond.methodLink RL 54 yX7_sample, Cond.instanceMethod yX7_sample, Cond.selects RX7 yX7_sample yX7_sample, Cond.code yX7_sample cX7_sample 4 (some .int), Cond.constant RX7 146 (-1000000), Cond.methodLink RX7 139 yX7_isLook, Cond.instanceMethod yX7_isLook, Cond.selects RX7 yX7_isLook yX7_isLook, Cond.code yX7_isLook cX7_isLook 2 (some .boolean), Cond.methodLink RX7 143 yX7_sampleAt, Cond.instanceMethod yX7_sampleAt, Cond.selects RX7 yX7_sampleAt yX7_sampleAt, Cond.code yX7_sampleAt cX7_sampleAt 4 (some .int), Cond.methodLink RL 55 yX6_window, Cond.instanceMethod yX6_window, Cond.selects RX6 yX6_window yX6_window, Cond.code yX6_window cX6_window 4 (some .int), Cond.fieldLink RX6 147 "SoundBoard$Probe" "window" "I", Cond.fieldLink RX6 150 "SoundBoard$Probe" "narrowness" "I", Cond.methodLink RL 58 yX7_window, Cond.instanceMethod yX7_window, Cond.selects RX7 yX7_window yX7_window, Cond.code yX7_window cX7_window 4 (some .int)]
def wsL_law_r17 : List Cond := [Cond.constantLong RX7 147 (9), Cond.fieldLink RX7 149 "SoundBoardModel" "window" "I", Cond.methodLink RL 59 yX6_weight, Cond.instanceMethod yX6_weight, Cond.selects RX6 yX6_weight yX6_weight, Cond.code yX6_weight cX6_weight 4 (some .int), Cond.methodLink RX6 153 yX3_weightOf, Cond.methodLink RL 62 yX7_weight, Cond.instanceMethod yX7_weight, Cond.selects RX7 yX7_weight yX7_weight, Cond.code yX7_weight cX7_weight 4 (some .int), Cond.methodLink RX7 152 yX7_weightOf, Cond.instanceMethod yX7_weightOf, Cond.selects RX7 yX7_weightOf yX7_weightOf, Cond.code yX7_weightOf cX7_weightOf 6 (some .int), Cond.methodLink RL 63 yX6_sum, Cond.instanceMethod yX6_sum, Cond.selects RX6 yX6_sum yX6_sum, Cond.code yX6_sum cX6_sum 4 (some .int), Cond.constant RX6 156 (-1000000000), Cond.methodLink RX6 157 yX6_aimedSum, Cond.instanceMethod yX6_aimedSum, Cond.selects RX6 yX6_aimedSum yX6_aimedSum, Cond.code yX6_aimedSum cX6_aimedSum 6 (some .int)]
def wsL_law_r18 : List Cond := [Cond.methodLink RX6 166 yX3_aimedWeight, Cond.instanceMethod yX3_aimedWeight, Cond.selects RX3 yX3_aimedWeight yX3_aimedWeight, Cond.code yX3_aimedWeight cX3_aimedWeight 2 (some .int), Cond.methodLink RL 66 yX7_sum, Cond.instanceMethod yX7_sum, Cond.selects RX7 yX7_sum yX7_sum, Cond.code yX7_sum cX7_sum 4 (some .int), Cond.constant RX7 159 (-1000000000), Cond.methodLink RX7 155 yX7_sumOf, Cond.instanceMethod yX7_sumOf, Cond.selects RX7 yX7_sumOf yX7_sumOf, Cond.code yX7_sumOf cX7_sumOf 8 (some .long), Cond.methodLink RL 67 yX6_mean, Cond.instanceMethod yX6_mean, Cond.selects RX6 yX6_mean yX6_mean, Cond.code yX6_mean cX6_mean 4 (some .int), Cond.methodLink RX6 160 yX6_areLooks, Cond.instanceMethod yX6_areLooks, Cond.selects RX6 yX6_areLooks yX6_areLooks, Cond.code yX6_areLooks cX6_areLooks 2 (some .boolean), Cond.methodLink RX6 163 yX6_joinedMean, Cond.instanceMethod yX6_joinedMean, Cond.selects RX6 yX6_joinedMean yX6_joinedMean]
def wsL_law_r19 : List Cond := [Cond.code yX6_joinedMean cX6_joinedMean 7 (some .int), Cond.fieldLink RX6 169 "SoundBoard$Probe" "aimedTotal" "I", Cond.methodLink RL 70 yX7_mean, Cond.instanceMethod yX7_mean, Cond.selects RX7 yX7_mean yX7_mean, Cond.code yX7_mean cX7_mean 4 (some .int), Cond.methodLink RX7 160 yX7_areLooks, Cond.instanceMethod yX7_areLooks, Cond.selects RX7 yX7_areLooks yX7_areLooks, Cond.code yX7_areLooks cX7_areLooks 2 (some .boolean), Cond.methodLink RX7 163 yX7_meanOf, Cond.instanceMethod yX7_meanOf, Cond.selects RX7 yX7_meanOf yX7_meanOf, Cond.code yX7_meanOf cX7_meanOf 10 (some .int), Cond.methodLink RL 71 yX6_picture, Cond.instanceMethod yX6_picture, Cond.selects RX6 yX6_picture yX6_picture, Cond.code yX6_picture cX6_picture 11 (some .int), Cond.fieldLink RX6 178 "SoundBoard$Ring" "size" "I", Cond.methodLink RX6 172 yX4_begin, Cond.instanceMethod yX4_begin, Cond.selects RX4 yX4_begin yX4_begin, Cond.code yX4_begin cX4_begin 4 (some .int), Cond.methodLink RX4 26 yX4_slotOf]
def wsL_law_r20 : List Cond := [Cond.instanceMethod yX4_slotOf, Cond.selects RX4 yX4_slotOf yX4_slotOf, Cond.code yX4_slotOf cX4_slotOf 2 (some .int), Cond.methodLink RX4 30 yJ9_floorMod_7cf53, Cond.methodLink RX6 175 yX4_set, Cond.instanceMethod yX4_set, Cond.selects RX4 yX4_set yX4_set, Cond.code yX4_set cX4_set 4 none, Cond.methodLink RX4 36 yX4_isSlot, Cond.instanceMethod yX4_isSlot, Cond.selects RX4 yX4_isSlot yX4_isSlot, Cond.code yX4_isSlot cX4_isSlot 2 (some .boolean), Cond.methodLink RL 75 yX7_picture, Cond.instanceMethod yX7_picture, Cond.selects RX7 yX7_picture yX7_picture, Cond.code yX7_picture cX7_picture 13 (some .int), Cond.constantLong RX7 166 (500), Cond.methodLink RX7 168 yX7_next, Cond.instanceMethod yX7_next, Cond.selects RX7 yX7_next yX7_next, Cond.code yX7_next cX7_next 2 (some .int), Cond.methodLink RL 76 yX6_pixel, Cond.instanceMethod yX6_pixel, Cond.selects RX6 yX6_pixel yX6_pixel]
def wsL_law_r21 : List Cond := [Cond.code yX6_pixel cX6_pixel 6 (some .int), Cond.methodLink RX6 179 yX4_has, Cond.instanceMethod yX4_has, Cond.selects RX4 yX4_has yX4_has, Cond.code yX4_has cX4_has 2 (some .boolean), Cond.methodLink RX6 180 yX4_slotOf, Cond.methodLink RX6 183 yX4_widthOf, Cond.instanceMethod yX4_widthOf, Cond.selects RX4 yX4_widthOf yX4_widthOf, Cond.code yX4_widthOf cX4_widthOf 2 (some .int), Cond.methodLink RX6 186 yX4_heightOf, Cond.instanceMethod yX4_heightOf, Cond.selects RX4 yX4_heightOf yX4_heightOf, Cond.code yX4_heightOf cX4_heightOf 2 (some .int), Cond.methodLink RX6 189 yX4_get, Cond.instanceMethod yX4_get, Cond.selects RX4 yX4_get yX4_get, Cond.code yX4_get cX4_get 3 (some .int), Cond.methodLink RL 79 yX7_pixel, Cond.instanceMethod yX7_pixel, Cond.selects RX7 yX7_pixel yX7_pixel, Cond.code yX7_pixel cX7_pixel 4 (some .int), Cond.methodLink RX7 171 yX7_isPicture, Cond.instanceMethod yX7_isPicture]
def wsL_law_r22 : List Cond := [Cond.selects RX7 yX7_isPicture yX7_isPicture, Cond.code yX7_isPicture cX7_isPicture 2 (some .boolean), Cond.methodLink RL 80 yX6_about, Cond.instanceMethod yX6_about, Cond.selects RX6 yX6_about yX6_about, Cond.code yX6_about cX6_about 4 (some .int), Cond.methodLink RX6 192 yX4_firstGreatest, Cond.instanceMethod yX4_firstGreatest, Cond.selects RX4 yX4_firstGreatest yX4_firstGreatest, Cond.code yX4_firstGreatest cX4_firstGreatest 4 (some .int), Cond.methodLink RX4 40 yX4_widthOf, Cond.methodLink RX4 43 yX4_heightOf, Cond.methodLink RX4 46 yX4_get, Cond.methodLink RL 83 yX7_about, Cond.instanceMethod yX7_about, Cond.selects RX7 yX7_about yX7_about, Cond.code yX7_about cX7_about 5 (some .int), Cond.constantLong RX7 174 (3), Cond.methodLink RL 84 yX6_differ, Cond.instanceMethod yX6_differ, Cond.selects RX6 yX6_differ yX6_differ, Cond.code yX6_differ cX6_differ 9 (some .int), Cond.methodLink RL 87 yX7_differ, Cond.instanceMethod yX7_differ]
def wsL_law_r23 : List Cond := [Cond.selects RX7 yX7_differ yX7_differ, Cond.code yX7_differ cX7_differ 7 (some .int), Cond.methodLink RL 88 yX6_turn, Cond.instanceMethod yX6_turn, Cond.selects RX6 yX6_turn yX6_turn, Cond.code yX6_turn cX6_turn 10 (some .int), Cond.methodLink RX6 195 yX6_likeness, Cond.instanceMethod yX6_likeness, Cond.selects RX6 yX6_likeness yX6_likeness, Cond.code yX6_likeness cX6_likeness 10 (some .int), Cond.methodLink RL 92 yX7_turn, Cond.instanceMethod yX7_turn, Cond.selects RX7 yX7_turn yX7_turn, Cond.code yX7_turn cX7_turn 12 (some .int), Cond.methodLink RX7 176 yX7_turned, Cond.instanceMethod yX7_turned, Cond.selects RX7 yX7_turned yX7_turned, Cond.code yX7_turned cX7_turned 12 (some .long), Cond.methodLink RL 93 yX6_fan, Cond.instanceMethod yX6_fan, Cond.selects RX6 yX6_fan yX6_fan, Cond.code yX6_fan cX6_fan 7 (some .int), Cond.methodLink RX6 198 yX0_begin, Cond.instanceMethod yX0_begin]
def wsL_law_r24 : List Cond := [Cond.selects RX0 yX0_begin yX0_begin, Cond.code yX0_begin cX0_begin 4 none, Cond.fieldLink RX0 17 "SoundBoard$Fan" "lines" "I", Cond.fieldLink RX0 20 "SoundBoard$Fan" "means" "I", Cond.methodLink RX6 200 yX0_xOf, Cond.instanceMethod yX0_xOf, Cond.selects RX0 yX0_xOf yX0_xOf, Cond.code yX0_xOf cX0_xOf 3 (some .int), Cond.methodLink RX0 27 yX0_middle, Cond.instanceMethod yX0_middle, Cond.selects RX0 yX0_middle yX0_middle, Cond.code yX0_middle cX0_middle 1 (some .int), Cond.methodLink RX6 203 yX0_set, Cond.instanceMethod yX0_set, Cond.selects RX0 yX0_set yX0_set, Cond.code yX0_set cX0_set 4 none, Cond.methodLink RX0 23 yX0_has, Cond.instanceMethod yX0_has, Cond.selects RX0 yX0_has yX0_has, Cond.code yX0_has cX0_has 3 (some .boolean), Cond.methodLink RL 96 yX7_fan, Cond.instanceMethod yX7_fan, Cond.selects RX7 yX7_fan yX7_fan, Cond.code yX7_fan cX7_fan 9 (some .int)]
def wsL_law_r25 : List Cond := [Cond.constantLong RX7 180 (250), Cond.fieldLink RX7 182 "SoundBoardModel" "fanLines" "I", Cond.fieldLink RX7 185 "SoundBoardModel" "fanMeans" "I", Cond.fieldLink RX7 188 "SoundBoardModel" "fanStep" "I", Cond.methodLink RL 97 yX6_fanAt, Cond.instanceMethod yX6_fanAt, Cond.selects RX6 yX6_fanAt yX6_fanAt, Cond.code yX6_fanAt cX6_fanAt 3 (some .int), Cond.methodLink RX6 204 yX0_has, Cond.methodLink RX6 206 yX0_get, Cond.instanceMethod yX0_get, Cond.selects RX0 yX0_get yX0_get, Cond.code yX0_get cX0_get 3 (some .int), Cond.methodLink RL 100 yX7_fanAt, Cond.instanceMethod yX7_fanAt, Cond.selects RX7 yX7_fanAt yX7_fanAt, Cond.code yX7_fanAt cX7_fanAt 3 (some .int), Cond.methodLink RL 101 yX6_board, Cond.instanceMethod yX6_board, Cond.selects RX6 yX6_board yX6_board, Cond.code yX6_board cX6_board 6 (some .int), Cond.fieldLink RX6 207 "SoundBoard$Fan" "lines" "I", Cond.methodLink RX6 210 yX0_laidAt, Cond.instanceMethod yX0_laidAt]
def wsL_law_r26 : List Cond := [Cond.selects RX0 yX0_laidAt yX0_laidAt, Cond.code yX0_laidAt cX0_laidAt 11 (some .int), Cond.methodLink RX0 31 yX0_get, Cond.methodLink RL 104 yX7_board, Cond.instanceMethod yX7_board, Cond.selects RX7 yX7_board yX7_board, Cond.code yX7_board cX7_board 16 (some .int), Cond.constantLong RX7 191 (12), Cond.constantLong RX7 196 (256), Cond.methodLink RX7 193 yX7_shared, Cond.instanceMethod yX7_shared, Cond.selects RX7 yX7_shared yX7_shared, Cond.code yX7_shared cX7_shared 4 (some .long), Cond.methodLink RL 105 yX6_caliper, Cond.instanceMethod yX6_caliper, Cond.selects RX6 yX6_caliper yX6_caliper, Cond.code yX6_caliper cX6_caliper 9 (some .int), Cond.methodLink RX6 213 Lib.Math.abs.name, Cond.methodLink RX6 218 yX6_root, Cond.methodLink RL 108 yX7_caliper, Cond.instanceMethod yX7_caliper, Cond.selects RX7 yX7_caliper yX7_caliper, Cond.code yX7_caliper cX7_caliper 9 (some .int), Cond.methodLink RL 109 yX6_cap]
def wsL_law_r27 : List Cond := [Cond.instanceMethod yX6_cap, Cond.selects RX6 yX6_cap yX6_cap, Cond.code yX6_cap cX6_cap 3 (some .int), Cond.constant RX6 222 (1000000), Cond.methodLink RL 112 yX7_cap, Cond.instanceMethod yX7_cap, Cond.selects RX7 yX7_cap yX7_cap, Cond.code yX7_cap cX7_cap 3 (some .int), Cond.constantLong RX7 198 (1000000), Cond.methodLink RL 113 yX6_tick, Cond.instanceMethod yX6_tick, Cond.selects RX6 yX6_tick yX6_tick, Cond.code yX6_tick cX6_tick 3 (some .int), Cond.methodLink RX6 223 yX2_cool, Cond.instanceMethod yX2_cool, Cond.selects RX2 yX2_cool yX2_cool, Cond.code yX2_cool cX2_cool 1 none, Cond.methodLink RL 116 yX7_tick, Cond.instanceMethod yX7_tick, Cond.selects RX7 yX7_tick yX7_tick, Cond.code yX7_tick cX7_tick 3 (some .int), Cond.methodLink RL 117 yX6_count, Cond.instanceMethod yX6_count, Cond.selects RX6 yX6_count yX6_count]
def wsL_law_r28 : List Cond := [Cond.code yX6_count cX6_count 2 (some .int), Cond.fieldLink RX6 226 "SoundBoard$Looks" "ever" "I", Cond.methodLink RL 120 yX7_count, Cond.instanceMethod yX7_count, Cond.selects RX7 yX7_count yX7_count, Cond.code yX7_count cX7_count 2 (some .int), Cond.methodLink RL 121 yX6_digest, Cond.instanceMethod yX6_digest, Cond.selects RX6 yX6_digest yX6_digest, Cond.code yX6_digest cX6_digest 5 (some .long), Cond.constantLong RX6 229 (131), Cond.constantLong RX6 231 (31), Cond.methodLink RX6 233 yX6_count, Cond.methodLink RX6 236 yX6_pointAt, Cond.methodLink RX6 239 yX1_rowSum, Cond.instanceMethod yX1_rowSum, Cond.selects RX1 yX1_rowSum yX1_rowSum, Cond.code yX1_rowSum cX1_rowSum 7 (some .long), Cond.methodLink RX6 243 yX4_digestOn, Cond.instanceMethod yX4_digestOn, Cond.selects RX4 yX4_digestOn yX4_digestOn, Cond.code yX4_digestOn cX4_digestOn 8 (some .long), Cond.constantLong RX4 49 (31), Cond.methodLink RL 125 yX7_digest]
def wsL_law_r29 : List Cond := [Cond.instanceMethod yX7_digest, Cond.selects RX7 yX7_digest yX7_digest, Cond.code yX7_digest cX7_digest 8 (some .long), Cond.constantLong RX7 200 (131), Cond.constantLong RX7 202 (31), Cond.methodLink RX7 204 yX7_count]
def wsL_law : List Cond := (wsL_law_r1 ++ (wsL_law_r2 ++ (wsL_law_r3 ++ (wsL_law_r4 ++ (wsL_law_r5 ++ (wsL_law_r6 ++ (wsL_law_r7 ++ (wsL_law_r8 ++ (wsL_law_r9 ++ (wsL_law_r10 ++ (wsL_law_r11 ++ (wsL_law_r12 ++ (wsL_law_r13 ++ (wsL_law_r14 ++ (wsL_law_r15 ++ (wsL_law_r16 ++ (wsL_law_r17 ++ (wsL_law_r18 ++ (wsL_law_r19 ++ (wsL_law_r20 ++ (wsL_law_r21 ++ (wsL_law_r22 ++ (wsL_law_r23 ++ (wsL_law_r24 ++ (wsL_law_r25 ++ (wsL_law_r26 ++ (wsL_law_r27 ++ (wsL_law_r28 ++ wsL_law_r29)))))))))))))))))))))))))))) ++ wsX60 ++ wsX70 ++ wsX30 ++ wsX50 ++ wsX10 ++ wsX40 ++ wsX00 ++ wsX20 ++ ([] : List Cond)
abbrev vwCl : List vw_C := [(RX0, TX0, 4), (RX1, TX1, 5), (RX2, TX2, 2), (RX3, TX3, 11), (RX4, TX4, 5), (RX5, TX5, 6), (RX6, TX6, 6), (RX7, TX7, 28)]
end
section
theorem dX0_init_0 : decode cX0_init 0 = .ok (.aload_n 0, 1) := by decide +kernel
theorem dX0_init_1 : decode cX0_init 1 = .ok (.invokespecial 1, 3) := by decide +kernel
theorem dX0_init_4 : decode cX0_init 4 = .ok (.aload_n 0, 1) := by decide +kernel
theorem dX0_init_5 : decode cX0_init 5 = .ok (.sipush 144, 3) := by decide +kernel
theorem dX0_init_8 : decode cX0_init 8 = .ok (.newarray .int, 2) := by decide +kernel
theorem dX0_init_10 : decode cX0_init 10 = .ok (.putfield 9, 3) := by decide +kernel
theorem dX0_init_13 : decode cX0_init 13 = .ok (.aload_n 0, 1) := by decide +kernel
theorem dX0_init_14 : decode cX0_init 14 = .ok (.iconst 1, 1) := by decide +kernel
theorem dX0_init_15 : decode cX0_init 15 = .ok (.putfield 13, 3) := by decide +kernel
theorem dX0_init_18 : decode cX0_init 18 = .ok (.return_, 1) := by decide +kernel
theorem dX0_begin_0 : decode cX0_begin 0 = .ok (.aload_n 0, 1) := by decide +kernel
theorem dX0_begin_1 : decode cX0_begin 1 = .ok (.iload_n 1, 1) := by decide +kernel
theorem dX0_begin_2 : decode cX0_begin 2 = .ok (.putfield 17, 3) := by decide +kernel
theorem dX0_begin_5 : decode cX0_begin 5 = .ok (.aload_n 0, 1) := by decide +kernel
theorem dX0_begin_6 : decode cX0_begin 6 = .ok (.iload_n 2, 1) := by decide +kernel
theorem dX0_begin_7 : decode cX0_begin 7 = .ok (.putfield 20, 3) := by decide +kernel
theorem dX0_begin_10 : decode cX0_begin 10 = .ok (.aload_n 0, 1) := by decide +kernel
theorem dX0_begin_11 : decode cX0_begin 11 = .ok (.iload_n 3, 1) := by decide +kernel
theorem dX0_begin_12 : decode cX0_begin 12 = .ok (.putfield 13, 3) := by decide +kernel
theorem dX0_begin_15 : decode cX0_begin 15 = .ok (.return_, 1) := by decide +kernel
theorem dX0_has_0 : decode cX0_has 0 = .ok (.iload_n 1, 1) := by decide +kernel
theorem dX0_has_1 : decode cX0_has 1 = .ok (.ifCond .lt 39, 3) := by decide +kernel
theorem dX0_has_4 : decode cX0_has 4 = .ok (.iload_n 1, 1) := by decide +kernel
theorem dX0_has_5 : decode cX0_has 5 = .ok (.aload_n 0, 1) := by decide +kernel
theorem dX0_has_6 : decode cX0_has 6 = .ok (.getfield 17, 3) := by decide +kernel
theorem dX0_has_9 : decode cX0_has 9 = .ok (.if_icmp .ge 31, 3) := by decide +kernel
theorem dX0_has_12 : decode cX0_has 12 = .ok (.iload_n 1, 1) := by decide +kernel
theorem dX0_has_13 : decode cX0_has 13 = .ok (.bipush 9, 2) := by decide +kernel
theorem dX0_has_15 : decode cX0_has 15 = .ok (.if_icmp .ge 25, 3) := by decide +kernel
theorem dX0_has_18 : decode cX0_has 18 = .ok (.iload_n 2, 1) := by decide +kernel
theorem dX0_has_19 : decode cX0_has 19 = .ok (.ifCond .lt 21, 3) := by decide +kernel
theorem dX0_has_22 : decode cX0_has 22 = .ok (.iload_n 2, 1) := by decide +kernel
theorem dX0_has_23 : decode cX0_has 23 = .ok (.aload_n 0, 1) := by decide +kernel
theorem dX0_has_24 : decode cX0_has 24 = .ok (.getfield 20, 3) := by decide +kernel
theorem dX0_has_27 : decode cX0_has 27 = .ok (.if_icmp .ge 13, 3) := by decide +kernel
theorem dX0_has_30 : decode cX0_has 30 = .ok (.iload_n 2, 1) := by decide +kernel
theorem dX0_has_31 : decode cX0_has 31 = .ok (.bipush 16, 2) := by decide +kernel
theorem dX0_has_33 : decode cX0_has 33 = .ok (.if_icmp .ge 7, 3) := by decide +kernel
theorem dX0_has_36 : decode cX0_has 36 = .ok (.iconst 1, 1) := by decide +kernel
theorem dX0_has_37 : decode cX0_has 37 = .ok (.goto 4, 3) := by decide +kernel
theorem dX0_has_40 : decode cX0_has 40 = .ok (.iconst 0, 1) := by decide +kernel
theorem dX0_has_41 : decode cX0_has 41 = .ok (.ireturn, 1) := by decide +kernel
set_option maxRecDepth 20000 in
theorem ggX0_get_X0_has : GoodIn wsX0_get wsX0_has := goodIn_r _ [6, 7, 8, 9, 10, 11, 12] (by decide +kernel) (by decide +kernel)
set_option maxRecDepth 20000 in
theorem gX0_get_X0_has : GoodIn wsX0_get (wsV RX0 23 RX0 yX0_has wsX0_has) := goodIn_app (goodIn_of _ (by decide +kernel)) ggX0_get_X0_has
theorem dX0_get_0 : decode cX0_get 0 = .ok (.aload_n 0, 1) := by decide +kernel
theorem dX0_get_1 : decode cX0_get 1 = .ok (.iload_n 1, 1) := by decide +kernel
theorem dX0_get_2 : decode cX0_get 2 = .ok (.iload_n 2, 1) := by decide +kernel
theorem dX0_get_3 : decode cX0_get 3 = .ok (.invokevirtual 23, 3) := by decide +kernel
theorem dX0_get_6 : decode cX0_get 6 = .ok (.ifCond .eq 17, 3) := by decide +kernel
theorem dX0_get_9 : decode cX0_get 9 = .ok (.aload_n 0, 1) := by decide +kernel
theorem dX0_get_10 : decode cX0_get 10 = .ok (.getfield 9, 3) := by decide +kernel
theorem dX0_get_13 : decode cX0_get 13 = .ok (.iload_n 1, 1) := by decide +kernel
theorem dX0_get_14 : decode cX0_get 14 = .ok (.bipush 16, 2) := by decide +kernel
theorem dX0_get_16 : decode cX0_get 16 = .ok (.imul, 1) := by decide +kernel
theorem dX0_get_17 : decode cX0_get 17 = .ok (.iload_n 2, 1) := by decide +kernel
theorem dX0_get_18 : decode cX0_get 18 = .ok (.iadd, 1) := by decide +kernel
theorem dX0_get_19 : decode cX0_get 19 = .ok (.iaload, 1) := by decide +kernel
theorem dX0_get_20 : decode cX0_get 20 = .ok (.goto 4, 3) := by decide +kernel
theorem dX0_get_23 : decode cX0_get 23 = .ok (.iconst 0, 1) := by decide +kernel
theorem dX0_get_24 : decode cX0_get 24 = .ok (.ireturn, 1) := by decide +kernel
set_option maxRecDepth 20000 in
theorem ggX0_set_X0_has : GoodIn wsX0_set wsX0_has := goodIn_r _ [6, 7, 8, 9, 10, 11, 12] (by decide +kernel) (by decide +kernel)
set_option maxRecDepth 20000 in
theorem gX0_set_X0_has : GoodIn wsX0_set (wsV RX0 23 RX0 yX0_has wsX0_has) := goodIn_app (goodIn_of _ (by decide +kernel)) ggX0_set_X0_has
theorem dX0_set_0 : decode cX0_set 0 = .ok (.aload_n 0, 1) := by decide +kernel
theorem dX0_set_1 : decode cX0_set 1 = .ok (.iload_n 1, 1) := by decide +kernel
theorem dX0_set_2 : decode cX0_set 2 = .ok (.iload_n 2, 1) := by decide +kernel
theorem dX0_set_3 : decode cX0_set 3 = .ok (.invokevirtual 23, 3) := by decide +kernel
theorem dX0_set_6 : decode cX0_set 6 = .ok (.ifCond .eq 15, 3) := by decide +kernel
theorem dX0_set_9 : decode cX0_set 9 = .ok (.aload_n 0, 1) := by decide +kernel
theorem dX0_set_10 : decode cX0_set 10 = .ok (.getfield 9, 3) := by decide +kernel
theorem dX0_set_13 : decode cX0_set 13 = .ok (.iload_n 1, 1) := by decide +kernel
theorem dX0_set_14 : decode cX0_set 14 = .ok (.bipush 16, 2) := by decide +kernel
theorem dX0_set_16 : decode cX0_set 16 = .ok (.imul, 1) := by decide +kernel
theorem dX0_set_17 : decode cX0_set 17 = .ok (.iload_n 2, 1) := by decide +kernel
theorem dX0_set_18 : decode cX0_set 18 = .ok (.iadd, 1) := by decide +kernel
theorem dX0_set_19 : decode cX0_set 19 = .ok (.iload_n 3, 1) := by decide +kernel
theorem dX0_set_20 : decode cX0_set 20 = .ok (.iastore, 1) := by decide +kernel
theorem dX0_set_21 : decode cX0_set 21 = .ok (.return_, 1) := by decide +kernel
theorem dX0_middle_0 : decode cX0_middle 0 = .ok (.aload_n 0, 1) := by decide +kernel
theorem dX0_middle_1 : decode cX0_middle 1 = .ok (.getfield 17, 3) := by decide +kernel
theorem dX0_middle_4 : decode cX0_middle 4 = .ok (.iconst 1, 1) := by decide +kernel
theorem dX0_middle_5 : decode cX0_middle 5 = .ok (.isub, 1) := by decide +kernel
theorem dX0_middle_6 : decode cX0_middle 6 = .ok (.iconst 2, 1) := by decide +kernel
theorem dX0_middle_7 : decode cX0_middle 7 = .ok (.idiv, 1) := by decide +kernel
theorem dX0_middle_8 : decode cX0_middle 8 = .ok (.ireturn, 1) := by decide +kernel
set_option maxRecDepth 20000 in
theorem ggX0_xOf_X0_middle : GoodIn wsX0_xOf wsX0_middle := goodIn_r _ [6, 7, 8, 9, 10, 11] (by decide +kernel) (by decide +kernel)
set_option maxRecDepth 20000 in
theorem gX0_xOf_X0_middle : GoodIn wsX0_xOf (wsV RX0 27 RX0 yX0_middle wsX0_middle) := goodIn_app (goodIn_of _ (by decide +kernel)) ggX0_xOf_X0_middle
theorem dX0_xOf_0 : decode cX0_xOf 0 = .ok (.iload_n 2, 1) := by decide +kernel
theorem dX0_xOf_1 : decode cX0_xOf 1 = .ok (.aload_n 0, 1) := by decide +kernel
theorem dX0_xOf_2 : decode cX0_xOf 2 = .ok (.getfield 13, 3) := by decide +kernel
theorem dX0_xOf_5 : decode cX0_xOf 5 = .ok (.imul, 1) := by decide +kernel
theorem dX0_xOf_6 : decode cX0_xOf 6 = .ok (.iload_n 1, 1) := by decide +kernel
theorem dX0_xOf_7 : decode cX0_xOf 7 = .ok (.aload_n 0, 1) := by decide +kernel
theorem dX0_xOf_8 : decode cX0_xOf 8 = .ok (.invokevirtual 27, 3) := by decide +kernel
theorem dX0_xOf_11 : decode cX0_xOf 11 = .ok (.isub, 1) := by decide +kernel
theorem dX0_xOf_12 : decode cX0_xOf 12 = .ok (.imul, 1) := by decide +kernel
theorem dX0_xOf_13 : decode cX0_xOf 13 = .ok (.bipush 8, 2) := by decide +kernel
theorem dX0_xOf_15 : decode cX0_xOf 15 = .ok (.idiv, 1) := by decide +kernel
theorem dX0_xOf_16 : decode cX0_xOf 16 = .ok (.ireturn, 1) := by decide +kernel
set_option maxRecDepth 20000 in
theorem ggX0_laidAt_X0_middle : GoodIn wsX0_laidAt wsX0_middle := goodIn_r _ [8, 2, 18, 19, 20, 21] (by decide +kernel) (by decide +kernel)
set_option maxRecDepth 20000 in
theorem gX0_laidAt_X0_middle : GoodIn wsX0_laidAt (wsV RX0 27 RX0 yX0_middle wsX0_middle) := goodIn_app (goodIn_of _ (by decide +kernel)) ggX0_laidAt_X0_middle
set_option maxRecDepth 20000 in
theorem ggX0_laidAt_X0_get : GoodIn wsX0_laidAt wsX0_get := goodIn_r _ [12, 13, 14, 15, 16, 7, 17, 2, 3, 18, 19, 20, 21] (by decide +kernel) (by decide +kernel)
set_option maxRecDepth 20000 in
theorem gX0_laidAt_X0_get : GoodIn wsX0_laidAt (wsV RX0 31 RX0 yX0_get wsX0_get) := goodIn_app (goodIn_of _ (by decide +kernel)) ggX0_laidAt_X0_get
theorem dX0_laidAt_0 : decode cX0_laidAt 0 = .ok (.aload_n 0, 1) := by decide +kernel
theorem dX0_laidAt_1 : decode cX0_laidAt 1 = .ok (.getfield 13, 3) := by decide +kernel
theorem dX0_laidAt_4 : decode cX0_laidAt 4 = .ok (.iconst 1, 1) := by decide +kernel
theorem dX0_laidAt_5 : decode cX0_laidAt 5 = .ok (.if_icmp .ge 5, 3) := by decide +kernel
theorem dX0_laidAt_8 : decode cX0_laidAt 8 = .ok (.iconst 0, 1) := by decide +kernel
theorem dX0_laidAt_9 : decode cX0_laidAt 9 = .ok (.ireturn, 1) := by decide +kernel
theorem dX0_laidAt_10 : decode cX0_laidAt 10 = .ok (.bipush 16, 2) := by decide +kernel
theorem dX0_laidAt_12 : decode cX0_laidAt 12 = .ok (.iload_n 2, 1) := by decide +kernel
theorem dX0_laidAt_13 : decode cX0_laidAt 13 = .ok (.imul, 1) := by decide +kernel
theorem dX0_laidAt_14 : decode cX0_laidAt 14 = .ok (.aload_n 0, 1) := by decide +kernel
theorem dX0_laidAt_15 : decode cX0_laidAt 15 = .ok (.getfield 13, 3) := by decide +kernel
theorem dX0_laidAt_18 : decode cX0_laidAt 18 = .ok (.idiv, 1) := by decide +kernel
theorem dX0_laidAt_19 : decode cX0_laidAt 19 = .ok (.istore_n 3, 1) := by decide +kernel
theorem dX0_laidAt_20 : decode cX0_laidAt 20 = .ok (.bipush 16, 2) := by decide +kernel
theorem dX0_laidAt_22 : decode cX0_laidAt 22 = .ok (.aload_n 0, 1) := by decide +kernel
theorem dX0_laidAt_23 : decode cX0_laidAt 23 = .ok (.invokevirtual 27, 3) := by decide +kernel
theorem dX0_laidAt_26 : decode cX0_laidAt 26 = .ok (.imul, 1) := by decide +kernel
theorem dX0_laidAt_27 : decode cX0_laidAt 27 = .ok (.iload_n 2, 1) := by decide +kernel
theorem dX0_laidAt_28 : decode cX0_laidAt 28 = .ok (.ifCond .ne 7, 3) := by decide +kernel
theorem dX0_laidAt_31 : decode cX0_laidAt 31 = .ok (.iconst 0, 1) := by decide +kernel
theorem dX0_laidAt_32 : decode cX0_laidAt 32 = .ok (.goto 10, 3) := by decide +kernel
theorem dX0_laidAt_35 : decode cX0_laidAt 35 = .ok (.sipush 128, 3) := by decide +kernel
theorem dX0_laidAt_38 : decode cX0_laidAt 38 = .ok (.iload_n 1, 1) := by decide +kernel
theorem dX0_laidAt_39 : decode cX0_laidAt 39 = .ok (.imul, 1) := by decide +kernel
theorem dX0_laidAt_40 : decode cX0_laidAt 40 = .ok (.iload_n 2, 1) := by decide +kernel
theorem dX0_laidAt_41 : decode cX0_laidAt 41 = .ok (.idiv, 1) := by decide +kernel
theorem dX0_laidAt_42 : decode cX0_laidAt 42 = .ok (.iadd, 1) := by decide +kernel
theorem dX0_laidAt_43 : decode cX0_laidAt 43 = .ok (.istore 4, 2) := by decide +kernel
theorem dX0_laidAt_45 : decode cX0_laidAt 45 = .ok (.iload 4, 2) := by decide +kernel
theorem dX0_laidAt_47 : decode cX0_laidAt 47 = .ok (.ifCond .lt 34, 3) := by decide +kernel
theorem dX0_laidAt_50 : decode cX0_laidAt 50 = .ok (.iload 4, 2) := by decide +kernel
theorem dX0_laidAt_52 : decode cX0_laidAt 52 = .ok (.bipush 16, 2) := by decide +kernel
theorem dX0_laidAt_54 : decode cX0_laidAt 54 = .ok (.aload_n 0, 1) := by decide +kernel
theorem dX0_laidAt_55 : decode cX0_laidAt 55 = .ok (.getfield 17, 3) := by decide +kernel
theorem dX0_laidAt_58 : decode cX0_laidAt 58 = .ok (.iconst 1, 1) := by decide +kernel
theorem dX0_laidAt_59 : decode cX0_laidAt 59 = .ok (.isub, 1) := by decide +kernel
theorem dX0_laidAt_60 : decode cX0_laidAt 60 = .ok (.imul, 1) := by decide +kernel
theorem dX0_laidAt_61 : decode cX0_laidAt 61 = .ok (.if_icmp .gt 20, 3) := by decide +kernel
theorem dX0_laidAt_64 : decode cX0_laidAt 64 = .ok (.iload_n 3, 1) := by decide +kernel
theorem dX0_laidAt_65 : decode cX0_laidAt 65 = .ok (.ifCond .lt 16, 3) := by decide +kernel
theorem dX0_laidAt_68 : decode cX0_laidAt 68 = .ok (.iload_n 3, 1) := by decide +kernel
theorem dX0_laidAt_69 : decode cX0_laidAt 69 = .ok (.bipush 16, 2) := by decide +kernel
theorem dX0_laidAt_71 : decode cX0_laidAt 71 = .ok (.aload_n 0, 1) := by decide +kernel
theorem dX0_laidAt_72 : decode cX0_laidAt 72 = .ok (.getfield 20, 3) := by decide +kernel
theorem dX0_laidAt_75 : decode cX0_laidAt 75 = .ok (.iconst 1, 1) := by decide +kernel
theorem dX0_laidAt_76 : decode cX0_laidAt 76 = .ok (.isub, 1) := by decide +kernel
theorem dX0_laidAt_77 : decode cX0_laidAt 77 = .ok (.imul, 1) := by decide +kernel
theorem dX0_laidAt_78 : decode cX0_laidAt 78 = .ok (.if_icmp .le 5, 3) := by decide +kernel
theorem dX0_laidAt_81 : decode cX0_laidAt 81 = .ok (.iconst 0, 1) := by decide +kernel
theorem dX0_laidAt_82 : decode cX0_laidAt 82 = .ok (.ireturn, 1) := by decide +kernel
theorem dX0_laidAt_83 : decode cX0_laidAt 83 = .ok (.iload_n 3, 1) := by decide +kernel
theorem dX0_laidAt_84 : decode cX0_laidAt 84 = .ok (.bipush 16, 2) := by decide +kernel
theorem dX0_laidAt_86 : decode cX0_laidAt 86 = .ok (.idiv, 1) := by decide +kernel
theorem dX0_laidAt_87 : decode cX0_laidAt 87 = .ok (.istore 5, 2) := by decide +kernel
theorem dX0_laidAt_89 : decode cX0_laidAt 89 = .ok (.iload_n 3, 1) := by decide +kernel
theorem dX0_laidAt_90 : decode cX0_laidAt 90 = .ok (.bipush 16, 2) := by decide +kernel
theorem dX0_laidAt_92 : decode cX0_laidAt 92 = .ok (.irem, 1) := by decide +kernel
theorem dX0_laidAt_93 : decode cX0_laidAt 93 = .ok (.istore 6, 2) := by decide +kernel
theorem dX0_laidAt_95 : decode cX0_laidAt 95 = .ok (.iload 4, 2) := by decide +kernel
theorem dX0_laidAt_97 : decode cX0_laidAt 97 = .ok (.bipush 16, 2) := by decide +kernel
theorem dX0_laidAt_99 : decode cX0_laidAt 99 = .ok (.idiv, 1) := by decide +kernel
theorem dX0_laidAt_100 : decode cX0_laidAt 100 = .ok (.istore 7, 2) := by decide +kernel
theorem dX0_laidAt_102 : decode cX0_laidAt 102 = .ok (.iload 4, 2) := by decide +kernel
theorem dX0_laidAt_104 : decode cX0_laidAt 104 = .ok (.bipush 16, 2) := by decide +kernel
theorem dX0_laidAt_106 : decode cX0_laidAt 106 = .ok (.irem, 1) := by decide +kernel
theorem dX0_laidAt_107 : decode cX0_laidAt 107 = .ok (.istore 8, 2) := by decide +kernel
theorem dX0_laidAt_109 : decode cX0_laidAt 109 = .ok (.bipush 16, 2) := by decide +kernel
theorem dX0_laidAt_111 : decode cX0_laidAt 111 = .ok (.iload 8, 2) := by decide +kernel
theorem dX0_laidAt_113 : decode cX0_laidAt 113 = .ok (.isub, 1) := by decide +kernel
theorem dX0_laidAt_114 : decode cX0_laidAt 114 = .ok (.bipush 16, 2) := by decide +kernel
theorem dX0_laidAt_116 : decode cX0_laidAt 116 = .ok (.iload 6, 2) := by decide +kernel
theorem dX0_laidAt_118 : decode cX0_laidAt 118 = .ok (.isub, 1) := by decide +kernel
theorem dX0_laidAt_119 : decode cX0_laidAt 119 = .ok (.imul, 1) := by decide +kernel
theorem dX0_laidAt_120 : decode cX0_laidAt 120 = .ok (.aload_n 0, 1) := by decide +kernel
theorem dX0_laidAt_121 : decode cX0_laidAt 121 = .ok (.iload 7, 2) := by decide +kernel
theorem dX0_laidAt_123 : decode cX0_laidAt 123 = .ok (.iload 5, 2) := by decide +kernel
theorem dX0_laidAt_125 : decode cX0_laidAt 125 = .ok (.invokevirtual 31, 3) := by decide +kernel
theorem dX0_laidAt_128 : decode cX0_laidAt 128 = .ok (.imul, 1) := by decide +kernel
theorem dX0_laidAt_129 : decode cX0_laidAt 129 = .ok (.iload 8, 2) := by decide +kernel
theorem dX0_laidAt_131 : decode cX0_laidAt 131 = .ok (.bipush 16, 2) := by decide +kernel
theorem dX0_laidAt_133 : decode cX0_laidAt 133 = .ok (.iload 6, 2) := by decide +kernel
theorem dX0_laidAt_135 : decode cX0_laidAt 135 = .ok (.isub, 1) := by decide +kernel
theorem dX0_laidAt_136 : decode cX0_laidAt 136 = .ok (.imul, 1) := by decide +kernel
theorem dX0_laidAt_137 : decode cX0_laidAt 137 = .ok (.aload_n 0, 1) := by decide +kernel
theorem dX0_laidAt_138 : decode cX0_laidAt 138 = .ok (.iload 7, 2) := by decide +kernel
theorem dX0_laidAt_140 : decode cX0_laidAt 140 = .ok (.iconst 1, 1) := by decide +kernel
theorem dX0_laidAt_141 : decode cX0_laidAt 141 = .ok (.iadd, 1) := by decide +kernel
theorem dX0_laidAt_142 : decode cX0_laidAt 142 = .ok (.iload 5, 2) := by decide +kernel
theorem dX0_laidAt_144 : decode cX0_laidAt 144 = .ok (.invokevirtual 31, 3) := by decide +kernel
theorem dX0_laidAt_147 : decode cX0_laidAt 147 = .ok (.imul, 1) := by decide +kernel
theorem dX0_laidAt_148 : decode cX0_laidAt 148 = .ok (.iadd, 1) := by decide +kernel
theorem dX0_laidAt_149 : decode cX0_laidAt 149 = .ok (.istore 9, 2) := by decide +kernel
theorem dX0_laidAt_151 : decode cX0_laidAt 151 = .ok (.bipush 16, 2) := by decide +kernel
theorem dX0_laidAt_153 : decode cX0_laidAt 153 = .ok (.iload 8, 2) := by decide +kernel
theorem dX0_laidAt_155 : decode cX0_laidAt 155 = .ok (.isub, 1) := by decide +kernel
theorem dX0_laidAt_156 : decode cX0_laidAt 156 = .ok (.iload 6, 2) := by decide +kernel
theorem dX0_laidAt_158 : decode cX0_laidAt 158 = .ok (.imul, 1) := by decide +kernel
theorem dX0_laidAt_159 : decode cX0_laidAt 159 = .ok (.aload_n 0, 1) := by decide +kernel
theorem dX0_laidAt_160 : decode cX0_laidAt 160 = .ok (.iload 7, 2) := by decide +kernel
theorem dX0_laidAt_162 : decode cX0_laidAt 162 = .ok (.iload 5, 2) := by decide +kernel
theorem dX0_laidAt_164 : decode cX0_laidAt 164 = .ok (.iconst 1, 1) := by decide +kernel
theorem dX0_laidAt_165 : decode cX0_laidAt 165 = .ok (.iadd, 1) := by decide +kernel
theorem dX0_laidAt_166 : decode cX0_laidAt 166 = .ok (.invokevirtual 31, 3) := by decide +kernel
theorem dX0_laidAt_169 : decode cX0_laidAt 169 = .ok (.imul, 1) := by decide +kernel
theorem dX0_laidAt_170 : decode cX0_laidAt 170 = .ok (.iload 8, 2) := by decide +kernel
theorem dX0_laidAt_172 : decode cX0_laidAt 172 = .ok (.iload 6, 2) := by decide +kernel
theorem dX0_laidAt_174 : decode cX0_laidAt 174 = .ok (.imul, 1) := by decide +kernel
theorem dX0_laidAt_175 : decode cX0_laidAt 175 = .ok (.aload_n 0, 1) := by decide +kernel
theorem dX0_laidAt_176 : decode cX0_laidAt 176 = .ok (.iload 7, 2) := by decide +kernel
theorem dX0_laidAt_178 : decode cX0_laidAt 178 = .ok (.iconst 1, 1) := by decide +kernel
theorem dX0_laidAt_179 : decode cX0_laidAt 179 = .ok (.iadd, 1) := by decide +kernel
theorem dX0_laidAt_180 : decode cX0_laidAt 180 = .ok (.iload 5, 2) := by decide +kernel
theorem dX0_laidAt_182 : decode cX0_laidAt 182 = .ok (.iconst 1, 1) := by decide +kernel
theorem dX0_laidAt_183 : decode cX0_laidAt 183 = .ok (.iadd, 1) := by decide +kernel
theorem dX0_laidAt_184 : decode cX0_laidAt 184 = .ok (.invokevirtual 31, 3) := by decide +kernel
theorem dX0_laidAt_187 : decode cX0_laidAt 187 = .ok (.imul, 1) := by decide +kernel
theorem dX0_laidAt_188 : decode cX0_laidAt 188 = .ok (.iadd, 1) := by decide +kernel
theorem dX0_laidAt_189 : decode cX0_laidAt 189 = .ok (.istore 10, 2) := by decide +kernel
theorem dX0_laidAt_191 : decode cX0_laidAt 191 = .ok (.iload 9, 2) := by decide +kernel
theorem dX0_laidAt_193 : decode cX0_laidAt 193 = .ok (.iload 10, 2) := by decide +kernel
theorem dX0_laidAt_195 : decode cX0_laidAt 195 = .ok (.iadd, 1) := by decide +kernel
theorem dX0_laidAt_196 : decode cX0_laidAt 196 = .ok (.sipush 256, 3) := by decide +kernel
theorem dX0_laidAt_199 : decode cX0_laidAt 199 = .ok (.idiv, 1) := by decide +kernel
theorem dX0_laidAt_200 : decode cX0_laidAt 200 = .ok (.ireturn, 1) := by decide +kernel
theorem dX1_init_0 : decode cX1_init 0 = .ok (.aload_n 0, 1) := by decide +kernel
theorem dX1_init_1 : decode cX1_init 1 = .ok (.invokespecial 5, 3) := by decide +kernel
theorem dX1_init_4 : decode cX1_init 4 = .ok (.aload_n 0, 1) := by decide +kernel
theorem dX1_init_5 : decode cX1_init 5 = .ok (.ldc 11, 2) := by decide +kernel
theorem dX1_init_7 : decode cX1_init 7 = .ok (.newarray .int, 2) := by decide +kernel
theorem dX1_init_9 : decode cX1_init 9 = .ok (.putfield 12, 3) := by decide +kernel
theorem dX1_init_12 : decode cX1_init 12 = .ok (.aload_n 0, 1) := by decide +kernel
theorem dX1_init_13 : decode cX1_init 13 = .ok (.bipush 6, 2) := by decide +kernel
theorem dX1_init_15 : decode cX1_init 15 = .ok (.newarray .int, 2) := by decide +kernel
theorem dX1_init_17 : decode cX1_init 17 = .ok (.putfield 16, 3) := by decide +kernel
theorem dX1_init_20 : decode cX1_init 20 = .ok (.return_, 1) := by decide +kernel
theorem dX1_forget_0 : decode cX1_forget 0 = .ok (.aload_n 0, 1) := by decide +kernel
theorem dX1_forget_1 : decode cX1_forget 1 = .ok (.iconst 0, 1) := by decide +kernel
theorem dX1_forget_2 : decode cX1_forget 2 = .ok (.putfield 19, 3) := by decide +kernel
theorem dX1_forget_5 : decode cX1_forget 5 = .ok (.aload_n 0, 1) := by decide +kernel
theorem dX1_forget_6 : decode cX1_forget 6 = .ok (.iconst 0, 1) := by decide +kernel
theorem dX1_forget_7 : decode cX1_forget 7 = .ok (.putfield 23, 3) := by decide +kernel
theorem dX1_forget_10 : decode cX1_forget 10 = .ok (.return_, 1) := by decide +kernel
theorem dX1_has_0 : decode cX1_has 0 = .ok (.iload_n 1, 1) := by decide +kernel
theorem dX1_has_1 : decode cX1_has 1 = .ok (.ifCond .lt 15, 3) := by decide +kernel
theorem dX1_has_4 : decode cX1_has 4 = .ok (.iload_n 1, 1) := by decide +kernel
theorem dX1_has_5 : decode cX1_has 5 = .ok (.aload_n 0, 1) := by decide +kernel
theorem dX1_has_6 : decode cX1_has 6 = .ok (.getfield 23, 3) := by decide +kernel
theorem dX1_has_9 : decode cX1_has 9 = .ok (.if_icmp .ge 7, 3) := by decide +kernel
theorem dX1_has_12 : decode cX1_has 12 = .ok (.iconst 1, 1) := by decide +kernel
theorem dX1_has_13 : decode cX1_has 13 = .ok (.goto 4, 3) := by decide +kernel
theorem dX1_has_16 : decode cX1_has 16 = .ok (.iconst 0, 1) := by decide +kernel
theorem dX1_has_17 : decode cX1_has 17 = .ok (.ireturn, 1) := by decide +kernel
set_option maxRecDepth 20000 in
theorem ggX1_begin_X1_slotOf : GoodIn wsX1_begin wsX1_slotOf := goodIn_r _ [10, 2, 11, 12, 13, 14, 15, 16, 17, 18, 19] (by decide +kernel) (by decide +kernel)
set_option maxRecDepth 20000 in
theorem gX1_begin_X1_slotOf : GoodIn wsX1_begin (wsV RX1 29 RX1 yX1_slotOf wsX1_slotOf) := goodIn_app (goodIn_of _ (by decide +kernel)) ggX1_begin_X1_slotOf
theorem dX1_begin_0 : decode cX1_begin 0 = .ok (.aload_n 0, 1) := by decide +kernel
theorem dX1_begin_1 : decode cX1_begin 1 = .ok (.getfield 23, 3) := by decide +kernel
theorem dX1_begin_4 : decode cX1_begin 4 = .ok (.bipush 6, 2) := by decide +kernel
theorem dX1_begin_6 : decode cX1_begin 6 = .ok (.if_icmp .lt 19, 3) := by decide +kernel
theorem dX1_begin_9 : decode cX1_begin 9 = .ok (.aload_n 0, 1) := by decide +kernel
theorem dX1_begin_10 : decode cX1_begin 10 = .ok (.aload_n 0, 1) := by decide +kernel
theorem dX1_begin_11 : decode cX1_begin 11 = .ok (.getfield 19, 3) := by decide +kernel
theorem dX1_begin_14 : decode cX1_begin 14 = .ok (.iconst 1, 1) := by decide +kernel
theorem dX1_begin_15 : decode cX1_begin 15 = .ok (.iadd, 1) := by decide +kernel
theorem dX1_begin_16 : decode cX1_begin 16 = .ok (.bipush 6, 2) := by decide +kernel
theorem dX1_begin_18 : decode cX1_begin 18 = .ok (.irem, 1) := by decide +kernel
theorem dX1_begin_19 : decode cX1_begin 19 = .ok (.putfield 19, 3) := by decide +kernel
theorem dX1_begin_22 : decode cX1_begin 22 = .ok (.goto 13, 3) := by decide +kernel
theorem dX1_begin_25 : decode cX1_begin 25 = .ok (.aload_n 0, 1) := by decide +kernel
theorem dX1_begin_26 : decode cX1_begin 26 = .ok (.dup, 1) := by decide +kernel
theorem dX1_begin_27 : decode cX1_begin 27 = .ok (.getfield 23, 3) := by decide +kernel
theorem dX1_begin_30 : decode cX1_begin 30 = .ok (.iconst 1, 1) := by decide +kernel
theorem dX1_begin_31 : decode cX1_begin 31 = .ok (.iadd, 1) := by decide +kernel
theorem dX1_begin_32 : decode cX1_begin 32 = .ok (.putfield 23, 3) := by decide +kernel
theorem dX1_begin_35 : decode cX1_begin 35 = .ok (.aload_n 0, 1) := by decide +kernel
theorem dX1_begin_36 : decode cX1_begin 36 = .ok (.dup, 1) := by decide +kernel
theorem dX1_begin_37 : decode cX1_begin 37 = .ok (.getfield 26, 3) := by decide +kernel
theorem dX1_begin_40 : decode cX1_begin 40 = .ok (.iconst 1, 1) := by decide +kernel
theorem dX1_begin_41 : decode cX1_begin 41 = .ok (.iadd, 1) := by decide +kernel
theorem dX1_begin_42 : decode cX1_begin 42 = .ok (.putfield 26, 3) := by decide +kernel
theorem dX1_begin_45 : decode cX1_begin 45 = .ok (.aload_n 0, 1) := by decide +kernel
theorem dX1_begin_46 : decode cX1_begin 46 = .ok (.aload_n 0, 1) := by decide +kernel
theorem dX1_begin_47 : decode cX1_begin 47 = .ok (.getfield 23, 3) := by decide +kernel
theorem dX1_begin_50 : decode cX1_begin 50 = .ok (.iconst 1, 1) := by decide +kernel
theorem dX1_begin_51 : decode cX1_begin 51 = .ok (.isub, 1) := by decide +kernel
theorem dX1_begin_52 : decode cX1_begin 52 = .ok (.invokevirtual 29, 3) := by decide +kernel
theorem dX1_begin_55 : decode cX1_begin 55 = .ok (.istore_n 2, 1) := by decide +kernel
theorem dX1_begin_56 : decode cX1_begin 56 = .ok (.aload_n 0, 1) := by decide +kernel
theorem dX1_begin_57 : decode cX1_begin 57 = .ok (.getfield 16, 3) := by decide +kernel
theorem dX1_begin_60 : decode cX1_begin 60 = .ok (.iload_n 2, 1) := by decide +kernel
theorem dX1_begin_61 : decode cX1_begin 61 = .ok (.iload_n 1, 1) := by decide +kernel
theorem dX1_begin_62 : decode cX1_begin 62 = .ok (.iastore, 1) := by decide +kernel
theorem dX1_begin_63 : decode cX1_begin 63 = .ok (.iload_n 2, 1) := by decide +kernel
theorem dX1_begin_64 : decode cX1_begin 64 = .ok (.sipush 6400, 3) := by decide +kernel
theorem dX1_begin_67 : decode cX1_begin 67 = .ok (.imul, 1) := by decide +kernel
theorem dX1_begin_68 : decode cX1_begin 68 = .ok (.istore_n 3, 1) := by decide +kernel
theorem dX1_begin_69 : decode cX1_begin 69 = .ok (.iload_n 3, 1) := by decide +kernel
theorem dX1_begin_70 : decode cX1_begin 70 = .ok (.iload_n 2, 1) := by decide +kernel
theorem dX1_begin_71 : decode cX1_begin 71 = .ok (.sipush 6400, 3) := by decide +kernel
theorem dX1_begin_74 : decode cX1_begin 74 = .ok (.imul, 1) := by decide +kernel
theorem dX1_begin_75 : decode cX1_begin 75 = .ok (.sipush 6400, 3) := by decide +kernel
theorem dX1_begin_78 : decode cX1_begin 78 = .ok (.iadd, 1) := by decide +kernel
theorem dX1_begin_79 : decode cX1_begin 79 = .ok (.if_icmp .ge 16, 3) := by decide +kernel
theorem dX1_begin_82 : decode cX1_begin 82 = .ok (.aload_n 0, 1) := by decide +kernel
theorem dX1_begin_83 : decode cX1_begin 83 = .ok (.getfield 12, 3) := by decide +kernel
theorem dX1_begin_86 : decode cX1_begin 86 = .ok (.iload_n 3, 1) := by decide +kernel
theorem dX1_begin_87 : decode cX1_begin 87 = .ok (.iconst 0, 1) := by decide +kernel
theorem dX1_begin_88 : decode cX1_begin 88 = .ok (.iastore, 1) := by decide +kernel
theorem dX1_begin_89 : decode cX1_begin 89 = .ok (.iinc 3 1, 3) := by decide +kernel
theorem dX1_begin_92 : decode cX1_begin 92 = .ok (.goto (-23), 3) := by decide +kernel
theorem dX1_begin_95 : decode cX1_begin 95 = .ok (.aload_n 0, 1) := by decide +kernel
theorem dX1_begin_96 : decode cX1_begin 96 = .ok (.getfield 23, 3) := by decide +kernel
theorem dX1_begin_99 : decode cX1_begin 99 = .ok (.iconst 1, 1) := by decide +kernel
theorem dX1_begin_100 : decode cX1_begin 100 = .ok (.isub, 1) := by decide +kernel
theorem dX1_begin_101 : decode cX1_begin 101 = .ok (.ireturn, 1) := by decide +kernel
set_option maxRecDepth 20000 in
theorem ggX1_slotOf_J9_floorMod_7cf53 : GoodIn wsX1_slotOf wsJ9_floorMod_7cf53 := goodIn_r _ [5] (by decide +kernel) (by decide +kernel)
set_option maxRecDepth 20000 in
theorem gX1_slotOf_J9_floorMod_7cf53 : GoodIn wsX1_slotOf (va_wsS RX1 33 yJ9_floorMod_7cf53 wsJ9_floorMod_7cf53) := goodIn_app (goodIn_of _ (by decide +kernel)) ggX1_slotOf_J9_floorMod_7cf53
theorem dX1_slotOf_0 : decode cX1_slotOf 0 = .ok (.aload_n 0, 1) := by decide +kernel
theorem dX1_slotOf_1 : decode cX1_slotOf 1 = .ok (.getfield 19, 3) := by decide +kernel
theorem dX1_slotOf_4 : decode cX1_slotOf 4 = .ok (.iload_n 1, 1) := by decide +kernel
theorem dX1_slotOf_5 : decode cX1_slotOf 5 = .ok (.iadd, 1) := by decide +kernel
theorem dX1_slotOf_6 : decode cX1_slotOf 6 = .ok (.bipush 6, 2) := by decide +kernel
theorem dX1_slotOf_8 : decode cX1_slotOf 8 = .ok (.invokestatic 33, 3) := by decide +kernel
theorem dX1_slotOf_11 : decode cX1_slotOf 11 = .ok (.ireturn, 1) := by decide +kernel
set_option maxRecDepth 20000 in
theorem ggX1_senderOf_X1_slotOf : GoodIn wsX1_senderOf wsX1_slotOf := goodIn_r _ [6, 7, 8, 9, 10, 11, 12, 13, 14, 15, 16] (by decide +kernel) (by decide +kernel)
set_option maxRecDepth 20000 in
theorem gX1_senderOf_X1_slotOf : GoodIn wsX1_senderOf (wsV RX1 29 RX1 yX1_slotOf wsX1_slotOf) := goodIn_app (goodIn_of _ (by decide +kernel)) ggX1_senderOf_X1_slotOf
theorem dX1_senderOf_0 : decode cX1_senderOf 0 = .ok (.aload_n 0, 1) := by decide +kernel
theorem dX1_senderOf_1 : decode cX1_senderOf 1 = .ok (.getfield 16, 3) := by decide +kernel
theorem dX1_senderOf_4 : decode cX1_senderOf 4 = .ok (.aload_n 0, 1) := by decide +kernel
theorem dX1_senderOf_5 : decode cX1_senderOf 5 = .ok (.iload_n 1, 1) := by decide +kernel
theorem dX1_senderOf_6 : decode cX1_senderOf 6 = .ok (.invokevirtual 29, 3) := by decide +kernel
theorem dX1_senderOf_9 : decode cX1_senderOf 9 = .ok (.iaload, 1) := by decide +kernel
theorem dX1_senderOf_10 : decode cX1_senderOf 10 = .ok (.ireturn, 1) := by decide +kernel
set_option maxRecDepth 20000 in
theorem ggX1_placeOf_X1_slotOf : GoodIn wsX1_placeOf wsX1_slotOf := goodIn_r _ [5, 6, 7, 8, 9, 10, 11, 12, 13, 14, 15] (by decide +kernel) (by decide +kernel)
set_option maxRecDepth 20000 in
theorem gX1_placeOf_X1_slotOf : GoodIn wsX1_placeOf (wsV RX1 29 RX1 yX1_slotOf wsX1_slotOf) := goodIn_app (goodIn_of _ (by decide +kernel)) ggX1_placeOf_X1_slotOf
theorem dX1_placeOf_0 : decode cX1_placeOf 0 = .ok (.iload_n 3, 1) := by decide +kernel
theorem dX1_placeOf_1 : decode cX1_placeOf 1 = .ok (.ifCond .lt 20, 3) := by decide +kernel
theorem dX1_placeOf_4 : decode cX1_placeOf 4 = .ok (.iload_n 3, 1) := by decide +kernel
theorem dX1_placeOf_5 : decode cX1_placeOf 5 = .ok (.sipush 400, 3) := by decide +kernel
theorem dX1_placeOf_8 : decode cX1_placeOf 8 = .ok (.if_icmp .ge 13, 3) := by decide +kernel
theorem dX1_placeOf_11 : decode cX1_placeOf 11 = .ok (.iload_n 2, 1) := by decide +kernel
theorem dX1_placeOf_12 : decode cX1_placeOf 12 = .ok (.ifCond .lt 9, 3) := by decide +kernel
theorem dX1_placeOf_15 : decode cX1_placeOf 15 = .ok (.iload_n 2, 1) := by decide +kernel
theorem dX1_placeOf_16 : decode cX1_placeOf 16 = .ok (.bipush 16, 2) := by decide +kernel
theorem dX1_placeOf_18 : decode cX1_placeOf 18 = .ok (.if_icmp .lt 5, 3) := by decide +kernel
theorem dX1_placeOf_21 : decode cX1_placeOf 21 = .ok (.iconst (-1), 1) := by decide +kernel
theorem dX1_placeOf_22 : decode cX1_placeOf 22 = .ok (.ireturn, 1) := by decide +kernel
theorem dX1_placeOf_23 : decode cX1_placeOf 23 = .ok (.aload_n 0, 1) := by decide +kernel
theorem dX1_placeOf_24 : decode cX1_placeOf 24 = .ok (.iload_n 1, 1) := by decide +kernel
theorem dX1_placeOf_25 : decode cX1_placeOf 25 = .ok (.invokevirtual 29, 3) := by decide +kernel
theorem dX1_placeOf_28 : decode cX1_placeOf 28 = .ok (.sipush 6400, 3) := by decide +kernel
theorem dX1_placeOf_31 : decode cX1_placeOf 31 = .ok (.imul, 1) := by decide +kernel
theorem dX1_placeOf_32 : decode cX1_placeOf 32 = .ok (.iload_n 2, 1) := by decide +kernel
theorem dX1_placeOf_33 : decode cX1_placeOf 33 = .ok (.sipush 400, 3) := by decide +kernel
theorem dX1_placeOf_36 : decode cX1_placeOf 36 = .ok (.imul, 1) := by decide +kernel
theorem dX1_placeOf_37 : decode cX1_placeOf 37 = .ok (.iadd, 1) := by decide +kernel
theorem dX1_placeOf_38 : decode cX1_placeOf 38 = .ok (.iload_n 3, 1) := by decide +kernel
theorem dX1_placeOf_39 : decode cX1_placeOf 39 = .ok (.iadd, 1) := by decide +kernel
theorem dX1_placeOf_40 : decode cX1_placeOf 40 = .ok (.ireturn, 1) := by decide +kernel
set_option maxRecDepth 20000 in
theorem ggX1_at_X1_placeOf : GoodIn wsX1_at wsX1_placeOf := goodIn_r _ [6, 7, 8, 9, 5, 10, 11, 12, 13, 14, 15, 16, 17, 18, 19, 20] (by decide +kernel) (by decide +kernel)
set_option maxRecDepth 20000 in
theorem gX1_at_X1_placeOf : GoodIn wsX1_at (wsV RX1 39 RX1 yX1_placeOf wsX1_placeOf) := goodIn_app (goodIn_of _ (by decide +kernel)) ggX1_at_X1_placeOf
theorem dX1_at_0 : decode cX1_at 0 = .ok (.aload_n 0, 1) := by decide +kernel
theorem dX1_at_1 : decode cX1_at 1 = .ok (.iload_n 1, 1) := by decide +kernel
theorem dX1_at_2 : decode cX1_at 2 = .ok (.iload_n 2, 1) := by decide +kernel
theorem dX1_at_3 : decode cX1_at 3 = .ok (.iload_n 3, 1) := by decide +kernel
theorem dX1_at_4 : decode cX1_at 4 = .ok (.invokevirtual 39, 3) := by decide +kernel
theorem dX1_at_7 : decode cX1_at 7 = .ok (.istore 4, 2) := by decide +kernel
theorem dX1_at_9 : decode cX1_at 9 = .ok (.iload 4, 2) := by decide +kernel
theorem dX1_at_11 : decode cX1_at 11 = .ok (.ifCond .ge 7, 3) := by decide +kernel
theorem dX1_at_14 : decode cX1_at 14 = .ok (.iconst 0, 1) := by decide +kernel
theorem dX1_at_15 : decode cX1_at 15 = .ok (.goto 10, 3) := by decide +kernel
theorem dX1_at_18 : decode cX1_at 18 = .ok (.aload_n 0, 1) := by decide +kernel
theorem dX1_at_19 : decode cX1_at 19 = .ok (.getfield 12, 3) := by decide +kernel
theorem dX1_at_22 : decode cX1_at 22 = .ok (.iload 4, 2) := by decide +kernel
theorem dX1_at_24 : decode cX1_at 24 = .ok (.iaload, 1) := by decide +kernel
theorem dX1_at_25 : decode cX1_at 25 = .ok (.ireturn, 1) := by decide +kernel
set_option maxRecDepth 20000 in
theorem ggX1_louder_X1_placeOf : GoodIn wsX1_louder wsX1_placeOf := goodIn_r _ [6, 7, 8, 9, 5, 10, 11, 12, 13, 14, 15, 16, 17, 18, 19, 20] (by decide +kernel) (by decide +kernel)
set_option maxRecDepth 20000 in
theorem gX1_louder_X1_placeOf : GoodIn wsX1_louder (wsV RX1 39 RX1 yX1_placeOf wsX1_placeOf) := goodIn_app (goodIn_of _ (by decide +kernel)) ggX1_louder_X1_placeOf
theorem dX1_louder_0 : decode cX1_louder 0 = .ok (.aload_n 0, 1) := by decide +kernel
theorem dX1_louder_1 : decode cX1_louder 1 = .ok (.iload_n 1, 1) := by decide +kernel
theorem dX1_louder_2 : decode cX1_louder 2 = .ok (.iload_n 2, 1) := by decide +kernel
theorem dX1_louder_3 : decode cX1_louder 3 = .ok (.iload_n 3, 1) := by decide +kernel
theorem dX1_louder_4 : decode cX1_louder 4 = .ok (.invokevirtual 39, 3) := by decide +kernel
theorem dX1_louder_7 : decode cX1_louder 7 = .ok (.istore 5, 2) := by decide +kernel
theorem dX1_louder_9 : decode cX1_louder 9 = .ok (.iload 5, 2) := by decide +kernel
theorem dX1_louder_11 : decode cX1_louder 11 = .ok (.ifCond .lt 15, 3) := by decide +kernel
theorem dX1_louder_14 : decode cX1_louder 14 = .ok (.aload_n 0, 1) := by decide +kernel
theorem dX1_louder_15 : decode cX1_louder 15 = .ok (.getfield 12, 3) := by decide +kernel
theorem dX1_louder_18 : decode cX1_louder 18 = .ok (.iload 5, 2) := by decide +kernel
theorem dX1_louder_20 : decode cX1_louder 20 = .ok (.dup2, 1) := by decide +kernel
theorem dX1_louder_21 : decode cX1_louder 21 = .ok (.iaload, 1) := by decide +kernel
theorem dX1_louder_22 : decode cX1_louder 22 = .ok (.iload 4, 2) := by decide +kernel
theorem dX1_louder_24 : decode cX1_louder 24 = .ok (.iadd, 1) := by decide +kernel
theorem dX1_louder_25 : decode cX1_louder 25 = .ok (.iastore, 1) := by decide +kernel
theorem dX1_louder_26 : decode cX1_louder 26 = .ok (.return_, 1) := by decide +kernel
set_option maxRecDepth 20000 in
theorem ggX1_rowSum_X1_placeOf : GoodIn wsX1_rowSum wsX1_placeOf := goodIn_r _ [6, 7, 8, 9, 5, 10, 11, 12, 13, 14, 15, 16, 17, 18, 19, 20] (by decide +kernel) (by decide +kernel)
set_option maxRecDepth 20000 in
theorem gX1_rowSum_X1_placeOf : GoodIn wsX1_rowSum (wsV RX1 39 RX1 yX1_placeOf wsX1_placeOf) := goodIn_app (goodIn_of _ (by decide +kernel)) ggX1_rowSum_X1_placeOf
theorem dX1_rowSum_0 : decode cX1_rowSum 0 = .ok (.aload_n 0, 1) := by decide +kernel
theorem dX1_rowSum_1 : decode cX1_rowSum 1 = .ok (.iload_n 1, 1) := by decide +kernel
theorem dX1_rowSum_2 : decode cX1_rowSum 2 = .ok (.iload_n 2, 1) := by decide +kernel
theorem dX1_rowSum_3 : decode cX1_rowSum 3 = .ok (.iconst 0, 1) := by decide +kernel
theorem dX1_rowSum_4 : decode cX1_rowSum 4 = .ok (.invokevirtual 39, 3) := by decide +kernel
theorem dX1_rowSum_7 : decode cX1_rowSum 7 = .ok (.istore_n 3, 1) := by decide +kernel
theorem dX1_rowSum_8 : decode cX1_rowSum 8 = .ok (.iload_n 3, 1) := by decide +kernel
theorem dX1_rowSum_9 : decode cX1_rowSum 9 = .ok (.ifCond .lt 16, 3) := by decide +kernel
theorem dX1_rowSum_12 : decode cX1_rowSum 12 = .ok (.iload_n 3, 1) := by decide +kernel
theorem dX1_rowSum_13 : decode cX1_rowSum 13 = .ok (.sipush 400, 3) := by decide +kernel
theorem dX1_rowSum_16 : decode cX1_rowSum 16 = .ok (.iadd, 1) := by decide +kernel
theorem dX1_rowSum_17 : decode cX1_rowSum 17 = .ok (.aload_n 0, 1) := by decide +kernel
theorem dX1_rowSum_18 : decode cX1_rowSum 18 = .ok (.getfield 12, 3) := by decide +kernel
theorem dX1_rowSum_21 : decode cX1_rowSum 21 = .ok (.arraylength, 1) := by decide +kernel
theorem dX1_rowSum_22 : decode cX1_rowSum 22 = .ok (.if_icmp .le 5, 3) := by decide +kernel
theorem dX1_rowSum_25 : decode cX1_rowSum 25 = .ok (.lconst 0, 1) := by decide +kernel
theorem dX1_rowSum_26 : decode cX1_rowSum 26 = .ok (.lreturn, 1) := by decide +kernel
theorem dX1_rowSum_27 : decode cX1_rowSum 27 = .ok (.lconst 0, 1) := by decide +kernel
theorem dX1_rowSum_28 : decode cX1_rowSum 28 = .ok (.lstore 4, 2) := by decide +kernel
theorem dX1_rowSum_30 : decode cX1_rowSum 30 = .ok (.iconst 0, 1) := by decide +kernel
theorem dX1_rowSum_31 : decode cX1_rowSum 31 = .ok (.istore 6, 2) := by decide +kernel
theorem dX1_rowSum_33 : decode cX1_rowSum 33 = .ok (.iload 6, 2) := by decide +kernel
theorem dX1_rowSum_35 : decode cX1_rowSum 35 = .ok (.sipush 400, 3) := by decide +kernel
theorem dX1_rowSum_38 : decode cX1_rowSum 38 = .ok (.if_icmp .ge 30, 3) := by decide +kernel
theorem dX1_rowSum_41 : decode cX1_rowSum 41 = .ok (.lload 4, 2) := by decide +kernel
theorem dX1_rowSum_43 : decode cX1_rowSum 43 = .ok (.iload 6, 2) := by decide +kernel
theorem dX1_rowSum_45 : decode cX1_rowSum 45 = .ok (.i2l, 1) := by decide +kernel
theorem dX1_rowSum_46 : decode cX1_rowSum 46 = .ok (.lconst 1, 1) := by decide +kernel
theorem dX1_rowSum_47 : decode cX1_rowSum 47 = .ok (.ladd, 1) := by decide +kernel
theorem dX1_rowSum_48 : decode cX1_rowSum 48 = .ok (.aload_n 0, 1) := by decide +kernel
theorem dX1_rowSum_49 : decode cX1_rowSum 49 = .ok (.getfield 12, 3) := by decide +kernel
theorem dX1_rowSum_52 : decode cX1_rowSum 52 = .ok (.iload_n 3, 1) := by decide +kernel
theorem dX1_rowSum_53 : decode cX1_rowSum 53 = .ok (.iload 6, 2) := by decide +kernel
theorem dX1_rowSum_55 : decode cX1_rowSum 55 = .ok (.iadd, 1) := by decide +kernel
theorem dX1_rowSum_56 : decode cX1_rowSum 56 = .ok (.iaload, 1) := by decide +kernel
theorem dX1_rowSum_57 : decode cX1_rowSum 57 = .ok (.i2l, 1) := by decide +kernel
theorem dX1_rowSum_58 : decode cX1_rowSum 58 = .ok (.lmul, 1) := by decide +kernel
theorem dX1_rowSum_59 : decode cX1_rowSum 59 = .ok (.ladd, 1) := by decide +kernel
theorem dX1_rowSum_60 : decode cX1_rowSum 60 = .ok (.lstore 4, 2) := by decide +kernel
theorem dX1_rowSum_62 : decode cX1_rowSum 62 = .ok (.iinc 6 1, 3) := by decide +kernel
theorem dX1_rowSum_65 : decode cX1_rowSum 65 = .ok (.goto (-32), 3) := by decide +kernel
theorem dX1_rowSum_68 : decode cX1_rowSum 68 = .ok (.lload 4, 2) := by decide +kernel
theorem dX1_rowSum_70 : decode cX1_rowSum 70 = .ok (.lreturn, 1) := by decide +kernel
theorem dX2_init_0 : decode cX2_init 0 = .ok (.aload_n 0, 1) := by decide +kernel
theorem dX2_init_1 : decode cX2_init 1 = .ok (.invokespecial 1, 3) := by decide +kernel
theorem dX2_init_4 : decode cX2_init 4 = .ok (.aload_n 0, 1) := by decide +kernel
theorem dX2_init_5 : decode cX2_init 5 = .ok (.iconst 0, 1) := by decide +kernel
theorem dX2_init_6 : decode cX2_init 6 = .ok (.putfield 7, 3) := by decide +kernel
theorem dX2_init_9 : decode cX2_init 9 = .ok (.aload_n 0, 1) := by decide +kernel
theorem dX2_init_10 : decode cX2_init 10 = .ok (.ldc 13, 2) := by decide +kernel
theorem dX2_init_12 : decode cX2_init 12 = .ok (.putfield 14, 3) := by decide +kernel
theorem dX2_init_15 : decode cX2_init 15 = .ok (.return_, 1) := by decide +kernel
theorem dX2_cool_0 : decode cX2_cool 0 = .ok (.aload_n 0, 1) := by decide +kernel
theorem dX2_cool_1 : decode cX2_cool 1 = .ok (.dup, 1) := by decide +kernel
theorem dX2_cool_2 : decode cX2_cool 2 = .ok (.getfield 7, 3) := by decide +kernel
theorem dX2_cool_5 : decode cX2_cool 5 = .ok (.aload_n 0, 1) := by decide +kernel
theorem dX2_cool_6 : decode cX2_cool 6 = .ok (.getfield 7, 3) := by decide +kernel
theorem dX2_cool_9 : decode cX2_cool 9 = .ok (.bipush 31, 2) := by decide +kernel
theorem dX2_cool_11 : decode cX2_cool 11 = .ok (.iadd, 1) := by decide +kernel
theorem dX2_cool_12 : decode cX2_cool 12 = .ok (.bipush 32, 2) := by decide +kernel
theorem dX2_cool_14 : decode cX2_cool 14 = .ok (.idiv, 1) := by decide +kernel
theorem dX2_cool_15 : decode cX2_cool 15 = .ok (.isub, 1) := by decide +kernel
theorem dX2_cool_16 : decode cX2_cool 16 = .ok (.putfield 7, 3) := by decide +kernel
theorem dX2_cool_19 : decode cX2_cool 19 = .ok (.return_, 1) := by decide +kernel
set_option maxRecDepth 20000 in
theorem ggX3_init_X3_renew : GoodIn wsX3_init wsX3_renew := goodIn_r _ [18, 19, 20, 21, 22, 23, 24, 25, 26, 27, 5, 7, 28, 29, 30, 31, 32, 33, 34, 35, 36, 37, 38] (by decide +kernel) (by decide +kernel)
set_option maxRecDepth 20000 in
theorem gX3_init_X3_renew : GoodIn wsX3_init (wsV RX3 38 RX3 yX3_renew wsX3_renew) := goodIn_app (goodIn_of _ (by decide +kernel)) ggX3_init_X3_renew
theorem dX3_init_0 : decode cX3_init 0 = .ok (.aload_n 0, 1) := by decide +kernel
theorem dX3_init_1 : decode cX3_init 1 = .ok (.invokespecial 3, 3) := by decide +kernel
theorem dX3_init_4 : decode cX3_init 4 = .ok (.aload_n 0, 1) := by decide +kernel
theorem dX3_init_5 : decode cX3_init 5 = .ok (.bipush 16, 2) := by decide +kernel
theorem dX3_init_7 : decode cX3_init 7 = .ok (.newarray .int, 2) := by decide +kernel
theorem dX3_init_9 : decode cX3_init 9 = .ok (.putfield 9, 3) := by decide +kernel
theorem dX3_init_12 : decode cX3_init 12 = .ok (.aload_n 0, 1) := by decide +kernel
theorem dX3_init_13 : decode cX3_init 13 = .ok (.bipush 16, 2) := by decide +kernel
theorem dX3_init_15 : decode cX3_init 15 = .ok (.newarray .boolean, 2) := by decide +kernel
theorem dX3_init_17 : decode cX3_init 17 = .ok (.putfield 15, 3) := by decide +kernel
theorem dX3_init_20 : decode cX3_init 20 = .ok (.aload_n 0, 1) := by decide +kernel
theorem dX3_init_21 : decode cX3_init 21 = .ok (.bipush 16, 2) := by decide +kernel
theorem dX3_init_23 : decode cX3_init 23 = .ok (.newarray .int, 2) := by decide +kernel
theorem dX3_init_25 : decode cX3_init 25 = .ok (.putfield 19, 3) := by decide +kernel
theorem dX3_init_28 : decode cX3_init 28 = .ok (.aload_n 0, 1) := by decide +kernel
theorem dX3_init_29 : decode cX3_init 29 = .ok (.bipush 16, 2) := by decide +kernel
theorem dX3_init_31 : decode cX3_init 31 = .ok (.newarray .int, 2) := by decide +kernel
theorem dX3_init_33 : decode cX3_init 33 = .ok (.putfield 22, 3) := by decide +kernel
theorem dX3_init_36 : decode cX3_init 36 = .ok (.aload_n 0, 1) := by decide +kernel
theorem dX3_init_37 : decode cX3_init 37 = .ok (.iconst 1, 1) := by decide +kernel
theorem dX3_init_38 : decode cX3_init 38 = .ok (.putfield 25, 3) := by decide +kernel
theorem dX3_init_41 : decode cX3_init 41 = .ok (.aload_n 0, 1) := by decide +kernel
theorem dX3_init_42 : decode cX3_init 42 = .ok (.iconst 1, 1) := by decide +kernel
theorem dX3_init_43 : decode cX3_init 43 = .ok (.putfield 29, 3) := by decide +kernel
theorem dX3_init_46 : decode cX3_init 46 = .ok (.aload_n 0, 1) := by decide +kernel
theorem dX3_init_47 : decode cX3_init 47 = .ok (.iconst 0, 1) := by decide +kernel
theorem dX3_init_48 : decode cX3_init 48 = .ok (.putfield 32, 3) := by decide +kernel
theorem dX3_init_51 : decode cX3_init 51 = .ok (.aload_n 0, 1) := by decide +kernel
theorem dX3_init_52 : decode cX3_init 52 = .ok (.iconst 2, 1) := by decide +kernel
theorem dX3_init_53 : decode cX3_init 53 = .ok (.putfield 35, 3) := by decide +kernel
theorem dX3_init_56 : decode cX3_init 56 = .ok (.aload_n 0, 1) := by decide +kernel
theorem dX3_init_57 : decode cX3_init 57 = .ok (.iconst 2, 1) := by decide +kernel
theorem dX3_init_58 : decode cX3_init 58 = .ok (.bipush (-10), 2) := by decide +kernel
theorem dX3_init_60 : decode cX3_init 60 = .ok (.bipush 20, 2) := by decide +kernel
theorem dX3_init_62 : decode cX3_init 62 = .ok (.invokevirtual 38, 3) := by decide +kernel
theorem dX3_init_65 : decode cX3_init 65 = .ok (.return_, 1) := by decide +kernel
theorem dX3_renew_0 : decode cX3_renew 0 = .ok (.aload_n 0, 1) := by decide +kernel
theorem dX3_renew_1 : decode cX3_renew 1 = .ok (.iconst 0, 1) := by decide +kernel
theorem dX3_renew_2 : decode cX3_renew 2 = .ok (.iload_n 1, 1) := by decide +kernel
theorem dX3_renew_3 : decode cX3_renew 3 = .ok (.bipush 16, 2) := by decide +kernel
theorem dX3_renew_5 : decode cX3_renew 5 = .ok (.invokestatic 42, 3) := by decide +kernel
theorem dX3_renew_8 : decode cX3_renew 8 = .ok (.invokestatic 48, 3) := by decide +kernel
theorem dX3_renew_11 : decode cX3_renew 11 = .ok (.putfield 51, 3) := by decide +kernel
theorem dX3_renew_14 : decode cX3_renew 14 = .ok (.aload_n 0, 1) := by decide +kernel
theorem dX3_renew_15 : decode cX3_renew 15 = .ok (.aload_n 0, 1) := by decide +kernel
theorem dX3_renew_16 : decode cX3_renew 16 = .ok (.getfield 51, 3) := by decide +kernel
theorem dX3_renew_19 : decode cX3_renew 19 = .ok (.putfield 54, 3) := by decide +kernel
theorem dX3_renew_22 : decode cX3_renew 22 = .ok (.iconst 0, 1) := by decide +kernel
theorem dX3_renew_23 : decode cX3_renew 23 = .ok (.istore 4, 2) := by decide +kernel
theorem dX3_renew_25 : decode cX3_renew 25 = .ok (.iload 4, 2) := by decide +kernel
theorem dX3_renew_27 : decode cX3_renew 27 = .ok (.aload_n 0, 1) := by decide +kernel
theorem dX3_renew_28 : decode cX3_renew 28 = .ok (.getfield 51, 3) := by decide +kernel
theorem dX3_renew_31 : decode cX3_renew 31 = .ok (.if_icmp .ge 30, 3) := by decide +kernel
theorem dX3_renew_34 : decode cX3_renew 34 = .ok (.aload_n 0, 1) := by decide +kernel
theorem dX3_renew_35 : decode cX3_renew 35 = .ok (.getfield 9, 3) := by decide +kernel
theorem dX3_renew_38 : decode cX3_renew 38 = .ok (.iload 4, 2) := by decide +kernel
theorem dX3_renew_40 : decode cX3_renew 40 = .ok (.iload_n 2, 1) := by decide +kernel
theorem dX3_renew_41 : decode cX3_renew 41 = .ok (.iload 4, 2) := by decide +kernel
theorem dX3_renew_43 : decode cX3_renew 43 = .ok (.iload_n 3, 1) := by decide +kernel
theorem dX3_renew_44 : decode cX3_renew 44 = .ok (.imul, 1) := by decide +kernel
theorem dX3_renew_45 : decode cX3_renew 45 = .ok (.iadd, 1) := by decide +kernel
theorem dX3_renew_46 : decode cX3_renew 46 = .ok (.iastore, 1) := by decide +kernel
theorem dX3_renew_47 : decode cX3_renew 47 = .ok (.aload_n 0, 1) := by decide +kernel
theorem dX3_renew_48 : decode cX3_renew 48 = .ok (.getfield 15, 3) := by decide +kernel
theorem dX3_renew_51 : decode cX3_renew 51 = .ok (.iload 4, 2) := by decide +kernel
theorem dX3_renew_53 : decode cX3_renew 53 = .ok (.iconst 0, 1) := by decide +kernel
theorem dX3_renew_54 : decode cX3_renew 54 = .ok (.bastore, 1) := by decide +kernel
theorem dX3_renew_55 : decode cX3_renew 55 = .ok (.iinc 4 1, 3) := by decide +kernel
theorem dX3_renew_58 : decode cX3_renew 58 = .ok (.goto (-33), 3) := by decide +kernel
theorem dX3_renew_61 : decode cX3_renew 61 = .ok (.return_, 1) := by decide +kernel
theorem dX3_has_0 : decode cX3_has 0 = .ok (.iload_n 1, 1) := by decide +kernel
theorem dX3_has_1 : decode cX3_has 1 = .ok (.ifCond .lt 21, 3) := by decide +kernel
theorem dX3_has_4 : decode cX3_has 4 = .ok (.iload_n 1, 1) := by decide +kernel
theorem dX3_has_5 : decode cX3_has 5 = .ok (.aload_n 0, 1) := by decide +kernel
theorem dX3_has_6 : decode cX3_has 6 = .ok (.getfield 51, 3) := by decide +kernel
theorem dX3_has_9 : decode cX3_has 9 = .ok (.if_icmp .ge 13, 3) := by decide +kernel
theorem dX3_has_12 : decode cX3_has 12 = .ok (.iload_n 1, 1) := by decide +kernel
theorem dX3_has_13 : decode cX3_has 13 = .ok (.bipush 16, 2) := by decide +kernel
theorem dX3_has_15 : decode cX3_has 15 = .ok (.if_icmp .ge 7, 3) := by decide +kernel
theorem dX3_has_18 : decode cX3_has 18 = .ok (.iconst 1, 1) := by decide +kernel
theorem dX3_has_19 : decode cX3_has 19 = .ok (.goto 4, 3) := by decide +kernel
theorem dX3_has_22 : decode cX3_has 22 = .ok (.iconst 0, 1) := by decide +kernel
theorem dX3_has_23 : decode cX3_has 23 = .ok (.ireturn, 1) := by decide +kernel
set_option maxRecDepth 20000 in
theorem ggX3_isDead_X3_has : GoodIn wsX3_isDead wsX3_has := goodIn_r _ [6, 7, 8, 9, 10, 11, 12, 13, 14, 15, 16, 17, 18] (by decide +kernel) (by decide +kernel)
set_option maxRecDepth 20000 in
theorem gX3_isDead_X3_has : GoodIn wsX3_isDead (wsV RX3 57 RX3 yX3_has wsX3_has) := goodIn_app (goodIn_of _ (by decide +kernel)) ggX3_isDead_X3_has
theorem dX3_isDead_0 : decode cX3_isDead 0 = .ok (.aload_n 0, 1) := by decide +kernel
theorem dX3_isDead_1 : decode cX3_isDead 1 = .ok (.iload_n 1, 1) := by decide +kernel
theorem dX3_isDead_2 : decode cX3_isDead 2 = .ok (.invokevirtual 57, 3) := by decide +kernel
theorem dX3_isDead_5 : decode cX3_isDead 5 = .ok (.ifCond .eq 16, 3) := by decide +kernel
theorem dX3_isDead_8 : decode cX3_isDead 8 = .ok (.aload_n 0, 1) := by decide +kernel
theorem dX3_isDead_9 : decode cX3_isDead 9 = .ok (.getfield 15, 3) := by decide +kernel
theorem dX3_isDead_12 : decode cX3_isDead 12 = .ok (.iload_n 1, 1) := by decide +kernel
theorem dX3_isDead_13 : decode cX3_isDead 13 = .ok (.baload, 1) := by decide +kernel
theorem dX3_isDead_14 : decode cX3_isDead 14 = .ok (.ifCond .eq 7, 3) := by decide +kernel
theorem dX3_isDead_17 : decode cX3_isDead 17 = .ok (.iconst 1, 1) := by decide +kernel
theorem dX3_isDead_18 : decode cX3_isDead 18 = .ok (.goto 4, 3) := by decide +kernel
theorem dX3_isDead_21 : decode cX3_isDead 21 = .ok (.iconst 0, 1) := by decide +kernel
theorem dX3_isDead_22 : decode cX3_isDead 22 = .ok (.ireturn, 1) := by decide +kernel
set_option maxRecDepth 20000 in
theorem ggX3_setDead_X3_has : GoodIn wsX3_setDead wsX3_has := goodIn_r _ [7, 8, 9, 10, 11, 12, 13, 14, 15, 16, 17, 18, 19] (by decide +kernel) (by decide +kernel)
set_option maxRecDepth 20000 in
theorem gX3_setDead_X3_has : GoodIn wsX3_setDead (wsV RX3 57 RX3 yX3_has wsX3_has) := goodIn_app (goodIn_of _ (by decide +kernel)) ggX3_setDead_X3_has
theorem dX3_setDead_0 : decode cX3_setDead 0 = .ok (.aload_n 0, 1) := by decide +kernel
theorem dX3_setDead_1 : decode cX3_setDead 1 = .ok (.iload_n 1, 1) := by decide +kernel
theorem dX3_setDead_2 : decode cX3_setDead 2 = .ok (.invokevirtual 57, 3) := by decide +kernel
theorem dX3_setDead_5 : decode cX3_setDead 5 = .ok (.ifCond .eq 28, 3) := by decide +kernel
theorem dX3_setDead_8 : decode cX3_setDead 8 = .ok (.aload_n 0, 1) := by decide +kernel
theorem dX3_setDead_9 : decode cX3_setDead 9 = .ok (.getfield 15, 3) := by decide +kernel
theorem dX3_setDead_12 : decode cX3_setDead 12 = .ok (.iload_n 1, 1) := by decide +kernel
theorem dX3_setDead_13 : decode cX3_setDead 13 = .ok (.iload_n 2, 1) := by decide +kernel
theorem dX3_setDead_14 : decode cX3_setDead 14 = .ok (.bastore, 1) := by decide +kernel
theorem dX3_setDead_15 : decode cX3_setDead 15 = .ok (.aload_n 0, 1) := by decide +kernel
theorem dX3_setDead_16 : decode cX3_setDead 16 = .ok (.dup, 1) := by decide +kernel
theorem dX3_setDead_17 : decode cX3_setDead 17 = .ok (.getfield 54, 3) := by decide +kernel
theorem dX3_setDead_20 : decode cX3_setDead 20 = .ok (.iload_n 2, 1) := by decide +kernel
theorem dX3_setDead_21 : decode cX3_setDead 21 = .ok (.ifCond .eq 7, 3) := by decide +kernel
theorem dX3_setDead_24 : decode cX3_setDead 24 = .ok (.iconst (-1), 1) := by decide +kernel
theorem dX3_setDead_25 : decode cX3_setDead 25 = .ok (.goto 4, 3) := by decide +kernel
theorem dX3_setDead_28 : decode cX3_setDead 28 = .ok (.iconst 1, 1) := by decide +kernel
theorem dX3_setDead_29 : decode cX3_setDead 29 = .ok (.iadd, 1) := by decide +kernel
theorem dX3_setDead_30 : decode cX3_setDead 30 = .ok (.putfield 54, 3) := by decide +kernel
theorem dX3_setDead_33 : decode cX3_setDead 33 = .ok (.return_, 1) := by decide +kernel
set_option maxRecDepth 20000 in
theorem ggX3_gap_X3_has : GoodIn wsX3_gap wsX3_has := goodIn_r _ [10, 11, 12, 13, 14, 15, 16, 17, 18, 19, 20, 21, 22] (by decide +kernel) (by decide +kernel)
set_option maxRecDepth 20000 in
theorem gX3_gap_X3_has : GoodIn wsX3_gap (wsV RX3 57 RX3 yX3_has wsX3_has) := goodIn_app (goodIn_of _ (by decide +kernel)) ggX3_gap_X3_has
theorem dX3_gap_0 : decode cX3_gap 0 = .ok (.aload_n 0, 1) := by decide +kernel
theorem dX3_gap_1 : decode cX3_gap 1 = .ok (.iload_n 1, 1) := by decide +kernel
theorem dX3_gap_2 : decode cX3_gap 2 = .ok (.invokevirtual 57, 3) := by decide +kernel
theorem dX3_gap_5 : decode cX3_gap 5 = .ok (.ifCond .eq 17, 3) := by decide +kernel
theorem dX3_gap_8 : decode cX3_gap 8 = .ok (.aload_n 0, 1) := by decide +kernel
theorem dX3_gap_9 : decode cX3_gap 9 = .ok (.getfield 9, 3) := by decide +kernel
theorem dX3_gap_12 : decode cX3_gap 12 = .ok (.iload_n 1, 1) := by decide +kernel
theorem dX3_gap_13 : decode cX3_gap 13 = .ok (.iaload, 1) := by decide +kernel
theorem dX3_gap_14 : decode cX3_gap 14 = .ok (.iload_n 2, 1) := by decide +kernel
theorem dX3_gap_15 : decode cX3_gap 15 = .ok (.isub, 1) := by decide +kernel
theorem dX3_gap_16 : decode cX3_gap 16 = .ok (.invokestatic 61, 3) := by decide +kernel
theorem dX3_gap_19 : decode cX3_gap 19 = .ok (.goto 4, 3) := by decide +kernel
theorem dX3_gap_22 : decode cX3_gap 22 = .ok (.iconst 0, 1) := by decide +kernel
theorem dX3_gap_23 : decode cX3_gap 23 = .ok (.ireturn, 1) := by decide +kernel
set_option maxRecDepth 20000 in
theorem ggX3_delayOf_X3_gap : GoodIn wsX3_delayOf wsX3_gap := goodIn_r _ [9, 10, 11, 12, 13, 14, 15, 16, 17, 8, 18, 19, 24, 25, 26, 27, 28, 29, 30, 31, 32, 33, 34] (by decide +kernel) (by decide +kernel)
set_option maxRecDepth 20000 in
theorem gX3_delayOf_X3_gap : GoodIn wsX3_delayOf (wsV RX3 65 RX3 yX3_gap wsX3_gap) := goodIn_app (goodIn_of _ (by decide +kernel)) ggX3_delayOf_X3_gap
set_option maxRecDepth 20000 in
theorem ggX3_delayOf_X6_root : GoodIn wsX3_delayOf wsX6_root := goodIn_r _ [22, 23] (by decide +kernel) (by decide +kernel)
set_option maxRecDepth 20000 in
theorem gX3_delayOf_X6_root_n72 : GoodIn wsX3_delayOf (wsX6_root) := ggX3_delayOf_X6_root
theorem dX3_delayOf_0 : decode cX3_delayOf 0 = .ok (.aload_n 0, 1) := by decide +kernel
theorem dX3_delayOf_1 : decode cX3_delayOf 1 = .ok (.getfield 25, 3) := by decide +kernel
theorem dX3_delayOf_4 : decode cX3_delayOf 4 = .ok (.iconst 1, 1) := by decide +kernel
theorem dX3_delayOf_5 : decode cX3_delayOf 5 = .ok (.if_icmp .ge 5, 3) := by decide +kernel
theorem dX3_delayOf_8 : decode cX3_delayOf 8 = .ok (.iconst 0, 1) := by decide +kernel
theorem dX3_delayOf_9 : decode cX3_delayOf 9 = .ok (.ireturn, 1) := by decide +kernel
theorem dX3_delayOf_10 : decode cX3_delayOf 10 = .ok (.aload_n 0, 1) := by decide +kernel
theorem dX3_delayOf_11 : decode cX3_delayOf 11 = .ok (.iload_n 1, 1) := by decide +kernel
theorem dX3_delayOf_12 : decode cX3_delayOf 12 = .ok (.iload_n 2, 1) := by decide +kernel
theorem dX3_delayOf_13 : decode cX3_delayOf 13 = .ok (.invokevirtual 65, 3) := by decide +kernel
theorem dX3_delayOf_16 : decode cX3_delayOf 16 = .ok (.i2l, 1) := by decide +kernel
theorem dX3_delayOf_17 : decode cX3_delayOf 17 = .ok (.lstore 4, 2) := by decide +kernel
theorem dX3_delayOf_19 : decode cX3_delayOf 19 = .ok (.iload_n 3, 1) := by decide +kernel
theorem dX3_delayOf_20 : decode cX3_delayOf 20 = .ok (.i2l, 1) := by decide +kernel
theorem dX3_delayOf_21 : decode cX3_delayOf 21 = .ok (.lstore 6, 2) := by decide +kernel
theorem dX3_delayOf_23 : decode cX3_delayOf 23 = .ok (.ldc2_w 68, 3) := by decide +kernel
theorem dX3_delayOf_26 : decode cX3_delayOf 26 = .ok (.aload_n 0, 1) := by decide +kernel
theorem dX3_delayOf_27 : decode cX3_delayOf 27 = .ok (.getfield 29, 3) := by decide +kernel
theorem dX3_delayOf_30 : decode cX3_delayOf 30 = .ok (.i2l, 1) := by decide +kernel
theorem dX3_delayOf_31 : decode cX3_delayOf 31 = .ok (.lmul, 1) := by decide +kernel
theorem dX3_delayOf_32 : decode cX3_delayOf 32 = .ok (.aload_n 0, 1) := by decide +kernel
theorem dX3_delayOf_33 : decode cX3_delayOf 33 = .ok (.getfield 29, 3) := by decide +kernel
theorem dX3_delayOf_36 : decode cX3_delayOf 36 = .ok (.i2l, 1) := by decide +kernel
theorem dX3_delayOf_37 : decode cX3_delayOf 37 = .ok (.lmul, 1) := by decide +kernel
theorem dX3_delayOf_38 : decode cX3_delayOf 38 = .ok (.lload 4, 2) := by decide +kernel
theorem dX3_delayOf_40 : decode cX3_delayOf 40 = .ok (.lload 4, 2) := by decide +kernel
theorem dX3_delayOf_42 : decode cX3_delayOf 42 = .ok (.lmul, 1) := by decide +kernel
theorem dX3_delayOf_43 : decode cX3_delayOf 43 = .ok (.lload 6, 2) := by decide +kernel
theorem dX3_delayOf_45 : decode cX3_delayOf 45 = .ok (.lload 6, 2) := by decide +kernel
theorem dX3_delayOf_47 : decode cX3_delayOf 47 = .ok (.lmul, 1) := by decide +kernel
theorem dX3_delayOf_48 : decode cX3_delayOf 48 = .ok (.ladd, 1) := by decide +kernel
theorem dX3_delayOf_49 : decode cX3_delayOf 49 = .ok (.lmul, 1) := by decide +kernel
theorem dX3_delayOf_50 : decode cX3_delayOf 50 = .ok (.ldc2_w 70, 3) := by decide +kernel
theorem dX3_delayOf_53 : decode cX3_delayOf 53 = .ok (.aload_n 0, 1) := by decide +kernel
theorem dX3_delayOf_54 : decode cX3_delayOf 54 = .ok (.getfield 29, 3) := by decide +kernel
theorem dX3_delayOf_57 : decode cX3_delayOf 57 = .ok (.i2l, 1) := by decide +kernel
theorem dX3_delayOf_58 : decode cX3_delayOf 58 = .ok (.lmul, 1) := by decide +kernel
theorem dX3_delayOf_59 : decode cX3_delayOf 59 = .ok (.lload 4, 2) := by decide +kernel
theorem dX3_delayOf_61 : decode cX3_delayOf 61 = .ok (.lload 6, 2) := by decide +kernel
theorem dX3_delayOf_63 : decode cX3_delayOf 63 = .ok (.ladd, 1) := by decide +kernel
theorem dX3_delayOf_64 : decode cX3_delayOf 64 = .ok (.lmul, 1) := by decide +kernel
theorem dX3_delayOf_65 : decode cX3_delayOf 65 = .ok (.invokestatic 72, 3) := by decide +kernel
theorem dX3_delayOf_68 : decode cX3_delayOf 68 = .ok (.lstore 8, 2) := by decide +kernel
theorem dX3_delayOf_70 : decode cX3_delayOf 70 = .ok (.lload 8, 2) := by decide +kernel
theorem dX3_delayOf_72 : decode cX3_delayOf 72 = .ok (.aload_n 0, 1) := by decide +kernel
theorem dX3_delayOf_73 : decode cX3_delayOf 73 = .ok (.getfield 25, 3) := by decide +kernel
theorem dX3_delayOf_76 : decode cX3_delayOf 76 = .ok (.i2l, 1) := by decide +kernel
theorem dX3_delayOf_77 : decode cX3_delayOf 77 = .ok (.ladd, 1) := by decide +kernel
theorem dX3_delayOf_78 : decode cX3_delayOf 78 = .ok (.ldc2_w 70, 3) := by decide +kernel
theorem dX3_delayOf_81 : decode cX3_delayOf 81 = .ok (.aload_n 0, 1) := by decide +kernel
theorem dX3_delayOf_82 : decode cX3_delayOf 82 = .ok (.getfield 25, 3) := by decide +kernel
theorem dX3_delayOf_85 : decode cX3_delayOf 85 = .ok (.i2l, 1) := by decide +kernel
theorem dX3_delayOf_86 : decode cX3_delayOf 86 = .ok (.lmul, 1) := by decide +kernel
theorem dX3_delayOf_87 : decode cX3_delayOf 87 = .ok (.ldiv, 1) := by decide +kernel
theorem dX3_delayOf_88 : decode cX3_delayOf 88 = .ok (.l2i, 1) := by decide +kernel
theorem dX3_delayOf_89 : decode cX3_delayOf 89 = .ok (.ireturn, 1) := by decide +kernel
set_option maxRecDepth 20000 in
theorem ggX3_weightOf_X3_has : GoodIn wsX3_weightOf wsX3_has := goodIn_r _ [7, 8, 23, 24, 25, 26, 27, 28, 29, 30, 31, 32, 33] (by decide +kernel) (by decide +kernel)
set_option maxRecDepth 20000 in
theorem gX3_weightOf_X3_has : GoodIn wsX3_weightOf (wsV RX3 57 RX3 yX3_has wsX3_has) := goodIn_app (goodIn_of _ (by decide +kernel)) ggX3_weightOf_X3_has
set_option maxRecDepth 20000 in
theorem ggX3_weightOf_X3_isDead : GoodIn wsX3_weightOf wsX3_isDead := goodIn_r _ [12, 13, 3, 4, 5, 6, 7, 8, 23, 24, 25, 26, 27, 28, 29, 30, 31, 32, 33] (by decide +kernel) (by decide +kernel)
set_option maxRecDepth 20000 in
theorem gX3_weightOf_X3_isDead : GoodIn wsX3_weightOf (wsV RX3 76 RX3 yX3_isDead wsX3_isDead) := goodIn_app (goodIn_of _ (by decide +kernel)) ggX3_weightOf_X3_isDead
set_option maxRecDepth 20000 in
theorem ggX3_weightOf_X3_gap : GoodIn wsX3_weightOf wsX3_gap := goodIn_r _ [17, 18, 19, 20, 21, 22, 3, 4, 5, 6, 7, 8, 23, 24, 25, 26, 27, 28, 29, 30, 31, 32, 33] (by decide +kernel) (by decide +kernel)
set_option maxRecDepth 20000 in
theorem gX3_weightOf_X3_gap : GoodIn wsX3_weightOf (wsV RX3 65 RX3 yX3_gap wsX3_gap) := goodIn_app (goodIn_of _ (by decide +kernel)) ggX3_weightOf_X3_gap
theorem dX3_weightOf_0 : decode cX3_weightOf 0 = .ok (.aload_n 0, 1) := by decide +kernel
theorem dX3_weightOf_1 : decode cX3_weightOf 1 = .ok (.iload_n 1, 1) := by decide +kernel
theorem dX3_weightOf_2 : decode cX3_weightOf 2 = .ok (.invokevirtual 57, 3) := by decide +kernel
theorem dX3_weightOf_5 : decode cX3_weightOf 5 = .ok (.ifCond .eq 11, 3) := by decide +kernel
theorem dX3_weightOf_8 : decode cX3_weightOf 8 = .ok (.aload_n 0, 1) := by decide +kernel
theorem dX3_weightOf_9 : decode cX3_weightOf 9 = .ok (.iload_n 1, 1) := by decide +kernel
theorem dX3_weightOf_10 : decode cX3_weightOf 10 = .ok (.invokevirtual 76, 3) := by decide +kernel
theorem dX3_weightOf_13 : decode cX3_weightOf 13 = .ok (.ifCond .eq 5, 3) := by decide +kernel
theorem dX3_weightOf_16 : decode cX3_weightOf 16 = .ok (.iconst 0, 1) := by decide +kernel
theorem dX3_weightOf_17 : decode cX3_weightOf 17 = .ok (.ireturn, 1) := by decide +kernel
theorem dX3_weightOf_18 : decode cX3_weightOf 18 = .ok (.aload_n 0, 1) := by decide +kernel
theorem dX3_weightOf_19 : decode cX3_weightOf 19 = .ok (.getfield 32, 3) := by decide +kernel
theorem dX3_weightOf_22 : decode cX3_weightOf 22 = .ok (.ifCond .eq 11, 3) := by decide +kernel
theorem dX3_weightOf_25 : decode cX3_weightOf 25 = .ok (.aload_n 0, 1) := by decide +kernel
theorem dX3_weightOf_26 : decode cX3_weightOf 26 = .ok (.getfield 35, 3) := by decide +kernel
theorem dX3_weightOf_29 : decode cX3_weightOf 29 = .ok (.iconst 1, 1) := by decide +kernel
theorem dX3_weightOf_30 : decode cX3_weightOf 30 = .ok (.if_icmp .ge 5, 3) := by decide +kernel
theorem dX3_weightOf_33 : decode cX3_weightOf 33 = .ok (.iconst 1, 1) := by decide +kernel
theorem dX3_weightOf_34 : decode cX3_weightOf 34 = .ok (.ireturn, 1) := by decide +kernel
theorem dX3_weightOf_35 : decode cX3_weightOf 35 = .ok (.iload_n 3, 1) := by decide +kernel
theorem dX3_weightOf_36 : decode cX3_weightOf 36 = .ok (.aload_n 0, 1) := by decide +kernel
theorem dX3_weightOf_37 : decode cX3_weightOf 37 = .ok (.getfield 35, 3) := by decide +kernel
theorem dX3_weightOf_40 : decode cX3_weightOf 40 = .ok (.idiv, 1) := by decide +kernel
theorem dX3_weightOf_41 : decode cX3_weightOf 41 = .ok (.istore 4, 2) := by decide +kernel
theorem dX3_weightOf_43 : decode cX3_weightOf 43 = .ok (.aload_n 0, 1) := by decide +kernel
theorem dX3_weightOf_44 : decode cX3_weightOf 44 = .ok (.iload_n 1, 1) := by decide +kernel
theorem dX3_weightOf_45 : decode cX3_weightOf 45 = .ok (.iload_n 2, 1) := by decide +kernel
theorem dX3_weightOf_46 : decode cX3_weightOf 46 = .ok (.invokevirtual 65, 3) := by decide +kernel
theorem dX3_weightOf_49 : decode cX3_weightOf 49 = .ok (.istore 5, 2) := by decide +kernel
theorem dX3_weightOf_51 : decode cX3_weightOf 51 = .ok (.iload 5, 2) := by decide +kernel
theorem dX3_weightOf_53 : decode cX3_weightOf 53 = .ok (.iload 4, 2) := by decide +kernel
theorem dX3_weightOf_55 : decode cX3_weightOf 55 = .ok (.if_icmp .le 5, 3) := by decide +kernel
theorem dX3_weightOf_58 : decode cX3_weightOf 58 = .ok (.iconst 0, 1) := by decide +kernel
theorem dX3_weightOf_59 : decode cX3_weightOf 59 = .ok (.ireturn, 1) := by decide +kernel
theorem dX3_weightOf_60 : decode cX3_weightOf 60 = .ok (.aload_n 0, 1) := by decide +kernel
theorem dX3_weightOf_61 : decode cX3_weightOf 61 = .ok (.getfield 32, 3) := by decide +kernel
theorem dX3_weightOf_64 : decode cX3_weightOf 64 = .ok (.iconst 1, 1) := by decide +kernel
theorem dX3_weightOf_65 : decode cX3_weightOf 65 = .ok (.if_icmp .ne 7, 3) := by decide +kernel
theorem dX3_weightOf_68 : decode cX3_weightOf 68 = .ok (.iconst 1, 1) := by decide +kernel
theorem dX3_weightOf_69 : decode cX3_weightOf 69 = .ok (.goto 10, 3) := by decide +kernel
theorem dX3_weightOf_72 : decode cX3_weightOf 72 = .ok (.iload 4, 2) := by decide +kernel
theorem dX3_weightOf_74 : decode cX3_weightOf 74 = .ok (.iload 5, 2) := by decide +kernel
theorem dX3_weightOf_76 : decode cX3_weightOf 76 = .ok (.isub, 1) := by decide +kernel
theorem dX3_weightOf_77 : decode cX3_weightOf 77 = .ok (.iconst 1, 1) := by decide +kernel
theorem dX3_weightOf_78 : decode cX3_weightOf 78 = .ok (.iadd, 1) := by decide +kernel
theorem dX3_weightOf_79 : decode cX3_weightOf 79 = .ok (.ireturn, 1) := by decide +kernel
set_option maxRecDepth 20000 in
theorem ggX3_aim_X3_delayOf : GoodIn wsX3_aim wsX3_delayOf := goodIn_r _ [9, 10, 11, 12, 13, 14, 15, 16, 8, 17, 18, 19, 20, 21, 22, 23, 24, 25, 26, 2, 27, 28, 29, 30, 42, 43, 44, 45, 46, 47, 48, 49, 50, 51, 52] (by decide +kernel) (by decide +kernel)
set_option maxRecDepth 20000 in
theorem gX3_aim_X3_delayOf : GoodIn wsX3_aim (wsV RX3 82 RX3 yX3_delayOf wsX3_delayOf) := goodIn_app (goodIn_of _ (by decide +kernel)) ggX3_aim_X3_delayOf
set_option maxRecDepth 20000 in
theorem ggX3_aim_X3_weightOf : GoodIn wsX3_aim wsX3_weightOf := goodIn_r _ [34, 35, 36, 23, 24, 25, 8, 26, 2, 37, 38, 39, 40, 41, 14, 15, 16, 17, 18, 19, 20, 21, 22, 42, 43, 44, 45, 46, 47, 48, 49, 50, 51, 52] (by decide +kernel) (by decide +kernel)
set_option maxRecDepth 20000 in
theorem gX3_aim_X3_weightOf : GoodIn wsX3_aim (wsV RX3 86 RX3 yX3_weightOf wsX3_weightOf) := goodIn_app (goodIn_of _ (by decide +kernel)) ggX3_aim_X3_weightOf
theorem dX3_aim_0 : decode cX3_aim 0 = .ok (.aload_n 0, 1) := by decide +kernel
theorem dX3_aim_1 : decode cX3_aim 1 = .ok (.iconst 0, 1) := by decide +kernel
theorem dX3_aim_2 : decode cX3_aim 2 = .ok (.putfield 79, 3) := by decide +kernel
theorem dX3_aim_5 : decode cX3_aim 5 = .ok (.iconst 0, 1) := by decide +kernel
theorem dX3_aim_6 : decode cX3_aim 6 = .ok (.istore_n 3, 1) := by decide +kernel
theorem dX3_aim_7 : decode cX3_aim 7 = .ok (.iload_n 3, 1) := by decide +kernel
theorem dX3_aim_8 : decode cX3_aim 8 = .ok (.aload_n 0, 1) := by decide +kernel
theorem dX3_aim_9 : decode cX3_aim 9 = .ok (.getfield 51, 3) := by decide +kernel
theorem dX3_aim_12 : decode cX3_aim 12 = .ok (.if_icmp .ge 56, 3) := by decide +kernel
theorem dX3_aim_15 : decode cX3_aim 15 = .ok (.iload_n 3, 1) := by decide +kernel
theorem dX3_aim_16 : decode cX3_aim 16 = .ok (.bipush 16, 2) := by decide +kernel
theorem dX3_aim_18 : decode cX3_aim 18 = .ok (.if_icmp .ge 50, 3) := by decide +kernel
theorem dX3_aim_21 : decode cX3_aim 21 = .ok (.aload_n 0, 1) := by decide +kernel
theorem dX3_aim_22 : decode cX3_aim 22 = .ok (.getfield 19, 3) := by decide +kernel
theorem dX3_aim_25 : decode cX3_aim 25 = .ok (.iload_n 3, 1) := by decide +kernel
theorem dX3_aim_26 : decode cX3_aim 26 = .ok (.aload_n 0, 1) := by decide +kernel
theorem dX3_aim_27 : decode cX3_aim 27 = .ok (.iload_n 3, 1) := by decide +kernel
theorem dX3_aim_28 : decode cX3_aim 28 = .ok (.iload_n 1, 1) := by decide +kernel
theorem dX3_aim_29 : decode cX3_aim 29 = .ok (.iload_n 2, 1) := by decide +kernel
theorem dX3_aim_30 : decode cX3_aim 30 = .ok (.invokevirtual 82, 3) := by decide +kernel
theorem dX3_aim_33 : decode cX3_aim 33 = .ok (.iastore, 1) := by decide +kernel
theorem dX3_aim_34 : decode cX3_aim 34 = .ok (.aload_n 0, 1) := by decide +kernel
theorem dX3_aim_35 : decode cX3_aim 35 = .ok (.getfield 22, 3) := by decide +kernel
theorem dX3_aim_38 : decode cX3_aim 38 = .ok (.iload_n 3, 1) := by decide +kernel
theorem dX3_aim_39 : decode cX3_aim 39 = .ok (.aload_n 0, 1) := by decide +kernel
theorem dX3_aim_40 : decode cX3_aim 40 = .ok (.iload_n 3, 1) := by decide +kernel
theorem dX3_aim_41 : decode cX3_aim 41 = .ok (.iload_n 1, 1) := by decide +kernel
theorem dX3_aim_42 : decode cX3_aim 42 = .ok (.iload_n 2, 1) := by decide +kernel
theorem dX3_aim_43 : decode cX3_aim 43 = .ok (.invokevirtual 86, 3) := by decide +kernel
theorem dX3_aim_46 : decode cX3_aim 46 = .ok (.iastore, 1) := by decide +kernel
theorem dX3_aim_47 : decode cX3_aim 47 = .ok (.aload_n 0, 1) := by decide +kernel
theorem dX3_aim_48 : decode cX3_aim 48 = .ok (.dup, 1) := by decide +kernel
theorem dX3_aim_49 : decode cX3_aim 49 = .ok (.getfield 79, 3) := by decide +kernel
theorem dX3_aim_52 : decode cX3_aim 52 = .ok (.aload_n 0, 1) := by decide +kernel
theorem dX3_aim_53 : decode cX3_aim 53 = .ok (.getfield 22, 3) := by decide +kernel
theorem dX3_aim_56 : decode cX3_aim 56 = .ok (.iload_n 3, 1) := by decide +kernel
theorem dX3_aim_57 : decode cX3_aim 57 = .ok (.iaload, 1) := by decide +kernel
theorem dX3_aim_58 : decode cX3_aim 58 = .ok (.iadd, 1) := by decide +kernel
theorem dX3_aim_59 : decode cX3_aim 59 = .ok (.putfield 79, 3) := by decide +kernel
theorem dX3_aim_62 : decode cX3_aim 62 = .ok (.iinc 3 1, 3) := by decide +kernel
theorem dX3_aim_65 : decode cX3_aim 65 = .ok (.goto (-58), 3) := by decide +kernel
theorem dX3_aim_68 : decode cX3_aim 68 = .ok (.return_, 1) := by decide +kernel
set_option maxRecDepth 20000 in
theorem ggX3_aimedDelay_X3_has : GoodIn wsX3_aimedDelay wsX3_has := goodIn_r _ [6, 7, 8, 9, 10, 11, 12, 13, 14, 15, 16, 17, 18] (by decide +kernel) (by decide +kernel)
set_option maxRecDepth 20000 in
theorem gX3_aimedDelay_X3_has : GoodIn wsX3_aimedDelay (wsV RX3 57 RX3 yX3_has wsX3_has) := goodIn_app (goodIn_of _ (by decide +kernel)) ggX3_aimedDelay_X3_has
theorem dX3_aimedDelay_0 : decode cX3_aimedDelay 0 = .ok (.aload_n 0, 1) := by decide +kernel
theorem dX3_aimedDelay_1 : decode cX3_aimedDelay 1 = .ok (.iload_n 1, 1) := by decide +kernel
theorem dX3_aimedDelay_2 : decode cX3_aimedDelay 2 = .ok (.invokevirtual 57, 3) := by decide +kernel
theorem dX3_aimedDelay_5 : decode cX3_aimedDelay 5 = .ok (.ifCond .eq 12, 3) := by decide +kernel
theorem dX3_aimedDelay_8 : decode cX3_aimedDelay 8 = .ok (.aload_n 0, 1) := by decide +kernel
theorem dX3_aimedDelay_9 : decode cX3_aimedDelay 9 = .ok (.getfield 19, 3) := by decide +kernel
theorem dX3_aimedDelay_12 : decode cX3_aimedDelay 12 = .ok (.iload_n 1, 1) := by decide +kernel
theorem dX3_aimedDelay_13 : decode cX3_aimedDelay 13 = .ok (.iaload, 1) := by decide +kernel
theorem dX3_aimedDelay_14 : decode cX3_aimedDelay 14 = .ok (.goto 4, 3) := by decide +kernel
theorem dX3_aimedDelay_17 : decode cX3_aimedDelay 17 = .ok (.iconst 0, 1) := by decide +kernel
theorem dX3_aimedDelay_18 : decode cX3_aimedDelay 18 = .ok (.ireturn, 1) := by decide +kernel
set_option maxRecDepth 20000 in
theorem ggX3_aimedWeight_X3_has : GoodIn wsX3_aimedWeight wsX3_has := goodIn_r _ [6, 7, 8, 9, 10, 11, 12, 13, 14, 15, 16, 17, 18] (by decide +kernel) (by decide +kernel)
set_option maxRecDepth 20000 in
theorem gX3_aimedWeight_X3_has : GoodIn wsX3_aimedWeight (wsV RX3 57 RX3 yX3_has wsX3_has) := goodIn_app (goodIn_of _ (by decide +kernel)) ggX3_aimedWeight_X3_has
theorem dX3_aimedWeight_0 : decode cX3_aimedWeight 0 = .ok (.aload_n 0, 1) := by decide +kernel
theorem dX3_aimedWeight_1 : decode cX3_aimedWeight 1 = .ok (.iload_n 1, 1) := by decide +kernel
theorem dX3_aimedWeight_2 : decode cX3_aimedWeight 2 = .ok (.invokevirtual 57, 3) := by decide +kernel
theorem dX3_aimedWeight_5 : decode cX3_aimedWeight 5 = .ok (.ifCond .eq 12, 3) := by decide +kernel
theorem dX3_aimedWeight_8 : decode cX3_aimedWeight 8 = .ok (.aload_n 0, 1) := by decide +kernel
theorem dX3_aimedWeight_9 : decode cX3_aimedWeight 9 = .ok (.getfield 22, 3) := by decide +kernel
theorem dX3_aimedWeight_12 : decode cX3_aimedWeight 12 = .ok (.iload_n 1, 1) := by decide +kernel
theorem dX3_aimedWeight_13 : decode cX3_aimedWeight 13 = .ok (.iaload, 1) := by decide +kernel
theorem dX3_aimedWeight_14 : decode cX3_aimedWeight 14 = .ok (.goto 4, 3) := by decide +kernel
theorem dX3_aimedWeight_17 : decode cX3_aimedWeight 17 = .ok (.iconst 0, 1) := by decide +kernel
theorem dX3_aimedWeight_18 : decode cX3_aimedWeight 18 = .ok (.ireturn, 1) := by decide +kernel
theorem dX4_init_0 : decode cX4_init 0 = .ok (.aload_n 0, 1) := by decide +kernel
theorem dX4_init_1 : decode cX4_init 1 = .ok (.invokespecial 3, 3) := by decide +kernel
theorem dX4_init_4 : decode cX4_init 4 = .ok (.aload_n 0, 1) := by decide +kernel
theorem dX4_init_5 : decode cX4_init 5 = .ok (.sipush 1024, 3) := by decide +kernel
theorem dX4_init_8 : decode cX4_init 8 = .ok (.newarray .int, 2) := by decide +kernel
theorem dX4_init_10 : decode cX4_init 10 = .ok (.putfield 9, 3) := by decide +kernel
theorem dX4_init_13 : decode cX4_init 13 = .ok (.aload_n 0, 1) := by decide +kernel
theorem dX4_init_14 : decode cX4_init 14 = .ok (.iconst 4, 1) := by decide +kernel
theorem dX4_init_15 : decode cX4_init 15 = .ok (.newarray .int, 2) := by decide +kernel
theorem dX4_init_17 : decode cX4_init 17 = .ok (.putfield 13, 3) := by decide +kernel
theorem dX4_init_20 : decode cX4_init 20 = .ok (.aload_n 0, 1) := by decide +kernel
theorem dX4_init_21 : decode cX4_init 21 = .ok (.iconst 4, 1) := by decide +kernel
theorem dX4_init_22 : decode cX4_init 22 = .ok (.newarray .int, 2) := by decide +kernel
theorem dX4_init_24 : decode cX4_init 24 = .ok (.putfield 16, 3) := by decide +kernel
theorem dX4_init_27 : decode cX4_init 27 = .ok (.return_, 1) := by decide +kernel
theorem dX4_forget_0 : decode cX4_forget 0 = .ok (.aload_n 0, 1) := by decide +kernel
theorem dX4_forget_1 : decode cX4_forget 1 = .ok (.iconst 0, 1) := by decide +kernel
theorem dX4_forget_2 : decode cX4_forget 2 = .ok (.putfield 19, 3) := by decide +kernel
theorem dX4_forget_5 : decode cX4_forget 5 = .ok (.aload_n 0, 1) := by decide +kernel
theorem dX4_forget_6 : decode cX4_forget 6 = .ok (.iconst 0, 1) := by decide +kernel
theorem dX4_forget_7 : decode cX4_forget 7 = .ok (.putfield 23, 3) := by decide +kernel
theorem dX4_forget_10 : decode cX4_forget 10 = .ok (.return_, 1) := by decide +kernel
theorem dX4_has_0 : decode cX4_has 0 = .ok (.iload_n 1, 1) := by decide +kernel
theorem dX4_has_1 : decode cX4_has 1 = .ok (.ifCond .lt 15, 3) := by decide +kernel
theorem dX4_has_4 : decode cX4_has 4 = .ok (.iload_n 1, 1) := by decide +kernel
theorem dX4_has_5 : decode cX4_has 5 = .ok (.aload_n 0, 1) := by decide +kernel
theorem dX4_has_6 : decode cX4_has 6 = .ok (.getfield 23, 3) := by decide +kernel
theorem dX4_has_9 : decode cX4_has 9 = .ok (.if_icmp .ge 7, 3) := by decide +kernel
theorem dX4_has_12 : decode cX4_has 12 = .ok (.iconst 1, 1) := by decide +kernel
theorem dX4_has_13 : decode cX4_has 13 = .ok (.goto 4, 3) := by decide +kernel
theorem dX4_has_16 : decode cX4_has 16 = .ok (.iconst 0, 1) := by decide +kernel
theorem dX4_has_17 : decode cX4_has 17 = .ok (.ireturn, 1) := by decide +kernel
set_option maxRecDepth 20000 in
theorem ggX4_begin_X4_slotOf : GoodIn wsX4_begin wsX4_slotOf := goodIn_r _ [9, 2, 10, 11, 12, 13, 14, 15, 16, 17, 18] (by decide +kernel) (by decide +kernel)
set_option maxRecDepth 20000 in
theorem gX4_begin_X4_slotOf : GoodIn wsX4_begin (wsV RX4 26 RX4 yX4_slotOf wsX4_slotOf) := goodIn_app (goodIn_of _ (by decide +kernel)) ggX4_begin_X4_slotOf
theorem dX4_begin_0 : decode cX4_begin 0 = .ok (.aload_n 0, 1) := by decide +kernel
theorem dX4_begin_1 : decode cX4_begin 1 = .ok (.getfield 23, 3) := by decide +kernel
theorem dX4_begin_4 : decode cX4_begin 4 = .ok (.iconst 4, 1) := by decide +kernel
theorem dX4_begin_5 : decode cX4_begin 5 = .ok (.if_icmp .lt 18, 3) := by decide +kernel
theorem dX4_begin_8 : decode cX4_begin 8 = .ok (.aload_n 0, 1) := by decide +kernel
theorem dX4_begin_9 : decode cX4_begin 9 = .ok (.aload_n 0, 1) := by decide +kernel
theorem dX4_begin_10 : decode cX4_begin 10 = .ok (.getfield 19, 3) := by decide +kernel
theorem dX4_begin_13 : decode cX4_begin 13 = .ok (.iconst 1, 1) := by decide +kernel
theorem dX4_begin_14 : decode cX4_begin 14 = .ok (.iadd, 1) := by decide +kernel
theorem dX4_begin_15 : decode cX4_begin 15 = .ok (.iconst 4, 1) := by decide +kernel
theorem dX4_begin_16 : decode cX4_begin 16 = .ok (.irem, 1) := by decide +kernel
theorem dX4_begin_17 : decode cX4_begin 17 = .ok (.putfield 19, 3) := by decide +kernel
theorem dX4_begin_20 : decode cX4_begin 20 = .ok (.goto 13, 3) := by decide +kernel
theorem dX4_begin_23 : decode cX4_begin 23 = .ok (.aload_n 0, 1) := by decide +kernel
theorem dX4_begin_24 : decode cX4_begin 24 = .ok (.dup, 1) := by decide +kernel
theorem dX4_begin_25 : decode cX4_begin 25 = .ok (.getfield 23, 3) := by decide +kernel
theorem dX4_begin_28 : decode cX4_begin 28 = .ok (.iconst 1, 1) := by decide +kernel
theorem dX4_begin_29 : decode cX4_begin 29 = .ok (.iadd, 1) := by decide +kernel
theorem dX4_begin_30 : decode cX4_begin 30 = .ok (.putfield 23, 3) := by decide +kernel
theorem dX4_begin_33 : decode cX4_begin 33 = .ok (.aload_n 0, 1) := by decide +kernel
theorem dX4_begin_34 : decode cX4_begin 34 = .ok (.aload_n 0, 1) := by decide +kernel
theorem dX4_begin_35 : decode cX4_begin 35 = .ok (.getfield 23, 3) := by decide +kernel
theorem dX4_begin_38 : decode cX4_begin 38 = .ok (.iconst 1, 1) := by decide +kernel
theorem dX4_begin_39 : decode cX4_begin 39 = .ok (.isub, 1) := by decide +kernel
theorem dX4_begin_40 : decode cX4_begin 40 = .ok (.invokevirtual 26, 3) := by decide +kernel
theorem dX4_begin_43 : decode cX4_begin 43 = .ok (.istore_n 3, 1) := by decide +kernel
theorem dX4_begin_44 : decode cX4_begin 44 = .ok (.aload_n 0, 1) := by decide +kernel
theorem dX4_begin_45 : decode cX4_begin 45 = .ok (.getfield 13, 3) := by decide +kernel
theorem dX4_begin_48 : decode cX4_begin 48 = .ok (.iload_n 3, 1) := by decide +kernel
theorem dX4_begin_49 : decode cX4_begin 49 = .ok (.iload_n 1, 1) := by decide +kernel
theorem dX4_begin_50 : decode cX4_begin 50 = .ok (.iastore, 1) := by decide +kernel
theorem dX4_begin_51 : decode cX4_begin 51 = .ok (.aload_n 0, 1) := by decide +kernel
theorem dX4_begin_52 : decode cX4_begin 52 = .ok (.getfield 16, 3) := by decide +kernel
theorem dX4_begin_55 : decode cX4_begin 55 = .ok (.iload_n 3, 1) := by decide +kernel
theorem dX4_begin_56 : decode cX4_begin 56 = .ok (.iload_n 2, 1) := by decide +kernel
theorem dX4_begin_57 : decode cX4_begin 57 = .ok (.iastore, 1) := by decide +kernel
theorem dX4_begin_58 : decode cX4_begin 58 = .ok (.iload_n 3, 1) := by decide +kernel
theorem dX4_begin_59 : decode cX4_begin 59 = .ok (.ireturn, 1) := by decide +kernel
set_option maxRecDepth 20000 in
theorem ggX4_slotOf_J9_floorMod_7cf53 : GoodIn wsX4_slotOf wsJ9_floorMod_7cf53 := goodIn_r _ [5] (by decide +kernel) (by decide +kernel)
set_option maxRecDepth 20000 in
theorem gX4_slotOf_J9_floorMod_7cf53 : GoodIn wsX4_slotOf (va_wsS RX4 30 yJ9_floorMod_7cf53 wsJ9_floorMod_7cf53) := goodIn_app (goodIn_of _ (by decide +kernel)) ggX4_slotOf_J9_floorMod_7cf53
theorem dX4_slotOf_0 : decode cX4_slotOf 0 = .ok (.aload_n 0, 1) := by decide +kernel
theorem dX4_slotOf_1 : decode cX4_slotOf 1 = .ok (.getfield 19, 3) := by decide +kernel
theorem dX4_slotOf_4 : decode cX4_slotOf 4 = .ok (.iload_n 1, 1) := by decide +kernel
theorem dX4_slotOf_5 : decode cX4_slotOf 5 = .ok (.iadd, 1) := by decide +kernel
theorem dX4_slotOf_6 : decode cX4_slotOf 6 = .ok (.iconst 4, 1) := by decide +kernel
theorem dX4_slotOf_7 : decode cX4_slotOf 7 = .ok (.invokestatic 30, 3) := by decide +kernel
theorem dX4_slotOf_10 : decode cX4_slotOf 10 = .ok (.ireturn, 1) := by decide +kernel
theorem dX4_isSlot_0 : decode cX4_isSlot 0 = .ok (.iload_n 1, 1) := by decide +kernel
theorem dX4_isSlot_1 : decode cX4_isSlot 1 = .ok (.ifCond .lt 12, 3) := by decide +kernel
theorem dX4_isSlot_4 : decode cX4_isSlot 4 = .ok (.iload_n 1, 1) := by decide +kernel
theorem dX4_isSlot_5 : decode cX4_isSlot 5 = .ok (.iconst 4, 1) := by decide +kernel
theorem dX4_isSlot_6 : decode cX4_isSlot 6 = .ok (.if_icmp .ge 7, 3) := by decide +kernel
theorem dX4_isSlot_9 : decode cX4_isSlot 9 = .ok (.iconst 1, 1) := by decide +kernel
theorem dX4_isSlot_10 : decode cX4_isSlot 10 = .ok (.goto 4, 3) := by decide +kernel
theorem dX4_isSlot_13 : decode cX4_isSlot 13 = .ok (.iconst 0, 1) := by decide +kernel
theorem dX4_isSlot_14 : decode cX4_isSlot 14 = .ok (.ireturn, 1) := by decide +kernel
set_option maxRecDepth 20000 in
theorem ggX4_widthOf_X4_isSlot : GoodIn wsX4_widthOf wsX4_isSlot := goodIn_r _ [6] (by decide +kernel) (by decide +kernel)
set_option maxRecDepth 20000 in
theorem gX4_widthOf_X4_isSlot : GoodIn wsX4_widthOf (wsV RX4 36 RX4 yX4_isSlot wsX4_isSlot) := goodIn_app (goodIn_of _ (by decide +kernel)) ggX4_widthOf_X4_isSlot
theorem dX4_widthOf_0 : decode cX4_widthOf 0 = .ok (.aload_n 0, 1) := by decide +kernel
theorem dX4_widthOf_1 : decode cX4_widthOf 1 = .ok (.iload_n 1, 1) := by decide +kernel
theorem dX4_widthOf_2 : decode cX4_widthOf 2 = .ok (.invokevirtual 36, 3) := by decide +kernel
theorem dX4_widthOf_5 : decode cX4_widthOf 5 = .ok (.ifCond .eq 12, 3) := by decide +kernel
theorem dX4_widthOf_8 : decode cX4_widthOf 8 = .ok (.aload_n 0, 1) := by decide +kernel
theorem dX4_widthOf_9 : decode cX4_widthOf 9 = .ok (.getfield 13, 3) := by decide +kernel
theorem dX4_widthOf_12 : decode cX4_widthOf 12 = .ok (.iload_n 1, 1) := by decide +kernel
theorem dX4_widthOf_13 : decode cX4_widthOf 13 = .ok (.iaload, 1) := by decide +kernel
theorem dX4_widthOf_14 : decode cX4_widthOf 14 = .ok (.goto 4, 3) := by decide +kernel
theorem dX4_widthOf_17 : decode cX4_widthOf 17 = .ok (.iconst 0, 1) := by decide +kernel
theorem dX4_widthOf_18 : decode cX4_widthOf 18 = .ok (.ireturn, 1) := by decide +kernel
set_option maxRecDepth 20000 in
theorem ggX4_heightOf_X4_isSlot : GoodIn wsX4_heightOf wsX4_isSlot := goodIn_r _ [6] (by decide +kernel) (by decide +kernel)
set_option maxRecDepth 20000 in
theorem gX4_heightOf_X4_isSlot : GoodIn wsX4_heightOf (wsV RX4 36 RX4 yX4_isSlot wsX4_isSlot) := goodIn_app (goodIn_of _ (by decide +kernel)) ggX4_heightOf_X4_isSlot
theorem dX4_heightOf_0 : decode cX4_heightOf 0 = .ok (.aload_n 0, 1) := by decide +kernel
theorem dX4_heightOf_1 : decode cX4_heightOf 1 = .ok (.iload_n 1, 1) := by decide +kernel
theorem dX4_heightOf_2 : decode cX4_heightOf 2 = .ok (.invokevirtual 36, 3) := by decide +kernel
theorem dX4_heightOf_5 : decode cX4_heightOf 5 = .ok (.ifCond .eq 12, 3) := by decide +kernel
theorem dX4_heightOf_8 : decode cX4_heightOf 8 = .ok (.aload_n 0, 1) := by decide +kernel
theorem dX4_heightOf_9 : decode cX4_heightOf 9 = .ok (.getfield 16, 3) := by decide +kernel
theorem dX4_heightOf_12 : decode cX4_heightOf 12 = .ok (.iload_n 1, 1) := by decide +kernel
theorem dX4_heightOf_13 : decode cX4_heightOf 13 = .ok (.iaload, 1) := by decide +kernel
theorem dX4_heightOf_14 : decode cX4_heightOf 14 = .ok (.goto 4, 3) := by decide +kernel
theorem dX4_heightOf_17 : decode cX4_heightOf 17 = .ok (.iconst 0, 1) := by decide +kernel
theorem dX4_heightOf_18 : decode cX4_heightOf 18 = .ok (.ireturn, 1) := by decide +kernel
set_option maxRecDepth 20000 in
theorem ggX4_get_X4_isSlot : GoodIn wsX4_get wsX4_isSlot := goodIn_r _ [6] (by decide +kernel) (by decide +kernel)
set_option maxRecDepth 20000 in
theorem gX4_get_X4_isSlot : GoodIn wsX4_get (wsV RX4 36 RX4 yX4_isSlot wsX4_isSlot) := goodIn_app (goodIn_of _ (by decide +kernel)) ggX4_get_X4_isSlot
theorem dX4_get_0 : decode cX4_get 0 = .ok (.aload_n 0, 1) := by decide +kernel
theorem dX4_get_1 : decode cX4_get 1 = .ok (.iload_n 1, 1) := by decide +kernel
theorem dX4_get_2 : decode cX4_get 2 = .ok (.invokevirtual 36, 3) := by decide +kernel
theorem dX4_get_5 : decode cX4_get 5 = .ok (.ifCond .eq 29, 3) := by decide +kernel
theorem dX4_get_8 : decode cX4_get 8 = .ok (.iload_n 2, 1) := by decide +kernel
theorem dX4_get_9 : decode cX4_get 9 = .ok (.ifCond .lt 25, 3) := by decide +kernel
theorem dX4_get_12 : decode cX4_get 12 = .ok (.iload_n 2, 1) := by decide +kernel
theorem dX4_get_13 : decode cX4_get 13 = .ok (.sipush 256, 3) := by decide +kernel
theorem dX4_get_16 : decode cX4_get 16 = .ok (.if_icmp .ge 18, 3) := by decide +kernel
theorem dX4_get_19 : decode cX4_get 19 = .ok (.aload_n 0, 1) := by decide +kernel
theorem dX4_get_20 : decode cX4_get 20 = .ok (.getfield 9, 3) := by decide +kernel
theorem dX4_get_23 : decode cX4_get 23 = .ok (.iload_n 1, 1) := by decide +kernel
theorem dX4_get_24 : decode cX4_get 24 = .ok (.sipush 256, 3) := by decide +kernel
theorem dX4_get_27 : decode cX4_get 27 = .ok (.imul, 1) := by decide +kernel
theorem dX4_get_28 : decode cX4_get 28 = .ok (.iload_n 2, 1) := by decide +kernel
theorem dX4_get_29 : decode cX4_get 29 = .ok (.iadd, 1) := by decide +kernel
theorem dX4_get_30 : decode cX4_get 30 = .ok (.iaload, 1) := by decide +kernel
theorem dX4_get_31 : decode cX4_get 31 = .ok (.goto 4, 3) := by decide +kernel
theorem dX4_get_34 : decode cX4_get 34 = .ok (.iconst 0, 1) := by decide +kernel
theorem dX4_get_35 : decode cX4_get 35 = .ok (.ireturn, 1) := by decide +kernel
set_option maxRecDepth 20000 in
theorem ggX4_set_X4_isSlot : GoodIn wsX4_set wsX4_isSlot := goodIn_r _ [6] (by decide +kernel) (by decide +kernel)
set_option maxRecDepth 20000 in
theorem gX4_set_X4_isSlot : GoodIn wsX4_set (wsV RX4 36 RX4 yX4_isSlot wsX4_isSlot) := goodIn_app (goodIn_of _ (by decide +kernel)) ggX4_set_X4_isSlot
theorem dX4_set_0 : decode cX4_set 0 = .ok (.aload_n 0, 1) := by decide +kernel
theorem dX4_set_1 : decode cX4_set 1 = .ok (.iload_n 1, 1) := by decide +kernel
theorem dX4_set_2 : decode cX4_set 2 = .ok (.invokevirtual 36, 3) := by decide +kernel
theorem dX4_set_5 : decode cX4_set 5 = .ok (.ifCond .eq 27, 3) := by decide +kernel
theorem dX4_set_8 : decode cX4_set 8 = .ok (.iload_n 2, 1) := by decide +kernel
theorem dX4_set_9 : decode cX4_set 9 = .ok (.ifCond .lt 23, 3) := by decide +kernel
theorem dX4_set_12 : decode cX4_set 12 = .ok (.iload_n 2, 1) := by decide +kernel
theorem dX4_set_13 : decode cX4_set 13 = .ok (.sipush 256, 3) := by decide +kernel
theorem dX4_set_16 : decode cX4_set 16 = .ok (.if_icmp .ge 16, 3) := by decide +kernel
theorem dX4_set_19 : decode cX4_set 19 = .ok (.aload_n 0, 1) := by decide +kernel
theorem dX4_set_20 : decode cX4_set 20 = .ok (.getfield 9, 3) := by decide +kernel
theorem dX4_set_23 : decode cX4_set 23 = .ok (.iload_n 1, 1) := by decide +kernel
theorem dX4_set_24 : decode cX4_set 24 = .ok (.sipush 256, 3) := by decide +kernel
theorem dX4_set_27 : decode cX4_set 27 = .ok (.imul, 1) := by decide +kernel
theorem dX4_set_28 : decode cX4_set 28 = .ok (.iload_n 2, 1) := by decide +kernel
theorem dX4_set_29 : decode cX4_set 29 = .ok (.iadd, 1) := by decide +kernel
theorem dX4_set_30 : decode cX4_set 30 = .ok (.iload_n 3, 1) := by decide +kernel
theorem dX4_set_31 : decode cX4_set 31 = .ok (.iastore, 1) := by decide +kernel
theorem dX4_set_32 : decode cX4_set 32 = .ok (.return_, 1) := by decide +kernel
set_option maxRecDepth 20000 in
theorem ggX4_firstGreatest_X4_widthOf : GoodIn wsX4_firstGreatest wsX4_widthOf := goodIn_r _ [5, 6, 7, 8, 9, 4, 10, 21, 22, 23, 24, 25] (by decide +kernel) (by decide +kernel)
set_option maxRecDepth 20000 in
theorem gX4_firstGreatest_X4_widthOf : GoodIn wsX4_firstGreatest (wsV RX4 40 RX4 yX4_widthOf wsX4_widthOf) := goodIn_app (goodIn_of _ (by decide +kernel)) ggX4_firstGreatest_X4_widthOf
set_option maxRecDepth 20000 in
theorem ggX4_firstGreatest_X4_heightOf : GoodIn wsX4_firstGreatest wsX4_heightOf := goodIn_r _ [14, 15, 7, 8, 9, 4, 10, 21, 22, 23, 24, 25] (by decide +kernel) (by decide +kernel)
set_option maxRecDepth 20000 in
theorem gX4_firstGreatest_X4_heightOf : GoodIn wsX4_firstGreatest (wsV RX4 43 RX4 yX4_heightOf wsX4_heightOf) := goodIn_app (goodIn_of _ (by decide +kernel)) ggX4_firstGreatest_X4_heightOf
set_option maxRecDepth 20000 in
theorem ggX4_firstGreatest_X4_get : GoodIn wsX4_firstGreatest wsX4_get := goodIn_r _ [19, 20, 7, 8, 9, 4, 10, 21, 22, 23, 24, 25] (by decide +kernel) (by decide +kernel)
set_option maxRecDepth 20000 in
theorem gX4_firstGreatest_X4_get : GoodIn wsX4_firstGreatest (wsV RX4 46 RX4 yX4_get wsX4_get) := goodIn_app (goodIn_of _ (by decide +kernel)) ggX4_firstGreatest_X4_get
theorem dX4_firstGreatest_0 : decode cX4_firstGreatest 0 = .ok (.iconst 0, 1) := by decide +kernel
theorem dX4_firstGreatest_1 : decode cX4_firstGreatest 1 = .ok (.istore_n 2, 1) := by decide +kernel
theorem dX4_firstGreatest_2 : decode cX4_firstGreatest 2 = .ok (.iconst 1, 1) := by decide +kernel
theorem dX4_firstGreatest_3 : decode cX4_firstGreatest 3 = .ok (.istore_n 3, 1) := by decide +kernel
theorem dX4_firstGreatest_4 : decode cX4_firstGreatest 4 = .ok (.iload_n 3, 1) := by decide +kernel
theorem dX4_firstGreatest_5 : decode cX4_firstGreatest 5 = .ok (.aload_n 0, 1) := by decide +kernel
theorem dX4_firstGreatest_6 : decode cX4_firstGreatest 6 = .ok (.iload_n 1, 1) := by decide +kernel
theorem dX4_firstGreatest_7 : decode cX4_firstGreatest 7 = .ok (.invokevirtual 40, 3) := by decide +kernel
theorem dX4_firstGreatest_10 : decode cX4_firstGreatest 10 = .ok (.aload_n 0, 1) := by decide +kernel
theorem dX4_firstGreatest_11 : decode cX4_firstGreatest 11 = .ok (.iload_n 1, 1) := by decide +kernel
theorem dX4_firstGreatest_12 : decode cX4_firstGreatest 12 = .ok (.invokevirtual 43, 3) := by decide +kernel
theorem dX4_firstGreatest_15 : decode cX4_firstGreatest 15 = .ok (.imul, 1) := by decide +kernel
theorem dX4_firstGreatest_16 : decode cX4_firstGreatest 16 = .ok (.if_icmp .ge 26, 3) := by decide +kernel
theorem dX4_firstGreatest_19 : decode cX4_firstGreatest 19 = .ok (.aload_n 0, 1) := by decide +kernel
theorem dX4_firstGreatest_20 : decode cX4_firstGreatest 20 = .ok (.iload_n 1, 1) := by decide +kernel
theorem dX4_firstGreatest_21 : decode cX4_firstGreatest 21 = .ok (.iload_n 3, 1) := by decide +kernel
theorem dX4_firstGreatest_22 : decode cX4_firstGreatest 22 = .ok (.invokevirtual 46, 3) := by decide +kernel
theorem dX4_firstGreatest_25 : decode cX4_firstGreatest 25 = .ok (.aload_n 0, 1) := by decide +kernel
theorem dX4_firstGreatest_26 : decode cX4_firstGreatest 26 = .ok (.iload_n 1, 1) := by decide +kernel
theorem dX4_firstGreatest_27 : decode cX4_firstGreatest 27 = .ok (.iload_n 2, 1) := by decide +kernel
theorem dX4_firstGreatest_28 : decode cX4_firstGreatest 28 = .ok (.invokevirtual 46, 3) := by decide +kernel
theorem dX4_firstGreatest_31 : decode cX4_firstGreatest 31 = .ok (.if_icmp .le 5, 3) := by decide +kernel
theorem dX4_firstGreatest_34 : decode cX4_firstGreatest 34 = .ok (.iload_n 3, 1) := by decide +kernel
theorem dX4_firstGreatest_35 : decode cX4_firstGreatest 35 = .ok (.istore_n 2, 1) := by decide +kernel
theorem dX4_firstGreatest_36 : decode cX4_firstGreatest 36 = .ok (.iinc 3 1, 3) := by decide +kernel
theorem dX4_firstGreatest_39 : decode cX4_firstGreatest 39 = .ok (.goto (-35), 3) := by decide +kernel
theorem dX4_firstGreatest_42 : decode cX4_firstGreatest 42 = .ok (.iload_n 2, 1) := by decide +kernel
theorem dX4_firstGreatest_43 : decode cX4_firstGreatest 43 = .ok (.ireturn, 1) := by decide +kernel
set_option maxRecDepth 20000 in
theorem ggX4_digestOn_X4_slotOf : GoodIn wsX4_digestOn wsX4_slotOf := goodIn_r _ [7, 8, 9, 10, 11, 12, 32, 33, 34, 35, 36] (by decide +kernel) (by decide +kernel)
set_option maxRecDepth 20000 in
theorem gX4_digestOn_X4_slotOf : GoodIn wsX4_digestOn (wsV RX4 26 RX4 yX4_slotOf wsX4_slotOf) := goodIn_app (goodIn_of _ (by decide +kernel)) ggX4_digestOn_X4_slotOf
set_option maxRecDepth 20000 in
theorem ggX4_digestOn_X4_widthOf : GoodIn wsX4_digestOn wsX4_widthOf := goodIn_r _ [16, 17, 18, 19, 20, 6, 21, 32, 33, 34, 35, 36] (by decide +kernel) (by decide +kernel)
set_option maxRecDepth 20000 in
theorem gX4_digestOn_X4_widthOf : GoodIn wsX4_digestOn (wsV RX4 40 RX4 yX4_widthOf wsX4_widthOf) := goodIn_app (goodIn_of _ (by decide +kernel)) ggX4_digestOn_X4_widthOf
set_option maxRecDepth 20000 in
theorem ggX4_digestOn_X4_heightOf : GoodIn wsX4_digestOn wsX4_heightOf := goodIn_r _ [25, 26, 18, 19, 20, 6, 21, 32, 33, 34, 35, 36] (by decide +kernel) (by decide +kernel)
set_option maxRecDepth 20000 in
theorem gX4_digestOn_X4_heightOf : GoodIn wsX4_digestOn (wsV RX4 43 RX4 yX4_heightOf wsX4_heightOf) := goodIn_app (goodIn_of _ (by decide +kernel)) ggX4_digestOn_X4_heightOf
set_option maxRecDepth 20000 in
theorem ggX4_digestOn_X4_get : GoodIn wsX4_digestOn wsX4_get := goodIn_r _ [30, 31, 18, 19, 20, 6, 21, 32, 33, 34, 35, 36] (by decide +kernel) (by decide +kernel)
set_option maxRecDepth 20000 in
theorem gX4_digestOn_X4_get : GoodIn wsX4_digestOn (wsV RX4 46 RX4 yX4_get wsX4_get) := goodIn_app (goodIn_of _ (by decide +kernel)) ggX4_digestOn_X4_get
theorem dX4_digestOn_0 : decode cX4_digestOn 0 = .ok (.lload_n 1, 1) := by decide +kernel
theorem dX4_digestOn_1 : decode cX4_digestOn 1 = .ok (.lstore_n 3, 1) := by decide +kernel
theorem dX4_digestOn_2 : decode cX4_digestOn 2 = .ok (.iconst 0, 1) := by decide +kernel
theorem dX4_digestOn_3 : decode cX4_digestOn 3 = .ok (.istore 5, 2) := by decide +kernel
theorem dX4_digestOn_5 : decode cX4_digestOn 5 = .ok (.iload 5, 2) := by decide +kernel
theorem dX4_digestOn_7 : decode cX4_digestOn 7 = .ok (.aload_n 0, 1) := by decide +kernel
theorem dX4_digestOn_8 : decode cX4_digestOn 8 = .ok (.getfield 23, 3) := by decide +kernel
theorem dX4_digestOn_11 : decode cX4_digestOn 11 = .ok (.if_icmp .ge 60, 3) := by decide +kernel
theorem dX4_digestOn_14 : decode cX4_digestOn 14 = .ok (.aload_n 0, 1) := by decide +kernel
theorem dX4_digestOn_15 : decode cX4_digestOn 15 = .ok (.iload 5, 2) := by decide +kernel
theorem dX4_digestOn_17 : decode cX4_digestOn 17 = .ok (.invokevirtual 26, 3) := by decide +kernel
theorem dX4_digestOn_20 : decode cX4_digestOn 20 = .ok (.istore 6, 2) := by decide +kernel
theorem dX4_digestOn_22 : decode cX4_digestOn 22 = .ok (.iconst 0, 1) := by decide +kernel
theorem dX4_digestOn_23 : decode cX4_digestOn 23 = .ok (.istore 7, 2) := by decide +kernel
theorem dX4_digestOn_25 : decode cX4_digestOn 25 = .ok (.iload 7, 2) := by decide +kernel
theorem dX4_digestOn_27 : decode cX4_digestOn 27 = .ok (.aload_n 0, 1) := by decide +kernel
theorem dX4_digestOn_28 : decode cX4_digestOn 28 = .ok (.iload 6, 2) := by decide +kernel
theorem dX4_digestOn_30 : decode cX4_digestOn 30 = .ok (.invokevirtual 40, 3) := by decide +kernel
theorem dX4_digestOn_33 : decode cX4_digestOn 33 = .ok (.aload_n 0, 1) := by decide +kernel
theorem dX4_digestOn_34 : decode cX4_digestOn 34 = .ok (.iload 6, 2) := by decide +kernel
theorem dX4_digestOn_36 : decode cX4_digestOn 36 = .ok (.invokevirtual 43, 3) := by decide +kernel
theorem dX4_digestOn_39 : decode cX4_digestOn 39 = .ok (.imul, 1) := by decide +kernel
theorem dX4_digestOn_40 : decode cX4_digestOn 40 = .ok (.if_icmp .ge 25, 3) := by decide +kernel
theorem dX4_digestOn_43 : decode cX4_digestOn 43 = .ok (.ldc2_w 49, 3) := by decide +kernel
theorem dX4_digestOn_46 : decode cX4_digestOn 46 = .ok (.lload_n 3, 1) := by decide +kernel
theorem dX4_digestOn_47 : decode cX4_digestOn 47 = .ok (.lmul, 1) := by decide +kernel
theorem dX4_digestOn_48 : decode cX4_digestOn 48 = .ok (.aload_n 0, 1) := by decide +kernel
theorem dX4_digestOn_49 : decode cX4_digestOn 49 = .ok (.iload 6, 2) := by decide +kernel
theorem dX4_digestOn_51 : decode cX4_digestOn 51 = .ok (.iload 7, 2) := by decide +kernel
theorem dX4_digestOn_53 : decode cX4_digestOn 53 = .ok (.invokevirtual 46, 3) := by decide +kernel
theorem dX4_digestOn_56 : decode cX4_digestOn 56 = .ok (.i2l, 1) := by decide +kernel
theorem dX4_digestOn_57 : decode cX4_digestOn 57 = .ok (.ladd, 1) := by decide +kernel
theorem dX4_digestOn_58 : decode cX4_digestOn 58 = .ok (.lstore_n 3, 1) := by decide +kernel
theorem dX4_digestOn_59 : decode cX4_digestOn 59 = .ok (.iinc 7 1, 3) := by decide +kernel
theorem dX4_digestOn_62 : decode cX4_digestOn 62 = .ok (.goto (-37), 3) := by decide +kernel
theorem dX4_digestOn_65 : decode cX4_digestOn 65 = .ok (.iinc 5 1, 3) := by decide +kernel
theorem dX4_digestOn_68 : decode cX4_digestOn 68 = .ok (.goto (-63), 3) := by decide +kernel
theorem dX4_digestOn_71 : decode cX4_digestOn 71 = .ok (.lload_n 3, 1) := by decide +kernel
theorem dX4_digestOn_72 : decode cX4_digestOn 72 = .ok (.lreturn, 1) := by decide +kernel
theorem dX5_init_0 : decode cX5_init 0 = .ok (.aload_n 0, 1) := by decide +kernel
theorem dX5_init_1 : decode cX5_init 1 = .ok (.invokespecial 3, 3) := by decide +kernel
theorem dX5_init_4 : decode cX5_init 4 = .ok (.aload_n 0, 1) := by decide +kernel
theorem dX5_init_5 : decode cX5_init 5 = .ok (.bipush 8, 2) := by decide +kernel
theorem dX5_init_7 : decode cX5_init 7 = .ok (.newarray .int, 2) := by decide +kernel
theorem dX5_init_9 : decode cX5_init 9 = .ok (.putfield 11, 3) := by decide +kernel
theorem dX5_init_12 : decode cX5_init 12 = .ok (.aload_n 0, 1) := by decide +kernel
theorem dX5_init_13 : decode cX5_init 13 = .ok (.bipush 8, 2) := by decide +kernel
theorem dX5_init_15 : decode cX5_init 15 = .ok (.newarray .int, 2) := by decide +kernel
theorem dX5_init_17 : decode cX5_init 17 = .ok (.putfield 15, 3) := by decide +kernel
theorem dX5_init_20 : decode cX5_init 20 = .ok (.aload_n 0, 1) := by decide +kernel
theorem dX5_init_21 : decode cX5_init 21 = .ok (.bipush 8, 2) := by decide +kernel
theorem dX5_init_23 : decode cX5_init 23 = .ok (.newarray .int, 2) := by decide +kernel
theorem dX5_init_25 : decode cX5_init 25 = .ok (.putfield 18, 3) := by decide +kernel
theorem dX5_init_28 : decode cX5_init 28 = .ok (.aload_n 0, 1) := by decide +kernel
theorem dX5_init_29 : decode cX5_init 29 = .ok (.bipush 8, 2) := by decide +kernel
theorem dX5_init_31 : decode cX5_init 31 = .ok (.newarray .int, 2) := by decide +kernel
theorem dX5_init_33 : decode cX5_init 33 = .ok (.putfield 21, 3) := by decide +kernel
theorem dX5_init_36 : decode cX5_init 36 = .ok (.aload_n 0, 1) := by decide +kernel
theorem dX5_init_37 : decode cX5_init 37 = .ok (.bipush 8, 2) := by decide +kernel
theorem dX5_init_39 : decode cX5_init 39 = .ok (.newarray .int, 2) := by decide +kernel
theorem dX5_init_41 : decode cX5_init 41 = .ok (.putfield 24, 3) := by decide +kernel
theorem dX5_init_44 : decode cX5_init 44 = .ok (.return_, 1) := by decide +kernel
theorem dX5_has_0 : decode cX5_has 0 = .ok (.iload_n 1, 1) := by decide +kernel
theorem dX5_has_1 : decode cX5_has 1 = .ok (.ifCond .lt 21, 3) := by decide +kernel
theorem dX5_has_4 : decode cX5_has 4 = .ok (.iload_n 1, 1) := by decide +kernel
theorem dX5_has_5 : decode cX5_has 5 = .ok (.aload_n 0, 1) := by decide +kernel
theorem dX5_has_6 : decode cX5_has 6 = .ok (.getfield 27, 3) := by decide +kernel
theorem dX5_has_9 : decode cX5_has 9 = .ok (.if_icmp .ge 13, 3) := by decide +kernel
theorem dX5_has_12 : decode cX5_has 12 = .ok (.iload_n 1, 1) := by decide +kernel
theorem dX5_has_13 : decode cX5_has 13 = .ok (.bipush 8, 2) := by decide +kernel
theorem dX5_has_15 : decode cX5_has 15 = .ok (.if_icmp .ge 7, 3) := by decide +kernel
theorem dX5_has_18 : decode cX5_has 18 = .ok (.iconst 1, 1) := by decide +kernel
theorem dX5_has_19 : decode cX5_has 19 = .ok (.goto 4, 3) := by decide +kernel
theorem dX5_has_22 : decode cX5_has 22 = .ok (.iconst 0, 1) := by decide +kernel
theorem dX5_has_23 : decode cX5_has 23 = .ok (.ireturn, 1) := by decide +kernel
theorem dX5_put_0 : decode cX5_put 0 = .ok (.aload_n 0, 1) := by decide +kernel
theorem dX5_put_1 : decode cX5_put 1 = .ok (.getfield 27, 3) := by decide +kernel
theorem dX5_put_4 : decode cX5_put 4 = .ok (.ifCond .lt 12, 3) := by decide +kernel
theorem dX5_put_7 : decode cX5_put 7 = .ok (.aload_n 0, 1) := by decide +kernel
theorem dX5_put_8 : decode cX5_put 8 = .ok (.getfield 27, 3) := by decide +kernel
theorem dX5_put_11 : decode cX5_put 11 = .ok (.bipush 8, 2) := by decide +kernel
theorem dX5_put_13 : decode cX5_put 13 = .ok (.if_icmp .lt 6, 3) := by decide +kernel
theorem dX5_put_16 : decode cX5_put 16 = .ok (.bipush (-4), 2) := by decide +kernel
theorem dX5_put_18 : decode cX5_put 18 = .ok (.ireturn, 1) := by decide +kernel
theorem dX5_put_19 : decode cX5_put 19 = .ok (.aload_n 0, 1) := by decide +kernel
theorem dX5_put_20 : decode cX5_put 20 = .ok (.getfield 11, 3) := by decide +kernel
theorem dX5_put_23 : decode cX5_put 23 = .ok (.aload_n 0, 1) := by decide +kernel
theorem dX5_put_24 : decode cX5_put 24 = .ok (.getfield 27, 3) := by decide +kernel
theorem dX5_put_27 : decode cX5_put 27 = .ok (.iload_n 1, 1) := by decide +kernel
theorem dX5_put_28 : decode cX5_put 28 = .ok (.iastore, 1) := by decide +kernel
theorem dX5_put_29 : decode cX5_put 29 = .ok (.aload_n 0, 1) := by decide +kernel
theorem dX5_put_30 : decode cX5_put 30 = .ok (.getfield 15, 3) := by decide +kernel
theorem dX5_put_33 : decode cX5_put 33 = .ok (.aload_n 0, 1) := by decide +kernel
theorem dX5_put_34 : decode cX5_put 34 = .ok (.getfield 27, 3) := by decide +kernel
theorem dX5_put_37 : decode cX5_put 37 = .ok (.iload_n 2, 1) := by decide +kernel
theorem dX5_put_38 : decode cX5_put 38 = .ok (.iastore, 1) := by decide +kernel
theorem dX5_put_39 : decode cX5_put 39 = .ok (.aload_n 0, 1) := by decide +kernel
theorem dX5_put_40 : decode cX5_put 40 = .ok (.getfield 18, 3) := by decide +kernel
theorem dX5_put_43 : decode cX5_put 43 = .ok (.aload_n 0, 1) := by decide +kernel
theorem dX5_put_44 : decode cX5_put 44 = .ok (.getfield 27, 3) := by decide +kernel
theorem dX5_put_47 : decode cX5_put 47 = .ok (.iload_n 3, 1) := by decide +kernel
theorem dX5_put_48 : decode cX5_put 48 = .ok (.iastore, 1) := by decide +kernel
theorem dX5_put_49 : decode cX5_put 49 = .ok (.aload_n 0, 1) := by decide +kernel
theorem dX5_put_50 : decode cX5_put 50 = .ok (.getfield 21, 3) := by decide +kernel
theorem dX5_put_53 : decode cX5_put 53 = .ok (.aload_n 0, 1) := by decide +kernel
theorem dX5_put_54 : decode cX5_put 54 = .ok (.getfield 27, 3) := by decide +kernel
theorem dX5_put_57 : decode cX5_put 57 = .ok (.iload 4, 2) := by decide +kernel
theorem dX5_put_59 : decode cX5_put 59 = .ok (.iastore, 1) := by decide +kernel
theorem dX5_put_60 : decode cX5_put 60 = .ok (.aload_n 0, 1) := by decide +kernel
theorem dX5_put_61 : decode cX5_put 61 = .ok (.getfield 24, 3) := by decide +kernel
theorem dX5_put_64 : decode cX5_put 64 = .ok (.aload_n 0, 1) := by decide +kernel
theorem dX5_put_65 : decode cX5_put 65 = .ok (.getfield 27, 3) := by decide +kernel
theorem dX5_put_68 : decode cX5_put 68 = .ok (.iload 5, 2) := by decide +kernel
theorem dX5_put_70 : decode cX5_put 70 = .ok (.iastore, 1) := by decide +kernel
theorem dX5_put_71 : decode cX5_put 71 = .ok (.aload_n 0, 1) := by decide +kernel
theorem dX5_put_72 : decode cX5_put 72 = .ok (.dup, 1) := by decide +kernel
theorem dX5_put_73 : decode cX5_put 73 = .ok (.getfield 27, 3) := by decide +kernel
theorem dX5_put_76 : decode cX5_put 76 = .ok (.iconst 1, 1) := by decide +kernel
theorem dX5_put_77 : decode cX5_put 77 = .ok (.iadd, 1) := by decide +kernel
theorem dX5_put_78 : decode cX5_put 78 = .ok (.putfield 27, 3) := by decide +kernel
theorem dX5_put_81 : decode cX5_put 81 = .ok (.aload_n 0, 1) := by decide +kernel
theorem dX5_put_82 : decode cX5_put 82 = .ok (.getfield 27, 3) := by decide +kernel
theorem dX5_put_85 : decode cX5_put 85 = .ok (.iconst 1, 1) := by decide +kernel
theorem dX5_put_86 : decode cX5_put 86 = .ok (.isub, 1) := by decide +kernel
theorem dX5_put_87 : decode cX5_put 87 = .ok (.ireturn, 1) := by decide +kernel
theorem dX5_move_0 : decode cX5_move 0 = .ok (.iconst 0, 1) := by decide +kernel
theorem dX5_move_1 : decode cX5_move 1 = .ok (.istore_n 1, 1) := by decide +kernel
theorem dX5_move_2 : decode cX5_move 2 = .ok (.iload_n 1, 1) := by decide +kernel
theorem dX5_move_3 : decode cX5_move 3 = .ok (.aload_n 0, 1) := by decide +kernel
theorem dX5_move_4 : decode cX5_move 4 = .ok (.getfield 27, 3) := by decide +kernel
theorem dX5_move_7 : decode cX5_move 7 = .ok (.if_icmp .ge 75, 3) := by decide +kernel
theorem dX5_move_10 : decode cX5_move 10 = .ok (.iload_n 1, 1) := by decide +kernel
theorem dX5_move_11 : decode cX5_move 11 = .ok (.bipush 8, 2) := by decide +kernel
theorem dX5_move_13 : decode cX5_move 13 = .ok (.if_icmp .ge 69, 3) := by decide +kernel
theorem dX5_move_16 : decode cX5_move 16 = .ok (.aload_n 0, 1) := by decide +kernel
theorem dX5_move_17 : decode cX5_move 17 = .ok (.getfield 11, 3) := by decide +kernel
theorem dX5_move_20 : decode cX5_move 20 = .ok (.iload_n 1, 1) := by decide +kernel
theorem dX5_move_21 : decode cX5_move 21 = .ok (.sipush (-2000), 3) := by decide +kernel
theorem dX5_move_24 : decode cX5_move 24 = .ok (.aload_n 0, 1) := by decide +kernel
theorem dX5_move_25 : decode cX5_move 25 = .ok (.getfield 11, 3) := by decide +kernel
theorem dX5_move_28 : decode cX5_move 28 = .ok (.iload_n 1, 1) := by decide +kernel
theorem dX5_move_29 : decode cX5_move 29 = .ok (.iaload, 1) := by decide +kernel
theorem dX5_move_30 : decode cX5_move 30 = .ok (.aload_n 0, 1) := by decide +kernel
theorem dX5_move_31 : decode cX5_move 31 = .ok (.getfield 21, 3) := by decide +kernel
theorem dX5_move_34 : decode cX5_move 34 = .ok (.iload_n 1, 1) := by decide +kernel
theorem dX5_move_35 : decode cX5_move 35 = .ok (.iaload, 1) := by decide +kernel
theorem dX5_move_36 : decode cX5_move 36 = .ok (.iadd, 1) := by decide +kernel
theorem dX5_move_37 : decode cX5_move 37 = .ok (.sipush 2000, 3) := by decide +kernel
theorem dX5_move_40 : decode cX5_move 40 = .ok (.invokestatic 31, 3) := by decide +kernel
theorem dX5_move_43 : decode cX5_move 43 = .ok (.invokestatic 37, 3) := by decide +kernel
theorem dX5_move_46 : decode cX5_move 46 = .ok (.iastore, 1) := by decide +kernel
theorem dX5_move_47 : decode cX5_move 47 = .ok (.aload_n 0, 1) := by decide +kernel
theorem dX5_move_48 : decode cX5_move 48 = .ok (.getfield 15, 3) := by decide +kernel
theorem dX5_move_51 : decode cX5_move 51 = .ok (.iload_n 1, 1) := by decide +kernel
theorem dX5_move_52 : decode cX5_move 52 = .ok (.iconst 0, 1) := by decide +kernel
theorem dX5_move_53 : decode cX5_move 53 = .ok (.aload_n 0, 1) := by decide +kernel
theorem dX5_move_54 : decode cX5_move 54 = .ok (.getfield 15, 3) := by decide +kernel
theorem dX5_move_57 : decode cX5_move 57 = .ok (.iload_n 1, 1) := by decide +kernel
theorem dX5_move_58 : decode cX5_move 58 = .ok (.iaload, 1) := by decide +kernel
theorem dX5_move_59 : decode cX5_move 59 = .ok (.aload_n 0, 1) := by decide +kernel
theorem dX5_move_60 : decode cX5_move 60 = .ok (.getfield 24, 3) := by decide +kernel
theorem dX5_move_63 : decode cX5_move 63 = .ok (.iload_n 1, 1) := by decide +kernel
theorem dX5_move_64 : decode cX5_move 64 = .ok (.iaload, 1) := by decide +kernel
theorem dX5_move_65 : decode cX5_move 65 = .ok (.iadd, 1) := by decide +kernel
theorem dX5_move_66 : decode cX5_move 66 = .ok (.sipush 4000, 3) := by decide +kernel
theorem dX5_move_69 : decode cX5_move 69 = .ok (.invokestatic 31, 3) := by decide +kernel
theorem dX5_move_72 : decode cX5_move 72 = .ok (.invokestatic 37, 3) := by decide +kernel
theorem dX5_move_75 : decode cX5_move 75 = .ok (.iastore, 1) := by decide +kernel
theorem dX5_move_76 : decode cX5_move 76 = .ok (.iinc 1 1, 3) := by decide +kernel
theorem dX5_move_79 : decode cX5_move 79 = .ok (.goto (-77), 3) := by decide +kernel
theorem dX5_move_82 : decode cX5_move 82 = .ok (.return_, 1) := by decide +kernel
set_option maxRecDepth 20000 in
theorem ggX6_init_X3_init : GoodIn wsX6_init wsX3_init := goodIn_r _ [30, 31, 2, 3, 32, 33, 34, 35, 36, 37, 38, 39, 40, 41, 42, 43, 44, 6, 45, 46, 47, 48, 49, 50, 51, 52, 53, 54, 91, 92, 93, 94, 95, 96, 97, 98, 99, 100, 101] (by decide +kernel) (by decide +kernel)
set_option maxRecDepth 20000 in
theorem gX6_init_X3_init : GoodIn wsX6_init (wsX3_init) := ggX6_init_X3_init
set_option maxRecDepth 20000 in
theorem ggX6_init_X5_init : GoodIn wsX6_init wsX5_init := goodIn_r _ [57, 58, 2, 3, 32, 59, 60, 61, 62, 63, 108, 109, 110, 111, 112, 113] (by decide +kernel) (by decide +kernel)
set_option maxRecDepth 20000 in
theorem gX6_init_X5_init : GoodIn wsX6_init (wsX5_init) := ggX6_init_X5_init
set_option maxRecDepth 20000 in
theorem ggX6_init_X1_init : GoodIn wsX6_init wsX1_init := goodIn_r _ [66, 67, 2, 3, 68, 32, 69, 70, 114, 115, 116, 117, 118] (by decide +kernel) (by decide +kernel)
set_option maxRecDepth 20000 in
theorem gX6_init_X1_init : GoodIn wsX6_init (wsX1_init) := ggX6_init_X1_init
set_option maxRecDepth 20000 in
theorem ggX6_init_X4_init : GoodIn wsX6_init wsX4_init := goodIn_r _ [73, 74, 2, 3, 32, 75, 76, 77, 119, 120, 121, 122, 123] (by decide +kernel) (by decide +kernel)
set_option maxRecDepth 20000 in
theorem gX6_init_X4_init : GoodIn wsX6_init (wsX4_init) := ggX6_init_X4_init
set_option maxRecDepth 20000 in
theorem ggX6_init_X0_init : GoodIn wsX6_init wsX0_init := goodIn_r _ [80, 81, 2, 3, 32, 82, 83, 124, 125, 126, 127] (by decide +kernel) (by decide +kernel)
set_option maxRecDepth 20000 in
theorem gX6_init_X0_init : GoodIn wsX6_init (wsX0_init) := ggX6_init_X0_init
set_option maxRecDepth 20000 in
theorem ggX6_init_X2_init : GoodIn wsX6_init wsX2_init := goodIn_r _ [86, 87, 2, 3, 88, 89, 90, 128, 129] (by decide +kernel) (by decide +kernel)
set_option maxRecDepth 20000 in
theorem gX6_init_X2_init : GoodIn wsX6_init (wsX2_init) := ggX6_init_X2_init
end
section
theorem dX6_init_0 : decode cX6_init 0 = .ok (.aload_n 0, 1) := by decide +kernel
theorem dX6_init_1 : decode cX6_init 1 = .ok (.invokespecial 1, 3) := by decide +kernel
theorem dX6_init_4 : decode cX6_init 4 = .ok (.aload_n 0, 1) := by decide +kernel
theorem dX6_init_5 : decode cX6_init 5 = .ok (.new 7, 3) := by decide +kernel
theorem dX6_init_8 : decode cX6_init 8 = .ok (.dup, 1) := by decide +kernel
theorem dX6_init_9 : decode cX6_init 9 = .ok (.invokespecial 9, 3) := by decide +kernel
theorem dX6_init_12 : decode cX6_init 12 = .ok (.putfield 10, 3) := by decide +kernel
theorem dX6_init_15 : decode cX6_init 15 = .ok (.aload_n 0, 1) := by decide +kernel
theorem dX6_init_16 : decode cX6_init 16 = .ok (.new 16, 3) := by decide +kernel
theorem dX6_init_19 : decode cX6_init 19 = .ok (.dup, 1) := by decide +kernel
theorem dX6_init_20 : decode cX6_init 20 = .ok (.invokespecial 18, 3) := by decide +kernel
theorem dX6_init_23 : decode cX6_init 23 = .ok (.putfield 19, 3) := by decide +kernel
theorem dX6_init_26 : decode cX6_init 26 = .ok (.aload_n 0, 1) := by decide +kernel
theorem dX6_init_27 : decode cX6_init 27 = .ok (.new 23, 3) := by decide +kernel
theorem dX6_init_30 : decode cX6_init 30 = .ok (.dup, 1) := by decide +kernel
theorem dX6_init_31 : decode cX6_init 31 = .ok (.invokespecial 25, 3) := by decide +kernel
theorem dX6_init_34 : decode cX6_init 34 = .ok (.putfield 26, 3) := by decide +kernel
theorem dX6_init_37 : decode cX6_init 37 = .ok (.aload_n 0, 1) := by decide +kernel
theorem dX6_init_38 : decode cX6_init 38 = .ok (.new 30, 3) := by decide +kernel
theorem dX6_init_41 : decode cX6_init 41 = .ok (.dup, 1) := by decide +kernel
theorem dX6_init_42 : decode cX6_init 42 = .ok (.invokespecial 32, 3) := by decide +kernel
theorem dX6_init_45 : decode cX6_init 45 = .ok (.putfield 33, 3) := by decide +kernel
theorem dX6_init_48 : decode cX6_init 48 = .ok (.aload_n 0, 1) := by decide +kernel
theorem dX6_init_49 : decode cX6_init 49 = .ok (.new 37, 3) := by decide +kernel
theorem dX6_init_52 : decode cX6_init 52 = .ok (.dup, 1) := by decide +kernel
theorem dX6_init_53 : decode cX6_init 53 = .ok (.invokespecial 39, 3) := by decide +kernel
theorem dX6_init_56 : decode cX6_init 56 = .ok (.putfield 40, 3) := by decide +kernel
theorem dX6_init_59 : decode cX6_init 59 = .ok (.aload_n 0, 1) := by decide +kernel
theorem dX6_init_60 : decode cX6_init 60 = .ok (.new 44, 3) := by decide +kernel
theorem dX6_init_63 : decode cX6_init 63 = .ok (.dup, 1) := by decide +kernel
theorem dX6_init_64 : decode cX6_init 64 = .ok (.invokespecial 46, 3) := by decide +kernel
theorem dX6_init_67 : decode cX6_init 67 = .ok (.putfield 47, 3) := by decide +kernel
theorem dX6_init_70 : decode cX6_init 70 = .ok (.return_, 1) := by decide +kernel
set_option maxRecDepth 20000 in
theorem ggX6_probe_X6_within : GoodIn wsX6_probe wsX6_within := goodIn_r _ [9] (by decide +kernel) (by decide +kernel)
set_option maxRecDepth 20000 in
theorem gX6_probe_X6_within : GoodIn wsX6_probe (va_wsS RX6 51 yX6_within wsX6_within) := goodIn_app (goodIn_of _ (by decide +kernel)) ggX6_probe_X6_within
set_option maxRecDepth 20000 in
theorem ggX6_probe_X3_renew : GoodIn wsX6_probe wsX3_renew := goodIn_r _ [14, 15, 16, 17, 18, 19, 20, 21, 22, 23, 24, 25, 48, 49, 50, 51, 52, 53, 54, 55, 56, 57, 58] (by decide +kernel) (by decide +kernel)
set_option maxRecDepth 20000 in
theorem gX6_probe_X3_renew : GoodIn wsX6_probe (wsV RX6 55 RX3 yX3_renew wsX3_renew) := goodIn_app (goodIn_of _ (by decide +kernel)) ggX6_probe_X3_renew
set_option maxRecDepth 20000 in
theorem ggX6_probe_X1_forget : GoodIn wsX6_probe wsX1_forget := goodIn_r _ [30, 31, 32, 59, 60, 61, 62, 63] (by decide +kernel) (by decide +kernel)
set_option maxRecDepth 20000 in
theorem gX6_probe_X1_forget : GoodIn wsX6_probe (wsV RX6 59 RX1 yX1_forget wsX1_forget) := goodIn_app (goodIn_of _ (by decide +kernel)) ggX6_probe_X1_forget
set_option maxRecDepth 20000 in
theorem ggX6_probe_X4_forget : GoodIn wsX6_probe wsX4_forget := goodIn_r _ [37, 38, 39, 64, 65, 66, 67, 68] (by decide +kernel) (by decide +kernel)
set_option maxRecDepth 20000 in
theorem gX6_probe_X4_forget : GoodIn wsX6_probe (wsV RX6 62 RX4 yX4_forget wsX4_forget) := goodIn_app (goodIn_of _ (by decide +kernel)) ggX6_probe_X4_forget
theorem dX6_probe_0 : decode cX6_probe 0 = .ok (.iload_n 1, 1) := by decide +kernel
theorem dX6_probe_1 : decode cX6_probe 1 = .ok (.iconst 2, 1) := by decide +kernel
theorem dX6_probe_2 : decode cX6_probe 2 = .ok (.bipush 16, 2) := by decide +kernel
theorem dX6_probe_4 : decode cX6_probe 4 = .ok (.invokestatic 51, 3) := by decide +kernel
theorem dX6_probe_7 : decode cX6_probe 7 = .ok (.ifCond .eq 27, 3) := by decide +kernel
theorem dX6_probe_10 : decode cX6_probe 10 = .ok (.iload_n 2, 1) := by decide +kernel
theorem dX6_probe_11 : decode cX6_probe 11 = .ok (.sipush (-2000), 3) := by decide +kernel
theorem dX6_probe_14 : decode cX6_probe 14 = .ok (.sipush 2000, 3) := by decide +kernel
theorem dX6_probe_17 : decode cX6_probe 17 = .ok (.invokestatic 51, 3) := by decide +kernel
theorem dX6_probe_20 : decode cX6_probe 20 = .ok (.ifCond .eq 14, 3) := by decide +kernel
theorem dX6_probe_23 : decode cX6_probe 23 = .ok (.iload_n 3, 1) := by decide +kernel
theorem dX6_probe_24 : decode cX6_probe 24 = .ok (.iconst 1, 1) := by decide +kernel
theorem dX6_probe_25 : decode cX6_probe 25 = .ok (.sipush 200, 3) := by decide +kernel
theorem dX6_probe_28 : decode cX6_probe 28 = .ok (.invokestatic 51, 3) := by decide +kernel
theorem dX6_probe_31 : decode cX6_probe 31 = .ok (.ifCond .ne 6, 3) := by decide +kernel
theorem dX6_probe_34 : decode cX6_probe 34 = .ok (.bipush (-2), 2) := by decide +kernel
theorem dX6_probe_36 : decode cX6_probe 36 = .ok (.ireturn, 1) := by decide +kernel
theorem dX6_probe_37 : decode cX6_probe 37 = .ok (.iload_n 2, 1) := by decide +kernel
theorem dX6_probe_38 : decode cX6_probe 38 = .ok (.iload_n 1, 1) := by decide +kernel
theorem dX6_probe_39 : decode cX6_probe 39 = .ok (.iconst 1, 1) := by decide +kernel
theorem dX6_probe_40 : decode cX6_probe 40 = .ok (.isub, 1) := by decide +kernel
theorem dX6_probe_41 : decode cX6_probe 41 = .ok (.iload_n 3, 1) := by decide +kernel
theorem dX6_probe_42 : decode cX6_probe 42 = .ok (.imul, 1) := by decide +kernel
theorem dX6_probe_43 : decode cX6_probe 43 = .ok (.iadd, 1) := by decide +kernel
theorem dX6_probe_44 : decode cX6_probe 44 = .ok (.sipush 2000, 3) := by decide +kernel
theorem dX6_probe_47 : decode cX6_probe 47 = .ok (.if_icmp .le 6, 3) := by decide +kernel
theorem dX6_probe_50 : decode cX6_probe 50 = .ok (.bipush (-2), 2) := by decide +kernel
theorem dX6_probe_52 : decode cX6_probe 52 = .ok (.ireturn, 1) := by decide +kernel
theorem dX6_probe_53 : decode cX6_probe 53 = .ok (.aload_n 0, 1) := by decide +kernel
theorem dX6_probe_54 : decode cX6_probe 54 = .ok (.getfield 10, 3) := by decide +kernel
theorem dX6_probe_57 : decode cX6_probe 57 = .ok (.iload_n 1, 1) := by decide +kernel
theorem dX6_probe_58 : decode cX6_probe 58 = .ok (.iload_n 2, 1) := by decide +kernel
theorem dX6_probe_59 : decode cX6_probe 59 = .ok (.iload_n 3, 1) := by decide +kernel
theorem dX6_probe_60 : decode cX6_probe 60 = .ok (.invokevirtual 55, 3) := by decide +kernel
theorem dX6_probe_63 : decode cX6_probe 63 = .ok (.aload_n 0, 1) := by decide +kernel
theorem dX6_probe_64 : decode cX6_probe 64 = .ok (.getfield 26, 3) := by decide +kernel
theorem dX6_probe_67 : decode cX6_probe 67 = .ok (.invokevirtual 59, 3) := by decide +kernel
theorem dX6_probe_70 : decode cX6_probe 70 = .ok (.aload_n 0, 1) := by decide +kernel
theorem dX6_probe_71 : decode cX6_probe 71 = .ok (.getfield 33, 3) := by decide +kernel
theorem dX6_probe_74 : decode cX6_probe 74 = .ok (.invokevirtual 62, 3) := by decide +kernel
theorem dX6_probe_77 : decode cX6_probe 77 = .ok (.aload_n 0, 1) := by decide +kernel
theorem dX6_probe_78 : decode cX6_probe 78 = .ok (.getfield 47, 3) := by decide +kernel
theorem dX6_probe_81 : decode cX6_probe 81 = .ok (.iconst 0, 1) := by decide +kernel
theorem dX6_probe_82 : decode cX6_probe 82 = .ok (.putfield 63, 3) := by decide +kernel
theorem dX6_probe_85 : decode cX6_probe 85 = .ok (.iconst 1, 1) := by decide +kernel
theorem dX6_probe_86 : decode cX6_probe 86 = .ok (.ireturn, 1) := by decide +kernel
set_option maxRecDepth 20000 in
theorem ggX6_pace_X6_within : GoodIn wsX6_pace wsX6_within := goodIn_r _ [9] (by decide +kernel) (by decide +kernel)
set_option maxRecDepth 20000 in
theorem gX6_pace_X6_within : GoodIn wsX6_pace (va_wsS RX6 51 yX6_within wsX6_within) := goodIn_app (goodIn_of _ (by decide +kernel)) ggX6_pace_X6_within
theorem dX6_pace_0 : decode cX6_pace 0 = .ok (.iload_n 1, 1) := by decide +kernel
theorem dX6_pace_1 : decode cX6_pace 1 = .ok (.iconst 1, 1) := by decide +kernel
theorem dX6_pace_2 : decode cX6_pace 2 = .ok (.sipush 1000, 3) := by decide +kernel
theorem dX6_pace_5 : decode cX6_pace 5 = .ok (.invokestatic 51, 3) := by decide +kernel
theorem dX6_pace_8 : decode cX6_pace 8 = .ok (.ifCond .eq 14, 3) := by decide +kernel
theorem dX6_pace_11 : decode cX6_pace 11 = .ok (.iload_n 2, 1) := by decide +kernel
theorem dX6_pace_12 : decode cX6_pace 12 = .ok (.iconst 1, 1) := by decide +kernel
theorem dX6_pace_13 : decode cX6_pace 13 = .ok (.sipush 1000, 3) := by decide +kernel
theorem dX6_pace_16 : decode cX6_pace 16 = .ok (.invokestatic 51, 3) := by decide +kernel
theorem dX6_pace_19 : decode cX6_pace 19 = .ok (.ifCond .ne 6, 3) := by decide +kernel
theorem dX6_pace_22 : decode cX6_pace 22 = .ok (.bipush (-2), 2) := by decide +kernel
theorem dX6_pace_24 : decode cX6_pace 24 = .ok (.ireturn, 1) := by decide +kernel
theorem dX6_pace_25 : decode cX6_pace 25 = .ok (.aload_n 0, 1) := by decide +kernel
theorem dX6_pace_26 : decode cX6_pace 26 = .ok (.getfield 26, 3) := by decide +kernel
theorem dX6_pace_29 : decode cX6_pace 29 = .ok (.getfield 67, 3) := by decide +kernel
theorem dX6_pace_32 : decode cX6_pace 32 = .ok (.ifCond .le 6, 3) := by decide +kernel
theorem dX6_pace_35 : decode cX6_pace 35 = .ok (.bipush (-3), 2) := by decide +kernel
theorem dX6_pace_37 : decode cX6_pace 37 = .ok (.ireturn, 1) := by decide +kernel
theorem dX6_pace_38 : decode cX6_pace 38 = .ok (.aload_n 0, 1) := by decide +kernel
theorem dX6_pace_39 : decode cX6_pace 39 = .ok (.getfield 10, 3) := by decide +kernel
theorem dX6_pace_42 : decode cX6_pace 42 = .ok (.iload_n 1, 1) := by decide +kernel
theorem dX6_pace_43 : decode cX6_pace 43 = .ok (.putfield 70, 3) := by decide +kernel
theorem dX6_pace_46 : decode cX6_pace 46 = .ok (.aload_n 0, 1) := by decide +kernel
theorem dX6_pace_47 : decode cX6_pace 47 = .ok (.getfield 10, 3) := by decide +kernel
theorem dX6_pace_50 : decode cX6_pace 50 = .ok (.iload_n 2, 1) := by decide +kernel
theorem dX6_pace_51 : decode cX6_pace 51 = .ok (.putfield 73, 3) := by decide +kernel
theorem dX6_pace_54 : decode cX6_pace 54 = .ok (.iconst 1, 1) := by decide +kernel
theorem dX6_pace_55 : decode cX6_pace 55 = .ok (.ireturn, 1) := by decide +kernel
set_option maxRecDepth 20000 in
theorem ggX6_dead_X3_has : GoodIn wsX6_dead wsX3_has := goodIn_r _ [7, 8, 26, 27, 28, 29, 30, 31, 32, 33, 34, 35, 36] (by decide +kernel) (by decide +kernel)
set_option maxRecDepth 20000 in
theorem gX6_dead_X3_has : GoodIn wsX6_dead (wsV RX6 76 RX3 yX3_has wsX3_has) := goodIn_app (goodIn_of _ (by decide +kernel)) ggX6_dead_X3_has
set_option maxRecDepth 20000 in
theorem ggX6_dead_X3_isDead : GoodIn wsX6_dead wsX3_isDead := goodIn_r _ [12, 13, 14, 4, 5, 6, 7, 8, 26, 27, 28, 29, 30, 31, 32, 33, 34, 35, 36] (by decide +kernel) (by decide +kernel)
set_option maxRecDepth 20000 in
theorem gX6_dead_X3_isDead : GoodIn wsX6_dead (wsV RX6 80 RX3 yX3_isDead wsX3_isDead) := goodIn_app (goodIn_of _ (by decide +kernel)) ggX6_dead_X3_isDead
set_option maxRecDepth 20000 in
theorem ggX6_dead_X3_setDead : GoodIn wsX6_dead wsX3_setDead := goodIn_r _ [18, 13, 19, 14, 4, 5, 6, 7, 8, 26, 27, 28, 29, 30, 31, 32, 33, 34, 35, 36] (by decide +kernel) (by decide +kernel)
set_option maxRecDepth 20000 in
theorem gX6_dead_X3_setDead : GoodIn wsX6_dead (wsV RX6 86 RX3 yX3_setDead wsX3_setDead) := goodIn_app (goodIn_of _ (by decide +kernel)) ggX6_dead_X3_setDead
theorem dX6_dead_0 : decode cX6_dead 0 = .ok (.aload_n 0, 1) := by decide +kernel
theorem dX6_dead_1 : decode cX6_dead 1 = .ok (.getfield 10, 3) := by decide +kernel
theorem dX6_dead_4 : decode cX6_dead 4 = .ok (.iload_n 1, 1) := by decide +kernel
theorem dX6_dead_5 : decode cX6_dead 5 = .ok (.invokevirtual 76, 3) := by decide +kernel
theorem dX6_dead_8 : decode cX6_dead 8 = .ok (.ifCond .ne 6, 3) := by decide +kernel
theorem dX6_dead_11 : decode cX6_dead 11 = .ok (.bipush (-2), 2) := by decide +kernel
theorem dX6_dead_13 : decode cX6_dead 13 = .ok (.ireturn, 1) := by decide +kernel
theorem dX6_dead_14 : decode cX6_dead 14 = .ok (.aload_n 0, 1) := by decide +kernel
theorem dX6_dead_15 : decode cX6_dead 15 = .ok (.getfield 10, 3) := by decide +kernel
theorem dX6_dead_18 : decode cX6_dead 18 = .ok (.iload_n 1, 1) := by decide +kernel
theorem dX6_dead_19 : decode cX6_dead 19 = .ok (.invokevirtual 80, 3) := by decide +kernel
theorem dX6_dead_22 : decode cX6_dead 22 = .ok (.iload_n 2, 1) := by decide +kernel
theorem dX6_dead_23 : decode cX6_dead 23 = .ok (.if_icmp .eq 18, 3) := by decide +kernel
theorem dX6_dead_26 : decode cX6_dead 26 = .ok (.iload_n 2, 1) := by decide +kernel
theorem dX6_dead_27 : decode cX6_dead 27 = .ok (.ifCond .eq 17, 3) := by decide +kernel
theorem dX6_dead_30 : decode cX6_dead 30 = .ok (.aload_n 0, 1) := by decide +kernel
theorem dX6_dead_31 : decode cX6_dead 31 = .ok (.getfield 10, 3) := by decide +kernel
theorem dX6_dead_34 : decode cX6_dead 34 = .ok (.getfield 83, 3) := by decide +kernel
theorem dX6_dead_37 : decode cX6_dead 37 = .ok (.iconst 1, 1) := by decide +kernel
theorem dX6_dead_38 : decode cX6_dead 38 = .ok (.if_icmp .ne 6, 3) := by decide +kernel
theorem dX6_dead_41 : decode cX6_dead 41 = .ok (.bipush (-3), 2) := by decide +kernel
theorem dX6_dead_43 : decode cX6_dead 43 = .ok (.ireturn, 1) := by decide +kernel
theorem dX6_dead_44 : decode cX6_dead 44 = .ok (.aload_n 0, 1) := by decide +kernel
theorem dX6_dead_45 : decode cX6_dead 45 = .ok (.getfield 10, 3) := by decide +kernel
theorem dX6_dead_48 : decode cX6_dead 48 = .ok (.iload_n 1, 1) := by decide +kernel
theorem dX6_dead_49 : decode cX6_dead 49 = .ok (.iload_n 2, 1) := by decide +kernel
theorem dX6_dead_50 : decode cX6_dead 50 = .ok (.invokevirtual 86, 3) := by decide +kernel
theorem dX6_dead_53 : decode cX6_dead 53 = .ok (.iconst 1, 1) := by decide +kernel
theorem dX6_dead_54 : decode cX6_dead 54 = .ok (.ireturn, 1) := by decide +kernel
set_option maxRecDepth 20000 in
theorem ggX6_delay_X3_has : GoodIn wsX6_delay wsX3_has := goodIn_r _ [6, 7, 42, 43, 44, 45, 46, 47, 48, 49, 50, 51, 52] (by decide +kernel) (by decide +kernel)
set_option maxRecDepth 20000 in
theorem gX6_delay_X3_has : GoodIn wsX6_delay (wsV RX6 76 RX3 yX3_has wsX3_has) := goodIn_app (goodIn_of _ (by decide +kernel)) ggX6_delay_X3_has
set_option maxRecDepth 20000 in
theorem ggX6_delay_X6_isPlace : GoodIn wsX6_delay wsX6_isPlace := goodIn_r _ [11, 12, 13, 10, 14] (by decide +kernel) (by decide +kernel)
set_option maxRecDepth 20000 in
theorem gX6_delay_X6_isPlace : GoodIn wsX6_delay (va_wsS RX6 90 yX6_isPlace wsX6_isPlace) := goodIn_app (goodIn_of _ (by decide +kernel)) ggX6_delay_X6_isPlace
set_option maxRecDepth 20000 in
theorem ggX6_delay_X3_delayOf : GoodIn wsX6_delay wsX3_delayOf := goodIn_r _ [18, 19, 20, 21, 22, 23, 24, 25, 5, 26, 27, 28, 29, 30, 31, 32, 3, 4, 6, 7, 33, 10, 34, 35, 42, 43, 44, 45, 46, 47, 48, 49, 50, 51, 52] (by decide +kernel) (by decide +kernel)
set_option maxRecDepth 20000 in
theorem gX6_delay_X3_delayOf : GoodIn wsX6_delay (wsV RX6 94 RX3 yX3_delayOf wsX3_delayOf) := goodIn_app (goodIn_of _ (by decide +kernel)) ggX6_delay_X3_delayOf
theorem dX6_delay_0 : decode cX6_delay 0 = .ok (.aload_n 0, 1) := by decide +kernel
theorem dX6_delay_1 : decode cX6_delay 1 = .ok (.getfield 10, 3) := by decide +kernel
theorem dX6_delay_4 : decode cX6_delay 4 = .ok (.iload_n 1, 1) := by decide +kernel
theorem dX6_delay_5 : decode cX6_delay 5 = .ok (.invokevirtual 76, 3) := by decide +kernel
theorem dX6_delay_8 : decode cX6_delay 8 = .ok (.ifCond .eq 11, 3) := by decide +kernel
theorem dX6_delay_11 : decode cX6_delay 11 = .ok (.iload_n 2, 1) := by decide +kernel
theorem dX6_delay_12 : decode cX6_delay 12 = .ok (.iload_n 3, 1) := by decide +kernel
theorem dX6_delay_13 : decode cX6_delay 13 = .ok (.invokestatic 90, 3) := by decide +kernel
theorem dX6_delay_16 : decode cX6_delay 16 = .ok (.ifCond .ne 6, 3) := by decide +kernel
theorem dX6_delay_19 : decode cX6_delay 19 = .ok (.bipush (-2), 2) := by decide +kernel
theorem dX6_delay_21 : decode cX6_delay 21 = .ok (.ireturn, 1) := by decide +kernel
theorem dX6_delay_22 : decode cX6_delay 22 = .ok (.aload_n 0, 1) := by decide +kernel
theorem dX6_delay_23 : decode cX6_delay 23 = .ok (.getfield 10, 3) := by decide +kernel
theorem dX6_delay_26 : decode cX6_delay 26 = .ok (.iload_n 1, 1) := by decide +kernel
theorem dX6_delay_27 : decode cX6_delay 27 = .ok (.iload_n 2, 1) := by decide +kernel
theorem dX6_delay_28 : decode cX6_delay 28 = .ok (.iload_n 3, 1) := by decide +kernel
theorem dX6_delay_29 : decode cX6_delay 29 = .ok (.invokevirtual 94, 3) := by decide +kernel
theorem dX6_delay_32 : decode cX6_delay 32 = .ok (.ireturn, 1) := by decide +kernel
set_option maxRecDepth 20000 in
theorem ggX6_point_X6_isPlace : GoodIn wsX6_point wsX6_isPlace := goodIn_r _ [6, 7, 8, 5, 9] (by decide +kernel) (by decide +kernel)
set_option maxRecDepth 20000 in
theorem gX6_point_X6_isPlace : GoodIn wsX6_point (va_wsS RX6 90 yX6_isPlace wsX6_isPlace) := goodIn_app (goodIn_of _ (by decide +kernel)) ggX6_point_X6_isPlace
set_option maxRecDepth 20000 in
theorem ggX6_point_X6_within : GoodIn wsX6_point wsX6_within := goodIn_r _ [9] (by decide +kernel) (by decide +kernel)
set_option maxRecDepth 20000 in
theorem gX6_point_X6_within : GoodIn wsX6_point (va_wsS RX6 51 yX6_within wsX6_within) := goodIn_app (goodIn_of _ (by decide +kernel)) ggX6_point_X6_within
set_option maxRecDepth 20000 in
theorem ggX6_point_X5_put : GoodIn wsX6_point wsX5_put := goodIn_r _ [14, 15, 16, 17, 18, 19, 20, 27, 28, 29, 30, 31, 32] (by decide +kernel) (by decide +kernel)
set_option maxRecDepth 20000 in
theorem gX6_point_X5_put : GoodIn wsX6_point (wsV RX6 99 RX5 yX5_put wsX5_put) := goodIn_app (goodIn_of _ (by decide +kernel)) ggX6_point_X5_put
theorem dX6_point_0 : decode cX6_point 0 = .ok (.iload_n 1, 1) := by decide +kernel
theorem dX6_point_1 : decode cX6_point 1 = .ok (.iload_n 2, 1) := by decide +kernel
theorem dX6_point_2 : decode cX6_point 2 = .ok (.invokestatic 90, 3) := by decide +kernel
theorem dX6_point_5 : decode cX6_point 5 = .ok (.ifCond .eq 42, 3) := by decide +kernel
theorem dX6_point_8 : decode cX6_point 8 = .ok (.iload_n 3, 1) := by decide +kernel
theorem dX6_point_9 : decode cX6_point 9 = .ok (.bipush (-100), 2) := by decide +kernel
theorem dX6_point_11 : decode cX6_point 11 = .ok (.bipush 100, 2) := by decide +kernel
theorem dX6_point_13 : decode cX6_point 13 = .ok (.invokestatic 51, 3) := by decide +kernel
theorem dX6_point_16 : decode cX6_point 16 = .ok (.ifCond .eq 31, 3) := by decide +kernel
theorem dX6_point_19 : decode cX6_point 19 = .ok (.iload 4, 2) := by decide +kernel
theorem dX6_point_21 : decode cX6_point 21 = .ok (.sipush (-200), 3) := by decide +kernel
theorem dX6_point_24 : decode cX6_point 24 = .ok (.sipush 200, 3) := by decide +kernel
theorem dX6_point_27 : decode cX6_point 27 = .ok (.invokestatic 51, 3) := by decide +kernel
theorem dX6_point_30 : decode cX6_point 30 = .ok (.ifCond .eq 17, 3) := by decide +kernel
theorem dX6_point_33 : decode cX6_point 33 = .ok (.iload 5, 2) := by decide +kernel
theorem dX6_point_35 : decode cX6_point 35 = .ok (.sipush (-200), 3) := by decide +kernel
theorem dX6_point_38 : decode cX6_point 38 = .ok (.sipush 200, 3) := by decide +kernel
theorem dX6_point_41 : decode cX6_point 41 = .ok (.invokestatic 51, 3) := by decide +kernel
theorem dX6_point_44 : decode cX6_point 44 = .ok (.ifCond .ne 6, 3) := by decide +kernel
theorem dX6_point_47 : decode cX6_point 47 = .ok (.bipush (-2), 2) := by decide +kernel
theorem dX6_point_49 : decode cX6_point 49 = .ok (.ireturn, 1) := by decide +kernel
theorem dX6_point_50 : decode cX6_point 50 = .ok (.aload_n 0, 1) := by decide +kernel
theorem dX6_point_51 : decode cX6_point 51 = .ok (.getfield 19, 3) := by decide +kernel
theorem dX6_point_54 : decode cX6_point 54 = .ok (.getfield 98, 3) := by decide +kernel
theorem dX6_point_57 : decode cX6_point 57 = .ok (.bipush 8, 2) := by decide +kernel
theorem dX6_point_59 : decode cX6_point 59 = .ok (.if_icmp .lt 6, 3) := by decide +kernel
theorem dX6_point_62 : decode cX6_point 62 = .ok (.bipush (-4), 2) := by decide +kernel
theorem dX6_point_64 : decode cX6_point 64 = .ok (.ireturn, 1) := by decide +kernel
theorem dX6_point_65 : decode cX6_point 65 = .ok (.aload_n 0, 1) := by decide +kernel
theorem dX6_point_66 : decode cX6_point 66 = .ok (.getfield 19, 3) := by decide +kernel
theorem dX6_point_69 : decode cX6_point 69 = .ok (.iload_n 1, 1) := by decide +kernel
theorem dX6_point_70 : decode cX6_point 70 = .ok (.iload_n 2, 1) := by decide +kernel
theorem dX6_point_71 : decode cX6_point 71 = .ok (.iload_n 3, 1) := by decide +kernel
theorem dX6_point_72 : decode cX6_point 72 = .ok (.iload 4, 2) := by decide +kernel
theorem dX6_point_74 : decode cX6_point 74 = .ok (.iload 5, 2) := by decide +kernel
theorem dX6_point_76 : decode cX6_point 76 = .ok (.invokevirtual 99, 3) := by decide +kernel
theorem dX6_point_79 : decode cX6_point 79 = .ok (.ireturn, 1) := by decide +kernel
theorem dX6_clear_0 : decode cX6_clear 0 = .ok (.aload_n 0, 1) := by decide +kernel
theorem dX6_clear_1 : decode cX6_clear 1 = .ok (.getfield 19, 3) := by decide +kernel
theorem dX6_clear_4 : decode cX6_clear 4 = .ok (.getfield 98, 3) := by decide +kernel
theorem dX6_clear_7 : decode cX6_clear 7 = .ok (.istore_n 1, 1) := by decide +kernel
theorem dX6_clear_8 : decode cX6_clear 8 = .ok (.aload_n 0, 1) := by decide +kernel
theorem dX6_clear_9 : decode cX6_clear 9 = .ok (.getfield 19, 3) := by decide +kernel
theorem dX6_clear_12 : decode cX6_clear 12 = .ok (.iconst 0, 1) := by decide +kernel
theorem dX6_clear_13 : decode cX6_clear 13 = .ok (.putfield 98, 3) := by decide +kernel
theorem dX6_clear_16 : decode cX6_clear 16 = .ok (.iload_n 1, 1) := by decide +kernel
theorem dX6_clear_17 : decode cX6_clear 17 = .ok (.ireturn, 1) := by decide +kernel
set_option maxRecDepth 20000 in
theorem ggX6_pointAt_X5_has : GoodIn wsX6_pointAt wsX5_has := goodIn_r _ [9, 10, 17, 18, 19, 20, 21, 22] (by decide +kernel) (by decide +kernel)
set_option maxRecDepth 20000 in
theorem gX6_pointAt_X5_has : GoodIn wsX6_pointAt (wsV RX6 103 RX5 yX5_has wsX5_has) := goodIn_app (goodIn_of _ (by decide +kernel)) ggX6_pointAt_X5_has
theorem dX6_pointAt_0 : decode cX6_pointAt 0 = .ok (.aload_n 0, 1) := by decide +kernel
theorem dX6_pointAt_1 : decode cX6_pointAt 1 = .ok (.getfield 19, 3) := by decide +kernel
theorem dX6_pointAt_4 : decode cX6_pointAt 4 = .ok (.iload_n 1, 1) := by decide +kernel
theorem dX6_pointAt_5 : decode cX6_pointAt 5 = .ok (.invokevirtual 103, 3) := by decide +kernel
theorem dX6_pointAt_8 : decode cX6_pointAt 8 = .ok (.ifCond .ne 7, 3) := by decide +kernel
theorem dX6_pointAt_11 : decode cX6_pointAt 11 = .ok (.sipush (-5000), 3) := by decide +kernel
theorem dX6_pointAt_14 : decode cX6_pointAt 14 = .ok (.ireturn, 1) := by decide +kernel
theorem dX6_pointAt_15 : decode cX6_pointAt 15 = .ok (.iload_n 2, 1) := by decide +kernel
theorem dX6_pointAt_16 : decode cX6_pointAt 16 = .ok (.tableswitch 58 0 2 #[28, 38, 48], 28) := by decide +kernel
theorem dX6_pointAt_44 : decode cX6_pointAt 44 = .ok (.aload_n 0, 1) := by decide +kernel
theorem dX6_pointAt_45 : decode cX6_pointAt 45 = .ok (.getfield 19, 3) := by decide +kernel
theorem dX6_pointAt_48 : decode cX6_pointAt 48 = .ok (.getfield 104, 3) := by decide +kernel
theorem dX6_pointAt_51 : decode cX6_pointAt 51 = .ok (.iload_n 1, 1) := by decide +kernel
theorem dX6_pointAt_52 : decode cX6_pointAt 52 = .ok (.iaload, 1) := by decide +kernel
theorem dX6_pointAt_53 : decode cX6_pointAt 53 = .ok (.ireturn, 1) := by decide +kernel
theorem dX6_pointAt_54 : decode cX6_pointAt 54 = .ok (.aload_n 0, 1) := by decide +kernel
theorem dX6_pointAt_55 : decode cX6_pointAt 55 = .ok (.getfield 19, 3) := by decide +kernel
theorem dX6_pointAt_58 : decode cX6_pointAt 58 = .ok (.getfield 108, 3) := by decide +kernel
theorem dX6_pointAt_61 : decode cX6_pointAt 61 = .ok (.iload_n 1, 1) := by decide +kernel
theorem dX6_pointAt_62 : decode cX6_pointAt 62 = .ok (.iaload, 1) := by decide +kernel
theorem dX6_pointAt_63 : decode cX6_pointAt 63 = .ok (.ireturn, 1) := by decide +kernel
theorem dX6_pointAt_64 : decode cX6_pointAt 64 = .ok (.aload_n 0, 1) := by decide +kernel
theorem dX6_pointAt_65 : decode cX6_pointAt 65 = .ok (.getfield 19, 3) := by decide +kernel
theorem dX6_pointAt_68 : decode cX6_pointAt 68 = .ok (.getfield 111, 3) := by decide +kernel
theorem dX6_pointAt_71 : decode cX6_pointAt 71 = .ok (.iload_n 1, 1) := by decide +kernel
theorem dX6_pointAt_72 : decode cX6_pointAt 72 = .ok (.iaload, 1) := by decide +kernel
theorem dX6_pointAt_73 : decode cX6_pointAt 73 = .ok (.ireturn, 1) := by decide +kernel
theorem dX6_pointAt_74 : decode cX6_pointAt 74 = .ok (.sipush (-5000), 3) := by decide +kernel
theorem dX6_pointAt_77 : decode cX6_pointAt 77 = .ok (.ireturn, 1) := by decide +kernel
set_option maxRecDepth 20000 in
theorem ggX6_look_X3_has : GoodIn wsX6_look wsX3_has := goodIn_r _ [14, 15, 125, 126, 127, 128, 129, 130, 131, 132, 133, 134, 135] (by decide +kernel) (by decide +kernel)
set_option maxRecDepth 20000 in
theorem gX6_look_X3_has : GoodIn wsX6_look (wsV RX6 76 RX3 yX3_has wsX3_has) := goodIn_app (goodIn_of _ (by decide +kernel)) ggX6_look_X3_has
set_option maxRecDepth 20000 in
theorem ggX6_look_X3_isDead : GoodIn wsX6_look wsX3_isDead := goodIn_r _ [19, 20, 21, 11, 12, 13, 14, 15, 125, 126, 127, 128, 129, 130, 131, 132, 133, 134, 135] (by decide +kernel) (by decide +kernel)
set_option maxRecDepth 20000 in
theorem gX6_look_X3_isDead : GoodIn wsX6_look (wsV RX6 80 RX3 yX3_isDead wsX3_isDead) := goodIn_app (goodIn_of _ (by decide +kernel)) ggX6_look_X3_isDead
set_option maxRecDepth 20000 in
theorem ggX6_look_X1_begin : GoodIn wsX6_look wsX1_begin := goodIn_r _ [26, 27, 28, 29, 30, 31, 32, 33, 34, 25, 35, 36, 37, 38, 39, 144, 145, 146, 147, 148] (by decide +kernel) (by decide +kernel)
set_option maxRecDepth 20000 in
theorem gX6_look_X1_begin : GoodIn wsX6_look (wsV RX6 117 RX1 yX1_begin wsX1_begin) := goodIn_app (goodIn_of _ (by decide +kernel)) ggX6_look_X1_begin
set_option maxRecDepth 20000 in
theorem ggX6_look_X6_hear : GoodIn wsX6_look wsX6_hear := goodIn_r _ [44, 7, 45, 1, 46, 47, 6, 48, 49, 50, 51, 52, 53, 54, 55, 56, 57, 13, 58, 59, 15, 60, 61, 62, 63, 64, 65, 66, 67, 68, 69, 70, 71, 72, 73, 74, 75, 76, 77, 78, 21, 11, 12, 14, 79, 43, 80, 81, 82, 83, 84, 85, 86, 87, 88, 17, 18, 19, 20, 89, 90, 91, 25, 92, 30, 32, 33, 34, 35, 28, 36, 37, 38, 39, 93, 94, 95, 96, 16, 97, 98, 99, 100, 31, 101, 102, 103, 104, 119, 120, 121, 122, 123, 124, 138, 139, 140, 141, 142, 143, 125, 126, 127, 128, 129, 130, 131, 132, 133, 134, 135, 144, 145, 146, 147, 148] (by decide +kernel) (by decide +kernel)
set_option maxRecDepth 20000 in
theorem gX6_look_X6_hear : GoodIn wsX6_look (wsV RX6 121 RX6 yX6_hear wsX6_hear) := goodIn_app (goodIn_of _ (by decide +kernel)) ggX6_look_X6_hear
set_option maxRecDepth 20000 in
theorem ggX6_look_X5_move : GoodIn wsX6_look wsX5_move := goodIn_r _ [108, 54, 109, 110, 111, 112, 77, 113, 114, 115, 116, 117, 118, 138, 139, 140, 141, 142, 143] (by decide +kernel) (by decide +kernel)
set_option maxRecDepth 20000 in
theorem gX6_look_X5_move : GoodIn wsX6_look (wsV RX6 125 RX5 yX5_move wsX5_move) := goodIn_app (goodIn_of _ (by decide +kernel)) ggX6_look_X5_move
theorem dX6_look_0 : decode cX6_look 0 = .ok (.aload_n 0, 1) := by decide +kernel
theorem dX6_look_1 : decode cX6_look 1 = .ok (.getfield 10, 3) := by decide +kernel
theorem dX6_look_4 : decode cX6_look 4 = .ok (.iload_n 1, 1) := by decide +kernel
theorem dX6_look_5 : decode cX6_look 5 = .ok (.invokevirtual 76, 3) := by decide +kernel
theorem dX6_look_8 : decode cX6_look 8 = .ok (.ifCond .ne 6, 3) := by decide +kernel
theorem dX6_look_11 : decode cX6_look 11 = .ok (.bipush (-2), 2) := by decide +kernel
theorem dX6_look_13 : decode cX6_look 13 = .ok (.ireturn, 1) := by decide +kernel
theorem dX6_look_14 : decode cX6_look 14 = .ok (.aload_n 0, 1) := by decide +kernel
theorem dX6_look_15 : decode cX6_look 15 = .ok (.getfield 10, 3) := by decide +kernel
theorem dX6_look_18 : decode cX6_look 18 = .ok (.iload_n 1, 1) := by decide +kernel
theorem dX6_look_19 : decode cX6_look 19 = .ok (.invokevirtual 80, 3) := by decide +kernel
theorem dX6_look_22 : decode cX6_look 22 = .ok (.ifCond .eq 6, 3) := by decide +kernel
theorem dX6_look_25 : decode cX6_look 25 = .ok (.bipush (-3), 2) := by decide +kernel
theorem dX6_look_27 : decode cX6_look 27 = .ok (.ireturn, 1) := by decide +kernel
theorem dX6_look_28 : decode cX6_look 28 = .ok (.aload_n 0, 1) := by decide +kernel
theorem dX6_look_29 : decode cX6_look 29 = .ok (.getfield 10, 3) := by decide +kernel
theorem dX6_look_32 : decode cX6_look 32 = .ok (.getfield 83, 3) := by decide +kernel
theorem dX6_look_35 : decode cX6_look 35 = .ok (.aload_n 0, 1) := by decide +kernel
theorem dX6_look_36 : decode cX6_look 36 = .ok (.getfield 10, 3) := by decide +kernel
theorem dX6_look_39 : decode cX6_look 39 = .ok (.getfield 83, 3) := by decide +kernel
theorem dX6_look_42 : decode cX6_look 42 = .ok (.imul, 1) := by decide +kernel
theorem dX6_look_43 : decode cX6_look 43 = .ok (.aload_n 0, 1) := by decide +kernel
theorem dX6_look_44 : decode cX6_look 44 = .ok (.getfield 10, 3) := by decide +kernel
theorem dX6_look_47 : decode cX6_look 47 = .ok (.getfield 83, 3) := by decide +kernel
theorem dX6_look_50 : decode cX6_look 50 = .ok (.imul, 1) := by decide +kernel
theorem dX6_look_51 : decode cX6_look 51 = .ok (.istore_n 2, 1) := by decide +kernel
theorem dX6_look_52 : decode cX6_look 52 = .ok (.aload_n 0, 1) := by decide +kernel
theorem dX6_look_53 : decode cX6_look 53 = .ok (.getfield 47, 3) := by decide +kernel
theorem dX6_look_56 : decode cX6_look 56 = .ok (.getfield 63, 3) := by decide +kernel
theorem dX6_look_59 : decode cX6_look 59 = .ok (.iload_n 2, 1) := by decide +kernel
theorem dX6_look_60 : decode cX6_look 60 = .ok (.iadd, 1) := by decide +kernel
theorem dX6_look_61 : decode cX6_look 61 = .ok (.aload_n 0, 1) := by decide +kernel
theorem dX6_look_62 : decode cX6_look 62 = .ok (.getfield 47, 3) := by decide +kernel
theorem dX6_look_65 : decode cX6_look 65 = .ok (.getfield 114, 3) := by decide +kernel
theorem dX6_look_68 : decode cX6_look 68 = .ok (.if_icmp .le 6, 3) := by decide +kernel
theorem dX6_look_71 : decode cX6_look 71 = .ok (.bipush (-5), 2) := by decide +kernel
theorem dX6_look_73 : decode cX6_look 73 = .ok (.ireturn, 1) := by decide +kernel
theorem dX6_look_74 : decode cX6_look 74 = .ok (.aload_n 0, 1) := by decide +kernel
theorem dX6_look_75 : decode cX6_look 75 = .ok (.getfield 47, 3) := by decide +kernel
theorem dX6_look_78 : decode cX6_look 78 = .ok (.dup, 1) := by decide +kernel
theorem dX6_look_79 : decode cX6_look 79 = .ok (.getfield 63, 3) := by decide +kernel
theorem dX6_look_82 : decode cX6_look 82 = .ok (.iload_n 2, 1) := by decide +kernel
theorem dX6_look_83 : decode cX6_look 83 = .ok (.iadd, 1) := by decide +kernel
theorem dX6_look_84 : decode cX6_look 84 = .ok (.putfield 63, 3) := by decide +kernel
theorem dX6_look_87 : decode cX6_look 87 = .ok (.aload_n 0, 1) := by decide +kernel
theorem dX6_look_88 : decode cX6_look 88 = .ok (.getfield 26, 3) := by decide +kernel
theorem dX6_look_91 : decode cX6_look 91 = .ok (.iload_n 1, 1) := by decide +kernel
theorem dX6_look_92 : decode cX6_look 92 = .ok (.invokevirtual 117, 3) := by decide +kernel
theorem dX6_look_95 : decode cX6_look 95 = .ok (.istore_n 3, 1) := by decide +kernel
theorem dX6_look_96 : decode cX6_look 96 = .ok (.iconst 0, 1) := by decide +kernel
theorem dX6_look_97 : decode cX6_look 97 = .ok (.istore 4, 2) := by decide +kernel
theorem dX6_look_99 : decode cX6_look 99 = .ok (.iload 4, 2) := by decide +kernel
theorem dX6_look_101 : decode cX6_look 101 = .ok (.aload_n 0, 1) := by decide +kernel
theorem dX6_look_102 : decode cX6_look 102 = .ok (.getfield 19, 3) := by decide +kernel
theorem dX6_look_105 : decode cX6_look 105 = .ok (.getfield 98, 3) := by decide +kernel
theorem dX6_look_108 : decode cX6_look 108 = .ok (.if_icmp .ge 16, 3) := by decide +kernel
theorem dX6_look_111 : decode cX6_look 111 = .ok (.aload_n 0, 1) := by decide +kernel
theorem dX6_look_112 : decode cX6_look 112 = .ok (.iload_n 3, 1) := by decide +kernel
theorem dX6_look_113 : decode cX6_look 113 = .ok (.iload 4, 2) := by decide +kernel
theorem dX6_look_115 : decode cX6_look 115 = .ok (.invokevirtual 121, 3) := by decide +kernel
theorem dX6_look_118 : decode cX6_look 118 = .ok (.iinc 4 1, 3) := by decide +kernel
theorem dX6_look_121 : decode cX6_look 121 = .ok (.goto (-22), 3) := by decide +kernel
theorem dX6_look_124 : decode cX6_look 124 = .ok (.aload_n 0, 1) := by decide +kernel
theorem dX6_look_125 : decode cX6_look 125 = .ok (.getfield 19, 3) := by decide +kernel
theorem dX6_look_128 : decode cX6_look 128 = .ok (.invokevirtual 125, 3) := by decide +kernel
theorem dX6_look_131 : decode cX6_look 131 = .ok (.aload_n 0, 1) := by decide +kernel
theorem dX6_look_132 : decode cX6_look 132 = .ok (.getfield 26, 3) := by decide +kernel
theorem dX6_look_135 : decode cX6_look 135 = .ok (.getfield 67, 3) := by decide +kernel
theorem dX6_look_138 : decode cX6_look 138 = .ok (.ireturn, 1) := by decide +kernel
set_option maxRecDepth 20000 in
theorem ggX6_hear_X5_has : GoodIn wsX6_hear wsX5_has := goodIn_r _ [12, 13, 94, 95, 96, 97, 98, 99] (by decide +kernel) (by decide +kernel)
set_option maxRecDepth 20000 in
theorem gX6_hear_X5_has : GoodIn wsX6_hear (wsV RX6 103 RX5 yX5_has wsX5_has) := goodIn_app (goodIn_of _ (by decide +kernel)) ggX6_hear_X5_has
set_option maxRecDepth 20000 in
theorem ggX6_hear_X3_aim : GoodIn wsX6_hear wsX3_aim := goodIn_r _ [18, 19, 20, 21, 22, 23, 24, 25, 17, 26, 27, 28, 29, 30, 31, 32, 33, 34, 35, 36, 37, 38, 39, 40, 41, 42, 43, 44, 45, 46, 47, 48, 49, 50, 51, 52, 53, 54, 55, 56, 57, 58, 100, 101, 102, 103, 104, 105, 106, 107, 108, 109, 110] (by decide +kernel) (by decide +kernel)
set_option maxRecDepth 20000 in
theorem gX6_hear_X3_aim : GoodIn wsX6_hear (wsV RX6 128 RX3 yX3_aim wsX3_aim) := goodIn_app (goodIn_of _ (by decide +kernel)) ggX6_hear_X3_aim
set_option maxRecDepth 20000 in
theorem ggX6_hear_X1_senderOf : GoodIn wsX6_hear wsX1_senderOf := goodIn_r _ [63, 64, 65, 66, 67, 62, 68, 69, 70, 71, 72, 73, 111, 112, 113, 114, 115] (by decide +kernel) (by decide +kernel)
set_option maxRecDepth 20000 in
theorem gX6_hear_X1_senderOf : GoodIn wsX6_hear (wsV RX6 131 RX1 yX1_senderOf wsX1_senderOf) := goodIn_app (goodIn_of _ (by decide +kernel)) ggX6_hear_X1_senderOf
set_option maxRecDepth 20000 in
theorem ggX6_hear_X3_aimedDelay : GoodIn wsX6_hear wsX3_aimedDelay := goodIn_r _ [77, 21, 40, 41, 42, 17, 43, 20, 100, 101, 102, 103, 104, 105, 106, 107, 108, 109, 110] (by decide +kernel) (by decide +kernel)
set_option maxRecDepth 20000 in
theorem gX6_hear_X3_aimedDelay : GoodIn wsX6_hear (wsV RX6 134 RX3 yX3_aimedDelay wsX3_aimedDelay) := goodIn_app (goodIn_of _ (by decide +kernel)) ggX6_hear_X3_aimedDelay
set_option maxRecDepth 20000 in
theorem ggX6_hear_X3_isDead : GoodIn wsX6_hear wsX3_isDead := goodIn_r _ [57, 58, 40, 41, 42, 17, 43, 20, 100, 101, 102, 103, 104, 105, 106, 107, 108, 109, 110] (by decide +kernel) (by decide +kernel)
set_option maxRecDepth 20000 in
theorem gX6_hear_X3_isDead : GoodIn wsX6_hear (wsV RX6 80 RX3 yX3_isDead wsX3_isDead) := goodIn_app (goodIn_of _ (by decide +kernel)) ggX6_hear_X3_isDead
set_option maxRecDepth 20000 in
theorem ggX6_hear_X1_louder : GoodIn wsX6_hear wsX1_louder := goodIn_r _ [82, 83, 84, 85, 86, 62, 87, 65, 66, 67, 68, 69, 70, 71, 72, 73, 111, 112, 113, 114, 115] (by decide +kernel) (by decide +kernel)
set_option maxRecDepth 20000 in
theorem gX6_hear_X1_louder : GoodIn wsX6_hear (wsV RX6 138 RX1 yX1_louder wsX1_louder) := goodIn_app (goodIn_of _ (by decide +kernel)) ggX6_hear_X1_louder
theorem dX6_hear_0 : decode cX6_hear 0 = .ok (.aload_n 0, 1) := by decide +kernel
theorem dX6_hear_1 : decode cX6_hear 1 = .ok (.getfield 19, 3) := by decide +kernel
theorem dX6_hear_4 : decode cX6_hear 4 = .ok (.iload_n 2, 1) := by decide +kernel
theorem dX6_hear_5 : decode cX6_hear 5 = .ok (.invokevirtual 103, 3) := by decide +kernel
theorem dX6_hear_8 : decode cX6_hear 8 = .ok (.ifCond .ne 4, 3) := by decide +kernel
theorem dX6_hear_11 : decode cX6_hear 11 = .ok (.return_, 1) := by decide +kernel
theorem dX6_hear_12 : decode cX6_hear 12 = .ok (.aload_n 0, 1) := by decide +kernel
theorem dX6_hear_13 : decode cX6_hear 13 = .ok (.getfield 19, 3) := by decide +kernel
theorem dX6_hear_16 : decode cX6_hear 16 = .ok (.getfield 111, 3) := by decide +kernel
theorem dX6_hear_19 : decode cX6_hear 19 = .ok (.iload_n 2, 1) := by decide +kernel
theorem dX6_hear_20 : decode cX6_hear 20 = .ok (.iaload, 1) := by decide +kernel
theorem dX6_hear_21 : decode cX6_hear 21 = .ok (.istore_n 3, 1) := by decide +kernel
theorem dX6_hear_22 : decode cX6_hear 22 = .ok (.aload_n 0, 1) := by decide +kernel
theorem dX6_hear_23 : decode cX6_hear 23 = .ok (.getfield 10, 3) := by decide +kernel
theorem dX6_hear_26 : decode cX6_hear 26 = .ok (.aload_n 0, 1) := by decide +kernel
theorem dX6_hear_27 : decode cX6_hear 27 = .ok (.getfield 19, 3) := by decide +kernel
theorem dX6_hear_30 : decode cX6_hear 30 = .ok (.getfield 104, 3) := by decide +kernel
theorem dX6_hear_33 : decode cX6_hear 33 = .ok (.iload_n 2, 1) := by decide +kernel
theorem dX6_hear_34 : decode cX6_hear 34 = .ok (.iaload, 1) := by decide +kernel
theorem dX6_hear_35 : decode cX6_hear 35 = .ok (.aload_n 0, 1) := by decide +kernel
theorem dX6_hear_36 : decode cX6_hear 36 = .ok (.getfield 19, 3) := by decide +kernel
theorem dX6_hear_39 : decode cX6_hear 39 = .ok (.getfield 108, 3) := by decide +kernel
theorem dX6_hear_42 : decode cX6_hear 42 = .ok (.iload_n 2, 1) := by decide +kernel
theorem dX6_hear_43 : decode cX6_hear 43 = .ok (.iaload, 1) := by decide +kernel
theorem dX6_hear_44 : decode cX6_hear 44 = .ok (.invokevirtual 128, 3) := by decide +kernel
theorem dX6_hear_47 : decode cX6_hear 47 = .ok (.aload_n 0, 1) := by decide +kernel
theorem dX6_hear_48 : decode cX6_hear 48 = .ok (.getfield 10, 3) := by decide +kernel
theorem dX6_hear_51 : decode cX6_hear 51 = .ok (.aload_n 0, 1) := by decide +kernel
theorem dX6_hear_52 : decode cX6_hear 52 = .ok (.getfield 26, 3) := by decide +kernel
theorem dX6_hear_55 : decode cX6_hear 55 = .ok (.iload_n 1, 1) := by decide +kernel
theorem dX6_hear_56 : decode cX6_hear 56 = .ok (.invokevirtual 131, 3) := by decide +kernel
theorem dX6_hear_59 : decode cX6_hear 59 = .ok (.invokevirtual 134, 3) := by decide +kernel
theorem dX6_hear_62 : decode cX6_hear 62 = .ok (.istore 4, 2) := by decide +kernel
theorem dX6_hear_64 : decode cX6_hear 64 = .ok (.iconst 0, 1) := by decide +kernel
theorem dX6_hear_65 : decode cX6_hear 65 = .ok (.istore 5, 2) := by decide +kernel
theorem dX6_hear_67 : decode cX6_hear 67 = .ok (.iload 5, 2) := by decide +kernel
theorem dX6_hear_69 : decode cX6_hear 69 = .ok (.aload_n 0, 1) := by decide +kernel
theorem dX6_hear_70 : decode cX6_hear 70 = .ok (.getfield 10, 3) := by decide +kernel
theorem dX6_hear_73 : decode cX6_hear 73 = .ok (.getfield 137, 3) := by decide +kernel
theorem dX6_hear_76 : decode cX6_hear 76 = .ok (.if_icmp .ge 80, 3) := by decide +kernel
theorem dX6_hear_79 : decode cX6_hear 79 = .ok (.aload_n 0, 1) := by decide +kernel
theorem dX6_hear_80 : decode cX6_hear 80 = .ok (.getfield 10, 3) := by decide +kernel
theorem dX6_hear_83 : decode cX6_hear 83 = .ok (.iload 5, 2) := by decide +kernel
theorem dX6_hear_85 : decode cX6_hear 85 = .ok (.invokevirtual 80, 3) := by decide +kernel
theorem dX6_hear_88 : decode cX6_hear 88 = .ok (.ifCond .ne 62, 3) := by decide +kernel
theorem dX6_hear_91 : decode cX6_hear 91 = .ok (.iload 4, 2) := by decide +kernel
theorem dX6_hear_93 : decode cX6_hear 93 = .ok (.aload_n 0, 1) := by decide +kernel
theorem dX6_hear_94 : decode cX6_hear 94 = .ok (.getfield 10, 3) := by decide +kernel
theorem dX6_hear_97 : decode cX6_hear 97 = .ok (.iload 5, 2) := by decide +kernel
theorem dX6_hear_99 : decode cX6_hear 99 = .ok (.invokevirtual 134, 3) := by decide +kernel
theorem dX6_hear_102 : decode cX6_hear 102 = .ok (.iadd, 1) := by decide +kernel
theorem dX6_hear_103 : decode cX6_hear 103 = .ok (.istore 6, 2) := by decide +kernel
theorem dX6_hear_105 : decode cX6_hear 105 = .ok (.aload_n 0, 1) := by decide +kernel
theorem dX6_hear_106 : decode cX6_hear 106 = .ok (.getfield 26, 3) := by decide +kernel
theorem dX6_hear_109 : decode cX6_hear 109 = .ok (.iload_n 1, 1) := by decide +kernel
theorem dX6_hear_110 : decode cX6_hear 110 = .ok (.iload 5, 2) := by decide +kernel
theorem dX6_hear_112 : decode cX6_hear 112 = .ok (.iload 6, 2) := by decide +kernel
theorem dX6_hear_114 : decode cX6_hear 114 = .ok (.iconst 1, 1) := by decide +kernel
theorem dX6_hear_115 : decode cX6_hear 115 = .ok (.isub, 1) := by decide +kernel
theorem dX6_hear_116 : decode cX6_hear 116 = .ok (.iload_n 3, 1) := by decide +kernel
theorem dX6_hear_117 : decode cX6_hear 117 = .ok (.invokevirtual 138, 3) := by decide +kernel
theorem dX6_hear_120 : decode cX6_hear 120 = .ok (.aload_n 0, 1) := by decide +kernel
theorem dX6_hear_121 : decode cX6_hear 121 = .ok (.getfield 26, 3) := by decide +kernel
theorem dX6_hear_124 : decode cX6_hear 124 = .ok (.iload_n 1, 1) := by decide +kernel
theorem dX6_hear_125 : decode cX6_hear 125 = .ok (.iload 5, 2) := by decide +kernel
theorem dX6_hear_127 : decode cX6_hear 127 = .ok (.iload 6, 2) := by decide +kernel
theorem dX6_hear_129 : decode cX6_hear 129 = .ok (.iconst 2, 1) := by decide +kernel
theorem dX6_hear_130 : decode cX6_hear 130 = .ok (.iload_n 3, 1) := by decide +kernel
theorem dX6_hear_131 : decode cX6_hear 131 = .ok (.imul, 1) := by decide +kernel
theorem dX6_hear_132 : decode cX6_hear 132 = .ok (.invokevirtual 138, 3) := by decide +kernel
theorem dX6_hear_135 : decode cX6_hear 135 = .ok (.aload_n 0, 1) := by decide +kernel
theorem dX6_hear_136 : decode cX6_hear 136 = .ok (.getfield 26, 3) := by decide +kernel
theorem dX6_hear_139 : decode cX6_hear 139 = .ok (.iload_n 1, 1) := by decide +kernel
theorem dX6_hear_140 : decode cX6_hear 140 = .ok (.iload 5, 2) := by decide +kernel
theorem dX6_hear_142 : decode cX6_hear 142 = .ok (.iload 6, 2) := by decide +kernel
theorem dX6_hear_144 : decode cX6_hear 144 = .ok (.iconst 1, 1) := by decide +kernel
theorem dX6_hear_145 : decode cX6_hear 145 = .ok (.iadd, 1) := by decide +kernel
theorem dX6_hear_146 : decode cX6_hear 146 = .ok (.iload_n 3, 1) := by decide +kernel
theorem dX6_hear_147 : decode cX6_hear 147 = .ok (.invokevirtual 138, 3) := by decide +kernel
theorem dX6_hear_150 : decode cX6_hear 150 = .ok (.iinc 5 1, 3) := by decide +kernel
theorem dX6_hear_153 : decode cX6_hear 153 = .ok (.goto (-86), 3) := by decide +kernel
theorem dX6_hear_156 : decode cX6_hear 156 = .ok (.return_, 1) := by decide +kernel
set_option maxRecDepth 20000 in
theorem ggX6_sample_X1_has : GoodIn wsX6_sample wsX1_has := goodIn_r _ [8, 9, 44, 45, 46, 47, 48] (by decide +kernel) (by decide +kernel)
set_option maxRecDepth 20000 in
theorem gX6_sample_X1_has : GoodIn wsX6_sample (wsV RX6 142 RX1 yX1_has wsX1_has) := goodIn_app (goodIn_of _ (by decide +kernel)) ggX6_sample_X1_has
set_option maxRecDepth 20000 in
theorem ggX6_sample_X3_has : GoodIn wsX6_sample wsX3_has := goodIn_r _ [14, 15, 49, 50, 51, 52, 53, 54, 55, 56, 57, 58, 59] (by decide +kernel) (by decide +kernel)
set_option maxRecDepth 20000 in
theorem gX6_sample_X3_has : GoodIn wsX6_sample (wsV RX6 76 RX3 yX3_has wsX3_has) := goodIn_app (goodIn_of _ (by decide +kernel)) ggX6_sample_X3_has
set_option maxRecDepth 20000 in
theorem ggX6_sample_X6_within : GoodIn wsX6_sample wsX6_within := goodIn_r _ [19] (by decide +kernel) (by decide +kernel)
set_option maxRecDepth 20000 in
theorem gX6_sample_X6_within : GoodIn wsX6_sample (va_wsS RX6 51 yX6_within wsX6_within) := goodIn_app (goodIn_of _ (by decide +kernel)) ggX6_sample_X6_within
set_option maxRecDepth 20000 in
theorem ggX6_sample_X1_at : GoodIn wsX6_sample wsX1_at := goodIn_r _ [23, 24, 25, 26, 27, 7, 28, 29, 30, 31, 32, 33, 34, 35, 36, 37, 44, 45, 46, 47, 48] (by decide +kernel) (by decide +kernel)
set_option maxRecDepth 20000 in
theorem gX6_sample_X1_at : GoodIn wsX6_sample (wsV RX6 144 RX1 yX1_at wsX1_at) := goodIn_app (goodIn_of _ (by decide +kernel)) ggX6_sample_X1_at
theorem dX6_sample_0 : decode cX6_sample 0 = .ok (.aload_n 0, 1) := by decide +kernel
theorem dX6_sample_1 : decode cX6_sample 1 = .ok (.getfield 26, 3) := by decide +kernel
theorem dX6_sample_4 : decode cX6_sample 4 = .ok (.iload_n 1, 1) := by decide +kernel
theorem dX6_sample_5 : decode cX6_sample 5 = .ok (.invokevirtual 142, 3) := by decide +kernel
theorem dX6_sample_8 : decode cX6_sample 8 = .ok (.ifCond .eq 25, 3) := by decide +kernel
theorem dX6_sample_11 : decode cX6_sample 11 = .ok (.aload_n 0, 1) := by decide +kernel
theorem dX6_sample_12 : decode cX6_sample 12 = .ok (.getfield 10, 3) := by decide +kernel
theorem dX6_sample_15 : decode cX6_sample 15 = .ok (.iload_n 2, 1) := by decide +kernel
theorem dX6_sample_16 : decode cX6_sample 16 = .ok (.invokevirtual 76, 3) := by decide +kernel
theorem dX6_sample_19 : decode cX6_sample 19 = .ok (.ifCond .eq 14, 3) := by decide +kernel
theorem dX6_sample_22 : decode cX6_sample 22 = .ok (.iload_n 3, 1) := by decide +kernel
theorem dX6_sample_23 : decode cX6_sample 23 = .ok (.iconst 0, 1) := by decide +kernel
theorem dX6_sample_24 : decode cX6_sample 24 = .ok (.sipush 399, 3) := by decide +kernel
theorem dX6_sample_27 : decode cX6_sample 27 = .ok (.invokestatic 51, 3) := by decide +kernel
theorem dX6_sample_30 : decode cX6_sample 30 = .ok (.ifCond .ne 6, 3) := by decide +kernel
theorem dX6_sample_33 : decode cX6_sample 33 = .ok (.ldc 143, 2) := by decide +kernel
theorem dX6_sample_35 : decode cX6_sample 35 = .ok (.ireturn, 1) := by decide +kernel
theorem dX6_sample_36 : decode cX6_sample 36 = .ok (.aload_n 0, 1) := by decide +kernel
theorem dX6_sample_37 : decode cX6_sample 37 = .ok (.getfield 26, 3) := by decide +kernel
theorem dX6_sample_40 : decode cX6_sample 40 = .ok (.iload_n 1, 1) := by decide +kernel
theorem dX6_sample_41 : decode cX6_sample 41 = .ok (.iload_n 2, 1) := by decide +kernel
theorem dX6_sample_42 : decode cX6_sample 42 = .ok (.iload_n 3, 1) := by decide +kernel
theorem dX6_sample_43 : decode cX6_sample 43 = .ok (.invokevirtual 144, 3) := by decide +kernel
theorem dX6_sample_46 : decode cX6_sample 46 = .ok (.ireturn, 1) := by decide +kernel
set_option maxRecDepth 20000 in
theorem ggX6_window_X6_within : GoodIn wsX6_window wsX6_within := goodIn_r _ [7] (by decide +kernel) (by decide +kernel)
set_option maxRecDepth 20000 in
theorem gX6_window_X6_within : GoodIn wsX6_window (va_wsS RX6 51 yX6_within wsX6_within) := goodIn_app (goodIn_of _ (by decide +kernel)) ggX6_window_X6_within
theorem dX6_window_0 : decode cX6_window 0 = .ok (.iload_n 1, 1) := by decide +kernel
theorem dX6_window_1 : decode cX6_window 1 = .ok (.iconst 0, 1) := by decide +kernel
theorem dX6_window_2 : decode cX6_window 2 = .ok (.iconst 2, 1) := by decide +kernel
theorem dX6_window_3 : decode cX6_window 3 = .ok (.invokestatic 51, 3) := by decide +kernel
theorem dX6_window_6 : decode cX6_window 6 = .ok (.ifCond .eq 13, 3) := by decide +kernel
theorem dX6_window_9 : decode cX6_window 9 = .ok (.iload_n 2, 1) := by decide +kernel
theorem dX6_window_10 : decode cX6_window 10 = .ok (.iconst 1, 1) := by decide +kernel
theorem dX6_window_11 : decode cX6_window 11 = .ok (.bipush 9, 2) := by decide +kernel
theorem dX6_window_13 : decode cX6_window 13 = .ok (.invokestatic 51, 3) := by decide +kernel
theorem dX6_window_16 : decode cX6_window 16 = .ok (.ifCond .ne 6, 3) := by decide +kernel
theorem dX6_window_19 : decode cX6_window 19 = .ok (.bipush (-2), 2) := by decide +kernel
theorem dX6_window_21 : decode cX6_window 21 = .ok (.ireturn, 1) := by decide +kernel
theorem dX6_window_22 : decode cX6_window 22 = .ok (.aload_n 0, 1) := by decide +kernel
theorem dX6_window_23 : decode cX6_window 23 = .ok (.getfield 10, 3) := by decide +kernel
theorem dX6_window_26 : decode cX6_window 26 = .ok (.getfield 147, 3) := by decide +kernel
theorem dX6_window_29 : decode cX6_window 29 = .ok (.istore_n 3, 1) := by decide +kernel
theorem dX6_window_30 : decode cX6_window 30 = .ok (.aload_n 0, 1) := by decide +kernel
theorem dX6_window_31 : decode cX6_window 31 = .ok (.getfield 10, 3) := by decide +kernel
theorem dX6_window_34 : decode cX6_window 34 = .ok (.iload_n 1, 1) := by decide +kernel
theorem dX6_window_35 : decode cX6_window 35 = .ok (.putfield 147, 3) := by decide +kernel
theorem dX6_window_38 : decode cX6_window 38 = .ok (.aload_n 0, 1) := by decide +kernel
theorem dX6_window_39 : decode cX6_window 39 = .ok (.getfield 10, 3) := by decide +kernel
theorem dX6_window_42 : decode cX6_window 42 = .ok (.iload_n 2, 1) := by decide +kernel
theorem dX6_window_43 : decode cX6_window 43 = .ok (.putfield 150, 3) := by decide +kernel
theorem dX6_window_46 : decode cX6_window 46 = .ok (.iload_n 3, 1) := by decide +kernel
theorem dX6_window_47 : decode cX6_window 47 = .ok (.ireturn, 1) := by decide +kernel
set_option maxRecDepth 20000 in
theorem ggX6_weight_X3_has : GoodIn wsX6_weight wsX3_has := goodIn_r _ [6, 7, 42, 43, 44, 45, 46, 47, 48, 49, 50, 51, 52] (by decide +kernel) (by decide +kernel)
set_option maxRecDepth 20000 in
theorem gX6_weight_X3_has : GoodIn wsX6_weight (wsV RX6 76 RX3 yX3_has wsX3_has) := goodIn_app (goodIn_of _ (by decide +kernel)) ggX6_weight_X3_has
set_option maxRecDepth 20000 in
theorem ggX6_weight_X6_isPlace : GoodIn wsX6_weight wsX6_isPlace := goodIn_r _ [11, 12, 13, 10, 14] (by decide +kernel) (by decide +kernel)
set_option maxRecDepth 20000 in
theorem gX6_weight_X6_isPlace : GoodIn wsX6_weight (va_wsS RX6 90 yX6_isPlace wsX6_isPlace) := goodIn_app (goodIn_of _ (by decide +kernel)) ggX6_weight_X6_isPlace
set_option maxRecDepth 20000 in
theorem ggX6_weight_X3_weightOf : GoodIn wsX6_weight wsX3_weightOf := goodIn_r _ [18, 19, 20, 21, 3, 4, 5, 6, 7, 22, 23, 24, 25, 26, 27, 28, 29, 30, 31, 32, 33, 34, 35, 42, 43, 44, 45, 46, 47, 48, 49, 50, 51, 52] (by decide +kernel) (by decide +kernel)
set_option maxRecDepth 20000 in
theorem gX6_weight_X3_weightOf : GoodIn wsX6_weight (wsV RX6 153 RX3 yX3_weightOf wsX3_weightOf) := goodIn_app (goodIn_of _ (by decide +kernel)) ggX6_weight_X3_weightOf
theorem dX6_weight_0 : decode cX6_weight 0 = .ok (.aload_n 0, 1) := by decide +kernel
theorem dX6_weight_1 : decode cX6_weight 1 = .ok (.getfield 10, 3) := by decide +kernel
theorem dX6_weight_4 : decode cX6_weight 4 = .ok (.iload_n 1, 1) := by decide +kernel
theorem dX6_weight_5 : decode cX6_weight 5 = .ok (.invokevirtual 76, 3) := by decide +kernel
theorem dX6_weight_8 : decode cX6_weight 8 = .ok (.ifCond .eq 11, 3) := by decide +kernel
theorem dX6_weight_11 : decode cX6_weight 11 = .ok (.iload_n 2, 1) := by decide +kernel
theorem dX6_weight_12 : decode cX6_weight 12 = .ok (.iload_n 3, 1) := by decide +kernel
theorem dX6_weight_13 : decode cX6_weight 13 = .ok (.invokestatic 90, 3) := by decide +kernel
theorem dX6_weight_16 : decode cX6_weight 16 = .ok (.ifCond .ne 6, 3) := by decide +kernel
theorem dX6_weight_19 : decode cX6_weight 19 = .ok (.bipush (-2), 2) := by decide +kernel
theorem dX6_weight_21 : decode cX6_weight 21 = .ok (.ireturn, 1) := by decide +kernel
theorem dX6_weight_22 : decode cX6_weight 22 = .ok (.aload_n 0, 1) := by decide +kernel
theorem dX6_weight_23 : decode cX6_weight 23 = .ok (.getfield 10, 3) := by decide +kernel
theorem dX6_weight_26 : decode cX6_weight 26 = .ok (.iload_n 1, 1) := by decide +kernel
theorem dX6_weight_27 : decode cX6_weight 27 = .ok (.iload_n 2, 1) := by decide +kernel
theorem dX6_weight_28 : decode cX6_weight 28 = .ok (.iload_n 3, 1) := by decide +kernel
theorem dX6_weight_29 : decode cX6_weight 29 = .ok (.invokevirtual 153, 3) := by decide +kernel
theorem dX6_weight_32 : decode cX6_weight 32 = .ok (.ireturn, 1) := by decide +kernel
set_option maxRecDepth 20000 in
theorem ggX6_sum_X1_has : GoodIn wsX6_sum wsX1_has := goodIn_r _ [8, 9, 103, 104, 105, 106, 107] (by decide +kernel) (by decide +kernel)
set_option maxRecDepth 20000 in
theorem gX6_sum_X1_has : GoodIn wsX6_sum (wsV RX6 142 RX1 yX1_has wsX1_has) := goodIn_app (goodIn_of _ (by decide +kernel)) ggX6_sum_X1_has
set_option maxRecDepth 20000 in
theorem ggX6_sum_X6_isPlace : GoodIn wsX6_sum wsX6_isPlace := goodIn_r _ [13, 14, 15, 12, 16] (by decide +kernel) (by decide +kernel)
set_option maxRecDepth 20000 in
theorem gX6_sum_X6_isPlace : GoodIn wsX6_sum (va_wsS RX6 90 yX6_isPlace wsX6_isPlace) := goodIn_app (goodIn_of _ (by decide +kernel)) ggX6_sum_X6_isPlace
set_option maxRecDepth 20000 in
theorem ggX6_sum_X3_aim : GoodIn wsX6_sum wsX3_aim := goodIn_r _ [21, 22, 23, 24, 25, 26, 27, 28, 20, 29, 30, 31, 32, 33, 34, 35, 36, 37, 38, 39, 40, 41, 42, 43, 44, 45, 46, 47, 12, 48, 49, 50, 51, 52, 53, 54, 55, 56, 57, 58, 59, 60, 108, 109, 110, 111, 112, 113, 114, 115, 116, 117, 118] (by decide +kernel) (by decide +kernel)
set_option maxRecDepth 20000 in
theorem gX6_sum_X3_aim : GoodIn wsX6_sum (wsV RX6 128 RX3 yX3_aim wsX3_aim) := goodIn_app (goodIn_of _ (by decide +kernel)) ggX6_sum_X3_aim
set_option maxRecDepth 20000 in
theorem ggX6_sum_X6_aimedSum : GoodIn wsX6_sum wsX6_aimedSum := goodIn_r _ [64, 3, 1, 65, 66, 67, 68, 7, 69, 70, 71, 72, 73, 74, 75, 76, 77, 78, 79, 80, 81, 82, 20, 83, 24, 43, 44, 45, 46, 23, 84, 85, 86, 87, 25, 88, 89, 90, 91, 92, 93, 94, 95, 96, 97, 98, 99, 100, 101, 102, 108, 109, 110, 111, 112, 113, 114, 115, 116, 117, 118, 103, 104, 105, 106, 107] (by decide +kernel) (by decide +kernel)
set_option maxRecDepth 20000 in
theorem gX6_sum_X6_aimedSum : GoodIn wsX6_sum (wsV RX6 157 RX6 yX6_aimedSum wsX6_aimedSum) := goodIn_app (goodIn_of _ (by decide +kernel)) ggX6_sum_X6_aimedSum
theorem dX6_sum_0 : decode cX6_sum 0 = .ok (.aload_n 0, 1) := by decide +kernel
theorem dX6_sum_1 : decode cX6_sum 1 = .ok (.getfield 26, 3) := by decide +kernel
theorem dX6_sum_4 : decode cX6_sum 4 = .ok (.iload_n 1, 1) := by decide +kernel
theorem dX6_sum_5 : decode cX6_sum 5 = .ok (.invokevirtual 142, 3) := by decide +kernel
theorem dX6_sum_8 : decode cX6_sum 8 = .ok (.ifCond .eq 11, 3) := by decide +kernel
theorem dX6_sum_11 : decode cX6_sum 11 = .ok (.iload_n 2, 1) := by decide +kernel
theorem dX6_sum_12 : decode cX6_sum 12 = .ok (.iload_n 3, 1) := by decide +kernel
theorem dX6_sum_13 : decode cX6_sum 13 = .ok (.invokestatic 90, 3) := by decide +kernel
theorem dX6_sum_16 : decode cX6_sum 16 = .ok (.ifCond .ne 6, 3) := by decide +kernel
theorem dX6_sum_19 : decode cX6_sum 19 = .ok (.ldc 156, 2) := by decide +kernel
theorem dX6_sum_21 : decode cX6_sum 21 = .ok (.ireturn, 1) := by decide +kernel
theorem dX6_sum_22 : decode cX6_sum 22 = .ok (.aload_n 0, 1) := by decide +kernel
theorem dX6_sum_23 : decode cX6_sum 23 = .ok (.getfield 10, 3) := by decide +kernel
theorem dX6_sum_26 : decode cX6_sum 26 = .ok (.iload_n 2, 1) := by decide +kernel
theorem dX6_sum_27 : decode cX6_sum 27 = .ok (.iload_n 3, 1) := by decide +kernel
theorem dX6_sum_28 : decode cX6_sum 28 = .ok (.invokevirtual 128, 3) := by decide +kernel
theorem dX6_sum_31 : decode cX6_sum 31 = .ok (.aload_n 0, 1) := by decide +kernel
theorem dX6_sum_32 : decode cX6_sum 32 = .ok (.iload_n 1, 1) := by decide +kernel
theorem dX6_sum_33 : decode cX6_sum 33 = .ok (.invokevirtual 157, 3) := by decide +kernel
theorem dX6_sum_36 : decode cX6_sum 36 = .ok (.ireturn, 1) := by decide +kernel
set_option maxRecDepth 20000 in
theorem ggX6_mean_X6_areLooks : GoodIn wsX6_mean wsX6_areLooks := goodIn_r _ [6, 7, 8, 102, 103, 104, 105, 106, 107, 108, 109, 110, 111, 112] (by decide +kernel) (by decide +kernel)
set_option maxRecDepth 20000 in
theorem gX6_mean_X6_areLooks : GoodIn wsX6_mean (wsV RX6 160 RX6 yX6_areLooks wsX6_areLooks) := goodIn_app (goodIn_of _ (by decide +kernel)) ggX6_mean_X6_areLooks
set_option maxRecDepth 20000 in
theorem ggX6_mean_X6_isPlace : GoodIn wsX6_mean wsX6_isPlace := goodIn_r _ [11, 12, 13, 5, 14] (by decide +kernel) (by decide +kernel)
set_option maxRecDepth 20000 in
theorem gX6_mean_X6_isPlace : GoodIn wsX6_mean (va_wsS RX6 90 yX6_isPlace wsX6_isPlace) := goodIn_app (goodIn_of _ (by decide +kernel)) ggX6_mean_X6_isPlace
set_option maxRecDepth 20000 in
theorem ggX6_mean_X6_joinedMean : GoodIn wsX6_mean wsX6_joinedMean := goodIn_r _ [18, 19, 7, 8, 20, 9, 10, 5, 11, 12, 13, 14, 21, 22, 23, 24, 25, 26, 27, 28, 29, 30, 31, 32, 33, 34, 35, 36, 37, 38, 39, 40, 41, 42, 43, 44, 45, 46, 47, 48, 49, 50, 51, 52, 53, 54, 55, 56, 57, 58, 59, 60, 61, 62, 63, 64, 65, 66, 67, 68, 69, 70, 71, 72, 73, 74, 75, 76, 77, 78, 79, 80, 81, 82, 83, 84, 85, 86, 87, 88, 89, 90, 91, 92, 93, 94, 95, 96, 97, 98, 99, 100, 101, 102, 103, 104, 105, 106, 107, 108, 109, 110, 111, 112, 113, 114, 115, 116, 117, 118, 119, 120, 121, 122, 123] (by decide +kernel) (by decide +kernel)
set_option maxRecDepth 20000 in
theorem gX6_mean_X6_joinedMean : GoodIn wsX6_mean (wsV RX6 163 RX6 yX6_joinedMean wsX6_joinedMean) := goodIn_app (goodIn_of _ (by decide +kernel)) ggX6_mean_X6_joinedMean
theorem dX6_mean_0 : decode cX6_mean 0 = .ok (.aload_n 0, 1) := by decide +kernel
theorem dX6_mean_1 : decode cX6_mean 1 = .ok (.iload_n 1, 1) := by decide +kernel
theorem dX6_mean_2 : decode cX6_mean 2 = .ok (.invokevirtual 160, 3) := by decide +kernel
theorem dX6_mean_5 : decode cX6_mean 5 = .ok (.ifCond .eq 11, 3) := by decide +kernel
theorem dX6_mean_8 : decode cX6_mean 8 = .ok (.iload_n 2, 1) := by decide +kernel
theorem dX6_mean_9 : decode cX6_mean 9 = .ok (.iload_n 3, 1) := by decide +kernel
theorem dX6_mean_10 : decode cX6_mean 10 = .ok (.invokestatic 90, 3) := by decide +kernel
theorem dX6_mean_13 : decode cX6_mean 13 = .ok (.ifCond .ne 6, 3) := by decide +kernel
theorem dX6_mean_16 : decode cX6_mean 16 = .ok (.ldc 156, 2) := by decide +kernel
theorem dX6_mean_18 : decode cX6_mean 18 = .ok (.ireturn, 1) := by decide +kernel
theorem dX6_mean_19 : decode cX6_mean 19 = .ok (.aload_n 0, 1) := by decide +kernel
theorem dX6_mean_20 : decode cX6_mean 20 = .ok (.iload_n 1, 1) := by decide +kernel
theorem dX6_mean_21 : decode cX6_mean 21 = .ok (.iload_n 2, 1) := by decide +kernel
theorem dX6_mean_22 : decode cX6_mean 22 = .ok (.iload_n 3, 1) := by decide +kernel
theorem dX6_mean_23 : decode cX6_mean 23 = .ok (.invokevirtual 163, 3) := by decide +kernel
theorem dX6_mean_26 : decode cX6_mean 26 = .ok (.ireturn, 1) := by decide +kernel
set_option maxRecDepth 20000 in
theorem ggX6_aimedSum_X1_senderOf : GoodIn wsX6_aimedSum wsX1_senderOf := goodIn_r _ [8, 9, 10, 11, 12, 7, 13, 14, 15, 16, 17, 18, 61, 62, 63, 64, 65] (by decide +kernel) (by decide +kernel)
set_option maxRecDepth 20000 in
theorem gX6_aimedSum_X1_senderOf : GoodIn wsX6_aimedSum (wsV RX6 131 RX1 yX1_senderOf wsX1_senderOf) := goodIn_app (goodIn_of _ (by decide +kernel)) ggX6_aimedSum_X1_senderOf
set_option maxRecDepth 20000 in
theorem ggX6_aimedSum_X3_aimedDelay : GoodIn wsX6_aimedSum wsX3_aimedDelay := goodIn_r _ [23, 24, 25, 26, 27, 22, 28, 29, 50, 51, 52, 53, 54, 55, 56, 57, 58, 59, 60] (by decide +kernel) (by decide +kernel)
set_option maxRecDepth 20000 in
theorem gX6_aimedSum_X3_aimedDelay : GoodIn wsX6_aimedSum (wsV RX6 134 RX3 yX3_aimedDelay wsX3_aimedDelay) := goodIn_app (goodIn_of _ (by decide +kernel)) ggX6_aimedSum_X3_aimedDelay
set_option maxRecDepth 20000 in
theorem ggX6_aimedSum_X3_aimedWeight : GoodIn wsX6_aimedSum wsX3_aimedWeight := goodIn_r _ [33, 34, 25, 26, 27, 22, 28, 29, 50, 51, 52, 53, 54, 55, 56, 57, 58, 59, 60] (by decide +kernel) (by decide +kernel)
set_option maxRecDepth 20000 in
theorem gX6_aimedSum_X3_aimedWeight : GoodIn wsX6_aimedSum (wsV RX6 166 RX3 yX3_aimedWeight wsX3_aimedWeight) := goodIn_app (goodIn_of _ (by decide +kernel)) ggX6_aimedSum_X3_aimedWeight
set_option maxRecDepth 20000 in
theorem ggX6_aimedSum_X1_at : GoodIn wsX6_aimedSum wsX1_at := goodIn_r _ [38, 39, 40, 41, 42, 7, 43, 10, 11, 12, 13, 14, 15, 16, 17, 18, 61, 62, 63, 64, 65] (by decide +kernel) (by decide +kernel)
set_option maxRecDepth 20000 in
theorem gX6_aimedSum_X1_at : GoodIn wsX6_aimedSum (wsV RX6 144 RX1 yX1_at wsX1_at) := goodIn_app (goodIn_of _ (by decide +kernel)) ggX6_aimedSum_X1_at
theorem dX6_aimedSum_0 : decode cX6_aimedSum 0 = .ok (.aload_n 0, 1) := by decide +kernel
theorem dX6_aimedSum_1 : decode cX6_aimedSum 1 = .ok (.getfield 10, 3) := by decide +kernel
theorem dX6_aimedSum_4 : decode cX6_aimedSum 4 = .ok (.aload_n 0, 1) := by decide +kernel
theorem dX6_aimedSum_5 : decode cX6_aimedSum 5 = .ok (.getfield 26, 3) := by decide +kernel
theorem dX6_aimedSum_8 : decode cX6_aimedSum 8 = .ok (.iload_n 1, 1) := by decide +kernel
theorem dX6_aimedSum_9 : decode cX6_aimedSum 9 = .ok (.invokevirtual 131, 3) := by decide +kernel
theorem dX6_aimedSum_12 : decode cX6_aimedSum 12 = .ok (.invokevirtual 134, 3) := by decide +kernel
theorem dX6_aimedSum_15 : decode cX6_aimedSum 15 = .ok (.istore_n 2, 1) := by decide +kernel
theorem dX6_aimedSum_16 : decode cX6_aimedSum 16 = .ok (.iconst 0, 1) := by decide +kernel
theorem dX6_aimedSum_17 : decode cX6_aimedSum 17 = .ok (.istore_n 3, 1) := by decide +kernel
theorem dX6_aimedSum_18 : decode cX6_aimedSum 18 = .ok (.iconst 0, 1) := by decide +kernel
theorem dX6_aimedSum_19 : decode cX6_aimedSum 19 = .ok (.istore 4, 2) := by decide +kernel
theorem dX6_aimedSum_21 : decode cX6_aimedSum 21 = .ok (.iload 4, 2) := by decide +kernel
theorem dX6_aimedSum_23 : decode cX6_aimedSum 23 = .ok (.aload_n 0, 1) := by decide +kernel
theorem dX6_aimedSum_24 : decode cX6_aimedSum 24 = .ok (.getfield 10, 3) := by decide +kernel
theorem dX6_aimedSum_27 : decode cX6_aimedSum 27 = .ok (.getfield 137, 3) := by decide +kernel
theorem dX6_aimedSum_30 : decode cX6_aimedSum 30 = .ok (.if_icmp .ge 52, 3) := by decide +kernel
theorem dX6_aimedSum_33 : decode cX6_aimedSum 33 = .ok (.aload_n 0, 1) := by decide +kernel
theorem dX6_aimedSum_34 : decode cX6_aimedSum 34 = .ok (.getfield 10, 3) := by decide +kernel
theorem dX6_aimedSum_37 : decode cX6_aimedSum 37 = .ok (.iload 4, 2) := by decide +kernel
theorem dX6_aimedSum_39 : decode cX6_aimedSum 39 = .ok (.invokevirtual 166, 3) := by decide +kernel
theorem dX6_aimedSum_42 : decode cX6_aimedSum 42 = .ok (.istore 5, 2) := by decide +kernel
theorem dX6_aimedSum_44 : decode cX6_aimedSum 44 = .ok (.iload 5, 2) := by decide +kernel
theorem dX6_aimedSum_46 : decode cX6_aimedSum 46 = .ok (.ifCond .eq 30, 3) := by decide +kernel
theorem dX6_aimedSum_49 : decode cX6_aimedSum 49 = .ok (.iload_n 3, 1) := by decide +kernel
theorem dX6_aimedSum_50 : decode cX6_aimedSum 50 = .ok (.iload 5, 2) := by decide +kernel
theorem dX6_aimedSum_52 : decode cX6_aimedSum 52 = .ok (.aload_n 0, 1) := by decide +kernel
theorem dX6_aimedSum_53 : decode cX6_aimedSum 53 = .ok (.getfield 26, 3) := by decide +kernel
theorem dX6_aimedSum_56 : decode cX6_aimedSum 56 = .ok (.iload_n 1, 1) := by decide +kernel
theorem dX6_aimedSum_57 : decode cX6_aimedSum 57 = .ok (.iload 4, 2) := by decide +kernel
theorem dX6_aimedSum_59 : decode cX6_aimedSum 59 = .ok (.iload_n 2, 1) := by decide +kernel
theorem dX6_aimedSum_60 : decode cX6_aimedSum 60 = .ok (.aload_n 0, 1) := by decide +kernel
theorem dX6_aimedSum_61 : decode cX6_aimedSum 61 = .ok (.getfield 10, 3) := by decide +kernel
theorem dX6_aimedSum_64 : decode cX6_aimedSum 64 = .ok (.iload 4, 2) := by decide +kernel
theorem dX6_aimedSum_66 : decode cX6_aimedSum 66 = .ok (.invokevirtual 134, 3) := by decide +kernel
theorem dX6_aimedSum_69 : decode cX6_aimedSum 69 = .ok (.iadd, 1) := by decide +kernel
theorem dX6_aimedSum_70 : decode cX6_aimedSum 70 = .ok (.invokevirtual 144, 3) := by decide +kernel
theorem dX6_aimedSum_73 : decode cX6_aimedSum 73 = .ok (.imul, 1) := by decide +kernel
theorem dX6_aimedSum_74 : decode cX6_aimedSum 74 = .ok (.iadd, 1) := by decide +kernel
theorem dX6_aimedSum_75 : decode cX6_aimedSum 75 = .ok (.istore_n 3, 1) := by decide +kernel
theorem dX6_aimedSum_76 : decode cX6_aimedSum 76 = .ok (.iinc 4 1, 3) := by decide +kernel
theorem dX6_aimedSum_79 : decode cX6_aimedSum 79 = .ok (.goto (-58), 3) := by decide +kernel
theorem dX6_aimedSum_82 : decode cX6_aimedSum 82 = .ok (.iload_n 3, 1) := by decide +kernel
theorem dX6_aimedSum_83 : decode cX6_aimedSum 83 = .ok (.ireturn, 1) := by decide +kernel
set_option maxRecDepth 20000 in
theorem ggX6_joinedMean_X6_isPlace : GoodIn wsX6_joinedMean wsX6_isPlace := goodIn_r _ [8, 9, 10, 7, 11] (by decide +kernel) (by decide +kernel)
set_option maxRecDepth 20000 in
theorem gX6_joinedMean_X6_isPlace : GoodIn wsX6_joinedMean (va_wsS RX6 90 yX6_isPlace wsX6_isPlace) := goodIn_app (goodIn_of _ (by decide +kernel)) ggX6_joinedMean_X6_isPlace
set_option maxRecDepth 20000 in
theorem ggX6_joinedMean_X3_aim : GoodIn wsX6_joinedMean wsX3_aim := goodIn_r _ [16, 17, 18, 19, 20, 21, 22, 23, 15, 24, 25, 26, 27, 28, 29, 30, 31, 32, 33, 34, 35, 36, 37, 38, 39, 40, 41, 42, 7, 43, 44, 45, 46, 47, 48, 49, 50, 51, 52, 53, 54, 55, 104, 105, 106, 107, 108, 109, 110, 111, 112, 113, 114] (by decide +kernel) (by decide +kernel)
set_option maxRecDepth 20000 in
theorem gX6_joinedMean_X3_aim : GoodIn wsX6_joinedMean (wsV RX6 128 RX3 yX3_aim wsX3_aim) := goodIn_app (goodIn_of _ (by decide +kernel)) ggX6_joinedMean_X3_aim
set_option maxRecDepth 20000 in
theorem ggX6_joinedMean_X6_aimedSum : GoodIn wsX6_joinedMean wsX6_aimedSum := goodIn_r _ [59, 1, 2, 60, 61, 62, 63, 64, 65, 66, 67, 68, 69, 70, 71, 72, 73, 74, 75, 76, 77, 78, 15, 79, 19, 38, 39, 40, 41, 18, 80, 81, 82, 83, 20, 84, 85, 86, 87, 88, 89, 90, 91, 92, 93, 94, 95, 96, 97, 98, 104, 105, 106, 107, 108, 109, 110, 111, 112, 113, 114, 99, 100, 101, 102, 103] (by decide +kernel) (by decide +kernel)
set_option maxRecDepth 20000 in
theorem gX6_joinedMean_X6_aimedSum : GoodIn wsX6_joinedMean (wsV RX6 157 RX6 yX6_aimedSum wsX6_aimedSum) := goodIn_app (goodIn_of _ (by decide +kernel)) ggX6_joinedMean_X6_aimedSum
theorem dX6_joinedMean_0 : decode cX6_joinedMean 0 = .ok (.iload_n 2, 1) := by decide +kernel
theorem dX6_joinedMean_1 : decode cX6_joinedMean 1 = .ok (.iload_n 3, 1) := by decide +kernel
theorem dX6_joinedMean_2 : decode cX6_joinedMean 2 = .ok (.invokestatic 90, 3) := by decide +kernel
theorem dX6_joinedMean_5 : decode cX6_joinedMean 5 = .ok (.ifCond .ne 5, 3) := by decide +kernel
theorem dX6_joinedMean_8 : decode cX6_joinedMean 8 = .ok (.iconst 0, 1) := by decide +kernel
theorem dX6_joinedMean_9 : decode cX6_joinedMean 9 = .ok (.ireturn, 1) := by decide +kernel
theorem dX6_joinedMean_10 : decode cX6_joinedMean 10 = .ok (.aload_n 0, 1) := by decide +kernel
theorem dX6_joinedMean_11 : decode cX6_joinedMean 11 = .ok (.getfield 10, 3) := by decide +kernel
theorem dX6_joinedMean_14 : decode cX6_joinedMean 14 = .ok (.iload_n 2, 1) := by decide +kernel
theorem dX6_joinedMean_15 : decode cX6_joinedMean 15 = .ok (.iload_n 3, 1) := by decide +kernel
theorem dX6_joinedMean_16 : decode cX6_joinedMean 16 = .ok (.invokevirtual 128, 3) := by decide +kernel
theorem dX6_joinedMean_19 : decode cX6_joinedMean 19 = .ok (.iconst 0, 1) := by decide +kernel
theorem dX6_joinedMean_20 : decode cX6_joinedMean 20 = .ok (.istore 4, 2) := by decide +kernel
theorem dX6_joinedMean_22 : decode cX6_joinedMean 22 = .ok (.iconst 0, 1) := by decide +kernel
theorem dX6_joinedMean_23 : decode cX6_joinedMean 23 = .ok (.istore 5, 2) := by decide +kernel
theorem dX6_joinedMean_25 : decode cX6_joinedMean 25 = .ok (.iconst 0, 1) := by decide +kernel
theorem dX6_joinedMean_26 : decode cX6_joinedMean 26 = .ok (.istore 6, 2) := by decide +kernel
theorem dX6_joinedMean_28 : decode cX6_joinedMean 28 = .ok (.iload 6, 2) := by decide +kernel
theorem dX6_joinedMean_30 : decode cX6_joinedMean 30 = .ok (.aload_n 0, 1) := by decide +kernel
theorem dX6_joinedMean_31 : decode cX6_joinedMean 31 = .ok (.getfield 26, 3) := by decide +kernel
theorem dX6_joinedMean_34 : decode cX6_joinedMean 34 = .ok (.getfield 67, 3) := by decide +kernel
theorem dX6_joinedMean_37 : decode cX6_joinedMean 37 = .ok (.if_icmp .ge 41, 3) := by decide +kernel
theorem dX6_joinedMean_40 : decode cX6_joinedMean 40 = .ok (.iload_n 1, 1) := by decide +kernel
theorem dX6_joinedMean_41 : decode cX6_joinedMean 41 = .ok (.iload 6, 2) := by decide +kernel
theorem dX6_joinedMean_43 : decode cX6_joinedMean 43 = .ok (.ishr, 1) := by decide +kernel
theorem dX6_joinedMean_44 : decode cX6_joinedMean 44 = .ok (.iconst 1, 1) := by decide +kernel
theorem dX6_joinedMean_45 : decode cX6_joinedMean 45 = .ok (.iand, 1) := by decide +kernel
theorem dX6_joinedMean_46 : decode cX6_joinedMean 46 = .ok (.ifCond .eq 26, 3) := by decide +kernel
theorem dX6_joinedMean_49 : decode cX6_joinedMean 49 = .ok (.iload 4, 2) := by decide +kernel
theorem dX6_joinedMean_51 : decode cX6_joinedMean 51 = .ok (.aload_n 0, 1) := by decide +kernel
theorem dX6_joinedMean_52 : decode cX6_joinedMean 52 = .ok (.iload 6, 2) := by decide +kernel
theorem dX6_joinedMean_54 : decode cX6_joinedMean 54 = .ok (.invokevirtual 157, 3) := by decide +kernel
theorem dX6_joinedMean_57 : decode cX6_joinedMean 57 = .ok (.iadd, 1) := by decide +kernel
theorem dX6_joinedMean_58 : decode cX6_joinedMean 58 = .ok (.istore 4, 2) := by decide +kernel
theorem dX6_joinedMean_60 : decode cX6_joinedMean 60 = .ok (.iload 5, 2) := by decide +kernel
theorem dX6_joinedMean_62 : decode cX6_joinedMean 62 = .ok (.aload_n 0, 1) := by decide +kernel
theorem dX6_joinedMean_63 : decode cX6_joinedMean 63 = .ok (.getfield 10, 3) := by decide +kernel
theorem dX6_joinedMean_66 : decode cX6_joinedMean 66 = .ok (.getfield 169, 3) := by decide +kernel
theorem dX6_joinedMean_69 : decode cX6_joinedMean 69 = .ok (.iadd, 1) := by decide +kernel
theorem dX6_joinedMean_70 : decode cX6_joinedMean 70 = .ok (.istore 5, 2) := by decide +kernel
theorem dX6_joinedMean_72 : decode cX6_joinedMean 72 = .ok (.iinc 6 1, 3) := by decide +kernel
theorem dX6_joinedMean_75 : decode cX6_joinedMean 75 = .ok (.goto (-47), 3) := by decide +kernel
theorem dX6_joinedMean_78 : decode cX6_joinedMean 78 = .ok (.iload 5, 2) := by decide +kernel
theorem dX6_joinedMean_80 : decode cX6_joinedMean 80 = .ok (.ifCond .ne 7, 3) := by decide +kernel
theorem dX6_joinedMean_83 : decode cX6_joinedMean 83 = .ok (.iconst 0, 1) := by decide +kernel
theorem dX6_joinedMean_84 : decode cX6_joinedMean 84 = .ok (.goto 8, 3) := by decide +kernel
theorem dX6_joinedMean_87 : decode cX6_joinedMean 87 = .ok (.iload 4, 2) := by decide +kernel
theorem dX6_joinedMean_89 : decode cX6_joinedMean 89 = .ok (.iload 5, 2) := by decide +kernel
theorem dX6_joinedMean_91 : decode cX6_joinedMean 91 = .ok (.idiv, 1) := by decide +kernel
theorem dX6_joinedMean_92 : decode cX6_joinedMean 92 = .ok (.ireturn, 1) := by decide +kernel
set_option maxRecDepth 20000 in
theorem ggX6_picture_X6_areLooks : GoodIn wsX6_picture wsX6_areLooks := goodIn_r _ [7, 8, 9, 126, 127, 128, 129, 130, 131, 137, 138, 139, 140, 141] (by decide +kernel) (by decide +kernel)
set_option maxRecDepth 20000 in
theorem gX6_picture_X6_areLooks : GoodIn wsX6_picture (wsV RX6 160 RX6 yX6_areLooks wsX6_areLooks) := goodIn_app (goodIn_of _ (by decide +kernel)) ggX6_picture_X6_areLooks
set_option maxRecDepth 20000 in
theorem ggX6_picture_X6_isPlace : GoodIn wsX6_picture wsX6_isPlace := goodIn_r _ [12, 13, 14, 6, 15] (by decide +kernel) (by decide +kernel)
set_option maxRecDepth 20000 in
theorem gX6_picture_X6_isPlace : GoodIn wsX6_picture (va_wsS RX6 90 yX6_isPlace wsX6_isPlace) := goodIn_app (goodIn_of _ (by decide +kernel)) ggX6_picture_X6_isPlace
set_option maxRecDepth 20000 in
theorem ggX6_picture_X6_within : GoodIn wsX6_picture wsX6_within := goodIn_r _ [15] (by decide +kernel) (by decide +kernel)
set_option maxRecDepth 20000 in
theorem gX6_picture_X6_within : GoodIn wsX6_picture (va_wsS RX6 51 yX6_within wsX6_within) := goodIn_app (goodIn_of _ (by decide +kernel)) ggX6_picture_X6_within
set_option maxRecDepth 20000 in
theorem ggX6_picture_X4_begin : GoodIn wsX6_picture wsX4_begin := goodIn_r _ [20, 21, 22, 23, 24, 25, 26, 27, 19, 28, 29, 30, 31, 32, 132, 133, 134, 135, 136] (by decide +kernel) (by decide +kernel)
set_option maxRecDepth 20000 in
theorem gX6_picture_X4_begin : GoodIn wsX6_picture (wsV RX6 172 RX4 yX4_begin wsX4_begin) := goodIn_app (goodIn_of _ (by decide +kernel)) ggX6_picture_X4_begin
set_option maxRecDepth 20000 in
theorem ggX6_picture_X6_joinedMean : GoodIn wsX6_picture wsX6_joinedMean := goodIn_r _ [36, 37, 8, 9, 38, 10, 11, 6, 12, 13, 14, 15, 39, 40, 41, 42, 43, 44, 45, 46, 47, 48, 49, 50, 51, 52, 53, 54, 55, 56, 57, 58, 59, 60, 61, 62, 63, 64, 65, 66, 67, 68, 69, 70, 71, 72, 73, 74, 75, 76, 77, 78, 79, 80, 81, 82, 83, 84, 85, 86, 87, 88, 89, 90, 91, 92, 93, 94, 95, 96, 97, 98, 99, 30, 31, 32, 100, 101, 102, 103, 104, 105, 106, 107, 108, 109, 110, 111, 112, 113, 114, 115, 116, 126, 127, 128, 129, 130, 131, 137, 138, 139, 140, 141, 142, 143, 144, 145, 146, 147, 148, 149, 150, 151, 152] (by decide +kernel) (by decide +kernel)
set_option maxRecDepth 20000 in
theorem gX6_picture_X6_joinedMean : GoodIn wsX6_picture (wsV RX6 163 RX6 yX6_joinedMean wsX6_joinedMean) := goodIn_app (goodIn_of _ (by decide +kernel)) ggX6_picture_X6_joinedMean
set_option maxRecDepth 20000 in
theorem ggX6_picture_X4_set : GoodIn wsX6_picture wsX4_set := goodIn_r _ [120, 121, 122, 123, 124, 19, 125, 132, 133, 134, 135, 136] (by decide +kernel) (by decide +kernel)
set_option maxRecDepth 20000 in
theorem gX6_picture_X4_set : GoodIn wsX6_picture (wsV RX6 175 RX4 yX4_set wsX4_set) := goodIn_app (goodIn_of _ (by decide +kernel)) ggX6_picture_X4_set
theorem dX6_picture_0 : decode cX6_picture 0 = .ok (.aload_n 0, 1) := by decide +kernel
theorem dX6_picture_1 : decode cX6_picture 1 = .ok (.iload_n 1, 1) := by decide +kernel
theorem dX6_picture_2 : decode cX6_picture 2 = .ok (.invokevirtual 160, 3) := by decide +kernel
theorem dX6_picture_5 : decode cX6_picture 5 = .ok (.ifCond .eq 35, 3) := by decide +kernel
theorem dX6_picture_8 : decode cX6_picture 8 = .ok (.iload_n 2, 1) := by decide +kernel
theorem dX6_picture_9 : decode cX6_picture 9 = .ok (.iload_n 3, 1) := by decide +kernel
theorem dX6_picture_10 : decode cX6_picture 10 = .ok (.invokestatic 90, 3) := by decide +kernel
theorem dX6_picture_13 : decode cX6_picture 13 = .ok (.ifCond .eq 27, 3) := by decide +kernel
theorem dX6_picture_16 : decode cX6_picture 16 = .ok (.iload 4, 2) := by decide +kernel
theorem dX6_picture_18 : decode cX6_picture 18 = .ok (.iconst 1, 1) := by decide +kernel
theorem dX6_picture_19 : decode cX6_picture 19 = .ok (.sipush 500, 3) := by decide +kernel
theorem dX6_picture_22 : decode cX6_picture 22 = .ok (.invokestatic 51, 3) := by decide +kernel
theorem dX6_picture_25 : decode cX6_picture 25 = .ok (.ifCond .eq 15, 3) := by decide +kernel
theorem dX6_picture_28 : decode cX6_picture 28 = .ok (.iload 5, 2) := by decide +kernel
theorem dX6_picture_30 : decode cX6_picture 30 = .ok (.iconst 1, 1) := by decide +kernel
theorem dX6_picture_31 : decode cX6_picture 31 = .ok (.sipush 500, 3) := by decide +kernel
theorem dX6_picture_34 : decode cX6_picture 34 = .ok (.invokestatic 51, 3) := by decide +kernel
theorem dX6_picture_37 : decode cX6_picture 37 = .ok (.ifCond .ne 6, 3) := by decide +kernel
theorem dX6_picture_40 : decode cX6_picture 40 = .ok (.bipush (-2), 2) := by decide +kernel
theorem dX6_picture_42 : decode cX6_picture 42 = .ok (.ireturn, 1) := by decide +kernel
theorem dX6_picture_43 : decode cX6_picture 43 = .ok (.iload 6, 2) := by decide +kernel
theorem dX6_picture_45 : decode cX6_picture 45 = .ok (.iconst 1, 1) := by decide +kernel
theorem dX6_picture_46 : decode cX6_picture 46 = .ok (.bipush 16, 2) := by decide +kernel
theorem dX6_picture_48 : decode cX6_picture 48 = .ok (.invokestatic 51, 3) := by decide +kernel
theorem dX6_picture_51 : decode cX6_picture 51 = .ok (.ifCond .eq 14, 3) := by decide +kernel
theorem dX6_picture_54 : decode cX6_picture 54 = .ok (.iload 7, 2) := by decide +kernel
theorem dX6_picture_56 : decode cX6_picture 56 = .ok (.iconst 1, 1) := by decide +kernel
theorem dX6_picture_57 : decode cX6_picture 57 = .ok (.bipush 16, 2) := by decide +kernel
theorem dX6_picture_59 : decode cX6_picture 59 = .ok (.invokestatic 51, 3) := by decide +kernel
theorem dX6_picture_62 : decode cX6_picture 62 = .ok (.ifCond .ne 6, 3) := by decide +kernel
theorem dX6_picture_65 : decode cX6_picture 65 = .ok (.bipush (-2), 2) := by decide +kernel
theorem dX6_picture_67 : decode cX6_picture 67 = .ok (.ireturn, 1) := by decide +kernel
theorem dX6_picture_68 : decode cX6_picture 68 = .ok (.aload_n 0, 1) := by decide +kernel
theorem dX6_picture_69 : decode cX6_picture 69 = .ok (.getfield 33, 3) := by decide +kernel
theorem dX6_picture_72 : decode cX6_picture 72 = .ok (.iload 6, 2) := by decide +kernel
theorem dX6_picture_74 : decode cX6_picture 74 = .ok (.iload 7, 2) := by decide +kernel
theorem dX6_picture_76 : decode cX6_picture 76 = .ok (.invokevirtual 172, 3) := by decide +kernel
theorem dX6_picture_79 : decode cX6_picture 79 = .ok (.istore 8, 2) := by decide +kernel
theorem dX6_picture_81 : decode cX6_picture 81 = .ok (.iconst 0, 1) := by decide +kernel
theorem dX6_picture_82 : decode cX6_picture 82 = .ok (.istore 9, 2) := by decide +kernel
theorem dX6_picture_84 : decode cX6_picture 84 = .ok (.iload 9, 2) := by decide +kernel
theorem dX6_picture_86 : decode cX6_picture 86 = .ok (.iload 7, 2) := by decide +kernel
theorem dX6_picture_88 : decode cX6_picture 88 = .ok (.if_icmp .ge 61, 3) := by decide +kernel
theorem dX6_picture_91 : decode cX6_picture 91 = .ok (.iconst 0, 1) := by decide +kernel
theorem dX6_picture_92 : decode cX6_picture 92 = .ok (.istore 10, 2) := by decide +kernel
theorem dX6_picture_94 : decode cX6_picture 94 = .ok (.iload 10, 2) := by decide +kernel
theorem dX6_picture_96 : decode cX6_picture 96 = .ok (.iload 6, 2) := by decide +kernel
theorem dX6_picture_98 : decode cX6_picture 98 = .ok (.if_icmp .ge 45, 3) := by decide +kernel
theorem dX6_picture_101 : decode cX6_picture 101 = .ok (.aload_n 0, 1) := by decide +kernel
theorem dX6_picture_102 : decode cX6_picture 102 = .ok (.getfield 33, 3) := by decide +kernel
theorem dX6_picture_105 : decode cX6_picture 105 = .ok (.iload 8, 2) := by decide +kernel
theorem dX6_picture_107 : decode cX6_picture 107 = .ok (.iload 10, 2) := by decide +kernel
theorem dX6_picture_109 : decode cX6_picture 109 = .ok (.iload 6, 2) := by decide +kernel
theorem dX6_picture_111 : decode cX6_picture 111 = .ok (.iload 9, 2) := by decide +kernel
theorem dX6_picture_113 : decode cX6_picture 113 = .ok (.imul, 1) := by decide +kernel
theorem dX6_picture_114 : decode cX6_picture 114 = .ok (.iadd, 1) := by decide +kernel
theorem dX6_picture_115 : decode cX6_picture 115 = .ok (.aload_n 0, 1) := by decide +kernel
theorem dX6_picture_116 : decode cX6_picture 116 = .ok (.iload_n 1, 1) := by decide +kernel
theorem dX6_picture_117 : decode cX6_picture 117 = .ok (.iload_n 2, 1) := by decide +kernel
theorem dX6_picture_118 : decode cX6_picture 118 = .ok (.iload 10, 2) := by decide +kernel
theorem dX6_picture_120 : decode cX6_picture 120 = .ok (.iload 4, 2) := by decide +kernel
theorem dX6_picture_122 : decode cX6_picture 122 = .ok (.imul, 1) := by decide +kernel
theorem dX6_picture_123 : decode cX6_picture 123 = .ok (.iadd, 1) := by decide +kernel
theorem dX6_picture_124 : decode cX6_picture 124 = .ok (.iload_n 3, 1) := by decide +kernel
theorem dX6_picture_125 : decode cX6_picture 125 = .ok (.iload 9, 2) := by decide +kernel
theorem dX6_picture_127 : decode cX6_picture 127 = .ok (.iload 5, 2) := by decide +kernel
theorem dX6_picture_129 : decode cX6_picture 129 = .ok (.imul, 1) := by decide +kernel
theorem dX6_picture_130 : decode cX6_picture 130 = .ok (.iadd, 1) := by decide +kernel
theorem dX6_picture_131 : decode cX6_picture 131 = .ok (.invokevirtual 163, 3) := by decide +kernel
theorem dX6_picture_134 : decode cX6_picture 134 = .ok (.invokevirtual 175, 3) := by decide +kernel
theorem dX6_picture_137 : decode cX6_picture 137 = .ok (.iinc 10 1, 3) := by decide +kernel
theorem dX6_picture_140 : decode cX6_picture 140 = .ok (.goto (-46), 3) := by decide +kernel
theorem dX6_picture_143 : decode cX6_picture 143 = .ok (.iinc 9 1, 3) := by decide +kernel
theorem dX6_picture_146 : decode cX6_picture 146 = .ok (.goto (-62), 3) := by decide +kernel
theorem dX6_picture_149 : decode cX6_picture 149 = .ok (.aload_n 0, 1) := by decide +kernel
theorem dX6_picture_150 : decode cX6_picture 150 = .ok (.getfield 33, 3) := by decide +kernel
theorem dX6_picture_153 : decode cX6_picture 153 = .ok (.getfield 178, 3) := by decide +kernel
theorem dX6_picture_156 : decode cX6_picture 156 = .ok (.ireturn, 1) := by decide +kernel
set_option maxRecDepth 20000 in
theorem ggX6_pixel_X4_has : GoodIn wsX6_pixel wsX4_has := goodIn_r _ [7, 8, 47, 48, 49, 50, 51] (by decide +kernel) (by decide +kernel)
set_option maxRecDepth 20000 in
theorem gX6_pixel_X4_has : GoodIn wsX6_pixel (wsV RX6 179 RX4 yX4_has wsX4_has) := goodIn_app (goodIn_of _ (by decide +kernel)) ggX6_pixel_X4_has
set_option maxRecDepth 20000 in
theorem ggX6_pixel_X4_slotOf : GoodIn wsX6_pixel wsX4_slotOf := goodIn_r _ [12, 13, 14, 15, 16, 17, 47, 48, 49, 50, 51] (by decide +kernel) (by decide +kernel)
set_option maxRecDepth 20000 in
theorem gX6_pixel_X4_slotOf : GoodIn wsX6_pixel (wsV RX6 180 RX4 yX4_slotOf wsX4_slotOf) := goodIn_app (goodIn_of _ (by decide +kernel)) ggX6_pixel_X4_slotOf
set_option maxRecDepth 20000 in
theorem ggX6_pixel_X4_widthOf : GoodIn wsX6_pixel wsX4_widthOf := goodIn_r _ [21, 22, 23, 24, 25, 6, 26, 47, 48, 49, 50, 51] (by decide +kernel) (by decide +kernel)
set_option maxRecDepth 20000 in
theorem gX6_pixel_X4_widthOf : GoodIn wsX6_pixel (wsV RX6 183 RX4 yX4_widthOf wsX4_widthOf) := goodIn_app (goodIn_of _ (by decide +kernel)) ggX6_pixel_X4_widthOf
set_option maxRecDepth 20000 in
theorem ggX6_pixel_X6_within : GoodIn wsX6_pixel wsX6_within := goodIn_r _ [30] (by decide +kernel) (by decide +kernel)
set_option maxRecDepth 20000 in
theorem gX6_pixel_X6_within : GoodIn wsX6_pixel (va_wsS RX6 51 yX6_within wsX6_within) := goodIn_app (goodIn_of _ (by decide +kernel)) ggX6_pixel_X6_within
set_option maxRecDepth 20000 in
theorem ggX6_pixel_X4_heightOf : GoodIn wsX6_pixel wsX4_heightOf := goodIn_r _ [34, 35, 23, 24, 25, 6, 26, 47, 48, 49, 50, 51] (by decide +kernel) (by decide +kernel)
set_option maxRecDepth 20000 in
theorem gX6_pixel_X4_heightOf : GoodIn wsX6_pixel (wsV RX6 186 RX4 yX4_heightOf wsX4_heightOf) := goodIn_app (goodIn_of _ (by decide +kernel)) ggX6_pixel_X4_heightOf
set_option maxRecDepth 20000 in
theorem ggX6_pixel_X4_get : GoodIn wsX6_pixel wsX4_get := goodIn_r _ [39, 40, 23, 24, 25, 6, 26, 47, 48, 49, 50, 51] (by decide +kernel) (by decide +kernel)
set_option maxRecDepth 20000 in
theorem gX6_pixel_X4_get : GoodIn wsX6_pixel (wsV RX6 189 RX4 yX4_get wsX4_get) := goodIn_app (goodIn_of _ (by decide +kernel)) ggX6_pixel_X4_get
theorem dX6_pixel_0 : decode cX6_pixel 0 = .ok (.aload_n 0, 1) := by decide +kernel
theorem dX6_pixel_1 : decode cX6_pixel 1 = .ok (.getfield 33, 3) := by decide +kernel
theorem dX6_pixel_4 : decode cX6_pixel 4 = .ok (.iload_n 1, 1) := by decide +kernel
theorem dX6_pixel_5 : decode cX6_pixel 5 = .ok (.invokevirtual 179, 3) := by decide +kernel
theorem dX6_pixel_8 : decode cX6_pixel 8 = .ok (.ifCond .ne 6, 3) := by decide +kernel
theorem dX6_pixel_11 : decode cX6_pixel 11 = .ok (.ldc 156, 2) := by decide +kernel
theorem dX6_pixel_13 : decode cX6_pixel 13 = .ok (.ireturn, 1) := by decide +kernel
theorem dX6_pixel_14 : decode cX6_pixel 14 = .ok (.aload_n 0, 1) := by decide +kernel
theorem dX6_pixel_15 : decode cX6_pixel 15 = .ok (.getfield 33, 3) := by decide +kernel
theorem dX6_pixel_18 : decode cX6_pixel 18 = .ok (.iload_n 1, 1) := by decide +kernel
theorem dX6_pixel_19 : decode cX6_pixel 19 = .ok (.invokevirtual 180, 3) := by decide +kernel
theorem dX6_pixel_22 : decode cX6_pixel 22 = .ok (.istore 4, 2) := by decide +kernel
theorem dX6_pixel_24 : decode cX6_pixel 24 = .ok (.aload_n 0, 1) := by decide +kernel
theorem dX6_pixel_25 : decode cX6_pixel 25 = .ok (.getfield 33, 3) := by decide +kernel
theorem dX6_pixel_28 : decode cX6_pixel 28 = .ok (.iload 4, 2) := by decide +kernel
theorem dX6_pixel_30 : decode cX6_pixel 30 = .ok (.invokevirtual 183, 3) := by decide +kernel
theorem dX6_pixel_33 : decode cX6_pixel 33 = .ok (.istore 5, 2) := by decide +kernel
theorem dX6_pixel_35 : decode cX6_pixel 35 = .ok (.iload_n 2, 1) := by decide +kernel
theorem dX6_pixel_36 : decode cX6_pixel 36 = .ok (.iconst 0, 1) := by decide +kernel
theorem dX6_pixel_37 : decode cX6_pixel 37 = .ok (.iload 5, 2) := by decide +kernel
theorem dX6_pixel_39 : decode cX6_pixel 39 = .ok (.iconst 1, 1) := by decide +kernel
theorem dX6_pixel_40 : decode cX6_pixel 40 = .ok (.isub, 1) := by decide +kernel
theorem dX6_pixel_41 : decode cX6_pixel 41 = .ok (.invokestatic 51, 3) := by decide +kernel
theorem dX6_pixel_44 : decode cX6_pixel 44 = .ok (.ifCond .eq 22, 3) := by decide +kernel
theorem dX6_pixel_47 : decode cX6_pixel 47 = .ok (.iload_n 3, 1) := by decide +kernel
theorem dX6_pixel_48 : decode cX6_pixel 48 = .ok (.iconst 0, 1) := by decide +kernel
theorem dX6_pixel_49 : decode cX6_pixel 49 = .ok (.aload_n 0, 1) := by decide +kernel
theorem dX6_pixel_50 : decode cX6_pixel 50 = .ok (.getfield 33, 3) := by decide +kernel
theorem dX6_pixel_53 : decode cX6_pixel 53 = .ok (.iload 4, 2) := by decide +kernel
theorem dX6_pixel_55 : decode cX6_pixel 55 = .ok (.invokevirtual 186, 3) := by decide +kernel
theorem dX6_pixel_58 : decode cX6_pixel 58 = .ok (.iconst 1, 1) := by decide +kernel
theorem dX6_pixel_59 : decode cX6_pixel 59 = .ok (.isub, 1) := by decide +kernel
theorem dX6_pixel_60 : decode cX6_pixel 60 = .ok (.invokestatic 51, 3) := by decide +kernel
theorem dX6_pixel_63 : decode cX6_pixel 63 = .ok (.ifCond .ne 6, 3) := by decide +kernel
theorem dX6_pixel_66 : decode cX6_pixel 66 = .ok (.ldc 156, 2) := by decide +kernel
theorem dX6_pixel_68 : decode cX6_pixel 68 = .ok (.ireturn, 1) := by decide +kernel
theorem dX6_pixel_69 : decode cX6_pixel 69 = .ok (.aload_n 0, 1) := by decide +kernel
theorem dX6_pixel_70 : decode cX6_pixel 70 = .ok (.getfield 33, 3) := by decide +kernel
theorem dX6_pixel_73 : decode cX6_pixel 73 = .ok (.iload 4, 2) := by decide +kernel
theorem dX6_pixel_75 : decode cX6_pixel 75 = .ok (.iload_n 2, 1) := by decide +kernel
theorem dX6_pixel_76 : decode cX6_pixel 76 = .ok (.iload 5, 2) := by decide +kernel
theorem dX6_pixel_78 : decode cX6_pixel 78 = .ok (.iload_n 3, 1) := by decide +kernel
theorem dX6_pixel_79 : decode cX6_pixel 79 = .ok (.imul, 1) := by decide +kernel
theorem dX6_pixel_80 : decode cX6_pixel 80 = .ok (.iadd, 1) := by decide +kernel
theorem dX6_pixel_81 : decode cX6_pixel 81 = .ok (.invokevirtual 189, 3) := by decide +kernel
theorem dX6_pixel_84 : decode cX6_pixel 84 = .ok (.ireturn, 1) := by decide +kernel
set_option maxRecDepth 20000 in
theorem ggX6_about_X4_has : GoodIn wsX6_about wsX4_has := goodIn_r _ [6, 7, 49, 50, 51, 52, 53] (by decide +kernel) (by decide +kernel)
set_option maxRecDepth 20000 in
theorem gX6_about_X4_has : GoodIn wsX6_about (wsV RX6 179 RX4 yX4_has wsX4_has) := goodIn_app (goodIn_of _ (by decide +kernel)) ggX6_about_X4_has
set_option maxRecDepth 20000 in
theorem ggX6_about_X4_slotOf : GoodIn wsX6_about wsX4_slotOf := goodIn_r _ [11, 12, 13, 14, 15, 16, 49, 50, 51, 52, 53] (by decide +kernel) (by decide +kernel)
set_option maxRecDepth 20000 in
theorem gX6_about_X4_slotOf : GoodIn wsX6_about (wsV RX6 180 RX4 yX4_slotOf wsX4_slotOf) := goodIn_app (goodIn_of _ (by decide +kernel)) ggX6_about_X4_slotOf
set_option maxRecDepth 20000 in
theorem ggX6_about_X4_widthOf : GoodIn wsX6_about wsX4_widthOf := goodIn_r _ [20, 21, 22, 23, 24, 5, 25, 49, 50, 51, 52, 53] (by decide +kernel) (by decide +kernel)
set_option maxRecDepth 20000 in
theorem gX6_about_X4_widthOf : GoodIn wsX6_about (wsV RX6 183 RX4 yX4_widthOf wsX4_widthOf) := goodIn_app (goodIn_of _ (by decide +kernel)) ggX6_about_X4_widthOf
set_option maxRecDepth 20000 in
theorem ggX6_about_X4_heightOf : GoodIn wsX6_about wsX4_heightOf := goodIn_r _ [29, 30, 22, 23, 24, 5, 25, 49, 50, 51, 52, 53] (by decide +kernel) (by decide +kernel)
set_option maxRecDepth 20000 in
theorem gX6_about_X4_heightOf : GoodIn wsX6_about (wsV RX6 186 RX4 yX4_heightOf wsX4_heightOf) := goodIn_app (goodIn_of _ (by decide +kernel)) ggX6_about_X4_heightOf
set_option maxRecDepth 20000 in
theorem ggX6_about_X4_firstGreatest : GoodIn wsX6_about wsX4_firstGreatest := goodIn_r _ [34, 35, 18, 19, 5, 20, 21, 22, 23, 24, 25, 36, 27, 28, 29, 30, 37, 38, 39, 40, 41, 49, 50, 51, 52, 53] (by decide +kernel) (by decide +kernel)
set_option maxRecDepth 20000 in
theorem gX6_about_X4_firstGreatest : GoodIn wsX6_about (wsV RX6 192 RX4 yX4_firstGreatest wsX4_firstGreatest) := goodIn_app (goodIn_of _ (by decide +kernel)) ggX6_about_X4_firstGreatest
set_option maxRecDepth 20000 in
theorem ggX6_about_X4_get : GoodIn wsX6_about wsX4_get := goodIn_r _ [40, 41, 22, 23, 24, 5, 25, 49, 50, 51, 52, 53] (by decide +kernel) (by decide +kernel)
set_option maxRecDepth 20000 in
theorem gX6_about_X4_get : GoodIn wsX6_about (wsV RX6 189 RX4 yX4_get wsX4_get) := goodIn_app (goodIn_of _ (by decide +kernel)) ggX6_about_X4_get
theorem dX6_about_0 : decode cX6_about 0 = .ok (.aload_n 0, 1) := by decide +kernel
theorem dX6_about_1 : decode cX6_about 1 = .ok (.getfield 33, 3) := by decide +kernel
theorem dX6_about_4 : decode cX6_about 4 = .ok (.iload_n 1, 1) := by decide +kernel
theorem dX6_about_5 : decode cX6_about 5 = .ok (.invokevirtual 179, 3) := by decide +kernel
theorem dX6_about_8 : decode cX6_about 8 = .ok (.ifCond .ne 6, 3) := by decide +kernel
theorem dX6_about_11 : decode cX6_about 11 = .ok (.bipush (-2), 2) := by decide +kernel
theorem dX6_about_13 : decode cX6_about 13 = .ok (.ireturn, 1) := by decide +kernel
theorem dX6_about_14 : decode cX6_about 14 = .ok (.aload_n 0, 1) := by decide +kernel
theorem dX6_about_15 : decode cX6_about 15 = .ok (.getfield 33, 3) := by decide +kernel
theorem dX6_about_18 : decode cX6_about 18 = .ok (.iload_n 1, 1) := by decide +kernel
theorem dX6_about_19 : decode cX6_about 19 = .ok (.invokevirtual 180, 3) := by decide +kernel
theorem dX6_about_22 : decode cX6_about 22 = .ok (.istore_n 3, 1) := by decide +kernel
theorem dX6_about_23 : decode cX6_about 23 = .ok (.iload_n 2, 1) := by decide +kernel
theorem dX6_about_24 : decode cX6_about 24 = .ok (.tableswitch 76 0 3 #[32, 41, 50, 67], 32) := by decide +kernel
theorem dX6_about_56 : decode cX6_about 56 = .ok (.aload_n 0, 1) := by decide +kernel
theorem dX6_about_57 : decode cX6_about 57 = .ok (.getfield 33, 3) := by decide +kernel
theorem dX6_about_60 : decode cX6_about 60 = .ok (.iload_n 3, 1) := by decide +kernel
theorem dX6_about_61 : decode cX6_about 61 = .ok (.invokevirtual 183, 3) := by decide +kernel
theorem dX6_about_64 : decode cX6_about 64 = .ok (.ireturn, 1) := by decide +kernel
theorem dX6_about_65 : decode cX6_about 65 = .ok (.aload_n 0, 1) := by decide +kernel
theorem dX6_about_66 : decode cX6_about 66 = .ok (.getfield 33, 3) := by decide +kernel
theorem dX6_about_69 : decode cX6_about 69 = .ok (.iload_n 3, 1) := by decide +kernel
theorem dX6_about_70 : decode cX6_about 70 = .ok (.invokevirtual 186, 3) := by decide +kernel
theorem dX6_about_73 : decode cX6_about 73 = .ok (.ireturn, 1) := by decide +kernel
theorem dX6_about_74 : decode cX6_about 74 = .ok (.aload_n 0, 1) := by decide +kernel
theorem dX6_about_75 : decode cX6_about 75 = .ok (.getfield 33, 3) := by decide +kernel
theorem dX6_about_78 : decode cX6_about 78 = .ok (.iload_n 3, 1) := by decide +kernel
theorem dX6_about_79 : decode cX6_about 79 = .ok (.aload_n 0, 1) := by decide +kernel
theorem dX6_about_80 : decode cX6_about 80 = .ok (.getfield 33, 3) := by decide +kernel
theorem dX6_about_83 : decode cX6_about 83 = .ok (.iload_n 3, 1) := by decide +kernel
theorem dX6_about_84 : decode cX6_about 84 = .ok (.invokevirtual 192, 3) := by decide +kernel
theorem dX6_about_87 : decode cX6_about 87 = .ok (.invokevirtual 189, 3) := by decide +kernel
theorem dX6_about_90 : decode cX6_about 90 = .ok (.ireturn, 1) := by decide +kernel
theorem dX6_about_91 : decode cX6_about 91 = .ok (.aload_n 0, 1) := by decide +kernel
theorem dX6_about_92 : decode cX6_about 92 = .ok (.getfield 33, 3) := by decide +kernel
theorem dX6_about_95 : decode cX6_about 95 = .ok (.iload_n 3, 1) := by decide +kernel
theorem dX6_about_96 : decode cX6_about 96 = .ok (.invokevirtual 192, 3) := by decide +kernel
theorem dX6_about_99 : decode cX6_about 99 = .ok (.ireturn, 1) := by decide +kernel
theorem dX6_about_100 : decode cX6_about 100 = .ok (.bipush (-2), 2) := by decide +kernel
theorem dX6_about_102 : decode cX6_about 102 = .ok (.ireturn, 1) := by decide +kernel
set_option maxRecDepth 20000 in
theorem ggX6_differ_X4_has : GoodIn wsX6_differ wsX4_has := goodIn_r _ [7, 8, 52, 53, 54, 55, 56] (by decide +kernel) (by decide +kernel)
set_option maxRecDepth 20000 in
theorem gX6_differ_X4_has : GoodIn wsX6_differ (wsV RX6 179 RX4 yX4_has wsX4_has) := goodIn_app (goodIn_of _ (by decide +kernel)) ggX6_differ_X4_has
set_option maxRecDepth 20000 in
theorem ggX6_differ_X4_slotOf : GoodIn wsX6_differ wsX4_slotOf := goodIn_r _ [12, 13, 14, 15, 16, 17, 52, 53, 54, 55, 56] (by decide +kernel) (by decide +kernel)
set_option maxRecDepth 20000 in
theorem gX6_differ_X4_slotOf : GoodIn wsX6_differ (wsV RX6 180 RX4 yX4_slotOf wsX4_slotOf) := goodIn_app (goodIn_of _ (by decide +kernel)) ggX6_differ_X4_slotOf
set_option maxRecDepth 20000 in
theorem ggX6_differ_X4_widthOf : GoodIn wsX6_differ wsX4_widthOf := goodIn_r _ [21, 22, 23, 24, 25, 6, 26, 52, 53, 54, 55, 56] (by decide +kernel) (by decide +kernel)
set_option maxRecDepth 20000 in
theorem gX6_differ_X4_widthOf : GoodIn wsX6_differ (wsV RX6 183 RX4 yX4_widthOf wsX4_widthOf) := goodIn_app (goodIn_of _ (by decide +kernel)) ggX6_differ_X4_widthOf
set_option maxRecDepth 20000 in
theorem ggX6_differ_X4_heightOf : GoodIn wsX6_differ wsX4_heightOf := goodIn_r _ [30, 31, 23, 24, 25, 6, 26, 52, 53, 54, 55, 56] (by decide +kernel) (by decide +kernel)
set_option maxRecDepth 20000 in
theorem gX6_differ_X4_heightOf : GoodIn wsX6_differ (wsV RX6 186 RX4 yX4_heightOf wsX4_heightOf) := goodIn_app (goodIn_of _ (by decide +kernel)) ggX6_differ_X4_heightOf
set_option maxRecDepth 20000 in
theorem ggX6_differ_X4_begin : GoodIn wsX6_differ wsX4_begin := goodIn_r _ [35, 8, 13, 22, 31, 36, 10, 11, 6, 12, 14, 15, 16, 17, 52, 53, 54, 55, 56] (by decide +kernel) (by decide +kernel)
set_option maxRecDepth 20000 in
theorem gX6_differ_X4_begin : GoodIn wsX6_differ (wsV RX6 172 RX4 yX4_begin wsX4_begin) := goodIn_app (goodIn_of _ (by decide +kernel)) ggX6_differ_X4_begin
set_option maxRecDepth 20000 in
theorem ggX6_differ_X4_get : GoodIn wsX6_differ wsX4_get := goodIn_r _ [40, 41, 23, 24, 25, 6, 26, 52, 53, 54, 55, 56] (by decide +kernel) (by decide +kernel)
set_option maxRecDepth 20000 in
theorem gX6_differ_X4_get : GoodIn wsX6_differ (wsV RX6 189 RX4 yX4_get wsX4_get) := goodIn_app (goodIn_of _ (by decide +kernel)) ggX6_differ_X4_get
set_option maxRecDepth 20000 in
theorem ggX6_differ_X4_set : GoodIn wsX6_differ wsX4_set := goodIn_r _ [45, 41, 23, 24, 25, 6, 26, 52, 53, 54, 55, 56] (by decide +kernel) (by decide +kernel)
set_option maxRecDepth 20000 in
theorem gX6_differ_X4_set : GoodIn wsX6_differ (wsV RX6 175 RX4 yX4_set wsX4_set) := goodIn_app (goodIn_of _ (by decide +kernel)) ggX6_differ_X4_set
theorem dX6_differ_0 : decode cX6_differ 0 = .ok (.aload_n 0, 1) := by decide +kernel
theorem dX6_differ_1 : decode cX6_differ 1 = .ok (.getfield 33, 3) := by decide +kernel
theorem dX6_differ_4 : decode cX6_differ 4 = .ok (.iload_n 1, 1) := by decide +kernel
theorem dX6_differ_5 : decode cX6_differ 5 = .ok (.invokevirtual 179, 3) := by decide +kernel
theorem dX6_differ_8 : decode cX6_differ 8 = .ok (.ifCond .eq 14, 3) := by decide +kernel
theorem dX6_differ_11 : decode cX6_differ 11 = .ok (.aload_n 0, 1) := by decide +kernel
theorem dX6_differ_12 : decode cX6_differ 12 = .ok (.getfield 33, 3) := by decide +kernel
theorem dX6_differ_15 : decode cX6_differ 15 = .ok (.iload_n 2, 1) := by decide +kernel
theorem dX6_differ_16 : decode cX6_differ 16 = .ok (.invokevirtual 179, 3) := by decide +kernel
theorem dX6_differ_19 : decode cX6_differ 19 = .ok (.ifCond .ne 6, 3) := by decide +kernel
theorem dX6_differ_22 : decode cX6_differ 22 = .ok (.bipush (-2), 2) := by decide +kernel
theorem dX6_differ_24 : decode cX6_differ 24 = .ok (.ireturn, 1) := by decide +kernel
theorem dX6_differ_25 : decode cX6_differ 25 = .ok (.aload_n 0, 1) := by decide +kernel
theorem dX6_differ_26 : decode cX6_differ 26 = .ok (.getfield 33, 3) := by decide +kernel
theorem dX6_differ_29 : decode cX6_differ 29 = .ok (.iload_n 1, 1) := by decide +kernel
theorem dX6_differ_30 : decode cX6_differ 30 = .ok (.invokevirtual 180, 3) := by decide +kernel
theorem dX6_differ_33 : decode cX6_differ 33 = .ok (.istore_n 3, 1) := by decide +kernel
theorem dX6_differ_34 : decode cX6_differ 34 = .ok (.aload_n 0, 1) := by decide +kernel
theorem dX6_differ_35 : decode cX6_differ 35 = .ok (.getfield 33, 3) := by decide +kernel
theorem dX6_differ_38 : decode cX6_differ 38 = .ok (.iload_n 2, 1) := by decide +kernel
theorem dX6_differ_39 : decode cX6_differ 39 = .ok (.invokevirtual 180, 3) := by decide +kernel
theorem dX6_differ_42 : decode cX6_differ 42 = .ok (.istore 4, 2) := by decide +kernel
theorem dX6_differ_44 : decode cX6_differ 44 = .ok (.aload_n 0, 1) := by decide +kernel
theorem dX6_differ_45 : decode cX6_differ 45 = .ok (.getfield 33, 3) := by decide +kernel
theorem dX6_differ_48 : decode cX6_differ 48 = .ok (.iload_n 3, 1) := by decide +kernel
theorem dX6_differ_49 : decode cX6_differ 49 = .ok (.invokevirtual 183, 3) := by decide +kernel
theorem dX6_differ_52 : decode cX6_differ 52 = .ok (.istore 5, 2) := by decide +kernel
theorem dX6_differ_54 : decode cX6_differ 54 = .ok (.aload_n 0, 1) := by decide +kernel
theorem dX6_differ_55 : decode cX6_differ 55 = .ok (.getfield 33, 3) := by decide +kernel
theorem dX6_differ_58 : decode cX6_differ 58 = .ok (.iload_n 3, 1) := by decide +kernel
theorem dX6_differ_59 : decode cX6_differ 59 = .ok (.invokevirtual 186, 3) := by decide +kernel
theorem dX6_differ_62 : decode cX6_differ 62 = .ok (.istore 6, 2) := by decide +kernel
theorem dX6_differ_64 : decode cX6_differ 64 = .ok (.iload 5, 2) := by decide +kernel
theorem dX6_differ_66 : decode cX6_differ 66 = .ok (.aload_n 0, 1) := by decide +kernel
theorem dX6_differ_67 : decode cX6_differ 67 = .ok (.getfield 33, 3) := by decide +kernel
theorem dX6_differ_70 : decode cX6_differ 70 = .ok (.iload 4, 2) := by decide +kernel
theorem dX6_differ_72 : decode cX6_differ 72 = .ok (.invokevirtual 183, 3) := by decide +kernel
theorem dX6_differ_75 : decode cX6_differ 75 = .ok (.if_icmp .ne 17, 3) := by decide +kernel
theorem dX6_differ_78 : decode cX6_differ 78 = .ok (.iload 6, 2) := by decide +kernel
theorem dX6_differ_80 : decode cX6_differ 80 = .ok (.aload_n 0, 1) := by decide +kernel
theorem dX6_differ_81 : decode cX6_differ 81 = .ok (.getfield 33, 3) := by decide +kernel
theorem dX6_differ_84 : decode cX6_differ 84 = .ok (.iload 4, 2) := by decide +kernel
theorem dX6_differ_86 : decode cX6_differ 86 = .ok (.invokevirtual 186, 3) := by decide +kernel
theorem dX6_differ_89 : decode cX6_differ 89 = .ok (.if_icmp .eq 6, 3) := by decide +kernel
theorem dX6_differ_92 : decode cX6_differ 92 = .ok (.bipush (-3), 2) := by decide +kernel
theorem dX6_differ_94 : decode cX6_differ 94 = .ok (.ireturn, 1) := by decide +kernel
theorem dX6_differ_95 : decode cX6_differ 95 = .ok (.aload_n 0, 1) := by decide +kernel
theorem dX6_differ_96 : decode cX6_differ 96 = .ok (.getfield 33, 3) := by decide +kernel
theorem dX6_differ_99 : decode cX6_differ 99 = .ok (.iload 5, 2) := by decide +kernel
theorem dX6_differ_101 : decode cX6_differ 101 = .ok (.iload 6, 2) := by decide +kernel
theorem dX6_differ_103 : decode cX6_differ 103 = .ok (.invokevirtual 172, 3) := by decide +kernel
theorem dX6_differ_106 : decode cX6_differ 106 = .ok (.istore 7, 2) := by decide +kernel
theorem dX6_differ_108 : decode cX6_differ 108 = .ok (.iconst 0, 1) := by decide +kernel
theorem dX6_differ_109 : decode cX6_differ 109 = .ok (.istore 8, 2) := by decide +kernel
theorem dX6_differ_111 : decode cX6_differ 111 = .ok (.iload 8, 2) := by decide +kernel
theorem dX6_differ_113 : decode cX6_differ 113 = .ok (.iload 5, 2) := by decide +kernel
theorem dX6_differ_115 : decode cX6_differ 115 = .ok (.iload 6, 2) := by decide +kernel
theorem dX6_differ_117 : decode cX6_differ 117 = .ok (.imul, 1) := by decide +kernel
theorem dX6_differ_118 : decode cX6_differ 118 = .ok (.if_icmp .ge 42, 3) := by decide +kernel
theorem dX6_differ_121 : decode cX6_differ 121 = .ok (.aload_n 0, 1) := by decide +kernel
theorem dX6_differ_122 : decode cX6_differ 122 = .ok (.getfield 33, 3) := by decide +kernel
theorem dX6_differ_125 : decode cX6_differ 125 = .ok (.iload 7, 2) := by decide +kernel
theorem dX6_differ_127 : decode cX6_differ 127 = .ok (.iload 8, 2) := by decide +kernel
theorem dX6_differ_129 : decode cX6_differ 129 = .ok (.aload_n 0, 1) := by decide +kernel
theorem dX6_differ_130 : decode cX6_differ 130 = .ok (.getfield 33, 3) := by decide +kernel
theorem dX6_differ_133 : decode cX6_differ 133 = .ok (.iload_n 3, 1) := by decide +kernel
theorem dX6_differ_134 : decode cX6_differ 134 = .ok (.iload 8, 2) := by decide +kernel
theorem dX6_differ_136 : decode cX6_differ 136 = .ok (.invokevirtual 189, 3) := by decide +kernel
theorem dX6_differ_139 : decode cX6_differ 139 = .ok (.aload_n 0, 1) := by decide +kernel
theorem dX6_differ_140 : decode cX6_differ 140 = .ok (.getfield 33, 3) := by decide +kernel
theorem dX6_differ_143 : decode cX6_differ 143 = .ok (.iload 4, 2) := by decide +kernel
theorem dX6_differ_145 : decode cX6_differ 145 = .ok (.iload 8, 2) := by decide +kernel
theorem dX6_differ_147 : decode cX6_differ 147 = .ok (.invokevirtual 189, 3) := by decide +kernel
theorem dX6_differ_150 : decode cX6_differ 150 = .ok (.isub, 1) := by decide +kernel
theorem dX6_differ_151 : decode cX6_differ 151 = .ok (.invokevirtual 175, 3) := by decide +kernel
theorem dX6_differ_154 : decode cX6_differ 154 = .ok (.iinc 8 1, 3) := by decide +kernel
theorem dX6_differ_157 : decode cX6_differ 157 = .ok (.goto (-46), 3) := by decide +kernel
theorem dX6_differ_160 : decode cX6_differ 160 = .ok (.aload_n 0, 1) := by decide +kernel
theorem dX6_differ_161 : decode cX6_differ 161 = .ok (.getfield 33, 3) := by decide +kernel
theorem dX6_differ_164 : decode cX6_differ 164 = .ok (.getfield 178, 3) := by decide +kernel
theorem dX6_differ_167 : decode cX6_differ 167 = .ok (.ireturn, 1) := by decide +kernel
set_option maxRecDepth 20000 in
theorem ggX6_turn_X1_has : GoodIn wsX6_turn wsX1_has := goodIn_r _ [7, 8, 98, 99, 100, 101, 102] (by decide +kernel) (by decide +kernel)
set_option maxRecDepth 20000 in
theorem gX6_turn_X1_has : GoodIn wsX6_turn (wsV RX6 142 RX1 yX1_has wsX1_has) := goodIn_app (goodIn_of _ (by decide +kernel)) ggX6_turn_X1_has
set_option maxRecDepth 20000 in
theorem ggX6_turn_X6_isPlace : GoodIn wsX6_turn wsX6_isPlace := goodIn_r _ [12, 13, 14, 11, 15] (by decide +kernel) (by decide +kernel)
set_option maxRecDepth 20000 in
theorem gX6_turn_X6_isPlace : GoodIn wsX6_turn (va_wsS RX6 90 yX6_isPlace wsX6_isPlace) := goodIn_app (goodIn_of _ (by decide +kernel)) ggX6_turn_X6_isPlace
set_option maxRecDepth 20000 in
theorem ggX6_turn_X1_senderOf : GoodIn wsX6_turn wsX1_senderOf := goodIn_r _ [19, 20, 21, 22, 23, 6, 24, 25, 26, 27, 28, 29, 98, 99, 100, 101, 102] (by decide +kernel) (by decide +kernel)
set_option maxRecDepth 20000 in
theorem gX6_turn_X1_senderOf : GoodIn wsX6_turn (wsV RX6 131 RX1 yX1_senderOf wsX1_senderOf) := goodIn_app (goodIn_of _ (by decide +kernel)) ggX6_turn_X1_senderOf
set_option maxRecDepth 20000 in
theorem ggX6_turn_X3_aim : GoodIn wsX6_turn wsX3_aim := goodIn_r _ [34, 35, 36, 37, 38, 39, 40, 41, 33, 42, 43, 44, 45, 46, 47, 48, 49, 50, 51, 52, 53, 54, 55, 56, 57, 58, 59, 60, 11, 61, 62, 63, 64, 65, 66, 67, 68, 69, 70, 71, 72, 73, 103, 104, 105, 106, 107, 108, 109, 110, 111, 112, 113] (by decide +kernel) (by decide +kernel)
set_option maxRecDepth 20000 in
theorem gX6_turn_X3_aim : GoodIn wsX6_turn (wsV RX6 128 RX3 yX3_aim wsX3_aim) := goodIn_app (goodIn_of _ (by decide +kernel)) ggX6_turn_X3_aim
set_option maxRecDepth 20000 in
theorem ggX6_turn_X6_likeness : GoodIn wsX6_turn wsX6_likeness := goodIn_r _ [77, 2, 1, 78, 16, 17, 18, 6, 19, 20, 21, 22, 23, 24, 25, 26, 27, 28, 29, 79, 80, 81, 33, 82, 37, 56, 57, 58, 59, 36, 83, 84, 85, 86, 87, 88, 89, 90, 91, 92, 93, 94, 95, 96, 97, 103, 104, 105, 106, 107, 108, 109, 110, 111, 112, 113, 98, 99, 100, 101, 102] (by decide +kernel) (by decide +kernel)
set_option maxRecDepth 20000 in
theorem gX6_turn_X6_likeness : GoodIn wsX6_turn (wsV RX6 195 RX6 yX6_likeness wsX6_likeness) := goodIn_app (goodIn_of _ (by decide +kernel)) ggX6_turn_X6_likeness
theorem dX6_turn_0 : decode cX6_turn 0 = .ok (.aload_n 0, 1) := by decide +kernel
theorem dX6_turn_1 : decode cX6_turn 1 = .ok (.getfield 26, 3) := by decide +kernel
theorem dX6_turn_4 : decode cX6_turn 4 = .ok (.iload_n 1, 1) := by decide +kernel
theorem dX6_turn_5 : decode cX6_turn 5 = .ok (.invokevirtual 142, 3) := by decide +kernel
theorem dX6_turn_8 : decode cX6_turn 8 = .ok (.ifCond .eq 23, 3) := by decide +kernel
theorem dX6_turn_11 : decode cX6_turn 11 = .ok (.aload_n 0, 1) := by decide +kernel
theorem dX6_turn_12 : decode cX6_turn 12 = .ok (.getfield 26, 3) := by decide +kernel
theorem dX6_turn_15 : decode cX6_turn 15 = .ok (.iload_n 2, 1) := by decide +kernel
theorem dX6_turn_16 : decode cX6_turn 16 = .ok (.invokevirtual 142, 3) := by decide +kernel
theorem dX6_turn_19 : decode cX6_turn 19 = .ok (.ifCond .eq 12, 3) := by decide +kernel
theorem dX6_turn_22 : decode cX6_turn 22 = .ok (.iload_n 3, 1) := by decide +kernel
theorem dX6_turn_23 : decode cX6_turn 23 = .ok (.iload 4, 2) := by decide +kernel
theorem dX6_turn_25 : decode cX6_turn 25 = .ok (.invokestatic 90, 3) := by decide +kernel
theorem dX6_turn_28 : decode cX6_turn 28 = .ok (.ifCond .ne 6, 3) := by decide +kernel
theorem dX6_turn_31 : decode cX6_turn 31 = .ok (.bipush (-100), 2) := by decide +kernel
theorem dX6_turn_33 : decode cX6_turn 33 = .ok (.ireturn, 1) := by decide +kernel
theorem dX6_turn_34 : decode cX6_turn 34 = .ok (.aload_n 0, 1) := by decide +kernel
theorem dX6_turn_35 : decode cX6_turn 35 = .ok (.getfield 26, 3) := by decide +kernel
theorem dX6_turn_38 : decode cX6_turn 38 = .ok (.iload_n 1, 1) := by decide +kernel
theorem dX6_turn_39 : decode cX6_turn 39 = .ok (.invokevirtual 131, 3) := by decide +kernel
theorem dX6_turn_42 : decode cX6_turn 42 = .ok (.aload_n 0, 1) := by decide +kernel
theorem dX6_turn_43 : decode cX6_turn 43 = .ok (.getfield 26, 3) := by decide +kernel
theorem dX6_turn_46 : decode cX6_turn 46 = .ok (.iload_n 2, 1) := by decide +kernel
theorem dX6_turn_47 : decode cX6_turn 47 = .ok (.invokevirtual 131, 3) := by decide +kernel
theorem dX6_turn_50 : decode cX6_turn 50 = .ok (.if_icmp .eq 6, 3) := by decide +kernel
theorem dX6_turn_53 : decode cX6_turn 53 = .ok (.bipush (-101), 2) := by decide +kernel
theorem dX6_turn_55 : decode cX6_turn 55 = .ok (.ireturn, 1) := by decide +kernel
theorem dX6_turn_56 : decode cX6_turn 56 = .ok (.aload_n 0, 1) := by decide +kernel
theorem dX6_turn_57 : decode cX6_turn 57 = .ok (.getfield 10, 3) := by decide +kernel
theorem dX6_turn_60 : decode cX6_turn 60 = .ok (.iload_n 3, 1) := by decide +kernel
theorem dX6_turn_61 : decode cX6_turn 61 = .ok (.iload 4, 2) := by decide +kernel
theorem dX6_turn_63 : decode cX6_turn 63 = .ok (.invokevirtual 128, 3) := by decide +kernel
theorem dX6_turn_66 : decode cX6_turn 66 = .ok (.iconst 0, 1) := by decide +kernel
theorem dX6_turn_67 : decode cX6_turn 67 = .ok (.istore 5, 2) := by decide +kernel
theorem dX6_turn_69 : decode cX6_turn 69 = .ok (.aload_n 0, 1) := by decide +kernel
theorem dX6_turn_70 : decode cX6_turn 70 = .ok (.iload_n 1, 1) := by decide +kernel
theorem dX6_turn_71 : decode cX6_turn 71 = .ok (.iload_n 2, 1) := by decide +kernel
theorem dX6_turn_72 : decode cX6_turn 72 = .ok (.iconst 0, 1) := by decide +kernel
theorem dX6_turn_73 : decode cX6_turn 73 = .ok (.invokevirtual 195, 3) := by decide +kernel
theorem dX6_turn_76 : decode cX6_turn 76 = .ok (.istore 6, 2) := by decide +kernel
theorem dX6_turn_78 : decode cX6_turn 78 = .ok (.iconst 1, 1) := by decide +kernel
theorem dX6_turn_79 : decode cX6_turn 79 = .ok (.istore 7, 2) := by decide +kernel
theorem dX6_turn_81 : decode cX6_turn 81 = .ok (.iload 7, 2) := by decide +kernel
theorem dX6_turn_83 : decode cX6_turn 83 = .ok (.bipush 8, 2) := by decide +kernel
theorem dX6_turn_85 : decode cX6_turn 85 = .ok (.if_icmp .gt 58, 3) := by decide +kernel
theorem dX6_turn_88 : decode cX6_turn 88 = .ok (.iload 7, 2) := by decide +kernel
theorem dX6_turn_90 : decode cX6_turn 90 = .ok (.ineg, 1) := by decide +kernel
theorem dX6_turn_91 : decode cX6_turn 91 = .ok (.istore 8, 2) := by decide +kernel
theorem dX6_turn_93 : decode cX6_turn 93 = .ok (.iload 8, 2) := by decide +kernel
theorem dX6_turn_95 : decode cX6_turn 95 = .ok (.iload 7, 2) := by decide +kernel
theorem dX6_turn_97 : decode cX6_turn 97 = .ok (.if_icmp .gt 40, 3) := by decide +kernel
theorem dX6_turn_100 : decode cX6_turn 100 = .ok (.aload_n 0, 1) := by decide +kernel
theorem dX6_turn_101 : decode cX6_turn 101 = .ok (.iload_n 1, 1) := by decide +kernel
theorem dX6_turn_102 : decode cX6_turn 102 = .ok (.iload_n 2, 1) := by decide +kernel
theorem dX6_turn_103 : decode cX6_turn 103 = .ok (.iload 8, 2) := by decide +kernel
theorem dX6_turn_105 : decode cX6_turn 105 = .ok (.invokevirtual 195, 3) := by decide +kernel
theorem dX6_turn_108 : decode cX6_turn 108 = .ok (.istore 9, 2) := by decide +kernel
theorem dX6_turn_110 : decode cX6_turn 110 = .ok (.iload 9, 2) := by decide +kernel
theorem dX6_turn_112 : decode cX6_turn 112 = .ok (.iload 6, 2) := by decide +kernel
theorem dX6_turn_114 : decode cX6_turn 114 = .ok (.if_icmp .le 11, 3) := by decide +kernel
theorem dX6_turn_117 : decode cX6_turn 117 = .ok (.iload 9, 2) := by decide +kernel
theorem dX6_turn_119 : decode cX6_turn 119 = .ok (.istore 6, 2) := by decide +kernel
theorem dX6_turn_121 : decode cX6_turn 121 = .ok (.iload 8, 2) := by decide +kernel
theorem dX6_turn_123 : decode cX6_turn 123 = .ok (.istore 5, 2) := by decide +kernel
theorem dX6_turn_125 : decode cX6_turn 125 = .ok (.iload 8, 2) := by decide +kernel
theorem dX6_turn_127 : decode cX6_turn 127 = .ok (.iconst 2, 1) := by decide +kernel
theorem dX6_turn_128 : decode cX6_turn 128 = .ok (.iload 7, 2) := by decide +kernel
theorem dX6_turn_130 : decode cX6_turn 130 = .ok (.imul, 1) := by decide +kernel
theorem dX6_turn_131 : decode cX6_turn 131 = .ok (.iadd, 1) := by decide +kernel
theorem dX6_turn_132 : decode cX6_turn 132 = .ok (.istore 8, 2) := by decide +kernel
theorem dX6_turn_134 : decode cX6_turn 134 = .ok (.goto (-41), 3) := by decide +kernel
theorem dX6_turn_137 : decode cX6_turn 137 = .ok (.iinc 7 1, 3) := by decide +kernel
theorem dX6_turn_140 : decode cX6_turn 140 = .ok (.goto (-59), 3) := by decide +kernel
theorem dX6_turn_143 : decode cX6_turn 143 = .ok (.iload 5, 2) := by decide +kernel
theorem dX6_turn_145 : decode cX6_turn 145 = .ok (.ireturn, 1) := by decide +kernel
set_option maxRecDepth 20000 in
theorem ggX6_likeness_X1_senderOf : GoodIn wsX6_likeness wsX1_senderOf := goodIn_r _ [8, 9, 10, 11, 12, 7, 13, 14, 15, 16, 17, 18, 56, 57, 58, 59, 60] (by decide +kernel) (by decide +kernel)
set_option maxRecDepth 20000 in
theorem gX6_likeness_X1_senderOf : GoodIn wsX6_likeness (wsV RX6 131 RX1 yX1_senderOf wsX1_senderOf) := goodIn_app (goodIn_of _ (by decide +kernel)) ggX6_likeness_X1_senderOf
set_option maxRecDepth 20000 in
theorem ggX6_likeness_X3_aimedDelay : GoodIn wsX6_likeness wsX3_aimedDelay := goodIn_r _ [23, 24, 25, 26, 27, 22, 28, 29, 45, 46, 47, 48, 49, 50, 51, 52, 53, 54, 55] (by decide +kernel) (by decide +kernel)
set_option maxRecDepth 20000 in
theorem gX6_likeness_X3_aimedDelay : GoodIn wsX6_likeness (wsV RX6 134 RX3 yX3_aimedDelay wsX3_aimedDelay) := goodIn_app (goodIn_of _ (by decide +kernel)) ggX6_likeness_X3_aimedDelay
set_option maxRecDepth 20000 in
theorem ggX6_likeness_X1_at : GoodIn wsX6_likeness wsX1_at := goodIn_r _ [33, 34, 35, 36, 37, 7, 38, 10, 11, 12, 13, 14, 15, 16, 17, 18, 56, 57, 58, 59, 60] (by decide +kernel) (by decide +kernel)
set_option maxRecDepth 20000 in
theorem gX6_likeness_X1_at : GoodIn wsX6_likeness (wsV RX6 144 RX1 yX1_at wsX1_at) := goodIn_app (goodIn_of _ (by decide +kernel)) ggX6_likeness_X1_at
theorem dX6_likeness_0 : decode cX6_likeness 0 = .ok (.aload_n 0, 1) := by decide +kernel
theorem dX6_likeness_1 : decode cX6_likeness 1 = .ok (.getfield 10, 3) := by decide +kernel
theorem dX6_likeness_4 : decode cX6_likeness 4 = .ok (.aload_n 0, 1) := by decide +kernel
theorem dX6_likeness_5 : decode cX6_likeness 5 = .ok (.getfield 26, 3) := by decide +kernel
theorem dX6_likeness_8 : decode cX6_likeness 8 = .ok (.iload_n 1, 1) := by decide +kernel
theorem dX6_likeness_9 : decode cX6_likeness 9 = .ok (.invokevirtual 131, 3) := by decide +kernel
theorem dX6_likeness_12 : decode cX6_likeness 12 = .ok (.invokevirtual 134, 3) := by decide +kernel
theorem dX6_likeness_15 : decode cX6_likeness 15 = .ok (.istore 4, 2) := by decide +kernel
theorem dX6_likeness_17 : decode cX6_likeness 17 = .ok (.iconst 0, 1) := by decide +kernel
theorem dX6_likeness_18 : decode cX6_likeness 18 = .ok (.istore 5, 2) := by decide +kernel
theorem dX6_likeness_20 : decode cX6_likeness 20 = .ok (.iconst 0, 1) := by decide +kernel
theorem dX6_likeness_21 : decode cX6_likeness 21 = .ok (.istore 6, 2) := by decide +kernel
theorem dX6_likeness_23 : decode cX6_likeness 23 = .ok (.iload 6, 2) := by decide +kernel
theorem dX6_likeness_25 : decode cX6_likeness 25 = .ok (.aload_n 0, 1) := by decide +kernel
theorem dX6_likeness_26 : decode cX6_likeness 26 = .ok (.getfield 10, 3) := by decide +kernel
theorem dX6_likeness_29 : decode cX6_likeness 29 = .ok (.getfield 137, 3) := by decide +kernel
theorem dX6_likeness_32 : decode cX6_likeness 32 = .ok (.if_icmp .ge 87, 3) := by decide +kernel
theorem dX6_likeness_35 : decode cX6_likeness 35 = .ok (.iload 4, 2) := by decide +kernel
theorem dX6_likeness_37 : decode cX6_likeness 37 = .ok (.aload_n 0, 1) := by decide +kernel
theorem dX6_likeness_38 : decode cX6_likeness 38 = .ok (.getfield 10, 3) := by decide +kernel
theorem dX6_likeness_41 : decode cX6_likeness 41 = .ok (.iload 6, 2) := by decide +kernel
theorem dX6_likeness_43 : decode cX6_likeness 43 = .ok (.invokevirtual 134, 3) := by decide +kernel
theorem dX6_likeness_46 : decode cX6_likeness 46 = .ok (.iadd, 1) := by decide +kernel
theorem dX6_likeness_47 : decode cX6_likeness 47 = .ok (.istore 7, 2) := by decide +kernel
theorem dX6_likeness_49 : decode cX6_likeness 49 = .ok (.bipush (-6), 2) := by decide +kernel
theorem dX6_likeness_51 : decode cX6_likeness 51 = .ok (.istore 8, 2) := by decide +kernel
theorem dX6_likeness_53 : decode cX6_likeness 53 = .ok (.iload 8, 2) := by decide +kernel
theorem dX6_likeness_55 : decode cX6_likeness 55 = .ok (.bipush 6, 2) := by decide +kernel
theorem dX6_likeness_57 : decode cX6_likeness 57 = .ok (.if_icmp .gt 56, 3) := by decide +kernel
theorem dX6_likeness_60 : decode cX6_likeness 60 = .ok (.aload_n 0, 1) := by decide +kernel
theorem dX6_likeness_61 : decode cX6_likeness 61 = .ok (.getfield 26, 3) := by decide +kernel
theorem dX6_likeness_64 : decode cX6_likeness 64 = .ok (.iload_n 1, 1) := by decide +kernel
theorem dX6_likeness_65 : decode cX6_likeness 65 = .ok (.iload 6, 2) := by decide +kernel
theorem dX6_likeness_67 : decode cX6_likeness 67 = .ok (.iload 7, 2) := by decide +kernel
theorem dX6_likeness_69 : decode cX6_likeness 69 = .ok (.iload 8, 2) := by decide +kernel
theorem dX6_likeness_71 : decode cX6_likeness 71 = .ok (.iadd, 1) := by decide +kernel
theorem dX6_likeness_72 : decode cX6_likeness 72 = .ok (.invokevirtual 144, 3) := by decide +kernel
theorem dX6_likeness_75 : decode cX6_likeness 75 = .ok (.istore 9, 2) := by decide +kernel
theorem dX6_likeness_77 : decode cX6_likeness 77 = .ok (.iload 9, 2) := by decide +kernel
theorem dX6_likeness_79 : decode cX6_likeness 79 = .ok (.ifCond .eq 28, 3) := by decide +kernel
theorem dX6_likeness_82 : decode cX6_likeness 82 = .ok (.iload 5, 2) := by decide +kernel
theorem dX6_likeness_84 : decode cX6_likeness 84 = .ok (.iload 9, 2) := by decide +kernel
theorem dX6_likeness_86 : decode cX6_likeness 86 = .ok (.aload_n 0, 1) := by decide +kernel
theorem dX6_likeness_87 : decode cX6_likeness 87 = .ok (.getfield 26, 3) := by decide +kernel
theorem dX6_likeness_90 : decode cX6_likeness 90 = .ok (.iload_n 2, 1) := by decide +kernel
theorem dX6_likeness_91 : decode cX6_likeness 91 = .ok (.iload 6, 2) := by decide +kernel
theorem dX6_likeness_93 : decode cX6_likeness 93 = .ok (.iload 7, 2) := by decide +kernel
theorem dX6_likeness_95 : decode cX6_likeness 95 = .ok (.iload 8, 2) := by decide +kernel
theorem dX6_likeness_97 : decode cX6_likeness 97 = .ok (.iadd, 1) := by decide +kernel
theorem dX6_likeness_98 : decode cX6_likeness 98 = .ok (.iload_n 3, 1) := by decide +kernel
theorem dX6_likeness_99 : decode cX6_likeness 99 = .ok (.iadd, 1) := by decide +kernel
theorem dX6_likeness_100 : decode cX6_likeness 100 = .ok (.invokevirtual 144, 3) := by decide +kernel
theorem dX6_likeness_103 : decode cX6_likeness 103 = .ok (.imul, 1) := by decide +kernel
theorem dX6_likeness_104 : decode cX6_likeness 104 = .ok (.iadd, 1) := by decide +kernel
theorem dX6_likeness_105 : decode cX6_likeness 105 = .ok (.istore 5, 2) := by decide +kernel
theorem dX6_likeness_107 : decode cX6_likeness 107 = .ok (.iinc 8 1, 3) := by decide +kernel
theorem dX6_likeness_110 : decode cX6_likeness 110 = .ok (.goto (-57), 3) := by decide +kernel
theorem dX6_likeness_113 : decode cX6_likeness 113 = .ok (.iinc 6 1, 3) := by decide +kernel
theorem dX6_likeness_116 : decode cX6_likeness 116 = .ok (.goto (-93), 3) := by decide +kernel
theorem dX6_likeness_119 : decode cX6_likeness 119 = .ok (.iload 5, 2) := by decide +kernel
theorem dX6_likeness_121 : decode cX6_likeness 121 = .ok (.ireturn, 1) := by decide +kernel
set_option maxRecDepth 20000 in
theorem ggX6_fan_X1_has : GoodIn wsX6_fan wsX1_has := goodIn_r _ [7, 8, 134, 135, 136, 137, 138] (by decide +kernel) (by decide +kernel)
set_option maxRecDepth 20000 in
theorem gX6_fan_X1_has : GoodIn wsX6_fan (wsV RX6 142 RX1 yX1_has wsX1_has) := goodIn_app (goodIn_of _ (by decide +kernel)) ggX6_fan_X1_has
set_option maxRecDepth 20000 in
theorem ggX6_fan_X6_within : GoodIn wsX6_fan wsX6_within := goodIn_r _ [12] (by decide +kernel) (by decide +kernel)
set_option maxRecDepth 20000 in
theorem gX6_fan_X6_within : GoodIn wsX6_fan (va_wsS RX6 51 yX6_within wsX6_within) := goodIn_app (goodIn_of _ (by decide +kernel)) ggX6_fan_X6_within
set_option maxRecDepth 20000 in
theorem ggX6_fan_X0_begin : GoodIn wsX6_fan wsX0_begin := goodIn_r _ [17, 18, 19, 20, 139, 140, 141, 142] (by decide +kernel) (by decide +kernel)
set_option maxRecDepth 20000 in
theorem gX6_fan_X0_begin : GoodIn wsX6_fan (wsV RX6 198 RX0 yX0_begin wsX0_begin) := goodIn_app (goodIn_of _ (by decide +kernel)) ggX6_fan_X0_begin
set_option maxRecDepth 20000 in
theorem ggX6_fan_X0_xOf : GoodIn wsX6_fan wsX0_xOf := goodIn_r _ [24, 20, 25, 26, 27, 16, 28, 18, 139, 140, 141, 142] (by decide +kernel) (by decide +kernel)
set_option maxRecDepth 20000 in
theorem gX6_fan_X0_xOf : GoodIn wsX6_fan (wsV RX6 200 RX0 yX0_xOf wsX0_xOf) := goodIn_app (goodIn_of _ (by decide +kernel)) ggX6_fan_X0_xOf
set_option maxRecDepth 20000 in
theorem ggX6_fan_X6_joinedMean : GoodIn wsX6_fan wsX6_joinedMean := goodIn_r _ [32, 33, 1, 34, 35, 36, 37, 11, 38, 9, 10, 12, 39, 40, 41, 42, 43, 44, 45, 46, 47, 48, 49, 50, 51, 52, 53, 54, 55, 56, 57, 58, 59, 60, 61, 62, 63, 64, 65, 66, 67, 68, 69, 70, 71, 72, 73, 74, 75, 76, 77, 78, 79, 80, 81, 82, 83, 84, 85, 86, 87, 88, 89, 90, 6, 91, 92, 93, 94, 95, 96, 97, 98, 99, 100, 101, 102, 103, 104, 105, 106, 107, 108, 109, 110, 111, 112, 113, 114, 115, 116, 117, 118, 128, 129, 130, 131, 132, 133, 134, 135, 136, 137, 138, 143, 144, 145, 146, 147, 148, 149, 150, 151, 152, 153] (by decide +kernel) (by decide +kernel)
set_option maxRecDepth 20000 in
theorem gX6_fan_X6_joinedMean : GoodIn wsX6_fan (wsV RX6 163 RX6 yX6_joinedMean wsX6_joinedMean) := goodIn_app (goodIn_of _ (by decide +kernel)) ggX6_fan_X6_joinedMean
set_option maxRecDepth 20000 in
theorem ggX6_fan_X0_set : GoodIn wsX6_fan wsX0_set := goodIn_r _ [122, 123, 124, 125, 126, 16, 127, 18, 19, 139, 140, 141, 142] (by decide +kernel) (by decide +kernel)
set_option maxRecDepth 20000 in
theorem gX6_fan_X0_set : GoodIn wsX6_fan (wsV RX6 203 RX0 yX0_set wsX0_set) := goodIn_app (goodIn_of _ (by decide +kernel)) ggX6_fan_X0_set
theorem dX6_fan_0 : decode cX6_fan 0 = .ok (.aload_n 0, 1) := by decide +kernel
theorem dX6_fan_1 : decode cX6_fan 1 = .ok (.getfield 26, 3) := by decide +kernel
theorem dX6_fan_4 : decode cX6_fan 4 = .ok (.iload_n 1, 1) := by decide +kernel
theorem dX6_fan_5 : decode cX6_fan 5 = .ok (.invokevirtual 142, 3) := by decide +kernel
theorem dX6_fan_8 : decode cX6_fan 8 = .ok (.ifCond .eq 35, 3) := by decide +kernel
theorem dX6_fan_11 : decode cX6_fan 11 = .ok (.iload_n 2, 1) := by decide +kernel
theorem dX6_fan_12 : decode cX6_fan 12 = .ok (.iconst 2, 1) := by decide +kernel
theorem dX6_fan_13 : decode cX6_fan 13 = .ok (.bipush 9, 2) := by decide +kernel
theorem dX6_fan_15 : decode cX6_fan 15 = .ok (.invokestatic 51, 3) := by decide +kernel
theorem dX6_fan_18 : decode cX6_fan 18 = .ok (.ifCond .eq 25, 3) := by decide +kernel
theorem dX6_fan_21 : decode cX6_fan 21 = .ok (.iload_n 3, 1) := by decide +kernel
theorem dX6_fan_22 : decode cX6_fan 22 = .ok (.iconst 2, 1) := by decide +kernel
theorem dX6_fan_23 : decode cX6_fan 23 = .ok (.bipush 16, 2) := by decide +kernel
theorem dX6_fan_25 : decode cX6_fan 25 = .ok (.invokestatic 51, 3) := by decide +kernel
theorem dX6_fan_28 : decode cX6_fan 28 = .ok (.ifCond .eq 15, 3) := by decide +kernel
theorem dX6_fan_31 : decode cX6_fan 31 = .ok (.iload 4, 2) := by decide +kernel
theorem dX6_fan_33 : decode cX6_fan 33 = .ok (.iconst 1, 1) := by decide +kernel
theorem dX6_fan_34 : decode cX6_fan 34 = .ok (.sipush 250, 3) := by decide +kernel
theorem dX6_fan_37 : decode cX6_fan 37 = .ok (.invokestatic 51, 3) := by decide +kernel
theorem dX6_fan_40 : decode cX6_fan 40 = .ok (.ifCond .ne 6, 3) := by decide +kernel
theorem dX6_fan_43 : decode cX6_fan 43 = .ok (.bipush (-2), 2) := by decide +kernel
theorem dX6_fan_45 : decode cX6_fan 45 = .ok (.ireturn, 1) := by decide +kernel
theorem dX6_fan_46 : decode cX6_fan 46 = .ok (.aload_n 0, 1) := by decide +kernel
theorem dX6_fan_47 : decode cX6_fan 47 = .ok (.getfield 40, 3) := by decide +kernel
theorem dX6_fan_50 : decode cX6_fan 50 = .ok (.iload_n 2, 1) := by decide +kernel
theorem dX6_fan_51 : decode cX6_fan 51 = .ok (.iload_n 3, 1) := by decide +kernel
theorem dX6_fan_52 : decode cX6_fan 52 = .ok (.iload 4, 2) := by decide +kernel
theorem dX6_fan_54 : decode cX6_fan 54 = .ok (.invokevirtual 198, 3) := by decide +kernel
theorem dX6_fan_57 : decode cX6_fan 57 = .ok (.iconst 0, 1) := by decide +kernel
theorem dX6_fan_58 : decode cX6_fan 58 = .ok (.istore 5, 2) := by decide +kernel
theorem dX6_fan_60 : decode cX6_fan 60 = .ok (.iload 5, 2) := by decide +kernel
theorem dX6_fan_62 : decode cX6_fan 62 = .ok (.iload_n 2, 1) := by decide +kernel
theorem dX6_fan_63 : decode cX6_fan 63 = .ok (.if_icmp .ge 58, 3) := by decide +kernel
theorem dX6_fan_66 : decode cX6_fan 66 = .ok (.iconst 0, 1) := by decide +kernel
theorem dX6_fan_67 : decode cX6_fan 67 = .ok (.istore 6, 2) := by decide +kernel
theorem dX6_fan_69 : decode cX6_fan 69 = .ok (.iload 6, 2) := by decide +kernel
theorem dX6_fan_71 : decode cX6_fan 71 = .ok (.iload_n 3, 1) := by decide +kernel
theorem dX6_fan_72 : decode cX6_fan 72 = .ok (.if_icmp .ge 43, 3) := by decide +kernel
theorem dX6_fan_75 : decode cX6_fan 75 = .ok (.aload_n 0, 1) := by decide +kernel
theorem dX6_fan_76 : decode cX6_fan 76 = .ok (.getfield 40, 3) := by decide +kernel
theorem dX6_fan_79 : decode cX6_fan 79 = .ok (.iload 5, 2) := by decide +kernel
theorem dX6_fan_81 : decode cX6_fan 81 = .ok (.iload 6, 2) := by decide +kernel
theorem dX6_fan_83 : decode cX6_fan 83 = .ok (.aload_n 0, 1) := by decide +kernel
theorem dX6_fan_84 : decode cX6_fan 84 = .ok (.iconst 1, 1) := by decide +kernel
theorem dX6_fan_85 : decode cX6_fan 85 = .ok (.iload_n 1, 1) := by decide +kernel
theorem dX6_fan_86 : decode cX6_fan 86 = .ok (.ishl, 1) := by decide +kernel
theorem dX6_fan_87 : decode cX6_fan 87 = .ok (.aload_n 0, 1) := by decide +kernel
theorem dX6_fan_88 : decode cX6_fan 88 = .ok (.getfield 40, 3) := by decide +kernel
theorem dX6_fan_91 : decode cX6_fan 91 = .ok (.iload 5, 2) := by decide +kernel
theorem dX6_fan_93 : decode cX6_fan 93 = .ok (.iload 6, 2) := by decide +kernel
theorem dX6_fan_95 : decode cX6_fan 95 = .ok (.invokevirtual 200, 3) := by decide +kernel
theorem dX6_fan_98 : decode cX6_fan 98 = .ok (.iload 6, 2) := by decide +kernel
theorem dX6_fan_100 : decode cX6_fan 100 = .ok (.iload 4, 2) := by decide +kernel
theorem dX6_fan_102 : decode cX6_fan 102 = .ok (.imul, 1) := by decide +kernel
theorem dX6_fan_103 : decode cX6_fan 103 = .ok (.invokevirtual 163, 3) := by decide +kernel
theorem dX6_fan_106 : decode cX6_fan 106 = .ok (.invokevirtual 203, 3) := by decide +kernel
theorem dX6_fan_109 : decode cX6_fan 109 = .ok (.iinc 6 1, 3) := by decide +kernel
theorem dX6_fan_112 : decode cX6_fan 112 = .ok (.goto (-43), 3) := by decide +kernel
theorem dX6_fan_115 : decode cX6_fan 115 = .ok (.iinc 5 1, 3) := by decide +kernel
theorem dX6_fan_118 : decode cX6_fan 118 = .ok (.goto (-58), 3) := by decide +kernel
theorem dX6_fan_121 : decode cX6_fan 121 = .ok (.iconst 1, 1) := by decide +kernel
theorem dX6_fan_122 : decode cX6_fan 122 = .ok (.ireturn, 1) := by decide +kernel
set_option maxRecDepth 20000 in
theorem ggX6_fanAt_X0_has : GoodIn wsX6_fanAt wsX0_has := goodIn_r _ [7, 8, 9, 22, 23, 24, 25] (by decide +kernel) (by decide +kernel)
set_option maxRecDepth 20000 in
theorem gX6_fanAt_X0_has : GoodIn wsX6_fanAt (wsV RX6 204 RX0 yX0_has wsX0_has) := goodIn_app (goodIn_of _ (by decide +kernel)) ggX6_fanAt_X0_has
set_option maxRecDepth 20000 in
theorem ggX6_fanAt_X0_get : GoodIn wsX6_fanAt wsX0_get := goodIn_r _ [13, 14, 15, 4, 5, 6, 7, 8, 9, 22, 23, 24, 25] (by decide +kernel) (by decide +kernel)
set_option maxRecDepth 20000 in
theorem gX6_fanAt_X0_get : GoodIn wsX6_fanAt (wsV RX6 206 RX0 yX0_get wsX0_get) := goodIn_app (goodIn_of _ (by decide +kernel)) ggX6_fanAt_X0_get
theorem dX6_fanAt_0 : decode cX6_fanAt 0 = .ok (.aload_n 0, 1) := by decide +kernel
theorem dX6_fanAt_1 : decode cX6_fanAt 1 = .ok (.getfield 40, 3) := by decide +kernel
theorem dX6_fanAt_4 : decode cX6_fanAt 4 = .ok (.iload_n 1, 1) := by decide +kernel
theorem dX6_fanAt_5 : decode cX6_fanAt 5 = .ok (.iload_n 2, 1) := by decide +kernel
theorem dX6_fanAt_6 : decode cX6_fanAt 6 = .ok (.invokevirtual 204, 3) := by decide +kernel
theorem dX6_fanAt_9 : decode cX6_fanAt 9 = .ok (.ifCond .ne 6, 3) := by decide +kernel
theorem dX6_fanAt_12 : decode cX6_fanAt 12 = .ok (.ldc 156, 2) := by decide +kernel
theorem dX6_fanAt_14 : decode cX6_fanAt 14 = .ok (.ireturn, 1) := by decide +kernel
theorem dX6_fanAt_15 : decode cX6_fanAt 15 = .ok (.aload_n 0, 1) := by decide +kernel
theorem dX6_fanAt_16 : decode cX6_fanAt 16 = .ok (.getfield 40, 3) := by decide +kernel
theorem dX6_fanAt_19 : decode cX6_fanAt 19 = .ok (.iload_n 1, 1) := by decide +kernel
theorem dX6_fanAt_20 : decode cX6_fanAt 20 = .ok (.iload_n 2, 1) := by decide +kernel
theorem dX6_fanAt_21 : decode cX6_fanAt 21 = .ok (.invokevirtual 206, 3) := by decide +kernel
theorem dX6_fanAt_24 : decode cX6_fanAt 24 = .ok (.ireturn, 1) := by decide +kernel
set_option maxRecDepth 20000 in
theorem ggX6_board_X6_within : GoodIn wsX6_board wsX6_within := goodIn_r _ [7] (by decide +kernel) (by decide +kernel)
set_option maxRecDepth 20000 in
theorem gX6_board_X6_within : GoodIn wsX6_board (va_wsS RX6 51 yX6_within wsX6_within) := goodIn_app (goodIn_of _ (by decide +kernel)) ggX6_board_X6_within
set_option maxRecDepth 20000 in
theorem ggX6_board_X0_laidAt : GoodIn wsX6_board wsX0_laidAt := goodIn_r _ [12, 13, 14, 15, 16, 17, 18, 11, 19, 20, 21, 22, 23, 24, 25, 26, 27, 28, 35, 36, 37, 38] (by decide +kernel) (by decide +kernel)
set_option maxRecDepth 20000 in
theorem gX6_board_X0_laidAt : GoodIn wsX6_board (wsV RX6 210 RX0 yX0_laidAt wsX0_laidAt) := goodIn_app (goodIn_of _ (by decide +kernel)) ggX6_board_X0_laidAt
theorem dX6_board_0 : decode cX6_board 0 = .ok (.iload_n 1, 1) := by decide +kernel
theorem dX6_board_1 : decode cX6_board 1 = .ok (.iconst 2, 1) := by decide +kernel
theorem dX6_board_2 : decode cX6_board 2 = .ok (.bipush 12, 2) := by decide +kernel
theorem dX6_board_4 : decode cX6_board 4 = .ok (.invokestatic 51, 3) := by decide +kernel
theorem dX6_board_7 : decode cX6_board 7 = .ok (.ifCond .eq 24, 3) := by decide +kernel
theorem dX6_board_10 : decode cX6_board 10 = .ok (.iload_n 2, 1) := by decide +kernel
theorem dX6_board_11 : decode cX6_board 11 = .ok (.iconst 2, 1) := by decide +kernel
theorem dX6_board_12 : decode cX6_board 12 = .ok (.bipush 12, 2) := by decide +kernel
theorem dX6_board_14 : decode cX6_board 14 = .ok (.invokestatic 51, 3) := by decide +kernel
theorem dX6_board_17 : decode cX6_board 17 = .ok (.ifCond .eq 14, 3) := by decide +kernel
theorem dX6_board_20 : decode cX6_board 20 = .ok (.iload_n 3, 1) := by decide +kernel
theorem dX6_board_21 : decode cX6_board 21 = .ok (.iconst 1, 1) := by decide +kernel
theorem dX6_board_22 : decode cX6_board 22 = .ok (.sipush 500, 3) := by decide +kernel
theorem dX6_board_25 : decode cX6_board 25 = .ok (.invokestatic 51, 3) := by decide +kernel
theorem dX6_board_28 : decode cX6_board 28 = .ok (.ifCond .ne 6, 3) := by decide +kernel
theorem dX6_board_31 : decode cX6_board 31 = .ok (.ldc 156, 2) := by decide +kernel
theorem dX6_board_33 : decode cX6_board 33 = .ok (.ireturn, 1) := by decide +kernel
theorem dX6_board_34 : decode cX6_board 34 = .ok (.iload 4, 2) := by decide +kernel
theorem dX6_board_36 : decode cX6_board 36 = .ok (.iconst 0, 1) := by decide +kernel
theorem dX6_board_37 : decode cX6_board 37 = .ok (.iload_n 1, 1) := by decide +kernel
theorem dX6_board_38 : decode cX6_board 38 = .ok (.iconst 1, 1) := by decide +kernel
theorem dX6_board_39 : decode cX6_board 39 = .ok (.isub, 1) := by decide +kernel
theorem dX6_board_40 : decode cX6_board 40 = .ok (.invokestatic 51, 3) := by decide +kernel
theorem dX6_board_43 : decode cX6_board 43 = .ok (.ifCond .eq 25, 3) := by decide +kernel
theorem dX6_board_46 : decode cX6_board 46 = .ok (.iload 5, 2) := by decide +kernel
theorem dX6_board_48 : decode cX6_board 48 = .ok (.iconst 0, 1) := by decide +kernel
theorem dX6_board_49 : decode cX6_board 49 = .ok (.iload_n 2, 1) := by decide +kernel
theorem dX6_board_50 : decode cX6_board 50 = .ok (.iconst 1, 1) := by decide +kernel
theorem dX6_board_51 : decode cX6_board 51 = .ok (.isub, 1) := by decide +kernel
theorem dX6_board_52 : decode cX6_board 52 = .ok (.invokestatic 51, 3) := by decide +kernel
theorem dX6_board_55 : decode cX6_board 55 = .ok (.ifCond .eq 13, 3) := by decide +kernel
theorem dX6_board_58 : decode cX6_board 58 = .ok (.aload_n 0, 1) := by decide +kernel
theorem dX6_board_59 : decode cX6_board 59 = .ok (.getfield 40, 3) := by decide +kernel
theorem dX6_board_62 : decode cX6_board 62 = .ok (.getfield 207, 3) := by decide +kernel
theorem dX6_board_65 : decode cX6_board 65 = .ok (.ifCond .ne 6, 3) := by decide +kernel
theorem dX6_board_68 : decode cX6_board 68 = .ok (.ldc 156, 2) := by decide +kernel
theorem dX6_board_70 : decode cX6_board 70 = .ok (.ireturn, 1) := by decide +kernel
theorem dX6_board_71 : decode cX6_board 71 = .ok (.aload_n 0, 1) := by decide +kernel
theorem dX6_board_72 : decode cX6_board 72 = .ok (.getfield 40, 3) := by decide +kernel
theorem dX6_board_75 : decode cX6_board 75 = .ok (.iload_n 3, 1) := by decide +kernel
theorem dX6_board_76 : decode cX6_board 76 = .ok (.iconst 2, 1) := by decide +kernel
theorem dX6_board_77 : decode cX6_board 77 = .ok (.iload 4, 2) := by decide +kernel
theorem dX6_board_79 : decode cX6_board 79 = .ok (.imul, 1) := by decide +kernel
theorem dX6_board_80 : decode cX6_board 80 = .ok (.iload_n 1, 1) := by decide +kernel
theorem dX6_board_81 : decode cX6_board 81 = .ok (.isub, 1) := by decide +kernel
theorem dX6_board_82 : decode cX6_board 82 = .ok (.iconst 1, 1) := by decide +kernel
theorem dX6_board_83 : decode cX6_board 83 = .ok (.iadd, 1) := by decide +kernel
theorem dX6_board_84 : decode cX6_board 84 = .ok (.imul, 1) := by decide +kernel
theorem dX6_board_85 : decode cX6_board 85 = .ok (.iconst 2, 1) := by decide +kernel
theorem dX6_board_86 : decode cX6_board 86 = .ok (.idiv, 1) := by decide +kernel
theorem dX6_board_87 : decode cX6_board 87 = .ok (.iload_n 3, 1) := by decide +kernel
theorem dX6_board_88 : decode cX6_board 88 = .ok (.iload 5, 2) := by decide +kernel
theorem dX6_board_90 : decode cX6_board 90 = .ok (.imul, 1) := by decide +kernel
theorem dX6_board_91 : decode cX6_board 91 = .ok (.invokevirtual 210, 3) := by decide +kernel
theorem dX6_board_94 : decode cX6_board 94 = .ok (.ireturn, 1) := by decide +kernel
set_option maxRecDepth 20000 in
theorem ggX6_caliper_X6_isPlace : GoodIn wsX6_caliper wsX6_isPlace := goodIn_r _ [8, 9, 10, 7, 11] (by decide +kernel) (by decide +kernel)
set_option maxRecDepth 20000 in
theorem gX6_caliper_X6_isPlace : GoodIn wsX6_caliper (va_wsS RX6 90 yX6_isPlace wsX6_isPlace) := goodIn_app (goodIn_of _ (by decide +kernel)) ggX6_caliper_X6_isPlace
set_option maxRecDepth 20000 in
theorem ggX6_caliper_X6_root : GoodIn wsX6_caliper wsX6_root := goodIn_r _ [14, 15] (by decide +kernel) (by decide +kernel)
set_option maxRecDepth 20000 in
theorem gX6_caliper_X6_root : GoodIn wsX6_caliper (va_wsS RX6 218 yX6_root wsX6_root) := goodIn_app (goodIn_of _ (by decide +kernel)) ggX6_caliper_X6_root
theorem dX6_caliper_0 : decode cX6_caliper 0 = .ok (.iload_n 1, 1) := by decide +kernel
theorem dX6_caliper_1 : decode cX6_caliper 1 = .ok (.iload_n 2, 1) := by decide +kernel
theorem dX6_caliper_2 : decode cX6_caliper 2 = .ok (.invokestatic 90, 3) := by decide +kernel
theorem dX6_caliper_5 : decode cX6_caliper 5 = .ok (.ifCond .eq 12, 3) := by decide +kernel
theorem dX6_caliper_8 : decode cX6_caliper 8 = .ok (.iload_n 3, 1) := by decide +kernel
theorem dX6_caliper_9 : decode cX6_caliper 9 = .ok (.iload 4, 2) := by decide +kernel
theorem dX6_caliper_11 : decode cX6_caliper 11 = .ok (.invokestatic 90, 3) := by decide +kernel
theorem dX6_caliper_14 : decode cX6_caliper 14 = .ok (.ifCond .ne 6, 3) := by decide +kernel
theorem dX6_caliper_17 : decode cX6_caliper 17 = .ok (.bipush (-2), 2) := by decide +kernel
theorem dX6_caliper_19 : decode cX6_caliper 19 = .ok (.ireturn, 1) := by decide +kernel
theorem dX6_caliper_20 : decode cX6_caliper 20 = .ok (.iload_n 1, 1) := by decide +kernel
theorem dX6_caliper_21 : decode cX6_caliper 21 = .ok (.iload_n 3, 1) := by decide +kernel
theorem dX6_caliper_22 : decode cX6_caliper 22 = .ok (.isub, 1) := by decide +kernel
theorem dX6_caliper_23 : decode cX6_caliper 23 = .ok (.invokestatic 213, 3) := by decide +kernel
theorem dX6_caliper_26 : decode cX6_caliper 26 = .ok (.i2l, 1) := by decide +kernel
theorem dX6_caliper_27 : decode cX6_caliper 27 = .ok (.lstore 5, 2) := by decide +kernel
theorem dX6_caliper_29 : decode cX6_caliper 29 = .ok (.iload_n 2, 1) := by decide +kernel
theorem dX6_caliper_30 : decode cX6_caliper 30 = .ok (.iload 4, 2) := by decide +kernel
theorem dX6_caliper_32 : decode cX6_caliper 32 = .ok (.isub, 1) := by decide +kernel
theorem dX6_caliper_33 : decode cX6_caliper 33 = .ok (.invokestatic 213, 3) := by decide +kernel
theorem dX6_caliper_36 : decode cX6_caliper 36 = .ok (.i2l, 1) := by decide +kernel
theorem dX6_caliper_37 : decode cX6_caliper 37 = .ok (.lstore 7, 2) := by decide +kernel
theorem dX6_caliper_39 : decode cX6_caliper 39 = .ok (.lload 5, 2) := by decide +kernel
theorem dX6_caliper_41 : decode cX6_caliper 41 = .ok (.lload 5, 2) := by decide +kernel
theorem dX6_caliper_43 : decode cX6_caliper 43 = .ok (.lmul, 1) := by decide +kernel
theorem dX6_caliper_44 : decode cX6_caliper 44 = .ok (.lload 7, 2) := by decide +kernel
theorem dX6_caliper_46 : decode cX6_caliper 46 = .ok (.lload 7, 2) := by decide +kernel
theorem dX6_caliper_48 : decode cX6_caliper 48 = .ok (.lmul, 1) := by decide +kernel
theorem dX6_caliper_49 : decode cX6_caliper 49 = .ok (.ladd, 1) := by decide +kernel
theorem dX6_caliper_50 : decode cX6_caliper 50 = .ok (.lload 5, 2) := by decide +kernel
theorem dX6_caliper_52 : decode cX6_caliper 52 = .ok (.lload 7, 2) := by decide +kernel
theorem dX6_caliper_54 : decode cX6_caliper 54 = .ok (.ladd, 1) := by decide +kernel
theorem dX6_caliper_55 : decode cX6_caliper 55 = .ok (.invokestatic 218, 3) := by decide +kernel
theorem dX6_caliper_58 : decode cX6_caliper 58 = .ok (.l2i, 1) := by decide +kernel
theorem dX6_caliper_59 : decode cX6_caliper 59 = .ok (.ireturn, 1) := by decide +kernel
set_option maxRecDepth 20000 in
theorem ggX6_cap_X6_within : GoodIn wsX6_cap wsX6_within := goodIn_r _ [7] (by decide +kernel) (by decide +kernel)
set_option maxRecDepth 20000 in
theorem gX6_cap_X6_within : GoodIn wsX6_cap (va_wsS RX6 51 yX6_within wsX6_within) := goodIn_app (goodIn_of _ (by decide +kernel)) ggX6_cap_X6_within
theorem dX6_cap_0 : decode cX6_cap 0 = .ok (.iload_n 1, 1) := by decide +kernel
theorem dX6_cap_1 : decode cX6_cap 1 = .ok (.iconst 0, 1) := by decide +kernel
theorem dX6_cap_2 : decode cX6_cap 2 = .ok (.ldc 222, 2) := by decide +kernel
theorem dX6_cap_4 : decode cX6_cap 4 = .ok (.invokestatic 51, 3) := by decide +kernel
theorem dX6_cap_7 : decode cX6_cap 7 = .ok (.ifCond .ne 6, 3) := by decide +kernel
theorem dX6_cap_10 : decode cX6_cap 10 = .ok (.bipush (-2), 2) := by decide +kernel
theorem dX6_cap_12 : decode cX6_cap 12 = .ok (.ireturn, 1) := by decide +kernel
theorem dX6_cap_13 : decode cX6_cap 13 = .ok (.aload_n 0, 1) := by decide +kernel
theorem dX6_cap_14 : decode cX6_cap 14 = .ok (.getfield 47, 3) := by decide +kernel
theorem dX6_cap_17 : decode cX6_cap 17 = .ok (.getfield 114, 3) := by decide +kernel
theorem dX6_cap_20 : decode cX6_cap 20 = .ok (.istore_n 2, 1) := by decide +kernel
theorem dX6_cap_21 : decode cX6_cap 21 = .ok (.aload_n 0, 1) := by decide +kernel
theorem dX6_cap_22 : decode cX6_cap 22 = .ok (.getfield 47, 3) := by decide +kernel
theorem dX6_cap_25 : decode cX6_cap 25 = .ok (.iload_n 1, 1) := by decide +kernel
theorem dX6_cap_26 : decode cX6_cap 26 = .ok (.putfield 114, 3) := by decide +kernel
theorem dX6_cap_29 : decode cX6_cap 29 = .ok (.iload_n 2, 1) := by decide +kernel
theorem dX6_cap_30 : decode cX6_cap 30 = .ok (.ireturn, 1) := by decide +kernel
set_option maxRecDepth 20000 in
theorem ggX6_tick_X6_within : GoodIn wsX6_tick wsX6_within := goodIn_r _ [6] (by decide +kernel) (by decide +kernel)
set_option maxRecDepth 20000 in
theorem gX6_tick_X6_within : GoodIn wsX6_tick (va_wsS RX6 51 yX6_within wsX6_within) := goodIn_app (goodIn_of _ (by decide +kernel)) ggX6_tick_X6_within
set_option maxRecDepth 20000 in
theorem ggX6_tick_X2_cool : GoodIn wsX6_tick wsX2_cool := goodIn_r _ [11, 12, 19, 20] (by decide +kernel) (by decide +kernel)
set_option maxRecDepth 20000 in
theorem gX6_tick_X2_cool : GoodIn wsX6_tick (wsV RX6 223 RX2 yX2_cool wsX2_cool) := goodIn_app (goodIn_of _ (by decide +kernel)) ggX6_tick_X2_cool
theorem dX6_tick_0 : decode cX6_tick 0 = .ok (.iload_n 1, 1) := by decide +kernel
theorem dX6_tick_1 : decode cX6_tick 1 = .ok (.iconst 1, 1) := by decide +kernel
theorem dX6_tick_2 : decode cX6_tick 2 = .ok (.sipush 1000, 3) := by decide +kernel
theorem dX6_tick_5 : decode cX6_tick 5 = .ok (.invokestatic 51, 3) := by decide +kernel
theorem dX6_tick_8 : decode cX6_tick 8 = .ok (.ifCond .ne 6, 3) := by decide +kernel
theorem dX6_tick_11 : decode cX6_tick 11 = .ok (.bipush (-2), 2) := by decide +kernel
theorem dX6_tick_13 : decode cX6_tick 13 = .ok (.ireturn, 1) := by decide +kernel
theorem dX6_tick_14 : decode cX6_tick 14 = .ok (.iconst 0, 1) := by decide +kernel
theorem dX6_tick_15 : decode cX6_tick 15 = .ok (.istore_n 2, 1) := by decide +kernel
theorem dX6_tick_16 : decode cX6_tick 16 = .ok (.iload_n 2, 1) := by decide +kernel
theorem dX6_tick_17 : decode cX6_tick 17 = .ok (.iload_n 1, 1) := by decide +kernel
theorem dX6_tick_18 : decode cX6_tick 18 = .ok (.if_icmp .ge 16, 3) := by decide +kernel
theorem dX6_tick_21 : decode cX6_tick 21 = .ok (.aload_n 0, 1) := by decide +kernel
theorem dX6_tick_22 : decode cX6_tick 22 = .ok (.getfield 47, 3) := by decide +kernel
theorem dX6_tick_25 : decode cX6_tick 25 = .ok (.invokevirtual 223, 3) := by decide +kernel
theorem dX6_tick_28 : decode cX6_tick 28 = .ok (.iinc 2 1, 3) := by decide +kernel
theorem dX6_tick_31 : decode cX6_tick 31 = .ok (.goto (-15), 3) := by decide +kernel
theorem dX6_tick_34 : decode cX6_tick 34 = .ok (.aload_n 0, 1) := by decide +kernel
theorem dX6_tick_35 : decode cX6_tick 35 = .ok (.getfield 47, 3) := by decide +kernel
theorem dX6_tick_38 : decode cX6_tick 38 = .ok (.getfield 63, 3) := by decide +kernel
theorem dX6_tick_41 : decode cX6_tick 41 = .ok (.ireturn, 1) := by decide +kernel
theorem dX6_count_0 : decode cX6_count 0 = .ok (.iload_n 1, 1) := by decide +kernel
theorem dX6_count_1 : decode cX6_count 1 = .ok (.tableswitch 99 0 6 #[43, 51, 59, 67, 75, 83, 91], 43) := by decide +kernel
theorem dX6_count_44 : decode cX6_count 44 = .ok (.aload_n 0, 1) := by decide +kernel
theorem dX6_count_45 : decode cX6_count 45 = .ok (.getfield 10, 3) := by decide +kernel
theorem dX6_count_48 : decode cX6_count 48 = .ok (.getfield 137, 3) := by decide +kernel
theorem dX6_count_51 : decode cX6_count 51 = .ok (.ireturn, 1) := by decide +kernel
theorem dX6_count_52 : decode cX6_count 52 = .ok (.aload_n 0, 1) := by decide +kernel
theorem dX6_count_53 : decode cX6_count 53 = .ok (.getfield 10, 3) := by decide +kernel
theorem dX6_count_56 : decode cX6_count 56 = .ok (.getfield 83, 3) := by decide +kernel
theorem dX6_count_59 : decode cX6_count 59 = .ok (.ireturn, 1) := by decide +kernel
theorem dX6_count_60 : decode cX6_count 60 = .ok (.aload_n 0, 1) := by decide +kernel
theorem dX6_count_61 : decode cX6_count 61 = .ok (.getfield 19, 3) := by decide +kernel
theorem dX6_count_64 : decode cX6_count 64 = .ok (.getfield 98, 3) := by decide +kernel
theorem dX6_count_67 : decode cX6_count 67 = .ok (.ireturn, 1) := by decide +kernel
theorem dX6_count_68 : decode cX6_count 68 = .ok (.aload_n 0, 1) := by decide +kernel
theorem dX6_count_69 : decode cX6_count 69 = .ok (.getfield 26, 3) := by decide +kernel
theorem dX6_count_72 : decode cX6_count 72 = .ok (.getfield 67, 3) := by decide +kernel
theorem dX6_count_75 : decode cX6_count 75 = .ok (.ireturn, 1) := by decide +kernel
theorem dX6_count_76 : decode cX6_count 76 = .ok (.aload_n 0, 1) := by decide +kernel
theorem dX6_count_77 : decode cX6_count 77 = .ok (.getfield 33, 3) := by decide +kernel
theorem dX6_count_80 : decode cX6_count 80 = .ok (.getfield 178, 3) := by decide +kernel
theorem dX6_count_83 : decode cX6_count 83 = .ok (.ireturn, 1) := by decide +kernel
theorem dX6_count_84 : decode cX6_count 84 = .ok (.aload_n 0, 1) := by decide +kernel
theorem dX6_count_85 : decode cX6_count 85 = .ok (.getfield 47, 3) := by decide +kernel
theorem dX6_count_88 : decode cX6_count 88 = .ok (.getfield 63, 3) := by decide +kernel
theorem dX6_count_91 : decode cX6_count 91 = .ok (.ireturn, 1) := by decide +kernel
theorem dX6_count_92 : decode cX6_count 92 = .ok (.aload_n 0, 1) := by decide +kernel
theorem dX6_count_93 : decode cX6_count 93 = .ok (.getfield 26, 3) := by decide +kernel
theorem dX6_count_96 : decode cX6_count 96 = .ok (.getfield 226, 3) := by decide +kernel
theorem dX6_count_99 : decode cX6_count 99 = .ok (.ireturn, 1) := by decide +kernel
theorem dX6_count_100 : decode cX6_count 100 = .ok (.bipush (-2), 2) := by decide +kernel
theorem dX6_count_102 : decode cX6_count 102 = .ok (.ireturn, 1) := by decide +kernel
set_option maxRecDepth 20000 in
theorem ggX6_digest_X6_count : GoodIn wsX6_digest wsX6_count := goodIn_r _ [14, 7, 8, 15, 3, 4, 5, 6, 9, 16, 17, 18, 19, 89, 90, 91, 92, 93, 94, 106, 107, 108, 109, 110, 111, 112, 113, 114, 115, 116, 95, 96, 97, 98, 99, 100, 101, 102, 103, 104, 105, 117, 118, 119, 120, 121, 122, 123] (by decide +kernel) (by decide +kernel)
set_option maxRecDepth 20000 in
theorem gX6_digest_X6_count : GoodIn wsX6_digest (wsV RX6 233 RX6 yX6_count wsX6_count) := goodIn_app (goodIn_of _ (by decide +kernel)) ggX6_digest_X6_count
set_option maxRecDepth 20000 in
theorem ggX6_digest_X6_pointAt : GoodIn wsX6_digest wsX6_pointAt := goodIn_r _ [23, 3, 24, 25, 26, 27, 28, 29, 30, 31, 32, 89, 90, 91, 92, 93, 94, 95, 96, 97, 98, 99, 100] (by decide +kernel) (by decide +kernel)
set_option maxRecDepth 20000 in
theorem gX6_digest_X6_pointAt : GoodIn wsX6_digest (wsV RX6 236 RX6 yX6_pointAt wsX6_pointAt) := goodIn_app (goodIn_of _ (by decide +kernel)) ggX6_digest_X6_pointAt
set_option maxRecDepth 20000 in
theorem ggX6_digest_X1_senderOf : GoodIn wsX6_digest wsX1_senderOf := goodIn_r _ [37, 38, 39, 40, 41, 36, 42, 43, 44, 45, 46, 47, 101, 102, 103, 104, 105] (by decide +kernel) (by decide +kernel)
set_option maxRecDepth 20000 in
theorem gX6_digest_X1_senderOf : GoodIn wsX6_digest (wsV RX6 131 RX1 yX1_senderOf wsX1_senderOf) := goodIn_app (goodIn_of _ (by decide +kernel)) ggX6_digest_X1_senderOf
set_option maxRecDepth 20000 in
theorem ggX6_digest_X1_rowSum : GoodIn wsX6_digest wsX1_rowSum := goodIn_r _ [51, 52, 53, 54, 55, 36, 56, 39, 40, 41, 42, 43, 44, 45, 46, 47, 101, 102, 103, 104, 105] (by decide +kernel) (by decide +kernel)
set_option maxRecDepth 20000 in
theorem gX6_digest_X1_rowSum : GoodIn wsX6_digest (wsV RX6 239 RX1 yX1_rowSum wsX1_rowSum) := goodIn_app (goodIn_of _ (by decide +kernel)) ggX6_digest_X1_rowSum
set_option maxRecDepth 20000 in
theorem ggX6_digest_X4_digestOn : GoodIn wsX6_digest wsX4_digestOn := goodIn_r _ [61, 62, 63, 64, 65, 66, 60, 67, 68, 69, 45, 46, 47, 70, 71, 72, 73, 74, 75, 76, 77, 78, 79, 80, 81, 82, 83, 84, 85, 86, 87, 88, 117, 118, 119, 120, 121] (by decide +kernel) (by decide +kernel)
set_option maxRecDepth 20000 in
theorem gX6_digest_X4_digestOn : GoodIn wsX6_digest (wsV RX6 243 RX4 yX4_digestOn wsX4_digestOn) := goodIn_app (goodIn_of _ (by decide +kernel)) ggX6_digest_X4_digestOn
theorem dX6_digest_0 : decode cX6_digest 0 = .ok (.ldc2_w 229, 3) := by decide +kernel
theorem dX6_digest_3 : decode cX6_digest 3 = .ok (.lstore_n 1, 1) := by decide +kernel
theorem dX6_digest_4 : decode cX6_digest 4 = .ok (.iconst 0, 1) := by decide +kernel
theorem dX6_digest_5 : decode cX6_digest 5 = .ok (.istore_n 3, 1) := by decide +kernel
theorem dX6_digest_6 : decode cX6_digest 6 = .ok (.iload_n 3, 1) := by decide +kernel
theorem dX6_digest_7 : decode cX6_digest 7 = .ok (.bipush 6, 2) := by decide +kernel
theorem dX6_digest_9 : decode cX6_digest 9 = .ok (.if_icmp .gt 22, 3) := by decide +kernel
theorem dX6_digest_12 : decode cX6_digest 12 = .ok (.ldc2_w 231, 3) := by decide +kernel
theorem dX6_digest_15 : decode cX6_digest 15 = .ok (.lload_n 1, 1) := by decide +kernel
theorem dX6_digest_16 : decode cX6_digest 16 = .ok (.lmul, 1) := by decide +kernel
theorem dX6_digest_17 : decode cX6_digest 17 = .ok (.aload_n 0, 1) := by decide +kernel
theorem dX6_digest_18 : decode cX6_digest 18 = .ok (.iload_n 3, 1) := by decide +kernel
theorem dX6_digest_19 : decode cX6_digest 19 = .ok (.invokevirtual 233, 3) := by decide +kernel
theorem dX6_digest_22 : decode cX6_digest 22 = .ok (.i2l, 1) := by decide +kernel
theorem dX6_digest_23 : decode cX6_digest 23 = .ok (.ladd, 1) := by decide +kernel
theorem dX6_digest_24 : decode cX6_digest 24 = .ok (.lstore_n 1, 1) := by decide +kernel
theorem dX6_digest_25 : decode cX6_digest 25 = .ok (.iinc 3 1, 3) := by decide +kernel
theorem dX6_digest_28 : decode cX6_digest 28 = .ok (.goto (-22), 3) := by decide +kernel
theorem dX6_digest_31 : decode cX6_digest 31 = .ok (.iconst 0, 1) := by decide +kernel
theorem dX6_digest_32 : decode cX6_digest 32 = .ok (.istore_n 3, 1) := by decide +kernel
theorem dX6_digest_33 : decode cX6_digest 33 = .ok (.iload_n 3, 1) := by decide +kernel
theorem dX6_digest_34 : decode cX6_digest 34 = .ok (.aload_n 0, 1) := by decide +kernel
theorem dX6_digest_35 : decode cX6_digest 35 = .ok (.getfield 19, 3) := by decide +kernel
theorem dX6_digest_38 : decode cX6_digest 38 = .ok (.getfield 98, 3) := by decide +kernel
theorem dX6_digest_41 : decode cX6_digest 41 = .ok (.if_icmp .ge 37, 3) := by decide +kernel
theorem dX6_digest_44 : decode cX6_digest 44 = .ok (.ldc2_w 231, 3) := by decide +kernel
theorem dX6_digest_47 : decode cX6_digest 47 = .ok (.lload_n 1, 1) := by decide +kernel
theorem dX6_digest_48 : decode cX6_digest 48 = .ok (.lmul, 1) := by decide +kernel
theorem dX6_digest_49 : decode cX6_digest 49 = .ok (.aload_n 0, 1) := by decide +kernel
theorem dX6_digest_50 : decode cX6_digest 50 = .ok (.iload_n 3, 1) := by decide +kernel
theorem dX6_digest_51 : decode cX6_digest 51 = .ok (.iconst 0, 1) := by decide +kernel
theorem dX6_digest_52 : decode cX6_digest 52 = .ok (.invokevirtual 236, 3) := by decide +kernel
theorem dX6_digest_55 : decode cX6_digest 55 = .ok (.i2l, 1) := by decide +kernel
theorem dX6_digest_56 : decode cX6_digest 56 = .ok (.ladd, 1) := by decide +kernel
theorem dX6_digest_57 : decode cX6_digest 57 = .ok (.lstore_n 1, 1) := by decide +kernel
theorem dX6_digest_58 : decode cX6_digest 58 = .ok (.ldc2_w 231, 3) := by decide +kernel
theorem dX6_digest_61 : decode cX6_digest 61 = .ok (.lload_n 1, 1) := by decide +kernel
theorem dX6_digest_62 : decode cX6_digest 62 = .ok (.lmul, 1) := by decide +kernel
theorem dX6_digest_63 : decode cX6_digest 63 = .ok (.aload_n 0, 1) := by decide +kernel
theorem dX6_digest_64 : decode cX6_digest 64 = .ok (.iload_n 3, 1) := by decide +kernel
theorem dX6_digest_65 : decode cX6_digest 65 = .ok (.iconst 1, 1) := by decide +kernel
theorem dX6_digest_66 : decode cX6_digest 66 = .ok (.invokevirtual 236, 3) := by decide +kernel
theorem dX6_digest_69 : decode cX6_digest 69 = .ok (.i2l, 1) := by decide +kernel
theorem dX6_digest_70 : decode cX6_digest 70 = .ok (.ladd, 1) := by decide +kernel
theorem dX6_digest_71 : decode cX6_digest 71 = .ok (.lstore_n 1, 1) := by decide +kernel
theorem dX6_digest_72 : decode cX6_digest 72 = .ok (.iinc 3 1, 3) := by decide +kernel
theorem dX6_digest_75 : decode cX6_digest 75 = .ok (.goto (-42), 3) := by decide +kernel
theorem dX6_digest_78 : decode cX6_digest 78 = .ok (.iconst 0, 1) := by decide +kernel
theorem dX6_digest_79 : decode cX6_digest 79 = .ok (.istore_n 3, 1) := by decide +kernel
theorem dX6_digest_80 : decode cX6_digest 80 = .ok (.iload_n 3, 1) := by decide +kernel
theorem dX6_digest_81 : decode cX6_digest 81 = .ok (.aload_n 0, 1) := by decide +kernel
theorem dX6_digest_82 : decode cX6_digest 82 = .ok (.getfield 26, 3) := by decide +kernel
theorem dX6_digest_85 : decode cX6_digest 85 = .ok (.getfield 67, 3) := by decide +kernel
theorem dX6_digest_88 : decode cX6_digest 88 = .ok (.if_icmp .ge 63, 3) := by decide +kernel
theorem dX6_digest_91 : decode cX6_digest 91 = .ok (.ldc2_w 231, 3) := by decide +kernel
theorem dX6_digest_94 : decode cX6_digest 94 = .ok (.lload_n 1, 1) := by decide +kernel
theorem dX6_digest_95 : decode cX6_digest 95 = .ok (.lmul, 1) := by decide +kernel
theorem dX6_digest_96 : decode cX6_digest 96 = .ok (.aload_n 0, 1) := by decide +kernel
theorem dX6_digest_97 : decode cX6_digest 97 = .ok (.getfield 26, 3) := by decide +kernel
theorem dX6_digest_100 : decode cX6_digest 100 = .ok (.iload_n 3, 1) := by decide +kernel
theorem dX6_digest_101 : decode cX6_digest 101 = .ok (.invokevirtual 131, 3) := by decide +kernel
theorem dX6_digest_104 : decode cX6_digest 104 = .ok (.i2l, 1) := by decide +kernel
theorem dX6_digest_105 : decode cX6_digest 105 = .ok (.ladd, 1) := by decide +kernel
theorem dX6_digest_106 : decode cX6_digest 106 = .ok (.lstore_n 1, 1) := by decide +kernel
theorem dX6_digest_107 : decode cX6_digest 107 = .ok (.iconst 0, 1) := by decide +kernel
theorem dX6_digest_108 : decode cX6_digest 108 = .ok (.istore 4, 2) := by decide +kernel
theorem dX6_digest_110 : decode cX6_digest 110 = .ok (.iload 4, 2) := by decide +kernel
theorem dX6_digest_112 : decode cX6_digest 112 = .ok (.aload_n 0, 1) := by decide +kernel
theorem dX6_digest_113 : decode cX6_digest 113 = .ok (.getfield 10, 3) := by decide +kernel
theorem dX6_digest_116 : decode cX6_digest 116 = .ok (.getfield 137, 3) := by decide +kernel
theorem dX6_digest_119 : decode cX6_digest 119 = .ok (.if_icmp .ge 26, 3) := by decide +kernel
theorem dX6_digest_122 : decode cX6_digest 122 = .ok (.ldc2_w 231, 3) := by decide +kernel
theorem dX6_digest_125 : decode cX6_digest 125 = .ok (.lload_n 1, 1) := by decide +kernel
theorem dX6_digest_126 : decode cX6_digest 126 = .ok (.lmul, 1) := by decide +kernel
theorem dX6_digest_127 : decode cX6_digest 127 = .ok (.aload_n 0, 1) := by decide +kernel
theorem dX6_digest_128 : decode cX6_digest 128 = .ok (.getfield 26, 3) := by decide +kernel
theorem dX6_digest_131 : decode cX6_digest 131 = .ok (.iload_n 3, 1) := by decide +kernel
theorem dX6_digest_132 : decode cX6_digest 132 = .ok (.iload 4, 2) := by decide +kernel
theorem dX6_digest_134 : decode cX6_digest 134 = .ok (.invokevirtual 239, 3) := by decide +kernel
theorem dX6_digest_137 : decode cX6_digest 137 = .ok (.ladd, 1) := by decide +kernel
theorem dX6_digest_138 : decode cX6_digest 138 = .ok (.lstore_n 1, 1) := by decide +kernel
theorem dX6_digest_139 : decode cX6_digest 139 = .ok (.iinc 4 1, 3) := by decide +kernel
theorem dX6_digest_142 : decode cX6_digest 142 = .ok (.goto (-32), 3) := by decide +kernel
theorem dX6_digest_145 : decode cX6_digest 145 = .ok (.iinc 3 1, 3) := by decide +kernel
theorem dX6_digest_148 : decode cX6_digest 148 = .ok (.goto (-68), 3) := by decide +kernel
theorem dX6_digest_151 : decode cX6_digest 151 = .ok (.aload_n 0, 1) := by decide +kernel
theorem dX6_digest_152 : decode cX6_digest 152 = .ok (.getfield 33, 3) := by decide +kernel
theorem dX6_digest_155 : decode cX6_digest 155 = .ok (.lload_n 1, 1) := by decide +kernel
theorem dX6_digest_156 : decode cX6_digest 156 = .ok (.invokevirtual 243, 3) := by decide +kernel
theorem dX6_digest_159 : decode cX6_digest 159 = .ok (.lreturn, 1) := by decide +kernel
theorem dX6_within_0 : decode cX6_within 0 = .ok (.iload_n 0, 1) := by decide +kernel
theorem dX6_within_1 : decode cX6_within 1 = .ok (.iload_n 1, 1) := by decide +kernel
theorem dX6_within_2 : decode cX6_within 2 = .ok (.if_icmp .lt 12, 3) := by decide +kernel
theorem dX6_within_5 : decode cX6_within 5 = .ok (.iload_n 0, 1) := by decide +kernel
theorem dX6_within_6 : decode cX6_within 6 = .ok (.iload_n 2, 1) := by decide +kernel
theorem dX6_within_7 : decode cX6_within 7 = .ok (.if_icmp .gt 7, 3) := by decide +kernel
theorem dX6_within_10 : decode cX6_within 10 = .ok (.iconst 1, 1) := by decide +kernel
theorem dX6_within_11 : decode cX6_within 11 = .ok (.goto 4, 3) := by decide +kernel
theorem dX6_within_14 : decode cX6_within 14 = .ok (.iconst 0, 1) := by decide +kernel
theorem dX6_within_15 : decode cX6_within 15 = .ok (.ireturn, 1) := by decide +kernel
set_option maxRecDepth 20000 in
theorem ggX6_isPlace_X6_within : GoodIn wsX6_isPlace wsX6_within := goodIn_r _ [4] (by decide +kernel) (by decide +kernel)
set_option maxRecDepth 20000 in
theorem gX6_isPlace_X6_within : GoodIn wsX6_isPlace (va_wsS RX6 51 yX6_within wsX6_within) := goodIn_app (goodIn_of _ (by decide +kernel)) ggX6_isPlace_X6_within
theorem dX6_isPlace_0 : decode cX6_isPlace 0 = .ok (.iload_n 0, 1) := by decide +kernel
theorem dX6_isPlace_1 : decode cX6_isPlace 1 = .ok (.sipush (-2000), 3) := by decide +kernel
theorem dX6_isPlace_4 : decode cX6_isPlace 4 = .ok (.sipush 2000, 3) := by decide +kernel
theorem dX6_isPlace_7 : decode cX6_isPlace 7 = .ok (.invokestatic 51, 3) := by decide +kernel
theorem dX6_isPlace_10 : decode cX6_isPlace 10 = .ok (.ifCond .eq 18, 3) := by decide +kernel
theorem dX6_isPlace_13 : decode cX6_isPlace 13 = .ok (.iload_n 1, 1) := by decide +kernel
theorem dX6_isPlace_14 : decode cX6_isPlace 14 = .ok (.iconst 0, 1) := by decide +kernel
theorem dX6_isPlace_15 : decode cX6_isPlace 15 = .ok (.sipush 4000, 3) := by decide +kernel
theorem dX6_isPlace_18 : decode cX6_isPlace 18 = .ok (.invokestatic 51, 3) := by decide +kernel
theorem dX6_isPlace_21 : decode cX6_isPlace 21 = .ok (.ifCond .eq 7, 3) := by decide +kernel
theorem dX6_isPlace_24 : decode cX6_isPlace 24 = .ok (.iconst 1, 1) := by decide +kernel
theorem dX6_isPlace_25 : decode cX6_isPlace 25 = .ok (.goto 4, 3) := by decide +kernel
theorem dX6_isPlace_28 : decode cX6_isPlace 28 = .ok (.iconst 0, 1) := by decide +kernel
theorem dX6_isPlace_29 : decode cX6_isPlace 29 = .ok (.ireturn, 1) := by decide +kernel
theorem dX6_areLooks_0 : decode cX6_areLooks 0 = .ok (.iload_n 1, 1) := by decide +kernel
theorem dX6_areLooks_1 : decode cX6_areLooks 1 = .ok (.ifCond .le 19, 3) := by decide +kernel
theorem dX6_areLooks_4 : decode cX6_areLooks 4 = .ok (.iload_n 1, 1) := by decide +kernel
theorem dX6_areLooks_5 : decode cX6_areLooks 5 = .ok (.aload_n 0, 1) := by decide +kernel
theorem dX6_areLooks_6 : decode cX6_areLooks 6 = .ok (.getfield 26, 3) := by decide +kernel
theorem dX6_areLooks_9 : decode cX6_areLooks 9 = .ok (.getfield 67, 3) := by decide +kernel
theorem dX6_areLooks_12 : decode cX6_areLooks 12 = .ok (.ishr, 1) := by decide +kernel
theorem dX6_areLooks_13 : decode cX6_areLooks 13 = .ok (.ifCond .ne 7, 3) := by decide +kernel
theorem dX6_areLooks_16 : decode cX6_areLooks 16 = .ok (.iconst 1, 1) := by decide +kernel
theorem dX6_areLooks_17 : decode cX6_areLooks 17 = .ok (.goto 4, 3) := by decide +kernel
theorem dX6_areLooks_20 : decode cX6_areLooks 20 = .ok (.iconst 0, 1) := by decide +kernel
theorem dX6_areLooks_21 : decode cX6_areLooks 21 = .ok (.ireturn, 1) := by decide +kernel
theorem dX6_root_0 : decode cX6_root 0 = .ok (.lload_n 2, 1) := by decide +kernel
theorem dX6_root_1 : decode cX6_root 1 = .ok (.lstore 4, 2) := by decide +kernel
theorem dX6_root_3 : decode cX6_root 3 = .ok (.iconst 0, 1) := by decide +kernel
theorem dX6_root_4 : decode cX6_root 4 = .ok (.istore 6, 2) := by decide +kernel
theorem dX6_root_6 : decode cX6_root 6 = .ok (.iload 6, 2) := by decide +kernel
theorem dX6_root_8 : decode cX6_root 8 = .ok (.bipush 100, 2) := by decide +kernel
theorem dX6_root_10 : decode cX6_root 10 = .ok (.if_icmp .ge 44, 3) := by decide +kernel
theorem dX6_root_13 : decode cX6_root 13 = .ok (.lload 4, 2) := by decide +kernel
theorem dX6_root_15 : decode cX6_root 15 = .ok (.lconst 0, 1) := by decide +kernel
theorem dX6_root_16 : decode cX6_root 16 = .ok (.lcmp, 1) := by decide +kernel
theorem dX6_root_17 : decode cX6_root 17 = .ok (.ifCond .le 37, 3) := by decide +kernel
theorem dX6_root_20 : decode cX6_root 20 = .ok (.lload 4, 2) := by decide +kernel
theorem dX6_root_22 : decode cX6_root 22 = .ok (.lload_n 0, 1) := by decide +kernel
theorem dX6_root_23 : decode cX6_root 23 = .ok (.lload 4, 2) := by decide +kernel
theorem dX6_root_25 : decode cX6_root 25 = .ok (.ldiv, 1) := by decide +kernel
theorem dX6_root_26 : decode cX6_root 26 = .ok (.ladd, 1) := by decide +kernel
theorem dX6_root_27 : decode cX6_root 27 = .ok (.ldc2_w 247, 3) := by decide +kernel
theorem dX6_root_30 : decode cX6_root 30 = .ok (.ldiv, 1) := by decide +kernel
theorem dX6_root_31 : decode cX6_root 31 = .ok (.lstore 7, 2) := by decide +kernel
theorem dX6_root_33 : decode cX6_root 33 = .ok (.lload 7, 2) := by decide +kernel
theorem dX6_root_35 : decode cX6_root 35 = .ok (.lload 4, 2) := by decide +kernel
theorem dX6_root_37 : decode cX6_root 37 = .ok (.lcmp, 1) := by decide +kernel
theorem dX6_root_38 : decode cX6_root 38 = .ok (.ifCond .lt 6, 3) := by decide +kernel
theorem dX6_root_41 : decode cX6_root 41 = .ok (.lload 4, 2) := by decide +kernel
theorem dX6_root_43 : decode cX6_root 43 = .ok (.lreturn, 1) := by decide +kernel
theorem dX6_root_44 : decode cX6_root 44 = .ok (.lload 7, 2) := by decide +kernel
theorem dX6_root_46 : decode cX6_root 46 = .ok (.lstore 4, 2) := by decide +kernel
theorem dX6_root_48 : decode cX6_root 48 = .ok (.iinc 6 1, 3) := by decide +kernel
theorem dX6_root_51 : decode cX6_root 51 = .ok (.goto (-45), 3) := by decide +kernel
theorem dX6_root_54 : decode cX6_root 54 = .ok (.lload 4, 2) := by decide +kernel
theorem dX6_root_56 : decode cX6_root 56 = .ok (.lreturn, 1) := by decide +kernel
theorem dX7_in_0 : decode cX7_in 0 = .ok (.lload_n 0, 1) := by decide +kernel
theorem dX7_in_1 : decode cX7_in 1 = .ok (.lload_n 2, 1) := by decide +kernel
theorem dX7_in_2 : decode cX7_in 2 = .ok (.lcmp, 1) := by decide +kernel
theorem dX7_in_3 : decode cX7_in 3 = .ok (.ifCond .lt 14, 3) := by decide +kernel
theorem dX7_in_6 : decode cX7_in 6 = .ok (.lload_n 0, 1) := by decide +kernel
theorem dX7_in_7 : decode cX7_in 7 = .ok (.lload 4, 2) := by decide +kernel
theorem dX7_in_9 : decode cX7_in 9 = .ok (.lcmp, 1) := by decide +kernel
theorem dX7_in_10 : decode cX7_in 10 = .ok (.ifCond .gt 7, 3) := by decide +kernel
theorem dX7_in_13 : decode cX7_in 13 = .ok (.iconst 1, 1) := by decide +kernel
theorem dX7_in_14 : decode cX7_in 14 = .ok (.goto 4, 3) := by decide +kernel
theorem dX7_in_17 : decode cX7_in 17 = .ok (.iconst 0, 1) := by decide +kernel
theorem dX7_in_18 : decode cX7_in 18 = .ok (.ireturn, 1) := by decide +kernel
set_option maxRecDepth 20000 in
theorem ggX7_isPlace_X7_in : GoodIn wsX7_isPlace wsX7_in := goodIn_r _ [7] (by decide +kernel) (by decide +kernel)
set_option maxRecDepth 20000 in
theorem gX7_isPlace_X7_in : GoodIn wsX7_isPlace (va_wsS RX7 7 yX7_in wsX7_in) := goodIn_app (goodIn_of _ (by decide +kernel)) ggX7_isPlace_X7_in
theorem dX7_isPlace_0 : decode cX7_isPlace 0 = .ok (.iload_n 0, 1) := by decide +kernel
theorem dX7_isPlace_1 : decode cX7_isPlace 1 = .ok (.i2l, 1) := by decide +kernel
theorem dX7_isPlace_2 : decode cX7_isPlace 2 = .ok (.ldc2_w 3, 3) := by decide +kernel
theorem dX7_isPlace_5 : decode cX7_isPlace 5 = .ok (.ldc2_w 5, 3) := by decide +kernel
theorem dX7_isPlace_8 : decode cX7_isPlace 8 = .ok (.invokestatic 7, 3) := by decide +kernel
theorem dX7_isPlace_11 : decode cX7_isPlace 11 = .ok (.ifCond .eq 19, 3) := by decide +kernel
theorem dX7_isPlace_14 : decode cX7_isPlace 14 = .ok (.iload_n 1, 1) := by decide +kernel
theorem dX7_isPlace_15 : decode cX7_isPlace 15 = .ok (.i2l, 1) := by decide +kernel
theorem dX7_isPlace_16 : decode cX7_isPlace 16 = .ok (.lconst 0, 1) := by decide +kernel
theorem dX7_isPlace_17 : decode cX7_isPlace 17 = .ok (.ldc2_w 11, 3) := by decide +kernel
theorem dX7_isPlace_20 : decode cX7_isPlace 20 = .ok (.invokestatic 7, 3) := by decide +kernel
theorem dX7_isPlace_23 : decode cX7_isPlace 23 = .ok (.ifCond .eq 7, 3) := by decide +kernel
theorem dX7_isPlace_26 : decode cX7_isPlace 26 = .ok (.iconst 1, 1) := by decide +kernel
theorem dX7_isPlace_27 : decode cX7_isPlace 27 = .ok (.goto 4, 3) := by decide +kernel
theorem dX7_isPlace_30 : decode cX7_isPlace 30 = .ok (.iconst 0, 1) := by decide +kernel
theorem dX7_isPlace_31 : decode cX7_isPlace 31 = .ok (.ireturn, 1) := by decide +kernel
end
section
theorem dX7_init_0 : decode cX7_init 0 = .ok (.aload_n 0, 1) := by decide +kernel
theorem dX7_init_1 : decode cX7_init 1 = .ok (.invokespecial 13, 3) := by decide +kernel
theorem dX7_init_4 : decode cX7_init 4 = .ok (.aload_n 0, 1) := by decide +kernel
theorem dX7_init_5 : decode cX7_init 5 = .ok (.iconst 2, 1) := by decide +kernel
theorem dX7_init_6 : decode cX7_init 6 = .ok (.putfield 19, 3) := by decide +kernel
theorem dX7_init_9 : decode cX7_init 9 = .ok (.aload_n 0, 1) := by decide +kernel
theorem dX7_init_10 : decode cX7_init 10 = .ok (.bipush 16, 2) := by decide +kernel
theorem dX7_init_12 : decode cX7_init 12 = .ok (.newarray .int, 2) := by decide +kernel
theorem dX7_init_14 : decode cX7_init 14 = .ok (.putfield 23, 3) := by decide +kernel
theorem dX7_init_17 : decode cX7_init 17 = .ok (.aload_n 0, 1) := by decide +kernel
theorem dX7_init_18 : decode cX7_init 18 = .ok (.bipush 16, 2) := by decide +kernel
theorem dX7_init_20 : decode cX7_init 20 = .ok (.newarray .boolean, 2) := by decide +kernel
theorem dX7_init_22 : decode cX7_init 22 = .ok (.putfield 27, 3) := by decide +kernel
theorem dX7_init_25 : decode cX7_init 25 = .ok (.aload_n 0, 1) := by decide +kernel
theorem dX7_init_26 : decode cX7_init 26 = .ok (.iconst 1, 1) := by decide +kernel
theorem dX7_init_27 : decode cX7_init 27 = .ok (.putfield 31, 3) := by decide +kernel
theorem dX7_init_30 : decode cX7_init 30 = .ok (.aload_n 0, 1) := by decide +kernel
theorem dX7_init_31 : decode cX7_init 31 = .ok (.iconst 1, 1) := by decide +kernel
theorem dX7_init_32 : decode cX7_init 32 = .ok (.putfield 34, 3) := by decide +kernel
theorem dX7_init_35 : decode cX7_init 35 = .ok (.aload_n 0, 1) := by decide +kernel
theorem dX7_init_36 : decode cX7_init 36 = .ok (.iconst 2, 1) := by decide +kernel
theorem dX7_init_37 : decode cX7_init 37 = .ok (.putfield 37, 3) := by decide +kernel
theorem dX7_init_40 : decode cX7_init 40 = .ok (.aload_n 0, 1) := by decide +kernel
theorem dX7_init_41 : decode cX7_init 41 = .ok (.ldc 40, 2) := by decide +kernel
theorem dX7_init_43 : decode cX7_init 43 = .ok (.putfield 41, 3) := by decide +kernel
theorem dX7_init_46 : decode cX7_init 46 = .ok (.aload_n 0, 1) := by decide +kernel
theorem dX7_init_47 : decode cX7_init 47 = .ok (.bipush 8, 2) := by decide +kernel
theorem dX7_init_49 : decode cX7_init 49 = .ok (.newarray .int, 2) := by decide +kernel
theorem dX7_init_51 : decode cX7_init 51 = .ok (.putfield 44, 3) := by decide +kernel
theorem dX7_init_54 : decode cX7_init 54 = .ok (.aload_n 0, 1) := by decide +kernel
theorem dX7_init_55 : decode cX7_init 55 = .ok (.bipush 8, 2) := by decide +kernel
theorem dX7_init_57 : decode cX7_init 57 = .ok (.newarray .int, 2) := by decide +kernel
theorem dX7_init_59 : decode cX7_init 59 = .ok (.putfield 47, 3) := by decide +kernel
theorem dX7_init_62 : decode cX7_init 62 = .ok (.aload_n 0, 1) := by decide +kernel
theorem dX7_init_63 : decode cX7_init 63 = .ok (.bipush 8, 2) := by decide +kernel
theorem dX7_init_65 : decode cX7_init 65 = .ok (.newarray .int, 2) := by decide +kernel
theorem dX7_init_67 : decode cX7_init 67 = .ok (.putfield 50, 3) := by decide +kernel
theorem dX7_init_70 : decode cX7_init 70 = .ok (.aload_n 0, 1) := by decide +kernel
theorem dX7_init_71 : decode cX7_init 71 = .ok (.bipush 8, 2) := by decide +kernel
theorem dX7_init_73 : decode cX7_init 73 = .ok (.newarray .int, 2) := by decide +kernel
theorem dX7_init_75 : decode cX7_init 75 = .ok (.putfield 53, 3) := by decide +kernel
theorem dX7_init_78 : decode cX7_init 78 = .ok (.aload_n 0, 1) := by decide +kernel
theorem dX7_init_79 : decode cX7_init 79 = .ok (.bipush 8, 2) := by decide +kernel
theorem dX7_init_81 : decode cX7_init 81 = .ok (.newarray .int, 2) := by decide +kernel
theorem dX7_init_83 : decode cX7_init 83 = .ok (.putfield 56, 3) := by decide +kernel
theorem dX7_init_86 : decode cX7_init 86 = .ok (.aload_n 0, 1) := by decide +kernel
theorem dX7_init_87 : decode cX7_init 87 = .ok (.bipush 6, 2) := by decide +kernel
theorem dX7_init_89 : decode cX7_init 89 = .ok (.newarray .int, 2) := by decide +kernel
theorem dX7_init_91 : decode cX7_init 91 = .ok (.putfield 59, 3) := by decide +kernel
theorem dX7_init_94 : decode cX7_init 94 = .ok (.aload_n 0, 1) := by decide +kernel
theorem dX7_init_95 : decode cX7_init 95 = .ok (.ldc 62, 2) := by decide +kernel
theorem dX7_init_97 : decode cX7_init 97 = .ok (.newarray .int, 2) := by decide +kernel
theorem dX7_init_99 : decode cX7_init 99 = .ok (.putfield 63, 3) := by decide +kernel
theorem dX7_init_102 : decode cX7_init 102 = .ok (.aload_n 0, 1) := by decide +kernel
theorem dX7_init_103 : decode cX7_init 103 = .ok (.iconst 4, 1) := by decide +kernel
theorem dX7_init_104 : decode cX7_init 104 = .ok (.newarray .int, 2) := by decide +kernel
theorem dX7_init_106 : decode cX7_init 106 = .ok (.putfield 66, 3) := by decide +kernel
theorem dX7_init_109 : decode cX7_init 109 = .ok (.aload_n 0, 1) := by decide +kernel
theorem dX7_init_110 : decode cX7_init 110 = .ok (.iconst 4, 1) := by decide +kernel
theorem dX7_init_111 : decode cX7_init 111 = .ok (.newarray .int, 2) := by decide +kernel
theorem dX7_init_113 : decode cX7_init 113 = .ok (.putfield 69, 3) := by decide +kernel
theorem dX7_init_116 : decode cX7_init 116 = .ok (.aload_n 0, 1) := by decide +kernel
theorem dX7_init_117 : decode cX7_init 117 = .ok (.sipush 1024, 3) := by decide +kernel
theorem dX7_init_120 : decode cX7_init 120 = .ok (.newarray .int, 2) := by decide +kernel
theorem dX7_init_122 : decode cX7_init 122 = .ok (.putfield 72, 3) := by decide +kernel
theorem dX7_init_125 : decode cX7_init 125 = .ok (.aload_n 0, 1) := by decide +kernel
theorem dX7_init_126 : decode cX7_init 126 = .ok (.sipush 256, 3) := by decide +kernel
theorem dX7_init_129 : decode cX7_init 129 = .ok (.newarray .int, 2) := by decide +kernel
theorem dX7_init_131 : decode cX7_init 131 = .ok (.putfield 75, 3) := by decide +kernel
theorem dX7_init_134 : decode cX7_init 134 = .ok (.aload_n 0, 1) := by decide +kernel
theorem dX7_init_135 : decode cX7_init 135 = .ok (.sipush 144, 3) := by decide +kernel
theorem dX7_init_138 : decode cX7_init 138 = .ok (.newarray .int, 2) := by decide +kernel
theorem dX7_init_140 : decode cX7_init 140 = .ok (.putfield 78, 3) := by decide +kernel
theorem dX7_init_143 : decode cX7_init 143 = .ok (.aload_n 0, 1) := by decide +kernel
theorem dX7_init_144 : decode cX7_init 144 = .ok (.getfield 23, 3) := by decide +kernel
theorem dX7_init_147 : decode cX7_init 147 = .ok (.iconst 0, 1) := by decide +kernel
theorem dX7_init_148 : decode cX7_init 148 = .ok (.bipush (-10), 2) := by decide +kernel
theorem dX7_init_150 : decode cX7_init 150 = .ok (.iastore, 1) := by decide +kernel
theorem dX7_init_151 : decode cX7_init 151 = .ok (.aload_n 0, 1) := by decide +kernel
theorem dX7_init_152 : decode cX7_init 152 = .ok (.getfield 23, 3) := by decide +kernel
theorem dX7_init_155 : decode cX7_init 155 = .ok (.iconst 1, 1) := by decide +kernel
theorem dX7_init_156 : decode cX7_init 156 = .ok (.bipush 10, 2) := by decide +kernel
theorem dX7_init_158 : decode cX7_init 158 = .ok (.iastore, 1) := by decide +kernel
theorem dX7_init_159 : decode cX7_init 159 = .ok (.return_, 1) := by decide +kernel
set_option maxRecDepth 20000 in
theorem ggX7_probe_X7_in : GoodIn wsX7_probe wsX7_in := goodIn_r _ [15] (by decide +kernel) (by decide +kernel)
set_option maxRecDepth 20000 in
theorem gX7_probe_X7_in : GoodIn wsX7_probe (va_wsS RX7 7 yX7_in wsX7_in) := goodIn_app (goodIn_of _ (by decide +kernel)) ggX7_probe_X7_in
theorem dX7_probe_0 : decode cX7_probe 0 = .ok (.iload_n 1, 1) := by decide +kernel
theorem dX7_probe_1 : decode cX7_probe 1 = .ok (.i2l, 1) := by decide +kernel
theorem dX7_probe_2 : decode cX7_probe 2 = .ok (.ldc2_w 81, 3) := by decide +kernel
theorem dX7_probe_5 : decode cX7_probe 5 = .ok (.ldc2_w 83, 3) := by decide +kernel
theorem dX7_probe_8 : decode cX7_probe 8 = .ok (.invokestatic 7, 3) := by decide +kernel
theorem dX7_probe_11 : decode cX7_probe 11 = .ok (.ifCond .eq 49, 3) := by decide +kernel
theorem dX7_probe_14 : decode cX7_probe 14 = .ok (.iload_n 3, 1) := by decide +kernel
theorem dX7_probe_15 : decode cX7_probe 15 = .ok (.i2l, 1) := by decide +kernel
theorem dX7_probe_16 : decode cX7_probe 16 = .ok (.lconst 1, 1) := by decide +kernel
theorem dX7_probe_17 : decode cX7_probe 17 = .ok (.ldc2_w 85, 3) := by decide +kernel
theorem dX7_probe_20 : decode cX7_probe 20 = .ok (.invokestatic 7, 3) := by decide +kernel
theorem dX7_probe_23 : decode cX7_probe 23 = .ok (.ifCond .eq 37, 3) := by decide +kernel
theorem dX7_probe_26 : decode cX7_probe 26 = .ok (.iload_n 2, 1) := by decide +kernel
theorem dX7_probe_27 : decode cX7_probe 27 = .ok (.i2l, 1) := by decide +kernel
theorem dX7_probe_28 : decode cX7_probe 28 = .ok (.ldc2_w 3, 3) := by decide +kernel
theorem dX7_probe_31 : decode cX7_probe 31 = .ok (.ldc2_w 5, 3) := by decide +kernel
theorem dX7_probe_34 : decode cX7_probe 34 = .ok (.invokestatic 7, 3) := by decide +kernel
theorem dX7_probe_37 : decode cX7_probe 37 = .ok (.ifCond .eq 23, 3) := by decide +kernel
theorem dX7_probe_40 : decode cX7_probe 40 = .ok (.iload_n 2, 1) := by decide +kernel
theorem dX7_probe_41 : decode cX7_probe 41 = .ok (.iload_n 1, 1) := by decide +kernel
theorem dX7_probe_42 : decode cX7_probe 42 = .ok (.iconst 1, 1) := by decide +kernel
theorem dX7_probe_43 : decode cX7_probe 43 = .ok (.isub, 1) := by decide +kernel
theorem dX7_probe_44 : decode cX7_probe 44 = .ok (.iload_n 3, 1) := by decide +kernel
theorem dX7_probe_45 : decode cX7_probe 45 = .ok (.imul, 1) := by decide +kernel
theorem dX7_probe_46 : decode cX7_probe 46 = .ok (.iadd, 1) := by decide +kernel
theorem dX7_probe_47 : decode cX7_probe 47 = .ok (.i2l, 1) := by decide +kernel
theorem dX7_probe_48 : decode cX7_probe 48 = .ok (.ldc2_w 3, 3) := by decide +kernel
theorem dX7_probe_51 : decode cX7_probe 51 = .ok (.ldc2_w 5, 3) := by decide +kernel
theorem dX7_probe_54 : decode cX7_probe 54 = .ok (.invokestatic 7, 3) := by decide +kernel
theorem dX7_probe_57 : decode cX7_probe 57 = .ok (.ifCond .ne 6, 3) := by decide +kernel
theorem dX7_probe_60 : decode cX7_probe 60 = .ok (.bipush (-2), 2) := by decide +kernel
theorem dX7_probe_62 : decode cX7_probe 62 = .ok (.ireturn, 1) := by decide +kernel
theorem dX7_probe_63 : decode cX7_probe 63 = .ok (.aload_n 0, 1) := by decide +kernel
theorem dX7_probe_64 : decode cX7_probe 64 = .ok (.iload_n 1, 1) := by decide +kernel
theorem dX7_probe_65 : decode cX7_probe 65 = .ok (.putfield 19, 3) := by decide +kernel
theorem dX7_probe_68 : decode cX7_probe 68 = .ok (.iconst 0, 1) := by decide +kernel
theorem dX7_probe_69 : decode cX7_probe 69 = .ok (.istore 4, 2) := by decide +kernel
theorem dX7_probe_71 : decode cX7_probe 71 = .ok (.iload 4, 2) := by decide +kernel
theorem dX7_probe_73 : decode cX7_probe 73 = .ok (.aload_n 0, 1) := by decide +kernel
theorem dX7_probe_74 : decode cX7_probe 74 = .ok (.getfield 19, 3) := by decide +kernel
theorem dX7_probe_77 : decode cX7_probe 77 = .ok (.if_icmp .ge 30, 3) := by decide +kernel
theorem dX7_probe_80 : decode cX7_probe 80 = .ok (.aload_n 0, 1) := by decide +kernel
theorem dX7_probe_81 : decode cX7_probe 81 = .ok (.getfield 23, 3) := by decide +kernel
theorem dX7_probe_84 : decode cX7_probe 84 = .ok (.iload 4, 2) := by decide +kernel
theorem dX7_probe_86 : decode cX7_probe 86 = .ok (.iload_n 2, 1) := by decide +kernel
theorem dX7_probe_87 : decode cX7_probe 87 = .ok (.iload 4, 2) := by decide +kernel
theorem dX7_probe_89 : decode cX7_probe 89 = .ok (.iload_n 3, 1) := by decide +kernel
theorem dX7_probe_90 : decode cX7_probe 90 = .ok (.imul, 1) := by decide +kernel
theorem dX7_probe_91 : decode cX7_probe 91 = .ok (.iadd, 1) := by decide +kernel
theorem dX7_probe_92 : decode cX7_probe 92 = .ok (.iastore, 1) := by decide +kernel
theorem dX7_probe_93 : decode cX7_probe 93 = .ok (.aload_n 0, 1) := by decide +kernel
theorem dX7_probe_94 : decode cX7_probe 94 = .ok (.getfield 27, 3) := by decide +kernel
theorem dX7_probe_97 : decode cX7_probe 97 = .ok (.iload 4, 2) := by decide +kernel
theorem dX7_probe_99 : decode cX7_probe 99 = .ok (.iconst 0, 1) := by decide +kernel
theorem dX7_probe_100 : decode cX7_probe 100 = .ok (.bastore, 1) := by decide +kernel
theorem dX7_probe_101 : decode cX7_probe 101 = .ok (.iinc 4 1, 3) := by decide +kernel
theorem dX7_probe_104 : decode cX7_probe 104 = .ok (.goto (-33), 3) := by decide +kernel
theorem dX7_probe_107 : decode cX7_probe 107 = .ok (.aload_n 0, 1) := by decide +kernel
theorem dX7_probe_108 : decode cX7_probe 108 = .ok (.iconst 0, 1) := by decide +kernel
theorem dX7_probe_109 : decode cX7_probe 109 = .ok (.putfield 87, 3) := by decide +kernel
theorem dX7_probe_112 : decode cX7_probe 112 = .ok (.aload_n 0, 1) := by decide +kernel
theorem dX7_probe_113 : decode cX7_probe 113 = .ok (.iconst 0, 1) := by decide +kernel
theorem dX7_probe_114 : decode cX7_probe 114 = .ok (.putfield 90, 3) := by decide +kernel
theorem dX7_probe_117 : decode cX7_probe 117 = .ok (.aload_n 0, 1) := by decide +kernel
theorem dX7_probe_118 : decode cX7_probe 118 = .ok (.iconst 0, 1) := by decide +kernel
theorem dX7_probe_119 : decode cX7_probe 119 = .ok (.putfield 93, 3) := by decide +kernel
theorem dX7_probe_122 : decode cX7_probe 122 = .ok (.iconst 1, 1) := by decide +kernel
theorem dX7_probe_123 : decode cX7_probe 123 = .ok (.ireturn, 1) := by decide +kernel
set_option maxRecDepth 20000 in
theorem ggX7_pace_X7_in : GoodIn wsX7_pace wsX7_in := goodIn_r _ [8] (by decide +kernel) (by decide +kernel)
set_option maxRecDepth 20000 in
theorem gX7_pace_X7_in : GoodIn wsX7_pace (va_wsS RX7 7 yX7_in wsX7_in) := goodIn_app (goodIn_of _ (by decide +kernel)) ggX7_pace_X7_in
theorem dX7_pace_0 : decode cX7_pace 0 = .ok (.iload_n 1, 1) := by decide +kernel
theorem dX7_pace_1 : decode cX7_pace 1 = .ok (.i2l, 1) := by decide +kernel
theorem dX7_pace_2 : decode cX7_pace 2 = .ok (.lconst 1, 1) := by decide +kernel
theorem dX7_pace_3 : decode cX7_pace 3 = .ok (.ldc2_w 96, 3) := by decide +kernel
theorem dX7_pace_6 : decode cX7_pace 6 = .ok (.invokestatic 7, 3) := by decide +kernel
theorem dX7_pace_9 : decode cX7_pace 9 = .ok (.ifCond .eq 15, 3) := by decide +kernel
theorem dX7_pace_12 : decode cX7_pace 12 = .ok (.iload_n 2, 1) := by decide +kernel
theorem dX7_pace_13 : decode cX7_pace 13 = .ok (.i2l, 1) := by decide +kernel
theorem dX7_pace_14 : decode cX7_pace 14 = .ok (.lconst 1, 1) := by decide +kernel
theorem dX7_pace_15 : decode cX7_pace 15 = .ok (.ldc2_w 96, 3) := by decide +kernel
theorem dX7_pace_18 : decode cX7_pace 18 = .ok (.invokestatic 7, 3) := by decide +kernel
theorem dX7_pace_21 : decode cX7_pace 21 = .ok (.ifCond .ne 6, 3) := by decide +kernel
theorem dX7_pace_24 : decode cX7_pace 24 = .ok (.bipush (-2), 2) := by decide +kernel
theorem dX7_pace_26 : decode cX7_pace 26 = .ok (.ireturn, 1) := by decide +kernel
theorem dX7_pace_27 : decode cX7_pace 27 = .ok (.aload_n 0, 1) := by decide +kernel
theorem dX7_pace_28 : decode cX7_pace 28 = .ok (.getfield 87, 3) := by decide +kernel
theorem dX7_pace_31 : decode cX7_pace 31 = .ok (.ifCond .le 6, 3) := by decide +kernel
theorem dX7_pace_34 : decode cX7_pace 34 = .ok (.bipush (-3), 2) := by decide +kernel
theorem dX7_pace_36 : decode cX7_pace 36 = .ok (.ireturn, 1) := by decide +kernel
theorem dX7_pace_37 : decode cX7_pace 37 = .ok (.aload_n 0, 1) := by decide +kernel
theorem dX7_pace_38 : decode cX7_pace 38 = .ok (.iload_n 1, 1) := by decide +kernel
theorem dX7_pace_39 : decode cX7_pace 39 = .ok (.putfield 31, 3) := by decide +kernel
theorem dX7_pace_42 : decode cX7_pace 42 = .ok (.aload_n 0, 1) := by decide +kernel
theorem dX7_pace_43 : decode cX7_pace 43 = .ok (.iload_n 2, 1) := by decide +kernel
theorem dX7_pace_44 : decode cX7_pace 44 = .ok (.putfield 34, 3) := by decide +kernel
theorem dX7_pace_47 : decode cX7_pace 47 = .ok (.iconst 1, 1) := by decide +kernel
theorem dX7_pace_48 : decode cX7_pace 48 = .ok (.ireturn, 1) := by decide +kernel
theorem dX7_alive_0 : decode cX7_alive 0 = .ok (.iconst 0, 1) := by decide +kernel
theorem dX7_alive_1 : decode cX7_alive 1 = .ok (.istore_n 1, 1) := by decide +kernel
theorem dX7_alive_2 : decode cX7_alive 2 = .ok (.iconst 0, 1) := by decide +kernel
theorem dX7_alive_3 : decode cX7_alive 3 = .ok (.istore_n 2, 1) := by decide +kernel
theorem dX7_alive_4 : decode cX7_alive 4 = .ok (.iload_n 2, 1) := by decide +kernel
theorem dX7_alive_5 : decode cX7_alive 5 = .ok (.aload_n 0, 1) := by decide +kernel
theorem dX7_alive_6 : decode cX7_alive 6 = .ok (.getfield 19, 3) := by decide +kernel
theorem dX7_alive_9 : decode cX7_alive 9 = .ok (.if_icmp .ge 26, 3) := by decide +kernel
theorem dX7_alive_12 : decode cX7_alive 12 = .ok (.iload_n 1, 1) := by decide +kernel
theorem dX7_alive_13 : decode cX7_alive 13 = .ok (.aload_n 0, 1) := by decide +kernel
theorem dX7_alive_14 : decode cX7_alive 14 = .ok (.getfield 27, 3) := by decide +kernel
theorem dX7_alive_17 : decode cX7_alive 17 = .ok (.iload_n 2, 1) := by decide +kernel
theorem dX7_alive_18 : decode cX7_alive 18 = .ok (.baload, 1) := by decide +kernel
theorem dX7_alive_19 : decode cX7_alive 19 = .ok (.ifCond .eq 7, 3) := by decide +kernel
theorem dX7_alive_22 : decode cX7_alive 22 = .ok (.iconst 0, 1) := by decide +kernel
theorem dX7_alive_23 : decode cX7_alive 23 = .ok (.goto 4, 3) := by decide +kernel
theorem dX7_alive_26 : decode cX7_alive 26 = .ok (.iconst 1, 1) := by decide +kernel
theorem dX7_alive_27 : decode cX7_alive 27 = .ok (.iadd, 1) := by decide +kernel
theorem dX7_alive_28 : decode cX7_alive 28 = .ok (.istore_n 1, 1) := by decide +kernel
theorem dX7_alive_29 : decode cX7_alive 29 = .ok (.iinc 2 1, 3) := by decide +kernel
theorem dX7_alive_32 : decode cX7_alive 32 = .ok (.goto (-28), 3) := by decide +kernel
theorem dX7_alive_35 : decode cX7_alive 35 = .ok (.iload_n 1, 1) := by decide +kernel
theorem dX7_alive_36 : decode cX7_alive 36 = .ok (.ireturn, 1) := by decide +kernel
set_option maxRecDepth 20000 in
theorem ggX7_dead_X7_in : GoodIn wsX7_dead wsX7_in := goodIn_r _ [6] (by decide +kernel) (by decide +kernel)
set_option maxRecDepth 20000 in
theorem gX7_dead_X7_in : GoodIn wsX7_dead (va_wsS RX7 7 yX7_in wsX7_in) := goodIn_app (goodIn_of _ (by decide +kernel)) ggX7_dead_X7_in
set_option maxRecDepth 20000 in
theorem ggX7_dead_X7_alive : GoodIn wsX7_dead wsX7_alive := goodIn_r _ [10, 1, 2, 11, 12, 13, 14, 15, 16, 17, 18, 19, 20, 21, 22, 23, 24, 25, 26, 27, 28, 29, 30, 31, 32, 33, 34, 35, 36, 37, 38] (by decide +kernel) (by decide +kernel)
set_option maxRecDepth 20000 in
theorem gX7_dead_X7_alive : GoodIn wsX7_dead (wsV RX7 98 RX7 yX7_alive wsX7_alive) := goodIn_app (goodIn_of _ (by decide +kernel)) ggX7_dead_X7_alive
theorem dX7_dead_0 : decode cX7_dead 0 = .ok (.iload_n 1, 1) := by decide +kernel
theorem dX7_dead_1 : decode cX7_dead 1 = .ok (.i2l, 1) := by decide +kernel
theorem dX7_dead_2 : decode cX7_dead 2 = .ok (.lconst 0, 1) := by decide +kernel
theorem dX7_dead_3 : decode cX7_dead 3 = .ok (.aload_n 0, 1) := by decide +kernel
theorem dX7_dead_4 : decode cX7_dead 4 = .ok (.getfield 19, 3) := by decide +kernel
theorem dX7_dead_7 : decode cX7_dead 7 = .ok (.iconst 1, 1) := by decide +kernel
theorem dX7_dead_8 : decode cX7_dead 8 = .ok (.isub, 1) := by decide +kernel
theorem dX7_dead_9 : decode cX7_dead 9 = .ok (.i2l, 1) := by decide +kernel
theorem dX7_dead_10 : decode cX7_dead 10 = .ok (.invokestatic 7, 3) := by decide +kernel
theorem dX7_dead_13 : decode cX7_dead 13 = .ok (.ifCond .ne 6, 3) := by decide +kernel
theorem dX7_dead_16 : decode cX7_dead 16 = .ok (.bipush (-2), 2) := by decide +kernel
theorem dX7_dead_18 : decode cX7_dead 18 = .ok (.ireturn, 1) := by decide +kernel
theorem dX7_dead_19 : decode cX7_dead 19 = .ok (.aload_n 0, 1) := by decide +kernel
theorem dX7_dead_20 : decode cX7_dead 20 = .ok (.getfield 27, 3) := by decide +kernel
theorem dX7_dead_23 : decode cX7_dead 23 = .ok (.iload_n 1, 1) := by decide +kernel
theorem dX7_dead_24 : decode cX7_dead 24 = .ok (.baload, 1) := by decide +kernel
theorem dX7_dead_25 : decode cX7_dead 25 = .ok (.iload_n 2, 1) := by decide +kernel
theorem dX7_dead_26 : decode cX7_dead 26 = .ok (.if_icmp .eq 15, 3) := by decide +kernel
theorem dX7_dead_29 : decode cX7_dead 29 = .ok (.iload_n 2, 1) := by decide +kernel
theorem dX7_dead_30 : decode cX7_dead 30 = .ok (.ifCond .eq 14, 3) := by decide +kernel
theorem dX7_dead_33 : decode cX7_dead 33 = .ok (.aload_n 0, 1) := by decide +kernel
theorem dX7_dead_34 : decode cX7_dead 34 = .ok (.invokevirtual 98, 3) := by decide +kernel
theorem dX7_dead_37 : decode cX7_dead 37 = .ok (.iconst 1, 1) := by decide +kernel
theorem dX7_dead_38 : decode cX7_dead 38 = .ok (.if_icmp .ne 6, 3) := by decide +kernel
theorem dX7_dead_41 : decode cX7_dead 41 = .ok (.bipush (-3), 2) := by decide +kernel
theorem dX7_dead_43 : decode cX7_dead 43 = .ok (.ireturn, 1) := by decide +kernel
theorem dX7_dead_44 : decode cX7_dead 44 = .ok (.aload_n 0, 1) := by decide +kernel
theorem dX7_dead_45 : decode cX7_dead 45 = .ok (.getfield 27, 3) := by decide +kernel
theorem dX7_dead_48 : decode cX7_dead 48 = .ok (.iload_n 1, 1) := by decide +kernel
theorem dX7_dead_49 : decode cX7_dead 49 = .ok (.iload_n 2, 1) := by decide +kernel
theorem dX7_dead_50 : decode cX7_dead 50 = .ok (.bastore, 1) := by decide +kernel
theorem dX7_dead_51 : decode cX7_dead 51 = .ok (.iconst 1, 1) := by decide +kernel
theorem dX7_dead_52 : decode cX7_dead 52 = .ok (.ireturn, 1) := by decide +kernel
theorem dX7_rootOf_0 : decode cX7_rootOf 0 = .ok (.lconst 0, 1) := by decide +kernel
theorem dX7_rootOf_1 : decode cX7_rootOf 1 = .ok (.lstore_n 2, 1) := by decide +kernel
theorem dX7_rootOf_2 : decode cX7_rootOf 2 = .ok (.ldc2_w 102, 3) := by decide +kernel
theorem dX7_rootOf_5 : decode cX7_rootOf 5 = .ok (.lstore 4, 2) := by decide +kernel
theorem dX7_rootOf_7 : decode cX7_rootOf 7 = .ok (.lload 4, 2) := by decide +kernel
theorem dX7_rootOf_9 : decode cX7_rootOf 9 = .ok (.lconst 0, 1) := by decide +kernel
theorem dX7_rootOf_10 : decode cX7_rootOf 10 = .ok (.lcmp, 1) := by decide +kernel
theorem dX7_rootOf_11 : decode cX7_rootOf 11 = .ok (.ifCond .le 33, 3) := by decide +kernel
theorem dX7_rootOf_14 : decode cX7_rootOf 14 = .ok (.lload_n 2, 1) := by decide +kernel
theorem dX7_rootOf_15 : decode cX7_rootOf 15 = .ok (.lload 4, 2) := by decide +kernel
theorem dX7_rootOf_17 : decode cX7_rootOf 17 = .ok (.ladd, 1) := by decide +kernel
theorem dX7_rootOf_18 : decode cX7_rootOf 18 = .ok (.lload_n 2, 1) := by decide +kernel
theorem dX7_rootOf_19 : decode cX7_rootOf 19 = .ok (.lload 4, 2) := by decide +kernel
theorem dX7_rootOf_21 : decode cX7_rootOf 21 = .ok (.ladd, 1) := by decide +kernel
theorem dX7_rootOf_22 : decode cX7_rootOf 22 = .ok (.lmul, 1) := by decide +kernel
theorem dX7_rootOf_23 : decode cX7_rootOf 23 = .ok (.lload_n 0, 1) := by decide +kernel
theorem dX7_rootOf_24 : decode cX7_rootOf 24 = .ok (.lcmp, 1) := by decide +kernel
theorem dX7_rootOf_25 : decode cX7_rootOf 25 = .ok (.ifCond .gt 8, 3) := by decide +kernel
theorem dX7_rootOf_28 : decode cX7_rootOf 28 = .ok (.lload_n 2, 1) := by decide +kernel
theorem dX7_rootOf_29 : decode cX7_rootOf 29 = .ok (.lload 4, 2) := by decide +kernel
theorem dX7_rootOf_31 : decode cX7_rootOf 31 = .ok (.ladd, 1) := by decide +kernel
theorem dX7_rootOf_32 : decode cX7_rootOf 32 = .ok (.lstore_n 2, 1) := by decide +kernel
theorem dX7_rootOf_33 : decode cX7_rootOf 33 = .ok (.lload 4, 2) := by decide +kernel
theorem dX7_rootOf_35 : decode cX7_rootOf 35 = .ok (.ldc2_w 81, 3) := by decide +kernel
theorem dX7_rootOf_38 : decode cX7_rootOf 38 = .ok (.ldiv, 1) := by decide +kernel
theorem dX7_rootOf_39 : decode cX7_rootOf 39 = .ok (.lstore 4, 2) := by decide +kernel
theorem dX7_rootOf_41 : decode cX7_rootOf 41 = .ok (.goto (-34), 3) := by decide +kernel
theorem dX7_rootOf_44 : decode cX7_rootOf 44 = .ok (.lload_n 2, 1) := by decide +kernel
theorem dX7_rootOf_45 : decode cX7_rootOf 45 = .ok (.lreturn, 1) := by decide +kernel
set_option maxRecDepth 20000 in
theorem ggX7_delayOf_X7_rootOf : GoodIn wsX7_delayOf wsX7_rootOf := goodIn_r _ [9, 10, 5] (by decide +kernel) (by decide +kernel)
set_option maxRecDepth 20000 in
theorem gX7_delayOf_X7_rootOf : GoodIn wsX7_delayOf (va_wsS RX7 106 yX7_rootOf wsX7_rootOf) := goodIn_app (goodIn_of _ (by decide +kernel)) ggX7_delayOf_X7_rootOf
theorem dX7_delayOf_0 : decode cX7_delayOf 0 = .ok (.iload_n 2, 1) := by decide +kernel
theorem dX7_delayOf_1 : decode cX7_delayOf 1 = .ok (.aload_n 0, 1) := by decide +kernel
theorem dX7_delayOf_2 : decode cX7_delayOf 2 = .ok (.getfield 23, 3) := by decide +kernel
theorem dX7_delayOf_5 : decode cX7_delayOf 5 = .ok (.iload_n 1, 1) := by decide +kernel
theorem dX7_delayOf_6 : decode cX7_delayOf 6 = .ok (.iaload, 1) := by decide +kernel
theorem dX7_delayOf_7 : decode cX7_delayOf 7 = .ok (.isub, 1) := by decide +kernel
theorem dX7_delayOf_8 : decode cX7_delayOf 8 = .ok (.i2l, 1) := by decide +kernel
theorem dX7_delayOf_9 : decode cX7_delayOf 9 = .ok (.lstore 4, 2) := by decide +kernel
theorem dX7_delayOf_11 : decode cX7_delayOf 11 = .ok (.lload 4, 2) := by decide +kernel
theorem dX7_delayOf_13 : decode cX7_delayOf 13 = .ok (.lload 4, 2) := by decide +kernel
theorem dX7_delayOf_15 : decode cX7_delayOf 15 = .ok (.lmul, 1) := by decide +kernel
theorem dX7_delayOf_16 : decode cX7_delayOf 16 = .ok (.iload_n 3, 1) := by decide +kernel
theorem dX7_delayOf_17 : decode cX7_delayOf 17 = .ok (.i2l, 1) := by decide +kernel
theorem dX7_delayOf_18 : decode cX7_delayOf 18 = .ok (.iload_n 3, 1) := by decide +kernel
theorem dX7_delayOf_19 : decode cX7_delayOf 19 = .ok (.i2l, 1) := by decide +kernel
theorem dX7_delayOf_20 : decode cX7_delayOf 20 = .ok (.lmul, 1) := by decide +kernel
theorem dX7_delayOf_21 : decode cX7_delayOf 21 = .ok (.ladd, 1) := by decide +kernel
theorem dX7_delayOf_22 : decode cX7_delayOf 22 = .ok (.lstore 6, 2) := by decide +kernel
theorem dX7_delayOf_24 : decode cX7_delayOf 24 = .ok (.ldc2_w 104, 3) := by decide +kernel
theorem dX7_delayOf_27 : decode cX7_delayOf 27 = .ok (.aload_n 0, 1) := by decide +kernel
theorem dX7_delayOf_28 : decode cX7_delayOf 28 = .ok (.getfield 34, 3) := by decide +kernel
theorem dX7_delayOf_31 : decode cX7_delayOf 31 = .ok (.i2l, 1) := by decide +kernel
theorem dX7_delayOf_32 : decode cX7_delayOf 32 = .ok (.lmul, 1) := by decide +kernel
theorem dX7_delayOf_33 : decode cX7_delayOf 33 = .ok (.aload_n 0, 1) := by decide +kernel
theorem dX7_delayOf_34 : decode cX7_delayOf 34 = .ok (.getfield 34, 3) := by decide +kernel
theorem dX7_delayOf_37 : decode cX7_delayOf 37 = .ok (.i2l, 1) := by decide +kernel
theorem dX7_delayOf_38 : decode cX7_delayOf 38 = .ok (.lmul, 1) := by decide +kernel
theorem dX7_delayOf_39 : decode cX7_delayOf 39 = .ok (.lload 6, 2) := by decide +kernel
theorem dX7_delayOf_41 : decode cX7_delayOf 41 = .ok (.lmul, 1) := by decide +kernel
theorem dX7_delayOf_42 : decode cX7_delayOf 42 = .ok (.invokestatic 106, 3) := by decide +kernel
theorem dX7_delayOf_45 : decode cX7_delayOf 45 = .ok (.lstore 8, 2) := by decide +kernel
theorem dX7_delayOf_47 : decode cX7_delayOf 47 = .ok (.lload 8, 2) := by decide +kernel
theorem dX7_delayOf_49 : decode cX7_delayOf 49 = .ok (.aload_n 0, 1) := by decide +kernel
theorem dX7_delayOf_50 : decode cX7_delayOf 50 = .ok (.getfield 31, 3) := by decide +kernel
theorem dX7_delayOf_53 : decode cX7_delayOf 53 = .ok (.i2l, 1) := by decide +kernel
theorem dX7_delayOf_54 : decode cX7_delayOf 54 = .ok (.ldiv, 1) := by decide +kernel
theorem dX7_delayOf_55 : decode cX7_delayOf 55 = .ok (.lconst 1, 1) := by decide +kernel
theorem dX7_delayOf_56 : decode cX7_delayOf 56 = .ok (.ladd, 1) := by decide +kernel
theorem dX7_delayOf_57 : decode cX7_delayOf 57 = .ok (.ldc2_w 81, 3) := by decide +kernel
theorem dX7_delayOf_60 : decode cX7_delayOf 60 = .ok (.ldiv, 1) := by decide +kernel
theorem dX7_delayOf_61 : decode cX7_delayOf 61 = .ok (.l2i, 1) := by decide +kernel
theorem dX7_delayOf_62 : decode cX7_delayOf 62 = .ok (.ireturn, 1) := by decide +kernel
set_option maxRecDepth 20000 in
theorem ggX7_delay_X7_in : GoodIn wsX7_delay wsX7_in := goodIn_r _ [5] (by decide +kernel) (by decide +kernel)
set_option maxRecDepth 20000 in
theorem gX7_delay_X7_in : GoodIn wsX7_delay (va_wsS RX7 7 yX7_in wsX7_in) := goodIn_app (goodIn_of _ (by decide +kernel)) ggX7_delay_X7_in
set_option maxRecDepth 20000 in
theorem ggX7_delay_X7_isPlace : GoodIn wsX7_delay wsX7_isPlace := goodIn_r _ [8, 9, 10, 11, 2, 3, 4, 5] (by decide +kernel) (by decide +kernel)
set_option maxRecDepth 20000 in
theorem gX7_delay_X7_isPlace : GoodIn wsX7_delay (va_wsS RX7 110 yX7_isPlace wsX7_isPlace) := goodIn_app (goodIn_of _ (by decide +kernel)) ggX7_delay_X7_isPlace
set_option maxRecDepth 20000 in
theorem ggX7_delay_X7_delayOf : GoodIn wsX7_delay wsX7_delayOf := goodIn_r _ [15, 16, 17, 18, 19, 20, 21, 22, 4, 23, 24, 25, 26, 27, 28, 29, 30, 31, 32, 33, 34, 35, 36, 37, 38, 39, 40, 41, 42, 43, 44, 45, 46, 47, 48, 49, 50, 51, 52] (by decide +kernel) (by decide +kernel)
set_option maxRecDepth 20000 in
theorem gX7_delay_X7_delayOf : GoodIn wsX7_delay (wsV RX7 114 RX7 yX7_delayOf wsX7_delayOf) := goodIn_app (goodIn_of _ (by decide +kernel)) ggX7_delay_X7_delayOf
theorem dX7_delay_0 : decode cX7_delay 0 = .ok (.iload_n 1, 1) := by decide +kernel
theorem dX7_delay_1 : decode cX7_delay 1 = .ok (.i2l, 1) := by decide +kernel
theorem dX7_delay_2 : decode cX7_delay 2 = .ok (.lconst 0, 1) := by decide +kernel
theorem dX7_delay_3 : decode cX7_delay 3 = .ok (.aload_n 0, 1) := by decide +kernel
theorem dX7_delay_4 : decode cX7_delay 4 = .ok (.getfield 19, 3) := by decide +kernel
theorem dX7_delay_7 : decode cX7_delay 7 = .ok (.iconst 1, 1) := by decide +kernel
theorem dX7_delay_8 : decode cX7_delay 8 = .ok (.isub, 1) := by decide +kernel
theorem dX7_delay_9 : decode cX7_delay 9 = .ok (.i2l, 1) := by decide +kernel
theorem dX7_delay_10 : decode cX7_delay 10 = .ok (.invokestatic 7, 3) := by decide +kernel
theorem dX7_delay_13 : decode cX7_delay 13 = .ok (.ifCond .eq 21, 3) := by decide +kernel
theorem dX7_delay_16 : decode cX7_delay 16 = .ok (.iload_n 2, 1) := by decide +kernel
theorem dX7_delay_17 : decode cX7_delay 17 = .ok (.iload_n 3, 1) := by decide +kernel
theorem dX7_delay_18 : decode cX7_delay 18 = .ok (.invokestatic 110, 3) := by decide +kernel
theorem dX7_delay_21 : decode cX7_delay 21 = .ok (.ifCond .eq 13, 3) := by decide +kernel
theorem dX7_delay_24 : decode cX7_delay 24 = .ok (.aload_n 0, 1) := by decide +kernel
theorem dX7_delay_25 : decode cX7_delay 25 = .ok (.iload_n 1, 1) := by decide +kernel
theorem dX7_delay_26 : decode cX7_delay 26 = .ok (.iload_n 2, 1) := by decide +kernel
theorem dX7_delay_27 : decode cX7_delay 27 = .ok (.iload_n 3, 1) := by decide +kernel
theorem dX7_delay_28 : decode cX7_delay 28 = .ok (.invokevirtual 114, 3) := by decide +kernel
theorem dX7_delay_31 : decode cX7_delay 31 = .ok (.goto 5, 3) := by decide +kernel
theorem dX7_delay_34 : decode cX7_delay 34 = .ok (.bipush (-2), 2) := by decide +kernel
theorem dX7_delay_36 : decode cX7_delay 36 = .ok (.ireturn, 1) := by decide +kernel
set_option maxRecDepth 20000 in
theorem ggX7_point_X7_isPlace : GoodIn wsX7_point wsX7_isPlace := goodIn_r _ [14, 15, 16, 17, 18, 19, 13, 20] (by decide +kernel) (by decide +kernel)
set_option maxRecDepth 20000 in
theorem gX7_point_X7_isPlace : GoodIn wsX7_point (va_wsS RX7 110 yX7_isPlace wsX7_isPlace) := goodIn_app (goodIn_of _ (by decide +kernel)) ggX7_point_X7_isPlace
set_option maxRecDepth 20000 in
theorem ggX7_point_X7_in : GoodIn wsX7_point wsX7_in := goodIn_r _ [20] (by decide +kernel) (by decide +kernel)
set_option maxRecDepth 20000 in
theorem gX7_point_X7_in : GoodIn wsX7_point (va_wsS RX7 7 yX7_in wsX7_in) := goodIn_app (goodIn_of _ (by decide +kernel)) ggX7_point_X7_in
theorem dX7_point_0 : decode cX7_point 0 = .ok (.iload_n 1, 1) := by decide +kernel
theorem dX7_point_1 : decode cX7_point 1 = .ok (.iload_n 2, 1) := by decide +kernel
theorem dX7_point_2 : decode cX7_point 2 = .ok (.invokestatic 110, 3) := by decide +kernel
theorem dX7_point_5 : decode cX7_point 5 = .ok (.ifCond .eq 47, 3) := by decide +kernel
theorem dX7_point_8 : decode cX7_point 8 = .ok (.iload_n 3, 1) := by decide +kernel
theorem dX7_point_9 : decode cX7_point 9 = .ok (.i2l, 1) := by decide +kernel
theorem dX7_point_10 : decode cX7_point 10 = .ok (.ldc2_w 118, 3) := by decide +kernel
theorem dX7_point_13 : decode cX7_point 13 = .ok (.ldc2_w 120, 3) := by decide +kernel
theorem dX7_point_16 : decode cX7_point 16 = .ok (.invokestatic 7, 3) := by decide +kernel
theorem dX7_point_19 : decode cX7_point 19 = .ok (.ifCond .eq 33, 3) := by decide +kernel
theorem dX7_point_22 : decode cX7_point 22 = .ok (.iload 4, 2) := by decide +kernel
theorem dX7_point_24 : decode cX7_point 24 = .ok (.i2l, 1) := by decide +kernel
theorem dX7_point_25 : decode cX7_point 25 = .ok (.ldc2_w 122, 3) := by decide +kernel
theorem dX7_point_28 : decode cX7_point 28 = .ok (.ldc2_w 85, 3) := by decide +kernel
theorem dX7_point_31 : decode cX7_point 31 = .ok (.invokestatic 7, 3) := by decide +kernel
theorem dX7_point_34 : decode cX7_point 34 = .ok (.ifCond .eq 18, 3) := by decide +kernel
theorem dX7_point_37 : decode cX7_point 37 = .ok (.iload 5, 2) := by decide +kernel
theorem dX7_point_39 : decode cX7_point 39 = .ok (.i2l, 1) := by decide +kernel
theorem dX7_point_40 : decode cX7_point 40 = .ok (.ldc2_w 122, 3) := by decide +kernel
theorem dX7_point_43 : decode cX7_point 43 = .ok (.ldc2_w 85, 3) := by decide +kernel
theorem dX7_point_46 : decode cX7_point 46 = .ok (.invokestatic 7, 3) := by decide +kernel
theorem dX7_point_49 : decode cX7_point 49 = .ok (.ifCond .ne 6, 3) := by decide +kernel
theorem dX7_point_52 : decode cX7_point 52 = .ok (.bipush (-2), 2) := by decide +kernel
theorem dX7_point_54 : decode cX7_point 54 = .ok (.ireturn, 1) := by decide +kernel
theorem dX7_point_55 : decode cX7_point 55 = .ok (.aload_n 0, 1) := by decide +kernel
theorem dX7_point_56 : decode cX7_point 56 = .ok (.getfield 124, 3) := by decide +kernel
theorem dX7_point_59 : decode cX7_point 59 = .ok (.bipush 8, 2) := by decide +kernel
theorem dX7_point_61 : decode cX7_point 61 = .ok (.if_icmp .ne 6, 3) := by decide +kernel
theorem dX7_point_64 : decode cX7_point 64 = .ok (.bipush (-4), 2) := by decide +kernel
theorem dX7_point_66 : decode cX7_point 66 = .ok (.ireturn, 1) := by decide +kernel
theorem dX7_point_67 : decode cX7_point 67 = .ok (.aload_n 0, 1) := by decide +kernel
theorem dX7_point_68 : decode cX7_point 68 = .ok (.getfield 44, 3) := by decide +kernel
theorem dX7_point_71 : decode cX7_point 71 = .ok (.aload_n 0, 1) := by decide +kernel
theorem dX7_point_72 : decode cX7_point 72 = .ok (.getfield 124, 3) := by decide +kernel
theorem dX7_point_75 : decode cX7_point 75 = .ok (.iload_n 1, 1) := by decide +kernel
theorem dX7_point_76 : decode cX7_point 76 = .ok (.iastore, 1) := by decide +kernel
theorem dX7_point_77 : decode cX7_point 77 = .ok (.aload_n 0, 1) := by decide +kernel
theorem dX7_point_78 : decode cX7_point 78 = .ok (.getfield 47, 3) := by decide +kernel
theorem dX7_point_81 : decode cX7_point 81 = .ok (.aload_n 0, 1) := by decide +kernel
theorem dX7_point_82 : decode cX7_point 82 = .ok (.getfield 124, 3) := by decide +kernel
theorem dX7_point_85 : decode cX7_point 85 = .ok (.iload_n 2, 1) := by decide +kernel
theorem dX7_point_86 : decode cX7_point 86 = .ok (.iastore, 1) := by decide +kernel
theorem dX7_point_87 : decode cX7_point 87 = .ok (.aload_n 0, 1) := by decide +kernel
theorem dX7_point_88 : decode cX7_point 88 = .ok (.getfield 50, 3) := by decide +kernel
theorem dX7_point_91 : decode cX7_point 91 = .ok (.aload_n 0, 1) := by decide +kernel
theorem dX7_point_92 : decode cX7_point 92 = .ok (.getfield 124, 3) := by decide +kernel
theorem dX7_point_95 : decode cX7_point 95 = .ok (.iload_n 3, 1) := by decide +kernel
theorem dX7_point_96 : decode cX7_point 96 = .ok (.iastore, 1) := by decide +kernel
theorem dX7_point_97 : decode cX7_point 97 = .ok (.aload_n 0, 1) := by decide +kernel
theorem dX7_point_98 : decode cX7_point 98 = .ok (.getfield 53, 3) := by decide +kernel
theorem dX7_point_101 : decode cX7_point 101 = .ok (.aload_n 0, 1) := by decide +kernel
theorem dX7_point_102 : decode cX7_point 102 = .ok (.getfield 124, 3) := by decide +kernel
theorem dX7_point_105 : decode cX7_point 105 = .ok (.iload 4, 2) := by decide +kernel
theorem dX7_point_107 : decode cX7_point 107 = .ok (.iastore, 1) := by decide +kernel
theorem dX7_point_108 : decode cX7_point 108 = .ok (.aload_n 0, 1) := by decide +kernel
theorem dX7_point_109 : decode cX7_point 109 = .ok (.getfield 56, 3) := by decide +kernel
theorem dX7_point_112 : decode cX7_point 112 = .ok (.aload_n 0, 1) := by decide +kernel
theorem dX7_point_113 : decode cX7_point 113 = .ok (.getfield 124, 3) := by decide +kernel
theorem dX7_point_116 : decode cX7_point 116 = .ok (.iload 5, 2) := by decide +kernel
theorem dX7_point_118 : decode cX7_point 118 = .ok (.iastore, 1) := by decide +kernel
theorem dX7_point_119 : decode cX7_point 119 = .ok (.aload_n 0, 1) := by decide +kernel
theorem dX7_point_120 : decode cX7_point 120 = .ok (.dup, 1) := by decide +kernel
theorem dX7_point_121 : decode cX7_point 121 = .ok (.getfield 124, 3) := by decide +kernel
theorem dX7_point_124 : decode cX7_point 124 = .ok (.iconst 1, 1) := by decide +kernel
theorem dX7_point_125 : decode cX7_point 125 = .ok (.iadd, 1) := by decide +kernel
theorem dX7_point_126 : decode cX7_point 126 = .ok (.putfield 124, 3) := by decide +kernel
theorem dX7_point_129 : decode cX7_point 129 = .ok (.aload_n 0, 1) := by decide +kernel
theorem dX7_point_130 : decode cX7_point 130 = .ok (.getfield 124, 3) := by decide +kernel
theorem dX7_point_133 : decode cX7_point 133 = .ok (.iconst 1, 1) := by decide +kernel
theorem dX7_point_134 : decode cX7_point 134 = .ok (.isub, 1) := by decide +kernel
theorem dX7_point_135 : decode cX7_point 135 = .ok (.ireturn, 1) := by decide +kernel
theorem dX7_clear_0 : decode cX7_clear 0 = .ok (.aload_n 0, 1) := by decide +kernel
theorem dX7_clear_1 : decode cX7_clear 1 = .ok (.getfield 124, 3) := by decide +kernel
theorem dX7_clear_4 : decode cX7_clear 4 = .ok (.istore_n 1, 1) := by decide +kernel
theorem dX7_clear_5 : decode cX7_clear 5 = .ok (.aload_n 0, 1) := by decide +kernel
theorem dX7_clear_6 : decode cX7_clear 6 = .ok (.iconst 0, 1) := by decide +kernel
theorem dX7_clear_7 : decode cX7_clear 7 = .ok (.putfield 124, 3) := by decide +kernel
theorem dX7_clear_10 : decode cX7_clear 10 = .ok (.iload_n 1, 1) := by decide +kernel
theorem dX7_clear_11 : decode cX7_clear 11 = .ok (.ireturn, 1) := by decide +kernel
set_option maxRecDepth 20000 in
theorem ggX7_pointAt_X7_in : GoodIn wsX7_pointAt wsX7_in := goodIn_r _ [9] (by decide +kernel) (by decide +kernel)
set_option maxRecDepth 20000 in
theorem gX7_pointAt_X7_in : GoodIn wsX7_pointAt (va_wsS RX7 7 yX7_in wsX7_in) := goodIn_app (goodIn_of _ (by decide +kernel)) ggX7_pointAt_X7_in
theorem dX7_pointAt_0 : decode cX7_pointAt 0 = .ok (.iload_n 1, 1) := by decide +kernel
theorem dX7_pointAt_1 : decode cX7_pointAt 1 = .ok (.i2l, 1) := by decide +kernel
theorem dX7_pointAt_2 : decode cX7_pointAt 2 = .ok (.lconst 0, 1) := by decide +kernel
theorem dX7_pointAt_3 : decode cX7_pointAt 3 = .ok (.aload_n 0, 1) := by decide +kernel
theorem dX7_pointAt_4 : decode cX7_pointAt 4 = .ok (.getfield 124, 3) := by decide +kernel
theorem dX7_pointAt_7 : decode cX7_pointAt 7 = .ok (.iconst 1, 1) := by decide +kernel
theorem dX7_pointAt_8 : decode cX7_pointAt 8 = .ok (.isub, 1) := by decide +kernel
theorem dX7_pointAt_9 : decode cX7_pointAt 9 = .ok (.i2l, 1) := by decide +kernel
theorem dX7_pointAt_10 : decode cX7_pointAt 10 = .ok (.invokestatic 7, 3) := by decide +kernel
theorem dX7_pointAt_13 : decode cX7_pointAt 13 = .ok (.ifCond .eq 15, 3) := by decide +kernel
theorem dX7_pointAt_16 : decode cX7_pointAt 16 = .ok (.iload_n 2, 1) := by decide +kernel
theorem dX7_pointAt_17 : decode cX7_pointAt 17 = .ok (.i2l, 1) := by decide +kernel
theorem dX7_pointAt_18 : decode cX7_pointAt 18 = .ok (.lconst 0, 1) := by decide +kernel
theorem dX7_pointAt_19 : decode cX7_pointAt 19 = .ok (.ldc2_w 81, 3) := by decide +kernel
theorem dX7_pointAt_22 : decode cX7_pointAt 22 = .ok (.invokestatic 7, 3) := by decide +kernel
theorem dX7_pointAt_25 : decode cX7_pointAt 25 = .ok (.ifCond .ne 7, 3) := by decide +kernel
theorem dX7_pointAt_28 : decode cX7_pointAt 28 = .ok (.sipush (-5000), 3) := by decide +kernel
theorem dX7_pointAt_31 : decode cX7_pointAt 31 = .ok (.ireturn, 1) := by decide +kernel
theorem dX7_pointAt_32 : decode cX7_pointAt 32 = .ok (.iload_n 2, 1) := by decide +kernel
theorem dX7_pointAt_33 : decode cX7_pointAt 33 = .ok (.ifCond .ne 12, 3) := by decide +kernel
theorem dX7_pointAt_36 : decode cX7_pointAt 36 = .ok (.aload_n 0, 1) := by decide +kernel
theorem dX7_pointAt_37 : decode cX7_pointAt 37 = .ok (.getfield 44, 3) := by decide +kernel
theorem dX7_pointAt_40 : decode cX7_pointAt 40 = .ok (.iload_n 1, 1) := by decide +kernel
theorem dX7_pointAt_41 : decode cX7_pointAt 41 = .ok (.iaload, 1) := by decide +kernel
theorem dX7_pointAt_42 : decode cX7_pointAt 42 = .ok (.goto 23, 3) := by decide +kernel
theorem dX7_pointAt_45 : decode cX7_pointAt 45 = .ok (.iload_n 2, 1) := by decide +kernel
theorem dX7_pointAt_46 : decode cX7_pointAt 46 = .ok (.iconst 1, 1) := by decide +kernel
theorem dX7_pointAt_47 : decode cX7_pointAt 47 = .ok (.if_icmp .ne 12, 3) := by decide +kernel
theorem dX7_pointAt_50 : decode cX7_pointAt 50 = .ok (.aload_n 0, 1) := by decide +kernel
theorem dX7_pointAt_51 : decode cX7_pointAt 51 = .ok (.getfield 47, 3) := by decide +kernel
theorem dX7_pointAt_54 : decode cX7_pointAt 54 = .ok (.iload_n 1, 1) := by decide +kernel
theorem dX7_pointAt_55 : decode cX7_pointAt 55 = .ok (.iaload, 1) := by decide +kernel
theorem dX7_pointAt_56 : decode cX7_pointAt 56 = .ok (.goto 9, 3) := by decide +kernel
theorem dX7_pointAt_59 : decode cX7_pointAt 59 = .ok (.aload_n 0, 1) := by decide +kernel
theorem dX7_pointAt_60 : decode cX7_pointAt 60 = .ok (.getfield 50, 3) := by decide +kernel
theorem dX7_pointAt_63 : decode cX7_pointAt 63 = .ok (.iload_n 1, 1) := by decide +kernel
theorem dX7_pointAt_64 : decode cX7_pointAt 64 = .ok (.iaload, 1) := by decide +kernel
theorem dX7_pointAt_65 : decode cX7_pointAt 65 = .ok (.ireturn, 1) := by decide +kernel
set_option maxRecDepth 20000 in
theorem ggX7_add_X7_in : GoodIn wsX7_add wsX7_in := goodIn_r _ [6] (by decide +kernel) (by decide +kernel)
set_option maxRecDepth 20000 in
theorem gX7_add_X7_in : GoodIn wsX7_add (va_wsS RX7 7 yX7_in wsX7_in) := goodIn_app (goodIn_of _ (by decide +kernel)) ggX7_add_X7_in
theorem dX7_add_0 : decode cX7_add 0 = .ok (.iload_n 3, 1) := by decide +kernel
theorem dX7_add_1 : decode cX7_add 1 = .ok (.i2l, 1) := by decide +kernel
theorem dX7_add_2 : decode cX7_add 2 = .ok (.lconst 0, 1) := by decide +kernel
theorem dX7_add_3 : decode cX7_add 3 = .ok (.ldc2_w 127, 3) := by decide +kernel
theorem dX7_add_6 : decode cX7_add 6 = .ok (.invokestatic 7, 3) := by decide +kernel
theorem dX7_add_9 : decode cX7_add 9 = .ok (.ifCond .eq 25, 3) := by decide +kernel
theorem dX7_add_12 : decode cX7_add 12 = .ok (.aload_n 0, 1) := by decide +kernel
theorem dX7_add_13 : decode cX7_add 13 = .ok (.getfield 63, 3) := by decide +kernel
theorem dX7_add_16 : decode cX7_add 16 = .ok (.sipush 400, 3) := by decide +kernel
theorem dX7_add_19 : decode cX7_add 19 = .ok (.bipush 16, 2) := by decide +kernel
theorem dX7_add_21 : decode cX7_add 21 = .ok (.iload_n 1, 1) := by decide +kernel
theorem dX7_add_22 : decode cX7_add 22 = .ok (.imul, 1) := by decide +kernel
theorem dX7_add_23 : decode cX7_add 23 = .ok (.iload_n 2, 1) := by decide +kernel
theorem dX7_add_24 : decode cX7_add 24 = .ok (.iadd, 1) := by decide +kernel
theorem dX7_add_25 : decode cX7_add 25 = .ok (.imul, 1) := by decide +kernel
theorem dX7_add_26 : decode cX7_add 26 = .ok (.iload_n 3, 1) := by decide +kernel
theorem dX7_add_27 : decode cX7_add 27 = .ok (.iadd, 1) := by decide +kernel
theorem dX7_add_28 : decode cX7_add 28 = .ok (.dup2, 1) := by decide +kernel
theorem dX7_add_29 : decode cX7_add 29 = .ok (.iaload, 1) := by decide +kernel
theorem dX7_add_30 : decode cX7_add 30 = .ok (.iload 4, 2) := by decide +kernel
theorem dX7_add_32 : decode cX7_add 32 = .ok (.iadd, 1) := by decide +kernel
theorem dX7_add_33 : decode cX7_add 33 = .ok (.iastore, 1) := by decide +kernel
theorem dX7_add_34 : decode cX7_add 34 = .ok (.return_, 1) := by decide +kernel
theorem dX7_held_0 : decode cX7_held 0 = .ok (.iload_n 0, 1) := by decide +kernel
theorem dX7_held_1 : decode cX7_held 1 = .ok (.iload_n 1, 1) := by decide +kernel
theorem dX7_held_2 : decode cX7_held 2 = .ok (.if_icmp .ge 7, 3) := by decide +kernel
theorem dX7_held_5 : decode cX7_held 5 = .ok (.iload_n 1, 1) := by decide +kernel
theorem dX7_held_6 : decode cX7_held 6 = .ok (.goto 13, 3) := by decide +kernel
theorem dX7_held_9 : decode cX7_held 9 = .ok (.iload_n 0, 1) := by decide +kernel
theorem dX7_held_10 : decode cX7_held 10 = .ok (.iload_n 2, 1) := by decide +kernel
theorem dX7_held_11 : decode cX7_held 11 = .ok (.if_icmp .le 7, 3) := by decide +kernel
theorem dX7_held_14 : decode cX7_held 14 = .ok (.iload_n 2, 1) := by decide +kernel
theorem dX7_held_15 : decode cX7_held 15 = .ok (.goto 4, 3) := by decide +kernel
theorem dX7_held_18 : decode cX7_held 18 = .ok (.iload_n 0, 1) := by decide +kernel
theorem dX7_held_19 : decode cX7_held 19 = .ok (.ireturn, 1) := by decide +kernel
set_option maxRecDepth 20000 in
theorem ggX7_look_X7_in : GoodIn wsX7_look wsX7_in := goodIn_r _ [18] (by decide +kernel) (by decide +kernel)
set_option maxRecDepth 20000 in
theorem gX7_look_X7_in : GoodIn wsX7_look (va_wsS RX7 7 yX7_in wsX7_in) := goodIn_app (goodIn_of _ (by decide +kernel)) ggX7_look_X7_in
set_option maxRecDepth 20000 in
theorem ggX7_look_X7_alive : GoodIn wsX7_look wsX7_alive := goodIn_r _ [22, 1, 2, 44, 45, 46, 47, 48, 49, 50, 51, 52, 53, 54, 55, 56, 57, 58, 59, 60, 61, 62, 63, 64, 65, 66, 67, 68, 69, 70, 71] (by decide +kernel) (by decide +kernel)
set_option maxRecDepth 20000 in
theorem gX7_look_X7_alive : GoodIn wsX7_look (wsV RX7 98 RX7 yX7_alive wsX7_alive) := goodIn_app (goodIn_of _ (by decide +kernel)) ggX7_look_X7_alive
set_option maxRecDepth 20000 in
theorem ggX7_look_X7_delayOf : GoodIn wsX7_look wsX7_delayOf := goodIn_r _ [26, 27, 28, 29, 30, 31, 32, 33, 17, 34, 35, 44, 45, 46, 47, 48, 49, 50, 51, 52, 53, 54, 55, 56, 57, 58, 59, 60, 61, 62, 63, 64, 65, 66, 67, 68, 69, 70, 71] (by decide +kernel) (by decide +kernel)
set_option maxRecDepth 20000 in
theorem gX7_look_X7_delayOf : GoodIn wsX7_look (wsV RX7 114 RX7 yX7_delayOf wsX7_delayOf) := goodIn_app (goodIn_of _ (by decide +kernel)) ggX7_look_X7_delayOf
set_option maxRecDepth 20000 in
theorem ggX7_look_X7_add : GoodIn wsX7_look wsX7_add := goodIn_r _ [39, 40, 6, 15, 16, 17, 18, 44, 45, 46, 47, 48, 49, 50, 51, 52, 53, 54, 55, 56, 57, 58, 59, 60, 61, 62, 63, 64, 65, 66, 67, 68, 69, 70, 71] (by decide +kernel) (by decide +kernel)
set_option maxRecDepth 20000 in
theorem gX7_look_X7_add : GoodIn wsX7_look (wsV RX7 129 RX7 yX7_add wsX7_add) := goodIn_app (goodIn_of _ (by decide +kernel)) ggX7_look_X7_add
set_option maxRecDepth 20000 in
theorem ggX7_look_X7_held : GoodIn wsX7_look wsX7_held := goodIn_r _ [43] (by decide +kernel) (by decide +kernel)
set_option maxRecDepth 20000 in
theorem gX7_look_X7_held : GoodIn wsX7_look (va_wsS RX7 133 yX7_held wsX7_held) := goodIn_app (goodIn_of _ (by decide +kernel)) ggX7_look_X7_held
theorem dX7_look_0 : decode cX7_look 0 = .ok (.iload_n 1, 1) := by decide +kernel
theorem dX7_look_1 : decode cX7_look 1 = .ok (.i2l, 1) := by decide +kernel
theorem dX7_look_2 : decode cX7_look 2 = .ok (.lconst 0, 1) := by decide +kernel
theorem dX7_look_3 : decode cX7_look 3 = .ok (.aload_n 0, 1) := by decide +kernel
theorem dX7_look_4 : decode cX7_look 4 = .ok (.getfield 19, 3) := by decide +kernel
theorem dX7_look_7 : decode cX7_look 7 = .ok (.iconst 1, 1) := by decide +kernel
theorem dX7_look_8 : decode cX7_look 8 = .ok (.isub, 1) := by decide +kernel
theorem dX7_look_9 : decode cX7_look 9 = .ok (.i2l, 1) := by decide +kernel
theorem dX7_look_10 : decode cX7_look 10 = .ok (.invokestatic 7, 3) := by decide +kernel
theorem dX7_look_13 : decode cX7_look 13 = .ok (.ifCond .ne 6, 3) := by decide +kernel
theorem dX7_look_16 : decode cX7_look 16 = .ok (.bipush (-2), 2) := by decide +kernel
theorem dX7_look_18 : decode cX7_look 18 = .ok (.ireturn, 1) := by decide +kernel
theorem dX7_look_19 : decode cX7_look 19 = .ok (.aload_n 0, 1) := by decide +kernel
theorem dX7_look_20 : decode cX7_look 20 = .ok (.getfield 27, 3) := by decide +kernel
theorem dX7_look_23 : decode cX7_look 23 = .ok (.iload_n 1, 1) := by decide +kernel
theorem dX7_look_24 : decode cX7_look 24 = .ok (.baload, 1) := by decide +kernel
theorem dX7_look_25 : decode cX7_look 25 = .ok (.ifCond .eq 6, 3) := by decide +kernel
theorem dX7_look_28 : decode cX7_look 28 = .ok (.bipush (-3), 2) := by decide +kernel
theorem dX7_look_30 : decode cX7_look 30 = .ok (.ireturn, 1) := by decide +kernel
theorem dX7_look_31 : decode cX7_look 31 = .ok (.aload_n 0, 1) := by decide +kernel
theorem dX7_look_32 : decode cX7_look 32 = .ok (.invokevirtual 98, 3) := by decide +kernel
theorem dX7_look_35 : decode cX7_look 35 = .ok (.istore_n 2, 1) := by decide +kernel
theorem dX7_look_36 : decode cX7_look 36 = .ok (.aload_n 0, 1) := by decide +kernel
theorem dX7_look_37 : decode cX7_look 37 = .ok (.getfield 93, 3) := by decide +kernel
theorem dX7_look_40 : decode cX7_look 40 = .ok (.iload_n 2, 1) := by decide +kernel
theorem dX7_look_41 : decode cX7_look 41 = .ok (.iload_n 2, 1) := by decide +kernel
theorem dX7_look_42 : decode cX7_look 42 = .ok (.imul, 1) := by decide +kernel
theorem dX7_look_43 : decode cX7_look 43 = .ok (.iload_n 2, 1) := by decide +kernel
theorem dX7_look_44 : decode cX7_look 44 = .ok (.imul, 1) := by decide +kernel
theorem dX7_look_45 : decode cX7_look 45 = .ok (.iadd, 1) := by decide +kernel
theorem dX7_look_46 : decode cX7_look 46 = .ok (.aload_n 0, 1) := by decide +kernel
theorem dX7_look_47 : decode cX7_look 47 = .ok (.getfield 41, 3) := by decide +kernel
theorem dX7_look_50 : decode cX7_look 50 = .ok (.if_icmp .le 6, 3) := by decide +kernel
theorem dX7_look_53 : decode cX7_look 53 = .ok (.bipush (-5), 2) := by decide +kernel
theorem dX7_look_55 : decode cX7_look 55 = .ok (.ireturn, 1) := by decide +kernel
theorem dX7_look_56 : decode cX7_look 56 = .ok (.sipush 6400, 3) := by decide +kernel
theorem dX7_look_59 : decode cX7_look 59 = .ok (.istore_n 3, 1) := by decide +kernel
theorem dX7_look_60 : decode cX7_look 60 = .ok (.aload_n 0, 1) := by decide +kernel
theorem dX7_look_61 : decode cX7_look 61 = .ok (.getfield 87, 3) := by decide +kernel
theorem dX7_look_64 : decode cX7_look 64 = .ok (.bipush 6, 2) := by decide +kernel
theorem dX7_look_66 : decode cX7_look 66 = .ok (.if_icmp .ne 79, 3) := by decide +kernel
theorem dX7_look_69 : decode cX7_look 69 = .ok (.iload_n 3, 1) := by decide +kernel
theorem dX7_look_70 : decode cX7_look 70 = .ok (.istore 4, 2) := by decide +kernel
theorem dX7_look_72 : decode cX7_look 72 = .ok (.iload 4, 2) := by decide +kernel
theorem dX7_look_74 : decode cX7_look 74 = .ok (.bipush 6, 2) := by decide +kernel
theorem dX7_look_76 : decode cX7_look 76 = .ok (.iload_n 3, 1) := by decide +kernel
theorem dX7_look_77 : decode cX7_look 77 = .ok (.imul, 1) := by decide +kernel
theorem dX7_look_78 : decode cX7_look 78 = .ok (.if_icmp .ge 25, 3) := by decide +kernel
theorem dX7_look_81 : decode cX7_look 81 = .ok (.aload_n 0, 1) := by decide +kernel
theorem dX7_look_82 : decode cX7_look 82 = .ok (.getfield 63, 3) := by decide +kernel
theorem dX7_look_85 : decode cX7_look 85 = .ok (.iload 4, 2) := by decide +kernel
theorem dX7_look_87 : decode cX7_look 87 = .ok (.iload_n 3, 1) := by decide +kernel
theorem dX7_look_88 : decode cX7_look 88 = .ok (.isub, 1) := by decide +kernel
theorem dX7_look_89 : decode cX7_look 89 = .ok (.aload_n 0, 1) := by decide +kernel
theorem dX7_look_90 : decode cX7_look 90 = .ok (.getfield 63, 3) := by decide +kernel
theorem dX7_look_93 : decode cX7_look 93 = .ok (.iload 4, 2) := by decide +kernel
theorem dX7_look_95 : decode cX7_look 95 = .ok (.iaload, 1) := by decide +kernel
theorem dX7_look_96 : decode cX7_look 96 = .ok (.iastore, 1) := by decide +kernel
theorem dX7_look_97 : decode cX7_look 97 = .ok (.iinc 4 1, 3) := by decide +kernel
theorem dX7_look_100 : decode cX7_look 100 = .ok (.goto (-28), 3) := by decide +kernel
theorem dX7_look_103 : decode cX7_look 103 = .ok (.iconst 1, 1) := by decide +kernel
theorem dX7_look_104 : decode cX7_look 104 = .ok (.istore 4, 2) := by decide +kernel
theorem dX7_look_106 : decode cX7_look 106 = .ok (.iload 4, 2) := by decide +kernel
theorem dX7_look_108 : decode cX7_look 108 = .ok (.bipush 6, 2) := by decide +kernel
theorem dX7_look_110 : decode cX7_look 110 = .ok (.if_icmp .ge 25, 3) := by decide +kernel
theorem dX7_look_113 : decode cX7_look 113 = .ok (.aload_n 0, 1) := by decide +kernel
theorem dX7_look_114 : decode cX7_look 114 = .ok (.getfield 59, 3) := by decide +kernel
theorem dX7_look_117 : decode cX7_look 117 = .ok (.iload 4, 2) := by decide +kernel
theorem dX7_look_119 : decode cX7_look 119 = .ok (.iconst 1, 1) := by decide +kernel
theorem dX7_look_120 : decode cX7_look 120 = .ok (.isub, 1) := by decide +kernel
theorem dX7_look_121 : decode cX7_look 121 = .ok (.aload_n 0, 1) := by decide +kernel
theorem dX7_look_122 : decode cX7_look 122 = .ok (.getfield 59, 3) := by decide +kernel
theorem dX7_look_125 : decode cX7_look 125 = .ok (.iload 4, 2) := by decide +kernel
theorem dX7_look_127 : decode cX7_look 127 = .ok (.iaload, 1) := by decide +kernel
theorem dX7_look_128 : decode cX7_look 128 = .ok (.iastore, 1) := by decide +kernel
theorem dX7_look_129 : decode cX7_look 129 = .ok (.iinc 4 1, 3) := by decide +kernel
theorem dX7_look_132 : decode cX7_look 132 = .ok (.goto (-26), 3) := by decide +kernel
theorem dX7_look_135 : decode cX7_look 135 = .ok (.aload_n 0, 1) := by decide +kernel
theorem dX7_look_136 : decode cX7_look 136 = .ok (.dup, 1) := by decide +kernel
theorem dX7_look_137 : decode cX7_look 137 = .ok (.getfield 87, 3) := by decide +kernel
theorem dX7_look_140 : decode cX7_look 140 = .ok (.iconst 1, 1) := by decide +kernel
theorem dX7_look_141 : decode cX7_look 141 = .ok (.isub, 1) := by decide +kernel
theorem dX7_look_142 : decode cX7_look 142 = .ok (.putfield 87, 3) := by decide +kernel
theorem dX7_look_145 : decode cX7_look 145 = .ok (.iconst 0, 1) := by decide +kernel
theorem dX7_look_146 : decode cX7_look 146 = .ok (.istore 4, 2) := by decide +kernel
theorem dX7_look_148 : decode cX7_look 148 = .ok (.iload 4, 2) := by decide +kernel
theorem dX7_look_150 : decode cX7_look 150 = .ok (.iload_n 3, 1) := by decide +kernel
theorem dX7_look_151 : decode cX7_look 151 = .ok (.if_icmp .ge 24, 3) := by decide +kernel
theorem dX7_look_154 : decode cX7_look 154 = .ok (.aload_n 0, 1) := by decide +kernel
theorem dX7_look_155 : decode cX7_look 155 = .ok (.getfield 63, 3) := by decide +kernel
theorem dX7_look_158 : decode cX7_look 158 = .ok (.iload_n 3, 1) := by decide +kernel
theorem dX7_look_159 : decode cX7_look 159 = .ok (.aload_n 0, 1) := by decide +kernel
theorem dX7_look_160 : decode cX7_look 160 = .ok (.getfield 87, 3) := by decide +kernel
theorem dX7_look_163 : decode cX7_look 163 = .ok (.imul, 1) := by decide +kernel
theorem dX7_look_164 : decode cX7_look 164 = .ok (.iload 4, 2) := by decide +kernel
theorem dX7_look_166 : decode cX7_look 166 = .ok (.iadd, 1) := by decide +kernel
theorem dX7_look_167 : decode cX7_look 167 = .ok (.iconst 0, 1) := by decide +kernel
theorem dX7_look_168 : decode cX7_look 168 = .ok (.iastore, 1) := by decide +kernel
theorem dX7_look_169 : decode cX7_look 169 = .ok (.iinc 4 1, 3) := by decide +kernel
theorem dX7_look_172 : decode cX7_look 172 = .ok (.goto (-24), 3) := by decide +kernel
theorem dX7_look_175 : decode cX7_look 175 = .ok (.aload_n 0, 1) := by decide +kernel
theorem dX7_look_176 : decode cX7_look 176 = .ok (.getfield 59, 3) := by decide +kernel
theorem dX7_look_179 : decode cX7_look 179 = .ok (.aload_n 0, 1) := by decide +kernel
theorem dX7_look_180 : decode cX7_look 180 = .ok (.getfield 87, 3) := by decide +kernel
theorem dX7_look_183 : decode cX7_look 183 = .ok (.iload_n 1, 1) := by decide +kernel
theorem dX7_look_184 : decode cX7_look 184 = .ok (.iastore, 1) := by decide +kernel
theorem dX7_look_185 : decode cX7_look 185 = .ok (.iconst 0, 1) := by decide +kernel
theorem dX7_look_186 : decode cX7_look 186 = .ok (.istore 4, 2) := by decide +kernel
theorem dX7_look_188 : decode cX7_look 188 = .ok (.iload 4, 2) := by decide +kernel
theorem dX7_look_190 : decode cX7_look 190 = .ok (.aload_n 0, 1) := by decide +kernel
theorem dX7_look_191 : decode cX7_look 191 = .ok (.getfield 124, 3) := by decide +kernel
theorem dX7_look_194 : decode cX7_look 194 = .ok (.if_icmp .ge 146, 3) := by decide +kernel
theorem dX7_look_197 : decode cX7_look 197 = .ok (.aload_n 0, 1) := by decide +kernel
theorem dX7_look_198 : decode cX7_look 198 = .ok (.iload_n 1, 1) := by decide +kernel
theorem dX7_look_199 : decode cX7_look 199 = .ok (.aload_n 0, 1) := by decide +kernel
theorem dX7_look_200 : decode cX7_look 200 = .ok (.getfield 44, 3) := by decide +kernel
theorem dX7_look_203 : decode cX7_look 203 = .ok (.iload 4, 2) := by decide +kernel
theorem dX7_look_205 : decode cX7_look 205 = .ok (.iaload, 1) := by decide +kernel
theorem dX7_look_206 : decode cX7_look 206 = .ok (.aload_n 0, 1) := by decide +kernel
theorem dX7_look_207 : decode cX7_look 207 = .ok (.getfield 47, 3) := by decide +kernel
theorem dX7_look_210 : decode cX7_look 210 = .ok (.iload 4, 2) := by decide +kernel
theorem dX7_look_212 : decode cX7_look 212 = .ok (.iaload, 1) := by decide +kernel
theorem dX7_look_213 : decode cX7_look 213 = .ok (.invokevirtual 114, 3) := by decide +kernel
theorem dX7_look_216 : decode cX7_look 216 = .ok (.istore 5, 2) := by decide +kernel
theorem dX7_look_218 : decode cX7_look 218 = .ok (.iconst 0, 1) := by decide +kernel
theorem dX7_look_219 : decode cX7_look 219 = .ok (.istore 6, 2) := by decide +kernel
theorem dX7_look_221 : decode cX7_look 221 = .ok (.iload 6, 2) := by decide +kernel
theorem dX7_look_223 : decode cX7_look 223 = .ok (.aload_n 0, 1) := by decide +kernel
theorem dX7_look_224 : decode cX7_look 224 = .ok (.getfield 19, 3) := by decide +kernel
theorem dX7_look_227 : decode cX7_look 227 = .ok (.if_icmp .ge 107, 3) := by decide +kernel
theorem dX7_look_230 : decode cX7_look 230 = .ok (.aload_n 0, 1) := by decide +kernel
theorem dX7_look_231 : decode cX7_look 231 = .ok (.getfield 27, 3) := by decide +kernel
theorem dX7_look_234 : decode cX7_look 234 = .ok (.iload 6, 2) := by decide +kernel
theorem dX7_look_236 : decode cX7_look 236 = .ok (.baload, 1) := by decide +kernel
theorem dX7_look_237 : decode cX7_look 237 = .ok (.ifCond .ne 91, 3) := by decide +kernel
theorem dX7_look_240 : decode cX7_look 240 = .ok (.iload 5, 2) := by decide +kernel
theorem dX7_look_242 : decode cX7_look 242 = .ok (.aload_n 0, 1) := by decide +kernel
theorem dX7_look_243 : decode cX7_look 243 = .ok (.iload 6, 2) := by decide +kernel
theorem dX7_look_245 : decode cX7_look 245 = .ok (.aload_n 0, 1) := by decide +kernel
theorem dX7_look_246 : decode cX7_look 246 = .ok (.getfield 44, 3) := by decide +kernel
theorem dX7_look_249 : decode cX7_look 249 = .ok (.iload 4, 2) := by decide +kernel
theorem dX7_look_251 : decode cX7_look 251 = .ok (.iaload, 1) := by decide +kernel
theorem dX7_look_252 : decode cX7_look 252 = .ok (.aload_n 0, 1) := by decide +kernel
theorem dX7_look_253 : decode cX7_look 253 = .ok (.getfield 47, 3) := by decide +kernel
theorem dX7_look_256 : decode cX7_look 256 = .ok (.iload 4, 2) := by decide +kernel
theorem dX7_look_258 : decode cX7_look 258 = .ok (.iaload, 1) := by decide +kernel
theorem dX7_look_259 : decode cX7_look 259 = .ok (.invokevirtual 114, 3) := by decide +kernel
theorem dX7_look_262 : decode cX7_look 262 = .ok (.iadd, 1) := by decide +kernel
theorem dX7_look_263 : decode cX7_look 263 = .ok (.istore 7, 2) := by decide +kernel
theorem dX7_look_265 : decode cX7_look 265 = .ok (.aload_n 0, 1) := by decide +kernel
theorem dX7_look_266 : decode cX7_look 266 = .ok (.aload_n 0, 1) := by decide +kernel
theorem dX7_look_267 : decode cX7_look 267 = .ok (.getfield 87, 3) := by decide +kernel
theorem dX7_look_270 : decode cX7_look 270 = .ok (.iload 6, 2) := by decide +kernel
theorem dX7_look_272 : decode cX7_look 272 = .ok (.iload 7, 2) := by decide +kernel
theorem dX7_look_274 : decode cX7_look 274 = .ok (.iconst 1, 1) := by decide +kernel
theorem dX7_look_275 : decode cX7_look 275 = .ok (.isub, 1) := by decide +kernel
theorem dX7_look_276 : decode cX7_look 276 = .ok (.aload_n 0, 1) := by decide +kernel
theorem dX7_look_277 : decode cX7_look 277 = .ok (.getfield 50, 3) := by decide +kernel
theorem dX7_look_280 : decode cX7_look 280 = .ok (.iload 4, 2) := by decide +kernel
theorem dX7_look_282 : decode cX7_look 282 = .ok (.iaload, 1) := by decide +kernel
theorem dX7_look_283 : decode cX7_look 283 = .ok (.invokevirtual 129, 3) := by decide +kernel
theorem dX7_look_286 : decode cX7_look 286 = .ok (.aload_n 0, 1) := by decide +kernel
theorem dX7_look_287 : decode cX7_look 287 = .ok (.aload_n 0, 1) := by decide +kernel
theorem dX7_look_288 : decode cX7_look 288 = .ok (.getfield 87, 3) := by decide +kernel
theorem dX7_look_291 : decode cX7_look 291 = .ok (.iload 6, 2) := by decide +kernel
theorem dX7_look_293 : decode cX7_look 293 = .ok (.iload 7, 2) := by decide +kernel
theorem dX7_look_295 : decode cX7_look 295 = .ok (.iconst 2, 1) := by decide +kernel
theorem dX7_look_296 : decode cX7_look 296 = .ok (.aload_n 0, 1) := by decide +kernel
theorem dX7_look_297 : decode cX7_look 297 = .ok (.getfield 50, 3) := by decide +kernel
theorem dX7_look_300 : decode cX7_look 300 = .ok (.iload 4, 2) := by decide +kernel
theorem dX7_look_302 : decode cX7_look 302 = .ok (.iaload, 1) := by decide +kernel
theorem dX7_look_303 : decode cX7_look 303 = .ok (.imul, 1) := by decide +kernel
theorem dX7_look_304 : decode cX7_look 304 = .ok (.invokevirtual 129, 3) := by decide +kernel
theorem dX7_look_307 : decode cX7_look 307 = .ok (.aload_n 0, 1) := by decide +kernel
theorem dX7_look_308 : decode cX7_look 308 = .ok (.aload_n 0, 1) := by decide +kernel
theorem dX7_look_309 : decode cX7_look 309 = .ok (.getfield 87, 3) := by decide +kernel
theorem dX7_look_312 : decode cX7_look 312 = .ok (.iload 6, 2) := by decide +kernel
theorem dX7_look_314 : decode cX7_look 314 = .ok (.iload 7, 2) := by decide +kernel
theorem dX7_look_316 : decode cX7_look 316 = .ok (.iconst 1, 1) := by decide +kernel
theorem dX7_look_317 : decode cX7_look 317 = .ok (.iadd, 1) := by decide +kernel
theorem dX7_look_318 : decode cX7_look 318 = .ok (.aload_n 0, 1) := by decide +kernel
theorem dX7_look_319 : decode cX7_look 319 = .ok (.getfield 50, 3) := by decide +kernel
theorem dX7_look_322 : decode cX7_look 322 = .ok (.iload 4, 2) := by decide +kernel
theorem dX7_look_324 : decode cX7_look 324 = .ok (.iaload, 1) := by decide +kernel
theorem dX7_look_325 : decode cX7_look 325 = .ok (.invokevirtual 129, 3) := by decide +kernel
theorem dX7_look_328 : decode cX7_look 328 = .ok (.iinc 6 1, 3) := by decide +kernel
theorem dX7_look_331 : decode cX7_look 331 = .ok (.goto (-110), 3) := by decide +kernel
theorem dX7_look_334 : decode cX7_look 334 = .ok (.iinc 4 1, 3) := by decide +kernel
theorem dX7_look_337 : decode cX7_look 337 = .ok (.goto (-149), 3) := by decide +kernel
theorem dX7_look_340 : decode cX7_look 340 = .ok (.iconst 0, 1) := by decide +kernel
theorem dX7_look_341 : decode cX7_look 341 = .ok (.istore 4, 2) := by decide +kernel
theorem dX7_look_343 : decode cX7_look 343 = .ok (.iload 4, 2) := by decide +kernel
theorem dX7_look_345 : decode cX7_look 345 = .ok (.aload_n 0, 1) := by decide +kernel
theorem dX7_look_346 : decode cX7_look 346 = .ok (.getfield 124, 3) := by decide +kernel
theorem dX7_look_349 : decode cX7_look 349 = .ok (.if_icmp .ge 69, 3) := by decide +kernel
theorem dX7_look_352 : decode cX7_look 352 = .ok (.aload_n 0, 1) := by decide +kernel
theorem dX7_look_353 : decode cX7_look 353 = .ok (.getfield 44, 3) := by decide +kernel
theorem dX7_look_356 : decode cX7_look 356 = .ok (.iload 4, 2) := by decide +kernel
theorem dX7_look_358 : decode cX7_look 358 = .ok (.aload_n 0, 1) := by decide +kernel
theorem dX7_look_359 : decode cX7_look 359 = .ok (.getfield 44, 3) := by decide +kernel
theorem dX7_look_362 : decode cX7_look 362 = .ok (.iload 4, 2) := by decide +kernel
theorem dX7_look_364 : decode cX7_look 364 = .ok (.iaload, 1) := by decide +kernel
theorem dX7_look_365 : decode cX7_look 365 = .ok (.aload_n 0, 1) := by decide +kernel
theorem dX7_look_366 : decode cX7_look 366 = .ok (.getfield 53, 3) := by decide +kernel
theorem dX7_look_369 : decode cX7_look 369 = .ok (.iload 4, 2) := by decide +kernel
theorem dX7_look_371 : decode cX7_look 371 = .ok (.iaload, 1) := by decide +kernel
theorem dX7_look_372 : decode cX7_look 372 = .ok (.iadd, 1) := by decide +kernel
theorem dX7_look_373 : decode cX7_look 373 = .ok (.sipush (-2000), 3) := by decide +kernel
theorem dX7_look_376 : decode cX7_look 376 = .ok (.sipush 2000, 3) := by decide +kernel
theorem dX7_look_379 : decode cX7_look 379 = .ok (.invokestatic 133, 3) := by decide +kernel
theorem dX7_look_382 : decode cX7_look 382 = .ok (.iastore, 1) := by decide +kernel
theorem dX7_look_383 : decode cX7_look 383 = .ok (.aload_n 0, 1) := by decide +kernel
theorem dX7_look_384 : decode cX7_look 384 = .ok (.getfield 47, 3) := by decide +kernel
theorem dX7_look_387 : decode cX7_look 387 = .ok (.iload 4, 2) := by decide +kernel
theorem dX7_look_389 : decode cX7_look 389 = .ok (.aload_n 0, 1) := by decide +kernel
theorem dX7_look_390 : decode cX7_look 390 = .ok (.getfield 47, 3) := by decide +kernel
theorem dX7_look_393 : decode cX7_look 393 = .ok (.iload 4, 2) := by decide +kernel
theorem dX7_look_395 : decode cX7_look 395 = .ok (.iaload, 1) := by decide +kernel
theorem dX7_look_396 : decode cX7_look 396 = .ok (.aload_n 0, 1) := by decide +kernel
theorem dX7_look_397 : decode cX7_look 397 = .ok (.getfield 56, 3) := by decide +kernel
theorem dX7_look_400 : decode cX7_look 400 = .ok (.iload 4, 2) := by decide +kernel
theorem dX7_look_402 : decode cX7_look 402 = .ok (.iaload, 1) := by decide +kernel
theorem dX7_look_403 : decode cX7_look 403 = .ok (.iadd, 1) := by decide +kernel
theorem dX7_look_404 : decode cX7_look 404 = .ok (.iconst 0, 1) := by decide +kernel
theorem dX7_look_405 : decode cX7_look 405 = .ok (.sipush 4000, 3) := by decide +kernel
theorem dX7_look_408 : decode cX7_look 408 = .ok (.invokestatic 133, 3) := by decide +kernel
theorem dX7_look_411 : decode cX7_look 411 = .ok (.iastore, 1) := by decide +kernel
theorem dX7_look_412 : decode cX7_look 412 = .ok (.iinc 4 1, 3) := by decide +kernel
theorem dX7_look_415 : decode cX7_look 415 = .ok (.goto (-72), 3) := by decide +kernel
theorem dX7_look_418 : decode cX7_look 418 = .ok (.aload_n 0, 1) := by decide +kernel
theorem dX7_look_419 : decode cX7_look 419 = .ok (.dup, 1) := by decide +kernel
theorem dX7_look_420 : decode cX7_look 420 = .ok (.getfield 93, 3) := by decide +kernel
theorem dX7_look_423 : decode cX7_look 423 = .ok (.iload_n 2, 1) := by decide +kernel
theorem dX7_look_424 : decode cX7_look 424 = .ok (.iload_n 2, 1) := by decide +kernel
theorem dX7_look_425 : decode cX7_look 425 = .ok (.imul, 1) := by decide +kernel
theorem dX7_look_426 : decode cX7_look 426 = .ok (.iload_n 2, 1) := by decide +kernel
theorem dX7_look_427 : decode cX7_look 427 = .ok (.imul, 1) := by decide +kernel
theorem dX7_look_428 : decode cX7_look 428 = .ok (.iadd, 1) := by decide +kernel
theorem dX7_look_429 : decode cX7_look 429 = .ok (.putfield 93, 3) := by decide +kernel
theorem dX7_look_432 : decode cX7_look 432 = .ok (.aload_n 0, 1) := by decide +kernel
theorem dX7_look_433 : decode cX7_look 433 = .ok (.dup, 1) := by decide +kernel
theorem dX7_look_434 : decode cX7_look 434 = .ok (.getfield 136, 3) := by decide +kernel
theorem dX7_look_437 : decode cX7_look 437 = .ok (.iconst 1, 1) := by decide +kernel
theorem dX7_look_438 : decode cX7_look 438 = .ok (.iadd, 1) := by decide +kernel
theorem dX7_look_439 : decode cX7_look 439 = .ok (.putfield 136, 3) := by decide +kernel
theorem dX7_look_442 : decode cX7_look 442 = .ok (.aload_n 0, 1) := by decide +kernel
theorem dX7_look_443 : decode cX7_look 443 = .ok (.dup, 1) := by decide +kernel
theorem dX7_look_444 : decode cX7_look 444 = .ok (.getfield 87, 3) := by decide +kernel
theorem dX7_look_447 : decode cX7_look 447 = .ok (.iconst 1, 1) := by decide +kernel
theorem dX7_look_448 : decode cX7_look 448 = .ok (.iadd, 1) := by decide +kernel
theorem dX7_look_449 : decode cX7_look 449 = .ok (.putfield 87, 3) := by decide +kernel
theorem dX7_look_452 : decode cX7_look 452 = .ok (.aload_n 0, 1) := by decide +kernel
theorem dX7_look_453 : decode cX7_look 453 = .ok (.getfield 87, 3) := by decide +kernel
theorem dX7_look_456 : decode cX7_look 456 = .ok (.ireturn, 1) := by decide +kernel
set_option maxRecDepth 20000 in
theorem ggX7_isLook_X7_in : GoodIn wsX7_isLook wsX7_in := goodIn_r _ [5] (by decide +kernel) (by decide +kernel)
set_option maxRecDepth 20000 in
theorem gX7_isLook_X7_in : GoodIn wsX7_isLook (va_wsS RX7 7 yX7_in wsX7_in) := goodIn_app (goodIn_of _ (by decide +kernel)) ggX7_isLook_X7_in
theorem dX7_isLook_0 : decode cX7_isLook 0 = .ok (.iload_n 1, 1) := by decide +kernel
theorem dX7_isLook_1 : decode cX7_isLook 1 = .ok (.i2l, 1) := by decide +kernel
theorem dX7_isLook_2 : decode cX7_isLook 2 = .ok (.lconst 0, 1) := by decide +kernel
theorem dX7_isLook_3 : decode cX7_isLook 3 = .ok (.aload_n 0, 1) := by decide +kernel
theorem dX7_isLook_4 : decode cX7_isLook 4 = .ok (.getfield 87, 3) := by decide +kernel
theorem dX7_isLook_7 : decode cX7_isLook 7 = .ok (.iconst 1, 1) := by decide +kernel
theorem dX7_isLook_8 : decode cX7_isLook 8 = .ok (.isub, 1) := by decide +kernel
theorem dX7_isLook_9 : decode cX7_isLook 9 = .ok (.i2l, 1) := by decide +kernel
theorem dX7_isLook_10 : decode cX7_isLook 10 = .ok (.invokestatic 7, 3) := by decide +kernel
theorem dX7_isLook_13 : decode cX7_isLook 13 = .ok (.ireturn, 1) := by decide +kernel
set_option maxRecDepth 20000 in
theorem ggX7_sampleAt_X7_in : GoodIn wsX7_sampleAt wsX7_in := goodIn_r _ [6] (by decide +kernel) (by decide +kernel)
set_option maxRecDepth 20000 in
theorem gX7_sampleAt_X7_in : GoodIn wsX7_sampleAt (va_wsS RX7 7 yX7_in wsX7_in) := goodIn_app (goodIn_of _ (by decide +kernel)) ggX7_sampleAt_X7_in
theorem dX7_sampleAt_0 : decode cX7_sampleAt 0 = .ok (.iload_n 3, 1) := by decide +kernel
theorem dX7_sampleAt_1 : decode cX7_sampleAt 1 = .ok (.i2l, 1) := by decide +kernel
theorem dX7_sampleAt_2 : decode cX7_sampleAt 2 = .ok (.lconst 0, 1) := by decide +kernel
theorem dX7_sampleAt_3 : decode cX7_sampleAt 3 = .ok (.ldc2_w 127, 3) := by decide +kernel
theorem dX7_sampleAt_6 : decode cX7_sampleAt 6 = .ok (.invokestatic 7, 3) := by decide +kernel
theorem dX7_sampleAt_9 : decode cX7_sampleAt 9 = .ok (.ifCond .eq 23, 3) := by decide +kernel
theorem dX7_sampleAt_12 : decode cX7_sampleAt 12 = .ok (.aload_n 0, 1) := by decide +kernel
theorem dX7_sampleAt_13 : decode cX7_sampleAt 13 = .ok (.getfield 63, 3) := by decide +kernel
theorem dX7_sampleAt_16 : decode cX7_sampleAt 16 = .ok (.sipush 400, 3) := by decide +kernel
theorem dX7_sampleAt_19 : decode cX7_sampleAt 19 = .ok (.bipush 16, 2) := by decide +kernel
theorem dX7_sampleAt_21 : decode cX7_sampleAt 21 = .ok (.iload_n 1, 1) := by decide +kernel
theorem dX7_sampleAt_22 : decode cX7_sampleAt 22 = .ok (.imul, 1) := by decide +kernel
theorem dX7_sampleAt_23 : decode cX7_sampleAt 23 = .ok (.iload_n 2, 1) := by decide +kernel
theorem dX7_sampleAt_24 : decode cX7_sampleAt 24 = .ok (.iadd, 1) := by decide +kernel
theorem dX7_sampleAt_25 : decode cX7_sampleAt 25 = .ok (.imul, 1) := by decide +kernel
theorem dX7_sampleAt_26 : decode cX7_sampleAt 26 = .ok (.iload_n 3, 1) := by decide +kernel
theorem dX7_sampleAt_27 : decode cX7_sampleAt 27 = .ok (.iadd, 1) := by decide +kernel
theorem dX7_sampleAt_28 : decode cX7_sampleAt 28 = .ok (.iaload, 1) := by decide +kernel
theorem dX7_sampleAt_29 : decode cX7_sampleAt 29 = .ok (.goto 4, 3) := by decide +kernel
theorem dX7_sampleAt_32 : decode cX7_sampleAt 32 = .ok (.iconst 0, 1) := by decide +kernel
theorem dX7_sampleAt_33 : decode cX7_sampleAt 33 = .ok (.ireturn, 1) := by decide +kernel
set_option maxRecDepth 20000 in
theorem ggX7_sample_X7_isLook : GoodIn wsX7_sample wsX7_isLook := goodIn_r _ [8, 9, 10, 11, 7, 12, 18, 19, 20, 21, 22, 23, 24, 25, 26, 27, 28, 29, 30, 31, 32, 33, 34, 35, 36, 37, 38, 39, 40, 41, 42, 43, 44, 45] (by decide +kernel) (by decide +kernel)
set_option maxRecDepth 20000 in
theorem gX7_sample_X7_isLook : GoodIn wsX7_sample (wsV RX7 139 RX7 yX7_isLook wsX7_isLook) := goodIn_app (goodIn_of _ (by decide +kernel)) ggX7_sample_X7_isLook
set_option maxRecDepth 20000 in
theorem ggX7_sample_X7_in : GoodIn wsX7_sample wsX7_in := goodIn_r _ [12] (by decide +kernel) (by decide +kernel)
set_option maxRecDepth 20000 in
theorem gX7_sample_X7_in : GoodIn wsX7_sample (va_wsS RX7 7 yX7_in wsX7_in) := goodIn_app (goodIn_of _ (by decide +kernel)) ggX7_sample_X7_in
set_option maxRecDepth 20000 in
theorem ggX7_sample_X7_sampleAt : GoodIn wsX7_sample wsX7_sampleAt := goodIn_r _ [16, 2, 17, 10, 11, 7, 12, 18, 19, 20, 21, 22, 23, 24, 25, 26, 27, 28, 29, 30, 31, 32, 33, 34, 35, 36, 37, 38, 39, 40, 41, 42, 43, 44, 45] (by decide +kernel) (by decide +kernel)
set_option maxRecDepth 20000 in
theorem gX7_sample_X7_sampleAt : GoodIn wsX7_sample (wsV RX7 143 RX7 yX7_sampleAt wsX7_sampleAt) := goodIn_app (goodIn_of _ (by decide +kernel)) ggX7_sample_X7_sampleAt
theorem dX7_sample_0 : decode cX7_sample 0 = .ok (.aload_n 0, 1) := by decide +kernel
theorem dX7_sample_1 : decode cX7_sample 1 = .ok (.iload_n 1, 1) := by decide +kernel
theorem dX7_sample_2 : decode cX7_sample 2 = .ok (.invokevirtual 139, 3) := by decide +kernel
theorem dX7_sample_5 : decode cX7_sample 5 = .ok (.ifCond .eq 41, 3) := by decide +kernel
theorem dX7_sample_8 : decode cX7_sample 8 = .ok (.iload_n 2, 1) := by decide +kernel
theorem dX7_sample_9 : decode cX7_sample 9 = .ok (.i2l, 1) := by decide +kernel
theorem dX7_sample_10 : decode cX7_sample 10 = .ok (.lconst 0, 1) := by decide +kernel
theorem dX7_sample_11 : decode cX7_sample 11 = .ok (.aload_n 0, 1) := by decide +kernel
theorem dX7_sample_12 : decode cX7_sample 12 = .ok (.getfield 19, 3) := by decide +kernel
theorem dX7_sample_15 : decode cX7_sample 15 = .ok (.iconst 1, 1) := by decide +kernel
theorem dX7_sample_16 : decode cX7_sample 16 = .ok (.isub, 1) := by decide +kernel
theorem dX7_sample_17 : decode cX7_sample 17 = .ok (.i2l, 1) := by decide +kernel
theorem dX7_sample_18 : decode cX7_sample 18 = .ok (.invokestatic 7, 3) := by decide +kernel
theorem dX7_sample_21 : decode cX7_sample 21 = .ok (.ifCond .eq 25, 3) := by decide +kernel
theorem dX7_sample_24 : decode cX7_sample 24 = .ok (.iload_n 3, 1) := by decide +kernel
theorem dX7_sample_25 : decode cX7_sample 25 = .ok (.i2l, 1) := by decide +kernel
theorem dX7_sample_26 : decode cX7_sample 26 = .ok (.lconst 0, 1) := by decide +kernel
theorem dX7_sample_27 : decode cX7_sample 27 = .ok (.ldc2_w 127, 3) := by decide +kernel
theorem dX7_sample_30 : decode cX7_sample 30 = .ok (.invokestatic 7, 3) := by decide +kernel
theorem dX7_sample_33 : decode cX7_sample 33 = .ok (.ifCond .eq 13, 3) := by decide +kernel
theorem dX7_sample_36 : decode cX7_sample 36 = .ok (.aload_n 0, 1) := by decide +kernel
theorem dX7_sample_37 : decode cX7_sample 37 = .ok (.iload_n 1, 1) := by decide +kernel
theorem dX7_sample_38 : decode cX7_sample 38 = .ok (.iload_n 2, 1) := by decide +kernel
theorem dX7_sample_39 : decode cX7_sample 39 = .ok (.iload_n 3, 1) := by decide +kernel
theorem dX7_sample_40 : decode cX7_sample 40 = .ok (.invokevirtual 143, 3) := by decide +kernel
theorem dX7_sample_43 : decode cX7_sample 43 = .ok (.goto 5, 3) := by decide +kernel
theorem dX7_sample_46 : decode cX7_sample 46 = .ok (.ldc 146, 2) := by decide +kernel
theorem dX7_sample_48 : decode cX7_sample 48 = .ok (.ireturn, 1) := by decide +kernel
set_option maxRecDepth 20000 in
theorem ggX7_window_X7_in : GoodIn wsX7_window wsX7_in := goodIn_r _ [8] (by decide +kernel) (by decide +kernel)
set_option maxRecDepth 20000 in
theorem gX7_window_X7_in : GoodIn wsX7_window (va_wsS RX7 7 yX7_in wsX7_in) := goodIn_app (goodIn_of _ (by decide +kernel)) ggX7_window_X7_in
theorem dX7_window_0 : decode cX7_window 0 = .ok (.iload_n 1, 1) := by decide +kernel
theorem dX7_window_1 : decode cX7_window 1 = .ok (.i2l, 1) := by decide +kernel
theorem dX7_window_2 : decode cX7_window 2 = .ok (.lconst 0, 1) := by decide +kernel
theorem dX7_window_3 : decode cX7_window 3 = .ok (.ldc2_w 81, 3) := by decide +kernel
theorem dX7_window_6 : decode cX7_window 6 = .ok (.invokestatic 7, 3) := by decide +kernel
theorem dX7_window_9 : decode cX7_window 9 = .ok (.ifCond .eq 15, 3) := by decide +kernel
theorem dX7_window_12 : decode cX7_window 12 = .ok (.iload_n 2, 1) := by decide +kernel
theorem dX7_window_13 : decode cX7_window 13 = .ok (.i2l, 1) := by decide +kernel
theorem dX7_window_14 : decode cX7_window 14 = .ok (.lconst 1, 1) := by decide +kernel
theorem dX7_window_15 : decode cX7_window 15 = .ok (.ldc2_w 147, 3) := by decide +kernel
theorem dX7_window_18 : decode cX7_window 18 = .ok (.invokestatic 7, 3) := by decide +kernel
theorem dX7_window_21 : decode cX7_window 21 = .ok (.ifCond .ne 6, 3) := by decide +kernel
theorem dX7_window_24 : decode cX7_window 24 = .ok (.bipush (-2), 2) := by decide +kernel
theorem dX7_window_26 : decode cX7_window 26 = .ok (.ireturn, 1) := by decide +kernel
theorem dX7_window_27 : decode cX7_window 27 = .ok (.aload_n 0, 1) := by decide +kernel
theorem dX7_window_28 : decode cX7_window 28 = .ok (.getfield 149, 3) := by decide +kernel
theorem dX7_window_31 : decode cX7_window 31 = .ok (.istore_n 3, 1) := by decide +kernel
theorem dX7_window_32 : decode cX7_window 32 = .ok (.aload_n 0, 1) := by decide +kernel
theorem dX7_window_33 : decode cX7_window 33 = .ok (.iload_n 1, 1) := by decide +kernel
theorem dX7_window_34 : decode cX7_window 34 = .ok (.putfield 149, 3) := by decide +kernel
theorem dX7_window_37 : decode cX7_window 37 = .ok (.aload_n 0, 1) := by decide +kernel
theorem dX7_window_38 : decode cX7_window 38 = .ok (.iload_n 2, 1) := by decide +kernel
theorem dX7_window_39 : decode cX7_window 39 = .ok (.putfield 37, 3) := by decide +kernel
theorem dX7_window_42 : decode cX7_window 42 = .ok (.iload_n 3, 1) := by decide +kernel
theorem dX7_window_43 : decode cX7_window 43 = .ok (.ireturn, 1) := by decide +kernel
theorem dX7_weightOf_0 : decode cX7_weightOf 0 = .ok (.aload_n 0, 1) := by decide +kernel
theorem dX7_weightOf_1 : decode cX7_weightOf 1 = .ok (.getfield 27, 3) := by decide +kernel
theorem dX7_weightOf_4 : decode cX7_weightOf 4 = .ok (.iload_n 1, 1) := by decide +kernel
theorem dX7_weightOf_5 : decode cX7_weightOf 5 = .ok (.baload, 1) := by decide +kernel
theorem dX7_weightOf_6 : decode cX7_weightOf 6 = .ok (.ifCond .eq 5, 3) := by decide +kernel
theorem dX7_weightOf_9 : decode cX7_weightOf 9 = .ok (.iconst 0, 1) := by decide +kernel
theorem dX7_weightOf_10 : decode cX7_weightOf 10 = .ok (.ireturn, 1) := by decide +kernel
theorem dX7_weightOf_11 : decode cX7_weightOf 11 = .ok (.iload_n 2, 1) := by decide +kernel
theorem dX7_weightOf_12 : decode cX7_weightOf 12 = .ok (.aload_n 0, 1) := by decide +kernel
theorem dX7_weightOf_13 : decode cX7_weightOf 13 = .ok (.getfield 23, 3) := by decide +kernel
theorem dX7_weightOf_16 : decode cX7_weightOf 16 = .ok (.iload_n 1, 1) := by decide +kernel
theorem dX7_weightOf_17 : decode cX7_weightOf 17 = .ok (.iaload, 1) := by decide +kernel
theorem dX7_weightOf_18 : decode cX7_weightOf 18 = .ok (.if_icmp .ge 14, 3) := by decide +kernel
theorem dX7_weightOf_21 : decode cX7_weightOf 21 = .ok (.aload_n 0, 1) := by decide +kernel
theorem dX7_weightOf_22 : decode cX7_weightOf 22 = .ok (.getfield 23, 3) := by decide +kernel
theorem dX7_weightOf_25 : decode cX7_weightOf 25 = .ok (.iload_n 1, 1) := by decide +kernel
theorem dX7_weightOf_26 : decode cX7_weightOf 26 = .ok (.iaload, 1) := by decide +kernel
theorem dX7_weightOf_27 : decode cX7_weightOf 27 = .ok (.iload_n 2, 1) := by decide +kernel
theorem dX7_weightOf_28 : decode cX7_weightOf 28 = .ok (.isub, 1) := by decide +kernel
theorem dX7_weightOf_29 : decode cX7_weightOf 29 = .ok (.goto 11, 3) := by decide +kernel
theorem dX7_weightOf_32 : decode cX7_weightOf 32 = .ok (.iload_n 2, 1) := by decide +kernel
theorem dX7_weightOf_33 : decode cX7_weightOf 33 = .ok (.aload_n 0, 1) := by decide +kernel
theorem dX7_weightOf_34 : decode cX7_weightOf 34 = .ok (.getfield 23, 3) := by decide +kernel
theorem dX7_weightOf_37 : decode cX7_weightOf 37 = .ok (.iload_n 1, 1) := by decide +kernel
theorem dX7_weightOf_38 : decode cX7_weightOf 38 = .ok (.iaload, 1) := by decide +kernel
theorem dX7_weightOf_39 : decode cX7_weightOf 39 = .ok (.isub, 1) := by decide +kernel
theorem dX7_weightOf_40 : decode cX7_weightOf 40 = .ok (.istore 4, 2) := by decide +kernel
theorem dX7_weightOf_42 : decode cX7_weightOf 42 = .ok (.iload_n 3, 1) := by decide +kernel
theorem dX7_weightOf_43 : decode cX7_weightOf 43 = .ok (.aload_n 0, 1) := by decide +kernel
theorem dX7_weightOf_44 : decode cX7_weightOf 44 = .ok (.getfield 37, 3) := by decide +kernel
theorem dX7_weightOf_47 : decode cX7_weightOf 47 = .ok (.idiv, 1) := by decide +kernel
theorem dX7_weightOf_48 : decode cX7_weightOf 48 = .ok (.istore 5, 2) := by decide +kernel
theorem dX7_weightOf_50 : decode cX7_weightOf 50 = .ok (.aload_n 0, 1) := by decide +kernel
theorem dX7_weightOf_51 : decode cX7_weightOf 51 = .ok (.getfield 149, 3) := by decide +kernel
theorem dX7_weightOf_54 : decode cX7_weightOf 54 = .ok (.ifCond .ne 7, 3) := by decide +kernel
theorem dX7_weightOf_57 : decode cX7_weightOf 57 = .ok (.iconst 1, 1) := by decide +kernel
theorem dX7_weightOf_58 : decode cX7_weightOf 58 = .ok (.goto 33, 3) := by decide +kernel
theorem dX7_weightOf_61 : decode cX7_weightOf 61 = .ok (.iload 4, 2) := by decide +kernel
theorem dX7_weightOf_63 : decode cX7_weightOf 63 = .ok (.iload 5, 2) := by decide +kernel
theorem dX7_weightOf_65 : decode cX7_weightOf 65 = .ok (.if_icmp .le 7, 3) := by decide +kernel
theorem dX7_weightOf_68 : decode cX7_weightOf 68 = .ok (.iconst 0, 1) := by decide +kernel
theorem dX7_weightOf_69 : decode cX7_weightOf 69 = .ok (.goto 22, 3) := by decide +kernel
theorem dX7_weightOf_72 : decode cX7_weightOf 72 = .ok (.aload_n 0, 1) := by decide +kernel
theorem dX7_weightOf_73 : decode cX7_weightOf 73 = .ok (.getfield 149, 3) := by decide +kernel
theorem dX7_weightOf_76 : decode cX7_weightOf 76 = .ok (.iconst 1, 1) := by decide +kernel
theorem dX7_weightOf_77 : decode cX7_weightOf 77 = .ok (.if_icmp .ne 7, 3) := by decide +kernel
theorem dX7_weightOf_80 : decode cX7_weightOf 80 = .ok (.iconst 1, 1) := by decide +kernel
theorem dX7_weightOf_81 : decode cX7_weightOf 81 = .ok (.goto 10, 3) := by decide +kernel
theorem dX7_weightOf_84 : decode cX7_weightOf 84 = .ok (.iload 5, 2) := by decide +kernel
theorem dX7_weightOf_86 : decode cX7_weightOf 86 = .ok (.iload 4, 2) := by decide +kernel
theorem dX7_weightOf_88 : decode cX7_weightOf 88 = .ok (.isub, 1) := by decide +kernel
theorem dX7_weightOf_89 : decode cX7_weightOf 89 = .ok (.iconst 1, 1) := by decide +kernel
theorem dX7_weightOf_90 : decode cX7_weightOf 90 = .ok (.iadd, 1) := by decide +kernel
theorem dX7_weightOf_91 : decode cX7_weightOf 91 = .ok (.ireturn, 1) := by decide +kernel
set_option maxRecDepth 20000 in
theorem ggX7_weight_X7_in : GoodIn wsX7_weight wsX7_in := goodIn_r _ [5] (by decide +kernel) (by decide +kernel)
set_option maxRecDepth 20000 in
theorem gX7_weight_X7_in : GoodIn wsX7_weight (va_wsS RX7 7 yX7_in wsX7_in) := goodIn_app (goodIn_of _ (by decide +kernel)) ggX7_weight_X7_in
set_option maxRecDepth 20000 in
theorem ggX7_weight_X7_isPlace : GoodIn wsX7_weight wsX7_isPlace := goodIn_r _ [8, 9, 10, 11, 2, 3, 4, 5] (by decide +kernel) (by decide +kernel)
set_option maxRecDepth 20000 in
theorem gX7_weight_X7_isPlace : GoodIn wsX7_weight (va_wsS RX7 110 yX7_isPlace wsX7_isPlace) := goodIn_app (goodIn_of _ (by decide +kernel)) ggX7_weight_X7_isPlace
set_option maxRecDepth 20000 in
theorem ggX7_weight_X7_weightOf : GoodIn wsX7_weight wsX7_weightOf := goodIn_r _ [15, 16, 17, 18, 19, 20, 21, 22, 23, 24, 25, 26, 27, 28, 29, 30, 31, 32, 33, 34, 35, 36, 37, 38, 39, 40, 41, 42, 43, 44, 45, 46, 47] (by decide +kernel) (by decide +kernel)
set_option maxRecDepth 20000 in
theorem gX7_weight_X7_weightOf : GoodIn wsX7_weight (wsV RX7 152 RX7 yX7_weightOf wsX7_weightOf) := goodIn_app (goodIn_of _ (by decide +kernel)) ggX7_weight_X7_weightOf
theorem dX7_weight_0 : decode cX7_weight 0 = .ok (.iload_n 1, 1) := by decide +kernel
theorem dX7_weight_1 : decode cX7_weight 1 = .ok (.i2l, 1) := by decide +kernel
theorem dX7_weight_2 : decode cX7_weight 2 = .ok (.lconst 0, 1) := by decide +kernel
theorem dX7_weight_3 : decode cX7_weight 3 = .ok (.aload_n 0, 1) := by decide +kernel
theorem dX7_weight_4 : decode cX7_weight 4 = .ok (.getfield 19, 3) := by decide +kernel
theorem dX7_weight_7 : decode cX7_weight 7 = .ok (.iconst 1, 1) := by decide +kernel
theorem dX7_weight_8 : decode cX7_weight 8 = .ok (.isub, 1) := by decide +kernel
theorem dX7_weight_9 : decode cX7_weight 9 = .ok (.i2l, 1) := by decide +kernel
theorem dX7_weight_10 : decode cX7_weight 10 = .ok (.invokestatic 7, 3) := by decide +kernel
theorem dX7_weight_13 : decode cX7_weight 13 = .ok (.ifCond .eq 21, 3) := by decide +kernel
theorem dX7_weight_16 : decode cX7_weight 16 = .ok (.iload_n 2, 1) := by decide +kernel
theorem dX7_weight_17 : decode cX7_weight 17 = .ok (.iload_n 3, 1) := by decide +kernel
theorem dX7_weight_18 : decode cX7_weight 18 = .ok (.invokestatic 110, 3) := by decide +kernel
theorem dX7_weight_21 : decode cX7_weight 21 = .ok (.ifCond .eq 13, 3) := by decide +kernel
theorem dX7_weight_24 : decode cX7_weight 24 = .ok (.aload_n 0, 1) := by decide +kernel
theorem dX7_weight_25 : decode cX7_weight 25 = .ok (.iload_n 1, 1) := by decide +kernel
theorem dX7_weight_26 : decode cX7_weight 26 = .ok (.iload_n 2, 1) := by decide +kernel
theorem dX7_weight_27 : decode cX7_weight 27 = .ok (.iload_n 3, 1) := by decide +kernel
theorem dX7_weight_28 : decode cX7_weight 28 = .ok (.invokevirtual 152, 3) := by decide +kernel
theorem dX7_weight_31 : decode cX7_weight 31 = .ok (.goto 5, 3) := by decide +kernel
theorem dX7_weight_34 : decode cX7_weight 34 = .ok (.bipush (-2), 2) := by decide +kernel
theorem dX7_weight_36 : decode cX7_weight 36 = .ok (.ireturn, 1) := by decide +kernel
set_option maxRecDepth 20000 in
theorem ggX7_sumOf_X7_delayOf : GoodIn wsX7_sumOf wsX7_delayOf := goodIn_r _ [7, 8, 9, 10, 11, 12, 13, 14, 6, 15, 16, 33, 34, 35, 36, 37, 38, 39, 40, 41, 42, 43, 44, 45, 46, 47, 48, 49, 50, 51, 52, 53, 54, 55, 56, 57, 58, 59, 60] (by decide +kernel) (by decide +kernel)
set_option maxRecDepth 20000 in
theorem gX7_sumOf_X7_delayOf : GoodIn wsX7_sumOf (wsV RX7 114 RX7 yX7_delayOf wsX7_delayOf) := goodIn_app (goodIn_of _ (by decide +kernel)) ggX7_sumOf_X7_delayOf
set_option maxRecDepth 20000 in
theorem ggX7_sumOf_X7_sampleAt : GoodIn wsX7_sumOf wsX7_sampleAt := goodIn_r _ [20, 21, 22, 23, 24, 6, 25, 33, 34, 35, 36, 37, 38, 39, 40, 41, 42, 43, 44, 45, 46, 47, 48, 49, 50, 51, 52, 53, 54, 55, 56, 57, 58, 59, 60] (by decide +kernel) (by decide +kernel)
set_option maxRecDepth 20000 in
theorem gX7_sumOf_X7_sampleAt : GoodIn wsX7_sumOf (wsV RX7 143 RX7 yX7_sampleAt wsX7_sampleAt) := goodIn_app (goodIn_of _ (by decide +kernel)) ggX7_sumOf_X7_sampleAt
set_option maxRecDepth 20000 in
theorem ggX7_sumOf_X7_weightOf : GoodIn wsX7_sumOf wsX7_weightOf := goodIn_r _ [29, 30, 8, 31, 32, 33, 34, 35, 36, 37, 38, 39, 40, 41, 42, 43, 44, 45, 46, 47, 48, 49, 50, 51, 52, 53, 54, 55, 56, 57, 58, 59, 60] (by decide +kernel) (by decide +kernel)
set_option maxRecDepth 20000 in
theorem gX7_sumOf_X7_weightOf : GoodIn wsX7_sumOf (wsV RX7 152 RX7 yX7_weightOf wsX7_weightOf) := goodIn_app (goodIn_of _ (by decide +kernel)) ggX7_sumOf_X7_weightOf
theorem dX7_sumOf_0 : decode cX7_sumOf 0 = .ok (.aload_n 0, 1) := by decide +kernel
theorem dX7_sumOf_1 : decode cX7_sumOf 1 = .ok (.aload_n 0, 1) := by decide +kernel
theorem dX7_sumOf_2 : decode cX7_sumOf 2 = .ok (.getfield 59, 3) := by decide +kernel
theorem dX7_sumOf_5 : decode cX7_sumOf 5 = .ok (.iload_n 1, 1) := by decide +kernel
theorem dX7_sumOf_6 : decode cX7_sumOf 6 = .ok (.iaload, 1) := by decide +kernel
theorem dX7_sumOf_7 : decode cX7_sumOf 7 = .ok (.iload_n 2, 1) := by decide +kernel
theorem dX7_sumOf_8 : decode cX7_sumOf 8 = .ok (.iload_n 3, 1) := by decide +kernel
theorem dX7_sumOf_9 : decode cX7_sumOf 9 = .ok (.invokevirtual 114, 3) := by decide +kernel
theorem dX7_sumOf_12 : decode cX7_sumOf 12 = .ok (.istore 4, 2) := by decide +kernel
theorem dX7_sumOf_14 : decode cX7_sumOf 14 = .ok (.lconst 0, 1) := by decide +kernel
theorem dX7_sumOf_15 : decode cX7_sumOf 15 = .ok (.lstore 5, 2) := by decide +kernel
theorem dX7_sumOf_17 : decode cX7_sumOf 17 = .ok (.iconst 0, 1) := by decide +kernel
theorem dX7_sumOf_18 : decode cX7_sumOf 18 = .ok (.istore 7, 2) := by decide +kernel
theorem dX7_sumOf_20 : decode cX7_sumOf 20 = .ok (.iload 7, 2) := by decide +kernel
theorem dX7_sumOf_22 : decode cX7_sumOf 22 = .ok (.aload_n 0, 1) := by decide +kernel
theorem dX7_sumOf_23 : decode cX7_sumOf 23 = .ok (.getfield 19, 3) := by decide +kernel
theorem dX7_sumOf_26 : decode cX7_sumOf 26 = .ok (.if_icmp .ge 43, 3) := by decide +kernel
theorem dX7_sumOf_29 : decode cX7_sumOf 29 = .ok (.lload 5, 2) := by decide +kernel
theorem dX7_sumOf_31 : decode cX7_sumOf 31 = .ok (.aload_n 0, 1) := by decide +kernel
theorem dX7_sumOf_32 : decode cX7_sumOf 32 = .ok (.iload_n 1, 1) := by decide +kernel
theorem dX7_sumOf_33 : decode cX7_sumOf 33 = .ok (.iload 7, 2) := by decide +kernel
theorem dX7_sumOf_35 : decode cX7_sumOf 35 = .ok (.iload 4, 2) := by decide +kernel
theorem dX7_sumOf_37 : decode cX7_sumOf 37 = .ok (.aload_n 0, 1) := by decide +kernel
theorem dX7_sumOf_38 : decode cX7_sumOf 38 = .ok (.iload 7, 2) := by decide +kernel
theorem dX7_sumOf_40 : decode cX7_sumOf 40 = .ok (.iload_n 2, 1) := by decide +kernel
theorem dX7_sumOf_41 : decode cX7_sumOf 41 = .ok (.iload_n 3, 1) := by decide +kernel
theorem dX7_sumOf_42 : decode cX7_sumOf 42 = .ok (.invokevirtual 114, 3) := by decide +kernel
theorem dX7_sumOf_45 : decode cX7_sumOf 45 = .ok (.iadd, 1) := by decide +kernel
theorem dX7_sumOf_46 : decode cX7_sumOf 46 = .ok (.invokevirtual 143, 3) := by decide +kernel
theorem dX7_sumOf_49 : decode cX7_sumOf 49 = .ok (.i2l, 1) := by decide +kernel
theorem dX7_sumOf_50 : decode cX7_sumOf 50 = .ok (.aload_n 0, 1) := by decide +kernel
theorem dX7_sumOf_51 : decode cX7_sumOf 51 = .ok (.iload 7, 2) := by decide +kernel
theorem dX7_sumOf_53 : decode cX7_sumOf 53 = .ok (.iload_n 2, 1) := by decide +kernel
theorem dX7_sumOf_54 : decode cX7_sumOf 54 = .ok (.iload_n 3, 1) := by decide +kernel
theorem dX7_sumOf_55 : decode cX7_sumOf 55 = .ok (.invokevirtual 152, 3) := by decide +kernel
theorem dX7_sumOf_58 : decode cX7_sumOf 58 = .ok (.i2l, 1) := by decide +kernel
theorem dX7_sumOf_59 : decode cX7_sumOf 59 = .ok (.lmul, 1) := by decide +kernel
theorem dX7_sumOf_60 : decode cX7_sumOf 60 = .ok (.ladd, 1) := by decide +kernel
theorem dX7_sumOf_61 : decode cX7_sumOf 61 = .ok (.lstore 5, 2) := by decide +kernel
theorem dX7_sumOf_63 : decode cX7_sumOf 63 = .ok (.iinc 7 1, 3) := by decide +kernel
theorem dX7_sumOf_66 : decode cX7_sumOf 66 = .ok (.goto (-46), 3) := by decide +kernel
theorem dX7_sumOf_69 : decode cX7_sumOf 69 = .ok (.lload 5, 2) := by decide +kernel
theorem dX7_sumOf_71 : decode cX7_sumOf 71 = .ok (.lreturn, 1) := by decide +kernel
set_option maxRecDepth 20000 in
theorem ggX7_sum_X7_isLook : GoodIn wsX7_sum wsX7_isLook := goodIn_r _ [6, 7, 8, 9, 5, 10, 49, 50, 51, 52, 53, 54, 55, 56, 57, 58, 59, 60, 61, 62, 63, 64, 65, 66, 67, 68, 69, 70, 71, 72, 73, 74, 75, 76] (by decide +kernel) (by decide +kernel)
set_option maxRecDepth 20000 in
theorem gX7_sum_X7_isLook : GoodIn wsX7_sum (wsV RX7 139 RX7 yX7_isLook wsX7_isLook) := goodIn_app (goodIn_of _ (by decide +kernel)) ggX7_sum_X7_isLook
set_option maxRecDepth 20000 in
theorem ggX7_sum_X7_isPlace : GoodIn wsX7_sum wsX7_isPlace := goodIn_r _ [13, 14, 15, 16, 8, 9, 5, 10] (by decide +kernel) (by decide +kernel)
set_option maxRecDepth 20000 in
theorem gX7_sum_X7_isPlace : GoodIn wsX7_sum (va_wsS RX7 110 yX7_isPlace wsX7_isPlace) := goodIn_app (goodIn_of _ (by decide +kernel)) ggX7_sum_X7_isPlace
set_option maxRecDepth 20000 in
theorem ggX7_sum_X7_sumOf : GoodIn wsX7_sum wsX7_sumOf := goodIn_r _ [20, 21, 22, 23, 24, 25, 5, 26, 27, 28, 29, 30, 31, 32, 33, 34, 35, 36, 37, 38, 39, 40, 41, 8, 9, 10, 42, 43, 44, 45, 46, 47, 48, 49, 50, 51, 52, 53, 54, 55, 56, 57, 58, 59, 60, 61, 62, 63, 64, 65, 66, 67, 68, 69, 70, 71, 72, 73, 74, 75, 76] (by decide +kernel) (by decide +kernel)
set_option maxRecDepth 20000 in
theorem gX7_sum_X7_sumOf : GoodIn wsX7_sum (wsV RX7 155 RX7 yX7_sumOf wsX7_sumOf) := goodIn_app (goodIn_of _ (by decide +kernel)) ggX7_sum_X7_sumOf
theorem dX7_sum_0 : decode cX7_sum 0 = .ok (.aload_n 0, 1) := by decide +kernel
theorem dX7_sum_1 : decode cX7_sum 1 = .ok (.iload_n 1, 1) := by decide +kernel
theorem dX7_sum_2 : decode cX7_sum 2 = .ok (.invokevirtual 139, 3) := by decide +kernel
theorem dX7_sum_5 : decode cX7_sum 5 = .ok (.ifCond .eq 22, 3) := by decide +kernel
theorem dX7_sum_8 : decode cX7_sum 8 = .ok (.iload_n 2, 1) := by decide +kernel
theorem dX7_sum_9 : decode cX7_sum 9 = .ok (.iload_n 3, 1) := by decide +kernel
theorem dX7_sum_10 : decode cX7_sum 10 = .ok (.invokestatic 110, 3) := by decide +kernel
theorem dX7_sum_13 : decode cX7_sum 13 = .ok (.ifCond .eq 14, 3) := by decide +kernel
theorem dX7_sum_16 : decode cX7_sum 16 = .ok (.aload_n 0, 1) := by decide +kernel
theorem dX7_sum_17 : decode cX7_sum 17 = .ok (.iload_n 1, 1) := by decide +kernel
theorem dX7_sum_18 : decode cX7_sum 18 = .ok (.iload_n 2, 1) := by decide +kernel
theorem dX7_sum_19 : decode cX7_sum 19 = .ok (.iload_n 3, 1) := by decide +kernel
theorem dX7_sum_20 : decode cX7_sum 20 = .ok (.invokevirtual 155, 3) := by decide +kernel
theorem dX7_sum_23 : decode cX7_sum 23 = .ok (.l2i, 1) := by decide +kernel
theorem dX7_sum_24 : decode cX7_sum 24 = .ok (.goto 5, 3) := by decide +kernel
theorem dX7_sum_27 : decode cX7_sum 27 = .ok (.ldc 159, 2) := by decide +kernel
theorem dX7_sum_29 : decode cX7_sum 29 = .ok (.ireturn, 1) := by decide +kernel
set_option maxRecDepth 20000 in
theorem ggX7_meanOf_X7_sumOf : GoodIn wsX7_meanOf wsX7_sumOf := goodIn_r _ [7, 8, 2, 9, 10, 11, 6, 12, 13, 14, 15, 16, 17, 18, 19, 20, 21, 22, 23, 24, 25, 26, 27, 28, 29, 30, 31, 32, 33, 34, 35, 36, 37, 38, 39, 40, 41, 42, 43, 44, 45, 46, 47, 48, 49, 50, 51, 52, 53, 54, 55, 56, 57, 58, 59, 60, 61, 62, 63, 64, 65] (by decide +kernel) (by decide +kernel)
set_option maxRecDepth 20000 in
theorem gX7_meanOf_X7_sumOf : GoodIn wsX7_meanOf (wsV RX7 155 RX7 yX7_sumOf wsX7_sumOf) := goodIn_app (goodIn_of _ (by decide +kernel)) ggX7_meanOf_X7_sumOf
set_option maxRecDepth 20000 in
theorem ggX7_meanOf_X7_weightOf : GoodIn wsX7_meanOf wsX7_weightOf := goodIn_r _ [34, 35, 13, 36, 37, 38, 39, 40, 41, 42, 43, 44, 45, 46, 47, 48, 49, 50, 51, 52, 53, 54, 55, 56, 57, 58, 59, 60, 61, 62, 63, 64, 65] (by decide +kernel) (by decide +kernel)
set_option maxRecDepth 20000 in
theorem gX7_meanOf_X7_weightOf : GoodIn wsX7_meanOf (wsV RX7 152 RX7 yX7_weightOf wsX7_weightOf) := goodIn_app (goodIn_of _ (by decide +kernel)) ggX7_meanOf_X7_weightOf
theorem dX7_meanOf_0 : decode cX7_meanOf 0 = .ok (.lconst 0, 1) := by decide +kernel
theorem dX7_meanOf_1 : decode cX7_meanOf 1 = .ok (.lstore 4, 2) := by decide +kernel
theorem dX7_meanOf_3 : decode cX7_meanOf 3 = .ok (.lconst 0, 1) := by decide +kernel
theorem dX7_meanOf_4 : decode cX7_meanOf 4 = .ok (.lstore 6, 2) := by decide +kernel
theorem dX7_meanOf_6 : decode cX7_meanOf 6 = .ok (.iconst 0, 1) := by decide +kernel
theorem dX7_meanOf_7 : decode cX7_meanOf 7 = .ok (.istore 8, 2) := by decide +kernel
theorem dX7_meanOf_9 : decode cX7_meanOf 9 = .ok (.iload 8, 2) := by decide +kernel
theorem dX7_meanOf_11 : decode cX7_meanOf 11 = .ok (.aload_n 0, 1) := by decide +kernel
theorem dX7_meanOf_12 : decode cX7_meanOf 12 = .ok (.getfield 87, 3) := by decide +kernel
theorem dX7_meanOf_15 : decode cX7_meanOf 15 = .ok (.if_icmp .ge 64, 3) := by decide +kernel
theorem dX7_meanOf_18 : decode cX7_meanOf 18 = .ok (.iload_n 1, 1) := by decide +kernel
theorem dX7_meanOf_19 : decode cX7_meanOf 19 = .ok (.iload 8, 2) := by decide +kernel
theorem dX7_meanOf_21 : decode cX7_meanOf 21 = .ok (.ishr, 1) := by decide +kernel
theorem dX7_meanOf_22 : decode cX7_meanOf 22 = .ok (.iconst 1, 1) := by decide +kernel
theorem dX7_meanOf_23 : decode cX7_meanOf 23 = .ok (.iand, 1) := by decide +kernel
theorem dX7_meanOf_24 : decode cX7_meanOf 24 = .ok (.iconst 1, 1) := by decide +kernel
theorem dX7_meanOf_25 : decode cX7_meanOf 25 = .ok (.if_icmp .ne 48, 3) := by decide +kernel
theorem dX7_meanOf_28 : decode cX7_meanOf 28 = .ok (.lload 4, 2) := by decide +kernel
theorem dX7_meanOf_30 : decode cX7_meanOf 30 = .ok (.aload_n 0, 1) := by decide +kernel
theorem dX7_meanOf_31 : decode cX7_meanOf 31 = .ok (.iload 8, 2) := by decide +kernel
theorem dX7_meanOf_33 : decode cX7_meanOf 33 = .ok (.iload_n 2, 1) := by decide +kernel
theorem dX7_meanOf_34 : decode cX7_meanOf 34 = .ok (.iload_n 3, 1) := by decide +kernel
theorem dX7_meanOf_35 : decode cX7_meanOf 35 = .ok (.invokevirtual 155, 3) := by decide +kernel
theorem dX7_meanOf_38 : decode cX7_meanOf 38 = .ok (.ladd, 1) := by decide +kernel
theorem dX7_meanOf_39 : decode cX7_meanOf 39 = .ok (.lstore 4, 2) := by decide +kernel
theorem dX7_meanOf_41 : decode cX7_meanOf 41 = .ok (.iconst 0, 1) := by decide +kernel
theorem dX7_meanOf_42 : decode cX7_meanOf 42 = .ok (.istore 9, 2) := by decide +kernel
theorem dX7_meanOf_44 : decode cX7_meanOf 44 = .ok (.iload 9, 2) := by decide +kernel
theorem dX7_meanOf_46 : decode cX7_meanOf 46 = .ok (.aload_n 0, 1) := by decide +kernel
theorem dX7_meanOf_47 : decode cX7_meanOf 47 = .ok (.getfield 19, 3) := by decide +kernel
theorem dX7_meanOf_50 : decode cX7_meanOf 50 = .ok (.if_icmp .ge 23, 3) := by decide +kernel
theorem dX7_meanOf_53 : decode cX7_meanOf 53 = .ok (.lload 6, 2) := by decide +kernel
theorem dX7_meanOf_55 : decode cX7_meanOf 55 = .ok (.aload_n 0, 1) := by decide +kernel
theorem dX7_meanOf_56 : decode cX7_meanOf 56 = .ok (.iload 9, 2) := by decide +kernel
theorem dX7_meanOf_58 : decode cX7_meanOf 58 = .ok (.iload_n 2, 1) := by decide +kernel
theorem dX7_meanOf_59 : decode cX7_meanOf 59 = .ok (.iload_n 3, 1) := by decide +kernel
theorem dX7_meanOf_60 : decode cX7_meanOf 60 = .ok (.invokevirtual 152, 3) := by decide +kernel
theorem dX7_meanOf_63 : decode cX7_meanOf 63 = .ok (.i2l, 1) := by decide +kernel
theorem dX7_meanOf_64 : decode cX7_meanOf 64 = .ok (.ladd, 1) := by decide +kernel
theorem dX7_meanOf_65 : decode cX7_meanOf 65 = .ok (.lstore 6, 2) := by decide +kernel
theorem dX7_meanOf_67 : decode cX7_meanOf 67 = .ok (.iinc 9 1, 3) := by decide +kernel
theorem dX7_meanOf_70 : decode cX7_meanOf 70 = .ok (.goto (-26), 3) := by decide +kernel
theorem dX7_meanOf_73 : decode cX7_meanOf 73 = .ok (.iinc 8 1, 3) := by decide +kernel
theorem dX7_meanOf_76 : decode cX7_meanOf 76 = .ok (.goto (-67), 3) := by decide +kernel
theorem dX7_meanOf_79 : decode cX7_meanOf 79 = .ok (.lload 6, 2) := by decide +kernel
theorem dX7_meanOf_81 : decode cX7_meanOf 81 = .ok (.lconst 0, 1) := by decide +kernel
theorem dX7_meanOf_82 : decode cX7_meanOf 82 = .ok (.lcmp, 1) := by decide +kernel
theorem dX7_meanOf_83 : decode cX7_meanOf 83 = .ok (.ifCond .ne 7, 3) := by decide +kernel
theorem dX7_meanOf_86 : decode cX7_meanOf 86 = .ok (.iconst 0, 1) := by decide +kernel
theorem dX7_meanOf_87 : decode cX7_meanOf 87 = .ok (.goto 9, 3) := by decide +kernel
theorem dX7_meanOf_90 : decode cX7_meanOf 90 = .ok (.lload 4, 2) := by decide +kernel
theorem dX7_meanOf_92 : decode cX7_meanOf 92 = .ok (.lload 6, 2) := by decide +kernel
theorem dX7_meanOf_94 : decode cX7_meanOf 94 = .ok (.ldiv, 1) := by decide +kernel
theorem dX7_meanOf_95 : decode cX7_meanOf 95 = .ok (.l2i, 1) := by decide +kernel
theorem dX7_meanOf_96 : decode cX7_meanOf 96 = .ok (.ireturn, 1) := by decide +kernel
theorem dX7_areLooks_0 : decode cX7_areLooks 0 = .ok (.iload_n 1, 1) := by decide +kernel
theorem dX7_areLooks_1 : decode cX7_areLooks 1 = .ok (.ifCond .le 17, 3) := by decide +kernel
theorem dX7_areLooks_4 : decode cX7_areLooks 4 = .ok (.iload_n 1, 1) := by decide +kernel
theorem dX7_areLooks_5 : decode cX7_areLooks 5 = .ok (.iconst 1, 1) := by decide +kernel
theorem dX7_areLooks_6 : decode cX7_areLooks 6 = .ok (.aload_n 0, 1) := by decide +kernel
theorem dX7_areLooks_7 : decode cX7_areLooks 7 = .ok (.getfield 87, 3) := by decide +kernel
theorem dX7_areLooks_10 : decode cX7_areLooks 10 = .ok (.ishl, 1) := by decide +kernel
theorem dX7_areLooks_11 : decode cX7_areLooks 11 = .ok (.if_icmp .ge 7, 3) := by decide +kernel
theorem dX7_areLooks_14 : decode cX7_areLooks 14 = .ok (.iconst 1, 1) := by decide +kernel
theorem dX7_areLooks_15 : decode cX7_areLooks 15 = .ok (.goto 4, 3) := by decide +kernel
theorem dX7_areLooks_18 : decode cX7_areLooks 18 = .ok (.iconst 0, 1) := by decide +kernel
theorem dX7_areLooks_19 : decode cX7_areLooks 19 = .ok (.ireturn, 1) := by decide +kernel
set_option maxRecDepth 20000 in
theorem ggX7_mean_X7_areLooks : GoodIn wsX7_mean wsX7_areLooks := goodIn_r _ [6, 7, 53, 54, 55, 56, 57, 58, 59, 60, 61, 62, 63, 64, 65, 66, 67, 68, 69, 70, 71, 72, 73, 74, 75, 76, 77, 78, 79, 80] (by decide +kernel) (by decide +kernel)
set_option maxRecDepth 20000 in
theorem gX7_mean_X7_areLooks : GoodIn wsX7_mean (wsV RX7 160 RX7 yX7_areLooks wsX7_areLooks) := goodIn_app (goodIn_of _ (by decide +kernel)) ggX7_mean_X7_areLooks
set_option maxRecDepth 20000 in
theorem ggX7_mean_X7_isPlace : GoodIn wsX7_mean wsX7_isPlace := goodIn_r _ [10, 11, 12, 13, 14, 15, 5, 16] (by decide +kernel) (by decide +kernel)
set_option maxRecDepth 20000 in
theorem gX7_mean_X7_isPlace : GoodIn wsX7_mean (va_wsS RX7 110 yX7_isPlace wsX7_isPlace) := goodIn_app (goodIn_of _ (by decide +kernel)) ggX7_mean_X7_isPlace
set_option maxRecDepth 20000 in
theorem ggX7_mean_X7_meanOf : GoodIn wsX7_mean wsX7_meanOf := goodIn_r _ [20, 7, 21, 22, 23, 24, 5, 25, 26, 27, 28, 29, 30, 31, 32, 33, 34, 35, 36, 37, 38, 39, 40, 41, 42, 43, 44, 45, 14, 15, 16, 46, 47, 48, 49, 50, 51, 52, 53, 54, 55, 56, 57, 58, 59, 60, 61, 62, 63, 64, 65, 66, 67, 68, 69, 70, 71, 72, 73, 74, 75, 76, 77, 78, 79, 80] (by decide +kernel) (by decide +kernel)
set_option maxRecDepth 20000 in
theorem gX7_mean_X7_meanOf : GoodIn wsX7_mean (wsV RX7 163 RX7 yX7_meanOf wsX7_meanOf) := goodIn_app (goodIn_of _ (by decide +kernel)) ggX7_mean_X7_meanOf
theorem dX7_mean_0 : decode cX7_mean 0 = .ok (.aload_n 0, 1) := by decide +kernel
theorem dX7_mean_1 : decode cX7_mean 1 = .ok (.iload_n 1, 1) := by decide +kernel
theorem dX7_mean_2 : decode cX7_mean 2 = .ok (.invokevirtual 160, 3) := by decide +kernel
theorem dX7_mean_5 : decode cX7_mean 5 = .ok (.ifCond .eq 21, 3) := by decide +kernel
theorem dX7_mean_8 : decode cX7_mean 8 = .ok (.iload_n 2, 1) := by decide +kernel
theorem dX7_mean_9 : decode cX7_mean 9 = .ok (.iload_n 3, 1) := by decide +kernel
theorem dX7_mean_10 : decode cX7_mean 10 = .ok (.invokestatic 110, 3) := by decide +kernel
theorem dX7_mean_13 : decode cX7_mean 13 = .ok (.ifCond .eq 13, 3) := by decide +kernel
theorem dX7_mean_16 : decode cX7_mean 16 = .ok (.aload_n 0, 1) := by decide +kernel
theorem dX7_mean_17 : decode cX7_mean 17 = .ok (.iload_n 1, 1) := by decide +kernel
theorem dX7_mean_18 : decode cX7_mean 18 = .ok (.iload_n 2, 1) := by decide +kernel
theorem dX7_mean_19 : decode cX7_mean 19 = .ok (.iload_n 3, 1) := by decide +kernel
theorem dX7_mean_20 : decode cX7_mean 20 = .ok (.invokevirtual 163, 3) := by decide +kernel
theorem dX7_mean_23 : decode cX7_mean 23 = .ok (.goto 5, 3) := by decide +kernel
theorem dX7_mean_26 : decode cX7_mean 26 = .ok (.ldc 159, 2) := by decide +kernel
theorem dX7_mean_28 : decode cX7_mean 28 = .ok (.ireturn, 1) := by decide +kernel
theorem dX7_next_0 : decode cX7_next 0 = .ok (.aload_n 0, 1) := by decide +kernel
theorem dX7_next_1 : decode cX7_next 1 = .ok (.getfield 90, 3) := by decide +kernel
theorem dX7_next_4 : decode cX7_next 4 = .ok (.iconst 4, 1) := by decide +kernel
theorem dX7_next_5 : decode cX7_next 5 = .ok (.if_icmp .ne 87, 3) := by decide +kernel
theorem dX7_next_8 : decode cX7_next 8 = .ok (.sipush 256, 3) := by decide +kernel
theorem dX7_next_11 : decode cX7_next 11 = .ok (.istore_n 1, 1) := by decide +kernel
theorem dX7_next_12 : decode cX7_next 12 = .ok (.iload_n 1, 1) := by decide +kernel
theorem dX7_next_13 : decode cX7_next 13 = .ok (.sipush 1024, 3) := by decide +kernel
theorem dX7_next_16 : decode cX7_next 16 = .ok (.if_icmp .ge 25, 3) := by decide +kernel
theorem dX7_next_19 : decode cX7_next 19 = .ok (.aload_n 0, 1) := by decide +kernel
theorem dX7_next_20 : decode cX7_next 20 = .ok (.getfield 72, 3) := by decide +kernel
theorem dX7_next_23 : decode cX7_next 23 = .ok (.iload_n 1, 1) := by decide +kernel
theorem dX7_next_24 : decode cX7_next 24 = .ok (.sipush 256, 3) := by decide +kernel
theorem dX7_next_27 : decode cX7_next 27 = .ok (.isub, 1) := by decide +kernel
theorem dX7_next_28 : decode cX7_next 28 = .ok (.aload_n 0, 1) := by decide +kernel
theorem dX7_next_29 : decode cX7_next 29 = .ok (.getfield 72, 3) := by decide +kernel
theorem dX7_next_32 : decode cX7_next 32 = .ok (.iload_n 1, 1) := by decide +kernel
theorem dX7_next_33 : decode cX7_next 33 = .ok (.iaload, 1) := by decide +kernel
theorem dX7_next_34 : decode cX7_next 34 = .ok (.iastore, 1) := by decide +kernel
theorem dX7_next_35 : decode cX7_next 35 = .ok (.iinc 1 1, 3) := by decide +kernel
theorem dX7_next_38 : decode cX7_next 38 = .ok (.goto (-26), 3) := by decide +kernel
theorem dX7_next_41 : decode cX7_next 41 = .ok (.iconst 1, 1) := by decide +kernel
theorem dX7_next_42 : decode cX7_next 42 = .ok (.istore_n 1, 1) := by decide +kernel
theorem dX7_next_43 : decode cX7_next 43 = .ok (.iload_n 1, 1) := by decide +kernel
theorem dX7_next_44 : decode cX7_next 44 = .ok (.iconst 4, 1) := by decide +kernel
theorem dX7_next_45 : decode cX7_next 45 = .ok (.if_icmp .ge 37, 3) := by decide +kernel
theorem dX7_next_48 : decode cX7_next 48 = .ok (.aload_n 0, 1) := by decide +kernel
theorem dX7_next_49 : decode cX7_next 49 = .ok (.getfield 66, 3) := by decide +kernel
theorem dX7_next_52 : decode cX7_next 52 = .ok (.iload_n 1, 1) := by decide +kernel
theorem dX7_next_53 : decode cX7_next 53 = .ok (.iconst 1, 1) := by decide +kernel
theorem dX7_next_54 : decode cX7_next 54 = .ok (.isub, 1) := by decide +kernel
theorem dX7_next_55 : decode cX7_next 55 = .ok (.aload_n 0, 1) := by decide +kernel
theorem dX7_next_56 : decode cX7_next 56 = .ok (.getfield 66, 3) := by decide +kernel
theorem dX7_next_59 : decode cX7_next 59 = .ok (.iload_n 1, 1) := by decide +kernel
theorem dX7_next_60 : decode cX7_next 60 = .ok (.iaload, 1) := by decide +kernel
theorem dX7_next_61 : decode cX7_next 61 = .ok (.iastore, 1) := by decide +kernel
theorem dX7_next_62 : decode cX7_next 62 = .ok (.aload_n 0, 1) := by decide +kernel
theorem dX7_next_63 : decode cX7_next 63 = .ok (.getfield 69, 3) := by decide +kernel
theorem dX7_next_66 : decode cX7_next 66 = .ok (.iload_n 1, 1) := by decide +kernel
theorem dX7_next_67 : decode cX7_next 67 = .ok (.iconst 1, 1) := by decide +kernel
theorem dX7_next_68 : decode cX7_next 68 = .ok (.isub, 1) := by decide +kernel
theorem dX7_next_69 : decode cX7_next 69 = .ok (.aload_n 0, 1) := by decide +kernel
theorem dX7_next_70 : decode cX7_next 70 = .ok (.getfield 69, 3) := by decide +kernel
theorem dX7_next_73 : decode cX7_next 73 = .ok (.iload_n 1, 1) := by decide +kernel
theorem dX7_next_74 : decode cX7_next 74 = .ok (.iaload, 1) := by decide +kernel
theorem dX7_next_75 : decode cX7_next 75 = .ok (.iastore, 1) := by decide +kernel
theorem dX7_next_76 : decode cX7_next 76 = .ok (.iinc 1 1, 3) := by decide +kernel
theorem dX7_next_79 : decode cX7_next 79 = .ok (.goto (-36), 3) := by decide +kernel
theorem dX7_next_82 : decode cX7_next 82 = .ok (.aload_n 0, 1) := by decide +kernel
theorem dX7_next_83 : decode cX7_next 83 = .ok (.dup, 1) := by decide +kernel
theorem dX7_next_84 : decode cX7_next 84 = .ok (.getfield 90, 3) := by decide +kernel
theorem dX7_next_87 : decode cX7_next 87 = .ok (.iconst 1, 1) := by decide +kernel
theorem dX7_next_88 : decode cX7_next 88 = .ok (.isub, 1) := by decide +kernel
theorem dX7_next_89 : decode cX7_next 89 = .ok (.putfield 90, 3) := by decide +kernel
theorem dX7_next_92 : decode cX7_next 92 = .ok (.aload_n 0, 1) := by decide +kernel
theorem dX7_next_93 : decode cX7_next 93 = .ok (.dup, 1) := by decide +kernel
theorem dX7_next_94 : decode cX7_next 94 = .ok (.getfield 90, 3) := by decide +kernel
theorem dX7_next_97 : decode cX7_next 97 = .ok (.iconst 1, 1) := by decide +kernel
theorem dX7_next_98 : decode cX7_next 98 = .ok (.iadd, 1) := by decide +kernel
theorem dX7_next_99 : decode cX7_next 99 = .ok (.putfield 90, 3) := by decide +kernel
theorem dX7_next_102 : decode cX7_next 102 = .ok (.aload_n 0, 1) := by decide +kernel
theorem dX7_next_103 : decode cX7_next 103 = .ok (.getfield 90, 3) := by decide +kernel
theorem dX7_next_106 : decode cX7_next 106 = .ok (.iconst 1, 1) := by decide +kernel
theorem dX7_next_107 : decode cX7_next 107 = .ok (.isub, 1) := by decide +kernel
theorem dX7_next_108 : decode cX7_next 108 = .ok (.ireturn, 1) := by decide +kernel
set_option maxRecDepth 20000 in
theorem ggX7_picture_X7_areLooks : GoodIn wsX7_picture wsX7_areLooks := goodIn_r _ [11, 12, 62, 63, 64, 65, 66, 67, 68, 69, 70, 71, 72, 73, 74, 75, 76, 77, 78, 79, 80, 81, 82, 83, 84, 85, 86, 87, 88, 89] (by decide +kernel) (by decide +kernel)
set_option maxRecDepth 20000 in
theorem gX7_picture_X7_areLooks : GoodIn wsX7_picture (wsV RX7 160 RX7 yX7_areLooks wsX7_areLooks) := goodIn_app (goodIn_of _ (by decide +kernel)) ggX7_picture_X7_areLooks
set_option maxRecDepth 20000 in
theorem ggX7_picture_X7_isPlace : GoodIn wsX7_picture wsX7_isPlace := goodIn_r _ [15, 16, 17, 18, 19, 20, 10, 21] (by decide +kernel) (by decide +kernel)
set_option maxRecDepth 20000 in
theorem gX7_picture_X7_isPlace : GoodIn wsX7_picture (va_wsS RX7 110 yX7_isPlace wsX7_isPlace) := goodIn_app (goodIn_of _ (by decide +kernel)) ggX7_picture_X7_isPlace
set_option maxRecDepth 20000 in
theorem ggX7_picture_X7_in : GoodIn wsX7_picture wsX7_in := goodIn_r _ [21] (by decide +kernel) (by decide +kernel)
set_option maxRecDepth 20000 in
theorem gX7_picture_X7_in : GoodIn wsX7_picture (va_wsS RX7 7 yX7_in wsX7_in) := goodIn_app (goodIn_of _ (by decide +kernel)) ggX7_picture_X7_in
set_option maxRecDepth 20000 in
theorem ggX7_picture_X7_next : GoodIn wsX7_picture wsX7_next := goodIn_r _ [25, 6, 5, 3, 4, 62, 63, 64, 65, 66, 67, 68, 69, 70, 71, 72, 73, 74, 75, 76, 77, 78, 79, 80, 81, 82, 83, 84, 85, 86, 87, 88, 89] (by decide +kernel) (by decide +kernel)
set_option maxRecDepth 20000 in
theorem gX7_picture_X7_next : GoodIn wsX7_picture (wsV RX7 168 RX7 yX7_next wsX7_next) := goodIn_app (goodIn_of _ (by decide +kernel)) ggX7_picture_X7_next
set_option maxRecDepth 20000 in
theorem ggX7_picture_X7_meanOf : GoodIn wsX7_picture wsX7_meanOf := goodIn_r _ [29, 12, 30, 31, 32, 33, 10, 34, 35, 36, 37, 38, 39, 40, 41, 42, 43, 44, 45, 46, 47, 48, 49, 50, 51, 52, 53, 54, 19, 20, 21, 55, 56, 57, 58, 59, 60, 61, 62, 63, 64, 65, 66, 67, 68, 69, 70, 71, 72, 73, 74, 75, 76, 77, 78, 79, 80, 81, 82, 83, 84, 85, 86, 87, 88, 89] (by decide +kernel) (by decide +kernel)
set_option maxRecDepth 20000 in
theorem gX7_picture_X7_meanOf : GoodIn wsX7_picture (wsV RX7 163 RX7 yX7_meanOf wsX7_meanOf) := goodIn_app (goodIn_of _ (by decide +kernel)) ggX7_picture_X7_meanOf
theorem dX7_picture_0 : decode cX7_picture 0 = .ok (.aload_n 0, 1) := by decide +kernel
theorem dX7_picture_1 : decode cX7_picture 1 = .ok (.iload_n 1, 1) := by decide +kernel
theorem dX7_picture_2 : decode cX7_picture 2 = .ok (.invokevirtual 160, 3) := by decide +kernel
theorem dX7_picture_5 : decode cX7_picture 5 = .ok (.ifCond .eq 63, 3) := by decide +kernel
theorem dX7_picture_8 : decode cX7_picture 8 = .ok (.iload_n 2, 1) := by decide +kernel
theorem dX7_picture_9 : decode cX7_picture 9 = .ok (.iload_n 3, 1) := by decide +kernel
theorem dX7_picture_10 : decode cX7_picture 10 = .ok (.invokestatic 110, 3) := by decide +kernel
theorem dX7_picture_13 : decode cX7_picture 13 = .ok (.ifCond .eq 55, 3) := by decide +kernel
theorem dX7_picture_16 : decode cX7_picture 16 = .ok (.iload 4, 2) := by decide +kernel
theorem dX7_picture_18 : decode cX7_picture 18 = .ok (.i2l, 1) := by decide +kernel
theorem dX7_picture_19 : decode cX7_picture 19 = .ok (.lconst 1, 1) := by decide +kernel
theorem dX7_picture_20 : decode cX7_picture 20 = .ok (.ldc2_w 166, 3) := by decide +kernel
theorem dX7_picture_23 : decode cX7_picture 23 = .ok (.invokestatic 7, 3) := by decide +kernel
theorem dX7_picture_26 : decode cX7_picture 26 = .ok (.ifCond .eq 42, 3) := by decide +kernel
theorem dX7_picture_29 : decode cX7_picture 29 = .ok (.iload 5, 2) := by decide +kernel
theorem dX7_picture_31 : decode cX7_picture 31 = .ok (.i2l, 1) := by decide +kernel
theorem dX7_picture_32 : decode cX7_picture 32 = .ok (.lconst 1, 1) := by decide +kernel
theorem dX7_picture_33 : decode cX7_picture 33 = .ok (.ldc2_w 166, 3) := by decide +kernel
theorem dX7_picture_36 : decode cX7_picture 36 = .ok (.invokestatic 7, 3) := by decide +kernel
theorem dX7_picture_39 : decode cX7_picture 39 = .ok (.ifCond .eq 29, 3) := by decide +kernel
theorem dX7_picture_42 : decode cX7_picture 42 = .ok (.iload 6, 2) := by decide +kernel
theorem dX7_picture_44 : decode cX7_picture 44 = .ok (.i2l, 1) := by decide +kernel
theorem dX7_picture_45 : decode cX7_picture 45 = .ok (.lconst 1, 1) := by decide +kernel
theorem dX7_picture_46 : decode cX7_picture 46 = .ok (.ldc2_w 83, 3) := by decide +kernel
theorem dX7_picture_49 : decode cX7_picture 49 = .ok (.invokestatic 7, 3) := by decide +kernel
theorem dX7_picture_52 : decode cX7_picture 52 = .ok (.ifCond .eq 16, 3) := by decide +kernel
theorem dX7_picture_55 : decode cX7_picture 55 = .ok (.iload 7, 2) := by decide +kernel
theorem dX7_picture_57 : decode cX7_picture 57 = .ok (.i2l, 1) := by decide +kernel
theorem dX7_picture_58 : decode cX7_picture 58 = .ok (.lconst 1, 1) := by decide +kernel
theorem dX7_picture_59 : decode cX7_picture 59 = .ok (.ldc2_w 83, 3) := by decide +kernel
theorem dX7_picture_62 : decode cX7_picture 62 = .ok (.invokestatic 7, 3) := by decide +kernel
theorem dX7_picture_65 : decode cX7_picture 65 = .ok (.ifCond .ne 6, 3) := by decide +kernel
theorem dX7_picture_68 : decode cX7_picture 68 = .ok (.bipush (-2), 2) := by decide +kernel
theorem dX7_picture_70 : decode cX7_picture 70 = .ok (.ireturn, 1) := by decide +kernel
theorem dX7_picture_71 : decode cX7_picture 71 = .ok (.aload_n 0, 1) := by decide +kernel
theorem dX7_picture_72 : decode cX7_picture 72 = .ok (.invokevirtual 168, 3) := by decide +kernel
theorem dX7_picture_75 : decode cX7_picture 75 = .ok (.istore 8, 2) := by decide +kernel
theorem dX7_picture_77 : decode cX7_picture 77 = .ok (.aload_n 0, 1) := by decide +kernel
theorem dX7_picture_78 : decode cX7_picture 78 = .ok (.getfield 66, 3) := by decide +kernel
theorem dX7_picture_81 : decode cX7_picture 81 = .ok (.iload 8, 2) := by decide +kernel
theorem dX7_picture_83 : decode cX7_picture 83 = .ok (.iload 6, 2) := by decide +kernel
theorem dX7_picture_85 : decode cX7_picture 85 = .ok (.iastore, 1) := by decide +kernel
theorem dX7_picture_86 : decode cX7_picture 86 = .ok (.aload_n 0, 1) := by decide +kernel
theorem dX7_picture_87 : decode cX7_picture 87 = .ok (.getfield 69, 3) := by decide +kernel
theorem dX7_picture_90 : decode cX7_picture 90 = .ok (.iload 8, 2) := by decide +kernel
theorem dX7_picture_92 : decode cX7_picture 92 = .ok (.iload 7, 2) := by decide +kernel
theorem dX7_picture_94 : decode cX7_picture 94 = .ok (.iastore, 1) := by decide +kernel
theorem dX7_picture_95 : decode cX7_picture 95 = .ok (.iconst 0, 1) := by decide +kernel
theorem dX7_picture_96 : decode cX7_picture 96 = .ok (.istore 9, 2) := by decide +kernel
theorem dX7_picture_98 : decode cX7_picture 98 = .ok (.iload 9, 2) := by decide +kernel
theorem dX7_picture_100 : decode cX7_picture 100 = .ok (.iload 7, 2) := by decide +kernel
theorem dX7_picture_102 : decode cX7_picture 102 = .ok (.if_icmp .ge 86, 3) := by decide +kernel
theorem dX7_picture_105 : decode cX7_picture 105 = .ok (.iconst 0, 1) := by decide +kernel
theorem dX7_picture_106 : decode cX7_picture 106 = .ok (.istore 10, 2) := by decide +kernel
theorem dX7_picture_108 : decode cX7_picture 108 = .ok (.iload 10, 2) := by decide +kernel
theorem dX7_picture_110 : decode cX7_picture 110 = .ok (.iload 6, 2) := by decide +kernel
theorem dX7_picture_112 : decode cX7_picture 112 = .ok (.if_icmp .ge 70, 3) := by decide +kernel
theorem dX7_picture_115 : decode cX7_picture 115 = .ok (.iload_n 2, 1) := by decide +kernel
theorem dX7_picture_116 : decode cX7_picture 116 = .ok (.iload 10, 2) := by decide +kernel
theorem dX7_picture_118 : decode cX7_picture 118 = .ok (.iload 4, 2) := by decide +kernel
theorem dX7_picture_120 : decode cX7_picture 120 = .ok (.imul, 1) := by decide +kernel
theorem dX7_picture_121 : decode cX7_picture 121 = .ok (.iadd, 1) := by decide +kernel
theorem dX7_picture_122 : decode cX7_picture 122 = .ok (.istore 11, 2) := by decide +kernel
theorem dX7_picture_124 : decode cX7_picture 124 = .ok (.iload_n 3, 1) := by decide +kernel
theorem dX7_picture_125 : decode cX7_picture 125 = .ok (.iload 9, 2) := by decide +kernel
theorem dX7_picture_127 : decode cX7_picture 127 = .ok (.iload 5, 2) := by decide +kernel
theorem dX7_picture_129 : decode cX7_picture 129 = .ok (.imul, 1) := by decide +kernel
theorem dX7_picture_130 : decode cX7_picture 130 = .ok (.iadd, 1) := by decide +kernel
theorem dX7_picture_131 : decode cX7_picture 131 = .ok (.istore 12, 2) := by decide +kernel
theorem dX7_picture_133 : decode cX7_picture 133 = .ok (.aload_n 0, 1) := by decide +kernel
theorem dX7_picture_134 : decode cX7_picture 134 = .ok (.getfield 72, 3) := by decide +kernel
theorem dX7_picture_137 : decode cX7_picture 137 = .ok (.sipush 256, 3) := by decide +kernel
theorem dX7_picture_140 : decode cX7_picture 140 = .ok (.iload 8, 2) := by decide +kernel
theorem dX7_picture_142 : decode cX7_picture 142 = .ok (.imul, 1) := by decide +kernel
theorem dX7_picture_143 : decode cX7_picture 143 = .ok (.iload 10, 2) := by decide +kernel
theorem dX7_picture_145 : decode cX7_picture 145 = .ok (.iadd, 1) := by decide +kernel
theorem dX7_picture_146 : decode cX7_picture 146 = .ok (.iload 6, 2) := by decide +kernel
theorem dX7_picture_148 : decode cX7_picture 148 = .ok (.iload 9, 2) := by decide +kernel
theorem dX7_picture_150 : decode cX7_picture 150 = .ok (.imul, 1) := by decide +kernel
theorem dX7_picture_151 : decode cX7_picture 151 = .ok (.iadd, 1) := by decide +kernel
theorem dX7_picture_152 : decode cX7_picture 152 = .ok (.iload 11, 2) := by decide +kernel
theorem dX7_picture_154 : decode cX7_picture 154 = .ok (.iload 12, 2) := by decide +kernel
theorem dX7_picture_156 : decode cX7_picture 156 = .ok (.invokestatic 110, 3) := by decide +kernel
theorem dX7_picture_159 : decode cX7_picture 159 = .ok (.ifCond .eq 15, 3) := by decide +kernel
theorem dX7_picture_162 : decode cX7_picture 162 = .ok (.aload_n 0, 1) := by decide +kernel
theorem dX7_picture_163 : decode cX7_picture 163 = .ok (.iload_n 1, 1) := by decide +kernel
theorem dX7_picture_164 : decode cX7_picture 164 = .ok (.iload 11, 2) := by decide +kernel
theorem dX7_picture_166 : decode cX7_picture 166 = .ok (.iload 12, 2) := by decide +kernel
theorem dX7_picture_168 : decode cX7_picture 168 = .ok (.invokevirtual 163, 3) := by decide +kernel
theorem dX7_picture_171 : decode cX7_picture 171 = .ok (.goto 4, 3) := by decide +kernel
theorem dX7_picture_174 : decode cX7_picture 174 = .ok (.iconst 0, 1) := by decide +kernel
theorem dX7_picture_175 : decode cX7_picture 175 = .ok (.iastore, 1) := by decide +kernel
theorem dX7_picture_176 : decode cX7_picture 176 = .ok (.iinc 10 1, 3) := by decide +kernel
theorem dX7_picture_179 : decode cX7_picture 179 = .ok (.goto (-71), 3) := by decide +kernel
theorem dX7_picture_182 : decode cX7_picture 182 = .ok (.iinc 9 1, 3) := by decide +kernel
theorem dX7_picture_185 : decode cX7_picture 185 = .ok (.goto (-87), 3) := by decide +kernel
theorem dX7_picture_188 : decode cX7_picture 188 = .ok (.aload_n 0, 1) := by decide +kernel
theorem dX7_picture_189 : decode cX7_picture 189 = .ok (.getfield 90, 3) := by decide +kernel
theorem dX7_picture_192 : decode cX7_picture 192 = .ok (.ireturn, 1) := by decide +kernel
set_option maxRecDepth 20000 in
theorem ggX7_isPicture_X7_in : GoodIn wsX7_isPicture wsX7_in := goodIn_r _ [5] (by decide +kernel) (by decide +kernel)
set_option maxRecDepth 20000 in
theorem gX7_isPicture_X7_in : GoodIn wsX7_isPicture (va_wsS RX7 7 yX7_in wsX7_in) := goodIn_app (goodIn_of _ (by decide +kernel)) ggX7_isPicture_X7_in
theorem dX7_isPicture_0 : decode cX7_isPicture 0 = .ok (.iload_n 1, 1) := by decide +kernel
theorem dX7_isPicture_1 : decode cX7_isPicture 1 = .ok (.i2l, 1) := by decide +kernel
theorem dX7_isPicture_2 : decode cX7_isPicture 2 = .ok (.lconst 0, 1) := by decide +kernel
theorem dX7_isPicture_3 : decode cX7_isPicture 3 = .ok (.aload_n 0, 1) := by decide +kernel
theorem dX7_isPicture_4 : decode cX7_isPicture 4 = .ok (.getfield 90, 3) := by decide +kernel
theorem dX7_isPicture_7 : decode cX7_isPicture 7 = .ok (.iconst 1, 1) := by decide +kernel
theorem dX7_isPicture_8 : decode cX7_isPicture 8 = .ok (.isub, 1) := by decide +kernel
theorem dX7_isPicture_9 : decode cX7_isPicture 9 = .ok (.i2l, 1) := by decide +kernel
theorem dX7_isPicture_10 : decode cX7_isPicture 10 = .ok (.invokestatic 7, 3) := by decide +kernel
theorem dX7_isPicture_13 : decode cX7_isPicture 13 = .ok (.ireturn, 1) := by decide +kernel
set_option maxRecDepth 20000 in
theorem ggX7_pixel_X7_isPicture : GoodIn wsX7_pixel wsX7_isPicture := goodIn_r _ [9, 10, 11, 12, 8, 13, 14, 15, 16, 17, 18, 19, 20, 21, 22, 23, 24, 25, 26, 27, 28, 29, 30, 31, 32, 33, 34, 35, 36, 37, 38, 39, 40, 41] (by decide +kernel) (by decide +kernel)
set_option maxRecDepth 20000 in
theorem gX7_pixel_X7_isPicture : GoodIn wsX7_pixel (wsV RX7 171 RX7 yX7_isPicture wsX7_isPicture) := goodIn_app (goodIn_of _ (by decide +kernel)) ggX7_pixel_X7_isPicture
set_option maxRecDepth 20000 in
theorem ggX7_pixel_X7_in : GoodIn wsX7_pixel wsX7_in := goodIn_r _ [13] (by decide +kernel) (by decide +kernel)
set_option maxRecDepth 20000 in
theorem gX7_pixel_X7_in : GoodIn wsX7_pixel (va_wsS RX7 7 yX7_in wsX7_in) := goodIn_app (goodIn_of _ (by decide +kernel)) ggX7_pixel_X7_in
theorem dX7_pixel_0 : decode cX7_pixel 0 = .ok (.aload_n 0, 1) := by decide +kernel
theorem dX7_pixel_1 : decode cX7_pixel 1 = .ok (.iload_n 1, 1) := by decide +kernel
theorem dX7_pixel_2 : decode cX7_pixel 2 = .ok (.invokevirtual 171, 3) := by decide +kernel
theorem dX7_pixel_5 : decode cX7_pixel 5 = .ok (.ifCond .eq 63, 3) := by decide +kernel
theorem dX7_pixel_8 : decode cX7_pixel 8 = .ok (.iload_n 2, 1) := by decide +kernel
theorem dX7_pixel_9 : decode cX7_pixel 9 = .ok (.i2l, 1) := by decide +kernel
theorem dX7_pixel_10 : decode cX7_pixel 10 = .ok (.lconst 0, 1) := by decide +kernel
theorem dX7_pixel_11 : decode cX7_pixel 11 = .ok (.aload_n 0, 1) := by decide +kernel
theorem dX7_pixel_12 : decode cX7_pixel 12 = .ok (.getfield 66, 3) := by decide +kernel
theorem dX7_pixel_15 : decode cX7_pixel 15 = .ok (.iload_n 1, 1) := by decide +kernel
theorem dX7_pixel_16 : decode cX7_pixel 16 = .ok (.iaload, 1) := by decide +kernel
theorem dX7_pixel_17 : decode cX7_pixel 17 = .ok (.iconst 1, 1) := by decide +kernel
theorem dX7_pixel_18 : decode cX7_pixel 18 = .ok (.isub, 1) := by decide +kernel
theorem dX7_pixel_19 : decode cX7_pixel 19 = .ok (.i2l, 1) := by decide +kernel
theorem dX7_pixel_20 : decode cX7_pixel 20 = .ok (.invokestatic 7, 3) := by decide +kernel
theorem dX7_pixel_23 : decode cX7_pixel 23 = .ok (.ifCond .eq 45, 3) := by decide +kernel
theorem dX7_pixel_26 : decode cX7_pixel 26 = .ok (.iload_n 3, 1) := by decide +kernel
theorem dX7_pixel_27 : decode cX7_pixel 27 = .ok (.i2l, 1) := by decide +kernel
theorem dX7_pixel_28 : decode cX7_pixel 28 = .ok (.lconst 0, 1) := by decide +kernel
theorem dX7_pixel_29 : decode cX7_pixel 29 = .ok (.aload_n 0, 1) := by decide +kernel
theorem dX7_pixel_30 : decode cX7_pixel 30 = .ok (.getfield 69, 3) := by decide +kernel
theorem dX7_pixel_33 : decode cX7_pixel 33 = .ok (.iload_n 1, 1) := by decide +kernel
theorem dX7_pixel_34 : decode cX7_pixel 34 = .ok (.iaload, 1) := by decide +kernel
theorem dX7_pixel_35 : decode cX7_pixel 35 = .ok (.iconst 1, 1) := by decide +kernel
theorem dX7_pixel_36 : decode cX7_pixel 36 = .ok (.isub, 1) := by decide +kernel
theorem dX7_pixel_37 : decode cX7_pixel 37 = .ok (.i2l, 1) := by decide +kernel
theorem dX7_pixel_38 : decode cX7_pixel 38 = .ok (.invokestatic 7, 3) := by decide +kernel
theorem dX7_pixel_41 : decode cX7_pixel 41 = .ok (.ifCond .eq 27, 3) := by decide +kernel
theorem dX7_pixel_44 : decode cX7_pixel 44 = .ok (.aload_n 0, 1) := by decide +kernel
theorem dX7_pixel_45 : decode cX7_pixel 45 = .ok (.getfield 72, 3) := by decide +kernel
theorem dX7_pixel_48 : decode cX7_pixel 48 = .ok (.sipush 256, 3) := by decide +kernel
theorem dX7_pixel_51 : decode cX7_pixel 51 = .ok (.iload_n 1, 1) := by decide +kernel
theorem dX7_pixel_52 : decode cX7_pixel 52 = .ok (.imul, 1) := by decide +kernel
theorem dX7_pixel_53 : decode cX7_pixel 53 = .ok (.iload_n 2, 1) := by decide +kernel
theorem dX7_pixel_54 : decode cX7_pixel 54 = .ok (.iadd, 1) := by decide +kernel
theorem dX7_pixel_55 : decode cX7_pixel 55 = .ok (.aload_n 0, 1) := by decide +kernel
theorem dX7_pixel_56 : decode cX7_pixel 56 = .ok (.getfield 66, 3) := by decide +kernel
theorem dX7_pixel_59 : decode cX7_pixel 59 = .ok (.iload_n 1, 1) := by decide +kernel
theorem dX7_pixel_60 : decode cX7_pixel 60 = .ok (.iaload, 1) := by decide +kernel
theorem dX7_pixel_61 : decode cX7_pixel 61 = .ok (.iload_n 3, 1) := by decide +kernel
theorem dX7_pixel_62 : decode cX7_pixel 62 = .ok (.imul, 1) := by decide +kernel
theorem dX7_pixel_63 : decode cX7_pixel 63 = .ok (.iadd, 1) := by decide +kernel
theorem dX7_pixel_64 : decode cX7_pixel 64 = .ok (.iaload, 1) := by decide +kernel
theorem dX7_pixel_65 : decode cX7_pixel 65 = .ok (.goto 5, 3) := by decide +kernel
theorem dX7_pixel_68 : decode cX7_pixel 68 = .ok (.ldc 159, 2) := by decide +kernel
theorem dX7_pixel_70 : decode cX7_pixel 70 = .ok (.ireturn, 1) := by decide +kernel
set_option maxRecDepth 20000 in
theorem ggX7_about_X7_isPicture : GoodIn wsX7_about wsX7_isPicture := goodIn_r _ [9, 10, 11, 12, 8, 13, 14, 15, 16, 17, 18, 19, 20, 21, 22, 23, 24, 25, 26, 27, 28, 29, 30, 31, 32, 33, 34, 35, 36, 37, 38, 39, 40, 41] (by decide +kernel) (by decide +kernel)
set_option maxRecDepth 20000 in
theorem gX7_about_X7_isPicture : GoodIn wsX7_about (wsV RX7 171 RX7 yX7_isPicture wsX7_isPicture) := goodIn_app (goodIn_of _ (by decide +kernel)) ggX7_about_X7_isPicture
set_option maxRecDepth 20000 in
theorem ggX7_about_X7_in : GoodIn wsX7_about wsX7_in := goodIn_r _ [13] (by decide +kernel) (by decide +kernel)
set_option maxRecDepth 20000 in
theorem gX7_about_X7_in : GoodIn wsX7_about (va_wsS RX7 7 yX7_in wsX7_in) := goodIn_app (goodIn_of _ (by decide +kernel)) ggX7_about_X7_in
theorem dX7_about_0 : decode cX7_about 0 = .ok (.aload_n 0, 1) := by decide +kernel
theorem dX7_about_1 : decode cX7_about 1 = .ok (.iload_n 1, 1) := by decide +kernel
theorem dX7_about_2 : decode cX7_about 2 = .ok (.invokevirtual 171, 3) := by decide +kernel
theorem dX7_about_5 : decode cX7_about 5 = .ok (.ifCond .eq 15, 3) := by decide +kernel
theorem dX7_about_8 : decode cX7_about 8 = .ok (.iload_n 2, 1) := by decide +kernel
theorem dX7_about_9 : decode cX7_about 9 = .ok (.i2l, 1) := by decide +kernel
theorem dX7_about_10 : decode cX7_about 10 = .ok (.lconst 0, 1) := by decide +kernel
theorem dX7_about_11 : decode cX7_about 11 = .ok (.ldc2_w 174, 3) := by decide +kernel
theorem dX7_about_14 : decode cX7_about 14 = .ok (.invokestatic 7, 3) := by decide +kernel
theorem dX7_about_17 : decode cX7_about 17 = .ok (.ifCond .ne 6, 3) := by decide +kernel
theorem dX7_about_20 : decode cX7_about 20 = .ok (.bipush (-2), 2) := by decide +kernel
theorem dX7_about_22 : decode cX7_about 22 = .ok (.ireturn, 1) := by decide +kernel
theorem dX7_about_23 : decode cX7_about 23 = .ok (.iconst 0, 1) := by decide +kernel
theorem dX7_about_24 : decode cX7_about 24 = .ok (.istore_n 3, 1) := by decide +kernel
theorem dX7_about_25 : decode cX7_about 25 = .ok (.iconst 1, 1) := by decide +kernel
theorem dX7_about_26 : decode cX7_about 26 = .ok (.istore 4, 2) := by decide +kernel
theorem dX7_about_28 : decode cX7_about 28 = .ok (.iload 4, 2) := by decide +kernel
theorem dX7_about_30 : decode cX7_about 30 = .ok (.aload_n 0, 1) := by decide +kernel
theorem dX7_about_31 : decode cX7_about 31 = .ok (.getfield 66, 3) := by decide +kernel
theorem dX7_about_34 : decode cX7_about 34 = .ok (.iload_n 1, 1) := by decide +kernel
theorem dX7_about_35 : decode cX7_about 35 = .ok (.iaload, 1) := by decide +kernel
theorem dX7_about_36 : decode cX7_about 36 = .ok (.aload_n 0, 1) := by decide +kernel
theorem dX7_about_37 : decode cX7_about 37 = .ok (.getfield 69, 3) := by decide +kernel
theorem dX7_about_40 : decode cX7_about 40 = .ok (.iload_n 1, 1) := by decide +kernel
theorem dX7_about_41 : decode cX7_about 41 = .ok (.iaload, 1) := by decide +kernel
theorem dX7_about_42 : decode cX7_about 42 = .ok (.imul, 1) := by decide +kernel
theorem dX7_about_43 : decode cX7_about 43 = .ok (.if_icmp .ge 44, 3) := by decide +kernel
theorem dX7_about_46 : decode cX7_about 46 = .ok (.aload_n 0, 1) := by decide +kernel
theorem dX7_about_47 : decode cX7_about 47 = .ok (.getfield 72, 3) := by decide +kernel
theorem dX7_about_50 : decode cX7_about 50 = .ok (.sipush 256, 3) := by decide +kernel
theorem dX7_about_53 : decode cX7_about 53 = .ok (.iload_n 1, 1) := by decide +kernel
theorem dX7_about_54 : decode cX7_about 54 = .ok (.imul, 1) := by decide +kernel
theorem dX7_about_55 : decode cX7_about 55 = .ok (.iload 4, 2) := by decide +kernel
theorem dX7_about_57 : decode cX7_about 57 = .ok (.iadd, 1) := by decide +kernel
theorem dX7_about_58 : decode cX7_about 58 = .ok (.iaload, 1) := by decide +kernel
theorem dX7_about_59 : decode cX7_about 59 = .ok (.aload_n 0, 1) := by decide +kernel
theorem dX7_about_60 : decode cX7_about 60 = .ok (.getfield 72, 3) := by decide +kernel
theorem dX7_about_63 : decode cX7_about 63 = .ok (.sipush 256, 3) := by decide +kernel
theorem dX7_about_66 : decode cX7_about 66 = .ok (.iload_n 1, 1) := by decide +kernel
theorem dX7_about_67 : decode cX7_about 67 = .ok (.imul, 1) := by decide +kernel
theorem dX7_about_68 : decode cX7_about 68 = .ok (.iload_n 3, 1) := by decide +kernel
theorem dX7_about_69 : decode cX7_about 69 = .ok (.iadd, 1) := by decide +kernel
theorem dX7_about_70 : decode cX7_about 70 = .ok (.iaload, 1) := by decide +kernel
theorem dX7_about_71 : decode cX7_about 71 = .ok (.if_icmp .le 8, 3) := by decide +kernel
theorem dX7_about_74 : decode cX7_about 74 = .ok (.iload 4, 2) := by decide +kernel
theorem dX7_about_76 : decode cX7_about 76 = .ok (.goto 4, 3) := by decide +kernel
theorem dX7_about_79 : decode cX7_about 79 = .ok (.iload_n 3, 1) := by decide +kernel
theorem dX7_about_80 : decode cX7_about 80 = .ok (.istore_n 3, 1) := by decide +kernel
theorem dX7_about_81 : decode cX7_about 81 = .ok (.iinc 4 1, 3) := by decide +kernel
theorem dX7_about_84 : decode cX7_about 84 = .ok (.goto (-56), 3) := by decide +kernel
theorem dX7_about_87 : decode cX7_about 87 = .ok (.iload_n 2, 1) := by decide +kernel
theorem dX7_about_88 : decode cX7_about 88 = .ok (.ifCond .ne 12, 3) := by decide +kernel
theorem dX7_about_91 : decode cX7_about 91 = .ok (.aload_n 0, 1) := by decide +kernel
theorem dX7_about_92 : decode cX7_about 92 = .ok (.getfield 66, 3) := by decide +kernel
theorem dX7_about_95 : decode cX7_about 95 = .ok (.iload_n 1, 1) := by decide +kernel
theorem dX7_about_96 : decode cX7_about 96 = .ok (.iaload, 1) := by decide +kernel
theorem dX7_about_97 : decode cX7_about 97 = .ok (.goto 38, 3) := by decide +kernel
theorem dX7_about_100 : decode cX7_about 100 = .ok (.iload_n 2, 1) := by decide +kernel
theorem dX7_about_101 : decode cX7_about 101 = .ok (.iconst 1, 1) := by decide +kernel
theorem dX7_about_102 : decode cX7_about 102 = .ok (.if_icmp .ne 12, 3) := by decide +kernel
theorem dX7_about_105 : decode cX7_about 105 = .ok (.aload_n 0, 1) := by decide +kernel
theorem dX7_about_106 : decode cX7_about 106 = .ok (.getfield 69, 3) := by decide +kernel
theorem dX7_about_109 : decode cX7_about 109 = .ok (.iload_n 1, 1) := by decide +kernel
theorem dX7_about_110 : decode cX7_about 110 = .ok (.iaload, 1) := by decide +kernel
theorem dX7_about_111 : decode cX7_about 111 = .ok (.goto 24, 3) := by decide +kernel
theorem dX7_about_114 : decode cX7_about 114 = .ok (.iload_n 2, 1) := by decide +kernel
theorem dX7_about_115 : decode cX7_about 115 = .ok (.iconst 2, 1) := by decide +kernel
theorem dX7_about_116 : decode cX7_about 116 = .ok (.if_icmp .ne 18, 3) := by decide +kernel
theorem dX7_about_119 : decode cX7_about 119 = .ok (.aload_n 0, 1) := by decide +kernel
theorem dX7_about_120 : decode cX7_about 120 = .ok (.getfield 72, 3) := by decide +kernel
theorem dX7_about_123 : decode cX7_about 123 = .ok (.sipush 256, 3) := by decide +kernel
theorem dX7_about_126 : decode cX7_about 126 = .ok (.iload_n 1, 1) := by decide +kernel
theorem dX7_about_127 : decode cX7_about 127 = .ok (.imul, 1) := by decide +kernel
theorem dX7_about_128 : decode cX7_about 128 = .ok (.iload_n 3, 1) := by decide +kernel
theorem dX7_about_129 : decode cX7_about 129 = .ok (.iadd, 1) := by decide +kernel
theorem dX7_about_130 : decode cX7_about 130 = .ok (.iaload, 1) := by decide +kernel
theorem dX7_about_131 : decode cX7_about 131 = .ok (.goto 4, 3) := by decide +kernel
theorem dX7_about_134 : decode cX7_about 134 = .ok (.iload_n 3, 1) := by decide +kernel
theorem dX7_about_135 : decode cX7_about 135 = .ok (.ireturn, 1) := by decide +kernel
set_option maxRecDepth 20000 in
theorem ggX7_differ_X7_isPicture : GoodIn wsX7_differ wsX7_isPicture := goodIn_r _ [10, 5, 11, 12, 9, 13, 18, 19, 20, 21, 22, 23, 24, 25, 26, 27, 28, 29, 30, 31, 32, 33, 34, 35, 36, 37, 38, 39, 40, 41, 42, 43, 44, 45] (by decide +kernel) (by decide +kernel)
set_option maxRecDepth 20000 in
theorem gX7_differ_X7_isPicture : GoodIn wsX7_differ (wsV RX7 171 RX7 yX7_isPicture wsX7_isPicture) := goodIn_app (goodIn_of _ (by decide +kernel)) ggX7_differ_X7_isPicture
set_option maxRecDepth 20000 in
theorem ggX7_differ_X7_next : GoodIn wsX7_differ wsX7_next := goodIn_r _ [17, 5, 4, 1, 2, 18, 19, 20, 21, 22, 23, 24, 25, 26, 27, 28, 29, 30, 31, 32, 33, 34, 35, 36, 37, 38, 39, 40, 41, 42, 43, 44, 45] (by decide +kernel) (by decide +kernel)
set_option maxRecDepth 20000 in
theorem gX7_differ_X7_next : GoodIn wsX7_differ (wsV RX7 168 RX7 yX7_next wsX7_next) := goodIn_app (goodIn_of _ (by decide +kernel)) ggX7_differ_X7_next
theorem dX7_differ_0 : decode cX7_differ 0 = .ok (.aload_n 0, 1) := by decide +kernel
theorem dX7_differ_1 : decode cX7_differ 1 = .ok (.iload_n 1, 1) := by decide +kernel
theorem dX7_differ_2 : decode cX7_differ 2 = .ok (.invokevirtual 171, 3) := by decide +kernel
theorem dX7_differ_5 : decode cX7_differ 5 = .ok (.ifCond .eq 11, 3) := by decide +kernel
theorem dX7_differ_8 : decode cX7_differ 8 = .ok (.aload_n 0, 1) := by decide +kernel
theorem dX7_differ_9 : decode cX7_differ 9 = .ok (.iload_n 2, 1) := by decide +kernel
theorem dX7_differ_10 : decode cX7_differ 10 = .ok (.invokevirtual 171, 3) := by decide +kernel
theorem dX7_differ_13 : decode cX7_differ 13 = .ok (.ifCond .ne 6, 3) := by decide +kernel
theorem dX7_differ_16 : decode cX7_differ 16 = .ok (.bipush (-2), 2) := by decide +kernel
theorem dX7_differ_18 : decode cX7_differ 18 = .ok (.ireturn, 1) := by decide +kernel
theorem dX7_differ_19 : decode cX7_differ 19 = .ok (.aload_n 0, 1) := by decide +kernel
theorem dX7_differ_20 : decode cX7_differ 20 = .ok (.getfield 66, 3) := by decide +kernel
theorem dX7_differ_23 : decode cX7_differ 23 = .ok (.iload_n 1, 1) := by decide +kernel
theorem dX7_differ_24 : decode cX7_differ 24 = .ok (.iaload, 1) := by decide +kernel
theorem dX7_differ_25 : decode cX7_differ 25 = .ok (.aload_n 0, 1) := by decide +kernel
theorem dX7_differ_26 : decode cX7_differ 26 = .ok (.getfield 66, 3) := by decide +kernel
theorem dX7_differ_29 : decode cX7_differ 29 = .ok (.iload_n 2, 1) := by decide +kernel
theorem dX7_differ_30 : decode cX7_differ 30 = .ok (.iaload, 1) := by decide +kernel
theorem dX7_differ_31 : decode cX7_differ 31 = .ok (.if_icmp .ne 18, 3) := by decide +kernel
theorem dX7_differ_34 : decode cX7_differ 34 = .ok (.aload_n 0, 1) := by decide +kernel
theorem dX7_differ_35 : decode cX7_differ 35 = .ok (.getfield 69, 3) := by decide +kernel
theorem dX7_differ_38 : decode cX7_differ 38 = .ok (.iload_n 1, 1) := by decide +kernel
theorem dX7_differ_39 : decode cX7_differ 39 = .ok (.iaload, 1) := by decide +kernel
theorem dX7_differ_40 : decode cX7_differ 40 = .ok (.aload_n 0, 1) := by decide +kernel
theorem dX7_differ_41 : decode cX7_differ 41 = .ok (.getfield 69, 3) := by decide +kernel
theorem dX7_differ_44 : decode cX7_differ 44 = .ok (.iload_n 2, 1) := by decide +kernel
theorem dX7_differ_45 : decode cX7_differ 45 = .ok (.iaload, 1) := by decide +kernel
theorem dX7_differ_46 : decode cX7_differ 46 = .ok (.if_icmp .eq 6, 3) := by decide +kernel
theorem dX7_differ_49 : decode cX7_differ 49 = .ok (.bipush (-3), 2) := by decide +kernel
theorem dX7_differ_51 : decode cX7_differ 51 = .ok (.ireturn, 1) := by decide +kernel
theorem dX7_differ_52 : decode cX7_differ 52 = .ok (.aload_n 0, 1) := by decide +kernel
theorem dX7_differ_53 : decode cX7_differ 53 = .ok (.getfield 66, 3) := by decide +kernel
theorem dX7_differ_56 : decode cX7_differ 56 = .ok (.iload_n 1, 1) := by decide +kernel
theorem dX7_differ_57 : decode cX7_differ 57 = .ok (.iaload, 1) := by decide +kernel
theorem dX7_differ_58 : decode cX7_differ 58 = .ok (.istore_n 3, 1) := by decide +kernel
theorem dX7_differ_59 : decode cX7_differ 59 = .ok (.aload_n 0, 1) := by decide +kernel
theorem dX7_differ_60 : decode cX7_differ 60 = .ok (.getfield 69, 3) := by decide +kernel
theorem dX7_differ_63 : decode cX7_differ 63 = .ok (.iload_n 1, 1) := by decide +kernel
theorem dX7_differ_64 : decode cX7_differ 64 = .ok (.iaload, 1) := by decide +kernel
theorem dX7_differ_65 : decode cX7_differ 65 = .ok (.istore 4, 2) := by decide +kernel
theorem dX7_differ_67 : decode cX7_differ 67 = .ok (.iconst 0, 1) := by decide +kernel
theorem dX7_differ_68 : decode cX7_differ 68 = .ok (.istore 5, 2) := by decide +kernel
theorem dX7_differ_70 : decode cX7_differ 70 = .ok (.iload 5, 2) := by decide +kernel
theorem dX7_differ_72 : decode cX7_differ 72 = .ok (.iload_n 3, 1) := by decide +kernel
theorem dX7_differ_73 : decode cX7_differ 73 = .ok (.iload 4, 2) := by decide +kernel
theorem dX7_differ_75 : decode cX7_differ 75 = .ok (.imul, 1) := by decide +kernel
theorem dX7_differ_76 : decode cX7_differ 76 = .ok (.if_icmp .ge 43, 3) := by decide +kernel
theorem dX7_differ_79 : decode cX7_differ 79 = .ok (.aload_n 0, 1) := by decide +kernel
theorem dX7_differ_80 : decode cX7_differ 80 = .ok (.getfield 75, 3) := by decide +kernel
theorem dX7_differ_83 : decode cX7_differ 83 = .ok (.iload 5, 2) := by decide +kernel
theorem dX7_differ_85 : decode cX7_differ 85 = .ok (.aload_n 0, 1) := by decide +kernel
theorem dX7_differ_86 : decode cX7_differ 86 = .ok (.getfield 72, 3) := by decide +kernel
theorem dX7_differ_89 : decode cX7_differ 89 = .ok (.sipush 256, 3) := by decide +kernel
theorem dX7_differ_92 : decode cX7_differ 92 = .ok (.iload_n 1, 1) := by decide +kernel
theorem dX7_differ_93 : decode cX7_differ 93 = .ok (.imul, 1) := by decide +kernel
theorem dX7_differ_94 : decode cX7_differ 94 = .ok (.iload 5, 2) := by decide +kernel
theorem dX7_differ_96 : decode cX7_differ 96 = .ok (.iadd, 1) := by decide +kernel
theorem dX7_differ_97 : decode cX7_differ 97 = .ok (.iaload, 1) := by decide +kernel
theorem dX7_differ_98 : decode cX7_differ 98 = .ok (.aload_n 0, 1) := by decide +kernel
theorem dX7_differ_99 : decode cX7_differ 99 = .ok (.getfield 72, 3) := by decide +kernel
theorem dX7_differ_102 : decode cX7_differ 102 = .ok (.sipush 256, 3) := by decide +kernel
theorem dX7_differ_105 : decode cX7_differ 105 = .ok (.iload_n 2, 1) := by decide +kernel
theorem dX7_differ_106 : decode cX7_differ 106 = .ok (.imul, 1) := by decide +kernel
theorem dX7_differ_107 : decode cX7_differ 107 = .ok (.iload 5, 2) := by decide +kernel
theorem dX7_differ_109 : decode cX7_differ 109 = .ok (.iadd, 1) := by decide +kernel
theorem dX7_differ_110 : decode cX7_differ 110 = .ok (.iaload, 1) := by decide +kernel
theorem dX7_differ_111 : decode cX7_differ 111 = .ok (.isub, 1) := by decide +kernel
theorem dX7_differ_112 : decode cX7_differ 112 = .ok (.iastore, 1) := by decide +kernel
theorem dX7_differ_113 : decode cX7_differ 113 = .ok (.iinc 5 1, 3) := by decide +kernel
theorem dX7_differ_116 : decode cX7_differ 116 = .ok (.goto (-46), 3) := by decide +kernel
theorem dX7_differ_119 : decode cX7_differ 119 = .ok (.aload_n 0, 1) := by decide +kernel
theorem dX7_differ_120 : decode cX7_differ 120 = .ok (.invokevirtual 168, 3) := by decide +kernel
theorem dX7_differ_123 : decode cX7_differ 123 = .ok (.istore 5, 2) := by decide +kernel
theorem dX7_differ_125 : decode cX7_differ 125 = .ok (.aload_n 0, 1) := by decide +kernel
theorem dX7_differ_126 : decode cX7_differ 126 = .ok (.getfield 66, 3) := by decide +kernel
theorem dX7_differ_129 : decode cX7_differ 129 = .ok (.iload 5, 2) := by decide +kernel
theorem dX7_differ_131 : decode cX7_differ 131 = .ok (.iload_n 3, 1) := by decide +kernel
theorem dX7_differ_132 : decode cX7_differ 132 = .ok (.iastore, 1) := by decide +kernel
theorem dX7_differ_133 : decode cX7_differ 133 = .ok (.aload_n 0, 1) := by decide +kernel
theorem dX7_differ_134 : decode cX7_differ 134 = .ok (.getfield 69, 3) := by decide +kernel
theorem dX7_differ_137 : decode cX7_differ 137 = .ok (.iload 5, 2) := by decide +kernel
theorem dX7_differ_139 : decode cX7_differ 139 = .ok (.iload 4, 2) := by decide +kernel
theorem dX7_differ_141 : decode cX7_differ 141 = .ok (.iastore, 1) := by decide +kernel
theorem dX7_differ_142 : decode cX7_differ 142 = .ok (.iconst 0, 1) := by decide +kernel
theorem dX7_differ_143 : decode cX7_differ 143 = .ok (.istore 6, 2) := by decide +kernel
theorem dX7_differ_145 : decode cX7_differ 145 = .ok (.iload 6, 2) := by decide +kernel
theorem dX7_differ_147 : decode cX7_differ 147 = .ok (.iload_n 3, 1) := by decide +kernel
theorem dX7_differ_148 : decode cX7_differ 148 = .ok (.iload 4, 2) := by decide +kernel
theorem dX7_differ_150 : decode cX7_differ 150 = .ok (.imul, 1) := by decide +kernel
theorem dX7_differ_151 : decode cX7_differ 151 = .ok (.if_icmp .ge 30, 3) := by decide +kernel
theorem dX7_differ_154 : decode cX7_differ 154 = .ok (.aload_n 0, 1) := by decide +kernel
theorem dX7_differ_155 : decode cX7_differ 155 = .ok (.getfield 72, 3) := by decide +kernel
theorem dX7_differ_158 : decode cX7_differ 158 = .ok (.sipush 256, 3) := by decide +kernel
theorem dX7_differ_161 : decode cX7_differ 161 = .ok (.iload 5, 2) := by decide +kernel
theorem dX7_differ_163 : decode cX7_differ 163 = .ok (.imul, 1) := by decide +kernel
theorem dX7_differ_164 : decode cX7_differ 164 = .ok (.iload 6, 2) := by decide +kernel
theorem dX7_differ_166 : decode cX7_differ 166 = .ok (.iadd, 1) := by decide +kernel
theorem dX7_differ_167 : decode cX7_differ 167 = .ok (.aload_n 0, 1) := by decide +kernel
theorem dX7_differ_168 : decode cX7_differ 168 = .ok (.getfield 75, 3) := by decide +kernel
theorem dX7_differ_171 : decode cX7_differ 171 = .ok (.iload 6, 2) := by decide +kernel
theorem dX7_differ_173 : decode cX7_differ 173 = .ok (.iaload, 1) := by decide +kernel
theorem dX7_differ_174 : decode cX7_differ 174 = .ok (.iastore, 1) := by decide +kernel
theorem dX7_differ_175 : decode cX7_differ 175 = .ok (.iinc 6 1, 3) := by decide +kernel
theorem dX7_differ_178 : decode cX7_differ 178 = .ok (.goto (-33), 3) := by decide +kernel
theorem dX7_differ_181 : decode cX7_differ 181 = .ok (.aload_n 0, 1) := by decide +kernel
theorem dX7_differ_182 : decode cX7_differ 182 = .ok (.getfield 90, 3) := by decide +kernel
theorem dX7_differ_185 : decode cX7_differ 185 = .ok (.ireturn, 1) := by decide +kernel
set_option maxRecDepth 20000 in
theorem ggX7_turned_X7_delayOf : GoodIn wsX7_turned wsX7_delayOf := goodIn_r _ [7, 8, 9, 10, 11, 12, 13, 14, 6, 15, 16, 26, 27, 28, 29, 30, 31, 32, 33, 34, 35, 36, 37, 38, 39, 40, 41, 42, 43, 44, 45, 46, 47, 48, 49, 50, 51, 52, 53] (by decide +kernel) (by decide +kernel)
set_option maxRecDepth 20000 in
theorem gX7_turned_X7_delayOf : GoodIn wsX7_turned (wsV RX7 114 RX7 yX7_delayOf wsX7_delayOf) := goodIn_app (goodIn_of _ (by decide +kernel)) ggX7_turned_X7_delayOf
set_option maxRecDepth 20000 in
theorem ggX7_turned_X7_sampleAt : GoodIn wsX7_turned wsX7_sampleAt := goodIn_r _ [20, 21, 22, 23, 24, 6, 25, 26, 27, 28, 29, 30, 31, 32, 33, 34, 35, 36, 37, 38, 39, 40, 41, 42, 43, 44, 45, 46, 47, 48, 49, 50, 51, 52, 53] (by decide +kernel) (by decide +kernel)
set_option maxRecDepth 20000 in
theorem gX7_turned_X7_sampleAt : GoodIn wsX7_turned (wsV RX7 143 RX7 yX7_sampleAt wsX7_sampleAt) := goodIn_app (goodIn_of _ (by decide +kernel)) ggX7_turned_X7_sampleAt
theorem dX7_turned_0 : decode cX7_turned 0 = .ok (.aload_n 0, 1) := by decide +kernel
theorem dX7_turned_1 : decode cX7_turned 1 = .ok (.aload_n 0, 1) := by decide +kernel
theorem dX7_turned_2 : decode cX7_turned 2 = .ok (.getfield 59, 3) := by decide +kernel
theorem dX7_turned_5 : decode cX7_turned 5 = .ok (.iload_n 1, 1) := by decide +kernel
theorem dX7_turned_6 : decode cX7_turned 6 = .ok (.iaload, 1) := by decide +kernel
theorem dX7_turned_7 : decode cX7_turned 7 = .ok (.iload_n 3, 1) := by decide +kernel
theorem dX7_turned_8 : decode cX7_turned 8 = .ok (.iload 4, 2) := by decide +kernel
theorem dX7_turned_10 : decode cX7_turned 10 = .ok (.invokevirtual 114, 3) := by decide +kernel
theorem dX7_turned_13 : decode cX7_turned 13 = .ok (.istore 6, 2) := by decide +kernel
theorem dX7_turned_15 : decode cX7_turned 15 = .ok (.lconst 0, 1) := by decide +kernel
theorem dX7_turned_16 : decode cX7_turned 16 = .ok (.lstore 7, 2) := by decide +kernel
theorem dX7_turned_18 : decode cX7_turned 18 = .ok (.iconst 0, 1) := by decide +kernel
theorem dX7_turned_19 : decode cX7_turned 19 = .ok (.istore 9, 2) := by decide +kernel
theorem dX7_turned_21 : decode cX7_turned 21 = .ok (.iload 9, 2) := by decide +kernel
theorem dX7_turned_23 : decode cX7_turned 23 = .ok (.aload_n 0, 1) := by decide +kernel
theorem dX7_turned_24 : decode cX7_turned 24 = .ok (.getfield 19, 3) := by decide +kernel
theorem dX7_turned_27 : decode cX7_turned 27 = .ok (.if_icmp .ge 75, 3) := by decide +kernel
theorem dX7_turned_30 : decode cX7_turned 30 = .ok (.iload 6, 2) := by decide +kernel
theorem dX7_turned_32 : decode cX7_turned 32 = .ok (.aload_n 0, 1) := by decide +kernel
theorem dX7_turned_33 : decode cX7_turned 33 = .ok (.iload 9, 2) := by decide +kernel
theorem dX7_turned_35 : decode cX7_turned 35 = .ok (.iload_n 3, 1) := by decide +kernel
theorem dX7_turned_36 : decode cX7_turned 36 = .ok (.iload 4, 2) := by decide +kernel
theorem dX7_turned_38 : decode cX7_turned 38 = .ok (.invokevirtual 114, 3) := by decide +kernel
theorem dX7_turned_41 : decode cX7_turned 41 = .ok (.iadd, 1) := by decide +kernel
theorem dX7_turned_42 : decode cX7_turned 42 = .ok (.istore 10, 2) := by decide +kernel
theorem dX7_turned_44 : decode cX7_turned 44 = .ok (.bipush (-6), 2) := by decide +kernel
theorem dX7_turned_46 : decode cX7_turned 46 = .ok (.istore 11, 2) := by decide +kernel
theorem dX7_turned_48 : decode cX7_turned 48 = .ok (.iload 11, 2) := by decide +kernel
theorem dX7_turned_50 : decode cX7_turned 50 = .ok (.bipush 6, 2) := by decide +kernel
theorem dX7_turned_52 : decode cX7_turned 52 = .ok (.if_icmp .gt 44, 3) := by decide +kernel
theorem dX7_turned_55 : decode cX7_turned 55 = .ok (.lload 7, 2) := by decide +kernel
theorem dX7_turned_57 : decode cX7_turned 57 = .ok (.aload_n 0, 1) := by decide +kernel
theorem dX7_turned_58 : decode cX7_turned 58 = .ok (.iload_n 1, 1) := by decide +kernel
theorem dX7_turned_59 : decode cX7_turned 59 = .ok (.iload 9, 2) := by decide +kernel
theorem dX7_turned_61 : decode cX7_turned 61 = .ok (.iload 10, 2) := by decide +kernel
theorem dX7_turned_63 : decode cX7_turned 63 = .ok (.iload 11, 2) := by decide +kernel
theorem dX7_turned_65 : decode cX7_turned 65 = .ok (.iadd, 1) := by decide +kernel
theorem dX7_turned_66 : decode cX7_turned 66 = .ok (.invokevirtual 143, 3) := by decide +kernel
theorem dX7_turned_69 : decode cX7_turned 69 = .ok (.i2l, 1) := by decide +kernel
theorem dX7_turned_70 : decode cX7_turned 70 = .ok (.aload_n 0, 1) := by decide +kernel
theorem dX7_turned_71 : decode cX7_turned 71 = .ok (.iload_n 2, 1) := by decide +kernel
theorem dX7_turned_72 : decode cX7_turned 72 = .ok (.iload 9, 2) := by decide +kernel
theorem dX7_turned_74 : decode cX7_turned 74 = .ok (.iload 10, 2) := by decide +kernel
theorem dX7_turned_76 : decode cX7_turned 76 = .ok (.iload 11, 2) := by decide +kernel
theorem dX7_turned_78 : decode cX7_turned 78 = .ok (.iadd, 1) := by decide +kernel
theorem dX7_turned_79 : decode cX7_turned 79 = .ok (.iload 5, 2) := by decide +kernel
theorem dX7_turned_81 : decode cX7_turned 81 = .ok (.iadd, 1) := by decide +kernel
theorem dX7_turned_82 : decode cX7_turned 82 = .ok (.invokevirtual 143, 3) := by decide +kernel
theorem dX7_turned_85 : decode cX7_turned 85 = .ok (.i2l, 1) := by decide +kernel
theorem dX7_turned_86 : decode cX7_turned 86 = .ok (.lmul, 1) := by decide +kernel
theorem dX7_turned_87 : decode cX7_turned 87 = .ok (.ladd, 1) := by decide +kernel
theorem dX7_turned_88 : decode cX7_turned 88 = .ok (.lstore 7, 2) := by decide +kernel
theorem dX7_turned_90 : decode cX7_turned 90 = .ok (.iinc 11 1, 3) := by decide +kernel
theorem dX7_turned_93 : decode cX7_turned 93 = .ok (.goto (-45), 3) := by decide +kernel
theorem dX7_turned_96 : decode cX7_turned 96 = .ok (.iinc 9 1, 3) := by decide +kernel
theorem dX7_turned_99 : decode cX7_turned 99 = .ok (.goto (-78), 3) := by decide +kernel
theorem dX7_turned_102 : decode cX7_turned 102 = .ok (.lload 7, 2) := by decide +kernel
theorem dX7_turned_104 : decode cX7_turned 104 = .ok (.lreturn, 1) := by decide +kernel
set_option maxRecDepth 20000 in
theorem ggX7_turn_X7_isLook : GoodIn wsX7_turn wsX7_isLook := goodIn_r _ [6, 7, 8, 9, 5, 10, 41, 42, 43, 44, 45, 46, 47, 48, 49, 50, 51, 52, 53, 54, 55, 56, 57, 58, 59, 60, 61, 62, 63, 64, 65, 66, 67, 68] (by decide +kernel) (by decide +kernel)
set_option maxRecDepth 20000 in
theorem gX7_turn_X7_isLook : GoodIn wsX7_turn (wsV RX7 139 RX7 yX7_isLook wsX7_isLook) := goodIn_app (goodIn_of _ (by decide +kernel)) ggX7_turn_X7_isLook
set_option maxRecDepth 20000 in
theorem ggX7_turn_X7_isPlace : GoodIn wsX7_turn wsX7_isPlace := goodIn_r _ [13, 14, 15, 16, 8, 9, 5, 10] (by decide +kernel) (by decide +kernel)
set_option maxRecDepth 20000 in
theorem gX7_turn_X7_isPlace : GoodIn wsX7_turn (va_wsS RX7 110 yX7_isPlace wsX7_isPlace) := goodIn_app (goodIn_of _ (by decide +kernel)) ggX7_turn_X7_isPlace
set_option maxRecDepth 20000 in
theorem ggX7_turn_X7_turned : GoodIn wsX7_turn wsX7_turned := goodIn_r _ [20, 1, 21, 22, 23, 24, 5, 25, 26, 27, 28, 29, 30, 31, 32, 33, 34, 35, 36, 37, 38, 39, 40, 8, 9, 10, 41, 42, 43, 44, 45, 46, 47, 48, 49, 50, 51, 52, 53, 54, 55, 56, 57, 58, 59, 60, 61, 62, 63, 64, 65, 66, 67, 68] (by decide +kernel) (by decide +kernel)
set_option maxRecDepth 20000 in
theorem gX7_turn_X7_turned : GoodIn wsX7_turn (wsV RX7 176 RX7 yX7_turned wsX7_turned) := goodIn_app (goodIn_of _ (by decide +kernel)) ggX7_turn_X7_turned
theorem dX7_turn_0 : decode cX7_turn 0 = .ok (.aload_n 0, 1) := by decide +kernel
theorem dX7_turn_1 : decode cX7_turn 1 = .ok (.iload_n 1, 1) := by decide +kernel
theorem dX7_turn_2 : decode cX7_turn 2 = .ok (.invokevirtual 139, 3) := by decide +kernel
theorem dX7_turn_5 : decode cX7_turn 5 = .ok (.ifCond .eq 20, 3) := by decide +kernel
theorem dX7_turn_8 : decode cX7_turn 8 = .ok (.aload_n 0, 1) := by decide +kernel
theorem dX7_turn_9 : decode cX7_turn 9 = .ok (.iload_n 2, 1) := by decide +kernel
theorem dX7_turn_10 : decode cX7_turn 10 = .ok (.invokevirtual 139, 3) := by decide +kernel
theorem dX7_turn_13 : decode cX7_turn 13 = .ok (.ifCond .eq 12, 3) := by decide +kernel
theorem dX7_turn_16 : decode cX7_turn 16 = .ok (.iload_n 3, 1) := by decide +kernel
theorem dX7_turn_17 : decode cX7_turn 17 = .ok (.iload 4, 2) := by decide +kernel
theorem dX7_turn_19 : decode cX7_turn 19 = .ok (.invokestatic 110, 3) := by decide +kernel
theorem dX7_turn_22 : decode cX7_turn 22 = .ok (.ifCond .ne 6, 3) := by decide +kernel
theorem dX7_turn_25 : decode cX7_turn 25 = .ok (.bipush (-100), 2) := by decide +kernel
theorem dX7_turn_27 : decode cX7_turn 27 = .ok (.ireturn, 1) := by decide +kernel
theorem dX7_turn_28 : decode cX7_turn 28 = .ok (.aload_n 0, 1) := by decide +kernel
theorem dX7_turn_29 : decode cX7_turn 29 = .ok (.getfield 59, 3) := by decide +kernel
theorem dX7_turn_32 : decode cX7_turn 32 = .ok (.iload_n 1, 1) := by decide +kernel
theorem dX7_turn_33 : decode cX7_turn 33 = .ok (.iaload, 1) := by decide +kernel
theorem dX7_turn_34 : decode cX7_turn 34 = .ok (.aload_n 0, 1) := by decide +kernel
theorem dX7_turn_35 : decode cX7_turn 35 = .ok (.getfield 59, 3) := by decide +kernel
theorem dX7_turn_38 : decode cX7_turn 38 = .ok (.iload_n 2, 1) := by decide +kernel
theorem dX7_turn_39 : decode cX7_turn 39 = .ok (.iaload, 1) := by decide +kernel
theorem dX7_turn_40 : decode cX7_turn 40 = .ok (.if_icmp .eq 6, 3) := by decide +kernel
theorem dX7_turn_43 : decode cX7_turn 43 = .ok (.bipush (-101), 2) := by decide +kernel
theorem dX7_turn_45 : decode cX7_turn 45 = .ok (.ireturn, 1) := by decide +kernel
theorem dX7_turn_46 : decode cX7_turn 46 = .ok (.iconst 0, 1) := by decide +kernel
theorem dX7_turn_47 : decode cX7_turn 47 = .ok (.istore 5, 2) := by decide +kernel
theorem dX7_turn_49 : decode cX7_turn 49 = .ok (.aload_n 0, 1) := by decide +kernel
theorem dX7_turn_50 : decode cX7_turn 50 = .ok (.iload_n 1, 1) := by decide +kernel
theorem dX7_turn_51 : decode cX7_turn 51 = .ok (.iload_n 2, 1) := by decide +kernel
theorem dX7_turn_52 : decode cX7_turn 52 = .ok (.iload_n 3, 1) := by decide +kernel
theorem dX7_turn_53 : decode cX7_turn 53 = .ok (.iload 4, 2) := by decide +kernel
theorem dX7_turn_55 : decode cX7_turn 55 = .ok (.iconst 0, 1) := by decide +kernel
theorem dX7_turn_56 : decode cX7_turn 56 = .ok (.invokevirtual 176, 3) := by decide +kernel
theorem dX7_turn_59 : decode cX7_turn 59 = .ok (.lstore 6, 2) := by decide +kernel
theorem dX7_turn_61 : decode cX7_turn 61 = .ok (.iconst 1, 1) := by decide +kernel
theorem dX7_turn_62 : decode cX7_turn 62 = .ok (.istore 8, 2) := by decide +kernel
theorem dX7_turn_64 : decode cX7_turn 64 = .ok (.iload 8, 2) := by decide +kernel
theorem dX7_turn_66 : decode cX7_turn 66 = .ok (.bipush 16, 2) := by decide +kernel
theorem dX7_turn_68 : decode cX7_turn 68 = .ok (.if_icmp .gt 62, 3) := by decide +kernel
theorem dX7_turn_71 : decode cX7_turn 71 = .ok (.iload 8, 2) := by decide +kernel
theorem dX7_turn_73 : decode cX7_turn 73 = .ok (.iconst 2, 1) := by decide +kernel
theorem dX7_turn_74 : decode cX7_turn 74 = .ok (.irem, 1) := by decide +kernel
theorem dX7_turn_75 : decode cX7_turn 75 = .ok (.iconst 1, 1) := by decide +kernel
theorem dX7_turn_76 : decode cX7_turn 76 = .ok (.if_icmp .ne 13, 3) := by decide +kernel
theorem dX7_turn_79 : decode cX7_turn 79 = .ok (.iload 8, 2) := by decide +kernel
theorem dX7_turn_81 : decode cX7_turn 81 = .ok (.iconst 1, 1) := by decide +kernel
theorem dX7_turn_82 : decode cX7_turn 82 = .ok (.iadd, 1) := by decide +kernel
theorem dX7_turn_83 : decode cX7_turn 83 = .ok (.ineg, 1) := by decide +kernel
theorem dX7_turn_84 : decode cX7_turn 84 = .ok (.iconst 2, 1) := by decide +kernel
theorem dX7_turn_85 : decode cX7_turn 85 = .ok (.idiv, 1) := by decide +kernel
theorem dX7_turn_86 : decode cX7_turn 86 = .ok (.goto 7, 3) := by decide +kernel
theorem dX7_turn_89 : decode cX7_turn 89 = .ok (.iload 8, 2) := by decide +kernel
theorem dX7_turn_91 : decode cX7_turn 91 = .ok (.iconst 2, 1) := by decide +kernel
theorem dX7_turn_92 : decode cX7_turn 92 = .ok (.idiv, 1) := by decide +kernel
theorem dX7_turn_93 : decode cX7_turn 93 = .ok (.istore 9, 2) := by decide +kernel
theorem dX7_turn_95 : decode cX7_turn 95 = .ok (.aload_n 0, 1) := by decide +kernel
theorem dX7_turn_96 : decode cX7_turn 96 = .ok (.iload_n 1, 1) := by decide +kernel
theorem dX7_turn_97 : decode cX7_turn 97 = .ok (.iload_n 2, 1) := by decide +kernel
theorem dX7_turn_98 : decode cX7_turn 98 = .ok (.iload_n 3, 1) := by decide +kernel
theorem dX7_turn_99 : decode cX7_turn 99 = .ok (.iload 4, 2) := by decide +kernel
theorem dX7_turn_101 : decode cX7_turn 101 = .ok (.iload 9, 2) := by decide +kernel
theorem dX7_turn_103 : decode cX7_turn 103 = .ok (.invokevirtual 176, 3) := by decide +kernel
theorem dX7_turn_106 : decode cX7_turn 106 = .ok (.lstore 10, 2) := by decide +kernel
theorem dX7_turn_108 : decode cX7_turn 108 = .ok (.lload 10, 2) := by decide +kernel
theorem dX7_turn_110 : decode cX7_turn 110 = .ok (.lload 6, 2) := by decide +kernel
theorem dX7_turn_112 : decode cX7_turn 112 = .ok (.lcmp, 1) := by decide +kernel
theorem dX7_turn_113 : decode cX7_turn 113 = .ok (.ifCond .le 11, 3) := by decide +kernel
theorem dX7_turn_116 : decode cX7_turn 116 = .ok (.lload 10, 2) := by decide +kernel
theorem dX7_turn_118 : decode cX7_turn 118 = .ok (.lstore 6, 2) := by decide +kernel
theorem dX7_turn_120 : decode cX7_turn 120 = .ok (.iload 9, 2) := by decide +kernel
theorem dX7_turn_122 : decode cX7_turn 122 = .ok (.istore 5, 2) := by decide +kernel
theorem dX7_turn_124 : decode cX7_turn 124 = .ok (.iinc 8 1, 3) := by decide +kernel
theorem dX7_turn_127 : decode cX7_turn 127 = .ok (.goto (-63), 3) := by decide +kernel
theorem dX7_turn_130 : decode cX7_turn 130 = .ok (.iload 5, 2) := by decide +kernel
theorem dX7_turn_132 : decode cX7_turn 132 = .ok (.ireturn, 1) := by decide +kernel
set_option maxRecDepth 20000 in
theorem ggX7_fan_X7_isLook : GoodIn wsX7_fan wsX7_isLook := goodIn_r _ [13, 14, 15, 16, 12, 17, 59, 60, 61, 62, 63, 64, 65, 66, 67, 68, 69, 70, 71, 72, 73, 74, 75, 76, 77, 78, 79, 80, 81, 82, 83, 84, 85, 86] (by decide +kernel) (by decide +kernel)
set_option maxRecDepth 20000 in
theorem gX7_fan_X7_isLook : GoodIn wsX7_fan (wsV RX7 139 RX7 yX7_isLook wsX7_isLook) := goodIn_app (goodIn_of _ (by decide +kernel)) ggX7_fan_X7_isLook
set_option maxRecDepth 20000 in
theorem ggX7_fan_X7_in : GoodIn wsX7_fan wsX7_in := goodIn_r _ [17] (by decide +kernel) (by decide +kernel)
set_option maxRecDepth 20000 in
theorem gX7_fan_X7_in : GoodIn wsX7_fan (va_wsS RX7 7 yX7_in wsX7_in) := goodIn_app (goodIn_of _ (by decide +kernel)) ggX7_fan_X7_in
set_option maxRecDepth 20000 in
theorem ggX7_fan_X7_isPlace : GoodIn wsX7_fan wsX7_isPlace := goodIn_r _ [20, 21, 22, 23, 15, 16, 12, 17] (by decide +kernel) (by decide +kernel)
set_option maxRecDepth 20000 in
theorem gX7_fan_X7_isPlace : GoodIn wsX7_fan (va_wsS RX7 110 yX7_isPlace wsX7_isPlace) := goodIn_app (goodIn_of _ (by decide +kernel)) ggX7_fan_X7_isPlace
set_option maxRecDepth 20000 in
theorem ggX7_fan_X7_meanOf : GoodIn wsX7_fan wsX7_meanOf := goodIn_r _ [27, 14, 28, 29, 30, 31, 12, 32, 33, 34, 35, 36, 37, 38, 39, 40, 41, 1, 42, 43, 44, 45, 46, 47, 48, 49, 50, 51, 15, 16, 17, 52, 53, 54, 55, 56, 57, 58, 59, 60, 61, 62, 63, 64, 65, 66, 67, 68, 69, 70, 71, 72, 73, 74, 75, 76, 77, 78, 79, 80, 81, 82, 83, 84, 85, 86] (by decide +kernel) (by decide +kernel)
set_option maxRecDepth 20000 in
theorem gX7_fan_X7_meanOf : GoodIn wsX7_fan (wsV RX7 163 RX7 yX7_meanOf wsX7_meanOf) := goodIn_app (goodIn_of _ (by decide +kernel)) ggX7_fan_X7_meanOf
theorem dX7_fan_0 : decode cX7_fan 0 = .ok (.aload_n 0, 1) := by decide +kernel
theorem dX7_fan_1 : decode cX7_fan 1 = .ok (.iload_n 1, 1) := by decide +kernel
theorem dX7_fan_2 : decode cX7_fan 2 = .ok (.invokevirtual 139, 3) := by decide +kernel
theorem dX7_fan_5 : decode cX7_fan 5 = .ok (.ifCond .eq 44, 3) := by decide +kernel
theorem dX7_fan_8 : decode cX7_fan 8 = .ok (.iload_n 2, 1) := by decide +kernel
theorem dX7_fan_9 : decode cX7_fan 9 = .ok (.i2l, 1) := by decide +kernel
theorem dX7_fan_10 : decode cX7_fan 10 = .ok (.ldc2_w 81, 3) := by decide +kernel
theorem dX7_fan_13 : decode cX7_fan 13 = .ok (.ldc2_w 147, 3) := by decide +kernel
theorem dX7_fan_16 : decode cX7_fan 16 = .ok (.invokestatic 7, 3) := by decide +kernel
theorem dX7_fan_19 : decode cX7_fan 19 = .ok (.ifCond .eq 30, 3) := by decide +kernel
theorem dX7_fan_22 : decode cX7_fan 22 = .ok (.iload_n 3, 1) := by decide +kernel
theorem dX7_fan_23 : decode cX7_fan 23 = .ok (.i2l, 1) := by decide +kernel
theorem dX7_fan_24 : decode cX7_fan 24 = .ok (.ldc2_w 81, 3) := by decide +kernel
theorem dX7_fan_27 : decode cX7_fan 27 = .ok (.ldc2_w 83, 3) := by decide +kernel
theorem dX7_fan_30 : decode cX7_fan 30 = .ok (.invokestatic 7, 3) := by decide +kernel
theorem dX7_fan_33 : decode cX7_fan 33 = .ok (.ifCond .eq 16, 3) := by decide +kernel
theorem dX7_fan_36 : decode cX7_fan 36 = .ok (.iload 4, 2) := by decide +kernel
theorem dX7_fan_38 : decode cX7_fan 38 = .ok (.i2l, 1) := by decide +kernel
theorem dX7_fan_39 : decode cX7_fan 39 = .ok (.lconst 1, 1) := by decide +kernel
theorem dX7_fan_40 : decode cX7_fan 40 = .ok (.ldc2_w 180, 3) := by decide +kernel
theorem dX7_fan_43 : decode cX7_fan 43 = .ok (.invokestatic 7, 3) := by decide +kernel
theorem dX7_fan_46 : decode cX7_fan 46 = .ok (.ifCond .ne 6, 3) := by decide +kernel
theorem dX7_fan_49 : decode cX7_fan 49 = .ok (.bipush (-2), 2) := by decide +kernel
theorem dX7_fan_51 : decode cX7_fan 51 = .ok (.ireturn, 1) := by decide +kernel
theorem dX7_fan_52 : decode cX7_fan 52 = .ok (.aload_n 0, 1) := by decide +kernel
theorem dX7_fan_53 : decode cX7_fan 53 = .ok (.iload_n 2, 1) := by decide +kernel
theorem dX7_fan_54 : decode cX7_fan 54 = .ok (.putfield 182, 3) := by decide +kernel
theorem dX7_fan_57 : decode cX7_fan 57 = .ok (.aload_n 0, 1) := by decide +kernel
theorem dX7_fan_58 : decode cX7_fan 58 = .ok (.iload_n 3, 1) := by decide +kernel
theorem dX7_fan_59 : decode cX7_fan 59 = .ok (.putfield 185, 3) := by decide +kernel
theorem dX7_fan_62 : decode cX7_fan 62 = .ok (.aload_n 0, 1) := by decide +kernel
theorem dX7_fan_63 : decode cX7_fan 63 = .ok (.iload 4, 2) := by decide +kernel
theorem dX7_fan_65 : decode cX7_fan 65 = .ok (.putfield 188, 3) := by decide +kernel
theorem dX7_fan_68 : decode cX7_fan 68 = .ok (.iload_n 2, 1) := by decide +kernel
theorem dX7_fan_69 : decode cX7_fan 69 = .ok (.iconst 1, 1) := by decide +kernel
theorem dX7_fan_70 : decode cX7_fan 70 = .ok (.isub, 1) := by decide +kernel
theorem dX7_fan_71 : decode cX7_fan 71 = .ok (.iconst 2, 1) := by decide +kernel
theorem dX7_fan_72 : decode cX7_fan 72 = .ok (.idiv, 1) := by decide +kernel
theorem dX7_fan_73 : decode cX7_fan 73 = .ok (.istore 5, 2) := by decide +kernel
theorem dX7_fan_75 : decode cX7_fan 75 = .ok (.iconst 0, 1) := by decide +kernel
theorem dX7_fan_76 : decode cX7_fan 76 = .ok (.istore 6, 2) := by decide +kernel
theorem dX7_fan_78 : decode cX7_fan 78 = .ok (.iload 6, 2) := by decide +kernel
theorem dX7_fan_80 : decode cX7_fan 80 = .ok (.iload_n 2, 1) := by decide +kernel
theorem dX7_fan_81 : decode cX7_fan 81 = .ok (.if_icmp .ge 84, 3) := by decide +kernel
theorem dX7_fan_84 : decode cX7_fan 84 = .ok (.iconst 0, 1) := by decide +kernel
theorem dX7_fan_85 : decode cX7_fan 85 = .ok (.istore 7, 2) := by decide +kernel
theorem dX7_fan_87 : decode cX7_fan 87 = .ok (.iload 7, 2) := by decide +kernel
theorem dX7_fan_89 : decode cX7_fan 89 = .ok (.iload_n 3, 1) := by decide +kernel
theorem dX7_fan_90 : decode cX7_fan 90 = .ok (.if_icmp .ge 69, 3) := by decide +kernel
theorem dX7_fan_93 : decode cX7_fan 93 = .ok (.iload 7, 2) := by decide +kernel
theorem dX7_fan_95 : decode cX7_fan 95 = .ok (.iload 4, 2) := by decide +kernel
theorem dX7_fan_97 : decode cX7_fan 97 = .ok (.imul, 1) := by decide +kernel
theorem dX7_fan_98 : decode cX7_fan 98 = .ok (.iload 6, 2) := by decide +kernel
theorem dX7_fan_100 : decode cX7_fan 100 = .ok (.iload 5, 2) := by decide +kernel
theorem dX7_fan_102 : decode cX7_fan 102 = .ok (.isub, 1) := by decide +kernel
theorem dX7_fan_103 : decode cX7_fan 103 = .ok (.imul, 1) := by decide +kernel
theorem dX7_fan_104 : decode cX7_fan 104 = .ok (.bipush 8, 2) := by decide +kernel
theorem dX7_fan_106 : decode cX7_fan 106 = .ok (.idiv, 1) := by decide +kernel
theorem dX7_fan_107 : decode cX7_fan 107 = .ok (.istore 8, 2) := by decide +kernel
theorem dX7_fan_109 : decode cX7_fan 109 = .ok (.aload_n 0, 1) := by decide +kernel
theorem dX7_fan_110 : decode cX7_fan 110 = .ok (.getfield 78, 3) := by decide +kernel
theorem dX7_fan_113 : decode cX7_fan 113 = .ok (.bipush 16, 2) := by decide +kernel
theorem dX7_fan_115 : decode cX7_fan 115 = .ok (.iload 6, 2) := by decide +kernel
theorem dX7_fan_117 : decode cX7_fan 117 = .ok (.imul, 1) := by decide +kernel
theorem dX7_fan_118 : decode cX7_fan 118 = .ok (.iload 7, 2) := by decide +kernel
theorem dX7_fan_120 : decode cX7_fan 120 = .ok (.iadd, 1) := by decide +kernel
theorem dX7_fan_121 : decode cX7_fan 121 = .ok (.iload 8, 2) := by decide +kernel
theorem dX7_fan_123 : decode cX7_fan 123 = .ok (.iload 7, 2) := by decide +kernel
theorem dX7_fan_125 : decode cX7_fan 125 = .ok (.iload 4, 2) := by decide +kernel
theorem dX7_fan_127 : decode cX7_fan 127 = .ok (.imul, 1) := by decide +kernel
theorem dX7_fan_128 : decode cX7_fan 128 = .ok (.invokestatic 110, 3) := by decide +kernel
theorem dX7_fan_131 : decode cX7_fan 131 = .ok (.ifCond .eq 20, 3) := by decide +kernel
theorem dX7_fan_134 : decode cX7_fan 134 = .ok (.aload_n 0, 1) := by decide +kernel
theorem dX7_fan_135 : decode cX7_fan 135 = .ok (.iconst 1, 1) := by decide +kernel
theorem dX7_fan_136 : decode cX7_fan 136 = .ok (.iload_n 1, 1) := by decide +kernel
theorem dX7_fan_137 : decode cX7_fan 137 = .ok (.ishl, 1) := by decide +kernel
theorem dX7_fan_138 : decode cX7_fan 138 = .ok (.iload 8, 2) := by decide +kernel
theorem dX7_fan_140 : decode cX7_fan 140 = .ok (.iload 7, 2) := by decide +kernel
theorem dX7_fan_142 : decode cX7_fan 142 = .ok (.iload 4, 2) := by decide +kernel
theorem dX7_fan_144 : decode cX7_fan 144 = .ok (.imul, 1) := by decide +kernel
theorem dX7_fan_145 : decode cX7_fan 145 = .ok (.invokevirtual 163, 3) := by decide +kernel
theorem dX7_fan_148 : decode cX7_fan 148 = .ok (.goto 4, 3) := by decide +kernel
theorem dX7_fan_151 : decode cX7_fan 151 = .ok (.iconst 0, 1) := by decide +kernel
theorem dX7_fan_152 : decode cX7_fan 152 = .ok (.iastore, 1) := by decide +kernel
theorem dX7_fan_153 : decode cX7_fan 153 = .ok (.iinc 7 1, 3) := by decide +kernel
theorem dX7_fan_156 : decode cX7_fan 156 = .ok (.goto (-69), 3) := by decide +kernel
theorem dX7_fan_159 : decode cX7_fan 159 = .ok (.iinc 6 1, 3) := by decide +kernel
theorem dX7_fan_162 : decode cX7_fan 162 = .ok (.goto (-84), 3) := by decide +kernel
theorem dX7_fan_165 : decode cX7_fan 165 = .ok (.iconst 1, 1) := by decide +kernel
theorem dX7_fan_166 : decode cX7_fan 166 = .ok (.ireturn, 1) := by decide +kernel
set_option maxRecDepth 20000 in
theorem ggX7_fanAt_X7_in : GoodIn wsX7_fanAt wsX7_in := goodIn_r _ [8] (by decide +kernel) (by decide +kernel)
set_option maxRecDepth 20000 in
theorem gX7_fanAt_X7_in : GoodIn wsX7_fanAt (va_wsS RX7 7 yX7_in wsX7_in) := goodIn_app (goodIn_of _ (by decide +kernel)) ggX7_fanAt_X7_in
theorem dX7_fanAt_0 : decode cX7_fanAt 0 = .ok (.iload_n 1, 1) := by decide +kernel
theorem dX7_fanAt_1 : decode cX7_fanAt 1 = .ok (.i2l, 1) := by decide +kernel
theorem dX7_fanAt_2 : decode cX7_fanAt 2 = .ok (.lconst 0, 1) := by decide +kernel
theorem dX7_fanAt_3 : decode cX7_fanAt 3 = .ok (.aload_n 0, 1) := by decide +kernel
theorem dX7_fanAt_4 : decode cX7_fanAt 4 = .ok (.getfield 182, 3) := by decide +kernel
theorem dX7_fanAt_7 : decode cX7_fanAt 7 = .ok (.iconst 1, 1) := by decide +kernel
theorem dX7_fanAt_8 : decode cX7_fanAt 8 = .ok (.isub, 1) := by decide +kernel
theorem dX7_fanAt_9 : decode cX7_fanAt 9 = .ok (.i2l, 1) := by decide +kernel
theorem dX7_fanAt_10 : decode cX7_fanAt 10 = .ok (.invokestatic 7, 3) := by decide +kernel
theorem dX7_fanAt_13 : decode cX7_fanAt 13 = .ok (.ifCond .eq 33, 3) := by decide +kernel
theorem dX7_fanAt_16 : decode cX7_fanAt 16 = .ok (.iload_n 2, 1) := by decide +kernel
theorem dX7_fanAt_17 : decode cX7_fanAt 17 = .ok (.i2l, 1) := by decide +kernel
theorem dX7_fanAt_18 : decode cX7_fanAt 18 = .ok (.lconst 0, 1) := by decide +kernel
theorem dX7_fanAt_19 : decode cX7_fanAt 19 = .ok (.aload_n 0, 1) := by decide +kernel
theorem dX7_fanAt_20 : decode cX7_fanAt 20 = .ok (.getfield 185, 3) := by decide +kernel
theorem dX7_fanAt_23 : decode cX7_fanAt 23 = .ok (.iconst 1, 1) := by decide +kernel
theorem dX7_fanAt_24 : decode cX7_fanAt 24 = .ok (.isub, 1) := by decide +kernel
theorem dX7_fanAt_25 : decode cX7_fanAt 25 = .ok (.i2l, 1) := by decide +kernel
theorem dX7_fanAt_26 : decode cX7_fanAt 26 = .ok (.invokestatic 7, 3) := by decide +kernel
theorem dX7_fanAt_29 : decode cX7_fanAt 29 = .ok (.ifCond .eq 17, 3) := by decide +kernel
theorem dX7_fanAt_32 : decode cX7_fanAt 32 = .ok (.aload_n 0, 1) := by decide +kernel
theorem dX7_fanAt_33 : decode cX7_fanAt 33 = .ok (.getfield 78, 3) := by decide +kernel
theorem dX7_fanAt_36 : decode cX7_fanAt 36 = .ok (.bipush 16, 2) := by decide +kernel
theorem dX7_fanAt_38 : decode cX7_fanAt 38 = .ok (.iload_n 1, 1) := by decide +kernel
theorem dX7_fanAt_39 : decode cX7_fanAt 39 = .ok (.imul, 1) := by decide +kernel
theorem dX7_fanAt_40 : decode cX7_fanAt 40 = .ok (.iload_n 2, 1) := by decide +kernel
theorem dX7_fanAt_41 : decode cX7_fanAt 41 = .ok (.iadd, 1) := by decide +kernel
theorem dX7_fanAt_42 : decode cX7_fanAt 42 = .ok (.iaload, 1) := by decide +kernel
theorem dX7_fanAt_43 : decode cX7_fanAt 43 = .ok (.goto 5, 3) := by decide +kernel
theorem dX7_fanAt_46 : decode cX7_fanAt 46 = .ok (.ldc 159, 2) := by decide +kernel
theorem dX7_fanAt_48 : decode cX7_fanAt 48 = .ok (.ireturn, 1) := by decide +kernel
theorem dX7_shared_0 : decode cX7_shared 0 = .ok (.iload_n 1, 1) := by decide +kernel
theorem dX7_shared_1 : decode cX7_shared 1 = .ok (.ifCond .ne 7, 3) := by decide +kernel
theorem dX7_shared_4 : decode cX7_shared 4 = .ok (.lconst 0, 1) := by decide +kernel
theorem dX7_shared_5 : decode cX7_shared 5 = .ok (.goto 18, 3) := by decide +kernel
theorem dX7_shared_8 : decode cX7_shared 8 = .ok (.iload_n 1, 1) := by decide +kernel
theorem dX7_shared_9 : decode cX7_shared 9 = .ok (.i2l, 1) := by decide +kernel
theorem dX7_shared_10 : decode cX7_shared 10 = .ok (.aload_n 0, 1) := by decide +kernel
theorem dX7_shared_11 : decode cX7_shared 11 = .ok (.getfield 78, 3) := by decide +kernel
theorem dX7_shared_14 : decode cX7_shared 14 = .ok (.bipush 16, 2) := by decide +kernel
theorem dX7_shared_16 : decode cX7_shared 16 = .ok (.iload_n 2, 1) := by decide +kernel
theorem dX7_shared_17 : decode cX7_shared 17 = .ok (.imul, 1) := by decide +kernel
theorem dX7_shared_18 : decode cX7_shared 18 = .ok (.iload_n 3, 1) := by decide +kernel
theorem dX7_shared_19 : decode cX7_shared 19 = .ok (.iadd, 1) := by decide +kernel
theorem dX7_shared_20 : decode cX7_shared 20 = .ok (.iaload, 1) := by decide +kernel
theorem dX7_shared_21 : decode cX7_shared 21 = .ok (.i2l, 1) := by decide +kernel
theorem dX7_shared_22 : decode cX7_shared 22 = .ok (.lmul, 1) := by decide +kernel
theorem dX7_shared_23 : decode cX7_shared 23 = .ok (.lreturn, 1) := by decide +kernel
set_option maxRecDepth 20000 in
theorem ggX7_board_X7_in : GoodIn wsX7_board wsX7_in := goodIn_r _ [12] (by decide +kernel) (by decide +kernel)
set_option maxRecDepth 20000 in
theorem gX7_board_X7_in : GoodIn wsX7_board (va_wsS RX7 7 yX7_in wsX7_in) := goodIn_app (goodIn_of _ (by decide +kernel)) ggX7_board_X7_in
set_option maxRecDepth 20000 in
theorem ggX7_board_X7_shared : GoodIn wsX7_board wsX7_shared := goodIn_r _ [16, 17, 18, 19, 20, 21, 22, 23, 24, 25, 26, 27, 28, 29, 30, 31, 32, 33, 34, 35, 36, 37, 38, 39, 40, 41, 42, 43, 44, 45] (by decide +kernel) (by decide +kernel)
set_option maxRecDepth 20000 in
theorem gX7_board_X7_shared : GoodIn wsX7_board (wsV RX7 193 RX7 yX7_shared wsX7_shared) := goodIn_app (goodIn_of _ (by decide +kernel)) ggX7_board_X7_shared
theorem dX7_board_0 : decode cX7_board 0 = .ok (.iload_n 1, 1) := by decide +kernel
theorem dX7_board_1 : decode cX7_board 1 = .ok (.i2l, 1) := by decide +kernel
theorem dX7_board_2 : decode cX7_board 2 = .ok (.ldc2_w 81, 3) := by decide +kernel
theorem dX7_board_5 : decode cX7_board 5 = .ok (.ldc2_w 191, 3) := by decide +kernel
theorem dX7_board_8 : decode cX7_board 8 = .ok (.invokestatic 7, 3) := by decide +kernel
theorem dX7_board_11 : decode cX7_board 11 = .ok (.ifCond .eq 64, 3) := by decide +kernel
theorem dX7_board_14 : decode cX7_board 14 = .ok (.iload_n 2, 1) := by decide +kernel
theorem dX7_board_15 : decode cX7_board 15 = .ok (.i2l, 1) := by decide +kernel
theorem dX7_board_16 : decode cX7_board 16 = .ok (.ldc2_w 81, 3) := by decide +kernel
theorem dX7_board_19 : decode cX7_board 19 = .ok (.ldc2_w 191, 3) := by decide +kernel
theorem dX7_board_22 : decode cX7_board 22 = .ok (.invokestatic 7, 3) := by decide +kernel
theorem dX7_board_25 : decode cX7_board 25 = .ok (.ifCond .eq 50, 3) := by decide +kernel
theorem dX7_board_28 : decode cX7_board 28 = .ok (.iload_n 3, 1) := by decide +kernel
theorem dX7_board_29 : decode cX7_board 29 = .ok (.i2l, 1) := by decide +kernel
theorem dX7_board_30 : decode cX7_board 30 = .ok (.lconst 1, 1) := by decide +kernel
theorem dX7_board_31 : decode cX7_board 31 = .ok (.ldc2_w 166, 3) := by decide +kernel
theorem dX7_board_34 : decode cX7_board 34 = .ok (.invokestatic 7, 3) := by decide +kernel
theorem dX7_board_37 : decode cX7_board 37 = .ok (.ifCond .eq 38, 3) := by decide +kernel
theorem dX7_board_40 : decode cX7_board 40 = .ok (.iload 4, 2) := by decide +kernel
theorem dX7_board_42 : decode cX7_board 42 = .ok (.i2l, 1) := by decide +kernel
theorem dX7_board_43 : decode cX7_board 43 = .ok (.lconst 0, 1) := by decide +kernel
theorem dX7_board_44 : decode cX7_board 44 = .ok (.iload_n 1, 1) := by decide +kernel
theorem dX7_board_45 : decode cX7_board 45 = .ok (.iconst 1, 1) := by decide +kernel
theorem dX7_board_46 : decode cX7_board 46 = .ok (.isub, 1) := by decide +kernel
theorem dX7_board_47 : decode cX7_board 47 = .ok (.i2l, 1) := by decide +kernel
theorem dX7_board_48 : decode cX7_board 48 = .ok (.invokestatic 7, 3) := by decide +kernel
theorem dX7_board_51 : decode cX7_board 51 = .ok (.ifCond .eq 24, 3) := by decide +kernel
theorem dX7_board_54 : decode cX7_board 54 = .ok (.iload 5, 2) := by decide +kernel
theorem dX7_board_56 : decode cX7_board 56 = .ok (.i2l, 1) := by decide +kernel
theorem dX7_board_57 : decode cX7_board 57 = .ok (.lconst 0, 1) := by decide +kernel
theorem dX7_board_58 : decode cX7_board 58 = .ok (.iload_n 2, 1) := by decide +kernel
theorem dX7_board_59 : decode cX7_board 59 = .ok (.iconst 1, 1) := by decide +kernel
theorem dX7_board_60 : decode cX7_board 60 = .ok (.isub, 1) := by decide +kernel
theorem dX7_board_61 : decode cX7_board 61 = .ok (.i2l, 1) := by decide +kernel
theorem dX7_board_62 : decode cX7_board 62 = .ok (.invokestatic 7, 3) := by decide +kernel
theorem dX7_board_65 : decode cX7_board 65 = .ok (.ifCond .eq 10, 3) := by decide +kernel
theorem dX7_board_68 : decode cX7_board 68 = .ok (.aload_n 0, 1) := by decide +kernel
theorem dX7_board_69 : decode cX7_board 69 = .ok (.getfield 182, 3) := by decide +kernel
theorem dX7_board_72 : decode cX7_board 72 = .ok (.ifCond .ne 6, 3) := by decide +kernel
theorem dX7_board_75 : decode cX7_board 75 = .ok (.ldc 159, 2) := by decide +kernel
theorem dX7_board_77 : decode cX7_board 77 = .ok (.ireturn, 1) := by decide +kernel
theorem dX7_board_78 : decode cX7_board 78 = .ok (.iload_n 3, 1) := by decide +kernel
theorem dX7_board_79 : decode cX7_board 79 = .ok (.iconst 2, 1) := by decide +kernel
theorem dX7_board_80 : decode cX7_board 80 = .ok (.iload 4, 2) := by decide +kernel
theorem dX7_board_82 : decode cX7_board 82 = .ok (.imul, 1) := by decide +kernel
theorem dX7_board_83 : decode cX7_board 83 = .ok (.iload_n 1, 1) := by decide +kernel
theorem dX7_board_84 : decode cX7_board 84 = .ok (.isub, 1) := by decide +kernel
theorem dX7_board_85 : decode cX7_board 85 = .ok (.iconst 1, 1) := by decide +kernel
theorem dX7_board_86 : decode cX7_board 86 = .ok (.iadd, 1) := by decide +kernel
theorem dX7_board_87 : decode cX7_board 87 = .ok (.imul, 1) := by decide +kernel
theorem dX7_board_88 : decode cX7_board 88 = .ok (.iconst 2, 1) := by decide +kernel
theorem dX7_board_89 : decode cX7_board 89 = .ok (.idiv, 1) := by decide +kernel
theorem dX7_board_90 : decode cX7_board 90 = .ok (.istore 6, 2) := by decide +kernel
theorem dX7_board_92 : decode cX7_board 92 = .ok (.iload_n 3, 1) := by decide +kernel
theorem dX7_board_93 : decode cX7_board 93 = .ok (.iload 5, 2) := by decide +kernel
theorem dX7_board_95 : decode cX7_board 95 = .ok (.imul, 1) := by decide +kernel
theorem dX7_board_96 : decode cX7_board 96 = .ok (.istore 7, 2) := by decide +kernel
theorem dX7_board_98 : decode cX7_board 98 = .ok (.bipush 16, 2) := by decide +kernel
theorem dX7_board_100 : decode cX7_board 100 = .ok (.iload 7, 2) := by decide +kernel
theorem dX7_board_102 : decode cX7_board 102 = .ok (.imul, 1) := by decide +kernel
theorem dX7_board_103 : decode cX7_board 103 = .ok (.aload_n 0, 1) := by decide +kernel
theorem dX7_board_104 : decode cX7_board 104 = .ok (.getfield 188, 3) := by decide +kernel
theorem dX7_board_107 : decode cX7_board 107 = .ok (.idiv, 1) := by decide +kernel
theorem dX7_board_108 : decode cX7_board 108 = .ok (.istore 8, 2) := by decide +kernel
theorem dX7_board_110 : decode cX7_board 110 = .ok (.bipush 16, 2) := by decide +kernel
theorem dX7_board_112 : decode cX7_board 112 = .ok (.aload_n 0, 1) := by decide +kernel
theorem dX7_board_113 : decode cX7_board 113 = .ok (.getfield 182, 3) := by decide +kernel
theorem dX7_board_116 : decode cX7_board 116 = .ok (.iconst 1, 1) := by decide +kernel
theorem dX7_board_117 : decode cX7_board 117 = .ok (.isub, 1) := by decide +kernel
theorem dX7_board_118 : decode cX7_board 118 = .ok (.iconst 2, 1) := by decide +kernel
theorem dX7_board_119 : decode cX7_board 119 = .ok (.idiv, 1) := by decide +kernel
theorem dX7_board_120 : decode cX7_board 120 = .ok (.imul, 1) := by decide +kernel
theorem dX7_board_121 : decode cX7_board 121 = .ok (.iload 7, 2) := by decide +kernel
theorem dX7_board_123 : decode cX7_board 123 = .ok (.ifCond .ne 7, 3) := by decide +kernel
theorem dX7_board_126 : decode cX7_board 126 = .ok (.iconst 0, 1) := by decide +kernel
theorem dX7_board_127 : decode cX7_board 127 = .ok (.goto 12, 3) := by decide +kernel
theorem dX7_board_130 : decode cX7_board 130 = .ok (.sipush 128, 3) := by decide +kernel
theorem dX7_board_133 : decode cX7_board 133 = .ok (.iload 6, 2) := by decide +kernel
theorem dX7_board_135 : decode cX7_board 135 = .ok (.imul, 1) := by decide +kernel
theorem dX7_board_136 : decode cX7_board 136 = .ok (.iload 7, 2) := by decide +kernel
theorem dX7_board_138 : decode cX7_board 138 = .ok (.idiv, 1) := by decide +kernel
theorem dX7_board_139 : decode cX7_board 139 = .ok (.iadd, 1) := by decide +kernel
theorem dX7_board_140 : decode cX7_board 140 = .ok (.istore 9, 2) := by decide +kernel
theorem dX7_board_142 : decode cX7_board 142 = .ok (.iload 9, 2) := by decide +kernel
theorem dX7_board_144 : decode cX7_board 144 = .ok (.ifCond .lt 31, 3) := by decide +kernel
theorem dX7_board_147 : decode cX7_board 147 = .ok (.iload 9, 2) := by decide +kernel
theorem dX7_board_149 : decode cX7_board 149 = .ok (.bipush 16, 2) := by decide +kernel
theorem dX7_board_151 : decode cX7_board 151 = .ok (.aload_n 0, 1) := by decide +kernel
theorem dX7_board_152 : decode cX7_board 152 = .ok (.getfield 182, 3) := by decide +kernel
theorem dX7_board_155 : decode cX7_board 155 = .ok (.iconst 1, 1) := by decide +kernel
theorem dX7_board_156 : decode cX7_board 156 = .ok (.isub, 1) := by decide +kernel
theorem dX7_board_157 : decode cX7_board 157 = .ok (.imul, 1) := by decide +kernel
theorem dX7_board_158 : decode cX7_board 158 = .ok (.if_icmp .gt 17, 3) := by decide +kernel
theorem dX7_board_161 : decode cX7_board 161 = .ok (.iload 8, 2) := by decide +kernel
theorem dX7_board_163 : decode cX7_board 163 = .ok (.bipush 16, 2) := by decide +kernel
theorem dX7_board_165 : decode cX7_board 165 = .ok (.aload_n 0, 1) := by decide +kernel
theorem dX7_board_166 : decode cX7_board 166 = .ok (.getfield 185, 3) := by decide +kernel
theorem dX7_board_169 : decode cX7_board 169 = .ok (.iconst 1, 1) := by decide +kernel
theorem dX7_board_170 : decode cX7_board 170 = .ok (.isub, 1) := by decide +kernel
theorem dX7_board_171 : decode cX7_board 171 = .ok (.imul, 1) := by decide +kernel
theorem dX7_board_172 : decode cX7_board 172 = .ok (.if_icmp .le 5, 3) := by decide +kernel
theorem dX7_board_175 : decode cX7_board 175 = .ok (.iconst 0, 1) := by decide +kernel
theorem dX7_board_176 : decode cX7_board 176 = .ok (.ireturn, 1) := by decide +kernel
theorem dX7_board_177 : decode cX7_board 177 = .ok (.iload 8, 2) := by decide +kernel
theorem dX7_board_179 : decode cX7_board 179 = .ok (.bipush 16, 2) := by decide +kernel
theorem dX7_board_181 : decode cX7_board 181 = .ok (.idiv, 1) := by decide +kernel
theorem dX7_board_182 : decode cX7_board 182 = .ok (.istore 10, 2) := by decide +kernel
theorem dX7_board_184 : decode cX7_board 184 = .ok (.iload 8, 2) := by decide +kernel
theorem dX7_board_186 : decode cX7_board 186 = .ok (.bipush 16, 2) := by decide +kernel
theorem dX7_board_188 : decode cX7_board 188 = .ok (.irem, 1) := by decide +kernel
theorem dX7_board_189 : decode cX7_board 189 = .ok (.istore 11, 2) := by decide +kernel
theorem dX7_board_191 : decode cX7_board 191 = .ok (.iload 9, 2) := by decide +kernel
theorem dX7_board_193 : decode cX7_board 193 = .ok (.bipush 16, 2) := by decide +kernel
theorem dX7_board_195 : decode cX7_board 195 = .ok (.idiv, 1) := by decide +kernel
theorem dX7_board_196 : decode cX7_board 196 = .ok (.istore 12, 2) := by decide +kernel
theorem dX7_board_198 : decode cX7_board 198 = .ok (.iload 9, 2) := by decide +kernel
theorem dX7_board_200 : decode cX7_board 200 = .ok (.bipush 16, 2) := by decide +kernel
theorem dX7_board_202 : decode cX7_board 202 = .ok (.irem, 1) := by decide +kernel
theorem dX7_board_203 : decode cX7_board 203 = .ok (.istore 13, 2) := by decide +kernel
theorem dX7_board_205 : decode cX7_board 205 = .ok (.aload_n 0, 1) := by decide +kernel
theorem dX7_board_206 : decode cX7_board 206 = .ok (.bipush 16, 2) := by decide +kernel
theorem dX7_board_208 : decode cX7_board 208 = .ok (.iload 13, 2) := by decide +kernel
theorem dX7_board_210 : decode cX7_board 210 = .ok (.isub, 1) := by decide +kernel
theorem dX7_board_211 : decode cX7_board 211 = .ok (.bipush 16, 2) := by decide +kernel
theorem dX7_board_213 : decode cX7_board 213 = .ok (.iload 11, 2) := by decide +kernel
theorem dX7_board_215 : decode cX7_board 215 = .ok (.isub, 1) := by decide +kernel
theorem dX7_board_216 : decode cX7_board 216 = .ok (.imul, 1) := by decide +kernel
theorem dX7_board_217 : decode cX7_board 217 = .ok (.iload 12, 2) := by decide +kernel
theorem dX7_board_219 : decode cX7_board 219 = .ok (.iload 10, 2) := by decide +kernel
theorem dX7_board_221 : decode cX7_board 221 = .ok (.invokevirtual 193, 3) := by decide +kernel
theorem dX7_board_224 : decode cX7_board 224 = .ok (.aload_n 0, 1) := by decide +kernel
theorem dX7_board_225 : decode cX7_board 225 = .ok (.iload 13, 2) := by decide +kernel
theorem dX7_board_227 : decode cX7_board 227 = .ok (.bipush 16, 2) := by decide +kernel
theorem dX7_board_229 : decode cX7_board 229 = .ok (.iload 11, 2) := by decide +kernel
theorem dX7_board_231 : decode cX7_board 231 = .ok (.isub, 1) := by decide +kernel
theorem dX7_board_232 : decode cX7_board 232 = .ok (.imul, 1) := by decide +kernel
theorem dX7_board_233 : decode cX7_board 233 = .ok (.iload 12, 2) := by decide +kernel
theorem dX7_board_235 : decode cX7_board 235 = .ok (.iconst 1, 1) := by decide +kernel
theorem dX7_board_236 : decode cX7_board 236 = .ok (.iadd, 1) := by decide +kernel
theorem dX7_board_237 : decode cX7_board 237 = .ok (.iload 10, 2) := by decide +kernel
theorem dX7_board_239 : decode cX7_board 239 = .ok (.invokevirtual 193, 3) := by decide +kernel
theorem dX7_board_242 : decode cX7_board 242 = .ok (.ladd, 1) := by decide +kernel
theorem dX7_board_243 : decode cX7_board 243 = .ok (.aload_n 0, 1) := by decide +kernel
theorem dX7_board_244 : decode cX7_board 244 = .ok (.bipush 16, 2) := by decide +kernel
theorem dX7_board_246 : decode cX7_board 246 = .ok (.iload 13, 2) := by decide +kernel
theorem dX7_board_248 : decode cX7_board 248 = .ok (.isub, 1) := by decide +kernel
theorem dX7_board_249 : decode cX7_board 249 = .ok (.iload 11, 2) := by decide +kernel
theorem dX7_board_251 : decode cX7_board 251 = .ok (.imul, 1) := by decide +kernel
theorem dX7_board_252 : decode cX7_board 252 = .ok (.iload 12, 2) := by decide +kernel
theorem dX7_board_254 : decode cX7_board 254 = .ok (.iload 10, 2) := by decide +kernel
theorem dX7_board_256 : decode cX7_board 256 = .ok (.iconst 1, 1) := by decide +kernel
theorem dX7_board_257 : decode cX7_board 257 = .ok (.iadd, 1) := by decide +kernel
theorem dX7_board_258 : decode cX7_board 258 = .ok (.invokevirtual 193, 3) := by decide +kernel
theorem dX7_board_261 : decode cX7_board 261 = .ok (.ladd, 1) := by decide +kernel
theorem dX7_board_262 : decode cX7_board 262 = .ok (.aload_n 0, 1) := by decide +kernel
theorem dX7_board_263 : decode cX7_board 263 = .ok (.iload 13, 2) := by decide +kernel
theorem dX7_board_265 : decode cX7_board 265 = .ok (.iload 11, 2) := by decide +kernel
theorem dX7_board_267 : decode cX7_board 267 = .ok (.imul, 1) := by decide +kernel
theorem dX7_board_268 : decode cX7_board 268 = .ok (.iload 12, 2) := by decide +kernel
theorem dX7_board_270 : decode cX7_board 270 = .ok (.iconst 1, 1) := by decide +kernel
theorem dX7_board_271 : decode cX7_board 271 = .ok (.iadd, 1) := by decide +kernel
theorem dX7_board_272 : decode cX7_board 272 = .ok (.iload 10, 2) := by decide +kernel
theorem dX7_board_274 : decode cX7_board 274 = .ok (.iconst 1, 1) := by decide +kernel
theorem dX7_board_275 : decode cX7_board 275 = .ok (.iadd, 1) := by decide +kernel
theorem dX7_board_276 : decode cX7_board 276 = .ok (.invokevirtual 193, 3) := by decide +kernel
theorem dX7_board_279 : decode cX7_board 279 = .ok (.ladd, 1) := by decide +kernel
theorem dX7_board_280 : decode cX7_board 280 = .ok (.lstore 14, 2) := by decide +kernel
theorem dX7_board_282 : decode cX7_board 282 = .ok (.lload 14, 2) := by decide +kernel
theorem dX7_board_284 : decode cX7_board 284 = .ok (.ldc2_w 196, 3) := by decide +kernel
theorem dX7_board_287 : decode cX7_board 287 = .ok (.ldiv, 1) := by decide +kernel
theorem dX7_board_288 : decode cX7_board 288 = .ok (.l2i, 1) := by decide +kernel
theorem dX7_board_289 : decode cX7_board 289 = .ok (.ireturn, 1) := by decide +kernel
set_option maxRecDepth 20000 in
theorem ggX7_caliper_X7_isPlace : GoodIn wsX7_caliper wsX7_isPlace := goodIn_r _ [4, 5, 6, 7, 8, 9, 3, 10] (by decide +kernel) (by decide +kernel)
set_option maxRecDepth 20000 in
theorem gX7_caliper_X7_isPlace : GoodIn wsX7_caliper (va_wsS RX7 110 yX7_isPlace wsX7_isPlace) := goodIn_app (goodIn_of _ (by decide +kernel)) ggX7_caliper_X7_isPlace
set_option maxRecDepth 20000 in
theorem ggX7_caliper_X7_rootOf : GoodIn wsX7_caliper wsX7_rootOf := goodIn_r _ [13, 14, 15] (by decide +kernel) (by decide +kernel)
set_option maxRecDepth 20000 in
theorem gX7_caliper_X7_rootOf : GoodIn wsX7_caliper (va_wsS RX7 106 yX7_rootOf wsX7_rootOf) := goodIn_app (goodIn_of _ (by decide +kernel)) ggX7_caliper_X7_rootOf
theorem dX7_caliper_0 : decode cX7_caliper 0 = .ok (.iload_n 1, 1) := by decide +kernel
theorem dX7_caliper_1 : decode cX7_caliper 1 = .ok (.iload_n 2, 1) := by decide +kernel
theorem dX7_caliper_2 : decode cX7_caliper 2 = .ok (.invokestatic 110, 3) := by decide +kernel
theorem dX7_caliper_5 : decode cX7_caliper 5 = .ok (.ifCond .eq 12, 3) := by decide +kernel
theorem dX7_caliper_8 : decode cX7_caliper 8 = .ok (.iload_n 3, 1) := by decide +kernel
theorem dX7_caliper_9 : decode cX7_caliper 9 = .ok (.iload 4, 2) := by decide +kernel
theorem dX7_caliper_11 : decode cX7_caliper 11 = .ok (.invokestatic 110, 3) := by decide +kernel
theorem dX7_caliper_14 : decode cX7_caliper 14 = .ok (.ifCond .ne 6, 3) := by decide +kernel
theorem dX7_caliper_17 : decode cX7_caliper 17 = .ok (.bipush (-2), 2) := by decide +kernel
theorem dX7_caliper_19 : decode cX7_caliper 19 = .ok (.ireturn, 1) := by decide +kernel
theorem dX7_caliper_20 : decode cX7_caliper 20 = .ok (.iload_n 1, 1) := by decide +kernel
theorem dX7_caliper_21 : decode cX7_caliper 21 = .ok (.iload_n 3, 1) := by decide +kernel
theorem dX7_caliper_22 : decode cX7_caliper 22 = .ok (.isub, 1) := by decide +kernel
theorem dX7_caliper_23 : decode cX7_caliper 23 = .ok (.i2l, 1) := by decide +kernel
theorem dX7_caliper_24 : decode cX7_caliper 24 = .ok (.lstore 5, 2) := by decide +kernel
theorem dX7_caliper_26 : decode cX7_caliper 26 = .ok (.iload_n 2, 1) := by decide +kernel
theorem dX7_caliper_27 : decode cX7_caliper 27 = .ok (.iload 4, 2) := by decide +kernel
theorem dX7_caliper_29 : decode cX7_caliper 29 = .ok (.isub, 1) := by decide +kernel
theorem dX7_caliper_30 : decode cX7_caliper 30 = .ok (.i2l, 1) := by decide +kernel
theorem dX7_caliper_31 : decode cX7_caliper 31 = .ok (.lstore 7, 2) := by decide +kernel
theorem dX7_caliper_33 : decode cX7_caliper 33 = .ok (.lload 5, 2) := by decide +kernel
theorem dX7_caliper_35 : decode cX7_caliper 35 = .ok (.lload 5, 2) := by decide +kernel
theorem dX7_caliper_37 : decode cX7_caliper 37 = .ok (.lmul, 1) := by decide +kernel
theorem dX7_caliper_38 : decode cX7_caliper 38 = .ok (.lload 7, 2) := by decide +kernel
theorem dX7_caliper_40 : decode cX7_caliper 40 = .ok (.lload 7, 2) := by decide +kernel
theorem dX7_caliper_42 : decode cX7_caliper 42 = .ok (.lmul, 1) := by decide +kernel
theorem dX7_caliper_43 : decode cX7_caliper 43 = .ok (.ladd, 1) := by decide +kernel
theorem dX7_caliper_44 : decode cX7_caliper 44 = .ok (.invokestatic 106, 3) := by decide +kernel
theorem dX7_caliper_47 : decode cX7_caliper 47 = .ok (.l2i, 1) := by decide +kernel
theorem dX7_caliper_48 : decode cX7_caliper 48 = .ok (.ireturn, 1) := by decide +kernel
set_option maxRecDepth 20000 in
theorem ggX7_cap_X7_in : GoodIn wsX7_cap wsX7_in := goodIn_r _ [6] (by decide +kernel) (by decide +kernel)
set_option maxRecDepth 20000 in
theorem gX7_cap_X7_in : GoodIn wsX7_cap (va_wsS RX7 7 yX7_in wsX7_in) := goodIn_app (goodIn_of _ (by decide +kernel)) ggX7_cap_X7_in
theorem dX7_cap_0 : decode cX7_cap 0 = .ok (.iload_n 1, 1) := by decide +kernel
theorem dX7_cap_1 : decode cX7_cap 1 = .ok (.i2l, 1) := by decide +kernel
theorem dX7_cap_2 : decode cX7_cap 2 = .ok (.lconst 0, 1) := by decide +kernel
theorem dX7_cap_3 : decode cX7_cap 3 = .ok (.ldc2_w 198, 3) := by decide +kernel
theorem dX7_cap_6 : decode cX7_cap 6 = .ok (.invokestatic 7, 3) := by decide +kernel
theorem dX7_cap_9 : decode cX7_cap 9 = .ok (.ifCond .ne 6, 3) := by decide +kernel
theorem dX7_cap_12 : decode cX7_cap 12 = .ok (.bipush (-2), 2) := by decide +kernel
theorem dX7_cap_14 : decode cX7_cap 14 = .ok (.ireturn, 1) := by decide +kernel
theorem dX7_cap_15 : decode cX7_cap 15 = .ok (.aload_n 0, 1) := by decide +kernel
theorem dX7_cap_16 : decode cX7_cap 16 = .ok (.getfield 41, 3) := by decide +kernel
theorem dX7_cap_19 : decode cX7_cap 19 = .ok (.istore_n 2, 1) := by decide +kernel
theorem dX7_cap_20 : decode cX7_cap 20 = .ok (.aload_n 0, 1) := by decide +kernel
theorem dX7_cap_21 : decode cX7_cap 21 = .ok (.iload_n 1, 1) := by decide +kernel
theorem dX7_cap_22 : decode cX7_cap 22 = .ok (.putfield 41, 3) := by decide +kernel
theorem dX7_cap_25 : decode cX7_cap 25 = .ok (.iload_n 2, 1) := by decide +kernel
theorem dX7_cap_26 : decode cX7_cap 26 = .ok (.ireturn, 1) := by decide +kernel
set_option maxRecDepth 20000 in
theorem ggX7_tick_X7_in : GoodIn wsX7_tick wsX7_in := goodIn_r _ [6] (by decide +kernel) (by decide +kernel)
set_option maxRecDepth 20000 in
theorem gX7_tick_X7_in : GoodIn wsX7_tick (va_wsS RX7 7 yX7_in wsX7_in) := goodIn_app (goodIn_of _ (by decide +kernel)) ggX7_tick_X7_in
theorem dX7_tick_0 : decode cX7_tick 0 = .ok (.iload_n 1, 1) := by decide +kernel
theorem dX7_tick_1 : decode cX7_tick 1 = .ok (.i2l, 1) := by decide +kernel
theorem dX7_tick_2 : decode cX7_tick 2 = .ok (.lconst 1, 1) := by decide +kernel
theorem dX7_tick_3 : decode cX7_tick 3 = .ok (.ldc2_w 96, 3) := by decide +kernel
theorem dX7_tick_6 : decode cX7_tick 6 = .ok (.invokestatic 7, 3) := by decide +kernel
theorem dX7_tick_9 : decode cX7_tick 9 = .ok (.ifCond .ne 6, 3) := by decide +kernel
theorem dX7_tick_12 : decode cX7_tick 12 = .ok (.bipush (-2), 2) := by decide +kernel
theorem dX7_tick_14 : decode cX7_tick 14 = .ok (.ireturn, 1) := by decide +kernel
theorem dX7_tick_15 : decode cX7_tick 15 = .ok (.iconst 0, 1) := by decide +kernel
theorem dX7_tick_16 : decode cX7_tick 16 = .ok (.istore_n 2, 1) := by decide +kernel
theorem dX7_tick_17 : decode cX7_tick 17 = .ok (.iload_n 2, 1) := by decide +kernel
theorem dX7_tick_18 : decode cX7_tick 18 = .ok (.iload_n 1, 1) := by decide +kernel
theorem dX7_tick_19 : decode cX7_tick 19 = .ok (.if_icmp .ge 28, 3) := by decide +kernel
theorem dX7_tick_22 : decode cX7_tick 22 = .ok (.aload_n 0, 1) := by decide +kernel
theorem dX7_tick_23 : decode cX7_tick 23 = .ok (.dup, 1) := by decide +kernel
theorem dX7_tick_24 : decode cX7_tick 24 = .ok (.getfield 93, 3) := by decide +kernel
theorem dX7_tick_27 : decode cX7_tick 27 = .ok (.aload_n 0, 1) := by decide +kernel
theorem dX7_tick_28 : decode cX7_tick 28 = .ok (.getfield 93, 3) := by decide +kernel
theorem dX7_tick_31 : decode cX7_tick 31 = .ok (.bipush 31, 2) := by decide +kernel
theorem dX7_tick_33 : decode cX7_tick 33 = .ok (.iadd, 1) := by decide +kernel
theorem dX7_tick_34 : decode cX7_tick 34 = .ok (.bipush 32, 2) := by decide +kernel
theorem dX7_tick_36 : decode cX7_tick 36 = .ok (.idiv, 1) := by decide +kernel
theorem dX7_tick_37 : decode cX7_tick 37 = .ok (.isub, 1) := by decide +kernel
theorem dX7_tick_38 : decode cX7_tick 38 = .ok (.putfield 93, 3) := by decide +kernel
theorem dX7_tick_41 : decode cX7_tick 41 = .ok (.iinc 2 1, 3) := by decide +kernel
theorem dX7_tick_44 : decode cX7_tick 44 = .ok (.goto (-27), 3) := by decide +kernel
theorem dX7_tick_47 : decode cX7_tick 47 = .ok (.aload_n 0, 1) := by decide +kernel
theorem dX7_tick_48 : decode cX7_tick 48 = .ok (.getfield 93, 3) := by decide +kernel
theorem dX7_tick_51 : decode cX7_tick 51 = .ok (.ireturn, 1) := by decide +kernel
set_option maxRecDepth 20000 in
theorem ggX7_count_X7_alive : GoodIn wsX7_count wsX7_alive := goodIn_r _ [11, 1, 12, 13, 14, 15, 16, 17, 18, 19, 20, 21, 22, 23, 24, 25, 26, 27, 28, 29, 30, 31, 32, 33, 34, 35, 36, 37, 38, 39, 40] (by decide +kernel) (by decide +kernel)
set_option maxRecDepth 20000 in
theorem gX7_count_X7_alive : GoodIn wsX7_count (wsV RX7 98 RX7 yX7_alive wsX7_alive) := goodIn_app (goodIn_of _ (by decide +kernel)) ggX7_count_X7_alive
theorem dX7_count_0 : decode cX7_count 0 = .ok (.iload_n 1, 1) := by decide +kernel
theorem dX7_count_1 : decode cX7_count 1 = .ok (.tableswitch 78 0 6 #[43, 48, 53, 58, 63, 68, 73], 43) := by decide +kernel
theorem dX7_count_44 : decode cX7_count 44 = .ok (.aload_n 0, 1) := by decide +kernel
theorem dX7_count_45 : decode cX7_count 45 = .ok (.getfield 19, 3) := by decide +kernel
theorem dX7_count_48 : decode cX7_count 48 = .ok (.ireturn, 1) := by decide +kernel
theorem dX7_count_49 : decode cX7_count 49 = .ok (.aload_n 0, 1) := by decide +kernel
theorem dX7_count_50 : decode cX7_count 50 = .ok (.invokevirtual 98, 3) := by decide +kernel
theorem dX7_count_53 : decode cX7_count 53 = .ok (.ireturn, 1) := by decide +kernel
theorem dX7_count_54 : decode cX7_count 54 = .ok (.aload_n 0, 1) := by decide +kernel
theorem dX7_count_55 : decode cX7_count 55 = .ok (.getfield 124, 3) := by decide +kernel
theorem dX7_count_58 : decode cX7_count 58 = .ok (.ireturn, 1) := by decide +kernel
theorem dX7_count_59 : decode cX7_count 59 = .ok (.aload_n 0, 1) := by decide +kernel
theorem dX7_count_60 : decode cX7_count 60 = .ok (.getfield 87, 3) := by decide +kernel
theorem dX7_count_63 : decode cX7_count 63 = .ok (.ireturn, 1) := by decide +kernel
theorem dX7_count_64 : decode cX7_count 64 = .ok (.aload_n 0, 1) := by decide +kernel
theorem dX7_count_65 : decode cX7_count 65 = .ok (.getfield 90, 3) := by decide +kernel
theorem dX7_count_68 : decode cX7_count 68 = .ok (.ireturn, 1) := by decide +kernel
theorem dX7_count_69 : decode cX7_count 69 = .ok (.aload_n 0, 1) := by decide +kernel
theorem dX7_count_70 : decode cX7_count 70 = .ok (.getfield 93, 3) := by decide +kernel
theorem dX7_count_73 : decode cX7_count 73 = .ok (.ireturn, 1) := by decide +kernel
theorem dX7_count_74 : decode cX7_count 74 = .ok (.aload_n 0, 1) := by decide +kernel
theorem dX7_count_75 : decode cX7_count 75 = .ok (.getfield 136, 3) := by decide +kernel
theorem dX7_count_78 : decode cX7_count 78 = .ok (.ireturn, 1) := by decide +kernel
theorem dX7_count_79 : decode cX7_count 79 = .ok (.bipush (-2), 2) := by decide +kernel
theorem dX7_count_81 : decode cX7_count 81 = .ok (.ireturn, 1) := by decide +kernel
set_option maxRecDepth 20000 in
theorem ggX7_digest_X7_count : GoodIn wsX7_digest wsX7_count := goodIn_r _ [17, 8, 3, 6, 9, 18, 19, 20, 21, 22, 16, 23, 24, 34, 35, 36, 37, 38, 39, 40, 41, 42, 43, 44, 45, 46, 47, 48, 49, 50, 51, 52, 53, 54, 55, 56, 57, 58, 59, 60, 61] (by decide +kernel) (by decide +kernel)
set_option maxRecDepth 20000 in
theorem gX7_digest_X7_count : GoodIn wsX7_digest (wsV RX7 204 RX7 yX7_count wsX7_count) := goodIn_app (goodIn_of _ (by decide +kernel)) ggX7_digest_X7_count
set_option maxRecDepth 20000 in
theorem ggX7_digest_X7_sampleAt : GoodIn wsX7_digest wsX7_sampleAt := goodIn_r _ [28, 29, 30, 31, 32, 16, 33, 34, 35, 36, 37, 38, 39, 40, 41, 42, 43, 44, 45, 46, 47, 48, 49, 50, 51, 52, 53, 54, 55, 56, 57, 58, 59, 60, 61] (by decide +kernel) (by decide +kernel)
set_option maxRecDepth 20000 in
theorem gX7_digest_X7_sampleAt : GoodIn wsX7_digest (wsV RX7 143 RX7 yX7_sampleAt wsX7_sampleAt) := goodIn_app (goodIn_of _ (by decide +kernel)) ggX7_digest_X7_sampleAt
theorem dX7_digest_0 : decode cX7_digest 0 = .ok (.ldc2_w 200, 3) := by decide +kernel
theorem dX7_digest_3 : decode cX7_digest 3 = .ok (.lstore_n 1, 1) := by decide +kernel
theorem dX7_digest_4 : decode cX7_digest 4 = .ok (.iconst 0, 1) := by decide +kernel
theorem dX7_digest_5 : decode cX7_digest 5 = .ok (.istore_n 3, 1) := by decide +kernel
theorem dX7_digest_6 : decode cX7_digest 6 = .ok (.iload_n 3, 1) := by decide +kernel
theorem dX7_digest_7 : decode cX7_digest 7 = .ok (.bipush 7, 2) := by decide +kernel
theorem dX7_digest_9 : decode cX7_digest 9 = .ok (.if_icmp .ge 22, 3) := by decide +kernel
theorem dX7_digest_12 : decode cX7_digest 12 = .ok (.ldc2_w 202, 3) := by decide +kernel
theorem dX7_digest_15 : decode cX7_digest 15 = .ok (.lload_n 1, 1) := by decide +kernel
theorem dX7_digest_16 : decode cX7_digest 16 = .ok (.lmul, 1) := by decide +kernel
theorem dX7_digest_17 : decode cX7_digest 17 = .ok (.aload_n 0, 1) := by decide +kernel
theorem dX7_digest_18 : decode cX7_digest 18 = .ok (.iload_n 3, 1) := by decide +kernel
theorem dX7_digest_19 : decode cX7_digest 19 = .ok (.invokevirtual 204, 3) := by decide +kernel
theorem dX7_digest_22 : decode cX7_digest 22 = .ok (.i2l, 1) := by decide +kernel
theorem dX7_digest_23 : decode cX7_digest 23 = .ok (.ladd, 1) := by decide +kernel
theorem dX7_digest_24 : decode cX7_digest 24 = .ok (.lstore_n 1, 1) := by decide +kernel
theorem dX7_digest_25 : decode cX7_digest 25 = .ok (.iinc 3 1, 3) := by decide +kernel
theorem dX7_digest_28 : decode cX7_digest 28 = .ok (.goto (-22), 3) := by decide +kernel
theorem dX7_digest_31 : decode cX7_digest 31 = .ok (.iconst 0, 1) := by decide +kernel
theorem dX7_digest_32 : decode cX7_digest 32 = .ok (.istore_n 3, 1) := by decide +kernel
theorem dX7_digest_33 : decode cX7_digest 33 = .ok (.iload_n 3, 1) := by decide +kernel
theorem dX7_digest_34 : decode cX7_digest 34 = .ok (.aload_n 0, 1) := by decide +kernel
theorem dX7_digest_35 : decode cX7_digest 35 = .ok (.getfield 124, 3) := by decide +kernel
theorem dX7_digest_38 : decode cX7_digest 38 = .ok (.if_icmp .ge 37, 3) := by decide +kernel
theorem dX7_digest_41 : decode cX7_digest 41 = .ok (.ldc2_w 202, 3) := by decide +kernel
theorem dX7_digest_44 : decode cX7_digest 44 = .ok (.lload_n 1, 1) := by decide +kernel
theorem dX7_digest_45 : decode cX7_digest 45 = .ok (.lmul, 1) := by decide +kernel
theorem dX7_digest_46 : decode cX7_digest 46 = .ok (.aload_n 0, 1) := by decide +kernel
theorem dX7_digest_47 : decode cX7_digest 47 = .ok (.getfield 44, 3) := by decide +kernel
theorem dX7_digest_50 : decode cX7_digest 50 = .ok (.iload_n 3, 1) := by decide +kernel
theorem dX7_digest_51 : decode cX7_digest 51 = .ok (.iaload, 1) := by decide +kernel
theorem dX7_digest_52 : decode cX7_digest 52 = .ok (.i2l, 1) := by decide +kernel
theorem dX7_digest_53 : decode cX7_digest 53 = .ok (.ladd, 1) := by decide +kernel
theorem dX7_digest_54 : decode cX7_digest 54 = .ok (.lstore_n 1, 1) := by decide +kernel
theorem dX7_digest_55 : decode cX7_digest 55 = .ok (.ldc2_w 202, 3) := by decide +kernel
theorem dX7_digest_58 : decode cX7_digest 58 = .ok (.lload_n 1, 1) := by decide +kernel
theorem dX7_digest_59 : decode cX7_digest 59 = .ok (.lmul, 1) := by decide +kernel
theorem dX7_digest_60 : decode cX7_digest 60 = .ok (.aload_n 0, 1) := by decide +kernel
theorem dX7_digest_61 : decode cX7_digest 61 = .ok (.getfield 47, 3) := by decide +kernel
theorem dX7_digest_64 : decode cX7_digest 64 = .ok (.iload_n 3, 1) := by decide +kernel
theorem dX7_digest_65 : decode cX7_digest 65 = .ok (.iaload, 1) := by decide +kernel
theorem dX7_digest_66 : decode cX7_digest 66 = .ok (.i2l, 1) := by decide +kernel
theorem dX7_digest_67 : decode cX7_digest 67 = .ok (.ladd, 1) := by decide +kernel
theorem dX7_digest_68 : decode cX7_digest 68 = .ok (.lstore_n 1, 1) := by decide +kernel
theorem dX7_digest_69 : decode cX7_digest 69 = .ok (.iinc 3 1, 3) := by decide +kernel
theorem dX7_digest_72 : decode cX7_digest 72 = .ok (.goto (-39), 3) := by decide +kernel
theorem dX7_digest_75 : decode cX7_digest 75 = .ok (.iconst 0, 1) := by decide +kernel
theorem dX7_digest_76 : decode cX7_digest 76 = .ok (.istore_n 3, 1) := by decide +kernel
theorem dX7_digest_77 : decode cX7_digest 77 = .ok (.iload_n 3, 1) := by decide +kernel
theorem dX7_digest_78 : decode cX7_digest 78 = .ok (.aload_n 0, 1) := by decide +kernel
theorem dX7_digest_79 : decode cX7_digest 79 = .ok (.getfield 87, 3) := by decide +kernel
theorem dX7_digest_82 : decode cX7_digest 82 = .ok (.if_icmp .ge 91, 3) := by decide +kernel
theorem dX7_digest_85 : decode cX7_digest 85 = .ok (.ldc2_w 202, 3) := by decide +kernel
theorem dX7_digest_88 : decode cX7_digest 88 = .ok (.lload_n 1, 1) := by decide +kernel
theorem dX7_digest_89 : decode cX7_digest 89 = .ok (.lmul, 1) := by decide +kernel
theorem dX7_digest_90 : decode cX7_digest 90 = .ok (.aload_n 0, 1) := by decide +kernel
theorem dX7_digest_91 : decode cX7_digest 91 = .ok (.getfield 59, 3) := by decide +kernel
theorem dX7_digest_94 : decode cX7_digest 94 = .ok (.iload_n 3, 1) := by decide +kernel
theorem dX7_digest_95 : decode cX7_digest 95 = .ok (.iaload, 1) := by decide +kernel
theorem dX7_digest_96 : decode cX7_digest 96 = .ok (.i2l, 1) := by decide +kernel
theorem dX7_digest_97 : decode cX7_digest 97 = .ok (.ladd, 1) := by decide +kernel
theorem dX7_digest_98 : decode cX7_digest 98 = .ok (.lstore_n 1, 1) := by decide +kernel
theorem dX7_digest_99 : decode cX7_digest 99 = .ok (.iconst 0, 1) := by decide +kernel
theorem dX7_digest_100 : decode cX7_digest 100 = .ok (.istore 4, 2) := by decide +kernel
theorem dX7_digest_102 : decode cX7_digest 102 = .ok (.iload 4, 2) := by decide +kernel
theorem dX7_digest_104 : decode cX7_digest 104 = .ok (.aload_n 0, 1) := by decide +kernel
theorem dX7_digest_105 : decode cX7_digest 105 = .ok (.getfield 19, 3) := by decide +kernel
theorem dX7_digest_108 : decode cX7_digest 108 = .ok (.if_icmp .ge 59, 3) := by decide +kernel
theorem dX7_digest_111 : decode cX7_digest 111 = .ok (.lconst 0, 1) := by decide +kernel
theorem dX7_digest_112 : decode cX7_digest 112 = .ok (.lstore 5, 2) := by decide +kernel
theorem dX7_digest_114 : decode cX7_digest 114 = .ok (.iconst 0, 1) := by decide +kernel
theorem dX7_digest_115 : decode cX7_digest 115 = .ok (.istore 7, 2) := by decide +kernel
theorem dX7_digest_117 : decode cX7_digest 117 = .ok (.iload 7, 2) := by decide +kernel
theorem dX7_digest_119 : decode cX7_digest 119 = .ok (.sipush 400, 3) := by decide +kernel
theorem dX7_digest_122 : decode cX7_digest 122 = .ok (.if_icmp .ge 30, 3) := by decide +kernel
theorem dX7_digest_125 : decode cX7_digest 125 = .ok (.lload 5, 2) := by decide +kernel
theorem dX7_digest_127 : decode cX7_digest 127 = .ok (.iload 7, 2) := by decide +kernel
theorem dX7_digest_129 : decode cX7_digest 129 = .ok (.i2l, 1) := by decide +kernel
theorem dX7_digest_130 : decode cX7_digest 130 = .ok (.lconst 1, 1) := by decide +kernel
theorem dX7_digest_131 : decode cX7_digest 131 = .ok (.ladd, 1) := by decide +kernel
theorem dX7_digest_132 : decode cX7_digest 132 = .ok (.aload_n 0, 1) := by decide +kernel
theorem dX7_digest_133 : decode cX7_digest 133 = .ok (.iload_n 3, 1) := by decide +kernel
theorem dX7_digest_134 : decode cX7_digest 134 = .ok (.iload 4, 2) := by decide +kernel
theorem dX7_digest_136 : decode cX7_digest 136 = .ok (.iload 7, 2) := by decide +kernel
theorem dX7_digest_138 : decode cX7_digest 138 = .ok (.invokevirtual 143, 3) := by decide +kernel
theorem dX7_digest_141 : decode cX7_digest 141 = .ok (.i2l, 1) := by decide +kernel
theorem dX7_digest_142 : decode cX7_digest 142 = .ok (.lmul, 1) := by decide +kernel
theorem dX7_digest_143 : decode cX7_digest 143 = .ok (.ladd, 1) := by decide +kernel
theorem dX7_digest_144 : decode cX7_digest 144 = .ok (.lstore 5, 2) := by decide +kernel
theorem dX7_digest_146 : decode cX7_digest 146 = .ok (.iinc 7 1, 3) := by decide +kernel
theorem dX7_digest_149 : decode cX7_digest 149 = .ok (.goto (-32), 3) := by decide +kernel
theorem dX7_digest_152 : decode cX7_digest 152 = .ok (.ldc2_w 202, 3) := by decide +kernel
theorem dX7_digest_155 : decode cX7_digest 155 = .ok (.lload_n 1, 1) := by decide +kernel
theorem dX7_digest_156 : decode cX7_digest 156 = .ok (.lmul, 1) := by decide +kernel
theorem dX7_digest_157 : decode cX7_digest 157 = .ok (.lload 5, 2) := by decide +kernel
theorem dX7_digest_159 : decode cX7_digest 159 = .ok (.ladd, 1) := by decide +kernel
theorem dX7_digest_160 : decode cX7_digest 160 = .ok (.lstore_n 1, 1) := by decide +kernel
theorem dX7_digest_161 : decode cX7_digest 161 = .ok (.iinc 4 1, 3) := by decide +kernel
theorem dX7_digest_164 : decode cX7_digest 164 = .ok (.goto (-62), 3) := by decide +kernel
theorem dX7_digest_167 : decode cX7_digest 167 = .ok (.iinc 3 1, 3) := by decide +kernel
theorem dX7_digest_170 : decode cX7_digest 170 = .ok (.goto (-93), 3) := by decide +kernel
theorem dX7_digest_173 : decode cX7_digest 173 = .ok (.iconst 0, 1) := by decide +kernel
theorem dX7_digest_174 : decode cX7_digest 174 = .ok (.istore_n 3, 1) := by decide +kernel
theorem dX7_digest_175 : decode cX7_digest 175 = .ok (.iload_n 3, 1) := by decide +kernel
theorem dX7_digest_176 : decode cX7_digest 176 = .ok (.aload_n 0, 1) := by decide +kernel
theorem dX7_digest_177 : decode cX7_digest 177 = .ok (.getfield 90, 3) := by decide +kernel
theorem dX7_digest_180 : decode cX7_digest 180 = .ok (.if_icmp .ge 57, 3) := by decide +kernel
theorem dX7_digest_183 : decode cX7_digest 183 = .ok (.iconst 0, 1) := by decide +kernel
theorem dX7_digest_184 : decode cX7_digest 184 = .ok (.istore 4, 2) := by decide +kernel
theorem dX7_digest_186 : decode cX7_digest 186 = .ok (.iload 4, 2) := by decide +kernel
theorem dX7_digest_188 : decode cX7_digest 188 = .ok (.aload_n 0, 1) := by decide +kernel
theorem dX7_digest_189 : decode cX7_digest 189 = .ok (.getfield 66, 3) := by decide +kernel
theorem dX7_digest_192 : decode cX7_digest 192 = .ok (.iload_n 3, 1) := by decide +kernel
theorem dX7_digest_193 : decode cX7_digest 193 = .ok (.iaload, 1) := by decide +kernel
theorem dX7_digest_194 : decode cX7_digest 194 = .ok (.aload_n 0, 1) := by decide +kernel
theorem dX7_digest_195 : decode cX7_digest 195 = .ok (.getfield 69, 3) := by decide +kernel
theorem dX7_digest_198 : decode cX7_digest 198 = .ok (.iload_n 3, 1) := by decide +kernel
theorem dX7_digest_199 : decode cX7_digest 199 = .ok (.iaload, 1) := by decide +kernel
theorem dX7_digest_200 : decode cX7_digest 200 = .ok (.imul, 1) := by decide +kernel
theorem dX7_digest_201 : decode cX7_digest 201 = .ok (.if_icmp .ge 30, 3) := by decide +kernel
theorem dX7_digest_204 : decode cX7_digest 204 = .ok (.ldc2_w 202, 3) := by decide +kernel
theorem dX7_digest_207 : decode cX7_digest 207 = .ok (.lload_n 1, 1) := by decide +kernel
theorem dX7_digest_208 : decode cX7_digest 208 = .ok (.lmul, 1) := by decide +kernel
theorem dX7_digest_209 : decode cX7_digest 209 = .ok (.aload_n 0, 1) := by decide +kernel
theorem dX7_digest_210 : decode cX7_digest 210 = .ok (.getfield 72, 3) := by decide +kernel
theorem dX7_digest_213 : decode cX7_digest 213 = .ok (.sipush 256, 3) := by decide +kernel
theorem dX7_digest_216 : decode cX7_digest 216 = .ok (.iload_n 3, 1) := by decide +kernel
theorem dX7_digest_217 : decode cX7_digest 217 = .ok (.imul, 1) := by decide +kernel
theorem dX7_digest_218 : decode cX7_digest 218 = .ok (.iload 4, 2) := by decide +kernel
theorem dX7_digest_220 : decode cX7_digest 220 = .ok (.iadd, 1) := by decide +kernel
theorem dX7_digest_221 : decode cX7_digest 221 = .ok (.iaload, 1) := by decide +kernel
theorem dX7_digest_222 : decode cX7_digest 222 = .ok (.i2l, 1) := by decide +kernel
theorem dX7_digest_223 : decode cX7_digest 223 = .ok (.ladd, 1) := by decide +kernel
theorem dX7_digest_224 : decode cX7_digest 224 = .ok (.lstore_n 1, 1) := by decide +kernel
theorem dX7_digest_225 : decode cX7_digest 225 = .ok (.iinc 4 1, 3) := by decide +kernel
theorem dX7_digest_228 : decode cX7_digest 228 = .ok (.goto (-42), 3) := by decide +kernel
theorem dX7_digest_231 : decode cX7_digest 231 = .ok (.iinc 3 1, 3) := by decide +kernel
theorem dX7_digest_234 : decode cX7_digest 234 = .ok (.goto (-59), 3) := by decide +kernel
theorem dX7_digest_237 : decode cX7_digest 237 = .ok (.lload_n 1, 1) := by decide +kernel
theorem dX7_digest_238 : decode cX7_digest 238 = .ok (.lreturn, 1) := by decide +kernel
end
section
theorem dJ9_floorMod_7cf53_0 : decode cJ9_floorMod_7cf53 0 = .ok (.iload_n 0, 1) := by decide +kernel
theorem dJ9_floorMod_7cf53_1 : decode cJ9_floorMod_7cf53 1 = .ok (.iload_n 1, 1) := by decide +kernel
theorem dJ9_floorMod_7cf53_2 : decode cJ9_floorMod_7cf53 2 = .ok (.irem, 1) := by decide +kernel
theorem dJ9_floorMod_7cf53_3 : decode cJ9_floorMod_7cf53 3 = .ok (.istore_n 2, 1) := by decide +kernel
theorem dJ9_floorMod_7cf53_4 : decode cJ9_floorMod_7cf53 4 = .ok (.iload_n 0, 1) := by decide +kernel
theorem dJ9_floorMod_7cf53_5 : decode cJ9_floorMod_7cf53 5 = .ok (.iload_n 1, 1) := by decide +kernel
theorem dJ9_floorMod_7cf53_6 : decode cJ9_floorMod_7cf53 6 = .ok (.ixor, 1) := by decide +kernel
theorem dJ9_floorMod_7cf53_7 : decode cJ9_floorMod_7cf53 7 = .ok (.ifCond .ge 11, 3) := by decide +kernel
theorem dJ9_floorMod_7cf53_10 : decode cJ9_floorMod_7cf53 10 = .ok (.iload_n 2, 1) := by decide +kernel
theorem dJ9_floorMod_7cf53_11 : decode cJ9_floorMod_7cf53 11 = .ok (.ifCond .eq 7, 3) := by decide +kernel
theorem dJ9_floorMod_7cf53_14 : decode cJ9_floorMod_7cf53 14 = .ok (.iload_n 2, 1) := by decide +kernel
theorem dJ9_floorMod_7cf53_15 : decode cJ9_floorMod_7cf53 15 = .ok (.iload_n 1, 1) := by decide +kernel
theorem dJ9_floorMod_7cf53_16 : decode cJ9_floorMod_7cf53 16 = .ok (.iadd, 1) := by decide +kernel
theorem dJ9_floorMod_7cf53_17 : decode cJ9_floorMod_7cf53 17 = .ok (.ireturn, 1) := by decide +kernel
theorem dJ9_floorMod_7cf53_18 : decode cJ9_floorMod_7cf53 18 = .ok (.iload_n 2, 1) := by decide +kernel
theorem dJ9_floorMod_7cf53_19 : decode cJ9_floorMod_7cf53 19 = .ok (.ireturn, 1) := by decide +kernel
theorem dJ9_abs_0f7a4_0 : decode cJ9_abs_0f7a4 0 = .ok (.iload_n 0, 1) := by decide +kernel
theorem dJ9_abs_0f7a4_1 : decode cJ9_abs_0f7a4 1 = .ok (.ifCond .ge 8, 3) := by decide +kernel
theorem dJ9_abs_0f7a4_4 : decode cJ9_abs_0f7a4 4 = .ok (.iload_n 0, 1) := by decide +kernel
theorem dJ9_abs_0f7a4_5 : decode cJ9_abs_0f7a4 5 = .ok (.ineg, 1) := by decide +kernel
theorem dJ9_abs_0f7a4_6 : decode cJ9_abs_0f7a4 6 = .ok (.goto 4, 3) := by decide +kernel
theorem dJ9_abs_0f7a4_9 : decode cJ9_abs_0f7a4 9 = .ok (.iload_n 0, 1) := by decide +kernel
theorem dJ9_abs_0f7a4_10 : decode cJ9_abs_0f7a4 10 = .ok (.ireturn, 1) := by decide +kernel
theorem dJ9_max_7cf53_0 : decode cJ9_max_7cf53 0 = .ok (.iload_n 0, 1) := by decide +kernel
theorem dJ9_max_7cf53_1 : decode cJ9_max_7cf53 1 = .ok (.iload_n 1, 1) := by decide +kernel
theorem dJ9_max_7cf53_2 : decode cJ9_max_7cf53 2 = .ok (.if_icmp .lt 7, 3) := by decide +kernel
theorem dJ9_max_7cf53_5 : decode cJ9_max_7cf53 5 = .ok (.iload_n 0, 1) := by decide +kernel
theorem dJ9_max_7cf53_6 : decode cJ9_max_7cf53 6 = .ok (.goto 4, 3) := by decide +kernel
theorem dJ9_max_7cf53_9 : decode cJ9_max_7cf53 9 = .ok (.iload_n 1, 1) := by decide +kernel
theorem dJ9_max_7cf53_10 : decode cJ9_max_7cf53 10 = .ok (.ireturn, 1) := by decide +kernel
theorem dJ9_min_7cf53_0 : decode cJ9_min_7cf53 0 = .ok (.iload_n 0, 1) := by decide +kernel
theorem dJ9_min_7cf53_1 : decode cJ9_min_7cf53 1 = .ok (.iload_n 1, 1) := by decide +kernel
theorem dJ9_min_7cf53_2 : decode cJ9_min_7cf53 2 = .ok (.if_icmp .gt 7, 3) := by decide +kernel
theorem dJ9_min_7cf53_5 : decode cJ9_min_7cf53 5 = .ok (.iload_n 0, 1) := by decide +kernel
theorem dJ9_min_7cf53_6 : decode cJ9_min_7cf53 6 = .ok (.goto 4, 3) := by decide +kernel
theorem dJ9_min_7cf53_9 : decode cJ9_min_7cf53 9 = .ok (.iload_n 1, 1) := by decide +kernel
theorem dJ9_min_7cf53_10 : decode cJ9_min_7cf53 10 = .ok (.ireturn, 1) := by decide +kernel
end
section
/-! whole numbers for ints and longs -/
def kb_J (a : Int) : Int32 := Int32.ofInt a
def kb_L (a : Int) : Int64 := Int64.ofInt a
abbrev kb_i (a : Int) : Value := .int (kb_J a)
abbrev kb_l (a : Int) : Value := .long (kb_L a)
def kb_rg (a : Int) : Prop := -2147483648 ≤ a ∧ a < 2147483648
def kb_rl (a : Int) : Prop := -9223372036854775808 ≤ a ∧ a < 9223372036854775808
theorem kb_Ji {a : Int} (h : kb_rg a) : (kb_J a).toInt = a := Int32.toInt_ofInt_of_le (by have := h.1; omega) (by have := h.2; omega)
theorem kb_Li {a : Int} (h : kb_rl a) : (kb_L a).toInt = a := Int64.toInt_ofInt_of_le (by have := h.1; omega) (by have := h.2; omega)
theorem kb_ofJ (x : Int32) : x = kb_J x.toInt := (Int32.ofInt_toInt x).symm
theorem kb_rgJ (x : Int32) : kb_rg x.toInt := ⟨Int32.le_toInt x, Int32.toInt_lt x⟩
theorem kb_Jadd (a b : Int) : kb_J (a + b) = kb_J a + kb_J b := Int32.ofInt_add a b
theorem kb_Jsub (a b : Int) : kb_J (a - b) = kb_J a - kb_J b := Int32.ofInt_sub a b
theorem kb_Jmul (a b : Int) : kb_J (a * b) = kb_J a * kb_J b := Int32.ofInt_mul a b
theorem kb_Jneg (a : Int) : kb_J (-a) = -kb_J a := Int32.ofInt_neg a
theorem kb_Ladd (a b : Int) : kb_L (a + b) = kb_L a + kb_L b := Int64.ofInt_add a b
theorem kb_Lsub (a b : Int) : kb_L (a - b) = kb_L a - kb_L b := Int64.ofInt_sub a b
theorem kb_Lmul (a b : Int) : kb_L (a * b) = kb_L a * kb_L b := Int64.ofInt_mul a b
theorem kb_Jlt {a b : Int} (ha : kb_rg a) (hb : kb_rg b) : kb_J a < kb_J b ↔ a < b := by rw [Int32.lt_iff_toInt_lt, kb_Ji ha, kb_Ji hb]
theorem kb_Jle {a b : Int} (ha : kb_rg a) (hb : kb_rg b) : kb_J a ≤ kb_J b ↔ a ≤ b := by rw [Int32.le_iff_toInt_le, kb_Ji ha, kb_Ji hb]
theorem kb_Jeq {a b : Int} (ha : kb_rg a) (hb : kb_rg b) : kb_J a = kb_J b ↔ a = b := by rw [← Int32.toInt_inj, kb_Ji ha, kb_Ji hb]
theorem kb_Llt {a b : Int} (ha : kb_rl a) (hb : kb_rl b) : kb_L a < kb_L b ↔ a < b := by rw [Int64.lt_iff_toInt_lt, kb_Li ha, kb_Li hb]
theorem kb_Leq {a b : Int} (ha : kb_rl a) (hb : kb_rl b) : kb_L a = kb_L b ↔ a = b := by rw [← Int64.toInt_inj, kb_Li ha, kb_Li hb]
theorem kb_rg0 : kb_rg 0 := by unfold kb_rg; omega
theorem kb_rl0 : kb_rl 0 := by unfold kb_rl; omega
theorem kb_J0 : kb_J 0 = 0 := by decide
theorem kb_L0 : kb_L 0 = 0 := by decide
theorem kb_Jz {a : Int} (ha : kb_rg a) : kb_J a = 0 ↔ a = 0 := by rw [← kb_J0]; exact kb_Jeq ha kb_rg0
theorem kb_Lz {a : Int} (ha : kb_rl a) : kb_L a = 0 ↔ a = 0 := by rw [← kb_L0]; exact kb_Leq ha kb_rl0
theorem kb_JL {a : Int} (ha : kb_rg a) : (kb_J a).toInt64 = kb_L a := by
  have h1 : Int32.minValue.toInt = -2147483648 := by decide
  have h2 : Int32.maxValue.toInt = 2147483647 := by decide
  exact Int32.toInt64_ofInt (by have := ha.1; omega) (by have := ha.2; omega)
theorem kb_LJ (a : Int) : (kb_L a).toInt32 = kb_J a := Int64.toInt32_ofInt
theorem kb_Jdiv {a b : Int} (ha : kb_rg a) (hb : kb_rg b) : kb_J (a.tdiv b) = kb_J a / kb_J b := by
  apply Int32.toInt_inj.mp
  rw [Int32.toInt_div, kb_Ji ha, kb_Ji hb]
  exact Int32.toInt_ofInt
theorem kb_Ldiv {a b : Int} (ha : kb_rl a) (hb : kb_rl b) : kb_L (a.tdiv b) = kb_L a / kb_L b := by
  apply Int64.toInt_inj.mp
  rw [Int64.toInt_div, kb_Li ha, kb_Li hb]
  exact Int64.toInt_ofInt
theorem kb_Jrem {a b : Int} (ha : kb_rg a) (hb : kb_rg b) : kb_J (a.tmod b) = kb_J a - kb_J a / kb_J b * kb_J b := by
  rw [← kb_Jdiv ha hb, ← kb_Jmul, ← kb_Jsub]
  congr 1
  have := Int.tmod_add_mul_tdiv a b
  rw [Int.mul_comm] at this
  omega
theorem kb_td {a b : Int} (h : 0 ≤ a) : a.tdiv b = a / b := Int.tdiv_eq_ediv_of_nonneg h
theorem kb_tm {a b : Int} (h : 0 ≤ a) : a.tmod b = a % b := Int.tmod_eq_emod_of_nonneg h
theorem kb_Jin {a : Int} {n : Nat} (ha : kb_rg a) (h : 0 ≤ a ∧ a < n) : vp_in (kb_J a) n := vp_in_iff.mpr (by rw [kb_Ji ha]; exact h)
theorem kb_Jcl {a : Int} (ha : kb_rg a) : (kb_J a).toNatClampNeg = a.toNat := by
  show (kb_J a).toInt.toNat = a.toNat
  rw [kb_Ji ha]
def kb_b (q : Prop) [Decidable q] : Int := if q then 1 else 0
theorem kb_b1 {q : Prop} [Decidable q] (h : q) : kb_b q = 1 := if_pos h
theorem kb_b0 {q : Prop} [Decidable q] (h : ¬ q) : kb_b q = 0 := if_neg h
theorem kb_brg (q : Prop) [Decidable q] : kb_rg (kb_b q) := by
  unfold kb_b kb_rg
  split <;> omega
theorem kb_bz {q : Prop} [Decidable q] : kb_b q = 0 ↔ ¬ q := by
  unfold kb_b
  by_cases h : q <;> simp [h]
theorem kb_bn {q : Prop} [Decidable q] : kb_b q ≠ 0 ↔ q := by
  unfold kb_b
  by_cases h : q <;> simp [h]
theorem kb_and1 (a : Int) : kb_J a &&& kb_J 1 = kb_J (a % 2) := by
  apply Int32.toBitVec_inj.mp
  show (kb_J a).toBitVec &&& (kb_J 1).toBitVec = (kb_J (a % 2)).toBitVec
  have e1 : (kb_J 1).toBitVec = 1#32 := by decide
  have h : a % 2 = 0 ∨ a % 2 = 1 := by omega
  have e2 : (kb_J a).toBitVec = BitVec.ofInt 32 a := rfl
  rw [e1, e2]
  apply BitVec.eq_of_toNat_eq
  rw [BitVec.toNat_and, show (1#32).toNat = 2 ^ 1 - 1 from rfl, Nat.and_two_pow_sub_one_eq_mod, BitVec.toNat_ofInt]
  rcases h with h | h
  · rw [h, show (kb_J 0).toBitVec.toNat = 0 from by decide]
    omega
  · rw [h, show (kb_J 1).toBitVec.toNat = 1 from by decide]
    omega
theorem kb_and31 (a : Int) : kb_J a &&& kb_J 31 = kb_J (a % 32) := by
  apply Int32.toBitVec_inj.mp
  show (kb_J a).toBitVec &&& (kb_J 31).toBitVec = (kb_J (a % 32)).toBitVec
  have e1 : (kb_J 31).toBitVec = 31#32 := by decide
  have e2 : (kb_J a).toBitVec = BitVec.ofInt 32 a := rfl
  have e3 : (kb_J (a % 32)).toBitVec = BitVec.ofInt 32 (a % 32) := rfl
  rw [e1, e2, e3]
  apply BitVec.eq_of_toNat_eq
  rw [BitVec.toNat_and, show (31#32).toNat = 2 ^ 5 - 1 from rfl, Nat.and_two_pow_sub_one_eq_mod, BitVec.toNat_ofInt, BitVec.toNat_ofInt]
  omega
theorem kb_shr {a k : Int} (ha : kb_rg a) (h0 : 0 ≤ k) (h1 : k < 32) : kb_J a >>> (kb_J k &&& 31) = kb_J (a / 2 ^ k.toNat) := by
  obtain ⟨n, rfl⟩ : ∃ n : Nat, k = n := ⟨k.toNat, by omega⟩
  have e0 : kb_J (n : Int) &&& 31 = kb_J (n : Int) := by
    have h2 := kb_and31 (n : Int)
    rw [show kb_J 31 = 31 from by decide] at h2
    rw [h2, show (n : Int) % 32 = n by omega]
  have e1 : ((kb_J (n : Int)).toBitVec.smod 32).toNat = n := by
    have h3 : ∀ j : Nat, j < 32 → ((kb_J (j : Int)).toBitVec.smod 32).toNat = j := by decide
    exact h3 n (by omega)
  rw [e0]
  apply Int32.toInt_inj.mp
  rw [pk_shr _ _ n e1, kb_Ji ha, kb_Ji]
  · rw [Int.shiftRight_eq_div_pow]; rfl
  · have h4 : (0 : Int) < 2 ^ n := Int.pow_pos (by omega)
    have h5 : (1 : Int) ≤ 2 ^ n := h4
    constructor
    · have := ha.1
      rw [show ((n : Int)).toNat = n from rfl]
      apply Int.le_ediv_of_mul_le h4
      have h6 : (2147483648 : Int) * 1 ≤ 2147483648 * 2 ^ n := Int.mul_le_mul_of_nonneg_left h5 (by omega)
      omega
    · have := ha.2
      rw [show ((n : Int)).toNat = n from rfl]
      apply Int.ediv_lt_of_lt_mul h4
      have h6 : (2147483648 : Int) * 1 ≤ 2147483648 * 2 ^ n := Int.mul_le_mul_of_nonneg_left h5 (by omega)
      omega
theorem kb_shl {k : Int} (h0 : 0 ≤ k) (h1 : k < 31) : kb_J 1 <<< (kb_J k &&& 31) = kb_J (2 ^ k.toNat) := by
  obtain ⟨n, rfl⟩ : ∃ n : Nat, k = n := ⟨k.toNat, by omega⟩
  have h3 : ∀ j : Nat, j < 31 → kb_J 1 <<< (kb_J (j : Int) &&& 31) = kb_J (2 ^ j) := by decide
  exact h3 n (by omega)
theorem kb_lcmp (a b : Int) (ha : kb_rl a) (hb : kb_rl b) : lg_cmp (kb_L a) (kb_L b) = if b < a then 1 else if a = b then 0 else -1 := by
  unfold lg_cmp
  simp only [kb_Llt hb ha, kb_Leq ha hb]
def kb_z (a b : Int) : Int := if b < a then 1 else if a = b then 0 else -1
theorem kb_zJ (a b : Int) (ha : kb_rl a) (hb : kb_rl b) : lg_cmp (kb_L a) (kb_L b) = kb_J (kb_z a b) := by
  rw [kb_lcmp a b ha hb]
  unfold kb_z
  split
  · decide
  · split <;> decide
theorem kb_Jmax {a b : Int} (ha : kb_rg a) (hb : kb_rg b) : kb_J (max a b) = if kb_J a < kb_J b then kb_J b else kb_J a := by
  by_cases h : a < b
  · rw [if_pos ((kb_Jlt ha hb).mpr h), show max a b = b by omega]
  · rw [if_neg (fun q => h ((kb_Jlt ha hb).mp q)), show max a b = a by omega]
theorem kb_Jmin {a b : Int} (ha : kb_rg a) (hb : kb_rg b) : kb_J (min a b) = if kb_J b < kb_J a then kb_J b else kb_J a := by
  by_cases h : b < a
  · rw [if_pos ((kb_Jlt hb ha).mpr h), show min a b = b by omega]
  · rw [if_neg (fun q => h ((kb_Jlt hb ha).mp q)), show min a b = a by omega]
theorem kb_Jabs {a : Int} (ha : kb_rg a) (_ : a ≠ -2147483648) : kb_J (max a (-a)) = if 0 ≤ kb_J a then kb_J a else 0 - kb_J a := by
  have e := kb_Jle kb_rg0 ha
  rw [kb_J0] at e
  by_cases h : 0 ≤ a
  · rw [if_pos (e.mpr h), show max a (-a) = a by omega]
  · rw [if_neg (fun q => h (e.mp q)), show max a (-a) = 0 - a by omega, kb_Jsub, kb_J0]
theorem kb_xorP {a b : Int} (ha : kb_rg a) (hb : kb_rg b) (h0 : 0 ≤ a) (h1 : 0 ≤ b) : ∃ v : Int, 0 ≤ v ∧ kb_rg v ∧ kb_J a ^^^ kb_J b = kb_J v := by
  refine ⟨(kb_J a ^^^ kb_J b).toInt, ?_, kb_rgJ _, kb_ofJ _⟩
  show 0 ≤ ((kb_J a).toBitVec ^^^ (kb_J b).toBitVec).toInt
  have m1 : (kb_J a).toBitVec.msb = false := by
    rw [BitVec.msb_eq_toInt]
    have : (kb_J a).toBitVec.toInt = a := kb_Ji ha
    rw [this]
    simp; omega
  have m2 : (kb_J b).toBitVec.msb = false := by
    rw [BitVec.msb_eq_toInt]
    have : (kb_J b).toBitVec.toInt = b := kb_Ji hb
    rw [this]
    simp; omega
  have m3 : ((kb_J a).toBitVec ^^^ (kb_J b).toBitVec).msb = false := by rw [BitVec.msb_xor, m1, m2]; rfl
  rw [BitVec.msb_eq_toInt] at m3
  simpa using m3
theorem kb_zrg (a b : Int) : kb_rg (kb_z a b) := by
  unfold kb_z kb_rg
  split
  · omega
  · split <;> omega

/-! the world: 37 cells of a fixed shape, and what they hold -/
abbrev kb_M : Type := Nat → Int → Int
abbrev kb_T : Type := (Nat × List (Option Nat)) ⊕ (Nat × Nat)
def kb_ok (M : kb_M) : Prop := ∀ (q : Nat) (k : Int), kb_rg (M q k)
def kb_wr (M : kb_M) (q : Nat) (k a : Int) : kb_M := fun x => if x = q then (fun j => if j = k then a else M x j) else M x
def kb_fv (ad : Nat → Nat) (f : Int → Int) (k : Nat) (o : Option Nat) : Value := match o with
  | some j => .ref (ad j)
  | none => kb_i (f (k : Int))
def kb_en (ad : Nat → Nat) (cy : Nat → ClassId) (f : Int → Int) (d : kb_T) : va_E := match d with
  | .inl o => .inr (o.1, o.2.mapIdx (kb_fv ad f))
  | .inr a => .inl (cy a.1, a.2, .inl (fun k => kb_J (f (k : Int))))
def kb_sh : List kb_T := [.inl (6, [some 1, some 2, some 3, some 4, some 5, some 6]), .inl (3, [some 7, some 8, some 9, some 10, none, none, none, none, none, none, none]), .inl (5, [some 11, some 12, some 13, some 14, some 15, none]), .inl (1, [some 16, some 17, none, none, none]), .inl (4, [some 18, some 19, some 20, none, none]), .inl (0, [some 21, none, none, none]), .inl (2, [none, none]), .inr (0, 16), .inr (1, 16), .inr (0, 16), .inr (0, 16), .inr (0, 8), .inr (0, 8), .inr (0, 8), .inr (0, 8), .inr (0, 8), .inr (0, 38400), .inr (0, 6), .inr (0, 1024), .inr (0, 4), .inr (0, 4), .inr (0, 144), .inl (7, [none, some 23, some 24, none, none, none, none, none, none, none, none, some 25, some 26, some 27, some 28, some 29, none, some 30, some 31, none, some 32, some 33, some 34, some 35, none, none, none, some 36]), .inr (0, 16), .inr (1, 16), .inr (0, 8), .inr (0, 8), .inr (0, 8), .inr (0, 8), .inr (0, 8), .inr (0, 6), .inr (0, 38400), .inr (0, 4), .inr (0, 4), .inr (0, 1024), .inr (0, 256), .inr (0, 144)]
def kb_ws (ad : Nat → Nat) (cy : Nat → ClassId) (M : kb_M) : va_W := kb_sh.mapIdx (fun q d => (ad q, kb_en ad cy (M q) d))
abbrev kb_ty (cy : Nat → ClassId) : List (ClassId × FieldType) := [(cy 0, .int), (cy 1, .boolean)]
theorem kb_wsat {ad : Nat → Nat} {cy : Nat → ClassId} {M : kb_M} {q : Nat} {d : kb_T} (h : kb_sh[q]? = some d) : (kb_ws ad cy M)[q]? = some (ad q, kb_en ad cy (M q) d) := by
  unfold kb_ws
  rw [List.getElem?_mapIdx, h]
  rfl
theorem kb_fvat {ad : Nat → Nat} {f : Int → Int} {fl : List (Option Nat)} {k : Nat} {o : Option Nat} (h : fl[k]? = some o) : (fl.mapIdx (kb_fv ad f))[k]? = some (kb_fv ad f k o) := by
  rw [List.getElem?_mapIdx, h]
  rfl
theorem kb_wr_same (M : kb_M) (q : Nat) (k a : Int) : kb_wr M q k a q = fun j => if j = k then a else M q j := by
  unfold kb_wr
  simp
theorem kb_wr_other (M : kb_M) {q x : Nat} (k a : Int) (h : x ≠ q) : kb_wr M q k a x = M x := by
  unfold kb_wr
  simp [h]
theorem kb_wset {ad : Nat → Nat} {cy : Nat → ClassId} {M : kb_M} {q : Nat} {d : kb_T} (h : kb_sh[q]? = some d) (k a : Int) : (kb_ws ad cy M).set q (ad q, kb_en ad cy (kb_wr M q k a q) d) = kb_ws ad cy (kb_wr M q k a) := by
  apply List.ext_getElem?
  intro i
  unfold kb_ws
  rw [List.getElem?_set]
  by_cases hi : q = i
  · subst hi
    have hl : q < (List.mapIdx (fun q d => (ad q, kb_en ad cy (M q) d)) kb_sh).length := by
      rw [List.length_mapIdx]
      exact (List.getElem?_eq_some_iff.mp h).1
    rw [if_pos rfl, if_pos hl, List.getElem?_mapIdx, h]
    rfl
  · rw [if_neg hi, List.getElem?_mapIdx, List.getElem?_mapIdx, kb_wr_other M k a (fun q => hi q.symm)]
theorem kb_fvset {ad : Nat → Nat} {M : kb_M} {q k : Nat} {a : Int} {fl : List (Option Nat)} (h : fl[k]? = some none) : (fl.mapIdx (kb_fv ad (M q))).set k (kb_i a) = fl.mapIdx (kb_fv ad (kb_wr M q k a q)) := by
  apply List.ext_getElem?
  intro i
  rw [List.getElem?_set]
  by_cases hi : k = i
  · subst hi
    have hl : k < (List.mapIdx (kb_fv ad (M q)) fl).length := by
      rw [List.length_mapIdx]
      exact (List.getElem?_eq_some_iff.mp h).1
    rw [if_pos rfl, if_pos hl, List.getElem?_mapIdx, h, kb_wr_same]
    show some (kb_i a) = some (kb_i (if ((k : Int) = (k : Int)) then a else M q k))
    rw [if_pos rfl]
  · rw [if_neg hi, List.getElem?_mapIdx, List.getElem?_mapIdx, kb_wr_same]
    cases fl[i]? with
    | none => rfl
    | some o =>
      cases o with
      | some j => rfl
      | none =>
        show some (kb_i (M q i)) = some (kb_i (if ((i : Int) = (k : Int)) then a else M q i))
        rw [if_neg (by omega)]
theorem kb_arset {M : kb_M} {q : Nat} {i a : Int} (h : 0 ≤ i) : upd (fun k : Nat => kb_J (M q (k : Int))) i.toNat (kb_J a) = fun k : Nat => kb_J (kb_wr M q i a q (k : Int)) := by
  funext k
  rw [kb_wr_same]
  show (if k = i.toNat then kb_J a else kb_J (M q k)) = kb_J (if ((k : Int) = i) then a else M q k)
  by_cases hk : k = i.toNat
  · rw [if_pos hk, if_pos (by omega)]
  · rw [if_neg hk, if_neg (by omega)]
theorem kb_okwr {M : kb_M} (h : kb_ok M) {q : Nat} {k a : Int} (ha : kb_rg a) : kb_ok (kb_wr M q k a) := by
  intro x j
  unfold kb_wr
  split
  · show kb_rg (if j = k then a else M x j)
    split
    · exact ha
    · exact h x j
  · exact h x j
theorem kb_Dany {A : Nat → Prop} {ad : Nat → Nat} {cy : Nat → ClassId} {M M' : kb_M} (h : va_D A (kb_ws ad cy M)) : va_D A (kb_ws ad cy M') := by
  have key : ∀ (k : Nat) (q : Nat × va_E), (kb_ws ad cy M')[k]? = some q → ∃ q', (kb_ws ad cy M)[k]? = some q' ∧ q'.1 = q.1 := by
    intro k q hq
    unfold kb_ws at hq ⊢
    rw [List.getElem?_mapIdx] at hq ⊢
    cases hs : kb_sh[k]? with
    | none => rw [hs] at hq; cases hq
    | some d =>
      rw [hs] at hq
      cases hq
      exact ⟨_, rfl, rfl⟩
  refine ⟨fun i j p q hi hj he => ?_, fun k q hk => ?_⟩
  · obtain ⟨p', a1, a2⟩ := key i p hi
    obtain ⟨q', b1, b2⟩ := key j q hj
    exact h.1 i j p' q' a1 b1 (by rw [a2, b2, he])
  · obtain ⟨p', a1, a2⟩ := key k q hk
    rw [← a2]
    exact h.2 k p' a1
def kb_A (ad : Nat → Nat) (sz : Nat) : Nat → Prop := fun q => (∃ k, k < 37 ∧ ad k = q) ∨ sz ≤ q
abbrev kb_nw : Cond := .methodLinkNest "SoundBoard$Probe" 72 yX6_root "SoundBoard"
/-- a world at a state -/
def kb_st (D : va_G) (ad : Nat → Nat) (cy : Nat → ClassId) (sz : Nat) (M : kb_M) (U : State) : Prop :=
  U.heap.size = sz ∧ kb_ok M ∧ va_P D vwCl (kb_ws ad cy M) U.heap ∧ va_K D vwCl (kb_ty cy) U ∧ va_D (fun _ => True) (kb_ws ad cy M) ∧ va_Nw kb_nw U
def kb_en2 (D : va_G) (ad : Nat → Nat) (cy : Nat → ClassId) (M : kb_M) (t : State) : Prop := kb_ok M ∧ va_P D vwCl (kb_ws ad cy M) t.heap
/-- contracts: the method answers r (an int), the world holds M' -/
def kb_Ci (l : Launch) (D : va_G) (ad : Nat → Nat) (cy : Nat → ClassId) (y : MethodName) (ws : List Cond) (fr lo : Nat) (args : List Value) (M : kb_M) (r : Int) (M' : kb_M) : Prop :=
  ∀ sz, Met l y ws ({ frames := fr, cells := 0, slots := 0, locals := lo }) (va_Pc args (kb_st D ad cy sz M)) (va_Qi (fun (v : Int32) (_ : Unit) => v = kb_J r) (fun _ t => kb_en2 D ad cy M' t) (kb_A ad sz)) 0 0 (kb_A ad sz)
def kb_Cl (l : Launch) (D : va_G) (ad : Nat → Nat) (cy : Nat → ClassId) (y : MethodName) (ws : List Cond) (fr lo : Nat) (args : List Value) (M : kb_M) (r : Int) (M' : kb_M) : Prop :=
  ∀ sz, Met l y ws ({ frames := fr, cells := 0, slots := 0, locals := lo }) (va_Pc args (kb_st D ad cy sz M)) (va_Ql (fun (v : Int64) (_ : Unit) => v = kb_L r) (fun _ t => kb_en2 D ad cy M' t) (kb_A ad sz)) 0 0 (kb_A ad sz)
def kb_Cv (l : Launch) (D : va_G) (ad : Nat → Nat) (cy : Nat → ClassId) (y : MethodName) (ws : List Cond) (fr lo : Nat) (args : List Value) (M : kb_M) (M' : kb_M) : Prop :=
  ∀ sz, Met l y ws ({ frames := fr, cells := 0, slots := 0, locals := lo }) (va_Pc args (kb_st D ad cy sz M)) (va_Qv (fun (_ : Unit) => True) (fun _ t => kb_en2 D ad cy M' t) (kb_A ad sz)) 0 0 (kb_A ad sz)
/-- what does not change in a method's walk -/
def kb_X (p : Program) (s : State) (m : MethodId) (c : Code) (cc : ByteArray) (nL : Nat) (args : Array Value) (Ts : List Cond) (own : String) (D : va_G) (ad : Nat → Nat) (cy : Nat → ClassId) (A : Nat → Prop) : Prop :=
  CallFix p m c cc nL s args Ts own ∧ va_K D vwCl (kb_ty cy) s ∧ (∀ M : kb_M, va_D A (kb_ws ad cy M)) ∧ (∀ q, s.heap.size ≤ q → A q) ∧ va_Nw kb_nw s
/-- the machine at pc, with these locals, this stack, this world, comes to Q -/
def kb_B (p : Program) (l : Launch) (e : Env) (R : Room) (s : State) (m : MethodId) (args : Array Value) (below : List Frame) (meth : Method) (c : Code) (D : va_G) (ad : Nat → Nat) (cy : Nat → ClassId) (A : Nat → Prop) (nL cells slots : Nat) (Q : State → Prop) (pc : Nat) (lv : List (Nat × Value)) (st : List Value) (M : kb_M) : Prop :=
  ∀ (H : Heap) (locs : List Loc) (ls : Array Slot), kb_ok M → va_P D vwCl (kb_ws ad cy M) H → va_S A s.heap H locs → lv_has ls nL lv → W p l e R s m args below meth c H locs cells slots Q (F0 m pc ls st)

theorem kb_Dself {ad : Nat → Nat} {cy : Nat → ClassId} {M : kb_M} {sz : Nat} (h : va_D (fun _ => True) (kb_ws ad cy M)) : va_D (kb_A ad sz) (kb_ws ad cy M) := by
  refine ⟨h.1, fun k q hk => Or.inl ⟨k, ?_, ?_⟩⟩
  · have h1 := (List.getElem?_eq_some_iff.mp hk).1
    unfold kb_ws at h1
    rw [List.length_mapIdx] at h1
    exact h1
  · unfold kb_ws at hk
    rw [List.getElem?_mapIdx] at hk
    cases hs : kb_sh[k]? with
    | none => rw [hs] at hk; cases hk
    | some d =>
      rw [hs] at hk
      cases hk
      rfl
section kb_rows
variable {p : Program} {l : Launch} {e : Env} {R : Room} {s : State} {m : MethodId} {args : Array Value} {below : List Frame} {meth : Method} {c : Code} {D : va_G} {ad : Nat → Nat} {cy : Nat → ClassId} {A : Nat → Prop} {nL cells slots : Nat} {Q : State → Prop}
variable {cc : ByteArray} {own : String} {Ts : List Cond} {pc : Nat} {lv : List (Nat × Value)} {st : List Value} {M : kb_M}
theorem kb_M_ok (k : kb_ok M → kb_B p l e R s m args below meth c D ad cy A nL cells slots Q pc lv st M) : kb_B p l e R s m args below meth c D ad cy A nL cells slots Q pc lv st M := fun H locs ls hM hP hS hl => k hM H locs ls hM hP hS hl
theorem kb_eqM {M' : kb_M} (h : M' = M) (k : kb_B p l e R s m args below meth c D ad cy A nL cells slots Q pc lv st M') : kb_B p l e R s m args below meth c D ad cy A nL cells slots Q pc lv st M := h ▸ k
theorem kb_sub {lv' : List (Nat × Value)} (ks : List Nat) (h : lv_pick lv ks = lv') (k : kb_B p l e R s m args below meth c D ad cy A nL cells slots Q pc lv' st M) : kb_B p l e R s m args below meth c D ad cy A nL cells slots Q pc lv st M := fun H locs ls hM hP hS hl => k H locs ls hM hP hS (lv_sub hl ks h)
theorem kb_nmi {a : Int} (k : ∀ b : Int, b = a → kb_B p l e R s m args below meth c D ad cy A nL cells slots Q pc lv (kb_i b :: st) M) : kb_B p l e R s m args below meth c D ad cy A nL cells slots Q pc lv (kb_i a :: st) M := k a rfl
theorem kb_nml {a : Int} (k : ∀ b : Int, b = a → kb_B p l e R s m args below meth c D ad cy A nL cells slots Q pc lv (kb_l b :: st) M) : kb_B p l e R s m args below meth c D ad cy A nL cells slots Q pc lv (kb_l a :: st) M := k a rfl
theorem kb_eqi {a b : Int} (h : a = b) (k : kb_B p l e R s m args below meth c D ad cy A nL cells slots Q pc lv (kb_i b :: st) M) : kb_B p l e R s m args below meth c D ad cy A nL cells slots Q pc lv (kb_i a :: st) M := h ▸ k
theorem kb_eql {a b : Int} (h : a = b) (k : kb_B p l e R s m args below meth c D ad cy A nL cells slots Q pc lv (kb_l b :: st) M) : kb_B p l e R s m args below meth c D ad cy A nL cells slots Q pc lv (kb_l a :: st) M := h ▸ k
theorem kb_iload_n (X : kb_X p s m c cc nL args Ts own D ad cy A) {i : Fin 4} {a : Int} (j : Nat) (hj : lv[j]? = some ((i : Nat), kb_i a)) (hd : decode cc pc = .ok (.iload_n i, 1)) (k : kb_B p l e R s m args below meth c D ad cy A nL cells slots Q (pc + 1) lv (kb_i a :: st) M) : kb_B p l e R s m args below meth c D ad cy A nL cells slots Q pc lv st M := by
  intro H locs ls hM hP hS hl
  exact lv_iload_n X.1.1 X.1.2.1 hd rfl (lv_at hl j hj) (k H locs ls hM hP hS hl)
theorem kb_iload (X : kb_X p s m c cc nL args Ts own D ad cy A) {i : Nat} {a : Int} (j : Nat) (hj : lv[j]? = some (i, kb_i a)) (hd : decode cc pc = .ok (.iload i, 2)) (k : kb_B p l e R s m args below meth c D ad cy A nL cells slots Q (pc + 2) lv (kb_i a :: st) M) : kb_B p l e R s m args below meth c D ad cy A nL cells slots Q pc lv st M := by
  intro H locs ls hM hP hS hl
  exact lv_iload X.1.1 X.1.2.1 hd (lv_at hl j hj) (k H locs ls hM hP hS hl)
theorem kb_aload_n (X : kb_X p s m c cc nL args Ts own D ad cy A) {i : Fin 4} {q : Nat} (j : Nat) (hj : lv[j]? = some ((i : Nat), .ref q)) (hd : decode cc pc = .ok (.aload_n i, 1)) (k : kb_B p l e R s m args below meth c D ad cy A nL cells slots Q (pc + 1) lv (.ref q :: st) M) : kb_B p l e R s m args below meth c D ad cy A nL cells slots Q pc lv st M := by
  intro H locs ls hM hP hS hl
  exact lv_aload_n X.1.1 X.1.2.1 hd rfl (lv_at hl j hj) (k H locs ls hM hP hS hl)
theorem kb_aload (X : kb_X p s m c cc nL args Ts own D ad cy A) {i : Nat} {q : Nat} (j : Nat) (hj : lv[j]? = some (i, .ref q)) (hd : decode cc pc = .ok (.aload i, 2)) (k : kb_B p l e R s m args below meth c D ad cy A nL cells slots Q (pc + 2) lv (.ref q :: st) M) : kb_B p l e R s m args below meth c D ad cy A nL cells slots Q pc lv st M := by
  intro H locs ls hM hP hS hl
  exact lv_aload X.1.1 X.1.2.1 hd (lv_at hl j hj) (k H locs ls hM hP hS hl)
theorem kb_lload_n (X : kb_X p s m c cc nL args Ts own D ad cy A) {i : Fin 4} {a : Int} (j : Nat) (hj : lv[j]? = some ((i : Nat), kb_l a)) (hd : decode cc pc = .ok (.lload_n i, 1)) (k : kb_B p l e R s m args below meth c D ad cy A nL cells slots Q (pc + 1) lv (kb_l a :: st) M) : kb_B p l e R s m args below meth c D ad cy A nL cells slots Q pc lv st M := by
  intro H locs ls hM hP hS hl
  exact lv_lload_n X.1.1 X.1.2.1 hd rfl (lv_at hl j hj) (k H locs ls hM hP hS hl)
theorem kb_lload (X : kb_X p s m c cc nL args Ts own D ad cy A) {i : Nat} {a : Int} (j : Nat) (hj : lv[j]? = some (i, kb_l a)) (hd : decode cc pc = .ok (.lload i, 2)) (k : kb_B p l e R s m args below meth c D ad cy A nL cells slots Q (pc + 2) lv (kb_l a :: st) M) : kb_B p l e R s m args below meth c D ad cy A nL cells slots Q pc lv st M := by
  intro H locs ls hM hP hS hl
  exact lv_lload X.1.1 X.1.2.1 hd (lv_at hl j hj) (k H locs ls hM hP hS hl)
theorem kb_istore_n (X : kb_X p s m c cc nL args Ts own D ad cy A) {i : Fin 4} {a : Int} {lv' : List (Nat × Value)} (hd : decode cc pc = .ok (.istore_n i, 1)) (hn : (i : Nat) < nL) (hv : ((i : Nat), (kb_i a : Value)) :: lv.filter (fun q => !(q.1 == (i : Nat)) && !(q.1 + 1 == (i : Nat) && q.2.category == 2)) = lv') (k : kb_B p l e R s m args below meth c D ad cy A nL cells slots Q (pc + 1) lv' st M) : kb_B p l e R s m args below meth c D ad cy A nL cells slots Q pc lv (kb_i a :: st) M := by
  intro H locs ls hM hP hS hl
  exact lv_istore_n X.1.1 X.1.2.1 hd rfl hl hn hv (fun ls' hl' => k H locs ls' hM hP hS hl')
theorem kb_istore (X : kb_X p s m c cc nL args Ts own D ad cy A) {i : Nat} {a : Int} {lv' : List (Nat × Value)} (hd : decode cc pc = .ok (.istore i, 2)) (hn : i < nL) (hv : ((i : Nat), (kb_i a : Value)) :: lv.filter (fun q => !(q.1 == i) && !(q.1 + 1 == i && q.2.category == 2)) = lv') (k : kb_B p l e R s m args below meth c D ad cy A nL cells slots Q (pc + 2) lv' st M) : kb_B p l e R s m args below meth c D ad cy A nL cells slots Q pc lv (kb_i a :: st) M := by
  intro H locs ls hM hP hS hl
  exact lv_istore X.1.1 X.1.2.1 hd hl hn hv (fun ls' hl' => k H locs ls' hM hP hS hl')
theorem kb_lstore_n (X : kb_X p s m c cc nL args Ts own D ad cy A) {i : Fin 4} {a : Int} {lv' : List (Nat × Value)} (hd : decode cc pc = .ok (.lstore_n i, 1)) (hn : (i : Nat) + 1 < nL) (hv : ((i : Nat), (kb_l a : Value)) :: lv.filter (fun q => !(q.1 == (i : Nat)) && (!(q.1 == (i : Nat) + 1) && !(q.1 + 1 == (i : Nat) && q.2.category == 2))) = lv') (k : kb_B p l e R s m args below meth c D ad cy A nL cells slots Q (pc + 1) lv' st M) : kb_B p l e R s m args below meth c D ad cy A nL cells slots Q pc lv (kb_l a :: st) M := by
  intro H locs ls hM hP hS hl
  exact lv_lstore_n X.1.1 X.1.2.1 hd rfl hl hn hv (fun ls' hl' => k H locs ls' hM hP hS hl')
theorem kb_lstore (X : kb_X p s m c cc nL args Ts own D ad cy A) {i : Nat} {a : Int} {lv' : List (Nat × Value)} (hd : decode cc pc = .ok (.lstore i, 2)) (hn : i + 1 < nL) (hv : ((i : Nat), (kb_l a : Value)) :: lv.filter (fun q => !(q.1 == i) && (!(q.1 == i + 1) && !(q.1 + 1 == i && q.2.category == 2))) = lv') (k : kb_B p l e R s m args below meth c D ad cy A nL cells slots Q (pc + 2) lv' st M) : kb_B p l e R s m args below meth c D ad cy A nL cells slots Q pc lv (kb_l a :: st) M := by
  intro H locs ls hM hP hS hl
  exact lv_lstore X.1.1 X.1.2.1 hd hl hn hv (fun ls' hl' => k H locs ls' hM hP hS hl')
theorem kb_astore_n (X : kb_X p s m c cc nL args Ts own D ad cy A) {i : Fin 4} {a : Nat} {lv' : List (Nat × Value)} (hd : decode cc pc = .ok (.astore_n i, 1)) (hn : (i : Nat) < nL) (hv : ((i : Nat), (.ref a : Value)) :: lv.filter (fun q => !(q.1 == (i : Nat)) && !(q.1 + 1 == (i : Nat) && q.2.category == 2)) = lv') (k : kb_B p l e R s m args below meth c D ad cy A nL cells slots Q (pc + 1) lv' st M) : kb_B p l e R s m args below meth c D ad cy A nL cells slots Q pc lv (.ref a :: st) M := by
  intro H locs ls hM hP hS hl
  exact lv_astore_n X.1.1 X.1.2.1 hd rfl hl hn hv (fun ls' hl' => k H locs ls' hM hP hS hl')
theorem kb_astore (X : kb_X p s m c cc nL args Ts own D ad cy A) {i : Nat} {a : Nat} {lv' : List (Nat × Value)} (hd : decode cc pc = .ok (.astore i, 2)) (hn : i < nL) (hv : ((i : Nat), (.ref a : Value)) :: lv.filter (fun q => !(q.1 == i) && !(q.1 + 1 == i && q.2.category == 2)) = lv') (k : kb_B p l e R s m args below meth c D ad cy A nL cells slots Q (pc + 2) lv' st M) : kb_B p l e R s m args below meth c D ad cy A nL cells slots Q pc lv (.ref a :: st) M := by
  intro H locs ls hM hP hS hl
  exact lv_astore X.1.1 X.1.2.1 hd hl hn hv (fun ls' hl' => k H locs ls' hM hP hS hl')
theorem kb_iinc (X : kb_X p s m c cc nL args Ts own D ad cy A) {i : Nat} {n a b : Int} {lv' : List (Nat × Value)} (j : Nat) (hj : lv[j]? = some (i, kb_i a)) (hd : decode cc pc = .ok (.iinc i n, 3)) (hb : a + n = b) (hn : i < nL) (hv : (i, kb_i b) :: lv.filter (fun q => !(q.1 == i) && !(q.1 + 1 == i && q.2.category == 2)) = lv') (k : kb_B p l e R s m args below meth c D ad cy A nL cells slots Q (pc + 3) lv' st M) : kb_B p l e R s m args below meth c D ad cy A nL cells slots Q pc lv st M := by
  intro H locs ls hM hP hS hl
  subst hb
  exact lv_iinc X.1.1 X.1.2.1 hd hl hj (kb_Jadd a n).symm hn hv (fun ls' hl' => k H locs ls' hM hP hS hl')
theorem kb_iconst (X : kb_X p s m c cc nL args Ts own D ad cy A) {n : Int} (hd : decode cc pc = .ok (.iconst n, 1)) (k : kb_B p l e R s m args below meth c D ad cy A nL cells slots Q (pc + 1) lv (kb_i n :: st) M) : kb_B p l e R s m args below meth c D ad cy A nL cells slots Q pc lv st M := by
  intro H locs ls hM hP hS hl
  exact lv_iconst X.1.1 X.1.2.1 hd rfl (k H locs ls hM hP hS hl)
theorem kb_bipush (X : kb_X p s m c cc nL args Ts own D ad cy A) {n : Int} (hv : (Int8.ofInt n).toInt32 = kb_J n) (hd : decode cc pc = .ok (.bipush n, 2)) (k : kb_B p l e R s m args below meth c D ad cy A nL cells slots Q (pc + 2) lv (kb_i n :: st) M) : kb_B p l e R s m args below meth c D ad cy A nL cells slots Q pc lv st M := by
  intro H locs ls hM hP hS hl
  exact lv_bipush X.1.1 X.1.2.1 hd hv (k H locs ls hM hP hS hl)
theorem kb_sipush (X : kb_X p s m c cc nL args Ts own D ad cy A) {n : Int} (hv : (Int16.ofInt n).toInt32 = kb_J n) (hd : decode cc pc = .ok (.sipush n, 3)) (k : kb_B p l e R s m args below meth c D ad cy A nL cells slots Q (pc + 3) lv (kb_i n :: st) M) : kb_B p l e R s m args below meth c D ad cy A nL cells slots Q pc lv st M := by
  intro H locs ls hM hP hS hl
  exact lv_sipush X.1.1 X.1.2.1 hd hv (k H locs ls hM hP hS hl)
theorem kb_ldc (X : kb_X p s m c cc nL args Ts own D ad cy A) {index : Nat} {v : Int32} (n : Int) (hw : Cond.constant own index v ∈ Ts) (hv : v = kb_J n) (hd : decode cc pc = .ok (.ldc index, 2)) (k : kb_B p l e R s m args below meth c D ad cy A nL cells slots Q (pc + 2) lv (kb_i n :: st) M) : kb_B p l e R s m args below meth c D ad cy A nL cells slots Q pc lv st M := by
  intro H locs ls hM hP hS hl
  subst hv
  exact lv_ldc X.1.1 X.1.2.1 X.1.2.2.2.1 (X.1.2.2.2.2 _ hw) hd (k H locs ls hM hP hS hl)
theorem kb_lconst (X : kb_X p s m c cc nL args Ts own D ad cy A) {n : Fin 2} (hd : decode cc pc = .ok (.lconst n, 1)) (k : kb_B p l e R s m args below meth c D ad cy A nL cells slots Q (pc + 1) lv (kb_l ((n : Nat) : Int) :: st) M) : kb_B p l e R s m args below meth c D ad cy A nL cells slots Q pc lv st M := by
  intro H locs ls hM hP hS hl
  exact lv_lconst X.1.1 X.1.2.1 hd (Int64.ofInt_eq_ofNat).symm (k H locs ls hM hP hS hl)
theorem kb_ldc2 (X : kb_X p s m c cc nL args Ts own D ad cy A) {index : Nat} {v : Int64} (n : Int) (hw : Cond.constantLong own index v ∈ Ts) (hv : v = kb_L n) (hd : decode cc pc = .ok (.ldc2_w index, 3)) (k : kb_B p l e R s m args below meth c D ad cy A nL cells slots Q (pc + 3) lv (kb_l n :: st) M) : kb_B p l e R s m args below meth c D ad cy A nL cells slots Q pc lv st M := by
  intro H locs ls hM hP hS hl
  subst hv
  exact lv_ldc2 X.1.1 X.1.2.1 X.1.2.2.2.1 (X.1.2.2.2.2 _ hw) hd (k H locs ls hM hP hS hl)
theorem kb_iadd (X : kb_X p s m c cc nL args Ts own D ad cy A) {a b : Int} (hd : decode cc pc = .ok (.iadd, 1)) (k : kb_B p l e R s m args below meth c D ad cy A nL cells slots Q (pc + 1) lv (kb_i (a + b) :: st) M) : kb_B p l e R s m args below meth c D ad cy A nL cells slots Q pc lv (kb_i b :: kb_i a :: st) M := by
  intro H locs ls hM hP hS hl
  refine lv_iadd X.1.1 X.1.2.1 hd ?_
  rw [← kb_Jadd]
  exact k H locs ls hM hP hS hl
theorem kb_isub (X : kb_X p s m c cc nL args Ts own D ad cy A) {a b : Int} (hd : decode cc pc = .ok (.isub, 1)) (k : kb_B p l e R s m args below meth c D ad cy A nL cells slots Q (pc + 1) lv (kb_i (a - b) :: st) M) : kb_B p l e R s m args below meth c D ad cy A nL cells slots Q pc lv (kb_i b :: kb_i a :: st) M := by
  intro H locs ls hM hP hS hl
  refine lv_isub X.1.1 X.1.2.1 hd ?_
  rw [← kb_Jsub]
  exact k H locs ls hM hP hS hl
theorem kb_imul (X : kb_X p s m c cc nL args Ts own D ad cy A) {a b : Int} (hd : decode cc pc = .ok (.imul, 1)) (k : kb_B p l e R s m args below meth c D ad cy A nL cells slots Q (pc + 1) lv (kb_i (a * b) :: st) M) : kb_B p l e R s m args below meth c D ad cy A nL cells slots Q pc lv (kb_i b :: kb_i a :: st) M := by
  intro H locs ls hM hP hS hl
  refine lv_imul X.1.1 X.1.2.1 hd ?_
  rw [← kb_Jmul]
  exact k H locs ls hM hP hS hl
theorem kb_ladd (X : kb_X p s m c cc nL args Ts own D ad cy A) {a b : Int} (hd : decode cc pc = .ok (.ladd, 1)) (k : kb_B p l e R s m args below meth c D ad cy A nL cells slots Q (pc + 1) lv (kb_l (a + b) :: st) M) : kb_B p l e R s m args below meth c D ad cy A nL cells slots Q pc lv (kb_l b :: kb_l a :: st) M := by
  intro H locs ls hM hP hS hl
  refine lv_ladd X.1.1 X.1.2.1 hd ?_
  rw [← kb_Ladd]
  exact k H locs ls hM hP hS hl
theorem kb_lsub (X : kb_X p s m c cc nL args Ts own D ad cy A) {a b : Int} (hd : decode cc pc = .ok (.lsub, 1)) (k : kb_B p l e R s m args below meth c D ad cy A nL cells slots Q (pc + 1) lv (kb_l (a - b) :: st) M) : kb_B p l e R s m args below meth c D ad cy A nL cells slots Q pc lv (kb_l b :: kb_l a :: st) M := by
  intro H locs ls hM hP hS hl
  refine lv_lsub X.1.1 X.1.2.1 hd ?_
  rw [← kb_Lsub]
  exact k H locs ls hM hP hS hl
theorem kb_lmul (X : kb_X p s m c cc nL args Ts own D ad cy A) {a b : Int} (hd : decode cc pc = .ok (.lmul, 1)) (k : kb_B p l e R s m args below meth c D ad cy A nL cells slots Q (pc + 1) lv (kb_l (a * b) :: st) M) : kb_B p l e R s m args below meth c D ad cy A nL cells slots Q pc lv (kb_l b :: kb_l a :: st) M := by
  intro H locs ls hM hP hS hl
  refine lv_lmul X.1.1 X.1.2.1 hd ?_
  rw [← kb_Lmul]
  exact k H locs ls hM hP hS hl
theorem kb_ineg (X : kb_X p s m c cc nL args Ts own D ad cy A) {a : Int} (hd : decode cc pc = .ok (.ineg, 1)) (k : kb_B p l e R s m args below meth c D ad cy A nL cells slots Q (pc + 1) lv (kb_i (-a) :: st) M) : kb_B p l e R s m args below meth c D ad cy A nL cells slots Q pc lv (kb_i a :: st) M := by
  intro H locs ls hM hP hS hl
  refine lv_ineg X.1.1 X.1.2.1 hd ?_
  rw [← kb_Jneg]
  exact k H locs ls hM hP hS hl
theorem kb_idiv (X : kb_X p s m c cc nL args Ts own D ad cy A) {a b : Int} (ha : kb_rg a) (hb : kb_rg b) (h0 : b ≠ 0) (hd : decode cc pc = .ok (.idiv, 1)) (k : kb_B p l e R s m args below meth c D ad cy A nL cells slots Q (pc + 1) lv (kb_i (a.tdiv b) :: st) M) : kb_B p l e R s m args below meth c D ad cy A nL cells slots Q pc lv (kb_i b :: kb_i a :: st) M := by
  intro H locs ls hM hP hS hl
  refine lv_idiv X.1.1 X.1.2.1 hd (fun q => h0 ((kb_Jz hb).mp q)) ?_
  rw [← kb_Jdiv ha hb]
  exact k H locs ls hM hP hS hl
theorem kb_irem (X : kb_X p s m c cc nL args Ts own D ad cy A) {a b : Int} (ha : kb_rg a) (hb : kb_rg b) (h0 : b ≠ 0) (hd : decode cc pc = .ok (.irem, 1)) (k : kb_B p l e R s m args below meth c D ad cy A nL cells slots Q (pc + 1) lv (kb_i (a.tmod b) :: st) M) : kb_B p l e R s m args below meth c D ad cy A nL cells slots Q pc lv (kb_i b :: kb_i a :: st) M := by
  intro H locs ls hM hP hS hl
  refine lv_irem X.1.1 X.1.2.1 hd (fun q => h0 ((kb_Jz hb).mp q)) ?_
  rw [← kb_Jrem ha hb]
  exact k H locs ls hM hP hS hl
theorem kb_ldiv (X : kb_X p s m c cc nL args Ts own D ad cy A) {a b : Int} (ha : kb_rl a) (hb : kb_rl b) (h0 : b ≠ 0) (hd : decode cc pc = .ok (.ldiv, 1)) (k : kb_B p l e R s m args below meth c D ad cy A nL cells slots Q (pc + 1) lv (kb_l (a.tdiv b) :: st) M) : kb_B p l e R s m args below meth c D ad cy A nL cells slots Q pc lv (kb_l b :: kb_l a :: st) M := by
  intro H locs ls hM hP hS hl
  refine lv_ldiv X.1.1 X.1.2.1 hd (fun q => h0 ((kb_Lz hb).mp q)) ?_
  rw [← kb_Ldiv ha hb]
  exact k H locs ls hM hP hS hl
theorem kb_iand1 (X : kb_X p s m c cc nL args Ts own D ad cy A) {a : Int} (hd : decode cc pc = .ok (.iand, 1)) (k : kb_B p l e R s m args below meth c D ad cy A nL cells slots Q (pc + 1) lv (kb_i (a % 2) :: st) M) : kb_B p l e R s m args below meth c D ad cy A nL cells slots Q pc lv (kb_i 1 :: kb_i a :: st) M := by
  intro H locs ls hM hP hS hl
  refine lv_iand X.1.1 X.1.2.1 hd ?_
  rw [kb_and1]
  exact k H locs ls hM hP hS hl
theorem kb_iand31 (X : kb_X p s m c cc nL args Ts own D ad cy A) {a : Int} (hd : decode cc pc = .ok (.iand, 1)) (k : kb_B p l e R s m args below meth c D ad cy A nL cells slots Q (pc + 1) lv (kb_i (a % 32) :: st) M) : kb_B p l e R s m args below meth c D ad cy A nL cells slots Q pc lv (kb_i 31 :: kb_i a :: st) M := by
  intro H locs ls hM hP hS hl
  refine lv_iand X.1.1 X.1.2.1 hd ?_
  rw [kb_and31]
  exact k H locs ls hM hP hS hl
theorem kb_ishr (X : kb_X p s m c cc nL args Ts own D ad cy A) {a b : Int} (ha : kb_rg a) (h0 : 0 ≤ b) (h1 : b < 32) (hd : decode cc pc = .ok (.ishr, 1)) (k : kb_B p l e R s m args below meth c D ad cy A nL cells slots Q (pc + 1) lv (kb_i (a / 2 ^ b.toNat) :: st) M) : kb_B p l e R s m args below meth c D ad cy A nL cells slots Q pc lv (kb_i b :: kb_i a :: st) M := by
  intro H locs ls hM hP hS hl
  refine lv_ishr X.1.1 X.1.2.1 hd ?_
  rw [kb_shr ha h0 h1]
  exact k H locs ls hM hP hS hl
theorem kb_ishl1 (X : kb_X p s m c cc nL args Ts own D ad cy A) {b : Int} (h0 : 0 ≤ b) (h1 : b < 31) (hd : decode cc pc = .ok (.ishl, 1)) (k : kb_B p l e R s m args below meth c D ad cy A nL cells slots Q (pc + 1) lv (kb_i (2 ^ b.toNat) :: st) M) : kb_B p l e R s m args below meth c D ad cy A nL cells slots Q pc lv (kb_i b :: kb_i 1 :: st) M := by
  intro H locs ls hM hP hS hl
  refine lv_ishl X.1.1 X.1.2.1 hd ?_
  rw [kb_shl h0 h1]
  exact k H locs ls hM hP hS hl
theorem kb_i2l (X : kb_X p s m c cc nL args Ts own D ad cy A) {a : Int} (ha : kb_rg a) (hd : decode cc pc = .ok (.i2l, 1)) (k : kb_B p l e R s m args below meth c D ad cy A nL cells slots Q (pc + 1) lv (kb_l a :: st) M) : kb_B p l e R s m args below meth c D ad cy A nL cells slots Q pc lv (kb_i a :: st) M := by
  intro H locs ls hM hP hS hl
  exact lv_i2l X.1.1 X.1.2.1 hd (kb_JL ha) (k H locs ls hM hP hS hl)
theorem kb_l2i (X : kb_X p s m c cc nL args Ts own D ad cy A) {a : Int} (hd : decode cc pc = .ok (.l2i, 1)) (k : kb_B p l e R s m args below meth c D ad cy A nL cells slots Q (pc + 1) lv (kb_i a :: st) M) : kb_B p l e R s m args below meth c D ad cy A nL cells slots Q pc lv (kb_l a :: st) M := by
  intro H locs ls hM hP hS hl
  exact lv_l2i X.1.1 X.1.2.1 hd (kb_LJ a) (k H locs ls hM hP hS hl)
theorem kb_dup (X : kb_X p s m c cc nL args Ts own D ad cy A) {v : Value} (hc : v.category = 1) (hd : decode cc pc = .ok (.dup, 1)) (k : kb_B p l e R s m args below meth c D ad cy A nL cells slots Q (pc + 1) lv (v :: v :: st) M) : kb_B p l e R s m args below meth c D ad cy A nL cells slots Q pc lv (v :: st) M := by
  intro H locs ls hM hP hS hl
  exact lv_dup X.1.1 X.1.2.1 hd hc (k H locs ls hM hP hS hl)
theorem kb_dup2 (X : kb_X p s m c cc nL args Ts own D ad cy A) {v u : Value} (hv : v.category = 1) (hu : u.category = 1) (hd : decode cc pc = .ok (.dup2, 1)) (k : kb_B p l e R s m args below meth c D ad cy A nL cells slots Q (pc + 1) lv (v :: u :: v :: u :: st) M) : kb_B p l e R s m args below meth c D ad cy A nL cells slots Q pc lv (v :: u :: st) M := by
  intro H locs ls hM hP hS hl
  exact lv_dup2_11 X.1.1 X.1.2.1 hd hv hu (k H locs ls hM hP hS hl)
theorem kb_ixorP (X : kb_X p s m c cc nL args Ts own D ad cy A) {a b : Int} (ha : kb_rg a) (hb : kb_rg b) (h0 : 0 ≤ a) (h1 : 0 ≤ b) (hd : decode cc pc = .ok (.ixor, 1)) (k : ∀ v : Int, 0 ≤ v → kb_rg v → kb_B p l e R s m args below meth c D ad cy A nL cells slots Q (pc + 1) lv (kb_i v :: st) M) : kb_B p l e R s m args below meth c D ad cy A nL cells slots Q pc lv (kb_i b :: kb_i a :: st) M := by
  intro H locs ls hM hP hS hl
  obtain ⟨v, h2, h3, h4⟩ := kb_xorP ha hb h0 h1
  refine lv_ixor X.1.1 X.1.2.1 hd ?_
  rw [h4]
  exact k v h2 h3 H locs ls hM hP hS hl
theorem kb_icmp_eq (X : kb_X p s m c cc nL args Ts own D ad cy A) {a b : Int} (ha : kb_rg a) (hb : kb_rg b) {off : Int} {tgt : Nat} (hd : decode cc pc = .ok (.if_icmp .eq off, 3)) (ht : (pc : Int) + off = (tgt : Int)) (kt : a = b → kb_B p l e R s m args below meth c D ad cy A nL cells slots Q tgt lv st M) (kf : a ≠ b → kb_B p l e R s m args below meth c D ad cy A nL cells slots Q (pc + 3) lv st M) : kb_B p l e R s m args below meth c D ad cy A nL cells slots Q pc lv (kb_i b :: kb_i a :: st) M := by
  intro H locs ls hM hP hS hl
  exact lv_icmp_eq X.1.1 X.1.2.1 hd ht (fun h => kt ((kb_Jeq ha hb).mp h) H locs ls hM hP hS hl) (fun h => kf (fun z => h ((kb_Jeq ha hb).mpr z)) H locs ls hM hP hS hl)
theorem kb_icmp_ne (X : kb_X p s m c cc nL args Ts own D ad cy A) {a b : Int} (ha : kb_rg a) (hb : kb_rg b) {off : Int} {tgt : Nat} (hd : decode cc pc = .ok (.if_icmp .ne off, 3)) (ht : (pc : Int) + off = (tgt : Int)) (kt : a ≠ b → kb_B p l e R s m args below meth c D ad cy A nL cells slots Q tgt lv st M) (kf : a = b → kb_B p l e R s m args below meth c D ad cy A nL cells slots Q (pc + 3) lv st M) : kb_B p l e R s m args below meth c D ad cy A nL cells slots Q pc lv (kb_i b :: kb_i a :: st) M := by
  intro H locs ls hM hP hS hl
  exact lv_icmp_ne X.1.1 X.1.2.1 hd ht (fun h => kt (fun z => h ((kb_Jeq ha hb).mpr z)) H locs ls hM hP hS hl) (fun h => kf ((kb_Jeq ha hb).mp (by first | exact h | exact Decidable.of_not_not h)) H locs ls hM hP hS hl)
theorem kb_icmp_lt (X : kb_X p s m c cc nL args Ts own D ad cy A) {a b : Int} (ha : kb_rg a) (hb : kb_rg b) {off : Int} {tgt : Nat} (hd : decode cc pc = .ok (.if_icmp .lt off, 3)) (ht : (pc : Int) + off = (tgt : Int)) (kt : a < b → kb_B p l e R s m args below meth c D ad cy A nL cells slots Q tgt lv st M) (kf : b ≤ a → kb_B p l e R s m args below meth c D ad cy A nL cells slots Q (pc + 3) lv st M) : kb_B p l e R s m args below meth c D ad cy A nL cells slots Q pc lv (kb_i b :: kb_i a :: st) M := by
  intro H locs ls hM hP hS hl
  exact lv_icmp_lt X.1.1 X.1.2.1 hd ht (fun h => kt ((kb_Jlt ha hb).mp h) H locs ls hM hP hS hl) (fun h => kf (by have h2 : ¬ (a < b) := fun z => h ((kb_Jlt ha hb).mpr z); omega) H locs ls hM hP hS hl)
theorem kb_icmp_ge (X : kb_X p s m c cc nL args Ts own D ad cy A) {a b : Int} (ha : kb_rg a) (hb : kb_rg b) {off : Int} {tgt : Nat} (hd : decode cc pc = .ok (.if_icmp .ge off, 3)) (ht : (pc : Int) + off = (tgt : Int)) (kt : b ≤ a → kb_B p l e R s m args below meth c D ad cy A nL cells slots Q tgt lv st M) (kf : a < b → kb_B p l e R s m args below meth c D ad cy A nL cells slots Q (pc + 3) lv st M) : kb_B p l e R s m args below meth c D ad cy A nL cells slots Q pc lv (kb_i b :: kb_i a :: st) M := by
  intro H locs ls hM hP hS hl
  exact lv_icmp_ge X.1.1 X.1.2.1 hd ht (fun h => kt ((kb_Jle hb ha).mp h) H locs ls hM hP hS hl) (fun h => kf (by have h2 : ¬ (b ≤ a) := fun z => h ((kb_Jle hb ha).mpr z); omega) H locs ls hM hP hS hl)
theorem kb_icmp_gt (X : kb_X p s m c cc nL args Ts own D ad cy A) {a b : Int} (ha : kb_rg a) (hb : kb_rg b) {off : Int} {tgt : Nat} (hd : decode cc pc = .ok (.if_icmp .gt off, 3)) (ht : (pc : Int) + off = (tgt : Int)) (kt : b < a → kb_B p l e R s m args below meth c D ad cy A nL cells slots Q tgt lv st M) (kf : a ≤ b → kb_B p l e R s m args below meth c D ad cy A nL cells slots Q (pc + 3) lv st M) : kb_B p l e R s m args below meth c D ad cy A nL cells slots Q pc lv (kb_i b :: kb_i a :: st) M := by
  intro H locs ls hM hP hS hl
  exact lv_icmp_gt X.1.1 X.1.2.1 hd ht (fun h => kt ((kb_Jlt hb ha).mp h) H locs ls hM hP hS hl) (fun h => kf (by have h2 : ¬ (b < a) := fun z => h ((kb_Jlt hb ha).mpr z); omega) H locs ls hM hP hS hl)
theorem kb_icmp_le (X : kb_X p s m c cc nL args Ts own D ad cy A) {a b : Int} (ha : kb_rg a) (hb : kb_rg b) {off : Int} {tgt : Nat} (hd : decode cc pc = .ok (.if_icmp .le off, 3)) (ht : (pc : Int) + off = (tgt : Int)) (kt : a ≤ b → kb_B p l e R s m args below meth c D ad cy A nL cells slots Q tgt lv st M) (kf : b < a → kb_B p l e R s m args below meth c D ad cy A nL cells slots Q (pc + 3) lv st M) : kb_B p l e R s m args below meth c D ad cy A nL cells slots Q pc lv (kb_i b :: kb_i a :: st) M := by
  intro H locs ls hM hP hS hl
  exact lv_icmp_le X.1.1 X.1.2.1 hd ht (fun h => kt ((kb_Jle ha hb).mp h) H locs ls hM hP hS hl) (fun h => kf (by have h2 : ¬ (a ≤ b) := fun z => h ((kb_Jle ha hb).mpr z); omega) H locs ls hM hP hS hl)
theorem kb_if_eq (X : kb_X p s m c cc nL args Ts own D ad cy A) {a : Int} (ha : kb_rg a) {off : Int} {tgt : Nat} (hd : decode cc pc = .ok (.ifCond .eq off, 3)) (ht : (pc : Int) + off = (tgt : Int)) (kt : a = 0 → kb_B p l e R s m args below meth c D ad cy A nL cells slots Q tgt lv st M) (kf : a ≠ 0 → kb_B p l e R s m args below meth c D ad cy A nL cells slots Q (pc + 3) lv st M) : kb_B p l e R s m args below meth c D ad cy A nL cells slots Q pc lv (kb_i a :: st) M := by
  intro H locs ls hM hP hS hl
  exact lv_if_eq X.1.1 X.1.2.1 hd ht (fun h => kt ((kb_Jz ha).mp h) H locs ls hM hP hS hl) (fun h => kf (fun z => h ((kb_Jz ha).mpr z)) H locs ls hM hP hS hl)
theorem kb_if_ne (X : kb_X p s m c cc nL args Ts own D ad cy A) {a : Int} (ha : kb_rg a) {off : Int} {tgt : Nat} (hd : decode cc pc = .ok (.ifCond .ne off, 3)) (ht : (pc : Int) + off = (tgt : Int)) (kt : a ≠ 0 → kb_B p l e R s m args below meth c D ad cy A nL cells slots Q tgt lv st M) (kf : a = 0 → kb_B p l e R s m args below meth c D ad cy A nL cells slots Q (pc + 3) lv st M) : kb_B p l e R s m args below meth c D ad cy A nL cells slots Q pc lv (kb_i a :: st) M := by
  intro H locs ls hM hP hS hl
  exact lv_if_ne X.1.1 X.1.2.1 hd ht (fun h => kt (fun z => h ((kb_Jz ha).mpr z)) H locs ls hM hP hS hl) (fun h => kf ((kb_Jz ha).mp (by first | exact h | exact Decidable.of_not_not h)) H locs ls hM hP hS hl)
theorem kb_if_lt (X : kb_X p s m c cc nL args Ts own D ad cy A) {a : Int} (ha : kb_rg a) {off : Int} {tgt : Nat} (hd : decode cc pc = .ok (.ifCond .lt off, 3)) (ht : (pc : Int) + off = (tgt : Int)) (kt : a < 0 → kb_B p l e R s m args below meth c D ad cy A nL cells slots Q tgt lv st M) (kf : 0 ≤ a → kb_B p l e R s m args below meth c D ad cy A nL cells slots Q (pc + 3) lv st M) : kb_B p l e R s m args below meth c D ad cy A nL cells slots Q pc lv (kb_i a :: st) M := by
  intro H locs ls hM hP hS hl
  exact lv_if_lt X.1.1 X.1.2.1 hd ht (fun h => kt (by have h2 := kb_Jlt ha kb_rg0; rw [kb_J0] at h2; exact h2.mp h) H locs ls hM hP hS hl) (fun h => kf (by have h2 := kb_Jlt ha kb_rg0; rw [kb_J0] at h2; rw [h2] at h; omega) H locs ls hM hP hS hl)
theorem kb_if_ge (X : kb_X p s m c cc nL args Ts own D ad cy A) {a : Int} (ha : kb_rg a) {off : Int} {tgt : Nat} (hd : decode cc pc = .ok (.ifCond .ge off, 3)) (ht : (pc : Int) + off = (tgt : Int)) (kt : 0 ≤ a → kb_B p l e R s m args below meth c D ad cy A nL cells slots Q tgt lv st M) (kf : a < 0 → kb_B p l e R s m args below meth c D ad cy A nL cells slots Q (pc + 3) lv st M) : kb_B p l e R s m args below meth c D ad cy A nL cells slots Q pc lv (kb_i a :: st) M := by
  intro H locs ls hM hP hS hl
  exact lv_if_ge X.1.1 X.1.2.1 hd ht (fun h => kt (by have h2 := kb_Jle kb_rg0 ha; rw [kb_J0] at h2; exact h2.mp h) H locs ls hM hP hS hl) (fun h => kf (by have h2 := kb_Jle kb_rg0 ha; rw [kb_J0] at h2; rw [h2] at h; omega) H locs ls hM hP hS hl)
theorem kb_if_gt (X : kb_X p s m c cc nL args Ts own D ad cy A) {a : Int} (ha : kb_rg a) {off : Int} {tgt : Nat} (hd : decode cc pc = .ok (.ifCond .gt off, 3)) (ht : (pc : Int) + off = (tgt : Int)) (kt : 0 < a → kb_B p l e R s m args below meth c D ad cy A nL cells slots Q tgt lv st M) (kf : a ≤ 0 → kb_B p l e R s m args below meth c D ad cy A nL cells slots Q (pc + 3) lv st M) : kb_B p l e R s m args below meth c D ad cy A nL cells slots Q pc lv (kb_i a :: st) M := by
  intro H locs ls hM hP hS hl
  exact lv_if_gt X.1.1 X.1.2.1 hd ht (fun h => kt (by have h2 := kb_Jlt kb_rg0 ha; rw [kb_J0] at h2; exact h2.mp h) H locs ls hM hP hS hl) (fun h => kf (by have h2 := kb_Jlt kb_rg0 ha; rw [kb_J0] at h2; rw [h2] at h; omega) H locs ls hM hP hS hl)
theorem kb_if_le (X : kb_X p s m c cc nL args Ts own D ad cy A) {a : Int} (ha : kb_rg a) {off : Int} {tgt : Nat} (hd : decode cc pc = .ok (.ifCond .le off, 3)) (ht : (pc : Int) + off = (tgt : Int)) (kt : a ≤ 0 → kb_B p l e R s m args below meth c D ad cy A nL cells slots Q tgt lv st M) (kf : 0 < a → kb_B p l e R s m args below meth c D ad cy A nL cells slots Q (pc + 3) lv st M) : kb_B p l e R s m args below meth c D ad cy A nL cells slots Q pc lv (kb_i a :: st) M := by
  intro H locs ls hM hP hS hl
  exact lv_if_le X.1.1 X.1.2.1 hd ht (fun h => kt (by have h2 := kb_Jle ha kb_rg0; rw [kb_J0] at h2; exact h2.mp h) H locs ls hM hP hS hl) (fun h => kf (by have h2 := kb_Jle ha kb_rg0; rw [kb_J0] at h2; rw [h2] at h; omega) H locs ls hM hP hS hl)
theorem kb_ifb_eq (X : kb_X p s m c cc nL args Ts own D ad cy A) {q : Prop} [Decidable q] {off : Int} {tgt : Nat} (hd : decode cc pc = .ok (.ifCond .eq off, 3)) (ht : (pc : Int) + off = (tgt : Int)) (kt : ¬ q → kb_B p l e R s m args below meth c D ad cy A nL cells slots Q tgt lv st M) (kf : q → kb_B p l e R s m args below meth c D ad cy A nL cells slots Q (pc + 3) lv st M) : kb_B p l e R s m args below meth c D ad cy A nL cells slots Q pc lv (kb_i (kb_b q) :: st) M := by
  intro H locs ls hM hP hS hl
  exact kb_if_eq X (kb_brg q) hd ht (fun h => kt (kb_bz.mp h)) (fun h => kf (kb_bn.mp h)) H locs ls hM hP hS hl
theorem kb_ifb_ne (X : kb_X p s m c cc nL args Ts own D ad cy A) {q : Prop} [Decidable q] {off : Int} {tgt : Nat} (hd : decode cc pc = .ok (.ifCond .ne off, 3)) (ht : (pc : Int) + off = (tgt : Int)) (kt : q → kb_B p l e R s m args below meth c D ad cy A nL cells slots Q tgt lv st M) (kf : ¬ q → kb_B p l e R s m args below meth c D ad cy A nL cells slots Q (pc + 3) lv st M) : kb_B p l e R s m args below meth c D ad cy A nL cells slots Q pc lv (kb_i (kb_b q) :: st) M := by
  intro H locs ls hM hP hS hl
  exact kb_if_ne X (kb_brg q) hd ht (fun h => kt (kb_bn.mp h)) (fun h => kf (kb_bz.mp h)) H locs ls hM hP hS hl
theorem kb_lcmp_eq (X : kb_X p s m c cc nL args Ts own D ad cy A) {a b : Int} (ha : kb_rl a) (hb : kb_rl b) {off : Int} {tgt : Nat} (hd1 : decode cc pc = .ok (.lcmp, 1)) (hd : decode cc (pc + 1) = .ok (.ifCond .eq off, 3)) (ht : ((pc + 1 : Nat) : Int) + off = (tgt : Int)) (kt : a = b → kb_B p l e R s m args below meth c D ad cy A nL cells slots Q tgt lv st M) (kf : a ≠ b → kb_B p l e R s m args below meth c D ad cy A nL cells slots Q (pc + 4) lv st M) : kb_B p l e R s m args below meth c D ad cy A nL cells slots Q pc lv (kb_l b :: kb_l a :: st) M := by
  intro H locs ls hM hP hS hl
  refine W.lcmp X.1.1 X.1.2.1 hd1 ?_
  rw [kb_zJ a b ha hb]
  exact kb_if_eq X (kb_zrg a b) hd ht (fun h => kt (by unfold kb_z at h; split at h <;> (try split at h) <;> omega)) (fun h => kf (by unfold kb_z at h; split at h <;> (try split at h) <;> omega)) H locs ls hM hP hS hl
theorem kb_lcmp_ne (X : kb_X p s m c cc nL args Ts own D ad cy A) {a b : Int} (ha : kb_rl a) (hb : kb_rl b) {off : Int} {tgt : Nat} (hd1 : decode cc pc = .ok (.lcmp, 1)) (hd : decode cc (pc + 1) = .ok (.ifCond .ne off, 3)) (ht : ((pc + 1 : Nat) : Int) + off = (tgt : Int)) (kt : a ≠ b → kb_B p l e R s m args below meth c D ad cy A nL cells slots Q tgt lv st M) (kf : a = b → kb_B p l e R s m args below meth c D ad cy A nL cells slots Q (pc + 4) lv st M) : kb_B p l e R s m args below meth c D ad cy A nL cells slots Q pc lv (kb_l b :: kb_l a :: st) M := by
  intro H locs ls hM hP hS hl
  refine W.lcmp X.1.1 X.1.2.1 hd1 ?_
  rw [kb_zJ a b ha hb]
  exact kb_if_ne X (kb_zrg a b) hd ht (fun h => kt (by unfold kb_z at h; split at h <;> (try split at h) <;> omega)) (fun h => kf (by unfold kb_z at h; split at h <;> (try split at h) <;> omega)) H locs ls hM hP hS hl
theorem kb_lcmp_lt (X : kb_X p s m c cc nL args Ts own D ad cy A) {a b : Int} (ha : kb_rl a) (hb : kb_rl b) {off : Int} {tgt : Nat} (hd1 : decode cc pc = .ok (.lcmp, 1)) (hd : decode cc (pc + 1) = .ok (.ifCond .lt off, 3)) (ht : ((pc + 1 : Nat) : Int) + off = (tgt : Int)) (kt : a < b → kb_B p l e R s m args below meth c D ad cy A nL cells slots Q tgt lv st M) (kf : b ≤ a → kb_B p l e R s m args below meth c D ad cy A nL cells slots Q (pc + 4) lv st M) : kb_B p l e R s m args below meth c D ad cy A nL cells slots Q pc lv (kb_l b :: kb_l a :: st) M := by
  intro H locs ls hM hP hS hl
  refine W.lcmp X.1.1 X.1.2.1 hd1 ?_
  rw [kb_zJ a b ha hb]
  exact kb_if_lt X (kb_zrg a b) hd ht (fun h => kt (by unfold kb_z at h; split at h <;> (try split at h) <;> omega)) (fun h => kf (by unfold kb_z at h; split at h <;> (try split at h) <;> omega)) H locs ls hM hP hS hl
theorem kb_lcmp_ge (X : kb_X p s m c cc nL args Ts own D ad cy A) {a b : Int} (ha : kb_rl a) (hb : kb_rl b) {off : Int} {tgt : Nat} (hd1 : decode cc pc = .ok (.lcmp, 1)) (hd : decode cc (pc + 1) = .ok (.ifCond .ge off, 3)) (ht : ((pc + 1 : Nat) : Int) + off = (tgt : Int)) (kt : b ≤ a → kb_B p l e R s m args below meth c D ad cy A nL cells slots Q tgt lv st M) (kf : a < b → kb_B p l e R s m args below meth c D ad cy A nL cells slots Q (pc + 4) lv st M) : kb_B p l e R s m args below meth c D ad cy A nL cells slots Q pc lv (kb_l b :: kb_l a :: st) M := by
  intro H locs ls hM hP hS hl
  refine W.lcmp X.1.1 X.1.2.1 hd1 ?_
  rw [kb_zJ a b ha hb]
  exact kb_if_ge X (kb_zrg a b) hd ht (fun h => kt (by unfold kb_z at h; split at h <;> (try split at h) <;> omega)) (fun h => kf (by unfold kb_z at h; split at h <;> (try split at h) <;> omega)) H locs ls hM hP hS hl
theorem kb_lcmp_gt (X : kb_X p s m c cc nL args Ts own D ad cy A) {a b : Int} (ha : kb_rl a) (hb : kb_rl b) {off : Int} {tgt : Nat} (hd1 : decode cc pc = .ok (.lcmp, 1)) (hd : decode cc (pc + 1) = .ok (.ifCond .gt off, 3)) (ht : ((pc + 1 : Nat) : Int) + off = (tgt : Int)) (kt : b < a → kb_B p l e R s m args below meth c D ad cy A nL cells slots Q tgt lv st M) (kf : a ≤ b → kb_B p l e R s m args below meth c D ad cy A nL cells slots Q (pc + 4) lv st M) : kb_B p l e R s m args below meth c D ad cy A nL cells slots Q pc lv (kb_l b :: kb_l a :: st) M := by
  intro H locs ls hM hP hS hl
  refine W.lcmp X.1.1 X.1.2.1 hd1 ?_
  rw [kb_zJ a b ha hb]
  exact kb_if_gt X (kb_zrg a b) hd ht (fun h => kt (by unfold kb_z at h; split at h <;> (try split at h) <;> omega)) (fun h => kf (by unfold kb_z at h; split at h <;> (try split at h) <;> omega)) H locs ls hM hP hS hl
theorem kb_lcmp_le (X : kb_X p s m c cc nL args Ts own D ad cy A) {a b : Int} (ha : kb_rl a) (hb : kb_rl b) {off : Int} {tgt : Nat} (hd1 : decode cc pc = .ok (.lcmp, 1)) (hd : decode cc (pc + 1) = .ok (.ifCond .le off, 3)) (ht : ((pc + 1 : Nat) : Int) + off = (tgt : Int)) (kt : a ≤ b → kb_B p l e R s m args below meth c D ad cy A nL cells slots Q tgt lv st M) (kf : b < a → kb_B p l e R s m args below meth c D ad cy A nL cells slots Q (pc + 4) lv st M) : kb_B p l e R s m args below meth c D ad cy A nL cells slots Q pc lv (kb_l b :: kb_l a :: st) M := by
  intro H locs ls hM hP hS hl
  refine W.lcmp X.1.1 X.1.2.1 hd1 ?_
  rw [kb_zJ a b ha hb]
  exact kb_if_le X (kb_zrg a b) hd ht (fun h => kt (by unfold kb_z at h; split at h <;> (try split at h) <;> omega)) (fun h => kf (by unfold kb_z at h; split at h <;> (try split at h) <;> omega)) H locs ls hM hP hS hl
theorem kb_goto (X : kb_X p s m c cc nL args Ts own D ad cy A) {off : Int} {tgt : Nat} (hd : decode cc pc = .ok (.goto off, 3)) (ht : (pc : Int) + off = (tgt : Int)) (k : kb_B p l e R s m args below meth c D ad cy A nL cells slots Q tgt lv st M) : kb_B p l e R s m args below meth c D ad cy A nL cells slots Q pc lv st M := by
  intro H locs ls hM hP hS hl
  exact lv_goto X.1.1 X.1.2.1 hd ht (k H locs ls hM hP hS hl)
theorem kb_tabOut (X : kb_X p s m c cc nL args Ts own D ad cy A) {a dflt lo hi : Int} {offs : Array Int} {len tgt : Nat} (ha : kb_rg a) (hd : decode cc pc = .ok (.tableswitch dflt lo hi offs, len)) (h : a < lo ∨ hi < a) (ht : (pc : Int) + dflt = (tgt : Int)) (k : kb_B p l e R s m args below meth c D ad cy A nL cells slots Q tgt lv st M) : kb_B p l e R s m args below meth c D ad cy A nL cells slots Q pc lv (kb_i a :: st) M := by
  intro H locs ls hM hP hS hl
  exact lv_tableOut X.1.1 X.1.2.1 hd (by rw [kb_Ji ha]; exact h) ht (k H locs ls hM hP hS hl)
theorem kb_tabIn (X : kb_X p s m c cc nL args Ts own D ad cy A) {dflt lo hi : Int} {offs : Array Int} {len tgt : Nat} {off : Int} (a : Int) (ha : kb_rg a) (hd : decode cc pc = .ok (.tableswitch dflt lo hi offs, len)) (h1 : ¬ a < lo) (h2 : ¬ hi < a) (ho : offs[(a - lo).toNat]? = some off) (ht : (pc : Int) + off = (tgt : Int)) (k : kb_B p l e R s m args below meth c D ad cy A nL cells slots Q tgt lv st M) : kb_B p l e R s m args below meth c D ad cy A nL cells slots Q pc lv (kb_i a :: st) M := by
  intro H locs ls hM hP hS hl
  exact lv_tableIn X.1.1 X.1.2.1 hd (by rw [kb_Ji ha]; exact h1) (by rw [kb_Ji ha]; exact h2) (by rw [kb_Ji ha]; exact ho) ht (k H locs ls hM hP hS hl)
theorem kb_getI (X : kb_X p s m c cc nL args Ts own D ad cy A) {ref C : String} {T : u_T} {N ci index : Nat} (hin : ∀ w ∈ u_ws C T N, w ∈ Ts) (q k0 : Nat) {fl : List (Option Nat)} (hq : kb_sh[q]? = some (.inl (ci, fl))) (hc : vwCl[ci]? = some (C, T, N)) (hk : k0 < N) (hw : Cond.fieldLink own index ref (T k0).2.1 (T k0).2.2.1 ∈ Ts) (href : (T k0).1 = ref) (hf : fl[k0]? = some none) (hd : decode cc pc = .ok (.getfield index, 3)) (k : kb_B p l e R s m args below meth c D ad cy A nL cells slots Q (pc + 3) lv (kb_i (M q (k0 : Int)) :: st) M) : kb_B p l e R s m args below meth c D ad cy A nL cells slots Q pc lv (.ref (ad q) :: st) M := by
  intro H locs ls hM hP hS hl
  subst href
  exact va_get X.1.1 X.1.2.1 X.1.2.2.2.2 hin X.1.2.2.2.1 X.2.1 hP q (kb_wsat hq) hc k0 hk (X.1.2.2.2.2 _ hw) (fun _ h9 => h9) (kb_fvat hf) hd (k H locs ls hM hP hS hl)
theorem kb_getR (X : kb_X p s m c cc nL args Ts own D ad cy A) {ref C : String} {T : u_T} {N ci index : Nat} (hin : ∀ w ∈ u_ws C T N, w ∈ Ts) (q k0 : Nat) {fl : List (Option Nat)} (hq : kb_sh[q]? = some (.inl (ci, fl))) (hc : vwCl[ci]? = some (C, T, N)) (hk : k0 < N) (hw : Cond.fieldLink own index ref (T k0).2.1 (T k0).2.2.1 ∈ Ts) (href : (T k0).1 = ref) {j : Nat} (hf : fl[k0]? = some (some j)) (hd : decode cc pc = .ok (.getfield index, 3)) (k : kb_B p l e R s m args below meth c D ad cy A nL cells slots Q (pc + 3) lv (.ref (ad j) :: st) M) : kb_B p l e R s m args below meth c D ad cy A nL cells slots Q pc lv (.ref (ad q) :: st) M := by
  intro H locs ls hM hP hS hl
  subst href
  exact va_get X.1.1 X.1.2.1 X.1.2.2.2.2 hin X.1.2.2.2.1 X.2.1 hP q (kb_wsat hq) hc k0 hk (X.1.2.2.2.2 _ hw) (fun _ h9 => h9) (kb_fvat hf) hd (k H locs ls hM hP hS hl)
theorem kb_putI (X : kb_X p s m c cc nL args Ts own D ad cy A) {ref C : String} {T : u_T} {N ci index : Nat} (hin : ∀ w ∈ u_ws C T N, w ∈ Ts) (q k0 : Nat) {fl : List (Option Nat)} (hq : kb_sh[q]? = some (.inl (ci, fl))) (hc : vwCl[ci]? = some (C, T, N)) (hk : k0 < N) (hw : Cond.fieldLink own index ref (T k0).2.1 (T k0).2.2.1 ∈ Ts) (href : (T k0).1 = ref) (hf : fl[k0]? = some none) (ty0 : Nat → FieldType) (hty : ∀ k, k < N → parseFieldDescriptor (T k).2.2.1 = some (ty0 k)) (hnm : ∀ a, a < N → ∀ b, b < N → a ≠ b → (T a).2.1 ≠ (T b).2.1) (hfin : (T k0).2.2.2 = false) (hpd : parseFieldDescriptor (T k0).2.2.1 = some .int) {a : Int} (ha : kb_rg a) (hd : decode cc pc = .ok (.putfield index, 3)) (k : kb_B p l e R s m args below meth c D ad cy A nL cells slots Q (pc + 3) lv st (kb_wr M q (k0 : Int) a)) : kb_B p l e R s m args below meth c D ad cy A nL cells slots Q pc lv (kb_i a :: .ref (ad q) :: st) M := by
  intro H locs ls hM hP hS hl
  subst href
  refine va_put X.1.1 X.1.2.1 X.1.2.2.2.2 hin ty0 hty hnm X.1.2.2.2.1 X.2.1 hP (X.2.2.1 M) hS q (kb_wsat hq) hc k0 hk (X.1.2.2.2.2 _ hw) (fun _ h9 => h9) hfin hpd rfl rfl (by rw [List.length_mapIdx]; exact (List.getElem?_eq_some_iff.mp hf).1) hd (fun H1 locs1 hP1 _ hS1 => ?_)
  refine k H1 locs1 ls (kb_okwr hM ha) ?_ hS1 hl
  rw [← kb_wset hq (k0 : Int) a]
  have e1 := kb_fvset (ad := ad) (M := M) (q := q) (a := a) hf
  show va_P D vwCl ((kb_ws ad cy M).set q (ad q, .inr (ci, fl.mapIdx (kb_fv ad (kb_wr M q (k0 : Int) a q))))) H1
  rw [← e1]
  exact hP1
theorem kb_iald (X : kb_X p s m c cc nL args Ts own D ad cy A) (q : Nat) {n : Nat} {i : Int} (hq : kb_sh[q]? = some (.inr (0, n))) (hi : 0 ≤ i ∧ i < (n : Int)) (hn : n ≤ 65536) (hd : decode cc pc = .ok (.iaload, 1)) (k : kb_B p l e R s m args below meth c D ad cy A nL cells slots Q (pc + 1) lv (kb_i (M q i) :: st) M) : kb_B p l e R s m args below meth c D ad cy A nL cells slots Q pc lv (kb_i i :: .ref (ad q) :: st) M := by
  intro H locs ls hM hP hS hl
  have hr : kb_rg i := ⟨by omega, by omega⟩
  refine va_iald X.1.1 X.1.2.1 X.2.1 hP q 0 (kb_wsat hq) rfl (kb_Jin hr hi) hd ?_
  have e1 : kb_J (M q (((kb_J i).toNatClampNeg : Nat) : Int)) = kb_J (M q i) := by rw [kb_Jcl hr, Int.toNat_of_nonneg hi.1]
  show W p l e R s m args below meth c H locs cells slots Q (F0 m (pc + 1) ls (.int (kb_J (M q (((kb_J i).toNatClampNeg : Nat) : Int))) :: st))
  rw [e1]
  exact k H locs ls hM hP hS hl
theorem kb_zald (X : kb_X p s m c cc nL args Ts own D ad cy A) (q : Nat) {n : Nat} {i : Int} (hq : kb_sh[q]? = some (.inr (1, n))) (hi : 0 ≤ i ∧ i < (n : Int)) (hn : n ≤ 65536) (hd : decode cc pc = .ok (.baload, 1)) (k : kb_B p l e R s m args below meth c D ad cy A nL cells slots Q (pc + 1) lv (kb_i (M q i) :: st) M) : kb_B p l e R s m args below meth c D ad cy A nL cells slots Q pc lv (kb_i i :: .ref (ad q) :: st) M := by
  intro H locs ls hM hP hS hl
  have hr : kb_rg i := ⟨by omega, by omega⟩
  refine va_zald X.1.1 X.1.2.1 X.2.1 hP q 1 (kb_wsat hq) rfl (kb_Jin hr hi) hd ?_
  have e1 : kb_J (M q (((kb_J i).toNatClampNeg : Nat) : Int)) = kb_J (M q i) := by rw [kb_Jcl hr, Int.toNat_of_nonneg hi.1]
  show W p l e R s m args below meth c H locs cells slots Q (F0 m (pc + 1) ls (.int (kb_J (M q (((kb_J i).toNatClampNeg : Nat) : Int))) :: st))
  rw [e1]
  exact k H locs ls hM hP hS hl
theorem kb_alen (X : kb_X p s m c cc nL args Ts own D ad cy A) (q : Nat) {n : Nat} (hq : kb_sh[q]? = some (.inr (0, n))) (hn : n ≤ 65536) (hd : decode cc pc = .ok (.arraylength, 1)) (k : kb_B p l e R s m args below meth c D ad cy A nL cells slots Q (pc + 1) lv (kb_i (n : Int) :: st) M) : kb_B p l e R s m args below meth c D ad cy A nL cells slots Q pc lv (.ref (ad q) :: st) M := by
  intro H locs ls hM hP hS hl
  refine va_alen X.1.1 X.1.2.1 X.2.1 hP q 0 (kb_wsat hq) rfl rfl hd ?_
  have e1 : Int32.ofNat n = kb_J (n : Int) := Int32.ofInt_eq_ofNat.symm
  show W p l e R s m args below meth c H locs cells slots Q (F0 m (pc + 1) ls (.int (Int32.ofNat n) :: st))
  rw [e1]
  exact k H locs ls hM hP hS hl
theorem kb_iast (X : kb_X p s m c cc nL args Ts own D ad cy A) (q : Nat) {n : Nat} {i a : Int} (hq : kb_sh[q]? = some (.inr (0, n))) (hi : 0 ≤ i ∧ i < (n : Int)) (hn : n ≤ 65536) (ha : kb_rg a) (hd : decode cc pc = .ok (.iastore, 1)) (k : kb_B p l e R s m args below meth c D ad cy A nL cells slots Q (pc + 1) lv st (kb_wr M q i a)) : kb_B p l e R s m args below meth c D ad cy A nL cells slots Q pc lv (kb_i a :: kb_i i :: .ref (ad q) :: st) M := by
  intro H locs ls hM hP hS hl
  have hr : kb_rg i := ⟨by omega, by omega⟩
  refine va_iast X.1.1 X.1.2.1 X.2.1 hP (X.2.2.1 M) hS q 0 (kb_wsat hq) rfl (kb_Jin hr hi) hd (fun H1 locs1 hP1 _ hS1 => ?_)
  refine k H1 locs1 ls (kb_okwr hM ha) ?_ hS1 hl
  rw [← kb_wset hq i a]
  have e1 := kb_arset (M := M) (q := q) (a := a) hi.1
  show va_P D vwCl ((kb_ws ad cy M).set q (ad q, .inl (cy 0, n, .inl (fun k : Nat => kb_J (kb_wr M q i a q (k : Int)))))) H1
  rw [← e1]
  rw [kb_Jcl hr] at hP1
  exact hP1
theorem kb_zast (X : kb_X p s m c cc nL args Ts own D ad cy A) (q : Nat) {n : Nat} {i a : Int} (hq : kb_sh[q]? = some (.inr (1, n))) (hi : 0 ≤ i ∧ i < (n : Int)) (hn : n ≤ 65536) (ha : a = 0 ∨ a = 1) (hd : decode cc pc = .ok (.bastore, 1)) (k : kb_B p l e R s m args below meth c D ad cy A nL cells slots Q (pc + 1) lv st (kb_wr M q i a)) : kb_B p l e R s m args below meth c D ad cy A nL cells slots Q pc lv (kb_i a :: kb_i i :: .ref (ad q) :: st) M := by
  intro H locs ls hM hP hS hl
  have hr : kb_rg i := ⟨by omega, by omega⟩
  refine va_zast X.1.1 X.1.2.1 X.2.1 hP (X.2.2.1 M) hS q 1 (kb_wsat hq) rfl (kb_Jin hr hi) hd (fun H1 locs1 hP1 _ hS1 => ?_)
  refine k H1 locs1 ls (kb_okwr hM (by rcases ha with rfl | rfl <;> unfold kb_rg <;> omega)) ?_ hS1 hl
  rw [← kb_wset hq i a]
  have e1 := kb_arset (M := M) (q := q) (a := a) hi.1
  show va_P D vwCl ((kb_ws ad cy M).set q (ad q, .inl (cy 1, n, .inl (fun k : Nat => kb_J (kb_wr M q i a q (k : Int)))))) H1
  rw [← e1]
  rw [kb_Jcl hr] at hP1
  rw [show vp_nar .boolean (kb_J a) = kb_J a from by rcases ha with rfl | rfl <;> decide] at hP1
  exact hP1
theorem kb_mmax (X : kb_X p s m c cc nL args Ts own D ad cy A) {a b : Int} (ha : kb_rg a) (hb : kb_rg b) {index : Nat} (hlink : Cond.methodLink own index Lib.Math.max.name ∈ Ts) (hstat : Cond.static Lib.Math.max.name ∈ Ts) (hini : Cond.initialized "java/lang/Math" ∈ Ts) (hcode : Cond.code Lib.Math.max.name Lib.Math.max.code 2 (some .int) ∈ Ts) (hframes : 1 ≤ R.frames) (hlocals : (st.map fun v => v.category).sum + 13 ≤ R.locals) (hc : cells ≤ R.cells) (hs : slots ≤ R.slots) (hd : decode cc pc = .ok (.invokestatic index, 3)) (k : kb_B p l e R s m args below meth c D ad cy A nL cells slots Q (pc + 3) lv (kb_i (max a b) :: st) M) : kb_B p l e R s m args below meth c D ad cy A nL cells slots Q pc lv (kb_i b :: kb_i a :: st) M := by
  intro H locs ls hM hP hS hl
  refine va_mmax X.1.1 X.1.2.1 (by rw [X.1.2.2.1]; exact hl.1.symm) X.1.2.2.2.1 (X.1.2.2.2.2 _ hlink) (X.1.2.2.2.2 _ hstat) (X.1.2.2.2.2 _ hini) (X.1.2.2.2.2 _ hcode) hframes hlocals hc hs hd ?_
  rw [← kb_Jmax ha hb]
  exact k H locs ls hM hP hS hl
theorem kb_mmin (X : kb_X p s m c cc nL args Ts own D ad cy A) {a b : Int} (ha : kb_rg a) (hb : kb_rg b) {index : Nat} (hlink : Cond.methodLink own index Lib.Math.min.name ∈ Ts) (hstat : Cond.static Lib.Math.min.name ∈ Ts) (hini : Cond.initialized "java/lang/Math" ∈ Ts) (hcode : Cond.code Lib.Math.min.name Lib.Math.min.code 2 (some .int) ∈ Ts) (hframes : 1 ≤ R.frames) (hlocals : (st.map fun v => v.category).sum + 13 ≤ R.locals) (hc : cells ≤ R.cells) (hs : slots ≤ R.slots) (hd : decode cc pc = .ok (.invokestatic index, 3)) (k : kb_B p l e R s m args below meth c D ad cy A nL cells slots Q (pc + 3) lv (kb_i (min a b) :: st) M) : kb_B p l e R s m args below meth c D ad cy A nL cells slots Q pc lv (kb_i b :: kb_i a :: st) M := by
  intro H locs ls hM hP hS hl
  refine va_mmin X.1.1 X.1.2.1 (by rw [X.1.2.2.1]; exact hl.1.symm) X.1.2.2.2.1 (X.1.2.2.2.2 _ hlink) (X.1.2.2.2.2 _ hstat) (X.1.2.2.2.2 _ hini) (X.1.2.2.2.2 _ hcode) hframes hlocals hc hs hd ?_
  rw [← kb_Jmin ha hb]
  exact k H locs ls hM hP hS hl
theorem kb_mabs (X : kb_X p s m c cc nL args Ts own D ad cy A) {a : Int} (ha : kb_rg a) (hb : a ≠ -2147483648) {index : Nat} (hlink : Cond.methodLink own index Lib.Math.abs.name ∈ Ts) (hstat : Cond.static Lib.Math.abs.name ∈ Ts) (hini : Cond.initialized "java/lang/Math" ∈ Ts) (hcode : Cond.code Lib.Math.abs.name Lib.Math.abs.code 1 (some .int) ∈ Ts) (hframes : 1 ≤ R.frames) (hlocals : (st.map fun v => v.category).sum + 13 ≤ R.locals) (hc : cells ≤ R.cells) (hs : slots ≤ R.slots) (hd : decode cc pc = .ok (.invokestatic index, 3)) (k : kb_B p l e R s m args below meth c D ad cy A nL cells slots Q (pc + 3) lv (kb_i (max a (-a)) :: st) M) : kb_B p l e R s m args below meth c D ad cy A nL cells slots Q pc lv (kb_i a :: st) M := by
  intro H locs ls hM hP hS hl
  refine va_mabs X.1.1 X.1.2.1 (by rw [X.1.2.2.1]; exact hl.1.symm) X.1.2.2.2.1 (X.1.2.2.2.2 _ hlink) (X.1.2.2.2.2 _ hstat) (X.1.2.2.2.2 _ hini) (X.1.2.2.2.2 _ hcode) hframes hlocals hc hs hd ?_
  rw [← kb_Jabs ha hb]
  exact k H locs ls hM hP hS hl
theorem kb_cVi (X : kb_X p s m c cc nL args Ts own D ad cy A) {y : MethodName} {ws ws' : List Cond} {fr lo index maxL n : Nat} {bytes : ByteArray} {ret : FieldType} {M' : kb_M} {r : Int} (As : List Value) (q : Nat) {ci : Nat} {fl : List (Option Nat)} {C : String} {T : u_T} {N : Nat} (hq : kb_sh[q]? = some (.inl (ci, fl))) (hc : vwCl[ci]? = some (C, T, N)) {rest stk : List Value} (hM9 : kb_Ci l D ad cy y ws fr lo (.ref (ad q) :: As) M r M') (hG : GoodIn Ts (wsV own index C y ws)) (hws : ws = Cond.code y bytes maxL (some ret) :: ws') (hy : y.cls = C ∧ y.cls ≠ "java/lang/invoke/MethodHandle" ∧ y.cls ≠ "java/lang/invoke/VarHandle" ∧ (parseMethodDescriptor y.desc).map (fun d => d.parameters.length) = some n) (hR : fr + 1 ≤ R.frames ∧ 8 + (maxL + 11) + lo ≤ R.locals) (hn : As.length = n) (hcat : (rest.map fun v => v.category).sum ≤ 8) (hf : cells + 0 ≤ R.cells ∧ slots + 0 ≤ R.slots) (hd : decode cc pc = .ok (.invokevirtual index, 3)) (hstk : stk = (As.reverse ++ .ref (ad q) :: rest)) (k : kb_B p l e R s m args below meth c D ad cy A nL cells slots Q (pc + 3) lv (kb_i r :: rest) M') : kb_B p l e R s m args below meth c D ad cy A nL cells slots Q pc lv stk M := by
  intro H locs ls hM hP hS hl
  subst hstk
  have hAs : ∀ q, kb_A ad H.size q → A q := by
    intro q hq
    rcases hq with ⟨k0, h1, h2⟩ | hq
    · have h3 := (X.2.2.1 M).2 k0
      have hlen : k0 < kb_sh.length := h1
      have h4 := h3 _ (kb_wsat (ad := ad) (cy := cy) (M := M) (List.getElem?_eq_getElem hlen))
      rw [← h2]
      exact h4
    · exact X.2.2.2.1 q (Nat.le_trans hS.1 hq)
  have hblind : FrameBlind (va_Pc (.ref (ad q) :: As) (kb_st D ad cy H.size M)) := fun a U g mk q => ⟨q.1, q.2.1, q.2.2.1, q.2.2.2.1, va_K.moved (u := U) (U := U.calling g mk a) (Vm.Alike.refl U.vm) q.2.2.2.2.1, q.2.2.2.2.2.1, va_Nw.same rfl (rfl : U.vm = (U.calling g mk a).vm) q.2.2.2.2.2.2⟩
  have hgo : ∀ U : State, U.heap = H → s.WarmedH U.vm → va_Pc (.ref (ad q) :: As) (kb_st D ad cy H.size M) (.ref (ad q) :: As).toArray U := fun U hU hW => ⟨rfl, by rw [hU], hM, by rw [hU]; exact hP, va_K.moved hW.alike X.2.1, (X.2.2.1 M).weaken (fun _ _ _ _ => trivial), va_Nw.warmM hW X.2.2.2.2⟩
  refine va_calli (va_runV (As := As) (rest := rest) X.1 (hM9 H.size) (cwV n X.1.2.2.2.2 hG hws rfl rfl hy hR) ⟨hblind, va_recv X.2.1 hP hc (kb_wsat hq), hgo⟩ rfl hn hl.1 rfl (lv_room hcat) hd hf) hS (fun q _ h => hAs q h) hAs (fun r1 u t H1 locs1 ht hvm hw hB hz1 hk1 hS1 => ?_)
  subst hw
  exact k H1 locs1 ls hB.1 (by rw [← ht]; exact hB.2) hS1 hl
theorem kb_cSi (X : kb_X p s m c cc nL args Ts own D ad cy A) {y : MethodName} {ws ws' : List Cond} {fr lo index maxL n : Nat} {bytes : ByteArray} {ret : FieldType} {M' : kb_M} {r : Int} (As : List Value) {rest stk : List Value} (hM9 : kb_Ci l D ad cy y ws fr lo As M r M') (hG : GoodIn Ts (va_wsS own index y ws)) (hws : ws = Cond.code y bytes maxL (some ret) :: ws') (hy : y.cls ≠ "java/lang/invoke/MethodHandle" ∧ y.cls ≠ "java/lang/invoke/VarHandle" ∧ (parseMethodDescriptor y.desc).map (fun d => d.parameters.length) = some n) (hR : fr + 1 ≤ R.frames ∧ 8 + (maxL + 11) + lo ≤ R.locals) (hn : As.length = n) (hcat : (rest.map fun v => v.category).sum ≤ 8) (hf : cells + 0 ≤ R.cells ∧ slots + 0 ≤ R.slots) (hd : decode cc pc = .ok (.invokestatic index, 3)) (hstk : stk = (As.reverse ++ rest)) (k : kb_B p l e R s m args below meth c D ad cy A nL cells slots Q (pc + 3) lv (kb_i r :: rest) M') : kb_B p l e R s m args below meth c D ad cy A nL cells slots Q pc lv stk M := by
  intro H locs ls hM hP hS hl
  subst hstk
  have hAs : ∀ q, kb_A ad H.size q → A q := by
    intro q hq
    rcases hq with ⟨k0, h1, h2⟩ | hq
    · have h3 := (X.2.2.1 M).2 k0
      have hlen : k0 < kb_sh.length := h1
      have h4 := h3 _ (kb_wsat (ad := ad) (cy := cy) (M := M) (List.getElem?_eq_getElem hlen))
      rw [← h2]
      exact h4
    · exact X.2.2.2.1 q (Nat.le_trans hS.1 hq)
  have hblind : FrameBlind (va_Pc As (kb_st D ad cy H.size M)) := fun a U g mk q => ⟨q.1, q.2.1, q.2.2.1, q.2.2.2.1, va_K.moved (u := U) (U := U.calling g mk a) (Vm.Alike.refl U.vm) q.2.2.2.2.1, q.2.2.2.2.2.1, va_Nw.same rfl (rfl : U.vm = (U.calling g mk a).vm) q.2.2.2.2.2.2⟩
  have hgo : ∀ U : State, U.heap = H → s.WarmedH U.vm → va_Pc As (kb_st D ad cy H.size M) As.toArray U := fun U hU hW => ⟨rfl, by rw [hU], hM, by rw [hU]; exact hP, va_K.moved hW.alike X.2.1, (X.2.2.1 M).weaken (fun _ _ _ _ => trivial), va_Nw.warmM hW X.2.2.2.2⟩
  refine va_calli (va_runS (As := As) (rest := rest) X.1 (hM9 H.size) (va_cwS n X.1.2.2.2.2 hG hws rfl rfl hy hR) ⟨hblind, hgo⟩ rfl hn hl.1 rfl (lv_room hcat) hd hf) hS (fun q _ h => hAs q h) hAs (fun r1 u t H1 locs1 ht hvm hw hB hz1 hk1 hS1 => ?_)
  subst hw
  exact k H1 locs1 ls hB.1 (by rw [← ht]; exact hB.2) hS1 hl
theorem kb_cVl (X : kb_X p s m c cc nL args Ts own D ad cy A) {y : MethodName} {ws ws' : List Cond} {fr lo index maxL n : Nat} {bytes : ByteArray} {ret : FieldType} {M' : kb_M} {r : Int} (As : List Value) (q : Nat) {ci : Nat} {fl : List (Option Nat)} {C : String} {T : u_T} {N : Nat} (hq : kb_sh[q]? = some (.inl (ci, fl))) (hc : vwCl[ci]? = some (C, T, N)) {rest stk : List Value} (hM9 : kb_Cl l D ad cy y ws fr lo (.ref (ad q) :: As) M r M') (hG : GoodIn Ts (wsV own index C y ws)) (hws : ws = Cond.code y bytes maxL (some ret) :: ws') (hy : y.cls = C ∧ y.cls ≠ "java/lang/invoke/MethodHandle" ∧ y.cls ≠ "java/lang/invoke/VarHandle" ∧ (parseMethodDescriptor y.desc).map (fun d => d.parameters.length) = some n) (hR : fr + 1 ≤ R.frames ∧ 8 + (maxL + 11) + lo ≤ R.locals) (hn : As.length = n) (hcat : (rest.map fun v => v.category).sum ≤ 8) (hf : cells + 0 ≤ R.cells ∧ slots + 0 ≤ R.slots) (hd : decode cc pc = .ok (.invokevirtual index, 3)) (hstk : stk = (As.reverse ++ .ref (ad q) :: rest)) (k : kb_B p l e R s m args below meth c D ad cy A nL cells slots Q (pc + 3) lv (kb_l r :: rest) M') : kb_B p l e R s m args below meth c D ad cy A nL cells slots Q pc lv stk M := by
  intro H locs ls hM hP hS hl
  subst hstk
  have hAs : ∀ q, kb_A ad H.size q → A q := by
    intro q hq
    rcases hq with ⟨k0, h1, h2⟩ | hq
    · have h3 := (X.2.2.1 M).2 k0
      have hlen : k0 < kb_sh.length := h1
      have h4 := h3 _ (kb_wsat (ad := ad) (cy := cy) (M := M) (List.getElem?_eq_getElem hlen))
      rw [← h2]
      exact h4
    · exact X.2.2.2.1 q (Nat.le_trans hS.1 hq)
  have hblind : FrameBlind (va_Pc (.ref (ad q) :: As) (kb_st D ad cy H.size M)) := fun a U g mk q => ⟨q.1, q.2.1, q.2.2.1, q.2.2.2.1, va_K.moved (u := U) (U := U.calling g mk a) (Vm.Alike.refl U.vm) q.2.2.2.2.1, q.2.2.2.2.2.1, va_Nw.same rfl (rfl : U.vm = (U.calling g mk a).vm) q.2.2.2.2.2.2⟩
  have hgo : ∀ U : State, U.heap = H → s.WarmedH U.vm → va_Pc (.ref (ad q) :: As) (kb_st D ad cy H.size M) (.ref (ad q) :: As).toArray U := fun U hU hW => ⟨rfl, by rw [hU], hM, by rw [hU]; exact hP, va_K.moved hW.alike X.2.1, (X.2.2.1 M).weaken (fun _ _ _ _ => trivial), va_Nw.warmM hW X.2.2.2.2⟩
  refine va_calll (va_runV (As := As) (rest := rest) X.1 (hM9 H.size) (cwV n X.1.2.2.2.2 hG hws rfl rfl hy hR) ⟨hblind, va_recv X.2.1 hP hc (kb_wsat hq), hgo⟩ rfl hn hl.1 rfl (lv_room hcat) hd hf) hS (fun q _ h => hAs q h) hAs (fun r1 u t H1 locs1 ht hvm hw hB hz1 hk1 hS1 => ?_)
  subst hw
  exact k H1 locs1 ls hB.1 (by rw [← ht]; exact hB.2) hS1 hl
theorem kb_cSl (X : kb_X p s m c cc nL args Ts own D ad cy A) {y : MethodName} {ws ws' : List Cond} {fr lo index maxL n : Nat} {bytes : ByteArray} {ret : FieldType} {M' : kb_M} {r : Int} (As : List Value) {rest stk : List Value} (hM9 : kb_Cl l D ad cy y ws fr lo As M r M') (hG : GoodIn Ts (va_wsS own index y ws)) (hws : ws = Cond.code y bytes maxL (some ret) :: ws') (hy : y.cls ≠ "java/lang/invoke/MethodHandle" ∧ y.cls ≠ "java/lang/invoke/VarHandle" ∧ (parseMethodDescriptor y.desc).map (fun d => d.parameters.length) = some n) (hR : fr + 1 ≤ R.frames ∧ 8 + (maxL + 11) + lo ≤ R.locals) (hn : As.length = n) (hcat : (rest.map fun v => v.category).sum ≤ 8) (hf : cells + 0 ≤ R.cells ∧ slots + 0 ≤ R.slots) (hd : decode cc pc = .ok (.invokestatic index, 3)) (hstk : stk = (As.reverse ++ rest)) (k : kb_B p l e R s m args below meth c D ad cy A nL cells slots Q (pc + 3) lv (kb_l r :: rest) M') : kb_B p l e R s m args below meth c D ad cy A nL cells slots Q pc lv stk M := by
  intro H locs ls hM hP hS hl
  subst hstk
  have hAs : ∀ q, kb_A ad H.size q → A q := by
    intro q hq
    rcases hq with ⟨k0, h1, h2⟩ | hq
    · have h3 := (X.2.2.1 M).2 k0
      have hlen : k0 < kb_sh.length := h1
      have h4 := h3 _ (kb_wsat (ad := ad) (cy := cy) (M := M) (List.getElem?_eq_getElem hlen))
      rw [← h2]
      exact h4
    · exact X.2.2.2.1 q (Nat.le_trans hS.1 hq)
  have hblind : FrameBlind (va_Pc As (kb_st D ad cy H.size M)) := fun a U g mk q => ⟨q.1, q.2.1, q.2.2.1, q.2.2.2.1, va_K.moved (u := U) (U := U.calling g mk a) (Vm.Alike.refl U.vm) q.2.2.2.2.1, q.2.2.2.2.2.1, va_Nw.same rfl (rfl : U.vm = (U.calling g mk a).vm) q.2.2.2.2.2.2⟩
  have hgo : ∀ U : State, U.heap = H → s.WarmedH U.vm → va_Pc As (kb_st D ad cy H.size M) As.toArray U := fun U hU hW => ⟨rfl, by rw [hU], hM, by rw [hU]; exact hP, va_K.moved hW.alike X.2.1, (X.2.2.1 M).weaken (fun _ _ _ _ => trivial), va_Nw.warmM hW X.2.2.2.2⟩
  refine va_calll (va_runS (As := As) (rest := rest) X.1 (hM9 H.size) (va_cwS n X.1.2.2.2.2 hG hws rfl rfl hy hR) ⟨hblind, hgo⟩ rfl hn hl.1 rfl (lv_room hcat) hd hf) hS (fun q _ h => hAs q h) hAs (fun r1 u t H1 locs1 ht hvm hw hB hz1 hk1 hS1 => ?_)
  subst hw
  exact k H1 locs1 ls hB.1 (by rw [← ht]; exact hB.2) hS1 hl
theorem kb_cNl (X : kb_X p s m c cc nL args Ts own D ad cy A) {y : MethodName} {ws ws' : List Cond} {fr lo index maxL n : Nat} {bytes : ByteArray} {ret : FieldType} {M' : kb_M} {r : Int} (As : List Value) {host : String} (hnw : va_Nw (.methodLinkNest own index y host) s) (hst : Cond.static y ∈ Ts) (hini : Cond.initialized y.cls ∈ Ts) {rest stk : List Value} (hM9 : kb_Cl l D ad cy y ws fr lo As M r M') (hG : GoodIn Ts ws) (hws : ws = Cond.code y bytes maxL (some ret) :: ws') (hy : y.cls ≠ "java/lang/invoke/MethodHandle" ∧ y.cls ≠ "java/lang/invoke/VarHandle" ∧ (parseMethodDescriptor y.desc).map (fun d => d.parameters.length) = some n) (hR : fr + 1 ≤ R.frames ∧ 8 + (maxL + 11) + lo ≤ R.locals) (hn : As.length = n) (hcat : (rest.map fun v => v.category).sum ≤ 8) (hf : cells + 0 ≤ R.cells ∧ slots + 0 ≤ R.slots) (hd : decode cc pc = .ok (.invokestatic index, 3)) (hstk : stk = (As.reverse ++ rest)) (k : kb_B p l e R s m args below meth c D ad cy A nL cells slots Q (pc + 3) lv (kb_l r :: rest) M') : kb_B p l e R s m args below meth c D ad cy A nL cells slots Q pc lv stk M := by
  intro H locs ls hM hP hS hl
  subst hstk
  have hAs : ∀ q, kb_A ad H.size q → A q := by
    intro q hq
    rcases hq with ⟨k0, h1, h2⟩ | hq
    · have h3 := (X.2.2.1 M).2 k0
      have hlen : k0 < kb_sh.length := h1
      have h4 := h3 _ (kb_wsat (ad := ad) (cy := cy) (M := M) (List.getElem?_eq_getElem hlen))
      rw [← h2]
      exact h4
    · exact X.2.2.2.1 q (Nat.le_trans hS.1 hq)
  have hblind : FrameBlind (va_Pc As (kb_st D ad cy H.size M)) := fun a U g mk q => ⟨q.1, q.2.1, q.2.2.1, q.2.2.2.1, va_K.moved (u := U) (U := U.calling g mk a) (Vm.Alike.refl U.vm) q.2.2.2.2.1, q.2.2.2.2.2.1, va_Nw.same rfl (rfl : U.vm = (U.calling g mk a).vm) q.2.2.2.2.2.2⟩
  have hgo : ∀ U : State, U.heap = H → s.WarmedH U.vm → va_Pc As (kb_st D ad cy H.size M) As.toArray U := fun U hU hW => ⟨rfl, by rw [hU], hM, by rw [hU]; exact hP, va_K.moved hW.alike X.2.1, (X.2.2.1 M).weaken (fun _ _ _ _ => trivial), va_Nw.warmM hW X.2.2.2.2⟩
  refine va_calll (va_runSN (As := As) (rest := rest) X.1 (hM9 H.size) ⟨va_cnB n X.1.2.2.2.2 hG hws rfl rfl hnw (X.1.2.2.2.2 _ hini) hy hR, X.1.2.2.2.2 _ hst, trivial⟩ ⟨hblind, hgo⟩ rfl hn hl.1 rfl (lv_room hcat) hd hf) hS (fun q _ h => hAs q h) hAs (fun r1 u t H1 locs1 ht hvm hw hB hz1 hk1 hS1 => ?_)
  subst hw
  exact k H1 locs1 ls hB.1 (by rw [← ht]; exact hB.2) hS1 hl
theorem kb_cVv (X : kb_X p s m c cc nL args Ts own D ad cy A) {y : MethodName} {ws ws' : List Cond} {fr lo index maxL n : Nat} {bytes : ByteArray} {ret : FieldType} {M' : kb_M} (As : List Value) (q : Nat) {ci : Nat} {fl : List (Option Nat)} {C : String} {T : u_T} {N : Nat} (hq : kb_sh[q]? = some (.inl (ci, fl))) (hc : vwCl[ci]? = some (C, T, N)) {rest stk : List Value} (hM9 : kb_Cv l D ad cy y ws fr lo (.ref (ad q) :: As) M M') (hG : GoodIn Ts (wsV own index C y ws)) (hws : ws = Cond.code y bytes maxL none :: ws') (hy : y.cls = C ∧ y.cls ≠ "java/lang/invoke/MethodHandle" ∧ y.cls ≠ "java/lang/invoke/VarHandle" ∧ (parseMethodDescriptor y.desc).map (fun d => d.parameters.length) = some n) (hR : fr + 1 ≤ R.frames ∧ 8 + (maxL + 11) + lo ≤ R.locals) (hn : As.length = n) (hcat : (rest.map fun v => v.category).sum ≤ 8) (hf : cells + 0 ≤ R.cells ∧ slots + 0 ≤ R.slots) (hd : decode cc pc = .ok (.invokevirtual index, 3)) (hstk : stk = (As.reverse ++ .ref (ad q) :: rest)) (k : kb_B p l e R s m args below meth c D ad cy A nL cells slots Q (pc + 3) lv rest M') : kb_B p l e R s m args below meth c D ad cy A nL cells slots Q pc lv stk M := by
  intro H locs ls hM hP hS hl
  subst hstk
  have hAs : ∀ q, kb_A ad H.size q → A q := by
    intro q hq
    rcases hq with ⟨k0, h1, h2⟩ | hq
    · have h3 := (X.2.2.1 M).2 k0
      have hlen : k0 < kb_sh.length := h1
      have h4 := h3 _ (kb_wsat (ad := ad) (cy := cy) (M := M) (List.getElem?_eq_getElem hlen))
      rw [← h2]
      exact h4
    · exact X.2.2.2.1 q (Nat.le_trans hS.1 hq)
  have hblind : FrameBlind (va_Pc (.ref (ad q) :: As) (kb_st D ad cy H.size M)) := fun a U g mk q => ⟨q.1, q.2.1, q.2.2.1, q.2.2.2.1, va_K.moved (u := U) (U := U.calling g mk a) (Vm.Alike.refl U.vm) q.2.2.2.2.1, q.2.2.2.2.2.1, va_Nw.same rfl (rfl : U.vm = (U.calling g mk a).vm) q.2.2.2.2.2.2⟩
  have hgo : ∀ U : State, U.heap = H → s.WarmedH U.vm → va_Pc (.ref (ad q) :: As) (kb_st D ad cy H.size M) (.ref (ad q) :: As).toArray U := fun U hU hW => ⟨rfl, by rw [hU], hM, by rw [hU]; exact hP, va_K.moved hW.alike X.2.1, (X.2.2.1 M).weaken (fun _ _ _ _ => trivial), va_Nw.warmM hW X.2.2.2.2⟩
  refine va_callv (va_runV (As := As) (rest := rest) X.1 (hM9 H.size) (cwV n X.1.2.2.2.2 hG hws rfl rfl hy hR) ⟨hblind, va_recv X.2.1 hP hc (kb_wsat hq), hgo⟩ rfl hn hl.1 rfl (lv_room hcat) hd hf) hS (fun q _ h => hAs q h) hAs (fun u t H1 locs1 ht hvm hw hB hz1 hk1 hS1 => ?_)
  exact k H1 locs1 ls hB.1 (by rw [← ht]; exact hB.2) hS1 hl
theorem kb_cSv (X : kb_X p s m c cc nL args Ts own D ad cy A) {y : MethodName} {ws ws' : List Cond} {fr lo index maxL n : Nat} {bytes : ByteArray} {ret : FieldType} {M' : kb_M} (As : List Value) {rest stk : List Value} (hM9 : kb_Cv l D ad cy y ws fr lo As M M') (hG : GoodIn Ts (va_wsS own index y ws)) (hws : ws = Cond.code y bytes maxL none :: ws') (hy : y.cls ≠ "java/lang/invoke/MethodHandle" ∧ y.cls ≠ "java/lang/invoke/VarHandle" ∧ (parseMethodDescriptor y.desc).map (fun d => d.parameters.length) = some n) (hR : fr + 1 ≤ R.frames ∧ 8 + (maxL + 11) + lo ≤ R.locals) (hn : As.length = n) (hcat : (rest.map fun v => v.category).sum ≤ 8) (hf : cells + 0 ≤ R.cells ∧ slots + 0 ≤ R.slots) (hd : decode cc pc = .ok (.invokestatic index, 3)) (hstk : stk = (As.reverse ++ rest)) (k : kb_B p l e R s m args below meth c D ad cy A nL cells slots Q (pc + 3) lv rest M') : kb_B p l e R s m args below meth c D ad cy A nL cells slots Q pc lv stk M := by
  intro H locs ls hM hP hS hl
  subst hstk
  have hAs : ∀ q, kb_A ad H.size q → A q := by
    intro q hq
    rcases hq with ⟨k0, h1, h2⟩ | hq
    · have h3 := (X.2.2.1 M).2 k0
      have hlen : k0 < kb_sh.length := h1
      have h4 := h3 _ (kb_wsat (ad := ad) (cy := cy) (M := M) (List.getElem?_eq_getElem hlen))
      rw [← h2]
      exact h4
    · exact X.2.2.2.1 q (Nat.le_trans hS.1 hq)
  have hblind : FrameBlind (va_Pc As (kb_st D ad cy H.size M)) := fun a U g mk q => ⟨q.1, q.2.1, q.2.2.1, q.2.2.2.1, va_K.moved (u := U) (U := U.calling g mk a) (Vm.Alike.refl U.vm) q.2.2.2.2.1, q.2.2.2.2.2.1, va_Nw.same rfl (rfl : U.vm = (U.calling g mk a).vm) q.2.2.2.2.2.2⟩
  have hgo : ∀ U : State, U.heap = H → s.WarmedH U.vm → va_Pc As (kb_st D ad cy H.size M) As.toArray U := fun U hU hW => ⟨rfl, by rw [hU], hM, by rw [hU]; exact hP, va_K.moved hW.alike X.2.1, (X.2.2.1 M).weaken (fun _ _ _ _ => trivial), va_Nw.warmM hW X.2.2.2.2⟩
  refine va_callv (va_runS (As := As) (rest := rest) X.1 (hM9 H.size) (va_cwS n X.1.2.2.2.2 hG hws rfl rfl hy hR) ⟨hblind, hgo⟩ rfl hn hl.1 rfl (lv_room hcat) hd hf) hS (fun q _ h => hAs q h) hAs (fun u t H1 locs1 ht hvm hw hB hz1 hk1 hS1 => ?_)
  exact k H1 locs1 ls hB.1 (by rw [← ht]; exact hB.2) hS1 hl
end kb_rows
section kb_ends
variable {p : Program} {l : Launch} {e : Env} {R : Room} {s : State} {m : MethodId} {args : Array Value} {below : List Frame} {meth : Method} {c : Code} {D : va_G} {ad : Nat → Nat} {cy : Nat → ClassId} {nL : Nat}
variable {cc : ByteArray} {own : String} {Ts : List Cond} {pc : Nat} {lv : List (Nat × Value)} {st : List Value} {M : kb_M} {sz : Nat}
theorem kb_iret (X : kb_X p s m c cc nL args Ts own D ad cy (kb_A ad s.heap.size)) (hr : meth.sig.returnType = some .int) (hlocks : meth.locks = false) {a r : Int} {M' : kb_M} (hd : decode cc pc = .ok (.ireturn, 1)) (ha : a = r) (hm : M = M') : kb_B p l e R s m args below meth c D ad cy (kb_A ad s.heap.size) nL 0 0 (MQ below (va_Qi (fun (v : Int32) (_ : Unit) => v = kb_J r) (fun _ t => kb_en2 D ad cy M' t) (kb_A ad s.heap.size)) args s 0 0 (kb_A ad s.heap.size)) pc lv [kb_i a] M := by
  intro H locs ls hM hP hS hl
  subst ha hm
  exact W.iret X.1.1 X.1.2.1 hr (fun t ht hW => ⟨⟨_, (), rfl, rfl, hM, by rw [ht]; exact hP⟩, hS.F ht⟩) hS.2.2 hd hlocks
theorem kb_lret (X : kb_X p s m c cc nL args Ts own D ad cy (kb_A ad s.heap.size)) (hr : meth.sig.returnType = some .long) (hlocks : meth.locks = false) {a r : Int} {M' : kb_M} (hd : decode cc pc = .ok (.lreturn, 1)) (ha : a = r) (hm : M = M') : kb_B p l e R s m args below meth c D ad cy (kb_A ad s.heap.size) nL 0 0 (MQ below (va_Ql (fun (v : Int64) (_ : Unit) => v = kb_L r) (fun _ t => kb_en2 D ad cy M' t) (kb_A ad s.heap.size)) args s 0 0 (kb_A ad s.heap.size)) pc lv [kb_l a] M := by
  intro H locs ls hM hP hS hl
  subst ha hm
  exact W.lret X.1.1 X.1.2.1 hr (fun t ht hW => ⟨⟨_, (), rfl, rfl, hM, by rw [ht]; exact hP⟩, hS.F ht⟩) hS.2.2 hd hlocks
theorem kb_zret (X : kb_X p s m c cc nL args Ts own D ad cy (kb_A ad s.heap.size)) (hr : meth.sig.returnType = some .boolean) (hlocks : meth.locks = false) {a r : Int} {M' : kb_M} (h01 : a = 0 ∨ a = 1) (hd : decode cc pc = .ok (.ireturn, 1)) (ha : a = r) (hm : M = M') : kb_B p l e R s m args below meth c D ad cy (kb_A ad s.heap.size) nL 0 0 (MQ below (va_Qi (fun (v : Int32) (_ : Unit) => v = kb_J r) (fun _ t => kb_en2 D ad cy M' t) (kb_A ad s.heap.size)) args s 0 0 (kb_A ad s.heap.size)) pc lv [kb_i a] M := by
  intro H locs ls hM hP hS hl
  subst ha hm
  exact W.zret X.1.1 X.1.2.1 hr (by rcases h01 with rfl | rfl <;> first | rfl | decide) (fun t ht hW => ⟨⟨_, (), rfl, rfl, hM, by rw [ht]; exact hP⟩, hS.F ht⟩) hS.2.2 hd hlocks
theorem kb_vret (X : kb_X p s m c cc nL args Ts own D ad cy (kb_A ad s.heap.size)) (hr : meth.sig.returnType = none) (hlocks : meth.locks = false) {M' : kb_M} (hd : decode cc pc = .ok (.return_, 1)) (hm : M = M') : kb_B p l e R s m args below meth c D ad cy (kb_A ad s.heap.size) nL 0 0 (MQ below (va_Qv (fun (_ : Unit) => True) (fun _ t => kb_en2 D ad cy M' t) (kb_A ad s.heap.size)) args s 0 0 (kb_A ad s.heap.size)) pc lv [] M := by
  intro H locs ls hM hP hS hl
  subst hm
  exact W.vret X.1.1 X.1.2.1 hr (fun t ht hW => ⟨⟨(), rfl, trivial, hM, by rw [ht]; exact hP⟩, hS.F ht⟩) hS.2.2 hd hlocks
end kb_ends
theorem kb_ofW {l : Launch} {y : MethodName} {ws ws' : List Cond} {rm : Room} {Pc : Array Value → State → Prop} {Qc : Array Value → State → Outcome → State → Prop} {mc ms : Nat} {free : Addr → Prop} {cc : ByteArray} {maxL : Nat} {ret : Option FieldType}
    (hy : plainFor y = true) (hw : ws = Cond.code y cc maxL ret :: ws')
    (body : ∀ p e s m args below meth c s₁, BodyLoose p l y (headSpec ws rm) cc maxL ret e s m args below meth c s₁ → c.maxLocals = maxL → Pc args s →
      W p l e (headSpec ws rm).room s m args below meth c s.heap [] 0 0 (MQ below Qc args s mc ms free) (entryFrame m args maxL)) : Met l y ws rm Pc Qc mc ms free := by
  refine MetFree.of_bodySF (code := cc) (maxLocals := maxL) (ret := ret) hy ?_ ?_
  · intro args s m h hn
    obtain ⟨meth, c, h1, h2, h3, h4, h5, h6, -, -⟩ := Cond.code_spec hn (atoms_spec (ws := ws) h _ (by rw [hw]; exact List.mem_cons_self))
    exact ⟨meth, c, h1, h2, h3, h4, h5, h6⟩
  · intro p e s m args below meth c s₁ B hml hP _
    have hh0 : s₁.heap = s.heap := by rw [B.state]; rfl
    obtain ⟨t, a1, o, b1, b2, b3⟩ := body p e s m args below meth c s₁ B hml hP s₁ hh0 (Stand.of_body B)
    exact ⟨t, o, a1, b1, b2, ⟨b3.1, b3.2⟩⟩
theorem kb_mkCi {l : Launch} {D : va_G} {ad : Nat → Nat} {cy : Nat → ClassId} {y : MethodName} {ws ws' : List Cond} {fr lo maxL : Nat} {cc : ByteArray} {ret : FieldType} {av : List Value} {lv : List (Nat × Value)} {M M' : kb_M} {r : Int} (hy : plainFor y = true) (hw : ws = Cond.code y cc maxL (some ret) :: ws') (hlen : (lg_sl av).length ≤ maxL) (hlv : lv_args 0 av = lv) (h : ∀ (p : Program) (e : Env) (s : State) (m : MethodId) (args : Array Value) (below : List Frame) (meth : Method) (c : Code), kb_X p s m c cc maxL args ws y.cls D ad cy (kb_A ad s.heap.size) → meth.sig.returnType = (some ret) → meth.locks = false → kb_ok M → kb_B p l e ({ frames := fr, cells := 0, slots := 0, locals := lo }) s m args below meth c D ad cy (kb_A ad s.heap.size) maxL 0 0 (MQ below (va_Qi (fun (v : Int32) (_ : Unit) => v = kb_J r) (fun _ t => kb_en2 D ad cy M' t) (kb_A ad s.heap.size)) args s 0 0 (kb_A ad s.heap.size)) 0 lv [] M) : kb_Ci l D ad cy y ws fr lo av M r M' := by
  intro sz
  refine kb_ofW (cc := cc) (maxL := maxL) (ret := (some ret)) hy hw ?_
  intro p e s m args below meth c s₁ B hml hv
  obtain ⟨rfl, hsz, hM, hP, hK, hD0, hnw⟩ := hv
  have hts := atoms_spec (ws := ws) B.pre
  have hown : s.vm.findClass y.cls = some m.cls := findClass_of_methodNamed B.named
  subst hsz
  have X : kb_X p s m c cc maxL av.toArray ws y.cls D ad cy (kb_A ad s.heap.size) := ⟨⟨B.exec, B.bytes, hml, hown, hts⟩, hK, fun M2 => kb_Dself (kb_Dany hD0), fun q hq => Or.inr hq, hnw⟩
  have hl := lv_entry av (n := maxL) hlen
  rw [hlv] at hl
  rw [lg_entry_eq]
  exact h p e s m _ below meth c X B.returns B.notSynchronized hM _ _ _ hM hP va_S.rf hl
theorem kb_mkCl {l : Launch} {D : va_G} {ad : Nat → Nat} {cy : Nat → ClassId} {y : MethodName} {ws ws' : List Cond} {fr lo maxL : Nat} {cc : ByteArray} {ret : FieldType} {av : List Value} {lv : List (Nat × Value)} {M M' : kb_M} {r : Int} (hy : plainFor y = true) (hw : ws = Cond.code y cc maxL (some ret) :: ws') (hlen : (lg_sl av).length ≤ maxL) (hlv : lv_args 0 av = lv) (h : ∀ (p : Program) (e : Env) (s : State) (m : MethodId) (args : Array Value) (below : List Frame) (meth : Method) (c : Code), kb_X p s m c cc maxL args ws y.cls D ad cy (kb_A ad s.heap.size) → meth.sig.returnType = (some ret) → meth.locks = false → kb_ok M → kb_B p l e ({ frames := fr, cells := 0, slots := 0, locals := lo }) s m args below meth c D ad cy (kb_A ad s.heap.size) maxL 0 0 (MQ below (va_Ql (fun (v : Int64) (_ : Unit) => v = kb_L r) (fun _ t => kb_en2 D ad cy M' t) (kb_A ad s.heap.size)) args s 0 0 (kb_A ad s.heap.size)) 0 lv [] M) : kb_Cl l D ad cy y ws fr lo av M r M' := by
  intro sz
  refine kb_ofW (cc := cc) (maxL := maxL) (ret := (some ret)) hy hw ?_
  intro p e s m args below meth c s₁ B hml hv
  obtain ⟨rfl, hsz, hM, hP, hK, hD0, hnw⟩ := hv
  have hts := atoms_spec (ws := ws) B.pre
  have hown : s.vm.findClass y.cls = some m.cls := findClass_of_methodNamed B.named
  subst hsz
  have X : kb_X p s m c cc maxL av.toArray ws y.cls D ad cy (kb_A ad s.heap.size) := ⟨⟨B.exec, B.bytes, hml, hown, hts⟩, hK, fun M2 => kb_Dself (kb_Dany hD0), fun q hq => Or.inr hq, hnw⟩
  have hl := lv_entry av (n := maxL) hlen
  rw [hlv] at hl
  rw [lg_entry_eq]
  exact h p e s m _ below meth c X B.returns B.notSynchronized hM _ _ _ hM hP va_S.rf hl
theorem kb_mkCv {l : Launch} {D : va_G} {ad : Nat → Nat} {cy : Nat → ClassId} {y : MethodName} {ws ws' : List Cond} {fr lo maxL : Nat} {cc : ByteArray} {av : List Value} {lv : List (Nat × Value)} {M M' : kb_M} (hy : plainFor y = true) (hw : ws = Cond.code y cc maxL none :: ws') (hlen : (lg_sl av).length ≤ maxL) (hlv : lv_args 0 av = lv) (h : ∀ (p : Program) (e : Env) (s : State) (m : MethodId) (args : Array Value) (below : List Frame) (meth : Method) (c : Code), kb_X p s m c cc maxL args ws y.cls D ad cy (kb_A ad s.heap.size) → meth.sig.returnType = none → meth.locks = false → kb_ok M → kb_B p l e ({ frames := fr, cells := 0, slots := 0, locals := lo }) s m args below meth c D ad cy (kb_A ad s.heap.size) maxL 0 0 (MQ below (va_Qv (fun (_ : Unit) => True) (fun _ t => kb_en2 D ad cy M' t) (kb_A ad s.heap.size)) args s 0 0 (kb_A ad s.heap.size)) 0 lv [] M) : kb_Cv l D ad cy y ws fr lo av M M' := by
  intro sz
  refine kb_ofW (cc := cc) (maxL := maxL) (ret := none) hy hw ?_
  intro p e s m args below meth c s₁ B hml hv
  obtain ⟨rfl, hsz, hM, hP, hK, hD0, hnw⟩ := hv
  have hts := atoms_spec (ws := ws) B.pre
  have hown : s.vm.findClass y.cls = some m.cls := findClass_of_methodNamed B.named
  subst hsz
  have X : kb_X p s m c cc maxL av.toArray ws y.cls D ad cy (kb_A ad s.heap.size) := ⟨⟨B.exec, B.bytes, hml, hown, hts⟩, hK, fun M2 => kb_Dself (kb_Dany hD0), fun q hq => Or.inr hq, hnw⟩
  have hl := lv_entry av (n := maxL) hlen
  rw [hlv] at hl
  rw [lg_entry_eq]
  exact h p e s m _ below meth c X B.returns B.notSynchronized hM _ _ _ hM hP va_S.rf hl
end
section
section kb_fields
variable {p : Program} {l : Launch} {e : Env} {R : Room} {s : State} {m : MethodId} {args : Array Value} {below : List Frame} {meth : Method} {c : Code} {D : va_G} {ad : Nat → Nat} {cy : Nat → ClassId} {A : Nat → Prop} {nL cells slots : Nat} {Q : State → Prop}
variable {cc : ByteArray} {own : String} {Ts : List Cond} {pc : Nat} {lv : List (Nat × Value)} {st : List Value} {M : kb_M}
theorem kg_X0_values (X : kb_X p s m c cc nL args Ts own D ad cy A) {index : Nat} (hin : ∀ w ∈ wsX00, w ∈ Ts) (hw : Cond.fieldLink own index RX0 "values" "[I" ∈ Ts) (hd : decode cc pc = .ok (.getfield index, 3)) (k : kb_B p l e R s m args below meth c D ad cy A nL cells slots Q (pc + 3) lv (.ref (ad 21) :: st) M) : kb_B p l e R s m args below meth c D ad cy A nL cells slots Q pc lv (.ref (ad 5) :: st) M :=
  kb_getR (T := TX0) (N := 4) (ci := 0) X hin 5 0 (fl := [some 21, none, none, none]) rfl rfl (by decide) hw rfl rfl hd k
theorem kg_X0_lines (X : kb_X p s m c cc nL args Ts own D ad cy A) {index : Nat} (hin : ∀ w ∈ wsX00, w ∈ Ts) (hw : Cond.fieldLink own index RX0 "lines" "I" ∈ Ts) (hd : decode cc pc = .ok (.getfield index, 3)) (k : kb_B p l e R s m args below meth c D ad cy A nL cells slots Q (pc + 3) lv (kb_i (M 5 1) :: st) M) : kb_B p l e R s m args below meth c D ad cy A nL cells slots Q pc lv (.ref (ad 5) :: st) M :=
  kb_getI (T := TX0) (N := 4) (ci := 0) X hin 5 1 (fl := [some 21, none, none, none]) rfl rfl (by decide) hw rfl rfl hd k
theorem kp_X0_lines (X : kb_X p s m c cc nL args Ts own D ad cy A) {index : Nat} (hin : ∀ w ∈ wsX00, w ∈ Ts) (hw : Cond.fieldLink own index RX0 "lines" "I" ∈ Ts) {a : Int} (ha : kb_rg a) (hd : decode cc pc = .ok (.putfield index, 3)) (k : kb_B p l e R s m args below meth c D ad cy A nL cells slots Q (pc + 3) lv st (kb_wr M 5 1 a)) : kb_B p l e R s m args below meth c D ad cy A nL cells slots Q pc lv (kb_i a :: .ref (ad 5) :: st) M :=
  kb_putI (T := TX0) (N := 4) (ci := 0) X hin 5 1 (fl := [some 21, none, none, none]) rfl rfl (by decide) hw rfl rfl tyX0 tyX0_ok nmX0 rfl (by decide +kernel) ha hd k
theorem kg_X0_means (X : kb_X p s m c cc nL args Ts own D ad cy A) {index : Nat} (hin : ∀ w ∈ wsX00, w ∈ Ts) (hw : Cond.fieldLink own index RX0 "means" "I" ∈ Ts) (hd : decode cc pc = .ok (.getfield index, 3)) (k : kb_B p l e R s m args below meth c D ad cy A nL cells slots Q (pc + 3) lv (kb_i (M 5 2) :: st) M) : kb_B p l e R s m args below meth c D ad cy A nL cells slots Q pc lv (.ref (ad 5) :: st) M :=
  kb_getI (T := TX0) (N := 4) (ci := 0) X hin 5 2 (fl := [some 21, none, none, none]) rfl rfl (by decide) hw rfl rfl hd k
theorem kp_X0_means (X : kb_X p s m c cc nL args Ts own D ad cy A) {index : Nat} (hin : ∀ w ∈ wsX00, w ∈ Ts) (hw : Cond.fieldLink own index RX0 "means" "I" ∈ Ts) {a : Int} (ha : kb_rg a) (hd : decode cc pc = .ok (.putfield index, 3)) (k : kb_B p l e R s m args below meth c D ad cy A nL cells slots Q (pc + 3) lv st (kb_wr M 5 2 a)) : kb_B p l e R s m args below meth c D ad cy A nL cells slots Q pc lv (kb_i a :: .ref (ad 5) :: st) M :=
  kb_putI (T := TX0) (N := 4) (ci := 0) X hin 5 2 (fl := [some 21, none, none, none]) rfl rfl (by decide) hw rfl rfl tyX0 tyX0_ok nmX0 rfl (by decide +kernel) ha hd k
theorem kg_X0_step (X : kb_X p s m c cc nL args Ts own D ad cy A) {index : Nat} (hin : ∀ w ∈ wsX00, w ∈ Ts) (hw : Cond.fieldLink own index RX0 "step" "I" ∈ Ts) (hd : decode cc pc = .ok (.getfield index, 3)) (k : kb_B p l e R s m args below meth c D ad cy A nL cells slots Q (pc + 3) lv (kb_i (M 5 3) :: st) M) : kb_B p l e R s m args below meth c D ad cy A nL cells slots Q pc lv (.ref (ad 5) :: st) M :=
  kb_getI (T := TX0) (N := 4) (ci := 0) X hin 5 3 (fl := [some 21, none, none, none]) rfl rfl (by decide) hw rfl rfl hd k
theorem kp_X0_step (X : kb_X p s m c cc nL args Ts own D ad cy A) {index : Nat} (hin : ∀ w ∈ wsX00, w ∈ Ts) (hw : Cond.fieldLink own index RX0 "step" "I" ∈ Ts) {a : Int} (ha : kb_rg a) (hd : decode cc pc = .ok (.putfield index, 3)) (k : kb_B p l e R s m args below meth c D ad cy A nL cells slots Q (pc + 3) lv st (kb_wr M 5 3 a)) : kb_B p l e R s m args below meth c D ad cy A nL cells slots Q pc lv (kb_i a :: .ref (ad 5) :: st) M :=
  kb_putI (T := TX0) (N := 4) (ci := 0) X hin 5 3 (fl := [some 21, none, none, none]) rfl rfl (by decide) hw rfl rfl tyX0 tyX0_ok nmX0 rfl (by decide +kernel) ha hd k
theorem kg_X1_samples (X : kb_X p s m c cc nL args Ts own D ad cy A) {index : Nat} (hin : ∀ w ∈ wsX10, w ∈ Ts) (hw : Cond.fieldLink own index RX1 "samples" "[I" ∈ Ts) (hd : decode cc pc = .ok (.getfield index, 3)) (k : kb_B p l e R s m args below meth c D ad cy A nL cells slots Q (pc + 3) lv (.ref (ad 16) :: st) M) : kb_B p l e R s m args below meth c D ad cy A nL cells slots Q pc lv (.ref (ad 3) :: st) M :=
  kb_getR (T := TX1) (N := 5) (ci := 1) X hin 3 0 (fl := [some 16, some 17, none, none, none]) rfl rfl (by decide) hw rfl rfl hd k
theorem kg_X1_senders (X : kb_X p s m c cc nL args Ts own D ad cy A) {index : Nat} (hin : ∀ w ∈ wsX10, w ∈ Ts) (hw : Cond.fieldLink own index RX1 "senders" "[I" ∈ Ts) (hd : decode cc pc = .ok (.getfield index, 3)) (k : kb_B p l e R s m args below meth c D ad cy A nL cells slots Q (pc + 3) lv (.ref (ad 17) :: st) M) : kb_B p l e R s m args below meth c D ad cy A nL cells slots Q pc lv (.ref (ad 3) :: st) M :=
  kb_getR (T := TX1) (N := 5) (ci := 1) X hin 3 1 (fl := [some 16, some 17, none, none, none]) rfl rfl (by decide) hw rfl rfl hd k
theorem kg_X1_oldest (X : kb_X p s m c cc nL args Ts own D ad cy A) {index : Nat} (hin : ∀ w ∈ wsX10, w ∈ Ts) (hw : Cond.fieldLink own index RX1 "oldest" "I" ∈ Ts) (hd : decode cc pc = .ok (.getfield index, 3)) (k : kb_B p l e R s m args below meth c D ad cy A nL cells slots Q (pc + 3) lv (kb_i (M 3 2) :: st) M) : kb_B p l e R s m args below meth c D ad cy A nL cells slots Q pc lv (.ref (ad 3) :: st) M :=
  kb_getI (T := TX1) (N := 5) (ci := 1) X hin 3 2 (fl := [some 16, some 17, none, none, none]) rfl rfl (by decide) hw rfl rfl hd k
theorem kp_X1_oldest (X : kb_X p s m c cc nL args Ts own D ad cy A) {index : Nat} (hin : ∀ w ∈ wsX10, w ∈ Ts) (hw : Cond.fieldLink own index RX1 "oldest" "I" ∈ Ts) {a : Int} (ha : kb_rg a) (hd : decode cc pc = .ok (.putfield index, 3)) (k : kb_B p l e R s m args below meth c D ad cy A nL cells slots Q (pc + 3) lv st (kb_wr M 3 2 a)) : kb_B p l e R s m args below meth c D ad cy A nL cells slots Q pc lv (kb_i a :: .ref (ad 3) :: st) M :=
  kb_putI (T := TX1) (N := 5) (ci := 1) X hin 3 2 (fl := [some 16, some 17, none, none, none]) rfl rfl (by decide) hw rfl rfl tyX1 tyX1_ok nmX1 rfl (by decide +kernel) ha hd k
theorem kg_X1_size (X : kb_X p s m c cc nL args Ts own D ad cy A) {index : Nat} (hin : ∀ w ∈ wsX10, w ∈ Ts) (hw : Cond.fieldLink own index RX1 "size" "I" ∈ Ts) (hd : decode cc pc = .ok (.getfield index, 3)) (k : kb_B p l e R s m args below meth c D ad cy A nL cells slots Q (pc + 3) lv (kb_i (M 3 3) :: st) M) : kb_B p l e R s m args below meth c D ad cy A nL cells slots Q pc lv (.ref (ad 3) :: st) M :=
  kb_getI (T := TX1) (N := 5) (ci := 1) X hin 3 3 (fl := [some 16, some 17, none, none, none]) rfl rfl (by decide) hw rfl rfl hd k
theorem kp_X1_size (X : kb_X p s m c cc nL args Ts own D ad cy A) {index : Nat} (hin : ∀ w ∈ wsX10, w ∈ Ts) (hw : Cond.fieldLink own index RX1 "size" "I" ∈ Ts) {a : Int} (ha : kb_rg a) (hd : decode cc pc = .ok (.putfield index, 3)) (k : kb_B p l e R s m args below meth c D ad cy A nL cells slots Q (pc + 3) lv st (kb_wr M 3 3 a)) : kb_B p l e R s m args below meth c D ad cy A nL cells slots Q pc lv (kb_i a :: .ref (ad 3) :: st) M :=
  kb_putI (T := TX1) (N := 5) (ci := 1) X hin 3 3 (fl := [some 16, some 17, none, none, none]) rfl rfl (by decide) hw rfl rfl tyX1 tyX1_ok nmX1 rfl (by decide +kernel) ha hd k
theorem kg_X1_ever (X : kb_X p s m c cc nL args Ts own D ad cy A) {index : Nat} (hin : ∀ w ∈ wsX10, w ∈ Ts) (hw : Cond.fieldLink own index RX1 "ever" "I" ∈ Ts) (hd : decode cc pc = .ok (.getfield index, 3)) (k : kb_B p l e R s m args below meth c D ad cy A nL cells slots Q (pc + 3) lv (kb_i (M 3 4) :: st) M) : kb_B p l e R s m args below meth c D ad cy A nL cells slots Q pc lv (.ref (ad 3) :: st) M :=
  kb_getI (T := TX1) (N := 5) (ci := 1) X hin 3 4 (fl := [some 16, some 17, none, none, none]) rfl rfl (by decide) hw rfl rfl hd k
theorem kp_X1_ever (X : kb_X p s m c cc nL args Ts own D ad cy A) {index : Nat} (hin : ∀ w ∈ wsX10, w ∈ Ts) (hw : Cond.fieldLink own index RX1 "ever" "I" ∈ Ts) {a : Int} (ha : kb_rg a) (hd : decode cc pc = .ok (.putfield index, 3)) (k : kb_B p l e R s m args below meth c D ad cy A nL cells slots Q (pc + 3) lv st (kb_wr M 3 4 a)) : kb_B p l e R s m args below meth c D ad cy A nL cells slots Q pc lv (kb_i a :: .ref (ad 3) :: st) M :=
  kb_putI (T := TX1) (N := 5) (ci := 1) X hin 3 4 (fl := [some 16, some 17, none, none, none]) rfl rfl (by decide) hw rfl rfl tyX1 tyX1_ok nmX1 rfl (by decide +kernel) ha hd k
theorem kg_X2_heat (X : kb_X p s m c cc nL args Ts own D ad cy A) {index : Nat} (hin : ∀ w ∈ wsX20, w ∈ Ts) (hw : Cond.fieldLink own index RX2 "heat" "I" ∈ Ts) (hd : decode cc pc = .ok (.getfield index, 3)) (k : kb_B p l e R s m args below meth c D ad cy A nL cells slots Q (pc + 3) lv (kb_i (M 6 0) :: st) M) : kb_B p l e R s m args below meth c D ad cy A nL cells slots Q pc lv (.ref (ad 6) :: st) M :=
  kb_getI (T := TX2) (N := 2) (ci := 2) X hin 6 0 (fl := [none, none]) rfl rfl (by decide) hw rfl rfl hd k
theorem kp_X2_heat (X : kb_X p s m c cc nL args Ts own D ad cy A) {index : Nat} (hin : ∀ w ∈ wsX20, w ∈ Ts) (hw : Cond.fieldLink own index RX2 "heat" "I" ∈ Ts) {a : Int} (ha : kb_rg a) (hd : decode cc pc = .ok (.putfield index, 3)) (k : kb_B p l e R s m args below meth c D ad cy A nL cells slots Q (pc + 3) lv st (kb_wr M 6 0 a)) : kb_B p l e R s m args below meth c D ad cy A nL cells slots Q pc lv (kb_i a :: .ref (ad 6) :: st) M :=
  kb_putI (T := TX2) (N := 2) (ci := 2) X hin 6 0 (fl := [none, none]) rfl rfl (by decide) hw rfl rfl tyX2 tyX2_ok nmX2 rfl (by decide +kernel) ha hd k
theorem kg_X2_most (X : kb_X p s m c cc nL args Ts own D ad cy A) {index : Nat} (hin : ∀ w ∈ wsX20, w ∈ Ts) (hw : Cond.fieldLink own index RX2 "most" "I" ∈ Ts) (hd : decode cc pc = .ok (.getfield index, 3)) (k : kb_B p l e R s m args below meth c D ad cy A nL cells slots Q (pc + 3) lv (kb_i (M 6 1) :: st) M) : kb_B p l e R s m args below meth c D ad cy A nL cells slots Q pc lv (.ref (ad 6) :: st) M :=
  kb_getI (T := TX2) (N := 2) (ci := 2) X hin 6 1 (fl := [none, none]) rfl rfl (by decide) hw rfl rfl hd k
theorem kp_X2_most (X : kb_X p s m c cc nL args Ts own D ad cy A) {index : Nat} (hin : ∀ w ∈ wsX20, w ∈ Ts) (hw : Cond.fieldLink own index RX2 "most" "I" ∈ Ts) {a : Int} (ha : kb_rg a) (hd : decode cc pc = .ok (.putfield index, 3)) (k : kb_B p l e R s m args below meth c D ad cy A nL cells slots Q (pc + 3) lv st (kb_wr M 6 1 a)) : kb_B p l e R s m args below meth c D ad cy A nL cells slots Q pc lv (kb_i a :: .ref (ad 6) :: st) M :=
  kb_putI (T := TX2) (N := 2) (ci := 2) X hin 6 1 (fl := [none, none]) rfl rfl (by decide) hw rfl rfl tyX2 tyX2_ok nmX2 rfl (by decide +kernel) ha hd k
theorem kg_X3_xs (X : kb_X p s m c cc nL args Ts own D ad cy A) {index : Nat} (hin : ∀ w ∈ wsX30, w ∈ Ts) (hw : Cond.fieldLink own index RX3 "xs" "[I" ∈ Ts) (hd : decode cc pc = .ok (.getfield index, 3)) (k : kb_B p l e R s m args below meth c D ad cy A nL cells slots Q (pc + 3) lv (.ref (ad 7) :: st) M) : kb_B p l e R s m args below meth c D ad cy A nL cells slots Q pc lv (.ref (ad 1) :: st) M :=
  kb_getR (T := TX3) (N := 11) (ci := 3) X hin 1 0 (fl := [some 7, some 8, some 9, some 10, none, none, none, none, none, none, none]) rfl rfl (by decide) hw rfl rfl hd k
theorem kg_X3_deads (X : kb_X p s m c cc nL args Ts own D ad cy A) {index : Nat} (hin : ∀ w ∈ wsX30, w ∈ Ts) (hw : Cond.fieldLink own index RX3 "deads" "[Z" ∈ Ts) (hd : decode cc pc = .ok (.getfield index, 3)) (k : kb_B p l e R s m args below meth c D ad cy A nL cells slots Q (pc + 3) lv (.ref (ad 8) :: st) M) : kb_B p l e R s m args below meth c D ad cy A nL cells slots Q pc lv (.ref (ad 1) :: st) M :=
  kb_getR (T := TX3) (N := 11) (ci := 3) X hin 1 1 (fl := [some 7, some 8, some 9, some 10, none, none, none, none, none, none, none]) rfl rfl (by decide) hw rfl rfl hd k
theorem kg_X3_aimedDelays (X : kb_X p s m c cc nL args Ts own D ad cy A) {index : Nat} (hin : ∀ w ∈ wsX30, w ∈ Ts) (hw : Cond.fieldLink own index RX3 "aimedDelays" "[I" ∈ Ts) (hd : decode cc pc = .ok (.getfield index, 3)) (k : kb_B p l e R s m args below meth c D ad cy A nL cells slots Q (pc + 3) lv (.ref (ad 9) :: st) M) : kb_B p l e R s m args below meth c D ad cy A nL cells slots Q pc lv (.ref (ad 1) :: st) M :=
  kb_getR (T := TX3) (N := 11) (ci := 3) X hin 1 2 (fl := [some 7, some 8, some 9, some 10, none, none, none, none, none, none, none]) rfl rfl (by decide) hw rfl rfl hd k
theorem kg_X3_aimedWeights (X : kb_X p s m c cc nL args Ts own D ad cy A) {index : Nat} (hin : ∀ w ∈ wsX30, w ∈ Ts) (hw : Cond.fieldLink own index RX3 "aimedWeights" "[I" ∈ Ts) (hd : decode cc pc = .ok (.getfield index, 3)) (k : kb_B p l e R s m args below meth c D ad cy A nL cells slots Q (pc + 3) lv (.ref (ad 10) :: st) M) : kb_B p l e R s m args below meth c D ad cy A nL cells slots Q pc lv (.ref (ad 1) :: st) M :=
  kb_getR (T := TX3) (N := 11) (ci := 3) X hin 1 3 (fl := [some 7, some 8, some 9, some 10, none, none, none, none, none, none, none]) rfl rfl (by decide) hw rfl rfl hd k
theorem kg_X3_aimedTotal (X : kb_X p s m c cc nL args Ts own D ad cy A) {index : Nat} (hin : ∀ w ∈ wsX30, w ∈ Ts) (hw : Cond.fieldLink own index RX3 "aimedTotal" "I" ∈ Ts) (hd : decode cc pc = .ok (.getfield index, 3)) (k : kb_B p l e R s m args below meth c D ad cy A nL cells slots Q (pc + 3) lv (kb_i (M 1 4) :: st) M) : kb_B p l e R s m args below meth c D ad cy A nL cells slots Q pc lv (.ref (ad 1) :: st) M :=
  kb_getI (T := TX3) (N := 11) (ci := 3) X hin 1 4 (fl := [some 7, some 8, some 9, some 10, none, none, none, none, none, none, none]) rfl rfl (by decide) hw rfl rfl hd k
theorem kp_X3_aimedTotal (X : kb_X p s m c cc nL args Ts own D ad cy A) {index : Nat} (hin : ∀ w ∈ wsX30, w ∈ Ts) (hw : Cond.fieldLink own index RX3 "aimedTotal" "I" ∈ Ts) {a : Int} (ha : kb_rg a) (hd : decode cc pc = .ok (.putfield index, 3)) (k : kb_B p l e R s m args below meth c D ad cy A nL cells slots Q (pc + 3) lv st (kb_wr M 1 4 a)) : kb_B p l e R s m args below meth c D ad cy A nL cells slots Q pc lv (kb_i a :: .ref (ad 1) :: st) M :=
  kb_putI (T := TX3) (N := 11) (ci := 3) X hin 1 4 (fl := [some 7, some 8, some 9, some 10, none, none, none, none, none, none, none]) rfl rfl (by decide) hw rfl rfl tyX3 tyX3_ok nmX3 rfl (by decide +kernel) ha hd k
theorem kg_X3_size (X : kb_X p s m c cc nL args Ts own D ad cy A) {index : Nat} (hin : ∀ w ∈ wsX30, w ∈ Ts) (hw : Cond.fieldLink own index RX3 "size" "I" ∈ Ts) (hd : decode cc pc = .ok (.getfield index, 3)) (k : kb_B p l e R s m args below meth c D ad cy A nL cells slots Q (pc + 3) lv (kb_i (M 1 5) :: st) M) : kb_B p l e R s m args below meth c D ad cy A nL cells slots Q pc lv (.ref (ad 1) :: st) M :=
  kb_getI (T := TX3) (N := 11) (ci := 3) X hin 1 5 (fl := [some 7, some 8, some 9, some 10, none, none, none, none, none, none, none]) rfl rfl (by decide) hw rfl rfl hd k
theorem kp_X3_size (X : kb_X p s m c cc nL args Ts own D ad cy A) {index : Nat} (hin : ∀ w ∈ wsX30, w ∈ Ts) (hw : Cond.fieldLink own index RX3 "size" "I" ∈ Ts) {a : Int} (ha : kb_rg a) (hd : decode cc pc = .ok (.putfield index, 3)) (k : kb_B p l e R s m args below meth c D ad cy A nL cells slots Q (pc + 3) lv st (kb_wr M 1 5 a)) : kb_B p l e R s m args below meth c D ad cy A nL cells slots Q pc lv (kb_i a :: .ref (ad 1) :: st) M :=
  kb_putI (T := TX3) (N := 11) (ci := 3) X hin 1 5 (fl := [some 7, some 8, some 9, some 10, none, none, none, none, none, none, none]) rfl rfl (by decide) hw rfl rfl tyX3 tyX3_ok nmX3 rfl (by decide +kernel) ha hd k
theorem kg_X3_alive (X : kb_X p s m c cc nL args Ts own D ad cy A) {index : Nat} (hin : ∀ w ∈ wsX30, w ∈ Ts) (hw : Cond.fieldLink own index RX3 "alive" "I" ∈ Ts) (hd : decode cc pc = .ok (.getfield index, 3)) (k : kb_B p l e R s m args below meth c D ad cy A nL cells slots Q (pc + 3) lv (kb_i (M 1 6) :: st) M) : kb_B p l e R s m args below meth c D ad cy A nL cells slots Q pc lv (.ref (ad 1) :: st) M :=
  kb_getI (T := TX3) (N := 11) (ci := 3) X hin 1 6 (fl := [some 7, some 8, some 9, some 10, none, none, none, none, none, none, none]) rfl rfl (by decide) hw rfl rfl hd k
theorem kp_X3_alive (X : kb_X p s m c cc nL args Ts own D ad cy A) {index : Nat} (hin : ∀ w ∈ wsX30, w ∈ Ts) (hw : Cond.fieldLink own index RX3 "alive" "I" ∈ Ts) {a : Int} (ha : kb_rg a) (hd : decode cc pc = .ok (.putfield index, 3)) (k : kb_B p l e R s m args below meth c D ad cy A nL cells slots Q (pc + 3) lv st (kb_wr M 1 6 a)) : kb_B p l e R s m args below meth c D ad cy A nL cells slots Q pc lv (kb_i a :: .ref (ad 1) :: st) M :=
  kb_putI (T := TX3) (N := 11) (ci := 3) X hin 1 6 (fl := [some 7, some 8, some 9, some 10, none, none, none, none, none, none, none]) rfl rfl (by decide) hw rfl rfl tyX3 tyX3_ok nmX3 rfl (by decide +kernel) ha hd k
theorem kg_X3_steps (X : kb_X p s m c cc nL args Ts own D ad cy A) {index : Nat} (hin : ∀ w ∈ wsX30, w ∈ Ts) (hw : Cond.fieldLink own index RX3 "steps" "I" ∈ Ts) (hd : decode cc pc = .ok (.getfield index, 3)) (k : kb_B p l e R s m args below meth c D ad cy A nL cells slots Q (pc + 3) lv (kb_i (M 1 7) :: st) M) : kb_B p l e R s m args below meth c D ad cy A nL cells slots Q pc lv (.ref (ad 1) :: st) M :=
  kb_getI (T := TX3) (N := 11) (ci := 3) X hin 1 7 (fl := [some 7, some 8, some 9, some 10, none, none, none, none, none, none, none]) rfl rfl (by decide) hw rfl rfl hd k
theorem kp_X3_steps (X : kb_X p s m c cc nL args Ts own D ad cy A) {index : Nat} (hin : ∀ w ∈ wsX30, w ∈ Ts) (hw : Cond.fieldLink own index RX3 "steps" "I" ∈ Ts) {a : Int} (ha : kb_rg a) (hd : decode cc pc = .ok (.putfield index, 3)) (k : kb_B p l e R s m args below meth c D ad cy A nL cells slots Q (pc + 3) lv st (kb_wr M 1 7 a)) : kb_B p l e R s m args below meth c D ad cy A nL cells slots Q pc lv (kb_i a :: .ref (ad 1) :: st) M :=
  kb_putI (T := TX3) (N := 11) (ci := 3) X hin 1 7 (fl := [some 7, some 8, some 9, some 10, none, none, none, none, none, none, none]) rfl rfl (by decide) hw rfl rfl tyX3 tyX3_ok nmX3 rfl (by decide +kernel) ha hd k
theorem kg_X3_ticks (X : kb_X p s m c cc nL args Ts own D ad cy A) {index : Nat} (hin : ∀ w ∈ wsX30, w ∈ Ts) (hw : Cond.fieldLink own index RX3 "ticks" "I" ∈ Ts) (hd : decode cc pc = .ok (.getfield index, 3)) (k : kb_B p l e R s m args below meth c D ad cy A nL cells slots Q (pc + 3) lv (kb_i (M 1 8) :: st) M) : kb_B p l e R s m args below meth c D ad cy A nL cells slots Q pc lv (.ref (ad 1) :: st) M :=
  kb_getI (T := TX3) (N := 11) (ci := 3) X hin 1 8 (fl := [some 7, some 8, some 9, some 10, none, none, none, none, none, none, none]) rfl rfl (by decide) hw rfl rfl hd k
theorem kp_X3_ticks (X : kb_X p s m c cc nL args Ts own D ad cy A) {index : Nat} (hin : ∀ w ∈ wsX30, w ∈ Ts) (hw : Cond.fieldLink own index RX3 "ticks" "I" ∈ Ts) {a : Int} (ha : kb_rg a) (hd : decode cc pc = .ok (.putfield index, 3)) (k : kb_B p l e R s m args below meth c D ad cy A nL cells slots Q (pc + 3) lv st (kb_wr M 1 8 a)) : kb_B p l e R s m args below meth c D ad cy A nL cells slots Q pc lv (kb_i a :: .ref (ad 1) :: st) M :=
  kb_putI (T := TX3) (N := 11) (ci := 3) X hin 1 8 (fl := [some 7, some 8, some 9, some 10, none, none, none, none, none, none, none]) rfl rfl (by decide) hw rfl rfl tyX3 tyX3_ok nmX3 rfl (by decide +kernel) ha hd k
theorem kg_X3_window (X : kb_X p s m c cc nL args Ts own D ad cy A) {index : Nat} (hin : ∀ w ∈ wsX30, w ∈ Ts) (hw : Cond.fieldLink own index RX3 "window" "I" ∈ Ts) (hd : decode cc pc = .ok (.getfield index, 3)) (k : kb_B p l e R s m args below meth c D ad cy A nL cells slots Q (pc + 3) lv (kb_i (M 1 9) :: st) M) : kb_B p l e R s m args below meth c D ad cy A nL cells slots Q pc lv (.ref (ad 1) :: st) M :=
  kb_getI (T := TX3) (N := 11) (ci := 3) X hin 1 9 (fl := [some 7, some 8, some 9, some 10, none, none, none, none, none, none, none]) rfl rfl (by decide) hw rfl rfl hd k
theorem kp_X3_window (X : kb_X p s m c cc nL args Ts own D ad cy A) {index : Nat} (hin : ∀ w ∈ wsX30, w ∈ Ts) (hw : Cond.fieldLink own index RX3 "window" "I" ∈ Ts) {a : Int} (ha : kb_rg a) (hd : decode cc pc = .ok (.putfield index, 3)) (k : kb_B p l e R s m args below meth c D ad cy A nL cells slots Q (pc + 3) lv st (kb_wr M 1 9 a)) : kb_B p l e R s m args below meth c D ad cy A nL cells slots Q pc lv (kb_i a :: .ref (ad 1) :: st) M :=
  kb_putI (T := TX3) (N := 11) (ci := 3) X hin 1 9 (fl := [some 7, some 8, some 9, some 10, none, none, none, none, none, none, none]) rfl rfl (by decide) hw rfl rfl tyX3 tyX3_ok nmX3 rfl (by decide +kernel) ha hd k
theorem kg_X3_narrowness (X : kb_X p s m c cc nL args Ts own D ad cy A) {index : Nat} (hin : ∀ w ∈ wsX30, w ∈ Ts) (hw : Cond.fieldLink own index RX3 "narrowness" "I" ∈ Ts) (hd : decode cc pc = .ok (.getfield index, 3)) (k : kb_B p l e R s m args below meth c D ad cy A nL cells slots Q (pc + 3) lv (kb_i (M 1 10) :: st) M) : kb_B p l e R s m args below meth c D ad cy A nL cells slots Q pc lv (.ref (ad 1) :: st) M :=
  kb_getI (T := TX3) (N := 11) (ci := 3) X hin 1 10 (fl := [some 7, some 8, some 9, some 10, none, none, none, none, none, none, none]) rfl rfl (by decide) hw rfl rfl hd k
theorem kp_X3_narrowness (X : kb_X p s m c cc nL args Ts own D ad cy A) {index : Nat} (hin : ∀ w ∈ wsX30, w ∈ Ts) (hw : Cond.fieldLink own index RX3 "narrowness" "I" ∈ Ts) {a : Int} (ha : kb_rg a) (hd : decode cc pc = .ok (.putfield index, 3)) (k : kb_B p l e R s m args below meth c D ad cy A nL cells slots Q (pc + 3) lv st (kb_wr M 1 10 a)) : kb_B p l e R s m args below meth c D ad cy A nL cells slots Q pc lv (kb_i a :: .ref (ad 1) :: st) M :=
  kb_putI (T := TX3) (N := 11) (ci := 3) X hin 1 10 (fl := [some 7, some 8, some 9, some 10, none, none, none, none, none, none, none]) rfl rfl (by decide) hw rfl rfl tyX3 tyX3_ok nmX3 rfl (by decide +kernel) ha hd k
theorem kg_X4_pixels (X : kb_X p s m c cc nL args Ts own D ad cy A) {index : Nat} (hin : ∀ w ∈ wsX40, w ∈ Ts) (hw : Cond.fieldLink own index RX4 "pixels" "[I" ∈ Ts) (hd : decode cc pc = .ok (.getfield index, 3)) (k : kb_B p l e R s m args below meth c D ad cy A nL cells slots Q (pc + 3) lv (.ref (ad 18) :: st) M) : kb_B p l e R s m args below meth c D ad cy A nL cells slots Q pc lv (.ref (ad 4) :: st) M :=
  kb_getR (T := TX4) (N := 5) (ci := 4) X hin 4 0 (fl := [some 18, some 19, some 20, none, none]) rfl rfl (by decide) hw rfl rfl hd k
theorem kg_X4_widths (X : kb_X p s m c cc nL args Ts own D ad cy A) {index : Nat} (hin : ∀ w ∈ wsX40, w ∈ Ts) (hw : Cond.fieldLink own index RX4 "widths" "[I" ∈ Ts) (hd : decode cc pc = .ok (.getfield index, 3)) (k : kb_B p l e R s m args below meth c D ad cy A nL cells slots Q (pc + 3) lv (.ref (ad 19) :: st) M) : kb_B p l e R s m args below meth c D ad cy A nL cells slots Q pc lv (.ref (ad 4) :: st) M :=
  kb_getR (T := TX4) (N := 5) (ci := 4) X hin 4 1 (fl := [some 18, some 19, some 20, none, none]) rfl rfl (by decide) hw rfl rfl hd k
theorem kg_X4_heights (X : kb_X p s m c cc nL args Ts own D ad cy A) {index : Nat} (hin : ∀ w ∈ wsX40, w ∈ Ts) (hw : Cond.fieldLink own index RX4 "heights" "[I" ∈ Ts) (hd : decode cc pc = .ok (.getfield index, 3)) (k : kb_B p l e R s m args below meth c D ad cy A nL cells slots Q (pc + 3) lv (.ref (ad 20) :: st) M) : kb_B p l e R s m args below meth c D ad cy A nL cells slots Q pc lv (.ref (ad 4) :: st) M :=
  kb_getR (T := TX4) (N := 5) (ci := 4) X hin 4 2 (fl := [some 18, some 19, some 20, none, none]) rfl rfl (by decide) hw rfl rfl hd k
theorem kg_X4_oldest (X : kb_X p s m c cc nL args Ts own D ad cy A) {index : Nat} (hin : ∀ w ∈ wsX40, w ∈ Ts) (hw : Cond.fieldLink own index RX4 "oldest" "I" ∈ Ts) (hd : decode cc pc = .ok (.getfield index, 3)) (k : kb_B p l e R s m args below meth c D ad cy A nL cells slots Q (pc + 3) lv (kb_i (M 4 3) :: st) M) : kb_B p l e R s m args below meth c D ad cy A nL cells slots Q pc lv (.ref (ad 4) :: st) M :=
  kb_getI (T := TX4) (N := 5) (ci := 4) X hin 4 3 (fl := [some 18, some 19, some 20, none, none]) rfl rfl (by decide) hw rfl rfl hd k
theorem kp_X4_oldest (X : kb_X p s m c cc nL args Ts own D ad cy A) {index : Nat} (hin : ∀ w ∈ wsX40, w ∈ Ts) (hw : Cond.fieldLink own index RX4 "oldest" "I" ∈ Ts) {a : Int} (ha : kb_rg a) (hd : decode cc pc = .ok (.putfield index, 3)) (k : kb_B p l e R s m args below meth c D ad cy A nL cells slots Q (pc + 3) lv st (kb_wr M 4 3 a)) : kb_B p l e R s m args below meth c D ad cy A nL cells slots Q pc lv (kb_i a :: .ref (ad 4) :: st) M :=
  kb_putI (T := TX4) (N := 5) (ci := 4) X hin 4 3 (fl := [some 18, some 19, some 20, none, none]) rfl rfl (by decide) hw rfl rfl tyX4 tyX4_ok nmX4 rfl (by decide +kernel) ha hd k
theorem kg_X4_size (X : kb_X p s m c cc nL args Ts own D ad cy A) {index : Nat} (hin : ∀ w ∈ wsX40, w ∈ Ts) (hw : Cond.fieldLink own index RX4 "size" "I" ∈ Ts) (hd : decode cc pc = .ok (.getfield index, 3)) (k : kb_B p l e R s m args below meth c D ad cy A nL cells slots Q (pc + 3) lv (kb_i (M 4 4) :: st) M) : kb_B p l e R s m args below meth c D ad cy A nL cells slots Q pc lv (.ref (ad 4) :: st) M :=
  kb_getI (T := TX4) (N := 5) (ci := 4) X hin 4 4 (fl := [some 18, some 19, some 20, none, none]) rfl rfl (by decide) hw rfl rfl hd k
theorem kp_X4_size (X : kb_X p s m c cc nL args Ts own D ad cy A) {index : Nat} (hin : ∀ w ∈ wsX40, w ∈ Ts) (hw : Cond.fieldLink own index RX4 "size" "I" ∈ Ts) {a : Int} (ha : kb_rg a) (hd : decode cc pc = .ok (.putfield index, 3)) (k : kb_B p l e R s m args below meth c D ad cy A nL cells slots Q (pc + 3) lv st (kb_wr M 4 4 a)) : kb_B p l e R s m args below meth c D ad cy A nL cells slots Q pc lv (kb_i a :: .ref (ad 4) :: st) M :=
  kb_putI (T := TX4) (N := 5) (ci := 4) X hin 4 4 (fl := [some 18, some 19, some 20, none, none]) rfl rfl (by decide) hw rfl rfl tyX4 tyX4_ok nmX4 rfl (by decide +kernel) ha hd k
theorem kg_X5_xs (X : kb_X p s m c cc nL args Ts own D ad cy A) {index : Nat} (hin : ∀ w ∈ wsX50, w ∈ Ts) (hw : Cond.fieldLink own index RX5 "xs" "[I" ∈ Ts) (hd : decode cc pc = .ok (.getfield index, 3)) (k : kb_B p l e R s m args below meth c D ad cy A nL cells slots Q (pc + 3) lv (.ref (ad 11) :: st) M) : kb_B p l e R s m args below meth c D ad cy A nL cells slots Q pc lv (.ref (ad 2) :: st) M :=
  kb_getR (T := TX5) (N := 6) (ci := 5) X hin 2 0 (fl := [some 11, some 12, some 13, some 14, some 15, none]) rfl rfl (by decide) hw rfl rfl hd k
theorem kg_X5_zs (X : kb_X p s m c cc nL args Ts own D ad cy A) {index : Nat} (hin : ∀ w ∈ wsX50, w ∈ Ts) (hw : Cond.fieldLink own index RX5 "zs" "[I" ∈ Ts) (hd : decode cc pc = .ok (.getfield index, 3)) (k : kb_B p l e R s m args below meth c D ad cy A nL cells slots Q (pc + 3) lv (.ref (ad 12) :: st) M) : kb_B p l e R s m args below meth c D ad cy A nL cells slots Q pc lv (.ref (ad 2) :: st) M :=
  kb_getR (T := TX5) (N := 6) (ci := 5) X hin 2 1 (fl := [some 11, some 12, some 13, some 14, some 15, none]) rfl rfl (by decide) hw rfl rfl hd k
theorem kg_X5_strengths (X : kb_X p s m c cc nL args Ts own D ad cy A) {index : Nat} (hin : ∀ w ∈ wsX50, w ∈ Ts) (hw : Cond.fieldLink own index RX5 "strengths" "[I" ∈ Ts) (hd : decode cc pc = .ok (.getfield index, 3)) (k : kb_B p l e R s m args below meth c D ad cy A nL cells slots Q (pc + 3) lv (.ref (ad 13) :: st) M) : kb_B p l e R s m args below meth c D ad cy A nL cells slots Q pc lv (.ref (ad 2) :: st) M :=
  kb_getR (T := TX5) (N := 6) (ci := 5) X hin 2 2 (fl := [some 11, some 12, some 13, some 14, some 15, none]) rfl rfl (by decide) hw rfl rfl hd k
theorem kg_X5_dxs (X : kb_X p s m c cc nL args Ts own D ad cy A) {index : Nat} (hin : ∀ w ∈ wsX50, w ∈ Ts) (hw : Cond.fieldLink own index RX5 "dxs" "[I" ∈ Ts) (hd : decode cc pc = .ok (.getfield index, 3)) (k : kb_B p l e R s m args below meth c D ad cy A nL cells slots Q (pc + 3) lv (.ref (ad 14) :: st) M) : kb_B p l e R s m args below meth c D ad cy A nL cells slots Q pc lv (.ref (ad 2) :: st) M :=
  kb_getR (T := TX5) (N := 6) (ci := 5) X hin 2 3 (fl := [some 11, some 12, some 13, some 14, some 15, none]) rfl rfl (by decide) hw rfl rfl hd k
theorem kg_X5_dzs (X : kb_X p s m c cc nL args Ts own D ad cy A) {index : Nat} (hin : ∀ w ∈ wsX50, w ∈ Ts) (hw : Cond.fieldLink own index RX5 "dzs" "[I" ∈ Ts) (hd : decode cc pc = .ok (.getfield index, 3)) (k : kb_B p l e R s m args below meth c D ad cy A nL cells slots Q (pc + 3) lv (.ref (ad 15) :: st) M) : kb_B p l e R s m args below meth c D ad cy A nL cells slots Q pc lv (.ref (ad 2) :: st) M :=
  kb_getR (T := TX5) (N := 6) (ci := 5) X hin 2 4 (fl := [some 11, some 12, some 13, some 14, some 15, none]) rfl rfl (by decide) hw rfl rfl hd k
theorem kg_X5_size (X : kb_X p s m c cc nL args Ts own D ad cy A) {index : Nat} (hin : ∀ w ∈ wsX50, w ∈ Ts) (hw : Cond.fieldLink own index RX5 "size" "I" ∈ Ts) (hd : decode cc pc = .ok (.getfield index, 3)) (k : kb_B p l e R s m args below meth c D ad cy A nL cells slots Q (pc + 3) lv (kb_i (M 2 5) :: st) M) : kb_B p l e R s m args below meth c D ad cy A nL cells slots Q pc lv (.ref (ad 2) :: st) M :=
  kb_getI (T := TX5) (N := 6) (ci := 5) X hin 2 5 (fl := [some 11, some 12, some 13, some 14, some 15, none]) rfl rfl (by decide) hw rfl rfl hd k
theorem kp_X5_size (X : kb_X p s m c cc nL args Ts own D ad cy A) {index : Nat} (hin : ∀ w ∈ wsX50, w ∈ Ts) (hw : Cond.fieldLink own index RX5 "size" "I" ∈ Ts) {a : Int} (ha : kb_rg a) (hd : decode cc pc = .ok (.putfield index, 3)) (k : kb_B p l e R s m args below meth c D ad cy A nL cells slots Q (pc + 3) lv st (kb_wr M 2 5 a)) : kb_B p l e R s m args below meth c D ad cy A nL cells slots Q pc lv (kb_i a :: .ref (ad 2) :: st) M :=
  kb_putI (T := TX5) (N := 6) (ci := 5) X hin 2 5 (fl := [some 11, some 12, some 13, some 14, some 15, none]) rfl rfl (by decide) hw rfl rfl tyX5 tyX5_ok nmX5 rfl (by decide +kernel) ha hd k
theorem kg_X6_elements (X : kb_X p s m c cc nL args Ts own D ad cy A) {index : Nat} (hin : ∀ w ∈ wsX60, w ∈ Ts) (hw : Cond.fieldLink own index RX6 "elements" "LSoundBoard$Probe;" ∈ Ts) (hd : decode cc pc = .ok (.getfield index, 3)) (k : kb_B p l e R s m args below meth c D ad cy A nL cells slots Q (pc + 3) lv (.ref (ad 1) :: st) M) : kb_B p l e R s m args below meth c D ad cy A nL cells slots Q pc lv (.ref (ad 0) :: st) M :=
  kb_getR (T := TX6) (N := 6) (ci := 6) X hin 0 0 (fl := [some 1, some 2, some 3, some 4, some 5, some 6]) rfl rfl (by decide) hw rfl rfl hd k
theorem kg_X6_scene (X : kb_X p s m c cc nL args Ts own D ad cy A) {index : Nat} (hin : ∀ w ∈ wsX60, w ∈ Ts) (hw : Cond.fieldLink own index RX6 "scene" "LSoundBoard$Scene;" ∈ Ts) (hd : decode cc pc = .ok (.getfield index, 3)) (k : kb_B p l e R s m args below meth c D ad cy A nL cells slots Q (pc + 3) lv (.ref (ad 2) :: st) M) : kb_B p l e R s m args below meth c D ad cy A nL cells slots Q pc lv (.ref (ad 0) :: st) M :=
  kb_getR (T := TX6) (N := 6) (ci := 6) X hin 0 1 (fl := [some 1, some 2, some 3, some 4, some 5, some 6]) rfl rfl (by decide) hw rfl rfl hd k
theorem kg_X6_heard (X : kb_X p s m c cc nL args Ts own D ad cy A) {index : Nat} (hin : ∀ w ∈ wsX60, w ∈ Ts) (hw : Cond.fieldLink own index RX6 "heard" "LSoundBoard$Looks;" ∈ Ts) (hd : decode cc pc = .ok (.getfield index, 3)) (k : kb_B p l e R s m args below meth c D ad cy A nL cells slots Q (pc + 3) lv (.ref (ad 3) :: st) M) : kb_B p l e R s m args below meth c D ad cy A nL cells slots Q pc lv (.ref (ad 0) :: st) M :=
  kb_getR (T := TX6) (N := 6) (ci := 6) X hin 0 2 (fl := [some 1, some 2, some 3, some 4, some 5, some 6]) rfl rfl (by decide) hw rfl rfl hd k
theorem kg_X6_ring (X : kb_X p s m c cc nL args Ts own D ad cy A) {index : Nat} (hin : ∀ w ∈ wsX60, w ∈ Ts) (hw : Cond.fieldLink own index RX6 "ring" "LSoundBoard$Ring;" ∈ Ts) (hd : decode cc pc = .ok (.getfield index, 3)) (k : kb_B p l e R s m args below meth c D ad cy A nL cells slots Q (pc + 3) lv (.ref (ad 4) :: st) M) : kb_B p l e R s m args below meth c D ad cy A nL cells slots Q pc lv (.ref (ad 0) :: st) M :=
  kb_getR (T := TX6) (N := 6) (ci := 6) X hin 0 3 (fl := [some 1, some 2, some 3, some 4, some 5, some 6]) rfl rfl (by decide) hw rfl rfl hd k
theorem kg_X6_laid (X : kb_X p s m c cc nL args Ts own D ad cy A) {index : Nat} (hin : ∀ w ∈ wsX60, w ∈ Ts) (hw : Cond.fieldLink own index RX6 "laid" "LSoundBoard$Fan;" ∈ Ts) (hd : decode cc pc = .ok (.getfield index, 3)) (k : kb_B p l e R s m args below meth c D ad cy A nL cells slots Q (pc + 3) lv (.ref (ad 5) :: st) M) : kb_B p l e R s m args below meth c D ad cy A nL cells slots Q pc lv (.ref (ad 0) :: st) M :=
  kb_getR (T := TX6) (N := 6) (ci := 6) X hin 0 4 (fl := [some 1, some 2, some 3, some 4, some 5, some 6]) rfl rfl (by decide) hw rfl rfl hd k
theorem kg_X6_power (X : kb_X p s m c cc nL args Ts own D ad cy A) {index : Nat} (hin : ∀ w ∈ wsX60, w ∈ Ts) (hw : Cond.fieldLink own index RX6 "power" "LSoundBoard$Power;" ∈ Ts) (hd : decode cc pc = .ok (.getfield index, 3)) (k : kb_B p l e R s m args below meth c D ad cy A nL cells slots Q (pc + 3) lv (.ref (ad 6) :: st) M) : kb_B p l e R s m args below meth c D ad cy A nL cells slots Q pc lv (.ref (ad 0) :: st) M :=
  kb_getR (T := TX6) (N := 6) (ci := 6) X hin 0 5 (fl := [some 1, some 2, some 3, some 4, some 5, some 6]) rfl rfl (by decide) hw rfl rfl hd k
theorem kg_X7_n (X : kb_X p s m c cc nL args Ts own D ad cy A) {index : Nat} (hin : ∀ w ∈ wsX70, w ∈ Ts) (hw : Cond.fieldLink own index RX7 "n" "I" ∈ Ts) (hd : decode cc pc = .ok (.getfield index, 3)) (k : kb_B p l e R s m args below meth c D ad cy A nL cells slots Q (pc + 3) lv (kb_i (M 22 0) :: st) M) : kb_B p l e R s m args below meth c D ad cy A nL cells slots Q pc lv (.ref (ad 22) :: st) M :=
  kb_getI (T := TX7) (N := 28) (ci := 7) X hin 22 0 (fl := [none, some 23, some 24, none, none, none, none, none, none, none, none, some 25, some 26, some 27, some 28, some 29, none, some 30, some 31, none, some 32, some 33, some 34, some 35, none, none, none, some 36]) rfl rfl (by decide) hw rfl rfl hd k
theorem kp_X7_n (X : kb_X p s m c cc nL args Ts own D ad cy A) {index : Nat} (hin : ∀ w ∈ wsX70, w ∈ Ts) (hw : Cond.fieldLink own index RX7 "n" "I" ∈ Ts) {a : Int} (ha : kb_rg a) (hd : decode cc pc = .ok (.putfield index, 3)) (k : kb_B p l e R s m args below meth c D ad cy A nL cells slots Q (pc + 3) lv st (kb_wr M 22 0 a)) : kb_B p l e R s m args below meth c D ad cy A nL cells slots Q pc lv (kb_i a :: .ref (ad 22) :: st) M :=
  kb_putI (T := TX7) (N := 28) (ci := 7) X hin 22 0 (fl := [none, some 23, some 24, none, none, none, none, none, none, none, none, some 25, some 26, some 27, some 28, some 29, none, some 30, some 31, none, some 32, some 33, some 34, some 35, none, none, none, some 36]) rfl rfl (by decide) hw rfl rfl tyX7 tyX7_ok nmX7 rfl (by decide +kernel) ha hd k
theorem kg_X7_xs (X : kb_X p s m c cc nL args Ts own D ad cy A) {index : Nat} (hin : ∀ w ∈ wsX70, w ∈ Ts) (hw : Cond.fieldLink own index RX7 "xs" "[I" ∈ Ts) (hd : decode cc pc = .ok (.getfield index, 3)) (k : kb_B p l e R s m args below meth c D ad cy A nL cells slots Q (pc + 3) lv (.ref (ad 23) :: st) M) : kb_B p l e R s m args below meth c D ad cy A nL cells slots Q pc lv (.ref (ad 22) :: st) M :=
  kb_getR (T := TX7) (N := 28) (ci := 7) X hin 22 1 (fl := [none, some 23, some 24, none, none, none, none, none, none, none, none, some 25, some 26, some 27, some 28, some 29, none, some 30, some 31, none, some 32, some 33, some 34, some 35, none, none, none, some 36]) rfl rfl (by decide) hw rfl rfl hd k
theorem kg_X7_isDead (X : kb_X p s m c cc nL args Ts own D ad cy A) {index : Nat} (hin : ∀ w ∈ wsX70, w ∈ Ts) (hw : Cond.fieldLink own index RX7 "isDead" "[Z" ∈ Ts) (hd : decode cc pc = .ok (.getfield index, 3)) (k : kb_B p l e R s m args below meth c D ad cy A nL cells slots Q (pc + 3) lv (.ref (ad 24) :: st) M) : kb_B p l e R s m args below meth c D ad cy A nL cells slots Q pc lv (.ref (ad 22) :: st) M :=
  kb_getR (T := TX7) (N := 28) (ci := 7) X hin 22 2 (fl := [none, some 23, some 24, none, none, none, none, none, none, none, none, some 25, some 26, some 27, some 28, some 29, none, some 30, some 31, none, some 32, some 33, some 34, some 35, none, none, none, some 36]) rfl rfl (by decide) hw rfl rfl hd k
theorem kg_X7_steps (X : kb_X p s m c cc nL args Ts own D ad cy A) {index : Nat} (hin : ∀ w ∈ wsX70, w ∈ Ts) (hw : Cond.fieldLink own index RX7 "steps" "I" ∈ Ts) (hd : decode cc pc = .ok (.getfield index, 3)) (k : kb_B p l e R s m args below meth c D ad cy A nL cells slots Q (pc + 3) lv (kb_i (M 22 3) :: st) M) : kb_B p l e R s m args below meth c D ad cy A nL cells slots Q pc lv (.ref (ad 22) :: st) M :=
  kb_getI (T := TX7) (N := 28) (ci := 7) X hin 22 3 (fl := [none, some 23, some 24, none, none, none, none, none, none, none, none, some 25, some 26, some 27, some 28, some 29, none, some 30, some 31, none, some 32, some 33, some 34, some 35, none, none, none, some 36]) rfl rfl (by decide) hw rfl rfl hd k
theorem kp_X7_steps (X : kb_X p s m c cc nL args Ts own D ad cy A) {index : Nat} (hin : ∀ w ∈ wsX70, w ∈ Ts) (hw : Cond.fieldLink own index RX7 "steps" "I" ∈ Ts) {a : Int} (ha : kb_rg a) (hd : decode cc pc = .ok (.putfield index, 3)) (k : kb_B p l e R s m args below meth c D ad cy A nL cells slots Q (pc + 3) lv st (kb_wr M 22 3 a)) : kb_B p l e R s m args below meth c D ad cy A nL cells slots Q pc lv (kb_i a :: .ref (ad 22) :: st) M :=
  kb_putI (T := TX7) (N := 28) (ci := 7) X hin 22 3 (fl := [none, some 23, some 24, none, none, none, none, none, none, none, none, some 25, some 26, some 27, some 28, some 29, none, some 30, some 31, none, some 32, some 33, some 34, some 35, none, none, none, some 36]) rfl rfl (by decide) hw rfl rfl tyX7 tyX7_ok nmX7 rfl (by decide +kernel) ha hd k
theorem kg_X7_ticks (X : kb_X p s m c cc nL args Ts own D ad cy A) {index : Nat} (hin : ∀ w ∈ wsX70, w ∈ Ts) (hw : Cond.fieldLink own index RX7 "ticks" "I" ∈ Ts) (hd : decode cc pc = .ok (.getfield index, 3)) (k : kb_B p l e R s m args below meth c D ad cy A nL cells slots Q (pc + 3) lv (kb_i (M 22 4) :: st) M) : kb_B p l e R s m args below meth c D ad cy A nL cells slots Q pc lv (.ref (ad 22) :: st) M :=
  kb_getI (T := TX7) (N := 28) (ci := 7) X hin 22 4 (fl := [none, some 23, some 24, none, none, none, none, none, none, none, none, some 25, some 26, some 27, some 28, some 29, none, some 30, some 31, none, some 32, some 33, some 34, some 35, none, none, none, some 36]) rfl rfl (by decide) hw rfl rfl hd k
theorem kp_X7_ticks (X : kb_X p s m c cc nL args Ts own D ad cy A) {index : Nat} (hin : ∀ w ∈ wsX70, w ∈ Ts) (hw : Cond.fieldLink own index RX7 "ticks" "I" ∈ Ts) {a : Int} (ha : kb_rg a) (hd : decode cc pc = .ok (.putfield index, 3)) (k : kb_B p l e R s m args below meth c D ad cy A nL cells slots Q (pc + 3) lv st (kb_wr M 22 4 a)) : kb_B p l e R s m args below meth c D ad cy A nL cells slots Q pc lv (kb_i a :: .ref (ad 22) :: st) M :=
  kb_putI (T := TX7) (N := 28) (ci := 7) X hin 22 4 (fl := [none, some 23, some 24, none, none, none, none, none, none, none, none, some 25, some 26, some 27, some 28, some 29, none, some 30, some 31, none, some 32, some 33, some 34, some 35, none, none, none, some 36]) rfl rfl (by decide) hw rfl rfl tyX7 tyX7_ok nmX7 rfl (by decide +kernel) ha hd k
theorem kg_X7_window (X : kb_X p s m c cc nL args Ts own D ad cy A) {index : Nat} (hin : ∀ w ∈ wsX70, w ∈ Ts) (hw : Cond.fieldLink own index RX7 "window" "I" ∈ Ts) (hd : decode cc pc = .ok (.getfield index, 3)) (k : kb_B p l e R s m args below meth c D ad cy A nL cells slots Q (pc + 3) lv (kb_i (M 22 5) :: st) M) : kb_B p l e R s m args below meth c D ad cy A nL cells slots Q pc lv (.ref (ad 22) :: st) M :=
  kb_getI (T := TX7) (N := 28) (ci := 7) X hin 22 5 (fl := [none, some 23, some 24, none, none, none, none, none, none, none, none, some 25, some 26, some 27, some 28, some 29, none, some 30, some 31, none, some 32, some 33, some 34, some 35, none, none, none, some 36]) rfl rfl (by decide) hw rfl rfl hd k
theorem kp_X7_window (X : kb_X p s m c cc nL args Ts own D ad cy A) {index : Nat} (hin : ∀ w ∈ wsX70, w ∈ Ts) (hw : Cond.fieldLink own index RX7 "window" "I" ∈ Ts) {a : Int} (ha : kb_rg a) (hd : decode cc pc = .ok (.putfield index, 3)) (k : kb_B p l e R s m args below meth c D ad cy A nL cells slots Q (pc + 3) lv st (kb_wr M 22 5 a)) : kb_B p l e R s m args below meth c D ad cy A nL cells slots Q pc lv (kb_i a :: .ref (ad 22) :: st) M :=
  kb_putI (T := TX7) (N := 28) (ci := 7) X hin 22 5 (fl := [none, some 23, some 24, none, none, none, none, none, none, none, none, some 25, some 26, some 27, some 28, some 29, none, some 30, some 31, none, some 32, some 33, some 34, some 35, none, none, none, some 36]) rfl rfl (by decide) hw rfl rfl tyX7 tyX7_ok nmX7 rfl (by decide +kernel) ha hd k
theorem kg_X7_part (X : kb_X p s m c cc nL args Ts own D ad cy A) {index : Nat} (hin : ∀ w ∈ wsX70, w ∈ Ts) (hw : Cond.fieldLink own index RX7 "part" "I" ∈ Ts) (hd : decode cc pc = .ok (.getfield index, 3)) (k : kb_B p l e R s m args below meth c D ad cy A nL cells slots Q (pc + 3) lv (kb_i (M 22 6) :: st) M) : kb_B p l e R s m args below meth c D ad cy A nL cells slots Q pc lv (.ref (ad 22) :: st) M :=
  kb_getI (T := TX7) (N := 28) (ci := 7) X hin 22 6 (fl := [none, some 23, some 24, none, none, none, none, none, none, none, none, some 25, some 26, some 27, some 28, some 29, none, some 30, some 31, none, some 32, some 33, some 34, some 35, none, none, none, some 36]) rfl rfl (by decide) hw rfl rfl hd k
theorem kp_X7_part (X : kb_X p s m c cc nL args Ts own D ad cy A) {index : Nat} (hin : ∀ w ∈ wsX70, w ∈ Ts) (hw : Cond.fieldLink own index RX7 "part" "I" ∈ Ts) {a : Int} (ha : kb_rg a) (hd : decode cc pc = .ok (.putfield index, 3)) (k : kb_B p l e R s m args below meth c D ad cy A nL cells slots Q (pc + 3) lv st (kb_wr M 22 6 a)) : kb_B p l e R s m args below meth c D ad cy A nL cells slots Q pc lv (kb_i a :: .ref (ad 22) :: st) M :=
  kb_putI (T := TX7) (N := 28) (ci := 7) X hin 22 6 (fl := [none, some 23, some 24, none, none, none, none, none, none, none, none, some 25, some 26, some 27, some 28, some 29, none, some 30, some 31, none, some 32, some 33, some 34, some 35, none, none, none, some 36]) rfl rfl (by decide) hw rfl rfl tyX7 tyX7_ok nmX7 rfl (by decide +kernel) ha hd k
theorem kg_X7_limit (X : kb_X p s m c cc nL args Ts own D ad cy A) {index : Nat} (hin : ∀ w ∈ wsX70, w ∈ Ts) (hw : Cond.fieldLink own index RX7 "limit" "I" ∈ Ts) (hd : decode cc pc = .ok (.getfield index, 3)) (k : kb_B p l e R s m args below meth c D ad cy A nL cells slots Q (pc + 3) lv (kb_i (M 22 7) :: st) M) : kb_B p l e R s m args below meth c D ad cy A nL cells slots Q pc lv (.ref (ad 22) :: st) M :=
  kb_getI (T := TX7) (N := 28) (ci := 7) X hin 22 7 (fl := [none, some 23, some 24, none, none, none, none, none, none, none, none, some 25, some 26, some 27, some 28, some 29, none, some 30, some 31, none, some 32, some 33, some 34, some 35, none, none, none, some 36]) rfl rfl (by decide) hw rfl rfl hd k
theorem kp_X7_limit (X : kb_X p s m c cc nL args Ts own D ad cy A) {index : Nat} (hin : ∀ w ∈ wsX70, w ∈ Ts) (hw : Cond.fieldLink own index RX7 "limit" "I" ∈ Ts) {a : Int} (ha : kb_rg a) (hd : decode cc pc = .ok (.putfield index, 3)) (k : kb_B p l e R s m args below meth c D ad cy A nL cells slots Q (pc + 3) lv st (kb_wr M 22 7 a)) : kb_B p l e R s m args below meth c D ad cy A nL cells slots Q pc lv (kb_i a :: .ref (ad 22) :: st) M :=
  kb_putI (T := TX7) (N := 28) (ci := 7) X hin 22 7 (fl := [none, some 23, some 24, none, none, none, none, none, none, none, none, some 25, some 26, some 27, some 28, some 29, none, some 30, some 31, none, some 32, some 33, some 34, some 35, none, none, none, some 36]) rfl rfl (by decide) hw rfl rfl tyX7 tyX7_ok nmX7 rfl (by decide +kernel) ha hd k
theorem kg_X7_heat (X : kb_X p s m c cc nL args Ts own D ad cy A) {index : Nat} (hin : ∀ w ∈ wsX70, w ∈ Ts) (hw : Cond.fieldLink own index RX7 "heat" "I" ∈ Ts) (hd : decode cc pc = .ok (.getfield index, 3)) (k : kb_B p l e R s m args below meth c D ad cy A nL cells slots Q (pc + 3) lv (kb_i (M 22 8) :: st) M) : kb_B p l e R s m args below meth c D ad cy A nL cells slots Q pc lv (.ref (ad 22) :: st) M :=
  kb_getI (T := TX7) (N := 28) (ci := 7) X hin 22 8 (fl := [none, some 23, some 24, none, none, none, none, none, none, none, none, some 25, some 26, some 27, some 28, some 29, none, some 30, some 31, none, some 32, some 33, some 34, some 35, none, none, none, some 36]) rfl rfl (by decide) hw rfl rfl hd k
theorem kp_X7_heat (X : kb_X p s m c cc nL args Ts own D ad cy A) {index : Nat} (hin : ∀ w ∈ wsX70, w ∈ Ts) (hw : Cond.fieldLink own index RX7 "heat" "I" ∈ Ts) {a : Int} (ha : kb_rg a) (hd : decode cc pc = .ok (.putfield index, 3)) (k : kb_B p l e R s m args below meth c D ad cy A nL cells slots Q (pc + 3) lv st (kb_wr M 22 8 a)) : kb_B p l e R s m args below meth c D ad cy A nL cells slots Q pc lv (kb_i a :: .ref (ad 22) :: st) M :=
  kb_putI (T := TX7) (N := 28) (ci := 7) X hin 22 8 (fl := [none, some 23, some 24, none, none, none, none, none, none, none, none, some 25, some 26, some 27, some 28, some 29, none, some 30, some 31, none, some 32, some 33, some 34, some 35, none, none, none, some 36]) rfl rfl (by decide) hw rfl rfl tyX7 tyX7_ok nmX7 rfl (by decide +kernel) ha hd k
theorem kg_X7_ever (X : kb_X p s m c cc nL args Ts own D ad cy A) {index : Nat} (hin : ∀ w ∈ wsX70, w ∈ Ts) (hw : Cond.fieldLink own index RX7 "ever" "I" ∈ Ts) (hd : decode cc pc = .ok (.getfield index, 3)) (k : kb_B p l e R s m args below meth c D ad cy A nL cells slots Q (pc + 3) lv (kb_i (M 22 9) :: st) M) : kb_B p l e R s m args below meth c D ad cy A nL cells slots Q pc lv (.ref (ad 22) :: st) M :=
  kb_getI (T := TX7) (N := 28) (ci := 7) X hin 22 9 (fl := [none, some 23, some 24, none, none, none, none, none, none, none, none, some 25, some 26, some 27, some 28, some 29, none, some 30, some 31, none, some 32, some 33, some 34, some 35, none, none, none, some 36]) rfl rfl (by decide) hw rfl rfl hd k
theorem kp_X7_ever (X : kb_X p s m c cc nL args Ts own D ad cy A) {index : Nat} (hin : ∀ w ∈ wsX70, w ∈ Ts) (hw : Cond.fieldLink own index RX7 "ever" "I" ∈ Ts) {a : Int} (ha : kb_rg a) (hd : decode cc pc = .ok (.putfield index, 3)) (k : kb_B p l e R s m args below meth c D ad cy A nL cells slots Q (pc + 3) lv st (kb_wr M 22 9 a)) : kb_B p l e R s m args below meth c D ad cy A nL cells slots Q pc lv (kb_i a :: .ref (ad 22) :: st) M :=
  kb_putI (T := TX7) (N := 28) (ci := 7) X hin 22 9 (fl := [none, some 23, some 24, none, none, none, none, none, none, none, none, some 25, some 26, some 27, some 28, some 29, none, some 30, some 31, none, some 32, some 33, some 34, some 35, none, none, none, some 36]) rfl rfl (by decide) hw rfl rfl tyX7 tyX7_ok nmX7 rfl (by decide +kernel) ha hd k
theorem kg_X7_points (X : kb_X p s m c cc nL args Ts own D ad cy A) {index : Nat} (hin : ∀ w ∈ wsX70, w ∈ Ts) (hw : Cond.fieldLink own index RX7 "points" "I" ∈ Ts) (hd : decode cc pc = .ok (.getfield index, 3)) (k : kb_B p l e R s m args below meth c D ad cy A nL cells slots Q (pc + 3) lv (kb_i (M 22 10) :: st) M) : kb_B p l e R s m args below meth c D ad cy A nL cells slots Q pc lv (.ref (ad 22) :: st) M :=
  kb_getI (T := TX7) (N := 28) (ci := 7) X hin 22 10 (fl := [none, some 23, some 24, none, none, none, none, none, none, none, none, some 25, some 26, some 27, some 28, some 29, none, some 30, some 31, none, some 32, some 33, some 34, some 35, none, none, none, some 36]) rfl rfl (by decide) hw rfl rfl hd k
theorem kp_X7_points (X : kb_X p s m c cc nL args Ts own D ad cy A) {index : Nat} (hin : ∀ w ∈ wsX70, w ∈ Ts) (hw : Cond.fieldLink own index RX7 "points" "I" ∈ Ts) {a : Int} (ha : kb_rg a) (hd : decode cc pc = .ok (.putfield index, 3)) (k : kb_B p l e R s m args below meth c D ad cy A nL cells slots Q (pc + 3) lv st (kb_wr M 22 10 a)) : kb_B p l e R s m args below meth c D ad cy A nL cells slots Q pc lv (kb_i a :: .ref (ad 22) :: st) M :=
  kb_putI (T := TX7) (N := 28) (ci := 7) X hin 22 10 (fl := [none, some 23, some 24, none, none, none, none, none, none, none, none, some 25, some 26, some 27, some 28, some 29, none, some 30, some 31, none, some 32, some 33, some 34, some 35, none, none, none, some 36]) rfl rfl (by decide) hw rfl rfl tyX7 tyX7_ok nmX7 rfl (by decide +kernel) ha hd k
theorem kg_X7_px (X : kb_X p s m c cc nL args Ts own D ad cy A) {index : Nat} (hin : ∀ w ∈ wsX70, w ∈ Ts) (hw : Cond.fieldLink own index RX7 "px" "[I" ∈ Ts) (hd : decode cc pc = .ok (.getfield index, 3)) (k : kb_B p l e R s m args below meth c D ad cy A nL cells slots Q (pc + 3) lv (.ref (ad 25) :: st) M) : kb_B p l e R s m args below meth c D ad cy A nL cells slots Q pc lv (.ref (ad 22) :: st) M :=
  kb_getR (T := TX7) (N := 28) (ci := 7) X hin 22 11 (fl := [none, some 23, some 24, none, none, none, none, none, none, none, none, some 25, some 26, some 27, some 28, some 29, none, some 30, some 31, none, some 32, some 33, some 34, some 35, none, none, none, some 36]) rfl rfl (by decide) hw rfl rfl hd k
theorem kg_X7_pz (X : kb_X p s m c cc nL args Ts own D ad cy A) {index : Nat} (hin : ∀ w ∈ wsX70, w ∈ Ts) (hw : Cond.fieldLink own index RX7 "pz" "[I" ∈ Ts) (hd : decode cc pc = .ok (.getfield index, 3)) (k : kb_B p l e R s m args below meth c D ad cy A nL cells slots Q (pc + 3) lv (.ref (ad 26) :: st) M) : kb_B p l e R s m args below meth c D ad cy A nL cells slots Q pc lv (.ref (ad 22) :: st) M :=
  kb_getR (T := TX7) (N := 28) (ci := 7) X hin 22 12 (fl := [none, some 23, some 24, none, none, none, none, none, none, none, none, some 25, some 26, some 27, some 28, some 29, none, some 30, some 31, none, some 32, some 33, some 34, some 35, none, none, none, some 36]) rfl rfl (by decide) hw rfl rfl hd k
theorem kg_X7_strength (X : kb_X p s m c cc nL args Ts own D ad cy A) {index : Nat} (hin : ∀ w ∈ wsX70, w ∈ Ts) (hw : Cond.fieldLink own index RX7 "strength" "[I" ∈ Ts) (hd : decode cc pc = .ok (.getfield index, 3)) (k : kb_B p l e R s m args below meth c D ad cy A nL cells slots Q (pc + 3) lv (.ref (ad 27) :: st) M) : kb_B p l e R s m args below meth c D ad cy A nL cells slots Q pc lv (.ref (ad 22) :: st) M :=
  kb_getR (T := TX7) (N := 28) (ci := 7) X hin 22 13 (fl := [none, some 23, some 24, none, none, none, none, none, none, none, none, some 25, some 26, some 27, some 28, some 29, none, some 30, some 31, none, some 32, some 33, some 34, some 35, none, none, none, some 36]) rfl rfl (by decide) hw rfl rfl hd k
theorem kg_X7_moveX (X : kb_X p s m c cc nL args Ts own D ad cy A) {index : Nat} (hin : ∀ w ∈ wsX70, w ∈ Ts) (hw : Cond.fieldLink own index RX7 "moveX" "[I" ∈ Ts) (hd : decode cc pc = .ok (.getfield index, 3)) (k : kb_B p l e R s m args below meth c D ad cy A nL cells slots Q (pc + 3) lv (.ref (ad 28) :: st) M) : kb_B p l e R s m args below meth c D ad cy A nL cells slots Q pc lv (.ref (ad 22) :: st) M :=
  kb_getR (T := TX7) (N := 28) (ci := 7) X hin 22 14 (fl := [none, some 23, some 24, none, none, none, none, none, none, none, none, some 25, some 26, some 27, some 28, some 29, none, some 30, some 31, none, some 32, some 33, some 34, some 35, none, none, none, some 36]) rfl rfl (by decide) hw rfl rfl hd k
theorem kg_X7_moveZ (X : kb_X p s m c cc nL args Ts own D ad cy A) {index : Nat} (hin : ∀ w ∈ wsX70, w ∈ Ts) (hw : Cond.fieldLink own index RX7 "moveZ" "[I" ∈ Ts) (hd : decode cc pc = .ok (.getfield index, 3)) (k : kb_B p l e R s m args below meth c D ad cy A nL cells slots Q (pc + 3) lv (.ref (ad 29) :: st) M) : kb_B p l e R s m args below meth c D ad cy A nL cells slots Q pc lv (.ref (ad 22) :: st) M :=
  kb_getR (T := TX7) (N := 28) (ci := 7) X hin 22 15 (fl := [none, some 23, some 24, none, none, none, none, none, none, none, none, some 25, some 26, some 27, some 28, some 29, none, some 30, some 31, none, some 32, some 33, some 34, some 35, none, none, none, some 36]) rfl rfl (by decide) hw rfl rfl hd k
theorem kg_X7_looks (X : kb_X p s m c cc nL args Ts own D ad cy A) {index : Nat} (hin : ∀ w ∈ wsX70, w ∈ Ts) (hw : Cond.fieldLink own index RX7 "looks" "I" ∈ Ts) (hd : decode cc pc = .ok (.getfield index, 3)) (k : kb_B p l e R s m args below meth c D ad cy A nL cells slots Q (pc + 3) lv (kb_i (M 22 16) :: st) M) : kb_B p l e R s m args below meth c D ad cy A nL cells slots Q pc lv (.ref (ad 22) :: st) M :=
  kb_getI (T := TX7) (N := 28) (ci := 7) X hin 22 16 (fl := [none, some 23, some 24, none, none, none, none, none, none, none, none, some 25, some 26, some 27, some 28, some 29, none, some 30, some 31, none, some 32, some 33, some 34, some 35, none, none, none, some 36]) rfl rfl (by decide) hw rfl rfl hd k
theorem kp_X7_looks (X : kb_X p s m c cc nL args Ts own D ad cy A) {index : Nat} (hin : ∀ w ∈ wsX70, w ∈ Ts) (hw : Cond.fieldLink own index RX7 "looks" "I" ∈ Ts) {a : Int} (ha : kb_rg a) (hd : decode cc pc = .ok (.putfield index, 3)) (k : kb_B p l e R s m args below meth c D ad cy A nL cells slots Q (pc + 3) lv st (kb_wr M 22 16 a)) : kb_B p l e R s m args below meth c D ad cy A nL cells slots Q pc lv (kb_i a :: .ref (ad 22) :: st) M :=
  kb_putI (T := TX7) (N := 28) (ci := 7) X hin 22 16 (fl := [none, some 23, some 24, none, none, none, none, none, none, none, none, some 25, some 26, some 27, some 28, some 29, none, some 30, some 31, none, some 32, some 33, some 34, some 35, none, none, none, some 36]) rfl rfl (by decide) hw rfl rfl tyX7 tyX7_ok nmX7 rfl (by decide +kernel) ha hd k
theorem kg_X7_senders (X : kb_X p s m c cc nL args Ts own D ad cy A) {index : Nat} (hin : ∀ w ∈ wsX70, w ∈ Ts) (hw : Cond.fieldLink own index RX7 "senders" "[I" ∈ Ts) (hd : decode cc pc = .ok (.getfield index, 3)) (k : kb_B p l e R s m args below meth c D ad cy A nL cells slots Q (pc + 3) lv (.ref (ad 30) :: st) M) : kb_B p l e R s m args below meth c D ad cy A nL cells slots Q pc lv (.ref (ad 22) :: st) M :=
  kb_getR (T := TX7) (N := 28) (ci := 7) X hin 22 17 (fl := [none, some 23, some 24, none, none, none, none, none, none, none, none, some 25, some 26, some 27, some 28, some 29, none, some 30, some 31, none, some 32, some 33, some 34, some 35, none, none, none, some 36]) rfl rfl (by decide) hw rfl rfl hd k
theorem kg_X7_samples (X : kb_X p s m c cc nL args Ts own D ad cy A) {index : Nat} (hin : ∀ w ∈ wsX70, w ∈ Ts) (hw : Cond.fieldLink own index RX7 "samples" "[I" ∈ Ts) (hd : decode cc pc = .ok (.getfield index, 3)) (k : kb_B p l e R s m args below meth c D ad cy A nL cells slots Q (pc + 3) lv (.ref (ad 31) :: st) M) : kb_B p l e R s m args below meth c D ad cy A nL cells slots Q pc lv (.ref (ad 22) :: st) M :=
  kb_getR (T := TX7) (N := 28) (ci := 7) X hin 22 18 (fl := [none, some 23, some 24, none, none, none, none, none, none, none, none, some 25, some 26, some 27, some 28, some 29, none, some 30, some 31, none, some 32, some 33, some 34, some 35, none, none, none, some 36]) rfl rfl (by decide) hw rfl rfl hd k
theorem kg_X7_pictures (X : kb_X p s m c cc nL args Ts own D ad cy A) {index : Nat} (hin : ∀ w ∈ wsX70, w ∈ Ts) (hw : Cond.fieldLink own index RX7 "pictures" "I" ∈ Ts) (hd : decode cc pc = .ok (.getfield index, 3)) (k : kb_B p l e R s m args below meth c D ad cy A nL cells slots Q (pc + 3) lv (kb_i (M 22 19) :: st) M) : kb_B p l e R s m args below meth c D ad cy A nL cells slots Q pc lv (.ref (ad 22) :: st) M :=
  kb_getI (T := TX7) (N := 28) (ci := 7) X hin 22 19 (fl := [none, some 23, some 24, none, none, none, none, none, none, none, none, some 25, some 26, some 27, some 28, some 29, none, some 30, some 31, none, some 32, some 33, some 34, some 35, none, none, none, some 36]) rfl rfl (by decide) hw rfl rfl hd k
theorem kp_X7_pictures (X : kb_X p s m c cc nL args Ts own D ad cy A) {index : Nat} (hin : ∀ w ∈ wsX70, w ∈ Ts) (hw : Cond.fieldLink own index RX7 "pictures" "I" ∈ Ts) {a : Int} (ha : kb_rg a) (hd : decode cc pc = .ok (.putfield index, 3)) (k : kb_B p l e R s m args below meth c D ad cy A nL cells slots Q (pc + 3) lv st (kb_wr M 22 19 a)) : kb_B p l e R s m args below meth c D ad cy A nL cells slots Q pc lv (kb_i a :: .ref (ad 22) :: st) M :=
  kb_putI (T := TX7) (N := 28) (ci := 7) X hin 22 19 (fl := [none, some 23, some 24, none, none, none, none, none, none, none, none, some 25, some 26, some 27, some 28, some 29, none, some 30, some 31, none, some 32, some 33, some 34, some 35, none, none, none, some 36]) rfl rfl (by decide) hw rfl rfl tyX7 tyX7_ok nmX7 rfl (by decide +kernel) ha hd k
theorem kg_X7_wide (X : kb_X p s m c cc nL args Ts own D ad cy A) {index : Nat} (hin : ∀ w ∈ wsX70, w ∈ Ts) (hw : Cond.fieldLink own index RX7 "wide" "[I" ∈ Ts) (hd : decode cc pc = .ok (.getfield index, 3)) (k : kb_B p l e R s m args below meth c D ad cy A nL cells slots Q (pc + 3) lv (.ref (ad 32) :: st) M) : kb_B p l e R s m args below meth c D ad cy A nL cells slots Q pc lv (.ref (ad 22) :: st) M :=
  kb_getR (T := TX7) (N := 28) (ci := 7) X hin 22 20 (fl := [none, some 23, some 24, none, none, none, none, none, none, none, none, some 25, some 26, some 27, some 28, some 29, none, some 30, some 31, none, some 32, some 33, some 34, some 35, none, none, none, some 36]) rfl rfl (by decide) hw rfl rfl hd k
theorem kg_X7_tall (X : kb_X p s m c cc nL args Ts own D ad cy A) {index : Nat} (hin : ∀ w ∈ wsX70, w ∈ Ts) (hw : Cond.fieldLink own index RX7 "tall" "[I" ∈ Ts) (hd : decode cc pc = .ok (.getfield index, 3)) (k : kb_B p l e R s m args below meth c D ad cy A nL cells slots Q (pc + 3) lv (.ref (ad 33) :: st) M) : kb_B p l e R s m args below meth c D ad cy A nL cells slots Q pc lv (.ref (ad 22) :: st) M :=
  kb_getR (T := TX7) (N := 28) (ci := 7) X hin 22 21 (fl := [none, some 23, some 24, none, none, none, none, none, none, none, none, some 25, some 26, some 27, some 28, some 29, none, some 30, some 31, none, some 32, some 33, some 34, some 35, none, none, none, some 36]) rfl rfl (by decide) hw rfl rfl hd k
theorem kg_X7_pixels (X : kb_X p s m c cc nL args Ts own D ad cy A) {index : Nat} (hin : ∀ w ∈ wsX70, w ∈ Ts) (hw : Cond.fieldLink own index RX7 "pixels" "[I" ∈ Ts) (hd : decode cc pc = .ok (.getfield index, 3)) (k : kb_B p l e R s m args below meth c D ad cy A nL cells slots Q (pc + 3) lv (.ref (ad 34) :: st) M) : kb_B p l e R s m args below meth c D ad cy A nL cells slots Q pc lv (.ref (ad 22) :: st) M :=
  kb_getR (T := TX7) (N := 28) (ci := 7) X hin 22 22 (fl := [none, some 23, some 24, none, none, none, none, none, none, none, none, some 25, some 26, some 27, some 28, some 29, none, some 30, some 31, none, some 32, some 33, some 34, some 35, none, none, none, some 36]) rfl rfl (by decide) hw rfl rfl hd k
theorem kg_X7_made (X : kb_X p s m c cc nL args Ts own D ad cy A) {index : Nat} (hin : ∀ w ∈ wsX70, w ∈ Ts) (hw : Cond.fieldLink own index RX7 "made" "[I" ∈ Ts) (hd : decode cc pc = .ok (.getfield index, 3)) (k : kb_B p l e R s m args below meth c D ad cy A nL cells slots Q (pc + 3) lv (.ref (ad 35) :: st) M) : kb_B p l e R s m args below meth c D ad cy A nL cells slots Q pc lv (.ref (ad 22) :: st) M :=
  kb_getR (T := TX7) (N := 28) (ci := 7) X hin 22 23 (fl := [none, some 23, some 24, none, none, none, none, none, none, none, none, some 25, some 26, some 27, some 28, some 29, none, some 30, some 31, none, some 32, some 33, some 34, some 35, none, none, none, some 36]) rfl rfl (by decide) hw rfl rfl hd k
theorem kg_X7_fanLines (X : kb_X p s m c cc nL args Ts own D ad cy A) {index : Nat} (hin : ∀ w ∈ wsX70, w ∈ Ts) (hw : Cond.fieldLink own index RX7 "fanLines" "I" ∈ Ts) (hd : decode cc pc = .ok (.getfield index, 3)) (k : kb_B p l e R s m args below meth c D ad cy A nL cells slots Q (pc + 3) lv (kb_i (M 22 24) :: st) M) : kb_B p l e R s m args below meth c D ad cy A nL cells slots Q pc lv (.ref (ad 22) :: st) M :=
  kb_getI (T := TX7) (N := 28) (ci := 7) X hin 22 24 (fl := [none, some 23, some 24, none, none, none, none, none, none, none, none, some 25, some 26, some 27, some 28, some 29, none, some 30, some 31, none, some 32, some 33, some 34, some 35, none, none, none, some 36]) rfl rfl (by decide) hw rfl rfl hd k
theorem kp_X7_fanLines (X : kb_X p s m c cc nL args Ts own D ad cy A) {index : Nat} (hin : ∀ w ∈ wsX70, w ∈ Ts) (hw : Cond.fieldLink own index RX7 "fanLines" "I" ∈ Ts) {a : Int} (ha : kb_rg a) (hd : decode cc pc = .ok (.putfield index, 3)) (k : kb_B p l e R s m args below meth c D ad cy A nL cells slots Q (pc + 3) lv st (kb_wr M 22 24 a)) : kb_B p l e R s m args below meth c D ad cy A nL cells slots Q pc lv (kb_i a :: .ref (ad 22) :: st) M :=
  kb_putI (T := TX7) (N := 28) (ci := 7) X hin 22 24 (fl := [none, some 23, some 24, none, none, none, none, none, none, none, none, some 25, some 26, some 27, some 28, some 29, none, some 30, some 31, none, some 32, some 33, some 34, some 35, none, none, none, some 36]) rfl rfl (by decide) hw rfl rfl tyX7 tyX7_ok nmX7 rfl (by decide +kernel) ha hd k
theorem kg_X7_fanMeans (X : kb_X p s m c cc nL args Ts own D ad cy A) {index : Nat} (hin : ∀ w ∈ wsX70, w ∈ Ts) (hw : Cond.fieldLink own index RX7 "fanMeans" "I" ∈ Ts) (hd : decode cc pc = .ok (.getfield index, 3)) (k : kb_B p l e R s m args below meth c D ad cy A nL cells slots Q (pc + 3) lv (kb_i (M 22 25) :: st) M) : kb_B p l e R s m args below meth c D ad cy A nL cells slots Q pc lv (.ref (ad 22) :: st) M :=
  kb_getI (T := TX7) (N := 28) (ci := 7) X hin 22 25 (fl := [none, some 23, some 24, none, none, none, none, none, none, none, none, some 25, some 26, some 27, some 28, some 29, none, some 30, some 31, none, some 32, some 33, some 34, some 35, none, none, none, some 36]) rfl rfl (by decide) hw rfl rfl hd k
theorem kp_X7_fanMeans (X : kb_X p s m c cc nL args Ts own D ad cy A) {index : Nat} (hin : ∀ w ∈ wsX70, w ∈ Ts) (hw : Cond.fieldLink own index RX7 "fanMeans" "I" ∈ Ts) {a : Int} (ha : kb_rg a) (hd : decode cc pc = .ok (.putfield index, 3)) (k : kb_B p l e R s m args below meth c D ad cy A nL cells slots Q (pc + 3) lv st (kb_wr M 22 25 a)) : kb_B p l e R s m args below meth c D ad cy A nL cells slots Q pc lv (kb_i a :: .ref (ad 22) :: st) M :=
  kb_putI (T := TX7) (N := 28) (ci := 7) X hin 22 25 (fl := [none, some 23, some 24, none, none, none, none, none, none, none, none, some 25, some 26, some 27, some 28, some 29, none, some 30, some 31, none, some 32, some 33, some 34, some 35, none, none, none, some 36]) rfl rfl (by decide) hw rfl rfl tyX7 tyX7_ok nmX7 rfl (by decide +kernel) ha hd k
theorem kg_X7_fanStep (X : kb_X p s m c cc nL args Ts own D ad cy A) {index : Nat} (hin : ∀ w ∈ wsX70, w ∈ Ts) (hw : Cond.fieldLink own index RX7 "fanStep" "I" ∈ Ts) (hd : decode cc pc = .ok (.getfield index, 3)) (k : kb_B p l e R s m args below meth c D ad cy A nL cells slots Q (pc + 3) lv (kb_i (M 22 26) :: st) M) : kb_B p l e R s m args below meth c D ad cy A nL cells slots Q pc lv (.ref (ad 22) :: st) M :=
  kb_getI (T := TX7) (N := 28) (ci := 7) X hin 22 26 (fl := [none, some 23, some 24, none, none, none, none, none, none, none, none, some 25, some 26, some 27, some 28, some 29, none, some 30, some 31, none, some 32, some 33, some 34, some 35, none, none, none, some 36]) rfl rfl (by decide) hw rfl rfl hd k
theorem kp_X7_fanStep (X : kb_X p s m c cc nL args Ts own D ad cy A) {index : Nat} (hin : ∀ w ∈ wsX70, w ∈ Ts) (hw : Cond.fieldLink own index RX7 "fanStep" "I" ∈ Ts) {a : Int} (ha : kb_rg a) (hd : decode cc pc = .ok (.putfield index, 3)) (k : kb_B p l e R s m args below meth c D ad cy A nL cells slots Q (pc + 3) lv st (kb_wr M 22 26 a)) : kb_B p l e R s m args below meth c D ad cy A nL cells slots Q pc lv (kb_i a :: .ref (ad 22) :: st) M :=
  kb_putI (T := TX7) (N := 28) (ci := 7) X hin 22 26 (fl := [none, some 23, some 24, none, none, none, none, none, none, none, none, some 25, some 26, some 27, some 28, some 29, none, some 30, some 31, none, some 32, some 33, some 34, some 35, none, none, none, some 36]) rfl rfl (by decide) hw rfl rfl tyX7 tyX7_ok nmX7 rfl (by decide +kernel) ha hd k
theorem kg_X7_fan (X : kb_X p s m c cc nL args Ts own D ad cy A) {index : Nat} (hin : ∀ w ∈ wsX70, w ∈ Ts) (hw : Cond.fieldLink own index RX7 "fan" "[I" ∈ Ts) (hd : decode cc pc = .ok (.getfield index, 3)) (k : kb_B p l e R s m args below meth c D ad cy A nL cells slots Q (pc + 3) lv (.ref (ad 36) :: st) M) : kb_B p l e R s m args below meth c D ad cy A nL cells slots Q pc lv (.ref (ad 22) :: st) M :=
  kb_getR (T := TX7) (N := 28) (ci := 7) X hin 22 27 (fl := [none, some 23, some 24, none, none, none, none, none, none, none, none, some 25, some 26, some 27, some 28, some 29, none, some 30, some 31, none, some 32, some 33, some 34, some 35, none, none, none, some 36]) rfl rfl (by decide) hw rfl rfl hd k
end kb_fields
end
section
/-! pure words: roots, sums, what the methods of the class answer and leave -/
def sp_sqN (v : Nat) : Nat → Nat
  | 0 => 0
  | n + 1 => if (n + 1) * (n + 1) ≤ v then n + 1 else sp_sqN v n
def sp_sq (v : Int) : Int := (sp_sqN v.toNat v.toNat : Int)
theorem sp_sqN_le (v : Nat) : ∀ n, sp_sqN v n * sp_sqN v n ≤ v := by
  intro n
  induction n with
  | zero => simp [sp_sqN]
  | succ n ih =>
    unfold sp_sqN
    split
    · assumption
    · exact ih
theorem sp_sqN_ge (v : Nat) : ∀ n k : Nat, k ≤ n → k * k ≤ v → k ≤ sp_sqN v n := by
  intro n
  induction n with
  | zero => intro k h _; omega
  | succ n ih =>
    intro k h hk
    unfold sp_sqN
    split
    · exact h
    · rename_i h2
      rcases Nat.lt_or_ge n k with h3 | h3
      · have : k = n + 1 := by omega
        subst this
        exact absurd hk h2
      · exact ih k h3 hk
theorem sp_sq_nn (v : Int) : 0 ≤ sp_sq v := Int.natCast_nonneg _
theorem sp_sq_le {v : Int} (h : 0 ≤ v) : sp_sq v * sp_sq v ≤ v := by
  have h1 := sp_sqN_le v.toNat v.toNat
  unfold sp_sq
  have h2 : ((sp_sqN v.toNat v.toNat * sp_sqN v.toNat v.toNat : Nat) : Int) ≤ (v.toNat : Int) := Int.ofNat_le.mpr h1
  rw [Int.natCast_mul] at h2
  omega
theorem sp_sq_ge {v k : Int} (h : 0 ≤ k) (hk : k * k ≤ v) : k ≤ sp_sq v := by
  obtain ⟨n, rfl⟩ := Int.eq_ofNat_of_zero_le h
  obtain ⟨w, rfl⟩ := Int.eq_ofNat_of_zero_le (Int.le_trans (Int.mul_nonneg h h) hk)
  have h1 : n * n ≤ w := by
    rw [← Int.natCast_mul] at hk
    exact Int.ofNat_le.mp hk
  have h2 : n ≤ w := by
    rcases Nat.eq_zero_or_pos n with h3 | h3
    · omega
    · exact Nat.le_trans (Nat.le_mul_of_pos_left n h3) h1
  unfold sp_sq
  rw [Int.toNat_natCast]
  exact Int.ofNat_le.mpr (sp_sqN_ge w w n h2 h1)
theorem sp_sq_lt {v : Int} (h : 0 ≤ v) : v < (sp_sq v + 1) * (sp_sq v + 1) := by
  rcases Int.lt_or_le v ((sp_sq v + 1) * (sp_sq v + 1)) with h1 | h1
  · exact h1
  · have h2 := sp_sq_ge (v := v) (k := sp_sq v + 1) (by have := sp_sq_nn v; omega) h1
    omega
theorem sp_sq_eq {v r : Int} (h0 : 0 ≤ r) (h1 : r * r ≤ v) (h2 : v < (r + 1) * (r + 1)) : sp_sq v = r := by
  have hv : 0 ≤ v := Int.le_trans (Int.mul_nonneg h0 h0) h1
  have h3 := sp_sq_ge h0 h1
  rcases Int.lt_or_le r (sp_sq v) with h4 | h4
  · have h5 : (r + 1) * (r + 1) ≤ sp_sq v * sp_sq v := Int.mul_le_mul (by omega) (by omega) (by omega) (sp_sq_nn v)
    have h6 := sp_sq_le hv
    omega
  · omega
/-- one step of Newton's way from above -/
theorem sp_newton {v g : Int} (hv : 0 ≤ v) (hg : 0 < g) (hr : sp_sq v ≤ g) : sp_sq v ≤ (g + v / g) / 2 ∧ (sp_sq v < g → (g + v / g) / 2 - sp_sq v ≤ (g - sp_sq v) / 2) := by
  have hn := sp_sq_nn v
  have h1 := sp_sq_le hv
  have h2 := sp_sq_lt hv
  generalize sp_sq v = r at *
  refine ⟨?_, fun hlt => ?_⟩
  · -- 2 r ≤ g + v / g
    have h3 : 2 * r - g ≤ v / g := by
      apply Int.le_ediv_of_mul_le hg
      have h4 : (2 * r - g) * g = r * r - (g - r) * (g - r) := by
        rw [Int.sub_mul, Int.sub_mul, Int.mul_sub, Int.mul_sub, Int.mul_comm r g, Int.mul_assoc 2 r g, Int.mul_comm r g]
        omega
      have h5 : 0 ≤ (g - r) * (g - r) := Int.mul_nonneg (by omega) (by omega)
      omega
    omega
  · have h3 : v / g ≤ r := by
      apply Int.le_of_lt_add_one
      apply Int.ediv_lt_of_lt_mul hg
      have h4 : (r + 1) * (r + 1) ≤ (r + 1) * g := Int.mul_le_mul_of_nonneg_left (by omega) (by omega)
      omega
    omega
def sp_sum (f : Int → Int) : Nat → Int
  | 0 => 0
  | n + 1 => sp_sum f n + f (n : Int)
theorem sp_sum_b {f : Int → Int} {b : Int} : ∀ n : Nat, (∀ k : Int, 0 ≤ k → k < n → -b ≤ f k ∧ f k ≤ b) → -(b * n) ≤ sp_sum f n ∧ sp_sum f n ≤ b * n := by
  intro n
  induction n with
  | zero => intro _; simp [sp_sum]
  | succ n ih =>
    intro h
    have h1 := ih (fun k a c => h k a (by omega))
    have h2 := h n (by omega) (by omega)
    have h3 : b * ((n + 1 : Nat) : Int) = b * n + b := by rw [show ((n + 1 : Nat) : Int) = (n : Int) + 1 from rfl, Int.mul_add, Int.mul_one]
    simp only [sp_sum]
    omega
theorem sp_sum_nn {f : Int → Int} : ∀ n : Nat, (∀ k : Int, 0 ≤ k → k < n → 0 ≤ f k) → 0 ≤ sp_sum f n := by
  intro n
  induction n with
  | zero => intro _; simp [sp_sum]
  | succ n ih =>
    intro h
    have h1 := ih (fun k a c => h k a (by omega))
    have h2 := h n (by omega) (by omega)
    simp only [sp_sum]
    omega
theorem sp_sum_eq {f g : Int → Int} : ∀ n : Nat, (∀ k : Int, 0 ≤ k → k < n → f k = g k) → sp_sum f n = sp_sum g n := by
  intro n
  induction n with
  | zero => intro _; rfl
  | succ n ih =>
    intro h
    simp only [sp_sum]
    rw [ih (fun k a c => h k a (by omega)), h n (by omega) (by omega)]
theorem sp_sumS (f : Int → Int) {i : Int} (h : 0 ≤ i) : sp_sum f (i + 1).toNat = sp_sum f i.toNat + f i := by
  obtain ⟨n, rfl⟩ := Int.eq_ofNat_of_zero_le h
  show sp_sum f (n + 1) = _
  rfl
/-! the class: what its methods answer -/
def sp_gap (M : kb_M) (i x : Int) : Int := if 0 ≤ i ∧ i < M 1 5 ∧ i < 16 then max (M 7 i - x) (-(M 7 i - x)) else 0
def sp_xs (M : kb_M) : Prop := ∀ j : Int, 0 ≤ j → j < M 1 5 → -2000 ≤ M 7 j ∧ M 7 j ≤ 2000
theorem sp_gap_b {M : kb_M} {i x : Int} (h : sp_xs M) (hx : -2000 ≤ x ∧ x ≤ 2000) : 0 ≤ sp_gap M i x ∧ sp_gap M i x ≤ 4000 := by
  unfold sp_gap
  split
  · have := h i (by omega) (by omega)
    omega
  · omega
def sp_dl (P T g z : Int) : Int := (sp_sq (4 * T * T * (g * g + z * z)) + P) / (2 * P)
def sp_dly (M : kb_M) (i x z : Int) : Int := sp_dl (M 1 7) (M 1 8) (sp_gap M i x) z
theorem sp_mulb {a b A B : Int} (h0 : 0 ≤ a) (h1 : a ≤ A) (h2 : 0 ≤ b) (h3 : b ≤ B) : 0 ≤ a * b ∧ a * b ≤ A * B :=
  ⟨Int.mul_nonneg h0 h2, Int.mul_le_mul h1 h3 h2 (by omega)⟩
/-- the square under the root, and where Newton starts -/
theorem sp_sqb {T g z : Int} (hT : 1 ≤ T ∧ T ≤ 1000) (hg : 0 ≤ g ∧ g ≤ 4000) (hz : 0 ≤ z ∧ z ≤ 4000) : 0 ≤ 4 * T * T * (g * g + z * z) ∧ 4 * T * T * (g * g + z * z) ≤ 128000000000000 ∧ 0 ≤ 2 * T * (g + z) ∧ 2 * T * (g + z) ≤ 16000000 ∧ sp_sq (4 * T * T * (g * g + z * z)) ≤ 2 * T * (g + z) := by
  have h1 := sp_mulb (a := g) (b := g) (A := 4000) (B := 4000) hg.1 hg.2 hg.1 hg.2
  have h2 := sp_mulb (a := z) (b := z) (A := 4000) (B := 4000) hz.1 hz.2 hz.1 hz.2
  have h3 := sp_mulb (a := 4 * T) (b := T) (A := 4000) (B := 1000) (by omega) (by omega) (by omega) hT.2
  have h4 := sp_mulb (a := 4 * T * T) (b := g * g + z * z) (A := 4000000) (B := 32000000) h3.1 h3.2 (by omega) (by omega)
  have h5 := sp_mulb (a := 2 * T) (b := g + z) (A := 2000) (B := 8000) (by omega) (by omega) (by omega) (by omega)
  refine ⟨h4.1, h4.2, h5.1, h5.2, ?_⟩
  have h6 := sp_sq_le h4.1
  have hn := sp_sq_nn (4 * T * T * (g * g + z * z))
  rcases Int.lt_or_le (2 * T * (g + z)) (sp_sq (4 * T * T * (g * g + z * z))) with h7 | h7
  · exfalso
    have h8 : (2 * T * (g + z) + 1) * (2 * T * (g + z) + 1) ≤ sp_sq (4 * T * T * (g * g + z * z)) * sp_sq (4 * T * T * (g * g + z * z)) := Int.mul_le_mul (by omega) (by omega) (by omega) hn
    have h9 : (2 * T * (g + z)) * (2 * T * (g + z)) = 4 * T * T * (g * g + z * z) + 8 * (T * T) * (g * z) := by grind
    have h10 : 0 ≤ 8 * (T * T) * (g * z) := Int.mul_nonneg (by have := Int.mul_nonneg (a := T) (b := T) (by omega) (by omega); omega) (Int.mul_nonneg hg.1 hz.1)
    have h11 : (2 * T * (g + z) + 1) * (2 * T * (g + z) + 1) = (2 * T * (g + z)) * (2 * T * (g + z)) + 2 * (2 * T * (g + z)) + 1 := by grind
    omega
  · exact h7
theorem sp_dl_b {P T g z : Int} (hP : 1 ≤ P ∧ P ≤ 1000) (hT : 1 ≤ T ∧ T ≤ 1000) (hg : 0 ≤ g ∧ g ≤ 4000) (hz : 0 ≤ z ∧ z ≤ 4000) : 0 ≤ sp_dl P T g z ∧ sp_dl P T g z ≤ 16001000 := by
  have h1 := sp_sqb hT hg hz
  have hn := sp_sq_nn (4 * T * T * (g * g + z * z))
  unfold sp_dl
  generalize sp_sq (4 * T * T * (g * g + z * z)) = r at *
  refine ⟨Int.ediv_nonneg (by omega) (by omega), ?_⟩
  have h2 : (r + P) / (2 * P) ≤ r + P := Int.ediv_le_self _ (by omega)
  omega
def sp_wt (M : kb_M) (i x z : Int) : Int :=
  if 0 ≤ i ∧ i < M 1 5 ∧ i < 16 ∧ M 8 i = 0 then
    (if M 1 9 = 0 then 1 else if z / M 1 10 < sp_gap M i x then 0 else if M 1 9 = 1 then 1 else z / M 1 10 - sp_gap M i x + 1)
  else 0
theorem sp_divb {z f : Int} (hf : 1 ≤ f) (hz : 0 ≤ z) : 0 ≤ z / f ∧ z / f ≤ z := ⟨Int.ediv_nonneg hz (by omega), Int.ediv_le_self _ hz⟩
theorem sp_wt_b {M : kb_M} {i x z : Int} (h : sp_xs M) (hx : -2000 ≤ x ∧ x ≤ 2000) (hf : 1 ≤ M 1 10) (hz : 0 ≤ z ∧ z ≤ 4000) : 0 ≤ sp_wt M i x z ∧ sp_wt M i x z ≤ 4001 := by
  have h1 := sp_gap_b (i := i) h hx
  have h2 := sp_divb hf hz.1
  unfold sp_wt
  split
  · split
    · omega
    · split
      · omega
      · split <;> omega
  · omega
/-- the world when aim has done j elements -/
def sp_aimI (M : kb_M) (x z j : Int) : kb_M := fun q => if q = 9 then (fun k => if 0 ≤ k ∧ k < j then sp_dly M k x z else M 9 k) else if q = 10 then (fun k => if 0 ≤ k ∧ k < j then sp_wt M k x z else M 10 k) else if q = 1 then (fun k => if k = 4 then sp_sum (fun a => sp_wt M a x z) j.toNat else M 1 k) else M q
def sp_aim (M : kb_M) (x z : Int) : kb_M := sp_aimI M x z (M 1 5)
theorem sp_ext {M N : kb_M} (h : ∀ q k, M q k = N q k) : M = N := by
  funext q k
  exact h q k
theorem sp_ia {α β : Type} {p : Prop} [Decidable p] (f g : α → β) (x : α) : (if p then f else g) x = if p then f x else g x := by split <;> rfl
theorem sp_aimI_0 (M : kb_M) (x z : Int) : kb_wr M 1 4 0 = sp_aimI M x z 0 := by
  apply sp_ext
  intro q k
  simp only [kb_wr, sp_aimI, sp_ia]
  grind [sp_sum]
theorem sp_aimI_S (M : kb_M) (x z i : Int) (h : 0 ≤ i) : kb_wr (kb_wr (kb_wr (sp_aimI M x z i) 9 i (sp_dly M i x z)) 10 i (sp_wt M i x z)) 1 4 (sp_sum (fun a => sp_wt M a x z) i.toNat + sp_wt M i x z) = sp_aimI M x z (i + 1) := by
  have hs := sp_sumS (fun a => sp_wt M a x z) h
  apply sp_ext
  intro q k
  simp only [kb_wr, sp_aimI, sp_ia, hs]
  grind
/-- the world when renew has done j elements -/
def sp_rn (M : kb_M) (n f p j : Int) : kb_M := fun q => if q = 1 then (fun k => if k = 5 then n else if k = 6 then n else M 1 k) else if q = 7 then (fun k => if 0 ≤ k ∧ k < j then f + k * p else M 7 k) else if q = 8 then (fun k => if 0 ≤ k ∧ k < j then 0 else M 8 k) else M q
theorem sp_rn_0 (M : kb_M) (n f p : Int) : kb_wr (kb_wr M 1 5 n) 1 6 n = sp_rn M n f p 0 := by
  apply sp_ext
  intro q k
  simp only [kb_wr, sp_rn, sp_ia]
  grind
theorem sp_rn_S (M : kb_M) (n f p i : Int) (h : 0 ≤ i) : kb_wr (kb_wr (sp_rn M n f p i) 7 i (f + i * p)) 8 i 0 = sp_rn M n f p (i + 1) := by
  apply sp_ext
  intro q k
  simp only [kb_wr, sp_rn, sp_ia]
  grind
/-- the looks -/
def sp_at (M : kb_M) (l i s : Int) : Int := if 0 ≤ s ∧ s < 400 ∧ 0 ≤ i ∧ i < 16 then M 16 ((M 3 2 + l) % 6 * 6400 + i * 400 + s) else 0
def sp_ld (M : kb_M) (l i s a : Int) : kb_M := fun q => if q = 16 then (fun p => M 16 p + (if (0 ≤ s ∧ s < 400 ∧ 0 ≤ i ∧ i < 16) ∧ p = (M 3 2 + l) % 6 * 6400 + i * 400 + s then a else 0)) else M q
theorem sp_ld_in (M : kb_M) (l i s a : Int) (h : 0 ≤ s ∧ s < 400 ∧ 0 ≤ i ∧ i < 16) : kb_wr M 16 ((M 3 2 + l) % 6 * 6400 + i * 400 + s) (M 16 ((M 3 2 + l) % 6 * 6400 + i * 400 + s) + a) = sp_ld M l i s a := by
  apply sp_ext
  intro q k
  simp only [kb_wr, sp_ld, sp_ia]
  grind
theorem sp_ld_out (M : kb_M) (l i s a : Int) (h : ¬ (0 ≤ s ∧ s < 400 ∧ 0 ≤ i ∧ i < 16)) : M = sp_ld M l i s a := by
  apply sp_ext
  intro q k
  simp only [sp_ld, sp_ia]
  grind
/-- the world of a new look, when j of its samples are cleared -/
def sp_bg (M : kb_M) (t : Int) : kb_M := fun q => if q = 3 then (fun k => if k = 2 then (if M 3 3 < 6 then M 3 2 else (M 3 2 + 1) % 6) else if k = 3 then (if M 3 3 < 6 then M 3 3 + 1 else M 3 3) else if k = 4 then M 3 4 + 1 else M 3 k) else if q = 17 then (fun k => if k = (if M 3 3 < 6 then M 3 2 + M 3 3 else M 3 2 + 1 + M 3 3 - 1) % 6 then t else M 17 k) else M q
def sp_bgS (M : kb_M) : Int := (if M 3 3 < 6 then M 3 2 + M 3 3 else M 3 2 + M 3 3) % 6
/-- j first samples of a slot cleared -/
def sp_cl (M : kb_M) (sl j : Int) : kb_M := fun q => if q = 16 then (fun p => if sl * 6400 ≤ p ∧ p < j then 0 else M 16 p) else M q
theorem sp_cl_0 (M : kb_M) (sl : Int) : M = sp_cl M sl (sl * 6400) := by
  apply sp_ext
  intro q k
  simp only [sp_cl, sp_ia]
  grind
theorem sp_cl_S (M : kb_M) (sl i : Int) (h : sl * 6400 ≤ i) : kb_wr (sp_cl M sl i) 16 i 0 = sp_cl M sl (i + 1) := by
  apply sp_ext
  intro q k
  simp only [kb_wr, sp_cl, sp_ia]
  grind
def sp_hv (s : Int) : Nat → Int
  | 0 => s
  | n + 1 => sp_hv s n / 2
theorem sp_hv_le (s : Int) : ∀ n : Nat, sp_hv s n ≤ s / 2 ^ n := by
  intro n
  induction n with
  | zero => simp [sp_hv]
  | succ n ih =>
    simp only [sp_hv]
    have h1 : s / 2 ^ (n + 1) = s / 2 ^ n / 2 := by rw [Int.pow_succ, Int.ediv_ediv_of_nonneg (Int.le_of_lt (Int.pow_pos (by omega)))]
    rw [h1]
    omega
theorem sp_hv_0 {s : Int} (n : Nat) (hs : s ≤ 100000000) : n = 100 → sp_hv s n ≤ 0 := by
  intro h
  have h1 := sp_hv_le s n
  subst h
  have h2 : (2 : Int) ^ 100 = 1267650600228229401496703205376 := by decide
  rw [h2] at h1
  omega
theorem sp_dly_b {M : kb_M} {i x z : Int} (hxs : sp_xs M) (hP : 1 ≤ M 1 7 ∧ M 1 7 ≤ 1000) (hT : 1 ≤ M 1 8 ∧ M 1 8 ≤ 1000) (hx : -2000 ≤ x ∧ x ≤ 2000) (hz : 0 ≤ z ∧ z ≤ 4000) : 0 ≤ sp_dly M i x z ∧ sp_dly M i x z ≤ 16001000 := sp_dl_b hP hT (sp_gap_b hxs hx) hz
theorem sp_wt_b2 {M : kb_M} {i x z : Int} (h : sp_xs M) (hx : -2000 ≤ x ∧ x ≤ 2000) (hf : 1 ≤ M 1 10 ∧ M 1 10 ≤ 9) (hz : 0 ≤ z ∧ z ≤ 4000) : 0 ≤ sp_wt M i x z ∧ sp_wt M i x z ≤ 4001 := sp_wt_b h hx hf.1 hz
theorem sp_ws_b {M : kb_M} {x z : Int} (h : sp_xs M) (hx : -2000 ≤ x ∧ x ≤ 2000) (hf : 1 ≤ M 1 10 ∧ M 1 10 ≤ 9) (hz : 0 ≤ z ∧ z ≤ 4000) (i : Int) (hi : 0 ≤ i ∧ i ≤ 16) : 0 ≤ sp_sum (fun a => sp_wt M a x z) i.toNat ∧ sp_sum (fun a => sp_wt M a x z) i.toNat ≤ 64016 := by
  have h1 := sp_sum_nn (f := fun a => sp_wt M a x z) i.toNat (fun k _ _ => (sp_wt_b2 h hx hf hz).1)
  have h2 := sp_sum_b (f := fun a => sp_wt M a x z) (b := 4001) i.toNat (fun k _ _ => by have := sp_wt_b2 (i := k) h hx hf hz; constructor <;> (show _ ≤ _) <;> first | omega | (simp only []; omega))
  omega
def sp_ad (M : kb_M) (i : Int) : Int := if 0 ≤ i ∧ i < M 1 5 ∧ i < 16 then M 9 i else 0
def sp_aw (M : kb_M) (i : Int) : Int := if 0 ≤ i ∧ i < M 1 5 ∧ i < 16 then M 10 i else 0
end
section
-- J9_floorMod_7cf53
theorem hy_J9_floorMod_7cf53 : yJ9_floorMod_7cf53.cls ≠ "java/lang/invoke/MethodHandle" ∧ yJ9_floorMod_7cf53.cls ≠ "java/lang/invoke/VarHandle" ∧ (parseMethodDescriptor yJ9_floorMod_7cf53.desc).map (fun d => d.parameters.length) = some 2 := by decide +kernel
set_option maxHeartbeats 4000000 in
set_option maxRecDepth 100000 in
theorem c_J9_floorMod_7cf53 (l : Launch) (D : va_G) (ad : Nat → Nat) (cy : Nat → ClassId) (M : kb_M) (a : Int) (b : Int) (ha : 0 ≤ a ∧ a < 2147483648) (hb : 0 < b ∧ b < 1000) : kb_Ci l D ad cy yJ9_floorMod_7cf53 wsJ9_floorMod_7cf53 0 0 [kb_i a, kb_i b] M (a % b) (M) := by
  refine kb_mkCi (cc := cJ9_floorMod_7cf53) (maxL := 3) (lv := [(0, kb_i a), (1, kb_i b)]) (by decide +kernel) rfl (Nat.le_of_ble_eq_true rfl) rfl ?_
  intro p e s m args below meth c X hr hlocks hM
  refine kb_iload_n X 0 rfl dJ9_floorMod_7cf53_0 ?_
  refine kb_iload_n X 1 rfl dJ9_floorMod_7cf53_1 ?_
  refine kb_irem X ⟨by omega, by omega⟩ ⟨by omega, by omega⟩ (by omega) dJ9_floorMod_7cf53_2 ?_
  refine kb_eqi (b := a % b) (kb_tm (by omega)) ?_
  have m1 := Int.emod_nonneg a (show b ≠ 0 by omega)
  have m2 := Int.emod_lt_of_pos a (show 0 < b by omega)
  refine kb_nmi (fun x2_1 ex2_1 => ?_)
  refine kb_istore_n (lv' := [(2, kb_i x2_1), (0, kb_i a), (1, kb_i b)]) X dJ9_floorMod_7cf53_3 (by decide) rfl ?_
  refine kb_iload_n X 1 rfl dJ9_floorMod_7cf53_4 ?_
  refine kb_iload_n X 2 rfl dJ9_floorMod_7cf53_5 ?_
  refine kb_ixorP X ⟨by omega, by omega⟩ ⟨by omega, by omega⟩ (by omega) (by omega) dJ9_floorMod_7cf53_6 (fun z2 hz2 hr2 => ?_)
  have g2 : -2147483648 ≤ z2 ∧ z2 < 2147483648 := hr2
  refine kb_if_ge (tgt := 18) X ⟨by omega, by omega⟩ dJ9_floorMod_7cf53_7 (by decide) (fun h3 => ?_) (fun h3 => ?_)
  ·
    refine kb_iload_n X 0 rfl dJ9_floorMod_7cf53_18 ?_
    exact kb_iret X hr hlocks dJ9_floorMod_7cf53_19 (by first | rfl | assumption | omega | exact (kb_b1 (by omega)).symm | exact (kb_b0 (by omega)).symm) (by rfl)
  ·
    refine kb_iload_n X 0 rfl dJ9_floorMod_7cf53_10 ?_
    refine kb_if_eq (tgt := 18) X ⟨by omega, by omega⟩ dJ9_floorMod_7cf53_11 (by decide) (fun h4 => ?_) (fun h4 => ?_)
    ·
      refine kb_iload_n X 0 rfl dJ9_floorMod_7cf53_18 ?_
      exact kb_iret X hr hlocks dJ9_floorMod_7cf53_19 (by first | rfl | assumption | omega | exact (kb_b1 (by omega)).symm | exact (kb_b0 (by omega)).symm) (by rfl)
    ·
      refine kb_iload_n X 0 rfl dJ9_floorMod_7cf53_14 ?_
      refine kb_iload_n X 2 rfl dJ9_floorMod_7cf53_15 ?_
      refine kb_iadd X dJ9_floorMod_7cf53_16 ?_
      exact kb_iret X hr hlocks dJ9_floorMod_7cf53_17 (by first | rfl | assumption | omega | exact (kb_b1 (by omega)).symm | exact (kb_b0 (by omega)).symm) (by rfl)
-- X6_within
theorem hy_X6_within : yX6_within.cls ≠ "java/lang/invoke/MethodHandle" ∧ yX6_within.cls ≠ "java/lang/invoke/VarHandle" ∧ (parseMethodDescriptor yX6_within.desc).map (fun d => d.parameters.length) = some 3 := by decide +kernel
set_option maxHeartbeats 4000000 in
set_option maxRecDepth 100000 in
theorem c_X6_within (l : Launch) (D : va_G) (ad : Nat → Nat) (cy : Nat → ClassId) (M : kb_M) (v : Int) (lo : Int) (hi : Int) (hv : -2147483648 ≤ v ∧ v < 2147483648) (hlo : -2147483648 ≤ lo ∧ lo < 2147483648) (hhi : -2147483648 ≤ hi ∧ hi < 2147483648) : kb_Ci l D ad cy yX6_within wsX6_within 0 0 [kb_i v, kb_i lo, kb_i hi] M (kb_b (lo ≤ v ∧ v ≤ hi)) (M) := by
  refine kb_mkCi (cc := cX6_within) (maxL := 3) (lv := [(0, kb_i v), (1, kb_i lo), (2, kb_i hi)]) (plainFor_of_name (by decide)) rfl (Nat.le_of_ble_eq_true rfl) rfl ?_
  intro p e s m args below meth c X hr hlocks hM
  refine kb_iload_n X 0 rfl dX6_within_0 ?_
  refine kb_iload_n X 1 rfl dX6_within_1 ?_
  refine kb_icmp_lt (tgt := 14) X ⟨by omega, by omega⟩ ⟨by omega, by omega⟩ dX6_within_2 (by decide) (fun h1 => ?_) (fun h1 => ?_)
  ·
    refine kb_iconst X dX6_within_14 ?_
    exact kb_zret X hr hlocks (by first | exact Or.inl rfl | exact Or.inr rfl) dX6_within_15 (by first | rfl | assumption | omega | exact (kb_b1 (by omega)).symm | exact (kb_b0 (by omega)).symm) (by rfl)
  ·
    refine kb_iload_n X 0 rfl dX6_within_5 ?_
    refine kb_iload_n X 2 rfl dX6_within_6 ?_
    refine kb_icmp_gt (tgt := 14) X ⟨by omega, by omega⟩ ⟨by omega, by omega⟩ dX6_within_7 (by decide) (fun h2 => ?_) (fun h2 => ?_)
    ·
      refine kb_iconst X dX6_within_14 ?_
      exact kb_zret X hr hlocks (by first | exact Or.inl rfl | exact Or.inr rfl) dX6_within_15 (by first | rfl | assumption | omega | exact (kb_b1 (by omega)).symm | exact (kb_b0 (by omega)).symm) (by rfl)
    ·
      refine kb_iconst X dX6_within_10 ?_
      refine kb_goto (tgt := 15) X dX6_within_11 (by decide) ?_
      exact kb_zret X hr hlocks (by first | exact Or.inl rfl | exact Or.inr rfl) dX6_within_15 (by first | rfl | assumption | omega | exact (kb_b1 (by omega)).symm | exact (kb_b0 (by omega)).symm) (by rfl)
-- X6_isPlace
theorem hy_X6_isPlace : yX6_isPlace.cls ≠ "java/lang/invoke/MethodHandle" ∧ yX6_isPlace.cls ≠ "java/lang/invoke/VarHandle" ∧ (parseMethodDescriptor yX6_isPlace.desc).map (fun d => d.parameters.length) = some 2 := by decide +kernel
set_option maxHeartbeats 4000000 in
set_option maxRecDepth 100000 in
theorem c_X6_isPlace (l : Launch) (D : va_G) (ad : Nat → Nat) (cy : Nat → ClassId) (M : kb_M) (x : Int) (z : Int) (hx : -2147483648 ≤ x ∧ x < 2147483648) (hz : -2147483648 ≤ z ∧ z < 2147483648) : kb_Ci l D ad cy yX6_isPlace wsX6_isPlace 1 22 [kb_i x, kb_i z] M (kb_b ((-2000 ≤ x ∧ x ≤ 2000) ∧ 0 ≤ z ∧ z ≤ 4000)) (M) := by
  refine kb_mkCi (cc := cX6_isPlace) (maxL := 2) (lv := [(0, kb_i x), (1, kb_i z)]) (plainFor_of_name (by decide)) rfl (Nat.le_of_ble_eq_true rfl) rfl ?_
  intro p e s m args below meth c X hr hlocks hM
  refine kb_iload_n X 0 rfl dX6_isPlace_0 ?_
  refine kb_sipush X (by decide) dX6_isPlace_1 ?_
  refine kb_sipush X (by decide) dX6_isPlace_4 ?_
  refine kb_cSi X (rest := []) [kb_i x, kb_i ((-2000)), kb_i 2000] (c_X6_within l D ad cy M x ((-2000)) 2000 (by first | omega | assumption | exact ⟨by omega, by omega⟩) (by first | omega | assumption | exact ⟨by omega, by omega⟩) (by first | omega | assumption | exact ⟨by omega, by omega⟩)) gX6_isPlace_X6_within rfl hy_X6_within ⟨by decide, by decide⟩ rfl (Nat.le_of_ble_eq_true rfl) ⟨by decide, by decide⟩ dX6_isPlace_7 rfl ?_
  refine kb_ifb_eq (tgt := 28) X dX6_isPlace_10 (by decide) (fun h1 => ?_) (fun h1 => ?_)
  ·
    refine kb_iconst X dX6_isPlace_28 ?_
    exact kb_zret X hr hlocks (by first | exact Or.inl rfl | exact Or.inr rfl) dX6_isPlace_29 (by first | rfl | assumption | omega | exact (kb_b1 (by omega)).symm | exact (kb_b0 (by omega)).symm) (by rfl)
  ·
    refine kb_iload_n X 1 rfl dX6_isPlace_13 ?_
    refine kb_iconst X dX6_isPlace_14 ?_
    refine kb_sipush X (by decide) dX6_isPlace_15 ?_
    refine kb_cSi X (rest := []) [kb_i z, kb_i 0, kb_i 4000] (c_X6_within l D ad cy M z 0 4000 (by first | omega | assumption | exact ⟨by omega, by omega⟩) (by first | omega | assumption | exact ⟨by omega, by omega⟩) (by first | omega | assumption | exact ⟨by omega, by omega⟩)) gX6_isPlace_X6_within rfl hy_X6_within ⟨by decide, by decide⟩ rfl (Nat.le_of_ble_eq_true rfl) ⟨by decide, by decide⟩ dX6_isPlace_18 rfl ?_
    refine kb_ifb_eq (tgt := 28) X dX6_isPlace_21 (by decide) (fun h2 => ?_) (fun h2 => ?_)
    ·
      refine kb_iconst X dX6_isPlace_28 ?_
      exact kb_zret X hr hlocks (by first | exact Or.inl rfl | exact Or.inr rfl) dX6_isPlace_29 (by first | rfl | assumption | omega | exact (kb_b1 (by omega)).symm | exact (kb_b0 (by omega)).symm) (by rfl)
    ·
      refine kb_iconst X dX6_isPlace_24 ?_
      refine kb_goto (tgt := 29) X dX6_isPlace_25 (by decide) ?_
      exact kb_zret X hr hlocks (by first | exact Or.inl rfl | exact Or.inr rfl) dX6_isPlace_29 (by first | rfl | assumption | omega | exact (kb_b1 (by omega)).symm | exact (kb_b0 (by omega)).symm) (by rfl)
-- X6_root
theorem hy_X6_root : yX6_root.cls ≠ "java/lang/invoke/MethodHandle" ∧ yX6_root.cls ≠ "java/lang/invoke/VarHandle" ∧ (parseMethodDescriptor yX6_root.desc).map (fun d => d.parameters.length) = some 2 := by decide +kernel
set_option maxHeartbeats 4000000 in
set_option maxRecDepth 100000 in
theorem c_X6_root (l : Launch) (D : va_G) (ad : Nat → Nat) (cy : Nat → ClassId) (M : kb_M) (v : Int) (s0 : Int) (hv : 0 ≤ v ∧ v ≤ 1000000000000000) (hs : sp_sq v ≤ s0) (hs2 : s0 ≤ 100000000) : kb_Cl l D ad cy yX6_root wsX6_root 0 0 [kb_l (v), kb_l (s0)] M (sp_sq v) (M) := by
  refine kb_mkCl (cc := cX6_root) (maxL := 9) (lv := [(0, kb_l (v)), (2, kb_l (s0))]) (plainFor_of_name (by decide)) rfl (Nat.le_of_ble_eq_true rfl) rfl ?_
  intro p e s m args below meth c X hr hlocks hM
  have hnn := sp_sq_nn v
  refine kb_lload_n X 1 rfl dX6_root_0 ?_
  refine kb_lstore (lv' := [(4, kb_l (s0)), (0, kb_l (v)), (2, kb_l (s0))]) X dX6_root_1 (by decide) rfl ?_
  refine kb_iconst X dX6_root_3 ?_
  refine kb_istore (lv' := [(6, kb_i 0), (4, kb_l (s0)), (0, kb_l (v)), (2, kb_l (s0))]) X dX6_root_4 (by decide) rfl ?_
  have L6 : ∀ nn_ : Nat, ∀ (u k : Int), (100 - k).toNat < nn_ → (sp_sq v ≤ u ∧ u ≤ s0 ∧ 0 ≤ k ∧ k ≤ 100) → (u - sp_sq v ≤ sp_hv s0 k.toNat) → kb_B p l e ({ frames := 0, cells := 0, slots := 0, locals := 0 } : Room) s m args below meth c D ad cy (kb_A ad s.heap.size) 9 0 0 (MQ below (va_Ql (fun (vq_ : Int64) (_ : Unit) => vq_ = kb_L (sp_sq v)) (fun _ t => kb_en2 D ad cy (M) t) (kb_A ad s.heap.size)) args s 0 0 (kb_A ad s.heap.size)) 6 [(0, kb_l (v)), (2, kb_l (s0)), (4, kb_l (u)), (6, kb_i k)] [] M := by
    intro nn_
    induction nn_ with
    | zero => intro u k hn; exact absurd hn (Nat.not_lt_zero _)
    | succ nn_ ih1 =>
      intro u k hn hI hJ
      refine kb_iload X 3 rfl dX6_root_6 ?_
      refine kb_bipush X (by decide) dX6_root_8 ?_
      refine kb_icmp_ge (tgt := 54) X ⟨by omega, by omega⟩ ⟨by decide, by decide⟩ dX6_root_10 (by decide) (fun h2 => ?_) (fun h2 => ?_)
      ·
        have hz := sp_hv_0 (s := s0) k.toNat (by omega)
        refine kb_lload X 2 rfl dX6_root_54 ?_
        exact kb_lret X hr hlocks dX6_root_56 (by first | omega | (have h100 : k.toNat = 100 := (by omega); have h101 := hz h100; omega)) (by rfl)
      ·
        refine kb_lload X 2 rfl dX6_root_13 ?_
        refine kb_lconst X dX6_root_15 ?_
        refine kb_eql (b := 0) rfl ?_
        refine kb_lcmp_le (tgt := 54) X ⟨by omega, by omega⟩ ⟨by decide, by decide⟩ dX6_root_16 dX6_root_17 (by decide) (fun h3 => ?_) (fun h3 => ?_)
        ·
          have hz := sp_hv_0 (s := s0) k.toNat (by omega)
          refine kb_lload X 2 rfl dX6_root_54 ?_
          exact kb_lret X hr hlocks dX6_root_56 (by first | omega | (have h100 : k.toNat = 100 := (by omega); have h101 := hz h100; omega)) (by rfl)
        ·
          have db := sp_divb (z := v) (f := u) (by omega) (by omega)
          have nw := sp_newton (v := v) (g := u) (by omega) (by omega) hI.1
          refine kb_lload X 2 rfl dX6_root_20 ?_
          refine kb_lload_n X 0 rfl dX6_root_22 ?_
          refine kb_lload X 2 rfl dX6_root_23 ?_
          refine kb_ldiv X ⟨by omega, by omega⟩ ⟨by omega, by omega⟩ (by omega) dX6_root_25 ?_
          refine kb_eql (b := v / u) (kb_td (by omega)) ?_
          refine kb_ladd X dX6_root_26 ?_
          refine kb_ldc2 (v := 2) X (2) (by decide +kernel) (by decide) dX6_root_27 ?_
          refine kb_ldiv X ⟨by omega, by omega⟩ ⟨by decide, by decide⟩ (by omega) dX6_root_30 ?_
          refine kb_eql (b := (u + (v / u)) / 2) (kb_td (by omega)) ?_
          refine kb_nml (fun x7_4 ex7_4 => ?_)
          refine kb_lstore (lv' := [(7, kb_l (x7_4)), (0, kb_l (v)), (2, kb_l (s0)), (4, kb_l (u)), (6, kb_i k)]) X dX6_root_31 (by decide) rfl ?_
          refine kb_lload X 0 rfl dX6_root_33 ?_
          refine kb_lload X 3 rfl dX6_root_35 ?_
          refine kb_lcmp_lt (tgt := 44) X ⟨by omega, by omega⟩ ⟨by omega, by omega⟩ dX6_root_37 dX6_root_38 (by decide) (fun h5 => ?_) (fun h5 => ?_)
          ·
            refine kb_lload X 0 rfl dX6_root_44 ?_
            refine kb_lstore (lv' := [(4, kb_l (x7_4)), (7, kb_l (x7_4)), (0, kb_l (v)), (2, kb_l (s0)), (6, kb_i k)]) X dX6_root_46 (by decide) rfl ?_
            refine kb_iinc (lv' := [(6, kb_i (k + 1)), (4, kb_l (x7_4)), (7, kb_l (x7_4)), (0, kb_l (v)), (2, kb_l (s0))]) X 4 rfl dX6_root_48 rfl (by decide) rfl ?_
            refine kb_goto (tgt := 6) X dX6_root_51 (by decide) ?_
            refine kb_sub [3, 4, 1, 0] (lv' := [(0, kb_l (v)), (2, kb_l (s0)), (4, kb_l (x7_4)), (6, kb_i (k + 1))]) rfl ?_
            exact ih1 x7_4 (k + 1) (by omega) (by first | omega | assumption | exact ⟨by omega, by omega⟩) (by rw [show (k + 1).toNat = k.toNat + 1 by omega]; simp only [sp_hv]; omega)
          ·
            refine kb_lload X 3 rfl dX6_root_41 ?_
            exact kb_lret X hr hlocks dX6_root_43 (by first | rfl | assumption | omega | exact (kb_b1 (by omega)).symm | exact (kb_b0 (by omega)).symm) (by rfl)
  refine kb_sub [2, 3, 1, 0] (lv' := [(0, kb_l (v)), (2, kb_l (s0)), (4, kb_l (s0)), (6, kb_i 0)]) rfl ?_
  exact L6 _ s0 0 (Nat.lt_succ_self _) (by first | omega | assumption | exact ⟨by omega, by omega⟩) (by simp only [Int.toNat_zero, sp_hv]; omega)
-- X3_has
theorem hf_X3_has_51 : Cond.fieldLink yX3_has.cls 51 RX3 "size" "I" ∈ wsX3_has := by decide +kernel
theorem hi_X3_has_X3 : ∀ w ∈ wsX30, w ∈ wsX3_has := by decide +kernel
theorem hy_X3_has : yX3_has.cls ≠ "java/lang/invoke/MethodHandle" ∧ yX3_has.cls ≠ "java/lang/invoke/VarHandle" ∧ (parseMethodDescriptor yX3_has.desc).map (fun d => d.parameters.length) = some 1 := by decide +kernel
set_option maxHeartbeats 4000000 in
set_option maxRecDepth 100000 in
theorem c_X3_has (l : Launch) (D : va_G) (ad : Nat → Nat) (cy : Nat → ClassId) (M : kb_M) (i : Int) (hi : -2147483648 ≤ i ∧ i < 2147483648) : kb_Ci l D ad cy yX3_has wsX3_has 0 0 [.ref (ad 1), kb_i i] M (kb_b (0 ≤ i ∧ i < M 1 5 ∧ i < 16)) (M) := by
  refine kb_mkCi (cc := cX3_has) (maxL := 2) (lv := [(0, .ref (ad 1)), (1, kb_i i)]) (plainFor_of_name (by decide)) rfl (Nat.le_of_ble_eq_true rfl) rfl ?_
  intro p e s m args below meth c X hr hlocks hM
  refine kb_iload_n X 1 rfl dX3_has_0 ?_
  refine kb_if_lt (tgt := 22) X ⟨by omega, by omega⟩ dX3_has_1 (by decide) (fun h1 => ?_) (fun h1 => ?_)
  ·
    refine kb_iconst X dX3_has_22 ?_
    exact kb_zret X hr hlocks (by first | exact Or.inl rfl | exact Or.inr rfl) dX3_has_23 (by first | rfl | assumption | omega | exact (kb_b1 (by omega)).symm | exact (kb_b0 (by omega)).symm) (by rfl)
  ·
    refine kb_iload_n X 1 rfl dX3_has_4 ?_
    refine kb_aload_n X 0 rfl dX3_has_5 ?_
    refine kg_X3_size X hi_X3_has_X3 hf_X3_has_51 dX3_has_6 ?_
    have g2 : -2147483648 ≤ M 1 5 ∧ M 1 5 < 2147483648 := hM 1 5
    refine kb_icmp_ge (tgt := 22) X ⟨by omega, by omega⟩ ⟨by omega, by omega⟩ dX3_has_9 (by decide) (fun h3 => ?_) (fun h3 => ?_)
    ·
      refine kb_iconst X dX3_has_22 ?_
      exact kb_zret X hr hlocks (by first | exact Or.inl rfl | exact Or.inr rfl) dX3_has_23 (by first | rfl | assumption | omega | exact (kb_b1 (by omega)).symm | exact (kb_b0 (by omega)).symm) (by rfl)
    ·
      refine kb_iload_n X 1 rfl dX3_has_12 ?_
      refine kb_bipush X (by decide) dX3_has_13 ?_
      refine kb_icmp_ge (tgt := 22) X ⟨by omega, by omega⟩ ⟨by decide, by decide⟩ dX3_has_15 (by decide) (fun h4 => ?_) (fun h4 => ?_)
      ·
        refine kb_iconst X dX3_has_22 ?_
        exact kb_zret X hr hlocks (by first | exact Or.inl rfl | exact Or.inr rfl) dX3_has_23 (by first | rfl | assumption | omega | exact (kb_b1 (by omega)).symm | exact (kb_b0 (by omega)).symm) (by rfl)
      ·
        refine kb_iconst X dX3_has_18 ?_
        refine kb_goto (tgt := 23) X dX3_has_19 (by decide) ?_
        exact kb_zret X hr hlocks (by first | exact Or.inl rfl | exact Or.inr rfl) dX3_has_23 (by first | rfl | assumption | omega | exact (kb_b1 (by omega)).symm | exact (kb_b0 (by omega)).symm) (by rfl)
-- X3_isDead
theorem hf_X3_isDead_15 : Cond.fieldLink yX3_isDead.cls 15 RX3 "deads" "[Z" ∈ wsX3_isDead := by decide +kernel
theorem hi_X3_isDead_X3 : ∀ w ∈ wsX30, w ∈ wsX3_isDead := by decide +kernel
theorem hy_X3_isDead : yX3_isDead.cls ≠ "java/lang/invoke/MethodHandle" ∧ yX3_isDead.cls ≠ "java/lang/invoke/VarHandle" ∧ (parseMethodDescriptor yX3_isDead.desc).map (fun d => d.parameters.length) = some 1 := by decide +kernel
set_option maxHeartbeats 4000000 in
set_option maxRecDepth 100000 in
theorem c_X3_isDead (l : Launch) (D : va_G) (ad : Nat → Nat) (cy : Nat → ClassId) (M : kb_M) (i : Int) (hi : -2147483648 ≤ i ∧ i < 2147483648) : kb_Ci l D ad cy yX3_isDead wsX3_isDead 1 21 [.ref (ad 1), kb_i i] M (kb_b (0 ≤ i ∧ i < M 1 5 ∧ i < 16 ∧ M 8 i ≠ 0)) (M) := by
  refine kb_mkCi (cc := cX3_isDead) (maxL := 2) (lv := [(0, .ref (ad 1)), (1, kb_i i)]) (plainFor_of_name (by decide)) rfl (Nat.le_of_ble_eq_true rfl) rfl ?_
  intro p e s m args below meth c X hr hlocks hM
  refine kb_aload_n X 0 rfl dX3_isDead_0 ?_
  refine kb_iload_n X 1 rfl dX3_isDead_1 ?_
  refine kb_cVi X (rest := []) [kb_i i] 1 (fl := [some 7, some 8, some 9, some 10, none, none, none, none, none, none, none]) (C := RX3) rfl rfl (c_X3_has l D ad cy M i (by first | omega | assumption | exact ⟨by omega, by omega⟩)) gX3_isDead_X3_has rfl ⟨rfl, hy_X3_has⟩ ⟨by decide, by decide⟩ rfl (Nat.le_of_ble_eq_true rfl) ⟨by decide, by decide⟩ dX3_isDead_2 rfl ?_
  refine kb_ifb_eq (tgt := 21) X dX3_isDead_5 (by decide) (fun h1 => ?_) (fun h1 => ?_)
  ·
    refine kb_iconst X dX3_isDead_21 ?_
    exact kb_zret X hr hlocks (by first | exact Or.inl rfl | exact Or.inr rfl) dX3_isDead_22 (by first | rfl | assumption | omega | exact (kb_b1 (by omega)).symm | exact (kb_b0 (by omega)).symm) (by rfl)
  ·
    refine kb_aload_n X 0 rfl dX3_isDead_8 ?_
    refine kg_X3_deads X hi_X3_isDead_X3 hf_X3_isDead_15 dX3_isDead_9 ?_
    refine kb_iload_n X 1 rfl dX3_isDead_12 ?_
    refine kb_zald X 8 (n := 16) rfl ⟨by omega, by omega⟩ (by decide) dX3_isDead_13 ?_
    have g2 : -2147483648 ≤ M 8 i ∧ M 8 i < 2147483648 := hM 8 i
    refine kb_if_eq (tgt := 21) X ⟨by omega, by omega⟩ dX3_isDead_14 (by decide) (fun h3 => ?_) (fun h3 => ?_)
    ·
      refine kb_iconst X dX3_isDead_21 ?_
      exact kb_zret X hr hlocks (by first | exact Or.inl rfl | exact Or.inr rfl) dX3_isDead_22 (by first | rfl | assumption | omega | exact (kb_b1 (by omega)).symm | exact (kb_b0 (by omega)).symm) (by rfl)
    ·
      refine kb_iconst X dX3_isDead_17 ?_
      refine kb_goto (tgt := 22) X dX3_isDead_18 (by decide) ?_
      exact kb_zret X hr hlocks (by first | exact Or.inl rfl | exact Or.inr rfl) dX3_isDead_22 (by first | rfl | assumption | omega | exact (kb_b1 (by omega)).symm | exact (kb_b0 (by omega)).symm) (by rfl)
-- X3_gap
theorem hf_X3_gap_9 : Cond.fieldLink yX3_gap.cls 9 RX3 "xs" "[I" ∈ wsX3_gap := by decide +kernel
theorem hi_X3_gap_X3 : ∀ w ∈ wsX30, w ∈ wsX3_gap := by decide +kernel
theorem hy_X3_gap : yX3_gap.cls ≠ "java/lang/invoke/MethodHandle" ∧ yX3_gap.cls ≠ "java/lang/invoke/VarHandle" ∧ (parseMethodDescriptor yX3_gap.desc).map (fun d => d.parameters.length) = some 2 := by decide +kernel
theorem hm_X3_gap_abs : Cond.methodLink yX3_gap.cls 61 Lib.Math.abs.name ∈ wsX3_gap ∧ Cond.static Lib.Math.abs.name ∈ wsX3_gap ∧ Cond.initialized "java/lang/Math" ∈ wsX3_gap ∧ Cond.code Lib.Math.abs.name Lib.Math.abs.code 1 (some .int) ∈ wsX3_gap := by decide +kernel
set_option maxHeartbeats 4000000 in
set_option maxRecDepth 100000 in
theorem c_X3_gap (l : Launch) (D : va_G) (ad : Nat → Nat) (cy : Nat → ClassId) (M : kb_M) (i : Int) (x : Int) (hi : -2147483648 ≤ i ∧ i < 2147483648) (hx : -2000 ≤ x ∧ x ≤ 2000) (hxs : sp_xs M) : kb_Ci l D ad cy yX3_gap wsX3_gap 1 24 [.ref (ad 1), kb_i i, kb_i x] M (sp_gap M i x) (M) := by
  refine kb_mkCi (cc := cX3_gap) (maxL := 3) (lv := [(0, .ref (ad 1)), (1, kb_i i), (2, kb_i x)]) (plainFor_of_name (by decide)) rfl (Nat.le_of_ble_eq_true rfl) rfl ?_
  intro p e s m args below meth c X hr hlocks hM
  refine kb_aload_n X 0 rfl dX3_gap_0 ?_
  refine kb_iload_n X 1 rfl dX3_gap_1 ?_
  refine kb_cVi X (rest := []) [kb_i i] 1 (fl := [some 7, some 8, some 9, some 10, none, none, none, none, none, none, none]) (C := RX3) rfl rfl (c_X3_has l D ad cy M i (by first | omega | assumption | exact ⟨by omega, by omega⟩)) gX3_gap_X3_has rfl ⟨rfl, hy_X3_has⟩ ⟨by decide, by decide⟩ rfl (Nat.le_of_ble_eq_true rfl) ⟨by decide, by decide⟩ dX3_gap_2 rfl ?_
  refine kb_ifb_eq (tgt := 22) X dX3_gap_5 (by decide) (fun h1 => ?_) (fun h1 => ?_)
  ·
    refine kb_iconst X dX3_gap_22 ?_
    exact kb_iret X hr hlocks dX3_gap_23 (by first | (unfold sp_gap; rw [if_pos (by omega)]) | (unfold sp_gap; rw [if_neg (by omega)])) (by rfl)
  ·
    have b7 := hxs i (by omega) (by omega)
    refine kb_aload_n X 0 rfl dX3_gap_8 ?_
    refine kg_X3_xs X hi_X3_gap_X3 hf_X3_gap_9 dX3_gap_9 ?_
    refine kb_iload_n X 1 rfl dX3_gap_12 ?_
    refine kb_iald X 7 (n := 16) rfl ⟨by omega, by omega⟩ (by decide) dX3_gap_13 ?_
    have g2 : -2147483648 ≤ M 7 i ∧ M 7 i < 2147483648 := hM 7 i
    refine kb_iload_n X 2 rfl dX3_gap_14 ?_
    refine kb_isub X dX3_gap_15 ?_
    refine kb_mabs X ⟨by omega, by omega⟩ (by omega) hm_X3_gap_abs.1 hm_X3_gap_abs.2.1 hm_X3_gap_abs.2.2.1 hm_X3_gap_abs.2.2.2 (by decide) (Nat.le_of_ble_eq_true rfl) (by decide) (by decide) dX3_gap_16 ?_
    refine kb_goto (tgt := 23) X dX3_gap_19 (by decide) ?_
    exact kb_iret X hr hlocks dX3_gap_23 (by first | (unfold sp_gap; rw [if_pos (by omega)]) | (unfold sp_gap; rw [if_neg (by omega)])) (by rfl)
-- X3_delayOf
theorem hf_X3_delayOf_25 : Cond.fieldLink yX3_delayOf.cls 25 RX3 "steps" "I" ∈ wsX3_delayOf := by decide +kernel
theorem hf_X3_delayOf_29 : Cond.fieldLink yX3_delayOf.cls 29 RX3 "ticks" "I" ∈ wsX3_delayOf := by decide +kernel
theorem hi_X3_delayOf_X3 : ∀ w ∈ wsX30, w ∈ wsX3_delayOf := by decide +kernel
theorem hy_X3_delayOf : yX3_delayOf.cls ≠ "java/lang/invoke/MethodHandle" ∧ yX3_delayOf.cls ≠ "java/lang/invoke/VarHandle" ∧ (parseMethodDescriptor yX3_delayOf.desc).map (fun d => d.parameters.length) = some 3 := by decide +kernel
set_option maxHeartbeats 4000000 in
set_option maxRecDepth 100000 in
theorem c_X3_delayOf (l : Launch) (D : va_G) (ad : Nat → Nat) (cy : Nat → ClassId) (M : kb_M) (i : Int) (x : Int) (z : Int) (hi : -2147483648 ≤ i ∧ i < 2147483648) (hx : -2000 ≤ x ∧ x ≤ 2000) (hz : 0 ≤ z ∧ z ≤ 4000) (hxs : sp_xs M) (hP : 1 ≤ M 1 7 ∧ M 1 7 ≤ 1000) (hT : 1 ≤ M 1 8 ∧ M 1 8 ≤ 1000) : kb_Ci l D ad cy yX3_delayOf wsX3_delayOf 2 46 [.ref (ad 1), kb_i i, kb_i x, kb_i z] M (sp_dly M i x z) (M) := by
  refine kb_mkCi (cc := cX3_delayOf) (maxL := 10) (lv := [(0, .ref (ad 1)), (1, kb_i i), (2, kb_i x), (3, kb_i z)]) (plainFor_of_name (by decide)) rfl (Nat.le_of_ble_eq_true rfl) rfl ?_
  intro p e s m args below meth c X hr hlocks hM
  refine kb_aload_n X 0 rfl dX3_delayOf_0 ?_
  refine kg_X3_steps X hi_X3_delayOf_X3 hf_X3_delayOf_25 dX3_delayOf_1 ?_
  have g1 : -2147483648 ≤ M 1 7 ∧ M 1 7 < 2147483648 := hM 1 7
  refine kb_iconst X dX3_delayOf_4 ?_
  refine kb_icmp_ge (tgt := 10) X ⟨by omega, by omega⟩ ⟨by decide, by decide⟩ dX3_delayOf_5 (by decide) (fun h2 => ?_) (fun h2 => ?_)
  ·
    refine kb_aload_n X 0 rfl dX3_delayOf_10 ?_
    refine kb_iload_n X 1 rfl dX3_delayOf_11 ?_
    refine kb_iload_n X 2 rfl dX3_delayOf_12 ?_
    refine kb_cVi X (rest := []) [kb_i i, kb_i x] 1 (fl := [some 7, some 8, some 9, some 10, none, none, none, none, none, none, none]) (C := RX3) rfl rfl (c_X3_gap l D ad cy M i x (by first | omega | assumption | exact ⟨by omega, by omega⟩) (by first | omega | assumption | exact ⟨by omega, by omega⟩) (by first | omega | assumption | exact ⟨by omega, by omega⟩)) gX3_delayOf_X3_gap rfl ⟨rfl, hy_X3_gap⟩ ⟨by decide, by decide⟩ rfl (Nat.le_of_ble_eq_true rfl) ⟨by decide, by decide⟩ dX3_delayOf_13 rfl ?_
    have g3 : 0 ≤ (sp_gap M i x) ∧ (sp_gap M i x) ≤ 4000 := by apply sp_gap_b <;> first | assumption | omega
    refine kb_i2l X ⟨by omega, by omega⟩ dX3_delayOf_16 ?_
    refine kb_nml (fun x4_4 ex4_4 => ?_)
    refine kb_lstore (lv' := [(4, kb_l (x4_4)), (0, .ref (ad 1)), (1, kb_i i), (2, kb_i x), (3, kb_i z)]) X dX3_delayOf_17 (by decide) rfl ?_
    refine kb_iload_n X 4 rfl dX3_delayOf_19 ?_
    refine kb_i2l X ⟨by omega, by omega⟩ dX3_delayOf_20 ?_
    refine kb_lstore (lv' := [(6, kb_l (z)), (4, kb_l (x4_4)), (0, .ref (ad 1)), (1, kb_i i), (2, kb_i x), (3, kb_i z)]) X dX3_delayOf_21 (by decide) rfl ?_
    refine kb_ldc2 (v := 4) X (4) (by decide +kernel) (by decide) dX3_delayOf_23 ?_
    refine kb_aload_n X 2 rfl dX3_delayOf_26 ?_
    refine kg_X3_ticks X hi_X3_delayOf_X3 hf_X3_delayOf_29 dX3_delayOf_27 ?_
    have g5 : -2147483648 ≤ M 1 8 ∧ M 1 8 < 2147483648 := hM 1 8
    refine kb_i2l X ⟨by omega, by omega⟩ dX3_delayOf_30 ?_
    refine kb_lmul X dX3_delayOf_31 ?_
    refine kb_aload_n X 2 rfl dX3_delayOf_32 ?_
    refine kg_X3_ticks X hi_X3_delayOf_X3 hf_X3_delayOf_29 dX3_delayOf_33 ?_
    refine kb_i2l X ⟨by omega, by omega⟩ dX3_delayOf_36 ?_
    refine kb_lmul X dX3_delayOf_37 ?_
    refine kb_lload X 1 rfl dX3_delayOf_38 ?_
    refine kb_lload X 1 rfl dX3_delayOf_40 ?_
    refine kb_lmul X dX3_delayOf_42 ?_
    refine kb_lload X 0 rfl dX3_delayOf_43 ?_
    refine kb_lload X 0 rfl dX3_delayOf_45 ?_
    refine kb_lmul X dX3_delayOf_47 ?_
    refine kb_ladd X dX3_delayOf_48 ?_
    refine kb_lmul X dX3_delayOf_49 ?_
    refine kb_ldc2 (v := 2) X (2) (by decide +kernel) (by decide) dX3_delayOf_50 ?_
    refine kb_aload_n X 2 rfl dX3_delayOf_53 ?_
    refine kg_X3_ticks X hi_X3_delayOf_X3 hf_X3_delayOf_29 dX3_delayOf_54 ?_
    refine kb_i2l X ⟨by omega, by omega⟩ dX3_delayOf_57 ?_
    refine kb_lmul X dX3_delayOf_58 ?_
    refine kb_lload X 1 rfl dX3_delayOf_59 ?_
    refine kb_lload X 0 rfl dX3_delayOf_61 ?_
    refine kb_ladd X dX3_delayOf_63 ?_
    refine kb_lmul X dX3_delayOf_64 ?_
    have sb := sp_sqb (T := M 1 8) (g := x4_4) (z := z) hT (by omega) hz
    have sn := sp_sq_nn (4 * M 1 8 * M 1 8 * (x4_4 * x4_4 + z * z))
    refine kb_cNl X (rest := []) [kb_l (((4 * (M 1 8)) * (M 1 8)) * ((x4_4 * x4_4) + (z * z))), kb_l ((2 * (M 1 8)) * (x4_4 + z))] X.2.2.2.2 (by decide +kernel) (by decide +kernel) (c_X6_root l D ad cy M (((4 * (M 1 8)) * (M 1 8)) * ((x4_4 * x4_4) + (z * z))) ((2 * (M 1 8)) * (x4_4 + z)) (by omega) (by exact sb.2.2.2.2) (by omega)) gX3_delayOf_X6_root_n72 rfl hy_X6_root ⟨by decide, by decide⟩ rfl (Nat.le_of_ble_eq_true rfl) ⟨by decide, by decide⟩ dX3_delayOf_65 rfl ?_
    refine kb_nml (fun x8_6 ex8_6 => ?_)
    refine kb_lstore (lv' := [(8, kb_l (x8_6)), (6, kb_l (z)), (4, kb_l (x4_4)), (0, .ref (ad 1)), (1, kb_i i), (2, kb_i x), (3, kb_i z)]) X dX3_delayOf_68 (by decide) rfl ?_
    refine kb_lload X 0 rfl dX3_delayOf_70 ?_
    refine kb_aload_n X 3 rfl dX3_delayOf_72 ?_
    refine kg_X3_steps X hi_X3_delayOf_X3 hf_X3_delayOf_25 dX3_delayOf_73 ?_
    refine kb_i2l X ⟨by omega, by omega⟩ dX3_delayOf_76 ?_
    refine kb_ladd X dX3_delayOf_77 ?_
    refine kb_ldc2 (v := 2) X (2) (by decide +kernel) (by decide) dX3_delayOf_78 ?_
    refine kb_aload_n X 3 rfl dX3_delayOf_81 ?_
    refine kg_X3_steps X hi_X3_delayOf_X3 hf_X3_delayOf_25 dX3_delayOf_82 ?_
    refine kb_i2l X ⟨by omega, by omega⟩ dX3_delayOf_85 ?_
    refine kb_lmul X dX3_delayOf_86 ?_
    refine kb_ldiv X ⟨by omega, by omega⟩ ⟨by omega, by omega⟩ (by omega) dX3_delayOf_87 ?_
    refine kb_eql (b := (x8_6 + (M 1 7)) / (2 * (M 1 7))) (kb_td (by omega)) ?_
    refine kb_l2i X dX3_delayOf_88 ?_
    exact kb_iret X hr hlocks dX3_delayOf_89 (by subst_vars; rfl) (by rfl)
  ·
    refine kb_iconst X dX3_delayOf_8 ?_
    exact kb_iret X hr hlocks dX3_delayOf_9 (by first | rfl | assumption | omega | exact (kb_b1 (by omega)).symm | exact (kb_b0 (by omega)).symm) (by rfl)
-- X3_weightOf
theorem hf_X3_weightOf_32 : Cond.fieldLink yX3_weightOf.cls 32 RX3 "window" "I" ∈ wsX3_weightOf := by decide +kernel
theorem hf_X3_weightOf_35 : Cond.fieldLink yX3_weightOf.cls 35 RX3 "narrowness" "I" ∈ wsX3_weightOf := by decide +kernel
theorem hi_X3_weightOf_X3 : ∀ w ∈ wsX30, w ∈ wsX3_weightOf := by decide +kernel
theorem hy_X3_weightOf : yX3_weightOf.cls ≠ "java/lang/invoke/MethodHandle" ∧ yX3_weightOf.cls ≠ "java/lang/invoke/VarHandle" ∧ (parseMethodDescriptor yX3_weightOf.desc).map (fun d => d.parameters.length) = some 3 := by decide +kernel
set_option maxHeartbeats 4000000 in
set_option maxRecDepth 100000 in
theorem c_X3_weightOf (l : Launch) (D : va_G) (ad : Nat → Nat) (cy : Nat → ClassId) (M : kb_M) (i : Int) (x : Int) (z : Int) (hi : -2147483648 ≤ i ∧ i < 2147483648) (hx : -2000 ≤ x ∧ x ≤ 2000) (hz : 0 ≤ z ∧ z ≤ 4000) (hxs : sp_xs M) (hf : 1 ≤ M 1 10 ∧ M 1 10 ≤ 9) : kb_Ci l D ad cy yX3_weightOf wsX3_weightOf 2 46 [.ref (ad 1), kb_i i, kb_i x, kb_i z] M (sp_wt M i x z) (M) := by
  refine kb_mkCi (cc := cX3_weightOf) (maxL := 6) (lv := [(0, .ref (ad 1)), (1, kb_i i), (2, kb_i x), (3, kb_i z)]) (plainFor_of_name (by decide)) rfl (Nat.le_of_ble_eq_true rfl) rfl ?_
  intro p e s m args below meth c X hr hlocks hM
  refine kb_aload_n X 0 rfl dX3_weightOf_0 ?_
  refine kb_iload_n X 1 rfl dX3_weightOf_1 ?_
  refine kb_cVi X (rest := []) [kb_i i] 1 (fl := [some 7, some 8, some 9, some 10, none, none, none, none, none, none, none]) (C := RX3) rfl rfl (c_X3_has l D ad cy M i (by first | omega | assumption | exact ⟨by omega, by omega⟩)) gX3_weightOf_X3_has rfl ⟨rfl, hy_X3_has⟩ ⟨by decide, by decide⟩ rfl (Nat.le_of_ble_eq_true rfl) ⟨by decide, by decide⟩ dX3_weightOf_2 rfl ?_
  refine kb_ifb_eq (tgt := 16) X dX3_weightOf_5 (by decide) (fun h1 => ?_) (fun h1 => ?_)
  ·
    refine kb_iconst X dX3_weightOf_16 ?_
    exact kb_iret X hr hlocks dX3_weightOf_17 (by subst_vars; simp only [sp_wt]; grind) (by rfl)
  ·
    refine kb_aload_n X 0 rfl dX3_weightOf_8 ?_
    refine kb_iload_n X 1 rfl dX3_weightOf_9 ?_
    refine kb_cVi X (rest := []) [kb_i i] 1 (fl := [some 7, some 8, some 9, some 10, none, none, none, none, none, none, none]) (C := RX3) rfl rfl (c_X3_isDead l D ad cy M i (by first | omega | assumption | exact ⟨by omega, by omega⟩)) gX3_weightOf_X3_isDead rfl ⟨rfl, hy_X3_isDead⟩ ⟨by decide, by decide⟩ rfl (Nat.le_of_ble_eq_true rfl) ⟨by decide, by decide⟩ dX3_weightOf_10 rfl ?_
    refine kb_ifb_eq (tgt := 18) X dX3_weightOf_13 (by decide) (fun h2 => ?_) (fun h2 => ?_)
    ·
      refine kb_aload_n X 0 rfl dX3_weightOf_18 ?_
      refine kg_X3_window X hi_X3_weightOf_X3 hf_X3_weightOf_32 dX3_weightOf_19 ?_
      have g3 : -2147483648 ≤ M 1 9 ∧ M 1 9 < 2147483648 := hM 1 9
      refine kb_if_eq (tgt := 33) X ⟨by omega, by omega⟩ dX3_weightOf_22 (by decide) (fun h4 => ?_) (fun h4 => ?_)
      ·
        refine kb_iconst X dX3_weightOf_33 ?_
        exact kb_iret X hr hlocks dX3_weightOf_34 (by subst_vars; simp only [sp_wt]; grind) (by rfl)
      ·
        refine kb_aload_n X 0 rfl dX3_weightOf_25 ?_
        refine kg_X3_narrowness X hi_X3_weightOf_X3 hf_X3_weightOf_35 dX3_weightOf_26 ?_
        have g5 : -2147483648 ≤ M 1 10 ∧ M 1 10 < 2147483648 := hM 1 10
        refine kb_iconst X dX3_weightOf_29 ?_
        refine kb_icmp_ge (tgt := 35) X ⟨by omega, by omega⟩ ⟨by decide, by decide⟩ dX3_weightOf_30 (by decide) (fun h6 => ?_) (fun h6 => ?_)
        ·
          refine kb_iload_n X 3 rfl dX3_weightOf_35 ?_
          refine kb_aload_n X 0 rfl dX3_weightOf_36 ?_
          refine kg_X3_narrowness X hi_X3_weightOf_X3 hf_X3_weightOf_35 dX3_weightOf_37 ?_
          refine kb_idiv X ⟨by omega, by omega⟩ ⟨by omega, by omega⟩ (by omega) dX3_weightOf_40 ?_
          refine kb_eqi (b := z / (M 1 10)) (kb_td (by omega)) ?_
          have db := sp_divb (z := z) (f := M 1 10) hf.1 hz.1
          refine kb_nmi (fun x4_7 ex4_7 => ?_)
          refine kb_istore (lv' := [(4, kb_i x4_7), (0, .ref (ad 1)), (1, kb_i i), (2, kb_i x), (3, kb_i z)]) X dX3_weightOf_41 (by decide) rfl ?_
          refine kb_aload_n X 1 rfl dX3_weightOf_43 ?_
          refine kb_iload_n X 2 rfl dX3_weightOf_44 ?_
          refine kb_iload_n X 3 rfl dX3_weightOf_45 ?_
          refine kb_cVi X (rest := []) [kb_i i, kb_i x] 1 (fl := [some 7, some 8, some 9, some 10, none, none, none, none, none, none, none]) (C := RX3) rfl rfl (c_X3_gap l D ad cy M i x (by first | omega | assumption | exact ⟨by omega, by omega⟩) (by first | omega | assumption | exact ⟨by omega, by omega⟩) (by first | omega | assumption | exact ⟨by omega, by omega⟩)) gX3_weightOf_X3_gap rfl ⟨rfl, hy_X3_gap⟩ ⟨by decide, by decide⟩ rfl (Nat.le_of_ble_eq_true rfl) ⟨by decide, by decide⟩ dX3_weightOf_46 rfl ?_
          have g8 : 0 ≤ (sp_gap M i x) ∧ (sp_gap M i x) ≤ 4000 := by apply sp_gap_b <;> first | assumption | omega
          refine kb_nmi (fun x5_9 ex5_9 => ?_)
          refine kb_istore (lv' := [(5, kb_i x5_9), (4, kb_i x4_7), (0, .ref (ad 1)), (1, kb_i i), (2, kb_i x), (3, kb_i z)]) X dX3_weightOf_49 (by decide) rfl ?_
          refine kb_iload X 0 rfl dX3_weightOf_51 ?_
          refine kb_iload X 1 rfl dX3_weightOf_53 ?_
          refine kb_icmp_le (tgt := 60) X ⟨by omega, by omega⟩ ⟨by omega, by omega⟩ dX3_weightOf_55 (by decide) (fun h10 => ?_) (fun h10 => ?_)
          ·
            refine kb_aload_n X 2 rfl dX3_weightOf_60 ?_
            refine kg_X3_window X hi_X3_weightOf_X3 hf_X3_weightOf_32 dX3_weightOf_61 ?_
            refine kb_iconst X dX3_weightOf_64 ?_
            refine kb_icmp_ne (tgt := 72) X ⟨by omega, by omega⟩ ⟨by decide, by decide⟩ dX3_weightOf_65 (by decide) (fun h11 => ?_) (fun h11 => ?_)
            ·
              refine kb_iload X 1 rfl dX3_weightOf_72 ?_
              refine kb_iload X 0 rfl dX3_weightOf_74 ?_
              refine kb_isub X dX3_weightOf_76 ?_
              refine kb_iconst X dX3_weightOf_77 ?_
              refine kb_iadd X dX3_weightOf_78 ?_
              exact kb_iret X hr hlocks dX3_weightOf_79 (by subst_vars; simp only [sp_wt]; grind) (by rfl)
            ·
              refine kb_iconst X dX3_weightOf_68 ?_
              refine kb_goto (tgt := 79) X dX3_weightOf_69 (by decide) ?_
              exact kb_iret X hr hlocks dX3_weightOf_79 (by subst_vars; simp only [sp_wt]; grind) (by rfl)
          ·
            refine kb_iconst X dX3_weightOf_58 ?_
            exact kb_iret X hr hlocks dX3_weightOf_59 (by subst_vars; simp only [sp_wt]; grind) (by rfl)
        ·
          refine kb_iconst X dX3_weightOf_33 ?_
          exact kb_iret X hr hlocks dX3_weightOf_34 (by subst_vars; simp only [sp_wt]; grind) (by rfl)
    ·
      refine kb_iconst X dX3_weightOf_16 ?_
      exact kb_iret X hr hlocks dX3_weightOf_17 (by subst_vars; simp only [sp_wt]; grind) (by rfl)
-- X3_aim
theorem hf_X3_aim_19 : Cond.fieldLink yX3_aim.cls 19 RX3 "aimedDelays" "[I" ∈ wsX3_aim := by decide +kernel
theorem hf_X3_aim_22 : Cond.fieldLink yX3_aim.cls 22 RX3 "aimedWeights" "[I" ∈ wsX3_aim := by decide +kernel
theorem hf_X3_aim_51 : Cond.fieldLink yX3_aim.cls 51 RX3 "size" "I" ∈ wsX3_aim := by decide +kernel
theorem hf_X3_aim_79 : Cond.fieldLink yX3_aim.cls 79 RX3 "aimedTotal" "I" ∈ wsX3_aim := by decide +kernel
theorem hi_X3_aim_X3 : ∀ w ∈ wsX30, w ∈ wsX3_aim := by decide +kernel
theorem hy_X3_aim : yX3_aim.cls ≠ "java/lang/invoke/MethodHandle" ∧ yX3_aim.cls ≠ "java/lang/invoke/VarHandle" ∧ (parseMethodDescriptor yX3_aim.desc).map (fun d => d.parameters.length) = some 2 := by decide +kernel
set_option maxHeartbeats 4000000 in
set_option maxRecDepth 100000 in
theorem c_X3_aim (l : Launch) (D : va_G) (ad : Nat → Nat) (cy : Nat → ClassId) (M : kb_M) (x : Int) (z : Int) (hx : -2000 ≤ x ∧ x ≤ 2000) (hz : 0 ≤ z ∧ z ≤ 4000) (hxs : sp_xs M) (hP : 1 ≤ M 1 7 ∧ M 1 7 ≤ 1000) (hT : 1 ≤ M 1 8 ∧ M 1 8 ≤ 1000) (hf : 1 ≤ M 1 10 ∧ M 1 10 ≤ 9) (hn : 0 ≤ M 1 5 ∧ M 1 5 ≤ 16) : kb_Cv l D ad cy yX3_aim wsX3_aim 3 75 [.ref (ad 1), kb_i x, kb_i z] M (sp_aim M x z) := by
  refine kb_mkCv (cc := cX3_aim) (maxL := 4) (lv := [(0, .ref (ad 1)), (1, kb_i x), (2, kb_i z)]) (plainFor_of_name (by decide)) rfl (Nat.le_of_ble_eq_true rfl) rfl ?_
  intro p e s m args below meth c X hr hlocks hM
  refine kb_aload_n X 0 rfl dX3_aim_0 ?_
  refine kb_iconst X dX3_aim_1 ?_
  refine kp_X3_aimedTotal X hi_X3_aim_X3 hf_X3_aim_79 ⟨by decide, by decide⟩ dX3_aim_2 ?_
  refine kb_iconst X dX3_aim_5 ?_
  refine kb_istore_n (lv' := [(3, kb_i 0), (0, .ref (ad 1)), (1, kb_i x), (2, kb_i z)]) X dX3_aim_6 (by decide) rfl ?_
  have L7 : ∀ nn_ : Nat, ∀ (a : Int), (16 - a).toNat < nn_ → (0 ≤ a ∧ a ≤ M 1 5) → kb_B p l e ({ frames := 3, cells := 0, slots := 0, locals := 75 } : Room) s m args below meth c D ad cy (kb_A ad s.heap.size) 4 0 0 (MQ below (va_Qv (fun (_ : Unit) => True) (fun _ t => kb_en2 D ad cy (sp_aim M x z) t) (kb_A ad s.heap.size)) args s 0 0 (kb_A ad s.heap.size)) 7 [(0, .ref (ad 1)), (1, kb_i x), (2, kb_i z), (3, kb_i a)] [] ((sp_aimI M x z a)) := by
    intro nn_
    induction nn_ with
    | zero => intro a hn; exact absurd hn (Nat.not_lt_zero _)
    | succ nn_ ih1 =>
      intro a hn hI
      have sb := sp_ws_b (x := x) (z := z) hxs hx hf hz a (by omega)
      refine kb_iload_n X 3 rfl dX3_aim_7 ?_
      refine kb_aload_n X 0 rfl dX3_aim_8 ?_
      refine kg_X3_size X hi_X3_aim_X3 hf_X3_aim_51 dX3_aim_9 ?_
      refine kb_eqi (b := M 1 5) (by first | rfl | simp [kb_wr]) ?_
      have g2 : -2147483648 ≤ M 1 5 ∧ M 1 5 < 2147483648 := hM 1 5
      refine kb_icmp_ge (tgt := 68) X ⟨by omega, by omega⟩ ⟨by omega, by omega⟩ dX3_aim_12 (by decide) (fun h3 => ?_) (fun h3 => ?_)
      ·
        exact kb_vret X hr hlocks dX3_aim_68 (by (have e : a = M 1 5 := by omega); rw [e]; rfl)
      ·
        refine kb_iload_n X 3 rfl dX3_aim_15 ?_
        refine kb_bipush X (by decide) dX3_aim_16 ?_
        refine kb_icmp_ge (tgt := 68) X ⟨by omega, by omega⟩ ⟨by decide, by decide⟩ dX3_aim_18 (by decide) (fun h4 => ?_) (fun h4 => ?_)
        ·
          exact kb_vret X hr hlocks dX3_aim_68 (by (have e : a = M 1 5 := by omega); rw [e]; rfl)
        ·
          refine kb_aload_n X 0 rfl dX3_aim_21 ?_
          refine kg_X3_aimedDelays X hi_X3_aim_X3 hf_X3_aim_19 dX3_aim_22 ?_
          refine kb_iload_n X 3 rfl dX3_aim_25 ?_
          refine kb_aload_n X 0 rfl dX3_aim_26 ?_
          refine kb_iload_n X 3 rfl dX3_aim_27 ?_
          refine kb_iload_n X 1 rfl dX3_aim_28 ?_
          refine kb_iload_n X 2 rfl dX3_aim_29 ?_
          refine kb_cVi X (rest := [kb_i a, .ref (ad 9)]) [kb_i a, kb_i x, kb_i z] 1 (fl := [some 7, some 8, some 9, some 10, none, none, none, none, none, none, none]) (C := RX3) rfl rfl (c_X3_delayOf l D ad cy ((sp_aimI M x z a)) a x z (by first | omega | assumption | exact ⟨by omega, by omega⟩) (by first | omega | assumption | exact ⟨by omega, by omega⟩) (by first | omega | assumption | exact ⟨by omega, by omega⟩) (by first | omega | assumption | exact ⟨by omega, by omega⟩) (by first | omega | assumption | exact ⟨by omega, by omega⟩) (by first | omega | assumption | exact ⟨by omega, by omega⟩)) gX3_aim_X3_delayOf rfl ⟨rfl, hy_X3_delayOf⟩ ⟨by decide, by decide⟩ rfl (Nat.le_of_ble_eq_true rfl) ⟨by decide, by decide⟩ dX3_aim_30 rfl ?_
          have g5 : 0 ≤ (sp_dly M a x z) ∧ (sp_dly M a x z) ≤ 16001000 := by apply sp_dly_b <;> first | assumption | omega
          refine kb_eqi (b := sp_dly M a x z) (rfl) ?_
          refine kb_iast X 9 (n := 16) rfl ⟨by omega, by omega⟩ (by decide) ⟨by omega, by omega⟩ dX3_aim_33 ?_
          refine kb_aload_n X 0 rfl dX3_aim_34 ?_
          refine kg_X3_aimedWeights X hi_X3_aim_X3 hf_X3_aim_22 dX3_aim_35 ?_
          refine kb_iload_n X 3 rfl dX3_aim_38 ?_
          refine kb_aload_n X 0 rfl dX3_aim_39 ?_
          refine kb_iload_n X 3 rfl dX3_aim_40 ?_
          refine kb_iload_n X 1 rfl dX3_aim_41 ?_
          refine kb_iload_n X 2 rfl dX3_aim_42 ?_
          refine kb_cVi X (rest := [kb_i a, .ref (ad 10)]) [kb_i a, kb_i x, kb_i z] 1 (fl := [some 7, some 8, some 9, some 10, none, none, none, none, none, none, none]) (C := RX3) rfl rfl (c_X3_weightOf l D ad cy (kb_wr ((sp_aimI M x z a)) 9 a (sp_dly M a x z)) a x z (by first | omega | assumption | exact ⟨by omega, by omega⟩) (by first | omega | assumption | exact ⟨by omega, by omega⟩) (by first | omega | assumption | exact ⟨by omega, by omega⟩) (by first | omega | assumption | exact ⟨by omega, by omega⟩) (by first | omega | assumption | exact ⟨by omega, by omega⟩)) gX3_aim_X3_weightOf rfl ⟨rfl, hy_X3_weightOf⟩ ⟨by decide, by decide⟩ rfl (Nat.le_of_ble_eq_true rfl) ⟨by decide, by decide⟩ dX3_aim_43 rfl ?_
          have g6 : 0 ≤ (sp_wt M a x z) ∧ (sp_wt M a x z) ≤ 4001 := by apply sp_wt_b2 <;> first | assumption | omega
          refine kb_eqi (b := sp_wt M a x z) (rfl) ?_
          refine kb_iast X 10 (n := 16) rfl ⟨by omega, by omega⟩ (by decide) ⟨by omega, by omega⟩ dX3_aim_46 ?_
          refine kb_aload_n X 0 rfl dX3_aim_47 ?_
          refine kb_dup X rfl dX3_aim_48 ?_
          refine kg_X3_aimedTotal X hi_X3_aim_X3 hf_X3_aim_79 dX3_aim_49 ?_
          refine kb_eqi (b := sp_sum (fun b => sp_wt M b x z) a.toNat) (by first | rfl | simp [kb_wr]) ?_
          refine kb_aload_n X 0 rfl dX3_aim_52 ?_
          refine kg_X3_aimedWeights X hi_X3_aim_X3 hf_X3_aim_22 dX3_aim_53 ?_
          refine kb_iload_n X 3 rfl dX3_aim_56 ?_
          refine kb_iald X 10 (n := 16) rfl ⟨by omega, by omega⟩ (by decide) dX3_aim_57 ?_
          refine kb_eqi (b := (sp_wt M a x z)) (by first | rfl | simp [kb_wr]) ?_
          refine kb_iadd X dX3_aim_58 ?_
          refine kp_X3_aimedTotal X hi_X3_aim_X3 hf_X3_aim_79 ⟨by omega, by omega⟩ dX3_aim_59 ?_
          refine kb_iinc (lv' := [(3, kb_i (a + 1)), (0, .ref (ad 1)), (1, kb_i x), (2, kb_i z)]) X 3 rfl dX3_aim_62 rfl (by decide) rfl ?_
          refine kb_goto (tgt := 7) X dX3_aim_65 (by decide) ?_
          refine kb_sub [1, 2, 3, 0] (lv' := [(0, .ref (ad 1)), (1, kb_i x), (2, kb_i z), (3, kb_i (a + 1))]) rfl ?_
          refine kb_eqM (M' := sp_aimI M x z (a + 1)) ((sp_aimI_S M x z a hI.1).symm) ?_
          exact ih1 (a + 1) (by omega) (by first | omega | assumption | exact ⟨by omega, by omega⟩)
  refine kb_sub [1, 2, 3, 0] (lv' := [(0, .ref (ad 1)), (1, kb_i x), (2, kb_i z), (3, kb_i 0)]) rfl ?_
  refine kb_eqM (M' := sp_aimI M x z 0) ((sp_aimI_0 M x z).symm) ?_
  exact L7 _ 0 (Nat.lt_succ_self _) (by first | omega | assumption | exact ⟨by omega, by omega⟩)
-- X3_aimedDelay
theorem hf_X3_aimedDelay_19 : Cond.fieldLink yX3_aimedDelay.cls 19 RX3 "aimedDelays" "[I" ∈ wsX3_aimedDelay := by decide +kernel
theorem hi_X3_aimedDelay_X3 : ∀ w ∈ wsX30, w ∈ wsX3_aimedDelay := by decide +kernel
theorem hy_X3_aimedDelay : yX3_aimedDelay.cls ≠ "java/lang/invoke/MethodHandle" ∧ yX3_aimedDelay.cls ≠ "java/lang/invoke/VarHandle" ∧ (parseMethodDescriptor yX3_aimedDelay.desc).map (fun d => d.parameters.length) = some 1 := by decide +kernel
set_option maxHeartbeats 4000000 in
set_option maxRecDepth 100000 in
theorem c_X3_aimedDelay (l : Launch) (D : va_G) (ad : Nat → Nat) (cy : Nat → ClassId) (M : kb_M) (i : Int) (hi : -2147483648 ≤ i ∧ i < 2147483648) : kb_Ci l D ad cy yX3_aimedDelay wsX3_aimedDelay 1 21 [.ref (ad 1), kb_i i] M (sp_ad M i) (M) := by
  refine kb_mkCi (cc := cX3_aimedDelay) (maxL := 2) (lv := [(0, .ref (ad 1)), (1, kb_i i)]) (plainFor_of_name (by decide)) rfl (Nat.le_of_ble_eq_true rfl) rfl ?_
  intro p e s m args below meth c X hr hlocks hM
  refine kb_aload_n X 0 rfl dX3_aimedDelay_0 ?_
  refine kb_iload_n X 1 rfl dX3_aimedDelay_1 ?_
  refine kb_cVi X (rest := []) [kb_i i] 1 (fl := [some 7, some 8, some 9, some 10, none, none, none, none, none, none, none]) (C := RX3) rfl rfl (c_X3_has l D ad cy M i (by first | omega | assumption | exact ⟨by omega, by omega⟩)) gX3_aimedDelay_X3_has rfl ⟨rfl, hy_X3_has⟩ ⟨by decide, by decide⟩ rfl (Nat.le_of_ble_eq_true rfl) ⟨by decide, by decide⟩ dX3_aimedDelay_2 rfl ?_
  refine kb_ifb_eq (tgt := 17) X dX3_aimedDelay_5 (by decide) (fun h1 => ?_) (fun h1 => ?_)
  ·
    refine kb_iconst X dX3_aimedDelay_17 ?_
    exact kb_iret X hr hlocks dX3_aimedDelay_18 (by unfold sp_ad; first | rw [if_pos (by omega)] | rw [if_neg (by omega)]) (by rfl)
  ·
    refine kb_aload_n X 0 rfl dX3_aimedDelay_8 ?_
    refine kg_X3_aimedDelays X hi_X3_aimedDelay_X3 hf_X3_aimedDelay_19 dX3_aimedDelay_9 ?_
    refine kb_iload_n X 1 rfl dX3_aimedDelay_12 ?_
    refine kb_iald X 9 (n := 16) rfl ⟨by omega, by omega⟩ (by decide) dX3_aimedDelay_13 ?_
    have g2 : -2147483648 ≤ M 9 i ∧ M 9 i < 2147483648 := hM 9 i
    refine kb_goto (tgt := 18) X dX3_aimedDelay_14 (by decide) ?_
    exact kb_iret X hr hlocks dX3_aimedDelay_18 (by unfold sp_ad; first | rw [if_pos (by omega)] | rw [if_neg (by omega)]) (by rfl)
-- X3_aimedWeight
theorem hf_X3_aimedWeight_22 : Cond.fieldLink yX3_aimedWeight.cls 22 RX3 "aimedWeights" "[I" ∈ wsX3_aimedWeight := by decide +kernel
theorem hi_X3_aimedWeight_X3 : ∀ w ∈ wsX30, w ∈ wsX3_aimedWeight := by decide +kernel
theorem hy_X3_aimedWeight : yX3_aimedWeight.cls ≠ "java/lang/invoke/MethodHandle" ∧ yX3_aimedWeight.cls ≠ "java/lang/invoke/VarHandle" ∧ (parseMethodDescriptor yX3_aimedWeight.desc).map (fun d => d.parameters.length) = some 1 := by decide +kernel
set_option maxHeartbeats 4000000 in
set_option maxRecDepth 100000 in
theorem c_X3_aimedWeight (l : Launch) (D : va_G) (ad : Nat → Nat) (cy : Nat → ClassId) (M : kb_M) (i : Int) (hi : -2147483648 ≤ i ∧ i < 2147483648) : kb_Ci l D ad cy yX3_aimedWeight wsX3_aimedWeight 1 21 [.ref (ad 1), kb_i i] M (sp_aw M i) (M) := by
  refine kb_mkCi (cc := cX3_aimedWeight) (maxL := 2) (lv := [(0, .ref (ad 1)), (1, kb_i i)]) (plainFor_of_name (by decide)) rfl (Nat.le_of_ble_eq_true rfl) rfl ?_
  intro p e s m args below meth c X hr hlocks hM
  refine kb_aload_n X 0 rfl dX3_aimedWeight_0 ?_
  refine kb_iload_n X 1 rfl dX3_aimedWeight_1 ?_
  refine kb_cVi X (rest := []) [kb_i i] 1 (fl := [some 7, some 8, some 9, some 10, none, none, none, none, none, none, none]) (C := RX3) rfl rfl (c_X3_has l D ad cy M i (by first | omega | assumption | exact ⟨by omega, by omega⟩)) gX3_aimedWeight_X3_has rfl ⟨rfl, hy_X3_has⟩ ⟨by decide, by decide⟩ rfl (Nat.le_of_ble_eq_true rfl) ⟨by decide, by decide⟩ dX3_aimedWeight_2 rfl ?_
  refine kb_ifb_eq (tgt := 17) X dX3_aimedWeight_5 (by decide) (fun h1 => ?_) (fun h1 => ?_)
  ·
    refine kb_iconst X dX3_aimedWeight_17 ?_
    exact kb_iret X hr hlocks dX3_aimedWeight_18 (by unfold sp_aw; first | rw [if_pos (by omega)] | rw [if_neg (by omega)]) (by rfl)
  ·
    refine kb_aload_n X 0 rfl dX3_aimedWeight_8 ?_
    refine kg_X3_aimedWeights X hi_X3_aimedWeight_X3 hf_X3_aimedWeight_22 dX3_aimedWeight_9 ?_
    refine kb_iload_n X 1 rfl dX3_aimedWeight_12 ?_
    refine kb_iald X 10 (n := 16) rfl ⟨by omega, by omega⟩ (by decide) dX3_aimedWeight_13 ?_
    have g2 : -2147483648 ≤ M 10 i ∧ M 10 i < 2147483648 := hM 10 i
    refine kb_goto (tgt := 18) X dX3_aimedWeight_14 (by decide) ?_
    exact kb_iret X hr hlocks dX3_aimedWeight_18 (by unfold sp_aw; first | rw [if_pos (by omega)] | rw [if_neg (by omega)]) (by rfl)
-- X3_setDead
theorem hf_X3_setDead_15 : Cond.fieldLink yX3_setDead.cls 15 RX3 "deads" "[Z" ∈ wsX3_setDead := by decide +kernel
theorem hf_X3_setDead_54 : Cond.fieldLink yX3_setDead.cls 54 RX3 "alive" "I" ∈ wsX3_setDead := by decide +kernel
theorem hi_X3_setDead_X3 : ∀ w ∈ wsX30, w ∈ wsX3_setDead := by decide +kernel
theorem hy_X3_setDead : yX3_setDead.cls ≠ "java/lang/invoke/MethodHandle" ∧ yX3_setDead.cls ≠ "java/lang/invoke/VarHandle" ∧ (parseMethodDescriptor yX3_setDead.desc).map (fun d => d.parameters.length) = some 2 := by decide +kernel
set_option maxHeartbeats 4000000 in
set_option maxRecDepth 100000 in
theorem c_X3_setDead (l : Launch) (D : va_G) (ad : Nat → Nat) (cy : Nat → ClassId) (M : kb_M) (i : Int) (d : Int) (hi : 0 ≤ i ∧ i < M 1 5 ∧ i < 16) (hd : d = 0 ∨ d = 1) (ha : 0 ≤ M 1 6 ∧ M 1 6 ≤ 16) : kb_Cv l D ad cy yX3_setDead wsX3_setDead 1 21 [.ref (ad 1), kb_i i, kb_i d] M (kb_wr (kb_wr M 8 i d) 1 6 (M 1 6 + 1 - 2 * d)) := by
  refine kb_mkCv (cc := cX3_setDead) (maxL := 3) (lv := [(0, .ref (ad 1)), (1, kb_i i), (2, kb_i d)]) (plainFor_of_name (by decide)) rfl (Nat.le_of_ble_eq_true rfl) rfl ?_
  intro p e s m args below meth c X hr hlocks hM
  refine kb_aload_n X 0 rfl dX3_setDead_0 ?_
  refine kb_iload_n X 1 rfl dX3_setDead_1 ?_
  refine kb_cVi X (rest := []) [kb_i i] 1 (fl := [some 7, some 8, some 9, some 10, none, none, none, none, none, none, none]) (C := RX3) rfl rfl (c_X3_has l D ad cy M i (by first | omega | assumption | exact ⟨by omega, by omega⟩)) gX3_setDead_X3_has rfl ⟨rfl, hy_X3_has⟩ ⟨by decide, by decide⟩ rfl (Nat.le_of_ble_eq_true rfl) ⟨by decide, by decide⟩ dX3_setDead_2 rfl ?_
  refine kb_ifb_eq (tgt := 33) X dX3_setDead_5 (by decide) (fun h1 => ?_) (fun h1 => ?_)
  ·
    exact kb_vret X hr hlocks dX3_setDead_33 (by first | (exfalso; omega) | (congr 1; omega))
  ·
    refine kb_aload_n X 0 rfl dX3_setDead_8 ?_
    refine kg_X3_deads X hi_X3_setDead_X3 hf_X3_setDead_15 dX3_setDead_9 ?_
    refine kb_iload_n X 1 rfl dX3_setDead_12 ?_
    refine kb_iload_n X 2 rfl dX3_setDead_13 ?_
    refine kb_zast X 8 (n := 16) rfl ⟨by omega, by omega⟩ (by decide) (by omega) dX3_setDead_14 ?_
    refine kb_aload_n X 0 rfl dX3_setDead_15 ?_
    refine kb_dup X rfl dX3_setDead_16 ?_
    refine kg_X3_alive X hi_X3_setDead_X3 hf_X3_setDead_54 dX3_setDead_17 ?_
    refine kb_eqi (b := M 1 6) (by first | rfl | simp [kb_wr]) ?_
    have g2 : -2147483648 ≤ M 1 6 ∧ M 1 6 < 2147483648 := hM 1 6
    refine kb_iload_n X 2 rfl dX3_setDead_20 ?_
    refine kb_if_eq (tgt := 28) X ⟨by omega, by omega⟩ dX3_setDead_21 (by decide) (fun h3 => ?_) (fun h3 => ?_)
    ·
      refine kb_iconst X dX3_setDead_28 ?_
      refine kb_iadd X dX3_setDead_29 ?_
      refine kp_X3_alive X hi_X3_setDead_X3 hf_X3_setDead_54 ⟨by omega, by omega⟩ dX3_setDead_30 ?_
      exact kb_vret X hr hlocks dX3_setDead_33 (by first | (exfalso; omega) | (congr 1; omega))
    ·
      refine kb_iconst X dX3_setDead_24 ?_
      refine kb_goto (tgt := 29) X dX3_setDead_25 (by decide) ?_
      refine kb_iadd X dX3_setDead_29 ?_
      refine kp_X3_alive X hi_X3_setDead_X3 hf_X3_setDead_54 ⟨by omega, by omega⟩ dX3_setDead_30 ?_
      exact kb_vret X hr hlocks dX3_setDead_33 (by first | (exfalso; omega) | (congr 1; omega))
-- X3_renew
theorem hf_X3_renew_9 : Cond.fieldLink yX3_renew.cls 9 RX3 "xs" "[I" ∈ wsX3_renew := by decide +kernel
theorem hf_X3_renew_15 : Cond.fieldLink yX3_renew.cls 15 RX3 "deads" "[Z" ∈ wsX3_renew := by decide +kernel
theorem hf_X3_renew_51 : Cond.fieldLink yX3_renew.cls 51 RX3 "size" "I" ∈ wsX3_renew := by decide +kernel
theorem hf_X3_renew_54 : Cond.fieldLink yX3_renew.cls 54 RX3 "alive" "I" ∈ wsX3_renew := by decide +kernel
theorem hi_X3_renew_X3 : ∀ w ∈ wsX30, w ∈ wsX3_renew := by decide +kernel
theorem hy_X3_renew : yX3_renew.cls ≠ "java/lang/invoke/MethodHandle" ∧ yX3_renew.cls ≠ "java/lang/invoke/VarHandle" ∧ (parseMethodDescriptor yX3_renew.desc).map (fun d => d.parameters.length) = some 3 := by decide +kernel
theorem hm_X3_renew_max : Cond.methodLink yX3_renew.cls 48 Lib.Math.max.name ∈ wsX3_renew ∧ Cond.static Lib.Math.max.name ∈ wsX3_renew ∧ Cond.initialized "java/lang/Math" ∈ wsX3_renew ∧ Cond.code Lib.Math.max.name Lib.Math.max.code 2 (some .int) ∈ wsX3_renew := by decide +kernel
theorem hm_X3_renew_min : Cond.methodLink yX3_renew.cls 42 Lib.Math.min.name ∈ wsX3_renew ∧ Cond.static Lib.Math.min.name ∈ wsX3_renew ∧ Cond.initialized "java/lang/Math" ∈ wsX3_renew ∧ Cond.code Lib.Math.min.name Lib.Math.min.code 2 (some .int) ∈ wsX3_renew := by decide +kernel
set_option maxHeartbeats 4000000 in
set_option maxRecDepth 100000 in
theorem c_X3_renew (l : Launch) (D : va_G) (ad : Nat → Nat) (cy : Nat → ClassId) (M : kb_M) (n : Int) (f : Int) (p0 : Int) (hn : 0 ≤ n ∧ n ≤ 16) (hf : -2000 ≤ f ∧ f ≤ 2000) (hp : 1 ≤ p0 ∧ p0 ≤ 200) : kb_Cv l D ad cy yX3_renew wsX3_renew 1 24 [.ref (ad 1), kb_i n, kb_i f, kb_i p0] M (sp_rn M n f p0 n) := by
  refine kb_mkCv (cc := cX3_renew) (maxL := 5) (lv := [(0, .ref (ad 1)), (1, kb_i n), (2, kb_i f), (3, kb_i p0)]) (plainFor_of_name (by decide)) rfl (Nat.le_of_ble_eq_true rfl) rfl ?_
  intro p e s m args below meth c X hr hlocks hM
  refine kb_aload_n X 0 rfl dX3_renew_0 ?_
  refine kb_iconst X dX3_renew_1 ?_
  refine kb_iload_n X 1 rfl dX3_renew_2 ?_
  refine kb_bipush X (by decide) dX3_renew_3 ?_
  refine kb_mmin X ⟨by omega, by omega⟩ ⟨by decide, by decide⟩ hm_X3_renew_min.1 hm_X3_renew_min.2.1 hm_X3_renew_min.2.2.1 hm_X3_renew_min.2.2.2 (by decide) (Nat.le_of_ble_eq_true rfl) (by decide) (by decide) dX3_renew_5 ?_
  refine kb_mmax X ⟨by decide, by decide⟩ ⟨by omega, by omega⟩ hm_X3_renew_max.1 hm_X3_renew_max.2.1 hm_X3_renew_max.2.2.1 hm_X3_renew_max.2.2.2 (by decide) (Nat.le_of_ble_eq_true rfl) (by decide) (by decide) dX3_renew_8 ?_
  refine kb_eqi (b := n) (by omega) ?_
  refine kp_X3_size X hi_X3_renew_X3 hf_X3_renew_51 ⟨by omega, by omega⟩ dX3_renew_11 ?_
  refine kb_aload_n X 0 rfl dX3_renew_14 ?_
  refine kb_aload_n X 0 rfl dX3_renew_15 ?_
  refine kg_X3_size X hi_X3_renew_X3 hf_X3_renew_51 dX3_renew_16 ?_
  refine kb_eqi (b := n) (by first | rfl | simp [kb_wr]) ?_
  refine kp_X3_alive X hi_X3_renew_X3 hf_X3_renew_54 ⟨by omega, by omega⟩ dX3_renew_19 ?_
  refine kb_iconst X dX3_renew_22 ?_
  refine kb_istore (lv' := [(4, kb_i 0), (0, .ref (ad 1)), (1, kb_i n), (2, kb_i f), (3, kb_i p0)]) X dX3_renew_23 (by decide) rfl ?_
  have L25 : ∀ nn_ : Nat, ∀ (a : Int), (16 - a).toNat < nn_ → (0 ≤ a ∧ a ≤ n) → kb_B p l e ({ frames := 1, cells := 0, slots := 0, locals := 24 } : Room) s m args below meth c D ad cy (kb_A ad s.heap.size) 5 0 0 (MQ below (va_Qv (fun (_ : Unit) => True) (fun _ t => kb_en2 D ad cy (sp_rn M n f p0 n) t) (kb_A ad s.heap.size)) args s 0 0 (kb_A ad s.heap.size)) 25 [(0, .ref (ad 1)), (1, kb_i n), (2, kb_i f), (3, kb_i p0), (4, kb_i a)] [] ((sp_rn M n f p0 a)) := by
    intro nn_
    induction nn_ with
    | zero => intro a hn; exact absurd hn (Nat.not_lt_zero _)
    | succ nn_ ih1 =>
      intro a hn hI
      refine kb_iload X 4 rfl dX3_renew_25 ?_
      refine kb_aload_n X 0 rfl dX3_renew_27 ?_
      refine kg_X3_size X hi_X3_renew_X3 hf_X3_renew_51 dX3_renew_28 ?_
      refine kb_eqi (b := n) (by first | rfl | simp [kb_wr]) ?_
      refine kb_icmp_ge (tgt := 61) X ⟨by omega, by omega⟩ ⟨by omega, by omega⟩ dX3_renew_31 (by decide) (fun h2 => ?_) (fun h2 => ?_)
      ·
        exact kb_vret X hr hlocks dX3_renew_61 (by (have e : a = n := by omega); rw [e])
      ·
        have m1 := sp_mulb (a := a) (b := p0) (A := 16) (B := 200) (by omega) (by omega) (by omega) (by omega)
        refine kb_aload_n X 0 rfl dX3_renew_34 ?_
        refine kg_X3_xs X hi_X3_renew_X3 hf_X3_renew_9 dX3_renew_35 ?_
        refine kb_iload X 4 rfl dX3_renew_38 ?_
        refine kb_iload_n X 2 rfl dX3_renew_40 ?_
        refine kb_iload X 4 rfl dX3_renew_41 ?_
        refine kb_iload_n X 3 rfl dX3_renew_43 ?_
        refine kb_imul X dX3_renew_44 ?_
        refine kb_iadd X dX3_renew_45 ?_
        refine kb_iast X 7 (n := 16) rfl ⟨by omega, by omega⟩ (by decide) ⟨by omega, by omega⟩ dX3_renew_46 ?_
        refine kb_aload_n X 0 rfl dX3_renew_47 ?_
        refine kg_X3_deads X hi_X3_renew_X3 hf_X3_renew_15 dX3_renew_48 ?_
        refine kb_iload X 4 rfl dX3_renew_51 ?_
        refine kb_iconst X dX3_renew_53 ?_
        refine kb_zast X 8 (n := 16) rfl ⟨by omega, by omega⟩ (by decide) (by omega) dX3_renew_54 ?_
        refine kb_iinc (lv' := [(4, kb_i (a + 1)), (0, .ref (ad 1)), (1, kb_i n), (2, kb_i f), (3, kb_i p0)]) X 4 rfl dX3_renew_55 rfl (by decide) rfl ?_
        refine kb_goto (tgt := 25) X dX3_renew_58 (by decide) ?_
        refine kb_sub [1, 2, 3, 4, 0] (lv' := [(0, .ref (ad 1)), (1, kb_i n), (2, kb_i f), (3, kb_i p0), (4, kb_i (a + 1))]) rfl ?_
        refine kb_eqM (M' := sp_rn M n f p0 (a + 1)) ((sp_rn_S M n f p0 a hI.1).symm) ?_
        exact ih1 (a + 1) (by omega) (by first | omega | assumption | exact ⟨by omega, by omega⟩)
  refine kb_sub [1, 2, 3, 4, 0] (lv' := [(0, .ref (ad 1)), (1, kb_i n), (2, kb_i f), (3, kb_i p0), (4, kb_i 0)]) rfl ?_
  refine kb_eqM (M' := sp_rn M n f p0 0) ((sp_rn_0 M n f p0).symm) ?_
  exact L25 _ 0 (Nat.lt_succ_self _) (by first | omega | assumption | exact ⟨by omega, by omega⟩)
end
