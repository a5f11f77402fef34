/-! the start -/
def lz_ad (h6 : Nat) (u : Nat → Nat) (h7 : Nat) (v : Nat → Nat) : Nat → Nat := fun k => match k with
  | 0 => h6
  | 1 => u 0
  | 2 => u 5
  | 3 => u 11
  | 4 => u 14
  | 5 => u 18
  | 6 => u 20
  | 7 => u 1
  | 8 => u 2
  | 9 => u 3
  | 10 => u 4
  | 11 => u 6
  | 12 => u 7
  | 13 => u 8
  | 14 => u 9
  | 15 => u 10
  | 16 => u 12
  | 17 => u 13
  | 18 => u 15
  | 19 => u 16
  | 20 => u 17
  | 21 => u 19
  | 22 => h7
  | 23 => v 0
  | 24 => v 1
  | 25 => v 2
  | 26 => v 3
  | 27 => v 4
  | 28 => v 5
  | 29 => v 6
  | 30 => v 7
  | 31 => v 8
  | 32 => v 9
  | 33 => v 10
  | 34 => v 11
  | 35 => v 12
  | _ => v 13
def lz_M : kb_M := fun q => match q with
  | 0 => fun _ => 0
  | 1 => fun k => if k = 5 then 2 else if k = 6 then 2 else if k = 7 then 1 else if k = 8 then 1 else if k = 10 then 2 else 0
  | 2 => fun _ => 0
  | 3 => fun _ => 0
  | 4 => fun _ => 0
  | 5 => fun k => if k = 3 then 1 else 0
  | 6 => fun k => if k = 1 then 100000 else 0
  | 7 => fun j => if j = 1 then 10 else (fun j => if j = 0 then -10 else (fun _ => 0) j) j
  | 8 => fun j => if j = 1 then 0 else (fun j => if j = 0 then 0 else (fun _ => 0) j) j
  | 9 => fun _ => 0
  | 10 => fun _ => 0
  | 11 => fun _ => 0
  | 12 => fun _ => 0
  | 13 => fun _ => 0
  | 14 => fun _ => 0
  | 15 => fun _ => 0
  | 16 => fun _ => 0
  | 17 => fun _ => 0
  | 18 => fun _ => 0
  | 19 => fun _ => 0
  | 20 => fun _ => 0
  | 21 => fun _ => 0
  | 22 => fun k => if k = 0 then 2 else if k = 3 then 1 else if k = 4 then 1 else if k = 6 then 2 else if k = 7 then 100000 else 0
  | 23 => fun j => if j = 1 then 10 else (fun j => if j = 0 then -10 else (fun _ => 0) j) j
  | 24 => fun _ => 0
  | 25 => fun _ => 0
  | 26 => fun _ => 0
  | 27 => fun _ => 0
  | 28 => fun _ => 0
  | 29 => fun _ => 0
  | 30 => fun _ => 0
  | 31 => fun _ => 0
  | 32 => fun _ => 0
  | 33 => fun _ => 0
  | 34 => fun _ => 0
  | 35 => fun _ => 0
  | 36 => fun _ => 0
  | _ => fun _ => 0
def lz_g : Nat → Nat := fun k => match k with
  | 0 => 0
  | 1 => 1
  | 2 => 6
  | 3 => 12
  | 4 => 15
  | 5 => 19
  | 6 => 21
  | 7 => 2
  | 8 => 3
  | 9 => 4
  | 10 => 5
  | 11 => 7
  | 12 => 8
  | 13 => 9
  | 14 => 10
  | 15 => 11
  | 16 => 13
  | 17 => 14
  | 18 => 16
  | 19 => 17
  | 20 => 18
  | 21 => 20
  | 22 => 22
  | 23 => 23
  | 24 => 24
  | 25 => 25
  | 26 => 26
  | 27 => 27
  | 28 => 28
  | 29 => 29
  | 30 => 30
  | 31 => 31
  | 32 => 32
  | 33 => 33
  | 34 => 34
  | 35 => 35
  | _ => 36
theorem lz_e0 (cy : Nat → ClassId) (h6 : Nat) (u : Nat → Nat) (h7 : Nat) (v : Nat → Nat) : (kc_W_X6_init cy h6 u ++ kc_W_X7_init cy h7 v)[0]? = some (lz_ad h6 u h7 v 0, kb_en (lz_ad h6 u h7 v) cy (lz_M 0) (.inl (6, [some 1, some 2, some 3, some 4, some 5, some 6]))) := by
  show _ = some (_, Sum.inr (6, List.mapIdx (kb_fv (lz_ad h6 u h7 v) (lz_M 0)) [some 1, some 2, some 3, some 4, some 5, some 6]))
  simp only [List.mapIdx_cons, List.mapIdx_nil]
  rfl
theorem lz_e1 (cy : Nat → ClassId) (h6 : Nat) (u : Nat → Nat) (h7 : Nat) (v : Nat → Nat) : (kc_W_X6_init cy h6 u ++ kc_W_X7_init cy h7 v)[1]? = some (lz_ad h6 u h7 v 1, kb_en (lz_ad h6 u h7 v) cy (lz_M 1) (.inl (3, [some 7, some 8, some 9, some 10, none, none, none, none, none, none, none]))) := by
  show _ = some (_, Sum.inr (3, List.mapIdx (kb_fv (lz_ad h6 u h7 v) (lz_M 1)) [some 7, some 8, some 9, some 10, none, none, none, none, none, none, none]))
  simp only [List.mapIdx_cons, List.mapIdx_nil]
  rfl
theorem lz_e2 (cy : Nat → ClassId) (h6 : Nat) (u : Nat → Nat) (h7 : Nat) (v : Nat → Nat) : (kc_W_X6_init cy h6 u ++ kc_W_X7_init cy h7 v)[6]? = some (lz_ad h6 u h7 v 2, kb_en (lz_ad h6 u h7 v) cy (lz_M 2) (.inl (5, [some 11, some 12, some 13, some 14, some 15, none]))) := by
  show _ = some (_, Sum.inr (5, List.mapIdx (kb_fv (lz_ad h6 u h7 v) (lz_M 2)) [some 11, some 12, some 13, some 14, some 15, none]))
  simp only [List.mapIdx_cons, List.mapIdx_nil]
  rfl
theorem lz_e3 (cy : Nat → ClassId) (h6 : Nat) (u : Nat → Nat) (h7 : Nat) (v : Nat → Nat) : (kc_W_X6_init cy h6 u ++ kc_W_X7_init cy h7 v)[12]? = some (lz_ad h6 u h7 v 3, kb_en (lz_ad h6 u h7 v) cy (lz_M 3) (.inl (1, [some 16, some 17, none, none, none]))) := by
  show _ = some (_, Sum.inr (1, List.mapIdx (kb_fv (lz_ad h6 u h7 v) (lz_M 3)) [some 16, some 17, none, none, none]))
  simp only [List.mapIdx_cons, List.mapIdx_nil]
  rfl
theorem lz_e4 (cy : Nat → ClassId) (h6 : Nat) (u : Nat → Nat) (h7 : Nat) (v : Nat → Nat) : (kc_W_X6_init cy h6 u ++ kc_W_X7_init cy h7 v)[15]? = some (lz_ad h6 u h7 v 4, kb_en (lz_ad h6 u h7 v) cy (lz_M 4) (.inl (4, [some 18, some 19, some 20, none, none]))) := by
  show _ = some (_, Sum.inr (4, List.mapIdx (kb_fv (lz_ad h6 u h7 v) (lz_M 4)) [some 18, some 19, some 20, none, none]))
  simp only [List.mapIdx_cons, List.mapIdx_nil]
  rfl
theorem lz_e5 (cy : Nat → ClassId) (h6 : Nat) (u : Nat → Nat) (h7 : Nat) (v : Nat → Nat) : (kc_W_X6_init cy h6 u ++ kc_W_X7_init cy h7 v)[19]? = some (lz_ad h6 u h7 v 5, kb_en (lz_ad h6 u h7 v) cy (lz_M 5) (.inl (0, [some 21, none, none, none]))) := by
  show _ = some (_, Sum.inr (0, List.mapIdx (kb_fv (lz_ad h6 u h7 v) (lz_M 5)) [some 21, none, none, none]))
  simp only [List.mapIdx_cons, List.mapIdx_nil]
  rfl
theorem lz_e6 (cy : Nat → ClassId) (h6 : Nat) (u : Nat → Nat) (h7 : Nat) (v : Nat → Nat) : (kc_W_X6_init cy h6 u ++ kc_W_X7_init cy h7 v)[21]? = some (lz_ad h6 u h7 v 6, kb_en (lz_ad h6 u h7 v) cy (lz_M 6) (.inl (2, [none, none]))) := by
  show _ = some (_, Sum.inr (2, List.mapIdx (kb_fv (lz_ad h6 u h7 v) (lz_M 6)) [none, none]))
  simp only [List.mapIdx_cons, List.mapIdx_nil]
  rfl
theorem lz_e7 (cy : Nat → ClassId) (h6 : Nat) (u : Nat → Nat) (h7 : Nat) (v : Nat → Nat) : (kc_W_X6_init cy h6 u ++ kc_W_X7_init cy h7 v)[2]? = some (lz_ad h6 u h7 v 7, kb_en (lz_ad h6 u h7 v) cy (lz_M 7) (.inr (0, 16))) := rfl
theorem lz_e8 (cy : Nat → ClassId) (h6 : Nat) (u : Nat → Nat) (h7 : Nat) (v : Nat → Nat) : (kc_W_X6_init cy h6 u ++ kc_W_X7_init cy h7 v)[3]? = some (lz_ad h6 u h7 v 8, kb_en (lz_ad h6 u h7 v) cy (lz_M 8) (.inr (1, 16))) := rfl
theorem lz_e9 (cy : Nat → ClassId) (h6 : Nat) (u : Nat → Nat) (h7 : Nat) (v : Nat → Nat) : (kc_W_X6_init cy h6 u ++ kc_W_X7_init cy h7 v)[4]? = some (lz_ad h6 u h7 v 9, kb_en (lz_ad h6 u h7 v) cy (lz_M 9) (.inr (0, 16))) := rfl
theorem lz_e10 (cy : Nat → ClassId) (h6 : Nat) (u : Nat → Nat) (h7 : Nat) (v : Nat → Nat) : (kc_W_X6_init cy h6 u ++ kc_W_X7_init cy h7 v)[5]? = some (lz_ad h6 u h7 v 10, kb_en (lz_ad h6 u h7 v) cy (lz_M 10) (.inr (0, 16))) := rfl
theorem lz_e11 (cy : Nat → ClassId) (h6 : Nat) (u : Nat → Nat) (h7 : Nat) (v : Nat → Nat) : (kc_W_X6_init cy h6 u ++ kc_W_X7_init cy h7 v)[7]? = some (lz_ad h6 u h7 v 11, kb_en (lz_ad h6 u h7 v) cy (lz_M 11) (.inr (0, 8))) := rfl
theorem lz_e12 (cy : Nat → ClassId) (h6 : Nat) (u : Nat → Nat) (h7 : Nat) (v : Nat → Nat) : (kc_W_X6_init cy h6 u ++ kc_W_X7_init cy h7 v)[8]? = some (lz_ad h6 u h7 v 12, kb_en (lz_ad h6 u h7 v) cy (lz_M 12) (.inr (0, 8))) := rfl
theorem lz_e13 (cy : Nat → ClassId) (h6 : Nat) (u : Nat → Nat) (h7 : Nat) (v : Nat → Nat) : (kc_W_X6_init cy h6 u ++ kc_W_X7_init cy h7 v)[9]? = some (lz_ad h6 u h7 v 13, kb_en (lz_ad h6 u h7 v) cy (lz_M 13) (.inr (0, 8))) := rfl
theorem lz_e14 (cy : Nat → ClassId) (h6 : Nat) (u : Nat → Nat) (h7 : Nat) (v : Nat → Nat) : (kc_W_X6_init cy h6 u ++ kc_W_X7_init cy h7 v)[10]? = some (lz_ad h6 u h7 v 14, kb_en (lz_ad h6 u h7 v) cy (lz_M 14) (.inr (0, 8))) := rfl
theorem lz_e15 (cy : Nat → ClassId) (h6 : Nat) (u : Nat → Nat) (h7 : Nat) (v : Nat → Nat) : (kc_W_X6_init cy h6 u ++ kc_W_X7_init cy h7 v)[11]? = some (lz_ad h6 u h7 v 15, kb_en (lz_ad h6 u h7 v) cy (lz_M 15) (.inr (0, 8))) := rfl
theorem lz_e16 (cy : Nat → ClassId) (h6 : Nat) (u : Nat → Nat) (h7 : Nat) (v : Nat → Nat) : (kc_W_X6_init cy h6 u ++ kc_W_X7_init cy h7 v)[13]? = some (lz_ad h6 u h7 v 16, kb_en (lz_ad h6 u h7 v) cy (lz_M 16) (.inr (0, 38400))) := rfl
theorem lz_e17 (cy : Nat → ClassId) (h6 : Nat) (u : Nat → Nat) (h7 : Nat) (v : Nat → Nat) : (kc_W_X6_init cy h6 u ++ kc_W_X7_init cy h7 v)[14]? = some (lz_ad h6 u h7 v 17, kb_en (lz_ad h6 u h7 v) cy (lz_M 17) (.inr (0, 6))) := rfl
theorem lz_e18 (cy : Nat → ClassId) (h6 : Nat) (u : Nat → Nat) (h7 : Nat) (v : Nat → Nat) : (kc_W_X6_init cy h6 u ++ kc_W_X7_init cy h7 v)[16]? = some (lz_ad h6 u h7 v 18, kb_en (lz_ad h6 u h7 v) cy (lz_M 18) (.inr (0, 1024))) := rfl
theorem lz_e19 (cy : Nat → ClassId) (h6 : Nat) (u : Nat → Nat) (h7 : Nat) (v : Nat → Nat) : (kc_W_X6_init cy h6 u ++ kc_W_X7_init cy h7 v)[17]? = some (lz_ad h6 u h7 v 19, kb_en (lz_ad h6 u h7 v) cy (lz_M 19) (.inr (0, 4))) := rfl
theorem lz_e20 (cy : Nat → ClassId) (h6 : Nat) (u : Nat → Nat) (h7 : Nat) (v : Nat → Nat) : (kc_W_X6_init cy h6 u ++ kc_W_X7_init cy h7 v)[18]? = some (lz_ad h6 u h7 v 20, kb_en (lz_ad h6 u h7 v) cy (lz_M 20) (.inr (0, 4))) := rfl
theorem lz_e21 (cy : Nat → ClassId) (h6 : Nat) (u : Nat → Nat) (h7 : Nat) (v : Nat → Nat) : (kc_W_X6_init cy h6 u ++ kc_W_X7_init cy h7 v)[20]? = some (lz_ad h6 u h7 v 21, kb_en (lz_ad h6 u h7 v) cy (lz_M 21) (.inr (0, 144))) := rfl
theorem lz_e22 (cy : Nat → ClassId) (h6 : Nat) (u : Nat → Nat) (h7 : Nat) (v : Nat → Nat) : (kc_W_X6_init cy h6 u ++ kc_W_X7_init cy h7 v)[22]? = some (lz_ad h6 u h7 v 22, kb_en (lz_ad h6 u h7 v) cy (lz_M 22) (.inl (7, [none, some 23, some 24, none, none, none, none, none, none, none, none, some 25, some 26, some 27, some 28, some 29, none, some 30, some 31, none, some 32, some 33, some 34, some 35, none, none, none, some 36]))) := by
  show _ = some (_, Sum.inr (7, List.mapIdx (kb_fv (lz_ad h6 u h7 v) (lz_M 22)) [none, some 23, some 24, none, none, none, none, none, none, none, none, some 25, some 26, some 27, some 28, some 29, none, some 30, some 31, none, some 32, some 33, some 34, some 35, none, none, none, some 36]))
  simp only [List.mapIdx_cons, List.mapIdx_nil]
  rfl
theorem lz_e23 (cy : Nat → ClassId) (h6 : Nat) (u : Nat → Nat) (h7 : Nat) (v : Nat → Nat) : (kc_W_X6_init cy h6 u ++ kc_W_X7_init cy h7 v)[23]? = some (lz_ad h6 u h7 v 23, kb_en (lz_ad h6 u h7 v) cy (lz_M 23) (.inr (0, 16))) := rfl
theorem lz_e24 (cy : Nat → ClassId) (h6 : Nat) (u : Nat → Nat) (h7 : Nat) (v : Nat → Nat) : (kc_W_X6_init cy h6 u ++ kc_W_X7_init cy h7 v)[24]? = some (lz_ad h6 u h7 v 24, kb_en (lz_ad h6 u h7 v) cy (lz_M 24) (.inr (1, 16))) := rfl
theorem lz_e25 (cy : Nat → ClassId) (h6 : Nat) (u : Nat → Nat) (h7 : Nat) (v : Nat → Nat) : (kc_W_X6_init cy h6 u ++ kc_W_X7_init cy h7 v)[25]? = some (lz_ad h6 u h7 v 25, kb_en (lz_ad h6 u h7 v) cy (lz_M 25) (.inr (0, 8))) := rfl
theorem lz_e26 (cy : Nat → ClassId) (h6 : Nat) (u : Nat → Nat) (h7 : Nat) (v : Nat → Nat) : (kc_W_X6_init cy h6 u ++ kc_W_X7_init cy h7 v)[26]? = some (lz_ad h6 u h7 v 26, kb_en (lz_ad h6 u h7 v) cy (lz_M 26) (.inr (0, 8))) := rfl
theorem lz_e27 (cy : Nat → ClassId) (h6 : Nat) (u : Nat → Nat) (h7 : Nat) (v : Nat → Nat) : (kc_W_X6_init cy h6 u ++ kc_W_X7_init cy h7 v)[27]? = some (lz_ad h6 u h7 v 27, kb_en (lz_ad h6 u h7 v) cy (lz_M 27) (.inr (0, 8))) := rfl
theorem lz_e28 (cy : Nat → ClassId) (h6 : Nat) (u : Nat → Nat) (h7 : Nat) (v : Nat → Nat) : (kc_W_X6_init cy h6 u ++ kc_W_X7_init cy h7 v)[28]? = some (lz_ad h6 u h7 v 28, kb_en (lz_ad h6 u h7 v) cy (lz_M 28) (.inr (0, 8))) := rfl
theorem lz_e29 (cy : Nat → ClassId) (h6 : Nat) (u : Nat → Nat) (h7 : Nat) (v : Nat → Nat) : (kc_W_X6_init cy h6 u ++ kc_W_X7_init cy h7 v)[29]? = some (lz_ad h6 u h7 v 29, kb_en (lz_ad h6 u h7 v) cy (lz_M 29) (.inr (0, 8))) := rfl
theorem lz_e30 (cy : Nat → ClassId) (h6 : Nat) (u : Nat → Nat) (h7 : Nat) (v : Nat → Nat) : (kc_W_X6_init cy h6 u ++ kc_W_X7_init cy h7 v)[30]? = some (lz_ad h6 u h7 v 30, kb_en (lz_ad h6 u h7 v) cy (lz_M 30) (.inr (0, 6))) := rfl
theorem lz_e31 (cy : Nat → ClassId) (h6 : Nat) (u : Nat → Nat) (h7 : Nat) (v : Nat → Nat) : (kc_W_X6_init cy h6 u ++ kc_W_X7_init cy h7 v)[31]? = some (lz_ad h6 u h7 v 31, kb_en (lz_ad h6 u h7 v) cy (lz_M 31) (.inr (0, 38400))) := rfl
theorem lz_e32 (cy : Nat → ClassId) (h6 : Nat) (u : Nat → Nat) (h7 : Nat) (v : Nat → Nat) : (kc_W_X6_init cy h6 u ++ kc_W_X7_init cy h7 v)[32]? = some (lz_ad h6 u h7 v 32, kb_en (lz_ad h6 u h7 v) cy (lz_M 32) (.inr (0, 4))) := rfl
theorem lz_e33 (cy : Nat → ClassId) (h6 : Nat) (u : Nat → Nat) (h7 : Nat) (v : Nat → Nat) : (kc_W_X6_init cy h6 u ++ kc_W_X7_init cy h7 v)[33]? = some (lz_ad h6 u h7 v 33, kb_en (lz_ad h6 u h7 v) cy (lz_M 33) (.inr (0, 4))) := rfl
theorem lz_e34 (cy : Nat → ClassId) (h6 : Nat) (u : Nat → Nat) (h7 : Nat) (v : Nat → Nat) : (kc_W_X6_init cy h6 u ++ kc_W_X7_init cy h7 v)[34]? = some (lz_ad h6 u h7 v 34, kb_en (lz_ad h6 u h7 v) cy (lz_M 34) (.inr (0, 1024))) := rfl
theorem lz_e35 (cy : Nat → ClassId) (h6 : Nat) (u : Nat → Nat) (h7 : Nat) (v : Nat → Nat) : (kc_W_X6_init cy h6 u ++ kc_W_X7_init cy h7 v)[35]? = some (lz_ad h6 u h7 v 35, kb_en (lz_ad h6 u h7 v) cy (lz_M 35) (.inr (0, 256))) := rfl
theorem lz_e36 (cy : Nat → ClassId) (h6 : Nat) (u : Nat → Nat) (h7 : Nat) (v : Nat → Nat) : (kc_W_X6_init cy h6 u ++ kc_W_X7_init cy h7 v)[36]? = some (lz_ad h6 u h7 v 36, kb_en (lz_ad h6 u h7 v) cy (lz_M 36) (.inr (0, 144))) := rfl
theorem lz_at (cy : Nat → ClassId) (h6 : Nat) (u : Nat → Nat) (h7 : Nat) (v : Nat → Nat) (k : Nat) (q : Nat × va_E) (h : (kb_ws (lz_ad h6 u h7 v) cy lz_M)[k]? = some q) : (kc_W_X6_init cy h6 u ++ kc_W_X7_init cy h7 v)[lz_g k]? = some q := by
  have hk : k < kb_sh.length := by
    have h1 := (List.getElem?_eq_some_iff.mp h).1
    unfold kb_ws at h1
    rw [List.length_mapIdx] at h1
    exact h1
  have hk2 : k < 37 := hk
  rw [kb_wsat (List.getElem?_eq_getElem hk)] at h
  have h2 := Option.some.inj h
  subst h2
  clear h
  match k, hk2 with
  | 0, _ => exact lz_e0 cy h6 u h7 v
  | 1, _ => exact lz_e1 cy h6 u h7 v
  | 2, _ => exact lz_e2 cy h6 u h7 v
  | 3, _ => exact lz_e3 cy h6 u h7 v
  | 4, _ => exact lz_e4 cy h6 u h7 v
  | 5, _ => exact lz_e5 cy h6 u h7 v
  | 6, _ => exact lz_e6 cy h6 u h7 v
  | 7, _ => exact lz_e7 cy h6 u h7 v
  | 8, _ => exact lz_e8 cy h6 u h7 v
  | 9, _ => exact lz_e9 cy h6 u h7 v
  | 10, _ => exact lz_e10 cy h6 u h7 v
  | 11, _ => exact lz_e11 cy h6 u h7 v
  | 12, _ => exact lz_e12 cy h6 u h7 v
  | 13, _ => exact lz_e13 cy h6 u h7 v
  | 14, _ => exact lz_e14 cy h6 u h7 v
  | 15, _ => exact lz_e15 cy h6 u h7 v
  | 16, _ => exact lz_e16 cy h6 u h7 v
  | 17, _ => exact lz_e17 cy h6 u h7 v
  | 18, _ => exact lz_e18 cy h6 u h7 v
  | 19, _ => exact lz_e19 cy h6 u h7 v
  | 20, _ => exact lz_e20 cy h6 u h7 v
  | 21, _ => exact lz_e21 cy h6 u h7 v
  | 22, _ => exact lz_e22 cy h6 u h7 v
  | 23, _ => exact lz_e23 cy h6 u h7 v
  | 24, _ => exact lz_e24 cy h6 u h7 v
  | 25, _ => exact lz_e25 cy h6 u h7 v
  | 26, _ => exact lz_e26 cy h6 u h7 v
  | 27, _ => exact lz_e27 cy h6 u h7 v
  | 28, _ => exact lz_e28 cy h6 u h7 v
  | 29, _ => exact lz_e29 cy h6 u h7 v
  | 30, _ => exact lz_e30 cy h6 u h7 v
  | 31, _ => exact lz_e31 cy h6 u h7 v
  | 32, _ => exact lz_e32 cy h6 u h7 v
  | 33, _ => exact lz_e33 cy h6 u h7 v
  | 34, _ => exact lz_e34 cy h6 u h7 v
  | 35, _ => exact lz_e35 cy h6 u h7 v
  | 36, _ => exact lz_e36 cy h6 u h7 v
  | n + 37, h9 => exact absurd h9 (by omega)
theorem lz_P {D : va_G} {cy : Nat → ClassId} {h6 : Nat} {u : Nat → Nat} {h7 : Nat} {v : Nat → Nat} {H : Heap} (h : va_P D vwCl (kc_W_X6_init cy h6 u ++ kc_W_X7_init cy h7 v) H) : va_P D vwCl (kb_ws (lz_ad h6 u h7 v) cy lz_M) H := h.by lz_g (lz_at cy h6 u h7 v)
theorem lz_inj : ∀ a, a < 37 → ∀ b, b < 37 → lz_g a = lz_g b → a = b := by decide +kernel
theorem lz_D {A : Nat → Prop} {cy : Nat → ClassId} {h6 : Nat} {u : Nat → Nat} {h7 : Nat} {v : Nat → Nat} (h : va_D A (kc_W_X6_init cy h6 u ++ kc_W_X7_init cy h7 v)) : va_D A (kb_ws (lz_ad h6 u h7 v) cy lz_M) := by
  have hlt : ∀ k q, (kb_ws (lz_ad h6 u h7 v) cy lz_M)[k]? = some q → k < 37 := by
    intro k q hk
    have h1 := (List.getElem?_eq_some_iff.mp hk).1
    unfold kb_ws at h1
    rw [List.length_mapIdx] at h1
    exact h1
  exact ⟨fun i j p q hi hj he => lz_inj i (hlt i p hi) j (hlt j q hj) (h.1 _ _ p q (lz_at cy h6 u h7 v i p hi) (lz_at cy h6 u h7 v j q hj) he), fun k q hk => h.2 _ q (lz_at cy h6 u h7 v k q hk)⟩
theorem lz_ok : kb_ok lz_M := by
  intro q k
  unfold kb_rg lz_M
  split <;> (try dsimp only) <;> (repeat' split) <;> omega
theorem lz_R : sv_R 0 lz_M lz_M := by
  have z9 : lz_M 21 = fun _ => 0 := rfl
  refine ⟨⟨rfl, by decide, fun i a b => ?_, by decide, rfl, rfl, by decide, by decide, rfl, rfl, by decide⟩, ⟨rfl, by decide, fun k a b => absurd b (by show ¬ k < 0; omega)⟩, ⟨rfl, by decide, by decide, fun l a b => absurd b (by show ¬ l < 0; omega), fun l i s a b => absurd b (by show ¬ l < 0; omega), fun p => by show (-1600 : Int) ≤ 0 ∧ (0 : Int) ≤ 1600; decide, fun p => by show (-1600 : Int) ≤ 0 ∧ (0 : Int) ≤ 1600; decide⟩, ⟨rfl, by decide, by decide⟩, ⟨rfl, by decide, by decide, fun p a b => absurd b (by show ¬ p < 0; omega), fun p k a b => absurd b (by show ¬ p < 0; omega), fun t => ?_⟩, ⟨rfl, rfl, by decide, by decide, fun h => absurd rfl h, fun a k h1 h2 => absurd h2 (by show ¬ a < 0; omega), fun j => by show (-2000 : Int) ≤ 0 ∧ (0 : Int) ≤ 2000; decide, fun j => by show (-2000 : Int) ≤ 0 ∧ (0 : Int) ≤ 2000; decide⟩, ⟨rfl, rfl, by decide, by decide⟩⟩
  · have hi : i = 0 ∨ i = 1 := by
      have : i < 2 := b
      omega
    rcases hi with rfl | rfl <;> exact ⟨rfl, rfl, by decide, by decide⟩
  · unfold sp_rw sp_rh
    have e19 : lz_M 19 t = 0 := rfl
    have e20 : lz_M 20 t = 0 := rfl
    rw [e19, e20]
    split <;> omega
theorem fr_probe (M : kb_M) (n f p : Int) {q : Nat} (hq : 22 ≤ q) : sp_probeM M n f p q = M q := by
  have n0 : q ≠ 0 := by omega
  have n1 : q ≠ 1 := by omega
  have n2 : q ≠ 2 := by omega
  have n3 : q ≠ 3 := by omega
  have n4 : q ≠ 4 := by omega
  have n5 : q ≠ 5 := by omega
  have n6 : q ≠ 6 := by omega
  have n7 : q ≠ 7 := by omega
  have n8 : q ≠ 8 := by omega
  have n9 : q ≠ 9 := by omega
  have n10 : q ≠ 10 := by omega
  have n11 : q ≠ 11 := by omega
  have n12 : q ≠ 12 := by omega
  have n13 : q ≠ 13 := by omega
  have n14 : q ≠ 14 := by omega
  have n15 : q ≠ 15 := by omega
  have n16 : q ≠ 16 := by omega
  have n17 : q ≠ 17 := by omega
  have n18 : q ≠ 18 := by omega
  have n19 : q ≠ 19 := by omega
  have n20 : q ≠ 20 := by omega
  have n21 : q ≠ 21 := by omega
  unfold sp_probeM
  split
  · simp [kb_wr, sp_rn, n0, n1, n2, n3, n4, n5, n6, n7, n8, n9, n10, n11, n12, n13, n14, n15, n16, n17, n18, n19, n20, n21]
  · rfl
theorem fr_pace (M : kb_M) (n f : Int) {q : Nat} (hq : 22 ≤ q) : sp_paceM M n f q = M q := by
  have n0 : q ≠ 0 := by omega
  have n1 : q ≠ 1 := by omega
  have n2 : q ≠ 2 := by omega
  have n3 : q ≠ 3 := by omega
  have n4 : q ≠ 4 := by omega
  have n5 : q ≠ 5 := by omega
  have n6 : q ≠ 6 := by omega
  have n7 : q ≠ 7 := by omega
  have n8 : q ≠ 8 := by omega
  have n9 : q ≠ 9 := by omega
  have n10 : q ≠ 10 := by omega
  have n11 : q ≠ 11 := by omega
  have n12 : q ≠ 12 := by omega
  have n13 : q ≠ 13 := by omega
  have n14 : q ≠ 14 := by omega
  have n15 : q ≠ 15 := by omega
  have n16 : q ≠ 16 := by omega
  have n17 : q ≠ 17 := by omega
  have n18 : q ≠ 18 := by omega
  have n19 : q ≠ 19 := by omega
  have n20 : q ≠ 20 := by omega
  have n21 : q ≠ 21 := by omega
  unfold sp_paceM
  split
  · simp [kb_wr, n0, n1, n2, n3, n4, n5, n6, n7, n8, n9, n10, n11, n12, n13, n14, n15, n16, n17, n18, n19, n20, n21]
  · rfl
theorem fr_dead (M : kb_M) (n f : Int) {q : Nat} (hq : 22 ≤ q) : sp_deadM M n f q = M q := by
  have n0 : q ≠ 0 := by omega
  have n1 : q ≠ 1 := by omega
  have n2 : q ≠ 2 := by omega
  have n3 : q ≠ 3 := by omega
  have n4 : q ≠ 4 := by omega
  have n5 : q ≠ 5 := by omega
  have n6 : q ≠ 6 := by omega
  have n7 : q ≠ 7 := by omega
  have n8 : q ≠ 8 := by omega
  have n9 : q ≠ 9 := by omega
  have n10 : q ≠ 10 := by omega
  have n11 : q ≠ 11 := by omega
  have n12 : q ≠ 12 := by omega
  have n13 : q ≠ 13 := by omega
  have n14 : q ≠ 14 := by omega
  have n15 : q ≠ 15 := by omega
  have n16 : q ≠ 16 := by omega
  have n17 : q ≠ 17 := by omega
  have n18 : q ≠ 18 := by omega
  have n19 : q ≠ 19 := by omega
  have n20 : q ≠ 20 := by omega
  have n21 : q ≠ 21 := by omega
  unfold sp_deadM
  split
  · simp [kb_wr, n0, n1, n2, n3, n4, n5, n6, n7, n8, n9, n10, n11, n12, n13, n14, n15, n16, n17, n18, n19, n20, n21]
  · rfl
theorem fr_point (M : kb_M) (x z t dx dz : Int) {q : Nat} (hq : 22 ≤ q) : sp_pointM M x z t dx dz q = M q := by
  have n0 : q ≠ 0 := by omega
  have n1 : q ≠ 1 := by omega
  have n2 : q ≠ 2 := by omega
  have n3 : q ≠ 3 := by omega
  have n4 : q ≠ 4 := by omega
  have n5 : q ≠ 5 := by omega
  have n6 : q ≠ 6 := by omega
  have n7 : q ≠ 7 := by omega
  have n8 : q ≠ 8 := by omega
  have n9 : q ≠ 9 := by omega
  have n10 : q ≠ 10 := by omega
  have n11 : q ≠ 11 := by omega
  have n12 : q ≠ 12 := by omega
  have n13 : q ≠ 13 := by omega
  have n14 : q ≠ 14 := by omega
  have n15 : q ≠ 15 := by omega
  have n16 : q ≠ 16 := by omega
  have n17 : q ≠ 17 := by omega
  have n18 : q ≠ 18 := by omega
  have n19 : q ≠ 19 := by omega
  have n20 : q ≠ 20 := by omega
  have n21 : q ≠ 21 := by omega
  unfold sp_pointM
  split
  · simp [kb_wr, sp_putM, n0, n1, n2, n3, n4, n5, n6, n7, n8, n9, n10, n11, n12, n13, n14, n15, n16, n17, n18, n19, n20, n21]
  · rfl
theorem fr_window (M : kb_M) (n f : Int) {q : Nat} (hq : 22 ≤ q) : sp_windowM M n f q = M q := by
  have n0 : q ≠ 0 := by omega
  have n1 : q ≠ 1 := by omega
  have n2 : q ≠ 2 := by omega
  have n3 : q ≠ 3 := by omega
  have n4 : q ≠ 4 := by omega
  have n5 : q ≠ 5 := by omega
  have n6 : q ≠ 6 := by omega
  have n7 : q ≠ 7 := by omega
  have n8 : q ≠ 8 := by omega
  have n9 : q ≠ 9 := by omega
  have n10 : q ≠ 10 := by omega
  have n11 : q ≠ 11 := by omega
  have n12 : q ≠ 12 := by omega
  have n13 : q ≠ 13 := by omega
  have n14 : q ≠ 14 := by omega
  have n15 : q ≠ 15 := by omega
  have n16 : q ≠ 16 := by omega
  have n17 : q ≠ 17 := by omega
  have n18 : q ≠ 18 := by omega
  have n19 : q ≠ 19 := by omega
  have n20 : q ≠ 20 := by omega
  have n21 : q ≠ 21 := by omega
  unfold sp_windowM
  split
  · simp [kb_wr, n0, n1, n2, n3, n4, n5, n6, n7, n8, n9, n10, n11, n12, n13, n14, n15, n16, n17, n18, n19, n20, n21]
  · rfl
theorem fr_cap (M : kb_M) (n : Int) {q : Nat} (hq : 22 ≤ q) : sp_capM M n q = M q := by
  have n0 : q ≠ 0 := by omega
  have n1 : q ≠ 1 := by omega
  have n2 : q ≠ 2 := by omega
  have n3 : q ≠ 3 := by omega
  have n4 : q ≠ 4 := by omega
  have n5 : q ≠ 5 := by omega
  have n6 : q ≠ 6 := by omega
  have n7 : q ≠ 7 := by omega
  have n8 : q ≠ 8 := by omega
  have n9 : q ≠ 9 := by omega
  have n10 : q ≠ 10 := by omega
  have n11 : q ≠ 11 := by omega
  have n12 : q ≠ 12 := by omega
  have n13 : q ≠ 13 := by omega
  have n14 : q ≠ 14 := by omega
  have n15 : q ≠ 15 := by omega
  have n16 : q ≠ 16 := by omega
  have n17 : q ≠ 17 := by omega
  have n18 : q ≠ 18 := by omega
  have n19 : q ≠ 19 := by omega
  have n20 : q ≠ 20 := by omega
  have n21 : q ≠ 21 := by omega
  unfold sp_capM
  split
  · simp [kb_wr, n0, n1, n2, n3, n4, n5, n6, n7, n8, n9, n10, n11, n12, n13, n14, n15, n16, n17, n18, n19, n20, n21]
  · rfl
theorem fr_tick (M : kb_M) (n : Int) {q : Nat} (hq : 22 ≤ q) : sp_tickM M n q = M q := by
  have n0 : q ≠ 0 := by omega
  have n1 : q ≠ 1 := by omega
  have n2 : q ≠ 2 := by omega
  have n3 : q ≠ 3 := by omega
  have n4 : q ≠ 4 := by omega
  have n5 : q ≠ 5 := by omega
  have n6 : q ≠ 6 := by omega
  have n7 : q ≠ 7 := by omega
  have n8 : q ≠ 8 := by omega
  have n9 : q ≠ 9 := by omega
  have n10 : q ≠ 10 := by omega
  have n11 : q ≠ 11 := by omega
  have n12 : q ≠ 12 := by omega
  have n13 : q ≠ 13 := by omega
  have n14 : q ≠ 14 := by omega
  have n15 : q ≠ 15 := by omega
  have n16 : q ≠ 16 := by omega
  have n17 : q ≠ 17 := by omega
  have n18 : q ≠ 18 := by omega
  have n19 : q ≠ 19 := by omega
  have n20 : q ≠ 20 := by omega
  have n21 : q ≠ 21 := by omega
  unfold sp_tickM
  split
  · simp [kb_wr, sp_tkI, n0, n1, n2, n3, n4, n5, n6, n7, n8, n9, n10, n11, n12, n13, n14, n15, n16, n17, n18, n19, n20, n21]
  · rfl
theorem fr_sum (M : kb_M) (n x z : Int) {q : Nat} (hq : 22 ≤ q) : sp_sumM M n x z q = M q := by
  have n0 : q ≠ 0 := by omega
  have n1 : q ≠ 1 := by omega
  have n2 : q ≠ 2 := by omega
  have n3 : q ≠ 3 := by omega
  have n4 : q ≠ 4 := by omega
  have n5 : q ≠ 5 := by omega
  have n6 : q ≠ 6 := by omega
  have n7 : q ≠ 7 := by omega
  have n8 : q ≠ 8 := by omega
  have n9 : q ≠ 9 := by omega
  have n10 : q ≠ 10 := by omega
  have n11 : q ≠ 11 := by omega
  have n12 : q ≠ 12 := by omega
  have n13 : q ≠ 13 := by omega
  have n14 : q ≠ 14 := by omega
  have n15 : q ≠ 15 := by omega
  have n16 : q ≠ 16 := by omega
  have n17 : q ≠ 17 := by omega
  have n18 : q ≠ 18 := by omega
  have n19 : q ≠ 19 := by omega
  have n20 : q ≠ 20 := by omega
  have n21 : q ≠ 21 := by omega
  unfold sp_sumM
  split
  · simp [sp_aim, sp_aimI, n0, n1, n2, n3, n4, n5, n6, n7, n8, n9, n10, n11, n12, n13, n14, n15, n16, n17, n18, n19, n20, n21]
  · rfl
theorem fr_jm (M : kb_M) (x z : Int) {q : Nat} (hq : 22 ≤ q) : sp_jmM M x z q = M q := by
  have n0 : q ≠ 0 := by omega
  have n1 : q ≠ 1 := by omega
  have n2 : q ≠ 2 := by omega
  have n3 : q ≠ 3 := by omega
  have n4 : q ≠ 4 := by omega
  have n5 : q ≠ 5 := by omega
  have n6 : q ≠ 6 := by omega
  have n7 : q ≠ 7 := by omega
  have n8 : q ≠ 8 := by omega
  have n9 : q ≠ 9 := by omega
  have n10 : q ≠ 10 := by omega
  have n11 : q ≠ 11 := by omega
  have n12 : q ≠ 12 := by omega
  have n13 : q ≠ 13 := by omega
  have n14 : q ≠ 14 := by omega
  have n15 : q ≠ 15 := by omega
  have n16 : q ≠ 16 := by omega
  have n17 : q ≠ 17 := by omega
  have n18 : q ≠ 18 := by omega
  have n19 : q ≠ 19 := by omega
  have n20 : q ≠ 20 := by omega
  have n21 : q ≠ 21 := by omega
  unfold sp_jmM
  split
  · simp [sp_aim, sp_aimI, n0, n1, n2, n3, n4, n5, n6, n7, n8, n9, n10, n11, n12, n13, n14, n15, n16, n17, n18, n19, n20, n21]
  · rfl
theorem fr_turn (M : kb_M) (n m x z : Int) {q : Nat} (hq : 22 ≤ q) : sp_turnM M n m x z q = M q := by
  have n0 : q ≠ 0 := by omega
  have n1 : q ≠ 1 := by omega
  have n2 : q ≠ 2 := by omega
  have n3 : q ≠ 3 := by omega
  have n4 : q ≠ 4 := by omega
  have n5 : q ≠ 5 := by omega
  have n6 : q ≠ 6 := by omega
  have n7 : q ≠ 7 := by omega
  have n8 : q ≠ 8 := by omega
  have n9 : q ≠ 9 := by omega
  have n10 : q ≠ 10 := by omega
  have n11 : q ≠ 11 := by omega
  have n12 : q ≠ 12 := by omega
  have n13 : q ≠ 13 := by omega
  have n14 : q ≠ 14 := by omega
  have n15 : q ≠ 15 := by omega
  have n16 : q ≠ 16 := by omega
  have n17 : q ≠ 17 := by omega
  have n18 : q ≠ 18 := by omega
  have n19 : q ≠ 19 := by omega
  have n20 : q ≠ 20 := by omega
  have n21 : q ≠ 21 := by omega
  unfold sp_turnM
  split
  · simp [sp_aim, sp_aimI, n0, n1, n2, n3, n4, n5, n6, n7, n8, n9, n10, n11, n12, n13, n14, n15, n16, n17, n18, n19, n20, n21]
  · rfl
theorem fr_mean (M : kb_M) (n x z : Int) {q : Nat} (hq : 22 ≤ q) : sp_meanM M n x z q = M q := by
  have n0 : q ≠ 0 := by omega
  have n1 : q ≠ 1 := by omega
  have n2 : q ≠ 2 := by omega
  have n3 : q ≠ 3 := by omega
  have n4 : q ≠ 4 := by omega
  have n5 : q ≠ 5 := by omega
  have n6 : q ≠ 6 := by omega
  have n7 : q ≠ 7 := by omega
  have n8 : q ≠ 8 := by omega
  have n9 : q ≠ 9 := by omega
  have n10 : q ≠ 10 := by omega
  have n11 : q ≠ 11 := by omega
  have n12 : q ≠ 12 := by omega
  have n13 : q ≠ 13 := by omega
  have n14 : q ≠ 14 := by omega
  have n15 : q ≠ 15 := by omega
  have n16 : q ≠ 16 := by omega
  have n17 : q ≠ 17 := by omega
  have n18 : q ≠ 18 := by omega
  have n19 : q ≠ 19 := by omega
  have n20 : q ≠ 20 := by omega
  have n21 : q ≠ 21 := by omega
  unfold sp_meanM
  split
  · exact fr_jm M x z hq
  · rfl
theorem fr_look (M : kb_M) (t : Int) {q : Nat} (hq : 22 ≤ q) : sp_lookM M t q = M q := by
  have n0 : q ≠ 0 := by omega
  have n1 : q ≠ 1 := by omega
  have n2 : q ≠ 2 := by omega
  have n3 : q ≠ 3 := by omega
  have n4 : q ≠ 4 := by omega
  have n5 : q ≠ 5 := by omega
  have n6 : q ≠ 6 := by omega
  have n7 : q ≠ 7 := by omega
  have n8 : q ≠ 8 := by omega
  have n9 : q ≠ 9 := by omega
  have n10 : q ≠ 10 := by omega
  have n11 : q ≠ 11 := by omega
  have n12 : q ≠ 12 := by omega
  have n13 : q ≠ 13 := by omega
  have n14 : q ≠ 14 := by omega
  have n15 : q ≠ 15 := by omega
  have n16 : q ≠ 16 := by omega
  have n17 : q ≠ 17 := by omega
  have n18 : q ≠ 18 := by omega
  have n19 : q ≠ 19 := by omega
  have n20 : q ≠ 20 := by omega
  have n21 : q ≠ 21 := by omega
  unfold sp_lookM
  split
  · unfold sp_lookN
    have e : ∀ B : kb_M, sp_mv B q = B q := by
      intro B
      simp [sp_mv, sp_mvI, n0, n1, n2, n3, n4, n5, n6, n7, n8, n9, n10, n11, n12, n13, n14, n15, n16, n17, n18, n19, n20, n21]
    rw [e, sp_lk_q _ _ _ ⟨n1, n9, n10, n16⟩]
    simp [sp_bgn, sp_cl, sp_bg2, sp_bg1, kb_wr, n0, n1, n2, n3, n4, n5, n6, n7, n8, n9, n10, n11, n12, n13, n14, n15, n16, n17, n18, n19, n20, n21]
  · rfl
theorem fr_pic (M : kb_M) (b x z sx sz w h : Int) {q : Nat} (hq : 22 ≤ q) : sp_picM M b x z sx sz w h q = M q := by
  have n0 : q ≠ 0 := by omega
  have n1 : q ≠ 1 := by omega
  have n2 : q ≠ 2 := by omega
  have n3 : q ≠ 3 := by omega
  have n4 : q ≠ 4 := by omega
  have n5 : q ≠ 5 := by omega
  have n6 : q ≠ 6 := by omega
  have n7 : q ≠ 7 := by omega
  have n8 : q ≠ 8 := by omega
  have n9 : q ≠ 9 := by omega
  have n10 : q ≠ 10 := by omega
  have n11 : q ≠ 11 := by omega
  have n12 : q ≠ 12 := by omega
  have n13 : q ≠ 13 := by omega
  have n14 : q ≠ 14 := by omega
  have n15 : q ≠ 15 := by omega
  have n16 : q ≠ 16 := by omega
  have n17 : q ≠ 17 := by omega
  have n18 : q ≠ 18 := by omega
  have n19 : q ≠ 19 := by omega
  have n20 : q ≠ 20 := by omega
  have n21 : q ≠ 21 := by omega
  unfold sp_picM
  split
  · rw [sp_pc_q _ _ _ _ _ _ _ _ _ ⟨n1, n9, n10, n18⟩, sp_rbn_q _ _ _ ⟨n4, n19, n20⟩]
  · rfl
theorem fr_dif (M : kb_M) (p r : Int) {q : Nat} (hq : 22 ≤ q) : sp_difM M p r q = M q := by
  have n0 : q ≠ 0 := by omega
  have n1 : q ≠ 1 := by omega
  have n2 : q ≠ 2 := by omega
  have n3 : q ≠ 3 := by omega
  have n4 : q ≠ 4 := by omega
  have n5 : q ≠ 5 := by omega
  have n6 : q ≠ 6 := by omega
  have n7 : q ≠ 7 := by omega
  have n8 : q ≠ 8 := by omega
  have n9 : q ≠ 9 := by omega
  have n10 : q ≠ 10 := by omega
  have n11 : q ≠ 11 := by omega
  have n12 : q ≠ 12 := by omega
  have n13 : q ≠ 13 := by omega
  have n14 : q ≠ 14 := by omega
  have n15 : q ≠ 15 := by omega
  have n16 : q ≠ 16 := by omega
  have n17 : q ≠ 17 := by omega
  have n18 : q ≠ 18 := by omega
  have n19 : q ≠ 19 := by omega
  have n20 : q ≠ 20 := by omega
  have n21 : q ≠ 21 := by omega
  unfold sp_difM
  split
  · rw [sp_df_q _ _ _ _ _ n18, sp_rbn_q _ _ _ ⟨n4, n19, n20⟩]
  · rfl
theorem fr_fan (M : kb_M) (l n k r : Int) {q : Nat} (hq : 22 ≤ q) : sp_fanM M l n k r q = M q := by
  have n0 : q ≠ 0 := by omega
  have n1 : q ≠ 1 := by omega
  have n2 : q ≠ 2 := by omega
  have n3 : q ≠ 3 := by omega
  have n4 : q ≠ 4 := by omega
  have n5 : q ≠ 5 := by omega
  have n6 : q ≠ 6 := by omega
  have n7 : q ≠ 7 := by omega
  have n8 : q ≠ 8 := by omega
  have n9 : q ≠ 9 := by omega
  have n10 : q ≠ 10 := by omega
  have n11 : q ≠ 11 := by omega
  have n12 : q ≠ 12 := by omega
  have n13 : q ≠ 13 := by omega
  have n14 : q ≠ 14 := by omega
  have n15 : q ≠ 15 := by omega
  have n16 : q ≠ 16 := by omega
  have n17 : q ≠ 17 := by omega
  have n18 : q ≠ 18 := by omega
  have n19 : q ≠ 19 := by omega
  have n20 : q ≠ 20 := by omega
  have n21 : q ≠ 21 := by omega
  unfold sp_fanM
  split
  · rw [sp_fn_q _ _ _ _ _ ⟨n1, n9, n10, n21⟩]
    simp [sp_fb0, kb_wr, n0, n1, n2, n3, n4, n5, n6, n7, n8, n9, n10, n11, n12, n13, n14, n15, n16, n17, n18, n19, n20, n21]
  · rfl
theorem fs_probe (M : kb_M) (n f p : Int) {q : Nat} (hq : q < 22) : mo_probeN M n f p q = M q := by
  have n22 : q ≠ 22 := by omega
  have n23 : q ≠ 23 := by omega
  have n24 : q ≠ 24 := by omega
  have n25 : q ≠ 25 := by omega
  have n26 : q ≠ 26 := by omega
  have n27 : q ≠ 27 := by omega
  have n28 : q ≠ 28 := by omega
  have n29 : q ≠ 29 := by omega
  have n30 : q ≠ 30 := by omega
  have n31 : q ≠ 31 := by omega
  have n32 : q ≠ 32 := by omega
  have n33 : q ≠ 33 := by omega
  have n34 : q ≠ 34 := by omega
  have n35 : q ≠ 35 := by omega
  have n36 : q ≠ 36 := by omega
  unfold mo_probeN
  split
  · simp [mo_probeM, n22, n23, n24, n25, n26, n27, n28, n29, n30, n31, n32, n33, n34, n35, n36]
  · rfl
theorem fs_pace (M : kb_M) (n f : Int) {q : Nat} (hq : q < 22) : mo_paceM M n f q = M q := by
  have n22 : q ≠ 22 := by omega
  have n23 : q ≠ 23 := by omega
  have n24 : q ≠ 24 := by omega
  have n25 : q ≠ 25 := by omega
  have n26 : q ≠ 26 := by omega
  have n27 : q ≠ 27 := by omega
  have n28 : q ≠ 28 := by omega
  have n29 : q ≠ 29 := by omega
  have n30 : q ≠ 30 := by omega
  have n31 : q ≠ 31 := by omega
  have n32 : q ≠ 32 := by omega
  have n33 : q ≠ 33 := by omega
  have n34 : q ≠ 34 := by omega
  have n35 : q ≠ 35 := by omega
  have n36 : q ≠ 36 := by omega
  unfold mo_paceM
  split
  · simp [kb_wr, n22, n23, n24, n25, n26, n27, n28, n29, n30, n31, n32, n33, n34, n35, n36]
  · rfl
theorem fs_dead (M : kb_M) (n f : Int) {q : Nat} (hq : q < 22) : mo_deadM M n f q = M q := by
  have n22 : q ≠ 22 := by omega
  have n23 : q ≠ 23 := by omega
  have n24 : q ≠ 24 := by omega
  have n25 : q ≠ 25 := by omega
  have n26 : q ≠ 26 := by omega
  have n27 : q ≠ 27 := by omega
  have n28 : q ≠ 28 := by omega
  have n29 : q ≠ 29 := by omega
  have n30 : q ≠ 30 := by omega
  have n31 : q ≠ 31 := by omega
  have n32 : q ≠ 32 := by omega
  have n33 : q ≠ 33 := by omega
  have n34 : q ≠ 34 := by omega
  have n35 : q ≠ 35 := by omega
  have n36 : q ≠ 36 := by omega
  unfold mo_deadM
  split
  · simp [kb_wr, n22, n23, n24, n25, n26, n27, n28, n29, n30, n31, n32, n33, n34, n35, n36]
  · rfl
theorem fs_point (M : kb_M) (x z t dx dz : Int) {q : Nat} (hq : q < 22) : mo_pointM M x z t dx dz q = M q := by
  have n22 : q ≠ 22 := by omega
  have n23 : q ≠ 23 := by omega
  have n24 : q ≠ 24 := by omega
  have n25 : q ≠ 25 := by omega
  have n26 : q ≠ 26 := by omega
  have n27 : q ≠ 27 := by omega
  have n28 : q ≠ 28 := by omega
  have n29 : q ≠ 29 := by omega
  have n30 : q ≠ 30 := by omega
  have n31 : q ≠ 31 := by omega
  have n32 : q ≠ 32 := by omega
  have n33 : q ≠ 33 := by omega
  have n34 : q ≠ 34 := by omega
  have n35 : q ≠ 35 := by omega
  have n36 : q ≠ 36 := by omega
  unfold mo_pointM
  split
  · simp [kb_wr, mo_putM, n22, n23, n24, n25, n26, n27, n28, n29, n30, n31, n32, n33, n34, n35, n36]
  · rfl
theorem fs_window (M : kb_M) (n f : Int) {q : Nat} (hq : q < 22) : mo_windowM M n f q = M q := by
  have n22 : q ≠ 22 := by omega
  have n23 : q ≠ 23 := by omega
  have n24 : q ≠ 24 := by omega
  have n25 : q ≠ 25 := by omega
  have n26 : q ≠ 26 := by omega
  have n27 : q ≠ 27 := by omega
  have n28 : q ≠ 28 := by omega
  have n29 : q ≠ 29 := by omega
  have n30 : q ≠ 30 := by omega
  have n31 : q ≠ 31 := by omega
  have n32 : q ≠ 32 := by omega
  have n33 : q ≠ 33 := by omega
  have n34 : q ≠ 34 := by omega
  have n35 : q ≠ 35 := by omega
  have n36 : q ≠ 36 := by omega
  unfold mo_windowM
  split
  · simp [kb_wr, n22, n23, n24, n25, n26, n27, n28, n29, n30, n31, n32, n33, n34, n35, n36]
  · rfl
theorem fs_cap (M : kb_M) (n : Int) {q : Nat} (hq : q < 22) : mo_capM M n q = M q := by
  have n22 : q ≠ 22 := by omega
  have n23 : q ≠ 23 := by omega
  have n24 : q ≠ 24 := by omega
  have n25 : q ≠ 25 := by omega
  have n26 : q ≠ 26 := by omega
  have n27 : q ≠ 27 := by omega
  have n28 : q ≠ 28 := by omega
  have n29 : q ≠ 29 := by omega
  have n30 : q ≠ 30 := by omega
  have n31 : q ≠ 31 := by omega
  have n32 : q ≠ 32 := by omega
  have n33 : q ≠ 33 := by omega
  have n34 : q ≠ 34 := by omega
  have n35 : q ≠ 35 := by omega
  have n36 : q ≠ 36 := by omega
  unfold mo_capM
  split
  · simp [kb_wr, n22, n23, n24, n25, n26, n27, n28, n29, n30, n31, n32, n33, n34, n35, n36]
  · rfl
theorem fs_tick (M : kb_M) (n : Int) {q : Nat} (hq : q < 22) : mo_tickM M n q = M q := by
  have n22 : q ≠ 22 := by omega
  have n23 : q ≠ 23 := by omega
  have n24 : q ≠ 24 := by omega
  have n25 : q ≠ 25 := by omega
  have n26 : q ≠ 26 := by omega
  have n27 : q ≠ 27 := by omega
  have n28 : q ≠ 28 := by omega
  have n29 : q ≠ 29 := by omega
  have n30 : q ≠ 30 := by omega
  have n31 : q ≠ 31 := by omega
  have n32 : q ≠ 32 := by omega
  have n33 : q ≠ 33 := by omega
  have n34 : q ≠ 34 := by omega
  have n35 : q ≠ 35 := by omega
  have n36 : q ≠ 36 := by omega
  unfold mo_tickM
  split
  · simp [kb_wr, mo_tkI, n22, n23, n24, n25, n26, n27, n28, n29, n30, n31, n32, n33, n34, n35, n36]
  · rfl
theorem fs_look (M : kb_M) (t : Int) {q : Nat} (hq : q < 22) : mo_lookM M t q = M q := by
  have n22 : q ≠ 22 := by omega
  have n23 : q ≠ 23 := by omega
  have n24 : q ≠ 24 := by omega
  have n25 : q ≠ 25 := by omega
  have n26 : q ≠ 26 := by omega
  have n27 : q ≠ 27 := by omega
  have n28 : q ≠ 28 := by omega
  have n29 : q ≠ 29 := by omega
  have n30 : q ≠ 30 := by omega
  have n31 : q ≠ 31 := by omega
  have n32 : q ≠ 32 := by omega
  have n33 : q ≠ 33 := by omega
  have n34 : q ≠ 34 := by omega
  have n35 : q ≠ 35 := by omega
  have n36 : q ≠ 36 := by omega
  unfold mo_lookM
  split
  · exact mo_lkN_q M t ⟨n22, n25, n26, n30, n31⟩
  · rfl
theorem fs_pic (M : kb_M) (b x z sx sz w h : Int) {q : Nat} (hq : q < 22) : mo_picM M b x z sx sz w h q = M q := by
  have n22 : q ≠ 22 := by omega
  have n23 : q ≠ 23 := by omega
  have n24 : q ≠ 24 := by omega
  have n25 : q ≠ 25 := by omega
  have n26 : q ≠ 26 := by omega
  have n27 : q ≠ 27 := by omega
  have n28 : q ≠ 28 := by omega
  have n29 : q ≠ 29 := by omega
  have n30 : q ≠ 30 := by omega
  have n31 : q ≠ 31 := by omega
  have n32 : q ≠ 32 := by omega
  have n33 : q ≠ 33 := by omega
  have n34 : q ≠ 34 := by omega
  have n35 : q ≠ 35 := by omega
  have n36 : q ≠ 36 := by omega
  unfold mo_picM
  split
  · exact mo_pcB_q M b x z sx sz w h (mo_P M) _ ⟨n22, n32, n33, n34⟩
  · rfl
theorem fs_dif (M : kb_M) (p r : Int) {q : Nat} (hq : q < 22) : mo_difM M p r q = M q := by
  have n22 : q ≠ 22 := by omega
  have n23 : q ≠ 23 := by omega
  have n24 : q ≠ 24 := by omega
  have n25 : q ≠ 25 := by omega
  have n26 : q ≠ 26 := by omega
  have n27 : q ≠ 27 := by omega
  have n28 : q ≠ 28 := by omega
  have n29 : q ≠ 29 := by omega
  have n30 : q ≠ 30 := by omega
  have n31 : q ≠ 31 := by omega
  have n32 : q ≠ 32 := by omega
  have n33 : q ≠ 33 := by omega
  have n34 : q ≠ 34 := by omega
  have n35 : q ≠ 35 := by omega
  have n36 : q ≠ 36 := by omega
  unfold mo_difM
  split
  · have e1 : mo_cp (kb_wr (kb_wr (mo_nx (mo_D0 M p r)) 32 (mo_P M) (M 32 p)) 33 (mo_P M) (M 33 p)) (mo_P M) (M 32 p * M 33 p) q = kb_wr (kb_wr (mo_nx (mo_D0 M p r)) 32 (mo_P M) (M 32 p)) 33 (mo_P M) (M 33 p) q := by
      unfold mo_cp
      rw [if_neg n34]
    rw [e1, kb_wr_other _ _ _ n33, kb_wr_other _ _ _ n32, mo_nx_q _ ⟨n22, n32, n33, n34⟩]
    unfold mo_D0 mo_md
    rw [if_neg n35]
  · rfl
theorem fs_fan (M : kb_M) (l n k r : Int) {q : Nat} (hq : q < 22) : mo_fanM M l n k r q = M q := by
  have n22 : q ≠ 22 := by omega
  have n23 : q ≠ 23 := by omega
  have n24 : q ≠ 24 := by omega
  have n25 : q ≠ 25 := by omega
  have n26 : q ≠ 26 := by omega
  have n27 : q ≠ 27 := by omega
  have n28 : q ≠ 28 := by omega
  have n29 : q ≠ 29 := by omega
  have n30 : q ≠ 30 := by omega
  have n31 : q ≠ 31 := by omega
  have n32 : q ≠ 32 := by omega
  have n33 : q ≠ 33 := by omega
  have n34 : q ≠ 34 := by omega
  have n35 : q ≠ 35 := by omega
  have n36 : q ≠ 36 := by omega
  unfold mo_fanM
  split
  · exact mo_fnB_q M l n k r _ ⟨n22, n36⟩
  · rfl
