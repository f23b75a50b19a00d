def f_J_max_II (x : Int32) (y : Int32) : Int32 := if x < y then y else x
set_option maxHeartbeats 4000000 in
set_option maxRecDepth 100000 in
theorem c_J_max_II (l : Launch) (D : va_G) (z : Nat → ClassId) (x : Int32) (y : Int32)  : Ctr l D z y_J_max_II b_J_max_II 2 (some .int) { frames := 0, cells := 0, slots := 0, locals := 0 } [.int x, .int y] [] (fun v w => v = some (.int (f_J_max_II x y)) ∧ w = []) 0 0 := by
  refine met_V (own := R_J) (nm := "max") (by decide +kernel) rfl rfl (Nat.le_of_ble_eq_true rfl) ?_
  intro κ hl hD hz X Y
  subst hl
  subst hD
  subst hz
  show V κ 2 0 0 0 [(0, .int x), (1, .int y)] [] []
  refine v_iload_n X 0 d_J_max_II_0 rfl ?_
  refine v_iload_n X 1 d_J_max_II_1 rfl ?_
  suffices hm2 : V κ 2 0 0 10 [(0, .int x), (1, .int y)] [.int (if x < y then y else x)] [] by
    refine v_icmp_lt X 9 d_J_max_II_2 (by decide) (fun c2 => ?_) (fun c2 => ?_)
    · skip
      refine v_iload_n X 1 d_J_max_II_9 rfl ?_
      have h9 := hm2; simp only [if_pos c2] at h9; first | exact h9 | (simp only [if_pos c2]; exact h9)
    · skip
      refine v_iload_n X 0 d_J_max_II_5 rfl ?_
      refine v_goto X 10 d_J_max_II_6 (by decide) ?_
      have h9 := hm2; simp only [if_neg c2] at h9; first | exact h9 | (simp only [if_neg c2]; exact h9)
  exact v_iret X Y (by decide) (by decide) d_J_max_II_10 ⟨rfl, rfl⟩

def f_J_max_JJ (x : Int64) (y : Int64) : Int64 := if x < y then y else x
set_option maxHeartbeats 4000000 in
set_option maxRecDepth 100000 in
theorem c_J_max_JJ (l : Launch) (D : va_G) (z : Nat → ClassId) (x : Int64) (y : Int64)  : Ctr l D z y_J_max_JJ b_J_max_JJ 4 (some .long) { frames := 0, cells := 0, slots := 0, locals := 0 } [.long x, .long y] [] (fun v w => v = some (.long (f_J_max_JJ x y)) ∧ w = []) 0 0 := by
  refine met_V (own := R_J) (nm := "max") (by decide +kernel) rfl rfl (Nat.le_of_ble_eq_true rfl) ?_
  intro κ hl hD hz X Y
  subst hl
  subst hD
  subst hz
  show V κ 4 0 0 0 [(0, .long x), (2, .long y)] [] []
  refine v_lload_n X 0 d_J_max_JJ_0 rfl ?_
  refine v_lload_n X 1 d_J_max_JJ_1 rfl ?_
  suffices hm2 : V κ 4 0 0 11 [(0, .long x), (2, .long y)] [.long (if x < y then y else x)] [] by
    refine v_lcmp_lt X 10 d_J_max_JJ_2 d_J_max_JJ_3 (by decide) (fun c2 => ?_) (fun c2 => ?_)
    · skip
      refine v_lload_n X 1 d_J_max_JJ_10 rfl ?_
      have h9 := hm2; simp only [if_pos c2] at h9; first | exact h9 | (simp only [if_pos c2]; exact h9)
    · skip
      refine v_lload_n X 0 d_J_max_JJ_6 rfl ?_
      refine v_goto X 11 d_J_max_JJ_7 (by decide) ?_
      have h9 := hm2; simp only [if_neg c2] at h9; first | exact h9 | (simp only [if_neg c2]; exact h9)
  exact v_lret X Y (by decide) (by decide) d_J_max_JJ_11 ⟨rfl, rfl⟩

def f_J_min_II (x : Int32) (y : Int32) : Int32 := if y < x then y else x
set_option maxHeartbeats 4000000 in
set_option maxRecDepth 100000 in
theorem c_J_min_II (l : Launch) (D : va_G) (z : Nat → ClassId) (x : Int32) (y : Int32)  : Ctr l D z y_J_min_II b_J_min_II 2 (some .int) { frames := 0, cells := 0, slots := 0, locals := 0 } [.int x, .int y] [] (fun v w => v = some (.int (f_J_min_II x y)) ∧ w = []) 0 0 := by
  refine met_V (own := R_J) (nm := "min") (by decide +kernel) rfl rfl (Nat.le_of_ble_eq_true rfl) ?_
  intro κ hl hD hz X Y
  subst hl
  subst hD
  subst hz
  show V κ 2 0 0 0 [(0, .int x), (1, .int y)] [] []
  refine v_iload_n X 0 d_J_min_II_0 rfl ?_
  refine v_iload_n X 1 d_J_min_II_1 rfl ?_
  suffices hm2 : V κ 2 0 0 10 [(0, .int x), (1, .int y)] [.int (if y < x then y else x)] [] by
    refine v_icmp_gt X 9 d_J_min_II_2 (by decide) (fun c2 => ?_) (fun c2 => ?_)
    · skip
      refine v_iload_n X 1 d_J_min_II_9 rfl ?_
      have h9 := hm2; simp only [if_pos c2] at h9; first | exact h9 | (simp only [if_pos c2]; exact h9)
    · skip
      refine v_iload_n X 0 d_J_min_II_5 rfl ?_
      refine v_goto X 10 d_J_min_II_6 (by decide) ?_
      have h9 := hm2; simp only [if_neg c2] at h9; first | exact h9 | (simp only [if_neg c2]; exact h9)
  exact v_iret X Y (by decide) (by decide) d_J_min_II_10 ⟨rfl, rfl⟩

def f_J_min_JJ (x : Int64) (y : Int64) : Int64 := if y < x then y else x
set_option maxHeartbeats 4000000 in
set_option maxRecDepth 100000 in
theorem c_J_min_JJ (l : Launch) (D : va_G) (z : Nat → ClassId) (x : Int64) (y : Int64)  : Ctr l D z y_J_min_JJ b_J_min_JJ 4 (some .long) { frames := 0, cells := 0, slots := 0, locals := 0 } [.long x, .long y] [] (fun v w => v = some (.long (f_J_min_JJ x y)) ∧ w = []) 0 0 := by
  refine met_V (own := R_J) (nm := "min") (by decide +kernel) rfl rfl (Nat.le_of_ble_eq_true rfl) ?_
  intro κ hl hD hz X Y
  subst hl
  subst hD
  subst hz
  show V κ 4 0 0 0 [(0, .long x), (2, .long y)] [] []
  refine v_lload_n X 0 d_J_min_JJ_0 rfl ?_
  refine v_lload_n X 1 d_J_min_JJ_1 rfl ?_
  suffices hm2 : V κ 4 0 0 11 [(0, .long x), (2, .long y)] [.long (if y < x then y else x)] [] by
    refine v_lcmp_gt X 10 d_J_min_JJ_2 d_J_min_JJ_3 (by decide) (fun c2 => ?_) (fun c2 => ?_)
    · skip
      refine v_lload_n X 1 d_J_min_JJ_10 rfl ?_
      have h9 := hm2; simp only [if_pos c2] at h9; first | exact h9 | (simp only [if_pos c2]; exact h9)
    · skip
      refine v_lload_n X 0 d_J_min_JJ_6 rfl ?_
      refine v_goto X 11 d_J_min_JJ_7 (by decide) ?_
      have h9 := hm2; simp only [if_neg c2] at h9; first | exact h9 | (simp only [if_neg c2]; exact h9)
  exact v_lret X Y (by decide) (by decide) d_J_min_JJ_11 ⟨rfl, rfl⟩

def f_J_abs (x : Int64) : Int64 := if 0 ≤ x then x else -x
set_option maxHeartbeats 4000000 in
set_option maxRecDepth 100000 in
theorem c_J_abs (l : Launch) (D : va_G) (z : Nat → ClassId) (x : Int64)  : Ctr l D z y_J_abs b_J_abs 2 (some .long) { frames := 0, cells := 0, slots := 0, locals := 0 } [.long x] [] (fun v w => v = some (.long (f_J_abs x)) ∧ w = []) 0 0 := by
  refine met_V (own := R_J) (nm := "abs") (by decide +kernel) rfl rfl (Nat.le_of_ble_eq_true rfl) ?_
  intro κ hl hD hz X Y
  subst hl
  subst hD
  subst hz
  show V κ 2 0 0 0 [(0, .long x)] [] []
  refine v_lload_n X 0 d_J_abs_0 rfl ?_
  refine v_lconst X 0 d_J_abs_1 (by decide) ?_
  suffices hm2 : V κ 2 0 0 12 [(0, .long x)] [.long (if 0 ≤ x then x else -x)] [] by
    refine v_lcmp_ge X 11 d_J_abs_2 d_J_abs_3 (by decide) (fun c2 => ?_) (fun c2 => ?_)
    · skip
      refine v_lload_n X 0 d_J_abs_11 rfl ?_
      have h9 := hm2; simp only [if_pos c2] at h9; first | exact h9 | (simp only [if_pos c2]; exact h9)
    · skip
      refine v_lload_n X 0 d_J_abs_6 rfl ?_
      refine v_lneg X d_J_abs_7 ?_
      refine v_goto X 12 d_J_abs_8 (by decide) ?_
      have h9 := hm2; simp only [if_neg c2] at h9; first | exact h9 | (simp only [if_neg c2]; exact h9)
  exact v_lret X Y (by decide) (by decide) d_J_abs_12 ⟨rfl, rfl⟩

def f_J_floorDiv (x : Int64) (y : Int64) : Int64 := if 0 ≤ (x ^^^ y) then x / y else if ((x / y) * y) = x then x / y else (x / y) - 1
set_option maxHeartbeats 4000000 in
set_option maxRecDepth 100000 in
theorem c_J_floorDiv (l : Launch) (D : va_G) (z : Nat → ClassId) (x : Int64) (y : Int64) (hy : ¬ y = 0) : Ctr l D z y_J_floorDiv b_J_floorDiv 6 (some .long) { frames := 0, cells := 0, slots := 0, locals := 0 } [.long x, .long y] [] (fun v w => v = some (.long (f_J_floorDiv x y)) ∧ w = []) 0 0 := by
  refine met_V (own := R_J) (nm := "floorDiv") (by decide +kernel) rfl rfl (Nat.le_of_ble_eq_true rfl) ?_
  intro κ hl hD hz X Y
  subst hl
  subst hD
  subst hz
  show V κ 6 0 0 0 [(0, .long x), (2, .long y)] [] []
  refine v_lload_n X 0 d_J_floorDiv_0 rfl ?_
  refine v_lload_n X 1 d_J_floorDiv_1 rfl ?_
  refine v_ldiv X d_J_floorDiv_2 hy ?_
  refine v_lstore X d_J_floorDiv_3 (by decide) (lv' := [(4, .long (x / y)), (0, .long x), (2, .long y)]) rfl ?_
  refine v_lload_n X 1 d_J_floorDiv_5 rfl ?_
  refine v_lload_n X 2 d_J_floorDiv_6 rfl ?_
  refine v_lxor X d_J_floorDiv_7 ?_
  refine v_lconst X 0 d_J_floorDiv_8 (by decide) ?_
  refine v_lcmp_ge X 27 d_J_floorDiv_9 d_J_floorDiv_10 (by decide) (fun c9 => ?_) (fun c9 => ?_)
  · skip
    refine v_lload X 0 d_J_floorDiv_27 rfl ?_
    exact v_lret X Y (by decide) (by decide) d_J_floorDiv_29 ⟨by simp only [f_J_floorDiv, if_pos c9] <;> rfl, rfl⟩
  · skip
    refine v_lload X 0 d_J_floorDiv_13 rfl ?_
    refine v_lload_n X 2 d_J_floorDiv_15 rfl ?_
    refine v_lmul X d_J_floorDiv_16 ?_
    refine v_lload_n X 1 d_J_floorDiv_17 rfl ?_
    refine v_lcmp_eq X 27 d_J_floorDiv_18 d_J_floorDiv_19 (by decide) (fun c18 => ?_) (fun c18 => ?_)
    · skip
      refine v_lload X 0 d_J_floorDiv_27 rfl ?_
      exact v_lret X Y (by decide) (by decide) d_J_floorDiv_29 ⟨by simp only [f_J_floorDiv, if_neg c9, if_pos c18] <;> rfl, rfl⟩
    · skip
      refine v_lload X 0 d_J_floorDiv_22 rfl ?_
      refine v_lconst X 1 d_J_floorDiv_24 (by decide) ?_
      refine v_lsub X d_J_floorDiv_25 ?_
      exact v_lret X Y (by decide) (by decide) d_J_floorDiv_26 ⟨by simp only [f_J_floorDiv, if_neg c9, if_neg c18] <;> rfl, rfl⟩

def f_J_min_IIN (p : Nat) (q : Nat) : Nat := if q < p then q else p
set_option maxHeartbeats 4000000 in
set_option maxRecDepth 100000 in
theorem c_J_min_IIN (l : Launch) (D : va_G) (z : Nat → ClassId) (p : Nat) (q : Nat) (hp9 : p < 2 ^ 31) (hq9 : q < 2 ^ 31) : Ctr l D z y_J_min_II b_J_min_II 2 (some .int) { frames := 0, cells := 0, slots := 0, locals := 0 } [.int (nI p), .int (nI q)] [] (fun v w => v = some (.int (nI (f_J_min_IIN p q))) ∧ w = []) 0 0 := by
  refine met_V (own := R_J) (nm := "min") (by decide +kernel) rfl rfl (Nat.le_of_ble_eq_true rfl) ?_
  intro κ hl hD hz X Y
  subst hl
  subst hD
  subst hz
  show V κ 2 0 0 0 [(0, .int (nI p)), (1, .int (nI q))] [] []
  refine v_iload_n X 0 d_J_min_II_0 rfl ?_
  refine v_iload_n X 1 d_J_min_II_1 rfl ?_
  suffices hm2 : V κ 2 0 0 10 [(0, .int (nI p)), (1, .int (nI q))] [.int (nI (if q < p then q else p))] [] by
    refine v_icmpN_gt X 9 (a := p) (b := q) d_J_min_II_2 (by decide) (by omega) (by omega) (fun c2 => ?_) (fun c2 => ?_)
    · skip
      refine v_iload_n X 1 d_J_min_II_9 rfl ?_
      have h9 := hm2; simp only [if_pos c2] at h9; first | exact h9 | (simp only [if_pos c2]; exact h9)
    · skip
      refine v_iload_n X 0 d_J_min_II_5 rfl ?_
      refine v_goto X 10 d_J_min_II_6 (by decide) ?_
      have h9 := hm2; simp only [if_neg c2] at h9; first | exact h9 | (simp only [if_neg c2]; exact h9)
  exact v_iret X Y (by decide) (by decide) d_J_min_II_10 ⟨rfl, rfl⟩
