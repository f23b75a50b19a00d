/-! 20.arith: words as integers -/
theorem i64_fit {n : Int} (h1 : -9223372036854775808 ≤ n) (h2 : n < 9223372036854775808) : n.bmod (2 ^ 64) = n := by
  apply Int.bmod_eq_of_le
  · omega
  · omega
theorem i64_add {a b : Int64} (h1 : -9223372036854775808 ≤ a.toInt + b.toInt) (h2 : a.toInt + b.toInt < 9223372036854775808) : (a + b).toInt = a.toInt + b.toInt := by
  rw [Int64.toInt_add, i64_fit h1 h2]
theorem i64_sub {a b : Int64} (h1 : -9223372036854775808 ≤ a.toInt - b.toInt) (h2 : a.toInt - b.toInt < 9223372036854775808) : (a - b).toInt = a.toInt - b.toInt := by
  rw [Int64.toInt_sub, i64_fit h1 h2]
theorem i64_neg {a : Int64} (h1 : -9223372036854775808 ≤ -a.toInt) (h2 : -a.toInt < 9223372036854775808) : (-a).toInt = -a.toInt := by
  rw [Int64.toInt_neg, i64_fit h1 h2]
theorem i64_mul {a b : Int64} (h1 : -9223372036854775808 ≤ a.toInt * b.toInt) (h2 : a.toInt * b.toInt < 9223372036854775808) : (a * b).toInt = a.toInt * b.toInt := by
  rw [Int64.toInt_mul, i64_fit h1 h2]
theorem i64_div {a b : Int64} (h : 0 < b.toInt) : (a / b).toInt = a.toInt.tdiv b.toInt := by
  apply Int64.toInt_div_of_ne_right
  intro q
  rw [q] at h
  revert h
  decide
theorem i64_le {a b : Int64} : a ≤ b ↔ a.toInt ≤ b.toInt := Int64.le_iff_toInt_le
theorem i64_lt {a b : Int64} : a < b ↔ a.toInt < b.toInt := Int64.lt_iff_toInt_lt
theorem i64_eq {a b : Int64} : a = b ↔ a.toInt = b.toInt := Int64.toInt_inj.symm
theorem i64_0 : (0 : Int64).toInt = 0 := by decide
theorem i64_1 : (1 : Int64).toInt = 1 := by decide
theorem i64_2 : (2 : Int64).toInt = 2 := by decide
theorem i64_16 : (16 : Int64).toInt = 16 := by decide
theorem i64_m : (1000000 : Int64).toInt = 1000000 := by decide
theorem i64_xor {x y : Int64} : 0 ≤ x ^^^ y ↔ (x.toInt < 0 ↔ y.toInt < 0) := by
  rw [i64_le, i64_0]
  have h : (x ^^^ y).toBitVec.msb = (x.toBitVec.msb ^^ y.toBitVec.msb) := by
    rw [Int64.toBitVec_xor, BitVec.msb_xor]
  rw [BitVec.msb_eq_toInt, BitVec.msb_eq_toInt, BitVec.msb_eq_toInt] at h
  rw [Int64.toInt_toBitVec, Int64.toInt_toBitVec, Int64.toInt_toBitVec] at h
  by_cases c1 : x.toInt < 0 <;> by_cases c2 : y.toInt < 0 <;> simp [c1, c2] at h ⊢ <;> omega
/-- the two ways to divide downwards -/
theorem fd_down (x y : Int64) (hy : 0 < y.toInt) : f_J_floorDiv x y = f_T_down x y := by
  have hx1 := Int64.le_toInt x
  have hx2 := Int64.toInt_lt x
  have hq := i64_div (a := x) hy
  have hm : (x / y * y).toInt = x.toInt.tdiv y.toInt * y.toInt := by
    have e : x.toInt.tdiv y.toInt * y.toInt + x.toInt.tmod y.toInt = x.toInt := Int.tdiv_mul_add_tmod x.toInt y.toInt
    have b1 : x.toInt.tmod y.toInt < y.toInt := Int.tmod_lt_of_pos _ hy
    have s1 : 0 ≤ x.toInt → 0 ≤ x.toInt.tmod y.toInt := fun h => Int.tmod_nonneg _ h
    have s2 : x.toInt ≤ 0 → x.toInt.tmod y.toInt ≤ 0 := fun h => by
      have := Int.tmod_nonneg (a := -x.toInt) y.toInt (by omega)
      rw [Int.neg_tmod] at this
      omega
    have s3 : 0 ≤ x.toInt → 0 ≤ x.toInt.tdiv y.toInt * y.toInt := fun h => Int.mul_nonneg (Int.tdiv_nonneg h (by omega)) (by omega)
    have s4 : x.toInt ≤ 0 → x.toInt.tdiv y.toInt * y.toInt ≤ 0 := fun h => by
      have h1 : 0 ≤ (-x.toInt).tdiv y.toInt := Int.tdiv_nonneg (by omega) (by omega)
      rw [Int.neg_tdiv] at h1
      have h2 := Int.mul_nonneg h1 (show 0 ≤ y.toInt by omega)
      rw [Int.neg_mul] at h2
      omega
    rw [i64_mul, hq]
    · rw [hq]
      by_cases c : 0 ≤ x.toInt
      · have := s3 c; omega
      · have := s2 (by omega); omega
    · rw [hq]
      by_cases c : 0 ≤ x.toInt
      · have := s1 c; omega
      · have := s4 (by omega); omega
  have e : x.toInt.tdiv y.toInt * y.toInt + x.toInt.tmod y.toInt = x.toInt := Int.tdiv_mul_add_tmod x.toInt y.toInt
  unfold f_J_floorDiv f_T_down
  by_cases c : 0 ≤ x.toInt
  · have s1 : 0 ≤ x.toInt.tmod y.toInt := Int.tmod_nonneg _ c
    rw [if_pos (i64_xor.mpr (by omega)), if_pos (i64_le.mpr (by rw [hm]; omega))]
  · have s2 : x.toInt.tmod y.toInt ≤ 0 := by
      have := Int.tmod_nonneg (a := -x.toInt) y.toInt (by omega)
      rw [Int.neg_tmod] at this
      omega
    rw [if_neg (fun q => by have := i64_xor.mp q; omega)]
    by_cases c2 : x / y * y = x
    · rw [if_pos c2, if_pos (by rw [c2]; exact Int64.le_refl _)]
    · rw [if_neg c2, if_neg]
      intro q
      apply c2
      rw [i64_eq, hm]
      have := i64_le.mp q
      rw [hm] at this
      omega
theorem grow_eq (t : Int64) (dr : Int32) (h1 : 0 ≤ t.toInt) (h2 : t.toInt ≤ 1000000000000) (h3 : 0 ≤ dr.toInt) (h4 : dr.toInt ≤ 1000) : f_M_growth t dr = f_T_growth dr t := by
  have p0 : 0 ≤ t.toInt * dr.toInt := Int.mul_nonneg h1 h3
  have p1 : t.toInt * dr.toInt ≤ 1000000000000 * 1000 := Int.mul_le_mul h2 h4 h3 (by omega)
  have e1 : (t * dr.toInt64).toInt = t.toInt * dr.toInt := by
    rw [i64_mul, Int32.toInt_toInt64] <;> rw [Int32.toInt_toInt64] <;> omega
  generalize hE : t.toInt * dr.toInt = E at *
  have e2 : (t * dr.toInt64 + 1000000).toInt = E + 1000000 := by rw [i64_add, e1, i64_m] <;> rw [e1, i64_m] <;> omega
  have e3 : (t * dr.toInt64 + 1000000 - 1).toInt = E + 999999 := by rw [i64_sub, e2, i64_1] <;> (try rw [e2, i64_1]) <;> omega
  have hm : 0 < (1000000 : Int64).toInt := by decide
  have q1 : (t * dr.toInt64 / 1000000).toInt = E / 1000000 := by
    rw [i64_div hm, e1, i64_m, Int.tdiv_eq_ediv_of_nonneg p0]
  have q2 : ((t * dr.toInt64 + 1000000 - 1) / 1000000).toInt = (E + 999999) / 1000000 := by
    rw [i64_div hm, e3, i64_m, Int.tdiv_eq_ediv_of_nonneg (by omega)]
  have q3 : (t * dr.toInt64 / 1000000 * 1000000).toInt = E / 1000000 * 1000000 := by
    rw [i64_mul, q1, i64_m] <;> rw [q1, i64_m] <;> omega
  unfold f_M_growth f_J_floorDiv f_T_growth
  rw [if_pos (i64_xor.mpr (by rw [e3, i64_m]; omega))]
  by_cases c : E ≤ E / 1000000 * 1000000
  · rw [if_pos (i64_le.mpr (by rw [e1, q3]; exact c)), i64_eq, q1, q2]
    omega
  · rw [if_neg (fun q => c (by have := i64_le.mp q; rw [e1, q3] at this; exact this)), i64_eq, q2, i64_add, q1, i64_1] <;> (try rw [q1, i64_1]) <;> omega
/-- a distance, from either side -/
theorem abs_sym (a b : Int64) : f_J_abs (a - b) = if 0 ≤ b - a then b - a else -(b - a) := by
  have e : a - b = -(b - a) := (Int64.neg_sub).symm
  rw [e]
  generalize b - a = d
  unfold f_J_abs
  have h1 := Int64.le_toInt d
  have h2 := Int64.toInt_lt d
  by_cases c0 : d.toInt = -9223372036854775808
  · have ed : d = -9223372036854775808 := by rw [i64_eq, c0]; decide
    rw [ed]
    decide
  · have en : (-d).toInt = -d.toInt := i64_neg (by omega) (by omega)
    by_cases c1 : 0 ≤ d
    · have c1' := i64_le.mp c1
      rw [i64_0] at c1'
      rw [if_pos c1]
      by_cases c2 : 0 ≤ -d
      · have c2' := i64_le.mp c2
        rw [i64_0, en] at c2'
        rw [if_pos c2, i64_eq, en]
        omega
      · rw [if_neg c2, Int64.neg_neg]
    · rw [if_neg c1]
      have c1' : ¬ (0 : Int64).toInt ≤ d.toInt := fun q => c1 (i64_le.mpr q)
      rw [i64_0] at c1'
      have c2 : 0 ≤ -d := i64_le.mpr (by rw [i64_0, en]; omega)
      rw [if_pos c2]
