/-! 24.close: bounds; the closest; the target -/
def Bd (x : Int64) : Prop := -4398046511104 ≤ x.toInt ∧ x.toInt ≤ 4398046511104
theorem down2 {x : Int64} (h1 : -4611686018427387904 ≤ x.toInt) (h2 : x.toInt ≤ 4611686018427387904) : (f_T_down x 2).toInt = x.toInt / 2 := by
  have hq : (x / 2).toInt = x.toInt.tdiv 2 := by rw [i64_div (by decide), i64_2]
  have ht : x.toInt.tdiv 2 = if 0 ≤ x.toInt then x.toInt / 2 else -((-x.toInt) / 2) := by
    by_cases c : 0 ≤ x.toInt
    · rw [if_pos c, Int.tdiv_eq_ediv_of_nonneg c]
    · rw [if_neg c]
      have := Int.neg_tdiv (a := -x.toInt) (b := 2)
      rw [Int.neg_neg] at this
      rw [this, Int.tdiv_eq_ediv_of_nonneg (by omega)]
  have hm : (x / 2 * 2).toInt = x.toInt.tdiv 2 * 2 := by
    rw [i64_mul, hq, i64_2] <;> rw [hq, i64_2, ht] <;> split <;> omega
  unfold f_T_down
  by_cases c : x / 2 * 2 ≤ x
  · rw [if_pos c, hq]
    have c' := i64_le.mp c
    rw [hm] at c'
    rw [ht] at c' ⊢
    split at c' <;> rename_i c0
    · rw [if_pos c0]
    · rw [if_neg c0]; omega
  · rw [if_neg c]
    have c' : ¬ x.toInt.tdiv 2 * 2 ≤ x.toInt := fun q => c (i64_le.mpr (by rw [hm]; exact q))
    rw [i64_sub, hq, i64_1]
    · rw [ht] at c' ⊢
      split at c' <;> rename_i c0
      · omega
      · rw [if_neg c0]; omega
    · rw [hq, i64_1, ht]; split <;> omega
    · rw [hq, i64_1, ht]; split <;> omega
theorem mid_bd {a b : Int64} (ha : Bd a) (hb : Bd b) : Bd (f_T_down (a + b) 2) := by
  unfold Bd at *
  have e : (a + b).toInt = a.toInt + b.toInt := i64_add (by omega) (by omega)
  rw [down2 (by omega) (by omega), e]
  omega
theorem fa_bd {g : Nat → Bool} {F Y : Nat → Int64} {n i : Nat} (hn : n ≤ 6) (hB : ∀ i, i < n → g i = true → Bd (F i) ∧ Bd (Y i)) (hi : i < n) (gi : g i = true) : ∀ m, m ≤ n → 0 ≤ (faS F Y g i m).toInt ∧ (faS F Y g i m).toInt ≤ m * 8796093022208
  | 0, _ => by
    have e : (faS F Y g i 0).toInt = 0 := i64_0
    rw [e]
    exact ⟨Int.le_refl _, by omega⟩
  | m + 1, hm => by
    have ih := fa_bd hn hB hi gi m (by omega)
    simp only [faS]
    by_cases c : g m = true
    · rw [if_pos c]
      obtain ⟨a1, a2⟩ := hB i hi gi
      obtain ⟨b1, b2⟩ := hB m (by omega) c
      have p := mid_bd a1 a2
      have q := mid_bd b1 b2
      unfold Bd at p q
      generalize f_T_down (F i + Y i) 2 = x at *
      generalize f_T_down (F m + Y m) 2 = y at *
      have e : (y - x).toInt = y.toInt - x.toInt := i64_sub (by omega) (by omega)
      have d : 0 ≤ (if 0 ≤ y - x then y - x else -(y - x)).toInt ∧ (if 0 ≤ y - x then y - x else -(y - x)).toInt ≤ 8796093022208 := by
        by_cases c0 : 0 ≤ y - x
        · have := i64_le.mp c0
          rw [i64_0, e] at this
          rw [if_pos c0, e]
          omega
        · have : ¬ 0 ≤ y.toInt - x.toInt := fun q => c0 (i64_le.mpr (by rw [i64_0, e]; exact q))
          rw [if_neg c0, i64_neg (by omega) (by omega), e]
          omega
      rw [i64_add]
      · omega
      · omega
      · omega
    · rw [if_neg c]
      omega
theorem close_spec {g : Nat → Bool} {F Y : Nat → Int64} {n : Nat} {nu : Nat → Nat} {lo hi : Nat → Int64} (hn : n ≤ 6) (h : En g F Y n nu lo hi) (hB : ∀ i, i < n → g i = true → Bd (F i) ∧ Bd (Y i)) : ∀ j, j ≤ lfS g n - 3 →
    lfS (lvS n F Y g j) n = lfS g n - j ∧ (∀ i, lvS n F Y g j i = true → g i = true) ∧ En (lvS n F Y g j) F Y n (clS (lfS g n) nu lo hi j).1 (clS (lfS g n) nu lo hi j).2.1 (clS (lfS g n) nu lo hi j).2.2
  | 0, _ => ⟨rfl, fun _ q => q, h⟩
  | j + 1, hj => by
    obtain ⟨h1, h2, h3⟩ := close_spec hn h hB j (by omega)
    have hB' : ∀ i, i < n → lvS n F Y g j i = true → Bd (F i) ∧ Bd (Y i) := fun i hi q => hB i hi (h2 i q)
    obtain ⟨l1, l2, l3⟩ := leave_En hn h3 (fun i hi gi => (fa_bd hn hB' hi gi n (Nat.le_refl n)).1) (by omega)
    simp only [lvS, clS]
    rw [h1] at l1 l3
    exact ⟨by omega, fun i q => h2 i (l2 i q), l3⟩
theorem close_fin {g : Nat → Bool} {F Y : Nat → Int64} {n : Nat} {nu : Nat → Nat} {lo hi : Nat → Int64} (hn : n ≤ 6) (h : En g F Y n nu lo hi) (hB : ∀ i, i < n → g i = true → Bd (F i) ∧ Bd (Y i)) : fst9 (fun j => decide (lfS (lvS n F Y g j) n ≤ 3)) 6 0 = lfS g n - 3 := by
  have h6 := lfS_le g n
  refine fst9_is _ 6 0 (lfS g n - 3) (by omega) (by omega) (fun i a b => ?_) ?_
  · obtain ⟨h1, -, -⟩ := close_spec hn h hB i (by omega)
    rw [h1]
    simp
    omega
  · obtain ⟨h1, -, -⟩ := close_spec hn h hB (lfS g n - 3) (Nat.le_refl _)
    rw [h1]
    simp
    omega
theorem tgt_eq {sum tl tg : Int64} {c : Nat} (hc : ¬ c = 0) (hc6 : c ≤ 6) (hlg : tl ≤ tg) : f_J_max_JJ tl (f_J_min_JJ tg (if c = 0 then 0 else f_J_floorDiv sum ((nI c).toInt64))) = (if tl ≤ f_T_down sum ((nI c).toInt64) then if f_T_down sum ((nI c).toInt64) ≤ tg then f_T_down sum ((nI c).toInt64) else tg else tl) := by
  have hp : 0 < ((nI c).toInt64).toInt := by rw [Int32.toInt_toInt64, nI_toInt (by omega)]; omega
  rw [if_neg hc, fd_down _ _ hp]
  generalize f_T_down sum ((nI c).toInt64) = t
  unfold f_J_max_JJ f_J_min_JJ
  by_cases c1 : tl ≤ t
  · rw [if_pos c1]
    by_cases c2 : t ≤ tg
    · rw [if_pos c2]
      by_cases c3 : t < tg
      · rw [if_pos c3]
        by_cases c4 : tl < t
        · rw [if_pos c4]
        · rw [if_neg c4]; exact l_anti c1 (Int64.not_lt.mp c4)
      · have e : tg = t := l_anti (Int64.not_lt.mp c3) c2
        rw [if_neg c3, e]
        by_cases c4 : tl < t
        · rw [if_pos c4]
        · rw [if_neg c4]; exact l_anti c1 (Int64.not_lt.mp c4)
    · have c3 : ¬ t < tg := fun q => c2 (l_lt_le q)
      rw [if_neg c2, if_neg c3]
      by_cases c4 : tl < tg
      · rw [if_pos c4]
      · rw [if_neg c4]; exact l_anti hlg (Int64.not_lt.mp c4)
  · have c3 : t < tg := by
      have := Int64.not_le.mp c1
      rw [i64_lt] at *
      rw [i64_le] at hlg
      omega
    rw [if_neg c1, if_pos c3, if_neg (fun q => c1 (l_lt_le q))]
theorem max_eq (a b : Int64) : f_J_max_JJ a b = if a ≤ b then b else a := by
  unfold f_J_max_JJ
  by_cases c : a < b
  · rw [if_pos c, if_pos (l_lt_le c)]
  · rw [if_neg c]
    by_cases d : a ≤ b
    · rw [if_pos d]; exact l_anti d (Int64.not_lt.mp c)
    · rw [if_neg d]
/-- the correction, in both ways -/
theorem corr_eq {sin sta tg nw : Int64} (h1 : 0 ≤ sin.toInt) (h2 : sin.toInt ≤ nw.toInt) (h3 : nw.toInt ≤ 1000000000000) (b1 : Bd sta) (b2 : Bd tg) : f_Sd_correctionAt sin sta tg nw = f_T_offset nw tg sin sta ∧ Bd (f_Sd_correctionAt sin sta tg nw) := by
  unfold Bd at *
  have e1 : (nw - sin).toInt = nw.toInt - sin.toInt := i64_sub (by omega) (by omega)
  have es : f_J_floorDiv (nw - sin) 16 = (nw - sin) / 16 := by
    unfold f_J_floorDiv
    rw [if_pos (i64_xor.mpr (by rw [e1, i64_16]; omega))]
  have e2 : ((nw - sin) / 16).toInt = (nw.toInt - sin.toInt) / 16 := by
    rw [i64_div (by decide), e1, i64_16, Int.tdiv_eq_ediv_of_nonneg (by omega)]
  have e3 : (tg - sta).toInt = tg.toInt - sta.toInt := i64_sub (by omega) (by omega)
  have e4 : (-(tg - sta)).toInt = -(tg.toInt - sta.toInt) := by rw [i64_neg (by omega) (by omega), e3]
  unfold f_Sd_correctionAt f_T_offset f_J_abs
  rw [es]
  generalize (nw - sin) / 16 = s at *
  have a1 : (sta - s).toInt = sta.toInt - s.toInt := i64_sub (by omega) (by omega)
  have a2 : (sta + s).toInt = sta.toInt + s.toInt := i64_add (by omega) (by omega)
  have le : tg - sta ≤ 0 ↔ tg ≤ sta := by rw [i64_le, i64_le, e3, i64_0]; omega
  by_cases c0 : 0 ≤ tg - sta
  · have c0' := i64_le.mp c0
    rw [i64_0, e3] at c0'
    rw [if_pos c0]
    by_cases c1 : s < tg - sta
    · have c1' := i64_lt.mp c1
      rw [e3] at c1'
      rw [if_pos c1, if_pos c1]
      by_cases c2 : tg ≤ sta
      · rw [if_pos c2, if_pos (le.mpr c2)]
        have := i64_le.mp c2
        exact ⟨rfl, by rw [a1]; omega⟩
      · rw [if_neg c2, if_neg (fun q => c2 (le.mp q))]
        exact ⟨rfl, by rw [a2]; omega⟩
    · have c1' : ¬ s.toInt < tg.toInt - sta.toInt := fun q => c1 (i64_lt.mpr (by rw [e3]; exact q))
      rw [if_neg c1, if_neg c1, if_neg (fun q => by have := i64_lt.mp q; rw [e4] at this; omega)]
      exact ⟨rfl, b2⟩
  · have c0' : ¬ 0 ≤ tg.toInt - sta.toInt := fun q => c0 (i64_le.mpr (by rw [i64_0, e3]; exact q))
    rw [if_neg c0]
    have n1 : ¬ s < tg - sta := fun q => by have := i64_lt.mp q; rw [e3] at this; omega
    rw [if_neg n1]
    by_cases c1 : s < -(tg - sta)
    · have c1' := i64_lt.mp c1
      rw [e4] at c1'
      rw [if_pos c1, if_pos c1]
      have c2 : tg ≤ sta := i64_le.mpr (by omega)
      rw [if_pos c2, if_pos (le.mpr c2)]
      exact ⟨rfl, by rw [a1]; omega⟩
    · rw [if_neg c1, if_neg c1]
      exact ⟨rfl, b2⟩
