/-! 22.hull: the hull, in both ways -/
theorem l_le_refl (a : Int64) : a ≤ a := Int64.le_refl a
theorem l_le_tr {a b c : Int64} (h1 : a ≤ b) (h2 : b ≤ c) : a ≤ c := by rw [i64_le] at *; omega
theorem l_lt_le {a b : Int64} (h : a < b) : a ≤ b := by rw [i64_lt] at h; rw [i64_le]; omega
theorem l_anti {a b : Int64} (h1 : a ≤ b) (h2 : b ≤ a) : a = b := by rw [i64_le] at *; rw [i64_eq]; omega
theorem l_max (a : Int64) : a ≤ 9223372036854775807 := by
  rw [i64_le]
  have h := Int64.toInt_lt a
  have e : (9223372036854775807 : Int64).toInt = 9223372036854775807 := by decide
  omega
theorem l_min (a : Int64) : -9223372036854775808 ≤ a := by
  rw [i64_le]
  have h := Int64.le_toInt a
  have e : (-9223372036854775808 : Int64).toInt = -9223372036854775808 := by decide
  omega
theorem bt_iff {x y t : Int64} : f_T_between x y t = true ↔ y ≤ x ∧ x ≤ t := by
  unfold f_T_between
  by_cases c1 : x < y
  · rw [if_pos c1]
    exact ⟨fun h => (by cases h), fun h => absurd h.1 (Int64.not_le.mpr c1)⟩
  · rw [if_neg c1]
    by_cases c2 : t < x
    · rw [if_pos c2]
      exact ⟨fun h => (by cases h), fun h => absurd h.2 (Int64.not_le.mpr c2)⟩
    · rw [if_neg c2]
      exact ⟨fun _ => ⟨Int64.not_lt.mp c1, Int64.not_lt.mp c2⟩, fun _ => rfl⟩
theorem cv_mono {F Y : Nat → Int64} {g : Nat → Bool} {x y : Int64} : ∀ m : Nat, (∀ i, i < m → g i = true → F i ≤ x → x ≤ Y i → F i ≤ y ∧ y ≤ Y i) → cvS F Y g x m ≤ cvS F Y g y m
  | 0, _ => Nat.le_refl _
  | m + 1, h => by
    have ih := cv_mono m (fun i hi => h i (by omega))
    simp only [cvS]
    by_cases c : g m = true
    · rw [if_pos c, if_pos c]
      by_cases c1 : f_T_between x (F m) (Y m) = true
      · rw [if_pos c1, if_pos (bt_iff.mpr (h m (by omega) c (bt_iff.mp c1).1 (bt_iff.mp c1).2))]
        omega
      · rw [if_neg c1]
        split <;> omega
    · rw [if_neg c, if_neg c]
      exact ih
theorem cv_pos {F Y : Nat → Int64} {g : Nat → Bool} {x : Int64} : ∀ n j : Nat, j < n → g j = true → F j ≤ x → x ≤ Y j → 1 ≤ cvS F Y g x n
  | 0, j, h, _, _, _ => absurd h (Nat.not_lt_zero j)
  | n + 1, j, h, g1, g2, g3 => by
    simp only [cvS]
    by_cases e : j = n
    · subst e
      rw [if_pos g1, if_pos (bt_iff.mpr ⟨g2, g3⟩)]
      omega
    · have ih := cv_pos n j (by omega) g1 g2 g3
      repeat' split
      all_goals omega
theorem ex_low {F Y : Nat → Int64} {g : Nat → Bool} {x : Int64} : ∀ n : Nat, 1 ≤ cvS F Y g x n → ∃ i, i < n ∧ g i = true ∧ F i ≤ x ∧ x ≤ Y i ∧ ∀ j, j < n → g j = true → F j ≤ x → x ≤ Y j → F j ≤ F i
  | 0, h => absurd h (by simp [cvS])
  | n + 1, h => by
    simp only [cvS] at h
    by_cases c : g n = true ∧ f_T_between x (F n) (Y n) = true
    · obtain ⟨c0, c1⟩ := c
      have c2 := bt_iff.mp c1
      by_cases p : 1 ≤ cvS F Y g x n
      · obtain ⟨i, h1, h2, h3, h4, h5⟩ := ex_low n p
        by_cases q : F n ≤ F i
        · refine ⟨i, by omega, h2, h3, h4, fun j hj g1 g2 g3 => ?_⟩
          by_cases e : j = n
          · rw [e]; exact q
          · exact h5 j (by omega) g1 g2 g3
        · refine ⟨n, by omega, c0, c2.1, c2.2, fun j hj g1 g2 g3 => ?_⟩
          by_cases e : j = n
          · rw [e]; exact l_le_refl _
          · exact l_le_tr (h5 j (by omega) g1 g2 g3) (l_lt_le (Int64.not_le.mp q))
      · refine ⟨n, by omega, c0, c2.1, c2.2, fun j hj g1 g2 g3 => ?_⟩
        by_cases e : j = n
        · rw [e]; exact l_le_refl _
        · exact absurd (cv_pos n j (by omega) g1 g2 g3) p
    · have p : 1 ≤ cvS F Y g x n := by
        by_cases c0 : g n = true
        · rw [if_pos c0, if_neg (fun q => c ⟨c0, q⟩)] at h
          exact h
        · rw [if_neg c0] at h
          exact h
      obtain ⟨i, h1, h2, h3, h4, h5⟩ := ex_low n p
      refine ⟨i, by omega, h2, h3, h4, fun j hj g1 g2 g3 => ?_⟩
      by_cases e : j = n
      · rw [e] at g1 g2 g3
        exact absurd ⟨g1, bt_iff.mpr ⟨g2, g3⟩⟩ c
      · exact h5 j (by omega) g1 g2 g3
theorem ex_high {F Y : Nat → Int64} {g : Nat → Bool} {x : Int64} : ∀ n : Nat, 1 ≤ cvS F Y g x n → ∃ i, i < n ∧ g i = true ∧ F i ≤ x ∧ x ≤ Y i ∧ ∀ j, j < n → g j = true → F j ≤ x → x ≤ Y j → Y i ≤ Y j
  | 0, h => absurd h (by simp [cvS])
  | n + 1, h => by
    simp only [cvS] at h
    by_cases c : g n = true ∧ f_T_between x (F n) (Y n) = true
    · obtain ⟨c0, c1⟩ := c
      have c2 := bt_iff.mp c1
      by_cases p : 1 ≤ cvS F Y g x n
      · obtain ⟨i, h1, h2, h3, h4, h5⟩ := ex_high n p
        by_cases q : Y i ≤ Y n
        · refine ⟨i, by omega, h2, h3, h4, fun j hj g1 g2 g3 => ?_⟩
          by_cases e : j = n
          · rw [e]; exact q
          · exact h5 j (by omega) g1 g2 g3
        · refine ⟨n, by omega, c0, c2.1, c2.2, fun j hj g1 g2 g3 => ?_⟩
          by_cases e : j = n
          · rw [e]; exact l_le_refl _
          · exact l_le_tr (l_lt_le (Int64.not_le.mp q)) (h5 j (by omega) g1 g2 g3)
      · refine ⟨n, by omega, c0, c2.1, c2.2, fun j hj g1 g2 g3 => ?_⟩
        by_cases e : j = n
        · rw [e]; exact l_le_refl _
        · exact absurd (cv_pos n j (by omega) g1 g2 g3) p
    · have p : 1 ≤ cvS F Y g x n := by
        by_cases c0 : g n = true
        · rw [if_pos c0, if_neg (fun q => c ⟨c0, q⟩)] at h
          exact h
        · rw [if_neg c0] at h
          exact h
      obtain ⟨i, h1, h2, h3, h4, h5⟩ := ex_high n p
      refine ⟨i, by omega, h2, h3, h4, fun j hj g1 g2 g3 => ?_⟩
      by_cases e : j = n
      · rw [e] at g1 g2 g3
        exact absurd ⟨g1, bt_iff.mpr ⟨g2, g3⟩⟩ c
      · exact h5 j (by omega) g1 g2 g3
/-- an end that enough hold: then a low end at most as high, and a high end at least as high, that enough hold -/
theorem low_of {F Y : Nat → Int64} {g : Nat → Bool} {n k : Nat} {x : Int64} (hk : 1 ≤ k) (h : k ≤ cvS F Y g x n) : ∃ i, i < n ∧ g i = true ∧ F i ≤ x ∧ k ≤ cvS F Y g (F i) n := by
  obtain ⟨i, h1, h2, h3, h4, h5⟩ := ex_low n (Nat.le_trans hk h)
  exact ⟨i, h1, h2, h3, Nat.le_trans h (cv_mono n (fun j hj g1 g2 g3 => ⟨h5 j hj g1 g2 g3, l_le_tr h3 g3⟩))⟩
theorem high_of {F Y : Nat → Int64} {g : Nat → Bool} {n k : Nat} {x : Int64} (hk : 1 ≤ k) (h : k ≤ cvS F Y g x n) : ∃ i, i < n ∧ g i = true ∧ x ≤ Y i ∧ k ≤ cvS F Y g (Y i) n := by
  obtain ⟨i, h1, h2, h3, h4, h5⟩ := ex_high n (Nat.le_trans hk h)
  exact ⟨i, h1, h2, h4, Nat.le_trans h (cv_mono n (fun j hj g1 g2 g3 => ⟨l_le_tr g2 h4, h5 j hj g1 g2 g3⟩))⟩
/-- the ends of the first m intervals that enough hold -/
def Sx (F Y : Nat → Int64) (g : Nat → Bool) (n k m : Nat) (x : Int64) : Prop := ∃ i, i < m ∧ g i = true ∧ ((x = F i ∧ k ≤ cvS F Y g (F i) n) ∨ (x = Y i ∧ k ≤ cvS F Y g (Y i) n))
def hst (b : Bool) (x : Int64) (s : Bool × Int64 × Int64) : Bool × Int64 × Int64 := if b = true then (true, if s.1 = true then (if x ≤ s.2.1 then x else s.2.1) else x, if s.1 = true then (if s.2.2 ≤ x then x else s.2.2) else x) else s
def HI (P : Int64 → Prop) (tl tg : Int64) (s : Bool × Int64 × Int64) : Prop := (s.1 = true → P s.2.1 ∧ P s.2.2 ∧ ∀ x, P x → s.2.1 ≤ x ∧ x ≤ s.2.2) ∧ (¬ s.1 = true → (∀ x, ¬ P x) ∧ s.2.1 = tl ∧ s.2.2 = tg)
theorem HI_step {P : Int64 → Prop} {tl tg : Int64} {s : Bool × Int64 × Int64} {b : Bool} {x : Int64} (h : HI P tl tg s) : HI (fun y => P y ∨ (b = true ∧ y = x)) tl tg (hst b x s) := by
  unfold hst
  by_cases cb : b = true
  · rw [if_pos cb]
    refine ⟨fun _ => ?_, fun q => absurd rfl q⟩
    by_cases ca : s.1 = true
    · obtain ⟨h1, h2, h3⟩ := h.1 ca
      simp only [if_pos ca]
      refine ⟨?_, ?_, fun y hy => ⟨?_, ?_⟩⟩
      · split
        · exact Or.inr ⟨cb, rfl⟩
        · exact Or.inl h1
      · split
        · exact Or.inr ⟨cb, rfl⟩
        · exact Or.inl h2
      · rcases hy with hy | hy
        · split
          · rename_i q; exact l_le_tr q (h3 y hy).1
          · exact (h3 y hy).1
        · rw [hy.2]
          split
          · exact l_le_refl _
          · rename_i q; exact l_lt_le (Int64.not_le.mp q)
      · rcases hy with hy | hy
        · split
          · rename_i q; exact l_le_tr (h3 y hy).2 q
          · exact (h3 y hy).2
        · rw [hy.2]
          split
          · exact l_le_refl _
          · rename_i q; exact l_lt_le (Int64.not_le.mp q)
    · obtain ⟨h1, -, -⟩ := h.2 ca
      simp only [if_neg ca]
      refine ⟨Or.inr ⟨cb, by trivial⟩, Or.inr ⟨cb, by trivial⟩, fun y hy => ?_⟩
      rcases hy with hy | hy
      · exact absurd hy (h1 y)
      · rw [hy.2]; exact ⟨l_le_refl _, l_le_refl _⟩
  · rw [if_neg cb]
    refine ⟨fun ca => ?_, fun ca => ?_⟩
    · obtain ⟨h1, h2, h3⟩ := h.1 ca
      exact ⟨Or.inl h1, Or.inl h2, fun y hy => hy.elim (h3 y) (fun q => absurd q.1 cb)⟩
    · obtain ⟨h1, h2, h3⟩ := h.2 ca
      exact ⟨fun y hy => hy.elim (h1 y) (fun q => cb q.1), h2, h3⟩
theorem HI_congr {P Q : Int64 → Prop} {tl tg : Int64} {s : Bool × Int64 × Int64} (e : ∀ y, P y ↔ Q y) (h : HI P tl tg s) : HI Q tl tg s := by
  have : P = Q := funext fun y => propext (e y)
  rw [← this]
  exact h
theorem hu_step (F Y : Nat → Int64) (g : Nat → Bool) (n k m : Nat) (tl tg : Int64) : huS n tl tg F Y g k (m + 1) = hst (g m && decide (k ≤ cvS F Y g (Y m) n)) (Y m) (hst (g m && decide (k ≤ cvS F Y g (F m) n)) (F m) (huS n tl tg F Y g k m)) := by
  generalize hs : huS n tl tg F Y g k m = s
  obtain ⟨a, l, r⟩ := s
  simp only [huS, hs, hst]
  by_cases c0 : g m = true
  · by_cases c1 : cvS F Y g (F m) n < k
    · by_cases c2 : cvS F Y g (Y m) n < k
      · have d1 : ¬ k ≤ cvS F Y g (F m) n := by omega
        have d2 : ¬ k ≤ cvS F Y g (Y m) n := by omega
        simp [c0, c1, c2, d1, d2]
      · have d1 : ¬ k ≤ cvS F Y g (F m) n := by omega
        have d2 : k ≤ cvS F Y g (Y m) n := by omega
        simp [c0, c1, c2, d1, d2]
    · by_cases c2 : cvS F Y g (Y m) n < k
      · have d1 : k ≤ cvS F Y g (F m) n := by omega
        have d2 : ¬ k ≤ cvS F Y g (Y m) n := by omega
        simp [c0, c1, c2, d1, d2]
      · have d1 : k ≤ cvS F Y g (F m) n := by omega
        have d2 : k ≤ cvS F Y g (Y m) n := by omega
        simp [c0, c1, c2, d1, d2]
  · simp [c0]
theorem hu_spec (F Y : Nat → Int64) (g : Nat → Bool) (n k : Nat) (tl tg : Int64) : ∀ m : Nat, HI (Sx F Y g n k m) tl tg (huS n tl tg F Y g k m)
  | 0 => ⟨fun h => (by cases h), fun _ => ⟨fun x h => (by obtain ⟨i, hi, _⟩ := h; omega), rfl, rfl⟩⟩
  | m + 1 => by
    have ih := hu_spec F Y g n k tl tg m
    rw [hu_step]
    refine HI_congr (fun y => ?_) (HI_step (b := g m && decide (k ≤ cvS F Y g (Y m) n)) (x := Y m) (HI_step (b := g m && decide (k ≤ cvS F Y g (F m) n)) (x := F m) ih))
    simp only [Bool.and_eq_true, decide_eq_true_eq]
    constructor
    · rintro ((⟨i, h1, h2, h3⟩ | ⟨⟨h1, h2⟩, h3⟩) | ⟨⟨h1, h2⟩, h3⟩)
      · exact ⟨i, by omega, h2, h3⟩
      · exact ⟨m, by omega, h1, Or.inl ⟨h3, h2⟩⟩
      · exact ⟨m, by omega, h1, Or.inr ⟨h3, h2⟩⟩
    · rintro ⟨i, h1, h2, h3⟩
      by_cases e : i = m
      · subst e
        rcases h3 with h3 | h3
        · exact Or.inl (Or.inr ⟨⟨h2, h3.2⟩, h3.1⟩)
        · exact Or.inr ⟨⟨h2, h3.2⟩, h3.1⟩
      · exact Or.inl (Or.inl ⟨i, by omega, h2, h3⟩)
theorem mn_le {a b : Int64} : f_J_min_JJ a b ≤ a ∧ f_J_min_JJ a b ≤ b ∧ (f_J_min_JJ a b = a ∨ f_J_min_JJ a b = b) := by
  unfold f_J_min_JJ
  by_cases c : b < a
  · rw [if_pos c]; exact ⟨l_lt_le c, l_le_refl _, Or.inr rfl⟩
  · rw [if_neg c]; exact ⟨l_le_refl _, Int64.not_lt.mp c, Or.inl rfl⟩
theorem mx_le {a b : Int64} : a ≤ f_J_max_JJ a b ∧ b ≤ f_J_max_JJ a b ∧ (f_J_max_JJ a b = a ∨ f_J_max_JJ a b = b) := by
  unfold f_J_max_JJ
  by_cases c : a < b
  · rw [if_pos c]; exact ⟨l_lt_le c, l_le_refl _, Or.inr rfl⟩
  · rw [if_neg c]; exact ⟨l_le_refl _, Int64.not_lt.mp c, Or.inl rfl⟩
theorem fh_spec {g : Nat → Bool} {F Y : Nat → Int64} {n : Nat} {nu : Nat → Nat} {lo hi : Nat → Int64} (h : En g F Y n nu lo hi) (k : Nat) : ∀ m, m ≤ n →
    ((∀ i, i < m → g i = true → k ≤ cvS F Y g (F i) n → (fhS (lfS g n) lo hi k (lfS g m)).1 ≤ F i) ∧ ((∃ i, i < m ∧ g i = true ∧ k ≤ cvS F Y g (F i) n ∧ (fhS (lfS g n) lo hi k (lfS g m)).1 = F i) ∨ ((fhS (lfS g n) lo hi k (lfS g m)).1 = 9223372036854775807 ∧ ∀ i, i < m → g i = true → ¬ k ≤ cvS F Y g (F i) n))) ∧
    ((∀ i, i < m → g i = true → k ≤ cvS F Y g (Y i) n → Y i ≤ (fhS (lfS g n) lo hi k (lfS g m)).2) ∧ ((∃ i, i < m ∧ g i = true ∧ k ≤ cvS F Y g (Y i) n ∧ (fhS (lfS g n) lo hi k (lfS g m)).2 = Y i) ∨ ((fhS (lfS g n) lo hi k (lfS g m)).2 = -9223372036854775808 ∧ ∀ i, i < m → g i = true → ¬ k ≤ cvS F Y g (Y i) n)))
  | 0, _ => ⟨⟨fun i hi => by omega, Or.inr ⟨rfl, fun i hi => by omega⟩⟩, ⟨fun i hi => by omega, Or.inr ⟨rfl, fun i hi => by omega⟩⟩⟩
  | m + 1, hm => by
    have ih := fh_spec h k m (by omega)
    by_cases c : g m = true
    · obtain ⟨-, e2, e3⟩ := h m (by omega) c
      rw [lf_t c]
      simp only [fhS, e2, e3, cov_eq h _ n (Nat.le_refl n)]
      generalize fhS (lfS g n) lo hi k (lfS g m) = s at ih ⊢
      obtain ⟨L, R⟩ := s
      obtain ⟨⟨a1, a2⟩, ⟨b1, b2⟩⟩ := ih
      dsimp only at a1 a2 b1 b2 ⊢
      refine ⟨?_, ?_⟩
      · by_cases p : cvS F Y g (F m) n < k
        · rw [if_pos p]
          refine ⟨fun i hi g1 g2 => ?_, ?_⟩
          · by_cases e : i = m
            · subst e; omega
            · exact a1 i (by omega) g1 g2
          · rcases a2 with ⟨i, x1, x2, x3, x4⟩ | ⟨x1, x2⟩
            · exact Or.inl ⟨i, by omega, x2, x3, x4⟩
            · refine Or.inr ⟨x1, fun i hi g1 => ?_⟩
              by_cases e : i = m
              · subst e; omega
              · exact x2 i (by omega) g1
        · rw [if_neg p]
          obtain ⟨z1, z2, z3⟩ := mn_le (a := L) (b := F m)
          refine ⟨fun i hi g1 g2 => ?_, ?_⟩
          · by_cases e : i = m
            · subst e; exact z2
            · exact l_le_tr z1 (a1 i (by omega) g1 g2)
          · rcases z3 with z3 | z3
            · rcases a2 with ⟨i, x1, x2, x3, x4⟩ | ⟨x1, x2⟩
              · exact Or.inl ⟨i, by omega, x2, x3, z3.trans x4⟩
              · refine Or.inl ⟨m, by omega, c, by omega, ?_⟩
                rw [z3]
                rw [z3, x1] at z2
                exact x1.trans (l_anti (z2) (l_max _))
            · exact Or.inl ⟨m, by omega, c, by omega, z3⟩
      · by_cases p : cvS F Y g (Y m) n < k
        · rw [if_pos p]
          refine ⟨fun i hi g1 g2 => ?_, ?_⟩
          · by_cases e : i = m
            · subst e; omega
            · exact b1 i (by omega) g1 g2
          · rcases b2 with ⟨i, x1, x2, x3, x4⟩ | ⟨x1, x2⟩
            · exact Or.inl ⟨i, by omega, x2, x3, x4⟩
            · refine Or.inr ⟨x1, fun i hi g1 => ?_⟩
              by_cases e : i = m
              · subst e; omega
              · exact x2 i (by omega) g1
        · rw [if_neg p]
          obtain ⟨z1, z2, z3⟩ := mx_le (a := R) (b := Y m)
          refine ⟨fun i hi g1 g2 => ?_, ?_⟩
          · by_cases e : i = m
            · subst e; exact z2
            · exact l_le_tr (b1 i (by omega) g1 g2) z1
          · rcases z3 with z3 | z3
            · rcases b2 with ⟨i, x1, x2, x3, x4⟩ | ⟨x1, x2⟩
              · exact Or.inl ⟨i, by omega, x2, x3, z3.trans x4⟩
              · refine Or.inl ⟨m, by omega, c, by omega, ?_⟩
                rw [z3]
                rw [z3, x1] at z2
                exact x1.trans (l_anti (l_min _) z2)
            · exact Or.inl ⟨m, by omega, c, by omega, z3⟩
    · rw [lf_f c]
      obtain ⟨⟨a1, a2⟩, ⟨b1, b2⟩⟩ := ih
      refine ⟨⟨fun i hi g1 g2 => ?_, ?_⟩, ⟨fun i hi g1 g2 => ?_, ?_⟩⟩
      · by_cases e : i = m
        · subst e; exact absurd g1 c
        · exact a1 i (by omega) g1 g2
      · rcases a2 with ⟨i, x1, x2, x3, x4⟩ | ⟨x1, x2⟩
        · exact Or.inl ⟨i, by omega, x2, x3, x4⟩
        · refine Or.inr ⟨x1, fun i hi g1 => ?_⟩
          by_cases e : i = m
          · subst e; exact absurd g1 c
          · exact x2 i (by omega) g1
      · by_cases e : i = m
        · subst e; exact absurd g1 c
        · exact b1 i (by omega) g1 g2
      · rcases b2 with ⟨i, x1, x2, x3, x4⟩ | ⟨x1, x2⟩
        · exact Or.inl ⟨i, by omega, x2, x3, x4⟩
        · refine Or.inr ⟨x1, fun i hi g1 => ?_⟩
          by_cases e : i = m
          · subst e; exact absurd g1 c
          · exact x2 i (by omega) g1
/-- both ways find a hull or none, and the same -/
theorem hull_eq {g : Nat → Bool} {F Y : Nat → Int64} {n : Nat} {nu : Nat → Nat} {lo hi : Nat → Int64} (h : En g F Y n nu lo hi) {k : Nat} (hk : 1 ≤ k) (tl tg : Int64) :
    f_E_findHullOf (lfS g n) lo hi k = (huS n tl tg F Y g k n).1 ∧ ((huS n tl tg F Y g k n).1 = true → (fhS (lfS g n) lo hi k (lfS g n)).1 = (huS n tl tg F Y g k n).2.1 ∧ (fhS (lfS g n) lo hi k (lfS g n)).2 = (huS n tl tg F Y g k n).2.2) := by
  obtain ⟨⟨a1, a2⟩, ⟨b1, b2⟩⟩ := fh_spec h k n (Nat.le_refl n)
  have hs := hu_spec F Y g n k tl tg n
  by_cases c : (huS n tl tg F Y g k n).1 = true
  · obtain ⟨p1, p2, p3⟩ := hs.1 c
    have cov : ∀ x, Sx F Y g n k n x → k ≤ cvS F Y g x n := fun x q => by
      obtain ⟨i, _, _, q3⟩ := q
      rcases q3 with q3 | q3
      · rw [q3.1]; exact q3.2
      · rw [q3.1]; exact q3.2
    have eL : (fhS (lfS g n) lo hi k (lfS g n)).1 = (huS n tl tg F Y g k n).2.1 := by
      obtain ⟨i, i1, i2, i3, i4⟩ := low_of hk (cov _ p1)
      refine l_anti (l_le_tr (a1 i i1 i2 i4) i3) ?_
      rcases a2 with ⟨j, x1, x2, x3, x4⟩ | ⟨x1, x2⟩
      · rw [x4]; exact (p3 _ ⟨j, x1, x2, Or.inl ⟨rfl, x3⟩⟩).1
      · exact absurd i4 (x2 i i1 i2)
    have eR : (fhS (lfS g n) lo hi k (lfS g n)).2 = (huS n tl tg F Y g k n).2.2 := by
      obtain ⟨i, i1, i2, i3, i4⟩ := high_of hk (cov _ p2)
      refine l_anti ?_ (l_le_tr i3 (b1 i i1 i2 i4))
      rcases b2 with ⟨j, x1, x2, x3, x4⟩ | ⟨x1, x2⟩
      · rw [x4]; exact (p3 _ ⟨j, x1, x2, Or.inr ⟨rfl, x3⟩⟩).2
      · exact absurd i4 (x2 i i1 i2)
    refine ⟨?_, fun _ => ⟨eL, eR⟩⟩
    unfold f_E_findHullOf
    rw [eL, eR, if_pos (p3 _ p1).2, c]
  · obtain ⟨p1, -, -⟩ := hs.2 c
    refine ⟨?_, fun q => absurd q c⟩
    have e1 : (fhS (lfS g n) lo hi k (lfS g n)).1 = 9223372036854775807 := by
      rcases a2 with ⟨j, x1, x2, x3, x4⟩ | ⟨x1, x2⟩
      · exact absurd ⟨j, x1, x2, Or.inl ⟨rfl, x3⟩⟩ (p1 (F j))
      · exact x1
    have e2 : (fhS (lfS g n) lo hi k (lfS g n)).2 = -9223372036854775808 := by
      rcases b2 with ⟨j, x1, x2, x3, x4⟩ | ⟨x1, x2⟩
      · exact absurd ⟨j, x1, x2, Or.inr ⟨rfl, x3⟩⟩ (p1 (Y j))
      · exact x1
    unfold f_E_findHullOf
    rw [e1, e2, if_neg (by decide)]
    exact (Bool.not_eq_true _ ▸ c : (huS n tl tg F Y g k n).1 = false).symm
