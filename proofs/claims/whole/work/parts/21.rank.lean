/-! 21.rank: the election's rows against the reference's marks -/
theorem lf_t {g : Nat → Bool} {n : Nat} (h : g n = true) : lfS g (n + 1) = lfS g n + 1 := by simp only [lfS, if_pos h]
theorem lf_f {g : Nat → Bool} {n : Nat} (h : ¬ g n = true) : lfS g (n + 1) = lfS g n := by simp only [lfS, if_neg h]
theorem lf_step (g : Nat → Bool) (n : Nat) : lfS g n ≤ lfS g (n + 1) := by
  by_cases h : g n = true
  · rw [lf_t h]; omega
  · rw [lf_f h]; omega
theorem lf_mono (g : Nat → Bool) {i j : Nat} (h : i ≤ j) : lfS g i ≤ lfS g j := by
  induction j with
  | zero => have e : i = 0 := by omega
            rw [e]; omega
  | succ j ih =>
    by_cases e : i = j + 1
    · rw [e]; omega
    · exact Nat.le_trans (ih (by omega)) (lf_step g j)
theorem lf_lt (g : Nat → Bool) {i n : Nat} (h : i < n) (hi : g i = true) : lfS g i < lfS g n := by
  have h1 := lf_mono g (show i + 1 ≤ n by omega)
  rw [lf_t hi] at h1
  omega
theorem lf_congr {g g' : Nat → Bool} : ∀ n : Nat, (∀ i, i < n → g i = g' i) → lfS g n = lfS g' n
  | 0, _ => rfl
  | n + 1, h => by
    have h1 := lf_congr n (fun i hi => h i (by omega))
    have h2 := h n (by omega)
    simp only [lfS, h1, h2]
theorem lf_surj (g : Nat → Bool) : ∀ (n k : Nat), k < lfS g n → ∃ i, i < n ∧ g i = true ∧ lfS g i = k
  | 0, k, h => absurd h (Nat.not_lt_zero k)
  | n + 1, k, h => by
    by_cases c : g n = true
    · rw [lf_t c] at h
      by_cases e : k = lfS g n
      · exact ⟨n, by omega, c, e.symm⟩
      · obtain ⟨i, a, b, d⟩ := lf_surj g n k (by omega)
        exact ⟨i, by omega, b, d⟩
    · rw [lf_f c] at h
      obtain ⟨i, a, b, d⟩ := lf_surj g n k h
      exact ⟨i, by omega, b, d⟩
/-- server i, if it is in, stands at the place that counts those before it -/
def En (g : Nat → Bool) (F Y : Nat → Int64) (n : Nat) (nu : Nat → Nat) (lo hi : Nat → Int64) : Prop :=
  ∀ i, i < n → g i = true → nu (lfS g i) = i ∧ lo (lfS g i) = F i ∧ hi (lfS g i) = Y i
theorem cov_eq {g : Nat → Bool} {F Y : Nat → Int64} {n : Nat} {nu : Nat → Nat} {lo hi : Nat → Int64} (h : En g F Y n nu lo hi) (x : Int64) : ∀ m, m ≤ n → arC lo hi x (lfS g m) = cvS F Y g x m
  | 0, _ => rfl
  | m + 1, hm => by
    have ih := cov_eq h x m (by omega)
    by_cases c : g m = true
    · obtain ⟨-, h2, h3⟩ := h m (by omega) c
      rw [lf_t c]
      simp only [arC, cvS, if_pos c, h2, h3, ih, f_T_between]
      by_cases c1 : x < F m
      · simp [c1]
      · by_cases c2 : Y m < x
        · simp [c1, c2]
        · simp [c1, c2]
    · rw [lf_f c, ih]
      simp only [cvS, if_neg c]
theorem sum_eq {g : Nat → Bool} {F Y : Nat → Int64} {n : Nat} {nu : Nat → Nat} {lo hi : Nat → Int64} (h : En g F Y n nu lo hi) (S : Nat → Int32) : ∀ m, m ≤ n → tgS lo hi (lfS g m) = (keS S F Y g m).1
  | 0, _ => rfl
  | m + 1, hm => by
    have ih := sum_eq h S m (by omega)
    by_cases c : g m = true
    · obtain ⟨-, h2, h3⟩ := h m (by omega) c
      rw [lf_t c]
      simp only [tgS, keS, if_pos c, h2, h3, ih, fd_down _ 2 (by decide)]
    · rw [lf_f c, ih]
      simp only [keS, if_neg c]
theorem bit_eq {g : Nat → Bool} {F Y : Nat → Int64} {n : Nat} {nu : Nat → Nat} {lo hi : Nat → Int64} (h : En g F Y n nu lo hi) (S : Nat → Int32) : ∀ m, m ≤ n → btS nu (lfS g m) = (keS S F Y g m).2.1
  | 0, _ => rfl
  | m + 1, hm => by
    have ih := bit_eq h S m (by omega)
    by_cases c : g m = true
    · obtain ⟨h1, -, -⟩ := h m (by omega) c
      rw [lf_t c]
      simp only [btS, keS, if_pos c, h1, ih]
    · rw [lf_f c, ih]
      simp only [keS, if_neg c]
theorem str_eq {g : Nat → Bool} {F Y : Nat → Int64} {n : Nat} {nu : Nat → Nat} {lo hi : Nat → Int64} (h : En g F Y n nu lo hi) (S : Nat → Int32) (sg : Nat → SvS) (hs : ∀ i, i < n → s_str (sg i) = S i) : ∀ m, m ≤ n → lsS nu sg (lfS g m) = (keS S F Y g m).2.2
  | 0, _ => rfl
  | m + 1, hm => by
    have ih := str_eq h S sg hs m (by omega)
    by_cases c : g m = true
    · obtain ⟨h1, -, -⟩ := h m (by omega) c
      rw [lf_t c]
      simp only [lsS, keS, if_pos c, h1, ih, hs m (by omega), f_J_min_II]
      by_cases c1 : S m < (keS S F Y g m).2.2
      · rw [if_pos c1, if_neg (Int32.not_le.mpr c1)]
      · rw [if_neg c1, if_pos (Int32.not_lt.mp c1)]
    · rw [lf_f c, ih]
      simp only [keS, if_neg c]
theorem dist_eq {g : Nat → Bool} {F Y : Nat → Int64} {n : Nat} {nu : Nat → Nat} {lo hi : Nat → Int64} (h : En g F Y n nu lo hi) {i : Nat} (hi9 : i < n) (gi : g i = true) : ∀ m, m ≤ n → dsS lo hi (lfS g i) (lfS g m) = faS F Y g i m
  | 0, _ => rfl
  | m + 1, hm => by
    have ih := dist_eq h hi9 gi m (by omega)
    obtain ⟨-, a2, a3⟩ := h i hi9 gi
    by_cases c : g m = true
    · obtain ⟨-, h2, h3⟩ := h m (by omega) c
      rw [lf_t c]
      simp only [dsS, faS, if_pos c, h2, h3, a2, a3, ih, fd_down _ 2 (by decide), abs_sym]
    · rw [lf_f c, ih]
      simp only [faS, if_neg c]
