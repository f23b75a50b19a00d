/-! 23.keep: those at the hull, and the closest, in both ways -/
def kpB (tl tg : Int64) (F Y : Nat → Int64) (g : Nat → Bool) (i : Nat) : Bool := if g i = true then (if tg < F i then false else (if Y i < tl then false else true)) else false
theorem kt_at (tl tg : Int64) (F Y : Nat → Int64) (g : Nat → Bool) : ∀ n i : Nat, ktS tl tg F Y g n i = if i < n then kpB tl tg F Y g i else g i
  | 0, i => rfl
  | n + 1, i => by
    have ih := kt_at tl tg F Y g n
    have e0 : ktS tl tg F Y g n n = g n := by rw [ih n, if_neg (by omega)]
    simp only [ktS, e0]
    by_cases e : i = n
    · subst e
      rw [va_ups, show (if i < i + 1 then kpB tl tg F Y g i else g i) = kpB tl tg F Y g i from if_pos (by omega)]
      rfl
    · rw [va_upn e, ih i]
      by_cases c : i < n
      · rw [if_pos c, if_pos (by omega)]
      · rw [if_neg c, if_neg (by omega)]
theorem lf_sub {g g' : Nat → Bool} : ∀ n : Nat, (∀ i, i < n → g' i = true → g i = true) → lfS g' n ≤ lfS g n
  | 0, _ => Nat.le_refl _
  | n + 1, h => by
    have ih := lf_sub n (fun i hi => h i (by omega))
    by_cases c' : g' n = true
    · rw [lf_t c', lf_t (h n (by omega) c')]; omega
    · rw [lf_f c']
      exact Nat.le_trans ih (lf_step g n)
theorem En_congr {g g' : Nat → Bool} {F Y : Nat → Int64} {n : Nat} {nu : Nat → Nat} {lo hi : Nat → Int64} (e : ∀ i, i < n → g i = g' i) (h : En g F Y n nu lo hi) : En g' F Y n nu lo hi := fun i hi gi => by
  rw [← lf_congr i (fun j hj => e j (by omega))]
  exact h i hi (by rw [e i hi]; exact gi)
theorem kp_spec {g : Nat → Bool} {F Y : Nat → Int64} {n : Nat} {nu : Nat → Nat} {lo hi : Nat → Int64} (h : En g F Y n nu lo hi) (tl tg : Int64) : ∀ m, m ≤ n →
    (kpS tl tg nu lo hi (lfS g m)).1 = lfS (kpB tl tg F Y g) m ∧
    (∀ i, i < m → kpB tl tg F Y g i = true → (kpS tl tg nu lo hi (lfS g m)).2.1 (lfS (kpB tl tg F Y g) i) = i ∧ (kpS tl tg nu lo hi (lfS g m)).2.2.1 (lfS (kpB tl tg F Y g) i) = F i ∧ (kpS tl tg nu lo hi (lfS g m)).2.2.2 (lfS (kpB tl tg F Y g) i) = Y i) ∧
    (∀ k, lfS g m ≤ k → (kpS tl tg nu lo hi (lfS g m)).2.1 k = nu k ∧ (kpS tl tg nu lo hi (lfS g m)).2.2.1 k = lo k ∧ (kpS tl tg nu lo hi (lfS g m)).2.2.2 k = hi k)
  | 0, _ => ⟨rfl, fun i hi => by omega, fun k _ => ⟨rfl, rfl, rfl⟩⟩
  | m + 1, hm => by
    have ih := kp_spec h tl tg m (by omega)
    have sub : lfS (kpB tl tg F Y g) m ≤ lfS g m := lf_sub m (fun i _ q => by
      unfold kpB at q
      by_cases c : g i = true
      · exact c
      · rw [if_neg c] at q; cases q)
    by_cases c : g m = true
    · obtain ⟨e1, e2, e3⟩ := h m (by omega) c
      rw [lf_t c]
      simp only [kpS]
      generalize kpS tl tg nu lo hi (lfS g m) = s at ih ⊢
      obtain ⟨k9, n9, l9, h9⟩ := s
      obtain ⟨a1, a2, a3⟩ := ih
      dsimp only at a1 a2 a3 ⊢
      obtain ⟨b1, b2, b3⟩ := a3 (lfS g m) (Nat.le_refl _)
      simp only [b1, b2, b3, e1, e2, e3]
      by_cases c1 : tg < F m
      · have f : ¬ kpB tl tg F Y g m = true := by unfold kpB; rw [if_pos c, if_pos c1]; decide
        rw [lf_f f]
        simp only [if_pos c1]
        refine ⟨a1, fun i hi q => ?_, fun k hk => a3 k (by omega)⟩
        by_cases e : i = m
        · subst e; exact absurd q f
        · exact a2 i (by omega) q
      · by_cases c2 : Y m < tl
        · have f : ¬ kpB tl tg F Y g m = true := by unfold kpB; rw [if_pos c, if_neg c1, if_pos c2]; decide
          rw [lf_f f]
          simp only [if_neg c1, if_pos c2]
          refine ⟨a1, fun i hi q => ?_, fun k hk => a3 k (by omega)⟩
          by_cases e : i = m
          · subst e; exact absurd q f
          · exact a2 i (by omega) q
        · have f : kpB tl tg F Y g m = true := by unfold kpB; rw [if_pos c, if_neg c1, if_neg c2]
          rw [lf_t f]
          simp only [if_neg c1, if_neg c2]
          refine ⟨by omega, fun i hi q => ?_, fun k hk => ?_⟩
          · by_cases e : i = m
            · subst e
              rw [← a1, va_ups, pk_uLs, pk_uLs]
              exact ⟨rfl, rfl, rfl⟩
            · have ne : lfS (kpB tl tg F Y g) i ≠ k9 := by
                have := lf_lt (kpB tl tg F Y g) (show i < m by omega) q
                omega
              rw [va_upn ne, pk_uLn ne, pk_uLn ne]
              exact a2 i (by omega) q
          · have ne : k ≠ k9 := by omega
            rw [va_upn ne, pk_uLn ne, pk_uLn ne]
            exact a3 k (by omega)
    · have f : ¬ kpB tl tg F Y g m = true := by unfold kpB; rw [if_neg c]; decide
      rw [lf_f c, lf_f f]
      refine ⟨ih.1, fun i hi q => ?_, ih.2.2⟩
      by_cases e : i = m
      · subst e; exact absurd q f
      · exact ih.2.1 i (by omega) q
theorem kp_En {g : Nat → Bool} {F Y : Nat → Int64} {n : Nat} {nu : Nat → Nat} {lo hi : Nat → Int64} (h : En g F Y n nu lo hi) (tl tg : Int64) :
    (kpS tl tg nu lo hi (lfS g n)).1 = lfS (ktS tl tg F Y g n) n ∧ En (ktS tl tg F Y g n) F Y n (kpS tl tg nu lo hi (lfS g n)).2.1 (kpS tl tg nu lo hi (lfS g n)).2.2.1 (kpS tl tg nu lo hi (lfS g n)).2.2.2 := by
  obtain ⟨h1, h2, -⟩ := kp_spec h tl tg n (Nat.le_refl n)
  have e : ∀ i, i < n → kpB tl tg F Y g i = ktS tl tg F Y g n i := fun i hi => by rw [kt_at, if_pos hi]
  refine ⟨by rw [h1]; exact lf_congr n e, En_congr e (fun i hi gi => h2 i hi gi)⟩
/-- the farthest, in both ways -/
theorem far_spec {g : Nat → Bool} {F Y : Nat → Int64} {n : Nat} {nu : Nat → Nat} {lo hi : Nat → Int64} (h : En g F Y n nu lo hi) (hD : ∀ i, i < n → g i = true → 0 ≤ (faS F Y g i n).toInt) : ∀ m, m ≤ n →
    (lfS g m = 0 → leS n F Y g m = (-1, -1)) ∧ (1 ≤ lfS g m → ∃ i, i < m ∧ g i = true ∧ leS n F Y g m = (nI i, faS F Y g i n) ∧ frS (lfS g n) lo hi (lfS g m - 1) = lfS g i)
  | 0, _ => ⟨fun _ => rfl, fun q => absurd q (by simp [lfS])⟩
  | m + 1, hm => by
    have ih := far_spec h hD m (by omega)
    by_cases c : g m = true
    · rw [lf_t c]
      refine ⟨fun q => by omega, fun _ => ?_⟩
      by_cases z : lfS g m = 0
      · refine ⟨m, by omega, c, ?_, ?_⟩
        · simp only [leS, ih.1 z, if_pos c]
          have d := hD m (by omega) c
          have nl : ¬ faS F Y g m n < -1 := fun q => by
            have := i64_lt.mp q
            have e : (-1 : Int64).toInt = -1 := by decide
            omega
          rw [if_neg nl]
          simp only [if_neg nl]
        · rw [z]; rfl
      · obtain ⟨i, h1, h2, h3, h4⟩ := ih.2 (by omega)
        have d1 := dist_eq h (show m < n by omega) c n (Nat.le_refl n)
        have d2 := dist_eq h (show i < n by omega) h2 n (Nat.le_refl n)
        have e0 : lfS g m + 1 - 1 = (lfS g m - 1) + 1 := by omega
        have e1 : lfS g m - 1 + 1 = lfS g m := by omega
        rw [e0]
        by_cases q : faS F Y g m n < faS F Y g i n
        · refine ⟨i, by omega, h2, ?_, ?_⟩
          · simp only [leS, h3, if_pos c, if_pos q]
          · simp only [frS, h4, e1, d1, d2, if_pos q]
        · refine ⟨m, by omega, c, ?_, ?_⟩
          · simp only [leS, h3, if_pos c, if_neg q]
          · simp only [frS, h4, e1, d1, d2, if_neg q]
    · rw [lf_f c]
      have el : leS n F Y g (m + 1) = leS n F Y g m := by simp only [leS, if_neg c]
      rw [el]
      refine ⟨ih.1, fun q => ?_⟩
      obtain ⟨i, h1, h2, h3, h4⟩ := ih.2 q
      exact ⟨i, by omega, h2, h3, h4⟩
theorem rm_at (nu : Nat → Nat) (lo hi : Nat → Int64) (p : Nat) : ∀ j k : Nat, (rmS nu lo hi p j).1 k = (if p ≤ k ∧ k < p + j then nu (k + 1) else nu k) ∧ (rmS nu lo hi p j).2.1 k = (if p ≤ k ∧ k < p + j then lo (k + 1) else lo k) ∧ (rmS nu lo hi p j).2.2 k = (if p ≤ k ∧ k < p + j then hi (k + 1) else hi k)
  | 0, k => by
    rw [if_neg (by omega), if_neg (by omega), if_neg (by omega)]
    exact ⟨rfl, rfl, rfl⟩
  | j + 1, k => by
    have ih := rm_at nu lo hi p j
    have e : p + 1 + j - 1 = p + j := by omega
    have e2 : p + 1 + j = p + j + 1 := by omega
    obtain ⟨x1, x2, x3⟩ := ih (p + j + 1)
    rw [if_neg (by omega)] at x1 x2 x3
    simp only [rmS, e2, x1, x2, x3, Nat.add_sub_cancel]
    by_cases c : k = p + j
    · subst c
      rw [va_ups, pk_uLs, pk_uLs, if_pos (by omega), if_pos (by omega), if_pos (by omega)]
      exact ⟨rfl, rfl, rfl⟩
    · rw [va_upn c, pk_uLn c, pk_uLn c]
      obtain ⟨y1, y2, y3⟩ := ih k
      rw [y1, y2, y3]
      by_cases c2 : p ≤ k ∧ k < p + j
      · rw [if_pos c2, if_pos c2, if_pos c2, if_pos (by omega), if_pos (by omega), if_pos (by omega)]
        exact ⟨rfl, rfl, rfl⟩
      · rw [if_neg c2, if_neg c2, if_neg c2, if_neg (by omega), if_neg (by omega), if_neg (by omega)]
        exact ⟨rfl, rfl, rfl⟩
theorem lf_out {g : Nat → Bool} {w : Nat} (gw : g w = true) : ∀ n : Nat, lfS (va_up g w false) n = if n ≤ w then lfS g n else lfS g n - 1
  | 0 => by simp [lfS]
  | n + 1 => by
    have ih := lf_out gw n
    by_cases e : n = w
    · subst e
      rw [lf_f (by rw [va_ups]; decide), ih, if_pos (Nat.le_refl _), if_neg (by omega), lf_t gw]
      omega
    · by_cases c : g n = true
      · rw [lf_t (by rw [va_upn e]; exact c), ih, lf_t c]
        by_cases q : n ≤ w
        · rw [if_pos q, if_pos (by omega)]
        · rw [if_neg q, if_neg (by omega)]
          have := lf_lt g (show w < n by omega) gw
          omega
      · rw [lf_f (by rw [va_upn e]; exact c), ih, lf_f c]
        by_cases q : n ≤ w
        · rw [if_pos q, if_pos (by omega)]
        · rw [if_neg q, if_neg (by omega)]
/-- one leaves, in both ways -/
theorem leave_En {g : Nat → Bool} {F Y : Nat → Int64} {n : Nat} {nu : Nat → Nat} {lo hi : Nat → Int64} (hn : n ≤ 6) (h : En g F Y n nu lo hi) (hD : ∀ i, i < n → g i = true → 0 ≤ (faS F Y g i n).toInt) (h1 : 1 ≤ lfS g n) :
    lfS (f_T_leave_r3 n F Y g) n = lfS g n - 1 ∧ (∀ i, f_T_leave_r3 n F Y g i = true → g i = true) ∧
    En (f_T_leave_r3 n F Y g) F Y n (rmS nu lo hi (frS (lfS g n) lo hi (lfS g n - 1)) (lfS g n - (frS (lfS g n) lo hi (lfS g n - 1) + 1))).1 (rmS nu lo hi (frS (lfS g n) lo hi (lfS g n - 1)) (lfS g n - (frS (lfS g n) lo hi (lfS g n - 1) + 1))).2.1 (rmS nu lo hi (frS (lfS g n) lo hi (lfS g n - 1)) (lfS g n - (frS (lfS g n) lo hi (lfS g n - 1) + 1))).2.2 := by
  obtain ⟨w, w1, w2, w3, w4⟩ := (far_spec h hD n (Nat.le_refl n)).2 h1
  have el : f_T_leave_r3 n F Y g = va_up g w false := by
    unfold f_T_leave_r3
    rw [w3]
    dsimp only
    rw [if_neg (nI_pos (by omega)), nI_clamp (by omega)]
  rw [el, w4]
  have lw := lf_lt g w1 w2
  refine ⟨by rw [lf_out w2, if_neg (by omega)], fun i q => ?_, fun i hi gi => ?_⟩
  · by_cases e : i = w
    · subst e; exact w2
    · rw [va_upn e] at q; exact q
  · have e : i ≠ w := fun e => by rw [e, va_ups] at gi; cases gi
    rw [va_upn e] at gi
    obtain ⟨x1, x2, x3⟩ := h i hi gi
    have li := lf_lt g hi gi
    obtain ⟨r1, r2, r3⟩ := rm_at nu lo ‹Nat → Int64› (lfS g w) (lfS g n - (lfS g w + 1)) (lfS (va_up g w false) i)
    rw [r1, r2, r3, lf_out w2]
    by_cases q : i ≤ w
    · have := lf_lt g (show i < w by omega) gi
      rw [if_pos q, if_neg (by omega), if_neg (by omega), if_neg (by omega)]
      exact ⟨x1, x2, x3⟩
    · have := lf_lt g (show w < i by omega) w2
      rw [if_neg q, if_pos (by omega), if_pos (by omega), if_pos (by omega)]
      have e2 : lfS g i - 1 + 1 = lfS g i := by omega
      rw [e2]
      exact ⟨x1, x2, x3⟩
theorem fst9_is (ok : Nat → Bool) : ∀ d j k : Nat, j ≤ k → k < j + d → (∀ i, j ≤ i → i < k → ¬ ok i = true) → ok k = true → fst9 ok d j = k
  | 0, j, k, h1, h2, _, _ => by omega
  | d + 1, j, k, h1, h2, h3, h4 => by
    unfold fst9
    by_cases e : j = k
    · subst e; rw [if_pos h4]
    · rw [if_neg (h3 j (Nat.le_refl j) (by omega))]
      exact fst9_is ok d (j + 1) k (by omega) (by omega) (fun i a b => h3 i (by omega) b) h4
theorem fst9_no (ok : Nat → Bool) : ∀ d j : Nat, (∀ i, j ≤ i → i < j + d → ¬ ok i = true) → fst9 ok d j = j + d
  | 0, j, _ => rfl
  | d + 1, j, h => by
    unfold fst9
    rw [if_neg (h j (Nat.le_refl j) (by omega)), fst9_no ok d (j + 1) (fun i a b => h i (by omega) (by omega))]
    omega
theorem fst9_sp (ok : Nat → Bool) : ∀ d j : Nat, (∀ i, j ≤ i → i < fst9 ok d j → ¬ ok i = true) ∧ (fst9 ok d j < j + d → ok (fst9 ok d j) = true)
  | 0, j => ⟨fun i a b => by unfold fst9 at b; omega, fun q => by unfold fst9 at q; omega⟩
  | d + 1, j => by
    have ih := fst9_sp ok d (j + 1)
    by_cases c : ok j = true
    · have e : fst9 ok (d + 1) j = j := by unfold fst9; rw [if_pos c]
      rw [e]
      exact ⟨fun i a b => by omega, fun _ => c⟩
    · have e : fst9 ok (d + 1) j = fst9 ok d (j + 1) := by conv => lhs; unfold fst9; rw [if_neg c]
      rw [e]
      refine ⟨fun i a b => ?_, fun q => ih.2 (by omega)⟩
      by_cases e2 : i = j
      · subst e2; exact c
      · exact ih.1 i (by omega) b
