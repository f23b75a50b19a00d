/-! 32h.reply: a reply, in both ways -/
theorem shf_at (lo hi ti : Nat → Int64) (s : Nat) : ∀ j, j ≤ s - 1 → ∀ k,
    (shf lo hi ti s j).1 k = (if s - 1 - j < k ∧ k ≤ s - 1 then lo (k - 1) else lo k) ∧ (shf lo hi ti s j).2.1 k = (if s - 1 - j < k ∧ k ≤ s - 1 then hi (k - 1) else hi k) ∧ (shf lo hi ti s j).2.2 k = (if s - 1 - j < k ∧ k ≤ s - 1 then ti (k - 1) else ti k)
  | 0, _, k => by
    rw [if_neg (by omega), if_neg (by omega), if_neg (by omega)]
    exact ⟨rfl, rfl, rfl⟩
  | j + 1, hj, k => by
    have ih := shf_at lo hi ti s j (by omega)
    obtain ⟨x1, x2, x3⟩ := ih (s - 1 - j - 1)
    rw [if_neg (by omega)] at x1 x2 x3
    simp only [shf, x1, x2, x3]
    by_cases c : k = s - 1 - j
    · subst c
      rw [pk_uLs, pk_uLs, pk_uLs, if_pos (by omega), if_pos (by omega), if_pos (by omega)]
      exact ⟨rfl, rfl, rfl⟩
    · rw [pk_uLn c, pk_uLn c, pk_uLn c]
      obtain ⟨y1, y2, y3⟩ := ih k
      rw [y1, y2, y3]
      by_cases c2 : s - 1 - j < k ∧ k ≤ s - 1
      · rw [if_pos c2, if_pos c2, if_pos c2, if_pos (by omega), if_pos (by omega), if_pos (by omega)]
        exact ⟨rfl, rfl, rfl⟩
      · rw [if_neg c2, if_neg c2, if_neg c2, if_neg (by omega), if_neg (by omega), if_neg (by omega)]
        exact ⟨rfl, rfl, rfl⟩
theorem tShf_at (gL gH gI : Nat → Int64) (i s : Nat) (hs : 1 ≤ s) : ∀ j, j ≤ s - 1 → ∀ p,
    (tShf gL gH gI i s j).1 p = (if 8 * i + s - 1 - j < p ∧ p ≤ 8 * i + s - 1 then gL (p - 1) else gL p) ∧ (tShf gL gH gI i s j).2.1 p = (if 8 * i + s - 1 - j < p ∧ p ≤ 8 * i + s - 1 then gH (p - 1) else gH p) ∧ (tShf gL gH gI i s j).2.2 p = (if 8 * i + s - 1 - j < p ∧ p ≤ 8 * i + s - 1 then gI (p - 1) else gI p)
  | 0, _, p => by
    rw [if_neg (by omega), if_neg (by omega), if_neg (by omega)]
    exact ⟨rfl, rfl, rfl⟩
  | j + 1, hj, p => by
    have ih := tShf_at gL gH gI i s hs j (by omega)
    obtain ⟨x1, x2, x3⟩ := ih (8 * i + s - 1 - j - 1)
    rw [if_neg (by omega)] at x1 x2 x3
    simp only [tShf, x1, x2, x3]
    by_cases c : p = 8 * i + s - 1 - j
    · subst c
      rw [pk_uLs, pk_uLs, pk_uLs, if_pos (by omega), if_pos (by omega), if_pos (by omega)]
      exact ⟨rfl, rfl, rfl⟩
    · rw [pk_uLn c, pk_uLn c, pk_uLn c]
      obtain ⟨y1, y2, y3⟩ := ih p
      rw [y1, y2, y3]
      by_cases c2 : 8 * i + s - 1 - j < p ∧ p ≤ 8 * i + s - 1
      · rw [if_pos c2, if_pos c2, if_pos c2, if_pos (by omega), if_pos (by omega), if_pos (by omega)]
        exact ⟨rfl, rfl, rfl⟩
      · rw [if_neg c2, if_neg c2, if_neg c2, if_neg (by omega), if_neg (by omega), if_neg (by omega)]
        exact ⟨rfl, rfl, rfl⟩
theorem accL (sm : Nat) (lo hi ti : Nat → Int64) (v nw : Int64) (k : Nat) : f_Sv_accept_r1 sm lo hi ti v nw k = if k = 0 then v - nw else if k ≤ f_J_min_IIN (sm + 1) 8 - 1 then lo (k - 1) else lo k := by
  unfold f_Sv_accept_r1 f_Sv_makeRoomForSample_r1
  by_cases c : k = 0
  · subst c; rw [pk_uLs, if_pos rfl]
  · rw [pk_uLn c, if_neg c, (shf_at lo hi ti (f_J_min_IIN (sm + 1) 8) (f_J_min_IIN (sm + 1) 8 - 1) (Nat.le_refl _) k).1]
    by_cases c2 : k ≤ f_J_min_IIN (sm + 1) 8 - 1
    · rw [if_pos c2, if_pos (by omega)]
    · rw [if_neg c2, if_neg (by omega)]
theorem accH (sm : Nat) (lo hi ti : Nat → Int64) (psi y : Int64) (k : Nat) : f_Sv_accept_r2 psi sm lo hi ti y k = if k = 0 then y - psi else if k ≤ f_J_min_IIN (sm + 1) 8 - 1 then hi (k - 1) else hi k := by
  unfold f_Sv_accept_r2 f_Sv_makeRoomForSample_r2
  by_cases c : k = 0
  · subst c; rw [pk_uLs, if_pos rfl]
  · rw [pk_uLn c, if_neg c, (shf_at lo hi ti (f_J_min_IIN (sm + 1) 8) (f_J_min_IIN (sm + 1) 8 - 1) (Nat.le_refl _) k).2.1]
    by_cases c2 : k ≤ f_J_min_IIN (sm + 1) 8 - 1
    · rw [if_pos c2, if_pos (by omega)]
    · rw [if_neg c2, if_neg (by omega)]
theorem accT (sm : Nat) (lo hi ti : Nat → Int64) (nw : Int64) (k : Nat) : f_Sv_accept_r3 sm lo hi ti nw k = if k = 0 then nw else if k ≤ f_J_min_IIN (sm + 1) 8 - 1 then ti (k - 1) else ti k := by
  unfold f_Sv_accept_r3 f_Sv_makeRoomForSample_r3
  by_cases c : k = 0
  · subst c; rw [pk_uLs, if_pos rfl]
  · rw [pk_uLn c, if_neg c, (shf_at lo hi ti (f_J_min_IIN (sm + 1) 8) (f_J_min_IIN (sm + 1) 8 - 1) (Nat.le_refl _) k).2.2]
    by_cases c2 : k ≤ f_J_min_IIN (sm + 1) 8 - 1
    · rw [if_pos c2, if_pos (by omega)]
    · rw [if_neg c2, if_neg (by omega)]
theorem tacL (gL gH gI : Nat → Int64) (i s : Nat) (hs : 1 ≤ s) (x : Int64) (p : Nat) : vp_updL ((tShf gL gH gI i s (s - 1)).1) (8 * i) x p = if p = 8 * i then x else if 8 * i < p ∧ p ≤ 8 * i + s - 1 then gL (p - 1) else gL p := by
  by_cases c : p = 8 * i
  · subst c; rw [pk_uLs, if_pos rfl]
  · rw [pk_uLn c, if_neg c, (tShf_at gL gH gI i s hs (s - 1) (Nat.le_refl _) p).1]
    by_cases c2 : 8 * i < p ∧ p ≤ 8 * i + s - 1
    · rw [if_pos c2, if_pos (by omega)]
    · rw [if_neg c2, if_neg (by omega)]
theorem tacH (gL gH gI : Nat → Int64) (i s : Nat) (hs : 1 ≤ s) (x : Int64) (p : Nat) : vp_updL ((tShf gL gH gI i s (s - 1)).2.1) (8 * i) x p = if p = 8 * i then x else if 8 * i < p ∧ p ≤ 8 * i + s - 1 then gH (p - 1) else gH p := by
  by_cases c : p = 8 * i
  · subst c; rw [pk_uLs, if_pos rfl]
  · rw [pk_uLn c, if_neg c, (tShf_at gL gH gI i s hs (s - 1) (Nat.le_refl _) p).2.1]
    by_cases c2 : 8 * i < p ∧ p ≤ 8 * i + s - 1
    · rw [if_pos c2, if_pos (by omega)]
    · rw [if_neg c2, if_neg (by omega)]
theorem tacT (gL gH gI : Nat → Int64) (i s : Nat) (hs : 1 ≤ s) (x : Int64) (p : Nat) : vp_updL ((tShf gL gH gI i s (s - 1)).2.2) (8 * i) x p = if p = 8 * i then x else if 8 * i < p ∧ p ≤ 8 * i + s - 1 then gI (p - 1) else gI p := by
  by_cases c : p = 8 * i
  · subst c; rw [pk_uLs, if_pos rfl]
  · rw [pk_uLn c, if_neg c, (tShf_at gL gH gI i s hs (s - 1) (Nat.le_refl _) p).2.2]
    by_cases c2 : 8 * i < p ∧ p ≤ 8 * i + s - 1
    · rw [if_pos c2, if_pos (by omega)]
    · rw [if_neg c2, if_neg (by omega)]
section REP
variable {t nS i : Nat} {dr sf : Int32} {fs : Nat → Option Nat} {nw ls : Int64} {nu : Nat → Nat} {sin sta tt : Int64} {sg : Nat → SvS} {tA : Bool} {tL : Int64} {gK gQ gT gO gL gH gI : Nat → Int64} {gP gW : Nat → Bool} {gM : Nat → Nat} {gS gR gX : Nat → Int32}
theorem why_eq {X : SvS} (h : SR X i gK gQ gT gO gL gH gI gP gW gM gS gR gX) (x y v : Int64) (u : Int32) : f_T_why nw gK gP gQ gT gW gO i x y v u = if f_M_isReplyTime y = true then (if f_M_isReplyTime v = true then (if y ≤ v then (if u = f_M_sealUnder (s_sec X) x y v then (if f_Sv_acceptedLast (s_acc X) (s_sm X) x = true then (-4) else (if f_Sv_expects (s_pen X) (s_pst X) x = true then (if v - y ≤ nw - s_psi X then 0 else (-6)) else (-5))) else (-3)) else (-2)) else (-2)) else (-2) := by
  obtain ⟨b1, b2, b3, b4, b5, b6, b7, b8, b9, b10, b11⟩ := h
  have es : f_T_sealG gK i x y v = f_M_sealUnder (s_sec X) x y v := by rw [seal_eq, b1]; rfl
  have ex : ∀ R : Int32, (if gP i = true then (if gT i = x then R else (-5)) else (-5)) = (if f_Sv_expects (s_pen X) (s_pst X) x = true then R else (-5)) := fun R => by
    unfold f_Sv_expects
    rw [← b2, ← b3]
    by_cases c1 : s_pen X = true
    · by_cases c2 : s_pst X = x
      · simp only [if_pos c1, if_pos c2, if_true]
      · simp only [if_pos c1, if_neg c2, Bool.false_eq_true, if_false]
    · simp only [if_neg c1, Bool.false_eq_true, if_false]
  have al : ∀ R : Int32, (if gW i = true then (if gO i = x then (-4) else R) else R) = (if f_Sv_acceptedLast (s_acc X) (s_sm X) x = true then (-4) else R) := fun R => by
    unfold f_Sv_acceptedLast
    by_cases c1 : s_sm X ≤ 0
    · have : ¬ gW i = true := by rw [b6]; simp; omega
      simp only [if_pos c1, if_neg this, Bool.false_eq_true, if_false]
    · have w : gW i = true := by rw [b6]; simp; omega
      rw [if_pos w, if_neg c1, ← b5 w]
      by_cases c2 : s_acc X = x
      · simp only [if_pos c2, if_true]
      · simp only [if_neg c2, Bool.false_eq_true, if_false]
  unfold f_T_why
  rw [es, ex, al, ← b4]
  rfl
theorem smp_eq {n : Nat} (h : n ≤ 8) : f_J_min_IIN (n + 1) 8 = if n = 8 then 8 else n + 1 := by
  unfold f_J_min_IIN
  by_cases c : n = 8
  · rw [if_pos (by omega), if_pos c]
  · rw [if_neg (by omega), if_neg c]
theorem reply_ans (h : Inv t nS dr fs nw ls nu sin sta tt sg tA tL gK gQ gT gO gL gH gI gP gW gM gS gR gX) (hi : i < nS) (x y v : Int64) (u : Int32) : f_M_replyG nw (s_sec (sg i)) (s_pen (sg i)) (s_pst (sg i)) (s_psi (sg i)) (s_acc (sg i)) (s_sm (sg i)) x y v u = f_T_replyG nw gK gP gQ gT gW gO gM i x y v u := by
  have r := h.2.2.2.2.2.2.1 i hi
  have b := h.2.2.2.2.2.2.2.1 i hi
  unfold f_M_replyG f_T_replyG
  rw [why_eq r, ← r.2.2.2.2.2.2.2.2.2.1, smp_eq b.1]
  have n2 : ¬ (-2 : Int32) = 0 := by decide
  have n3 : ¬ (-3 : Int32) = 0 := by decide
  have n4 : ¬ (-4 : Int32) = 0 := by decide
  have n5 : ¬ (-5 : Int32) = 0 := by decide
  have n6 : ¬ (-6 : Int32) = 0 := by decide
  by_cases c1 : f_M_isReplyTime y = true
  · by_cases c2 : f_M_isReplyTime v = true
    · by_cases c3 : y ≤ v
      · by_cases c4 : u = f_M_sealUnder (s_sec (sg i)) x y v
        · by_cases c5 : f_Sv_acceptedLast (s_acc (sg i)) (s_sm (sg i)) x = true
          · simp only [if_pos c1, if_pos c2, if_pos c3, if_pos c4, if_pos c5, if_neg n4]
          · by_cases c6 : f_Sv_expects (s_pen (sg i)) (s_pst (sg i)) x = true
            · by_cases c7 : v - y ≤ nw - s_psi (sg i)
              · simp only [if_pos c1, if_pos c2, if_pos c3, if_pos c4, if_neg c5, if_pos c6, if_pos c7, if_true]
              · simp only [if_pos c1, if_pos c2, if_pos c3, if_pos c4, if_neg c5, if_pos c6, if_neg c7, if_neg n6]
            · simp only [if_pos c1, if_pos c2, if_pos c3, if_pos c4, if_neg c5, if_neg c6, if_neg n5]
        · simp only [if_pos c1, if_pos c2, if_pos c3, if_neg c4, if_neg n3]
      · simp only [if_pos c1, if_pos c2, if_neg c3, if_neg n2]
    · simp only [if_pos c1, if_neg c2, if_neg n2]
  · simp only [if_neg c1, if_neg n2]
/-- an accepted reply -/
theorem inv_acc (h : Inv t nS dr fs nw ls nu sin sta tt sg tA tL gK gQ gT gO gL gH gI gP gW gM gS gR gX) (ht : t ≤ 512) (hi : i < nS) (x y v : Int64) (hy : f_M_isReplyTime y = true) (hv : f_M_isReplyTime v = true) :
    Inv (t + 1) nS dr fs nw ls nu sin sta tt (va_up sg i (svm (s_a (sg i)) (s_b1 (sg i)) (s_b2 (sg i)) (s_b3 (sg i)) (s_sec (sg i)) false (s_pst (sg i)) (s_psi (sg i)) x (s_str (sg i)) (s_ref (sg i)) (s_rt (sg i)) (f_J_min_IIN (s_sm (sg i) + 1) 8) (f_Sv_accept_r1 (s_sm (sg i)) (s_lo (sg i)) (s_hi (sg i)) (s_ti (sg i)) v nw) (f_Sv_accept_r2 (s_psi (sg i)) (s_sm (sg i)) (s_lo (sg i)) (s_hi (sg i)) (s_ti (sg i)) y) (f_Sv_accept_r3 (s_sm (sg i)) (s_lo (sg i)) (s_hi (sg i)) (s_ti (sg i)) nw))) tA tL gK gQ gT (vp_updL gO i x)
      (vp_updL ((tShf gL gH gI i (if gM i = 8 then 8 else gM i + 1) ((if gM i = 8 then 8 else gM i + 1) - 1)).1) (8 * i) (v - nw)) (vp_updL ((tShf gL gH gI i (if gM i = 8 then 8 else gM i + 1) ((if gM i = 8 then 8 else gM i + 1) - 1)).2.1) (8 * i) (y - gQ i)) (vp_updL ((tShf gL gH gI i (if gM i = 8 then 8 else gM i + 1) ((if gM i = 8 then 8 else gM i + 1) - 1)).2.2) (8 * i) nw) (va_up gP i false) (va_up gW i true) (va_up gM i (if gM i = 8 then 8 else gM i + 1)) gS gR gX := by
  have h' := h
  obtain ⟨a1, a2, a3, a4, ⟨a5, a6, a7, a8⟩, a9, a10, a11, a12, a13, a14, a15⟩ := h'
  obtain ⟨b1, b2, b3, b4, b5, b6, b7, b8, b9, b10, b11⟩ := a10 i hi
  obtain ⟨k1, k2, k3, k4, k5, k6⟩ := a11 i hi
  have y1 := bt_iff.mp hy
  have v1 := bt_iff.mp hv
  rw [i64_le, i64_le, i64_0] at y1 v1
  have eB : (1099511627776 : Int64).toInt = 1099511627776 := by decide
  have eS : (if gM i = 8 then 8 else gM i + 1) = f_J_min_IIN (s_sm (sg i) + 1) 8 := by rw [← b10, smp_eq k1]
  have s1 : 1 ≤ f_J_min_IIN (s_sm (sg i) + 1) 8 ∧ f_J_min_IIN (s_sm (sg i) + 1) 8 ≤ 8 ∧ f_J_min_IIN (s_sm (sg i) + 1) 8 ≤ s_sm (sg i) + 1 := by unfold f_J_min_IIN; split <;> omega
  rw [eS]
  have eQ : gQ i = s_psi (sg i) := b4.symm
  rw [eQ]
  have ew : (v - nw).toInt = v.toInt - nw.toInt := i64_sub (by omega) (by omega)
  have ey : (y - s_psi (sg i)).toInt = y.toInt - (s_psi (sg i)).toInt := i64_sub (by omega) (by omega)
  refine Inv_sv h rfl ⟨b1, (va_ups).symm, b3, b4, fun _ => (pk_uLs).symm, ?_, b7, b8, b9, (va_ups).symm, fun k hk => ?_⟩ ⟨s1.2.1, k2, k3, k4, k5, fun k hk => ?_⟩ ⟨a5, a6, a7, by omega⟩ (fun j hj => ?_) (fun j hj e => ⟨rfl, rfl, rfl, pk_uLn e, va_upn e, va_upn e, va_upn e, rfl, rfl, rfl, fun k hk => ?_⟩)
  · rw [va_ups]
    show true = decide (0 < f_J_min_IIN (s_sm (sg i) + 1) 8)
    simp; omega
  · show f_Sv_accept_r1 (s_sm (sg i)) (s_lo (sg i)) (s_hi (sg i)) (s_ti (sg i)) v nw k = _ ∧ f_Sv_accept_r2 (s_psi (sg i)) (s_sm (sg i)) (s_lo (sg i)) (s_hi (sg i)) (s_ti (sg i)) y k = _ ∧ f_Sv_accept_r3 (s_sm (sg i)) (s_lo (sg i)) (s_hi (sg i)) (s_ti (sg i)) nw k = _
    have hk' : k < f_J_min_IIN (s_sm (sg i) + 1) 8 := hk
    rw [accL, accH, accT, tacL _ _ _ _ _ s1.1, tacH _ _ _ _ _ s1.1, tacT _ _ _ _ _ s1.1]
    by_cases c : k = 0
    · have p1 : 8 * i + k = 8 * i := by omega
      simp only [if_pos c, if_pos p1]
      exact ⟨by trivial, by trivial, by trivial⟩
    · obtain ⟨z1, z2, z3⟩ := b11 (k - 1) (by omega)
      have ei : 8 * i + k - 1 = 8 * i + (k - 1) := by omega
      have q1 : k ≤ f_J_min_IIN (s_sm (sg i) + 1) 8 - 1 := by omega
      have q2 : ¬ 8 * i + k = 8 * i := by omega
      have q3 : 8 * i < 8 * i + k ∧ 8 * i + k ≤ 8 * i + f_J_min_IIN (s_sm (sg i) + 1) 8 - 1 := by omega
      simp only [if_neg c, if_pos q1, if_neg q2, if_pos q3, ei]
      exact ⟨z1, z2, z3⟩
  · show (-2199023255552 ≤ (f_Sv_accept_r1 (s_sm (sg i)) (s_lo (sg i)) (s_hi (sg i)) (s_ti (sg i)) v nw k).toInt ∧ (f_Sv_accept_r1 (s_sm (sg i)) (s_lo (sg i)) (s_hi (sg i)) (s_ti (sg i)) v nw k).toInt ≤ 2199023255552) ∧ (-2199023255552 ≤ (f_Sv_accept_r2 (s_psi (sg i)) (s_sm (sg i)) (s_lo (sg i)) (s_hi (sg i)) (s_ti (sg i)) y k).toInt ∧ (f_Sv_accept_r2 (s_psi (sg i)) (s_sm (sg i)) (s_lo (sg i)) (s_hi (sg i)) (s_ti (sg i)) y k).toInt ≤ 2199023255552) ∧ 0 ≤ (f_Sv_accept_r3 (s_sm (sg i)) (s_lo (sg i)) (s_hi (sg i)) (s_ti (sg i)) nw k).toInt ∧ (f_Sv_accept_r3 (s_sm (sg i)) (s_lo (sg i)) (s_hi (sg i)) (s_ti (sg i)) nw k).toInt ≤ nw.toInt
    have hk' : k < f_J_min_IIN (s_sm (sg i) + 1) 8 := hk
    rw [accL, accH, accT]
    by_cases c : k = 0
    · rw [if_pos c, if_pos c, if_pos c]
      omega
    · have q1 : k ≤ f_J_min_IIN (s_sm (sg i) + 1) 8 - 1 := by omega
      simp only [if_neg c, if_pos q1]
      exact k6 (k - 1) (by omega)
  · by_cases e : j = i
    · subst e; rw [va_ups]; exact s1.2.1
    · rw [va_upn e]; exact a12 j hj
  · have n1 : ¬ 8 * j + k = 8 * i := by omega
    have n2 : ¬ (8 * i < 8 * j + k ∧ 8 * j + k ≤ 8 * i + f_J_min_IIN (s_sm (sg i) + 1) 8 - 1) := by omega
    rw [tacL _ _ _ _ _ s1.1, tacH _ _ _ _ _ s1.1, tacT _ _ _ _ _ s1.1]
    simp only [if_neg n1, if_neg n2]
    exact ⟨by trivial, by trivial, by trivial⟩
theorem inv_reply (h : Inv t nS dr fs nw ls nu sin sta tt sg tA tL gK gQ gT gO gL gH gI gP gW gM gS gR gX) (ht : t ≤ 512) (hi : i < nS) (x y v : Int64) (u : Int32) :
    Inv (t + 1) nS dr fs nw ls nu sin sta tt (va_up sg i (svm (s_a (sg i)) (s_b1 (sg i)) (s_b2 (sg i)) (s_b3 (sg i)) (s_sec (sg i)) (f_M_replyG_Sv_pending nw (s_sec (sg i)) (s_pen (sg i)) (s_pst (sg i)) (s_psi (sg i)) (s_acc (sg i)) (s_sm (sg i)) x y v u) (s_pst (sg i)) (s_psi (sg i)) (f_M_replyG_Sv_acceptedOrigin nw (s_sec (sg i)) (s_pen (sg i)) (s_pst (sg i)) (s_psi (sg i)) (s_acc (sg i)) (s_sm (sg i)) x y v u) (s_str (sg i)) (s_ref (sg i)) (s_rt (sg i)) (f_M_replyG_Sv_samples nw (s_sec (sg i)) (s_pen (sg i)) (s_pst (sg i)) (s_psi (sg i)) (s_acc (sg i)) (s_sm (sg i)) x y v u) (f_M_replyG_r3 nw (s_sec (sg i)) (s_pen (sg i)) (s_pst (sg i)) (s_psi (sg i)) (s_acc (sg i)) (s_sm (sg i)) (s_lo (sg i)) (s_hi (sg i)) (s_ti (sg i)) x y v u) (f_M_replyG_r4 nw (s_sec (sg i)) (s_pen (sg i)) (s_pst (sg i)) (s_psi (sg i)) (s_acc (sg i)) (s_sm (sg i)) (s_lo (sg i)) (s_hi (sg i)) (s_ti (sg i)) x y v u) (f_M_replyG_r5 nw (s_sec (sg i)) (s_pen (sg i)) (s_pst (sg i)) (s_psi (sg i)) (s_acc (sg i)) (s_sm (sg i)) (s_lo (sg i)) (s_hi (sg i)) (s_ti (sg i)) x y v u))) tA tL gK gQ gT (f_T_replyG_r6 nw gK gP gQ gT gW gO i x y v u) (f_T_replyG_r8 nw gK gP gQ gT gW gO gM gL gH gI i x y v u) (f_T_replyG_r9 nw gK gP gQ gT gW gO gM gL gH gI i x y v u) (f_T_replyG_r10 nw gK gP gQ gT gW gO gM gL gH gI i x y v u) (f_T_replyG_r2 nw gK gP gQ gT gW gO i x y v u) (f_T_replyG_r5 nw gK gP gQ gT gW gO i x y v u) (f_T_replyG_r7 nw gK gP gQ gT gW gO gM i x y v u) gS gR gX := by
  have h' := h
  obtain ⟨a1, a2, a3, a4, ⟨a5, a6, a7, a8⟩, a9, a10, a11, a12, a13, a14, a15⟩ := h'
  have r := a10 i hi
  obtain ⟨b1, b2, b3, b4, b5, b6, b7, b8, b9, b10, b11⟩ := a10 i hi
  have keep : Inv (t + 1) nS dr fs nw ls nu sin sta tt (va_up sg i (svm (s_a (sg i)) (s_b1 (sg i)) (s_b2 (sg i)) (s_b3 (sg i)) (s_sec (sg i)) (s_pen (sg i)) (s_pst (sg i)) (s_psi (sg i)) (s_acc (sg i)) (s_str (sg i)) (s_ref (sg i)) (s_rt (sg i)) (s_sm (sg i)) (s_lo (sg i)) (s_hi (sg i)) (s_ti (sg i)))) tA tL gK gQ gT gO gL gH gI gP gW gM gS gR gX :=
    Inv_sv h rfl ⟨b1, b2, b3, b4, b5, b6, b7, b8, b9, b10, b11⟩ (a11 i hi) ⟨a5, a6, a7, by omega⟩ a12 (fun j hj e => ⟨rfl, rfl, rfl, rfl, rfl, rfl, rfl, rfl, rfl, rfl, fun k hk => ⟨rfl, rfl, rfl⟩⟩)
  unfold f_M_replyG_Sv_pending f_M_replyG_Sv_acceptedOrigin f_M_replyG_Sv_samples f_M_replyG_r3 f_M_replyG_r4 f_M_replyG_r5 f_T_replyG_r2 f_T_replyG_r5 f_T_replyG_r6 f_T_replyG_r7 f_T_replyG_r8 f_T_replyG_r9 f_T_replyG_r10
  rw [why_eq r]
  have n2 : ¬ (-2 : Int32) = 0 := by decide
  have n3 : ¬ (-3 : Int32) = 0 := by decide
  have n4 : ¬ (-4 : Int32) = 0 := by decide
  have n5 : ¬ (-5 : Int32) = 0 := by decide
  have n6 : ¬ (-6 : Int32) = 0 := by decide
  by_cases c1 : f_M_isReplyTime y = true
  · by_cases c2 : f_M_isReplyTime v = true
    · by_cases c3 : y ≤ v
      · by_cases c4 : u = f_M_sealUnder (s_sec (sg i)) x y v
        · by_cases c5 : f_Sv_acceptedLast (s_acc (sg i)) (s_sm (sg i)) x = true
          · simp only [if_pos c1, if_pos c2, if_pos c3, if_pos c4, if_pos c5, if_neg n4]; exact keep
          · by_cases c6 : f_Sv_expects (s_pen (sg i)) (s_pst (sg i)) x = true
            · by_cases c7 : v - y ≤ nw - s_psi (sg i)
              · simp only [if_pos c1, if_pos c2, if_pos c3, if_pos c4, if_neg c5, if_pos c6, if_pos c7, if_true]; exact inv_acc h ht hi x y v c1 c2
              · simp only [if_pos c1, if_pos c2, if_pos c3, if_pos c4, if_neg c5, if_pos c6, if_neg c7, if_neg n6]; exact keep
            · simp only [if_pos c1, if_pos c2, if_pos c3, if_pos c4, if_neg c5, if_neg c6, if_neg n5]; exact keep
        · simp only [if_pos c1, if_pos c2, if_pos c3, if_neg c4, if_neg n3]; exact keep
      · simp only [if_pos c1, if_pos c2, if_neg c3, if_neg n2]; exact keep
    · simp only [if_pos c1, if_neg c2, if_neg n2]; exact keep
  · simp only [if_neg c1, if_neg n2]; exact keep
end REP
