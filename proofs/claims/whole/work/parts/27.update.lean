/-! 27.update: an update whole -/
theorem upd_A {g : Nat → Bool} {F Y : Nat → Int64} {n : Nat} {nu : Nat → Nat} {lo hi : Nat → Int64} (hn : n ≤ 6) (h : En g F Y n nu lo hi) (hB : ∀ i, i < n → g i = true → Bd (F i) ∧ Bd (Y i)) (S : Nat → Int32) (sg : Nat → SvS) (hs : ∀ i, i < n → s_str (sg i) = S i) (tl tg hl hh er vl vh : Int64) (sb os tb : Int32)
    {nw sin sta tt : Int64} {st : Bool} (c1 : 0 ≤ sin.toInt) (c2 : sin.toInt ≤ nw.toInt) (c3 : nw.toInt ≤ 1000000000000) (c4 : Bd sta) (c5 : Bd tt) (hos : os = if st = true then tb + 1 else 16) :
    f_M_update_A (lfS g n) hl hh nu lo hi = f_T_update_A n tl tg F Y g ∧
    f_M_update_A_Sd_started (lfS g n) lo hi st = f_T_update_A_set n tl tg st F Y g ∧
    f_M_update_A_Sd_since nw (lfS g n) lo hi sin = f_T_update_A_madeAt n nw tl tg sin F Y g ∧
    f_M_update_A_Sd_startCorrection nw (lfS g n) hl hh nu lo hi st sin sta tt = f_T_update_A_startedFrom n nw tl tg st tt sin sta S F Y g ∧
    f_M_update_A_Sd_target (lfS g n) hl hh nu lo hi tt = f_T_update_A_target n tl tg tt S F Y g ∧
    f_M_update_A_Sd_error (lfS g n) hl hh nu lo hi er = f_T_update_A_error n tl tg er S F Y g ∧
    f_M_update_A_Sd_hullLow (lfS g n) hl lo hi vl = f_T_update_A_lower n tl tg vl F Y g ∧
    f_M_update_A_Sd_hullHigh (lfS g n) hh lo hi vh = f_T_update_A_upper n tl tg vh F Y g ∧
    f_M_update_A_Sd_survivorBits (lfS g n) hl hh nu lo hi sb = f_T_update_A_mask n tl tg sb S F Y g ∧
    f_M_update_A_Sd_ownStratum (lfS g n) hl hh nu lo hi os sg = (if f_T_update_A_set n tl tg st F Y g = true then f_T_update_A_best n tl tg tb S F Y g + 1 else 16) ∧
    ((hwS n tl tg F Y g (lfS g n) (fst9 (fun j => (hwS n tl tg F Y g (lfS g n) j).1) ((lfS g n + 1) / 2) 0)).1 = true → ¬ t_many n F Y (ktS (hwS n tl tg F Y g (lfS g n) (fst9 (fun j => (hwS n tl tg F Y g (lfS g n) j).1) ((lfS g n + 1) / 2) 0)).2.1 (hwS n tl tg F Y g (lfS g n) (fst9 (fun j => (hwS n tl tg F Y g (lfS g n) j).1) ((lfS g n + 1) / 2) 0)).2.2 F Y g n) = 0) ∧
    Bd (f_M_update_A_Sd_startCorrection nw (lfS g n) hl hh nu lo hi st sin sta tt) ∧ Bd (f_M_update_A_Sd_target (lfS g n) hl hh nu lo hi tt) ∧ 0 ≤ (f_M_update_A_Sd_since nw (lfS g n) lo hi sin).toInt ∧ (f_M_update_A_Sd_since nw (lfS g n) lo hi sin).toInt ≤ nw.toInt := by
  by_cases c0 : lfS g n = 0
  · exact ⟨(by simp only [f_M_update_A, f_T_update_A, if_pos c0]),
      (by simp only [f_M_update_A_Sd_started, f_T_update_A_set, if_pos c0]),
      (by simp only [f_M_update_A_Sd_since, f_T_update_A_madeAt, if_pos c0]),
      (by simp only [f_M_update_A_Sd_startCorrection, f_T_update_A_startedFrom, if_pos c0]),
      (by simp only [f_M_update_A_Sd_target, f_T_update_A_target, if_pos c0]),
      (by simp only [f_M_update_A_Sd_error, f_T_update_A_error, if_pos c0]),
      (by simp only [f_M_update_A_Sd_hullLow, f_T_update_A_lower, if_pos c0]),
      (by simp only [f_M_update_A_Sd_hullHigh, f_T_update_A_upper, if_pos c0]),
      (by simp only [f_M_update_A_Sd_survivorBits, f_T_update_A_mask, if_pos c0]),
      (by simp only [f_M_update_A_Sd_ownStratum, f_T_update_A_set, f_T_update_A_best, if_pos c0]; exact hos),
      fun q => absurd q (by rw [c0]; exact Bool.false_ne_true),
      (by simp only [f_M_update_A_Sd_startCorrection, if_pos c0]; exact c4),
      (by simp only [f_M_update_A_Sd_target, if_pos c0]; exact c5),
      (by simp only [f_M_update_A_Sd_since, if_pos c0]; exact c1),
      (by simp only [f_M_update_A_Sd_since, if_pos c0]; exact c2)⟩
  · obtain ⟨p, q⟩ := hull_run h c0 tl tg hl hh
    by_cases cf : fhF (lfS g n) lo hi < (lfS g n + 1) / 2
    · obtain ⟨e1, e2, e3, k, hk, x1, x2, x3⟩ := p cf
      have hst := stay_of hk x1 x3
      obtain ⟨u1, u2, u3, u4, u5, u6, u7, u8, u9⟩ := upd_B hn h hB S sg hs x3 hst (st := st) c1 c2 c3 c4 c5
      have cd : decide (fhF (lfS g n) lo hi < (lfS g n + 1) / 2) = true := decide_eq_true cf
      have bL := sx_bd hB x1
      have bG := sx_bd hB x2
      have bT : Bd (f_T_update_B_target n (fhH (lfS g n) hl lo hi) (fhK (lfS g n) hh lo hi) S F Y g) := by
        rw [i64_le] at u8 u9
        unfold Bd at *
        omega
      have bSC : Bd (f_M_update_B_Sd_startCorrection nw (lfS g n) (fhH (lfS g n) hl lo hi) (fhK (lfS g n) hh lo hi) nu lo hi st sin sta tt) := by
        have e : f_M_update_B_Sd_startCorrection nw (lfS g n) (fhH (lfS g n) hl lo hi) (fhK (lfS g n) hh lo hi) nu lo hi st sin sta tt = if st = true then f_Sd_correctionAt sin sta tt nw else f_M_update_B_Sd_target (lfS g n) (fhH (lfS g n) hl lo hi) (fhK (lfS g n) hh lo hi) nu lo hi := rfl
        rw [e]
        split
        · exact (corr_eq c1 c2 c3 c4 c5).2
        · rw [u2]; exact bT
      exact ⟨(by simp only [f_M_update_A, f_T_update_A, f_T_update_E, if_neg c0, if_pos cd, if_pos e1, e2, e3]; rw [u1]),
        (by simp only [f_M_update_A_Sd_started, f_T_update_A_set, f_T_update_E_set, if_neg c0, if_pos cd, if_pos e1, e2, e3]),
        (by simp only [f_M_update_A_Sd_since, f_T_update_A_madeAt, f_T_update_E_madeAt, if_neg c0, if_pos cd, if_pos e1, e2, e3]),
        (by simp only [f_M_update_A_Sd_startCorrection, f_T_update_A_startedFrom, f_T_update_E_startedFrom, if_neg c0, if_pos cd, if_pos e1, e2, e3]; exact u4),
        (by simp only [f_M_update_A_Sd_target, f_T_update_A_target, f_T_update_E_target, if_neg c0, if_pos cd, if_pos e1, e2, e3]; exact u2),
        (by simp only [f_M_update_A_Sd_error, f_T_update_A_error, f_T_update_E_error, if_neg c0, if_pos cd, if_pos e1, e2, e3]; exact u3),
        (by simp only [f_M_update_A_Sd_hullLow, f_T_update_A_lower, f_T_update_E_lower, if_neg c0, if_pos cd, if_pos e1, e2, e3]),
        (by simp only [f_M_update_A_Sd_hullHigh, f_T_update_A_upper, f_T_update_E_upper, if_neg c0, if_pos cd, if_pos e1, e2, e3]),
        (by simp only [f_M_update_A_Sd_survivorBits, f_T_update_A_mask, f_T_update_E_mask, if_neg c0, if_pos cd, if_pos e1, e2, e3]; exact u5),
        (by simp only [f_M_update_A_Sd_ownStratum, f_T_update_A_set, f_T_update_E_set, f_T_update_A_best, f_T_update_E_best, if_neg c0, if_pos cd, if_pos e1, e2, e3, if_true]; exact u6),
        (fun _ => by rw [e2, e3]; exact u7),
        (by simp only [f_M_update_A_Sd_startCorrection, if_neg c0, if_pos cd]; exact bSC),
        (by simp only [f_M_update_A_Sd_target, if_neg c0, if_pos cd]; rw [u2]; exact bT),
        (by simp only [f_M_update_A_Sd_since, if_neg c0, if_pos cd]; omega),
        (by simp only [f_M_update_A_Sd_since, if_neg c0, if_pos cd]; omega)⟩
    · have na := q cf
      have nd : ¬ decide (fhF (lfS g n) lo hi < (lfS g n + 1) / 2) = true := by simpa using cf
      exact ⟨(by simp only [f_M_update_A, f_T_update_A, f_T_update_E, if_neg c0, if_neg nd, if_neg na]),
        (by simp only [f_M_update_A_Sd_started, f_T_update_A_set, f_T_update_E_set, if_neg c0, if_neg nd, if_neg na]),
        (by simp only [f_M_update_A_Sd_since, f_T_update_A_madeAt, f_T_update_E_madeAt, if_neg c0, if_neg nd, if_neg na]),
        (by simp only [f_M_update_A_Sd_startCorrection, f_T_update_A_startedFrom, f_T_update_E_startedFrom, if_neg c0, if_neg nd, if_neg na]),
        (by simp only [f_M_update_A_Sd_target, f_T_update_A_target, f_T_update_E_target, if_neg c0, if_neg nd, if_neg na]),
        (by simp only [f_M_update_A_Sd_error, f_T_update_A_error, f_T_update_E_error, if_neg c0, if_neg nd, if_neg na]),
        (by simp only [f_M_update_A_Sd_hullLow, f_T_update_A_lower, f_T_update_E_lower, if_neg c0, if_neg nd, if_neg na]),
        (by simp only [f_M_update_A_Sd_hullHigh, f_T_update_A_upper, f_T_update_E_upper, if_neg c0, if_neg nd, if_neg na]),
        (by simp only [f_M_update_A_Sd_survivorBits, f_T_update_A_mask, f_T_update_E_mask, if_neg c0, if_neg nd, if_neg na]),
        (by simp only [f_M_update_A_Sd_ownStratum, f_T_update_A_set, f_T_update_E_set, f_T_update_A_best, f_T_update_E_best, if_neg c0, if_neg nd, if_neg na]; exact hos),
        (fun q => absurd q na),
        (by simp only [f_M_update_A_Sd_startCorrection, if_neg c0, if_neg nd]; exact c4),
        (by simp only [f_M_update_A_Sd_target, if_neg c0, if_neg nd]; exact c5),
        (by simp only [f_M_update_A_Sd_since, if_neg c0, if_neg nd]; exact c1),
        (by simp only [f_M_update_A_Sd_since, if_neg c0, if_neg nd]; exact c2)⟩
theorem upd_all {dr sf : Int32} {nw : Int64} {nu : Nat → Nat} {lo hi : Nat → Int64} {sg : Nat → SvS} {gK gQ gT gO gL gH gI : Nat → Int64} {gP gW : Nat → Bool} {gM : Nat → Nat} {gS gR gX : Nat → Int32} {gF gY : Nat → Int64} {gN : Nat → Bool} {nS : Nat} (hn : nS ≤ 6)
    (hR : ∀ i, i < nS → SR (sg i) i gK gQ gT gO gL gH gI gP gW gM gS gR gX) (hB : ∀ i, i < nS → SB (sg i) nw) (c3 : nw.toInt ≤ 1000000000000) (d1 : 0 ≤ dr.toInt) (d2 : dr.toInt ≤ 1000) (tl tg hl hh er vl vh : Int64) (sb os tb : Int32)
    {sin sta tt : Int64} {st : Bool} (c1 : 0 ≤ sin.toInt) (c2 : sin.toInt ≤ nw.toInt) (c4 : Bd sta) (c5 : Bd tt) (hos : os = if st = true then tb + 1 else 16) :
    f_M_update dr sf nw nS hl hh nu lo hi sg = f_T_update nS dr sf nw tl tg gM gL gH gI gS gR gX gF gY gN ∧
    f_M_update_Sd_started dr sf nw nS nu lo hi st sg = f_T_update_set nS dr sf nw tl tg st gM gL gH gI gS gR gX gF gY gN ∧
    f_M_update_Sd_since dr sf nw nS nu lo hi sin sg = f_T_update_madeAt nS dr sf nw tl tg sin gM gL gH gI gS gR gX gF gY gN ∧
    f_M_update_Sd_startCorrection dr sf nw nS hl hh nu lo hi st sin sta tt sg = f_T_update_startedFrom nS dr sf nw tl tg st tt sin sta gM gL gH gI gS gR gX gF gY gN ∧
    f_M_update_Sd_target dr sf nw nS hl hh nu lo hi tt sg = f_T_update_target nS dr sf nw tl tg tt gM gL gH gI gS gR gX gF gY gN ∧
    f_M_update_Sd_error dr sf nw nS hl hh nu lo hi er sg = f_T_update_error nS dr sf nw tl tg er gM gL gH gI gS gR gX gF gY gN ∧
    f_M_update_Sd_hullLow dr sf nw nS hl nu lo hi vl sg = f_T_update_lower nS dr sf nw tl tg vl gM gL gH gI gS gR gX gF gY gN ∧
    f_M_update_Sd_hullHigh dr sf nw nS hh nu lo hi vh sg = f_T_update_upper nS dr sf nw tl tg vh gM gL gH gI gS gR gX gF gY gN ∧
    f_M_update_Sd_survivorBits dr sf nw nS hl hh nu lo hi sb sg = f_T_update_mask nS dr sf nw tl tg sb gM gL gH gI gS gR gX gF gY gN ∧
    f_M_update_Sd_ownStratum dr sf nw nS hl hh nu lo hi os sg = (if f_T_update_set nS dr sf nw tl tg st gM gL gH gI gS gR gX gF gY gN = true then f_T_update_best nS dr sf nw tl tg tb gM gL gH gI gS gR gX gF gY gN + 1 else 16) ∧
    ((hwS nS tl tg ((upS dr sf nw gM gL gH gI gS gR gX gF gY gN nS).2.1) ((upS dr sf nw gM gL gH gI gS gR gX gF gY gN nS).2.2) ((upS dr sf nw gM gL gH gI gS gR gX gF gY gN nS).1) (lfS ((upS dr sf nw gM gL gH gI gS gR gX gF gY gN nS).1) nS) (fst9 (fun j => (hwS nS tl tg ((upS dr sf nw gM gL gH gI gS gR gX gF gY gN nS).2.1) ((upS dr sf nw gM gL gH gI gS gR gX gF gY gN nS).2.2) ((upS dr sf nw gM gL gH gI gS gR gX gF gY gN nS).1) (lfS ((upS dr sf nw gM gL gH gI gS gR gX gF gY gN nS).1) nS) j).1) (((lfS ((upS dr sf nw gM gL gH gI gS gR gX gF gY gN nS).1) nS) + 1) / 2) 0)).1 = true → ¬ t_many nS ((upS dr sf nw gM gL gH gI gS gR gX gF gY gN nS).2.1) ((upS dr sf nw gM gL gH gI gS gR gX gF gY gN nS).2.2) (ktS ((hwS nS tl tg ((upS dr sf nw gM gL gH gI gS gR gX gF gY gN nS).2.1) ((upS dr sf nw gM gL gH gI gS gR gX gF gY gN nS).2.2) ((upS dr sf nw gM gL gH gI gS gR gX gF gY gN nS).1) (lfS ((upS dr sf nw gM gL gH gI gS gR gX gF gY gN nS).1) nS) (fst9 (fun j => (hwS nS tl tg ((upS dr sf nw gM gL gH gI gS gR gX gF gY gN nS).2.1) ((upS dr sf nw gM gL gH gI gS gR gX gF gY gN nS).2.2) ((upS dr sf nw gM gL gH gI gS gR gX gF gY gN nS).1) (lfS ((upS dr sf nw gM gL gH gI gS gR gX gF gY gN nS).1) nS) j).1) (((lfS ((upS dr sf nw gM gL gH gI gS gR gX gF gY gN nS).1) nS) + 1) / 2) 0)).2.1) ((hwS nS tl tg ((upS dr sf nw gM gL gH gI gS gR gX gF gY gN nS).2.1) ((upS dr sf nw gM gL gH gI gS gR gX gF gY gN nS).2.2) ((upS dr sf nw gM gL gH gI gS gR gX gF gY gN nS).1) (lfS ((upS dr sf nw gM gL gH gI gS gR gX gF gY gN nS).1) nS) (fst9 (fun j => (hwS nS tl tg ((upS dr sf nw gM gL gH gI gS gR gX gF gY gN nS).2.1) ((upS dr sf nw gM gL gH gI gS gR gX gF gY gN nS).2.2) ((upS dr sf nw gM gL gH gI gS gR gX gF gY gN nS).1) (lfS ((upS dr sf nw gM gL gH gI gS gR gX gF gY gN nS).1) nS) j).1) (((lfS ((upS dr sf nw gM gL gH gI gS gR gX gF gY gN nS).1) nS) + 1) / 2) 0)).2.2) ((upS dr sf nw gM gL gH gI gS gR gX gF gY gN nS).2.1) ((upS dr sf nw gM gL gH gI gS gR gX gF gY gN nS).2.2) ((upS dr sf nw gM gL gH gI gS gR gX gF gY gN nS).1) nS) = 0) ∧
    Bd (f_M_update_Sd_startCorrection dr sf nw nS hl hh nu lo hi st sin sta tt sg) ∧ Bd (f_M_update_Sd_target dr sf nw nS hl hh nu lo hi tt sg) ∧ 0 ≤ (f_M_update_Sd_since dr sf nw nS nu lo hi sin sg).toInt ∧ (f_M_update_Sd_since dr sf nw nS nu lo hi sin sg).toInt ≤ nw.toInt := by
  obtain ⟨e1, e2, e3⟩ := el_spec (sf := sf) (nu := nu) (lo := lo) (hi := hi) (gF := gF) (gY := gY) (gN := gN) hR hB c3 d1 d2 nS (Nat.le_refl nS)
  have r := upd_A hn e2 e3 gS sg (fun i hi9 => (hR i hi9).2.2.2.2.2.2.1) tl tg hl hh er vl vh sb os tb (st := st) c1 c2 c3 c4 c5 hos
  unfold f_M_update f_M_update_Sd_error f_M_update_Sd_hullHigh f_M_update_Sd_hullLow f_M_update_Sd_ownStratum f_M_update_Sd_since f_M_update_Sd_startCorrection f_M_update_Sd_started f_M_update_Sd_survivorBits f_M_update_Sd_target f_T_update f_T_update_best f_T_update_error f_T_update_lower f_T_update_madeAt f_T_update_mask f_T_update_set f_T_update_startedFrom f_T_update_target f_T_update_upper
  rw [e1]
  exact r
