/-! 32f.inv2: the calls to a server keep the invariant -/
section INV2
variable {t nS i : Nat} {dr sf : Int32} {fs : Nat → Option Nat} {nw ls : Int64} {nu : Nat → Nat} {sin sta tt : Int64} {sg : Nat → SvS} {tA : Bool} {tL : Int64} {gK gQ gT gO gL gH gI : Nat → Int64} {gP gW : Nat → Bool} {gM : Nat → Nat} {gS gR gX : Nat → Int32}
theorem inv_key (h : Inv t nS dr fs nw ls nu sin sta tt sg tA tL gK gQ gT gO gL gH gI gP gW gM gS gR gX) (hi : i < nS) (x : Int64) : Inv (t + 1) nS dr fs nw ls nu sin sta tt (va_up sg i (svm (s_a (sg i)) (s_b1 (sg i)) (s_b2 (sg i)) (s_b3 (sg i)) x (s_pen (sg i)) (s_pst (sg i)) (s_psi (sg i)) (s_acc (sg i)) (s_str (sg i)) (s_ref (sg i)) (s_rt (sg i)) (s_sm (sg i)) (s_lo (sg i)) (s_hi (sg i)) (s_ti (sg i)))) tA tL (vp_updL gK i x) gQ gT gO gL gH gI gP gW gM gS gR gX := by
  have h' := h
  obtain ⟨a1, a2, a3, a4, ⟨a5, a6, a7, a8⟩, a9, a10, a11, a12, a13, a14, a15⟩ := h'
  obtain ⟨b1, b2, b3, b4, b5, b6, b7, b8, b9, b10, b11⟩ := a10 i hi
  exact Inv_sv h rfl ⟨(pk_uLs).symm, b2, b3, b4, b5, b6, b7, b8, b9, b10, b11⟩ (a11 i hi) ⟨a5, a6, a7, by omega⟩ a12 (fun j hj e => ⟨pk_uLn e, rfl, rfl, rfl, rfl, rfl, rfl, rfl, rfl, rfl, fun k hk => ⟨rfl, rfl, rfl⟩⟩)
theorem inv_ask (h : Inv t nS dr fs nw ls nu sin sta tt sg tA tL gK gQ gT gO gL gH gI gP gW gM gS gR gX) (ht : t ≤ 512) (hi : i < nS) : Inv (t + 1) nS dr fs nw (f_J_max_JJ nw (ls + 1)) nu sin sta tt (va_up sg i (svm (s_a (sg i)) (s_b1 (sg i)) (s_b2 (sg i)) (s_b3 (sg i)) (s_sec (sg i)) true (f_J_max_JJ nw (ls + 1)) nw (s_acc (sg i)) (s_str (sg i)) (s_ref (sg i)) (s_rt (sg i)) (s_sm (sg i)) (s_lo (sg i)) (s_hi (sg i)) (s_ti (sg i)))) true (f_T_askG_lastStamp nw tA tL) gK (vp_updL gQ i nw) (f_T_askG_r3 nw tA tL gT i) gO gL gH gI (va_up gP i true) gW gM gS gR gX := by
  have h' := h
  obtain ⟨a1, a2, a3, a4, ⟨a5, a6, a7, a8⟩, a9, a10, a11, a12, a13, a14, a15⟩ := h'
  obtain ⟨b1, b2, b3, b4, b5, b6, b7, b8, b9, b10, b11⟩ := a10 i hi
  obtain ⟨e1, e2, e3⟩ := ask_eq h ht
  obtain ⟨c1, c2, c3, c4, c5, c6⟩ := a11 i hi
  refine Inv_sv h rfl ⟨b1, (va_ups).symm, ?_, (pk_uLs).symm, b5, b6, b7, b8, b9, b10, b11⟩ ⟨c1, a4.1, Int.le_refl _, c4, c5, c6⟩ ⟨fun _ => e1.symm, fun q => absurd rfl q, by rw [e1]; exact e2, by rw [e1]; exact e3⟩ a12 (fun j hj e => ⟨rfl, pk_uLn e, pk_uLn e, rfl, va_upn e, rfl, rfl, rfl, rfl, rfl, fun k hk => ⟨rfl, rfl, rfl⟩⟩)
  show f_J_max_JJ nw (ls + 1) = vp_updL gT i _ i
  rw [pk_uLs, e1]
  rfl
theorem inv_tell (h : Inv t nS dr fs nw ls nu sin sta tt sg tA tL gK gQ gT gO gL gH gI gP gW gM gS gR gX) (hi : i < nS) (x y u : Int32) : Inv (t + 1) nS dr fs nw ls nu sin sta tt (va_up sg i (svm (s_a (sg i)) (s_b1 (sg i)) (s_b2 (sg i)) (s_b3 (sg i)) (s_sec (sg i)) (s_pen (sg i)) (s_pst (sg i)) (s_psi (sg i)) (s_acc (sg i)) (f_M_tellG_Sv_toldStratum (s_str (sg i)) x u) (f_M_tellG_Sv_toldReference (s_ref (sg i)) x y u) (f_M_tellG_Sv_toldRoot (s_rt (sg i)) x u) (s_sm (sg i)) (s_lo (sg i)) (s_hi (sg i)) (s_ti (sg i)))) tA tL gK gQ gT gO gL gH gI gP gW gM (f_T_tellG_r1 gS i x u) (f_T_tellG_r2 gR i x y u) (f_T_tellG_r3 gX i x u) := by
  have h' := h
  obtain ⟨a1, a2, a3, a4, ⟨a5, a6, a7, a8⟩, a9, a10, a11, a12, a13, a14, a15⟩ := h'
  obtain ⟨b1, b2, b3, b4, b5, b6, b7, b8, b9, b10, b11⟩ := a10 i hi
  obtain ⟨k1, k2, k3, k4, k5, k6⟩ := a11 i hi
  have keep : Inv (t + 1) nS dr fs nw ls nu sin sta tt (va_up sg i (svm (s_a (sg i)) (s_b1 (sg i)) (s_b2 (sg i)) (s_b3 (sg i)) (s_sec (sg i)) (s_pen (sg i)) (s_pst (sg i)) (s_psi (sg i)) (s_acc (sg i)) (s_str (sg i)) (s_ref (sg i)) (s_rt (sg i)) (s_sm (sg i)) (s_lo (sg i)) (s_hi (sg i)) (s_ti (sg i)))) tA tL gK gQ gT gO gL gH gI gP gW gM gS gR gX :=
    Inv_sv h rfl ⟨b1, b2, b3, b4, b5, b6, b7, b8, b9, b10, b11⟩ (a11 i hi) ⟨a5, a6, a7, by omega⟩ a12 (fun j hj e => ⟨rfl, rfl, rfl, rfl, rfl, rfl, rfl, rfl, rfl, rfl, fun k hk => ⟨rfl, rfl, rfl⟩⟩)
  unfold f_M_tellG_Sv_toldStratum f_M_tellG_Sv_toldReference f_M_tellG_Sv_toldRoot f_T_tellG_r1 f_T_tellG_r2 f_T_tellG_r3
  by_cases c1 : x < 1
  · simp only [if_pos c1]; exact keep
  · by_cases c2 : 16 < x
    · simp only [if_neg c1, if_pos c2]; exact keep
    · by_cases c3 : u < 0
      · simp only [if_neg c1, if_neg c2, if_pos c3]; exact keep
      · by_cases c4 : u ≤ 1000000
        · simp only [if_neg c1, if_neg c2, if_neg c3, if_pos c4]
          have e0 : (0 : Int32).toInt = 0 := by decide
          have e1 : (1000000 : Int32).toInt = 1000000 := by decide
          have c3' : ¬ u.toInt < 0 := fun q => c3 (Int32.lt_iff_toInt_lt.mpr (by omega))
          have c4' := Int32.le_iff_toInt_le.mp c4
          exact Inv_sv h rfl ⟨b1, b2, b3, b4, b5, b6, (pk_us).symm, (pk_us).symm, (pk_us).symm, b10, b11⟩ ⟨k1, k2, k3, show 0 ≤ u.toInt by omega, show u.toInt ≤ 1000000 by omega, k6⟩ ⟨a5, a6, a7, by omega⟩ a12 (fun j hj e => ⟨rfl, rfl, rfl, rfl, rfl, rfl, rfl, pk_un e, pk_un e, pk_un e, fun k hk => ⟨rfl, rfl, rfl⟩⟩)
        · simp only [if_neg c1, if_neg c2, if_neg c3, if_neg c4]; exact keep
theorem seal_eq2 (h : Inv t nS dr fs nw ls nu sin sta tt sg tA tL gK gQ gT gO gL gH gI gP gW gM gS gR gX) (hi : i < nS) (x y u : Int64) : f_M_sealUnder (s_sec (sg i)) x y u = f_T_sealG gK i x y u := by
  rw [seal_eq, (h.2.2.2.2.2.2.1 i hi).1]
  rfl
theorem low_eq (h : Inv t nS dr fs nw ls nu sin sta tt sg tA tL gK gQ gT gO gL gH gI gP gW gM gS gR gX) (ht : t ≤ 512) (hi : i < nS) (gF gY : Nat → Int64) : f_M_lowG dr nw (s_rt (sg i)) (s_sm (sg i)) (s_lo (sg i)) (s_hi (sg i)) (s_ti (sg i)) = f_T_lowG dr nw gM gL gH gI gX gF gY i ∧ f_M_highG dr nw (s_rt (sg i)) (s_sm (sg i)) (s_lo (sg i)) (s_hi (sg i)) (s_ti (sg i)) = f_T_highG dr nw gM gL gH gI gX gF gY i := by
  obtain ⟨a1, a2, a3, a4, ⟨a5, a6, a7, a8⟩, a9, a10, a11, a12, a13, a14, a15⟩ := h
  obtain ⟨b1, b2, b3, b4, b5, b6, b7, b8, b9, b10, b11⟩ := a10 i hi
  obtain ⟨k1, k2, k3, k4, k5, k6⟩ := a11 i hi
  unfold f_M_lowG f_T_lowG f_M_highG f_T_highG
  by_cases c : s_sm (sg i) = 0
  · rw [if_pos c, if_pos c, if_pos (b10.symm.trans c), if_pos (b10.symm.trans c)]
    exact ⟨rfl, rfl⟩
  · obtain ⟨m1, m2⟩ := me_spec (dr := dr) (nw := nw) (gF := gF) (gY := gY) b11 b9 (fun k hk => ⟨(k6 k hk).2.2.1, (k6 k hk).2.2.2⟩) (by omega) a2.1 a2.2 (s_sm (sg i)) (Nat.le_refl _)
    obtain ⟨m3, m4⟩ := m2 (by omega)
    rw [if_neg c, if_neg c, if_neg (fun q => c (b10.trans q)), if_neg (fun q => c (b10.trans q)), ← b10, m3, m4]
    exact ⟨rfl, rfl⟩
theorem holds_eq (gr : Bool) (ow : Int32) (un : Int64) (gG : Nat → Bool) (gE : Nat → Int32) (gU : Nat → Int64) (k : Nat) (e1 : gG k = gr) (e2 : gE k = ow) (e3 : gU k = un) (x : Int32) (y u : Int64) : f_M_holdsG gr ow un x y u = f_T_holdsG gG gE gU k x y u := by
  unfold f_M_holdsG f_T_holdsG f_T_between
  rw [e1, e2, e3]
  by_cases c1 : gr = true
  · by_cases c2 : ow = x
    · by_cases c3 : u < 0
      · simp [c1, c2, c3]
      · by_cases c4 : 1099511627776 < u
        · simp [c1, c2, c3, c4]
        · by_cases c5 : y < -1099511627776
          · simp [c1, c2, c3, c4, c5]
          · by_cases c6 : y ≤ 2199023255552
            · have c7 : ¬ 2199023255552 < y := Int64.not_lt.mpr c6
              simp only [if_pos c1, if_pos c2, if_neg c3, if_neg c4, if_neg c5, if_pos c6, if_neg c7, if_true]
            · have c7 : 2199023255552 < y := Int64.not_le.mp c6
              simp only [if_pos c1, if_pos c2, if_neg c3, if_neg c4, if_neg c5, if_neg c6, if_pos c7, if_true]
              rfl
    · simp [c1, c2]
  · simp [c1]
end INV2
