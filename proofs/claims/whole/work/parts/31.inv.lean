/-! 31.inv: what holds between two calls of the law -/
def Inv (t nS : Nat) (dr : Int32) (fs : Nat → Option Nat) (nw ls : Int64) (nu : Nat → Nat) (sin sta tt : Int64) (sg : Nat → SvS) (tA : Bool) (tL : Int64) (gK gQ gT gO gL gH gI : Nat → Int64) (gP gW : Nat → Bool) (gM : Nat → Nat) (gS gR gX : Nat → Int32) : Prop :=
  (1 ≤ nS ∧ nS ≤ 6) ∧ (0 ≤ dr.toInt ∧ dr.toInt ≤ 1000) ∧ (∀ k, k < nS → fs k = some (s_a (sg k))) ∧ (0 ≤ nw.toInt ∧ nw.toInt ≤ 1000000 * (t : Int)) ∧ ((tA = true → tL = ls) ∧ (¬ tA = true → ls = -1) ∧ -1 ≤ ls.toInt ∧ ls.toInt ≤ 1000000 * (t : Int) + t) ∧ (∀ k, nu k < nS) ∧
  (∀ i, i < nS → SR (sg i) i gK gQ gT gO gL gH gI gP gW gM gS gR gX) ∧ (∀ i, i < nS → SB (sg i) nw) ∧ (∀ i, i < 6 → gM i ≤ 8) ∧ (0 ≤ sin.toInt ∧ sin.toInt ≤ nw.toInt) ∧ Bd sta ∧ Bd tt
section INV
variable {t nS i : Nat} {dr sf : Int32} {fs : Nat → Option Nat} {nw nw' ls : Int64} {nu : Nat → Nat} {sin sta tt : Int64} {sg : Nat → SvS} {tA : Bool} {tL : Int64} {gK gQ gT gO gL gH gI : Nat → Int64} {gP gW : Nat → Bool} {gM : Nat → Nat} {gS gR gX : Nat → Int32}
theorem SB_mono {x : SvS} (h : SB x nw) (hw : nw.toInt ≤ nw'.toInt) : SB x nw' := by
  obtain ⟨h1, h2, h3, h4, h5, h6⟩ := h
  refine ⟨h1, h2, by omega, h4, h5, fun k hk => ?_⟩
  obtain ⟨a, b, c, d⟩ := h6 k hk
  exact ⟨a, b, c, by omega⟩
theorem Inv_time (h : Inv t nS dr fs nw ls nu sin sta tt sg tA tL gK gQ gT gO gL gH gI gP gW gM gS gR gX) (h1 : nw.toInt ≤ nw'.toInt) (h2 : nw'.toInt ≤ 1000000 * (t : Int) + 1000000) : Inv (t + 1) nS dr fs nw' ls nu sin sta tt sg tA tL gK gQ gT gO gL gH gI gP gW gM gS gR gX := by
  obtain ⟨a1, a2, a3, a4, ⟨a5, a6, a7, a8⟩, a9, a10, a11, a12, a13, a14, a15⟩ := h
  exact ⟨a1, a2, a3, ⟨by omega, by omega⟩, ⟨a5, a6, a7, by omega⟩, a9, a10, fun i hi => SB_mono (a11 i hi) h1, a12, ⟨a13.1, by omega⟩, a14, a15⟩
theorem Inv_next (h : Inv t nS dr fs nw ls nu sin sta tt sg tA tL gK gQ gT gO gL gH gI gP gW gM gS gR gX) : Inv (t + 1) nS dr fs nw ls nu sin sta tt sg tA tL gK gQ gT gO gL gH gI gP gW gM gS gR gX := Inv_time h (Int.le_refl _) (by have := h.2.2.2.1; omega)
theorem Inv_adv (h : Inv t nS dr fs nw ls nu sin sta tt sg tA tL gK gQ gT gO gL gH gI gP gW gM gS gR gX) (ht : t ≤ 512) (x : Int32) : Inv (t + 1) nS dr fs (f_T_advance_now nw x) ls nu sin sta tt sg tA tL gK gQ gT gO gL gH gI gP gW gM gS gR gX := by
  have h4 := h.2.2.2.1
  unfold f_T_advance_now
  by_cases c1 : x < 0
  · rw [if_pos c1]; exact Inv_next h
  · rw [if_neg c1]
    by_cases c2 : x ≤ 1000000
    · rw [if_pos c2]
      have e0 : (0 : Int32).toInt = 0 := by decide
      have e1 : ¬ x.toInt < 0 := fun q => c1 (Int32.lt_iff_toInt_lt.mpr (by omega))
      have e2 := Int32.le_iff_toInt_le.mp c2
      have e3 : (1000000 : Int32).toInt = 1000000 := by decide
      have e4 : (nw + x.toInt64).toInt = nw.toInt + x.toInt := by rw [i64_add, Int32.toInt_toInt64] <;> rw [Int32.toInt_toInt64] <;> omega
      exact Inv_time h (by omega) (by omega)
    · rw [if_neg c2]; exact Inv_next h
/-- a server's rows elsewhere stay -/
theorem SR_congr {x : SvS} {j : Nat} {gK' gQ' gT' gO' gL' gH' gI' : Nat → Int64} {gP' gW' : Nat → Bool} {gM' : Nat → Nat} {gS' gR' gX' : Nat → Int32} (h : SR x j gK gQ gT gO gL gH gI gP gW gM gS gR gX) (h8 : s_sm x ≤ 8) (e1 : gK' j = gK j) (e2 : gQ' j = gQ j) (e3 : gT' j = gT j) (e4 : gO' j = gO j) (e5 : gP' j = gP j) (e6 : gW' j = gW j) (e7 : gM' j = gM j) (e8 : gS' j = gS j) (e9 : gR' j = gR j) (e10 : gX' j = gX j) (e11 : ∀ k, k < 8 → gL' (8 * j + k) = gL (8 * j + k) ∧ gH' (8 * j + k) = gH (8 * j + k) ∧ gI' (8 * j + k) = gI (8 * j + k)) : SR x j gK' gQ' gT' gO' gL' gH' gI' gP' gW' gM' gS' gR' gX' := by
  unfold SR at *
  rw [e1, e2, e3, e4, e5, e6, e7, e8, e9, e10]
  obtain ⟨a1, a2, a3, a4, a5, a6, a7, a8, a9, a10, a11⟩ := h
  refine ⟨a1, a2, a3, a4, a5, a6, a7, a8, a9, a10, fun k hk => ?_⟩
  obtain ⟨b1, b2, b3⟩ := e11 k (by omega)
  rw [b1, b2, b3]
  exact a11 k hk
/-- one server is another, its rows too -/
theorem Inv_sv {x : SvS} {ls' : Int64} {tA' : Bool} {tL' : Int64} {gK' gQ' gT' gO' gL' gH' gI' : Nat → Int64} {gP' gW' : Nat → Bool} {gM' : Nat → Nat} {gS' gR' gX' : Nat → Int32} (h : Inv t nS dr fs nw ls nu sin sta tt sg tA tL gK gQ gT gO gL gH gI gP gW gM gS gR gX) (ha : s_a x = s_a (sg i)) (hR : SR x i gK' gQ' gT' gO' gL' gH' gI' gP' gW' gM' gS' gR' gX') (hB : SB x nw)
    (hl : (tA' = true → tL' = ls') ∧ (¬ tA' = true → ls' = -1) ∧ -1 ≤ ls'.toInt ∧ ls'.toInt ≤ 1000000 * (t : Int) + t + 1) (hM : ∀ j, j < 6 → gM' j ≤ 8)
    (ho : ∀ j, j < nS → j ≠ i → gK' j = gK j ∧ gQ' j = gQ j ∧ gT' j = gT j ∧ gO' j = gO j ∧ gP' j = gP j ∧ gW' j = gW j ∧ gM' j = gM j ∧ gS' j = gS j ∧ gR' j = gR j ∧ gX' j = gX j ∧ ∀ k, k < 8 → gL' (8 * j + k) = gL (8 * j + k) ∧ gH' (8 * j + k) = gH (8 * j + k) ∧ gI' (8 * j + k) = gI (8 * j + k)) :
    Inv (t + 1) nS dr fs nw ls' nu sin sta tt (va_up sg i x) tA' tL' gK' gQ' gT' gO' gL' gH' gI' gP' gW' gM' gS' gR' gX' := by
  obtain ⟨a1, a2, a3, a4, -, a9, a10, a11, a12, a13, a14, a15⟩ := h
  refine ⟨a1, a2, fun k hk => ?_, ⟨a4.1, by omega⟩, ⟨hl.1, hl.2.1, hl.2.2.1, by have := hl.2.2.2; omega⟩, a9, fun j hj => ?_, fun j hj => ?_, hM, a13, a14, a15⟩
  · by_cases e : k = i
    · subst e; rw [va_ups, ha]; exact a3 k hk
    · rw [va_upn e]; exact a3 k hk
  · by_cases e : j = i
    · subst e; rw [va_ups]; exact hR
    · rw [va_upn e]
      obtain ⟨o1, o2, o3, o4, o5, o6, o7, o8, o9, o10, o11⟩ := ho j hj e
      exact SR_congr (a10 j hj) (a11 j hj).1 o1 o2 o3 o4 o5 o6 o7 o8 o9 o10 o11
  · by_cases e : j = i
    · subst e; rw [va_ups]; exact hB
    · rw [va_upn e]; exact a11 j hj
theorem seal_bits (b : BitVec 64) : (b >>> 32).signExtend 32 = (b.sshiftRight 32).signExtend 32 := by
  apply BitVec.eq_of_getLsbD_eq
  intro i hi
  have h1 : i < 64 := by omega
  have h2 : 32 + i < 64 := by omega
  have h3 : ¬ 64 ≤ i := by omega
  simp only [BitVec.getLsbD_signExtend, BitVec.getLsbD_ushiftRight, BitVec.getLsbD_sshiftRight]
  simp [hi, h1, h2, h3]
theorem seal_eq (k x y u : Int64) : f_M_sealUnder k x y u = ((f_T_mixed (f_T_mixed (f_T_mixed k x) y) u) >>> ((32 : Int32).toInt64 &&& 63)).toInt32 := by
  unfold f_M_sealUnder
  have e : ∀ a b, f_M_mixed a b = f_T_mixed a b := fun a b => rfl
  rw [e, e, e]
  generalize f_T_mixed (f_T_mixed (f_T_mixed k x) y) u = h
  apply Int32.toBitVec.inj
  exact seal_bits h.toBitVec
theorem time_iff (x : Int64) : f_M_isReplyTime x = f_T_between x 0 1099511627776 := rfl
theorem ask_eq (h : Inv t nS dr fs nw ls nu sin sta tt sg tA tL gK gQ gT gO gL gH gI gP gW gM gS gR gX) (ht : t ≤ 512) : f_J_max_JJ nw (ls + 1) = f_T_askG nw tA tL ∧ -1 ≤ (f_T_askG nw tA tL).toInt ∧ (f_T_askG nw tA tL).toInt ≤ 1000000 * (t : Int) + t + 1 := by
  obtain ⟨a1, a2, a3, a4, ⟨a5, a6, a7, a8⟩, -⟩ := h
  have e : (ls + 1).toInt = ls.toInt + 1 := by rw [i64_add, i64_1] <;> rw [i64_1] <;> omega
  unfold f_J_max_JJ f_T_askG
  by_cases c : tA = true
  · rw [if_pos c, a5 c]
    by_cases c1 : ls < nw
    · have c1' := i64_lt.mp c1
      rw [if_pos c1]
      by_cases c2 : nw < ls + 1
      · have c2' := i64_lt.mp c2; omega
      · rw [if_neg c2]; exact ⟨rfl, by omega, by omega⟩
    · have c1' : ¬ ls.toInt < nw.toInt := fun q => c1 (i64_lt.mpr q)
      rw [if_neg c1, if_pos (i64_lt.mpr (by omega))]
      exact ⟨rfl, by omega, by omega⟩
  · rw [if_neg c]
    have el : ls.toInt = -1 := by rw [a6 c]; decide
    rw [if_neg (fun q => by have := i64_lt.mp q; omega)]
    exact ⟨rfl, by omega, by omega⟩
end INV
