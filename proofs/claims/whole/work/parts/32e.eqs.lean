/-! 32e.eqs: answers in both ways -/
section EQS
variable {t nS i : Nat} {dr sf : Int32} {fs : Nat → Option Nat} {nw ls : Int64} {nu : Nat → Nat} {sin sta tt : Int64} {sg : Nat → SvS} {tA : Bool} {tL : Int64} {gK gQ gT gO gL gH gI : Nat → Int64} {gP gW : Nat → Bool} {gM : Nat → Nat} {gS gR gX : Nat → Int32}
theorem time_eq (h : Inv t nS dr fs nw ls nu sin sta tt sg tA tL gK gQ gT gO gL gH gI gP gW gM gS gR gX) (ht : t ≤ 512) (st : Bool) : f_M_time nw st sin sta tt = f_T_time nw st tt sin sta := by
  obtain ⟨a1, a2, a3, a4, a5, a9, a10, a11, a12, a13, a14, a15⟩ := h
  unfold f_M_time f_T_time
  rw [(corr_eq a13.1 a13.2 (by omega) a14 a15).1]
theorem bound_eq (h : Inv t nS dr fs nw ls nu sin sta tt sg tA tL gK gQ gT gO gL gH gI gP gW gM gS gR gX) (ht : t ≤ 512) (st : Bool) (er : Int64) : f_M_bound dr nw st sin sta tt er = f_T_bound dr nw st tt er sin sta := by
  obtain ⟨a1, a2, a3, a4, a5, a9, a10, a11, a12, a13, a14, a15⟩ := h
  have et : (nw - sin).toInt = nw.toInt - sin.toInt := i64_sub (by omega) (by omega)
  unfold f_M_bound f_T_bound f_Sd_wrongAtMost
  rw [(corr_eq a13.1 a13.2 (by omega) a14 a15).1, grow_eq (nw - sin) dr (by omega) (by omega) a2.1 a2.2, abs_sym]
theorem srv_cases (x : Int32) {n : Nat} (hn : n ≤ 6) : (∃ i, i < n ∧ x = nI i) ∨ (¬ x < 0 → ¬ x < nI n) := by
  by_cases c : x < 0
  · exact Or.inr (fun q => absurd c q)
  · by_cases c2 : x < nI n
    · left
      obtain ⟨j, h1, h2⟩ := nI_of c
      rw [h2] at c2
      exact ⟨j, (nI_ltI h1 (by omega)).mp c2, h2⟩
    · exact Or.inr (fun _ => c2)
end EQS
