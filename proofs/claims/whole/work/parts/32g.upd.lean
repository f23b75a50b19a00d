/-! 32g.upd: update and grant keep the invariant -/
section UPD
variable {t nS i : Nat} {dr sf : Int32} {fs : Nat → Option Nat} {nw ls : Int64} {nu : Nat → Nat} {sin sta tt : Int64} {sg : Nat → SvS} {tA : Bool} {tL : Int64} {gK gQ gT gO gL gH gI : Nat → Int64} {gP gW : Nat → Bool} {gM : Nat → Nat} {gS gR gX : Nat → Int32}
theorem upd_nu {hl hh : Int64} {lo hi : Nat → Int64} (hnu : ∀ k, nu k < nS) : ∀ k, f_M_update_r3 dr sf nw nS hl hh nu lo hi sg k < nS := by
  have h1 : ∀ k, (ceS dr sf nw 0 nu lo hi sg nS).2.1 k < nS := ceS_nu dr sf nw 0 nu lo hi sg nS hnu nS (Nat.le_refl _)
  unfold f_M_update_r3 f_M_update_A_r3
  split
  · exact h1
  · split
    · exact clS_nu _ _ _ _ nS (kpS_nu _ _ _ _ _ nS h1 _) _
    · exact h1
theorem inv_upd {nu' : Nat → Nat} {sin' sta' tt' : Int64} (h : Inv t nS dr fs nw ls nu sin sta tt sg tA tL gK gQ gT gO gL gH gI gP gW gM gS gR gX) (h1 : ∀ k, nu' k < nS) (h2 : 0 ≤ sin'.toInt) (h3 : sin'.toInt ≤ nw.toInt) (h4 : Bd sta') (h5 : Bd tt') : Inv (t + 1) nS dr fs nw ls nu' sin' sta' tt' sg tA tL gK gQ gT gO gL gH gI gP gW gM gS gR gX := by
  obtain ⟨a1, a2, a3, a4, a5, a9, a10, a11, a12, a13, a14, a15⟩ := Inv_next h
  exact ⟨a1, a2, a3, a4, a5, h1, a10, a11, a12, ⟨h2, h3⟩, h4, h5⟩
theorem up_self {α : Type} (f : Nat → α) (k : Nat) : va_up f k (f k) = f := by
  funext j
  unfold va_up
  split
  · rename_i e; rw [e]
  · rfl
theorem grant_eq (h : Inv t nS dr fs nw ls nu sin sta tt sg tA tL gK gQ gT gO gL gH gI gP gW gM gS gR gX) (ht : t ≤ 512) (st : Bool) (er : Int64) (gG : Nat → Bool) (gE : Nat → Int32) (gU : Nat → Int64) (k : Nat) (x y : Int32) :
    f_M_grantG dr nw (gG k) (gE k) (gU k) st sin sta tt er x y = f_T_grantG dr nw st tt er sin sta gG gE gU k x y ∧
    va_up gG k (f_M_grantG_Le_granted dr nw (gG k) (gE k) (gU k) st sin sta tt er x y) = f_T_grantG_r1 dr nw st tt er sin sta gG gE gU k x y ∧
    va_up gE k (f_M_grantG_Le_owner dr nw (gG k) (gE k) (gU k) st sin sta tt er x y) = f_T_grantG_r2 dr nw st tt er sin sta gG gE gU k x y ∧
    va_up gU k (f_M_grantG_Le_until dr nw (gG k) (gE k) (gU k) st sin sta tt er x y) = f_T_grantG_r3 dr nw st tt er sin sta gG gE gU k x y := by
  have e1 := time_eq h ht st
  have e2 := bound_eq h ht st er
  unfold f_M_grantG f_M_grantG_Le_granted f_M_grantG_Le_owner f_M_grantG_Le_until f_T_grantG f_T_grantG_r1 f_T_grantG_r2 f_T_grantG_r3 f_M_mayFollow f_M_isOver
  rw [e1, e2]
  have s1 := up_self gG k
  have s2 := up_self gE k
  have s3 := up_self gU k
  by_cases c1 : x < 0
  · simp only [if_pos c1]; exact ⟨by first | trivial | rfl, by first | trivial | rfl | exact s1, by first | trivial | rfl | exact s2, by first | trivial | rfl | exact s3⟩
  · by_cases c2 : y < 1
    · simp only [if_neg c1, if_pos c2]; exact ⟨by first | trivial | rfl, by first | trivial | rfl | exact s1, by first | trivial | rfl | exact s2, by first | trivial | rfl | exact s3⟩
    · by_cases c3 : 1000000 < y
      · simp only [if_neg c1, if_neg c2, if_pos c3]; exact ⟨by first | trivial | rfl, by first | trivial | rfl | exact s1, by first | trivial | rfl | exact s2, by first | trivial | rfl | exact s3⟩
      · by_cases c4 : st = true
        · by_cases c5 : gG k = true
          · by_cases c6 : gE k = x
            · by_cases c7 : gU k ≤ f_T_time nw st tt sin sta + y.toInt64
              · have c8 : ¬ f_T_time nw st tt sin sta + y.toInt64 < gU k := Int64.not_lt.mpr c7
                simp only [if_neg c1, if_neg c2, if_neg c3, if_pos c4, if_pos c5, if_pos c6, if_pos c7, if_neg c8, Bool.false_eq_true, if_false, if_true]; exact ⟨by first | trivial | rfl, by first | trivial | rfl | exact s1, by first | trivial | rfl | exact s2, by first | trivial | rfl | exact s3⟩
              · have c8 : f_T_time nw st tt sin sta + y.toInt64 < gU k := Int64.not_le.mp c7
                simp only [if_neg c1, if_neg c2, if_neg c3, if_pos c4, if_pos c5, if_pos c6, if_neg c7, if_pos c8, Bool.false_eq_true, if_false, if_true]; exact ⟨by first | trivial | rfl, by first | trivial | rfl | exact s1, by first | trivial | rfl | exact s2, by first | trivial | rfl | exact s3⟩
            · by_cases c7 : f_T_time nw st tt sin sta - f_T_bound dr nw st tt er sin sta < gU k
              · simp only [if_neg c1, if_neg c2, if_neg c3, if_pos c4, if_pos c5, if_neg c6, if_pos c7, Bool.false_eq_true, if_false, if_true]; exact ⟨by first | trivial | rfl, by first | trivial | rfl | exact s1, by first | trivial | rfl | exact s2, by first | trivial | rfl | exact s3⟩
              · simp only [if_neg c1, if_neg c2, if_neg c3, if_pos c4, if_pos c5, if_neg c6, if_neg c7, if_true]; exact ⟨by first | trivial | rfl, by first | trivial | rfl | exact s1, by first | trivial | rfl | exact s2, by first | trivial | rfl | exact s3⟩
          · simp only [if_neg c1, if_neg c2, if_neg c3, if_pos c4, if_neg c5]; exact ⟨by first | trivial | rfl, by first | trivial | rfl | exact s1, by first | trivial | rfl | exact s2, by first | trivial | rfl | exact s3⟩
        · simp only [if_neg c1, if_neg c2, if_neg c3, if_neg c4]; exact ⟨by first | trivial | rfl, by first | trivial | rfl | exact s1, by first | trivial | rfl | exact s2, by first | trivial | rfl | exact s3⟩
end UPD
