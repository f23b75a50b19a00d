/-! 25.elect: samples and elections, in both ways -/
theorem me_spec {dr : Int32} {nw : Int64} {gL gH gI : Nat → Int64} {gX : Nat → Int32} {gF gY : Nat → Int64} {i : Nat} {rt : Int32} {lo hi ti : Nat → Int64} {sm : Nat}
    (hk : ∀ k, k < sm → lo k = gL (8 * i + k) ∧ hi k = gH (8 * i + k) ∧ ti k = gI (8 * i + k)) (hr : rt = gX i) (ht : ∀ k, k < sm → 0 ≤ (ti k).toInt ∧ (ti k).toInt ≤ nw.toInt) (hw : nw.toInt ≤ 1000000000000) (d1 : 0 ≤ dr.toInt) (d2 : dr.toInt ≤ 1000) : ∀ k, k ≤ sm →
    (∀ j, j ≠ i → (meS dr nw gL gH gI gX gF gY i k).1 j = gF j ∧ (meS dr nw gL gH gI gX gF gY i k).2 j = gY j) ∧
    (1 ≤ k → (meS dr nw gL gH gI gX gF gY i k).1 i = f_Sv_lowerEnd rt lo ti (shb rt lo hi ti nw dr (k - 1)) nw dr ∧ (meS dr nw gL gH gI gX gF gY i k).2 i = f_Sv_upperEnd rt hi ti (shb rt lo hi ti nw dr (k - 1)) nw dr)
  | 0, _ => ⟨fun j _ => ⟨rfl, rfl⟩, fun q => by omega⟩
  | k + 1, hm => by
    obtain ⟨ih1, ih2⟩ := me_spec hk hr ht hw d1 d2 k (by omega)
    obtain ⟨k1, k2, k3⟩ := hk k (by omega)
    obtain ⟨t1, t2⟩ := ht k (by omega)
    have et : (nw - ti k).toInt = nw.toInt - (ti k).toInt := i64_sub (by omega) (by omega)
    have eg : f_T_growth dr (nw - gI (8 * i + k)) = f_M_growth (nw - ti k) dr := by
      rw [← k3]; exact (grow_eq _ _ (by omega) (by omega) d1 d2).symm
    have eA : gL (8 * i + k) - (gX i).toInt64 - f_T_growth dr (nw - gI (8 * i + k)) = f_Sv_lowerEnd rt lo ti k nw dr := by
      rw [eg, ← k1, ← hr]; rfl
    have eB : gH (8 * i + k) + (gX i).toInt64 + f_T_growth dr (nw - gI (8 * i + k)) = f_Sv_upperEnd rt hi ti k nw dr := by
      rw [eg, ← k2, ← hr]; rfl
    simp only [meS, eA, eB]
    by_cases z : k = 0
    · subst z
      have h0 : 8 * i + 0 = 8 * i := by omega
      simp only [if_pos h0]
      refine ⟨fun j hj => ?_, fun _ => ?_⟩
      · rw [pk_uLn hj, pk_uLn hj]; exact ih1 j hj
      · rw [pk_uLs, pk_uLs]; exact ⟨rfl, rfl⟩
    · obtain ⟨a1, a2⟩ := ih2 (by omega)
      have h1 : ¬ 8 * i + k = 8 * i := by omega
      simp only [if_neg h1, a1, a2]
      have ek : k - 1 + 1 = k := by omega
      have es : shb rt lo hi ti nw dr (k + 1 - 1) = if f_Sv_lengthOf rt lo hi ti (shb rt lo hi ti nw dr (k - 1)) nw dr ≤ f_Sv_lengthOf rt lo hi ti k nw dr then shb rt lo hi ti nw dr (k - 1) else k := by
        have e0 : k + 1 - 1 = (k - 1) + 1 := by omega
        rw [e0]
        simp only [shb, ek]
      rw [es]
      have elen : ∀ q, f_Sv_upperEnd rt hi ti q nw dr - f_Sv_lowerEnd rt lo ti q nw dr = f_Sv_lengthOf rt lo hi ti q nw dr := fun q => rfl
      simp only [elen]
      by_cases c : f_Sv_lengthOf rt lo hi ti (shb rt lo hi ti nw dr (k - 1)) nw dr ≤ f_Sv_lengthOf rt lo hi ti k nw dr
      · simp only [if_pos c]
        exact ⟨ih1, fun _ => ⟨a1, a2⟩⟩
      · simp only [if_neg c]
        refine ⟨fun j hj => ?_, fun _ => ?_⟩
        · rw [pk_uLn hj, pk_uLn hj]; exact ih1 j hj
        · rw [pk_uLs, pk_uLs]; exact ⟨rfl, rfl⟩
/-- one server against the reference's rows -/
def SR (x : SvS) (i : Nat) (gK gQ gT gO gL gH gI : Nat → Int64) (gP gW : Nat → Bool) (gM : Nat → Nat) (gS gR gX : Nat → Int32) : Prop :=
  s_sec x = gK i ∧ s_pen x = gP i ∧ s_pst x = gT i ∧ s_psi x = gQ i ∧ (gW i = true → s_acc x = gO i) ∧ gW i = decide (0 < s_sm x) ∧ s_str x = gS i ∧ s_ref x = gR i ∧ s_rt x = gX i ∧ s_sm x = gM i ∧ ∀ k, k < s_sm x → s_lo x k = gL (8 * i + k) ∧ s_hi x k = gH (8 * i + k) ∧ s_ti x k = gI (8 * i + k)
/-- what bounds it -/
def SB (x : SvS) (nw : Int64) : Prop :=
  s_sm x ≤ 8 ∧ 0 ≤ (s_psi x).toInt ∧ (s_psi x).toInt ≤ nw.toInt ∧ 0 ≤ (s_rt x).toInt ∧ (s_rt x).toInt ≤ 1000000 ∧ ∀ k, k < s_sm x → (-2199023255552 ≤ (s_lo x k).toInt ∧ (s_lo x k).toInt ≤ 2199023255552) ∧ (-2199023255552 ≤ (s_hi x k).toInt ∧ (s_hi x k).toInt ≤ 2199023255552) ∧ 0 ≤ (s_ti x k).toInt ∧ (s_ti x k).toInt ≤ nw.toInt
theorem grow_bd (t : Int64) (dr : Int32) (h1 : 0 ≤ t.toInt) (h2 : t.toInt ≤ 1000000000000) (h3 : 0 ≤ dr.toInt) (h4 : dr.toInt ≤ 1000) : 0 ≤ (f_M_growth t dr).toInt ∧ (f_M_growth t dr).toInt ≤ 1000000001 := by
  have p0 : 0 ≤ t.toInt * dr.toInt := Int.mul_nonneg h1 h3
  have p1 : t.toInt * dr.toInt ≤ 1000000000000 * 1000 := Int.mul_le_mul h2 h4 h3 (by omega)
  have e1 : (t * dr.toInt64).toInt = t.toInt * dr.toInt := by
    rw [i64_mul, Int32.toInt_toInt64] <;> rw [Int32.toInt_toInt64] <;> omega
  generalize hE : t.toInt * dr.toInt = E at *
  have e2 : (t * dr.toInt64 + 1000000).toInt = E + 1000000 := by rw [i64_add, e1, i64_m] <;> rw [e1, i64_m] <;> omega
  have e3 : (t * dr.toInt64 + 1000000 - 1).toInt = E + 999999 := by rw [i64_sub, e2, i64_1] <;> (try rw [e2, i64_1]) <;> omega
  unfold f_M_growth f_J_floorDiv
  rw [if_pos (i64_xor.mpr (by rw [e3, i64_m]; omega)), i64_div (by decide), e3, i64_m, Int.tdiv_eq_ediv_of_nonneg (by omega)]
  omega
theorem end_bd {x : SvS} {nw : Int64} {dr : Int32} (h : SB x nw) (hw : nw.toInt ≤ 1000000000000) (d1 : 0 ≤ dr.toInt) (d2 : dr.toInt ≤ 1000) {k : Nat} (hk : k < s_sm x) : Bd (f_Sv_lowerEnd (s_rt x) (s_lo x) (s_ti x) k nw dr) ∧ Bd (f_Sv_upperEnd (s_rt x) (s_hi x) (s_ti x) k nw dr) := by
  obtain ⟨-, -, -, r1, r2, hs⟩ := h
  obtain ⟨l, u, t1, t2⟩ := hs k hk
  have et : (nw - s_ti x k).toInt = nw.toInt - (s_ti x k).toInt := i64_sub (by omega) (by omega)
  have g := grow_bd (nw - s_ti x k) dr (by omega) (by omega) d1 d2
  have er : ((s_rt x).toInt64).toInt = (s_rt x).toInt := Int32.toInt_toInt64 _
  unfold f_Sv_lowerEnd f_Sv_upperEnd Bd
  have a1 : (s_lo x k - (s_rt x).toInt64).toInt = (s_lo x k).toInt - (s_rt x).toInt := by rw [i64_sub, er] <;> rw [er] <;> omega
  have a2 : (s_hi x k + (s_rt x).toInt64).toInt = (s_hi x k).toInt + (s_rt x).toInt := by rw [i64_add, er] <;> rw [er] <;> omega
  generalize f_M_growth (nw - s_ti x k) dr = G at *
  constructor
  · rw [i64_sub, a1] <;> (try rw [a1]) <;> omega
  · rw [i64_add, a2] <;> (try rw [a2]) <;> omega
theorem us_eq {x : SvS} {i : Nat} {sf : Int32} {nw : Int64} {gK gQ gT gO gL gH gI : Nat → Int64} {gP gW : Nat → Bool} {gM : Nat → Nat} {gS gR gX : Nat → Int32} (h : SR x i gK gQ gT gO gL gH gI gP gW gM gS gR gX) : f_M_isUsable sf nw (s_str x) (s_ref x) (s_sm x) (s_ti x) = f_T_usable sf nw gM gI gS gR i := by
  obtain ⟨-, -, -, -, -, -, h7, h8, -, h10, h11⟩ := h
  unfold f_M_isUsable f_T_usable
  rw [h7, h8]
  by_cases c1 : gS i < 1
  · simp [c1]
  · by_cases c2 : 14 < gS i
    · simp [c1, c2]
    · by_cases c3 : gR i = sf
      · simp [c1, c2, c3]
      · by_cases c4 : s_sm x ≤ 0
        · have c4' : gM i ≤ 0 := by omega
          simp only [if_neg c1, if_neg c2, if_neg c3, if_pos c4, if_pos c4', if_true]
        · have c4' : ¬ gM i ≤ 0 := by omega
          have e := (h11 0 (by omega)).2.2
          simp only [Nat.add_zero] at e
          simp only [if_neg c1, if_neg c2, if_neg c3, if_neg c4, if_neg c4', e, if_true]
theorem el_spec {dr sf : Int32} {nw : Int64} {nu : Nat → Nat} {lo hi : Nat → Int64} {sg : Nat → SvS} {gK gQ gT gO gL gH gI : Nat → Int64} {gP gW : Nat → Bool} {gM : Nat → Nat} {gS gR gX : Nat → Int32} {gF gY : Nat → Int64} {gN : Nat → Bool} {nS : Nat}
    (hR : ∀ i, i < nS → SR (sg i) i gK gQ gT gO gL gH gI gP gW gM gS gR gX) (hB : ∀ i, i < nS → SB (sg i) nw) (hw : nw.toInt ≤ 1000000000000) (d1 : 0 ≤ dr.toInt) (d2 : dr.toInt ≤ 1000) : ∀ m, m ≤ nS →
    (ceS dr sf nw 0 nu lo hi sg m).1 = lfS (upS dr sf nw gM gL gH gI gS gR gX gF gY gN m).1 m ∧
    En (upS dr sf nw gM gL gH gI gS gR gX gF gY gN m).1 (upS dr sf nw gM gL gH gI gS gR gX gF gY gN m).2.1 (upS dr sf nw gM gL gH gI gS gR gX gF gY gN m).2.2 m (ceS dr sf nw 0 nu lo hi sg m).2.1 (ceS dr sf nw 0 nu lo hi sg m).2.2.1 (ceS dr sf nw 0 nu lo hi sg m).2.2.2 ∧
    (∀ i, i < m → (upS dr sf nw gM gL gH gI gS gR gX gF gY gN m).1 i = true → Bd ((upS dr sf nw gM gL gH gI gS gR gX gF gY gN m).2.1 i) ∧ Bd ((upS dr sf nw gM gL gH gI gS gR gX gF gY gN m).2.2 i))
  | 0, _ => ⟨rfl, fun i hi => by omega, fun i hi => by omega⟩
  | m + 1, hm => by
    obtain ⟨ih1, ih2, ih3⟩ := el_spec (nu := nu) (lo := lo) (hi := hi) (gF := gF) (gY := gY) (gN := gN) hR hB hw d1 d2 m (by omega)
    have r := hR m (by omega)
    have b := hB m (by omega)
    have eu := us_eq (sf := sf) (nw := nw) r
    simp only [ceS, upS]
    rw [eu]
    generalize ceS dr sf nw 0 nu lo hi sg m = s at ih1 ih2 ⊢
    generalize upS dr sf nw gM gL gH gI gS gR gX gF gY gN m = u at ih1 ih2 ih3 ⊢
    obtain ⟨c9, n9, l9, h9⟩ := s
    obtain ⟨g, F, Y⟩ := u
    dsimp only at ih1 ih2 ih3 ⊢
    have lc : ∀ i, i ≤ m → lfS (va_up g m (f_T_usable sf nw gM gI gS gR m)) i = lfS g i := fun i hi => lf_congr i (fun j hj => va_upn (by omega))
    by_cases c : f_T_usable sf nw gM gI gS gR m = true
    · simp only [if_pos c]
      have hpos : 1 ≤ s_sm (sg m) := us_pos (eu.trans c)
      obtain ⟨-, -, -, -, -, -, -, -, r9, r10, r11⟩ := r
      obtain ⟨m1, m2⟩ := me_spec (dr := dr) (nw := nw) (gF := F) (gY := Y) (gX := gX) r11 r9 (fun k hk => ⟨(b.2.2.2.2.2 k hk).2.2.1, (b.2.2.2.2.2 k hk).2.2.2⟩) hw d1 d2 (gM m) (by omega)
      obtain ⟨m3, m4⟩ := m2 (by omega)
      rw [← r10] at m3 m4 m1 ⊢
      have hlt : shb (s_rt (sg m)) (s_lo (sg m)) (s_hi (sg m)) (s_ti (sg m)) nw dr (s_sm (sg m) - 1) < s_sm (sg m) := by
        have := shb_le (s_rt (sg m)) (s_lo (sg m)) (s_hi (sg m)) (s_ti (sg m)) nw dr (s_sm (sg m) - 1)
        omega
      refine ⟨?_, fun i hi gi => ?_, fun i hi gi => ?_⟩
      · rw [lf_t (by rw [va_ups]; exact c), lc m (Nat.le_refl m)]
        omega
      · rw [lc i (by omega)]
        by_cases e : i = m
        · subst e
          rw [← ih1, va_ups, pk_uLs, pk_uLs, m3, m4]
          exact ⟨rfl, rfl, rfl⟩
        · rw [va_upn e] at gi
          have ne : lfS g i ≠ c9 := by have := lf_lt g (show i < m by omega) gi; omega
          obtain ⟨z1, z2⟩ := m1 i e
          rw [va_upn ne, pk_uLn ne, pk_uLn ne, z1, z2]
          exact ih2 i (by omega) gi
      · by_cases e : i = m
        · subst e
          rw [m3, m4]
          exact end_bd b hw d1 d2 hlt
        · rw [va_upn e] at gi
          obtain ⟨z1, z2⟩ := m1 i e
          rw [z1, z2]
          exact ih3 i (by omega) gi
    · simp only [if_neg c]
      refine ⟨?_, fun i hi gi => ?_, fun i hi gi => ?_⟩
      · rw [lf_f (by rw [va_ups]; exact c), lc m (Nat.le_refl m)]
        exact ih1
      · rw [lc i (by omega)]
        by_cases e : i = m
        · subst e; rw [va_ups] at gi; exact absurd gi c
        · rw [va_upn e] at gi
          exact ih2 i (by omega) gi
      · by_cases e : i = m
        · subst e; rw [va_ups] at gi; exact absurd gi c
        · rw [va_upn e] at gi
          exact ih3 i (by omega) gi
