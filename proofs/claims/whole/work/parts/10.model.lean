def f_T_within (x : Int32) (y : Int32) (t : Int32) : Int32 := if y ≤ x then (if x ≤ t then x else t) else y
set_option maxHeartbeats 4000000 in
set_option maxRecDepth 100000 in
theorem c_T_within (l : Launch) (D : va_G) (z : Nat → ClassId) (x : Int32) (y : Int32) (t : Int32)  : Ctr l D z y_T_within b_T_within 3 (some .int) { frames := 0, cells := 0, slots := 0, locals := 0 } [.int x, .int y, .int t] [] (fun v w => v = some (.int (f_T_within x y t)) ∧ w = []) 0 0 := by
  refine met_V (own := R_T) (nm := "within") (by decide +kernel) rfl rfl (Nat.le_of_ble_eq_true rfl) ?_
  intro κ hl hD hz X Y
  subst hl
  subst hD
  subst hz
  show V κ 3 0 0 0 [(0, .int x), (1, .int y), (2, .int t)] [] []
  refine v_iload_n X 0 d_T_within_0 rfl ?_
  refine v_iload_n X 1 d_T_within_1 rfl ?_
  suffices hm2 : V κ 3 0 0 19 [(0, .int x), (1, .int y), (2, .int t)] [.int (if y ≤ x then (if x ≤ t then x else t) else y)] [] by
    refine v_icmp_ge X 9 d_T_within_2 (by decide) (fun c2 => ?_) (fun c2 => ?_)
    · skip
      refine v_iload_n X 0 d_T_within_9 rfl ?_
      refine v_iload_n X 2 d_T_within_10 rfl ?_
      suffices hm11 : V κ 3 0 0 19 [(0, .int x), (1, .int y), (2, .int t)] [.int (if x ≤ t then x else t)] [] by
        refine v_icmp_le X 18 d_T_within_11 (by decide) (fun c11 => ?_) (fun c11 => ?_)
        · skip
          refine v_iload_n X 0 d_T_within_18 rfl ?_
          have h9 := hm11; simp only [if_pos c11] at h9; first | exact h9 | (simp only [if_pos c11]; exact h9)
        · skip
          refine v_iload_n X 2 d_T_within_14 rfl ?_
          refine v_goto X 19 d_T_within_15 (by decide) ?_
          have h9 := hm11; simp only [if_neg c11] at h9; first | exact h9 | (simp only [if_neg c11]; exact h9)
      have h9 := hm2; simp only [if_pos c2] at h9; first | exact h9 | (simp only [if_pos c2]; exact h9)
    · skip
      refine v_iload_n X 1 d_T_within_5 rfl ?_
      refine v_goto X 19 d_T_within_6 (by decide) ?_
      have h9 := hm2; simp only [if_neg c2] at h9; first | exact h9 | (simp only [if_neg c2]; exact h9)
  exact v_iret X Y (by decide) (by decide) d_T_within_19 ⟨rfl, rfl⟩

def f_T_between (x : Int64) (y : Int64) (t : Int64) : Bool := (if x < y then false else (if t < x then false else true))
set_option maxHeartbeats 4000000 in
set_option maxRecDepth 100000 in
theorem c_T_between (l : Launch) (D : va_G) (z : Nat → ClassId) (x : Int64) (y : Int64) (t : Int64)  : Ctr l D z y_T_between b_T_between 6 (some .boolean) { frames := 0, cells := 0, slots := 0, locals := 0 } [.long x, .long y, .long t] [] (fun v w => v = some (.int (bI (f_T_between x y t))) ∧ w = []) 0 0 := by
  refine met_V (own := R_T) (nm := "between") (by decide +kernel) rfl rfl (Nat.le_of_ble_eq_true rfl) ?_
  intro κ hl hD hz X Y
  subst hl
  subst hD
  subst hz
  show V κ 6 0 0 0 [(0, .long x), (2, .long y), (4, .long t)] [] []
  refine v_lload_n X 1 d_T_between_0 rfl ?_
  refine v_lload_n X 0 d_T_between_1 rfl ?_
  suffices hm2 : V κ 6 0 0 18 [(0, .long x), (2, .long y), (4, .long t)] [.int (bI (if x < y then false else (if t < x then false else true)))] [] by
    refine v_lcmp_gt X 17 d_T_between_2 d_T_between_3 (by decide) (fun c2 => ?_) (fun c2 => ?_)
    · skip
      refine v_iconst X 0 d_T_between_17 (by decide) ?_
      have h9 := hm2; simp only [if_pos c2] at h9; first | exact h9 | (simp only [if_pos c2]; exact h9)
    · skip
      refine v_lload_n X 0 d_T_between_6 rfl ?_
      refine v_lload X 2 d_T_between_7 rfl ?_
      suffices hm9 : V κ 6 0 0 18 [(0, .long x), (2, .long y), (4, .long t)] [.int (bI (if t < x then false else true))] [] by
        refine v_lcmp_gt X 17 d_T_between_9 d_T_between_10 (by decide) (fun c9 => ?_) (fun c9 => ?_)
        · skip
          refine v_iconst X 0 d_T_between_17 (by decide) ?_
          have h9 := hm9; simp only [if_pos c9] at h9; first | exact h9 | (simp only [if_pos c9]; exact h9)
        · skip
          refine v_iconst X 1 d_T_between_13 (by decide) ?_
          refine v_goto X 18 d_T_between_14 (by decide) ?_
          have h9 := hm9; simp only [if_neg c9] at h9; first | exact h9 | (simp only [if_neg c9]; exact h9)
      have h9 := hm2; simp only [if_neg c2] at h9; first | exact h9 | (simp only [if_neg c2]; exact h9)
  exact v_zret X Y (by decide) (by decide) d_T_between_18 (narB _) ⟨rfl, rfl⟩

set_option maxHeartbeats 4000000 in
set_option maxRecDepth 100000 in
theorem c_T_isServerG (l : Launch) (D : va_G) (z : Nat → ClassId) (m : Nat) (tS : Nat) (tD : Int32) (tE : Int32) (tN : Int64) (tA : Bool) (tL : Int64) (aK : Nat) (aP : Nat) (aQ : Nat) (aT : Nat) (aW : Nat) (aO : Nat) (aM : Nat) (aL : Nat) (aH : Nat) (aI : Nat) (aS : Nat) (aR : Nat) (aX : Nat) (aF : Nat) (aY : Nat) (aJ : Nat) (tl : Int64) (tg : Int64) (tB : Bool) (tM : Int32) (tb : Int32) (tv : Int64) (tw : Int64) (tT : Int64) (tr : Int64) (tm : Int64) (tf : Int64) (aG : Nat) (aE : Nat) (aU : Nat) (i : Nat) (h6 : tS ≤ 6) (hi9 : i < tS) : Ctr l D z y_T_isServer b_T_isServer 2 (some .boolean) { frames := 0, cells := 0, slots := 0, locals := 0 } [.ref m, .int (nI i)] [(m, .inr (5, (.int (nI tS) :: .int tD :: .int tE :: .long tN :: .int (bI tA) :: .long tL :: .ref aK :: .ref aP :: .ref aQ :: .ref aT :: .ref aW :: .ref aO :: .ref aM :: .ref aL :: .ref aH :: .ref aI :: .ref aS :: .ref aR :: .ref aX :: .ref aF :: .ref aY :: .ref aJ :: .long tl :: .long tg :: .int (bI tB) :: .int tM :: .int tb :: .long tv :: .long tw :: .long tT :: .long tr :: .long tm :: .long tf :: .ref aG :: .ref aE :: .ref aU :: [])))] (fun v w => v = some (.int (bI true)) ∧ w = [(m, .inr (5, (.int (nI tS) :: .int tD :: .int tE :: .long tN :: .int (bI tA) :: .long tL :: .ref aK :: .ref aP :: .ref aQ :: .ref aT :: .ref aW :: .ref aO :: .ref aM :: .ref aL :: .ref aH :: .ref aI :: .ref aS :: .ref aR :: .ref aX :: .ref aF :: .ref aY :: .ref aJ :: .long tl :: .long tg :: .int (bI tB) :: .int tM :: .int tb :: .long tv :: .long tw :: .long tT :: .long tr :: .long tm :: .long tf :: .ref aG :: .ref aE :: .ref aU :: [])))]) 0 0 := by
  refine met_V (own := R_T) (nm := "isServer") (by decide +kernel) rfl rfl (Nat.le_of_ble_eq_true rfl) ?_
  intro κ hl hD hz X Y
  subst hl
  subst hD
  subst hz
  show V κ 2 0 0 0 [(0, .ref m), (1, .int (nI i))] [] [(m, .inr (5, (.int (nI tS) :: .int tD :: .int tE :: .long tN :: .int (bI tA) :: .long tL :: .ref aK :: .ref aP :: .ref aQ :: .ref aT :: .ref aW :: .ref aO :: .ref aM :: .ref aL :: .ref aH :: .ref aI :: .ref aS :: .ref aR :: .ref aX :: .ref aF :: .ref aY :: .ref aJ :: .long tl :: .long tg :: .int (bI tB) :: .int tM :: .int tb :: .long tv :: .long tw :: .long tT :: .long tr :: .long tm :: .long tf :: .ref aG :: .ref aE :: .ref aU :: [])))]
  refine v_iload_n X 1 d_T_isServer_0 rfl ?_
  refine v_ifN_lt X 16 (a := i) d_T_isServer_1 (by decide) (by omega) ?_
  refine v_iload_n X 1 d_T_isServer_4 rfl ?_
  refine v_aload_n X 0 d_T_isServer_5 rfl ?_
  refine v_get X 0 0 rfl rfl li_T (by decide) m427 rfl d_T_isServer_6 ?_
  refine v_icmpN_ge X 16 (a := i) (b := tS) d_T_isServer_9 (by decide) (by omega) (by omega) (fun c9 => by omega) (fun c9 => ?_)
  refine v_iconst X 1 d_T_isServer_12 (by decide) ?_
  refine v_goto X 17 d_T_isServer_13 (by decide) ?_
  exact v_zret X Y (by decide) (by decide) d_T_isServer_17 rfl ⟨rfl, rfl⟩

set_option maxHeartbeats 4000000 in
set_option maxRecDepth 100000 in
theorem c_T_isServerB (l : Launch) (D : va_G) (z : Nat → ClassId) (m : Nat) (tS : Nat) (tD : Int32) (tE : Int32) (tN : Int64) (tA : Bool) (tL : Int64) (aK : Nat) (aP : Nat) (aQ : Nat) (aT : Nat) (aW : Nat) (aO : Nat) (aM : Nat) (aL : Nat) (aH : Nat) (aI : Nat) (aS : Nat) (aR : Nat) (aX : Nat) (aF : Nat) (aY : Nat) (aJ : Nat) (tl : Int64) (tg : Int64) (tB : Bool) (tM : Int32) (tb : Int32) (tv : Int64) (tw : Int64) (tT : Int64) (tr : Int64) (tm : Int64) (tf : Int64) (aG : Nat) (aE : Nat) (aU : Nat) (s : Int32) (hb9 : ¬ s < 0 → ¬ s < nI tS) : Ctr l D z y_T_isServer b_T_isServer 2 (some .boolean) { frames := 0, cells := 0, slots := 0, locals := 0 } [.ref m, .int s] [(m, .inr (5, (.int (nI tS) :: .int tD :: .int tE :: .long tN :: .int (bI tA) :: .long tL :: .ref aK :: .ref aP :: .ref aQ :: .ref aT :: .ref aW :: .ref aO :: .ref aM :: .ref aL :: .ref aH :: .ref aI :: .ref aS :: .ref aR :: .ref aX :: .ref aF :: .ref aY :: .ref aJ :: .long tl :: .long tg :: .int (bI tB) :: .int tM :: .int tb :: .long tv :: .long tw :: .long tT :: .long tr :: .long tm :: .long tf :: .ref aG :: .ref aE :: .ref aU :: [])))] (fun v w => v = some (.int (bI false)) ∧ w = [(m, .inr (5, (.int (nI tS) :: .int tD :: .int tE :: .long tN :: .int (bI tA) :: .long tL :: .ref aK :: .ref aP :: .ref aQ :: .ref aT :: .ref aW :: .ref aO :: .ref aM :: .ref aL :: .ref aH :: .ref aI :: .ref aS :: .ref aR :: .ref aX :: .ref aF :: .ref aY :: .ref aJ :: .long tl :: .long tg :: .int (bI tB) :: .int tM :: .int tb :: .long tv :: .long tw :: .long tT :: .long tr :: .long tm :: .long tf :: .ref aG :: .ref aE :: .ref aU :: [])))]) 0 0 := by
  refine met_V (own := R_T) (nm := "isServer") (by decide +kernel) rfl rfl (Nat.le_of_ble_eq_true rfl) ?_
  intro κ hl hD hz X Y
  subst hl
  subst hD
  subst hz
  show V κ 2 0 0 0 [(0, .ref m), (1, .int s)] [] [(m, .inr (5, (.int (nI tS) :: .int tD :: .int tE :: .long tN :: .int (bI tA) :: .long tL :: .ref aK :: .ref aP :: .ref aQ :: .ref aT :: .ref aW :: .ref aO :: .ref aM :: .ref aL :: .ref aH :: .ref aI :: .ref aS :: .ref aR :: .ref aX :: .ref aF :: .ref aY :: .ref aJ :: .long tl :: .long tg :: .int (bI tB) :: .int tM :: .int tb :: .long tv :: .long tw :: .long tT :: .long tr :: .long tm :: .long tf :: .ref aG :: .ref aE :: .ref aU :: [])))]
  refine v_iload_n X 1 d_T_isServer_0 rfl ?_
  refine v_if_lt X 16 d_T_isServer_1 (by decide) (fun c1 => ?_) (fun c1 => ?_)
  · skip
    refine v_iconst X 0 d_T_isServer_16 (by decide) ?_
    exact v_zret X Y (by decide) (by decide) d_T_isServer_17 rfl ⟨by first | (simp only [if_pos c1] <;> rfl) | rfl, rfl⟩
  · skip
    refine v_iload_n X 1 d_T_isServer_4 rfl ?_
    refine v_aload_n X 0 d_T_isServer_5 rfl ?_
    refine v_get X 0 0 rfl rfl li_T (by decide) m427 rfl d_T_isServer_6 ?_
    refine v_icmp_ge X 16 d_T_isServer_9 (by decide) (fun c9 => ?_) (fun c9 => absurd (Int32.not_le.mp c9) (hb9 c1))
    refine v_iconst X 0 d_T_isServer_16 (by decide) ?_
    exact v_zret X Y (by decide) (by decide) d_T_isServer_17 rfl ⟨by first | (simp only [if_neg c1] <;> rfl) | rfl, rfl⟩

def f_T_down (x : Int64) (y : Int64) : Int64 := if ((x / y) * y) ≤ x then x / y else (x / y) - 1
set_option maxHeartbeats 4000000 in
set_option maxRecDepth 100000 in
theorem c_T_down (l : Launch) (D : va_G) (z : Nat → ClassId) (x : Int64) (y : Int64) (hy : ¬ y = 0) : Ctr l D z y_T_down b_T_down 6 (some .long) { frames := 0, cells := 0, slots := 0, locals := 0 } [.long x, .long y] [] (fun v w => v = some (.long (f_T_down x y)) ∧ w = []) 0 0 := by
  refine met_V (own := R_T) (nm := "down") (by decide +kernel) rfl rfl (Nat.le_of_ble_eq_true rfl) ?_
  intro κ hl hD hz X Y
  subst hl
  subst hD
  subst hz
  show V κ 6 0 0 0 [(0, .long x), (2, .long y)] [] []
  refine v_lload_n X 0 d_T_down_0 rfl ?_
  refine v_lload_n X 1 d_T_down_1 rfl ?_
  refine v_ldiv X d_T_down_2 hy ?_
  refine v_lstore X d_T_down_3 (by decide) (lv' := [(4, .long (x / y)), (0, .long x), (2, .long y)]) rfl ?_
  refine v_lload X 0 d_T_down_5 rfl ?_
  refine v_lload_n X 2 d_T_down_7 rfl ?_
  refine v_lmul X d_T_down_8 ?_
  refine v_lload_n X 1 d_T_down_9 rfl ?_
  suffices hm10 : V κ 6 0 0 23 [(4, .long (x / y)), (0, .long x), (2, .long y)] [.long (if ((x / y) * y) ≤ x then x / y else (x / y) - 1)] [] by
    refine v_lcmp_le X 21 d_T_down_10 d_T_down_11 (by decide) (fun c10 => ?_) (fun c10 => ?_)
    · skip
      refine v_lload X 0 d_T_down_21 rfl ?_
      have h9 := hm10; simp only [if_pos c10] at h9; first | exact h9 | (simp only [if_pos c10]; exact h9)
    · skip
      refine v_lload X 0 d_T_down_14 rfl ?_
      refine v_lconst X 1 d_T_down_16 (by decide) ?_
      refine v_lsub X d_T_down_17 ?_
      refine v_goto X 23 d_T_down_18 (by decide) ?_
      have h9 := hm10; simp only [if_neg c10] at h9; first | exact h9 | (simp only [if_neg c10]; exact h9)
  exact v_lret X Y (by decide) (by decide) d_T_down_23 ⟨rfl, rfl⟩

def f_T_growth (tD : Int32) (x : Int64) : Int64 := if (x * tD.toInt64) ≤ (((x * tD.toInt64) / 1000000) * 1000000) then (x * tD.toInt64) / 1000000 else ((x * tD.toInt64) / 1000000) + 1
set_option maxHeartbeats 4000000 in
set_option maxRecDepth 100000 in
theorem c_T_growth (l : Launch) (D : va_G) (z : Nat → ClassId) (m : Nat) (tS : Nat) (tD : Int32) (tE : Int32) (tN : Int64) (tA : Bool) (tL : Int64) (aK : Nat) (aP : Nat) (aQ : Nat) (aT : Nat) (aW : Nat) (aO : Nat) (aM : Nat) (aL : Nat) (aH : Nat) (aI : Nat) (aS : Nat) (aR : Nat) (aX : Nat) (aF : Nat) (aY : Nat) (aJ : Nat) (tl : Int64) (tg : Int64) (tB : Bool) (tM : Int32) (tb : Int32) (tv : Int64) (tw : Int64) (tT : Int64) (tr : Int64) (tm : Int64) (tf : Int64) (aG : Nat) (aE : Nat) (aU : Nat) (x : Int64)  : Ctr l D z y_T_growth b_T_growth 7 (some .long) { frames := 0, cells := 0, slots := 0, locals := 0 } [.ref m, .long x] [(m, .inr (5, (.int (nI tS) :: .int tD :: .int tE :: .long tN :: .int (bI tA) :: .long tL :: .ref aK :: .ref aP :: .ref aQ :: .ref aT :: .ref aW :: .ref aO :: .ref aM :: .ref aL :: .ref aH :: .ref aI :: .ref aS :: .ref aR :: .ref aX :: .ref aF :: .ref aY :: .ref aJ :: .long tl :: .long tg :: .int (bI tB) :: .int tM :: .int tb :: .long tv :: .long tw :: .long tT :: .long tr :: .long tm :: .long tf :: .ref aG :: .ref aE :: .ref aU :: [])))] (fun v w => v = some (.long (f_T_growth tD x)) ∧ w = [(m, .inr (5, (.int (nI tS) :: .int tD :: .int tE :: .long tN :: .int (bI tA) :: .long tL :: .ref aK :: .ref aP :: .ref aQ :: .ref aT :: .ref aW :: .ref aO :: .ref aM :: .ref aL :: .ref aH :: .ref aI :: .ref aS :: .ref aR :: .ref aX :: .ref aF :: .ref aY :: .ref aJ :: .long tl :: .long tg :: .int (bI tB) :: .int tM :: .int tb :: .long tv :: .long tw :: .long tT :: .long tr :: .long tm :: .long tf :: .ref aG :: .ref aE :: .ref aU :: [])))]) 0 0 := by
  refine met_V (own := R_T) (nm := "growth") (by decide +kernel) rfl rfl (Nat.le_of_ble_eq_true rfl) ?_
  intro κ hl hD hz X Y
  subst hl
  subst hD
  subst hz
  show V κ 7 0 0 0 [(0, .ref m), (1, .long x)] [] [(m, .inr (5, (.int (nI tS) :: .int tD :: .int tE :: .long tN :: .int (bI tA) :: .long tL :: .ref aK :: .ref aP :: .ref aQ :: .ref aT :: .ref aW :: .ref aO :: .ref aM :: .ref aL :: .ref aH :: .ref aI :: .ref aS :: .ref aR :: .ref aX :: .ref aF :: .ref aY :: .ref aJ :: .long tl :: .long tg :: .int (bI tB) :: .int tM :: .int tb :: .long tv :: .long tw :: .long tT :: .long tr :: .long tm :: .long tf :: .ref aG :: .ref aE :: .ref aU :: [])))]
  refine v_lload_n X 1 d_T_growth_0 rfl ?_
  refine v_aload_n X 0 d_T_growth_1 rfl ?_
  refine v_get X 0 1 rfl rfl li_T (by decide) m428 rfl d_T_growth_2 ?_
  refine v_i2l X d_T_growth_5 ?_
  refine v_lmul X d_T_growth_6 ?_
  refine v_lstore_n X d_T_growth_7 rfl (by decide) (lv' := [(3, .long (x * tD.toInt64)), (0, .ref m), (1, .long x)]) rfl ?_
  refine v_lload_n X 0 d_T_growth_8 rfl ?_
  refine v_ldc2 X (v := 1000000) m555 d_T_growth_9 ?_
  refine v_ldiv X d_T_growth_12 (by decide) ?_
  refine v_lstore X d_T_growth_13 (by decide) (lv' := [(5, .long ((x * tD.toInt64) / 1000000)), (3, .long (x * tD.toInt64)), (0, .ref m), (1, .long x)]) rfl ?_
  refine v_lload X 0 d_T_growth_15 rfl ?_
  refine v_ldc2 X (v := 1000000) m555 d_T_growth_17 ?_
  refine v_lmul X d_T_growth_20 ?_
  refine v_lload_n X 1 d_T_growth_21 rfl ?_
  show V κ 7 0 0 22 [(5, .long ((x * tD.toInt64) / 1000000)), (3, .long (x * tD.toInt64)), (0, .ref m), (1, .long x)] [.long (x * tD.toInt64), .long (((x * tD.toInt64) / 1000000) * 1000000)] [(m, .inr (5, (.int (nI tS) :: .int tD :: .int tE :: .long tN :: .int (bI tA) :: .long tL :: .ref aK :: .ref aP :: .ref aQ :: .ref aT :: .ref aW :: .ref aO :: .ref aM :: .ref aL :: .ref aH :: .ref aI :: .ref aS :: .ref aR :: .ref aX :: .ref aF :: .ref aY :: .ref aJ :: .long tl :: .long tg :: .int (bI tB) :: .int tM :: .int tb :: .long tv :: .long tw :: .long tT :: .long tr :: .long tm :: .long tf :: .ref aG :: .ref aE :: .ref aU :: [])))]
  suffices hm22 : V κ 7 0 0 35 [(5, .long ((x * tD.toInt64) / 1000000)), (3, .long (x * tD.toInt64)), (0, .ref m), (1, .long x)] [.long (if (x * tD.toInt64) ≤ (((x * tD.toInt64) / 1000000) * 1000000) then (x * tD.toInt64) / 1000000 else ((x * tD.toInt64) / 1000000) + 1)] [(m, .inr (5, (.int (nI tS) :: .int tD :: .int tE :: .long tN :: .int (bI tA) :: .long tL :: .ref aK :: .ref aP :: .ref aQ :: .ref aT :: .ref aW :: .ref aO :: .ref aM :: .ref aL :: .ref aH :: .ref aI :: .ref aS :: .ref aR :: .ref aX :: .ref aF :: .ref aY :: .ref aJ :: .long tl :: .long tg :: .int (bI tB) :: .int tM :: .int tb :: .long tv :: .long tw :: .long tT :: .long tr :: .long tm :: .long tf :: .ref aG :: .ref aE :: .ref aU :: [])))] by
    refine v_lcmp_ge X 33 d_T_growth_22 d_T_growth_23 (by decide) (fun c22 => ?_) (fun c22 => ?_)
    · skip
      refine v_lload X 0 d_T_growth_33 rfl ?_
      have h9 := hm22; simp only [if_pos c22] at h9; first | exact h9 | (simp only [if_pos c22]; exact h9)
    · skip
      refine v_lload X 0 d_T_growth_26 rfl ?_
      refine v_lconst X 1 d_T_growth_28 (by decide) ?_
      refine v_ladd X d_T_growth_29 ?_
      refine v_goto X 35 d_T_growth_30 (by decide) ?_
      have h9 := hm22; simp only [if_neg c22] at h9; first | exact h9 | (simp only [if_neg c22]; exact h9)
  exact v_lret X Y (by decide) (by decide) d_T_growth_35 ⟨rfl, rfl⟩

def f_T_advance (x : Int32) : Bool := if x < 0 then false else (if x ≤ 1000000 then true else false)
def f_T_advance_now (tN : Int64) (x : Int32) : Int64 := if x < 0 then tN else if x ≤ 1000000 then tN + x.toInt64 else tN
set_option maxHeartbeats 4000000 in
set_option maxRecDepth 100000 in
theorem c_T_advance (l : Launch) (D : va_G) (z : Nat → ClassId) (m : Nat) (tS : Nat) (tD : Int32) (tE : Int32) (tN : Int64) (tA : Bool) (tL : Int64) (aK : Nat) (aP : Nat) (aQ : Nat) (aT : Nat) (aW : Nat) (aO : Nat) (aM : Nat) (aL : Nat) (aH : Nat) (aI : Nat) (aS : Nat) (aR : Nat) (aX : Nat) (aF : Nat) (aY : Nat) (aJ : Nat) (tl : Int64) (tg : Int64) (tB : Bool) (tM : Int32) (tb : Int32) (tv : Int64) (tw : Int64) (tT : Int64) (tr : Int64) (tm : Int64) (tf : Int64) (aG : Nat) (aE : Nat) (aU : Nat) (x : Int32)  : Ctr l D z y_T_advance b_T_advance 2 (some .boolean) { frames := 0, cells := 0, slots := 0, locals := 0 } [.ref m, .int x] [(m, .inr (5, (.int (nI tS) :: .int tD :: .int tE :: .long tN :: .int (bI tA) :: .long tL :: .ref aK :: .ref aP :: .ref aQ :: .ref aT :: .ref aW :: .ref aO :: .ref aM :: .ref aL :: .ref aH :: .ref aI :: .ref aS :: .ref aR :: .ref aX :: .ref aF :: .ref aY :: .ref aJ :: .long tl :: .long tg :: .int (bI tB) :: .int tM :: .int tb :: .long tv :: .long tw :: .long tT :: .long tr :: .long tm :: .long tf :: .ref aG :: .ref aE :: .ref aU :: [])))] (fun v w => v = some (.int (bI (f_T_advance x))) ∧ w = [(m, .inr (5, (.int (nI tS) :: .int tD :: .int tE :: .long (f_T_advance_now tN x) :: .int (bI tA) :: .long tL :: .ref aK :: .ref aP :: .ref aQ :: .ref aT :: .ref aW :: .ref aO :: .ref aM :: .ref aL :: .ref aH :: .ref aI :: .ref aS :: .ref aR :: .ref aX :: .ref aF :: .ref aY :: .ref aJ :: .long tl :: .long tg :: .int (bI tB) :: .int tM :: .int tb :: .long tv :: .long tw :: .long tT :: .long tr :: .long tm :: .long tf :: .ref aG :: .ref aE :: .ref aU :: [])))]) 0 0 := by
  refine met_V (own := R_T) (nm := "advance") (by decide +kernel) rfl rfl (Nat.le_of_ble_eq_true rfl) ?_
  intro κ hl hD hz X Y
  subst hl
  subst hD
  subst hz
  show V κ 2 0 0 0 [(0, .ref m), (1, .int x)] [] [(m, .inr (5, (.int (nI tS) :: .int tD :: .int tE :: .long tN :: .int (bI tA) :: .long tL :: .ref aK :: .ref aP :: .ref aQ :: .ref aT :: .ref aW :: .ref aO :: .ref aM :: .ref aL :: .ref aH :: .ref aI :: .ref aS :: .ref aR :: .ref aX :: .ref aF :: .ref aY :: .ref aJ :: .long tl :: .long tg :: .int (bI tB) :: .int tM :: .int tb :: .long tv :: .long tw :: .long tT :: .long tr :: .long tm :: .long tf :: .ref aG :: .ref aE :: .ref aU :: [])))]
  refine v_iload_n X 1 d_T_advance_0 rfl ?_
  refine v_if_lt X 10 d_T_advance_1 (by decide) (fun c1 => ?_) (fun c1 => ?_)
  · skip
    refine v_iconst X 0 d_T_advance_10 (by decide) ?_
    exact v_zret X Y (by decide) (by decide) d_T_advance_11 rfl ⟨by first | (simp only [f_T_advance, f_T_advance_now, if_pos c1] <;> rfl) | rfl, by first | (simp only [f_T_advance, f_T_advance_now, if_pos c1] <;> rfl) | rfl⟩
  · skip
    refine v_iload_n X 1 d_T_advance_4 rfl ?_
    refine v_ldc X (v := 1000000) m504 d_T_advance_5 ?_
    refine v_icmp_le X 12 d_T_advance_7 (by decide) (fun c7 => ?_) (fun c7 => ?_)
    · skip
      refine v_aload_n X 0 d_T_advance_12 rfl ?_
      refine v_aload_n X 0 d_T_advance_13 rfl ?_
      refine v_get X 0 3 rfl rfl li_T (by decide) m430 rfl d_T_advance_14 ?_
      refine v_iload_n X 1 d_T_advance_17 rfl ?_
      refine v_i2l X d_T_advance_18 ?_
      refine v_ladd X d_T_advance_19 ?_
      refine v_put X 0 3 (v := .long (tN + x.toInt64)) (ty := .long) ty_T tk_T n_T rfl rfl li_T (by decide) m430 rfl (by decide +kernel) rfl rfl (Nat.le_of_ble_eq_true rfl) d_T_advance_20 (ws' := [(m, .inr (5, (.int (nI tS) :: .int tD :: .int tE :: .long (tN + x.toInt64) :: .int (bI tA) :: .long tL :: .ref aK :: .ref aP :: .ref aQ :: .ref aT :: .ref aW :: .ref aO :: .ref aM :: .ref aL :: .ref aH :: .ref aI :: .ref aS :: .ref aR :: .ref aX :: .ref aF :: .ref aY :: .ref aJ :: .long tl :: .long tg :: .int (bI tB) :: .int tM :: .int tb :: .long tv :: .long tw :: .long tT :: .long tr :: .long tm :: .long tf :: .ref aG :: .ref aE :: .ref aU :: [])))]) rfl ?_
      refine v_iconst X 1 d_T_advance_23 (by decide) ?_
      exact v_zret X Y (by decide) (by decide) d_T_advance_24 rfl ⟨by first | (simp only [f_T_advance, f_T_advance_now, if_neg c1, if_pos c7] <;> rfl) | rfl, by first | (simp only [f_T_advance, f_T_advance_now, if_neg c1, if_pos c7] <;> rfl) | rfl⟩
    · skip
      refine v_iconst X 0 d_T_advance_10 (by decide) ?_
      exact v_zret X Y (by decide) (by decide) d_T_advance_11 rfl ⟨by first | (simp only [f_T_advance, f_T_advance_now, if_neg c1, if_neg c7] <;> rfl) | rfl, by first | (simp only [f_T_advance, f_T_advance_now, if_neg c1, if_neg c7] <;> rfl) | rfl⟩

set_option maxHeartbeats 4000000 in
set_option maxRecDepth 100000 in
theorem c_T_hardware (l : Launch) (D : va_G) (z : Nat → ClassId) (m : Nat) (tS : Nat) (tD : Int32) (tE : Int32) (tN : Int64) (tA : Bool) (tL : Int64) (aK : Nat) (aP : Nat) (aQ : Nat) (aT : Nat) (aW : Nat) (aO : Nat) (aM : Nat) (aL : Nat) (aH : Nat) (aI : Nat) (aS : Nat) (aR : Nat) (aX : Nat) (aF : Nat) (aY : Nat) (aJ : Nat) (tl : Int64) (tg : Int64) (tB : Bool) (tM : Int32) (tb : Int32) (tv : Int64) (tw : Int64) (tT : Int64) (tr : Int64) (tm : Int64) (tf : Int64) (aG : Nat) (aE : Nat) (aU : Nat)  : Ctr l D z y_T_hardware b_T_hardware 1 (some .long) { frames := 0, cells := 0, slots := 0, locals := 0 } [.ref m] [(m, .inr (5, (.int (nI tS) :: .int tD :: .int tE :: .long tN :: .int (bI tA) :: .long tL :: .ref aK :: .ref aP :: .ref aQ :: .ref aT :: .ref aW :: .ref aO :: .ref aM :: .ref aL :: .ref aH :: .ref aI :: .ref aS :: .ref aR :: .ref aX :: .ref aF :: .ref aY :: .ref aJ :: .long tl :: .long tg :: .int (bI tB) :: .int tM :: .int tb :: .long tv :: .long tw :: .long tT :: .long tr :: .long tm :: .long tf :: .ref aG :: .ref aE :: .ref aU :: [])))] (fun v w => v = some (.long tN) ∧ w = [(m, .inr (5, (.int (nI tS) :: .int tD :: .int tE :: .long tN :: .int (bI tA) :: .long tL :: .ref aK :: .ref aP :: .ref aQ :: .ref aT :: .ref aW :: .ref aO :: .ref aM :: .ref aL :: .ref aH :: .ref aI :: .ref aS :: .ref aR :: .ref aX :: .ref aF :: .ref aY :: .ref aJ :: .long tl :: .long tg :: .int (bI tB) :: .int tM :: .int tb :: .long tv :: .long tw :: .long tT :: .long tr :: .long tm :: .long tf :: .ref aG :: .ref aE :: .ref aU :: [])))]) 0 0 := by
  refine met_V (own := R_T) (nm := "hardware") (by decide +kernel) rfl rfl (Nat.le_of_ble_eq_true rfl) ?_
  intro κ hl hD hz X Y
  subst hl
  subst hD
  subst hz
  show V κ 1 0 0 0 [(0, .ref m)] [] [(m, .inr (5, (.int (nI tS) :: .int tD :: .int tE :: .long tN :: .int (bI tA) :: .long tL :: .ref aK :: .ref aP :: .ref aQ :: .ref aT :: .ref aW :: .ref aO :: .ref aM :: .ref aL :: .ref aH :: .ref aI :: .ref aS :: .ref aR :: .ref aX :: .ref aF :: .ref aY :: .ref aJ :: .long tl :: .long tg :: .int (bI tB) :: .int tM :: .int tb :: .long tv :: .long tw :: .long tT :: .long tr :: .long tm :: .long tf :: .ref aG :: .ref aE :: .ref aU :: [])))]
  refine v_aload_n X 0 d_T_hardware_0 rfl ?_
  refine v_get X 0 3 rfl rfl li_T (by decide) m430 rfl d_T_hardware_1 ?_
  exact v_lret X Y (by decide) (by decide) d_T_hardware_4 ⟨rfl, rfl⟩

def f_T_mixed (x : Int64) (y : Int64) : Int64 := ((x ^^^ y) * (-7046029254386353131)) ^^^ ((((x ^^^ y) * (-7046029254386353131)).toUInt64 >>> ((29 : Int32).toInt64.toUInt64 &&& Int64.toUInt64 63)).toInt64)
set_option maxHeartbeats 4000000 in
set_option maxRecDepth 100000 in
theorem c_T_mixed (l : Launch) (D : va_G) (z : Nat → ClassId) (x : Int64) (y : Int64)  : Ctr l D z y_T_mixed b_T_mixed 6 (some .long) { frames := 0, cells := 0, slots := 0, locals := 0 } [.long x, .long y] [] (fun v w => v = some (.long (f_T_mixed x y)) ∧ w = []) 0 0 := by
  refine met_V (own := R_T) (nm := "mixed") (by decide +kernel) rfl rfl (Nat.le_of_ble_eq_true rfl) ?_
  intro κ hl hD hz X Y
  subst hl
  subst hD
  subst hz
  show V κ 6 0 0 0 [(0, .long x), (2, .long y)] [] []
  refine v_lload_n X 0 d_T_mixed_0 rfl ?_
  refine v_lload_n X 1 d_T_mixed_1 rfl ?_
  refine v_lxor X d_T_mixed_2 ?_
  refine v_ldc2 X (v := (-7046029254386353131)) m523 d_T_mixed_3 ?_
  refine v_lmul X d_T_mixed_6 ?_
  refine v_lstore X d_T_mixed_7 (by decide) (lv' := [(4, .long ((x ^^^ y) * (-7046029254386353131))), (0, .long x), (2, .long y)]) rfl ?_
  refine v_lload X 0 d_T_mixed_9 rfl ?_
  refine v_lload X 0 d_T_mixed_11 rfl ?_
  refine v_bipush X 29 d_T_mixed_13 (by decide) ?_
  refine v_lushr X d_T_mixed_15 ?_
  refine v_lxor X d_T_mixed_16 ?_
  exact v_lret X Y (by decide) (by decide) d_T_mixed_17 ⟨rfl, rfl⟩

set_option maxHeartbeats 4000000 in
set_option maxRecDepth 100000 in
theorem c_T_keyG (l : Launch) (D : va_G) (z : Nat → ClassId) (m : Nat) (tS : Nat) (tD : Int32) (tE : Int32) (tN : Int64) (tA : Bool) (tL : Int64) (aK : Nat) (aP : Nat) (aQ : Nat) (aT : Nat) (aW : Nat) (aO : Nat) (aM : Nat) (aL : Nat) (aH : Nat) (aI : Nat) (aS : Nat) (aR : Nat) (aX : Nat) (aF : Nat) (aY : Nat) (aJ : Nat) (tl : Int64) (tg : Int64) (tB : Bool) (tM : Int32) (tb : Int32) (tv : Int64) (tw : Int64) (tT : Int64) (tr : Int64) (tm : Int64) (tf : Int64) (aG : Nat) (aE : Nat) (aU : Nat) (gK : Nat → Int64) (i : Nat) (x : Int64) (h6 : tS ≤ 6) (hi9 : i < tS) : Ctr l D z y_T_key b_T_key 4 (some .boolean) { frames := 1, cells := 0, slots := 0, locals := 21 } [.ref m, .int (nI i), .long x] [(m, .inr (5, (.int (nI tS) :: .int tD :: .int tE :: .long tN :: .int (bI tA) :: .long tL :: .ref aK :: .ref aP :: .ref aQ :: .ref aT :: .ref aW :: .ref aO :: .ref aM :: .ref aL :: .ref aH :: .ref aI :: .ref aS :: .ref aR :: .ref aX :: .ref aF :: .ref aY :: .ref aJ :: .long tl :: .long tg :: .int (bI tB) :: .int tM :: .int tb :: .long tv :: .long tw :: .long tT :: .long tr :: .long tm :: .long tf :: .ref aG :: .ref aE :: .ref aU :: []))), (aK, .inl (z 1, 6, .inr (.inl gK)))] (fun v w => v = some (.int (bI true)) ∧ w = [(m, .inr (5, (.int (nI tS) :: .int tD :: .int tE :: .long tN :: .int (bI tA) :: .long tL :: .ref aK :: .ref aP :: .ref aQ :: .ref aT :: .ref aW :: .ref aO :: .ref aM :: .ref aL :: .ref aH :: .ref aI :: .ref aS :: .ref aR :: .ref aX :: .ref aF :: .ref aY :: .ref aJ :: .long tl :: .long tg :: .int (bI tB) :: .int tM :: .int tb :: .long tv :: .long tw :: .long tT :: .long tr :: .long tm :: .long tf :: .ref aG :: .ref aE :: .ref aU :: []))), (aK, .inl (z 1, 6, .inr (.inl (vp_updL gK i x))))]) 0 0 := by
  refine met_V (own := R_T) (nm := "key") (by decide +kernel) rfl rfl (Nat.le_of_ble_eq_true rfl) ?_
  intro κ hl hD hz X Y
  subst hl
  subst hD
  subst hz
  show V κ 4 0 0 0 [(0, .ref m), (1, .int (nI i)), (2, .long x)] [] [(m, .inr (5, (.int (nI tS) :: .int tD :: .int tE :: .long tN :: .int (bI tA) :: .long tL :: .ref aK :: .ref aP :: .ref aQ :: .ref aT :: .ref aW :: .ref aO :: .ref aM :: .ref aL :: .ref aH :: .ref aI :: .ref aS :: .ref aR :: .ref aX :: .ref aF :: .ref aY :: .ref aJ :: .long tl :: .long tg :: .int (bI tB) :: .int tM :: .int tb :: .long tv :: .long tw :: .long tT :: .long tr :: .long tm :: .long tf :: .ref aG :: .ref aE :: .ref aU :: []))), (aK, .inl (κ.z 1, 6, .inr (.inl gK)))]
  refine v_aload_n X 0 d_T_key_0 rfl ?_
  refine v_iload_n X 1 d_T_key_1 rfl ?_
  refine v_callV X (b := m) (k := 0) (n := 0) (n9 := 1) (As := [.int (nI i)]) (rest := []) (wc := [(m, .inr (5, (.int (nI tS) :: .int tD :: .int tE :: .long tN :: .int (bI tA) :: .long tL :: .ref aK :: .ref aP :: .ref aQ :: .ref aT :: .ref aW :: .ref aO :: .ref aM :: .ref aL :: .ref aH :: .ref aI :: .ref aS :: .ref aR :: .ref aX :: .ref aF :: .ref aY :: .ref aJ :: .long tl :: .long tg :: .int (bI tB) :: .int tM :: .int tb :: .long tv :: .long tw :: .long tT :: .long tr :: .long tm :: .long tf :: .ref aG :: .ref aE :: .ref aU :: [])))]) (wr := [(aK, .inl (κ.z 1, 6, .inr (.inl gK)))]) (c_T_isServerG κ.l κ.D κ.z m tS tD tE tN tA tL aK aP aQ aT aW aO aM aL aH aI aS aR aX aF aY aJ tl tg tB tM tb tv tw tT tr tm tf aG aE aU i h6 hi9) 0 rfl rfl m513 m514 m16 m36 (by decide +kernel) rfl (Nat.le_of_ble_eq_true rfl) ⟨by decide, by decide⟩ ⟨by decide, by decide⟩ rfl rfl m515 d_T_key_2 (fun v w1 hg => ?_)
  obtain ⟨rfl, rfl⟩ := hg
  show V κ 4 0 0 5 [(0, .ref m), (1, .int (nI i)), (2, .long x)] [.int (bI true)] [(m, .inr (5, (.int (nI tS) :: .int tD :: .int tE :: .long tN :: .int (bI tA) :: .long tL :: .ref aK :: .ref aP :: .ref aQ :: .ref aT :: .ref aW :: .ref aO :: .ref aM :: .ref aL :: .ref aH :: .ref aI :: .ref aS :: .ref aR :: .ref aX :: .ref aF :: .ref aY :: .ref aJ :: .long tl :: .long tg :: .int (bI tB) :: .int tM :: .int tb :: .long tv :: .long tw :: .long tT :: .long tr :: .long tm :: .long tf :: .ref aG :: .ref aE :: .ref aU :: []))), (aK, .inl (κ.z 1, 6, .inr (.inl gK)))]
  refine v_ifB_ne X 10 (t := true) d_T_key_5 (by decide) (fun c5 => ?_) (fun c5 => absurd c5 (by decide))
  refine v_aload_n X 0 d_T_key_10 rfl ?_
  refine v_get X 0 6 rfl rfl li_T (by decide) m433 rfl d_T_key_11 ?_
  refine v_iload_n X 1 d_T_key_14 rfl ?_
  refine v_lload_n X 2 d_T_key_15 rfl ?_
  refine v_lastN X 1 1 (j := i) (x := x) rfl rfl (by omega) (by omega) d_T_key_16 (ws' := [(m, .inr (5, (.int (nI tS) :: .int tD :: .int tE :: .long tN :: .int (bI tA) :: .long tL :: .ref aK :: .ref aP :: .ref aQ :: .ref aT :: .ref aW :: .ref aO :: .ref aM :: .ref aL :: .ref aH :: .ref aI :: .ref aS :: .ref aR :: .ref aX :: .ref aF :: .ref aY :: .ref aJ :: .long tl :: .long tg :: .int (bI tB) :: .int tM :: .int tb :: .long tv :: .long tw :: .long tT :: .long tr :: .long tm :: .long tf :: .ref aG :: .ref aE :: .ref aU :: []))), (aK, .inl (κ.z 1, 6, .inr (.inl (vp_updL gK i x))))]) rfl ?_
  refine v_iconst X 1 d_T_key_17 (by decide) ?_
  exact v_zret X Y (by decide) (by decide) d_T_key_18 rfl ⟨rfl, rfl⟩

set_option maxHeartbeats 4000000 in
set_option maxRecDepth 100000 in
theorem c_T_keyB (l : Launch) (D : va_G) (z : Nat → ClassId) (m : Nat) (tS : Nat) (tD : Int32) (tE : Int32) (tN : Int64) (tA : Bool) (tL : Int64) (aK : Nat) (aP : Nat) (aQ : Nat) (aT : Nat) (aW : Nat) (aO : Nat) (aM : Nat) (aL : Nat) (aH : Nat) (aI : Nat) (aS : Nat) (aR : Nat) (aX : Nat) (aF : Nat) (aY : Nat) (aJ : Nat) (tl : Int64) (tg : Int64) (tB : Bool) (tM : Int32) (tb : Int32) (tv : Int64) (tw : Int64) (tT : Int64) (tr : Int64) (tm : Int64) (tf : Int64) (aG : Nat) (aE : Nat) (aU : Nat) (s : Int32) (x : Int64) (hb9 : ¬ s < 0 → ¬ s < nI tS) : Ctr l D z y_T_key b_T_key 4 (some .boolean) { frames := 1, cells := 0, slots := 0, locals := 21 } [.ref m, .int s, .long x] [(m, .inr (5, (.int (nI tS) :: .int tD :: .int tE :: .long tN :: .int (bI tA) :: .long tL :: .ref aK :: .ref aP :: .ref aQ :: .ref aT :: .ref aW :: .ref aO :: .ref aM :: .ref aL :: .ref aH :: .ref aI :: .ref aS :: .ref aR :: .ref aX :: .ref aF :: .ref aY :: .ref aJ :: .long tl :: .long tg :: .int (bI tB) :: .int tM :: .int tb :: .long tv :: .long tw :: .long tT :: .long tr :: .long tm :: .long tf :: .ref aG :: .ref aE :: .ref aU :: [])))] (fun v w => v = some (.int (bI false)) ∧ w = [(m, .inr (5, (.int (nI tS) :: .int tD :: .int tE :: .long tN :: .int (bI tA) :: .long tL :: .ref aK :: .ref aP :: .ref aQ :: .ref aT :: .ref aW :: .ref aO :: .ref aM :: .ref aL :: .ref aH :: .ref aI :: .ref aS :: .ref aR :: .ref aX :: .ref aF :: .ref aY :: .ref aJ :: .long tl :: .long tg :: .int (bI tB) :: .int tM :: .int tb :: .long tv :: .long tw :: .long tT :: .long tr :: .long tm :: .long tf :: .ref aG :: .ref aE :: .ref aU :: [])))]) 0 0 := by
  refine met_V (own := R_T) (nm := "key") (by decide +kernel) rfl rfl (Nat.le_of_ble_eq_true rfl) ?_
  intro κ hl hD hz X Y
  subst hl
  subst hD
  subst hz
  show V κ 4 0 0 0 [(0, .ref m), (1, .int s), (2, .long x)] [] [(m, .inr (5, (.int (nI tS) :: .int tD :: .int tE :: .long tN :: .int (bI tA) :: .long tL :: .ref aK :: .ref aP :: .ref aQ :: .ref aT :: .ref aW :: .ref aO :: .ref aM :: .ref aL :: .ref aH :: .ref aI :: .ref aS :: .ref aR :: .ref aX :: .ref aF :: .ref aY :: .ref aJ :: .long tl :: .long tg :: .int (bI tB) :: .int tM :: .int tb :: .long tv :: .long tw :: .long tT :: .long tr :: .long tm :: .long tf :: .ref aG :: .ref aE :: .ref aU :: [])))]
  refine v_aload_n X 0 d_T_key_0 rfl ?_
  refine v_iload_n X 1 d_T_key_1 rfl ?_
  refine v_callV X (b := m) (k := 0) (n := 0) (n9 := 1) (As := [.int s]) (rest := []) (wc := [(m, .inr (5, (.int (nI tS) :: .int tD :: .int tE :: .long tN :: .int (bI tA) :: .long tL :: .ref aK :: .ref aP :: .ref aQ :: .ref aT :: .ref aW :: .ref aO :: .ref aM :: .ref aL :: .ref aH :: .ref aI :: .ref aS :: .ref aR :: .ref aX :: .ref aF :: .ref aY :: .ref aJ :: .long tl :: .long tg :: .int (bI tB) :: .int tM :: .int tb :: .long tv :: .long tw :: .long tT :: .long tr :: .long tm :: .long tf :: .ref aG :: .ref aE :: .ref aU :: [])))]) (wr := []) (c_T_isServerB κ.l κ.D κ.z m tS tD tE tN tA tL aK aP aQ aT aW aO aM aL aH aI aS aR aX aF aY aJ tl tg tB tM tb tv tw tT tr tm tf aG aE aU s hb9) 0 rfl rfl m513 m514 m16 m36 (by decide +kernel) rfl (Nat.le_of_ble_eq_true rfl) ⟨by decide, by decide⟩ ⟨by decide, by decide⟩ rfl rfl m515 d_T_key_2 (fun v w1 hg => ?_)
  obtain ⟨rfl, rfl⟩ := hg
  show V κ 4 0 0 5 [(0, .ref m), (1, .int s), (2, .long x)] [.int (bI false)] [(m, .inr (5, (.int (nI tS) :: .int tD :: .int tE :: .long tN :: .int (bI tA) :: .long tL :: .ref aK :: .ref aP :: .ref aQ :: .ref aT :: .ref aW :: .ref aO :: .ref aM :: .ref aL :: .ref aH :: .ref aI :: .ref aS :: .ref aR :: .ref aX :: .ref aF :: .ref aY :: .ref aJ :: .long tl :: .long tg :: .int (bI tB) :: .int tM :: .int tb :: .long tv :: .long tw :: .long tT :: .long tr :: .long tm :: .long tf :: .ref aG :: .ref aE :: .ref aU :: [])))]
  refine v_ifB_ne X 10 (t := false) d_T_key_5 (by decide) (fun c5 => absurd c5 (by decide)) (fun c5 => ?_)
  refine v_iconst X 0 d_T_key_8 (by decide) ?_
  exact v_zret X Y (by decide) (by decide) d_T_key_9 rfl ⟨rfl, rfl⟩

def f_T_sealG (gK : Nat → Int64) (i : Nat) (x : Int64) (y : Int64) (t : Int64) : Int32 := ((f_T_mixed (f_T_mixed (f_T_mixed (gK i) x) y) t) >>> ((32 : Int32).toInt64 &&& 63)).toInt32
set_option maxHeartbeats 4000000 in
set_option maxRecDepth 100000 in
theorem c_T_sealG (l : Launch) (D : va_G) (z : Nat → ClassId) (m : Nat) (tS : Nat) (tD : Int32) (tE : Int32) (tN : Int64) (tA : Bool) (tL : Int64) (aK : Nat) (aP : Nat) (aQ : Nat) (aT : Nat) (aW : Nat) (aO : Nat) (aM : Nat) (aL : Nat) (aH : Nat) (aI : Nat) (aS : Nat) (aR : Nat) (aX : Nat) (aF : Nat) (aY : Nat) (aJ : Nat) (tl : Int64) (tg : Int64) (tB : Bool) (tM : Int32) (tb : Int32) (tv : Int64) (tw : Int64) (tT : Int64) (tr : Int64) (tm : Int64) (tf : Int64) (aG : Nat) (aE : Nat) (aU : Nat) (gK : Nat → Int64) (i : Nat) (x : Int64) (y : Int64) (t : Int64) (h6 : tS ≤ 6) (hi9 : i < tS) : Ctr l D z y_T_seal b_T_seal 14 (some .int) { frames := 1, cells := 0, slots := 0, locals := 25 } [.ref m, .int (nI i), .long x, .long y, .long t] [(m, .inr (5, (.int (nI tS) :: .int tD :: .int tE :: .long tN :: .int (bI tA) :: .long tL :: .ref aK :: .ref aP :: .ref aQ :: .ref aT :: .ref aW :: .ref aO :: .ref aM :: .ref aL :: .ref aH :: .ref aI :: .ref aS :: .ref aR :: .ref aX :: .ref aF :: .ref aY :: .ref aJ :: .long tl :: .long tg :: .int (bI tB) :: .int tM :: .int tb :: .long tv :: .long tw :: .long tT :: .long tr :: .long tm :: .long tf :: .ref aG :: .ref aE :: .ref aU :: []))), (aK, .inl (z 1, 6, .inr (.inl gK)))] (fun v w => v = some (.int (f_T_sealG gK i x y t)) ∧ w = [(m, .inr (5, (.int (nI tS) :: .int tD :: .int tE :: .long tN :: .int (bI tA) :: .long tL :: .ref aK :: .ref aP :: .ref aQ :: .ref aT :: .ref aW :: .ref aO :: .ref aM :: .ref aL :: .ref aH :: .ref aI :: .ref aS :: .ref aR :: .ref aX :: .ref aF :: .ref aY :: .ref aJ :: .long tl :: .long tg :: .int (bI tB) :: .int tM :: .int tb :: .long tv :: .long tw :: .long tT :: .long tr :: .long tm :: .long tf :: .ref aG :: .ref aE :: .ref aU :: []))), (aK, .inl (z 1, 6, .inr (.inl gK)))]) 0 0 := by
  refine met_V (own := R_T) (nm := "seal") (by decide +kernel) rfl rfl (Nat.le_of_ble_eq_true rfl) ?_
  intro κ hl hD hz X Y
  subst hl
  subst hD
  subst hz
  show V κ 14 0 0 0 [(0, .ref m), (1, .int (nI i)), (2, .long x), (4, .long y), (6, .long t)] [] [(m, .inr (5, (.int (nI tS) :: .int tD :: .int tE :: .long tN :: .int (bI tA) :: .long tL :: .ref aK :: .ref aP :: .ref aQ :: .ref aT :: .ref aW :: .ref aO :: .ref aM :: .ref aL :: .ref aH :: .ref aI :: .ref aS :: .ref aR :: .ref aX :: .ref aF :: .ref aY :: .ref aJ :: .long tl :: .long tg :: .int (bI tB) :: .int tM :: .int tb :: .long tv :: .long tw :: .long tT :: .long tr :: .long tm :: .long tf :: .ref aG :: .ref aE :: .ref aU :: []))), (aK, .inl (κ.z 1, 6, .inr (.inl gK)))]
  refine v_aload_n X 0 d_T_seal_0 rfl ?_
  refine v_iload_n X 1 d_T_seal_1 rfl ?_
  refine v_callV X (b := m) (k := 0) (n := 0) (n9 := 1) (As := [.int (nI i)]) (rest := []) (wc := [(m, .inr (5, (.int (nI tS) :: .int tD :: .int tE :: .long tN :: .int (bI tA) :: .long tL :: .ref aK :: .ref aP :: .ref aQ :: .ref aT :: .ref aW :: .ref aO :: .ref aM :: .ref aL :: .ref aH :: .ref aI :: .ref aS :: .ref aR :: .ref aX :: .ref aF :: .ref aY :: .ref aJ :: .long tl :: .long tg :: .int (bI tB) :: .int tM :: .int tb :: .long tv :: .long tw :: .long tT :: .long tr :: .long tm :: .long tf :: .ref aG :: .ref aE :: .ref aU :: [])))]) (wr := [(aK, .inl (κ.z 1, 6, .inr (.inl gK)))]) (c_T_isServerG κ.l κ.D κ.z m tS tD tE tN tA tL aK aP aQ aT aW aO aM aL aH aI aS aR aX aF aY aJ tl tg tB tM tb tv tw tT tr tm tf aG aE aU i h6 hi9) 0 rfl rfl m513 m514 m16 m36 (by decide +kernel) rfl (Nat.le_of_ble_eq_true rfl) ⟨by decide, by decide⟩ ⟨by decide, by decide⟩ rfl rfl m515 d_T_seal_2 (fun v w1 hg => ?_)
  obtain ⟨rfl, rfl⟩ := hg
  show V κ 14 0 0 5 [(0, .ref m), (1, .int (nI i)), (2, .long x), (4, .long y), (6, .long t)] [.int (bI true)] [(m, .inr (5, (.int (nI tS) :: .int tD :: .int tE :: .long tN :: .int (bI tA) :: .long tL :: .ref aK :: .ref aP :: .ref aQ :: .ref aT :: .ref aW :: .ref aO :: .ref aM :: .ref aL :: .ref aH :: .ref aI :: .ref aS :: .ref aR :: .ref aX :: .ref aF :: .ref aY :: .ref aJ :: .long tl :: .long tg :: .int (bI tB) :: .int tM :: .int tb :: .long tv :: .long tw :: .long tT :: .long tr :: .long tm :: .long tf :: .ref aG :: .ref aE :: .ref aU :: []))), (aK, .inl (κ.z 1, 6, .inr (.inl gK)))]
  refine v_ifB_ne X 10 (t := true) d_T_seal_5 (by decide) (fun c5 => ?_) (fun c5 => absurd c5 (by decide))
  refine v_aload_n X 0 d_T_seal_10 rfl ?_
  refine v_get X 0 6 rfl rfl li_T (by decide) m433 rfl d_T_seal_11 ?_
  refine v_iload_n X 1 d_T_seal_14 rfl ?_
  refine v_laldN X 1 1 (j := i) rfl rfl (by omega) (by omega) d_T_seal_15 ?_
  refine v_lload_n X 2 d_T_seal_16 rfl ?_
  refine v_callS X (k := 0) (n := 0) (n9 := 2) (As := [.long (gK i), .long x]) (rest := []) (wc := []) (wr := [(m, .inr (5, (.int (nI tS) :: .int tD :: .int tE :: .long tN :: .int (bI tA) :: .long tL :: .ref aK :: .ref aP :: .ref aQ :: .ref aT :: .ref aW :: .ref aO :: .ref aM :: .ref aL :: .ref aH :: .ref aI :: .ref aS :: .ref aR :: .ref aX :: .ref aF :: .ref aY :: .ref aJ :: .long tl :: .long tg :: .int (bI tB) :: .int tM :: .int tb :: .long tv :: .long tw :: .long tT :: .long tr :: .long tm :: .long tf :: .ref aG :: .ref aE :: .ref aU :: []))), (aK, .inl (κ.z 1, 6, .inr (.inl gK)))]) (c_T_mixed κ.l κ.D κ.z (gK i) x ) m520 m521 m36 (by decide +kernel) rfl (Nat.le_of_ble_eq_true rfl) ⟨by decide, by decide⟩ ⟨by decide, by decide⟩ rfl rfl m522 d_T_seal_17 (fun v w1 hg => ?_)
  obtain ⟨rfl, rfl⟩ := hg
  show V κ 14 0 0 20 [(0, .ref m), (1, .int (nI i)), (2, .long x), (4, .long y), (6, .long t)] [.long (f_T_mixed (gK i) x)] [(m, .inr (5, (.int (nI tS) :: .int tD :: .int tE :: .long tN :: .int (bI tA) :: .long tL :: .ref aK :: .ref aP :: .ref aQ :: .ref aT :: .ref aW :: .ref aO :: .ref aM :: .ref aL :: .ref aH :: .ref aI :: .ref aS :: .ref aR :: .ref aX :: .ref aF :: .ref aY :: .ref aJ :: .long tl :: .long tg :: .int (bI tB) :: .int tM :: .int tb :: .long tv :: .long tw :: .long tT :: .long tr :: .long tm :: .long tf :: .ref aG :: .ref aE :: .ref aU :: []))), (aK, .inl (κ.z 1, 6, .inr (.inl gK)))]
  refine v_lstore X d_T_seal_20 (by decide) (lv' := [(8, .long (f_T_mixed (gK i) x)), (0, .ref m), (1, .int (nI i)), (2, .long x), (4, .long y), (6, .long t)]) rfl ?_
  refine v_lload X 0 d_T_seal_22 rfl ?_
  refine v_lload X 4 d_T_seal_24 rfl ?_
  refine v_callS X (k := 0) (n := 0) (n9 := 2) (As := [.long (f_T_mixed (gK i) x), .long y]) (rest := []) (wc := []) (wr := [(m, .inr (5, (.int (nI tS) :: .int tD :: .int tE :: .long tN :: .int (bI tA) :: .long tL :: .ref aK :: .ref aP :: .ref aQ :: .ref aT :: .ref aW :: .ref aO :: .ref aM :: .ref aL :: .ref aH :: .ref aI :: .ref aS :: .ref aR :: .ref aX :: .ref aF :: .ref aY :: .ref aJ :: .long tl :: .long tg :: .int (bI tB) :: .int tM :: .int tb :: .long tv :: .long tw :: .long tT :: .long tr :: .long tm :: .long tf :: .ref aG :: .ref aE :: .ref aU :: []))), (aK, .inl (κ.z 1, 6, .inr (.inl gK)))]) (c_T_mixed κ.l κ.D κ.z (f_T_mixed (gK i) x) y ) m520 m521 m36 (by decide +kernel) rfl (Nat.le_of_ble_eq_true rfl) ⟨by decide, by decide⟩ ⟨by decide, by decide⟩ rfl rfl m522 d_T_seal_26 (fun v w1 hg => ?_)
  obtain ⟨rfl, rfl⟩ := hg
  show V κ 14 0 0 29 [(8, .long (f_T_mixed (gK i) x)), (0, .ref m), (1, .int (nI i)), (2, .long x), (4, .long y), (6, .long t)] [.long (f_T_mixed (f_T_mixed (gK i) x) y)] [(m, .inr (5, (.int (nI tS) :: .int tD :: .int tE :: .long tN :: .int (bI tA) :: .long tL :: .ref aK :: .ref aP :: .ref aQ :: .ref aT :: .ref aW :: .ref aO :: .ref aM :: .ref aL :: .ref aH :: .ref aI :: .ref aS :: .ref aR :: .ref aX :: .ref aF :: .ref aY :: .ref aJ :: .long tl :: .long tg :: .int (bI tB) :: .int tM :: .int tb :: .long tv :: .long tw :: .long tT :: .long tr :: .long tm :: .long tf :: .ref aG :: .ref aE :: .ref aU :: []))), (aK, .inl (κ.z 1, 6, .inr (.inl gK)))]
  show V κ 14 0 0 29 [(8, .long (f_T_mixed (gK i) x)), (0, .ref m), (1, .int (nI i)), (2, .long x), (4, .long y), (6, .long t)] [.long (f_T_mixed (f_T_mixed (gK i) x) y)] [(m, .inr (5, (.int (nI tS) :: .int tD :: .int tE :: .long tN :: .int (bI tA) :: .long tL :: .ref aK :: .ref aP :: .ref aQ :: .ref aT :: .ref aW :: .ref aO :: .ref aM :: .ref aL :: .ref aH :: .ref aI :: .ref aS :: .ref aR :: .ref aX :: .ref aF :: .ref aY :: .ref aJ :: .long tl :: .long tg :: .int (bI tB) :: .int tM :: .int tb :: .long tv :: .long tw :: .long tT :: .long tr :: .long tm :: .long tf :: .ref aG :: .ref aE :: .ref aU :: []))), (aK, .inl (κ.z 1, 6, .inr (.inl gK)))]
  refine v_lstore X d_T_seal_29 (by decide) (lv' := [(10, .long (f_T_mixed (f_T_mixed (gK i) x) y)), (8, .long (f_T_mixed (gK i) x)), (0, .ref m), (1, .int (nI i)), (2, .long x), (4, .long y), (6, .long t)]) rfl ?_
  refine v_lload X 0 d_T_seal_31 rfl ?_
  refine v_lload X 6 d_T_seal_33 rfl ?_
  refine v_callS X (k := 0) (n := 0) (n9 := 2) (As := [.long (f_T_mixed (f_T_mixed (gK i) x) y), .long t]) (rest := []) (wc := []) (wr := [(m, .inr (5, (.int (nI tS) :: .int tD :: .int tE :: .long tN :: .int (bI tA) :: .long tL :: .ref aK :: .ref aP :: .ref aQ :: .ref aT :: .ref aW :: .ref aO :: .ref aM :: .ref aL :: .ref aH :: .ref aI :: .ref aS :: .ref aR :: .ref aX :: .ref aF :: .ref aY :: .ref aJ :: .long tl :: .long tg :: .int (bI tB) :: .int tM :: .int tb :: .long tv :: .long tw :: .long tT :: .long tr :: .long tm :: .long tf :: .ref aG :: .ref aE :: .ref aU :: []))), (aK, .inl (κ.z 1, 6, .inr (.inl gK)))]) (c_T_mixed κ.l κ.D κ.z (f_T_mixed (f_T_mixed (gK i) x) y) t ) m520 m521 m36 (by decide +kernel) rfl (Nat.le_of_ble_eq_true rfl) ⟨by decide, by decide⟩ ⟨by decide, by decide⟩ rfl rfl m522 d_T_seal_35 (fun v w1 hg => ?_)
  obtain ⟨rfl, rfl⟩ := hg
  show V κ 14 0 0 38 [(10, .long (f_T_mixed (f_T_mixed (gK i) x) y)), (8, .long (f_T_mixed (gK i) x)), (0, .ref m), (1, .int (nI i)), (2, .long x), (4, .long y), (6, .long t)] [.long (f_T_mixed (f_T_mixed (f_T_mixed (gK i) x) y) t)] [(m, .inr (5, (.int (nI tS) :: .int tD :: .int tE :: .long tN :: .int (bI tA) :: .long tL :: .ref aK :: .ref aP :: .ref aQ :: .ref aT :: .ref aW :: .ref aO :: .ref aM :: .ref aL :: .ref aH :: .ref aI :: .ref aS :: .ref aR :: .ref aX :: .ref aF :: .ref aY :: .ref aJ :: .long tl :: .long tg :: .int (bI tB) :: .int tM :: .int tb :: .long tv :: .long tw :: .long tT :: .long tr :: .long tm :: .long tf :: .ref aG :: .ref aE :: .ref aU :: []))), (aK, .inl (κ.z 1, 6, .inr (.inl gK)))]
  refine v_lstore X d_T_seal_38 (by decide) (lv' := [(12, .long (f_T_mixed (f_T_mixed (f_T_mixed (gK i) x) y) t)), (10, .long (f_T_mixed (f_T_mixed (gK i) x) y)), (8, .long (f_T_mixed (gK i) x)), (0, .ref m), (1, .int (nI i)), (2, .long x), (4, .long y), (6, .long t)]) rfl ?_
  refine v_lload X 0 d_T_seal_40 rfl ?_
  refine v_bipush X 32 d_T_seal_42 (by decide) ?_
  refine v_lshr X d_T_seal_44 ?_
  refine v_l2i X d_T_seal_45 ?_
  exact v_iret X Y (by decide) (by decide) d_T_seal_46 ⟨rfl, rfl⟩

set_option maxHeartbeats 4000000 in
set_option maxRecDepth 100000 in
theorem c_T_sealB (l : Launch) (D : va_G) (z : Nat → ClassId) (m : Nat) (tS : Nat) (tD : Int32) (tE : Int32) (tN : Int64) (tA : Bool) (tL : Int64) (aK : Nat) (aP : Nat) (aQ : Nat) (aT : Nat) (aW : Nat) (aO : Nat) (aM : Nat) (aL : Nat) (aH : Nat) (aI : Nat) (aS : Nat) (aR : Nat) (aX : Nat) (aF : Nat) (aY : Nat) (aJ : Nat) (tl : Int64) (tg : Int64) (tB : Bool) (tM : Int32) (tb : Int32) (tv : Int64) (tw : Int64) (tT : Int64) (tr : Int64) (tm : Int64) (tf : Int64) (aG : Nat) (aE : Nat) (aU : Nat) (s : Int32) (x : Int64) (y : Int64) (t : Int64) (hb9 : ¬ s < 0 → ¬ s < nI tS) : Ctr l D z y_T_seal b_T_seal 14 (some .int) { frames := 1, cells := 0, slots := 0, locals := 25 } [.ref m, .int s, .long x, .long y, .long t] [(m, .inr (5, (.int (nI tS) :: .int tD :: .int tE :: .long tN :: .int (bI tA) :: .long tL :: .ref aK :: .ref aP :: .ref aQ :: .ref aT :: .ref aW :: .ref aO :: .ref aM :: .ref aL :: .ref aH :: .ref aI :: .ref aS :: .ref aR :: .ref aX :: .ref aF :: .ref aY :: .ref aJ :: .long tl :: .long tg :: .int (bI tB) :: .int tM :: .int tb :: .long tv :: .long tw :: .long tT :: .long tr :: .long tm :: .long tf :: .ref aG :: .ref aE :: .ref aU :: [])))] (fun v w => v = some (.int (0 : Int32)) ∧ w = [(m, .inr (5, (.int (nI tS) :: .int tD :: .int tE :: .long tN :: .int (bI tA) :: .long tL :: .ref aK :: .ref aP :: .ref aQ :: .ref aT :: .ref aW :: .ref aO :: .ref aM :: .ref aL :: .ref aH :: .ref aI :: .ref aS :: .ref aR :: .ref aX :: .ref aF :: .ref aY :: .ref aJ :: .long tl :: .long tg :: .int (bI tB) :: .int tM :: .int tb :: .long tv :: .long tw :: .long tT :: .long tr :: .long tm :: .long tf :: .ref aG :: .ref aE :: .ref aU :: [])))]) 0 0 := by
  refine met_V (own := R_T) (nm := "seal") (by decide +kernel) rfl rfl (Nat.le_of_ble_eq_true rfl) ?_
  intro κ hl hD hz X Y
  subst hl
  subst hD
  subst hz
  show V κ 14 0 0 0 [(0, .ref m), (1, .int s), (2, .long x), (4, .long y), (6, .long t)] [] [(m, .inr (5, (.int (nI tS) :: .int tD :: .int tE :: .long tN :: .int (bI tA) :: .long tL :: .ref aK :: .ref aP :: .ref aQ :: .ref aT :: .ref aW :: .ref aO :: .ref aM :: .ref aL :: .ref aH :: .ref aI :: .ref aS :: .ref aR :: .ref aX :: .ref aF :: .ref aY :: .ref aJ :: .long tl :: .long tg :: .int (bI tB) :: .int tM :: .int tb :: .long tv :: .long tw :: .long tT :: .long tr :: .long tm :: .long tf :: .ref aG :: .ref aE :: .ref aU :: [])))]
  refine v_aload_n X 0 d_T_seal_0 rfl ?_
  refine v_iload_n X 1 d_T_seal_1 rfl ?_
  refine v_callV X (b := m) (k := 0) (n := 0) (n9 := 1) (As := [.int s]) (rest := []) (wc := [(m, .inr (5, (.int (nI tS) :: .int tD :: .int tE :: .long tN :: .int (bI tA) :: .long tL :: .ref aK :: .ref aP :: .ref aQ :: .ref aT :: .ref aW :: .ref aO :: .ref aM :: .ref aL :: .ref aH :: .ref aI :: .ref aS :: .ref aR :: .ref aX :: .ref aF :: .ref aY :: .ref aJ :: .long tl :: .long tg :: .int (bI tB) :: .int tM :: .int tb :: .long tv :: .long tw :: .long tT :: .long tr :: .long tm :: .long tf :: .ref aG :: .ref aE :: .ref aU :: [])))]) (wr := []) (c_T_isServerB κ.l κ.D κ.z m tS tD tE tN tA tL aK aP aQ aT aW aO aM aL aH aI aS aR aX aF aY aJ tl tg tB tM tb tv tw tT tr tm tf aG aE aU s hb9) 0 rfl rfl m513 m514 m16 m36 (by decide +kernel) rfl (Nat.le_of_ble_eq_true rfl) ⟨by decide, by decide⟩ ⟨by decide, by decide⟩ rfl rfl m515 d_T_seal_2 (fun v w1 hg => ?_)
  obtain ⟨rfl, rfl⟩ := hg
  show V κ 14 0 0 5 [(0, .ref m), (1, .int s), (2, .long x), (4, .long y), (6, .long t)] [.int (bI false)] [(m, .inr (5, (.int (nI tS) :: .int tD :: .int tE :: .long tN :: .int (bI tA) :: .long tL :: .ref aK :: .ref aP :: .ref aQ :: .ref aT :: .ref aW :: .ref aO :: .ref aM :: .ref aL :: .ref aH :: .ref aI :: .ref aS :: .ref aR :: .ref aX :: .ref aF :: .ref aY :: .ref aJ :: .long tl :: .long tg :: .int (bI tB) :: .int tM :: .int tb :: .long tv :: .long tw :: .long tT :: .long tr :: .long tm :: .long tf :: .ref aG :: .ref aE :: .ref aU :: [])))]
  refine v_ifB_ne X 10 (t := false) d_T_seal_5 (by decide) (fun c5 => absurd c5 (by decide)) (fun c5 => ?_)
  refine v_iconst X 0 d_T_seal_8 (by decide) ?_
  exact v_iret X Y (by decide) (by decide) d_T_seal_9 ⟨rfl, rfl⟩

def f_T_askG (tN : Int64) (tA : Bool) (tL : Int64) : Int64 := if tA = true then if tL < tN then tN else tL + 1 else tN
def f_T_askG_lastStamp (tN : Int64) (tA : Bool) (tL : Int64) : Int64 := if tA = true then if tL < tN then tN else tL + 1 else tN
def f_T_askG_r3 (tN : Int64) (tA : Bool) (tL : Int64) (gT : Nat → Int64) (i : Nat) : Nat → Int64 := vp_updL gT i (if tA = true then if tL < tN then tN else tL + 1 else tN)
set_option maxHeartbeats 4000000 in
set_option maxRecDepth 100000 in
theorem c_T_askG (l : Launch) (D : va_G) (z : Nat → ClassId) (m : Nat) (tS : Nat) (tD : Int32) (tE : Int32) (tN : Int64) (tA : Bool) (tL : Int64) (aK : Nat) (aP : Nat) (aQ : Nat) (aT : Nat) (aW : Nat) (aO : Nat) (aM : Nat) (aL : Nat) (aH : Nat) (aI : Nat) (aS : Nat) (aR : Nat) (aX : Nat) (aF : Nat) (aY : Nat) (aJ : Nat) (tl : Int64) (tg : Int64) (tB : Bool) (tM : Int32) (tb : Int32) (tv : Int64) (tw : Int64) (tT : Int64) (tr : Int64) (tm : Int64) (tf : Int64) (aG : Nat) (aE : Nat) (aU : Nat) (gP : Nat → Bool) (gQ : Nat → Int64) (gT : Nat → Int64) (i : Nat) (h6 : tS ≤ 6) (hi9 : i < tS) : Ctr l D z y_T_ask b_T_ask 2 (some .long) { frames := 1, cells := 0, slots := 0, locals := 21 } [.ref m, .int (nI i)] [(m, .inr (5, (.int (nI tS) :: .int tD :: .int tE :: .long tN :: .int (bI tA) :: .long tL :: .ref aK :: .ref aP :: .ref aQ :: .ref aT :: .ref aW :: .ref aO :: .ref aM :: .ref aL :: .ref aH :: .ref aI :: .ref aS :: .ref aR :: .ref aX :: .ref aF :: .ref aY :: .ref aJ :: .long tl :: .long tg :: .int (bI tB) :: .int tM :: .int tb :: .long tv :: .long tw :: .long tT :: .long tr :: .long tm :: .long tf :: .ref aG :: .ref aE :: .ref aU :: []))), (aP, .inl (z 2, 6, .inl (aB gP))), (aQ, .inl (z 1, 6, .inr (.inl gQ))), (aT, .inl (z 1, 6, .inr (.inl gT)))] (fun v w => v = some (.long (f_T_askG tN tA tL)) ∧ w = [(m, .inr (5, (.int (nI tS) :: .int tD :: .int tE :: .long tN :: .int (bI true) :: .long (f_T_askG_lastStamp tN tA tL) :: .ref aK :: .ref aP :: .ref aQ :: .ref aT :: .ref aW :: .ref aO :: .ref aM :: .ref aL :: .ref aH :: .ref aI :: .ref aS :: .ref aR :: .ref aX :: .ref aF :: .ref aY :: .ref aJ :: .long tl :: .long tg :: .int (bI tB) :: .int tM :: .int tb :: .long tv :: .long tw :: .long tT :: .long tr :: .long tm :: .long tf :: .ref aG :: .ref aE :: .ref aU :: []))), (aP, .inl (z 2, 6, .inl (aB (va_up gP i true)))), (aQ, .inl (z 1, 6, .inr (.inl (vp_updL gQ i tN)))), (aT, .inl (z 1, 6, .inr (.inl (f_T_askG_r3 tN tA tL gT i))))]) 0 0 := by
  refine met_V (own := R_T) (nm := "ask") (by decide +kernel) rfl rfl (Nat.le_of_ble_eq_true rfl) ?_
  intro κ hl hD hz X Y
  subst hl
  subst hD
  subst hz
  show V κ 2 0 0 0 [(0, .ref m), (1, .int (nI i))] [] [(m, .inr (5, (.int (nI tS) :: .int tD :: .int tE :: .long tN :: .int (bI tA) :: .long tL :: .ref aK :: .ref aP :: .ref aQ :: .ref aT :: .ref aW :: .ref aO :: .ref aM :: .ref aL :: .ref aH :: .ref aI :: .ref aS :: .ref aR :: .ref aX :: .ref aF :: .ref aY :: .ref aJ :: .long tl :: .long tg :: .int (bI tB) :: .int tM :: .int tb :: .long tv :: .long tw :: .long tT :: .long tr :: .long tm :: .long tf :: .ref aG :: .ref aE :: .ref aU :: []))), (aP, .inl (κ.z 2, 6, .inl (aB gP))), (aQ, .inl (κ.z 1, 6, .inr (.inl gQ))), (aT, .inl (κ.z 1, 6, .inr (.inl gT)))]
  refine v_aload_n X 0 d_T_ask_0 rfl ?_
  refine v_iload_n X 1 d_T_ask_1 rfl ?_
  refine v_callV X (b := m) (k := 0) (n := 0) (n9 := 1) (As := [.int (nI i)]) (rest := []) (wc := [(m, .inr (5, (.int (nI tS) :: .int tD :: .int tE :: .long tN :: .int (bI tA) :: .long tL :: .ref aK :: .ref aP :: .ref aQ :: .ref aT :: .ref aW :: .ref aO :: .ref aM :: .ref aL :: .ref aH :: .ref aI :: .ref aS :: .ref aR :: .ref aX :: .ref aF :: .ref aY :: .ref aJ :: .long tl :: .long tg :: .int (bI tB) :: .int tM :: .int tb :: .long tv :: .long tw :: .long tT :: .long tr :: .long tm :: .long tf :: .ref aG :: .ref aE :: .ref aU :: [])))]) (wr := [(aP, .inl (κ.z 2, 6, .inl (aB gP))), (aQ, .inl (κ.z 1, 6, .inr (.inl gQ))), (aT, .inl (κ.z 1, 6, .inr (.inl gT)))]) (c_T_isServerG κ.l κ.D κ.z m tS tD tE tN tA tL aK aP aQ aT aW aO aM aL aH aI aS aR aX aF aY aJ tl tg tB tM tb tv tw tT tr tm tf aG aE aU i h6 hi9) 0 rfl rfl m513 m514 m16 m36 (by decide +kernel) rfl (Nat.le_of_ble_eq_true rfl) ⟨by decide, by decide⟩ ⟨by decide, by decide⟩ rfl rfl m515 d_T_ask_2 (fun v w1 hg => ?_)
  obtain ⟨rfl, rfl⟩ := hg
  show V κ 2 0 0 5 [(0, .ref m), (1, .int (nI i))] [.int (bI true)] [(m, .inr (5, (.int (nI tS) :: .int tD :: .int tE :: .long tN :: .int (bI tA) :: .long tL :: .ref aK :: .ref aP :: .ref aQ :: .ref aT :: .ref aW :: .ref aO :: .ref aM :: .ref aL :: .ref aH :: .ref aI :: .ref aS :: .ref aR :: .ref aX :: .ref aF :: .ref aY :: .ref aJ :: .long tl :: .long tg :: .int (bI tB) :: .int tM :: .int tb :: .long tv :: .long tw :: .long tT :: .long tr :: .long tm :: .long tf :: .ref aG :: .ref aE :: .ref aU :: []))), (aP, .inl (κ.z 2, 6, .inl (aB gP))), (aQ, .inl (κ.z 1, 6, .inr (.inl gQ))), (aT, .inl (κ.z 1, 6, .inr (.inl gT)))]
  refine v_ifB_ne X 12 (t := true) d_T_ask_5 (by decide) (fun c5 => ?_) (fun c5 => absurd c5 (by decide))
  refine v_aload_n X 0 d_T_ask_12 rfl ?_
  refine v_aload_n X 0 d_T_ask_13 rfl ?_
  refine v_get X 0 4 rfl rfl li_T (by decide) m431 rfl d_T_ask_14 ?_
  suffices hm17 : V κ 2 0 0 45 [(0, .ref m), (1, .int (nI i))] [.long (if tA = true then if tL < tN then tN else tL + 1 else tN), .ref m] [(m, .inr (5, (.int (nI tS) :: .int tD :: .int tE :: .long tN :: .int (bI tA) :: .long tL :: .ref aK :: .ref aP :: .ref aQ :: .ref aT :: .ref aW :: .ref aO :: .ref aM :: .ref aL :: .ref aH :: .ref aI :: .ref aS :: .ref aR :: .ref aX :: .ref aF :: .ref aY :: .ref aJ :: .long tl :: .long tg :: .int (bI tB) :: .int tM :: .int tb :: .long tv :: .long tw :: .long tT :: .long tr :: .long tm :: .long tf :: .ref aG :: .ref aE :: .ref aU :: []))), (aP, .inl (κ.z 2, 6, .inl (aB gP))), (aQ, .inl (κ.z 1, 6, .inr (.inl gQ))), (aT, .inl (κ.z 1, 6, .inr (.inl gT)))] by
    refine v_ifB_eq X 41 (t := tA) d_T_ask_17 (by decide) (fun c17 => ?_) (fun c17 => ?_)
    · skip
      refine v_aload_n X 0 d_T_ask_41 rfl ?_
      refine v_get X 0 3 rfl rfl li_T (by decide) m430 rfl d_T_ask_42 ?_
      have h9 := hm17; simp only [if_neg c17] at h9; first | exact h9 | (simp only [if_neg c17]; exact h9)
    · skip
      refine v_aload_n X 0 d_T_ask_20 rfl ?_
      refine v_get X 0 5 rfl rfl li_T (by decide) m432 rfl d_T_ask_21 ?_
      refine v_aload_n X 0 d_T_ask_24 rfl ?_
      refine v_get X 0 3 rfl rfl li_T (by decide) m430 rfl d_T_ask_25 ?_
      suffices hm28 : V κ 2 0 0 45 [(0, .ref m), (1, .int (nI i))] [.long (if tL < tN then tN else tL + 1), .ref m] [(m, .inr (5, (.int (nI tS) :: .int tD :: .int tE :: .long tN :: .int (bI tA) :: .long tL :: .ref aK :: .ref aP :: .ref aQ :: .ref aT :: .ref aW :: .ref aO :: .ref aM :: .ref aL :: .ref aH :: .ref aI :: .ref aS :: .ref aR :: .ref aX :: .ref aF :: .ref aY :: .ref aJ :: .long tl :: .long tg :: .int (bI tB) :: .int tM :: .int tb :: .long tv :: .long tw :: .long tT :: .long tr :: .long tm :: .long tf :: .ref aG :: .ref aE :: .ref aU :: []))), (aP, .inl (κ.z 2, 6, .inl (aB gP))), (aQ, .inl (κ.z 1, 6, .inr (.inl gQ))), (aT, .inl (κ.z 1, 6, .inr (.inl gT)))] by
        refine v_lcmp_lt X 41 d_T_ask_28 d_T_ask_29 (by decide) (fun c28 => ?_) (fun c28 => ?_)
        · skip
          refine v_aload_n X 0 d_T_ask_41 rfl ?_
          refine v_get X 0 3 rfl rfl li_T (by decide) m430 rfl d_T_ask_42 ?_
          have h9 := hm28; simp only [if_pos c28] at h9; first | exact h9 | (simp only [if_pos c28]; exact h9)
        · skip
          refine v_aload_n X 0 d_T_ask_32 rfl ?_
          refine v_get X 0 5 rfl rfl li_T (by decide) m432 rfl d_T_ask_33 ?_
          refine v_lconst X 1 d_T_ask_36 (by decide) ?_
          refine v_ladd X d_T_ask_37 ?_
          refine v_goto X 45 d_T_ask_38 (by decide) ?_
          have h9 := hm28; simp only [if_neg c28] at h9; first | exact h9 | (simp only [if_neg c28]; exact h9)
      have h9 := hm17; simp only [if_pos c17] at h9; first | exact h9 | (simp only [if_pos c17]; exact h9)
  refine v_put X 0 5 (v := .long (if tA = true then if tL < tN then tN else tL + 1 else tN)) (ty := .long) ty_T tk_T n_T rfl rfl li_T (by decide) m432 rfl (by decide +kernel) rfl rfl (Nat.le_of_ble_eq_true rfl) d_T_ask_45 (ws' := [(m, .inr (5, (.int (nI tS) :: .int tD :: .int tE :: .long tN :: .int (bI tA) :: .long (if tA = true then if tL < tN then tN else tL + 1 else tN) :: .ref aK :: .ref aP :: .ref aQ :: .ref aT :: .ref aW :: .ref aO :: .ref aM :: .ref aL :: .ref aH :: .ref aI :: .ref aS :: .ref aR :: .ref aX :: .ref aF :: .ref aY :: .ref aJ :: .long tl :: .long tg :: .int (bI tB) :: .int tM :: .int tb :: .long tv :: .long tw :: .long tT :: .long tr :: .long tm :: .long tf :: .ref aG :: .ref aE :: .ref aU :: []))), (aP, .inl (κ.z 2, 6, .inl (aB gP))), (aQ, .inl (κ.z 1, 6, .inr (.inl gQ))), (aT, .inl (κ.z 1, 6, .inr (.inl gT)))]) rfl ?_
  refine v_aload_n X 0 d_T_ask_48 rfl ?_
  refine v_iconst X 1 d_T_ask_49 (by decide) ?_
  refine v_put X 0 4 (v := .int (bI true)) (ty := .boolean) ty_T tk_T n_T rfl rfl li_T (by decide) m431 rfl (by decide +kernel) (narB _) rfl (Nat.le_of_ble_eq_true rfl) d_T_ask_50 (ws' := [(m, .inr (5, (.int (nI tS) :: .int tD :: .int tE :: .long tN :: .int (bI true) :: .long (if tA = true then if tL < tN then tN else tL + 1 else tN) :: .ref aK :: .ref aP :: .ref aQ :: .ref aT :: .ref aW :: .ref aO :: .ref aM :: .ref aL :: .ref aH :: .ref aI :: .ref aS :: .ref aR :: .ref aX :: .ref aF :: .ref aY :: .ref aJ :: .long tl :: .long tg :: .int (bI tB) :: .int tM :: .int tb :: .long tv :: .long tw :: .long tT :: .long tr :: .long tm :: .long tf :: .ref aG :: .ref aE :: .ref aU :: []))), (aP, .inl (κ.z 2, 6, .inl (aB gP))), (aQ, .inl (κ.z 1, 6, .inr (.inl gQ))), (aT, .inl (κ.z 1, 6, .inr (.inl gT)))]) rfl ?_
  refine v_aload_n X 0 d_T_ask_53 rfl ?_
  refine v_get X 0 7 rfl rfl li_T (by decide) m434 rfl d_T_ask_54 ?_
  show V κ 2 0 0 57 [(0, .ref m), (1, .int (nI i))] [.ref aP] [(m, .inr (5, (.int (nI tS) :: .int tD :: .int tE :: .long tN :: .int (bI true) :: .long (if tA = true then if tL < tN then tN else tL + 1 else tN) :: .ref aK :: .ref aP :: .ref aQ :: .ref aT :: .ref aW :: .ref aO :: .ref aM :: .ref aL :: .ref aH :: .ref aI :: .ref aS :: .ref aR :: .ref aX :: .ref aF :: .ref aY :: .ref aJ :: .long tl :: .long tg :: .int (bI tB) :: .int tM :: .int tb :: .long tv :: .long tw :: .long tT :: .long tr :: .long tm :: .long tf :: .ref aG :: .ref aE :: .ref aU :: []))), (aP, .inl (κ.z 2, 6, .inl (aB gP))), (aQ, .inl (κ.z 1, 6, .inr (.inl gQ))), (aT, .inl (κ.z 1, 6, .inr (.inl gT)))]
  refine v_iload_n X 1 d_T_ask_57 rfl ?_
  refine v_iconst X 1 d_T_ask_58 (by decide) ?_
  refine v_zastN X 1 2 (j := i) (x := true) rfl rfl (by omega) (by omega) d_T_ask_59 (ws' := [(m, .inr (5, (.int (nI tS) :: .int tD :: .int tE :: .long tN :: .int (bI true) :: .long (if tA = true then if tL < tN then tN else tL + 1 else tN) :: .ref aK :: .ref aP :: .ref aQ :: .ref aT :: .ref aW :: .ref aO :: .ref aM :: .ref aL :: .ref aH :: .ref aI :: .ref aS :: .ref aR :: .ref aX :: .ref aF :: .ref aY :: .ref aJ :: .long tl :: .long tg :: .int (bI tB) :: .int tM :: .int tb :: .long tv :: .long tw :: .long tT :: .long tr :: .long tm :: .long tf :: .ref aG :: .ref aE :: .ref aU :: []))), (aP, .inl (κ.z 2, 6, .inl (aB (va_up gP i true)))), (aQ, .inl (κ.z 1, 6, .inr (.inl gQ))), (aT, .inl (κ.z 1, 6, .inr (.inl gT)))]) rfl ?_
  refine v_aload_n X 0 d_T_ask_60 rfl ?_
  refine v_get X 0 8 rfl rfl li_T (by decide) m435 rfl d_T_ask_61 ?_
  refine v_iload_n X 1 d_T_ask_64 rfl ?_
  refine v_aload_n X 0 d_T_ask_65 rfl ?_
  refine v_get X 0 3 rfl rfl li_T (by decide) m430 rfl d_T_ask_66 ?_
  refine v_lastN X 2 1 (j := i) (x := tN) rfl rfl (by omega) (by omega) d_T_ask_69 (ws' := [(m, .inr (5, (.int (nI tS) :: .int tD :: .int tE :: .long tN :: .int (bI true) :: .long (if tA = true then if tL < tN then tN else tL + 1 else tN) :: .ref aK :: .ref aP :: .ref aQ :: .ref aT :: .ref aW :: .ref aO :: .ref aM :: .ref aL :: .ref aH :: .ref aI :: .ref aS :: .ref aR :: .ref aX :: .ref aF :: .ref aY :: .ref aJ :: .long tl :: .long tg :: .int (bI tB) :: .int tM :: .int tb :: .long tv :: .long tw :: .long tT :: .long tr :: .long tm :: .long tf :: .ref aG :: .ref aE :: .ref aU :: []))), (aP, .inl (κ.z 2, 6, .inl (aB (va_up gP i true)))), (aQ, .inl (κ.z 1, 6, .inr (.inl (vp_updL gQ i tN)))), (aT, .inl (κ.z 1, 6, .inr (.inl gT)))]) rfl ?_
  refine v_aload_n X 0 d_T_ask_70 rfl ?_
  refine v_get X 0 9 rfl rfl li_T (by decide) m436 rfl d_T_ask_71 ?_
  refine v_iload_n X 1 d_T_ask_74 rfl ?_
  refine v_aload_n X 0 d_T_ask_75 rfl ?_
  refine v_get X 0 5 rfl rfl li_T (by decide) m432 rfl d_T_ask_76 ?_
  refine v_lastN X 3 1 (j := i) (x := (if tA = true then if tL < tN then tN else tL + 1 else tN)) rfl rfl (by omega) (by omega) d_T_ask_79 (ws' := [(m, .inr (5, (.int (nI tS) :: .int tD :: .int tE :: .long tN :: .int (bI true) :: .long (if tA = true then if tL < tN then tN else tL + 1 else tN) :: .ref aK :: .ref aP :: .ref aQ :: .ref aT :: .ref aW :: .ref aO :: .ref aM :: .ref aL :: .ref aH :: .ref aI :: .ref aS :: .ref aR :: .ref aX :: .ref aF :: .ref aY :: .ref aJ :: .long tl :: .long tg :: .int (bI tB) :: .int tM :: .int tb :: .long tv :: .long tw :: .long tT :: .long tr :: .long tm :: .long tf :: .ref aG :: .ref aE :: .ref aU :: []))), (aP, .inl (κ.z 2, 6, .inl (aB (va_up gP i true)))), (aQ, .inl (κ.z 1, 6, .inr (.inl (vp_updL gQ i tN)))), (aT, .inl (κ.z 1, 6, .inr (.inl (vp_updL gT i (if tA = true then if tL < tN then tN else tL + 1 else tN)))))]) rfl ?_
  show V κ 2 0 0 80 [(0, .ref m), (1, .int (nI i))] [] [(m, .inr (5, (.int (nI tS) :: .int tD :: .int tE :: .long tN :: .int (bI true) :: .long (if tA = true then if tL < tN then tN else tL + 1 else tN) :: .ref aK :: .ref aP :: .ref aQ :: .ref aT :: .ref aW :: .ref aO :: .ref aM :: .ref aL :: .ref aH :: .ref aI :: .ref aS :: .ref aR :: .ref aX :: .ref aF :: .ref aY :: .ref aJ :: .long tl :: .long tg :: .int (bI tB) :: .int tM :: .int tb :: .long tv :: .long tw :: .long tT :: .long tr :: .long tm :: .long tf :: .ref aG :: .ref aE :: .ref aU :: []))), (aP, .inl (κ.z 2, 6, .inl (aB (va_up gP i true)))), (aQ, .inl (κ.z 1, 6, .inr (.inl (vp_updL gQ i tN)))), (aT, .inl (κ.z 1, 6, .inr (.inl (vp_updL gT i (if tA = true then if tL < tN then tN else tL + 1 else tN)))))]
  refine v_aload_n X 0 d_T_ask_80 rfl ?_
  refine v_get X 0 5 rfl rfl li_T (by decide) m432 rfl d_T_ask_81 ?_
  exact v_lret X Y (by decide) (by decide) d_T_ask_84 ⟨rfl, rfl⟩

set_option maxHeartbeats 4000000 in
set_option maxRecDepth 100000 in
theorem c_T_askB (l : Launch) (D : va_G) (z : Nat → ClassId) (m : Nat) (tS : Nat) (tD : Int32) (tE : Int32) (tN : Int64) (tA : Bool) (tL : Int64) (aK : Nat) (aP : Nat) (aQ : Nat) (aT : Nat) (aW : Nat) (aO : Nat) (aM : Nat) (aL : Nat) (aH : Nat) (aI : Nat) (aS : Nat) (aR : Nat) (aX : Nat) (aF : Nat) (aY : Nat) (aJ : Nat) (tl : Int64) (tg : Int64) (tB : Bool) (tM : Int32) (tb : Int32) (tv : Int64) (tw : Int64) (tT : Int64) (tr : Int64) (tm : Int64) (tf : Int64) (aG : Nat) (aE : Nat) (aU : Nat) (s : Int32) (hb9 : ¬ s < 0 → ¬ s < nI tS) : Ctr l D z y_T_ask b_T_ask 2 (some .long) { frames := 1, cells := 0, slots := 0, locals := 21 } [.ref m, .int s] [(m, .inr (5, (.int (nI tS) :: .int tD :: .int tE :: .long tN :: .int (bI tA) :: .long tL :: .ref aK :: .ref aP :: .ref aQ :: .ref aT :: .ref aW :: .ref aO :: .ref aM :: .ref aL :: .ref aH :: .ref aI :: .ref aS :: .ref aR :: .ref aX :: .ref aF :: .ref aY :: .ref aJ :: .long tl :: .long tg :: .int (bI tB) :: .int tM :: .int tb :: .long tv :: .long tw :: .long tT :: .long tr :: .long tm :: .long tf :: .ref aG :: .ref aE :: .ref aU :: [])))] (fun v w => v = some (.long (-4611686018427387904)) ∧ w = [(m, .inr (5, (.int (nI tS) :: .int tD :: .int tE :: .long tN :: .int (bI tA) :: .long tL :: .ref aK :: .ref aP :: .ref aQ :: .ref aT :: .ref aW :: .ref aO :: .ref aM :: .ref aL :: .ref aH :: .ref aI :: .ref aS :: .ref aR :: .ref aX :: .ref aF :: .ref aY :: .ref aJ :: .long tl :: .long tg :: .int (bI tB) :: .int tM :: .int tb :: .long tv :: .long tw :: .long tT :: .long tr :: .long tm :: .long tf :: .ref aG :: .ref aE :: .ref aU :: [])))]) 0 0 := by
  refine met_V (own := R_T) (nm := "ask") (by decide +kernel) rfl rfl (Nat.le_of_ble_eq_true rfl) ?_
  intro κ hl hD hz X Y
  subst hl
  subst hD
  subst hz
  show V κ 2 0 0 0 [(0, .ref m), (1, .int s)] [] [(m, .inr (5, (.int (nI tS) :: .int tD :: .int tE :: .long tN :: .int (bI tA) :: .long tL :: .ref aK :: .ref aP :: .ref aQ :: .ref aT :: .ref aW :: .ref aO :: .ref aM :: .ref aL :: .ref aH :: .ref aI :: .ref aS :: .ref aR :: .ref aX :: .ref aF :: .ref aY :: .ref aJ :: .long tl :: .long tg :: .int (bI tB) :: .int tM :: .int tb :: .long tv :: .long tw :: .long tT :: .long tr :: .long tm :: .long tf :: .ref aG :: .ref aE :: .ref aU :: [])))]
  refine v_aload_n X 0 d_T_ask_0 rfl ?_
  refine v_iload_n X 1 d_T_ask_1 rfl ?_
  refine v_callV X (b := m) (k := 0) (n := 0) (n9 := 1) (As := [.int s]) (rest := []) (wc := [(m, .inr (5, (.int (nI tS) :: .int tD :: .int tE :: .long tN :: .int (bI tA) :: .long tL :: .ref aK :: .ref aP :: .ref aQ :: .ref aT :: .ref aW :: .ref aO :: .ref aM :: .ref aL :: .ref aH :: .ref aI :: .ref aS :: .ref aR :: .ref aX :: .ref aF :: .ref aY :: .ref aJ :: .long tl :: .long tg :: .int (bI tB) :: .int tM :: .int tb :: .long tv :: .long tw :: .long tT :: .long tr :: .long tm :: .long tf :: .ref aG :: .ref aE :: .ref aU :: [])))]) (wr := []) (c_T_isServerB κ.l κ.D κ.z m tS tD tE tN tA tL aK aP aQ aT aW aO aM aL aH aI aS aR aX aF aY aJ tl tg tB tM tb tv tw tT tr tm tf aG aE aU s hb9) 0 rfl rfl m513 m514 m16 m36 (by decide +kernel) rfl (Nat.le_of_ble_eq_true rfl) ⟨by decide, by decide⟩ ⟨by decide, by decide⟩ rfl rfl m515 d_T_ask_2 (fun v w1 hg => ?_)
  obtain ⟨rfl, rfl⟩ := hg
  show V κ 2 0 0 5 [(0, .ref m), (1, .int s)] [.int (bI false)] [(m, .inr (5, (.int (nI tS) :: .int tD :: .int tE :: .long tN :: .int (bI tA) :: .long tL :: .ref aK :: .ref aP :: .ref aQ :: .ref aT :: .ref aW :: .ref aO :: .ref aM :: .ref aL :: .ref aH :: .ref aI :: .ref aS :: .ref aR :: .ref aX :: .ref aF :: .ref aY :: .ref aJ :: .long tl :: .long tg :: .int (bI tB) :: .int tM :: .int tb :: .long tv :: .long tw :: .long tT :: .long tr :: .long tm :: .long tf :: .ref aG :: .ref aE :: .ref aU :: [])))]
  refine v_ifB_ne X 12 (t := false) d_T_ask_5 (by decide) (fun c5 => absurd c5 (by decide)) (fun c5 => ?_)
  refine v_ldc2 X (v := (-4611686018427387904)) m528 d_T_ask_8 ?_
  exact v_lret X Y (by decide) (by decide) d_T_ask_11 ⟨rfl, rfl⟩

def f_T_why (tN : Int64) (gK : Nat → Int64) (gP : Nat → Bool) (gQ : Nat → Int64) (gT : Nat → Int64) (gW : Nat → Bool) (gO : Nat → Int64) (i : Nat) (x : Int64) (y : Int64) (t : Int64) (u : Int32) : Int32 := if (f_T_between y 0 1099511627776) = true then (if (f_T_between t 0 1099511627776) = true then (if y ≤ t then (if u = (f_T_sealG gK i x y t) then (if (gW i) = true then (if (gO i) = x then (-4) else (if (gP i) = true then (if (gT i) = x then (if (t - y) ≤ (tN - (gQ i)) then 0 else (-6)) else (-5)) else (-5))) else (if (gP i) = true then (if (gT i) = x then (if (t - y) ≤ (tN - (gQ i)) then 0 else (-6)) else (-5)) else (-5))) else (-3)) else (-2)) else (-2)) else (-2)
set_option maxHeartbeats 4000000 in
set_option maxRecDepth 100000 in
theorem c_T_why (l : Launch) (D : va_G) (z : Nat → ClassId) (m : Nat) (tS : Nat) (tD : Int32) (tE : Int32) (tN : Int64) (tA : Bool) (tL : Int64) (aK : Nat) (aP : Nat) (aQ : Nat) (aT : Nat) (aW : Nat) (aO : Nat) (aM : Nat) (aL : Nat) (aH : Nat) (aI : Nat) (aS : Nat) (aR : Nat) (aX : Nat) (aF : Nat) (aY : Nat) (aJ : Nat) (tl : Int64) (tg : Int64) (tB : Bool) (tM : Int32) (tb : Int32) (tv : Int64) (tw : Int64) (tT : Int64) (tr : Int64) (tm : Int64) (tf : Int64) (aG : Nat) (aE : Nat) (aU : Nat) (gK : Nat → Int64) (gP : Nat → Bool) (gQ : Nat → Int64) (gT : Nat → Int64) (gW : Nat → Bool) (gO : Nat → Int64) (i : Nat) (x : Int64) (y : Int64) (t : Int64) (u : Int32) (h6 : tS ≤ 6) (hi9 : i < tS) : Ctr l D z y_T_why b_T_why 10 (some .int) { frames := 2, cells := 0, slots := 0, locals := 58 } [.ref m, .int (nI i), .long x, .long y, .long t, .int u] [(m, .inr (5, (.int (nI tS) :: .int tD :: .int tE :: .long tN :: .int (bI tA) :: .long tL :: .ref aK :: .ref aP :: .ref aQ :: .ref aT :: .ref aW :: .ref aO :: .ref aM :: .ref aL :: .ref aH :: .ref aI :: .ref aS :: .ref aR :: .ref aX :: .ref aF :: .ref aY :: .ref aJ :: .long tl :: .long tg :: .int (bI tB) :: .int tM :: .int tb :: .long tv :: .long tw :: .long tT :: .long tr :: .long tm :: .long tf :: .ref aG :: .ref aE :: .ref aU :: []))), (aK, .inl (z 1, 6, .inr (.inl gK))), (aP, .inl (z 2, 6, .inl (aB gP))), (aQ, .inl (z 1, 6, .inr (.inl gQ))), (aT, .inl (z 1, 6, .inr (.inl gT))), (aW, .inl (z 2, 6, .inl (aB gW))), (aO, .inl (z 1, 6, .inr (.inl gO)))] (fun v w => v = some (.int (f_T_why tN gK gP gQ gT gW gO i x y t u)) ∧ w = [(m, .inr (5, (.int (nI tS) :: .int tD :: .int tE :: .long tN :: .int (bI tA) :: .long tL :: .ref aK :: .ref aP :: .ref aQ :: .ref aT :: .ref aW :: .ref aO :: .ref aM :: .ref aL :: .ref aH :: .ref aI :: .ref aS :: .ref aR :: .ref aX :: .ref aF :: .ref aY :: .ref aJ :: .long tl :: .long tg :: .int (bI tB) :: .int tM :: .int tb :: .long tv :: .long tw :: .long tT :: .long tr :: .long tm :: .long tf :: .ref aG :: .ref aE :: .ref aU :: []))), (aK, .inl (z 1, 6, .inr (.inl gK))), (aP, .inl (z 2, 6, .inl (aB gP))), (aQ, .inl (z 1, 6, .inr (.inl gQ))), (aT, .inl (z 1, 6, .inr (.inl gT))), (aW, .inl (z 2, 6, .inl (aB gW))), (aO, .inl (z 1, 6, .inr (.inl gO)))]) 0 0 := by
  refine met_V (own := R_T) (nm := "why") (by decide +kernel) rfl rfl (Nat.le_of_ble_eq_true rfl) ?_
  intro κ hl hD hz X Y
  subst hl
  subst hD
  subst hz
  show V κ 10 0 0 0 [(0, .ref m), (1, .int (nI i)), (2, .long x), (4, .long y), (6, .long t), (8, .int u)] [] [(m, .inr (5, (.int (nI tS) :: .int tD :: .int tE :: .long tN :: .int (bI tA) :: .long tL :: .ref aK :: .ref aP :: .ref aQ :: .ref aT :: .ref aW :: .ref aO :: .ref aM :: .ref aL :: .ref aH :: .ref aI :: .ref aS :: .ref aR :: .ref aX :: .ref aF :: .ref aY :: .ref aJ :: .long tl :: .long tg :: .int (bI tB) :: .int tM :: .int tb :: .long tv :: .long tw :: .long tT :: .long tr :: .long tm :: .long tf :: .ref aG :: .ref aE :: .ref aU :: []))), (aK, .inl (κ.z 1, 6, .inr (.inl gK))), (aP, .inl (κ.z 2, 6, .inl (aB gP))), (aQ, .inl (κ.z 1, 6, .inr (.inl gQ))), (aT, .inl (κ.z 1, 6, .inr (.inl gT))), (aW, .inl (κ.z 2, 6, .inl (aB gW))), (aO, .inl (κ.z 1, 6, .inr (.inl gO)))]
  refine v_lload X 3 d_T_why_0 rfl ?_
  refine v_lconst X 0 d_T_why_2 (by decide) ?_
  refine v_ldc2 X (v := 1099511627776) m536 d_T_why_3 ?_
  refine v_callS X (k := 0) (n := 0) (n9 := 3) (As := [.long y, .long 0, .long 1099511627776]) (rest := []) (wc := []) (wr := [(m, .inr (5, (.int (nI tS) :: .int tD :: .int tE :: .long tN :: .int (bI tA) :: .long tL :: .ref aK :: .ref aP :: .ref aQ :: .ref aT :: .ref aW :: .ref aO :: .ref aM :: .ref aL :: .ref aH :: .ref aI :: .ref aS :: .ref aR :: .ref aX :: .ref aF :: .ref aY :: .ref aJ :: .long tl :: .long tg :: .int (bI tB) :: .int tM :: .int tb :: .long tv :: .long tw :: .long tT :: .long tr :: .long tm :: .long tf :: .ref aG :: .ref aE :: .ref aU :: []))), (aK, .inl (κ.z 1, 6, .inr (.inl gK))), (aP, .inl (κ.z 2, 6, .inl (aB gP))), (aQ, .inl (κ.z 1, 6, .inr (.inl gQ))), (aT, .inl (κ.z 1, 6, .inr (.inl gT))), (aW, .inl (κ.z 2, 6, .inl (aB gW))), (aO, .inl (κ.z 1, 6, .inr (.inl gO)))]) (c_T_between κ.l κ.D κ.z y 0 1099511627776 ) m537 m538 m36 (by decide +kernel) rfl (Nat.le_of_ble_eq_true rfl) ⟨by decide, by decide⟩ ⟨by decide, by decide⟩ rfl rfl m539 d_T_why_6 (fun v w1 hg => ?_)
  obtain ⟨rfl, rfl⟩ := hg
  show V κ 10 0 0 9 [(0, .ref m), (1, .int (nI i)), (2, .long x), (4, .long y), (6, .long t), (8, .int u)] [.int (bI (f_T_between y 0 1099511627776))] [(m, .inr (5, (.int (nI tS) :: .int tD :: .int tE :: .long tN :: .int (bI tA) :: .long tL :: .ref aK :: .ref aP :: .ref aQ :: .ref aT :: .ref aW :: .ref aO :: .ref aM :: .ref aL :: .ref aH :: .ref aI :: .ref aS :: .ref aR :: .ref aX :: .ref aF :: .ref aY :: .ref aJ :: .long tl :: .long tg :: .int (bI tB) :: .int tM :: .int tb :: .long tv :: .long tw :: .long tT :: .long tr :: .long tm :: .long tf :: .ref aG :: .ref aE :: .ref aU :: []))), (aK, .inl (κ.z 1, 6, .inr (.inl gK))), (aP, .inl (κ.z 2, 6, .inl (aB gP))), (aQ, .inl (κ.z 1, 6, .inr (.inl gQ))), (aT, .inl (κ.z 1, 6, .inr (.inl gT))), (aW, .inl (κ.z 2, 6, .inl (aB gW))), (aO, .inl (κ.z 1, 6, .inr (.inl gO)))]
  refine v_ifB_eq X 32 (t := f_T_between y 0 1099511627776) d_T_why_9 (by decide) (fun c9 => ?_) (fun c9 => ?_)
  · skip
    refine v_bipush X (-2) d_T_why_32 (by decide) ?_
    exact v_iret X Y (by decide) (by decide) d_T_why_34 ⟨by first | (simp only [f_T_why, if_neg c9] <;> rfl) | rfl, rfl⟩
  · skip
    refine v_lload X 4 d_T_why_12 rfl ?_
    refine v_lconst X 0 d_T_why_14 (by decide) ?_
    refine v_ldc2 X (v := 1099511627776) m536 d_T_why_15 ?_
    refine v_callS X (k := 0) (n := 0) (n9 := 3) (As := [.long t, .long 0, .long 1099511627776]) (rest := []) (wc := []) (wr := [(m, .inr (5, (.int (nI tS) :: .int tD :: .int tE :: .long tN :: .int (bI tA) :: .long tL :: .ref aK :: .ref aP :: .ref aQ :: .ref aT :: .ref aW :: .ref aO :: .ref aM :: .ref aL :: .ref aH :: .ref aI :: .ref aS :: .ref aR :: .ref aX :: .ref aF :: .ref aY :: .ref aJ :: .long tl :: .long tg :: .int (bI tB) :: .int tM :: .int tb :: .long tv :: .long tw :: .long tT :: .long tr :: .long tm :: .long tf :: .ref aG :: .ref aE :: .ref aU :: []))), (aK, .inl (κ.z 1, 6, .inr (.inl gK))), (aP, .inl (κ.z 2, 6, .inl (aB gP))), (aQ, .inl (κ.z 1, 6, .inr (.inl gQ))), (aT, .inl (κ.z 1, 6, .inr (.inl gT))), (aW, .inl (κ.z 2, 6, .inl (aB gW))), (aO, .inl (κ.z 1, 6, .inr (.inl gO)))]) (c_T_between κ.l κ.D κ.z t 0 1099511627776 ) m537 m538 m36 (by decide +kernel) rfl (Nat.le_of_ble_eq_true rfl) ⟨by decide, by decide⟩ ⟨by decide, by decide⟩ rfl rfl m539 d_T_why_18 (fun v w1 hg => ?_)
    obtain ⟨rfl, rfl⟩ := hg
    show V κ 10 0 0 21 [(0, .ref m), (1, .int (nI i)), (2, .long x), (4, .long y), (6, .long t), (8, .int u)] [.int (bI (f_T_between t 0 1099511627776))] [(m, .inr (5, (.int (nI tS) :: .int tD :: .int tE :: .long tN :: .int (bI tA) :: .long tL :: .ref aK :: .ref aP :: .ref aQ :: .ref aT :: .ref aW :: .ref aO :: .ref aM :: .ref aL :: .ref aH :: .ref aI :: .ref aS :: .ref aR :: .ref aX :: .ref aF :: .ref aY :: .ref aJ :: .long tl :: .long tg :: .int (bI tB) :: .int tM :: .int tb :: .long tv :: .long tw :: .long tT :: .long tr :: .long tm :: .long tf :: .ref aG :: .ref aE :: .ref aU :: []))), (aK, .inl (κ.z 1, 6, .inr (.inl gK))), (aP, .inl (κ.z 2, 6, .inl (aB gP))), (aQ, .inl (κ.z 1, 6, .inr (.inl gQ))), (aT, .inl (κ.z 1, 6, .inr (.inl gT))), (aW, .inl (κ.z 2, 6, .inl (aB gW))), (aO, .inl (κ.z 1, 6, .inr (.inl gO)))]
    refine v_ifB_eq X 32 (t := f_T_between t 0 1099511627776) d_T_why_21 (by decide) (fun c21 => ?_) (fun c21 => ?_)
    · skip
      refine v_bipush X (-2) d_T_why_32 (by decide) ?_
      exact v_iret X Y (by decide) (by decide) d_T_why_34 ⟨by first | (simp only [f_T_why, if_pos c9, if_neg c21] <;> rfl) | rfl, rfl⟩
    · skip
      refine v_lload X 3 d_T_why_24 rfl ?_
      refine v_lload X 4 d_T_why_26 rfl ?_
      refine v_lcmp_le X 35 d_T_why_28 d_T_why_29 (by decide) (fun c28 => ?_) (fun c28 => ?_)
      · skip
        refine v_aload_n X 0 d_T_why_35 rfl ?_
        refine v_iload_n X 1 d_T_why_36 rfl ?_
        refine v_lload_n X 2 d_T_why_37 rfl ?_
        refine v_lload X 3 d_T_why_38 rfl ?_
        refine v_lload X 4 d_T_why_40 rfl ?_
        refine v_callV X (b := m) (k := 0) (n := 0) (n9 := 4) (As := [.int (nI i), .long x, .long y, .long t]) (rest := []) (wc := [(m, .inr (5, (.int (nI tS) :: .int tD :: .int tE :: .long tN :: .int (bI tA) :: .long tL :: .ref aK :: .ref aP :: .ref aQ :: .ref aT :: .ref aW :: .ref aO :: .ref aM :: .ref aL :: .ref aH :: .ref aI :: .ref aS :: .ref aR :: .ref aX :: .ref aF :: .ref aY :: .ref aJ :: .long tl :: .long tg :: .int (bI tB) :: .int tM :: .int tb :: .long tv :: .long tw :: .long tT :: .long tr :: .long tm :: .long tf :: .ref aG :: .ref aE :: .ref aU :: []))), (aK, .inl (κ.z 1, 6, .inr (.inl gK)))]) (wr := [(aP, .inl (κ.z 2, 6, .inl (aB gP))), (aQ, .inl (κ.z 1, 6, .inr (.inl gQ))), (aT, .inl (κ.z 1, 6, .inr (.inl gT))), (aW, .inl (κ.z 2, 6, .inl (aB gW))), (aO, .inl (κ.z 1, 6, .inr (.inl gO)))]) (c_T_sealG κ.l κ.D κ.z m tS tD tE tN tA tL aK aP aQ aT aW aO aM aL aH aI aS aR aX aF aY aJ tl tg tB tM tb tv tw tT tr tm tf aG aE aU gK i x y t (by omega) (by omega)) 0 rfl rfl m540 m517 m518 m36 (by decide +kernel) rfl (Nat.le_of_ble_eq_true rfl) ⟨by decide, by decide⟩ ⟨by decide, by decide⟩ rfl rfl m519 d_T_why_42 (fun v w1 hg => ?_)
        obtain ⟨rfl, rfl⟩ := hg
        show V κ 10 0 0 45 [(0, .ref m), (1, .int (nI i)), (2, .long x), (4, .long y), (6, .long t), (8, .int u)] [.int (f_T_sealG gK i x y t)] [(m, .inr (5, (.int (nI tS) :: .int tD :: .int tE :: .long tN :: .int (bI tA) :: .long tL :: .ref aK :: .ref aP :: .ref aQ :: .ref aT :: .ref aW :: .ref aO :: .ref aM :: .ref aL :: .ref aH :: .ref aI :: .ref aS :: .ref aR :: .ref aX :: .ref aF :: .ref aY :: .ref aJ :: .long tl :: .long tg :: .int (bI tB) :: .int tM :: .int tb :: .long tv :: .long tw :: .long tT :: .long tr :: .long tm :: .long tf :: .ref aG :: .ref aE :: .ref aU :: []))), (aK, .inl (κ.z 1, 6, .inr (.inl gK))), (aP, .inl (κ.z 2, 6, .inl (aB gP))), (aQ, .inl (κ.z 1, 6, .inr (.inl gQ))), (aT, .inl (κ.z 1, 6, .inr (.inl gT))), (aW, .inl (κ.z 2, 6, .inl (aB gW))), (aO, .inl (κ.z 1, 6, .inr (.inl gO)))]
        refine v_istore X d_T_why_45 (by decide) (lv' := [(9, .int (f_T_sealG gK i x y t)), (0, .ref m), (1, .int (nI i)), (2, .long x), (4, .long y), (6, .long t), (8, .int u)]) rfl ?_
        refine v_iload X 6 d_T_why_47 rfl ?_
        refine v_iload X 0 d_T_why_49 rfl ?_
        refine v_icmp_eq X 57 d_T_why_51 (by decide) (fun c51 => ?_) (fun c51 => ?_)
        · skip
          refine v_aload_n X 1 d_T_why_57 rfl ?_
          refine v_get X 0 10 rfl rfl li_T (by decide) m437 rfl d_T_why_58 ?_
          refine v_iload_n X 2 d_T_why_61 rfl ?_
          refine v_zaldN X 5 2 (j := i) rfl rfl (by omega) (by omega) d_T_why_62 ?_
          refine v_ifB_eq X 80 (t := gW i) d_T_why_63 (by decide) (fun c63 => ?_) (fun c63 => ?_)
          · skip
            refine v_aload_n X 1 d_T_why_80 rfl ?_
            refine v_get X 0 7 rfl rfl li_T (by decide) m434 rfl d_T_why_81 ?_
            refine v_iload_n X 2 d_T_why_84 rfl ?_
            refine v_zaldN X 2 2 (j := i) rfl rfl (by omega) (by omega) d_T_why_85 ?_
            refine v_ifB_eq X 100 (t := gP i) d_T_why_86 (by decide) (fun c86 => ?_) (fun c86 => ?_)
            · skip
              refine v_bipush X (-5) d_T_why_100 (by decide) ?_
              exact v_iret X Y (by decide) (by decide) d_T_why_102 ⟨by first | (simp only [f_T_why, if_pos c9, if_pos c21, if_pos c28, if_pos c51, if_neg c63, if_neg c86] <;> rfl) | rfl, rfl⟩
            · skip
              refine v_aload_n X 1 d_T_why_89 rfl ?_
              refine v_get X 0 9 rfl rfl li_T (by decide) m436 rfl d_T_why_90 ?_
              refine v_iload_n X 2 d_T_why_93 rfl ?_
              refine v_laldN X 4 1 (j := i) rfl rfl (by omega) (by omega) d_T_why_94 ?_
              refine v_lload_n X 3 d_T_why_95 rfl ?_
              refine v_lcmp_eq X 103 d_T_why_96 d_T_why_97 (by decide) (fun c96 => ?_) (fun c96 => ?_)
              · skip
                refine v_lload X 5 d_T_why_103 rfl ?_
                refine v_lload X 4 d_T_why_105 rfl ?_
                refine v_lsub X d_T_why_107 ?_
                refine v_aload_n X 1 d_T_why_108 rfl ?_
                refine v_get X 0 3 rfl rfl li_T (by decide) m430 rfl d_T_why_109 ?_
                refine v_aload_n X 1 d_T_why_112 rfl ?_
                refine v_get X 0 8 rfl rfl li_T (by decide) m435 rfl d_T_why_113 ?_
                refine v_iload_n X 2 d_T_why_116 rfl ?_
                refine v_laldN X 3 1 (j := i) rfl rfl (by omega) (by omega) d_T_why_117 ?_
                refine v_lsub X d_T_why_118 ?_
                suffices hm119 : V κ 10 0 0 129 [(9, .int (f_T_sealG gK i x y t)), (0, .ref m), (1, .int (nI i)), (2, .long x), (4, .long y), (6, .long t), (8, .int u)] [.int (if (t - y) ≤ (tN - (gQ i)) then 0 else (-6))] [(m, .inr (5, (.int (nI tS) :: .int tD :: .int tE :: .long tN :: .int (bI tA) :: .long tL :: .ref aK :: .ref aP :: .ref aQ :: .ref aT :: .ref aW :: .ref aO :: .ref aM :: .ref aL :: .ref aH :: .ref aI :: .ref aS :: .ref aR :: .ref aX :: .ref aF :: .ref aY :: .ref aJ :: .long tl :: .long tg :: .int (bI tB) :: .int tM :: .int tb :: .long tv :: .long tw :: .long tT :: .long tr :: .long tm :: .long tf :: .ref aG :: .ref aE :: .ref aU :: []))), (aK, .inl (κ.z 1, 6, .inr (.inl gK))), (aP, .inl (κ.z 2, 6, .inl (aB gP))), (aQ, .inl (κ.z 1, 6, .inr (.inl gQ))), (aT, .inl (κ.z 1, 6, .inr (.inl gT))), (aW, .inl (κ.z 2, 6, .inl (aB gW))), (aO, .inl (κ.z 1, 6, .inr (.inl gO)))] by
                  refine v_lcmp_le X 128 d_T_why_119 d_T_why_120 (by decide) (fun c119 => ?_) (fun c119 => ?_)
                  · skip
                    refine v_iconst X 0 d_T_why_128 (by decide) ?_
                    have h9 := hm119; simp only [if_pos c119] at h9; first | exact h9 | (simp only [if_pos c119]; exact h9)
                  · skip
                    refine v_bipush X (-6) d_T_why_123 (by decide) ?_
                    refine v_goto X 129 d_T_why_125 (by decide) ?_
                    have h9 := hm119; simp only [if_neg c119] at h9; first | exact h9 | (simp only [if_neg c119]; exact h9)
                exact v_iret X Y (by decide) (by decide) d_T_why_129 ⟨by first | (simp only [f_T_why, if_pos c9, if_pos c21, if_pos c28, if_pos c51, if_neg c63, if_pos c86, if_pos c96] <;> rfl) | rfl, rfl⟩
              · skip
                refine v_bipush X (-5) d_T_why_100 (by decide) ?_
                exact v_iret X Y (by decide) (by decide) d_T_why_102 ⟨by first | (simp only [f_T_why, if_pos c9, if_pos c21, if_pos c28, if_pos c51, if_neg c63, if_pos c86, if_neg c96] <;> rfl) | rfl, rfl⟩
          · skip
            refine v_aload_n X 1 d_T_why_66 rfl ?_
            refine v_get X 0 11 rfl rfl li_T (by decide) m438 rfl d_T_why_67 ?_
            refine v_iload_n X 2 d_T_why_70 rfl ?_
            refine v_laldN X 6 1 (j := i) rfl rfl (by omega) (by omega) d_T_why_71 ?_
            refine v_lload_n X 3 d_T_why_72 rfl ?_
            refine v_lcmp_ne X 80 d_T_why_73 d_T_why_74 (by decide) (fun c73 => ?_) (fun c73 => ?_)
            · skip
              refine v_aload_n X 1 d_T_why_80 rfl ?_
              refine v_get X 0 7 rfl rfl li_T (by decide) m434 rfl d_T_why_81 ?_
              refine v_iload_n X 2 d_T_why_84 rfl ?_
              refine v_zaldN X 2 2 (j := i) rfl rfl (by omega) (by omega) d_T_why_85 ?_
              refine v_ifB_eq X 100 (t := gP i) d_T_why_86 (by decide) (fun c86 => ?_) (fun c86 => ?_)
              · skip
                refine v_bipush X (-5) d_T_why_100 (by decide) ?_
                exact v_iret X Y (by decide) (by decide) d_T_why_102 ⟨by first | (simp only [f_T_why, if_pos c9, if_pos c21, if_pos c28, if_pos c51, if_pos c63, if_neg c73, if_neg c86] <;> rfl) | rfl, rfl⟩
              · skip
                refine v_aload_n X 1 d_T_why_89 rfl ?_
                refine v_get X 0 9 rfl rfl li_T (by decide) m436 rfl d_T_why_90 ?_
                refine v_iload_n X 2 d_T_why_93 rfl ?_
                refine v_laldN X 4 1 (j := i) rfl rfl (by omega) (by omega) d_T_why_94 ?_
                refine v_lload_n X 3 d_T_why_95 rfl ?_
                refine v_lcmp_eq X 103 d_T_why_96 d_T_why_97 (by decide) (fun c96 => ?_) (fun c96 => ?_)
                · skip
                  refine v_lload X 5 d_T_why_103 rfl ?_
                  refine v_lload X 4 d_T_why_105 rfl ?_
                  refine v_lsub X d_T_why_107 ?_
                  refine v_aload_n X 1 d_T_why_108 rfl ?_
                  refine v_get X 0 3 rfl rfl li_T (by decide) m430 rfl d_T_why_109 ?_
                  refine v_aload_n X 1 d_T_why_112 rfl ?_
                  refine v_get X 0 8 rfl rfl li_T (by decide) m435 rfl d_T_why_113 ?_
                  refine v_iload_n X 2 d_T_why_116 rfl ?_
                  refine v_laldN X 3 1 (j := i) rfl rfl (by omega) (by omega) d_T_why_117 ?_
                  refine v_lsub X d_T_why_118 ?_
                  suffices hm119 : V κ 10 0 0 129 [(9, .int (f_T_sealG gK i x y t)), (0, .ref m), (1, .int (nI i)), (2, .long x), (4, .long y), (6, .long t), (8, .int u)] [.int (if (t - y) ≤ (tN - (gQ i)) then 0 else (-6))] [(m, .inr (5, (.int (nI tS) :: .int tD :: .int tE :: .long tN :: .int (bI tA) :: .long tL :: .ref aK :: .ref aP :: .ref aQ :: .ref aT :: .ref aW :: .ref aO :: .ref aM :: .ref aL :: .ref aH :: .ref aI :: .ref aS :: .ref aR :: .ref aX :: .ref aF :: .ref aY :: .ref aJ :: .long tl :: .long tg :: .int (bI tB) :: .int tM :: .int tb :: .long tv :: .long tw :: .long tT :: .long tr :: .long tm :: .long tf :: .ref aG :: .ref aE :: .ref aU :: []))), (aK, .inl (κ.z 1, 6, .inr (.inl gK))), (aP, .inl (κ.z 2, 6, .inl (aB gP))), (aQ, .inl (κ.z 1, 6, .inr (.inl gQ))), (aT, .inl (κ.z 1, 6, .inr (.inl gT))), (aW, .inl (κ.z 2, 6, .inl (aB gW))), (aO, .inl (κ.z 1, 6, .inr (.inl gO)))] by
                    refine v_lcmp_le X 128 d_T_why_119 d_T_why_120 (by decide) (fun c119 => ?_) (fun c119 => ?_)
                    · skip
                      refine v_iconst X 0 d_T_why_128 (by decide) ?_
                      have h9 := hm119; simp only [if_pos c119] at h9; first | exact h9 | (simp only [if_pos c119]; exact h9)
                    · skip
                      refine v_bipush X (-6) d_T_why_123 (by decide) ?_
                      refine v_goto X 129 d_T_why_125 (by decide) ?_
                      have h9 := hm119; simp only [if_neg c119] at h9; first | exact h9 | (simp only [if_neg c119]; exact h9)
                  exact v_iret X Y (by decide) (by decide) d_T_why_129 ⟨by first | (simp only [f_T_why, if_pos c9, if_pos c21, if_pos c28, if_pos c51, if_pos c63, if_neg c73, if_pos c86, if_pos c96] <;> rfl) | rfl, rfl⟩
                · skip
                  refine v_bipush X (-5) d_T_why_100 (by decide) ?_
                  exact v_iret X Y (by decide) (by decide) d_T_why_102 ⟨by first | (simp only [f_T_why, if_pos c9, if_pos c21, if_pos c28, if_pos c51, if_pos c63, if_neg c73, if_pos c86, if_neg c96] <;> rfl) | rfl, rfl⟩
            · skip
              refine v_bipush X (-4) d_T_why_77 (by decide) ?_
              exact v_iret X Y (by decide) (by decide) d_T_why_79 ⟨by first | (simp only [f_T_why, if_pos c9, if_pos c21, if_pos c28, if_pos c51, if_pos c63, if_pos c73] <;> rfl) | rfl, rfl⟩
        · skip
          refine v_bipush X (-3) d_T_why_54 (by decide) ?_
          exact v_iret X Y (by decide) (by decide) d_T_why_56 ⟨by first | (simp only [f_T_why, if_pos c9, if_pos c21, if_pos c28, if_neg c51] <;> rfl) | rfl, rfl⟩
      · skip
        refine v_bipush X (-2) d_T_why_32 (by decide) ?_
        exact v_iret X Y (by decide) (by decide) d_T_why_34 ⟨by first | (simp only [f_T_why, if_pos c9, if_pos c21, if_neg c28] <;> rfl) | rfl, rfl⟩

def f_T_tellG (x : Int32) (t : Int32) : Bool := if x < 1 then false else (if 16 < x then false else (if t < 0 then false else (if t ≤ 1000000 then true else false)))
def f_T_tellG_r1 (gS : Nat → Int32) (i : Nat) (x : Int32) (t : Int32) : Nat → Int32 := if x < 1 then gS else if 16 < x then gS else if t < 0 then gS else if t ≤ 1000000 then upd gS i x else gS
def f_T_tellG_r2 (gR : Nat → Int32) (i : Nat) (x : Int32) (y : Int32) (t : Int32) : Nat → Int32 := if x < 1 then gR else if 16 < x then gR else if t < 0 then gR else if t ≤ 1000000 then upd gR i y else gR
def f_T_tellG_r3 (gX : Nat → Int32) (i : Nat) (x : Int32) (t : Int32) : Nat → Int32 := if x < 1 then gX else if 16 < x then gX else if t < 0 then gX else if t ≤ 1000000 then upd gX i t else gX
set_option maxHeartbeats 4000000 in
set_option maxRecDepth 100000 in
theorem c_T_tellG (l : Launch) (D : va_G) (z : Nat → ClassId) (m : Nat) (tS : Nat) (tD : Int32) (tE : Int32) (tN : Int64) (tA : Bool) (tL : Int64) (aK : Nat) (aP : Nat) (aQ : Nat) (aT : Nat) (aW : Nat) (aO : Nat) (aM : Nat) (aL : Nat) (aH : Nat) (aI : Nat) (aS : Nat) (aR : Nat) (aX : Nat) (aF : Nat) (aY : Nat) (aJ : Nat) (tl : Int64) (tg : Int64) (tB : Bool) (tM : Int32) (tb : Int32) (tv : Int64) (tw : Int64) (tT : Int64) (tr : Int64) (tm : Int64) (tf : Int64) (aG : Nat) (aE : Nat) (aU : Nat) (gS : Nat → Int32) (gR : Nat → Int32) (gX : Nat → Int32) (i : Nat) (x : Int32) (y : Int32) (t : Int32) (h6 : tS ≤ 6) (hi9 : i < tS) : Ctr l D z y_T_tell b_T_tell 5 (some .boolean) { frames := 1, cells := 0, slots := 0, locals := 21 } [.ref m, .int (nI i), .int x, .int y, .int t] [(m, .inr (5, (.int (nI tS) :: .int tD :: .int tE :: .long tN :: .int (bI tA) :: .long tL :: .ref aK :: .ref aP :: .ref aQ :: .ref aT :: .ref aW :: .ref aO :: .ref aM :: .ref aL :: .ref aH :: .ref aI :: .ref aS :: .ref aR :: .ref aX :: .ref aF :: .ref aY :: .ref aJ :: .long tl :: .long tg :: .int (bI tB) :: .int tM :: .int tb :: .long tv :: .long tw :: .long tT :: .long tr :: .long tm :: .long tf :: .ref aG :: .ref aE :: .ref aU :: []))), (aS, .inl (z 0, 6, .inl gS)), (aR, .inl (z 0, 6, .inl gR)), (aX, .inl (z 0, 6, .inl gX))] (fun v w => v = some (.int (bI (f_T_tellG x t))) ∧ w = [(m, .inr (5, (.int (nI tS) :: .int tD :: .int tE :: .long tN :: .int (bI tA) :: .long tL :: .ref aK :: .ref aP :: .ref aQ :: .ref aT :: .ref aW :: .ref aO :: .ref aM :: .ref aL :: .ref aH :: .ref aI :: .ref aS :: .ref aR :: .ref aX :: .ref aF :: .ref aY :: .ref aJ :: .long tl :: .long tg :: .int (bI tB) :: .int tM :: .int tb :: .long tv :: .long tw :: .long tT :: .long tr :: .long tm :: .long tf :: .ref aG :: .ref aE :: .ref aU :: []))), (aS, .inl (z 0, 6, .inl (f_T_tellG_r1 gS i x t))), (aR, .inl (z 0, 6, .inl (f_T_tellG_r2 gR i x y t))), (aX, .inl (z 0, 6, .inl (f_T_tellG_r3 gX i x t)))]) 0 0 := by
  refine met_V (own := R_T) (nm := "tell") (by decide +kernel) rfl rfl (Nat.le_of_ble_eq_true rfl) ?_
  intro κ hl hD hz X Y
  subst hl
  subst hD
  subst hz
  show V κ 5 0 0 0 [(0, .ref m), (1, .int (nI i)), (2, .int x), (3, .int y), (4, .int t)] [] [(m, .inr (5, (.int (nI tS) :: .int tD :: .int tE :: .long tN :: .int (bI tA) :: .long tL :: .ref aK :: .ref aP :: .ref aQ :: .ref aT :: .ref aW :: .ref aO :: .ref aM :: .ref aL :: .ref aH :: .ref aI :: .ref aS :: .ref aR :: .ref aX :: .ref aF :: .ref aY :: .ref aJ :: .long tl :: .long tg :: .int (bI tB) :: .int tM :: .int tb :: .long tv :: .long tw :: .long tT :: .long tr :: .long tm :: .long tf :: .ref aG :: .ref aE :: .ref aU :: []))), (aS, .inl (κ.z 0, 6, .inl gS)), (aR, .inl (κ.z 0, 6, .inl gR)), (aX, .inl (κ.z 0, 6, .inl gX))]
  refine v_aload_n X 0 d_T_tell_0 rfl ?_
  refine v_iload_n X 1 d_T_tell_1 rfl ?_
  refine v_callV X (b := m) (k := 0) (n := 0) (n9 := 1) (As := [.int (nI i)]) (rest := []) (wc := [(m, .inr (5, (.int (nI tS) :: .int tD :: .int tE :: .long tN :: .int (bI tA) :: .long tL :: .ref aK :: .ref aP :: .ref aQ :: .ref aT :: .ref aW :: .ref aO :: .ref aM :: .ref aL :: .ref aH :: .ref aI :: .ref aS :: .ref aR :: .ref aX :: .ref aF :: .ref aY :: .ref aJ :: .long tl :: .long tg :: .int (bI tB) :: .int tM :: .int tb :: .long tv :: .long tw :: .long tT :: .long tr :: .long tm :: .long tf :: .ref aG :: .ref aE :: .ref aU :: [])))]) (wr := [(aS, .inl (κ.z 0, 6, .inl gS)), (aR, .inl (κ.z 0, 6, .inl gR)), (aX, .inl (κ.z 0, 6, .inl gX))]) (c_T_isServerG κ.l κ.D κ.z m tS tD tE tN tA tL aK aP aQ aT aW aO aM aL aH aI aS aR aX aF aY aJ tl tg tB tM tb tv tw tT tr tm tf aG aE aU i h6 hi9) 0 rfl rfl m513 m514 m16 m36 (by decide +kernel) rfl (Nat.le_of_ble_eq_true rfl) ⟨by decide, by decide⟩ ⟨by decide, by decide⟩ rfl rfl m515 d_T_tell_2 (fun v w1 hg => ?_)
  obtain ⟨rfl, rfl⟩ := hg
  show V κ 5 0 0 5 [(0, .ref m), (1, .int (nI i)), (2, .int x), (3, .int y), (4, .int t)] [.int (bI true)] [(m, .inr (5, (.int (nI tS) :: .int tD :: .int tE :: .long tN :: .int (bI tA) :: .long tL :: .ref aK :: .ref aP :: .ref aQ :: .ref aT :: .ref aW :: .ref aO :: .ref aM :: .ref aL :: .ref aH :: .ref aI :: .ref aS :: .ref aR :: .ref aX :: .ref aF :: .ref aY :: .ref aJ :: .long tl :: .long tg :: .int (bI tB) :: .int tM :: .int tb :: .long tv :: .long tw :: .long tT :: .long tr :: .long tm :: .long tf :: .ref aG :: .ref aE :: .ref aU :: []))), (aS, .inl (κ.z 0, 6, .inl gS)), (aR, .inl (κ.z 0, 6, .inl gR)), (aX, .inl (κ.z 0, 6, .inl gX))]
  refine v_ifB_eq X 31 (t := true) d_T_tell_5 (by decide) (fun c5 => absurd c5 (by decide)) (fun c5 => ?_)
  refine v_iload_n X 2 d_T_tell_8 rfl ?_
  refine v_iconst X 1 d_T_tell_9 (by decide) ?_
  refine v_icmp_lt X 31 d_T_tell_10 (by decide) (fun c10 => ?_) (fun c10 => ?_)
  · skip
    refine v_iconst X 0 d_T_tell_31 (by decide) ?_
    exact v_zret X Y (by decide) (by decide) d_T_tell_32 rfl ⟨by first | (simp only [f_T_tellG, f_T_tellG_r1, f_T_tellG_r2, f_T_tellG_r3, if_pos c10] <;> rfl) | rfl, by first | (simp only [f_T_tellG, f_T_tellG_r1, f_T_tellG_r2, f_T_tellG_r3, if_pos c10] <;> rfl) | rfl⟩
  · skip
    refine v_iload_n X 2 d_T_tell_13 rfl ?_
    refine v_bipush X 16 d_T_tell_14 (by decide) ?_
    refine v_icmp_gt X 31 d_T_tell_16 (by decide) (fun c16 => ?_) (fun c16 => ?_)
    · skip
      refine v_iconst X 0 d_T_tell_31 (by decide) ?_
      exact v_zret X Y (by decide) (by decide) d_T_tell_32 rfl ⟨by first | (simp only [f_T_tellG, f_T_tellG_r1, f_T_tellG_r2, f_T_tellG_r3, if_neg c10, if_pos c16] <;> rfl) | rfl, by first | (simp only [f_T_tellG, f_T_tellG_r1, f_T_tellG_r2, f_T_tellG_r3, if_neg c10, if_pos c16] <;> rfl) | rfl⟩
    · skip
      refine v_iload X 4 d_T_tell_19 rfl ?_
      refine v_if_lt X 31 d_T_tell_21 (by decide) (fun c21 => ?_) (fun c21 => ?_)
      · skip
        refine v_iconst X 0 d_T_tell_31 (by decide) ?_
        exact v_zret X Y (by decide) (by decide) d_T_tell_32 rfl ⟨by first | (simp only [f_T_tellG, f_T_tellG_r1, f_T_tellG_r2, f_T_tellG_r3, if_neg c10, if_neg c16, if_pos c21] <;> rfl) | rfl, by first | (simp only [f_T_tellG, f_T_tellG_r1, f_T_tellG_r2, f_T_tellG_r3, if_neg c10, if_neg c16, if_pos c21] <;> rfl) | rfl⟩
      · skip
        refine v_iload X 4 d_T_tell_24 rfl ?_
        refine v_ldc X (v := 1000000) m504 d_T_tell_26 ?_
        refine v_icmp_le X 33 d_T_tell_28 (by decide) (fun c28 => ?_) (fun c28 => ?_)
        · skip
          refine v_aload_n X 0 d_T_tell_33 rfl ?_
          refine v_get X 0 16 rfl rfl li_T (by decide) m443 rfl d_T_tell_34 ?_
          refine v_iload_n X 1 d_T_tell_37 rfl ?_
          refine v_iload_n X 2 d_T_tell_38 rfl ?_
          refine v_iastN X 1 0 (j := i) (x := x) rfl rfl (by omega) (by omega) d_T_tell_39 (ws' := [(m, .inr (5, (.int (nI tS) :: .int tD :: .int tE :: .long tN :: .int (bI tA) :: .long tL :: .ref aK :: .ref aP :: .ref aQ :: .ref aT :: .ref aW :: .ref aO :: .ref aM :: .ref aL :: .ref aH :: .ref aI :: .ref aS :: .ref aR :: .ref aX :: .ref aF :: .ref aY :: .ref aJ :: .long tl :: .long tg :: .int (bI tB) :: .int tM :: .int tb :: .long tv :: .long tw :: .long tT :: .long tr :: .long tm :: .long tf :: .ref aG :: .ref aE :: .ref aU :: []))), (aS, .inl (κ.z 0, 6, .inl (upd gS i x))), (aR, .inl (κ.z 0, 6, .inl gR)), (aX, .inl (κ.z 0, 6, .inl gX))]) rfl ?_
          refine v_aload_n X 0 d_T_tell_40 rfl ?_
          refine v_get X 0 17 rfl rfl li_T (by decide) m444 rfl d_T_tell_41 ?_
          refine v_iload_n X 1 d_T_tell_44 rfl ?_
          refine v_iload_n X 3 d_T_tell_45 rfl ?_
          refine v_iastN X 2 0 (j := i) (x := y) rfl rfl (by omega) (by omega) d_T_tell_46 (ws' := [(m, .inr (5, (.int (nI tS) :: .int tD :: .int tE :: .long tN :: .int (bI tA) :: .long tL :: .ref aK :: .ref aP :: .ref aQ :: .ref aT :: .ref aW :: .ref aO :: .ref aM :: .ref aL :: .ref aH :: .ref aI :: .ref aS :: .ref aR :: .ref aX :: .ref aF :: .ref aY :: .ref aJ :: .long tl :: .long tg :: .int (bI tB) :: .int tM :: .int tb :: .long tv :: .long tw :: .long tT :: .long tr :: .long tm :: .long tf :: .ref aG :: .ref aE :: .ref aU :: []))), (aS, .inl (κ.z 0, 6, .inl (upd gS i x))), (aR, .inl (κ.z 0, 6, .inl (upd gR i y))), (aX, .inl (κ.z 0, 6, .inl gX))]) rfl ?_
          refine v_aload_n X 0 d_T_tell_47 rfl ?_
          refine v_get X 0 18 rfl rfl li_T (by decide) m445 rfl d_T_tell_48 ?_
          refine v_iload_n X 1 d_T_tell_51 rfl ?_
          refine v_iload X 4 d_T_tell_52 rfl ?_
          show V κ 5 0 0 54 [(0, .ref m), (1, .int (nI i)), (2, .int x), (3, .int y), (4, .int t)] [.int t, .int (nI i), .ref aX] [(m, .inr (5, (.int (nI tS) :: .int tD :: .int tE :: .long tN :: .int (bI tA) :: .long tL :: .ref aK :: .ref aP :: .ref aQ :: .ref aT :: .ref aW :: .ref aO :: .ref aM :: .ref aL :: .ref aH :: .ref aI :: .ref aS :: .ref aR :: .ref aX :: .ref aF :: .ref aY :: .ref aJ :: .long tl :: .long tg :: .int (bI tB) :: .int tM :: .int tb :: .long tv :: .long tw :: .long tT :: .long tr :: .long tm :: .long tf :: .ref aG :: .ref aE :: .ref aU :: []))), (aS, .inl (κ.z 0, 6, .inl (upd gS i x))), (aR, .inl (κ.z 0, 6, .inl (upd gR i y))), (aX, .inl (κ.z 0, 6, .inl gX))]
          refine v_iastN X 3 0 (j := i) (x := t) rfl rfl (by omega) (by omega) d_T_tell_54 (ws' := [(m, .inr (5, (.int (nI tS) :: .int tD :: .int tE :: .long tN :: .int (bI tA) :: .long tL :: .ref aK :: .ref aP :: .ref aQ :: .ref aT :: .ref aW :: .ref aO :: .ref aM :: .ref aL :: .ref aH :: .ref aI :: .ref aS :: .ref aR :: .ref aX :: .ref aF :: .ref aY :: .ref aJ :: .long tl :: .long tg :: .int (bI tB) :: .int tM :: .int tb :: .long tv :: .long tw :: .long tT :: .long tr :: .long tm :: .long tf :: .ref aG :: .ref aE :: .ref aU :: []))), (aS, .inl (κ.z 0, 6, .inl (upd gS i x))), (aR, .inl (κ.z 0, 6, .inl (upd gR i y))), (aX, .inl (κ.z 0, 6, .inl (upd gX i t)))]) rfl ?_
          refine v_iconst X 1 d_T_tell_55 (by decide) ?_
          exact v_zret X Y (by decide) (by decide) d_T_tell_56 rfl ⟨by first | (simp only [f_T_tellG, f_T_tellG_r1, f_T_tellG_r2, f_T_tellG_r3, if_neg c10, if_neg c16, if_neg c21, if_pos c28] <;> rfl) | rfl, by first | (simp only [f_T_tellG, f_T_tellG_r1, f_T_tellG_r2, f_T_tellG_r3, if_neg c10, if_neg c16, if_neg c21, if_pos c28] <;> rfl) | rfl⟩
        · skip
          refine v_iconst X 0 d_T_tell_31 (by decide) ?_
          exact v_zret X Y (by decide) (by decide) d_T_tell_32 rfl ⟨by first | (simp only [f_T_tellG, f_T_tellG_r1, f_T_tellG_r2, f_T_tellG_r3, if_neg c10, if_neg c16, if_neg c21, if_neg c28] <;> rfl) | rfl, by first | (simp only [f_T_tellG, f_T_tellG_r1, f_T_tellG_r2, f_T_tellG_r3, if_neg c10, if_neg c16, if_neg c21, if_neg c28] <;> rfl) | rfl⟩

set_option maxHeartbeats 4000000 in
set_option maxRecDepth 100000 in
theorem c_T_tellB (l : Launch) (D : va_G) (z : Nat → ClassId) (m : Nat) (tS : Nat) (tD : Int32) (tE : Int32) (tN : Int64) (tA : Bool) (tL : Int64) (aK : Nat) (aP : Nat) (aQ : Nat) (aT : Nat) (aW : Nat) (aO : Nat) (aM : Nat) (aL : Nat) (aH : Nat) (aI : Nat) (aS : Nat) (aR : Nat) (aX : Nat) (aF : Nat) (aY : Nat) (aJ : Nat) (tl : Int64) (tg : Int64) (tB : Bool) (tM : Int32) (tb : Int32) (tv : Int64) (tw : Int64) (tT : Int64) (tr : Int64) (tm : Int64) (tf : Int64) (aG : Nat) (aE : Nat) (aU : Nat) (s : Int32) (x : Int32) (y : Int32) (t : Int32) (hb9 : ¬ s < 0 → ¬ s < nI tS) : Ctr l D z y_T_tell b_T_tell 5 (some .boolean) { frames := 1, cells := 0, slots := 0, locals := 21 } [.ref m, .int s, .int x, .int y, .int t] [(m, .inr (5, (.int (nI tS) :: .int tD :: .int tE :: .long tN :: .int (bI tA) :: .long tL :: .ref aK :: .ref aP :: .ref aQ :: .ref aT :: .ref aW :: .ref aO :: .ref aM :: .ref aL :: .ref aH :: .ref aI :: .ref aS :: .ref aR :: .ref aX :: .ref aF :: .ref aY :: .ref aJ :: .long tl :: .long tg :: .int (bI tB) :: .int tM :: .int tb :: .long tv :: .long tw :: .long tT :: .long tr :: .long tm :: .long tf :: .ref aG :: .ref aE :: .ref aU :: [])))] (fun v w => v = some (.int (bI false)) ∧ w = [(m, .inr (5, (.int (nI tS) :: .int tD :: .int tE :: .long tN :: .int (bI tA) :: .long tL :: .ref aK :: .ref aP :: .ref aQ :: .ref aT :: .ref aW :: .ref aO :: .ref aM :: .ref aL :: .ref aH :: .ref aI :: .ref aS :: .ref aR :: .ref aX :: .ref aF :: .ref aY :: .ref aJ :: .long tl :: .long tg :: .int (bI tB) :: .int tM :: .int tb :: .long tv :: .long tw :: .long tT :: .long tr :: .long tm :: .long tf :: .ref aG :: .ref aE :: .ref aU :: [])))]) 0 0 := by
  refine met_V (own := R_T) (nm := "tell") (by decide +kernel) rfl rfl (Nat.le_of_ble_eq_true rfl) ?_
  intro κ hl hD hz X Y
  subst hl
  subst hD
  subst hz
  show V κ 5 0 0 0 [(0, .ref m), (1, .int s), (2, .int x), (3, .int y), (4, .int t)] [] [(m, .inr (5, (.int (nI tS) :: .int tD :: .int tE :: .long tN :: .int (bI tA) :: .long tL :: .ref aK :: .ref aP :: .ref aQ :: .ref aT :: .ref aW :: .ref aO :: .ref aM :: .ref aL :: .ref aH :: .ref aI :: .ref aS :: .ref aR :: .ref aX :: .ref aF :: .ref aY :: .ref aJ :: .long tl :: .long tg :: .int (bI tB) :: .int tM :: .int tb :: .long tv :: .long tw :: .long tT :: .long tr :: .long tm :: .long tf :: .ref aG :: .ref aE :: .ref aU :: [])))]
  refine v_aload_n X 0 d_T_tell_0 rfl ?_
  refine v_iload_n X 1 d_T_tell_1 rfl ?_
  refine v_callV X (b := m) (k := 0) (n := 0) (n9 := 1) (As := [.int s]) (rest := []) (wc := [(m, .inr (5, (.int (nI tS) :: .int tD :: .int tE :: .long tN :: .int (bI tA) :: .long tL :: .ref aK :: .ref aP :: .ref aQ :: .ref aT :: .ref aW :: .ref aO :: .ref aM :: .ref aL :: .ref aH :: .ref aI :: .ref aS :: .ref aR :: .ref aX :: .ref aF :: .ref aY :: .ref aJ :: .long tl :: .long tg :: .int (bI tB) :: .int tM :: .int tb :: .long tv :: .long tw :: .long tT :: .long tr :: .long tm :: .long tf :: .ref aG :: .ref aE :: .ref aU :: [])))]) (wr := []) (c_T_isServerB κ.l κ.D κ.z m tS tD tE tN tA tL aK aP aQ aT aW aO aM aL aH aI aS aR aX aF aY aJ tl tg tB tM tb tv tw tT tr tm tf aG aE aU s hb9) 0 rfl rfl m513 m514 m16 m36 (by decide +kernel) rfl (Nat.le_of_ble_eq_true rfl) ⟨by decide, by decide⟩ ⟨by decide, by decide⟩ rfl rfl m515 d_T_tell_2 (fun v w1 hg => ?_)
  obtain ⟨rfl, rfl⟩ := hg
  show V κ 5 0 0 5 [(0, .ref m), (1, .int s), (2, .int x), (3, .int y), (4, .int t)] [.int (bI false)] [(m, .inr (5, (.int (nI tS) :: .int tD :: .int tE :: .long tN :: .int (bI tA) :: .long tL :: .ref aK :: .ref aP :: .ref aQ :: .ref aT :: .ref aW :: .ref aO :: .ref aM :: .ref aL :: .ref aH :: .ref aI :: .ref aS :: .ref aR :: .ref aX :: .ref aF :: .ref aY :: .ref aJ :: .long tl :: .long tg :: .int (bI tB) :: .int tM :: .int tb :: .long tv :: .long tw :: .long tT :: .long tr :: .long tm :: .long tf :: .ref aG :: .ref aE :: .ref aU :: [])))]
  refine v_ifB_eq X 31 (t := false) d_T_tell_5 (by decide) (fun c5 => ?_) (fun c5 => absurd c5 (by decide))
  refine v_iconst X 0 d_T_tell_31 (by decide) ?_
  exact v_zret X Y (by decide) (by decide) d_T_tell_32 rfl ⟨rfl, rfl⟩

def tShf (gL : Nat → Int64) (gH : Nat → Int64) (gI : Nat → Int64) (i : Nat) (s : Nat) : Nat → (Nat → Int64) × (Nat → Int64) × (Nat → Int64)
  | 0 => (gL, gH, gI)
  | j + 1 => (vp_updL ((tShf gL gH gI i s j).1) (8 * i + s - 1 - j) (((tShf gL gH gI i s j).1) ((8 * i + s - 1 - j) - 1)), vp_updL ((tShf gL gH gI i s j).2.1) (8 * i + s - 1 - j) (((tShf gL gH gI i s j).2.1) ((8 * i + s - 1 - j) - 1)), vp_updL ((tShf gL gH gI i s j).2.2) (8 * i + s - 1 - j) (((tShf gL gH gI i s j).2.2) ((8 * i + s - 1 - j) - 1)))
set_option maxHeartbeats 4000000 in
set_option maxRecDepth 100000 in
theorem lp_T_reply {κ : VC} (X : Cx κ b_T_reply R_T { frames := 3, cells := 0, slots := 0, locals := 87 } 11) (m : Nat) (tS : Nat) (tD : Int32) (tE : Int32) (tN : Int64) (tA : Bool) (tL : Int64) (aK : Nat) (aP : Nat) (aQ : Nat) (aT : Nat) (aW : Nat) (aO : Nat) (aM : Nat) (aL : Nat) (aH : Nat) (aI : Nat) (aS : Nat) (aR : Nat) (aX : Nat) (aF : Nat) (aY : Nat) (aJ : Nat) (tl : Int64) (tg : Int64) (tB : Bool) (tM : Int32) (tb : Int32) (tv : Int64) (tw : Int64) (tT : Int64) (tr : Int64) (tm : Int64) (tf : Int64) (aG : Nat) (aE : Nat) (aU : Nat) (gK : Nat → Int64) (gP : Nat → Bool) (gQ : Nat → Int64) (gT : Nat → Int64) (gW : Nat → Bool) (gO : Nat → Int64) (gM : Nat → Nat) (gL : Nat → Int64) (gH : Nat → Int64) (gI : Nat → Int64) (i : Nat) (s : Nat) (y : Int64) (t : Int64) (hi6 : i < 6) (hs1 : 1 ≤ s) (hs8 : s ≤ 8)  (kk : V κ 11 0 0 161 [(10, .int (nI (8 * i + s - 1 - (s - 1)))), (0, .ref m), (1, .int (nI i)), (4, .long y), (6, .long t)] [] [(m, .inr (5, (.int (nI tS) :: .int tD :: .int tE :: .long tN :: .int (bI tA) :: .long tL :: .ref aK :: .ref aP :: .ref aQ :: .ref aT :: .ref aW :: .ref aO :: .ref aM :: .ref aL :: .ref aH :: .ref aI :: .ref aS :: .ref aR :: .ref aX :: .ref aF :: .ref aY :: .ref aJ :: .long tl :: .long tg :: .int (bI tB) :: .int tM :: .int tb :: .long tv :: .long tw :: .long tT :: .long tr :: .long tm :: .long tf :: .ref aG :: .ref aE :: .ref aU :: []))), (aK, .inl (κ.z 1, 6, .inr (.inl gK))), (aP, .inl (κ.z 2, 6, .inl (aB gP))), (aQ, .inl (κ.z 1, 6, .inr (.inl gQ))), (aT, .inl (κ.z 1, 6, .inr (.inl gT))), (aW, .inl (κ.z 2, 6, .inl (aB gW))), (aO, .inl (κ.z 1, 6, .inr (.inl gO))), (aM, .inl (κ.z 0, 6, .inl (aN gM))), (aL, .inl (κ.z 1, 48, .inr (.inl ((tShf gL gH gI i s (s - 1)).1)))), (aH, .inl (κ.z 1, 48, .inr (.inl ((tShf gL gH gI i s (s - 1)).2.1)))), (aI, .inl (κ.z 1, 48, .inr (.inl ((tShf gL gH gI i s (s - 1)).2.2))))]) : ∀ (d9 j : Nat), j + d9 = s - 1 → V κ 11 0 0 98 [(10, .int (nI (8 * i + s - 1 - j))), (0, .ref m), (1, .int (nI i)), (4, .long y), (6, .long t)] [] [(m, .inr (5, (.int (nI tS) :: .int tD :: .int tE :: .long tN :: .int (bI tA) :: .long tL :: .ref aK :: .ref aP :: .ref aQ :: .ref aT :: .ref aW :: .ref aO :: .ref aM :: .ref aL :: .ref aH :: .ref aI :: .ref aS :: .ref aR :: .ref aX :: .ref aF :: .ref aY :: .ref aJ :: .long tl :: .long tg :: .int (bI tB) :: .int tM :: .int tb :: .long tv :: .long tw :: .long tT :: .long tr :: .long tm :: .long tf :: .ref aG :: .ref aE :: .ref aU :: []))), (aK, .inl (κ.z 1, 6, .inr (.inl gK))), (aP, .inl (κ.z 2, 6, .inl (aB gP))), (aQ, .inl (κ.z 1, 6, .inr (.inl gQ))), (aT, .inl (κ.z 1, 6, .inr (.inl gT))), (aW, .inl (κ.z 2, 6, .inl (aB gW))), (aO, .inl (κ.z 1, 6, .inr (.inl gO))), (aM, .inl (κ.z 0, 6, .inl (aN gM))), (aL, .inl (κ.z 1, 48, .inr (.inl ((tShf gL gH gI i s j).1)))), (aH, .inl (κ.z 1, 48, .inr (.inl ((tShf gL gH gI i s j).2.1)))), (aI, .inl (κ.z 1, 48, .inr (.inl ((tShf gL gH gI i s j).2.2))))] := by
  intro d9
  induction d9 with
  | zero =>
    intro j hj 
    have e9 : j = s - 1 := by omega
    rw [e9]
    show V κ 11 0 0 98 [(10, .int (nI (8 * i + s - 1 - (s - 1)))), (0, .ref m), (1, .int (nI i)), (4, .long y), (6, .long t)] [] [(m, .inr (5, (.int (nI tS) :: .int tD :: .int tE :: .long tN :: .int (bI tA) :: .long tL :: .ref aK :: .ref aP :: .ref aQ :: .ref aT :: .ref aW :: .ref aO :: .ref aM :: .ref aL :: .ref aH :: .ref aI :: .ref aS :: .ref aR :: .ref aX :: .ref aF :: .ref aY :: .ref aJ :: .long tl :: .long tg :: .int (bI tB) :: .int tM :: .int tb :: .long tv :: .long tw :: .long tT :: .long tr :: .long tm :: .long tf :: .ref aG :: .ref aE :: .ref aU :: []))), (aK, .inl (κ.z 1, 6, .inr (.inl gK))), (aP, .inl (κ.z 2, 6, .inl (aB gP))), (aQ, .inl (κ.z 1, 6, .inr (.inl gQ))), (aT, .inl (κ.z 1, 6, .inr (.inl gT))), (aW, .inl (κ.z 2, 6, .inl (aB gW))), (aO, .inl (κ.z 1, 6, .inr (.inl gO))), (aM, .inl (κ.z 0, 6, .inl (aN gM))), (aL, .inl (κ.z 1, 48, .inr (.inl ((tShf gL gH gI i s (s - 1)).1)))), (aH, .inl (κ.z 1, 48, .inr (.inl ((tShf gL gH gI i s (s - 1)).2.1)))), (aI, .inl (κ.z 1, 48, .inr (.inl ((tShf gL gH gI i s (s - 1)).2.2))))]
    refine v_iload X 0 d_T_reply_98 rfl ?_
    refine v_bipush X 8 d_T_reply_100 (by decide) ?_
    refine v_iload_n X 2 d_T_reply_102 rfl ?_
    refine v_imulN X (a := 8) (b := i) d_T_reply_103 ?_
    refine v_icmpN_le X 161 (a := (8 * i + s - 1 - (s - 1))) (b := (8 * i)) d_T_reply_104 (by decide) (by omega) (by omega) (fun c104 => ?_) (fun c104 => by omega)
    exact kk
  | succ d9 ih =>
    intro j hj 
    show V κ 11 0 0 98 [(10, .int (nI (8 * i + s - 1 - j))), (0, .ref m), (1, .int (nI i)), (4, .long y), (6, .long t)] [] [(m, .inr (5, (.int (nI tS) :: .int tD :: .int tE :: .long tN :: .int (bI tA) :: .long tL :: .ref aK :: .ref aP :: .ref aQ :: .ref aT :: .ref aW :: .ref aO :: .ref aM :: .ref aL :: .ref aH :: .ref aI :: .ref aS :: .ref aR :: .ref aX :: .ref aF :: .ref aY :: .ref aJ :: .long tl :: .long tg :: .int (bI tB) :: .int tM :: .int tb :: .long tv :: .long tw :: .long tT :: .long tr :: .long tm :: .long tf :: .ref aG :: .ref aE :: .ref aU :: []))), (aK, .inl (κ.z 1, 6, .inr (.inl gK))), (aP, .inl (κ.z 2, 6, .inl (aB gP))), (aQ, .inl (κ.z 1, 6, .inr (.inl gQ))), (aT, .inl (κ.z 1, 6, .inr (.inl gT))), (aW, .inl (κ.z 2, 6, .inl (aB gW))), (aO, .inl (κ.z 1, 6, .inr (.inl gO))), (aM, .inl (κ.z 0, 6, .inl (aN gM))), (aL, .inl (κ.z 1, 48, .inr (.inl ((tShf gL gH gI i s j).1)))), (aH, .inl (κ.z 1, 48, .inr (.inl ((tShf gL gH gI i s j).2.1)))), (aI, .inl (κ.z 1, 48, .inr (.inl ((tShf gL gH gI i s j).2.2))))]
    refine v_iload X 0 d_T_reply_98 rfl ?_
    refine v_bipush X 8 d_T_reply_100 (by decide) ?_
    refine v_iload_n X 2 d_T_reply_102 rfl ?_
    refine v_imulN X (a := 8) (b := i) d_T_reply_103 ?_
    refine v_icmpN_le X 161 (a := (8 * i + s - 1 - j)) (b := (8 * i)) d_T_reply_104 (by decide) (by omega) (by omega) (fun c104 => by omega) (fun c104 => ?_)
    refine v_aload_n X 1 d_T_reply_107 rfl ?_
    refine v_get X 0 13 rfl rfl li_T (by decide) m440 rfl d_T_reply_108 ?_
    refine v_iload X 0 d_T_reply_111 rfl ?_
    refine v_aload_n X 1 d_T_reply_113 rfl ?_
    refine v_get X 0 13 rfl rfl li_T (by decide) m440 rfl d_T_reply_114 ?_
    refine v_iload X 0 d_T_reply_117 rfl ?_
    refine v_iconst X 1 d_T_reply_119 (by decide) ?_
    refine v_isubN X (a := (8 * i + s - 1 - j)) (b := 1) d_T_reply_120 (by omega) ?_
    refine v_laldN X 8 1 (j := ((8 * i + s - 1 - j) - 1)) rfl rfl (by omega) (by omega) d_T_reply_121 ?_
    show V κ 11 0 0 122 [(10, .int (nI (8 * i + s - 1 - j))), (0, .ref m), (1, .int (nI i)), (4, .long y), (6, .long t)] [.long (((tShf gL gH gI i s j).1) ((8 * i + s - 1 - j) - 1)), .int (nI (8 * i + s - 1 - j)), .ref aL] [(m, .inr (5, (.int (nI tS) :: .int tD :: .int tE :: .long tN :: .int (bI tA) :: .long tL :: .ref aK :: .ref aP :: .ref aQ :: .ref aT :: .ref aW :: .ref aO :: .ref aM :: .ref aL :: .ref aH :: .ref aI :: .ref aS :: .ref aR :: .ref aX :: .ref aF :: .ref aY :: .ref aJ :: .long tl :: .long tg :: .int (bI tB) :: .int tM :: .int tb :: .long tv :: .long tw :: .long tT :: .long tr :: .long tm :: .long tf :: .ref aG :: .ref aE :: .ref aU :: []))), (aK, .inl (κ.z 1, 6, .inr (.inl gK))), (aP, .inl (κ.z 2, 6, .inl (aB gP))), (aQ, .inl (κ.z 1, 6, .inr (.inl gQ))), (aT, .inl (κ.z 1, 6, .inr (.inl gT))), (aW, .inl (κ.z 2, 6, .inl (aB gW))), (aO, .inl (κ.z 1, 6, .inr (.inl gO))), (aM, .inl (κ.z 0, 6, .inl (aN gM))), (aL, .inl (κ.z 1, 48, .inr (.inl ((tShf gL gH gI i s j).1)))), (aH, .inl (κ.z 1, 48, .inr (.inl ((tShf gL gH gI i s j).2.1)))), (aI, .inl (κ.z 1, 48, .inr (.inl ((tShf gL gH gI i s j).2.2))))]
    refine v_lastN X 8 1 (j := (8 * i + s - 1 - j)) (x := (((tShf gL gH gI i s j).1) ((8 * i + s - 1 - j) - 1))) rfl rfl (by omega) (by omega) d_T_reply_122 (ws' := [(m, .inr (5, (.int (nI tS) :: .int tD :: .int tE :: .long tN :: .int (bI tA) :: .long tL :: .ref aK :: .ref aP :: .ref aQ :: .ref aT :: .ref aW :: .ref aO :: .ref aM :: .ref aL :: .ref aH :: .ref aI :: .ref aS :: .ref aR :: .ref aX :: .ref aF :: .ref aY :: .ref aJ :: .long tl :: .long tg :: .int (bI tB) :: .int tM :: .int tb :: .long tv :: .long tw :: .long tT :: .long tr :: .long tm :: .long tf :: .ref aG :: .ref aE :: .ref aU :: []))), (aK, .inl (κ.z 1, 6, .inr (.inl gK))), (aP, .inl (κ.z 2, 6, .inl (aB gP))), (aQ, .inl (κ.z 1, 6, .inr (.inl gQ))), (aT, .inl (κ.z 1, 6, .inr (.inl gT))), (aW, .inl (κ.z 2, 6, .inl (aB gW))), (aO, .inl (κ.z 1, 6, .inr (.inl gO))), (aM, .inl (κ.z 0, 6, .inl (aN gM))), (aL, .inl (κ.z 1, 48, .inr (.inl (vp_updL ((tShf gL gH gI i s j).1) (8 * i + s - 1 - j) (((tShf gL gH gI i s j).1) ((8 * i + s - 1 - j) - 1)))))), (aH, .inl (κ.z 1, 48, .inr (.inl ((tShf gL gH gI i s j).2.1)))), (aI, .inl (κ.z 1, 48, .inr (.inl ((tShf gL gH gI i s j).2.2))))]) rfl ?_
    refine v_aload_n X 1 d_T_reply_123 rfl ?_
    refine v_get X 0 14 rfl rfl li_T (by decide) m441 rfl d_T_reply_124 ?_
    refine v_iload X 0 d_T_reply_127 rfl ?_
    refine v_aload_n X 1 d_T_reply_129 rfl ?_
    refine v_get X 0 14 rfl rfl li_T (by decide) m441 rfl d_T_reply_130 ?_
    refine v_iload X 0 d_T_reply_133 rfl ?_
    refine v_iconst X 1 d_T_reply_135 (by decide) ?_
    refine v_isubN X (a := (8 * i + s - 1 - j)) (b := 1) d_T_reply_136 (by omega) ?_
    refine v_laldN X 9 1 (j := ((8 * i + s - 1 - j) - 1)) rfl rfl (by omega) (by omega) d_T_reply_137 ?_
    refine v_lastN X 9 1 (j := (8 * i + s - 1 - j)) (x := (((tShf gL gH gI i s j).2.1) ((8 * i + s - 1 - j) - 1))) rfl rfl (by omega) (by omega) d_T_reply_138 (ws' := [(m, .inr (5, (.int (nI tS) :: .int tD :: .int tE :: .long tN :: .int (bI tA) :: .long tL :: .ref aK :: .ref aP :: .ref aQ :: .ref aT :: .ref aW :: .ref aO :: .ref aM :: .ref aL :: .ref aH :: .ref aI :: .ref aS :: .ref aR :: .ref aX :: .ref aF :: .ref aY :: .ref aJ :: .long tl :: .long tg :: .int (bI tB) :: .int tM :: .int tb :: .long tv :: .long tw :: .long tT :: .long tr :: .long tm :: .long tf :: .ref aG :: .ref aE :: .ref aU :: []))), (aK, .inl (κ.z 1, 6, .inr (.inl gK))), (aP, .inl (κ.z 2, 6, .inl (aB gP))), (aQ, .inl (κ.z 1, 6, .inr (.inl gQ))), (aT, .inl (κ.z 1, 6, .inr (.inl gT))), (aW, .inl (κ.z 2, 6, .inl (aB gW))), (aO, .inl (κ.z 1, 6, .inr (.inl gO))), (aM, .inl (κ.z 0, 6, .inl (aN gM))), (aL, .inl (κ.z 1, 48, .inr (.inl (vp_updL ((tShf gL gH gI i s j).1) (8 * i + s - 1 - j) (((tShf gL gH gI i s j).1) ((8 * i + s - 1 - j) - 1)))))), (aH, .inl (κ.z 1, 48, .inr (.inl (vp_updL ((tShf gL gH gI i s j).2.1) (8 * i + s - 1 - j) (((tShf gL gH gI i s j).2.1) ((8 * i + s - 1 - j) - 1)))))), (aI, .inl (κ.z 1, 48, .inr (.inl ((tShf gL gH gI i s j).2.2))))]) rfl ?_
    refine v_aload_n X 1 d_T_reply_139 rfl ?_
    refine v_get X 0 15 rfl rfl li_T (by decide) m442 rfl d_T_reply_140 ?_
    refine v_iload X 0 d_T_reply_143 rfl ?_
    refine v_aload_n X 1 d_T_reply_145 rfl ?_
    show V κ 11 0 0 146 [(10, .int (nI (8 * i + s - 1 - j))), (0, .ref m), (1, .int (nI i)), (4, .long y), (6, .long t)] [.ref m, .int (nI (8 * i + s - 1 - j)), .ref aI] [(m, .inr (5, (.int (nI tS) :: .int tD :: .int tE :: .long tN :: .int (bI tA) :: .long tL :: .ref aK :: .ref aP :: .ref aQ :: .ref aT :: .ref aW :: .ref aO :: .ref aM :: .ref aL :: .ref aH :: .ref aI :: .ref aS :: .ref aR :: .ref aX :: .ref aF :: .ref aY :: .ref aJ :: .long tl :: .long tg :: .int (bI tB) :: .int tM :: .int tb :: .long tv :: .long tw :: .long tT :: .long tr :: .long tm :: .long tf :: .ref aG :: .ref aE :: .ref aU :: []))), (aK, .inl (κ.z 1, 6, .inr (.inl gK))), (aP, .inl (κ.z 2, 6, .inl (aB gP))), (aQ, .inl (κ.z 1, 6, .inr (.inl gQ))), (aT, .inl (κ.z 1, 6, .inr (.inl gT))), (aW, .inl (κ.z 2, 6, .inl (aB gW))), (aO, .inl (κ.z 1, 6, .inr (.inl gO))), (aM, .inl (κ.z 0, 6, .inl (aN gM))), (aL, .inl (κ.z 1, 48, .inr (.inl (vp_updL ((tShf gL gH gI i s j).1) (8 * i + s - 1 - j) (((tShf gL gH gI i s j).1) ((8 * i + s - 1 - j) - 1)))))), (aH, .inl (κ.z 1, 48, .inr (.inl (vp_updL ((tShf gL gH gI i s j).2.1) (8 * i + s - 1 - j) (((tShf gL gH gI i s j).2.1) ((8 * i + s - 1 - j) - 1)))))), (aI, .inl (κ.z 1, 48, .inr (.inl ((tShf gL gH gI i s j).2.2))))]
    refine v_get X 0 15 rfl rfl li_T (by decide) m442 rfl d_T_reply_146 ?_
    refine v_iload X 0 d_T_reply_149 rfl ?_
    refine v_iconst X 1 d_T_reply_151 (by decide) ?_
    refine v_isubN X (a := (8 * i + s - 1 - j)) (b := 1) d_T_reply_152 (by omega) ?_
    refine v_laldN X 10 1 (j := ((8 * i + s - 1 - j) - 1)) rfl rfl (by omega) (by omega) d_T_reply_153 ?_
    refine v_lastN X 10 1 (j := (8 * i + s - 1 - j)) (x := (((tShf gL gH gI i s j).2.2) ((8 * i + s - 1 - j) - 1))) rfl rfl (by omega) (by omega) d_T_reply_154 (ws' := [(m, .inr (5, (.int (nI tS) :: .int tD :: .int tE :: .long tN :: .int (bI tA) :: .long tL :: .ref aK :: .ref aP :: .ref aQ :: .ref aT :: .ref aW :: .ref aO :: .ref aM :: .ref aL :: .ref aH :: .ref aI :: .ref aS :: .ref aR :: .ref aX :: .ref aF :: .ref aY :: .ref aJ :: .long tl :: .long tg :: .int (bI tB) :: .int tM :: .int tb :: .long tv :: .long tw :: .long tT :: .long tr :: .long tm :: .long tf :: .ref aG :: .ref aE :: .ref aU :: []))), (aK, .inl (κ.z 1, 6, .inr (.inl gK))), (aP, .inl (κ.z 2, 6, .inl (aB gP))), (aQ, .inl (κ.z 1, 6, .inr (.inl gQ))), (aT, .inl (κ.z 1, 6, .inr (.inl gT))), (aW, .inl (κ.z 2, 6, .inl (aB gW))), (aO, .inl (κ.z 1, 6, .inr (.inl gO))), (aM, .inl (κ.z 0, 6, .inl (aN gM))), (aL, .inl (κ.z 1, 48, .inr (.inl (vp_updL ((tShf gL gH gI i s j).1) (8 * i + s - 1 - j) (((tShf gL gH gI i s j).1) ((8 * i + s - 1 - j) - 1)))))), (aH, .inl (κ.z 1, 48, .inr (.inl (vp_updL ((tShf gL gH gI i s j).2.1) (8 * i + s - 1 - j) (((tShf gL gH gI i s j).2.1) ((8 * i + s - 1 - j) - 1)))))), (aI, .inl (κ.z 1, 48, .inr (.inl (vp_updL ((tShf gL gH gI i s j).2.2) (8 * i + s - 1 - j) (((tShf gL gH gI i s j).2.2) ((8 * i + s - 1 - j) - 1))))))]) rfl ?_
    refine v_iinc X 0 d_T_reply_155 (x := nI (8 * i + s - 1 - j)) rfl (v := nI ((8 * i + s - 1 - j) - 1)) (nI_m1 (by omega)) (by decide) (lv' := [(10, .int (nI ((8 * i + s - 1 - j) - 1))), (0, .ref m), (1, .int (nI i)), (4, .long y), (6, .long t)]) rfl ?_
    refine v_goto X 98 d_T_reply_158 (by decide) ?_
    exact v_eq rfl (by rw [show 8 * i + s - 1 - j - 1 = 8 * i + s - 1 - (j + 1) by omega]) rfl (by rfl) (ih (j + 1) (by omega))

def f_T_replyG (tN : Int64) (gK : Nat → Int64) (gP : Nat → Bool) (gQ : Nat → Int64) (gT : Nat → Int64) (gW : Nat → Bool) (gO : Nat → Int64) (gM : Nat → Nat) (i : Nat) (x : Int64) (y : Int64) (t : Int64) (u : Int32) : Int32 := if (f_T_why tN gK gP gQ gT gW gO i x y t u) = 0 then (nI (if (gM i) = 8 then 8 else ((gM i) + 1))) else (f_T_why tN gK gP gQ gT gW gO i x y t u)
def f_T_replyG_r2 (tN : Int64) (gK : Nat → Int64) (gP : Nat → Bool) (gQ : Nat → Int64) (gT : Nat → Int64) (gW : Nat → Bool) (gO : Nat → Int64) (i : Nat) (x : Int64) (y : Int64) (t : Int64) (u : Int32) : Nat → Bool := if (f_T_why tN gK gP gQ gT gW gO i x y t u) = 0 then (va_up gP i false) else gP
def f_T_replyG_r5 (tN : Int64) (gK : Nat → Int64) (gP : Nat → Bool) (gQ : Nat → Int64) (gT : Nat → Int64) (gW : Nat → Bool) (gO : Nat → Int64) (i : Nat) (x : Int64) (y : Int64) (t : Int64) (u : Int32) : Nat → Bool := if (f_T_why tN gK gP gQ gT gW gO i x y t u) = 0 then (va_up gW i true) else gW
def f_T_replyG_r6 (tN : Int64) (gK : Nat → Int64) (gP : Nat → Bool) (gQ : Nat → Int64) (gT : Nat → Int64) (gW : Nat → Bool) (gO : Nat → Int64) (i : Nat) (x : Int64) (y : Int64) (t : Int64) (u : Int32) : Nat → Int64 := if (f_T_why tN gK gP gQ gT gW gO i x y t u) = 0 then (vp_updL gO i x) else gO
def f_T_replyG_r7 (tN : Int64) (gK : Nat → Int64) (gP : Nat → Bool) (gQ : Nat → Int64) (gT : Nat → Int64) (gW : Nat → Bool) (gO : Nat → Int64) (gM : Nat → Nat) (i : Nat) (x : Int64) (y : Int64) (t : Int64) (u : Int32) : Nat → Nat := if (f_T_why tN gK gP gQ gT gW gO i x y t u) = 0 then (va_up gM i (if (gM i) = 8 then 8 else ((gM i) + 1))) else gM
def f_T_replyG_r8 (tN : Int64) (gK : Nat → Int64) (gP : Nat → Bool) (gQ : Nat → Int64) (gT : Nat → Int64) (gW : Nat → Bool) (gO : Nat → Int64) (gM : Nat → Nat) (gL : Nat → Int64) (gH : Nat → Int64) (gI : Nat → Int64) (i : Nat) (x : Int64) (y : Int64) (t : Int64) (u : Int32) : Nat → Int64 := if (f_T_why tN gK gP gQ gT gW gO i x y t u) = 0 then vp_updL ((tShf gL gH gI i (if (gM i) = 8 then 8 else ((gM i) + 1)) ((if (gM i) = 8 then 8 else ((gM i) + 1)) - 1)).1) (8 * i) (t - tN) else gL
def f_T_replyG_r9 (tN : Int64) (gK : Nat → Int64) (gP : Nat → Bool) (gQ : Nat → Int64) (gT : Nat → Int64) (gW : Nat → Bool) (gO : Nat → Int64) (gM : Nat → Nat) (gL : Nat → Int64) (gH : Nat → Int64) (gI : Nat → Int64) (i : Nat) (x : Int64) (y : Int64) (t : Int64) (u : Int32) : Nat → Int64 := if (f_T_why tN gK gP gQ gT gW gO i x y t u) = 0 then vp_updL ((tShf gL gH gI i (if (gM i) = 8 then 8 else ((gM i) + 1)) ((if (gM i) = 8 then 8 else ((gM i) + 1)) - 1)).2.1) (8 * i) (y - (gQ i)) else gH
def f_T_replyG_r10 (tN : Int64) (gK : Nat → Int64) (gP : Nat → Bool) (gQ : Nat → Int64) (gT : Nat → Int64) (gW : Nat → Bool) (gO : Nat → Int64) (gM : Nat → Nat) (gL : Nat → Int64) (gH : Nat → Int64) (gI : Nat → Int64) (i : Nat) (x : Int64) (y : Int64) (t : Int64) (u : Int32) : Nat → Int64 := if (f_T_why tN gK gP gQ gT gW gO i x y t u) = 0 then vp_updL ((tShf gL gH gI i (if (gM i) = 8 then 8 else ((gM i) + 1)) ((if (gM i) = 8 then 8 else ((gM i) + 1)) - 1)).2.2) (8 * i) tN else gI
set_option maxHeartbeats 4000000 in
set_option maxRecDepth 100000 in
theorem c_T_replyG (l : Launch) (D : va_G) (z : Nat → ClassId) (m : Nat) (tS : Nat) (tD : Int32) (tE : Int32) (tN : Int64) (tA : Bool) (tL : Int64) (aK : Nat) (aP : Nat) (aQ : Nat) (aT : Nat) (aW : Nat) (aO : Nat) (aM : Nat) (aL : Nat) (aH : Nat) (aI : Nat) (aS : Nat) (aR : Nat) (aX : Nat) (aF : Nat) (aY : Nat) (aJ : Nat) (tl : Int64) (tg : Int64) (tB : Bool) (tM : Int32) (tb : Int32) (tv : Int64) (tw : Int64) (tT : Int64) (tr : Int64) (tm : Int64) (tf : Int64) (aG : Nat) (aE : Nat) (aU : Nat) (gK : Nat → Int64) (gP : Nat → Bool) (gQ : Nat → Int64) (gT : Nat → Int64) (gW : Nat → Bool) (gO : Nat → Int64) (gM : Nat → Nat) (gL : Nat → Int64) (gH : Nat → Int64) (gI : Nat → Int64) (i : Nat) (x : Int64) (y : Int64) (t : Int64) (u : Int32) (h6 : tS ≤ 6) (hi9 : i < tS) (hs8 : gM i ≤ 8) : Ctr l D z y_T_reply b_T_reply 11 (some .int) { frames := 3, cells := 0, slots := 0, locals := 87 } [.ref m, .int (nI i), .long x, .long y, .long t, .int u] [(m, .inr (5, (.int (nI tS) :: .int tD :: .int tE :: .long tN :: .int (bI tA) :: .long tL :: .ref aK :: .ref aP :: .ref aQ :: .ref aT :: .ref aW :: .ref aO :: .ref aM :: .ref aL :: .ref aH :: .ref aI :: .ref aS :: .ref aR :: .ref aX :: .ref aF :: .ref aY :: .ref aJ :: .long tl :: .long tg :: .int (bI tB) :: .int tM :: .int tb :: .long tv :: .long tw :: .long tT :: .long tr :: .long tm :: .long tf :: .ref aG :: .ref aE :: .ref aU :: []))), (aK, .inl (z 1, 6, .inr (.inl gK))), (aP, .inl (z 2, 6, .inl (aB gP))), (aQ, .inl (z 1, 6, .inr (.inl gQ))), (aT, .inl (z 1, 6, .inr (.inl gT))), (aW, .inl (z 2, 6, .inl (aB gW))), (aO, .inl (z 1, 6, .inr (.inl gO))), (aM, .inl (z 0, 6, .inl (aN gM))), (aL, .inl (z 1, 48, .inr (.inl gL))), (aH, .inl (z 1, 48, .inr (.inl gH))), (aI, .inl (z 1, 48, .inr (.inl gI)))] (fun v w => v = some (.int (f_T_replyG tN gK gP gQ gT gW gO gM i x y t u)) ∧ w = [(m, .inr (5, (.int (nI tS) :: .int tD :: .int tE :: .long tN :: .int (bI tA) :: .long tL :: .ref aK :: .ref aP :: .ref aQ :: .ref aT :: .ref aW :: .ref aO :: .ref aM :: .ref aL :: .ref aH :: .ref aI :: .ref aS :: .ref aR :: .ref aX :: .ref aF :: .ref aY :: .ref aJ :: .long tl :: .long tg :: .int (bI tB) :: .int tM :: .int tb :: .long tv :: .long tw :: .long tT :: .long tr :: .long tm :: .long tf :: .ref aG :: .ref aE :: .ref aU :: []))), (aK, .inl (z 1, 6, .inr (.inl gK))), (aP, .inl (z 2, 6, .inl (aB (f_T_replyG_r2 tN gK gP gQ gT gW gO i x y t u)))), (aQ, .inl (z 1, 6, .inr (.inl gQ))), (aT, .inl (z 1, 6, .inr (.inl gT))), (aW, .inl (z 2, 6, .inl (aB (f_T_replyG_r5 tN gK gP gQ gT gW gO i x y t u)))), (aO, .inl (z 1, 6, .inr (.inl (f_T_replyG_r6 tN gK gP gQ gT gW gO i x y t u)))), (aM, .inl (z 0, 6, .inl (aN (f_T_replyG_r7 tN gK gP gQ gT gW gO gM i x y t u)))), (aL, .inl (z 1, 48, .inr (.inl (f_T_replyG_r8 tN gK gP gQ gT gW gO gM gL gH gI i x y t u)))), (aH, .inl (z 1, 48, .inr (.inl (f_T_replyG_r9 tN gK gP gQ gT gW gO gM gL gH gI i x y t u)))), (aI, .inl (z 1, 48, .inr (.inl (f_T_replyG_r10 tN gK gP gQ gT gW gO gM gL gH gI i x y t u))))]) 0 0 := by
  refine met_V (own := R_T) (nm := "reply") (by decide +kernel) rfl rfl (Nat.le_of_ble_eq_true rfl) ?_
  intro κ hl hD hz X Y
  subst hl
  subst hD
  subst hz
  have hsg : 1 ≤ (if gM i = 8 then 8 else gM i + 1) ∧ (if gM i = 8 then 8 else gM i + 1) ≤ 8 := by split <;> omega
  show V κ 11 0 0 0 [(0, .ref m), (1, .int (nI i)), (2, .long x), (4, .long y), (6, .long t), (8, .int u)] [] [(m, .inr (5, (.int (nI tS) :: .int tD :: .int tE :: .long tN :: .int (bI tA) :: .long tL :: .ref aK :: .ref aP :: .ref aQ :: .ref aT :: .ref aW :: .ref aO :: .ref aM :: .ref aL :: .ref aH :: .ref aI :: .ref aS :: .ref aR :: .ref aX :: .ref aF :: .ref aY :: .ref aJ :: .long tl :: .long tg :: .int (bI tB) :: .int tM :: .int tb :: .long tv :: .long tw :: .long tT :: .long tr :: .long tm :: .long tf :: .ref aG :: .ref aE :: .ref aU :: []))), (aK, .inl (κ.z 1, 6, .inr (.inl gK))), (aP, .inl (κ.z 2, 6, .inl (aB gP))), (aQ, .inl (κ.z 1, 6, .inr (.inl gQ))), (aT, .inl (κ.z 1, 6, .inr (.inl gT))), (aW, .inl (κ.z 2, 6, .inl (aB gW))), (aO, .inl (κ.z 1, 6, .inr (.inl gO))), (aM, .inl (κ.z 0, 6, .inl (aN gM))), (aL, .inl (κ.z 1, 48, .inr (.inl gL))), (aH, .inl (κ.z 1, 48, .inr (.inl gH))), (aI, .inl (κ.z 1, 48, .inr (.inl gI)))]
  refine v_aload_n X 0 d_T_reply_0 rfl ?_
  refine v_iload_n X 1 d_T_reply_1 rfl ?_
  refine v_callV X (b := m) (k := 0) (n := 0) (n9 := 1) (As := [.int (nI i)]) (rest := []) (wc := [(m, .inr (5, (.int (nI tS) :: .int tD :: .int tE :: .long tN :: .int (bI tA) :: .long tL :: .ref aK :: .ref aP :: .ref aQ :: .ref aT :: .ref aW :: .ref aO :: .ref aM :: .ref aL :: .ref aH :: .ref aI :: .ref aS :: .ref aR :: .ref aX :: .ref aF :: .ref aY :: .ref aJ :: .long tl :: .long tg :: .int (bI tB) :: .int tM :: .int tb :: .long tv :: .long tw :: .long tT :: .long tr :: .long tm :: .long tf :: .ref aG :: .ref aE :: .ref aU :: [])))]) (wr := [(aK, .inl (κ.z 1, 6, .inr (.inl gK))), (aP, .inl (κ.z 2, 6, .inl (aB gP))), (aQ, .inl (κ.z 1, 6, .inr (.inl gQ))), (aT, .inl (κ.z 1, 6, .inr (.inl gT))), (aW, .inl (κ.z 2, 6, .inl (aB gW))), (aO, .inl (κ.z 1, 6, .inr (.inl gO))), (aM, .inl (κ.z 0, 6, .inl (aN gM))), (aL, .inl (κ.z 1, 48, .inr (.inl gL))), (aH, .inl (κ.z 1, 48, .inr (.inl gH))), (aI, .inl (κ.z 1, 48, .inr (.inl gI)))]) (c_T_isServerG κ.l κ.D κ.z m tS tD tE tN tA tL aK aP aQ aT aW aO aM aL aH aI aS aR aX aF aY aJ tl tg tB tM tb tv tw tT tr tm tf aG aE aU i h6 hi9) 0 rfl rfl m513 m514 m16 m36 (by decide +kernel) rfl (Nat.le_of_ble_eq_true rfl) ⟨by decide, by decide⟩ ⟨by decide, by decide⟩ rfl rfl m515 d_T_reply_2 (fun v w1 hg => ?_)
  obtain ⟨rfl, rfl⟩ := hg
  show V κ 11 0 0 5 [(0, .ref m), (1, .int (nI i)), (2, .long x), (4, .long y), (6, .long t), (8, .int u)] [.int (bI true)] [(m, .inr (5, (.int (nI tS) :: .int tD :: .int tE :: .long tN :: .int (bI tA) :: .long tL :: .ref aK :: .ref aP :: .ref aQ :: .ref aT :: .ref aW :: .ref aO :: .ref aM :: .ref aL :: .ref aH :: .ref aI :: .ref aS :: .ref aR :: .ref aX :: .ref aF :: .ref aY :: .ref aJ :: .long tl :: .long tg :: .int (bI tB) :: .int tM :: .int tb :: .long tv :: .long tw :: .long tT :: .long tr :: .long tm :: .long tf :: .ref aG :: .ref aE :: .ref aU :: []))), (aK, .inl (κ.z 1, 6, .inr (.inl gK))), (aP, .inl (κ.z 2, 6, .inl (aB gP))), (aQ, .inl (κ.z 1, 6, .inr (.inl gQ))), (aT, .inl (κ.z 1, 6, .inr (.inl gT))), (aW, .inl (κ.z 2, 6, .inl (aB gW))), (aO, .inl (κ.z 1, 6, .inr (.inl gO))), (aM, .inl (κ.z 0, 6, .inl (aN gM))), (aL, .inl (κ.z 1, 48, .inr (.inl gL))), (aH, .inl (κ.z 1, 48, .inr (.inl gH))), (aI, .inl (κ.z 1, 48, .inr (.inl gI)))]
  refine v_ifB_ne X 10 (t := true) d_T_reply_5 (by decide) (fun c5 => ?_) (fun c5 => absurd c5 (by decide))
  refine v_aload_n X 0 d_T_reply_10 rfl ?_
  refine v_iload_n X 1 d_T_reply_11 rfl ?_
  refine v_lload_n X 2 d_T_reply_12 rfl ?_
  refine v_lload X 3 d_T_reply_13 rfl ?_
  refine v_lload X 4 d_T_reply_15 rfl ?_
  refine v_iload X 5 d_T_reply_17 rfl ?_
  refine v_callV X (b := m) (k := 0) (n := 0) (n9 := 5) (As := [.int (nI i), .long x, .long y, .long t, .int u]) (rest := []) (wc := [(m, .inr (5, (.int (nI tS) :: .int tD :: .int tE :: .long tN :: .int (bI tA) :: .long tL :: .ref aK :: .ref aP :: .ref aQ :: .ref aT :: .ref aW :: .ref aO :: .ref aM :: .ref aL :: .ref aH :: .ref aI :: .ref aS :: .ref aR :: .ref aX :: .ref aF :: .ref aY :: .ref aJ :: .long tl :: .long tg :: .int (bI tB) :: .int tM :: .int tb :: .long tv :: .long tw :: .long tT :: .long tr :: .long tm :: .long tf :: .ref aG :: .ref aE :: .ref aU :: []))), (aK, .inl (κ.z 1, 6, .inr (.inl gK))), (aP, .inl (κ.z 2, 6, .inl (aB gP))), (aQ, .inl (κ.z 1, 6, .inr (.inl gQ))), (aT, .inl (κ.z 1, 6, .inr (.inl gT))), (aW, .inl (κ.z 2, 6, .inl (aB gW))), (aO, .inl (κ.z 1, 6, .inr (.inl gO)))]) (wr := [(aM, .inl (κ.z 0, 6, .inl (aN gM))), (aL, .inl (κ.z 1, 48, .inr (.inl gL))), (aH, .inl (κ.z 1, 48, .inr (.inl gH))), (aI, .inl (κ.z 1, 48, .inr (.inl gI)))]) (c_T_why κ.l κ.D κ.z m tS tD tE tN tA tL aK aP aQ aT aW aO aM aL aH aI aS aR aX aF aY aJ tl tg tB tM tb tv tw tT tr tm tf aG aE aU gK gP gQ gT gW gO i x y t u h6 hi9) 0 rfl rfl m533 m534 m17 m36 (by decide +kernel) rfl (Nat.le_of_ble_eq_true rfl) ⟨by decide, by decide⟩ ⟨by decide, by decide⟩ rfl rfl m535 d_T_reply_19 (fun v w1 hg => ?_)
  obtain ⟨rfl, rfl⟩ := hg
  show V κ 11 0 0 22 [(0, .ref m), (1, .int (nI i)), (2, .long x), (4, .long y), (6, .long t), (8, .int u)] [.int (f_T_why tN gK gP gQ gT gW gO i x y t u)] [(m, .inr (5, (.int (nI tS) :: .int tD :: .int tE :: .long tN :: .int (bI tA) :: .long tL :: .ref aK :: .ref aP :: .ref aQ :: .ref aT :: .ref aW :: .ref aO :: .ref aM :: .ref aL :: .ref aH :: .ref aI :: .ref aS :: .ref aR :: .ref aX :: .ref aF :: .ref aY :: .ref aJ :: .long tl :: .long tg :: .int (bI tB) :: .int tM :: .int tb :: .long tv :: .long tw :: .long tT :: .long tr :: .long tm :: .long tf :: .ref aG :: .ref aE :: .ref aU :: []))), (aK, .inl (κ.z 1, 6, .inr (.inl gK))), (aP, .inl (κ.z 2, 6, .inl (aB gP))), (aQ, .inl (κ.z 1, 6, .inr (.inl gQ))), (aT, .inl (κ.z 1, 6, .inr (.inl gT))), (aW, .inl (κ.z 2, 6, .inl (aB gW))), (aO, .inl (κ.z 1, 6, .inr (.inl gO))), (aM, .inl (κ.z 0, 6, .inl (aN gM))), (aL, .inl (κ.z 1, 48, .inr (.inl gL))), (aH, .inl (κ.z 1, 48, .inr (.inl gH))), (aI, .inl (κ.z 1, 48, .inr (.inl gI)))]
  refine v_istore X d_T_reply_22 (by decide) (lv' := [(9, .int (f_T_why tN gK gP gQ gT gW gO i x y t u)), (0, .ref m), (1, .int (nI i)), (2, .long x), (4, .long y), (6, .long t), (8, .int u)]) rfl ?_
  refine v_iload X 0 d_T_reply_24 rfl ?_
  refine v_if_eq X 32 d_T_reply_26 (by decide) (fun c26 => ?_) (fun c26 => ?_)
  · skip
    refine v_aload_n X 1 d_T_reply_32 rfl ?_
    refine v_get X 0 7 rfl rfl li_T (by decide) m434 rfl d_T_reply_33 ?_
    refine v_iload_n X 2 d_T_reply_36 rfl ?_
    refine v_iconst X 0 d_T_reply_37 (by decide) ?_
    refine v_zastN X 2 2 (j := i) (x := false) rfl rfl (by omega) (by omega) d_T_reply_38 (ws' := [(m, .inr (5, (.int (nI tS) :: .int tD :: .int tE :: .long tN :: .int (bI tA) :: .long tL :: .ref aK :: .ref aP :: .ref aQ :: .ref aT :: .ref aW :: .ref aO :: .ref aM :: .ref aL :: .ref aH :: .ref aI :: .ref aS :: .ref aR :: .ref aX :: .ref aF :: .ref aY :: .ref aJ :: .long tl :: .long tg :: .int (bI tB) :: .int tM :: .int tb :: .long tv :: .long tw :: .long tT :: .long tr :: .long tm :: .long tf :: .ref aG :: .ref aE :: .ref aU :: []))), (aK, .inl (κ.z 1, 6, .inr (.inl gK))), (aP, .inl (κ.z 2, 6, .inl (aB (va_up gP i false)))), (aQ, .inl (κ.z 1, 6, .inr (.inl gQ))), (aT, .inl (κ.z 1, 6, .inr (.inl gT))), (aW, .inl (κ.z 2, 6, .inl (aB gW))), (aO, .inl (κ.z 1, 6, .inr (.inl gO))), (aM, .inl (κ.z 0, 6, .inl (aN gM))), (aL, .inl (κ.z 1, 48, .inr (.inl gL))), (aH, .inl (κ.z 1, 48, .inr (.inl gH))), (aI, .inl (κ.z 1, 48, .inr (.inl gI)))]) rfl ?_
    refine v_aload_n X 1 d_T_reply_39 rfl ?_
    refine v_get X 0 10 rfl rfl li_T (by decide) m437 rfl d_T_reply_40 ?_
    refine v_iload_n X 2 d_T_reply_43 rfl ?_
    refine v_iconst X 1 d_T_reply_44 (by decide) ?_
    refine v_zastN X 5 2 (j := i) (x := true) rfl rfl (by omega) (by omega) d_T_reply_45 (ws' := [(m, .inr (5, (.int (nI tS) :: .int tD :: .int tE :: .long tN :: .int (bI tA) :: .long tL :: .ref aK :: .ref aP :: .ref aQ :: .ref aT :: .ref aW :: .ref aO :: .ref aM :: .ref aL :: .ref aH :: .ref aI :: .ref aS :: .ref aR :: .ref aX :: .ref aF :: .ref aY :: .ref aJ :: .long tl :: .long tg :: .int (bI tB) :: .int tM :: .int tb :: .long tv :: .long tw :: .long tT :: .long tr :: .long tm :: .long tf :: .ref aG :: .ref aE :: .ref aU :: []))), (aK, .inl (κ.z 1, 6, .inr (.inl gK))), (aP, .inl (κ.z 2, 6, .inl (aB (va_up gP i false)))), (aQ, .inl (κ.z 1, 6, .inr (.inl gQ))), (aT, .inl (κ.z 1, 6, .inr (.inl gT))), (aW, .inl (κ.z 2, 6, .inl (aB (va_up gW i true)))), (aO, .inl (κ.z 1, 6, .inr (.inl gO))), (aM, .inl (κ.z 0, 6, .inl (aN gM))), (aL, .inl (κ.z 1, 48, .inr (.inl gL))), (aH, .inl (κ.z 1, 48, .inr (.inl gH))), (aI, .inl (κ.z 1, 48, .inr (.inl gI)))]) rfl ?_
    refine v_aload_n X 1 d_T_reply_46 rfl ?_
    refine v_get X 0 11 rfl rfl li_T (by decide) m438 rfl d_T_reply_47 ?_
    refine v_iload_n X 2 d_T_reply_50 rfl ?_
    refine v_lload_n X 3 d_T_reply_51 rfl ?_
    show V κ 11 0 0 52 [(9, .int (f_T_why tN gK gP gQ gT gW gO i x y t u)), (0, .ref m), (1, .int (nI i)), (2, .long x), (4, .long y), (6, .long t), (8, .int u)] [.long x, .int (nI i), .ref aO] [(m, .inr (5, (.int (nI tS) :: .int tD :: .int tE :: .long tN :: .int (bI tA) :: .long tL :: .ref aK :: .ref aP :: .ref aQ :: .ref aT :: .ref aW :: .ref aO :: .ref aM :: .ref aL :: .ref aH :: .ref aI :: .ref aS :: .ref aR :: .ref aX :: .ref aF :: .ref aY :: .ref aJ :: .long tl :: .long tg :: .int (bI tB) :: .int tM :: .int tb :: .long tv :: .long tw :: .long tT :: .long tr :: .long tm :: .long tf :: .ref aG :: .ref aE :: .ref aU :: []))), (aK, .inl (κ.z 1, 6, .inr (.inl gK))), (aP, .inl (κ.z 2, 6, .inl (aB (va_up gP i false)))), (aQ, .inl (κ.z 1, 6, .inr (.inl gQ))), (aT, .inl (κ.z 1, 6, .inr (.inl gT))), (aW, .inl (κ.z 2, 6, .inl (aB (va_up gW i true)))), (aO, .inl (κ.z 1, 6, .inr (.inl gO))), (aM, .inl (κ.z 0, 6, .inl (aN gM))), (aL, .inl (κ.z 1, 48, .inr (.inl gL))), (aH, .inl (κ.z 1, 48, .inr (.inl gH))), (aI, .inl (κ.z 1, 48, .inr (.inl gI)))]
    refine v_lastN X 6 1 (j := i) (x := x) rfl rfl (by omega) (by omega) d_T_reply_52 (ws' := [(m, .inr (5, (.int (nI tS) :: .int tD :: .int tE :: .long tN :: .int (bI tA) :: .long tL :: .ref aK :: .ref aP :: .ref aQ :: .ref aT :: .ref aW :: .ref aO :: .ref aM :: .ref aL :: .ref aH :: .ref aI :: .ref aS :: .ref aR :: .ref aX :: .ref aF :: .ref aY :: .ref aJ :: .long tl :: .long tg :: .int (bI tB) :: .int tM :: .int tb :: .long tv :: .long tw :: .long tT :: .long tr :: .long tm :: .long tf :: .ref aG :: .ref aE :: .ref aU :: []))), (aK, .inl (κ.z 1, 6, .inr (.inl gK))), (aP, .inl (κ.z 2, 6, .inl (aB (va_up gP i false)))), (aQ, .inl (κ.z 1, 6, .inr (.inl gQ))), (aT, .inl (κ.z 1, 6, .inr (.inl gT))), (aW, .inl (κ.z 2, 6, .inl (aB (va_up gW i true)))), (aO, .inl (κ.z 1, 6, .inr (.inl (vp_updL gO i x)))), (aM, .inl (κ.z 0, 6, .inl (aN gM))), (aL, .inl (κ.z 1, 48, .inr (.inl gL))), (aH, .inl (κ.z 1, 48, .inr (.inl gH))), (aI, .inl (κ.z 1, 48, .inr (.inl gI)))]) rfl ?_
    refine v_aload_n X 1 d_T_reply_53 rfl ?_
    refine v_get X 0 12 rfl rfl li_T (by decide) m439 rfl d_T_reply_54 ?_
    refine v_iload_n X 2 d_T_reply_57 rfl ?_
    refine v_aload_n X 1 d_T_reply_58 rfl ?_
    refine v_get X 0 12 rfl rfl li_T (by decide) m439 rfl d_T_reply_59 ?_
    refine v_iload_n X 2 d_T_reply_62 rfl ?_
    refine v_naldN X 7 0 (j := i) rfl rfl (by omega) (by omega) d_T_reply_63 ?_
    refine v_bipush X 8 d_T_reply_64 (by decide) ?_
    suffices hm66 : V κ 11 0 0 82 [(9, .int (f_T_why tN gK gP gQ gT gW gO i x y t u)), (0, .ref m), (1, .int (nI i)), (2, .long x), (4, .long y), (6, .long t), (8, .int u)] [.int (nI (if (gM i) = 8 then 8 else ((gM i) + 1))), .int (nI i), .ref aM] [(m, .inr (5, (.int (nI tS) :: .int tD :: .int tE :: .long tN :: .int (bI tA) :: .long tL :: .ref aK :: .ref aP :: .ref aQ :: .ref aT :: .ref aW :: .ref aO :: .ref aM :: .ref aL :: .ref aH :: .ref aI :: .ref aS :: .ref aR :: .ref aX :: .ref aF :: .ref aY :: .ref aJ :: .long tl :: .long tg :: .int (bI tB) :: .int tM :: .int tb :: .long tv :: .long tw :: .long tT :: .long tr :: .long tm :: .long tf :: .ref aG :: .ref aE :: .ref aU :: []))), (aK, .inl (κ.z 1, 6, .inr (.inl gK))), (aP, .inl (κ.z 2, 6, .inl (aB (va_up gP i false)))), (aQ, .inl (κ.z 1, 6, .inr (.inl gQ))), (aT, .inl (κ.z 1, 6, .inr (.inl gT))), (aW, .inl (κ.z 2, 6, .inl (aB (va_up gW i true)))), (aO, .inl (κ.z 1, 6, .inr (.inl (vp_updL gO i x)))), (aM, .inl (κ.z 0, 6, .inl (aN gM))), (aL, .inl (κ.z 1, 48, .inr (.inl gL))), (aH, .inl (κ.z 1, 48, .inr (.inl gH))), (aI, .inl (κ.z 1, 48, .inr (.inl gI)))] by
      refine v_icmpN_ne X 74 (a := (gM i)) (b := 8) d_T_reply_66 (by decide) (by omega) (by omega) (fun c66 => ?_) (fun c66 => ?_)
      · skip
        refine v_aload_n X 1 d_T_reply_74 rfl ?_
        refine v_get X 0 12 rfl rfl li_T (by decide) m439 rfl d_T_reply_75 ?_
        refine v_iload_n X 2 d_T_reply_78 rfl ?_
        refine v_naldN X 7 0 (j := i) rfl rfl (by omega) (by omega) d_T_reply_79 ?_
        refine v_iconst X 1 d_T_reply_80 (by decide) ?_
        refine v_iaddN X (a := (gM i)) (b := 1) d_T_reply_81 ?_
        have h9 := hm66; simp only [if_neg c66] at h9; first | exact h9 | (simp only [if_neg c66]; exact h9)
      · skip
        refine v_bipush X 8 d_T_reply_69 (by decide) ?_
        refine v_goto X 82 d_T_reply_71 (by decide) ?_
        have h9 := hm66; simp only [if_pos c66] at h9; first | exact h9 | (simp only [if_pos c66]; exact h9)
    refine v_nastN X 7 0 (j := i) (x := (if (gM i) = 8 then 8 else ((gM i) + 1))) rfl rfl (by omega) (by omega) d_T_reply_82 (ws' := [(m, .inr (5, (.int (nI tS) :: .int tD :: .int tE :: .long tN :: .int (bI tA) :: .long tL :: .ref aK :: .ref aP :: .ref aQ :: .ref aT :: .ref aW :: .ref aO :: .ref aM :: .ref aL :: .ref aH :: .ref aI :: .ref aS :: .ref aR :: .ref aX :: .ref aF :: .ref aY :: .ref aJ :: .long tl :: .long tg :: .int (bI tB) :: .int tM :: .int tb :: .long tv :: .long tw :: .long tT :: .long tr :: .long tm :: .long tf :: .ref aG :: .ref aE :: .ref aU :: []))), (aK, .inl (κ.z 1, 6, .inr (.inl gK))), (aP, .inl (κ.z 2, 6, .inl (aB (va_up gP i false)))), (aQ, .inl (κ.z 1, 6, .inr (.inl gQ))), (aT, .inl (κ.z 1, 6, .inr (.inl gT))), (aW, .inl (κ.z 2, 6, .inl (aB (va_up gW i true)))), (aO, .inl (κ.z 1, 6, .inr (.inl (vp_updL gO i x)))), (aM, .inl (κ.z 0, 6, .inl (aN (va_up gM i (if (gM i) = 8 then 8 else ((gM i) + 1)))))), (aL, .inl (κ.z 1, 48, .inr (.inl gL))), (aH, .inl (κ.z 1, 48, .inr (.inl gH))), (aI, .inl (κ.z 1, 48, .inr (.inl gI)))]) rfl ?_
    refine v_bipush X 8 d_T_reply_83 (by decide) ?_
    refine v_iload_n X 2 d_T_reply_85 rfl ?_
    refine v_imulN X (a := 8) (b := i) d_T_reply_86 ?_
    refine v_aload_n X 1 d_T_reply_87 rfl ?_
    show V κ 11 0 0 88 [(9, .int (f_T_why tN gK gP gQ gT gW gO i x y t u)), (0, .ref m), (1, .int (nI i)), (2, .long x), (4, .long y), (6, .long t), (8, .int u)] [.ref m, .int (nI (8 * i))] [(m, .inr (5, (.int (nI tS) :: .int tD :: .int tE :: .long tN :: .int (bI tA) :: .long tL :: .ref aK :: .ref aP :: .ref aQ :: .ref aT :: .ref aW :: .ref aO :: .ref aM :: .ref aL :: .ref aH :: .ref aI :: .ref aS :: .ref aR :: .ref aX :: .ref aF :: .ref aY :: .ref aJ :: .long tl :: .long tg :: .int (bI tB) :: .int tM :: .int tb :: .long tv :: .long tw :: .long tT :: .long tr :: .long tm :: .long tf :: .ref aG :: .ref aE :: .ref aU :: []))), (aK, .inl (κ.z 1, 6, .inr (.inl gK))), (aP, .inl (κ.z 2, 6, .inl (aB (va_up gP i false)))), (aQ, .inl (κ.z 1, 6, .inr (.inl gQ))), (aT, .inl (κ.z 1, 6, .inr (.inl gT))), (aW, .inl (κ.z 2, 6, .inl (aB (va_up gW i true)))), (aO, .inl (κ.z 1, 6, .inr (.inl (vp_updL gO i x)))), (aM, .inl (κ.z 0, 6, .inl (aN (va_up gM i (if (gM i) = 8 then 8 else ((gM i) + 1)))))), (aL, .inl (κ.z 1, 48, .inr (.inl gL))), (aH, .inl (κ.z 1, 48, .inr (.inl gH))), (aI, .inl (κ.z 1, 48, .inr (.inl gI)))]
    refine v_get X 0 12 rfl rfl li_T (by decide) m439 rfl d_T_reply_88 ?_
    refine v_iload_n X 2 d_T_reply_91 rfl ?_
    refine v_naldE X 7 0 (j := i) (x := (if (gM i) = 8 then 8 else ((gM i) + 1))) rfl rfl (by omega) (by omega) va_ups d_T_reply_92 ?_
    refine v_iaddN X (a := (8 * i)) (b := (if (gM i) = 8 then 8 else ((gM i) + 1))) d_T_reply_93 ?_
    refine v_iconst X 1 d_T_reply_94 (by decide) ?_
    refine v_isubN X (a := ((8 * i) + (if (gM i) = 8 then 8 else ((gM i) + 1)))) (b := 1) d_T_reply_95 (by omega) ?_
    refine v_istore X d_T_reply_96 (by decide) (lv' := [(10, .int (nI (((8 * i) + (if (gM i) = 8 then 8 else ((gM i) + 1))) - 1))), (9, .int (f_T_why tN gK gP gQ gT gW gO i x y t u)), (0, .ref m), (1, .int (nI i)), (2, .long x), (4, .long y), (6, .long t), (8, .int u)]) rfl ?_
    refine v_lv [0, 2, 3, 5, 6] rfl ?_
    show V κ 11 0 0 98 [(10, .int (nI (8 * i + (if (gM i) = 8 then 8 else ((gM i) + 1)) - 1 - 0))), (0, .ref m), (1, .int (nI i)), (4, .long y), (6, .long t)] [] [(m, .inr (5, (.int (nI tS) :: .int tD :: .int tE :: .long tN :: .int (bI tA) :: .long tL :: .ref aK :: .ref aP :: .ref aQ :: .ref aT :: .ref aW :: .ref aO :: .ref aM :: .ref aL :: .ref aH :: .ref aI :: .ref aS :: .ref aR :: .ref aX :: .ref aF :: .ref aY :: .ref aJ :: .long tl :: .long tg :: .int (bI tB) :: .int tM :: .int tb :: .long tv :: .long tw :: .long tT :: .long tr :: .long tm :: .long tf :: .ref aG :: .ref aE :: .ref aU :: []))), (aK, .inl (κ.z 1, 6, .inr (.inl gK))), (aP, .inl (κ.z 2, 6, .inl (aB (va_up gP i false)))), (aQ, .inl (κ.z 1, 6, .inr (.inl gQ))), (aT, .inl (κ.z 1, 6, .inr (.inl gT))), (aW, .inl (κ.z 2, 6, .inl (aB (va_up gW i true)))), (aO, .inl (κ.z 1, 6, .inr (.inl (vp_updL gO i x)))), (aM, .inl (κ.z 0, 6, .inl (aN (va_up gM i (if (gM i) = 8 then 8 else ((gM i) + 1)))))), (aL, .inl (κ.z 1, 48, .inr (.inl ((tShf gL gH gI i (if (gM i) = 8 then 8 else ((gM i) + 1)) 0).1)))), (aH, .inl (κ.z 1, 48, .inr (.inl ((tShf gL gH gI i (if (gM i) = 8 then 8 else ((gM i) + 1)) 0).2.1)))), (aI, .inl (κ.z 1, 48, .inr (.inl ((tShf gL gH gI i (if (gM i) = 8 then 8 else ((gM i) + 1)) 0).2.2))))]
    refine lp_T_reply X m tS tD tE tN tA tL aK aP aQ aT aW aO aM aL aH aI aS aR aX aF aY aJ tl tg tB tM tb tv tw tT tr tm tf aG aE aU gK (va_up gP i false) gQ gT (va_up gW i true) (vp_updL gO i x) (va_up gM i (if (gM i) = 8 then 8 else ((gM i) + 1))) gL gH gI i (if (gM i) = 8 then 8 else ((gM i) + 1)) y t (by omega) hsg.1 hsg.2  ?_ (((if (gM i) = 8 then 8 else ((gM i) + 1)) - 1) - 0) 0 (by omega)
    show V κ 11 0 0 161 [(10, .int (nI (8 * i + (if (gM i) = 8 then 8 else ((gM i) + 1)) - 1 - ((if (gM i) = 8 then 8 else ((gM i) + 1)) - 1)))), (0, .ref m), (1, .int (nI i)), (4, .long y), (6, .long t)] [] [(m, .inr (5, (.int (nI tS) :: .int tD :: .int tE :: .long tN :: .int (bI tA) :: .long tL :: .ref aK :: .ref aP :: .ref aQ :: .ref aT :: .ref aW :: .ref aO :: .ref aM :: .ref aL :: .ref aH :: .ref aI :: .ref aS :: .ref aR :: .ref aX :: .ref aF :: .ref aY :: .ref aJ :: .long tl :: .long tg :: .int (bI tB) :: .int tM :: .int tb :: .long tv :: .long tw :: .long tT :: .long tr :: .long tm :: .long tf :: .ref aG :: .ref aE :: .ref aU :: []))), (aK, .inl (κ.z 1, 6, .inr (.inl gK))), (aP, .inl (κ.z 2, 6, .inl (aB (va_up gP i false)))), (aQ, .inl (κ.z 1, 6, .inr (.inl gQ))), (aT, .inl (κ.z 1, 6, .inr (.inl gT))), (aW, .inl (κ.z 2, 6, .inl (aB (va_up gW i true)))), (aO, .inl (κ.z 1, 6, .inr (.inl (vp_updL gO i x)))), (aM, .inl (κ.z 0, 6, .inl (aN (va_up gM i (if (gM i) = 8 then 8 else ((gM i) + 1)))))), (aL, .inl (κ.z 1, 48, .inr (.inl ((tShf gL gH gI i (if (gM i) = 8 then 8 else ((gM i) + 1)) ((if (gM i) = 8 then 8 else ((gM i) + 1)) - 1)).1)))), (aH, .inl (κ.z 1, 48, .inr (.inl ((tShf gL gH gI i (if (gM i) = 8 then 8 else ((gM i) + 1)) ((if (gM i) = 8 then 8 else ((gM i) + 1)) - 1)).2.1)))), (aI, .inl (κ.z 1, 48, .inr (.inl ((tShf gL gH gI i (if (gM i) = 8 then 8 else ((gM i) + 1)) ((if (gM i) = 8 then 8 else ((gM i) + 1)) - 1)).2.2))))]
    refine v_aload_n X 1 d_T_reply_161 rfl ?_
    refine v_get X 0 13 rfl rfl li_T (by decide) m440 rfl d_T_reply_162 ?_
    refine v_bipush X 8 d_T_reply_165 (by decide) ?_
    refine v_iload_n X 2 d_T_reply_167 rfl ?_
    refine v_imulN X (a := 8) (b := i) d_T_reply_168 ?_
    refine v_lload X 4 d_T_reply_169 rfl ?_
    refine v_aload_n X 1 d_T_reply_171 rfl ?_
    refine v_get X 0 3 rfl rfl li_T (by decide) m430 rfl d_T_reply_172 ?_
    show V κ 11 0 0 175 [(10, .int (nI (8 * i + (if (gM i) = 8 then 8 else ((gM i) + 1)) - 1 - ((if (gM i) = 8 then 8 else ((gM i) + 1)) - 1)))), (0, .ref m), (1, .int (nI i)), (4, .long y), (6, .long t)] [.long tN, .long t, .int (nI (8 * i)), .ref aL] [(m, .inr (5, (.int (nI tS) :: .int tD :: .int tE :: .long tN :: .int (bI tA) :: .long tL :: .ref aK :: .ref aP :: .ref aQ :: .ref aT :: .ref aW :: .ref aO :: .ref aM :: .ref aL :: .ref aH :: .ref aI :: .ref aS :: .ref aR :: .ref aX :: .ref aF :: .ref aY :: .ref aJ :: .long tl :: .long tg :: .int (bI tB) :: .int tM :: .int tb :: .long tv :: .long tw :: .long tT :: .long tr :: .long tm :: .long tf :: .ref aG :: .ref aE :: .ref aU :: []))), (aK, .inl (κ.z 1, 6, .inr (.inl gK))), (aP, .inl (κ.z 2, 6, .inl (aB (va_up gP i false)))), (aQ, .inl (κ.z 1, 6, .inr (.inl gQ))), (aT, .inl (κ.z 1, 6, .inr (.inl gT))), (aW, .inl (κ.z 2, 6, .inl (aB (va_up gW i true)))), (aO, .inl (κ.z 1, 6, .inr (.inl (vp_updL gO i x)))), (aM, .inl (κ.z 0, 6, .inl (aN (va_up gM i (if (gM i) = 8 then 8 else ((gM i) + 1)))))), (aL, .inl (κ.z 1, 48, .inr (.inl ((tShf gL gH gI i (if (gM i) = 8 then 8 else ((gM i) + 1)) ((if (gM i) = 8 then 8 else ((gM i) + 1)) - 1)).1)))), (aH, .inl (κ.z 1, 48, .inr (.inl ((tShf gL gH gI i (if (gM i) = 8 then 8 else ((gM i) + 1)) ((if (gM i) = 8 then 8 else ((gM i) + 1)) - 1)).2.1)))), (aI, .inl (κ.z 1, 48, .inr (.inl ((tShf gL gH gI i (if (gM i) = 8 then 8 else ((gM i) + 1)) ((if (gM i) = 8 then 8 else ((gM i) + 1)) - 1)).2.2))))]
    refine v_lsub X d_T_reply_175 ?_
    refine v_lastN X 8 1 (j := (8 * i)) (x := (t - tN)) rfl rfl (by omega) (by omega) d_T_reply_176 (ws' := [(m, .inr (5, (.int (nI tS) :: .int tD :: .int tE :: .long tN :: .int (bI tA) :: .long tL :: .ref aK :: .ref aP :: .ref aQ :: .ref aT :: .ref aW :: .ref aO :: .ref aM :: .ref aL :: .ref aH :: .ref aI :: .ref aS :: .ref aR :: .ref aX :: .ref aF :: .ref aY :: .ref aJ :: .long tl :: .long tg :: .int (bI tB) :: .int tM :: .int tb :: .long tv :: .long tw :: .long tT :: .long tr :: .long tm :: .long tf :: .ref aG :: .ref aE :: .ref aU :: []))), (aK, .inl (κ.z 1, 6, .inr (.inl gK))), (aP, .inl (κ.z 2, 6, .inl (aB (va_up gP i false)))), (aQ, .inl (κ.z 1, 6, .inr (.inl gQ))), (aT, .inl (κ.z 1, 6, .inr (.inl gT))), (aW, .inl (κ.z 2, 6, .inl (aB (va_up gW i true)))), (aO, .inl (κ.z 1, 6, .inr (.inl (vp_updL gO i x)))), (aM, .inl (κ.z 0, 6, .inl (aN (va_up gM i (if (gM i) = 8 then 8 else ((gM i) + 1)))))), (aL, .inl (κ.z 1, 48, .inr (.inl (vp_updL ((tShf gL gH gI i (if (gM i) = 8 then 8 else ((gM i) + 1)) ((if (gM i) = 8 then 8 else ((gM i) + 1)) - 1)).1) (8 * i) (t - tN))))), (aH, .inl (κ.z 1, 48, .inr (.inl ((tShf gL gH gI i (if (gM i) = 8 then 8 else ((gM i) + 1)) ((if (gM i) = 8 then 8 else ((gM i) + 1)) - 1)).2.1)))), (aI, .inl (κ.z 1, 48, .inr (.inl ((tShf gL gH gI i (if (gM i) = 8 then 8 else ((gM i) + 1)) ((if (gM i) = 8 then 8 else ((gM i) + 1)) - 1)).2.2))))]) rfl ?_
    refine v_aload_n X 1 d_T_reply_177 rfl ?_
    refine v_get X 0 14 rfl rfl li_T (by decide) m441 rfl d_T_reply_178 ?_
    refine v_bipush X 8 d_T_reply_181 (by decide) ?_
    refine v_iload_n X 2 d_T_reply_183 rfl ?_
    refine v_imulN X (a := 8) (b := i) d_T_reply_184 ?_
    refine v_lload X 3 d_T_reply_185 rfl ?_
    refine v_aload_n X 1 d_T_reply_187 rfl ?_
    refine v_get X 0 8 rfl rfl li_T (by decide) m435 rfl d_T_reply_188 ?_
    refine v_iload_n X 2 d_T_reply_191 rfl ?_
    refine v_laldN X 3 1 (j := i) rfl rfl (by omega) (by omega) d_T_reply_192 ?_
    refine v_lsub X d_T_reply_193 ?_
    refine v_lastN X 9 1 (j := (8 * i)) (x := (y - (gQ i))) rfl rfl (by omega) (by omega) d_T_reply_194 (ws' := [(m, .inr (5, (.int (nI tS) :: .int tD :: .int tE :: .long tN :: .int (bI tA) :: .long tL :: .ref aK :: .ref aP :: .ref aQ :: .ref aT :: .ref aW :: .ref aO :: .ref aM :: .ref aL :: .ref aH :: .ref aI :: .ref aS :: .ref aR :: .ref aX :: .ref aF :: .ref aY :: .ref aJ :: .long tl :: .long tg :: .int (bI tB) :: .int tM :: .int tb :: .long tv :: .long tw :: .long tT :: .long tr :: .long tm :: .long tf :: .ref aG :: .ref aE :: .ref aU :: []))), (aK, .inl (κ.z 1, 6, .inr (.inl gK))), (aP, .inl (κ.z 2, 6, .inl (aB (va_up gP i false)))), (aQ, .inl (κ.z 1, 6, .inr (.inl gQ))), (aT, .inl (κ.z 1, 6, .inr (.inl gT))), (aW, .inl (κ.z 2, 6, .inl (aB (va_up gW i true)))), (aO, .inl (κ.z 1, 6, .inr (.inl (vp_updL gO i x)))), (aM, .inl (κ.z 0, 6, .inl (aN (va_up gM i (if (gM i) = 8 then 8 else ((gM i) + 1)))))), (aL, .inl (κ.z 1, 48, .inr (.inl (vp_updL ((tShf gL gH gI i (if (gM i) = 8 then 8 else ((gM i) + 1)) ((if (gM i) = 8 then 8 else ((gM i) + 1)) - 1)).1) (8 * i) (t - tN))))), (aH, .inl (κ.z 1, 48, .inr (.inl (vp_updL ((tShf gL gH gI i (if (gM i) = 8 then 8 else ((gM i) + 1)) ((if (gM i) = 8 then 8 else ((gM i) + 1)) - 1)).2.1) (8 * i) (y - (gQ i)))))), (aI, .inl (κ.z 1, 48, .inr (.inl ((tShf gL gH gI i (if (gM i) = 8 then 8 else ((gM i) + 1)) ((if (gM i) = 8 then 8 else ((gM i) + 1)) - 1)).2.2))))]) rfl ?_
    refine v_aload_n X 1 d_T_reply_195 rfl ?_
    show V κ 11 0 0 196 [(10, .int (nI (8 * i + (if (gM i) = 8 then 8 else ((gM i) + 1)) - 1 - ((if (gM i) = 8 then 8 else ((gM i) + 1)) - 1)))), (0, .ref m), (1, .int (nI i)), (4, .long y), (6, .long t)] [.ref m] [(m, .inr (5, (.int (nI tS) :: .int tD :: .int tE :: .long tN :: .int (bI tA) :: .long tL :: .ref aK :: .ref aP :: .ref aQ :: .ref aT :: .ref aW :: .ref aO :: .ref aM :: .ref aL :: .ref aH :: .ref aI :: .ref aS :: .ref aR :: .ref aX :: .ref aF :: .ref aY :: .ref aJ :: .long tl :: .long tg :: .int (bI tB) :: .int tM :: .int tb :: .long tv :: .long tw :: .long tT :: .long tr :: .long tm :: .long tf :: .ref aG :: .ref aE :: .ref aU :: []))), (aK, .inl (κ.z 1, 6, .inr (.inl gK))), (aP, .inl (κ.z 2, 6, .inl (aB (va_up gP i false)))), (aQ, .inl (κ.z 1, 6, .inr (.inl gQ))), (aT, .inl (κ.z 1, 6, .inr (.inl gT))), (aW, .inl (κ.z 2, 6, .inl (aB (va_up gW i true)))), (aO, .inl (κ.z 1, 6, .inr (.inl (vp_updL gO i x)))), (aM, .inl (κ.z 0, 6, .inl (aN (va_up gM i (if (gM i) = 8 then 8 else ((gM i) + 1)))))), (aL, .inl (κ.z 1, 48, .inr (.inl (vp_updL ((tShf gL gH gI i (if (gM i) = 8 then 8 else ((gM i) + 1)) ((if (gM i) = 8 then 8 else ((gM i) + 1)) - 1)).1) (8 * i) (t - tN))))), (aH, .inl (κ.z 1, 48, .inr (.inl (vp_updL ((tShf gL gH gI i (if (gM i) = 8 then 8 else ((gM i) + 1)) ((if (gM i) = 8 then 8 else ((gM i) + 1)) - 1)).2.1) (8 * i) (y - (gQ i)))))), (aI, .inl (κ.z 1, 48, .inr (.inl ((tShf gL gH gI i (if (gM i) = 8 then 8 else ((gM i) + 1)) ((if (gM i) = 8 then 8 else ((gM i) + 1)) - 1)).2.2))))]
    refine v_get X 0 15 rfl rfl li_T (by decide) m442 rfl d_T_reply_196 ?_
    refine v_bipush X 8 d_T_reply_199 (by decide) ?_
    refine v_iload_n X 2 d_T_reply_201 rfl ?_
    refine v_imulN X (a := 8) (b := i) d_T_reply_202 ?_
    refine v_aload_n X 1 d_T_reply_203 rfl ?_
    refine v_get X 0 3 rfl rfl li_T (by decide) m430 rfl d_T_reply_204 ?_
    refine v_lastN X 10 1 (j := (8 * i)) (x := tN) rfl rfl (by omega) (by omega) d_T_reply_207 (ws' := [(m, .inr (5, (.int (nI tS) :: .int tD :: .int tE :: .long tN :: .int (bI tA) :: .long tL :: .ref aK :: .ref aP :: .ref aQ :: .ref aT :: .ref aW :: .ref aO :: .ref aM :: .ref aL :: .ref aH :: .ref aI :: .ref aS :: .ref aR :: .ref aX :: .ref aF :: .ref aY :: .ref aJ :: .long tl :: .long tg :: .int (bI tB) :: .int tM :: .int tb :: .long tv :: .long tw :: .long tT :: .long tr :: .long tm :: .long tf :: .ref aG :: .ref aE :: .ref aU :: []))), (aK, .inl (κ.z 1, 6, .inr (.inl gK))), (aP, .inl (κ.z 2, 6, .inl (aB (va_up gP i false)))), (aQ, .inl (κ.z 1, 6, .inr (.inl gQ))), (aT, .inl (κ.z 1, 6, .inr (.inl gT))), (aW, .inl (κ.z 2, 6, .inl (aB (va_up gW i true)))), (aO, .inl (κ.z 1, 6, .inr (.inl (vp_updL gO i x)))), (aM, .inl (κ.z 0, 6, .inl (aN (va_up gM i (if (gM i) = 8 then 8 else ((gM i) + 1)))))), (aL, .inl (κ.z 1, 48, .inr (.inl (vp_updL ((tShf gL gH gI i (if (gM i) = 8 then 8 else ((gM i) + 1)) ((if (gM i) = 8 then 8 else ((gM i) + 1)) - 1)).1) (8 * i) (t - tN))))), (aH, .inl (κ.z 1, 48, .inr (.inl (vp_updL ((tShf gL gH gI i (if (gM i) = 8 then 8 else ((gM i) + 1)) ((if (gM i) = 8 then 8 else ((gM i) + 1)) - 1)).2.1) (8 * i) (y - (gQ i)))))), (aI, .inl (κ.z 1, 48, .inr (.inl (vp_updL ((tShf gL gH gI i (if (gM i) = 8 then 8 else ((gM i) + 1)) ((if (gM i) = 8 then 8 else ((gM i) + 1)) - 1)).2.2) (8 * i) tN))))]) rfl ?_
    refine v_aload_n X 1 d_T_reply_208 rfl ?_
    refine v_get X 0 12 rfl rfl li_T (by decide) m439 rfl d_T_reply_209 ?_
    refine v_iload_n X 2 d_T_reply_212 rfl ?_
    refine v_naldE X 7 0 (j := i) (x := (if (gM i) = 8 then 8 else ((gM i) + 1))) rfl rfl (by omega) (by omega) va_ups d_T_reply_213 ?_
    exact v_iret X Y (by decide) (by decide) d_T_reply_214 ⟨by first | (simp only [f_T_replyG, f_T_replyG_r2, f_T_replyG_r5, f_T_replyG_r6, f_T_replyG_r7, f_T_replyG_r8, f_T_replyG_r9, f_T_replyG_r10, if_pos c26] <;> rfl) | rfl, by first | (simp only [f_T_replyG, f_T_replyG_r2, f_T_replyG_r5, f_T_replyG_r6, f_T_replyG_r7, f_T_replyG_r8, f_T_replyG_r9, f_T_replyG_r10, if_pos c26] <;> rfl) | rfl⟩
  · skip
    refine v_iload X 0 d_T_reply_29 rfl ?_
    exact v_iret X Y (by decide) (by decide) d_T_reply_31 ⟨by first | (simp only [f_T_replyG, f_T_replyG_r2, f_T_replyG_r5, f_T_replyG_r6, f_T_replyG_r7, f_T_replyG_r8, f_T_replyG_r9, f_T_replyG_r10, if_neg c26] <;> rfl) | rfl, by first | (simp only [f_T_replyG, f_T_replyG_r2, f_T_replyG_r5, f_T_replyG_r6, f_T_replyG_r7, f_T_replyG_r8, f_T_replyG_r9, f_T_replyG_r10, if_neg c26] <;> rfl) | rfl⟩

set_option maxHeartbeats 4000000 in
set_option maxRecDepth 100000 in
theorem c_T_replyB (l : Launch) (D : va_G) (z : Nat → ClassId) (m : Nat) (tS : Nat) (tD : Int32) (tE : Int32) (tN : Int64) (tA : Bool) (tL : Int64) (aK : Nat) (aP : Nat) (aQ : Nat) (aT : Nat) (aW : Nat) (aO : Nat) (aM : Nat) (aL : Nat) (aH : Nat) (aI : Nat) (aS : Nat) (aR : Nat) (aX : Nat) (aF : Nat) (aY : Nat) (aJ : Nat) (tl : Int64) (tg : Int64) (tB : Bool) (tM : Int32) (tb : Int32) (tv : Int64) (tw : Int64) (tT : Int64) (tr : Int64) (tm : Int64) (tf : Int64) (aG : Nat) (aE : Nat) (aU : Nat) (s : Int32) (x : Int64) (y : Int64) (t : Int64) (u : Int32) (hb9 : ¬ s < 0 → ¬ s < nI tS) : Ctr l D z y_T_reply b_T_reply 11 (some .int) { frames := 3, cells := 0, slots := 0, locals := 87 } [.ref m, .int s, .long x, .long y, .long t, .int u] [(m, .inr (5, (.int (nI tS) :: .int tD :: .int tE :: .long tN :: .int (bI tA) :: .long tL :: .ref aK :: .ref aP :: .ref aQ :: .ref aT :: .ref aW :: .ref aO :: .ref aM :: .ref aL :: .ref aH :: .ref aI :: .ref aS :: .ref aR :: .ref aX :: .ref aF :: .ref aY :: .ref aJ :: .long tl :: .long tg :: .int (bI tB) :: .int tM :: .int tb :: .long tv :: .long tw :: .long tT :: .long tr :: .long tm :: .long tf :: .ref aG :: .ref aE :: .ref aU :: [])))] (fun v w => v = some (.int (-1 : Int32)) ∧ w = [(m, .inr (5, (.int (nI tS) :: .int tD :: .int tE :: .long tN :: .int (bI tA) :: .long tL :: .ref aK :: .ref aP :: .ref aQ :: .ref aT :: .ref aW :: .ref aO :: .ref aM :: .ref aL :: .ref aH :: .ref aI :: .ref aS :: .ref aR :: .ref aX :: .ref aF :: .ref aY :: .ref aJ :: .long tl :: .long tg :: .int (bI tB) :: .int tM :: .int tb :: .long tv :: .long tw :: .long tT :: .long tr :: .long tm :: .long tf :: .ref aG :: .ref aE :: .ref aU :: [])))]) 0 0 := by
  refine met_V (own := R_T) (nm := "reply") (by decide +kernel) rfl rfl (Nat.le_of_ble_eq_true rfl) ?_
  intro κ hl hD hz X Y
  subst hl
  subst hD
  subst hz
  show V κ 11 0 0 0 [(0, .ref m), (1, .int s), (2, .long x), (4, .long y), (6, .long t), (8, .int u)] [] [(m, .inr (5, (.int (nI tS) :: .int tD :: .int tE :: .long tN :: .int (bI tA) :: .long tL :: .ref aK :: .ref aP :: .ref aQ :: .ref aT :: .ref aW :: .ref aO :: .ref aM :: .ref aL :: .ref aH :: .ref aI :: .ref aS :: .ref aR :: .ref aX :: .ref aF :: .ref aY :: .ref aJ :: .long tl :: .long tg :: .int (bI tB) :: .int tM :: .int tb :: .long tv :: .long tw :: .long tT :: .long tr :: .long tm :: .long tf :: .ref aG :: .ref aE :: .ref aU :: [])))]
  refine v_aload_n X 0 d_T_reply_0 rfl ?_
  refine v_iload_n X 1 d_T_reply_1 rfl ?_
  refine v_callV X (b := m) (k := 0) (n := 0) (n9 := 1) (As := [.int s]) (rest := []) (wc := [(m, .inr (5, (.int (nI tS) :: .int tD :: .int tE :: .long tN :: .int (bI tA) :: .long tL :: .ref aK :: .ref aP :: .ref aQ :: .ref aT :: .ref aW :: .ref aO :: .ref aM :: .ref aL :: .ref aH :: .ref aI :: .ref aS :: .ref aR :: .ref aX :: .ref aF :: .ref aY :: .ref aJ :: .long tl :: .long tg :: .int (bI tB) :: .int tM :: .int tb :: .long tv :: .long tw :: .long tT :: .long tr :: .long tm :: .long tf :: .ref aG :: .ref aE :: .ref aU :: [])))]) (wr := []) (c_T_isServerB κ.l κ.D κ.z m tS tD tE tN tA tL aK aP aQ aT aW aO aM aL aH aI aS aR aX aF aY aJ tl tg tB tM tb tv tw tT tr tm tf aG aE aU s hb9) 0 rfl rfl m513 m514 m16 m36 (by decide +kernel) rfl (Nat.le_of_ble_eq_true rfl) ⟨by decide, by decide⟩ ⟨by decide, by decide⟩ rfl rfl m515 d_T_reply_2 (fun v w1 hg => ?_)
  obtain ⟨rfl, rfl⟩ := hg
  show V κ 11 0 0 5 [(0, .ref m), (1, .int s), (2, .long x), (4, .long y), (6, .long t), (8, .int u)] [.int (bI false)] [(m, .inr (5, (.int (nI tS) :: .int tD :: .int tE :: .long tN :: .int (bI tA) :: .long tL :: .ref aK :: .ref aP :: .ref aQ :: .ref aT :: .ref aW :: .ref aO :: .ref aM :: .ref aL :: .ref aH :: .ref aI :: .ref aS :: .ref aR :: .ref aX :: .ref aF :: .ref aY :: .ref aJ :: .long tl :: .long tg :: .int (bI tB) :: .int tM :: .int tb :: .long tv :: .long tw :: .long tT :: .long tr :: .long tm :: .long tf :: .ref aG :: .ref aE :: .ref aU :: [])))]
  refine v_ifB_ne X 10 (t := false) d_T_reply_5 (by decide) (fun c5 => absurd c5 (by decide)) (fun c5 => ?_)
  refine v_iconst X (-1) d_T_reply_8 (by decide) ?_
  exact v_iret X Y (by decide) (by decide) d_T_reply_9 ⟨rfl, rfl⟩

def meS (tD : Int32) (tN : Int64) (gL : Nat → Int64) (gH : Nat → Int64) (gI : Nat → Int64) (gX : Nat → Int32) (gF : Nat → Int64) (gY : Nat → Int64) (i : Nat) : Nat → (Nat → Int64) × (Nat → Int64)
  | 0 => (gF, gY)
  | j + 1 => (if (8 * i + j) = (8 * i) then vp_updL ((meS tD tN gL gH gI gX gF gY i j).1) i (((gL (8 * i + j)) - ((gX i).toInt64)) - (f_T_growth tD (tN - (gI (8 * i + j))))) else if ((((meS tD tN gL gH gI gX gF gY i j).2) i) - (((meS tD tN gL gH gI gX gF gY i j).1) i)) ≤ ((((gH (8 * i + j)) + ((gX i).toInt64)) + (f_T_growth tD (tN - (gI (8 * i + j))))) - (((gL (8 * i + j)) - ((gX i).toInt64)) - (f_T_growth tD (tN - (gI (8 * i + j)))))) then ((meS tD tN gL gH gI gX gF gY i j).1) else vp_updL ((meS tD tN gL gH gI gX gF gY i j).1) i (((gL (8 * i + j)) - ((gX i).toInt64)) - (f_T_growth tD (tN - (gI (8 * i + j))))), if (8 * i + j) = (8 * i) then vp_updL ((meS tD tN gL gH gI gX gF gY i j).2) i (((gH (8 * i + j)) + ((gX i).toInt64)) + (f_T_growth tD (tN - (gI (8 * i + j))))) else if ((((meS tD tN gL gH gI gX gF gY i j).2) i) - (((meS tD tN gL gH gI gX gF gY i j).1) i)) ≤ ((((gH (8 * i + j)) + ((gX i).toInt64)) + (f_T_growth tD (tN - (gI (8 * i + j))))) - (((gL (8 * i + j)) - ((gX i).toInt64)) - (f_T_growth tD (tN - (gI (8 * i + j)))))) then ((meS tD tN gL gH gI gX gF gY i j).2) else vp_updL ((meS tD tN gL gH gI gX gF gY i j).2) i (((gH (8 * i + j)) + ((gX i).toInt64)) + (f_T_growth tD (tN - (gI (8 * i + j))))))
set_option maxHeartbeats 4000000 in
set_option maxRecDepth 100000 in
theorem lp_measure {κ : VC} (X : Cx κ b_T_measure R_T { frames := 1, cells := 0, slots := 0, locals := 26 } 9) (m : Nat) (tS : Nat) (tD : Int32) (tE : Int32) (tN : Int64) (tA : Bool) (tL : Int64) (aK : Nat) (aP : Nat) (aQ : Nat) (aT : Nat) (aW : Nat) (aO : Nat) (aM : Nat) (aL : Nat) (aH : Nat) (aI : Nat) (aS : Nat) (aR : Nat) (aX : Nat) (aF : Nat) (aY : Nat) (aJ : Nat) (tl : Int64) (tg : Int64) (tB : Bool) (tM : Int32) (tb : Int32) (tv : Int64) (tw : Int64) (tT : Int64) (tr : Int64) (tm : Int64) (tf : Int64) (aG : Nat) (aE : Nat) (aU : Nat) (gM : Nat → Nat) (gL : Nat → Int64) (gH : Nat → Int64) (gI : Nat → Int64) (gX : Nat → Int32) (gF : Nat → Int64) (gY : Nat → Int64) (i : Nat) (hi6 : i < 6) (hs8 : gM i ≤ 8)  (kk : V κ 9 0 0 124 [(2, .int (nI (8 * i + (gM i)))), (0, .ref m), (1, .int (nI i))] [] [(m, .inr (5, (.int (nI tS) :: .int tD :: .int tE :: .long tN :: .int (bI tA) :: .long tL :: .ref aK :: .ref aP :: .ref aQ :: .ref aT :: .ref aW :: .ref aO :: .ref aM :: .ref aL :: .ref aH :: .ref aI :: .ref aS :: .ref aR :: .ref aX :: .ref aF :: .ref aY :: .ref aJ :: .long tl :: .long tg :: .int (bI tB) :: .int tM :: .int tb :: .long tv :: .long tw :: .long tT :: .long tr :: .long tm :: .long tf :: .ref aG :: .ref aE :: .ref aU :: []))), (aM, .inl (κ.z 0, 6, .inl (aN gM))), (aL, .inl (κ.z 1, 48, .inr (.inl gL))), (aH, .inl (κ.z 1, 48, .inr (.inl gH))), (aI, .inl (κ.z 1, 48, .inr (.inl gI))), (aX, .inl (κ.z 0, 6, .inl gX)), (aF, .inl (κ.z 1, 6, .inr (.inl ((meS tD tN gL gH gI gX gF gY i (gM i)).1)))), (aY, .inl (κ.z 1, 6, .inr (.inl ((meS tD tN gL gH gI gX gF gY i (gM i)).2))))]) : ∀ (d9 j : Nat), j + d9 = gM i → V κ 9 0 0 5 [(2, .int (nI (8 * i + j))), (0, .ref m), (1, .int (nI i))] [] [(m, .inr (5, (.int (nI tS) :: .int tD :: .int tE :: .long tN :: .int (bI tA) :: .long tL :: .ref aK :: .ref aP :: .ref aQ :: .ref aT :: .ref aW :: .ref aO :: .ref aM :: .ref aL :: .ref aH :: .ref aI :: .ref aS :: .ref aR :: .ref aX :: .ref aF :: .ref aY :: .ref aJ :: .long tl :: .long tg :: .int (bI tB) :: .int tM :: .int tb :: .long tv :: .long tw :: .long tT :: .long tr :: .long tm :: .long tf :: .ref aG :: .ref aE :: .ref aU :: []))), (aM, .inl (κ.z 0, 6, .inl (aN gM))), (aL, .inl (κ.z 1, 48, .inr (.inl gL))), (aH, .inl (κ.z 1, 48, .inr (.inl gH))), (aI, .inl (κ.z 1, 48, .inr (.inl gI))), (aX, .inl (κ.z 0, 6, .inl gX)), (aF, .inl (κ.z 1, 6, .inr (.inl ((meS tD tN gL gH gI gX gF gY i j).1)))), (aY, .inl (κ.z 1, 6, .inr (.inl ((meS tD tN gL gH gI gX gF gY i j).2))))] := by
  intro d9
  induction d9 with
  | zero =>
    intro j hj 
    have e9 : j = gM i := by omega
    rw [e9]
    show V κ 9 0 0 5 [(2, .int (nI (8 * i + (gM i)))), (0, .ref m), (1, .int (nI i))] [] [(m, .inr (5, (.int (nI tS) :: .int tD :: .int tE :: .long tN :: .int (bI tA) :: .long tL :: .ref aK :: .ref aP :: .ref aQ :: .ref aT :: .ref aW :: .ref aO :: .ref aM :: .ref aL :: .ref aH :: .ref aI :: .ref aS :: .ref aR :: .ref aX :: .ref aF :: .ref aY :: .ref aJ :: .long tl :: .long tg :: .int (bI tB) :: .int tM :: .int tb :: .long tv :: .long tw :: .long tT :: .long tr :: .long tm :: .long tf :: .ref aG :: .ref aE :: .ref aU :: []))), (aM, .inl (κ.z 0, 6, .inl (aN gM))), (aL, .inl (κ.z 1, 48, .inr (.inl gL))), (aH, .inl (κ.z 1, 48, .inr (.inl gH))), (aI, .inl (κ.z 1, 48, .inr (.inl gI))), (aX, .inl (κ.z 0, 6, .inl gX)), (aF, .inl (κ.z 1, 6, .inr (.inl ((meS tD tN gL gH gI gX gF gY i (gM i)).1)))), (aY, .inl (κ.z 1, 6, .inr (.inl ((meS tD tN gL gH gI gX gF gY i (gM i)).2))))]
    refine v_iload_n X 0 d_T_measure_5 rfl ?_
    refine v_bipush X 8 d_T_measure_6 (by decide) ?_
    refine v_iload_n X 2 d_T_measure_8 rfl ?_
    refine v_imulN X (a := 8) (b := i) d_T_measure_9 ?_
    refine v_aload_n X 1 d_T_measure_10 rfl ?_
    refine v_get X 0 12 rfl rfl li_T (by decide) m439 rfl d_T_measure_11 ?_
    refine v_iload_n X 2 d_T_measure_14 rfl ?_
    refine v_naldN X 1 0 (j := i) rfl rfl (by omega) (by omega) d_T_measure_15 ?_
    refine v_iaddN X (a := (8 * i)) (b := (gM i)) d_T_measure_16 ?_
    refine v_icmpN_ge X 124 (a := (8 * i + (gM i))) (b := ((8 * i) + (gM i))) d_T_measure_17 (by decide) (by omega) (by omega) (fun c17 => ?_) (fun c17 => by omega)
    exact kk
  | succ d9 ih =>
    intro j hj 
    show V κ 9 0 0 5 [(2, .int (nI (8 * i + j))), (0, .ref m), (1, .int (nI i))] [] [(m, .inr (5, (.int (nI tS) :: .int tD :: .int tE :: .long tN :: .int (bI tA) :: .long tL :: .ref aK :: .ref aP :: .ref aQ :: .ref aT :: .ref aW :: .ref aO :: .ref aM :: .ref aL :: .ref aH :: .ref aI :: .ref aS :: .ref aR :: .ref aX :: .ref aF :: .ref aY :: .ref aJ :: .long tl :: .long tg :: .int (bI tB) :: .int tM :: .int tb :: .long tv :: .long tw :: .long tT :: .long tr :: .long tm :: .long tf :: .ref aG :: .ref aE :: .ref aU :: []))), (aM, .inl (κ.z 0, 6, .inl (aN gM))), (aL, .inl (κ.z 1, 48, .inr (.inl gL))), (aH, .inl (κ.z 1, 48, .inr (.inl gH))), (aI, .inl (κ.z 1, 48, .inr (.inl gI))), (aX, .inl (κ.z 0, 6, .inl gX)), (aF, .inl (κ.z 1, 6, .inr (.inl ((meS tD tN gL gH gI gX gF gY i j).1)))), (aY, .inl (κ.z 1, 6, .inr (.inl ((meS tD tN gL gH gI gX gF gY i j).2))))]
    refine v_iload_n X 0 d_T_measure_5 rfl ?_
    refine v_bipush X 8 d_T_measure_6 (by decide) ?_
    refine v_iload_n X 2 d_T_measure_8 rfl ?_
    refine v_imulN X (a := 8) (b := i) d_T_measure_9 ?_
    refine v_aload_n X 1 d_T_measure_10 rfl ?_
    refine v_get X 0 12 rfl rfl li_T (by decide) m439 rfl d_T_measure_11 ?_
    refine v_iload_n X 2 d_T_measure_14 rfl ?_
    refine v_naldN X 1 0 (j := i) rfl rfl (by omega) (by omega) d_T_measure_15 ?_
    refine v_iaddN X (a := (8 * i)) (b := (gM i)) d_T_measure_16 ?_
    refine v_icmpN_ge X 124 (a := (8 * i + j)) (b := ((8 * i) + (gM i))) d_T_measure_17 (by decide) (by omega) (by omega) (fun c17 => by omega) (fun c17 => ?_)
    refine v_aload_n X 1 d_T_measure_20 rfl ?_
    refine v_aload_n X 1 d_T_measure_21 rfl ?_
    refine v_get X 0 3 rfl rfl li_T (by decide) m430 rfl d_T_measure_22 ?_
    refine v_aload_n X 1 d_T_measure_25 rfl ?_
    show V κ 9 0 0 26 [(2, .int (nI (8 * i + j))), (0, .ref m), (1, .int (nI i))] [.ref m, .long tN, .ref m] [(m, .inr (5, (.int (nI tS) :: .int tD :: .int tE :: .long tN :: .int (bI tA) :: .long tL :: .ref aK :: .ref aP :: .ref aQ :: .ref aT :: .ref aW :: .ref aO :: .ref aM :: .ref aL :: .ref aH :: .ref aI :: .ref aS :: .ref aR :: .ref aX :: .ref aF :: .ref aY :: .ref aJ :: .long tl :: .long tg :: .int (bI tB) :: .int tM :: .int tb :: .long tv :: .long tw :: .long tT :: .long tr :: .long tm :: .long tf :: .ref aG :: .ref aE :: .ref aU :: []))), (aM, .inl (κ.z 0, 6, .inl (aN gM))), (aL, .inl (κ.z 1, 48, .inr (.inl gL))), (aH, .inl (κ.z 1, 48, .inr (.inl gH))), (aI, .inl (κ.z 1, 48, .inr (.inl gI))), (aX, .inl (κ.z 0, 6, .inl gX)), (aF, .inl (κ.z 1, 6, .inr (.inl ((meS tD tN gL gH gI gX gF gY i j).1)))), (aY, .inl (κ.z 1, 6, .inr (.inl ((meS tD tN gL gH gI gX gF gY i j).2))))]
    refine v_get X 0 15 rfl rfl li_T (by decide) m442 rfl d_T_measure_26 ?_
    refine v_iload_n X 0 d_T_measure_29 rfl ?_
    refine v_laldN X 4 1 (j := (8 * i + j)) rfl rfl (by omega) (by omega) d_T_measure_30 ?_
    refine v_lsub X d_T_measure_31 ?_
    refine v_callV X (b := m) (k := 0) (n := 0) (n9 := 1) (As := [.long (tN - (gI (8 * i + j)))]) (rest := []) (wc := [(m, .inr (5, (.int (nI tS) :: .int tD :: .int tE :: .long tN :: .int (bI tA) :: .long tL :: .ref aK :: .ref aP :: .ref aQ :: .ref aT :: .ref aW :: .ref aO :: .ref aM :: .ref aL :: .ref aH :: .ref aI :: .ref aS :: .ref aR :: .ref aX :: .ref aF :: .ref aY :: .ref aJ :: .long tl :: .long tg :: .int (bI tB) :: .int tM :: .int tb :: .long tv :: .long tw :: .long tT :: .long tr :: .long tm :: .long tf :: .ref aG :: .ref aE :: .ref aU :: [])))]) (wr := [(aM, .inl (κ.z 0, 6, .inl (aN gM))), (aL, .inl (κ.z 1, 48, .inr (.inl gL))), (aH, .inl (κ.z 1, 48, .inr (.inl gH))), (aI, .inl (κ.z 1, 48, .inr (.inl gI))), (aX, .inl (κ.z 0, 6, .inl gX)), (aF, .inl (κ.z 1, 6, .inr (.inl ((meS tD tN gL gH gI gX gF gY i j).1)))), (aY, .inl (κ.z 1, 6, .inr (.inl ((meS tD tN gL gH gI gX gF gY i j).2))))]) (c_T_growth κ.l κ.D κ.z m tS tD tE tN tA tL aK aP aQ aT aW aO aM aL aH aI aS aR aX aF aY aJ tl tg tB tM tb tv tw tT tr tm tf aG aE aU (tN - (gI (8 * i + j))) ) 0 rfl rfl m552 m553 m19 m36 (by decide +kernel) rfl (Nat.le_of_ble_eq_true rfl) ⟨by decide, by decide⟩ ⟨by decide, by decide⟩ rfl rfl m554 d_T_measure_32 (fun v w1 hg => ?_)
    obtain ⟨rfl, rfl⟩ := hg
    show V κ 9 0 0 35 [(2, .int (nI (8 * i + j))), (0, .ref m), (1, .int (nI i))] [.long (f_T_growth tD (tN - (gI (8 * i + j))))] [(m, .inr (5, (.int (nI tS) :: .int tD :: .int tE :: .long tN :: .int (bI tA) :: .long tL :: .ref aK :: .ref aP :: .ref aQ :: .ref aT :: .ref aW :: .ref aO :: .ref aM :: .ref aL :: .ref aH :: .ref aI :: .ref aS :: .ref aR :: .ref aX :: .ref aF :: .ref aY :: .ref aJ :: .long tl :: .long tg :: .int (bI tB) :: .int tM :: .int tb :: .long tv :: .long tw :: .long tT :: .long tr :: .long tm :: .long tf :: .ref aG :: .ref aE :: .ref aU :: []))), (aM, .inl (κ.z 0, 6, .inl (aN gM))), (aL, .inl (κ.z 1, 48, .inr (.inl gL))), (aH, .inl (κ.z 1, 48, .inr (.inl gH))), (aI, .inl (κ.z 1, 48, .inr (.inl gI))), (aX, .inl (κ.z 0, 6, .inl gX)), (aF, .inl (κ.z 1, 6, .inr (.inl ((meS tD tN gL gH gI gX gF gY i j).1)))), (aY, .inl (κ.z 1, 6, .inr (.inl ((meS tD tN gL gH gI gX gF gY i j).2))))]
    refine v_lstore_n X d_T_measure_35 rfl (by decide) (lv' := [(3, .long (f_T_growth tD (tN - (gI (8 * i + j))))), (2, .int (nI (8 * i + j))), (0, .ref m), (1, .int (nI i))]) rfl ?_
    refine v_aload_n X 2 d_T_measure_36 rfl ?_
    refine v_get X 0 13 rfl rfl li_T (by decide) m440 rfl d_T_measure_37 ?_
    refine v_iload_n X 1 d_T_measure_40 rfl ?_
    refine v_laldN X 2 1 (j := (8 * i + j)) rfl rfl (by omega) (by omega) d_T_measure_41 ?_
    refine v_aload_n X 2 d_T_measure_42 rfl ?_
    refine v_get X 0 18 rfl rfl li_T (by decide) m445 rfl d_T_measure_43 ?_
    refine v_iload_n X 3 d_T_measure_46 rfl ?_
    refine v_ialdN X 5 0 (j := i) rfl rfl (by omega) (by omega) d_T_measure_47 ?_
    refine v_i2l X d_T_measure_48 ?_
    show V κ 9 0 0 49 [(3, .long (f_T_growth tD (tN - (gI (8 * i + j))))), (2, .int (nI (8 * i + j))), (0, .ref m), (1, .int (nI i))] [.long ((gX i).toInt64), .long (gL (8 * i + j))] [(m, .inr (5, (.int (nI tS) :: .int tD :: .int tE :: .long tN :: .int (bI tA) :: .long tL :: .ref aK :: .ref aP :: .ref aQ :: .ref aT :: .ref aW :: .ref aO :: .ref aM :: .ref aL :: .ref aH :: .ref aI :: .ref aS :: .ref aR :: .ref aX :: .ref aF :: .ref aY :: .ref aJ :: .long tl :: .long tg :: .int (bI tB) :: .int tM :: .int tb :: .long tv :: .long tw :: .long tT :: .long tr :: .long tm :: .long tf :: .ref aG :: .ref aE :: .ref aU :: []))), (aM, .inl (κ.z 0, 6, .inl (aN gM))), (aL, .inl (κ.z 1, 48, .inr (.inl gL))), (aH, .inl (κ.z 1, 48, .inr (.inl gH))), (aI, .inl (κ.z 1, 48, .inr (.inl gI))), (aX, .inl (κ.z 0, 6, .inl gX)), (aF, .inl (κ.z 1, 6, .inr (.inl ((meS tD tN gL gH gI gX gF gY i j).1)))), (aY, .inl (κ.z 1, 6, .inr (.inl ((meS tD tN gL gH gI gX gF gY i j).2))))]
    refine v_lsub X d_T_measure_49 ?_
    refine v_lload_n X 0 d_T_measure_50 rfl ?_
    refine v_lsub X d_T_measure_51 ?_
    refine v_lstore X d_T_measure_52 (by decide) (lv' := [(5, .long (((gL (8 * i + j)) - ((gX i).toInt64)) - (f_T_growth tD (tN - (gI (8 * i + j)))))), (3, .long (f_T_growth tD (tN - (gI (8 * i + j))))), (2, .int (nI (8 * i + j))), (0, .ref m), (1, .int (nI i))]) rfl ?_
    refine v_aload_n X 3 d_T_measure_54 rfl ?_
    refine v_get X 0 14 rfl rfl li_T (by decide) m441 rfl d_T_measure_55 ?_
    refine v_iload_n X 2 d_T_measure_58 rfl ?_
    refine v_laldN X 3 1 (j := (8 * i + j)) rfl rfl (by omega) (by omega) d_T_measure_59 ?_
    refine v_aload_n X 3 d_T_measure_60 rfl ?_
    refine v_get X 0 18 rfl rfl li_T (by decide) m445 rfl d_T_measure_61 ?_
    refine v_iload_n X 4 d_T_measure_64 rfl ?_
    refine v_ialdN X 5 0 (j := i) rfl rfl (by omega) (by omega) d_T_measure_65 ?_
    refine v_i2l X d_T_measure_66 ?_
    refine v_ladd X d_T_measure_67 ?_
    refine v_lload_n X 1 d_T_measure_68 rfl ?_
    show V κ 9 0 0 69 [(5, .long (((gL (8 * i + j)) - ((gX i).toInt64)) - (f_T_growth tD (tN - (gI (8 * i + j)))))), (3, .long (f_T_growth tD (tN - (gI (8 * i + j))))), (2, .int (nI (8 * i + j))), (0, .ref m), (1, .int (nI i))] [.long (f_T_growth tD (tN - (gI (8 * i + j)))), .long ((gH (8 * i + j)) + ((gX i).toInt64))] [(m, .inr (5, (.int (nI tS) :: .int tD :: .int tE :: .long tN :: .int (bI tA) :: .long tL :: .ref aK :: .ref aP :: .ref aQ :: .ref aT :: .ref aW :: .ref aO :: .ref aM :: .ref aL :: .ref aH :: .ref aI :: .ref aS :: .ref aR :: .ref aX :: .ref aF :: .ref aY :: .ref aJ :: .long tl :: .long tg :: .int (bI tB) :: .int tM :: .int tb :: .long tv :: .long tw :: .long tT :: .long tr :: .long tm :: .long tf :: .ref aG :: .ref aE :: .ref aU :: []))), (aM, .inl (κ.z 0, 6, .inl (aN gM))), (aL, .inl (κ.z 1, 48, .inr (.inl gL))), (aH, .inl (κ.z 1, 48, .inr (.inl gH))), (aI, .inl (κ.z 1, 48, .inr (.inl gI))), (aX, .inl (κ.z 0, 6, .inl gX)), (aF, .inl (κ.z 1, 6, .inr (.inl ((meS tD tN gL gH gI gX gF gY i j).1)))), (aY, .inl (κ.z 1, 6, .inr (.inl ((meS tD tN gL gH gI gX gF gY i j).2))))]
    refine v_ladd X d_T_measure_69 ?_
    refine v_lstore X d_T_measure_70 (by decide) (lv' := [(7, .long (((gH (8 * i + j)) + ((gX i).toInt64)) + (f_T_growth tD (tN - (gI (8 * i + j)))))), (5, .long (((gL (8 * i + j)) - ((gX i).toInt64)) - (f_T_growth tD (tN - (gI (8 * i + j)))))), (3, .long (f_T_growth tD (tN - (gI (8 * i + j))))), (2, .int (nI (8 * i + j))), (0, .ref m), (1, .int (nI i))]) rfl ?_
    refine v_iload_n X 3 d_T_measure_72 rfl ?_
    refine v_bipush X 8 d_T_measure_73 (by decide) ?_
    refine v_iload_n X 5 d_T_measure_75 rfl ?_
    refine v_imulN X (a := 8) (b := i) d_T_measure_76 ?_
    suffices hm77 : V κ 9 0 0 118 [(7, .long (((gH (8 * i + j)) + ((gX i).toInt64)) + (f_T_growth tD (tN - (gI (8 * i + j)))))), (5, .long (((gL (8 * i + j)) - ((gX i).toInt64)) - (f_T_growth tD (tN - (gI (8 * i + j)))))), (3, .long (f_T_growth tD (tN - (gI (8 * i + j))))), (2, .int (nI (8 * i + j))), (0, .ref m), (1, .int (nI i))] [] [(m, .inr (5, (.int (nI tS) :: .int tD :: .int tE :: .long tN :: .int (bI tA) :: .long tL :: .ref aK :: .ref aP :: .ref aQ :: .ref aT :: .ref aW :: .ref aO :: .ref aM :: .ref aL :: .ref aH :: .ref aI :: .ref aS :: .ref aR :: .ref aX :: .ref aF :: .ref aY :: .ref aJ :: .long tl :: .long tg :: .int (bI tB) :: .int tM :: .int tb :: .long tv :: .long tw :: .long tT :: .long tr :: .long tm :: .long tf :: .ref aG :: .ref aE :: .ref aU :: []))), (aM, .inl (κ.z 0, 6, .inl (aN gM))), (aL, .inl (κ.z 1, 48, .inr (.inl gL))), (aH, .inl (κ.z 1, 48, .inr (.inl gH))), (aI, .inl (κ.z 1, 48, .inr (.inl gI))), (aX, .inl (κ.z 0, 6, .inl gX)), (aF, .inl (κ.z 1, 6, .inr (.inl (if (8 * i + j) = (8 * i) then vp_updL ((meS tD tN gL gH gI gX gF gY i j).1) i (((gL (8 * i + j)) - ((gX i).toInt64)) - (f_T_growth tD (tN - (gI (8 * i + j))))) else if ((((meS tD tN gL gH gI gX gF gY i j).2) i) - (((meS tD tN gL gH gI gX gF gY i j).1) i)) ≤ ((((gH (8 * i + j)) + ((gX i).toInt64)) + (f_T_growth tD (tN - (gI (8 * i + j))))) - (((gL (8 * i + j)) - ((gX i).toInt64)) - (f_T_growth tD (tN - (gI (8 * i + j)))))) then (meS tD tN gL gH gI gX gF gY i j).1 else vp_updL ((meS tD tN gL gH gI gX gF gY i j).1) i (((gL (8 * i + j)) - ((gX i).toInt64)) - (f_T_growth tD (tN - (gI (8 * i + j))))))))), (aY, .inl (κ.z 1, 6, .inr (.inl (if (8 * i + j) = (8 * i) then vp_updL ((meS tD tN gL gH gI gX gF gY i j).2) i (((gH (8 * i + j)) + ((gX i).toInt64)) + (f_T_growth tD (tN - (gI (8 * i + j))))) else if ((((meS tD tN gL gH gI gX gF gY i j).2) i) - (((meS tD tN gL gH gI gX gF gY i j).1) i)) ≤ ((((gH (8 * i + j)) + ((gX i).toInt64)) + (f_T_growth tD (tN - (gI (8 * i + j))))) - (((gL (8 * i + j)) - ((gX i).toInt64)) - (f_T_growth tD (tN - (gI (8 * i + j)))))) then (meS tD tN gL gH gI gX gF gY i j).2 else vp_updL ((meS tD tN gL gH gI gX gF gY i j).2) i (((gH (8 * i + j)) + ((gX i).toInt64)) + (f_T_growth tD (tN - (gI (8 * i + j)))))))))] by
      refine v_icmpN_eq X 102 (a := (8 * i + j)) (b := (8 * i)) d_T_measure_77 (by decide) (by omega) (by omega) (fun c77 => ?_) (fun c77 => ?_)
      · skip
        refine v_aload_n X 4 d_T_measure_102 rfl ?_
        refine v_get X 0 19 rfl rfl li_T (by decide) m446 rfl d_T_measure_103 ?_
        refine v_iload_n X 5 d_T_measure_106 rfl ?_
        refine v_lload X 1 d_T_measure_107 rfl ?_
        refine v_lastN X 6 1 (j := i) (x := (((gL (8 * i + j)) - ((gX i).toInt64)) - (f_T_growth tD (tN - (gI (8 * i + j)))))) rfl rfl (by omega) (by omega) d_T_measure_109 (ws' := [(m, .inr (5, (.int (nI tS) :: .int tD :: .int tE :: .long tN :: .int (bI tA) :: .long tL :: .ref aK :: .ref aP :: .ref aQ :: .ref aT :: .ref aW :: .ref aO :: .ref aM :: .ref aL :: .ref aH :: .ref aI :: .ref aS :: .ref aR :: .ref aX :: .ref aF :: .ref aY :: .ref aJ :: .long tl :: .long tg :: .int (bI tB) :: .int tM :: .int tb :: .long tv :: .long tw :: .long tT :: .long tr :: .long tm :: .long tf :: .ref aG :: .ref aE :: .ref aU :: []))), (aM, .inl (κ.z 0, 6, .inl (aN gM))), (aL, .inl (κ.z 1, 48, .inr (.inl gL))), (aH, .inl (κ.z 1, 48, .inr (.inl gH))), (aI, .inl (κ.z 1, 48, .inr (.inl gI))), (aX, .inl (κ.z 0, 6, .inl gX)), (aF, .inl (κ.z 1, 6, .inr (.inl (vp_updL ((meS tD tN gL gH gI gX gF gY i j).1) i (((gL (8 * i + j)) - ((gX i).toInt64)) - (f_T_growth tD (tN - (gI (8 * i + j))))))))), (aY, .inl (κ.z 1, 6, .inr (.inl ((meS tD tN gL gH gI gX gF gY i j).2))))]) rfl ?_
        refine v_aload_n X 4 d_T_measure_110 rfl ?_
        refine v_get X 0 20 rfl rfl li_T (by decide) m447 rfl d_T_measure_111 ?_
        refine v_iload_n X 5 d_T_measure_114 rfl ?_
        refine v_lload X 0 d_T_measure_115 rfl ?_
        refine v_lastN X 7 1 (j := i) (x := (((gH (8 * i + j)) + ((gX i).toInt64)) + (f_T_growth tD (tN - (gI (8 * i + j)))))) rfl rfl (by omega) (by omega) d_T_measure_117 (ws' := [(m, .inr (5, (.int (nI tS) :: .int tD :: .int tE :: .long tN :: .int (bI tA) :: .long tL :: .ref aK :: .ref aP :: .ref aQ :: .ref aT :: .ref aW :: .ref aO :: .ref aM :: .ref aL :: .ref aH :: .ref aI :: .ref aS :: .ref aR :: .ref aX :: .ref aF :: .ref aY :: .ref aJ :: .long tl :: .long tg :: .int (bI tB) :: .int tM :: .int tb :: .long tv :: .long tw :: .long tT :: .long tr :: .long tm :: .long tf :: .ref aG :: .ref aE :: .ref aU :: []))), (aM, .inl (κ.z 0, 6, .inl (aN gM))), (aL, .inl (κ.z 1, 48, .inr (.inl gL))), (aH, .inl (κ.z 1, 48, .inr (.inl gH))), (aI, .inl (κ.z 1, 48, .inr (.inl gI))), (aX, .inl (κ.z 0, 6, .inl gX)), (aF, .inl (κ.z 1, 6, .inr (.inl (vp_updL ((meS tD tN gL gH gI gX gF gY i j).1) i (((gL (8 * i + j)) - ((gX i).toInt64)) - (f_T_growth tD (tN - (gI (8 * i + j))))))))), (aY, .inl (κ.z 1, 6, .inr (.inl (vp_updL ((meS tD tN gL gH gI gX gF gY i j).2) i (((gH (8 * i + j)) + ((gX i).toInt64)) + (f_T_growth tD (tN - (gI (8 * i + j)))))))))]) rfl ?_
        have h9 := hm77; simp only [if_pos c77] at h9; first | exact h9 | (simp only [if_pos c77]; exact h9)
      · skip
        refine v_lload X 0 d_T_measure_80 rfl ?_
        refine v_lload X 1 d_T_measure_82 rfl ?_
        refine v_lsub X d_T_measure_84 ?_
        refine v_aload_n X 4 d_T_measure_85 rfl ?_
        refine v_get X 0 20 rfl rfl li_T (by decide) m447 rfl d_T_measure_86 ?_
        refine v_iload_n X 5 d_T_measure_89 rfl ?_
        refine v_laldN X 7 1 (j := i) rfl rfl (by omega) (by omega) d_T_measure_90 ?_
        refine v_aload_n X 4 d_T_measure_91 rfl ?_
        refine v_get X 0 19 rfl rfl li_T (by decide) m446 rfl d_T_measure_92 ?_
        refine v_iload_n X 5 d_T_measure_95 rfl ?_
        refine v_laldN X 6 1 (j := i) rfl rfl (by omega) (by omega) d_T_measure_96 ?_
        refine v_lsub X d_T_measure_97 ?_
        suffices hm98 : V κ 9 0 0 118 [(7, .long (((gH (8 * i + j)) + ((gX i).toInt64)) + (f_T_growth tD (tN - (gI (8 * i + j)))))), (5, .long (((gL (8 * i + j)) - ((gX i).toInt64)) - (f_T_growth tD (tN - (gI (8 * i + j)))))), (3, .long (f_T_growth tD (tN - (gI (8 * i + j))))), (2, .int (nI (8 * i + j))), (0, .ref m), (1, .int (nI i))] [] [(m, .inr (5, (.int (nI tS) :: .int tD :: .int tE :: .long tN :: .int (bI tA) :: .long tL :: .ref aK :: .ref aP :: .ref aQ :: .ref aT :: .ref aW :: .ref aO :: .ref aM :: .ref aL :: .ref aH :: .ref aI :: .ref aS :: .ref aR :: .ref aX :: .ref aF :: .ref aY :: .ref aJ :: .long tl :: .long tg :: .int (bI tB) :: .int tM :: .int tb :: .long tv :: .long tw :: .long tT :: .long tr :: .long tm :: .long tf :: .ref aG :: .ref aE :: .ref aU :: []))), (aM, .inl (κ.z 0, 6, .inl (aN gM))), (aL, .inl (κ.z 1, 48, .inr (.inl gL))), (aH, .inl (κ.z 1, 48, .inr (.inl gH))), (aI, .inl (κ.z 1, 48, .inr (.inl gI))), (aX, .inl (κ.z 0, 6, .inl gX)), (aF, .inl (κ.z 1, 6, .inr (.inl (if ((((meS tD tN gL gH gI gX gF gY i j).2) i) - (((meS tD tN gL gH gI gX gF gY i j).1) i)) ≤ ((((gH (8 * i + j)) + ((gX i).toInt64)) + (f_T_growth tD (tN - (gI (8 * i + j))))) - (((gL (8 * i + j)) - ((gX i).toInt64)) - (f_T_growth tD (tN - (gI (8 * i + j)))))) then (meS tD tN gL gH gI gX gF gY i j).1 else vp_updL ((meS tD tN gL gH gI gX gF gY i j).1) i (((gL (8 * i + j)) - ((gX i).toInt64)) - (f_T_growth tD (tN - (gI (8 * i + j))))))))), (aY, .inl (κ.z 1, 6, .inr (.inl (if ((((meS tD tN gL gH gI gX gF gY i j).2) i) - (((meS tD tN gL gH gI gX gF gY i j).1) i)) ≤ ((((gH (8 * i + j)) + ((gX i).toInt64)) + (f_T_growth tD (tN - (gI (8 * i + j))))) - (((gL (8 * i + j)) - ((gX i).toInt64)) - (f_T_growth tD (tN - (gI (8 * i + j)))))) then (meS tD tN gL gH gI gX gF gY i j).2 else vp_updL ((meS tD tN gL gH gI gX gF gY i j).2) i (((gH (8 * i + j)) + ((gX i).toInt64)) + (f_T_growth tD (tN - (gI (8 * i + j)))))))))] by
          refine v_lcmp_ge X 118 d_T_measure_98 d_T_measure_99 (by decide) (fun c98 => ?_) (fun c98 => ?_)
          · skip
            have h9 := hm98; simp only [if_pos c98] at h9; first | exact h9 | (simp only [if_pos c98]; exact h9)
          · skip
            refine v_aload_n X 4 d_T_measure_102 rfl ?_
            refine v_get X 0 19 rfl rfl li_T (by decide) m446 rfl d_T_measure_103 ?_
            refine v_iload_n X 5 d_T_measure_106 rfl ?_
            refine v_lload X 1 d_T_measure_107 rfl ?_
            refine v_lastN X 6 1 (j := i) (x := (((gL (8 * i + j)) - ((gX i).toInt64)) - (f_T_growth tD (tN - (gI (8 * i + j)))))) rfl rfl (by omega) (by omega) d_T_measure_109 (ws' := [(m, .inr (5, (.int (nI tS) :: .int tD :: .int tE :: .long tN :: .int (bI tA) :: .long tL :: .ref aK :: .ref aP :: .ref aQ :: .ref aT :: .ref aW :: .ref aO :: .ref aM :: .ref aL :: .ref aH :: .ref aI :: .ref aS :: .ref aR :: .ref aX :: .ref aF :: .ref aY :: .ref aJ :: .long tl :: .long tg :: .int (bI tB) :: .int tM :: .int tb :: .long tv :: .long tw :: .long tT :: .long tr :: .long tm :: .long tf :: .ref aG :: .ref aE :: .ref aU :: []))), (aM, .inl (κ.z 0, 6, .inl (aN gM))), (aL, .inl (κ.z 1, 48, .inr (.inl gL))), (aH, .inl (κ.z 1, 48, .inr (.inl gH))), (aI, .inl (κ.z 1, 48, .inr (.inl gI))), (aX, .inl (κ.z 0, 6, .inl gX)), (aF, .inl (κ.z 1, 6, .inr (.inl (vp_updL ((meS tD tN gL gH gI gX gF gY i j).1) i (((gL (8 * i + j)) - ((gX i).toInt64)) - (f_T_growth tD (tN - (gI (8 * i + j))))))))), (aY, .inl (κ.z 1, 6, .inr (.inl ((meS tD tN gL gH gI gX gF gY i j).2))))]) rfl ?_
            refine v_aload_n X 4 d_T_measure_110 rfl ?_
            refine v_get X 0 20 rfl rfl li_T (by decide) m447 rfl d_T_measure_111 ?_
            refine v_iload_n X 5 d_T_measure_114 rfl ?_
            refine v_lload X 0 d_T_measure_115 rfl ?_
            refine v_lastN X 7 1 (j := i) (x := (((gH (8 * i + j)) + ((gX i).toInt64)) + (f_T_growth tD (tN - (gI (8 * i + j)))))) rfl rfl (by omega) (by omega) d_T_measure_117 (ws' := [(m, .inr (5, (.int (nI tS) :: .int tD :: .int tE :: .long tN :: .int (bI tA) :: .long tL :: .ref aK :: .ref aP :: .ref aQ :: .ref aT :: .ref aW :: .ref aO :: .ref aM :: .ref aL :: .ref aH :: .ref aI :: .ref aS :: .ref aR :: .ref aX :: .ref aF :: .ref aY :: .ref aJ :: .long tl :: .long tg :: .int (bI tB) :: .int tM :: .int tb :: .long tv :: .long tw :: .long tT :: .long tr :: .long tm :: .long tf :: .ref aG :: .ref aE :: .ref aU :: []))), (aM, .inl (κ.z 0, 6, .inl (aN gM))), (aL, .inl (κ.z 1, 48, .inr (.inl gL))), (aH, .inl (κ.z 1, 48, .inr (.inl gH))), (aI, .inl (κ.z 1, 48, .inr (.inl gI))), (aX, .inl (κ.z 0, 6, .inl gX)), (aF, .inl (κ.z 1, 6, .inr (.inl (vp_updL ((meS tD tN gL gH gI gX gF gY i j).1) i (((gL (8 * i + j)) - ((gX i).toInt64)) - (f_T_growth tD (tN - (gI (8 * i + j))))))))), (aY, .inl (κ.z 1, 6, .inr (.inl (vp_updL ((meS tD tN gL gH gI gX gF gY i j).2) i (((gH (8 * i + j)) + ((gX i).toInt64)) + (f_T_growth tD (tN - (gI (8 * i + j)))))))))]) rfl ?_
            have h9 := hm98; simp only [if_neg c98] at h9; first | exact h9 | (simp only [if_neg c98]; exact h9)
        have h9 := hm77; simp only [if_neg c77] at h9; first | exact h9 | (simp only [if_neg c77]; exact h9)
    refine v_iinc X 3 d_T_measure_118 (x := nI (8 * i + j)) rfl (v := nI ((8 * i + j) + 1)) (nI_1 _) (by decide) (lv' := [(2, .int (nI ((8 * i + j) + 1))), (7, .long (((gH (8 * i + j)) + ((gX i).toInt64)) + (f_T_growth tD (tN - (gI (8 * i + j)))))), (5, .long (((gL (8 * i + j)) - ((gX i).toInt64)) - (f_T_growth tD (tN - (gI (8 * i + j)))))), (3, .long (f_T_growth tD (tN - (gI (8 * i + j))))), (0, .ref m), (1, .int (nI i))]) rfl ?_
    refine v_goto X 5 d_T_measure_121 (by decide) ?_
    refine v_lv [0, 4, 5] rfl ?_
    exact v_eq rfl (by rfl) rfl (by rfl) (ih (j + 1) (by omega))

set_option maxHeartbeats 4000000 in
set_option maxRecDepth 100000 in
theorem c_T_measure (l : Launch) (D : va_G) (z : Nat → ClassId) (m : Nat) (tS : Nat) (tD : Int32) (tE : Int32) (tN : Int64) (tA : Bool) (tL : Int64) (aK : Nat) (aP : Nat) (aQ : Nat) (aT : Nat) (aW : Nat) (aO : Nat) (aM : Nat) (aL : Nat) (aH : Nat) (aI : Nat) (aS : Nat) (aR : Nat) (aX : Nat) (aF : Nat) (aY : Nat) (aJ : Nat) (tl : Int64) (tg : Int64) (tB : Bool) (tM : Int32) (tb : Int32) (tv : Int64) (tw : Int64) (tT : Int64) (tr : Int64) (tm : Int64) (tf : Int64) (aG : Nat) (aE : Nat) (aU : Nat) (gM : Nat → Nat) (gL : Nat → Int64) (gH : Nat → Int64) (gI : Nat → Int64) (gX : Nat → Int32) (gF : Nat → Int64) (gY : Nat → Int64) (i : Nat) (hi6 : i < 6) (hs8 : gM i ≤ 8) : Ctr l D z y_T_measure b_T_measure 9 none { frames := 1, cells := 0, slots := 0, locals := 26 } [.ref m, .int (nI i)] [(m, .inr (5, (.int (nI tS) :: .int tD :: .int tE :: .long tN :: .int (bI tA) :: .long tL :: .ref aK :: .ref aP :: .ref aQ :: .ref aT :: .ref aW :: .ref aO :: .ref aM :: .ref aL :: .ref aH :: .ref aI :: .ref aS :: .ref aR :: .ref aX :: .ref aF :: .ref aY :: .ref aJ :: .long tl :: .long tg :: .int (bI tB) :: .int tM :: .int tb :: .long tv :: .long tw :: .long tT :: .long tr :: .long tm :: .long tf :: .ref aG :: .ref aE :: .ref aU :: []))), (aM, .inl (z 0, 6, .inl (aN gM))), (aL, .inl (z 1, 48, .inr (.inl gL))), (aH, .inl (z 1, 48, .inr (.inl gH))), (aI, .inl (z 1, 48, .inr (.inl gI))), (aX, .inl (z 0, 6, .inl gX)), (aF, .inl (z 1, 6, .inr (.inl gF))), (aY, .inl (z 1, 6, .inr (.inl gY)))] (fun v w => v = none ∧ w = [(m, .inr (5, (.int (nI tS) :: .int tD :: .int tE :: .long tN :: .int (bI tA) :: .long tL :: .ref aK :: .ref aP :: .ref aQ :: .ref aT :: .ref aW :: .ref aO :: .ref aM :: .ref aL :: .ref aH :: .ref aI :: .ref aS :: .ref aR :: .ref aX :: .ref aF :: .ref aY :: .ref aJ :: .long tl :: .long tg :: .int (bI tB) :: .int tM :: .int tb :: .long tv :: .long tw :: .long tT :: .long tr :: .long tm :: .long tf :: .ref aG :: .ref aE :: .ref aU :: []))), (aM, .inl (z 0, 6, .inl (aN gM))), (aL, .inl (z 1, 48, .inr (.inl gL))), (aH, .inl (z 1, 48, .inr (.inl gH))), (aI, .inl (z 1, 48, .inr (.inl gI))), (aX, .inl (z 0, 6, .inl gX)), (aF, .inl (z 1, 6, .inr (.inl ((meS tD tN gL gH gI gX gF gY i (gM i)).1)))), (aY, .inl (z 1, 6, .inr (.inl ((meS tD tN gL gH gI gX gF gY i (gM i)).2))))]) 0 0 := by
  refine met_V (own := R_T) (nm := "measure") (by decide +kernel) rfl rfl (Nat.le_of_ble_eq_true rfl) ?_
  intro κ hl hD hz X Y
  subst hl
  subst hD
  subst hz
  show V κ 9 0 0 0 [(0, .ref m), (1, .int (nI i))] [] [(m, .inr (5, (.int (nI tS) :: .int tD :: .int tE :: .long tN :: .int (bI tA) :: .long tL :: .ref aK :: .ref aP :: .ref aQ :: .ref aT :: .ref aW :: .ref aO :: .ref aM :: .ref aL :: .ref aH :: .ref aI :: .ref aS :: .ref aR :: .ref aX :: .ref aF :: .ref aY :: .ref aJ :: .long tl :: .long tg :: .int (bI tB) :: .int tM :: .int tb :: .long tv :: .long tw :: .long tT :: .long tr :: .long tm :: .long tf :: .ref aG :: .ref aE :: .ref aU :: []))), (aM, .inl (κ.z 0, 6, .inl (aN gM))), (aL, .inl (κ.z 1, 48, .inr (.inl gL))), (aH, .inl (κ.z 1, 48, .inr (.inl gH))), (aI, .inl (κ.z 1, 48, .inr (.inl gI))), (aX, .inl (κ.z 0, 6, .inl gX)), (aF, .inl (κ.z 1, 6, .inr (.inl gF))), (aY, .inl (κ.z 1, 6, .inr (.inl gY)))]
  refine v_bipush X 8 d_T_measure_0 (by decide) ?_
  refine v_iload_n X 1 d_T_measure_2 rfl ?_
  refine v_imulN X (a := 8) (b := i) d_T_measure_3 ?_
  refine v_istore_n X d_T_measure_4 rfl (by decide) (lv' := [(2, .int (nI (8 * i))), (0, .ref m), (1, .int (nI i))]) rfl ?_
  show V κ 9 0 0 5 [(2, .int (nI (8 * i + 0))), (0, .ref m), (1, .int (nI i))] [] [(m, .inr (5, (.int (nI tS) :: .int tD :: .int tE :: .long tN :: .int (bI tA) :: .long tL :: .ref aK :: .ref aP :: .ref aQ :: .ref aT :: .ref aW :: .ref aO :: .ref aM :: .ref aL :: .ref aH :: .ref aI :: .ref aS :: .ref aR :: .ref aX :: .ref aF :: .ref aY :: .ref aJ :: .long tl :: .long tg :: .int (bI tB) :: .int tM :: .int tb :: .long tv :: .long tw :: .long tT :: .long tr :: .long tm :: .long tf :: .ref aG :: .ref aE :: .ref aU :: []))), (aM, .inl (κ.z 0, 6, .inl (aN gM))), (aL, .inl (κ.z 1, 48, .inr (.inl gL))), (aH, .inl (κ.z 1, 48, .inr (.inl gH))), (aI, .inl (κ.z 1, 48, .inr (.inl gI))), (aX, .inl (κ.z 0, 6, .inl gX)), (aF, .inl (κ.z 1, 6, .inr (.inl ((meS tD tN gL gH gI gX gF gY i 0).1)))), (aY, .inl (κ.z 1, 6, .inr (.inl ((meS tD tN gL gH gI gX gF gY i 0).2))))]
  refine lp_measure X m tS tD tE tN tA tL aK aP aQ aT aW aO aM aL aH aI aS aR aX aF aY aJ tl tg tB tM tb tv tw tT tr tm tf aG aE aU gM gL gH gI gX gF gY i (by omega) (by omega)  ?_ ((gM i) - 0) 0 (by omega)
  show V κ 9 0 0 124 [(2, .int (nI (8 * i + (gM i)))), (0, .ref m), (1, .int (nI i))] [] [(m, .inr (5, (.int (nI tS) :: .int tD :: .int tE :: .long tN :: .int (bI tA) :: .long tL :: .ref aK :: .ref aP :: .ref aQ :: .ref aT :: .ref aW :: .ref aO :: .ref aM :: .ref aL :: .ref aH :: .ref aI :: .ref aS :: .ref aR :: .ref aX :: .ref aF :: .ref aY :: .ref aJ :: .long tl :: .long tg :: .int (bI tB) :: .int tM :: .int tb :: .long tv :: .long tw :: .long tT :: .long tr :: .long tm :: .long tf :: .ref aG :: .ref aE :: .ref aU :: []))), (aM, .inl (κ.z 0, 6, .inl (aN gM))), (aL, .inl (κ.z 1, 48, .inr (.inl gL))), (aH, .inl (κ.z 1, 48, .inr (.inl gH))), (aI, .inl (κ.z 1, 48, .inr (.inl gI))), (aX, .inl (κ.z 0, 6, .inl gX)), (aF, .inl (κ.z 1, 6, .inr (.inl ((meS tD tN gL gH gI gX gF gY i (gM i)).1)))), (aY, .inl (κ.z 1, 6, .inr (.inl ((meS tD tN gL gH gI gX gF gY i (gM i)).2))))]
  exact v_vret X Y (by decide) (by decide) d_T_measure_124 ⟨rfl, rfl⟩

def f_T_lowG (tD : Int32) (tN : Int64) (gM : Nat → Nat) (gL : Nat → Int64) (gH : Nat → Int64) (gI : Nat → Int64) (gX : Nat → Int32) (gF : Nat → Int64) (gY : Nat → Int64) (i : Nat) : Int64 := if (gM i) = 0 then (-4611686018427387904) else ((meS tD tN gL gH gI gX gF gY i (gM i)).1) i
def f_T_lowG_r6 (tD : Int32) (tN : Int64) (gM : Nat → Nat) (gL : Nat → Int64) (gH : Nat → Int64) (gI : Nat → Int64) (gX : Nat → Int32) (gF : Nat → Int64) (gY : Nat → Int64) (i : Nat) : Nat → Int64 := if (gM i) = 0 then gF else (meS tD tN gL gH gI gX gF gY i (gM i)).1
def f_T_lowG_r7 (tD : Int32) (tN : Int64) (gM : Nat → Nat) (gL : Nat → Int64) (gH : Nat → Int64) (gI : Nat → Int64) (gX : Nat → Int32) (gF : Nat → Int64) (gY : Nat → Int64) (i : Nat) : Nat → Int64 := if (gM i) = 0 then gY else (meS tD tN gL gH gI gX gF gY i (gM i)).2
set_option maxHeartbeats 4000000 in
set_option maxRecDepth 100000 in
theorem c_T_lowG (l : Launch) (D : va_G) (z : Nat → ClassId) (m : Nat) (tS : Nat) (tD : Int32) (tE : Int32) (tN : Int64) (tA : Bool) (tL : Int64) (aK : Nat) (aP : Nat) (aQ : Nat) (aT : Nat) (aW : Nat) (aO : Nat) (aM : Nat) (aL : Nat) (aH : Nat) (aI : Nat) (aS : Nat) (aR : Nat) (aX : Nat) (aF : Nat) (aY : Nat) (aJ : Nat) (tl : Int64) (tg : Int64) (tB : Bool) (tM : Int32) (tb : Int32) (tv : Int64) (tw : Int64) (tT : Int64) (tr : Int64) (tm : Int64) (tf : Int64) (aG : Nat) (aE : Nat) (aU : Nat) (gM : Nat → Nat) (gL : Nat → Int64) (gH : Nat → Int64) (gI : Nat → Int64) (gX : Nat → Int32) (gF : Nat → Int64) (gY : Nat → Int64) (i : Nat) (h6 : tS ≤ 6) (hi9 : i < tS) (hs8 : gM i ≤ 8) : Ctr l D z y_T_low b_T_low 2 (some .long) { frames := 2, cells := 0, slots := 0, locals := 54 } [.ref m, .int (nI i)] [(m, .inr (5, (.int (nI tS) :: .int tD :: .int tE :: .long tN :: .int (bI tA) :: .long tL :: .ref aK :: .ref aP :: .ref aQ :: .ref aT :: .ref aW :: .ref aO :: .ref aM :: .ref aL :: .ref aH :: .ref aI :: .ref aS :: .ref aR :: .ref aX :: .ref aF :: .ref aY :: .ref aJ :: .long tl :: .long tg :: .int (bI tB) :: .int tM :: .int tb :: .long tv :: .long tw :: .long tT :: .long tr :: .long tm :: .long tf :: .ref aG :: .ref aE :: .ref aU :: []))), (aM, .inl (z 0, 6, .inl (aN gM))), (aL, .inl (z 1, 48, .inr (.inl gL))), (aH, .inl (z 1, 48, .inr (.inl gH))), (aI, .inl (z 1, 48, .inr (.inl gI))), (aX, .inl (z 0, 6, .inl gX)), (aF, .inl (z 1, 6, .inr (.inl gF))), (aY, .inl (z 1, 6, .inr (.inl gY)))] (fun v w => v = some (.long (f_T_lowG tD tN gM gL gH gI gX gF gY i)) ∧ w = [(m, .inr (5, (.int (nI tS) :: .int tD :: .int tE :: .long tN :: .int (bI tA) :: .long tL :: .ref aK :: .ref aP :: .ref aQ :: .ref aT :: .ref aW :: .ref aO :: .ref aM :: .ref aL :: .ref aH :: .ref aI :: .ref aS :: .ref aR :: .ref aX :: .ref aF :: .ref aY :: .ref aJ :: .long tl :: .long tg :: .int (bI tB) :: .int tM :: .int tb :: .long tv :: .long tw :: .long tT :: .long tr :: .long tm :: .long tf :: .ref aG :: .ref aE :: .ref aU :: []))), (aM, .inl (z 0, 6, .inl (aN gM))), (aL, .inl (z 1, 48, .inr (.inl gL))), (aH, .inl (z 1, 48, .inr (.inl gH))), (aI, .inl (z 1, 48, .inr (.inl gI))), (aX, .inl (z 0, 6, .inl gX)), (aF, .inl (z 1, 6, .inr (.inl (f_T_lowG_r6 tD tN gM gL gH gI gX gF gY i)))), (aY, .inl (z 1, 6, .inr (.inl (f_T_lowG_r7 tD tN gM gL gH gI gX gF gY i))))]) 0 0 := by
  refine met_V (own := R_T) (nm := "low") (by decide +kernel) rfl rfl (Nat.le_of_ble_eq_true rfl) ?_
  intro κ hl hD hz X Y
  subst hl
  subst hD
  subst hz
  show V κ 2 0 0 0 [(0, .ref m), (1, .int (nI i))] [] [(m, .inr (5, (.int (nI tS) :: .int tD :: .int tE :: .long tN :: .int (bI tA) :: .long tL :: .ref aK :: .ref aP :: .ref aQ :: .ref aT :: .ref aW :: .ref aO :: .ref aM :: .ref aL :: .ref aH :: .ref aI :: .ref aS :: .ref aR :: .ref aX :: .ref aF :: .ref aY :: .ref aJ :: .long tl :: .long tg :: .int (bI tB) :: .int tM :: .int tb :: .long tv :: .long tw :: .long tT :: .long tr :: .long tm :: .long tf :: .ref aG :: .ref aE :: .ref aU :: []))), (aM, .inl (κ.z 0, 6, .inl (aN gM))), (aL, .inl (κ.z 1, 48, .inr (.inl gL))), (aH, .inl (κ.z 1, 48, .inr (.inl gH))), (aI, .inl (κ.z 1, 48, .inr (.inl gI))), (aX, .inl (κ.z 0, 6, .inl gX)), (aF, .inl (κ.z 1, 6, .inr (.inl gF))), (aY, .inl (κ.z 1, 6, .inr (.inl gY)))]
  refine v_aload_n X 0 d_T_low_0 rfl ?_
  refine v_iload_n X 1 d_T_low_1 rfl ?_
  refine v_callV X (b := m) (k := 0) (n := 0) (n9 := 1) (As := [.int (nI i)]) (rest := []) (wc := [(m, .inr (5, (.int (nI tS) :: .int tD :: .int tE :: .long tN :: .int (bI tA) :: .long tL :: .ref aK :: .ref aP :: .ref aQ :: .ref aT :: .ref aW :: .ref aO :: .ref aM :: .ref aL :: .ref aH :: .ref aI :: .ref aS :: .ref aR :: .ref aX :: .ref aF :: .ref aY :: .ref aJ :: .long tl :: .long tg :: .int (bI tB) :: .int tM :: .int tb :: .long tv :: .long tw :: .long tT :: .long tr :: .long tm :: .long tf :: .ref aG :: .ref aE :: .ref aU :: [])))]) (wr := [(aM, .inl (κ.z 0, 6, .inl (aN gM))), (aL, .inl (κ.z 1, 48, .inr (.inl gL))), (aH, .inl (κ.z 1, 48, .inr (.inl gH))), (aI, .inl (κ.z 1, 48, .inr (.inl gI))), (aX, .inl (κ.z 0, 6, .inl gX)), (aF, .inl (κ.z 1, 6, .inr (.inl gF))), (aY, .inl (κ.z 1, 6, .inr (.inl gY)))]) (c_T_isServerG κ.l κ.D κ.z m tS tD tE tN tA tL aK aP aQ aT aW aO aM aL aH aI aS aR aX aF aY aJ tl tg tB tM tb tv tw tT tr tm tf aG aE aU i h6 hi9) 0 rfl rfl m513 m514 m16 m36 (by decide +kernel) rfl (Nat.le_of_ble_eq_true rfl) ⟨by decide, by decide⟩ ⟨by decide, by decide⟩ rfl rfl m515 d_T_low_2 (fun v w1 hg => ?_)
  obtain ⟨rfl, rfl⟩ := hg
  show V κ 2 0 0 5 [(0, .ref m), (1, .int (nI i))] [.int (bI true)] [(m, .inr (5, (.int (nI tS) :: .int tD :: .int tE :: .long tN :: .int (bI tA) :: .long tL :: .ref aK :: .ref aP :: .ref aQ :: .ref aT :: .ref aW :: .ref aO :: .ref aM :: .ref aL :: .ref aH :: .ref aI :: .ref aS :: .ref aR :: .ref aX :: .ref aF :: .ref aY :: .ref aJ :: .long tl :: .long tg :: .int (bI tB) :: .int tM :: .int tb :: .long tv :: .long tw :: .long tT :: .long tr :: .long tm :: .long tf :: .ref aG :: .ref aE :: .ref aU :: []))), (aM, .inl (κ.z 0, 6, .inl (aN gM))), (aL, .inl (κ.z 1, 48, .inr (.inl gL))), (aH, .inl (κ.z 1, 48, .inr (.inl gH))), (aI, .inl (κ.z 1, 48, .inr (.inl gI))), (aX, .inl (κ.z 0, 6, .inl gX)), (aF, .inl (κ.z 1, 6, .inr (.inl gF))), (aY, .inl (κ.z 1, 6, .inr (.inl gY)))]
  refine v_ifB_eq X 17 (t := true) d_T_low_5 (by decide) (fun c5 => absurd c5 (by decide)) (fun c5 => ?_)
  refine v_aload_n X 0 d_T_low_8 rfl ?_
  refine v_get X 0 12 rfl rfl li_T (by decide) m439 rfl d_T_low_9 ?_
  refine v_iload_n X 1 d_T_low_12 rfl ?_
  refine v_naldN X 1 0 (j := i) rfl rfl (by omega) (by omega) d_T_low_13 ?_
  refine v_ifN_ne X 21 (a := (gM i)) d_T_low_14 (by decide) (by omega) (fun c14 => ?_) (fun c14 => ?_)
  · skip
    refine v_aload_n X 0 d_T_low_21 rfl ?_
    refine v_iload_n X 1 d_T_low_22 rfl ?_
    refine v_callV X (b := m) (k := 0) (n := 0) (n9 := 1) (As := [.int (nI i)]) (rest := []) (wc := [(m, .inr (5, (.int (nI tS) :: .int tD :: .int tE :: .long tN :: .int (bI tA) :: .long tL :: .ref aK :: .ref aP :: .ref aQ :: .ref aT :: .ref aW :: .ref aO :: .ref aM :: .ref aL :: .ref aH :: .ref aI :: .ref aS :: .ref aR :: .ref aX :: .ref aF :: .ref aY :: .ref aJ :: .long tl :: .long tg :: .int (bI tB) :: .int tM :: .int tb :: .long tv :: .long tw :: .long tT :: .long tr :: .long tm :: .long tf :: .ref aG :: .ref aE :: .ref aU :: []))), (aM, .inl (κ.z 0, 6, .inl (aN gM))), (aL, .inl (κ.z 1, 48, .inr (.inl gL))), (aH, .inl (κ.z 1, 48, .inr (.inl gH))), (aI, .inl (κ.z 1, 48, .inr (.inl gI))), (aX, .inl (κ.z 0, 6, .inl gX)), (aF, .inl (κ.z 1, 6, .inr (.inl gF))), (aY, .inl (κ.z 1, 6, .inr (.inl gY)))]) (wr := []) (c_T_measure κ.l κ.D κ.z m tS tD tE tN tA tL aK aP aQ aT aW aO aM aL aH aI aS aR aX aF aY aJ tl tg tB tM tb tv tw tT tr tm tf aG aE aU gM gL gH gI gX gF gY i (by omega) (by omega)) 0 rfl rfl m549 m550 m18 m36 (by decide +kernel) rfl (Nat.le_of_ble_eq_true rfl) ⟨by decide, by decide⟩ ⟨by decide, by decide⟩ rfl rfl m551 d_T_low_23 (fun v w1 hg => ?_)
    obtain ⟨rfl, rfl⟩ := hg
    show V κ 2 0 0 26 [(0, .ref m), (1, .int (nI i))] [] [(m, .inr (5, (.int (nI tS) :: .int tD :: .int tE :: .long tN :: .int (bI tA) :: .long tL :: .ref aK :: .ref aP :: .ref aQ :: .ref aT :: .ref aW :: .ref aO :: .ref aM :: .ref aL :: .ref aH :: .ref aI :: .ref aS :: .ref aR :: .ref aX :: .ref aF :: .ref aY :: .ref aJ :: .long tl :: .long tg :: .int (bI tB) :: .int tM :: .int tb :: .long tv :: .long tw :: .long tT :: .long tr :: .long tm :: .long tf :: .ref aG :: .ref aE :: .ref aU :: []))), (aM, .inl (κ.z 0, 6, .inl (aN gM))), (aL, .inl (κ.z 1, 48, .inr (.inl gL))), (aH, .inl (κ.z 1, 48, .inr (.inl gH))), (aI, .inl (κ.z 1, 48, .inr (.inl gI))), (aX, .inl (κ.z 0, 6, .inl gX)), (aF, .inl (κ.z 1, 6, .inr (.inl ((meS tD tN gL gH gI gX gF gY i (gM i)).1)))), (aY, .inl (κ.z 1, 6, .inr (.inl ((meS tD tN gL gH gI gX gF gY i (gM i)).2))))]
    refine v_aload_n X 0 d_T_low_26 rfl ?_
    refine v_get X 0 19 rfl rfl li_T (by decide) m446 rfl d_T_low_27 ?_
    refine v_iload_n X 1 d_T_low_30 rfl ?_
    refine v_laldN X 6 1 (j := i) rfl rfl (by omega) (by omega) d_T_low_31 ?_
    exact v_lret X Y (by decide) (by decide) d_T_low_32 ⟨by first | (simp only [f_T_lowG, f_T_lowG_r6, f_T_lowG_r7, if_neg c14] <;> rfl) | rfl, by first | (simp only [f_T_lowG, f_T_lowG_r6, f_T_lowG_r7, if_neg c14] <;> rfl) | rfl⟩
  · skip
    refine v_ldc2 X (v := (-4611686018427387904)) m528 d_T_low_17 ?_
    exact v_lret X Y (by decide) (by decide) d_T_low_20 ⟨by first | (simp only [f_T_lowG, f_T_lowG_r6, f_T_lowG_r7, if_pos c14] <;> rfl) | rfl, by first | (simp only [f_T_lowG, f_T_lowG_r6, f_T_lowG_r7, if_pos c14] <;> rfl) | rfl⟩

set_option maxHeartbeats 4000000 in
set_option maxRecDepth 100000 in
theorem c_T_lowB (l : Launch) (D : va_G) (z : Nat → ClassId) (m : Nat) (tS : Nat) (tD : Int32) (tE : Int32) (tN : Int64) (tA : Bool) (tL : Int64) (aK : Nat) (aP : Nat) (aQ : Nat) (aT : Nat) (aW : Nat) (aO : Nat) (aM : Nat) (aL : Nat) (aH : Nat) (aI : Nat) (aS : Nat) (aR : Nat) (aX : Nat) (aF : Nat) (aY : Nat) (aJ : Nat) (tl : Int64) (tg : Int64) (tB : Bool) (tM : Int32) (tb : Int32) (tv : Int64) (tw : Int64) (tT : Int64) (tr : Int64) (tm : Int64) (tf : Int64) (aG : Nat) (aE : Nat) (aU : Nat) (s : Int32) (hb9 : ¬ s < 0 → ¬ s < nI tS) : Ctr l D z y_T_low b_T_low 2 (some .long) { frames := 2, cells := 0, slots := 0, locals := 54 } [.ref m, .int s] [(m, .inr (5, (.int (nI tS) :: .int tD :: .int tE :: .long tN :: .int (bI tA) :: .long tL :: .ref aK :: .ref aP :: .ref aQ :: .ref aT :: .ref aW :: .ref aO :: .ref aM :: .ref aL :: .ref aH :: .ref aI :: .ref aS :: .ref aR :: .ref aX :: .ref aF :: .ref aY :: .ref aJ :: .long tl :: .long tg :: .int (bI tB) :: .int tM :: .int tb :: .long tv :: .long tw :: .long tT :: .long tr :: .long tm :: .long tf :: .ref aG :: .ref aE :: .ref aU :: [])))] (fun v w => v = some (.long (-4611686018427387904)) ∧ w = [(m, .inr (5, (.int (nI tS) :: .int tD :: .int tE :: .long tN :: .int (bI tA) :: .long tL :: .ref aK :: .ref aP :: .ref aQ :: .ref aT :: .ref aW :: .ref aO :: .ref aM :: .ref aL :: .ref aH :: .ref aI :: .ref aS :: .ref aR :: .ref aX :: .ref aF :: .ref aY :: .ref aJ :: .long tl :: .long tg :: .int (bI tB) :: .int tM :: .int tb :: .long tv :: .long tw :: .long tT :: .long tr :: .long tm :: .long tf :: .ref aG :: .ref aE :: .ref aU :: [])))]) 0 0 := by
  refine met_V (own := R_T) (nm := "low") (by decide +kernel) rfl rfl (Nat.le_of_ble_eq_true rfl) ?_
  intro κ hl hD hz X Y
  subst hl
  subst hD
  subst hz
  show V κ 2 0 0 0 [(0, .ref m), (1, .int s)] [] [(m, .inr (5, (.int (nI tS) :: .int tD :: .int tE :: .long tN :: .int (bI tA) :: .long tL :: .ref aK :: .ref aP :: .ref aQ :: .ref aT :: .ref aW :: .ref aO :: .ref aM :: .ref aL :: .ref aH :: .ref aI :: .ref aS :: .ref aR :: .ref aX :: .ref aF :: .ref aY :: .ref aJ :: .long tl :: .long tg :: .int (bI tB) :: .int tM :: .int tb :: .long tv :: .long tw :: .long tT :: .long tr :: .long tm :: .long tf :: .ref aG :: .ref aE :: .ref aU :: [])))]
  refine v_aload_n X 0 d_T_low_0 rfl ?_
  refine v_iload_n X 1 d_T_low_1 rfl ?_
  refine v_callV X (b := m) (k := 0) (n := 0) (n9 := 1) (As := [.int s]) (rest := []) (wc := [(m, .inr (5, (.int (nI tS) :: .int tD :: .int tE :: .long tN :: .int (bI tA) :: .long tL :: .ref aK :: .ref aP :: .ref aQ :: .ref aT :: .ref aW :: .ref aO :: .ref aM :: .ref aL :: .ref aH :: .ref aI :: .ref aS :: .ref aR :: .ref aX :: .ref aF :: .ref aY :: .ref aJ :: .long tl :: .long tg :: .int (bI tB) :: .int tM :: .int tb :: .long tv :: .long tw :: .long tT :: .long tr :: .long tm :: .long tf :: .ref aG :: .ref aE :: .ref aU :: [])))]) (wr := []) (c_T_isServerB κ.l κ.D κ.z m tS tD tE tN tA tL aK aP aQ aT aW aO aM aL aH aI aS aR aX aF aY aJ tl tg tB tM tb tv tw tT tr tm tf aG aE aU s hb9) 0 rfl rfl m513 m514 m16 m36 (by decide +kernel) rfl (Nat.le_of_ble_eq_true rfl) ⟨by decide, by decide⟩ ⟨by decide, by decide⟩ rfl rfl m515 d_T_low_2 (fun v w1 hg => ?_)
  obtain ⟨rfl, rfl⟩ := hg
  show V κ 2 0 0 5 [(0, .ref m), (1, .int s)] [.int (bI false)] [(m, .inr (5, (.int (nI tS) :: .int tD :: .int tE :: .long tN :: .int (bI tA) :: .long tL :: .ref aK :: .ref aP :: .ref aQ :: .ref aT :: .ref aW :: .ref aO :: .ref aM :: .ref aL :: .ref aH :: .ref aI :: .ref aS :: .ref aR :: .ref aX :: .ref aF :: .ref aY :: .ref aJ :: .long tl :: .long tg :: .int (bI tB) :: .int tM :: .int tb :: .long tv :: .long tw :: .long tT :: .long tr :: .long tm :: .long tf :: .ref aG :: .ref aE :: .ref aU :: [])))]
  refine v_ifB_eq X 17 (t := false) d_T_low_5 (by decide) (fun c5 => ?_) (fun c5 => absurd c5 (by decide))
  refine v_ldc2 X (v := (-4611686018427387904)) m528 d_T_low_17 ?_
  exact v_lret X Y (by decide) (by decide) d_T_low_20 ⟨rfl, rfl⟩

def f_T_highG (tD : Int32) (tN : Int64) (gM : Nat → Nat) (gL : Nat → Int64) (gH : Nat → Int64) (gI : Nat → Int64) (gX : Nat → Int32) (gF : Nat → Int64) (gY : Nat → Int64) (i : Nat) : Int64 := if (gM i) = 0 then (-4611686018427387904) else ((meS tD tN gL gH gI gX gF gY i (gM i)).2) i
def f_T_highG_r6 (tD : Int32) (tN : Int64) (gM : Nat → Nat) (gL : Nat → Int64) (gH : Nat → Int64) (gI : Nat → Int64) (gX : Nat → Int32) (gF : Nat → Int64) (gY : Nat → Int64) (i : Nat) : Nat → Int64 := if (gM i) = 0 then gF else (meS tD tN gL gH gI gX gF gY i (gM i)).1
def f_T_highG_r7 (tD : Int32) (tN : Int64) (gM : Nat → Nat) (gL : Nat → Int64) (gH : Nat → Int64) (gI : Nat → Int64) (gX : Nat → Int32) (gF : Nat → Int64) (gY : Nat → Int64) (i : Nat) : Nat → Int64 := if (gM i) = 0 then gY else (meS tD tN gL gH gI gX gF gY i (gM i)).2
set_option maxHeartbeats 4000000 in
set_option maxRecDepth 100000 in
theorem c_T_highG (l : Launch) (D : va_G) (z : Nat → ClassId) (m : Nat) (tS : Nat) (tD : Int32) (tE : Int32) (tN : Int64) (tA : Bool) (tL : Int64) (aK : Nat) (aP : Nat) (aQ : Nat) (aT : Nat) (aW : Nat) (aO : Nat) (aM : Nat) (aL : Nat) (aH : Nat) (aI : Nat) (aS : Nat) (aR : Nat) (aX : Nat) (aF : Nat) (aY : Nat) (aJ : Nat) (tl : Int64) (tg : Int64) (tB : Bool) (tM : Int32) (tb : Int32) (tv : Int64) (tw : Int64) (tT : Int64) (tr : Int64) (tm : Int64) (tf : Int64) (aG : Nat) (aE : Nat) (aU : Nat) (gM : Nat → Nat) (gL : Nat → Int64) (gH : Nat → Int64) (gI : Nat → Int64) (gX : Nat → Int32) (gF : Nat → Int64) (gY : Nat → Int64) (i : Nat) (h6 : tS ≤ 6) (hi9 : i < tS) (hs8 : gM i ≤ 8) : Ctr l D z y_T_high b_T_high 2 (some .long) { frames := 2, cells := 0, slots := 0, locals := 54 } [.ref m, .int (nI i)] [(m, .inr (5, (.int (nI tS) :: .int tD :: .int tE :: .long tN :: .int (bI tA) :: .long tL :: .ref aK :: .ref aP :: .ref aQ :: .ref aT :: .ref aW :: .ref aO :: .ref aM :: .ref aL :: .ref aH :: .ref aI :: .ref aS :: .ref aR :: .ref aX :: .ref aF :: .ref aY :: .ref aJ :: .long tl :: .long tg :: .int (bI tB) :: .int tM :: .int tb :: .long tv :: .long tw :: .long tT :: .long tr :: .long tm :: .long tf :: .ref aG :: .ref aE :: .ref aU :: []))), (aM, .inl (z 0, 6, .inl (aN gM))), (aL, .inl (z 1, 48, .inr (.inl gL))), (aH, .inl (z 1, 48, .inr (.inl gH))), (aI, .inl (z 1, 48, .inr (.inl gI))), (aX, .inl (z 0, 6, .inl gX)), (aF, .inl (z 1, 6, .inr (.inl gF))), (aY, .inl (z 1, 6, .inr (.inl gY)))] (fun v w => v = some (.long (f_T_highG tD tN gM gL gH gI gX gF gY i)) ∧ w = [(m, .inr (5, (.int (nI tS) :: .int tD :: .int tE :: .long tN :: .int (bI tA) :: .long tL :: .ref aK :: .ref aP :: .ref aQ :: .ref aT :: .ref aW :: .ref aO :: .ref aM :: .ref aL :: .ref aH :: .ref aI :: .ref aS :: .ref aR :: .ref aX :: .ref aF :: .ref aY :: .ref aJ :: .long tl :: .long tg :: .int (bI tB) :: .int tM :: .int tb :: .long tv :: .long tw :: .long tT :: .long tr :: .long tm :: .long tf :: .ref aG :: .ref aE :: .ref aU :: []))), (aM, .inl (z 0, 6, .inl (aN gM))), (aL, .inl (z 1, 48, .inr (.inl gL))), (aH, .inl (z 1, 48, .inr (.inl gH))), (aI, .inl (z 1, 48, .inr (.inl gI))), (aX, .inl (z 0, 6, .inl gX)), (aF, .inl (z 1, 6, .inr (.inl (f_T_highG_r6 tD tN gM gL gH gI gX gF gY i)))), (aY, .inl (z 1, 6, .inr (.inl (f_T_highG_r7 tD tN gM gL gH gI gX gF gY i))))]) 0 0 := by
  refine met_V (own := R_T) (nm := "high") (by decide +kernel) rfl rfl (Nat.le_of_ble_eq_true rfl) ?_
  intro κ hl hD hz X Y
  subst hl
  subst hD
  subst hz
  show V κ 2 0 0 0 [(0, .ref m), (1, .int (nI i))] [] [(m, .inr (5, (.int (nI tS) :: .int tD :: .int tE :: .long tN :: .int (bI tA) :: .long tL :: .ref aK :: .ref aP :: .ref aQ :: .ref aT :: .ref aW :: .ref aO :: .ref aM :: .ref aL :: .ref aH :: .ref aI :: .ref aS :: .ref aR :: .ref aX :: .ref aF :: .ref aY :: .ref aJ :: .long tl :: .long tg :: .int (bI tB) :: .int tM :: .int tb :: .long tv :: .long tw :: .long tT :: .long tr :: .long tm :: .long tf :: .ref aG :: .ref aE :: .ref aU :: []))), (aM, .inl (κ.z 0, 6, .inl (aN gM))), (aL, .inl (κ.z 1, 48, .inr (.inl gL))), (aH, .inl (κ.z 1, 48, .inr (.inl gH))), (aI, .inl (κ.z 1, 48, .inr (.inl gI))), (aX, .inl (κ.z 0, 6, .inl gX)), (aF, .inl (κ.z 1, 6, .inr (.inl gF))), (aY, .inl (κ.z 1, 6, .inr (.inl gY)))]
  refine v_aload_n X 0 d_T_high_0 rfl ?_
  refine v_iload_n X 1 d_T_high_1 rfl ?_
  refine v_callV X (b := m) (k := 0) (n := 0) (n9 := 1) (As := [.int (nI i)]) (rest := []) (wc := [(m, .inr (5, (.int (nI tS) :: .int tD :: .int tE :: .long tN :: .int (bI tA) :: .long tL :: .ref aK :: .ref aP :: .ref aQ :: .ref aT :: .ref aW :: .ref aO :: .ref aM :: .ref aL :: .ref aH :: .ref aI :: .ref aS :: .ref aR :: .ref aX :: .ref aF :: .ref aY :: .ref aJ :: .long tl :: .long tg :: .int (bI tB) :: .int tM :: .int tb :: .long tv :: .long tw :: .long tT :: .long tr :: .long tm :: .long tf :: .ref aG :: .ref aE :: .ref aU :: [])))]) (wr := [(aM, .inl (κ.z 0, 6, .inl (aN gM))), (aL, .inl (κ.z 1, 48, .inr (.inl gL))), (aH, .inl (κ.z 1, 48, .inr (.inl gH))), (aI, .inl (κ.z 1, 48, .inr (.inl gI))), (aX, .inl (κ.z 0, 6, .inl gX)), (aF, .inl (κ.z 1, 6, .inr (.inl gF))), (aY, .inl (κ.z 1, 6, .inr (.inl gY)))]) (c_T_isServerG κ.l κ.D κ.z m tS tD tE tN tA tL aK aP aQ aT aW aO aM aL aH aI aS aR aX aF aY aJ tl tg tB tM tb tv tw tT tr tm tf aG aE aU i h6 hi9) 0 rfl rfl m513 m514 m16 m36 (by decide +kernel) rfl (Nat.le_of_ble_eq_true rfl) ⟨by decide, by decide⟩ ⟨by decide, by decide⟩ rfl rfl m515 d_T_high_2 (fun v w1 hg => ?_)
  obtain ⟨rfl, rfl⟩ := hg
  show V κ 2 0 0 5 [(0, .ref m), (1, .int (nI i))] [.int (bI true)] [(m, .inr (5, (.int (nI tS) :: .int tD :: .int tE :: .long tN :: .int (bI tA) :: .long tL :: .ref aK :: .ref aP :: .ref aQ :: .ref aT :: .ref aW :: .ref aO :: .ref aM :: .ref aL :: .ref aH :: .ref aI :: .ref aS :: .ref aR :: .ref aX :: .ref aF :: .ref aY :: .ref aJ :: .long tl :: .long tg :: .int (bI tB) :: .int tM :: .int tb :: .long tv :: .long tw :: .long tT :: .long tr :: .long tm :: .long tf :: .ref aG :: .ref aE :: .ref aU :: []))), (aM, .inl (κ.z 0, 6, .inl (aN gM))), (aL, .inl (κ.z 1, 48, .inr (.inl gL))), (aH, .inl (κ.z 1, 48, .inr (.inl gH))), (aI, .inl (κ.z 1, 48, .inr (.inl gI))), (aX, .inl (κ.z 0, 6, .inl gX)), (aF, .inl (κ.z 1, 6, .inr (.inl gF))), (aY, .inl (κ.z 1, 6, .inr (.inl gY)))]
  refine v_ifB_eq X 17 (t := true) d_T_high_5 (by decide) (fun c5 => absurd c5 (by decide)) (fun c5 => ?_)
  refine v_aload_n X 0 d_T_high_8 rfl ?_
  refine v_get X 0 12 rfl rfl li_T (by decide) m439 rfl d_T_high_9 ?_
  refine v_iload_n X 1 d_T_high_12 rfl ?_
  refine v_naldN X 1 0 (j := i) rfl rfl (by omega) (by omega) d_T_high_13 ?_
  refine v_ifN_ne X 21 (a := (gM i)) d_T_high_14 (by decide) (by omega) (fun c14 => ?_) (fun c14 => ?_)
  · skip
    refine v_aload_n X 0 d_T_high_21 rfl ?_
    refine v_iload_n X 1 d_T_high_22 rfl ?_
    refine v_callV X (b := m) (k := 0) (n := 0) (n9 := 1) (As := [.int (nI i)]) (rest := []) (wc := [(m, .inr (5, (.int (nI tS) :: .int tD :: .int tE :: .long tN :: .int (bI tA) :: .long tL :: .ref aK :: .ref aP :: .ref aQ :: .ref aT :: .ref aW :: .ref aO :: .ref aM :: .ref aL :: .ref aH :: .ref aI :: .ref aS :: .ref aR :: .ref aX :: .ref aF :: .ref aY :: .ref aJ :: .long tl :: .long tg :: .int (bI tB) :: .int tM :: .int tb :: .long tv :: .long tw :: .long tT :: .long tr :: .long tm :: .long tf :: .ref aG :: .ref aE :: .ref aU :: []))), (aM, .inl (κ.z 0, 6, .inl (aN gM))), (aL, .inl (κ.z 1, 48, .inr (.inl gL))), (aH, .inl (κ.z 1, 48, .inr (.inl gH))), (aI, .inl (κ.z 1, 48, .inr (.inl gI))), (aX, .inl (κ.z 0, 6, .inl gX)), (aF, .inl (κ.z 1, 6, .inr (.inl gF))), (aY, .inl (κ.z 1, 6, .inr (.inl gY)))]) (wr := []) (c_T_measure κ.l κ.D κ.z m tS tD tE tN tA tL aK aP aQ aT aW aO aM aL aH aI aS aR aX aF aY aJ tl tg tB tM tb tv tw tT tr tm tf aG aE aU gM gL gH gI gX gF gY i (by omega) (by omega)) 0 rfl rfl m549 m550 m18 m36 (by decide +kernel) rfl (Nat.le_of_ble_eq_true rfl) ⟨by decide, by decide⟩ ⟨by decide, by decide⟩ rfl rfl m551 d_T_high_23 (fun v w1 hg => ?_)
    obtain ⟨rfl, rfl⟩ := hg
    show V κ 2 0 0 26 [(0, .ref m), (1, .int (nI i))] [] [(m, .inr (5, (.int (nI tS) :: .int tD :: .int tE :: .long tN :: .int (bI tA) :: .long tL :: .ref aK :: .ref aP :: .ref aQ :: .ref aT :: .ref aW :: .ref aO :: .ref aM :: .ref aL :: .ref aH :: .ref aI :: .ref aS :: .ref aR :: .ref aX :: .ref aF :: .ref aY :: .ref aJ :: .long tl :: .long tg :: .int (bI tB) :: .int tM :: .int tb :: .long tv :: .long tw :: .long tT :: .long tr :: .long tm :: .long tf :: .ref aG :: .ref aE :: .ref aU :: []))), (aM, .inl (κ.z 0, 6, .inl (aN gM))), (aL, .inl (κ.z 1, 48, .inr (.inl gL))), (aH, .inl (κ.z 1, 48, .inr (.inl gH))), (aI, .inl (κ.z 1, 48, .inr (.inl gI))), (aX, .inl (κ.z 0, 6, .inl gX)), (aF, .inl (κ.z 1, 6, .inr (.inl ((meS tD tN gL gH gI gX gF gY i (gM i)).1)))), (aY, .inl (κ.z 1, 6, .inr (.inl ((meS tD tN gL gH gI gX gF gY i (gM i)).2))))]
    refine v_aload_n X 0 d_T_high_26 rfl ?_
    refine v_get X 0 20 rfl rfl li_T (by decide) m447 rfl d_T_high_27 ?_
    refine v_iload_n X 1 d_T_high_30 rfl ?_
    refine v_laldN X 7 1 (j := i) rfl rfl (by omega) (by omega) d_T_high_31 ?_
    exact v_lret X Y (by decide) (by decide) d_T_high_32 ⟨by first | (simp only [f_T_highG, f_T_highG_r6, f_T_highG_r7, if_neg c14] <;> rfl) | rfl, by first | (simp only [f_T_highG, f_T_highG_r6, f_T_highG_r7, if_neg c14] <;> rfl) | rfl⟩
  · skip
    refine v_ldc2 X (v := (-4611686018427387904)) m528 d_T_high_17 ?_
    exact v_lret X Y (by decide) (by decide) d_T_high_20 ⟨by first | (simp only [f_T_highG, f_T_highG_r6, f_T_highG_r7, if_pos c14] <;> rfl) | rfl, by first | (simp only [f_T_highG, f_T_highG_r6, f_T_highG_r7, if_pos c14] <;> rfl) | rfl⟩

set_option maxHeartbeats 4000000 in
set_option maxRecDepth 100000 in
theorem c_T_highB (l : Launch) (D : va_G) (z : Nat → ClassId) (m : Nat) (tS : Nat) (tD : Int32) (tE : Int32) (tN : Int64) (tA : Bool) (tL : Int64) (aK : Nat) (aP : Nat) (aQ : Nat) (aT : Nat) (aW : Nat) (aO : Nat) (aM : Nat) (aL : Nat) (aH : Nat) (aI : Nat) (aS : Nat) (aR : Nat) (aX : Nat) (aF : Nat) (aY : Nat) (aJ : Nat) (tl : Int64) (tg : Int64) (tB : Bool) (tM : Int32) (tb : Int32) (tv : Int64) (tw : Int64) (tT : Int64) (tr : Int64) (tm : Int64) (tf : Int64) (aG : Nat) (aE : Nat) (aU : Nat) (s : Int32) (hb9 : ¬ s < 0 → ¬ s < nI tS) : Ctr l D z y_T_high b_T_high 2 (some .long) { frames := 2, cells := 0, slots := 0, locals := 54 } [.ref m, .int s] [(m, .inr (5, (.int (nI tS) :: .int tD :: .int tE :: .long tN :: .int (bI tA) :: .long tL :: .ref aK :: .ref aP :: .ref aQ :: .ref aT :: .ref aW :: .ref aO :: .ref aM :: .ref aL :: .ref aH :: .ref aI :: .ref aS :: .ref aR :: .ref aX :: .ref aF :: .ref aY :: .ref aJ :: .long tl :: .long tg :: .int (bI tB) :: .int tM :: .int tb :: .long tv :: .long tw :: .long tT :: .long tr :: .long tm :: .long tf :: .ref aG :: .ref aE :: .ref aU :: [])))] (fun v w => v = some (.long (-4611686018427387904)) ∧ w = [(m, .inr (5, (.int (nI tS) :: .int tD :: .int tE :: .long tN :: .int (bI tA) :: .long tL :: .ref aK :: .ref aP :: .ref aQ :: .ref aT :: .ref aW :: .ref aO :: .ref aM :: .ref aL :: .ref aH :: .ref aI :: .ref aS :: .ref aR :: .ref aX :: .ref aF :: .ref aY :: .ref aJ :: .long tl :: .long tg :: .int (bI tB) :: .int tM :: .int tb :: .long tv :: .long tw :: .long tT :: .long tr :: .long tm :: .long tf :: .ref aG :: .ref aE :: .ref aU :: [])))]) 0 0 := by
  refine met_V (own := R_T) (nm := "high") (by decide +kernel) rfl rfl (Nat.le_of_ble_eq_true rfl) ?_
  intro κ hl hD hz X Y
  subst hl
  subst hD
  subst hz
  show V κ 2 0 0 0 [(0, .ref m), (1, .int s)] [] [(m, .inr (5, (.int (nI tS) :: .int tD :: .int tE :: .long tN :: .int (bI tA) :: .long tL :: .ref aK :: .ref aP :: .ref aQ :: .ref aT :: .ref aW :: .ref aO :: .ref aM :: .ref aL :: .ref aH :: .ref aI :: .ref aS :: .ref aR :: .ref aX :: .ref aF :: .ref aY :: .ref aJ :: .long tl :: .long tg :: .int (bI tB) :: .int tM :: .int tb :: .long tv :: .long tw :: .long tT :: .long tr :: .long tm :: .long tf :: .ref aG :: .ref aE :: .ref aU :: [])))]
  refine v_aload_n X 0 d_T_high_0 rfl ?_
  refine v_iload_n X 1 d_T_high_1 rfl ?_
  refine v_callV X (b := m) (k := 0) (n := 0) (n9 := 1) (As := [.int s]) (rest := []) (wc := [(m, .inr (5, (.int (nI tS) :: .int tD :: .int tE :: .long tN :: .int (bI tA) :: .long tL :: .ref aK :: .ref aP :: .ref aQ :: .ref aT :: .ref aW :: .ref aO :: .ref aM :: .ref aL :: .ref aH :: .ref aI :: .ref aS :: .ref aR :: .ref aX :: .ref aF :: .ref aY :: .ref aJ :: .long tl :: .long tg :: .int (bI tB) :: .int tM :: .int tb :: .long tv :: .long tw :: .long tT :: .long tr :: .long tm :: .long tf :: .ref aG :: .ref aE :: .ref aU :: [])))]) (wr := []) (c_T_isServerB κ.l κ.D κ.z m tS tD tE tN tA tL aK aP aQ aT aW aO aM aL aH aI aS aR aX aF aY aJ tl tg tB tM tb tv tw tT tr tm tf aG aE aU s hb9) 0 rfl rfl m513 m514 m16 m36 (by decide +kernel) rfl (Nat.le_of_ble_eq_true rfl) ⟨by decide, by decide⟩ ⟨by decide, by decide⟩ rfl rfl m515 d_T_high_2 (fun v w1 hg => ?_)
  obtain ⟨rfl, rfl⟩ := hg
  show V κ 2 0 0 5 [(0, .ref m), (1, .int s)] [.int (bI false)] [(m, .inr (5, (.int (nI tS) :: .int tD :: .int tE :: .long tN :: .int (bI tA) :: .long tL :: .ref aK :: .ref aP :: .ref aQ :: .ref aT :: .ref aW :: .ref aO :: .ref aM :: .ref aL :: .ref aH :: .ref aI :: .ref aS :: .ref aR :: .ref aX :: .ref aF :: .ref aY :: .ref aJ :: .long tl :: .long tg :: .int (bI tB) :: .int tM :: .int tb :: .long tv :: .long tw :: .long tT :: .long tr :: .long tm :: .long tf :: .ref aG :: .ref aE :: .ref aU :: [])))]
  refine v_ifB_eq X 17 (t := false) d_T_high_5 (by decide) (fun c5 => ?_) (fun c5 => absurd c5 (by decide))
  refine v_ldc2 X (v := (-4611686018427387904)) m528 d_T_high_17 ?_
  exact v_lret X Y (by decide) (by decide) d_T_high_20 ⟨rfl, rfl⟩

def f_T_usable (tE : Int32) (tN : Int64) (gM : Nat → Nat) (gI : Nat → Int64) (gS : Nat → Int32) (gR : Nat → Int32) (i : Nat) : Bool := (if (if (gS i) < 1 then false else (if 14 < (gS i) then false else (if (gR i) = tE then false else true))) = true then (if (gM i) ≤ 0 then false else (if 1000000 < (tN - (gI (8 * i))) then false else true)) else false)
set_option maxHeartbeats 4000000 in
set_option maxRecDepth 100000 in
theorem c_T_usable (l : Launch) (D : va_G) (z : Nat → ClassId) (m : Nat) (tS : Nat) (tD : Int32) (tE : Int32) (tN : Int64) (tA : Bool) (tL : Int64) (aK : Nat) (aP : Nat) (aQ : Nat) (aT : Nat) (aW : Nat) (aO : Nat) (aM : Nat) (aL : Nat) (aH : Nat) (aI : Nat) (aS : Nat) (aR : Nat) (aX : Nat) (aF : Nat) (aY : Nat) (aJ : Nat) (tl : Int64) (tg : Int64) (tB : Bool) (tM : Int32) (tb : Int32) (tv : Int64) (tw : Int64) (tT : Int64) (tr : Int64) (tm : Int64) (tf : Int64) (aG : Nat) (aE : Nat) (aU : Nat) (gM : Nat → Nat) (gI : Nat → Int64) (gS : Nat → Int32) (gR : Nat → Int32) (i : Nat) (hi6 : i < 6) (hs8 : gM i ≤ 8) : Ctr l D z y_T_usable b_T_usable 3 (some .boolean) { frames := 0, cells := 0, slots := 0, locals := 0 } [.ref m, .int (nI i)] [(m, .inr (5, (.int (nI tS) :: .int tD :: .int tE :: .long tN :: .int (bI tA) :: .long tL :: .ref aK :: .ref aP :: .ref aQ :: .ref aT :: .ref aW :: .ref aO :: .ref aM :: .ref aL :: .ref aH :: .ref aI :: .ref aS :: .ref aR :: .ref aX :: .ref aF :: .ref aY :: .ref aJ :: .long tl :: .long tg :: .int (bI tB) :: .int tM :: .int tb :: .long tv :: .long tw :: .long tT :: .long tr :: .long tm :: .long tf :: .ref aG :: .ref aE :: .ref aU :: []))), (aM, .inl (z 0, 6, .inl (aN gM))), (aI, .inl (z 1, 48, .inr (.inl gI))), (aS, .inl (z 0, 6, .inl gS)), (aR, .inl (z 0, 6, .inl gR))] (fun v w => v = some (.int (bI (f_T_usable tE tN gM gI gS gR i))) ∧ w = [(m, .inr (5, (.int (nI tS) :: .int tD :: .int tE :: .long tN :: .int (bI tA) :: .long tL :: .ref aK :: .ref aP :: .ref aQ :: .ref aT :: .ref aW :: .ref aO :: .ref aM :: .ref aL :: .ref aH :: .ref aI :: .ref aS :: .ref aR :: .ref aX :: .ref aF :: .ref aY :: .ref aJ :: .long tl :: .long tg :: .int (bI tB) :: .int tM :: .int tb :: .long tv :: .long tw :: .long tT :: .long tr :: .long tm :: .long tf :: .ref aG :: .ref aE :: .ref aU :: []))), (aM, .inl (z 0, 6, .inl (aN gM))), (aI, .inl (z 1, 48, .inr (.inl gI))), (aS, .inl (z 0, 6, .inl gS)), (aR, .inl (z 0, 6, .inl gR))]) 0 0 := by
  refine met_V (own := R_T) (nm := "usable") (by decide +kernel) rfl rfl (Nat.le_of_ble_eq_true rfl) ?_
  intro κ hl hD hz X Y
  subst hl
  subst hD
  subst hz
  show V κ 3 0 0 0 [(0, .ref m), (1, .int (nI i))] [] [(m, .inr (5, (.int (nI tS) :: .int tD :: .int tE :: .long tN :: .int (bI tA) :: .long tL :: .ref aK :: .ref aP :: .ref aQ :: .ref aT :: .ref aW :: .ref aO :: .ref aM :: .ref aL :: .ref aH :: .ref aI :: .ref aS :: .ref aR :: .ref aX :: .ref aF :: .ref aY :: .ref aJ :: .long tl :: .long tg :: .int (bI tB) :: .int tM :: .int tb :: .long tv :: .long tw :: .long tT :: .long tr :: .long tm :: .long tf :: .ref aG :: .ref aE :: .ref aU :: []))), (aM, .inl (κ.z 0, 6, .inl (aN gM))), (aI, .inl (κ.z 1, 48, .inr (.inl gI))), (aS, .inl (κ.z 0, 6, .inl gS)), (aR, .inl (κ.z 0, 6, .inl gR))]
  refine v_aload_n X 0 d_T_usable_0 rfl ?_
  refine v_get X 0 16 rfl rfl li_T (by decide) m443 rfl d_T_usable_1 ?_
  refine v_iload_n X 1 d_T_usable_4 rfl ?_
  refine v_ialdN X 3 0 (j := i) rfl rfl (by omega) (by omega) d_T_usable_5 ?_
  refine v_iconst X 1 d_T_usable_6 (by decide) ?_
  suffices hm7 : V κ 3 0 0 39 [(0, .ref m), (1, .int (nI i))] [.int (bI (if (gS i) < 1 then false else (if 14 < (gS i) then false else (if (gR i) = tE then false else true))))] [(m, .inr (5, (.int (nI tS) :: .int tD :: .int tE :: .long tN :: .int (bI tA) :: .long tL :: .ref aK :: .ref aP :: .ref aQ :: .ref aT :: .ref aW :: .ref aO :: .ref aM :: .ref aL :: .ref aH :: .ref aI :: .ref aS :: .ref aR :: .ref aX :: .ref aF :: .ref aY :: .ref aJ :: .long tl :: .long tg :: .int (bI tB) :: .int tM :: .int tb :: .long tv :: .long tw :: .long tT :: .long tr :: .long tm :: .long tf :: .ref aG :: .ref aE :: .ref aU :: []))), (aM, .inl (κ.z 0, 6, .inl (aN gM))), (aI, .inl (κ.z 1, 48, .inr (.inl gI))), (aS, .inl (κ.z 0, 6, .inl gS)), (aR, .inl (κ.z 0, 6, .inl gR))] by
    refine v_icmp_lt X 38 d_T_usable_7 (by decide) (fun c7 => ?_) (fun c7 => ?_)
    · skip
      refine v_iconst X 0 d_T_usable_38 (by decide) ?_
      have h9 := hm7; simp only [if_pos c7] at h9; first | exact h9 | (simp only [if_pos c7]; exact h9)
    · skip
      refine v_aload_n X 0 d_T_usable_10 rfl ?_
      refine v_get X 0 16 rfl rfl li_T (by decide) m443 rfl d_T_usable_11 ?_
      refine v_iload_n X 1 d_T_usable_14 rfl ?_
      refine v_ialdN X 3 0 (j := i) rfl rfl (by omega) (by omega) d_T_usable_15 ?_
      refine v_bipush X 14 d_T_usable_16 (by decide) ?_
      suffices hm18 : V κ 3 0 0 39 [(0, .ref m), (1, .int (nI i))] [.int (bI (if 14 < (gS i) then false else (if (gR i) = tE then false else true)))] [(m, .inr (5, (.int (nI tS) :: .int tD :: .int tE :: .long tN :: .int (bI tA) :: .long tL :: .ref aK :: .ref aP :: .ref aQ :: .ref aT :: .ref aW :: .ref aO :: .ref aM :: .ref aL :: .ref aH :: .ref aI :: .ref aS :: .ref aR :: .ref aX :: .ref aF :: .ref aY :: .ref aJ :: .long tl :: .long tg :: .int (bI tB) :: .int tM :: .int tb :: .long tv :: .long tw :: .long tT :: .long tr :: .long tm :: .long tf :: .ref aG :: .ref aE :: .ref aU :: []))), (aM, .inl (κ.z 0, 6, .inl (aN gM))), (aI, .inl (κ.z 1, 48, .inr (.inl gI))), (aS, .inl (κ.z 0, 6, .inl gS)), (aR, .inl (κ.z 0, 6, .inl gR))] by
        refine v_icmp_gt X 38 d_T_usable_18 (by decide) (fun c18 => ?_) (fun c18 => ?_)
        · skip
          refine v_iconst X 0 d_T_usable_38 (by decide) ?_
          have h9 := hm18; simp only [if_pos c18] at h9; first | exact h9 | (simp only [if_pos c18]; exact h9)
        · skip
          refine v_aload_n X 0 d_T_usable_21 rfl ?_
          refine v_get X 0 17 rfl rfl li_T (by decide) m444 rfl d_T_usable_22 ?_
          refine v_iload_n X 1 d_T_usable_25 rfl ?_
          refine v_ialdN X 4 0 (j := i) rfl rfl (by omega) (by omega) d_T_usable_26 ?_
          refine v_aload_n X 0 d_T_usable_27 rfl ?_
          refine v_get X 0 2 rfl rfl li_T (by decide) m429 rfl d_T_usable_28 ?_
          suffices hm31 : V κ 3 0 0 39 [(0, .ref m), (1, .int (nI i))] [.int (bI (if (gR i) = tE then false else true))] [(m, .inr (5, (.int (nI tS) :: .int tD :: .int tE :: .long tN :: .int (bI tA) :: .long tL :: .ref aK :: .ref aP :: .ref aQ :: .ref aT :: .ref aW :: .ref aO :: .ref aM :: .ref aL :: .ref aH :: .ref aI :: .ref aS :: .ref aR :: .ref aX :: .ref aF :: .ref aY :: .ref aJ :: .long tl :: .long tg :: .int (bI tB) :: .int tM :: .int tb :: .long tv :: .long tw :: .long tT :: .long tr :: .long tm :: .long tf :: .ref aG :: .ref aE :: .ref aU :: []))), (aM, .inl (κ.z 0, 6, .inl (aN gM))), (aI, .inl (κ.z 1, 48, .inr (.inl gI))), (aS, .inl (κ.z 0, 6, .inl gS)), (aR, .inl (κ.z 0, 6, .inl gR))] by
            refine v_icmp_eq X 38 d_T_usable_31 (by decide) (fun c31 => ?_) (fun c31 => ?_)
            · skip
              refine v_iconst X 0 d_T_usable_38 (by decide) ?_
              have h9 := hm31; simp only [if_pos c31] at h9; first | exact h9 | (simp only [if_pos c31]; exact h9)
            · skip
              refine v_iconst X 1 d_T_usable_34 (by decide) ?_
              refine v_goto X 39 d_T_usable_35 (by decide) ?_
              have h9 := hm31; simp only [if_neg c31] at h9; first | exact h9 | (simp only [if_neg c31]; exact h9)
          have h9 := hm18; simp only [if_neg c18] at h9; first | exact h9 | (simp only [if_neg c18]; exact h9)
      have h9 := hm7; simp only [if_neg c7] at h9; first | exact h9 | (simp only [if_neg c7]; exact h9)
  refine v_istore_n X d_T_usable_39 rfl (by decide) (lv' := [(2, .int (bI (if (gS i) < 1 then false else (if 14 < (gS i) then false else (if (gR i) = tE then false else true))))), (0, .ref m), (1, .int (nI i))]) rfl ?_
  refine v_iload_n X 0 d_T_usable_40 rfl ?_
  suffices hm41 : V κ 3 0 0 79 [(2, .int (bI (if (gS i) < 1 then false else (if 14 < (gS i) then false else (if (gR i) = tE then false else true))))), (0, .ref m), (1, .int (nI i))] [.int (bI (if (if (gS i) < 1 then false else (if 14 < (gS i) then false else (if (gR i) = tE then false else true))) = true then (if (gM i) ≤ 0 then false else (if 1000000 < (tN - (gI (8 * i))) then false else true)) else false))] [(m, .inr (5, (.int (nI tS) :: .int tD :: .int tE :: .long tN :: .int (bI tA) :: .long tL :: .ref aK :: .ref aP :: .ref aQ :: .ref aT :: .ref aW :: .ref aO :: .ref aM :: .ref aL :: .ref aH :: .ref aI :: .ref aS :: .ref aR :: .ref aX :: .ref aF :: .ref aY :: .ref aJ :: .long tl :: .long tg :: .int (bI tB) :: .int tM :: .int tb :: .long tv :: .long tw :: .long tT :: .long tr :: .long tm :: .long tf :: .ref aG :: .ref aE :: .ref aU :: []))), (aM, .inl (κ.z 0, 6, .inl (aN gM))), (aI, .inl (κ.z 1, 48, .inr (.inl gI))), (aS, .inl (κ.z 0, 6, .inl gS)), (aR, .inl (κ.z 0, 6, .inl gR))] by
    refine v_ifB_eq X 78 (t := if (gS i) < 1 then false else (if 14 < (gS i) then false else (if (gR i) = tE then false else true))) d_T_usable_41 (by decide) (fun c41 => ?_) (fun c41 => ?_)
    · skip
      refine v_iconst X 0 d_T_usable_78 (by decide) ?_
      have h9 := hm41; simp only [if_neg c41] at h9; first | exact h9 | (simp only [if_neg c41]; exact h9)
    · skip
      refine v_aload_n X 1 d_T_usable_44 rfl ?_
      refine v_get X 0 12 rfl rfl li_T (by decide) m439 rfl d_T_usable_45 ?_
      refine v_iload_n X 2 d_T_usable_48 rfl ?_
      refine v_naldN X 1 0 (j := i) rfl rfl (by omega) (by omega) d_T_usable_49 ?_
      suffices hm50 : V κ 3 0 0 79 [(2, .int (bI (if (gS i) < 1 then false else (if 14 < (gS i) then false else (if (gR i) = tE then false else true))))), (0, .ref m), (1, .int (nI i))] [.int (bI (if (gM i) ≤ 0 then false else (if 1000000 < (tN - (gI (8 * i))) then false else true)))] [(m, .inr (5, (.int (nI tS) :: .int tD :: .int tE :: .long tN :: .int (bI tA) :: .long tL :: .ref aK :: .ref aP :: .ref aQ :: .ref aT :: .ref aW :: .ref aO :: .ref aM :: .ref aL :: .ref aH :: .ref aI :: .ref aS :: .ref aR :: .ref aX :: .ref aF :: .ref aY :: .ref aJ :: .long tl :: .long tg :: .int (bI tB) :: .int tM :: .int tb :: .long tv :: .long tw :: .long tT :: .long tr :: .long tm :: .long tf :: .ref aG :: .ref aE :: .ref aU :: []))), (aM, .inl (κ.z 0, 6, .inl (aN gM))), (aI, .inl (κ.z 1, 48, .inr (.inl gI))), (aS, .inl (κ.z 0, 6, .inl gS)), (aR, .inl (κ.z 0, 6, .inl gR))] by
        refine v_ifN_le X 78 (a := (gM i)) d_T_usable_50 (by decide) (by omega) (fun c50 => ?_) (fun c50 => ?_)
        · skip
          refine v_iconst X 0 d_T_usable_78 (by decide) ?_
          have h9 := hm50; simp only [if_pos c50] at h9; first | exact h9 | (simp only [if_pos c50]; exact h9)
        · skip
          refine v_aload_n X 1 d_T_usable_53 rfl ?_
          refine v_get X 0 3 rfl rfl li_T (by decide) m430 rfl d_T_usable_54 ?_
          refine v_aload_n X 1 d_T_usable_57 rfl ?_
          refine v_get X 0 15 rfl rfl li_T (by decide) m442 rfl d_T_usable_58 ?_
          refine v_bipush X 8 d_T_usable_61 (by decide) ?_
          refine v_iload_n X 2 d_T_usable_63 rfl ?_
          refine v_imulN X (a := 8) (b := i) d_T_usable_64 ?_
          refine v_laldN X 2 1 (j := (8 * i)) rfl rfl (by omega) (by omega) d_T_usable_65 ?_
          refine v_lsub X d_T_usable_66 ?_
          refine v_ldc2 X (v := 1000000) m555 d_T_usable_67 ?_
          suffices hm70 : V κ 3 0 0 79 [(2, .int (bI (if (gS i) < 1 then false else (if 14 < (gS i) then false else (if (gR i) = tE then false else true))))), (0, .ref m), (1, .int (nI i))] [.int (bI (if 1000000 < (tN - (gI (8 * i))) then false else true))] [(m, .inr (5, (.int (nI tS) :: .int tD :: .int tE :: .long tN :: .int (bI tA) :: .long tL :: .ref aK :: .ref aP :: .ref aQ :: .ref aT :: .ref aW :: .ref aO :: .ref aM :: .ref aL :: .ref aH :: .ref aI :: .ref aS :: .ref aR :: .ref aX :: .ref aF :: .ref aY :: .ref aJ :: .long tl :: .long tg :: .int (bI tB) :: .int tM :: .int tb :: .long tv :: .long tw :: .long tT :: .long tr :: .long tm :: .long tf :: .ref aG :: .ref aE :: .ref aU :: []))), (aM, .inl (κ.z 0, 6, .inl (aN gM))), (aI, .inl (κ.z 1, 48, .inr (.inl gI))), (aS, .inl (κ.z 0, 6, .inl gS)), (aR, .inl (κ.z 0, 6, .inl gR))] by
            refine v_lcmp_gt X 78 d_T_usable_70 d_T_usable_71 (by decide) (fun c70 => ?_) (fun c70 => ?_)
            · skip
              refine v_iconst X 0 d_T_usable_78 (by decide) ?_
              have h9 := hm70; simp only [if_pos c70] at h9; first | exact h9 | (simp only [if_pos c70]; exact h9)
            · skip
              refine v_iconst X 1 d_T_usable_74 (by decide) ?_
              refine v_goto X 79 d_T_usable_75 (by decide) ?_
              have h9 := hm70; simp only [if_neg c70] at h9; first | exact h9 | (simp only [if_neg c70]; exact h9)
          have h9 := hm50; simp only [if_neg c50] at h9; first | exact h9 | (simp only [if_neg c50]; exact h9)
      have h9 := hm41; simp only [if_pos c41] at h9; first | exact h9 | (simp only [if_pos c41]; exact h9)
  exact v_zret X Y (by decide) (by decide) d_T_usable_79 (narB _) ⟨rfl, rfl⟩

def lfS (gN : Nat → Bool) : Nat → Nat
  | 0 => 0
  | j + 1 => if (gN j) = true then ((lfS gN j) + 1) else (lfS gN j)
theorem lfS_le (gN : Nat → Bool) : ∀ n : Nat, lfS gN n ≤ n
  | 0 => Nat.le_refl _
  | n + 1 => by
    have h9 := lfS_le gN n
    unfold lfS
    try dsimp only
    repeat' split
    all_goals omega
set_option maxHeartbeats 4000000 in
set_option maxRecDepth 100000 in
theorem lp_left {κ : VC} (X : Cx κ b_T_left R_T { frames := 0, cells := 0, slots := 0, locals := 0 } 3) (m : Nat) (tS : Nat) (tD : Int32) (tE : Int32) (tN : Int64) (tA : Bool) (tL : Int64) (aK : Nat) (aP : Nat) (aQ : Nat) (aT : Nat) (aW : Nat) (aO : Nat) (aM : Nat) (aL : Nat) (aH : Nat) (aI : Nat) (aS : Nat) (aR : Nat) (aX : Nat) (aF : Nat) (aY : Nat) (aJ : Nat) (tl : Int64) (tg : Int64) (tB : Bool) (tM : Int32) (tb : Int32) (tv : Int64) (tw : Int64) (tT : Int64) (tr : Int64) (tm : Int64) (tf : Int64) (aG : Nat) (aE : Nat) (aU : Nat) (gN : Nat → Bool) (h6 : tS ≤ 6)  (kk : V κ 3 0 0 35 [(2, .int (nI tS)), (1, .int (nI (lfS gN tS))), (0, .ref m)] [] [(m, .inr (5, (.int (nI tS) :: .int tD :: .int tE :: .long tN :: .int (bI tA) :: .long tL :: .ref aK :: .ref aP :: .ref aQ :: .ref aT :: .ref aW :: .ref aO :: .ref aM :: .ref aL :: .ref aH :: .ref aI :: .ref aS :: .ref aR :: .ref aX :: .ref aF :: .ref aY :: .ref aJ :: .long tl :: .long tg :: .int (bI tB) :: .int tM :: .int tb :: .long tv :: .long tw :: .long tT :: .long tr :: .long tm :: .long tf :: .ref aG :: .ref aE :: .ref aU :: []))), (aJ, .inl (κ.z 2, 6, .inl (aB gN)))]) : ∀ (d9 j : Nat), j + d9 = tS → V κ 3 0 0 4 [(2, .int (nI j)), (1, .int (nI (lfS gN j))), (0, .ref m)] [] [(m, .inr (5, (.int (nI tS) :: .int tD :: .int tE :: .long tN :: .int (bI tA) :: .long tL :: .ref aK :: .ref aP :: .ref aQ :: .ref aT :: .ref aW :: .ref aO :: .ref aM :: .ref aL :: .ref aH :: .ref aI :: .ref aS :: .ref aR :: .ref aX :: .ref aF :: .ref aY :: .ref aJ :: .long tl :: .long tg :: .int (bI tB) :: .int tM :: .int tb :: .long tv :: .long tw :: .long tT :: .long tr :: .long tm :: .long tf :: .ref aG :: .ref aE :: .ref aU :: []))), (aJ, .inl (κ.z 2, 6, .inl (aB gN)))] := by
  intro d9
  induction d9 with
  | zero =>
    intro j hj 
    have e9 : j = tS := by omega
    rw [e9]
    show V κ 3 0 0 4 [(2, .int (nI tS)), (1, .int (nI (lfS gN tS))), (0, .ref m)] [] [(m, .inr (5, (.int (nI tS) :: .int tD :: .int tE :: .long tN :: .int (bI tA) :: .long tL :: .ref aK :: .ref aP :: .ref aQ :: .ref aT :: .ref aW :: .ref aO :: .ref aM :: .ref aL :: .ref aH :: .ref aI :: .ref aS :: .ref aR :: .ref aX :: .ref aF :: .ref aY :: .ref aJ :: .long tl :: .long tg :: .int (bI tB) :: .int tM :: .int tb :: .long tv :: .long tw :: .long tT :: .long tr :: .long tm :: .long tf :: .ref aG :: .ref aE :: .ref aU :: []))), (aJ, .inl (κ.z 2, 6, .inl (aB gN)))]
    refine v_iload_n X 0 d_T_left_4 rfl ?_
    refine v_aload_n X 2 d_T_left_5 rfl ?_
    refine v_get X 0 0 rfl rfl li_T (by decide) m427 rfl d_T_left_6 ?_
    refine v_icmpN_ge X 35 (a := tS) (b := tS) d_T_left_9 (by decide) (by omega) (by omega) (fun c9 => ?_) (fun c9 => by omega)
    exact kk
  | succ d9 ih =>
    intro j hj 
    have h8 := lfS_le gN j
    show V κ 3 0 0 4 [(2, .int (nI j)), (1, .int (nI (lfS gN j))), (0, .ref m)] [] [(m, .inr (5, (.int (nI tS) :: .int tD :: .int tE :: .long tN :: .int (bI tA) :: .long tL :: .ref aK :: .ref aP :: .ref aQ :: .ref aT :: .ref aW :: .ref aO :: .ref aM :: .ref aL :: .ref aH :: .ref aI :: .ref aS :: .ref aR :: .ref aX :: .ref aF :: .ref aY :: .ref aJ :: .long tl :: .long tg :: .int (bI tB) :: .int tM :: .int tb :: .long tv :: .long tw :: .long tT :: .long tr :: .long tm :: .long tf :: .ref aG :: .ref aE :: .ref aU :: []))), (aJ, .inl (κ.z 2, 6, .inl (aB gN)))]
    refine v_iload_n X 0 d_T_left_4 rfl ?_
    refine v_aload_n X 2 d_T_left_5 rfl ?_
    refine v_get X 0 0 rfl rfl li_T (by decide) m427 rfl d_T_left_6 ?_
    refine v_icmpN_ge X 35 (a := j) (b := tS) d_T_left_9 (by decide) (by omega) (by omega) (fun c9 => by omega) (fun c9 => ?_)
    refine v_aload_n X 2 d_T_left_12 rfl ?_
    refine v_get X 0 21 rfl rfl li_T (by decide) m448 rfl d_T_left_13 ?_
    refine v_iload_n X 0 d_T_left_16 rfl ?_
    refine v_zaldN X 1 2 (j := j) rfl rfl (by omega) (by omega) d_T_left_17 ?_
    suffices hm18 : V κ 3 0 0 28 [(2, .int (nI j)), (1, .int (nI (lfS gN j))), (0, .ref m)] [.int (nI (if (gN j) = true then ((lfS gN j) + 1) else (lfS gN j)))] [(m, .inr (5, (.int (nI tS) :: .int tD :: .int tE :: .long tN :: .int (bI tA) :: .long tL :: .ref aK :: .ref aP :: .ref aQ :: .ref aT :: .ref aW :: .ref aO :: .ref aM :: .ref aL :: .ref aH :: .ref aI :: .ref aS :: .ref aR :: .ref aX :: .ref aF :: .ref aY :: .ref aJ :: .long tl :: .long tg :: .int (bI tB) :: .int tM :: .int tb :: .long tv :: .long tw :: .long tT :: .long tr :: .long tm :: .long tf :: .ref aG :: .ref aE :: .ref aU :: []))), (aJ, .inl (κ.z 2, 6, .inl (aB gN)))] by
      refine v_ifB_eq X 27 (t := gN j) d_T_left_18 (by decide) (fun c18 => ?_) (fun c18 => ?_)
      · skip
        refine v_iload_n X 1 d_T_left_27 rfl ?_
        have h9 := hm18; simp only [if_neg c18] at h9; first | exact h9 | (simp only [if_neg c18]; exact h9)
      · skip
        refine v_iload_n X 1 d_T_left_21 rfl ?_
        refine v_iconst X 1 d_T_left_22 (by decide) ?_
        refine v_iaddN X (a := (lfS gN j)) (b := 1) d_T_left_23 ?_
        refine v_goto X 28 d_T_left_24 (by decide) ?_
        have h9 := hm18; simp only [if_pos c18] at h9; first | exact h9 | (simp only [if_pos c18]; exact h9)
    refine v_istore_n X d_T_left_28 rfl (by decide) (lv' := [(1, .int (nI (if (gN j) = true then ((lfS gN j) + 1) else (lfS gN j)))), (2, .int (nI j)), (0, .ref m)]) rfl ?_
    refine v_iinc X 1 d_T_left_29 (x := nI j) rfl (v := nI (j + 1)) (nI_1 _) (by decide) (lv' := [(2, .int (nI (j + 1))), (1, .int (nI (if (gN j) = true then ((lfS gN j) + 1) else (lfS gN j)))), (0, .ref m)]) rfl ?_
    refine v_goto X 4 d_T_left_32 (by decide) ?_
    exact v_eq rfl (by rfl) rfl (by rfl) (ih (j + 1) (by omega))

set_option maxHeartbeats 4000000 in
set_option maxRecDepth 100000 in
theorem c_T_left (l : Launch) (D : va_G) (z : Nat → ClassId) (m : Nat) (tS : Nat) (tD : Int32) (tE : Int32) (tN : Int64) (tA : Bool) (tL : Int64) (aK : Nat) (aP : Nat) (aQ : Nat) (aT : Nat) (aW : Nat) (aO : Nat) (aM : Nat) (aL : Nat) (aH : Nat) (aI : Nat) (aS : Nat) (aR : Nat) (aX : Nat) (aF : Nat) (aY : Nat) (aJ : Nat) (tl : Int64) (tg : Int64) (tB : Bool) (tM : Int32) (tb : Int32) (tv : Int64) (tw : Int64) (tT : Int64) (tr : Int64) (tm : Int64) (tf : Int64) (aG : Nat) (aE : Nat) (aU : Nat) (gN : Nat → Bool) (h6 : tS ≤ 6) : Ctr l D z y_T_left b_T_left 3 (some .int) { frames := 0, cells := 0, slots := 0, locals := 0 } [.ref m] [(m, .inr (5, (.int (nI tS) :: .int tD :: .int tE :: .long tN :: .int (bI tA) :: .long tL :: .ref aK :: .ref aP :: .ref aQ :: .ref aT :: .ref aW :: .ref aO :: .ref aM :: .ref aL :: .ref aH :: .ref aI :: .ref aS :: .ref aR :: .ref aX :: .ref aF :: .ref aY :: .ref aJ :: .long tl :: .long tg :: .int (bI tB) :: .int tM :: .int tb :: .long tv :: .long tw :: .long tT :: .long tr :: .long tm :: .long tf :: .ref aG :: .ref aE :: .ref aU :: []))), (aJ, .inl (z 2, 6, .inl (aB gN)))] (fun v w => v = some (.int (nI (lfS gN tS))) ∧ w = [(m, .inr (5, (.int (nI tS) :: .int tD :: .int tE :: .long tN :: .int (bI tA) :: .long tL :: .ref aK :: .ref aP :: .ref aQ :: .ref aT :: .ref aW :: .ref aO :: .ref aM :: .ref aL :: .ref aH :: .ref aI :: .ref aS :: .ref aR :: .ref aX :: .ref aF :: .ref aY :: .ref aJ :: .long tl :: .long tg :: .int (bI tB) :: .int tM :: .int tb :: .long tv :: .long tw :: .long tT :: .long tr :: .long tm :: .long tf :: .ref aG :: .ref aE :: .ref aU :: []))), (aJ, .inl (z 2, 6, .inl (aB gN)))]) 0 0 := by
  refine met_V (own := R_T) (nm := "left") (by decide +kernel) rfl rfl (Nat.le_of_ble_eq_true rfl) ?_
  intro κ hl hD hz X Y
  subst hl
  subst hD
  subst hz
  show V κ 3 0 0 0 [(0, .ref m)] [] [(m, .inr (5, (.int (nI tS) :: .int tD :: .int tE :: .long tN :: .int (bI tA) :: .long tL :: .ref aK :: .ref aP :: .ref aQ :: .ref aT :: .ref aW :: .ref aO :: .ref aM :: .ref aL :: .ref aH :: .ref aI :: .ref aS :: .ref aR :: .ref aX :: .ref aF :: .ref aY :: .ref aJ :: .long tl :: .long tg :: .int (bI tB) :: .int tM :: .int tb :: .long tv :: .long tw :: .long tT :: .long tr :: .long tm :: .long tf :: .ref aG :: .ref aE :: .ref aU :: []))), (aJ, .inl (κ.z 2, 6, .inl (aB gN)))]
  refine v_iconst X 0 d_T_left_0 (by decide) ?_
  refine v_istore_n X d_T_left_1 rfl (by decide) (lv' := [(1, .int 0), (0, .ref m)]) rfl ?_
  refine v_iconst X 0 d_T_left_2 (by decide) ?_
  refine v_istore_n X d_T_left_3 rfl (by decide) (lv' := [(2, .int 0), (1, .int 0), (0, .ref m)]) rfl ?_
  show V κ 3 0 0 4 [(2, .int (nI 0)), (1, .int (nI (lfS gN 0))), (0, .ref m)] [] [(m, .inr (5, (.int (nI tS) :: .int tD :: .int tE :: .long tN :: .int (bI tA) :: .long tL :: .ref aK :: .ref aP :: .ref aQ :: .ref aT :: .ref aW :: .ref aO :: .ref aM :: .ref aL :: .ref aH :: .ref aI :: .ref aS :: .ref aR :: .ref aX :: .ref aF :: .ref aY :: .ref aJ :: .long tl :: .long tg :: .int (bI tB) :: .int tM :: .int tb :: .long tv :: .long tw :: .long tT :: .long tr :: .long tm :: .long tf :: .ref aG :: .ref aE :: .ref aU :: []))), (aJ, .inl (κ.z 2, 6, .inl (aB gN)))]
  refine lp_left X m tS tD tE tN tA tL aK aP aQ aT aW aO aM aL aH aI aS aR aX aF aY aJ tl tg tB tM tb tv tw tT tr tm tf aG aE aU gN (by omega)  ?_ (tS - 0) 0 (by omega)
  show V κ 3 0 0 35 [(2, .int (nI tS)), (1, .int (nI (lfS gN tS))), (0, .ref m)] [] [(m, .inr (5, (.int (nI tS) :: .int tD :: .int tE :: .long tN :: .int (bI tA) :: .long tL :: .ref aK :: .ref aP :: .ref aQ :: .ref aT :: .ref aW :: .ref aO :: .ref aM :: .ref aL :: .ref aH :: .ref aI :: .ref aS :: .ref aR :: .ref aX :: .ref aF :: .ref aY :: .ref aJ :: .long tl :: .long tg :: .int (bI tB) :: .int tM :: .int tb :: .long tv :: .long tw :: .long tT :: .long tr :: .long tm :: .long tf :: .ref aG :: .ref aE :: .ref aU :: []))), (aJ, .inl (κ.z 2, 6, .inl (aB gN)))]
  refine v_iload_n X 1 d_T_left_35 rfl ?_
  exact v_iret X Y (by decide) (by decide) d_T_left_36 ⟨rfl, rfl⟩

def cvS (gF : Nat → Int64) (gY : Nat → Int64) (gN : Nat → Bool) (x : Int64) : Nat → Nat
  | 0 => 0
  | j + 1 => if (gN j) = true then (if (f_T_between x (gF j) (gY j)) = true then ((cvS gF gY gN x j) + 1) else (cvS gF gY gN x j)) else (cvS gF gY gN x j)
theorem cvS_le (gF : Nat → Int64) (gY : Nat → Int64) (gN : Nat → Bool) (x : Int64) : ∀ n : Nat, cvS gF gY gN x n ≤ n
  | 0 => Nat.le_refl _
  | n + 1 => by
    have h9 := cvS_le gF gY gN x n
    unfold cvS
    try dsimp only
    repeat' split
    all_goals omega
set_option maxHeartbeats 4000000 in
set_option maxRecDepth 100000 in
theorem lp_cover {κ : VC} (X : Cx κ b_T_covering R_T { frames := 1, cells := 0, slots := 0, locals := 25 } 5) (m : Nat) (tS : Nat) (tD : Int32) (tE : Int32) (tN : Int64) (tA : Bool) (tL : Int64) (aK : Nat) (aP : Nat) (aQ : Nat) (aT : Nat) (aW : Nat) (aO : Nat) (aM : Nat) (aL : Nat) (aH : Nat) (aI : Nat) (aS : Nat) (aR : Nat) (aX : Nat) (aF : Nat) (aY : Nat) (aJ : Nat) (tl : Int64) (tg : Int64) (tB : Bool) (tM : Int32) (tb : Int32) (tv : Int64) (tw : Int64) (tT : Int64) (tr : Int64) (tm : Int64) (tf : Int64) (aG : Nat) (aE : Nat) (aU : Nat) (gF : Nat → Int64) (gY : Nat → Int64) (gN : Nat → Bool) (x : Int64) (h6 : tS ≤ 6)  (kk : V κ 5 0 0 59 [(4, .int (nI tS)), (3, .int (nI (cvS gF gY gN x tS))), (0, .ref m), (1, .long x)] [] [(m, .inr (5, (.int (nI tS) :: .int tD :: .int tE :: .long tN :: .int (bI tA) :: .long tL :: .ref aK :: .ref aP :: .ref aQ :: .ref aT :: .ref aW :: .ref aO :: .ref aM :: .ref aL :: .ref aH :: .ref aI :: .ref aS :: .ref aR :: .ref aX :: .ref aF :: .ref aY :: .ref aJ :: .long tl :: .long tg :: .int (bI tB) :: .int tM :: .int tb :: .long tv :: .long tw :: .long tT :: .long tr :: .long tm :: .long tf :: .ref aG :: .ref aE :: .ref aU :: []))), (aF, .inl (κ.z 1, 6, .inr (.inl gF))), (aY, .inl (κ.z 1, 6, .inr (.inl gY))), (aJ, .inl (κ.z 2, 6, .inl (aB gN)))]) : ∀ (d9 j : Nat), j + d9 = tS → V κ 5 0 0 5 [(4, .int (nI j)), (3, .int (nI (cvS gF gY gN x j))), (0, .ref m), (1, .long x)] [] [(m, .inr (5, (.int (nI tS) :: .int tD :: .int tE :: .long tN :: .int (bI tA) :: .long tL :: .ref aK :: .ref aP :: .ref aQ :: .ref aT :: .ref aW :: .ref aO :: .ref aM :: .ref aL :: .ref aH :: .ref aI :: .ref aS :: .ref aR :: .ref aX :: .ref aF :: .ref aY :: .ref aJ :: .long tl :: .long tg :: .int (bI tB) :: .int tM :: .int tb :: .long tv :: .long tw :: .long tT :: .long tr :: .long tm :: .long tf :: .ref aG :: .ref aE :: .ref aU :: []))), (aF, .inl (κ.z 1, 6, .inr (.inl gF))), (aY, .inl (κ.z 1, 6, .inr (.inl gY))), (aJ, .inl (κ.z 2, 6, .inl (aB gN)))] := by
  intro d9
  induction d9 with
  | zero =>
    intro j hj 
    have e9 : j = tS := by omega
    rw [e9]
    show V κ 5 0 0 5 [(4, .int (nI tS)), (3, .int (nI (cvS gF gY gN x tS))), (0, .ref m), (1, .long x)] [] [(m, .inr (5, (.int (nI tS) :: .int tD :: .int tE :: .long tN :: .int (bI tA) :: .long tL :: .ref aK :: .ref aP :: .ref aQ :: .ref aT :: .ref aW :: .ref aO :: .ref aM :: .ref aL :: .ref aH :: .ref aI :: .ref aS :: .ref aR :: .ref aX :: .ref aF :: .ref aY :: .ref aJ :: .long tl :: .long tg :: .int (bI tB) :: .int tM :: .int tb :: .long tv :: .long tw :: .long tT :: .long tr :: .long tm :: .long tf :: .ref aG :: .ref aE :: .ref aU :: []))), (aF, .inl (κ.z 1, 6, .inr (.inl gF))), (aY, .inl (κ.z 1, 6, .inr (.inl gY))), (aJ, .inl (κ.z 2, 6, .inl (aB gN)))]
    refine v_iload X 0 d_T_covering_5 rfl ?_
    refine v_aload_n X 2 d_T_covering_7 rfl ?_
    refine v_get X 0 0 rfl rfl li_T (by decide) m427 rfl d_T_covering_8 ?_
    refine v_icmpN_ge X 59 (a := tS) (b := tS) d_T_covering_11 (by decide) (by omega) (by omega) (fun c11 => ?_) (fun c11 => by omega)
    exact kk
  | succ d9 ih =>
    intro j hj 
    have h8 := cvS_le gF gY gN x j
    show V κ 5 0 0 5 [(4, .int (nI j)), (3, .int (nI (cvS gF gY gN x j))), (0, .ref m), (1, .long x)] [] [(m, .inr (5, (.int (nI tS) :: .int tD :: .int tE :: .long tN :: .int (bI tA) :: .long tL :: .ref aK :: .ref aP :: .ref aQ :: .ref aT :: .ref aW :: .ref aO :: .ref aM :: .ref aL :: .ref aH :: .ref aI :: .ref aS :: .ref aR :: .ref aX :: .ref aF :: .ref aY :: .ref aJ :: .long tl :: .long tg :: .int (bI tB) :: .int tM :: .int tb :: .long tv :: .long tw :: .long tT :: .long tr :: .long tm :: .long tf :: .ref aG :: .ref aE :: .ref aU :: []))), (aF, .inl (κ.z 1, 6, .inr (.inl gF))), (aY, .inl (κ.z 1, 6, .inr (.inl gY))), (aJ, .inl (κ.z 2, 6, .inl (aB gN)))]
    refine v_iload X 0 d_T_covering_5 rfl ?_
    refine v_aload_n X 2 d_T_covering_7 rfl ?_
    refine v_get X 0 0 rfl rfl li_T (by decide) m427 rfl d_T_covering_8 ?_
    refine v_icmpN_ge X 59 (a := j) (b := tS) d_T_covering_11 (by decide) (by omega) (by omega) (fun c11 => by omega) (fun c11 => ?_)
    refine v_aload_n X 2 d_T_covering_14 rfl ?_
    refine v_get X 0 21 rfl rfl li_T (by decide) m448 rfl d_T_covering_15 ?_
    refine v_iload X 0 d_T_covering_18 rfl ?_
    refine v_zaldN X 3 2 (j := j) rfl rfl (by omega) (by omega) d_T_covering_20 ?_
    suffices hm21 : V κ 5 0 0 52 [(4, .int (nI j)), (3, .int (nI (cvS gF gY gN x j))), (0, .ref m), (1, .long x)] [.int (nI (if (gN j) = true then (if (f_T_between x (gF j) (gY j)) = true then ((cvS gF gY gN x j) + 1) else (cvS gF gY gN x j)) else (cvS gF gY gN x j)))] [(m, .inr (5, (.int (nI tS) :: .int tD :: .int tE :: .long tN :: .int (bI tA) :: .long tL :: .ref aK :: .ref aP :: .ref aQ :: .ref aT :: .ref aW :: .ref aO :: .ref aM :: .ref aL :: .ref aH :: .ref aI :: .ref aS :: .ref aR :: .ref aX :: .ref aF :: .ref aY :: .ref aJ :: .long tl :: .long tg :: .int (bI tB) :: .int tM :: .int tb :: .long tv :: .long tw :: .long tT :: .long tr :: .long tm :: .long tf :: .ref aG :: .ref aE :: .ref aU :: []))), (aF, .inl (κ.z 1, 6, .inr (.inl gF))), (aY, .inl (κ.z 1, 6, .inr (.inl gY))), (aJ, .inl (κ.z 2, 6, .inl (aB gN)))] by
      refine v_ifB_eq X 51 (t := gN j) d_T_covering_21 (by decide) (fun c21 => ?_) (fun c21 => ?_)
      · skip
        refine v_iload_n X 1 d_T_covering_51 rfl ?_
        have h9 := hm21; simp only [if_neg c21] at h9; first | exact h9 | (simp only [if_neg c21]; exact h9)
      · skip
        refine v_lload_n X 3 d_T_covering_24 rfl ?_
        refine v_aload_n X 2 d_T_covering_25 rfl ?_
        refine v_get X 0 19 rfl rfl li_T (by decide) m446 rfl d_T_covering_26 ?_
        refine v_iload X 0 d_T_covering_29 rfl ?_
        refine v_laldN X 1 1 (j := j) rfl rfl (by omega) (by omega) d_T_covering_31 ?_
        refine v_aload_n X 2 d_T_covering_32 rfl ?_
        refine v_get X 0 20 rfl rfl li_T (by decide) m447 rfl d_T_covering_33 ?_
        refine v_iload X 0 d_T_covering_36 rfl ?_
        refine v_laldN X 2 1 (j := j) rfl rfl (by omega) (by omega) d_T_covering_38 ?_
        refine v_callS X (k := 0) (n := 0) (n9 := 3) (As := [.long x, .long (gF j), .long (gY j)]) (rest := []) (wc := []) (wr := [(m, .inr (5, (.int (nI tS) :: .int tD :: .int tE :: .long tN :: .int (bI tA) :: .long tL :: .ref aK :: .ref aP :: .ref aQ :: .ref aT :: .ref aW :: .ref aO :: .ref aM :: .ref aL :: .ref aH :: .ref aI :: .ref aS :: .ref aR :: .ref aX :: .ref aF :: .ref aY :: .ref aJ :: .long tl :: .long tg :: .int (bI tB) :: .int tM :: .int tb :: .long tv :: .long tw :: .long tT :: .long tr :: .long tm :: .long tf :: .ref aG :: .ref aE :: .ref aU :: []))), (aF, .inl (κ.z 1, 6, .inr (.inl gF))), (aY, .inl (κ.z 1, 6, .inr (.inl gY))), (aJ, .inl (κ.z 2, 6, .inl (aB gN)))]) (c_T_between κ.l κ.D κ.z x (gF j) (gY j) ) m537 m538 m36 (by decide +kernel) rfl (Nat.le_of_ble_eq_true rfl) ⟨by decide, by decide⟩ ⟨by decide, by decide⟩ rfl rfl m539 d_T_covering_39 (fun v w1 hg => ?_)
        obtain ⟨rfl, rfl⟩ := hg
        show V κ 5 0 0 42 [(4, .int (nI j)), (3, .int (nI (cvS gF gY gN x j))), (0, .ref m), (1, .long x)] [.int (bI (f_T_between x (gF j) (gY j)))] [(m, .inr (5, (.int (nI tS) :: .int tD :: .int tE :: .long tN :: .int (bI tA) :: .long tL :: .ref aK :: .ref aP :: .ref aQ :: .ref aT :: .ref aW :: .ref aO :: .ref aM :: .ref aL :: .ref aH :: .ref aI :: .ref aS :: .ref aR :: .ref aX :: .ref aF :: .ref aY :: .ref aJ :: .long tl :: .long tg :: .int (bI tB) :: .int tM :: .int tb :: .long tv :: .long tw :: .long tT :: .long tr :: .long tm :: .long tf :: .ref aG :: .ref aE :: .ref aU :: []))), (aF, .inl (κ.z 1, 6, .inr (.inl gF))), (aY, .inl (κ.z 1, 6, .inr (.inl gY))), (aJ, .inl (κ.z 2, 6, .inl (aB gN)))]
        suffices hm42 : V κ 5 0 0 52 [(4, .int (nI j)), (3, .int (nI (cvS gF gY gN x j))), (0, .ref m), (1, .long x)] [.int (nI (if (f_T_between x (gF j) (gY j)) = true then ((cvS gF gY gN x j) + 1) else (cvS gF gY gN x j)))] [(m, .inr (5, (.int (nI tS) :: .int tD :: .int tE :: .long tN :: .int (bI tA) :: .long tL :: .ref aK :: .ref aP :: .ref aQ :: .ref aT :: .ref aW :: .ref aO :: .ref aM :: .ref aL :: .ref aH :: .ref aI :: .ref aS :: .ref aR :: .ref aX :: .ref aF :: .ref aY :: .ref aJ :: .long tl :: .long tg :: .int (bI tB) :: .int tM :: .int tb :: .long tv :: .long tw :: .long tT :: .long tr :: .long tm :: .long tf :: .ref aG :: .ref aE :: .ref aU :: []))), (aF, .inl (κ.z 1, 6, .inr (.inl gF))), (aY, .inl (κ.z 1, 6, .inr (.inl gY))), (aJ, .inl (κ.z 2, 6, .inl (aB gN)))] by
          refine v_ifB_eq X 51 (t := f_T_between x (gF j) (gY j)) d_T_covering_42 (by decide) (fun c42 => ?_) (fun c42 => ?_)
          · skip
            refine v_iload_n X 1 d_T_covering_51 rfl ?_
            have h9 := hm42; simp only [if_neg c42] at h9; first | exact h9 | (simp only [if_neg c42]; exact h9)
          · skip
            refine v_iload_n X 1 d_T_covering_45 rfl ?_
            refine v_iconst X 1 d_T_covering_46 (by decide) ?_
            refine v_iaddN X (a := (cvS gF gY gN x j)) (b := 1) d_T_covering_47 ?_
            refine v_goto X 52 d_T_covering_48 (by decide) ?_
            have h9 := hm42; simp only [if_pos c42] at h9; first | exact h9 | (simp only [if_pos c42]; exact h9)
        have h9 := hm21; simp only [if_pos c21] at h9; first | exact h9 | (simp only [if_pos c21]; exact h9)
    refine v_istore_n X d_T_covering_52 rfl (by decide) (lv' := [(3, .int (nI (if (gN j) = true then (if (f_T_between x (gF j) (gY j)) = true then ((cvS gF gY gN x j) + 1) else (cvS gF gY gN x j)) else (cvS gF gY gN x j)))), (4, .int (nI j)), (0, .ref m), (1, .long x)]) rfl ?_
    refine v_iinc X 1 d_T_covering_53 (x := nI j) rfl (v := nI (j + 1)) (nI_1 _) (by decide) (lv' := [(4, .int (nI (j + 1))), (3, .int (nI (if (gN j) = true then (if (f_T_between x (gF j) (gY j)) = true then ((cvS gF gY gN x j) + 1) else (cvS gF gY gN x j)) else (cvS gF gY gN x j)))), (0, .ref m), (1, .long x)]) rfl ?_
    refine v_goto X 5 d_T_covering_56 (by decide) ?_
    exact v_eq rfl (by rfl) rfl (by rfl) (ih (j + 1) (by omega))

set_option maxHeartbeats 4000000 in
set_option maxRecDepth 100000 in
theorem c_T_covering (l : Launch) (D : va_G) (z : Nat → ClassId) (m : Nat) (tS : Nat) (tD : Int32) (tE : Int32) (tN : Int64) (tA : Bool) (tL : Int64) (aK : Nat) (aP : Nat) (aQ : Nat) (aT : Nat) (aW : Nat) (aO : Nat) (aM : Nat) (aL : Nat) (aH : Nat) (aI : Nat) (aS : Nat) (aR : Nat) (aX : Nat) (aF : Nat) (aY : Nat) (aJ : Nat) (tl : Int64) (tg : Int64) (tB : Bool) (tM : Int32) (tb : Int32) (tv : Int64) (tw : Int64) (tT : Int64) (tr : Int64) (tm : Int64) (tf : Int64) (aG : Nat) (aE : Nat) (aU : Nat) (gF : Nat → Int64) (gY : Nat → Int64) (gN : Nat → Bool) (x : Int64) (h6 : tS ≤ 6) : Ctr l D z y_T_covering b_T_covering 5 (some .int) { frames := 1, cells := 0, slots := 0, locals := 25 } [.ref m, .long x] [(m, .inr (5, (.int (nI tS) :: .int tD :: .int tE :: .long tN :: .int (bI tA) :: .long tL :: .ref aK :: .ref aP :: .ref aQ :: .ref aT :: .ref aW :: .ref aO :: .ref aM :: .ref aL :: .ref aH :: .ref aI :: .ref aS :: .ref aR :: .ref aX :: .ref aF :: .ref aY :: .ref aJ :: .long tl :: .long tg :: .int (bI tB) :: .int tM :: .int tb :: .long tv :: .long tw :: .long tT :: .long tr :: .long tm :: .long tf :: .ref aG :: .ref aE :: .ref aU :: []))), (aF, .inl (z 1, 6, .inr (.inl gF))), (aY, .inl (z 1, 6, .inr (.inl gY))), (aJ, .inl (z 2, 6, .inl (aB gN)))] (fun v w => v = some (.int (nI (cvS gF gY gN x tS))) ∧ w = [(m, .inr (5, (.int (nI tS) :: .int tD :: .int tE :: .long tN :: .int (bI tA) :: .long tL :: .ref aK :: .ref aP :: .ref aQ :: .ref aT :: .ref aW :: .ref aO :: .ref aM :: .ref aL :: .ref aH :: .ref aI :: .ref aS :: .ref aR :: .ref aX :: .ref aF :: .ref aY :: .ref aJ :: .long tl :: .long tg :: .int (bI tB) :: .int tM :: .int tb :: .long tv :: .long tw :: .long tT :: .long tr :: .long tm :: .long tf :: .ref aG :: .ref aE :: .ref aU :: []))), (aF, .inl (z 1, 6, .inr (.inl gF))), (aY, .inl (z 1, 6, .inr (.inl gY))), (aJ, .inl (z 2, 6, .inl (aB gN)))]) 0 0 := by
  refine met_V (own := R_T) (nm := "covering") (by decide +kernel) rfl rfl (Nat.le_of_ble_eq_true rfl) ?_
  intro κ hl hD hz X Y
  subst hl
  subst hD
  subst hz
  show V κ 5 0 0 0 [(0, .ref m), (1, .long x)] [] [(m, .inr (5, (.int (nI tS) :: .int tD :: .int tE :: .long tN :: .int (bI tA) :: .long tL :: .ref aK :: .ref aP :: .ref aQ :: .ref aT :: .ref aW :: .ref aO :: .ref aM :: .ref aL :: .ref aH :: .ref aI :: .ref aS :: .ref aR :: .ref aX :: .ref aF :: .ref aY :: .ref aJ :: .long tl :: .long tg :: .int (bI tB) :: .int tM :: .int tb :: .long tv :: .long tw :: .long tT :: .long tr :: .long tm :: .long tf :: .ref aG :: .ref aE :: .ref aU :: []))), (aF, .inl (κ.z 1, 6, .inr (.inl gF))), (aY, .inl (κ.z 1, 6, .inr (.inl gY))), (aJ, .inl (κ.z 2, 6, .inl (aB gN)))]
  refine v_iconst X 0 d_T_covering_0 (by decide) ?_
  refine v_istore_n X d_T_covering_1 rfl (by decide) (lv' := [(3, .int 0), (0, .ref m), (1, .long x)]) rfl ?_
  refine v_iconst X 0 d_T_covering_2 (by decide) ?_
  refine v_istore X d_T_covering_3 (by decide) (lv' := [(4, .int 0), (3, .int 0), (0, .ref m), (1, .long x)]) rfl ?_
  show V κ 5 0 0 5 [(4, .int (nI 0)), (3, .int (nI (cvS gF gY gN x 0))), (0, .ref m), (1, .long x)] [] [(m, .inr (5, (.int (nI tS) :: .int tD :: .int tE :: .long tN :: .int (bI tA) :: .long tL :: .ref aK :: .ref aP :: .ref aQ :: .ref aT :: .ref aW :: .ref aO :: .ref aM :: .ref aL :: .ref aH :: .ref aI :: .ref aS :: .ref aR :: .ref aX :: .ref aF :: .ref aY :: .ref aJ :: .long tl :: .long tg :: .int (bI tB) :: .int tM :: .int tb :: .long tv :: .long tw :: .long tT :: .long tr :: .long tm :: .long tf :: .ref aG :: .ref aE :: .ref aU :: []))), (aF, .inl (κ.z 1, 6, .inr (.inl gF))), (aY, .inl (κ.z 1, 6, .inr (.inl gY))), (aJ, .inl (κ.z 2, 6, .inl (aB gN)))]
  refine lp_cover X m tS tD tE tN tA tL aK aP aQ aT aW aO aM aL aH aI aS aR aX aF aY aJ tl tg tB tM tb tv tw tT tr tm tf aG aE aU gF gY gN x (by omega)  ?_ (tS - 0) 0 (by omega)
  show V κ 5 0 0 59 [(4, .int (nI tS)), (3, .int (nI (cvS gF gY gN x tS))), (0, .ref m), (1, .long x)] [] [(m, .inr (5, (.int (nI tS) :: .int tD :: .int tE :: .long tN :: .int (bI tA) :: .long tL :: .ref aK :: .ref aP :: .ref aQ :: .ref aT :: .ref aW :: .ref aO :: .ref aM :: .ref aL :: .ref aH :: .ref aI :: .ref aS :: .ref aR :: .ref aX :: .ref aF :: .ref aY :: .ref aJ :: .long tl :: .long tg :: .int (bI tB) :: .int tM :: .int tb :: .long tv :: .long tw :: .long tT :: .long tr :: .long tm :: .long tf :: .ref aG :: .ref aE :: .ref aU :: []))), (aF, .inl (κ.z 1, 6, .inr (.inl gF))), (aY, .inl (κ.z 1, 6, .inr (.inl gY))), (aJ, .inl (κ.z 2, 6, .inl (aB gN)))]
  refine v_iload_n X 1 d_T_covering_59 rfl ?_
  exact v_iret X Y (by decide) (by decide) d_T_covering_60 ⟨rfl, rfl⟩

def huS (tS : Nat) (tl : Int64) (tg : Int64) (gF : Nat → Int64) (gY : Nat → Int64) (gN : Nat → Bool) (many : Nat) : Nat → Bool × Int64 × Int64
  | 0 => (false, tl, tg)
  | j + 1 => (if (gN j) = true then (if (cvS gF gY gN (gY j) tS) < many then (if (gN j) = true then (if (cvS gF gY gN (gF j) tS) < many then ((huS tS tl tg gF gY gN many j).1) else true) else ((huS tS tl tg gF gY gN many j).1)) else true) else (if (gN j) = true then (if (cvS gF gY gN (gF j) tS) < many then ((huS tS tl tg gF gY gN many j).1) else true) else ((huS tS tl tg gF gY gN many j).1)), if (gN j) = true then if (cvS gF gY gN (gY j) tS) < many then (if (gN j) = true then if (cvS gF gY gN (gF j) tS) < many then ((huS tS tl tg gF gY gN many j).2.1) else if ((huS tS tl tg gF gY gN many j).1) = true then if (gF j) ≤ ((huS tS tl tg gF gY gN many j).2.1) then gF j else ((huS tS tl tg gF gY gN many j).2.1) else gF j else ((huS tS tl tg gF gY gN many j).2.1)) else if (if (gN j) = true then (if (cvS gF gY gN (gF j) tS) < many then ((huS tS tl tg gF gY gN many j).1) else true) else ((huS tS tl tg gF gY gN many j).1)) = true then if (gY j) ≤ (if (gN j) = true then if (cvS gF gY gN (gF j) tS) < many then ((huS tS tl tg gF gY gN many j).2.1) else if ((huS tS tl tg gF gY gN many j).1) = true then if (gF j) ≤ ((huS tS tl tg gF gY gN many j).2.1) then gF j else ((huS tS tl tg gF gY gN many j).2.1) else gF j else ((huS tS tl tg gF gY gN many j).2.1)) then gY j else (if (gN j) = true then if (cvS gF gY gN (gF j) tS) < many then ((huS tS tl tg gF gY gN many j).2.1) else if ((huS tS tl tg gF gY gN many j).1) = true then if (gF j) ≤ ((huS tS tl tg gF gY gN many j).2.1) then gF j else ((huS tS tl tg gF gY gN many j).2.1) else gF j else ((huS tS tl tg gF gY gN many j).2.1)) else gY j else if (gN j) = true then if (cvS gF gY gN (gF j) tS) < many then ((huS tS tl tg gF gY gN many j).2.1) else if ((huS tS tl tg gF gY gN many j).1) = true then if (gF j) ≤ ((huS tS tl tg gF gY gN many j).2.1) then gF j else ((huS tS tl tg gF gY gN many j).2.1) else gF j else ((huS tS tl tg gF gY gN many j).2.1), if (gN j) = true then if (cvS gF gY gN (gY j) tS) < many then (if (gN j) = true then if (cvS gF gY gN (gF j) tS) < many then ((huS tS tl tg gF gY gN many j).2.2) else if ((huS tS tl tg gF gY gN many j).1) = true then if ((huS tS tl tg gF gY gN many j).2.2) ≤ (gF j) then gF j else ((huS tS tl tg gF gY gN many j).2.2) else gF j else ((huS tS tl tg gF gY gN many j).2.2)) else if (if (gN j) = true then (if (cvS gF gY gN (gF j) tS) < many then ((huS tS tl tg gF gY gN many j).1) else true) else ((huS tS tl tg gF gY gN many j).1)) = true then if (if (gN j) = true then if (cvS gF gY gN (gF j) tS) < many then ((huS tS tl tg gF gY gN many j).2.2) else if ((huS tS tl tg gF gY gN many j).1) = true then if ((huS tS tl tg gF gY gN many j).2.2) ≤ (gF j) then gF j else ((huS tS tl tg gF gY gN many j).2.2) else gF j else ((huS tS tl tg gF gY gN many j).2.2)) ≤ (gY j) then gY j else (if (gN j) = true then if (cvS gF gY gN (gF j) tS) < many then ((huS tS tl tg gF gY gN many j).2.2) else if ((huS tS tl tg gF gY gN many j).1) = true then if ((huS tS tl tg gF gY gN many j).2.2) ≤ (gF j) then gF j else ((huS tS tl tg gF gY gN many j).2.2) else gF j else ((huS tS tl tg gF gY gN many j).2.2)) else gY j else if (gN j) = true then if (cvS gF gY gN (gF j) tS) < many then ((huS tS tl tg gF gY gN many j).2.2) else if ((huS tS tl tg gF gY gN many j).1) = true then if ((huS tS tl tg gF gY gN many j).2.2) ≤ (gF j) then gF j else ((huS tS tl tg gF gY gN many j).2.2) else gF j else ((huS tS tl tg gF gY gN many j).2.2))
set_option maxHeartbeats 4000000 in
set_option maxRecDepth 100000 in
theorem lp_T_hullOf {κ : VC} (X : Cx κ b_T_hullOf R_T { frames := 2, cells := 0, slots := 0, locals := 49 } 4) (m : Nat) (tS : Nat) (tD : Int32) (tE : Int32) (tN : Int64) (tA : Bool) (tL : Int64) (aK : Nat) (aP : Nat) (aQ : Nat) (aT : Nat) (aW : Nat) (aO : Nat) (aM : Nat) (aL : Nat) (aH : Nat) (aI : Nat) (aS : Nat) (aR : Nat) (aX : Nat) (aF : Nat) (aY : Nat) (aJ : Nat) (tl : Int64) (tg : Int64) (tB : Bool) (tM : Int32) (tb : Int32) (tv : Int64) (tw : Int64) (tT : Int64) (tr : Int64) (tm : Int64) (tf : Int64) (aG : Nat) (aE : Nat) (aU : Nat) (gF : Nat → Int64) (gY : Nat → Int64) (gN : Nat → Bool) (many : Nat) (h6 : tS ≤ 6) (hm6 : many ≤ 6)  (kk : V κ 4 0 0 208 [(3, .int (nI tS)), (2, .int (bI ((huS tS tl tg gF gY gN many tS).1))), (0, .ref m), (1, .int (nI many))] [] [(m, .inr (5, (.int (nI tS) :: .int tD :: .int tE :: .long tN :: .int (bI tA) :: .long tL :: .ref aK :: .ref aP :: .ref aQ :: .ref aT :: .ref aW :: .ref aO :: .ref aM :: .ref aL :: .ref aH :: .ref aI :: .ref aS :: .ref aR :: .ref aX :: .ref aF :: .ref aY :: .ref aJ :: .long ((huS tS tl tg gF gY gN many tS).2.1) :: .long ((huS tS tl tg gF gY gN many tS).2.2) :: .int (bI tB) :: .int tM :: .int tb :: .long tv :: .long tw :: .long tT :: .long tr :: .long tm :: .long tf :: .ref aG :: .ref aE :: .ref aU :: []))), (aF, .inl (κ.z 1, 6, .inr (.inl gF))), (aY, .inl (κ.z 1, 6, .inr (.inl gY))), (aJ, .inl (κ.z 2, 6, .inl (aB gN)))]) : ∀ (d9 j : Nat), j + d9 = tS → V κ 4 0 0 4 [(3, .int (nI j)), (2, .int (bI ((huS tS tl tg gF gY gN many j).1))), (0, .ref m), (1, .int (nI many))] [] [(m, .inr (5, (.int (nI tS) :: .int tD :: .int tE :: .long tN :: .int (bI tA) :: .long tL :: .ref aK :: .ref aP :: .ref aQ :: .ref aT :: .ref aW :: .ref aO :: .ref aM :: .ref aL :: .ref aH :: .ref aI :: .ref aS :: .ref aR :: .ref aX :: .ref aF :: .ref aY :: .ref aJ :: .long ((huS tS tl tg gF gY gN many j).2.1) :: .long ((huS tS tl tg gF gY gN many j).2.2) :: .int (bI tB) :: .int tM :: .int tb :: .long tv :: .long tw :: .long tT :: .long tr :: .long tm :: .long tf :: .ref aG :: .ref aE :: .ref aU :: []))), (aF, .inl (κ.z 1, 6, .inr (.inl gF))), (aY, .inl (κ.z 1, 6, .inr (.inl gY))), (aJ, .inl (κ.z 2, 6, .inl (aB gN)))] := by
  intro d9
  induction d9 with
  | zero =>
    intro j hj 
    have e9 : j = tS := by omega
    rw [e9]
    show V κ 4 0 0 4 [(3, .int (nI tS)), (2, .int (bI ((huS tS tl tg gF gY gN many tS).1))), (0, .ref m), (1, .int (nI many))] [] [(m, .inr (5, (.int (nI tS) :: .int tD :: .int tE :: .long tN :: .int (bI tA) :: .long tL :: .ref aK :: .ref aP :: .ref aQ :: .ref aT :: .ref aW :: .ref aO :: .ref aM :: .ref aL :: .ref aH :: .ref aI :: .ref aS :: .ref aR :: .ref aX :: .ref aF :: .ref aY :: .ref aJ :: .long ((huS tS tl tg gF gY gN many tS).2.1) :: .long ((huS tS tl tg gF gY gN many tS).2.2) :: .int (bI tB) :: .int tM :: .int tb :: .long tv :: .long tw :: .long tT :: .long tr :: .long tm :: .long tf :: .ref aG :: .ref aE :: .ref aU :: []))), (aF, .inl (κ.z 1, 6, .inr (.inl gF))), (aY, .inl (κ.z 1, 6, .inr (.inl gY))), (aJ, .inl (κ.z 2, 6, .inl (aB gN)))]
    refine v_iload_n X 0 d_T_hullOf_4 rfl ?_
    refine v_aload_n X 2 d_T_hullOf_5 rfl ?_
    refine v_get X 0 0 rfl rfl li_T (by decide) m427 rfl d_T_hullOf_6 ?_
    refine v_icmpN_ge X 208 (a := tS) (b := tS) d_T_hullOf_9 (by decide) (by omega) (by omega) (fun c9 => ?_) (fun c9 => by omega)
    exact kk
  | succ d9 ih =>
    intro j hj 
    have h8 := cvS_le gF gY gN (gF j) tS
    have h9 := cvS_le gF gY gN (gY j) tS
    show V κ 4 0 0 4 [(3, .int (nI j)), (2, .int (bI ((huS tS tl tg gF gY gN many j).1))), (0, .ref m), (1, .int (nI many))] [] [(m, .inr (5, (.int (nI tS) :: .int tD :: .int tE :: .long tN :: .int (bI tA) :: .long tL :: .ref aK :: .ref aP :: .ref aQ :: .ref aT :: .ref aW :: .ref aO :: .ref aM :: .ref aL :: .ref aH :: .ref aI :: .ref aS :: .ref aR :: .ref aX :: .ref aF :: .ref aY :: .ref aJ :: .long ((huS tS tl tg gF gY gN many j).2.1) :: .long ((huS tS tl tg gF gY gN many j).2.2) :: .int (bI tB) :: .int tM :: .int tb :: .long tv :: .long tw :: .long tT :: .long tr :: .long tm :: .long tf :: .ref aG :: .ref aE :: .ref aU :: []))), (aF, .inl (κ.z 1, 6, .inr (.inl gF))), (aY, .inl (κ.z 1, 6, .inr (.inl gY))), (aJ, .inl (κ.z 2, 6, .inl (aB gN)))]
    refine v_iload_n X 0 d_T_hullOf_4 rfl ?_
    refine v_aload_n X 2 d_T_hullOf_5 rfl ?_
    refine v_get X 0 0 rfl rfl li_T (by decide) m427 rfl d_T_hullOf_6 ?_
    refine v_icmpN_ge X 208 (a := j) (b := tS) d_T_hullOf_9 (by decide) (by omega) (by omega) (fun c9 => by omega) (fun c9 => ?_)
    refine v_aload_n X 2 d_T_hullOf_12 rfl ?_
    refine v_get X 0 21 rfl rfl li_T (by decide) m448 rfl d_T_hullOf_13 ?_
    refine v_iload_n X 0 d_T_hullOf_16 rfl ?_
    refine v_zaldN X 3 2 (j := j) rfl rfl (by omega) (by omega) d_T_hullOf_17 ?_
    suffices hm18 : V κ 4 0 0 107 [(3, .int (nI j)), (2, .int (bI (if (gN j) = true then (if (cvS gF gY gN (gF j) tS) < many then ((huS tS tl tg gF gY gN many j).1) else true) else ((huS tS tl tg gF gY gN many j).1)))), (0, .ref m), (1, .int (nI many))] [] [(m, .inr (5, (.int (nI tS) :: .int tD :: .int tE :: .long tN :: .int (bI tA) :: .long tL :: .ref aK :: .ref aP :: .ref aQ :: .ref aT :: .ref aW :: .ref aO :: .ref aM :: .ref aL :: .ref aH :: .ref aI :: .ref aS :: .ref aR :: .ref aX :: .ref aF :: .ref aY :: .ref aJ :: .long (if (gN j) = true then if (cvS gF gY gN (gF j) tS) < many then ((huS tS tl tg gF gY gN many j).2.1) else if ((huS tS tl tg gF gY gN many j).1) = true then if (gF j) ≤ ((huS tS tl tg gF gY gN many j).2.1) then gF j else ((huS tS tl tg gF gY gN many j).2.1) else gF j else (huS tS tl tg gF gY gN many j).2.1) :: .long (if (gN j) = true then if (cvS gF gY gN (gF j) tS) < many then ((huS tS tl tg gF gY gN many j).2.2) else if ((huS tS tl tg gF gY gN many j).1) = true then if ((huS tS tl tg gF gY gN many j).2.2) ≤ (gF j) then gF j else ((huS tS tl tg gF gY gN many j).2.2) else gF j else (huS tS tl tg gF gY gN many j).2.2) :: .int (bI tB) :: .int tM :: .int tb :: .long tv :: .long tw :: .long tT :: .long tr :: .long tm :: .long tf :: .ref aG :: .ref aE :: .ref aU :: []))), (aF, .inl (κ.z 1, 6, .inr (.inl gF))), (aY, .inl (κ.z 1, 6, .inr (.inl gY))), (aJ, .inl (κ.z 2, 6, .inl (aB gN)))] by
      refine v_ifB_eq X 107 (t := gN j) d_T_hullOf_18 (by decide) (fun c18 => ?_) (fun c18 => ?_)
      · skip
        have h9 := hm18; simp only [if_neg c18] at h9; first | exact h9 | (simp only [if_neg c18]; exact h9)
      · skip
        refine v_aload_n X 2 d_T_hullOf_21 rfl ?_
        refine v_aload_n X 2 d_T_hullOf_22 rfl ?_
        refine v_get X 0 19 rfl rfl li_T (by decide) m446 rfl d_T_hullOf_23 ?_
        refine v_iload_n X 0 d_T_hullOf_26 rfl ?_
        refine v_laldN X 1 1 (j := j) rfl rfl (by omega) (by omega) d_T_hullOf_27 ?_
        refine v_callV X (b := m) (k := 0) (n := 0) (n9 := 1) (As := [.long (gF j)]) (rest := []) (wc := [(m, .inr (5, (.int (nI tS) :: .int tD :: .int tE :: .long tN :: .int (bI tA) :: .long tL :: .ref aK :: .ref aP :: .ref aQ :: .ref aT :: .ref aW :: .ref aO :: .ref aM :: .ref aL :: .ref aH :: .ref aI :: .ref aS :: .ref aR :: .ref aX :: .ref aF :: .ref aY :: .ref aJ :: .long ((huS tS tl tg gF gY gN many j).2.1) :: .long ((huS tS tl tg gF gY gN many j).2.2) :: .int (bI tB) :: .int tM :: .int tb :: .long tv :: .long tw :: .long tT :: .long tr :: .long tm :: .long tf :: .ref aG :: .ref aE :: .ref aU :: []))), (aF, .inl (κ.z 1, 6, .inr (.inl gF))), (aY, .inl (κ.z 1, 6, .inr (.inl gY))), (aJ, .inl (κ.z 2, 6, .inl (aB gN)))]) (wr := []) (c_T_covering κ.l κ.D κ.z m tS tD tE tN tA tL aK aP aQ aT aW aO aM aL aH aI aS aR aX aF aY aJ ((huS tS tl tg gF gY gN many j).2.1) ((huS tS tl tg gF gY gN many j).2.2) tB tM tb tv tw tT tr tm tf aG aE aU gF gY gN (gF j) (by omega)) 0 rfl rfl m573 m574 m23 m36 (by decide +kernel) rfl (Nat.le_of_ble_eq_true rfl) ⟨by decide, by decide⟩ ⟨by decide, by decide⟩ rfl rfl m575 d_T_hullOf_28 (fun v w1 hg => ?_)
        obtain ⟨rfl, rfl⟩ := hg
        show V κ 4 0 0 31 [(3, .int (nI j)), (2, .int (bI ((huS tS tl tg gF gY gN many j).1))), (0, .ref m), (1, .int (nI many))] [.int (nI (cvS gF gY gN (gF j) tS))] [(m, .inr (5, (.int (nI tS) :: .int tD :: .int tE :: .long tN :: .int (bI tA) :: .long tL :: .ref aK :: .ref aP :: .ref aQ :: .ref aT :: .ref aW :: .ref aO :: .ref aM :: .ref aL :: .ref aH :: .ref aI :: .ref aS :: .ref aR :: .ref aX :: .ref aF :: .ref aY :: .ref aJ :: .long ((huS tS tl tg gF gY gN many j).2.1) :: .long ((huS tS tl tg gF gY gN many j).2.2) :: .int (bI tB) :: .int tM :: .int tb :: .long tv :: .long tw :: .long tT :: .long tr :: .long tm :: .long tf :: .ref aG :: .ref aE :: .ref aU :: []))), (aF, .inl (κ.z 1, 6, .inr (.inl gF))), (aY, .inl (κ.z 1, 6, .inr (.inl gY))), (aJ, .inl (κ.z 2, 6, .inl (aB gN)))]
        refine v_iload_n X 3 d_T_hullOf_31 rfl ?_
        suffices hm32 : V κ 4 0 0 107 [(3, .int (nI j)), (2, .int (bI (if (cvS gF gY gN (gF j) tS) < many then ((huS tS tl tg gF gY gN many j).1) else true))), (0, .ref m), (1, .int (nI many))] [] [(m, .inr (5, (.int (nI tS) :: .int tD :: .int tE :: .long tN :: .int (bI tA) :: .long tL :: .ref aK :: .ref aP :: .ref aQ :: .ref aT :: .ref aW :: .ref aO :: .ref aM :: .ref aL :: .ref aH :: .ref aI :: .ref aS :: .ref aR :: .ref aX :: .ref aF :: .ref aY :: .ref aJ :: .long (if (cvS gF gY gN (gF j) tS) < many then ((huS tS tl tg gF gY gN many j).2.1) else if ((huS tS tl tg gF gY gN many j).1) = true then if (gF j) ≤ ((huS tS tl tg gF gY gN many j).2.1) then gF j else ((huS tS tl tg gF gY gN many j).2.1) else gF j) :: .long (if (cvS gF gY gN (gF j) tS) < many then ((huS tS tl tg gF gY gN many j).2.2) else if ((huS tS tl tg gF gY gN many j).1) = true then if ((huS tS tl tg gF gY gN many j).2.2) ≤ (gF j) then gF j else ((huS tS tl tg gF gY gN many j).2.2) else gF j) :: .int (bI tB) :: .int tM :: .int tb :: .long tv :: .long tw :: .long tT :: .long tr :: .long tm :: .long tf :: .ref aG :: .ref aE :: .ref aU :: []))), (aF, .inl (κ.z 1, 6, .inr (.inl gF))), (aY, .inl (κ.z 1, 6, .inr (.inl gY))), (aJ, .inl (κ.z 2, 6, .inl (aB gN)))] by
          refine v_icmpN_lt X 107 (a := (cvS gF gY gN (gF j) tS)) (b := many) d_T_hullOf_32 (by decide) (by omega) (by omega) (fun c32 => ?_) (fun c32 => ?_)
          · skip
            have h9 := hm32; simp only [if_pos c32] at h9; first | exact h9 | (simp only [if_pos c32]; exact h9)
          · skip
            refine v_aload_n X 2 d_T_hullOf_35 rfl ?_
            refine v_iload_n X 1 d_T_hullOf_36 rfl ?_
            suffices hm37 : V κ 4 0 0 67 [(3, .int (nI j)), (2, .int (bI ((huS tS tl tg gF gY gN many j).1))), (0, .ref m), (1, .int (nI many))] [.long (if ((huS tS tl tg gF gY gN many j).1) = true then if (gF j) ≤ ((huS tS tl tg gF gY gN many j).2.1) then gF j else ((huS tS tl tg gF gY gN many j).2.1) else gF j), .ref m] [(m, .inr (5, (.int (nI tS) :: .int tD :: .int tE :: .long tN :: .int (bI tA) :: .long tL :: .ref aK :: .ref aP :: .ref aQ :: .ref aT :: .ref aW :: .ref aO :: .ref aM :: .ref aL :: .ref aH :: .ref aI :: .ref aS :: .ref aR :: .ref aX :: .ref aF :: .ref aY :: .ref aJ :: .long ((huS tS tl tg gF gY gN many j).2.1) :: .long ((huS tS tl tg gF gY gN many j).2.2) :: .int (bI tB) :: .int tM :: .int tb :: .long tv :: .long tw :: .long tT :: .long tr :: .long tm :: .long tf :: .ref aG :: .ref aE :: .ref aU :: []))), (aF, .inl (κ.z 1, 6, .inr (.inl gF))), (aY, .inl (κ.z 1, 6, .inr (.inl gY))), (aJ, .inl (κ.z 2, 6, .inl (aB gN)))] by
              refine v_ifB_eq X 61 (t := (huS tS tl tg gF gY gN many j).1) d_T_hullOf_37 (by decide) (fun c37 => ?_) (fun c37 => ?_)
              · skip
                refine v_aload_n X 2 d_T_hullOf_61 rfl ?_
                refine v_get X 0 19 rfl rfl li_T (by decide) m446 rfl d_T_hullOf_62 ?_
                refine v_iload_n X 0 d_T_hullOf_65 rfl ?_
                refine v_laldN X 1 1 (j := j) rfl rfl (by omega) (by omega) d_T_hullOf_66 ?_
                have h9 := hm37; simp only [if_neg c37] at h9; first | exact h9 | (simp only [if_neg c37]; exact h9)
              · skip
                refine v_aload_n X 2 d_T_hullOf_40 rfl ?_
                refine v_get X 0 22 rfl rfl li_T (by decide) m449 rfl d_T_hullOf_41 ?_
                refine v_aload_n X 2 d_T_hullOf_44 rfl ?_
                refine v_get X 0 19 rfl rfl li_T (by decide) m446 rfl d_T_hullOf_45 ?_
                refine v_iload_n X 0 d_T_hullOf_48 rfl ?_
                refine v_laldN X 1 1 (j := j) rfl rfl (by omega) (by omega) d_T_hullOf_49 ?_
                suffices hm50 : V κ 4 0 0 67 [(3, .int (nI j)), (2, .int (bI ((huS tS tl tg gF gY gN many j).1))), (0, .ref m), (1, .int (nI many))] [.long (if (gF j) ≤ ((huS tS tl tg gF gY gN many j).2.1) then gF j else ((huS tS tl tg gF gY gN many j).2.1)), .ref m] [(m, .inr (5, (.int (nI tS) :: .int tD :: .int tE :: .long tN :: .int (bI tA) :: .long tL :: .ref aK :: .ref aP :: .ref aQ :: .ref aT :: .ref aW :: .ref aO :: .ref aM :: .ref aL :: .ref aH :: .ref aI :: .ref aS :: .ref aR :: .ref aX :: .ref aF :: .ref aY :: .ref aJ :: .long ((huS tS tl tg gF gY gN many j).2.1) :: .long ((huS tS tl tg gF gY gN many j).2.2) :: .int (bI tB) :: .int tM :: .int tb :: .long tv :: .long tw :: .long tT :: .long tr :: .long tm :: .long tf :: .ref aG :: .ref aE :: .ref aU :: []))), (aF, .inl (κ.z 1, 6, .inr (.inl gF))), (aY, .inl (κ.z 1, 6, .inr (.inl gY))), (aJ, .inl (κ.z 2, 6, .inl (aB gN)))] by
                  refine v_lcmp_ge X 61 d_T_hullOf_50 d_T_hullOf_51 (by decide) (fun c50 => ?_) (fun c50 => ?_)
                  · skip
                    refine v_aload_n X 2 d_T_hullOf_61 rfl ?_
                    refine v_get X 0 19 rfl rfl li_T (by decide) m446 rfl d_T_hullOf_62 ?_
                    refine v_iload_n X 0 d_T_hullOf_65 rfl ?_
                    refine v_laldN X 1 1 (j := j) rfl rfl (by omega) (by omega) d_T_hullOf_66 ?_
                    have h9 := hm50; simp only [if_pos c50] at h9; first | exact h9 | (simp only [if_pos c50]; exact h9)
                  · skip
                    refine v_aload_n X 2 d_T_hullOf_54 rfl ?_
                    refine v_get X 0 22 rfl rfl li_T (by decide) m449 rfl d_T_hullOf_55 ?_
                    refine v_goto X 67 d_T_hullOf_58 (by decide) ?_
                    have h9 := hm50; simp only [if_neg c50] at h9; first | exact h9 | (simp only [if_neg c50]; exact h9)
                have h9 := hm37; simp only [if_pos c37] at h9; first | exact h9 | (simp only [if_pos c37]; exact h9)
            refine v_put X 0 22 (v := .long (if ((huS tS tl tg gF gY gN many j).1) = true then if (gF j) ≤ ((huS tS tl tg gF gY gN many j).2.1) then gF j else ((huS tS tl tg gF gY gN many j).2.1) else gF j)) (ty := .long) ty_T tk_T n_T rfl rfl li_T (by decide) m449 rfl (by decide +kernel) rfl rfl (Nat.le_of_ble_eq_true rfl) d_T_hullOf_67 (ws' := [(m, .inr (5, (.int (nI tS) :: .int tD :: .int tE :: .long tN :: .int (bI tA) :: .long tL :: .ref aK :: .ref aP :: .ref aQ :: .ref aT :: .ref aW :: .ref aO :: .ref aM :: .ref aL :: .ref aH :: .ref aI :: .ref aS :: .ref aR :: .ref aX :: .ref aF :: .ref aY :: .ref aJ :: .long (if ((huS tS tl tg gF gY gN many j).1) = true then if (gF j) ≤ ((huS tS tl tg gF gY gN many j).2.1) then gF j else ((huS tS tl tg gF gY gN many j).2.1) else gF j) :: .long ((huS tS tl tg gF gY gN many j).2.2) :: .int (bI tB) :: .int tM :: .int tb :: .long tv :: .long tw :: .long tT :: .long tr :: .long tm :: .long tf :: .ref aG :: .ref aE :: .ref aU :: []))), (aF, .inl (κ.z 1, 6, .inr (.inl gF))), (aY, .inl (κ.z 1, 6, .inr (.inl gY))), (aJ, .inl (κ.z 2, 6, .inl (aB gN)))]) rfl ?_
            refine v_aload_n X 2 d_T_hullOf_70 rfl ?_
            refine v_iload_n X 1 d_T_hullOf_71 rfl ?_
            suffices hm72 : V κ 4 0 0 102 [(3, .int (nI j)), (2, .int (bI ((huS tS tl tg gF gY gN many j).1))), (0, .ref m), (1, .int (nI many))] [.long (if ((huS tS tl tg gF gY gN many j).1) = true then if ((huS tS tl tg gF gY gN many j).2.2) ≤ (gF j) then gF j else ((huS tS tl tg gF gY gN many j).2.2) else gF j), .ref m] [(m, .inr (5, (.int (nI tS) :: .int tD :: .int tE :: .long tN :: .int (bI tA) :: .long tL :: .ref aK :: .ref aP :: .ref aQ :: .ref aT :: .ref aW :: .ref aO :: .ref aM :: .ref aL :: .ref aH :: .ref aI :: .ref aS :: .ref aR :: .ref aX :: .ref aF :: .ref aY :: .ref aJ :: .long (if ((huS tS tl tg gF gY gN many j).1) = true then if (gF j) ≤ ((huS tS tl tg gF gY gN many j).2.1) then gF j else ((huS tS tl tg gF gY gN many j).2.1) else gF j) :: .long ((huS tS tl tg gF gY gN many j).2.2) :: .int (bI tB) :: .int tM :: .int tb :: .long tv :: .long tw :: .long tT :: .long tr :: .long tm :: .long tf :: .ref aG :: .ref aE :: .ref aU :: []))), (aF, .inl (κ.z 1, 6, .inr (.inl gF))), (aY, .inl (κ.z 1, 6, .inr (.inl gY))), (aJ, .inl (κ.z 2, 6, .inl (aB gN)))] by
              refine v_ifB_eq X 96 (t := (huS tS tl tg gF gY gN many j).1) d_T_hullOf_72 (by decide) (fun c72 => ?_) (fun c72 => ?_)
              · skip
                refine v_aload_n X 2 d_T_hullOf_96 rfl ?_
                refine v_get X 0 19 rfl rfl li_T (by decide) m446 rfl d_T_hullOf_97 ?_
                refine v_iload_n X 0 d_T_hullOf_100 rfl ?_
                refine v_laldN X 1 1 (j := j) rfl rfl (by omega) (by omega) d_T_hullOf_101 ?_
                have h9 := hm72; simp only [if_neg c72] at h9; first | exact h9 | (simp only [if_neg c72]; exact h9)
              · skip
                refine v_aload_n X 2 d_T_hullOf_75 rfl ?_
                refine v_get X 0 23 rfl rfl li_T (by decide) m450 rfl d_T_hullOf_76 ?_
                refine v_aload_n X 2 d_T_hullOf_79 rfl ?_
                refine v_get X 0 19 rfl rfl li_T (by decide) m446 rfl d_T_hullOf_80 ?_
                refine v_iload_n X 0 d_T_hullOf_83 rfl ?_
                refine v_laldN X 1 1 (j := j) rfl rfl (by omega) (by omega) d_T_hullOf_84 ?_
                suffices hm85 : V κ 4 0 0 102 [(3, .int (nI j)), (2, .int (bI ((huS tS tl tg gF gY gN many j).1))), (0, .ref m), (1, .int (nI many))] [.long (if ((huS tS tl tg gF gY gN many j).2.2) ≤ (gF j) then gF j else ((huS tS tl tg gF gY gN many j).2.2)), .ref m] [(m, .inr (5, (.int (nI tS) :: .int tD :: .int tE :: .long tN :: .int (bI tA) :: .long tL :: .ref aK :: .ref aP :: .ref aQ :: .ref aT :: .ref aW :: .ref aO :: .ref aM :: .ref aL :: .ref aH :: .ref aI :: .ref aS :: .ref aR :: .ref aX :: .ref aF :: .ref aY :: .ref aJ :: .long (if ((huS tS tl tg gF gY gN many j).1) = true then if (gF j) ≤ ((huS tS tl tg gF gY gN many j).2.1) then gF j else ((huS tS tl tg gF gY gN many j).2.1) else gF j) :: .long ((huS tS tl tg gF gY gN many j).2.2) :: .int (bI tB) :: .int tM :: .int tb :: .long tv :: .long tw :: .long tT :: .long tr :: .long tm :: .long tf :: .ref aG :: .ref aE :: .ref aU :: []))), (aF, .inl (κ.z 1, 6, .inr (.inl gF))), (aY, .inl (κ.z 1, 6, .inr (.inl gY))), (aJ, .inl (κ.z 2, 6, .inl (aB gN)))] by
                  refine v_lcmp_le X 96 d_T_hullOf_85 d_T_hullOf_86 (by decide) (fun c85 => ?_) (fun c85 => ?_)
                  · skip
                    refine v_aload_n X 2 d_T_hullOf_96 rfl ?_
                    refine v_get X 0 19 rfl rfl li_T (by decide) m446 rfl d_T_hullOf_97 ?_
                    refine v_iload_n X 0 d_T_hullOf_100 rfl ?_
                    refine v_laldN X 1 1 (j := j) rfl rfl (by omega) (by omega) d_T_hullOf_101 ?_
                    have h9 := hm85; simp only [if_pos c85] at h9; first | exact h9 | (simp only [if_pos c85]; exact h9)
                  · skip
                    refine v_aload_n X 2 d_T_hullOf_89 rfl ?_
                    refine v_get X 0 23 rfl rfl li_T (by decide) m450 rfl d_T_hullOf_90 ?_
                    refine v_goto X 102 d_T_hullOf_93 (by decide) ?_
                    have h9 := hm85; simp only [if_neg c85] at h9; first | exact h9 | (simp only [if_neg c85]; exact h9)
                have h9 := hm72; simp only [if_pos c72] at h9; first | exact h9 | (simp only [if_pos c72]; exact h9)
            refine v_put X 0 23 (v := .long (if ((huS tS tl tg gF gY gN many j).1) = true then if ((huS tS tl tg gF gY gN many j).2.2) ≤ (gF j) then gF j else ((huS tS tl tg gF gY gN many j).2.2) else gF j)) (ty := .long) ty_T tk_T n_T rfl rfl li_T (by decide) m450 rfl (by decide +kernel) rfl rfl (Nat.le_of_ble_eq_true rfl) d_T_hullOf_102 (ws' := [(m, .inr (5, (.int (nI tS) :: .int tD :: .int tE :: .long tN :: .int (bI tA) :: .long tL :: .ref aK :: .ref aP :: .ref aQ :: .ref aT :: .ref aW :: .ref aO :: .ref aM :: .ref aL :: .ref aH :: .ref aI :: .ref aS :: .ref aR :: .ref aX :: .ref aF :: .ref aY :: .ref aJ :: .long (if ((huS tS tl tg gF gY gN many j).1) = true then if (gF j) ≤ ((huS tS tl tg gF gY gN many j).2.1) then gF j else ((huS tS tl tg gF gY gN many j).2.1) else gF j) :: .long (if ((huS tS tl tg gF gY gN many j).1) = true then if ((huS tS tl tg gF gY gN many j).2.2) ≤ (gF j) then gF j else ((huS tS tl tg gF gY gN many j).2.2) else gF j) :: .int (bI tB) :: .int tM :: .int tb :: .long tv :: .long tw :: .long tT :: .long tr :: .long tm :: .long tf :: .ref aG :: .ref aE :: .ref aU :: []))), (aF, .inl (κ.z 1, 6, .inr (.inl gF))), (aY, .inl (κ.z 1, 6, .inr (.inl gY))), (aJ, .inl (κ.z 2, 6, .inl (aB gN)))]) rfl ?_
            refine v_iconst X 1 d_T_hullOf_105 (by decide) ?_
            refine v_istore_n X d_T_hullOf_106 rfl (by decide) (lv' := [(2, .int 1), (3, .int (nI j)), (0, .ref m), (1, .int (nI many))]) rfl ?_
            refine v_lv [1, 0, 2, 3] rfl ?_
            have h9 := hm32; simp only [if_neg c32] at h9; first | exact h9 | (simp only [if_neg c32]; exact h9)
        have h9 := hm18; simp only [if_pos c18] at h9; first | exact h9 | (simp only [if_pos c18]; exact h9)
    refine v_aload_n X 2 d_T_hullOf_107 rfl ?_
    refine v_get X 0 21 rfl rfl li_T (by decide) m448 rfl d_T_hullOf_108 ?_
    refine v_iload_n X 0 d_T_hullOf_111 rfl ?_
    refine v_zaldN X 3 2 (j := j) rfl rfl (by omega) (by omega) d_T_hullOf_112 ?_
    suffices hm113 : V κ 4 0 0 202 [(3, .int (nI j)), (2, .int (bI (if (gN j) = true then (if (cvS gF gY gN (gY j) tS) < many then (if (gN j) = true then (if (cvS gF gY gN (gF j) tS) < many then ((huS tS tl tg gF gY gN many j).1) else true) else ((huS tS tl tg gF gY gN many j).1)) else true) else (if (gN j) = true then (if (cvS gF gY gN (gF j) tS) < many then ((huS tS tl tg gF gY gN many j).1) else true) else ((huS tS tl tg gF gY gN many j).1))))), (0, .ref m), (1, .int (nI many))] [] [(m, .inr (5, (.int (nI tS) :: .int tD :: .int tE :: .long tN :: .int (bI tA) :: .long tL :: .ref aK :: .ref aP :: .ref aQ :: .ref aT :: .ref aW :: .ref aO :: .ref aM :: .ref aL :: .ref aH :: .ref aI :: .ref aS :: .ref aR :: .ref aX :: .ref aF :: .ref aY :: .ref aJ :: .long (if (gN j) = true then if (cvS gF gY gN (gY j) tS) < many then (if (gN j) = true then if (cvS gF gY gN (gF j) tS) < many then ((huS tS tl tg gF gY gN many j).2.1) else if ((huS tS tl tg gF gY gN many j).1) = true then if (gF j) ≤ ((huS tS tl tg gF gY gN many j).2.1) then gF j else ((huS tS tl tg gF gY gN many j).2.1) else gF j else (huS tS tl tg gF gY gN many j).2.1) else if (if (gN j) = true then (if (cvS gF gY gN (gF j) tS) < many then ((huS tS tl tg gF gY gN many j).1) else true) else ((huS tS tl tg gF gY gN many j).1)) = true then if (gY j) ≤ (if (gN j) = true then if (cvS gF gY gN (gF j) tS) < many then ((huS tS tl tg gF gY gN many j).2.1) else if ((huS tS tl tg gF gY gN many j).1) = true then if (gF j) ≤ ((huS tS tl tg gF gY gN many j).2.1) then gF j else ((huS tS tl tg gF gY gN many j).2.1) else gF j else (huS tS tl tg gF gY gN many j).2.1) then gY j else (if (gN j) = true then if (cvS gF gY gN (gF j) tS) < many then ((huS tS tl tg gF gY gN many j).2.1) else if ((huS tS tl tg gF gY gN many j).1) = true then if (gF j) ≤ ((huS tS tl tg gF gY gN many j).2.1) then gF j else ((huS tS tl tg gF gY gN many j).2.1) else gF j else (huS tS tl tg gF gY gN many j).2.1) else gY j else if (gN j) = true then if (cvS gF gY gN (gF j) tS) < many then ((huS tS tl tg gF gY gN many j).2.1) else if ((huS tS tl tg gF gY gN many j).1) = true then if (gF j) ≤ ((huS tS tl tg gF gY gN many j).2.1) then gF j else ((huS tS tl tg gF gY gN many j).2.1) else gF j else (huS tS tl tg gF gY gN many j).2.1) :: .long (if (gN j) = true then if (cvS gF gY gN (gY j) tS) < many then (if (gN j) = true then if (cvS gF gY gN (gF j) tS) < many then ((huS tS tl tg gF gY gN many j).2.2) else if ((huS tS tl tg gF gY gN many j).1) = true then if ((huS tS tl tg gF gY gN many j).2.2) ≤ (gF j) then gF j else ((huS tS tl tg gF gY gN many j).2.2) else gF j else (huS tS tl tg gF gY gN many j).2.2) else if (if (gN j) = true then (if (cvS gF gY gN (gF j) tS) < many then ((huS tS tl tg gF gY gN many j).1) else true) else ((huS tS tl tg gF gY gN many j).1)) = true then if (if (gN j) = true then if (cvS gF gY gN (gF j) tS) < many then ((huS tS tl tg gF gY gN many j).2.2) else if ((huS tS tl tg gF gY gN many j).1) = true then if ((huS tS tl tg gF gY gN many j).2.2) ≤ (gF j) then gF j else ((huS tS tl tg gF gY gN many j).2.2) else gF j else (huS tS tl tg gF gY gN many j).2.2) ≤ (gY j) then gY j else (if (gN j) = true then if (cvS gF gY gN (gF j) tS) < many then ((huS tS tl tg gF gY gN many j).2.2) else if ((huS tS tl tg gF gY gN many j).1) = true then if ((huS tS tl tg gF gY gN many j).2.2) ≤ (gF j) then gF j else ((huS tS tl tg gF gY gN many j).2.2) else gF j else (huS tS tl tg gF gY gN many j).2.2) else gY j else if (gN j) = true then if (cvS gF gY gN (gF j) tS) < many then ((huS tS tl tg gF gY gN many j).2.2) else if ((huS tS tl tg gF gY gN many j).1) = true then if ((huS tS tl tg gF gY gN many j).2.2) ≤ (gF j) then gF j else ((huS tS tl tg gF gY gN many j).2.2) else gF j else (huS tS tl tg gF gY gN many j).2.2) :: .int (bI tB) :: .int tM :: .int tb :: .long tv :: .long tw :: .long tT :: .long tr :: .long tm :: .long tf :: .ref aG :: .ref aE :: .ref aU :: []))), (aF, .inl (κ.z 1, 6, .inr (.inl gF))), (aY, .inl (κ.z 1, 6, .inr (.inl gY))), (aJ, .inl (κ.z 2, 6, .inl (aB gN)))] by
      refine v_ifB_eq X 202 (t := gN j) d_T_hullOf_113 (by decide) (fun c113 => ?_) (fun c113 => ?_)
      · skip
        have h9 := hm113; simp only [if_neg c113] at h9; first | exact h9 | (simp only [if_neg c113]; exact h9)
      · skip
        refine v_aload_n X 2 d_T_hullOf_116 rfl ?_
        refine v_aload_n X 2 d_T_hullOf_117 rfl ?_
        refine v_get X 0 20 rfl rfl li_T (by decide) m447 rfl d_T_hullOf_118 ?_
        refine v_iload_n X 0 d_T_hullOf_121 rfl ?_
        refine v_laldN X 2 1 (j := j) rfl rfl (by omega) (by omega) d_T_hullOf_122 ?_
        refine v_callV X (b := m) (k := 0) (n := 0) (n9 := 1) (As := [.long (gY j)]) (rest := []) (wc := [(m, .inr (5, (.int (nI tS) :: .int tD :: .int tE :: .long tN :: .int (bI tA) :: .long tL :: .ref aK :: .ref aP :: .ref aQ :: .ref aT :: .ref aW :: .ref aO :: .ref aM :: .ref aL :: .ref aH :: .ref aI :: .ref aS :: .ref aR :: .ref aX :: .ref aF :: .ref aY :: .ref aJ :: .long (if (gN j) = true then if (cvS gF gY gN (gF j) tS) < many then ((huS tS tl tg gF gY gN many j).2.1) else if ((huS tS tl tg gF gY gN many j).1) = true then if (gF j) ≤ ((huS tS tl tg gF gY gN many j).2.1) then gF j else ((huS tS tl tg gF gY gN many j).2.1) else gF j else (huS tS tl tg gF gY gN many j).2.1) :: .long (if (gN j) = true then if (cvS gF gY gN (gF j) tS) < many then ((huS tS tl tg gF gY gN many j).2.2) else if ((huS tS tl tg gF gY gN many j).1) = true then if ((huS tS tl tg gF gY gN many j).2.2) ≤ (gF j) then gF j else ((huS tS tl tg gF gY gN many j).2.2) else gF j else (huS tS tl tg gF gY gN many j).2.2) :: .int (bI tB) :: .int tM :: .int tb :: .long tv :: .long tw :: .long tT :: .long tr :: .long tm :: .long tf :: .ref aG :: .ref aE :: .ref aU :: []))), (aF, .inl (κ.z 1, 6, .inr (.inl gF))), (aY, .inl (κ.z 1, 6, .inr (.inl gY))), (aJ, .inl (κ.z 2, 6, .inl (aB gN)))]) (wr := []) (c_T_covering κ.l κ.D κ.z m tS tD tE tN tA tL aK aP aQ aT aW aO aM aL aH aI aS aR aX aF aY aJ (if (gN j) = true then if (cvS gF gY gN (gF j) tS) < many then ((huS tS tl tg gF gY gN many j).2.1) else if ((huS tS tl tg gF gY gN many j).1) = true then if (gF j) ≤ ((huS tS tl tg gF gY gN many j).2.1) then gF j else ((huS tS tl tg gF gY gN many j).2.1) else gF j else (huS tS tl tg gF gY gN many j).2.1) (if (gN j) = true then if (cvS gF gY gN (gF j) tS) < many then ((huS tS tl tg gF gY gN many j).2.2) else if ((huS tS tl tg gF gY gN many j).1) = true then if ((huS tS tl tg gF gY gN many j).2.2) ≤ (gF j) then gF j else ((huS tS tl tg gF gY gN many j).2.2) else gF j else (huS tS tl tg gF gY gN many j).2.2) tB tM tb tv tw tT tr tm tf aG aE aU gF gY gN (gY j) (by omega)) 0 rfl rfl m573 m574 m23 m36 (by decide +kernel) rfl (Nat.le_of_ble_eq_true rfl) ⟨by decide, by decide⟩ ⟨by decide, by decide⟩ rfl rfl m575 d_T_hullOf_123 (fun v w1 hg => ?_)
        obtain ⟨rfl, rfl⟩ := hg
        show V κ 4 0 0 126 [(3, .int (nI j)), (2, .int (bI (if (gN j) = true then (if (cvS gF gY gN (gF j) tS) < many then ((huS tS tl tg gF gY gN many j).1) else true) else ((huS tS tl tg gF gY gN many j).1)))), (0, .ref m), (1, .int (nI many))] [.int (nI (cvS gF gY gN (gY j) tS))] [(m, .inr (5, (.int (nI tS) :: .int tD :: .int tE :: .long tN :: .int (bI tA) :: .long tL :: .ref aK :: .ref aP :: .ref aQ :: .ref aT :: .ref aW :: .ref aO :: .ref aM :: .ref aL :: .ref aH :: .ref aI :: .ref aS :: .ref aR :: .ref aX :: .ref aF :: .ref aY :: .ref aJ :: .long (if (gN j) = true then if (cvS gF gY gN (gF j) tS) < many then ((huS tS tl tg gF gY gN many j).2.1) else if ((huS tS tl tg gF gY gN many j).1) = true then if (gF j) ≤ ((huS tS tl tg gF gY gN many j).2.1) then gF j else ((huS tS tl tg gF gY gN many j).2.1) else gF j else (huS tS tl tg gF gY gN many j).2.1) :: .long (if (gN j) = true then if (cvS gF gY gN (gF j) tS) < many then ((huS tS tl tg gF gY gN many j).2.2) else if ((huS tS tl tg gF gY gN many j).1) = true then if ((huS tS tl tg gF gY gN many j).2.2) ≤ (gF j) then gF j else ((huS tS tl tg gF gY gN many j).2.2) else gF j else (huS tS tl tg gF gY gN many j).2.2) :: .int (bI tB) :: .int tM :: .int tb :: .long tv :: .long tw :: .long tT :: .long tr :: .long tm :: .long tf :: .ref aG :: .ref aE :: .ref aU :: []))), (aF, .inl (κ.z 1, 6, .inr (.inl gF))), (aY, .inl (κ.z 1, 6, .inr (.inl gY))), (aJ, .inl (κ.z 2, 6, .inl (aB gN)))]
        refine v_iload_n X 3 d_T_hullOf_126 rfl ?_
        suffices hm127 : V κ 4 0 0 202 [(3, .int (nI j)), (2, .int (bI (if (cvS gF gY gN (gY j) tS) < many then (if (gN j) = true then (if (cvS gF gY gN (gF j) tS) < many then ((huS tS tl tg gF gY gN many j).1) else true) else ((huS tS tl tg gF gY gN many j).1)) else true))), (0, .ref m), (1, .int (nI many))] [] [(m, .inr (5, (.int (nI tS) :: .int tD :: .int tE :: .long tN :: .int (bI tA) :: .long tL :: .ref aK :: .ref aP :: .ref aQ :: .ref aT :: .ref aW :: .ref aO :: .ref aM :: .ref aL :: .ref aH :: .ref aI :: .ref aS :: .ref aR :: .ref aX :: .ref aF :: .ref aY :: .ref aJ :: .long (if (cvS gF gY gN (gY j) tS) < many then (if (gN j) = true then if (cvS gF gY gN (gF j) tS) < many then ((huS tS tl tg gF gY gN many j).2.1) else if ((huS tS tl tg gF gY gN many j).1) = true then if (gF j) ≤ ((huS tS tl tg gF gY gN many j).2.1) then gF j else ((huS tS tl tg gF gY gN many j).2.1) else gF j else (huS tS tl tg gF gY gN many j).2.1) else if (if (gN j) = true then (if (cvS gF gY gN (gF j) tS) < many then ((huS tS tl tg gF gY gN many j).1) else true) else ((huS tS tl tg gF gY gN many j).1)) = true then if (gY j) ≤ (if (gN j) = true then if (cvS gF gY gN (gF j) tS) < many then ((huS tS tl tg gF gY gN many j).2.1) else if ((huS tS tl tg gF gY gN many j).1) = true then if (gF j) ≤ ((huS tS tl tg gF gY gN many j).2.1) then gF j else ((huS tS tl tg gF gY gN many j).2.1) else gF j else (huS tS tl tg gF gY gN many j).2.1) then gY j else (if (gN j) = true then if (cvS gF gY gN (gF j) tS) < many then ((huS tS tl tg gF gY gN many j).2.1) else if ((huS tS tl tg gF gY gN many j).1) = true then if (gF j) ≤ ((huS tS tl tg gF gY gN many j).2.1) then gF j else ((huS tS tl tg gF gY gN many j).2.1) else gF j else (huS tS tl tg gF gY gN many j).2.1) else gY j) :: .long (if (cvS gF gY gN (gY j) tS) < many then (if (gN j) = true then if (cvS gF gY gN (gF j) tS) < many then ((huS tS tl tg gF gY gN many j).2.2) else if ((huS tS tl tg gF gY gN many j).1) = true then if ((huS tS tl tg gF gY gN many j).2.2) ≤ (gF j) then gF j else ((huS tS tl tg gF gY gN many j).2.2) else gF j else (huS tS tl tg gF gY gN many j).2.2) else if (if (gN j) = true then (if (cvS gF gY gN (gF j) tS) < many then ((huS tS tl tg gF gY gN many j).1) else true) else ((huS tS tl tg gF gY gN many j).1)) = true then if (if (gN j) = true then if (cvS gF gY gN (gF j) tS) < many then ((huS tS tl tg gF gY gN many j).2.2) else if ((huS tS tl tg gF gY gN many j).1) = true then if ((huS tS tl tg gF gY gN many j).2.2) ≤ (gF j) then gF j else ((huS tS tl tg gF gY gN many j).2.2) else gF j else (huS tS tl tg gF gY gN many j).2.2) ≤ (gY j) then gY j else (if (gN j) = true then if (cvS gF gY gN (gF j) tS) < many then ((huS tS tl tg gF gY gN many j).2.2) else if ((huS tS tl tg gF gY gN many j).1) = true then if ((huS tS tl tg gF gY gN many j).2.2) ≤ (gF j) then gF j else ((huS tS tl tg gF gY gN many j).2.2) else gF j else (huS tS tl tg gF gY gN many j).2.2) else gY j) :: .int (bI tB) :: .int tM :: .int tb :: .long tv :: .long tw :: .long tT :: .long tr :: .long tm :: .long tf :: .ref aG :: .ref aE :: .ref aU :: []))), (aF, .inl (κ.z 1, 6, .inr (.inl gF))), (aY, .inl (κ.z 1, 6, .inr (.inl gY))), (aJ, .inl (κ.z 2, 6, .inl (aB gN)))] by
          refine v_icmpN_lt X 202 (a := (cvS gF gY gN (gY j) tS)) (b := many) d_T_hullOf_127 (by decide) (by omega) (by omega) (fun c127 => ?_) (fun c127 => ?_)
          · skip
            have h9 := hm127; simp only [if_pos c127] at h9; first | exact h9 | (simp only [if_pos c127]; exact h9)
          · skip
            refine v_aload_n X 2 d_T_hullOf_130 rfl ?_
            refine v_iload_n X 1 d_T_hullOf_131 rfl ?_
            suffices hm132 : V κ 4 0 0 162 [(3, .int (nI j)), (2, .int (bI (if (gN j) = true then (if (cvS gF gY gN (gF j) tS) < many then ((huS tS tl tg gF gY gN many j).1) else true) else ((huS tS tl tg gF gY gN many j).1)))), (0, .ref m), (1, .int (nI many))] [.long (if (if (gN j) = true then (if (cvS gF gY gN (gF j) tS) < many then ((huS tS tl tg gF gY gN many j).1) else true) else ((huS tS tl tg gF gY gN many j).1)) = true then if (gY j) ≤ (if (gN j) = true then if (cvS gF gY gN (gF j) tS) < many then ((huS tS tl tg gF gY gN many j).2.1) else if ((huS tS tl tg gF gY gN many j).1) = true then if (gF j) ≤ ((huS tS tl tg gF gY gN many j).2.1) then gF j else ((huS tS tl tg gF gY gN many j).2.1) else gF j else (huS tS tl tg gF gY gN many j).2.1) then gY j else (if (gN j) = true then if (cvS gF gY gN (gF j) tS) < many then ((huS tS tl tg gF gY gN many j).2.1) else if ((huS tS tl tg gF gY gN many j).1) = true then if (gF j) ≤ ((huS tS tl tg gF gY gN many j).2.1) then gF j else ((huS tS tl tg gF gY gN many j).2.1) else gF j else (huS tS tl tg gF gY gN many j).2.1) else gY j), .ref m] [(m, .inr (5, (.int (nI tS) :: .int tD :: .int tE :: .long tN :: .int (bI tA) :: .long tL :: .ref aK :: .ref aP :: .ref aQ :: .ref aT :: .ref aW :: .ref aO :: .ref aM :: .ref aL :: .ref aH :: .ref aI :: .ref aS :: .ref aR :: .ref aX :: .ref aF :: .ref aY :: .ref aJ :: .long (if (gN j) = true then if (cvS gF gY gN (gF j) tS) < many then ((huS tS tl tg gF gY gN many j).2.1) else if ((huS tS tl tg gF gY gN many j).1) = true then if (gF j) ≤ ((huS tS tl tg gF gY gN many j).2.1) then gF j else ((huS tS tl tg gF gY gN many j).2.1) else gF j else (huS tS tl tg gF gY gN many j).2.1) :: .long (if (gN j) = true then if (cvS gF gY gN (gF j) tS) < many then ((huS tS tl tg gF gY gN many j).2.2) else if ((huS tS tl tg gF gY gN many j).1) = true then if ((huS tS tl tg gF gY gN many j).2.2) ≤ (gF j) then gF j else ((huS tS tl tg gF gY gN many j).2.2) else gF j else (huS tS tl tg gF gY gN many j).2.2) :: .int (bI tB) :: .int tM :: .int tb :: .long tv :: .long tw :: .long tT :: .long tr :: .long tm :: .long tf :: .ref aG :: .ref aE :: .ref aU :: []))), (aF, .inl (κ.z 1, 6, .inr (.inl gF))), (aY, .inl (κ.z 1, 6, .inr (.inl gY))), (aJ, .inl (κ.z 2, 6, .inl (aB gN)))] by
              refine v_ifB_eq X 156 (t := if (gN j) = true then (if (cvS gF gY gN (gF j) tS) < many then ((huS tS tl tg gF gY gN many j).1) else true) else ((huS tS tl tg gF gY gN many j).1)) d_T_hullOf_132 (by decide) (fun c132 => ?_) (fun c132 => ?_)
              · skip
                refine v_aload_n X 2 d_T_hullOf_156 rfl ?_
                refine v_get X 0 20 rfl rfl li_T (by decide) m447 rfl d_T_hullOf_157 ?_
                refine v_iload_n X 0 d_T_hullOf_160 rfl ?_
                refine v_laldN X 2 1 (j := j) rfl rfl (by omega) (by omega) d_T_hullOf_161 ?_
                have h9 := hm132; simp only [if_neg c132] at h9; first | exact h9 | (simp only [if_neg c132]; exact h9)
              · skip
                refine v_aload_n X 2 d_T_hullOf_135 rfl ?_
                refine v_get X 0 22 rfl rfl li_T (by decide) m449 rfl d_T_hullOf_136 ?_
                refine v_aload_n X 2 d_T_hullOf_139 rfl ?_
                refine v_get X 0 20 rfl rfl li_T (by decide) m447 rfl d_T_hullOf_140 ?_
                refine v_iload_n X 0 d_T_hullOf_143 rfl ?_
                refine v_laldN X 2 1 (j := j) rfl rfl (by omega) (by omega) d_T_hullOf_144 ?_
                suffices hm145 : V κ 4 0 0 162 [(3, .int (nI j)), (2, .int (bI (if (gN j) = true then (if (cvS gF gY gN (gF j) tS) < many then ((huS tS tl tg gF gY gN many j).1) else true) else ((huS tS tl tg gF gY gN many j).1)))), (0, .ref m), (1, .int (nI many))] [.long (if (gY j) ≤ (if (gN j) = true then if (cvS gF gY gN (gF j) tS) < many then ((huS tS tl tg gF gY gN many j).2.1) else if ((huS tS tl tg gF gY gN many j).1) = true then if (gF j) ≤ ((huS tS tl tg gF gY gN many j).2.1) then gF j else ((huS tS tl tg gF gY gN many j).2.1) else gF j else (huS tS tl tg gF gY gN many j).2.1) then gY j else (if (gN j) = true then if (cvS gF gY gN (gF j) tS) < many then ((huS tS tl tg gF gY gN many j).2.1) else if ((huS tS tl tg gF gY gN many j).1) = true then if (gF j) ≤ ((huS tS tl tg gF gY gN many j).2.1) then gF j else ((huS tS tl tg gF gY gN many j).2.1) else gF j else (huS tS tl tg gF gY gN many j).2.1)), .ref m] [(m, .inr (5, (.int (nI tS) :: .int tD :: .int tE :: .long tN :: .int (bI tA) :: .long tL :: .ref aK :: .ref aP :: .ref aQ :: .ref aT :: .ref aW :: .ref aO :: .ref aM :: .ref aL :: .ref aH :: .ref aI :: .ref aS :: .ref aR :: .ref aX :: .ref aF :: .ref aY :: .ref aJ :: .long (if (gN j) = true then if (cvS gF gY gN (gF j) tS) < many then ((huS tS tl tg gF gY gN many j).2.1) else if ((huS tS tl tg gF gY gN many j).1) = true then if (gF j) ≤ ((huS tS tl tg gF gY gN many j).2.1) then gF j else ((huS tS tl tg gF gY gN many j).2.1) else gF j else (huS tS tl tg gF gY gN many j).2.1) :: .long (if (gN j) = true then if (cvS gF gY gN (gF j) tS) < many then ((huS tS tl tg gF gY gN many j).2.2) else if ((huS tS tl tg gF gY gN many j).1) = true then if ((huS tS tl tg gF gY gN many j).2.2) ≤ (gF j) then gF j else ((huS tS tl tg gF gY gN many j).2.2) else gF j else (huS tS tl tg gF gY gN many j).2.2) :: .int (bI tB) :: .int tM :: .int tb :: .long tv :: .long tw :: .long tT :: .long tr :: .long tm :: .long tf :: .ref aG :: .ref aE :: .ref aU :: []))), (aF, .inl (κ.z 1, 6, .inr (.inl gF))), (aY, .inl (κ.z 1, 6, .inr (.inl gY))), (aJ, .inl (κ.z 2, 6, .inl (aB gN)))] by
                  refine v_lcmp_ge X 156 d_T_hullOf_145 d_T_hullOf_146 (by decide) (fun c145 => ?_) (fun c145 => ?_)
                  · skip
                    refine v_aload_n X 2 d_T_hullOf_156 rfl ?_
                    refine v_get X 0 20 rfl rfl li_T (by decide) m447 rfl d_T_hullOf_157 ?_
                    refine v_iload_n X 0 d_T_hullOf_160 rfl ?_
                    refine v_laldN X 2 1 (j := j) rfl rfl (by omega) (by omega) d_T_hullOf_161 ?_
                    have h9 := hm145; simp only [if_pos c145] at h9; first | exact h9 | (simp only [if_pos c145]; exact h9)
                  · skip
                    refine v_aload_n X 2 d_T_hullOf_149 rfl ?_
                    refine v_get X 0 22 rfl rfl li_T (by decide) m449 rfl d_T_hullOf_150 ?_
                    refine v_goto X 162 d_T_hullOf_153 (by decide) ?_
                    have h9 := hm145; simp only [if_neg c145] at h9; first | exact h9 | (simp only [if_neg c145]; exact h9)
                have h9 := hm132; simp only [if_pos c132] at h9; first | exact h9 | (simp only [if_pos c132]; exact h9)
            refine v_put X 0 22 (v := .long (if (if (gN j) = true then (if (cvS gF gY gN (gF j) tS) < many then ((huS tS tl tg gF gY gN many j).1) else true) else ((huS tS tl tg gF gY gN many j).1)) = true then if (gY j) ≤ (if (gN j) = true then if (cvS gF gY gN (gF j) tS) < many then ((huS tS tl tg gF gY gN many j).2.1) else if ((huS tS tl tg gF gY gN many j).1) = true then if (gF j) ≤ ((huS tS tl tg gF gY gN many j).2.1) then gF j else ((huS tS tl tg gF gY gN many j).2.1) else gF j else (huS tS tl tg gF gY gN many j).2.1) then gY j else (if (gN j) = true then if (cvS gF gY gN (gF j) tS) < many then ((huS tS tl tg gF gY gN many j).2.1) else if ((huS tS tl tg gF gY gN many j).1) = true then if (gF j) ≤ ((huS tS tl tg gF gY gN many j).2.1) then gF j else ((huS tS tl tg gF gY gN many j).2.1) else gF j else (huS tS tl tg gF gY gN many j).2.1) else gY j)) (ty := .long) ty_T tk_T n_T rfl rfl li_T (by decide) m449 rfl (by decide +kernel) rfl rfl (Nat.le_of_ble_eq_true rfl) d_T_hullOf_162 (ws' := [(m, .inr (5, (.int (nI tS) :: .int tD :: .int tE :: .long tN :: .int (bI tA) :: .long tL :: .ref aK :: .ref aP :: .ref aQ :: .ref aT :: .ref aW :: .ref aO :: .ref aM :: .ref aL :: .ref aH :: .ref aI :: .ref aS :: .ref aR :: .ref aX :: .ref aF :: .ref aY :: .ref aJ :: .long (if (if (gN j) = true then (if (cvS gF gY gN (gF j) tS) < many then ((huS tS tl tg gF gY gN many j).1) else true) else ((huS tS tl tg gF gY gN many j).1)) = true then if (gY j) ≤ (if (gN j) = true then if (cvS gF gY gN (gF j) tS) < many then ((huS tS tl tg gF gY gN many j).2.1) else if ((huS tS tl tg gF gY gN many j).1) = true then if (gF j) ≤ ((huS tS tl tg gF gY gN many j).2.1) then gF j else ((huS tS tl tg gF gY gN many j).2.1) else gF j else (huS tS tl tg gF gY gN many j).2.1) then gY j else (if (gN j) = true then if (cvS gF gY gN (gF j) tS) < many then ((huS tS tl tg gF gY gN many j).2.1) else if ((huS tS tl tg gF gY gN many j).1) = true then if (gF j) ≤ ((huS tS tl tg gF gY gN many j).2.1) then gF j else ((huS tS tl tg gF gY gN many j).2.1) else gF j else (huS tS tl tg gF gY gN many j).2.1) else gY j) :: .long (if (gN j) = true then if (cvS gF gY gN (gF j) tS) < many then ((huS tS tl tg gF gY gN many j).2.2) else if ((huS tS tl tg gF gY gN many j).1) = true then if ((huS tS tl tg gF gY gN many j).2.2) ≤ (gF j) then gF j else ((huS tS tl tg gF gY gN many j).2.2) else gF j else (huS tS tl tg gF gY gN many j).2.2) :: .int (bI tB) :: .int tM :: .int tb :: .long tv :: .long tw :: .long tT :: .long tr :: .long tm :: .long tf :: .ref aG :: .ref aE :: .ref aU :: []))), (aF, .inl (κ.z 1, 6, .inr (.inl gF))), (aY, .inl (κ.z 1, 6, .inr (.inl gY))), (aJ, .inl (κ.z 2, 6, .inl (aB gN)))]) rfl ?_
            refine v_aload_n X 2 d_T_hullOf_165 rfl ?_
            refine v_iload_n X 1 d_T_hullOf_166 rfl ?_
            suffices hm167 : V κ 4 0 0 197 [(3, .int (nI j)), (2, .int (bI (if (gN j) = true then (if (cvS gF gY gN (gF j) tS) < many then ((huS tS tl tg gF gY gN many j).1) else true) else ((huS tS tl tg gF gY gN many j).1)))), (0, .ref m), (1, .int (nI many))] [.long (if (if (gN j) = true then (if (cvS gF gY gN (gF j) tS) < many then ((huS tS tl tg gF gY gN many j).1) else true) else ((huS tS tl tg gF gY gN many j).1)) = true then if (if (gN j) = true then if (cvS gF gY gN (gF j) tS) < many then ((huS tS tl tg gF gY gN many j).2.2) else if ((huS tS tl tg gF gY gN many j).1) = true then if ((huS tS tl tg gF gY gN many j).2.2) ≤ (gF j) then gF j else ((huS tS tl tg gF gY gN many j).2.2) else gF j else (huS tS tl tg gF gY gN many j).2.2) ≤ (gY j) then gY j else (if (gN j) = true then if (cvS gF gY gN (gF j) tS) < many then ((huS tS tl tg gF gY gN many j).2.2) else if ((huS tS tl tg gF gY gN many j).1) = true then if ((huS tS tl tg gF gY gN many j).2.2) ≤ (gF j) then gF j else ((huS tS tl tg gF gY gN many j).2.2) else gF j else (huS tS tl tg gF gY gN many j).2.2) else gY j), .ref m] [(m, .inr (5, (.int (nI tS) :: .int tD :: .int tE :: .long tN :: .int (bI tA) :: .long tL :: .ref aK :: .ref aP :: .ref aQ :: .ref aT :: .ref aW :: .ref aO :: .ref aM :: .ref aL :: .ref aH :: .ref aI :: .ref aS :: .ref aR :: .ref aX :: .ref aF :: .ref aY :: .ref aJ :: .long (if (if (gN j) = true then (if (cvS gF gY gN (gF j) tS) < many then ((huS tS tl tg gF gY gN many j).1) else true) else ((huS tS tl tg gF gY gN many j).1)) = true then if (gY j) ≤ (if (gN j) = true then if (cvS gF gY gN (gF j) tS) < many then ((huS tS tl tg gF gY gN many j).2.1) else if ((huS tS tl tg gF gY gN many j).1) = true then if (gF j) ≤ ((huS tS tl tg gF gY gN many j).2.1) then gF j else ((huS tS tl tg gF gY gN many j).2.1) else gF j else (huS tS tl tg gF gY gN many j).2.1) then gY j else (if (gN j) = true then if (cvS gF gY gN (gF j) tS) < many then ((huS tS tl tg gF gY gN many j).2.1) else if ((huS tS tl tg gF gY gN many j).1) = true then if (gF j) ≤ ((huS tS tl tg gF gY gN many j).2.1) then gF j else ((huS tS tl tg gF gY gN many j).2.1) else gF j else (huS tS tl tg gF gY gN many j).2.1) else gY j) :: .long (if (gN j) = true then if (cvS gF gY gN (gF j) tS) < many then ((huS tS tl tg gF gY gN many j).2.2) else if ((huS tS tl tg gF gY gN many j).1) = true then if ((huS tS tl tg gF gY gN many j).2.2) ≤ (gF j) then gF j else ((huS tS tl tg gF gY gN many j).2.2) else gF j else (huS tS tl tg gF gY gN many j).2.2) :: .int (bI tB) :: .int tM :: .int tb :: .long tv :: .long tw :: .long tT :: .long tr :: .long tm :: .long tf :: .ref aG :: .ref aE :: .ref aU :: []))), (aF, .inl (κ.z 1, 6, .inr (.inl gF))), (aY, .inl (κ.z 1, 6, .inr (.inl gY))), (aJ, .inl (κ.z 2, 6, .inl (aB gN)))] by
              refine v_ifB_eq X 191 (t := if (gN j) = true then (if (cvS gF gY gN (gF j) tS) < many then ((huS tS tl tg gF gY gN many j).1) else true) else ((huS tS tl tg gF gY gN many j).1)) d_T_hullOf_167 (by decide) (fun c167 => ?_) (fun c167 => ?_)
              · skip
                refine v_aload_n X 2 d_T_hullOf_191 rfl ?_
                refine v_get X 0 20 rfl rfl li_T (by decide) m447 rfl d_T_hullOf_192 ?_
                refine v_iload_n X 0 d_T_hullOf_195 rfl ?_
                refine v_laldN X 2 1 (j := j) rfl rfl (by omega) (by omega) d_T_hullOf_196 ?_
                have h9 := hm167; simp only [if_neg c167] at h9; first | exact h9 | (simp only [if_neg c167]; exact h9)
              · skip
                refine v_aload_n X 2 d_T_hullOf_170 rfl ?_
                refine v_get X 0 23 rfl rfl li_T (by decide) m450 rfl d_T_hullOf_171 ?_
                refine v_aload_n X 2 d_T_hullOf_174 rfl ?_
                refine v_get X 0 20 rfl rfl li_T (by decide) m447 rfl d_T_hullOf_175 ?_
                refine v_iload_n X 0 d_T_hullOf_178 rfl ?_
                refine v_laldN X 2 1 (j := j) rfl rfl (by omega) (by omega) d_T_hullOf_179 ?_
                suffices hm180 : V κ 4 0 0 197 [(3, .int (nI j)), (2, .int (bI (if (gN j) = true then (if (cvS gF gY gN (gF j) tS) < many then ((huS tS tl tg gF gY gN many j).1) else true) else ((huS tS tl tg gF gY gN many j).1)))), (0, .ref m), (1, .int (nI many))] [.long (if (if (gN j) = true then if (cvS gF gY gN (gF j) tS) < many then ((huS tS tl tg gF gY gN many j).2.2) else if ((huS tS tl tg gF gY gN many j).1) = true then if ((huS tS tl tg gF gY gN many j).2.2) ≤ (gF j) then gF j else ((huS tS tl tg gF gY gN many j).2.2) else gF j else (huS tS tl tg gF gY gN many j).2.2) ≤ (gY j) then gY j else (if (gN j) = true then if (cvS gF gY gN (gF j) tS) < many then ((huS tS tl tg gF gY gN many j).2.2) else if ((huS tS tl tg gF gY gN many j).1) = true then if ((huS tS tl tg gF gY gN many j).2.2) ≤ (gF j) then gF j else ((huS tS tl tg gF gY gN many j).2.2) else gF j else (huS tS tl tg gF gY gN many j).2.2)), .ref m] [(m, .inr (5, (.int (nI tS) :: .int tD :: .int tE :: .long tN :: .int (bI tA) :: .long tL :: .ref aK :: .ref aP :: .ref aQ :: .ref aT :: .ref aW :: .ref aO :: .ref aM :: .ref aL :: .ref aH :: .ref aI :: .ref aS :: .ref aR :: .ref aX :: .ref aF :: .ref aY :: .ref aJ :: .long (if (if (gN j) = true then (if (cvS gF gY gN (gF j) tS) < many then ((huS tS tl tg gF gY gN many j).1) else true) else ((huS tS tl tg gF gY gN many j).1)) = true then if (gY j) ≤ (if (gN j) = true then if (cvS gF gY gN (gF j) tS) < many then ((huS tS tl tg gF gY gN many j).2.1) else if ((huS tS tl tg gF gY gN many j).1) = true then if (gF j) ≤ ((huS tS tl tg gF gY gN many j).2.1) then gF j else ((huS tS tl tg gF gY gN many j).2.1) else gF j else (huS tS tl tg gF gY gN many j).2.1) then gY j else (if (gN j) = true then if (cvS gF gY gN (gF j) tS) < many then ((huS tS tl tg gF gY gN many j).2.1) else if ((huS tS tl tg gF gY gN many j).1) = true then if (gF j) ≤ ((huS tS tl tg gF gY gN many j).2.1) then gF j else ((huS tS tl tg gF gY gN many j).2.1) else gF j else (huS tS tl tg gF gY gN many j).2.1) else gY j) :: .long (if (gN j) = true then if (cvS gF gY gN (gF j) tS) < many then ((huS tS tl tg gF gY gN many j).2.2) else if ((huS tS tl tg gF gY gN many j).1) = true then if ((huS tS tl tg gF gY gN many j).2.2) ≤ (gF j) then gF j else ((huS tS tl tg gF gY gN many j).2.2) else gF j else (huS tS tl tg gF gY gN many j).2.2) :: .int (bI tB) :: .int tM :: .int tb :: .long tv :: .long tw :: .long tT :: .long tr :: .long tm :: .long tf :: .ref aG :: .ref aE :: .ref aU :: []))), (aF, .inl (κ.z 1, 6, .inr (.inl gF))), (aY, .inl (κ.z 1, 6, .inr (.inl gY))), (aJ, .inl (κ.z 2, 6, .inl (aB gN)))] by
                  refine v_lcmp_le X 191 d_T_hullOf_180 d_T_hullOf_181 (by decide) (fun c180 => ?_) (fun c180 => ?_)
                  · skip
                    refine v_aload_n X 2 d_T_hullOf_191 rfl ?_
                    refine v_get X 0 20 rfl rfl li_T (by decide) m447 rfl d_T_hullOf_192 ?_
                    refine v_iload_n X 0 d_T_hullOf_195 rfl ?_
                    refine v_laldN X 2 1 (j := j) rfl rfl (by omega) (by omega) d_T_hullOf_196 ?_
                    have h9 := hm180; simp only [if_pos c180] at h9; first | exact h9 | (simp only [if_pos c180]; exact h9)
                  · skip
                    refine v_aload_n X 2 d_T_hullOf_184 rfl ?_
                    refine v_get X 0 23 rfl rfl li_T (by decide) m450 rfl d_T_hullOf_185 ?_
                    refine v_goto X 197 d_T_hullOf_188 (by decide) ?_
                    have h9 := hm180; simp only [if_neg c180] at h9; first | exact h9 | (simp only [if_neg c180]; exact h9)
                have h9 := hm167; simp only [if_pos c167] at h9; first | exact h9 | (simp only [if_pos c167]; exact h9)
            refine v_put X 0 23 (v := .long (if (if (gN j) = true then (if (cvS gF gY gN (gF j) tS) < many then ((huS tS tl tg gF gY gN many j).1) else true) else ((huS tS tl tg gF gY gN many j).1)) = true then if (if (gN j) = true then if (cvS gF gY gN (gF j) tS) < many then ((huS tS tl tg gF gY gN many j).2.2) else if ((huS tS tl tg gF gY gN many j).1) = true then if ((huS tS tl tg gF gY gN many j).2.2) ≤ (gF j) then gF j else ((huS tS tl tg gF gY gN many j).2.2) else gF j else (huS tS tl tg gF gY gN many j).2.2) ≤ (gY j) then gY j else (if (gN j) = true then if (cvS gF gY gN (gF j) tS) < many then ((huS tS tl tg gF gY gN many j).2.2) else if ((huS tS tl tg gF gY gN many j).1) = true then if ((huS tS tl tg gF gY gN many j).2.2) ≤ (gF j) then gF j else ((huS tS tl tg gF gY gN many j).2.2) else gF j else (huS tS tl tg gF gY gN many j).2.2) else gY j)) (ty := .long) ty_T tk_T n_T rfl rfl li_T (by decide) m450 rfl (by decide +kernel) rfl rfl (Nat.le_of_ble_eq_true rfl) d_T_hullOf_197 (ws' := [(m, .inr (5, (.int (nI tS) :: .int tD :: .int tE :: .long tN :: .int (bI tA) :: .long tL :: .ref aK :: .ref aP :: .ref aQ :: .ref aT :: .ref aW :: .ref aO :: .ref aM :: .ref aL :: .ref aH :: .ref aI :: .ref aS :: .ref aR :: .ref aX :: .ref aF :: .ref aY :: .ref aJ :: .long (if (if (gN j) = true then (if (cvS gF gY gN (gF j) tS) < many then ((huS tS tl tg gF gY gN many j).1) else true) else ((huS tS tl tg gF gY gN many j).1)) = true then if (gY j) ≤ (if (gN j) = true then if (cvS gF gY gN (gF j) tS) < many then ((huS tS tl tg gF gY gN many j).2.1) else if ((huS tS tl tg gF gY gN many j).1) = true then if (gF j) ≤ ((huS tS tl tg gF gY gN many j).2.1) then gF j else ((huS tS tl tg gF gY gN many j).2.1) else gF j else (huS tS tl tg gF gY gN many j).2.1) then gY j else (if (gN j) = true then if (cvS gF gY gN (gF j) tS) < many then ((huS tS tl tg gF gY gN many j).2.1) else if ((huS tS tl tg gF gY gN many j).1) = true then if (gF j) ≤ ((huS tS tl tg gF gY gN many j).2.1) then gF j else ((huS tS tl tg gF gY gN many j).2.1) else gF j else (huS tS tl tg gF gY gN many j).2.1) else gY j) :: .long (if (if (gN j) = true then (if (cvS gF gY gN (gF j) tS) < many then ((huS tS tl tg gF gY gN many j).1) else true) else ((huS tS tl tg gF gY gN many j).1)) = true then if (if (gN j) = true then if (cvS gF gY gN (gF j) tS) < many then ((huS tS tl tg gF gY gN many j).2.2) else if ((huS tS tl tg gF gY gN many j).1) = true then if ((huS tS tl tg gF gY gN many j).2.2) ≤ (gF j) then gF j else ((huS tS tl tg gF gY gN many j).2.2) else gF j else (huS tS tl tg gF gY gN many j).2.2) ≤ (gY j) then gY j else (if (gN j) = true then if (cvS gF gY gN (gF j) tS) < many then ((huS tS tl tg gF gY gN many j).2.2) else if ((huS tS tl tg gF gY gN many j).1) = true then if ((huS tS tl tg gF gY gN many j).2.2) ≤ (gF j) then gF j else ((huS tS tl tg gF gY gN many j).2.2) else gF j else (huS tS tl tg gF gY gN many j).2.2) else gY j) :: .int (bI tB) :: .int tM :: .int tb :: .long tv :: .long tw :: .long tT :: .long tr :: .long tm :: .long tf :: .ref aG :: .ref aE :: .ref aU :: []))), (aF, .inl (κ.z 1, 6, .inr (.inl gF))), (aY, .inl (κ.z 1, 6, .inr (.inl gY))), (aJ, .inl (κ.z 2, 6, .inl (aB gN)))]) rfl ?_
            refine v_iconst X 1 d_T_hullOf_200 (by decide) ?_
            refine v_istore_n X d_T_hullOf_201 rfl (by decide) (lv' := [(2, .int 1), (3, .int (nI j)), (0, .ref m), (1, .int (nI many))]) rfl ?_
            refine v_lv [1, 0, 2, 3] rfl ?_
            have h9 := hm127; simp only [if_neg c127] at h9; first | exact h9 | (simp only [if_neg c127]; exact h9)
        have h9 := hm113; simp only [if_pos c113] at h9; first | exact h9 | (simp only [if_pos c113]; exact h9)
    show V κ 4 0 0 202 [(3, .int (nI j)), (2, .int (bI (if (gN j) = true then (if (cvS gF gY gN (gY j) tS) < many then (if (gN j) = true then (if (cvS gF gY gN (gF j) tS) < many then ((huS tS tl tg gF gY gN many j).1) else true) else ((huS tS tl tg gF gY gN many j).1)) else true) else (if (gN j) = true then (if (cvS gF gY gN (gF j) tS) < many then ((huS tS tl tg gF gY gN many j).1) else true) else ((huS tS tl tg gF gY gN many j).1))))), (0, .ref m), (1, .int (nI many))] [] [(m, .inr (5, (.int (nI tS) :: .int tD :: .int tE :: .long tN :: .int (bI tA) :: .long tL :: .ref aK :: .ref aP :: .ref aQ :: .ref aT :: .ref aW :: .ref aO :: .ref aM :: .ref aL :: .ref aH :: .ref aI :: .ref aS :: .ref aR :: .ref aX :: .ref aF :: .ref aY :: .ref aJ :: .long (if (gN j) = true then if (cvS gF gY gN (gY j) tS) < many then (if (gN j) = true then if (cvS gF gY gN (gF j) tS) < many then ((huS tS tl tg gF gY gN many j).2.1) else if ((huS tS tl tg gF gY gN many j).1) = true then if (gF j) ≤ ((huS tS tl tg gF gY gN many j).2.1) then gF j else ((huS tS tl tg gF gY gN many j).2.1) else gF j else (huS tS tl tg gF gY gN many j).2.1) else if (if (gN j) = true then (if (cvS gF gY gN (gF j) tS) < many then ((huS tS tl tg gF gY gN many j).1) else true) else ((huS tS tl tg gF gY gN many j).1)) = true then if (gY j) ≤ (if (gN j) = true then if (cvS gF gY gN (gF j) tS) < many then ((huS tS tl tg gF gY gN many j).2.1) else if ((huS tS tl tg gF gY gN many j).1) = true then if (gF j) ≤ ((huS tS tl tg gF gY gN many j).2.1) then gF j else ((huS tS tl tg gF gY gN many j).2.1) else gF j else (huS tS tl tg gF gY gN many j).2.1) then gY j else (if (gN j) = true then if (cvS gF gY gN (gF j) tS) < many then ((huS tS tl tg gF gY gN many j).2.1) else if ((huS tS tl tg gF gY gN many j).1) = true then if (gF j) ≤ ((huS tS tl tg gF gY gN many j).2.1) then gF j else ((huS tS tl tg gF gY gN many j).2.1) else gF j else (huS tS tl tg gF gY gN many j).2.1) else gY j else if (gN j) = true then if (cvS gF gY gN (gF j) tS) < many then ((huS tS tl tg gF gY gN many j).2.1) else if ((huS tS tl tg gF gY gN many j).1) = true then if (gF j) ≤ ((huS tS tl tg gF gY gN many j).2.1) then gF j else ((huS tS tl tg gF gY gN many j).2.1) else gF j else (huS tS tl tg gF gY gN many j).2.1) :: .long (if (gN j) = true then if (cvS gF gY gN (gY j) tS) < many then (if (gN j) = true then if (cvS gF gY gN (gF j) tS) < many then ((huS tS tl tg gF gY gN many j).2.2) else if ((huS tS tl tg gF gY gN many j).1) = true then if ((huS tS tl tg gF gY gN many j).2.2) ≤ (gF j) then gF j else ((huS tS tl tg gF gY gN many j).2.2) else gF j else (huS tS tl tg gF gY gN many j).2.2) else if (if (gN j) = true then (if (cvS gF gY gN (gF j) tS) < many then ((huS tS tl tg gF gY gN many j).1) else true) else ((huS tS tl tg gF gY gN many j).1)) = true then if (if (gN j) = true then if (cvS gF gY gN (gF j) tS) < many then ((huS tS tl tg gF gY gN many j).2.2) else if ((huS tS tl tg gF gY gN many j).1) = true then if ((huS tS tl tg gF gY gN many j).2.2) ≤ (gF j) then gF j else ((huS tS tl tg gF gY gN many j).2.2) else gF j else (huS tS tl tg gF gY gN many j).2.2) ≤ (gY j) then gY j else (if (gN j) = true then if (cvS gF gY gN (gF j) tS) < many then ((huS tS tl tg gF gY gN many j).2.2) else if ((huS tS tl tg gF gY gN many j).1) = true then if ((huS tS tl tg gF gY gN many j).2.2) ≤ (gF j) then gF j else ((huS tS tl tg gF gY gN many j).2.2) else gF j else (huS tS tl tg gF gY gN many j).2.2) else gY j else if (gN j) = true then if (cvS gF gY gN (gF j) tS) < many then ((huS tS tl tg gF gY gN many j).2.2) else if ((huS tS tl tg gF gY gN many j).1) = true then if ((huS tS tl tg gF gY gN many j).2.2) ≤ (gF j) then gF j else ((huS tS tl tg gF gY gN many j).2.2) else gF j else (huS tS tl tg gF gY gN many j).2.2) :: .int (bI tB) :: .int tM :: .int tb :: .long tv :: .long tw :: .long tT :: .long tr :: .long tm :: .long tf :: .ref aG :: .ref aE :: .ref aU :: []))), (aF, .inl (κ.z 1, 6, .inr (.inl gF))), (aY, .inl (κ.z 1, 6, .inr (.inl gY))), (aJ, .inl (κ.z 2, 6, .inl (aB gN)))]
    refine v_iinc X 0 d_T_hullOf_202 (x := nI j) rfl (v := nI (j + 1)) (nI_1 _) (by decide) (lv' := [(3, .int (nI (j + 1))), (2, .int (bI (if (gN j) = true then (if (cvS gF gY gN (gY j) tS) < many then (if (gN j) = true then (if (cvS gF gY gN (gF j) tS) < many then ((huS tS tl tg gF gY gN many j).1) else true) else ((huS tS tl tg gF gY gN many j).1)) else true) else (if (gN j) = true then (if (cvS gF gY gN (gF j) tS) < many then ((huS tS tl tg gF gY gN many j).1) else true) else ((huS tS tl tg gF gY gN many j).1))))), (0, .ref m), (1, .int (nI many))]) rfl ?_
    refine v_goto X 4 d_T_hullOf_205 (by decide) ?_
    exact v_eq rfl (by rfl) rfl (by rfl) (ih (j + 1) (by omega))

set_option maxHeartbeats 4000000 in
set_option maxRecDepth 100000 in
theorem c_T_hullOf (l : Launch) (D : va_G) (z : Nat → ClassId) (m : Nat) (tS : Nat) (tD : Int32) (tE : Int32) (tN : Int64) (tA : Bool) (tL : Int64) (aK : Nat) (aP : Nat) (aQ : Nat) (aT : Nat) (aW : Nat) (aO : Nat) (aM : Nat) (aL : Nat) (aH : Nat) (aI : Nat) (aS : Nat) (aR : Nat) (aX : Nat) (aF : Nat) (aY : Nat) (aJ : Nat) (tl : Int64) (tg : Int64) (tB : Bool) (tM : Int32) (tb : Int32) (tv : Int64) (tw : Int64) (tT : Int64) (tr : Int64) (tm : Int64) (tf : Int64) (aG : Nat) (aE : Nat) (aU : Nat) (gF : Nat → Int64) (gY : Nat → Int64) (gN : Nat → Bool) (many : Nat) (h6 : tS ≤ 6) (hm6 : many ≤ 6) : Ctr l D z y_T_hullOf b_T_hullOf 4 (some .boolean) { frames := 2, cells := 0, slots := 0, locals := 49 } [.ref m, .int (nI many)] [(m, .inr (5, (.int (nI tS) :: .int tD :: .int tE :: .long tN :: .int (bI tA) :: .long tL :: .ref aK :: .ref aP :: .ref aQ :: .ref aT :: .ref aW :: .ref aO :: .ref aM :: .ref aL :: .ref aH :: .ref aI :: .ref aS :: .ref aR :: .ref aX :: .ref aF :: .ref aY :: .ref aJ :: .long tl :: .long tg :: .int (bI tB) :: .int tM :: .int tb :: .long tv :: .long tw :: .long tT :: .long tr :: .long tm :: .long tf :: .ref aG :: .ref aE :: .ref aU :: []))), (aF, .inl (z 1, 6, .inr (.inl gF))), (aY, .inl (z 1, 6, .inr (.inl gY))), (aJ, .inl (z 2, 6, .inl (aB gN)))] (fun v w => v = some (.int (bI ((huS tS tl tg gF gY gN many tS).1))) ∧ w = [(m, .inr (5, (.int (nI tS) :: .int tD :: .int tE :: .long tN :: .int (bI tA) :: .long tL :: .ref aK :: .ref aP :: .ref aQ :: .ref aT :: .ref aW :: .ref aO :: .ref aM :: .ref aL :: .ref aH :: .ref aI :: .ref aS :: .ref aR :: .ref aX :: .ref aF :: .ref aY :: .ref aJ :: .long ((huS tS tl tg gF gY gN many tS).2.1) :: .long ((huS tS tl tg gF gY gN many tS).2.2) :: .int (bI tB) :: .int tM :: .int tb :: .long tv :: .long tw :: .long tT :: .long tr :: .long tm :: .long tf :: .ref aG :: .ref aE :: .ref aU :: []))), (aF, .inl (z 1, 6, .inr (.inl gF))), (aY, .inl (z 1, 6, .inr (.inl gY))), (aJ, .inl (z 2, 6, .inl (aB gN)))]) 0 0 := by
  refine met_V (own := R_T) (nm := "hullOf") (by decide +kernel) rfl rfl (Nat.le_of_ble_eq_true rfl) ?_
  intro κ hl hD hz X Y
  subst hl
  subst hD
  subst hz
  show V κ 4 0 0 0 [(0, .ref m), (1, .int (nI many))] [] [(m, .inr (5, (.int (nI tS) :: .int tD :: .int tE :: .long tN :: .int (bI tA) :: .long tL :: .ref aK :: .ref aP :: .ref aQ :: .ref aT :: .ref aW :: .ref aO :: .ref aM :: .ref aL :: .ref aH :: .ref aI :: .ref aS :: .ref aR :: .ref aX :: .ref aF :: .ref aY :: .ref aJ :: .long tl :: .long tg :: .int (bI tB) :: .int tM :: .int tb :: .long tv :: .long tw :: .long tT :: .long tr :: .long tm :: .long tf :: .ref aG :: .ref aE :: .ref aU :: []))), (aF, .inl (κ.z 1, 6, .inr (.inl gF))), (aY, .inl (κ.z 1, 6, .inr (.inl gY))), (aJ, .inl (κ.z 2, 6, .inl (aB gN)))]
  refine v_iconst X 0 d_T_hullOf_0 (by decide) ?_
  refine v_istore_n X d_T_hullOf_1 rfl (by decide) (lv' := [(2, .int 0), (0, .ref m), (1, .int (nI many))]) rfl ?_
  refine v_iconst X 0 d_T_hullOf_2 (by decide) ?_
  refine v_istore_n X d_T_hullOf_3 rfl (by decide) (lv' := [(3, .int 0), (2, .int 0), (0, .ref m), (1, .int (nI many))]) rfl ?_
  show V κ 4 0 0 4 [(3, .int (nI 0)), (2, .int (bI ((huS tS tl tg gF gY gN many 0).1))), (0, .ref m), (1, .int (nI many))] [] [(m, .inr (5, (.int (nI tS) :: .int tD :: .int tE :: .long tN :: .int (bI tA) :: .long tL :: .ref aK :: .ref aP :: .ref aQ :: .ref aT :: .ref aW :: .ref aO :: .ref aM :: .ref aL :: .ref aH :: .ref aI :: .ref aS :: .ref aR :: .ref aX :: .ref aF :: .ref aY :: .ref aJ :: .long ((huS tS tl tg gF gY gN many 0).2.1) :: .long ((huS tS tl tg gF gY gN many 0).2.2) :: .int (bI tB) :: .int tM :: .int tb :: .long tv :: .long tw :: .long tT :: .long tr :: .long tm :: .long tf :: .ref aG :: .ref aE :: .ref aU :: []))), (aF, .inl (κ.z 1, 6, .inr (.inl gF))), (aY, .inl (κ.z 1, 6, .inr (.inl gY))), (aJ, .inl (κ.z 2, 6, .inl (aB gN)))]
  refine lp_T_hullOf X m tS tD tE tN tA tL aK aP aQ aT aW aO aM aL aH aI aS aR aX aF aY aJ tl tg tB tM tb tv tw tT tr tm tf aG aE aU gF gY gN many (by omega) (by omega)  ?_ (tS - 0) 0 (by omega)
  show V κ 4 0 0 208 [(3, .int (nI tS)), (2, .int (bI ((huS tS tl tg gF gY gN many tS).1))), (0, .ref m), (1, .int (nI many))] [] [(m, .inr (5, (.int (nI tS) :: .int tD :: .int tE :: .long tN :: .int (bI tA) :: .long tL :: .ref aK :: .ref aP :: .ref aQ :: .ref aT :: .ref aW :: .ref aO :: .ref aM :: .ref aL :: .ref aH :: .ref aI :: .ref aS :: .ref aR :: .ref aX :: .ref aF :: .ref aY :: .ref aJ :: .long ((huS tS tl tg gF gY gN many tS).2.1) :: .long ((huS tS tl tg gF gY gN many tS).2.2) :: .int (bI tB) :: .int tM :: .int tb :: .long tv :: .long tw :: .long tT :: .long tr :: .long tm :: .long tf :: .ref aG :: .ref aE :: .ref aU :: []))), (aF, .inl (κ.z 1, 6, .inr (.inl gF))), (aY, .inl (κ.z 1, 6, .inr (.inl gY))), (aJ, .inl (κ.z 2, 6, .inl (aB gN)))]
  refine v_iload_n X 1 d_T_hullOf_208 rfl ?_
  exact v_zret X Y (by decide) (by decide) d_T_hullOf_209 (narB _) ⟨rfl, rfl⟩

set_option maxHeartbeats 4000000 in
set_option maxRecDepth 100000 in
theorem c_T_middle (l : Launch) (D : va_G) (z : Nat → ClassId) (m : Nat) (tS : Nat) (tD : Int32) (tE : Int32) (tN : Int64) (tA : Bool) (tL : Int64) (aK : Nat) (aP : Nat) (aQ : Nat) (aT : Nat) (aW : Nat) (aO : Nat) (aM : Nat) (aL : Nat) (aH : Nat) (aI : Nat) (aS : Nat) (aR : Nat) (aX : Nat) (aF : Nat) (aY : Nat) (aJ : Nat) (tl : Int64) (tg : Int64) (tB : Bool) (tM : Int32) (tb : Int32) (tv : Int64) (tw : Int64) (tT : Int64) (tr : Int64) (tm : Int64) (tf : Int64) (aG : Nat) (aE : Nat) (aU : Nat) (gF : Nat → Int64) (gY : Nat → Int64) (i : Nat) (hi6 : i < 6) : Ctr l D z y_T_middle b_T_middle 2 (some .long) { frames := 1, cells := 0, slots := 0, locals := 25 } [.ref m, .int (nI i)] [(m, .inr (5, (.int (nI tS) :: .int tD :: .int tE :: .long tN :: .int (bI tA) :: .long tL :: .ref aK :: .ref aP :: .ref aQ :: .ref aT :: .ref aW :: .ref aO :: .ref aM :: .ref aL :: .ref aH :: .ref aI :: .ref aS :: .ref aR :: .ref aX :: .ref aF :: .ref aY :: .ref aJ :: .long tl :: .long tg :: .int (bI tB) :: .int tM :: .int tb :: .long tv :: .long tw :: .long tT :: .long tr :: .long tm :: .long tf :: .ref aG :: .ref aE :: .ref aU :: []))), (aF, .inl (z 1, 6, .inr (.inl gF))), (aY, .inl (z 1, 6, .inr (.inl gY)))] (fun v w => v = some (.long (f_T_down ((gF i) + (gY i)) 2)) ∧ w = [(m, .inr (5, (.int (nI tS) :: .int tD :: .int tE :: .long tN :: .int (bI tA) :: .long tL :: .ref aK :: .ref aP :: .ref aQ :: .ref aT :: .ref aW :: .ref aO :: .ref aM :: .ref aL :: .ref aH :: .ref aI :: .ref aS :: .ref aR :: .ref aX :: .ref aF :: .ref aY :: .ref aJ :: .long tl :: .long tg :: .int (bI tB) :: .int tM :: .int tb :: .long tv :: .long tw :: .long tT :: .long tr :: .long tm :: .long tf :: .ref aG :: .ref aE :: .ref aU :: []))), (aF, .inl (z 1, 6, .inr (.inl gF))), (aY, .inl (z 1, 6, .inr (.inl gY)))]) 0 0 := by
  refine met_V (own := R_T) (nm := "middle") (by decide +kernel) rfl rfl (Nat.le_of_ble_eq_true rfl) ?_
  intro κ hl hD hz X Y
  subst hl
  subst hD
  subst hz
  show V κ 2 0 0 0 [(0, .ref m), (1, .int (nI i))] [] [(m, .inr (5, (.int (nI tS) :: .int tD :: .int tE :: .long tN :: .int (bI tA) :: .long tL :: .ref aK :: .ref aP :: .ref aQ :: .ref aT :: .ref aW :: .ref aO :: .ref aM :: .ref aL :: .ref aH :: .ref aI :: .ref aS :: .ref aR :: .ref aX :: .ref aF :: .ref aY :: .ref aJ :: .long tl :: .long tg :: .int (bI tB) :: .int tM :: .int tb :: .long tv :: .long tw :: .long tT :: .long tr :: .long tm :: .long tf :: .ref aG :: .ref aE :: .ref aU :: []))), (aF, .inl (κ.z 1, 6, .inr (.inl gF))), (aY, .inl (κ.z 1, 6, .inr (.inl gY)))]
  refine v_aload_n X 0 d_T_middle_0 rfl ?_
  refine v_get X 0 19 rfl rfl li_T (by decide) m446 rfl d_T_middle_1 ?_
  refine v_iload_n X 1 d_T_middle_4 rfl ?_
  refine v_laldN X 1 1 (j := i) rfl rfl (by omega) (by omega) d_T_middle_5 ?_
  refine v_aload_n X 0 d_T_middle_6 rfl ?_
  refine v_get X 0 20 rfl rfl li_T (by decide) m447 rfl d_T_middle_7 ?_
  refine v_iload_n X 1 d_T_middle_10 rfl ?_
  refine v_laldN X 2 1 (j := i) rfl rfl (by omega) (by omega) d_T_middle_11 ?_
  refine v_ladd X d_T_middle_12 ?_
  refine v_ldc2 X (v := 2) m586 d_T_middle_13 ?_
  refine v_callS X (k := 0) (n := 0) (n9 := 2) (As := [.long ((gF i) + (gY i)), .long 2]) (rest := []) (wc := []) (wr := [(m, .inr (5, (.int (nI tS) :: .int tD :: .int tE :: .long tN :: .int (bI tA) :: .long tL :: .ref aK :: .ref aP :: .ref aQ :: .ref aT :: .ref aW :: .ref aO :: .ref aM :: .ref aL :: .ref aH :: .ref aI :: .ref aS :: .ref aR :: .ref aX :: .ref aF :: .ref aY :: .ref aJ :: .long tl :: .long tg :: .int (bI tB) :: .int tM :: .int tb :: .long tv :: .long tw :: .long tT :: .long tr :: .long tm :: .long tf :: .ref aG :: .ref aE :: .ref aU :: []))), (aF, .inl (κ.z 1, 6, .inr (.inl gF))), (aY, .inl (κ.z 1, 6, .inr (.inl gY)))]) (c_T_down κ.l κ.D κ.z ((gF i) + (gY i)) 2 (by decide)) m587 m588 m36 (by decide +kernel) rfl (Nat.le_of_ble_eq_true rfl) ⟨by decide, by decide⟩ ⟨by decide, by decide⟩ rfl rfl m589 d_T_middle_16 (fun v w1 hg => ?_)
  obtain ⟨rfl, rfl⟩ := hg
  show V κ 2 0 0 19 [(0, .ref m), (1, .int (nI i))] [.long (f_T_down ((gF i) + (gY i)) 2)] [(m, .inr (5, (.int (nI tS) :: .int tD :: .int tE :: .long tN :: .int (bI tA) :: .long tL :: .ref aK :: .ref aP :: .ref aQ :: .ref aT :: .ref aW :: .ref aO :: .ref aM :: .ref aL :: .ref aH :: .ref aI :: .ref aS :: .ref aR :: .ref aX :: .ref aF :: .ref aY :: .ref aJ :: .long tl :: .long tg :: .int (bI tB) :: .int tM :: .int tb :: .long tv :: .long tw :: .long tT :: .long tr :: .long tm :: .long tf :: .ref aG :: .ref aE :: .ref aU :: []))), (aF, .inl (κ.z 1, 6, .inr (.inl gF))), (aY, .inl (κ.z 1, 6, .inr (.inl gY)))]
  exact v_lret X Y (by decide) (by decide) d_T_middle_19 ⟨rfl, rfl⟩

def faS (gF : Nat → Int64) (gY : Nat → Int64) (gN : Nat → Bool) (i : Nat) : Nat → Int64
  | 0 => 0
  | j + 1 => if (gN j) = true then (faS gF gY gN i j) + (if 0 ≤ ((f_T_down ((gF j) + (gY j)) 2) - (f_T_down ((gF i) + (gY i)) 2)) then (f_T_down ((gF j) + (gY j)) 2) - (f_T_down ((gF i) + (gY i)) 2) else -((f_T_down ((gF j) + (gY j)) 2) - (f_T_down ((gF i) + (gY i)) 2))) else (faS gF gY gN i j)
set_option maxHeartbeats 4000000 in
set_option maxRecDepth 100000 in
theorem lp_T_far {κ : VC} (X : Cx κ b_T_far R_T { frames := 2, cells := 0, slots := 0, locals := 46 } 7) (m : Nat) (tS : Nat) (tD : Int32) (tE : Int32) (tN : Int64) (tA : Bool) (tL : Int64) (aK : Nat) (aP : Nat) (aQ : Nat) (aT : Nat) (aW : Nat) (aO : Nat) (aM : Nat) (aL : Nat) (aH : Nat) (aI : Nat) (aS : Nat) (aR : Nat) (aX : Nat) (aF : Nat) (aY : Nat) (aJ : Nat) (tl : Int64) (tg : Int64) (tB : Bool) (tM : Int32) (tb : Int32) (tv : Int64) (tw : Int64) (tT : Int64) (tr : Int64) (tm : Int64) (tf : Int64) (aG : Nat) (aE : Nat) (aU : Nat) (gF : Nat → Int64) (gY : Nat → Int64) (gN : Nat → Bool) (i : Nat) (h6 : tS ≤ 6) (hi6 : i < 6)  (kk : V κ 7 0 0 62 [(4, .int (nI tS)), (2, .long (faS gF gY gN i tS)), (0, .ref m), (1, .int (nI i))] [] [(m, .inr (5, (.int (nI tS) :: .int tD :: .int tE :: .long tN :: .int (bI tA) :: .long tL :: .ref aK :: .ref aP :: .ref aQ :: .ref aT :: .ref aW :: .ref aO :: .ref aM :: .ref aL :: .ref aH :: .ref aI :: .ref aS :: .ref aR :: .ref aX :: .ref aF :: .ref aY :: .ref aJ :: .long tl :: .long tg :: .int (bI tB) :: .int tM :: .int tb :: .long tv :: .long tw :: .long tT :: .long tr :: .long tm :: .long tf :: .ref aG :: .ref aE :: .ref aU :: []))), (aF, .inl (κ.z 1, 6, .inr (.inl gF))), (aY, .inl (κ.z 1, 6, .inr (.inl gY))), (aJ, .inl (κ.z 2, 6, .inl (aB gN)))]) : ∀ (d9 j : Nat), j + d9 = tS → V κ 7 0 0 5 [(4, .int (nI j)), (2, .long (faS gF gY gN i j)), (0, .ref m), (1, .int (nI i))] [] [(m, .inr (5, (.int (nI tS) :: .int tD :: .int tE :: .long tN :: .int (bI tA) :: .long tL :: .ref aK :: .ref aP :: .ref aQ :: .ref aT :: .ref aW :: .ref aO :: .ref aM :: .ref aL :: .ref aH :: .ref aI :: .ref aS :: .ref aR :: .ref aX :: .ref aF :: .ref aY :: .ref aJ :: .long tl :: .long tg :: .int (bI tB) :: .int tM :: .int tb :: .long tv :: .long tw :: .long tT :: .long tr :: .long tm :: .long tf :: .ref aG :: .ref aE :: .ref aU :: []))), (aF, .inl (κ.z 1, 6, .inr (.inl gF))), (aY, .inl (κ.z 1, 6, .inr (.inl gY))), (aJ, .inl (κ.z 2, 6, .inl (aB gN)))] := by
  intro d9
  induction d9 with
  | zero =>
    intro j hj 
    have e9 : j = tS := by omega
    rw [e9]
    show V κ 7 0 0 5 [(4, .int (nI tS)), (2, .long (faS gF gY gN i tS)), (0, .ref m), (1, .int (nI i))] [] [(m, .inr (5, (.int (nI tS) :: .int tD :: .int tE :: .long tN :: .int (bI tA) :: .long tL :: .ref aK :: .ref aP :: .ref aQ :: .ref aT :: .ref aW :: .ref aO :: .ref aM :: .ref aL :: .ref aH :: .ref aI :: .ref aS :: .ref aR :: .ref aX :: .ref aF :: .ref aY :: .ref aJ :: .long tl :: .long tg :: .int (bI tB) :: .int tM :: .int tb :: .long tv :: .long tw :: .long tT :: .long tr :: .long tm :: .long tf :: .ref aG :: .ref aE :: .ref aU :: []))), (aF, .inl (κ.z 1, 6, .inr (.inl gF))), (aY, .inl (κ.z 1, 6, .inr (.inl gY))), (aJ, .inl (κ.z 2, 6, .inl (aB gN)))]
    refine v_iload X 0 d_T_far_5 rfl ?_
    refine v_aload_n X 2 d_T_far_7 rfl ?_
    refine v_get X 0 0 rfl rfl li_T (by decide) m427 rfl d_T_far_8 ?_
    refine v_icmpN_ge X 62 (a := tS) (b := tS) d_T_far_11 (by decide) (by omega) (by omega) (fun c11 => ?_) (fun c11 => by omega)
    exact kk
  | succ d9 ih =>
    intro j hj 
    show V κ 7 0 0 5 [(4, .int (nI j)), (2, .long (faS gF gY gN i j)), (0, .ref m), (1, .int (nI i))] [] [(m, .inr (5, (.int (nI tS) :: .int tD :: .int tE :: .long tN :: .int (bI tA) :: .long tL :: .ref aK :: .ref aP :: .ref aQ :: .ref aT :: .ref aW :: .ref aO :: .ref aM :: .ref aL :: .ref aH :: .ref aI :: .ref aS :: .ref aR :: .ref aX :: .ref aF :: .ref aY :: .ref aJ :: .long tl :: .long tg :: .int (bI tB) :: .int tM :: .int tb :: .long tv :: .long tw :: .long tT :: .long tr :: .long tm :: .long tf :: .ref aG :: .ref aE :: .ref aU :: []))), (aF, .inl (κ.z 1, 6, .inr (.inl gF))), (aY, .inl (κ.z 1, 6, .inr (.inl gY))), (aJ, .inl (κ.z 2, 6, .inl (aB gN)))]
    refine v_iload X 0 d_T_far_5 rfl ?_
    refine v_aload_n X 2 d_T_far_7 rfl ?_
    refine v_get X 0 0 rfl rfl li_T (by decide) m427 rfl d_T_far_8 ?_
    refine v_icmpN_ge X 62 (a := j) (b := tS) d_T_far_11 (by decide) (by omega) (by omega) (fun c11 => by omega) (fun c11 => ?_)
    refine v_aload_n X 2 d_T_far_14 rfl ?_
    refine v_get X 0 21 rfl rfl li_T (by decide) m448 rfl d_T_far_15 ?_
    refine v_iload X 0 d_T_far_18 rfl ?_
    refine v_zaldN X 3 2 (j := j) rfl rfl (by omega) (by omega) d_T_far_20 ?_
    suffices hm21 : V κ 7 0 0 56 [(4, .int (nI j)), (2, .long (if (gN j) = true then (faS gF gY gN i j) + (if 0 ≤ ((f_T_down ((gF j) + (gY j)) 2) - (f_T_down ((gF i) + (gY i)) 2)) then (f_T_down ((gF j) + (gY j)) 2) - (f_T_down ((gF i) + (gY i)) 2) else -((f_T_down ((gF j) + (gY j)) 2) - (f_T_down ((gF i) + (gY i)) 2))) else faS gF gY gN i j)), (0, .ref m), (1, .int (nI i))] [] [(m, .inr (5, (.int (nI tS) :: .int tD :: .int tE :: .long tN :: .int (bI tA) :: .long tL :: .ref aK :: .ref aP :: .ref aQ :: .ref aT :: .ref aW :: .ref aO :: .ref aM :: .ref aL :: .ref aH :: .ref aI :: .ref aS :: .ref aR :: .ref aX :: .ref aF :: .ref aY :: .ref aJ :: .long tl :: .long tg :: .int (bI tB) :: .int tM :: .int tb :: .long tv :: .long tw :: .long tT :: .long tr :: .long tm :: .long tf :: .ref aG :: .ref aE :: .ref aU :: []))), (aF, .inl (κ.z 1, 6, .inr (.inl gF))), (aY, .inl (κ.z 1, 6, .inr (.inl gY))), (aJ, .inl (κ.z 2, 6, .inl (aB gN)))] by
      refine v_ifB_eq X 56 (t := gN j) d_T_far_21 (by decide) (fun c21 => ?_) (fun c21 => ?_)
      · skip
        have h9 := hm21; simp only [if_neg c21] at h9; first | exact h9 | (simp only [if_neg c21]; exact h9)
      · skip
        refine v_aload_n X 2 d_T_far_24 rfl ?_
        refine v_iload X 0 d_T_far_25 rfl ?_
        refine v_callV X (b := m) (k := 0) (n := 0) (n9 := 1) (As := [.int (nI j)]) (rest := []) (wc := [(m, .inr (5, (.int (nI tS) :: .int tD :: .int tE :: .long tN :: .int (bI tA) :: .long tL :: .ref aK :: .ref aP :: .ref aQ :: .ref aT :: .ref aW :: .ref aO :: .ref aM :: .ref aL :: .ref aH :: .ref aI :: .ref aS :: .ref aR :: .ref aX :: .ref aF :: .ref aY :: .ref aJ :: .long tl :: .long tg :: .int (bI tB) :: .int tM :: .int tb :: .long tv :: .long tw :: .long tT :: .long tr :: .long tm :: .long tf :: .ref aG :: .ref aE :: .ref aU :: []))), (aF, .inl (κ.z 1, 6, .inr (.inl gF))), (aY, .inl (κ.z 1, 6, .inr (.inl gY)))]) (wr := [(aJ, .inl (κ.z 2, 6, .inl (aB gN)))]) (c_T_middle κ.l κ.D κ.z m tS tD tE tN tA tL aK aP aQ aT aW aO aM aL aH aI aS aR aX aF aY aJ tl tg tB tM tb tv tw tT tr tm tf aG aE aU gF gY j (by omega)) 0 rfl rfl m583 m584 m26 m36 (by decide +kernel) rfl (Nat.le_of_ble_eq_true rfl) ⟨by decide, by decide⟩ ⟨by decide, by decide⟩ rfl rfl m585 d_T_far_27 (fun v w1 hg => ?_)
        obtain ⟨rfl, rfl⟩ := hg
        show V κ 7 0 0 30 [(4, .int (nI j)), (2, .long (faS gF gY gN i j)), (0, .ref m), (1, .int (nI i))] [.long (f_T_down ((gF j) + (gY j)) 2)] [(m, .inr (5, (.int (nI tS) :: .int tD :: .int tE :: .long tN :: .int (bI tA) :: .long tL :: .ref aK :: .ref aP :: .ref aQ :: .ref aT :: .ref aW :: .ref aO :: .ref aM :: .ref aL :: .ref aH :: .ref aI :: .ref aS :: .ref aR :: .ref aX :: .ref aF :: .ref aY :: .ref aJ :: .long tl :: .long tg :: .int (bI tB) :: .int tM :: .int tb :: .long tv :: .long tw :: .long tT :: .long tr :: .long tm :: .long tf :: .ref aG :: .ref aE :: .ref aU :: []))), (aF, .inl (κ.z 1, 6, .inr (.inl gF))), (aY, .inl (κ.z 1, 6, .inr (.inl gY))), (aJ, .inl (κ.z 2, 6, .inl (aB gN)))]
        refine v_aload_n X 2 d_T_far_30 rfl ?_
        refine v_iload_n X 3 d_T_far_31 rfl ?_
        refine v_callV X (b := m) (k := 0) (n := 0) (n9 := 1) (As := [.int (nI i)]) (rest := [.long (f_T_down ((gF j) + (gY j)) 2)]) (wc := [(m, .inr (5, (.int (nI tS) :: .int tD :: .int tE :: .long tN :: .int (bI tA) :: .long tL :: .ref aK :: .ref aP :: .ref aQ :: .ref aT :: .ref aW :: .ref aO :: .ref aM :: .ref aL :: .ref aH :: .ref aI :: .ref aS :: .ref aR :: .ref aX :: .ref aF :: .ref aY :: .ref aJ :: .long tl :: .long tg :: .int (bI tB) :: .int tM :: .int tb :: .long tv :: .long tw :: .long tT :: .long tr :: .long tm :: .long tf :: .ref aG :: .ref aE :: .ref aU :: []))), (aF, .inl (κ.z 1, 6, .inr (.inl gF))), (aY, .inl (κ.z 1, 6, .inr (.inl gY)))]) (wr := [(aJ, .inl (κ.z 2, 6, .inl (aB gN)))]) (c_T_middle κ.l κ.D κ.z m tS tD tE tN tA tL aK aP aQ aT aW aO aM aL aH aI aS aR aX aF aY aJ tl tg tB tM tb tv tw tT tr tm tf aG aE aU gF gY i (by omega)) 0 rfl rfl m583 m584 m26 m36 (by decide +kernel) rfl (Nat.le_of_ble_eq_true rfl) ⟨by decide, by decide⟩ ⟨by decide, by decide⟩ rfl rfl m585 d_T_far_32 (fun v w1 hg => ?_)
        obtain ⟨rfl, rfl⟩ := hg
        show V κ 7 0 0 35 [(4, .int (nI j)), (2, .long (faS gF gY gN i j)), (0, .ref m), (1, .int (nI i))] [.long (f_T_down ((gF i) + (gY i)) 2), .long (f_T_down ((gF j) + (gY j)) 2)] [(m, .inr (5, (.int (nI tS) :: .int tD :: .int tE :: .long tN :: .int (bI tA) :: .long tL :: .ref aK :: .ref aP :: .ref aQ :: .ref aT :: .ref aW :: .ref aO :: .ref aM :: .ref aL :: .ref aH :: .ref aI :: .ref aS :: .ref aR :: .ref aX :: .ref aF :: .ref aY :: .ref aJ :: .long tl :: .long tg :: .int (bI tB) :: .int tM :: .int tb :: .long tv :: .long tw :: .long tT :: .long tr :: .long tm :: .long tf :: .ref aG :: .ref aE :: .ref aU :: []))), (aF, .inl (κ.z 1, 6, .inr (.inl gF))), (aY, .inl (κ.z 1, 6, .inr (.inl gY))), (aJ, .inl (κ.z 2, 6, .inl (aB gN)))]
        refine v_lsub X d_T_far_35 ?_
        refine v_lstore X d_T_far_36 (by decide) (lv' := [(5, .long ((f_T_down ((gF j) + (gY j)) 2) - (f_T_down ((gF i) + (gY i)) 2))), (4, .int (nI j)), (2, .long (faS gF gY gN i j)), (0, .ref m), (1, .int (nI i))]) rfl ?_
        refine v_lload_n X 2 d_T_far_38 rfl ?_
        refine v_lload X 0 d_T_far_39 rfl ?_
        refine v_lconst X 0 d_T_far_41 (by decide) ?_
        suffices hm42 : V κ 7 0 0 54 [(5, .long ((f_T_down ((gF j) + (gY j)) 2) - (f_T_down ((gF i) + (gY i)) 2))), (4, .int (nI j)), (2, .long (faS gF gY gN i j)), (0, .ref m), (1, .int (nI i))] [.long (if 0 ≤ ((f_T_down ((gF j) + (gY j)) 2) - (f_T_down ((gF i) + (gY i)) 2)) then (f_T_down ((gF j) + (gY j)) 2) - (f_T_down ((gF i) + (gY i)) 2) else -((f_T_down ((gF j) + (gY j)) 2) - (f_T_down ((gF i) + (gY i)) 2))), .long (faS gF gY gN i j)] [(m, .inr (5, (.int (nI tS) :: .int tD :: .int tE :: .long tN :: .int (bI tA) :: .long tL :: .ref aK :: .ref aP :: .ref aQ :: .ref aT :: .ref aW :: .ref aO :: .ref aM :: .ref aL :: .ref aH :: .ref aI :: .ref aS :: .ref aR :: .ref aX :: .ref aF :: .ref aY :: .ref aJ :: .long tl :: .long tg :: .int (bI tB) :: .int tM :: .int tb :: .long tv :: .long tw :: .long tT :: .long tr :: .long tm :: .long tf :: .ref aG :: .ref aE :: .ref aU :: []))), (aF, .inl (κ.z 1, 6, .inr (.inl gF))), (aY, .inl (κ.z 1, 6, .inr (.inl gY))), (aJ, .inl (κ.z 2, 6, .inl (aB gN)))] by
          refine v_lcmp_ge X 52 d_T_far_42 d_T_far_43 (by decide) (fun c42 => ?_) (fun c42 => ?_)
          · skip
            refine v_lload X 0 d_T_far_52 rfl ?_
            have h9 := hm42; simp only [if_pos c42] at h9; first | exact h9 | (simp only [if_pos c42]; exact h9)
          · skip
            refine v_lload X 0 d_T_far_46 rfl ?_
            refine v_lneg X d_T_far_48 ?_
            refine v_goto X 54 d_T_far_49 (by decide) ?_
            have h9 := hm42; simp only [if_neg c42] at h9; first | exact h9 | (simp only [if_neg c42]; exact h9)
        refine v_ladd X d_T_far_54 ?_
        refine v_lstore_n X d_T_far_55 rfl (by decide) (lv' := [(2, .long ((faS gF gY gN i j) + (if 0 ≤ ((f_T_down ((gF j) + (gY j)) 2) - (f_T_down ((gF i) + (gY i)) 2)) then (f_T_down ((gF j) + (gY j)) 2) - (f_T_down ((gF i) + (gY i)) 2) else -((f_T_down ((gF j) + (gY j)) 2) - (f_T_down ((gF i) + (gY i)) 2))))), (5, .long ((f_T_down ((gF j) + (gY j)) 2) - (f_T_down ((gF i) + (gY i)) 2))), (4, .int (nI j)), (0, .ref m), (1, .int (nI i))]) rfl ?_
        refine v_lv [2, 0, 3, 4] rfl ?_
        have h9 := hm21; simp only [if_pos c21] at h9; first | exact h9 | (simp only [if_pos c21]; exact h9)
    refine v_iinc X 0 d_T_far_56 (x := nI j) rfl (v := nI (j + 1)) (nI_1 _) (by decide) (lv' := [(4, .int (nI (j + 1))), (2, .long (if (gN j) = true then (faS gF gY gN i j) + (if 0 ≤ ((f_T_down ((gF j) + (gY j)) 2) - (f_T_down ((gF i) + (gY i)) 2)) then (f_T_down ((gF j) + (gY j)) 2) - (f_T_down ((gF i) + (gY i)) 2) else -((f_T_down ((gF j) + (gY j)) 2) - (f_T_down ((gF i) + (gY i)) 2))) else faS gF gY gN i j)), (0, .ref m), (1, .int (nI i))]) rfl ?_
    refine v_goto X 5 d_T_far_59 (by decide) ?_
    exact v_eq rfl (by rfl) rfl (by rfl) (ih (j + 1) (by omega))

set_option maxHeartbeats 4000000 in
set_option maxRecDepth 100000 in
theorem c_T_far (l : Launch) (D : va_G) (z : Nat → ClassId) (m : Nat) (tS : Nat) (tD : Int32) (tE : Int32) (tN : Int64) (tA : Bool) (tL : Int64) (aK : Nat) (aP : Nat) (aQ : Nat) (aT : Nat) (aW : Nat) (aO : Nat) (aM : Nat) (aL : Nat) (aH : Nat) (aI : Nat) (aS : Nat) (aR : Nat) (aX : Nat) (aF : Nat) (aY : Nat) (aJ : Nat) (tl : Int64) (tg : Int64) (tB : Bool) (tM : Int32) (tb : Int32) (tv : Int64) (tw : Int64) (tT : Int64) (tr : Int64) (tm : Int64) (tf : Int64) (aG : Nat) (aE : Nat) (aU : Nat) (gF : Nat → Int64) (gY : Nat → Int64) (gN : Nat → Bool) (i : Nat) (h6 : tS ≤ 6) (hi6 : i < 6) : Ctr l D z y_T_far b_T_far 7 (some .long) { frames := 2, cells := 0, slots := 0, locals := 46 } [.ref m, .int (nI i)] [(m, .inr (5, (.int (nI tS) :: .int tD :: .int tE :: .long tN :: .int (bI tA) :: .long tL :: .ref aK :: .ref aP :: .ref aQ :: .ref aT :: .ref aW :: .ref aO :: .ref aM :: .ref aL :: .ref aH :: .ref aI :: .ref aS :: .ref aR :: .ref aX :: .ref aF :: .ref aY :: .ref aJ :: .long tl :: .long tg :: .int (bI tB) :: .int tM :: .int tb :: .long tv :: .long tw :: .long tT :: .long tr :: .long tm :: .long tf :: .ref aG :: .ref aE :: .ref aU :: []))), (aF, .inl (z 1, 6, .inr (.inl gF))), (aY, .inl (z 1, 6, .inr (.inl gY))), (aJ, .inl (z 2, 6, .inl (aB gN)))] (fun v w => v = some (.long (faS gF gY gN i tS)) ∧ w = [(m, .inr (5, (.int (nI tS) :: .int tD :: .int tE :: .long tN :: .int (bI tA) :: .long tL :: .ref aK :: .ref aP :: .ref aQ :: .ref aT :: .ref aW :: .ref aO :: .ref aM :: .ref aL :: .ref aH :: .ref aI :: .ref aS :: .ref aR :: .ref aX :: .ref aF :: .ref aY :: .ref aJ :: .long tl :: .long tg :: .int (bI tB) :: .int tM :: .int tb :: .long tv :: .long tw :: .long tT :: .long tr :: .long tm :: .long tf :: .ref aG :: .ref aE :: .ref aU :: []))), (aF, .inl (z 1, 6, .inr (.inl gF))), (aY, .inl (z 1, 6, .inr (.inl gY))), (aJ, .inl (z 2, 6, .inl (aB gN)))]) 0 0 := by
  refine met_V (own := R_T) (nm := "far") (by decide +kernel) rfl rfl (Nat.le_of_ble_eq_true rfl) ?_
  intro κ hl hD hz X Y
  subst hl
  subst hD
  subst hz
  show V κ 7 0 0 0 [(0, .ref m), (1, .int (nI i))] [] [(m, .inr (5, (.int (nI tS) :: .int tD :: .int tE :: .long tN :: .int (bI tA) :: .long tL :: .ref aK :: .ref aP :: .ref aQ :: .ref aT :: .ref aW :: .ref aO :: .ref aM :: .ref aL :: .ref aH :: .ref aI :: .ref aS :: .ref aR :: .ref aX :: .ref aF :: .ref aY :: .ref aJ :: .long tl :: .long tg :: .int (bI tB) :: .int tM :: .int tb :: .long tv :: .long tw :: .long tT :: .long tr :: .long tm :: .long tf :: .ref aG :: .ref aE :: .ref aU :: []))), (aF, .inl (κ.z 1, 6, .inr (.inl gF))), (aY, .inl (κ.z 1, 6, .inr (.inl gY))), (aJ, .inl (κ.z 2, 6, .inl (aB gN)))]
  refine v_lconst X 0 d_T_far_0 (by decide) ?_
  refine v_lstore_n X d_T_far_1 rfl (by decide) (lv' := [(2, .long 0), (0, .ref m), (1, .int (nI i))]) rfl ?_
  refine v_iconst X 0 d_T_far_2 (by decide) ?_
  refine v_istore X d_T_far_3 (by decide) (lv' := [(4, .int 0), (2, .long 0), (0, .ref m), (1, .int (nI i))]) rfl ?_
  show V κ 7 0 0 5 [(4, .int (nI 0)), (2, .long (faS gF gY gN i 0)), (0, .ref m), (1, .int (nI i))] [] [(m, .inr (5, (.int (nI tS) :: .int tD :: .int tE :: .long tN :: .int (bI tA) :: .long tL :: .ref aK :: .ref aP :: .ref aQ :: .ref aT :: .ref aW :: .ref aO :: .ref aM :: .ref aL :: .ref aH :: .ref aI :: .ref aS :: .ref aR :: .ref aX :: .ref aF :: .ref aY :: .ref aJ :: .long tl :: .long tg :: .int (bI tB) :: .int tM :: .int tb :: .long tv :: .long tw :: .long tT :: .long tr :: .long tm :: .long tf :: .ref aG :: .ref aE :: .ref aU :: []))), (aF, .inl (κ.z 1, 6, .inr (.inl gF))), (aY, .inl (κ.z 1, 6, .inr (.inl gY))), (aJ, .inl (κ.z 2, 6, .inl (aB gN)))]
  refine lp_T_far X m tS tD tE tN tA tL aK aP aQ aT aW aO aM aL aH aI aS aR aX aF aY aJ tl tg tB tM tb tv tw tT tr tm tf aG aE aU gF gY gN i (by omega) (by omega)  ?_ (tS - 0) 0 (by omega)
  show V κ 7 0 0 62 [(4, .int (nI tS)), (2, .long (faS gF gY gN i tS)), (0, .ref m), (1, .int (nI i))] [] [(m, .inr (5, (.int (nI tS) :: .int tD :: .int tE :: .long tN :: .int (bI tA) :: .long tL :: .ref aK :: .ref aP :: .ref aQ :: .ref aT :: .ref aW :: .ref aO :: .ref aM :: .ref aL :: .ref aH :: .ref aI :: .ref aS :: .ref aR :: .ref aX :: .ref aF :: .ref aY :: .ref aJ :: .long tl :: .long tg :: .int (bI tB) :: .int tM :: .int tb :: .long tv :: .long tw :: .long tT :: .long tr :: .long tm :: .long tf :: .ref aG :: .ref aE :: .ref aU :: []))), (aF, .inl (κ.z 1, 6, .inr (.inl gF))), (aY, .inl (κ.z 1, 6, .inr (.inl gY))), (aJ, .inl (κ.z 2, 6, .inl (aB gN)))]
  refine v_lload_n X 1 d_T_far_62 rfl ?_
  exact v_lret X Y (by decide) (by decide) d_T_far_63 ⟨rfl, rfl⟩

def leS (tS : Nat) (gF : Nat → Int64) (gY : Nat → Int64) (gN : Nat → Bool) : Nat → Int32 × Int64
  | 0 => ((-1), (-1))
  | j + 1 => (if (gN j) = true then (if (if (gN j) = true then faS gF gY gN j tS else (-1)) < ((leS tS gF gY gN j).2) then ((leS tS gF gY gN j).1) else (nI j)) else ((leS tS gF gY gN j).1), if (gN j) = true then if (if (gN j) = true then faS gF gY gN j tS else (-1)) < ((leS tS gF gY gN j).2) then ((leS tS gF gY gN j).2) else if (gN j) = true then faS gF gY gN j tS else (-1) else ((leS tS gF gY gN j).2))
set_option maxHeartbeats 4000000 in
set_option maxRecDepth 100000 in
theorem lp_leave {κ : VC} (X : Cx κ b_T_leave R_T { frames := 3, cells := 0, slots := 0, locals := 72 } 7) (m : Nat) (tS : Nat) (tD : Int32) (tE : Int32) (tN : Int64) (tA : Bool) (tL : Int64) (aK : Nat) (aP : Nat) (aQ : Nat) (aT : Nat) (aW : Nat) (aO : Nat) (aM : Nat) (aL : Nat) (aH : Nat) (aI : Nat) (aS : Nat) (aR : Nat) (aX : Nat) (aF : Nat) (aY : Nat) (aJ : Nat) (tl : Int64) (tg : Int64) (tB : Bool) (tM : Int32) (tb : Int32) (tv : Int64) (tw : Int64) (tT : Int64) (tr : Int64) (tm : Int64) (tf : Int64) (aG : Nat) (aE : Nat) (aU : Nat) (gF : Nat → Int64) (gY : Nat → Int64) (gN : Nat → Bool) (h6 : tS ≤ 6)  (kk : V κ 7 0 0 71 [(4, .int (nI tS)), (2, .long ((leS tS gF gY gN tS).2)), (1, .int ((leS tS gF gY gN tS).1)), (0, .ref m)] [] [(m, .inr (5, (.int (nI tS) :: .int tD :: .int tE :: .long tN :: .int (bI tA) :: .long tL :: .ref aK :: .ref aP :: .ref aQ :: .ref aT :: .ref aW :: .ref aO :: .ref aM :: .ref aL :: .ref aH :: .ref aI :: .ref aS :: .ref aR :: .ref aX :: .ref aF :: .ref aY :: .ref aJ :: .long tl :: .long tg :: .int (bI tB) :: .int tM :: .int tb :: .long tv :: .long tw :: .long tT :: .long tr :: .long tm :: .long tf :: .ref aG :: .ref aE :: .ref aU :: []))), (aF, .inl (κ.z 1, 6, .inr (.inl gF))), (aY, .inl (κ.z 1, 6, .inr (.inl gY))), (aJ, .inl (κ.z 2, 6, .inl (aB gN)))]) : ∀ (d9 j : Nat), j + d9 = tS → V κ 7 0 0 9 [(4, .int (nI j)), (2, .long ((leS tS gF gY gN j).2)), (1, .int ((leS tS gF gY gN j).1)), (0, .ref m)] [] [(m, .inr (5, (.int (nI tS) :: .int tD :: .int tE :: .long tN :: .int (bI tA) :: .long tL :: .ref aK :: .ref aP :: .ref aQ :: .ref aT :: .ref aW :: .ref aO :: .ref aM :: .ref aL :: .ref aH :: .ref aI :: .ref aS :: .ref aR :: .ref aX :: .ref aF :: .ref aY :: .ref aJ :: .long tl :: .long tg :: .int (bI tB) :: .int tM :: .int tb :: .long tv :: .long tw :: .long tT :: .long tr :: .long tm :: .long tf :: .ref aG :: .ref aE :: .ref aU :: []))), (aF, .inl (κ.z 1, 6, .inr (.inl gF))), (aY, .inl (κ.z 1, 6, .inr (.inl gY))), (aJ, .inl (κ.z 2, 6, .inl (aB gN)))] := by
  intro d9
  induction d9 with
  | zero =>
    intro j hj 
    have e9 : j = tS := by omega
    rw [e9]
    show V κ 7 0 0 9 [(4, .int (nI tS)), (2, .long ((leS tS gF gY gN tS).2)), (1, .int ((leS tS gF gY gN tS).1)), (0, .ref m)] [] [(m, .inr (5, (.int (nI tS) :: .int tD :: .int tE :: .long tN :: .int (bI tA) :: .long tL :: .ref aK :: .ref aP :: .ref aQ :: .ref aT :: .ref aW :: .ref aO :: .ref aM :: .ref aL :: .ref aH :: .ref aI :: .ref aS :: .ref aR :: .ref aX :: .ref aF :: .ref aY :: .ref aJ :: .long tl :: .long tg :: .int (bI tB) :: .int tM :: .int tb :: .long tv :: .long tw :: .long tT :: .long tr :: .long tm :: .long tf :: .ref aG :: .ref aE :: .ref aU :: []))), (aF, .inl (κ.z 1, 6, .inr (.inl gF))), (aY, .inl (κ.z 1, 6, .inr (.inl gY))), (aJ, .inl (κ.z 2, 6, .inl (aB gN)))]
    refine v_iload X 0 d_T_leave_9 rfl ?_
    refine v_aload_n X 3 d_T_leave_11 rfl ?_
    refine v_get X 0 0 rfl rfl li_T (by decide) m427 rfl d_T_leave_12 ?_
    refine v_icmpN_ge X 71 (a := tS) (b := tS) d_T_leave_15 (by decide) (by omega) (by omega) (fun c15 => ?_) (fun c15 => by omega)
    exact kk
  | succ d9 ih =>
    intro j hj 
    show V κ 7 0 0 9 [(4, .int (nI j)), (2, .long ((leS tS gF gY gN j).2)), (1, .int ((leS tS gF gY gN j).1)), (0, .ref m)] [] [(m, .inr (5, (.int (nI tS) :: .int tD :: .int tE :: .long tN :: .int (bI tA) :: .long tL :: .ref aK :: .ref aP :: .ref aQ :: .ref aT :: .ref aW :: .ref aO :: .ref aM :: .ref aL :: .ref aH :: .ref aI :: .ref aS :: .ref aR :: .ref aX :: .ref aF :: .ref aY :: .ref aJ :: .long tl :: .long tg :: .int (bI tB) :: .int tM :: .int tb :: .long tv :: .long tw :: .long tT :: .long tr :: .long tm :: .long tf :: .ref aG :: .ref aE :: .ref aU :: []))), (aF, .inl (κ.z 1, 6, .inr (.inl gF))), (aY, .inl (κ.z 1, 6, .inr (.inl gY))), (aJ, .inl (κ.z 2, 6, .inl (aB gN)))]
    refine v_iload X 0 d_T_leave_9 rfl ?_
    refine v_aload_n X 3 d_T_leave_11 rfl ?_
    refine v_get X 0 0 rfl rfl li_T (by decide) m427 rfl d_T_leave_12 ?_
    refine v_icmpN_ge X 71 (a := j) (b := tS) d_T_leave_15 (by decide) (by omega) (by omega) (fun c15 => by omega) (fun c15 => ?_)
    refine v_aload_n X 3 d_T_leave_18 rfl ?_
    refine v_get X 0 21 rfl rfl li_T (by decide) m448 rfl d_T_leave_19 ?_
    refine v_iload X 0 d_T_leave_22 rfl ?_
    refine v_zaldN X 3 2 (j := j) rfl rfl (by omega) (by omega) d_T_leave_24 ?_
    suffices hm25 : V κ 7 0 0 40 [(4, .int (nI j)), (2, .long ((leS tS gF gY gN j).2)), (1, .int ((leS tS gF gY gN j).1)), (0, .ref m)] [.long (if (gN j) = true then faS gF gY gN j tS else (-1))] [(m, .inr (5, (.int (nI tS) :: .int tD :: .int tE :: .long tN :: .int (bI tA) :: .long tL :: .ref aK :: .ref aP :: .ref aQ :: .ref aT :: .ref aW :: .ref aO :: .ref aM :: .ref aL :: .ref aH :: .ref aI :: .ref aS :: .ref aR :: .ref aX :: .ref aF :: .ref aY :: .ref aJ :: .long tl :: .long tg :: .int (bI tB) :: .int tM :: .int tb :: .long tv :: .long tw :: .long tT :: .long tr :: .long tm :: .long tf :: .ref aG :: .ref aE :: .ref aU :: []))), (aF, .inl (κ.z 1, 6, .inr (.inl gF))), (aY, .inl (κ.z 1, 6, .inr (.inl gY))), (aJ, .inl (κ.z 2, 6, .inl (aB gN)))] by
      refine v_ifB_eq X 37 (t := gN j) d_T_leave_25 (by decide) (fun c25 => ?_) (fun c25 => ?_)
      · skip
        refine v_ldc2 X (v := (-1)) m579 d_T_leave_37 ?_
        have h9 := hm25; simp only [if_neg c25] at h9; first | exact h9 | (simp only [if_neg c25]; exact h9)
      · skip
        refine v_aload_n X 3 d_T_leave_28 rfl ?_
        refine v_iload X 0 d_T_leave_29 rfl ?_
        refine v_callV X (b := m) (k := 0) (n := 0) (n9 := 1) (As := [.int (nI j)]) (rest := []) (wc := [(m, .inr (5, (.int (nI tS) :: .int tD :: .int tE :: .long tN :: .int (bI tA) :: .long tL :: .ref aK :: .ref aP :: .ref aQ :: .ref aT :: .ref aW :: .ref aO :: .ref aM :: .ref aL :: .ref aH :: .ref aI :: .ref aS :: .ref aR :: .ref aX :: .ref aF :: .ref aY :: .ref aJ :: .long tl :: .long tg :: .int (bI tB) :: .int tM :: .int tb :: .long tv :: .long tw :: .long tT :: .long tr :: .long tm :: .long tf :: .ref aG :: .ref aE :: .ref aU :: []))), (aF, .inl (κ.z 1, 6, .inr (.inl gF))), (aY, .inl (κ.z 1, 6, .inr (.inl gY))), (aJ, .inl (κ.z 2, 6, .inl (aB gN)))]) (wr := []) (c_T_far κ.l κ.D κ.z m tS tD tE tN tA tL aK aP aQ aT aW aO aM aL aH aI aS aR aX aF aY aJ tl tg tB tM tb tv tw tT tr tm tf aG aE aU gF gY gN j (by omega) (by omega)) 0 rfl rfl m580 m581 m25 m36 (by decide +kernel) rfl (Nat.le_of_ble_eq_true rfl) ⟨by decide, by decide⟩ ⟨by decide, by decide⟩ rfl rfl m582 d_T_leave_31 (fun v w1 hg => ?_)
        obtain ⟨rfl, rfl⟩ := hg
        show V κ 7 0 0 34 [(4, .int (nI j)), (2, .long ((leS tS gF gY gN j).2)), (1, .int ((leS tS gF gY gN j).1)), (0, .ref m)] [.long (faS gF gY gN j tS)] [(m, .inr (5, (.int (nI tS) :: .int tD :: .int tE :: .long tN :: .int (bI tA) :: .long tL :: .ref aK :: .ref aP :: .ref aQ :: .ref aT :: .ref aW :: .ref aO :: .ref aM :: .ref aL :: .ref aH :: .ref aI :: .ref aS :: .ref aR :: .ref aX :: .ref aF :: .ref aY :: .ref aJ :: .long tl :: .long tg :: .int (bI tB) :: .int tM :: .int tb :: .long tv :: .long tw :: .long tT :: .long tr :: .long tm :: .long tf :: .ref aG :: .ref aE :: .ref aU :: []))), (aF, .inl (κ.z 1, 6, .inr (.inl gF))), (aY, .inl (κ.z 1, 6, .inr (.inl gY))), (aJ, .inl (κ.z 2, 6, .inl (aB gN)))]
        refine v_goto X 40 d_T_leave_34 (by decide) ?_
        have h9 := hm25; simp only [if_pos c25] at h9; first | exact h9 | (simp only [if_pos c25]; exact h9)
    refine v_lstore X d_T_leave_40 (by decide) (lv' := [(5, .long (if (gN j) = true then faS gF gY gN j tS else (-1))), (4, .int (nI j)), (2, .long ((leS tS gF gY gN j).2)), (1, .int ((leS tS gF gY gN j).1)), (0, .ref m)]) rfl ?_
    refine v_aload_n X 4 d_T_leave_42 rfl ?_
    refine v_get X 0 21 rfl rfl li_T (by decide) m448 rfl d_T_leave_43 ?_
    refine v_iload X 1 d_T_leave_46 rfl ?_
    refine v_zaldN X 3 2 (j := j) rfl rfl (by omega) (by omega) d_T_leave_48 ?_
    show V κ 7 0 0 49 [(5, .long (if (gN j) = true then faS gF gY gN j tS else (-1))), (4, .int (nI j)), (2, .long ((leS tS gF gY gN j).2)), (1, .int ((leS tS gF gY gN j).1)), (0, .ref m)] [.int (bI (gN j))] [(m, .inr (5, (.int (nI tS) :: .int tD :: .int tE :: .long tN :: .int (bI tA) :: .long tL :: .ref aK :: .ref aP :: .ref aQ :: .ref aT :: .ref aW :: .ref aO :: .ref aM :: .ref aL :: .ref aH :: .ref aI :: .ref aS :: .ref aR :: .ref aX :: .ref aF :: .ref aY :: .ref aJ :: .long tl :: .long tg :: .int (bI tB) :: .int tM :: .int tb :: .long tv :: .long tw :: .long tT :: .long tr :: .long tm :: .long tf :: .ref aG :: .ref aE :: .ref aU :: []))), (aF, .inl (κ.z 1, 6, .inr (.inl gF))), (aY, .inl (κ.z 1, 6, .inr (.inl gY))), (aJ, .inl (κ.z 2, 6, .inl (aB gN)))]
    suffices hm49 : V κ 7 0 0 65 [(5, .long (if (gN j) = true then faS gF gY gN j tS else (-1))), (4, .int (nI j)), (2, .long (if (gN j) = true then if (if (gN j) = true then faS gF gY gN j tS else (-1)) < ((leS tS gF gY gN j).2) then (leS tS gF gY gN j).2 else if (gN j) = true then faS gF gY gN j tS else (-1) else (leS tS gF gY gN j).2)), (1, .int (if (gN j) = true then (if (if (gN j) = true then faS gF gY gN j tS else (-1)) < ((leS tS gF gY gN j).2) then ((leS tS gF gY gN j).1) else (nI j)) else ((leS tS gF gY gN j).1))), (0, .ref m)] [] [(m, .inr (5, (.int (nI tS) :: .int tD :: .int tE :: .long tN :: .int (bI tA) :: .long tL :: .ref aK :: .ref aP :: .ref aQ :: .ref aT :: .ref aW :: .ref aO :: .ref aM :: .ref aL :: .ref aH :: .ref aI :: .ref aS :: .ref aR :: .ref aX :: .ref aF :: .ref aY :: .ref aJ :: .long tl :: .long tg :: .int (bI tB) :: .int tM :: .int tb :: .long tv :: .long tw :: .long tT :: .long tr :: .long tm :: .long tf :: .ref aG :: .ref aE :: .ref aU :: []))), (aF, .inl (κ.z 1, 6, .inr (.inl gF))), (aY, .inl (κ.z 1, 6, .inr (.inl gY))), (aJ, .inl (κ.z 2, 6, .inl (aB gN)))] by
      refine v_ifB_eq X 65 (t := gN j) d_T_leave_49 (by decide) (fun c49 => ?_) (fun c49 => ?_)
      · skip
        have h9 := hm49; simp only [if_neg c49] at h9; first | exact h9 | (simp only [if_neg c49]; exact h9)
      · skip
        refine v_lload X 0 d_T_leave_52 rfl ?_
        refine v_lload_n X 2 d_T_leave_54 rfl ?_
        suffices hm55 : V κ 7 0 0 65 [(5, .long (if (gN j) = true then faS gF gY gN j tS else (-1))), (4, .int (nI j)), (2, .long (if (if (gN j) = true then faS gF gY gN j tS else (-1)) < ((leS tS gF gY gN j).2) then (leS tS gF gY gN j).2 else if (gN j) = true then faS gF gY gN j tS else (-1))), (1, .int (if (if (gN j) = true then faS gF gY gN j tS else (-1)) < ((leS tS gF gY gN j).2) then ((leS tS gF gY gN j).1) else (nI j))), (0, .ref m)] [] [(m, .inr (5, (.int (nI tS) :: .int tD :: .int tE :: .long tN :: .int (bI tA) :: .long tL :: .ref aK :: .ref aP :: .ref aQ :: .ref aT :: .ref aW :: .ref aO :: .ref aM :: .ref aL :: .ref aH :: .ref aI :: .ref aS :: .ref aR :: .ref aX :: .ref aF :: .ref aY :: .ref aJ :: .long tl :: .long tg :: .int (bI tB) :: .int tM :: .int tb :: .long tv :: .long tw :: .long tT :: .long tr :: .long tm :: .long tf :: .ref aG :: .ref aE :: .ref aU :: []))), (aF, .inl (κ.z 1, 6, .inr (.inl gF))), (aY, .inl (κ.z 1, 6, .inr (.inl gY))), (aJ, .inl (κ.z 2, 6, .inl (aB gN)))] by
          refine v_lcmp_lt X 65 d_T_leave_55 d_T_leave_56 (by decide) (fun c55 => ?_) (fun c55 => ?_)
          · skip
            have h9 := hm55; simp only [if_pos c55] at h9; first | exact h9 | (simp only [if_pos c55]; exact h9)
          · skip
            refine v_lload X 0 d_T_leave_59 rfl ?_
            refine v_lstore_n X d_T_leave_61 rfl (by decide) (lv' := [(2, .long (if (gN j) = true then faS gF gY gN j tS else (-1))), (5, .long (if (gN j) = true then faS gF gY gN j tS else (-1))), (4, .int (nI j)), (1, .int ((leS tS gF gY gN j).1)), (0, .ref m)]) rfl ?_
            refine v_iload X 2 d_T_leave_62 rfl ?_
            refine v_istore_n X d_T_leave_64 rfl (by decide) (lv' := [(1, .int (nI j)), (2, .long (if (gN j) = true then faS gF gY gN j tS else (-1))), (5, .long (if (gN j) = true then faS gF gY gN j tS else (-1))), (4, .int (nI j)), (0, .ref m)]) rfl ?_
            refine v_lv [2, 3, 1, 0, 4] rfl ?_
            have h9 := hm55; simp only [if_neg c55] at h9; first | exact h9 | (simp only [if_neg c55]; exact h9)
        have h9 := hm49; simp only [if_pos c49] at h9; first | exact h9 | (simp only [if_pos c49]; exact h9)
    refine v_iinc X 1 d_T_leave_65 (x := nI j) rfl (v := nI (j + 1)) (nI_1 _) (by decide) (lv' := [(4, .int (nI (j + 1))), (5, .long (if (gN j) = true then faS gF gY gN j tS else (-1))), (2, .long (if (gN j) = true then if (if (gN j) = true then faS gF gY gN j tS else (-1)) < ((leS tS gF gY gN j).2) then (leS tS gF gY gN j).2 else if (gN j) = true then faS gF gY gN j tS else (-1) else (leS tS gF gY gN j).2)), (1, .int (if (gN j) = true then (if (if (gN j) = true then faS gF gY gN j tS else (-1)) < ((leS tS gF gY gN j).2) then ((leS tS gF gY gN j).1) else (nI j)) else ((leS tS gF gY gN j).1))), (0, .ref m)]) rfl ?_
    refine v_goto X 9 d_T_leave_68 (by decide) ?_
    refine v_lv [0, 2, 3, 4] rfl ?_
    exact v_eq rfl (by rfl) rfl (by rfl) (ih (j + 1) (by omega))

theorem leS_in (tS : Nat) (gF : Nat → Int64) (gY : Nat → Int64) (gN : Nat → Bool) : ∀ n : Nat, n ≤ 6 → ((leS tS gF gY gN n).1 = -1 ∨ vp_in (leS tS gF gY gN n).1 n)
  | 0, _ => Or.inl rfl
  | n + 1, h => by
    have h9 := leS_in tS gF gY gN n (by omega)
    have h8 : vp_in (nI n) (n + 1) := vp_in_nI (by omega) (by omega)
    have h7 : ∀ x : Int32, (x = -1 ∨ vp_in x n) → (x = -1 ∨ vp_in x (n + 1)) := fun x hx => hx.elim Or.inl (fun q => Or.inr (fun w => q (w.elim Or.inl (fun w => Or.inr (by omega)))))
    unfold leS
    dsimp only
    repeat' split
    all_goals first | exact h7 _ h9 | exact Or.inr h8

def f_T_leave_r3 (tS : Nat) (gF : Nat → Int64) (gY : Nat → Int64) (gN : Nat → Bool) : Nat → Bool := if ((leS tS gF gY gN tS).1) < 0 then gN else va_up gN ((leS tS gF gY gN tS).1).toNatClampNeg false
set_option maxHeartbeats 4000000 in
set_option maxRecDepth 100000 in
theorem c_T_leave (l : Launch) (D : va_G) (z : Nat → ClassId) (m : Nat) (tS : Nat) (tD : Int32) (tE : Int32) (tN : Int64) (tA : Bool) (tL : Int64) (aK : Nat) (aP : Nat) (aQ : Nat) (aT : Nat) (aW : Nat) (aO : Nat) (aM : Nat) (aL : Nat) (aH : Nat) (aI : Nat) (aS : Nat) (aR : Nat) (aX : Nat) (aF : Nat) (aY : Nat) (aJ : Nat) (tl : Int64) (tg : Int64) (tB : Bool) (tM : Int32) (tb : Int32) (tv : Int64) (tw : Int64) (tT : Int64) (tr : Int64) (tm : Int64) (tf : Int64) (aG : Nat) (aE : Nat) (aU : Nat) (gF : Nat → Int64) (gY : Nat → Int64) (gN : Nat → Bool) (h6 : tS ≤ 6) : Ctr l D z y_T_leave b_T_leave 7 none { frames := 3, cells := 0, slots := 0, locals := 72 } [.ref m] [(m, .inr (5, (.int (nI tS) :: .int tD :: .int tE :: .long tN :: .int (bI tA) :: .long tL :: .ref aK :: .ref aP :: .ref aQ :: .ref aT :: .ref aW :: .ref aO :: .ref aM :: .ref aL :: .ref aH :: .ref aI :: .ref aS :: .ref aR :: .ref aX :: .ref aF :: .ref aY :: .ref aJ :: .long tl :: .long tg :: .int (bI tB) :: .int tM :: .int tb :: .long tv :: .long tw :: .long tT :: .long tr :: .long tm :: .long tf :: .ref aG :: .ref aE :: .ref aU :: []))), (aF, .inl (z 1, 6, .inr (.inl gF))), (aY, .inl (z 1, 6, .inr (.inl gY))), (aJ, .inl (z 2, 6, .inl (aB gN)))] (fun v w => v = none ∧ w = [(m, .inr (5, (.int (nI tS) :: .int tD :: .int tE :: .long tN :: .int (bI tA) :: .long tL :: .ref aK :: .ref aP :: .ref aQ :: .ref aT :: .ref aW :: .ref aO :: .ref aM :: .ref aL :: .ref aH :: .ref aI :: .ref aS :: .ref aR :: .ref aX :: .ref aF :: .ref aY :: .ref aJ :: .long tl :: .long tg :: .int (bI tB) :: .int tM :: .int tb :: .long tv :: .long tw :: .long tT :: .long tr :: .long tm :: .long tf :: .ref aG :: .ref aE :: .ref aU :: []))), (aF, .inl (z 1, 6, .inr (.inl gF))), (aY, .inl (z 1, 6, .inr (.inl gY))), (aJ, .inl (z 2, 6, .inl (aB (f_T_leave_r3 tS gF gY gN))))]) 0 0 := by
  refine met_V (own := R_T) (nm := "leave") (by decide +kernel) rfl rfl (Nat.le_of_ble_eq_true rfl) ?_
  intro κ hl hD hz X Y
  subst hl
  subst hD
  subst hz
  show V κ 7 0 0 0 [(0, .ref m)] [] [(m, .inr (5, (.int (nI tS) :: .int tD :: .int tE :: .long tN :: .int (bI tA) :: .long tL :: .ref aK :: .ref aP :: .ref aQ :: .ref aT :: .ref aW :: .ref aO :: .ref aM :: .ref aL :: .ref aH :: .ref aI :: .ref aS :: .ref aR :: .ref aX :: .ref aF :: .ref aY :: .ref aJ :: .long tl :: .long tg :: .int (bI tB) :: .int tM :: .int tb :: .long tv :: .long tw :: .long tT :: .long tr :: .long tm :: .long tf :: .ref aG :: .ref aE :: .ref aU :: []))), (aF, .inl (κ.z 1, 6, .inr (.inl gF))), (aY, .inl (κ.z 1, 6, .inr (.inl gY))), (aJ, .inl (κ.z 2, 6, .inl (aB gN)))]
  refine v_iconst X (-1) d_T_leave_0 (by decide) ?_
  refine v_istore_n X d_T_leave_1 rfl (by decide) (lv' := [(1, .int (-1)), (0, .ref m)]) rfl ?_
  refine v_ldc2 X (v := (-1)) m579 d_T_leave_2 ?_
  refine v_lstore_n X d_T_leave_5 rfl (by decide) (lv' := [(2, .long (-1)), (1, .int (-1)), (0, .ref m)]) rfl ?_
  refine v_iconst X 0 d_T_leave_6 (by decide) ?_
  refine v_istore X d_T_leave_7 (by decide) (lv' := [(4, .int 0), (2, .long (-1)), (1, .int (-1)), (0, .ref m)]) rfl ?_
  show V κ 7 0 0 9 [(4, .int (nI 0)), (2, .long ((leS tS gF gY gN 0).2)), (1, .int ((leS tS gF gY gN 0).1)), (0, .ref m)] [] [(m, .inr (5, (.int (nI tS) :: .int tD :: .int tE :: .long tN :: .int (bI tA) :: .long tL :: .ref aK :: .ref aP :: .ref aQ :: .ref aT :: .ref aW :: .ref aO :: .ref aM :: .ref aL :: .ref aH :: .ref aI :: .ref aS :: .ref aR :: .ref aX :: .ref aF :: .ref aY :: .ref aJ :: .long tl :: .long tg :: .int (bI tB) :: .int tM :: .int tb :: .long tv :: .long tw :: .long tT :: .long tr :: .long tm :: .long tf :: .ref aG :: .ref aE :: .ref aU :: []))), (aF, .inl (κ.z 1, 6, .inr (.inl gF))), (aY, .inl (κ.z 1, 6, .inr (.inl gY))), (aJ, .inl (κ.z 2, 6, .inl (aB gN)))]
  refine lp_leave X m tS tD tE tN tA tL aK aP aQ aT aW aO aM aL aH aI aS aR aX aF aY aJ tl tg tB tM tb tv tw tT tr tm tf aG aE aU gF gY gN (by omega)  ?_ (tS - 0) 0 (by omega)
  show V κ 7 0 0 71 [(4, .int (nI tS)), (2, .long ((leS tS gF gY gN tS).2)), (1, .int ((leS tS gF gY gN tS).1)), (0, .ref m)] [] [(m, .inr (5, (.int (nI tS) :: .int tD :: .int tE :: .long tN :: .int (bI tA) :: .long tL :: .ref aK :: .ref aP :: .ref aQ :: .ref aT :: .ref aW :: .ref aO :: .ref aM :: .ref aL :: .ref aH :: .ref aI :: .ref aS :: .ref aR :: .ref aX :: .ref aF :: .ref aY :: .ref aJ :: .long tl :: .long tg :: .int (bI tB) :: .int tM :: .int tb :: .long tv :: .long tw :: .long tT :: .long tr :: .long tm :: .long tf :: .ref aG :: .ref aE :: .ref aU :: []))), (aF, .inl (κ.z 1, 6, .inr (.inl gF))), (aY, .inl (κ.z 1, 6, .inr (.inl gY))), (aJ, .inl (κ.z 2, 6, .inl (aB gN)))]
  refine v_iload_n X 2 d_T_leave_71 rfl ?_
  suffices hm72 : V κ 7 0 0 82 [(4, .int (nI tS)), (2, .long ((leS tS gF gY gN tS).2)), (1, .int ((leS tS gF gY gN tS).1)), (0, .ref m)] [] [(m, .inr (5, (.int (nI tS) :: .int tD :: .int tE :: .long tN :: .int (bI tA) :: .long tL :: .ref aK :: .ref aP :: .ref aQ :: .ref aT :: .ref aW :: .ref aO :: .ref aM :: .ref aL :: .ref aH :: .ref aI :: .ref aS :: .ref aR :: .ref aX :: .ref aF :: .ref aY :: .ref aJ :: .long tl :: .long tg :: .int (bI tB) :: .int tM :: .int tb :: .long tv :: .long tw :: .long tT :: .long tr :: .long tm :: .long tf :: .ref aG :: .ref aE :: .ref aU :: []))), (aF, .inl (κ.z 1, 6, .inr (.inl gF))), (aY, .inl (κ.z 1, 6, .inr (.inl gY))), (aJ, .inl (κ.z 2, 6, .inl (aB (if ((leS tS gF gY gN tS).1) < 0 then gN else va_up gN ((leS tS gF gY gN tS).1).toNatClampNeg false))))] by
    refine v_if_lt X 82 d_T_leave_72 (by decide) (fun c72 => ?_) (fun c72 => ?_)
    · skip
      have h9 := hm72; simp only [if_pos c72] at h9; first | exact h9 | (simp only [if_pos c72]; exact h9)
    · skip
      refine v_aload_n X 3 d_T_leave_75 rfl ?_
      refine v_get X 0 21 rfl rfl li_T (by decide) m448 rfl d_T_leave_76 ?_
      refine v_iload_n X 2 d_T_leave_79 rfl ?_
      refine v_iconst X 0 d_T_leave_80 (by decide) ?_
      refine v_zastW X 3 2 (i := ((leS tS gF gY gN tS).1)) (x := false) rfl rfl ((leS_in tS gF gY gN tS h6).elim (fun q => absurd (show (leS tS gF gY gN tS).1 < 0 by rw [q]; decide) c72) (fun q w => q (w.elim Or.inl (fun w => Or.inr (by omega))))) d_T_leave_81 (ws' := [(m, .inr (5, (.int (nI tS) :: .int tD :: .int tE :: .long tN :: .int (bI tA) :: .long tL :: .ref aK :: .ref aP :: .ref aQ :: .ref aT :: .ref aW :: .ref aO :: .ref aM :: .ref aL :: .ref aH :: .ref aI :: .ref aS :: .ref aR :: .ref aX :: .ref aF :: .ref aY :: .ref aJ :: .long tl :: .long tg :: .int (bI tB) :: .int tM :: .int tb :: .long tv :: .long tw :: .long tT :: .long tr :: .long tm :: .long tf :: .ref aG :: .ref aE :: .ref aU :: []))), (aF, .inl (κ.z 1, 6, .inr (.inl gF))), (aY, .inl (κ.z 1, 6, .inr (.inl gY))), (aJ, .inl (κ.z 2, 6, .inl (aB (va_up gN ((leS tS gF gY gN tS).1).toNatClampNeg false))))]) rfl ?_
      have h9 := hm72; simp only [if_neg c72] at h9; first | exact h9 | (simp only [if_neg c72]; exact h9)
  exact v_vret X Y (by decide) (by decide) d_T_leave_82 ⟨rfl, rfl⟩

def f_T_offset (tN : Int64) (tT : Int64) (tm : Int64) (tf : Int64) : Int64 := if ((tN - tm) / 16) < (tT - tf) then if (tT - tf) ≤ 0 then tf - ((tN - tm) / 16) else tf + ((tN - tm) / 16) else if ((tN - tm) / 16) < (-(tT - tf)) then if (tT - tf) ≤ 0 then tf - ((tN - tm) / 16) else tf + ((tN - tm) / 16) else tT
set_option maxHeartbeats 4000000 in
set_option maxRecDepth 100000 in
theorem c_T_offset (l : Launch) (D : va_G) (z : Nat → ClassId) (m : Nat) (tS : Nat) (tD : Int32) (tE : Int32) (tN : Int64) (tA : Bool) (tL : Int64) (aK : Nat) (aP : Nat) (aQ : Nat) (aT : Nat) (aW : Nat) (aO : Nat) (aM : Nat) (aL : Nat) (aH : Nat) (aI : Nat) (aS : Nat) (aR : Nat) (aX : Nat) (aF : Nat) (aY : Nat) (aJ : Nat) (tl : Int64) (tg : Int64) (tB : Bool) (tM : Int32) (tb : Int32) (tv : Int64) (tw : Int64) (tT : Int64) (tr : Int64) (tm : Int64) (tf : Int64) (aG : Nat) (aE : Nat) (aU : Nat)  : Ctr l D z y_T_offset b_T_offset 5 (some .long) { frames := 0, cells := 0, slots := 0, locals := 0 } [.ref m] [(m, .inr (5, (.int (nI tS) :: .int tD :: .int tE :: .long tN :: .int (bI tA) :: .long tL :: .ref aK :: .ref aP :: .ref aQ :: .ref aT :: .ref aW :: .ref aO :: .ref aM :: .ref aL :: .ref aH :: .ref aI :: .ref aS :: .ref aR :: .ref aX :: .ref aF :: .ref aY :: .ref aJ :: .long tl :: .long tg :: .int (bI tB) :: .int tM :: .int tb :: .long tv :: .long tw :: .long tT :: .long tr :: .long tm :: .long tf :: .ref aG :: .ref aE :: .ref aU :: [])))] (fun v w => v = some (.long (f_T_offset tN tT tm tf)) ∧ w = [(m, .inr (5, (.int (nI tS) :: .int tD :: .int tE :: .long tN :: .int (bI tA) :: .long tL :: .ref aK :: .ref aP :: .ref aQ :: .ref aT :: .ref aW :: .ref aO :: .ref aM :: .ref aL :: .ref aH :: .ref aI :: .ref aS :: .ref aR :: .ref aX :: .ref aF :: .ref aY :: .ref aJ :: .long tl :: .long tg :: .int (bI tB) :: .int tM :: .int tb :: .long tv :: .long tw :: .long tT :: .long tr :: .long tm :: .long tf :: .ref aG :: .ref aE :: .ref aU :: [])))]) 0 0 := by
  refine met_V (own := R_T) (nm := "offset") (by decide +kernel) rfl rfl (Nat.le_of_ble_eq_true rfl) ?_
  intro κ hl hD hz X Y
  subst hl
  subst hD
  subst hz
  show V κ 5 0 0 0 [(0, .ref m)] [] [(m, .inr (5, (.int (nI tS) :: .int tD :: .int tE :: .long tN :: .int (bI tA) :: .long tL :: .ref aK :: .ref aP :: .ref aQ :: .ref aT :: .ref aW :: .ref aO :: .ref aM :: .ref aL :: .ref aH :: .ref aI :: .ref aS :: .ref aR :: .ref aX :: .ref aF :: .ref aY :: .ref aJ :: .long tl :: .long tg :: .int (bI tB) :: .int tM :: .int tb :: .long tv :: .long tw :: .long tT :: .long tr :: .long tm :: .long tf :: .ref aG :: .ref aE :: .ref aU :: [])))]
  refine v_aload_n X 0 d_T_offset_0 rfl ?_
  refine v_get X 0 3 rfl rfl li_T (by decide) m430 rfl d_T_offset_1 ?_
  refine v_aload_n X 0 d_T_offset_4 rfl ?_
  refine v_get X 0 31 rfl rfl li_T (by decide) m458 rfl d_T_offset_5 ?_
  refine v_lsub X d_T_offset_8 ?_
  refine v_ldc2 X (v := 16) m596 d_T_offset_9 ?_
  refine v_ldiv X d_T_offset_12 (by decide) ?_
  refine v_lstore_n X d_T_offset_13 rfl (by decide) (lv' := [(1, .long ((tN - tm) / 16)), (0, .ref m)]) rfl ?_
  refine v_aload_n X 1 d_T_offset_14 rfl ?_
  refine v_get X 0 29 rfl rfl li_T (by decide) m456 rfl d_T_offset_15 ?_
  refine v_aload_n X 1 d_T_offset_18 rfl ?_
  refine v_get X 0 32 rfl rfl li_T (by decide) m459 rfl d_T_offset_19 ?_
  refine v_lsub X d_T_offset_22 ?_
  refine v_lstore_n X d_T_offset_23 rfl (by decide) (lv' := [(3, .long (tT - tf)), (1, .long ((tN - tm) / 16)), (0, .ref m)]) rfl ?_
  show V κ 5 0 0 24 [(3, .long (tT - tf)), (1, .long ((tN - tm) / 16)), (0, .ref m)] [] [(m, .inr (5, (.int (nI tS) :: .int tD :: .int tE :: .long tN :: .int (bI tA) :: .long tL :: .ref aK :: .ref aP :: .ref aQ :: .ref aT :: .ref aW :: .ref aO :: .ref aM :: .ref aL :: .ref aH :: .ref aI :: .ref aS :: .ref aR :: .ref aX :: .ref aF :: .ref aY :: .ref aJ :: .long tl :: .long tg :: .int (bI tB) :: .int tM :: .int tb :: .long tv :: .long tw :: .long tT :: .long tr :: .long tm :: .long tf :: .ref aG :: .ref aE :: .ref aU :: [])))]
  refine v_lload_n X 0 d_T_offset_24 rfl ?_
  refine v_lload_n X 1 d_T_offset_25 rfl ?_
  refine v_lcmp_gt X 42 d_T_offset_26 d_T_offset_27 (by decide) (fun c26 => ?_) (fun c26 => ?_)
  · skip
    refine v_lload_n X 0 d_T_offset_42 rfl ?_
    refine v_lconst X 0 d_T_offset_43 (by decide) ?_
    suffices hm44 : V κ 5 0 0 63 [(3, .long (tT - tf)), (1, .long ((tN - tm) / 16)), (0, .ref m)] [.long (if (tT - tf) ≤ 0 then tf - ((tN - tm) / 16) else tf + ((tN - tm) / 16))] [(m, .inr (5, (.int (nI tS) :: .int tD :: .int tE :: .long tN :: .int (bI tA) :: .long tL :: .ref aK :: .ref aP :: .ref aQ :: .ref aT :: .ref aW :: .ref aO :: .ref aM :: .ref aL :: .ref aH :: .ref aI :: .ref aS :: .ref aR :: .ref aX :: .ref aF :: .ref aY :: .ref aJ :: .long tl :: .long tg :: .int (bI tB) :: .int tM :: .int tb :: .long tv :: .long tw :: .long tT :: .long tr :: .long tm :: .long tf :: .ref aG :: .ref aE :: .ref aU :: [])))] by
      refine v_lcmp_le X 57 d_T_offset_44 d_T_offset_45 (by decide) (fun c44 => ?_) (fun c44 => ?_)
      · skip
        refine v_aload_n X 2 d_T_offset_57 rfl ?_
        refine v_get X 0 32 rfl rfl li_T (by decide) m459 rfl d_T_offset_58 ?_
        refine v_lload_n X 1 d_T_offset_61 rfl ?_
        refine v_lsub X d_T_offset_62 ?_
        have h9 := hm44; simp only [if_pos c44] at h9; first | exact h9 | (simp only [if_pos c44]; exact h9)
      · skip
        refine v_aload_n X 2 d_T_offset_48 rfl ?_
        refine v_get X 0 32 rfl rfl li_T (by decide) m459 rfl d_T_offset_49 ?_
        refine v_lload_n X 1 d_T_offset_52 rfl ?_
        refine v_ladd X d_T_offset_53 ?_
        refine v_goto X 63 d_T_offset_54 (by decide) ?_
        have h9 := hm44; simp only [if_neg c44] at h9; first | exact h9 | (simp only [if_neg c44]; exact h9)
    exact v_lret X Y (by decide) (by decide) d_T_offset_63 ⟨by first | (simp only [f_T_offset, if_pos c26] <;> rfl) | rfl, rfl⟩
  · skip
    refine v_lload_n X 0 d_T_offset_30 rfl ?_
    refine v_lneg X d_T_offset_31 ?_
    refine v_lload_n X 1 d_T_offset_32 rfl ?_
    refine v_lcmp_gt X 42 d_T_offset_33 d_T_offset_34 (by decide) (fun c33 => ?_) (fun c33 => ?_)
    · skip
      refine v_lload_n X 0 d_T_offset_42 rfl ?_
      refine v_lconst X 0 d_T_offset_43 (by decide) ?_
      suffices hm44 : V κ 5 0 0 63 [(3, .long (tT - tf)), (1, .long ((tN - tm) / 16)), (0, .ref m)] [.long (if (tT - tf) ≤ 0 then tf - ((tN - tm) / 16) else tf + ((tN - tm) / 16))] [(m, .inr (5, (.int (nI tS) :: .int tD :: .int tE :: .long tN :: .int (bI tA) :: .long tL :: .ref aK :: .ref aP :: .ref aQ :: .ref aT :: .ref aW :: .ref aO :: .ref aM :: .ref aL :: .ref aH :: .ref aI :: .ref aS :: .ref aR :: .ref aX :: .ref aF :: .ref aY :: .ref aJ :: .long tl :: .long tg :: .int (bI tB) :: .int tM :: .int tb :: .long tv :: .long tw :: .long tT :: .long tr :: .long tm :: .long tf :: .ref aG :: .ref aE :: .ref aU :: [])))] by
        refine v_lcmp_le X 57 d_T_offset_44 d_T_offset_45 (by decide) (fun c44 => ?_) (fun c44 => ?_)
        · skip
          refine v_aload_n X 2 d_T_offset_57 rfl ?_
          refine v_get X 0 32 rfl rfl li_T (by decide) m459 rfl d_T_offset_58 ?_
          refine v_lload_n X 1 d_T_offset_61 rfl ?_
          refine v_lsub X d_T_offset_62 ?_
          have h9 := hm44; simp only [if_pos c44] at h9; first | exact h9 | (simp only [if_pos c44]; exact h9)
        · skip
          refine v_aload_n X 2 d_T_offset_48 rfl ?_
          refine v_get X 0 32 rfl rfl li_T (by decide) m459 rfl d_T_offset_49 ?_
          refine v_lload_n X 1 d_T_offset_52 rfl ?_
          refine v_ladd X d_T_offset_53 ?_
          refine v_goto X 63 d_T_offset_54 (by decide) ?_
          have h9 := hm44; simp only [if_neg c44] at h9; first | exact h9 | (simp only [if_neg c44]; exact h9)
      exact v_lret X Y (by decide) (by decide) d_T_offset_63 ⟨by first | (simp only [f_T_offset, if_neg c26, if_pos c33] <;> rfl) | rfl, rfl⟩
    · skip
      refine v_aload_n X 2 d_T_offset_37 rfl ?_
      refine v_get X 0 29 rfl rfl li_T (by decide) m456 rfl d_T_offset_38 ?_
      exact v_lret X Y (by decide) (by decide) d_T_offset_41 ⟨by first | (simp only [f_T_offset, if_neg c26, if_neg c33] <;> rfl) | rfl, rfl⟩

def keS (gS : Nat → Int32) (gF : Nat → Int64) (gY : Nat → Int64) (gN : Nat → Bool) : Nat → Int64 × Int32 × Int32
  | 0 => (0, 0, 16)
  | j + 1 => (if (gN j) = true then ((keS gS gF gY gN j).1) + (f_T_down ((gF j) + (gY j)) 2) else ((keS gS gF gY gN j).1), if (gN j) = true then (((keS gS gF gY gN j).2.1) ||| ((1 : Int32) <<< ((nI j) &&& 31))) else ((keS gS gF gY gN j).2.1), if (gN j) = true then (if ((keS gS gF gY gN j).2.2) ≤ (gS j) then ((keS gS gF gY gN j).2.2) else (gS j)) else ((keS gS gF gY gN j).2.2))
set_option maxHeartbeats 4000000 in
set_option maxRecDepth 100000 in
theorem lp_T_keep {κ : VC} (X : Cx κ b_T_keep R_T { frames := 2, cells := 0, slots := 0, locals := 46 } 8) (m : Nat) (tS : Nat) (tD : Int32) (tE : Int32) (tN : Int64) (tA : Bool) (tL : Int64) (aK : Nat) (aP : Nat) (aQ : Nat) (aT : Nat) (aW : Nat) (aO : Nat) (aM : Nat) (aL : Nat) (aH : Nat) (aI : Nat) (aS : Nat) (aR : Nat) (aX : Nat) (aF : Nat) (aY : Nat) (aJ : Nat) (tl : Int64) (tg : Int64) (tB : Bool) (tM : Int32) (tb : Int32) (tv : Int64) (tw : Int64) (tT : Int64) (tr : Int64) (tm : Int64) (tf : Int64) (aG : Nat) (aE : Nat) (aU : Nat) (gS : Nat → Int32) (gF : Nat → Int64) (gY : Nat → Int64) (gN : Nat → Bool) (many : Nat) (h6 : tS ≤ 6)  (kk : V κ 8 0 0 81 [(6, .int (nI tS)), (5, .int ((keS gS gF gY gN tS).2.2)), (4, .int ((keS gS gF gY gN tS).2.1)), (2, .long ((keS gS gF gY gN tS).1)), (0, .ref m), (1, .int (nI many))] [] [(m, .inr (5, (.int (nI tS) :: .int tD :: .int tE :: .long tN :: .int (bI tA) :: .long tL :: .ref aK :: .ref aP :: .ref aQ :: .ref aT :: .ref aW :: .ref aO :: .ref aM :: .ref aL :: .ref aH :: .ref aI :: .ref aS :: .ref aR :: .ref aX :: .ref aF :: .ref aY :: .ref aJ :: .long tl :: .long tg :: .int (bI tB) :: .int tM :: .int tb :: .long tv :: .long tw :: .long tT :: .long tr :: .long tm :: .long tf :: .ref aG :: .ref aE :: .ref aU :: []))), (aS, .inl (κ.z 0, 6, .inl gS)), (aF, .inl (κ.z 1, 6, .inr (.inl gF))), (aY, .inl (κ.z 1, 6, .inr (.inl gY))), (aJ, .inl (κ.z 2, 6, .inl (aB gN)))]) : ∀ (d9 j : Nat), j + d9 = tS → V κ 8 0 0 12 [(6, .int (nI j)), (5, .int ((keS gS gF gY gN j).2.2)), (4, .int ((keS gS gF gY gN j).2.1)), (2, .long ((keS gS gF gY gN j).1)), (0, .ref m), (1, .int (nI many))] [] [(m, .inr (5, (.int (nI tS) :: .int tD :: .int tE :: .long tN :: .int (bI tA) :: .long tL :: .ref aK :: .ref aP :: .ref aQ :: .ref aT :: .ref aW :: .ref aO :: .ref aM :: .ref aL :: .ref aH :: .ref aI :: .ref aS :: .ref aR :: .ref aX :: .ref aF :: .ref aY :: .ref aJ :: .long tl :: .long tg :: .int (bI tB) :: .int tM :: .int tb :: .long tv :: .long tw :: .long tT :: .long tr :: .long tm :: .long tf :: .ref aG :: .ref aE :: .ref aU :: []))), (aS, .inl (κ.z 0, 6, .inl gS)), (aF, .inl (κ.z 1, 6, .inr (.inl gF))), (aY, .inl (κ.z 1, 6, .inr (.inl gY))), (aJ, .inl (κ.z 2, 6, .inl (aB gN)))] := by
  intro d9
  induction d9 with
  | zero =>
    intro j hj 
    have e9 : j = tS := by omega
    rw [e9]
    show V κ 8 0 0 12 [(6, .int (nI tS)), (5, .int ((keS gS gF gY gN tS).2.2)), (4, .int ((keS gS gF gY gN tS).2.1)), (2, .long ((keS gS gF gY gN tS).1)), (0, .ref m), (1, .int (nI many))] [] [(m, .inr (5, (.int (nI tS) :: .int tD :: .int tE :: .long tN :: .int (bI tA) :: .long tL :: .ref aK :: .ref aP :: .ref aQ :: .ref aT :: .ref aW :: .ref aO :: .ref aM :: .ref aL :: .ref aH :: .ref aI :: .ref aS :: .ref aR :: .ref aX :: .ref aF :: .ref aY :: .ref aJ :: .long tl :: .long tg :: .int (bI tB) :: .int tM :: .int tb :: .long tv :: .long tw :: .long tT :: .long tr :: .long tm :: .long tf :: .ref aG :: .ref aE :: .ref aU :: []))), (aS, .inl (κ.z 0, 6, .inl gS)), (aF, .inl (κ.z 1, 6, .inr (.inl gF))), (aY, .inl (κ.z 1, 6, .inr (.inl gY))), (aJ, .inl (κ.z 2, 6, .inl (aB gN)))]
    refine v_iload X 0 d_T_keep_12 rfl ?_
    refine v_aload_n X 4 d_T_keep_14 rfl ?_
    refine v_get X 0 0 rfl rfl li_T (by decide) m427 rfl d_T_keep_15 ?_
    refine v_icmpN_ge X 81 (a := tS) (b := tS) d_T_keep_18 (by decide) (by omega) (by omega) (fun c18 => ?_) (fun c18 => by omega)
    exact kk
  | succ d9 ih =>
    intro j hj 
    show V κ 8 0 0 12 [(6, .int (nI j)), (5, .int ((keS gS gF gY gN j).2.2)), (4, .int ((keS gS gF gY gN j).2.1)), (2, .long ((keS gS gF gY gN j).1)), (0, .ref m), (1, .int (nI many))] [] [(m, .inr (5, (.int (nI tS) :: .int tD :: .int tE :: .long tN :: .int (bI tA) :: .long tL :: .ref aK :: .ref aP :: .ref aQ :: .ref aT :: .ref aW :: .ref aO :: .ref aM :: .ref aL :: .ref aH :: .ref aI :: .ref aS :: .ref aR :: .ref aX :: .ref aF :: .ref aY :: .ref aJ :: .long tl :: .long tg :: .int (bI tB) :: .int tM :: .int tb :: .long tv :: .long tw :: .long tT :: .long tr :: .long tm :: .long tf :: .ref aG :: .ref aE :: .ref aU :: []))), (aS, .inl (κ.z 0, 6, .inl gS)), (aF, .inl (κ.z 1, 6, .inr (.inl gF))), (aY, .inl (κ.z 1, 6, .inr (.inl gY))), (aJ, .inl (κ.z 2, 6, .inl (aB gN)))]
    refine v_iload X 0 d_T_keep_12 rfl ?_
    refine v_aload_n X 4 d_T_keep_14 rfl ?_
    refine v_get X 0 0 rfl rfl li_T (by decide) m427 rfl d_T_keep_15 ?_
    refine v_icmpN_ge X 81 (a := j) (b := tS) d_T_keep_18 (by decide) (by omega) (by omega) (fun c18 => by omega) (fun c18 => ?_)
    refine v_aload_n X 4 d_T_keep_21 rfl ?_
    refine v_get X 0 21 rfl rfl li_T (by decide) m448 rfl d_T_keep_22 ?_
    refine v_iload X 0 d_T_keep_25 rfl ?_
    refine v_zaldN X 4 2 (j := j) rfl rfl (by omega) (by omega) d_T_keep_27 ?_
    suffices hm28 : V κ 8 0 0 75 [(6, .int (nI j)), (5, .int (if (gN j) = true then (if ((keS gS gF gY gN j).2.2) ≤ (gS j) then ((keS gS gF gY gN j).2.2) else (gS j)) else ((keS gS gF gY gN j).2.2))), (4, .int (if (gN j) = true then (((keS gS gF gY gN j).2.1) ||| ((1 : Int32) <<< ((nI j) &&& 31))) else ((keS gS gF gY gN j).2.1))), (2, .long (if (gN j) = true then ((keS gS gF gY gN j).1) + (f_T_down ((gF j) + (gY j)) 2) else (keS gS gF gY gN j).1)), (0, .ref m), (1, .int (nI many))] [] [(m, .inr (5, (.int (nI tS) :: .int tD :: .int tE :: .long tN :: .int (bI tA) :: .long tL :: .ref aK :: .ref aP :: .ref aQ :: .ref aT :: .ref aW :: .ref aO :: .ref aM :: .ref aL :: .ref aH :: .ref aI :: .ref aS :: .ref aR :: .ref aX :: .ref aF :: .ref aY :: .ref aJ :: .long tl :: .long tg :: .int (bI tB) :: .int tM :: .int tb :: .long tv :: .long tw :: .long tT :: .long tr :: .long tm :: .long tf :: .ref aG :: .ref aE :: .ref aU :: []))), (aS, .inl (κ.z 0, 6, .inl gS)), (aF, .inl (κ.z 1, 6, .inr (.inl gF))), (aY, .inl (κ.z 1, 6, .inr (.inl gY))), (aJ, .inl (κ.z 2, 6, .inl (aB gN)))] by
      refine v_ifB_eq X 75 (t := gN j) d_T_keep_28 (by decide) (fun c28 => ?_) (fun c28 => ?_)
      · skip
        have h9 := hm28; simp only [if_neg c28] at h9; first | exact h9 | (simp only [if_neg c28]; exact h9)
      · skip
        refine v_lload_n X 3 d_T_keep_31 rfl ?_
        refine v_aload_n X 4 d_T_keep_32 rfl ?_
        refine v_iload X 0 d_T_keep_33 rfl ?_
        refine v_perm (perm_idx (α := Nat × va_E) (ws := [(m, .inr (5, (.int (nI tS) :: .int tD :: .int tE :: .long tN :: .int (bI tA) :: .long tL :: .ref aK :: .ref aP :: .ref aQ :: .ref aT :: .ref aW :: .ref aO :: .ref aM :: .ref aL :: .ref aH :: .ref aI :: .ref aS :: .ref aR :: .ref aX :: .ref aF :: .ref aY :: .ref aJ :: .long tl :: .long tg :: .int (bI tB) :: .int tM :: .int tb :: .long tv :: .long tw :: .long tT :: .long tr :: .long tm :: .long tf :: .ref aG :: .ref aE :: .ref aU :: []))), (aS, .inl (κ.z 0, 6, .inl gS)), (aF, .inl (κ.z 1, 6, .inr (.inl gF))), (aY, .inl (κ.z 1, 6, .inr (.inl gY))), (aJ, .inl (κ.z 2, 6, .inl (aB gN)))]) (ws' := [(m, .inr (5, (.int (nI tS) :: .int tD :: .int tE :: .long tN :: .int (bI tA) :: .long tL :: .ref aK :: .ref aP :: .ref aQ :: .ref aT :: .ref aW :: .ref aO :: .ref aM :: .ref aL :: .ref aH :: .ref aI :: .ref aS :: .ref aR :: .ref aX :: .ref aF :: .ref aY :: .ref aJ :: .long tl :: .long tg :: .int (bI tB) :: .int tM :: .int tb :: .long tv :: .long tw :: .long tT :: .long tr :: .long tm :: .long tf :: .ref aG :: .ref aE :: .ref aU :: []))), (aF, .inl (κ.z 1, 6, .inr (.inl gF))), (aY, .inl (κ.z 1, 6, .inr (.inl gY))), (aS, .inl (κ.z 0, 6, .inl gS)), (aJ, .inl (κ.z 2, 6, .inl (aB gN)))]) [0, 2, 3, 1, 4] rfl rfl) ?_
        refine v_callV X (b := m) (k := 0) (n := 0) (n9 := 1) (As := [.int (nI j)]) (rest := [.long ((keS gS gF gY gN j).1)]) (wc := [(m, .inr (5, (.int (nI tS) :: .int tD :: .int tE :: .long tN :: .int (bI tA) :: .long tL :: .ref aK :: .ref aP :: .ref aQ :: .ref aT :: .ref aW :: .ref aO :: .ref aM :: .ref aL :: .ref aH :: .ref aI :: .ref aS :: .ref aR :: .ref aX :: .ref aF :: .ref aY :: .ref aJ :: .long tl :: .long tg :: .int (bI tB) :: .int tM :: .int tb :: .long tv :: .long tw :: .long tT :: .long tr :: .long tm :: .long tf :: .ref aG :: .ref aE :: .ref aU :: []))), (aF, .inl (κ.z 1, 6, .inr (.inl gF))), (aY, .inl (κ.z 1, 6, .inr (.inl gY)))]) (wr := [(aS, .inl (κ.z 0, 6, .inl gS)), (aJ, .inl (κ.z 2, 6, .inl (aB gN)))]) (c_T_middle κ.l κ.D κ.z m tS tD tE tN tA tL aK aP aQ aT aW aO aM aL aH aI aS aR aX aF aY aJ tl tg tB tM tb tv tw tT tr tm tf aG aE aU gF gY j (by omega)) 0 rfl rfl m583 m584 m26 m36 (by decide +kernel) rfl (Nat.le_of_ble_eq_true rfl) ⟨by decide, by decide⟩ ⟨by decide, by decide⟩ rfl rfl m585 d_T_keep_35 (fun v w1 hg => ?_)
        obtain ⟨rfl, rfl⟩ := hg
        refine v_perm (perm_idx (α := Nat × va_E) (ws := [(m, .inr (5, (.int (nI tS) :: .int tD :: .int tE :: .long tN :: .int (bI tA) :: .long tL :: .ref aK :: .ref aP :: .ref aQ :: .ref aT :: .ref aW :: .ref aO :: .ref aM :: .ref aL :: .ref aH :: .ref aI :: .ref aS :: .ref aR :: .ref aX :: .ref aF :: .ref aY :: .ref aJ :: .long tl :: .long tg :: .int (bI tB) :: .int tM :: .int tb :: .long tv :: .long tw :: .long tT :: .long tr :: .long tm :: .long tf :: .ref aG :: .ref aE :: .ref aU :: []))), (aF, .inl (κ.z 1, 6, .inr (.inl gF))), (aY, .inl (κ.z 1, 6, .inr (.inl gY))), (aS, .inl (κ.z 0, 6, .inl gS)), (aJ, .inl (κ.z 2, 6, .inl (aB gN)))]) (ws' := [(m, .inr (5, (.int (nI tS) :: .int tD :: .int tE :: .long tN :: .int (bI tA) :: .long tL :: .ref aK :: .ref aP :: .ref aQ :: .ref aT :: .ref aW :: .ref aO :: .ref aM :: .ref aL :: .ref aH :: .ref aI :: .ref aS :: .ref aR :: .ref aX :: .ref aF :: .ref aY :: .ref aJ :: .long tl :: .long tg :: .int (bI tB) :: .int tM :: .int tb :: .long tv :: .long tw :: .long tT :: .long tr :: .long tm :: .long tf :: .ref aG :: .ref aE :: .ref aU :: []))), (aS, .inl (κ.z 0, 6, .inl gS)), (aF, .inl (κ.z 1, 6, .inr (.inl gF))), (aY, .inl (κ.z 1, 6, .inr (.inl gY))), (aJ, .inl (κ.z 2, 6, .inl (aB gN)))]) [0, 3, 1, 2, 4] rfl rfl) ?_
        show V κ 8 0 0 38 [(6, .int (nI j)), (5, .int ((keS gS gF gY gN j).2.2)), (4, .int ((keS gS gF gY gN j).2.1)), (2, .long ((keS gS gF gY gN j).1)), (0, .ref m), (1, .int (nI many))] [.long (f_T_down ((gF j) + (gY j)) 2), .long ((keS gS gF gY gN j).1)] [(m, .inr (5, (.int (nI tS) :: .int tD :: .int tE :: .long tN :: .int (bI tA) :: .long tL :: .ref aK :: .ref aP :: .ref aQ :: .ref aT :: .ref aW :: .ref aO :: .ref aM :: .ref aL :: .ref aH :: .ref aI :: .ref aS :: .ref aR :: .ref aX :: .ref aF :: .ref aY :: .ref aJ :: .long tl :: .long tg :: .int (bI tB) :: .int tM :: .int tb :: .long tv :: .long tw :: .long tT :: .long tr :: .long tm :: .long tf :: .ref aG :: .ref aE :: .ref aU :: []))), (aS, .inl (κ.z 0, 6, .inl gS)), (aF, .inl (κ.z 1, 6, .inr (.inl gF))), (aY, .inl (κ.z 1, 6, .inr (.inl gY))), (aJ, .inl (κ.z 2, 6, .inl (aB gN)))]
        refine v_ladd X d_T_keep_38 ?_
        refine v_lstore_n X d_T_keep_39 rfl (by decide) (lv' := [(2, .long (((keS gS gF gY gN j).1) + (f_T_down ((gF j) + (gY j)) 2))), (6, .int (nI j)), (5, .int ((keS gS gF gY gN j).2.2)), (4, .int ((keS gS gF gY gN j).2.1)), (0, .ref m), (1, .int (nI many))]) rfl ?_
        refine v_iload X 3 d_T_keep_40 rfl ?_
        refine v_iconst X 1 d_T_keep_42 (by decide) ?_
        refine v_iload X 1 d_T_keep_43 rfl ?_
        refine v_ishl X d_T_keep_45 ?_
        refine v_ior X d_T_keep_46 ?_
        refine v_istore X d_T_keep_47 (by decide) (lv' := [(4, .int (((keS gS gF gY gN j).2.1) ||| ((1 : Int32) <<< ((nI j) &&& 31)))), (2, .long (((keS gS gF gY gN j).1) + (f_T_down ((gF j) + (gY j)) 2))), (6, .int (nI j)), (5, .int ((keS gS gF gY gN j).2.2)), (0, .ref m), (1, .int (nI many))]) rfl ?_
        refine v_aload_n X 4 d_T_keep_49 rfl ?_
        refine v_get X 0 16 rfl rfl li_T (by decide) m443 rfl d_T_keep_50 ?_
        show V κ 8 0 0 53 [(4, .int (((keS gS gF gY gN j).2.1) ||| ((1 : Int32) <<< ((nI j) &&& 31)))), (2, .long (((keS gS gF gY gN j).1) + (f_T_down ((gF j) + (gY j)) 2))), (6, .int (nI j)), (5, .int ((keS gS gF gY gN j).2.2)), (0, .ref m), (1, .int (nI many))] [.ref aS] [(m, .inr (5, (.int (nI tS) :: .int tD :: .int tE :: .long tN :: .int (bI tA) :: .long tL :: .ref aK :: .ref aP :: .ref aQ :: .ref aT :: .ref aW :: .ref aO :: .ref aM :: .ref aL :: .ref aH :: .ref aI :: .ref aS :: .ref aR :: .ref aX :: .ref aF :: .ref aY :: .ref aJ :: .long tl :: .long tg :: .int (bI tB) :: .int tM :: .int tb :: .long tv :: .long tw :: .long tT :: .long tr :: .long tm :: .long tf :: .ref aG :: .ref aE :: .ref aU :: []))), (aS, .inl (κ.z 0, 6, .inl gS)), (aF, .inl (κ.z 1, 6, .inr (.inl gF))), (aY, .inl (κ.z 1, 6, .inr (.inl gY))), (aJ, .inl (κ.z 2, 6, .inl (aB gN)))]
        refine v_iload X 2 d_T_keep_53 rfl ?_
        refine v_ialdN X 1 0 (j := j) rfl rfl (by omega) (by omega) d_T_keep_55 ?_
        refine v_iload X 3 d_T_keep_56 rfl ?_
        suffices hm58 : V κ 8 0 0 73 [(4, .int (((keS gS gF gY gN j).2.1) ||| ((1 : Int32) <<< ((nI j) &&& 31)))), (2, .long (((keS gS gF gY gN j).1) + (f_T_down ((gF j) + (gY j)) 2))), (6, .int (nI j)), (5, .int ((keS gS gF gY gN j).2.2)), (0, .ref m), (1, .int (nI many))] [.int (if ((keS gS gF gY gN j).2.2) ≤ (gS j) then ((keS gS gF gY gN j).2.2) else (gS j))] [(m, .inr (5, (.int (nI tS) :: .int tD :: .int tE :: .long tN :: .int (bI tA) :: .long tL :: .ref aK :: .ref aP :: .ref aQ :: .ref aT :: .ref aW :: .ref aO :: .ref aM :: .ref aL :: .ref aH :: .ref aI :: .ref aS :: .ref aR :: .ref aX :: .ref aF :: .ref aY :: .ref aJ :: .long tl :: .long tg :: .int (bI tB) :: .int tM :: .int tb :: .long tv :: .long tw :: .long tT :: .long tr :: .long tm :: .long tf :: .ref aG :: .ref aE :: .ref aU :: []))), (aS, .inl (κ.z 0, 6, .inl gS)), (aF, .inl (κ.z 1, 6, .inr (.inl gF))), (aY, .inl (κ.z 1, 6, .inr (.inl gY))), (aJ, .inl (κ.z 2, 6, .inl (aB gN)))] by
          refine v_icmp_ge X 71 d_T_keep_58 (by decide) (fun c58 => ?_) (fun c58 => ?_)
          · skip
            refine v_iload X 3 d_T_keep_71 rfl ?_
            have h9 := hm58; simp only [if_pos c58] at h9; first | exact h9 | (simp only [if_pos c58]; exact h9)
          · skip
            refine v_aload_n X 4 d_T_keep_61 rfl ?_
            refine v_get X 0 16 rfl rfl li_T (by decide) m443 rfl d_T_keep_62 ?_
            refine v_iload X 2 d_T_keep_65 rfl ?_
            refine v_ialdN X 1 0 (j := j) rfl rfl (by omega) (by omega) d_T_keep_67 ?_
            refine v_goto X 73 d_T_keep_68 (by decide) ?_
            have h9 := hm58; simp only [if_neg c58] at h9; first | exact h9 | (simp only [if_neg c58]; exact h9)
        refine v_istore X d_T_keep_73 (by decide) (lv' := [(5, .int (if ((keS gS gF gY gN j).2.2) ≤ (gS j) then ((keS gS gF gY gN j).2.2) else (gS j))), (4, .int (((keS gS gF gY gN j).2.1) ||| ((1 : Int32) <<< ((nI j) &&& 31)))), (2, .long (((keS gS gF gY gN j).1) + (f_T_down ((gF j) + (gY j)) 2))), (6, .int (nI j)), (0, .ref m), (1, .int (nI many))]) rfl ?_
        refine v_lv [3, 0, 1, 2, 4, 5] rfl ?_
        have h9 := hm28; simp only [if_pos c28] at h9; first | exact h9 | (simp only [if_pos c28]; exact h9)
    refine v_iinc X 0 d_T_keep_75 (x := nI j) rfl (v := nI (j + 1)) (nI_1 _) (by decide) (lv' := [(6, .int (nI (j + 1))), (5, .int (if (gN j) = true then (if ((keS gS gF gY gN j).2.2) ≤ (gS j) then ((keS gS gF gY gN j).2.2) else (gS j)) else ((keS gS gF gY gN j).2.2))), (4, .int (if (gN j) = true then (((keS gS gF gY gN j).2.1) ||| ((1 : Int32) <<< ((nI j) &&& 31))) else ((keS gS gF gY gN j).2.1))), (2, .long (if (gN j) = true then ((keS gS gF gY gN j).1) + (f_T_down ((gF j) + (gY j)) 2) else (keS gS gF gY gN j).1)), (0, .ref m), (1, .int (nI many))]) rfl ?_
    refine v_goto X 12 d_T_keep_78 (by decide) ?_
    exact v_eq rfl (by rfl) rfl (by rfl) (ih (j + 1) (by omega))

def f_T_keep_target (tS : Nat) (tl : Int64) (tg : Int64) (gS : Nat → Int32) (gF : Nat → Int64) (gY : Nat → Int64) (gN : Nat → Bool) (many : Nat) : Int64 := if tl ≤ (f_T_down ((keS gS gF gY gN tS).1) ((nI many).toInt64)) then if (f_T_down ((keS gS gF gY gN tS).1) ((nI many).toInt64)) ≤ tg then f_T_down ((keS gS gF gY gN tS).1) ((nI many).toInt64) else tg else tl
def f_T_keep_error (tS : Nat) (tl : Int64) (tg : Int64) (gS : Nat → Int32) (gF : Nat → Int64) (gY : Nat → Int64) (gN : Nat → Bool) (many : Nat) : Int64 := if ((if tl ≤ (f_T_down ((keS gS gF gY gN tS).1) ((nI many).toInt64)) then if (f_T_down ((keS gS gF gY gN tS).1) ((nI many).toInt64)) ≤ tg then f_T_down ((keS gS gF gY gN tS).1) ((nI many).toInt64) else tg else tl) - tl) ≤ (tg - (if tl ≤ (f_T_down ((keS gS gF gY gN tS).1) ((nI many).toInt64)) then if (f_T_down ((keS gS gF gY gN tS).1) ((nI many).toInt64)) ≤ tg then f_T_down ((keS gS gF gY gN tS).1) ((nI many).toInt64) else tg else tl)) then tg - (if tl ≤ (f_T_down ((keS gS gF gY gN tS).1) ((nI many).toInt64)) then if (f_T_down ((keS gS gF gY gN tS).1) ((nI many).toInt64)) ≤ tg then f_T_down ((keS gS gF gY gN tS).1) ((nI many).toInt64) else tg else tl) else (if tl ≤ (f_T_down ((keS gS gF gY gN tS).1) ((nI many).toInt64)) then if (f_T_down ((keS gS gF gY gN tS).1) ((nI many).toInt64)) ≤ tg then f_T_down ((keS gS gF gY gN tS).1) ((nI many).toInt64) else tg else tl) - tl
def f_T_keep_startedFrom (tS : Nat) (tN : Int64) (tl : Int64) (tg : Int64) (tB : Bool) (tT : Int64) (tm : Int64) (tf : Int64) (gS : Nat → Int32) (gF : Nat → Int64) (gY : Nat → Int64) (gN : Nat → Bool) (many : Nat) : Int64 := if tB = true then f_T_offset tN tT tm tf else if tl ≤ (f_T_down ((keS gS gF gY gN tS).1) ((nI many).toInt64)) then if (f_T_down ((keS gS gF gY gN tS).1) ((nI many).toInt64)) ≤ tg then f_T_down ((keS gS gF gY gN tS).1) ((nI many).toInt64) else tg else tl
set_option maxHeartbeats 4000000 in
set_option maxRecDepth 100000 in
theorem c_T_keep (l : Launch) (D : va_G) (z : Nat → ClassId) (m : Nat) (tS : Nat) (tD : Int32) (tE : Int32) (tN : Int64) (tA : Bool) (tL : Int64) (aK : Nat) (aP : Nat) (aQ : Nat) (aT : Nat) (aW : Nat) (aO : Nat) (aM : Nat) (aL : Nat) (aH : Nat) (aI : Nat) (aS : Nat) (aR : Nat) (aX : Nat) (aF : Nat) (aY : Nat) (aJ : Nat) (tl : Int64) (tg : Int64) (tB : Bool) (tM : Int32) (tb : Int32) (tv : Int64) (tw : Int64) (tT : Int64) (tr : Int64) (tm : Int64) (tf : Int64) (aG : Nat) (aE : Nat) (aU : Nat) (gS : Nat → Int32) (gF : Nat → Int64) (gY : Nat → Int64) (gN : Nat → Bool) (many : Nat) (h6 : tS ≤ 6) (hm6 : many ≤ 6) (hm0 : ¬ many = 0) : Ctr l D z y_T_keep b_T_keep 8 none { frames := 2, cells := 0, slots := 0, locals := 46 } [.ref m, .int (nI many)] [(m, .inr (5, (.int (nI tS) :: .int tD :: .int tE :: .long tN :: .int (bI tA) :: .long tL :: .ref aK :: .ref aP :: .ref aQ :: .ref aT :: .ref aW :: .ref aO :: .ref aM :: .ref aL :: .ref aH :: .ref aI :: .ref aS :: .ref aR :: .ref aX :: .ref aF :: .ref aY :: .ref aJ :: .long tl :: .long tg :: .int (bI tB) :: .int tM :: .int tb :: .long tv :: .long tw :: .long tT :: .long tr :: .long tm :: .long tf :: .ref aG :: .ref aE :: .ref aU :: []))), (aS, .inl (z 0, 6, .inl gS)), (aF, .inl (z 1, 6, .inr (.inl gF))), (aY, .inl (z 1, 6, .inr (.inl gY))), (aJ, .inl (z 2, 6, .inl (aB gN)))] (fun v w => v = none ∧ w = [(m, .inr (5, (.int (nI tS) :: .int tD :: .int tE :: .long tN :: .int (bI tA) :: .long tL :: .ref aK :: .ref aP :: .ref aQ :: .ref aT :: .ref aW :: .ref aO :: .ref aM :: .ref aL :: .ref aH :: .ref aI :: .ref aS :: .ref aR :: .ref aX :: .ref aF :: .ref aY :: .ref aJ :: .long tl :: .long tg :: .int (bI true) :: .int ((keS gS gF gY gN tS).2.1) :: .int ((keS gS gF gY gN tS).2.2) :: .long tl :: .long tg :: .long (f_T_keep_target tS tl tg gS gF gY gN many) :: .long (f_T_keep_error tS tl tg gS gF gY gN many) :: .long tN :: .long (f_T_keep_startedFrom tS tN tl tg tB tT tm tf gS gF gY gN many) :: .ref aG :: .ref aE :: .ref aU :: []))), (aS, .inl (z 0, 6, .inl gS)), (aF, .inl (z 1, 6, .inr (.inl gF))), (aY, .inl (z 1, 6, .inr (.inl gY))), (aJ, .inl (z 2, 6, .inl (aB gN)))]) 0 0 := by
  refine met_V (own := R_T) (nm := "keep") (by decide +kernel) rfl rfl (Nat.le_of_ble_eq_true rfl) ?_
  intro κ hl hD hz X Y
  subst hl
  subst hD
  subst hz
  show V κ 8 0 0 0 [(0, .ref m), (1, .int (nI many))] [] [(m, .inr (5, (.int (nI tS) :: .int tD :: .int tE :: .long tN :: .int (bI tA) :: .long tL :: .ref aK :: .ref aP :: .ref aQ :: .ref aT :: .ref aW :: .ref aO :: .ref aM :: .ref aL :: .ref aH :: .ref aI :: .ref aS :: .ref aR :: .ref aX :: .ref aF :: .ref aY :: .ref aJ :: .long tl :: .long tg :: .int (bI tB) :: .int tM :: .int tb :: .long tv :: .long tw :: .long tT :: .long tr :: .long tm :: .long tf :: .ref aG :: .ref aE :: .ref aU :: []))), (aS, .inl (κ.z 0, 6, .inl gS)), (aF, .inl (κ.z 1, 6, .inr (.inl gF))), (aY, .inl (κ.z 1, 6, .inr (.inl gY))), (aJ, .inl (κ.z 2, 6, .inl (aB gN)))]
  refine v_lconst X 0 d_T_keep_0 (by decide) ?_
  refine v_lstore_n X d_T_keep_1 rfl (by decide) (lv' := [(2, .long 0), (0, .ref m), (1, .int (nI many))]) rfl ?_
  refine v_iconst X 0 d_T_keep_2 (by decide) ?_
  refine v_istore X d_T_keep_3 (by decide) (lv' := [(4, .int 0), (2, .long 0), (0, .ref m), (1, .int (nI many))]) rfl ?_
  refine v_bipush X 16 d_T_keep_5 (by decide) ?_
  refine v_istore X d_T_keep_7 (by decide) (lv' := [(5, .int 16), (4, .int 0), (2, .long 0), (0, .ref m), (1, .int (nI many))]) rfl ?_
  refine v_iconst X 0 d_T_keep_9 (by decide) ?_
  refine v_istore X d_T_keep_10 (by decide) (lv' := [(6, .int 0), (5, .int 16), (4, .int 0), (2, .long 0), (0, .ref m), (1, .int (nI many))]) rfl ?_
  show V κ 8 0 0 12 [(6, .int (nI 0)), (5, .int ((keS gS gF gY gN 0).2.2)), (4, .int ((keS gS gF gY gN 0).2.1)), (2, .long ((keS gS gF gY gN 0).1)), (0, .ref m), (1, .int (nI many))] [] [(m, .inr (5, (.int (nI tS) :: .int tD :: .int tE :: .long tN :: .int (bI tA) :: .long tL :: .ref aK :: .ref aP :: .ref aQ :: .ref aT :: .ref aW :: .ref aO :: .ref aM :: .ref aL :: .ref aH :: .ref aI :: .ref aS :: .ref aR :: .ref aX :: .ref aF :: .ref aY :: .ref aJ :: .long tl :: .long tg :: .int (bI tB) :: .int tM :: .int tb :: .long tv :: .long tw :: .long tT :: .long tr :: .long tm :: .long tf :: .ref aG :: .ref aE :: .ref aU :: []))), (aS, .inl (κ.z 0, 6, .inl gS)), (aF, .inl (κ.z 1, 6, .inr (.inl gF))), (aY, .inl (κ.z 1, 6, .inr (.inl gY))), (aJ, .inl (κ.z 2, 6, .inl (aB gN)))]
  refine lp_T_keep X m tS tD tE tN tA tL aK aP aQ aT aW aO aM aL aH aI aS aR aX aF aY aJ tl tg tB tM tb tv tw tT tr tm tf aG aE aU gS gF gY gN many (by omega)  ?_ (tS - 0) 0 (by omega)
  show V κ 8 0 0 81 [(6, .int (nI tS)), (5, .int ((keS gS gF gY gN tS).2.2)), (4, .int ((keS gS gF gY gN tS).2.1)), (2, .long ((keS gS gF gY gN tS).1)), (0, .ref m), (1, .int (nI many))] [] [(m, .inr (5, (.int (nI tS) :: .int tD :: .int tE :: .long tN :: .int (bI tA) :: .long tL :: .ref aK :: .ref aP :: .ref aQ :: .ref aT :: .ref aW :: .ref aO :: .ref aM :: .ref aL :: .ref aH :: .ref aI :: .ref aS :: .ref aR :: .ref aX :: .ref aF :: .ref aY :: .ref aJ :: .long tl :: .long tg :: .int (bI tB) :: .int tM :: .int tb :: .long tv :: .long tw :: .long tT :: .long tr :: .long tm :: .long tf :: .ref aG :: .ref aE :: .ref aU :: []))), (aS, .inl (κ.z 0, 6, .inl gS)), (aF, .inl (κ.z 1, 6, .inr (.inl gF))), (aY, .inl (κ.z 1, 6, .inr (.inl gY))), (aJ, .inl (κ.z 2, 6, .inl (aB gN)))]
  refine v_lload_n X 3 d_T_keep_81 rfl ?_
  refine v_iload_n X 5 d_T_keep_82 rfl ?_
  refine v_i2l X d_T_keep_83 ?_
  refine v_callS X (k := 0) (n := 0) (n9 := 2) (As := [.long ((keS gS gF gY gN tS).1), .long ((nI many).toInt64)]) (rest := []) (wc := []) (wr := [(m, .inr (5, (.int (nI tS) :: .int tD :: .int tE :: .long tN :: .int (bI tA) :: .long tL :: .ref aK :: .ref aP :: .ref aQ :: .ref aT :: .ref aW :: .ref aO :: .ref aM :: .ref aL :: .ref aH :: .ref aI :: .ref aS :: .ref aR :: .ref aX :: .ref aF :: .ref aY :: .ref aJ :: .long tl :: .long tg :: .int (bI tB) :: .int tM :: .int tb :: .long tv :: .long tw :: .long tT :: .long tr :: .long tm :: .long tf :: .ref aG :: .ref aE :: .ref aU :: []))), (aS, .inl (κ.z 0, 6, .inl gS)), (aF, .inl (κ.z 1, 6, .inr (.inl gF))), (aY, .inl (κ.z 1, 6, .inr (.inl gY))), (aJ, .inl (κ.z 2, 6, .inl (aB gN)))]) (c_T_down κ.l κ.D κ.z ((keS gS gF gY gN tS).1) ((nI many).toInt64) (nI_lne hm0 (by omega))) m587 m588 m36 (by decide +kernel) rfl (Nat.le_of_ble_eq_true rfl) ⟨by decide, by decide⟩ ⟨by decide, by decide⟩ rfl rfl m589 d_T_keep_84 (fun v w1 hg => ?_)
  obtain ⟨rfl, rfl⟩ := hg
  show V κ 8 0 0 87 [(6, .int (nI tS)), (5, .int ((keS gS gF gY gN tS).2.2)), (4, .int ((keS gS gF gY gN tS).2.1)), (2, .long ((keS gS gF gY gN tS).1)), (0, .ref m), (1, .int (nI many))] [.long (f_T_down ((keS gS gF gY gN tS).1) ((nI many).toInt64))] [(m, .inr (5, (.int (nI tS) :: .int tD :: .int tE :: .long tN :: .int (bI tA) :: .long tL :: .ref aK :: .ref aP :: .ref aQ :: .ref aT :: .ref aW :: .ref aO :: .ref aM :: .ref aL :: .ref aH :: .ref aI :: .ref aS :: .ref aR :: .ref aX :: .ref aF :: .ref aY :: .ref aJ :: .long tl :: .long tg :: .int (bI tB) :: .int tM :: .int tb :: .long tv :: .long tw :: .long tT :: .long tr :: .long tm :: .long tf :: .ref aG :: .ref aE :: .ref aU :: []))), (aS, .inl (κ.z 0, 6, .inl gS)), (aF, .inl (κ.z 1, 6, .inr (.inl gF))), (aY, .inl (κ.z 1, 6, .inr (.inl gY))), (aJ, .inl (κ.z 2, 6, .inl (aB gN)))]
  refine v_lstore X d_T_keep_87 (by decide) (lv' := [(6, .long (f_T_down ((keS gS gF gY gN tS).1) ((nI many).toInt64))), (5, .int ((keS gS gF gY gN tS).2.2)), (4, .int ((keS gS gF gY gN tS).2.1)), (2, .long ((keS gS gF gY gN tS).1)), (0, .ref m), (1, .int (nI many))]) rfl ?_
  refine v_lload X 0 d_T_keep_89 rfl ?_
  show V κ 8 0 0 91 [(6, .long (f_T_down ((keS gS gF gY gN tS).1) ((nI many).toInt64))), (5, .int ((keS gS gF gY gN tS).2.2)), (4, .int ((keS gS gF gY gN tS).2.1)), (2, .long ((keS gS gF gY gN tS).1)), (0, .ref m), (1, .int (nI many))] [.long (f_T_down ((keS gS gF gY gN tS).1) ((nI many).toInt64))] [(m, .inr (5, (.int (nI tS) :: .int tD :: .int tE :: .long tN :: .int (bI tA) :: .long tL :: .ref aK :: .ref aP :: .ref aQ :: .ref aT :: .ref aW :: .ref aO :: .ref aM :: .ref aL :: .ref aH :: .ref aI :: .ref aS :: .ref aR :: .ref aX :: .ref aF :: .ref aY :: .ref aJ :: .long tl :: .long tg :: .int (bI tB) :: .int tM :: .int tb :: .long tv :: .long tw :: .long tT :: .long tr :: .long tm :: .long tf :: .ref aG :: .ref aE :: .ref aU :: []))), (aS, .inl (κ.z 0, 6, .inl gS)), (aF, .inl (κ.z 1, 6, .inr (.inl gF))), (aY, .inl (κ.z 1, 6, .inr (.inl gY))), (aJ, .inl (κ.z 2, 6, .inl (aB gN)))]
  refine v_aload_n X 4 d_T_keep_91 rfl ?_
  refine v_get X 0 22 rfl rfl li_T (by decide) m449 rfl d_T_keep_92 ?_
  suffices hm95 : V κ 8 0 0 125 [(6, .long (f_T_down ((keS gS gF gY gN tS).1) ((nI many).toInt64))), (5, .int ((keS gS gF gY gN tS).2.2)), (4, .int ((keS gS gF gY gN tS).2.1)), (2, .long ((keS gS gF gY gN tS).1)), (0, .ref m), (1, .int (nI many))] [.long (if tl ≤ (f_T_down ((keS gS gF gY gN tS).1) ((nI many).toInt64)) then if (f_T_down ((keS gS gF gY gN tS).1) ((nI many).toInt64)) ≤ tg then f_T_down ((keS gS gF gY gN tS).1) ((nI many).toInt64) else tg else tl)] [(m, .inr (5, (.int (nI tS) :: .int tD :: .int tE :: .long tN :: .int (bI tA) :: .long tL :: .ref aK :: .ref aP :: .ref aQ :: .ref aT :: .ref aW :: .ref aO :: .ref aM :: .ref aL :: .ref aH :: .ref aI :: .ref aS :: .ref aR :: .ref aX :: .ref aF :: .ref aY :: .ref aJ :: .long tl :: .long tg :: .int (bI tB) :: .int tM :: .int tb :: .long tv :: .long tw :: .long tT :: .long tr :: .long tm :: .long tf :: .ref aG :: .ref aE :: .ref aU :: []))), (aS, .inl (κ.z 0, 6, .inl gS)), (aF, .inl (κ.z 1, 6, .inr (.inl gF))), (aY, .inl (κ.z 1, 6, .inr (.inl gY))), (aJ, .inl (κ.z 2, 6, .inl (aB gN)))] by
    refine v_lcmp_ge X 106 d_T_keep_95 d_T_keep_96 (by decide) (fun c95 => ?_) (fun c95 => ?_)
    · skip
      refine v_lload X 0 d_T_keep_106 rfl ?_
      refine v_aload_n X 4 d_T_keep_108 rfl ?_
      refine v_get X 0 23 rfl rfl li_T (by decide) m450 rfl d_T_keep_109 ?_
      suffices hm112 : V κ 8 0 0 125 [(6, .long (f_T_down ((keS gS gF gY gN tS).1) ((nI many).toInt64))), (5, .int ((keS gS gF gY gN tS).2.2)), (4, .int ((keS gS gF gY gN tS).2.1)), (2, .long ((keS gS gF gY gN tS).1)), (0, .ref m), (1, .int (nI many))] [.long (if (f_T_down ((keS gS gF gY gN tS).1) ((nI many).toInt64)) ≤ tg then f_T_down ((keS gS gF gY gN tS).1) ((nI many).toInt64) else tg)] [(m, .inr (5, (.int (nI tS) :: .int tD :: .int tE :: .long tN :: .int (bI tA) :: .long tL :: .ref aK :: .ref aP :: .ref aQ :: .ref aT :: .ref aW :: .ref aO :: .ref aM :: .ref aL :: .ref aH :: .ref aI :: .ref aS :: .ref aR :: .ref aX :: .ref aF :: .ref aY :: .ref aJ :: .long tl :: .long tg :: .int (bI tB) :: .int tM :: .int tb :: .long tv :: .long tw :: .long tT :: .long tr :: .long tm :: .long tf :: .ref aG :: .ref aE :: .ref aU :: []))), (aS, .inl (κ.z 0, 6, .inl gS)), (aF, .inl (κ.z 1, 6, .inr (.inl gF))), (aY, .inl (κ.z 1, 6, .inr (.inl gY))), (aJ, .inl (κ.z 2, 6, .inl (aB gN)))] by
        refine v_lcmp_le X 123 d_T_keep_112 d_T_keep_113 (by decide) (fun c112 => ?_) (fun c112 => ?_)
        · skip
          refine v_lload X 0 d_T_keep_123 rfl ?_
          have h9 := hm112; simp only [if_pos c112] at h9; first | exact h9 | (simp only [if_pos c112]; exact h9)
        · skip
          refine v_aload_n X 4 d_T_keep_116 rfl ?_
          refine v_get X 0 23 rfl rfl li_T (by decide) m450 rfl d_T_keep_117 ?_
          refine v_goto X 125 d_T_keep_120 (by decide) ?_
          have h9 := hm112; simp only [if_neg c112] at h9; first | exact h9 | (simp only [if_neg c112]; exact h9)
      have h9 := hm95; simp only [if_pos c95] at h9; first | exact h9 | (simp only [if_pos c95]; exact h9)
    · skip
      refine v_aload_n X 4 d_T_keep_99 rfl ?_
      refine v_get X 0 22 rfl rfl li_T (by decide) m449 rfl d_T_keep_100 ?_
      refine v_goto X 125 d_T_keep_103 (by decide) ?_
      have h9 := hm95; simp only [if_neg c95] at h9; first | exact h9 | (simp only [if_neg c95]; exact h9)
  refine v_lstore X d_T_keep_125 (by decide) (lv' := [(6, .long (if tl ≤ (f_T_down ((keS gS gF gY gN tS).1) ((nI many).toInt64)) then if (f_T_down ((keS gS gF gY gN tS).1) ((nI many).toInt64)) ≤ tg then f_T_down ((keS gS gF gY gN tS).1) ((nI many).toInt64) else tg else tl)), (5, .int ((keS gS gF gY gN tS).2.2)), (4, .int ((keS gS gF gY gN tS).2.1)), (2, .long ((keS gS gF gY gN tS).1)), (0, .ref m), (1, .int (nI many))]) rfl ?_
  refine v_aload_n X 4 d_T_keep_127 rfl ?_
  refine v_aload_n X 4 d_T_keep_128 rfl ?_
  refine v_get X 0 24 rfl rfl li_T (by decide) m451 rfl d_T_keep_129 ?_
  suffices hm132 : V κ 8 0 0 144 [(6, .long (if tl ≤ (f_T_down ((keS gS gF gY gN tS).1) ((nI many).toInt64)) then if (f_T_down ((keS gS gF gY gN tS).1) ((nI many).toInt64)) ≤ tg then f_T_down ((keS gS gF gY gN tS).1) ((nI many).toInt64) else tg else tl)), (5, .int ((keS gS gF gY gN tS).2.2)), (4, .int ((keS gS gF gY gN tS).2.1)), (2, .long ((keS gS gF gY gN tS).1)), (0, .ref m), (1, .int (nI many))] [.long (if tB = true then f_T_offset tN tT tm tf else if tl ≤ (f_T_down ((keS gS gF gY gN tS).1) ((nI many).toInt64)) then if (f_T_down ((keS gS gF gY gN tS).1) ((nI many).toInt64)) ≤ tg then f_T_down ((keS gS gF gY gN tS).1) ((nI many).toInt64) else tg else tl), .ref m] [(m, .inr (5, (.int (nI tS) :: .int tD :: .int tE :: .long tN :: .int (bI tA) :: .long tL :: .ref aK :: .ref aP :: .ref aQ :: .ref aT :: .ref aW :: .ref aO :: .ref aM :: .ref aL :: .ref aH :: .ref aI :: .ref aS :: .ref aR :: .ref aX :: .ref aF :: .ref aY :: .ref aJ :: .long tl :: .long tg :: .int (bI tB) :: .int tM :: .int tb :: .long tv :: .long tw :: .long tT :: .long tr :: .long tm :: .long tf :: .ref aG :: .ref aE :: .ref aU :: []))), (aS, .inl (κ.z 0, 6, .inl gS)), (aF, .inl (κ.z 1, 6, .inr (.inl gF))), (aY, .inl (κ.z 1, 6, .inr (.inl gY))), (aJ, .inl (κ.z 2, 6, .inl (aB gN)))] by
    refine v_ifB_eq X 142 (t := tB) d_T_keep_132 (by decide) (fun c132 => ?_) (fun c132 => ?_)
    · skip
      refine v_lload X 0 d_T_keep_142 rfl ?_
      have h9 := hm132; simp only [if_neg c132] at h9; first | exact h9 | (simp only [if_neg c132]; exact h9)
    · skip
      refine v_aload_n X 4 d_T_keep_135 rfl ?_
      refine v_callV X (b := m) (k := 0) (n := 0) (n9 := 0) (As := []) (rest := [.ref m]) (wc := [(m, .inr (5, (.int (nI tS) :: .int tD :: .int tE :: .long tN :: .int (bI tA) :: .long tL :: .ref aK :: .ref aP :: .ref aQ :: .ref aT :: .ref aW :: .ref aO :: .ref aM :: .ref aL :: .ref aH :: .ref aI :: .ref aS :: .ref aR :: .ref aX :: .ref aF :: .ref aY :: .ref aJ :: .long tl :: .long tg :: .int (bI tB) :: .int tM :: .int tb :: .long tv :: .long tw :: .long tT :: .long tr :: .long tm :: .long tf :: .ref aG :: .ref aE :: .ref aU :: [])))]) (wr := [(aS, .inl (κ.z 0, 6, .inl gS)), (aF, .inl (κ.z 1, 6, .inr (.inl gF))), (aY, .inl (κ.z 1, 6, .inr (.inl gY))), (aJ, .inl (κ.z 2, 6, .inl (aB gN)))]) (c_T_offset κ.l κ.D κ.z m tS tD tE tN tA tL aK aP aQ aT aW aO aM aL aH aI aS aR aX aF aY aJ tl tg tB tM tb tv tw tT tr tm tf aG aE aU ) 0 rfl rfl m593 m594 m28 m36 (by decide +kernel) rfl (Nat.le_of_ble_eq_true rfl) ⟨by decide, by decide⟩ ⟨by decide, by decide⟩ rfl rfl m595 d_T_keep_136 (fun v w1 hg => ?_)
      obtain ⟨rfl, rfl⟩ := hg
      show V κ 8 0 0 139 [(6, .long (if tl ≤ (f_T_down ((keS gS gF gY gN tS).1) ((nI many).toInt64)) then if (f_T_down ((keS gS gF gY gN tS).1) ((nI many).toInt64)) ≤ tg then f_T_down ((keS gS gF gY gN tS).1) ((nI many).toInt64) else tg else tl)), (5, .int ((keS gS gF gY gN tS).2.2)), (4, .int ((keS gS gF gY gN tS).2.1)), (2, .long ((keS gS gF gY gN tS).1)), (0, .ref m), (1, .int (nI many))] [.long (f_T_offset tN tT tm tf), .ref m] [(m, .inr (5, (.int (nI tS) :: .int tD :: .int tE :: .long tN :: .int (bI tA) :: .long tL :: .ref aK :: .ref aP :: .ref aQ :: .ref aT :: .ref aW :: .ref aO :: .ref aM :: .ref aL :: .ref aH :: .ref aI :: .ref aS :: .ref aR :: .ref aX :: .ref aF :: .ref aY :: .ref aJ :: .long tl :: .long tg :: .int (bI tB) :: .int tM :: .int tb :: .long tv :: .long tw :: .long tT :: .long tr :: .long tm :: .long tf :: .ref aG :: .ref aE :: .ref aU :: []))), (aS, .inl (κ.z 0, 6, .inl gS)), (aF, .inl (κ.z 1, 6, .inr (.inl gF))), (aY, .inl (κ.z 1, 6, .inr (.inl gY))), (aJ, .inl (κ.z 2, 6, .inl (aB gN)))]
      refine v_goto X 144 d_T_keep_139 (by decide) ?_
      have h9 := hm132; simp only [if_pos c132] at h9; first | exact h9 | (simp only [if_pos c132]; exact h9)
  refine v_put X 0 32 (v := .long (if tB = true then f_T_offset tN tT tm tf else if tl ≤ (f_T_down ((keS gS gF gY gN tS).1) ((nI many).toInt64)) then if (f_T_down ((keS gS gF gY gN tS).1) ((nI many).toInt64)) ≤ tg then f_T_down ((keS gS gF gY gN tS).1) ((nI many).toInt64) else tg else tl)) (ty := .long) ty_T tk_T n_T rfl rfl li_T (by decide) m459 rfl (by decide +kernel) rfl rfl (Nat.le_of_ble_eq_true rfl) d_T_keep_144 (ws' := [(m, .inr (5, (.int (nI tS) :: .int tD :: .int tE :: .long tN :: .int (bI tA) :: .long tL :: .ref aK :: .ref aP :: .ref aQ :: .ref aT :: .ref aW :: .ref aO :: .ref aM :: .ref aL :: .ref aH :: .ref aI :: .ref aS :: .ref aR :: .ref aX :: .ref aF :: .ref aY :: .ref aJ :: .long tl :: .long tg :: .int (bI tB) :: .int tM :: .int tb :: .long tv :: .long tw :: .long tT :: .long tr :: .long tm :: .long (if tB = true then f_T_offset tN tT tm tf else if tl ≤ (f_T_down ((keS gS gF gY gN tS).1) ((nI many).toInt64)) then if (f_T_down ((keS gS gF gY gN tS).1) ((nI many).toInt64)) ≤ tg then f_T_down ((keS gS gF gY gN tS).1) ((nI many).toInt64) else tg else tl) :: .ref aG :: .ref aE :: .ref aU :: []))), (aS, .inl (κ.z 0, 6, .inl gS)), (aF, .inl (κ.z 1, 6, .inr (.inl gF))), (aY, .inl (κ.z 1, 6, .inr (.inl gY))), (aJ, .inl (κ.z 2, 6, .inl (aB gN)))]) rfl ?_
  refine v_aload_n X 4 d_T_keep_147 rfl ?_
  refine v_iconst X 1 d_T_keep_148 (by decide) ?_
  refine v_put X 0 24 (v := .int (bI true)) (ty := .boolean) ty_T tk_T n_T rfl rfl li_T (by decide) m451 rfl (by decide +kernel) (narB _) rfl (Nat.le_of_ble_eq_true rfl) d_T_keep_149 (ws' := [(m, .inr (5, (.int (nI tS) :: .int tD :: .int tE :: .long tN :: .int (bI tA) :: .long tL :: .ref aK :: .ref aP :: .ref aQ :: .ref aT :: .ref aW :: .ref aO :: .ref aM :: .ref aL :: .ref aH :: .ref aI :: .ref aS :: .ref aR :: .ref aX :: .ref aF :: .ref aY :: .ref aJ :: .long tl :: .long tg :: .int (bI true) :: .int tM :: .int tb :: .long tv :: .long tw :: .long tT :: .long tr :: .long tm :: .long (if tB = true then f_T_offset tN tT tm tf else if tl ≤ (f_T_down ((keS gS gF gY gN tS).1) ((nI many).toInt64)) then if (f_T_down ((keS gS gF gY gN tS).1) ((nI many).toInt64)) ≤ tg then f_T_down ((keS gS gF gY gN tS).1) ((nI many).toInt64) else tg else tl) :: .ref aG :: .ref aE :: .ref aU :: []))), (aS, .inl (κ.z 0, 6, .inl gS)), (aF, .inl (κ.z 1, 6, .inr (.inl gF))), (aY, .inl (κ.z 1, 6, .inr (.inl gY))), (aJ, .inl (κ.z 2, 6, .inl (aB gN)))]) rfl ?_
  refine v_aload_n X 4 d_T_keep_152 rfl ?_
  refine v_lload X 0 d_T_keep_153 rfl ?_
  refine v_put X 0 29 (v := .long (if tl ≤ (f_T_down ((keS gS gF gY gN tS).1) ((nI many).toInt64)) then if (f_T_down ((keS gS gF gY gN tS).1) ((nI many).toInt64)) ≤ tg then f_T_down ((keS gS gF gY gN tS).1) ((nI many).toInt64) else tg else tl)) (ty := .long) ty_T tk_T n_T rfl rfl li_T (by decide) m456 rfl (by decide +kernel) rfl rfl (Nat.le_of_ble_eq_true rfl) d_T_keep_155 (ws' := [(m, .inr (5, (.int (nI tS) :: .int tD :: .int tE :: .long tN :: .int (bI tA) :: .long tL :: .ref aK :: .ref aP :: .ref aQ :: .ref aT :: .ref aW :: .ref aO :: .ref aM :: .ref aL :: .ref aH :: .ref aI :: .ref aS :: .ref aR :: .ref aX :: .ref aF :: .ref aY :: .ref aJ :: .long tl :: .long tg :: .int (bI true) :: .int tM :: .int tb :: .long tv :: .long tw :: .long (if tl ≤ (f_T_down ((keS gS gF gY gN tS).1) ((nI many).toInt64)) then if (f_T_down ((keS gS gF gY gN tS).1) ((nI many).toInt64)) ≤ tg then f_T_down ((keS gS gF gY gN tS).1) ((nI many).toInt64) else tg else tl) :: .long tr :: .long tm :: .long (if tB = true then f_T_offset tN tT tm tf else if tl ≤ (f_T_down ((keS gS gF gY gN tS).1) ((nI many).toInt64)) then if (f_T_down ((keS gS gF gY gN tS).1) ((nI many).toInt64)) ≤ tg then f_T_down ((keS gS gF gY gN tS).1) ((nI many).toInt64) else tg else tl) :: .ref aG :: .ref aE :: .ref aU :: []))), (aS, .inl (κ.z 0, 6, .inl gS)), (aF, .inl (κ.z 1, 6, .inr (.inl gF))), (aY, .inl (κ.z 1, 6, .inr (.inl gY))), (aJ, .inl (κ.z 2, 6, .inl (aB gN)))]) rfl ?_
  show V κ 8 0 0 158 [(6, .long (if tl ≤ (f_T_down ((keS gS gF gY gN tS).1) ((nI many).toInt64)) then if (f_T_down ((keS gS gF gY gN tS).1) ((nI many).toInt64)) ≤ tg then f_T_down ((keS gS gF gY gN tS).1) ((nI many).toInt64) else tg else tl)), (5, .int ((keS gS gF gY gN tS).2.2)), (4, .int ((keS gS gF gY gN tS).2.1)), (2, .long ((keS gS gF gY gN tS).1)), (0, .ref m), (1, .int (nI many))] [] [(m, .inr (5, (.int (nI tS) :: .int tD :: .int tE :: .long tN :: .int (bI tA) :: .long tL :: .ref aK :: .ref aP :: .ref aQ :: .ref aT :: .ref aW :: .ref aO :: .ref aM :: .ref aL :: .ref aH :: .ref aI :: .ref aS :: .ref aR :: .ref aX :: .ref aF :: .ref aY :: .ref aJ :: .long tl :: .long tg :: .int (bI true) :: .int tM :: .int tb :: .long tv :: .long tw :: .long (if tl ≤ (f_T_down ((keS gS gF gY gN tS).1) ((nI many).toInt64)) then if (f_T_down ((keS gS gF gY gN tS).1) ((nI many).toInt64)) ≤ tg then f_T_down ((keS gS gF gY gN tS).1) ((nI many).toInt64) else tg else tl) :: .long tr :: .long tm :: .long (if tB = true then f_T_offset tN tT tm tf else if tl ≤ (f_T_down ((keS gS gF gY gN tS).1) ((nI many).toInt64)) then if (f_T_down ((keS gS gF gY gN tS).1) ((nI many).toInt64)) ≤ tg then f_T_down ((keS gS gF gY gN tS).1) ((nI many).toInt64) else tg else tl) :: .ref aG :: .ref aE :: .ref aU :: []))), (aS, .inl (κ.z 0, 6, .inl gS)), (aF, .inl (κ.z 1, 6, .inr (.inl gF))), (aY, .inl (κ.z 1, 6, .inr (.inl gY))), (aJ, .inl (κ.z 2, 6, .inl (aB gN)))]
  refine v_aload_n X 4 d_T_keep_158 rfl ?_
  refine v_aload_n X 4 d_T_keep_159 rfl ?_
  refine v_get X 0 22 rfl rfl li_T (by decide) m449 rfl d_T_keep_160 ?_
  refine v_put X 0 27 (v := .long tl) (ty := .long) ty_T tk_T n_T rfl rfl li_T (by decide) m454 rfl (by decide +kernel) rfl rfl (Nat.le_of_ble_eq_true rfl) d_T_keep_163 (ws' := [(m, .inr (5, (.int (nI tS) :: .int tD :: .int tE :: .long tN :: .int (bI tA) :: .long tL :: .ref aK :: .ref aP :: .ref aQ :: .ref aT :: .ref aW :: .ref aO :: .ref aM :: .ref aL :: .ref aH :: .ref aI :: .ref aS :: .ref aR :: .ref aX :: .ref aF :: .ref aY :: .ref aJ :: .long tl :: .long tg :: .int (bI true) :: .int tM :: .int tb :: .long tl :: .long tw :: .long (if tl ≤ (f_T_down ((keS gS gF gY gN tS).1) ((nI many).toInt64)) then if (f_T_down ((keS gS gF gY gN tS).1) ((nI many).toInt64)) ≤ tg then f_T_down ((keS gS gF gY gN tS).1) ((nI many).toInt64) else tg else tl) :: .long tr :: .long tm :: .long (if tB = true then f_T_offset tN tT tm tf else if tl ≤ (f_T_down ((keS gS gF gY gN tS).1) ((nI many).toInt64)) then if (f_T_down ((keS gS gF gY gN tS).1) ((nI many).toInt64)) ≤ tg then f_T_down ((keS gS gF gY gN tS).1) ((nI many).toInt64) else tg else tl) :: .ref aG :: .ref aE :: .ref aU :: []))), (aS, .inl (κ.z 0, 6, .inl gS)), (aF, .inl (κ.z 1, 6, .inr (.inl gF))), (aY, .inl (κ.z 1, 6, .inr (.inl gY))), (aJ, .inl (κ.z 2, 6, .inl (aB gN)))]) rfl ?_
  refine v_aload_n X 4 d_T_keep_166 rfl ?_
  refine v_aload_n X 4 d_T_keep_167 rfl ?_
  refine v_get X 0 23 rfl rfl li_T (by decide) m450 rfl d_T_keep_168 ?_
  refine v_put X 0 28 (v := .long tg) (ty := .long) ty_T tk_T n_T rfl rfl li_T (by decide) m455 rfl (by decide +kernel) rfl rfl (Nat.le_of_ble_eq_true rfl) d_T_keep_171 (ws' := [(m, .inr (5, (.int (nI tS) :: .int tD :: .int tE :: .long tN :: .int (bI tA) :: .long tL :: .ref aK :: .ref aP :: .ref aQ :: .ref aT :: .ref aW :: .ref aO :: .ref aM :: .ref aL :: .ref aH :: .ref aI :: .ref aS :: .ref aR :: .ref aX :: .ref aF :: .ref aY :: .ref aJ :: .long tl :: .long tg :: .int (bI true) :: .int tM :: .int tb :: .long tl :: .long tg :: .long (if tl ≤ (f_T_down ((keS gS gF gY gN tS).1) ((nI many).toInt64)) then if (f_T_down ((keS gS gF gY gN tS).1) ((nI many).toInt64)) ≤ tg then f_T_down ((keS gS gF gY gN tS).1) ((nI many).toInt64) else tg else tl) :: .long tr :: .long tm :: .long (if tB = true then f_T_offset tN tT tm tf else if tl ≤ (f_T_down ((keS gS gF gY gN tS).1) ((nI many).toInt64)) then if (f_T_down ((keS gS gF gY gN tS).1) ((nI many).toInt64)) ≤ tg then f_T_down ((keS gS gF gY gN tS).1) ((nI many).toInt64) else tg else tl) :: .ref aG :: .ref aE :: .ref aU :: []))), (aS, .inl (κ.z 0, 6, .inl gS)), (aF, .inl (κ.z 1, 6, .inr (.inl gF))), (aY, .inl (κ.z 1, 6, .inr (.inl gY))), (aJ, .inl (κ.z 2, 6, .inl (aB gN)))]) rfl ?_
  refine v_aload_n X 4 d_T_keep_174 rfl ?_
  refine v_lload X 0 d_T_keep_175 rfl ?_
  refine v_aload_n X 4 d_T_keep_177 rfl ?_
  refine v_get X 0 22 rfl rfl li_T (by decide) m449 rfl d_T_keep_178 ?_
  refine v_lsub X d_T_keep_181 ?_
  refine v_aload_n X 4 d_T_keep_182 rfl ?_
  refine v_get X 0 23 rfl rfl li_T (by decide) m450 rfl d_T_keep_183 ?_
  show V κ 8 0 0 186 [(6, .long (if tl ≤ (f_T_down ((keS gS gF gY gN tS).1) ((nI many).toInt64)) then if (f_T_down ((keS gS gF gY gN tS).1) ((nI many).toInt64)) ≤ tg then f_T_down ((keS gS gF gY gN tS).1) ((nI many).toInt64) else tg else tl)), (5, .int ((keS gS gF gY gN tS).2.2)), (4, .int ((keS gS gF gY gN tS).2.1)), (2, .long ((keS gS gF gY gN tS).1)), (0, .ref m), (1, .int (nI many))] [.long tg, .long ((if tl ≤ (f_T_down ((keS gS gF gY gN tS).1) ((nI many).toInt64)) then if (f_T_down ((keS gS gF gY gN tS).1) ((nI many).toInt64)) ≤ tg then f_T_down ((keS gS gF gY gN tS).1) ((nI many).toInt64) else tg else tl) - tl), .ref m] [(m, .inr (5, (.int (nI tS) :: .int tD :: .int tE :: .long tN :: .int (bI tA) :: .long tL :: .ref aK :: .ref aP :: .ref aQ :: .ref aT :: .ref aW :: .ref aO :: .ref aM :: .ref aL :: .ref aH :: .ref aI :: .ref aS :: .ref aR :: .ref aX :: .ref aF :: .ref aY :: .ref aJ :: .long tl :: .long tg :: .int (bI true) :: .int tM :: .int tb :: .long tl :: .long tg :: .long (if tl ≤ (f_T_down ((keS gS gF gY gN tS).1) ((nI many).toInt64)) then if (f_T_down ((keS gS gF gY gN tS).1) ((nI many).toInt64)) ≤ tg then f_T_down ((keS gS gF gY gN tS).1) ((nI many).toInt64) else tg else tl) :: .long tr :: .long tm :: .long (if tB = true then f_T_offset tN tT tm tf else if tl ≤ (f_T_down ((keS gS gF gY gN tS).1) ((nI many).toInt64)) then if (f_T_down ((keS gS gF gY gN tS).1) ((nI many).toInt64)) ≤ tg then f_T_down ((keS gS gF gY gN tS).1) ((nI many).toInt64) else tg else tl) :: .ref aG :: .ref aE :: .ref aU :: []))), (aS, .inl (κ.z 0, 6, .inl gS)), (aF, .inl (κ.z 1, 6, .inr (.inl gF))), (aY, .inl (κ.z 1, 6, .inr (.inl gY))), (aJ, .inl (κ.z 2, 6, .inl (aB gN)))]
  refine v_lload X 0 d_T_keep_186 rfl ?_
  refine v_lsub X d_T_keep_188 ?_
  suffices hm189 : V κ 8 0 0 210 [(6, .long (if tl ≤ (f_T_down ((keS gS gF gY gN tS).1) ((nI many).toInt64)) then if (f_T_down ((keS gS gF gY gN tS).1) ((nI many).toInt64)) ≤ tg then f_T_down ((keS gS gF gY gN tS).1) ((nI many).toInt64) else tg else tl)), (5, .int ((keS gS gF gY gN tS).2.2)), (4, .int ((keS gS gF gY gN tS).2.1)), (2, .long ((keS gS gF gY gN tS).1)), (0, .ref m), (1, .int (nI many))] [.long (if ((if tl ≤ (f_T_down ((keS gS gF gY gN tS).1) ((nI many).toInt64)) then if (f_T_down ((keS gS gF gY gN tS).1) ((nI many).toInt64)) ≤ tg then f_T_down ((keS gS gF gY gN tS).1) ((nI many).toInt64) else tg else tl) - tl) ≤ (tg - (if tl ≤ (f_T_down ((keS gS gF gY gN tS).1) ((nI many).toInt64)) then if (f_T_down ((keS gS gF gY gN tS).1) ((nI many).toInt64)) ≤ tg then f_T_down ((keS gS gF gY gN tS).1) ((nI many).toInt64) else tg else tl)) then tg - (if tl ≤ (f_T_down ((keS gS gF gY gN tS).1) ((nI many).toInt64)) then if (f_T_down ((keS gS gF gY gN tS).1) ((nI many).toInt64)) ≤ tg then f_T_down ((keS gS gF gY gN tS).1) ((nI many).toInt64) else tg else tl) else (if tl ≤ (f_T_down ((keS gS gF gY gN tS).1) ((nI many).toInt64)) then if (f_T_down ((keS gS gF gY gN tS).1) ((nI many).toInt64)) ≤ tg then f_T_down ((keS gS gF gY gN tS).1) ((nI many).toInt64) else tg else tl) - tl), .ref m] [(m, .inr (5, (.int (nI tS) :: .int tD :: .int tE :: .long tN :: .int (bI tA) :: .long tL :: .ref aK :: .ref aP :: .ref aQ :: .ref aT :: .ref aW :: .ref aO :: .ref aM :: .ref aL :: .ref aH :: .ref aI :: .ref aS :: .ref aR :: .ref aX :: .ref aF :: .ref aY :: .ref aJ :: .long tl :: .long tg :: .int (bI true) :: .int tM :: .int tb :: .long tl :: .long tg :: .long (if tl ≤ (f_T_down ((keS gS gF gY gN tS).1) ((nI many).toInt64)) then if (f_T_down ((keS gS gF gY gN tS).1) ((nI many).toInt64)) ≤ tg then f_T_down ((keS gS gF gY gN tS).1) ((nI many).toInt64) else tg else tl) :: .long tr :: .long tm :: .long (if tB = true then f_T_offset tN tT tm tf else if tl ≤ (f_T_down ((keS gS gF gY gN tS).1) ((nI many).toInt64)) then if (f_T_down ((keS gS gF gY gN tS).1) ((nI many).toInt64)) ≤ tg then f_T_down ((keS gS gF gY gN tS).1) ((nI many).toInt64) else tg else tl) :: .ref aG :: .ref aE :: .ref aU :: []))), (aS, .inl (κ.z 0, 6, .inl gS)), (aF, .inl (κ.z 1, 6, .inr (.inl gF))), (aY, .inl (κ.z 1, 6, .inr (.inl gY))), (aJ, .inl (κ.z 2, 6, .inl (aB gN)))] by
    refine v_lcmp_le X 203 d_T_keep_189 d_T_keep_190 (by decide) (fun c189 => ?_) (fun c189 => ?_)
    · skip
      refine v_aload_n X 4 d_T_keep_203 rfl ?_
      refine v_get X 0 23 rfl rfl li_T (by decide) m450 rfl d_T_keep_204 ?_
      refine v_lload X 0 d_T_keep_207 rfl ?_
      refine v_lsub X d_T_keep_209 ?_
      have h9 := hm189; simp only [if_pos c189] at h9; first | exact h9 | (simp only [if_pos c189]; exact h9)
    · skip
      refine v_lload X 0 d_T_keep_193 rfl ?_
      refine v_aload_n X 4 d_T_keep_195 rfl ?_
      refine v_get X 0 22 rfl rfl li_T (by decide) m449 rfl d_T_keep_196 ?_
      refine v_lsub X d_T_keep_199 ?_
      refine v_goto X 210 d_T_keep_200 (by decide) ?_
      have h9 := hm189; simp only [if_neg c189] at h9; first | exact h9 | (simp only [if_neg c189]; exact h9)
  refine v_put X 0 30 (v := .long (if ((if tl ≤ (f_T_down ((keS gS gF gY gN tS).1) ((nI many).toInt64)) then if (f_T_down ((keS gS gF gY gN tS).1) ((nI many).toInt64)) ≤ tg then f_T_down ((keS gS gF gY gN tS).1) ((nI many).toInt64) else tg else tl) - tl) ≤ (tg - (if tl ≤ (f_T_down ((keS gS gF gY gN tS).1) ((nI many).toInt64)) then if (f_T_down ((keS gS gF gY gN tS).1) ((nI many).toInt64)) ≤ tg then f_T_down ((keS gS gF gY gN tS).1) ((nI many).toInt64) else tg else tl)) then tg - (if tl ≤ (f_T_down ((keS gS gF gY gN tS).1) ((nI many).toInt64)) then if (f_T_down ((keS gS gF gY gN tS).1) ((nI many).toInt64)) ≤ tg then f_T_down ((keS gS gF gY gN tS).1) ((nI many).toInt64) else tg else tl) else (if tl ≤ (f_T_down ((keS gS gF gY gN tS).1) ((nI many).toInt64)) then if (f_T_down ((keS gS gF gY gN tS).1) ((nI many).toInt64)) ≤ tg then f_T_down ((keS gS gF gY gN tS).1) ((nI many).toInt64) else tg else tl) - tl)) (ty := .long) ty_T tk_T n_T rfl rfl li_T (by decide) m457 rfl (by decide +kernel) rfl rfl (Nat.le_of_ble_eq_true rfl) d_T_keep_210 (ws' := [(m, .inr (5, (.int (nI tS) :: .int tD :: .int tE :: .long tN :: .int (bI tA) :: .long tL :: .ref aK :: .ref aP :: .ref aQ :: .ref aT :: .ref aW :: .ref aO :: .ref aM :: .ref aL :: .ref aH :: .ref aI :: .ref aS :: .ref aR :: .ref aX :: .ref aF :: .ref aY :: .ref aJ :: .long tl :: .long tg :: .int (bI true) :: .int tM :: .int tb :: .long tl :: .long tg :: .long (if tl ≤ (f_T_down ((keS gS gF gY gN tS).1) ((nI many).toInt64)) then if (f_T_down ((keS gS gF gY gN tS).1) ((nI many).toInt64)) ≤ tg then f_T_down ((keS gS gF gY gN tS).1) ((nI many).toInt64) else tg else tl) :: .long (if ((if tl ≤ (f_T_down ((keS gS gF gY gN tS).1) ((nI many).toInt64)) then if (f_T_down ((keS gS gF gY gN tS).1) ((nI many).toInt64)) ≤ tg then f_T_down ((keS gS gF gY gN tS).1) ((nI many).toInt64) else tg else tl) - tl) ≤ (tg - (if tl ≤ (f_T_down ((keS gS gF gY gN tS).1) ((nI many).toInt64)) then if (f_T_down ((keS gS gF gY gN tS).1) ((nI many).toInt64)) ≤ tg then f_T_down ((keS gS gF gY gN tS).1) ((nI many).toInt64) else tg else tl)) then tg - (if tl ≤ (f_T_down ((keS gS gF gY gN tS).1) ((nI many).toInt64)) then if (f_T_down ((keS gS gF gY gN tS).1) ((nI many).toInt64)) ≤ tg then f_T_down ((keS gS gF gY gN tS).1) ((nI many).toInt64) else tg else tl) else (if tl ≤ (f_T_down ((keS gS gF gY gN tS).1) ((nI many).toInt64)) then if (f_T_down ((keS gS gF gY gN tS).1) ((nI many).toInt64)) ≤ tg then f_T_down ((keS gS gF gY gN tS).1) ((nI many).toInt64) else tg else tl) - tl) :: .long tm :: .long (if tB = true then f_T_offset tN tT tm tf else if tl ≤ (f_T_down ((keS gS gF gY gN tS).1) ((nI many).toInt64)) then if (f_T_down ((keS gS gF gY gN tS).1) ((nI many).toInt64)) ≤ tg then f_T_down ((keS gS gF gY gN tS).1) ((nI many).toInt64) else tg else tl) :: .ref aG :: .ref aE :: .ref aU :: []))), (aS, .inl (κ.z 0, 6, .inl gS)), (aF, .inl (κ.z 1, 6, .inr (.inl gF))), (aY, .inl (κ.z 1, 6, .inr (.inl gY))), (aJ, .inl (κ.z 2, 6, .inl (aB gN)))]) rfl ?_
  refine v_aload_n X 4 d_T_keep_213 rfl ?_
  refine v_aload_n X 4 d_T_keep_214 rfl ?_
  refine v_get X 0 3 rfl rfl li_T (by decide) m430 rfl d_T_keep_215 ?_
  refine v_put X 0 31 (v := .long tN) (ty := .long) ty_T tk_T n_T rfl rfl li_T (by decide) m458 rfl (by decide +kernel) rfl rfl (Nat.le_of_ble_eq_true rfl) d_T_keep_218 (ws' := [(m, .inr (5, (.int (nI tS) :: .int tD :: .int tE :: .long tN :: .int (bI tA) :: .long tL :: .ref aK :: .ref aP :: .ref aQ :: .ref aT :: .ref aW :: .ref aO :: .ref aM :: .ref aL :: .ref aH :: .ref aI :: .ref aS :: .ref aR :: .ref aX :: .ref aF :: .ref aY :: .ref aJ :: .long tl :: .long tg :: .int (bI true) :: .int tM :: .int tb :: .long tl :: .long tg :: .long (if tl ≤ (f_T_down ((keS gS gF gY gN tS).1) ((nI many).toInt64)) then if (f_T_down ((keS gS gF gY gN tS).1) ((nI many).toInt64)) ≤ tg then f_T_down ((keS gS gF gY gN tS).1) ((nI many).toInt64) else tg else tl) :: .long (if ((if tl ≤ (f_T_down ((keS gS gF gY gN tS).1) ((nI many).toInt64)) then if (f_T_down ((keS gS gF gY gN tS).1) ((nI many).toInt64)) ≤ tg then f_T_down ((keS gS gF gY gN tS).1) ((nI many).toInt64) else tg else tl) - tl) ≤ (tg - (if tl ≤ (f_T_down ((keS gS gF gY gN tS).1) ((nI many).toInt64)) then if (f_T_down ((keS gS gF gY gN tS).1) ((nI many).toInt64)) ≤ tg then f_T_down ((keS gS gF gY gN tS).1) ((nI many).toInt64) else tg else tl)) then tg - (if tl ≤ (f_T_down ((keS gS gF gY gN tS).1) ((nI many).toInt64)) then if (f_T_down ((keS gS gF gY gN tS).1) ((nI many).toInt64)) ≤ tg then f_T_down ((keS gS gF gY gN tS).1) ((nI many).toInt64) else tg else tl) else (if tl ≤ (f_T_down ((keS gS gF gY gN tS).1) ((nI many).toInt64)) then if (f_T_down ((keS gS gF gY gN tS).1) ((nI many).toInt64)) ≤ tg then f_T_down ((keS gS gF gY gN tS).1) ((nI many).toInt64) else tg else tl) - tl) :: .long tN :: .long (if tB = true then f_T_offset tN tT tm tf else if tl ≤ (f_T_down ((keS gS gF gY gN tS).1) ((nI many).toInt64)) then if (f_T_down ((keS gS gF gY gN tS).1) ((nI many).toInt64)) ≤ tg then f_T_down ((keS gS gF gY gN tS).1) ((nI many).toInt64) else tg else tl) :: .ref aG :: .ref aE :: .ref aU :: []))), (aS, .inl (κ.z 0, 6, .inl gS)), (aF, .inl (κ.z 1, 6, .inr (.inl gF))), (aY, .inl (κ.z 1, 6, .inr (.inl gY))), (aJ, .inl (κ.z 2, 6, .inl (aB gN)))]) rfl ?_
  refine v_aload_n X 4 d_T_keep_221 rfl ?_
  refine v_iload X 2 d_T_keep_222 rfl ?_
  refine v_put X 0 25 (v := .int ((keS gS gF gY gN tS).2.1)) (ty := .int) ty_T tk_T n_T rfl rfl li_T (by decide) m452 rfl (by decide +kernel) rfl rfl (Nat.le_of_ble_eq_true rfl) d_T_keep_224 (ws' := [(m, .inr (5, (.int (nI tS) :: .int tD :: .int tE :: .long tN :: .int (bI tA) :: .long tL :: .ref aK :: .ref aP :: .ref aQ :: .ref aT :: .ref aW :: .ref aO :: .ref aM :: .ref aL :: .ref aH :: .ref aI :: .ref aS :: .ref aR :: .ref aX :: .ref aF :: .ref aY :: .ref aJ :: .long tl :: .long tg :: .int (bI true) :: .int ((keS gS gF gY gN tS).2.1) :: .int tb :: .long tl :: .long tg :: .long (if tl ≤ (f_T_down ((keS gS gF gY gN tS).1) ((nI many).toInt64)) then if (f_T_down ((keS gS gF gY gN tS).1) ((nI many).toInt64)) ≤ tg then f_T_down ((keS gS gF gY gN tS).1) ((nI many).toInt64) else tg else tl) :: .long (if ((if tl ≤ (f_T_down ((keS gS gF gY gN tS).1) ((nI many).toInt64)) then if (f_T_down ((keS gS gF gY gN tS).1) ((nI many).toInt64)) ≤ tg then f_T_down ((keS gS gF gY gN tS).1) ((nI many).toInt64) else tg else tl) - tl) ≤ (tg - (if tl ≤ (f_T_down ((keS gS gF gY gN tS).1) ((nI many).toInt64)) then if (f_T_down ((keS gS gF gY gN tS).1) ((nI many).toInt64)) ≤ tg then f_T_down ((keS gS gF gY gN tS).1) ((nI many).toInt64) else tg else tl)) then tg - (if tl ≤ (f_T_down ((keS gS gF gY gN tS).1) ((nI many).toInt64)) then if (f_T_down ((keS gS gF gY gN tS).1) ((nI many).toInt64)) ≤ tg then f_T_down ((keS gS gF gY gN tS).1) ((nI many).toInt64) else tg else tl) else (if tl ≤ (f_T_down ((keS gS gF gY gN tS).1) ((nI many).toInt64)) then if (f_T_down ((keS gS gF gY gN tS).1) ((nI many).toInt64)) ≤ tg then f_T_down ((keS gS gF gY gN tS).1) ((nI many).toInt64) else tg else tl) - tl) :: .long tN :: .long (if tB = true then f_T_offset tN tT tm tf else if tl ≤ (f_T_down ((keS gS gF gY gN tS).1) ((nI many).toInt64)) then if (f_T_down ((keS gS gF gY gN tS).1) ((nI many).toInt64)) ≤ tg then f_T_down ((keS gS gF gY gN tS).1) ((nI many).toInt64) else tg else tl) :: .ref aG :: .ref aE :: .ref aU :: []))), (aS, .inl (κ.z 0, 6, .inl gS)), (aF, .inl (κ.z 1, 6, .inr (.inl gF))), (aY, .inl (κ.z 1, 6, .inr (.inl gY))), (aJ, .inl (κ.z 2, 6, .inl (aB gN)))]) rfl ?_
  refine v_aload_n X 4 d_T_keep_227 rfl ?_
  refine v_iload X 1 d_T_keep_228 rfl ?_
  refine v_put X 0 26 (v := .int ((keS gS gF gY gN tS).2.2)) (ty := .int) ty_T tk_T n_T rfl rfl li_T (by decide) m453 rfl (by decide +kernel) rfl rfl (Nat.le_of_ble_eq_true rfl) d_T_keep_230 (ws' := [(m, .inr (5, (.int (nI tS) :: .int tD :: .int tE :: .long tN :: .int (bI tA) :: .long tL :: .ref aK :: .ref aP :: .ref aQ :: .ref aT :: .ref aW :: .ref aO :: .ref aM :: .ref aL :: .ref aH :: .ref aI :: .ref aS :: .ref aR :: .ref aX :: .ref aF :: .ref aY :: .ref aJ :: .long tl :: .long tg :: .int (bI true) :: .int ((keS gS gF gY gN tS).2.1) :: .int ((keS gS gF gY gN tS).2.2) :: .long tl :: .long tg :: .long (if tl ≤ (f_T_down ((keS gS gF gY gN tS).1) ((nI many).toInt64)) then if (f_T_down ((keS gS gF gY gN tS).1) ((nI many).toInt64)) ≤ tg then f_T_down ((keS gS gF gY gN tS).1) ((nI many).toInt64) else tg else tl) :: .long (if ((if tl ≤ (f_T_down ((keS gS gF gY gN tS).1) ((nI many).toInt64)) then if (f_T_down ((keS gS gF gY gN tS).1) ((nI many).toInt64)) ≤ tg then f_T_down ((keS gS gF gY gN tS).1) ((nI many).toInt64) else tg else tl) - tl) ≤ (tg - (if tl ≤ (f_T_down ((keS gS gF gY gN tS).1) ((nI many).toInt64)) then if (f_T_down ((keS gS gF gY gN tS).1) ((nI many).toInt64)) ≤ tg then f_T_down ((keS gS gF gY gN tS).1) ((nI many).toInt64) else tg else tl)) then tg - (if tl ≤ (f_T_down ((keS gS gF gY gN tS).1) ((nI many).toInt64)) then if (f_T_down ((keS gS gF gY gN tS).1) ((nI many).toInt64)) ≤ tg then f_T_down ((keS gS gF gY gN tS).1) ((nI many).toInt64) else tg else tl) else (if tl ≤ (f_T_down ((keS gS gF gY gN tS).1) ((nI many).toInt64)) then if (f_T_down ((keS gS gF gY gN tS).1) ((nI many).toInt64)) ≤ tg then f_T_down ((keS gS gF gY gN tS).1) ((nI many).toInt64) else tg else tl) - tl) :: .long tN :: .long (if tB = true then f_T_offset tN tT tm tf else if tl ≤ (f_T_down ((keS gS gF gY gN tS).1) ((nI many).toInt64)) then if (f_T_down ((keS gS gF gY gN tS).1) ((nI many).toInt64)) ≤ tg then f_T_down ((keS gS gF gY gN tS).1) ((nI many).toInt64) else tg else tl) :: .ref aG :: .ref aE :: .ref aU :: []))), (aS, .inl (κ.z 0, 6, .inl gS)), (aF, .inl (κ.z 1, 6, .inr (.inl gF))), (aY, .inl (κ.z 1, 6, .inr (.inl gY))), (aJ, .inl (κ.z 2, 6, .inl (aB gN)))]) rfl ?_
  exact v_vret X Y (by decide) (by decide) d_T_keep_233 ⟨rfl, rfl⟩

set_option maxHeartbeats 4000000 in
set_option maxRecDepth 100000 in
theorem c_T_survivors (l : Launch) (D : va_G) (z : Nat → ClassId) (m : Nat) (tS : Nat) (tD : Int32) (tE : Int32) (tN : Int64) (tA : Bool) (tL : Int64) (aK : Nat) (aP : Nat) (aQ : Nat) (aT : Nat) (aW : Nat) (aO : Nat) (aM : Nat) (aL : Nat) (aH : Nat) (aI : Nat) (aS : Nat) (aR : Nat) (aX : Nat) (aF : Nat) (aY : Nat) (aJ : Nat) (tl : Int64) (tg : Int64) (tB : Bool) (tM : Int32) (tb : Int32) (tv : Int64) (tw : Int64) (tT : Int64) (tr : Int64) (tm : Int64) (tf : Int64) (aG : Nat) (aE : Nat) (aU : Nat)  : Ctr l D z y_T_survivors b_T_survivors 1 (some .int) { frames := 0, cells := 0, slots := 0, locals := 0 } [.ref m] [(m, .inr (5, (.int (nI tS) :: .int tD :: .int tE :: .long tN :: .int (bI tA) :: .long tL :: .ref aK :: .ref aP :: .ref aQ :: .ref aT :: .ref aW :: .ref aO :: .ref aM :: .ref aL :: .ref aH :: .ref aI :: .ref aS :: .ref aR :: .ref aX :: .ref aF :: .ref aY :: .ref aJ :: .long tl :: .long tg :: .int (bI tB) :: .int tM :: .int tb :: .long tv :: .long tw :: .long tT :: .long tr :: .long tm :: .long tf :: .ref aG :: .ref aE :: .ref aU :: [])))] (fun v w => v = some (.int tM) ∧ w = [(m, .inr (5, (.int (nI tS) :: .int tD :: .int tE :: .long tN :: .int (bI tA) :: .long tL :: .ref aK :: .ref aP :: .ref aQ :: .ref aT :: .ref aW :: .ref aO :: .ref aM :: .ref aL :: .ref aH :: .ref aI :: .ref aS :: .ref aR :: .ref aX :: .ref aF :: .ref aY :: .ref aJ :: .long tl :: .long tg :: .int (bI tB) :: .int tM :: .int tb :: .long tv :: .long tw :: .long tT :: .long tr :: .long tm :: .long tf :: .ref aG :: .ref aE :: .ref aU :: [])))]) 0 0 := by
  refine met_V (own := R_T) (nm := "survivors") (by decide +kernel) rfl rfl (Nat.le_of_ble_eq_true rfl) ?_
  intro κ hl hD hz X Y
  subst hl
  subst hD
  subst hz
  show V κ 1 0 0 0 [(0, .ref m)] [] [(m, .inr (5, (.int (nI tS) :: .int tD :: .int tE :: .long tN :: .int (bI tA) :: .long tL :: .ref aK :: .ref aP :: .ref aQ :: .ref aT :: .ref aW :: .ref aO :: .ref aM :: .ref aL :: .ref aH :: .ref aI :: .ref aS :: .ref aR :: .ref aX :: .ref aF :: .ref aY :: .ref aJ :: .long tl :: .long tg :: .int (bI tB) :: .int tM :: .int tb :: .long tv :: .long tw :: .long tT :: .long tr :: .long tm :: .long tf :: .ref aG :: .ref aE :: .ref aU :: [])))]
  refine v_aload_n X 0 d_T_survivors_0 rfl ?_
  refine v_get X 0 25 rfl rfl li_T (by decide) m452 rfl d_T_survivors_1 ?_
  exact v_iret X Y (by decide) (by decide) d_T_survivors_4 ⟨rfl, rfl⟩

def f_T_stratum (tB : Bool) (tb : Int32) : Int32 := if tB = true then (tb + 1) else 16
set_option maxHeartbeats 4000000 in
set_option maxRecDepth 100000 in
theorem c_T_stratum (l : Launch) (D : va_G) (z : Nat → ClassId) (m : Nat) (tS : Nat) (tD : Int32) (tE : Int32) (tN : Int64) (tA : Bool) (tL : Int64) (aK : Nat) (aP : Nat) (aQ : Nat) (aT : Nat) (aW : Nat) (aO : Nat) (aM : Nat) (aL : Nat) (aH : Nat) (aI : Nat) (aS : Nat) (aR : Nat) (aX : Nat) (aF : Nat) (aY : Nat) (aJ : Nat) (tl : Int64) (tg : Int64) (tB : Bool) (tM : Int32) (tb : Int32) (tv : Int64) (tw : Int64) (tT : Int64) (tr : Int64) (tm : Int64) (tf : Int64) (aG : Nat) (aE : Nat) (aU : Nat)  : Ctr l D z y_T_stratum b_T_stratum 1 (some .int) { frames := 0, cells := 0, slots := 0, locals := 0 } [.ref m] [(m, .inr (5, (.int (nI tS) :: .int tD :: .int tE :: .long tN :: .int (bI tA) :: .long tL :: .ref aK :: .ref aP :: .ref aQ :: .ref aT :: .ref aW :: .ref aO :: .ref aM :: .ref aL :: .ref aH :: .ref aI :: .ref aS :: .ref aR :: .ref aX :: .ref aF :: .ref aY :: .ref aJ :: .long tl :: .long tg :: .int (bI tB) :: .int tM :: .int tb :: .long tv :: .long tw :: .long tT :: .long tr :: .long tm :: .long tf :: .ref aG :: .ref aE :: .ref aU :: [])))] (fun v w => v = some (.int (f_T_stratum tB tb)) ∧ w = [(m, .inr (5, (.int (nI tS) :: .int tD :: .int tE :: .long tN :: .int (bI tA) :: .long tL :: .ref aK :: .ref aP :: .ref aQ :: .ref aT :: .ref aW :: .ref aO :: .ref aM :: .ref aL :: .ref aH :: .ref aI :: .ref aS :: .ref aR :: .ref aX :: .ref aF :: .ref aY :: .ref aJ :: .long tl :: .long tg :: .int (bI tB) :: .int tM :: .int tb :: .long tv :: .long tw :: .long tT :: .long tr :: .long tm :: .long tf :: .ref aG :: .ref aE :: .ref aU :: [])))]) 0 0 := by
  refine met_V (own := R_T) (nm := "stratum") (by decide +kernel) rfl rfl (Nat.le_of_ble_eq_true rfl) ?_
  intro κ hl hD hz X Y
  subst hl
  subst hD
  subst hz
  show V κ 1 0 0 0 [(0, .ref m)] [] [(m, .inr (5, (.int (nI tS) :: .int tD :: .int tE :: .long tN :: .int (bI tA) :: .long tL :: .ref aK :: .ref aP :: .ref aQ :: .ref aT :: .ref aW :: .ref aO :: .ref aM :: .ref aL :: .ref aH :: .ref aI :: .ref aS :: .ref aR :: .ref aX :: .ref aF :: .ref aY :: .ref aJ :: .long tl :: .long tg :: .int (bI tB) :: .int tM :: .int tb :: .long tv :: .long tw :: .long tT :: .long tr :: .long tm :: .long tf :: .ref aG :: .ref aE :: .ref aU :: [])))]
  refine v_aload_n X 0 d_T_stratum_0 rfl ?_
  refine v_get X 0 24 rfl rfl li_T (by decide) m451 rfl d_T_stratum_1 ?_
  suffices hm4 : V κ 1 0 0 18 [(0, .ref m)] [.int (if tB = true then (tb + 1) else 16)] [(m, .inr (5, (.int (nI tS) :: .int tD :: .int tE :: .long tN :: .int (bI tA) :: .long tL :: .ref aK :: .ref aP :: .ref aQ :: .ref aT :: .ref aW :: .ref aO :: .ref aM :: .ref aL :: .ref aH :: .ref aI :: .ref aS :: .ref aR :: .ref aX :: .ref aF :: .ref aY :: .ref aJ :: .long tl :: .long tg :: .int (bI tB) :: .int tM :: .int tb :: .long tv :: .long tw :: .long tT :: .long tr :: .long tm :: .long tf :: .ref aG :: .ref aE :: .ref aU :: [])))] by
    refine v_ifB_eq X 16 (t := tB) d_T_stratum_4 (by decide) (fun c4 => ?_) (fun c4 => ?_)
    · skip
      refine v_bipush X 16 d_T_stratum_16 (by decide) ?_
      have h9 := hm4; simp only [if_neg c4] at h9; first | exact h9 | (simp only [if_neg c4]; exact h9)
    · skip
      refine v_aload_n X 0 d_T_stratum_7 rfl ?_
      refine v_get X 0 26 rfl rfl li_T (by decide) m453 rfl d_T_stratum_8 ?_
      refine v_iconst X 1 d_T_stratum_11 (by decide) ?_
      refine v_iadd X d_T_stratum_12 ?_
      refine v_goto X 18 d_T_stratum_13 (by decide) ?_
      have h9 := hm4; simp only [if_pos c4] at h9; first | exact h9 | (simp only [if_pos c4]; exact h9)
  exact v_iret X Y (by decide) (by decide) d_T_stratum_18 ⟨rfl, rfl⟩

def f_T_time (tN : Int64) (tB : Bool) (tT : Int64) (tm : Int64) (tf : Int64) : Int64 := if tB = true then tN + (f_T_offset tN tT tm tf) else (-4611686018427387904)
set_option maxHeartbeats 4000000 in
set_option maxRecDepth 100000 in
theorem c_T_time (l : Launch) (D : va_G) (z : Nat → ClassId) (m : Nat) (tS : Nat) (tD : Int32) (tE : Int32) (tN : Int64) (tA : Bool) (tL : Int64) (aK : Nat) (aP : Nat) (aQ : Nat) (aT : Nat) (aW : Nat) (aO : Nat) (aM : Nat) (aL : Nat) (aH : Nat) (aI : Nat) (aS : Nat) (aR : Nat) (aX : Nat) (aF : Nat) (aY : Nat) (aJ : Nat) (tl : Int64) (tg : Int64) (tB : Bool) (tM : Int32) (tb : Int32) (tv : Int64) (tw : Int64) (tT : Int64) (tr : Int64) (tm : Int64) (tf : Int64) (aG : Nat) (aE : Nat) (aU : Nat)  : Ctr l D z y_T_time b_T_time 1 (some .long) { frames := 1, cells := 0, slots := 0, locals := 24 } [.ref m] [(m, .inr (5, (.int (nI tS) :: .int tD :: .int tE :: .long tN :: .int (bI tA) :: .long tL :: .ref aK :: .ref aP :: .ref aQ :: .ref aT :: .ref aW :: .ref aO :: .ref aM :: .ref aL :: .ref aH :: .ref aI :: .ref aS :: .ref aR :: .ref aX :: .ref aF :: .ref aY :: .ref aJ :: .long tl :: .long tg :: .int (bI tB) :: .int tM :: .int tb :: .long tv :: .long tw :: .long tT :: .long tr :: .long tm :: .long tf :: .ref aG :: .ref aE :: .ref aU :: [])))] (fun v w => v = some (.long (f_T_time tN tB tT tm tf)) ∧ w = [(m, .inr (5, (.int (nI tS) :: .int tD :: .int tE :: .long tN :: .int (bI tA) :: .long tL :: .ref aK :: .ref aP :: .ref aQ :: .ref aT :: .ref aW :: .ref aO :: .ref aM :: .ref aL :: .ref aH :: .ref aI :: .ref aS :: .ref aR :: .ref aX :: .ref aF :: .ref aY :: .ref aJ :: .long tl :: .long tg :: .int (bI tB) :: .int tM :: .int tb :: .long tv :: .long tw :: .long tT :: .long tr :: .long tm :: .long tf :: .ref aG :: .ref aE :: .ref aU :: [])))]) 0 0 := by
  refine met_V (own := R_T) (nm := "time") (by decide +kernel) rfl rfl (Nat.le_of_ble_eq_true rfl) ?_
  intro κ hl hD hz X Y
  subst hl
  subst hD
  subst hz
  show V κ 1 0 0 0 [(0, .ref m)] [] [(m, .inr (5, (.int (nI tS) :: .int tD :: .int tE :: .long tN :: .int (bI tA) :: .long tL :: .ref aK :: .ref aP :: .ref aQ :: .ref aT :: .ref aW :: .ref aO :: .ref aM :: .ref aL :: .ref aH :: .ref aI :: .ref aS :: .ref aR :: .ref aX :: .ref aF :: .ref aY :: .ref aJ :: .long tl :: .long tg :: .int (bI tB) :: .int tM :: .int tb :: .long tv :: .long tw :: .long tT :: .long tr :: .long tm :: .long tf :: .ref aG :: .ref aE :: .ref aU :: [])))]
  refine v_aload_n X 0 d_T_time_0 rfl ?_
  refine v_get X 0 24 rfl rfl li_T (by decide) m451 rfl d_T_time_1 ?_
  refine v_ifB_ne X 11 (t := tB) d_T_time_4 (by decide) (fun c4 => ?_) (fun c4 => ?_)
  · skip
    refine v_aload_n X 0 d_T_time_11 rfl ?_
    refine v_get X 0 3 rfl rfl li_T (by decide) m430 rfl d_T_time_12 ?_
    refine v_aload_n X 0 d_T_time_15 rfl ?_
    refine v_callV X (b := m) (k := 0) (n := 0) (n9 := 0) (As := []) (rest := [.long tN]) (wc := [(m, .inr (5, (.int (nI tS) :: .int tD :: .int tE :: .long tN :: .int (bI tA) :: .long tL :: .ref aK :: .ref aP :: .ref aQ :: .ref aT :: .ref aW :: .ref aO :: .ref aM :: .ref aL :: .ref aH :: .ref aI :: .ref aS :: .ref aR :: .ref aX :: .ref aF :: .ref aY :: .ref aJ :: .long tl :: .long tg :: .int (bI tB) :: .int tM :: .int tb :: .long tv :: .long tw :: .long tT :: .long tr :: .long tm :: .long tf :: .ref aG :: .ref aE :: .ref aU :: [])))]) (wr := []) (c_T_offset κ.l κ.D κ.z m tS tD tE tN tA tL aK aP aQ aT aW aO aM aL aH aI aS aR aX aF aY aJ tl tg tB tM tb tv tw tT tr tm tf aG aE aU ) 0 rfl rfl m593 m594 m28 m36 (by decide +kernel) rfl (Nat.le_of_ble_eq_true rfl) ⟨by decide, by decide⟩ ⟨by decide, by decide⟩ rfl rfl m595 d_T_time_16 (fun v w1 hg => ?_)
    obtain ⟨rfl, rfl⟩ := hg
    show V κ 1 0 0 19 [(0, .ref m)] [.long (f_T_offset tN tT tm tf), .long tN] [(m, .inr (5, (.int (nI tS) :: .int tD :: .int tE :: .long tN :: .int (bI tA) :: .long tL :: .ref aK :: .ref aP :: .ref aQ :: .ref aT :: .ref aW :: .ref aO :: .ref aM :: .ref aL :: .ref aH :: .ref aI :: .ref aS :: .ref aR :: .ref aX :: .ref aF :: .ref aY :: .ref aJ :: .long tl :: .long tg :: .int (bI tB) :: .int tM :: .int tb :: .long tv :: .long tw :: .long tT :: .long tr :: .long tm :: .long tf :: .ref aG :: .ref aE :: .ref aU :: [])))]
    refine v_ladd X d_T_time_19 ?_
    exact v_lret X Y (by decide) (by decide) d_T_time_20 ⟨by first | (simp only [f_T_time, if_pos c4] <;> rfl) | rfl, rfl⟩
  · skip
    refine v_ldc2 X (v := (-4611686018427387904)) m528 d_T_time_7 ?_
    exact v_lret X Y (by decide) (by decide) d_T_time_10 ⟨by first | (simp only [f_T_time, if_neg c4] <;> rfl) | rfl, rfl⟩

def f_T_bound (tD : Int32) (tN : Int64) (tB : Bool) (tT : Int64) (tr : Int64) (tm : Int64) (tf : Int64) : Int64 := if tB = true then (tr + (f_T_growth tD (tN - tm))) + (if 0 ≤ ((f_T_offset tN tT tm tf) - tT) then (f_T_offset tN tT tm tf) - tT else -((f_T_offset tN tT tm tf) - tT)) else (-4611686018427387904)
set_option maxHeartbeats 4000000 in
set_option maxRecDepth 100000 in
theorem c_T_bound (l : Launch) (D : va_G) (z : Nat → ClassId) (m : Nat) (tS : Nat) (tD : Int32) (tE : Int32) (tN : Int64) (tA : Bool) (tL : Int64) (aK : Nat) (aP : Nat) (aQ : Nat) (aT : Nat) (aW : Nat) (aO : Nat) (aM : Nat) (aL : Nat) (aH : Nat) (aI : Nat) (aS : Nat) (aR : Nat) (aX : Nat) (aF : Nat) (aY : Nat) (aJ : Nat) (tl : Int64) (tg : Int64) (tB : Bool) (tM : Int32) (tb : Int32) (tv : Int64) (tw : Int64) (tT : Int64) (tr : Int64) (tm : Int64) (tf : Int64) (aG : Nat) (aE : Nat) (aU : Nat)  : Ctr l D z y_T_bound b_T_bound 3 (some .long) { frames := 1, cells := 0, slots := 0, locals := 26 } [.ref m] [(m, .inr (5, (.int (nI tS) :: .int tD :: .int tE :: .long tN :: .int (bI tA) :: .long tL :: .ref aK :: .ref aP :: .ref aQ :: .ref aT :: .ref aW :: .ref aO :: .ref aM :: .ref aL :: .ref aH :: .ref aI :: .ref aS :: .ref aR :: .ref aX :: .ref aF :: .ref aY :: .ref aJ :: .long tl :: .long tg :: .int (bI tB) :: .int tM :: .int tb :: .long tv :: .long tw :: .long tT :: .long tr :: .long tm :: .long tf :: .ref aG :: .ref aE :: .ref aU :: [])))] (fun v w => v = some (.long (f_T_bound tD tN tB tT tr tm tf)) ∧ w = [(m, .inr (5, (.int (nI tS) :: .int tD :: .int tE :: .long tN :: .int (bI tA) :: .long tL :: .ref aK :: .ref aP :: .ref aQ :: .ref aT :: .ref aW :: .ref aO :: .ref aM :: .ref aL :: .ref aH :: .ref aI :: .ref aS :: .ref aR :: .ref aX :: .ref aF :: .ref aY :: .ref aJ :: .long tl :: .long tg :: .int (bI tB) :: .int tM :: .int tb :: .long tv :: .long tw :: .long tT :: .long tr :: .long tm :: .long tf :: .ref aG :: .ref aE :: .ref aU :: [])))]) 0 0 := by
  refine met_V (own := R_T) (nm := "bound") (by decide +kernel) rfl rfl (Nat.le_of_ble_eq_true rfl) ?_
  intro κ hl hD hz X Y
  subst hl
  subst hD
  subst hz
  show V κ 3 0 0 0 [(0, .ref m)] [] [(m, .inr (5, (.int (nI tS) :: .int tD :: .int tE :: .long tN :: .int (bI tA) :: .long tL :: .ref aK :: .ref aP :: .ref aQ :: .ref aT :: .ref aW :: .ref aO :: .ref aM :: .ref aL :: .ref aH :: .ref aI :: .ref aS :: .ref aR :: .ref aX :: .ref aF :: .ref aY :: .ref aJ :: .long tl :: .long tg :: .int (bI tB) :: .int tM :: .int tb :: .long tv :: .long tw :: .long tT :: .long tr :: .long tm :: .long tf :: .ref aG :: .ref aE :: .ref aU :: [])))]
  refine v_aload_n X 0 d_T_bound_0 rfl ?_
  refine v_get X 0 24 rfl rfl li_T (by decide) m451 rfl d_T_bound_1 ?_
  refine v_ifB_ne X 11 (t := tB) d_T_bound_4 (by decide) (fun c4 => ?_) (fun c4 => ?_)
  · skip
    refine v_aload_n X 0 d_T_bound_11 rfl ?_
    refine v_callV X (b := m) (k := 0) (n := 0) (n9 := 0) (As := []) (rest := []) (wc := [(m, .inr (5, (.int (nI tS) :: .int tD :: .int tE :: .long tN :: .int (bI tA) :: .long tL :: .ref aK :: .ref aP :: .ref aQ :: .ref aT :: .ref aW :: .ref aO :: .ref aM :: .ref aL :: .ref aH :: .ref aI :: .ref aS :: .ref aR :: .ref aX :: .ref aF :: .ref aY :: .ref aJ :: .long tl :: .long tg :: .int (bI tB) :: .int tM :: .int tb :: .long tv :: .long tw :: .long tT :: .long tr :: .long tm :: .long tf :: .ref aG :: .ref aE :: .ref aU :: [])))]) (wr := []) (c_T_offset κ.l κ.D κ.z m tS tD tE tN tA tL aK aP aQ aT aW aO aM aL aH aI aS aR aX aF aY aJ tl tg tB tM tb tv tw tT tr tm tf aG aE aU ) 0 rfl rfl m593 m594 m28 m36 (by decide +kernel) rfl (Nat.le_of_ble_eq_true rfl) ⟨by decide, by decide⟩ ⟨by decide, by decide⟩ rfl rfl m595 d_T_bound_12 (fun v w1 hg => ?_)
    obtain ⟨rfl, rfl⟩ := hg
    show V κ 3 0 0 15 [(0, .ref m)] [.long (f_T_offset tN tT tm tf)] [(m, .inr (5, (.int (nI tS) :: .int tD :: .int tE :: .long tN :: .int (bI tA) :: .long tL :: .ref aK :: .ref aP :: .ref aQ :: .ref aT :: .ref aW :: .ref aO :: .ref aM :: .ref aL :: .ref aH :: .ref aI :: .ref aS :: .ref aR :: .ref aX :: .ref aF :: .ref aY :: .ref aJ :: .long tl :: .long tg :: .int (bI tB) :: .int tM :: .int tb :: .long tv :: .long tw :: .long tT :: .long tr :: .long tm :: .long tf :: .ref aG :: .ref aE :: .ref aU :: [])))]
    refine v_aload_n X 0 d_T_bound_15 rfl ?_
    refine v_get X 0 29 rfl rfl li_T (by decide) m456 rfl d_T_bound_16 ?_
    refine v_lsub X d_T_bound_19 ?_
    refine v_lstore_n X d_T_bound_20 rfl (by decide) (lv' := [(1, .long ((f_T_offset tN tT tm tf) - tT)), (0, .ref m)]) rfl ?_
    refine v_aload_n X 1 d_T_bound_21 rfl ?_
    refine v_get X 0 30 rfl rfl li_T (by decide) m457 rfl d_T_bound_22 ?_
    refine v_aload_n X 1 d_T_bound_25 rfl ?_
    refine v_aload_n X 1 d_T_bound_26 rfl ?_
    refine v_get X 0 3 rfl rfl li_T (by decide) m430 rfl d_T_bound_27 ?_
    refine v_aload_n X 1 d_T_bound_30 rfl ?_
    refine v_get X 0 31 rfl rfl li_T (by decide) m458 rfl d_T_bound_31 ?_
    refine v_lsub X d_T_bound_34 ?_
    show V κ 3 0 0 35 [(1, .long ((f_T_offset tN tT tm tf) - tT)), (0, .ref m)] [.long (tN - tm), .ref m, .long tr] [(m, .inr (5, (.int (nI tS) :: .int tD :: .int tE :: .long tN :: .int (bI tA) :: .long tL :: .ref aK :: .ref aP :: .ref aQ :: .ref aT :: .ref aW :: .ref aO :: .ref aM :: .ref aL :: .ref aH :: .ref aI :: .ref aS :: .ref aR :: .ref aX :: .ref aF :: .ref aY :: .ref aJ :: .long tl :: .long tg :: .int (bI tB) :: .int tM :: .int tb :: .long tv :: .long tw :: .long tT :: .long tr :: .long tm :: .long tf :: .ref aG :: .ref aE :: .ref aU :: [])))]
    refine v_callV X (b := m) (k := 0) (n := 0) (n9 := 1) (As := [.long (tN - tm)]) (rest := [.long tr]) (wc := [(m, .inr (5, (.int (nI tS) :: .int tD :: .int tE :: .long tN :: .int (bI tA) :: .long tL :: .ref aK :: .ref aP :: .ref aQ :: .ref aT :: .ref aW :: .ref aO :: .ref aM :: .ref aL :: .ref aH :: .ref aI :: .ref aS :: .ref aR :: .ref aX :: .ref aF :: .ref aY :: .ref aJ :: .long tl :: .long tg :: .int (bI tB) :: .int tM :: .int tb :: .long tv :: .long tw :: .long tT :: .long tr :: .long tm :: .long tf :: .ref aG :: .ref aE :: .ref aU :: [])))]) (wr := []) (c_T_growth κ.l κ.D κ.z m tS tD tE tN tA tL aK aP aQ aT aW aO aM aL aH aI aS aR aX aF aY aJ tl tg tB tM tb tv tw tT tr tm tf aG aE aU (tN - tm) ) 0 rfl rfl m552 m553 m19 m36 (by decide +kernel) rfl (Nat.le_of_ble_eq_true rfl) ⟨by decide, by decide⟩ ⟨by decide, by decide⟩ rfl rfl m554 d_T_bound_35 (fun v w1 hg => ?_)
    obtain ⟨rfl, rfl⟩ := hg
    show V κ 3 0 0 38 [(1, .long ((f_T_offset tN tT tm tf) - tT)), (0, .ref m)] [.long (f_T_growth tD (tN - tm)), .long tr] [(m, .inr (5, (.int (nI tS) :: .int tD :: .int tE :: .long tN :: .int (bI tA) :: .long tL :: .ref aK :: .ref aP :: .ref aQ :: .ref aT :: .ref aW :: .ref aO :: .ref aM :: .ref aL :: .ref aH :: .ref aI :: .ref aS :: .ref aR :: .ref aX :: .ref aF :: .ref aY :: .ref aJ :: .long tl :: .long tg :: .int (bI tB) :: .int tM :: .int tb :: .long tv :: .long tw :: .long tT :: .long tr :: .long tm :: .long tf :: .ref aG :: .ref aE :: .ref aU :: [])))]
    refine v_ladd X d_T_bound_38 ?_
    refine v_lload_n X 0 d_T_bound_39 rfl ?_
    refine v_lconst X 0 d_T_bound_40 (by decide) ?_
    suffices hm41 : V κ 3 0 0 51 [(1, .long ((f_T_offset tN tT tm tf) - tT)), (0, .ref m)] [.long (if 0 ≤ ((f_T_offset tN tT tm tf) - tT) then (f_T_offset tN tT tm tf) - tT else -((f_T_offset tN tT tm tf) - tT)), .long (tr + (f_T_growth tD (tN - tm)))] [(m, .inr (5, (.int (nI tS) :: .int tD :: .int tE :: .long tN :: .int (bI tA) :: .long tL :: .ref aK :: .ref aP :: .ref aQ :: .ref aT :: .ref aW :: .ref aO :: .ref aM :: .ref aL :: .ref aH :: .ref aI :: .ref aS :: .ref aR :: .ref aX :: .ref aF :: .ref aY :: .ref aJ :: .long tl :: .long tg :: .int (bI tB) :: .int tM :: .int tb :: .long tv :: .long tw :: .long tT :: .long tr :: .long tm :: .long tf :: .ref aG :: .ref aE :: .ref aU :: [])))] by
      refine v_lcmp_ge X 50 d_T_bound_41 d_T_bound_42 (by decide) (fun c41 => ?_) (fun c41 => ?_)
      · skip
        refine v_lload_n X 0 d_T_bound_50 rfl ?_
        have h9 := hm41; simp only [if_pos c41] at h9; first | exact h9 | (simp only [if_pos c41]; exact h9)
      · skip
        refine v_lload_n X 0 d_T_bound_45 rfl ?_
        refine v_lneg X d_T_bound_46 ?_
        refine v_goto X 51 d_T_bound_47 (by decide) ?_
        have h9 := hm41; simp only [if_neg c41] at h9; first | exact h9 | (simp only [if_neg c41]; exact h9)
    refine v_ladd X d_T_bound_51 ?_
    exact v_lret X Y (by decide) (by decide) d_T_bound_52 ⟨by first | (simp only [f_T_bound, if_pos c4] <;> rfl) | rfl, rfl⟩
  · skip
    refine v_ldc2 X (v := (-4611686018427387904)) m528 d_T_bound_7 ?_
    exact v_lret X Y (by decide) (by decide) d_T_bound_10 ⟨by first | (simp only [f_T_bound, if_neg c4] <;> rfl) | rfl, rfl⟩

def f_T_hull (tB : Bool) (tv : Int64) (tw : Int64) (u : Bool) : Int64 := if tB = true then if u = true then tw else tv else (-4611686018427387904)
set_option maxHeartbeats 4000000 in
set_option maxRecDepth 100000 in
theorem c_T_hull (l : Launch) (D : va_G) (z : Nat → ClassId) (m : Nat) (tS : Nat) (tD : Int32) (tE : Int32) (tN : Int64) (tA : Bool) (tL : Int64) (aK : Nat) (aP : Nat) (aQ : Nat) (aT : Nat) (aW : Nat) (aO : Nat) (aM : Nat) (aL : Nat) (aH : Nat) (aI : Nat) (aS : Nat) (aR : Nat) (aX : Nat) (aF : Nat) (aY : Nat) (aJ : Nat) (tl : Int64) (tg : Int64) (tB : Bool) (tM : Int32) (tb : Int32) (tv : Int64) (tw : Int64) (tT : Int64) (tr : Int64) (tm : Int64) (tf : Int64) (aG : Nat) (aE : Nat) (aU : Nat) (u : Bool)  : Ctr l D z y_T_hull b_T_hull 2 (some .long) { frames := 0, cells := 0, slots := 0, locals := 0 } [.ref m, .int (bI u)] [(m, .inr (5, (.int (nI tS) :: .int tD :: .int tE :: .long tN :: .int (bI tA) :: .long tL :: .ref aK :: .ref aP :: .ref aQ :: .ref aT :: .ref aW :: .ref aO :: .ref aM :: .ref aL :: .ref aH :: .ref aI :: .ref aS :: .ref aR :: .ref aX :: .ref aF :: .ref aY :: .ref aJ :: .long tl :: .long tg :: .int (bI tB) :: .int tM :: .int tb :: .long tv :: .long tw :: .long tT :: .long tr :: .long tm :: .long tf :: .ref aG :: .ref aE :: .ref aU :: [])))] (fun v w => v = some (.long (f_T_hull tB tv tw u)) ∧ w = [(m, .inr (5, (.int (nI tS) :: .int tD :: .int tE :: .long tN :: .int (bI tA) :: .long tL :: .ref aK :: .ref aP :: .ref aQ :: .ref aT :: .ref aW :: .ref aO :: .ref aM :: .ref aL :: .ref aH :: .ref aI :: .ref aS :: .ref aR :: .ref aX :: .ref aF :: .ref aY :: .ref aJ :: .long tl :: .long tg :: .int (bI tB) :: .int tM :: .int tb :: .long tv :: .long tw :: .long tT :: .long tr :: .long tm :: .long tf :: .ref aG :: .ref aE :: .ref aU :: [])))]) 0 0 := by
  refine met_V (own := R_T) (nm := "hull") (by decide +kernel) rfl rfl (Nat.le_of_ble_eq_true rfl) ?_
  intro κ hl hD hz X Y
  subst hl
  subst hD
  subst hz
  show V κ 2 0 0 0 [(0, .ref m), (1, .int (bI u))] [] [(m, .inr (5, (.int (nI tS) :: .int tD :: .int tE :: .long tN :: .int (bI tA) :: .long tL :: .ref aK :: .ref aP :: .ref aQ :: .ref aT :: .ref aW :: .ref aO :: .ref aM :: .ref aL :: .ref aH :: .ref aI :: .ref aS :: .ref aR :: .ref aX :: .ref aF :: .ref aY :: .ref aJ :: .long tl :: .long tg :: .int (bI tB) :: .int tM :: .int tb :: .long tv :: .long tw :: .long tT :: .long tr :: .long tm :: .long tf :: .ref aG :: .ref aE :: .ref aU :: [])))]
  refine v_aload_n X 0 d_T_hull_0 rfl ?_
  refine v_get X 0 24 rfl rfl li_T (by decide) m451 rfl d_T_hull_1 ?_
  suffices hm4 : V κ 2 0 0 28 [(0, .ref m), (1, .int (bI u))] [.long (if tB = true then if u = true then tw else tv else (-4611686018427387904))] [(m, .inr (5, (.int (nI tS) :: .int tD :: .int tE :: .long tN :: .int (bI tA) :: .long tL :: .ref aK :: .ref aP :: .ref aQ :: .ref aT :: .ref aW :: .ref aO :: .ref aM :: .ref aL :: .ref aH :: .ref aI :: .ref aS :: .ref aR :: .ref aX :: .ref aF :: .ref aY :: .ref aJ :: .long tl :: .long tg :: .int (bI tB) :: .int tM :: .int tb :: .long tv :: .long tw :: .long tT :: .long tr :: .long tm :: .long tf :: .ref aG :: .ref aE :: .ref aU :: [])))] by
    refine v_ifB_ne X 13 (t := tB) d_T_hull_4 (by decide) (fun c4 => ?_) (fun c4 => ?_)
    · skip
      refine v_iload_n X 1 d_T_hull_13 rfl ?_
      suffices hm14 : V κ 2 0 0 28 [(0, .ref m), (1, .int (bI u))] [.long (if u = true then tw else tv)] [(m, .inr (5, (.int (nI tS) :: .int tD :: .int tE :: .long tN :: .int (bI tA) :: .long tL :: .ref aK :: .ref aP :: .ref aQ :: .ref aT :: .ref aW :: .ref aO :: .ref aM :: .ref aL :: .ref aH :: .ref aI :: .ref aS :: .ref aR :: .ref aX :: .ref aF :: .ref aY :: .ref aJ :: .long tl :: .long tg :: .int (bI tB) :: .int tM :: .int tb :: .long tv :: .long tw :: .long tT :: .long tr :: .long tm :: .long tf :: .ref aG :: .ref aE :: .ref aU :: [])))] by
        refine v_ifB_eq X 24 (t := u) d_T_hull_14 (by decide) (fun c14 => ?_) (fun c14 => ?_)
        · skip
          refine v_aload_n X 0 d_T_hull_24 rfl ?_
          refine v_get X 0 27 rfl rfl li_T (by decide) m454 rfl d_T_hull_25 ?_
          have h9 := hm14; simp only [if_neg c14] at h9; first | exact h9 | (simp only [if_neg c14]; exact h9)
        · skip
          refine v_aload_n X 0 d_T_hull_17 rfl ?_
          refine v_get X 0 28 rfl rfl li_T (by decide) m455 rfl d_T_hull_18 ?_
          refine v_goto X 28 d_T_hull_21 (by decide) ?_
          have h9 := hm14; simp only [if_pos c14] at h9; first | exact h9 | (simp only [if_pos c14]; exact h9)
      have h9 := hm4; simp only [if_pos c4] at h9; first | exact h9 | (simp only [if_pos c4]; exact h9)
    · skip
      refine v_ldc2 X (v := (-4611686018427387904)) m528 d_T_hull_7 ?_
      refine v_goto X 28 d_T_hull_10 (by decide) ?_
      have h9 := hm4; simp only [if_neg c4] at h9; first | exact h9 | (simp only [if_neg c4]; exact h9)
  exact v_lret X Y (by decide) (by decide) d_T_hull_28 ⟨rfl, rfl⟩

set_option maxHeartbeats 4000000 in
set_option maxRecDepth 100000 in
theorem c_T_isLeaseG (l : Launch) (D : va_G) (z : Nat → ClassId) (i : Nat) (hi9 : i < 4) : Ctr l D z y_T_isLease b_T_isLease 1 (some .boolean) { frames := 0, cells := 0, slots := 0, locals := 0 } [.int (nI i)] [] (fun v w => v = some (.int (bI true)) ∧ w = []) 0 0 := by
  refine met_V (own := R_T) (nm := "isLease") (by decide +kernel) rfl rfl (Nat.le_of_ble_eq_true rfl) ?_
  intro κ hl hD hz X Y
  subst hl
  subst hD
  subst hz
  show V κ 1 0 0 0 [(0, .int (nI i))] [] []
  refine v_iload_n X 0 d_T_isLease_0 rfl ?_
  refine v_ifN_lt X 13 (a := i) d_T_isLease_1 (by decide) (by omega) ?_
  refine v_iload_n X 0 d_T_isLease_4 rfl ?_
  refine v_iconst X 3 d_T_isLease_5 (by decide) ?_
  refine v_icmpN_gt X 13 (a := i) (b := 3) d_T_isLease_6 (by decide) (by omega) (by omega) (fun c6 => by omega) (fun c6 => ?_)
  refine v_iconst X 1 d_T_isLease_9 (by decide) ?_
  refine v_goto X 14 d_T_isLease_10 (by decide) ?_
  exact v_zret X Y (by decide) (by decide) d_T_isLease_14 rfl ⟨rfl, rfl⟩

theorem lt4 {s : Int32} (h : s ≤ 3) : s < nI 4 := by
  rw [Int32.lt_iff_toInt_lt, nI_toInt (by decide)]
  rw [Int32.le_iff_toInt_le] at h
  have e : (3 : Int32).toInt = 3 := by decide
  omega
set_option maxHeartbeats 4000000 in
set_option maxRecDepth 100000 in
theorem c_T_isLeaseB (l : Launch) (D : va_G) (z : Nat → ClassId) (s : Int32) (hb9 : ¬ s < 0 → ¬ s < nI 4) : Ctr l D z y_T_isLease b_T_isLease 1 (some .boolean) { frames := 0, cells := 0, slots := 0, locals := 0 } [.int s] [] (fun v w => v = some (.int (bI false)) ∧ w = []) 0 0 := by
  refine met_V (own := R_T) (nm := "isLease") (by decide +kernel) rfl rfl (Nat.le_of_ble_eq_true rfl) ?_
  intro κ hl hD hz X Y
  subst hl
  subst hD
  subst hz
  show V κ 1 0 0 0 [(0, .int s)] [] []
  refine v_iload_n X 0 d_T_isLease_0 rfl ?_
  refine v_if_lt X 13 d_T_isLease_1 (by decide) (fun c1 => ?_) (fun c1 => ?_)
  · skip
    refine v_iconst X 0 d_T_isLease_13 (by decide) ?_
    exact v_zret X Y (by decide) (by decide) d_T_isLease_14 rfl ⟨by first | (simp only [if_pos c1] <;> rfl) | rfl, rfl⟩
  · skip
    refine v_iload_n X 0 d_T_isLease_4 rfl ?_
    refine v_iconst X 3 d_T_isLease_5 (by decide) ?_
    refine v_icmp_gt X 13 d_T_isLease_6 (by decide) (fun c6 => ?_) (fun c6 => absurd (lt4 (Int32.not_lt.mp c6)) (hb9 c1))
    refine v_iconst X 0 d_T_isLease_13 (by decide) ?_
    exact v_zret X Y (by decide) (by decide) d_T_isLease_14 rfl ⟨by first | (simp only [if_neg c1] <;> rfl) | rfl, rfl⟩

def f_T_grantG (tD : Int32) (tN : Int64) (tB : Bool) (tT : Int64) (tr : Int64) (tm : Int64) (tf : Int64) (gG : Nat → Bool) (gE : Nat → Int32) (gU : Nat → Int64) (i : Nat) (x : Int32) (y : Int32) : Int64 := if x < 0 then (-4611686018427387904) else if y < 1 then (-4611686018427387904) else if 1000000 < y then (-4611686018427387904) else if tB = true then if (gG i) = true then if (if (gE i) = x then false else true) = true then if (if ((f_T_time tN tB tT tm tf) - (f_T_bound tD tN tB tT tr tm tf)) < (gU i) then false else true) = true then (f_T_time tN tB tT tm tf) + y.toInt64 else (-4611686018427387904) else if (gU i) ≤ ((f_T_time tN tB tT tm tf) + y.toInt64) then (f_T_time tN tB tT tm tf) + y.toInt64 else (-4611686018427387904) else (f_T_time tN tB tT tm tf) + y.toInt64 else (-4611686018427387904)
def f_T_grantG_r1 (tD : Int32) (tN : Int64) (tB : Bool) (tT : Int64) (tr : Int64) (tm : Int64) (tf : Int64) (gG : Nat → Bool) (gE : Nat → Int32) (gU : Nat → Int64) (i : Nat) (x : Int32) (y : Int32) : Nat → Bool := if x < 0 then gG else if y < 1 then gG else if 1000000 < y then gG else if tB = true then if (gG i) = true then if (if (gE i) = x then false else true) = true then if (if ((f_T_time tN tB tT tm tf) - (f_T_bound tD tN tB tT tr tm tf)) < (gU i) then false else true) = true then va_up gG i true else gG else if (gU i) ≤ ((f_T_time tN tB tT tm tf) + y.toInt64) then va_up gG i true else gG else va_up gG i true else gG
def f_T_grantG_r2 (tD : Int32) (tN : Int64) (tB : Bool) (tT : Int64) (tr : Int64) (tm : Int64) (tf : Int64) (gG : Nat → Bool) (gE : Nat → Int32) (gU : Nat → Int64) (i : Nat) (x : Int32) (y : Int32) : Nat → Int32 := if x < 0 then gE else if y < 1 then gE else if 1000000 < y then gE else if tB = true then if (gG i) = true then if (if (gE i) = x then false else true) = true then if (if ((f_T_time tN tB tT tm tf) - (f_T_bound tD tN tB tT tr tm tf)) < (gU i) then false else true) = true then upd gE i x else gE else if (gU i) ≤ ((f_T_time tN tB tT tm tf) + y.toInt64) then upd gE i x else gE else upd gE i x else gE
def f_T_grantG_r3 (tD : Int32) (tN : Int64) (tB : Bool) (tT : Int64) (tr : Int64) (tm : Int64) (tf : Int64) (gG : Nat → Bool) (gE : Nat → Int32) (gU : Nat → Int64) (i : Nat) (x : Int32) (y : Int32) : Nat → Int64 := if x < 0 then gU else if y < 1 then gU else if 1000000 < y then gU else if tB = true then if (gG i) = true then if (if (gE i) = x then false else true) = true then if (if ((f_T_time tN tB tT tm tf) - (f_T_bound tD tN tB tT tr tm tf)) < (gU i) then false else true) = true then vp_updL gU i ((f_T_time tN tB tT tm tf) + y.toInt64) else gU else if (gU i) ≤ ((f_T_time tN tB tT tm tf) + y.toInt64) then vp_updL gU i ((f_T_time tN tB tT tm tf) + y.toInt64) else gU else vp_updL gU i ((f_T_time tN tB tT tm tf) + y.toInt64) else gU
set_option maxHeartbeats 4000000 in
set_option maxRecDepth 100000 in
theorem c_T_grantG (l : Launch) (D : va_G) (z : Nat → ClassId) (m : Nat) (tS : Nat) (tD : Int32) (tE : Int32) (tN : Int64) (tA : Bool) (tL : Int64) (aK : Nat) (aP : Nat) (aQ : Nat) (aT : Nat) (aW : Nat) (aO : Nat) (aM : Nat) (aL : Nat) (aH : Nat) (aI : Nat) (aS : Nat) (aR : Nat) (aX : Nat) (aF : Nat) (aY : Nat) (aJ : Nat) (tl : Int64) (tg : Int64) (tB : Bool) (tM : Int32) (tb : Int32) (tv : Int64) (tw : Int64) (tT : Int64) (tr : Int64) (tm : Int64) (tf : Int64) (aG : Nat) (aE : Nat) (aU : Nat) (gG : Nat → Bool) (gE : Nat → Int32) (gU : Nat → Int64) (i : Nat) (x : Int32) (y : Int32) (hi9 : i < 4) : Ctr l D z y_T_grant b_T_grant 12 (some .long) { frames := 2, cells := 0, slots := 0, locals := 48 } [.ref m, .int (nI i), .int x, .int y] [(m, .inr (5, (.int (nI tS) :: .int tD :: .int tE :: .long tN :: .int (bI tA) :: .long tL :: .ref aK :: .ref aP :: .ref aQ :: .ref aT :: .ref aW :: .ref aO :: .ref aM :: .ref aL :: .ref aH :: .ref aI :: .ref aS :: .ref aR :: .ref aX :: .ref aF :: .ref aY :: .ref aJ :: .long tl :: .long tg :: .int (bI tB) :: .int tM :: .int tb :: .long tv :: .long tw :: .long tT :: .long tr :: .long tm :: .long tf :: .ref aG :: .ref aE :: .ref aU :: []))), (aG, .inl (z 2, 4, .inl (aB gG))), (aE, .inl (z 0, 4, .inl gE)), (aU, .inl (z 1, 4, .inr (.inl gU)))] (fun v w => v = some (.long (f_T_grantG tD tN tB tT tr tm tf gG gE gU i x y)) ∧ w = [(m, .inr (5, (.int (nI tS) :: .int tD :: .int tE :: .long tN :: .int (bI tA) :: .long tL :: .ref aK :: .ref aP :: .ref aQ :: .ref aT :: .ref aW :: .ref aO :: .ref aM :: .ref aL :: .ref aH :: .ref aI :: .ref aS :: .ref aR :: .ref aX :: .ref aF :: .ref aY :: .ref aJ :: .long tl :: .long tg :: .int (bI tB) :: .int tM :: .int tb :: .long tv :: .long tw :: .long tT :: .long tr :: .long tm :: .long tf :: .ref aG :: .ref aE :: .ref aU :: []))), (aG, .inl (z 2, 4, .inl (aB (f_T_grantG_r1 tD tN tB tT tr tm tf gG gE gU i x y)))), (aE, .inl (z 0, 4, .inl (f_T_grantG_r2 tD tN tB tT tr tm tf gG gE gU i x y))), (aU, .inl (z 1, 4, .inr (.inl (f_T_grantG_r3 tD tN tB tT tr tm tf gG gE gU i x y))))]) 0 0 := by
  refine met_V (own := R_T) (nm := "grant") (by decide +kernel) rfl rfl (Nat.le_of_ble_eq_true rfl) ?_
  intro κ hl hD hz X Y
  subst hl
  subst hD
  subst hz
  show V κ 12 0 0 0 [(0, .ref m), (1, .int (nI i)), (2, .int x), (3, .int y)] [] [(m, .inr (5, (.int (nI tS) :: .int tD :: .int tE :: .long tN :: .int (bI tA) :: .long tL :: .ref aK :: .ref aP :: .ref aQ :: .ref aT :: .ref aW :: .ref aO :: .ref aM :: .ref aL :: .ref aH :: .ref aI :: .ref aS :: .ref aR :: .ref aX :: .ref aF :: .ref aY :: .ref aJ :: .long tl :: .long tg :: .int (bI tB) :: .int tM :: .int tb :: .long tv :: .long tw :: .long tT :: .long tr :: .long tm :: .long tf :: .ref aG :: .ref aE :: .ref aU :: []))), (aG, .inl (κ.z 2, 4, .inl (aB gG))), (aE, .inl (κ.z 0, 4, .inl gE)), (aU, .inl (κ.z 1, 4, .inr (.inl gU)))]
  refine v_iload_n X 1 d_T_grant_0 rfl ?_
  refine v_callS X (k := 0) (n := 0) (n9 := 1) (As := [.int (nI i)]) (rest := []) (wc := []) (wr := [(m, .inr (5, (.int (nI tS) :: .int tD :: .int tE :: .long tN :: .int (bI tA) :: .long tL :: .ref aK :: .ref aP :: .ref aQ :: .ref aT :: .ref aW :: .ref aO :: .ref aM :: .ref aL :: .ref aH :: .ref aI :: .ref aS :: .ref aR :: .ref aX :: .ref aF :: .ref aY :: .ref aJ :: .long tl :: .long tg :: .int (bI tB) :: .int tM :: .int tb :: .long tv :: .long tw :: .long tT :: .long tr :: .long tm :: .long tf :: .ref aG :: .ref aE :: .ref aU :: []))), (aG, .inl (κ.z 2, 4, .inl (aB gG))), (aE, .inl (κ.z 0, 4, .inl gE)), (aU, .inl (κ.z 1, 4, .inr (.inl gU)))]) (c_T_isLeaseG κ.l κ.D κ.z i hi9) m621 m622 m36 (by decide +kernel) rfl (Nat.le_of_ble_eq_true rfl) ⟨by decide, by decide⟩ ⟨by decide, by decide⟩ rfl rfl m623 d_T_grant_1 (fun v w1 hg => ?_)
  obtain ⟨rfl, rfl⟩ := hg
  show V κ 12 0 0 4 [(0, .ref m), (1, .int (nI i)), (2, .int x), (3, .int y)] [.int (bI true)] [(m, .inr (5, (.int (nI tS) :: .int tD :: .int tE :: .long tN :: .int (bI tA) :: .long tL :: .ref aK :: .ref aP :: .ref aQ :: .ref aT :: .ref aW :: .ref aO :: .ref aM :: .ref aL :: .ref aH :: .ref aI :: .ref aS :: .ref aR :: .ref aX :: .ref aF :: .ref aY :: .ref aJ :: .long tl :: .long tg :: .int (bI tB) :: .int tM :: .int tb :: .long tv :: .long tw :: .long tT :: .long tr :: .long tm :: .long tf :: .ref aG :: .ref aE :: .ref aU :: []))), (aG, .inl (κ.z 2, 4, .inl (aB gG))), (aE, .inl (κ.z 0, 4, .inl gE)), (aU, .inl (κ.z 1, 4, .inr (.inl gU)))]
  refine v_ifB_eq X 29 (t := true) d_T_grant_4 (by decide) (fun c4 => absurd c4 (by decide)) (fun c4 => ?_)
  refine v_iload_n X 2 d_T_grant_7 rfl ?_
  refine v_if_lt X 29 d_T_grant_8 (by decide) (fun c8 => ?_) (fun c8 => ?_)
  · skip
    refine v_ldc2 X (v := (-4611686018427387904)) m528 d_T_grant_29 ?_
    exact v_lret X Y (by decide) (by decide) d_T_grant_32 ⟨by first | (simp only [f_T_grantG, f_T_grantG_r1, f_T_grantG_r2, f_T_grantG_r3, if_pos c8] <;> rfl) | rfl, by first | (simp only [f_T_grantG, f_T_grantG_r1, f_T_grantG_r2, f_T_grantG_r3, if_pos c8] <;> rfl) | rfl⟩
  · skip
    refine v_iload_n X 3 d_T_grant_11 rfl ?_
    refine v_iconst X 1 d_T_grant_12 (by decide) ?_
    refine v_icmp_lt X 29 d_T_grant_13 (by decide) (fun c13 => ?_) (fun c13 => ?_)
    · skip
      refine v_ldc2 X (v := (-4611686018427387904)) m528 d_T_grant_29 ?_
      exact v_lret X Y (by decide) (by decide) d_T_grant_32 ⟨by first | (simp only [f_T_grantG, f_T_grantG_r1, f_T_grantG_r2, f_T_grantG_r3, if_neg c8, if_pos c13] <;> rfl) | rfl, by first | (simp only [f_T_grantG, f_T_grantG_r1, f_T_grantG_r2, f_T_grantG_r3, if_neg c8, if_pos c13] <;> rfl) | rfl⟩
    · skip
      refine v_iload_n X 3 d_T_grant_16 rfl ?_
      refine v_ldc X (v := 1000000) m504 d_T_grant_17 ?_
      refine v_icmp_gt X 29 d_T_grant_19 (by decide) (fun c19 => ?_) (fun c19 => ?_)
      · skip
        refine v_ldc2 X (v := (-4611686018427387904)) m528 d_T_grant_29 ?_
        exact v_lret X Y (by decide) (by decide) d_T_grant_32 ⟨by first | (simp only [f_T_grantG, f_T_grantG_r1, f_T_grantG_r2, f_T_grantG_r3, if_neg c8, if_neg c13, if_pos c19] <;> rfl) | rfl, by first | (simp only [f_T_grantG, f_T_grantG_r1, f_T_grantG_r2, f_T_grantG_r3, if_neg c8, if_neg c13, if_pos c19] <;> rfl) | rfl⟩
      · skip
        refine v_aload_n X 0 d_T_grant_22 rfl ?_
        refine v_get X 0 24 rfl rfl li_T (by decide) m451 rfl d_T_grant_23 ?_
        refine v_ifB_ne X 33 (t := tB) d_T_grant_26 (by decide) (fun c26 => ?_) (fun c26 => ?_)
        · skip
          refine v_aload_n X 0 d_T_grant_33 rfl ?_
          refine v_callV X (b := m) (k := 0) (n := 0) (n9 := 0) (As := []) (rest := []) (wc := [(m, .inr (5, (.int (nI tS) :: .int tD :: .int tE :: .long tN :: .int (bI tA) :: .long tL :: .ref aK :: .ref aP :: .ref aQ :: .ref aT :: .ref aW :: .ref aO :: .ref aM :: .ref aL :: .ref aH :: .ref aI :: .ref aS :: .ref aR :: .ref aX :: .ref aF :: .ref aY :: .ref aJ :: .long tl :: .long tg :: .int (bI tB) :: .int tM :: .int tb :: .long tv :: .long tw :: .long tT :: .long tr :: .long tm :: .long tf :: .ref aG :: .ref aE :: .ref aU :: [])))]) (wr := [(aG, .inl (κ.z 2, 4, .inl (aB gG))), (aE, .inl (κ.z 0, 4, .inl gE)), (aU, .inl (κ.z 1, 4, .inr (.inl gU)))]) (c_T_time κ.l κ.D κ.z m tS tD tE tN tA tL aK aP aQ aT aW aO aM aL aH aI aS aR aX aF aY aJ tl tg tB tM tb tv tw tT tr tm tf aG aE aU ) 0 rfl rfl m624 m610 m611 m36 (by decide +kernel) rfl (Nat.le_of_ble_eq_true rfl) ⟨by decide, by decide⟩ ⟨by decide, by decide⟩ rfl rfl m612 d_T_grant_34 (fun v w1 hg => ?_)
          obtain ⟨rfl, rfl⟩ := hg
          show V κ 12 0 0 37 [(0, .ref m), (1, .int (nI i)), (2, .int x), (3, .int y)] [.long (f_T_time tN tB tT tm tf)] [(m, .inr (5, (.int (nI tS) :: .int tD :: .int tE :: .long tN :: .int (bI tA) :: .long tL :: .ref aK :: .ref aP :: .ref aQ :: .ref aT :: .ref aW :: .ref aO :: .ref aM :: .ref aL :: .ref aH :: .ref aI :: .ref aS :: .ref aR :: .ref aX :: .ref aF :: .ref aY :: .ref aJ :: .long tl :: .long tg :: .int (bI tB) :: .int tM :: .int tb :: .long tv :: .long tw :: .long tT :: .long tr :: .long tm :: .long tf :: .ref aG :: .ref aE :: .ref aU :: []))), (aG, .inl (κ.z 2, 4, .inl (aB gG))), (aE, .inl (κ.z 0, 4, .inl gE)), (aU, .inl (κ.z 1, 4, .inr (.inl gU)))]
          refine v_lstore X d_T_grant_37 (by decide) (lv' := [(4, .long (f_T_time tN tB tT tm tf)), (0, .ref m), (1, .int (nI i)), (2, .int x), (3, .int y)]) rfl ?_
          refine v_aload_n X 1 d_T_grant_39 rfl ?_
          refine v_callV X (b := m) (k := 0) (n := 0) (n9 := 0) (As := []) (rest := []) (wc := [(m, .inr (5, (.int (nI tS) :: .int tD :: .int tE :: .long tN :: .int (bI tA) :: .long tL :: .ref aK :: .ref aP :: .ref aQ :: .ref aT :: .ref aW :: .ref aO :: .ref aM :: .ref aL :: .ref aH :: .ref aI :: .ref aS :: .ref aR :: .ref aX :: .ref aF :: .ref aY :: .ref aJ :: .long tl :: .long tg :: .int (bI tB) :: .int tM :: .int tb :: .long tv :: .long tw :: .long tT :: .long tr :: .long tm :: .long tf :: .ref aG :: .ref aE :: .ref aU :: [])))]) (wr := [(aG, .inl (κ.z 2, 4, .inl (aB gG))), (aE, .inl (κ.z 0, 4, .inl gE)), (aU, .inl (κ.z 1, 4, .inr (.inl gU)))]) (c_T_bound κ.l κ.D κ.z m tS tD tE tN tA tL aK aP aQ aT aW aO aM aL aH aI aS aR aX aF aY aJ tl tg tB tM tb tv tw tT tr tm tf aG aE aU ) 0 rfl rfl m625 m614 m615 m36 (by decide +kernel) rfl (Nat.le_of_ble_eq_true rfl) ⟨by decide, by decide⟩ ⟨by decide, by decide⟩ rfl rfl m616 d_T_grant_40 (fun v w1 hg => ?_)
          obtain ⟨rfl, rfl⟩ := hg
          show V κ 12 0 0 43 [(4, .long (f_T_time tN tB tT tm tf)), (0, .ref m), (1, .int (nI i)), (2, .int x), (3, .int y)] [.long (f_T_bound tD tN tB tT tr tm tf)] [(m, .inr (5, (.int (nI tS) :: .int tD :: .int tE :: .long tN :: .int (bI tA) :: .long tL :: .ref aK :: .ref aP :: .ref aQ :: .ref aT :: .ref aW :: .ref aO :: .ref aM :: .ref aL :: .ref aH :: .ref aI :: .ref aS :: .ref aR :: .ref aX :: .ref aF :: .ref aY :: .ref aJ :: .long tl :: .long tg :: .int (bI tB) :: .int tM :: .int tb :: .long tv :: .long tw :: .long tT :: .long tr :: .long tm :: .long tf :: .ref aG :: .ref aE :: .ref aU :: []))), (aG, .inl (κ.z 2, 4, .inl (aB gG))), (aE, .inl (κ.z 0, 4, .inl gE)), (aU, .inl (κ.z 1, 4, .inr (.inl gU)))]
          refine v_lstore X d_T_grant_43 (by decide) (lv' := [(6, .long (f_T_bound tD tN tB tT tr tm tf)), (4, .long (f_T_time tN tB tT tm tf)), (0, .ref m), (1, .int (nI i)), (2, .int x), (3, .int y)]) rfl ?_
          refine v_lload X 1 d_T_grant_45 rfl ?_
          refine v_iload_n X 5 d_T_grant_47 rfl ?_
          refine v_i2l X d_T_grant_48 ?_
          refine v_ladd X d_T_grant_49 ?_
          refine v_lstore X d_T_grant_50 (by decide) (lv' := [(8, .long ((f_T_time tN tB tT tm tf) + y.toInt64)), (6, .long (f_T_bound tD tN tB tT tr tm tf)), (4, .long (f_T_time tN tB tT tm tf)), (0, .ref m), (1, .int (nI i)), (2, .int x), (3, .int y)]) rfl ?_
          refine v_aload_n X 3 d_T_grant_52 rfl ?_
          refine v_get X 0 33 rfl rfl li_T (by decide) m460 rfl d_T_grant_53 ?_
          refine v_iload_n X 4 d_T_grant_56 rfl ?_
          show V κ 12 0 0 57 [(8, .long ((f_T_time tN tB tT tm tf) + y.toInt64)), (6, .long (f_T_bound tD tN tB tT tr tm tf)), (4, .long (f_T_time tN tB tT tm tf)), (0, .ref m), (1, .int (nI i)), (2, .int x), (3, .int y)] [.int (nI i), .ref aG] [(m, .inr (5, (.int (nI tS) :: .int tD :: .int tE :: .long tN :: .int (bI tA) :: .long tL :: .ref aK :: .ref aP :: .ref aQ :: .ref aT :: .ref aW :: .ref aO :: .ref aM :: .ref aL :: .ref aH :: .ref aI :: .ref aS :: .ref aR :: .ref aX :: .ref aF :: .ref aY :: .ref aJ :: .long tl :: .long tg :: .int (bI tB) :: .int tM :: .int tb :: .long tv :: .long tw :: .long tT :: .long tr :: .long tm :: .long tf :: .ref aG :: .ref aE :: .ref aU :: []))), (aG, .inl (κ.z 2, 4, .inl (aB gG))), (aE, .inl (κ.z 0, 4, .inl gE)), (aU, .inl (κ.z 1, 4, .inr (.inl gU)))]
          refine v_zaldN X 1 2 (j := i) rfl rfl (by omega) (by omega) d_T_grant_57 ?_
          refine v_ifB_eq X 129 (t := gG i) d_T_grant_58 (by decide) (fun c58 => ?_) (fun c58 => ?_)
          · skip
            refine v_aload_n X 3 d_T_grant_129 rfl ?_
            refine v_get X 0 33 rfl rfl li_T (by decide) m460 rfl d_T_grant_130 ?_
            refine v_iload_n X 4 d_T_grant_133 rfl ?_
            refine v_iconst X 1 d_T_grant_134 (by decide) ?_
            refine v_zastN X 1 2 (j := i) (x := true) rfl rfl (by omega) (by omega) d_T_grant_135 (ws' := [(m, .inr (5, (.int (nI tS) :: .int tD :: .int tE :: .long tN :: .int (bI tA) :: .long tL :: .ref aK :: .ref aP :: .ref aQ :: .ref aT :: .ref aW :: .ref aO :: .ref aM :: .ref aL :: .ref aH :: .ref aI :: .ref aS :: .ref aR :: .ref aX :: .ref aF :: .ref aY :: .ref aJ :: .long tl :: .long tg :: .int (bI tB) :: .int tM :: .int tb :: .long tv :: .long tw :: .long tT :: .long tr :: .long tm :: .long tf :: .ref aG :: .ref aE :: .ref aU :: []))), (aG, .inl (κ.z 2, 4, .inl (aB (va_up gG i true)))), (aE, .inl (κ.z 0, 4, .inl gE)), (aU, .inl (κ.z 1, 4, .inr (.inl gU)))]) rfl ?_
            refine v_aload_n X 3 d_T_grant_136 rfl ?_
            refine v_get X 0 34 rfl rfl li_T (by decide) m461 rfl d_T_grant_137 ?_
            refine v_iload_n X 4 d_T_grant_140 rfl ?_
            refine v_iload_n X 5 d_T_grant_141 rfl ?_
            refine v_iastN X 2 0 (j := i) (x := x) rfl rfl (by omega) (by omega) d_T_grant_142 (ws' := [(m, .inr (5, (.int (nI tS) :: .int tD :: .int tE :: .long tN :: .int (bI tA) :: .long tL :: .ref aK :: .ref aP :: .ref aQ :: .ref aT :: .ref aW :: .ref aO :: .ref aM :: .ref aL :: .ref aH :: .ref aI :: .ref aS :: .ref aR :: .ref aX :: .ref aF :: .ref aY :: .ref aJ :: .long tl :: .long tg :: .int (bI tB) :: .int tM :: .int tb :: .long tv :: .long tw :: .long tT :: .long tr :: .long tm :: .long tf :: .ref aG :: .ref aE :: .ref aU :: []))), (aG, .inl (κ.z 2, 4, .inl (aB (va_up gG i true)))), (aE, .inl (κ.z 0, 4, .inl (upd gE i x))), (aU, .inl (κ.z 1, 4, .inr (.inl gU)))]) rfl ?_
            refine v_aload_n X 3 d_T_grant_143 rfl ?_
            refine v_get X 0 35 rfl rfl li_T (by decide) m462 rfl d_T_grant_144 ?_
            refine v_iload_n X 4 d_T_grant_147 rfl ?_
            refine v_lload X 0 d_T_grant_148 rfl ?_
            show V κ 12 0 0 150 [(8, .long ((f_T_time tN tB tT tm tf) + y.toInt64)), (6, .long (f_T_bound tD tN tB tT tr tm tf)), (4, .long (f_T_time tN tB tT tm tf)), (0, .ref m), (1, .int (nI i)), (2, .int x), (3, .int y)] [.long ((f_T_time tN tB tT tm tf) + y.toInt64), .int (nI i), .ref aU] [(m, .inr (5, (.int (nI tS) :: .int tD :: .int tE :: .long tN :: .int (bI tA) :: .long tL :: .ref aK :: .ref aP :: .ref aQ :: .ref aT :: .ref aW :: .ref aO :: .ref aM :: .ref aL :: .ref aH :: .ref aI :: .ref aS :: .ref aR :: .ref aX :: .ref aF :: .ref aY :: .ref aJ :: .long tl :: .long tg :: .int (bI tB) :: .int tM :: .int tb :: .long tv :: .long tw :: .long tT :: .long tr :: .long tm :: .long tf :: .ref aG :: .ref aE :: .ref aU :: []))), (aG, .inl (κ.z 2, 4, .inl (aB (va_up gG i true)))), (aE, .inl (κ.z 0, 4, .inl (upd gE i x))), (aU, .inl (κ.z 1, 4, .inr (.inl gU)))]
            refine v_lastN X 3 1 (j := i) (x := ((f_T_time tN tB tT tm tf) + y.toInt64)) rfl rfl (by omega) (by omega) d_T_grant_150 (ws' := [(m, .inr (5, (.int (nI tS) :: .int tD :: .int tE :: .long tN :: .int (bI tA) :: .long tL :: .ref aK :: .ref aP :: .ref aQ :: .ref aT :: .ref aW :: .ref aO :: .ref aM :: .ref aL :: .ref aH :: .ref aI :: .ref aS :: .ref aR :: .ref aX :: .ref aF :: .ref aY :: .ref aJ :: .long tl :: .long tg :: .int (bI tB) :: .int tM :: .int tb :: .long tv :: .long tw :: .long tT :: .long tr :: .long tm :: .long tf :: .ref aG :: .ref aE :: .ref aU :: []))), (aG, .inl (κ.z 2, 4, .inl (aB (va_up gG i true)))), (aE, .inl (κ.z 0, 4, .inl (upd gE i x))), (aU, .inl (κ.z 1, 4, .inr (.inl (vp_updL gU i ((f_T_time tN tB tT tm tf) + y.toInt64)))))]) rfl ?_
            refine v_lload X 0 d_T_grant_151 rfl ?_
            exact v_lret X Y (by decide) (by decide) d_T_grant_153 ⟨by first | (simp only [f_T_grantG, f_T_grantG_r1, f_T_grantG_r2, f_T_grantG_r3, if_neg c8, if_neg c13, if_neg c19, if_pos c26, if_neg c58] <;> rfl) | rfl, by first | (simp only [f_T_grantG, f_T_grantG_r1, f_T_grantG_r2, f_T_grantG_r3, if_neg c8, if_neg c13, if_neg c19, if_pos c26, if_neg c58] <;> rfl) | rfl⟩
          · skip
            refine v_aload_n X 3 d_T_grant_61 rfl ?_
            refine v_get X 0 34 rfl rfl li_T (by decide) m461 rfl d_T_grant_62 ?_
            refine v_iload_n X 4 d_T_grant_65 rfl ?_
            refine v_ialdN X 2 0 (j := i) rfl rfl (by omega) (by omega) d_T_grant_66 ?_
            refine v_iload_n X 5 d_T_grant_67 rfl ?_
            suffices hm68 : V κ 12 0 0 76 [(8, .long ((f_T_time tN tB tT tm tf) + y.toInt64)), (6, .long (f_T_bound tD tN tB tT tr tm tf)), (4, .long (f_T_time tN tB tT tm tf)), (0, .ref m), (1, .int (nI i)), (2, .int x), (3, .int y)] [.int (bI (if (gE i) = x then false else true))] [(m, .inr (5, (.int (nI tS) :: .int tD :: .int tE :: .long tN :: .int (bI tA) :: .long tL :: .ref aK :: .ref aP :: .ref aQ :: .ref aT :: .ref aW :: .ref aO :: .ref aM :: .ref aL :: .ref aH :: .ref aI :: .ref aS :: .ref aR :: .ref aX :: .ref aF :: .ref aY :: .ref aJ :: .long tl :: .long tg :: .int (bI tB) :: .int tM :: .int tb :: .long tv :: .long tw :: .long tT :: .long tr :: .long tm :: .long tf :: .ref aG :: .ref aE :: .ref aU :: []))), (aG, .inl (κ.z 2, 4, .inl (aB gG))), (aE, .inl (κ.z 0, 4, .inl gE)), (aU, .inl (κ.z 1, 4, .inr (.inl gU)))] by
              refine v_icmp_eq X 75 d_T_grant_68 (by decide) (fun c68 => ?_) (fun c68 => ?_)
              · skip
                refine v_iconst X 0 d_T_grant_75 (by decide) ?_
                have h9 := hm68; simp only [if_pos c68] at h9; first | exact h9 | (simp only [if_pos c68]; exact h9)
              · skip
                refine v_iconst X 1 d_T_grant_71 (by decide) ?_
                refine v_goto X 76 d_T_grant_72 (by decide) ?_
                have h9 := hm68; simp only [if_neg c68] at h9; first | exact h9 | (simp only [if_neg c68]; exact h9)
            refine v_istore X d_T_grant_76 (by decide) (lv' := [(10, .int (bI (if (gE i) = x then false else true))), (8, .long ((f_T_time tN tB tT tm tf) + y.toInt64)), (6, .long (f_T_bound tD tN tB tT tr tm tf)), (4, .long (f_T_time tN tB tT tm tf)), (0, .ref m), (1, .int (nI i)), (2, .int x), (3, .int y)]) rfl ?_
            refine v_lload X 3 d_T_grant_78 rfl ?_
            refine v_lload X 2 d_T_grant_80 rfl ?_
            refine v_lsub X d_T_grant_82 ?_
            refine v_aload_n X 4 d_T_grant_83 rfl ?_
            refine v_get X 0 35 rfl rfl li_T (by decide) m462 rfl d_T_grant_84 ?_
            refine v_iload_n X 5 d_T_grant_87 rfl ?_
            refine v_laldN X 3 1 (j := i) rfl rfl (by omega) (by omega) d_T_grant_88 ?_
            show V κ 12 0 0 89 [(10, .int (bI (if (gE i) = x then false else true))), (8, .long ((f_T_time tN tB tT tm tf) + y.toInt64)), (6, .long (f_T_bound tD tN tB tT tr tm tf)), (4, .long (f_T_time tN tB tT tm tf)), (0, .ref m), (1, .int (nI i)), (2, .int x), (3, .int y)] [.long (gU i), .long ((f_T_time tN tB tT tm tf) - (f_T_bound tD tN tB tT tr tm tf))] [(m, .inr (5, (.int (nI tS) :: .int tD :: .int tE :: .long tN :: .int (bI tA) :: .long tL :: .ref aK :: .ref aP :: .ref aQ :: .ref aT :: .ref aW :: .ref aO :: .ref aM :: .ref aL :: .ref aH :: .ref aI :: .ref aS :: .ref aR :: .ref aX :: .ref aF :: .ref aY :: .ref aJ :: .long tl :: .long tg :: .int (bI tB) :: .int tM :: .int tb :: .long tv :: .long tw :: .long tT :: .long tr :: .long tm :: .long tf :: .ref aG :: .ref aE :: .ref aU :: []))), (aG, .inl (κ.z 2, 4, .inl (aB gG))), (aE, .inl (κ.z 0, 4, .inl gE)), (aU, .inl (κ.z 1, 4, .inr (.inl gU)))]
            suffices hm89 : V κ 12 0 0 98 [(10, .int (bI (if (gE i) = x then false else true))), (8, .long ((f_T_time tN tB tT tm tf) + y.toInt64)), (6, .long (f_T_bound tD tN tB tT tr tm tf)), (4, .long (f_T_time tN tB tT tm tf)), (0, .ref m), (1, .int (nI i)), (2, .int x), (3, .int y)] [.int (bI (if ((f_T_time tN tB tT tm tf) - (f_T_bound tD tN tB tT tr tm tf)) < (gU i) then false else true))] [(m, .inr (5, (.int (nI tS) :: .int tD :: .int tE :: .long tN :: .int (bI tA) :: .long tL :: .ref aK :: .ref aP :: .ref aQ :: .ref aT :: .ref aW :: .ref aO :: .ref aM :: .ref aL :: .ref aH :: .ref aI :: .ref aS :: .ref aR :: .ref aX :: .ref aF :: .ref aY :: .ref aJ :: .long tl :: .long tg :: .int (bI tB) :: .int tM :: .int tb :: .long tv :: .long tw :: .long tT :: .long tr :: .long tm :: .long tf :: .ref aG :: .ref aE :: .ref aU :: []))), (aG, .inl (κ.z 2, 4, .inl (aB gG))), (aE, .inl (κ.z 0, 4, .inl gE)), (aU, .inl (κ.z 1, 4, .inr (.inl gU)))] by
              refine v_lcmp_lt X 97 d_T_grant_89 d_T_grant_90 (by decide) (fun c89 => ?_) (fun c89 => ?_)
              · skip
                refine v_iconst X 0 d_T_grant_97 (by decide) ?_
                have h9 := hm89; simp only [if_pos c89] at h9; first | exact h9 | (simp only [if_pos c89]; exact h9)
              · skip
                refine v_iconst X 1 d_T_grant_93 (by decide) ?_
                refine v_goto X 98 d_T_grant_94 (by decide) ?_
                have h9 := hm89; simp only [if_neg c89] at h9; first | exact h9 | (simp only [if_neg c89]; exact h9)
            refine v_istore X d_T_grant_98 (by decide) (lv' := [(11, .int (bI (if ((f_T_time tN tB tT tm tf) - (f_T_bound tD tN tB tT tr tm tf)) < (gU i) then false else true))), (10, .int (bI (if (gE i) = x then false else true))), (8, .long ((f_T_time tN tB tT tm tf) + y.toInt64)), (6, .long (f_T_bound tD tN tB tT tr tm tf)), (4, .long (f_T_time tN tB tT tm tf)), (0, .ref m), (1, .int (nI i)), (2, .int x), (3, .int y)]) rfl ?_
            refine v_iload X 1 d_T_grant_100 rfl ?_
            refine v_ifB_eq X 113 (t := if (gE i) = x then false else true) d_T_grant_102 (by decide) (fun c102 => ?_) (fun c102 => ?_)
            · skip
              refine v_lload X 2 d_T_grant_113 rfl ?_
              refine v_aload_n X 5 d_T_grant_115 rfl ?_
              refine v_get X 0 35 rfl rfl li_T (by decide) m462 rfl d_T_grant_116 ?_
              refine v_iload_n X 6 d_T_grant_119 rfl ?_
              refine v_laldN X 3 1 (j := i) rfl rfl (by omega) (by omega) d_T_grant_120 ?_
              refine v_lcmp_ge X 129 d_T_grant_121 d_T_grant_122 (by decide) (fun c121 => ?_) (fun c121 => ?_)
              · skip
                refine v_aload_n X 5 d_T_grant_129 rfl ?_
                refine v_get X 0 33 rfl rfl li_T (by decide) m460 rfl d_T_grant_130 ?_
                refine v_iload_n X 6 d_T_grant_133 rfl ?_
                refine v_iconst X 1 d_T_grant_134 (by decide) ?_
                refine v_zastN X 1 2 (j := i) (x := true) rfl rfl (by omega) (by omega) d_T_grant_135 (ws' := [(m, .inr (5, (.int (nI tS) :: .int tD :: .int tE :: .long tN :: .int (bI tA) :: .long tL :: .ref aK :: .ref aP :: .ref aQ :: .ref aT :: .ref aW :: .ref aO :: .ref aM :: .ref aL :: .ref aH :: .ref aI :: .ref aS :: .ref aR :: .ref aX :: .ref aF :: .ref aY :: .ref aJ :: .long tl :: .long tg :: .int (bI tB) :: .int tM :: .int tb :: .long tv :: .long tw :: .long tT :: .long tr :: .long tm :: .long tf :: .ref aG :: .ref aE :: .ref aU :: []))), (aG, .inl (κ.z 2, 4, .inl (aB (va_up gG i true)))), (aE, .inl (κ.z 0, 4, .inl gE)), (aU, .inl (κ.z 1, 4, .inr (.inl gU)))]) rfl ?_
                refine v_aload_n X 5 d_T_grant_136 rfl ?_
                refine v_get X 0 34 rfl rfl li_T (by decide) m461 rfl d_T_grant_137 ?_
                refine v_iload_n X 6 d_T_grant_140 rfl ?_
                refine v_iload_n X 7 d_T_grant_141 rfl ?_
                refine v_iastN X 2 0 (j := i) (x := x) rfl rfl (by omega) (by omega) d_T_grant_142 (ws' := [(m, .inr (5, (.int (nI tS) :: .int tD :: .int tE :: .long tN :: .int (bI tA) :: .long tL :: .ref aK :: .ref aP :: .ref aQ :: .ref aT :: .ref aW :: .ref aO :: .ref aM :: .ref aL :: .ref aH :: .ref aI :: .ref aS :: .ref aR :: .ref aX :: .ref aF :: .ref aY :: .ref aJ :: .long tl :: .long tg :: .int (bI tB) :: .int tM :: .int tb :: .long tv :: .long tw :: .long tT :: .long tr :: .long tm :: .long tf :: .ref aG :: .ref aE :: .ref aU :: []))), (aG, .inl (κ.z 2, 4, .inl (aB (va_up gG i true)))), (aE, .inl (κ.z 0, 4, .inl (upd gE i x))), (aU, .inl (κ.z 1, 4, .inr (.inl gU)))]) rfl ?_
                refine v_aload_n X 5 d_T_grant_143 rfl ?_
                refine v_get X 0 35 rfl rfl li_T (by decide) m462 rfl d_T_grant_144 ?_
                refine v_iload_n X 6 d_T_grant_147 rfl ?_
                refine v_lload X 2 d_T_grant_148 rfl ?_
                show V κ 12 0 0 150 [(11, .int (bI (if ((f_T_time tN tB tT tm tf) - (f_T_bound tD tN tB tT tr tm tf)) < (gU i) then false else true))), (10, .int (bI (if (gE i) = x then false else true))), (8, .long ((f_T_time tN tB tT tm tf) + y.toInt64)), (6, .long (f_T_bound tD tN tB tT tr tm tf)), (4, .long (f_T_time tN tB tT tm tf)), (0, .ref m), (1, .int (nI i)), (2, .int x), (3, .int y)] [.long ((f_T_time tN tB tT tm tf) + y.toInt64), .int (nI i), .ref aU] [(m, .inr (5, (.int (nI tS) :: .int tD :: .int tE :: .long tN :: .int (bI tA) :: .long tL :: .ref aK :: .ref aP :: .ref aQ :: .ref aT :: .ref aW :: .ref aO :: .ref aM :: .ref aL :: .ref aH :: .ref aI :: .ref aS :: .ref aR :: .ref aX :: .ref aF :: .ref aY :: .ref aJ :: .long tl :: .long tg :: .int (bI tB) :: .int tM :: .int tb :: .long tv :: .long tw :: .long tT :: .long tr :: .long tm :: .long tf :: .ref aG :: .ref aE :: .ref aU :: []))), (aG, .inl (κ.z 2, 4, .inl (aB (va_up gG i true)))), (aE, .inl (κ.z 0, 4, .inl (upd gE i x))), (aU, .inl (κ.z 1, 4, .inr (.inl gU)))]
                refine v_lastN X 3 1 (j := i) (x := ((f_T_time tN tB tT tm tf) + y.toInt64)) rfl rfl (by omega) (by omega) d_T_grant_150 (ws' := [(m, .inr (5, (.int (nI tS) :: .int tD :: .int tE :: .long tN :: .int (bI tA) :: .long tL :: .ref aK :: .ref aP :: .ref aQ :: .ref aT :: .ref aW :: .ref aO :: .ref aM :: .ref aL :: .ref aH :: .ref aI :: .ref aS :: .ref aR :: .ref aX :: .ref aF :: .ref aY :: .ref aJ :: .long tl :: .long tg :: .int (bI tB) :: .int tM :: .int tb :: .long tv :: .long tw :: .long tT :: .long tr :: .long tm :: .long tf :: .ref aG :: .ref aE :: .ref aU :: []))), (aG, .inl (κ.z 2, 4, .inl (aB (va_up gG i true)))), (aE, .inl (κ.z 0, 4, .inl (upd gE i x))), (aU, .inl (κ.z 1, 4, .inr (.inl (vp_updL gU i ((f_T_time tN tB tT tm tf) + y.toInt64)))))]) rfl ?_
                refine v_lload X 2 d_T_grant_151 rfl ?_
                exact v_lret X Y (by decide) (by decide) d_T_grant_153 ⟨by first | (simp only [f_T_grantG, f_T_grantG_r1, f_T_grantG_r2, f_T_grantG_r3, if_neg c8, if_neg c13, if_neg c19, if_pos c26, if_pos c58, if_neg c102, if_pos c121] <;> rfl) | rfl, by first | (simp only [f_T_grantG, f_T_grantG_r1, f_T_grantG_r2, f_T_grantG_r3, if_neg c8, if_neg c13, if_neg c19, if_pos c26, if_pos c58, if_neg c102, if_pos c121] <;> rfl) | rfl⟩
              · skip
                refine v_ldc2 X (v := (-4611686018427387904)) m528 d_T_grant_125 ?_
                exact v_lret X Y (by decide) (by decide) d_T_grant_128 ⟨by first | (simp only [f_T_grantG, f_T_grantG_r1, f_T_grantG_r2, f_T_grantG_r3, if_neg c8, if_neg c13, if_neg c19, if_pos c26, if_pos c58, if_neg c102, if_neg c121] <;> rfl) | rfl, by first | (simp only [f_T_grantG, f_T_grantG_r1, f_T_grantG_r2, f_T_grantG_r3, if_neg c8, if_neg c13, if_neg c19, if_pos c26, if_pos c58, if_neg c102, if_neg c121] <;> rfl) | rfl⟩
            · skip
              refine v_iload X 0 d_T_grant_105 rfl ?_
              refine v_ifB_ne X 129 (t := if ((f_T_time tN tB tT tm tf) - (f_T_bound tD tN tB tT tr tm tf)) < (gU i) then false else true) d_T_grant_107 (by decide) (fun c107 => ?_) (fun c107 => ?_)
              · skip
                refine v_aload_n X 5 d_T_grant_129 rfl ?_
                refine v_get X 0 33 rfl rfl li_T (by decide) m460 rfl d_T_grant_130 ?_
                refine v_iload_n X 6 d_T_grant_133 rfl ?_
                refine v_iconst X 1 d_T_grant_134 (by decide) ?_
                refine v_zastN X 1 2 (j := i) (x := true) rfl rfl (by omega) (by omega) d_T_grant_135 (ws' := [(m, .inr (5, (.int (nI tS) :: .int tD :: .int tE :: .long tN :: .int (bI tA) :: .long tL :: .ref aK :: .ref aP :: .ref aQ :: .ref aT :: .ref aW :: .ref aO :: .ref aM :: .ref aL :: .ref aH :: .ref aI :: .ref aS :: .ref aR :: .ref aX :: .ref aF :: .ref aY :: .ref aJ :: .long tl :: .long tg :: .int (bI tB) :: .int tM :: .int tb :: .long tv :: .long tw :: .long tT :: .long tr :: .long tm :: .long tf :: .ref aG :: .ref aE :: .ref aU :: []))), (aG, .inl (κ.z 2, 4, .inl (aB (va_up gG i true)))), (aE, .inl (κ.z 0, 4, .inl gE)), (aU, .inl (κ.z 1, 4, .inr (.inl gU)))]) rfl ?_
                refine v_aload_n X 5 d_T_grant_136 rfl ?_
                refine v_get X 0 34 rfl rfl li_T (by decide) m461 rfl d_T_grant_137 ?_
                refine v_iload_n X 6 d_T_grant_140 rfl ?_
                refine v_iload_n X 7 d_T_grant_141 rfl ?_
                refine v_iastN X 2 0 (j := i) (x := x) rfl rfl (by omega) (by omega) d_T_grant_142 (ws' := [(m, .inr (5, (.int (nI tS) :: .int tD :: .int tE :: .long tN :: .int (bI tA) :: .long tL :: .ref aK :: .ref aP :: .ref aQ :: .ref aT :: .ref aW :: .ref aO :: .ref aM :: .ref aL :: .ref aH :: .ref aI :: .ref aS :: .ref aR :: .ref aX :: .ref aF :: .ref aY :: .ref aJ :: .long tl :: .long tg :: .int (bI tB) :: .int tM :: .int tb :: .long tv :: .long tw :: .long tT :: .long tr :: .long tm :: .long tf :: .ref aG :: .ref aE :: .ref aU :: []))), (aG, .inl (κ.z 2, 4, .inl (aB (va_up gG i true)))), (aE, .inl (κ.z 0, 4, .inl (upd gE i x))), (aU, .inl (κ.z 1, 4, .inr (.inl gU)))]) rfl ?_
                refine v_aload_n X 5 d_T_grant_143 rfl ?_
                refine v_get X 0 35 rfl rfl li_T (by decide) m462 rfl d_T_grant_144 ?_
                refine v_iload_n X 6 d_T_grant_147 rfl ?_
                refine v_lload X 2 d_T_grant_148 rfl ?_
                show V κ 12 0 0 150 [(11, .int (bI (if ((f_T_time tN tB tT tm tf) - (f_T_bound tD tN tB tT tr tm tf)) < (gU i) then false else true))), (10, .int (bI (if (gE i) = x then false else true))), (8, .long ((f_T_time tN tB tT tm tf) + y.toInt64)), (6, .long (f_T_bound tD tN tB tT tr tm tf)), (4, .long (f_T_time tN tB tT tm tf)), (0, .ref m), (1, .int (nI i)), (2, .int x), (3, .int y)] [.long ((f_T_time tN tB tT tm tf) + y.toInt64), .int (nI i), .ref aU] [(m, .inr (5, (.int (nI tS) :: .int tD :: .int tE :: .long tN :: .int (bI tA) :: .long tL :: .ref aK :: .ref aP :: .ref aQ :: .ref aT :: .ref aW :: .ref aO :: .ref aM :: .ref aL :: .ref aH :: .ref aI :: .ref aS :: .ref aR :: .ref aX :: .ref aF :: .ref aY :: .ref aJ :: .long tl :: .long tg :: .int (bI tB) :: .int tM :: .int tb :: .long tv :: .long tw :: .long tT :: .long tr :: .long tm :: .long tf :: .ref aG :: .ref aE :: .ref aU :: []))), (aG, .inl (κ.z 2, 4, .inl (aB (va_up gG i true)))), (aE, .inl (κ.z 0, 4, .inl (upd gE i x))), (aU, .inl (κ.z 1, 4, .inr (.inl gU)))]
                refine v_lastN X 3 1 (j := i) (x := ((f_T_time tN tB tT tm tf) + y.toInt64)) rfl rfl (by omega) (by omega) d_T_grant_150 (ws' := [(m, .inr (5, (.int (nI tS) :: .int tD :: .int tE :: .long tN :: .int (bI tA) :: .long tL :: .ref aK :: .ref aP :: .ref aQ :: .ref aT :: .ref aW :: .ref aO :: .ref aM :: .ref aL :: .ref aH :: .ref aI :: .ref aS :: .ref aR :: .ref aX :: .ref aF :: .ref aY :: .ref aJ :: .long tl :: .long tg :: .int (bI tB) :: .int tM :: .int tb :: .long tv :: .long tw :: .long tT :: .long tr :: .long tm :: .long tf :: .ref aG :: .ref aE :: .ref aU :: []))), (aG, .inl (κ.z 2, 4, .inl (aB (va_up gG i true)))), (aE, .inl (κ.z 0, 4, .inl (upd gE i x))), (aU, .inl (κ.z 1, 4, .inr (.inl (vp_updL gU i ((f_T_time tN tB tT tm tf) + y.toInt64)))))]) rfl ?_
                refine v_lload X 2 d_T_grant_151 rfl ?_
                exact v_lret X Y (by decide) (by decide) d_T_grant_153 ⟨by first | (simp only [f_T_grantG, f_T_grantG_r1, f_T_grantG_r2, f_T_grantG_r3, if_neg c8, if_neg c13, if_neg c19, if_pos c26, if_pos c58, if_pos c102, if_pos c107] <;> rfl) | rfl, by first | (simp only [f_T_grantG, f_T_grantG_r1, f_T_grantG_r2, f_T_grantG_r3, if_neg c8, if_neg c13, if_neg c19, if_pos c26, if_pos c58, if_pos c102, if_pos c107] <;> rfl) | rfl⟩
              · skip
                refine v_goto X 125 d_T_grant_110 (by decide) ?_
                refine v_ldc2 X (v := (-4611686018427387904)) m528 d_T_grant_125 ?_
                exact v_lret X Y (by decide) (by decide) d_T_grant_128 ⟨by first | (simp only [f_T_grantG, f_T_grantG_r1, f_T_grantG_r2, f_T_grantG_r3, if_neg c8, if_neg c13, if_neg c19, if_pos c26, if_pos c58, if_pos c102, if_neg c107] <;> rfl) | rfl, by first | (simp only [f_T_grantG, f_T_grantG_r1, f_T_grantG_r2, f_T_grantG_r3, if_neg c8, if_neg c13, if_neg c19, if_pos c26, if_pos c58, if_pos c102, if_neg c107] <;> rfl) | rfl⟩
        · skip
          refine v_ldc2 X (v := (-4611686018427387904)) m528 d_T_grant_29 ?_
          exact v_lret X Y (by decide) (by decide) d_T_grant_32 ⟨by first | (simp only [f_T_grantG, f_T_grantG_r1, f_T_grantG_r2, f_T_grantG_r3, if_neg c8, if_neg c13, if_neg c19, if_neg c26] <;> rfl) | rfl, by first | (simp only [f_T_grantG, f_T_grantG_r1, f_T_grantG_r2, f_T_grantG_r3, if_neg c8, if_neg c13, if_neg c19, if_neg c26] <;> rfl) | rfl⟩

set_option maxHeartbeats 4000000 in
set_option maxRecDepth 100000 in
theorem c_T_grantB (l : Launch) (D : va_G) (z : Nat → ClassId) (m : Nat) (tS : Nat) (tD : Int32) (tE : Int32) (tN : Int64) (tA : Bool) (tL : Int64) (aK : Nat) (aP : Nat) (aQ : Nat) (aT : Nat) (aW : Nat) (aO : Nat) (aM : Nat) (aL : Nat) (aH : Nat) (aI : Nat) (aS : Nat) (aR : Nat) (aX : Nat) (aF : Nat) (aY : Nat) (aJ : Nat) (tl : Int64) (tg : Int64) (tB : Bool) (tM : Int32) (tb : Int32) (tv : Int64) (tw : Int64) (tT : Int64) (tr : Int64) (tm : Int64) (tf : Int64) (aG : Nat) (aE : Nat) (aU : Nat) (s : Int32) (x : Int32) (y : Int32) (hb9 : ¬ s < 0 → ¬ s < nI 4) : Ctr l D z y_T_grant b_T_grant 12 (some .long) { frames := 2, cells := 0, slots := 0, locals := 48 } [.ref m, .int s, .int x, .int y] [(m, .inr (5, (.int (nI tS) :: .int tD :: .int tE :: .long tN :: .int (bI tA) :: .long tL :: .ref aK :: .ref aP :: .ref aQ :: .ref aT :: .ref aW :: .ref aO :: .ref aM :: .ref aL :: .ref aH :: .ref aI :: .ref aS :: .ref aR :: .ref aX :: .ref aF :: .ref aY :: .ref aJ :: .long tl :: .long tg :: .int (bI tB) :: .int tM :: .int tb :: .long tv :: .long tw :: .long tT :: .long tr :: .long tm :: .long tf :: .ref aG :: .ref aE :: .ref aU :: [])))] (fun v w => v = some (.long (-4611686018427387904)) ∧ w = [(m, .inr (5, (.int (nI tS) :: .int tD :: .int tE :: .long tN :: .int (bI tA) :: .long tL :: .ref aK :: .ref aP :: .ref aQ :: .ref aT :: .ref aW :: .ref aO :: .ref aM :: .ref aL :: .ref aH :: .ref aI :: .ref aS :: .ref aR :: .ref aX :: .ref aF :: .ref aY :: .ref aJ :: .long tl :: .long tg :: .int (bI tB) :: .int tM :: .int tb :: .long tv :: .long tw :: .long tT :: .long tr :: .long tm :: .long tf :: .ref aG :: .ref aE :: .ref aU :: [])))]) 0 0 := by
  refine met_V (own := R_T) (nm := "grant") (by decide +kernel) rfl rfl (Nat.le_of_ble_eq_true rfl) ?_
  intro κ hl hD hz X Y
  subst hl
  subst hD
  subst hz
  show V κ 12 0 0 0 [(0, .ref m), (1, .int s), (2, .int x), (3, .int y)] [] [(m, .inr (5, (.int (nI tS) :: .int tD :: .int tE :: .long tN :: .int (bI tA) :: .long tL :: .ref aK :: .ref aP :: .ref aQ :: .ref aT :: .ref aW :: .ref aO :: .ref aM :: .ref aL :: .ref aH :: .ref aI :: .ref aS :: .ref aR :: .ref aX :: .ref aF :: .ref aY :: .ref aJ :: .long tl :: .long tg :: .int (bI tB) :: .int tM :: .int tb :: .long tv :: .long tw :: .long tT :: .long tr :: .long tm :: .long tf :: .ref aG :: .ref aE :: .ref aU :: [])))]
  refine v_iload_n X 1 d_T_grant_0 rfl ?_
  refine v_callS X (k := 0) (n := 0) (n9 := 1) (As := [.int s]) (rest := []) (wc := []) (wr := [(m, .inr (5, (.int (nI tS) :: .int tD :: .int tE :: .long tN :: .int (bI tA) :: .long tL :: .ref aK :: .ref aP :: .ref aQ :: .ref aT :: .ref aW :: .ref aO :: .ref aM :: .ref aL :: .ref aH :: .ref aI :: .ref aS :: .ref aR :: .ref aX :: .ref aF :: .ref aY :: .ref aJ :: .long tl :: .long tg :: .int (bI tB) :: .int tM :: .int tb :: .long tv :: .long tw :: .long tT :: .long tr :: .long tm :: .long tf :: .ref aG :: .ref aE :: .ref aU :: [])))]) (c_T_isLeaseB κ.l κ.D κ.z s hb9) m621 m622 m36 (by decide +kernel) rfl (Nat.le_of_ble_eq_true rfl) ⟨by decide, by decide⟩ ⟨by decide, by decide⟩ rfl rfl m623 d_T_grant_1 (fun v w1 hg => ?_)
  obtain ⟨rfl, rfl⟩ := hg
  show V κ 12 0 0 4 [(0, .ref m), (1, .int s), (2, .int x), (3, .int y)] [.int (bI false)] [(m, .inr (5, (.int (nI tS) :: .int tD :: .int tE :: .long tN :: .int (bI tA) :: .long tL :: .ref aK :: .ref aP :: .ref aQ :: .ref aT :: .ref aW :: .ref aO :: .ref aM :: .ref aL :: .ref aH :: .ref aI :: .ref aS :: .ref aR :: .ref aX :: .ref aF :: .ref aY :: .ref aJ :: .long tl :: .long tg :: .int (bI tB) :: .int tM :: .int tb :: .long tv :: .long tw :: .long tT :: .long tr :: .long tm :: .long tf :: .ref aG :: .ref aE :: .ref aU :: [])))]
  refine v_ifB_eq X 29 (t := false) d_T_grant_4 (by decide) (fun c4 => ?_) (fun c4 => absurd c4 (by decide))
  refine v_ldc2 X (v := (-4611686018427387904)) m528 d_T_grant_29 ?_
  exact v_lret X Y (by decide) (by decide) d_T_grant_32 ⟨rfl, rfl⟩

def f_T_holdsG (gG : Nat → Bool) (gE : Nat → Int32) (gU : Nat → Int64) (i : Nat) (x : Int32) (y : Int64) (t : Int64) : Bool := if (gG i) = true then (if (gE i) = x then (if (f_T_between t 0 1099511627776) = true then (if (f_T_between y (-1099511627776) 2199023255552) = true then (if (gU i) ≤ (y + t) then false else true) else false) else false) else false) else false
set_option maxHeartbeats 4000000 in
set_option maxRecDepth 100000 in
theorem c_T_holdsG (l : Launch) (D : va_G) (z : Nat → ClassId) (m : Nat) (tS : Nat) (tD : Int32) (tE : Int32) (tN : Int64) (tA : Bool) (tL : Int64) (aK : Nat) (aP : Nat) (aQ : Nat) (aT : Nat) (aW : Nat) (aO : Nat) (aM : Nat) (aL : Nat) (aH : Nat) (aI : Nat) (aS : Nat) (aR : Nat) (aX : Nat) (aF : Nat) (aY : Nat) (aJ : Nat) (tl : Int64) (tg : Int64) (tB : Bool) (tM : Int32) (tb : Int32) (tv : Int64) (tw : Int64) (tT : Int64) (tr : Int64) (tm : Int64) (tf : Int64) (aG : Nat) (aE : Nat) (aU : Nat) (gG : Nat → Bool) (gE : Nat → Int32) (gU : Nat → Int64) (i : Nat) (x : Int32) (y : Int64) (t : Int64) (hi9 : i < 4) : Ctr l D z y_T_holds b_T_holds 7 (some .boolean) { frames := 1, cells := 0, slots := 0, locals := 25 } [.ref m, .int (nI i), .int x, .long y, .long t] [(m, .inr (5, (.int (nI tS) :: .int tD :: .int tE :: .long tN :: .int (bI tA) :: .long tL :: .ref aK :: .ref aP :: .ref aQ :: .ref aT :: .ref aW :: .ref aO :: .ref aM :: .ref aL :: .ref aH :: .ref aI :: .ref aS :: .ref aR :: .ref aX :: .ref aF :: .ref aY :: .ref aJ :: .long tl :: .long tg :: .int (bI tB) :: .int tM :: .int tb :: .long tv :: .long tw :: .long tT :: .long tr :: .long tm :: .long tf :: .ref aG :: .ref aE :: .ref aU :: []))), (aG, .inl (z 2, 4, .inl (aB gG))), (aE, .inl (z 0, 4, .inl gE)), (aU, .inl (z 1, 4, .inr (.inl gU)))] (fun v w => v = some (.int (bI (f_T_holdsG gG gE gU i x y t))) ∧ w = [(m, .inr (5, (.int (nI tS) :: .int tD :: .int tE :: .long tN :: .int (bI tA) :: .long tL :: .ref aK :: .ref aP :: .ref aQ :: .ref aT :: .ref aW :: .ref aO :: .ref aM :: .ref aL :: .ref aH :: .ref aI :: .ref aS :: .ref aR :: .ref aX :: .ref aF :: .ref aY :: .ref aJ :: .long tl :: .long tg :: .int (bI tB) :: .int tM :: .int tb :: .long tv :: .long tw :: .long tT :: .long tr :: .long tm :: .long tf :: .ref aG :: .ref aE :: .ref aU :: []))), (aG, .inl (z 2, 4, .inl (aB gG))), (aE, .inl (z 0, 4, .inl gE)), (aU, .inl (z 1, 4, .inr (.inl gU)))]) 0 0 := by
  refine met_V (own := R_T) (nm := "holds") (by decide +kernel) rfl rfl (Nat.le_of_ble_eq_true rfl) ?_
  intro κ hl hD hz X Y
  subst hl
  subst hD
  subst hz
  show V κ 7 0 0 0 [(0, .ref m), (1, .int (nI i)), (2, .int x), (3, .long y), (5, .long t)] [] [(m, .inr (5, (.int (nI tS) :: .int tD :: .int tE :: .long tN :: .int (bI tA) :: .long tL :: .ref aK :: .ref aP :: .ref aQ :: .ref aT :: .ref aW :: .ref aO :: .ref aM :: .ref aL :: .ref aH :: .ref aI :: .ref aS :: .ref aR :: .ref aX :: .ref aF :: .ref aY :: .ref aJ :: .long tl :: .long tg :: .int (bI tB) :: .int tM :: .int tb :: .long tv :: .long tw :: .long tT :: .long tr :: .long tm :: .long tf :: .ref aG :: .ref aE :: .ref aU :: []))), (aG, .inl (κ.z 2, 4, .inl (aB gG))), (aE, .inl (κ.z 0, 4, .inl gE)), (aU, .inl (κ.z 1, 4, .inr (.inl gU)))]
  refine v_iload_n X 1 d_T_holds_0 rfl ?_
  refine v_callS X (k := 0) (n := 0) (n9 := 1) (As := [.int (nI i)]) (rest := []) (wc := []) (wr := [(m, .inr (5, (.int (nI tS) :: .int tD :: .int tE :: .long tN :: .int (bI tA) :: .long tL :: .ref aK :: .ref aP :: .ref aQ :: .ref aT :: .ref aW :: .ref aO :: .ref aM :: .ref aL :: .ref aH :: .ref aI :: .ref aS :: .ref aR :: .ref aX :: .ref aF :: .ref aY :: .ref aJ :: .long tl :: .long tg :: .int (bI tB) :: .int tM :: .int tb :: .long tv :: .long tw :: .long tT :: .long tr :: .long tm :: .long tf :: .ref aG :: .ref aE :: .ref aU :: []))), (aG, .inl (κ.z 2, 4, .inl (aB gG))), (aE, .inl (κ.z 0, 4, .inl gE)), (aU, .inl (κ.z 1, 4, .inr (.inl gU)))]) (c_T_isLeaseG κ.l κ.D κ.z i hi9) m621 m622 m36 (by decide +kernel) rfl (Nat.le_of_ble_eq_true rfl) ⟨by decide, by decide⟩ ⟨by decide, by decide⟩ rfl rfl m623 d_T_holds_1 (fun v w1 hg => ?_)
  obtain ⟨rfl, rfl⟩ := hg
  show V κ 7 0 0 4 [(0, .ref m), (1, .int (nI i)), (2, .int x), (3, .long y), (5, .long t)] [.int (bI true)] [(m, .inr (5, (.int (nI tS) :: .int tD :: .int tE :: .long tN :: .int (bI tA) :: .long tL :: .ref aK :: .ref aP :: .ref aQ :: .ref aT :: .ref aW :: .ref aO :: .ref aM :: .ref aL :: .ref aH :: .ref aI :: .ref aS :: .ref aR :: .ref aX :: .ref aF :: .ref aY :: .ref aJ :: .long tl :: .long tg :: .int (bI tB) :: .int tM :: .int tb :: .long tv :: .long tw :: .long tT :: .long tr :: .long tm :: .long tf :: .ref aG :: .ref aE :: .ref aU :: []))), (aG, .inl (κ.z 2, 4, .inl (aB gG))), (aE, .inl (κ.z 0, 4, .inl gE)), (aU, .inl (κ.z 1, 4, .inr (.inl gU)))]
  refine v_ifB_eq X 26 (t := true) d_T_holds_4 (by decide) (fun c4 => absurd c4 (by decide)) (fun c4 => ?_)
  refine v_aload_n X 0 d_T_holds_7 rfl ?_
  refine v_get X 0 33 rfl rfl li_T (by decide) m460 rfl d_T_holds_8 ?_
  refine v_iload_n X 1 d_T_holds_11 rfl ?_
  refine v_zaldN X 1 2 (j := i) rfl rfl (by omega) (by omega) d_T_holds_12 ?_
  refine v_ifB_eq X 26 (t := gG i) d_T_holds_13 (by decide) (fun c13 => ?_) (fun c13 => ?_)
  · skip
    refine v_iconst X 0 d_T_holds_26 (by decide) ?_
    exact v_zret X Y (by decide) (by decide) d_T_holds_27 rfl ⟨by first | (simp only [f_T_holdsG, if_neg c13] <;> rfl) | rfl, rfl⟩
  · skip
    refine v_aload_n X 0 d_T_holds_16 rfl ?_
    refine v_get X 0 34 rfl rfl li_T (by decide) m461 rfl d_T_holds_17 ?_
    refine v_iload_n X 1 d_T_holds_20 rfl ?_
    refine v_ialdN X 2 0 (j := i) rfl rfl (by omega) (by omega) d_T_holds_21 ?_
    refine v_iload_n X 2 d_T_holds_22 rfl ?_
    refine v_icmp_eq X 28 d_T_holds_23 (by decide) (fun c23 => ?_) (fun c23 => ?_)
    · skip
      refine v_lload X 4 d_T_holds_28 rfl ?_
      refine v_lconst X 0 d_T_holds_30 (by decide) ?_
      refine v_ldc2 X (v := 1099511627776) m536 d_T_holds_31 ?_
      refine v_callS X (k := 0) (n := 0) (n9 := 3) (As := [.long t, .long 0, .long 1099511627776]) (rest := []) (wc := []) (wr := [(m, .inr (5, (.int (nI tS) :: .int tD :: .int tE :: .long tN :: .int (bI tA) :: .long tL :: .ref aK :: .ref aP :: .ref aQ :: .ref aT :: .ref aW :: .ref aO :: .ref aM :: .ref aL :: .ref aH :: .ref aI :: .ref aS :: .ref aR :: .ref aX :: .ref aF :: .ref aY :: .ref aJ :: .long tl :: .long tg :: .int (bI tB) :: .int tM :: .int tb :: .long tv :: .long tw :: .long tT :: .long tr :: .long tm :: .long tf :: .ref aG :: .ref aE :: .ref aU :: []))), (aG, .inl (κ.z 2, 4, .inl (aB gG))), (aE, .inl (κ.z 0, 4, .inl gE)), (aU, .inl (κ.z 1, 4, .inr (.inl gU)))]) (c_T_between κ.l κ.D κ.z t 0 1099511627776 ) m537 m538 m36 (by decide +kernel) rfl (Nat.le_of_ble_eq_true rfl) ⟨by decide, by decide⟩ ⟨by decide, by decide⟩ rfl rfl m539 d_T_holds_34 (fun v w1 hg => ?_)
      obtain ⟨rfl, rfl⟩ := hg
      show V κ 7 0 0 37 [(0, .ref m), (1, .int (nI i)), (2, .int x), (3, .long y), (5, .long t)] [.int (bI (f_T_between t 0 1099511627776))] [(m, .inr (5, (.int (nI tS) :: .int tD :: .int tE :: .long tN :: .int (bI tA) :: .long tL :: .ref aK :: .ref aP :: .ref aQ :: .ref aT :: .ref aW :: .ref aO :: .ref aM :: .ref aL :: .ref aH :: .ref aI :: .ref aS :: .ref aR :: .ref aX :: .ref aF :: .ref aY :: .ref aJ :: .long tl :: .long tg :: .int (bI tB) :: .int tM :: .int tb :: .long tv :: .long tw :: .long tT :: .long tr :: .long tm :: .long tf :: .ref aG :: .ref aE :: .ref aU :: []))), (aG, .inl (κ.z 2, 4, .inl (aB gG))), (aE, .inl (κ.z 0, 4, .inl gE)), (aU, .inl (κ.z 1, 4, .inr (.inl gU)))]
      refine v_ifB_eq X 53 (t := f_T_between t 0 1099511627776) d_T_holds_37 (by decide) (fun c37 => ?_) (fun c37 => ?_)
      · skip
        refine v_iconst X 0 d_T_holds_53 (by decide) ?_
        exact v_zret X Y (by decide) (by decide) d_T_holds_54 rfl ⟨by first | (simp only [f_T_holdsG, if_pos c13, if_pos c23, if_neg c37] <;> rfl) | rfl, rfl⟩
      · skip
        refine v_lload_n X 3 d_T_holds_40 rfl ?_
        refine v_ldc2 X (v := (-1099511627776)) m630 d_T_holds_41 ?_
        refine v_ldc2 X (v := 2199023255552) m631 d_T_holds_44 ?_
        refine v_callS X (k := 0) (n := 0) (n9 := 3) (As := [.long y, .long (-1099511627776), .long 2199023255552]) (rest := []) (wc := []) (wr := [(m, .inr (5, (.int (nI tS) :: .int tD :: .int tE :: .long tN :: .int (bI tA) :: .long tL :: .ref aK :: .ref aP :: .ref aQ :: .ref aT :: .ref aW :: .ref aO :: .ref aM :: .ref aL :: .ref aH :: .ref aI :: .ref aS :: .ref aR :: .ref aX :: .ref aF :: .ref aY :: .ref aJ :: .long tl :: .long tg :: .int (bI tB) :: .int tM :: .int tb :: .long tv :: .long tw :: .long tT :: .long tr :: .long tm :: .long tf :: .ref aG :: .ref aE :: .ref aU :: []))), (aG, .inl (κ.z 2, 4, .inl (aB gG))), (aE, .inl (κ.z 0, 4, .inl gE)), (aU, .inl (κ.z 1, 4, .inr (.inl gU)))]) (c_T_between κ.l κ.D κ.z y (-1099511627776) 2199023255552 ) m537 m538 m36 (by decide +kernel) rfl (Nat.le_of_ble_eq_true rfl) ⟨by decide, by decide⟩ ⟨by decide, by decide⟩ rfl rfl m539 d_T_holds_47 (fun v w1 hg => ?_)
        obtain ⟨rfl, rfl⟩ := hg
        show V κ 7 0 0 50 [(0, .ref m), (1, .int (nI i)), (2, .int x), (3, .long y), (5, .long t)] [.int (bI (f_T_between y (-1099511627776) 2199023255552))] [(m, .inr (5, (.int (nI tS) :: .int tD :: .int tE :: .long tN :: .int (bI tA) :: .long tL :: .ref aK :: .ref aP :: .ref aQ :: .ref aT :: .ref aW :: .ref aO :: .ref aM :: .ref aL :: .ref aH :: .ref aI :: .ref aS :: .ref aR :: .ref aX :: .ref aF :: .ref aY :: .ref aJ :: .long tl :: .long tg :: .int (bI tB) :: .int tM :: .int tb :: .long tv :: .long tw :: .long tT :: .long tr :: .long tm :: .long tf :: .ref aG :: .ref aE :: .ref aU :: []))), (aG, .inl (κ.z 2, 4, .inl (aB gG))), (aE, .inl (κ.z 0, 4, .inl gE)), (aU, .inl (κ.z 1, 4, .inr (.inl gU)))]
        refine v_ifB_ne X 55 (t := f_T_between y (-1099511627776) 2199023255552) d_T_holds_50 (by decide) (fun c50 => ?_) (fun c50 => ?_)
        · skip
          refine v_lload_n X 3 d_T_holds_55 rfl ?_
          refine v_lload X 4 d_T_holds_56 rfl ?_
          refine v_ladd X d_T_holds_58 ?_
          refine v_aload_n X 0 d_T_holds_59 rfl ?_
          refine v_get X 0 35 rfl rfl li_T (by decide) m462 rfl d_T_holds_60 ?_
          refine v_iload_n X 1 d_T_holds_63 rfl ?_
          refine v_laldN X 3 1 (j := i) rfl rfl (by omega) (by omega) d_T_holds_64 ?_
          suffices hm65 : V κ 7 0 0 74 [(0, .ref m), (1, .int (nI i)), (2, .int x), (3, .long y), (5, .long t)] [.int (bI (if (gU i) ≤ (y + t) then false else true))] [(m, .inr (5, (.int (nI tS) :: .int tD :: .int tE :: .long tN :: .int (bI tA) :: .long tL :: .ref aK :: .ref aP :: .ref aQ :: .ref aT :: .ref aW :: .ref aO :: .ref aM :: .ref aL :: .ref aH :: .ref aI :: .ref aS :: .ref aR :: .ref aX :: .ref aF :: .ref aY :: .ref aJ :: .long tl :: .long tg :: .int (bI tB) :: .int tM :: .int tb :: .long tv :: .long tw :: .long tT :: .long tr :: .long tm :: .long tf :: .ref aG :: .ref aE :: .ref aU :: []))), (aG, .inl (κ.z 2, 4, .inl (aB gG))), (aE, .inl (κ.z 0, 4, .inl gE)), (aU, .inl (κ.z 1, 4, .inr (.inl gU)))] by
            refine v_lcmp_ge X 73 d_T_holds_65 d_T_holds_66 (by decide) (fun c65 => ?_) (fun c65 => ?_)
            · skip
              refine v_iconst X 0 d_T_holds_73 (by decide) ?_
              have h9 := hm65; simp only [if_pos c65] at h9; first | exact h9 | (simp only [if_pos c65]; exact h9)
            · skip
              refine v_iconst X 1 d_T_holds_69 (by decide) ?_
              refine v_goto X 74 d_T_holds_70 (by decide) ?_
              have h9 := hm65; simp only [if_neg c65] at h9; first | exact h9 | (simp only [if_neg c65]; exact h9)
          exact v_zret X Y (by decide) (by decide) d_T_holds_74 (narB _) ⟨by first | (simp only [f_T_holdsG, if_pos c13, if_pos c23, if_pos c37, if_pos c50] <;> rfl) | rfl, rfl⟩
        · skip
          refine v_iconst X 0 d_T_holds_53 (by decide) ?_
          exact v_zret X Y (by decide) (by decide) d_T_holds_54 rfl ⟨by first | (simp only [f_T_holdsG, if_pos c13, if_pos c23, if_pos c37, if_neg c50] <;> rfl) | rfl, rfl⟩
    · skip
      refine v_iconst X 0 d_T_holds_26 (by decide) ?_
      exact v_zret X Y (by decide) (by decide) d_T_holds_27 rfl ⟨by first | (simp only [f_T_holdsG, if_pos c13, if_neg c23] <;> rfl) | rfl, rfl⟩

set_option maxHeartbeats 4000000 in
set_option maxRecDepth 100000 in
theorem c_T_holdsB (l : Launch) (D : va_G) (z : Nat → ClassId) (m : Nat) (tS : Nat) (tD : Int32) (tE : Int32) (tN : Int64) (tA : Bool) (tL : Int64) (aK : Nat) (aP : Nat) (aQ : Nat) (aT : Nat) (aW : Nat) (aO : Nat) (aM : Nat) (aL : Nat) (aH : Nat) (aI : Nat) (aS : Nat) (aR : Nat) (aX : Nat) (aF : Nat) (aY : Nat) (aJ : Nat) (tl : Int64) (tg : Int64) (tB : Bool) (tM : Int32) (tb : Int32) (tv : Int64) (tw : Int64) (tT : Int64) (tr : Int64) (tm : Int64) (tf : Int64) (aG : Nat) (aE : Nat) (aU : Nat) (s : Int32) (x : Int32) (y : Int64) (t : Int64) (hb9 : ¬ s < 0 → ¬ s < nI 4) : Ctr l D z y_T_holds b_T_holds 7 (some .boolean) { frames := 1, cells := 0, slots := 0, locals := 25 } [.ref m, .int s, .int x, .long y, .long t] [(m, .inr (5, (.int (nI tS) :: .int tD :: .int tE :: .long tN :: .int (bI tA) :: .long tL :: .ref aK :: .ref aP :: .ref aQ :: .ref aT :: .ref aW :: .ref aO :: .ref aM :: .ref aL :: .ref aH :: .ref aI :: .ref aS :: .ref aR :: .ref aX :: .ref aF :: .ref aY :: .ref aJ :: .long tl :: .long tg :: .int (bI tB) :: .int tM :: .int tb :: .long tv :: .long tw :: .long tT :: .long tr :: .long tm :: .long tf :: .ref aG :: .ref aE :: .ref aU :: [])))] (fun v w => v = some (.int (bI false)) ∧ w = [(m, .inr (5, (.int (nI tS) :: .int tD :: .int tE :: .long tN :: .int (bI tA) :: .long tL :: .ref aK :: .ref aP :: .ref aQ :: .ref aT :: .ref aW :: .ref aO :: .ref aM :: .ref aL :: .ref aH :: .ref aI :: .ref aS :: .ref aR :: .ref aX :: .ref aF :: .ref aY :: .ref aJ :: .long tl :: .long tg :: .int (bI tB) :: .int tM :: .int tb :: .long tv :: .long tw :: .long tT :: .long tr :: .long tm :: .long tf :: .ref aG :: .ref aE :: .ref aU :: [])))]) 0 0 := by
  refine met_V (own := R_T) (nm := "holds") (by decide +kernel) rfl rfl (Nat.le_of_ble_eq_true rfl) ?_
  intro κ hl hD hz X Y
  subst hl
  subst hD
  subst hz
  show V κ 7 0 0 0 [(0, .ref m), (1, .int s), (2, .int x), (3, .long y), (5, .long t)] [] [(m, .inr (5, (.int (nI tS) :: .int tD :: .int tE :: .long tN :: .int (bI tA) :: .long tL :: .ref aK :: .ref aP :: .ref aQ :: .ref aT :: .ref aW :: .ref aO :: .ref aM :: .ref aL :: .ref aH :: .ref aI :: .ref aS :: .ref aR :: .ref aX :: .ref aF :: .ref aY :: .ref aJ :: .long tl :: .long tg :: .int (bI tB) :: .int tM :: .int tb :: .long tv :: .long tw :: .long tT :: .long tr :: .long tm :: .long tf :: .ref aG :: .ref aE :: .ref aU :: [])))]
  refine v_iload_n X 1 d_T_holds_0 rfl ?_
  refine v_callS X (k := 0) (n := 0) (n9 := 1) (As := [.int s]) (rest := []) (wc := []) (wr := [(m, .inr (5, (.int (nI tS) :: .int tD :: .int tE :: .long tN :: .int (bI tA) :: .long tL :: .ref aK :: .ref aP :: .ref aQ :: .ref aT :: .ref aW :: .ref aO :: .ref aM :: .ref aL :: .ref aH :: .ref aI :: .ref aS :: .ref aR :: .ref aX :: .ref aF :: .ref aY :: .ref aJ :: .long tl :: .long tg :: .int (bI tB) :: .int tM :: .int tb :: .long tv :: .long tw :: .long tT :: .long tr :: .long tm :: .long tf :: .ref aG :: .ref aE :: .ref aU :: [])))]) (c_T_isLeaseB κ.l κ.D κ.z s hb9) m621 m622 m36 (by decide +kernel) rfl (Nat.le_of_ble_eq_true rfl) ⟨by decide, by decide⟩ ⟨by decide, by decide⟩ rfl rfl m623 d_T_holds_1 (fun v w1 hg => ?_)
  obtain ⟨rfl, rfl⟩ := hg
  show V κ 7 0 0 4 [(0, .ref m), (1, .int s), (2, .int x), (3, .long y), (5, .long t)] [.int (bI false)] [(m, .inr (5, (.int (nI tS) :: .int tD :: .int tE :: .long tN :: .int (bI tA) :: .long tL :: .ref aK :: .ref aP :: .ref aQ :: .ref aT :: .ref aW :: .ref aO :: .ref aM :: .ref aL :: .ref aH :: .ref aI :: .ref aS :: .ref aR :: .ref aX :: .ref aF :: .ref aY :: .ref aJ :: .long tl :: .long tg :: .int (bI tB) :: .int tM :: .int tb :: .long tv :: .long tw :: .long tT :: .long tr :: .long tm :: .long tf :: .ref aG :: .ref aE :: .ref aU :: [])))]
  refine v_ifB_eq X 26 (t := false) d_T_holds_4 (by decide) (fun c4 => ?_) (fun c4 => absurd c4 (by decide))
  refine v_iconst X 0 d_T_holds_26 (by decide) ?_
  exact v_zret X Y (by decide) (by decide) d_T_holds_27 rfl ⟨rfl, rfl⟩

def f_T_expiryG (gG : Nat → Bool) (gU : Nat → Int64) (i : Nat) : Int64 := if (gG i) = true then gU i else (-4611686018427387904)
set_option maxHeartbeats 4000000 in
set_option maxRecDepth 100000 in
theorem c_T_expiryG (l : Launch) (D : va_G) (z : Nat → ClassId) (m : Nat) (tS : Nat) (tD : Int32) (tE : Int32) (tN : Int64) (tA : Bool) (tL : Int64) (aK : Nat) (aP : Nat) (aQ : Nat) (aT : Nat) (aW : Nat) (aO : Nat) (aM : Nat) (aL : Nat) (aH : Nat) (aI : Nat) (aS : Nat) (aR : Nat) (aX : Nat) (aF : Nat) (aY : Nat) (aJ : Nat) (tl : Int64) (tg : Int64) (tB : Bool) (tM : Int32) (tb : Int32) (tv : Int64) (tw : Int64) (tT : Int64) (tr : Int64) (tm : Int64) (tf : Int64) (aG : Nat) (aE : Nat) (aU : Nat) (gG : Nat → Bool) (gU : Nat → Int64) (i : Nat) (hi9 : i < 4) : Ctr l D z y_T_expiry b_T_expiry 2 (some .long) { frames := 1, cells := 0, slots := 0, locals := 20 } [.ref m, .int (nI i)] [(m, .inr (5, (.int (nI tS) :: .int tD :: .int tE :: .long tN :: .int (bI tA) :: .long tL :: .ref aK :: .ref aP :: .ref aQ :: .ref aT :: .ref aW :: .ref aO :: .ref aM :: .ref aL :: .ref aH :: .ref aI :: .ref aS :: .ref aR :: .ref aX :: .ref aF :: .ref aY :: .ref aJ :: .long tl :: .long tg :: .int (bI tB) :: .int tM :: .int tb :: .long tv :: .long tw :: .long tT :: .long tr :: .long tm :: .long tf :: .ref aG :: .ref aE :: .ref aU :: []))), (aG, .inl (z 2, 4, .inl (aB gG))), (aU, .inl (z 1, 4, .inr (.inl gU)))] (fun v w => v = some (.long (f_T_expiryG gG gU i)) ∧ w = [(m, .inr (5, (.int (nI tS) :: .int tD :: .int tE :: .long tN :: .int (bI tA) :: .long tL :: .ref aK :: .ref aP :: .ref aQ :: .ref aT :: .ref aW :: .ref aO :: .ref aM :: .ref aL :: .ref aH :: .ref aI :: .ref aS :: .ref aR :: .ref aX :: .ref aF :: .ref aY :: .ref aJ :: .long tl :: .long tg :: .int (bI tB) :: .int tM :: .int tb :: .long tv :: .long tw :: .long tT :: .long tr :: .long tm :: .long tf :: .ref aG :: .ref aE :: .ref aU :: []))), (aG, .inl (z 2, 4, .inl (aB gG))), (aU, .inl (z 1, 4, .inr (.inl gU)))]) 0 0 := by
  refine met_V (own := R_T) (nm := "expiry") (by decide +kernel) rfl rfl (Nat.le_of_ble_eq_true rfl) ?_
  intro κ hl hD hz X Y
  subst hl
  subst hD
  subst hz
  show V κ 2 0 0 0 [(0, .ref m), (1, .int (nI i))] [] [(m, .inr (5, (.int (nI tS) :: .int tD :: .int tE :: .long tN :: .int (bI tA) :: .long tL :: .ref aK :: .ref aP :: .ref aQ :: .ref aT :: .ref aW :: .ref aO :: .ref aM :: .ref aL :: .ref aH :: .ref aI :: .ref aS :: .ref aR :: .ref aX :: .ref aF :: .ref aY :: .ref aJ :: .long tl :: .long tg :: .int (bI tB) :: .int tM :: .int tb :: .long tv :: .long tw :: .long tT :: .long tr :: .long tm :: .long tf :: .ref aG :: .ref aE :: .ref aU :: []))), (aG, .inl (κ.z 2, 4, .inl (aB gG))), (aU, .inl (κ.z 1, 4, .inr (.inl gU)))]
  refine v_iload_n X 1 d_T_expiry_0 rfl ?_
  refine v_callS X (k := 0) (n := 0) (n9 := 1) (As := [.int (nI i)]) (rest := []) (wc := []) (wr := [(m, .inr (5, (.int (nI tS) :: .int tD :: .int tE :: .long tN :: .int (bI tA) :: .long tL :: .ref aK :: .ref aP :: .ref aQ :: .ref aT :: .ref aW :: .ref aO :: .ref aM :: .ref aL :: .ref aH :: .ref aI :: .ref aS :: .ref aR :: .ref aX :: .ref aF :: .ref aY :: .ref aJ :: .long tl :: .long tg :: .int (bI tB) :: .int tM :: .int tb :: .long tv :: .long tw :: .long tT :: .long tr :: .long tm :: .long tf :: .ref aG :: .ref aE :: .ref aU :: []))), (aG, .inl (κ.z 2, 4, .inl (aB gG))), (aU, .inl (κ.z 1, 4, .inr (.inl gU)))]) (c_T_isLeaseG κ.l κ.D κ.z i hi9) m621 m622 m36 (by decide +kernel) rfl (Nat.le_of_ble_eq_true rfl) ⟨by decide, by decide⟩ ⟨by decide, by decide⟩ rfl rfl m623 d_T_expiry_1 (fun v w1 hg => ?_)
  obtain ⟨rfl, rfl⟩ := hg
  show V κ 2 0 0 4 [(0, .ref m), (1, .int (nI i))] [.int (bI true)] [(m, .inr (5, (.int (nI tS) :: .int tD :: .int tE :: .long tN :: .int (bI tA) :: .long tL :: .ref aK :: .ref aP :: .ref aQ :: .ref aT :: .ref aW :: .ref aO :: .ref aM :: .ref aL :: .ref aH :: .ref aI :: .ref aS :: .ref aR :: .ref aX :: .ref aF :: .ref aY :: .ref aJ :: .long tl :: .long tg :: .int (bI tB) :: .int tM :: .int tb :: .long tv :: .long tw :: .long tT :: .long tr :: .long tm :: .long tf :: .ref aG :: .ref aE :: .ref aU :: []))), (aG, .inl (κ.z 2, 4, .inl (aB gG))), (aU, .inl (κ.z 1, 4, .inr (.inl gU)))]
  refine v_ifB_eq X 25 (t := true) d_T_expiry_4 (by decide) (fun c4 => absurd c4 (by decide)) (fun c4 => ?_)
  refine v_aload_n X 0 d_T_expiry_7 rfl ?_
  refine v_get X 0 33 rfl rfl li_T (by decide) m460 rfl d_T_expiry_8 ?_
  refine v_iload_n X 1 d_T_expiry_11 rfl ?_
  refine v_zaldN X 1 2 (j := i) rfl rfl (by omega) (by omega) d_T_expiry_12 ?_
  suffices hm13 : V κ 2 0 0 28 [(0, .ref m), (1, .int (nI i))] [.long (if (gG i) = true then gU i else (-4611686018427387904))] [(m, .inr (5, (.int (nI tS) :: .int tD :: .int tE :: .long tN :: .int (bI tA) :: .long tL :: .ref aK :: .ref aP :: .ref aQ :: .ref aT :: .ref aW :: .ref aO :: .ref aM :: .ref aL :: .ref aH :: .ref aI :: .ref aS :: .ref aR :: .ref aX :: .ref aF :: .ref aY :: .ref aJ :: .long tl :: .long tg :: .int (bI tB) :: .int tM :: .int tb :: .long tv :: .long tw :: .long tT :: .long tr :: .long tm :: .long tf :: .ref aG :: .ref aE :: .ref aU :: []))), (aG, .inl (κ.z 2, 4, .inl (aB gG))), (aU, .inl (κ.z 1, 4, .inr (.inl gU)))] by
    refine v_ifB_eq X 25 (t := gG i) d_T_expiry_13 (by decide) (fun c13 => ?_) (fun c13 => ?_)
    · skip
      refine v_ldc2 X (v := (-4611686018427387904)) m528 d_T_expiry_25 ?_
      have h9 := hm13; simp only [if_neg c13] at h9; first | exact h9 | (simp only [if_neg c13]; exact h9)
    · skip
      refine v_aload_n X 0 d_T_expiry_16 rfl ?_
      refine v_get X 0 35 rfl rfl li_T (by decide) m462 rfl d_T_expiry_17 ?_
      refine v_iload_n X 1 d_T_expiry_20 rfl ?_
      refine v_laldN X 2 1 (j := i) rfl rfl (by omega) (by omega) d_T_expiry_21 ?_
      refine v_goto X 28 d_T_expiry_22 (by decide) ?_
      have h9 := hm13; simp only [if_pos c13] at h9; first | exact h9 | (simp only [if_pos c13]; exact h9)
  exact v_lret X Y (by decide) (by decide) d_T_expiry_28 ⟨rfl, rfl⟩

set_option maxHeartbeats 4000000 in
set_option maxRecDepth 100000 in
theorem c_T_expiryB (l : Launch) (D : va_G) (z : Nat → ClassId) (m : Nat) (tS : Nat) (tD : Int32) (tE : Int32) (tN : Int64) (tA : Bool) (tL : Int64) (aK : Nat) (aP : Nat) (aQ : Nat) (aT : Nat) (aW : Nat) (aO : Nat) (aM : Nat) (aL : Nat) (aH : Nat) (aI : Nat) (aS : Nat) (aR : Nat) (aX : Nat) (aF : Nat) (aY : Nat) (aJ : Nat) (tl : Int64) (tg : Int64) (tB : Bool) (tM : Int32) (tb : Int32) (tv : Int64) (tw : Int64) (tT : Int64) (tr : Int64) (tm : Int64) (tf : Int64) (aG : Nat) (aE : Nat) (aU : Nat) (s : Int32) (hb9 : ¬ s < 0 → ¬ s < nI 4) : Ctr l D z y_T_expiry b_T_expiry 2 (some .long) { frames := 1, cells := 0, slots := 0, locals := 20 } [.ref m, .int s] [(m, .inr (5, (.int (nI tS) :: .int tD :: .int tE :: .long tN :: .int (bI tA) :: .long tL :: .ref aK :: .ref aP :: .ref aQ :: .ref aT :: .ref aW :: .ref aO :: .ref aM :: .ref aL :: .ref aH :: .ref aI :: .ref aS :: .ref aR :: .ref aX :: .ref aF :: .ref aY :: .ref aJ :: .long tl :: .long tg :: .int (bI tB) :: .int tM :: .int tb :: .long tv :: .long tw :: .long tT :: .long tr :: .long tm :: .long tf :: .ref aG :: .ref aE :: .ref aU :: [])))] (fun v w => v = some (.long (-4611686018427387904)) ∧ w = [(m, .inr (5, (.int (nI tS) :: .int tD :: .int tE :: .long tN :: .int (bI tA) :: .long tL :: .ref aK :: .ref aP :: .ref aQ :: .ref aT :: .ref aW :: .ref aO :: .ref aM :: .ref aL :: .ref aH :: .ref aI :: .ref aS :: .ref aR :: .ref aX :: .ref aF :: .ref aY :: .ref aJ :: .long tl :: .long tg :: .int (bI tB) :: .int tM :: .int tb :: .long tv :: .long tw :: .long tT :: .long tr :: .long tm :: .long tf :: .ref aG :: .ref aE :: .ref aU :: [])))]) 0 0 := by
  refine met_V (own := R_T) (nm := "expiry") (by decide +kernel) rfl rfl (Nat.le_of_ble_eq_true rfl) ?_
  intro κ hl hD hz X Y
  subst hl
  subst hD
  subst hz
  show V κ 2 0 0 0 [(0, .ref m), (1, .int s)] [] [(m, .inr (5, (.int (nI tS) :: .int tD :: .int tE :: .long tN :: .int (bI tA) :: .long tL :: .ref aK :: .ref aP :: .ref aQ :: .ref aT :: .ref aW :: .ref aO :: .ref aM :: .ref aL :: .ref aH :: .ref aI :: .ref aS :: .ref aR :: .ref aX :: .ref aF :: .ref aY :: .ref aJ :: .long tl :: .long tg :: .int (bI tB) :: .int tM :: .int tb :: .long tv :: .long tw :: .long tT :: .long tr :: .long tm :: .long tf :: .ref aG :: .ref aE :: .ref aU :: [])))]
  refine v_iload_n X 1 d_T_expiry_0 rfl ?_
  refine v_callS X (k := 0) (n := 0) (n9 := 1) (As := [.int s]) (rest := []) (wc := []) (wr := [(m, .inr (5, (.int (nI tS) :: .int tD :: .int tE :: .long tN :: .int (bI tA) :: .long tL :: .ref aK :: .ref aP :: .ref aQ :: .ref aT :: .ref aW :: .ref aO :: .ref aM :: .ref aL :: .ref aH :: .ref aI :: .ref aS :: .ref aR :: .ref aX :: .ref aF :: .ref aY :: .ref aJ :: .long tl :: .long tg :: .int (bI tB) :: .int tM :: .int tb :: .long tv :: .long tw :: .long tT :: .long tr :: .long tm :: .long tf :: .ref aG :: .ref aE :: .ref aU :: [])))]) (c_T_isLeaseB κ.l κ.D κ.z s hb9) m621 m622 m36 (by decide +kernel) rfl (Nat.le_of_ble_eq_true rfl) ⟨by decide, by decide⟩ ⟨by decide, by decide⟩ rfl rfl m623 d_T_expiry_1 (fun v w1 hg => ?_)
  obtain ⟨rfl, rfl⟩ := hg
  show V κ 2 0 0 4 [(0, .ref m), (1, .int s)] [.int (bI false)] [(m, .inr (5, (.int (nI tS) :: .int tD :: .int tE :: .long tN :: .int (bI tA) :: .long tL :: .ref aK :: .ref aP :: .ref aQ :: .ref aT :: .ref aW :: .ref aO :: .ref aM :: .ref aL :: .ref aH :: .ref aI :: .ref aS :: .ref aR :: .ref aX :: .ref aF :: .ref aY :: .ref aJ :: .long tl :: .long tg :: .int (bI tB) :: .int tM :: .int tb :: .long tv :: .long tw :: .long tT :: .long tr :: .long tm :: .long tf :: .ref aG :: .ref aE :: .ref aU :: [])))]
  refine v_ifB_eq X 25 (t := false) d_T_expiry_4 (by decide) (fun c4 => ?_) (fun c4 => absurd c4 (by decide))
  refine v_ldc2 X (v := (-4611686018427387904)) m528 d_T_expiry_25 ?_
  exact v_lret X Y (by decide) (by decide) d_T_expiry_28 ⟨rfl, rfl⟩

def f_T_holderG (gG : Nat → Bool) (gE : Nat → Int32) (i : Nat) : Int32 := if (gG i) = true then (gE i) else (-1)
set_option maxHeartbeats 4000000 in
set_option maxRecDepth 100000 in
theorem c_T_holderG (l : Launch) (D : va_G) (z : Nat → ClassId) (m : Nat) (tS : Nat) (tD : Int32) (tE : Int32) (tN : Int64) (tA : Bool) (tL : Int64) (aK : Nat) (aP : Nat) (aQ : Nat) (aT : Nat) (aW : Nat) (aO : Nat) (aM : Nat) (aL : Nat) (aH : Nat) (aI : Nat) (aS : Nat) (aR : Nat) (aX : Nat) (aF : Nat) (aY : Nat) (aJ : Nat) (tl : Int64) (tg : Int64) (tB : Bool) (tM : Int32) (tb : Int32) (tv : Int64) (tw : Int64) (tT : Int64) (tr : Int64) (tm : Int64) (tf : Int64) (aG : Nat) (aE : Nat) (aU : Nat) (gG : Nat → Bool) (gE : Nat → Int32) (i : Nat) (hi9 : i < 4) : Ctr l D z y_T_holder b_T_holder 2 (some .int) { frames := 1, cells := 0, slots := 0, locals := 20 } [.ref m, .int (nI i)] [(m, .inr (5, (.int (nI tS) :: .int tD :: .int tE :: .long tN :: .int (bI tA) :: .long tL :: .ref aK :: .ref aP :: .ref aQ :: .ref aT :: .ref aW :: .ref aO :: .ref aM :: .ref aL :: .ref aH :: .ref aI :: .ref aS :: .ref aR :: .ref aX :: .ref aF :: .ref aY :: .ref aJ :: .long tl :: .long tg :: .int (bI tB) :: .int tM :: .int tb :: .long tv :: .long tw :: .long tT :: .long tr :: .long tm :: .long tf :: .ref aG :: .ref aE :: .ref aU :: []))), (aG, .inl (z 2, 4, .inl (aB gG))), (aE, .inl (z 0, 4, .inl gE))] (fun v w => v = some (.int (f_T_holderG gG gE i)) ∧ w = [(m, .inr (5, (.int (nI tS) :: .int tD :: .int tE :: .long tN :: .int (bI tA) :: .long tL :: .ref aK :: .ref aP :: .ref aQ :: .ref aT :: .ref aW :: .ref aO :: .ref aM :: .ref aL :: .ref aH :: .ref aI :: .ref aS :: .ref aR :: .ref aX :: .ref aF :: .ref aY :: .ref aJ :: .long tl :: .long tg :: .int (bI tB) :: .int tM :: .int tb :: .long tv :: .long tw :: .long tT :: .long tr :: .long tm :: .long tf :: .ref aG :: .ref aE :: .ref aU :: []))), (aG, .inl (z 2, 4, .inl (aB gG))), (aE, .inl (z 0, 4, .inl gE))]) 0 0 := by
  refine met_V (own := R_T) (nm := "holder") (by decide +kernel) rfl rfl (Nat.le_of_ble_eq_true rfl) ?_
  intro κ hl hD hz X Y
  subst hl
  subst hD
  subst hz
  show V κ 2 0 0 0 [(0, .ref m), (1, .int (nI i))] [] [(m, .inr (5, (.int (nI tS) :: .int tD :: .int tE :: .long tN :: .int (bI tA) :: .long tL :: .ref aK :: .ref aP :: .ref aQ :: .ref aT :: .ref aW :: .ref aO :: .ref aM :: .ref aL :: .ref aH :: .ref aI :: .ref aS :: .ref aR :: .ref aX :: .ref aF :: .ref aY :: .ref aJ :: .long tl :: .long tg :: .int (bI tB) :: .int tM :: .int tb :: .long tv :: .long tw :: .long tT :: .long tr :: .long tm :: .long tf :: .ref aG :: .ref aE :: .ref aU :: []))), (aG, .inl (κ.z 2, 4, .inl (aB gG))), (aE, .inl (κ.z 0, 4, .inl gE))]
  refine v_iload_n X 1 d_T_holder_0 rfl ?_
  refine v_callS X (k := 0) (n := 0) (n9 := 1) (As := [.int (nI i)]) (rest := []) (wc := []) (wr := [(m, .inr (5, (.int (nI tS) :: .int tD :: .int tE :: .long tN :: .int (bI tA) :: .long tL :: .ref aK :: .ref aP :: .ref aQ :: .ref aT :: .ref aW :: .ref aO :: .ref aM :: .ref aL :: .ref aH :: .ref aI :: .ref aS :: .ref aR :: .ref aX :: .ref aF :: .ref aY :: .ref aJ :: .long tl :: .long tg :: .int (bI tB) :: .int tM :: .int tb :: .long tv :: .long tw :: .long tT :: .long tr :: .long tm :: .long tf :: .ref aG :: .ref aE :: .ref aU :: []))), (aG, .inl (κ.z 2, 4, .inl (aB gG))), (aE, .inl (κ.z 0, 4, .inl gE))]) (c_T_isLeaseG κ.l κ.D κ.z i hi9) m621 m622 m36 (by decide +kernel) rfl (Nat.le_of_ble_eq_true rfl) ⟨by decide, by decide⟩ ⟨by decide, by decide⟩ rfl rfl m623 d_T_holder_1 (fun v w1 hg => ?_)
  obtain ⟨rfl, rfl⟩ := hg
  show V κ 2 0 0 4 [(0, .ref m), (1, .int (nI i))] [.int (bI true)] [(m, .inr (5, (.int (nI tS) :: .int tD :: .int tE :: .long tN :: .int (bI tA) :: .long tL :: .ref aK :: .ref aP :: .ref aQ :: .ref aT :: .ref aW :: .ref aO :: .ref aM :: .ref aL :: .ref aH :: .ref aI :: .ref aS :: .ref aR :: .ref aX :: .ref aF :: .ref aY :: .ref aJ :: .long tl :: .long tg :: .int (bI tB) :: .int tM :: .int tb :: .long tv :: .long tw :: .long tT :: .long tr :: .long tm :: .long tf :: .ref aG :: .ref aE :: .ref aU :: []))), (aG, .inl (κ.z 2, 4, .inl (aB gG))), (aE, .inl (κ.z 0, 4, .inl gE))]
  refine v_ifB_eq X 25 (t := true) d_T_holder_4 (by decide) (fun c4 => absurd c4 (by decide)) (fun c4 => ?_)
  refine v_aload_n X 0 d_T_holder_7 rfl ?_
  refine v_get X 0 33 rfl rfl li_T (by decide) m460 rfl d_T_holder_8 ?_
  refine v_iload_n X 1 d_T_holder_11 rfl ?_
  refine v_zaldN X 1 2 (j := i) rfl rfl (by omega) (by omega) d_T_holder_12 ?_
  suffices hm13 : V κ 2 0 0 26 [(0, .ref m), (1, .int (nI i))] [.int (if (gG i) = true then (gE i) else (-1))] [(m, .inr (5, (.int (nI tS) :: .int tD :: .int tE :: .long tN :: .int (bI tA) :: .long tL :: .ref aK :: .ref aP :: .ref aQ :: .ref aT :: .ref aW :: .ref aO :: .ref aM :: .ref aL :: .ref aH :: .ref aI :: .ref aS :: .ref aR :: .ref aX :: .ref aF :: .ref aY :: .ref aJ :: .long tl :: .long tg :: .int (bI tB) :: .int tM :: .int tb :: .long tv :: .long tw :: .long tT :: .long tr :: .long tm :: .long tf :: .ref aG :: .ref aE :: .ref aU :: []))), (aG, .inl (κ.z 2, 4, .inl (aB gG))), (aE, .inl (κ.z 0, 4, .inl gE))] by
    refine v_ifB_eq X 25 (t := gG i) d_T_holder_13 (by decide) (fun c13 => ?_) (fun c13 => ?_)
    · skip
      refine v_iconst X (-1) d_T_holder_25 (by decide) ?_
      have h9 := hm13; simp only [if_neg c13] at h9; first | exact h9 | (simp only [if_neg c13]; exact h9)
    · skip
      refine v_aload_n X 0 d_T_holder_16 rfl ?_
      refine v_get X 0 34 rfl rfl li_T (by decide) m461 rfl d_T_holder_17 ?_
      refine v_iload_n X 1 d_T_holder_20 rfl ?_
      refine v_ialdN X 2 0 (j := i) rfl rfl (by omega) (by omega) d_T_holder_21 ?_
      refine v_goto X 26 d_T_holder_22 (by decide) ?_
      have h9 := hm13; simp only [if_pos c13] at h9; first | exact h9 | (simp only [if_pos c13]; exact h9)
  exact v_iret X Y (by decide) (by decide) d_T_holder_26 ⟨rfl, rfl⟩

set_option maxHeartbeats 4000000 in
set_option maxRecDepth 100000 in
theorem c_T_holderB (l : Launch) (D : va_G) (z : Nat → ClassId) (m : Nat) (tS : Nat) (tD : Int32) (tE : Int32) (tN : Int64) (tA : Bool) (tL : Int64) (aK : Nat) (aP : Nat) (aQ : Nat) (aT : Nat) (aW : Nat) (aO : Nat) (aM : Nat) (aL : Nat) (aH : Nat) (aI : Nat) (aS : Nat) (aR : Nat) (aX : Nat) (aF : Nat) (aY : Nat) (aJ : Nat) (tl : Int64) (tg : Int64) (tB : Bool) (tM : Int32) (tb : Int32) (tv : Int64) (tw : Int64) (tT : Int64) (tr : Int64) (tm : Int64) (tf : Int64) (aG : Nat) (aE : Nat) (aU : Nat) (s : Int32) (hb9 : ¬ s < 0 → ¬ s < nI 4) : Ctr l D z y_T_holder b_T_holder 2 (some .int) { frames := 1, cells := 0, slots := 0, locals := 20 } [.ref m, .int s] [(m, .inr (5, (.int (nI tS) :: .int tD :: .int tE :: .long tN :: .int (bI tA) :: .long tL :: .ref aK :: .ref aP :: .ref aQ :: .ref aT :: .ref aW :: .ref aO :: .ref aM :: .ref aL :: .ref aH :: .ref aI :: .ref aS :: .ref aR :: .ref aX :: .ref aF :: .ref aY :: .ref aJ :: .long tl :: .long tg :: .int (bI tB) :: .int tM :: .int tb :: .long tv :: .long tw :: .long tT :: .long tr :: .long tm :: .long tf :: .ref aG :: .ref aE :: .ref aU :: [])))] (fun v w => v = some (.int (-1 : Int32)) ∧ w = [(m, .inr (5, (.int (nI tS) :: .int tD :: .int tE :: .long tN :: .int (bI tA) :: .long tL :: .ref aK :: .ref aP :: .ref aQ :: .ref aT :: .ref aW :: .ref aO :: .ref aM :: .ref aL :: .ref aH :: .ref aI :: .ref aS :: .ref aR :: .ref aX :: .ref aF :: .ref aY :: .ref aJ :: .long tl :: .long tg :: .int (bI tB) :: .int tM :: .int tb :: .long tv :: .long tw :: .long tT :: .long tr :: .long tm :: .long tf :: .ref aG :: .ref aE :: .ref aU :: [])))]) 0 0 := by
  refine met_V (own := R_T) (nm := "holder") (by decide +kernel) rfl rfl (Nat.le_of_ble_eq_true rfl) ?_
  intro κ hl hD hz X Y
  subst hl
  subst hD
  subst hz
  show V κ 2 0 0 0 [(0, .ref m), (1, .int s)] [] [(m, .inr (5, (.int (nI tS) :: .int tD :: .int tE :: .long tN :: .int (bI tA) :: .long tL :: .ref aK :: .ref aP :: .ref aQ :: .ref aT :: .ref aW :: .ref aO :: .ref aM :: .ref aL :: .ref aH :: .ref aI :: .ref aS :: .ref aR :: .ref aX :: .ref aF :: .ref aY :: .ref aJ :: .long tl :: .long tg :: .int (bI tB) :: .int tM :: .int tb :: .long tv :: .long tw :: .long tT :: .long tr :: .long tm :: .long tf :: .ref aG :: .ref aE :: .ref aU :: [])))]
  refine v_iload_n X 1 d_T_holder_0 rfl ?_
  refine v_callS X (k := 0) (n := 0) (n9 := 1) (As := [.int s]) (rest := []) (wc := []) (wr := [(m, .inr (5, (.int (nI tS) :: .int tD :: .int tE :: .long tN :: .int (bI tA) :: .long tL :: .ref aK :: .ref aP :: .ref aQ :: .ref aT :: .ref aW :: .ref aO :: .ref aM :: .ref aL :: .ref aH :: .ref aI :: .ref aS :: .ref aR :: .ref aX :: .ref aF :: .ref aY :: .ref aJ :: .long tl :: .long tg :: .int (bI tB) :: .int tM :: .int tb :: .long tv :: .long tw :: .long tT :: .long tr :: .long tm :: .long tf :: .ref aG :: .ref aE :: .ref aU :: [])))]) (c_T_isLeaseB κ.l κ.D κ.z s hb9) m621 m622 m36 (by decide +kernel) rfl (Nat.le_of_ble_eq_true rfl) ⟨by decide, by decide⟩ ⟨by decide, by decide⟩ rfl rfl m623 d_T_holder_1 (fun v w1 hg => ?_)
  obtain ⟨rfl, rfl⟩ := hg
  show V κ 2 0 0 4 [(0, .ref m), (1, .int s)] [.int (bI false)] [(m, .inr (5, (.int (nI tS) :: .int tD :: .int tE :: .long tN :: .int (bI tA) :: .long tL :: .ref aK :: .ref aP :: .ref aQ :: .ref aT :: .ref aW :: .ref aO :: .ref aM :: .ref aL :: .ref aH :: .ref aI :: .ref aS :: .ref aR :: .ref aX :: .ref aF :: .ref aY :: .ref aJ :: .long tl :: .long tg :: .int (bI tB) :: .int tM :: .int tb :: .long tv :: .long tw :: .long tT :: .long tr :: .long tm :: .long tf :: .ref aG :: .ref aE :: .ref aU :: [])))]
  refine v_ifB_eq X 25 (t := false) d_T_holder_4 (by decide) (fun c4 => ?_) (fun c4 => absurd c4 (by decide))
  refine v_iconst X (-1) d_T_holder_25 (by decide) ?_
  exact v_iret X Y (by decide) (by decide) d_T_holder_26 ⟨rfl, rfl⟩
