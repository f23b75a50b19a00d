def f_M_growth (t : Int64) (dr : Int32) : Int64 := f_J_floorDiv (((t * dr.toInt64) + 1000000) - 1) 1000000
set_option maxHeartbeats 4000000 in
set_option maxRecDepth 100000 in
theorem c_M_growth (l : Launch) (D : va_G) (z : Nat → ClassId) (t : Int64) (dr : Int32)  : Ctr l D z y_M_growth b_M_growth 3 (some .long) { frames := 1, cells := 0, slots := 0, locals := 25 } [.long t, .int dr] [] (fun v w => v = some (.long (f_M_growth t dr)) ∧ w = []) 0 0 := by
  refine met_V (own := R_M) (nm := "growth") (by decide +kernel) rfl rfl (Nat.le_of_ble_eq_true rfl) ?_
  intro κ hl hD hz X Y
  subst hl
  subst hD
  subst hz
  show V κ 3 0 0 0 [(0, .long t), (2, .int dr)] [] []
  refine v_lload_n X 0 d_M_growth_0 rfl ?_
  refine v_iload_n X 1 d_M_growth_1 rfl ?_
  refine v_i2l X d_M_growth_2 ?_
  refine v_lmul X d_M_growth_3 ?_
  refine v_ldc2 X (v := 1000000) m250 d_M_growth_4 ?_
  refine v_ladd X d_M_growth_7 ?_
  refine v_lconst X 1 d_M_growth_8 (by decide) ?_
  refine v_lsub X d_M_growth_9 ?_
  refine v_ldc2 X (v := 1000000) m250 d_M_growth_10 ?_
  refine v_callS X (n9 := 2) (As := [.long (((t * dr.toInt64) + 1000000) - 1), .long 1000000]) (rest := []) (wc := []) (wr := []) (c_J_floorDiv κ.l κ.D κ.z (((t * dr.toInt64) + 1000000) - 1) 1000000 (by decide)) m251 m252 m31 (by decide +kernel) rfl (Nat.le_of_ble_eq_true rfl) ⟨by decide, by decide⟩ ⟨by decide, by decide⟩ rfl rfl m253 d_M_growth_13 (fun v w1 hg => ?_)
  obtain ⟨rfl, rfl⟩ := hg
  show V κ 3 0 0 16 [(0, .long t), (2, .int dr)] [.long (f_J_floorDiv (((t * dr.toInt64) + 1000000) - 1) 1000000)] []
  exact v_lret X Y (by decide) (by decide) d_M_growth_16 ⟨rfl, rfl⟩

def f_M_mixed (x : Int64) (y : Int64) : Int64 := ((x ^^^ y) * (-7046029254386353131)) ^^^ ((((x ^^^ y) * (-7046029254386353131)).toUInt64 >>> ((29 : Int32).toInt64.toUInt64 &&& Int64.toUInt64 63)).toInt64)
set_option maxHeartbeats 4000000 in
set_option maxRecDepth 100000 in
theorem c_M_mixed (l : Launch) (D : va_G) (z : Nat → ClassId) (x : Int64) (y : Int64)  : Ctr l D z y_M_mixed b_M_mixed 6 (some .long) { frames := 0, cells := 0, slots := 0, locals := 0 } [.long x, .long y] [] (fun v w => v = some (.long (f_M_mixed x y)) ∧ w = []) 0 0 := by
  refine met_V (own := R_M) (nm := "mixed") (by decide +kernel) rfl rfl (Nat.le_of_ble_eq_true rfl) ?_
  intro κ hl hD hz X Y
  subst hl
  subst hD
  subst hz
  show V κ 6 0 0 0 [(0, .long x), (2, .long y)] [] []
  refine v_lload_n X 0 d_M_mixed_0 rfl ?_
  refine v_lload_n X 1 d_M_mixed_1 rfl ?_
  refine v_lxor X d_M_mixed_2 ?_
  refine v_ldc2 X (v := (-7046029254386353131)) m192 d_M_mixed_3 ?_
  refine v_lmul X d_M_mixed_6 ?_
  refine v_lstore X d_M_mixed_7 (by decide) (lv' := [(4, .long ((x ^^^ y) * (-7046029254386353131))), (0, .long x), (2, .long y)]) rfl ?_
  refine v_lload X 0 d_M_mixed_9 rfl ?_
  refine v_lload X 0 d_M_mixed_11 rfl ?_
  refine v_bipush X 29 d_M_mixed_13 (by decide) ?_
  refine v_lushr X d_M_mixed_15 ?_
  refine v_lxor X d_M_mixed_16 ?_
  exact v_lret X Y (by decide) (by decide) d_M_mixed_17 ⟨rfl, rfl⟩

def f_M_sealUnder (k : Int64) (x : Int64) (y : Int64) (t : Int64) : Int32 := (((f_M_mixed (f_M_mixed (f_M_mixed k x) y) t).toUInt64 >>> ((32 : Int32).toInt64.toUInt64 &&& Int64.toUInt64 63)).toInt64).toInt32
set_option maxHeartbeats 4000000 in
set_option maxRecDepth 100000 in
theorem c_M_sealUnder (l : Launch) (D : va_G) (z : Nat → ClassId) (k : Int64) (x : Int64) (y : Int64) (t : Int64)  : Ctr l D z y_M_sealUnder b_M_sealUnder 10 (some .int) { frames := 1, cells := 0, slots := 0, locals := 25 } [.long k, .long x, .long y, .long t] [] (fun v w => v = some (.int (f_M_sealUnder k x y t)) ∧ w = []) 0 0 := by
  refine met_V (own := R_M) (nm := "sealUnder") (by decide +kernel) rfl rfl (Nat.le_of_ble_eq_true rfl) ?_
  intro κ hl hD hz X Y
  subst hl
  subst hD
  subst hz
  show V κ 10 0 0 0 [(0, .long k), (2, .long x), (4, .long y), (6, .long t)] [] []
  refine v_lload_n X 0 d_M_sealUnder_0 rfl ?_
  refine v_lload_n X 1 d_M_sealUnder_1 rfl ?_
  refine v_callS X (n9 := 2) (As := [.long k, .long x]) (rest := []) (wc := []) (wr := []) (c_M_mixed κ.l κ.D κ.z k x ) m189 m190 m30 (by decide +kernel) rfl (Nat.le_of_ble_eq_true rfl) ⟨by decide, by decide⟩ ⟨by decide, by decide⟩ rfl rfl m191 d_M_sealUnder_2 (fun v w1 hg => ?_)
  obtain ⟨rfl, rfl⟩ := hg
  show V κ 10 0 0 5 [(0, .long k), (2, .long x), (4, .long y), (6, .long t)] [.long (f_M_mixed k x)] []
  refine v_lload X 2 d_M_sealUnder_5 rfl ?_
  refine v_callS X (n9 := 2) (As := [.long (f_M_mixed k x), .long y]) (rest := []) (wc := []) (wr := []) (c_M_mixed κ.l κ.D κ.z (f_M_mixed k x) y ) m189 m190 m30 (by decide +kernel) rfl (Nat.le_of_ble_eq_true rfl) ⟨by decide, by decide⟩ ⟨by decide, by decide⟩ rfl rfl m191 d_M_sealUnder_7 (fun v w1 hg => ?_)
  obtain ⟨rfl, rfl⟩ := hg
  show V κ 10 0 0 10 [(0, .long k), (2, .long x), (4, .long y), (6, .long t)] [.long (f_M_mixed (f_M_mixed k x) y)] []
  refine v_lload X 3 d_M_sealUnder_10 rfl ?_
  refine v_callS X (n9 := 2) (As := [.long (f_M_mixed (f_M_mixed k x) y), .long t]) (rest := []) (wc := []) (wr := []) (c_M_mixed κ.l κ.D κ.z (f_M_mixed (f_M_mixed k x) y) t ) m189 m190 m30 (by decide +kernel) rfl (Nat.le_of_ble_eq_true rfl) ⟨by decide, by decide⟩ ⟨by decide, by decide⟩ rfl rfl m191 d_M_sealUnder_12 (fun v w1 hg => ?_)
  obtain ⟨rfl, rfl⟩ := hg
  show V κ 10 0 0 15 [(0, .long k), (2, .long x), (4, .long y), (6, .long t)] [.long (f_M_mixed (f_M_mixed (f_M_mixed k x) y) t)] []
  refine v_lstore X d_M_sealUnder_15 (by decide) (lv' := [(8, .long (f_M_mixed (f_M_mixed (f_M_mixed k x) y) t)), (0, .long k), (2, .long x), (4, .long y), (6, .long t)]) rfl ?_
  refine v_lload X 0 d_M_sealUnder_17 rfl ?_
  refine v_bipush X 32 d_M_sealUnder_19 (by decide) ?_
  refine v_lushr X d_M_sealUnder_21 ?_
  refine v_l2i X d_M_sealUnder_22 ?_
  exact v_iret X Y (by decide) (by decide) d_M_sealUnder_23 ⟨rfl, rfl⟩

def f_M_isReplyTime (x : Int64) : Bool := (if x < 0 then false else (if 1099511627776 < x then false else true))
set_option maxHeartbeats 4000000 in
set_option maxRecDepth 100000 in
theorem c_M_isReplyTime (l : Launch) (D : va_G) (z : Nat → ClassId) (x : Int64)  : Ctr l D z y_M_isReplyTime b_M_isReplyTime 2 (some .boolean) { frames := 0, cells := 0, slots := 0, locals := 0 } [.long x] [] (fun v w => v = some (.int (bI (f_M_isReplyTime x))) ∧ w = []) 0 0 := by
  refine met_V (own := R_M) (nm := "isReplyTime") (by decide +kernel) rfl rfl (Nat.le_of_ble_eq_true rfl) ?_
  intro κ hl hD hz X Y
  subst hl
  subst hD
  subst hz
  show V κ 2 0 0 0 [(0, .long x)] [] []
  refine v_lload_n X 0 d_M_isReplyTime_0 rfl ?_
  refine v_lconst X 0 d_M_isReplyTime_1 (by decide) ?_
  suffices hm2 : V κ 2 0 0 19 [(0, .long x)] [.int (bI (if x < 0 then false else (if 1099511627776 < x then false else true)))] [] by
    refine v_lcmp_lt X 18 d_M_isReplyTime_2 d_M_isReplyTime_3 (by decide) (fun c2 => ?_) (fun c2 => ?_)
    · skip
      refine v_iconst X 0 d_M_isReplyTime_18 (by decide) ?_
      have h9 := hm2; simp only [if_pos c2] at h9; first | exact h9 | (simp only [if_pos c2]; exact h9)
    · skip
      refine v_lload_n X 0 d_M_isReplyTime_6 rfl ?_
      refine v_ldc2 X (v := 1099511627776) m212 d_M_isReplyTime_7 ?_
      suffices hm10 : V κ 2 0 0 19 [(0, .long x)] [.int (bI (if 1099511627776 < x then false else true))] [] by
        refine v_lcmp_gt X 18 d_M_isReplyTime_10 d_M_isReplyTime_11 (by decide) (fun c10 => ?_) (fun c10 => ?_)
        · skip
          refine v_iconst X 0 d_M_isReplyTime_18 (by decide) ?_
          have h9 := hm10; simp only [if_pos c10] at h9; first | exact h9 | (simp only [if_pos c10]; exact h9)
        · skip
          refine v_iconst X 1 d_M_isReplyTime_14 (by decide) ?_
          refine v_goto X 19 d_M_isReplyTime_15 (by decide) ?_
          have h9 := hm10; simp only [if_neg c10] at h9; first | exact h9 | (simp only [if_neg c10]; exact h9)
      have h9 := hm2; simp only [if_neg c2] at h9; first | exact h9 | (simp only [if_neg c2]; exact h9)
  exact v_zret X Y (by decide) (by decide) d_M_isReplyTime_19 (narB _) ⟨rfl, rfl⟩

set_option maxHeartbeats 4000000 in
set_option maxRecDepth 100000 in
theorem c_Sv_expectReply (l : Launch) (D : va_G) (z : Nat → ClassId) (a : Nat) (b1 : Nat) (b2 : Nat) (b3 : Nat) (sec : Int64) (pen : Bool) (pst : Int64) (psi : Int64) (acc : Int64) (str : Int32) (ref : Int32) (rt : Int32) (sm : Nat) (lo : Nat → Int64) (hi : Nat → Int64) (ti : Nat → Int64) (x : Int64) (y : Int64)  : Ctr l D z y_Sv_expectReply b_Sv_expectReply 5 none { frames := 0, cells := 0, slots := 0, locals := 0 } [.ref a, .long x, .long y] [(a, .inr (3, [.long sec, .int (bI pen), .long pst, .long psi, .long acc, .int str, .int ref, .int rt, .int (nI sm), .ref b1, .ref b2, .ref b3])), (b1, .inl (z 1, 8, .inr (.inl lo))), (b2, .inl (z 1, 8, .inr (.inl hi))), (b3, .inl (z 1, 8, .inr (.inl ti)))] (fun v w => v = none ∧ w = [(a, .inr (3, [.long sec, .int (bI true), .long x, .long y, .long acc, .int str, .int ref, .int rt, .int (nI sm), .ref b1, .ref b2, .ref b3])), (b1, .inl (z 1, 8, .inr (.inl lo))), (b2, .inl (z 1, 8, .inr (.inl hi))), (b3, .inl (z 1, 8, .inr (.inl ti)))]) 0 0 := by
  refine met_V (own := R_Sv) (nm := "expectReply") (by decide +kernel) rfl rfl (Nat.le_of_ble_eq_true rfl) ?_
  intro κ hl hD hz X Y
  subst hl
  subst hD
  subst hz
  show V κ 5 0 0 0 [(0, .ref a), (1, .long x), (3, .long y)] [] [(a, .inr (3, [.long sec, .int (bI pen), .long pst, .long psi, .long acc, .int str, .int ref, .int rt, .int (nI sm), .ref b1, .ref b2, .ref b3])), (b1, .inl (κ.z 1, 8, .inr (.inl lo))), (b2, .inl (κ.z 1, 8, .inr (.inl hi))), (b3, .inl (κ.z 1, 8, .inr (.inl ti)))]
  refine v_aload_n X 0 d_Sv_expectReply_0 rfl ?_
  refine v_iconst X 1 d_Sv_expectReply_1 (by decide) ?_
  refine v_put X 0 1 (v := .int (bI true)) (ty := .boolean) ty_Sv tk_Sv n_Sv rfl rfl li_Sv (by decide) m58 rfl (by decide +kernel) (narB _) rfl (Nat.le_of_ble_eq_true rfl) d_Sv_expectReply_2 (ws' := [(a, .inr (3, [.long sec, .int (bI true), .long pst, .long psi, .long acc, .int str, .int ref, .int rt, .int (nI sm), .ref b1, .ref b2, .ref b3])), (b1, .inl (κ.z 1, 8, .inr (.inl lo))), (b2, .inl (κ.z 1, 8, .inr (.inl hi))), (b3, .inl (κ.z 1, 8, .inr (.inl ti)))]) rfl ?_
  refine v_aload_n X 0 d_Sv_expectReply_5 rfl ?_
  refine v_lload_n X 1 d_Sv_expectReply_6 rfl ?_
  refine v_put X 0 2 (v := .long x) (ty := .long) ty_Sv tk_Sv n_Sv rfl rfl li_Sv (by decide) m59 rfl (by decide +kernel) rfl rfl (Nat.le_of_ble_eq_true rfl) d_Sv_expectReply_7 (ws' := [(a, .inr (3, [.long sec, .int (bI true), .long x, .long psi, .long acc, .int str, .int ref, .int rt, .int (nI sm), .ref b1, .ref b2, .ref b3])), (b1, .inl (κ.z 1, 8, .inr (.inl lo))), (b2, .inl (κ.z 1, 8, .inr (.inl hi))), (b3, .inl (κ.z 1, 8, .inr (.inl ti)))]) rfl ?_
  refine v_aload_n X 0 d_Sv_expectReply_10 rfl ?_
  refine v_lload_n X 2 d_Sv_expectReply_11 rfl ?_
  refine v_put X 0 3 (v := .long y) (ty := .long) ty_Sv tk_Sv n_Sv rfl rfl li_Sv (by decide) m60 rfl (by decide +kernel) rfl rfl (Nat.le_of_ble_eq_true rfl) d_Sv_expectReply_12 (ws' := [(a, .inr (3, [.long sec, .int (bI true), .long x, .long y, .long acc, .int str, .int ref, .int rt, .int (nI sm), .ref b1, .ref b2, .ref b3])), (b1, .inl (κ.z 1, 8, .inr (.inl lo))), (b2, .inl (κ.z 1, 8, .inr (.inl hi))), (b3, .inl (κ.z 1, 8, .inr (.inl ti)))]) rfl ?_
  exact v_vret X Y (by decide) (by decide) d_Sv_expectReply_15 ⟨rfl, rfl⟩

def f_Sv_acceptedLast (acc : Int64) (sm : Nat) (x : Int64) : Bool := (if sm ≤ 0 then false else (if acc = x then true else false))
set_option maxHeartbeats 4000000 in
set_option maxRecDepth 100000 in
theorem c_Sv_acceptedLast (l : Launch) (D : va_G) (z : Nat → ClassId) (a : Nat) (b1 : Nat) (b2 : Nat) (b3 : Nat) (sec : Int64) (pen : Bool) (pst : Int64) (psi : Int64) (acc : Int64) (str : Int32) (ref : Int32) (rt : Int32) (sm : Nat) (lo : Nat → Int64) (hi : Nat → Int64) (ti : Nat → Int64) (x : Int64) (hs8 : sm ≤ 8) : Ctr l D z y_Sv_acceptedLast b_Sv_acceptedLast 3 (some .boolean) { frames := 0, cells := 0, slots := 0, locals := 0 } [.ref a, .long x] [(a, .inr (3, [.long sec, .int (bI pen), .long pst, .long psi, .long acc, .int str, .int ref, .int rt, .int (nI sm), .ref b1, .ref b2, .ref b3])), (b1, .inl (z 1, 8, .inr (.inl lo))), (b2, .inl (z 1, 8, .inr (.inl hi))), (b3, .inl (z 1, 8, .inr (.inl ti)))] (fun v w => v = some (.int (bI (f_Sv_acceptedLast acc sm x))) ∧ w = [(a, .inr (3, [.long sec, .int (bI pen), .long pst, .long psi, .long acc, .int str, .int ref, .int rt, .int (nI sm), .ref b1, .ref b2, .ref b3])), (b1, .inl (z 1, 8, .inr (.inl lo))), (b2, .inl (z 1, 8, .inr (.inl hi))), (b3, .inl (z 1, 8, .inr (.inl ti)))]) 0 0 := by
  refine met_V (own := R_Sv) (nm := "acceptedLast") (by decide +kernel) rfl rfl (Nat.le_of_ble_eq_true rfl) ?_
  intro κ hl hD hz X Y
  subst hl
  subst hD
  subst hz
  show V κ 3 0 0 0 [(0, .ref a), (1, .long x)] [] [(a, .inr (3, [.long sec, .int (bI pen), .long pst, .long psi, .long acc, .int str, .int ref, .int rt, .int (nI sm), .ref b1, .ref b2, .ref b3])), (b1, .inl (κ.z 1, 8, .inr (.inl lo))), (b2, .inl (κ.z 1, 8, .inr (.inl hi))), (b3, .inl (κ.z 1, 8, .inr (.inl ti)))]
  refine v_aload_n X 0 d_Sv_acceptedLast_0 rfl ?_
  refine v_get X 0 8 rfl rfl li_Sv (by decide) m68 rfl d_Sv_acceptedLast_1 ?_
  suffices hm4 : V κ 3 0 0 21 [(0, .ref a), (1, .long x)] [.int (bI (if sm ≤ 0 then false else (if acc = x then true else false)))] [(a, .inr (3, [.long sec, .int (bI pen), .long pst, .long psi, .long acc, .int str, .int ref, .int rt, .int (nI sm), .ref b1, .ref b2, .ref b3])), (b1, .inl (κ.z 1, 8, .inr (.inl lo))), (b2, .inl (κ.z 1, 8, .inr (.inl hi))), (b3, .inl (κ.z 1, 8, .inr (.inl ti)))] by
    refine v_ifN_le X 20 (a := sm) d_Sv_acceptedLast_4 (by decide) (by omega) (fun c4 => ?_) (fun c4 => ?_)
    · skip
      refine v_iconst X 0 d_Sv_acceptedLast_20 (by decide) ?_
      have h9 := hm4; simp only [if_pos c4] at h9; first | exact h9 | (simp only [if_pos c4]; exact h9)
    · skip
      refine v_aload_n X 0 d_Sv_acceptedLast_7 rfl ?_
      refine v_get X 0 4 rfl rfl li_Sv (by decide) m62 rfl d_Sv_acceptedLast_8 ?_
      refine v_lload_n X 1 d_Sv_acceptedLast_11 rfl ?_
      suffices hm12 : V κ 3 0 0 21 [(0, .ref a), (1, .long x)] [.int (bI (if acc = x then true else false))] [(a, .inr (3, [.long sec, .int (bI pen), .long pst, .long psi, .long acc, .int str, .int ref, .int rt, .int (nI sm), .ref b1, .ref b2, .ref b3])), (b1, .inl (κ.z 1, 8, .inr (.inl lo))), (b2, .inl (κ.z 1, 8, .inr (.inl hi))), (b3, .inl (κ.z 1, 8, .inr (.inl ti)))] by
        refine v_lcmp_ne X 20 d_Sv_acceptedLast_12 d_Sv_acceptedLast_13 (by decide) (fun c12 => ?_) (fun c12 => ?_)
        · skip
          refine v_iconst X 0 d_Sv_acceptedLast_20 (by decide) ?_
          have h9 := hm12; simp only [if_neg c12] at h9; first | exact h9 | (simp only [if_neg c12]; exact h9)
        · skip
          refine v_iconst X 1 d_Sv_acceptedLast_16 (by decide) ?_
          refine v_goto X 21 d_Sv_acceptedLast_17 (by decide) ?_
          have h9 := hm12; simp only [if_pos c12] at h9; first | exact h9 | (simp only [if_pos c12]; exact h9)
      have h9 := hm4; simp only [if_neg c4] at h9; first | exact h9 | (simp only [if_neg c4]; exact h9)
  exact v_zret X Y (by decide) (by decide) d_Sv_acceptedLast_21 (narB _) ⟨rfl, rfl⟩

def f_Sv_expects (pen : Bool) (pst : Int64) (x : Int64) : Bool := (if pen = true then (if pst = x then true else false) else false)
set_option maxHeartbeats 4000000 in
set_option maxRecDepth 100000 in
theorem c_Sv_expects (l : Launch) (D : va_G) (z : Nat → ClassId) (a : Nat) (b1 : Nat) (b2 : Nat) (b3 : Nat) (sec : Int64) (pen : Bool) (pst : Int64) (psi : Int64) (acc : Int64) (str : Int32) (ref : Int32) (rt : Int32) (sm : Nat) (lo : Nat → Int64) (hi : Nat → Int64) (ti : Nat → Int64) (x : Int64) (hs8 : sm ≤ 8) : Ctr l D z y_Sv_expects b_Sv_expects 3 (some .boolean) { frames := 0, cells := 0, slots := 0, locals := 0 } [.ref a, .long x] [(a, .inr (3, [.long sec, .int (bI pen), .long pst, .long psi, .long acc, .int str, .int ref, .int rt, .int (nI sm), .ref b1, .ref b2, .ref b3])), (b1, .inl (z 1, 8, .inr (.inl lo))), (b2, .inl (z 1, 8, .inr (.inl hi))), (b3, .inl (z 1, 8, .inr (.inl ti)))] (fun v w => v = some (.int (bI (f_Sv_expects pen pst x))) ∧ w = [(a, .inr (3, [.long sec, .int (bI pen), .long pst, .long psi, .long acc, .int str, .int ref, .int rt, .int (nI sm), .ref b1, .ref b2, .ref b3])), (b1, .inl (z 1, 8, .inr (.inl lo))), (b2, .inl (z 1, 8, .inr (.inl hi))), (b3, .inl (z 1, 8, .inr (.inl ti)))]) 0 0 := by
  refine met_V (own := R_Sv) (nm := "expects") (by decide +kernel) rfl rfl (Nat.le_of_ble_eq_true rfl) ?_
  intro κ hl hD hz X Y
  subst hl
  subst hD
  subst hz
  show V κ 3 0 0 0 [(0, .ref a), (1, .long x)] [] [(a, .inr (3, [.long sec, .int (bI pen), .long pst, .long psi, .long acc, .int str, .int ref, .int rt, .int (nI sm), .ref b1, .ref b2, .ref b3])), (b1, .inl (κ.z 1, 8, .inr (.inl lo))), (b2, .inl (κ.z 1, 8, .inr (.inl hi))), (b3, .inl (κ.z 1, 8, .inr (.inl ti)))]
  refine v_aload_n X 0 d_Sv_expects_0 rfl ?_
  refine v_get X 0 1 rfl rfl li_Sv (by decide) m58 rfl d_Sv_expects_1 ?_
  suffices hm4 : V κ 3 0 0 21 [(0, .ref a), (1, .long x)] [.int (bI (if pen = true then (if pst = x then true else false) else false))] [(a, .inr (3, [.long sec, .int (bI pen), .long pst, .long psi, .long acc, .int str, .int ref, .int rt, .int (nI sm), .ref b1, .ref b2, .ref b3])), (b1, .inl (κ.z 1, 8, .inr (.inl lo))), (b2, .inl (κ.z 1, 8, .inr (.inl hi))), (b3, .inl (κ.z 1, 8, .inr (.inl ti)))] by
    refine v_ifB_eq X 20 (t := pen) d_Sv_expects_4 (by decide) (fun c4 => ?_) (fun c4 => ?_)
    · skip
      refine v_iconst X 0 d_Sv_expects_20 (by decide) ?_
      have h9 := hm4; simp only [if_neg c4] at h9; first | exact h9 | (simp only [if_neg c4]; exact h9)
    · skip
      refine v_aload_n X 0 d_Sv_expects_7 rfl ?_
      refine v_get X 0 2 rfl rfl li_Sv (by decide) m59 rfl d_Sv_expects_8 ?_
      refine v_lload_n X 1 d_Sv_expects_11 rfl ?_
      suffices hm12 : V κ 3 0 0 21 [(0, .ref a), (1, .long x)] [.int (bI (if pst = x then true else false))] [(a, .inr (3, [.long sec, .int (bI pen), .long pst, .long psi, .long acc, .int str, .int ref, .int rt, .int (nI sm), .ref b1, .ref b2, .ref b3])), (b1, .inl (κ.z 1, 8, .inr (.inl lo))), (b2, .inl (κ.z 1, 8, .inr (.inl hi))), (b3, .inl (κ.z 1, 8, .inr (.inl ti)))] by
        refine v_lcmp_ne X 20 d_Sv_expects_12 d_Sv_expects_13 (by decide) (fun c12 => ?_) (fun c12 => ?_)
        · skip
          refine v_iconst X 0 d_Sv_expects_20 (by decide) ?_
          have h9 := hm12; simp only [if_neg c12] at h9; first | exact h9 | (simp only [if_neg c12]; exact h9)
        · skip
          refine v_iconst X 1 d_Sv_expects_16 (by decide) ?_
          refine v_goto X 21 d_Sv_expects_17 (by decide) ?_
          have h9 := hm12; simp only [if_pos c12] at h9; first | exact h9 | (simp only [if_pos c12]; exact h9)
      have h9 := hm4; simp only [if_pos c4] at h9; first | exact h9 | (simp only [if_pos c4]; exact h9)
  exact v_zret X Y (by decide) (by decide) d_Sv_expects_21 (narB _) ⟨rfl, rfl⟩

set_option maxHeartbeats 4000000 in
set_option maxRecDepth 100000 in
theorem c_Sv_latestSampleTime (l : Launch) (D : va_G) (z : Nat → ClassId) (a : Nat) (b1 : Nat) (b2 : Nat) (b3 : Nat) (sec : Int64) (pen : Bool) (pst : Int64) (psi : Int64) (acc : Int64) (str : Int32) (ref : Int32) (rt : Int32) (sm : Nat) (lo : Nat → Int64) (hi : Nat → Int64) (ti : Nat → Int64)  : Ctr l D z y_Sv_latestSampleTime b_Sv_latestSampleTime 1 (some .long) { frames := 0, cells := 0, slots := 0, locals := 0 } [.ref a] [(a, .inr (3, [.long sec, .int (bI pen), .long pst, .long psi, .long acc, .int str, .int ref, .int rt, .int (nI sm), .ref b1, .ref b2, .ref b3])), (b1, .inl (z 1, 8, .inr (.inl lo))), (b2, .inl (z 1, 8, .inr (.inl hi))), (b3, .inl (z 1, 8, .inr (.inl ti)))] (fun v w => v = some (.long (ti 0)) ∧ w = [(a, .inr (3, [.long sec, .int (bI pen), .long pst, .long psi, .long acc, .int str, .int ref, .int rt, .int (nI sm), .ref b1, .ref b2, .ref b3])), (b1, .inl (z 1, 8, .inr (.inl lo))), (b2, .inl (z 1, 8, .inr (.inl hi))), (b3, .inl (z 1, 8, .inr (.inl ti)))]) 0 0 := by
  refine met_V (own := R_Sv) (nm := "latestSampleTime") (by decide +kernel) rfl rfl (Nat.le_of_ble_eq_true rfl) ?_
  intro κ hl hD hz X Y
  subst hl
  subst hD
  subst hz
  show V κ 1 0 0 0 [(0, .ref a)] [] [(a, .inr (3, [.long sec, .int (bI pen), .long pst, .long psi, .long acc, .int str, .int ref, .int rt, .int (nI sm), .ref b1, .ref b2, .ref b3])), (b1, .inl (κ.z 1, 8, .inr (.inl lo))), (b2, .inl (κ.z 1, 8, .inr (.inl hi))), (b3, .inl (κ.z 1, 8, .inr (.inl ti)))]
  refine v_aload_n X 0 d_Sv_latestSampleTime_0 rfl ?_
  refine v_get X 0 11 rfl rfl li_Sv (by decide) m72 rfl d_Sv_latestSampleTime_1 ?_
  refine v_iconst X 0 d_Sv_latestSampleTime_4 (by decide) ?_
  refine v_laldN X 3 1 (j := 0) rfl rfl (by omega) (by omega) d_Sv_latestSampleTime_5 ?_
  exact v_lret X Y (by decide) (by decide) d_Sv_latestSampleTime_6 ⟨rfl, rfl⟩

def f_Sv_lowerEnd (rt : Int32) (lo : Nat → Int64) (ti : Nat → Int64) (i : Nat) (nw : Int64) (dr : Int32) : Int64 := ((lo i) - rt.toInt64) - (f_M_growth (nw - (ti i)) dr)
set_option maxHeartbeats 4000000 in
set_option maxRecDepth 100000 in
theorem c_Sv_lowerEnd (l : Launch) (D : va_G) (z : Nat → ClassId) (a : Nat) (b1 : Nat) (b2 : Nat) (b3 : Nat) (sec : Int64) (pen : Bool) (pst : Int64) (psi : Int64) (acc : Int64) (str : Int32) (ref : Int32) (rt : Int32) (sm : Nat) (lo : Nat → Int64) (hi : Nat → Int64) (ti : Nat → Int64) (i : Nat) (nw : Int64) (dr : Int32) (hi9 : i < 8) : Ctr l D z y_Sv_lowerEnd b_Sv_lowerEnd 5 (some .long) { frames := 2, cells := 0, slots := 0, locals := 47 } [.ref a, .int (nI i), .long nw, .int dr] [(a, .inr (3, [.long sec, .int (bI pen), .long pst, .long psi, .long acc, .int str, .int ref, .int rt, .int (nI sm), .ref b1, .ref b2, .ref b3])), (b1, .inl (z 1, 8, .inr (.inl lo))), (b2, .inl (z 1, 8, .inr (.inl hi))), (b3, .inl (z 1, 8, .inr (.inl ti)))] (fun v w => v = some (.long (f_Sv_lowerEnd rt lo ti i nw dr)) ∧ w = [(a, .inr (3, [.long sec, .int (bI pen), .long pst, .long psi, .long acc, .int str, .int ref, .int rt, .int (nI sm), .ref b1, .ref b2, .ref b3])), (b1, .inl (z 1, 8, .inr (.inl lo))), (b2, .inl (z 1, 8, .inr (.inl hi))), (b3, .inl (z 1, 8, .inr (.inl ti)))]) 0 0 := by
  refine met_V (own := R_Sv) (nm := "lowerEnd") (by decide +kernel) rfl rfl (Nat.le_of_ble_eq_true rfl) ?_
  intro κ hl hD hz X Y
  subst hl
  subst hD
  subst hz
  show V κ 5 0 0 0 [(0, .ref a), (1, .int (nI i)), (2, .long nw), (4, .int dr)] [] [(a, .inr (3, [.long sec, .int (bI pen), .long pst, .long psi, .long acc, .int str, .int ref, .int rt, .int (nI sm), .ref b1, .ref b2, .ref b3])), (b1, .inl (κ.z 1, 8, .inr (.inl lo))), (b2, .inl (κ.z 1, 8, .inr (.inl hi))), (b3, .inl (κ.z 1, 8, .inr (.inl ti)))]
  refine v_aload_n X 0 d_Sv_lowerEnd_0 rfl ?_
  refine v_get X 0 9 rfl rfl li_Sv (by decide) m70 rfl d_Sv_lowerEnd_1 ?_
  refine v_iload_n X 1 d_Sv_lowerEnd_4 rfl ?_
  refine v_laldN X 1 1 (j := i) rfl rfl (by omega) (by omega) d_Sv_lowerEnd_5 ?_
  refine v_aload_n X 0 d_Sv_lowerEnd_6 rfl ?_
  refine v_get X 0 7 rfl rfl li_Sv (by decide) m67 rfl d_Sv_lowerEnd_7 ?_
  refine v_i2l X d_Sv_lowerEnd_10 ?_
  refine v_lsub X d_Sv_lowerEnd_11 ?_
  refine v_lload_n X 2 d_Sv_lowerEnd_12 rfl ?_
  refine v_aload_n X 0 d_Sv_lowerEnd_13 rfl ?_
  refine v_get X 0 11 rfl rfl li_Sv (by decide) m72 rfl d_Sv_lowerEnd_14 ?_
  refine v_iload_n X 1 d_Sv_lowerEnd_17 rfl ?_
  refine v_laldN X 3 1 (j := i) rfl rfl (by omega) (by omega) d_Sv_lowerEnd_18 ?_
  refine v_lsub X d_Sv_lowerEnd_19 ?_
  show V κ 5 0 0 20 [(0, .ref a), (1, .int (nI i)), (2, .long nw), (4, .int dr)] [.long (nw - (ti i)), .long ((lo i) - rt.toInt64)] [(a, .inr (3, [.long sec, .int (bI pen), .long pst, .long psi, .long acc, .int str, .int ref, .int rt, .int (nI sm), .ref b1, .ref b2, .ref b3])), (b1, .inl (κ.z 1, 8, .inr (.inl lo))), (b2, .inl (κ.z 1, 8, .inr (.inl hi))), (b3, .inl (κ.z 1, 8, .inr (.inl ti)))]
  refine v_iload X 3 d_Sv_lowerEnd_20 rfl ?_
  refine v_callSN X (host := R_M) (n9 := 2) (As := [.long (nw - (ti i)), .int dr]) (rest := [.long ((lo i) - rt.toInt64)]) (wc := []) (wr := [(a, .inr (3, [.long sec, .int (bI pen), .long pst, .long psi, .long acc, .int str, .int ref, .int rt, .int (nI sm), .ref b1, .ref b2, .ref b3])), (b1, .inl (κ.z 1, 8, .inr (.inl lo))), (b2, .inl (κ.z 1, 8, .inr (.inl hi))), (b3, .inl (κ.z 1, 8, .inr (.inl ti)))]) (c_M_growth κ.l κ.D κ.z (nw - (ti i)) dr ) (List.mem_of_getElem? (i := 4) rfl) m248 m30 (by decide +kernel) rfl (Nat.le_of_ble_eq_true rfl) ⟨by decide, by decide⟩ ⟨by decide, by decide⟩ rfl rfl m249 d_Sv_lowerEnd_22 (fun v w1 hg => ?_)
  obtain ⟨rfl, rfl⟩ := hg
  show V κ 5 0 0 25 [(0, .ref a), (1, .int (nI i)), (2, .long nw), (4, .int dr)] [.long (f_M_growth (nw - (ti i)) dr), .long ((lo i) - rt.toInt64)] [(a, .inr (3, [.long sec, .int (bI pen), .long pst, .long psi, .long acc, .int str, .int ref, .int rt, .int (nI sm), .ref b1, .ref b2, .ref b3])), (b1, .inl (κ.z 1, 8, .inr (.inl lo))), (b2, .inl (κ.z 1, 8, .inr (.inl hi))), (b3, .inl (κ.z 1, 8, .inr (.inl ti)))]
  refine v_lsub X d_Sv_lowerEnd_25 ?_
  exact v_lret X Y (by decide) (by decide) d_Sv_lowerEnd_26 ⟨rfl, rfl⟩

def f_Sv_upperEnd (rt : Int32) (hi : Nat → Int64) (ti : Nat → Int64) (i : Nat) (nw : Int64) (dr : Int32) : Int64 := ((hi i) + rt.toInt64) + (f_M_growth (nw - (ti i)) dr)
set_option maxHeartbeats 4000000 in
set_option maxRecDepth 100000 in
theorem c_Sv_upperEnd (l : Launch) (D : va_G) (z : Nat → ClassId) (a : Nat) (b1 : Nat) (b2 : Nat) (b3 : Nat) (sec : Int64) (pen : Bool) (pst : Int64) (psi : Int64) (acc : Int64) (str : Int32) (ref : Int32) (rt : Int32) (sm : Nat) (lo : Nat → Int64) (hi : Nat → Int64) (ti : Nat → Int64) (i : Nat) (nw : Int64) (dr : Int32) (hi9 : i < 8) : Ctr l D z y_Sv_upperEnd b_Sv_upperEnd 5 (some .long) { frames := 2, cells := 0, slots := 0, locals := 47 } [.ref a, .int (nI i), .long nw, .int dr] [(a, .inr (3, [.long sec, .int (bI pen), .long pst, .long psi, .long acc, .int str, .int ref, .int rt, .int (nI sm), .ref b1, .ref b2, .ref b3])), (b1, .inl (z 1, 8, .inr (.inl lo))), (b2, .inl (z 1, 8, .inr (.inl hi))), (b3, .inl (z 1, 8, .inr (.inl ti)))] (fun v w => v = some (.long (f_Sv_upperEnd rt hi ti i nw dr)) ∧ w = [(a, .inr (3, [.long sec, .int (bI pen), .long pst, .long psi, .long acc, .int str, .int ref, .int rt, .int (nI sm), .ref b1, .ref b2, .ref b3])), (b1, .inl (z 1, 8, .inr (.inl lo))), (b2, .inl (z 1, 8, .inr (.inl hi))), (b3, .inl (z 1, 8, .inr (.inl ti)))]) 0 0 := by
  refine met_V (own := R_Sv) (nm := "upperEnd") (by decide +kernel) rfl rfl (Nat.le_of_ble_eq_true rfl) ?_
  intro κ hl hD hz X Y
  subst hl
  subst hD
  subst hz
  show V κ 5 0 0 0 [(0, .ref a), (1, .int (nI i)), (2, .long nw), (4, .int dr)] [] [(a, .inr (3, [.long sec, .int (bI pen), .long pst, .long psi, .long acc, .int str, .int ref, .int rt, .int (nI sm), .ref b1, .ref b2, .ref b3])), (b1, .inl (κ.z 1, 8, .inr (.inl lo))), (b2, .inl (κ.z 1, 8, .inr (.inl hi))), (b3, .inl (κ.z 1, 8, .inr (.inl ti)))]
  refine v_aload_n X 0 d_Sv_upperEnd_0 rfl ?_
  refine v_get X 0 10 rfl rfl li_Sv (by decide) m71 rfl d_Sv_upperEnd_1 ?_
  refine v_iload_n X 1 d_Sv_upperEnd_4 rfl ?_
  refine v_laldN X 2 1 (j := i) rfl rfl (by omega) (by omega) d_Sv_upperEnd_5 ?_
  refine v_aload_n X 0 d_Sv_upperEnd_6 rfl ?_
  refine v_get X 0 7 rfl rfl li_Sv (by decide) m67 rfl d_Sv_upperEnd_7 ?_
  refine v_i2l X d_Sv_upperEnd_10 ?_
  refine v_ladd X d_Sv_upperEnd_11 ?_
  refine v_lload_n X 2 d_Sv_upperEnd_12 rfl ?_
  refine v_aload_n X 0 d_Sv_upperEnd_13 rfl ?_
  refine v_get X 0 11 rfl rfl li_Sv (by decide) m72 rfl d_Sv_upperEnd_14 ?_
  refine v_iload_n X 1 d_Sv_upperEnd_17 rfl ?_
  refine v_laldN X 3 1 (j := i) rfl rfl (by omega) (by omega) d_Sv_upperEnd_18 ?_
  refine v_lsub X d_Sv_upperEnd_19 ?_
  show V κ 5 0 0 20 [(0, .ref a), (1, .int (nI i)), (2, .long nw), (4, .int dr)] [.long (nw - (ti i)), .long ((hi i) + rt.toInt64)] [(a, .inr (3, [.long sec, .int (bI pen), .long pst, .long psi, .long acc, .int str, .int ref, .int rt, .int (nI sm), .ref b1, .ref b2, .ref b3])), (b1, .inl (κ.z 1, 8, .inr (.inl lo))), (b2, .inl (κ.z 1, 8, .inr (.inl hi))), (b3, .inl (κ.z 1, 8, .inr (.inl ti)))]
  refine v_iload X 3 d_Sv_upperEnd_20 rfl ?_
  refine v_callSN X (host := R_M) (n9 := 2) (As := [.long (nw - (ti i)), .int dr]) (rest := [.long ((hi i) + rt.toInt64)]) (wc := []) (wr := [(a, .inr (3, [.long sec, .int (bI pen), .long pst, .long psi, .long acc, .int str, .int ref, .int rt, .int (nI sm), .ref b1, .ref b2, .ref b3])), (b1, .inl (κ.z 1, 8, .inr (.inl lo))), (b2, .inl (κ.z 1, 8, .inr (.inl hi))), (b3, .inl (κ.z 1, 8, .inr (.inl ti)))]) (c_M_growth κ.l κ.D κ.z (nw - (ti i)) dr ) (List.mem_of_getElem? (i := 4) rfl) m248 m30 (by decide +kernel) rfl (Nat.le_of_ble_eq_true rfl) ⟨by decide, by decide⟩ ⟨by decide, by decide⟩ rfl rfl m249 d_Sv_upperEnd_22 (fun v w1 hg => ?_)
  obtain ⟨rfl, rfl⟩ := hg
  show V κ 5 0 0 25 [(0, .ref a), (1, .int (nI i)), (2, .long nw), (4, .int dr)] [.long (f_M_growth (nw - (ti i)) dr), .long ((hi i) + rt.toInt64)] [(a, .inr (3, [.long sec, .int (bI pen), .long pst, .long psi, .long acc, .int str, .int ref, .int rt, .int (nI sm), .ref b1, .ref b2, .ref b3])), (b1, .inl (κ.z 1, 8, .inr (.inl lo))), (b2, .inl (κ.z 1, 8, .inr (.inl hi))), (b3, .inl (κ.z 1, 8, .inr (.inl ti)))]
  refine v_ladd X d_Sv_upperEnd_25 ?_
  exact v_lret X Y (by decide) (by decide) d_Sv_upperEnd_26 ⟨rfl, rfl⟩

def f_Sv_lengthOf (rt : Int32) (lo : Nat → Int64) (hi : Nat → Int64) (ti : Nat → Int64) (i : Nat) (nw : Int64) (dr : Int32) : Int64 := (f_Sv_upperEnd rt hi ti i nw dr) - (f_Sv_lowerEnd rt lo ti i nw dr)
set_option maxHeartbeats 4000000 in
set_option maxRecDepth 100000 in
theorem c_Sv_lengthOf (l : Launch) (D : va_G) (z : Nat → ClassId) (a : Nat) (b1 : Nat) (b2 : Nat) (b3 : Nat) (sec : Int64) (pen : Bool) (pst : Int64) (psi : Int64) (acc : Int64) (str : Int32) (ref : Int32) (rt : Int32) (sm : Nat) (lo : Nat → Int64) (hi : Nat → Int64) (ti : Nat → Int64) (i : Nat) (nw : Int64) (dr : Int32) (hi9 : i < 8) : Ctr l D z y_Sv_lengthOf b_Sv_lengthOf 5 (some .long) { frames := 3, cells := 0, slots := 0, locals := 71 } [.ref a, .int (nI i), .long nw, .int dr] [(a, .inr (3, [.long sec, .int (bI pen), .long pst, .long psi, .long acc, .int str, .int ref, .int rt, .int (nI sm), .ref b1, .ref b2, .ref b3])), (b1, .inl (z 1, 8, .inr (.inl lo))), (b2, .inl (z 1, 8, .inr (.inl hi))), (b3, .inl (z 1, 8, .inr (.inl ti)))] (fun v w => v = some (.long (f_Sv_lengthOf rt lo hi ti i nw dr)) ∧ w = [(a, .inr (3, [.long sec, .int (bI pen), .long pst, .long psi, .long acc, .int str, .int ref, .int rt, .int (nI sm), .ref b1, .ref b2, .ref b3])), (b1, .inl (z 1, 8, .inr (.inl lo))), (b2, .inl (z 1, 8, .inr (.inl hi))), (b3, .inl (z 1, 8, .inr (.inl ti)))]) 0 0 := by
  refine met_V (own := R_Sv) (nm := "lengthOf") (by decide +kernel) rfl rfl (Nat.le_of_ble_eq_true rfl) ?_
  intro κ hl hD hz X Y
  subst hl
  subst hD
  subst hz
  show V κ 5 0 0 0 [(0, .ref a), (1, .int (nI i)), (2, .long nw), (4, .int dr)] [] [(a, .inr (3, [.long sec, .int (bI pen), .long pst, .long psi, .long acc, .int str, .int ref, .int rt, .int (nI sm), .ref b1, .ref b2, .ref b3])), (b1, .inl (κ.z 1, 8, .inr (.inl lo))), (b2, .inl (κ.z 1, 8, .inr (.inl hi))), (b3, .inl (κ.z 1, 8, .inr (.inl ti)))]
  refine v_aload_n X 0 d_Sv_lengthOf_0 rfl ?_
  refine v_iload_n X 1 d_Sv_lengthOf_1 rfl ?_
  refine v_lload_n X 2 d_Sv_lengthOf_2 rfl ?_
  refine v_iload X 3 d_Sv_lengthOf_3 rfl ?_
  refine v_callV X (b := a) (n9 := 3) (As := [.int (nI i), .long nw, .int dr]) (rest := []) (wc := [(a, .inr (3, [.long sec, .int (bI pen), .long pst, .long psi, .long acc, .int str, .int ref, .int rt, .int (nI sm), .ref b1, .ref b2, .ref b3])), (b1, .inl (κ.z 1, 8, .inr (.inl lo))), (b2, .inl (κ.z 1, 8, .inr (.inl hi))), (b3, .inl (κ.z 1, 8, .inr (.inl ti)))]) (wr := []) (c_Sv_upperEnd κ.l κ.D κ.z a b1 b2 b3 sec pen pst psi acc str ref rt sm lo hi ti i nw dr (by omega)) 0 rfl rfl m244 m245 m246 m32 (by decide +kernel) rfl (Nat.le_of_ble_eq_true rfl) ⟨by decide, by decide⟩ ⟨by decide, by decide⟩ rfl rfl m247 d_Sv_lengthOf_5 (fun v w1 hg => ?_)
  obtain ⟨rfl, rfl⟩ := hg
  show V κ 5 0 0 8 [(0, .ref a), (1, .int (nI i)), (2, .long nw), (4, .int dr)] [.long (f_Sv_upperEnd rt hi ti i nw dr)] [(a, .inr (3, [.long sec, .int (bI pen), .long pst, .long psi, .long acc, .int str, .int ref, .int rt, .int (nI sm), .ref b1, .ref b2, .ref b3])), (b1, .inl (κ.z 1, 8, .inr (.inl lo))), (b2, .inl (κ.z 1, 8, .inr (.inl hi))), (b3, .inl (κ.z 1, 8, .inr (.inl ti)))]
  refine v_aload_n X 0 d_Sv_lengthOf_8 rfl ?_
  refine v_iload_n X 1 d_Sv_lengthOf_9 rfl ?_
  refine v_lload_n X 2 d_Sv_lengthOf_10 rfl ?_
  refine v_iload X 3 d_Sv_lengthOf_11 rfl ?_
  refine v_callV X (b := a) (n9 := 3) (As := [.int (nI i), .long nw, .int dr]) (rest := [.long (f_Sv_upperEnd rt hi ti i nw dr)]) (wc := [(a, .inr (3, [.long sec, .int (bI pen), .long pst, .long psi, .long acc, .int str, .int ref, .int rt, .int (nI sm), .ref b1, .ref b2, .ref b3])), (b1, .inl (κ.z 1, 8, .inr (.inl lo))), (b2, .inl (κ.z 1, 8, .inr (.inl hi))), (b3, .inl (κ.z 1, 8, .inr (.inl ti)))]) (wr := []) (c_Sv_lowerEnd κ.l κ.D κ.z a b1 b2 b3 sec pen pst psi acc str ref rt sm lo hi ti i nw dr (by omega)) 0 rfl rfl m254 m255 m256 m32 (by decide +kernel) rfl (Nat.le_of_ble_eq_true rfl) ⟨by decide, by decide⟩ ⟨by decide, by decide⟩ rfl rfl m257 d_Sv_lengthOf_13 (fun v w1 hg => ?_)
  obtain ⟨rfl, rfl⟩ := hg
  show V κ 5 0 0 16 [(0, .ref a), (1, .int (nI i)), (2, .long nw), (4, .int dr)] [.long (f_Sv_lowerEnd rt lo ti i nw dr), .long (f_Sv_upperEnd rt hi ti i nw dr)] [(a, .inr (3, [.long sec, .int (bI pen), .long pst, .long psi, .long acc, .int str, .int ref, .int rt, .int (nI sm), .ref b1, .ref b2, .ref b3])), (b1, .inl (κ.z 1, 8, .inr (.inl lo))), (b2, .inl (κ.z 1, 8, .inr (.inl hi))), (b3, .inl (κ.z 1, 8, .inr (.inl ti)))]
  refine v_lsub X d_Sv_lengthOf_16 ?_
  exact v_lret X Y (by decide) (by decide) d_Sv_lengthOf_17 ⟨rfl, rfl⟩
