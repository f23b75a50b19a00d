set_option maxHeartbeats 4000000 in
set_option maxRecDepth 100000 in
theorem c_Sv_init (l : Launch) (D : va_G) (z : Nat → ClassId) (a : Nat)  : Ctr l D z y_Sv_init b_Sv_init 1 none { frames := 1, cells := 3, slots := 24, locals := 20 } [.ref a] [(a, .inr (3, [.long 0, .int (bI false), .long 0, .long 0, .long 0, .int 0, .int 0, .int 0, .int (nI 0), .null, .null, .null]))] (fun v w => v = none ∧ ∃ b1 b2 b3 : Nat, w = [(a, .inr (3, [.long 0, .int (bI false), .long 0, .long 0, .long 0, .int 16, .int 0, .int 0, .int (nI 0), .ref b1, .ref b2, .ref b3])), (b1, .inl (z 1, 8, .inr (.inl (fun _ => 0)))), (b2, .inl (z 1, 8, .inr (.inl (fun _ => 0)))), (b3, .inl (z 1, 8, .inr (.inl (fun _ => 0))))]) 3 24 := by
  refine met_V (own := R_Sv) (nm := "<init>") (by decide +kernel) rfl rfl (Nat.le_of_ble_eq_true rfl) ?_
  intro κ hl hD hz X Y
  subst hl
  subst hD
  subst hz
  show V κ 1 0 0 0 [(0, .ref a)] [] [(a, .inr (3, [.long 0, .int (bI false), .long 0, .long 0, .long 0, .int 0, .int 0, .int 0, .int (nI 0), .null, .null, .null]))]
  refine v_aload_n X 0 d_Sv_init_0 rfl ?_
  refine v_objInit X m56 m43 m44 d_Sv_init_1 (by decide) (Nat.le_of_ble_eq_true rfl) ?_
  show V κ 1 0 0 4 [(0, .ref a)] [] [(a, .inr (3, [.long 0, .int (bI false), .long 0, .long 0, .long 0, .int 0, .int 0, .int 0, .int (nI 0), .null, .null, .null]))]
  refine v_aload_n X 0 d_Sv_init_4 rfl ?_
  refine v_bipush X 16 d_Sv_init_5 (by decide) ?_
  refine v_put X 0 5 (v := .int (16 : Int32)) (ty := .int) ty_Sv tk_Sv n_Sv rfl rfl li_Sv (by decide) m63 rfl (by decide +kernel) rfl rfl (Nat.le_of_ble_eq_true rfl) d_Sv_init_7 (ws' := [(a, .inr (3, [.long 0, .int (bI false), .long 0, .long 0, .long 0, .int (16 : Int32), .int 0, .int 0, .int (nI 0), .null, .null, .null]))]) rfl ?_
  refine v_aload_n X 0 d_Sv_init_10 rfl ?_
  refine v_bipush X 8 d_Sv_init_11 (by decide) ?_
  refine v_newJ X 1 8 rfl rfl m85 (by decide) rfl (by decide) (by decide) (by decide) d_Sv_init_13 (fun q13 => ?_)
  show V κ 1 1 8 15 [(0, .ref a)] [.ref q13, .ref a] [(a, .inr (3, [.long 0, .int (bI false), .long 0, .long 0, .long 0, .int (16 : Int32), .int 0, .int 0, .int (nI 0), .null, .null, .null])), (q13, .inl (κ.z 1, 8, .inr (.inl (fun _ => 0))))]
  refine v_putF X Y 0 9 (v := .ref q13) (ty := (.array .long)) ty_Sv tk_Sv n_Sv rfl rfl li_Sv (by decide) m70 rfl rfl (by decide +kernel) rfl rfl (Nat.le_of_ble_eq_true rfl) d_Sv_init_15 (ws' := [(a, .inr (3, [.long 0, .int (bI false), .long 0, .long 0, .long 0, .int (16 : Int32), .int 0, .int 0, .int (nI 0), .ref q13, .null, .null])), (q13, .inl (κ.z 1, 8, .inr (.inl (fun _ => 0))))]) rfl ?_
  refine v_aload_n X 0 d_Sv_init_18 rfl ?_
  refine v_bipush X 8 d_Sv_init_19 (by decide) ?_
  refine v_newJ X 1 8 rfl rfl m85 (by decide) rfl (by decide) (by decide) (by decide) d_Sv_init_21 (fun q21 => ?_)
  show V κ 1 2 16 23 [(0, .ref a)] [.ref q21, .ref a] [(a, .inr (3, [.long 0, .int (bI false), .long 0, .long 0, .long 0, .int (16 : Int32), .int 0, .int 0, .int (nI 0), .ref q13, .null, .null])), (q13, .inl (κ.z 1, 8, .inr (.inl (fun _ => 0)))), (q21, .inl (κ.z 1, 8, .inr (.inl (fun _ => 0))))]
  refine v_putF X Y 0 10 (v := .ref q21) (ty := (.array .long)) ty_Sv tk_Sv n_Sv rfl rfl li_Sv (by decide) m71 rfl rfl (by decide +kernel) rfl rfl (Nat.le_of_ble_eq_true rfl) d_Sv_init_23 (ws' := [(a, .inr (3, [.long 0, .int (bI false), .long 0, .long 0, .long 0, .int (16 : Int32), .int 0, .int 0, .int (nI 0), .ref q13, .ref q21, .null])), (q13, .inl (κ.z 1, 8, .inr (.inl (fun _ => 0)))), (q21, .inl (κ.z 1, 8, .inr (.inl (fun _ => 0))))]) rfl ?_
  refine v_aload_n X 0 d_Sv_init_26 rfl ?_
  show V κ 1 2 16 27 [(0, .ref a)] [.ref a] [(a, .inr (3, [.long 0, .int (bI false), .long 0, .long 0, .long 0, .int (16 : Int32), .int 0, .int 0, .int (nI 0), .ref q13, .ref q21, .null])), (q13, .inl (κ.z 1, 8, .inr (.inl (fun _ => 0)))), (q21, .inl (κ.z 1, 8, .inr (.inl (fun _ => 0))))]
  refine v_bipush X 8 d_Sv_init_27 (by decide) ?_
  refine v_newJ X 1 8 rfl rfl m85 (by decide) rfl (by decide) (by decide) (by decide) d_Sv_init_29 (fun q29 => ?_)
  show V κ 1 3 24 31 [(0, .ref a)] [.ref q29, .ref a] [(a, .inr (3, [.long 0, .int (bI false), .long 0, .long 0, .long 0, .int (16 : Int32), .int 0, .int 0, .int (nI 0), .ref q13, .ref q21, .null])), (q13, .inl (κ.z 1, 8, .inr (.inl (fun _ => 0)))), (q21, .inl (κ.z 1, 8, .inr (.inl (fun _ => 0)))), (q29, .inl (κ.z 1, 8, .inr (.inl (fun _ => 0))))]
  refine v_putF X Y 0 11 (v := .ref q29) (ty := (.array .long)) ty_Sv tk_Sv n_Sv rfl rfl li_Sv (by decide) m72 rfl rfl (by decide +kernel) rfl rfl (Nat.le_of_ble_eq_true rfl) d_Sv_init_31 (ws' := [(a, .inr (3, [.long 0, .int (bI false), .long 0, .long 0, .long 0, .int (16 : Int32), .int 0, .int 0, .int (nI 0), .ref q13, .ref q21, .ref q29])), (q13, .inl (κ.z 1, 8, .inr (.inl (fun _ => 0)))), (q21, .inl (κ.z 1, 8, .inr (.inl (fun _ => 0)))), (q29, .inl (κ.z 1, 8, .inr (.inl (fun _ => 0))))]) rfl ?_
  exact v_vret X Y (by decide) (by decide) d_Sv_init_34 ⟨rfl, _, _, _, rfl⟩

def shf (lo : Nat → Int64) (hi : Nat → Int64) (ti : Nat → Int64) (s : Nat) : Nat → (Nat → Int64) × (Nat → Int64) × (Nat → Int64)
  | 0 => (lo, hi, ti)
  | j + 1 => (vp_updL ((shf lo hi ti s j).1) (s - 1 - j) (((shf lo hi ti s j).1) ((s - 1 - j) - 1)), vp_updL ((shf lo hi ti s j).2.1) (s - 1 - j) (((shf lo hi ti s j).2.1) ((s - 1 - j) - 1)), vp_updL ((shf lo hi ti s j).2.2) (s - 1 - j) (((shf lo hi ti s j).2.2) ((s - 1 - j) - 1)))
set_option maxHeartbeats 4000000 in
set_option maxRecDepth 100000 in
theorem lp_makeRoom {κ : VC} (X : Cx κ b_Sv_makeRoomForSample R_Sv { frames := 1, cells := 0, slots := 0, locals := 21 } 2) (a : Nat) (b1 : Nat) (b2 : Nat) (b3 : Nat) (sec : Int64) (pen : Bool) (pst : Int64) (psi : Int64) (acc : Int64) (str : Int32) (ref : Int32) (rt : Int32) (lo : Nat → Int64) (hi : Nat → Int64) (ti : Nat → Int64) (s : Nat) (hs1 : 1 ≤ s) (hs8 : s ≤ 8)  (kk : V κ 2 0 0 74 [(1, .int (nI (s - 1 - (s - 1)))), (0, .ref a)] [] [(a, .inr (3, [.long sec, .int (bI pen), .long pst, .long psi, .long acc, .int str, .int ref, .int rt, .int (nI s), .ref b1, .ref b2, .ref b3])), (b1, .inl (κ.z 1, 8, .inr (.inl ((shf lo hi ti s (s - 1)).1)))), (b2, .inl (κ.z 1, 8, .inr (.inl ((shf lo hi ti s (s - 1)).2.1)))), (b3, .inl (κ.z 1, 8, .inr (.inl ((shf lo hi ti s (s - 1)).2.2))))]) : ∀ (d9 j : Nat), j + d9 = s - 1 → V κ 2 0 0 22 [(1, .int (nI (s - 1 - j))), (0, .ref a)] [] [(a, .inr (3, [.long sec, .int (bI pen), .long pst, .long psi, .long acc, .int str, .int ref, .int rt, .int (nI s), .ref b1, .ref b2, .ref b3])), (b1, .inl (κ.z 1, 8, .inr (.inl ((shf lo hi ti s j).1)))), (b2, .inl (κ.z 1, 8, .inr (.inl ((shf lo hi ti s j).2.1)))), (b3, .inl (κ.z 1, 8, .inr (.inl ((shf lo hi ti s j).2.2))))] := by
  intro d9
  induction d9 with
  | zero =>
    intro j hj 
    have e9 : j = s - 1 := by omega
    rw [e9]
    show V κ 2 0 0 22 [(1, .int (nI (s - 1 - (s - 1)))), (0, .ref a)] [] [(a, .inr (3, [.long sec, .int (bI pen), .long pst, .long psi, .long acc, .int str, .int ref, .int rt, .int (nI s), .ref b1, .ref b2, .ref b3])), (b1, .inl (κ.z 1, 8, .inr (.inl ((shf lo hi ti s (s - 1)).1)))), (b2, .inl (κ.z 1, 8, .inr (.inl ((shf lo hi ti s (s - 1)).2.1)))), (b3, .inl (κ.z 1, 8, .inr (.inl ((shf lo hi ti s (s - 1)).2.2))))]
    refine v_iload_n X 0 d_Sv_makeRoomForSample_22 rfl ?_
    refine v_ifN_le X 74 (a := (s - 1 - (s - 1))) d_Sv_makeRoomForSample_23 (by decide) (by omega) (fun c23 => ?_) (fun c23 => by omega)
    exact kk
  | succ d9 ih =>
    intro j hj 
    show V κ 2 0 0 22 [(1, .int (nI (s - 1 - j))), (0, .ref a)] [] [(a, .inr (3, [.long sec, .int (bI pen), .long pst, .long psi, .long acc, .int str, .int ref, .int rt, .int (nI s), .ref b1, .ref b2, .ref b3])), (b1, .inl (κ.z 1, 8, .inr (.inl ((shf lo hi ti s j).1)))), (b2, .inl (κ.z 1, 8, .inr (.inl ((shf lo hi ti s j).2.1)))), (b3, .inl (κ.z 1, 8, .inr (.inl ((shf lo hi ti s j).2.2))))]
    refine v_iload_n X 0 d_Sv_makeRoomForSample_22 rfl ?_
    refine v_ifN_le X 74 (a := (s - 1 - j)) d_Sv_makeRoomForSample_23 (by decide) (by omega) (fun c23 => by omega) (fun c23 => ?_)
    refine v_aload_n X 1 d_Sv_makeRoomForSample_26 rfl ?_
    refine v_get X 0 9 rfl rfl li_Sv (by decide) m70 rfl d_Sv_makeRoomForSample_27 ?_
    refine v_iload_n X 0 d_Sv_makeRoomForSample_30 rfl ?_
    refine v_aload_n X 1 d_Sv_makeRoomForSample_31 rfl ?_
    refine v_get X 0 9 rfl rfl li_Sv (by decide) m70 rfl d_Sv_makeRoomForSample_32 ?_
    refine v_iload_n X 0 d_Sv_makeRoomForSample_35 rfl ?_
    refine v_iconst X 1 d_Sv_makeRoomForSample_36 (by decide) ?_
    refine v_isubN X (a := (s - 1 - j)) (b := 1) d_Sv_makeRoomForSample_37 (by omega) ?_
    refine v_laldN X 1 1 (j := ((s - 1 - j) - 1)) rfl rfl (by omega) (by omega) d_Sv_makeRoomForSample_38 ?_
    refine v_lastN X 1 1 (j := (s - 1 - j)) (x := (((shf lo hi ti s j).1) ((s - 1 - j) - 1))) rfl rfl (by omega) (by omega) d_Sv_makeRoomForSample_39 (ws' := [(a, .inr (3, [.long sec, .int (bI pen), .long pst, .long psi, .long acc, .int str, .int ref, .int rt, .int (nI s), .ref b1, .ref b2, .ref b3])), (b1, .inl (κ.z 1, 8, .inr (.inl (vp_updL ((shf lo hi ti s j).1) (s - 1 - j) (((shf lo hi ti s j).1) ((s - 1 - j) - 1)))))), (b2, .inl (κ.z 1, 8, .inr (.inl ((shf lo hi ti s j).2.1)))), (b3, .inl (κ.z 1, 8, .inr (.inl ((shf lo hi ti s j).2.2))))]) rfl ?_
    refine v_aload_n X 1 d_Sv_makeRoomForSample_40 rfl ?_
    refine v_get X 0 10 rfl rfl li_Sv (by decide) m71 rfl d_Sv_makeRoomForSample_41 ?_
    show V κ 2 0 0 44 [(1, .int (nI (s - 1 - j))), (0, .ref a)] [.ref b2] [(a, .inr (3, [.long sec, .int (bI pen), .long pst, .long psi, .long acc, .int str, .int ref, .int rt, .int (nI s), .ref b1, .ref b2, .ref b3])), (b1, .inl (κ.z 1, 8, .inr (.inl (vp_updL ((shf lo hi ti s j).1) (s - 1 - j) (((shf lo hi ti s j).1) ((s - 1 - j) - 1)))))), (b2, .inl (κ.z 1, 8, .inr (.inl ((shf lo hi ti s j).2.1)))), (b3, .inl (κ.z 1, 8, .inr (.inl ((shf lo hi ti s j).2.2))))]
    refine v_iload_n X 0 d_Sv_makeRoomForSample_44 rfl ?_
    refine v_aload_n X 1 d_Sv_makeRoomForSample_45 rfl ?_
    refine v_get X 0 10 rfl rfl li_Sv (by decide) m71 rfl d_Sv_makeRoomForSample_46 ?_
    refine v_iload_n X 0 d_Sv_makeRoomForSample_49 rfl ?_
    refine v_iconst X 1 d_Sv_makeRoomForSample_50 (by decide) ?_
    refine v_isubN X (a := (s - 1 - j)) (b := 1) d_Sv_makeRoomForSample_51 (by omega) ?_
    refine v_laldN X 2 1 (j := ((s - 1 - j) - 1)) rfl rfl (by omega) (by omega) d_Sv_makeRoomForSample_52 ?_
    refine v_lastN X 2 1 (j := (s - 1 - j)) (x := (((shf lo hi ti s j).2.1) ((s - 1 - j) - 1))) rfl rfl (by omega) (by omega) d_Sv_makeRoomForSample_53 (ws' := [(a, .inr (3, [.long sec, .int (bI pen), .long pst, .long psi, .long acc, .int str, .int ref, .int rt, .int (nI s), .ref b1, .ref b2, .ref b3])), (b1, .inl (κ.z 1, 8, .inr (.inl (vp_updL ((shf lo hi ti s j).1) (s - 1 - j) (((shf lo hi ti s j).1) ((s - 1 - j) - 1)))))), (b2, .inl (κ.z 1, 8, .inr (.inl (vp_updL ((shf lo hi ti s j).2.1) (s - 1 - j) (((shf lo hi ti s j).2.1) ((s - 1 - j) - 1)))))), (b3, .inl (κ.z 1, 8, .inr (.inl ((shf lo hi ti s j).2.2))))]) rfl ?_
    refine v_aload_n X 1 d_Sv_makeRoomForSample_54 rfl ?_
    refine v_get X 0 11 rfl rfl li_Sv (by decide) m72 rfl d_Sv_makeRoomForSample_55 ?_
    refine v_iload_n X 0 d_Sv_makeRoomForSample_58 rfl ?_
    refine v_aload_n X 1 d_Sv_makeRoomForSample_59 rfl ?_
    refine v_get X 0 11 rfl rfl li_Sv (by decide) m72 rfl d_Sv_makeRoomForSample_60 ?_
    refine v_iload_n X 0 d_Sv_makeRoomForSample_63 rfl ?_
    refine v_iconst X 1 d_Sv_makeRoomForSample_64 (by decide) ?_
    show V κ 2 0 0 65 [(1, .int (nI (s - 1 - j))), (0, .ref a)] [.int 1, .int (nI (s - 1 - j)), .ref b3, .int (nI (s - 1 - j)), .ref b3] [(a, .inr (3, [.long sec, .int (bI pen), .long pst, .long psi, .long acc, .int str, .int ref, .int rt, .int (nI s), .ref b1, .ref b2, .ref b3])), (b1, .inl (κ.z 1, 8, .inr (.inl (vp_updL ((shf lo hi ti s j).1) (s - 1 - j) (((shf lo hi ti s j).1) ((s - 1 - j) - 1)))))), (b2, .inl (κ.z 1, 8, .inr (.inl (vp_updL ((shf lo hi ti s j).2.1) (s - 1 - j) (((shf lo hi ti s j).2.1) ((s - 1 - j) - 1)))))), (b3, .inl (κ.z 1, 8, .inr (.inl ((shf lo hi ti s j).2.2))))]
    refine v_isubN X (a := (s - 1 - j)) (b := 1) d_Sv_makeRoomForSample_65 (by omega) ?_
    refine v_laldN X 3 1 (j := ((s - 1 - j) - 1)) rfl rfl (by omega) (by omega) d_Sv_makeRoomForSample_66 ?_
    refine v_lastN X 3 1 (j := (s - 1 - j)) (x := (((shf lo hi ti s j).2.2) ((s - 1 - j) - 1))) rfl rfl (by omega) (by omega) d_Sv_makeRoomForSample_67 (ws' := [(a, .inr (3, [.long sec, .int (bI pen), .long pst, .long psi, .long acc, .int str, .int ref, .int rt, .int (nI s), .ref b1, .ref b2, .ref b3])), (b1, .inl (κ.z 1, 8, .inr (.inl (vp_updL ((shf lo hi ti s j).1) (s - 1 - j) (((shf lo hi ti s j).1) ((s - 1 - j) - 1)))))), (b2, .inl (κ.z 1, 8, .inr (.inl (vp_updL ((shf lo hi ti s j).2.1) (s - 1 - j) (((shf lo hi ti s j).2.1) ((s - 1 - j) - 1)))))), (b3, .inl (κ.z 1, 8, .inr (.inl (vp_updL ((shf lo hi ti s j).2.2) (s - 1 - j) (((shf lo hi ti s j).2.2) ((s - 1 - j) - 1))))))]) rfl ?_
    refine v_iinc X 0 d_Sv_makeRoomForSample_68 (x := nI (s - 1 - j)) rfl (v := nI ((s - 1 - j) - 1)) (nI_m1 (by omega)) (by decide) (lv' := [(1, .int (nI ((s - 1 - j) - 1))), (0, .ref a)]) rfl ?_
    refine v_goto X 22 d_Sv_makeRoomForSample_71 (by decide) ?_
    exact v_eq rfl (by rw [show s - 1 - j - 1 = s - 1 - (j + 1) by omega]) rfl (by rfl) (ih (j + 1) (by omega))

def f_Sv_makeRoomForSample_r1 (sm : Nat) (lo : Nat → Int64) (hi : Nat → Int64) (ti : Nat → Int64) : Nat → Int64 := (shf lo hi ti (f_J_min_IIN (sm + 1) 8) ((f_J_min_IIN (sm + 1) 8) - 1)).1
def f_Sv_makeRoomForSample_r2 (sm : Nat) (lo : Nat → Int64) (hi : Nat → Int64) (ti : Nat → Int64) : Nat → Int64 := (shf lo hi ti (f_J_min_IIN (sm + 1) 8) ((f_J_min_IIN (sm + 1) 8) - 1)).2.1
def f_Sv_makeRoomForSample_r3 (sm : Nat) (lo : Nat → Int64) (hi : Nat → Int64) (ti : Nat → Int64) : Nat → Int64 := (shf lo hi ti (f_J_min_IIN (sm + 1) 8) ((f_J_min_IIN (sm + 1) 8) - 1)).2.2
set_option maxHeartbeats 4000000 in
set_option maxRecDepth 100000 in
theorem c_Sv_makeRoomForSample (l : Launch) (D : va_G) (z : Nat → ClassId) (a : Nat) (b1 : Nat) (b2 : Nat) (b3 : Nat) (sec : Int64) (pen : Bool) (pst : Int64) (psi : Int64) (acc : Int64) (str : Int32) (ref : Int32) (rt : Int32) (sm : Nat) (lo : Nat → Int64) (hi : Nat → Int64) (ti : Nat → Int64) (hs8 : sm ≤ 8) : Ctr l D z y_Sv_makeRoomForSample b_Sv_makeRoomForSample 2 none { frames := 1, cells := 0, slots := 0, locals := 21 } [.ref a] [(a, .inr (3, [.long sec, .int (bI pen), .long pst, .long psi, .long acc, .int str, .int ref, .int rt, .int (nI sm), .ref b1, .ref b2, .ref b3])), (b1, .inl (z 1, 8, .inr (.inl lo))), (b2, .inl (z 1, 8, .inr (.inl hi))), (b3, .inl (z 1, 8, .inr (.inl ti)))] (fun v w => v = none ∧ w = [(a, .inr (3, [.long sec, .int (bI pen), .long pst, .long psi, .long acc, .int str, .int ref, .int rt, .int (nI (f_J_min_IIN (sm + 1) 8)), .ref b1, .ref b2, .ref b3])), (b1, .inl (z 1, 8, .inr (.inl (f_Sv_makeRoomForSample_r1 sm lo hi ti)))), (b2, .inl (z 1, 8, .inr (.inl (f_Sv_makeRoomForSample_r2 sm lo hi ti)))), (b3, .inl (z 1, 8, .inr (.inl (f_Sv_makeRoomForSample_r3 sm lo hi ti))))]) 0 0 := by
  refine met_V (own := R_Sv) (nm := "makeRoomForSample") (by decide +kernel) rfl rfl (Nat.le_of_ble_eq_true rfl) ?_
  intro κ hl hD hz X Y
  subst hl
  subst hD
  subst hz
  have hmn : 1 ≤ f_J_min_IIN (sm + 1) 8 ∧ f_J_min_IIN (sm + 1) 8 ≤ 8 := by unfold f_J_min_IIN; split <;> omega
  show V κ 2 0 0 0 [(0, .ref a)] [] [(a, .inr (3, [.long sec, .int (bI pen), .long pst, .long psi, .long acc, .int str, .int ref, .int rt, .int (nI sm), .ref b1, .ref b2, .ref b3])), (b1, .inl (κ.z 1, 8, .inr (.inl lo))), (b2, .inl (κ.z 1, 8, .inr (.inl hi))), (b3, .inl (κ.z 1, 8, .inr (.inl ti)))]
  refine v_aload_n X 0 d_Sv_makeRoomForSample_0 rfl ?_
  refine v_aload_n X 0 d_Sv_makeRoomForSample_1 rfl ?_
  refine v_get X 0 8 rfl rfl li_Sv (by decide) m68 rfl d_Sv_makeRoomForSample_2 ?_
  refine v_iconst X 1 d_Sv_makeRoomForSample_5 (by decide) ?_
  refine v_iaddN X (a := sm) (b := 1) d_Sv_makeRoomForSample_6 ?_
  refine v_bipush X 8 d_Sv_makeRoomForSample_7 (by decide) ?_
  refine v_callS X (n9 := 2) (As := [.int (nI (sm + 1)), .int 8]) (rest := [.ref a]) (wc := []) (wr := [(a, .inr (3, [.long sec, .int (bI pen), .long pst, .long psi, .long acc, .int str, .int ref, .int rt, .int (nI sm), .ref b1, .ref b2, .ref b3])), (b1, .inl (κ.z 1, 8, .inr (.inl lo))), (b2, .inl (κ.z 1, 8, .inr (.inl hi))), (b3, .inl (κ.z 1, 8, .inr (.inl ti)))]) (c_J_min_IIN κ.l κ.D κ.z (sm + 1) 8 (by omega) (by omega)) m228 m50 m31 (by decide +kernel) rfl (Nat.le_of_ble_eq_true rfl) ⟨by decide, by decide⟩ ⟨by decide, by decide⟩ rfl rfl m51 d_Sv_makeRoomForSample_9 (fun v w1 hg => ?_)
  obtain ⟨rfl, rfl⟩ := hg
  show V κ 2 0 0 12 [(0, .ref a)] [.int (nI (f_J_min_IIN (sm + 1) 8)), .ref a] [(a, .inr (3, [.long sec, .int (bI pen), .long pst, .long psi, .long acc, .int str, .int ref, .int rt, .int (nI sm), .ref b1, .ref b2, .ref b3])), (b1, .inl (κ.z 1, 8, .inr (.inl lo))), (b2, .inl (κ.z 1, 8, .inr (.inl hi))), (b3, .inl (κ.z 1, 8, .inr (.inl ti)))]
  refine v_put X 0 8 (v := .int (nI (f_J_min_IIN (sm + 1) 8))) (ty := .int) ty_Sv tk_Sv n_Sv rfl rfl li_Sv (by decide) m68 rfl (by decide +kernel) rfl rfl (Nat.le_of_ble_eq_true rfl) d_Sv_makeRoomForSample_12 (ws' := [(a, .inr (3, [.long sec, .int (bI pen), .long pst, .long psi, .long acc, .int str, .int ref, .int rt, .int (nI (f_J_min_IIN (sm + 1) 8)), .ref b1, .ref b2, .ref b3])), (b1, .inl (κ.z 1, 8, .inr (.inl lo))), (b2, .inl (κ.z 1, 8, .inr (.inl hi))), (b3, .inl (κ.z 1, 8, .inr (.inl ti)))]) rfl ?_
  refine v_aload_n X 0 d_Sv_makeRoomForSample_15 rfl ?_
  refine v_get X 0 8 rfl rfl li_Sv (by decide) m68 rfl d_Sv_makeRoomForSample_16 ?_
  refine v_iconst X 1 d_Sv_makeRoomForSample_19 (by decide) ?_
  refine v_isubN X (a := (f_J_min_IIN (sm + 1) 8)) (b := 1) d_Sv_makeRoomForSample_20 (by omega) ?_
  refine v_istore_n X d_Sv_makeRoomForSample_21 rfl (by decide) (lv' := [(1, .int (nI ((f_J_min_IIN (sm + 1) 8) - 1))), (0, .ref a)]) rfl ?_
  show V κ 2 0 0 22 [(1, .int (nI ((f_J_min_IIN (sm + 1) 8) - 1 - 0))), (0, .ref a)] [] [(a, .inr (3, [.long sec, .int (bI pen), .long pst, .long psi, .long acc, .int str, .int ref, .int rt, .int (nI (f_J_min_IIN (sm + 1) 8)), .ref b1, .ref b2, .ref b3])), (b1, .inl (κ.z 1, 8, .inr (.inl ((shf lo hi ti (f_J_min_IIN (sm + 1) 8) 0).1)))), (b2, .inl (κ.z 1, 8, .inr (.inl ((shf lo hi ti (f_J_min_IIN (sm + 1) 8) 0).2.1)))), (b3, .inl (κ.z 1, 8, .inr (.inl ((shf lo hi ti (f_J_min_IIN (sm + 1) 8) 0).2.2))))]
  refine lp_makeRoom X a b1 b2 b3 sec pen pst psi acc str ref rt lo hi ti (f_J_min_IIN (sm + 1) 8) (by unfold f_J_min_IIN; split <;> omega) (by unfold f_J_min_IIN; split <;> omega)  ?_ (((f_J_min_IIN (sm + 1) 8) - 1) - 0) 0 (by omega)
  show V κ 2 0 0 74 [(1, .int (nI ((f_J_min_IIN (sm + 1) 8) - 1 - ((f_J_min_IIN (sm + 1) 8) - 1)))), (0, .ref a)] [] [(a, .inr (3, [.long sec, .int (bI pen), .long pst, .long psi, .long acc, .int str, .int ref, .int rt, .int (nI (f_J_min_IIN (sm + 1) 8)), .ref b1, .ref b2, .ref b3])), (b1, .inl (κ.z 1, 8, .inr (.inl ((shf lo hi ti (f_J_min_IIN (sm + 1) 8) ((f_J_min_IIN (sm + 1) 8) - 1)).1)))), (b2, .inl (κ.z 1, 8, .inr (.inl ((shf lo hi ti (f_J_min_IIN (sm + 1) 8) ((f_J_min_IIN (sm + 1) 8) - 1)).2.1)))), (b3, .inl (κ.z 1, 8, .inr (.inl ((shf lo hi ti (f_J_min_IIN (sm + 1) 8) ((f_J_min_IIN (sm + 1) 8) - 1)).2.2))))]
  exact v_vret X Y (by decide) (by decide) d_Sv_makeRoomForSample_74 ⟨rfl, rfl⟩

def f_Sv_accept_r1 (sm : Nat) (lo : Nat → Int64) (hi : Nat → Int64) (ti : Nat → Int64) (t : Int64) (nw : Int64) : Nat → Int64 := vp_updL (f_Sv_makeRoomForSample_r1 sm lo hi ti) 0 (t - nw)
def f_Sv_accept_r2 (psi : Int64) (sm : Nat) (lo : Nat → Int64) (hi : Nat → Int64) (ti : Nat → Int64) (y : Int64) : Nat → Int64 := vp_updL (f_Sv_makeRoomForSample_r2 sm lo hi ti) 0 (y - psi)
def f_Sv_accept_r3 (sm : Nat) (lo : Nat → Int64) (hi : Nat → Int64) (ti : Nat → Int64) (nw : Int64) : Nat → Int64 := vp_updL (f_Sv_makeRoomForSample_r3 sm lo hi ti) 0 nw
set_option maxHeartbeats 4000000 in
set_option maxRecDepth 100000 in
theorem c_Sv_accept (l : Launch) (D : va_G) (z : Nat → ClassId) (a : Nat) (b1 : Nat) (b2 : Nat) (b3 : Nat) (sec : Int64) (pen : Bool) (pst : Int64) (psi : Int64) (acc : Int64) (str : Int32) (ref : Int32) (rt : Int32) (sm : Nat) (lo : Nat → Int64) (hi : Nat → Int64) (ti : Nat → Int64) (x : Int64) (y : Int64) (t : Int64) (nw : Int64) (hs8 : sm ≤ 8) : Ctr l D z y_Sv_accept b_Sv_accept 9 none { frames := 2, cells := 0, slots := 0, locals := 42 } [.ref a, .long x, .long y, .long t, .long nw] [(a, .inr (3, [.long sec, .int (bI pen), .long pst, .long psi, .long acc, .int str, .int ref, .int rt, .int (nI sm), .ref b1, .ref b2, .ref b3])), (b1, .inl (z 1, 8, .inr (.inl lo))), (b2, .inl (z 1, 8, .inr (.inl hi))), (b3, .inl (z 1, 8, .inr (.inl ti)))] (fun v w => v = none ∧ w = [(a, .inr (3, [.long sec, .int (bI false), .long pst, .long psi, .long x, .int str, .int ref, .int rt, .int (nI (f_J_min_IIN (sm + 1) 8)), .ref b1, .ref b2, .ref b3])), (b1, .inl (z 1, 8, .inr (.inl (f_Sv_accept_r1 sm lo hi ti t nw)))), (b2, .inl (z 1, 8, .inr (.inl (f_Sv_accept_r2 psi sm lo hi ti y)))), (b3, .inl (z 1, 8, .inr (.inl (f_Sv_accept_r3 sm lo hi ti nw))))]) 0 0 := by
  refine met_V (own := R_Sv) (nm := "accept") (by decide +kernel) rfl rfl (Nat.le_of_ble_eq_true rfl) ?_
  intro κ hl hD hz X Y
  subst hl
  subst hD
  subst hz
  show V κ 9 0 0 0 [(0, .ref a), (1, .long x), (3, .long y), (5, .long t), (7, .long nw)] [] [(a, .inr (3, [.long sec, .int (bI pen), .long pst, .long psi, .long acc, .int str, .int ref, .int rt, .int (nI sm), .ref b1, .ref b2, .ref b3])), (b1, .inl (κ.z 1, 8, .inr (.inl lo))), (b2, .inl (κ.z 1, 8, .inr (.inl hi))), (b3, .inl (κ.z 1, 8, .inr (.inl ti)))]
  refine v_aload_n X 0 d_Sv_accept_0 rfl ?_
  refine v_callV X (b := a) (n9 := 0) (As := []) (rest := []) (wc := [(a, .inr (3, [.long sec, .int (bI pen), .long pst, .long psi, .long acc, .int str, .int ref, .int rt, .int (nI sm), .ref b1, .ref b2, .ref b3])), (b1, .inl (κ.z 1, 8, .inr (.inl lo))), (b2, .inl (κ.z 1, 8, .inr (.inl hi))), (b3, .inl (κ.z 1, 8, .inr (.inl ti)))]) (wr := []) (c_Sv_makeRoomForSample κ.l κ.D κ.z a b1 b2 b3 sec pen pst psi acc str ref rt sm lo hi ti (by omega)) 0 rfl rfl m225 m226 m1 m32 (by decide +kernel) rfl (Nat.le_of_ble_eq_true rfl) ⟨by decide, by decide⟩ ⟨by decide, by decide⟩ rfl rfl m227 d_Sv_accept_1 (fun v w1 hg => ?_)
  obtain ⟨rfl, rfl⟩ := hg
  show V κ 9 0 0 4 [(0, .ref a), (1, .long x), (3, .long y), (5, .long t), (7, .long nw)] [] [(a, .inr (3, [.long sec, .int (bI pen), .long pst, .long psi, .long acc, .int str, .int ref, .int rt, .int (nI (f_J_min_IIN (sm + 1) 8)), .ref b1, .ref b2, .ref b3])), (b1, .inl (κ.z 1, 8, .inr (.inl (f_Sv_makeRoomForSample_r1 sm lo hi ti)))), (b2, .inl (κ.z 1, 8, .inr (.inl (f_Sv_makeRoomForSample_r2 sm lo hi ti)))), (b3, .inl (κ.z 1, 8, .inr (.inl (f_Sv_makeRoomForSample_r3 sm lo hi ti))))]
  refine v_aload_n X 0 d_Sv_accept_4 rfl ?_
  refine v_get X 0 9 rfl rfl li_Sv (by decide) m70 rfl d_Sv_accept_5 ?_
  refine v_iconst X 0 d_Sv_accept_8 (by decide) ?_
  refine v_lload X 3 d_Sv_accept_9 rfl ?_
  refine v_lload X 4 d_Sv_accept_11 rfl ?_
  refine v_lsub X d_Sv_accept_13 ?_
  refine v_lastN X 1 1 (j := 0) (x := (t - nw)) rfl rfl (by omega) (by omega) d_Sv_accept_14 (ws' := [(a, .inr (3, [.long sec, .int (bI pen), .long pst, .long psi, .long acc, .int str, .int ref, .int rt, .int (nI (f_J_min_IIN (sm + 1) 8)), .ref b1, .ref b2, .ref b3])), (b1, .inl (κ.z 1, 8, .inr (.inl (vp_updL (f_Sv_makeRoomForSample_r1 sm lo hi ti) 0 (t - nw))))), (b2, .inl (κ.z 1, 8, .inr (.inl (f_Sv_makeRoomForSample_r2 sm lo hi ti)))), (b3, .inl (κ.z 1, 8, .inr (.inl (f_Sv_makeRoomForSample_r3 sm lo hi ti))))]) rfl ?_
  refine v_aload_n X 0 d_Sv_accept_15 rfl ?_
  refine v_get X 0 10 rfl rfl li_Sv (by decide) m71 rfl d_Sv_accept_16 ?_
  refine v_iconst X 0 d_Sv_accept_19 (by decide) ?_
  refine v_lload_n X 2 d_Sv_accept_20 rfl ?_
  refine v_aload_n X 0 d_Sv_accept_21 rfl ?_
  show V κ 9 0 0 22 [(0, .ref a), (1, .long x), (3, .long y), (5, .long t), (7, .long nw)] [.ref a, .long y, .int 0, .ref b2] [(a, .inr (3, [.long sec, .int (bI pen), .long pst, .long psi, .long acc, .int str, .int ref, .int rt, .int (nI (f_J_min_IIN (sm + 1) 8)), .ref b1, .ref b2, .ref b3])), (b1, .inl (κ.z 1, 8, .inr (.inl (vp_updL (f_Sv_makeRoomForSample_r1 sm lo hi ti) 0 (t - nw))))), (b2, .inl (κ.z 1, 8, .inr (.inl (f_Sv_makeRoomForSample_r2 sm lo hi ti)))), (b3, .inl (κ.z 1, 8, .inr (.inl (f_Sv_makeRoomForSample_r3 sm lo hi ti))))]
  refine v_get X 0 3 rfl rfl li_Sv (by decide) m60 rfl d_Sv_accept_22 ?_
  refine v_lsub X d_Sv_accept_25 ?_
  refine v_lastN X 2 1 (j := 0) (x := (y - psi)) rfl rfl (by omega) (by omega) d_Sv_accept_26 (ws' := [(a, .inr (3, [.long sec, .int (bI pen), .long pst, .long psi, .long acc, .int str, .int ref, .int rt, .int (nI (f_J_min_IIN (sm + 1) 8)), .ref b1, .ref b2, .ref b3])), (b1, .inl (κ.z 1, 8, .inr (.inl (vp_updL (f_Sv_makeRoomForSample_r1 sm lo hi ti) 0 (t - nw))))), (b2, .inl (κ.z 1, 8, .inr (.inl (vp_updL (f_Sv_makeRoomForSample_r2 sm lo hi ti) 0 (y - psi))))), (b3, .inl (κ.z 1, 8, .inr (.inl (f_Sv_makeRoomForSample_r3 sm lo hi ti))))]) rfl ?_
  refine v_aload_n X 0 d_Sv_accept_27 rfl ?_
  refine v_get X 0 11 rfl rfl li_Sv (by decide) m72 rfl d_Sv_accept_28 ?_
  refine v_iconst X 0 d_Sv_accept_31 (by decide) ?_
  refine v_lload X 4 d_Sv_accept_32 rfl ?_
  refine v_lastN X 3 1 (j := 0) (x := nw) rfl rfl (by omega) (by omega) d_Sv_accept_34 (ws' := [(a, .inr (3, [.long sec, .int (bI pen), .long pst, .long psi, .long acc, .int str, .int ref, .int rt, .int (nI (f_J_min_IIN (sm + 1) 8)), .ref b1, .ref b2, .ref b3])), (b1, .inl (κ.z 1, 8, .inr (.inl (vp_updL (f_Sv_makeRoomForSample_r1 sm lo hi ti) 0 (t - nw))))), (b2, .inl (κ.z 1, 8, .inr (.inl (vp_updL (f_Sv_makeRoomForSample_r2 sm lo hi ti) 0 (y - psi))))), (b3, .inl (κ.z 1, 8, .inr (.inl (vp_updL (f_Sv_makeRoomForSample_r3 sm lo hi ti) 0 nw))))]) rfl ?_
  refine v_aload_n X 0 d_Sv_accept_35 rfl ?_
  refine v_lload_n X 1 d_Sv_accept_36 rfl ?_
  refine v_put X 0 4 (v := .long x) (ty := .long) ty_Sv tk_Sv n_Sv rfl rfl li_Sv (by decide) m62 rfl (by decide +kernel) rfl rfl (Nat.le_of_ble_eq_true rfl) d_Sv_accept_37 (ws' := [(a, .inr (3, [.long sec, .int (bI pen), .long pst, .long psi, .long x, .int str, .int ref, .int rt, .int (nI (f_J_min_IIN (sm + 1) 8)), .ref b1, .ref b2, .ref b3])), (b1, .inl (κ.z 1, 8, .inr (.inl (vp_updL (f_Sv_makeRoomForSample_r1 sm lo hi ti) 0 (t - nw))))), (b2, .inl (κ.z 1, 8, .inr (.inl (vp_updL (f_Sv_makeRoomForSample_r2 sm lo hi ti) 0 (y - psi))))), (b3, .inl (κ.z 1, 8, .inr (.inl (vp_updL (f_Sv_makeRoomForSample_r3 sm lo hi ti) 0 nw))))]) rfl ?_
  refine v_aload_n X 0 d_Sv_accept_40 rfl ?_
  refine v_iconst X 0 d_Sv_accept_41 (by decide) ?_
  refine v_put X 0 1 (v := .int (bI false)) (ty := .boolean) ty_Sv tk_Sv n_Sv rfl rfl li_Sv (by decide) m58 rfl (by decide +kernel) (narB _) rfl (Nat.le_of_ble_eq_true rfl) d_Sv_accept_42 (ws' := [(a, .inr (3, [.long sec, .int (bI false), .long pst, .long psi, .long x, .int str, .int ref, .int rt, .int (nI (f_J_min_IIN (sm + 1) 8)), .ref b1, .ref b2, .ref b3])), (b1, .inl (κ.z 1, 8, .inr (.inl (vp_updL (f_Sv_makeRoomForSample_r1 sm lo hi ti) 0 (t - nw))))), (b2, .inl (κ.z 1, 8, .inr (.inl (vp_updL (f_Sv_makeRoomForSample_r2 sm lo hi ti) 0 (y - psi))))), (b3, .inl (κ.z 1, 8, .inr (.inl (vp_updL (f_Sv_makeRoomForSample_r3 sm lo hi ti) 0 nw))))]) rfl ?_
  exact v_vret X Y (by decide) (by decide) d_Sv_accept_45 ⟨rfl, rfl⟩

def shb (rt : Int32) (lo : Nat → Int64) (hi : Nat → Int64) (ti : Nat → Int64) (nw : Int64) (dr : Int32) : Nat → Nat
  | 0 => 0
  | j + 1 => if (f_Sv_lengthOf rt lo hi ti (shb rt lo hi ti nw dr j) nw dr) ≤ (f_Sv_lengthOf rt lo hi ti (j + 1) nw dr) then (shb rt lo hi ti nw dr j) else (j + 1)
theorem shb_le (rt : Int32) (lo : Nat → Int64) (hi : Nat → Int64) (ti : Nat → Int64) (nw : Int64) (dr : Int32) : ∀ n : Nat, shb rt lo hi ti nw dr n ≤ n
  | 0 => Nat.le_refl _
  | n + 1 => by
    have h9 := shb_le rt lo hi ti nw dr n
    unfold shb
    try dsimp only
    repeat' split
    all_goals omega
set_option maxHeartbeats 4000000 in
set_option maxRecDepth 100000 in
theorem lp_shortest {κ : VC} (X : Cx κ b_Sv_shortestSample R_Sv { frames := 4, cells := 0, slots := 0, locals := 95 } 6) (a : Nat) (b1 : Nat) (b2 : Nat) (b3 : Nat) (sec : Int64) (pen : Bool) (pst : Int64) (psi : Int64) (acc : Int64) (str : Int32) (ref : Int32) (rt : Int32) (sm : Nat) (lo : Nat → Int64) (hi : Nat → Int64) (ti : Nat → Int64) (nw : Int64) (dr : Int32) (hs1 : 1 ≤ sm) (hs8 : sm ≤ 8)  (kk : V κ 6 0 0 45 [(5, .int (nI ((sm - 1) + 1))), (4, .int (nI (shb rt lo hi ti nw dr (sm - 1)))), (0, .ref a), (1, .long nw), (3, .int dr)] [] [(a, .inr (3, [.long sec, .int (bI pen), .long pst, .long psi, .long acc, .int str, .int ref, .int rt, .int (nI sm), .ref b1, .ref b2, .ref b3])), (b1, .inl (κ.z 1, 8, .inr (.inl lo))), (b2, .inl (κ.z 1, 8, .inr (.inl hi))), (b3, .inl (κ.z 1, 8, .inr (.inl ti)))]) : ∀ (d9 j : Nat), j + d9 = sm - 1 → V κ 6 0 0 6 [(5, .int (nI (j + 1))), (4, .int (nI (shb rt lo hi ti nw dr j))), (0, .ref a), (1, .long nw), (3, .int dr)] [] [(a, .inr (3, [.long sec, .int (bI pen), .long pst, .long psi, .long acc, .int str, .int ref, .int rt, .int (nI sm), .ref b1, .ref b2, .ref b3])), (b1, .inl (κ.z 1, 8, .inr (.inl lo))), (b2, .inl (κ.z 1, 8, .inr (.inl hi))), (b3, .inl (κ.z 1, 8, .inr (.inl ti)))] := by
  intro d9
  induction d9 with
  | zero =>
    intro j hj 
    have e9 : j = sm - 1 := by omega
    rw [e9]
    show V κ 6 0 0 6 [(5, .int (nI ((sm - 1) + 1))), (4, .int (nI (shb rt lo hi ti nw dr (sm - 1)))), (0, .ref a), (1, .long nw), (3, .int dr)] [] [(a, .inr (3, [.long sec, .int (bI pen), .long pst, .long psi, .long acc, .int str, .int ref, .int rt, .int (nI sm), .ref b1, .ref b2, .ref b3])), (b1, .inl (κ.z 1, 8, .inr (.inl lo))), (b2, .inl (κ.z 1, 8, .inr (.inl hi))), (b3, .inl (κ.z 1, 8, .inr (.inl ti)))]
    refine v_iload X 0 d_Sv_shortestSample_6 rfl ?_
    refine v_aload_n X 2 d_Sv_shortestSample_8 rfl ?_
    refine v_get X 0 8 rfl rfl li_Sv (by decide) m68 rfl d_Sv_shortestSample_9 ?_
    refine v_icmpN_ge X 45 (a := ((sm - 1) + 1)) (b := sm) d_Sv_shortestSample_12 (by decide) (by omega) (by omega) (fun c12 => ?_) (fun c12 => by omega)
    exact kk
  | succ d9 ih =>
    intro j hj 
    have h8 := shb_le rt lo hi ti nw dr j
    show V κ 6 0 0 6 [(5, .int (nI (j + 1))), (4, .int (nI (shb rt lo hi ti nw dr j))), (0, .ref a), (1, .long nw), (3, .int dr)] [] [(a, .inr (3, [.long sec, .int (bI pen), .long pst, .long psi, .long acc, .int str, .int ref, .int rt, .int (nI sm), .ref b1, .ref b2, .ref b3])), (b1, .inl (κ.z 1, 8, .inr (.inl lo))), (b2, .inl (κ.z 1, 8, .inr (.inl hi))), (b3, .inl (κ.z 1, 8, .inr (.inl ti)))]
    refine v_iload X 0 d_Sv_shortestSample_6 rfl ?_
    refine v_aload_n X 2 d_Sv_shortestSample_8 rfl ?_
    refine v_get X 0 8 rfl rfl li_Sv (by decide) m68 rfl d_Sv_shortestSample_9 ?_
    refine v_icmpN_ge X 45 (a := (j + 1)) (b := sm) d_Sv_shortestSample_12 (by decide) (by omega) (by omega) (fun c12 => by omega) (fun c12 => ?_)
    refine v_aload_n X 2 d_Sv_shortestSample_15 rfl ?_
    refine v_iload X 0 d_Sv_shortestSample_16 rfl ?_
    refine v_lload_n X 3 d_Sv_shortestSample_18 rfl ?_
    refine v_iload_n X 4 d_Sv_shortestSample_19 rfl ?_
    refine v_callV X (b := a) (n9 := 3) (As := [.int (nI (j + 1)), .long nw, .int dr]) (rest := []) (wc := [(a, .inr (3, [.long sec, .int (bI pen), .long pst, .long psi, .long acc, .int str, .int ref, .int rt, .int (nI sm), .ref b1, .ref b2, .ref b3])), (b1, .inl (κ.z 1, 8, .inr (.inl lo))), (b2, .inl (κ.z 1, 8, .inr (.inl hi))), (b3, .inl (κ.z 1, 8, .inr (.inl ti)))]) (wr := []) (c_Sv_lengthOf κ.l κ.D κ.z a b1 b2 b3 sec pen pst psi acc str ref rt sm lo hi ti (j + 1) nw dr (by omega)) 0 rfl rfl m241 m242 m2 m32 (by decide +kernel) rfl (Nat.le_of_ble_eq_true rfl) ⟨by decide, by decide⟩ ⟨by decide, by decide⟩ rfl rfl m243 d_Sv_shortestSample_20 (fun v w1 hg => ?_)
    obtain ⟨rfl, rfl⟩ := hg
    show V κ 6 0 0 23 [(5, .int (nI (j + 1))), (4, .int (nI (shb rt lo hi ti nw dr j))), (0, .ref a), (1, .long nw), (3, .int dr)] [.long (f_Sv_lengthOf rt lo hi ti (j + 1) nw dr)] [(a, .inr (3, [.long sec, .int (bI pen), .long pst, .long psi, .long acc, .int str, .int ref, .int rt, .int (nI sm), .ref b1, .ref b2, .ref b3])), (b1, .inl (κ.z 1, 8, .inr (.inl lo))), (b2, .inl (κ.z 1, 8, .inr (.inl hi))), (b3, .inl (κ.z 1, 8, .inr (.inl ti)))]
    refine v_aload_n X 2 d_Sv_shortestSample_23 rfl ?_
    refine v_iload X 1 d_Sv_shortestSample_24 rfl ?_
    refine v_lload_n X 3 d_Sv_shortestSample_26 rfl ?_
    refine v_iload_n X 4 d_Sv_shortestSample_27 rfl ?_
    refine v_callV X (b := a) (n9 := 3) (As := [.int (nI (shb rt lo hi ti nw dr j)), .long nw, .int dr]) (rest := [.long (f_Sv_lengthOf rt lo hi ti (j + 1) nw dr)]) (wc := [(a, .inr (3, [.long sec, .int (bI pen), .long pst, .long psi, .long acc, .int str, .int ref, .int rt, .int (nI sm), .ref b1, .ref b2, .ref b3])), (b1, .inl (κ.z 1, 8, .inr (.inl lo))), (b2, .inl (κ.z 1, 8, .inr (.inl hi))), (b3, .inl (κ.z 1, 8, .inr (.inl ti)))]) (wr := []) (c_Sv_lengthOf κ.l κ.D κ.z a b1 b2 b3 sec pen pst psi acc str ref rt sm lo hi ti (shb rt lo hi ti nw dr j) nw dr (by omega)) 0 rfl rfl m241 m242 m2 m32 (by decide +kernel) rfl (Nat.le_of_ble_eq_true rfl) ⟨by decide, by decide⟩ ⟨by decide, by decide⟩ rfl rfl m243 d_Sv_shortestSample_28 (fun v w1 hg => ?_)
    obtain ⟨rfl, rfl⟩ := hg
    show V κ 6 0 0 31 [(5, .int (nI (j + 1))), (4, .int (nI (shb rt lo hi ti nw dr j))), (0, .ref a), (1, .long nw), (3, .int dr)] [.long (f_Sv_lengthOf rt lo hi ti (shb rt lo hi ti nw dr j) nw dr), .long (f_Sv_lengthOf rt lo hi ti (j + 1) nw dr)] [(a, .inr (3, [.long sec, .int (bI pen), .long pst, .long psi, .long acc, .int str, .int ref, .int rt, .int (nI sm), .ref b1, .ref b2, .ref b3])), (b1, .inl (κ.z 1, 8, .inr (.inl lo))), (b2, .inl (κ.z 1, 8, .inr (.inl hi))), (b3, .inl (κ.z 1, 8, .inr (.inl ti)))]
    show V κ 6 0 0 31 [(5, .int (nI (j + 1))), (4, .int (nI (shb rt lo hi ti nw dr j))), (0, .ref a), (1, .long nw), (3, .int dr)] [.long (f_Sv_lengthOf rt lo hi ti (shb rt lo hi ti nw dr j) nw dr), .long (f_Sv_lengthOf rt lo hi ti (j + 1) nw dr)] [(a, .inr (3, [.long sec, .int (bI pen), .long pst, .long psi, .long acc, .int str, .int ref, .int rt, .int (nI sm), .ref b1, .ref b2, .ref b3])), (b1, .inl (κ.z 1, 8, .inr (.inl lo))), (b2, .inl (κ.z 1, 8, .inr (.inl hi))), (b3, .inl (κ.z 1, 8, .inr (.inl ti)))]
    suffices hm31 : V κ 6 0 0 39 [(5, .int (nI (j + 1))), (4, .int (nI (if (f_Sv_lengthOf rt lo hi ti (shb rt lo hi ti nw dr j) nw dr) ≤ (f_Sv_lengthOf rt lo hi ti (j + 1) nw dr) then (shb rt lo hi ti nw dr j) else (j + 1)))), (0, .ref a), (1, .long nw), (3, .int dr)] [] [(a, .inr (3, [.long sec, .int (bI pen), .long pst, .long psi, .long acc, .int str, .int ref, .int rt, .int (nI sm), .ref b1, .ref b2, .ref b3])), (b1, .inl (κ.z 1, 8, .inr (.inl lo))), (b2, .inl (κ.z 1, 8, .inr (.inl hi))), (b3, .inl (κ.z 1, 8, .inr (.inl ti)))] by
      refine v_lcmp_ge X 39 d_Sv_shortestSample_31 d_Sv_shortestSample_32 (by decide) (fun c31 => ?_) (fun c31 => ?_)
      · skip
        have h9 := hm31; simp only [if_pos c31] at h9; first | exact h9 | (simp only [if_pos c31]; exact h9)
      · skip
        refine v_iload X 0 d_Sv_shortestSample_35 rfl ?_
        refine v_istore X d_Sv_shortestSample_37 (by decide) (lv' := [(4, .int (nI (j + 1))), (5, .int (nI (j + 1))), (0, .ref a), (1, .long nw), (3, .int dr)]) rfl ?_
        refine v_lv [1, 0, 2, 3, 4] rfl ?_
        have h9 := hm31; simp only [if_neg c31] at h9; first | exact h9 | (simp only [if_neg c31]; exact h9)
    refine v_iinc X 0 d_Sv_shortestSample_39 (x := nI (j + 1)) rfl (v := nI ((j + 1) + 1)) (nI_1 _) (by decide) (lv' := [(5, .int (nI ((j + 1) + 1))), (4, .int (nI (if (f_Sv_lengthOf rt lo hi ti (shb rt lo hi ti nw dr j) nw dr) ≤ (f_Sv_lengthOf rt lo hi ti (j + 1) nw dr) then (shb rt lo hi ti nw dr j) else (j + 1)))), (0, .ref a), (1, .long nw), (3, .int dr)]) rfl ?_
    refine v_goto X 6 d_Sv_shortestSample_42 (by decide) ?_
    exact v_eq rfl (by rfl) rfl (by rfl) (ih (j + 1) (by omega))

set_option maxHeartbeats 4000000 in
set_option maxRecDepth 100000 in
theorem c_Sv_shortestSample (l : Launch) (D : va_G) (z : Nat → ClassId) (a : Nat) (b1 : Nat) (b2 : Nat) (b3 : Nat) (sec : Int64) (pen : Bool) (pst : Int64) (psi : Int64) (acc : Int64) (str : Int32) (ref : Int32) (rt : Int32) (sm : Nat) (lo : Nat → Int64) (hi : Nat → Int64) (ti : Nat → Int64) (nw : Int64) (dr : Int32) (hs1 : 1 ≤ sm) (hs8 : sm ≤ 8) : Ctr l D z y_Sv_shortestSample b_Sv_shortestSample 6 (some .int) { frames := 4, cells := 0, slots := 0, locals := 95 } [.ref a, .long nw, .int dr] [(a, .inr (3, [.long sec, .int (bI pen), .long pst, .long psi, .long acc, .int str, .int ref, .int rt, .int (nI sm), .ref b1, .ref b2, .ref b3])), (b1, .inl (z 1, 8, .inr (.inl lo))), (b2, .inl (z 1, 8, .inr (.inl hi))), (b3, .inl (z 1, 8, .inr (.inl ti)))] (fun v w => v = some (.int (nI (shb rt lo hi ti nw dr (sm - 1)))) ∧ w = [(a, .inr (3, [.long sec, .int (bI pen), .long pst, .long psi, .long acc, .int str, .int ref, .int rt, .int (nI sm), .ref b1, .ref b2, .ref b3])), (b1, .inl (z 1, 8, .inr (.inl lo))), (b2, .inl (z 1, 8, .inr (.inl hi))), (b3, .inl (z 1, 8, .inr (.inl ti)))]) 0 0 := by
  refine met_V (own := R_Sv) (nm := "shortestSample") (by decide +kernel) rfl rfl (Nat.le_of_ble_eq_true rfl) ?_
  intro κ hl hD hz X Y
  subst hl
  subst hD
  subst hz
  show V κ 6 0 0 0 [(0, .ref a), (1, .long nw), (3, .int dr)] [] [(a, .inr (3, [.long sec, .int (bI pen), .long pst, .long psi, .long acc, .int str, .int ref, .int rt, .int (nI sm), .ref b1, .ref b2, .ref b3])), (b1, .inl (κ.z 1, 8, .inr (.inl lo))), (b2, .inl (κ.z 1, 8, .inr (.inl hi))), (b3, .inl (κ.z 1, 8, .inr (.inl ti)))]
  refine v_iconst X 0 d_Sv_shortestSample_0 (by decide) ?_
  refine v_istore X d_Sv_shortestSample_1 (by decide) (lv' := [(4, .int 0), (0, .ref a), (1, .long nw), (3, .int dr)]) rfl ?_
  refine v_iconst X 1 d_Sv_shortestSample_3 (by decide) ?_
  refine v_istore X d_Sv_shortestSample_4 (by decide) (lv' := [(5, .int 1), (4, .int 0), (0, .ref a), (1, .long nw), (3, .int dr)]) rfl ?_
  show V κ 6 0 0 6 [(5, .int (nI (0 + 1))), (4, .int (nI (shb rt lo hi ti nw dr 0))), (0, .ref a), (1, .long nw), (3, .int dr)] [] [(a, .inr (3, [.long sec, .int (bI pen), .long pst, .long psi, .long acc, .int str, .int ref, .int rt, .int (nI sm), .ref b1, .ref b2, .ref b3])), (b1, .inl (κ.z 1, 8, .inr (.inl lo))), (b2, .inl (κ.z 1, 8, .inr (.inl hi))), (b3, .inl (κ.z 1, 8, .inr (.inl ti)))]
  refine lp_shortest X a b1 b2 b3 sec pen pst psi acc str ref rt sm lo hi ti nw dr (by omega) (by omega)  ?_ ((sm - 1) - 0) 0 (by omega)
  show V κ 6 0 0 45 [(5, .int (nI ((sm - 1) + 1))), (4, .int (nI (shb rt lo hi ti nw dr (sm - 1)))), (0, .ref a), (1, .long nw), (3, .int dr)] [] [(a, .inr (3, [.long sec, .int (bI pen), .long pst, .long psi, .long acc, .int str, .int ref, .int rt, .int (nI sm), .ref b1, .ref b2, .ref b3])), (b1, .inl (κ.z 1, 8, .inr (.inl lo))), (b2, .inl (κ.z 1, 8, .inr (.inl hi))), (b3, .inl (κ.z 1, 8, .inr (.inl ti)))]
  refine v_iload X 1 d_Sv_shortestSample_45 rfl ?_
  exact v_iret X Y (by decide) (by decide) d_Sv_shortestSample_47 ⟨rfl, rfl⟩
