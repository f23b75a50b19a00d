set_option maxHeartbeats 4000000 in
set_option maxRecDepth 100000 in
theorem c_Sd_init (l : Launch) (D : va_G) (z : Nat → ClassId) (d : Nat)  : Ctr l D z y_Sd_init b_Sd_init 1 none { frames := 1, cells := 0, slots := 0, locals := 20 } [.ref d] [(d, .inr (2, [.int (bI false), .long 0, .long 0, .long 0, .long 0, .long 0, .long 0, .int 0, .int 0]))] (fun v w => v = none ∧ w = [(d, .inr (2, [.int (bI false), .long 0, .long 0, .long 0, .long 0, .long 0, .long 0, .int 0, .int (16 : Int32)]))]) 0 0 := by
  refine met_V (own := R_Sd) (nm := "<init>") (by decide +kernel) rfl rfl (Nat.le_of_ble_eq_true rfl) ?_
  intro κ hl hD hz X Y
  subst hl
  subst hD
  subst hz
  show V κ 1 0 0 0 [(0, .ref d)] [] [(d, .inr (2, [.int (bI false), .long 0, .long 0, .long 0, .long 0, .long 0, .long 0, .int 0, .int 0]))]
  refine v_aload_n X 0 d_Sd_init_0 rfl ?_
  refine v_objInit X m126 m43 m44 d_Sd_init_1 (by decide) (Nat.le_of_ble_eq_true rfl) ?_
  show V κ 1 0 0 4 [(0, .ref d)] [] [(d, .inr (2, [.int (bI false), .long 0, .long 0, .long 0, .long 0, .long 0, .long 0, .int 0, .int 0]))]
  refine v_aload_n X 0 d_Sd_init_4 rfl ?_
  refine v_bipush X 16 d_Sd_init_5 (by decide) ?_
  refine v_put X 0 8 (v := .int (16 : Int32)) (ty := .int) ty_Sd tk_Sd n_Sd rfl rfl li_Sd (by decide) m139 rfl (by decide +kernel) rfl rfl (Nat.le_of_ble_eq_true rfl) d_Sd_init_7 (ws' := [(d, .inr (2, [.int (bI false), .long 0, .long 0, .long 0, .long 0, .long 0, .long 0, .int 0, .int (16 : Int32)]))]) rfl ?_
  exact v_vret X Y (by decide) (by decide) d_Sd_init_10 ⟨rfl, rfl⟩

def f_Sd_correctionAt (sin : Int64) (sta : Int64) (tg : Int64) (nw : Int64) : Int64 := if (f_J_floorDiv (nw - sin) 16) < (f_J_abs (tg - sta)) then if tg ≤ sta then sta - (f_J_floorDiv (nw - sin) 16) else sta + (f_J_floorDiv (nw - sin) 16) else tg
set_option maxHeartbeats 4000000 in
set_option maxRecDepth 100000 in
theorem c_Sd_correctionAt (l : Launch) (D : va_G) (z : Nat → ClassId) (d : Nat) (st : Bool) (sin : Int64) (sta : Int64) (tg : Int64) (er : Int64) (vl : Int64) (vh : Int64) (sb : Int32) (os : Int32) (nw : Int64)  : Ctr l D z y_Sd_correctionAt b_Sd_correctionAt 5 (some .long) { frames := 1, cells := 0, slots := 0, locals := 25 } [.ref d, .long nw] [(d, .inr (2, [.int (bI st), .long sin, .long sta, .long tg, .long er, .long vl, .long vh, .int sb, .int os]))] (fun v w => v = some (.long (f_Sd_correctionAt sin sta tg nw)) ∧ w = [(d, .inr (2, [.int (bI st), .long sin, .long sta, .long tg, .long er, .long vl, .long vh, .int sb, .int os]))]) 0 0 := by
  refine met_V (own := R_Sd) (nm := "correctionAt") (by decide +kernel) rfl rfl (Nat.le_of_ble_eq_true rfl) ?_
  intro κ hl hD hz X Y
  subst hl
  subst hD
  subst hz
  show V κ 5 0 0 0 [(0, .ref d), (1, .long nw)] [] [(d, .inr (2, [.int (bI st), .long sin, .long sta, .long tg, .long er, .long vl, .long vh, .int sb, .int os]))]
  refine v_lload_n X 1 d_Sd_correctionAt_0 rfl ?_
  refine v_aload_n X 0 d_Sd_correctionAt_1 rfl ?_
  refine v_get X 0 1 rfl rfl li_Sd (by decide) m129 rfl d_Sd_correctionAt_2 ?_
  refine v_lsub X d_Sd_correctionAt_5 ?_
  refine v_ldc2 X (v := 16) m342 d_Sd_correctionAt_6 ?_
  refine v_callS X (n9 := 2) (As := [.long (nw - sin), .long 16]) (rest := []) (wc := []) (wr := [(d, .inr (2, [.int (bI st), .long sin, .long sta, .long tg, .long er, .long vl, .long vh, .int sb, .int os]))]) (c_J_floorDiv κ.l κ.D κ.z (nw - sin) 16 (by decide)) m343 m252 m31 (by decide +kernel) rfl (Nat.le_of_ble_eq_true rfl) ⟨by decide, by decide⟩ ⟨by decide, by decide⟩ rfl rfl m253 d_Sd_correctionAt_9 (fun v w1 hg => ?_)
  obtain ⟨rfl, rfl⟩ := hg
  show V κ 5 0 0 12 [(0, .ref d), (1, .long nw)] [.long (f_J_floorDiv (nw - sin) 16)] [(d, .inr (2, [.int (bI st), .long sin, .long sta, .long tg, .long er, .long vl, .long vh, .int sb, .int os]))]
  refine v_lstore_n X d_Sd_correctionAt_12 rfl (by decide) (lv' := [(3, .long (f_J_floorDiv (nw - sin) 16)), (0, .ref d), (1, .long nw)]) rfl ?_
  refine v_aload_n X 1 d_Sd_correctionAt_13 rfl ?_
  refine v_get X 0 3 rfl rfl li_Sd (by decide) m131 rfl d_Sd_correctionAt_14 ?_
  refine v_aload_n X 1 d_Sd_correctionAt_17 rfl ?_
  refine v_get X 0 2 rfl rfl li_Sd (by decide) m130 rfl d_Sd_correctionAt_18 ?_
  refine v_lsub X d_Sd_correctionAt_21 ?_
  refine v_callS X (n9 := 1) (As := [.long (tg - sta)]) (rest := []) (wc := []) (wr := [(d, .inr (2, [.int (bI st), .long sin, .long sta, .long tg, .long er, .long vl, .long vh, .int sb, .int os]))]) (c_J_abs κ.l κ.D κ.z (tg - sta) ) m344 m325 m31 (by decide +kernel) rfl (Nat.le_of_ble_eq_true rfl) ⟨by decide, by decide⟩ ⟨by decide, by decide⟩ rfl rfl m326 d_Sd_correctionAt_22 (fun v w1 hg => ?_)
  obtain ⟨rfl, rfl⟩ := hg
  show V κ 5 0 0 25 [(3, .long (f_J_floorDiv (nw - sin) 16)), (0, .ref d), (1, .long nw)] [.long (f_J_abs (tg - sta))] [(d, .inr (2, [.int (bI st), .long sin, .long sta, .long tg, .long er, .long vl, .long vh, .int sb, .int os]))]
  refine v_lload_n X 0 d_Sd_correctionAt_25 rfl ?_
  show V κ 5 0 0 26 [(3, .long (f_J_floorDiv (nw - sin) 16)), (0, .ref d), (1, .long nw)] [.long (f_J_floorDiv (nw - sin) 16), .long (f_J_abs (tg - sta))] [(d, .inr (2, [.int (bI st), .long sin, .long sta, .long tg, .long er, .long vl, .long vh, .int sb, .int os]))]
  refine v_lcmp_gt X 35 d_Sd_correctionAt_26 d_Sd_correctionAt_27 (by decide) (fun c26 => ?_) (fun c26 => ?_)
  · skip
    refine v_aload_n X 1 d_Sd_correctionAt_35 rfl ?_
    refine v_get X 0 3 rfl rfl li_Sd (by decide) m131 rfl d_Sd_correctionAt_36 ?_
    refine v_aload_n X 1 d_Sd_correctionAt_39 rfl ?_
    refine v_get X 0 2 rfl rfl li_Sd (by decide) m130 rfl d_Sd_correctionAt_40 ?_
    suffices hm43 : V κ 5 0 0 62 [(3, .long (f_J_floorDiv (nw - sin) 16)), (0, .ref d), (1, .long nw)] [.long (if tg ≤ sta then sta - (f_J_floorDiv (nw - sin) 16) else sta + (f_J_floorDiv (nw - sin) 16))] [(d, .inr (2, [.int (bI st), .long sin, .long sta, .long tg, .long er, .long vl, .long vh, .int sb, .int os]))] by
      refine v_lcmp_le X 56 d_Sd_correctionAt_43 d_Sd_correctionAt_44 (by decide) (fun c43 => ?_) (fun c43 => ?_)
      · skip
        refine v_aload_n X 1 d_Sd_correctionAt_56 rfl ?_
        refine v_get X 0 2 rfl rfl li_Sd (by decide) m130 rfl d_Sd_correctionAt_57 ?_
        refine v_lload_n X 0 d_Sd_correctionAt_60 rfl ?_
        refine v_lsub X d_Sd_correctionAt_61 ?_
        have h9 := hm43; simp only [if_pos c43] at h9; first | exact h9 | (simp only [if_pos c43]; exact h9)
      · skip
        refine v_aload_n X 1 d_Sd_correctionAt_47 rfl ?_
        refine v_get X 0 2 rfl rfl li_Sd (by decide) m130 rfl d_Sd_correctionAt_48 ?_
        refine v_lload_n X 0 d_Sd_correctionAt_51 rfl ?_
        refine v_ladd X d_Sd_correctionAt_52 ?_
        refine v_goto X 62 d_Sd_correctionAt_53 (by decide) ?_
        have h9 := hm43; simp only [if_neg c43] at h9; first | exact h9 | (simp only [if_neg c43]; exact h9)
    exact v_lret X Y (by decide) (by decide) d_Sd_correctionAt_62 ⟨by simp only [f_Sd_correctionAt, if_pos c26] <;> rfl, rfl⟩
  · skip
    refine v_aload_n X 1 d_Sd_correctionAt_30 rfl ?_
    refine v_get X 0 3 rfl rfl li_Sd (by decide) m131 rfl d_Sd_correctionAt_31 ?_
    exact v_lret X Y (by decide) (by decide) d_Sd_correctionAt_34 ⟨by simp only [f_Sd_correctionAt, if_neg c26] <;> rfl, rfl⟩

def f_Sd_follow_startCorrection (st : Bool) (sin : Int64) (sta : Int64) (tg : Int64) (x : Int64) (nw : Int64) : Int64 := if st = true then f_Sd_correctionAt sin sta tg nw else x
set_option maxHeartbeats 4000000 in
set_option maxRecDepth 100000 in
theorem c_Sd_follow (l : Launch) (D : va_G) (z : Nat → ClassId) (d : Nat) (st : Bool) (sin : Int64) (sta : Int64) (tg : Int64) (er : Int64) (vl : Int64) (vh : Int64) (sb : Int32) (os : Int32) (x : Int64) (nw : Int64)  : Ctr l D z y_Sd_follow b_Sd_follow 5 none { frames := 2, cells := 0, slots := 0, locals := 49 } [.ref d, .long x, .long nw] [(d, .inr (2, [.int (bI st), .long sin, .long sta, .long tg, .long er, .long vl, .long vh, .int sb, .int os]))] (fun v w => v = none ∧ w = [(d, .inr (2, [.int (bI true), .long nw, .long (f_Sd_follow_startCorrection st sin sta tg x nw), .long x, .long er, .long vl, .long vh, .int sb, .int os]))]) 0 0 := by
  refine met_V (own := R_Sd) (nm := "follow") (by decide +kernel) rfl rfl (Nat.le_of_ble_eq_true rfl) ?_
  intro κ hl hD hz X Y
  subst hl
  subst hD
  subst hz
  show V κ 5 0 0 0 [(0, .ref d), (1, .long x), (3, .long nw)] [] [(d, .inr (2, [.int (bI st), .long sin, .long sta, .long tg, .long er, .long vl, .long vh, .int sb, .int os]))]
  refine v_aload_n X 0 d_Sd_follow_0 rfl ?_
  refine v_aload_n X 0 d_Sd_follow_1 rfl ?_
  refine v_get X 0 0 rfl rfl li_Sd (by decide) m127 rfl d_Sd_follow_2 ?_
  suffices hm5 : V κ 5 0 0 17 [(0, .ref d), (1, .long x), (3, .long nw)] [.long (if st = true then f_Sd_correctionAt sin sta tg nw else x), .ref d] [(d, .inr (2, [.int (bI st), .long sin, .long sta, .long tg, .long er, .long vl, .long vh, .int sb, .int os]))] by
    refine v_ifB_eq X 16 (t := st) d_Sd_follow_5 (by decide) (fun c5 => ?_) (fun c5 => ?_)
    · skip
      refine v_lload_n X 1 d_Sd_follow_16 rfl ?_
      have h9 := hm5; simp only [if_neg c5] at h9; first | exact h9 | (simp only [if_neg c5]; exact h9)
    · skip
      refine v_aload_n X 0 d_Sd_follow_8 rfl ?_
      refine v_lload_n X 2 d_Sd_follow_9 rfl ?_
      refine v_callV X (b := d) (n9 := 1) (As := [.long nw]) (rest := [.ref d]) (wc := [(d, .inr (2, [.int (bI st), .long sin, .long sta, .long tg, .long er, .long vl, .long vh, .int sb, .int os]))]) (wr := []) (c_Sd_correctionAt κ.l κ.D κ.z d st sin sta tg er vl vh sb os nw ) 0 rfl rfl m338 m339 m340 m35 (by decide +kernel) rfl (Nat.le_of_ble_eq_true rfl) ⟨by decide, by decide⟩ ⟨by decide, by decide⟩ rfl rfl m341 d_Sd_follow_10 (fun v w1 hg => ?_)
      obtain ⟨rfl, rfl⟩ := hg
      show V κ 5 0 0 13 [(0, .ref d), (1, .long x), (3, .long nw)] [.long (f_Sd_correctionAt sin sta tg nw), .ref d] [(d, .inr (2, [.int (bI st), .long sin, .long sta, .long tg, .long er, .long vl, .long vh, .int sb, .int os]))]
      refine v_goto X 17 d_Sd_follow_13 (by decide) ?_
      have h9 := hm5; simp only [if_pos c5] at h9; first | exact h9 | (simp only [if_pos c5]; exact h9)
  refine v_put X 0 2 (v := .long (if st = true then f_Sd_correctionAt sin sta tg nw else x)) (ty := .long) ty_Sd tk_Sd n_Sd rfl rfl li_Sd (by decide) m130 rfl (by decide +kernel) rfl rfl (Nat.le_of_ble_eq_true rfl) d_Sd_follow_17 (ws' := [(d, .inr (2, [.int (bI st), .long sin, .long (if st = true then f_Sd_correctionAt sin sta tg nw else x), .long tg, .long er, .long vl, .long vh, .int sb, .int os]))]) rfl ?_
  refine v_aload_n X 0 d_Sd_follow_20 rfl ?_
  refine v_lload_n X 1 d_Sd_follow_21 rfl ?_
  refine v_put X 0 3 (v := .long x) (ty := .long) ty_Sd tk_Sd n_Sd rfl rfl li_Sd (by decide) m131 rfl (by decide +kernel) rfl rfl (Nat.le_of_ble_eq_true rfl) d_Sd_follow_22 (ws' := [(d, .inr (2, [.int (bI st), .long sin, .long (if st = true then f_Sd_correctionAt sin sta tg nw else x), .long x, .long er, .long vl, .long vh, .int sb, .int os]))]) rfl ?_
  refine v_aload_n X 0 d_Sd_follow_25 rfl ?_
  refine v_lload_n X 2 d_Sd_follow_26 rfl ?_
  refine v_put X 0 1 (v := .long nw) (ty := .long) ty_Sd tk_Sd n_Sd rfl rfl li_Sd (by decide) m129 rfl (by decide +kernel) rfl rfl (Nat.le_of_ble_eq_true rfl) d_Sd_follow_27 (ws' := [(d, .inr (2, [.int (bI st), .long nw, .long (if st = true then f_Sd_correctionAt sin sta tg nw else x), .long x, .long er, .long vl, .long vh, .int sb, .int os]))]) rfl ?_
  refine v_aload_n X 0 d_Sd_follow_30 rfl ?_
  refine v_iconst X 1 d_Sd_follow_31 (by decide) ?_
  refine v_put X 0 0 (v := .int (bI true)) (ty := .boolean) ty_Sd tk_Sd n_Sd rfl rfl li_Sd (by decide) m127 rfl (by decide +kernel) (narB _) rfl (Nat.le_of_ble_eq_true rfl) d_Sd_follow_32 (ws' := [(d, .inr (2, [.int (bI true), .long nw, .long (if st = true then f_Sd_correctionAt sin sta tg nw else x), .long x, .long er, .long vl, .long vh, .int sb, .int os]))]) rfl ?_
  show V κ 5 0 0 35 [(0, .ref d), (1, .long x), (3, .long nw)] [] [(d, .inr (2, [.int (bI true), .long nw, .long (if st = true then f_Sd_correctionAt sin sta tg nw else x), .long x, .long er, .long vl, .long vh, .int sb, .int os]))]
  exact v_vret X Y (by decide) (by decide) d_Sd_follow_35 ⟨rfl, rfl⟩

def f_Sd_wrongAtMost (sin : Int64) (sta : Int64) (tg : Int64) (er : Int64) (nw : Int64) (dr : Int32) : Int64 := (er + (f_M_growth (nw - sin) dr)) + (f_J_abs (tg - (f_Sd_correctionAt sin sta tg nw)))
set_option maxHeartbeats 4000000 in
set_option maxRecDepth 100000 in
theorem c_Sd_wrongAtMost (l : Launch) (D : va_G) (z : Nat → ClassId) (d : Nat) (st : Bool) (sin : Int64) (sta : Int64) (tg : Int64) (er : Int64) (vl : Int64) (vh : Int64) (sb : Int32) (os : Int32) (nw : Int64) (dr : Int32)  : Ctr l D z y_Sd_wrongAtMost b_Sd_wrongAtMost 4 (some .long) { frames := 2, cells := 0, slots := 0, locals := 49 } [.ref d, .long nw, .int dr] [(d, .inr (2, [.int (bI st), .long sin, .long sta, .long tg, .long er, .long vl, .long vh, .int sb, .int os]))] (fun v w => v = some (.long (f_Sd_wrongAtMost sin sta tg er nw dr)) ∧ w = [(d, .inr (2, [.int (bI st), .long sin, .long sta, .long tg, .long er, .long vl, .long vh, .int sb, .int os]))]) 0 0 := by
  refine met_V (own := R_Sd) (nm := "wrongAtMost") (by decide +kernel) rfl rfl (Nat.le_of_ble_eq_true rfl) ?_
  intro κ hl hD hz X Y
  subst hl
  subst hD
  subst hz
  show V κ 4 0 0 0 [(0, .ref d), (1, .long nw), (3, .int dr)] [] [(d, .inr (2, [.int (bI st), .long sin, .long sta, .long tg, .long er, .long vl, .long vh, .int sb, .int os]))]
  refine v_aload_n X 0 d_Sd_wrongAtMost_0 rfl ?_
  refine v_get X 0 4 rfl rfl li_Sd (by decide) m132 rfl d_Sd_wrongAtMost_1 ?_
  refine v_lload_n X 1 d_Sd_wrongAtMost_4 rfl ?_
  refine v_aload_n X 0 d_Sd_wrongAtMost_5 rfl ?_
  refine v_get X 0 1 rfl rfl li_Sd (by decide) m129 rfl d_Sd_wrongAtMost_6 ?_
  refine v_lsub X d_Sd_wrongAtMost_9 ?_
  refine v_iload_n X 2 d_Sd_wrongAtMost_10 rfl ?_
  refine v_callSN X (host := R_M) (n9 := 2) (As := [.long (nw - sin), .int dr]) (rest := [.long er]) (wc := []) (wr := [(d, .inr (2, [.int (bI st), .long sin, .long sta, .long tg, .long er, .long vl, .long vh, .int sb, .int os]))]) (c_M_growth κ.l κ.D κ.z (nw - sin) dr ) (List.mem_of_getElem? (i := 5) rfl) m248 m30 (by decide +kernel) rfl (Nat.le_of_ble_eq_true rfl) ⟨by decide, by decide⟩ ⟨by decide, by decide⟩ rfl rfl m249 d_Sd_wrongAtMost_11 (fun v w1 hg => ?_)
  obtain ⟨rfl, rfl⟩ := hg
  show V κ 4 0 0 14 [(0, .ref d), (1, .long nw), (3, .int dr)] [.long (f_M_growth (nw - sin) dr), .long er] [(d, .inr (2, [.int (bI st), .long sin, .long sta, .long tg, .long er, .long vl, .long vh, .int sb, .int os]))]
  refine v_ladd X d_Sd_wrongAtMost_14 ?_
  refine v_aload_n X 0 d_Sd_wrongAtMost_15 rfl ?_
  refine v_get X 0 3 rfl rfl li_Sd (by decide) m131 rfl d_Sd_wrongAtMost_16 ?_
  refine v_aload_n X 0 d_Sd_wrongAtMost_19 rfl ?_
  refine v_lload_n X 1 d_Sd_wrongAtMost_20 rfl ?_
  refine v_callV X (b := d) (n9 := 1) (As := [.long nw]) (rest := [.long tg, .long (er + (f_M_growth (nw - sin) dr))]) (wc := [(d, .inr (2, [.int (bI st), .long sin, .long sta, .long tg, .long er, .long vl, .long vh, .int sb, .int os]))]) (wr := []) (c_Sd_correctionAt κ.l κ.D κ.z d st sin sta tg er vl vh sb os nw ) 0 rfl rfl m338 m339 m340 m35 (by decide +kernel) rfl (Nat.le_of_ble_eq_true rfl) ⟨by decide, by decide⟩ ⟨by decide, by decide⟩ rfl rfl m341 d_Sd_wrongAtMost_21 (fun v w1 hg => ?_)
  obtain ⟨rfl, rfl⟩ := hg
  show V κ 4 0 0 24 [(0, .ref d), (1, .long nw), (3, .int dr)] [.long (f_Sd_correctionAt sin sta tg nw), .long tg, .long (er + (f_M_growth (nw - sin) dr))] [(d, .inr (2, [.int (bI st), .long sin, .long sta, .long tg, .long er, .long vl, .long vh, .int sb, .int os]))]
  show V κ 4 0 0 24 [(0, .ref d), (1, .long nw), (3, .int dr)] [.long (f_Sd_correctionAt sin sta tg nw), .long tg, .long (er + (f_M_growth (nw - sin) dr))] [(d, .inr (2, [.int (bI st), .long sin, .long sta, .long tg, .long er, .long vl, .long vh, .int sb, .int os]))]
  refine v_lsub X d_Sd_wrongAtMost_24 ?_
  refine v_callS X (n9 := 1) (As := [.long (tg - (f_Sd_correctionAt sin sta tg nw))]) (rest := [.long (er + (f_M_growth (nw - sin) dr))]) (wc := []) (wr := [(d, .inr (2, [.int (bI st), .long sin, .long sta, .long tg, .long er, .long vl, .long vh, .int sb, .int os]))]) (c_J_abs κ.l κ.D κ.z (tg - (f_Sd_correctionAt sin sta tg nw)) ) m344 m325 m31 (by decide +kernel) rfl (Nat.le_of_ble_eq_true rfl) ⟨by decide, by decide⟩ ⟨by decide, by decide⟩ rfl rfl m326 d_Sd_wrongAtMost_25 (fun v w1 hg => ?_)
  obtain ⟨rfl, rfl⟩ := hg
  show V κ 4 0 0 28 [(0, .ref d), (1, .long nw), (3, .int dr)] [.long (f_J_abs (tg - (f_Sd_correctionAt sin sta tg nw))), .long (er + (f_M_growth (nw - sin) dr))] [(d, .inr (2, [.int (bI st), .long sin, .long sta, .long tg, .long er, .long vl, .long vh, .int sb, .int os]))]
  refine v_ladd X d_Sd_wrongAtMost_28 ?_
  exact v_lret X Y (by decide) (by decide) d_Sd_wrongAtMost_29 ⟨rfl, rfl⟩

set_option maxHeartbeats 4000000 in
set_option maxRecDepth 100000 in
theorem c_Sd_remember (l : Launch) (D : va_G) (z : Nat → ClassId) (d : Nat) (st : Bool) (sin : Int64) (sta : Int64) (tg : Int64) (er : Int64) (vl : Int64) (vh : Int64) (sb : Int32) (os : Int32) (e : Nat) (e1 : Nat) (e2 : Nat) (e3 : Nat) (cnt : Nat) (hl : Int64) (hh : Int64) (nu : Nat → Nat) (lo : Nat → Int64) (hi : Nat → Int64) (ss : Int32) (hc6 : cnt ≤ 6) : Ctr l D z y_Sd_remember b_Sd_remember 3 none { frames := 1, cells := 0, slots := 0, locals := 23 } [.ref d, .ref e, .int ss] [(d, .inr (2, [.int (bI st), .long sin, .long sta, .long tg, .long er, .long vl, .long vh, .int sb, .int os])), (e, .inr (0, [.int (nI cnt), .ref e1, .ref e2, .ref e3, .long hl, .long hh])), (e1, .inl (z 0, 6, .inl (aN nu))), (e2, .inl (z 1, 6, .inr (.inl lo))), (e3, .inl (z 1, 6, .inr (.inl hi)))] (fun v w => v = none ∧ w = [(d, .inr (2, [.int (bI st), .long sin, .long sta, .long tg, .long (f_J_max_JJ (tg - hl) (hh - tg)), .long hl, .long hh, .int (btS nu cnt), .int (ss + 1)])), (e, .inr (0, [.int (nI cnt), .ref e1, .ref e2, .ref e3, .long hl, .long hh])), (e1, .inl (z 0, 6, .inl (aN nu))), (e2, .inl (z 1, 6, .inr (.inl lo))), (e3, .inl (z 1, 6, .inr (.inl hi)))]) 0 0 := by
  refine met_V (own := R_Sd) (nm := "remember") (by decide +kernel) rfl rfl (Nat.le_of_ble_eq_true rfl) ?_
  intro κ hl hD hz X Y
  subst hl
  subst hD
  subst hz
  show V κ 3 0 0 0 [(0, .ref d), (1, .ref e), (2, .int ss)] [] [(d, .inr (2, [.int (bI st), .long sin, .long sta, .long tg, .long er, .long vl, .long vh, .int sb, .int os])), (e, .inr (0, [.int (nI cnt), .ref e1, .ref e2, .ref e3, .long hl, .long hh])), (e1, .inl (κ.z 0, 6, .inl (aN nu))), (e2, .inl (κ.z 1, 6, .inr (.inl lo))), (e3, .inl (κ.z 1, 6, .inr (.inl hi)))]
  refine v_aload_n X 0 d_Sd_remember_0 rfl ?_
  refine v_aload_n X 1 d_Sd_remember_1 rfl ?_
  refine v_get X 1 4 rfl rfl li_E (by decide) m111 rfl d_Sd_remember_2 ?_
  refine v_put X 0 5 (v := .long hl) (ty := .long) ty_Sd tk_Sd n_Sd rfl rfl li_Sd (by decide) m133 rfl (by decide +kernel) rfl rfl (Nat.le_of_ble_eq_true rfl) d_Sd_remember_5 (ws' := [(d, .inr (2, [.int (bI st), .long sin, .long sta, .long tg, .long er, .long hl, .long vh, .int sb, .int os])), (e, .inr (0, [.int (nI cnt), .ref e1, .ref e2, .ref e3, .long hl, .long hh])), (e1, .inl (κ.z 0, 6, .inl (aN nu))), (e2, .inl (κ.z 1, 6, .inr (.inl lo))), (e3, .inl (κ.z 1, 6, .inr (.inl hi)))]) rfl ?_
  refine v_aload_n X 0 d_Sd_remember_8 rfl ?_
  refine v_aload_n X 1 d_Sd_remember_9 rfl ?_
  refine v_get X 1 5 rfl rfl li_E (by decide) m113 rfl d_Sd_remember_10 ?_
  refine v_put X 0 6 (v := .long hh) (ty := .long) ty_Sd tk_Sd n_Sd rfl rfl li_Sd (by decide) m135 rfl (by decide +kernel) rfl rfl (Nat.le_of_ble_eq_true rfl) d_Sd_remember_13 (ws' := [(d, .inr (2, [.int (bI st), .long sin, .long sta, .long tg, .long er, .long hl, .long hh, .int sb, .int os])), (e, .inr (0, [.int (nI cnt), .ref e1, .ref e2, .ref e3, .long hl, .long hh])), (e1, .inl (κ.z 0, 6, .inl (aN nu))), (e2, .inl (κ.z 1, 6, .inr (.inl lo))), (e3, .inl (κ.z 1, 6, .inr (.inl hi)))]) rfl ?_
  refine v_aload_n X 0 d_Sd_remember_16 rfl ?_
  refine v_aload_n X 0 d_Sd_remember_17 rfl ?_
  refine v_get X 0 3 rfl rfl li_Sd (by decide) m131 rfl d_Sd_remember_18 ?_
  refine v_aload_n X 0 d_Sd_remember_21 rfl ?_
  refine v_get X 0 5 rfl rfl li_Sd (by decide) m133 rfl d_Sd_remember_22 ?_
  refine v_lsub X d_Sd_remember_25 ?_
  show V κ 3 0 0 26 [(0, .ref d), (1, .ref e), (2, .int ss)] [.long (tg - hl), .ref d] [(d, .inr (2, [.int (bI st), .long sin, .long sta, .long tg, .long er, .long hl, .long hh, .int sb, .int os])), (e, .inr (0, [.int (nI cnt), .ref e1, .ref e2, .ref e3, .long hl, .long hh])), (e1, .inl (κ.z 0, 6, .inl (aN nu))), (e2, .inl (κ.z 1, 6, .inr (.inl lo))), (e3, .inl (κ.z 1, 6, .inr (.inl hi)))]
  refine v_aload_n X 0 d_Sd_remember_26 rfl ?_
  refine v_get X 0 6 rfl rfl li_Sd (by decide) m135 rfl d_Sd_remember_27 ?_
  refine v_aload_n X 0 d_Sd_remember_30 rfl ?_
  refine v_get X 0 3 rfl rfl li_Sd (by decide) m131 rfl d_Sd_remember_31 ?_
  refine v_lsub X d_Sd_remember_34 ?_
  refine v_callS X (n9 := 2) (As := [.long (tg - hl), .long (hh - tg)]) (rest := [.ref d]) (wc := []) (wr := [(d, .inr (2, [.int (bI st), .long sin, .long sta, .long tg, .long er, .long hl, .long hh, .int sb, .int os])), (e, .inr (0, [.int (nI cnt), .ref e1, .ref e2, .ref e3, .long hl, .long hh])), (e1, .inl (κ.z 0, 6, .inl (aN nu))), (e2, .inl (κ.z 1, 6, .inr (.inl lo))), (e3, .inl (κ.z 1, 6, .inr (.inl hi)))]) (c_J_max_JJ κ.l κ.D κ.z (tg - hl) (hh - tg) ) m352 m199 m31 (by decide +kernel) rfl (Nat.le_of_ble_eq_true rfl) ⟨by decide, by decide⟩ ⟨by decide, by decide⟩ rfl rfl m200 d_Sd_remember_35 (fun v w1 hg => ?_)
  obtain ⟨rfl, rfl⟩ := hg
  show V κ 3 0 0 38 [(0, .ref d), (1, .ref e), (2, .int ss)] [.long (f_J_max_JJ (tg - hl) (hh - tg)), .ref d] [(d, .inr (2, [.int (bI st), .long sin, .long sta, .long tg, .long er, .long hl, .long hh, .int sb, .int os])), (e, .inr (0, [.int (nI cnt), .ref e1, .ref e2, .ref e3, .long hl, .long hh])), (e1, .inl (κ.z 0, 6, .inl (aN nu))), (e2, .inl (κ.z 1, 6, .inr (.inl lo))), (e3, .inl (κ.z 1, 6, .inr (.inl hi)))]
  refine v_put X 0 4 (v := .long (f_J_max_JJ (tg - hl) (hh - tg))) (ty := .long) ty_Sd tk_Sd n_Sd rfl rfl li_Sd (by decide) m132 rfl (by decide +kernel) rfl rfl (Nat.le_of_ble_eq_true rfl) d_Sd_remember_38 (ws' := [(d, .inr (2, [.int (bI st), .long sin, .long sta, .long tg, .long (f_J_max_JJ (tg - hl) (hh - tg)), .long hl, .long hh, .int sb, .int os])), (e, .inr (0, [.int (nI cnt), .ref e1, .ref e2, .ref e3, .long hl, .long hh])), (e1, .inl (κ.z 0, 6, .inl (aN nu))), (e2, .inl (κ.z 1, 6, .inr (.inl lo))), (e3, .inl (κ.z 1, 6, .inr (.inl hi)))]) rfl ?_
  refine v_aload_n X 0 d_Sd_remember_41 rfl ?_
  refine v_aload_n X 1 d_Sd_remember_42 rfl ?_
  refine v_perm (perm_idx (α := Nat × va_E) (ws := [(d, .inr (2, [.int (bI st), .long sin, .long sta, .long tg, .long (f_J_max_JJ (tg - hl) (hh - tg)), .long hl, .long hh, .int sb, .int os])), (e, .inr (0, [.int (nI cnt), .ref e1, .ref e2, .ref e3, .long hl, .long hh])), (e1, .inl (κ.z 0, 6, .inl (aN nu))), (e2, .inl (κ.z 1, 6, .inr (.inl lo))), (e3, .inl (κ.z 1, 6, .inr (.inl hi)))]) (ws' := [(e, .inr (0, [.int (nI cnt), .ref e1, .ref e2, .ref e3, .long hl, .long hh])), (e1, .inl (κ.z 0, 6, .inl (aN nu))), (e2, .inl (κ.z 1, 6, .inr (.inl lo))), (e3, .inl (κ.z 1, 6, .inr (.inl hi))), (d, .inr (2, [.int (bI st), .long sin, .long sta, .long tg, .long (f_J_max_JJ (tg - hl) (hh - tg)), .long hl, .long hh, .int sb, .int os]))]) [1, 2, 3, 4, 0] rfl rfl) ?_
  refine v_callV X (b := e) (n9 := 0) (As := []) (rest := [.ref d]) (wc := [(e, .inr (0, [.int (nI cnt), .ref e1, .ref e2, .ref e3, .long hl, .long hh])), (e1, .inl (κ.z 0, 6, .inl (aN nu))), (e2, .inl (κ.z 1, 6, .inr (.inl lo))), (e3, .inl (κ.z 1, 6, .inr (.inl hi)))]) (wr := [(d, .inr (2, [.int (bI st), .long sin, .long sta, .long tg, .long (f_J_max_JJ (tg - hl) (hh - tg)), .long hl, .long hh, .int sb, .int os]))]) (c_E_bits κ.l κ.D κ.z e e1 e2 e3 cnt hl hh nu lo hi (by omega)) 0 rfl rfl m353 m354 m355 m34 (by decide +kernel) rfl (Nat.le_of_ble_eq_true rfl) ⟨by decide, by decide⟩ ⟨by decide, by decide⟩ rfl rfl m356 d_Sd_remember_43 (fun v w1 hg => ?_)
  obtain ⟨rfl, rfl⟩ := hg
  refine v_perm (perm_idx (α := Nat × va_E) (ws := [(e, .inr (0, [.int (nI cnt), .ref e1, .ref e2, .ref e3, .long hl, .long hh])), (e1, .inl (κ.z 0, 6, .inl (aN nu))), (e2, .inl (κ.z 1, 6, .inr (.inl lo))), (e3, .inl (κ.z 1, 6, .inr (.inl hi))), (d, .inr (2, [.int (bI st), .long sin, .long sta, .long tg, .long (f_J_max_JJ (tg - hl) (hh - tg)), .long hl, .long hh, .int sb, .int os]))]) (ws' := [(d, .inr (2, [.int (bI st), .long sin, .long sta, .long tg, .long (f_J_max_JJ (tg - hl) (hh - tg)), .long hl, .long hh, .int sb, .int os])), (e, .inr (0, [.int (nI cnt), .ref e1, .ref e2, .ref e3, .long hl, .long hh])), (e1, .inl (κ.z 0, 6, .inl (aN nu))), (e2, .inl (κ.z 1, 6, .inr (.inl lo))), (e3, .inl (κ.z 1, 6, .inr (.inl hi)))]) [4, 0, 1, 2, 3] rfl rfl) ?_
  show V κ 3 0 0 46 [(0, .ref d), (1, .ref e), (2, .int ss)] [.int (btS nu cnt), .ref d] [(d, .inr (2, [.int (bI st), .long sin, .long sta, .long tg, .long (f_J_max_JJ (tg - hl) (hh - tg)), .long hl, .long hh, .int sb, .int os])), (e, .inr (0, [.int (nI cnt), .ref e1, .ref e2, .ref e3, .long hl, .long hh])), (e1, .inl (κ.z 0, 6, .inl (aN nu))), (e2, .inl (κ.z 1, 6, .inr (.inl lo))), (e3, .inl (κ.z 1, 6, .inr (.inl hi)))]
  refine v_put X 0 7 (v := .int (btS nu cnt)) (ty := .int) ty_Sd tk_Sd n_Sd rfl rfl li_Sd (by decide) m137 rfl (by decide +kernel) rfl rfl (Nat.le_of_ble_eq_true rfl) d_Sd_remember_46 (ws' := [(d, .inr (2, [.int (bI st), .long sin, .long sta, .long tg, .long (f_J_max_JJ (tg - hl) (hh - tg)), .long hl, .long hh, .int (btS nu cnt), .int os])), (e, .inr (0, [.int (nI cnt), .ref e1, .ref e2, .ref e3, .long hl, .long hh])), (e1, .inl (κ.z 0, 6, .inl (aN nu))), (e2, .inl (κ.z 1, 6, .inr (.inl lo))), (e3, .inl (κ.z 1, 6, .inr (.inl hi)))]) rfl ?_
  refine v_aload_n X 0 d_Sd_remember_49 rfl ?_
  refine v_iload_n X 2 d_Sd_remember_50 rfl ?_
  refine v_iconst X 1 d_Sd_remember_51 (by decide) ?_
  refine v_iadd X d_Sd_remember_52 ?_
  show V κ 3 0 0 53 [(0, .ref d), (1, .ref e), (2, .int ss)] [.int (ss + 1), .ref d] [(d, .inr (2, [.int (bI st), .long sin, .long sta, .long tg, .long (f_J_max_JJ (tg - hl) (hh - tg)), .long hl, .long hh, .int (btS nu cnt), .int os])), (e, .inr (0, [.int (nI cnt), .ref e1, .ref e2, .ref e3, .long hl, .long hh])), (e1, .inl (κ.z 0, 6, .inl (aN nu))), (e2, .inl (κ.z 1, 6, .inr (.inl lo))), (e3, .inl (κ.z 1, 6, .inr (.inl hi)))]
  refine v_put X 0 8 (v := .int (ss + 1)) (ty := .int) ty_Sd tk_Sd n_Sd rfl rfl li_Sd (by decide) m139 rfl (by decide +kernel) rfl rfl (Nat.le_of_ble_eq_true rfl) d_Sd_remember_53 (ws' := [(d, .inr (2, [.int (bI st), .long sin, .long sta, .long tg, .long (f_J_max_JJ (tg - hl) (hh - tg)), .long hl, .long hh, .int (btS nu cnt), .int (ss + 1)])), (e, .inr (0, [.int (nI cnt), .ref e1, .ref e2, .ref e3, .long hl, .long hh])), (e1, .inl (κ.z 0, 6, .inl (aN nu))), (e2, .inl (κ.z 1, 6, .inr (.inl lo))), (e3, .inl (κ.z 1, 6, .inr (.inl hi)))]) rfl ?_
  exact v_vret X Y (by decide) (by decide) d_Sd_remember_56 ⟨rfl, rfl⟩

set_option maxHeartbeats 4000000 in
set_option maxRecDepth 100000 in
theorem c_Le_init (l : Launch) (D : va_G) (z : Nat → ClassId) (r : Nat)  : Ctr l D z y_Le_init b_Le_init 1 none { frames := 1, cells := 0, slots := 0, locals := 20 } [.ref r] [(r, .inr (1, [.int (bI false), .int 0, .long 0]))] (fun v w => v = none ∧ w = [(r, .inr (1, [.int (bI false), .int 0, .long 0]))]) 0 0 := by
  refine met_V (own := R_Le) (nm := "<init>") (by decide +kernel) rfl rfl (Nat.le_of_ble_eq_true rfl) ?_
  intro κ hl hD hz X Y
  subst hl
  subst hD
  subst hz
  show V κ 1 0 0 0 [(0, .ref r)] [] [(r, .inr (1, [.int (bI false), .int 0, .long 0]))]
  refine v_aload_n X 0 d_Le_init_0 rfl ?_
  refine v_objInit X m90 m43 m44 d_Le_init_1 (by decide) (Nat.le_of_ble_eq_true rfl) ?_
  show V κ 1 0 0 4 [(0, .ref r)] [] [(r, .inr (1, [.int (bI false), .int 0, .long 0]))]
  exact v_vret X Y (by decide) (by decide) d_Le_init_4 ⟨rfl, rfl⟩

set_option maxHeartbeats 4000000 in
set_option maxRecDepth 100000 in
theorem c_Le_give (l : Launch) (D : va_G) (z : Nat → ClassId) (r : Nat) (gr : Bool) (ow : Int32) (un : Int64) (x : Int32) (y : Int64)  : Ctr l D z y_Le_give b_Le_give 4 none { frames := 0, cells := 0, slots := 0, locals := 0 } [.ref r, .int x, .long y] [(r, .inr (1, [.int (bI gr), .int ow, .long un]))] (fun v w => v = none ∧ w = [(r, .inr (1, [.int (bI true), .int x, .long y]))]) 0 0 := by
  refine met_V (own := R_Le) (nm := "give") (by decide +kernel) rfl rfl (Nat.le_of_ble_eq_true rfl) ?_
  intro κ hl hD hz X Y
  subst hl
  subst hD
  subst hz
  show V κ 4 0 0 0 [(0, .ref r), (1, .int x), (2, .long y)] [] [(r, .inr (1, [.int (bI gr), .int ow, .long un]))]
  refine v_aload_n X 0 d_Le_give_0 rfl ?_
  refine v_iconst X 1 d_Le_give_1 (by decide) ?_
  refine v_put X 0 0 (v := .int (bI true)) (ty := .boolean) ty_Le tk_Le n_Le rfl rfl li_Le (by decide) m91 rfl (by decide +kernel) (narB _) rfl (Nat.le_of_ble_eq_true rfl) d_Le_give_2 (ws' := [(r, .inr (1, [.int (bI true), .int ow, .long un]))]) rfl ?_
  refine v_aload_n X 0 d_Le_give_5 rfl ?_
  refine v_iload_n X 1 d_Le_give_6 rfl ?_
  refine v_put X 0 1 (v := .int x) (ty := .int) ty_Le tk_Le n_Le rfl rfl li_Le (by decide) m93 rfl (by decide +kernel) rfl rfl (Nat.le_of_ble_eq_true rfl) d_Le_give_7 (ws' := [(r, .inr (1, [.int (bI true), .int x, .long un]))]) rfl ?_
  refine v_aload_n X 0 d_Le_give_10 rfl ?_
  refine v_lload_n X 2 d_Le_give_11 rfl ?_
  refine v_put X 0 2 (v := .long y) (ty := .long) ty_Le tk_Le n_Le rfl rfl li_Le (by decide) m95 rfl (by decide +kernel) rfl rfl (Nat.le_of_ble_eq_true rfl) d_Le_give_12 (ws' := [(r, .inr (1, [.int (bI true), .int x, .long y]))]) rfl ?_
  exact v_vret X Y (by decide) (by decide) d_Le_give_15 ⟨rfl, rfl⟩
