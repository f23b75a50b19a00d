def f_M_advance (x : Int32) : Bool := if x < 0 then false else (if x ≤ 1000000 then true else false)
def f_M_advance_now (nw : Int64) (x : Int32) : Int64 := if x < 0 then nw else if x ≤ 1000000 then nw + x.toInt64 else nw
set_option maxHeartbeats 4000000 in
set_option maxRecDepth 100000 in
theorem c_M_advance (l : Launch) (D : va_G) (z : Nat → ClassId) (o : Nat) (sa : Nat) (la : Nat) (e : Nat) (d : Nat) (dr : Int32) (sf : Int32) (nw : Int64) (ls : Int64) (x : Int32)  : Ctr l D z y_M_advance b_M_advance 2 (some .boolean) { frames := 0, cells := 0, slots := 0, locals := 0 } [.ref o, .int x] [(o, .inr (4, [.ref sa, .ref la, .ref e, .ref d, .int dr, .int sf, .long nw, .long ls]))] (fun v w => v = some (.int (bI (f_M_advance x))) ∧ w = [(o, .inr (4, [.ref sa, .ref la, .ref e, .ref d, .int dr, .int sf, .long (f_M_advance_now nw x), .long ls]))]) 0 0 := by
  refine met_V (own := R_M) (nm := "advance") (by decide +kernel) rfl rfl (Nat.le_of_ble_eq_true rfl) ?_
  intro κ hl hD hz X Y
  subst hl
  subst hD
  subst hz
  show V κ 2 0 0 0 [(0, .ref o), (1, .int x)] [] [(o, .inr (4, [.ref sa, .ref la, .ref e, .ref d, .int dr, .int sf, .long nw, .long ls]))]
  refine v_iload_n X 1 d_M_advance_0 rfl ?_
  refine v_if_lt X 10 d_M_advance_1 (by decide) (fun c1 => ?_) (fun c1 => ?_)
  · skip
    refine v_iconst X 0 d_M_advance_10 (by decide) ?_
    exact v_zret X Y (by decide) (by decide) d_M_advance_11 rfl ⟨by simp only [f_M_advance, f_M_advance_now, if_pos c1] <;> rfl, by simp only [f_M_advance, f_M_advance_now, if_pos c1] <;> rfl⟩
  · skip
    refine v_iload_n X 1 d_M_advance_4 rfl ?_
    refine v_ldc X (v := 1000000) m170 d_M_advance_5 ?_
    refine v_icmp_le X 12 d_M_advance_7 (by decide) (fun c7 => ?_) (fun c7 => ?_)
    · skip
      refine v_aload_n X 0 d_M_advance_12 rfl ?_
      refine v_dup X d_M_advance_13 rfl ?_
      refine v_get X 0 6 rfl rfl li_M (by decide) m156 rfl d_M_advance_14 ?_
      refine v_iload_n X 1 d_M_advance_17 rfl ?_
      refine v_i2l X d_M_advance_18 ?_
      refine v_ladd X d_M_advance_19 ?_
      refine v_put X 0 6 (v := .long (nw + x.toInt64)) (ty := .long) ty_M tk_M n_M rfl rfl li_M (by decide) m156 rfl (by decide +kernel) rfl rfl (Nat.le_of_ble_eq_true rfl) d_M_advance_20 (ws' := [(o, .inr (4, [.ref sa, .ref la, .ref e, .ref d, .int dr, .int sf, .long (nw + x.toInt64), .long ls]))]) rfl ?_
      refine v_iconst X 1 d_M_advance_23 (by decide) ?_
      exact v_zret X Y (by decide) (by decide) d_M_advance_24 rfl ⟨by simp only [f_M_advance, f_M_advance_now, if_neg c1, if_pos c7] <;> rfl, by simp only [f_M_advance, f_M_advance_now, if_neg c1, if_pos c7] <;> rfl⟩
    · skip
      refine v_iconst X 0 d_M_advance_10 (by decide) ?_
      exact v_zret X Y (by decide) (by decide) d_M_advance_11 rfl ⟨by simp only [f_M_advance, f_M_advance_now, if_neg c1, if_neg c7] <;> rfl, by simp only [f_M_advance, f_M_advance_now, if_neg c1, if_neg c7] <;> rfl⟩

set_option maxHeartbeats 4000000 in
set_option maxRecDepth 100000 in
theorem c_M_hardware (l : Launch) (D : va_G) (z : Nat → ClassId) (o : Nat) (sa : Nat) (la : Nat) (e : Nat) (d : Nat) (dr : Int32) (sf : Int32) (nw : Int64) (ls : Int64)  : Ctr l D z y_M_hardware b_M_hardware 1 (some .long) { frames := 0, cells := 0, slots := 0, locals := 0 } [.ref o] [(o, .inr (4, [.ref sa, .ref la, .ref e, .ref d, .int dr, .int sf, .long nw, .long ls]))] (fun v w => v = some (.long nw) ∧ w = [(o, .inr (4, [.ref sa, .ref la, .ref e, .ref d, .int dr, .int sf, .long nw, .long ls]))]) 0 0 := by
  refine met_V (own := R_M) (nm := "hardware") (by decide +kernel) rfl rfl (Nat.le_of_ble_eq_true rfl) ?_
  intro κ hl hD hz X Y
  subst hl
  subst hD
  subst hz
  show V κ 1 0 0 0 [(0, .ref o)] [] [(o, .inr (4, [.ref sa, .ref la, .ref e, .ref d, .int dr, .int sf, .long nw, .long ls]))]
  refine v_aload_n X 0 d_M_hardware_0 rfl ?_
  refine v_get X 0 6 rfl rfl li_M (by decide) m156 rfl d_M_hardware_1 ?_
  exact v_lret X Y (by decide) (by decide) d_M_hardware_4 ⟨rfl, rfl⟩

set_option maxHeartbeats 4000000 in
set_option maxRecDepth 100000 in
theorem c_M_survivors (l : Launch) (D : va_G) (z : Nat → ClassId) (o : Nat) (sa : Nat) (la : Nat) (e : Nat) (d : Nat) (dr : Int32) (sf : Int32) (nw : Int64) (ls : Int64) (st : Bool) (sin : Int64) (sta : Int64) (tg : Int64) (er : Int64) (vl : Int64) (vh : Int64) (sb : Int32) (os : Int32)  : Ctr l D z y_M_survivors b_M_survivors 1 (some .int) { frames := 0, cells := 0, slots := 0, locals := 0 } [.ref o] [(o, .inr (4, [.ref sa, .ref la, .ref e, .ref d, .int dr, .int sf, .long nw, .long ls])), (d, .inr (2, [.int (bI st), .long sin, .long sta, .long tg, .long er, .long vl, .long vh, .int sb, .int os]))] (fun v w => v = some (.int sb) ∧ w = [(o, .inr (4, [.ref sa, .ref la, .ref e, .ref d, .int dr, .int sf, .long nw, .long ls])), (d, .inr (2, [.int (bI st), .long sin, .long sta, .long tg, .long er, .long vl, .long vh, .int sb, .int os]))]) 0 0 := by
  refine met_V (own := R_M) (nm := "survivors") (by decide +kernel) rfl rfl (Nat.le_of_ble_eq_true rfl) ?_
  intro κ hl hD hz X Y
  subst hl
  subst hD
  subst hz
  show V κ 1 0 0 0 [(0, .ref o)] [] [(o, .inr (4, [.ref sa, .ref la, .ref e, .ref d, .int dr, .int sf, .long nw, .long ls])), (d, .inr (2, [.int (bI st), .long sin, .long sta, .long tg, .long er, .long vl, .long vh, .int sb, .int os]))]
  refine v_aload_n X 0 d_M_survivors_0 rfl ?_
  refine v_get X 0 3 rfl rfl li_M (by decide) m153 rfl d_M_survivors_1 ?_
  refine v_get X 1 7 rfl rfl li_Sd (by decide) m138 rfl d_M_survivors_4 ?_
  exact v_iret X Y (by decide) (by decide) d_M_survivors_7 ⟨rfl, rfl⟩

set_option maxHeartbeats 4000000 in
set_option maxRecDepth 100000 in
theorem c_M_stratum (l : Launch) (D : va_G) (z : Nat → ClassId) (o : Nat) (sa : Nat) (la : Nat) (e : Nat) (d : Nat) (dr : Int32) (sf : Int32) (nw : Int64) (ls : Int64) (st : Bool) (sin : Int64) (sta : Int64) (tg : Int64) (er : Int64) (vl : Int64) (vh : Int64) (sb : Int32) (os : Int32)  : Ctr l D z y_M_stratum b_M_stratum 1 (some .int) { frames := 0, cells := 0, slots := 0, locals := 0 } [.ref o] [(o, .inr (4, [.ref sa, .ref la, .ref e, .ref d, .int dr, .int sf, .long nw, .long ls])), (d, .inr (2, [.int (bI st), .long sin, .long sta, .long tg, .long er, .long vl, .long vh, .int sb, .int os]))] (fun v w => v = some (.int os) ∧ w = [(o, .inr (4, [.ref sa, .ref la, .ref e, .ref d, .int dr, .int sf, .long nw, .long ls])), (d, .inr (2, [.int (bI st), .long sin, .long sta, .long tg, .long er, .long vl, .long vh, .int sb, .int os]))]) 0 0 := by
  refine met_V (own := R_M) (nm := "stratum") (by decide +kernel) rfl rfl (Nat.le_of_ble_eq_true rfl) ?_
  intro κ hl hD hz X Y
  subst hl
  subst hD
  subst hz
  show V κ 1 0 0 0 [(0, .ref o)] [] [(o, .inr (4, [.ref sa, .ref la, .ref e, .ref d, .int dr, .int sf, .long nw, .long ls])), (d, .inr (2, [.int (bI st), .long sin, .long sta, .long tg, .long er, .long vl, .long vh, .int sb, .int os]))]
  refine v_aload_n X 0 d_M_stratum_0 rfl ?_
  refine v_get X 0 3 rfl rfl li_M (by decide) m153 rfl d_M_stratum_1 ?_
  refine v_get X 1 8 rfl rfl li_Sd (by decide) m140 rfl d_M_stratum_4 ?_
  exact v_iret X Y (by decide) (by decide) d_M_stratum_7 ⟨rfl, rfl⟩

def f_M_time (nw : Int64) (st : Bool) (sin : Int64) (sta : Int64) (tg : Int64) : Int64 := if st = true then nw + (f_Sd_correctionAt sin sta tg nw) else (-4611686018427387904)
set_option maxHeartbeats 4000000 in
set_option maxRecDepth 100000 in
theorem c_M_time (l : Launch) (D : va_G) (z : Nat → ClassId) (o : Nat) (sa : Nat) (la : Nat) (e : Nat) (d : Nat) (dr : Int32) (sf : Int32) (nw : Int64) (ls : Int64) (st : Bool) (sin : Int64) (sta : Int64) (tg : Int64) (er : Int64) (vl : Int64) (vh : Int64) (sb : Int32) (os : Int32)  : Ctr l D z y_M_time b_M_time 1 (some .long) { frames := 2, cells := 0, slots := 0, locals := 49 } [.ref o] [(o, .inr (4, [.ref sa, .ref la, .ref e, .ref d, .int dr, .int sf, .long nw, .long ls])), (d, .inr (2, [.int (bI st), .long sin, .long sta, .long tg, .long er, .long vl, .long vh, .int sb, .int os]))] (fun v w => v = some (.long (f_M_time nw st sin sta tg)) ∧ w = [(o, .inr (4, [.ref sa, .ref la, .ref e, .ref d, .int dr, .int sf, .long nw, .long ls])), (d, .inr (2, [.int (bI st), .long sin, .long sta, .long tg, .long er, .long vl, .long vh, .int sb, .int os]))]) 0 0 := by
  refine met_V (own := R_M) (nm := "time") (by decide +kernel) rfl rfl (Nat.le_of_ble_eq_true rfl) ?_
  intro κ hl hD hz X Y
  subst hl
  subst hD
  subst hz
  show V κ 1 0 0 0 [(0, .ref o)] [] [(o, .inr (4, [.ref sa, .ref la, .ref e, .ref d, .int dr, .int sf, .long nw, .long ls])), (d, .inr (2, [.int (bI st), .long sin, .long sta, .long tg, .long er, .long vl, .long vh, .int sb, .int os]))]
  refine v_aload_n X 0 d_M_time_0 rfl ?_
  refine v_get X 0 3 rfl rfl li_M (by decide) m153 rfl d_M_time_1 ?_
  refine v_get X 1 0 rfl rfl li_Sd (by decide) m128 rfl d_M_time_4 ?_
  refine v_ifB_ne X 14 (t := st) d_M_time_7 (by decide) (fun c7 => ?_) (fun c7 => ?_)
  · skip
    refine v_aload_n X 0 d_M_time_14 rfl ?_
    refine v_get X 0 6 rfl rfl li_M (by decide) m156 rfl d_M_time_15 ?_
    refine v_aload_n X 0 d_M_time_18 rfl ?_
    refine v_get X 0 3 rfl rfl li_M (by decide) m153 rfl d_M_time_19 ?_
    refine v_aload_n X 0 d_M_time_22 rfl ?_
    refine v_get X 0 6 rfl rfl li_M (by decide) m156 rfl d_M_time_23 ?_
    refine v_perm (perm_idx (α := Nat × va_E) (ws := [(o, .inr (4, [.ref sa, .ref la, .ref e, .ref d, .int dr, .int sf, .long nw, .long ls])), (d, .inr (2, [.int (bI st), .long sin, .long sta, .long tg, .long er, .long vl, .long vh, .int sb, .int os]))]) (ws' := [(d, .inr (2, [.int (bI st), .long sin, .long sta, .long tg, .long er, .long vl, .long vh, .int sb, .int os])), (o, .inr (4, [.ref sa, .ref la, .ref e, .ref d, .int dr, .int sf, .long nw, .long ls]))]) [1, 0] rfl rfl) ?_
    refine v_callV X (b := d) (n9 := 1) (As := [.long nw]) (rest := [.long nw]) (wc := [(d, .inr (2, [.int (bI st), .long sin, .long sta, .long tg, .long er, .long vl, .long vh, .int sb, .int os]))]) (wr := [(o, .inr (4, [.ref sa, .ref la, .ref e, .ref d, .int dr, .int sf, .long nw, .long ls]))]) (c_Sd_correctionAt κ.l κ.D κ.z d st sin sta tg er vl vh sb os nw ) 0 rfl rfl m373 m339 m340 m35 (by decide +kernel) rfl (Nat.le_of_ble_eq_true rfl) ⟨by decide, by decide⟩ ⟨by decide, by decide⟩ rfl rfl m341 d_M_time_26 (fun v w1 hg => ?_)
    obtain ⟨rfl, rfl⟩ := hg
    refine v_perm (perm_idx (α := Nat × va_E) (ws := [(d, .inr (2, [.int (bI st), .long sin, .long sta, .long tg, .long er, .long vl, .long vh, .int sb, .int os])), (o, .inr (4, [.ref sa, .ref la, .ref e, .ref d, .int dr, .int sf, .long nw, .long ls]))]) (ws' := [(o, .inr (4, [.ref sa, .ref la, .ref e, .ref d, .int dr, .int sf, .long nw, .long ls])), (d, .inr (2, [.int (bI st), .long sin, .long sta, .long tg, .long er, .long vl, .long vh, .int sb, .int os]))]) [1, 0] rfl rfl) ?_
    show V κ 1 0 0 29 [(0, .ref o)] [.long (f_Sd_correctionAt sin sta tg nw), .long nw] [(o, .inr (4, [.ref sa, .ref la, .ref e, .ref d, .int dr, .int sf, .long nw, .long ls])), (d, .inr (2, [.int (bI st), .long sin, .long sta, .long tg, .long er, .long vl, .long vh, .int sb, .int os]))]
    refine v_ladd X d_M_time_29 ?_
    exact v_lret X Y (by decide) (by decide) d_M_time_30 ⟨by simp only [f_M_time, if_pos c7] <;> rfl, rfl⟩
  · skip
    refine v_ldc2 X (v := (-4611686018427387904)) m197 d_M_time_10 ?_
    exact v_lret X Y (by decide) (by decide) d_M_time_13 ⟨by simp only [f_M_time, if_neg c7] <;> rfl, rfl⟩

def f_M_bound (dr : Int32) (nw : Int64) (st : Bool) (sin : Int64) (sta : Int64) (tg : Int64) (er : Int64) : Int64 := if st = true then f_Sd_wrongAtMost sin sta tg er nw dr else (-4611686018427387904)
set_option maxHeartbeats 4000000 in
set_option maxRecDepth 100000 in
theorem c_M_bound (l : Launch) (D : va_G) (z : Nat → ClassId) (o : Nat) (sa : Nat) (la : Nat) (e : Nat) (d : Nat) (dr : Int32) (sf : Int32) (nw : Int64) (ls : Int64) (st : Bool) (sin : Int64) (sta : Int64) (tg : Int64) (er : Int64) (vl : Int64) (vh : Int64) (sb : Int32) (os : Int32)  : Ctr l D z y_M_bound b_M_bound 1 (some .long) { frames := 3, cells := 0, slots := 0, locals := 72 } [.ref o] [(o, .inr (4, [.ref sa, .ref la, .ref e, .ref d, .int dr, .int sf, .long nw, .long ls])), (d, .inr (2, [.int (bI st), .long sin, .long sta, .long tg, .long er, .long vl, .long vh, .int sb, .int os]))] (fun v w => v = some (.long (f_M_bound dr nw st sin sta tg er)) ∧ w = [(o, .inr (4, [.ref sa, .ref la, .ref e, .ref d, .int dr, .int sf, .long nw, .long ls])), (d, .inr (2, [.int (bI st), .long sin, .long sta, .long tg, .long er, .long vl, .long vh, .int sb, .int os]))]) 0 0 := by
  refine met_V (own := R_M) (nm := "bound") (by decide +kernel) rfl rfl (Nat.le_of_ble_eq_true rfl) ?_
  intro κ hl hD hz X Y
  subst hl
  subst hD
  subst hz
  show V κ 1 0 0 0 [(0, .ref o)] [] [(o, .inr (4, [.ref sa, .ref la, .ref e, .ref d, .int dr, .int sf, .long nw, .long ls])), (d, .inr (2, [.int (bI st), .long sin, .long sta, .long tg, .long er, .long vl, .long vh, .int sb, .int os]))]
  refine v_aload_n X 0 d_M_bound_0 rfl ?_
  refine v_get X 0 3 rfl rfl li_M (by decide) m153 rfl d_M_bound_1 ?_
  refine v_get X 1 0 rfl rfl li_Sd (by decide) m128 rfl d_M_bound_4 ?_
  refine v_ifB_ne X 14 (t := st) d_M_bound_7 (by decide) (fun c7 => ?_) (fun c7 => ?_)
  · skip
    refine v_aload_n X 0 d_M_bound_14 rfl ?_
    refine v_get X 0 3 rfl rfl li_M (by decide) m153 rfl d_M_bound_15 ?_
    refine v_aload_n X 0 d_M_bound_18 rfl ?_
    refine v_get X 0 6 rfl rfl li_M (by decide) m156 rfl d_M_bound_19 ?_
    refine v_aload_n X 0 d_M_bound_22 rfl ?_
    refine v_get X 0 4 rfl rfl li_M (by decide) m154 rfl d_M_bound_23 ?_
    refine v_perm (perm_idx (α := Nat × va_E) (ws := [(o, .inr (4, [.ref sa, .ref la, .ref e, .ref d, .int dr, .int sf, .long nw, .long ls])), (d, .inr (2, [.int (bI st), .long sin, .long sta, .long tg, .long er, .long vl, .long vh, .int sb, .int os]))]) (ws' := [(d, .inr (2, [.int (bI st), .long sin, .long sta, .long tg, .long er, .long vl, .long vh, .int sb, .int os])), (o, .inr (4, [.ref sa, .ref la, .ref e, .ref d, .int dr, .int sf, .long nw, .long ls]))]) [1, 0] rfl rfl) ?_
    refine v_callV X (b := d) (n9 := 2) (As := [.long nw, .int dr]) (rest := []) (wc := [(d, .inr (2, [.int (bI st), .long sin, .long sta, .long tg, .long er, .long vl, .long vh, .int sb, .int os]))]) (wr := [(o, .inr (4, [.ref sa, .ref la, .ref e, .ref d, .int dr, .int sf, .long nw, .long ls]))]) (c_Sd_wrongAtMost κ.l κ.D κ.z d st sin sta tg er vl vh sb os nw dr ) 0 rfl rfl m378 m379 m380 m35 (by decide +kernel) rfl (Nat.le_of_ble_eq_true rfl) ⟨by decide, by decide⟩ ⟨by decide, by decide⟩ rfl rfl m381 d_M_bound_26 (fun v w1 hg => ?_)
    obtain ⟨rfl, rfl⟩ := hg
    refine v_perm (perm_idx (α := Nat × va_E) (ws := [(d, .inr (2, [.int (bI st), .long sin, .long sta, .long tg, .long er, .long vl, .long vh, .int sb, .int os])), (o, .inr (4, [.ref sa, .ref la, .ref e, .ref d, .int dr, .int sf, .long nw, .long ls]))]) (ws' := [(o, .inr (4, [.ref sa, .ref la, .ref e, .ref d, .int dr, .int sf, .long nw, .long ls])), (d, .inr (2, [.int (bI st), .long sin, .long sta, .long tg, .long er, .long vl, .long vh, .int sb, .int os]))]) [1, 0] rfl rfl) ?_
    show V κ 1 0 0 29 [(0, .ref o)] [.long (f_Sd_wrongAtMost sin sta tg er nw dr)] [(o, .inr (4, [.ref sa, .ref la, .ref e, .ref d, .int dr, .int sf, .long nw, .long ls])), (d, .inr (2, [.int (bI st), .long sin, .long sta, .long tg, .long er, .long vl, .long vh, .int sb, .int os]))]
    exact v_lret X Y (by decide) (by decide) d_M_bound_29 ⟨by simp only [f_M_bound, if_pos c7] <;> rfl, rfl⟩
  · skip
    refine v_ldc2 X (v := (-4611686018427387904)) m197 d_M_bound_10 ?_
    exact v_lret X Y (by decide) (by decide) d_M_bound_13 ⟨by simp only [f_M_bound, if_neg c7] <;> rfl, rfl⟩

def f_M_hull (st : Bool) (vl : Int64) (vh : Int64) (u : Bool) : Int64 := if st = true then if u = true then vh else vl else (-4611686018427387904)
set_option maxHeartbeats 4000000 in
set_option maxRecDepth 100000 in
theorem c_M_hull (l : Launch) (D : va_G) (z : Nat → ClassId) (o : Nat) (sa : Nat) (la : Nat) (e : Nat) (d : Nat) (dr : Int32) (sf : Int32) (nw : Int64) (ls : Int64) (st : Bool) (sin : Int64) (sta : Int64) (tg : Int64) (er : Int64) (vl : Int64) (vh : Int64) (sb : Int32) (os : Int32) (u : Bool)  : Ctr l D z y_M_hull b_M_hull 2 (some .long) { frames := 0, cells := 0, slots := 0, locals := 0 } [.ref o, .int (bI u)] [(o, .inr (4, [.ref sa, .ref la, .ref e, .ref d, .int dr, .int sf, .long nw, .long ls])), (d, .inr (2, [.int (bI st), .long sin, .long sta, .long tg, .long er, .long vl, .long vh, .int sb, .int os]))] (fun v w => v = some (.long (f_M_hull st vl vh u)) ∧ w = [(o, .inr (4, [.ref sa, .ref la, .ref e, .ref d, .int dr, .int sf, .long nw, .long ls])), (d, .inr (2, [.int (bI st), .long sin, .long sta, .long tg, .long er, .long vl, .long vh, .int sb, .int os]))]) 0 0 := by
  refine met_V (own := R_M) (nm := "hull") (by decide +kernel) rfl rfl (Nat.le_of_ble_eq_true rfl) ?_
  intro κ hl hD hz X Y
  subst hl
  subst hD
  subst hz
  show V κ 2 0 0 0 [(0, .ref o), (1, .int (bI u))] [] [(o, .inr (4, [.ref sa, .ref la, .ref e, .ref d, .int dr, .int sf, .long nw, .long ls])), (d, .inr (2, [.int (bI st), .long sin, .long sta, .long tg, .long er, .long vl, .long vh, .int sb, .int os]))]
  refine v_aload_n X 0 d_M_hull_0 rfl ?_
  refine v_get X 0 3 rfl rfl li_M (by decide) m153 rfl d_M_hull_1 ?_
  refine v_get X 1 0 rfl rfl li_Sd (by decide) m128 rfl d_M_hull_4 ?_
  refine v_ifB_ne X 14 (t := st) d_M_hull_7 (by decide) (fun c7 => ?_) (fun c7 => ?_)
  · skip
    refine v_iload_n X 1 d_M_hull_14 rfl ?_
    suffices hm15 : V κ 2 0 0 35 [(0, .ref o), (1, .int (bI u))] [.long (if u = true then vh else vl)] [(o, .inr (4, [.ref sa, .ref la, .ref e, .ref d, .int dr, .int sf, .long nw, .long ls])), (d, .inr (2, [.int (bI st), .long sin, .long sta, .long tg, .long er, .long vl, .long vh, .int sb, .int os]))] by
      refine v_ifB_eq X 28 (t := u) d_M_hull_15 (by decide) (fun c15 => ?_) (fun c15 => ?_)
      · skip
        refine v_aload_n X 0 d_M_hull_28 rfl ?_
        refine v_get X 0 3 rfl rfl li_M (by decide) m153 rfl d_M_hull_29 ?_
        refine v_get X 1 5 rfl rfl li_Sd (by decide) m134 rfl d_M_hull_32 ?_
        have h9 := hm15; simp only [if_neg c15] at h9; first | exact h9 | (simp only [if_neg c15]; exact h9)
      · skip
        refine v_aload_n X 0 d_M_hull_18 rfl ?_
        refine v_get X 0 3 rfl rfl li_M (by decide) m153 rfl d_M_hull_19 ?_
        refine v_get X 1 6 rfl rfl li_Sd (by decide) m136 rfl d_M_hull_22 ?_
        refine v_goto X 35 d_M_hull_25 (by decide) ?_
        have h9 := hm15; simp only [if_pos c15] at h9; first | exact h9 | (simp only [if_pos c15]; exact h9)
    exact v_lret X Y (by decide) (by decide) d_M_hull_35 ⟨by simp only [f_M_hull, if_pos c7] <;> rfl, rfl⟩
  · skip
    refine v_ldc2 X (v := (-4611686018427387904)) m197 d_M_hull_10 ?_
    exact v_lret X Y (by decide) (by decide) d_M_hull_13 ⟨by simp only [f_M_hull, if_neg c7] <;> rfl, rfl⟩

def f_M_isOver (dr : Int32) (nw : Int64) (st : Bool) (sin : Int64) (sta : Int64) (tg : Int64) (er : Int64) (un : Int64) : Bool := (if ((f_M_time nw st sin sta tg) - (f_M_bound dr nw st sin sta tg er)) < un then false else true)
set_option maxHeartbeats 4000000 in
set_option maxRecDepth 100000 in
theorem c_M_isOver (l : Launch) (D : va_G) (z : Nat → ClassId) (o : Nat) (sa : Nat) (la : Nat) (e : Nat) (d : Nat) (dr : Int32) (sf : Int32) (nw : Int64) (ls : Int64) (st : Bool) (sin : Int64) (sta : Int64) (tg : Int64) (er : Int64) (vl : Int64) (vh : Int64) (sb : Int32) (os : Int32) (r : Nat) (gr : Bool) (ow : Int32) (un : Int64)  : Ctr l D z y_M_isOver b_M_isOver 2 (some .boolean) { frames := 4, cells := 0, slots := 0, locals := 92 } [.ref o, .ref r] [(o, .inr (4, [.ref sa, .ref la, .ref e, .ref d, .int dr, .int sf, .long nw, .long ls])), (d, .inr (2, [.int (bI st), .long sin, .long sta, .long tg, .long er, .long vl, .long vh, .int sb, .int os])), (r, .inr (1, [.int (bI gr), .int ow, .long un]))] (fun v w => v = some (.int (bI (f_M_isOver dr nw st sin sta tg er un))) ∧ w = [(o, .inr (4, [.ref sa, .ref la, .ref e, .ref d, .int dr, .int sf, .long nw, .long ls])), (d, .inr (2, [.int (bI st), .long sin, .long sta, .long tg, .long er, .long vl, .long vh, .int sb, .int os])), (r, .inr (1, [.int (bI gr), .int ow, .long un]))]) 0 0 := by
  refine met_V (own := R_M) (nm := "isOver") (by decide +kernel) rfl rfl (Nat.le_of_ble_eq_true rfl) ?_
  intro κ hl hD hz X Y
  subst hl
  subst hD
  subst hz
  show V κ 2 0 0 0 [(0, .ref o), (1, .ref r)] [] [(o, .inr (4, [.ref sa, .ref la, .ref e, .ref d, .int dr, .int sf, .long nw, .long ls])), (d, .inr (2, [.int (bI st), .long sin, .long sta, .long tg, .long er, .long vl, .long vh, .int sb, .int os])), (r, .inr (1, [.int (bI gr), .int ow, .long un]))]
  refine v_aload_n X 0 d_M_isOver_0 rfl ?_
  refine v_callV X (b := o) (n9 := 0) (As := []) (rest := []) (wc := [(o, .inr (4, [.ref sa, .ref la, .ref e, .ref d, .int dr, .int sf, .long nw, .long ls])), (d, .inr (2, [.int (bI st), .long sin, .long sta, .long tg, .long er, .long vl, .long vh, .int sb, .int os]))]) (wr := [(r, .inr (1, [.int (bI gr), .int ow, .long un]))]) (c_M_time κ.l κ.D κ.z o sa la e d dr sf nw ls st sin sta tg er vl vh sb os ) 0 rfl rfl m389 m370 m371 m30 (by decide +kernel) rfl (Nat.le_of_ble_eq_true rfl) ⟨by decide, by decide⟩ ⟨by decide, by decide⟩ rfl rfl m372 d_M_isOver_1 (fun v w1 hg => ?_)
  obtain ⟨rfl, rfl⟩ := hg
  show V κ 2 0 0 4 [(0, .ref o), (1, .ref r)] [.long (f_M_time nw st sin sta tg)] [(o, .inr (4, [.ref sa, .ref la, .ref e, .ref d, .int dr, .int sf, .long nw, .long ls])), (d, .inr (2, [.int (bI st), .long sin, .long sta, .long tg, .long er, .long vl, .long vh, .int sb, .int os])), (r, .inr (1, [.int (bI gr), .int ow, .long un]))]
  refine v_aload_n X 0 d_M_isOver_4 rfl ?_
  refine v_callV X (b := o) (n9 := 0) (As := []) (rest := [.long (f_M_time nw st sin sta tg)]) (wc := [(o, .inr (4, [.ref sa, .ref la, .ref e, .ref d, .int dr, .int sf, .long nw, .long ls])), (d, .inr (2, [.int (bI st), .long sin, .long sta, .long tg, .long er, .long vl, .long vh, .int sb, .int os]))]) (wr := [(r, .inr (1, [.int (bI gr), .int ow, .long un]))]) (c_M_bound κ.l κ.D κ.z o sa la e d dr sf nw ls st sin sta tg er vl vh sb os ) 0 rfl rfl m396 m375 m376 m30 (by decide +kernel) rfl (Nat.le_of_ble_eq_true rfl) ⟨by decide, by decide⟩ ⟨by decide, by decide⟩ rfl rfl m377 d_M_isOver_5 (fun v w1 hg => ?_)
  obtain ⟨rfl, rfl⟩ := hg
  show V κ 2 0 0 8 [(0, .ref o), (1, .ref r)] [.long (f_M_bound dr nw st sin sta tg er), .long (f_M_time nw st sin sta tg)] [(o, .inr (4, [.ref sa, .ref la, .ref e, .ref d, .int dr, .int sf, .long nw, .long ls])), (d, .inr (2, [.int (bI st), .long sin, .long sta, .long tg, .long er, .long vl, .long vh, .int sb, .int os])), (r, .inr (1, [.int (bI gr), .int ow, .long un]))]
  refine v_lsub X d_M_isOver_8 ?_
  refine v_aload_n X 1 d_M_isOver_9 rfl ?_
  refine v_get X 2 2 rfl rfl li_Le (by decide) m96 rfl d_M_isOver_10 ?_
  suffices hm13 : V κ 2 0 0 22 [(0, .ref o), (1, .ref r)] [.int (bI (if ((f_M_time nw st sin sta tg) - (f_M_bound dr nw st sin sta tg er)) < un then false else true))] [(o, .inr (4, [.ref sa, .ref la, .ref e, .ref d, .int dr, .int sf, .long nw, .long ls])), (d, .inr (2, [.int (bI st), .long sin, .long sta, .long tg, .long er, .long vl, .long vh, .int sb, .int os])), (r, .inr (1, [.int (bI gr), .int ow, .long un]))] by
    refine v_lcmp_lt X 21 d_M_isOver_13 d_M_isOver_14 (by decide) (fun c13 => ?_) (fun c13 => ?_)
    · skip
      refine v_iconst X 0 d_M_isOver_21 (by decide) ?_
      have h9 := hm13; simp only [if_pos c13] at h9; first | exact h9 | (simp only [if_pos c13]; exact h9)
    · skip
      refine v_iconst X 1 d_M_isOver_17 (by decide) ?_
      refine v_goto X 22 d_M_isOver_18 (by decide) ?_
      have h9 := hm13; simp only [if_neg c13] at h9; first | exact h9 | (simp only [if_neg c13]; exact h9)
  exact v_zret X Y (by decide) (by decide) d_M_isOver_22 (narB _) ⟨rfl, rfl⟩

def f_M_mayFollow (dr : Int32) (nw : Int64) (st : Bool) (sin : Int64) (sta : Int64) (tg : Int64) (er : Int64) (ow : Int32) (un : Int64) (x : Int32) (y : Int64) : Bool := if ow = x then (if y < un then false else true) else (f_M_isOver dr nw st sin sta tg er un)
set_option maxHeartbeats 4000000 in
set_option maxRecDepth 100000 in
theorem c_M_mayFollow (l : Launch) (D : va_G) (z : Nat → ClassId) (o : Nat) (sa : Nat) (la : Nat) (e : Nat) (d : Nat) (dr : Int32) (sf : Int32) (nw : Int64) (ls : Int64) (st : Bool) (sin : Int64) (sta : Int64) (tg : Int64) (er : Int64) (vl : Int64) (vh : Int64) (sb : Int32) (os : Int32) (r : Nat) (gr : Bool) (ow : Int32) (un : Int64) (x : Int32) (y : Int64)  : Ctr l D z y_M_mayFollow b_M_mayFollow 5 (some .boolean) { frames := 5, cells := 0, slots := 0, locals := 113 } [.ref o, .ref r, .int x, .long y] [(o, .inr (4, [.ref sa, .ref la, .ref e, .ref d, .int dr, .int sf, .long nw, .long ls])), (d, .inr (2, [.int (bI st), .long sin, .long sta, .long tg, .long er, .long vl, .long vh, .int sb, .int os])), (r, .inr (1, [.int (bI gr), .int ow, .long un]))] (fun v w => v = some (.int (bI (f_M_mayFollow dr nw st sin sta tg er ow un x y))) ∧ w = [(o, .inr (4, [.ref sa, .ref la, .ref e, .ref d, .int dr, .int sf, .long nw, .long ls])), (d, .inr (2, [.int (bI st), .long sin, .long sta, .long tg, .long er, .long vl, .long vh, .int sb, .int os])), (r, .inr (1, [.int (bI gr), .int ow, .long un]))]) 0 0 := by
  refine met_V (own := R_M) (nm := "mayFollow") (by decide +kernel) rfl rfl (Nat.le_of_ble_eq_true rfl) ?_
  intro κ hl hD hz X Y
  subst hl
  subst hD
  subst hz
  show V κ 5 0 0 0 [(0, .ref o), (1, .ref r), (2, .int x), (3, .long y)] [] [(o, .inr (4, [.ref sa, .ref la, .ref e, .ref d, .int dr, .int sf, .long nw, .long ls])), (d, .inr (2, [.int (bI st), .long sin, .long sta, .long tg, .long er, .long vl, .long vh, .int sb, .int os])), (r, .inr (1, [.int (bI gr), .int ow, .long un]))]
  refine v_aload_n X 1 d_M_mayFollow_0 rfl ?_
  refine v_get X 2 1 rfl rfl li_Le (by decide) m94 rfl d_M_mayFollow_1 ?_
  refine v_iload_n X 2 d_M_mayFollow_4 rfl ?_
  refine v_icmp_ne X 23 d_M_mayFollow_5 (by decide) (fun c5 => ?_) (fun c5 => ?_)
  · skip
    refine v_aload_n X 0 d_M_mayFollow_23 rfl ?_
    refine v_aload_n X 1 d_M_mayFollow_24 rfl ?_
    refine v_callV X (b := o) (n9 := 1) (As := [.ref r]) (rest := []) (wc := [(o, .inr (4, [.ref sa, .ref la, .ref e, .ref d, .int dr, .int sf, .long nw, .long ls])), (d, .inr (2, [.int (bI st), .long sin, .long sta, .long tg, .long er, .long vl, .long vh, .int sb, .int os])), (r, .inr (1, [.int (bI gr), .int ow, .long un]))]) (wr := []) (c_M_isOver κ.l κ.D κ.z o sa la e d dr sf nw ls st sin sta tg er vl vh sb os r gr ow un ) 0 rfl rfl m393 m394 m15 m30 (by decide +kernel) rfl (Nat.le_of_ble_eq_true rfl) ⟨by decide, by decide⟩ ⟨by decide, by decide⟩ rfl rfl m395 d_M_mayFollow_25 (fun v w1 hg => ?_)
    obtain ⟨rfl, rfl⟩ := hg
    show V κ 5 0 0 28 [(0, .ref o), (1, .ref r), (2, .int x), (3, .long y)] [.int (bI (f_M_isOver dr nw st sin sta tg er un))] [(o, .inr (4, [.ref sa, .ref la, .ref e, .ref d, .int dr, .int sf, .long nw, .long ls])), (d, .inr (2, [.int (bI st), .long sin, .long sta, .long tg, .long er, .long vl, .long vh, .int sb, .int os])), (r, .inr (1, [.int (bI gr), .int ow, .long un]))]
    exact v_zret X Y (by decide) (by decide) d_M_mayFollow_28 (narB _) ⟨by simp only [f_M_mayFollow, if_neg c5] <;> rfl, rfl⟩
  · skip
    refine v_lload_n X 3 d_M_mayFollow_8 rfl ?_
    refine v_aload_n X 1 d_M_mayFollow_9 rfl ?_
    refine v_get X 2 2 rfl rfl li_Le (by decide) m96 rfl d_M_mayFollow_10 ?_
    suffices hm13 : V κ 5 0 0 22 [(0, .ref o), (1, .ref r), (2, .int x), (3, .long y)] [.int (bI (if y < un then false else true))] [(o, .inr (4, [.ref sa, .ref la, .ref e, .ref d, .int dr, .int sf, .long nw, .long ls])), (d, .inr (2, [.int (bI st), .long sin, .long sta, .long tg, .long er, .long vl, .long vh, .int sb, .int os])), (r, .inr (1, [.int (bI gr), .int ow, .long un]))] by
      refine v_lcmp_lt X 21 d_M_mayFollow_13 d_M_mayFollow_14 (by decide) (fun c13 => ?_) (fun c13 => ?_)
      · skip
        refine v_iconst X 0 d_M_mayFollow_21 (by decide) ?_
        have h9 := hm13; simp only [if_pos c13] at h9; first | exact h9 | (simp only [if_pos c13]; exact h9)
      · skip
        refine v_iconst X 1 d_M_mayFollow_17 (by decide) ?_
        refine v_goto X 22 d_M_mayFollow_18 (by decide) ?_
        have h9 := hm13; simp only [if_neg c13] at h9; first | exact h9 | (simp only [if_neg c13]; exact h9)
    exact v_zret X Y (by decide) (by decide) d_M_mayFollow_22 (narB _) ⟨by simp only [f_M_mayFollow, if_pos c5] <;> rfl, rfl⟩

set_option maxHeartbeats 4000000 in
set_option maxRecDepth 100000 in
theorem c_M_serverOrNullG (l : Launch) (D : va_G) (z : Nat → ClassId) (o : Nat) (sa : Nat) (la : Nat) (e : Nat) (d : Nat) (dr : Int32) (sf : Int32) (nw : Int64) (ls : Int64) (nS : Nat) (fs : Nat → Option Nat) (i : Nat) (a : Nat) (hi9 : i < nS) (hn9 : nS ≤ 6) (hf9 : fs i = some a) : Ctr l D z y_M_serverOrNull b_M_serverOrNull 2 (some (.object "MajorityClock$Server")) { frames := 0, cells := 0, slots := 0, locals := 0 } [.ref o, .int (nI i)] [(o, .inr (4, [.ref sa, .ref la, .ref e, .ref d, .int dr, .int sf, .long nw, .long ls])), (sa, .inl (z 3, nS, .inr (.inr (.inr (.inr fs)))))] (fun v w => v = some (.ref a) ∧ w = [(o, .inr (4, [.ref sa, .ref la, .ref e, .ref d, .int dr, .int sf, .long nw, .long ls])), (sa, .inl (z 3, nS, .inr (.inr (.inr (.inr fs)))))]) 0 0 := by
  refine met_V (own := R_M) (nm := "serverOrNull") (by decide +kernel) rfl rfl (Nat.le_of_ble_eq_true rfl) ?_
  intro κ hl hD hz X Y
  subst hl
  subst hD
  subst hz
  show V κ 2 0 0 0 [(0, .ref o), (1, .int (nI i))] [] [(o, .inr (4, [.ref sa, .ref la, .ref e, .ref d, .int dr, .int sf, .long nw, .long ls])), (sa, .inl (κ.z 3, nS, .inr (.inr (.inr (.inr fs)))))]
  refine v_iload_n X 1 d_M_serverOrNull_0 rfl ?_
  refine v_ifN_lt X 13 (a := i) d_M_serverOrNull_1 (by decide) (by omega) ?_
  refine v_iload_n X 1 d_M_serverOrNull_4 rfl ?_
  refine v_aload_n X 0 d_M_serverOrNull_5 rfl ?_
  refine v_get X 0 0 rfl rfl li_M (by decide) m150 rfl d_M_serverOrNull_6 ?_
  refine v_alen X 1 3 (nI nS) rfl rfl rfl d_M_serverOrNull_9 ?_
  refine v_icmpN_lt X 17 (a := i) (b := nS) d_M_serverOrNull_10 (by decide) (by omega) (by omega) (fun c10 => ?_) (fun c10 => by omega)
  refine v_aload_n X 0 d_M_serverOrNull_17 rfl ?_
  refine v_get X 0 0 rfl rfl li_M (by decide) m150 rfl d_M_serverOrNull_18 ?_
  refine v_iload_n X 1 d_M_serverOrNull_21 rfl ?_
  refine v_aaldM X 1 3 (j := i) (b := a) rfl rfl (by omega) (by omega) hf9 d_M_serverOrNull_22 ?_
  exact v_aret X Y (by decide) (by decide) d_M_serverOrNull_23 (Or.inr ⟨_, rfl⟩) ⟨rfl, rfl⟩

set_option maxHeartbeats 4000000 in
set_option maxRecDepth 100000 in
theorem c_M_serverOrNullB (l : Launch) (D : va_G) (z : Nat → ClassId) (o : Nat) (sa : Nat) (la : Nat) (e : Nat) (d : Nat) (dr : Int32) (sf : Int32) (nw : Int64) (ls : Int64) (nS : Nat) (fs : Nat → Option Nat) (s : Int32) (hb9 : ¬ s < 0 → ¬ s < nI nS) : Ctr l D z y_M_serverOrNull b_M_serverOrNull 2 (some (.object "MajorityClock$Server")) { frames := 0, cells := 0, slots := 0, locals := 0 } [.ref o, .int s] [(o, .inr (4, [.ref sa, .ref la, .ref e, .ref d, .int dr, .int sf, .long nw, .long ls])), (sa, .inl (z 3, nS, .inr (.inr (.inr (.inr fs)))))] (fun v w => v = some (.null) ∧ w = [(o, .inr (4, [.ref sa, .ref la, .ref e, .ref d, .int dr, .int sf, .long nw, .long ls])), (sa, .inl (z 3, nS, .inr (.inr (.inr (.inr fs)))))]) 0 0 := by
  refine met_V (own := R_M) (nm := "serverOrNull") (by decide +kernel) rfl rfl (Nat.le_of_ble_eq_true rfl) ?_
  intro κ hl hD hz X Y
  subst hl
  subst hD
  subst hz
  show V κ 2 0 0 0 [(0, .ref o), (1, .int s)] [] [(o, .inr (4, [.ref sa, .ref la, .ref e, .ref d, .int dr, .int sf, .long nw, .long ls])), (sa, .inl (κ.z 3, nS, .inr (.inr (.inr (.inr fs)))))]
  refine v_iload_n X 1 d_M_serverOrNull_0 rfl ?_
  refine v_if_lt X 13 d_M_serverOrNull_1 (by decide) (fun c1 => ?_) (fun c1 => ?_)
  · skip
    refine v_null X d_M_serverOrNull_13 ?_
    refine v_goto X 23 d_M_serverOrNull_14 (by decide) ?_
    exact v_aret X Y (by decide) (by decide) d_M_serverOrNull_23 (Or.inl rfl) ⟨rfl, rfl⟩
  · skip
    refine v_iload_n X 1 d_M_serverOrNull_4 rfl ?_
    refine v_aload_n X 0 d_M_serverOrNull_5 rfl ?_
    refine v_get X 0 0 rfl rfl li_M (by decide) m150 rfl d_M_serverOrNull_6 ?_
    refine v_alen X 1 3 (nI nS) rfl rfl rfl d_M_serverOrNull_9 ?_
    refine v_icmp_lt X 17 d_M_serverOrNull_10 (by decide) (fun c10 => absurd c10 (hb9 c1)) (fun c10 => ?_)
    refine v_null X d_M_serverOrNull_13 ?_
    refine v_goto X 23 d_M_serverOrNull_14 (by decide) ?_
    exact v_aret X Y (by decide) (by decide) d_M_serverOrNull_23 (Or.inl rfl) ⟨rfl, rfl⟩

set_option maxHeartbeats 4000000 in
set_option maxRecDepth 100000 in
theorem c_M_leaseOrNullG (l : Launch) (D : va_G) (z : Nat → ClassId) (o : Nat) (sa : Nat) (la : Nat) (e : Nat) (d : Nat) (dr : Int32) (sf : Int32) (nw : Int64) (ls : Int64) (fl : Nat → Option Nat) (i : Nat) (r : Nat) (hi9 : i < 4) (hn9 : 4 ≤ 6) (hf9 : fl i = some r) : Ctr l D z y_M_leaseOrNull b_M_leaseOrNull 2 (some (.object "MajorityClock$Lease")) { frames := 0, cells := 0, slots := 0, locals := 0 } [.ref o, .int (nI i)] [(o, .inr (4, [.ref sa, .ref la, .ref e, .ref d, .int dr, .int sf, .long nw, .long ls])), (la, .inl (z 4, 4, .inr (.inr (.inr (.inr fl)))))] (fun v w => v = some (.ref r) ∧ w = [(o, .inr (4, [.ref sa, .ref la, .ref e, .ref d, .int dr, .int sf, .long nw, .long ls])), (la, .inl (z 4, 4, .inr (.inr (.inr (.inr fl)))))]) 0 0 := by
  refine met_V (own := R_M) (nm := "leaseOrNull") (by decide +kernel) rfl rfl (Nat.le_of_ble_eq_true rfl) ?_
  intro κ hl hD hz X Y
  subst hl
  subst hD
  subst hz
  show V κ 2 0 0 0 [(0, .ref o), (1, .int (nI i))] [] [(o, .inr (4, [.ref sa, .ref la, .ref e, .ref d, .int dr, .int sf, .long nw, .long ls])), (la, .inl (κ.z 4, 4, .inr (.inr (.inr (.inr fl)))))]
  refine v_iload_n X 1 d_M_leaseOrNull_0 rfl ?_
  refine v_ifN_lt X 13 (a := i) d_M_leaseOrNull_1 (by decide) (by omega) ?_
  refine v_iload_n X 1 d_M_leaseOrNull_4 rfl ?_
  refine v_aload_n X 0 d_M_leaseOrNull_5 rfl ?_
  refine v_get X 0 1 rfl rfl li_M (by decide) m151 rfl d_M_leaseOrNull_6 ?_
  refine v_alen X 1 4 (nI 4) rfl rfl rfl d_M_leaseOrNull_9 ?_
  refine v_icmpN_lt X 17 (a := i) (b := 4) d_M_leaseOrNull_10 (by decide) (by omega) (by omega) (fun c10 => ?_) (fun c10 => by omega)
  refine v_aload_n X 0 d_M_leaseOrNull_17 rfl ?_
  refine v_get X 0 1 rfl rfl li_M (by decide) m151 rfl d_M_leaseOrNull_18 ?_
  refine v_iload_n X 1 d_M_leaseOrNull_21 rfl ?_
  refine v_aaldM X 1 4 (j := i) (b := r) rfl rfl (by omega) (by omega) hf9 d_M_leaseOrNull_22 ?_
  exact v_aret X Y (by decide) (by decide) d_M_leaseOrNull_23 (Or.inr ⟨_, rfl⟩) ⟨rfl, rfl⟩

set_option maxHeartbeats 4000000 in
set_option maxRecDepth 100000 in
theorem c_M_leaseOrNullB (l : Launch) (D : va_G) (z : Nat → ClassId) (o : Nat) (sa : Nat) (la : Nat) (e : Nat) (d : Nat) (dr : Int32) (sf : Int32) (nw : Int64) (ls : Int64) (fl : Nat → Option Nat) (s : Int32) (hb9 : ¬ s < 0 → ¬ s < nI 4) : Ctr l D z y_M_leaseOrNull b_M_leaseOrNull 2 (some (.object "MajorityClock$Lease")) { frames := 0, cells := 0, slots := 0, locals := 0 } [.ref o, .int s] [(o, .inr (4, [.ref sa, .ref la, .ref e, .ref d, .int dr, .int sf, .long nw, .long ls])), (la, .inl (z 4, 4, .inr (.inr (.inr (.inr fl)))))] (fun v w => v = some (.null) ∧ w = [(o, .inr (4, [.ref sa, .ref la, .ref e, .ref d, .int dr, .int sf, .long nw, .long ls])), (la, .inl (z 4, 4, .inr (.inr (.inr (.inr fl)))))]) 0 0 := by
  refine met_V (own := R_M) (nm := "leaseOrNull") (by decide +kernel) rfl rfl (Nat.le_of_ble_eq_true rfl) ?_
  intro κ hl hD hz X Y
  subst hl
  subst hD
  subst hz
  show V κ 2 0 0 0 [(0, .ref o), (1, .int s)] [] [(o, .inr (4, [.ref sa, .ref la, .ref e, .ref d, .int dr, .int sf, .long nw, .long ls])), (la, .inl (κ.z 4, 4, .inr (.inr (.inr (.inr fl)))))]
  refine v_iload_n X 1 d_M_leaseOrNull_0 rfl ?_
  refine v_if_lt X 13 d_M_leaseOrNull_1 (by decide) (fun c1 => ?_) (fun c1 => ?_)
  · skip
    refine v_null X d_M_leaseOrNull_13 ?_
    refine v_goto X 23 d_M_leaseOrNull_14 (by decide) ?_
    exact v_aret X Y (by decide) (by decide) d_M_leaseOrNull_23 (Or.inl rfl) ⟨rfl, rfl⟩
  · skip
    refine v_iload_n X 1 d_M_leaseOrNull_4 rfl ?_
    refine v_aload_n X 0 d_M_leaseOrNull_5 rfl ?_
    refine v_get X 0 1 rfl rfl li_M (by decide) m151 rfl d_M_leaseOrNull_6 ?_
    refine v_alen X 1 4 (nI 4) rfl rfl rfl d_M_leaseOrNull_9 ?_
    refine v_icmp_lt X 17 d_M_leaseOrNull_10 (by decide) (fun c10 => absurd c10 (hb9 c1)) (fun c10 => ?_)
    refine v_null X d_M_leaseOrNull_13 ?_
    refine v_goto X 23 d_M_leaseOrNull_14 (by decide) ?_
    exact v_aret X Y (by decide) (by decide) d_M_leaseOrNull_23 (Or.inl rfl) ⟨rfl, rfl⟩

def f_M_expiryG (gr : Bool) (un : Int64) : Int64 := if gr = true then un else (-4611686018427387904)
set_option maxHeartbeats 4000000 in
set_option maxRecDepth 100000 in
theorem c_M_expiryG (l : Launch) (D : va_G) (z : Nat → ClassId) (o : Nat) (sa : Nat) (la : Nat) (e : Nat) (d : Nat) (dr : Int32) (sf : Int32) (nw : Int64) (ls : Int64) (fl : Nat → Option Nat) (r : Nat) (gr : Bool) (ow : Int32) (un : Int64) (i : Nat) (hi9 : i < 4) (hf9 : fl i = some r) : Ctr l D z y_M_expiry b_M_expiry 3 (some .long) { frames := 1, cells := 0, slots := 0, locals := 21 } [.ref o, .int (nI i)] [(o, .inr (4, [.ref sa, .ref la, .ref e, .ref d, .int dr, .int sf, .long nw, .long ls])), (la, .inl (z 4, 4, .inr (.inr (.inr (.inr fl))))), (r, .inr (1, [.int (bI gr), .int ow, .long un]))] (fun v w => v = some (.long (f_M_expiryG gr un)) ∧ w = [(o, .inr (4, [.ref sa, .ref la, .ref e, .ref d, .int dr, .int sf, .long nw, .long ls])), (la, .inl (z 4, 4, .inr (.inr (.inr (.inr fl))))), (r, .inr (1, [.int (bI gr), .int ow, .long un]))]) 0 0 := by
  refine met_V (own := R_M) (nm := "expiry") (by decide +kernel) rfl rfl (Nat.le_of_ble_eq_true rfl) ?_
  intro κ hl hD hz X Y
  subst hl
  subst hD
  subst hz
  show V κ 3 0 0 0 [(0, .ref o), (1, .int (nI i))] [] [(o, .inr (4, [.ref sa, .ref la, .ref e, .ref d, .int dr, .int sf, .long nw, .long ls])), (la, .inl (κ.z 4, 4, .inr (.inr (.inr (.inr fl))))), (r, .inr (1, [.int (bI gr), .int ow, .long un]))]
  refine v_aload_n X 0 d_M_expiry_0 rfl ?_
  refine v_iload_n X 1 d_M_expiry_1 rfl ?_
  refine v_callV X (b := o) (n9 := 1) (As := [.int (nI i)]) (rest := []) (wc := [(o, .inr (4, [.ref sa, .ref la, .ref e, .ref d, .int dr, .int sf, .long nw, .long ls])), (la, .inl (κ.z 4, 4, .inr (.inr (.inr (.inr fl)))))]) (wr := [(r, .inr (1, [.int (bI gr), .int ow, .long un]))]) (c_M_leaseOrNullG κ.l κ.D κ.z o sa la e d dr sf nw ls fl i r (by omega) (by omega) hf9) 0 rfl rfl m386 m387 m13 m30 (by decide +kernel) rfl (Nat.le_of_ble_eq_true rfl) ⟨by decide, by decide⟩ ⟨by decide, by decide⟩ rfl rfl m388 d_M_expiry_2 (fun v w1 hg => ?_)
  obtain ⟨rfl, rfl⟩ := hg
  show V κ 3 0 0 5 [(0, .ref o), (1, .int (nI i))] [.ref r] [(o, .inr (4, [.ref sa, .ref la, .ref e, .ref d, .int dr, .int sf, .long nw, .long ls])), (la, .inl (κ.z 4, 4, .inr (.inr (.inr (.inr fl))))), (r, .inr (1, [.int (bI gr), .int ow, .long un]))]
  refine v_astore_n X d_M_expiry_5 rfl (by decide) (lv' := [(2, .ref r), (0, .ref o), (1, .int (nI i))]) rfl ?_
  refine v_aload_n X 0 d_M_expiry_6 rfl ?_
  refine v_ifnull X d_M_expiry_7 ?_
  refine v_aload_n X 0 d_M_expiry_10 rfl ?_
  refine v_get X 2 0 rfl rfl li_Le (by decide) m92 rfl d_M_expiry_11 ?_
  suffices hm14 : V κ 3 0 0 27 [(2, .ref r), (0, .ref o), (1, .int (nI i))] [.long (if gr = true then un else (-4611686018427387904))] [(o, .inr (4, [.ref sa, .ref la, .ref e, .ref d, .int dr, .int sf, .long nw, .long ls])), (la, .inl (κ.z 4, 4, .inr (.inr (.inr (.inr fl))))), (r, .inr (1, [.int (bI gr), .int ow, .long un]))] by
    refine v_ifB_ne X 23 (t := gr) d_M_expiry_14 (by decide) (fun c14 => ?_) (fun c14 => ?_)
    · skip
      refine v_aload_n X 0 d_M_expiry_23 rfl ?_
      refine v_get X 2 2 rfl rfl li_Le (by decide) m96 rfl d_M_expiry_24 ?_
      have h9 := hm14; simp only [if_pos c14] at h9; first | exact h9 | (simp only [if_pos c14]; exact h9)
    · skip
      refine v_ldc2 X (v := (-4611686018427387904)) m197 d_M_expiry_17 ?_
      refine v_goto X 27 d_M_expiry_20 (by decide) ?_
      have h9 := hm14; simp only [if_neg c14] at h9; first | exact h9 | (simp only [if_neg c14]; exact h9)
  exact v_lret X Y (by decide) (by decide) d_M_expiry_27 ⟨rfl, rfl⟩

set_option maxHeartbeats 4000000 in
set_option maxRecDepth 100000 in
theorem c_M_expiryB (l : Launch) (D : va_G) (z : Nat → ClassId) (o : Nat) (sa : Nat) (la : Nat) (e : Nat) (d : Nat) (dr : Int32) (sf : Int32) (nw : Int64) (ls : Int64) (fl : Nat → Option Nat) (s : Int32) (hb9 : ¬ s < 0 → ¬ s < nI 4) : Ctr l D z y_M_expiry b_M_expiry 3 (some .long) { frames := 1, cells := 0, slots := 0, locals := 21 } [.ref o, .int s] [(o, .inr (4, [.ref sa, .ref la, .ref e, .ref d, .int dr, .int sf, .long nw, .long ls])), (la, .inl (z 4, 4, .inr (.inr (.inr (.inr fl)))))] (fun v w => v = some (.long (-4611686018427387904)) ∧ w = [(o, .inr (4, [.ref sa, .ref la, .ref e, .ref d, .int dr, .int sf, .long nw, .long ls])), (la, .inl (z 4, 4, .inr (.inr (.inr (.inr fl)))))]) 0 0 := by
  refine met_V (own := R_M) (nm := "expiry") (by decide +kernel) rfl rfl (Nat.le_of_ble_eq_true rfl) ?_
  intro κ hl hD hz X Y
  subst hl
  subst hD
  subst hz
  show V κ 3 0 0 0 [(0, .ref o), (1, .int s)] [] [(o, .inr (4, [.ref sa, .ref la, .ref e, .ref d, .int dr, .int sf, .long nw, .long ls])), (la, .inl (κ.z 4, 4, .inr (.inr (.inr (.inr fl)))))]
  refine v_aload_n X 0 d_M_expiry_0 rfl ?_
  refine v_iload_n X 1 d_M_expiry_1 rfl ?_
  refine v_callV X (b := o) (n9 := 1) (As := [.int s]) (rest := []) (wc := [(o, .inr (4, [.ref sa, .ref la, .ref e, .ref d, .int dr, .int sf, .long nw, .long ls])), (la, .inl (κ.z 4, 4, .inr (.inr (.inr (.inr fl)))))]) (wr := []) (c_M_leaseOrNullB κ.l κ.D κ.z o sa la e d dr sf nw ls fl s hb9) 0 rfl rfl m386 m387 m13 m30 (by decide +kernel) rfl (Nat.le_of_ble_eq_true rfl) ⟨by decide, by decide⟩ ⟨by decide, by decide⟩ rfl rfl m388 d_M_expiry_2 (fun v w1 hg => ?_)
  obtain ⟨rfl, rfl⟩ := hg
  show V κ 3 0 0 5 [(0, .ref o), (1, .int s)] [.null] [(o, .inr (4, [.ref sa, .ref la, .ref e, .ref d, .int dr, .int sf, .long nw, .long ls])), (la, .inl (κ.z 4, 4, .inr (.inr (.inr (.inr fl)))))]
  refine v_astore_nN X d_M_expiry_5 rfl (by decide) (lv' := [(2, .null), (0, .ref o), (1, .int s)]) rfl ?_
  refine v_aload_nN X 0 d_M_expiry_6 rfl ?_
  refine v_ifnullN X 17 d_M_expiry_7 (by decide) ?_
  refine v_ldc2 X (v := (-4611686018427387904)) m197 d_M_expiry_17 ?_
  refine v_goto X 27 d_M_expiry_20 (by decide) ?_
  exact v_lret X Y (by decide) (by decide) d_M_expiry_27 ⟨rfl, rfl⟩

def f_M_holderG (gr : Bool) (ow : Int32) : Int32 := if gr = true then ow else (-1)
set_option maxHeartbeats 4000000 in
set_option maxRecDepth 100000 in
theorem c_M_holderG (l : Launch) (D : va_G) (z : Nat → ClassId) (o : Nat) (sa : Nat) (la : Nat) (e : Nat) (d : Nat) (dr : Int32) (sf : Int32) (nw : Int64) (ls : Int64) (fl : Nat → Option Nat) (r : Nat) (gr : Bool) (ow : Int32) (un : Int64) (i : Nat) (hi9 : i < 4) (hf9 : fl i = some r) : Ctr l D z y_M_holder b_M_holder 3 (some .int) { frames := 1, cells := 0, slots := 0, locals := 21 } [.ref o, .int (nI i)] [(o, .inr (4, [.ref sa, .ref la, .ref e, .ref d, .int dr, .int sf, .long nw, .long ls])), (la, .inl (z 4, 4, .inr (.inr (.inr (.inr fl))))), (r, .inr (1, [.int (bI gr), .int ow, .long un]))] (fun v w => v = some (.int (f_M_holderG gr ow)) ∧ w = [(o, .inr (4, [.ref sa, .ref la, .ref e, .ref d, .int dr, .int sf, .long nw, .long ls])), (la, .inl (z 4, 4, .inr (.inr (.inr (.inr fl))))), (r, .inr (1, [.int (bI gr), .int ow, .long un]))]) 0 0 := by
  refine met_V (own := R_M) (nm := "holder") (by decide +kernel) rfl rfl (Nat.le_of_ble_eq_true rfl) ?_
  intro κ hl hD hz X Y
  subst hl
  subst hD
  subst hz
  show V κ 3 0 0 0 [(0, .ref o), (1, .int (nI i))] [] [(o, .inr (4, [.ref sa, .ref la, .ref e, .ref d, .int dr, .int sf, .long nw, .long ls])), (la, .inl (κ.z 4, 4, .inr (.inr (.inr (.inr fl))))), (r, .inr (1, [.int (bI gr), .int ow, .long un]))]
  refine v_aload_n X 0 d_M_holder_0 rfl ?_
  refine v_iload_n X 1 d_M_holder_1 rfl ?_
  refine v_callV X (b := o) (n9 := 1) (As := [.int (nI i)]) (rest := []) (wc := [(o, .inr (4, [.ref sa, .ref la, .ref e, .ref d, .int dr, .int sf, .long nw, .long ls])), (la, .inl (κ.z 4, 4, .inr (.inr (.inr (.inr fl)))))]) (wr := [(r, .inr (1, [.int (bI gr), .int ow, .long un]))]) (c_M_leaseOrNullG κ.l κ.D κ.z o sa la e d dr sf nw ls fl i r (by omega) (by omega) hf9) 0 rfl rfl m386 m387 m13 m30 (by decide +kernel) rfl (Nat.le_of_ble_eq_true rfl) ⟨by decide, by decide⟩ ⟨by decide, by decide⟩ rfl rfl m388 d_M_holder_2 (fun v w1 hg => ?_)
  obtain ⟨rfl, rfl⟩ := hg
  show V κ 3 0 0 5 [(0, .ref o), (1, .int (nI i))] [.ref r] [(o, .inr (4, [.ref sa, .ref la, .ref e, .ref d, .int dr, .int sf, .long nw, .long ls])), (la, .inl (κ.z 4, 4, .inr (.inr (.inr (.inr fl))))), (r, .inr (1, [.int (bI gr), .int ow, .long un]))]
  refine v_astore_n X d_M_holder_5 rfl (by decide) (lv' := [(2, .ref r), (0, .ref o), (1, .int (nI i))]) rfl ?_
  refine v_aload_n X 0 d_M_holder_6 rfl ?_
  refine v_ifnull X d_M_holder_7 ?_
  refine v_aload_n X 0 d_M_holder_10 rfl ?_
  refine v_get X 2 0 rfl rfl li_Le (by decide) m92 rfl d_M_holder_11 ?_
  suffices hm14 : V κ 3 0 0 25 [(2, .ref r), (0, .ref o), (1, .int (nI i))] [.int (if gr = true then ow else (-1))] [(o, .inr (4, [.ref sa, .ref la, .ref e, .ref d, .int dr, .int sf, .long nw, .long ls])), (la, .inl (κ.z 4, 4, .inr (.inr (.inr (.inr fl))))), (r, .inr (1, [.int (bI gr), .int ow, .long un]))] by
    refine v_ifB_ne X 21 (t := gr) d_M_holder_14 (by decide) (fun c14 => ?_) (fun c14 => ?_)
    · skip
      refine v_aload_n X 0 d_M_holder_21 rfl ?_
      refine v_get X 2 1 rfl rfl li_Le (by decide) m94 rfl d_M_holder_22 ?_
      have h9 := hm14; simp only [if_pos c14] at h9; first | exact h9 | (simp only [if_pos c14]; exact h9)
    · skip
      refine v_iconst X (-1) d_M_holder_17 (by decide) ?_
      refine v_goto X 25 d_M_holder_18 (by decide) ?_
      have h9 := hm14; simp only [if_neg c14] at h9; first | exact h9 | (simp only [if_neg c14]; exact h9)
  exact v_iret X Y (by decide) (by decide) d_M_holder_25 ⟨rfl, rfl⟩

set_option maxHeartbeats 4000000 in
set_option maxRecDepth 100000 in
theorem c_M_holderB (l : Launch) (D : va_G) (z : Nat → ClassId) (o : Nat) (sa : Nat) (la : Nat) (e : Nat) (d : Nat) (dr : Int32) (sf : Int32) (nw : Int64) (ls : Int64) (fl : Nat → Option Nat) (s : Int32) (hb9 : ¬ s < 0 → ¬ s < nI 4) : Ctr l D z y_M_holder b_M_holder 3 (some .int) { frames := 1, cells := 0, slots := 0, locals := 21 } [.ref o, .int s] [(o, .inr (4, [.ref sa, .ref la, .ref e, .ref d, .int dr, .int sf, .long nw, .long ls])), (la, .inl (z 4, 4, .inr (.inr (.inr (.inr fl)))))] (fun v w => v = some (.int (-1 : Int32)) ∧ w = [(o, .inr (4, [.ref sa, .ref la, .ref e, .ref d, .int dr, .int sf, .long nw, .long ls])), (la, .inl (z 4, 4, .inr (.inr (.inr (.inr fl)))))]) 0 0 := by
  refine met_V (own := R_M) (nm := "holder") (by decide +kernel) rfl rfl (Nat.le_of_ble_eq_true rfl) ?_
  intro κ hl hD hz X Y
  subst hl
  subst hD
  subst hz
  show V κ 3 0 0 0 [(0, .ref o), (1, .int s)] [] [(o, .inr (4, [.ref sa, .ref la, .ref e, .ref d, .int dr, .int sf, .long nw, .long ls])), (la, .inl (κ.z 4, 4, .inr (.inr (.inr (.inr fl)))))]
  refine v_aload_n X 0 d_M_holder_0 rfl ?_
  refine v_iload_n X 1 d_M_holder_1 rfl ?_
  refine v_callV X (b := o) (n9 := 1) (As := [.int s]) (rest := []) (wc := [(o, .inr (4, [.ref sa, .ref la, .ref e, .ref d, .int dr, .int sf, .long nw, .long ls])), (la, .inl (κ.z 4, 4, .inr (.inr (.inr (.inr fl)))))]) (wr := []) (c_M_leaseOrNullB κ.l κ.D κ.z o sa la e d dr sf nw ls fl s hb9) 0 rfl rfl m386 m387 m13 m30 (by decide +kernel) rfl (Nat.le_of_ble_eq_true rfl) ⟨by decide, by decide⟩ ⟨by decide, by decide⟩ rfl rfl m388 d_M_holder_2 (fun v w1 hg => ?_)
  obtain ⟨rfl, rfl⟩ := hg
  show V κ 3 0 0 5 [(0, .ref o), (1, .int s)] [.null] [(o, .inr (4, [.ref sa, .ref la, .ref e, .ref d, .int dr, .int sf, .long nw, .long ls])), (la, .inl (κ.z 4, 4, .inr (.inr (.inr (.inr fl)))))]
  refine v_astore_nN X d_M_holder_5 rfl (by decide) (lv' := [(2, .null), (0, .ref o), (1, .int s)]) rfl ?_
  refine v_aload_nN X 0 d_M_holder_6 rfl ?_
  refine v_ifnullN X 17 d_M_holder_7 (by decide) ?_
  refine v_iconst X (-1) d_M_holder_17 (by decide) ?_
  refine v_goto X 25 d_M_holder_18 (by decide) ?_
  exact v_iret X Y (by decide) (by decide) d_M_holder_25 ⟨rfl, rfl⟩

def f_M_holdsG (gr : Bool) (ow : Int32) (un : Int64) (x : Int32) (y : Int64) (t : Int64) : Bool := if gr = true then (if ow = x then (if t < 0 then false else (if 1099511627776 < t then false else (if y < (-1099511627776) then false else (if y ≤ 2199023255552 then (if un ≤ (y + t) then false else true) else false)))) else false) else false
set_option maxHeartbeats 4000000 in
set_option maxRecDepth 100000 in
theorem c_M_holdsG (l : Launch) (D : va_G) (z : Nat → ClassId) (o : Nat) (sa : Nat) (la : Nat) (e : Nat) (d : Nat) (dr : Int32) (sf : Int32) (nw : Int64) (ls : Int64) (fl : Nat → Option Nat) (r : Nat) (gr : Bool) (ow : Int32) (un : Int64) (i : Nat) (x : Int32) (y : Int64) (t : Int64) (hi9 : i < 4) (hf9 : fl i = some r) : Ctr l D z y_M_holds b_M_holds 8 (some .boolean) { frames := 1, cells := 0, slots := 0, locals := 21 } [.ref o, .int (nI i), .int x, .long y, .long t] [(o, .inr (4, [.ref sa, .ref la, .ref e, .ref d, .int dr, .int sf, .long nw, .long ls])), (la, .inl (z 4, 4, .inr (.inr (.inr (.inr fl))))), (r, .inr (1, [.int (bI gr), .int ow, .long un]))] (fun v w => v = some (.int (bI (f_M_holdsG gr ow un x y t))) ∧ w = [(o, .inr (4, [.ref sa, .ref la, .ref e, .ref d, .int dr, .int sf, .long nw, .long ls])), (la, .inl (z 4, 4, .inr (.inr (.inr (.inr fl))))), (r, .inr (1, [.int (bI gr), .int ow, .long un]))]) 0 0 := by
  refine met_V (own := R_M) (nm := "holds") (by decide +kernel) rfl rfl (Nat.le_of_ble_eq_true rfl) ?_
  intro κ hl hD hz X Y
  subst hl
  subst hD
  subst hz
  show V κ 8 0 0 0 [(0, .ref o), (1, .int (nI i)), (2, .int x), (3, .long y), (5, .long t)] [] [(o, .inr (4, [.ref sa, .ref la, .ref e, .ref d, .int dr, .int sf, .long nw, .long ls])), (la, .inl (κ.z 4, 4, .inr (.inr (.inr (.inr fl))))), (r, .inr (1, [.int (bI gr), .int ow, .long un]))]
  refine v_aload_n X 0 d_M_holds_0 rfl ?_
  refine v_iload_n X 1 d_M_holds_1 rfl ?_
  refine v_callV X (b := o) (n9 := 1) (As := [.int (nI i)]) (rest := []) (wc := [(o, .inr (4, [.ref sa, .ref la, .ref e, .ref d, .int dr, .int sf, .long nw, .long ls])), (la, .inl (κ.z 4, 4, .inr (.inr (.inr (.inr fl)))))]) (wr := [(r, .inr (1, [.int (bI gr), .int ow, .long un]))]) (c_M_leaseOrNullG κ.l κ.D κ.z o sa la e d dr sf nw ls fl i r (by omega) (by omega) hf9) 0 rfl rfl m386 m387 m13 m30 (by decide +kernel) rfl (Nat.le_of_ble_eq_true rfl) ⟨by decide, by decide⟩ ⟨by decide, by decide⟩ rfl rfl m388 d_M_holds_2 (fun v w1 hg => ?_)
  obtain ⟨rfl, rfl⟩ := hg
  show V κ 8 0 0 5 [(0, .ref o), (1, .int (nI i)), (2, .int x), (3, .long y), (5, .long t)] [.ref r] [(o, .inr (4, [.ref sa, .ref la, .ref e, .ref d, .int dr, .int sf, .long nw, .long ls])), (la, .inl (κ.z 4, 4, .inr (.inr (.inr (.inr fl))))), (r, .inr (1, [.int (bI gr), .int ow, .long un]))]
  refine v_astore X d_M_holds_5 (by decide) (lv' := [(7, .ref r), (0, .ref o), (1, .int (nI i)), (2, .int x), (3, .long y), (5, .long t)]) rfl ?_
  refine v_aload X 0 d_M_holds_7 rfl ?_
  refine v_ifnull X d_M_holds_9 ?_
  refine v_aload X 0 d_M_holds_12 rfl ?_
  refine v_get X 2 0 rfl rfl li_Le (by decide) m92 rfl d_M_holds_14 ?_
  refine v_ifB_eq X 29 (t := gr) d_M_holds_17 (by decide) (fun c17 => ?_) (fun c17 => ?_)
  · skip
    refine v_iconst X 0 d_M_holds_29 (by decide) ?_
    exact v_zret X Y (by decide) (by decide) d_M_holds_30 rfl ⟨by simp only [f_M_holdsG, if_neg c17] <;> rfl, rfl⟩
  · skip
    refine v_aload X 0 d_M_holds_20 rfl ?_
    refine v_get X 2 1 rfl rfl li_Le (by decide) m94 rfl d_M_holds_22 ?_
    refine v_iload_n X 3 d_M_holds_25 rfl ?_
    refine v_icmp_eq X 31 d_M_holds_26 (by decide) (fun c26 => ?_) (fun c26 => ?_)
    · skip
      refine v_lload X 5 d_M_holds_31 rfl ?_
      refine v_lconst X 0 d_M_holds_33 (by decide) ?_
      refine v_lcmp_lt X 63 d_M_holds_34 d_M_holds_35 (by decide) (fun c34 => ?_) (fun c34 => ?_)
      · skip
        refine v_iconst X 0 d_M_holds_63 (by decide) ?_
        exact v_zret X Y (by decide) (by decide) d_M_holds_64 rfl ⟨by simp only [f_M_holdsG, if_pos c17, if_pos c26, if_pos c34] <;> rfl, rfl⟩
      · skip
        refine v_lload X 5 d_M_holds_38 rfl ?_
        refine v_ldc2 X (v := 1099511627776) m212 d_M_holds_40 ?_
        refine v_lcmp_gt X 63 d_M_holds_43 d_M_holds_44 (by decide) (fun c43 => ?_) (fun c43 => ?_)
        · skip
          refine v_iconst X 0 d_M_holds_63 (by decide) ?_
          exact v_zret X Y (by decide) (by decide) d_M_holds_64 rfl ⟨by simp only [f_M_holdsG, if_pos c17, if_pos c26, if_neg c34, if_pos c43] <;> rfl, rfl⟩
        · skip
          refine v_lload_n X 4 d_M_holds_47 rfl ?_
          refine v_ldc2 X (v := (-1099511627776)) m405 d_M_holds_48 ?_
          refine v_lcmp_lt X 63 d_M_holds_51 d_M_holds_52 (by decide) (fun c51 => ?_) (fun c51 => ?_)
          · skip
            refine v_iconst X 0 d_M_holds_63 (by decide) ?_
            exact v_zret X Y (by decide) (by decide) d_M_holds_64 rfl ⟨by simp only [f_M_holdsG, if_pos c17, if_pos c26, if_neg c34, if_neg c43, if_pos c51] <;> rfl, rfl⟩
          · skip
            refine v_lload_n X 4 d_M_holds_55 rfl ?_
            refine v_ldc2 X (v := 2199023255552) m406 d_M_holds_56 ?_
            refine v_lcmp_le X 65 d_M_holds_59 d_M_holds_60 (by decide) (fun c59 => ?_) (fun c59 => ?_)
            · skip
              refine v_lload_n X 4 d_M_holds_65 rfl ?_
              refine v_lload X 5 d_M_holds_66 rfl ?_
              refine v_ladd X d_M_holds_68 ?_
              refine v_aload X 0 d_M_holds_69 rfl ?_
              refine v_get X 2 2 rfl rfl li_Le (by decide) m96 rfl d_M_holds_71 ?_
              suffices hm74 : V κ 8 0 0 83 [(7, .ref r), (0, .ref o), (1, .int (nI i)), (2, .int x), (3, .long y), (5, .long t)] [.int (bI (if un ≤ (y + t) then false else true))] [(o, .inr (4, [.ref sa, .ref la, .ref e, .ref d, .int dr, .int sf, .long nw, .long ls])), (la, .inl (κ.z 4, 4, .inr (.inr (.inr (.inr fl))))), (r, .inr (1, [.int (bI gr), .int ow, .long un]))] by
                refine v_lcmp_ge X 82 d_M_holds_74 d_M_holds_75 (by decide) (fun c74 => ?_) (fun c74 => ?_)
                · skip
                  refine v_iconst X 0 d_M_holds_82 (by decide) ?_
                  have h9 := hm74; simp only [if_pos c74] at h9; first | exact h9 | (simp only [if_pos c74]; exact h9)
                · skip
                  refine v_iconst X 1 d_M_holds_78 (by decide) ?_
                  refine v_goto X 83 d_M_holds_79 (by decide) ?_
                  have h9 := hm74; simp only [if_neg c74] at h9; first | exact h9 | (simp only [if_neg c74]; exact h9)
              exact v_zret X Y (by decide) (by decide) d_M_holds_83 (narB _) ⟨by simp only [f_M_holdsG, if_pos c17, if_pos c26, if_neg c34, if_neg c43, if_neg c51, if_pos c59] <;> rfl, rfl⟩
            · skip
              refine v_iconst X 0 d_M_holds_63 (by decide) ?_
              exact v_zret X Y (by decide) (by decide) d_M_holds_64 rfl ⟨by simp only [f_M_holdsG, if_pos c17, if_pos c26, if_neg c34, if_neg c43, if_neg c51, if_neg c59] <;> rfl, rfl⟩
    · skip
      refine v_iconst X 0 d_M_holds_29 (by decide) ?_
      exact v_zret X Y (by decide) (by decide) d_M_holds_30 rfl ⟨by simp only [f_M_holdsG, if_pos c17, if_neg c26] <;> rfl, rfl⟩

set_option maxHeartbeats 4000000 in
set_option maxRecDepth 100000 in
theorem c_M_holdsB (l : Launch) (D : va_G) (z : Nat → ClassId) (o : Nat) (sa : Nat) (la : Nat) (e : Nat) (d : Nat) (dr : Int32) (sf : Int32) (nw : Int64) (ls : Int64) (fl : Nat → Option Nat) (s : Int32) (x : Int32) (y : Int64) (t : Int64) (hb9 : ¬ s < 0 → ¬ s < nI 4) : Ctr l D z y_M_holds b_M_holds 8 (some .boolean) { frames := 1, cells := 0, slots := 0, locals := 21 } [.ref o, .int s, .int x, .long y, .long t] [(o, .inr (4, [.ref sa, .ref la, .ref e, .ref d, .int dr, .int sf, .long nw, .long ls])), (la, .inl (z 4, 4, .inr (.inr (.inr (.inr fl)))))] (fun v w => v = some (.int (bI false)) ∧ w = [(o, .inr (4, [.ref sa, .ref la, .ref e, .ref d, .int dr, .int sf, .long nw, .long ls])), (la, .inl (z 4, 4, .inr (.inr (.inr (.inr fl)))))]) 0 0 := by
  refine met_V (own := R_M) (nm := "holds") (by decide +kernel) rfl rfl (Nat.le_of_ble_eq_true rfl) ?_
  intro κ hl hD hz X Y
  subst hl
  subst hD
  subst hz
  show V κ 8 0 0 0 [(0, .ref o), (1, .int s), (2, .int x), (3, .long y), (5, .long t)] [] [(o, .inr (4, [.ref sa, .ref la, .ref e, .ref d, .int dr, .int sf, .long nw, .long ls])), (la, .inl (κ.z 4, 4, .inr (.inr (.inr (.inr fl)))))]
  refine v_aload_n X 0 d_M_holds_0 rfl ?_
  refine v_iload_n X 1 d_M_holds_1 rfl ?_
  refine v_callV X (b := o) (n9 := 1) (As := [.int s]) (rest := []) (wc := [(o, .inr (4, [.ref sa, .ref la, .ref e, .ref d, .int dr, .int sf, .long nw, .long ls])), (la, .inl (κ.z 4, 4, .inr (.inr (.inr (.inr fl)))))]) (wr := []) (c_M_leaseOrNullB κ.l κ.D κ.z o sa la e d dr sf nw ls fl s hb9) 0 rfl rfl m386 m387 m13 m30 (by decide +kernel) rfl (Nat.le_of_ble_eq_true rfl) ⟨by decide, by decide⟩ ⟨by decide, by decide⟩ rfl rfl m388 d_M_holds_2 (fun v w1 hg => ?_)
  obtain ⟨rfl, rfl⟩ := hg
  show V κ 8 0 0 5 [(0, .ref o), (1, .int s), (2, .int x), (3, .long y), (5, .long t)] [.null] [(o, .inr (4, [.ref sa, .ref la, .ref e, .ref d, .int dr, .int sf, .long nw, .long ls])), (la, .inl (κ.z 4, 4, .inr (.inr (.inr (.inr fl)))))]
  refine v_astoreN X d_M_holds_5 (by decide) (lv' := [(7, .null), (0, .ref o), (1, .int s), (2, .int x), (3, .long y), (5, .long t)]) rfl ?_
  refine v_aloadN X 0 d_M_holds_7 rfl ?_
  refine v_ifnullN X 29 d_M_holds_9 (by decide) ?_
  refine v_iconst X 0 d_M_holds_29 (by decide) ?_
  exact v_zret X Y (by decide) (by decide) d_M_holds_30 rfl ⟨rfl, rfl⟩

def f_M_grantG (dr : Int32) (nw : Int64) (gr : Bool) (ow : Int32) (un : Int64) (st : Bool) (sin : Int64) (sta : Int64) (tg : Int64) (er : Int64) (x : Int32) (y : Int32) : Int64 := if x < 0 then (-4611686018427387904) else if y < 1 then (-4611686018427387904) else if 1000000 < y then (-4611686018427387904) else if st = true then if gr = true then if (f_M_mayFollow dr nw st sin sta tg er ow un x ((f_M_time nw st sin sta tg) + y.toInt64)) = true then (f_M_time nw st sin sta tg) + y.toInt64 else (-4611686018427387904) else (f_M_time nw st sin sta tg) + y.toInt64 else (-4611686018427387904)
def f_M_grantG_Le_granted (dr : Int32) (nw : Int64) (gr : Bool) (ow : Int32) (un : Int64) (st : Bool) (sin : Int64) (sta : Int64) (tg : Int64) (er : Int64) (x : Int32) (y : Int32) : Bool := if x < 0 then gr else (if y < 1 then gr else (if 1000000 < y then gr else (if st = true then (if gr = true then (if (f_M_mayFollow dr nw st sin sta tg er ow un x ((f_M_time nw st sin sta tg) + y.toInt64)) = true then true else gr) else true) else gr)))
def f_M_grantG_Le_owner (dr : Int32) (nw : Int64) (gr : Bool) (ow : Int32) (un : Int64) (st : Bool) (sin : Int64) (sta : Int64) (tg : Int64) (er : Int64) (x : Int32) (y : Int32) : Int32 := if x < 0 then ow else (if y < 1 then ow else (if 1000000 < y then ow else (if st = true then (if gr = true then (if (f_M_mayFollow dr nw st sin sta tg er ow un x ((f_M_time nw st sin sta tg) + y.toInt64)) = true then x else ow) else x) else ow)))
def f_M_grantG_Le_until (dr : Int32) (nw : Int64) (gr : Bool) (ow : Int32) (un : Int64) (st : Bool) (sin : Int64) (sta : Int64) (tg : Int64) (er : Int64) (x : Int32) (y : Int32) : Int64 := if x < 0 then un else if y < 1 then un else if 1000000 < y then un else if st = true then if gr = true then if (f_M_mayFollow dr nw st sin sta tg er ow un x ((f_M_time nw st sin sta tg) + y.toInt64)) = true then ((f_M_time nw st sin sta tg) + y.toInt64) else un else ((f_M_time nw st sin sta tg) + y.toInt64) else un
set_option maxHeartbeats 4000000 in
set_option maxRecDepth 100000 in
theorem c_M_grantG (l : Launch) (D : va_G) (z : Nat → ClassId) (o : Nat) (sa : Nat) (la : Nat) (e : Nat) (d : Nat) (dr : Int32) (sf : Int32) (nw : Int64) (ls : Int64) (fl : Nat → Option Nat) (r : Nat) (gr : Bool) (ow : Int32) (un : Int64) (st : Bool) (sin : Int64) (sta : Int64) (tg : Int64) (er : Int64) (vl : Int64) (vh : Int64) (sb : Int32) (os : Int32) (i : Nat) (x : Int32) (y : Int32) (hi9 : i < 4) (hf9 : fl i = some r) : Ctr l D z y_M_grant b_M_grant 7 (some .long) { frames := 6, cells := 0, slots := 0, locals := 137 } [.ref o, .int (nI i), .int x, .int y] [(o, .inr (4, [.ref sa, .ref la, .ref e, .ref d, .int dr, .int sf, .long nw, .long ls])), (la, .inl (z 4, 4, .inr (.inr (.inr (.inr fl))))), (r, .inr (1, [.int (bI gr), .int ow, .long un])), (d, .inr (2, [.int (bI st), .long sin, .long sta, .long tg, .long er, .long vl, .long vh, .int sb, .int os]))] (fun v w => v = some (.long (f_M_grantG dr nw gr ow un st sin sta tg er x y)) ∧ w = [(o, .inr (4, [.ref sa, .ref la, .ref e, .ref d, .int dr, .int sf, .long nw, .long ls])), (la, .inl (z 4, 4, .inr (.inr (.inr (.inr fl))))), (r, .inr (1, [.int (bI (f_M_grantG_Le_granted dr nw gr ow un st sin sta tg er x y)), .int (f_M_grantG_Le_owner dr nw gr ow un st sin sta tg er x y), .long (f_M_grantG_Le_until dr nw gr ow un st sin sta tg er x y)])), (d, .inr (2, [.int (bI st), .long sin, .long sta, .long tg, .long er, .long vl, .long vh, .int sb, .int os]))]) 0 0 := by
  refine met_V (own := R_M) (nm := "grant") (by decide +kernel) rfl rfl (Nat.le_of_ble_eq_true rfl) ?_
  intro κ hl hD hz X Y
  subst hl
  subst hD
  subst hz
  show V κ 7 0 0 0 [(0, .ref o), (1, .int (nI i)), (2, .int x), (3, .int y)] [] [(o, .inr (4, [.ref sa, .ref la, .ref e, .ref d, .int dr, .int sf, .long nw, .long ls])), (la, .inl (κ.z 4, 4, .inr (.inr (.inr (.inr fl))))), (r, .inr (1, [.int (bI gr), .int ow, .long un])), (d, .inr (2, [.int (bI st), .long sin, .long sta, .long tg, .long er, .long vl, .long vh, .int sb, .int os]))]
  refine v_aload_n X 0 d_M_grant_0 rfl ?_
  refine v_iload_n X 1 d_M_grant_1 rfl ?_
  refine v_callV X (b := o) (n9 := 1) (As := [.int (nI i)]) (rest := []) (wc := [(o, .inr (4, [.ref sa, .ref la, .ref e, .ref d, .int dr, .int sf, .long nw, .long ls])), (la, .inl (κ.z 4, 4, .inr (.inr (.inr (.inr fl)))))]) (wr := [(r, .inr (1, [.int (bI gr), .int ow, .long un])), (d, .inr (2, [.int (bI st), .long sin, .long sta, .long tg, .long er, .long vl, .long vh, .int sb, .int os]))]) (c_M_leaseOrNullG κ.l κ.D κ.z o sa la e d dr sf nw ls fl i r (by omega) (by omega) hf9) 0 rfl rfl m386 m387 m13 m30 (by decide +kernel) rfl (Nat.le_of_ble_eq_true rfl) ⟨by decide, by decide⟩ ⟨by decide, by decide⟩ rfl rfl m388 d_M_grant_2 (fun v w1 hg => ?_)
  obtain ⟨rfl, rfl⟩ := hg
  show V κ 7 0 0 5 [(0, .ref o), (1, .int (nI i)), (2, .int x), (3, .int y)] [.ref r] [(o, .inr (4, [.ref sa, .ref la, .ref e, .ref d, .int dr, .int sf, .long nw, .long ls])), (la, .inl (κ.z 4, 4, .inr (.inr (.inr (.inr fl))))), (r, .inr (1, [.int (bI gr), .int ow, .long un])), (d, .inr (2, [.int (bI st), .long sin, .long sta, .long tg, .long er, .long vl, .long vh, .int sb, .int os]))]
  refine v_astore X d_M_grant_5 (by decide) (lv' := [(4, .ref r), (0, .ref o), (1, .int (nI i)), (2, .int x), (3, .int y)]) rfl ?_
  refine v_aload X 0 d_M_grant_7 rfl ?_
  refine v_ifnull X d_M_grant_9 ?_
  refine v_iload_n X 3 d_M_grant_12 rfl ?_
  refine v_if_lt X 37 d_M_grant_13 (by decide) (fun c13 => ?_) (fun c13 => ?_)
  · skip
    refine v_ldc2 X (v := (-4611686018427387904)) m197 d_M_grant_37 ?_
    exact v_lret X Y (by decide) (by decide) d_M_grant_40 ⟨by simp only [f_M_grantG, f_M_grantG_Le_granted, f_M_grantG_Le_owner, f_M_grantG_Le_until, if_pos c13] <;> rfl, by simp only [f_M_grantG, f_M_grantG_Le_granted, f_M_grantG_Le_owner, f_M_grantG_Le_until, if_pos c13] <;> rfl⟩
  · skip
    refine v_iload_n X 4 d_M_grant_16 rfl ?_
    refine v_iconst X 1 d_M_grant_17 (by decide) ?_
    refine v_icmp_lt X 37 d_M_grant_18 (by decide) (fun c18 => ?_) (fun c18 => ?_)
    · skip
      refine v_ldc2 X (v := (-4611686018427387904)) m197 d_M_grant_37 ?_
      exact v_lret X Y (by decide) (by decide) d_M_grant_40 ⟨by simp only [f_M_grantG, f_M_grantG_Le_granted, f_M_grantG_Le_owner, f_M_grantG_Le_until, if_neg c13, if_pos c18] <;> rfl, by simp only [f_M_grantG, f_M_grantG_Le_granted, f_M_grantG_Le_owner, f_M_grantG_Le_until, if_neg c13, if_pos c18] <;> rfl⟩
    · skip
      refine v_iload_n X 4 d_M_grant_21 rfl ?_
      refine v_ldc X (v := 1000000) m170 d_M_grant_22 ?_
      refine v_icmp_gt X 37 d_M_grant_24 (by decide) (fun c24 => ?_) (fun c24 => ?_)
      · skip
        refine v_ldc2 X (v := (-4611686018427387904)) m197 d_M_grant_37 ?_
        exact v_lret X Y (by decide) (by decide) d_M_grant_40 ⟨by simp only [f_M_grantG, f_M_grantG_Le_granted, f_M_grantG_Le_owner, f_M_grantG_Le_until, if_neg c13, if_neg c18, if_pos c24] <;> rfl, by simp only [f_M_grantG, f_M_grantG_Le_granted, f_M_grantG_Le_owner, f_M_grantG_Le_until, if_neg c13, if_neg c18, if_pos c24] <;> rfl⟩
      · skip
        refine v_aload_n X 1 d_M_grant_27 rfl ?_
        refine v_get X 0 3 rfl rfl li_M (by decide) m153 rfl d_M_grant_28 ?_
        refine v_get X 3 0 rfl rfl li_Sd (by decide) m128 rfl d_M_grant_31 ?_
        refine v_ifB_ne X 41 (t := st) d_M_grant_34 (by decide) (fun c34 => ?_) (fun c34 => ?_)
        · skip
          refine v_aload_n X 1 d_M_grant_41 rfl ?_
          refine v_perm (perm_idx (α := Nat × va_E) (ws := [(o, .inr (4, [.ref sa, .ref la, .ref e, .ref d, .int dr, .int sf, .long nw, .long ls])), (la, .inl (κ.z 4, 4, .inr (.inr (.inr (.inr fl))))), (r, .inr (1, [.int (bI gr), .int ow, .long un])), (d, .inr (2, [.int (bI st), .long sin, .long sta, .long tg, .long er, .long vl, .long vh, .int sb, .int os]))]) (ws' := [(o, .inr (4, [.ref sa, .ref la, .ref e, .ref d, .int dr, .int sf, .long nw, .long ls])), (d, .inr (2, [.int (bI st), .long sin, .long sta, .long tg, .long er, .long vl, .long vh, .int sb, .int os])), (la, .inl (κ.z 4, 4, .inr (.inr (.inr (.inr fl))))), (r, .inr (1, [.int (bI gr), .int ow, .long un]))]) [0, 3, 1, 2] rfl rfl) ?_
          refine v_callV X (b := o) (n9 := 0) (As := []) (rest := []) (wc := [(o, .inr (4, [.ref sa, .ref la, .ref e, .ref d, .int dr, .int sf, .long nw, .long ls])), (d, .inr (2, [.int (bI st), .long sin, .long sta, .long tg, .long er, .long vl, .long vh, .int sb, .int os]))]) (wr := [(la, .inl (κ.z 4, 4, .inr (.inr (.inr (.inr fl))))), (r, .inr (1, [.int (bI gr), .int ow, .long un]))]) (c_M_time κ.l κ.D κ.z o sa la e d dr sf nw ls st sin sta tg er vl vh sb os ) 0 rfl rfl m389 m370 m371 m30 (by decide +kernel) rfl (Nat.le_of_ble_eq_true rfl) ⟨by decide, by decide⟩ ⟨by decide, by decide⟩ rfl rfl m372 d_M_grant_42 (fun v w1 hg => ?_)
          obtain ⟨rfl, rfl⟩ := hg
          refine v_perm (perm_idx (α := Nat × va_E) (ws := [(o, .inr (4, [.ref sa, .ref la, .ref e, .ref d, .int dr, .int sf, .long nw, .long ls])), (d, .inr (2, [.int (bI st), .long sin, .long sta, .long tg, .long er, .long vl, .long vh, .int sb, .int os])), (la, .inl (κ.z 4, 4, .inr (.inr (.inr (.inr fl))))), (r, .inr (1, [.int (bI gr), .int ow, .long un]))]) (ws' := [(o, .inr (4, [.ref sa, .ref la, .ref e, .ref d, .int dr, .int sf, .long nw, .long ls])), (la, .inl (κ.z 4, 4, .inr (.inr (.inr (.inr fl))))), (r, .inr (1, [.int (bI gr), .int ow, .long un])), (d, .inr (2, [.int (bI st), .long sin, .long sta, .long tg, .long er, .long vl, .long vh, .int sb, .int os]))]) [0, 2, 3, 1] rfl rfl) ?_
          show V κ 7 0 0 45 [(4, .ref r), (0, .ref o), (1, .int (nI i)), (2, .int x), (3, .int y)] [.long (f_M_time nw st sin sta tg)] [(o, .inr (4, [.ref sa, .ref la, .ref e, .ref d, .int dr, .int sf, .long nw, .long ls])), (la, .inl (κ.z 4, 4, .inr (.inr (.inr (.inr fl))))), (r, .inr (1, [.int (bI gr), .int ow, .long un])), (d, .inr (2, [.int (bI st), .long sin, .long sta, .long tg, .long er, .long vl, .long vh, .int sb, .int os]))]
          refine v_iload_n X 4 d_M_grant_45 rfl ?_
          refine v_i2l X d_M_grant_46 ?_
          refine v_ladd X d_M_grant_47 ?_
          refine v_lstore X d_M_grant_48 (by decide) (lv' := [(5, .long ((f_M_time nw st sin sta tg) + y.toInt64)), (4, .ref r), (0, .ref o), (1, .int (nI i)), (2, .int x), (3, .int y)]) rfl ?_
          refine v_aload X 1 d_M_grant_50 rfl ?_
          refine v_get X 2 0 rfl rfl li_Le (by decide) m92 rfl d_M_grant_52 ?_
          refine v_ifB_eq X 74 (t := gr) d_M_grant_55 (by decide) (fun c55 => ?_) (fun c55 => ?_)
          · skip
            refine v_aload X 1 d_M_grant_74 rfl ?_
            refine v_iload_n X 4 d_M_grant_76 rfl ?_
            refine v_lload X 0 d_M_grant_77 rfl ?_
            refine v_perm (perm_idx (α := Nat × va_E) (ws := [(o, .inr (4, [.ref sa, .ref la, .ref e, .ref d, .int dr, .int sf, .long nw, .long ls])), (la, .inl (κ.z 4, 4, .inr (.inr (.inr (.inr fl))))), (r, .inr (1, [.int (bI gr), .int ow, .long un])), (d, .inr (2, [.int (bI st), .long sin, .long sta, .long tg, .long er, .long vl, .long vh, .int sb, .int os]))]) (ws' := [(r, .inr (1, [.int (bI gr), .int ow, .long un])), (o, .inr (4, [.ref sa, .ref la, .ref e, .ref d, .int dr, .int sf, .long nw, .long ls])), (la, .inl (κ.z 4, 4, .inr (.inr (.inr (.inr fl))))), (d, .inr (2, [.int (bI st), .long sin, .long sta, .long tg, .long er, .long vl, .long vh, .int sb, .int os]))]) [2, 0, 1, 3] rfl rfl) ?_
            refine v_callV X (b := r) (n9 := 2) (As := [.int x, .long ((f_M_time nw st sin sta tg) + y.toInt64)]) (rest := []) (wc := [(r, .inr (1, [.int (bI gr), .int ow, .long un]))]) (wr := [(o, .inr (4, [.ref sa, .ref la, .ref e, .ref d, .int dr, .int sf, .long nw, .long ls])), (la, .inl (κ.z 4, 4, .inr (.inr (.inr (.inr fl))))), (d, .inr (2, [.int (bI st), .long sin, .long sta, .long tg, .long er, .long vl, .long vh, .int sb, .int os]))]) (c_Le_give κ.l κ.D κ.z r gr ow un x ((f_M_time nw st sin sta tg) + y.toInt64) ) 0 rfl rfl m397 m398 m399 m33 (by decide +kernel) rfl (Nat.le_of_ble_eq_true rfl) ⟨by decide, by decide⟩ ⟨by decide, by decide⟩ rfl rfl m400 d_M_grant_79 (fun v w1 hg => ?_)
            obtain ⟨rfl, rfl⟩ := hg
            refine v_perm (perm_idx (α := Nat × va_E) (ws := [(r, .inr (1, [.int (bI true), .int x, .long ((f_M_time nw st sin sta tg) + y.toInt64)])), (o, .inr (4, [.ref sa, .ref la, .ref e, .ref d, .int dr, .int sf, .long nw, .long ls])), (la, .inl (κ.z 4, 4, .inr (.inr (.inr (.inr fl))))), (d, .inr (2, [.int (bI st), .long sin, .long sta, .long tg, .long er, .long vl, .long vh, .int sb, .int os]))]) (ws' := [(o, .inr (4, [.ref sa, .ref la, .ref e, .ref d, .int dr, .int sf, .long nw, .long ls])), (la, .inl (κ.z 4, 4, .inr (.inr (.inr (.inr fl))))), (r, .inr (1, [.int (bI true), .int x, .long ((f_M_time nw st sin sta tg) + y.toInt64)])), (d, .inr (2, [.int (bI st), .long sin, .long sta, .long tg, .long er, .long vl, .long vh, .int sb, .int os]))]) [1, 2, 0, 3] rfl rfl) ?_
            show V κ 7 0 0 82 [(5, .long ((f_M_time nw st sin sta tg) + y.toInt64)), (4, .ref r), (0, .ref o), (1, .int (nI i)), (2, .int x), (3, .int y)] [] [(o, .inr (4, [.ref sa, .ref la, .ref e, .ref d, .int dr, .int sf, .long nw, .long ls])), (la, .inl (κ.z 4, 4, .inr (.inr (.inr (.inr fl))))), (r, .inr (1, [.int (bI true), .int x, .long ((f_M_time nw st sin sta tg) + y.toInt64)])), (d, .inr (2, [.int (bI st), .long sin, .long sta, .long tg, .long er, .long vl, .long vh, .int sb, .int os]))]
            refine v_lload X 0 d_M_grant_82 rfl ?_
            exact v_lret X Y (by decide) (by decide) d_M_grant_84 ⟨by simp only [f_M_grantG, f_M_grantG_Le_granted, f_M_grantG_Le_owner, f_M_grantG_Le_until, if_neg c13, if_neg c18, if_neg c24, if_pos c34, if_neg c55] <;> rfl, by simp only [f_M_grantG, f_M_grantG_Le_granted, f_M_grantG_Le_owner, f_M_grantG_Le_until, if_neg c13, if_neg c18, if_neg c24, if_pos c34, if_neg c55] <;> rfl⟩
          · skip
            refine v_aload_n X 2 d_M_grant_58 rfl ?_
            refine v_aload X 1 d_M_grant_59 rfl ?_
            refine v_iload_n X 4 d_M_grant_61 rfl ?_
            refine v_lload X 0 d_M_grant_62 rfl ?_
            refine v_perm (perm_idx (α := Nat × va_E) (ws := [(o, .inr (4, [.ref sa, .ref la, .ref e, .ref d, .int dr, .int sf, .long nw, .long ls])), (la, .inl (κ.z 4, 4, .inr (.inr (.inr (.inr fl))))), (r, .inr (1, [.int (bI gr), .int ow, .long un])), (d, .inr (2, [.int (bI st), .long sin, .long sta, .long tg, .long er, .long vl, .long vh, .int sb, .int os]))]) (ws' := [(o, .inr (4, [.ref sa, .ref la, .ref e, .ref d, .int dr, .int sf, .long nw, .long ls])), (d, .inr (2, [.int (bI st), .long sin, .long sta, .long tg, .long er, .long vl, .long vh, .int sb, .int os])), (r, .inr (1, [.int (bI gr), .int ow, .long un])), (la, .inl (κ.z 4, 4, .inr (.inr (.inr (.inr fl)))))]) [0, 3, 2, 1] rfl rfl) ?_
            refine v_callV X (b := o) (n9 := 3) (As := [.ref r, .int x, .long ((f_M_time nw st sin sta tg) + y.toInt64)]) (rest := []) (wc := [(o, .inr (4, [.ref sa, .ref la, .ref e, .ref d, .int dr, .int sf, .long nw, .long ls])), (d, .inr (2, [.int (bI st), .long sin, .long sta, .long tg, .long er, .long vl, .long vh, .int sb, .int os])), (r, .inr (1, [.int (bI gr), .int ow, .long un]))]) (wr := [(la, .inl (κ.z 4, 4, .inr (.inr (.inr (.inr fl)))))]) (c_M_mayFollow κ.l κ.D κ.z o sa la e d dr sf nw ls st sin sta tg er vl vh sb os r gr ow un x ((f_M_time nw st sin sta tg) + y.toInt64) ) 0 rfl rfl m390 m391 m14 m30 (by decide +kernel) rfl (Nat.le_of_ble_eq_true rfl) ⟨by decide, by decide⟩ ⟨by decide, by decide⟩ rfl rfl m392 d_M_grant_64 (fun v w1 hg => ?_)
            obtain ⟨rfl, rfl⟩ := hg
            refine v_perm (perm_idx (α := Nat × va_E) (ws := [(o, .inr (4, [.ref sa, .ref la, .ref e, .ref d, .int dr, .int sf, .long nw, .long ls])), (d, .inr (2, [.int (bI st), .long sin, .long sta, .long tg, .long er, .long vl, .long vh, .int sb, .int os])), (r, .inr (1, [.int (bI gr), .int ow, .long un])), (la, .inl (κ.z 4, 4, .inr (.inr (.inr (.inr fl)))))]) (ws' := [(o, .inr (4, [.ref sa, .ref la, .ref e, .ref d, .int dr, .int sf, .long nw, .long ls])), (la, .inl (κ.z 4, 4, .inr (.inr (.inr (.inr fl))))), (r, .inr (1, [.int (bI gr), .int ow, .long un])), (d, .inr (2, [.int (bI st), .long sin, .long sta, .long tg, .long er, .long vl, .long vh, .int sb, .int os]))]) [0, 3, 2, 1] rfl rfl) ?_
            show V κ 7 0 0 67 [(5, .long ((f_M_time nw st sin sta tg) + y.toInt64)), (4, .ref r), (0, .ref o), (1, .int (nI i)), (2, .int x), (3, .int y)] [.int (bI (f_M_mayFollow dr nw st sin sta tg er ow un x ((f_M_time nw st sin sta tg) + y.toInt64)))] [(o, .inr (4, [.ref sa, .ref la, .ref e, .ref d, .int dr, .int sf, .long nw, .long ls])), (la, .inl (κ.z 4, 4, .inr (.inr (.inr (.inr fl))))), (r, .inr (1, [.int (bI gr), .int ow, .long un])), (d, .inr (2, [.int (bI st), .long sin, .long sta, .long tg, .long er, .long vl, .long vh, .int sb, .int os]))]
            refine v_ifB_ne X 74 (t := f_M_mayFollow dr nw st sin sta tg er ow un x ((f_M_time nw st sin sta tg) + y.toInt64)) d_M_grant_67 (by decide) (fun c67 => ?_) (fun c67 => ?_)
            · skip
              refine v_aload X 1 d_M_grant_74 rfl ?_
              refine v_iload_n X 4 d_M_grant_76 rfl ?_
              refine v_lload X 0 d_M_grant_77 rfl ?_
              refine v_perm (perm_idx (α := Nat × va_E) (ws := [(o, .inr (4, [.ref sa, .ref la, .ref e, .ref d, .int dr, .int sf, .long nw, .long ls])), (la, .inl (κ.z 4, 4, .inr (.inr (.inr (.inr fl))))), (r, .inr (1, [.int (bI gr), .int ow, .long un])), (d, .inr (2, [.int (bI st), .long sin, .long sta, .long tg, .long er, .long vl, .long vh, .int sb, .int os]))]) (ws' := [(r, .inr (1, [.int (bI gr), .int ow, .long un])), (o, .inr (4, [.ref sa, .ref la, .ref e, .ref d, .int dr, .int sf, .long nw, .long ls])), (la, .inl (κ.z 4, 4, .inr (.inr (.inr (.inr fl))))), (d, .inr (2, [.int (bI st), .long sin, .long sta, .long tg, .long er, .long vl, .long vh, .int sb, .int os]))]) [2, 0, 1, 3] rfl rfl) ?_
              refine v_callV X (b := r) (n9 := 2) (As := [.int x, .long ((f_M_time nw st sin sta tg) + y.toInt64)]) (rest := []) (wc := [(r, .inr (1, [.int (bI gr), .int ow, .long un]))]) (wr := [(o, .inr (4, [.ref sa, .ref la, .ref e, .ref d, .int dr, .int sf, .long nw, .long ls])), (la, .inl (κ.z 4, 4, .inr (.inr (.inr (.inr fl))))), (d, .inr (2, [.int (bI st), .long sin, .long sta, .long tg, .long er, .long vl, .long vh, .int sb, .int os]))]) (c_Le_give κ.l κ.D κ.z r gr ow un x ((f_M_time nw st sin sta tg) + y.toInt64) ) 0 rfl rfl m397 m398 m399 m33 (by decide +kernel) rfl (Nat.le_of_ble_eq_true rfl) ⟨by decide, by decide⟩ ⟨by decide, by decide⟩ rfl rfl m400 d_M_grant_79 (fun v w1 hg => ?_)
              obtain ⟨rfl, rfl⟩ := hg
              refine v_perm (perm_idx (α := Nat × va_E) (ws := [(r, .inr (1, [.int (bI true), .int x, .long ((f_M_time nw st sin sta tg) + y.toInt64)])), (o, .inr (4, [.ref sa, .ref la, .ref e, .ref d, .int dr, .int sf, .long nw, .long ls])), (la, .inl (κ.z 4, 4, .inr (.inr (.inr (.inr fl))))), (d, .inr (2, [.int (bI st), .long sin, .long sta, .long tg, .long er, .long vl, .long vh, .int sb, .int os]))]) (ws' := [(o, .inr (4, [.ref sa, .ref la, .ref e, .ref d, .int dr, .int sf, .long nw, .long ls])), (la, .inl (κ.z 4, 4, .inr (.inr (.inr (.inr fl))))), (r, .inr (1, [.int (bI true), .int x, .long ((f_M_time nw st sin sta tg) + y.toInt64)])), (d, .inr (2, [.int (bI st), .long sin, .long sta, .long tg, .long er, .long vl, .long vh, .int sb, .int os]))]) [1, 2, 0, 3] rfl rfl) ?_
              show V κ 7 0 0 82 [(5, .long ((f_M_time nw st sin sta tg) + y.toInt64)), (4, .ref r), (0, .ref o), (1, .int (nI i)), (2, .int x), (3, .int y)] [] [(o, .inr (4, [.ref sa, .ref la, .ref e, .ref d, .int dr, .int sf, .long nw, .long ls])), (la, .inl (κ.z 4, 4, .inr (.inr (.inr (.inr fl))))), (r, .inr (1, [.int (bI true), .int x, .long ((f_M_time nw st sin sta tg) + y.toInt64)])), (d, .inr (2, [.int (bI st), .long sin, .long sta, .long tg, .long er, .long vl, .long vh, .int sb, .int os]))]
              refine v_lload X 0 d_M_grant_82 rfl ?_
              exact v_lret X Y (by decide) (by decide) d_M_grant_84 ⟨by simp only [f_M_grantG, f_M_grantG_Le_granted, f_M_grantG_Le_owner, f_M_grantG_Le_until, if_neg c13, if_neg c18, if_neg c24, if_pos c34, if_pos c55, if_pos c67] <;> rfl, by simp only [f_M_grantG, f_M_grantG_Le_granted, f_M_grantG_Le_owner, f_M_grantG_Le_until, if_neg c13, if_neg c18, if_neg c24, if_pos c34, if_pos c55, if_pos c67] <;> rfl⟩
            · skip
              refine v_ldc2 X (v := (-4611686018427387904)) m197 d_M_grant_70 ?_
              exact v_lret X Y (by decide) (by decide) d_M_grant_73 ⟨by simp only [f_M_grantG, f_M_grantG_Le_granted, f_M_grantG_Le_owner, f_M_grantG_Le_until, if_neg c13, if_neg c18, if_neg c24, if_pos c34, if_pos c55, if_neg c67] <;> rfl, by simp only [f_M_grantG, f_M_grantG_Le_granted, f_M_grantG_Le_owner, f_M_grantG_Le_until, if_neg c13, if_neg c18, if_neg c24, if_pos c34, if_pos c55, if_neg c67] <;> rfl⟩
        · skip
          refine v_ldc2 X (v := (-4611686018427387904)) m197 d_M_grant_37 ?_
          exact v_lret X Y (by decide) (by decide) d_M_grant_40 ⟨by simp only [f_M_grantG, f_M_grantG_Le_granted, f_M_grantG_Le_owner, f_M_grantG_Le_until, if_neg c13, if_neg c18, if_neg c24, if_neg c34] <;> rfl, by simp only [f_M_grantG, f_M_grantG_Le_granted, f_M_grantG_Le_owner, f_M_grantG_Le_until, if_neg c13, if_neg c18, if_neg c24, if_neg c34] <;> rfl⟩

set_option maxHeartbeats 4000000 in
set_option maxRecDepth 100000 in
theorem c_M_grantB (l : Launch) (D : va_G) (z : Nat → ClassId) (o : Nat) (sa : Nat) (la : Nat) (e : Nat) (d : Nat) (dr : Int32) (sf : Int32) (nw : Int64) (ls : Int64) (fl : Nat → Option Nat) (s : Int32) (x : Int32) (y : Int32) (hb9 : ¬ s < 0 → ¬ s < nI 4) : Ctr l D z y_M_grant b_M_grant 7 (some .long) { frames := 6, cells := 0, slots := 0, locals := 137 } [.ref o, .int s, .int x, .int y] [(o, .inr (4, [.ref sa, .ref la, .ref e, .ref d, .int dr, .int sf, .long nw, .long ls])), (la, .inl (z 4, 4, .inr (.inr (.inr (.inr fl)))))] (fun v w => v = some (.long (-4611686018427387904)) ∧ w = [(o, .inr (4, [.ref sa, .ref la, .ref e, .ref d, .int dr, .int sf, .long nw, .long ls])), (la, .inl (z 4, 4, .inr (.inr (.inr (.inr fl)))))]) 0 0 := by
  refine met_V (own := R_M) (nm := "grant") (by decide +kernel) rfl rfl (Nat.le_of_ble_eq_true rfl) ?_
  intro κ hl hD hz X Y
  subst hl
  subst hD
  subst hz
  show V κ 7 0 0 0 [(0, .ref o), (1, .int s), (2, .int x), (3, .int y)] [] [(o, .inr (4, [.ref sa, .ref la, .ref e, .ref d, .int dr, .int sf, .long nw, .long ls])), (la, .inl (κ.z 4, 4, .inr (.inr (.inr (.inr fl)))))]
  refine v_aload_n X 0 d_M_grant_0 rfl ?_
  refine v_iload_n X 1 d_M_grant_1 rfl ?_
  refine v_callV X (b := o) (n9 := 1) (As := [.int s]) (rest := []) (wc := [(o, .inr (4, [.ref sa, .ref la, .ref e, .ref d, .int dr, .int sf, .long nw, .long ls])), (la, .inl (κ.z 4, 4, .inr (.inr (.inr (.inr fl)))))]) (wr := []) (c_M_leaseOrNullB κ.l κ.D κ.z o sa la e d dr sf nw ls fl s hb9) 0 rfl rfl m386 m387 m13 m30 (by decide +kernel) rfl (Nat.le_of_ble_eq_true rfl) ⟨by decide, by decide⟩ ⟨by decide, by decide⟩ rfl rfl m388 d_M_grant_2 (fun v w1 hg => ?_)
  obtain ⟨rfl, rfl⟩ := hg
  show V κ 7 0 0 5 [(0, .ref o), (1, .int s), (2, .int x), (3, .int y)] [.null] [(o, .inr (4, [.ref sa, .ref la, .ref e, .ref d, .int dr, .int sf, .long nw, .long ls])), (la, .inl (κ.z 4, 4, .inr (.inr (.inr (.inr fl)))))]
  refine v_astoreN X d_M_grant_5 (by decide) (lv' := [(4, .null), (0, .ref o), (1, .int s), (2, .int x), (3, .int y)]) rfl ?_
  refine v_aloadN X 0 d_M_grant_7 rfl ?_
  refine v_ifnullN X 37 d_M_grant_9 (by decide) ?_
  refine v_ldc2 X (v := (-4611686018427387904)) m197 d_M_grant_37 ?_
  exact v_lret X Y (by decide) (by decide) d_M_grant_40 ⟨rfl, rfl⟩

set_option maxHeartbeats 4000000 in
set_option maxRecDepth 100000 in
theorem c_M_keyG (l : Launch) (D : va_G) (z : Nat → ClassId) (o : Nat) (sa : Nat) (la : Nat) (e : Nat) (d : Nat) (dr : Int32) (sf : Int32) (nw : Int64) (ls : Int64) (nS : Nat) (fs : Nat → Option Nat) (a : Nat) (b1 : Nat) (b2 : Nat) (b3 : Nat) (sec : Int64) (pen : Bool) (pst : Int64) (psi : Int64) (acc : Int64) (str : Int32) (ref : Int32) (rt : Int32) (sm : Nat) (lo : Nat → Int64) (hi : Nat → Int64) (ti : Nat → Int64) (i : Nat) (x : Int64) (hi9 : i < nS) (hn9 : nS ≤ 6) (hf9 : fs i = some a) (hs8 : sm ≤ 8) : Ctr l D z y_M_key b_M_key 5 (some .boolean) { frames := 1, cells := 0, slots := 0, locals := 21 } [.ref o, .int (nI i), .long x] [(o, .inr (4, [.ref sa, .ref la, .ref e, .ref d, .int dr, .int sf, .long nw, .long ls])), (sa, .inl (z 3, nS, .inr (.inr (.inr (.inr fs))))), (a, .inr (3, [.long sec, .int (bI pen), .long pst, .long psi, .long acc, .int str, .int ref, .int rt, .int (nI sm), .ref b1, .ref b2, .ref b3])), (b1, .inl (z 1, 8, .inr (.inl lo))), (b2, .inl (z 1, 8, .inr (.inl hi))), (b3, .inl (z 1, 8, .inr (.inl ti)))] (fun v w => v = some (.int (bI true)) ∧ w = [(o, .inr (4, [.ref sa, .ref la, .ref e, .ref d, .int dr, .int sf, .long nw, .long ls])), (sa, .inl (z 3, nS, .inr (.inr (.inr (.inr fs))))), (a, .inr (3, [.long x, .int (bI pen), .long pst, .long psi, .long acc, .int str, .int ref, .int rt, .int (nI sm), .ref b1, .ref b2, .ref b3])), (b1, .inl (z 1, 8, .inr (.inl lo))), (b2, .inl (z 1, 8, .inr (.inl hi))), (b3, .inl (z 1, 8, .inr (.inl ti)))]) 0 0 := by
  refine met_V (own := R_M) (nm := "key") (by decide +kernel) rfl rfl (Nat.le_of_ble_eq_true rfl) ?_
  intro κ hl hD hz X Y
  subst hl
  subst hD
  subst hz
  show V κ 5 0 0 0 [(0, .ref o), (1, .int (nI i)), (2, .long x)] [] [(o, .inr (4, [.ref sa, .ref la, .ref e, .ref d, .int dr, .int sf, .long nw, .long ls])), (sa, .inl (κ.z 3, nS, .inr (.inr (.inr (.inr fs))))), (a, .inr (3, [.long sec, .int (bI pen), .long pst, .long psi, .long acc, .int str, .int ref, .int rt, .int (nI sm), .ref b1, .ref b2, .ref b3])), (b1, .inl (κ.z 1, 8, .inr (.inl lo))), (b2, .inl (κ.z 1, 8, .inr (.inl hi))), (b3, .inl (κ.z 1, 8, .inr (.inl ti)))]
  refine v_aload_n X 0 d_M_key_0 rfl ?_
  refine v_iload_n X 1 d_M_key_1 rfl ?_
  refine v_callV X (b := o) (n9 := 1) (As := [.int (nI i)]) (rest := []) (wc := [(o, .inr (4, [.ref sa, .ref la, .ref e, .ref d, .int dr, .int sf, .long nw, .long ls])), (sa, .inl (κ.z 3, nS, .inr (.inr (.inr (.inr fs)))))]) (wr := [(a, .inr (3, [.long sec, .int (bI pen), .long pst, .long psi, .long acc, .int str, .int ref, .int rt, .int (nI sm), .ref b1, .ref b2, .ref b3])), (b1, .inl (κ.z 1, 8, .inr (.inl lo))), (b2, .inl (κ.z 1, 8, .inr (.inl hi))), (b3, .inl (κ.z 1, 8, .inr (.inl ti)))]) (c_M_serverOrNullG κ.l κ.D κ.z o sa la e d dr sf nw ls nS fs i a hi9 hn9 hf9) 0 rfl rfl m179 m180 m0 m30 (by decide +kernel) rfl (Nat.le_of_ble_eq_true rfl) ⟨by decide, by decide⟩ ⟨by decide, by decide⟩ rfl rfl m181 d_M_key_2 (fun v w1 hg => ?_)
  obtain ⟨rfl, rfl⟩ := hg
  show V κ 5 0 0 5 [(0, .ref o), (1, .int (nI i)), (2, .long x)] [.ref a] [(o, .inr (4, [.ref sa, .ref la, .ref e, .ref d, .int dr, .int sf, .long nw, .long ls])), (sa, .inl (κ.z 3, nS, .inr (.inr (.inr (.inr fs))))), (a, .inr (3, [.long sec, .int (bI pen), .long pst, .long psi, .long acc, .int str, .int ref, .int rt, .int (nI sm), .ref b1, .ref b2, .ref b3])), (b1, .inl (κ.z 1, 8, .inr (.inl lo))), (b2, .inl (κ.z 1, 8, .inr (.inl hi))), (b3, .inl (κ.z 1, 8, .inr (.inl ti)))]
  refine v_astore X d_M_key_5 (by decide) (lv' := [(4, .ref a), (0, .ref o), (1, .int (nI i)), (2, .long x)]) rfl ?_
  refine v_aload X 0 d_M_key_7 rfl ?_
  refine v_ifnonnull X 14 d_M_key_9 (by decide) ?_
  refine v_aload X 0 d_M_key_14 rfl ?_
  refine v_lload_n X 3 d_M_key_16 rfl ?_
  refine v_put X 2 0 (v := .long x) (ty := .long) ty_Sv tk_Sv n_Sv rfl rfl li_Sv (by decide) m57 rfl (by decide +kernel) rfl rfl (Nat.le_of_ble_eq_true rfl) d_M_key_17 (ws' := [(o, .inr (4, [.ref sa, .ref la, .ref e, .ref d, .int dr, .int sf, .long nw, .long ls])), (sa, .inl (κ.z 3, nS, .inr (.inr (.inr (.inr fs))))), (a, .inr (3, [.long x, .int (bI pen), .long pst, .long psi, .long acc, .int str, .int ref, .int rt, .int (nI sm), .ref b1, .ref b2, .ref b3])), (b1, .inl (κ.z 1, 8, .inr (.inl lo))), (b2, .inl (κ.z 1, 8, .inr (.inl hi))), (b3, .inl (κ.z 1, 8, .inr (.inl ti)))]) rfl ?_
  refine v_iconst X 1 d_M_key_20 (by decide) ?_
  exact v_zret X Y (by decide) (by decide) d_M_key_21 rfl ⟨rfl, rfl⟩

set_option maxHeartbeats 4000000 in
set_option maxRecDepth 100000 in
theorem c_M_keyB (l : Launch) (D : va_G) (z : Nat → ClassId) (o : Nat) (sa : Nat) (la : Nat) (e : Nat) (d : Nat) (dr : Int32) (sf : Int32) (nw : Int64) (ls : Int64) (nS : Nat) (fs : Nat → Option Nat) (s : Int32) (x : Int64) (hb9 : ¬ s < 0 → ¬ s < nI nS) : Ctr l D z y_M_key b_M_key 5 (some .boolean) { frames := 1, cells := 0, slots := 0, locals := 21 } [.ref o, .int s, .long x] [(o, .inr (4, [.ref sa, .ref la, .ref e, .ref d, .int dr, .int sf, .long nw, .long ls])), (sa, .inl (z 3, nS, .inr (.inr (.inr (.inr fs)))))] (fun v w => v = some (.int (bI false)) ∧ w = [(o, .inr (4, [.ref sa, .ref la, .ref e, .ref d, .int dr, .int sf, .long nw, .long ls])), (sa, .inl (z 3, nS, .inr (.inr (.inr (.inr fs)))))]) 0 0 := by
  refine met_V (own := R_M) (nm := "key") (by decide +kernel) rfl rfl (Nat.le_of_ble_eq_true rfl) ?_
  intro κ hl hD hz X Y
  subst hl
  subst hD
  subst hz
  show V κ 5 0 0 0 [(0, .ref o), (1, .int s), (2, .long x)] [] [(o, .inr (4, [.ref sa, .ref la, .ref e, .ref d, .int dr, .int sf, .long nw, .long ls])), (sa, .inl (κ.z 3, nS, .inr (.inr (.inr (.inr fs)))))]
  refine v_aload_n X 0 d_M_key_0 rfl ?_
  refine v_iload_n X 1 d_M_key_1 rfl ?_
  refine v_callV X (b := o) (n9 := 1) (As := [.int s]) (rest := []) (wc := [(o, .inr (4, [.ref sa, .ref la, .ref e, .ref d, .int dr, .int sf, .long nw, .long ls])), (sa, .inl (κ.z 3, nS, .inr (.inr (.inr (.inr fs)))))]) (wr := []) (c_M_serverOrNullB κ.l κ.D κ.z o sa la e d dr sf nw ls nS fs s hb9) 0 rfl rfl m179 m180 m0 m30 (by decide +kernel) rfl (Nat.le_of_ble_eq_true rfl) ⟨by decide, by decide⟩ ⟨by decide, by decide⟩ rfl rfl m181 d_M_key_2 (fun v w1 hg => ?_)
  obtain ⟨rfl, rfl⟩ := hg
  show V κ 5 0 0 5 [(0, .ref o), (1, .int s), (2, .long x)] [.null] [(o, .inr (4, [.ref sa, .ref la, .ref e, .ref d, .int dr, .int sf, .long nw, .long ls])), (sa, .inl (κ.z 3, nS, .inr (.inr (.inr (.inr fs)))))]
  refine v_astoreN X d_M_key_5 (by decide) (lv' := [(4, .null), (0, .ref o), (1, .int s), (2, .long x)]) rfl ?_
  refine v_aloadN X 0 d_M_key_7 rfl ?_
  refine v_ifnonnullN X d_M_key_9 ?_
  refine v_iconst X 0 d_M_key_12 (by decide) ?_
  exact v_zret X Y (by decide) (by decide) d_M_key_13 rfl ⟨rfl, rfl⟩

set_option maxHeartbeats 4000000 in
set_option maxRecDepth 100000 in
theorem c_M_sealG (l : Launch) (D : va_G) (z : Nat → ClassId) (o : Nat) (sa : Nat) (la : Nat) (e : Nat) (d : Nat) (dr : Int32) (sf : Int32) (nw : Int64) (ls : Int64) (nS : Nat) (fs : Nat → Option Nat) (a : Nat) (b1 : Nat) (b2 : Nat) (b3 : Nat) (sec : Int64) (pen : Bool) (pst : Int64) (psi : Int64) (acc : Int64) (str : Int32) (ref : Int32) (rt : Int32) (sm : Nat) (lo : Nat → Int64) (hi : Nat → Int64) (ti : Nat → Int64) (i : Nat) (x : Int64) (y : Int64) (t : Int64) (hi9 : i < nS) (hn9 : nS ≤ 6) (hf9 : fs i = some a) (hs8 : sm ≤ 8) : Ctr l D z y_M_seal b_M_seal 9 (some .int) { frames := 2, cells := 0, slots := 0, locals := 54 } [.ref o, .int (nI i), .long x, .long y, .long t] [(o, .inr (4, [.ref sa, .ref la, .ref e, .ref d, .int dr, .int sf, .long nw, .long ls])), (sa, .inl (z 3, nS, .inr (.inr (.inr (.inr fs))))), (a, .inr (3, [.long sec, .int (bI pen), .long pst, .long psi, .long acc, .int str, .int ref, .int rt, .int (nI sm), .ref b1, .ref b2, .ref b3])), (b1, .inl (z 1, 8, .inr (.inl lo))), (b2, .inl (z 1, 8, .inr (.inl hi))), (b3, .inl (z 1, 8, .inr (.inl ti)))] (fun v w => v = some (.int (f_M_sealUnder sec x y t)) ∧ w = [(o, .inr (4, [.ref sa, .ref la, .ref e, .ref d, .int dr, .int sf, .long nw, .long ls])), (sa, .inl (z 3, nS, .inr (.inr (.inr (.inr fs))))), (a, .inr (3, [.long sec, .int (bI pen), .long pst, .long psi, .long acc, .int str, .int ref, .int rt, .int (nI sm), .ref b1, .ref b2, .ref b3])), (b1, .inl (z 1, 8, .inr (.inl lo))), (b2, .inl (z 1, 8, .inr (.inl hi))), (b3, .inl (z 1, 8, .inr (.inl ti)))]) 0 0 := by
  refine met_V (own := R_M) (nm := "seal") (by decide +kernel) rfl rfl (Nat.le_of_ble_eq_true rfl) ?_
  intro κ hl hD hz X Y
  subst hl
  subst hD
  subst hz
  show V κ 9 0 0 0 [(0, .ref o), (1, .int (nI i)), (2, .long x), (4, .long y), (6, .long t)] [] [(o, .inr (4, [.ref sa, .ref la, .ref e, .ref d, .int dr, .int sf, .long nw, .long ls])), (sa, .inl (κ.z 3, nS, .inr (.inr (.inr (.inr fs))))), (a, .inr (3, [.long sec, .int (bI pen), .long pst, .long psi, .long acc, .int str, .int ref, .int rt, .int (nI sm), .ref b1, .ref b2, .ref b3])), (b1, .inl (κ.z 1, 8, .inr (.inl lo))), (b2, .inl (κ.z 1, 8, .inr (.inl hi))), (b3, .inl (κ.z 1, 8, .inr (.inl ti)))]
  refine v_aload_n X 0 d_M_seal_0 rfl ?_
  refine v_iload_n X 1 d_M_seal_1 rfl ?_
  refine v_callV X (b := o) (n9 := 1) (As := [.int (nI i)]) (rest := []) (wc := [(o, .inr (4, [.ref sa, .ref la, .ref e, .ref d, .int dr, .int sf, .long nw, .long ls])), (sa, .inl (κ.z 3, nS, .inr (.inr (.inr (.inr fs)))))]) (wr := [(a, .inr (3, [.long sec, .int (bI pen), .long pst, .long psi, .long acc, .int str, .int ref, .int rt, .int (nI sm), .ref b1, .ref b2, .ref b3])), (b1, .inl (κ.z 1, 8, .inr (.inl lo))), (b2, .inl (κ.z 1, 8, .inr (.inl hi))), (b3, .inl (κ.z 1, 8, .inr (.inl ti)))]) (c_M_serverOrNullG κ.l κ.D κ.z o sa la e d dr sf nw ls nS fs i a hi9 hn9 hf9) 0 rfl rfl m179 m180 m0 m30 (by decide +kernel) rfl (Nat.le_of_ble_eq_true rfl) ⟨by decide, by decide⟩ ⟨by decide, by decide⟩ rfl rfl m181 d_M_seal_2 (fun v w1 hg => ?_)
  obtain ⟨rfl, rfl⟩ := hg
  show V κ 9 0 0 5 [(0, .ref o), (1, .int (nI i)), (2, .long x), (4, .long y), (6, .long t)] [.ref a] [(o, .inr (4, [.ref sa, .ref la, .ref e, .ref d, .int dr, .int sf, .long nw, .long ls])), (sa, .inl (κ.z 3, nS, .inr (.inr (.inr (.inr fs))))), (a, .inr (3, [.long sec, .int (bI pen), .long pst, .long psi, .long acc, .int str, .int ref, .int rt, .int (nI sm), .ref b1, .ref b2, .ref b3])), (b1, .inl (κ.z 1, 8, .inr (.inl lo))), (b2, .inl (κ.z 1, 8, .inr (.inl hi))), (b3, .inl (κ.z 1, 8, .inr (.inl ti)))]
  refine v_astore X d_M_seal_5 (by decide) (lv' := [(8, .ref a), (0, .ref o), (1, .int (nI i)), (2, .long x), (4, .long y), (6, .long t)]) rfl ?_
  refine v_aload X 0 d_M_seal_7 rfl ?_
  refine v_ifnonnull X 14 d_M_seal_9 (by decide) ?_
  refine v_aload X 0 d_M_seal_14 rfl ?_
  refine v_get X 2 0 rfl rfl li_Sv (by decide) m57 rfl d_M_seal_16 ?_
  refine v_lload_n X 3 d_M_seal_19 rfl ?_
  refine v_lload X 4 d_M_seal_20 rfl ?_
  refine v_lload X 5 d_M_seal_22 rfl ?_
  refine v_callS X (n9 := 4) (As := [.long sec, .long x, .long y, .long t]) (rest := []) (wc := []) (wr := [(o, .inr (4, [.ref sa, .ref la, .ref e, .ref d, .int dr, .int sf, .long nw, .long ls])), (sa, .inl (κ.z 3, nS, .inr (.inr (.inr (.inr fs))))), (a, .inr (3, [.long sec, .int (bI pen), .long pst, .long psi, .long acc, .int str, .int ref, .int rt, .int (nI sm), .ref b1, .ref b2, .ref b3])), (b1, .inl (κ.z 1, 8, .inr (.inl lo))), (b2, .inl (κ.z 1, 8, .inr (.inl hi))), (b3, .inl (κ.z 1, 8, .inr (.inl ti)))]) (c_M_sealUnder κ.l κ.D κ.z sec x y t ) m186 m187 m30 (by decide +kernel) rfl (Nat.le_of_ble_eq_true rfl) ⟨by decide, by decide⟩ ⟨by decide, by decide⟩ rfl rfl m188 d_M_seal_24 (fun v w1 hg => ?_)
  obtain ⟨rfl, rfl⟩ := hg
  show V κ 9 0 0 27 [(8, .ref a), (0, .ref o), (1, .int (nI i)), (2, .long x), (4, .long y), (6, .long t)] [.int (f_M_sealUnder sec x y t)] [(o, .inr (4, [.ref sa, .ref la, .ref e, .ref d, .int dr, .int sf, .long nw, .long ls])), (sa, .inl (κ.z 3, nS, .inr (.inr (.inr (.inr fs))))), (a, .inr (3, [.long sec, .int (bI pen), .long pst, .long psi, .long acc, .int str, .int ref, .int rt, .int (nI sm), .ref b1, .ref b2, .ref b3])), (b1, .inl (κ.z 1, 8, .inr (.inl lo))), (b2, .inl (κ.z 1, 8, .inr (.inl hi))), (b3, .inl (κ.z 1, 8, .inr (.inl ti)))]
  exact v_iret X Y (by decide) (by decide) d_M_seal_27 ⟨rfl, rfl⟩

set_option maxHeartbeats 4000000 in
set_option maxRecDepth 100000 in
theorem c_M_sealB (l : Launch) (D : va_G) (z : Nat → ClassId) (o : Nat) (sa : Nat) (la : Nat) (e : Nat) (d : Nat) (dr : Int32) (sf : Int32) (nw : Int64) (ls : Int64) (nS : Nat) (fs : Nat → Option Nat) (s : Int32) (x : Int64) (y : Int64) (t : Int64) (hb9 : ¬ s < 0 → ¬ s < nI nS) : Ctr l D z y_M_seal b_M_seal 9 (some .int) { frames := 2, cells := 0, slots := 0, locals := 54 } [.ref o, .int s, .long x, .long y, .long t] [(o, .inr (4, [.ref sa, .ref la, .ref e, .ref d, .int dr, .int sf, .long nw, .long ls])), (sa, .inl (z 3, nS, .inr (.inr (.inr (.inr fs)))))] (fun v w => v = some (.int (0 : Int32)) ∧ w = [(o, .inr (4, [.ref sa, .ref la, .ref e, .ref d, .int dr, .int sf, .long nw, .long ls])), (sa, .inl (z 3, nS, .inr (.inr (.inr (.inr fs)))))]) 0 0 := by
  refine met_V (own := R_M) (nm := "seal") (by decide +kernel) rfl rfl (Nat.le_of_ble_eq_true rfl) ?_
  intro κ hl hD hz X Y
  subst hl
  subst hD
  subst hz
  show V κ 9 0 0 0 [(0, .ref o), (1, .int s), (2, .long x), (4, .long y), (6, .long t)] [] [(o, .inr (4, [.ref sa, .ref la, .ref e, .ref d, .int dr, .int sf, .long nw, .long ls])), (sa, .inl (κ.z 3, nS, .inr (.inr (.inr (.inr fs)))))]
  refine v_aload_n X 0 d_M_seal_0 rfl ?_
  refine v_iload_n X 1 d_M_seal_1 rfl ?_
  refine v_callV X (b := o) (n9 := 1) (As := [.int s]) (rest := []) (wc := [(o, .inr (4, [.ref sa, .ref la, .ref e, .ref d, .int dr, .int sf, .long nw, .long ls])), (sa, .inl (κ.z 3, nS, .inr (.inr (.inr (.inr fs)))))]) (wr := []) (c_M_serverOrNullB κ.l κ.D κ.z o sa la e d dr sf nw ls nS fs s hb9) 0 rfl rfl m179 m180 m0 m30 (by decide +kernel) rfl (Nat.le_of_ble_eq_true rfl) ⟨by decide, by decide⟩ ⟨by decide, by decide⟩ rfl rfl m181 d_M_seal_2 (fun v w1 hg => ?_)
  obtain ⟨rfl, rfl⟩ := hg
  show V κ 9 0 0 5 [(0, .ref o), (1, .int s), (2, .long x), (4, .long y), (6, .long t)] [.null] [(o, .inr (4, [.ref sa, .ref la, .ref e, .ref d, .int dr, .int sf, .long nw, .long ls])), (sa, .inl (κ.z 3, nS, .inr (.inr (.inr (.inr fs)))))]
  refine v_astoreN X d_M_seal_5 (by decide) (lv' := [(8, .null), (0, .ref o), (1, .int s), (2, .long x), (4, .long y), (6, .long t)]) rfl ?_
  refine v_aloadN X 0 d_M_seal_7 rfl ?_
  refine v_ifnonnullN X d_M_seal_9 ?_
  refine v_iconst X 0 d_M_seal_12 (by decide) ?_
  exact v_iret X Y (by decide) (by decide) d_M_seal_13 ⟨rfl, rfl⟩

set_option maxHeartbeats 4000000 in
set_option maxRecDepth 100000 in
theorem c_M_askG (l : Launch) (D : va_G) (z : Nat → ClassId) (o : Nat) (sa : Nat) (la : Nat) (e : Nat) (d : Nat) (dr : Int32) (sf : Int32) (nw : Int64) (ls : Int64) (nS : Nat) (fs : Nat → Option Nat) (a : Nat) (b1 : Nat) (b2 : Nat) (b3 : Nat) (sec : Int64) (pen : Bool) (pst : Int64) (psi : Int64) (acc : Int64) (str : Int32) (ref : Int32) (rt : Int32) (sm : Nat) (lo : Nat → Int64) (hi : Nat → Int64) (ti : Nat → Int64) (i : Nat) (hi9 : i < nS) (hn9 : nS ≤ 6) (hf9 : fs i = some a) (hs8 : sm ≤ 8) : Ctr l D z y_M_ask b_M_ask 3 (some .long) { frames := 1, cells := 0, slots := 0, locals := 24 } [.ref o, .int (nI i)] [(o, .inr (4, [.ref sa, .ref la, .ref e, .ref d, .int dr, .int sf, .long nw, .long ls])), (sa, .inl (z 3, nS, .inr (.inr (.inr (.inr fs))))), (a, .inr (3, [.long sec, .int (bI pen), .long pst, .long psi, .long acc, .int str, .int ref, .int rt, .int (nI sm), .ref b1, .ref b2, .ref b3])), (b1, .inl (z 1, 8, .inr (.inl lo))), (b2, .inl (z 1, 8, .inr (.inl hi))), (b3, .inl (z 1, 8, .inr (.inl ti)))] (fun v w => v = some (.long (f_J_max_JJ nw (ls + 1))) ∧ w = [(o, .inr (4, [.ref sa, .ref la, .ref e, .ref d, .int dr, .int sf, .long nw, .long (f_J_max_JJ nw (ls + 1))])), (sa, .inl (z 3, nS, .inr (.inr (.inr (.inr fs))))), (a, .inr (3, [.long sec, .int (bI true), .long (f_J_max_JJ nw (ls + 1)), .long nw, .long acc, .int str, .int ref, .int rt, .int (nI sm), .ref b1, .ref b2, .ref b3])), (b1, .inl (z 1, 8, .inr (.inl lo))), (b2, .inl (z 1, 8, .inr (.inl hi))), (b3, .inl (z 1, 8, .inr (.inl ti)))]) 0 0 := by
  refine met_V (own := R_M) (nm := "ask") (by decide +kernel) rfl rfl (Nat.le_of_ble_eq_true rfl) ?_
  intro κ hl hD hz X Y
  subst hl
  subst hD
  subst hz
  show V κ 3 0 0 0 [(0, .ref o), (1, .int (nI i))] [] [(o, .inr (4, [.ref sa, .ref la, .ref e, .ref d, .int dr, .int sf, .long nw, .long ls])), (sa, .inl (κ.z 3, nS, .inr (.inr (.inr (.inr fs))))), (a, .inr (3, [.long sec, .int (bI pen), .long pst, .long psi, .long acc, .int str, .int ref, .int rt, .int (nI sm), .ref b1, .ref b2, .ref b3])), (b1, .inl (κ.z 1, 8, .inr (.inl lo))), (b2, .inl (κ.z 1, 8, .inr (.inl hi))), (b3, .inl (κ.z 1, 8, .inr (.inl ti)))]
  refine v_aload_n X 0 d_M_ask_0 rfl ?_
  refine v_iload_n X 1 d_M_ask_1 rfl ?_
  refine v_callV X (b := o) (n9 := 1) (As := [.int (nI i)]) (rest := []) (wc := [(o, .inr (4, [.ref sa, .ref la, .ref e, .ref d, .int dr, .int sf, .long nw, .long ls])), (sa, .inl (κ.z 3, nS, .inr (.inr (.inr (.inr fs)))))]) (wr := [(a, .inr (3, [.long sec, .int (bI pen), .long pst, .long psi, .long acc, .int str, .int ref, .int rt, .int (nI sm), .ref b1, .ref b2, .ref b3])), (b1, .inl (κ.z 1, 8, .inr (.inl lo))), (b2, .inl (κ.z 1, 8, .inr (.inl hi))), (b3, .inl (κ.z 1, 8, .inr (.inl ti)))]) (c_M_serverOrNullG κ.l κ.D κ.z o sa la e d dr sf nw ls nS fs i a hi9 hn9 hf9) 0 rfl rfl m179 m180 m0 m30 (by decide +kernel) rfl (Nat.le_of_ble_eq_true rfl) ⟨by decide, by decide⟩ ⟨by decide, by decide⟩ rfl rfl m181 d_M_ask_2 (fun v w1 hg => ?_)
  obtain ⟨rfl, rfl⟩ := hg
  show V κ 3 0 0 5 [(0, .ref o), (1, .int (nI i))] [.ref a] [(o, .inr (4, [.ref sa, .ref la, .ref e, .ref d, .int dr, .int sf, .long nw, .long ls])), (sa, .inl (κ.z 3, nS, .inr (.inr (.inr (.inr fs))))), (a, .inr (3, [.long sec, .int (bI pen), .long pst, .long psi, .long acc, .int str, .int ref, .int rt, .int (nI sm), .ref b1, .ref b2, .ref b3])), (b1, .inl (κ.z 1, 8, .inr (.inl lo))), (b2, .inl (κ.z 1, 8, .inr (.inl hi))), (b3, .inl (κ.z 1, 8, .inr (.inl ti)))]
  refine v_astore_n X d_M_ask_5 rfl (by decide) (lv' := [(2, .ref a), (0, .ref o), (1, .int (nI i))]) rfl ?_
  refine v_aload_n X 0 d_M_ask_6 rfl ?_
  refine v_ifnonnull X 14 d_M_ask_7 (by decide) ?_
  refine v_aload_n X 1 d_M_ask_14 rfl ?_
  refine v_aload_n X 1 d_M_ask_15 rfl ?_
  refine v_get X 0 6 rfl rfl li_M (by decide) m156 rfl d_M_ask_16 ?_
  refine v_aload_n X 1 d_M_ask_19 rfl ?_
  refine v_get X 0 7 rfl rfl li_M (by decide) m157 rfl d_M_ask_20 ?_
  refine v_lconst X 1 d_M_ask_23 (by decide) ?_
  refine v_ladd X d_M_ask_24 ?_
  refine v_callS X (n9 := 2) (As := [.long nw, .long (ls + 1)]) (rest := [.ref o]) (wc := []) (wr := [(o, .inr (4, [.ref sa, .ref la, .ref e, .ref d, .int dr, .int sf, .long nw, .long ls])), (sa, .inl (κ.z 3, nS, .inr (.inr (.inr (.inr fs))))), (a, .inr (3, [.long sec, .int (bI pen), .long pst, .long psi, .long acc, .int str, .int ref, .int rt, .int (nI sm), .ref b1, .ref b2, .ref b3])), (b1, .inl (κ.z 1, 8, .inr (.inl lo))), (b2, .inl (κ.z 1, 8, .inr (.inl hi))), (b3, .inl (κ.z 1, 8, .inr (.inl ti)))]) (c_J_max_JJ κ.l κ.D κ.z nw (ls + 1) ) m198 m199 m31 (by decide +kernel) rfl (Nat.le_of_ble_eq_true rfl) ⟨by decide, by decide⟩ ⟨by decide, by decide⟩ rfl rfl m200 d_M_ask_25 (fun v w1 hg => ?_)
  obtain ⟨rfl, rfl⟩ := hg
  show V κ 3 0 0 28 [(2, .ref a), (0, .ref o), (1, .int (nI i))] [.long (f_J_max_JJ nw (ls + 1)), .ref o] [(o, .inr (4, [.ref sa, .ref la, .ref e, .ref d, .int dr, .int sf, .long nw, .long ls])), (sa, .inl (κ.z 3, nS, .inr (.inr (.inr (.inr fs))))), (a, .inr (3, [.long sec, .int (bI pen), .long pst, .long psi, .long acc, .int str, .int ref, .int rt, .int (nI sm), .ref b1, .ref b2, .ref b3])), (b1, .inl (κ.z 1, 8, .inr (.inl lo))), (b2, .inl (κ.z 1, 8, .inr (.inl hi))), (b3, .inl (κ.z 1, 8, .inr (.inl ti)))]
  show V κ 3 0 0 28 [(2, .ref a), (0, .ref o), (1, .int (nI i))] [.long (f_J_max_JJ nw (ls + 1)), .ref o] [(o, .inr (4, [.ref sa, .ref la, .ref e, .ref d, .int dr, .int sf, .long nw, .long ls])), (sa, .inl (κ.z 3, nS, .inr (.inr (.inr (.inr fs))))), (a, .inr (3, [.long sec, .int (bI pen), .long pst, .long psi, .long acc, .int str, .int ref, .int rt, .int (nI sm), .ref b1, .ref b2, .ref b3])), (b1, .inl (κ.z 1, 8, .inr (.inl lo))), (b2, .inl (κ.z 1, 8, .inr (.inl hi))), (b3, .inl (κ.z 1, 8, .inr (.inl ti)))]
  refine v_put X 0 7 (v := .long (f_J_max_JJ nw (ls + 1))) (ty := .long) ty_M tk_M n_M rfl rfl li_M (by decide) m157 rfl (by decide +kernel) rfl rfl (Nat.le_of_ble_eq_true rfl) d_M_ask_28 (ws' := [(o, .inr (4, [.ref sa, .ref la, .ref e, .ref d, .int dr, .int sf, .long nw, .long (f_J_max_JJ nw (ls + 1))])), (sa, .inl (κ.z 3, nS, .inr (.inr (.inr (.inr fs))))), (a, .inr (3, [.long sec, .int (bI pen), .long pst, .long psi, .long acc, .int str, .int ref, .int rt, .int (nI sm), .ref b1, .ref b2, .ref b3])), (b1, .inl (κ.z 1, 8, .inr (.inl lo))), (b2, .inl (κ.z 1, 8, .inr (.inl hi))), (b3, .inl (κ.z 1, 8, .inr (.inl ti)))]) rfl ?_
  refine v_aload_n X 0 d_M_ask_31 rfl ?_
  refine v_aload_n X 1 d_M_ask_32 rfl ?_
  refine v_get X 0 7 rfl rfl li_M (by decide) m157 rfl d_M_ask_33 ?_
  refine v_aload_n X 1 d_M_ask_36 rfl ?_
  refine v_get X 0 6 rfl rfl li_M (by decide) m156 rfl d_M_ask_37 ?_
  refine v_perm (perm_idx (α := Nat × va_E) (ws := [(o, .inr (4, [.ref sa, .ref la, .ref e, .ref d, .int dr, .int sf, .long nw, .long (f_J_max_JJ nw (ls + 1))])), (sa, .inl (κ.z 3, nS, .inr (.inr (.inr (.inr fs))))), (a, .inr (3, [.long sec, .int (bI pen), .long pst, .long psi, .long acc, .int str, .int ref, .int rt, .int (nI sm), .ref b1, .ref b2, .ref b3])), (b1, .inl (κ.z 1, 8, .inr (.inl lo))), (b2, .inl (κ.z 1, 8, .inr (.inl hi))), (b3, .inl (κ.z 1, 8, .inr (.inl ti)))]) (ws' := [(a, .inr (3, [.long sec, .int (bI pen), .long pst, .long psi, .long acc, .int str, .int ref, .int rt, .int (nI sm), .ref b1, .ref b2, .ref b3])), (b1, .inl (κ.z 1, 8, .inr (.inl lo))), (b2, .inl (κ.z 1, 8, .inr (.inl hi))), (b3, .inl (κ.z 1, 8, .inr (.inl ti))), (o, .inr (4, [.ref sa, .ref la, .ref e, .ref d, .int dr, .int sf, .long nw, .long (f_J_max_JJ nw (ls + 1))])), (sa, .inl (κ.z 3, nS, .inr (.inr (.inr (.inr fs)))))]) [2, 3, 4, 5, 0, 1] rfl rfl) ?_
  refine v_callV X (b := a) (n9 := 2) (As := [.long (f_J_max_JJ nw (ls + 1)), .long nw]) (rest := []) (wc := [(a, .inr (3, [.long sec, .int (bI pen), .long pst, .long psi, .long acc, .int str, .int ref, .int rt, .int (nI sm), .ref b1, .ref b2, .ref b3])), (b1, .inl (κ.z 1, 8, .inr (.inl lo))), (b2, .inl (κ.z 1, 8, .inr (.inl hi))), (b3, .inl (κ.z 1, 8, .inr (.inl ti)))]) (wr := [(o, .inr (4, [.ref sa, .ref la, .ref e, .ref d, .int dr, .int sf, .long nw, .long (f_J_max_JJ nw (ls + 1))])), (sa, .inl (κ.z 3, nS, .inr (.inr (.inr (.inr fs)))))]) (c_Sv_expectReply κ.l κ.D κ.z a b1 b2 b3 sec pen pst psi acc str ref rt sm lo hi ti (f_J_max_JJ nw (ls + 1)) nw ) 0 rfl rfl m201 m202 m203 m32 (by decide +kernel) rfl (Nat.le_of_ble_eq_true rfl) ⟨by decide, by decide⟩ ⟨by decide, by decide⟩ rfl rfl m204 d_M_ask_40 (fun v w1 hg => ?_)
  obtain ⟨rfl, rfl⟩ := hg
  refine v_perm (perm_idx (α := Nat × va_E) (ws := [(a, .inr (3, [.long sec, .int (bI true), .long (f_J_max_JJ nw (ls + 1)), .long nw, .long acc, .int str, .int ref, .int rt, .int (nI sm), .ref b1, .ref b2, .ref b3])), (b1, .inl (κ.z 1, 8, .inr (.inl lo))), (b2, .inl (κ.z 1, 8, .inr (.inl hi))), (b3, .inl (κ.z 1, 8, .inr (.inl ti))), (o, .inr (4, [.ref sa, .ref la, .ref e, .ref d, .int dr, .int sf, .long nw, .long (f_J_max_JJ nw (ls + 1))])), (sa, .inl (κ.z 3, nS, .inr (.inr (.inr (.inr fs)))))]) (ws' := [(o, .inr (4, [.ref sa, .ref la, .ref e, .ref d, .int dr, .int sf, .long nw, .long (f_J_max_JJ nw (ls + 1))])), (sa, .inl (κ.z 3, nS, .inr (.inr (.inr (.inr fs))))), (a, .inr (3, [.long sec, .int (bI true), .long (f_J_max_JJ nw (ls + 1)), .long nw, .long acc, .int str, .int ref, .int rt, .int (nI sm), .ref b1, .ref b2, .ref b3])), (b1, .inl (κ.z 1, 8, .inr (.inl lo))), (b2, .inl (κ.z 1, 8, .inr (.inl hi))), (b3, .inl (κ.z 1, 8, .inr (.inl ti)))]) [4, 5, 0, 1, 2, 3] rfl rfl) ?_
  show V κ 3 0 0 43 [(2, .ref a), (0, .ref o), (1, .int (nI i))] [] [(o, .inr (4, [.ref sa, .ref la, .ref e, .ref d, .int dr, .int sf, .long nw, .long (f_J_max_JJ nw (ls + 1))])), (sa, .inl (κ.z 3, nS, .inr (.inr (.inr (.inr fs))))), (a, .inr (3, [.long sec, .int (bI true), .long (f_J_max_JJ nw (ls + 1)), .long nw, .long acc, .int str, .int ref, .int rt, .int (nI sm), .ref b1, .ref b2, .ref b3])), (b1, .inl (κ.z 1, 8, .inr (.inl lo))), (b2, .inl (κ.z 1, 8, .inr (.inl hi))), (b3, .inl (κ.z 1, 8, .inr (.inl ti)))]
  refine v_aload_n X 1 d_M_ask_43 rfl ?_
  refine v_get X 0 7 rfl rfl li_M (by decide) m157 rfl d_M_ask_44 ?_
  exact v_lret X Y (by decide) (by decide) d_M_ask_47 ⟨rfl, rfl⟩

set_option maxHeartbeats 4000000 in
set_option maxRecDepth 100000 in
theorem c_M_askB (l : Launch) (D : va_G) (z : Nat → ClassId) (o : Nat) (sa : Nat) (la : Nat) (e : Nat) (d : Nat) (dr : Int32) (sf : Int32) (nw : Int64) (ls : Int64) (nS : Nat) (fs : Nat → Option Nat) (s : Int32) (hb9 : ¬ s < 0 → ¬ s < nI nS) : Ctr l D z y_M_ask b_M_ask 3 (some .long) { frames := 1, cells := 0, slots := 0, locals := 24 } [.ref o, .int s] [(o, .inr (4, [.ref sa, .ref la, .ref e, .ref d, .int dr, .int sf, .long nw, .long ls])), (sa, .inl (z 3, nS, .inr (.inr (.inr (.inr fs)))))] (fun v w => v = some (.long (-4611686018427387904)) ∧ w = [(o, .inr (4, [.ref sa, .ref la, .ref e, .ref d, .int dr, .int sf, .long nw, .long ls])), (sa, .inl (z 3, nS, .inr (.inr (.inr (.inr fs)))))]) 0 0 := by
  refine met_V (own := R_M) (nm := "ask") (by decide +kernel) rfl rfl (Nat.le_of_ble_eq_true rfl) ?_
  intro κ hl hD hz X Y
  subst hl
  subst hD
  subst hz
  show V κ 3 0 0 0 [(0, .ref o), (1, .int s)] [] [(o, .inr (4, [.ref sa, .ref la, .ref e, .ref d, .int dr, .int sf, .long nw, .long ls])), (sa, .inl (κ.z 3, nS, .inr (.inr (.inr (.inr fs)))))]
  refine v_aload_n X 0 d_M_ask_0 rfl ?_
  refine v_iload_n X 1 d_M_ask_1 rfl ?_
  refine v_callV X (b := o) (n9 := 1) (As := [.int s]) (rest := []) (wc := [(o, .inr (4, [.ref sa, .ref la, .ref e, .ref d, .int dr, .int sf, .long nw, .long ls])), (sa, .inl (κ.z 3, nS, .inr (.inr (.inr (.inr fs)))))]) (wr := []) (c_M_serverOrNullB κ.l κ.D κ.z o sa la e d dr sf nw ls nS fs s hb9) 0 rfl rfl m179 m180 m0 m30 (by decide +kernel) rfl (Nat.le_of_ble_eq_true rfl) ⟨by decide, by decide⟩ ⟨by decide, by decide⟩ rfl rfl m181 d_M_ask_2 (fun v w1 hg => ?_)
  obtain ⟨rfl, rfl⟩ := hg
  show V κ 3 0 0 5 [(0, .ref o), (1, .int s)] [.null] [(o, .inr (4, [.ref sa, .ref la, .ref e, .ref d, .int dr, .int sf, .long nw, .long ls])), (sa, .inl (κ.z 3, nS, .inr (.inr (.inr (.inr fs)))))]
  refine v_astore_nN X d_M_ask_5 rfl (by decide) (lv' := [(2, .null), (0, .ref o), (1, .int s)]) rfl ?_
  refine v_aload_nN X 0 d_M_ask_6 rfl ?_
  refine v_ifnonnullN X d_M_ask_7 ?_
  refine v_ldc2 X (v := (-4611686018427387904)) m197 d_M_ask_10 ?_
  exact v_lret X Y (by decide) (by decide) d_M_ask_13 ⟨rfl, rfl⟩

def f_M_replyG (nw : Int64) (sec : Int64) (pen : Bool) (pst : Int64) (psi : Int64) (acc : Int64) (sm : Nat) (x : Int64) (y : Int64) (t : Int64) (u : Int32) : Int32 := if (f_M_isReplyTime y) = true then (if (f_M_isReplyTime t) = true then (if y ≤ t then (if u = (f_M_sealUnder sec x y t) then (if (f_Sv_acceptedLast acc sm x) = true then (-4) else (if (f_Sv_expects pen pst x) = true then (if (t - y) ≤ (nw - psi) then (nI (f_J_min_IIN (sm + 1) 8)) else (-6)) else (-5))) else (-3)) else (-2)) else (-2)) else (-2)
def f_M_replyG_Sv_pending (nw : Int64) (sec : Int64) (pen : Bool) (pst : Int64) (psi : Int64) (acc : Int64) (sm : Nat) (x : Int64) (y : Int64) (t : Int64) (u : Int32) : Bool := if (f_M_isReplyTime y) = true then (if (f_M_isReplyTime t) = true then (if y ≤ t then (if u = (f_M_sealUnder sec x y t) then (if (f_Sv_acceptedLast acc sm x) = true then pen else (if (f_Sv_expects pen pst x) = true then (if (t - y) ≤ (nw - psi) then false else pen) else pen)) else pen) else pen) else pen) else pen
def f_M_replyG_Sv_acceptedOrigin (nw : Int64) (sec : Int64) (pen : Bool) (pst : Int64) (psi : Int64) (acc : Int64) (sm : Nat) (x : Int64) (y : Int64) (t : Int64) (u : Int32) : Int64 := if (f_M_isReplyTime y) = true then if (f_M_isReplyTime t) = true then if y ≤ t then if u = (f_M_sealUnder sec x y t) then if (f_Sv_acceptedLast acc sm x) = true then acc else if (f_Sv_expects pen pst x) = true then if (t - y) ≤ (nw - psi) then x else acc else acc else acc else acc else acc else acc
def f_M_replyG_Sv_samples (nw : Int64) (sec : Int64) (pen : Bool) (pst : Int64) (psi : Int64) (acc : Int64) (sm : Nat) (x : Int64) (y : Int64) (t : Int64) (u : Int32) : Nat := if (f_M_isReplyTime y) = true then (if (f_M_isReplyTime t) = true then (if y ≤ t then (if u = (f_M_sealUnder sec x y t) then (if (f_Sv_acceptedLast acc sm x) = true then sm else (if (f_Sv_expects pen pst x) = true then (if (t - y) ≤ (nw - psi) then (f_J_min_IIN (sm + 1) 8) else sm) else sm)) else sm) else sm) else sm) else sm
def f_M_replyG_r3 (nw : Int64) (sec : Int64) (pen : Bool) (pst : Int64) (psi : Int64) (acc : Int64) (sm : Nat) (lo : Nat → Int64) (hi : Nat → Int64) (ti : Nat → Int64) (x : Int64) (y : Int64) (t : Int64) (u : Int32) : Nat → Int64 := if (f_M_isReplyTime y) = true then if (f_M_isReplyTime t) = true then if y ≤ t then if u = (f_M_sealUnder sec x y t) then if (f_Sv_acceptedLast acc sm x) = true then lo else if (f_Sv_expects pen pst x) = true then if (t - y) ≤ (nw - psi) then f_Sv_accept_r1 sm lo hi ti t nw else lo else lo else lo else lo else lo else lo
def f_M_replyG_r4 (nw : Int64) (sec : Int64) (pen : Bool) (pst : Int64) (psi : Int64) (acc : Int64) (sm : Nat) (lo : Nat → Int64) (hi : Nat → Int64) (ti : Nat → Int64) (x : Int64) (y : Int64) (t : Int64) (u : Int32) : Nat → Int64 := if (f_M_isReplyTime y) = true then if (f_M_isReplyTime t) = true then if y ≤ t then if u = (f_M_sealUnder sec x y t) then if (f_Sv_acceptedLast acc sm x) = true then hi else if (f_Sv_expects pen pst x) = true then if (t - y) ≤ (nw - psi) then f_Sv_accept_r2 psi sm lo hi ti y else hi else hi else hi else hi else hi else hi
def f_M_replyG_r5 (nw : Int64) (sec : Int64) (pen : Bool) (pst : Int64) (psi : Int64) (acc : Int64) (sm : Nat) (lo : Nat → Int64) (hi : Nat → Int64) (ti : Nat → Int64) (x : Int64) (y : Int64) (t : Int64) (u : Int32) : Nat → Int64 := if (f_M_isReplyTime y) = true then if (f_M_isReplyTime t) = true then if y ≤ t then if u = (f_M_sealUnder sec x y t) then if (f_Sv_acceptedLast acc sm x) = true then ti else if (f_Sv_expects pen pst x) = true then if (t - y) ≤ (nw - psi) then f_Sv_accept_r3 sm lo hi ti nw else ti else ti else ti else ti else ti else ti
set_option maxHeartbeats 4000000 in
set_option maxRecDepth 100000 in
theorem c_M_replyG (l : Launch) (D : va_G) (z : Nat → ClassId) (o : Nat) (sa : Nat) (la : Nat) (e : Nat) (d : Nat) (dr : Int32) (sf : Int32) (nw : Int64) (ls : Int64) (nS : Nat) (fs : Nat → Option Nat) (a : Nat) (b1 : Nat) (b2 : Nat) (b3 : Nat) (sec : Int64) (pen : Bool) (pst : Int64) (psi : Int64) (acc : Int64) (str : Int32) (ref : Int32) (rt : Int32) (sm : Nat) (lo : Nat → Int64) (hi : Nat → Int64) (ti : Nat → Int64) (i : Nat) (x : Int64) (y : Int64) (t : Int64) (u : Int32) (hi9 : i < nS) (hn9 : nS ≤ 6) (hf9 : fs i = some a) (hs8 : sm ≤ 8) : Ctr l D z y_M_reply b_M_reply 10 (some .int) { frames := 3, cells := 0, slots := 0, locals := 70 } [.ref o, .int (nI i), .long x, .long y, .long t, .int u] [(o, .inr (4, [.ref sa, .ref la, .ref e, .ref d, .int dr, .int sf, .long nw, .long ls])), (sa, .inl (z 3, nS, .inr (.inr (.inr (.inr fs))))), (a, .inr (3, [.long sec, .int (bI pen), .long pst, .long psi, .long acc, .int str, .int ref, .int rt, .int (nI sm), .ref b1, .ref b2, .ref b3])), (b1, .inl (z 1, 8, .inr (.inl lo))), (b2, .inl (z 1, 8, .inr (.inl hi))), (b3, .inl (z 1, 8, .inr (.inl ti)))] (fun v w => v = some (.int (f_M_replyG nw sec pen pst psi acc sm x y t u)) ∧ w = [(o, .inr (4, [.ref sa, .ref la, .ref e, .ref d, .int dr, .int sf, .long nw, .long ls])), (sa, .inl (z 3, nS, .inr (.inr (.inr (.inr fs))))), (a, .inr (3, [.long sec, .int (bI (f_M_replyG_Sv_pending nw sec pen pst psi acc sm x y t u)), .long pst, .long psi, .long (f_M_replyG_Sv_acceptedOrigin nw sec pen pst psi acc sm x y t u), .int str, .int ref, .int rt, .int (nI (f_M_replyG_Sv_samples nw sec pen pst psi acc sm x y t u)), .ref b1, .ref b2, .ref b3])), (b1, .inl (z 1, 8, .inr (.inl (f_M_replyG_r3 nw sec pen pst psi acc sm lo hi ti x y t u)))), (b2, .inl (z 1, 8, .inr (.inl (f_M_replyG_r4 nw sec pen pst psi acc sm lo hi ti x y t u)))), (b3, .inl (z 1, 8, .inr (.inl (f_M_replyG_r5 nw sec pen pst psi acc sm lo hi ti x y t u))))]) 0 0 := by
  refine met_V (own := R_M) (nm := "reply") (by decide +kernel) rfl rfl (Nat.le_of_ble_eq_true rfl) ?_
  intro κ hl hD hz X Y
  subst hl
  subst hD
  subst hz
  show V κ 10 0 0 0 [(0, .ref o), (1, .int (nI i)), (2, .long x), (4, .long y), (6, .long t), (8, .int u)] [] [(o, .inr (4, [.ref sa, .ref la, .ref e, .ref d, .int dr, .int sf, .long nw, .long ls])), (sa, .inl (κ.z 3, nS, .inr (.inr (.inr (.inr fs))))), (a, .inr (3, [.long sec, .int (bI pen), .long pst, .long psi, .long acc, .int str, .int ref, .int rt, .int (nI sm), .ref b1, .ref b2, .ref b3])), (b1, .inl (κ.z 1, 8, .inr (.inl lo))), (b2, .inl (κ.z 1, 8, .inr (.inl hi))), (b3, .inl (κ.z 1, 8, .inr (.inl ti)))]
  refine v_aload_n X 0 d_M_reply_0 rfl ?_
  refine v_iload_n X 1 d_M_reply_1 rfl ?_
  refine v_callV X (b := o) (n9 := 1) (As := [.int (nI i)]) (rest := []) (wc := [(o, .inr (4, [.ref sa, .ref la, .ref e, .ref d, .int dr, .int sf, .long nw, .long ls])), (sa, .inl (κ.z 3, nS, .inr (.inr (.inr (.inr fs)))))]) (wr := [(a, .inr (3, [.long sec, .int (bI pen), .long pst, .long psi, .long acc, .int str, .int ref, .int rt, .int (nI sm), .ref b1, .ref b2, .ref b3])), (b1, .inl (κ.z 1, 8, .inr (.inl lo))), (b2, .inl (κ.z 1, 8, .inr (.inl hi))), (b3, .inl (κ.z 1, 8, .inr (.inl ti)))]) (c_M_serverOrNullG κ.l κ.D κ.z o sa la e d dr sf nw ls nS fs i a hi9 hn9 hf9) 0 rfl rfl m179 m180 m0 m30 (by decide +kernel) rfl (Nat.le_of_ble_eq_true rfl) ⟨by decide, by decide⟩ ⟨by decide, by decide⟩ rfl rfl m181 d_M_reply_2 (fun v w1 hg => ?_)
  obtain ⟨rfl, rfl⟩ := hg
  show V κ 10 0 0 5 [(0, .ref o), (1, .int (nI i)), (2, .long x), (4, .long y), (6, .long t), (8, .int u)] [.ref a] [(o, .inr (4, [.ref sa, .ref la, .ref e, .ref d, .int dr, .int sf, .long nw, .long ls])), (sa, .inl (κ.z 3, nS, .inr (.inr (.inr (.inr fs))))), (a, .inr (3, [.long sec, .int (bI pen), .long pst, .long psi, .long acc, .int str, .int ref, .int rt, .int (nI sm), .ref b1, .ref b2, .ref b3])), (b1, .inl (κ.z 1, 8, .inr (.inl lo))), (b2, .inl (κ.z 1, 8, .inr (.inl hi))), (b3, .inl (κ.z 1, 8, .inr (.inl ti)))]
  refine v_astore X d_M_reply_5 (by decide) (lv' := [(9, .ref a), (0, .ref o), (1, .int (nI i)), (2, .long x), (4, .long y), (6, .long t), (8, .int u)]) rfl ?_
  refine v_aload X 0 d_M_reply_7 rfl ?_
  refine v_ifnonnull X 14 d_M_reply_9 (by decide) ?_
  refine v_lload X 4 d_M_reply_14 rfl ?_
  refine v_callS X (n9 := 1) (As := [.long y]) (rest := []) (wc := []) (wr := [(o, .inr (4, [.ref sa, .ref la, .ref e, .ref d, .int dr, .int sf, .long nw, .long ls])), (sa, .inl (κ.z 3, nS, .inr (.inr (.inr (.inr fs))))), (a, .inr (3, [.long sec, .int (bI pen), .long pst, .long psi, .long acc, .int str, .int ref, .int rt, .int (nI sm), .ref b1, .ref b2, .ref b3])), (b1, .inl (κ.z 1, 8, .inr (.inl lo))), (b2, .inl (κ.z 1, 8, .inr (.inl hi))), (b3, .inl (κ.z 1, 8, .inr (.inl ti)))]) (c_M_isReplyTime κ.l κ.D κ.z y ) m209 m210 m30 (by decide +kernel) rfl (Nat.le_of_ble_eq_true rfl) ⟨by decide, by decide⟩ ⟨by decide, by decide⟩ rfl rfl m211 d_M_reply_16 (fun v w1 hg => ?_)
  obtain ⟨rfl, rfl⟩ := hg
  show V κ 10 0 0 19 [(9, .ref a), (0, .ref o), (1, .int (nI i)), (2, .long x), (4, .long y), (6, .long t), (8, .int u)] [.int (bI (f_M_isReplyTime y))] [(o, .inr (4, [.ref sa, .ref la, .ref e, .ref d, .int dr, .int sf, .long nw, .long ls])), (sa, .inl (κ.z 3, nS, .inr (.inr (.inr (.inr fs))))), (a, .inr (3, [.long sec, .int (bI pen), .long pst, .long psi, .long acc, .int str, .int ref, .int rt, .int (nI sm), .ref b1, .ref b2, .ref b3])), (b1, .inl (κ.z 1, 8, .inr (.inl lo))), (b2, .inl (κ.z 1, 8, .inr (.inl hi))), (b3, .inl (κ.z 1, 8, .inr (.inl ti)))]
  refine v_ifB_eq X 38 (t := f_M_isReplyTime y) d_M_reply_19 (by decide) (fun c19 => ?_) (fun c19 => ?_)
  · skip
    refine v_bipush X (-2) d_M_reply_38 (by decide) ?_
    exact v_iret X Y (by decide) (by decide) d_M_reply_40 ⟨by simp only [f_M_replyG, f_M_replyG_Sv_pending, f_M_replyG_Sv_acceptedOrigin, f_M_replyG_Sv_samples, f_M_replyG_r3, f_M_replyG_r4, f_M_replyG_r5, if_neg c19] <;> rfl, by simp only [f_M_replyG, f_M_replyG_Sv_pending, f_M_replyG_Sv_acceptedOrigin, f_M_replyG_Sv_samples, f_M_replyG_r3, f_M_replyG_r4, f_M_replyG_r5, if_neg c19] <;> rfl⟩
  · skip
    refine v_lload X 5 d_M_reply_22 rfl ?_
    refine v_callS X (n9 := 1) (As := [.long t]) (rest := []) (wc := []) (wr := [(o, .inr (4, [.ref sa, .ref la, .ref e, .ref d, .int dr, .int sf, .long nw, .long ls])), (sa, .inl (κ.z 3, nS, .inr (.inr (.inr (.inr fs))))), (a, .inr (3, [.long sec, .int (bI pen), .long pst, .long psi, .long acc, .int str, .int ref, .int rt, .int (nI sm), .ref b1, .ref b2, .ref b3])), (b1, .inl (κ.z 1, 8, .inr (.inl lo))), (b2, .inl (κ.z 1, 8, .inr (.inl hi))), (b3, .inl (κ.z 1, 8, .inr (.inl ti)))]) (c_M_isReplyTime κ.l κ.D κ.z t ) m209 m210 m30 (by decide +kernel) rfl (Nat.le_of_ble_eq_true rfl) ⟨by decide, by decide⟩ ⟨by decide, by decide⟩ rfl rfl m211 d_M_reply_24 (fun v w1 hg => ?_)
    obtain ⟨rfl, rfl⟩ := hg
    show V κ 10 0 0 27 [(9, .ref a), (0, .ref o), (1, .int (nI i)), (2, .long x), (4, .long y), (6, .long t), (8, .int u)] [.int (bI (f_M_isReplyTime t))] [(o, .inr (4, [.ref sa, .ref la, .ref e, .ref d, .int dr, .int sf, .long nw, .long ls])), (sa, .inl (κ.z 3, nS, .inr (.inr (.inr (.inr fs))))), (a, .inr (3, [.long sec, .int (bI pen), .long pst, .long psi, .long acc, .int str, .int ref, .int rt, .int (nI sm), .ref b1, .ref b2, .ref b3])), (b1, .inl (κ.z 1, 8, .inr (.inl lo))), (b2, .inl (κ.z 1, 8, .inr (.inl hi))), (b3, .inl (κ.z 1, 8, .inr (.inl ti)))]
    refine v_ifB_eq X 38 (t := f_M_isReplyTime t) d_M_reply_27 (by decide) (fun c27 => ?_) (fun c27 => ?_)
    · skip
      refine v_bipush X (-2) d_M_reply_38 (by decide) ?_
      exact v_iret X Y (by decide) (by decide) d_M_reply_40 ⟨by simp only [f_M_replyG, f_M_replyG_Sv_pending, f_M_replyG_Sv_acceptedOrigin, f_M_replyG_Sv_samples, f_M_replyG_r3, f_M_replyG_r4, f_M_replyG_r5, if_pos c19, if_neg c27] <;> rfl, by simp only [f_M_replyG, f_M_replyG_Sv_pending, f_M_replyG_Sv_acceptedOrigin, f_M_replyG_Sv_samples, f_M_replyG_r3, f_M_replyG_r4, f_M_replyG_r5, if_pos c19, if_neg c27] <;> rfl⟩
    · skip
      refine v_lload X 4 d_M_reply_30 rfl ?_
      refine v_lload X 5 d_M_reply_32 rfl ?_
      refine v_lcmp_le X 41 d_M_reply_34 d_M_reply_35 (by decide) (fun c34 => ?_) (fun c34 => ?_)
      · skip
        refine v_iload X 6 d_M_reply_41 rfl ?_
        refine v_aload X 0 d_M_reply_43 rfl ?_
        refine v_get X 2 0 rfl rfl li_Sv (by decide) m57 rfl d_M_reply_45 ?_
        refine v_lload_n X 3 d_M_reply_48 rfl ?_
        refine v_lload X 4 d_M_reply_49 rfl ?_
        refine v_lload X 5 d_M_reply_51 rfl ?_
        refine v_callS X (n9 := 4) (As := [.long sec, .long x, .long y, .long t]) (rest := [.int u]) (wc := []) (wr := [(o, .inr (4, [.ref sa, .ref la, .ref e, .ref d, .int dr, .int sf, .long nw, .long ls])), (sa, .inl (κ.z 3, nS, .inr (.inr (.inr (.inr fs))))), (a, .inr (3, [.long sec, .int (bI pen), .long pst, .long psi, .long acc, .int str, .int ref, .int rt, .int (nI sm), .ref b1, .ref b2, .ref b3])), (b1, .inl (κ.z 1, 8, .inr (.inl lo))), (b2, .inl (κ.z 1, 8, .inr (.inl hi))), (b3, .inl (κ.z 1, 8, .inr (.inl ti)))]) (c_M_sealUnder κ.l κ.D κ.z sec x y t ) m186 m187 m30 (by decide +kernel) rfl (Nat.le_of_ble_eq_true rfl) ⟨by decide, by decide⟩ ⟨by decide, by decide⟩ rfl rfl m188 d_M_reply_53 (fun v w1 hg => ?_)
        obtain ⟨rfl, rfl⟩ := hg
        show V κ 10 0 0 56 [(9, .ref a), (0, .ref o), (1, .int (nI i)), (2, .long x), (4, .long y), (6, .long t), (8, .int u)] [.int (f_M_sealUnder sec x y t), .int u] [(o, .inr (4, [.ref sa, .ref la, .ref e, .ref d, .int dr, .int sf, .long nw, .long ls])), (sa, .inl (κ.z 3, nS, .inr (.inr (.inr (.inr fs))))), (a, .inr (3, [.long sec, .int (bI pen), .long pst, .long psi, .long acc, .int str, .int ref, .int rt, .int (nI sm), .ref b1, .ref b2, .ref b3])), (b1, .inl (κ.z 1, 8, .inr (.inl lo))), (b2, .inl (κ.z 1, 8, .inr (.inl hi))), (b3, .inl (κ.z 1, 8, .inr (.inl ti)))]
        refine v_icmp_eq X 62 d_M_reply_56 (by decide) (fun c56 => ?_) (fun c56 => ?_)
        · skip
          refine v_aload X 0 d_M_reply_62 rfl ?_
          refine v_lload_n X 3 d_M_reply_64 rfl ?_
          refine v_perm (perm_idx (α := Nat × va_E) (ws := [(o, .inr (4, [.ref sa, .ref la, .ref e, .ref d, .int dr, .int sf, .long nw, .long ls])), (sa, .inl (κ.z 3, nS, .inr (.inr (.inr (.inr fs))))), (a, .inr (3, [.long sec, .int (bI pen), .long pst, .long psi, .long acc, .int str, .int ref, .int rt, .int (nI sm), .ref b1, .ref b2, .ref b3])), (b1, .inl (κ.z 1, 8, .inr (.inl lo))), (b2, .inl (κ.z 1, 8, .inr (.inl hi))), (b3, .inl (κ.z 1, 8, .inr (.inl ti)))]) (ws' := [(a, .inr (3, [.long sec, .int (bI pen), .long pst, .long psi, .long acc, .int str, .int ref, .int rt, .int (nI sm), .ref b1, .ref b2, .ref b3])), (b1, .inl (κ.z 1, 8, .inr (.inl lo))), (b2, .inl (κ.z 1, 8, .inr (.inl hi))), (b3, .inl (κ.z 1, 8, .inr (.inl ti))), (o, .inr (4, [.ref sa, .ref la, .ref e, .ref d, .int dr, .int sf, .long nw, .long ls])), (sa, .inl (κ.z 3, nS, .inr (.inr (.inr (.inr fs)))))]) [2, 3, 4, 5, 0, 1] rfl rfl) ?_
          refine v_callV X (b := a) (n9 := 1) (As := [.long x]) (rest := []) (wc := [(a, .inr (3, [.long sec, .int (bI pen), .long pst, .long psi, .long acc, .int str, .int ref, .int rt, .int (nI sm), .ref b1, .ref b2, .ref b3])), (b1, .inl (κ.z 1, 8, .inr (.inl lo))), (b2, .inl (κ.z 1, 8, .inr (.inl hi))), (b3, .inl (κ.z 1, 8, .inr (.inl ti)))]) (wr := [(o, .inr (4, [.ref sa, .ref la, .ref e, .ref d, .int dr, .int sf, .long nw, .long ls])), (sa, .inl (κ.z 3, nS, .inr (.inr (.inr (.inr fs)))))]) (c_Sv_acceptedLast κ.l κ.D κ.z a b1 b2 b3 sec pen pst psi acc str ref rt sm lo hi ti x (by omega)) 0 rfl rfl m213 m214 m215 m32 (by decide +kernel) rfl (Nat.le_of_ble_eq_true rfl) ⟨by decide, by decide⟩ ⟨by decide, by decide⟩ rfl rfl m216 d_M_reply_65 (fun v w1 hg => ?_)
          obtain ⟨rfl, rfl⟩ := hg
          refine v_perm (perm_idx (α := Nat × va_E) (ws := [(a, .inr (3, [.long sec, .int (bI pen), .long pst, .long psi, .long acc, .int str, .int ref, .int rt, .int (nI sm), .ref b1, .ref b2, .ref b3])), (b1, .inl (κ.z 1, 8, .inr (.inl lo))), (b2, .inl (κ.z 1, 8, .inr (.inl hi))), (b3, .inl (κ.z 1, 8, .inr (.inl ti))), (o, .inr (4, [.ref sa, .ref la, .ref e, .ref d, .int dr, .int sf, .long nw, .long ls])), (sa, .inl (κ.z 3, nS, .inr (.inr (.inr (.inr fs)))))]) (ws' := [(o, .inr (4, [.ref sa, .ref la, .ref e, .ref d, .int dr, .int sf, .long nw, .long ls])), (sa, .inl (κ.z 3, nS, .inr (.inr (.inr (.inr fs))))), (a, .inr (3, [.long sec, .int (bI pen), .long pst, .long psi, .long acc, .int str, .int ref, .int rt, .int (nI sm), .ref b1, .ref b2, .ref b3])), (b1, .inl (κ.z 1, 8, .inr (.inl lo))), (b2, .inl (κ.z 1, 8, .inr (.inl hi))), (b3, .inl (κ.z 1, 8, .inr (.inl ti)))]) [4, 5, 0, 1, 2, 3] rfl rfl) ?_
          show V κ 10 0 0 68 [(9, .ref a), (0, .ref o), (1, .int (nI i)), (2, .long x), (4, .long y), (6, .long t), (8, .int u)] [.int (bI (f_Sv_acceptedLast acc sm x))] [(o, .inr (4, [.ref sa, .ref la, .ref e, .ref d, .int dr, .int sf, .long nw, .long ls])), (sa, .inl (κ.z 3, nS, .inr (.inr (.inr (.inr fs))))), (a, .inr (3, [.long sec, .int (bI pen), .long pst, .long psi, .long acc, .int str, .int ref, .int rt, .int (nI sm), .ref b1, .ref b2, .ref b3])), (b1, .inl (κ.z 1, 8, .inr (.inl lo))), (b2, .inl (κ.z 1, 8, .inr (.inl hi))), (b3, .inl (κ.z 1, 8, .inr (.inl ti)))]
          refine v_ifB_eq X 74 (t := f_Sv_acceptedLast acc sm x) d_M_reply_68 (by decide) (fun c68 => ?_) (fun c68 => ?_)
          · skip
            refine v_aload X 0 d_M_reply_74 rfl ?_
            refine v_lload_n X 3 d_M_reply_76 rfl ?_
            refine v_perm (perm_idx (α := Nat × va_E) (ws := [(o, .inr (4, [.ref sa, .ref la, .ref e, .ref d, .int dr, .int sf, .long nw, .long ls])), (sa, .inl (κ.z 3, nS, .inr (.inr (.inr (.inr fs))))), (a, .inr (3, [.long sec, .int (bI pen), .long pst, .long psi, .long acc, .int str, .int ref, .int rt, .int (nI sm), .ref b1, .ref b2, .ref b3])), (b1, .inl (κ.z 1, 8, .inr (.inl lo))), (b2, .inl (κ.z 1, 8, .inr (.inl hi))), (b3, .inl (κ.z 1, 8, .inr (.inl ti)))]) (ws' := [(a, .inr (3, [.long sec, .int (bI pen), .long pst, .long psi, .long acc, .int str, .int ref, .int rt, .int (nI sm), .ref b1, .ref b2, .ref b3])), (b1, .inl (κ.z 1, 8, .inr (.inl lo))), (b2, .inl (κ.z 1, 8, .inr (.inl hi))), (b3, .inl (κ.z 1, 8, .inr (.inl ti))), (o, .inr (4, [.ref sa, .ref la, .ref e, .ref d, .int dr, .int sf, .long nw, .long ls])), (sa, .inl (κ.z 3, nS, .inr (.inr (.inr (.inr fs)))))]) [2, 3, 4, 5, 0, 1] rfl rfl) ?_
            refine v_callV X (b := a) (n9 := 1) (As := [.long x]) (rest := []) (wc := [(a, .inr (3, [.long sec, .int (bI pen), .long pst, .long psi, .long acc, .int str, .int ref, .int rt, .int (nI sm), .ref b1, .ref b2, .ref b3])), (b1, .inl (κ.z 1, 8, .inr (.inl lo))), (b2, .inl (κ.z 1, 8, .inr (.inl hi))), (b3, .inl (κ.z 1, 8, .inr (.inl ti)))]) (wr := [(o, .inr (4, [.ref sa, .ref la, .ref e, .ref d, .int dr, .int sf, .long nw, .long ls])), (sa, .inl (κ.z 3, nS, .inr (.inr (.inr (.inr fs)))))]) (c_Sv_expects κ.l κ.D κ.z a b1 b2 b3 sec pen pst psi acc str ref rt sm lo hi ti x (by omega)) 0 rfl rfl m217 m218 m219 m32 (by decide +kernel) rfl (Nat.le_of_ble_eq_true rfl) ⟨by decide, by decide⟩ ⟨by decide, by decide⟩ rfl rfl m220 d_M_reply_77 (fun v w1 hg => ?_)
            obtain ⟨rfl, rfl⟩ := hg
            refine v_perm (perm_idx (α := Nat × va_E) (ws := [(a, .inr (3, [.long sec, .int (bI pen), .long pst, .long psi, .long acc, .int str, .int ref, .int rt, .int (nI sm), .ref b1, .ref b2, .ref b3])), (b1, .inl (κ.z 1, 8, .inr (.inl lo))), (b2, .inl (κ.z 1, 8, .inr (.inl hi))), (b3, .inl (κ.z 1, 8, .inr (.inl ti))), (o, .inr (4, [.ref sa, .ref la, .ref e, .ref d, .int dr, .int sf, .long nw, .long ls])), (sa, .inl (κ.z 3, nS, .inr (.inr (.inr (.inr fs)))))]) (ws' := [(o, .inr (4, [.ref sa, .ref la, .ref e, .ref d, .int dr, .int sf, .long nw, .long ls])), (sa, .inl (κ.z 3, nS, .inr (.inr (.inr (.inr fs))))), (a, .inr (3, [.long sec, .int (bI pen), .long pst, .long psi, .long acc, .int str, .int ref, .int rt, .int (nI sm), .ref b1, .ref b2, .ref b3])), (b1, .inl (κ.z 1, 8, .inr (.inl lo))), (b2, .inl (κ.z 1, 8, .inr (.inl hi))), (b3, .inl (κ.z 1, 8, .inr (.inl ti)))]) [4, 5, 0, 1, 2, 3] rfl rfl) ?_
            show V κ 10 0 0 80 [(9, .ref a), (0, .ref o), (1, .int (nI i)), (2, .long x), (4, .long y), (6, .long t), (8, .int u)] [.int (bI (f_Sv_expects pen pst x))] [(o, .inr (4, [.ref sa, .ref la, .ref e, .ref d, .int dr, .int sf, .long nw, .long ls])), (sa, .inl (κ.z 3, nS, .inr (.inr (.inr (.inr fs))))), (a, .inr (3, [.long sec, .int (bI pen), .long pst, .long psi, .long acc, .int str, .int ref, .int rt, .int (nI sm), .ref b1, .ref b2, .ref b3])), (b1, .inl (κ.z 1, 8, .inr (.inl lo))), (b2, .inl (κ.z 1, 8, .inr (.inl hi))), (b3, .inl (κ.z 1, 8, .inr (.inl ti)))]
            refine v_ifB_ne X 86 (t := f_Sv_expects pen pst x) d_M_reply_80 (by decide) (fun c80 => ?_) (fun c80 => ?_)
            · skip
              refine v_lload X 5 d_M_reply_86 rfl ?_
              refine v_lload X 4 d_M_reply_88 rfl ?_
              refine v_lsub X d_M_reply_90 ?_
              refine v_aload_n X 1 d_M_reply_91 rfl ?_
              refine v_get X 0 6 rfl rfl li_M (by decide) m156 rfl d_M_reply_92 ?_
              refine v_aload X 0 d_M_reply_95 rfl ?_
              refine v_get X 2 3 rfl rfl li_Sv (by decide) m61 rfl d_M_reply_97 ?_
              refine v_lsub X d_M_reply_100 ?_
              refine v_lcmp_le X 108 d_M_reply_101 d_M_reply_102 (by decide) (fun c101 => ?_) (fun c101 => ?_)
              · skip
                refine v_aload X 0 d_M_reply_108 rfl ?_
                refine v_lload_n X 3 d_M_reply_110 rfl ?_
                refine v_lload X 4 d_M_reply_111 rfl ?_
                refine v_lload X 5 d_M_reply_113 rfl ?_
                refine v_aload_n X 1 d_M_reply_115 rfl ?_
                refine v_get X 0 6 rfl rfl li_M (by decide) m156 rfl d_M_reply_116 ?_
                refine v_perm (perm_idx (α := Nat × va_E) (ws := [(o, .inr (4, [.ref sa, .ref la, .ref e, .ref d, .int dr, .int sf, .long nw, .long ls])), (sa, .inl (κ.z 3, nS, .inr (.inr (.inr (.inr fs))))), (a, .inr (3, [.long sec, .int (bI pen), .long pst, .long psi, .long acc, .int str, .int ref, .int rt, .int (nI sm), .ref b1, .ref b2, .ref b3])), (b1, .inl (κ.z 1, 8, .inr (.inl lo))), (b2, .inl (κ.z 1, 8, .inr (.inl hi))), (b3, .inl (κ.z 1, 8, .inr (.inl ti)))]) (ws' := [(a, .inr (3, [.long sec, .int (bI pen), .long pst, .long psi, .long acc, .int str, .int ref, .int rt, .int (nI sm), .ref b1, .ref b2, .ref b3])), (b1, .inl (κ.z 1, 8, .inr (.inl lo))), (b2, .inl (κ.z 1, 8, .inr (.inl hi))), (b3, .inl (κ.z 1, 8, .inr (.inl ti))), (o, .inr (4, [.ref sa, .ref la, .ref e, .ref d, .int dr, .int sf, .long nw, .long ls])), (sa, .inl (κ.z 3, nS, .inr (.inr (.inr (.inr fs)))))]) [2, 3, 4, 5, 0, 1] rfl rfl) ?_
                refine v_callV X (b := a) (n9 := 4) (As := [.long x, .long y, .long t, .long nw]) (rest := []) (wc := [(a, .inr (3, [.long sec, .int (bI pen), .long pst, .long psi, .long acc, .int str, .int ref, .int rt, .int (nI sm), .ref b1, .ref b2, .ref b3])), (b1, .inl (κ.z 1, 8, .inr (.inl lo))), (b2, .inl (κ.z 1, 8, .inr (.inl hi))), (b3, .inl (κ.z 1, 8, .inr (.inl ti)))]) (wr := [(o, .inr (4, [.ref sa, .ref la, .ref e, .ref d, .int dr, .int sf, .long nw, .long ls])), (sa, .inl (κ.z 3, nS, .inr (.inr (.inr (.inr fs)))))]) (c_Sv_accept κ.l κ.D κ.z a b1 b2 b3 sec pen pst psi acc str ref rt sm lo hi ti x y t nw (by omega)) 0 rfl rfl m221 m222 m223 m32 (by decide +kernel) rfl (Nat.le_of_ble_eq_true rfl) ⟨by decide, by decide⟩ ⟨by decide, by decide⟩ rfl rfl m224 d_M_reply_119 (fun v w1 hg => ?_)
                obtain ⟨rfl, rfl⟩ := hg
                refine v_perm (perm_idx (α := Nat × va_E) (ws := [(a, .inr (3, [.long sec, .int (bI false), .long pst, .long psi, .long x, .int str, .int ref, .int rt, .int (nI (f_J_min_IIN (sm + 1) 8)), .ref b1, .ref b2, .ref b3])), (b1, .inl (κ.z 1, 8, .inr (.inl (f_Sv_accept_r1 sm lo hi ti t nw)))), (b2, .inl (κ.z 1, 8, .inr (.inl (f_Sv_accept_r2 psi sm lo hi ti y)))), (b3, .inl (κ.z 1, 8, .inr (.inl (f_Sv_accept_r3 sm lo hi ti nw)))), (o, .inr (4, [.ref sa, .ref la, .ref e, .ref d, .int dr, .int sf, .long nw, .long ls])), (sa, .inl (κ.z 3, nS, .inr (.inr (.inr (.inr fs)))))]) (ws' := [(o, .inr (4, [.ref sa, .ref la, .ref e, .ref d, .int dr, .int sf, .long nw, .long ls])), (sa, .inl (κ.z 3, nS, .inr (.inr (.inr (.inr fs))))), (a, .inr (3, [.long sec, .int (bI false), .long pst, .long psi, .long x, .int str, .int ref, .int rt, .int (nI (f_J_min_IIN (sm + 1) 8)), .ref b1, .ref b2, .ref b3])), (b1, .inl (κ.z 1, 8, .inr (.inl (f_Sv_accept_r1 sm lo hi ti t nw)))), (b2, .inl (κ.z 1, 8, .inr (.inl (f_Sv_accept_r2 psi sm lo hi ti y)))), (b3, .inl (κ.z 1, 8, .inr (.inl (f_Sv_accept_r3 sm lo hi ti nw))))]) [4, 5, 0, 1, 2, 3] rfl rfl) ?_
                show V κ 10 0 0 122 [(9, .ref a), (0, .ref o), (1, .int (nI i)), (2, .long x), (4, .long y), (6, .long t), (8, .int u)] [] [(o, .inr (4, [.ref sa, .ref la, .ref e, .ref d, .int dr, .int sf, .long nw, .long ls])), (sa, .inl (κ.z 3, nS, .inr (.inr (.inr (.inr fs))))), (a, .inr (3, [.long sec, .int (bI false), .long pst, .long psi, .long x, .int str, .int ref, .int rt, .int (nI (f_J_min_IIN (sm + 1) 8)), .ref b1, .ref b2, .ref b3])), (b1, .inl (κ.z 1, 8, .inr (.inl (f_Sv_accept_r1 sm lo hi ti t nw)))), (b2, .inl (κ.z 1, 8, .inr (.inl (f_Sv_accept_r2 psi sm lo hi ti y)))), (b3, .inl (κ.z 1, 8, .inr (.inl (f_Sv_accept_r3 sm lo hi ti nw))))]
                refine v_aload X 0 d_M_reply_122 rfl ?_
                refine v_get X 2 8 rfl rfl li_Sv (by decide) m69 rfl d_M_reply_124 ?_
                exact v_iret X Y (by decide) (by decide) d_M_reply_127 ⟨by simp only [f_M_replyG, f_M_replyG_Sv_pending, f_M_replyG_Sv_acceptedOrigin, f_M_replyG_Sv_samples, f_M_replyG_r3, f_M_replyG_r4, f_M_replyG_r5, if_pos c19, if_pos c27, if_pos c34, if_pos c56, if_neg c68, if_pos c80, if_pos c101] <;> rfl, by simp only [f_M_replyG, f_M_replyG_Sv_pending, f_M_replyG_Sv_acceptedOrigin, f_M_replyG_Sv_samples, f_M_replyG_r3, f_M_replyG_r4, f_M_replyG_r5, if_pos c19, if_pos c27, if_pos c34, if_pos c56, if_neg c68, if_pos c80, if_pos c101] <;> rfl⟩
              · skip
                refine v_bipush X (-6) d_M_reply_105 (by decide) ?_
                exact v_iret X Y (by decide) (by decide) d_M_reply_107 ⟨by simp only [f_M_replyG, f_M_replyG_Sv_pending, f_M_replyG_Sv_acceptedOrigin, f_M_replyG_Sv_samples, f_M_replyG_r3, f_M_replyG_r4, f_M_replyG_r5, if_pos c19, if_pos c27, if_pos c34, if_pos c56, if_neg c68, if_pos c80, if_neg c101] <;> rfl, by simp only [f_M_replyG, f_M_replyG_Sv_pending, f_M_replyG_Sv_acceptedOrigin, f_M_replyG_Sv_samples, f_M_replyG_r3, f_M_replyG_r4, f_M_replyG_r5, if_pos c19, if_pos c27, if_pos c34, if_pos c56, if_neg c68, if_pos c80, if_neg c101] <;> rfl⟩
            · skip
              refine v_bipush X (-5) d_M_reply_83 (by decide) ?_
              exact v_iret X Y (by decide) (by decide) d_M_reply_85 ⟨by simp only [f_M_replyG, f_M_replyG_Sv_pending, f_M_replyG_Sv_acceptedOrigin, f_M_replyG_Sv_samples, f_M_replyG_r3, f_M_replyG_r4, f_M_replyG_r5, if_pos c19, if_pos c27, if_pos c34, if_pos c56, if_neg c68, if_neg c80] <;> rfl, by simp only [f_M_replyG, f_M_replyG_Sv_pending, f_M_replyG_Sv_acceptedOrigin, f_M_replyG_Sv_samples, f_M_replyG_r3, f_M_replyG_r4, f_M_replyG_r5, if_pos c19, if_pos c27, if_pos c34, if_pos c56, if_neg c68, if_neg c80] <;> rfl⟩
          · skip
            refine v_bipush X (-4) d_M_reply_71 (by decide) ?_
            exact v_iret X Y (by decide) (by decide) d_M_reply_73 ⟨by simp only [f_M_replyG, f_M_replyG_Sv_pending, f_M_replyG_Sv_acceptedOrigin, f_M_replyG_Sv_samples, f_M_replyG_r3, f_M_replyG_r4, f_M_replyG_r5, if_pos c19, if_pos c27, if_pos c34, if_pos c56, if_pos c68] <;> rfl, by simp only [f_M_replyG, f_M_replyG_Sv_pending, f_M_replyG_Sv_acceptedOrigin, f_M_replyG_Sv_samples, f_M_replyG_r3, f_M_replyG_r4, f_M_replyG_r5, if_pos c19, if_pos c27, if_pos c34, if_pos c56, if_pos c68] <;> rfl⟩
        · skip
          refine v_bipush X (-3) d_M_reply_59 (by decide) ?_
          exact v_iret X Y (by decide) (by decide) d_M_reply_61 ⟨by simp only [f_M_replyG, f_M_replyG_Sv_pending, f_M_replyG_Sv_acceptedOrigin, f_M_replyG_Sv_samples, f_M_replyG_r3, f_M_replyG_r4, f_M_replyG_r5, if_pos c19, if_pos c27, if_pos c34, if_neg c56] <;> rfl, by simp only [f_M_replyG, f_M_replyG_Sv_pending, f_M_replyG_Sv_acceptedOrigin, f_M_replyG_Sv_samples, f_M_replyG_r3, f_M_replyG_r4, f_M_replyG_r5, if_pos c19, if_pos c27, if_pos c34, if_neg c56] <;> rfl⟩
      · skip
        refine v_bipush X (-2) d_M_reply_38 (by decide) ?_
        exact v_iret X Y (by decide) (by decide) d_M_reply_40 ⟨by simp only [f_M_replyG, f_M_replyG_Sv_pending, f_M_replyG_Sv_acceptedOrigin, f_M_replyG_Sv_samples, f_M_replyG_r3, f_M_replyG_r4, f_M_replyG_r5, if_pos c19, if_pos c27, if_neg c34] <;> rfl, by simp only [f_M_replyG, f_M_replyG_Sv_pending, f_M_replyG_Sv_acceptedOrigin, f_M_replyG_Sv_samples, f_M_replyG_r3, f_M_replyG_r4, f_M_replyG_r5, if_pos c19, if_pos c27, if_neg c34] <;> rfl⟩

set_option maxHeartbeats 4000000 in
set_option maxRecDepth 100000 in
theorem c_M_replyB (l : Launch) (D : va_G) (z : Nat → ClassId) (o : Nat) (sa : Nat) (la : Nat) (e : Nat) (d : Nat) (dr : Int32) (sf : Int32) (nw : Int64) (ls : Int64) (nS : Nat) (fs : Nat → Option Nat) (s : Int32) (x : Int64) (y : Int64) (t : Int64) (u : Int32) (hb9 : ¬ s < 0 → ¬ s < nI nS) : Ctr l D z y_M_reply b_M_reply 10 (some .int) { frames := 3, cells := 0, slots := 0, locals := 70 } [.ref o, .int s, .long x, .long y, .long t, .int u] [(o, .inr (4, [.ref sa, .ref la, .ref e, .ref d, .int dr, .int sf, .long nw, .long ls])), (sa, .inl (z 3, nS, .inr (.inr (.inr (.inr fs)))))] (fun v w => v = some (.int (-1 : Int32)) ∧ w = [(o, .inr (4, [.ref sa, .ref la, .ref e, .ref d, .int dr, .int sf, .long nw, .long ls])), (sa, .inl (z 3, nS, .inr (.inr (.inr (.inr fs)))))]) 0 0 := by
  refine met_V (own := R_M) (nm := "reply") (by decide +kernel) rfl rfl (Nat.le_of_ble_eq_true rfl) ?_
  intro κ hl hD hz X Y
  subst hl
  subst hD
  subst hz
  show V κ 10 0 0 0 [(0, .ref o), (1, .int s), (2, .long x), (4, .long y), (6, .long t), (8, .int u)] [] [(o, .inr (4, [.ref sa, .ref la, .ref e, .ref d, .int dr, .int sf, .long nw, .long ls])), (sa, .inl (κ.z 3, nS, .inr (.inr (.inr (.inr fs)))))]
  refine v_aload_n X 0 d_M_reply_0 rfl ?_
  refine v_iload_n X 1 d_M_reply_1 rfl ?_
  refine v_callV X (b := o) (n9 := 1) (As := [.int s]) (rest := []) (wc := [(o, .inr (4, [.ref sa, .ref la, .ref e, .ref d, .int dr, .int sf, .long nw, .long ls])), (sa, .inl (κ.z 3, nS, .inr (.inr (.inr (.inr fs)))))]) (wr := []) (c_M_serverOrNullB κ.l κ.D κ.z o sa la e d dr sf nw ls nS fs s hb9) 0 rfl rfl m179 m180 m0 m30 (by decide +kernel) rfl (Nat.le_of_ble_eq_true rfl) ⟨by decide, by decide⟩ ⟨by decide, by decide⟩ rfl rfl m181 d_M_reply_2 (fun v w1 hg => ?_)
  obtain ⟨rfl, rfl⟩ := hg
  show V κ 10 0 0 5 [(0, .ref o), (1, .int s), (2, .long x), (4, .long y), (6, .long t), (8, .int u)] [.null] [(o, .inr (4, [.ref sa, .ref la, .ref e, .ref d, .int dr, .int sf, .long nw, .long ls])), (sa, .inl (κ.z 3, nS, .inr (.inr (.inr (.inr fs)))))]
  refine v_astoreN X d_M_reply_5 (by decide) (lv' := [(9, .null), (0, .ref o), (1, .int s), (2, .long x), (4, .long y), (6, .long t), (8, .int u)]) rfl ?_
  refine v_aloadN X 0 d_M_reply_7 rfl ?_
  refine v_ifnonnullN X d_M_reply_9 ?_
  refine v_iconst X (-1) d_M_reply_12 (by decide) ?_
  exact v_iret X Y (by decide) (by decide) d_M_reply_13 ⟨rfl, rfl⟩

def f_M_tellG (x : Int32) (t : Int32) : Bool := if x < 1 then false else (if 16 < x then false else (if t < 0 then false else (if t ≤ 1000000 then true else false)))
def f_M_tellG_Sv_toldStratum (str : Int32) (x : Int32) (t : Int32) : Int32 := if x < 1 then str else (if 16 < x then str else (if t < 0 then str else (if t ≤ 1000000 then x else str)))
def f_M_tellG_Sv_toldReference (ref : Int32) (x : Int32) (y : Int32) (t : Int32) : Int32 := if x < 1 then ref else (if 16 < x then ref else (if t < 0 then ref else (if t ≤ 1000000 then y else ref)))
def f_M_tellG_Sv_toldRoot (rt : Int32) (x : Int32) (t : Int32) : Int32 := if x < 1 then rt else (if 16 < x then rt else (if t < 0 then rt else (if t ≤ 1000000 then t else rt)))
set_option maxHeartbeats 4000000 in
set_option maxRecDepth 100000 in
theorem c_M_tellG (l : Launch) (D : va_G) (z : Nat → ClassId) (o : Nat) (sa : Nat) (la : Nat) (e : Nat) (d : Nat) (dr : Int32) (sf : Int32) (nw : Int64) (ls : Int64) (nS : Nat) (fs : Nat → Option Nat) (a : Nat) (b1 : Nat) (b2 : Nat) (b3 : Nat) (sec : Int64) (pen : Bool) (pst : Int64) (psi : Int64) (acc : Int64) (str : Int32) (ref : Int32) (rt : Int32) (sm : Nat) (lo : Nat → Int64) (hi : Nat → Int64) (ti : Nat → Int64) (i : Nat) (x : Int32) (y : Int32) (t : Int32) (hi9 : i < nS) (hn9 : nS ≤ 6) (hf9 : fs i = some a) (hs8 : sm ≤ 8) : Ctr l D z y_M_tell b_M_tell 6 (some .boolean) { frames := 1, cells := 0, slots := 0, locals := 21 } [.ref o, .int (nI i), .int x, .int y, .int t] [(o, .inr (4, [.ref sa, .ref la, .ref e, .ref d, .int dr, .int sf, .long nw, .long ls])), (sa, .inl (z 3, nS, .inr (.inr (.inr (.inr fs))))), (a, .inr (3, [.long sec, .int (bI pen), .long pst, .long psi, .long acc, .int str, .int ref, .int rt, .int (nI sm), .ref b1, .ref b2, .ref b3])), (b1, .inl (z 1, 8, .inr (.inl lo))), (b2, .inl (z 1, 8, .inr (.inl hi))), (b3, .inl (z 1, 8, .inr (.inl ti)))] (fun v w => v = some (.int (bI (f_M_tellG x t))) ∧ w = [(o, .inr (4, [.ref sa, .ref la, .ref e, .ref d, .int dr, .int sf, .long nw, .long ls])), (sa, .inl (z 3, nS, .inr (.inr (.inr (.inr fs))))), (a, .inr (3, [.long sec, .int (bI pen), .long pst, .long psi, .long acc, .int (f_M_tellG_Sv_toldStratum str x t), .int (f_M_tellG_Sv_toldReference ref x y t), .int (f_M_tellG_Sv_toldRoot rt x t), .int (nI sm), .ref b1, .ref b2, .ref b3])), (b1, .inl (z 1, 8, .inr (.inl lo))), (b2, .inl (z 1, 8, .inr (.inl hi))), (b3, .inl (z 1, 8, .inr (.inl ti)))]) 0 0 := by
  refine met_V (own := R_M) (nm := "tell") (by decide +kernel) rfl rfl (Nat.le_of_ble_eq_true rfl) ?_
  intro κ hl hD hz X Y
  subst hl
  subst hD
  subst hz
  show V κ 6 0 0 0 [(0, .ref o), (1, .int (nI i)), (2, .int x), (3, .int y), (4, .int t)] [] [(o, .inr (4, [.ref sa, .ref la, .ref e, .ref d, .int dr, .int sf, .long nw, .long ls])), (sa, .inl (κ.z 3, nS, .inr (.inr (.inr (.inr fs))))), (a, .inr (3, [.long sec, .int (bI pen), .long pst, .long psi, .long acc, .int str, .int ref, .int rt, .int (nI sm), .ref b1, .ref b2, .ref b3])), (b1, .inl (κ.z 1, 8, .inr (.inl lo))), (b2, .inl (κ.z 1, 8, .inr (.inl hi))), (b3, .inl (κ.z 1, 8, .inr (.inl ti)))]
  refine v_aload_n X 0 d_M_tell_0 rfl ?_
  refine v_iload_n X 1 d_M_tell_1 rfl ?_
  refine v_callV X (b := o) (n9 := 1) (As := [.int (nI i)]) (rest := []) (wc := [(o, .inr (4, [.ref sa, .ref la, .ref e, .ref d, .int dr, .int sf, .long nw, .long ls])), (sa, .inl (κ.z 3, nS, .inr (.inr (.inr (.inr fs)))))]) (wr := [(a, .inr (3, [.long sec, .int (bI pen), .long pst, .long psi, .long acc, .int str, .int ref, .int rt, .int (nI sm), .ref b1, .ref b2, .ref b3])), (b1, .inl (κ.z 1, 8, .inr (.inl lo))), (b2, .inl (κ.z 1, 8, .inr (.inl hi))), (b3, .inl (κ.z 1, 8, .inr (.inl ti)))]) (c_M_serverOrNullG κ.l κ.D κ.z o sa la e d dr sf nw ls nS fs i a hi9 hn9 hf9) 0 rfl rfl m179 m180 m0 m30 (by decide +kernel) rfl (Nat.le_of_ble_eq_true rfl) ⟨by decide, by decide⟩ ⟨by decide, by decide⟩ rfl rfl m181 d_M_tell_2 (fun v w1 hg => ?_)
  obtain ⟨rfl, rfl⟩ := hg
  show V κ 6 0 0 5 [(0, .ref o), (1, .int (nI i)), (2, .int x), (3, .int y), (4, .int t)] [.ref a] [(o, .inr (4, [.ref sa, .ref la, .ref e, .ref d, .int dr, .int sf, .long nw, .long ls])), (sa, .inl (κ.z 3, nS, .inr (.inr (.inr (.inr fs))))), (a, .inr (3, [.long sec, .int (bI pen), .long pst, .long psi, .long acc, .int str, .int ref, .int rt, .int (nI sm), .ref b1, .ref b2, .ref b3])), (b1, .inl (κ.z 1, 8, .inr (.inl lo))), (b2, .inl (κ.z 1, 8, .inr (.inl hi))), (b3, .inl (κ.z 1, 8, .inr (.inl ti)))]
  refine v_astore X d_M_tell_5 (by decide) (lv' := [(5, .ref a), (0, .ref o), (1, .int (nI i)), (2, .int x), (3, .int y), (4, .int t)]) rfl ?_
  refine v_aload X 0 d_M_tell_7 rfl ?_
  refine v_ifnull X d_M_tell_9 ?_
  refine v_iload_n X 3 d_M_tell_12 rfl ?_
  refine v_iconst X 1 d_M_tell_13 (by decide) ?_
  refine v_icmp_lt X 35 d_M_tell_14 (by decide) (fun c14 => ?_) (fun c14 => ?_)
  · skip
    refine v_iconst X 0 d_M_tell_35 (by decide) ?_
    exact v_zret X Y (by decide) (by decide) d_M_tell_36 rfl ⟨by simp only [f_M_tellG, f_M_tellG_Sv_toldStratum, f_M_tellG_Sv_toldReference, f_M_tellG_Sv_toldRoot, if_pos c14] <;> rfl, by simp only [f_M_tellG, f_M_tellG_Sv_toldStratum, f_M_tellG_Sv_toldReference, f_M_tellG_Sv_toldRoot, if_pos c14] <;> rfl⟩
  · skip
    refine v_iload_n X 3 d_M_tell_17 rfl ?_
    refine v_bipush X 16 d_M_tell_18 (by decide) ?_
    refine v_icmp_gt X 35 d_M_tell_20 (by decide) (fun c20 => ?_) (fun c20 => ?_)
    · skip
      refine v_iconst X 0 d_M_tell_35 (by decide) ?_
      exact v_zret X Y (by decide) (by decide) d_M_tell_36 rfl ⟨by simp only [f_M_tellG, f_M_tellG_Sv_toldStratum, f_M_tellG_Sv_toldReference, f_M_tellG_Sv_toldRoot, if_neg c14, if_pos c20] <;> rfl, by simp only [f_M_tellG, f_M_tellG_Sv_toldStratum, f_M_tellG_Sv_toldReference, f_M_tellG_Sv_toldRoot, if_neg c14, if_pos c20] <;> rfl⟩
    · skip
      refine v_iload X 5 d_M_tell_23 rfl ?_
      refine v_if_lt X 35 d_M_tell_25 (by decide) (fun c25 => ?_) (fun c25 => ?_)
      · skip
        refine v_iconst X 0 d_M_tell_35 (by decide) ?_
        exact v_zret X Y (by decide) (by decide) d_M_tell_36 rfl ⟨by simp only [f_M_tellG, f_M_tellG_Sv_toldStratum, f_M_tellG_Sv_toldReference, f_M_tellG_Sv_toldRoot, if_neg c14, if_neg c20, if_pos c25] <;> rfl, by simp only [f_M_tellG, f_M_tellG_Sv_toldStratum, f_M_tellG_Sv_toldReference, f_M_tellG_Sv_toldRoot, if_neg c14, if_neg c20, if_pos c25] <;> rfl⟩
      · skip
        refine v_iload X 5 d_M_tell_28 rfl ?_
        refine v_ldc X (v := 1000000) m170 d_M_tell_30 ?_
        refine v_icmp_le X 37 d_M_tell_32 (by decide) (fun c32 => ?_) (fun c32 => ?_)
        · skip
          refine v_aload X 0 d_M_tell_37 rfl ?_
          refine v_iload_n X 3 d_M_tell_39 rfl ?_
          refine v_put X 2 5 (v := .int x) (ty := .int) ty_Sv tk_Sv n_Sv rfl rfl li_Sv (by decide) m64 rfl (by decide +kernel) rfl rfl (Nat.le_of_ble_eq_true rfl) d_M_tell_40 (ws' := [(o, .inr (4, [.ref sa, .ref la, .ref e, .ref d, .int dr, .int sf, .long nw, .long ls])), (sa, .inl (κ.z 3, nS, .inr (.inr (.inr (.inr fs))))), (a, .inr (3, [.long sec, .int (bI pen), .long pst, .long psi, .long acc, .int x, .int ref, .int rt, .int (nI sm), .ref b1, .ref b2, .ref b3])), (b1, .inl (κ.z 1, 8, .inr (.inl lo))), (b2, .inl (κ.z 1, 8, .inr (.inl hi))), (b3, .inl (κ.z 1, 8, .inr (.inl ti)))]) rfl ?_
          refine v_aload X 0 d_M_tell_43 rfl ?_
          refine v_iload_n X 4 d_M_tell_45 rfl ?_
          refine v_put X 2 6 (v := .int y) (ty := .int) ty_Sv tk_Sv n_Sv rfl rfl li_Sv (by decide) m65 rfl (by decide +kernel) rfl rfl (Nat.le_of_ble_eq_true rfl) d_M_tell_46 (ws' := [(o, .inr (4, [.ref sa, .ref la, .ref e, .ref d, .int dr, .int sf, .long nw, .long ls])), (sa, .inl (κ.z 3, nS, .inr (.inr (.inr (.inr fs))))), (a, .inr (3, [.long sec, .int (bI pen), .long pst, .long psi, .long acc, .int x, .int y, .int rt, .int (nI sm), .ref b1, .ref b2, .ref b3])), (b1, .inl (κ.z 1, 8, .inr (.inl lo))), (b2, .inl (κ.z 1, 8, .inr (.inl hi))), (b3, .inl (κ.z 1, 8, .inr (.inl ti)))]) rfl ?_
          refine v_aload X 0 d_M_tell_49 rfl ?_
          refine v_iload X 5 d_M_tell_51 rfl ?_
          refine v_put X 2 7 (v := .int t) (ty := .int) ty_Sv tk_Sv n_Sv rfl rfl li_Sv (by decide) m66 rfl (by decide +kernel) rfl rfl (Nat.le_of_ble_eq_true rfl) d_M_tell_53 (ws' := [(o, .inr (4, [.ref sa, .ref la, .ref e, .ref d, .int dr, .int sf, .long nw, .long ls])), (sa, .inl (κ.z 3, nS, .inr (.inr (.inr (.inr fs))))), (a, .inr (3, [.long sec, .int (bI pen), .long pst, .long psi, .long acc, .int x, .int y, .int t, .int (nI sm), .ref b1, .ref b2, .ref b3])), (b1, .inl (κ.z 1, 8, .inr (.inl lo))), (b2, .inl (κ.z 1, 8, .inr (.inl hi))), (b3, .inl (κ.z 1, 8, .inr (.inl ti)))]) rfl ?_
          refine v_iconst X 1 d_M_tell_56 (by decide) ?_
          exact v_zret X Y (by decide) (by decide) d_M_tell_57 rfl ⟨by simp only [f_M_tellG, f_M_tellG_Sv_toldStratum, f_M_tellG_Sv_toldReference, f_M_tellG_Sv_toldRoot, if_neg c14, if_neg c20, if_neg c25, if_pos c32] <;> rfl, by simp only [f_M_tellG, f_M_tellG_Sv_toldStratum, f_M_tellG_Sv_toldReference, f_M_tellG_Sv_toldRoot, if_neg c14, if_neg c20, if_neg c25, if_pos c32] <;> rfl⟩
        · skip
          refine v_iconst X 0 d_M_tell_35 (by decide) ?_
          exact v_zret X Y (by decide) (by decide) d_M_tell_36 rfl ⟨by simp only [f_M_tellG, f_M_tellG_Sv_toldStratum, f_M_tellG_Sv_toldReference, f_M_tellG_Sv_toldRoot, if_neg c14, if_neg c20, if_neg c25, if_neg c32] <;> rfl, by simp only [f_M_tellG, f_M_tellG_Sv_toldStratum, f_M_tellG_Sv_toldReference, f_M_tellG_Sv_toldRoot, if_neg c14, if_neg c20, if_neg c25, if_neg c32] <;> rfl⟩

set_option maxHeartbeats 4000000 in
set_option maxRecDepth 100000 in
theorem c_M_tellB (l : Launch) (D : va_G) (z : Nat → ClassId) (o : Nat) (sa : Nat) (la : Nat) (e : Nat) (d : Nat) (dr : Int32) (sf : Int32) (nw : Int64) (ls : Int64) (nS : Nat) (fs : Nat → Option Nat) (s : Int32) (x : Int32) (y : Int32) (t : Int32) (hb9 : ¬ s < 0 → ¬ s < nI nS) : Ctr l D z y_M_tell b_M_tell 6 (some .boolean) { frames := 1, cells := 0, slots := 0, locals := 21 } [.ref o, .int s, .int x, .int y, .int t] [(o, .inr (4, [.ref sa, .ref la, .ref e, .ref d, .int dr, .int sf, .long nw, .long ls])), (sa, .inl (z 3, nS, .inr (.inr (.inr (.inr fs)))))] (fun v w => v = some (.int (bI false)) ∧ w = [(o, .inr (4, [.ref sa, .ref la, .ref e, .ref d, .int dr, .int sf, .long nw, .long ls])), (sa, .inl (z 3, nS, .inr (.inr (.inr (.inr fs)))))]) 0 0 := by
  refine met_V (own := R_M) (nm := "tell") (by decide +kernel) rfl rfl (Nat.le_of_ble_eq_true rfl) ?_
  intro κ hl hD hz X Y
  subst hl
  subst hD
  subst hz
  show V κ 6 0 0 0 [(0, .ref o), (1, .int s), (2, .int x), (3, .int y), (4, .int t)] [] [(o, .inr (4, [.ref sa, .ref la, .ref e, .ref d, .int dr, .int sf, .long nw, .long ls])), (sa, .inl (κ.z 3, nS, .inr (.inr (.inr (.inr fs)))))]
  refine v_aload_n X 0 d_M_tell_0 rfl ?_
  refine v_iload_n X 1 d_M_tell_1 rfl ?_
  refine v_callV X (b := o) (n9 := 1) (As := [.int s]) (rest := []) (wc := [(o, .inr (4, [.ref sa, .ref la, .ref e, .ref d, .int dr, .int sf, .long nw, .long ls])), (sa, .inl (κ.z 3, nS, .inr (.inr (.inr (.inr fs)))))]) (wr := []) (c_M_serverOrNullB κ.l κ.D κ.z o sa la e d dr sf nw ls nS fs s hb9) 0 rfl rfl m179 m180 m0 m30 (by decide +kernel) rfl (Nat.le_of_ble_eq_true rfl) ⟨by decide, by decide⟩ ⟨by decide, by decide⟩ rfl rfl m181 d_M_tell_2 (fun v w1 hg => ?_)
  obtain ⟨rfl, rfl⟩ := hg
  show V κ 6 0 0 5 [(0, .ref o), (1, .int s), (2, .int x), (3, .int y), (4, .int t)] [.null] [(o, .inr (4, [.ref sa, .ref la, .ref e, .ref d, .int dr, .int sf, .long nw, .long ls])), (sa, .inl (κ.z 3, nS, .inr (.inr (.inr (.inr fs)))))]
  refine v_astoreN X d_M_tell_5 (by decide) (lv' := [(5, .null), (0, .ref o), (1, .int s), (2, .int x), (3, .int y), (4, .int t)]) rfl ?_
  refine v_aloadN X 0 d_M_tell_7 rfl ?_
  refine v_ifnullN X 35 d_M_tell_9 (by decide) ?_
  refine v_iconst X 0 d_M_tell_35 (by decide) ?_
  exact v_zret X Y (by decide) (by decide) d_M_tell_36 rfl ⟨rfl, rfl⟩

def f_M_lowG (dr : Int32) (nw : Int64) (rt : Int32) (sm : Nat) (lo : Nat → Int64) (hi : Nat → Int64) (ti : Nat → Int64) : Int64 := if sm = 0 then (-4611686018427387904) else f_Sv_lowerEnd rt lo ti (shb rt lo hi ti nw dr (sm - 1)) nw dr
set_option maxHeartbeats 4000000 in
set_option maxRecDepth 100000 in
theorem c_M_lowG (l : Launch) (D : va_G) (z : Nat → ClassId) (o : Nat) (sa : Nat) (la : Nat) (e : Nat) (d : Nat) (dr : Int32) (sf : Int32) (nw : Int64) (ls : Int64) (nS : Nat) (fs : Nat → Option Nat) (a : Nat) (b1 : Nat) (b2 : Nat) (b3 : Nat) (sec : Int64) (pen : Bool) (pst : Int64) (psi : Int64) (acc : Int64) (str : Int32) (ref : Int32) (rt : Int32) (sm : Nat) (lo : Nat → Int64) (hi : Nat → Int64) (ti : Nat → Int64) (i : Nat) (hi9 : i < nS) (hn9 : nS ≤ 6) (hf9 : fs i = some a) (hs8 : sm ≤ 8) : Ctr l D z y_M_low b_M_low 3 (some .long) { frames := 5, cells := 0, slots := 0, locals := 120 } [.ref o, .int (nI i)] [(o, .inr (4, [.ref sa, .ref la, .ref e, .ref d, .int dr, .int sf, .long nw, .long ls])), (sa, .inl (z 3, nS, .inr (.inr (.inr (.inr fs))))), (a, .inr (3, [.long sec, .int (bI pen), .long pst, .long psi, .long acc, .int str, .int ref, .int rt, .int (nI sm), .ref b1, .ref b2, .ref b3])), (b1, .inl (z 1, 8, .inr (.inl lo))), (b2, .inl (z 1, 8, .inr (.inl hi))), (b3, .inl (z 1, 8, .inr (.inl ti)))] (fun v w => v = some (.long (f_M_lowG dr nw rt sm lo hi ti)) ∧ w = [(o, .inr (4, [.ref sa, .ref la, .ref e, .ref d, .int dr, .int sf, .long nw, .long ls])), (sa, .inl (z 3, nS, .inr (.inr (.inr (.inr fs))))), (a, .inr (3, [.long sec, .int (bI pen), .long pst, .long psi, .long acc, .int str, .int ref, .int rt, .int (nI sm), .ref b1, .ref b2, .ref b3])), (b1, .inl (z 1, 8, .inr (.inl lo))), (b2, .inl (z 1, 8, .inr (.inl hi))), (b3, .inl (z 1, 8, .inr (.inl ti)))]) 0 0 := by
  refine met_V (own := R_M) (nm := "low") (by decide +kernel) rfl rfl (Nat.le_of_ble_eq_true rfl) ?_
  intro κ hl hD hz X Y
  subst hl
  subst hD
  subst hz
  show V κ 3 0 0 0 [(0, .ref o), (1, .int (nI i))] [] [(o, .inr (4, [.ref sa, .ref la, .ref e, .ref d, .int dr, .int sf, .long nw, .long ls])), (sa, .inl (κ.z 3, nS, .inr (.inr (.inr (.inr fs))))), (a, .inr (3, [.long sec, .int (bI pen), .long pst, .long psi, .long acc, .int str, .int ref, .int rt, .int (nI sm), .ref b1, .ref b2, .ref b3])), (b1, .inl (κ.z 1, 8, .inr (.inl lo))), (b2, .inl (κ.z 1, 8, .inr (.inl hi))), (b3, .inl (κ.z 1, 8, .inr (.inl ti)))]
  refine v_aload_n X 0 d_M_low_0 rfl ?_
  refine v_iload_n X 1 d_M_low_1 rfl ?_
  refine v_callV X (b := o) (n9 := 1) (As := [.int (nI i)]) (rest := []) (wc := [(o, .inr (4, [.ref sa, .ref la, .ref e, .ref d, .int dr, .int sf, .long nw, .long ls])), (sa, .inl (κ.z 3, nS, .inr (.inr (.inr (.inr fs)))))]) (wr := [(a, .inr (3, [.long sec, .int (bI pen), .long pst, .long psi, .long acc, .int str, .int ref, .int rt, .int (nI sm), .ref b1, .ref b2, .ref b3])), (b1, .inl (κ.z 1, 8, .inr (.inl lo))), (b2, .inl (κ.z 1, 8, .inr (.inl hi))), (b3, .inl (κ.z 1, 8, .inr (.inl ti)))]) (c_M_serverOrNullG κ.l κ.D κ.z o sa la e d dr sf nw ls nS fs i a hi9 hn9 hf9) 0 rfl rfl m179 m180 m0 m30 (by decide +kernel) rfl (Nat.le_of_ble_eq_true rfl) ⟨by decide, by decide⟩ ⟨by decide, by decide⟩ rfl rfl m181 d_M_low_2 (fun v w1 hg => ?_)
  obtain ⟨rfl, rfl⟩ := hg
  show V κ 3 0 0 5 [(0, .ref o), (1, .int (nI i))] [.ref a] [(o, .inr (4, [.ref sa, .ref la, .ref e, .ref d, .int dr, .int sf, .long nw, .long ls])), (sa, .inl (κ.z 3, nS, .inr (.inr (.inr (.inr fs))))), (a, .inr (3, [.long sec, .int (bI pen), .long pst, .long psi, .long acc, .int str, .int ref, .int rt, .int (nI sm), .ref b1, .ref b2, .ref b3])), (b1, .inl (κ.z 1, 8, .inr (.inl lo))), (b2, .inl (κ.z 1, 8, .inr (.inl hi))), (b3, .inl (κ.z 1, 8, .inr (.inl ti)))]
  refine v_astore_n X d_M_low_5 rfl (by decide) (lv' := [(2, .ref a), (0, .ref o), (1, .int (nI i))]) rfl ?_
  refine v_aload_n X 0 d_M_low_6 rfl ?_
  refine v_ifnull X d_M_low_7 ?_
  refine v_aload_n X 0 d_M_low_10 rfl ?_
  refine v_get X 2 8 rfl rfl li_Sv (by decide) m69 rfl d_M_low_11 ?_
  refine v_ifN_ne X 21 (a := sm) d_M_low_14 (by decide) (by omega) (fun c14 => ?_) (fun c14 => ?_)
  · skip
    refine v_aload_n X 0 d_M_low_21 rfl ?_
    refine v_aload_n X 0 d_M_low_22 rfl ?_
    refine v_aload_n X 1 d_M_low_23 rfl ?_
    refine v_get X 0 6 rfl rfl li_M (by decide) m156 rfl d_M_low_24 ?_
    refine v_aload_n X 1 d_M_low_27 rfl ?_
    refine v_get X 0 4 rfl rfl li_M (by decide) m154 rfl d_M_low_28 ?_
    refine v_perm (perm_idx (α := Nat × va_E) (ws := [(o, .inr (4, [.ref sa, .ref la, .ref e, .ref d, .int dr, .int sf, .long nw, .long ls])), (sa, .inl (κ.z 3, nS, .inr (.inr (.inr (.inr fs))))), (a, .inr (3, [.long sec, .int (bI pen), .long pst, .long psi, .long acc, .int str, .int ref, .int rt, .int (nI sm), .ref b1, .ref b2, .ref b3])), (b1, .inl (κ.z 1, 8, .inr (.inl lo))), (b2, .inl (κ.z 1, 8, .inr (.inl hi))), (b3, .inl (κ.z 1, 8, .inr (.inl ti)))]) (ws' := [(a, .inr (3, [.long sec, .int (bI pen), .long pst, .long psi, .long acc, .int str, .int ref, .int rt, .int (nI sm), .ref b1, .ref b2, .ref b3])), (b1, .inl (κ.z 1, 8, .inr (.inl lo))), (b2, .inl (κ.z 1, 8, .inr (.inl hi))), (b3, .inl (κ.z 1, 8, .inr (.inl ti))), (o, .inr (4, [.ref sa, .ref la, .ref e, .ref d, .int dr, .int sf, .long nw, .long ls])), (sa, .inl (κ.z 3, nS, .inr (.inr (.inr (.inr fs)))))]) [2, 3, 4, 5, 0, 1] rfl rfl) ?_
    refine v_callV X (b := a) (n9 := 2) (As := [.long nw, .int dr]) (rest := [.ref a]) (wc := [(a, .inr (3, [.long sec, .int (bI pen), .long pst, .long psi, .long acc, .int str, .int ref, .int rt, .int (nI sm), .ref b1, .ref b2, .ref b3])), (b1, .inl (κ.z 1, 8, .inr (.inl lo))), (b2, .inl (κ.z 1, 8, .inr (.inl hi))), (b3, .inl (κ.z 1, 8, .inr (.inl ti)))]) (wr := [(o, .inr (4, [.ref sa, .ref la, .ref e, .ref d, .int dr, .int sf, .long nw, .long ls])), (sa, .inl (κ.z 3, nS, .inr (.inr (.inr (.inr fs)))))]) (c_Sv_shortestSample κ.l κ.D κ.z a b1 b2 b3 sec pen pst psi acc str ref rt sm lo hi ti nw dr (by omega) (by omega)) 0 rfl rfl m237 m238 m239 m32 (by decide +kernel) rfl (Nat.le_of_ble_eq_true rfl) ⟨by decide, by decide⟩ ⟨by decide, by decide⟩ rfl rfl m240 d_M_low_31 (fun v w1 hg => ?_)
    obtain ⟨rfl, rfl⟩ := hg
    refine v_perm (perm_idx (α := Nat × va_E) (ws := [(a, .inr (3, [.long sec, .int (bI pen), .long pst, .long psi, .long acc, .int str, .int ref, .int rt, .int (nI sm), .ref b1, .ref b2, .ref b3])), (b1, .inl (κ.z 1, 8, .inr (.inl lo))), (b2, .inl (κ.z 1, 8, .inr (.inl hi))), (b3, .inl (κ.z 1, 8, .inr (.inl ti))), (o, .inr (4, [.ref sa, .ref la, .ref e, .ref d, .int dr, .int sf, .long nw, .long ls])), (sa, .inl (κ.z 3, nS, .inr (.inr (.inr (.inr fs)))))]) (ws' := [(o, .inr (4, [.ref sa, .ref la, .ref e, .ref d, .int dr, .int sf, .long nw, .long ls])), (sa, .inl (κ.z 3, nS, .inr (.inr (.inr (.inr fs))))), (a, .inr (3, [.long sec, .int (bI pen), .long pst, .long psi, .long acc, .int str, .int ref, .int rt, .int (nI sm), .ref b1, .ref b2, .ref b3])), (b1, .inl (κ.z 1, 8, .inr (.inl lo))), (b2, .inl (κ.z 1, 8, .inr (.inl hi))), (b3, .inl (κ.z 1, 8, .inr (.inl ti)))]) [4, 5, 0, 1, 2, 3] rfl rfl) ?_
    show V κ 3 0 0 34 [(2, .ref a), (0, .ref o), (1, .int (nI i))] [.int (nI (shb rt lo hi ti nw dr (sm - 1))), .ref a] [(o, .inr (4, [.ref sa, .ref la, .ref e, .ref d, .int dr, .int sf, .long nw, .long ls])), (sa, .inl (κ.z 3, nS, .inr (.inr (.inr (.inr fs))))), (a, .inr (3, [.long sec, .int (bI pen), .long pst, .long psi, .long acc, .int str, .int ref, .int rt, .int (nI sm), .ref b1, .ref b2, .ref b3])), (b1, .inl (κ.z 1, 8, .inr (.inl lo))), (b2, .inl (κ.z 1, 8, .inr (.inl hi))), (b3, .inl (κ.z 1, 8, .inr (.inl ti)))]
    refine v_aload_n X 1 d_M_low_34 rfl ?_
    refine v_get X 0 6 rfl rfl li_M (by decide) m156 rfl d_M_low_35 ?_
    refine v_aload_n X 1 d_M_low_38 rfl ?_
    refine v_get X 0 4 rfl rfl li_M (by decide) m154 rfl d_M_low_39 ?_
    refine v_perm (perm_idx (α := Nat × va_E) (ws := [(o, .inr (4, [.ref sa, .ref la, .ref e, .ref d, .int dr, .int sf, .long nw, .long ls])), (sa, .inl (κ.z 3, nS, .inr (.inr (.inr (.inr fs))))), (a, .inr (3, [.long sec, .int (bI pen), .long pst, .long psi, .long acc, .int str, .int ref, .int rt, .int (nI sm), .ref b1, .ref b2, .ref b3])), (b1, .inl (κ.z 1, 8, .inr (.inl lo))), (b2, .inl (κ.z 1, 8, .inr (.inl hi))), (b3, .inl (κ.z 1, 8, .inr (.inl ti)))]) (ws' := [(a, .inr (3, [.long sec, .int (bI pen), .long pst, .long psi, .long acc, .int str, .int ref, .int rt, .int (nI sm), .ref b1, .ref b2, .ref b3])), (b1, .inl (κ.z 1, 8, .inr (.inl lo))), (b2, .inl (κ.z 1, 8, .inr (.inl hi))), (b3, .inl (κ.z 1, 8, .inr (.inl ti))), (o, .inr (4, [.ref sa, .ref la, .ref e, .ref d, .int dr, .int sf, .long nw, .long ls])), (sa, .inl (κ.z 3, nS, .inr (.inr (.inr (.inr fs)))))]) [2, 3, 4, 5, 0, 1] rfl rfl) ?_
    refine v_callV X (b := a) (n9 := 3) (As := [.int (nI (shb rt lo hi ti nw dr (sm - 1))), .long nw, .int dr]) (rest := []) (wc := [(a, .inr (3, [.long sec, .int (bI pen), .long pst, .long psi, .long acc, .int str, .int ref, .int rt, .int (nI sm), .ref b1, .ref b2, .ref b3])), (b1, .inl (κ.z 1, 8, .inr (.inl lo))), (b2, .inl (κ.z 1, 8, .inr (.inl hi))), (b3, .inl (κ.z 1, 8, .inr (.inl ti)))]) (wr := [(o, .inr (4, [.ref sa, .ref la, .ref e, .ref d, .int dr, .int sf, .long nw, .long ls])), (sa, .inl (κ.z 3, nS, .inr (.inr (.inr (.inr fs)))))]) (c_Sv_lowerEnd κ.l κ.D κ.z a b1 b2 b3 sec pen pst psi acc str ref rt sm lo hi ti (shb rt lo hi ti nw dr (sm - 1)) nw dr (by have h7 := shb_le rt lo hi ti nw dr (sm - 1); omega)) 0 rfl rfl m258 m255 m256 m32 (by decide +kernel) rfl (Nat.le_of_ble_eq_true rfl) ⟨by decide, by decide⟩ ⟨by decide, by decide⟩ rfl rfl m257 d_M_low_42 (fun v w1 hg => ?_)
    obtain ⟨rfl, rfl⟩ := hg
    refine v_perm (perm_idx (α := Nat × va_E) (ws := [(a, .inr (3, [.long sec, .int (bI pen), .long pst, .long psi, .long acc, .int str, .int ref, .int rt, .int (nI sm), .ref b1, .ref b2, .ref b3])), (b1, .inl (κ.z 1, 8, .inr (.inl lo))), (b2, .inl (κ.z 1, 8, .inr (.inl hi))), (b3, .inl (κ.z 1, 8, .inr (.inl ti))), (o, .inr (4, [.ref sa, .ref la, .ref e, .ref d, .int dr, .int sf, .long nw, .long ls])), (sa, .inl (κ.z 3, nS, .inr (.inr (.inr (.inr fs)))))]) (ws' := [(o, .inr (4, [.ref sa, .ref la, .ref e, .ref d, .int dr, .int sf, .long nw, .long ls])), (sa, .inl (κ.z 3, nS, .inr (.inr (.inr (.inr fs))))), (a, .inr (3, [.long sec, .int (bI pen), .long pst, .long psi, .long acc, .int str, .int ref, .int rt, .int (nI sm), .ref b1, .ref b2, .ref b3])), (b1, .inl (κ.z 1, 8, .inr (.inl lo))), (b2, .inl (κ.z 1, 8, .inr (.inl hi))), (b3, .inl (κ.z 1, 8, .inr (.inl ti)))]) [4, 5, 0, 1, 2, 3] rfl rfl) ?_
    show V κ 3 0 0 45 [(2, .ref a), (0, .ref o), (1, .int (nI i))] [.long (f_Sv_lowerEnd rt lo ti (shb rt lo hi ti nw dr (sm - 1)) nw dr)] [(o, .inr (4, [.ref sa, .ref la, .ref e, .ref d, .int dr, .int sf, .long nw, .long ls])), (sa, .inl (κ.z 3, nS, .inr (.inr (.inr (.inr fs))))), (a, .inr (3, [.long sec, .int (bI pen), .long pst, .long psi, .long acc, .int str, .int ref, .int rt, .int (nI sm), .ref b1, .ref b2, .ref b3])), (b1, .inl (κ.z 1, 8, .inr (.inl lo))), (b2, .inl (κ.z 1, 8, .inr (.inl hi))), (b3, .inl (κ.z 1, 8, .inr (.inl ti)))]
    exact v_lret X Y (by decide) (by decide) d_M_low_45 ⟨by simp only [f_M_lowG, if_neg c14] <;> rfl, rfl⟩
  · skip
    refine v_ldc2 X (v := (-4611686018427387904)) m197 d_M_low_17 ?_
    exact v_lret X Y (by decide) (by decide) d_M_low_20 ⟨by simp only [f_M_lowG, if_pos c14] <;> rfl, rfl⟩

set_option maxHeartbeats 4000000 in
set_option maxRecDepth 100000 in
theorem c_M_lowB (l : Launch) (D : va_G) (z : Nat → ClassId) (o : Nat) (sa : Nat) (la : Nat) (e : Nat) (d : Nat) (dr : Int32) (sf : Int32) (nw : Int64) (ls : Int64) (nS : Nat) (fs : Nat → Option Nat) (s : Int32) (hb9 : ¬ s < 0 → ¬ s < nI nS) : Ctr l D z y_M_low b_M_low 3 (some .long) { frames := 5, cells := 0, slots := 0, locals := 120 } [.ref o, .int s] [(o, .inr (4, [.ref sa, .ref la, .ref e, .ref d, .int dr, .int sf, .long nw, .long ls])), (sa, .inl (z 3, nS, .inr (.inr (.inr (.inr fs)))))] (fun v w => v = some (.long (-4611686018427387904)) ∧ w = [(o, .inr (4, [.ref sa, .ref la, .ref e, .ref d, .int dr, .int sf, .long nw, .long ls])), (sa, .inl (z 3, nS, .inr (.inr (.inr (.inr fs)))))]) 0 0 := by
  refine met_V (own := R_M) (nm := "low") (by decide +kernel) rfl rfl (Nat.le_of_ble_eq_true rfl) ?_
  intro κ hl hD hz X Y
  subst hl
  subst hD
  subst hz
  show V κ 3 0 0 0 [(0, .ref o), (1, .int s)] [] [(o, .inr (4, [.ref sa, .ref la, .ref e, .ref d, .int dr, .int sf, .long nw, .long ls])), (sa, .inl (κ.z 3, nS, .inr (.inr (.inr (.inr fs)))))]
  refine v_aload_n X 0 d_M_low_0 rfl ?_
  refine v_iload_n X 1 d_M_low_1 rfl ?_
  refine v_callV X (b := o) (n9 := 1) (As := [.int s]) (rest := []) (wc := [(o, .inr (4, [.ref sa, .ref la, .ref e, .ref d, .int dr, .int sf, .long nw, .long ls])), (sa, .inl (κ.z 3, nS, .inr (.inr (.inr (.inr fs)))))]) (wr := []) (c_M_serverOrNullB κ.l κ.D κ.z o sa la e d dr sf nw ls nS fs s hb9) 0 rfl rfl m179 m180 m0 m30 (by decide +kernel) rfl (Nat.le_of_ble_eq_true rfl) ⟨by decide, by decide⟩ ⟨by decide, by decide⟩ rfl rfl m181 d_M_low_2 (fun v w1 hg => ?_)
  obtain ⟨rfl, rfl⟩ := hg
  show V κ 3 0 0 5 [(0, .ref o), (1, .int s)] [.null] [(o, .inr (4, [.ref sa, .ref la, .ref e, .ref d, .int dr, .int sf, .long nw, .long ls])), (sa, .inl (κ.z 3, nS, .inr (.inr (.inr (.inr fs)))))]
  refine v_astore_nN X d_M_low_5 rfl (by decide) (lv' := [(2, .null), (0, .ref o), (1, .int s)]) rfl ?_
  refine v_aload_nN X 0 d_M_low_6 rfl ?_
  refine v_ifnullN X 17 d_M_low_7 (by decide) ?_
  refine v_ldc2 X (v := (-4611686018427387904)) m197 d_M_low_17 ?_
  exact v_lret X Y (by decide) (by decide) d_M_low_20 ⟨rfl, rfl⟩

def f_M_highG (dr : Int32) (nw : Int64) (rt : Int32) (sm : Nat) (lo : Nat → Int64) (hi : Nat → Int64) (ti : Nat → Int64) : Int64 := if sm = 0 then (-4611686018427387904) else f_Sv_upperEnd rt hi ti (shb rt lo hi ti nw dr (sm - 1)) nw dr
set_option maxHeartbeats 4000000 in
set_option maxRecDepth 100000 in
theorem c_M_highG (l : Launch) (D : va_G) (z : Nat → ClassId) (o : Nat) (sa : Nat) (la : Nat) (e : Nat) (d : Nat) (dr : Int32) (sf : Int32) (nw : Int64) (ls : Int64) (nS : Nat) (fs : Nat → Option Nat) (a : Nat) (b1 : Nat) (b2 : Nat) (b3 : Nat) (sec : Int64) (pen : Bool) (pst : Int64) (psi : Int64) (acc : Int64) (str : Int32) (ref : Int32) (rt : Int32) (sm : Nat) (lo : Nat → Int64) (hi : Nat → Int64) (ti : Nat → Int64) (i : Nat) (hi9 : i < nS) (hn9 : nS ≤ 6) (hf9 : fs i = some a) (hs8 : sm ≤ 8) : Ctr l D z y_M_high b_M_high 3 (some .long) { frames := 5, cells := 0, slots := 0, locals := 120 } [.ref o, .int (nI i)] [(o, .inr (4, [.ref sa, .ref la, .ref e, .ref d, .int dr, .int sf, .long nw, .long ls])), (sa, .inl (z 3, nS, .inr (.inr (.inr (.inr fs))))), (a, .inr (3, [.long sec, .int (bI pen), .long pst, .long psi, .long acc, .int str, .int ref, .int rt, .int (nI sm), .ref b1, .ref b2, .ref b3])), (b1, .inl (z 1, 8, .inr (.inl lo))), (b2, .inl (z 1, 8, .inr (.inl hi))), (b3, .inl (z 1, 8, .inr (.inl ti)))] (fun v w => v = some (.long (f_M_highG dr nw rt sm lo hi ti)) ∧ w = [(o, .inr (4, [.ref sa, .ref la, .ref e, .ref d, .int dr, .int sf, .long nw, .long ls])), (sa, .inl (z 3, nS, .inr (.inr (.inr (.inr fs))))), (a, .inr (3, [.long sec, .int (bI pen), .long pst, .long psi, .long acc, .int str, .int ref, .int rt, .int (nI sm), .ref b1, .ref b2, .ref b3])), (b1, .inl (z 1, 8, .inr (.inl lo))), (b2, .inl (z 1, 8, .inr (.inl hi))), (b3, .inl (z 1, 8, .inr (.inl ti)))]) 0 0 := by
  refine met_V (own := R_M) (nm := "high") (by decide +kernel) rfl rfl (Nat.le_of_ble_eq_true rfl) ?_
  intro κ hl hD hz X Y
  subst hl
  subst hD
  subst hz
  show V κ 3 0 0 0 [(0, .ref o), (1, .int (nI i))] [] [(o, .inr (4, [.ref sa, .ref la, .ref e, .ref d, .int dr, .int sf, .long nw, .long ls])), (sa, .inl (κ.z 3, nS, .inr (.inr (.inr (.inr fs))))), (a, .inr (3, [.long sec, .int (bI pen), .long pst, .long psi, .long acc, .int str, .int ref, .int rt, .int (nI sm), .ref b1, .ref b2, .ref b3])), (b1, .inl (κ.z 1, 8, .inr (.inl lo))), (b2, .inl (κ.z 1, 8, .inr (.inl hi))), (b3, .inl (κ.z 1, 8, .inr (.inl ti)))]
  refine v_aload_n X 0 d_M_high_0 rfl ?_
  refine v_iload_n X 1 d_M_high_1 rfl ?_
  refine v_callV X (b := o) (n9 := 1) (As := [.int (nI i)]) (rest := []) (wc := [(o, .inr (4, [.ref sa, .ref la, .ref e, .ref d, .int dr, .int sf, .long nw, .long ls])), (sa, .inl (κ.z 3, nS, .inr (.inr (.inr (.inr fs)))))]) (wr := [(a, .inr (3, [.long sec, .int (bI pen), .long pst, .long psi, .long acc, .int str, .int ref, .int rt, .int (nI sm), .ref b1, .ref b2, .ref b3])), (b1, .inl (κ.z 1, 8, .inr (.inl lo))), (b2, .inl (κ.z 1, 8, .inr (.inl hi))), (b3, .inl (κ.z 1, 8, .inr (.inl ti)))]) (c_M_serverOrNullG κ.l κ.D κ.z o sa la e d dr sf nw ls nS fs i a hi9 hn9 hf9) 0 rfl rfl m179 m180 m0 m30 (by decide +kernel) rfl (Nat.le_of_ble_eq_true rfl) ⟨by decide, by decide⟩ ⟨by decide, by decide⟩ rfl rfl m181 d_M_high_2 (fun v w1 hg => ?_)
  obtain ⟨rfl, rfl⟩ := hg
  show V κ 3 0 0 5 [(0, .ref o), (1, .int (nI i))] [.ref a] [(o, .inr (4, [.ref sa, .ref la, .ref e, .ref d, .int dr, .int sf, .long nw, .long ls])), (sa, .inl (κ.z 3, nS, .inr (.inr (.inr (.inr fs))))), (a, .inr (3, [.long sec, .int (bI pen), .long pst, .long psi, .long acc, .int str, .int ref, .int rt, .int (nI sm), .ref b1, .ref b2, .ref b3])), (b1, .inl (κ.z 1, 8, .inr (.inl lo))), (b2, .inl (κ.z 1, 8, .inr (.inl hi))), (b3, .inl (κ.z 1, 8, .inr (.inl ti)))]
  refine v_astore_n X d_M_high_5 rfl (by decide) (lv' := [(2, .ref a), (0, .ref o), (1, .int (nI i))]) rfl ?_
  refine v_aload_n X 0 d_M_high_6 rfl ?_
  refine v_ifnull X d_M_high_7 ?_
  refine v_aload_n X 0 d_M_high_10 rfl ?_
  refine v_get X 2 8 rfl rfl li_Sv (by decide) m69 rfl d_M_high_11 ?_
  refine v_ifN_ne X 21 (a := sm) d_M_high_14 (by decide) (by omega) (fun c14 => ?_) (fun c14 => ?_)
  · skip
    refine v_aload_n X 0 d_M_high_21 rfl ?_
    refine v_aload_n X 0 d_M_high_22 rfl ?_
    refine v_aload_n X 1 d_M_high_23 rfl ?_
    refine v_get X 0 6 rfl rfl li_M (by decide) m156 rfl d_M_high_24 ?_
    refine v_aload_n X 1 d_M_high_27 rfl ?_
    refine v_get X 0 4 rfl rfl li_M (by decide) m154 rfl d_M_high_28 ?_
    refine v_perm (perm_idx (α := Nat × va_E) (ws := [(o, .inr (4, [.ref sa, .ref la, .ref e, .ref d, .int dr, .int sf, .long nw, .long ls])), (sa, .inl (κ.z 3, nS, .inr (.inr (.inr (.inr fs))))), (a, .inr (3, [.long sec, .int (bI pen), .long pst, .long psi, .long acc, .int str, .int ref, .int rt, .int (nI sm), .ref b1, .ref b2, .ref b3])), (b1, .inl (κ.z 1, 8, .inr (.inl lo))), (b2, .inl (κ.z 1, 8, .inr (.inl hi))), (b3, .inl (κ.z 1, 8, .inr (.inl ti)))]) (ws' := [(a, .inr (3, [.long sec, .int (bI pen), .long pst, .long psi, .long acc, .int str, .int ref, .int rt, .int (nI sm), .ref b1, .ref b2, .ref b3])), (b1, .inl (κ.z 1, 8, .inr (.inl lo))), (b2, .inl (κ.z 1, 8, .inr (.inl hi))), (b3, .inl (κ.z 1, 8, .inr (.inl ti))), (o, .inr (4, [.ref sa, .ref la, .ref e, .ref d, .int dr, .int sf, .long nw, .long ls])), (sa, .inl (κ.z 3, nS, .inr (.inr (.inr (.inr fs)))))]) [2, 3, 4, 5, 0, 1] rfl rfl) ?_
    refine v_callV X (b := a) (n9 := 2) (As := [.long nw, .int dr]) (rest := [.ref a]) (wc := [(a, .inr (3, [.long sec, .int (bI pen), .long pst, .long psi, .long acc, .int str, .int ref, .int rt, .int (nI sm), .ref b1, .ref b2, .ref b3])), (b1, .inl (κ.z 1, 8, .inr (.inl lo))), (b2, .inl (κ.z 1, 8, .inr (.inl hi))), (b3, .inl (κ.z 1, 8, .inr (.inl ti)))]) (wr := [(o, .inr (4, [.ref sa, .ref la, .ref e, .ref d, .int dr, .int sf, .long nw, .long ls])), (sa, .inl (κ.z 3, nS, .inr (.inr (.inr (.inr fs)))))]) (c_Sv_shortestSample κ.l κ.D κ.z a b1 b2 b3 sec pen pst psi acc str ref rt sm lo hi ti nw dr (by omega) (by omega)) 0 rfl rfl m237 m238 m239 m32 (by decide +kernel) rfl (Nat.le_of_ble_eq_true rfl) ⟨by decide, by decide⟩ ⟨by decide, by decide⟩ rfl rfl m240 d_M_high_31 (fun v w1 hg => ?_)
    obtain ⟨rfl, rfl⟩ := hg
    refine v_perm (perm_idx (α := Nat × va_E) (ws := [(a, .inr (3, [.long sec, .int (bI pen), .long pst, .long psi, .long acc, .int str, .int ref, .int rt, .int (nI sm), .ref b1, .ref b2, .ref b3])), (b1, .inl (κ.z 1, 8, .inr (.inl lo))), (b2, .inl (κ.z 1, 8, .inr (.inl hi))), (b3, .inl (κ.z 1, 8, .inr (.inl ti))), (o, .inr (4, [.ref sa, .ref la, .ref e, .ref d, .int dr, .int sf, .long nw, .long ls])), (sa, .inl (κ.z 3, nS, .inr (.inr (.inr (.inr fs)))))]) (ws' := [(o, .inr (4, [.ref sa, .ref la, .ref e, .ref d, .int dr, .int sf, .long nw, .long ls])), (sa, .inl (κ.z 3, nS, .inr (.inr (.inr (.inr fs))))), (a, .inr (3, [.long sec, .int (bI pen), .long pst, .long psi, .long acc, .int str, .int ref, .int rt, .int (nI sm), .ref b1, .ref b2, .ref b3])), (b1, .inl (κ.z 1, 8, .inr (.inl lo))), (b2, .inl (κ.z 1, 8, .inr (.inl hi))), (b3, .inl (κ.z 1, 8, .inr (.inl ti)))]) [4, 5, 0, 1, 2, 3] rfl rfl) ?_
    show V κ 3 0 0 34 [(2, .ref a), (0, .ref o), (1, .int (nI i))] [.int (nI (shb rt lo hi ti nw dr (sm - 1))), .ref a] [(o, .inr (4, [.ref sa, .ref la, .ref e, .ref d, .int dr, .int sf, .long nw, .long ls])), (sa, .inl (κ.z 3, nS, .inr (.inr (.inr (.inr fs))))), (a, .inr (3, [.long sec, .int (bI pen), .long pst, .long psi, .long acc, .int str, .int ref, .int rt, .int (nI sm), .ref b1, .ref b2, .ref b3])), (b1, .inl (κ.z 1, 8, .inr (.inl lo))), (b2, .inl (κ.z 1, 8, .inr (.inl hi))), (b3, .inl (κ.z 1, 8, .inr (.inl ti)))]
    refine v_aload_n X 1 d_M_high_34 rfl ?_
    refine v_get X 0 6 rfl rfl li_M (by decide) m156 rfl d_M_high_35 ?_
    refine v_aload_n X 1 d_M_high_38 rfl ?_
    refine v_get X 0 4 rfl rfl li_M (by decide) m154 rfl d_M_high_39 ?_
    refine v_perm (perm_idx (α := Nat × va_E) (ws := [(o, .inr (4, [.ref sa, .ref la, .ref e, .ref d, .int dr, .int sf, .long nw, .long ls])), (sa, .inl (κ.z 3, nS, .inr (.inr (.inr (.inr fs))))), (a, .inr (3, [.long sec, .int (bI pen), .long pst, .long psi, .long acc, .int str, .int ref, .int rt, .int (nI sm), .ref b1, .ref b2, .ref b3])), (b1, .inl (κ.z 1, 8, .inr (.inl lo))), (b2, .inl (κ.z 1, 8, .inr (.inl hi))), (b3, .inl (κ.z 1, 8, .inr (.inl ti)))]) (ws' := [(a, .inr (3, [.long sec, .int (bI pen), .long pst, .long psi, .long acc, .int str, .int ref, .int rt, .int (nI sm), .ref b1, .ref b2, .ref b3])), (b1, .inl (κ.z 1, 8, .inr (.inl lo))), (b2, .inl (κ.z 1, 8, .inr (.inl hi))), (b3, .inl (κ.z 1, 8, .inr (.inl ti))), (o, .inr (4, [.ref sa, .ref la, .ref e, .ref d, .int dr, .int sf, .long nw, .long ls])), (sa, .inl (κ.z 3, nS, .inr (.inr (.inr (.inr fs)))))]) [2, 3, 4, 5, 0, 1] rfl rfl) ?_
    refine v_callV X (b := a) (n9 := 3) (As := [.int (nI (shb rt lo hi ti nw dr (sm - 1))), .long nw, .int dr]) (rest := []) (wc := [(a, .inr (3, [.long sec, .int (bI pen), .long pst, .long psi, .long acc, .int str, .int ref, .int rt, .int (nI sm), .ref b1, .ref b2, .ref b3])), (b1, .inl (κ.z 1, 8, .inr (.inl lo))), (b2, .inl (κ.z 1, 8, .inr (.inl hi))), (b3, .inl (κ.z 1, 8, .inr (.inl ti)))]) (wr := [(o, .inr (4, [.ref sa, .ref la, .ref e, .ref d, .int dr, .int sf, .long nw, .long ls])), (sa, .inl (κ.z 3, nS, .inr (.inr (.inr (.inr fs)))))]) (c_Sv_upperEnd κ.l κ.D κ.z a b1 b2 b3 sec pen pst psi acc str ref rt sm lo hi ti (shb rt lo hi ti nw dr (sm - 1)) nw dr (by have h7 := shb_le rt lo hi ti nw dr (sm - 1); omega)) 0 rfl rfl m263 m245 m246 m32 (by decide +kernel) rfl (Nat.le_of_ble_eq_true rfl) ⟨by decide, by decide⟩ ⟨by decide, by decide⟩ rfl rfl m247 d_M_high_42 (fun v w1 hg => ?_)
    obtain ⟨rfl, rfl⟩ := hg
    refine v_perm (perm_idx (α := Nat × va_E) (ws := [(a, .inr (3, [.long sec, .int (bI pen), .long pst, .long psi, .long acc, .int str, .int ref, .int rt, .int (nI sm), .ref b1, .ref b2, .ref b3])), (b1, .inl (κ.z 1, 8, .inr (.inl lo))), (b2, .inl (κ.z 1, 8, .inr (.inl hi))), (b3, .inl (κ.z 1, 8, .inr (.inl ti))), (o, .inr (4, [.ref sa, .ref la, .ref e, .ref d, .int dr, .int sf, .long nw, .long ls])), (sa, .inl (κ.z 3, nS, .inr (.inr (.inr (.inr fs)))))]) (ws' := [(o, .inr (4, [.ref sa, .ref la, .ref e, .ref d, .int dr, .int sf, .long nw, .long ls])), (sa, .inl (κ.z 3, nS, .inr (.inr (.inr (.inr fs))))), (a, .inr (3, [.long sec, .int (bI pen), .long pst, .long psi, .long acc, .int str, .int ref, .int rt, .int (nI sm), .ref b1, .ref b2, .ref b3])), (b1, .inl (κ.z 1, 8, .inr (.inl lo))), (b2, .inl (κ.z 1, 8, .inr (.inl hi))), (b3, .inl (κ.z 1, 8, .inr (.inl ti)))]) [4, 5, 0, 1, 2, 3] rfl rfl) ?_
    show V κ 3 0 0 45 [(2, .ref a), (0, .ref o), (1, .int (nI i))] [.long (f_Sv_upperEnd rt hi ti (shb rt lo hi ti nw dr (sm - 1)) nw dr)] [(o, .inr (4, [.ref sa, .ref la, .ref e, .ref d, .int dr, .int sf, .long nw, .long ls])), (sa, .inl (κ.z 3, nS, .inr (.inr (.inr (.inr fs))))), (a, .inr (3, [.long sec, .int (bI pen), .long pst, .long psi, .long acc, .int str, .int ref, .int rt, .int (nI sm), .ref b1, .ref b2, .ref b3])), (b1, .inl (κ.z 1, 8, .inr (.inl lo))), (b2, .inl (κ.z 1, 8, .inr (.inl hi))), (b3, .inl (κ.z 1, 8, .inr (.inl ti)))]
    exact v_lret X Y (by decide) (by decide) d_M_high_45 ⟨by simp only [f_M_highG, if_neg c14] <;> rfl, rfl⟩
  · skip
    refine v_ldc2 X (v := (-4611686018427387904)) m197 d_M_high_17 ?_
    exact v_lret X Y (by decide) (by decide) d_M_high_20 ⟨by simp only [f_M_highG, if_pos c14] <;> rfl, rfl⟩

set_option maxHeartbeats 4000000 in
set_option maxRecDepth 100000 in
theorem c_M_highB (l : Launch) (D : va_G) (z : Nat → ClassId) (o : Nat) (sa : Nat) (la : Nat) (e : Nat) (d : Nat) (dr : Int32) (sf : Int32) (nw : Int64) (ls : Int64) (nS : Nat) (fs : Nat → Option Nat) (s : Int32) (hb9 : ¬ s < 0 → ¬ s < nI nS) : Ctr l D z y_M_high b_M_high 3 (some .long) { frames := 5, cells := 0, slots := 0, locals := 120 } [.ref o, .int s] [(o, .inr (4, [.ref sa, .ref la, .ref e, .ref d, .int dr, .int sf, .long nw, .long ls])), (sa, .inl (z 3, nS, .inr (.inr (.inr (.inr fs)))))] (fun v w => v = some (.long (-4611686018427387904)) ∧ w = [(o, .inr (4, [.ref sa, .ref la, .ref e, .ref d, .int dr, .int sf, .long nw, .long ls])), (sa, .inl (z 3, nS, .inr (.inr (.inr (.inr fs)))))]) 0 0 := by
  refine met_V (own := R_M) (nm := "high") (by decide +kernel) rfl rfl (Nat.le_of_ble_eq_true rfl) ?_
  intro κ hl hD hz X Y
  subst hl
  subst hD
  subst hz
  show V κ 3 0 0 0 [(0, .ref o), (1, .int s)] [] [(o, .inr (4, [.ref sa, .ref la, .ref e, .ref d, .int dr, .int sf, .long nw, .long ls])), (sa, .inl (κ.z 3, nS, .inr (.inr (.inr (.inr fs)))))]
  refine v_aload_n X 0 d_M_high_0 rfl ?_
  refine v_iload_n X 1 d_M_high_1 rfl ?_
  refine v_callV X (b := o) (n9 := 1) (As := [.int s]) (rest := []) (wc := [(o, .inr (4, [.ref sa, .ref la, .ref e, .ref d, .int dr, .int sf, .long nw, .long ls])), (sa, .inl (κ.z 3, nS, .inr (.inr (.inr (.inr fs)))))]) (wr := []) (c_M_serverOrNullB κ.l κ.D κ.z o sa la e d dr sf nw ls nS fs s hb9) 0 rfl rfl m179 m180 m0 m30 (by decide +kernel) rfl (Nat.le_of_ble_eq_true rfl) ⟨by decide, by decide⟩ ⟨by decide, by decide⟩ rfl rfl m181 d_M_high_2 (fun v w1 hg => ?_)
  obtain ⟨rfl, rfl⟩ := hg
  show V κ 3 0 0 5 [(0, .ref o), (1, .int s)] [.null] [(o, .inr (4, [.ref sa, .ref la, .ref e, .ref d, .int dr, .int sf, .long nw, .long ls])), (sa, .inl (κ.z 3, nS, .inr (.inr (.inr (.inr fs)))))]
  refine v_astore_nN X d_M_high_5 rfl (by decide) (lv' := [(2, .null), (0, .ref o), (1, .int s)]) rfl ?_
  refine v_aload_nN X 0 d_M_high_6 rfl ?_
  refine v_ifnullN X 17 d_M_high_7 (by decide) ?_
  refine v_ldc2 X (v := (-4611686018427387904)) m197 d_M_high_17 ?_
  exact v_lret X Y (by decide) (by decide) d_M_high_20 ⟨rfl, rfl⟩

def f_M_isUsable (sf : Int32) (nw : Int64) (str : Int32) (ref : Int32) (sm : Nat) (ti : Nat → Int64) : Bool := (if str < 1 then false else (if 14 < str then false else (if ref = sf then false else (if sm ≤ 0 then false else (if 1000000 < (nw - (ti 0)) then false else true)))))
set_option maxHeartbeats 4000000 in
set_option maxRecDepth 100000 in
theorem c_M_isUsable (l : Launch) (D : va_G) (z : Nat → ClassId) (o : Nat) (sa : Nat) (la : Nat) (e : Nat) (d : Nat) (dr : Int32) (sf : Int32) (nw : Int64) (ls : Int64) (a : Nat) (b1 : Nat) (b2 : Nat) (b3 : Nat) (sec : Int64) (pen : Bool) (pst : Int64) (psi : Int64) (acc : Int64) (str : Int32) (ref : Int32) (rt : Int32) (sm : Nat) (lo : Nat → Int64) (hi : Nat → Int64) (ti : Nat → Int64) (hs8 : sm ≤ 8) : Ctr l D z y_M_isUsable b_M_isUsable 2 (some .boolean) { frames := 1, cells := 0, slots := 0, locals := 20 } [.ref o, .ref a] [(o, .inr (4, [.ref sa, .ref la, .ref e, .ref d, .int dr, .int sf, .long nw, .long ls])), (a, .inr (3, [.long sec, .int (bI pen), .long pst, .long psi, .long acc, .int str, .int ref, .int rt, .int (nI sm), .ref b1, .ref b2, .ref b3])), (b1, .inl (z 1, 8, .inr (.inl lo))), (b2, .inl (z 1, 8, .inr (.inl hi))), (b3, .inl (z 1, 8, .inr (.inl ti)))] (fun v w => v = some (.int (bI (f_M_isUsable sf nw str ref sm ti))) ∧ w = [(o, .inr (4, [.ref sa, .ref la, .ref e, .ref d, .int dr, .int sf, .long nw, .long ls])), (a, .inr (3, [.long sec, .int (bI pen), .long pst, .long psi, .long acc, .int str, .int ref, .int rt, .int (nI sm), .ref b1, .ref b2, .ref b3])), (b1, .inl (z 1, 8, .inr (.inl lo))), (b2, .inl (z 1, 8, .inr (.inl hi))), (b3, .inl (z 1, 8, .inr (.inl ti)))]) 0 0 := by
  refine met_V (own := R_M) (nm := "isUsable") (by decide +kernel) rfl rfl (Nat.le_of_ble_eq_true rfl) ?_
  intro κ hl hD hz X Y
  subst hl
  subst hD
  subst hz
  show V κ 2 0 0 0 [(0, .ref o), (1, .ref a)] [] [(o, .inr (4, [.ref sa, .ref la, .ref e, .ref d, .int dr, .int sf, .long nw, .long ls])), (a, .inr (3, [.long sec, .int (bI pen), .long pst, .long psi, .long acc, .int str, .int ref, .int rt, .int (nI sm), .ref b1, .ref b2, .ref b3])), (b1, .inl (κ.z 1, 8, .inr (.inl lo))), (b2, .inl (κ.z 1, 8, .inr (.inl hi))), (b3, .inl (κ.z 1, 8, .inr (.inl ti)))]
  refine v_aload_n X 1 d_M_isUsable_0 rfl ?_
  refine v_get X 1 5 rfl rfl li_Sv (by decide) m64 rfl d_M_isUsable_1 ?_
  refine v_iconst X 1 d_M_isUsable_4 (by decide) ?_
  suffices hm5 : V κ 2 0 0 56 [(0, .ref o), (1, .ref a)] [.int (bI (if str < 1 then false else (if 14 < str then false else (if ref = sf then false else (if sm ≤ 0 then false else (if 1000000 < (nw - (ti 0)) then false else true))))))] [(o, .inr (4, [.ref sa, .ref la, .ref e, .ref d, .int dr, .int sf, .long nw, .long ls])), (a, .inr (3, [.long sec, .int (bI pen), .long pst, .long psi, .long acc, .int str, .int ref, .int rt, .int (nI sm), .ref b1, .ref b2, .ref b3])), (b1, .inl (κ.z 1, 8, .inr (.inl lo))), (b2, .inl (κ.z 1, 8, .inr (.inl hi))), (b3, .inl (κ.z 1, 8, .inr (.inl ti)))] by
    refine v_icmp_lt X 55 d_M_isUsable_5 (by decide) (fun c5 => ?_) (fun c5 => ?_)
    · skip
      refine v_iconst X 0 d_M_isUsable_55 (by decide) ?_
      have h9 := hm5; simp only [if_pos c5] at h9; first | exact h9 | (simp only [if_pos c5]; exact h9)
    · skip
      refine v_aload_n X 1 d_M_isUsable_8 rfl ?_
      refine v_get X 1 5 rfl rfl li_Sv (by decide) m64 rfl d_M_isUsable_9 ?_
      refine v_bipush X 14 d_M_isUsable_12 (by decide) ?_
      suffices hm14 : V κ 2 0 0 56 [(0, .ref o), (1, .ref a)] [.int (bI (if 14 < str then false else (if ref = sf then false else (if sm ≤ 0 then false else (if 1000000 < (nw - (ti 0)) then false else true)))))] [(o, .inr (4, [.ref sa, .ref la, .ref e, .ref d, .int dr, .int sf, .long nw, .long ls])), (a, .inr (3, [.long sec, .int (bI pen), .long pst, .long psi, .long acc, .int str, .int ref, .int rt, .int (nI sm), .ref b1, .ref b2, .ref b3])), (b1, .inl (κ.z 1, 8, .inr (.inl lo))), (b2, .inl (κ.z 1, 8, .inr (.inl hi))), (b3, .inl (κ.z 1, 8, .inr (.inl ti)))] by
        refine v_icmp_gt X 55 d_M_isUsable_14 (by decide) (fun c14 => ?_) (fun c14 => ?_)
        · skip
          refine v_iconst X 0 d_M_isUsable_55 (by decide) ?_
          have h9 := hm14; simp only [if_pos c14] at h9; first | exact h9 | (simp only [if_pos c14]; exact h9)
        · skip
          refine v_aload_n X 1 d_M_isUsable_17 rfl ?_
          refine v_get X 1 6 rfl rfl li_Sv (by decide) m65 rfl d_M_isUsable_18 ?_
          refine v_aload_n X 0 d_M_isUsable_21 rfl ?_
          refine v_get X 0 5 rfl rfl li_M (by decide) m155 rfl d_M_isUsable_22 ?_
          suffices hm25 : V κ 2 0 0 56 [(0, .ref o), (1, .ref a)] [.int (bI (if ref = sf then false else (if sm ≤ 0 then false else (if 1000000 < (nw - (ti 0)) then false else true))))] [(o, .inr (4, [.ref sa, .ref la, .ref e, .ref d, .int dr, .int sf, .long nw, .long ls])), (a, .inr (3, [.long sec, .int (bI pen), .long pst, .long psi, .long acc, .int str, .int ref, .int rt, .int (nI sm), .ref b1, .ref b2, .ref b3])), (b1, .inl (κ.z 1, 8, .inr (.inl lo))), (b2, .inl (κ.z 1, 8, .inr (.inl hi))), (b3, .inl (κ.z 1, 8, .inr (.inl ti)))] by
            refine v_icmp_eq X 55 d_M_isUsable_25 (by decide) (fun c25 => ?_) (fun c25 => ?_)
            · skip
              refine v_iconst X 0 d_M_isUsable_55 (by decide) ?_
              have h9 := hm25; simp only [if_pos c25] at h9; first | exact h9 | (simp only [if_pos c25]; exact h9)
            · skip
              refine v_aload_n X 1 d_M_isUsable_28 rfl ?_
              refine v_get X 1 8 rfl rfl li_Sv (by decide) m69 rfl d_M_isUsable_29 ?_
              suffices hm32 : V κ 2 0 0 56 [(0, .ref o), (1, .ref a)] [.int (bI (if sm ≤ 0 then false else (if 1000000 < (nw - (ti 0)) then false else true)))] [(o, .inr (4, [.ref sa, .ref la, .ref e, .ref d, .int dr, .int sf, .long nw, .long ls])), (a, .inr (3, [.long sec, .int (bI pen), .long pst, .long psi, .long acc, .int str, .int ref, .int rt, .int (nI sm), .ref b1, .ref b2, .ref b3])), (b1, .inl (κ.z 1, 8, .inr (.inl lo))), (b2, .inl (κ.z 1, 8, .inr (.inl hi))), (b3, .inl (κ.z 1, 8, .inr (.inl ti)))] by
                refine v_ifN_le X 55 (a := sm) d_M_isUsable_32 (by decide) (by omega) (fun c32 => ?_) (fun c32 => ?_)
                · skip
                  refine v_iconst X 0 d_M_isUsable_55 (by decide) ?_
                  have h9 := hm32; simp only [if_pos c32] at h9; first | exact h9 | (simp only [if_pos c32]; exact h9)
                · skip
                  refine v_aload_n X 0 d_M_isUsable_35 rfl ?_
                  refine v_get X 0 6 rfl rfl li_M (by decide) m156 rfl d_M_isUsable_36 ?_
                  refine v_aload_n X 1 d_M_isUsable_39 rfl ?_
                  refine v_perm (perm_idx (α := Nat × va_E) (ws := [(o, .inr (4, [.ref sa, .ref la, .ref e, .ref d, .int dr, .int sf, .long nw, .long ls])), (a, .inr (3, [.long sec, .int (bI pen), .long pst, .long psi, .long acc, .int str, .int ref, .int rt, .int (nI sm), .ref b1, .ref b2, .ref b3])), (b1, .inl (κ.z 1, 8, .inr (.inl lo))), (b2, .inl (κ.z 1, 8, .inr (.inl hi))), (b3, .inl (κ.z 1, 8, .inr (.inl ti)))]) (ws' := [(a, .inr (3, [.long sec, .int (bI pen), .long pst, .long psi, .long acc, .int str, .int ref, .int rt, .int (nI sm), .ref b1, .ref b2, .ref b3])), (b1, .inl (κ.z 1, 8, .inr (.inl lo))), (b2, .inl (κ.z 1, 8, .inr (.inl hi))), (b3, .inl (κ.z 1, 8, .inr (.inl ti))), (o, .inr (4, [.ref sa, .ref la, .ref e, .ref d, .int dr, .int sf, .long nw, .long ls]))]) [1, 2, 3, 4, 0] rfl rfl) ?_
                  refine v_callV X (b := a) (n9 := 0) (As := []) (rest := [.long nw]) (wc := [(a, .inr (3, [.long sec, .int (bI pen), .long pst, .long psi, .long acc, .int str, .int ref, .int rt, .int (nI sm), .ref b1, .ref b2, .ref b3])), (b1, .inl (κ.z 1, 8, .inr (.inl lo))), (b2, .inl (κ.z 1, 8, .inr (.inl hi))), (b3, .inl (κ.z 1, 8, .inr (.inl ti)))]) (wr := [(o, .inr (4, [.ref sa, .ref la, .ref e, .ref d, .int dr, .int sf, .long nw, .long ls]))]) (c_Sv_latestSampleTime κ.l κ.D κ.z a b1 b2 b3 sec pen pst psi acc str ref rt sm lo hi ti ) 0 rfl rfl m278 m279 m280 m32 (by decide +kernel) rfl (Nat.le_of_ble_eq_true rfl) ⟨by decide, by decide⟩ ⟨by decide, by decide⟩ rfl rfl m281 d_M_isUsable_40 (fun v w1 hg => ?_)
                  obtain ⟨rfl, rfl⟩ := hg
                  refine v_perm (perm_idx (α := Nat × va_E) (ws := [(a, .inr (3, [.long sec, .int (bI pen), .long pst, .long psi, .long acc, .int str, .int ref, .int rt, .int (nI sm), .ref b1, .ref b2, .ref b3])), (b1, .inl (κ.z 1, 8, .inr (.inl lo))), (b2, .inl (κ.z 1, 8, .inr (.inl hi))), (b3, .inl (κ.z 1, 8, .inr (.inl ti))), (o, .inr (4, [.ref sa, .ref la, .ref e, .ref d, .int dr, .int sf, .long nw, .long ls]))]) (ws' := [(o, .inr (4, [.ref sa, .ref la, .ref e, .ref d, .int dr, .int sf, .long nw, .long ls])), (a, .inr (3, [.long sec, .int (bI pen), .long pst, .long psi, .long acc, .int str, .int ref, .int rt, .int (nI sm), .ref b1, .ref b2, .ref b3])), (b1, .inl (κ.z 1, 8, .inr (.inl lo))), (b2, .inl (κ.z 1, 8, .inr (.inl hi))), (b3, .inl (κ.z 1, 8, .inr (.inl ti)))]) [4, 0, 1, 2, 3] rfl rfl) ?_
                  show V κ 2 0 0 43 [(0, .ref o), (1, .ref a)] [.long (ti 0), .long nw] [(o, .inr (4, [.ref sa, .ref la, .ref e, .ref d, .int dr, .int sf, .long nw, .long ls])), (a, .inr (3, [.long sec, .int (bI pen), .long pst, .long psi, .long acc, .int str, .int ref, .int rt, .int (nI sm), .ref b1, .ref b2, .ref b3])), (b1, .inl (κ.z 1, 8, .inr (.inl lo))), (b2, .inl (κ.z 1, 8, .inr (.inl hi))), (b3, .inl (κ.z 1, 8, .inr (.inl ti)))]
                  refine v_lsub X d_M_isUsable_43 ?_
                  refine v_ldc2 X (v := 1000000) m250 d_M_isUsable_44 ?_
                  suffices hm47 : V κ 2 0 0 56 [(0, .ref o), (1, .ref a)] [.int (bI (if 1000000 < (nw - (ti 0)) then false else true))] [(o, .inr (4, [.ref sa, .ref la, .ref e, .ref d, .int dr, .int sf, .long nw, .long ls])), (a, .inr (3, [.long sec, .int (bI pen), .long pst, .long psi, .long acc, .int str, .int ref, .int rt, .int (nI sm), .ref b1, .ref b2, .ref b3])), (b1, .inl (κ.z 1, 8, .inr (.inl lo))), (b2, .inl (κ.z 1, 8, .inr (.inl hi))), (b3, .inl (κ.z 1, 8, .inr (.inl ti)))] by
                    refine v_lcmp_gt X 55 d_M_isUsable_47 d_M_isUsable_48 (by decide) (fun c47 => ?_) (fun c47 => ?_)
                    · skip
                      refine v_iconst X 0 d_M_isUsable_55 (by decide) ?_
                      have h9 := hm47; simp only [if_pos c47] at h9; first | exact h9 | (simp only [if_pos c47]; exact h9)
                    · skip
                      refine v_iconst X 1 d_M_isUsable_51 (by decide) ?_
                      refine v_goto X 56 d_M_isUsable_52 (by decide) ?_
                      have h9 := hm47; simp only [if_neg c47] at h9; first | exact h9 | (simp only [if_neg c47]; exact h9)
                  have h9 := hm32; simp only [if_neg c32] at h9; first | exact h9 | (simp only [if_neg c32]; exact h9)
              have h9 := hm25; simp only [if_neg c25] at h9; first | exact h9 | (simp only [if_neg c25]; exact h9)
          have h9 := hm14; simp only [if_neg c14] at h9; first | exact h9 | (simp only [if_neg c14]; exact h9)
      have h9 := hm5; simp only [if_neg c5] at h9; first | exact h9 | (simp only [if_neg c5]; exact h9)
  exact v_zret X Y (by decide) (by decide) d_M_isUsable_56 (narB _) ⟨rfl, rfl⟩
