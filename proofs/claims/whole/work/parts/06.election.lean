set_option maxHeartbeats 4000000 in
set_option maxRecDepth 100000 in
theorem c_E_init (l : Launch) (D : va_G) (z : Nat → ClassId) (e : Nat)  : Ctr l D z y_E_init b_E_init 1 none { frames := 1, cells := 3, slots := 18, locals := 20 } [.ref e] [(e, .inr (0, [.int (nI 0), .null, .null, .null, .long 0, .long 0]))] (fun v w => v = none ∧ ∃ e1 e2 e3 : Nat, w = [(e, .inr (0, [.int (nI 0), .ref e1, .ref e2, .ref e3, .long 0, .long 0])), (e1, .inl (z 0, 6, .inl (aN (fun _ => 0)))), (e2, .inl (z 1, 6, .inr (.inl (fun _ => 0)))), (e3, .inl (z 1, 6, .inr (.inl (fun _ => 0))))]) 3 18 := by
  refine met_V (own := R_E) (nm := "<init>") (by decide +kernel) rfl rfl (Nat.le_of_ble_eq_true rfl) ?_
  intro κ hl hD hz X Y
  subst hl
  subst hD
  subst hz
  show V κ 1 0 0 0 [(0, .ref e)] [] [(e, .inr (0, [.int (nI 0), .null, .null, .null, .long 0, .long 0]))]
  refine v_aload_n X 0 d_E_init_0 rfl ?_
  refine v_objInit X m104 m43 m44 d_E_init_1 (by decide) (Nat.le_of_ble_eq_true rfl) ?_
  show V κ 1 0 0 4 [(0, .ref e)] [] [(e, .inr (0, [.int (nI 0), .null, .null, .null, .long 0, .long 0]))]
  refine v_aload_n X 0 d_E_init_4 rfl ?_
  refine v_bipush X 6 d_E_init_5 (by decide) ?_
  refine v_newI X 0 6 rfl rfl m121 (by decide) rfl (by decide) (by decide) (by decide) d_E_init_7 (fun q7 => ?_)
  show V κ 1 1 6 9 [(0, .ref e)] [.ref q7, .ref e] [(e, .inr (0, [.int (nI 0), .null, .null, .null, .long 0, .long 0])), (q7, .inl (κ.z 0, 6, .inl (aN (fun _ => 0))))]
  refine v_putF X Y 0 1 (v := .ref q7) (ty := (.array .int)) ty_E tk_E n_E rfl rfl li_E (by decide) m107 rfl rfl (by decide +kernel) rfl rfl (Nat.le_of_ble_eq_true rfl) d_E_init_9 (ws' := [(e, .inr (0, [.int (nI 0), .ref q7, .null, .null, .long 0, .long 0])), (q7, .inl (κ.z 0, 6, .inl (aN (fun _ => 0))))]) rfl ?_
  refine v_aload_n X 0 d_E_init_12 rfl ?_
  refine v_bipush X 6 d_E_init_13 (by decide) ?_
  refine v_newJ X 1 6 rfl rfl m85 (by decide) rfl (by decide) (by decide) (by decide) d_E_init_15 (fun q15 => ?_)
  show V κ 1 2 12 17 [(0, .ref e)] [.ref q15, .ref e] [(e, .inr (0, [.int (nI 0), .ref q7, .null, .null, .long 0, .long 0])), (q7, .inl (κ.z 0, 6, .inl (aN (fun _ => 0)))), (q15, .inl (κ.z 1, 6, .inr (.inl (fun _ => 0))))]
  refine v_putF X Y 0 2 (v := .ref q15) (ty := (.array .long)) ty_E tk_E n_E rfl rfl li_E (by decide) m109 rfl rfl (by decide +kernel) rfl rfl (Nat.le_of_ble_eq_true rfl) d_E_init_17 (ws' := [(e, .inr (0, [.int (nI 0), .ref q7, .ref q15, .null, .long 0, .long 0])), (q7, .inl (κ.z 0, 6, .inl (aN (fun _ => 0)))), (q15, .inl (κ.z 1, 6, .inr (.inl (fun _ => 0))))]) rfl ?_
  refine v_aload_n X 0 d_E_init_20 rfl ?_
  refine v_bipush X 6 d_E_init_21 (by decide) ?_
  refine v_newJ X 1 6 rfl rfl m85 (by decide) rfl (by decide) (by decide) (by decide) d_E_init_23 (fun q23 => ?_)
  show V κ 1 3 18 25 [(0, .ref e)] [.ref q23, .ref e] [(e, .inr (0, [.int (nI 0), .ref q7, .ref q15, .null, .long 0, .long 0])), (q7, .inl (κ.z 0, 6, .inl (aN (fun _ => 0)))), (q15, .inl (κ.z 1, 6, .inr (.inl (fun _ => 0)))), (q23, .inl (κ.z 1, 6, .inr (.inl (fun _ => 0))))]
  refine v_putF X Y 0 3 (v := .ref q23) (ty := (.array .long)) ty_E tk_E n_E rfl rfl li_E (by decide) m110 rfl rfl (by decide +kernel) rfl rfl (Nat.le_of_ble_eq_true rfl) d_E_init_25 (ws' := [(e, .inr (0, [.int (nI 0), .ref q7, .ref q15, .ref q23, .long 0, .long 0])), (q7, .inl (κ.z 0, 6, .inl (aN (fun _ => 0)))), (q15, .inl (κ.z 1, 6, .inr (.inl (fun _ => 0)))), (q23, .inl (κ.z 1, 6, .inr (.inl (fun _ => 0))))]) rfl ?_
  show V κ 1 3 18 28 [(0, .ref e)] [] [(e, .inr (0, [.int (nI 0), .ref q7, .ref q15, .ref q23, .long 0, .long 0])), (q7, .inl (κ.z 0, 6, .inl (aN (fun _ => 0)))), (q15, .inl (κ.z 1, 6, .inr (.inl (fun _ => 0)))), (q23, .inl (κ.z 1, 6, .inr (.inl (fun _ => 0))))]
  exact v_vret X Y (by decide) (by decide) d_E_init_28 ⟨rfl, _, _, _, rfl⟩

set_option maxHeartbeats 4000000 in
set_option maxRecDepth 100000 in
theorem c_E_clear (l : Launch) (D : va_G) (z : Nat → ClassId) (e : Nat) (e1 : Nat) (e2 : Nat) (e3 : Nat) (cnt : Nat) (hl : Int64) (hh : Int64) (nu : Nat → Nat) (lo : Nat → Int64) (hi : Nat → Int64)  : Ctr l D z y_E_clear b_E_clear 1 none { frames := 0, cells := 0, slots := 0, locals := 0 } [.ref e] [(e, .inr (0, [.int (nI cnt), .ref e1, .ref e2, .ref e3, .long hl, .long hh])), (e1, .inl (z 0, 6, .inl (aN nu))), (e2, .inl (z 1, 6, .inr (.inl lo))), (e3, .inl (z 1, 6, .inr (.inl hi)))] (fun v w => v = none ∧ w = [(e, .inr (0, [.int (nI 0), .ref e1, .ref e2, .ref e3, .long hl, .long hh])), (e1, .inl (z 0, 6, .inl (aN nu))), (e2, .inl (z 1, 6, .inr (.inl lo))), (e3, .inl (z 1, 6, .inr (.inl hi)))]) 0 0 := by
  refine met_V (own := R_E) (nm := "clear") (by decide +kernel) rfl rfl (Nat.le_of_ble_eq_true rfl) ?_
  intro κ hl hD hz X Y
  subst hl
  subst hD
  subst hz
  show V κ 1 0 0 0 [(0, .ref e)] [] [(e, .inr (0, [.int (nI cnt), .ref e1, .ref e2, .ref e3, .long hl, .long hh])), (e1, .inl (κ.z 0, 6, .inl (aN nu))), (e2, .inl (κ.z 1, 6, .inr (.inl lo))), (e3, .inl (κ.z 1, 6, .inr (.inl hi)))]
  refine v_aload_n X 0 d_E_clear_0 rfl ?_
  refine v_iconst X 0 d_E_clear_1 (by decide) ?_
  refine v_put X 0 0 (v := .int (nI 0)) (ty := .int) ty_E tk_E n_E rfl rfl li_E (by decide) m105 rfl (by decide +kernel) rfl rfl (Nat.le_of_ble_eq_true rfl) d_E_clear_2 (ws' := [(e, .inr (0, [.int (nI 0), .ref e1, .ref e2, .ref e3, .long hl, .long hh])), (e1, .inl (κ.z 0, 6, .inl (aN nu))), (e2, .inl (κ.z 1, 6, .inr (.inl lo))), (e3, .inl (κ.z 1, 6, .inr (.inl hi)))]) rfl ?_
  exact v_vret X Y (by decide) (by decide) d_E_clear_5 ⟨rfl, rfl⟩

set_option maxHeartbeats 4000000 in
set_option maxRecDepth 100000 in
theorem c_E_put (l : Launch) (D : va_G) (z : Nat → ClassId) (e : Nat) (e1 : Nat) (e2 : Nat) (e3 : Nat) (cnt : Nat) (hl : Int64) (hh : Int64) (nu : Nat → Nat) (lo : Nat → Int64) (hi : Nat → Int64) (p : Nat) (i : Nat) (x : Int64) (y : Int64) (hp9 : p < 6) : Ctr l D z y_E_put b_E_put 7 none { frames := 0, cells := 0, slots := 0, locals := 0 } [.ref e, .int (nI p), .int (nI i), .long x, .long y] [(e, .inr (0, [.int (nI cnt), .ref e1, .ref e2, .ref e3, .long hl, .long hh])), (e1, .inl (z 0, 6, .inl (aN nu))), (e2, .inl (z 1, 6, .inr (.inl lo))), (e3, .inl (z 1, 6, .inr (.inl hi)))] (fun v w => v = none ∧ w = [(e, .inr (0, [.int (nI cnt), .ref e1, .ref e2, .ref e3, .long hl, .long hh])), (e1, .inl (z 0, 6, .inl (aN (va_up nu p i)))), (e2, .inl (z 1, 6, .inr (.inl (vp_updL lo p x)))), (e3, .inl (z 1, 6, .inr (.inl (vp_updL hi p y))))]) 0 0 := by
  refine met_V (own := R_E) (nm := "put") (by decide +kernel) rfl rfl (Nat.le_of_ble_eq_true rfl) ?_
  intro κ hl hD hz X Y
  subst hl
  subst hD
  subst hz
  show V κ 7 0 0 0 [(0, .ref e), (1, .int (nI p)), (2, .int (nI i)), (3, .long x), (5, .long y)] [] [(e, .inr (0, [.int (nI cnt), .ref e1, .ref e2, .ref e3, .long hl, .long hh])), (e1, .inl (κ.z 0, 6, .inl (aN nu))), (e2, .inl (κ.z 1, 6, .inr (.inl lo))), (e3, .inl (κ.z 1, 6, .inr (.inl hi)))]
  refine v_aload_n X 0 d_E_put_0 rfl ?_
  refine v_get X 0 1 rfl rfl li_E (by decide) m107 rfl d_E_put_1 ?_
  refine v_iload_n X 1 d_E_put_4 rfl ?_
  refine v_iload_n X 2 d_E_put_5 rfl ?_
  refine v_nastN X 1 0 (j := p) (x := i) rfl rfl (by omega) (by omega) d_E_put_6 (ws' := [(e, .inr (0, [.int (nI cnt), .ref e1, .ref e2, .ref e3, .long hl, .long hh])), (e1, .inl (κ.z 0, 6, .inl (aN (va_up nu p i)))), (e2, .inl (κ.z 1, 6, .inr (.inl lo))), (e3, .inl (κ.z 1, 6, .inr (.inl hi)))]) rfl ?_
  refine v_aload_n X 0 d_E_put_7 rfl ?_
  refine v_get X 0 2 rfl rfl li_E (by decide) m109 rfl d_E_put_8 ?_
  refine v_iload_n X 1 d_E_put_11 rfl ?_
  refine v_lload_n X 3 d_E_put_12 rfl ?_
  refine v_lastN X 2 1 (j := p) (x := x) rfl rfl (by omega) (by omega) d_E_put_13 (ws' := [(e, .inr (0, [.int (nI cnt), .ref e1, .ref e2, .ref e3, .long hl, .long hh])), (e1, .inl (κ.z 0, 6, .inl (aN (va_up nu p i)))), (e2, .inl (κ.z 1, 6, .inr (.inl (vp_updL lo p x)))), (e3, .inl (κ.z 1, 6, .inr (.inl hi)))]) rfl ?_
  refine v_aload_n X 0 d_E_put_14 rfl ?_
  refine v_get X 0 3 rfl rfl li_E (by decide) m110 rfl d_E_put_15 ?_
  refine v_iload_n X 1 d_E_put_18 rfl ?_
  refine v_lload X 4 d_E_put_19 rfl ?_
  show V κ 7 0 0 21 [(0, .ref e), (1, .int (nI p)), (2, .int (nI i)), (3, .long x), (5, .long y)] [.long y, .int (nI p), .ref e3] [(e, .inr (0, [.int (nI cnt), .ref e1, .ref e2, .ref e3, .long hl, .long hh])), (e1, .inl (κ.z 0, 6, .inl (aN (va_up nu p i)))), (e2, .inl (κ.z 1, 6, .inr (.inl (vp_updL lo p x)))), (e3, .inl (κ.z 1, 6, .inr (.inl hi)))]
  refine v_lastN X 3 1 (j := p) (x := y) rfl rfl (by omega) (by omega) d_E_put_21 (ws' := [(e, .inr (0, [.int (nI cnt), .ref e1, .ref e2, .ref e3, .long hl, .long hh])), (e1, .inl (κ.z 0, 6, .inl (aN (va_up nu p i)))), (e2, .inl (κ.z 1, 6, .inr (.inl (vp_updL lo p x)))), (e3, .inl (κ.z 1, 6, .inr (.inl (vp_updL hi p y))))]) rfl ?_
  exact v_vret X Y (by decide) (by decide) d_E_put_22 ⟨rfl, rfl⟩

set_option maxHeartbeats 4000000 in
set_option maxRecDepth 100000 in
theorem c_E_enter (l : Launch) (D : va_G) (z : Nat → ClassId) (e : Nat) (e1 : Nat) (e2 : Nat) (e3 : Nat) (cnt : Nat) (hl : Int64) (hh : Int64) (nu : Nat → Nat) (lo : Nat → Int64) (hi : Nat → Int64) (i : Nat) (x : Int64) (y : Int64) (hc9 : cnt < 6) : Ctr l D z y_E_enter b_E_enter 6 none { frames := 1, cells := 0, slots := 0, locals := 26 } [.ref e, .int (nI i), .long x, .long y] [(e, .inr (0, [.int (nI cnt), .ref e1, .ref e2, .ref e3, .long hl, .long hh])), (e1, .inl (z 0, 6, .inl (aN nu))), (e2, .inl (z 1, 6, .inr (.inl lo))), (e3, .inl (z 1, 6, .inr (.inl hi)))] (fun v w => v = none ∧ w = [(e, .inr (0, [.int (nI (cnt + 1)), .ref e1, .ref e2, .ref e3, .long hl, .long hh])), (e1, .inl (z 0, 6, .inl (aN (va_up nu cnt i)))), (e2, .inl (z 1, 6, .inr (.inl (vp_updL lo cnt x)))), (e3, .inl (z 1, 6, .inr (.inl (vp_updL hi cnt y))))]) 0 0 := by
  refine met_V (own := R_E) (nm := "enter") (by decide +kernel) rfl rfl (Nat.le_of_ble_eq_true rfl) ?_
  intro κ hl hD hz X Y
  subst hl
  subst hD
  subst hz
  show V κ 6 0 0 0 [(0, .ref e), (1, .int (nI i)), (2, .long x), (4, .long y)] [] [(e, .inr (0, [.int (nI cnt), .ref e1, .ref e2, .ref e3, .long hl, .long hh])), (e1, .inl (κ.z 0, 6, .inl (aN nu))), (e2, .inl (κ.z 1, 6, .inr (.inl lo))), (e3, .inl (κ.z 1, 6, .inr (.inl hi)))]
  refine v_aload_n X 0 d_E_enter_0 rfl ?_
  refine v_get X 0 0 rfl rfl li_E (by decide) m105 rfl d_E_enter_1 ?_
  refine v_bipush X 6 d_E_enter_4 (by decide) ?_
  refine v_icmpN_ge X 31 (a := cnt) (b := 6) d_E_enter_6 (by decide) (by omega) (by omega) (fun c6 => by omega) (fun c6 => ?_)
  refine v_aload_n X 0 d_E_enter_9 rfl ?_
  refine v_aload_n X 0 d_E_enter_10 rfl ?_
  refine v_get X 0 0 rfl rfl li_E (by decide) m105 rfl d_E_enter_11 ?_
  refine v_iload_n X 1 d_E_enter_14 rfl ?_
  refine v_lload_n X 2 d_E_enter_15 rfl ?_
  refine v_lload X 3 d_E_enter_16 rfl ?_
  refine v_callV X (b := e) (n9 := 4) (As := [.int (nI cnt), .int (nI i), .long x, .long y]) (rest := []) (wc := [(e, .inr (0, [.int (nI cnt), .ref e1, .ref e2, .ref e3, .long hl, .long hh])), (e1, .inl (κ.z 0, 6, .inl (aN nu))), (e2, .inl (κ.z 1, 6, .inr (.inl lo))), (e3, .inl (κ.z 1, 6, .inr (.inl hi)))]) (wr := []) (c_E_put κ.l κ.D κ.z e e1 e2 e3 cnt hl hh nu lo hi cnt i x y (by omega)) 0 rfl rfl m286 m287 m5 m34 (by decide +kernel) rfl (Nat.le_of_ble_eq_true rfl) ⟨by decide, by decide⟩ ⟨by decide, by decide⟩ rfl rfl m288 d_E_enter_18 (fun v w1 hg => ?_)
  obtain ⟨rfl, rfl⟩ := hg
  show V κ 6 0 0 21 [(0, .ref e), (1, .int (nI i)), (2, .long x), (4, .long y)] [] [(e, .inr (0, [.int (nI cnt), .ref e1, .ref e2, .ref e3, .long hl, .long hh])), (e1, .inl (κ.z 0, 6, .inl (aN (va_up nu cnt i)))), (e2, .inl (κ.z 1, 6, .inr (.inl (vp_updL lo cnt x)))), (e3, .inl (κ.z 1, 6, .inr (.inl (vp_updL hi cnt y))))]
  refine v_aload_n X 0 d_E_enter_21 rfl ?_
  refine v_dup X d_E_enter_22 rfl ?_
  refine v_get X 0 0 rfl rfl li_E (by decide) m105 rfl d_E_enter_23 ?_
  show V κ 6 0 0 26 [(0, .ref e), (1, .int (nI i)), (2, .long x), (4, .long y)] [.int (nI cnt), .ref e] [(e, .inr (0, [.int (nI cnt), .ref e1, .ref e2, .ref e3, .long hl, .long hh])), (e1, .inl (κ.z 0, 6, .inl (aN (va_up nu cnt i)))), (e2, .inl (κ.z 1, 6, .inr (.inl (vp_updL lo cnt x)))), (e3, .inl (κ.z 1, 6, .inr (.inl (vp_updL hi cnt y))))]
  refine v_iconst X 1 d_E_enter_26 (by decide) ?_
  refine v_iaddN X (a := cnt) (b := 1) d_E_enter_27 ?_
  refine v_put X 0 0 (v := .int (nI (cnt + 1))) (ty := .int) ty_E tk_E n_E rfl rfl li_E (by decide) m105 rfl (by decide +kernel) rfl rfl (Nat.le_of_ble_eq_true rfl) d_E_enter_28 (ws' := [(e, .inr (0, [.int (nI (cnt + 1)), .ref e1, .ref e2, .ref e3, .long hl, .long hh])), (e1, .inl (κ.z 0, 6, .inl (aN (va_up nu cnt i)))), (e2, .inl (κ.z 1, 6, .inr (.inl (vp_updL lo cnt x)))), (e3, .inl (κ.z 1, 6, .inr (.inl (vp_updL hi cnt y))))]) rfl ?_
  exact v_vret X Y (by decide) (by decide) d_E_enter_31 ⟨rfl, rfl⟩

def arC (lo : Nat → Int64) (hi : Nat → Int64) (x : Int64) : Nat → Nat
  | 0 => 0
  | j + 1 => if x < (lo j) then (arC lo hi x j) else (if (hi j) < x then (arC lo hi x j) else ((arC lo hi x j) + 1))
theorem arC_le (lo : Nat → Int64) (hi : Nat → Int64) (x : Int64) : ∀ n : Nat, arC lo hi x n ≤ n
  | 0 => Nat.le_refl _
  | n + 1 => by
    have h9 := arC_le lo hi x n
    unfold arC
    try dsimp only
    repeat' split
    all_goals omega
set_option maxHeartbeats 4000000 in
set_option maxRecDepth 100000 in
theorem lp_around {κ : VC} (X : Cx κ b_E_intervalsAround R_E { frames := 0, cells := 0, slots := 0, locals := 0 } 5) (e : Nat) (e1 : Nat) (e2 : Nat) (e3 : Nat) (cnt : Nat) (hl : Int64) (hh : Int64) (nu : Nat → Nat) (lo : Nat → Int64) (hi : Nat → Int64) (x : Int64) (hc6 : cnt ≤ 6)  (kk : V κ 5 0 0 47 [(4, .int (nI cnt)), (3, .int (nI (arC lo hi x cnt))), (0, .ref e), (1, .long x)] [] [(e, .inr (0, [.int (nI cnt), .ref e1, .ref e2, .ref e3, .long hl, .long hh])), (e1, .inl (κ.z 0, 6, .inl (aN nu))), (e2, .inl (κ.z 1, 6, .inr (.inl lo))), (e3, .inl (κ.z 1, 6, .inr (.inl hi)))]) : ∀ (d9 j : Nat), j + d9 = cnt → V κ 5 0 0 5 [(4, .int (nI j)), (3, .int (nI (arC lo hi x j))), (0, .ref e), (1, .long x)] [] [(e, .inr (0, [.int (nI cnt), .ref e1, .ref e2, .ref e3, .long hl, .long hh])), (e1, .inl (κ.z 0, 6, .inl (aN nu))), (e2, .inl (κ.z 1, 6, .inr (.inl lo))), (e3, .inl (κ.z 1, 6, .inr (.inl hi)))] := by
  intro d9
  induction d9 with
  | zero =>
    intro j hj 
    have e9 : j = cnt := by omega
    rw [e9]
    show V κ 5 0 0 5 [(4, .int (nI cnt)), (3, .int (nI (arC lo hi x cnt))), (0, .ref e), (1, .long x)] [] [(e, .inr (0, [.int (nI cnt), .ref e1, .ref e2, .ref e3, .long hl, .long hh])), (e1, .inl (κ.z 0, 6, .inl (aN nu))), (e2, .inl (κ.z 1, 6, .inr (.inl lo))), (e3, .inl (κ.z 1, 6, .inr (.inl hi)))]
    refine v_iload X 0 d_E_intervalsAround_5 rfl ?_
    refine v_aload_n X 2 d_E_intervalsAround_7 rfl ?_
    refine v_get X 0 0 rfl rfl li_E (by decide) m105 rfl d_E_intervalsAround_8 ?_
    refine v_icmpN_ge X 47 (a := cnt) (b := cnt) d_E_intervalsAround_11 (by decide) (by omega) (by omega) (fun c11 => ?_) (fun c11 => by omega)
    exact kk
  | succ d9 ih =>
    intro j hj 
    show V κ 5 0 0 5 [(4, .int (nI j)), (3, .int (nI (arC lo hi x j))), (0, .ref e), (1, .long x)] [] [(e, .inr (0, [.int (nI cnt), .ref e1, .ref e2, .ref e3, .long hl, .long hh])), (e1, .inl (κ.z 0, 6, .inl (aN nu))), (e2, .inl (κ.z 1, 6, .inr (.inl lo))), (e3, .inl (κ.z 1, 6, .inr (.inl hi)))]
    refine v_iload X 0 d_E_intervalsAround_5 rfl ?_
    refine v_aload_n X 2 d_E_intervalsAround_7 rfl ?_
    refine v_get X 0 0 rfl rfl li_E (by decide) m105 rfl d_E_intervalsAround_8 ?_
    refine v_icmpN_ge X 47 (a := j) (b := cnt) d_E_intervalsAround_11 (by decide) (by omega) (by omega) (fun c11 => by omega) (fun c11 => ?_)
    refine v_aload_n X 2 d_E_intervalsAround_14 rfl ?_
    refine v_get X 0 2 rfl rfl li_E (by decide) m109 rfl d_E_intervalsAround_15 ?_
    refine v_iload X 0 d_E_intervalsAround_18 rfl ?_
    refine v_laldN X 2 1 (j := j) rfl rfl (by omega) (by omega) d_E_intervalsAround_20 ?_
    refine v_lload_n X 3 d_E_intervalsAround_21 rfl ?_
    suffices hm22 : V κ 5 0 0 41 [(4, .int (nI j)), (3, .int (nI (if x < (lo j) then (arC lo hi x j) else (if (hi j) < x then (arC lo hi x j) else ((arC lo hi x j) + 1))))), (0, .ref e), (1, .long x)] [] [(e, .inr (0, [.int (nI cnt), .ref e1, .ref e2, .ref e3, .long hl, .long hh])), (e1, .inl (κ.z 0, 6, .inl (aN nu))), (e2, .inl (κ.z 1, 6, .inr (.inl lo))), (e3, .inl (κ.z 1, 6, .inr (.inl hi)))] by
      refine v_lcmp_gt X 41 d_E_intervalsAround_22 d_E_intervalsAround_23 (by decide) (fun c22 => ?_) (fun c22 => ?_)
      · skip
        have h9 := hm22; simp only [if_pos c22] at h9; first | exact h9 | (simp only [if_pos c22]; exact h9)
      · skip
        refine v_lload_n X 3 d_E_intervalsAround_26 rfl ?_
        refine v_aload_n X 2 d_E_intervalsAround_27 rfl ?_
        refine v_get X 0 3 rfl rfl li_E (by decide) m110 rfl d_E_intervalsAround_28 ?_
        refine v_iload X 0 d_E_intervalsAround_31 rfl ?_
        refine v_laldN X 3 1 (j := j) rfl rfl (by omega) (by omega) d_E_intervalsAround_33 ?_
        suffices hm34 : V κ 5 0 0 41 [(4, .int (nI j)), (3, .int (nI (if (hi j) < x then (arC lo hi x j) else ((arC lo hi x j) + 1)))), (0, .ref e), (1, .long x)] [] [(e, .inr (0, [.int (nI cnt), .ref e1, .ref e2, .ref e3, .long hl, .long hh])), (e1, .inl (κ.z 0, 6, .inl (aN nu))), (e2, .inl (κ.z 1, 6, .inr (.inl lo))), (e3, .inl (κ.z 1, 6, .inr (.inl hi)))] by
          refine v_lcmp_gt X 41 d_E_intervalsAround_34 d_E_intervalsAround_35 (by decide) (fun c34 => ?_) (fun c34 => ?_)
          · skip
            have h9 := hm34; simp only [if_pos c34] at h9; first | exact h9 | (simp only [if_pos c34]; exact h9)
          · skip
            refine v_iinc X 1 d_E_intervalsAround_38 (x := nI (arC lo hi x j)) rfl (v := nI ((arC lo hi x j) + 1)) (nI_1 _) (by decide) (lv' := [(3, .int (nI ((arC lo hi x j) + 1))), (4, .int (nI j)), (0, .ref e), (1, .long x)]) rfl ?_
            refine v_lv [1, 0, 2, 3] rfl ?_
            have h9 := hm34; simp only [if_neg c34] at h9; first | exact h9 | (simp only [if_neg c34]; exact h9)
        have h9 := hm22; simp only [if_neg c22] at h9; first | exact h9 | (simp only [if_neg c22]; exact h9)
    refine v_iinc X 0 d_E_intervalsAround_41 (x := nI j) rfl (v := nI (j + 1)) (nI_1 _) (by decide) (lv' := [(4, .int (nI (j + 1))), (3, .int (nI (if x < (lo j) then (arC lo hi x j) else (if (hi j) < x then (arC lo hi x j) else ((arC lo hi x j) + 1))))), (0, .ref e), (1, .long x)]) rfl ?_
    refine v_goto X 5 d_E_intervalsAround_44 (by decide) ?_
    exact v_eq rfl (by rfl) rfl (by rfl) (ih (j + 1) (by omega))

set_option maxHeartbeats 4000000 in
set_option maxRecDepth 100000 in
theorem c_E_intervalsAround (l : Launch) (D : va_G) (z : Nat → ClassId) (e : Nat) (e1 : Nat) (e2 : Nat) (e3 : Nat) (cnt : Nat) (hl : Int64) (hh : Int64) (nu : Nat → Nat) (lo : Nat → Int64) (hi : Nat → Int64) (x : Int64) (hc6 : cnt ≤ 6) : Ctr l D z y_E_intervalsAround b_E_intervalsAround 5 (some .int) { frames := 0, cells := 0, slots := 0, locals := 0 } [.ref e, .long x] [(e, .inr (0, [.int (nI cnt), .ref e1, .ref e2, .ref e3, .long hl, .long hh])), (e1, .inl (z 0, 6, .inl (aN nu))), (e2, .inl (z 1, 6, .inr (.inl lo))), (e3, .inl (z 1, 6, .inr (.inl hi)))] (fun v w => v = some (.int (nI (arC lo hi x cnt))) ∧ w = [(e, .inr (0, [.int (nI cnt), .ref e1, .ref e2, .ref e3, .long hl, .long hh])), (e1, .inl (z 0, 6, .inl (aN nu))), (e2, .inl (z 1, 6, .inr (.inl lo))), (e3, .inl (z 1, 6, .inr (.inl hi)))]) 0 0 := by
  refine met_V (own := R_E) (nm := "intervalsAround") (by decide +kernel) rfl rfl (Nat.le_of_ble_eq_true rfl) ?_
  intro κ hl hD hz X Y
  subst hl
  subst hD
  subst hz
  show V κ 5 0 0 0 [(0, .ref e), (1, .long x)] [] [(e, .inr (0, [.int (nI cnt), .ref e1, .ref e2, .ref e3, .long hl, .long hh])), (e1, .inl (κ.z 0, 6, .inl (aN nu))), (e2, .inl (κ.z 1, 6, .inr (.inl lo))), (e3, .inl (κ.z 1, 6, .inr (.inl hi)))]
  refine v_iconst X 0 d_E_intervalsAround_0 (by decide) ?_
  refine v_istore_n X d_E_intervalsAround_1 rfl (by decide) (lv' := [(3, .int 0), (0, .ref e), (1, .long x)]) rfl ?_
  refine v_iconst X 0 d_E_intervalsAround_2 (by decide) ?_
  refine v_istore X d_E_intervalsAround_3 (by decide) (lv' := [(4, .int 0), (3, .int 0), (0, .ref e), (1, .long x)]) rfl ?_
  show V κ 5 0 0 5 [(4, .int (nI 0)), (3, .int (nI (arC lo hi x 0))), (0, .ref e), (1, .long x)] [] [(e, .inr (0, [.int (nI cnt), .ref e1, .ref e2, .ref e3, .long hl, .long hh])), (e1, .inl (κ.z 0, 6, .inl (aN nu))), (e2, .inl (κ.z 1, 6, .inr (.inl lo))), (e3, .inl (κ.z 1, 6, .inr (.inl hi)))]
  refine lp_around X e e1 e2 e3 cnt hl hh nu lo hi x (by omega)  ?_ (cnt - 0) 0 (by omega)
  show V κ 5 0 0 47 [(4, .int (nI cnt)), (3, .int (nI (arC lo hi x cnt))), (0, .ref e), (1, .long x)] [] [(e, .inr (0, [.int (nI cnt), .ref e1, .ref e2, .ref e3, .long hl, .long hh])), (e1, .inl (κ.z 0, 6, .inl (aN nu))), (e2, .inl (κ.z 1, 6, .inr (.inl lo))), (e3, .inl (κ.z 1, 6, .inr (.inl hi)))]
  refine v_iload_n X 1 d_E_intervalsAround_47 rfl ?_
  exact v_iret X Y (by decide) (by decide) d_E_intervalsAround_48 ⟨rfl, rfl⟩

def fhS (cnt : Nat) (lo : Nat → Int64) (hi : Nat → Int64) (nd : Nat) : Nat → Int64 × Int64
  | 0 => (9223372036854775807, (-9223372036854775808))
  | j + 1 => (if (arC lo hi (lo j) cnt) < nd then ((fhS cnt lo hi nd j).1) else f_J_min_JJ ((fhS cnt lo hi nd j).1) (lo j), if (arC lo hi (hi j) cnt) < nd then ((fhS cnt lo hi nd j).2) else f_J_max_JJ ((fhS cnt lo hi nd j).2) (hi j))
set_option maxHeartbeats 4000000 in
set_option maxRecDepth 100000 in
theorem lp_hullOf {κ : VC} (X : Cx κ b_E_findHullOf R_E { frames := 1, cells := 0, slots := 0, locals := 24 } 7) (e : Nat) (e1 : Nat) (e2 : Nat) (e3 : Nat) (cnt : Nat) (hl : Int64) (hh : Int64) (nu : Nat → Nat) (lo : Nat → Int64) (hi : Nat → Int64) (nd : Nat) (hc6 : cnt ≤ 6) (hn6 : nd ≤ 6)  (kk : V κ 7 0 0 83 [(6, .int (nI cnt)), (4, .long ((fhS cnt lo hi nd cnt).2)), (2, .long ((fhS cnt lo hi nd cnt).1)), (0, .ref e), (1, .int (nI nd))] [] [(e, .inr (0, [.int (nI cnt), .ref e1, .ref e2, .ref e3, .long hl, .long hh])), (e1, .inl (κ.z 0, 6, .inl (aN nu))), (e2, .inl (κ.z 1, 6, .inr (.inl lo))), (e3, .inl (κ.z 1, 6, .inr (.inl hi)))]) : ∀ (d9 j : Nat), j + d9 = cnt → V κ 7 0 0 12 [(6, .int (nI j)), (4, .long ((fhS cnt lo hi nd j).2)), (2, .long ((fhS cnt lo hi nd j).1)), (0, .ref e), (1, .int (nI nd))] [] [(e, .inr (0, [.int (nI cnt), .ref e1, .ref e2, .ref e3, .long hl, .long hh])), (e1, .inl (κ.z 0, 6, .inl (aN nu))), (e2, .inl (κ.z 1, 6, .inr (.inl lo))), (e3, .inl (κ.z 1, 6, .inr (.inl hi)))] := by
  intro d9
  induction d9 with
  | zero =>
    intro j hj 
    have e9 : j = cnt := by omega
    rw [e9]
    show V κ 7 0 0 12 [(6, .int (nI cnt)), (4, .long ((fhS cnt lo hi nd cnt).2)), (2, .long ((fhS cnt lo hi nd cnt).1)), (0, .ref e), (1, .int (nI nd))] [] [(e, .inr (0, [.int (nI cnt), .ref e1, .ref e2, .ref e3, .long hl, .long hh])), (e1, .inl (κ.z 0, 6, .inl (aN nu))), (e2, .inl (κ.z 1, 6, .inr (.inl lo))), (e3, .inl (κ.z 1, 6, .inr (.inl hi)))]
    refine v_iload X 0 d_E_findHullOf_12 rfl ?_
    refine v_aload_n X 3 d_E_findHullOf_14 rfl ?_
    refine v_get X 0 0 rfl rfl li_E (by decide) m105 rfl d_E_findHullOf_15 ?_
    refine v_icmpN_ge X 83 (a := cnt) (b := cnt) d_E_findHullOf_18 (by decide) (by omega) (by omega) (fun c18 => ?_) (fun c18 => by omega)
    exact kk
  | succ d9 ih =>
    intro j hj 
    have h8 := arC_le lo hi (lo j) cnt
    have h9 := arC_le lo hi (hi j) cnt
    show V κ 7 0 0 12 [(6, .int (nI j)), (4, .long ((fhS cnt lo hi nd j).2)), (2, .long ((fhS cnt lo hi nd j).1)), (0, .ref e), (1, .int (nI nd))] [] [(e, .inr (0, [.int (nI cnt), .ref e1, .ref e2, .ref e3, .long hl, .long hh])), (e1, .inl (κ.z 0, 6, .inl (aN nu))), (e2, .inl (κ.z 1, 6, .inr (.inl lo))), (e3, .inl (κ.z 1, 6, .inr (.inl hi)))]
    refine v_iload X 0 d_E_findHullOf_12 rfl ?_
    refine v_aload_n X 3 d_E_findHullOf_14 rfl ?_
    refine v_get X 0 0 rfl rfl li_E (by decide) m105 rfl d_E_findHullOf_15 ?_
    refine v_icmpN_ge X 83 (a := j) (b := cnt) d_E_findHullOf_18 (by decide) (by omega) (by omega) (fun c18 => by omega) (fun c18 => ?_)
    refine v_aload_n X 3 d_E_findHullOf_21 rfl ?_
    refine v_aload_n X 3 d_E_findHullOf_22 rfl ?_
    refine v_get X 0 2 rfl rfl li_E (by decide) m109 rfl d_E_findHullOf_23 ?_
    refine v_iload X 0 d_E_findHullOf_26 rfl ?_
    refine v_laldN X 2 1 (j := j) rfl rfl (by omega) (by omega) d_E_findHullOf_28 ?_
    refine v_callV X (b := e) (n9 := 1) (As := [.long (lo j)]) (rest := []) (wc := [(e, .inr (0, [.int (nI cnt), .ref e1, .ref e2, .ref e3, .long hl, .long hh])), (e1, .inl (κ.z 0, 6, .inl (aN nu))), (e2, .inl (κ.z 1, 6, .inr (.inl lo))), (e3, .inl (κ.z 1, 6, .inr (.inl hi)))]) (wr := []) (c_E_intervalsAround κ.l κ.D κ.z e e1 e2 e3 cnt hl hh nu lo hi (lo j) (by omega)) 0 rfl rfl m298 m299 m7 m34 (by decide +kernel) rfl (Nat.le_of_ble_eq_true rfl) ⟨by decide, by decide⟩ ⟨by decide, by decide⟩ rfl rfl m300 d_E_findHullOf_29 (fun v w1 hg => ?_)
    obtain ⟨rfl, rfl⟩ := hg
    show V κ 7 0 0 32 [(6, .int (nI j)), (4, .long ((fhS cnt lo hi nd j).2)), (2, .long ((fhS cnt lo hi nd j).1)), (0, .ref e), (1, .int (nI nd))] [.int (nI (arC lo hi (lo j) cnt))] [(e, .inr (0, [.int (nI cnt), .ref e1, .ref e2, .ref e3, .long hl, .long hh])), (e1, .inl (κ.z 0, 6, .inl (aN nu))), (e2, .inl (κ.z 1, 6, .inr (.inl lo))), (e3, .inl (κ.z 1, 6, .inr (.inl hi)))]
    refine v_iload_n X 4 d_E_findHullOf_32 rfl ?_
    suffices hm33 : V κ 7 0 0 48 [(6, .int (nI j)), (4, .long ((fhS cnt lo hi nd j).2)), (2, .long (if (arC lo hi (lo j) cnt) < nd then (fhS cnt lo hi nd j).1 else f_J_min_JJ ((fhS cnt lo hi nd j).1) (lo j))), (0, .ref e), (1, .int (nI nd))] [] [(e, .inr (0, [.int (nI cnt), .ref e1, .ref e2, .ref e3, .long hl, .long hh])), (e1, .inl (κ.z 0, 6, .inl (aN nu))), (e2, .inl (κ.z 1, 6, .inr (.inl lo))), (e3, .inl (κ.z 1, 6, .inr (.inl hi)))] by
      refine v_icmpN_lt X 48 (a := (arC lo hi (lo j) cnt)) (b := nd) d_E_findHullOf_33 (by decide) (by omega) (by omega) (fun c33 => ?_) (fun c33 => ?_)
      · skip
        have h9 := hm33; simp only [if_pos c33] at h9; first | exact h9 | (simp only [if_pos c33]; exact h9)
      · skip
        refine v_lload_n X 2 d_E_findHullOf_36 rfl ?_
        refine v_aload_n X 3 d_E_findHullOf_37 rfl ?_
        refine v_get X 0 2 rfl rfl li_E (by decide) m109 rfl d_E_findHullOf_38 ?_
        refine v_iload X 0 d_E_findHullOf_41 rfl ?_
        refine v_laldN X 2 1 (j := j) rfl rfl (by omega) (by omega) d_E_findHullOf_43 ?_
        refine v_callS X (n9 := 2) (As := [.long ((fhS cnt lo hi nd j).1), .long (lo j)]) (rest := []) (wc := []) (wr := [(e, .inr (0, [.int (nI cnt), .ref e1, .ref e2, .ref e3, .long hl, .long hh])), (e1, .inl (κ.z 0, 6, .inl (aN nu))), (e2, .inl (κ.z 1, 6, .inr (.inl lo))), (e3, .inl (κ.z 1, 6, .inr (.inl hi)))]) (c_J_min_JJ κ.l κ.D κ.z ((fhS cnt lo hi nd j).1) (lo j) ) m301 m302 m31 (by decide +kernel) rfl (Nat.le_of_ble_eq_true rfl) ⟨by decide, by decide⟩ ⟨by decide, by decide⟩ rfl rfl m303 d_E_findHullOf_44 (fun v w1 hg => ?_)
        obtain ⟨rfl, rfl⟩ := hg
        show V κ 7 0 0 47 [(6, .int (nI j)), (4, .long ((fhS cnt lo hi nd j).2)), (2, .long ((fhS cnt lo hi nd j).1)), (0, .ref e), (1, .int (nI nd))] [.long (f_J_min_JJ ((fhS cnt lo hi nd j).1) (lo j))] [(e, .inr (0, [.int (nI cnt), .ref e1, .ref e2, .ref e3, .long hl, .long hh])), (e1, .inl (κ.z 0, 6, .inl (aN nu))), (e2, .inl (κ.z 1, 6, .inr (.inl lo))), (e3, .inl (κ.z 1, 6, .inr (.inl hi)))]
        refine v_lstore_n X d_E_findHullOf_47 rfl (by decide) (lv' := [(2, .long (f_J_min_JJ ((fhS cnt lo hi nd j).1) (lo j))), (6, .int (nI j)), (4, .long ((fhS cnt lo hi nd j).2)), (0, .ref e), (1, .int (nI nd))]) rfl ?_
        refine v_lv [1, 2, 0, 3, 4] rfl ?_
        have h9 := hm33; simp only [if_neg c33] at h9; first | exact h9 | (simp only [if_neg c33]; exact h9)
    refine v_aload_n X 3 d_E_findHullOf_48 rfl ?_
    refine v_aload_n X 3 d_E_findHullOf_49 rfl ?_
    show V κ 7 0 0 50 [(6, .int (nI j)), (4, .long ((fhS cnt lo hi nd j).2)), (2, .long (if (arC lo hi (lo j) cnt) < nd then (fhS cnt lo hi nd j).1 else f_J_min_JJ ((fhS cnt lo hi nd j).1) (lo j))), (0, .ref e), (1, .int (nI nd))] [.ref e, .ref e] [(e, .inr (0, [.int (nI cnt), .ref e1, .ref e2, .ref e3, .long hl, .long hh])), (e1, .inl (κ.z 0, 6, .inl (aN nu))), (e2, .inl (κ.z 1, 6, .inr (.inl lo))), (e3, .inl (κ.z 1, 6, .inr (.inl hi)))]
    refine v_get X 0 3 rfl rfl li_E (by decide) m110 rfl d_E_findHullOf_50 ?_
    refine v_iload X 0 d_E_findHullOf_53 rfl ?_
    refine v_laldN X 3 1 (j := j) rfl rfl (by omega) (by omega) d_E_findHullOf_55 ?_
    refine v_callV X (b := e) (n9 := 1) (As := [.long (hi j)]) (rest := []) (wc := [(e, .inr (0, [.int (nI cnt), .ref e1, .ref e2, .ref e3, .long hl, .long hh])), (e1, .inl (κ.z 0, 6, .inl (aN nu))), (e2, .inl (κ.z 1, 6, .inr (.inl lo))), (e3, .inl (κ.z 1, 6, .inr (.inl hi)))]) (wr := []) (c_E_intervalsAround κ.l κ.D κ.z e e1 e2 e3 cnt hl hh nu lo hi (hi j) (by omega)) 0 rfl rfl m298 m299 m7 m34 (by decide +kernel) rfl (Nat.le_of_ble_eq_true rfl) ⟨by decide, by decide⟩ ⟨by decide, by decide⟩ rfl rfl m300 d_E_findHullOf_56 (fun v w1 hg => ?_)
    obtain ⟨rfl, rfl⟩ := hg
    show V κ 7 0 0 59 [(6, .int (nI j)), (4, .long ((fhS cnt lo hi nd j).2)), (2, .long (if (arC lo hi (lo j) cnt) < nd then (fhS cnt lo hi nd j).1 else f_J_min_JJ ((fhS cnt lo hi nd j).1) (lo j))), (0, .ref e), (1, .int (nI nd))] [.int (nI (arC lo hi (hi j) cnt))] [(e, .inr (0, [.int (nI cnt), .ref e1, .ref e2, .ref e3, .long hl, .long hh])), (e1, .inl (κ.z 0, 6, .inl (aN nu))), (e2, .inl (κ.z 1, 6, .inr (.inl lo))), (e3, .inl (κ.z 1, 6, .inr (.inl hi)))]
    refine v_iload_n X 4 d_E_findHullOf_59 rfl ?_
    suffices hm60 : V κ 7 0 0 77 [(6, .int (nI j)), (4, .long (if (arC lo hi (hi j) cnt) < nd then (fhS cnt lo hi nd j).2 else f_J_max_JJ ((fhS cnt lo hi nd j).2) (hi j))), (2, .long (if (arC lo hi (lo j) cnt) < nd then (fhS cnt lo hi nd j).1 else f_J_min_JJ ((fhS cnt lo hi nd j).1) (lo j))), (0, .ref e), (1, .int (nI nd))] [] [(e, .inr (0, [.int (nI cnt), .ref e1, .ref e2, .ref e3, .long hl, .long hh])), (e1, .inl (κ.z 0, 6, .inl (aN nu))), (e2, .inl (κ.z 1, 6, .inr (.inl lo))), (e3, .inl (κ.z 1, 6, .inr (.inl hi)))] by
      refine v_icmpN_lt X 77 (a := (arC lo hi (hi j) cnt)) (b := nd) d_E_findHullOf_60 (by decide) (by omega) (by omega) (fun c60 => ?_) (fun c60 => ?_)
      · skip
        have h9 := hm60; simp only [if_pos c60] at h9; first | exact h9 | (simp only [if_pos c60]; exact h9)
      · skip
        refine v_lload X 1 d_E_findHullOf_63 rfl ?_
        refine v_aload_n X 3 d_E_findHullOf_65 rfl ?_
        refine v_get X 0 3 rfl rfl li_E (by decide) m110 rfl d_E_findHullOf_66 ?_
        refine v_iload X 0 d_E_findHullOf_69 rfl ?_
        refine v_laldN X 3 1 (j := j) rfl rfl (by omega) (by omega) d_E_findHullOf_71 ?_
        refine v_callS X (n9 := 2) (As := [.long ((fhS cnt lo hi nd j).2), .long (hi j)]) (rest := []) (wc := []) (wr := [(e, .inr (0, [.int (nI cnt), .ref e1, .ref e2, .ref e3, .long hl, .long hh])), (e1, .inl (κ.z 0, 6, .inl (aN nu))), (e2, .inl (κ.z 1, 6, .inr (.inl lo))), (e3, .inl (κ.z 1, 6, .inr (.inl hi)))]) (c_J_max_JJ κ.l κ.D κ.z ((fhS cnt lo hi nd j).2) (hi j) ) m304 m199 m31 (by decide +kernel) rfl (Nat.le_of_ble_eq_true rfl) ⟨by decide, by decide⟩ ⟨by decide, by decide⟩ rfl rfl m200 d_E_findHullOf_72 (fun v w1 hg => ?_)
        obtain ⟨rfl, rfl⟩ := hg
        show V κ 7 0 0 75 [(6, .int (nI j)), (4, .long ((fhS cnt lo hi nd j).2)), (2, .long (if (arC lo hi (lo j) cnt) < nd then (fhS cnt lo hi nd j).1 else f_J_min_JJ ((fhS cnt lo hi nd j).1) (lo j))), (0, .ref e), (1, .int (nI nd))] [.long (f_J_max_JJ ((fhS cnt lo hi nd j).2) (hi j))] [(e, .inr (0, [.int (nI cnt), .ref e1, .ref e2, .ref e3, .long hl, .long hh])), (e1, .inl (κ.z 0, 6, .inl (aN nu))), (e2, .inl (κ.z 1, 6, .inr (.inl lo))), (e3, .inl (κ.z 1, 6, .inr (.inl hi)))]
        refine v_lstore X d_E_findHullOf_75 (by decide) (lv' := [(4, .long (f_J_max_JJ ((fhS cnt lo hi nd j).2) (hi j))), (6, .int (nI j)), (2, .long (if (arC lo hi (lo j) cnt) < nd then (fhS cnt lo hi nd j).1 else f_J_min_JJ ((fhS cnt lo hi nd j).1) (lo j))), (0, .ref e), (1, .int (nI nd))]) rfl ?_
        refine v_lv [1, 0, 2, 3, 4] rfl ?_
        have h9 := hm60; simp only [if_neg c60] at h9; first | exact h9 | (simp only [if_neg c60]; exact h9)
    refine v_iinc X 0 d_E_findHullOf_77 (x := nI j) rfl (v := nI (j + 1)) (nI_1 _) (by decide) (lv' := [(6, .int (nI (j + 1))), (4, .long (if (arC lo hi (hi j) cnt) < nd then (fhS cnt lo hi nd j).2 else f_J_max_JJ ((fhS cnt lo hi nd j).2) (hi j))), (2, .long (if (arC lo hi (lo j) cnt) < nd then (fhS cnt lo hi nd j).1 else f_J_min_JJ ((fhS cnt lo hi nd j).1) (lo j))), (0, .ref e), (1, .int (nI nd))]) rfl ?_
    refine v_goto X 12 d_E_findHullOf_80 (by decide) ?_
    exact v_eq rfl (by rfl) rfl (by rfl) (ih (j + 1) (by omega))

def f_E_findHullOf (cnt : Nat) (lo : Nat → Int64) (hi : Nat → Int64) (nd : Nat) : Bool := if ((fhS cnt lo hi nd cnt).1) ≤ ((fhS cnt lo hi nd cnt).2) then true else false
def f_E_findHullOf_hullLow (cnt : Nat) (hl : Int64) (lo : Nat → Int64) (hi : Nat → Int64) (nd : Nat) : Int64 := if ((fhS cnt lo hi nd cnt).1) ≤ ((fhS cnt lo hi nd cnt).2) then (fhS cnt lo hi nd cnt).1 else hl
def f_E_findHullOf_hullHigh (cnt : Nat) (hh : Int64) (lo : Nat → Int64) (hi : Nat → Int64) (nd : Nat) : Int64 := if ((fhS cnt lo hi nd cnt).1) ≤ ((fhS cnt lo hi nd cnt).2) then (fhS cnt lo hi nd cnt).2 else hh
set_option maxHeartbeats 4000000 in
set_option maxRecDepth 100000 in
theorem c_E_findHullOf (l : Launch) (D : va_G) (z : Nat → ClassId) (e : Nat) (e1 : Nat) (e2 : Nat) (e3 : Nat) (cnt : Nat) (hl : Int64) (hh : Int64) (nu : Nat → Nat) (lo : Nat → Int64) (hi : Nat → Int64) (nd : Nat) (hc6 : cnt ≤ 6) (hn6 : nd ≤ 6) : Ctr l D z y_E_findHullOf b_E_findHullOf 7 (some .boolean) { frames := 1, cells := 0, slots := 0, locals := 24 } [.ref e, .int (nI nd)] [(e, .inr (0, [.int (nI cnt), .ref e1, .ref e2, .ref e3, .long hl, .long hh])), (e1, .inl (z 0, 6, .inl (aN nu))), (e2, .inl (z 1, 6, .inr (.inl lo))), (e3, .inl (z 1, 6, .inr (.inl hi)))] (fun v w => v = some (.int (bI (f_E_findHullOf cnt lo hi nd))) ∧ w = [(e, .inr (0, [.int (nI cnt), .ref e1, .ref e2, .ref e3, .long (f_E_findHullOf_hullLow cnt hl lo hi nd), .long (f_E_findHullOf_hullHigh cnt hh lo hi nd)])), (e1, .inl (z 0, 6, .inl (aN nu))), (e2, .inl (z 1, 6, .inr (.inl lo))), (e3, .inl (z 1, 6, .inr (.inl hi)))]) 0 0 := by
  refine met_V (own := R_E) (nm := "findHullOf") (by decide +kernel) rfl rfl (Nat.le_of_ble_eq_true rfl) ?_
  intro κ hl hD hz X Y
  subst hl
  subst hD
  subst hz
  show V κ 7 0 0 0 [(0, .ref e), (1, .int (nI nd))] [] [(e, .inr (0, [.int (nI cnt), .ref e1, .ref e2, .ref e3, .long hl, .long hh])), (e1, .inl (κ.z 0, 6, .inl (aN nu))), (e2, .inl (κ.z 1, 6, .inr (.inl lo))), (e3, .inl (κ.z 1, 6, .inr (.inl hi)))]
  refine v_ldc2 X (v := 9223372036854775807) m296 d_E_findHullOf_0 ?_
  refine v_lstore_n X d_E_findHullOf_3 rfl (by decide) (lv' := [(2, .long 9223372036854775807), (0, .ref e), (1, .int (nI nd))]) rfl ?_
  refine v_ldc2 X (v := (-9223372036854775808)) m297 d_E_findHullOf_4 ?_
  refine v_lstore X d_E_findHullOf_7 (by decide) (lv' := [(4, .long (-9223372036854775808)), (2, .long 9223372036854775807), (0, .ref e), (1, .int (nI nd))]) rfl ?_
  refine v_iconst X 0 d_E_findHullOf_9 (by decide) ?_
  refine v_istore X d_E_findHullOf_10 (by decide) (lv' := [(6, .int 0), (4, .long (-9223372036854775808)), (2, .long 9223372036854775807), (0, .ref e), (1, .int (nI nd))]) rfl ?_
  show V κ 7 0 0 12 [(6, .int (nI 0)), (4, .long ((fhS cnt lo hi nd 0).2)), (2, .long ((fhS cnt lo hi nd 0).1)), (0, .ref e), (1, .int (nI nd))] [] [(e, .inr (0, [.int (nI cnt), .ref e1, .ref e2, .ref e3, .long hl, .long hh])), (e1, .inl (κ.z 0, 6, .inl (aN nu))), (e2, .inl (κ.z 1, 6, .inr (.inl lo))), (e3, .inl (κ.z 1, 6, .inr (.inl hi)))]
  refine lp_hullOf X e e1 e2 e3 cnt hl hh nu lo hi nd (by omega) (by omega)  ?_ (cnt - 0) 0 (by omega)
  show V κ 7 0 0 83 [(6, .int (nI cnt)), (4, .long ((fhS cnt lo hi nd cnt).2)), (2, .long ((fhS cnt lo hi nd cnt).1)), (0, .ref e), (1, .int (nI nd))] [] [(e, .inr (0, [.int (nI cnt), .ref e1, .ref e2, .ref e3, .long hl, .long hh])), (e1, .inl (κ.z 0, 6, .inl (aN nu))), (e2, .inl (κ.z 1, 6, .inr (.inl lo))), (e3, .inl (κ.z 1, 6, .inr (.inl hi)))]
  refine v_lload_n X 2 d_E_findHullOf_83 rfl ?_
  refine v_lload X 1 d_E_findHullOf_84 rfl ?_
  refine v_lcmp_le X 92 d_E_findHullOf_86 d_E_findHullOf_87 (by decide) (fun c86 => ?_) (fun c86 => ?_)
  · skip
    refine v_aload_n X 3 d_E_findHullOf_92 rfl ?_
    refine v_lload_n X 2 d_E_findHullOf_93 rfl ?_
    refine v_put X 0 4 (v := .long ((fhS cnt lo hi nd cnt).1)) (ty := .long) ty_E tk_E n_E rfl rfl li_E (by decide) m112 rfl (by decide +kernel) rfl rfl (Nat.le_of_ble_eq_true rfl) d_E_findHullOf_94 (ws' := [(e, .inr (0, [.int (nI cnt), .ref e1, .ref e2, .ref e3, .long ((fhS cnt lo hi nd cnt).1), .long hh])), (e1, .inl (κ.z 0, 6, .inl (aN nu))), (e2, .inl (κ.z 1, 6, .inr (.inl lo))), (e3, .inl (κ.z 1, 6, .inr (.inl hi)))]) rfl ?_
    refine v_aload_n X 3 d_E_findHullOf_97 rfl ?_
    refine v_lload X 1 d_E_findHullOf_98 rfl ?_
    refine v_put X 0 5 (v := .long ((fhS cnt lo hi nd cnt).2)) (ty := .long) ty_E tk_E n_E rfl rfl li_E (by decide) m114 rfl (by decide +kernel) rfl rfl (Nat.le_of_ble_eq_true rfl) d_E_findHullOf_100 (ws' := [(e, .inr (0, [.int (nI cnt), .ref e1, .ref e2, .ref e3, .long ((fhS cnt lo hi nd cnt).1), .long ((fhS cnt lo hi nd cnt).2)])), (e1, .inl (κ.z 0, 6, .inl (aN nu))), (e2, .inl (κ.z 1, 6, .inr (.inl lo))), (e3, .inl (κ.z 1, 6, .inr (.inl hi)))]) rfl ?_
    refine v_iconst X 1 d_E_findHullOf_103 (by decide) ?_
    exact v_zret X Y (by decide) (by decide) d_E_findHullOf_104 rfl ⟨by simp only [f_E_findHullOf, f_E_findHullOf_hullLow, f_E_findHullOf_hullHigh, if_pos c86] <;> rfl, by simp only [f_E_findHullOf, f_E_findHullOf_hullLow, f_E_findHullOf_hullHigh, if_pos c86] <;> rfl⟩
  · skip
    refine v_iconst X 0 d_E_findHullOf_90 (by decide) ?_
    exact v_zret X Y (by decide) (by decide) d_E_findHullOf_91 rfl ⟨by simp only [f_E_findHullOf, f_E_findHullOf_hullLow, f_E_findHullOf_hullHigh, if_neg c86] <;> rfl, by simp only [f_E_findHullOf, f_E_findHullOf_hullLow, f_E_findHullOf_hullHigh, if_neg c86] <;> rfl⟩

/-- the first of j, j + 1 .. that is right, or the one behind the last of d -/
def fst9 (ok : Nat → Bool) : Nat → Nat → Nat
  | 0, j => j
  | d + 1, j => if ok j = true then j else fst9 ok d (j + 1)
theorem fst9_le (ok : Nat → Bool) : ∀ d j, fst9 ok d j ≤ j + d
  | 0, j => Nat.le_refl _
  | d + 1, j => by
    have h9 := fst9_le ok d (j + 1)
    unfold fst9
    split <;> omega
theorem fst9_ge (ok : Nat → Bool) : ∀ d j, j ≤ fst9 ok d j
  | 0, j => Nat.le_refl _
  | d + 1, j => by
    have h9 := fst9_ge ok d (j + 1)
    unfold fst9
    split <;> omega
def fhF (cnt : Nat) (lo hi : Nat → Int64) : Nat := fst9 (fun i => f_E_findHullOf cnt lo hi (cnt - i)) ((cnt + 1) / 2) 0
def fhH (cnt : Nat) (hl : Int64) (lo hi : Nat → Int64) : Int64 := if (fhF cnt lo hi) < (cnt + 1) / 2 then (fhS cnt lo hi (cnt - (fhF cnt lo hi)) cnt).1 else hl
def fhK (cnt : Nat) (hh : Int64) (lo hi : Nat → Int64) : Int64 := if (fhF cnt lo hi) < (cnt + 1) / 2 then (fhS cnt lo hi (cnt - (fhF cnt lo hi)) cnt).2 else hh
theorem of_okt {cnt : Nat} {lo hi : Nat → Int64} {nd : Nat} (h : f_E_findHullOf cnt lo hi nd = true) : (fhS cnt lo hi nd cnt).1 ≤ (fhS cnt lo hi nd cnt).2 := by
  by_cases c : (fhS cnt lo hi nd cnt).1 ≤ (fhS cnt lo hi nd cnt).2
  · exact c
  · simp [f_E_findHullOf, c] at h
theorem of_okf {cnt : Nat} {lo hi : Nat → Int64} {nd : Nat} (h : ¬ f_E_findHullOf cnt lo hi nd = true) : ¬ (fhS cnt lo hi nd cnt).1 ≤ (fhS cnt lo hi nd cnt).2 := by
  intro c
  simp [f_E_findHullOf, c] at h
set_option maxHeartbeats 4000000 in
set_option maxRecDepth 100000 in
theorem lp_hull {κ : VC} (X : Cx κ b_E_findHull R_E { frames := 2, cells := 0, slots := 0, locals := 50 } 2) (e : Nat) (e1 : Nat) (e2 : Nat) (e3 : Nat) (cnt : Nat) (hl : Int64) (hh : Int64) (nu : Nat → Nat) (lo : Nat → Int64) (hi : Nat → Int64) (hc6 : cnt ≤ 6) (Y : Rx κ "findHull" (some .boolean) (fun v w => v = some (.int (bI (decide (fhF cnt lo hi < (cnt + 1) / 2)))) ∧ w = [(e, .inr (0, [.int (nI cnt), .ref e1, .ref e2, .ref e3, .long (fhH cnt hl lo hi), .long (fhK cnt hh lo hi)])), (e1, .inl (κ.z 0, 6, .inl (aN nu))), (e2, .inl (κ.z 1, 6, .inr (.inl lo))), (e3, .inl (κ.z 1, 6, .inr (.inl hi)))]) 0 0)  : ∀ (d9 j : Nat), j + d9 = (cnt + 1) / 2 → fst9 (fun i => f_E_findHullOf cnt lo hi (cnt - i)) d9 j = fhF cnt lo hi → V κ 2 0 0 2 [(1, .int (nI j)), (0, .ref e)] [] [(e, .inr (0, [.int (nI cnt), .ref e1, .ref e2, .ref e3, .long hl, .long hh])), (e1, .inl (κ.z 0, 6, .inl (aN nu))), (e2, .inl (κ.z 1, 6, .inr (.inl lo))), (e3, .inl (κ.z 1, 6, .inr (.inl hi)))] := by
  intro d9
  induction d9 with
  | zero =>
    intro j hj hr
    have e9 : j = (cnt + 1) / 2 := by omega
    rw [e9]
    rw [e9] at hr
    show V κ 2 0 0 2 [(1, .int (nI ((cnt + 1) / 2))), (0, .ref e)] [] [(e, .inr (0, [.int (nI cnt), .ref e1, .ref e2, .ref e3, .long hl, .long hh])), (e1, .inl (κ.z 0, 6, .inl (aN nu))), (e2, .inl (κ.z 1, 6, .inr (.inl lo))), (e3, .inl (κ.z 1, 6, .inr (.inl hi)))]
    refine v_iconst X 2 d_E_findHull_2 (by decide) ?_
    refine v_iload_n X 0 d_E_findHull_3 rfl ?_
    refine v_imulN X (a := 2) (b := ((cnt + 1) / 2)) d_E_findHull_4 ?_
    refine v_aload_n X 1 d_E_findHull_5 rfl ?_
    refine v_get X 0 0 rfl rfl li_E (by decide) m105 rfl d_E_findHull_6 ?_
    refine v_icmpN_ge X 33 (a := (2 * ((cnt + 1) / 2))) (b := cnt) d_E_findHull_9 (by decide) (by omega) (by omega) (fun c9 => ?_) (fun c9 => by omega)
    refine v_iconst X 0 d_E_findHull_33 (by decide) ?_
    exact v_zret X Y (by decide) (by decide) d_E_findHull_34 rfl ⟨by rw [show decide (fhF cnt lo hi < (cnt + 1) / 2) = false by have e8 : fhF cnt lo hi = (cnt + 1) / 2 := hr.symm; rw [e8]; simp]; rfl, by simp only [fhH, fhK, show ¬ fhF cnt lo hi < (cnt + 1) / 2 by have e8 : fhF cnt lo hi = (cnt + 1) / 2 := hr.symm; omega, if_false]⟩
  | succ d9 ih =>
    intro j hj hr
    show V κ 2 0 0 2 [(1, .int (nI j)), (0, .ref e)] [] [(e, .inr (0, [.int (nI cnt), .ref e1, .ref e2, .ref e3, .long hl, .long hh])), (e1, .inl (κ.z 0, 6, .inl (aN nu))), (e2, .inl (κ.z 1, 6, .inr (.inl lo))), (e3, .inl (κ.z 1, 6, .inr (.inl hi)))]
    refine v_iconst X 2 d_E_findHull_2 (by decide) ?_
    refine v_iload_n X 0 d_E_findHull_3 rfl ?_
    refine v_imulN X (a := 2) (b := j) d_E_findHull_4 ?_
    refine v_aload_n X 1 d_E_findHull_5 rfl ?_
    refine v_get X 0 0 rfl rfl li_E (by decide) m105 rfl d_E_findHull_6 ?_
    refine v_icmpN_ge X 33 (a := (2 * j)) (b := cnt) d_E_findHull_9 (by decide) (by omega) (by omega) (fun c9 => by omega) (fun c9 => ?_)
    refine v_aload_n X 1 d_E_findHull_12 rfl ?_
    refine v_aload_n X 1 d_E_findHull_13 rfl ?_
    refine v_get X 0 0 rfl rfl li_E (by decide) m105 rfl d_E_findHull_14 ?_
    refine v_iload_n X 0 d_E_findHull_17 rfl ?_
    refine v_isubN X (a := cnt) (b := j) d_E_findHull_18 (by omega) ?_
    refine v_callV X (b := e) (n9 := 1) (As := [.int (nI (cnt - j))]) (rest := []) (wc := [(e, .inr (0, [.int (nI cnt), .ref e1, .ref e2, .ref e3, .long hl, .long hh])), (e1, .inl (κ.z 0, 6, .inl (aN nu))), (e2, .inl (κ.z 1, 6, .inr (.inl lo))), (e3, .inl (κ.z 1, 6, .inr (.inl hi)))]) (wr := []) (c_E_findHullOf κ.l κ.D κ.z e e1 e2 e3 cnt hl hh nu lo hi (cnt - j) (by omega) (by omega)) 0 rfl rfl m293 m294 m6 m34 (by decide +kernel) rfl (Nat.le_of_ble_eq_true rfl) ⟨by decide, by decide⟩ ⟨by decide, by decide⟩ rfl rfl m295 d_E_findHull_19 (fun v w1 hg => ?_)
    obtain ⟨rfl, rfl⟩ := hg
    show V κ 2 0 0 22 [(1, .int (nI j)), (0, .ref e)] [.int (bI (f_E_findHullOf cnt lo hi (cnt - j)))] [(e, .inr (0, [.int (nI cnt), .ref e1, .ref e2, .ref e3, .long (f_E_findHullOf_hullLow cnt hl lo hi (cnt - j)), .long (f_E_findHullOf_hullHigh cnt hh lo hi (cnt - j))])), (e1, .inl (κ.z 0, 6, .inl (aN nu))), (e2, .inl (κ.z 1, 6, .inr (.inl lo))), (e3, .inl (κ.z 1, 6, .inr (.inl hi)))]
    refine v_ifB_eq X 27 (t := f_E_findHullOf cnt lo hi (cnt - j)) d_E_findHull_22 (by decide) (fun c22 => ?_) (fun c22 => ?_)
    · skip
      refine v_iinc X 0 d_E_findHull_27 (x := nI j) rfl (v := nI (j + 1)) (nI_1 _) (by decide) (lv' := [(1, .int (nI (j + 1))), (0, .ref e)]) rfl ?_
      refine v_goto X 2 d_E_findHull_30 (by decide) ?_
      exact v_eq rfl (by rfl) rfl (by simp only [f_E_findHullOf_hullLow, f_E_findHullOf_hullHigh, if_neg (of_okf c22)]) (ih (j + 1) (by omega) (by rw [← hr]; conv => rhs; unfold fst9; rw [if_neg c22]))
    · skip
      refine v_iconst X 1 d_E_findHull_25 (by decide) ?_
      have e8 : j = fhF cnt lo hi := by rw [← hr]; unfold fst9; rw [if_pos c22]
      have e7 := of_okt c22
      exact v_zret X Y (by decide) (by decide) d_E_findHull_26 rfl ⟨by rw [show decide (fhF cnt lo hi < (cnt + 1) / 2) = true by rw [← e8]; simp; omega]; rfl, by simp only [fhH, fhK, ← e8, show j < (cnt + 1) / 2 by omega, if_true, f_E_findHullOf_hullLow, f_E_findHullOf_hullHigh, if_pos e7]⟩

set_option maxHeartbeats 4000000 in
set_option maxRecDepth 100000 in
theorem c_E_findHull (l : Launch) (D : va_G) (z : Nat → ClassId) (e : Nat) (e1 : Nat) (e2 : Nat) (e3 : Nat) (cnt : Nat) (hl : Int64) (hh : Int64) (nu : Nat → Nat) (lo : Nat → Int64) (hi : Nat → Int64) (hc6 : cnt ≤ 6) : Ctr l D z y_E_findHull b_E_findHull 2 (some .boolean) { frames := 2, cells := 0, slots := 0, locals := 50 } [.ref e] [(e, .inr (0, [.int (nI cnt), .ref e1, .ref e2, .ref e3, .long hl, .long hh])), (e1, .inl (z 0, 6, .inl (aN nu))), (e2, .inl (z 1, 6, .inr (.inl lo))), (e3, .inl (z 1, 6, .inr (.inl hi)))] (fun v w => v = some (.int (bI (decide (fhF cnt lo hi < (cnt + 1) / 2)))) ∧ w = [(e, .inr (0, [.int (nI cnt), .ref e1, .ref e2, .ref e3, .long (fhH cnt hl lo hi), .long (fhK cnt hh lo hi)])), (e1, .inl (z 0, 6, .inl (aN nu))), (e2, .inl (z 1, 6, .inr (.inl lo))), (e3, .inl (z 1, 6, .inr (.inl hi)))]) 0 0 := by
  refine met_V (own := R_E) (nm := "findHull") (by decide +kernel) rfl rfl (Nat.le_of_ble_eq_true rfl) ?_
  intro κ hl hD hz X Y
  subst hl
  subst hD
  subst hz
  show V κ 2 0 0 0 [(0, .ref e)] [] [(e, .inr (0, [.int (nI cnt), .ref e1, .ref e2, .ref e3, .long hl, .long hh])), (e1, .inl (κ.z 0, 6, .inl (aN nu))), (e2, .inl (κ.z 1, 6, .inr (.inl lo))), (e3, .inl (κ.z 1, 6, .inr (.inl hi)))]
  refine v_iconst X 0 d_E_findHull_0 (by decide) ?_
  refine v_istore_n X d_E_findHull_1 rfl (by decide) (lv' := [(1, .int 0), (0, .ref e)]) rfl ?_
  refine v_lv [0, 1] rfl ?_
  exact lp_hull X e e1 e2 e3 cnt hl hh nu lo hi hc6 Y ((cnt + 1) / 2) 0 (by omega) rfl

def kpS (hl : Int64) (hh : Int64) (nu : Nat → Nat) (lo : Nat → Int64) (hi : Nat → Int64) : Nat → Nat × (Nat → Nat) × (Nat → Int64) × (Nat → Int64)
  | 0 => (0, nu, lo, hi)
  | j + 1 => (if hh < (((kpS hl hh nu lo hi j).2.2.1) j) then ((kpS hl hh nu lo hi j).1) else (if (((kpS hl hh nu lo hi j).2.2.2) j) < hl then ((kpS hl hh nu lo hi j).1) else (((kpS hl hh nu lo hi j).1) + 1)), if hh < (((kpS hl hh nu lo hi j).2.2.1) j) then ((kpS hl hh nu lo hi j).2.1) else if (((kpS hl hh nu lo hi j).2.2.2) j) < hl then ((kpS hl hh nu lo hi j).2.1) else va_up ((kpS hl hh nu lo hi j).2.1) ((kpS hl hh nu lo hi j).1) (((kpS hl hh nu lo hi j).2.1) j), if hh < (((kpS hl hh nu lo hi j).2.2.1) j) then ((kpS hl hh nu lo hi j).2.2.1) else if (((kpS hl hh nu lo hi j).2.2.2) j) < hl then ((kpS hl hh nu lo hi j).2.2.1) else vp_updL ((kpS hl hh nu lo hi j).2.2.1) ((kpS hl hh nu lo hi j).1) (((kpS hl hh nu lo hi j).2.2.1) j), if hh < (((kpS hl hh nu lo hi j).2.2.1) j) then ((kpS hl hh nu lo hi j).2.2.2) else if (((kpS hl hh nu lo hi j).2.2.2) j) < hl then ((kpS hl hh nu lo hi j).2.2.2) else vp_updL ((kpS hl hh nu lo hi j).2.2.2) ((kpS hl hh nu lo hi j).1) (((kpS hl hh nu lo hi j).2.2.2) j))
theorem kpS_le (hl : Int64) (hh : Int64) (nu : Nat → Nat) (lo : Nat → Int64) (hi : Nat → Int64) : ∀ n : Nat, (kpS hl hh nu lo hi n).1 ≤ n
  | 0 => Nat.le_refl _
  | n + 1 => by
    have h9 := kpS_le hl hh nu lo hi n
    unfold kpS
    try dsimp only
    repeat' split
    all_goals omega
set_option maxHeartbeats 4000000 in
set_option maxRecDepth 100000 in
theorem lp_keep {κ : VC} (X : Cx κ b_E_keepThoseAtHull R_E { frames := 1, cells := 0, slots := 0, locals := 26 } 3) (e : Nat) (e1 : Nat) (e2 : Nat) (e3 : Nat) (cnt : Nat) (hl : Int64) (hh : Int64) (nu : Nat → Nat) (lo : Nat → Int64) (hi : Nat → Int64) (hc6 : cnt ≤ 6)  (kk : V κ 3 0 0 72 [(2, .int (nI cnt)), (1, .int (nI ((kpS hl hh nu lo hi cnt).1))), (0, .ref e)] [] [(e, .inr (0, [.int (nI cnt), .ref e1, .ref e2, .ref e3, .long hl, .long hh])), (e1, .inl (κ.z 0, 6, .inl (aN ((kpS hl hh nu lo hi cnt).2.1)))), (e2, .inl (κ.z 1, 6, .inr (.inl ((kpS hl hh nu lo hi cnt).2.2.1)))), (e3, .inl (κ.z 1, 6, .inr (.inl ((kpS hl hh nu lo hi cnt).2.2.2))))]) : ∀ (d9 j : Nat), j + d9 = cnt → V κ 3 0 0 4 [(2, .int (nI j)), (1, .int (nI ((kpS hl hh nu lo hi j).1))), (0, .ref e)] [] [(e, .inr (0, [.int (nI cnt), .ref e1, .ref e2, .ref e3, .long hl, .long hh])), (e1, .inl (κ.z 0, 6, .inl (aN ((kpS hl hh nu lo hi j).2.1)))), (e2, .inl (κ.z 1, 6, .inr (.inl ((kpS hl hh nu lo hi j).2.2.1)))), (e3, .inl (κ.z 1, 6, .inr (.inl ((kpS hl hh nu lo hi j).2.2.2))))] := by
  intro d9
  induction d9 with
  | zero =>
    intro j hj 
    have e9 : j = cnt := by omega
    rw [e9]
    show V κ 3 0 0 4 [(2, .int (nI cnt)), (1, .int (nI ((kpS hl hh nu lo hi cnt).1))), (0, .ref e)] [] [(e, .inr (0, [.int (nI cnt), .ref e1, .ref e2, .ref e3, .long hl, .long hh])), (e1, .inl (κ.z 0, 6, .inl (aN ((kpS hl hh nu lo hi cnt).2.1)))), (e2, .inl (κ.z 1, 6, .inr (.inl ((kpS hl hh nu lo hi cnt).2.2.1)))), (e3, .inl (κ.z 1, 6, .inr (.inl ((kpS hl hh nu lo hi cnt).2.2.2))))]
    refine v_iload_n X 0 d_E_keepThoseAtHull_4 rfl ?_
    refine v_aload_n X 2 d_E_keepThoseAtHull_5 rfl ?_
    refine v_get X 0 0 rfl rfl li_E (by decide) m105 rfl d_E_keepThoseAtHull_6 ?_
    refine v_icmpN_ge X 72 (a := cnt) (b := cnt) d_E_keepThoseAtHull_9 (by decide) (by omega) (by omega) (fun c9 => ?_) (fun c9 => by omega)
    exact kk
  | succ d9 ih =>
    intro j hj 
    have h8 := kpS_le hl hh nu lo hi j
    show V κ 3 0 0 4 [(2, .int (nI j)), (1, .int (nI ((kpS hl hh nu lo hi j).1))), (0, .ref e)] [] [(e, .inr (0, [.int (nI cnt), .ref e1, .ref e2, .ref e3, .long hl, .long hh])), (e1, .inl (κ.z 0, 6, .inl (aN ((kpS hl hh nu lo hi j).2.1)))), (e2, .inl (κ.z 1, 6, .inr (.inl ((kpS hl hh nu lo hi j).2.2.1)))), (e3, .inl (κ.z 1, 6, .inr (.inl ((kpS hl hh nu lo hi j).2.2.2))))]
    refine v_iload_n X 0 d_E_keepThoseAtHull_4 rfl ?_
    refine v_aload_n X 2 d_E_keepThoseAtHull_5 rfl ?_
    refine v_get X 0 0 rfl rfl li_E (by decide) m105 rfl d_E_keepThoseAtHull_6 ?_
    refine v_icmpN_ge X 72 (a := j) (b := cnt) d_E_keepThoseAtHull_9 (by decide) (by omega) (by omega) (fun c9 => by omega) (fun c9 => ?_)
    refine v_aload_n X 2 d_E_keepThoseAtHull_12 rfl ?_
    refine v_get X 0 2 rfl rfl li_E (by decide) m109 rfl d_E_keepThoseAtHull_13 ?_
    refine v_iload_n X 0 d_E_keepThoseAtHull_16 rfl ?_
    refine v_laldN X 2 1 (j := j) rfl rfl (by omega) (by omega) d_E_keepThoseAtHull_17 ?_
    refine v_aload_n X 2 d_E_keepThoseAtHull_18 rfl ?_
    refine v_get X 0 5 rfl rfl li_E (by decide) m114 rfl d_E_keepThoseAtHull_19 ?_
    suffices hm22 : V κ 3 0 0 66 [(2, .int (nI j)), (1, .int (nI (if hh < (((kpS hl hh nu lo hi j).2.2.1) j) then ((kpS hl hh nu lo hi j).1) else (if (((kpS hl hh nu lo hi j).2.2.2) j) < hl then ((kpS hl hh nu lo hi j).1) else (((kpS hl hh nu lo hi j).1) + 1))))), (0, .ref e)] [] [(e, .inr (0, [.int (nI cnt), .ref e1, .ref e2, .ref e3, .long hl, .long hh])), (e1, .inl (κ.z 0, 6, .inl (aN (if hh < (((kpS hl hh nu lo hi j).2.2.1) j) then (kpS hl hh nu lo hi j).2.1 else if (((kpS hl hh nu lo hi j).2.2.2) j) < hl then (kpS hl hh nu lo hi j).2.1 else va_up ((kpS hl hh nu lo hi j).2.1) ((kpS hl hh nu lo hi j).1) (((kpS hl hh nu lo hi j).2.1) j))))), (e2, .inl (κ.z 1, 6, .inr (.inl (if hh < (((kpS hl hh nu lo hi j).2.2.1) j) then (kpS hl hh nu lo hi j).2.2.1 else if (((kpS hl hh nu lo hi j).2.2.2) j) < hl then (kpS hl hh nu lo hi j).2.2.1 else vp_updL ((kpS hl hh nu lo hi j).2.2.1) ((kpS hl hh nu lo hi j).1) (((kpS hl hh nu lo hi j).2.2.1) j))))), (e3, .inl (κ.z 1, 6, .inr (.inl (if hh < (((kpS hl hh nu lo hi j).2.2.1) j) then (kpS hl hh nu lo hi j).2.2.2 else if (((kpS hl hh nu lo hi j).2.2.2) j) < hl then (kpS hl hh nu lo hi j).2.2.2 else vp_updL ((kpS hl hh nu lo hi j).2.2.2) ((kpS hl hh nu lo hi j).1) (((kpS hl hh nu lo hi j).2.2.2) j)))))] by
      refine v_lcmp_gt X 66 d_E_keepThoseAtHull_22 d_E_keepThoseAtHull_23 (by decide) (fun c22 => ?_) (fun c22 => ?_)
      · skip
        have h9 := hm22; simp only [if_pos c22] at h9; first | exact h9 | (simp only [if_pos c22]; exact h9)
      · skip
        refine v_aload_n X 2 d_E_keepThoseAtHull_26 rfl ?_
        refine v_get X 0 3 rfl rfl li_E (by decide) m110 rfl d_E_keepThoseAtHull_27 ?_
        refine v_iload_n X 0 d_E_keepThoseAtHull_30 rfl ?_
        refine v_laldN X 3 1 (j := j) rfl rfl (by omega) (by omega) d_E_keepThoseAtHull_31 ?_
        refine v_aload_n X 2 d_E_keepThoseAtHull_32 rfl ?_
        refine v_get X 0 4 rfl rfl li_E (by decide) m112 rfl d_E_keepThoseAtHull_33 ?_
        suffices hm36 : V κ 3 0 0 66 [(2, .int (nI j)), (1, .int (nI (if (((kpS hl hh nu lo hi j).2.2.2) j) < hl then ((kpS hl hh nu lo hi j).1) else (((kpS hl hh nu lo hi j).1) + 1)))), (0, .ref e)] [] [(e, .inr (0, [.int (nI cnt), .ref e1, .ref e2, .ref e3, .long hl, .long hh])), (e1, .inl (κ.z 0, 6, .inl (aN (if (((kpS hl hh nu lo hi j).2.2.2) j) < hl then (kpS hl hh nu lo hi j).2.1 else va_up ((kpS hl hh nu lo hi j).2.1) ((kpS hl hh nu lo hi j).1) (((kpS hl hh nu lo hi j).2.1) j))))), (e2, .inl (κ.z 1, 6, .inr (.inl (if (((kpS hl hh nu lo hi j).2.2.2) j) < hl then (kpS hl hh nu lo hi j).2.2.1 else vp_updL ((kpS hl hh nu lo hi j).2.2.1) ((kpS hl hh nu lo hi j).1) (((kpS hl hh nu lo hi j).2.2.1) j))))), (e3, .inl (κ.z 1, 6, .inr (.inl (if (((kpS hl hh nu lo hi j).2.2.2) j) < hl then (kpS hl hh nu lo hi j).2.2.2 else vp_updL ((kpS hl hh nu lo hi j).2.2.2) ((kpS hl hh nu lo hi j).1) (((kpS hl hh nu lo hi j).2.2.2) j)))))] by
          refine v_lcmp_lt X 66 d_E_keepThoseAtHull_36 d_E_keepThoseAtHull_37 (by decide) (fun c36 => ?_) (fun c36 => ?_)
          · skip
            have h9 := hm36; simp only [if_pos c36] at h9; first | exact h9 | (simp only [if_pos c36]; exact h9)
          · skip
            refine v_aload_n X 2 d_E_keepThoseAtHull_40 rfl ?_
            refine v_iload_n X 1 d_E_keepThoseAtHull_41 rfl ?_
            refine v_aload_n X 2 d_E_keepThoseAtHull_42 rfl ?_
            refine v_get X 0 1 rfl rfl li_E (by decide) m107 rfl d_E_keepThoseAtHull_43 ?_
            refine v_iload_n X 0 d_E_keepThoseAtHull_46 rfl ?_
            refine v_naldN X 1 0 (j := j) rfl rfl (by omega) (by omega) d_E_keepThoseAtHull_47 ?_
            refine v_aload_n X 2 d_E_keepThoseAtHull_48 rfl ?_
            refine v_get X 0 2 rfl rfl li_E (by decide) m109 rfl d_E_keepThoseAtHull_49 ?_
            refine v_iload_n X 0 d_E_keepThoseAtHull_52 rfl ?_
            refine v_laldN X 2 1 (j := j) rfl rfl (by omega) (by omega) d_E_keepThoseAtHull_53 ?_
            refine v_aload_n X 2 d_E_keepThoseAtHull_54 rfl ?_
            refine v_get X 0 3 rfl rfl li_E (by decide) m110 rfl d_E_keepThoseAtHull_55 ?_
            refine v_iload_n X 0 d_E_keepThoseAtHull_58 rfl ?_
            refine v_laldN X 3 1 (j := j) rfl rfl (by omega) (by omega) d_E_keepThoseAtHull_59 ?_
            show V κ 3 0 0 60 [(2, .int (nI j)), (1, .int (nI ((kpS hl hh nu lo hi j).1))), (0, .ref e)] [.long (((kpS hl hh nu lo hi j).2.2.2) j), .long (((kpS hl hh nu lo hi j).2.2.1) j), .int (nI (((kpS hl hh nu lo hi j).2.1) j)), .int (nI ((kpS hl hh nu lo hi j).1)), .ref e] [(e, .inr (0, [.int (nI cnt), .ref e1, .ref e2, .ref e3, .long hl, .long hh])), (e1, .inl (κ.z 0, 6, .inl (aN ((kpS hl hh nu lo hi j).2.1)))), (e2, .inl (κ.z 1, 6, .inr (.inl ((kpS hl hh nu lo hi j).2.2.1)))), (e3, .inl (κ.z 1, 6, .inr (.inl ((kpS hl hh nu lo hi j).2.2.2))))]
            refine v_callV X (b := e) (n9 := 4) (As := [.int (nI ((kpS hl hh nu lo hi j).1)), .int (nI (((kpS hl hh nu lo hi j).2.1) j)), .long (((kpS hl hh nu lo hi j).2.2.1) j), .long (((kpS hl hh nu lo hi j).2.2.2) j)]) (rest := []) (wc := [(e, .inr (0, [.int (nI cnt), .ref e1, .ref e2, .ref e3, .long hl, .long hh])), (e1, .inl (κ.z 0, 6, .inl (aN ((kpS hl hh nu lo hi j).2.1)))), (e2, .inl (κ.z 1, 6, .inr (.inl ((kpS hl hh nu lo hi j).2.2.1)))), (e3, .inl (κ.z 1, 6, .inr (.inl ((kpS hl hh nu lo hi j).2.2.2))))]) (wr := []) (c_E_put κ.l κ.D κ.z e e1 e2 e3 cnt hl hh ((kpS hl hh nu lo hi j).2.1) ((kpS hl hh nu lo hi j).2.2.1) ((kpS hl hh nu lo hi j).2.2.2) ((kpS hl hh nu lo hi j).1) (((kpS hl hh nu lo hi j).2.1) j) (((kpS hl hh nu lo hi j).2.2.1) j) (((kpS hl hh nu lo hi j).2.2.2) j) (by omega)) 0 rfl rfl m286 m287 m5 m34 (by decide +kernel) rfl (Nat.le_of_ble_eq_true rfl) ⟨by decide, by decide⟩ ⟨by decide, by decide⟩ rfl rfl m288 d_E_keepThoseAtHull_60 (fun v w1 hg => ?_)
            obtain ⟨rfl, rfl⟩ := hg
            show V κ 3 0 0 63 [(2, .int (nI j)), (1, .int (nI ((kpS hl hh nu lo hi j).1))), (0, .ref e)] [] [(e, .inr (0, [.int (nI cnt), .ref e1, .ref e2, .ref e3, .long hl, .long hh])), (e1, .inl (κ.z 0, 6, .inl (aN (va_up ((kpS hl hh nu lo hi j).2.1) ((kpS hl hh nu lo hi j).1) (((kpS hl hh nu lo hi j).2.1) j))))), (e2, .inl (κ.z 1, 6, .inr (.inl (vp_updL ((kpS hl hh nu lo hi j).2.2.1) ((kpS hl hh nu lo hi j).1) (((kpS hl hh nu lo hi j).2.2.1) j))))), (e3, .inl (κ.z 1, 6, .inr (.inl (vp_updL ((kpS hl hh nu lo hi j).2.2.2) ((kpS hl hh nu lo hi j).1) (((kpS hl hh nu lo hi j).2.2.2) j)))))]
            refine v_iinc X 1 d_E_keepThoseAtHull_63 (x := nI ((kpS hl hh nu lo hi j).1)) rfl (v := nI (((kpS hl hh nu lo hi j).1) + 1)) (nI_1 _) (by decide) (lv' := [(1, .int (nI (((kpS hl hh nu lo hi j).1) + 1))), (2, .int (nI j)), (0, .ref e)]) rfl ?_
            refine v_lv [1, 0, 2] rfl ?_
            have h9 := hm36; simp only [if_neg c36] at h9; first | exact h9 | (simp only [if_neg c36]; exact h9)
        have h9 := hm22; simp only [if_neg c22] at h9; first | exact h9 | (simp only [if_neg c22]; exact h9)
    refine v_iinc X 0 d_E_keepThoseAtHull_66 (x := nI j) rfl (v := nI (j + 1)) (nI_1 _) (by decide) (lv' := [(2, .int (nI (j + 1))), (1, .int (nI (if hh < (((kpS hl hh nu lo hi j).2.2.1) j) then ((kpS hl hh nu lo hi j).1) else (if (((kpS hl hh nu lo hi j).2.2.2) j) < hl then ((kpS hl hh nu lo hi j).1) else (((kpS hl hh nu lo hi j).1) + 1))))), (0, .ref e)]) rfl ?_
    refine v_goto X 4 d_E_keepThoseAtHull_69 (by decide) ?_
    exact v_eq rfl (by rfl) rfl (by rfl) (ih (j + 1) (by omega))

set_option maxHeartbeats 4000000 in
set_option maxRecDepth 100000 in
theorem c_E_keepThoseAtHull (l : Launch) (D : va_G) (z : Nat → ClassId) (e : Nat) (e1 : Nat) (e2 : Nat) (e3 : Nat) (cnt : Nat) (hl : Int64) (hh : Int64) (nu : Nat → Nat) (lo : Nat → Int64) (hi : Nat → Int64) (hc6 : cnt ≤ 6) : Ctr l D z y_E_keepThoseAtHull b_E_keepThoseAtHull 3 none { frames := 1, cells := 0, slots := 0, locals := 26 } [.ref e] [(e, .inr (0, [.int (nI cnt), .ref e1, .ref e2, .ref e3, .long hl, .long hh])), (e1, .inl (z 0, 6, .inl (aN nu))), (e2, .inl (z 1, 6, .inr (.inl lo))), (e3, .inl (z 1, 6, .inr (.inl hi)))] (fun v w => v = none ∧ w = [(e, .inr (0, [.int (nI ((kpS hl hh nu lo hi cnt).1)), .ref e1, .ref e2, .ref e3, .long hl, .long hh])), (e1, .inl (z 0, 6, .inl (aN ((kpS hl hh nu lo hi cnt).2.1)))), (e2, .inl (z 1, 6, .inr (.inl ((kpS hl hh nu lo hi cnt).2.2.1)))), (e3, .inl (z 1, 6, .inr (.inl ((kpS hl hh nu lo hi cnt).2.2.2))))]) 0 0 := by
  refine met_V (own := R_E) (nm := "keepThoseAtHull") (by decide +kernel) rfl rfl (Nat.le_of_ble_eq_true rfl) ?_
  intro κ hl hD hz X Y
  subst hl
  subst hD
  subst hz
  show V κ 3 0 0 0 [(0, .ref e)] [] [(e, .inr (0, [.int (nI cnt), .ref e1, .ref e2, .ref e3, .long hl, .long hh])), (e1, .inl (κ.z 0, 6, .inl (aN nu))), (e2, .inl (κ.z 1, 6, .inr (.inl lo))), (e3, .inl (κ.z 1, 6, .inr (.inl hi)))]
  refine v_iconst X 0 d_E_keepThoseAtHull_0 (by decide) ?_
  refine v_istore_n X d_E_keepThoseAtHull_1 rfl (by decide) (lv' := [(1, .int 0), (0, .ref e)]) rfl ?_
  refine v_iconst X 0 d_E_keepThoseAtHull_2 (by decide) ?_
  refine v_istore_n X d_E_keepThoseAtHull_3 rfl (by decide) (lv' := [(2, .int 0), (1, .int 0), (0, .ref e)]) rfl ?_
  show V κ 3 0 0 4 [(2, .int (nI 0)), (1, .int (nI ((kpS hl hh nu lo hi 0).1))), (0, .ref e)] [] [(e, .inr (0, [.int (nI cnt), .ref e1, .ref e2, .ref e3, .long hl, .long hh])), (e1, .inl (κ.z 0, 6, .inl (aN ((kpS hl hh nu lo hi 0).2.1)))), (e2, .inl (κ.z 1, 6, .inr (.inl ((kpS hl hh nu lo hi 0).2.2.1)))), (e3, .inl (κ.z 1, 6, .inr (.inl ((kpS hl hh nu lo hi 0).2.2.2))))]
  refine lp_keep X e e1 e2 e3 cnt hl hh nu lo hi (by omega)  ?_ (cnt - 0) 0 (by omega)
  show V κ 3 0 0 72 [(2, .int (nI cnt)), (1, .int (nI ((kpS hl hh nu lo hi cnt).1))), (0, .ref e)] [] [(e, .inr (0, [.int (nI cnt), .ref e1, .ref e2, .ref e3, .long hl, .long hh])), (e1, .inl (κ.z 0, 6, .inl (aN ((kpS hl hh nu lo hi cnt).2.1)))), (e2, .inl (κ.z 1, 6, .inr (.inl ((kpS hl hh nu lo hi cnt).2.2.1)))), (e3, .inl (κ.z 1, 6, .inr (.inl ((kpS hl hh nu lo hi cnt).2.2.2))))]
  refine v_aload_n X 2 d_E_keepThoseAtHull_72 rfl ?_
  refine v_iload_n X 1 d_E_keepThoseAtHull_73 rfl ?_
  refine v_put X 0 0 (v := .int (nI ((kpS hl hh nu lo hi cnt).1))) (ty := .int) ty_E tk_E n_E rfl rfl li_E (by decide) m105 rfl (by decide +kernel) rfl rfl (Nat.le_of_ble_eq_true rfl) d_E_keepThoseAtHull_74 (ws' := [(e, .inr (0, [.int (nI ((kpS hl hh nu lo hi cnt).1)), .ref e1, .ref e2, .ref e3, .long hl, .long hh])), (e1, .inl (κ.z 0, 6, .inl (aN ((kpS hl hh nu lo hi cnt).2.1)))), (e2, .inl (κ.z 1, 6, .inr (.inl ((kpS hl hh nu lo hi cnt).2.2.1)))), (e3, .inl (κ.z 1, 6, .inr (.inl ((kpS hl hh nu lo hi cnt).2.2.2))))]) rfl ?_
  exact v_vret X Y (by decide) (by decide) d_E_keepThoseAtHull_77 ⟨rfl, rfl⟩

set_option maxHeartbeats 4000000 in
set_option maxRecDepth 100000 in
theorem c_E_middle (l : Launch) (D : va_G) (z : Nat → ClassId) (e : Nat) (e1 : Nat) (e2 : Nat) (e3 : Nat) (cnt : Nat) (hl : Int64) (hh : Int64) (nu : Nat → Nat) (lo : Nat → Int64) (hi : Nat → Int64) (i : Nat) (hi9 : i < 6) : Ctr l D z y_E_middle b_E_middle 2 (some .long) { frames := 1, cells := 0, slots := 0, locals := 25 } [.ref e, .int (nI i)] [(e, .inr (0, [.int (nI cnt), .ref e1, .ref e2, .ref e3, .long hl, .long hh])), (e1, .inl (z 0, 6, .inl (aN nu))), (e2, .inl (z 1, 6, .inr (.inl lo))), (e3, .inl (z 1, 6, .inr (.inl hi)))] (fun v w => v = some (.long (f_J_floorDiv ((lo i) + (hi i)) 2)) ∧ w = [(e, .inr (0, [.int (nI cnt), .ref e1, .ref e2, .ref e3, .long hl, .long hh])), (e1, .inl (z 0, 6, .inl (aN nu))), (e2, .inl (z 1, 6, .inr (.inl lo))), (e3, .inl (z 1, 6, .inr (.inl hi)))]) 0 0 := by
  refine met_V (own := R_E) (nm := "middle") (by decide +kernel) rfl rfl (Nat.le_of_ble_eq_true rfl) ?_
  intro κ hl hD hz X Y
  subst hl
  subst hD
  subst hz
  show V κ 2 0 0 0 [(0, .ref e), (1, .int (nI i))] [] [(e, .inr (0, [.int (nI cnt), .ref e1, .ref e2, .ref e3, .long hl, .long hh])), (e1, .inl (κ.z 0, 6, .inl (aN nu))), (e2, .inl (κ.z 1, 6, .inr (.inl lo))), (e3, .inl (κ.z 1, 6, .inr (.inl hi)))]
  refine v_aload_n X 0 d_E_middle_0 rfl ?_
  refine v_get X 0 2 rfl rfl li_E (by decide) m109 rfl d_E_middle_1 ?_
  refine v_iload_n X 1 d_E_middle_4 rfl ?_
  refine v_laldN X 2 1 (j := i) rfl rfl (by omega) (by omega) d_E_middle_5 ?_
  refine v_aload_n X 0 d_E_middle_6 rfl ?_
  refine v_get X 0 3 rfl rfl li_E (by decide) m110 rfl d_E_middle_7 ?_
  refine v_iload_n X 1 d_E_middle_10 rfl ?_
  refine v_laldN X 3 1 (j := i) rfl rfl (by omega) (by omega) d_E_middle_11 ?_
  refine v_ladd X d_E_middle_12 ?_
  refine v_ldc2 X (v := 2) m322 d_E_middle_13 ?_
  refine v_callS X (n9 := 2) (As := [.long ((lo i) + (hi i)), .long 2]) (rest := []) (wc := []) (wr := [(e, .inr (0, [.int (nI cnt), .ref e1, .ref e2, .ref e3, .long hl, .long hh])), (e1, .inl (κ.z 0, 6, .inl (aN nu))), (e2, .inl (κ.z 1, 6, .inr (.inl lo))), (e3, .inl (κ.z 1, 6, .inr (.inl hi)))]) (c_J_floorDiv κ.l κ.D κ.z ((lo i) + (hi i)) 2 (by decide)) m323 m252 m31 (by decide +kernel) rfl (Nat.le_of_ble_eq_true rfl) ⟨by decide, by decide⟩ ⟨by decide, by decide⟩ rfl rfl m253 d_E_middle_16 (fun v w1 hg => ?_)
  obtain ⟨rfl, rfl⟩ := hg
  show V κ 2 0 0 19 [(0, .ref e), (1, .int (nI i))] [.long (f_J_floorDiv ((lo i) + (hi i)) 2)] [(e, .inr (0, [.int (nI cnt), .ref e1, .ref e2, .ref e3, .long hl, .long hh])), (e1, .inl (κ.z 0, 6, .inl (aN nu))), (e2, .inl (κ.z 1, 6, .inr (.inl lo))), (e3, .inl (κ.z 1, 6, .inr (.inl hi)))]
  exact v_lret X Y (by decide) (by decide) d_E_middle_19 ⟨rfl, rfl⟩

def dsS (lo : Nat → Int64) (hi : Nat → Int64) (i : Nat) : Nat → Int64
  | 0 => 0
  | j + 1 => (dsS lo hi i j) + (f_J_abs ((f_J_floorDiv ((lo i) + (hi i)) 2) - (f_J_floorDiv ((lo j) + (hi j)) 2)))
set_option maxHeartbeats 4000000 in
set_option maxRecDepth 100000 in
theorem lp_dist {κ : VC} (X : Cx κ b_E_distances R_E { frames := 2, cells := 0, slots := 0, locals := 46 } 5) (e : Nat) (e1 : Nat) (e2 : Nat) (e3 : Nat) (cnt : Nat) (hl : Int64) (hh : Int64) (nu : Nat → Nat) (lo : Nat → Int64) (hi : Nat → Int64) (i : Nat) (hc6 : cnt ≤ 6) (hi9 : i < 6)  (kk : V κ 5 0 0 38 [(4, .int (nI cnt)), (2, .long (dsS lo hi i cnt)), (0, .ref e), (1, .int (nI i))] [] [(e, .inr (0, [.int (nI cnt), .ref e1, .ref e2, .ref e3, .long hl, .long hh])), (e1, .inl (κ.z 0, 6, .inl (aN nu))), (e2, .inl (κ.z 1, 6, .inr (.inl lo))), (e3, .inl (κ.z 1, 6, .inr (.inl hi)))]) : ∀ (d9 j : Nat), j + d9 = cnt → V κ 5 0 0 5 [(4, .int (nI j)), (2, .long (dsS lo hi i j)), (0, .ref e), (1, .int (nI i))] [] [(e, .inr (0, [.int (nI cnt), .ref e1, .ref e2, .ref e3, .long hl, .long hh])), (e1, .inl (κ.z 0, 6, .inl (aN nu))), (e2, .inl (κ.z 1, 6, .inr (.inl lo))), (e3, .inl (κ.z 1, 6, .inr (.inl hi)))] := by
  intro d9
  induction d9 with
  | zero =>
    intro j hj 
    have e9 : j = cnt := by omega
    rw [e9]
    show V κ 5 0 0 5 [(4, .int (nI cnt)), (2, .long (dsS lo hi i cnt)), (0, .ref e), (1, .int (nI i))] [] [(e, .inr (0, [.int (nI cnt), .ref e1, .ref e2, .ref e3, .long hl, .long hh])), (e1, .inl (κ.z 0, 6, .inl (aN nu))), (e2, .inl (κ.z 1, 6, .inr (.inl lo))), (e3, .inl (κ.z 1, 6, .inr (.inl hi)))]
    refine v_iload X 0 d_E_distances_5 rfl ?_
    refine v_aload_n X 2 d_E_distances_7 rfl ?_
    refine v_get X 0 0 rfl rfl li_E (by decide) m105 rfl d_E_distances_8 ?_
    refine v_icmpN_ge X 38 (a := cnt) (b := cnt) d_E_distances_11 (by decide) (by omega) (by omega) (fun c11 => ?_) (fun c11 => by omega)
    exact kk
  | succ d9 ih =>
    intro j hj 
    show V κ 5 0 0 5 [(4, .int (nI j)), (2, .long (dsS lo hi i j)), (0, .ref e), (1, .int (nI i))] [] [(e, .inr (0, [.int (nI cnt), .ref e1, .ref e2, .ref e3, .long hl, .long hh])), (e1, .inl (κ.z 0, 6, .inl (aN nu))), (e2, .inl (κ.z 1, 6, .inr (.inl lo))), (e3, .inl (κ.z 1, 6, .inr (.inl hi)))]
    refine v_iload X 0 d_E_distances_5 rfl ?_
    refine v_aload_n X 2 d_E_distances_7 rfl ?_
    refine v_get X 0 0 rfl rfl li_E (by decide) m105 rfl d_E_distances_8 ?_
    refine v_icmpN_ge X 38 (a := j) (b := cnt) d_E_distances_11 (by decide) (by omega) (by omega) (fun c11 => by omega) (fun c11 => ?_)
    refine v_lload_n X 1 d_E_distances_14 rfl ?_
    refine v_aload_n X 2 d_E_distances_15 rfl ?_
    refine v_iload_n X 3 d_E_distances_16 rfl ?_
    refine v_callV X (b := e) (n9 := 1) (As := [.int (nI i)]) (rest := [.long (dsS lo hi i j)]) (wc := [(e, .inr (0, [.int (nI cnt), .ref e1, .ref e2, .ref e3, .long hl, .long hh])), (e1, .inl (κ.z 0, 6, .inl (aN nu))), (e2, .inl (κ.z 1, 6, .inr (.inl lo))), (e3, .inl (κ.z 1, 6, .inr (.inl hi)))]) (wr := []) (c_E_middle κ.l κ.D κ.z e e1 e2 e3 cnt hl hh nu lo hi i (by omega)) 0 rfl rfl m319 m320 m10 m34 (by decide +kernel) rfl (Nat.le_of_ble_eq_true rfl) ⟨by decide, by decide⟩ ⟨by decide, by decide⟩ rfl rfl m321 d_E_distances_17 (fun v w1 hg => ?_)
    obtain ⟨rfl, rfl⟩ := hg
    show V κ 5 0 0 20 [(4, .int (nI j)), (2, .long (dsS lo hi i j)), (0, .ref e), (1, .int (nI i))] [.long (f_J_floorDiv ((lo i) + (hi i)) 2), .long (dsS lo hi i j)] [(e, .inr (0, [.int (nI cnt), .ref e1, .ref e2, .ref e3, .long hl, .long hh])), (e1, .inl (κ.z 0, 6, .inl (aN nu))), (e2, .inl (κ.z 1, 6, .inr (.inl lo))), (e3, .inl (κ.z 1, 6, .inr (.inl hi)))]
    refine v_aload_n X 2 d_E_distances_20 rfl ?_
    refine v_iload X 0 d_E_distances_21 rfl ?_
    refine v_callV X (b := e) (n9 := 1) (As := [.int (nI j)]) (rest := [.long (f_J_floorDiv ((lo i) + (hi i)) 2), .long (dsS lo hi i j)]) (wc := [(e, .inr (0, [.int (nI cnt), .ref e1, .ref e2, .ref e3, .long hl, .long hh])), (e1, .inl (κ.z 0, 6, .inl (aN nu))), (e2, .inl (κ.z 1, 6, .inr (.inl lo))), (e3, .inl (κ.z 1, 6, .inr (.inl hi)))]) (wr := []) (c_E_middle κ.l κ.D κ.z e e1 e2 e3 cnt hl hh nu lo hi j (by omega)) 0 rfl rfl m319 m320 m10 m34 (by decide +kernel) rfl (Nat.le_of_ble_eq_true rfl) ⟨by decide, by decide⟩ ⟨by decide, by decide⟩ rfl rfl m321 d_E_distances_23 (fun v w1 hg => ?_)
    obtain ⟨rfl, rfl⟩ := hg
    show V κ 5 0 0 26 [(4, .int (nI j)), (2, .long (dsS lo hi i j)), (0, .ref e), (1, .int (nI i))] [.long (f_J_floorDiv ((lo j) + (hi j)) 2), .long (f_J_floorDiv ((lo i) + (hi i)) 2), .long (dsS lo hi i j)] [(e, .inr (0, [.int (nI cnt), .ref e1, .ref e2, .ref e3, .long hl, .long hh])), (e1, .inl (κ.z 0, 6, .inl (aN nu))), (e2, .inl (κ.z 1, 6, .inr (.inl lo))), (e3, .inl (κ.z 1, 6, .inr (.inl hi)))]
    refine v_lsub X d_E_distances_26 ?_
    refine v_callS X (n9 := 1) (As := [.long ((f_J_floorDiv ((lo i) + (hi i)) 2) - (f_J_floorDiv ((lo j) + (hi j)) 2))]) (rest := [.long (dsS lo hi i j)]) (wc := []) (wr := [(e, .inr (0, [.int (nI cnt), .ref e1, .ref e2, .ref e3, .long hl, .long hh])), (e1, .inl (κ.z 0, 6, .inl (aN nu))), (e2, .inl (κ.z 1, 6, .inr (.inl lo))), (e3, .inl (κ.z 1, 6, .inr (.inl hi)))]) (c_J_abs κ.l κ.D κ.z ((f_J_floorDiv ((lo i) + (hi i)) 2) - (f_J_floorDiv ((lo j) + (hi j)) 2)) ) m324 m325 m31 (by decide +kernel) rfl (Nat.le_of_ble_eq_true rfl) ⟨by decide, by decide⟩ ⟨by decide, by decide⟩ rfl rfl m326 d_E_distances_27 (fun v w1 hg => ?_)
    obtain ⟨rfl, rfl⟩ := hg
    show V κ 5 0 0 30 [(4, .int (nI j)), (2, .long (dsS lo hi i j)), (0, .ref e), (1, .int (nI i))] [.long (f_J_abs ((f_J_floorDiv ((lo i) + (hi i)) 2) - (f_J_floorDiv ((lo j) + (hi j)) 2))), .long (dsS lo hi i j)] [(e, .inr (0, [.int (nI cnt), .ref e1, .ref e2, .ref e3, .long hl, .long hh])), (e1, .inl (κ.z 0, 6, .inl (aN nu))), (e2, .inl (κ.z 1, 6, .inr (.inl lo))), (e3, .inl (κ.z 1, 6, .inr (.inl hi)))]
    refine v_ladd X d_E_distances_30 ?_
    show V κ 5 0 0 31 [(4, .int (nI j)), (2, .long (dsS lo hi i j)), (0, .ref e), (1, .int (nI i))] [.long ((dsS lo hi i j) + (f_J_abs ((f_J_floorDiv ((lo i) + (hi i)) 2) - (f_J_floorDiv ((lo j) + (hi j)) 2))))] [(e, .inr (0, [.int (nI cnt), .ref e1, .ref e2, .ref e3, .long hl, .long hh])), (e1, .inl (κ.z 0, 6, .inl (aN nu))), (e2, .inl (κ.z 1, 6, .inr (.inl lo))), (e3, .inl (κ.z 1, 6, .inr (.inl hi)))]
    refine v_lstore_n X d_E_distances_31 rfl (by decide) (lv' := [(2, .long ((dsS lo hi i j) + (f_J_abs ((f_J_floorDiv ((lo i) + (hi i)) 2) - (f_J_floorDiv ((lo j) + (hi j)) 2))))), (4, .int (nI j)), (0, .ref e), (1, .int (nI i))]) rfl ?_
    refine v_iinc X 1 d_E_distances_32 (x := nI j) rfl (v := nI (j + 1)) (nI_1 _) (by decide) (lv' := [(4, .int (nI (j + 1))), (2, .long ((dsS lo hi i j) + (f_J_abs ((f_J_floorDiv ((lo i) + (hi i)) 2) - (f_J_floorDiv ((lo j) + (hi j)) 2))))), (0, .ref e), (1, .int (nI i))]) rfl ?_
    refine v_goto X 5 d_E_distances_35 (by decide) ?_
    exact v_eq rfl (by rfl) rfl (by rfl) (ih (j + 1) (by omega))

set_option maxHeartbeats 4000000 in
set_option maxRecDepth 100000 in
theorem c_E_distances (l : Launch) (D : va_G) (z : Nat → ClassId) (e : Nat) (e1 : Nat) (e2 : Nat) (e3 : Nat) (cnt : Nat) (hl : Int64) (hh : Int64) (nu : Nat → Nat) (lo : Nat → Int64) (hi : Nat → Int64) (i : Nat) (hc6 : cnt ≤ 6) (hi9 : i < 6) : Ctr l D z y_E_distances b_E_distances 5 (some .long) { frames := 2, cells := 0, slots := 0, locals := 46 } [.ref e, .int (nI i)] [(e, .inr (0, [.int (nI cnt), .ref e1, .ref e2, .ref e3, .long hl, .long hh])), (e1, .inl (z 0, 6, .inl (aN nu))), (e2, .inl (z 1, 6, .inr (.inl lo))), (e3, .inl (z 1, 6, .inr (.inl hi)))] (fun v w => v = some (.long (dsS lo hi i cnt)) ∧ w = [(e, .inr (0, [.int (nI cnt), .ref e1, .ref e2, .ref e3, .long hl, .long hh])), (e1, .inl (z 0, 6, .inl (aN nu))), (e2, .inl (z 1, 6, .inr (.inl lo))), (e3, .inl (z 1, 6, .inr (.inl hi)))]) 0 0 := by
  refine met_V (own := R_E) (nm := "distances") (by decide +kernel) rfl rfl (Nat.le_of_ble_eq_true rfl) ?_
  intro κ hl hD hz X Y
  subst hl
  subst hD
  subst hz
  show V κ 5 0 0 0 [(0, .ref e), (1, .int (nI i))] [] [(e, .inr (0, [.int (nI cnt), .ref e1, .ref e2, .ref e3, .long hl, .long hh])), (e1, .inl (κ.z 0, 6, .inl (aN nu))), (e2, .inl (κ.z 1, 6, .inr (.inl lo))), (e3, .inl (κ.z 1, 6, .inr (.inl hi)))]
  refine v_lconst X 0 d_E_distances_0 (by decide) ?_
  refine v_lstore_n X d_E_distances_1 rfl (by decide) (lv' := [(2, .long 0), (0, .ref e), (1, .int (nI i))]) rfl ?_
  refine v_iconst X 0 d_E_distances_2 (by decide) ?_
  refine v_istore X d_E_distances_3 (by decide) (lv' := [(4, .int 0), (2, .long 0), (0, .ref e), (1, .int (nI i))]) rfl ?_
  show V κ 5 0 0 5 [(4, .int (nI 0)), (2, .long (dsS lo hi i 0)), (0, .ref e), (1, .int (nI i))] [] [(e, .inr (0, [.int (nI cnt), .ref e1, .ref e2, .ref e3, .long hl, .long hh])), (e1, .inl (κ.z 0, 6, .inl (aN nu))), (e2, .inl (κ.z 1, 6, .inr (.inl lo))), (e3, .inl (κ.z 1, 6, .inr (.inl hi)))]
  refine lp_dist X e e1 e2 e3 cnt hl hh nu lo hi i (by omega) (by omega)  ?_ (cnt - 0) 0 (by omega)
  show V κ 5 0 0 38 [(4, .int (nI cnt)), (2, .long (dsS lo hi i cnt)), (0, .ref e), (1, .int (nI i))] [] [(e, .inr (0, [.int (nI cnt), .ref e1, .ref e2, .ref e3, .long hl, .long hh])), (e1, .inl (κ.z 0, 6, .inl (aN nu))), (e2, .inl (κ.z 1, 6, .inr (.inl lo))), (e3, .inl (κ.z 1, 6, .inr (.inl hi)))]
  refine v_lload_n X 1 d_E_distances_38 rfl ?_
  exact v_lret X Y (by decide) (by decide) d_E_distances_39 ⟨rfl, rfl⟩

def frS (cnt : Nat) (lo : Nat → Int64) (hi : Nat → Int64) : Nat → Nat
  | 0 => 0
  | j + 1 => if (dsS lo hi (j + 1) cnt) < (dsS lo hi (frS cnt lo hi j) cnt) then (frS cnt lo hi j) else (j + 1)
theorem frS_le (cnt : Nat) (lo : Nat → Int64) (hi : Nat → Int64) : ∀ n : Nat, frS cnt lo hi n ≤ n
  | 0 => Nat.le_refl _
  | n + 1 => by
    have h9 := frS_le cnt lo hi n
    unfold frS
    try dsimp only
    repeat' split
    all_goals omega
set_option maxHeartbeats 4000000 in
set_option maxRecDepth 100000 in
theorem lp_far {κ : VC} (X : Cx κ b_E_farthest R_E { frames := 3, cells := 0, slots := 0, locals := 70 } 3) (e : Nat) (e1 : Nat) (e2 : Nat) (e3 : Nat) (cnt : Nat) (hl : Int64) (hh : Int64) (nu : Nat → Nat) (lo : Nat → Int64) (hi : Nat → Int64) (hc6 : cnt ≤ 6) (hc1 : 1 ≤ cnt)  (kk : V κ 3 0 0 34 [(2, .int (nI ((cnt - 1) + 1))), (1, .int (nI (frS cnt lo hi (cnt - 1)))), (0, .ref e)] [] [(e, .inr (0, [.int (nI cnt), .ref e1, .ref e2, .ref e3, .long hl, .long hh])), (e1, .inl (κ.z 0, 6, .inl (aN nu))), (e2, .inl (κ.z 1, 6, .inr (.inl lo))), (e3, .inl (κ.z 1, 6, .inr (.inl hi)))]) : ∀ (d9 j : Nat), j + d9 = cnt - 1 → V κ 3 0 0 4 [(2, .int (nI (j + 1))), (1, .int (nI (frS cnt lo hi j))), (0, .ref e)] [] [(e, .inr (0, [.int (nI cnt), .ref e1, .ref e2, .ref e3, .long hl, .long hh])), (e1, .inl (κ.z 0, 6, .inl (aN nu))), (e2, .inl (κ.z 1, 6, .inr (.inl lo))), (e3, .inl (κ.z 1, 6, .inr (.inl hi)))] := by
  intro d9
  induction d9 with
  | zero =>
    intro j hj 
    have e9 : j = cnt - 1 := by omega
    rw [e9]
    show V κ 3 0 0 4 [(2, .int (nI ((cnt - 1) + 1))), (1, .int (nI (frS cnt lo hi (cnt - 1)))), (0, .ref e)] [] [(e, .inr (0, [.int (nI cnt), .ref e1, .ref e2, .ref e3, .long hl, .long hh])), (e1, .inl (κ.z 0, 6, .inl (aN nu))), (e2, .inl (κ.z 1, 6, .inr (.inl lo))), (e3, .inl (κ.z 1, 6, .inr (.inl hi)))]
    refine v_iload_n X 0 d_E_farthest_4 rfl ?_
    refine v_aload_n X 2 d_E_farthest_5 rfl ?_
    refine v_get X 0 0 rfl rfl li_E (by decide) m105 rfl d_E_farthest_6 ?_
    refine v_icmpN_ge X 34 (a := ((cnt - 1) + 1)) (b := cnt) d_E_farthest_9 (by decide) (by omega) (by omega) (fun c9 => ?_) (fun c9 => by omega)
    exact kk
  | succ d9 ih =>
    intro j hj 
    have h8 := frS_le cnt lo hi j
    show V κ 3 0 0 4 [(2, .int (nI (j + 1))), (1, .int (nI (frS cnt lo hi j))), (0, .ref e)] [] [(e, .inr (0, [.int (nI cnt), .ref e1, .ref e2, .ref e3, .long hl, .long hh])), (e1, .inl (κ.z 0, 6, .inl (aN nu))), (e2, .inl (κ.z 1, 6, .inr (.inl lo))), (e3, .inl (κ.z 1, 6, .inr (.inl hi)))]
    refine v_iload_n X 0 d_E_farthest_4 rfl ?_
    refine v_aload_n X 2 d_E_farthest_5 rfl ?_
    refine v_get X 0 0 rfl rfl li_E (by decide) m105 rfl d_E_farthest_6 ?_
    refine v_icmpN_ge X 34 (a := (j + 1)) (b := cnt) d_E_farthest_9 (by decide) (by omega) (by omega) (fun c9 => by omega) (fun c9 => ?_)
    refine v_aload_n X 2 d_E_farthest_12 rfl ?_
    refine v_iload_n X 0 d_E_farthest_13 rfl ?_
    refine v_callV X (b := e) (n9 := 1) (As := [.int (nI (j + 1))]) (rest := []) (wc := [(e, .inr (0, [.int (nI cnt), .ref e1, .ref e2, .ref e3, .long hl, .long hh])), (e1, .inl (κ.z 0, 6, .inl (aN nu))), (e2, .inl (κ.z 1, 6, .inr (.inl lo))), (e3, .inl (κ.z 1, 6, .inr (.inl hi)))]) (wr := []) (c_E_distances κ.l κ.D κ.z e e1 e2 e3 cnt hl hh nu lo hi (j + 1) (by omega) (by omega)) 0 rfl rfl m316 m317 m9 m34 (by decide +kernel) rfl (Nat.le_of_ble_eq_true rfl) ⟨by decide, by decide⟩ ⟨by decide, by decide⟩ rfl rfl m318 d_E_farthest_14 (fun v w1 hg => ?_)
    obtain ⟨rfl, rfl⟩ := hg
    show V κ 3 0 0 17 [(2, .int (nI (j + 1))), (1, .int (nI (frS cnt lo hi j))), (0, .ref e)] [.long (dsS lo hi (j + 1) cnt)] [(e, .inr (0, [.int (nI cnt), .ref e1, .ref e2, .ref e3, .long hl, .long hh])), (e1, .inl (κ.z 0, 6, .inl (aN nu))), (e2, .inl (κ.z 1, 6, .inr (.inl lo))), (e3, .inl (κ.z 1, 6, .inr (.inl hi)))]
    refine v_aload_n X 2 d_E_farthest_17 rfl ?_
    refine v_iload_n X 1 d_E_farthest_18 rfl ?_
    refine v_callV X (b := e) (n9 := 1) (As := [.int (nI (frS cnt lo hi j))]) (rest := [.long (dsS lo hi (j + 1) cnt)]) (wc := [(e, .inr (0, [.int (nI cnt), .ref e1, .ref e2, .ref e3, .long hl, .long hh])), (e1, .inl (κ.z 0, 6, .inl (aN nu))), (e2, .inl (κ.z 1, 6, .inr (.inl lo))), (e3, .inl (κ.z 1, 6, .inr (.inl hi)))]) (wr := []) (c_E_distances κ.l κ.D κ.z e e1 e2 e3 cnt hl hh nu lo hi (frS cnt lo hi j) (by omega) (by omega)) 0 rfl rfl m316 m317 m9 m34 (by decide +kernel) rfl (Nat.le_of_ble_eq_true rfl) ⟨by decide, by decide⟩ ⟨by decide, by decide⟩ rfl rfl m318 d_E_farthest_19 (fun v w1 hg => ?_)
    obtain ⟨rfl, rfl⟩ := hg
    show V κ 3 0 0 22 [(2, .int (nI (j + 1))), (1, .int (nI (frS cnt lo hi j))), (0, .ref e)] [.long (dsS lo hi (frS cnt lo hi j) cnt), .long (dsS lo hi (j + 1) cnt)] [(e, .inr (0, [.int (nI cnt), .ref e1, .ref e2, .ref e3, .long hl, .long hh])), (e1, .inl (κ.z 0, 6, .inl (aN nu))), (e2, .inl (κ.z 1, 6, .inr (.inl lo))), (e3, .inl (κ.z 1, 6, .inr (.inl hi)))]
    suffices hm22 : V κ 3 0 0 28 [(2, .int (nI (j + 1))), (1, .int (nI (if (dsS lo hi (j + 1) cnt) < (dsS lo hi (frS cnt lo hi j) cnt) then (frS cnt lo hi j) else (j + 1)))), (0, .ref e)] [] [(e, .inr (0, [.int (nI cnt), .ref e1, .ref e2, .ref e3, .long hl, .long hh])), (e1, .inl (κ.z 0, 6, .inl (aN nu))), (e2, .inl (κ.z 1, 6, .inr (.inl lo))), (e3, .inl (κ.z 1, 6, .inr (.inl hi)))] by
      refine v_lcmp_lt X 28 d_E_farthest_22 d_E_farthest_23 (by decide) (fun c22 => ?_) (fun c22 => ?_)
      · skip
        have h9 := hm22; simp only [if_pos c22] at h9; first | exact h9 | (simp only [if_pos c22]; exact h9)
      · skip
        refine v_iload_n X 0 d_E_farthest_26 rfl ?_
        refine v_istore_n X d_E_farthest_27 rfl (by decide) (lv' := [(1, .int (nI (j + 1))), (2, .int (nI (j + 1))), (0, .ref e)]) rfl ?_
        refine v_lv [1, 0, 2] rfl ?_
        have h9 := hm22; simp only [if_neg c22] at h9; first | exact h9 | (simp only [if_neg c22]; exact h9)
    refine v_iinc X 0 d_E_farthest_28 (x := nI (j + 1)) rfl (v := nI ((j + 1) + 1)) (nI_1 _) (by decide) (lv' := [(2, .int (nI ((j + 1) + 1))), (1, .int (nI (if (dsS lo hi (j + 1) cnt) < (dsS lo hi (frS cnt lo hi j) cnt) then (frS cnt lo hi j) else (j + 1)))), (0, .ref e)]) rfl ?_
    refine v_goto X 4 d_E_farthest_31 (by decide) ?_
    exact v_eq rfl (by rfl) rfl (by rfl) (ih (j + 1) (by omega))

set_option maxHeartbeats 4000000 in
set_option maxRecDepth 100000 in
theorem c_E_farthest (l : Launch) (D : va_G) (z : Nat → ClassId) (e : Nat) (e1 : Nat) (e2 : Nat) (e3 : Nat) (cnt : Nat) (hl : Int64) (hh : Int64) (nu : Nat → Nat) (lo : Nat → Int64) (hi : Nat → Int64) (hc6 : cnt ≤ 6) (hc1 : 1 ≤ cnt) : Ctr l D z y_E_farthest b_E_farthest 3 (some .int) { frames := 3, cells := 0, slots := 0, locals := 70 } [.ref e] [(e, .inr (0, [.int (nI cnt), .ref e1, .ref e2, .ref e3, .long hl, .long hh])), (e1, .inl (z 0, 6, .inl (aN nu))), (e2, .inl (z 1, 6, .inr (.inl lo))), (e3, .inl (z 1, 6, .inr (.inl hi)))] (fun v w => v = some (.int (nI (frS cnt lo hi (cnt - 1)))) ∧ w = [(e, .inr (0, [.int (nI cnt), .ref e1, .ref e2, .ref e3, .long hl, .long hh])), (e1, .inl (z 0, 6, .inl (aN nu))), (e2, .inl (z 1, 6, .inr (.inl lo))), (e3, .inl (z 1, 6, .inr (.inl hi)))]) 0 0 := by
  refine met_V (own := R_E) (nm := "farthest") (by decide +kernel) rfl rfl (Nat.le_of_ble_eq_true rfl) ?_
  intro κ hl hD hz X Y
  subst hl
  subst hD
  subst hz
  show V κ 3 0 0 0 [(0, .ref e)] [] [(e, .inr (0, [.int (nI cnt), .ref e1, .ref e2, .ref e3, .long hl, .long hh])), (e1, .inl (κ.z 0, 6, .inl (aN nu))), (e2, .inl (κ.z 1, 6, .inr (.inl lo))), (e3, .inl (κ.z 1, 6, .inr (.inl hi)))]
  refine v_iconst X 0 d_E_farthest_0 (by decide) ?_
  refine v_istore_n X d_E_farthest_1 rfl (by decide) (lv' := [(1, .int 0), (0, .ref e)]) rfl ?_
  refine v_iconst X 1 d_E_farthest_2 (by decide) ?_
  refine v_istore_n X d_E_farthest_3 rfl (by decide) (lv' := [(2, .int 1), (1, .int 0), (0, .ref e)]) rfl ?_
  show V κ 3 0 0 4 [(2, .int (nI (0 + 1))), (1, .int (nI (frS cnt lo hi 0))), (0, .ref e)] [] [(e, .inr (0, [.int (nI cnt), .ref e1, .ref e2, .ref e3, .long hl, .long hh])), (e1, .inl (κ.z 0, 6, .inl (aN nu))), (e2, .inl (κ.z 1, 6, .inr (.inl lo))), (e3, .inl (κ.z 1, 6, .inr (.inl hi)))]
  refine lp_far X e e1 e2 e3 cnt hl hh nu lo hi (by omega) (by omega)  ?_ ((cnt - 1) - 0) 0 (by omega)
  show V κ 3 0 0 34 [(2, .int (nI ((cnt - 1) + 1))), (1, .int (nI (frS cnt lo hi (cnt - 1)))), (0, .ref e)] [] [(e, .inr (0, [.int (nI cnt), .ref e1, .ref e2, .ref e3, .long hl, .long hh])), (e1, .inl (κ.z 0, 6, .inl (aN nu))), (e2, .inl (κ.z 1, 6, .inr (.inl lo))), (e3, .inl (κ.z 1, 6, .inr (.inl hi)))]
  refine v_iload_n X 1 d_E_farthest_34 rfl ?_
  exact v_iret X Y (by decide) (by decide) d_E_farthest_35 ⟨rfl, rfl⟩

def rmS (nu : Nat → Nat) (lo : Nat → Int64) (hi : Nat → Int64) (p : Nat) : Nat → (Nat → Nat) × (Nat → Int64) × (Nat → Int64)
  | 0 => (nu, lo, hi)
  | j + 1 => (va_up ((rmS nu lo hi p j).1) ((p + 1 + j) - 1) (((rmS nu lo hi p j).1) (p + 1 + j)), vp_updL ((rmS nu lo hi p j).2.1) ((p + 1 + j) - 1) (((rmS nu lo hi p j).2.1) (p + 1 + j)), vp_updL ((rmS nu lo hi p j).2.2) ((p + 1 + j) - 1) (((rmS nu lo hi p j).2.2) (p + 1 + j)))
set_option maxHeartbeats 4000000 in
set_option maxRecDepth 100000 in
theorem lp_remove {κ : VC} (X : Cx κ b_E_remove R_E { frames := 1, cells := 0, slots := 0, locals := 26 } 3) (e : Nat) (e1 : Nat) (e2 : Nat) (e3 : Nat) (cnt : Nat) (hl : Int64) (hh : Int64) (nu : Nat → Nat) (lo : Nat → Int64) (hi : Nat → Int64) (p : Nat) (hc6 : cnt ≤ 6) (hp9 : p < cnt)  (kk : V κ 3 0 0 43 [(2, .int (nI (p + 1 + (cnt - (p + 1))))), (0, .ref e), (1, .int (nI p))] [] [(e, .inr (0, [.int (nI cnt), .ref e1, .ref e2, .ref e3, .long hl, .long hh])), (e1, .inl (κ.z 0, 6, .inl (aN ((rmS nu lo hi p (cnt - (p + 1))).1)))), (e2, .inl (κ.z 1, 6, .inr (.inl ((rmS nu lo hi p (cnt - (p + 1))).2.1)))), (e3, .inl (κ.z 1, 6, .inr (.inl ((rmS nu lo hi p (cnt - (p + 1))).2.2))))]) : ∀ (d9 j : Nat), j + d9 = cnt - (p + 1) → V κ 3 0 0 4 [(2, .int (nI (p + 1 + j))), (0, .ref e), (1, .int (nI p))] [] [(e, .inr (0, [.int (nI cnt), .ref e1, .ref e2, .ref e3, .long hl, .long hh])), (e1, .inl (κ.z 0, 6, .inl (aN ((rmS nu lo hi p j).1)))), (e2, .inl (κ.z 1, 6, .inr (.inl ((rmS nu lo hi p j).2.1)))), (e3, .inl (κ.z 1, 6, .inr (.inl ((rmS nu lo hi p j).2.2))))] := by
  intro d9
  induction d9 with
  | zero =>
    intro j hj 
    have e9 : j = cnt - (p + 1) := by omega
    rw [e9]
    show V κ 3 0 0 4 [(2, .int (nI (p + 1 + (cnt - (p + 1))))), (0, .ref e), (1, .int (nI p))] [] [(e, .inr (0, [.int (nI cnt), .ref e1, .ref e2, .ref e3, .long hl, .long hh])), (e1, .inl (κ.z 0, 6, .inl (aN ((rmS nu lo hi p (cnt - (p + 1))).1)))), (e2, .inl (κ.z 1, 6, .inr (.inl ((rmS nu lo hi p (cnt - (p + 1))).2.1)))), (e3, .inl (κ.z 1, 6, .inr (.inl ((rmS nu lo hi p (cnt - (p + 1))).2.2))))]
    refine v_iload_n X 0 d_E_remove_4 rfl ?_
    refine v_aload_n X 1 d_E_remove_5 rfl ?_
    refine v_get X 0 0 rfl rfl li_E (by decide) m105 rfl d_E_remove_6 ?_
    refine v_icmpN_ge X 43 (a := (p + 1 + (cnt - (p + 1)))) (b := cnt) d_E_remove_9 (by decide) (by omega) (by omega) (fun c9 => ?_) (fun c9 => by omega)
    exact kk
  | succ d9 ih =>
    intro j hj 
    show V κ 3 0 0 4 [(2, .int (nI (p + 1 + j))), (0, .ref e), (1, .int (nI p))] [] [(e, .inr (0, [.int (nI cnt), .ref e1, .ref e2, .ref e3, .long hl, .long hh])), (e1, .inl (κ.z 0, 6, .inl (aN ((rmS nu lo hi p j).1)))), (e2, .inl (κ.z 1, 6, .inr (.inl ((rmS nu lo hi p j).2.1)))), (e3, .inl (κ.z 1, 6, .inr (.inl ((rmS nu lo hi p j).2.2))))]
    refine v_iload_n X 0 d_E_remove_4 rfl ?_
    refine v_aload_n X 1 d_E_remove_5 rfl ?_
    refine v_get X 0 0 rfl rfl li_E (by decide) m105 rfl d_E_remove_6 ?_
    refine v_icmpN_ge X 43 (a := (p + 1 + j)) (b := cnt) d_E_remove_9 (by decide) (by omega) (by omega) (fun c9 => by omega) (fun c9 => ?_)
    refine v_aload_n X 1 d_E_remove_12 rfl ?_
    refine v_iload_n X 0 d_E_remove_13 rfl ?_
    refine v_iconst X 1 d_E_remove_14 (by decide) ?_
    refine v_isubN X (a := (p + 1 + j)) (b := 1) d_E_remove_15 (by omega) ?_
    refine v_aload_n X 1 d_E_remove_16 rfl ?_
    refine v_get X 0 1 rfl rfl li_E (by decide) m107 rfl d_E_remove_17 ?_
    refine v_iload_n X 0 d_E_remove_20 rfl ?_
    refine v_naldN X 1 0 (j := (p + 1 + j)) rfl rfl (by omega) (by omega) d_E_remove_21 ?_
    refine v_aload_n X 1 d_E_remove_22 rfl ?_
    refine v_get X 0 2 rfl rfl li_E (by decide) m109 rfl d_E_remove_23 ?_
    show V κ 3 0 0 26 [(2, .int (nI (p + 1 + j))), (0, .ref e), (1, .int (nI p))] [.ref e2, .int (nI (((rmS nu lo hi p j).1) (p + 1 + j))), .int (nI ((p + 1 + j) - 1)), .ref e] [(e, .inr (0, [.int (nI cnt), .ref e1, .ref e2, .ref e3, .long hl, .long hh])), (e1, .inl (κ.z 0, 6, .inl (aN ((rmS nu lo hi p j).1)))), (e2, .inl (κ.z 1, 6, .inr (.inl ((rmS nu lo hi p j).2.1)))), (e3, .inl (κ.z 1, 6, .inr (.inl ((rmS nu lo hi p j).2.2))))]
    refine v_iload_n X 0 d_E_remove_26 rfl ?_
    refine v_laldN X 2 1 (j := (p + 1 + j)) rfl rfl (by omega) (by omega) d_E_remove_27 ?_
    refine v_aload_n X 1 d_E_remove_28 rfl ?_
    refine v_get X 0 3 rfl rfl li_E (by decide) m110 rfl d_E_remove_29 ?_
    refine v_iload_n X 0 d_E_remove_32 rfl ?_
    refine v_laldN X 3 1 (j := (p + 1 + j)) rfl rfl (by omega) (by omega) d_E_remove_33 ?_
    refine v_callV X (b := e) (n9 := 4) (As := [.int (nI ((p + 1 + j) - 1)), .int (nI (((rmS nu lo hi p j).1) (p + 1 + j))), .long (((rmS nu lo hi p j).2.1) (p + 1 + j)), .long (((rmS nu lo hi p j).2.2) (p + 1 + j))]) (rest := []) (wc := [(e, .inr (0, [.int (nI cnt), .ref e1, .ref e2, .ref e3, .long hl, .long hh])), (e1, .inl (κ.z 0, 6, .inl (aN ((rmS nu lo hi p j).1)))), (e2, .inl (κ.z 1, 6, .inr (.inl ((rmS nu lo hi p j).2.1)))), (e3, .inl (κ.z 1, 6, .inr (.inl ((rmS nu lo hi p j).2.2))))]) (wr := []) (c_E_put κ.l κ.D κ.z e e1 e2 e3 cnt hl hh ((rmS nu lo hi p j).1) ((rmS nu lo hi p j).2.1) ((rmS nu lo hi p j).2.2) ((p + 1 + j) - 1) (((rmS nu lo hi p j).1) (p + 1 + j)) (((rmS nu lo hi p j).2.1) (p + 1 + j)) (((rmS nu lo hi p j).2.2) (p + 1 + j)) (by omega)) 0 rfl rfl m286 m287 m5 m34 (by decide +kernel) rfl (Nat.le_of_ble_eq_true rfl) ⟨by decide, by decide⟩ ⟨by decide, by decide⟩ rfl rfl m288 d_E_remove_34 (fun v w1 hg => ?_)
    obtain ⟨rfl, rfl⟩ := hg
    show V κ 3 0 0 37 [(2, .int (nI (p + 1 + j))), (0, .ref e), (1, .int (nI p))] [] [(e, .inr (0, [.int (nI cnt), .ref e1, .ref e2, .ref e3, .long hl, .long hh])), (e1, .inl (κ.z 0, 6, .inl (aN (va_up ((rmS nu lo hi p j).1) ((p + 1 + j) - 1) (((rmS nu lo hi p j).1) (p + 1 + j)))))), (e2, .inl (κ.z 1, 6, .inr (.inl (vp_updL ((rmS nu lo hi p j).2.1) ((p + 1 + j) - 1) (((rmS nu lo hi p j).2.1) (p + 1 + j)))))), (e3, .inl (κ.z 1, 6, .inr (.inl (vp_updL ((rmS nu lo hi p j).2.2) ((p + 1 + j) - 1) (((rmS nu lo hi p j).2.2) (p + 1 + j))))))]
    refine v_iinc X 0 d_E_remove_37 (x := nI (p + 1 + j)) rfl (v := nI ((p + 1 + j) + 1)) (nI_1 _) (by decide) (lv' := [(2, .int (nI ((p + 1 + j) + 1))), (0, .ref e), (1, .int (nI p))]) rfl ?_
    refine v_goto X 4 d_E_remove_40 (by decide) ?_
    exact v_eq rfl (by rfl) rfl (by rfl) (ih (j + 1) (by omega))

set_option maxHeartbeats 4000000 in
set_option maxRecDepth 100000 in
theorem c_E_remove (l : Launch) (D : va_G) (z : Nat → ClassId) (e : Nat) (e1 : Nat) (e2 : Nat) (e3 : Nat) (cnt : Nat) (hl : Int64) (hh : Int64) (nu : Nat → Nat) (lo : Nat → Int64) (hi : Nat → Int64) (p : Nat) (hc6 : cnt ≤ 6) (hp9 : p < cnt) : Ctr l D z y_E_remove b_E_remove 3 none { frames := 1, cells := 0, slots := 0, locals := 26 } [.ref e, .int (nI p)] [(e, .inr (0, [.int (nI cnt), .ref e1, .ref e2, .ref e3, .long hl, .long hh])), (e1, .inl (z 0, 6, .inl (aN nu))), (e2, .inl (z 1, 6, .inr (.inl lo))), (e3, .inl (z 1, 6, .inr (.inl hi)))] (fun v w => v = none ∧ w = [(e, .inr (0, [.int (nI (cnt - 1)), .ref e1, .ref e2, .ref e3, .long hl, .long hh])), (e1, .inl (z 0, 6, .inl (aN ((rmS nu lo hi p (cnt - (p + 1))).1)))), (e2, .inl (z 1, 6, .inr (.inl ((rmS nu lo hi p (cnt - (p + 1))).2.1)))), (e3, .inl (z 1, 6, .inr (.inl ((rmS nu lo hi p (cnt - (p + 1))).2.2))))]) 0 0 := by
  refine met_V (own := R_E) (nm := "remove") (by decide +kernel) rfl rfl (Nat.le_of_ble_eq_true rfl) ?_
  intro κ hl hD hz X Y
  subst hl
  subst hD
  subst hz
  show V κ 3 0 0 0 [(0, .ref e), (1, .int (nI p))] [] [(e, .inr (0, [.int (nI cnt), .ref e1, .ref e2, .ref e3, .long hl, .long hh])), (e1, .inl (κ.z 0, 6, .inl (aN nu))), (e2, .inl (κ.z 1, 6, .inr (.inl lo))), (e3, .inl (κ.z 1, 6, .inr (.inl hi)))]
  refine v_iload_n X 1 d_E_remove_0 rfl ?_
  refine v_iconst X 1 d_E_remove_1 (by decide) ?_
  refine v_iaddN X (a := p) (b := 1) d_E_remove_2 ?_
  refine v_istore_n X d_E_remove_3 rfl (by decide) (lv' := [(2, .int (nI (p + 1))), (0, .ref e), (1, .int (nI p))]) rfl ?_
  show V κ 3 0 0 4 [(2, .int (nI (p + 1 + 0))), (0, .ref e), (1, .int (nI p))] [] [(e, .inr (0, [.int (nI cnt), .ref e1, .ref e2, .ref e3, .long hl, .long hh])), (e1, .inl (κ.z 0, 6, .inl (aN ((rmS nu lo hi p 0).1)))), (e2, .inl (κ.z 1, 6, .inr (.inl ((rmS nu lo hi p 0).2.1)))), (e3, .inl (κ.z 1, 6, .inr (.inl ((rmS nu lo hi p 0).2.2))))]
  refine lp_remove X e e1 e2 e3 cnt hl hh nu lo hi p (by omega) (by omega)  ?_ ((cnt - (p + 1)) - 0) 0 (by omega)
  show V κ 3 0 0 43 [(2, .int (nI (p + 1 + (cnt - (p + 1))))), (0, .ref e), (1, .int (nI p))] [] [(e, .inr (0, [.int (nI cnt), .ref e1, .ref e2, .ref e3, .long hl, .long hh])), (e1, .inl (κ.z 0, 6, .inl (aN ((rmS nu lo hi p (cnt - (p + 1))).1)))), (e2, .inl (κ.z 1, 6, .inr (.inl ((rmS nu lo hi p (cnt - (p + 1))).2.1)))), (e3, .inl (κ.z 1, 6, .inr (.inl ((rmS nu lo hi p (cnt - (p + 1))).2.2))))]
  refine v_aload_n X 1 d_E_remove_43 rfl ?_
  refine v_dup X d_E_remove_44 rfl ?_
  refine v_get X 0 0 rfl rfl li_E (by decide) m105 rfl d_E_remove_45 ?_
  refine v_iconst X 1 d_E_remove_48 (by decide) ?_
  refine v_isubN X (a := cnt) (b := 1) d_E_remove_49 (by omega) ?_
  refine v_put X 0 0 (v := .int (nI (cnt - 1))) (ty := .int) ty_E tk_E n_E rfl rfl li_E (by decide) m105 rfl (by decide +kernel) rfl rfl (Nat.le_of_ble_eq_true rfl) d_E_remove_50 (ws' := [(e, .inr (0, [.int (nI (cnt - 1)), .ref e1, .ref e2, .ref e3, .long hl, .long hh])), (e1, .inl (κ.z 0, 6, .inl (aN ((rmS nu lo hi p (cnt - (p + 1))).1)))), (e2, .inl (κ.z 1, 6, .inr (.inl ((rmS nu lo hi p (cnt - (p + 1))).2.1)))), (e3, .inl (κ.z 1, 6, .inr (.inl ((rmS nu lo hi p (cnt - (p + 1))).2.2))))]) rfl ?_
  exact v_vret X Y (by decide) (by decide) d_E_remove_53 ⟨rfl, rfl⟩

def clS (cnt : Nat) (nu : Nat → Nat) (lo : Nat → Int64) (hi : Nat → Int64) : Nat → (Nat → Nat) × (Nat → Int64) × (Nat → Int64)
  | 0 => (nu, lo, hi)
  | j + 1 => ((rmS ((clS cnt nu lo hi j).1) ((clS cnt nu lo hi j).2.1) ((clS cnt nu lo hi j).2.2) (frS (cnt - j) ((clS cnt nu lo hi j).2.1) ((clS cnt nu lo hi j).2.2) ((cnt - j) - 1)) ((cnt - j) - ((frS (cnt - j) ((clS cnt nu lo hi j).2.1) ((clS cnt nu lo hi j).2.2) ((cnt - j) - 1)) + 1))).1, (rmS ((clS cnt nu lo hi j).1) ((clS cnt nu lo hi j).2.1) ((clS cnt nu lo hi j).2.2) (frS (cnt - j) ((clS cnt nu lo hi j).2.1) ((clS cnt nu lo hi j).2.2) ((cnt - j) - 1)) ((cnt - j) - ((frS (cnt - j) ((clS cnt nu lo hi j).2.1) ((clS cnt nu lo hi j).2.2) ((cnt - j) - 1)) + 1))).2.1, (rmS ((clS cnt nu lo hi j).1) ((clS cnt nu lo hi j).2.1) ((clS cnt nu lo hi j).2.2) (frS (cnt - j) ((clS cnt nu lo hi j).2.1) ((clS cnt nu lo hi j).2.2) ((cnt - j) - 1)) ((cnt - j) - ((frS (cnt - j) ((clS cnt nu lo hi j).2.1) ((clS cnt nu lo hi j).2.2) ((cnt - j) - 1)) + 1))).2.2)
set_option maxHeartbeats 4000000 in
set_option maxRecDepth 100000 in
theorem lp_close {κ : VC} (X : Cx κ b_E_keepTheClosest R_E { frames := 4, cells := 0, slots := 0, locals := 92 } 2) (e : Nat) (e1 : Nat) (e2 : Nat) (e3 : Nat) (cnt : Nat) (hl : Int64) (hh : Int64) (nu : Nat → Nat) (lo : Nat → Int64) (hi : Nat → Int64) (hc6 : cnt ≤ 6)  (kk : V κ 2 0 0 24 [(1, .int (nI (cnt - (cnt - 3)))), (0, .ref e)] [] [(e, .inr (0, [.int (nI (cnt - (cnt - 3))), .ref e1, .ref e2, .ref e3, .long hl, .long hh])), (e1, .inl (κ.z 0, 6, .inl (aN ((clS cnt nu lo hi (cnt - 3)).1)))), (e2, .inl (κ.z 1, 6, .inr (.inl ((clS cnt nu lo hi (cnt - 3)).2.1)))), (e3, .inl (κ.z 1, 6, .inr (.inl ((clS cnt nu lo hi (cnt - 3)).2.2))))]) : ∀ (d9 j : Nat), j + d9 = cnt - 3 → V κ 2 0 0 5 [(1, .int (nI (cnt - j))), (0, .ref e)] [] [(e, .inr (0, [.int (nI (cnt - j)), .ref e1, .ref e2, .ref e3, .long hl, .long hh])), (e1, .inl (κ.z 0, 6, .inl (aN ((clS cnt nu lo hi j).1)))), (e2, .inl (κ.z 1, 6, .inr (.inl ((clS cnt nu lo hi j).2.1)))), (e3, .inl (κ.z 1, 6, .inr (.inl ((clS cnt nu lo hi j).2.2))))] := by
  intro d9
  induction d9 with
  | zero =>
    intro j hj 
    have e9 : j = cnt - 3 := by omega
    rw [e9]
    show V κ 2 0 0 5 [(1, .int (nI (cnt - (cnt - 3)))), (0, .ref e)] [] [(e, .inr (0, [.int (nI (cnt - (cnt - 3))), .ref e1, .ref e2, .ref e3, .long hl, .long hh])), (e1, .inl (κ.z 0, 6, .inl (aN ((clS cnt nu lo hi (cnt - 3)).1)))), (e2, .inl (κ.z 1, 6, .inr (.inl ((clS cnt nu lo hi (cnt - 3)).2.1)))), (e3, .inl (κ.z 1, 6, .inr (.inl ((clS cnt nu lo hi (cnt - 3)).2.2))))]
    refine v_iload_n X 0 d_E_keepTheClosest_5 rfl ?_
    refine v_iconst X 3 d_E_keepTheClosest_6 (by decide) ?_
    refine v_icmpN_le X 24 (a := (cnt - (cnt - 3))) (b := 3) d_E_keepTheClosest_7 (by decide) (by omega) (by omega) (fun c7 => ?_) (fun c7 => by omega)
    exact kk
  | succ d9 ih =>
    intro j hj 
    show V κ 2 0 0 5 [(1, .int (nI (cnt - j))), (0, .ref e)] [] [(e, .inr (0, [.int (nI (cnt - j)), .ref e1, .ref e2, .ref e3, .long hl, .long hh])), (e1, .inl (κ.z 0, 6, .inl (aN ((clS cnt nu lo hi j).1)))), (e2, .inl (κ.z 1, 6, .inr (.inl ((clS cnt nu lo hi j).2.1)))), (e3, .inl (κ.z 1, 6, .inr (.inl ((clS cnt nu lo hi j).2.2))))]
    refine v_iload_n X 0 d_E_keepTheClosest_5 rfl ?_
    refine v_iconst X 3 d_E_keepTheClosest_6 (by decide) ?_
    refine v_icmpN_le X 24 (a := (cnt - j)) (b := 3) d_E_keepTheClosest_7 (by decide) (by omega) (by omega) (fun c7 => by omega) (fun c7 => ?_)
    refine v_aload_n X 1 d_E_keepTheClosest_10 rfl ?_
    refine v_aload_n X 1 d_E_keepTheClosest_11 rfl ?_
    refine v_callV X (b := e) (n9 := 0) (As := []) (rest := [.ref e]) (wc := [(e, .inr (0, [.int (nI (cnt - j)), .ref e1, .ref e2, .ref e3, .long hl, .long hh])), (e1, .inl (κ.z 0, 6, .inl (aN ((clS cnt nu lo hi j).1)))), (e2, .inl (κ.z 1, 6, .inr (.inl ((clS cnt nu lo hi j).2.1)))), (e3, .inl (κ.z 1, 6, .inr (.inl ((clS cnt nu lo hi j).2.2))))]) (wr := []) (c_E_farthest κ.l κ.D κ.z e e1 e2 e3 (cnt - j) hl hh ((clS cnt nu lo hi j).1) ((clS cnt nu lo hi j).2.1) ((clS cnt nu lo hi j).2.2) (by omega) (by omega)) 0 rfl rfl m313 m314 m8 m34 (by decide +kernel) rfl (Nat.le_of_ble_eq_true rfl) ⟨by decide, by decide⟩ ⟨by decide, by decide⟩ rfl rfl m315 d_E_keepTheClosest_12 (fun v w1 hg => ?_)
    obtain ⟨rfl, rfl⟩ := hg
    show V κ 2 0 0 15 [(1, .int (nI (cnt - j))), (0, .ref e)] [.int (nI (frS (cnt - j) ((clS cnt nu lo hi j).2.1) ((clS cnt nu lo hi j).2.2) ((cnt - j) - 1))), .ref e] [(e, .inr (0, [.int (nI (cnt - j)), .ref e1, .ref e2, .ref e3, .long hl, .long hh])), (e1, .inl (κ.z 0, 6, .inl (aN ((clS cnt nu lo hi j).1)))), (e2, .inl (κ.z 1, 6, .inr (.inl ((clS cnt nu lo hi j).2.1)))), (e3, .inl (κ.z 1, 6, .inr (.inl ((clS cnt nu lo hi j).2.2))))]
    refine v_callV X (b := e) (n9 := 1) (As := [.int (nI (frS (cnt - j) ((clS cnt nu lo hi j).2.1) ((clS cnt nu lo hi j).2.2) ((cnt - j) - 1)))]) (rest := []) (wc := [(e, .inr (0, [.int (nI (cnt - j)), .ref e1, .ref e2, .ref e3, .long hl, .long hh])), (e1, .inl (κ.z 0, 6, .inl (aN ((clS cnt nu lo hi j).1)))), (e2, .inl (κ.z 1, 6, .inr (.inl ((clS cnt nu lo hi j).2.1)))), (e3, .inl (κ.z 1, 6, .inr (.inl ((clS cnt nu lo hi j).2.2))))]) (wr := []) (c_E_remove κ.l κ.D κ.z e e1 e2 e3 (cnt - j) hl hh ((clS cnt nu lo hi j).1) ((clS cnt nu lo hi j).2.1) ((clS cnt nu lo hi j).2.2) (frS (cnt - j) ((clS cnt nu lo hi j).2.1) ((clS cnt nu lo hi j).2.2) ((cnt - j) - 1)) (by omega) (by have h9 := frS_le (cnt - j) ((clS cnt nu lo hi j).2.1) ((clS cnt nu lo hi j).2.2) (cnt - j - 1); omega)) 0 rfl rfl m327 m328 m11 m34 (by decide +kernel) rfl (Nat.le_of_ble_eq_true rfl) ⟨by decide, by decide⟩ ⟨by decide, by decide⟩ rfl rfl m329 d_E_keepTheClosest_15 (fun v w1 hg => ?_)
    obtain ⟨rfl, rfl⟩ := hg
    show V κ 2 0 0 18 [(1, .int (nI (cnt - j))), (0, .ref e)] [] [(e, .inr (0, [.int (nI ((cnt - j) - 1)), .ref e1, .ref e2, .ref e3, .long hl, .long hh])), (e1, .inl (κ.z 0, 6, .inl (aN ((rmS ((clS cnt nu lo hi j).1) ((clS cnt nu lo hi j).2.1) ((clS cnt nu lo hi j).2.2) (frS (cnt - j) ((clS cnt nu lo hi j).2.1) ((clS cnt nu lo hi j).2.2) ((cnt - j) - 1)) ((cnt - j) - ((frS (cnt - j) ((clS cnt nu lo hi j).2.1) ((clS cnt nu lo hi j).2.2) ((cnt - j) - 1)) + 1))).1)))), (e2, .inl (κ.z 1, 6, .inr (.inl ((rmS ((clS cnt nu lo hi j).1) ((clS cnt nu lo hi j).2.1) ((clS cnt nu lo hi j).2.2) (frS (cnt - j) ((clS cnt nu lo hi j).2.1) ((clS cnt nu lo hi j).2.2) ((cnt - j) - 1)) ((cnt - j) - ((frS (cnt - j) ((clS cnt nu lo hi j).2.1) ((clS cnt nu lo hi j).2.2) ((cnt - j) - 1)) + 1))).2.1)))), (e3, .inl (κ.z 1, 6, .inr (.inl ((rmS ((clS cnt nu lo hi j).1) ((clS cnt nu lo hi j).2.1) ((clS cnt nu lo hi j).2.2) (frS (cnt - j) ((clS cnt nu lo hi j).2.1) ((clS cnt nu lo hi j).2.2) ((cnt - j) - 1)) ((cnt - j) - ((frS (cnt - j) ((clS cnt nu lo hi j).2.1) ((clS cnt nu lo hi j).2.2) ((cnt - j) - 1)) + 1))).2.2))))]
    refine v_iinc X 0 d_E_keepTheClosest_18 (x := nI (cnt - j)) rfl (v := nI ((cnt - j) - 1)) (nI_m1 (by omega)) (by decide) (lv' := [(1, .int (nI ((cnt - j) - 1))), (0, .ref e)]) rfl ?_
    refine v_goto X 5 d_E_keepTheClosest_21 (by decide) ?_
    exact v_eq rfl (by rfl) rfl (by rfl) (ih (j + 1) (by omega))

set_option maxHeartbeats 4000000 in
set_option maxRecDepth 100000 in
theorem c_E_keepTheClosest (l : Launch) (D : va_G) (z : Nat → ClassId) (e : Nat) (e1 : Nat) (e2 : Nat) (e3 : Nat) (cnt : Nat) (hl : Int64) (hh : Int64) (nu : Nat → Nat) (lo : Nat → Int64) (hi : Nat → Int64) (hc6 : cnt ≤ 6) : Ctr l D z y_E_keepTheClosest b_E_keepTheClosest 2 none { frames := 4, cells := 0, slots := 0, locals := 92 } [.ref e] [(e, .inr (0, [.int (nI cnt), .ref e1, .ref e2, .ref e3, .long hl, .long hh])), (e1, .inl (z 0, 6, .inl (aN nu))), (e2, .inl (z 1, 6, .inr (.inl lo))), (e3, .inl (z 1, 6, .inr (.inl hi)))] (fun v w => v = none ∧ w = [(e, .inr (0, [.int (nI (cnt - (cnt - 3))), .ref e1, .ref e2, .ref e3, .long hl, .long hh])), (e1, .inl (z 0, 6, .inl (aN ((clS cnt nu lo hi (cnt - 3)).1)))), (e2, .inl (z 1, 6, .inr (.inl ((clS cnt nu lo hi (cnt - 3)).2.1)))), (e3, .inl (z 1, 6, .inr (.inl ((clS cnt nu lo hi (cnt - 3)).2.2))))]) 0 0 := by
  refine met_V (own := R_E) (nm := "keepTheClosest") (by decide +kernel) rfl rfl (Nat.le_of_ble_eq_true rfl) ?_
  intro κ hl hD hz X Y
  subst hl
  subst hD
  subst hz
  show V κ 2 0 0 0 [(0, .ref e)] [] [(e, .inr (0, [.int (nI cnt), .ref e1, .ref e2, .ref e3, .long hl, .long hh])), (e1, .inl (κ.z 0, 6, .inl (aN nu))), (e2, .inl (κ.z 1, 6, .inr (.inl lo))), (e3, .inl (κ.z 1, 6, .inr (.inl hi)))]
  refine v_aload_n X 0 d_E_keepTheClosest_0 rfl ?_
  refine v_get X 0 0 rfl rfl li_E (by decide) m105 rfl d_E_keepTheClosest_1 ?_
  refine v_istore_n X d_E_keepTheClosest_4 rfl (by decide) (lv' := [(1, .int (nI cnt)), (0, .ref e)]) rfl ?_
  show V κ 2 0 0 5 [(1, .int (nI (cnt - 0))), (0, .ref e)] [] [(e, .inr (0, [.int (nI (cnt - 0)), .ref e1, .ref e2, .ref e3, .long hl, .long hh])), (e1, .inl (κ.z 0, 6, .inl (aN ((clS cnt nu lo hi 0).1)))), (e2, .inl (κ.z 1, 6, .inr (.inl ((clS cnt nu lo hi 0).2.1)))), (e3, .inl (κ.z 1, 6, .inr (.inl ((clS cnt nu lo hi 0).2.2))))]
  refine lp_close X e e1 e2 e3 cnt hl hh nu lo hi (by omega)  ?_ ((cnt - 3) - 0) 0 (by omega)
  show V κ 2 0 0 24 [(1, .int (nI (cnt - (cnt - 3)))), (0, .ref e)] [] [(e, .inr (0, [.int (nI (cnt - (cnt - 3))), .ref e1, .ref e2, .ref e3, .long hl, .long hh])), (e1, .inl (κ.z 0, 6, .inl (aN ((clS cnt nu lo hi (cnt - 3)).1)))), (e2, .inl (κ.z 1, 6, .inr (.inl ((clS cnt nu lo hi (cnt - 3)).2.1)))), (e3, .inl (κ.z 1, 6, .inr (.inl ((clS cnt nu lo hi (cnt - 3)).2.2))))]
  exact v_vret X Y (by decide) (by decide) d_E_keepTheClosest_24 ⟨rfl, rfl⟩

def tgS (lo : Nat → Int64) (hi : Nat → Int64) : Nat → Int64
  | 0 => 0
  | j + 1 => (tgS lo hi j) + (f_J_floorDiv ((lo j) + (hi j)) 2)
theorem nI_lne {c : Nat} (h : ¬ c = 0) (hc : c < 2 ^ 31) : ¬ (nI c).toInt64 = 0 := by
  rw [nI_l hc]
  intro q
  exact h ((lN_eq hc (b := 0) (by decide)).mp q)
set_option maxHeartbeats 4000000 in
set_option maxRecDepth 100000 in
theorem lp_target {κ : VC} (X : Cx κ b_E_target R_E { frames := 2, cells := 0, slots := 0, locals := 46 } 5) (e : Nat) (e1 : Nat) (e2 : Nat) (e3 : Nat) (cnt : Nat) (hl : Int64) (hh : Int64) (nu : Nat → Nat) (lo : Nat → Int64) (hi : Nat → Int64) (hc6 : cnt ≤ 6)  (kk : V κ 5 0 0 26 [(3, .int (nI cnt)), (1, .long (tgS lo hi cnt)), (0, .ref e)] [] [(e, .inr (0, [.int (nI cnt), .ref e1, .ref e2, .ref e3, .long hl, .long hh])), (e1, .inl (κ.z 0, 6, .inl (aN nu))), (e2, .inl (κ.z 1, 6, .inr (.inl lo))), (e3, .inl (κ.z 1, 6, .inr (.inl hi)))]) : ∀ (d9 j : Nat), j + d9 = cnt → V κ 5 0 0 4 [(3, .int (nI j)), (1, .long (tgS lo hi j)), (0, .ref e)] [] [(e, .inr (0, [.int (nI cnt), .ref e1, .ref e2, .ref e3, .long hl, .long hh])), (e1, .inl (κ.z 0, 6, .inl (aN nu))), (e2, .inl (κ.z 1, 6, .inr (.inl lo))), (e3, .inl (κ.z 1, 6, .inr (.inl hi)))] := by
  intro d9
  induction d9 with
  | zero =>
    intro j hj 
    have e9 : j = cnt := by omega
    rw [e9]
    show V κ 5 0 0 4 [(3, .int (nI cnt)), (1, .long (tgS lo hi cnt)), (0, .ref e)] [] [(e, .inr (0, [.int (nI cnt), .ref e1, .ref e2, .ref e3, .long hl, .long hh])), (e1, .inl (κ.z 0, 6, .inl (aN nu))), (e2, .inl (κ.z 1, 6, .inr (.inl lo))), (e3, .inl (κ.z 1, 6, .inr (.inl hi)))]
    refine v_iload_n X 0 d_E_target_4 rfl ?_
    refine v_aload_n X 2 d_E_target_5 rfl ?_
    refine v_get X 0 0 rfl rfl li_E (by decide) m105 rfl d_E_target_6 ?_
    refine v_icmpN_ge X 26 (a := cnt) (b := cnt) d_E_target_9 (by decide) (by omega) (by omega) (fun c9 => ?_) (fun c9 => by omega)
    exact kk
  | succ d9 ih =>
    intro j hj 
    show V κ 5 0 0 4 [(3, .int (nI j)), (1, .long (tgS lo hi j)), (0, .ref e)] [] [(e, .inr (0, [.int (nI cnt), .ref e1, .ref e2, .ref e3, .long hl, .long hh])), (e1, .inl (κ.z 0, 6, .inl (aN nu))), (e2, .inl (κ.z 1, 6, .inr (.inl lo))), (e3, .inl (κ.z 1, 6, .inr (.inl hi)))]
    refine v_iload_n X 0 d_E_target_4 rfl ?_
    refine v_aload_n X 2 d_E_target_5 rfl ?_
    refine v_get X 0 0 rfl rfl li_E (by decide) m105 rfl d_E_target_6 ?_
    refine v_icmpN_ge X 26 (a := j) (b := cnt) d_E_target_9 (by decide) (by omega) (by omega) (fun c9 => by omega) (fun c9 => ?_)
    refine v_lload_n X 1 d_E_target_12 rfl ?_
    refine v_aload_n X 2 d_E_target_13 rfl ?_
    refine v_iload_n X 0 d_E_target_14 rfl ?_
    refine v_callV X (b := e) (n9 := 1) (As := [.int (nI j)]) (rest := [.long (tgS lo hi j)]) (wc := [(e, .inr (0, [.int (nI cnt), .ref e1, .ref e2, .ref e3, .long hl, .long hh])), (e1, .inl (κ.z 0, 6, .inl (aN nu))), (e2, .inl (κ.z 1, 6, .inr (.inl lo))), (e3, .inl (κ.z 1, 6, .inr (.inl hi)))]) (wr := []) (c_E_middle κ.l κ.D κ.z e e1 e2 e3 cnt hl hh nu lo hi j (by omega)) 0 rfl rfl m319 m320 m10 m34 (by decide +kernel) rfl (Nat.le_of_ble_eq_true rfl) ⟨by decide, by decide⟩ ⟨by decide, by decide⟩ rfl rfl m321 d_E_target_15 (fun v w1 hg => ?_)
    obtain ⟨rfl, rfl⟩ := hg
    show V κ 5 0 0 18 [(3, .int (nI j)), (1, .long (tgS lo hi j)), (0, .ref e)] [.long (f_J_floorDiv ((lo j) + (hi j)) 2), .long (tgS lo hi j)] [(e, .inr (0, [.int (nI cnt), .ref e1, .ref e2, .ref e3, .long hl, .long hh])), (e1, .inl (κ.z 0, 6, .inl (aN nu))), (e2, .inl (κ.z 1, 6, .inr (.inl lo))), (e3, .inl (κ.z 1, 6, .inr (.inl hi)))]
    refine v_ladd X d_E_target_18 ?_
    refine v_lstore_n X d_E_target_19 rfl (by decide) (lv' := [(1, .long ((tgS lo hi j) + (f_J_floorDiv ((lo j) + (hi j)) 2))), (3, .int (nI j)), (0, .ref e)]) rfl ?_
    refine v_iinc X 1 d_E_target_20 (x := nI j) rfl (v := nI (j + 1)) (nI_1 _) (by decide) (lv' := [(3, .int (nI (j + 1))), (1, .long ((tgS lo hi j) + (f_J_floorDiv ((lo j) + (hi j)) 2))), (0, .ref e)]) rfl ?_
    refine v_goto X 4 d_E_target_23 (by decide) ?_
    exact v_eq rfl (by rfl) rfl (by rfl) (ih (j + 1) (by omega))

def f_E_target (cnt : Nat) (hl : Int64) (hh : Int64) (lo : Nat → Int64) (hi : Nat → Int64) : Int64 := f_J_max_JJ hl (f_J_min_JJ hh (if cnt = 0 then 0 else f_J_floorDiv (tgS lo hi cnt) ((nI cnt).toInt64)))
set_option maxHeartbeats 4000000 in
set_option maxRecDepth 100000 in
theorem c_E_target (l : Launch) (D : va_G) (z : Nat → ClassId) (e : Nat) (e1 : Nat) (e2 : Nat) (e3 : Nat) (cnt : Nat) (hl : Int64) (hh : Int64) (nu : Nat → Nat) (lo : Nat → Int64) (hi : Nat → Int64) (hc6 : cnt ≤ 6) : Ctr l D z y_E_target b_E_target 5 (some .long) { frames := 2, cells := 0, slots := 0, locals := 46 } [.ref e] [(e, .inr (0, [.int (nI cnt), .ref e1, .ref e2, .ref e3, .long hl, .long hh])), (e1, .inl (z 0, 6, .inl (aN nu))), (e2, .inl (z 1, 6, .inr (.inl lo))), (e3, .inl (z 1, 6, .inr (.inl hi)))] (fun v w => v = some (.long (f_E_target cnt hl hh lo hi)) ∧ w = [(e, .inr (0, [.int (nI cnt), .ref e1, .ref e2, .ref e3, .long hl, .long hh])), (e1, .inl (z 0, 6, .inl (aN nu))), (e2, .inl (z 1, 6, .inr (.inl lo))), (e3, .inl (z 1, 6, .inr (.inl hi)))]) 0 0 := by
  refine met_V (own := R_E) (nm := "target") (by decide +kernel) rfl rfl (Nat.le_of_ble_eq_true rfl) ?_
  intro κ hl hD hz X Y
  subst hl
  subst hD
  subst hz
  show V κ 5 0 0 0 [(0, .ref e)] [] [(e, .inr (0, [.int (nI cnt), .ref e1, .ref e2, .ref e3, .long hl, .long hh])), (e1, .inl (κ.z 0, 6, .inl (aN nu))), (e2, .inl (κ.z 1, 6, .inr (.inl lo))), (e3, .inl (κ.z 1, 6, .inr (.inl hi)))]
  refine v_lconst X 0 d_E_target_0 (by decide) ?_
  refine v_lstore_n X d_E_target_1 rfl (by decide) (lv' := [(1, .long 0), (0, .ref e)]) rfl ?_
  refine v_iconst X 0 d_E_target_2 (by decide) ?_
  refine v_istore_n X d_E_target_3 rfl (by decide) (lv' := [(3, .int 0), (1, .long 0), (0, .ref e)]) rfl ?_
  show V κ 5 0 0 4 [(3, .int (nI 0)), (1, .long (tgS lo hi 0)), (0, .ref e)] [] [(e, .inr (0, [.int (nI cnt), .ref e1, .ref e2, .ref e3, .long hl, .long hh])), (e1, .inl (κ.z 0, 6, .inl (aN nu))), (e2, .inl (κ.z 1, 6, .inr (.inl lo))), (e3, .inl (κ.z 1, 6, .inr (.inl hi)))]
  refine lp_target X e e1 e2 e3 cnt hl hh nu lo hi (by omega)  ?_ (cnt - 0) 0 (by omega)
  show V κ 5 0 0 26 [(3, .int (nI cnt)), (1, .long (tgS lo hi cnt)), (0, .ref e)] [] [(e, .inr (0, [.int (nI cnt), .ref e1, .ref e2, .ref e3, .long hl, .long hh])), (e1, .inl (κ.z 0, 6, .inl (aN nu))), (e2, .inl (κ.z 1, 6, .inr (.inl lo))), (e3, .inl (κ.z 1, 6, .inr (.inl hi)))]
  refine v_aload_n X 2 d_E_target_26 rfl ?_
  refine v_get X 0 0 rfl rfl li_E (by decide) m105 rfl d_E_target_27 ?_
  suffices hm30 : V κ 5 0 0 46 [(3, .int (nI cnt)), (1, .long (tgS lo hi cnt)), (0, .ref e)] [.long (if cnt = 0 then 0 else f_J_floorDiv (tgS lo hi cnt) ((nI cnt).toInt64))] [(e, .inr (0, [.int (nI cnt), .ref e1, .ref e2, .ref e3, .long hl, .long hh])), (e1, .inl (κ.z 0, 6, .inl (aN nu))), (e2, .inl (κ.z 1, 6, .inr (.inl lo))), (e3, .inl (κ.z 1, 6, .inr (.inl hi)))] by
    refine v_ifN_ne X 37 (a := cnt) d_E_target_30 (by decide) (by omega) (fun c30 => ?_) (fun c30 => ?_)
    · skip
      refine v_lload_n X 1 d_E_target_37 rfl ?_
      refine v_aload_n X 2 d_E_target_38 rfl ?_
      refine v_get X 0 0 rfl rfl li_E (by decide) m105 rfl d_E_target_39 ?_
      refine v_i2l X d_E_target_42 ?_
      refine v_callS X (n9 := 2) (As := [.long (tgS lo hi cnt), .long ((nI cnt).toInt64)]) (rest := []) (wc := []) (wr := [(e, .inr (0, [.int (nI cnt), .ref e1, .ref e2, .ref e3, .long hl, .long hh])), (e1, .inl (κ.z 0, 6, .inl (aN nu))), (e2, .inl (κ.z 1, 6, .inr (.inl lo))), (e3, .inl (κ.z 1, 6, .inr (.inl hi)))]) (c_J_floorDiv κ.l κ.D κ.z (tgS lo hi cnt) ((nI cnt).toInt64) (nI_lne c30 (by omega))) m323 m252 m31 (by decide +kernel) rfl (Nat.le_of_ble_eq_true rfl) ⟨by decide, by decide⟩ ⟨by decide, by decide⟩ rfl rfl m253 d_E_target_43 (fun v w1 hg => ?_)
      obtain ⟨rfl, rfl⟩ := hg
      show V κ 5 0 0 46 [(3, .int (nI cnt)), (1, .long (tgS lo hi cnt)), (0, .ref e)] [.long (f_J_floorDiv (tgS lo hi cnt) ((nI cnt).toInt64))] [(e, .inr (0, [.int (nI cnt), .ref e1, .ref e2, .ref e3, .long hl, .long hh])), (e1, .inl (κ.z 0, 6, .inl (aN nu))), (e2, .inl (κ.z 1, 6, .inr (.inl lo))), (e3, .inl (κ.z 1, 6, .inr (.inl hi)))]
      have h9 := hm30; simp only [if_neg c30] at h9; first | exact h9 | (simp only [if_neg c30]; exact h9)
    · skip
      refine v_lconst X 0 d_E_target_33 (by decide) ?_
      refine v_goto X 46 d_E_target_34 (by decide) ?_
      have h9 := hm30; simp only [if_pos c30] at h9; first | exact h9 | (simp only [if_pos c30]; exact h9)
  refine v_lstore_n X d_E_target_46 rfl (by decide) (lv' := [(3, .long (if cnt = 0 then 0 else f_J_floorDiv (tgS lo hi cnt) ((nI cnt).toInt64))), (1, .long (tgS lo hi cnt)), (0, .ref e)]) rfl ?_
  refine v_aload_n X 2 d_E_target_47 rfl ?_
  refine v_get X 0 4 rfl rfl li_E (by decide) m112 rfl d_E_target_48 ?_
  refine v_aload_n X 2 d_E_target_51 rfl ?_
  refine v_get X 0 5 rfl rfl li_E (by decide) m114 rfl d_E_target_52 ?_
  refine v_lload_n X 0 d_E_target_55 rfl ?_
  refine v_callS X (n9 := 2) (As := [.long hh, .long (if cnt = 0 then 0 else f_J_floorDiv (tgS lo hi cnt) ((nI cnt).toInt64))]) (rest := [.long hl]) (wc := []) (wr := [(e, .inr (0, [.int (nI cnt), .ref e1, .ref e2, .ref e3, .long hl, .long hh])), (e1, .inl (κ.z 0, 6, .inl (aN nu))), (e2, .inl (κ.z 1, 6, .inr (.inl lo))), (e3, .inl (κ.z 1, 6, .inr (.inl hi)))]) (c_J_min_JJ κ.l κ.D κ.z hh (if cnt = 0 then 0 else f_J_floorDiv (tgS lo hi cnt) ((nI cnt).toInt64)) ) m301 m302 m31 (by decide +kernel) rfl (Nat.le_of_ble_eq_true rfl) ⟨by decide, by decide⟩ ⟨by decide, by decide⟩ rfl rfl m303 d_E_target_56 (fun v w1 hg => ?_)
  obtain ⟨rfl, rfl⟩ := hg
  show V κ 5 0 0 59 [(3, .long (if cnt = 0 then 0 else f_J_floorDiv (tgS lo hi cnt) ((nI cnt).toInt64))), (1, .long (tgS lo hi cnt)), (0, .ref e)] [.long (f_J_min_JJ hh (if cnt = 0 then 0 else f_J_floorDiv (tgS lo hi cnt) ((nI cnt).toInt64))), .long hl] [(e, .inr (0, [.int (nI cnt), .ref e1, .ref e2, .ref e3, .long hl, .long hh])), (e1, .inl (κ.z 0, 6, .inl (aN nu))), (e2, .inl (κ.z 1, 6, .inr (.inl lo))), (e3, .inl (κ.z 1, 6, .inr (.inl hi)))]
  show V κ 5 0 0 59 [(3, .long (if cnt = 0 then 0 else f_J_floorDiv (tgS lo hi cnt) ((nI cnt).toInt64))), (1, .long (tgS lo hi cnt)), (0, .ref e)] [.long (f_J_min_JJ hh (if cnt = 0 then 0 else f_J_floorDiv (tgS lo hi cnt) ((nI cnt).toInt64))), .long hl] [(e, .inr (0, [.int (nI cnt), .ref e1, .ref e2, .ref e3, .long hl, .long hh])), (e1, .inl (κ.z 0, 6, .inl (aN nu))), (e2, .inl (κ.z 1, 6, .inr (.inl lo))), (e3, .inl (κ.z 1, 6, .inr (.inl hi)))]
  refine v_callS X (n9 := 2) (As := [.long hl, .long (f_J_min_JJ hh (if cnt = 0 then 0 else f_J_floorDiv (tgS lo hi cnt) ((nI cnt).toInt64)))]) (rest := []) (wc := []) (wr := [(e, .inr (0, [.int (nI cnt), .ref e1, .ref e2, .ref e3, .long hl, .long hh])), (e1, .inl (κ.z 0, 6, .inl (aN nu))), (e2, .inl (κ.z 1, 6, .inr (.inl lo))), (e3, .inl (κ.z 1, 6, .inr (.inl hi)))]) (c_J_max_JJ κ.l κ.D κ.z hl (f_J_min_JJ hh (if cnt = 0 then 0 else f_J_floorDiv (tgS lo hi cnt) ((nI cnt).toInt64))) ) m304 m199 m31 (by decide +kernel) rfl (Nat.le_of_ble_eq_true rfl) ⟨by decide, by decide⟩ ⟨by decide, by decide⟩ rfl rfl m200 d_E_target_59 (fun v w1 hg => ?_)
  obtain ⟨rfl, rfl⟩ := hg
  show V κ 5 0 0 62 [(3, .long (if cnt = 0 then 0 else f_J_floorDiv (tgS lo hi cnt) ((nI cnt).toInt64))), (1, .long (tgS lo hi cnt)), (0, .ref e)] [.long (f_J_max_JJ hl (f_J_min_JJ hh (if cnt = 0 then 0 else f_J_floorDiv (tgS lo hi cnt) ((nI cnt).toInt64))))] [(e, .inr (0, [.int (nI cnt), .ref e1, .ref e2, .ref e3, .long hl, .long hh])), (e1, .inl (κ.z 0, 6, .inl (aN nu))), (e2, .inl (κ.z 1, 6, .inr (.inl lo))), (e3, .inl (κ.z 1, 6, .inr (.inl hi)))]
  exact v_lret X Y (by decide) (by decide) d_E_target_62 ⟨rfl, rfl⟩

def btS (nu : Nat → Nat) : Nat → Int32
  | 0 => 0
  | j + 1 => (btS nu j) ||| ((1 : Int32) <<< ((nI (nu j)) &&& 31))
set_option maxHeartbeats 4000000 in
set_option maxRecDepth 100000 in
theorem lp_bits {κ : VC} (X : Cx κ b_E_bits R_E { frames := 0, cells := 0, slots := 0, locals := 0 } 3) (e : Nat) (e1 : Nat) (e2 : Nat) (e3 : Nat) (cnt : Nat) (hl : Int64) (hh : Int64) (nu : Nat → Nat) (lo : Nat → Int64) (hi : Nat → Int64) (hc6 : cnt ≤ 6)  (kk : V κ 3 0 0 29 [(2, .int (nI cnt)), (1, .int (btS nu cnt)), (0, .ref e)] [] [(e, .inr (0, [.int (nI cnt), .ref e1, .ref e2, .ref e3, .long hl, .long hh])), (e1, .inl (κ.z 0, 6, .inl (aN nu))), (e2, .inl (κ.z 1, 6, .inr (.inl lo))), (e3, .inl (κ.z 1, 6, .inr (.inl hi)))]) : ∀ (d9 j : Nat), j + d9 = cnt → V κ 3 0 0 4 [(2, .int (nI j)), (1, .int (btS nu j)), (0, .ref e)] [] [(e, .inr (0, [.int (nI cnt), .ref e1, .ref e2, .ref e3, .long hl, .long hh])), (e1, .inl (κ.z 0, 6, .inl (aN nu))), (e2, .inl (κ.z 1, 6, .inr (.inl lo))), (e3, .inl (κ.z 1, 6, .inr (.inl hi)))] := by
  intro d9
  induction d9 with
  | zero =>
    intro j hj 
    have e9 : j = cnt := by omega
    rw [e9]
    show V κ 3 0 0 4 [(2, .int (nI cnt)), (1, .int (btS nu cnt)), (0, .ref e)] [] [(e, .inr (0, [.int (nI cnt), .ref e1, .ref e2, .ref e3, .long hl, .long hh])), (e1, .inl (κ.z 0, 6, .inl (aN nu))), (e2, .inl (κ.z 1, 6, .inr (.inl lo))), (e3, .inl (κ.z 1, 6, .inr (.inl hi)))]
    refine v_iload_n X 0 d_E_bits_4 rfl ?_
    refine v_aload_n X 2 d_E_bits_5 rfl ?_
    refine v_get X 0 0 rfl rfl li_E (by decide) m105 rfl d_E_bits_6 ?_
    refine v_icmpN_ge X 29 (a := cnt) (b := cnt) d_E_bits_9 (by decide) (by omega) (by omega) (fun c9 => ?_) (fun c9 => by omega)
    exact kk
  | succ d9 ih =>
    intro j hj 
    show V κ 3 0 0 4 [(2, .int (nI j)), (1, .int (btS nu j)), (0, .ref e)] [] [(e, .inr (0, [.int (nI cnt), .ref e1, .ref e2, .ref e3, .long hl, .long hh])), (e1, .inl (κ.z 0, 6, .inl (aN nu))), (e2, .inl (κ.z 1, 6, .inr (.inl lo))), (e3, .inl (κ.z 1, 6, .inr (.inl hi)))]
    refine v_iload_n X 0 d_E_bits_4 rfl ?_
    refine v_aload_n X 2 d_E_bits_5 rfl ?_
    refine v_get X 0 0 rfl rfl li_E (by decide) m105 rfl d_E_bits_6 ?_
    refine v_icmpN_ge X 29 (a := j) (b := cnt) d_E_bits_9 (by decide) (by omega) (by omega) (fun c9 => by omega) (fun c9 => ?_)
    refine v_iload_n X 1 d_E_bits_12 rfl ?_
    refine v_iconst X 1 d_E_bits_13 (by decide) ?_
    refine v_aload_n X 2 d_E_bits_14 rfl ?_
    refine v_get X 0 1 rfl rfl li_E (by decide) m107 rfl d_E_bits_15 ?_
    refine v_iload_n X 0 d_E_bits_18 rfl ?_
    refine v_naldN X 1 0 (j := j) rfl rfl (by omega) (by omega) d_E_bits_19 ?_
    refine v_ishl X d_E_bits_20 ?_
    refine v_ior X d_E_bits_21 ?_
    refine v_istore_n X d_E_bits_22 rfl (by decide) (lv' := [(1, .int ((btS nu j) ||| ((1 : Int32) <<< ((nI (nu j)) &&& 31)))), (2, .int (nI j)), (0, .ref e)]) rfl ?_
    refine v_iinc X 1 d_E_bits_23 (x := nI j) rfl (v := nI (j + 1)) (nI_1 _) (by decide) (lv' := [(2, .int (nI (j + 1))), (1, .int ((btS nu j) ||| ((1 : Int32) <<< ((nI (nu j)) &&& 31)))), (0, .ref e)]) rfl ?_
    show V κ 3 0 0 26 [(2, .int (nI (j + 1))), (1, .int ((btS nu j) ||| ((1 : Int32) <<< ((nI (nu j)) &&& 31)))), (0, .ref e)] [] [(e, .inr (0, [.int (nI cnt), .ref e1, .ref e2, .ref e3, .long hl, .long hh])), (e1, .inl (κ.z 0, 6, .inl (aN nu))), (e2, .inl (κ.z 1, 6, .inr (.inl lo))), (e3, .inl (κ.z 1, 6, .inr (.inl hi)))]
    refine v_goto X 4 d_E_bits_26 (by decide) ?_
    exact v_eq rfl (by rfl) rfl (by rfl) (ih (j + 1) (by omega))

set_option maxHeartbeats 4000000 in
set_option maxRecDepth 100000 in
theorem c_E_bits (l : Launch) (D : va_G) (z : Nat → ClassId) (e : Nat) (e1 : Nat) (e2 : Nat) (e3 : Nat) (cnt : Nat) (hl : Int64) (hh : Int64) (nu : Nat → Nat) (lo : Nat → Int64) (hi : Nat → Int64) (hc6 : cnt ≤ 6) : Ctr l D z y_E_bits b_E_bits 3 (some .int) { frames := 0, cells := 0, slots := 0, locals := 0 } [.ref e] [(e, .inr (0, [.int (nI cnt), .ref e1, .ref e2, .ref e3, .long hl, .long hh])), (e1, .inl (z 0, 6, .inl (aN nu))), (e2, .inl (z 1, 6, .inr (.inl lo))), (e3, .inl (z 1, 6, .inr (.inl hi)))] (fun v w => v = some (.int (btS nu cnt)) ∧ w = [(e, .inr (0, [.int (nI cnt), .ref e1, .ref e2, .ref e3, .long hl, .long hh])), (e1, .inl (z 0, 6, .inl (aN nu))), (e2, .inl (z 1, 6, .inr (.inl lo))), (e3, .inl (z 1, 6, .inr (.inl hi)))]) 0 0 := by
  refine met_V (own := R_E) (nm := "bits") (by decide +kernel) rfl rfl (Nat.le_of_ble_eq_true rfl) ?_
  intro κ hl hD hz X Y
  subst hl
  subst hD
  subst hz
  show V κ 3 0 0 0 [(0, .ref e)] [] [(e, .inr (0, [.int (nI cnt), .ref e1, .ref e2, .ref e3, .long hl, .long hh])), (e1, .inl (κ.z 0, 6, .inl (aN nu))), (e2, .inl (κ.z 1, 6, .inr (.inl lo))), (e3, .inl (κ.z 1, 6, .inr (.inl hi)))]
  refine v_iconst X 0 d_E_bits_0 (by decide) ?_
  refine v_istore_n X d_E_bits_1 rfl (by decide) (lv' := [(1, .int 0), (0, .ref e)]) rfl ?_
  refine v_iconst X 0 d_E_bits_2 (by decide) ?_
  refine v_istore_n X d_E_bits_3 rfl (by decide) (lv' := [(2, .int 0), (1, .int 0), (0, .ref e)]) rfl ?_
  show V κ 3 0 0 4 [(2, .int (nI 0)), (1, .int (btS nu 0)), (0, .ref e)] [] [(e, .inr (0, [.int (nI cnt), .ref e1, .ref e2, .ref e3, .long hl, .long hh])), (e1, .inl (κ.z 0, 6, .inl (aN nu))), (e2, .inl (κ.z 1, 6, .inr (.inl lo))), (e3, .inl (κ.z 1, 6, .inr (.inl hi)))]
  refine lp_bits X e e1 e2 e3 cnt hl hh nu lo hi (by omega)  ?_ (cnt - 0) 0 (by omega)
  show V κ 3 0 0 29 [(2, .int (nI cnt)), (1, .int (btS nu cnt)), (0, .ref e)] [] [(e, .inr (0, [.int (nI cnt), .ref e1, .ref e2, .ref e3, .long hl, .long hh])), (e1, .inl (κ.z 0, 6, .inl (aN nu))), (e2, .inl (κ.z 1, 6, .inr (.inl lo))), (e3, .inl (κ.z 1, 6, .inr (.inl hi)))]
  refine v_iload_n X 1 d_E_bits_29 rfl ?_
  exact v_iret X Y (by decide) (by decide) d_E_bits_30 ⟨rfl, rfl⟩
