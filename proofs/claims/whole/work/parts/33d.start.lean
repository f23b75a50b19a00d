theorem m29 : (Jvm.Cond.initialized "MajorityClockLaw") ∈ BIG := big0 _ (List.mem_of_getElem? (i := 29) rfl)
theorem m37 : (Jvm.Cond.classLink "MajorityClockLaw" (7 : Nat) "MajorityClock") ∈ BIG := big0 _ (List.mem_of_getElem? (i := 37) rfl)
theorem m39 : (Jvm.Cond.methodLink "MajorityClockLaw" (15 : Nat) ({ cls := "MajorityClock", name := "<init>", desc := "(III)V" } : Jvm.MethodName)) ∈ BIG := big0 _ (List.mem_of_getElem? (i := 39) rfl)
theorem m40 : (Jvm.Cond.instanceMethod ({ cls := "MajorityClock", name := "<init>", desc := "(III)V" } : Jvm.MethodName)) ∈ BIG := big0 _ (List.mem_of_getElem? (i := 40) rfl)
theorem m41 : (Jvm.Cond.code ({ cls := "MajorityClock", name := "<init>", desc := "(III)V" } : Jvm.MethodName) prog_1_method_1_code (6 : Nat) (Option.none : Option Jvm.ClassFile.FieldType)) ∈ BIG := big0 _ (List.mem_of_getElem? (i := 41) rfl)
theorem m415 : (Jvm.Cond.methodLink "MajorityClockLaw" (9 : Nat) ({ cls := "MajorityClockLaw", name := "cell", desc := "([II)I" } : Jvm.MethodName)) ∈ BIG := big8 _ (List.mem_of_getElem? (i := 15) rfl)
theorem m416 : (Jvm.Cond.static ({ cls := "MajorityClockLaw", name := "cell", desc := "([II)I" } : Jvm.MethodName)) ∈ BIG := big8 _ (List.mem_of_getElem? (i := 16) rfl)
theorem m417 : (Jvm.Cond.code ({ cls := "MajorityClockLaw", name := "cell", desc := "([II)I" } : Jvm.MethodName) method_2_code (2 : Nat) (Option.some Jvm.ClassFile.FieldType.int)) ∈ BIG := big8 _ (List.mem_of_getElem? (i := 17) rfl)
theorem m418 : (Jvm.Cond.classLink "MajorityClockLaw" (18 : Nat) "MajorityClockModel") ∈ BIG := big8 _ (List.mem_of_getElem? (i := 18) rfl)
theorem m420 : (Jvm.Cond.methodLink "MajorityClockLaw" (20 : Nat) ({ cls := "MajorityClockModel", name := "<init>", desc := "(III)V" } : Jvm.MethodName)) ∈ BIG := big8 _ (List.mem_of_getElem? (i := 20) rfl)
theorem m421 : (Jvm.Cond.instanceMethod ({ cls := "MajorityClockModel", name := "<init>", desc := "(III)V" } : Jvm.MethodName)) ∈ BIG := big8 _ (List.mem_of_getElem? (i := 21) rfl)
theorem m422 : (Jvm.Cond.code ({ cls := "MajorityClockModel", name := "<init>", desc := "(III)V" } : Jvm.MethodName) prog_7_method_1_code (5 : Nat) (Option.none : Option Jvm.ClassFile.FieldType)) ∈ BIG := big8 _ (List.mem_of_getElem? (i := 22) rfl)
theorem d_L_cell_0 : decode b_L_cell 0 = .ok (.iload_n 1, 1) := by decide +kernel
theorem d_L_cell_1 : decode b_L_cell 1 = .ok (.aload_n 0, 1) := by decide +kernel
theorem d_L_cell_2 : decode b_L_cell 2 = .ok (.arraylength, 1) := by decide +kernel
theorem d_L_cell_3 : decode b_L_cell 3 = .ok (.if_icmp .ge 9, 3) := by decide +kernel
theorem d_L_cell_6 : decode b_L_cell 6 = .ok (.aload_n 0, 1) := by decide +kernel
theorem d_L_cell_7 : decode b_L_cell 7 = .ok (.iload_n 1, 1) := by decide +kernel
theorem d_L_cell_8 : decode b_L_cell 8 = .ok (.iaload, 1) := by decide +kernel
theorem d_L_cell_9 : decode b_L_cell 9 = .ok (.goto 4, 3) := by decide +kernel
theorem d_L_cell_12 : decode b_L_cell 12 = .ok (.iconst 0, 1) := by decide +kernel
theorem d_L_cell_13 : decode b_L_cell 13 = .ok (.ireturn, 1) := by decide +kernel
theorem c_L_cell (l : Launch) (D : va_G) (z : Nat → ClassId) (b L : Nat) (xs : Nat → Int32) (k : Nat) (hk : k < 5) (hL : L ≤ 4611) : CtrX l D z b L xs y_L_cell b_L_cell 2 (some .int) { frames := 0, cells := 0, slots := 0, locals := 0 } [.ref b, .int (nI k)] (fun v w => v = some (.int (if k < L then xs k else 0)) ∧ w = []) := by
  refine met_X (own := R_L) (nm := "cell") (by decide +kernel) rfl rfl (Nat.le_of_ble_eq_true rfl) ?_
  intro κ hl hD hz X Y hS
  show V κ 2 0 0 0 [(0, .ref b), (1, .int (nI k))] [] []
  refine v_iload_n X 1 d_L_cell_0 rfl ?_
  refine v_aload_n X 0 d_L_cell_1 rfl ?_
  refine v_slen X hS d_L_cell_2 ?_
  refine v_icmpN_ge X 12 (a := k) (b := L) d_L_cell_3 (by decide) (by omega) (by omega) (fun c => ?_) (fun c => ?_)
  · refine v_iconst X 0 d_L_cell_12 (by decide) ?_
    exact v_iret X Y (by decide) (by decide) d_L_cell_13 ⟨by rw [if_neg (by omega)], rfl⟩
  · refine v_aload_n X 0 d_L_cell_6 rfl ?_
    refine v_iload_n X 1 d_L_cell_7 rfl ?_
    refine v_sld X hS (j := k) (by omega) (by omega) d_L_cell_8 ?_
    refine v_goto X 13 d_L_cell_9 (by decide) ?_
    exact v_iret X Y (by decide) (by decide) d_L_cell_13 ⟨by rw [if_pos (by omega)], rfl⟩
theorem wD_eq (y : Int32) : f_J_min_II (f_J_max_II y 0) 1000 = f_T_within y 0 1000 := by
  unfold f_J_min_II f_J_max_II f_T_within
  by_cases c1 : y < 0
  · rw [if_pos c1, if_neg (Int32.not_le.mpr c1)]
    decide
  · rw [if_neg c1, if_pos (Int32.not_lt.mp c1)]
    by_cases c2 : 1000 < y
    · rw [if_pos c2, if_neg (Int32.not_le.mpr c2)]
    · rw [if_neg c2, if_pos (Int32.not_lt.mp c2)]
theorem wD_bd (y : Int32) : 0 ≤ (f_T_within y 0 1000).toInt ∧ (f_T_within y 0 1000).toInt ≤ 1000 := by
  have e0 : (0 : Int32).toInt = 0 := by decide
  have e1 : (1000 : Int32).toInt = 1000 := by decide
  unfold f_T_within
  by_cases c1 : 0 ≤ y
  · rw [if_pos c1]
    have c1' := Int32.le_iff_toInt_le.mp c1
    by_cases c2 : y ≤ 1000
    · rw [if_pos c2]
      have c2' := Int32.le_iff_toInt_le.mp c2
      omega
    · rw [if_neg c2]; omega
  · rw [if_neg c1]; omega
theorem itS_at {i : Nat} (h : i < 6) : itS (fun _ => 0) 6 i = 16 := by
  rcases (show i = 0 ∨ i = 1 ∨ i = 2 ∨ i = 3 ∨ i = 4 ∨ i = 5 by omega) with rfl | rfl | rfl | rfl | rfl | rfl <;> rfl
theorem inv_start (x y : Int32) (fs : Nat → Option Nat) (sg : Nat → SvS) (h : ∀ k, k < wS x → fs k = some (s_a (sg k)) ∧ sv0 (sg k)) : Inv 0 (wS x) (f_T_within y 0 1000) fs 0 (-1) (fun _ => 0) 0 0 0 sg false 0 (fun _ => 0) (fun _ => 0) (fun _ => 0) (fun _ => 0) (fun _ => 0) (fun _ => 0) (fun _ => 0) (fun _ => false) (fun _ => false) (fun _ => 0) (itS (fun _ => 0) 6) (fun _ => 0) (fun _ => 0) := by
  have w := wS_all x
  have em : (-1 : Int64).toInt = -1 := by decide
  have e32 : (0 : Int32).toInt = 0 := by decide
  refine ⟨w.2, wD_bd y, fun k hk => (h k hk).1, ⟨by rw [i64_0]; omega, by rw [i64_0]; omega⟩, ⟨fun q => (by cases q), fun _ => rfl, by rw [em]; omega, by rw [em]; omega⟩, fun k => (by show 0 < wS x; omega), fun i hi => ?_, fun i hi => ?_, fun i _ => (by show 0 ≤ 8; omega), ⟨by rw [i64_0]; omega, Int.le_refl _⟩, ⟨by rw [i64_0]; omega, by rw [i64_0]; omega⟩, ⟨by rw [i64_0]; omega, by rw [i64_0]; omega⟩⟩
  · have s := (h i hi).2
    unfold sv0 at s
    rw [s]
    refine ⟨rfl, rfl, rfl, rfl, fun q => (by cases q), rfl, (itS_at (by omega)).symm, rfl, rfl, rfl, fun k hk => ?_⟩
    exact absurd hk (Nat.not_lt_zero k)
  · have s := (h i hi).2
    unfold sv0 at s
    rw [s]
    exact ⟨Nat.zero_le 8, by show 0 ≤ (0 : Int64).toInt; rw [i64_0]; omega, Int.le_refl _, by show 0 ≤ (0 : Int32).toInt; rw [e32]; omega, by show (0 : Int32).toInt ≤ 1000000; rw [e32]; omega, fun k hk => absurd hk (Nat.not_lt_zero k)⟩
set_option maxHeartbeats 4000000 in
set_option maxRecDepth 100000 in
theorem law_body {κ : VC} (X : Cx κ code R_L room_1 4) (b L : Nat) (xs : Nat → Int32) (hS : Scr κ b L xs) (hL : L ≤ 4611) (ha : κ.a = #[Value.ref b]) (hA : κ.A = fun q => κ.s.heap.size ≤ q) (hr : κ.y.sig.returnType = ret) (hlk : κ.y.locks = false) (hQ : κ.Q = lw_Z κ.b #[Value.ref b] κ.s) : V κ 4 0 0 0 [(0, .ref b)] [] [] := by
  refine v_new X (ci := 4) (fs := [.null, .null, .null, .null, .int 0, .int 0, .long 0, .long 0]) ty_M tk_M rfl li_M m37 m38 m30 (fun j hj => by revert j; decide) (by decide) (by decide) d_L_law_0 (fun o => ?_)
  show V κ 4 1 8 3 [(0, .ref b)] [.ref o] [(o, .inr (4, [.null, .null, .null, .null, .int 0, .int 0, .long 0, .long 0]))]
  refine v_dup X d_L_law_3 rfl ?_
  refine v_aload_n X 0 d_L_law_4 rfl ?_
  refine v_iconst X 0 d_L_law_5 (by decide) ?_
  refine v_callX X hS (n9 := 2) (As := [.ref b, .int (nI 0)]) (rest := [.ref o, .ref o]) (c_L_cell κ.l κ.D κ.z b L xs 0 (by decide) hL) m415 m416 m29 (by decide +kernel) rfl (Nat.le_of_ble_eq_true rfl) ⟨by decide, by decide⟩ ⟨by decide, by decide⟩ rfl rfl m417 d_L_law_6 (fun v w hg => hg.2) (fun v hg => ?_)
  obtain ⟨rfl, -⟩ := hg
  show V κ 4 1 8 9 [(0, .ref b)] [.int (if 0 < L then xs 0 else 0), .ref o, .ref o] [(o, .inr (4, [.null, .null, .null, .null, .int 0, .int 0, .long 0, .long 0]))]
  refine v_aload_n X 0 d_L_law_9 rfl ?_
  refine v_iconst X 1 d_L_law_10 (by decide) ?_
  refine v_callX X hS (n9 := 2) (As := [.ref b, .int (nI 1)]) (rest := [.int (if 0 < L then xs 0 else 0), .ref o, .ref o]) (c_L_cell κ.l κ.D κ.z b L xs 1 (by decide) hL) m415 m416 m29 (by decide +kernel) rfl (Nat.le_of_ble_eq_true rfl) ⟨by decide, by decide⟩ ⟨by decide, by decide⟩ rfl rfl m417 d_L_law_11 (fun v w hg => hg.2) (fun v hg => ?_)
  obtain ⟨rfl, -⟩ := hg
  show V κ 4 1 8 14 [(0, .ref b)] [.int (if 1 < L then xs 1 else 0), .int (if 0 < L then xs 0 else 0), .ref o, .ref o] [(o, .inr (4, [.null, .null, .null, .null, .int 0, .int 0, .long 0, .long 0]))]
  refine v_aload_n X 0 d_L_law_14 rfl ?_
  refine v_iconst X 2 d_L_law_15 (by decide) ?_
  refine v_callX X hS (n9 := 2) (As := [.ref b, .int (nI 2)]) (rest := [.int (if 1 < L then xs 1 else 0), .int (if 0 < L then xs 0 else 0), .ref o, .ref o]) (c_L_cell κ.l κ.D κ.z b L xs 2 (by decide) hL) m415 m416 m29 (by decide +kernel) rfl (Nat.le_of_ble_eq_true rfl) ⟨by decide, by decide⟩ ⟨by decide, by decide⟩ rfl rfl m417 d_L_law_16 (fun v w hg => hg.2) (fun v hg => ?_)
  obtain ⟨rfl, -⟩ := hg
  show V κ 4 1 8 19 [(0, .ref b)] [.int (if 2 < L then xs 2 else 0), .int (if 1 < L then xs 1 else 0), .int (if 0 < L then xs 0 else 0), .ref o, .ref o] [(o, .inr (4, [.null, .null, .null, .null, .int 0, .int 0, .long 0, .long 0]))]
  refine v_callI X (b := o) (k := 1) (n := 8) (n9 := 3) (As := [.int (if 0 < L then xs 0 else 0), .int (if 1 < L then xs 1 else 0), .int (if 2 < L then xs 2 else 0)]) (rest := [.ref o]) (wc := [(o, .inr (4, [.null, .null, .null, .null, .int 0, .int 0, .long 0, .long 0]))]) (wr := []) (c_M_init κ.l κ.D κ.z o (if 0 < L then xs 0 else 0) (if 1 < L then xs 1 else 0) (if 2 < L then xs 2 else 0)) m39 m40 m30 rfl (by decide +kernel) rfl (Nat.le_of_ble_eq_true rfl) ⟨by decide, by decide⟩ ⟨by decide, by decide⟩ rfl rfl m41 d_L_law_19 (fun v w1 hg => ?_)
  obtain ⟨rfl, sa, la, e, e1, e2, e3, d, l0, l1, l2, l3, sg, fs, fl, hsg, f0, f1, f2, f3, rfl⟩ := hg
  refine v_eq rfl rfl rfl (List.append_nil _) ?_
  show V κ 4 36 279 22 [(0, .ref b)] [.ref o] (WM κ.z o sa la e d e1 e2 e3 l0 l1 l2 l3 (f_J_min_II (f_J_max_II (if 1 < L then xs 1 else 0) 0) 1000) (if 2 < L then xs 2 else 0) (wS (if 0 < L then xs 0 else 0)) fs fl 0 (-1) 0 0 0 (fun _ => 0) (fun _ => 0) (fun _ => 0) false 0 0 0 0 0 0 0 (if false = true then 0 + 1 else 16) (fun _ => false) (fun _ => 0) (fun _ => 0) sg)
  rw [wD_eq]
  refine v_astore_n X d_L_law_22 rfl (by decide) (lv' := [(1, .ref o), (0, .ref b)]) rfl ?_
  refine v_new X (ci := 5) (fs := (.int 0 :: .int 0 :: .int 0 :: .long 0 :: .int 0 :: .long 0 :: .null :: .null :: .null :: .null :: .null :: .null :: .null :: .null :: .null :: .null :: .null :: .null :: .null :: .null :: .null :: .null :: .long 0 :: .long 0 :: .int 0 :: .int 0 :: .int 0 :: .long 0 :: .long 0 :: .long 0 :: .long 0 :: .long 0 :: .long 0 :: .null :: .null :: .null :: [])) ty_T tk_T rfl li_T m418 m419 m36 (fun j hj => by revert j; decide) (by decide) (by decide) d_L_law_23 (fun m => ?_)
  refine v_perm List.perm_append_comm ?_
  show V κ 4 37 315 26 [(1, .ref o), (0, .ref b)] [.ref m] (wA [(m, .inr (5, (.int 0 :: .int 0 :: .int 0 :: .long 0 :: .int 0 :: .long 0 :: .null :: .null :: .null :: .null :: .null :: .null :: .null :: .null :: .null :: .null :: .null :: .null :: .null :: .null :: .null :: .null :: .long 0 :: .long 0 :: .int 0 :: .int 0 :: .int 0 :: .long 0 :: .long 0 :: .long 0 :: .long 0 :: .long 0 :: .long 0 :: .null :: .null :: .null :: [])))] (WM κ.z o sa la e d e1 e2 e3 l0 l1 l2 l3 (f_T_within (if 1 < L then xs 1 else 0) 0 1000) (if 2 < L then xs 2 else 0) (wS (if 0 < L then xs 0 else 0)) fs fl 0 (-1) 0 0 0 (fun _ => 0) (fun _ => 0) (fun _ => 0) false 0 0 0 0 0 0 0 (if false = true then 0 + 1 else 16) (fun _ => false) (fun _ => 0) (fun _ => 0) sg))
  refine v_dup X d_L_law_26 rfl ?_
  refine v_aload_n X 1 d_L_law_27 rfl ?_
  refine v_iconst X 0 d_L_law_28 (by decide) ?_
  refine v_callX X hS (n9 := 2) (As := [.ref b, .int (nI 0)]) (rest := [.ref m, .ref m]) (c_L_cell κ.l κ.D κ.z b L xs 0 (by decide) hL) m415 m416 m29 (by decide +kernel) rfl (Nat.le_of_ble_eq_true rfl) ⟨by decide, by decide⟩ ⟨by decide, by decide⟩ rfl rfl m417 d_L_law_29 (fun v w hg => hg.2) (fun v hg => ?_)
  obtain ⟨rfl, -⟩ := hg
  show V κ 4 37 315 32 [(1, .ref o), (0, .ref b)] [.int (if 0 < L then xs 0 else 0), .ref m, .ref m] (wA [(m, .inr (5, (.int 0 :: .int 0 :: .int 0 :: .long 0 :: .int 0 :: .long 0 :: .null :: .null :: .null :: .null :: .null :: .null :: .null :: .null :: .null :: .null :: .null :: .null :: .null :: .null :: .null :: .null :: .long 0 :: .long 0 :: .int 0 :: .int 0 :: .int 0 :: .long 0 :: .long 0 :: .long 0 :: .long 0 :: .long 0 :: .long 0 :: .null :: .null :: .null :: [])))] (WM κ.z o sa la e d e1 e2 e3 l0 l1 l2 l3 (f_T_within (if 1 < L then xs 1 else 0) 0 1000) (if 2 < L then xs 2 else 0) (wS (if 0 < L then xs 0 else 0)) fs fl 0 (-1) 0 0 0 (fun _ => 0) (fun _ => 0) (fun _ => 0) false 0 0 0 0 0 0 0 (if false = true then 0 + 1 else 16) (fun _ => false) (fun _ => 0) (fun _ => 0) sg))
  refine v_aload_n X 1 d_L_law_32 rfl ?_
  refine v_iconst X 1 d_L_law_33 (by decide) ?_
  refine v_callX X hS (n9 := 2) (As := [.ref b, .int (nI 1)]) (rest := [.int (if 0 < L then xs 0 else 0), .ref m, .ref m]) (c_L_cell κ.l κ.D κ.z b L xs 1 (by decide) hL) m415 m416 m29 (by decide +kernel) rfl (Nat.le_of_ble_eq_true rfl) ⟨by decide, by decide⟩ ⟨by decide, by decide⟩ rfl rfl m417 d_L_law_34 (fun v w hg => hg.2) (fun v hg => ?_)
  obtain ⟨rfl, -⟩ := hg
  show V κ 4 37 315 37 [(1, .ref o), (0, .ref b)] [.int (if 1 < L then xs 1 else 0), .int (if 0 < L then xs 0 else 0), .ref m, .ref m] (wA [(m, .inr (5, (.int 0 :: .int 0 :: .int 0 :: .long 0 :: .int 0 :: .long 0 :: .null :: .null :: .null :: .null :: .null :: .null :: .null :: .null :: .null :: .null :: .null :: .null :: .null :: .null :: .null :: .null :: .long 0 :: .long 0 :: .int 0 :: .int 0 :: .int 0 :: .long 0 :: .long 0 :: .long 0 :: .long 0 :: .long 0 :: .long 0 :: .null :: .null :: .null :: [])))] (WM κ.z o sa la e d e1 e2 e3 l0 l1 l2 l3 (f_T_within (if 1 < L then xs 1 else 0) 0 1000) (if 2 < L then xs 2 else 0) (wS (if 0 < L then xs 0 else 0)) fs fl 0 (-1) 0 0 0 (fun _ => 0) (fun _ => 0) (fun _ => 0) false 0 0 0 0 0 0 0 (if false = true then 0 + 1 else 16) (fun _ => false) (fun _ => 0) (fun _ => 0) sg))
  refine v_aload_n X 1 d_L_law_37 rfl ?_
  refine v_iconst X 2 d_L_law_38 (by decide) ?_
  refine v_callX X hS (n9 := 2) (As := [.ref b, .int (nI 2)]) (rest := [.int (if 1 < L then xs 1 else 0), .int (if 0 < L then xs 0 else 0), .ref m, .ref m]) (c_L_cell κ.l κ.D κ.z b L xs 2 (by decide) hL) m415 m416 m29 (by decide +kernel) rfl (Nat.le_of_ble_eq_true rfl) ⟨by decide, by decide⟩ ⟨by decide, by decide⟩ rfl rfl m417 d_L_law_39 (fun v w hg => hg.2) (fun v hg => ?_)
  obtain ⟨rfl, -⟩ := hg
  show V κ 4 37 315 42 [(1, .ref o), (0, .ref b)] [.int (if 2 < L then xs 2 else 0), .int (if 1 < L then xs 1 else 0), .int (if 0 < L then xs 0 else 0), .ref m, .ref m] (wA [(m, .inr (5, (.int 0 :: .int 0 :: .int 0 :: .long 0 :: .int 0 :: .long 0 :: .null :: .null :: .null :: .null :: .null :: .null :: .null :: .null :: .null :: .null :: .null :: .null :: .null :: .null :: .null :: .null :: .long 0 :: .long 0 :: .int 0 :: .int 0 :: .int 0 :: .long 0 :: .long 0 :: .long 0 :: .long 0 :: .long 0 :: .long 0 :: .null :: .null :: .null :: [])))] (WM κ.z o sa la e d e1 e2 e3 l0 l1 l2 l3 (f_T_within (if 1 < L then xs 1 else 0) 0 1000) (if 2 < L then xs 2 else 0) (wS (if 0 < L then xs 0 else 0)) fs fl 0 (-1) 0 0 0 (fun _ => 0) (fun _ => 0) (fun _ => 0) false 0 0 0 0 0 0 0 (if false = true then 0 + 1 else 16) (fun _ => false) (fun _ => 0) (fun _ => 0) sg))
  refine v_callI X (b := m) (k := 37) (n := 315) (n9 := 3) (As := [.int (if 0 < L then xs 0 else 0), .int (if 1 < L then xs 1 else 0), .int (if 2 < L then xs 2 else 0)]) (rest := [.ref m]) (wc := [(m, .inr (5, (.int 0 :: .int 0 :: .int 0 :: .long 0 :: .int 0 :: .long 0 :: .null :: .null :: .null :: .null :: .null :: .null :: .null :: .null :: .null :: .null :: .null :: .null :: .null :: .null :: .null :: .null :: .long 0 :: .long 0 :: .int 0 :: .int 0 :: .int 0 :: .long 0 :: .long 0 :: .long 0 :: .long 0 :: .long 0 :: .long 0 :: .null :: .null :: .null :: [])))]) (wr := (WM κ.z o sa la e d e1 e2 e3 l0 l1 l2 l3 (f_T_within (if 1 < L then xs 1 else 0) 0 1000) (if 2 < L then xs 2 else 0) (wS (if 0 < L then xs 0 else 0)) fs fl 0 (-1) 0 0 0 (fun _ => 0) (fun _ => 0) (fun _ => 0) false 0 0 0 0 0 0 0 (if false = true then 0 + 1 else 16) (fun _ => false) (fun _ => 0) (fun _ => 0) sg)) (c_T_init κ.l κ.D κ.z m (if 0 < L then xs 0 else 0) (if 1 < L then xs 1 else 0) (if 2 < L then xs 2 else 0)) m420 m421 m36 rfl (by decide +kernel) rfl (Nat.le_of_ble_eq_true rfl) ⟨by decide, by decide⟩ ⟨by decide, by decide⟩ rfl rfl m422 d_L_law_42 (fun v w1 hg => ?_)
  obtain ⟨rfl, aK, aP, aQ, aT, aW, aO, aM, aL, aH, aI, aS, aR, aX, aF, aY, aJ, aG, aE, aU, rfl⟩ := hg
  refine v_perm List.perm_append_comm ?_
  show V κ 4 56 549 45 [(1, .ref o), (0, .ref b)] [.ref m] (wA (WM κ.z o sa la e d e1 e2 e3 l0 l1 l2 l3 (f_T_within (if 1 < L then xs 1 else 0) 0 1000) (if 2 < L then xs 2 else 0) (wS (if 0 < L then xs 0 else 0)) fs fl 0 (-1) 0 0 0 (fun _ => 0) (fun _ => 0) (fun _ => 0) false 0 0 0 0 0 0 0 (if false = true then 0 + 1 else 16) (fun _ => false) (fun _ => 0) (fun _ => 0) sg) (WT κ.z m aK aP aQ aT aW aO aM aL aH aI aS aR aX aF aY aJ aG aE aU (wS (if 0 < L then xs 0 else 0)) (f_T_within (if 1 < L then xs 1 else 0) 0 1000) (if 2 < L then xs 2 else 0) 0 false 0 0 0 false 0 0 0 0 0 0 0 0 (fun _ => 0) (fun _ => false) (fun _ => 0) (fun _ => 0) (fun _ => false) (fun _ => 0) (fun _ => 0) (fun _ => 0) (fun _ => 0) (fun _ => 0) (itS (fun _ => 0) 6) (fun _ => 0) (fun _ => 0) (fun _ => 0) (fun _ => 0) (fun _ => false) (fun _ => false) (fun _ => 0) (fun _ => 0)))
  refine v_astore_n X d_L_law_45 rfl (by decide) (lv' := [(2, .ref m), (1, .ref o), (0, .ref b)]) rfl ?_
  refine v_iconst X 3 d_L_law_46 (by decide) ?_
  refine v_istore_n X d_L_law_47 rfl (by decide) (lv' := [(3, .int 3), (2, .ref m), (1, .ref o), (0, .ref b)]) rfl ?_
  exact lp_law X b o sa la e d e1 e2 e3 l0 l1 l2 l3 (f_T_within (if 1 < L then xs 1 else 0) 0 1000) (if 2 < L then xs 2 else 0) (wS (if 0 < L then xs 0 else 0)) fs fl m aK aP aQ aT aW aO aM aL aH aI aS aR aX aF aY aJ aG aE aU L xs hS hL ⟨f0, f1, f2, f3⟩ ha hA hr hlk hQ 512 0 (by omega) (by decide) 0 (-1) 0 0 0 (fun _ => 0) (fun _ => 0) (fun _ => 0) false 0 0 0 0 0 0 0 0 sg false 0 0 0 (fun _ => 0) (fun _ => false) (fun _ => 0) (fun _ => 0) (fun _ => false) (fun _ => 0) (fun _ => 0) (fun _ => 0) (fun _ => 0) (fun _ => 0) (itS (fun _ => 0) 6) (fun _ => 0) (fun _ => 0) (fun _ => 0) (fun _ => 0) (fun _ => false) (fun _ => false) (fun _ => 0) (fun _ => 0) (inv_start (if 0 < L then xs 0 else 0) (if 1 < L then xs 1 else 0) fs sg hsg)
theorem whole_start {p : Program} {e : Env} {s : State} {m : MethodId} {below : List Frame} {meth : Method} {c : Code} (l : Launch) {b L : Nat} {xs : Nat → Int32} (hL : L ≤ 4611) (C0 : lw_At p s m meth c b L xs) : W p l e room_1 s m #[Value.ref b] below meth c s.heap [] 0 0 (lw_Z below #[Value.ref b] s) (entryFrame m ([Value.ref b] : List Value).toArray 4) := by
  obtain ⟨hx, hb, hr, hml, hown, hts, hX, hbl, hlk, hgv⟩ := C0
  have hB : ∀ w ∈ BIG, w.before #[Value.ref b] s = true := fun w h => hts w (big_ok w h).1
  have hN : NS s := ⟨fun q hq => va_Nw.of rfl (hts _ (nest_in q hq)), va_AO.of (hts _ ao_Sv), va_AO.of (hts _ ao_Le)⟩
  obtain ⟨D, z, hK⟩ := start_K hB hN
  rw [lg_entry_eq]
  exact law_body (κ := (p, l, e, room_1, s, m, #[Value.ref b], below, meth, c, D, z, (fun q => s.heap.size ≤ q), lw_Z below #[Value.ref b] s)) ⟨hx, hb, hml, hown, hB, hK, fun q h => h, rfl, hN⟩ b L xs ⟨hX, hbl, Nat.not_le.mpr hbl⟩ hL rfl rfl hr hlk rfl _ _ _ (fun k q h => by cases h) va_D.none va_S.rf (lv_entry [Value.ref b] (Nat.le_of_ble_eq_true rfl))
