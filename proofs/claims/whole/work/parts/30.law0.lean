/-! 30.law0: the law's start; its script; its end -/
theorem nest_in : ∀ q ∈ NEST, Cond.methodLinkNest q.1 q.2.1 q.2.2.1 q.2.2.2 ∈ lw_tbl := by
  exact List.forall_mem_cons.mpr ⟨List.mem_of_getElem? (i := 55) (by decide +kernel), List.forall_mem_cons.mpr ⟨List.mem_of_getElem? (i := 104) (by decide +kernel), List.forall_mem_cons.mpr ⟨List.mem_of_getElem? (i := 123) (by decide +kernel), List.forall_mem_cons.mpr ⟨List.mem_of_getElem? (i := 153) (by decide +kernel), List.forall_mem_cons.mpr ⟨List.mem_of_getElem? (i := 300) (by decide +kernel), List.forall_mem_cons.mpr ⟨List.mem_of_getElem? (i := 445) (by decide +kernel), List.forall_mem_nil _⟩⟩⟩⟩⟩⟩
theorem ao_Sv : Cond.arrayOver (.object R_Sv) ∈ lw_tbl := List.mem_of_getElem? (i := 53) (by decide +kernel)
theorem ao_Le : Cond.arrayOver (.object R_Le) ∈ lw_tbl := List.mem_of_getElem? (i := 102) (by decide +kernel)
theorem m38 : (Jvm.Cond.instantiable "MajorityClock" (8 : Nat)) ∈ BIG := big0 _ (List.mem_of_getElem? (i := 38) rfl)
theorem m419 : (Jvm.Cond.instantiable "MajorityClockModel" (36 : Nat)) ∈ BIG := big8 _ (List.mem_of_getElem? (i := 19) rfl)
theorem arr_prim {s : State} {args : Array Value} {ty : FieldType} (hp : ty = .int ∨ ty = .long ∨ ty = .boolean) (h : (Cond.arrayClass ty).before args s = true) : ∃ cA : ClassId, ArrOfT s cA ty ∧ va_RA s cA ty := by
  obtain ⟨cA, kA, comp, h1, h2, h3⟩ := Cond.arrayClass_spec h
  exact ⟨cA, fun n z => ⟨(fun k h => by cases h), kA, h2, comp, h3⟩, by rcases hp with rfl | rfl | rfl <;> exact h1⟩
theorem arr_obj {s : State} {C : String} (h : va_AO C s) : ∃ cA : ClassId, ArrOfT s cA (.object C) ∧ va_RA s cA (.object C) := by
  obtain ⟨comp, cA, kA, h1, h2, h3, h4, h5⟩ := Cond.arrayOver_spec h
  exact ⟨cA, fun n z => ⟨(fun k h => by cases h), kA, h3, comp, h4⟩, kA, comp, h3, h4, h1, h5⟩
theorem start_K {s : State} {args : Array Value} (hb : ∀ w ∈ BIG, w.before args s = true) (hn : NS s) : ∃ (D : va_G) (z : Nat → ClassId), va_K D CLS (TY z) s := by
  obtain ⟨c0, i0, k0⟩ := u_known (n := 6) hb li_E (hb _ m101)
  obtain ⟨c1, i1, k1⟩ := u_known (n := 3) hb li_Le (hb _ m87)
  obtain ⟨c2, i2, k2⟩ := u_known (n := 9) hb li_Sd (hb _ m123)
  obtain ⟨c3, i3, k3⟩ := u_known (n := 12) hb li_Sv (hb _ m53)
  obtain ⟨c4, i4, k4⟩ := u_known (n := 8) hb li_M (hb _ m38)
  obtain ⟨c5, i5, k5⟩ := u_known (n := 36) hb li_T (hb _ m419)
  obtain ⟨z0, a0, b0⟩ := arr_prim (Or.inl rfl) (hb _ m121)
  obtain ⟨z1, a1, b1⟩ := arr_prim (Or.inr (Or.inl rfl)) (hb _ m85)
  obtain ⟨z2, a2, b2⟩ := arr_prim (Or.inr (Or.inr rfl)) (hb _ m499)
  obtain ⟨z3, a3, b3⟩ := arr_obj hn.2.1
  obtain ⟨z4, a4, b4⟩ := arr_obj hn.2.2
  refine ⟨(fun k => match k with | 0 => c0 | 1 => c1 | 2 => c2 | 3 => c3 | 4 => c4 | _ => c5, fun k => match k with | 0 => i0 | 1 => i1 | 2 => i2 | 3 => i3 | 4 => i4 | _ => i5), (fun k => match k with | 0 => z0 | 1 => z1 | 2 => z2 | 3 => z3 | _ => z4), ?_, ?_⟩
  · intro k q hk
    match k, hk with
    | 0, hk => cases hk; exact k0
    | 1, hk => cases hk; exact k1
    | 2, hk => cases hk; exact k2
    | 3, hk => cases hk; exact k3
    | 4, hk => cases hk; exact k4
    | 5, hk => cases hk; exact k5
    | k + 6, hk => cases hk
  · intro k q hk
    match k, hk with
    | 0, hk => cases hk; exact ⟨a0, b0⟩
    | 1, hk => cases hk; exact ⟨a1, b1⟩
    | 2, hk => cases hk; exact ⟨a2, b2⟩
    | 3, hk => cases hk; exact ⟨a3, b3⟩
    | 4, hk => cases hk; exact ⟨a4, b4⟩
    | k + 5, hk => cases hk
/-- the script, as the law and its helper have it -/
def Scr (κ : VC) (b L : Nat) (xs : Nat → Int32) : Prop := va_X b L xs κ.s κ.s.heap ∧ b < κ.s.heap.size ∧ ¬ κ.A b
section VS
variable {κ : VC} {cc : ByteArray} {own : String} {rm : Room} {nL k n pc : Nat} {lv : List (Nat × Value)} {rest : List Value} {ws : va_W} {b L : Nat} {xs : Nat → Int32}
theorem v_sld (X : Cx κ cc own rm nL) (hX : Scr κ b L xs) {j : Nat} (hj : j < L) (hL : L < 2 ^ 31) (d : decode cc pc = .ok (.iaload, 1)) (h : V κ nL k n (pc + 1) lv (.int (xs j) :: rest) ws) : V κ nL k n pc lv (.int (nI j) :: .ref b :: rest) ws := fun H locs ls hP hD hS hl => va_sld X.1 X.2.1 hX.1 hX.2.1 hX.2.2 hS (vp_in_nI hj hL) d (by rw [nI_clamp (by omega)]; exact h H locs ls hP hD hS hl)
theorem v_sldE (X : Cx κ cc own rm nL) (hX : Scr κ b L xs) {j : Nat} {x : Int32} (hj : j < L) (hL : L < 2 ^ 31) (hx : xs j = x) (d : decode cc pc = .ok (.iaload, 1)) (h : V κ nL k n (pc + 1) lv (.int x :: rest) ws) : V κ nL k n pc lv (.int (nI j) :: .ref b :: rest) ws := v_sld X hX hj hL d (by rw [hx]; exact h)
theorem v_slen (X : Cx κ cc own rm nL) (hX : Scr κ b L xs) (d : decode cc pc = .ok (.arraylength, 1)) (h : V κ nL k n (pc + 1) lv (.int (nI L) :: rest) ws) : V κ nL k n pc lv (.ref b :: rest) ws := fun H locs ls hP hD hS hl => va_slen X.1 X.2.1 hX.1 hX.2.1 hX.2.2 hS d (h H locs ls hP hD hS hl)
theorem v_tabOut (X : Cx κ cc own rm nL) (tgt : Nat) {dflt lo hi : Int} {offs : Array Int} {len : Nat} {x : Int32} (d : decode cc pc = .ok (.tableswitch dflt lo hi offs, len)) (hx : x.toInt < lo ∨ hi < x.toInt) (ht : (pc : Int) + dflt = (tgt : Int)) (h : V κ nL k n tgt lv rest ws) : V κ nL k n pc lv (.int x :: rest) ws := fun H locs ls hP hD hS hl => lv_tableOut X.1 X.2.1 d hx ht (h H locs ls hP hD hS hl)
theorem v_tabIn (X : Cx κ cc own rm nL) (tgt : Nat) {dflt lo hi off : Int} {offs : Array Int} {len : Nat} {x : Int32} (d : decode cc pc = .ok (.tableswitch dflt lo hi offs, len)) (h1 : ¬ x.toInt < lo) (h2 : ¬ hi < x.toInt) (ho : offs[(x.toInt - lo).toNat]? = some off) (ht : (pc : Int) + off = (tgt : Int)) (h : V κ nL k n tgt lv rest ws) : V κ nL k n pc lv (.int x :: rest) ws := fun H locs ls hP hD hS hl => lv_tableIn X.1 X.2.1 d h1 h2 ho ht (h H locs ls hP hD hS hl)
end VS
/-- a contract of a helper that reads the script -/
def PCX (D : va_G) (z : Nat → ClassId) (b L : Nat) (xs : Nat → Int32) (sz : Nat) (U : State) : Prop := PC D z [] sz U ∧ va_X b L xs U U.heap ∧ b < sz
def CtrX (l : Launch) (D : va_G) (z : Nat → ClassId) (b L : Nat) (xs : Nat → Int32) (y : MethodName) (cc : ByteArray) (maxL : Nat) (ret : Option FieldType) (rm : Room) (av : List Value) (G : Option Value → va_W → Prop) : Prop :=
  ∀ sz : Nat, Met l y (Cond.code y cc maxL ret :: BIG) rm (va_Pc av (PCX D z b L xs sz)) (QG D G (va_A [] sz)) 0 0 (va_A [] sz)
theorem met_X {l : Launch} {D : va_G} {z : Nat → ClassId} {b L : Nat} {xs : Nat → Int32} {y : MethodName} {rm : Room} {av : List Value} {G : Option Value → va_W → Prop} {own nm : String} {cc : ByteArray} {maxL : Nat} {ret : Option FieldType} (hy : plainFor y = true) (ho : y.cls = own) (hnm : y.name = nm) (hsl : (lg_sl av).length ≤ maxL)
    (body : ∀ κ : VC, κ.l = l → κ.D = D → κ.z = z → Cx κ cc own rm maxL → Rx κ nm ret G 0 0 → Scr κ b L xs → V κ maxL 0 0 0 (lv_args 0 av) [] []) : CtrX l D z b L xs y cc maxL ret rm av G := by
  subst ho
  subst hnm
  intro sz
  refine met_F (cc := cc) (maxL := maxL) (ret := ret) hy rfl ?_
  intro p e s m args below meth c s₁ B hml hv
  obtain ⟨rfl, ⟨hsz, hP, hK, hD0, hN⟩, hX, hbl⟩ := hv
  subst hsz
  have hD := hD0.self (sz := s.heap.size)
  rw [lg_entry_eq]
  exact body (p, l, e, (headSpec (Cond.code y cc maxL ret :: BIG) rm).room, s, m, av.toArray, below, meth, c, D, z, va_A [] s.heap.size, MQ below (QG D G (va_A [] s.heap.size)) av.toArray s 0 0 (va_A [] s.heap.size)) rfl rfl rfl ⟨B.exec, B.bytes, hml, findClass_of_methodNamed B.named, fun w h => atoms_spec (ws := Cond.code y cc maxL ret :: BIG) B.pre w (List.mem_cons_of_mem _ h), hK, fun q h => Or.inr h, rfl, hN⟩ ⟨B.returns, B.notSynchronized, rfl, (name_of_methodNamed B.named B.method).1⟩ ⟨hX, hbl, fun q => by
    rcases q with ⟨k, e, q⟩ | q
    · cases q
    · exact absurd hbl (Nat.not_lt.mpr q)⟩ _ _ _ hP hD va_S.rf (lv_entry av hsl)
theorem x_blind {D : va_G} {z : Nat → ClassId} {b L : Nat} {xs : Nat → Int32} {av : List Value} {sz : Nat} : FrameBlind (va_Pc av (PCX D z b L xs sz)) := fun a U g mk q => by
  obtain ⟨q0, ⟨q1, qP, qK, qD, qN⟩, qX, qb⟩ := q
  exact ⟨q0, ⟨q1, qP, va_K.moved (u := U) (U := U.calling g mk a) (Vm.Alike.refl U.vm) qK, qD, NS.same rfl qN⟩, va_X.moved (u := U) (U := U.calling g mk a) (Vm.Alike.refl U.vm) qX, qb⟩
theorem va_D.none {A : Nat → Prop} : va_D A [] := ⟨fun i j p q h => (by cases h), fun k q h => (by cases h)⟩
theorem v_callX {κ : VC} {cc : ByteArray} {own : String} {rm rm9 : Room} {nL k n pc n9 index maxL9 b L : Nat} {xs : Nat → Int32} {lv : List (Nat × Value)} {rest As : List Value} {ws : va_W} {y : MethodName} {bytes9 : ByteArray} {ret9 : Option FieldType} {G9 : Option Value → va_W → Prop} (X : Cx κ cc own rm nL) (hX : Scr κ b L xs) (hM : CtrX κ.l κ.D κ.z b L xs y bytes9 maxL9 ret9 rm9 As G9) (h1 : Cond.methodLink own index y ∈ BIG) (h2 : Cond.static y ∈ BIG) (h3 : Cond.initialized y.cls ∈ BIG) (hd : y.cls ≠ "java/lang/invoke/MethodHandle" ∧ y.cls ≠ "java/lang/invoke/VarHandle" ∧ (parseMethodDescriptor y.desc).map (fun d => d.parameters.length) = some n9) (hAs : As.length = n9) (hcat : (rest.map fun v => v.category).sum ≤ 8) (hroom : k ≤ rm.cells ∧ n ≤ rm.slots) (hfl : rm9.frames + 1 ≤ rm.frames ∧ 8 + (maxL9 + 11) + rm9.locals ≤ rm.locals) (hrc : rm9.cells = 0) (hrs : rm9.slots = 0) (hcd : Cond.code y bytes9 maxL9 ret9 ∈ BIG) (d : decode cc pc = .ok (.invokestatic index, 3)) (hG : ∀ v w, G9 v w → w = []) (h : ∀ (v : Option Value), G9 v [] → V κ nL k n (pc + 3) lv (v.toList ++ rest) ws) : V κ nL k n pc lv (As.reverse ++ rest) ws := by
  intro H locs ls hP hD hS hl
  have hFc : ∀ q9, va_A [] H.size q9 → κ.A q9 := fun q9 h9 => by
    rcases h9 with ⟨k9, e9, h9⟩ | h9
    · cases h9
    · exact X.2.2.2.2.2.2.1 q9 (Nat.le_trans hS.1 h9)
  refine va_callG (mc := 0) (ms := 0) (va_runS (Ts := BIG) (As := As) (rest := rest) ⟨X.1, X.2.1, X.2.2.1, X.2.2.2.1, X.2.2.2.2.1⟩ (hM H.size) (va_cwS n9 X.2.2.2.2.1 (big_sub (big_three h1 h2 h3 (big_cons hcd))) rfl hrc hrs hd (by rw [X.2.2.2.2.2.2.2.1]; exact hfl)) ⟨x_blind, fun U hU hW => ⟨rfl, ⟨by rw [hU], fun k9 q9 h9 => (by cases h9), va_K.moved hW.alike X.2.2.2.2.2.1, va_D.none, NS.warm hW X.2.2.2.2.2.2.2.2⟩, va_X.moved hW.alike ((va_X.kept hX.1 (hS.2.1 b hX.2.1 hX.2.2)).kept (by rw [hU])), Nat.lt_of_lt_of_le hX.2.1 hS.1⟩⟩ rfl hAs hl.1 rfl (lv_room hcat) d (by rw [X.2.2.2.2.2.2.2.1]; exact hroom)) hS (fun q _ h => hFc q h) hFc (fun v w1 H1 locs1 hG1 hP1 hD1 hk1 hS1 => ?_)
  have e := hG v w1 hG1
  subst e
  obtain ⟨hP2, hD2⟩ := va_joinQ (X := []) (cx := []) (wr := []) (w1 := []) (pl := ws) hP hD [] [] rfl rfl rfl (fun i h => by cases h) hk1 hFc hP1 hD1
  exact h v hG1 H1 locs1 ls hP2 hD2 hS1 hl
/-- the law's end -/
theorem v_law {κ : VC} {below : List Frame} {b k n pc : Nat} {lv : List (Nat × Value)} {ws : va_W} (X : Cx κ code R_L room_1 4) (ha : κ.a = #[Value.ref b]) (hA : κ.A = fun q => κ.s.heap.size ≤ q) (hr : κ.y.sig.returnType = ret) (hlk : κ.y.locks = false) (hQ : κ.Q = lw_Z κ.b #[Value.ref b] κ.s) (hk : k ≤ 600000) (hn : n ≤ 7302250) (d : decode code pc = .ok (.ireturn, 1)) : V κ 4 k n pc lv [.int 1] ws := by
  intro H locs ls hP hD hS hl
  rw [hQ, X.2.2.2.2.2.2.2.1, ha]
  refine va_forget (fun q hq => by have := hS.2.2 q hq; rw [hA] at this; exact this) ?_
  exact W.widen hk hn (lw_ret X.1 X.2.1 hr hlk d)
