theorem range_map {α : Type} (w : List α) : (List.range w.length).map (fun i => w[i]?) = w.map some := by
  apply List.ext_getElem?
  intro i
  by_cases h : i < w.length
  · simp [h]
  · simp [h]
theorem perm_idx {α : Type} {ws ws' : List α} (is : List Nat) (hi : is.isPerm (List.range ws.length) = true) (hs : is.map (fun i => ws[i]?) = ws'.map some) : ws.Perm ws' := by
  have h2 := (List.isPerm_iff.mp hi).map (fun i => ws[i]?)
  rw [hs, range_map] at h2
  have h4 := h2.filterMap id
  simpa [List.filterMap_map] using h4.symm
theorem pm_in {α : Type} {X cx rx tl : List α} (h : X.Perm (cx ++ rx)) : (X ++ tl).Perm ((cx ++ tl) ++ rx) := by
  refine (h.append_right tl).trans ?_
  rw [List.append_assoc, List.append_assoc]
  exact List.perm_append_comm.append_left cx
theorem pm_out {α : Type} {X cx rx tl : List α} (h : (cx ++ rx).Perm X) : ((cx ++ tl) ++ rx).Perm (X ++ tl) := (pm_in h.symm).symm
theorem pm_T {α : Type} {X cx rx tl : List α} (h : X.Perm (cx ++ rx)) : (X ++ tl).Perm (cx ++ (rx ++ tl)) := by
  rw [← List.append_assoc]
  exact h.append_right tl
theorem pm_U {α : Type} {X cx rx tl : List α} (h : (cx ++ rx).Perm X) : (cx ++ (rx ++ tl)).Perm (X ++ tl) := (pm_T h.symm).symm
theorem pm_new {α : Type} {X tl : List α} {a : α} : ((X ++ tl) ++ [a]).Perm ((X ++ [a]) ++ tl) := by
  rw [List.append_assoc, List.append_assoc]
  exact List.perm_append_comm.append_left X
theorem vq_pw {A : Nat → Prop} {ws : va_W} (h : va_D A ws) : ws.Pairwise (fun p q => p.1 ≠ q.1) :=
  List.pairwise_iff_getElem.mpr fun i j hi hj hij e => by
    have := h.1 i j _ _ (List.getElem?_eq_getElem hi) (List.getElem?_eq_getElem hj) e
    omega
theorem vq_of {A : Nat → Prop} {ws : va_W} (h : ws.Pairwise (fun p q => p.1 ≠ q.1)) (hA : ∀ q ∈ ws, A q.1) : va_D A ws := by
  refine ⟨fun i j p q hi hj e => ?_, fun k q hk => hA q (List.mem_of_getElem? hk)⟩
  obtain ⟨hi', rfl⟩ := List.getElem?_eq_some_iff.mp hi
  obtain ⟨hj', rfl⟩ := List.getElem?_eq_some_iff.mp hj
  rcases Nat.lt_trichotomy i j with h1 | h1 | h1
  · exact absurd e (List.pairwise_iff_getElem.mp h i j hi' hj' h1)
  · exact h1
  · exact absurd e.symm (List.pairwise_iff_getElem.mp h j i hj' hi' h1)
theorem vq_perm {A : Nat → Prop} {ws ws' : va_W} (h : va_D A ws) (hp : ws.Perm ws') : va_D A ws' :=
  vq_of ((hp.pairwise_iff (fun h => Ne.symm h)).mp (vq_pw h)) (fun q hq => by
    obtain ⟨i, hi⟩ := List.getElem?_of_mem (hp.mem_iff.mpr hq)
    exact h.2 i q hi)
theorem vq_permP {D : va_G} {cl : List vw_C} {ws ws' : va_W} {H : Heap} (h : va_P D cl ws H) (hp : ws.Perm ws') : va_P D cl ws' H := fun k q hk => by
  obtain ⟨i, hi⟩ := List.getElem?_of_mem (hp.mem_iff.mpr (List.mem_of_getElem? hk))
  exact h i q hi
/-- the same cells in another order -/
theorem v_perm {κ : VC} {nL k n pc : Nat} {lv : List (Nat × Value)} {st : List Value} {ws ws' : va_W} (hp : ws.Perm ws') (h : V κ nL k n pc lv st ws') : V κ nL k n pc lv st ws := fun H locs ls hP hD hS hv => h H locs ls (vq_permP hP hp) (vq_perm hD hp) hS hv
section VG
variable {p : Program} {l : Launch} {e : Env} {R : Room} {s : State} {m : MethodId} {args : Array Value} {below : List Frame} {meth : Method} {c : Code} {H : Heap} {locs : List Loc} {cells slots : Nat} {Q : State → Prop}
variable {pc : Nat} {ls : Array Slot} {rest st0 : List Value} {a : Array Value} {A0 A1 : Nat → Prop} {H0 : Heap} {mc ms : Nat} {free : Addr → Prop}
theorem va_callG {D : va_G} {G : Option Value → va_W → Prop} (hr : va_Run p l e R s m args below meth c H locs cells slots mc ms (F0 m pc ls st0) rest (QG D G A1 a) free) (hS : va_S A0 H0 H locs) (hA : ∀ q, q < H.size → A1 q → A0 q) (hf : ∀ q, free q → A0 q)
    (kk : ∀ (v : Option Value) (w : va_W) (H1 : Heap) (locs1 : List Loc), G v w → va_P D CLS w H1 → va_D A1 w → (∀ q : Nat, q < H.size → ¬ A1 q → H1[q]? = H[q]?) → va_S A0 H0 H1 locs1 → W p l e R s m args below meth c H1 locs1 (cells + mc) (slots + ms) Q (F0 m (pc + 3) ls (v.toList ++ rest))) : W p l e R s m args below meth c H locs cells slots Q (F0 m pc ls st0) := by
  intro T hT X
  obtain ⟨v, st₀, t, T', L, h0, X', hL, e1, e2, ⟨⟨v2, w, hv, hg, hp, hd⟩, hz, hk⟩, st⟩ := hr T hT X
  cases hv
  rw [h0] at hz hk
  obtain ⟨t2, a1, b1⟩ := kk v w T'.heap (locs ++ L) hg (by rw [e1]; exact hp) hd (fun q h1 h2 => by rw [e1]; exact hk q h1 h2)
    ⟨Nat.le_trans hS.1 (by rw [e1]; exact hz), fun q h1 h2 => by rw [e1, hk q (Nat.lt_of_lt_of_le h1 hS.1) (fun z => h2 (hA q (Nat.lt_of_lt_of_le h1 hS.1) z))]; exact hS.2.1 q h1 h2, fun q hq => by
      rcases List.mem_append.mp hq with h | h
      · exact hS.2.2 q h
      · exact hf _ (hL q h)⟩ T' rfl X'
  exact ⟨t2, st t2 a1, b1⟩
end VG
section VC9
variable {κ : VC} {cc : ByteArray} {own : String} {rm : Room} {nL k n pc : Nat} {lv : List (Nat × Value)} {rest : List Value} {ws : va_W}
variable {y : MethodName} {rm9 : Room} {As : List Value} {b : Nat} {wc wr : va_W} {G9 : Option Value → va_W → Prop} {mc9 ms9 maxL9 n9 index ci : Nat} {bytes9 : ByteArray} {ret9 : Option FieldType} {C host : String} {T9 : u_T} {N9 : Nat} {fs : List Value}
theorem v_blind {D : va_G} {z : Nat → ClassId} {av : List Value} {wc : va_W} {sz : Nat} : FrameBlind (va_Pc av (PC D z wc sz)) := fun a U g mk q => by
  obtain ⟨q0, q1, qP, qK, qD, qN⟩ := q
  exact ⟨q0, q1, qP, va_K.moved (u := U) (U := U.calling g mk a) (Vm.Alike.refl U.vm) qK, qD, NS.same rfl qN⟩
theorem big_sub {w9 : List Cond} (h : ∀ w ∈ w9, w ∈ BIG) : GoodIn BIG w9 := fun w hw => ⟨h w hw, (big_ok w (h w hw)).2⟩
theorem big_cons {c9 : Cond} (h : c9 ∈ BIG) : ∀ w ∈ c9 :: BIG, w ∈ BIG := fun w hw => by
  rcases List.mem_cons.mp hw with rfl | h2
  · exact h
  · exact h2
theorem big_four {a b c d : Cond} {w9 : List Cond} (ha : a ∈ BIG) (hb : b ∈ BIG) (hc : c ∈ BIG) (hd : d ∈ BIG) (h : ∀ w ∈ w9, w ∈ BIG) : ∀ w ∈ [a, b, c, d] ++ w9, w ∈ BIG := fun w hw => by
  rcases List.mem_append.mp hw with h1 | h1
  · simp only [List.mem_cons, List.not_mem_nil, or_false] at h1
    rcases h1 with rfl | rfl | rfl | rfl <;> assumption
  · exact h w h1
theorem big_three {a b c : Cond} {w9 : List Cond} (ha : a ∈ BIG) (hb : b ∈ BIG) (hc : c ∈ BIG) (h : ∀ w ∈ w9, w ∈ BIG) : ∀ w ∈ [a, b, c] ++ w9, w ∈ BIG := fun w hw => by
  rcases List.mem_append.mp hw with h1 | h1
  · simp only [List.mem_cons, List.not_mem_nil, or_false] at h1
    rcases h1 with rfl | rfl | rfl <;> assumption
  · exact h w h1
theorem v_callV (X : Cx κ cc own rm nL) (hM : Ctr κ.l κ.D κ.z y bytes9 maxL9 ret9 rm9 (.ref b :: As) wc G9 mc9 ms9) (q0 : Nat) (hq : wc[q0]? = some (b, .inr (ci, fs))) (hcC : CLS[ci]? = some (C, T9, N9)) (h1 : Cond.methodLink own index y ∈ BIG) (h2 : Cond.instanceMethod y ∈ BIG) (h3 : Cond.selects C y y ∈ BIG) (h4 : Cond.initialized C ∈ BIG) (hd : y.cls = C ∧ y.cls ≠ "java/lang/invoke/MethodHandle" ∧ y.cls ≠ "java/lang/invoke/VarHandle" ∧ (parseMethodDescriptor y.desc).map (fun d => d.parameters.length) = some n9) (hAs : As.length = n9) (hcat : (rest.map fun v => v.category).sum ≤ 8) (hroom : k + mc9 ≤ rm.cells ∧ n + ms9 ≤ rm.slots) (hfl : rm9.frames + 1 ≤ rm.frames ∧ 8 + (maxL9 + 11) + rm9.locals ≤ rm.locals) (hrc : rm9.cells = mc9) (hrs : rm9.slots = ms9) (hcd : Cond.code y bytes9 maxL9 ret9 ∈ BIG) (d : decode cc pc = .ok (.invokevirtual index, 3)) (h : ∀ (v : Option Value) (w1 : va_W), G9 v w1 → V κ nL (k + mc9) (n + ms9) (pc + 3) lv (v.toList ++ rest) (w1 ++ wr)) : V κ nL k n pc lv (As.reverse ++ .ref b :: rest) (wc ++ wr) := by
  intro H locs ls hP hD hS hl
  have hat : ∀ (k9 : Nat) (q9 : Nat × va_E), wc[k9]? = some q9 → (wc ++ wr)[k9]? = some q9 := fun k9 q9 h9 => by rw [List.getElem?_append_left (List.getElem?_eq_some_iff.mp h9).1]; exact h9
  have hPc : va_P κ.D CLS wc H := fun k9 q9 h9 => hP k9 q9 (hat k9 q9 h9)
  have hDc : va_D κ.A wc := ⟨fun i9 j9 p9 q9 h8 h9 e9 => hD.1 i9 j9 p9 q9 (hat i9 p9 h8) (hat j9 q9 h9) e9, fun k9 q9 h9 => hD.2 k9 q9 (hat k9 q9 h9)⟩
  have hFc : ∀ q9, va_A wc H.size q9 → κ.A q9 := fun q9 h9 => by
    rcases h9 with ⟨k9, e9, h9⟩ | h9
    · exact hD.2 k9 (q9, e9) (hat k9 _ h9)
    · exact X.2.2.2.2.2.2.1 q9 (Nat.le_trans hS.1 h9)
  refine va_callG (va_runV (Ts := BIG) (As := As) (rest := rest) ⟨X.1, X.2.1, X.2.2.1, X.2.2.2.1, X.2.2.2.2.1⟩ (hM H.size) (cwV n9 X.2.2.2.2.1 (big_sub (big_four h1 h2 h3 h4 (big_cons hcd))) rfl hrc hrs hd (by rw [X.2.2.2.2.2.2.2.1]; exact hfl)) ⟨v_blind, va_recv X.2.2.2.2.2.1 hPc hcC hq, fun U hU hW => ⟨rfl, by rw [hU], by rw [hU]; exact hPc, va_K.moved hW.alike X.2.2.2.2.2.1, hDc.weaken (fun _ _ _ _ => trivial), NS.warm hW X.2.2.2.2.2.2.2.2⟩⟩ rfl hAs hl.1 rfl (lv_room hcat) d (by rw [X.2.2.2.2.2.2.2.1]; exact hroom)) hS (fun q _ h => hFc q h) hFc (fun v w1 H1 locs1 hG hP1 hD1 hk1 hS1 => ?_)
  obtain ⟨hP2, hD2⟩ := va_joinQ (X := wc) (cx := wc) (wr := []) (w1 := w1) (pl := wr) hP hD (List.range wc.length) [] (range_map wc) rfl rfl (fun i h => by cases h) hk1 hFc hP1 hD1
  exact h v w1 hG H1 locs1 ls hP2 hD2 hS1 hl
theorem v_callS (X : Cx κ cc own rm nL) (hM : Ctr κ.l κ.D κ.z y bytes9 maxL9 ret9 rm9 As wc G9 mc9 ms9) (h1 : Cond.methodLink own index y ∈ BIG) (h2 : Cond.static y ∈ BIG) (h3 : Cond.initialized y.cls ∈ BIG) (hd : y.cls ≠ "java/lang/invoke/MethodHandle" ∧ y.cls ≠ "java/lang/invoke/VarHandle" ∧ (parseMethodDescriptor y.desc).map (fun d => d.parameters.length) = some n9) (hAs : As.length = n9) (hcat : (rest.map fun v => v.category).sum ≤ 8) (hroom : k + mc9 ≤ rm.cells ∧ n + ms9 ≤ rm.slots) (hfl : rm9.frames + 1 ≤ rm.frames ∧ 8 + (maxL9 + 11) + rm9.locals ≤ rm.locals) (hrc : rm9.cells = mc9) (hrs : rm9.slots = ms9) (hcd : Cond.code y bytes9 maxL9 ret9 ∈ BIG) (d : decode cc pc = .ok (.invokestatic index, 3)) (h : ∀ (v : Option Value) (w1 : va_W), G9 v w1 → V κ nL (k + mc9) (n + ms9) (pc + 3) lv (v.toList ++ rest) (w1 ++ wr)) : V κ nL k n pc lv (As.reverse ++ rest) (wc ++ wr) := by
  intro H locs ls hP hD hS hl
  have hat : ∀ (k9 : Nat) (q9 : Nat × va_E), wc[k9]? = some q9 → (wc ++ wr)[k9]? = some q9 := fun k9 q9 h9 => by rw [List.getElem?_append_left (List.getElem?_eq_some_iff.mp h9).1]; exact h9
  have hPc : va_P κ.D CLS wc H := fun k9 q9 h9 => hP k9 q9 (hat k9 q9 h9)
  have hDc : va_D κ.A wc := ⟨fun i9 j9 p9 q9 h8 h9 e9 => hD.1 i9 j9 p9 q9 (hat i9 p9 h8) (hat j9 q9 h9) e9, fun k9 q9 h9 => hD.2 k9 q9 (hat k9 q9 h9)⟩
  have hFc : ∀ q9, va_A wc H.size q9 → κ.A q9 := fun q9 h9 => by
    rcases h9 with ⟨k9, e9, h9⟩ | h9
    · exact hD.2 k9 (q9, e9) (hat k9 _ h9)
    · exact X.2.2.2.2.2.2.1 q9 (Nat.le_trans hS.1 h9)
  refine va_callG (va_runS (Ts := BIG) (As := As) (rest := rest) ⟨X.1, X.2.1, X.2.2.1, X.2.2.2.1, X.2.2.2.2.1⟩ (hM H.size) (va_cwS n9 X.2.2.2.2.1 (big_sub (big_three h1 h2 h3 (big_cons hcd))) rfl hrc hrs hd (by rw [X.2.2.2.2.2.2.2.1]; exact hfl)) ⟨v_blind, fun U hU hW => ⟨rfl, by rw [hU], by rw [hU]; exact hPc, va_K.moved hW.alike X.2.2.2.2.2.1, hDc.weaken (fun _ _ _ _ => trivial), NS.warm hW X.2.2.2.2.2.2.2.2⟩⟩ rfl hAs hl.1 rfl (lv_room hcat) d (by rw [X.2.2.2.2.2.2.2.1]; exact hroom)) hS (fun q _ h => hFc q h) hFc (fun v w1 H1 locs1 hG hP1 hD1 hk1 hS1 => ?_)
  obtain ⟨hP2, hD2⟩ := va_joinQ (X := wc) (cx := wc) (wr := []) (w1 := w1) (pl := wr) hP hD (List.range wc.length) [] (range_map wc) rfl rfl (fun i h => by cases h) hk1 hFc hP1 hD1
  exact h v w1 hG H1 locs1 ls hP2 hD2 hS1 hl
theorem v_callSN (X : Cx κ cc own rm nL) (hM : Ctr κ.l κ.D κ.z y bytes9 maxL9 ret9 rm9 As wc G9 mc9 ms9) (h1 : (own, index, y, host) ∈ NEST) (h2 : Cond.static y ∈ BIG) (h3 : Cond.initialized y.cls ∈ BIG) (hd : y.cls ≠ "java/lang/invoke/MethodHandle" ∧ y.cls ≠ "java/lang/invoke/VarHandle" ∧ (parseMethodDescriptor y.desc).map (fun d => d.parameters.length) = some n9) (hAs : As.length = n9) (hcat : (rest.map fun v => v.category).sum ≤ 8) (hroom : k + mc9 ≤ rm.cells ∧ n + ms9 ≤ rm.slots) (hfl : rm9.frames + 1 ≤ rm.frames ∧ 8 + (maxL9 + 11) + rm9.locals ≤ rm.locals) (hrc : rm9.cells = mc9) (hrs : rm9.slots = ms9) (hcd : Cond.code y bytes9 maxL9 ret9 ∈ BIG) (d : decode cc pc = .ok (.invokestatic index, 3)) (h : ∀ (v : Option Value) (w1 : va_W), G9 v w1 → V κ nL (k + mc9) (n + ms9) (pc + 3) lv (v.toList ++ rest) (w1 ++ wr)) : V κ nL k n pc lv (As.reverse ++ rest) (wc ++ wr) := by
  intro H locs ls hP hD hS hl
  have hat : ∀ (k9 : Nat) (q9 : Nat × va_E), wc[k9]? = some q9 → (wc ++ wr)[k9]? = some q9 := fun k9 q9 h9 => by rw [List.getElem?_append_left (List.getElem?_eq_some_iff.mp h9).1]; exact h9
  have hPc : va_P κ.D CLS wc H := fun k9 q9 h9 => hP k9 q9 (hat k9 q9 h9)
  have hDc : va_D κ.A wc := ⟨fun i9 j9 p9 q9 h8 h9 e9 => hD.1 i9 j9 p9 q9 (hat i9 p9 h8) (hat j9 q9 h9) e9, fun k9 q9 h9 => hD.2 k9 q9 (hat k9 q9 h9)⟩
  have hFc : ∀ q9, va_A wc H.size q9 → κ.A q9 := fun q9 h9 => by
    rcases h9 with ⟨k9, e9, h9⟩ | h9
    · exact hD.2 k9 (q9, e9) (hat k9 _ h9)
    · exact X.2.2.2.2.2.2.1 q9 (Nat.le_trans hS.1 h9)
  refine va_callG (va_runSN (Ts := BIG) (host := host) (As := As) (rest := rest) ⟨X.1, X.2.1, X.2.2.1, X.2.2.2.1, X.2.2.2.2.1⟩ (hM H.size) ⟨va_cnB n9 X.2.2.2.2.1 (big_sub (big_cons hcd)) rfl hrc hrs (X.2.2.2.2.2.2.2.2.1 _ h1) (X.2.2.2.2.1 _ h3) hd (by rw [X.2.2.2.2.2.2.2.1]; exact hfl), X.2.2.2.2.1 _ h2, trivial⟩ ⟨v_blind, fun U hU hW => ⟨rfl, by rw [hU], by rw [hU]; exact hPc, va_K.moved hW.alike X.2.2.2.2.2.1, hDc.weaken (fun _ _ _ _ => trivial), NS.warm hW X.2.2.2.2.2.2.2.2⟩⟩ rfl hAs hl.1 rfl (lv_room hcat) d (by rw [X.2.2.2.2.2.2.2.1]; exact hroom)) hS (fun q _ h => hFc q h) hFc (fun v w1 H1 locs1 hG hP1 hD1 hk1 hS1 => ?_)
  obtain ⟨hP2, hD2⟩ := va_joinQ (X := wc) (cx := wc) (wr := []) (w1 := w1) (pl := wr) hP hD (List.range wc.length) [] (range_map wc) rfl rfl (fun i h => by cases h) hk1 hFc hP1 hD1
  exact h v w1 hG H1 locs1 ls hP2 hD2 hS1 hl
theorem v_callIN (X : Cx κ cc own rm nL) (hM : Ctr κ.l κ.D κ.z y bytes9 maxL9 none rm9 (.ref b :: As) wc G9 mc9 ms9) (h1 : (own, index, y, host) ∈ NEST) (h2 : Cond.instanceMethod y ∈ BIG) (h3 : Cond.initialized y.cls ∈ BIG) (h4 : y.name = "<init>") (hd : y.cls ≠ "java/lang/invoke/MethodHandle" ∧ y.cls ≠ "java/lang/invoke/VarHandle" ∧ (parseMethodDescriptor y.desc).map (fun d => d.parameters.length) = some n9) (hAs : As.length = n9) (hcat : (rest.map fun v => v.category).sum ≤ 8) (hroom : k + mc9 ≤ rm.cells ∧ n + ms9 ≤ rm.slots) (hfl : rm9.frames + 1 ≤ rm.frames ∧ 8 + (maxL9 + 11) + rm9.locals ≤ rm.locals) (hrc : rm9.cells = mc9) (hrs : rm9.slots = ms9) (hcd : Cond.code y bytes9 maxL9 none ∈ BIG) (d : decode cc pc = .ok (.invokespecial index, 3)) (h : ∀ (v : Option Value) (w1 : va_W), G9 v w1 → V κ nL (k + mc9) (n + ms9) (pc + 3) lv (v.toList ++ rest) (w1 ++ wr)) : V κ nL k n pc lv (As.reverse ++ .ref b :: rest) (wc ++ wr) := by
  intro H locs ls hP hD hS hl
  have hat : ∀ (k9 : Nat) (q9 : Nat × va_E), wc[k9]? = some q9 → (wc ++ wr)[k9]? = some q9 := fun k9 q9 h9 => by rw [List.getElem?_append_left (List.getElem?_eq_some_iff.mp h9).1]; exact h9
  have hPc : va_P κ.D CLS wc H := fun k9 q9 h9 => hP k9 q9 (hat k9 q9 h9)
  have hDc : va_D κ.A wc := ⟨fun i9 j9 p9 q9 h8 h9 e9 => hD.1 i9 j9 p9 q9 (hat i9 p9 h8) (hat j9 q9 h9) e9, fun k9 q9 h9 => hD.2 k9 q9 (hat k9 q9 h9)⟩
  have hFc : ∀ q9, va_A wc H.size q9 → κ.A q9 := fun q9 h9 => by
    rcases h9 with ⟨k9, e9, h9⟩ | h9
    · exact hD.2 k9 (q9, e9) (hat k9 _ h9)
    · exact X.2.2.2.2.2.2.1 q9 (Nat.le_trans hS.1 h9)
  refine va_callG (va_runIN (Ts := BIG) (host := host) (As := As) (rest := rest) ⟨X.1, X.2.1, X.2.2.1, X.2.2.2.1, X.2.2.2.2.1⟩ (hM H.size) ⟨va_cnB n9 X.2.2.2.2.1 (big_sub (big_cons hcd)) rfl hrc hrs (X.2.2.2.2.2.2.2.2.1 _ h1) (X.2.2.2.2.1 _ h3) hd (by rw [X.2.2.2.2.2.2.2.1]; exact hfl), h4, X.2.2.2.2.1 _ h2⟩ ⟨v_blind, fun U hU hW => ⟨rfl, by rw [hU], by rw [hU]; exact hPc, va_K.moved hW.alike X.2.2.2.2.2.1, hDc.weaken (fun _ _ _ _ => trivial), NS.warm hW X.2.2.2.2.2.2.2.2⟩⟩ rfl hAs hl.1 rfl (lv_room hcat) d (by rw [X.2.2.2.2.2.2.2.1]; exact hroom)) hS (fun q _ h => hFc q h) hFc (fun v w1 H1 locs1 hG hP1 hD1 hk1 hS1 => ?_)
  obtain ⟨hP2, hD2⟩ := va_joinQ (X := wc) (cx := wc) (wr := []) (w1 := w1) (pl := wr) hP hD (List.range wc.length) [] (range_map wc) rfl rfl (fun i h => by cases h) hk1 hFc hP1 hD1
  exact h v w1 hG H1 locs1 ls hP2 hD2 hS1 hl
theorem v_callI (X : Cx κ cc own rm nL) (hM : Ctr κ.l κ.D κ.z y bytes9 maxL9 none rm9 (.ref b :: As) wc G9 mc9 ms9) (h1 : Cond.methodLink own index y ∈ BIG) (h2 : Cond.instanceMethod y ∈ BIG) (h3 : Cond.initialized y.cls ∈ BIG) (h4 : y.name = "<init>") (hd : y.cls ≠ "java/lang/invoke/MethodHandle" ∧ y.cls ≠ "java/lang/invoke/VarHandle" ∧ (parseMethodDescriptor y.desc).map (fun d => d.parameters.length) = some n9) (hAs : As.length = n9) (hcat : (rest.map fun v => v.category).sum ≤ 8) (hroom : k + mc9 ≤ rm.cells ∧ n + ms9 ≤ rm.slots) (hfl : rm9.frames + 1 ≤ rm.frames ∧ 8 + (maxL9 + 11) + rm9.locals ≤ rm.locals) (hrc : rm9.cells = mc9) (hrs : rm9.slots = ms9) (hcd : Cond.code y bytes9 maxL9 none ∈ BIG) (d : decode cc pc = .ok (.invokespecial index, 3)) (h : ∀ (v : Option Value) (w1 : va_W), G9 v w1 → V κ nL (k + mc9) (n + ms9) (pc + 3) lv (v.toList ++ rest) (w1 ++ wr)) : V κ nL k n pc lv (As.reverse ++ .ref b :: rest) (wc ++ wr) := by
  intro H locs ls hP hD hS hl
  have hat : ∀ (k9 : Nat) (q9 : Nat × va_E), wc[k9]? = some q9 → (wc ++ wr)[k9]? = some q9 := fun k9 q9 h9 => by rw [List.getElem?_append_left (List.getElem?_eq_some_iff.mp h9).1]; exact h9
  have hPc : va_P κ.D CLS wc H := fun k9 q9 h9 => hP k9 q9 (hat k9 q9 h9)
  have hDc : va_D κ.A wc := ⟨fun i9 j9 p9 q9 h8 h9 e9 => hD.1 i9 j9 p9 q9 (hat i9 p9 h8) (hat j9 q9 h9) e9, fun k9 q9 h9 => hD.2 k9 q9 (hat k9 q9 h9)⟩
  have hFc : ∀ q9, va_A wc H.size q9 → κ.A q9 := fun q9 h9 => by
    rcases h9 with ⟨k9, e9, h9⟩ | h9
    · exact hD.2 k9 (q9, e9) (hat k9 _ h9)
    · exact X.2.2.2.2.2.2.1 q9 (Nat.le_trans hS.1 h9)
  refine va_callG (va_runI (Ts := BIG) (As := As) (rest := rest) ⟨X.1, X.2.1, X.2.2.1, X.2.2.2.1, X.2.2.2.2.1⟩ (hM H.size) (cwI n9 X.2.2.2.2.1 (big_sub (big_cons hcd)) rfl hrc hrs (X.2.2.2.2.1 _ h3) (X.2.2.2.2.1 _ h1) (X.2.2.2.2.1 _ h2) h4 hd (by rw [X.2.2.2.2.2.2.2.1]; exact hfl)) ⟨v_blind, fun U hU hW => ⟨rfl, by rw [hU], by rw [hU]; exact hPc, va_K.moved hW.alike X.2.2.2.2.2.1, hDc.weaken (fun _ _ _ _ => trivial), NS.warm hW X.2.2.2.2.2.2.2.2⟩⟩ rfl hAs hl.1 rfl (lv_room hcat) d (by rw [X.2.2.2.2.2.2.2.1]; exact hroom)) hS (fun q _ h => hFc q h) hFc (fun v w1 H1 locs1 hG hP1 hD1 hk1 hS1 => ?_)
  obtain ⟨hP2, hD2⟩ := va_joinQ (X := wc) (cx := wc) (wr := []) (w1 := w1) (pl := wr) hP hD (List.range wc.length) [] (range_map wc) rfl rfl (fun i h => by cases h) hk1 hFc hP1 hD1
  exact h v w1 hG H1 locs1 ls hP2 hD2 hS1 hl
end VC9

/-- a truth value as a word -/
def bI (t : Bool) : Int32 := cond t 1 0
theorem bI_t : bI true = 1 := rfl
theorem bI_f : bI false = 0 := rfl
theorem bI_0 (t : Bool) : bI t = 0 ↔ ¬ t = true := by cases t <;> decide
theorem narB (t : Bool) : narrow .boolean (.int (bI t)) = .int (bI t) := by cases t <;> decide +kernel
/-- rows of numbers, of truth values -/
def aN (g : Nat → Nat) : Nat → Int32 := fun k => nI (g k)
def aB (g : Nat → Bool) : Nat → Int32 := fun k => bI (g k)
theorem vpnB (t : Bool) : vp_nar .boolean (bI t) = bI t := by cases t <;> decide +kernel
theorem aN_up (g : Nat → Nat) (j x : Nat) : upd (aN g) j (nI x) = aN (va_up g j x) := by
  funext k
  by_cases h : k = j <;> simp [upd, aN, va_up, h]
theorem aB_up (g : Nat → Bool) (j : Nat) (x : Bool) : upd (aB g) j (bI x) = aB (va_up g j x) := by
  funext k
  by_cases h : k = j <;> simp [upd, aB, va_up, h]
theorem va_ups {α : Type} {f : Nat → α} {k : Nat} {x : α} : va_up f k x k = x := by simp [va_up]
theorem va_upn {α : Type} {f : Nat → α} {k j : Nat} {x : α} (h : j ≠ k) : va_up f k x j = f j := by simp [va_up, h]
theorem nI_sub {a b : Nat} (h : b ≤ a) : nI a - nI b = nI (a - b) := by
  have e := nI_add (a - b) b
  rw [Nat.sub_add_cancel h] at e
  rw [← e]
  exact Int32.add_sub_cancel _ _
theorem nI_mul (a b : Nat) : nI a * nI b = nI (a * b) := (Int32.ofNat_mul a b).symm
theorem nI_m1 {a : Nat} (h : 1 ≤ a) : nI a + Int32.ofInt (-1) = nI (a - 1) := by
  have e := nI_sub h
  have e2 : -(nI 1) = Int32.ofInt (-1) := by decide
  rw [← e, Int32.sub_eq_add_neg, e2]
theorem rf_or (r : Option Nat) : va_rf r = .null ∨ ∃ a, va_rf r = .ref a := by
  cases r with
  | none => exact Or.inl rfl
  | some a => exact Or.inr ⟨a, rfl⟩
section VN
variable {κ : VC} {cc : ByteArray} {own : String} {rm : Room} {nL k n pc : Nat} {lv : List (Nat × Value)} {rest : List Value} {ws ws' : va_W}
theorem v_iaddN (X : Cx κ cc own rm nL) {a b : Nat} (d : decode cc pc = .ok (.iadd, 1)) (h : V κ nL k n (pc + 1) lv (.int (nI (a + b)) :: rest) ws) : V κ nL k n pc lv (.int (nI b) :: .int (nI a) :: rest) ws := v_iadd X d (by rw [nI_add]; exact h)
theorem v_isubN (X : Cx κ cc own rm nL) {a b : Nat} (d : decode cc pc = .ok (.isub, 1)) (hb : b ≤ a) (h : V κ nL k n (pc + 1) lv (.int (nI (a - b)) :: rest) ws) : V κ nL k n pc lv (.int (nI b) :: .int (nI a) :: rest) ws := v_isub X d (by rw [nI_sub hb]; exact h)
theorem v_imulN (X : Cx κ cc own rm nL) {a b : Nat} (d : decode cc pc = .ok (.imul, 1)) (h : V κ nL k n (pc + 1) lv (.int (nI (a * b)) :: rest) ws) : V κ nL k n pc lv (.int (nI b) :: .int (nI a) :: rest) ws := v_imul X d (by rw [nI_mul]; exact h)
theorem v_icmpN_eq (X : Cx κ cc own rm nL) (tgt : Nat) {a b : Nat} {off : Int} (d : decode cc pc = .ok (.if_icmp .eq off, 3)) (ht : (pc : Int) + off = (tgt : Int)) (ha : a < 2 ^ 31) (hb : b < 2 ^ 31) (kt : a = b → V κ nL k n tgt lv rest ws) (kf : ¬ a = b → V κ nL k n (pc + 3) lv rest ws) : V κ nL k n pc lv (.int (nI b) :: .int (nI a) :: rest) ws := v_icmp_eq X tgt d ht (fun c => kt ((nI_eq ha hb).mp c)) (fun c => kf (fun z => c ((nI_eq ha hb).mpr z)))
theorem v_icmpN_ne (X : Cx κ cc own rm nL) (tgt : Nat) {a b : Nat} {off : Int} (d : decode cc pc = .ok (.if_icmp .ne off, 3)) (ht : (pc : Int) + off = (tgt : Int)) (ha : a < 2 ^ 31) (hb : b < 2 ^ 31) (kt : ¬ a = b → V κ nL k n tgt lv rest ws) (kf : a = b → V κ nL k n (pc + 3) lv rest ws) : V κ nL k n pc lv (.int (nI b) :: .int (nI a) :: rest) ws := v_icmp_ne X tgt d ht (fun c => kt ((not_congr (nI_eq ha hb)).mp c)) (fun c => kf ((nI_eq ha hb).mp c))
theorem v_icmpN_lt (X : Cx κ cc own rm nL) (tgt : Nat) {a b : Nat} {off : Int} (d : decode cc pc = .ok (.if_icmp .lt off, 3)) (ht : (pc : Int) + off = (tgt : Int)) (ha : a < 2 ^ 31) (hb : b < 2 ^ 31) (kt : a < b → V κ nL k n tgt lv rest ws) (kf : ¬ a < b → V κ nL k n (pc + 3) lv rest ws) : V κ nL k n pc lv (.int (nI b) :: .int (nI a) :: rest) ws := v_icmp_lt X tgt d ht (fun c => kt ((nI_ltI ha hb).mp c)) (fun c => kf (fun z => c ((nI_ltI ha hb).mpr z)))
theorem v_icmpN_ge (X : Cx κ cc own rm nL) (tgt : Nat) {a b : Nat} {off : Int} (d : decode cc pc = .ok (.if_icmp .ge off, 3)) (ht : (pc : Int) + off = (tgt : Int)) (ha : a < 2 ^ 31) (hb : b < 2 ^ 31) (kt : b ≤ a → V κ nL k n tgt lv rest ws) (kf : ¬ b ≤ a → V κ nL k n (pc + 3) lv rest ws) : V κ nL k n pc lv (.int (nI b) :: .int (nI a) :: rest) ws := v_icmp_ge X tgt d ht (fun c => kt ((nI_leI hb ha).mp c)) (fun c => kf (fun z => c ((nI_leI hb ha).mpr z)))
theorem v_icmpN_gt (X : Cx κ cc own rm nL) (tgt : Nat) {a b : Nat} {off : Int} (d : decode cc pc = .ok (.if_icmp .gt off, 3)) (ht : (pc : Int) + off = (tgt : Int)) (ha : a < 2 ^ 31) (hb : b < 2 ^ 31) (kt : b < a → V κ nL k n tgt lv rest ws) (kf : ¬ b < a → V κ nL k n (pc + 3) lv rest ws) : V κ nL k n pc lv (.int (nI b) :: .int (nI a) :: rest) ws := v_icmp_gt X tgt d ht (fun c => kt ((nI_ltI hb ha).mp c)) (fun c => kf (fun z => c ((nI_ltI hb ha).mpr z)))
theorem v_icmpN_le (X : Cx κ cc own rm nL) (tgt : Nat) {a b : Nat} {off : Int} (d : decode cc pc = .ok (.if_icmp .le off, 3)) (ht : (pc : Int) + off = (tgt : Int)) (ha : a < 2 ^ 31) (hb : b < 2 ^ 31) (kt : a ≤ b → V κ nL k n tgt lv rest ws) (kf : ¬ a ≤ b → V κ nL k n (pc + 3) lv rest ws) : V κ nL k n pc lv (.int (nI b) :: .int (nI a) :: rest) ws := v_icmp_le X tgt d ht (fun c => kt ((nI_leI ha hb).mp c)) (fun c => kf (fun z => c ((nI_leI ha hb).mpr z)))
theorem nI_z {a : Nat} (ha : a < 2 ^ 31) : nI a = 0 ↔ a = 0 := by
  have h := nI_eq (b := 0) ha (by decide)
  rw [nI_0] at h
  exact h
theorem nI_zl {a : Nat} (ha : a < 2 ^ 31) : nI a ≤ 0 ↔ a ≤ 0 := by
  have h := nI_leI (b := 0) ha (by decide)
  rw [nI_0] at h
  exact h
theorem nI_zg {a : Nat} (ha : a < 2 ^ 31) : 0 < nI a ↔ 0 < a := by
  have h := nI_ltI (a := 0) (b := a) (by decide) ha
  rw [nI_0] at h
  exact h
theorem v_ifN_eq (X : Cx κ cc own rm nL) (tgt : Nat) {a : Nat} {off : Int} (d : decode cc pc = .ok (.ifCond .eq off, 3)) (ht : (pc : Int) + off = (tgt : Int)) (ha : a < 2 ^ 31) (kt : a = 0 → V κ nL k n tgt lv rest ws) (kf : ¬ a = 0 → V κ nL k n (pc + 3) lv rest ws) : V κ nL k n pc lv (.int (nI a) :: rest) ws := v_if_eq X tgt d ht (fun c => kt ((nI_z ha).mp c)) (fun c => kf (fun z => c ((nI_z ha).mpr z)))
theorem v_ifN_ne (X : Cx κ cc own rm nL) (tgt : Nat) {a : Nat} {off : Int} (d : decode cc pc = .ok (.ifCond .ne off, 3)) (ht : (pc : Int) + off = (tgt : Int)) (ha : a < 2 ^ 31) (kt : ¬ a = 0 → V κ nL k n tgt lv rest ws) (kf : a = 0 → V κ nL k n (pc + 3) lv rest ws) : V κ nL k n pc lv (.int (nI a) :: rest) ws := v_if_ne X tgt d ht (fun c => kt ((not_congr (nI_z ha)).mp c)) (fun c => kf ((nI_z ha).mp c))
theorem v_ifN_gt (X : Cx κ cc own rm nL) (tgt : Nat) {a : Nat} {off : Int} (d : decode cc pc = .ok (.ifCond .gt off, 3)) (ht : (pc : Int) + off = (tgt : Int)) (ha : a < 2 ^ 31) (kt : 0 < a → V κ nL k n tgt lv rest ws) (kf : ¬ 0 < a → V κ nL k n (pc + 3) lv rest ws) : V κ nL k n pc lv (.int (nI a) :: rest) ws := v_if_gt X tgt d ht (fun c => kt ((nI_zg ha).mp c)) (fun c => kf (fun z => c ((nI_zg ha).mpr z)))
theorem v_ifN_le (X : Cx κ cc own rm nL) (tgt : Nat) {a : Nat} {off : Int} (d : decode cc pc = .ok (.ifCond .le off, 3)) (ht : (pc : Int) + off = (tgt : Int)) (ha : a < 2 ^ 31) (kt : a ≤ 0 → V κ nL k n tgt lv rest ws) (kf : ¬ a ≤ 0 → V κ nL k n (pc + 3) lv rest ws) : V κ nL k n pc lv (.int (nI a) :: rest) ws := v_if_le X tgt d ht (fun c => kt ((nI_zl ha).mp c)) (fun c => kf (fun z => c ((nI_zl ha).mpr z)))
theorem v_ifN_ge (X : Cx κ cc own rm nL) (tgt : Nat) {a : Nat} {off : Int} (d : decode cc pc = .ok (.ifCond .ge off, 3)) (ht : (pc : Int) + off = (tgt : Int)) (ha : a < 2 ^ 31) (h : V κ nL k n tgt lv rest ws) : V κ nL k n pc lv (.int (nI a) :: rest) ws := v_if_ge X tgt d ht (fun _ => h) (fun c => absurd (nI_pos' ha) c)
theorem v_ifN_lt (X : Cx κ cc own rm nL) (tgt : Nat) {a : Nat} {off : Int} (d : decode cc pc = .ok (.ifCond .lt off, 3)) (ht : (pc : Int) + off = (tgt : Int)) (ha : a < 2 ^ 31) (h : V κ nL k n (pc + 3) lv rest ws) : V κ nL k n pc lv (.int (nI a) :: rest) ws := v_if_lt X tgt d ht (fun c => absurd c (nI_pos ha)) (fun _ => h)
theorem v_ifB_eq (X : Cx κ cc own rm nL) (tgt : Nat) {t : Bool} {off : Int} (d : decode cc pc = .ok (.ifCond .eq off, 3)) (ht : (pc : Int) + off = (tgt : Int)) (kt : ¬ t = true → V κ nL k n tgt lv rest ws) (kf : t = true → V κ nL k n (pc + 3) lv rest ws) : V κ nL k n pc lv (.int (bI t) :: rest) ws := v_if_eq X tgt d ht (fun c => kt ((bI_0 t).mp c)) (fun c => kf (Decidable.not_not.mp (fun z => c ((bI_0 t).mpr z))))
theorem v_ifB_ne (X : Cx κ cc own rm nL) (tgt : Nat) {t : Bool} {off : Int} (d : decode cc pc = .ok (.ifCond .ne off, 3)) (ht : (pc : Int) + off = (tgt : Int)) (kt : t = true → V κ nL k n tgt lv rest ws) (kf : ¬ t = true → V κ nL k n (pc + 3) lv rest ws) : V κ nL k n pc lv (.int (bI t) :: rest) ws := v_if_ne X tgt d ht (fun c => kt (Decidable.not_not.mp (fun z => c ((bI_0 t).mpr z)))) (fun c => kf ((bI_0 t).mp c))
theorem v_ialdN (X : Cx κ cc own rm nL) (q0 t0 : Nat) {cA : ClassId} {N a j : Nat} {f : Nat → Int32} (ha : ws[q0]? = some (a, .inl (cA, N, .inl f))) (ht : (TY κ.z)[t0]? = some (cA, .int)) (hj : j < N) (hN : N < 2 ^ 31) (d : decode cc pc = .ok (.iaload, 1)) (h : V κ nL k n (pc + 1) lv (.int (f j) :: rest) ws) : V κ nL k n pc lv (.int (nI j) :: .ref a :: rest) ws := fun H locs ls hP hD hS hl => va_iald X.1 X.2.1 X.2.2.2.2.2.1 hP q0 t0 ha ht (vp_in_nI hj hN) d (by rw [nI_clamp (by omega)]; exact (h H locs ls hP hD hS hl))
theorem v_ialdE (X : Cx κ cc own rm nL) (q0 t0 : Nat) {cA : ClassId} {N a j : Nat} {f : Nat → Int32} {x : Int32} (ha : ws[q0]? = some (a, .inl (cA, N, .inl f))) (ht : (TY κ.z)[t0]? = some (cA, .int)) (hj : j < N) (hN : N < 2 ^ 31) (hx : f j = x) (d : decode cc pc = .ok (.iaload, 1)) (h : V κ nL k n (pc + 1) lv (.int x :: rest) ws) : V κ nL k n pc lv (.int (nI j) :: .ref a :: rest) ws := v_ialdN X q0 t0 ha ht hj hN d (by rw [hx]; exact h)
theorem v_laldN (X : Cx κ cc own rm nL) (q0 t0 : Nat) {cA : ClassId} {N a j : Nat} {f : Nat → Int64} (ha : ws[q0]? = some (a, .inl (cA, N, .inr (.inl f)))) (ht : (TY κ.z)[t0]? = some (cA, .long)) (hj : j < N) (hN : N < 2 ^ 31) (d : decode cc pc = .ok (.laload, 1)) (h : V κ nL k n (pc + 1) lv (.long (f j) :: rest) ws) : V κ nL k n pc lv (.int (nI j) :: .ref a :: rest) ws := fun H locs ls hP hD hS hl => va_lald X.1 X.2.1 X.2.2.2.2.2.1 hP q0 t0 ha ht (vp_in_nI hj hN) d (by rw [nI_clamp (by omega)]; exact (h H locs ls hP hD hS hl))
theorem v_laldE (X : Cx κ cc own rm nL) (q0 t0 : Nat) {cA : ClassId} {N a j : Nat} {f : Nat → Int64} {x : Int64} (ha : ws[q0]? = some (a, .inl (cA, N, .inr (.inl f)))) (ht : (TY κ.z)[t0]? = some (cA, .long)) (hj : j < N) (hN : N < 2 ^ 31) (hx : f j = x) (d : decode cc pc = .ok (.laload, 1)) (h : V κ nL k n (pc + 1) lv (.long x :: rest) ws) : V κ nL k n pc lv (.int (nI j) :: .ref a :: rest) ws := v_laldN X q0 t0 ha ht hj hN d (by rw [hx]; exact h)
theorem v_naldN (X : Cx κ cc own rm nL) (q0 t0 : Nat) {cA : ClassId} {N a j : Nat} {f : Nat → Nat} (ha : ws[q0]? = some (a, .inl (cA, N, .inl (aN f)))) (ht : (TY κ.z)[t0]? = some (cA, .int)) (hj : j < N) (hN : N < 2 ^ 31) (d : decode cc pc = .ok (.iaload, 1)) (h : V κ nL k n (pc + 1) lv (.int (nI (f j)) :: rest) ws) : V κ nL k n pc lv (.int (nI j) :: .ref a :: rest) ws := fun H locs ls hP hD hS hl => va_iald X.1 X.2.1 X.2.2.2.2.2.1 hP q0 t0 ha ht (vp_in_nI hj hN) d (by rw [nI_clamp (by omega)]; exact (h H locs ls hP hD hS hl))
theorem v_naldE (X : Cx κ cc own rm nL) (q0 t0 : Nat) {cA : ClassId} {N a j : Nat} {f : Nat → Nat} {x : Nat} (ha : ws[q0]? = some (a, .inl (cA, N, .inl (aN f)))) (ht : (TY κ.z)[t0]? = some (cA, .int)) (hj : j < N) (hN : N < 2 ^ 31) (hx : f j = x) (d : decode cc pc = .ok (.iaload, 1)) (h : V κ nL k n (pc + 1) lv (.int (nI x) :: rest) ws) : V κ nL k n pc lv (.int (nI j) :: .ref a :: rest) ws := v_naldN X q0 t0 ha ht hj hN d (by rw [hx]; exact h)
theorem v_zaldN (X : Cx κ cc own rm nL) (q0 t0 : Nat) {cA : ClassId} {N a j : Nat} {f : Nat → Bool} (ha : ws[q0]? = some (a, .inl (cA, N, .inl (aB f)))) (ht : (TY κ.z)[t0]? = some (cA, .boolean)) (hj : j < N) (hN : N < 2 ^ 31) (d : decode cc pc = .ok (.baload, 1)) (h : V κ nL k n (pc + 1) lv (.int (bI (f j)) :: rest) ws) : V κ nL k n pc lv (.int (nI j) :: .ref a :: rest) ws := fun H locs ls hP hD hS hl => va_zald X.1 X.2.1 X.2.2.2.2.2.1 hP q0 t0 ha ht (vp_in_nI hj hN) d (by rw [nI_clamp (by omega)]; exact (h H locs ls hP hD hS hl))
theorem v_zaldE (X : Cx κ cc own rm nL) (q0 t0 : Nat) {cA : ClassId} {N a j : Nat} {f : Nat → Bool} {x : Bool} (ha : ws[q0]? = some (a, .inl (cA, N, .inl (aB f)))) (ht : (TY κ.z)[t0]? = some (cA, .boolean)) (hj : j < N) (hN : N < 2 ^ 31) (hx : f j = x) (d : decode cc pc = .ok (.baload, 1)) (h : V κ nL k n (pc + 1) lv (.int (bI x) :: rest) ws) : V κ nL k n pc lv (.int (nI j) :: .ref a :: rest) ws := v_zaldN X q0 t0 ha ht hj hN d (by rw [hx]; exact h)
theorem v_iastN (X : Cx κ cc own rm nL) (q0 t0 : Nat) {cA : ClassId} {N a j : Nat} {f : Nat → Int32} {x : Int32} (ha : ws[q0]? = some (a, .inl (cA, N, .inl f))) (ht : (TY κ.z)[t0]? = some (cA, .int)) (hj : j < N) (hN : N < 2 ^ 31) (d : decode cc pc = .ok (.iastore, 1)) (e : ws.set q0 (a, .inl (cA, N, .inl (upd f j x))) = ws') (h : V κ nL k n (pc + 1) lv rest ws') : V κ nL k n pc lv (.int x :: .int (nI j) :: .ref a :: rest) ws := by
  subst e
  exact fun H locs ls hP hD hS hl => va_iast X.1 X.2.1 X.2.2.2.2.2.1 hP hD hS q0 t0 ha ht (vp_in_nI hj hN) d (fun H1 locs1 hP1 hD1 hS1 => by
    rw [nI_clamp (show j < 2 ^ 31 by omega)] at hP1 hD1
    exact h H1 locs1 ls hP1 hD1 hS1 hl)
theorem v_lastN (X : Cx κ cc own rm nL) (q0 t0 : Nat) {cA : ClassId} {N a j : Nat} {f : Nat → Int64} {x : Int64} (ha : ws[q0]? = some (a, .inl (cA, N, .inr (.inl f)))) (ht : (TY κ.z)[t0]? = some (cA, .long)) (hj : j < N) (hN : N < 2 ^ 31) (d : decode cc pc = .ok (.lastore, 1)) (e : ws.set q0 (a, .inl (cA, N, .inr (.inl (vp_updL f j x)))) = ws') (h : V κ nL k n (pc + 1) lv rest ws') : V κ nL k n pc lv (.long x :: .int (nI j) :: .ref a :: rest) ws := by
  subst e
  exact fun H locs ls hP hD hS hl => va_last X.1 X.2.1 X.2.2.2.2.2.1 hP hD hS q0 t0 ha ht (vp_in_nI hj hN) d (fun H1 locs1 hP1 hD1 hS1 => by
    rw [nI_clamp (show j < 2 ^ 31 by omega)] at hP1 hD1
    exact h H1 locs1 ls hP1 hD1 hS1 hl)
theorem v_nastN (X : Cx κ cc own rm nL) (q0 t0 : Nat) {cA : ClassId} {N a j : Nat} {f : Nat → Nat} {x : Nat} (ha : ws[q0]? = some (a, .inl (cA, N, .inl (aN f)))) (ht : (TY κ.z)[t0]? = some (cA, .int)) (hj : j < N) (hN : N < 2 ^ 31) (d : decode cc pc = .ok (.iastore, 1)) (e : ws.set q0 (a, .inl (cA, N, .inl (aN (va_up f j x)))) = ws') (h : V κ nL k n (pc + 1) lv rest ws') : V κ nL k n pc lv (.int (nI x) :: .int (nI j) :: .ref a :: rest) ws := by
  subst e
  exact fun H locs ls hP hD hS hl => va_iast X.1 X.2.1 X.2.2.2.2.2.1 hP hD hS q0 t0 ha ht (vp_in_nI hj hN) d (fun H1 locs1 hP1 hD1 hS1 => by
    rw [nI_clamp (show j < 2 ^ 31 by omega), aN_up] at hP1 hD1
    exact h H1 locs1 ls hP1 hD1 hS1 hl)
theorem v_zastN (X : Cx κ cc own rm nL) (q0 t0 : Nat) {cA : ClassId} {N a j : Nat} {f : Nat → Bool} {x : Bool} (ha : ws[q0]? = some (a, .inl (cA, N, .inl (aB f)))) (ht : (TY κ.z)[t0]? = some (cA, .boolean)) (hj : j < N) (hN : N < 2 ^ 31) (d : decode cc pc = .ok (.bastore, 1)) (e : ws.set q0 (a, .inl (cA, N, .inl (aB (va_up f j x)))) = ws') (h : V κ nL k n (pc + 1) lv rest ws') : V κ nL k n pc lv (.int (bI x) :: .int (nI j) :: .ref a :: rest) ws := by
  subst e
  exact fun H locs ls hP hD hS hl => va_zast X.1 X.2.1 X.2.2.2.2.2.1 hP hD hS q0 t0 ha ht (vp_in_nI hj hN) d (fun H1 locs1 hP1 hD1 hS1 => by
    rw [nI_clamp (show j < 2 ^ 31 by omega), vpnB, aB_up] at hP1 hD1
    exact h H1 locs1 ls hP1 hD1 hS1 hl)
theorem v_aaldN (X : Cx κ cc own rm nL) (q0 t0 : Nat) {cA : ClassId} {C : String} {N a j : Nat} {f : Nat → Option Nat} (ha : ws[q0]? = some (a, .inl (cA, N, .inr (.inr (.inr (.inr f)))))) (ht : (TY κ.z)[t0]? = some (cA, .object C)) (hj : j < N) (hN : N < 2 ^ 31) (d : decode cc pc = .ok (.aaload, 1)) (h : V κ nL k n (pc + 1) lv (va_rf (f j) :: rest) ws) : V κ nL k n pc lv (.int (nI j) :: .ref a :: rest) ws := v_aald X q0 t0 ha ht (vp_in_nI hj hN) d (by rw [nI_clamp (by omega)]; exact h)
theorem v_aaldM (X : Cx κ cc own rm nL) (q0 t0 : Nat) {cA : ClassId} {C : String} {N a b j : Nat} {f : Nat → Option Nat} (ha : ws[q0]? = some (a, .inl (cA, N, .inr (.inr (.inr (.inr f)))))) (ht : (TY κ.z)[t0]? = some (cA, .object C)) (hj : j < N) (hN : N < 2 ^ 31) (hf : f j = some b) (d : decode cc pc = .ok (.aaload, 1)) (h : V κ nL k n (pc + 1) lv (.ref b :: rest) ws) : V κ nL k n pc lv (.int (nI j) :: .ref a :: rest) ws := v_aaldN X q0 t0 ha ht hj hN d (by rw [hf]; exact h)
theorem v_aastN (X : Cx κ cc own rm nL) (q0 t0 qk ci : Nat) {cA : ClassId} {r : vw_C} {N v a j : Nat} {vs : List Value} {f : Nat → Option Nat} (ha : ws[q0]? = some (a, .inl (cA, N, .inr (.inr (.inr (.inr f)))))) (ht : (TY κ.z)[t0]? = some (cA, .object r.1)) (hv : ws[qk]? = some (v, .inr (ci, vs))) (hc : CLS[ci]? = some r) (hj : j < N) (hN : N < 2 ^ 31) (d : decode cc pc = .ok (.aastore, 1)) (e : ws.set q0 (a, .inl (cA, N, .inr (.inr (.inr (.inr (va_up f j (some v))))))) = ws') (h : V κ nL k n (pc + 1) lv rest ws') : V κ nL k n pc lv (.ref v :: .int (nI j) :: .ref a :: rest) ws := by
  subst e
  refine v_aast X q0 t0 qk ci ha ht hv hc (vp_in_nI hj hN) d rfl ?_
  rw [nI_clamp (show j < 2 ^ 31 by omega)]
  exact h
theorem v_zastW (X : Cx κ cc own rm nL) (q0 t0 : Nat) {cA : ClassId} {N a : Nat} {i : Int32} {f : Nat → Bool} {x : Bool} (ha : ws[q0]? = some (a, .inl (cA, N, .inl (aB f)))) (ht : (TY κ.z)[t0]? = some (cA, .boolean)) (hin : vp_in i N) (d : decode cc pc = .ok (.bastore, 1)) (e : ws.set q0 (a, .inl (cA, N, .inl (aB (va_up f i.toNatClampNeg x)))) = ws') (h : V κ nL k n (pc + 1) lv rest ws') : V κ nL k n pc lv (.int (bI x) :: .int i :: .ref a :: rest) ws := by
  subst e
  exact fun H locs ls hP hD hS hl => va_zast X.1 X.2.1 X.2.2.2.2.2.1 hP hD hS q0 t0 ha ht hin d (fun H1 locs1 hP1 hD1 hS1 => by
    rw [vpnB, aB_up] at hP1 hD1
    exact h H1 locs1 ls hP1 hD1 hS1 hl)
end VN
