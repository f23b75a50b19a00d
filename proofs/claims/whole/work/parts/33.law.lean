set_option maxHeartbeats 4000000 in
set_option maxRecDepth 100000 in
theorem lc_0 {κ : VC} (X : Cx κ code R_L room_1 4) (b : Nat) (o : Nat) (sa : Nat) (la : Nat) (e : Nat) (d : Nat) (e1 : Nat) (e2 : Nat) (e3 : Nat) (l0 : Nat) (l1 : Nat) (l2 : Nat) (l3 : Nat) (dr : Int32) (sf : Int32) (nS : Nat) (fs : Nat → Option Nat) (fl : Nat → Option Nat) (m : Nat) (aK : Nat) (aP : Nat) (aQ : Nat) (aT : Nat) (aW : Nat) (aO : Nat) (aM : Nat) (aL : Nat) (aH : Nat) (aI : Nat) (aS : Nat) (aR : Nat) (aX : Nat) (aF : Nat) (aY : Nat) (aJ : Nat) (aG : Nat) (aE : Nat) (aU : Nat) (L : Nat) (xs : Nat → Int32) (hS : Scr κ b L xs) (hL : L ≤ 4611) (hfl : fl 0 = some l0 ∧ fl 1 = some l1 ∧ fl 2 = some l2 ∧ fl 3 = some l3) (t : Nat) (ht : 12 + 9 * t ≤ L) (nw : Int64) (ls : Int64) (cnt : Nat) (hl : Int64) (hh : Int64) (nu : Nat → Nat) (lo : Nat → Int64) (hi : Nat → Int64) (st : Bool) (sin : Int64) (sta : Int64) (tt : Int64) (er : Int64) (vl : Int64) (vh : Int64) (sb : Int32) (tb : Int32) (sg : Nat → SvS) (tA : Bool) (tL : Int64) (tl : Int64) (tg : Int64) (gK : Nat → Int64) (gP : Nat → Bool) (gQ : Nat → Int64) (gT : Nat → Int64) (gW : Nat → Bool) (gO : Nat → Int64) (gM : Nat → Nat) (gL : Nat → Int64) (gH : Nat → Int64) (gI : Nat → Int64) (gS : Nat → Int32) (gR : Nat → Int32) (gX : Nat → Int32) (gF : Nat → Int64) (gY : Nat → Int64) (gN : Nat → Bool) (gG : Nat → Bool) (gE : Nat → Int32) (gU : Nat → Int64) (h : Inv t nS dr fs nw ls nu sin sta tt sg tA tL gK gQ gT gO gL gH gI gP gW gM gS gR gX) (ih : ∀ (nw : Int64) (ls : Int64) (cnt : Nat) (hl : Int64) (hh : Int64) (nu : Nat → Nat) (lo : Nat → Int64) (hi : Nat → Int64) (st : Bool) (sin : Int64) (sta : Int64) (tt : Int64) (er : Int64) (vl : Int64) (vh : Int64) (sb : Int32) (tb : Int32) (sg : Nat → SvS) (tA : Bool) (tL : Int64) (tl : Int64) (tg : Int64) (gK : Nat → Int64) (gP : Nat → Bool) (gQ : Nat → Int64) (gT : Nat → Int64) (gW : Nat → Bool) (gO : Nat → Int64) (gM : Nat → Nat) (gL : Nat → Int64) (gH : Nat → Int64) (gI : Nat → Int64) (gS : Nat → Int32) (gR : Nat → Int32) (gX : Nat → Int32) (gF : Nat → Int64) (gY : Nat → Int64) (gN : Nat → Bool) (gG : Nat → Bool) (gE : Nat → Int32) (gU : Nat → Int64), Inv (t + 1) nS dr fs nw ls nu sin sta tt sg tA tL gK gQ gT gO gL gH gI gP gW gM gS gR gX → V κ 4 56 549 48 [(3, .int (nI (3 + 9 * (t + 1)))), (2, .ref m), (1, .ref o), (0, .ref b)] [] (wA (WM κ.z o sa la e d e1 e2 e3 l0 l1 l2 l3 dr sf nS fs fl nw ls cnt hl hh nu lo hi st sin sta tt er vl vh sb (if st = true then tb + 1 else 16) gG gE gU sg) (WT κ.z m aK aP aQ aT aW aO aM aL aH aI aS aR aX aF aY aJ aG aE aU nS dr sf nw tA tL tl tg st sb tb vl vh tt er sin sta gK gP gQ gT gW gO gM gL gH gI gS gR gX gF gY gN gG gE gU))) : V κ 4 56 549 152 [(3, .int (nI (3 + 9 * t))), (2, .ref m), (1, .ref o), (0, .ref b)] [] (wA (WM κ.z o sa la e d e1 e2 e3 l0 l1 l2 l3 dr sf nS fs fl nw ls cnt hl hh nu lo hi st sin sta tt er vl vh sb (if st = true then tb + 1 else 16) gG gE gU sg) (WT κ.z m aK aP aQ aT aW aO aM aL aH aI aS aR aX aF aY aJ aG aE aU nS dr sf nw tA tL tl tg st sb tb vl vh tt er sin sta gK gP gQ gT gW gO gM gL gH gI gS gR gX gF gY gN gG gE gU)) := by
  have hn6 := h.1.2
  have hn1 := h.1.1
  show V κ 4 56 549 152 [(3, .int (nI (3 + 9 * t))), (2, .ref m), (1, .ref o), (0, .ref b)] [] (wA (WM κ.z o sa la e d e1 e2 e3 l0 l1 l2 l3 dr sf nS fs fl nw ls cnt hl hh nu lo hi st sin sta tt er vl vh sb (if st = true then tb + 1 else 16) gG gE gU sg) (WT κ.z m aK aP aQ aT aW aO aM aL aH aI aS aR aX aF aY aJ aG aE aU nS dr sf nw tA tL tl tg st sb tb vl vh tt er sin sta gK gP gQ gT gW gO gM gL gH gI gS gR gX gF gY gN gG gE gU))
  refine v_aload_n X 2 d_L_law_152 rfl ?_
  refine v_aload_n X 3 d_L_law_153 rfl ?_
  refine v_iload_n X 0 d_L_law_154 rfl ?_
  refine v_iconst X 1 d_L_law_155 (by decide) ?_
  refine v_iaddN X (a := (3 + 9 * t)) (b := 1) d_L_law_156 ?_
  refine v_sld X hS (j := ((3 + 9 * t) + 1)) (by omega) (by omega) d_L_law_157 ?_
  refine v_callV X (b := o) (k := 56) (n := 549) (n9 := 1) (As := [.int (xs ((3 + 9 * t) + 1))]) (rest := []) (wc := WM κ.z o sa la e d e1 e2 e3 l0 l1 l2 l3 dr sf nS fs fl nw ls cnt hl hh nu lo hi st sin sta tt er vl vh sb (if st = true then tb + 1 else 16) gG gE gU sg) (wr := WT κ.z m aK aP aQ aT aW aO aM aL aH aI aS aR aX aF aY aJ aG aE aU nS dr sf nw tA tL tl tg st sb tb vl vh tt er sin sta gK gP gQ gT gW gO gM gL gH gI gS gR gX gF gY gN gG gE gU) (u_M_advance κ.l κ.D κ.z o sa la e d e1 e2 e3 l0 l1 l2 l3 dr sf nS fs fl nw ls cnt hl hh nu lo hi st sin sta tt er vl vh sb (if st = true then tb + 1 else 16) gG gE gU sg (xs ((3 + 9 * t) + 1)) ) 0 rfl rfl m166 m167 m168 m30 (by decide +kernel) rfl (Nat.le_of_ble_eq_true rfl) ⟨by decide, by decide⟩ ⟨by decide, by decide⟩ rfl rfl m169 d_L_law_158 (fun v w1 hg => ?_)
  obtain ⟨rfl, rfl⟩ := hg
  show V κ 4 56 549 161 [(3, .int (nI (3 + 9 * t))), (2, .ref m), (1, .ref o), (0, .ref b)] [.int (bI (f_M_advance (xs ((3 + 9 * t) + 1))))] (wA (WM κ.z o sa la e d e1 e2 e3 l0 l1 l2 l3 dr sf nS fs fl (f_M_advance_now nw (xs ((3 + 9 * t) + 1))) ls cnt hl hh nu lo hi st sin sta tt er vl vh sb (if st = true then tb + 1 else 16) gG gE gU sg) (WT κ.z m aK aP aQ aT aW aO aM aL aH aI aS aR aX aF aY aJ aG aE aU nS dr sf nw tA tL tl tg st sb tb vl vh tt er sin sta gK gP gQ gT gW gO gM gL gH gI gS gR gX gF gY gN gG gE gU))
  refine v_aload_n X 1 d_L_law_161 rfl ?_
  refine v_aload_n X 3 d_L_law_162 rfl ?_
  refine v_iload_n X 0 d_L_law_163 rfl ?_
  refine v_iconst X 1 d_L_law_164 (by decide) ?_
  refine v_iaddN X (a := (3 + 9 * t)) (b := 1) d_L_law_165 ?_
  refine v_sld X hS (j := ((3 + 9 * t) + 1)) (by omega) (by omega) d_L_law_166 ?_
  refine v_perm List.perm_append_comm ?_
  refine v_callV X (b := m) (k := 56) (n := 549) (n9 := 1) (As := [.int (xs ((3 + 9 * t) + 1))]) (rest := [.int (bI (f_M_advance (xs ((3 + 9 * t) + 1))))]) (wc := WT κ.z m aK aP aQ aT aW aO aM aL aH aI aS aR aX aF aY aJ aG aE aU nS dr sf nw tA tL tl tg st sb tb vl vh tt er sin sta gK gP gQ gT gW gO gM gL gH gI gS gR gX gF gY gN gG gE gU) (wr := WM κ.z o sa la e d e1 e2 e3 l0 l1 l2 l3 dr sf nS fs fl (f_M_advance_now nw (xs ((3 + 9 * t) + 1))) ls cnt hl hh nu lo hi st sin sta tt er vl vh sb (if st = true then tb + 1 else 16) gG gE gU sg) (u_T_advance κ.l κ.D κ.z m aK aP aQ aT aW aO aM aL aH aI aS aR aX aF aY aJ aG aE aU nS dr sf nw tA tL tl tg st sb tb vl vh tt er sin sta gK gP gQ gT gW gO gM gL gH gI gS gR gX gF gY gN gG gE gU (xs ((3 + 9 * t) + 1)) ) 0 rfl rfl m500 m501 m502 m36 (by decide +kernel) rfl (Nat.le_of_ble_eq_true rfl) ⟨by decide, by decide⟩ ⟨by decide, by decide⟩ rfl rfl m503 d_L_law_167 (fun v w1 hg => ?_)
  obtain ⟨rfl, rfl⟩ := hg
  refine v_perm List.perm_append_comm ?_
  show V κ 4 56 549 170 [(3, .int (nI (3 + 9 * t))), (2, .ref m), (1, .ref o), (0, .ref b)] [.int (bI (f_T_advance (xs ((3 + 9 * t) + 1)))), .int (bI (f_M_advance (xs ((3 + 9 * t) + 1))))] (wA (WM κ.z o sa la e d e1 e2 e3 l0 l1 l2 l3 dr sf nS fs fl (f_M_advance_now nw (xs ((3 + 9 * t) + 1))) ls cnt hl hh nu lo hi st sin sta tt er vl vh sb (if st = true then tb + 1 else 16) gG gE gU sg) (WT κ.z m aK aP aQ aT aW aO aM aL aH aI aS aR aX aF aY aJ aG aE aU nS dr sf (f_T_advance_now nw (xs ((3 + 9 * t) + 1))) tA tL tl tg st sb tb vl vh tt er sin sta gK gP gQ gT gW gO gM gL gH gI gS gR gX gF gY gN gG gE gU))
  show V κ 4 56 549 170 [(3, .int (nI (3 + 9 * t))), (2, .ref m), (1, .ref o), (0, .ref b)] [.int (bI (f_T_advance (xs ((3 + 9 * t) + 1)))), .int (bI (f_M_advance (xs ((3 + 9 * t) + 1))))] (wA (WM κ.z o sa la e d e1 e2 e3 l0 l1 l2 l3 dr sf nS fs fl (f_M_advance_now nw (xs ((3 + 9 * t) + 1))) ls cnt hl hh nu lo hi st sin sta tt er vl vh sb (if st = true then tb + 1 else 16) gG gE gU sg) (WT κ.z m aK aP aQ aT aW aO aM aL aH aI aS aR aX aF aY aJ aG aE aU nS dr sf (f_T_advance_now nw (xs ((3 + 9 * t) + 1))) tA tL tl tg st sb tb vl vh tt er sin sta gK gP gQ gT gW gO gM gL gH gI gS gR gX gF gY gN gG gE gU))
  refine v_icmp_eq X 996 d_L_law_170 (by decide) (fun c170 => ?_) (fun c170 => absurd rfl c170)
  refine v_iinc X 0 d_L_law_996 (x := nI (3 + 9 * t)) rfl (v := nI ((3 + 9 * t) + 9)) (nI_add _ _) (by decide) (lv' := [(3, .int (nI ((3 + 9 * t) + 9))), (2, .ref m), (1, .ref o), (0, .ref b)]) rfl ?_
  refine v_goto X 48 d_L_law_999 (by decide) ?_
  exact v_eq rfl (by first | rfl | (rw [show 3 + 9 * t + 9 = 3 + 9 * (t + 1) by omega])) rfl (by rfl) (ih (f_T_advance_now nw (xs ((3 + 9 * t) + 1))) ls cnt hl hh nu lo hi st sin sta tt er vl vh sb tb sg tA tL tl tg gK gP gQ gT gW gO gM gL gH gI gS gR gX gF gY gN gG gE gU (Inv_adv h (by omega) _))

set_option maxHeartbeats 4000000 in
set_option maxRecDepth 100000 in
theorem lc_1 {κ : VC} (X : Cx κ code R_L room_1 4) (b : Nat) (o : Nat) (sa : Nat) (la : Nat) (e : Nat) (d : Nat) (e1 : Nat) (e2 : Nat) (e3 : Nat) (l0 : Nat) (l1 : Nat) (l2 : Nat) (l3 : Nat) (dr : Int32) (sf : Int32) (nS : Nat) (fs : Nat → Option Nat) (fl : Nat → Option Nat) (m : Nat) (aK : Nat) (aP : Nat) (aQ : Nat) (aT : Nat) (aW : Nat) (aO : Nat) (aM : Nat) (aL : Nat) (aH : Nat) (aI : Nat) (aS : Nat) (aR : Nat) (aX : Nat) (aF : Nat) (aY : Nat) (aJ : Nat) (aG : Nat) (aE : Nat) (aU : Nat) (L : Nat) (xs : Nat → Int32) (hS : Scr κ b L xs) (hL : L ≤ 4611) (hfl : fl 0 = some l0 ∧ fl 1 = some l1 ∧ fl 2 = some l2 ∧ fl 3 = some l3) (t : Nat) (ht : 12 + 9 * t ≤ L) (nw : Int64) (ls : Int64) (cnt : Nat) (hl : Int64) (hh : Int64) (nu : Nat → Nat) (lo : Nat → Int64) (hi : Nat → Int64) (st : Bool) (sin : Int64) (sta : Int64) (tt : Int64) (er : Int64) (vl : Int64) (vh : Int64) (sb : Int32) (tb : Int32) (sg : Nat → SvS) (tA : Bool) (tL : Int64) (tl : Int64) (tg : Int64) (gK : Nat → Int64) (gP : Nat → Bool) (gQ : Nat → Int64) (gT : Nat → Int64) (gW : Nat → Bool) (gO : Nat → Int64) (gM : Nat → Nat) (gL : Nat → Int64) (gH : Nat → Int64) (gI : Nat → Int64) (gS : Nat → Int32) (gR : Nat → Int32) (gX : Nat → Int32) (gF : Nat → Int64) (gY : Nat → Int64) (gN : Nat → Bool) (gG : Nat → Bool) (gE : Nat → Int32) (gU : Nat → Int64) (h : Inv t nS dr fs nw ls nu sin sta tt sg tA tL gK gQ gT gO gL gH gI gP gW gM gS gR gX) (ih : ∀ (nw : Int64) (ls : Int64) (cnt : Nat) (hl : Int64) (hh : Int64) (nu : Nat → Nat) (lo : Nat → Int64) (hi : Nat → Int64) (st : Bool) (sin : Int64) (sta : Int64) (tt : Int64) (er : Int64) (vl : Int64) (vh : Int64) (sb : Int32) (tb : Int32) (sg : Nat → SvS) (tA : Bool) (tL : Int64) (tl : Int64) (tg : Int64) (gK : Nat → Int64) (gP : Nat → Bool) (gQ : Nat → Int64) (gT : Nat → Int64) (gW : Nat → Bool) (gO : Nat → Int64) (gM : Nat → Nat) (gL : Nat → Int64) (gH : Nat → Int64) (gI : Nat → Int64) (gS : Nat → Int32) (gR : Nat → Int32) (gX : Nat → Int32) (gF : Nat → Int64) (gY : Nat → Int64) (gN : Nat → Bool) (gG : Nat → Bool) (gE : Nat → Int32) (gU : Nat → Int64), Inv (t + 1) nS dr fs nw ls nu sin sta tt sg tA tL gK gQ gT gO gL gH gI gP gW gM gS gR gX → V κ 4 56 549 48 [(3, .int (nI (3 + 9 * (t + 1)))), (2, .ref m), (1, .ref o), (0, .ref b)] [] (wA (WM κ.z o sa la e d e1 e2 e3 l0 l1 l2 l3 dr sf nS fs fl nw ls cnt hl hh nu lo hi st sin sta tt er vl vh sb (if st = true then tb + 1 else 16) gG gE gU sg) (WT κ.z m aK aP aQ aT aW aO aM aL aH aI aS aR aX aF aY aJ aG aE aU nS dr sf nw tA tL tl tg st sb tb vl vh tt er sin sta gK gP gQ gT gW gO gM gL gH gI gS gR gX gF gY gN gG gE gU))) : V κ 4 56 549 175 [(3, .int (nI (3 + 9 * t))), (2, .ref m), (1, .ref o), (0, .ref b)] [] (wA (WM κ.z o sa la e d e1 e2 e3 l0 l1 l2 l3 dr sf nS fs fl nw ls cnt hl hh nu lo hi st sin sta tt er vl vh sb (if st = true then tb + 1 else 16) gG gE gU sg) (WT κ.z m aK aP aQ aT aW aO aM aL aH aI aS aR aX aF aY aJ aG aE aU nS dr sf nw tA tL tl tg st sb tb vl vh tt er sin sta gK gP gQ gT gW gO gM gL gH gI gS gR gX gF gY gN gG gE gU)) := by
  have hn6 := h.1.2
  have hn1 := h.1.1
  show V κ 4 56 549 175 [(3, .int (nI (3 + 9 * t))), (2, .ref m), (1, .ref o), (0, .ref b)] [] (wA (WM κ.z o sa la e d e1 e2 e3 l0 l1 l2 l3 dr sf nS fs fl nw ls cnt hl hh nu lo hi st sin sta tt er vl vh sb (if st = true then tb + 1 else 16) gG gE gU sg) (WT κ.z m aK aP aQ aT aW aO aM aL aH aI aS aR aX aF aY aJ aG aE aU nS dr sf nw tA tL tl tg st sb tb vl vh tt er sin sta gK gP gQ gT gW gO gM gL gH gI gS gR gX gF gY gN gG gE gU))
  refine v_aload_n X 2 d_L_law_175 rfl ?_
  refine v_callV X (b := o) (k := 56) (n := 549) (n9 := 0) (As := []) (rest := []) (wc := WM κ.z o sa la e d e1 e2 e3 l0 l1 l2 l3 dr sf nS fs fl nw ls cnt hl hh nu lo hi st sin sta tt er vl vh sb (if st = true then tb + 1 else 16) gG gE gU sg) (wr := WT κ.z m aK aP aQ aT aW aO aM aL aH aI aS aR aX aF aY aJ aG aE aU nS dr sf nw tA tL tl tg st sb tb vl vh tt er sin sta gK gP gQ gT gW gO gM gL gH gI gS gR gX gF gY gN gG gE gU) (u_M_hardware κ.l κ.D κ.z o sa la e d e1 e2 e3 l0 l1 l2 l3 dr sf nS fs fl nw ls cnt hl hh nu lo hi st sin sta tt er vl vh sb (if st = true then tb + 1 else 16) gG gE gU sg  ) 0 rfl rfl m171 m172 m173 m30 (by decide +kernel) rfl (Nat.le_of_ble_eq_true rfl) ⟨by decide, by decide⟩ ⟨by decide, by decide⟩ rfl rfl m174 d_L_law_176 (fun v w1 hg => ?_)
  obtain ⟨rfl, rfl⟩ := hg
  show V κ 4 56 549 179 [(3, .int (nI (3 + 9 * t))), (2, .ref m), (1, .ref o), (0, .ref b)] [.long nw] (wA (WM κ.z o sa la e d e1 e2 e3 l0 l1 l2 l3 dr sf nS fs fl nw ls cnt hl hh nu lo hi st sin sta tt er vl vh sb (if st = true then tb + 1 else 16) gG gE gU sg) (WT κ.z m aK aP aQ aT aW aO aM aL aH aI aS aR aX aF aY aJ aG aE aU nS dr sf nw tA tL tl tg st sb tb vl vh tt er sin sta gK gP gQ gT gW gO gM gL gH gI gS gR gX gF gY gN gG gE gU))
  refine v_aload_n X 1 d_L_law_179 rfl ?_
  refine v_perm List.perm_append_comm ?_
  refine v_callV X (b := m) (k := 56) (n := 549) (n9 := 0) (As := []) (rest := [.long nw]) (wc := WT κ.z m aK aP aQ aT aW aO aM aL aH aI aS aR aX aF aY aJ aG aE aU nS dr sf nw tA tL tl tg st sb tb vl vh tt er sin sta gK gP gQ gT gW gO gM gL gH gI gS gR gX gF gY gN gG gE gU) (wr := WM κ.z o sa la e d e1 e2 e3 l0 l1 l2 l3 dr sf nS fs fl nw ls cnt hl hh nu lo hi st sin sta tt er vl vh sb (if st = true then tb + 1 else 16) gG gE gU sg) (u_T_hardware κ.l κ.D κ.z m aK aP aQ aT aW aO aM aL aH aI aS aR aX aF aY aJ aG aE aU nS dr sf nw tA tL tl tg st sb tb vl vh tt er sin sta gK gP gQ gT gW gO gM gL gH gI gS gR gX gF gY gN gG gE gU  ) 0 rfl rfl m505 m506 m507 m36 (by decide +kernel) rfl (Nat.le_of_ble_eq_true rfl) ⟨by decide, by decide⟩ ⟨by decide, by decide⟩ rfl rfl m508 d_L_law_180 (fun v w1 hg => ?_)
  obtain ⟨rfl, rfl⟩ := hg
  refine v_perm List.perm_append_comm ?_
  show V κ 4 56 549 183 [(3, .int (nI (3 + 9 * t))), (2, .ref m), (1, .ref o), (0, .ref b)] [.long nw, .long nw] (wA (WM κ.z o sa la e d e1 e2 e3 l0 l1 l2 l3 dr sf nS fs fl nw ls cnt hl hh nu lo hi st sin sta tt er vl vh sb (if st = true then tb + 1 else 16) gG gE gU sg) (WT κ.z m aK aP aQ aT aW aO aM aL aH aI aS aR aX aF aY aJ aG aE aU nS dr sf nw tA tL tl tg st sb tb vl vh tt er sin sta gK gP gQ gT gW gO gM gL gH gI gS gR gX gF gY gN gG gE gU))
  refine v_lcmp_eq X 996 d_L_law_183 d_L_law_184 (by decide) (fun c183 => ?_) (fun c183 => absurd rfl c183)
  refine v_iinc X 0 d_L_law_996 (x := nI (3 + 9 * t)) rfl (v := nI ((3 + 9 * t) + 9)) (nI_add _ _) (by decide) (lv' := [(3, .int (nI ((3 + 9 * t) + 9))), (2, .ref m), (1, .ref o), (0, .ref b)]) rfl ?_
  refine v_goto X 48 d_L_law_999 (by decide) ?_
  exact v_eq rfl (by first | rfl | (rw [show 3 + 9 * t + 9 = 3 + 9 * (t + 1) by omega])) rfl (by rfl) (ih nw ls cnt hl hh nu lo hi st sin sta tt er vl vh sb tb sg tA tL tl tg gK gP gQ gT gW gO gM gL gH gI gS gR gX gF gY gN gG gE gU (Inv_next h))

set_option maxHeartbeats 4000000 in
set_option maxRecDepth 100000 in
theorem lc_10 {κ : VC} (X : Cx κ code R_L room_1 4) (b : Nat) (o : Nat) (sa : Nat) (la : Nat) (e : Nat) (d : Nat) (e1 : Nat) (e2 : Nat) (e3 : Nat) (l0 : Nat) (l1 : Nat) (l2 : Nat) (l3 : Nat) (dr : Int32) (sf : Int32) (nS : Nat) (fs : Nat → Option Nat) (fl : Nat → Option Nat) (m : Nat) (aK : Nat) (aP : Nat) (aQ : Nat) (aT : Nat) (aW : Nat) (aO : Nat) (aM : Nat) (aL : Nat) (aH : Nat) (aI : Nat) (aS : Nat) (aR : Nat) (aX : Nat) (aF : Nat) (aY : Nat) (aJ : Nat) (aG : Nat) (aE : Nat) (aU : Nat) (L : Nat) (xs : Nat → Int32) (hS : Scr κ b L xs) (hL : L ≤ 4611) (hfl : fl 0 = some l0 ∧ fl 1 = some l1 ∧ fl 2 = some l2 ∧ fl 3 = some l3) (t : Nat) (ht : 12 + 9 * t ≤ L) (nw : Int64) (ls : Int64) (cnt : Nat) (hl : Int64) (hh : Int64) (nu : Nat → Nat) (lo : Nat → Int64) (hi : Nat → Int64) (st : Bool) (sin : Int64) (sta : Int64) (tt : Int64) (er : Int64) (vl : Int64) (vh : Int64) (sb : Int32) (tb : Int32) (sg : Nat → SvS) (tA : Bool) (tL : Int64) (tl : Int64) (tg : Int64) (gK : Nat → Int64) (gP : Nat → Bool) (gQ : Nat → Int64) (gT : Nat → Int64) (gW : Nat → Bool) (gO : Nat → Int64) (gM : Nat → Nat) (gL : Nat → Int64) (gH : Nat → Int64) (gI : Nat → Int64) (gS : Nat → Int32) (gR : Nat → Int32) (gX : Nat → Int32) (gF : Nat → Int64) (gY : Nat → Int64) (gN : Nat → Bool) (gG : Nat → Bool) (gE : Nat → Int32) (gU : Nat → Int64) (h : Inv t nS dr fs nw ls nu sin sta tt sg tA tL gK gQ gT gO gL gH gI gP gW gM gS gR gX) (ih : ∀ (nw : Int64) (ls : Int64) (cnt : Nat) (hl : Int64) (hh : Int64) (nu : Nat → Nat) (lo : Nat → Int64) (hi : Nat → Int64) (st : Bool) (sin : Int64) (sta : Int64) (tt : Int64) (er : Int64) (vl : Int64) (vh : Int64) (sb : Int32) (tb : Int32) (sg : Nat → SvS) (tA : Bool) (tL : Int64) (tl : Int64) (tg : Int64) (gK : Nat → Int64) (gP : Nat → Bool) (gQ : Nat → Int64) (gT : Nat → Int64) (gW : Nat → Bool) (gO : Nat → Int64) (gM : Nat → Nat) (gL : Nat → Int64) (gH : Nat → Int64) (gI : Nat → Int64) (gS : Nat → Int32) (gR : Nat → Int32) (gX : Nat → Int32) (gF : Nat → Int64) (gY : Nat → Int64) (gN : Nat → Bool) (gG : Nat → Bool) (gE : Nat → Int32) (gU : Nat → Int64), Inv (t + 1) nS dr fs nw ls nu sin sta tt sg tA tL gK gQ gT gO gL gH gI gP gW gM gS gR gX → V κ 4 56 549 48 [(3, .int (nI (3 + 9 * (t + 1)))), (2, .ref m), (1, .ref o), (0, .ref b)] [] (wA (WM κ.z o sa la e d e1 e2 e3 l0 l1 l2 l3 dr sf nS fs fl nw ls cnt hl hh nu lo hi st sin sta tt er vl vh sb (if st = true then tb + 1 else 16) gG gE gU sg) (WT κ.z m aK aP aQ aT aW aO aM aL aH aI aS aR aX aF aY aJ aG aE aU nS dr sf nw tA tL tl tg st sb tb vl vh tt er sin sta gK gP gQ gT gW gO gM gL gH gI gS gR gX gF gY gN gG gE gU))) : V κ 4 56 549 696 [(3, .int (nI (3 + 9 * t))), (2, .ref m), (1, .ref o), (0, .ref b)] [] (wA (WM κ.z o sa la e d e1 e2 e3 l0 l1 l2 l3 dr sf nS fs fl nw ls cnt hl hh nu lo hi st sin sta tt er vl vh sb (if st = true then tb + 1 else 16) gG gE gU sg) (WT κ.z m aK aP aQ aT aW aO aM aL aH aI aS aR aX aF aY aJ aG aE aU nS dr sf nw tA tL tl tg st sb tb vl vh tt er sin sta gK gP gQ gT gW gO gM gL gH gI gS gR gX gF gY gN gG gE gU)) := by
  have hn6 := h.1.2
  have hn1 := h.1.1
  show V κ 4 56 549 696 [(3, .int (nI (3 + 9 * t))), (2, .ref m), (1, .ref o), (0, .ref b)] [] (wA (WM κ.z o sa la e d e1 e2 e3 l0 l1 l2 l3 dr sf nS fs fl nw ls cnt hl hh nu lo hi st sin sta tt er vl vh sb (if st = true then tb + 1 else 16) gG gE gU sg) (WT κ.z m aK aP aQ aT aW aO aM aL aH aI aS aR aX aF aY aJ aG aE aU nS dr sf nw tA tL tl tg st sb tb vl vh tt er sin sta gK gP gQ gT gW gO gM gL gH gI gS gR gX gF gY gN gG gE gU))
  refine v_aload_n X 2 d_L_law_696 rfl ?_
  refine v_callV X (b := o) (k := 56) (n := 549) (n9 := 0) (As := []) (rest := []) (wc := WM κ.z o sa la e d e1 e2 e3 l0 l1 l2 l3 dr sf nS fs fl nw ls cnt hl hh nu lo hi st sin sta tt er vl vh sb (if st = true then tb + 1 else 16) gG gE gU sg) (wr := WT κ.z m aK aP aQ aT aW aO aM aL aH aI aS aR aX aF aY aJ aG aE aU nS dr sf nw tA tL tl tg st sb tb vl vh tt er sin sta gK gP gQ gT gW gO gM gL gH gI gS gR gX gF gY gN gG gE gU) (u_M_survivors κ.l κ.D κ.z o sa la e d e1 e2 e3 l0 l1 l2 l3 dr sf nS fs fl nw ls cnt hl hh nu lo hi st sin sta tt er vl vh sb (if st = true then tb + 1 else 16) gG gE gU sg  ) 0 rfl rfl m357 m358 m359 m30 (by decide +kernel) rfl (Nat.le_of_ble_eq_true rfl) ⟨by decide, by decide⟩ ⟨by decide, by decide⟩ rfl rfl m360 d_L_law_697 (fun v w1 hg => ?_)
  obtain ⟨rfl, rfl⟩ := hg
  show V κ 4 56 549 700 [(3, .int (nI (3 + 9 * t))), (2, .ref m), (1, .ref o), (0, .ref b)] [.int sb] (wA (WM κ.z o sa la e d e1 e2 e3 l0 l1 l2 l3 dr sf nS fs fl nw ls cnt hl hh nu lo hi st sin sta tt er vl vh sb (if st = true then tb + 1 else 16) gG gE gU sg) (WT κ.z m aK aP aQ aT aW aO aM aL aH aI aS aR aX aF aY aJ aG aE aU nS dr sf nw tA tL tl tg st sb tb vl vh tt er sin sta gK gP gQ gT gW gO gM gL gH gI gS gR gX gF gY gN gG gE gU))
  refine v_aload_n X 1 d_L_law_700 rfl ?_
  refine v_perm List.perm_append_comm ?_
  refine v_callV X (b := m) (k := 56) (n := 549) (n9 := 0) (As := []) (rest := [.int sb]) (wc := WT κ.z m aK aP aQ aT aW aO aM aL aH aI aS aR aX aF aY aJ aG aE aU nS dr sf nw tA tL tl tg st sb tb vl vh tt er sin sta gK gP gQ gT gW gO gM gL gH gI gS gR gX gF gY gN gG gE gU) (wr := WM κ.z o sa la e d e1 e2 e3 l0 l1 l2 l3 dr sf nS fs fl nw ls cnt hl hh nu lo hi st sin sta tt er vl vh sb (if st = true then tb + 1 else 16) gG gE gU sg) (u_T_survivors κ.l κ.D κ.z m aK aP aQ aT aW aO aM aL aH aI aS aR aX aF aY aJ aG aE aU nS dr sf nw tA tL tl tg st sb tb vl vh tt er sin sta gK gP gQ gT gW gO gM gL gH gI gS gR gX gF gY gN gG gE gU  ) 0 rfl rfl m597 m598 m599 m36 (by decide +kernel) rfl (Nat.le_of_ble_eq_true rfl) ⟨by decide, by decide⟩ ⟨by decide, by decide⟩ rfl rfl m600 d_L_law_701 (fun v w1 hg => ?_)
  obtain ⟨rfl, rfl⟩ := hg
  refine v_perm List.perm_append_comm ?_
  show V κ 4 56 549 704 [(3, .int (nI (3 + 9 * t))), (2, .ref m), (1, .ref o), (0, .ref b)] [.int sb, .int sb] (wA (WM κ.z o sa la e d e1 e2 e3 l0 l1 l2 l3 dr sf nS fs fl nw ls cnt hl hh nu lo hi st sin sta tt er vl vh sb (if st = true then tb + 1 else 16) gG gE gU sg) (WT κ.z m aK aP aQ aT aW aO aM aL aH aI aS aR aX aF aY aJ aG aE aU nS dr sf nw tA tL tl tg st sb tb vl vh tt er sin sta gK gP gQ gT gW gO gM gL gH gI gS gR gX gF gY gN gG gE gU))
  refine v_icmp_eq X 996 d_L_law_704 (by decide) (fun c704 => ?_) (fun c704 => absurd rfl c704)
  refine v_iinc X 0 d_L_law_996 (x := nI (3 + 9 * t)) rfl (v := nI ((3 + 9 * t) + 9)) (nI_add _ _) (by decide) (lv' := [(3, .int (nI ((3 + 9 * t) + 9))), (2, .ref m), (1, .ref o), (0, .ref b)]) rfl ?_
  refine v_goto X 48 d_L_law_999 (by decide) ?_
  exact v_eq rfl (by first | rfl | (rw [show 3 + 9 * t + 9 = 3 + 9 * (t + 1) by omega])) rfl (by rfl) (ih nw ls cnt hl hh nu lo hi st sin sta tt er vl vh sb tb sg tA tL tl tg gK gP gQ gT gW gO gM gL gH gI gS gR gX gF gY gN gG gE gU (Inv_next h))

set_option maxHeartbeats 4000000 in
set_option maxRecDepth 100000 in
theorem lc_12 {κ : VC} (X : Cx κ code R_L room_1 4) (b : Nat) (o : Nat) (sa : Nat) (la : Nat) (e : Nat) (d : Nat) (e1 : Nat) (e2 : Nat) (e3 : Nat) (l0 : Nat) (l1 : Nat) (l2 : Nat) (l3 : Nat) (dr : Int32) (sf : Int32) (nS : Nat) (fs : Nat → Option Nat) (fl : Nat → Option Nat) (m : Nat) (aK : Nat) (aP : Nat) (aQ : Nat) (aT : Nat) (aW : Nat) (aO : Nat) (aM : Nat) (aL : Nat) (aH : Nat) (aI : Nat) (aS : Nat) (aR : Nat) (aX : Nat) (aF : Nat) (aY : Nat) (aJ : Nat) (aG : Nat) (aE : Nat) (aU : Nat) (L : Nat) (xs : Nat → Int32) (hS : Scr κ b L xs) (hL : L ≤ 4611) (hfl : fl 0 = some l0 ∧ fl 1 = some l1 ∧ fl 2 = some l2 ∧ fl 3 = some l3) (t : Nat) (ht : 12 + 9 * t ≤ L) (nw : Int64) (ls : Int64) (cnt : Nat) (hl : Int64) (hh : Int64) (nu : Nat → Nat) (lo : Nat → Int64) (hi : Nat → Int64) (st : Bool) (sin : Int64) (sta : Int64) (tt : Int64) (er : Int64) (vl : Int64) (vh : Int64) (sb : Int32) (tb : Int32) (sg : Nat → SvS) (tA : Bool) (tL : Int64) (tl : Int64) (tg : Int64) (gK : Nat → Int64) (gP : Nat → Bool) (gQ : Nat → Int64) (gT : Nat → Int64) (gW : Nat → Bool) (gO : Nat → Int64) (gM : Nat → Nat) (gL : Nat → Int64) (gH : Nat → Int64) (gI : Nat → Int64) (gS : Nat → Int32) (gR : Nat → Int32) (gX : Nat → Int32) (gF : Nat → Int64) (gY : Nat → Int64) (gN : Nat → Bool) (gG : Nat → Bool) (gE : Nat → Int32) (gU : Nat → Int64) (h : Inv t nS dr fs nw ls nu sin sta tt sg tA tL gK gQ gT gO gL gH gI gP gW gM gS gR gX) (ih : ∀ (nw : Int64) (ls : Int64) (cnt : Nat) (hl : Int64) (hh : Int64) (nu : Nat → Nat) (lo : Nat → Int64) (hi : Nat → Int64) (st : Bool) (sin : Int64) (sta : Int64) (tt : Int64) (er : Int64) (vl : Int64) (vh : Int64) (sb : Int32) (tb : Int32) (sg : Nat → SvS) (tA : Bool) (tL : Int64) (tl : Int64) (tg : Int64) (gK : Nat → Int64) (gP : Nat → Bool) (gQ : Nat → Int64) (gT : Nat → Int64) (gW : Nat → Bool) (gO : Nat → Int64) (gM : Nat → Nat) (gL : Nat → Int64) (gH : Nat → Int64) (gI : Nat → Int64) (gS : Nat → Int32) (gR : Nat → Int32) (gX : Nat → Int32) (gF : Nat → Int64) (gY : Nat → Int64) (gN : Nat → Bool) (gG : Nat → Bool) (gE : Nat → Int32) (gU : Nat → Int64), Inv (t + 1) nS dr fs nw ls nu sin sta tt sg tA tL gK gQ gT gO gL gH gI gP gW gM gS gR gX → V κ 4 56 549 48 [(3, .int (nI (3 + 9 * (t + 1)))), (2, .ref m), (1, .ref o), (0, .ref b)] [] (wA (WM κ.z o sa la e d e1 e2 e3 l0 l1 l2 l3 dr sf nS fs fl nw ls cnt hl hh nu lo hi st sin sta tt er vl vh sb (if st = true then tb + 1 else 16) gG gE gU sg) (WT κ.z m aK aP aQ aT aW aO aM aL aH aI aS aR aX aF aY aJ aG aE aU nS dr sf nw tA tL tl tg st sb tb vl vh tt er sin sta gK gP gQ gT gW gO gM gL gH gI gS gR gX gF gY gN gG gE gU))) : V κ 4 56 549 749 [(3, .int (nI (3 + 9 * t))), (2, .ref m), (1, .ref o), (0, .ref b)] [] (wA (WM κ.z o sa la e d e1 e2 e3 l0 l1 l2 l3 dr sf nS fs fl nw ls cnt hl hh nu lo hi st sin sta tt er vl vh sb (if st = true then tb + 1 else 16) gG gE gU sg) (WT κ.z m aK aP aQ aT aW aO aM aL aH aI aS aR aX aF aY aJ aG aE aU nS dr sf nw tA tL tl tg st sb tb vl vh tt er sin sta gK gP gQ gT gW gO gM gL gH gI gS gR gX gF gY gN gG gE gU)) := by
  have hn6 := h.1.2
  have hn1 := h.1.1
  show V κ 4 56 549 749 [(3, .int (nI (3 + 9 * t))), (2, .ref m), (1, .ref o), (0, .ref b)] [] (wA (WM κ.z o sa la e d e1 e2 e3 l0 l1 l2 l3 dr sf nS fs fl nw ls cnt hl hh nu lo hi st sin sta tt er vl vh sb (if st = true then tb + 1 else 16) gG gE gU sg) (WT κ.z m aK aP aQ aT aW aO aM aL aH aI aS aR aX aF aY aJ aG aE aU nS dr sf nw tA tL tl tg st sb tb vl vh tt er sin sta gK gP gQ gT gW gO gM gL gH gI gS gR gX gF gY gN gG gE gU))
  refine v_aload_n X 2 d_L_law_749 rfl ?_
  refine v_callV X (b := o) (k := 56) (n := 549) (n9 := 0) (As := []) (rest := []) (wc := WM κ.z o sa la e d e1 e2 e3 l0 l1 l2 l3 dr sf nS fs fl nw ls cnt hl hh nu lo hi st sin sta tt er vl vh sb (if st = true then tb + 1 else 16) gG gE gU sg) (wr := WT κ.z m aK aP aQ aT aW aO aM aL aH aI aS aR aX aF aY aJ aG aE aU nS dr sf nw tA tL tl tg st sb tb vl vh tt er sin sta gK gP gQ gT gW gO gM gL gH gI gS gR gX gF gY gN gG gE gU) (u_M_stratum κ.l κ.D κ.z o sa la e d e1 e2 e3 l0 l1 l2 l3 dr sf nS fs fl nw ls cnt hl hh nu lo hi st sin sta tt er vl vh sb (if st = true then tb + 1 else 16) gG gE gU sg  ) 0 rfl rfl m365 m366 m367 m30 (by decide +kernel) rfl (Nat.le_of_ble_eq_true rfl) ⟨by decide, by decide⟩ ⟨by decide, by decide⟩ rfl rfl m368 d_L_law_750 (fun v w1 hg => ?_)
  obtain ⟨rfl, rfl⟩ := hg
  show V κ 4 56 549 753 [(3, .int (nI (3 + 9 * t))), (2, .ref m), (1, .ref o), (0, .ref b)] [.int (if st = true then tb + 1 else 16)] (wA (WM κ.z o sa la e d e1 e2 e3 l0 l1 l2 l3 dr sf nS fs fl nw ls cnt hl hh nu lo hi st sin sta tt er vl vh sb (if st = true then tb + 1 else 16) gG gE gU sg) (WT κ.z m aK aP aQ aT aW aO aM aL aH aI aS aR aX aF aY aJ aG aE aU nS dr sf nw tA tL tl tg st sb tb vl vh tt er sin sta gK gP gQ gT gW gO gM gL gH gI gS gR gX gF gY gN gG gE gU))
  refine v_aload_n X 1 d_L_law_753 rfl ?_
  refine v_perm List.perm_append_comm ?_
  refine v_callV X (b := m) (k := 56) (n := 549) (n9 := 0) (As := []) (rest := [.int (if st = true then tb + 1 else 16)]) (wc := WT κ.z m aK aP aQ aT aW aO aM aL aH aI aS aR aX aF aY aJ aG aE aU nS dr sf nw tA tL tl tg st sb tb vl vh tt er sin sta gK gP gQ gT gW gO gM gL gH gI gS gR gX gF gY gN gG gE gU) (wr := WM κ.z o sa la e d e1 e2 e3 l0 l1 l2 l3 dr sf nS fs fl nw ls cnt hl hh nu lo hi st sin sta tt er vl vh sb (if st = true then tb + 1 else 16) gG gE gU sg) (u_T_stratum κ.l κ.D κ.z m aK aP aQ aT aW aO aM aL aH aI aS aR aX aF aY aJ aG aE aU nS dr sf nw tA tL tl tg st sb tb vl vh tt er sin sta gK gP gQ gT gW gO gM gL gH gI gS gR gX gF gY gN gG gE gU  ) 0 rfl rfl m605 m606 m607 m36 (by decide +kernel) rfl (Nat.le_of_ble_eq_true rfl) ⟨by decide, by decide⟩ ⟨by decide, by decide⟩ rfl rfl m608 d_L_law_754 (fun v w1 hg => ?_)
  obtain ⟨rfl, rfl⟩ := hg
  refine v_perm List.perm_append_comm ?_
  show V κ 4 56 549 757 [(3, .int (nI (3 + 9 * t))), (2, .ref m), (1, .ref o), (0, .ref b)] [.int (f_T_stratum st tb), .int (if st = true then tb + 1 else 16)] (wA (WM κ.z o sa la e d e1 e2 e3 l0 l1 l2 l3 dr sf nS fs fl nw ls cnt hl hh nu lo hi st sin sta tt er vl vh sb (if st = true then tb + 1 else 16) gG gE gU sg) (WT κ.z m aK aP aQ aT aW aO aM aL aH aI aS aR aX aF aY aJ aG aE aU nS dr sf nw tA tL tl tg st sb tb vl vh tt er sin sta gK gP gQ gT gW gO gM gL gH gI gS gR gX gF gY gN gG gE gU))
  refine v_icmp_eq X 996 d_L_law_757 (by decide) (fun c757 => ?_) (fun c757 => absurd rfl c757)
  refine v_iinc X 0 d_L_law_996 (x := nI (3 + 9 * t)) rfl (v := nI ((3 + 9 * t) + 9)) (nI_add _ _) (by decide) (lv' := [(3, .int (nI ((3 + 9 * t) + 9))), (2, .ref m), (1, .ref o), (0, .ref b)]) rfl ?_
  refine v_goto X 48 d_L_law_999 (by decide) ?_
  exact v_eq rfl (by first | rfl | (rw [show 3 + 9 * t + 9 = 3 + 9 * (t + 1) by omega])) rfl (by rfl) (ih nw ls cnt hl hh nu lo hi st sin sta tt er vl vh sb tb sg tA tL tl tg gK gP gQ gT gW gO gM gL gH gI gS gR gX gF gY gN gG gE gU (Inv_next h))

set_option maxHeartbeats 4000000 in
set_option maxRecDepth 100000 in
theorem lc_13 {κ : VC} (X : Cx κ code R_L room_1 4) (b : Nat) (o : Nat) (sa : Nat) (la : Nat) (e : Nat) (d : Nat) (e1 : Nat) (e2 : Nat) (e3 : Nat) (l0 : Nat) (l1 : Nat) (l2 : Nat) (l3 : Nat) (dr : Int32) (sf : Int32) (nS : Nat) (fs : Nat → Option Nat) (fl : Nat → Option Nat) (m : Nat) (aK : Nat) (aP : Nat) (aQ : Nat) (aT : Nat) (aW : Nat) (aO : Nat) (aM : Nat) (aL : Nat) (aH : Nat) (aI : Nat) (aS : Nat) (aR : Nat) (aX : Nat) (aF : Nat) (aY : Nat) (aJ : Nat) (aG : Nat) (aE : Nat) (aU : Nat) (L : Nat) (xs : Nat → Int32) (hS : Scr κ b L xs) (hL : L ≤ 4611) (hfl : fl 0 = some l0 ∧ fl 1 = some l1 ∧ fl 2 = some l2 ∧ fl 3 = some l3) (t : Nat) (ht : 12 + 9 * t ≤ L) (nw : Int64) (ls : Int64) (cnt : Nat) (hl : Int64) (hh : Int64) (nu : Nat → Nat) (lo : Nat → Int64) (hi : Nat → Int64) (st : Bool) (sin : Int64) (sta : Int64) (tt : Int64) (er : Int64) (vl : Int64) (vh : Int64) (sb : Int32) (tb : Int32) (sg : Nat → SvS) (tA : Bool) (tL : Int64) (tl : Int64) (tg : Int64) (gK : Nat → Int64) (gP : Nat → Bool) (gQ : Nat → Int64) (gT : Nat → Int64) (gW : Nat → Bool) (gO : Nat → Int64) (gM : Nat → Nat) (gL : Nat → Int64) (gH : Nat → Int64) (gI : Nat → Int64) (gS : Nat → Int32) (gR : Nat → Int32) (gX : Nat → Int32) (gF : Nat → Int64) (gY : Nat → Int64) (gN : Nat → Bool) (gG : Nat → Bool) (gE : Nat → Int32) (gU : Nat → Int64) (h : Inv t nS dr fs nw ls nu sin sta tt sg tA tL gK gQ gT gO gL gH gI gP gW gM gS gR gX) (ih : ∀ (nw : Int64) (ls : Int64) (cnt : Nat) (hl : Int64) (hh : Int64) (nu : Nat → Nat) (lo : Nat → Int64) (hi : Nat → Int64) (st : Bool) (sin : Int64) (sta : Int64) (tt : Int64) (er : Int64) (vl : Int64) (vh : Int64) (sb : Int32) (tb : Int32) (sg : Nat → SvS) (tA : Bool) (tL : Int64) (tl : Int64) (tg : Int64) (gK : Nat → Int64) (gP : Nat → Bool) (gQ : Nat → Int64) (gT : Nat → Int64) (gW : Nat → Bool) (gO : Nat → Int64) (gM : Nat → Nat) (gL : Nat → Int64) (gH : Nat → Int64) (gI : Nat → Int64) (gS : Nat → Int32) (gR : Nat → Int32) (gX : Nat → Int32) (gF : Nat → Int64) (gY : Nat → Int64) (gN : Nat → Bool) (gG : Nat → Bool) (gE : Nat → Int32) (gU : Nat → Int64), Inv (t + 1) nS dr fs nw ls nu sin sta tt sg tA tL gK gQ gT gO gL gH gI gP gW gM gS gR gX → V κ 4 56 549 48 [(3, .int (nI (3 + 9 * (t + 1)))), (2, .ref m), (1, .ref o), (0, .ref b)] [] (wA (WM κ.z o sa la e d e1 e2 e3 l0 l1 l2 l3 dr sf nS fs fl nw ls cnt hl hh nu lo hi st sin sta tt er vl vh sb (if st = true then tb + 1 else 16) gG gE gU sg) (WT κ.z m aK aP aQ aT aW aO aM aL aH aI aS aR aX aF aY aJ aG aE aU nS dr sf nw tA tL tl tg st sb tb vl vh tt er sin sta gK gP gQ gT gW gO gM gL gH gI gS gR gX gF gY gN gG gE gU))) : V κ 4 56 549 762 [(3, .int (nI (3 + 9 * t))), (2, .ref m), (1, .ref o), (0, .ref b)] [] (wA (WM κ.z o sa la e d e1 e2 e3 l0 l1 l2 l3 dr sf nS fs fl nw ls cnt hl hh nu lo hi st sin sta tt er vl vh sb (if st = true then tb + 1 else 16) gG gE gU sg) (WT κ.z m aK aP aQ aT aW aO aM aL aH aI aS aR aX aF aY aJ aG aE aU nS dr sf nw tA tL tl tg st sb tb vl vh tt er sin sta gK gP gQ gT gW gO gM gL gH gI gS gR gX gF gY gN gG gE gU)) := by
  have hn6 := h.1.2
  have hn1 := h.1.1
  show V κ 4 56 549 762 [(3, .int (nI (3 + 9 * t))), (2, .ref m), (1, .ref o), (0, .ref b)] [] (wA (WM κ.z o sa la e d e1 e2 e3 l0 l1 l2 l3 dr sf nS fs fl nw ls cnt hl hh nu lo hi st sin sta tt er vl vh sb (if st = true then tb + 1 else 16) gG gE gU sg) (WT κ.z m aK aP aQ aT aW aO aM aL aH aI aS aR aX aF aY aJ aG aE aU nS dr sf nw tA tL tl tg st sb tb vl vh tt er sin sta gK gP gQ gT gW gO gM gL gH gI gS gR gX gF gY gN gG gE gU))
  refine v_aload_n X 2 d_L_law_762 rfl ?_
  refine v_callV X (b := o) (k := 56) (n := 549) (n9 := 0) (As := []) (rest := []) (wc := WM κ.z o sa la e d e1 e2 e3 l0 l1 l2 l3 dr sf nS fs fl nw ls cnt hl hh nu lo hi st sin sta tt er vl vh sb (if st = true then tb + 1 else 16) gG gE gU sg) (wr := WT κ.z m aK aP aQ aT aW aO aM aL aH aI aS aR aX aF aY aJ aG aE aU nS dr sf nw tA tL tl tg st sb tb vl vh tt er sin sta gK gP gQ gT gW gO gM gL gH gI gS gR gX gF gY gN gG gE gU) (u_M_time κ.l κ.D κ.z o sa la e d e1 e2 e3 l0 l1 l2 l3 dr sf nS fs fl nw ls cnt hl hh nu lo hi st sin sta tt er vl vh sb (if st = true then tb + 1 else 16) gG gE gU sg  ) 0 rfl rfl m369 m370 m371 m30 (by decide +kernel) rfl (Nat.le_of_ble_eq_true rfl) ⟨by decide, by decide⟩ ⟨by decide, by decide⟩ rfl rfl m372 d_L_law_763 (fun v w1 hg => ?_)
  obtain ⟨rfl, rfl⟩ := hg
  show V κ 4 56 549 766 [(3, .int (nI (3 + 9 * t))), (2, .ref m), (1, .ref o), (0, .ref b)] [.long (f_M_time nw st sin sta tt)] (wA (WM κ.z o sa la e d e1 e2 e3 l0 l1 l2 l3 dr sf nS fs fl nw ls cnt hl hh nu lo hi st sin sta tt er vl vh sb (if st = true then tb + 1 else 16) gG gE gU sg) (WT κ.z m aK aP aQ aT aW aO aM aL aH aI aS aR aX aF aY aJ aG aE aU nS dr sf nw tA tL tl tg st sb tb vl vh tt er sin sta gK gP gQ gT gW gO gM gL gH gI gS gR gX gF gY gN gG gE gU))
  refine v_aload_n X 1 d_L_law_766 rfl ?_
  refine v_perm List.perm_append_comm ?_
  refine v_callV X (b := m) (k := 56) (n := 549) (n9 := 0) (As := []) (rest := [.long (f_M_time nw st sin sta tt)]) (wc := WT κ.z m aK aP aQ aT aW aO aM aL aH aI aS aR aX aF aY aJ aG aE aU nS dr sf nw tA tL tl tg st sb tb vl vh tt er sin sta gK gP gQ gT gW gO gM gL gH gI gS gR gX gF gY gN gG gE gU) (wr := WM κ.z o sa la e d e1 e2 e3 l0 l1 l2 l3 dr sf nS fs fl nw ls cnt hl hh nu lo hi st sin sta tt er vl vh sb (if st = true then tb + 1 else 16) gG gE gU sg) (u_T_time κ.l κ.D κ.z m aK aP aQ aT aW aO aM aL aH aI aS aR aX aF aY aJ aG aE aU nS dr sf nw tA tL tl tg st sb tb vl vh tt er sin sta gK gP gQ gT gW gO gM gL gH gI gS gR gX gF gY gN gG gE gU  ) 0 rfl rfl m609 m610 m611 m36 (by decide +kernel) rfl (Nat.le_of_ble_eq_true rfl) ⟨by decide, by decide⟩ ⟨by decide, by decide⟩ rfl rfl m612 d_L_law_767 (fun v w1 hg => ?_)
  obtain ⟨rfl, rfl⟩ := hg
  refine v_perm List.perm_append_comm ?_
  show V κ 4 56 549 770 [(3, .int (nI (3 + 9 * t))), (2, .ref m), (1, .ref o), (0, .ref b)] [.long (f_T_time nw st tt sin sta), .long (f_M_time nw st sin sta tt)] (wA (WM κ.z o sa la e d e1 e2 e3 l0 l1 l2 l3 dr sf nS fs fl nw ls cnt hl hh nu lo hi st sin sta tt er vl vh sb (if st = true then tb + 1 else 16) gG gE gU sg) (WT κ.z m aK aP aQ aT aW aO aM aL aH aI aS aR aX aF aY aJ aG aE aU nS dr sf nw tA tL tl tg st sb tb vl vh tt er sin sta gK gP gQ gT gW gO gM gL gH gI gS gR gX gF gY gN gG gE gU))
  refine v_lcmp_eq X 996 d_L_law_770 d_L_law_771 (by decide) (fun c770 => ?_) (fun c770 => absurd (time_eq h (by omega) st) c770)
  refine v_iinc X 0 d_L_law_996 (x := nI (3 + 9 * t)) rfl (v := nI ((3 + 9 * t) + 9)) (nI_add _ _) (by decide) (lv' := [(3, .int (nI ((3 + 9 * t) + 9))), (2, .ref m), (1, .ref o), (0, .ref b)]) rfl ?_
  refine v_goto X 48 d_L_law_999 (by decide) ?_
  exact v_eq rfl (by first | rfl | (rw [show 3 + 9 * t + 9 = 3 + 9 * (t + 1) by omega])) rfl (by rfl) (ih nw ls cnt hl hh nu lo hi st sin sta tt er vl vh sb tb sg tA tL tl tg gK gP gQ gT gW gO gM gL gH gI gS gR gX gF gY gN gG gE gU (Inv_next h))

set_option maxHeartbeats 4000000 in
set_option maxRecDepth 100000 in
theorem lc_14 {κ : VC} (X : Cx κ code R_L room_1 4) (b : Nat) (o : Nat) (sa : Nat) (la : Nat) (e : Nat) (d : Nat) (e1 : Nat) (e2 : Nat) (e3 : Nat) (l0 : Nat) (l1 : Nat) (l2 : Nat) (l3 : Nat) (dr : Int32) (sf : Int32) (nS : Nat) (fs : Nat → Option Nat) (fl : Nat → Option Nat) (m : Nat) (aK : Nat) (aP : Nat) (aQ : Nat) (aT : Nat) (aW : Nat) (aO : Nat) (aM : Nat) (aL : Nat) (aH : Nat) (aI : Nat) (aS : Nat) (aR : Nat) (aX : Nat) (aF : Nat) (aY : Nat) (aJ : Nat) (aG : Nat) (aE : Nat) (aU : Nat) (L : Nat) (xs : Nat → Int32) (hS : Scr κ b L xs) (hL : L ≤ 4611) (hfl : fl 0 = some l0 ∧ fl 1 = some l1 ∧ fl 2 = some l2 ∧ fl 3 = some l3) (t : Nat) (ht : 12 + 9 * t ≤ L) (nw : Int64) (ls : Int64) (cnt : Nat) (hl : Int64) (hh : Int64) (nu : Nat → Nat) (lo : Nat → Int64) (hi : Nat → Int64) (st : Bool) (sin : Int64) (sta : Int64) (tt : Int64) (er : Int64) (vl : Int64) (vh : Int64) (sb : Int32) (tb : Int32) (sg : Nat → SvS) (tA : Bool) (tL : Int64) (tl : Int64) (tg : Int64) (gK : Nat → Int64) (gP : Nat → Bool) (gQ : Nat → Int64) (gT : Nat → Int64) (gW : Nat → Bool) (gO : Nat → Int64) (gM : Nat → Nat) (gL : Nat → Int64) (gH : Nat → Int64) (gI : Nat → Int64) (gS : Nat → Int32) (gR : Nat → Int32) (gX : Nat → Int32) (gF : Nat → Int64) (gY : Nat → Int64) (gN : Nat → Bool) (gG : Nat → Bool) (gE : Nat → Int32) (gU : Nat → Int64) (h : Inv t nS dr fs nw ls nu sin sta tt sg tA tL gK gQ gT gO gL gH gI gP gW gM gS gR gX) (ih : ∀ (nw : Int64) (ls : Int64) (cnt : Nat) (hl : Int64) (hh : Int64) (nu : Nat → Nat) (lo : Nat → Int64) (hi : Nat → Int64) (st : Bool) (sin : Int64) (sta : Int64) (tt : Int64) (er : Int64) (vl : Int64) (vh : Int64) (sb : Int32) (tb : Int32) (sg : Nat → SvS) (tA : Bool) (tL : Int64) (tl : Int64) (tg : Int64) (gK : Nat → Int64) (gP : Nat → Bool) (gQ : Nat → Int64) (gT : Nat → Int64) (gW : Nat → Bool) (gO : Nat → Int64) (gM : Nat → Nat) (gL : Nat → Int64) (gH : Nat → Int64) (gI : Nat → Int64) (gS : Nat → Int32) (gR : Nat → Int32) (gX : Nat → Int32) (gF : Nat → Int64) (gY : Nat → Int64) (gN : Nat → Bool) (gG : Nat → Bool) (gE : Nat → Int32) (gU : Nat → Int64), Inv (t + 1) nS dr fs nw ls nu sin sta tt sg tA tL gK gQ gT gO gL gH gI gP gW gM gS gR gX → V κ 4 56 549 48 [(3, .int (nI (3 + 9 * (t + 1)))), (2, .ref m), (1, .ref o), (0, .ref b)] [] (wA (WM κ.z o sa la e d e1 e2 e3 l0 l1 l2 l3 dr sf nS fs fl nw ls cnt hl hh nu lo hi st sin sta tt er vl vh sb (if st = true then tb + 1 else 16) gG gE gU sg) (WT κ.z m aK aP aQ aT aW aO aM aL aH aI aS aR aX aF aY aJ aG aE aU nS dr sf nw tA tL tl tg st sb tb vl vh tt er sin sta gK gP gQ gT gW gO gM gL gH gI gS gR gX gF gY gN gG gE gU))) : V κ 4 56 549 776 [(3, .int (nI (3 + 9 * t))), (2, .ref m), (1, .ref o), (0, .ref b)] [] (wA (WM κ.z o sa la e d e1 e2 e3 l0 l1 l2 l3 dr sf nS fs fl nw ls cnt hl hh nu lo hi st sin sta tt er vl vh sb (if st = true then tb + 1 else 16) gG gE gU sg) (WT κ.z m aK aP aQ aT aW aO aM aL aH aI aS aR aX aF aY aJ aG aE aU nS dr sf nw tA tL tl tg st sb tb vl vh tt er sin sta gK gP gQ gT gW gO gM gL gH gI gS gR gX gF gY gN gG gE gU)) := by
  have hn6 := h.1.2
  have hn1 := h.1.1
  show V κ 4 56 549 776 [(3, .int (nI (3 + 9 * t))), (2, .ref m), (1, .ref o), (0, .ref b)] [] (wA (WM κ.z o sa la e d e1 e2 e3 l0 l1 l2 l3 dr sf nS fs fl nw ls cnt hl hh nu lo hi st sin sta tt er vl vh sb (if st = true then tb + 1 else 16) gG gE gU sg) (WT κ.z m aK aP aQ aT aW aO aM aL aH aI aS aR aX aF aY aJ aG aE aU nS dr sf nw tA tL tl tg st sb tb vl vh tt er sin sta gK gP gQ gT gW gO gM gL gH gI gS gR gX gF gY gN gG gE gU))
  refine v_aload_n X 2 d_L_law_776 rfl ?_
  refine v_callV X (b := o) (k := 56) (n := 549) (n9 := 0) (As := []) (rest := []) (wc := WM κ.z o sa la e d e1 e2 e3 l0 l1 l2 l3 dr sf nS fs fl nw ls cnt hl hh nu lo hi st sin sta tt er vl vh sb (if st = true then tb + 1 else 16) gG gE gU sg) (wr := WT κ.z m aK aP aQ aT aW aO aM aL aH aI aS aR aX aF aY aJ aG aE aU nS dr sf nw tA tL tl tg st sb tb vl vh tt er sin sta gK gP gQ gT gW gO gM gL gH gI gS gR gX gF gY gN gG gE gU) (u_M_bound κ.l κ.D κ.z o sa la e d e1 e2 e3 l0 l1 l2 l3 dr sf nS fs fl nw ls cnt hl hh nu lo hi st sin sta tt er vl vh sb (if st = true then tb + 1 else 16) gG gE gU sg  ) 0 rfl rfl m374 m375 m376 m30 (by decide +kernel) rfl (Nat.le_of_ble_eq_true rfl) ⟨by decide, by decide⟩ ⟨by decide, by decide⟩ rfl rfl m377 d_L_law_777 (fun v w1 hg => ?_)
  obtain ⟨rfl, rfl⟩ := hg
  show V κ 4 56 549 780 [(3, .int (nI (3 + 9 * t))), (2, .ref m), (1, .ref o), (0, .ref b)] [.long (f_M_bound dr nw st sin sta tt er)] (wA (WM κ.z o sa la e d e1 e2 e3 l0 l1 l2 l3 dr sf nS fs fl nw ls cnt hl hh nu lo hi st sin sta tt er vl vh sb (if st = true then tb + 1 else 16) gG gE gU sg) (WT κ.z m aK aP aQ aT aW aO aM aL aH aI aS aR aX aF aY aJ aG aE aU nS dr sf nw tA tL tl tg st sb tb vl vh tt er sin sta gK gP gQ gT gW gO gM gL gH gI gS gR gX gF gY gN gG gE gU))
  refine v_aload_n X 1 d_L_law_780 rfl ?_
  refine v_perm List.perm_append_comm ?_
  refine v_callV X (b := m) (k := 56) (n := 549) (n9 := 0) (As := []) (rest := [.long (f_M_bound dr nw st sin sta tt er)]) (wc := WT κ.z m aK aP aQ aT aW aO aM aL aH aI aS aR aX aF aY aJ aG aE aU nS dr sf nw tA tL tl tg st sb tb vl vh tt er sin sta gK gP gQ gT gW gO gM gL gH gI gS gR gX gF gY gN gG gE gU) (wr := WM κ.z o sa la e d e1 e2 e3 l0 l1 l2 l3 dr sf nS fs fl nw ls cnt hl hh nu lo hi st sin sta tt er vl vh sb (if st = true then tb + 1 else 16) gG gE gU sg) (u_T_bound κ.l κ.D κ.z m aK aP aQ aT aW aO aM aL aH aI aS aR aX aF aY aJ aG aE aU nS dr sf nw tA tL tl tg st sb tb vl vh tt er sin sta gK gP gQ gT gW gO gM gL gH gI gS gR gX gF gY gN gG gE gU  ) 0 rfl rfl m613 m614 m615 m36 (by decide +kernel) rfl (Nat.le_of_ble_eq_true rfl) ⟨by decide, by decide⟩ ⟨by decide, by decide⟩ rfl rfl m616 d_L_law_781 (fun v w1 hg => ?_)
  obtain ⟨rfl, rfl⟩ := hg
  refine v_perm List.perm_append_comm ?_
  show V κ 4 56 549 784 [(3, .int (nI (3 + 9 * t))), (2, .ref m), (1, .ref o), (0, .ref b)] [.long (f_T_bound dr nw st tt er sin sta), .long (f_M_bound dr nw st sin sta tt er)] (wA (WM κ.z o sa la e d e1 e2 e3 l0 l1 l2 l3 dr sf nS fs fl nw ls cnt hl hh nu lo hi st sin sta tt er vl vh sb (if st = true then tb + 1 else 16) gG gE gU sg) (WT κ.z m aK aP aQ aT aW aO aM aL aH aI aS aR aX aF aY aJ aG aE aU nS dr sf nw tA tL tl tg st sb tb vl vh tt er sin sta gK gP gQ gT gW gO gM gL gH gI gS gR gX gF gY gN gG gE gU))
  refine v_lcmp_eq X 996 d_L_law_784 d_L_law_785 (by decide) (fun c784 => ?_) (fun c784 => absurd (bound_eq h (by omega) st er) c784)
  refine v_iinc X 0 d_L_law_996 (x := nI (3 + 9 * t)) rfl (v := nI ((3 + 9 * t) + 9)) (nI_add _ _) (by decide) (lv' := [(3, .int (nI ((3 + 9 * t) + 9))), (2, .ref m), (1, .ref o), (0, .ref b)]) rfl ?_
  refine v_goto X 48 d_L_law_999 (by decide) ?_
  exact v_eq rfl (by first | rfl | (rw [show 3 + 9 * t + 9 = 3 + 9 * (t + 1) by omega])) rfl (by rfl) (ih nw ls cnt hl hh nu lo hi st sin sta tt er vl vh sb tb sg tA tL tl tg gK gP gQ gT gW gO gM gL gH gI gS gR gX gF gY gN gG gE gU (Inv_next h))

set_option maxHeartbeats 4000000 in
set_option maxRecDepth 100000 in
theorem lc_2 {κ : VC} (X : Cx κ code R_L room_1 4) (b : Nat) (o : Nat) (sa : Nat) (la : Nat) (e : Nat) (d : Nat) (e1 : Nat) (e2 : Nat) (e3 : Nat) (l0 : Nat) (l1 : Nat) (l2 : Nat) (l3 : Nat) (dr : Int32) (sf : Int32) (nS : Nat) (fs : Nat → Option Nat) (fl : Nat → Option Nat) (m : Nat) (aK : Nat) (aP : Nat) (aQ : Nat) (aT : Nat) (aW : Nat) (aO : Nat) (aM : Nat) (aL : Nat) (aH : Nat) (aI : Nat) (aS : Nat) (aR : Nat) (aX : Nat) (aF : Nat) (aY : Nat) (aJ : Nat) (aG : Nat) (aE : Nat) (aU : Nat) (L : Nat) (xs : Nat → Int32) (hS : Scr κ b L xs) (hL : L ≤ 4611) (hfl : fl 0 = some l0 ∧ fl 1 = some l1 ∧ fl 2 = some l2 ∧ fl 3 = some l3) (t : Nat) (ht : 12 + 9 * t ≤ L) (nw : Int64) (ls : Int64) (cnt : Nat) (hl : Int64) (hh : Int64) (nu : Nat → Nat) (lo : Nat → Int64) (hi : Nat → Int64) (st : Bool) (sin : Int64) (sta : Int64) (tt : Int64) (er : Int64) (vl : Int64) (vh : Int64) (sb : Int32) (tb : Int32) (sg : Nat → SvS) (tA : Bool) (tL : Int64) (tl : Int64) (tg : Int64) (gK : Nat → Int64) (gP : Nat → Bool) (gQ : Nat → Int64) (gT : Nat → Int64) (gW : Nat → Bool) (gO : Nat → Int64) (gM : Nat → Nat) (gL : Nat → Int64) (gH : Nat → Int64) (gI : Nat → Int64) (gS : Nat → Int32) (gR : Nat → Int32) (gX : Nat → Int32) (gF : Nat → Int64) (gY : Nat → Int64) (gN : Nat → Bool) (gG : Nat → Bool) (gE : Nat → Int32) (gU : Nat → Int64) (h : Inv t nS dr fs nw ls nu sin sta tt sg tA tL gK gQ gT gO gL gH gI gP gW gM gS gR gX) (ih : ∀ (nw : Int64) (ls : Int64) (cnt : Nat) (hl : Int64) (hh : Int64) (nu : Nat → Nat) (lo : Nat → Int64) (hi : Nat → Int64) (st : Bool) (sin : Int64) (sta : Int64) (tt : Int64) (er : Int64) (vl : Int64) (vh : Int64) (sb : Int32) (tb : Int32) (sg : Nat → SvS) (tA : Bool) (tL : Int64) (tl : Int64) (tg : Int64) (gK : Nat → Int64) (gP : Nat → Bool) (gQ : Nat → Int64) (gT : Nat → Int64) (gW : Nat → Bool) (gO : Nat → Int64) (gM : Nat → Nat) (gL : Nat → Int64) (gH : Nat → Int64) (gI : Nat → Int64) (gS : Nat → Int32) (gR : Nat → Int32) (gX : Nat → Int32) (gF : Nat → Int64) (gY : Nat → Int64) (gN : Nat → Bool) (gG : Nat → Bool) (gE : Nat → Int32) (gU : Nat → Int64), Inv (t + 1) nS dr fs nw ls nu sin sta tt sg tA tL gK gQ gT gO gL gH gI gP gW gM gS gR gX → V κ 4 56 549 48 [(3, .int (nI (3 + 9 * (t + 1)))), (2, .ref m), (1, .ref o), (0, .ref b)] [] (wA (WM κ.z o sa la e d e1 e2 e3 l0 l1 l2 l3 dr sf nS fs fl nw ls cnt hl hh nu lo hi st sin sta tt er vl vh sb (if st = true then tb + 1 else 16) gG gE gU sg) (WT κ.z m aK aP aQ aT aW aO aM aL aH aI aS aR aX aF aY aJ aG aE aU nS dr sf nw tA tL tl tg st sb tb vl vh tt er sin sta gK gP gQ gT gW gO gM gL gH gI gS gR gX gF gY gN gG gE gU))) : V κ 4 56 549 189 [(3, .int (nI (3 + 9 * t))), (2, .ref m), (1, .ref o), (0, .ref b)] [] (wA (WM κ.z o sa la e d e1 e2 e3 l0 l1 l2 l3 dr sf nS fs fl nw ls cnt hl hh nu lo hi st sin sta tt er vl vh sb (if st = true then tb + 1 else 16) gG gE gU sg) (WT κ.z m aK aP aQ aT aW aO aM aL aH aI aS aR aX aF aY aJ aG aE aU nS dr sf nw tA tL tl tg st sb tb vl vh tt er sin sta gK gP gQ gT gW gO gM gL gH gI gS gR gX gF gY gN gG gE gU)) := by
  have hn6 := h.1.2
  have hn1 := h.1.1
  rcases srv_cases (xs (3 + 9 * t + 1)) hn6 with ⟨i, hj, hx⟩ | hb
  · skip
    show V κ 4 56 549 189 [(3, .int (nI (3 + 9 * t))), (2, .ref m), (1, .ref o), (0, .ref b)] [] (wA (WM κ.z o sa la e d e1 e2 e3 l0 l1 l2 l3 dr sf nS fs fl nw ls cnt hl hh nu lo hi st sin sta tt er vl vh sb (if st = true then tb + 1 else 16) gG gE gU sg) (WT κ.z m aK aP aQ aT aW aO aM aL aH aI aS aR aX aF aY aJ aG aE aU nS dr sf nw tA tL tl tg st sb tb vl vh tt er sin sta gK gP gQ gT gW gO gM gL gH gI gS gR gX gF gY gN gG gE gU))
    refine v_aload_n X 2 d_L_law_189 rfl ?_
    refine v_aload_n X 3 d_L_law_190 rfl ?_
    refine v_iload_n X 0 d_L_law_191 rfl ?_
    refine v_iconst X 1 d_L_law_192 (by decide) ?_
    refine v_iaddN X (a := (3 + 9 * t)) (b := 1) d_L_law_193 ?_
    refine v_sldE X hS (j := ((3 + 9 * t) + 1)) (x := nI i) (by omega) (by omega) hx d_L_law_194 ?_
    refine v_aload_n X 3 d_L_law_195 rfl ?_
    refine v_iload_n X 0 d_L_law_196 rfl ?_
    refine v_iconst X 2 d_L_law_197 (by decide) ?_
    refine v_iaddN X (a := (3 + 9 * t)) (b := 2) d_L_law_198 ?_
    refine v_sld X hS (j := ((3 + 9 * t) + 2)) (by omega) (by omega) d_L_law_199 ?_
    refine v_i2l X d_L_law_200 ?_
    refine v_bipush X 32 d_L_law_201 (by decide) ?_
    refine v_lshl X d_L_law_203 ?_
    show V κ 4 56 549 204 [(3, .int (nI (3 + 9 * t))), (2, .ref m), (1, .ref o), (0, .ref b)] [.long (((xs ((3 + 9 * t) + 2)).toInt64) <<< ((32 : Int32).toInt64 &&& 63)), .int (nI i), .ref o] (wA (WM κ.z o sa la e d e1 e2 e3 l0 l1 l2 l3 dr sf nS fs fl nw ls cnt hl hh nu lo hi st sin sta tt er vl vh sb (if st = true then tb + 1 else 16) gG gE gU sg) (WT κ.z m aK aP aQ aT aW aO aM aL aH aI aS aR aX aF aY aJ aG aE aU nS dr sf nw tA tL tl tg st sb tb vl vh tt er sin sta gK gP gQ gT gW gO gM gL gH gI gS gR gX gF gY gN gG gE gU))
    refine v_aload_n X 3 d_L_law_204 rfl ?_
    refine v_iload_n X 0 d_L_law_205 rfl ?_
    refine v_iconst X 3 d_L_law_206 (by decide) ?_
    refine v_iaddN X (a := (3 + 9 * t)) (b := 3) d_L_law_207 ?_
    refine v_sld X hS (j := ((3 + 9 * t) + 3)) (by omega) (by omega) d_L_law_208 ?_
    refine v_i2l X d_L_law_209 ?_
    refine v_ldc2 X (v := 4294967295) m640 d_L_law_210 ?_
    refine v_land X d_L_law_213 ?_
    refine v_lor X d_L_law_214 ?_
    refine v_callV X (b := o) (k := 56) (n := 549) (n9 := 2) (As := [.int (nI i), .long ((((xs ((3 + 9 * t) + 2)).toInt64) <<< ((32 : Int32).toInt64 &&& 63)) ||| (((xs ((3 + 9 * t) + 3)).toInt64) &&& 4294967295))]) (rest := []) (wc := WM κ.z o sa la e d e1 e2 e3 l0 l1 l2 l3 dr sf nS fs fl nw ls cnt hl hh nu lo hi st sin sta tt er vl vh sb (if st = true then tb + 1 else 16) gG gE gU sg) (wr := WT κ.z m aK aP aQ aT aW aO aM aL aH aI aS aR aX aF aY aJ aG aE aU nS dr sf nw tA tL tl tg st sb tb vl vh tt er sin sta gK gP gQ gT gW gO gM gL gH gI gS gR gX gF gY gN gG gE gU) (u_M_keyG κ.l κ.D κ.z o sa la e d e1 e2 e3 l0 l1 l2 l3 dr sf nS fs fl nw ls cnt hl hh nu lo hi st sin sta tt er vl vh sb (if st = true then tb + 1 else 16) gG gE gU sg i ((((xs ((3 + 9 * t) + 2)).toInt64) <<< ((32 : Int32).toInt64 &&& 63)) ||| (((xs ((3 + 9 * t) + 3)).toInt64) &&& 4294967295)) hj hn6 (h.2.2.1 i hj) (h.2.2.2.2.2.2.2.1 i hj).1) 0 rfl rfl m175 m176 m177 m30 (by decide +kernel) rfl (Nat.le_of_ble_eq_true rfl) ⟨by decide, by decide⟩ ⟨by decide, by decide⟩ rfl rfl m178 d_L_law_215 (fun v w1 hg => ?_)
    obtain ⟨rfl, rfl⟩ := hg
    show V κ 4 56 549 218 [(3, .int (nI (3 + 9 * t))), (2, .ref m), (1, .ref o), (0, .ref b)] [.int (bI true)] (wA (WM κ.z o sa la e d e1 e2 e3 l0 l1 l2 l3 dr sf nS fs fl nw ls cnt hl hh nu lo hi st sin sta tt er vl vh sb (if st = true then tb + 1 else 16) gG gE gU (va_up sg i (svm (s_a (sg i)) (s_b1 (sg i)) (s_b2 (sg i)) (s_b3 (sg i)) ((((xs ((3 + 9 * t) + 2)).toInt64) <<< ((32 : Int32).toInt64 &&& 63)) ||| (((xs ((3 + 9 * t) + 3)).toInt64) &&& 4294967295)) (s_pen (sg i)) (s_pst (sg i)) (s_psi (sg i)) (s_acc (sg i)) (s_str (sg i)) (s_ref (sg i)) (s_rt (sg i)) (s_sm (sg i)) (s_lo (sg i)) (s_hi (sg i)) (s_ti (sg i))))) (WT κ.z m aK aP aQ aT aW aO aM aL aH aI aS aR aX aF aY aJ aG aE aU nS dr sf nw tA tL tl tg st sb tb vl vh tt er sin sta gK gP gQ gT gW gO gM gL gH gI gS gR gX gF gY gN gG gE gU))
    refine v_aload_n X 1 d_L_law_218 rfl ?_
    refine v_aload_n X 3 d_L_law_219 rfl ?_
    refine v_iload_n X 0 d_L_law_220 rfl ?_
    refine v_iconst X 1 d_L_law_221 (by decide) ?_
    refine v_iaddN X (a := (3 + 9 * t)) (b := 1) d_L_law_222 ?_
    show V κ 4 56 549 223 [(3, .int (nI (3 + 9 * t))), (2, .ref m), (1, .ref o), (0, .ref b)] [.int (nI ((3 + 9 * t) + 1)), .ref b, .ref m, .int (bI true)] (wA (WM κ.z o sa la e d e1 e2 e3 l0 l1 l2 l3 dr sf nS fs fl nw ls cnt hl hh nu lo hi st sin sta tt er vl vh sb (if st = true then tb + 1 else 16) gG gE gU (va_up sg i (svm (s_a (sg i)) (s_b1 (sg i)) (s_b2 (sg i)) (s_b3 (sg i)) ((((xs ((3 + 9 * t) + 2)).toInt64) <<< ((32 : Int32).toInt64 &&& 63)) ||| (((xs ((3 + 9 * t) + 3)).toInt64) &&& 4294967295)) (s_pen (sg i)) (s_pst (sg i)) (s_psi (sg i)) (s_acc (sg i)) (s_str (sg i)) (s_ref (sg i)) (s_rt (sg i)) (s_sm (sg i)) (s_lo (sg i)) (s_hi (sg i)) (s_ti (sg i))))) (WT κ.z m aK aP aQ aT aW aO aM aL aH aI aS aR aX aF aY aJ aG aE aU nS dr sf nw tA tL tl tg st sb tb vl vh tt er sin sta gK gP gQ gT gW gO gM gL gH gI gS gR gX gF gY gN gG gE gU))
    refine v_sldE X hS (j := ((3 + 9 * t) + 1)) (x := nI i) (by omega) (by omega) hx d_L_law_223 ?_
    refine v_aload_n X 3 d_L_law_224 rfl ?_
    refine v_iload_n X 0 d_L_law_225 rfl ?_
    refine v_iconst X 2 d_L_law_226 (by decide) ?_
    refine v_iaddN X (a := (3 + 9 * t)) (b := 2) d_L_law_227 ?_
    refine v_sld X hS (j := ((3 + 9 * t) + 2)) (by omega) (by omega) d_L_law_228 ?_
    refine v_i2l X d_L_law_229 ?_
    refine v_bipush X 32 d_L_law_230 (by decide) ?_
    refine v_lshl X d_L_law_232 ?_
    refine v_aload_n X 3 d_L_law_233 rfl ?_
    refine v_iload_n X 0 d_L_law_234 rfl ?_
    refine v_iconst X 3 d_L_law_235 (by decide) ?_
    refine v_iaddN X (a := (3 + 9 * t)) (b := 3) d_L_law_236 ?_
    refine v_sld X hS (j := ((3 + 9 * t) + 3)) (by omega) (by omega) d_L_law_237 ?_
    refine v_i2l X d_L_law_238 ?_
    show V κ 4 56 549 239 [(3, .int (nI (3 + 9 * t))), (2, .ref m), (1, .ref o), (0, .ref b)] [.long ((xs ((3 + 9 * t) + 3)).toInt64), .long (((xs ((3 + 9 * t) + 2)).toInt64) <<< ((32 : Int32).toInt64 &&& 63)), .int (nI i), .ref m, .int (bI true)] (wA (WM κ.z o sa la e d e1 e2 e3 l0 l1 l2 l3 dr sf nS fs fl nw ls cnt hl hh nu lo hi st sin sta tt er vl vh sb (if st = true then tb + 1 else 16) gG gE gU (va_up sg i (svm (s_a (sg i)) (s_b1 (sg i)) (s_b2 (sg i)) (s_b3 (sg i)) ((((xs ((3 + 9 * t) + 2)).toInt64) <<< ((32 : Int32).toInt64 &&& 63)) ||| (((xs ((3 + 9 * t) + 3)).toInt64) &&& 4294967295)) (s_pen (sg i)) (s_pst (sg i)) (s_psi (sg i)) (s_acc (sg i)) (s_str (sg i)) (s_ref (sg i)) (s_rt (sg i)) (s_sm (sg i)) (s_lo (sg i)) (s_hi (sg i)) (s_ti (sg i))))) (WT κ.z m aK aP aQ aT aW aO aM aL aH aI aS aR aX aF aY aJ aG aE aU nS dr sf nw tA tL tl tg st sb tb vl vh tt er sin sta gK gP gQ gT gW gO gM gL gH gI gS gR gX gF gY gN gG gE gU))
    refine v_ldc2 X (v := 4294967295) m640 d_L_law_239 ?_
    refine v_land X d_L_law_242 ?_
    refine v_lor X d_L_law_243 ?_
    refine v_perm List.perm_append_comm ?_
    refine v_callV X (b := m) (k := 56) (n := 549) (n9 := 2) (As := [.int (nI i), .long ((((xs ((3 + 9 * t) + 2)).toInt64) <<< ((32 : Int32).toInt64 &&& 63)) ||| (((xs ((3 + 9 * t) + 3)).toInt64) &&& 4294967295))]) (rest := [.int (bI true)]) (wc := WT κ.z m aK aP aQ aT aW aO aM aL aH aI aS aR aX aF aY aJ aG aE aU nS dr sf nw tA tL tl tg st sb tb vl vh tt er sin sta gK gP gQ gT gW gO gM gL gH gI gS gR gX gF gY gN gG gE gU) (wr := WM κ.z o sa la e d e1 e2 e3 l0 l1 l2 l3 dr sf nS fs fl nw ls cnt hl hh nu lo hi st sin sta tt er vl vh sb (if st = true then tb + 1 else 16) gG gE gU (va_up sg i (svm (s_a (sg i)) (s_b1 (sg i)) (s_b2 (sg i)) (s_b3 (sg i)) ((((xs ((3 + 9 * t) + 2)).toInt64) <<< ((32 : Int32).toInt64 &&& 63)) ||| (((xs ((3 + 9 * t) + 3)).toInt64) &&& 4294967295)) (s_pen (sg i)) (s_pst (sg i)) (s_psi (sg i)) (s_acc (sg i)) (s_str (sg i)) (s_ref (sg i)) (s_rt (sg i)) (s_sm (sg i)) (s_lo (sg i)) (s_hi (sg i)) (s_ti (sg i))))) (u_T_keyG κ.l κ.D κ.z m aK aP aQ aT aW aO aM aL aH aI aS aR aX aF aY aJ aG aE aU nS dr sf nw tA tL tl tg st sb tb vl vh tt er sin sta gK gP gQ gT gW gO gM gL gH gI gS gR gX gF gY gN gG gE gU i ((((xs ((3 + 9 * t) + 2)).toInt64) <<< ((32 : Int32).toInt64 &&& 63)) ||| (((xs ((3 + 9 * t) + 3)).toInt64) &&& 4294967295)) hn6 hj) 0 rfl rfl m509 m510 m511 m36 (by decide +kernel) rfl (Nat.le_of_ble_eq_true rfl) ⟨by decide, by decide⟩ ⟨by decide, by decide⟩ rfl rfl m512 d_L_law_244 (fun v w1 hg => ?_)
    obtain ⟨rfl, rfl⟩ := hg
    refine v_perm List.perm_append_comm ?_
    show V κ 4 56 549 247 [(3, .int (nI (3 + 9 * t))), (2, .ref m), (1, .ref o), (0, .ref b)] [.int (bI true), .int (bI true)] (wA (WM κ.z o sa la e d e1 e2 e3 l0 l1 l2 l3 dr sf nS fs fl nw ls cnt hl hh nu lo hi st sin sta tt er vl vh sb (if st = true then tb + 1 else 16) gG gE gU (va_up sg i (svm (s_a (sg i)) (s_b1 (sg i)) (s_b2 (sg i)) (s_b3 (sg i)) ((((xs ((3 + 9 * t) + 2)).toInt64) <<< ((32 : Int32).toInt64 &&& 63)) ||| (((xs ((3 + 9 * t) + 3)).toInt64) &&& 4294967295)) (s_pen (sg i)) (s_pst (sg i)) (s_psi (sg i)) (s_acc (sg i)) (s_str (sg i)) (s_ref (sg i)) (s_rt (sg i)) (s_sm (sg i)) (s_lo (sg i)) (s_hi (sg i)) (s_ti (sg i))))) (WT κ.z m aK aP aQ aT aW aO aM aL aH aI aS aR aX aF aY aJ aG aE aU nS dr sf nw tA tL tl tg st sb tb vl vh tt er sin sta (vp_updL gK i ((((xs ((3 + 9 * t) + 2)).toInt64) <<< ((32 : Int32).toInt64 &&& 63)) ||| (((xs ((3 + 9 * t) + 3)).toInt64) &&& 4294967295))) gP gQ gT gW gO gM gL gH gI gS gR gX gF gY gN gG gE gU))
    refine v_icmp_eq X 996 d_L_law_247 (by decide) (fun c247 => ?_) (fun c247 => absurd rfl c247)
    refine v_iinc X 0 d_L_law_996 (x := nI (3 + 9 * t)) rfl (v := nI ((3 + 9 * t) + 9)) (nI_add _ _) (by decide) (lv' := [(3, .int (nI ((3 + 9 * t) + 9))), (2, .ref m), (1, .ref o), (0, .ref b)]) rfl ?_
    refine v_goto X 48 d_L_law_999 (by decide) ?_
    exact v_eq rfl (by first | rfl | (rw [show 3 + 9 * t + 9 = 3 + 9 * (t + 1) by omega])) rfl (by rfl) (ih nw ls cnt hl hh nu lo hi st sin sta tt er vl vh sb tb (va_up sg i (svm (s_a (sg i)) (s_b1 (sg i)) (s_b2 (sg i)) (s_b3 (sg i)) ((((xs ((3 + 9 * t) + 2)).toInt64) <<< ((32 : Int32).toInt64 &&& 63)) ||| (((xs ((3 + 9 * t) + 3)).toInt64) &&& 4294967295)) (s_pen (sg i)) (s_pst (sg i)) (s_psi (sg i)) (s_acc (sg i)) (s_str (sg i)) (s_ref (sg i)) (s_rt (sg i)) (s_sm (sg i)) (s_lo (sg i)) (s_hi (sg i)) (s_ti (sg i)))) tA tL tl tg (vp_updL gK i ((((xs ((3 + 9 * t) + 2)).toInt64) <<< ((32 : Int32).toInt64 &&& 63)) ||| (((xs ((3 + 9 * t) + 3)).toInt64) &&& 4294967295))) gP gQ gT gW gO gM gL gH gI gS gR gX gF gY gN gG gE gU (inv_key h hj _))
  · skip
    show V κ 4 56 549 189 [(3, .int (nI (3 + 9 * t))), (2, .ref m), (1, .ref o), (0, .ref b)] [] (wA (WM κ.z o sa la e d e1 e2 e3 l0 l1 l2 l3 dr sf nS fs fl nw ls cnt hl hh nu lo hi st sin sta tt er vl vh sb (if st = true then tb + 1 else 16) gG gE gU sg) (WT κ.z m aK aP aQ aT aW aO aM aL aH aI aS aR aX aF aY aJ aG aE aU nS dr sf nw tA tL tl tg st sb tb vl vh tt er sin sta gK gP gQ gT gW gO gM gL gH gI gS gR gX gF gY gN gG gE gU))
    refine v_aload_n X 2 d_L_law_189 rfl ?_
    refine v_aload_n X 3 d_L_law_190 rfl ?_
    refine v_iload_n X 0 d_L_law_191 rfl ?_
    refine v_iconst X 1 d_L_law_192 (by decide) ?_
    refine v_iaddN X (a := (3 + 9 * t)) (b := 1) d_L_law_193 ?_
    refine v_sld X hS (j := ((3 + 9 * t) + 1)) (by omega) (by omega) d_L_law_194 ?_
    refine v_aload_n X 3 d_L_law_195 rfl ?_
    refine v_iload_n X 0 d_L_law_196 rfl ?_
    refine v_iconst X 2 d_L_law_197 (by decide) ?_
    refine v_iaddN X (a := (3 + 9 * t)) (b := 2) d_L_law_198 ?_
    refine v_sld X hS (j := ((3 + 9 * t) + 2)) (by omega) (by omega) d_L_law_199 ?_
    refine v_i2l X d_L_law_200 ?_
    refine v_bipush X 32 d_L_law_201 (by decide) ?_
    refine v_lshl X d_L_law_203 ?_
    show V κ 4 56 549 204 [(3, .int (nI (3 + 9 * t))), (2, .ref m), (1, .ref o), (0, .ref b)] [.long (((xs ((3 + 9 * t) + 2)).toInt64) <<< ((32 : Int32).toInt64 &&& 63)), .int (xs ((3 + 9 * t) + 1)), .ref o] (wA (WM κ.z o sa la e d e1 e2 e3 l0 l1 l2 l3 dr sf nS fs fl nw ls cnt hl hh nu lo hi st sin sta tt er vl vh sb (if st = true then tb + 1 else 16) gG gE gU sg) (WT κ.z m aK aP aQ aT aW aO aM aL aH aI aS aR aX aF aY aJ aG aE aU nS dr sf nw tA tL tl tg st sb tb vl vh tt er sin sta gK gP gQ gT gW gO gM gL gH gI gS gR gX gF gY gN gG gE gU))
    refine v_aload_n X 3 d_L_law_204 rfl ?_
    refine v_iload_n X 0 d_L_law_205 rfl ?_
    refine v_iconst X 3 d_L_law_206 (by decide) ?_
    refine v_iaddN X (a := (3 + 9 * t)) (b := 3) d_L_law_207 ?_
    refine v_sld X hS (j := ((3 + 9 * t) + 3)) (by omega) (by omega) d_L_law_208 ?_
    refine v_i2l X d_L_law_209 ?_
    refine v_ldc2 X (v := 4294967295) m640 d_L_law_210 ?_
    refine v_land X d_L_law_213 ?_
    refine v_lor X d_L_law_214 ?_
    refine v_callV X (b := o) (k := 56) (n := 549) (n9 := 2) (As := [.int (xs ((3 + 9 * t) + 1)), .long ((((xs ((3 + 9 * t) + 2)).toInt64) <<< ((32 : Int32).toInt64 &&& 63)) ||| (((xs ((3 + 9 * t) + 3)).toInt64) &&& 4294967295))]) (rest := []) (wc := WM κ.z o sa la e d e1 e2 e3 l0 l1 l2 l3 dr sf nS fs fl nw ls cnt hl hh nu lo hi st sin sta tt er vl vh sb (if st = true then tb + 1 else 16) gG gE gU sg) (wr := WT κ.z m aK aP aQ aT aW aO aM aL aH aI aS aR aX aF aY aJ aG aE aU nS dr sf nw tA tL tl tg st sb tb vl vh tt er sin sta gK gP gQ gT gW gO gM gL gH gI gS gR gX gF gY gN gG gE gU) (u_M_keyB κ.l κ.D κ.z o sa la e d e1 e2 e3 l0 l1 l2 l3 dr sf nS fs fl nw ls cnt hl hh nu lo hi st sin sta tt er vl vh sb (if st = true then tb + 1 else 16) gG gE gU sg (xs ((3 + 9 * t) + 1)) ((((xs ((3 + 9 * t) + 2)).toInt64) <<< ((32 : Int32).toInt64 &&& 63)) ||| (((xs ((3 + 9 * t) + 3)).toInt64) &&& 4294967295)) hb) 0 rfl rfl m175 m176 m177 m30 (by decide +kernel) rfl (Nat.le_of_ble_eq_true rfl) ⟨by decide, by decide⟩ ⟨by decide, by decide⟩ rfl rfl m178 d_L_law_215 (fun v w1 hg => ?_)
    obtain ⟨rfl, rfl⟩ := hg
    show V κ 4 56 549 218 [(3, .int (nI (3 + 9 * t))), (2, .ref m), (1, .ref o), (0, .ref b)] [.int (bI false)] (wA (WM κ.z o sa la e d e1 e2 e3 l0 l1 l2 l3 dr sf nS fs fl nw ls cnt hl hh nu lo hi st sin sta tt er vl vh sb (if st = true then tb + 1 else 16) gG gE gU sg) (WT κ.z m aK aP aQ aT aW aO aM aL aH aI aS aR aX aF aY aJ aG aE aU nS dr sf nw tA tL tl tg st sb tb vl vh tt er sin sta gK gP gQ gT gW gO gM gL gH gI gS gR gX gF gY gN gG gE gU))
    refine v_aload_n X 1 d_L_law_218 rfl ?_
    refine v_aload_n X 3 d_L_law_219 rfl ?_
    refine v_iload_n X 0 d_L_law_220 rfl ?_
    refine v_iconst X 1 d_L_law_221 (by decide) ?_
    refine v_iaddN X (a := (3 + 9 * t)) (b := 1) d_L_law_222 ?_
    show V κ 4 56 549 223 [(3, .int (nI (3 + 9 * t))), (2, .ref m), (1, .ref o), (0, .ref b)] [.int (nI ((3 + 9 * t) + 1)), .ref b, .ref m, .int (bI false)] (wA (WM κ.z o sa la e d e1 e2 e3 l0 l1 l2 l3 dr sf nS fs fl nw ls cnt hl hh nu lo hi st sin sta tt er vl vh sb (if st = true then tb + 1 else 16) gG gE gU sg) (WT κ.z m aK aP aQ aT aW aO aM aL aH aI aS aR aX aF aY aJ aG aE aU nS dr sf nw tA tL tl tg st sb tb vl vh tt er sin sta gK gP gQ gT gW gO gM gL gH gI gS gR gX gF gY gN gG gE gU))
    refine v_sld X hS (j := ((3 + 9 * t) + 1)) (by omega) (by omega) d_L_law_223 ?_
    refine v_aload_n X 3 d_L_law_224 rfl ?_
    refine v_iload_n X 0 d_L_law_225 rfl ?_
    refine v_iconst X 2 d_L_law_226 (by decide) ?_
    refine v_iaddN X (a := (3 + 9 * t)) (b := 2) d_L_law_227 ?_
    refine v_sld X hS (j := ((3 + 9 * t) + 2)) (by omega) (by omega) d_L_law_228 ?_
    refine v_i2l X d_L_law_229 ?_
    refine v_bipush X 32 d_L_law_230 (by decide) ?_
    refine v_lshl X d_L_law_232 ?_
    refine v_aload_n X 3 d_L_law_233 rfl ?_
    refine v_iload_n X 0 d_L_law_234 rfl ?_
    refine v_iconst X 3 d_L_law_235 (by decide) ?_
    refine v_iaddN X (a := (3 + 9 * t)) (b := 3) d_L_law_236 ?_
    refine v_sld X hS (j := ((3 + 9 * t) + 3)) (by omega) (by omega) d_L_law_237 ?_
    refine v_i2l X d_L_law_238 ?_
    show V κ 4 56 549 239 [(3, .int (nI (3 + 9 * t))), (2, .ref m), (1, .ref o), (0, .ref b)] [.long ((xs ((3 + 9 * t) + 3)).toInt64), .long (((xs ((3 + 9 * t) + 2)).toInt64) <<< ((32 : Int32).toInt64 &&& 63)), .int (xs ((3 + 9 * t) + 1)), .ref m, .int (bI false)] (wA (WM κ.z o sa la e d e1 e2 e3 l0 l1 l2 l3 dr sf nS fs fl nw ls cnt hl hh nu lo hi st sin sta tt er vl vh sb (if st = true then tb + 1 else 16) gG gE gU sg) (WT κ.z m aK aP aQ aT aW aO aM aL aH aI aS aR aX aF aY aJ aG aE aU nS dr sf nw tA tL tl tg st sb tb vl vh tt er sin sta gK gP gQ gT gW gO gM gL gH gI gS gR gX gF gY gN gG gE gU))
    refine v_ldc2 X (v := 4294967295) m640 d_L_law_239 ?_
    refine v_land X d_L_law_242 ?_
    refine v_lor X d_L_law_243 ?_
    refine v_perm List.perm_append_comm ?_
    refine v_callV X (b := m) (k := 56) (n := 549) (n9 := 2) (As := [.int (xs ((3 + 9 * t) + 1)), .long ((((xs ((3 + 9 * t) + 2)).toInt64) <<< ((32 : Int32).toInt64 &&& 63)) ||| (((xs ((3 + 9 * t) + 3)).toInt64) &&& 4294967295))]) (rest := [.int (bI false)]) (wc := WT κ.z m aK aP aQ aT aW aO aM aL aH aI aS aR aX aF aY aJ aG aE aU nS dr sf nw tA tL tl tg st sb tb vl vh tt er sin sta gK gP gQ gT gW gO gM gL gH gI gS gR gX gF gY gN gG gE gU) (wr := WM κ.z o sa la e d e1 e2 e3 l0 l1 l2 l3 dr sf nS fs fl nw ls cnt hl hh nu lo hi st sin sta tt er vl vh sb (if st = true then tb + 1 else 16) gG gE gU sg) (u_T_keyB κ.l κ.D κ.z m aK aP aQ aT aW aO aM aL aH aI aS aR aX aF aY aJ aG aE aU nS dr sf nw tA tL tl tg st sb tb vl vh tt er sin sta gK gP gQ gT gW gO gM gL gH gI gS gR gX gF gY gN gG gE gU (xs ((3 + 9 * t) + 1)) ((((xs ((3 + 9 * t) + 2)).toInt64) <<< ((32 : Int32).toInt64 &&& 63)) ||| (((xs ((3 + 9 * t) + 3)).toInt64) &&& 4294967295)) hb) 0 rfl rfl m509 m510 m511 m36 (by decide +kernel) rfl (Nat.le_of_ble_eq_true rfl) ⟨by decide, by decide⟩ ⟨by decide, by decide⟩ rfl rfl m512 d_L_law_244 (fun v w1 hg => ?_)
    obtain ⟨rfl, rfl⟩ := hg
    refine v_perm List.perm_append_comm ?_
    show V κ 4 56 549 247 [(3, .int (nI (3 + 9 * t))), (2, .ref m), (1, .ref o), (0, .ref b)] [.int (bI false), .int (bI false)] (wA (WM κ.z o sa la e d e1 e2 e3 l0 l1 l2 l3 dr sf nS fs fl nw ls cnt hl hh nu lo hi st sin sta tt er vl vh sb (if st = true then tb + 1 else 16) gG gE gU sg) (WT κ.z m aK aP aQ aT aW aO aM aL aH aI aS aR aX aF aY aJ aG aE aU nS dr sf nw tA tL tl tg st sb tb vl vh tt er sin sta gK gP gQ gT gW gO gM gL gH gI gS gR gX gF gY gN gG gE gU))
    refine v_icmp_eq X 996 d_L_law_247 (by decide) (fun c247 => ?_) (fun c247 => absurd rfl c247)
    refine v_iinc X 0 d_L_law_996 (x := nI (3 + 9 * t)) rfl (v := nI ((3 + 9 * t) + 9)) (nI_add _ _) (by decide) (lv' := [(3, .int (nI ((3 + 9 * t) + 9))), (2, .ref m), (1, .ref o), (0, .ref b)]) rfl ?_
    refine v_goto X 48 d_L_law_999 (by decide) ?_
    exact v_eq rfl (by first | rfl | (rw [show 3 + 9 * t + 9 = 3 + 9 * (t + 1) by omega])) rfl (by rfl) (ih nw ls cnt hl hh nu lo hi st sin sta tt er vl vh sb tb sg tA tL tl tg gK gP gQ gT gW gO gM gL gH gI gS gR gX gF gY gN gG gE gU (Inv_next h))

set_option maxHeartbeats 4000000 in
set_option maxRecDepth 100000 in
theorem lc_3 {κ : VC} (X : Cx κ code R_L room_1 4) (b : Nat) (o : Nat) (sa : Nat) (la : Nat) (e : Nat) (d : Nat) (e1 : Nat) (e2 : Nat) (e3 : Nat) (l0 : Nat) (l1 : Nat) (l2 : Nat) (l3 : Nat) (dr : Int32) (sf : Int32) (nS : Nat) (fs : Nat → Option Nat) (fl : Nat → Option Nat) (m : Nat) (aK : Nat) (aP : Nat) (aQ : Nat) (aT : Nat) (aW : Nat) (aO : Nat) (aM : Nat) (aL : Nat) (aH : Nat) (aI : Nat) (aS : Nat) (aR : Nat) (aX : Nat) (aF : Nat) (aY : Nat) (aJ : Nat) (aG : Nat) (aE : Nat) (aU : Nat) (L : Nat) (xs : Nat → Int32) (hS : Scr κ b L xs) (hL : L ≤ 4611) (hfl : fl 0 = some l0 ∧ fl 1 = some l1 ∧ fl 2 = some l2 ∧ fl 3 = some l3) (t : Nat) (ht : 12 + 9 * t ≤ L) (nw : Int64) (ls : Int64) (cnt : Nat) (hl : Int64) (hh : Int64) (nu : Nat → Nat) (lo : Nat → Int64) (hi : Nat → Int64) (st : Bool) (sin : Int64) (sta : Int64) (tt : Int64) (er : Int64) (vl : Int64) (vh : Int64) (sb : Int32) (tb : Int32) (sg : Nat → SvS) (tA : Bool) (tL : Int64) (tl : Int64) (tg : Int64) (gK : Nat → Int64) (gP : Nat → Bool) (gQ : Nat → Int64) (gT : Nat → Int64) (gW : Nat → Bool) (gO : Nat → Int64) (gM : Nat → Nat) (gL : Nat → Int64) (gH : Nat → Int64) (gI : Nat → Int64) (gS : Nat → Int32) (gR : Nat → Int32) (gX : Nat → Int32) (gF : Nat → Int64) (gY : Nat → Int64) (gN : Nat → Bool) (gG : Nat → Bool) (gE : Nat → Int32) (gU : Nat → Int64) (h : Inv t nS dr fs nw ls nu sin sta tt sg tA tL gK gQ gT gO gL gH gI gP gW gM gS gR gX) (ih : ∀ (nw : Int64) (ls : Int64) (cnt : Nat) (hl : Int64) (hh : Int64) (nu : Nat → Nat) (lo : Nat → Int64) (hi : Nat → Int64) (st : Bool) (sin : Int64) (sta : Int64) (tt : Int64) (er : Int64) (vl : Int64) (vh : Int64) (sb : Int32) (tb : Int32) (sg : Nat → SvS) (tA : Bool) (tL : Int64) (tl : Int64) (tg : Int64) (gK : Nat → Int64) (gP : Nat → Bool) (gQ : Nat → Int64) (gT : Nat → Int64) (gW : Nat → Bool) (gO : Nat → Int64) (gM : Nat → Nat) (gL : Nat → Int64) (gH : Nat → Int64) (gI : Nat → Int64) (gS : Nat → Int32) (gR : Nat → Int32) (gX : Nat → Int32) (gF : Nat → Int64) (gY : Nat → Int64) (gN : Nat → Bool) (gG : Nat → Bool) (gE : Nat → Int32) (gU : Nat → Int64), Inv (t + 1) nS dr fs nw ls nu sin sta tt sg tA tL gK gQ gT gO gL gH gI gP gW gM gS gR gX → V κ 4 56 549 48 [(3, .int (nI (3 + 9 * (t + 1)))), (2, .ref m), (1, .ref o), (0, .ref b)] [] (wA (WM κ.z o sa la e d e1 e2 e3 l0 l1 l2 l3 dr sf nS fs fl nw ls cnt hl hh nu lo hi st sin sta tt er vl vh sb (if st = true then tb + 1 else 16) gG gE gU sg) (WT κ.z m aK aP aQ aT aW aO aM aL aH aI aS aR aX aF aY aJ aG aE aU nS dr sf nw tA tL tl tg st sb tb vl vh tt er sin sta gK gP gQ gT gW gO gM gL gH gI gS gR gX gF gY gN gG gE gU))) : V κ 4 56 549 252 [(3, .int (nI (3 + 9 * t))), (2, .ref m), (1, .ref o), (0, .ref b)] [] (wA (WM κ.z o sa la e d e1 e2 e3 l0 l1 l2 l3 dr sf nS fs fl nw ls cnt hl hh nu lo hi st sin sta tt er vl vh sb (if st = true then tb + 1 else 16) gG gE gU sg) (WT κ.z m aK aP aQ aT aW aO aM aL aH aI aS aR aX aF aY aJ aG aE aU nS dr sf nw tA tL tl tg st sb tb vl vh tt er sin sta gK gP gQ gT gW gO gM gL gH gI gS gR gX gF gY gN gG gE gU)) := by
  have hn6 := h.1.2
  have hn1 := h.1.1
  rcases srv_cases (xs (3 + 9 * t + 1)) hn6 with ⟨i, hj, hx⟩ | hb
  · skip
    show V κ 4 56 549 252 [(3, .int (nI (3 + 9 * t))), (2, .ref m), (1, .ref o), (0, .ref b)] [] (wA (WM κ.z o sa la e d e1 e2 e3 l0 l1 l2 l3 dr sf nS fs fl nw ls cnt hl hh nu lo hi st sin sta tt er vl vh sb (if st = true then tb + 1 else 16) gG gE gU sg) (WT κ.z m aK aP aQ aT aW aO aM aL aH aI aS aR aX aF aY aJ aG aE aU nS dr sf nw tA tL tl tg st sb tb vl vh tt er sin sta gK gP gQ gT gW gO gM gL gH gI gS gR gX gF gY gN gG gE gU))
    refine v_aload_n X 2 d_L_law_252 rfl ?_
    refine v_aload_n X 3 d_L_law_253 rfl ?_
    refine v_iload_n X 0 d_L_law_254 rfl ?_
    refine v_iconst X 1 d_L_law_255 (by decide) ?_
    refine v_iaddN X (a := (3 + 9 * t)) (b := 1) d_L_law_256 ?_
    refine v_sldE X hS (j := ((3 + 9 * t) + 1)) (x := nI i) (by omega) (by omega) hx d_L_law_257 ?_
    refine v_aload_n X 3 d_L_law_258 rfl ?_
    refine v_iload_n X 0 d_L_law_259 rfl ?_
    refine v_iconst X 2 d_L_law_260 (by decide) ?_
    refine v_iaddN X (a := (3 + 9 * t)) (b := 2) d_L_law_261 ?_
    refine v_sld X hS (j := ((3 + 9 * t) + 2)) (by omega) (by omega) d_L_law_262 ?_
    refine v_i2l X d_L_law_263 ?_
    refine v_bipush X 32 d_L_law_264 (by decide) ?_
    refine v_lshl X d_L_law_266 ?_
    show V κ 4 56 549 267 [(3, .int (nI (3 + 9 * t))), (2, .ref m), (1, .ref o), (0, .ref b)] [.long (((xs ((3 + 9 * t) + 2)).toInt64) <<< ((32 : Int32).toInt64 &&& 63)), .int (nI i), .ref o] (wA (WM κ.z o sa la e d e1 e2 e3 l0 l1 l2 l3 dr sf nS fs fl nw ls cnt hl hh nu lo hi st sin sta tt er vl vh sb (if st = true then tb + 1 else 16) gG gE gU sg) (WT κ.z m aK aP aQ aT aW aO aM aL aH aI aS aR aX aF aY aJ aG aE aU nS dr sf nw tA tL tl tg st sb tb vl vh tt er sin sta gK gP gQ gT gW gO gM gL gH gI gS gR gX gF gY gN gG gE gU))
    refine v_aload_n X 3 d_L_law_267 rfl ?_
    refine v_iload_n X 0 d_L_law_268 rfl ?_
    refine v_iconst X 3 d_L_law_269 (by decide) ?_
    refine v_iaddN X (a := (3 + 9 * t)) (b := 3) d_L_law_270 ?_
    refine v_sld X hS (j := ((3 + 9 * t) + 3)) (by omega) (by omega) d_L_law_271 ?_
    refine v_i2l X d_L_law_272 ?_
    refine v_ldc2 X (v := 4294967295) m640 d_L_law_273 ?_
    refine v_land X d_L_law_276 ?_
    refine v_lor X d_L_law_277 ?_
    refine v_aload_n X 3 d_L_law_278 rfl ?_
    refine v_iload_n X 0 d_L_law_279 rfl ?_
    refine v_iconst X 4 d_L_law_280 (by decide) ?_
    refine v_iaddN X (a := (3 + 9 * t)) (b := 4) d_L_law_281 ?_
    refine v_sld X hS (j := ((3 + 9 * t) + 4)) (by omega) (by omega) d_L_law_282 ?_
    refine v_i2l X d_L_law_283 ?_
    show V κ 4 56 549 284 [(3, .int (nI (3 + 9 * t))), (2, .ref m), (1, .ref o), (0, .ref b)] [.long ((xs ((3 + 9 * t) + 4)).toInt64), .long ((((xs ((3 + 9 * t) + 2)).toInt64) <<< ((32 : Int32).toInt64 &&& 63)) ||| (((xs ((3 + 9 * t) + 3)).toInt64) &&& 4294967295)), .int (nI i), .ref o] (wA (WM κ.z o sa la e d e1 e2 e3 l0 l1 l2 l3 dr sf nS fs fl nw ls cnt hl hh nu lo hi st sin sta tt er vl vh sb (if st = true then tb + 1 else 16) gG gE gU sg) (WT κ.z m aK aP aQ aT aW aO aM aL aH aI aS aR aX aF aY aJ aG aE aU nS dr sf nw tA tL tl tg st sb tb vl vh tt er sin sta gK gP gQ gT gW gO gM gL gH gI gS gR gX gF gY gN gG gE gU))
    refine v_bipush X 32 d_L_law_284 (by decide) ?_
    refine v_lshl X d_L_law_286 ?_
    refine v_aload_n X 3 d_L_law_287 rfl ?_
    refine v_iload_n X 0 d_L_law_288 rfl ?_
    refine v_iconst X 5 d_L_law_289 (by decide) ?_
    refine v_iaddN X (a := (3 + 9 * t)) (b := 5) d_L_law_290 ?_
    refine v_sld X hS (j := ((3 + 9 * t) + 5)) (by omega) (by omega) d_L_law_291 ?_
    refine v_i2l X d_L_law_292 ?_
    refine v_ldc2 X (v := 4294967295) m640 d_L_law_293 ?_
    refine v_land X d_L_law_296 ?_
    refine v_lor X d_L_law_297 ?_
    refine v_aload_n X 3 d_L_law_298 rfl ?_
    refine v_iload_n X 0 d_L_law_299 rfl ?_
    refine v_bipush X 6 d_L_law_300 (by decide) ?_
    refine v_iaddN X (a := (3 + 9 * t)) (b := 6) d_L_law_302 ?_
    show V κ 4 56 549 303 [(3, .int (nI (3 + 9 * t))), (2, .ref m), (1, .ref o), (0, .ref b)] [.int (nI ((3 + 9 * t) + 6)), .ref b, .long ((((xs ((3 + 9 * t) + 4)).toInt64) <<< ((32 : Int32).toInt64 &&& 63)) ||| (((xs ((3 + 9 * t) + 5)).toInt64) &&& 4294967295)), .long ((((xs ((3 + 9 * t) + 2)).toInt64) <<< ((32 : Int32).toInt64 &&& 63)) ||| (((xs ((3 + 9 * t) + 3)).toInt64) &&& 4294967295)), .int (nI i), .ref o] (wA (WM κ.z o sa la e d e1 e2 e3 l0 l1 l2 l3 dr sf nS fs fl nw ls cnt hl hh nu lo hi st sin sta tt er vl vh sb (if st = true then tb + 1 else 16) gG gE gU sg) (WT κ.z m aK aP aQ aT aW aO aM aL aH aI aS aR aX aF aY aJ aG aE aU nS dr sf nw tA tL tl tg st sb tb vl vh tt er sin sta gK gP gQ gT gW gO gM gL gH gI gS gR gX gF gY gN gG gE gU))
    refine v_sld X hS (j := ((3 + 9 * t) + 6)) (by omega) (by omega) d_L_law_303 ?_
    refine v_i2l X d_L_law_304 ?_
    refine v_bipush X 32 d_L_law_305 (by decide) ?_
    refine v_lshl X d_L_law_307 ?_
    refine v_aload_n X 3 d_L_law_308 rfl ?_
    refine v_iload_n X 0 d_L_law_309 rfl ?_
    refine v_bipush X 7 d_L_law_310 (by decide) ?_
    refine v_iaddN X (a := (3 + 9 * t)) (b := 7) d_L_law_312 ?_
    refine v_sld X hS (j := ((3 + 9 * t) + 7)) (by omega) (by omega) d_L_law_313 ?_
    refine v_i2l X d_L_law_314 ?_
    refine v_ldc2 X (v := 4294967295) m640 d_L_law_315 ?_
    refine v_land X d_L_law_318 ?_
    refine v_lor X d_L_law_319 ?_
    refine v_callV X (b := o) (k := 56) (n := 549) (n9 := 4) (As := [.int (nI i), .long ((((xs ((3 + 9 * t) + 2)).toInt64) <<< ((32 : Int32).toInt64 &&& 63)) ||| (((xs ((3 + 9 * t) + 3)).toInt64) &&& 4294967295)), .long ((((xs ((3 + 9 * t) + 4)).toInt64) <<< ((32 : Int32).toInt64 &&& 63)) ||| (((xs ((3 + 9 * t) + 5)).toInt64) &&& 4294967295)), .long ((((xs ((3 + 9 * t) + 6)).toInt64) <<< ((32 : Int32).toInt64 &&& 63)) ||| (((xs ((3 + 9 * t) + 7)).toInt64) &&& 4294967295))]) (rest := []) (wc := WM κ.z o sa la e d e1 e2 e3 l0 l1 l2 l3 dr sf nS fs fl nw ls cnt hl hh nu lo hi st sin sta tt er vl vh sb (if st = true then tb + 1 else 16) gG gE gU sg) (wr := WT κ.z m aK aP aQ aT aW aO aM aL aH aI aS aR aX aF aY aJ aG aE aU nS dr sf nw tA tL tl tg st sb tb vl vh tt er sin sta gK gP gQ gT gW gO gM gL gH gI gS gR gX gF gY gN gG gE gU) (u_M_sealG κ.l κ.D κ.z o sa la e d e1 e2 e3 l0 l1 l2 l3 dr sf nS fs fl nw ls cnt hl hh nu lo hi st sin sta tt er vl vh sb (if st = true then tb + 1 else 16) gG gE gU sg i ((((xs ((3 + 9 * t) + 2)).toInt64) <<< ((32 : Int32).toInt64 &&& 63)) ||| (((xs ((3 + 9 * t) + 3)).toInt64) &&& 4294967295)) ((((xs ((3 + 9 * t) + 4)).toInt64) <<< ((32 : Int32).toInt64 &&& 63)) ||| (((xs ((3 + 9 * t) + 5)).toInt64) &&& 4294967295)) ((((xs ((3 + 9 * t) + 6)).toInt64) <<< ((32 : Int32).toInt64 &&& 63)) ||| (((xs ((3 + 9 * t) + 7)).toInt64) &&& 4294967295)) hj hn6 (h.2.2.1 i hj) (h.2.2.2.2.2.2.2.1 i hj).1) 0 rfl rfl m182 m183 m184 m30 (by decide +kernel) rfl (Nat.le_of_ble_eq_true rfl) ⟨by decide, by decide⟩ ⟨by decide, by decide⟩ rfl rfl m185 d_L_law_320 (fun v w1 hg => ?_)
    obtain ⟨rfl, rfl⟩ := hg
    show V κ 4 56 549 323 [(3, .int (nI (3 + 9 * t))), (2, .ref m), (1, .ref o), (0, .ref b)] [.int (f_M_sealUnder (s_sec (sg i)) ((((xs ((3 + 9 * t) + 2)).toInt64) <<< ((32 : Int32).toInt64 &&& 63)) ||| (((xs ((3 + 9 * t) + 3)).toInt64) &&& 4294967295)) ((((xs ((3 + 9 * t) + 4)).toInt64) <<< ((32 : Int32).toInt64 &&& 63)) ||| (((xs ((3 + 9 * t) + 5)).toInt64) &&& 4294967295)) ((((xs ((3 + 9 * t) + 6)).toInt64) <<< ((32 : Int32).toInt64 &&& 63)) ||| (((xs ((3 + 9 * t) + 7)).toInt64) &&& 4294967295)))] (wA (WM κ.z o sa la e d e1 e2 e3 l0 l1 l2 l3 dr sf nS fs fl nw ls cnt hl hh nu lo hi st sin sta tt er vl vh sb (if st = true then tb + 1 else 16) gG gE gU sg) (WT κ.z m aK aP aQ aT aW aO aM aL aH aI aS aR aX aF aY aJ aG aE aU nS dr sf nw tA tL tl tg st sb tb vl vh tt er sin sta gK gP gQ gT gW gO gM gL gH gI gS gR gX gF gY gN gG gE gU))
    refine v_aload_n X 1 d_L_law_323 rfl ?_
    show V κ 4 56 549 324 [(3, .int (nI (3 + 9 * t))), (2, .ref m), (1, .ref o), (0, .ref b)] [.ref m, .int (f_M_sealUnder (s_sec (sg i)) ((((xs ((3 + 9 * t) + 2)).toInt64) <<< ((32 : Int32).toInt64 &&& 63)) ||| (((xs ((3 + 9 * t) + 3)).toInt64) &&& 4294967295)) ((((xs ((3 + 9 * t) + 4)).toInt64) <<< ((32 : Int32).toInt64 &&& 63)) ||| (((xs ((3 + 9 * t) + 5)).toInt64) &&& 4294967295)) ((((xs ((3 + 9 * t) + 6)).toInt64) <<< ((32 : Int32).toInt64 &&& 63)) ||| (((xs ((3 + 9 * t) + 7)).toInt64) &&& 4294967295)))] (wA (WM κ.z o sa la e d e1 e2 e3 l0 l1 l2 l3 dr sf nS fs fl nw ls cnt hl hh nu lo hi st sin sta tt er vl vh sb (if st = true then tb + 1 else 16) gG gE gU sg) (WT κ.z m aK aP aQ aT aW aO aM aL aH aI aS aR aX aF aY aJ aG aE aU nS dr sf nw tA tL tl tg st sb tb vl vh tt er sin sta gK gP gQ gT gW gO gM gL gH gI gS gR gX gF gY gN gG gE gU))
    refine v_aload_n X 3 d_L_law_324 rfl ?_
    refine v_iload_n X 0 d_L_law_325 rfl ?_
    refine v_iconst X 1 d_L_law_326 (by decide) ?_
    refine v_iaddN X (a := (3 + 9 * t)) (b := 1) d_L_law_327 ?_
    refine v_sldE X hS (j := ((3 + 9 * t) + 1)) (x := nI i) (by omega) (by omega) hx d_L_law_328 ?_
    refine v_aload_n X 3 d_L_law_329 rfl ?_
    refine v_iload_n X 0 d_L_law_330 rfl ?_
    refine v_iconst X 2 d_L_law_331 (by decide) ?_
    refine v_iaddN X (a := (3 + 9 * t)) (b := 2) d_L_law_332 ?_
    refine v_sld X hS (j := ((3 + 9 * t) + 2)) (by omega) (by omega) d_L_law_333 ?_
    refine v_i2l X d_L_law_334 ?_
    refine v_bipush X 32 d_L_law_335 (by decide) ?_
    refine v_lshl X d_L_law_337 ?_
    refine v_aload_n X 3 d_L_law_338 rfl ?_
    refine v_iload_n X 0 d_L_law_339 rfl ?_
    show V κ 4 56 549 340 [(3, .int (nI (3 + 9 * t))), (2, .ref m), (1, .ref o), (0, .ref b)] [.int (nI (3 + 9 * t)), .ref b, .long (((xs ((3 + 9 * t) + 2)).toInt64) <<< ((32 : Int32).toInt64 &&& 63)), .int (nI i), .ref m, .int (f_M_sealUnder (s_sec (sg i)) ((((xs ((3 + 9 * t) + 2)).toInt64) <<< ((32 : Int32).toInt64 &&& 63)) ||| (((xs ((3 + 9 * t) + 3)).toInt64) &&& 4294967295)) ((((xs ((3 + 9 * t) + 4)).toInt64) <<< ((32 : Int32).toInt64 &&& 63)) ||| (((xs ((3 + 9 * t) + 5)).toInt64) &&& 4294967295)) ((((xs ((3 + 9 * t) + 6)).toInt64) <<< ((32 : Int32).toInt64 &&& 63)) ||| (((xs ((3 + 9 * t) + 7)).toInt64) &&& 4294967295)))] (wA (WM κ.z o sa la e d e1 e2 e3 l0 l1 l2 l3 dr sf nS fs fl nw ls cnt hl hh nu lo hi st sin sta tt er vl vh sb (if st = true then tb + 1 else 16) gG gE gU sg) (WT κ.z m aK aP aQ aT aW aO aM aL aH aI aS aR aX aF aY aJ aG aE aU nS dr sf nw tA tL tl tg st sb tb vl vh tt er sin sta gK gP gQ gT gW gO gM gL gH gI gS gR gX gF gY gN gG gE gU))
    refine v_iconst X 3 d_L_law_340 (by decide) ?_
    refine v_iaddN X (a := (3 + 9 * t)) (b := 3) d_L_law_341 ?_
    refine v_sld X hS (j := ((3 + 9 * t) + 3)) (by omega) (by omega) d_L_law_342 ?_
    refine v_i2l X d_L_law_343 ?_
    refine v_ldc2 X (v := 4294967295) m640 d_L_law_344 ?_
    refine v_land X d_L_law_347 ?_
    refine v_lor X d_L_law_348 ?_
    refine v_aload_n X 3 d_L_law_349 rfl ?_
    refine v_iload_n X 0 d_L_law_350 rfl ?_
    refine v_iconst X 4 d_L_law_351 (by decide) ?_
    refine v_iaddN X (a := (3 + 9 * t)) (b := 4) d_L_law_352 ?_
    refine v_sld X hS (j := ((3 + 9 * t) + 4)) (by omega) (by omega) d_L_law_353 ?_
    refine v_i2l X d_L_law_354 ?_
    refine v_bipush X 32 d_L_law_355 (by decide) ?_
    refine v_lshl X d_L_law_357 ?_
    show V κ 4 56 549 358 [(3, .int (nI (3 + 9 * t))), (2, .ref m), (1, .ref o), (0, .ref b)] [.long (((xs ((3 + 9 * t) + 4)).toInt64) <<< ((32 : Int32).toInt64 &&& 63)), .long ((((xs ((3 + 9 * t) + 2)).toInt64) <<< ((32 : Int32).toInt64 &&& 63)) ||| (((xs ((3 + 9 * t) + 3)).toInt64) &&& 4294967295)), .int (nI i), .ref m, .int (f_M_sealUnder (s_sec (sg i)) ((((xs ((3 + 9 * t) + 2)).toInt64) <<< ((32 : Int32).toInt64 &&& 63)) ||| (((xs ((3 + 9 * t) + 3)).toInt64) &&& 4294967295)) ((((xs ((3 + 9 * t) + 4)).toInt64) <<< ((32 : Int32).toInt64 &&& 63)) ||| (((xs ((3 + 9 * t) + 5)).toInt64) &&& 4294967295)) ((((xs ((3 + 9 * t) + 6)).toInt64) <<< ((32 : Int32).toInt64 &&& 63)) ||| (((xs ((3 + 9 * t) + 7)).toInt64) &&& 4294967295)))] (wA (WM κ.z o sa la e d e1 e2 e3 l0 l1 l2 l3 dr sf nS fs fl nw ls cnt hl hh nu lo hi st sin sta tt er vl vh sb (if st = true then tb + 1 else 16) gG gE gU sg) (WT κ.z m aK aP aQ aT aW aO aM aL aH aI aS aR aX aF aY aJ aG aE aU nS dr sf nw tA tL tl tg st sb tb vl vh tt er sin sta gK gP gQ gT gW gO gM gL gH gI gS gR gX gF gY gN gG gE gU))
    refine v_aload_n X 3 d_L_law_358 rfl ?_
    refine v_iload_n X 0 d_L_law_359 rfl ?_
    refine v_iconst X 5 d_L_law_360 (by decide) ?_
    refine v_iaddN X (a := (3 + 9 * t)) (b := 5) d_L_law_361 ?_
    refine v_sld X hS (j := ((3 + 9 * t) + 5)) (by omega) (by omega) d_L_law_362 ?_
    refine v_i2l X d_L_law_363 ?_
    refine v_ldc2 X (v := 4294967295) m640 d_L_law_364 ?_
    refine v_land X d_L_law_367 ?_
    refine v_lor X d_L_law_368 ?_
    refine v_aload_n X 3 d_L_law_369 rfl ?_
    refine v_iload_n X 0 d_L_law_370 rfl ?_
    refine v_bipush X 6 d_L_law_371 (by decide) ?_
    refine v_iaddN X (a := (3 + 9 * t)) (b := 6) d_L_law_373 ?_
    refine v_sld X hS (j := ((3 + 9 * t) + 6)) (by omega) (by omega) d_L_law_374 ?_
    refine v_i2l X d_L_law_375 ?_
    show V κ 4 56 549 376 [(3, .int (nI (3 + 9 * t))), (2, .ref m), (1, .ref o), (0, .ref b)] [.long ((xs ((3 + 9 * t) + 6)).toInt64), .long ((((xs ((3 + 9 * t) + 4)).toInt64) <<< ((32 : Int32).toInt64 &&& 63)) ||| (((xs ((3 + 9 * t) + 5)).toInt64) &&& 4294967295)), .long ((((xs ((3 + 9 * t) + 2)).toInt64) <<< ((32 : Int32).toInt64 &&& 63)) ||| (((xs ((3 + 9 * t) + 3)).toInt64) &&& 4294967295)), .int (nI i), .ref m, .int (f_M_sealUnder (s_sec (sg i)) ((((xs ((3 + 9 * t) + 2)).toInt64) <<< ((32 : Int32).toInt64 &&& 63)) ||| (((xs ((3 + 9 * t) + 3)).toInt64) &&& 4294967295)) ((((xs ((3 + 9 * t) + 4)).toInt64) <<< ((32 : Int32).toInt64 &&& 63)) ||| (((xs ((3 + 9 * t) + 5)).toInt64) &&& 4294967295)) ((((xs ((3 + 9 * t) + 6)).toInt64) <<< ((32 : Int32).toInt64 &&& 63)) ||| (((xs ((3 + 9 * t) + 7)).toInt64) &&& 4294967295)))] (wA (WM κ.z o sa la e d e1 e2 e3 l0 l1 l2 l3 dr sf nS fs fl nw ls cnt hl hh nu lo hi st sin sta tt er vl vh sb (if st = true then tb + 1 else 16) gG gE gU sg) (WT κ.z m aK aP aQ aT aW aO aM aL aH aI aS aR aX aF aY aJ aG aE aU nS dr sf nw tA tL tl tg st sb tb vl vh tt er sin sta gK gP gQ gT gW gO gM gL gH gI gS gR gX gF gY gN gG gE gU))
    refine v_bipush X 32 d_L_law_376 (by decide) ?_
    refine v_lshl X d_L_law_378 ?_
    refine v_aload_n X 3 d_L_law_379 rfl ?_
    refine v_iload_n X 0 d_L_law_380 rfl ?_
    refine v_bipush X 7 d_L_law_381 (by decide) ?_
    refine v_iaddN X (a := (3 + 9 * t)) (b := 7) d_L_law_383 ?_
    refine v_sld X hS (j := ((3 + 9 * t) + 7)) (by omega) (by omega) d_L_law_384 ?_
    refine v_i2l X d_L_law_385 ?_
    refine v_ldc2 X (v := 4294967295) m640 d_L_law_386 ?_
    refine v_land X d_L_law_389 ?_
    refine v_lor X d_L_law_390 ?_
    refine v_perm List.perm_append_comm ?_
    refine v_callV X (b := m) (k := 56) (n := 549) (n9 := 4) (As := [.int (nI i), .long ((((xs ((3 + 9 * t) + 2)).toInt64) <<< ((32 : Int32).toInt64 &&& 63)) ||| (((xs ((3 + 9 * t) + 3)).toInt64) &&& 4294967295)), .long ((((xs ((3 + 9 * t) + 4)).toInt64) <<< ((32 : Int32).toInt64 &&& 63)) ||| (((xs ((3 + 9 * t) + 5)).toInt64) &&& 4294967295)), .long ((((xs ((3 + 9 * t) + 6)).toInt64) <<< ((32 : Int32).toInt64 &&& 63)) ||| (((xs ((3 + 9 * t) + 7)).toInt64) &&& 4294967295))]) (rest := [.int (f_M_sealUnder (s_sec (sg i)) ((((xs ((3 + 9 * t) + 2)).toInt64) <<< ((32 : Int32).toInt64 &&& 63)) ||| (((xs ((3 + 9 * t) + 3)).toInt64) &&& 4294967295)) ((((xs ((3 + 9 * t) + 4)).toInt64) <<< ((32 : Int32).toInt64 &&& 63)) ||| (((xs ((3 + 9 * t) + 5)).toInt64) &&& 4294967295)) ((((xs ((3 + 9 * t) + 6)).toInt64) <<< ((32 : Int32).toInt64 &&& 63)) ||| (((xs ((3 + 9 * t) + 7)).toInt64) &&& 4294967295)))]) (wc := WT κ.z m aK aP aQ aT aW aO aM aL aH aI aS aR aX aF aY aJ aG aE aU nS dr sf nw tA tL tl tg st sb tb vl vh tt er sin sta gK gP gQ gT gW gO gM gL gH gI gS gR gX gF gY gN gG gE gU) (wr := WM κ.z o sa la e d e1 e2 e3 l0 l1 l2 l3 dr sf nS fs fl nw ls cnt hl hh nu lo hi st sin sta tt er vl vh sb (if st = true then tb + 1 else 16) gG gE gU sg) (u_T_sealG κ.l κ.D κ.z m aK aP aQ aT aW aO aM aL aH aI aS aR aX aF aY aJ aG aE aU nS dr sf nw tA tL tl tg st sb tb vl vh tt er sin sta gK gP gQ gT gW gO gM gL gH gI gS gR gX gF gY gN gG gE gU i ((((xs ((3 + 9 * t) + 2)).toInt64) <<< ((32 : Int32).toInt64 &&& 63)) ||| (((xs ((3 + 9 * t) + 3)).toInt64) &&& 4294967295)) ((((xs ((3 + 9 * t) + 4)).toInt64) <<< ((32 : Int32).toInt64 &&& 63)) ||| (((xs ((3 + 9 * t) + 5)).toInt64) &&& 4294967295)) ((((xs ((3 + 9 * t) + 6)).toInt64) <<< ((32 : Int32).toInt64 &&& 63)) ||| (((xs ((3 + 9 * t) + 7)).toInt64) &&& 4294967295)) hn6 hj) 0 rfl rfl m516 m517 m518 m36 (by decide +kernel) rfl (Nat.le_of_ble_eq_true rfl) ⟨by decide, by decide⟩ ⟨by decide, by decide⟩ rfl rfl m519 d_L_law_391 (fun v w1 hg => ?_)
    obtain ⟨rfl, rfl⟩ := hg
    refine v_perm List.perm_append_comm ?_
    show V κ 4 56 549 394 [(3, .int (nI (3 + 9 * t))), (2, .ref m), (1, .ref o), (0, .ref b)] [.int (f_T_sealG gK i ((((xs ((3 + 9 * t) + 2)).toInt64) <<< ((32 : Int32).toInt64 &&& 63)) ||| (((xs ((3 + 9 * t) + 3)).toInt64) &&& 4294967295)) ((((xs ((3 + 9 * t) + 4)).toInt64) <<< ((32 : Int32).toInt64 &&& 63)) ||| (((xs ((3 + 9 * t) + 5)).toInt64) &&& 4294967295)) ((((xs ((3 + 9 * t) + 6)).toInt64) <<< ((32 : Int32).toInt64 &&& 63)) ||| (((xs ((3 + 9 * t) + 7)).toInt64) &&& 4294967295))), .int (f_M_sealUnder (s_sec (sg i)) ((((xs ((3 + 9 * t) + 2)).toInt64) <<< ((32 : Int32).toInt64 &&& 63)) ||| (((xs ((3 + 9 * t) + 3)).toInt64) &&& 4294967295)) ((((xs ((3 + 9 * t) + 4)).toInt64) <<< ((32 : Int32).toInt64 &&& 63)) ||| (((xs ((3 + 9 * t) + 5)).toInt64) &&& 4294967295)) ((((xs ((3 + 9 * t) + 6)).toInt64) <<< ((32 : Int32).toInt64 &&& 63)) ||| (((xs ((3 + 9 * t) + 7)).toInt64) &&& 4294967295)))] (wA (WM κ.z o sa la e d e1 e2 e3 l0 l1 l2 l3 dr sf nS fs fl nw ls cnt hl hh nu lo hi st sin sta tt er vl vh sb (if st = true then tb + 1 else 16) gG gE gU sg) (WT κ.z m aK aP aQ aT aW aO aM aL aH aI aS aR aX aF aY aJ aG aE aU nS dr sf nw tA tL tl tg st sb tb vl vh tt er sin sta gK gP gQ gT gW gO gM gL gH gI gS gR gX gF gY gN gG gE gU))
    refine v_icmp_eq X 996 d_L_law_394 (by decide) (fun c394 => ?_) (fun c394 => absurd (seal_eq2 h hj _ _ _) c394)
    refine v_iinc X 0 d_L_law_996 (x := nI (3 + 9 * t)) rfl (v := nI ((3 + 9 * t) + 9)) (nI_add _ _) (by decide) (lv' := [(3, .int (nI ((3 + 9 * t) + 9))), (2, .ref m), (1, .ref o), (0, .ref b)]) rfl ?_
    refine v_goto X 48 d_L_law_999 (by decide) ?_
    exact v_eq rfl (by first | rfl | (rw [show 3 + 9 * t + 9 = 3 + 9 * (t + 1) by omega])) rfl (by rfl) (ih nw ls cnt hl hh nu lo hi st sin sta tt er vl vh sb tb sg tA tL tl tg gK gP gQ gT gW gO gM gL gH gI gS gR gX gF gY gN gG gE gU (Inv_next h))
  · skip
    show V κ 4 56 549 252 [(3, .int (nI (3 + 9 * t))), (2, .ref m), (1, .ref o), (0, .ref b)] [] (wA (WM κ.z o sa la e d e1 e2 e3 l0 l1 l2 l3 dr sf nS fs fl nw ls cnt hl hh nu lo hi st sin sta tt er vl vh sb (if st = true then tb + 1 else 16) gG gE gU sg) (WT κ.z m aK aP aQ aT aW aO aM aL aH aI aS aR aX aF aY aJ aG aE aU nS dr sf nw tA tL tl tg st sb tb vl vh tt er sin sta gK gP gQ gT gW gO gM gL gH gI gS gR gX gF gY gN gG gE gU))
    refine v_aload_n X 2 d_L_law_252 rfl ?_
    refine v_aload_n X 3 d_L_law_253 rfl ?_
    refine v_iload_n X 0 d_L_law_254 rfl ?_
    refine v_iconst X 1 d_L_law_255 (by decide) ?_
    refine v_iaddN X (a := (3 + 9 * t)) (b := 1) d_L_law_256 ?_
    refine v_sld X hS (j := ((3 + 9 * t) + 1)) (by omega) (by omega) d_L_law_257 ?_
    refine v_aload_n X 3 d_L_law_258 rfl ?_
    refine v_iload_n X 0 d_L_law_259 rfl ?_
    refine v_iconst X 2 d_L_law_260 (by decide) ?_
    refine v_iaddN X (a := (3 + 9 * t)) (b := 2) d_L_law_261 ?_
    refine v_sld X hS (j := ((3 + 9 * t) + 2)) (by omega) (by omega) d_L_law_262 ?_
    refine v_i2l X d_L_law_263 ?_
    refine v_bipush X 32 d_L_law_264 (by decide) ?_
    refine v_lshl X d_L_law_266 ?_
    show V κ 4 56 549 267 [(3, .int (nI (3 + 9 * t))), (2, .ref m), (1, .ref o), (0, .ref b)] [.long (((xs ((3 + 9 * t) + 2)).toInt64) <<< ((32 : Int32).toInt64 &&& 63)), .int (xs ((3 + 9 * t) + 1)), .ref o] (wA (WM κ.z o sa la e d e1 e2 e3 l0 l1 l2 l3 dr sf nS fs fl nw ls cnt hl hh nu lo hi st sin sta tt er vl vh sb (if st = true then tb + 1 else 16) gG gE gU sg) (WT κ.z m aK aP aQ aT aW aO aM aL aH aI aS aR aX aF aY aJ aG aE aU nS dr sf nw tA tL tl tg st sb tb vl vh tt er sin sta gK gP gQ gT gW gO gM gL gH gI gS gR gX gF gY gN gG gE gU))
    refine v_aload_n X 3 d_L_law_267 rfl ?_
    refine v_iload_n X 0 d_L_law_268 rfl ?_
    refine v_iconst X 3 d_L_law_269 (by decide) ?_
    refine v_iaddN X (a := (3 + 9 * t)) (b := 3) d_L_law_270 ?_
    refine v_sld X hS (j := ((3 + 9 * t) + 3)) (by omega) (by omega) d_L_law_271 ?_
    refine v_i2l X d_L_law_272 ?_
    refine v_ldc2 X (v := 4294967295) m640 d_L_law_273 ?_
    refine v_land X d_L_law_276 ?_
    refine v_lor X d_L_law_277 ?_
    refine v_aload_n X 3 d_L_law_278 rfl ?_
    refine v_iload_n X 0 d_L_law_279 rfl ?_
    refine v_iconst X 4 d_L_law_280 (by decide) ?_
    refine v_iaddN X (a := (3 + 9 * t)) (b := 4) d_L_law_281 ?_
    refine v_sld X hS (j := ((3 + 9 * t) + 4)) (by omega) (by omega) d_L_law_282 ?_
    refine v_i2l X d_L_law_283 ?_
    show V κ 4 56 549 284 [(3, .int (nI (3 + 9 * t))), (2, .ref m), (1, .ref o), (0, .ref b)] [.long ((xs ((3 + 9 * t) + 4)).toInt64), .long ((((xs ((3 + 9 * t) + 2)).toInt64) <<< ((32 : Int32).toInt64 &&& 63)) ||| (((xs ((3 + 9 * t) + 3)).toInt64) &&& 4294967295)), .int (xs ((3 + 9 * t) + 1)), .ref o] (wA (WM κ.z o sa la e d e1 e2 e3 l0 l1 l2 l3 dr sf nS fs fl nw ls cnt hl hh nu lo hi st sin sta tt er vl vh sb (if st = true then tb + 1 else 16) gG gE gU sg) (WT κ.z m aK aP aQ aT aW aO aM aL aH aI aS aR aX aF aY aJ aG aE aU nS dr sf nw tA tL tl tg st sb tb vl vh tt er sin sta gK gP gQ gT gW gO gM gL gH gI gS gR gX gF gY gN gG gE gU))
    refine v_bipush X 32 d_L_law_284 (by decide) ?_
    refine v_lshl X d_L_law_286 ?_
    refine v_aload_n X 3 d_L_law_287 rfl ?_
    refine v_iload_n X 0 d_L_law_288 rfl ?_
    refine v_iconst X 5 d_L_law_289 (by decide) ?_
    refine v_iaddN X (a := (3 + 9 * t)) (b := 5) d_L_law_290 ?_
    refine v_sld X hS (j := ((3 + 9 * t) + 5)) (by omega) (by omega) d_L_law_291 ?_
    refine v_i2l X d_L_law_292 ?_
    refine v_ldc2 X (v := 4294967295) m640 d_L_law_293 ?_
    refine v_land X d_L_law_296 ?_
    refine v_lor X d_L_law_297 ?_
    refine v_aload_n X 3 d_L_law_298 rfl ?_
    refine v_iload_n X 0 d_L_law_299 rfl ?_
    refine v_bipush X 6 d_L_law_300 (by decide) ?_
    refine v_iaddN X (a := (3 + 9 * t)) (b := 6) d_L_law_302 ?_
    show V κ 4 56 549 303 [(3, .int (nI (3 + 9 * t))), (2, .ref m), (1, .ref o), (0, .ref b)] [.int (nI ((3 + 9 * t) + 6)), .ref b, .long ((((xs ((3 + 9 * t) + 4)).toInt64) <<< ((32 : Int32).toInt64 &&& 63)) ||| (((xs ((3 + 9 * t) + 5)).toInt64) &&& 4294967295)), .long ((((xs ((3 + 9 * t) + 2)).toInt64) <<< ((32 : Int32).toInt64 &&& 63)) ||| (((xs ((3 + 9 * t) + 3)).toInt64) &&& 4294967295)), .int (xs ((3 + 9 * t) + 1)), .ref o] (wA (WM κ.z o sa la e d e1 e2 e3 l0 l1 l2 l3 dr sf nS fs fl nw ls cnt hl hh nu lo hi st sin sta tt er vl vh sb (if st = true then tb + 1 else 16) gG gE gU sg) (WT κ.z m aK aP aQ aT aW aO aM aL aH aI aS aR aX aF aY aJ aG aE aU nS dr sf nw tA tL tl tg st sb tb vl vh tt er sin sta gK gP gQ gT gW gO gM gL gH gI gS gR gX gF gY gN gG gE gU))
    refine v_sld X hS (j := ((3 + 9 * t) + 6)) (by omega) (by omega) d_L_law_303 ?_
    refine v_i2l X d_L_law_304 ?_
    refine v_bipush X 32 d_L_law_305 (by decide) ?_
    refine v_lshl X d_L_law_307 ?_
    refine v_aload_n X 3 d_L_law_308 rfl ?_
    refine v_iload_n X 0 d_L_law_309 rfl ?_
    refine v_bipush X 7 d_L_law_310 (by decide) ?_
    refine v_iaddN X (a := (3 + 9 * t)) (b := 7) d_L_law_312 ?_
    refine v_sld X hS (j := ((3 + 9 * t) + 7)) (by omega) (by omega) d_L_law_313 ?_
    refine v_i2l X d_L_law_314 ?_
    refine v_ldc2 X (v := 4294967295) m640 d_L_law_315 ?_
    refine v_land X d_L_law_318 ?_
    refine v_lor X d_L_law_319 ?_
    refine v_callV X (b := o) (k := 56) (n := 549) (n9 := 4) (As := [.int (xs ((3 + 9 * t) + 1)), .long ((((xs ((3 + 9 * t) + 2)).toInt64) <<< ((32 : Int32).toInt64 &&& 63)) ||| (((xs ((3 + 9 * t) + 3)).toInt64) &&& 4294967295)), .long ((((xs ((3 + 9 * t) + 4)).toInt64) <<< ((32 : Int32).toInt64 &&& 63)) ||| (((xs ((3 + 9 * t) + 5)).toInt64) &&& 4294967295)), .long ((((xs ((3 + 9 * t) + 6)).toInt64) <<< ((32 : Int32).toInt64 &&& 63)) ||| (((xs ((3 + 9 * t) + 7)).toInt64) &&& 4294967295))]) (rest := []) (wc := WM κ.z o sa la e d e1 e2 e3 l0 l1 l2 l3 dr sf nS fs fl nw ls cnt hl hh nu lo hi st sin sta tt er vl vh sb (if st = true then tb + 1 else 16) gG gE gU sg) (wr := WT κ.z m aK aP aQ aT aW aO aM aL aH aI aS aR aX aF aY aJ aG aE aU nS dr sf nw tA tL tl tg st sb tb vl vh tt er sin sta gK gP gQ gT gW gO gM gL gH gI gS gR gX gF gY gN gG gE gU) (u_M_sealB κ.l κ.D κ.z o sa la e d e1 e2 e3 l0 l1 l2 l3 dr sf nS fs fl nw ls cnt hl hh nu lo hi st sin sta tt er vl vh sb (if st = true then tb + 1 else 16) gG gE gU sg (xs ((3 + 9 * t) + 1)) ((((xs ((3 + 9 * t) + 2)).toInt64) <<< ((32 : Int32).toInt64 &&& 63)) ||| (((xs ((3 + 9 * t) + 3)).toInt64) &&& 4294967295)) ((((xs ((3 + 9 * t) + 4)).toInt64) <<< ((32 : Int32).toInt64 &&& 63)) ||| (((xs ((3 + 9 * t) + 5)).toInt64) &&& 4294967295)) ((((xs ((3 + 9 * t) + 6)).toInt64) <<< ((32 : Int32).toInt64 &&& 63)) ||| (((xs ((3 + 9 * t) + 7)).toInt64) &&& 4294967295)) hb) 0 rfl rfl m182 m183 m184 m30 (by decide +kernel) rfl (Nat.le_of_ble_eq_true rfl) ⟨by decide, by decide⟩ ⟨by decide, by decide⟩ rfl rfl m185 d_L_law_320 (fun v w1 hg => ?_)
    obtain ⟨rfl, rfl⟩ := hg
    show V κ 4 56 549 323 [(3, .int (nI (3 + 9 * t))), (2, .ref m), (1, .ref o), (0, .ref b)] [.int (0 : Int32)] (wA (WM κ.z o sa la e d e1 e2 e3 l0 l1 l2 l3 dr sf nS fs fl nw ls cnt hl hh nu lo hi st sin sta tt er vl vh sb (if st = true then tb + 1 else 16) gG gE gU sg) (WT κ.z m aK aP aQ aT aW aO aM aL aH aI aS aR aX aF aY aJ aG aE aU nS dr sf nw tA tL tl tg st sb tb vl vh tt er sin sta gK gP gQ gT gW gO gM gL gH gI gS gR gX gF gY gN gG gE gU))
    refine v_aload_n X 1 d_L_law_323 rfl ?_
    show V κ 4 56 549 324 [(3, .int (nI (3 + 9 * t))), (2, .ref m), (1, .ref o), (0, .ref b)] [.ref m, .int (0 : Int32)] (wA (WM κ.z o sa la e d e1 e2 e3 l0 l1 l2 l3 dr sf nS fs fl nw ls cnt hl hh nu lo hi st sin sta tt er vl vh sb (if st = true then tb + 1 else 16) gG gE gU sg) (WT κ.z m aK aP aQ aT aW aO aM aL aH aI aS aR aX aF aY aJ aG aE aU nS dr sf nw tA tL tl tg st sb tb vl vh tt er sin sta gK gP gQ gT gW gO gM gL gH gI gS gR gX gF gY gN gG gE gU))
    refine v_aload_n X 3 d_L_law_324 rfl ?_
    refine v_iload_n X 0 d_L_law_325 rfl ?_
    refine v_iconst X 1 d_L_law_326 (by decide) ?_
    refine v_iaddN X (a := (3 + 9 * t)) (b := 1) d_L_law_327 ?_
    refine v_sld X hS (j := ((3 + 9 * t) + 1)) (by omega) (by omega) d_L_law_328 ?_
    refine v_aload_n X 3 d_L_law_329 rfl ?_
    refine v_iload_n X 0 d_L_law_330 rfl ?_
    refine v_iconst X 2 d_L_law_331 (by decide) ?_
    refine v_iaddN X (a := (3 + 9 * t)) (b := 2) d_L_law_332 ?_
    refine v_sld X hS (j := ((3 + 9 * t) + 2)) (by omega) (by omega) d_L_law_333 ?_
    refine v_i2l X d_L_law_334 ?_
    refine v_bipush X 32 d_L_law_335 (by decide) ?_
    refine v_lshl X d_L_law_337 ?_
    refine v_aload_n X 3 d_L_law_338 rfl ?_
    refine v_iload_n X 0 d_L_law_339 rfl ?_
    show V κ 4 56 549 340 [(3, .int (nI (3 + 9 * t))), (2, .ref m), (1, .ref o), (0, .ref b)] [.int (nI (3 + 9 * t)), .ref b, .long (((xs ((3 + 9 * t) + 2)).toInt64) <<< ((32 : Int32).toInt64 &&& 63)), .int (xs ((3 + 9 * t) + 1)), .ref m, .int (0 : Int32)] (wA (WM κ.z o sa la e d e1 e2 e3 l0 l1 l2 l3 dr sf nS fs fl nw ls cnt hl hh nu lo hi st sin sta tt er vl vh sb (if st = true then tb + 1 else 16) gG gE gU sg) (WT κ.z m aK aP aQ aT aW aO aM aL aH aI aS aR aX aF aY aJ aG aE aU nS dr sf nw tA tL tl tg st sb tb vl vh tt er sin sta gK gP gQ gT gW gO gM gL gH gI gS gR gX gF gY gN gG gE gU))
    refine v_iconst X 3 d_L_law_340 (by decide) ?_
    refine v_iaddN X (a := (3 + 9 * t)) (b := 3) d_L_law_341 ?_
    refine v_sld X hS (j := ((3 + 9 * t) + 3)) (by omega) (by omega) d_L_law_342 ?_
    refine v_i2l X d_L_law_343 ?_
    refine v_ldc2 X (v := 4294967295) m640 d_L_law_344 ?_
    refine v_land X d_L_law_347 ?_
    refine v_lor X d_L_law_348 ?_
    refine v_aload_n X 3 d_L_law_349 rfl ?_
    refine v_iload_n X 0 d_L_law_350 rfl ?_
    refine v_iconst X 4 d_L_law_351 (by decide) ?_
    refine v_iaddN X (a := (3 + 9 * t)) (b := 4) d_L_law_352 ?_
    refine v_sld X hS (j := ((3 + 9 * t) + 4)) (by omega) (by omega) d_L_law_353 ?_
    refine v_i2l X d_L_law_354 ?_
    refine v_bipush X 32 d_L_law_355 (by decide) ?_
    refine v_lshl X d_L_law_357 ?_
    show V κ 4 56 549 358 [(3, .int (nI (3 + 9 * t))), (2, .ref m), (1, .ref o), (0, .ref b)] [.long (((xs ((3 + 9 * t) + 4)).toInt64) <<< ((32 : Int32).toInt64 &&& 63)), .long ((((xs ((3 + 9 * t) + 2)).toInt64) <<< ((32 : Int32).toInt64 &&& 63)) ||| (((xs ((3 + 9 * t) + 3)).toInt64) &&& 4294967295)), .int (xs ((3 + 9 * t) + 1)), .ref m, .int (0 : Int32)] (wA (WM κ.z o sa la e d e1 e2 e3 l0 l1 l2 l3 dr sf nS fs fl nw ls cnt hl hh nu lo hi st sin sta tt er vl vh sb (if st = true then tb + 1 else 16) gG gE gU sg) (WT κ.z m aK aP aQ aT aW aO aM aL aH aI aS aR aX aF aY aJ aG aE aU nS dr sf nw tA tL tl tg st sb tb vl vh tt er sin sta gK gP gQ gT gW gO gM gL gH gI gS gR gX gF gY gN gG gE gU))
    refine v_aload_n X 3 d_L_law_358 rfl ?_
    refine v_iload_n X 0 d_L_law_359 rfl ?_
    refine v_iconst X 5 d_L_law_360 (by decide) ?_
    refine v_iaddN X (a := (3 + 9 * t)) (b := 5) d_L_law_361 ?_
    refine v_sld X hS (j := ((3 + 9 * t) + 5)) (by omega) (by omega) d_L_law_362 ?_
    refine v_i2l X d_L_law_363 ?_
    refine v_ldc2 X (v := 4294967295) m640 d_L_law_364 ?_
    refine v_land X d_L_law_367 ?_
    refine v_lor X d_L_law_368 ?_
    refine v_aload_n X 3 d_L_law_369 rfl ?_
    refine v_iload_n X 0 d_L_law_370 rfl ?_
    refine v_bipush X 6 d_L_law_371 (by decide) ?_
    refine v_iaddN X (a := (3 + 9 * t)) (b := 6) d_L_law_373 ?_
    refine v_sld X hS (j := ((3 + 9 * t) + 6)) (by omega) (by omega) d_L_law_374 ?_
    refine v_i2l X d_L_law_375 ?_
    show V κ 4 56 549 376 [(3, .int (nI (3 + 9 * t))), (2, .ref m), (1, .ref o), (0, .ref b)] [.long ((xs ((3 + 9 * t) + 6)).toInt64), .long ((((xs ((3 + 9 * t) + 4)).toInt64) <<< ((32 : Int32).toInt64 &&& 63)) ||| (((xs ((3 + 9 * t) + 5)).toInt64) &&& 4294967295)), .long ((((xs ((3 + 9 * t) + 2)).toInt64) <<< ((32 : Int32).toInt64 &&& 63)) ||| (((xs ((3 + 9 * t) + 3)).toInt64) &&& 4294967295)), .int (xs ((3 + 9 * t) + 1)), .ref m, .int (0 : Int32)] (wA (WM κ.z o sa la e d e1 e2 e3 l0 l1 l2 l3 dr sf nS fs fl nw ls cnt hl hh nu lo hi st sin sta tt er vl vh sb (if st = true then tb + 1 else 16) gG gE gU sg) (WT κ.z m aK aP aQ aT aW aO aM aL aH aI aS aR aX aF aY aJ aG aE aU nS dr sf nw tA tL tl tg st sb tb vl vh tt er sin sta gK gP gQ gT gW gO gM gL gH gI gS gR gX gF gY gN gG gE gU))
    refine v_bipush X 32 d_L_law_376 (by decide) ?_
    refine v_lshl X d_L_law_378 ?_
    refine v_aload_n X 3 d_L_law_379 rfl ?_
    refine v_iload_n X 0 d_L_law_380 rfl ?_
    refine v_bipush X 7 d_L_law_381 (by decide) ?_
    refine v_iaddN X (a := (3 + 9 * t)) (b := 7) d_L_law_383 ?_
    refine v_sld X hS (j := ((3 + 9 * t) + 7)) (by omega) (by omega) d_L_law_384 ?_
    refine v_i2l X d_L_law_385 ?_
    refine v_ldc2 X (v := 4294967295) m640 d_L_law_386 ?_
    refine v_land X d_L_law_389 ?_
    refine v_lor X d_L_law_390 ?_
    refine v_perm List.perm_append_comm ?_
    refine v_callV X (b := m) (k := 56) (n := 549) (n9 := 4) (As := [.int (xs ((3 + 9 * t) + 1)), .long ((((xs ((3 + 9 * t) + 2)).toInt64) <<< ((32 : Int32).toInt64 &&& 63)) ||| (((xs ((3 + 9 * t) + 3)).toInt64) &&& 4294967295)), .long ((((xs ((3 + 9 * t) + 4)).toInt64) <<< ((32 : Int32).toInt64 &&& 63)) ||| (((xs ((3 + 9 * t) + 5)).toInt64) &&& 4294967295)), .long ((((xs ((3 + 9 * t) + 6)).toInt64) <<< ((32 : Int32).toInt64 &&& 63)) ||| (((xs ((3 + 9 * t) + 7)).toInt64) &&& 4294967295))]) (rest := [.int (0 : Int32)]) (wc := WT κ.z m aK aP aQ aT aW aO aM aL aH aI aS aR aX aF aY aJ aG aE aU nS dr sf nw tA tL tl tg st sb tb vl vh tt er sin sta gK gP gQ gT gW gO gM gL gH gI gS gR gX gF gY gN gG gE gU) (wr := WM κ.z o sa la e d e1 e2 e3 l0 l1 l2 l3 dr sf nS fs fl nw ls cnt hl hh nu lo hi st sin sta tt er vl vh sb (if st = true then tb + 1 else 16) gG gE gU sg) (u_T_sealB κ.l κ.D κ.z m aK aP aQ aT aW aO aM aL aH aI aS aR aX aF aY aJ aG aE aU nS dr sf nw tA tL tl tg st sb tb vl vh tt er sin sta gK gP gQ gT gW gO gM gL gH gI gS gR gX gF gY gN gG gE gU (xs ((3 + 9 * t) + 1)) ((((xs ((3 + 9 * t) + 2)).toInt64) <<< ((32 : Int32).toInt64 &&& 63)) ||| (((xs ((3 + 9 * t) + 3)).toInt64) &&& 4294967295)) ((((xs ((3 + 9 * t) + 4)).toInt64) <<< ((32 : Int32).toInt64 &&& 63)) ||| (((xs ((3 + 9 * t) + 5)).toInt64) &&& 4294967295)) ((((xs ((3 + 9 * t) + 6)).toInt64) <<< ((32 : Int32).toInt64 &&& 63)) ||| (((xs ((3 + 9 * t) + 7)).toInt64) &&& 4294967295)) hb) 0 rfl rfl m516 m517 m518 m36 (by decide +kernel) rfl (Nat.le_of_ble_eq_true rfl) ⟨by decide, by decide⟩ ⟨by decide, by decide⟩ rfl rfl m519 d_L_law_391 (fun v w1 hg => ?_)
    obtain ⟨rfl, rfl⟩ := hg
    refine v_perm List.perm_append_comm ?_
    show V κ 4 56 549 394 [(3, .int (nI (3 + 9 * t))), (2, .ref m), (1, .ref o), (0, .ref b)] [.int (0 : Int32), .int (0 : Int32)] (wA (WM κ.z o sa la e d e1 e2 e3 l0 l1 l2 l3 dr sf nS fs fl nw ls cnt hl hh nu lo hi st sin sta tt er vl vh sb (if st = true then tb + 1 else 16) gG gE gU sg) (WT κ.z m aK aP aQ aT aW aO aM aL aH aI aS aR aX aF aY aJ aG aE aU nS dr sf nw tA tL tl tg st sb tb vl vh tt er sin sta gK gP gQ gT gW gO gM gL gH gI gS gR gX gF gY gN gG gE gU))
    refine v_icmp_eq X 996 d_L_law_394 (by decide) (fun c394 => ?_) (fun c394 => absurd rfl c394)
    refine v_iinc X 0 d_L_law_996 (x := nI (3 + 9 * t)) rfl (v := nI ((3 + 9 * t) + 9)) (nI_add _ _) (by decide) (lv' := [(3, .int (nI ((3 + 9 * t) + 9))), (2, .ref m), (1, .ref o), (0, .ref b)]) rfl ?_
    refine v_goto X 48 d_L_law_999 (by decide) ?_
    exact v_eq rfl (by first | rfl | (rw [show 3 + 9 * t + 9 = 3 + 9 * (t + 1) by omega])) rfl (by rfl) (ih nw ls cnt hl hh nu lo hi st sin sta tt er vl vh sb tb sg tA tL tl tg gK gP gQ gT gW gO gM gL gH gI gS gR gX gF gY gN gG gE gU (Inv_next h))

set_option maxHeartbeats 4000000 in
set_option maxRecDepth 100000 in
theorem lc_4 {κ : VC} (X : Cx κ code R_L room_1 4) (b : Nat) (o : Nat) (sa : Nat) (la : Nat) (e : Nat) (d : Nat) (e1 : Nat) (e2 : Nat) (e3 : Nat) (l0 : Nat) (l1 : Nat) (l2 : Nat) (l3 : Nat) (dr : Int32) (sf : Int32) (nS : Nat) (fs : Nat → Option Nat) (fl : Nat → Option Nat) (m : Nat) (aK : Nat) (aP : Nat) (aQ : Nat) (aT : Nat) (aW : Nat) (aO : Nat) (aM : Nat) (aL : Nat) (aH : Nat) (aI : Nat) (aS : Nat) (aR : Nat) (aX : Nat) (aF : Nat) (aY : Nat) (aJ : Nat) (aG : Nat) (aE : Nat) (aU : Nat) (L : Nat) (xs : Nat → Int32) (hS : Scr κ b L xs) (hL : L ≤ 4611) (hfl : fl 0 = some l0 ∧ fl 1 = some l1 ∧ fl 2 = some l2 ∧ fl 3 = some l3) (t : Nat) (ht : 12 + 9 * t ≤ L) (nw : Int64) (ls : Int64) (cnt : Nat) (hl : Int64) (hh : Int64) (nu : Nat → Nat) (lo : Nat → Int64) (hi : Nat → Int64) (st : Bool) (sin : Int64) (sta : Int64) (tt : Int64) (er : Int64) (vl : Int64) (vh : Int64) (sb : Int32) (tb : Int32) (sg : Nat → SvS) (tA : Bool) (tL : Int64) (tl : Int64) (tg : Int64) (gK : Nat → Int64) (gP : Nat → Bool) (gQ : Nat → Int64) (gT : Nat → Int64) (gW : Nat → Bool) (gO : Nat → Int64) (gM : Nat → Nat) (gL : Nat → Int64) (gH : Nat → Int64) (gI : Nat → Int64) (gS : Nat → Int32) (gR : Nat → Int32) (gX : Nat → Int32) (gF : Nat → Int64) (gY : Nat → Int64) (gN : Nat → Bool) (gG : Nat → Bool) (gE : Nat → Int32) (gU : Nat → Int64) (h : Inv t nS dr fs nw ls nu sin sta tt sg tA tL gK gQ gT gO gL gH gI gP gW gM gS gR gX) (ih : ∀ (nw : Int64) (ls : Int64) (cnt : Nat) (hl : Int64) (hh : Int64) (nu : Nat → Nat) (lo : Nat → Int64) (hi : Nat → Int64) (st : Bool) (sin : Int64) (sta : Int64) (tt : Int64) (er : Int64) (vl : Int64) (vh : Int64) (sb : Int32) (tb : Int32) (sg : Nat → SvS) (tA : Bool) (tL : Int64) (tl : Int64) (tg : Int64) (gK : Nat → Int64) (gP : Nat → Bool) (gQ : Nat → Int64) (gT : Nat → Int64) (gW : Nat → Bool) (gO : Nat → Int64) (gM : Nat → Nat) (gL : Nat → Int64) (gH : Nat → Int64) (gI : Nat → Int64) (gS : Nat → Int32) (gR : Nat → Int32) (gX : Nat → Int32) (gF : Nat → Int64) (gY : Nat → Int64) (gN : Nat → Bool) (gG : Nat → Bool) (gE : Nat → Int32) (gU : Nat → Int64), Inv (t + 1) nS dr fs nw ls nu sin sta tt sg tA tL gK gQ gT gO gL gH gI gP gW gM gS gR gX → V κ 4 56 549 48 [(3, .int (nI (3 + 9 * (t + 1)))), (2, .ref m), (1, .ref o), (0, .ref b)] [] (wA (WM κ.z o sa la e d e1 e2 e3 l0 l1 l2 l3 dr sf nS fs fl nw ls cnt hl hh nu lo hi st sin sta tt er vl vh sb (if st = true then tb + 1 else 16) gG gE gU sg) (WT κ.z m aK aP aQ aT aW aO aM aL aH aI aS aR aX aF aY aJ aG aE aU nS dr sf nw tA tL tl tg st sb tb vl vh tt er sin sta gK gP gQ gT gW gO gM gL gH gI gS gR gX gF gY gN gG gE gU))) : V κ 4 56 549 399 [(3, .int (nI (3 + 9 * t))), (2, .ref m), (1, .ref o), (0, .ref b)] [] (wA (WM κ.z o sa la e d e1 e2 e3 l0 l1 l2 l3 dr sf nS fs fl nw ls cnt hl hh nu lo hi st sin sta tt er vl vh sb (if st = true then tb + 1 else 16) gG gE gU sg) (WT κ.z m aK aP aQ aT aW aO aM aL aH aI aS aR aX aF aY aJ aG aE aU nS dr sf nw tA tL tl tg st sb tb vl vh tt er sin sta gK gP gQ gT gW gO gM gL gH gI gS gR gX gF gY gN gG gE gU)) := by
  have hn6 := h.1.2
  have hn1 := h.1.1
  rcases srv_cases (xs (3 + 9 * t + 1)) hn6 with ⟨i, hj, hx⟩ | hb
  · skip
    show V κ 4 56 549 399 [(3, .int (nI (3 + 9 * t))), (2, .ref m), (1, .ref o), (0, .ref b)] [] (wA (WM κ.z o sa la e d e1 e2 e3 l0 l1 l2 l3 dr sf nS fs fl nw ls cnt hl hh nu lo hi st sin sta tt er vl vh sb (if st = true then tb + 1 else 16) gG gE gU sg) (WT κ.z m aK aP aQ aT aW aO aM aL aH aI aS aR aX aF aY aJ aG aE aU nS dr sf nw tA tL tl tg st sb tb vl vh tt er sin sta gK gP gQ gT gW gO gM gL gH gI gS gR gX gF gY gN gG gE gU))
    refine v_aload_n X 2 d_L_law_399 rfl ?_
    refine v_aload_n X 3 d_L_law_400 rfl ?_
    refine v_iload_n X 0 d_L_law_401 rfl ?_
    refine v_iconst X 1 d_L_law_402 (by decide) ?_
    refine v_iaddN X (a := (3 + 9 * t)) (b := 1) d_L_law_403 ?_
    refine v_sldE X hS (j := ((3 + 9 * t) + 1)) (x := nI i) (by omega) (by omega) hx d_L_law_404 ?_
    refine v_callV X (b := o) (k := 56) (n := 549) (n9 := 1) (As := [.int (nI i)]) (rest := []) (wc := WM κ.z o sa la e d e1 e2 e3 l0 l1 l2 l3 dr sf nS fs fl nw ls cnt hl hh nu lo hi st sin sta tt er vl vh sb (if st = true then tb + 1 else 16) gG gE gU sg) (wr := WT κ.z m aK aP aQ aT aW aO aM aL aH aI aS aR aX aF aY aJ aG aE aU nS dr sf nw tA tL tl tg st sb tb vl vh tt er sin sta gK gP gQ gT gW gO gM gL gH gI gS gR gX gF gY gN gG gE gU) (u_M_askG κ.l κ.D κ.z o sa la e d e1 e2 e3 l0 l1 l2 l3 dr sf nS fs fl nw ls cnt hl hh nu lo hi st sin sta tt er vl vh sb (if st = true then tb + 1 else 16) gG gE gU sg i hj hn6 (h.2.2.1 i hj) (h.2.2.2.2.2.2.2.1 i hj).1) 0 rfl rfl m193 m194 m195 m30 (by decide +kernel) rfl (Nat.le_of_ble_eq_true rfl) ⟨by decide, by decide⟩ ⟨by decide, by decide⟩ rfl rfl m196 d_L_law_405 (fun v w1 hg => ?_)
    obtain ⟨rfl, rfl⟩ := hg
    show V κ 4 56 549 408 [(3, .int (nI (3 + 9 * t))), (2, .ref m), (1, .ref o), (0, .ref b)] [.long (f_J_max_JJ nw (ls + 1))] (wA (WM κ.z o sa la e d e1 e2 e3 l0 l1 l2 l3 dr sf nS fs fl nw (f_J_max_JJ nw (ls + 1)) cnt hl hh nu lo hi st sin sta tt er vl vh sb (if st = true then tb + 1 else 16) gG gE gU (va_up sg i (svm (s_a (sg i)) (s_b1 (sg i)) (s_b2 (sg i)) (s_b3 (sg i)) (s_sec (sg i)) true (f_J_max_JJ nw (ls + 1)) nw (s_acc (sg i)) (s_str (sg i)) (s_ref (sg i)) (s_rt (sg i)) (s_sm (sg i)) (s_lo (sg i)) (s_hi (sg i)) (s_ti (sg i))))) (WT κ.z m aK aP aQ aT aW aO aM aL aH aI aS aR aX aF aY aJ aG aE aU nS dr sf nw tA tL tl tg st sb tb vl vh tt er sin sta gK gP gQ gT gW gO gM gL gH gI gS gR gX gF gY gN gG gE gU))
    refine v_aload_n X 1 d_L_law_408 rfl ?_
    refine v_aload_n X 3 d_L_law_409 rfl ?_
    refine v_iload_n X 0 d_L_law_410 rfl ?_
    refine v_iconst X 1 d_L_law_411 (by decide) ?_
    refine v_iaddN X (a := (3 + 9 * t)) (b := 1) d_L_law_412 ?_
    refine v_sldE X hS (j := ((3 + 9 * t) + 1)) (x := nI i) (by omega) (by omega) hx d_L_law_413 ?_
    refine v_perm List.perm_append_comm ?_
    refine v_callV X (b := m) (k := 56) (n := 549) (n9 := 1) (As := [.int (nI i)]) (rest := [.long (f_J_max_JJ nw (ls + 1))]) (wc := WT κ.z m aK aP aQ aT aW aO aM aL aH aI aS aR aX aF aY aJ aG aE aU nS dr sf nw tA tL tl tg st sb tb vl vh tt er sin sta gK gP gQ gT gW gO gM gL gH gI gS gR gX gF gY gN gG gE gU) (wr := WM κ.z o sa la e d e1 e2 e3 l0 l1 l2 l3 dr sf nS fs fl nw (f_J_max_JJ nw (ls + 1)) cnt hl hh nu lo hi st sin sta tt er vl vh sb (if st = true then tb + 1 else 16) gG gE gU (va_up sg i (svm (s_a (sg i)) (s_b1 (sg i)) (s_b2 (sg i)) (s_b3 (sg i)) (s_sec (sg i)) true (f_J_max_JJ nw (ls + 1)) nw (s_acc (sg i)) (s_str (sg i)) (s_ref (sg i)) (s_rt (sg i)) (s_sm (sg i)) (s_lo (sg i)) (s_hi (sg i)) (s_ti (sg i))))) (u_T_askG κ.l κ.D κ.z m aK aP aQ aT aW aO aM aL aH aI aS aR aX aF aY aJ aG aE aU nS dr sf nw tA tL tl tg st sb tb vl vh tt er sin sta gK gP gQ gT gW gO gM gL gH gI gS gR gX gF gY gN gG gE gU i hn6 hj) 0 rfl rfl m524 m525 m526 m36 (by decide +kernel) rfl (Nat.le_of_ble_eq_true rfl) ⟨by decide, by decide⟩ ⟨by decide, by decide⟩ rfl rfl m527 d_L_law_414 (fun v w1 hg => ?_)
    obtain ⟨rfl, rfl⟩ := hg
    refine v_perm List.perm_append_comm ?_
    show V κ 4 56 549 417 [(3, .int (nI (3 + 9 * t))), (2, .ref m), (1, .ref o), (0, .ref b)] [.long (f_T_askG nw tA tL), .long (f_J_max_JJ nw (ls + 1))] (wA (WM κ.z o sa la e d e1 e2 e3 l0 l1 l2 l3 dr sf nS fs fl nw (f_J_max_JJ nw (ls + 1)) cnt hl hh nu lo hi st sin sta tt er vl vh sb (if st = true then tb + 1 else 16) gG gE gU (va_up sg i (svm (s_a (sg i)) (s_b1 (sg i)) (s_b2 (sg i)) (s_b3 (sg i)) (s_sec (sg i)) true (f_J_max_JJ nw (ls + 1)) nw (s_acc (sg i)) (s_str (sg i)) (s_ref (sg i)) (s_rt (sg i)) (s_sm (sg i)) (s_lo (sg i)) (s_hi (sg i)) (s_ti (sg i))))) (WT κ.z m aK aP aQ aT aW aO aM aL aH aI aS aR aX aF aY aJ aG aE aU nS dr sf nw true (f_T_askG_lastStamp nw tA tL) tl tg st sb tb vl vh tt er sin sta gK (va_up gP i true) (vp_updL gQ i nw) (f_T_askG_r3 nw tA tL gT i) gW gO gM gL gH gI gS gR gX gF gY gN gG gE gU))
    show V κ 4 56 549 417 [(3, .int (nI (3 + 9 * t))), (2, .ref m), (1, .ref o), (0, .ref b)] [.long (f_T_askG nw tA tL), .long (f_J_max_JJ nw (ls + 1))] (wA (WM κ.z o sa la e d e1 e2 e3 l0 l1 l2 l3 dr sf nS fs fl nw (f_J_max_JJ nw (ls + 1)) cnt hl hh nu lo hi st sin sta tt er vl vh sb (if st = true then tb + 1 else 16) gG gE gU (va_up sg i (svm (s_a (sg i)) (s_b1 (sg i)) (s_b2 (sg i)) (s_b3 (sg i)) (s_sec (sg i)) true (f_J_max_JJ nw (ls + 1)) nw (s_acc (sg i)) (s_str (sg i)) (s_ref (sg i)) (s_rt (sg i)) (s_sm (sg i)) (s_lo (sg i)) (s_hi (sg i)) (s_ti (sg i))))) (WT κ.z m aK aP aQ aT aW aO aM aL aH aI aS aR aX aF aY aJ aG aE aU nS dr sf nw true (f_T_askG_lastStamp nw tA tL) tl tg st sb tb vl vh tt er sin sta gK (va_up gP i true) (vp_updL gQ i nw) (f_T_askG_r3 nw tA tL gT i) gW gO gM gL gH gI gS gR gX gF gY gN gG gE gU))
    refine v_lcmp_eq X 996 d_L_law_417 d_L_law_418 (by decide) (fun c417 => ?_) (fun c417 => absurd (ask_eq h (by omega)).1 c417)
    refine v_iinc X 0 d_L_law_996 (x := nI (3 + 9 * t)) rfl (v := nI ((3 + 9 * t) + 9)) (nI_add _ _) (by decide) (lv' := [(3, .int (nI ((3 + 9 * t) + 9))), (2, .ref m), (1, .ref o), (0, .ref b)]) rfl ?_
    refine v_goto X 48 d_L_law_999 (by decide) ?_
    exact v_eq rfl (by first | rfl | (rw [show 3 + 9 * t + 9 = 3 + 9 * (t + 1) by omega])) rfl (by rfl) (ih nw (f_J_max_JJ nw (ls + 1)) cnt hl hh nu lo hi st sin sta tt er vl vh sb tb (va_up sg i (svm (s_a (sg i)) (s_b1 (sg i)) (s_b2 (sg i)) (s_b3 (sg i)) (s_sec (sg i)) true (f_J_max_JJ nw (ls + 1)) nw (s_acc (sg i)) (s_str (sg i)) (s_ref (sg i)) (s_rt (sg i)) (s_sm (sg i)) (s_lo (sg i)) (s_hi (sg i)) (s_ti (sg i)))) true (f_T_askG_lastStamp nw tA tL) tl tg gK (va_up gP i true) (vp_updL gQ i nw) (f_T_askG_r3 nw tA tL gT i) gW gO gM gL gH gI gS gR gX gF gY gN gG gE gU (inv_ask h (by omega) hj))
  · skip
    show V κ 4 56 549 399 [(3, .int (nI (3 + 9 * t))), (2, .ref m), (1, .ref o), (0, .ref b)] [] (wA (WM κ.z o sa la e d e1 e2 e3 l0 l1 l2 l3 dr sf nS fs fl nw ls cnt hl hh nu lo hi st sin sta tt er vl vh sb (if st = true then tb + 1 else 16) gG gE gU sg) (WT κ.z m aK aP aQ aT aW aO aM aL aH aI aS aR aX aF aY aJ aG aE aU nS dr sf nw tA tL tl tg st sb tb vl vh tt er sin sta gK gP gQ gT gW gO gM gL gH gI gS gR gX gF gY gN gG gE gU))
    refine v_aload_n X 2 d_L_law_399 rfl ?_
    refine v_aload_n X 3 d_L_law_400 rfl ?_
    refine v_iload_n X 0 d_L_law_401 rfl ?_
    refine v_iconst X 1 d_L_law_402 (by decide) ?_
    refine v_iaddN X (a := (3 + 9 * t)) (b := 1) d_L_law_403 ?_
    refine v_sld X hS (j := ((3 + 9 * t) + 1)) (by omega) (by omega) d_L_law_404 ?_
    refine v_callV X (b := o) (k := 56) (n := 549) (n9 := 1) (As := [.int (xs ((3 + 9 * t) + 1))]) (rest := []) (wc := WM κ.z o sa la e d e1 e2 e3 l0 l1 l2 l3 dr sf nS fs fl nw ls cnt hl hh nu lo hi st sin sta tt er vl vh sb (if st = true then tb + 1 else 16) gG gE gU sg) (wr := WT κ.z m aK aP aQ aT aW aO aM aL aH aI aS aR aX aF aY aJ aG aE aU nS dr sf nw tA tL tl tg st sb tb vl vh tt er sin sta gK gP gQ gT gW gO gM gL gH gI gS gR gX gF gY gN gG gE gU) (u_M_askB κ.l κ.D κ.z o sa la e d e1 e2 e3 l0 l1 l2 l3 dr sf nS fs fl nw ls cnt hl hh nu lo hi st sin sta tt er vl vh sb (if st = true then tb + 1 else 16) gG gE gU sg (xs ((3 + 9 * t) + 1)) hb) 0 rfl rfl m193 m194 m195 m30 (by decide +kernel) rfl (Nat.le_of_ble_eq_true rfl) ⟨by decide, by decide⟩ ⟨by decide, by decide⟩ rfl rfl m196 d_L_law_405 (fun v w1 hg => ?_)
    obtain ⟨rfl, rfl⟩ := hg
    show V κ 4 56 549 408 [(3, .int (nI (3 + 9 * t))), (2, .ref m), (1, .ref o), (0, .ref b)] [.long (-4611686018427387904)] (wA (WM κ.z o sa la e d e1 e2 e3 l0 l1 l2 l3 dr sf nS fs fl nw ls cnt hl hh nu lo hi st sin sta tt er vl vh sb (if st = true then tb + 1 else 16) gG gE gU sg) (WT κ.z m aK aP aQ aT aW aO aM aL aH aI aS aR aX aF aY aJ aG aE aU nS dr sf nw tA tL tl tg st sb tb vl vh tt er sin sta gK gP gQ gT gW gO gM gL gH gI gS gR gX gF gY gN gG gE gU))
    refine v_aload_n X 1 d_L_law_408 rfl ?_
    refine v_aload_n X 3 d_L_law_409 rfl ?_
    refine v_iload_n X 0 d_L_law_410 rfl ?_
    refine v_iconst X 1 d_L_law_411 (by decide) ?_
    refine v_iaddN X (a := (3 + 9 * t)) (b := 1) d_L_law_412 ?_
    refine v_sld X hS (j := ((3 + 9 * t) + 1)) (by omega) (by omega) d_L_law_413 ?_
    refine v_perm List.perm_append_comm ?_
    refine v_callV X (b := m) (k := 56) (n := 549) (n9 := 1) (As := [.int (xs ((3 + 9 * t) + 1))]) (rest := [.long (-4611686018427387904)]) (wc := WT κ.z m aK aP aQ aT aW aO aM aL aH aI aS aR aX aF aY aJ aG aE aU nS dr sf nw tA tL tl tg st sb tb vl vh tt er sin sta gK gP gQ gT gW gO gM gL gH gI gS gR gX gF gY gN gG gE gU) (wr := WM κ.z o sa la e d e1 e2 e3 l0 l1 l2 l3 dr sf nS fs fl nw ls cnt hl hh nu lo hi st sin sta tt er vl vh sb (if st = true then tb + 1 else 16) gG gE gU sg) (u_T_askB κ.l κ.D κ.z m aK aP aQ aT aW aO aM aL aH aI aS aR aX aF aY aJ aG aE aU nS dr sf nw tA tL tl tg st sb tb vl vh tt er sin sta gK gP gQ gT gW gO gM gL gH gI gS gR gX gF gY gN gG gE gU (xs ((3 + 9 * t) + 1)) hb) 0 rfl rfl m524 m525 m526 m36 (by decide +kernel) rfl (Nat.le_of_ble_eq_true rfl) ⟨by decide, by decide⟩ ⟨by decide, by decide⟩ rfl rfl m527 d_L_law_414 (fun v w1 hg => ?_)
    obtain ⟨rfl, rfl⟩ := hg
    refine v_perm List.perm_append_comm ?_
    show V κ 4 56 549 417 [(3, .int (nI (3 + 9 * t))), (2, .ref m), (1, .ref o), (0, .ref b)] [.long (-4611686018427387904), .long (-4611686018427387904)] (wA (WM κ.z o sa la e d e1 e2 e3 l0 l1 l2 l3 dr sf nS fs fl nw ls cnt hl hh nu lo hi st sin sta tt er vl vh sb (if st = true then tb + 1 else 16) gG gE gU sg) (WT κ.z m aK aP aQ aT aW aO aM aL aH aI aS aR aX aF aY aJ aG aE aU nS dr sf nw tA tL tl tg st sb tb vl vh tt er sin sta gK gP gQ gT gW gO gM gL gH gI gS gR gX gF gY gN gG gE gU))
    show V κ 4 56 549 417 [(3, .int (nI (3 + 9 * t))), (2, .ref m), (1, .ref o), (0, .ref b)] [.long (-4611686018427387904), .long (-4611686018427387904)] (wA (WM κ.z o sa la e d e1 e2 e3 l0 l1 l2 l3 dr sf nS fs fl nw ls cnt hl hh nu lo hi st sin sta tt er vl vh sb (if st = true then tb + 1 else 16) gG gE gU sg) (WT κ.z m aK aP aQ aT aW aO aM aL aH aI aS aR aX aF aY aJ aG aE aU nS dr sf nw tA tL tl tg st sb tb vl vh tt er sin sta gK gP gQ gT gW gO gM gL gH gI gS gR gX gF gY gN gG gE gU))
    refine v_lcmp_eq X 996 d_L_law_417 d_L_law_418 (by decide) (fun c417 => ?_) (fun c417 => absurd rfl c417)
    refine v_iinc X 0 d_L_law_996 (x := nI (3 + 9 * t)) rfl (v := nI ((3 + 9 * t) + 9)) (nI_add _ _) (by decide) (lv' := [(3, .int (nI ((3 + 9 * t) + 9))), (2, .ref m), (1, .ref o), (0, .ref b)]) rfl ?_
    refine v_goto X 48 d_L_law_999 (by decide) ?_
    exact v_eq rfl (by first | rfl | (rw [show 3 + 9 * t + 9 = 3 + 9 * (t + 1) by omega])) rfl (by rfl) (ih nw ls cnt hl hh nu lo hi st sin sta tt er vl vh sb tb sg tA tL tl tg gK gP gQ gT gW gO gM gL gH gI gS gR gX gF gY gN gG gE gU (Inv_next h))

set_option maxHeartbeats 4000000 in
set_option maxRecDepth 100000 in
theorem lc_6 {κ : VC} (X : Cx κ code R_L room_1 4) (b : Nat) (o : Nat) (sa : Nat) (la : Nat) (e : Nat) (d : Nat) (e1 : Nat) (e2 : Nat) (e3 : Nat) (l0 : Nat) (l1 : Nat) (l2 : Nat) (l3 : Nat) (dr : Int32) (sf : Int32) (nS : Nat) (fs : Nat → Option Nat) (fl : Nat → Option Nat) (m : Nat) (aK : Nat) (aP : Nat) (aQ : Nat) (aT : Nat) (aW : Nat) (aO : Nat) (aM : Nat) (aL : Nat) (aH : Nat) (aI : Nat) (aS : Nat) (aR : Nat) (aX : Nat) (aF : Nat) (aY : Nat) (aJ : Nat) (aG : Nat) (aE : Nat) (aU : Nat) (L : Nat) (xs : Nat → Int32) (hS : Scr κ b L xs) (hL : L ≤ 4611) (hfl : fl 0 = some l0 ∧ fl 1 = some l1 ∧ fl 2 = some l2 ∧ fl 3 = some l3) (t : Nat) (ht : 12 + 9 * t ≤ L) (nw : Int64) (ls : Int64) (cnt : Nat) (hl : Int64) (hh : Int64) (nu : Nat → Nat) (lo : Nat → Int64) (hi : Nat → Int64) (st : Bool) (sin : Int64) (sta : Int64) (tt : Int64) (er : Int64) (vl : Int64) (vh : Int64) (sb : Int32) (tb : Int32) (sg : Nat → SvS) (tA : Bool) (tL : Int64) (tl : Int64) (tg : Int64) (gK : Nat → Int64) (gP : Nat → Bool) (gQ : Nat → Int64) (gT : Nat → Int64) (gW : Nat → Bool) (gO : Nat → Int64) (gM : Nat → Nat) (gL : Nat → Int64) (gH : Nat → Int64) (gI : Nat → Int64) (gS : Nat → Int32) (gR : Nat → Int32) (gX : Nat → Int32) (gF : Nat → Int64) (gY : Nat → Int64) (gN : Nat → Bool) (gG : Nat → Bool) (gE : Nat → Int32) (gU : Nat → Int64) (h : Inv t nS dr fs nw ls nu sin sta tt sg tA tL gK gQ gT gO gL gH gI gP gW gM gS gR gX) (ih : ∀ (nw : Int64) (ls : Int64) (cnt : Nat) (hl : Int64) (hh : Int64) (nu : Nat → Nat) (lo : Nat → Int64) (hi : Nat → Int64) (st : Bool) (sin : Int64) (sta : Int64) (tt : Int64) (er : Int64) (vl : Int64) (vh : Int64) (sb : Int32) (tb : Int32) (sg : Nat → SvS) (tA : Bool) (tL : Int64) (tl : Int64) (tg : Int64) (gK : Nat → Int64) (gP : Nat → Bool) (gQ : Nat → Int64) (gT : Nat → Int64) (gW : Nat → Bool) (gO : Nat → Int64) (gM : Nat → Nat) (gL : Nat → Int64) (gH : Nat → Int64) (gI : Nat → Int64) (gS : Nat → Int32) (gR : Nat → Int32) (gX : Nat → Int32) (gF : Nat → Int64) (gY : Nat → Int64) (gN : Nat → Bool) (gG : Nat → Bool) (gE : Nat → Int32) (gU : Nat → Int64), Inv (t + 1) nS dr fs nw ls nu sin sta tt sg tA tL gK gQ gT gO gL gH gI gP gW gM gS gR gX → V κ 4 56 549 48 [(3, .int (nI (3 + 9 * (t + 1)))), (2, .ref m), (1, .ref o), (0, .ref b)] [] (wA (WM κ.z o sa la e d e1 e2 e3 l0 l1 l2 l3 dr sf nS fs fl nw ls cnt hl hh nu lo hi st sin sta tt er vl vh sb (if st = true then tb + 1 else 16) gG gE gU sg) (WT κ.z m aK aP aQ aT aW aO aM aL aH aI aS aR aX aF aY aJ aG aE aU nS dr sf nw tA tL tl tg st sb tb vl vh tt er sin sta gK gP gQ gT gW gO gM gL gH gI gS gR gX gF gY gN gG gE gU))) : V κ 4 56 549 582 [(3, .int (nI (3 + 9 * t))), (2, .ref m), (1, .ref o), (0, .ref b)] [] (wA (WM κ.z o sa la e d e1 e2 e3 l0 l1 l2 l3 dr sf nS fs fl nw ls cnt hl hh nu lo hi st sin sta tt er vl vh sb (if st = true then tb + 1 else 16) gG gE gU sg) (WT κ.z m aK aP aQ aT aW aO aM aL aH aI aS aR aX aF aY aJ aG aE aU nS dr sf nw tA tL tl tg st sb tb vl vh tt er sin sta gK gP gQ gT gW gO gM gL gH gI gS gR gX gF gY gN gG gE gU)) := by
  have hn6 := h.1.2
  have hn1 := h.1.1
  rcases srv_cases (xs (3 + 9 * t + 1)) hn6 with ⟨i, hj, hx⟩ | hb
  · skip
    show V κ 4 56 549 582 [(3, .int (nI (3 + 9 * t))), (2, .ref m), (1, .ref o), (0, .ref b)] [] (wA (WM κ.z o sa la e d e1 e2 e3 l0 l1 l2 l3 dr sf nS fs fl nw ls cnt hl hh nu lo hi st sin sta tt er vl vh sb (if st = true then tb + 1 else 16) gG gE gU sg) (WT κ.z m aK aP aQ aT aW aO aM aL aH aI aS aR aX aF aY aJ aG aE aU nS dr sf nw tA tL tl tg st sb tb vl vh tt er sin sta gK gP gQ gT gW gO gM gL gH gI gS gR gX gF gY gN gG gE gU))
    refine v_aload_n X 2 d_L_law_582 rfl ?_
    refine v_aload_n X 3 d_L_law_583 rfl ?_
    refine v_iload_n X 0 d_L_law_584 rfl ?_
    refine v_iconst X 1 d_L_law_585 (by decide) ?_
    refine v_iaddN X (a := (3 + 9 * t)) (b := 1) d_L_law_586 ?_
    refine v_sldE X hS (j := ((3 + 9 * t) + 1)) (x := nI i) (by omega) (by omega) hx d_L_law_587 ?_
    refine v_aload_n X 3 d_L_law_588 rfl ?_
    refine v_iload_n X 0 d_L_law_589 rfl ?_
    refine v_iconst X 2 d_L_law_590 (by decide) ?_
    refine v_iaddN X (a := (3 + 9 * t)) (b := 2) d_L_law_591 ?_
    refine v_sld X hS (j := ((3 + 9 * t) + 2)) (by omega) (by omega) d_L_law_592 ?_
    refine v_aload_n X 3 d_L_law_593 rfl ?_
    refine v_iload_n X 0 d_L_law_594 rfl ?_
    refine v_iconst X 3 d_L_law_595 (by decide) ?_
    show V κ 4 56 549 596 [(3, .int (nI (3 + 9 * t))), (2, .ref m), (1, .ref o), (0, .ref b)] [.int 3, .int (nI (3 + 9 * t)), .ref b, .int (xs ((3 + 9 * t) + 2)), .int (nI i), .ref o] (wA (WM κ.z o sa la e d e1 e2 e3 l0 l1 l2 l3 dr sf nS fs fl nw ls cnt hl hh nu lo hi st sin sta tt er vl vh sb (if st = true then tb + 1 else 16) gG gE gU sg) (WT κ.z m aK aP aQ aT aW aO aM aL aH aI aS aR aX aF aY aJ aG aE aU nS dr sf nw tA tL tl tg st sb tb vl vh tt er sin sta gK gP gQ gT gW gO gM gL gH gI gS gR gX gF gY gN gG gE gU))
    refine v_iaddN X (a := (3 + 9 * t)) (b := 3) d_L_law_596 ?_
    refine v_sld X hS (j := ((3 + 9 * t) + 3)) (by omega) (by omega) d_L_law_597 ?_
    refine v_aload_n X 3 d_L_law_598 rfl ?_
    refine v_iload_n X 0 d_L_law_599 rfl ?_
    refine v_iconst X 4 d_L_law_600 (by decide) ?_
    refine v_iaddN X (a := (3 + 9 * t)) (b := 4) d_L_law_601 ?_
    refine v_sld X hS (j := ((3 + 9 * t) + 4)) (by omega) (by omega) d_L_law_602 ?_
    refine v_callV X (b := o) (k := 56) (n := 549) (n9 := 4) (As := [.int (nI i), .int (xs ((3 + 9 * t) + 2)), .int (xs ((3 + 9 * t) + 3)), .int (xs ((3 + 9 * t) + 4))]) (rest := []) (wc := WM κ.z o sa la e d e1 e2 e3 l0 l1 l2 l3 dr sf nS fs fl nw ls cnt hl hh nu lo hi st sin sta tt er vl vh sb (if st = true then tb + 1 else 16) gG gE gU sg) (wr := WT κ.z m aK aP aQ aT aW aO aM aL aH aI aS aR aX aF aY aJ aG aE aU nS dr sf nw tA tL tl tg st sb tb vl vh tt er sin sta gK gP gQ gT gW gO gM gL gH gI gS gR gX gF gY gN gG gE gU) (u_M_tellG κ.l κ.D κ.z o sa la e d e1 e2 e3 l0 l1 l2 l3 dr sf nS fs fl nw ls cnt hl hh nu lo hi st sin sta tt er vl vh sb (if st = true then tb + 1 else 16) gG gE gU sg i (xs ((3 + 9 * t) + 2)) (xs ((3 + 9 * t) + 3)) (xs ((3 + 9 * t) + 4)) hj hn6 (h.2.2.1 i hj) (h.2.2.2.2.2.2.2.1 i hj).1) 0 rfl rfl m229 m230 m231 m30 (by decide +kernel) rfl (Nat.le_of_ble_eq_true rfl) ⟨by decide, by decide⟩ ⟨by decide, by decide⟩ rfl rfl m232 d_L_law_603 (fun v w1 hg => ?_)
    obtain ⟨rfl, rfl⟩ := hg
    show V κ 4 56 549 606 [(3, .int (nI (3 + 9 * t))), (2, .ref m), (1, .ref o), (0, .ref b)] [.int (bI (f_M_tellG (xs ((3 + 9 * t) + 2)) (xs ((3 + 9 * t) + 4))))] (wA (WM κ.z o sa la e d e1 e2 e3 l0 l1 l2 l3 dr sf nS fs fl nw ls cnt hl hh nu lo hi st sin sta tt er vl vh sb (if st = true then tb + 1 else 16) gG gE gU (va_up sg i (svm (s_a (sg i)) (s_b1 (sg i)) (s_b2 (sg i)) (s_b3 (sg i)) (s_sec (sg i)) (s_pen (sg i)) (s_pst (sg i)) (s_psi (sg i)) (s_acc (sg i)) (f_M_tellG_Sv_toldStratum (s_str (sg i)) (xs ((3 + 9 * t) + 2)) (xs ((3 + 9 * t) + 4))) (f_M_tellG_Sv_toldReference (s_ref (sg i)) (xs ((3 + 9 * t) + 2)) (xs ((3 + 9 * t) + 3)) (xs ((3 + 9 * t) + 4))) (f_M_tellG_Sv_toldRoot (s_rt (sg i)) (xs ((3 + 9 * t) + 2)) (xs ((3 + 9 * t) + 4))) (s_sm (sg i)) (s_lo (sg i)) (s_hi (sg i)) (s_ti (sg i))))) (WT κ.z m aK aP aQ aT aW aO aM aL aH aI aS aR aX aF aY aJ aG aE aU nS dr sf nw tA tL tl tg st sb tb vl vh tt er sin sta gK gP gQ gT gW gO gM gL gH gI gS gR gX gF gY gN gG gE gU))
    refine v_aload_n X 1 d_L_law_606 rfl ?_
    refine v_aload_n X 3 d_L_law_607 rfl ?_
    refine v_iload_n X 0 d_L_law_608 rfl ?_
    refine v_iconst X 1 d_L_law_609 (by decide) ?_
    refine v_iaddN X (a := (3 + 9 * t)) (b := 1) d_L_law_610 ?_
    refine v_sldE X hS (j := ((3 + 9 * t) + 1)) (x := nI i) (by omega) (by omega) hx d_L_law_611 ?_
    refine v_aload_n X 3 d_L_law_612 rfl ?_
    show V κ 4 56 549 613 [(3, .int (nI (3 + 9 * t))), (2, .ref m), (1, .ref o), (0, .ref b)] [.ref b, .int (nI i), .ref m, .int (bI (f_M_tellG (xs ((3 + 9 * t) + 2)) (xs ((3 + 9 * t) + 4))))] (wA (WM κ.z o sa la e d e1 e2 e3 l0 l1 l2 l3 dr sf nS fs fl nw ls cnt hl hh nu lo hi st sin sta tt er vl vh sb (if st = true then tb + 1 else 16) gG gE gU (va_up sg i (svm (s_a (sg i)) (s_b1 (sg i)) (s_b2 (sg i)) (s_b3 (sg i)) (s_sec (sg i)) (s_pen (sg i)) (s_pst (sg i)) (s_psi (sg i)) (s_acc (sg i)) (f_M_tellG_Sv_toldStratum (s_str (sg i)) (xs ((3 + 9 * t) + 2)) (xs ((3 + 9 * t) + 4))) (f_M_tellG_Sv_toldReference (s_ref (sg i)) (xs ((3 + 9 * t) + 2)) (xs ((3 + 9 * t) + 3)) (xs ((3 + 9 * t) + 4))) (f_M_tellG_Sv_toldRoot (s_rt (sg i)) (xs ((3 + 9 * t) + 2)) (xs ((3 + 9 * t) + 4))) (s_sm (sg i)) (s_lo (sg i)) (s_hi (sg i)) (s_ti (sg i))))) (WT κ.z m aK aP aQ aT aW aO aM aL aH aI aS aR aX aF aY aJ aG aE aU nS dr sf nw tA tL tl tg st sb tb vl vh tt er sin sta gK gP gQ gT gW gO gM gL gH gI gS gR gX gF gY gN gG gE gU))
    refine v_iload_n X 0 d_L_law_613 rfl ?_
    refine v_iconst X 2 d_L_law_614 (by decide) ?_
    refine v_iaddN X (a := (3 + 9 * t)) (b := 2) d_L_law_615 ?_
    refine v_sld X hS (j := ((3 + 9 * t) + 2)) (by omega) (by omega) d_L_law_616 ?_
    refine v_aload_n X 3 d_L_law_617 rfl ?_
    refine v_iload_n X 0 d_L_law_618 rfl ?_
    refine v_iconst X 3 d_L_law_619 (by decide) ?_
    refine v_iaddN X (a := (3 + 9 * t)) (b := 3) d_L_law_620 ?_
    refine v_sld X hS (j := ((3 + 9 * t) + 3)) (by omega) (by omega) d_L_law_621 ?_
    refine v_aload_n X 3 d_L_law_622 rfl ?_
    refine v_iload_n X 0 d_L_law_623 rfl ?_
    refine v_iconst X 4 d_L_law_624 (by decide) ?_
    refine v_iaddN X (a := (3 + 9 * t)) (b := 4) d_L_law_625 ?_
    refine v_sld X hS (j := ((3 + 9 * t) + 4)) (by omega) (by omega) d_L_law_626 ?_
    refine v_perm List.perm_append_comm ?_
    refine v_callV X (b := m) (k := 56) (n := 549) (n9 := 4) (As := [.int (nI i), .int (xs ((3 + 9 * t) + 2)), .int (xs ((3 + 9 * t) + 3)), .int (xs ((3 + 9 * t) + 4))]) (rest := [.int (bI (f_M_tellG (xs ((3 + 9 * t) + 2)) (xs ((3 + 9 * t) + 4))))]) (wc := WT κ.z m aK aP aQ aT aW aO aM aL aH aI aS aR aX aF aY aJ aG aE aU nS dr sf nw tA tL tl tg st sb tb vl vh tt er sin sta gK gP gQ gT gW gO gM gL gH gI gS gR gX gF gY gN gG gE gU) (wr := WM κ.z o sa la e d e1 e2 e3 l0 l1 l2 l3 dr sf nS fs fl nw ls cnt hl hh nu lo hi st sin sta tt er vl vh sb (if st = true then tb + 1 else 16) gG gE gU (va_up sg i (svm (s_a (sg i)) (s_b1 (sg i)) (s_b2 (sg i)) (s_b3 (sg i)) (s_sec (sg i)) (s_pen (sg i)) (s_pst (sg i)) (s_psi (sg i)) (s_acc (sg i)) (f_M_tellG_Sv_toldStratum (s_str (sg i)) (xs ((3 + 9 * t) + 2)) (xs ((3 + 9 * t) + 4))) (f_M_tellG_Sv_toldReference (s_ref (sg i)) (xs ((3 + 9 * t) + 2)) (xs ((3 + 9 * t) + 3)) (xs ((3 + 9 * t) + 4))) (f_M_tellG_Sv_toldRoot (s_rt (sg i)) (xs ((3 + 9 * t) + 2)) (xs ((3 + 9 * t) + 4))) (s_sm (sg i)) (s_lo (sg i)) (s_hi (sg i)) (s_ti (sg i))))) (u_T_tellG κ.l κ.D κ.z m aK aP aQ aT aW aO aM aL aH aI aS aR aX aF aY aJ aG aE aU nS dr sf nw tA tL tl tg st sb tb vl vh tt er sin sta gK gP gQ gT gW gO gM gL gH gI gS gR gX gF gY gN gG gE gU i (xs ((3 + 9 * t) + 2)) (xs ((3 + 9 * t) + 3)) (xs ((3 + 9 * t) + 4)) hn6 hj) 0 rfl rfl m541 m542 m543 m36 (by decide +kernel) rfl (Nat.le_of_ble_eq_true rfl) ⟨by decide, by decide⟩ ⟨by decide, by decide⟩ rfl rfl m544 d_L_law_627 (fun v w1 hg => ?_)
    obtain ⟨rfl, rfl⟩ := hg
    refine v_perm List.perm_append_comm ?_
    show V κ 4 56 549 630 [(3, .int (nI (3 + 9 * t))), (2, .ref m), (1, .ref o), (0, .ref b)] [.int (bI (f_T_tellG (xs ((3 + 9 * t) + 2)) (xs ((3 + 9 * t) + 4)))), .int (bI (f_M_tellG (xs ((3 + 9 * t) + 2)) (xs ((3 + 9 * t) + 4))))] (wA (WM κ.z o sa la e d e1 e2 e3 l0 l1 l2 l3 dr sf nS fs fl nw ls cnt hl hh nu lo hi st sin sta tt er vl vh sb (if st = true then tb + 1 else 16) gG gE gU (va_up sg i (svm (s_a (sg i)) (s_b1 (sg i)) (s_b2 (sg i)) (s_b3 (sg i)) (s_sec (sg i)) (s_pen (sg i)) (s_pst (sg i)) (s_psi (sg i)) (s_acc (sg i)) (f_M_tellG_Sv_toldStratum (s_str (sg i)) (xs ((3 + 9 * t) + 2)) (xs ((3 + 9 * t) + 4))) (f_M_tellG_Sv_toldReference (s_ref (sg i)) (xs ((3 + 9 * t) + 2)) (xs ((3 + 9 * t) + 3)) (xs ((3 + 9 * t) + 4))) (f_M_tellG_Sv_toldRoot (s_rt (sg i)) (xs ((3 + 9 * t) + 2)) (xs ((3 + 9 * t) + 4))) (s_sm (sg i)) (s_lo (sg i)) (s_hi (sg i)) (s_ti (sg i))))) (WT κ.z m aK aP aQ aT aW aO aM aL aH aI aS aR aX aF aY aJ aG aE aU nS dr sf nw tA tL tl tg st sb tb vl vh tt er sin sta gK gP gQ gT gW gO gM gL gH gI (f_T_tellG_r1 gS i (xs ((3 + 9 * t) + 2)) (xs ((3 + 9 * t) + 4))) (f_T_tellG_r2 gR i (xs ((3 + 9 * t) + 2)) (xs ((3 + 9 * t) + 3)) (xs ((3 + 9 * t) + 4))) (f_T_tellG_r3 gX i (xs ((3 + 9 * t) + 2)) (xs ((3 + 9 * t) + 4))) gF gY gN gG gE gU))
    show V κ 4 56 549 630 [(3, .int (nI (3 + 9 * t))), (2, .ref m), (1, .ref o), (0, .ref b)] [.int (bI (f_T_tellG (xs ((3 + 9 * t) + 2)) (xs ((3 + 9 * t) + 4)))), .int (bI (f_M_tellG (xs ((3 + 9 * t) + 2)) (xs ((3 + 9 * t) + 4))))] (wA (WM κ.z o sa la e d e1 e2 e3 l0 l1 l2 l3 dr sf nS fs fl nw ls cnt hl hh nu lo hi st sin sta tt er vl vh sb (if st = true then tb + 1 else 16) gG gE gU (va_up sg i (svm (s_a (sg i)) (s_b1 (sg i)) (s_b2 (sg i)) (s_b3 (sg i)) (s_sec (sg i)) (s_pen (sg i)) (s_pst (sg i)) (s_psi (sg i)) (s_acc (sg i)) (f_M_tellG_Sv_toldStratum (s_str (sg i)) (xs ((3 + 9 * t) + 2)) (xs ((3 + 9 * t) + 4))) (f_M_tellG_Sv_toldReference (s_ref (sg i)) (xs ((3 + 9 * t) + 2)) (xs ((3 + 9 * t) + 3)) (xs ((3 + 9 * t) + 4))) (f_M_tellG_Sv_toldRoot (s_rt (sg i)) (xs ((3 + 9 * t) + 2)) (xs ((3 + 9 * t) + 4))) (s_sm (sg i)) (s_lo (sg i)) (s_hi (sg i)) (s_ti (sg i))))) (WT κ.z m aK aP aQ aT aW aO aM aL aH aI aS aR aX aF aY aJ aG aE aU nS dr sf nw tA tL tl tg st sb tb vl vh tt er sin sta gK gP gQ gT gW gO gM gL gH gI (f_T_tellG_r1 gS i (xs ((3 + 9 * t) + 2)) (xs ((3 + 9 * t) + 4))) (f_T_tellG_r2 gR i (xs ((3 + 9 * t) + 2)) (xs ((3 + 9 * t) + 3)) (xs ((3 + 9 * t) + 4))) (f_T_tellG_r3 gX i (xs ((3 + 9 * t) + 2)) (xs ((3 + 9 * t) + 4))) gF gY gN gG gE gU))
    refine v_icmp_eq X 996 d_L_law_630 (by decide) (fun c630 => ?_) (fun c630 => absurd rfl c630)
    refine v_iinc X 0 d_L_law_996 (x := nI (3 + 9 * t)) rfl (v := nI ((3 + 9 * t) + 9)) (nI_add _ _) (by decide) (lv' := [(3, .int (nI ((3 + 9 * t) + 9))), (2, .ref m), (1, .ref o), (0, .ref b)]) rfl ?_
    refine v_goto X 48 d_L_law_999 (by decide) ?_
    exact v_eq rfl (by first | rfl | (rw [show 3 + 9 * t + 9 = 3 + 9 * (t + 1) by omega])) rfl (by rfl) (ih nw ls cnt hl hh nu lo hi st sin sta tt er vl vh sb tb (va_up sg i (svm (s_a (sg i)) (s_b1 (sg i)) (s_b2 (sg i)) (s_b3 (sg i)) (s_sec (sg i)) (s_pen (sg i)) (s_pst (sg i)) (s_psi (sg i)) (s_acc (sg i)) (f_M_tellG_Sv_toldStratum (s_str (sg i)) (xs ((3 + 9 * t) + 2)) (xs ((3 + 9 * t) + 4))) (f_M_tellG_Sv_toldReference (s_ref (sg i)) (xs ((3 + 9 * t) + 2)) (xs ((3 + 9 * t) + 3)) (xs ((3 + 9 * t) + 4))) (f_M_tellG_Sv_toldRoot (s_rt (sg i)) (xs ((3 + 9 * t) + 2)) (xs ((3 + 9 * t) + 4))) (s_sm (sg i)) (s_lo (sg i)) (s_hi (sg i)) (s_ti (sg i)))) tA tL tl tg gK gP gQ gT gW gO gM gL gH gI (f_T_tellG_r1 gS i (xs ((3 + 9 * t) + 2)) (xs ((3 + 9 * t) + 4))) (f_T_tellG_r2 gR i (xs ((3 + 9 * t) + 2)) (xs ((3 + 9 * t) + 3)) (xs ((3 + 9 * t) + 4))) (f_T_tellG_r3 gX i (xs ((3 + 9 * t) + 2)) (xs ((3 + 9 * t) + 4))) gF gY gN gG gE gU (inv_tell h hj _ _ _))
  · skip
    show V κ 4 56 549 582 [(3, .int (nI (3 + 9 * t))), (2, .ref m), (1, .ref o), (0, .ref b)] [] (wA (WM κ.z o sa la e d e1 e2 e3 l0 l1 l2 l3 dr sf nS fs fl nw ls cnt hl hh nu lo hi st sin sta tt er vl vh sb (if st = true then tb + 1 else 16) gG gE gU sg) (WT κ.z m aK aP aQ aT aW aO aM aL aH aI aS aR aX aF aY aJ aG aE aU nS dr sf nw tA tL tl tg st sb tb vl vh tt er sin sta gK gP gQ gT gW gO gM gL gH gI gS gR gX gF gY gN gG gE gU))
    refine v_aload_n X 2 d_L_law_582 rfl ?_
    refine v_aload_n X 3 d_L_law_583 rfl ?_
    refine v_iload_n X 0 d_L_law_584 rfl ?_
    refine v_iconst X 1 d_L_law_585 (by decide) ?_
    refine v_iaddN X (a := (3 + 9 * t)) (b := 1) d_L_law_586 ?_
    refine v_sld X hS (j := ((3 + 9 * t) + 1)) (by omega) (by omega) d_L_law_587 ?_
    refine v_aload_n X 3 d_L_law_588 rfl ?_
    refine v_iload_n X 0 d_L_law_589 rfl ?_
    refine v_iconst X 2 d_L_law_590 (by decide) ?_
    refine v_iaddN X (a := (3 + 9 * t)) (b := 2) d_L_law_591 ?_
    refine v_sld X hS (j := ((3 + 9 * t) + 2)) (by omega) (by omega) d_L_law_592 ?_
    refine v_aload_n X 3 d_L_law_593 rfl ?_
    refine v_iload_n X 0 d_L_law_594 rfl ?_
    refine v_iconst X 3 d_L_law_595 (by decide) ?_
    show V κ 4 56 549 596 [(3, .int (nI (3 + 9 * t))), (2, .ref m), (1, .ref o), (0, .ref b)] [.int 3, .int (nI (3 + 9 * t)), .ref b, .int (xs ((3 + 9 * t) + 2)), .int (xs ((3 + 9 * t) + 1)), .ref o] (wA (WM κ.z o sa la e d e1 e2 e3 l0 l1 l2 l3 dr sf nS fs fl nw ls cnt hl hh nu lo hi st sin sta tt er vl vh sb (if st = true then tb + 1 else 16) gG gE gU sg) (WT κ.z m aK aP aQ aT aW aO aM aL aH aI aS aR aX aF aY aJ aG aE aU nS dr sf nw tA tL tl tg st sb tb vl vh tt er sin sta gK gP gQ gT gW gO gM gL gH gI gS gR gX gF gY gN gG gE gU))
    refine v_iaddN X (a := (3 + 9 * t)) (b := 3) d_L_law_596 ?_
    refine v_sld X hS (j := ((3 + 9 * t) + 3)) (by omega) (by omega) d_L_law_597 ?_
    refine v_aload_n X 3 d_L_law_598 rfl ?_
    refine v_iload_n X 0 d_L_law_599 rfl ?_
    refine v_iconst X 4 d_L_law_600 (by decide) ?_
    refine v_iaddN X (a := (3 + 9 * t)) (b := 4) d_L_law_601 ?_
    refine v_sld X hS (j := ((3 + 9 * t) + 4)) (by omega) (by omega) d_L_law_602 ?_
    refine v_callV X (b := o) (k := 56) (n := 549) (n9 := 4) (As := [.int (xs ((3 + 9 * t) + 1)), .int (xs ((3 + 9 * t) + 2)), .int (xs ((3 + 9 * t) + 3)), .int (xs ((3 + 9 * t) + 4))]) (rest := []) (wc := WM κ.z o sa la e d e1 e2 e3 l0 l1 l2 l3 dr sf nS fs fl nw ls cnt hl hh nu lo hi st sin sta tt er vl vh sb (if st = true then tb + 1 else 16) gG gE gU sg) (wr := WT κ.z m aK aP aQ aT aW aO aM aL aH aI aS aR aX aF aY aJ aG aE aU nS dr sf nw tA tL tl tg st sb tb vl vh tt er sin sta gK gP gQ gT gW gO gM gL gH gI gS gR gX gF gY gN gG gE gU) (u_M_tellB κ.l κ.D κ.z o sa la e d e1 e2 e3 l0 l1 l2 l3 dr sf nS fs fl nw ls cnt hl hh nu lo hi st sin sta tt er vl vh sb (if st = true then tb + 1 else 16) gG gE gU sg (xs ((3 + 9 * t) + 1)) (xs ((3 + 9 * t) + 2)) (xs ((3 + 9 * t) + 3)) (xs ((3 + 9 * t) + 4)) hb) 0 rfl rfl m229 m230 m231 m30 (by decide +kernel) rfl (Nat.le_of_ble_eq_true rfl) ⟨by decide, by decide⟩ ⟨by decide, by decide⟩ rfl rfl m232 d_L_law_603 (fun v w1 hg => ?_)
    obtain ⟨rfl, rfl⟩ := hg
    show V κ 4 56 549 606 [(3, .int (nI (3 + 9 * t))), (2, .ref m), (1, .ref o), (0, .ref b)] [.int (bI false)] (wA (WM κ.z o sa la e d e1 e2 e3 l0 l1 l2 l3 dr sf nS fs fl nw ls cnt hl hh nu lo hi st sin sta tt er vl vh sb (if st = true then tb + 1 else 16) gG gE gU sg) (WT κ.z m aK aP aQ aT aW aO aM aL aH aI aS aR aX aF aY aJ aG aE aU nS dr sf nw tA tL tl tg st sb tb vl vh tt er sin sta gK gP gQ gT gW gO gM gL gH gI gS gR gX gF gY gN gG gE gU))
    refine v_aload_n X 1 d_L_law_606 rfl ?_
    refine v_aload_n X 3 d_L_law_607 rfl ?_
    refine v_iload_n X 0 d_L_law_608 rfl ?_
    refine v_iconst X 1 d_L_law_609 (by decide) ?_
    refine v_iaddN X (a := (3 + 9 * t)) (b := 1) d_L_law_610 ?_
    refine v_sld X hS (j := ((3 + 9 * t) + 1)) (by omega) (by omega) d_L_law_611 ?_
    refine v_aload_n X 3 d_L_law_612 rfl ?_
    show V κ 4 56 549 613 [(3, .int (nI (3 + 9 * t))), (2, .ref m), (1, .ref o), (0, .ref b)] [.ref b, .int (xs ((3 + 9 * t) + 1)), .ref m, .int (bI false)] (wA (WM κ.z o sa la e d e1 e2 e3 l0 l1 l2 l3 dr sf nS fs fl nw ls cnt hl hh nu lo hi st sin sta tt er vl vh sb (if st = true then tb + 1 else 16) gG gE gU sg) (WT κ.z m aK aP aQ aT aW aO aM aL aH aI aS aR aX aF aY aJ aG aE aU nS dr sf nw tA tL tl tg st sb tb vl vh tt er sin sta gK gP gQ gT gW gO gM gL gH gI gS gR gX gF gY gN gG gE gU))
    refine v_iload_n X 0 d_L_law_613 rfl ?_
    refine v_iconst X 2 d_L_law_614 (by decide) ?_
    refine v_iaddN X (a := (3 + 9 * t)) (b := 2) d_L_law_615 ?_
    refine v_sld X hS (j := ((3 + 9 * t) + 2)) (by omega) (by omega) d_L_law_616 ?_
    refine v_aload_n X 3 d_L_law_617 rfl ?_
    refine v_iload_n X 0 d_L_law_618 rfl ?_
    refine v_iconst X 3 d_L_law_619 (by decide) ?_
    refine v_iaddN X (a := (3 + 9 * t)) (b := 3) d_L_law_620 ?_
    refine v_sld X hS (j := ((3 + 9 * t) + 3)) (by omega) (by omega) d_L_law_621 ?_
    refine v_aload_n X 3 d_L_law_622 rfl ?_
    refine v_iload_n X 0 d_L_law_623 rfl ?_
    refine v_iconst X 4 d_L_law_624 (by decide) ?_
    refine v_iaddN X (a := (3 + 9 * t)) (b := 4) d_L_law_625 ?_
    refine v_sld X hS (j := ((3 + 9 * t) + 4)) (by omega) (by omega) d_L_law_626 ?_
    refine v_perm List.perm_append_comm ?_
    refine v_callV X (b := m) (k := 56) (n := 549) (n9 := 4) (As := [.int (xs ((3 + 9 * t) + 1)), .int (xs ((3 + 9 * t) + 2)), .int (xs ((3 + 9 * t) + 3)), .int (xs ((3 + 9 * t) + 4))]) (rest := [.int (bI false)]) (wc := WT κ.z m aK aP aQ aT aW aO aM aL aH aI aS aR aX aF aY aJ aG aE aU nS dr sf nw tA tL tl tg st sb tb vl vh tt er sin sta gK gP gQ gT gW gO gM gL gH gI gS gR gX gF gY gN gG gE gU) (wr := WM κ.z o sa la e d e1 e2 e3 l0 l1 l2 l3 dr sf nS fs fl nw ls cnt hl hh nu lo hi st sin sta tt er vl vh sb (if st = true then tb + 1 else 16) gG gE gU sg) (u_T_tellB κ.l κ.D κ.z m aK aP aQ aT aW aO aM aL aH aI aS aR aX aF aY aJ aG aE aU nS dr sf nw tA tL tl tg st sb tb vl vh tt er sin sta gK gP gQ gT gW gO gM gL gH gI gS gR gX gF gY gN gG gE gU (xs ((3 + 9 * t) + 1)) (xs ((3 + 9 * t) + 2)) (xs ((3 + 9 * t) + 3)) (xs ((3 + 9 * t) + 4)) hb) 0 rfl rfl m541 m542 m543 m36 (by decide +kernel) rfl (Nat.le_of_ble_eq_true rfl) ⟨by decide, by decide⟩ ⟨by decide, by decide⟩ rfl rfl m544 d_L_law_627 (fun v w1 hg => ?_)
    obtain ⟨rfl, rfl⟩ := hg
    refine v_perm List.perm_append_comm ?_
    show V κ 4 56 549 630 [(3, .int (nI (3 + 9 * t))), (2, .ref m), (1, .ref o), (0, .ref b)] [.int (bI false), .int (bI false)] (wA (WM κ.z o sa la e d e1 e2 e3 l0 l1 l2 l3 dr sf nS fs fl nw ls cnt hl hh nu lo hi st sin sta tt er vl vh sb (if st = true then tb + 1 else 16) gG gE gU sg) (WT κ.z m aK aP aQ aT aW aO aM aL aH aI aS aR aX aF aY aJ aG aE aU nS dr sf nw tA tL tl tg st sb tb vl vh tt er sin sta gK gP gQ gT gW gO gM gL gH gI gS gR gX gF gY gN gG gE gU))
    show V κ 4 56 549 630 [(3, .int (nI (3 + 9 * t))), (2, .ref m), (1, .ref o), (0, .ref b)] [.int (bI false), .int (bI false)] (wA (WM κ.z o sa la e d e1 e2 e3 l0 l1 l2 l3 dr sf nS fs fl nw ls cnt hl hh nu lo hi st sin sta tt er vl vh sb (if st = true then tb + 1 else 16) gG gE gU sg) (WT κ.z m aK aP aQ aT aW aO aM aL aH aI aS aR aX aF aY aJ aG aE aU nS dr sf nw tA tL tl tg st sb tb vl vh tt er sin sta gK gP gQ gT gW gO gM gL gH gI gS gR gX gF gY gN gG gE gU))
    refine v_icmp_eq X 996 d_L_law_630 (by decide) (fun c630 => ?_) (fun c630 => absurd rfl c630)
    refine v_iinc X 0 d_L_law_996 (x := nI (3 + 9 * t)) rfl (v := nI ((3 + 9 * t) + 9)) (nI_add _ _) (by decide) (lv' := [(3, .int (nI ((3 + 9 * t) + 9))), (2, .ref m), (1, .ref o), (0, .ref b)]) rfl ?_
    refine v_goto X 48 d_L_law_999 (by decide) ?_
    exact v_eq rfl (by first | rfl | (rw [show 3 + 9 * t + 9 = 3 + 9 * (t + 1) by omega])) rfl (by rfl) (ih nw ls cnt hl hh nu lo hi st sin sta tt er vl vh sb tb sg tA tL tl tg gK gP gQ gT gW gO gM gL gH gI gS gR gX gF gY gN gG gE gU (Inv_next h))

set_option maxHeartbeats 4000000 in
set_option maxRecDepth 100000 in
theorem lc_7 {κ : VC} (X : Cx κ code R_L room_1 4) (b : Nat) (o : Nat) (sa : Nat) (la : Nat) (e : Nat) (d : Nat) (e1 : Nat) (e2 : Nat) (e3 : Nat) (l0 : Nat) (l1 : Nat) (l2 : Nat) (l3 : Nat) (dr : Int32) (sf : Int32) (nS : Nat) (fs : Nat → Option Nat) (fl : Nat → Option Nat) (m : Nat) (aK : Nat) (aP : Nat) (aQ : Nat) (aT : Nat) (aW : Nat) (aO : Nat) (aM : Nat) (aL : Nat) (aH : Nat) (aI : Nat) (aS : Nat) (aR : Nat) (aX : Nat) (aF : Nat) (aY : Nat) (aJ : Nat) (aG : Nat) (aE : Nat) (aU : Nat) (L : Nat) (xs : Nat → Int32) (hS : Scr κ b L xs) (hL : L ≤ 4611) (hfl : fl 0 = some l0 ∧ fl 1 = some l1 ∧ fl 2 = some l2 ∧ fl 3 = some l3) (t : Nat) (ht : 12 + 9 * t ≤ L) (nw : Int64) (ls : Int64) (cnt : Nat) (hl : Int64) (hh : Int64) (nu : Nat → Nat) (lo : Nat → Int64) (hi : Nat → Int64) (st : Bool) (sin : Int64) (sta : Int64) (tt : Int64) (er : Int64) (vl : Int64) (vh : Int64) (sb : Int32) (tb : Int32) (sg : Nat → SvS) (tA : Bool) (tL : Int64) (tl : Int64) (tg : Int64) (gK : Nat → Int64) (gP : Nat → Bool) (gQ : Nat → Int64) (gT : Nat → Int64) (gW : Nat → Bool) (gO : Nat → Int64) (gM : Nat → Nat) (gL : Nat → Int64) (gH : Nat → Int64) (gI : Nat → Int64) (gS : Nat → Int32) (gR : Nat → Int32) (gX : Nat → Int32) (gF : Nat → Int64) (gY : Nat → Int64) (gN : Nat → Bool) (gG : Nat → Bool) (gE : Nat → Int32) (gU : Nat → Int64) (h : Inv t nS dr fs nw ls nu sin sta tt sg tA tL gK gQ gT gO gL gH gI gP gW gM gS gR gX) (ih : ∀ (nw : Int64) (ls : Int64) (cnt : Nat) (hl : Int64) (hh : Int64) (nu : Nat → Nat) (lo : Nat → Int64) (hi : Nat → Int64) (st : Bool) (sin : Int64) (sta : Int64) (tt : Int64) (er : Int64) (vl : Int64) (vh : Int64) (sb : Int32) (tb : Int32) (sg : Nat → SvS) (tA : Bool) (tL : Int64) (tl : Int64) (tg : Int64) (gK : Nat → Int64) (gP : Nat → Bool) (gQ : Nat → Int64) (gT : Nat → Int64) (gW : Nat → Bool) (gO : Nat → Int64) (gM : Nat → Nat) (gL : Nat → Int64) (gH : Nat → Int64) (gI : Nat → Int64) (gS : Nat → Int32) (gR : Nat → Int32) (gX : Nat → Int32) (gF : Nat → Int64) (gY : Nat → Int64) (gN : Nat → Bool) (gG : Nat → Bool) (gE : Nat → Int32) (gU : Nat → Int64), Inv (t + 1) nS dr fs nw ls nu sin sta tt sg tA tL gK gQ gT gO gL gH gI gP gW gM gS gR gX → V κ 4 56 549 48 [(3, .int (nI (3 + 9 * (t + 1)))), (2, .ref m), (1, .ref o), (0, .ref b)] [] (wA (WM κ.z o sa la e d e1 e2 e3 l0 l1 l2 l3 dr sf nS fs fl nw ls cnt hl hh nu lo hi st sin sta tt er vl vh sb (if st = true then tb + 1 else 16) gG gE gU sg) (WT κ.z m aK aP aQ aT aW aO aM aL aH aI aS aR aX aF aY aJ aG aE aU nS dr sf nw tA tL tl tg st sb tb vl vh tt er sin sta gK gP gQ gT gW gO gM gL gH gI gS gR gX gF gY gN gG gE gU))) : V κ 4 56 549 635 [(3, .int (nI (3 + 9 * t))), (2, .ref m), (1, .ref o), (0, .ref b)] [] (wA (WM κ.z o sa la e d e1 e2 e3 l0 l1 l2 l3 dr sf nS fs fl nw ls cnt hl hh nu lo hi st sin sta tt er vl vh sb (if st = true then tb + 1 else 16) gG gE gU sg) (WT κ.z m aK aP aQ aT aW aO aM aL aH aI aS aR aX aF aY aJ aG aE aU nS dr sf nw tA tL tl tg st sb tb vl vh tt er sin sta gK gP gQ gT gW gO gM gL gH gI gS gR gX gF gY gN gG gE gU)) := by
  have hn6 := h.1.2
  have hn1 := h.1.1
  rcases srv_cases (xs (3 + 9 * t + 1)) hn6 with ⟨i, hj, hx⟩ | hb
  · skip
    show V κ 4 56 549 635 [(3, .int (nI (3 + 9 * t))), (2, .ref m), (1, .ref o), (0, .ref b)] [] (wA (WM κ.z o sa la e d e1 e2 e3 l0 l1 l2 l3 dr sf nS fs fl nw ls cnt hl hh nu lo hi st sin sta tt er vl vh sb (if st = true then tb + 1 else 16) gG gE gU sg) (WT κ.z m aK aP aQ aT aW aO aM aL aH aI aS aR aX aF aY aJ aG aE aU nS dr sf nw tA tL tl tg st sb tb vl vh tt er sin sta gK gP gQ gT gW gO gM gL gH gI gS gR gX gF gY gN gG gE gU))
    refine v_aload_n X 2 d_L_law_635 rfl ?_
    refine v_aload_n X 3 d_L_law_636 rfl ?_
    refine v_iload_n X 0 d_L_law_637 rfl ?_
    refine v_iconst X 1 d_L_law_638 (by decide) ?_
    refine v_iaddN X (a := (3 + 9 * t)) (b := 1) d_L_law_639 ?_
    refine v_sldE X hS (j := ((3 + 9 * t) + 1)) (x := nI i) (by omega) (by omega) hx d_L_law_640 ?_
    refine v_callV X (b := o) (k := 56) (n := 549) (n9 := 1) (As := [.int (nI i)]) (rest := []) (wc := WM κ.z o sa la e d e1 e2 e3 l0 l1 l2 l3 dr sf nS fs fl nw ls cnt hl hh nu lo hi st sin sta tt er vl vh sb (if st = true then tb + 1 else 16) gG gE gU sg) (wr := WT κ.z m aK aP aQ aT aW aO aM aL aH aI aS aR aX aF aY aJ aG aE aU nS dr sf nw tA tL tl tg st sb tb vl vh tt er sin sta gK gP gQ gT gW gO gM gL gH gI gS gR gX gF gY gN gG gE gU) (u_M_lowG κ.l κ.D κ.z o sa la e d e1 e2 e3 l0 l1 l2 l3 dr sf nS fs fl nw ls cnt hl hh nu lo hi st sin sta tt er vl vh sb (if st = true then tb + 1 else 16) gG gE gU sg i hj hn6 (h.2.2.1 i hj) (h.2.2.2.2.2.2.2.1 i hj).1) 0 rfl rfl m233 m234 m235 m30 (by decide +kernel) rfl (Nat.le_of_ble_eq_true rfl) ⟨by decide, by decide⟩ ⟨by decide, by decide⟩ rfl rfl m236 d_L_law_641 (fun v w1 hg => ?_)
    obtain ⟨rfl, rfl⟩ := hg
    show V κ 4 56 549 644 [(3, .int (nI (3 + 9 * t))), (2, .ref m), (1, .ref o), (0, .ref b)] [.long (f_M_lowG dr nw (s_rt (sg i)) (s_sm (sg i)) (s_lo (sg i)) (s_hi (sg i)) (s_ti (sg i)))] (wA (WM κ.z o sa la e d e1 e2 e3 l0 l1 l2 l3 dr sf nS fs fl nw ls cnt hl hh nu lo hi st sin sta tt er vl vh sb (if st = true then tb + 1 else 16) gG gE gU sg) (WT κ.z m aK aP aQ aT aW aO aM aL aH aI aS aR aX aF aY aJ aG aE aU nS dr sf nw tA tL tl tg st sb tb vl vh tt er sin sta gK gP gQ gT gW gO gM gL gH gI gS gR gX gF gY gN gG gE gU))
    refine v_aload_n X 1 d_L_law_644 rfl ?_
    refine v_aload_n X 3 d_L_law_645 rfl ?_
    refine v_iload_n X 0 d_L_law_646 rfl ?_
    refine v_iconst X 1 d_L_law_647 (by decide) ?_
    refine v_iaddN X (a := (3 + 9 * t)) (b := 1) d_L_law_648 ?_
    refine v_sldE X hS (j := ((3 + 9 * t) + 1)) (x := nI i) (by omega) (by omega) hx d_L_law_649 ?_
    refine v_perm List.perm_append_comm ?_
    refine v_callV X (b := m) (k := 56) (n := 549) (n9 := 1) (As := [.int (nI i)]) (rest := [.long (f_M_lowG dr nw (s_rt (sg i)) (s_sm (sg i)) (s_lo (sg i)) (s_hi (sg i)) (s_ti (sg i)))]) (wc := WT κ.z m aK aP aQ aT aW aO aM aL aH aI aS aR aX aF aY aJ aG aE aU nS dr sf nw tA tL tl tg st sb tb vl vh tt er sin sta gK gP gQ gT gW gO gM gL gH gI gS gR gX gF gY gN gG gE gU) (wr := WM κ.z o sa la e d e1 e2 e3 l0 l1 l2 l3 dr sf nS fs fl nw ls cnt hl hh nu lo hi st sin sta tt er vl vh sb (if st = true then tb + 1 else 16) gG gE gU sg) (u_T_lowG κ.l κ.D κ.z m aK aP aQ aT aW aO aM aL aH aI aS aR aX aF aY aJ aG aE aU nS dr sf nw tA tL tl tg st sb tb vl vh tt er sin sta gK gP gQ gT gW gO gM gL gH gI gS gR gX gF gY gN gG gE gU i hn6 hj (h.2.2.2.2.2.2.2.2.1 i (by omega))) 0 rfl rfl m545 m546 m547 m36 (by decide +kernel) rfl (Nat.le_of_ble_eq_true rfl) ⟨by decide, by decide⟩ ⟨by decide, by decide⟩ rfl rfl m548 d_L_law_650 (fun v w1 hg => ?_)
    obtain ⟨rfl, rfl⟩ := hg
    refine v_perm List.perm_append_comm ?_
    show V κ 4 56 549 653 [(3, .int (nI (3 + 9 * t))), (2, .ref m), (1, .ref o), (0, .ref b)] [.long (f_T_lowG dr nw gM gL gH gI gX gF gY i), .long (f_M_lowG dr nw (s_rt (sg i)) (s_sm (sg i)) (s_lo (sg i)) (s_hi (sg i)) (s_ti (sg i)))] (wA (WM κ.z o sa la e d e1 e2 e3 l0 l1 l2 l3 dr sf nS fs fl nw ls cnt hl hh nu lo hi st sin sta tt er vl vh sb (if st = true then tb + 1 else 16) gG gE gU sg) (WT κ.z m aK aP aQ aT aW aO aM aL aH aI aS aR aX aF aY aJ aG aE aU nS dr sf nw tA tL tl tg st sb tb vl vh tt er sin sta gK gP gQ gT gW gO gM gL gH gI gS gR gX (f_T_lowG_r6 dr nw gM gL gH gI gX gF gY i) (f_T_lowG_r7 dr nw gM gL gH gI gX gF gY i) gN gG gE gU))
    show V κ 4 56 549 653 [(3, .int (nI (3 + 9 * t))), (2, .ref m), (1, .ref o), (0, .ref b)] [.long (f_T_lowG dr nw gM gL gH gI gX gF gY i), .long (f_M_lowG dr nw (s_rt (sg i)) (s_sm (sg i)) (s_lo (sg i)) (s_hi (sg i)) (s_ti (sg i)))] (wA (WM κ.z o sa la e d e1 e2 e3 l0 l1 l2 l3 dr sf nS fs fl nw ls cnt hl hh nu lo hi st sin sta tt er vl vh sb (if st = true then tb + 1 else 16) gG gE gU sg) (WT κ.z m aK aP aQ aT aW aO aM aL aH aI aS aR aX aF aY aJ aG aE aU nS dr sf nw tA tL tl tg st sb tb vl vh tt er sin sta gK gP gQ gT gW gO gM gL gH gI gS gR gX (f_T_lowG_r6 dr nw gM gL gH gI gX gF gY i) (f_T_lowG_r7 dr nw gM gL gH gI gX gF gY i) gN gG gE gU))
    refine v_lcmp_eq X 996 d_L_law_653 d_L_law_654 (by decide) (fun c653 => ?_) (fun c653 => absurd (low_eq h (by omega) hj _ _).1 c653)
    refine v_iinc X 0 d_L_law_996 (x := nI (3 + 9 * t)) rfl (v := nI ((3 + 9 * t) + 9)) (nI_add _ _) (by decide) (lv' := [(3, .int (nI ((3 + 9 * t) + 9))), (2, .ref m), (1, .ref o), (0, .ref b)]) rfl ?_
    refine v_goto X 48 d_L_law_999 (by decide) ?_
    exact v_eq rfl (by first | rfl | (rw [show 3 + 9 * t + 9 = 3 + 9 * (t + 1) by omega])) rfl (by rfl) (ih nw ls cnt hl hh nu lo hi st sin sta tt er vl vh sb tb sg tA tL tl tg gK gP gQ gT gW gO gM gL gH gI gS gR gX (f_T_lowG_r6 dr nw gM gL gH gI gX gF gY i) (f_T_lowG_r7 dr nw gM gL gH gI gX gF gY i) gN gG gE gU (Inv_next h))
  · skip
    show V κ 4 56 549 635 [(3, .int (nI (3 + 9 * t))), (2, .ref m), (1, .ref o), (0, .ref b)] [] (wA (WM κ.z o sa la e d e1 e2 e3 l0 l1 l2 l3 dr sf nS fs fl nw ls cnt hl hh nu lo hi st sin sta tt er vl vh sb (if st = true then tb + 1 else 16) gG gE gU sg) (WT κ.z m aK aP aQ aT aW aO aM aL aH aI aS aR aX aF aY aJ aG aE aU nS dr sf nw tA tL tl tg st sb tb vl vh tt er sin sta gK gP gQ gT gW gO gM gL gH gI gS gR gX gF gY gN gG gE gU))
    refine v_aload_n X 2 d_L_law_635 rfl ?_
    refine v_aload_n X 3 d_L_law_636 rfl ?_
    refine v_iload_n X 0 d_L_law_637 rfl ?_
    refine v_iconst X 1 d_L_law_638 (by decide) ?_
    refine v_iaddN X (a := (3 + 9 * t)) (b := 1) d_L_law_639 ?_
    refine v_sld X hS (j := ((3 + 9 * t) + 1)) (by omega) (by omega) d_L_law_640 ?_
    refine v_callV X (b := o) (k := 56) (n := 549) (n9 := 1) (As := [.int (xs ((3 + 9 * t) + 1))]) (rest := []) (wc := WM κ.z o sa la e d e1 e2 e3 l0 l1 l2 l3 dr sf nS fs fl nw ls cnt hl hh nu lo hi st sin sta tt er vl vh sb (if st = true then tb + 1 else 16) gG gE gU sg) (wr := WT κ.z m aK aP aQ aT aW aO aM aL aH aI aS aR aX aF aY aJ aG aE aU nS dr sf nw tA tL tl tg st sb tb vl vh tt er sin sta gK gP gQ gT gW gO gM gL gH gI gS gR gX gF gY gN gG gE gU) (u_M_lowB κ.l κ.D κ.z o sa la e d e1 e2 e3 l0 l1 l2 l3 dr sf nS fs fl nw ls cnt hl hh nu lo hi st sin sta tt er vl vh sb (if st = true then tb + 1 else 16) gG gE gU sg (xs ((3 + 9 * t) + 1)) hb) 0 rfl rfl m233 m234 m235 m30 (by decide +kernel) rfl (Nat.le_of_ble_eq_true rfl) ⟨by decide, by decide⟩ ⟨by decide, by decide⟩ rfl rfl m236 d_L_law_641 (fun v w1 hg => ?_)
    obtain ⟨rfl, rfl⟩ := hg
    show V κ 4 56 549 644 [(3, .int (nI (3 + 9 * t))), (2, .ref m), (1, .ref o), (0, .ref b)] [.long (-4611686018427387904)] (wA (WM κ.z o sa la e d e1 e2 e3 l0 l1 l2 l3 dr sf nS fs fl nw ls cnt hl hh nu lo hi st sin sta tt er vl vh sb (if st = true then tb + 1 else 16) gG gE gU sg) (WT κ.z m aK aP aQ aT aW aO aM aL aH aI aS aR aX aF aY aJ aG aE aU nS dr sf nw tA tL tl tg st sb tb vl vh tt er sin sta gK gP gQ gT gW gO gM gL gH gI gS gR gX gF gY gN gG gE gU))
    refine v_aload_n X 1 d_L_law_644 rfl ?_
    refine v_aload_n X 3 d_L_law_645 rfl ?_
    refine v_iload_n X 0 d_L_law_646 rfl ?_
    refine v_iconst X 1 d_L_law_647 (by decide) ?_
    refine v_iaddN X (a := (3 + 9 * t)) (b := 1) d_L_law_648 ?_
    refine v_sld X hS (j := ((3 + 9 * t) + 1)) (by omega) (by omega) d_L_law_649 ?_
    refine v_perm List.perm_append_comm ?_
    refine v_callV X (b := m) (k := 56) (n := 549) (n9 := 1) (As := [.int (xs ((3 + 9 * t) + 1))]) (rest := [.long (-4611686018427387904)]) (wc := WT κ.z m aK aP aQ aT aW aO aM aL aH aI aS aR aX aF aY aJ aG aE aU nS dr sf nw tA tL tl tg st sb tb vl vh tt er sin sta gK gP gQ gT gW gO gM gL gH gI gS gR gX gF gY gN gG gE gU) (wr := WM κ.z o sa la e d e1 e2 e3 l0 l1 l2 l3 dr sf nS fs fl nw ls cnt hl hh nu lo hi st sin sta tt er vl vh sb (if st = true then tb + 1 else 16) gG gE gU sg) (u_T_lowB κ.l κ.D κ.z m aK aP aQ aT aW aO aM aL aH aI aS aR aX aF aY aJ aG aE aU nS dr sf nw tA tL tl tg st sb tb vl vh tt er sin sta gK gP gQ gT gW gO gM gL gH gI gS gR gX gF gY gN gG gE gU (xs ((3 + 9 * t) + 1)) hb) 0 rfl rfl m545 m546 m547 m36 (by decide +kernel) rfl (Nat.le_of_ble_eq_true rfl) ⟨by decide, by decide⟩ ⟨by decide, by decide⟩ rfl rfl m548 d_L_law_650 (fun v w1 hg => ?_)
    obtain ⟨rfl, rfl⟩ := hg
    refine v_perm List.perm_append_comm ?_
    show V κ 4 56 549 653 [(3, .int (nI (3 + 9 * t))), (2, .ref m), (1, .ref o), (0, .ref b)] [.long (-4611686018427387904), .long (-4611686018427387904)] (wA (WM κ.z o sa la e d e1 e2 e3 l0 l1 l2 l3 dr sf nS fs fl nw ls cnt hl hh nu lo hi st sin sta tt er vl vh sb (if st = true then tb + 1 else 16) gG gE gU sg) (WT κ.z m aK aP aQ aT aW aO aM aL aH aI aS aR aX aF aY aJ aG aE aU nS dr sf nw tA tL tl tg st sb tb vl vh tt er sin sta gK gP gQ gT gW gO gM gL gH gI gS gR gX gF gY gN gG gE gU))
    show V κ 4 56 549 653 [(3, .int (nI (3 + 9 * t))), (2, .ref m), (1, .ref o), (0, .ref b)] [.long (-4611686018427387904), .long (-4611686018427387904)] (wA (WM κ.z o sa la e d e1 e2 e3 l0 l1 l2 l3 dr sf nS fs fl nw ls cnt hl hh nu lo hi st sin sta tt er vl vh sb (if st = true then tb + 1 else 16) gG gE gU sg) (WT κ.z m aK aP aQ aT aW aO aM aL aH aI aS aR aX aF aY aJ aG aE aU nS dr sf nw tA tL tl tg st sb tb vl vh tt er sin sta gK gP gQ gT gW gO gM gL gH gI gS gR gX gF gY gN gG gE gU))
    refine v_lcmp_eq X 996 d_L_law_653 d_L_law_654 (by decide) (fun c653 => ?_) (fun c653 => absurd rfl c653)
    refine v_iinc X 0 d_L_law_996 (x := nI (3 + 9 * t)) rfl (v := nI ((3 + 9 * t) + 9)) (nI_add _ _) (by decide) (lv' := [(3, .int (nI ((3 + 9 * t) + 9))), (2, .ref m), (1, .ref o), (0, .ref b)]) rfl ?_
    refine v_goto X 48 d_L_law_999 (by decide) ?_
    exact v_eq rfl (by first | rfl | (rw [show 3 + 9 * t + 9 = 3 + 9 * (t + 1) by omega])) rfl (by rfl) (ih nw ls cnt hl hh nu lo hi st sin sta tt er vl vh sb tb sg tA tL tl tg gK gP gQ gT gW gO gM gL gH gI gS gR gX gF gY gN gG gE gU (Inv_next h))

set_option maxHeartbeats 4000000 in
set_option maxRecDepth 100000 in
theorem lc_8 {κ : VC} (X : Cx κ code R_L room_1 4) (b : Nat) (o : Nat) (sa : Nat) (la : Nat) (e : Nat) (d : Nat) (e1 : Nat) (e2 : Nat) (e3 : Nat) (l0 : Nat) (l1 : Nat) (l2 : Nat) (l3 : Nat) (dr : Int32) (sf : Int32) (nS : Nat) (fs : Nat → Option Nat) (fl : Nat → Option Nat) (m : Nat) (aK : Nat) (aP : Nat) (aQ : Nat) (aT : Nat) (aW : Nat) (aO : Nat) (aM : Nat) (aL : Nat) (aH : Nat) (aI : Nat) (aS : Nat) (aR : Nat) (aX : Nat) (aF : Nat) (aY : Nat) (aJ : Nat) (aG : Nat) (aE : Nat) (aU : Nat) (L : Nat) (xs : Nat → Int32) (hS : Scr κ b L xs) (hL : L ≤ 4611) (hfl : fl 0 = some l0 ∧ fl 1 = some l1 ∧ fl 2 = some l2 ∧ fl 3 = some l3) (t : Nat) (ht : 12 + 9 * t ≤ L) (nw : Int64) (ls : Int64) (cnt : Nat) (hl : Int64) (hh : Int64) (nu : Nat → Nat) (lo : Nat → Int64) (hi : Nat → Int64) (st : Bool) (sin : Int64) (sta : Int64) (tt : Int64) (er : Int64) (vl : Int64) (vh : Int64) (sb : Int32) (tb : Int32) (sg : Nat → SvS) (tA : Bool) (tL : Int64) (tl : Int64) (tg : Int64) (gK : Nat → Int64) (gP : Nat → Bool) (gQ : Nat → Int64) (gT : Nat → Int64) (gW : Nat → Bool) (gO : Nat → Int64) (gM : Nat → Nat) (gL : Nat → Int64) (gH : Nat → Int64) (gI : Nat → Int64) (gS : Nat → Int32) (gR : Nat → Int32) (gX : Nat → Int32) (gF : Nat → Int64) (gY : Nat → Int64) (gN : Nat → Bool) (gG : Nat → Bool) (gE : Nat → Int32) (gU : Nat → Int64) (h : Inv t nS dr fs nw ls nu sin sta tt sg tA tL gK gQ gT gO gL gH gI gP gW gM gS gR gX) (ih : ∀ (nw : Int64) (ls : Int64) (cnt : Nat) (hl : Int64) (hh : Int64) (nu : Nat → Nat) (lo : Nat → Int64) (hi : Nat → Int64) (st : Bool) (sin : Int64) (sta : Int64) (tt : Int64) (er : Int64) (vl : Int64) (vh : Int64) (sb : Int32) (tb : Int32) (sg : Nat → SvS) (tA : Bool) (tL : Int64) (tl : Int64) (tg : Int64) (gK : Nat → Int64) (gP : Nat → Bool) (gQ : Nat → Int64) (gT : Nat → Int64) (gW : Nat → Bool) (gO : Nat → Int64) (gM : Nat → Nat) (gL : Nat → Int64) (gH : Nat → Int64) (gI : Nat → Int64) (gS : Nat → Int32) (gR : Nat → Int32) (gX : Nat → Int32) (gF : Nat → Int64) (gY : Nat → Int64) (gN : Nat → Bool) (gG : Nat → Bool) (gE : Nat → Int32) (gU : Nat → Int64), Inv (t + 1) nS dr fs nw ls nu sin sta tt sg tA tL gK gQ gT gO gL gH gI gP gW gM gS gR gX → V κ 4 56 549 48 [(3, .int (nI (3 + 9 * (t + 1)))), (2, .ref m), (1, .ref o), (0, .ref b)] [] (wA (WM κ.z o sa la e d e1 e2 e3 l0 l1 l2 l3 dr sf nS fs fl nw ls cnt hl hh nu lo hi st sin sta tt er vl vh sb (if st = true then tb + 1 else 16) gG gE gU sg) (WT κ.z m aK aP aQ aT aW aO aM aL aH aI aS aR aX aF aY aJ aG aE aU nS dr sf nw tA tL tl tg st sb tb vl vh tt er sin sta gK gP gQ gT gW gO gM gL gH gI gS gR gX gF gY gN gG gE gU))) : V κ 4 56 549 659 [(3, .int (nI (3 + 9 * t))), (2, .ref m), (1, .ref o), (0, .ref b)] [] (wA (WM κ.z o sa la e d e1 e2 e3 l0 l1 l2 l3 dr sf nS fs fl nw ls cnt hl hh nu lo hi st sin sta tt er vl vh sb (if st = true then tb + 1 else 16) gG gE gU sg) (WT κ.z m aK aP aQ aT aW aO aM aL aH aI aS aR aX aF aY aJ aG aE aU nS dr sf nw tA tL tl tg st sb tb vl vh tt er sin sta gK gP gQ gT gW gO gM gL gH gI gS gR gX gF gY gN gG gE gU)) := by
  have hn6 := h.1.2
  have hn1 := h.1.1
  rcases srv_cases (xs (3 + 9 * t + 1)) hn6 with ⟨i, hj, hx⟩ | hb
  · skip
    show V κ 4 56 549 659 [(3, .int (nI (3 + 9 * t))), (2, .ref m), (1, .ref o), (0, .ref b)] [] (wA (WM κ.z o sa la e d e1 e2 e3 l0 l1 l2 l3 dr sf nS fs fl nw ls cnt hl hh nu lo hi st sin sta tt er vl vh sb (if st = true then tb + 1 else 16) gG gE gU sg) (WT κ.z m aK aP aQ aT aW aO aM aL aH aI aS aR aX aF aY aJ aG aE aU nS dr sf nw tA tL tl tg st sb tb vl vh tt er sin sta gK gP gQ gT gW gO gM gL gH gI gS gR gX gF gY gN gG gE gU))
    refine v_aload_n X 2 d_L_law_659 rfl ?_
    refine v_aload_n X 3 d_L_law_660 rfl ?_
    refine v_iload_n X 0 d_L_law_661 rfl ?_
    refine v_iconst X 1 d_L_law_662 (by decide) ?_
    refine v_iaddN X (a := (3 + 9 * t)) (b := 1) d_L_law_663 ?_
    refine v_sldE X hS (j := ((3 + 9 * t) + 1)) (x := nI i) (by omega) (by omega) hx d_L_law_664 ?_
    refine v_callV X (b := o) (k := 56) (n := 549) (n9 := 1) (As := [.int (nI i)]) (rest := []) (wc := WM κ.z o sa la e d e1 e2 e3 l0 l1 l2 l3 dr sf nS fs fl nw ls cnt hl hh nu lo hi st sin sta tt er vl vh sb (if st = true then tb + 1 else 16) gG gE gU sg) (wr := WT κ.z m aK aP aQ aT aW aO aM aL aH aI aS aR aX aF aY aJ aG aE aU nS dr sf nw tA tL tl tg st sb tb vl vh tt er sin sta gK gP gQ gT gW gO gM gL gH gI gS gR gX gF gY gN gG gE gU) (u_M_highG κ.l κ.D κ.z o sa la e d e1 e2 e3 l0 l1 l2 l3 dr sf nS fs fl nw ls cnt hl hh nu lo hi st sin sta tt er vl vh sb (if st = true then tb + 1 else 16) gG gE gU sg i hj hn6 (h.2.2.1 i hj) (h.2.2.2.2.2.2.2.1 i hj).1) 0 rfl rfl m259 m260 m261 m30 (by decide +kernel) rfl (Nat.le_of_ble_eq_true rfl) ⟨by decide, by decide⟩ ⟨by decide, by decide⟩ rfl rfl m262 d_L_law_665 (fun v w1 hg => ?_)
    obtain ⟨rfl, rfl⟩ := hg
    show V κ 4 56 549 668 [(3, .int (nI (3 + 9 * t))), (2, .ref m), (1, .ref o), (0, .ref b)] [.long (f_M_highG dr nw (s_rt (sg i)) (s_sm (sg i)) (s_lo (sg i)) (s_hi (sg i)) (s_ti (sg i)))] (wA (WM κ.z o sa la e d e1 e2 e3 l0 l1 l2 l3 dr sf nS fs fl nw ls cnt hl hh nu lo hi st sin sta tt er vl vh sb (if st = true then tb + 1 else 16) gG gE gU sg) (WT κ.z m aK aP aQ aT aW aO aM aL aH aI aS aR aX aF aY aJ aG aE aU nS dr sf nw tA tL tl tg st sb tb vl vh tt er sin sta gK gP gQ gT gW gO gM gL gH gI gS gR gX gF gY gN gG gE gU))
    refine v_aload_n X 1 d_L_law_668 rfl ?_
    refine v_aload_n X 3 d_L_law_669 rfl ?_
    refine v_iload_n X 0 d_L_law_670 rfl ?_
    refine v_iconst X 1 d_L_law_671 (by decide) ?_
    refine v_iaddN X (a := (3 + 9 * t)) (b := 1) d_L_law_672 ?_
    refine v_sldE X hS (j := ((3 + 9 * t) + 1)) (x := nI i) (by omega) (by omega) hx d_L_law_673 ?_
    refine v_perm List.perm_append_comm ?_
    refine v_callV X (b := m) (k := 56) (n := 549) (n9 := 1) (As := [.int (nI i)]) (rest := [.long (f_M_highG dr nw (s_rt (sg i)) (s_sm (sg i)) (s_lo (sg i)) (s_hi (sg i)) (s_ti (sg i)))]) (wc := WT κ.z m aK aP aQ aT aW aO aM aL aH aI aS aR aX aF aY aJ aG aE aU nS dr sf nw tA tL tl tg st sb tb vl vh tt er sin sta gK gP gQ gT gW gO gM gL gH gI gS gR gX gF gY gN gG gE gU) (wr := WM κ.z o sa la e d e1 e2 e3 l0 l1 l2 l3 dr sf nS fs fl nw ls cnt hl hh nu lo hi st sin sta tt er vl vh sb (if st = true then tb + 1 else 16) gG gE gU sg) (u_T_highG κ.l κ.D κ.z m aK aP aQ aT aW aO aM aL aH aI aS aR aX aF aY aJ aG aE aU nS dr sf nw tA tL tl tg st sb tb vl vh tt er sin sta gK gP gQ gT gW gO gM gL gH gI gS gR gX gF gY gN gG gE gU i hn6 hj (h.2.2.2.2.2.2.2.2.1 i (by omega))) 0 rfl rfl m556 m557 m558 m36 (by decide +kernel) rfl (Nat.le_of_ble_eq_true rfl) ⟨by decide, by decide⟩ ⟨by decide, by decide⟩ rfl rfl m559 d_L_law_674 (fun v w1 hg => ?_)
    obtain ⟨rfl, rfl⟩ := hg
    refine v_perm List.perm_append_comm ?_
    show V κ 4 56 549 677 [(3, .int (nI (3 + 9 * t))), (2, .ref m), (1, .ref o), (0, .ref b)] [.long (f_T_highG dr nw gM gL gH gI gX gF gY i), .long (f_M_highG dr nw (s_rt (sg i)) (s_sm (sg i)) (s_lo (sg i)) (s_hi (sg i)) (s_ti (sg i)))] (wA (WM κ.z o sa la e d e1 e2 e3 l0 l1 l2 l3 dr sf nS fs fl nw ls cnt hl hh nu lo hi st sin sta tt er vl vh sb (if st = true then tb + 1 else 16) gG gE gU sg) (WT κ.z m aK aP aQ aT aW aO aM aL aH aI aS aR aX aF aY aJ aG aE aU nS dr sf nw tA tL tl tg st sb tb vl vh tt er sin sta gK gP gQ gT gW gO gM gL gH gI gS gR gX (f_T_highG_r6 dr nw gM gL gH gI gX gF gY i) (f_T_highG_r7 dr nw gM gL gH gI gX gF gY i) gN gG gE gU))
    show V κ 4 56 549 677 [(3, .int (nI (3 + 9 * t))), (2, .ref m), (1, .ref o), (0, .ref b)] [.long (f_T_highG dr nw gM gL gH gI gX gF gY i), .long (f_M_highG dr nw (s_rt (sg i)) (s_sm (sg i)) (s_lo (sg i)) (s_hi (sg i)) (s_ti (sg i)))] (wA (WM κ.z o sa la e d e1 e2 e3 l0 l1 l2 l3 dr sf nS fs fl nw ls cnt hl hh nu lo hi st sin sta tt er vl vh sb (if st = true then tb + 1 else 16) gG gE gU sg) (WT κ.z m aK aP aQ aT aW aO aM aL aH aI aS aR aX aF aY aJ aG aE aU nS dr sf nw tA tL tl tg st sb tb vl vh tt er sin sta gK gP gQ gT gW gO gM gL gH gI gS gR gX (f_T_highG_r6 dr nw gM gL gH gI gX gF gY i) (f_T_highG_r7 dr nw gM gL gH gI gX gF gY i) gN gG gE gU))
    refine v_lcmp_eq X 996 d_L_law_677 d_L_law_678 (by decide) (fun c677 => ?_) (fun c677 => absurd (low_eq h (by omega) hj _ _).2 c677)
    refine v_iinc X 0 d_L_law_996 (x := nI (3 + 9 * t)) rfl (v := nI ((3 + 9 * t) + 9)) (nI_add _ _) (by decide) (lv' := [(3, .int (nI ((3 + 9 * t) + 9))), (2, .ref m), (1, .ref o), (0, .ref b)]) rfl ?_
    refine v_goto X 48 d_L_law_999 (by decide) ?_
    exact v_eq rfl (by first | rfl | (rw [show 3 + 9 * t + 9 = 3 + 9 * (t + 1) by omega])) rfl (by rfl) (ih nw ls cnt hl hh nu lo hi st sin sta tt er vl vh sb tb sg tA tL tl tg gK gP gQ gT gW gO gM gL gH gI gS gR gX (f_T_highG_r6 dr nw gM gL gH gI gX gF gY i) (f_T_highG_r7 dr nw gM gL gH gI gX gF gY i) gN gG gE gU (Inv_next h))
  · skip
    show V κ 4 56 549 659 [(3, .int (nI (3 + 9 * t))), (2, .ref m), (1, .ref o), (0, .ref b)] [] (wA (WM κ.z o sa la e d e1 e2 e3 l0 l1 l2 l3 dr sf nS fs fl nw ls cnt hl hh nu lo hi st sin sta tt er vl vh sb (if st = true then tb + 1 else 16) gG gE gU sg) (WT κ.z m aK aP aQ aT aW aO aM aL aH aI aS aR aX aF aY aJ aG aE aU nS dr sf nw tA tL tl tg st sb tb vl vh tt er sin sta gK gP gQ gT gW gO gM gL gH gI gS gR gX gF gY gN gG gE gU))
    refine v_aload_n X 2 d_L_law_659 rfl ?_
    refine v_aload_n X 3 d_L_law_660 rfl ?_
    refine v_iload_n X 0 d_L_law_661 rfl ?_
    refine v_iconst X 1 d_L_law_662 (by decide) ?_
    refine v_iaddN X (a := (3 + 9 * t)) (b := 1) d_L_law_663 ?_
    refine v_sld X hS (j := ((3 + 9 * t) + 1)) (by omega) (by omega) d_L_law_664 ?_
    refine v_callV X (b := o) (k := 56) (n := 549) (n9 := 1) (As := [.int (xs ((3 + 9 * t) + 1))]) (rest := []) (wc := WM κ.z o sa la e d e1 e2 e3 l0 l1 l2 l3 dr sf nS fs fl nw ls cnt hl hh nu lo hi st sin sta tt er vl vh sb (if st = true then tb + 1 else 16) gG gE gU sg) (wr := WT κ.z m aK aP aQ aT aW aO aM aL aH aI aS aR aX aF aY aJ aG aE aU nS dr sf nw tA tL tl tg st sb tb vl vh tt er sin sta gK gP gQ gT gW gO gM gL gH gI gS gR gX gF gY gN gG gE gU) (u_M_highB κ.l κ.D κ.z o sa la e d e1 e2 e3 l0 l1 l2 l3 dr sf nS fs fl nw ls cnt hl hh nu lo hi st sin sta tt er vl vh sb (if st = true then tb + 1 else 16) gG gE gU sg (xs ((3 + 9 * t) + 1)) hb) 0 rfl rfl m259 m260 m261 m30 (by decide +kernel) rfl (Nat.le_of_ble_eq_true rfl) ⟨by decide, by decide⟩ ⟨by decide, by decide⟩ rfl rfl m262 d_L_law_665 (fun v w1 hg => ?_)
    obtain ⟨rfl, rfl⟩ := hg
    show V κ 4 56 549 668 [(3, .int (nI (3 + 9 * t))), (2, .ref m), (1, .ref o), (0, .ref b)] [.long (-4611686018427387904)] (wA (WM κ.z o sa la e d e1 e2 e3 l0 l1 l2 l3 dr sf nS fs fl nw ls cnt hl hh nu lo hi st sin sta tt er vl vh sb (if st = true then tb + 1 else 16) gG gE gU sg) (WT κ.z m aK aP aQ aT aW aO aM aL aH aI aS aR aX aF aY aJ aG aE aU nS dr sf nw tA tL tl tg st sb tb vl vh tt er sin sta gK gP gQ gT gW gO gM gL gH gI gS gR gX gF gY gN gG gE gU))
    refine v_aload_n X 1 d_L_law_668 rfl ?_
    refine v_aload_n X 3 d_L_law_669 rfl ?_
    refine v_iload_n X 0 d_L_law_670 rfl ?_
    refine v_iconst X 1 d_L_law_671 (by decide) ?_
    refine v_iaddN X (a := (3 + 9 * t)) (b := 1) d_L_law_672 ?_
    refine v_sld X hS (j := ((3 + 9 * t) + 1)) (by omega) (by omega) d_L_law_673 ?_
    refine v_perm List.perm_append_comm ?_
    refine v_callV X (b := m) (k := 56) (n := 549) (n9 := 1) (As := [.int (xs ((3 + 9 * t) + 1))]) (rest := [.long (-4611686018427387904)]) (wc := WT κ.z m aK aP aQ aT aW aO aM aL aH aI aS aR aX aF aY aJ aG aE aU nS dr sf nw tA tL tl tg st sb tb vl vh tt er sin sta gK gP gQ gT gW gO gM gL gH gI gS gR gX gF gY gN gG gE gU) (wr := WM κ.z o sa la e d e1 e2 e3 l0 l1 l2 l3 dr sf nS fs fl nw ls cnt hl hh nu lo hi st sin sta tt er vl vh sb (if st = true then tb + 1 else 16) gG gE gU sg) (u_T_highB κ.l κ.D κ.z m aK aP aQ aT aW aO aM aL aH aI aS aR aX aF aY aJ aG aE aU nS dr sf nw tA tL tl tg st sb tb vl vh tt er sin sta gK gP gQ gT gW gO gM gL gH gI gS gR gX gF gY gN gG gE gU (xs ((3 + 9 * t) + 1)) hb) 0 rfl rfl m556 m557 m558 m36 (by decide +kernel) rfl (Nat.le_of_ble_eq_true rfl) ⟨by decide, by decide⟩ ⟨by decide, by decide⟩ rfl rfl m559 d_L_law_674 (fun v w1 hg => ?_)
    obtain ⟨rfl, rfl⟩ := hg
    refine v_perm List.perm_append_comm ?_
    show V κ 4 56 549 677 [(3, .int (nI (3 + 9 * t))), (2, .ref m), (1, .ref o), (0, .ref b)] [.long (-4611686018427387904), .long (-4611686018427387904)] (wA (WM κ.z o sa la e d e1 e2 e3 l0 l1 l2 l3 dr sf nS fs fl nw ls cnt hl hh nu lo hi st sin sta tt er vl vh sb (if st = true then tb + 1 else 16) gG gE gU sg) (WT κ.z m aK aP aQ aT aW aO aM aL aH aI aS aR aX aF aY aJ aG aE aU nS dr sf nw tA tL tl tg st sb tb vl vh tt er sin sta gK gP gQ gT gW gO gM gL gH gI gS gR gX gF gY gN gG gE gU))
    show V κ 4 56 549 677 [(3, .int (nI (3 + 9 * t))), (2, .ref m), (1, .ref o), (0, .ref b)] [.long (-4611686018427387904), .long (-4611686018427387904)] (wA (WM κ.z o sa la e d e1 e2 e3 l0 l1 l2 l3 dr sf nS fs fl nw ls cnt hl hh nu lo hi st sin sta tt er vl vh sb (if st = true then tb + 1 else 16) gG gE gU sg) (WT κ.z m aK aP aQ aT aW aO aM aL aH aI aS aR aX aF aY aJ aG aE aU nS dr sf nw tA tL tl tg st sb tb vl vh tt er sin sta gK gP gQ gT gW gO gM gL gH gI gS gR gX gF gY gN gG gE gU))
    refine v_lcmp_eq X 996 d_L_law_677 d_L_law_678 (by decide) (fun c677 => ?_) (fun c677 => absurd rfl c677)
    refine v_iinc X 0 d_L_law_996 (x := nI (3 + 9 * t)) rfl (v := nI ((3 + 9 * t) + 9)) (nI_add _ _) (by decide) (lv' := [(3, .int (nI ((3 + 9 * t) + 9))), (2, .ref m), (1, .ref o), (0, .ref b)]) rfl ?_
    refine v_goto X 48 d_L_law_999 (by decide) ?_
    exact v_eq rfl (by first | rfl | (rw [show 3 + 9 * t + 9 = 3 + 9 * (t + 1) by omega])) rfl (by rfl) (ih nw ls cnt hl hh nu lo hi st sin sta tt er vl vh sb tb sg tA tL tl tg gK gP gQ gT gW gO gM gL gH gI gS gR gX gF gY gN gG gE gU (Inv_next h))

set_option maxHeartbeats 4000000 in
set_option maxRecDepth 100000 in
theorem lc_17 {κ : VC} (X : Cx κ code R_L room_1 4) (b : Nat) (o : Nat) (sa : Nat) (la : Nat) (e : Nat) (d : Nat) (e1 : Nat) (e2 : Nat) (e3 : Nat) (l0 : Nat) (l1 : Nat) (l2 : Nat) (l3 : Nat) (dr : Int32) (sf : Int32) (nS : Nat) (fs : Nat → Option Nat) (fl : Nat → Option Nat) (m : Nat) (aK : Nat) (aP : Nat) (aQ : Nat) (aT : Nat) (aW : Nat) (aO : Nat) (aM : Nat) (aL : Nat) (aH : Nat) (aI : Nat) (aS : Nat) (aR : Nat) (aX : Nat) (aF : Nat) (aY : Nat) (aJ : Nat) (aG : Nat) (aE : Nat) (aU : Nat) (L : Nat) (xs : Nat → Int32) (hS : Scr κ b L xs) (hL : L ≤ 4611) (hfl : fl 0 = some l0 ∧ fl 1 = some l1 ∧ fl 2 = some l2 ∧ fl 3 = some l3) (t : Nat) (ht : 12 + 9 * t ≤ L) (nw : Int64) (ls : Int64) (cnt : Nat) (hl : Int64) (hh : Int64) (nu : Nat → Nat) (lo : Nat → Int64) (hi : Nat → Int64) (st : Bool) (sin : Int64) (sta : Int64) (tt : Int64) (er : Int64) (vl : Int64) (vh : Int64) (sb : Int32) (tb : Int32) (sg : Nat → SvS) (tA : Bool) (tL : Int64) (tl : Int64) (tg : Int64) (gK : Nat → Int64) (gP : Nat → Bool) (gQ : Nat → Int64) (gT : Nat → Int64) (gW : Nat → Bool) (gO : Nat → Int64) (gM : Nat → Nat) (gL : Nat → Int64) (gH : Nat → Int64) (gI : Nat → Int64) (gS : Nat → Int32) (gR : Nat → Int32) (gX : Nat → Int32) (gF : Nat → Int64) (gY : Nat → Int64) (gN : Nat → Bool) (gG : Nat → Bool) (gE : Nat → Int32) (gU : Nat → Int64) (h : Inv t nS dr fs nw ls nu sin sta tt sg tA tL gK gQ gT gO gL gH gI gP gW gM gS gR gX) (ih : ∀ (nw : Int64) (ls : Int64) (cnt : Nat) (hl : Int64) (hh : Int64) (nu : Nat → Nat) (lo : Nat → Int64) (hi : Nat → Int64) (st : Bool) (sin : Int64) (sta : Int64) (tt : Int64) (er : Int64) (vl : Int64) (vh : Int64) (sb : Int32) (tb : Int32) (sg : Nat → SvS) (tA : Bool) (tL : Int64) (tl : Int64) (tg : Int64) (gK : Nat → Int64) (gP : Nat → Bool) (gQ : Nat → Int64) (gT : Nat → Int64) (gW : Nat → Bool) (gO : Nat → Int64) (gM : Nat → Nat) (gL : Nat → Int64) (gH : Nat → Int64) (gI : Nat → Int64) (gS : Nat → Int32) (gR : Nat → Int32) (gX : Nat → Int32) (gF : Nat → Int64) (gY : Nat → Int64) (gN : Nat → Bool) (gG : Nat → Bool) (gE : Nat → Int32) (gU : Nat → Int64), Inv (t + 1) nS dr fs nw ls nu sin sta tt sg tA tL gK gQ gT gO gL gH gI gP gW gM gS gR gX → V κ 4 56 549 48 [(3, .int (nI (3 + 9 * (t + 1)))), (2, .ref m), (1, .ref o), (0, .ref b)] [] (wA (WM κ.z o sa la e d e1 e2 e3 l0 l1 l2 l3 dr sf nS fs fl nw ls cnt hl hh nu lo hi st sin sta tt er vl vh sb (if st = true then tb + 1 else 16) gG gE gU sg) (WT κ.z m aK aP aQ aT aW aO aM aL aH aI aS aR aX aF aY aJ aG aE aU nS dr sf nw tA tL tl tg st sb tb vl vh tt er sin sta gK gP gQ gT gW gO gM gL gH gI gS gR gX gF gY gN gG gE gU))) : V κ 4 56 549 949 [(3, .int (nI (3 + 9 * t))), (2, .ref m), (1, .ref o), (0, .ref b)] [] (wA (WM κ.z o sa la e d e1 e2 e3 l0 l1 l2 l3 dr sf nS fs fl nw ls cnt hl hh nu lo hi st sin sta tt er vl vh sb (if st = true then tb + 1 else 16) gG gE gU sg) (WT κ.z m aK aP aQ aT aW aO aM aL aH aI aS aR aX aF aY aJ aG aE aU nS dr sf nw tA tL tl tg st sb tb vl vh tt er sin sta gK gP gQ gT gW gO gM gL gH gI gS gR gX gF gY gN gG gE gU)) := by
  have hn6 := h.1.2
  have hn1 := h.1.1
  rcases srv_cases (n := 4) (xs (3 + 9 * t + 1)) (by decide) with ⟨i, hj, hx⟩ | hb
  · rcases (show i = 0 ∨ i = 1 ∨ i = 2 ∨ i = 3 by omega) with rfl | rfl | rfl | rfl
    · skip
      show V κ 4 56 549 949 [(3, .int (nI (3 + 9 * t))), (2, .ref m), (1, .ref o), (0, .ref b)] [] (wA (WM κ.z o sa la e d e1 e2 e3 l0 l1 l2 l3 dr sf nS fs fl nw ls cnt hl hh nu lo hi st sin sta tt er vl vh sb (if st = true then tb + 1 else 16) gG gE gU sg) (WT κ.z m aK aP aQ aT aW aO aM aL aH aI aS aR aX aF aY aJ aG aE aU nS dr sf nw tA tL tl tg st sb tb vl vh tt er sin sta gK gP gQ gT gW gO gM gL gH gI gS gR gX gF gY gN gG gE gU))
      refine v_aload_n X 2 d_L_law_949 rfl ?_
      refine v_aload_n X 3 d_L_law_950 rfl ?_
      refine v_iload_n X 0 d_L_law_951 rfl ?_
      refine v_iconst X 1 d_L_law_952 (by decide) ?_
      refine v_iaddN X (a := (3 + 9 * t)) (b := 1) d_L_law_953 ?_
      refine v_sldE X hS (j := ((3 + 9 * t) + 1)) (x := nI 0) (by omega) (by omega) hx d_L_law_954 ?_
      refine v_callV X (b := o) (k := 56) (n := 549) (n9 := 1) (As := [.int (nI 0)]) (rest := []) (wc := WM κ.z o sa la e d e1 e2 e3 l0 l1 l2 l3 dr sf nS fs fl nw ls cnt hl hh nu lo hi st sin sta tt er vl vh sb (if st = true then tb + 1 else 16) gG gE gU sg) (wr := WT κ.z m aK aP aQ aT aW aO aM aL aH aI aS aR aX aF aY aJ aG aE aU nS dr sf nw tA tL tl tg st sb tb vl vh tt er sin sta gK gP gQ gT gW gO gM gL gH gI gS gR gX gF gY gN gG gE gU) (u_M_expiryG0 κ.l κ.D κ.z o sa la e d e1 e2 e3 l0 l1 l2 l3 dr sf nS fs fl nw ls cnt hl hh nu lo hi st sin sta tt er vl vh sb (if st = true then tb + 1 else 16) gG gE gU sg  (by decide) hfl.1) 0 rfl rfl m407 m408 m409 m30 (by decide +kernel) rfl (Nat.le_of_ble_eq_true rfl) ⟨by decide, by decide⟩ ⟨by decide, by decide⟩ rfl rfl m410 d_L_law_955 (fun v w1 hg => ?_)
      obtain ⟨rfl, rfl⟩ := hg
      show V κ 4 56 549 958 [(3, .int (nI (3 + 9 * t))), (2, .ref m), (1, .ref o), (0, .ref b)] [.long (f_M_expiryG (gG 0) (gU 0))] (wA (WM κ.z o sa la e d e1 e2 e3 l0 l1 l2 l3 dr sf nS fs fl nw ls cnt hl hh nu lo hi st sin sta tt er vl vh sb (if st = true then tb + 1 else 16) gG gE gU sg) (WT κ.z m aK aP aQ aT aW aO aM aL aH aI aS aR aX aF aY aJ aG aE aU nS dr sf nw tA tL tl tg st sb tb vl vh tt er sin sta gK gP gQ gT gW gO gM gL gH gI gS gR gX gF gY gN gG gE gU))
      refine v_aload_n X 1 d_L_law_958 rfl ?_
      refine v_aload_n X 3 d_L_law_959 rfl ?_
      refine v_iload_n X 0 d_L_law_960 rfl ?_
      refine v_iconst X 1 d_L_law_961 (by decide) ?_
      refine v_iaddN X (a := (3 + 9 * t)) (b := 1) d_L_law_962 ?_
      refine v_sldE X hS (j := ((3 + 9 * t) + 1)) (x := nI 0) (by omega) (by omega) hx d_L_law_963 ?_
      refine v_perm List.perm_append_comm ?_
      refine v_callV X (b := m) (k := 56) (n := 549) (n9 := 1) (As := [.int (nI 0)]) (rest := [.long (f_M_expiryG (gG 0) (gU 0))]) (wc := WT κ.z m aK aP aQ aT aW aO aM aL aH aI aS aR aX aF aY aJ aG aE aU nS dr sf nw tA tL tl tg st sb tb vl vh tt er sin sta gK gP gQ gT gW gO gM gL gH gI gS gR gX gF gY gN gG gE gU) (wr := WM κ.z o sa la e d e1 e2 e3 l0 l1 l2 l3 dr sf nS fs fl nw ls cnt hl hh nu lo hi st sin sta tt er vl vh sb (if st = true then tb + 1 else 16) gG gE gU sg) (u_T_expiryG κ.l κ.D κ.z m aK aP aQ aT aW aO aM aL aH aI aS aR aX aF aY aJ aG aE aU nS dr sf nw tA tL tl tg st sb tb vl vh tt er sin sta gK gP gQ gT gW gO gM gL gH gI gS gR gX gF gY gN gG gE gU 0 (by decide)) 0 rfl rfl m632 m633 m634 m36 (by decide +kernel) rfl (Nat.le_of_ble_eq_true rfl) ⟨by decide, by decide⟩ ⟨by decide, by decide⟩ rfl rfl m635 d_L_law_964 (fun v w1 hg => ?_)
      obtain ⟨rfl, rfl⟩ := hg
      refine v_perm List.perm_append_comm ?_
      show V κ 4 56 549 967 [(3, .int (nI (3 + 9 * t))), (2, .ref m), (1, .ref o), (0, .ref b)] [.long (f_T_expiryG gG gU 0), .long (f_M_expiryG (gG 0) (gU 0))] (wA (WM κ.z o sa la e d e1 e2 e3 l0 l1 l2 l3 dr sf nS fs fl nw ls cnt hl hh nu lo hi st sin sta tt er vl vh sb (if st = true then tb + 1 else 16) gG gE gU sg) (WT κ.z m aK aP aQ aT aW aO aM aL aH aI aS aR aX aF aY aJ aG aE aU nS dr sf nw tA tL tl tg st sb tb vl vh tt er sin sta gK gP gQ gT gW gO gM gL gH gI gS gR gX gF gY gN gG gE gU))
      show V κ 4 56 549 967 [(3, .int (nI (3 + 9 * t))), (2, .ref m), (1, .ref o), (0, .ref b)] [.long (f_T_expiryG gG gU 0), .long (f_M_expiryG (gG 0) (gU 0))] (wA (WM κ.z o sa la e d e1 e2 e3 l0 l1 l2 l3 dr sf nS fs fl nw ls cnt hl hh nu lo hi st sin sta tt er vl vh sb (if st = true then tb + 1 else 16) gG gE gU sg) (WT κ.z m aK aP aQ aT aW aO aM aL aH aI aS aR aX aF aY aJ aG aE aU nS dr sf nw tA tL tl tg st sb tb vl vh tt er sin sta gK gP gQ gT gW gO gM gL gH gI gS gR gX gF gY gN gG gE gU))
      refine v_lcmp_eq X 996 d_L_law_967 d_L_law_968 (by decide) (fun c967 => ?_) (fun c967 => absurd rfl c967)
      refine v_iinc X 0 d_L_law_996 (x := nI (3 + 9 * t)) rfl (v := nI ((3 + 9 * t) + 9)) (nI_add _ _) (by decide) (lv' := [(3, .int (nI ((3 + 9 * t) + 9))), (2, .ref m), (1, .ref o), (0, .ref b)]) rfl ?_
      refine v_goto X 48 d_L_law_999 (by decide) ?_
      exact v_eq rfl (by first | rfl | (rw [show 3 + 9 * t + 9 = 3 + 9 * (t + 1) by omega])) rfl (by rfl) (ih nw ls cnt hl hh nu lo hi st sin sta tt er vl vh sb tb sg tA tL tl tg gK gP gQ gT gW gO gM gL gH gI gS gR gX gF gY gN gG gE gU (Inv_next h))
    · skip
      show V κ 4 56 549 949 [(3, .int (nI (3 + 9 * t))), (2, .ref m), (1, .ref o), (0, .ref b)] [] (wA (WM κ.z o sa la e d e1 e2 e3 l0 l1 l2 l3 dr sf nS fs fl nw ls cnt hl hh nu lo hi st sin sta tt er vl vh sb (if st = true then tb + 1 else 16) gG gE gU sg) (WT κ.z m aK aP aQ aT aW aO aM aL aH aI aS aR aX aF aY aJ aG aE aU nS dr sf nw tA tL tl tg st sb tb vl vh tt er sin sta gK gP gQ gT gW gO gM gL gH gI gS gR gX gF gY gN gG gE gU))
      refine v_aload_n X 2 d_L_law_949 rfl ?_
      refine v_aload_n X 3 d_L_law_950 rfl ?_
      refine v_iload_n X 0 d_L_law_951 rfl ?_
      refine v_iconst X 1 d_L_law_952 (by decide) ?_
      refine v_iaddN X (a := (3 + 9 * t)) (b := 1) d_L_law_953 ?_
      refine v_sldE X hS (j := ((3 + 9 * t) + 1)) (x := nI 1) (by omega) (by omega) hx d_L_law_954 ?_
      refine v_callV X (b := o) (k := 56) (n := 549) (n9 := 1) (As := [.int (nI 1)]) (rest := []) (wc := WM κ.z o sa la e d e1 e2 e3 l0 l1 l2 l3 dr sf nS fs fl nw ls cnt hl hh nu lo hi st sin sta tt er vl vh sb (if st = true then tb + 1 else 16) gG gE gU sg) (wr := WT κ.z m aK aP aQ aT aW aO aM aL aH aI aS aR aX aF aY aJ aG aE aU nS dr sf nw tA tL tl tg st sb tb vl vh tt er sin sta gK gP gQ gT gW gO gM gL gH gI gS gR gX gF gY gN gG gE gU) (u_M_expiryG1 κ.l κ.D κ.z o sa la e d e1 e2 e3 l0 l1 l2 l3 dr sf nS fs fl nw ls cnt hl hh nu lo hi st sin sta tt er vl vh sb (if st = true then tb + 1 else 16) gG gE gU sg  (by decide) hfl.2.1) 0 rfl rfl m407 m408 m409 m30 (by decide +kernel) rfl (Nat.le_of_ble_eq_true rfl) ⟨by decide, by decide⟩ ⟨by decide, by decide⟩ rfl rfl m410 d_L_law_955 (fun v w1 hg => ?_)
      obtain ⟨rfl, rfl⟩ := hg
      show V κ 4 56 549 958 [(3, .int (nI (3 + 9 * t))), (2, .ref m), (1, .ref o), (0, .ref b)] [.long (f_M_expiryG (gG 1) (gU 1))] (wA (WM κ.z o sa la e d e1 e2 e3 l0 l1 l2 l3 dr sf nS fs fl nw ls cnt hl hh nu lo hi st sin sta tt er vl vh sb (if st = true then tb + 1 else 16) gG gE gU sg) (WT κ.z m aK aP aQ aT aW aO aM aL aH aI aS aR aX aF aY aJ aG aE aU nS dr sf nw tA tL tl tg st sb tb vl vh tt er sin sta gK gP gQ gT gW gO gM gL gH gI gS gR gX gF gY gN gG gE gU))
      refine v_aload_n X 1 d_L_law_958 rfl ?_
      refine v_aload_n X 3 d_L_law_959 rfl ?_
      refine v_iload_n X 0 d_L_law_960 rfl ?_
      refine v_iconst X 1 d_L_law_961 (by decide) ?_
      refine v_iaddN X (a := (3 + 9 * t)) (b := 1) d_L_law_962 ?_
      refine v_sldE X hS (j := ((3 + 9 * t) + 1)) (x := nI 1) (by omega) (by omega) hx d_L_law_963 ?_
      refine v_perm List.perm_append_comm ?_
      refine v_callV X (b := m) (k := 56) (n := 549) (n9 := 1) (As := [.int (nI 1)]) (rest := [.long (f_M_expiryG (gG 1) (gU 1))]) (wc := WT κ.z m aK aP aQ aT aW aO aM aL aH aI aS aR aX aF aY aJ aG aE aU nS dr sf nw tA tL tl tg st sb tb vl vh tt er sin sta gK gP gQ gT gW gO gM gL gH gI gS gR gX gF gY gN gG gE gU) (wr := WM κ.z o sa la e d e1 e2 e3 l0 l1 l2 l3 dr sf nS fs fl nw ls cnt hl hh nu lo hi st sin sta tt er vl vh sb (if st = true then tb + 1 else 16) gG gE gU sg) (u_T_expiryG κ.l κ.D κ.z m aK aP aQ aT aW aO aM aL aH aI aS aR aX aF aY aJ aG aE aU nS dr sf nw tA tL tl tg st sb tb vl vh tt er sin sta gK gP gQ gT gW gO gM gL gH gI gS gR gX gF gY gN gG gE gU 1 (by decide)) 0 rfl rfl m632 m633 m634 m36 (by decide +kernel) rfl (Nat.le_of_ble_eq_true rfl) ⟨by decide, by decide⟩ ⟨by decide, by decide⟩ rfl rfl m635 d_L_law_964 (fun v w1 hg => ?_)
      obtain ⟨rfl, rfl⟩ := hg
      refine v_perm List.perm_append_comm ?_
      show V κ 4 56 549 967 [(3, .int (nI (3 + 9 * t))), (2, .ref m), (1, .ref o), (0, .ref b)] [.long (f_T_expiryG gG gU 1), .long (f_M_expiryG (gG 1) (gU 1))] (wA (WM κ.z o sa la e d e1 e2 e3 l0 l1 l2 l3 dr sf nS fs fl nw ls cnt hl hh nu lo hi st sin sta tt er vl vh sb (if st = true then tb + 1 else 16) gG gE gU sg) (WT κ.z m aK aP aQ aT aW aO aM aL aH aI aS aR aX aF aY aJ aG aE aU nS dr sf nw tA tL tl tg st sb tb vl vh tt er sin sta gK gP gQ gT gW gO gM gL gH gI gS gR gX gF gY gN gG gE gU))
      show V κ 4 56 549 967 [(3, .int (nI (3 + 9 * t))), (2, .ref m), (1, .ref o), (0, .ref b)] [.long (f_T_expiryG gG gU 1), .long (f_M_expiryG (gG 1) (gU 1))] (wA (WM κ.z o sa la e d e1 e2 e3 l0 l1 l2 l3 dr sf nS fs fl nw ls cnt hl hh nu lo hi st sin sta tt er vl vh sb (if st = true then tb + 1 else 16) gG gE gU sg) (WT κ.z m aK aP aQ aT aW aO aM aL aH aI aS aR aX aF aY aJ aG aE aU nS dr sf nw tA tL tl tg st sb tb vl vh tt er sin sta gK gP gQ gT gW gO gM gL gH gI gS gR gX gF gY gN gG gE gU))
      refine v_lcmp_eq X 996 d_L_law_967 d_L_law_968 (by decide) (fun c967 => ?_) (fun c967 => absurd rfl c967)
      refine v_iinc X 0 d_L_law_996 (x := nI (3 + 9 * t)) rfl (v := nI ((3 + 9 * t) + 9)) (nI_add _ _) (by decide) (lv' := [(3, .int (nI ((3 + 9 * t) + 9))), (2, .ref m), (1, .ref o), (0, .ref b)]) rfl ?_
      refine v_goto X 48 d_L_law_999 (by decide) ?_
      exact v_eq rfl (by first | rfl | (rw [show 3 + 9 * t + 9 = 3 + 9 * (t + 1) by omega])) rfl (by rfl) (ih nw ls cnt hl hh nu lo hi st sin sta tt er vl vh sb tb sg tA tL tl tg gK gP gQ gT gW gO gM gL gH gI gS gR gX gF gY gN gG gE gU (Inv_next h))
    · skip
      show V κ 4 56 549 949 [(3, .int (nI (3 + 9 * t))), (2, .ref m), (1, .ref o), (0, .ref b)] [] (wA (WM κ.z o sa la e d e1 e2 e3 l0 l1 l2 l3 dr sf nS fs fl nw ls cnt hl hh nu lo hi st sin sta tt er vl vh sb (if st = true then tb + 1 else 16) gG gE gU sg) (WT κ.z m aK aP aQ aT aW aO aM aL aH aI aS aR aX aF aY aJ aG aE aU nS dr sf nw tA tL tl tg st sb tb vl vh tt er sin sta gK gP gQ gT gW gO gM gL gH gI gS gR gX gF gY gN gG gE gU))
      refine v_aload_n X 2 d_L_law_949 rfl ?_
      refine v_aload_n X 3 d_L_law_950 rfl ?_
      refine v_iload_n X 0 d_L_law_951 rfl ?_
      refine v_iconst X 1 d_L_law_952 (by decide) ?_
      refine v_iaddN X (a := (3 + 9 * t)) (b := 1) d_L_law_953 ?_
      refine v_sldE X hS (j := ((3 + 9 * t) + 1)) (x := nI 2) (by omega) (by omega) hx d_L_law_954 ?_
      refine v_callV X (b := o) (k := 56) (n := 549) (n9 := 1) (As := [.int (nI 2)]) (rest := []) (wc := WM κ.z o sa la e d e1 e2 e3 l0 l1 l2 l3 dr sf nS fs fl nw ls cnt hl hh nu lo hi st sin sta tt er vl vh sb (if st = true then tb + 1 else 16) gG gE gU sg) (wr := WT κ.z m aK aP aQ aT aW aO aM aL aH aI aS aR aX aF aY aJ aG aE aU nS dr sf nw tA tL tl tg st sb tb vl vh tt er sin sta gK gP gQ gT gW gO gM gL gH gI gS gR gX gF gY gN gG gE gU) (u_M_expiryG2 κ.l κ.D κ.z o sa la e d e1 e2 e3 l0 l1 l2 l3 dr sf nS fs fl nw ls cnt hl hh nu lo hi st sin sta tt er vl vh sb (if st = true then tb + 1 else 16) gG gE gU sg  (by decide) hfl.2.2.1) 0 rfl rfl m407 m408 m409 m30 (by decide +kernel) rfl (Nat.le_of_ble_eq_true rfl) ⟨by decide, by decide⟩ ⟨by decide, by decide⟩ rfl rfl m410 d_L_law_955 (fun v w1 hg => ?_)
      obtain ⟨rfl, rfl⟩ := hg
      show V κ 4 56 549 958 [(3, .int (nI (3 + 9 * t))), (2, .ref m), (1, .ref o), (0, .ref b)] [.long (f_M_expiryG (gG 2) (gU 2))] (wA (WM κ.z o sa la e d e1 e2 e3 l0 l1 l2 l3 dr sf nS fs fl nw ls cnt hl hh nu lo hi st sin sta tt er vl vh sb (if st = true then tb + 1 else 16) gG gE gU sg) (WT κ.z m aK aP aQ aT aW aO aM aL aH aI aS aR aX aF aY aJ aG aE aU nS dr sf nw tA tL tl tg st sb tb vl vh tt er sin sta gK gP gQ gT gW gO gM gL gH gI gS gR gX gF gY gN gG gE gU))
      refine v_aload_n X 1 d_L_law_958 rfl ?_
      refine v_aload_n X 3 d_L_law_959 rfl ?_
      refine v_iload_n X 0 d_L_law_960 rfl ?_
      refine v_iconst X 1 d_L_law_961 (by decide) ?_
      refine v_iaddN X (a := (3 + 9 * t)) (b := 1) d_L_law_962 ?_
      refine v_sldE X hS (j := ((3 + 9 * t) + 1)) (x := nI 2) (by omega) (by omega) hx d_L_law_963 ?_
      refine v_perm List.perm_append_comm ?_
      refine v_callV X (b := m) (k := 56) (n := 549) (n9 := 1) (As := [.int (nI 2)]) (rest := [.long (f_M_expiryG (gG 2) (gU 2))]) (wc := WT κ.z m aK aP aQ aT aW aO aM aL aH aI aS aR aX aF aY aJ aG aE aU nS dr sf nw tA tL tl tg st sb tb vl vh tt er sin sta gK gP gQ gT gW gO gM gL gH gI gS gR gX gF gY gN gG gE gU) (wr := WM κ.z o sa la e d e1 e2 e3 l0 l1 l2 l3 dr sf nS fs fl nw ls cnt hl hh nu lo hi st sin sta tt er vl vh sb (if st = true then tb + 1 else 16) gG gE gU sg) (u_T_expiryG κ.l κ.D κ.z m aK aP aQ aT aW aO aM aL aH aI aS aR aX aF aY aJ aG aE aU nS dr sf nw tA tL tl tg st sb tb vl vh tt er sin sta gK gP gQ gT gW gO gM gL gH gI gS gR gX gF gY gN gG gE gU 2 (by decide)) 0 rfl rfl m632 m633 m634 m36 (by decide +kernel) rfl (Nat.le_of_ble_eq_true rfl) ⟨by decide, by decide⟩ ⟨by decide, by decide⟩ rfl rfl m635 d_L_law_964 (fun v w1 hg => ?_)
      obtain ⟨rfl, rfl⟩ := hg
      refine v_perm List.perm_append_comm ?_
      show V κ 4 56 549 967 [(3, .int (nI (3 + 9 * t))), (2, .ref m), (1, .ref o), (0, .ref b)] [.long (f_T_expiryG gG gU 2), .long (f_M_expiryG (gG 2) (gU 2))] (wA (WM κ.z o sa la e d e1 e2 e3 l0 l1 l2 l3 dr sf nS fs fl nw ls cnt hl hh nu lo hi st sin sta tt er vl vh sb (if st = true then tb + 1 else 16) gG gE gU sg) (WT κ.z m aK aP aQ aT aW aO aM aL aH aI aS aR aX aF aY aJ aG aE aU nS dr sf nw tA tL tl tg st sb tb vl vh tt er sin sta gK gP gQ gT gW gO gM gL gH gI gS gR gX gF gY gN gG gE gU))
      show V κ 4 56 549 967 [(3, .int (nI (3 + 9 * t))), (2, .ref m), (1, .ref o), (0, .ref b)] [.long (f_T_expiryG gG gU 2), .long (f_M_expiryG (gG 2) (gU 2))] (wA (WM κ.z o sa la e d e1 e2 e3 l0 l1 l2 l3 dr sf nS fs fl nw ls cnt hl hh nu lo hi st sin sta tt er vl vh sb (if st = true then tb + 1 else 16) gG gE gU sg) (WT κ.z m aK aP aQ aT aW aO aM aL aH aI aS aR aX aF aY aJ aG aE aU nS dr sf nw tA tL tl tg st sb tb vl vh tt er sin sta gK gP gQ gT gW gO gM gL gH gI gS gR gX gF gY gN gG gE gU))
      refine v_lcmp_eq X 996 d_L_law_967 d_L_law_968 (by decide) (fun c967 => ?_) (fun c967 => absurd rfl c967)
      refine v_iinc X 0 d_L_law_996 (x := nI (3 + 9 * t)) rfl (v := nI ((3 + 9 * t) + 9)) (nI_add _ _) (by decide) (lv' := [(3, .int (nI ((3 + 9 * t) + 9))), (2, .ref m), (1, .ref o), (0, .ref b)]) rfl ?_
      refine v_goto X 48 d_L_law_999 (by decide) ?_
      exact v_eq rfl (by first | rfl | (rw [show 3 + 9 * t + 9 = 3 + 9 * (t + 1) by omega])) rfl (by rfl) (ih nw ls cnt hl hh nu lo hi st sin sta tt er vl vh sb tb sg tA tL tl tg gK gP gQ gT gW gO gM gL gH gI gS gR gX gF gY gN gG gE gU (Inv_next h))
    · skip
      show V κ 4 56 549 949 [(3, .int (nI (3 + 9 * t))), (2, .ref m), (1, .ref o), (0, .ref b)] [] (wA (WM κ.z o sa la e d e1 e2 e3 l0 l1 l2 l3 dr sf nS fs fl nw ls cnt hl hh nu lo hi st sin sta tt er vl vh sb (if st = true then tb + 1 else 16) gG gE gU sg) (WT κ.z m aK aP aQ aT aW aO aM aL aH aI aS aR aX aF aY aJ aG aE aU nS dr sf nw tA tL tl tg st sb tb vl vh tt er sin sta gK gP gQ gT gW gO gM gL gH gI gS gR gX gF gY gN gG gE gU))
      refine v_aload_n X 2 d_L_law_949 rfl ?_
      refine v_aload_n X 3 d_L_law_950 rfl ?_
      refine v_iload_n X 0 d_L_law_951 rfl ?_
      refine v_iconst X 1 d_L_law_952 (by decide) ?_
      refine v_iaddN X (a := (3 + 9 * t)) (b := 1) d_L_law_953 ?_
      refine v_sldE X hS (j := ((3 + 9 * t) + 1)) (x := nI 3) (by omega) (by omega) hx d_L_law_954 ?_
      refine v_callV X (b := o) (k := 56) (n := 549) (n9 := 1) (As := [.int (nI 3)]) (rest := []) (wc := WM κ.z o sa la e d e1 e2 e3 l0 l1 l2 l3 dr sf nS fs fl nw ls cnt hl hh nu lo hi st sin sta tt er vl vh sb (if st = true then tb + 1 else 16) gG gE gU sg) (wr := WT κ.z m aK aP aQ aT aW aO aM aL aH aI aS aR aX aF aY aJ aG aE aU nS dr sf nw tA tL tl tg st sb tb vl vh tt er sin sta gK gP gQ gT gW gO gM gL gH gI gS gR gX gF gY gN gG gE gU) (u_M_expiryG3 κ.l κ.D κ.z o sa la e d e1 e2 e3 l0 l1 l2 l3 dr sf nS fs fl nw ls cnt hl hh nu lo hi st sin sta tt er vl vh sb (if st = true then tb + 1 else 16) gG gE gU sg  (by decide) hfl.2.2.2) 0 rfl rfl m407 m408 m409 m30 (by decide +kernel) rfl (Nat.le_of_ble_eq_true rfl) ⟨by decide, by decide⟩ ⟨by decide, by decide⟩ rfl rfl m410 d_L_law_955 (fun v w1 hg => ?_)
      obtain ⟨rfl, rfl⟩ := hg
      show V κ 4 56 549 958 [(3, .int (nI (3 + 9 * t))), (2, .ref m), (1, .ref o), (0, .ref b)] [.long (f_M_expiryG (gG 3) (gU 3))] (wA (WM κ.z o sa la e d e1 e2 e3 l0 l1 l2 l3 dr sf nS fs fl nw ls cnt hl hh nu lo hi st sin sta tt er vl vh sb (if st = true then tb + 1 else 16) gG gE gU sg) (WT κ.z m aK aP aQ aT aW aO aM aL aH aI aS aR aX aF aY aJ aG aE aU nS dr sf nw tA tL tl tg st sb tb vl vh tt er sin sta gK gP gQ gT gW gO gM gL gH gI gS gR gX gF gY gN gG gE gU))
      refine v_aload_n X 1 d_L_law_958 rfl ?_
      refine v_aload_n X 3 d_L_law_959 rfl ?_
      refine v_iload_n X 0 d_L_law_960 rfl ?_
      refine v_iconst X 1 d_L_law_961 (by decide) ?_
      refine v_iaddN X (a := (3 + 9 * t)) (b := 1) d_L_law_962 ?_
      refine v_sldE X hS (j := ((3 + 9 * t) + 1)) (x := nI 3) (by omega) (by omega) hx d_L_law_963 ?_
      refine v_perm List.perm_append_comm ?_
      refine v_callV X (b := m) (k := 56) (n := 549) (n9 := 1) (As := [.int (nI 3)]) (rest := [.long (f_M_expiryG (gG 3) (gU 3))]) (wc := WT κ.z m aK aP aQ aT aW aO aM aL aH aI aS aR aX aF aY aJ aG aE aU nS dr sf nw tA tL tl tg st sb tb vl vh tt er sin sta gK gP gQ gT gW gO gM gL gH gI gS gR gX gF gY gN gG gE gU) (wr := WM κ.z o sa la e d e1 e2 e3 l0 l1 l2 l3 dr sf nS fs fl nw ls cnt hl hh nu lo hi st sin sta tt er vl vh sb (if st = true then tb + 1 else 16) gG gE gU sg) (u_T_expiryG κ.l κ.D κ.z m aK aP aQ aT aW aO aM aL aH aI aS aR aX aF aY aJ aG aE aU nS dr sf nw tA tL tl tg st sb tb vl vh tt er sin sta gK gP gQ gT gW gO gM gL gH gI gS gR gX gF gY gN gG gE gU 3 (by decide)) 0 rfl rfl m632 m633 m634 m36 (by decide +kernel) rfl (Nat.le_of_ble_eq_true rfl) ⟨by decide, by decide⟩ ⟨by decide, by decide⟩ rfl rfl m635 d_L_law_964 (fun v w1 hg => ?_)
      obtain ⟨rfl, rfl⟩ := hg
      refine v_perm List.perm_append_comm ?_
      show V κ 4 56 549 967 [(3, .int (nI (3 + 9 * t))), (2, .ref m), (1, .ref o), (0, .ref b)] [.long (f_T_expiryG gG gU 3), .long (f_M_expiryG (gG 3) (gU 3))] (wA (WM κ.z o sa la e d e1 e2 e3 l0 l1 l2 l3 dr sf nS fs fl nw ls cnt hl hh nu lo hi st sin sta tt er vl vh sb (if st = true then tb + 1 else 16) gG gE gU sg) (WT κ.z m aK aP aQ aT aW aO aM aL aH aI aS aR aX aF aY aJ aG aE aU nS dr sf nw tA tL tl tg st sb tb vl vh tt er sin sta gK gP gQ gT gW gO gM gL gH gI gS gR gX gF gY gN gG gE gU))
      show V κ 4 56 549 967 [(3, .int (nI (3 + 9 * t))), (2, .ref m), (1, .ref o), (0, .ref b)] [.long (f_T_expiryG gG gU 3), .long (f_M_expiryG (gG 3) (gU 3))] (wA (WM κ.z o sa la e d e1 e2 e3 l0 l1 l2 l3 dr sf nS fs fl nw ls cnt hl hh nu lo hi st sin sta tt er vl vh sb (if st = true then tb + 1 else 16) gG gE gU sg) (WT κ.z m aK aP aQ aT aW aO aM aL aH aI aS aR aX aF aY aJ aG aE aU nS dr sf nw tA tL tl tg st sb tb vl vh tt er sin sta gK gP gQ gT gW gO gM gL gH gI gS gR gX gF gY gN gG gE gU))
      refine v_lcmp_eq X 996 d_L_law_967 d_L_law_968 (by decide) (fun c967 => ?_) (fun c967 => absurd rfl c967)
      refine v_iinc X 0 d_L_law_996 (x := nI (3 + 9 * t)) rfl (v := nI ((3 + 9 * t) + 9)) (nI_add _ _) (by decide) (lv' := [(3, .int (nI ((3 + 9 * t) + 9))), (2, .ref m), (1, .ref o), (0, .ref b)]) rfl ?_
      refine v_goto X 48 d_L_law_999 (by decide) ?_
      exact v_eq rfl (by first | rfl | (rw [show 3 + 9 * t + 9 = 3 + 9 * (t + 1) by omega])) rfl (by rfl) (ih nw ls cnt hl hh nu lo hi st sin sta tt er vl vh sb tb sg tA tL tl tg gK gP gQ gT gW gO gM gL gH gI gS gR gX gF gY gN gG gE gU (Inv_next h))
  · skip
    show V κ 4 56 549 949 [(3, .int (nI (3 + 9 * t))), (2, .ref m), (1, .ref o), (0, .ref b)] [] (wA (WM κ.z o sa la e d e1 e2 e3 l0 l1 l2 l3 dr sf nS fs fl nw ls cnt hl hh nu lo hi st sin sta tt er vl vh sb (if st = true then tb + 1 else 16) gG gE gU sg) (WT κ.z m aK aP aQ aT aW aO aM aL aH aI aS aR aX aF aY aJ aG aE aU nS dr sf nw tA tL tl tg st sb tb vl vh tt er sin sta gK gP gQ gT gW gO gM gL gH gI gS gR gX gF gY gN gG gE gU))
    refine v_aload_n X 2 d_L_law_949 rfl ?_
    refine v_aload_n X 3 d_L_law_950 rfl ?_
    refine v_iload_n X 0 d_L_law_951 rfl ?_
    refine v_iconst X 1 d_L_law_952 (by decide) ?_
    refine v_iaddN X (a := (3 + 9 * t)) (b := 1) d_L_law_953 ?_
    refine v_sld X hS (j := ((3 + 9 * t) + 1)) (by omega) (by omega) d_L_law_954 ?_
    refine v_callV X (b := o) (k := 56) (n := 549) (n9 := 1) (As := [.int (xs ((3 + 9 * t) + 1))]) (rest := []) (wc := WM κ.z o sa la e d e1 e2 e3 l0 l1 l2 l3 dr sf nS fs fl nw ls cnt hl hh nu lo hi st sin sta tt er vl vh sb (if st = true then tb + 1 else 16) gG gE gU sg) (wr := WT κ.z m aK aP aQ aT aW aO aM aL aH aI aS aR aX aF aY aJ aG aE aU nS dr sf nw tA tL tl tg st sb tb vl vh tt er sin sta gK gP gQ gT gW gO gM gL gH gI gS gR gX gF gY gN gG gE gU) (u_M_expiryB κ.l κ.D κ.z o sa la e d e1 e2 e3 l0 l1 l2 l3 dr sf nS fs fl nw ls cnt hl hh nu lo hi st sin sta tt er vl vh sb (if st = true then tb + 1 else 16) gG gE gU sg (xs ((3 + 9 * t) + 1)) hb) 0 rfl rfl m407 m408 m409 m30 (by decide +kernel) rfl (Nat.le_of_ble_eq_true rfl) ⟨by decide, by decide⟩ ⟨by decide, by decide⟩ rfl rfl m410 d_L_law_955 (fun v w1 hg => ?_)
    obtain ⟨rfl, rfl⟩ := hg
    show V κ 4 56 549 958 [(3, .int (nI (3 + 9 * t))), (2, .ref m), (1, .ref o), (0, .ref b)] [.long (-4611686018427387904)] (wA (WM κ.z o sa la e d e1 e2 e3 l0 l1 l2 l3 dr sf nS fs fl nw ls cnt hl hh nu lo hi st sin sta tt er vl vh sb (if st = true then tb + 1 else 16) gG gE gU sg) (WT κ.z m aK aP aQ aT aW aO aM aL aH aI aS aR aX aF aY aJ aG aE aU nS dr sf nw tA tL tl tg st sb tb vl vh tt er sin sta gK gP gQ gT gW gO gM gL gH gI gS gR gX gF gY gN gG gE gU))
    refine v_aload_n X 1 d_L_law_958 rfl ?_
    refine v_aload_n X 3 d_L_law_959 rfl ?_
    refine v_iload_n X 0 d_L_law_960 rfl ?_
    refine v_iconst X 1 d_L_law_961 (by decide) ?_
    refine v_iaddN X (a := (3 + 9 * t)) (b := 1) d_L_law_962 ?_
    refine v_sld X hS (j := ((3 + 9 * t) + 1)) (by omega) (by omega) d_L_law_963 ?_
    refine v_perm List.perm_append_comm ?_
    refine v_callV X (b := m) (k := 56) (n := 549) (n9 := 1) (As := [.int (xs ((3 + 9 * t) + 1))]) (rest := [.long (-4611686018427387904)]) (wc := WT κ.z m aK aP aQ aT aW aO aM aL aH aI aS aR aX aF aY aJ aG aE aU nS dr sf nw tA tL tl tg st sb tb vl vh tt er sin sta gK gP gQ gT gW gO gM gL gH gI gS gR gX gF gY gN gG gE gU) (wr := WM κ.z o sa la e d e1 e2 e3 l0 l1 l2 l3 dr sf nS fs fl nw ls cnt hl hh nu lo hi st sin sta tt er vl vh sb (if st = true then tb + 1 else 16) gG gE gU sg) (u_T_expiryB κ.l κ.D κ.z m aK aP aQ aT aW aO aM aL aH aI aS aR aX aF aY aJ aG aE aU nS dr sf nw tA tL tl tg st sb tb vl vh tt er sin sta gK gP gQ gT gW gO gM gL gH gI gS gR gX gF gY gN gG gE gU (xs ((3 + 9 * t) + 1)) hb) 0 rfl rfl m632 m633 m634 m36 (by decide +kernel) rfl (Nat.le_of_ble_eq_true rfl) ⟨by decide, by decide⟩ ⟨by decide, by decide⟩ rfl rfl m635 d_L_law_964 (fun v w1 hg => ?_)
    obtain ⟨rfl, rfl⟩ := hg
    refine v_perm List.perm_append_comm ?_
    show V κ 4 56 549 967 [(3, .int (nI (3 + 9 * t))), (2, .ref m), (1, .ref o), (0, .ref b)] [.long (-4611686018427387904), .long (-4611686018427387904)] (wA (WM κ.z o sa la e d e1 e2 e3 l0 l1 l2 l3 dr sf nS fs fl nw ls cnt hl hh nu lo hi st sin sta tt er vl vh sb (if st = true then tb + 1 else 16) gG gE gU sg) (WT κ.z m aK aP aQ aT aW aO aM aL aH aI aS aR aX aF aY aJ aG aE aU nS dr sf nw tA tL tl tg st sb tb vl vh tt er sin sta gK gP gQ gT gW gO gM gL gH gI gS gR gX gF gY gN gG gE gU))
    show V κ 4 56 549 967 [(3, .int (nI (3 + 9 * t))), (2, .ref m), (1, .ref o), (0, .ref b)] [.long (-4611686018427387904), .long (-4611686018427387904)] (wA (WM κ.z o sa la e d e1 e2 e3 l0 l1 l2 l3 dr sf nS fs fl nw ls cnt hl hh nu lo hi st sin sta tt er vl vh sb (if st = true then tb + 1 else 16) gG gE gU sg) (WT κ.z m aK aP aQ aT aW aO aM aL aH aI aS aR aX aF aY aJ aG aE aU nS dr sf nw tA tL tl tg st sb tb vl vh tt er sin sta gK gP gQ gT gW gO gM gL gH gI gS gR gX gF gY gN gG gE gU))
    refine v_lcmp_eq X 996 d_L_law_967 d_L_law_968 (by decide) (fun c967 => ?_) (fun c967 => absurd rfl c967)
    refine v_iinc X 0 d_L_law_996 (x := nI (3 + 9 * t)) rfl (v := nI ((3 + 9 * t) + 9)) (nI_add _ _) (by decide) (lv' := [(3, .int (nI ((3 + 9 * t) + 9))), (2, .ref m), (1, .ref o), (0, .ref b)]) rfl ?_
    refine v_goto X 48 d_L_law_999 (by decide) ?_
    exact v_eq rfl (by first | rfl | (rw [show 3 + 9 * t + 9 = 3 + 9 * (t + 1) by omega])) rfl (by rfl) (ih nw ls cnt hl hh nu lo hi st sin sta tt er vl vh sb tb sg tA tL tl tg gK gP gQ gT gW gO gM gL gH gI gS gR gX gF gY gN gG gE gU (Inv_next h))

set_option maxHeartbeats 4000000 in
set_option maxRecDepth 100000 in
theorem lc_18 {κ : VC} (X : Cx κ code R_L room_1 4) (b : Nat) (o : Nat) (sa : Nat) (la : Nat) (e : Nat) (d : Nat) (e1 : Nat) (e2 : Nat) (e3 : Nat) (l0 : Nat) (l1 : Nat) (l2 : Nat) (l3 : Nat) (dr : Int32) (sf : Int32) (nS : Nat) (fs : Nat → Option Nat) (fl : Nat → Option Nat) (m : Nat) (aK : Nat) (aP : Nat) (aQ : Nat) (aT : Nat) (aW : Nat) (aO : Nat) (aM : Nat) (aL : Nat) (aH : Nat) (aI : Nat) (aS : Nat) (aR : Nat) (aX : Nat) (aF : Nat) (aY : Nat) (aJ : Nat) (aG : Nat) (aE : Nat) (aU : Nat) (L : Nat) (xs : Nat → Int32) (hS : Scr κ b L xs) (hL : L ≤ 4611) (hfl : fl 0 = some l0 ∧ fl 1 = some l1 ∧ fl 2 = some l2 ∧ fl 3 = some l3) (t : Nat) (ht : 12 + 9 * t ≤ L) (nw : Int64) (ls : Int64) (cnt : Nat) (hl : Int64) (hh : Int64) (nu : Nat → Nat) (lo : Nat → Int64) (hi : Nat → Int64) (st : Bool) (sin : Int64) (sta : Int64) (tt : Int64) (er : Int64) (vl : Int64) (vh : Int64) (sb : Int32) (tb : Int32) (sg : Nat → SvS) (tA : Bool) (tL : Int64) (tl : Int64) (tg : Int64) (gK : Nat → Int64) (gP : Nat → Bool) (gQ : Nat → Int64) (gT : Nat → Int64) (gW : Nat → Bool) (gO : Nat → Int64) (gM : Nat → Nat) (gL : Nat → Int64) (gH : Nat → Int64) (gI : Nat → Int64) (gS : Nat → Int32) (gR : Nat → Int32) (gX : Nat → Int32) (gF : Nat → Int64) (gY : Nat → Int64) (gN : Nat → Bool) (gG : Nat → Bool) (gE : Nat → Int32) (gU : Nat → Int64) (h : Inv t nS dr fs nw ls nu sin sta tt sg tA tL gK gQ gT gO gL gH gI gP gW gM gS gR gX) (ih : ∀ (nw : Int64) (ls : Int64) (cnt : Nat) (hl : Int64) (hh : Int64) (nu : Nat → Nat) (lo : Nat → Int64) (hi : Nat → Int64) (st : Bool) (sin : Int64) (sta : Int64) (tt : Int64) (er : Int64) (vl : Int64) (vh : Int64) (sb : Int32) (tb : Int32) (sg : Nat → SvS) (tA : Bool) (tL : Int64) (tl : Int64) (tg : Int64) (gK : Nat → Int64) (gP : Nat → Bool) (gQ : Nat → Int64) (gT : Nat → Int64) (gW : Nat → Bool) (gO : Nat → Int64) (gM : Nat → Nat) (gL : Nat → Int64) (gH : Nat → Int64) (gI : Nat → Int64) (gS : Nat → Int32) (gR : Nat → Int32) (gX : Nat → Int32) (gF : Nat → Int64) (gY : Nat → Int64) (gN : Nat → Bool) (gG : Nat → Bool) (gE : Nat → Int32) (gU : Nat → Int64), Inv (t + 1) nS dr fs nw ls nu sin sta tt sg tA tL gK gQ gT gO gL gH gI gP gW gM gS gR gX → V κ 4 56 549 48 [(3, .int (nI (3 + 9 * (t + 1)))), (2, .ref m), (1, .ref o), (0, .ref b)] [] (wA (WM κ.z o sa la e d e1 e2 e3 l0 l1 l2 l3 dr sf nS fs fl nw ls cnt hl hh nu lo hi st sin sta tt er vl vh sb (if st = true then tb + 1 else 16) gG gE gU sg) (WT κ.z m aK aP aQ aT aW aO aM aL aH aI aS aR aX aF aY aJ aG aE aU nS dr sf nw tA tL tl tg st sb tb vl vh tt er sin sta gK gP gQ gT gW gO gM gL gH gI gS gR gX gF gY gN gG gE gU))) : V κ 4 56 549 973 [(3, .int (nI (3 + 9 * t))), (2, .ref m), (1, .ref o), (0, .ref b)] [] (wA (WM κ.z o sa la e d e1 e2 e3 l0 l1 l2 l3 dr sf nS fs fl nw ls cnt hl hh nu lo hi st sin sta tt er vl vh sb (if st = true then tb + 1 else 16) gG gE gU sg) (WT κ.z m aK aP aQ aT aW aO aM aL aH aI aS aR aX aF aY aJ aG aE aU nS dr sf nw tA tL tl tg st sb tb vl vh tt er sin sta gK gP gQ gT gW gO gM gL gH gI gS gR gX gF gY gN gG gE gU)) := by
  have hn6 := h.1.2
  have hn1 := h.1.1
  rcases srv_cases (n := 4) (xs (3 + 9 * t + 1)) (by decide) with ⟨i, hj, hx⟩ | hb
  · rcases (show i = 0 ∨ i = 1 ∨ i = 2 ∨ i = 3 by omega) with rfl | rfl | rfl | rfl
    · skip
      show V κ 4 56 549 973 [(3, .int (nI (3 + 9 * t))), (2, .ref m), (1, .ref o), (0, .ref b)] [] (wA (WM κ.z o sa la e d e1 e2 e3 l0 l1 l2 l3 dr sf nS fs fl nw ls cnt hl hh nu lo hi st sin sta tt er vl vh sb (if st = true then tb + 1 else 16) gG gE gU sg) (WT κ.z m aK aP aQ aT aW aO aM aL aH aI aS aR aX aF aY aJ aG aE aU nS dr sf nw tA tL tl tg st sb tb vl vh tt er sin sta gK gP gQ gT gW gO gM gL gH gI gS gR gX gF gY gN gG gE gU))
      refine v_aload_n X 2 d_L_law_973 rfl ?_
      refine v_aload_n X 3 d_L_law_974 rfl ?_
      refine v_iload_n X 0 d_L_law_975 rfl ?_
      refine v_iconst X 1 d_L_law_976 (by decide) ?_
      refine v_iaddN X (a := (3 + 9 * t)) (b := 1) d_L_law_977 ?_
      refine v_sldE X hS (j := ((3 + 9 * t) + 1)) (x := nI 0) (by omega) (by omega) hx d_L_law_978 ?_
      refine v_callV X (b := o) (k := 56) (n := 549) (n9 := 1) (As := [.int (nI 0)]) (rest := []) (wc := WM κ.z o sa la e d e1 e2 e3 l0 l1 l2 l3 dr sf nS fs fl nw ls cnt hl hh nu lo hi st sin sta tt er vl vh sb (if st = true then tb + 1 else 16) gG gE gU sg) (wr := WT κ.z m aK aP aQ aT aW aO aM aL aH aI aS aR aX aF aY aJ aG aE aU nS dr sf nw tA tL tl tg st sb tb vl vh tt er sin sta gK gP gQ gT gW gO gM gL gH gI gS gR gX gF gY gN gG gE gU) (u_M_holderG0 κ.l κ.D κ.z o sa la e d e1 e2 e3 l0 l1 l2 l3 dr sf nS fs fl nw ls cnt hl hh nu lo hi st sin sta tt er vl vh sb (if st = true then tb + 1 else 16) gG gE gU sg  (by decide) hfl.1) 0 rfl rfl m411 m412 m413 m30 (by decide +kernel) rfl (Nat.le_of_ble_eq_true rfl) ⟨by decide, by decide⟩ ⟨by decide, by decide⟩ rfl rfl m414 d_L_law_979 (fun v w1 hg => ?_)
      obtain ⟨rfl, rfl⟩ := hg
      show V κ 4 56 549 982 [(3, .int (nI (3 + 9 * t))), (2, .ref m), (1, .ref o), (0, .ref b)] [.int (f_M_holderG (gG 0) (gE 0))] (wA (WM κ.z o sa la e d e1 e2 e3 l0 l1 l2 l3 dr sf nS fs fl nw ls cnt hl hh nu lo hi st sin sta tt er vl vh sb (if st = true then tb + 1 else 16) gG gE gU sg) (WT κ.z m aK aP aQ aT aW aO aM aL aH aI aS aR aX aF aY aJ aG aE aU nS dr sf nw tA tL tl tg st sb tb vl vh tt er sin sta gK gP gQ gT gW gO gM gL gH gI gS gR gX gF gY gN gG gE gU))
      refine v_aload_n X 1 d_L_law_982 rfl ?_
      refine v_aload_n X 3 d_L_law_983 rfl ?_
      refine v_iload_n X 0 d_L_law_984 rfl ?_
      refine v_iconst X 1 d_L_law_985 (by decide) ?_
      refine v_iaddN X (a := (3 + 9 * t)) (b := 1) d_L_law_986 ?_
      refine v_sldE X hS (j := ((3 + 9 * t) + 1)) (x := nI 0) (by omega) (by omega) hx d_L_law_987 ?_
      refine v_perm List.perm_append_comm ?_
      refine v_callV X (b := m) (k := 56) (n := 549) (n9 := 1) (As := [.int (nI 0)]) (rest := [.int (f_M_holderG (gG 0) (gE 0))]) (wc := WT κ.z m aK aP aQ aT aW aO aM aL aH aI aS aR aX aF aY aJ aG aE aU nS dr sf nw tA tL tl tg st sb tb vl vh tt er sin sta gK gP gQ gT gW gO gM gL gH gI gS gR gX gF gY gN gG gE gU) (wr := WM κ.z o sa la e d e1 e2 e3 l0 l1 l2 l3 dr sf nS fs fl nw ls cnt hl hh nu lo hi st sin sta tt er vl vh sb (if st = true then tb + 1 else 16) gG gE gU sg) (u_T_holderG κ.l κ.D κ.z m aK aP aQ aT aW aO aM aL aH aI aS aR aX aF aY aJ aG aE aU nS dr sf nw tA tL tl tg st sb tb vl vh tt er sin sta gK gP gQ gT gW gO gM gL gH gI gS gR gX gF gY gN gG gE gU 0 (by decide)) 0 rfl rfl m636 m637 m638 m36 (by decide +kernel) rfl (Nat.le_of_ble_eq_true rfl) ⟨by decide, by decide⟩ ⟨by decide, by decide⟩ rfl rfl m639 d_L_law_988 (fun v w1 hg => ?_)
      obtain ⟨rfl, rfl⟩ := hg
      refine v_perm List.perm_append_comm ?_
      show V κ 4 56 549 991 [(3, .int (nI (3 + 9 * t))), (2, .ref m), (1, .ref o), (0, .ref b)] [.int (f_T_holderG gG gE 0), .int (f_M_holderG (gG 0) (gE 0))] (wA (WM κ.z o sa la e d e1 e2 e3 l0 l1 l2 l3 dr sf nS fs fl nw ls cnt hl hh nu lo hi st sin sta tt er vl vh sb (if st = true then tb + 1 else 16) gG gE gU sg) (WT κ.z m aK aP aQ aT aW aO aM aL aH aI aS aR aX aF aY aJ aG aE aU nS dr sf nw tA tL tl tg st sb tb vl vh tt er sin sta gK gP gQ gT gW gO gM gL gH gI gS gR gX gF gY gN gG gE gU))
      show V κ 4 56 549 991 [(3, .int (nI (3 + 9 * t))), (2, .ref m), (1, .ref o), (0, .ref b)] [.int (f_T_holderG gG gE 0), .int (f_M_holderG (gG 0) (gE 0))] (wA (WM κ.z o sa la e d e1 e2 e3 l0 l1 l2 l3 dr sf nS fs fl nw ls cnt hl hh nu lo hi st sin sta tt er vl vh sb (if st = true then tb + 1 else 16) gG gE gU sg) (WT κ.z m aK aP aQ aT aW aO aM aL aH aI aS aR aX aF aY aJ aG aE aU nS dr sf nw tA tL tl tg st sb tb vl vh tt er sin sta gK gP gQ gT gW gO gM gL gH gI gS gR gX gF gY gN gG gE gU))
      refine v_icmp_eq X 996 d_L_law_991 (by decide) (fun c991 => ?_) (fun c991 => absurd rfl c991)
      refine v_iinc X 0 d_L_law_996 (x := nI (3 + 9 * t)) rfl (v := nI ((3 + 9 * t) + 9)) (nI_add _ _) (by decide) (lv' := [(3, .int (nI ((3 + 9 * t) + 9))), (2, .ref m), (1, .ref o), (0, .ref b)]) rfl ?_
      refine v_goto X 48 d_L_law_999 (by decide) ?_
      exact v_eq rfl (by first | rfl | (rw [show 3 + 9 * t + 9 = 3 + 9 * (t + 1) by omega])) rfl (by rfl) (ih nw ls cnt hl hh nu lo hi st sin sta tt er vl vh sb tb sg tA tL tl tg gK gP gQ gT gW gO gM gL gH gI gS gR gX gF gY gN gG gE gU (Inv_next h))
    · skip
      show V κ 4 56 549 973 [(3, .int (nI (3 + 9 * t))), (2, .ref m), (1, .ref o), (0, .ref b)] [] (wA (WM κ.z o sa la e d e1 e2 e3 l0 l1 l2 l3 dr sf nS fs fl nw ls cnt hl hh nu lo hi st sin sta tt er vl vh sb (if st = true then tb + 1 else 16) gG gE gU sg) (WT κ.z m aK aP aQ aT aW aO aM aL aH aI aS aR aX aF aY aJ aG aE aU nS dr sf nw tA tL tl tg st sb tb vl vh tt er sin sta gK gP gQ gT gW gO gM gL gH gI gS gR gX gF gY gN gG gE gU))
      refine v_aload_n X 2 d_L_law_973 rfl ?_
      refine v_aload_n X 3 d_L_law_974 rfl ?_
      refine v_iload_n X 0 d_L_law_975 rfl ?_
      refine v_iconst X 1 d_L_law_976 (by decide) ?_
      refine v_iaddN X (a := (3 + 9 * t)) (b := 1) d_L_law_977 ?_
      refine v_sldE X hS (j := ((3 + 9 * t) + 1)) (x := nI 1) (by omega) (by omega) hx d_L_law_978 ?_
      refine v_callV X (b := o) (k := 56) (n := 549) (n9 := 1) (As := [.int (nI 1)]) (rest := []) (wc := WM κ.z o sa la e d e1 e2 e3 l0 l1 l2 l3 dr sf nS fs fl nw ls cnt hl hh nu lo hi st sin sta tt er vl vh sb (if st = true then tb + 1 else 16) gG gE gU sg) (wr := WT κ.z m aK aP aQ aT aW aO aM aL aH aI aS aR aX aF aY aJ aG aE aU nS dr sf nw tA tL tl tg st sb tb vl vh tt er sin sta gK gP gQ gT gW gO gM gL gH gI gS gR gX gF gY gN gG gE gU) (u_M_holderG1 κ.l κ.D κ.z o sa la e d e1 e2 e3 l0 l1 l2 l3 dr sf nS fs fl nw ls cnt hl hh nu lo hi st sin sta tt er vl vh sb (if st = true then tb + 1 else 16) gG gE gU sg  (by decide) hfl.2.1) 0 rfl rfl m411 m412 m413 m30 (by decide +kernel) rfl (Nat.le_of_ble_eq_true rfl) ⟨by decide, by decide⟩ ⟨by decide, by decide⟩ rfl rfl m414 d_L_law_979 (fun v w1 hg => ?_)
      obtain ⟨rfl, rfl⟩ := hg
      show V κ 4 56 549 982 [(3, .int (nI (3 + 9 * t))), (2, .ref m), (1, .ref o), (0, .ref b)] [.int (f_M_holderG (gG 1) (gE 1))] (wA (WM κ.z o sa la e d e1 e2 e3 l0 l1 l2 l3 dr sf nS fs fl nw ls cnt hl hh nu lo hi st sin sta tt er vl vh sb (if st = true then tb + 1 else 16) gG gE gU sg) (WT κ.z m aK aP aQ aT aW aO aM aL aH aI aS aR aX aF aY aJ aG aE aU nS dr sf nw tA tL tl tg st sb tb vl vh tt er sin sta gK gP gQ gT gW gO gM gL gH gI gS gR gX gF gY gN gG gE gU))
      refine v_aload_n X 1 d_L_law_982 rfl ?_
      refine v_aload_n X 3 d_L_law_983 rfl ?_
      refine v_iload_n X 0 d_L_law_984 rfl ?_
      refine v_iconst X 1 d_L_law_985 (by decide) ?_
      refine v_iaddN X (a := (3 + 9 * t)) (b := 1) d_L_law_986 ?_
      refine v_sldE X hS (j := ((3 + 9 * t) + 1)) (x := nI 1) (by omega) (by omega) hx d_L_law_987 ?_
      refine v_perm List.perm_append_comm ?_
      refine v_callV X (b := m) (k := 56) (n := 549) (n9 := 1) (As := [.int (nI 1)]) (rest := [.int (f_M_holderG (gG 1) (gE 1))]) (wc := WT κ.z m aK aP aQ aT aW aO aM aL aH aI aS aR aX aF aY aJ aG aE aU nS dr sf nw tA tL tl tg st sb tb vl vh tt er sin sta gK gP gQ gT gW gO gM gL gH gI gS gR gX gF gY gN gG gE gU) (wr := WM κ.z o sa la e d e1 e2 e3 l0 l1 l2 l3 dr sf nS fs fl nw ls cnt hl hh nu lo hi st sin sta tt er vl vh sb (if st = true then tb + 1 else 16) gG gE gU sg) (u_T_holderG κ.l κ.D κ.z m aK aP aQ aT aW aO aM aL aH aI aS aR aX aF aY aJ aG aE aU nS dr sf nw tA tL tl tg st sb tb vl vh tt er sin sta gK gP gQ gT gW gO gM gL gH gI gS gR gX gF gY gN gG gE gU 1 (by decide)) 0 rfl rfl m636 m637 m638 m36 (by decide +kernel) rfl (Nat.le_of_ble_eq_true rfl) ⟨by decide, by decide⟩ ⟨by decide, by decide⟩ rfl rfl m639 d_L_law_988 (fun v w1 hg => ?_)
      obtain ⟨rfl, rfl⟩ := hg
      refine v_perm List.perm_append_comm ?_
      show V κ 4 56 549 991 [(3, .int (nI (3 + 9 * t))), (2, .ref m), (1, .ref o), (0, .ref b)] [.int (f_T_holderG gG gE 1), .int (f_M_holderG (gG 1) (gE 1))] (wA (WM κ.z o sa la e d e1 e2 e3 l0 l1 l2 l3 dr sf nS fs fl nw ls cnt hl hh nu lo hi st sin sta tt er vl vh sb (if st = true then tb + 1 else 16) gG gE gU sg) (WT κ.z m aK aP aQ aT aW aO aM aL aH aI aS aR aX aF aY aJ aG aE aU nS dr sf nw tA tL tl tg st sb tb vl vh tt er sin sta gK gP gQ gT gW gO gM gL gH gI gS gR gX gF gY gN gG gE gU))
      show V κ 4 56 549 991 [(3, .int (nI (3 + 9 * t))), (2, .ref m), (1, .ref o), (0, .ref b)] [.int (f_T_holderG gG gE 1), .int (f_M_holderG (gG 1) (gE 1))] (wA (WM κ.z o sa la e d e1 e2 e3 l0 l1 l2 l3 dr sf nS fs fl nw ls cnt hl hh nu lo hi st sin sta tt er vl vh sb (if st = true then tb + 1 else 16) gG gE gU sg) (WT κ.z m aK aP aQ aT aW aO aM aL aH aI aS aR aX aF aY aJ aG aE aU nS dr sf nw tA tL tl tg st sb tb vl vh tt er sin sta gK gP gQ gT gW gO gM gL gH gI gS gR gX gF gY gN gG gE gU))
      refine v_icmp_eq X 996 d_L_law_991 (by decide) (fun c991 => ?_) (fun c991 => absurd rfl c991)
      refine v_iinc X 0 d_L_law_996 (x := nI (3 + 9 * t)) rfl (v := nI ((3 + 9 * t) + 9)) (nI_add _ _) (by decide) (lv' := [(3, .int (nI ((3 + 9 * t) + 9))), (2, .ref m), (1, .ref o), (0, .ref b)]) rfl ?_
      refine v_goto X 48 d_L_law_999 (by decide) ?_
      exact v_eq rfl (by first | rfl | (rw [show 3 + 9 * t + 9 = 3 + 9 * (t + 1) by omega])) rfl (by rfl) (ih nw ls cnt hl hh nu lo hi st sin sta tt er vl vh sb tb sg tA tL tl tg gK gP gQ gT gW gO gM gL gH gI gS gR gX gF gY gN gG gE gU (Inv_next h))
    · skip
      show V κ 4 56 549 973 [(3, .int (nI (3 + 9 * t))), (2, .ref m), (1, .ref o), (0, .ref b)] [] (wA (WM κ.z o sa la e d e1 e2 e3 l0 l1 l2 l3 dr sf nS fs fl nw ls cnt hl hh nu lo hi st sin sta tt er vl vh sb (if st = true then tb + 1 else 16) gG gE gU sg) (WT κ.z m aK aP aQ aT aW aO aM aL aH aI aS aR aX aF aY aJ aG aE aU nS dr sf nw tA tL tl tg st sb tb vl vh tt er sin sta gK gP gQ gT gW gO gM gL gH gI gS gR gX gF gY gN gG gE gU))
      refine v_aload_n X 2 d_L_law_973 rfl ?_
      refine v_aload_n X 3 d_L_law_974 rfl ?_
      refine v_iload_n X 0 d_L_law_975 rfl ?_
      refine v_iconst X 1 d_L_law_976 (by decide) ?_
      refine v_iaddN X (a := (3 + 9 * t)) (b := 1) d_L_law_977 ?_
      refine v_sldE X hS (j := ((3 + 9 * t) + 1)) (x := nI 2) (by omega) (by omega) hx d_L_law_978 ?_
      refine v_callV X (b := o) (k := 56) (n := 549) (n9 := 1) (As := [.int (nI 2)]) (rest := []) (wc := WM κ.z o sa la e d e1 e2 e3 l0 l1 l2 l3 dr sf nS fs fl nw ls cnt hl hh nu lo hi st sin sta tt er vl vh sb (if st = true then tb + 1 else 16) gG gE gU sg) (wr := WT κ.z m aK aP aQ aT aW aO aM aL aH aI aS aR aX aF aY aJ aG aE aU nS dr sf nw tA tL tl tg st sb tb vl vh tt er sin sta gK gP gQ gT gW gO gM gL gH gI gS gR gX gF gY gN gG gE gU) (u_M_holderG2 κ.l κ.D κ.z o sa la e d e1 e2 e3 l0 l1 l2 l3 dr sf nS fs fl nw ls cnt hl hh nu lo hi st sin sta tt er vl vh sb (if st = true then tb + 1 else 16) gG gE gU sg  (by decide) hfl.2.2.1) 0 rfl rfl m411 m412 m413 m30 (by decide +kernel) rfl (Nat.le_of_ble_eq_true rfl) ⟨by decide, by decide⟩ ⟨by decide, by decide⟩ rfl rfl m414 d_L_law_979 (fun v w1 hg => ?_)
      obtain ⟨rfl, rfl⟩ := hg
      show V κ 4 56 549 982 [(3, .int (nI (3 + 9 * t))), (2, .ref m), (1, .ref o), (0, .ref b)] [.int (f_M_holderG (gG 2) (gE 2))] (wA (WM κ.z o sa la e d e1 e2 e3 l0 l1 l2 l3 dr sf nS fs fl nw ls cnt hl hh nu lo hi st sin sta tt er vl vh sb (if st = true then tb + 1 else 16) gG gE gU sg) (WT κ.z m aK aP aQ aT aW aO aM aL aH aI aS aR aX aF aY aJ aG aE aU nS dr sf nw tA tL tl tg st sb tb vl vh tt er sin sta gK gP gQ gT gW gO gM gL gH gI gS gR gX gF gY gN gG gE gU))
      refine v_aload_n X 1 d_L_law_982 rfl ?_
      refine v_aload_n X 3 d_L_law_983 rfl ?_
      refine v_iload_n X 0 d_L_law_984 rfl ?_
      refine v_iconst X 1 d_L_law_985 (by decide) ?_
      refine v_iaddN X (a := (3 + 9 * t)) (b := 1) d_L_law_986 ?_
      refine v_sldE X hS (j := ((3 + 9 * t) + 1)) (x := nI 2) (by omega) (by omega) hx d_L_law_987 ?_
      refine v_perm List.perm_append_comm ?_
      refine v_callV X (b := m) (k := 56) (n := 549) (n9 := 1) (As := [.int (nI 2)]) (rest := [.int (f_M_holderG (gG 2) (gE 2))]) (wc := WT κ.z m aK aP aQ aT aW aO aM aL aH aI aS aR aX aF aY aJ aG aE aU nS dr sf nw tA tL tl tg st sb tb vl vh tt er sin sta gK gP gQ gT gW gO gM gL gH gI gS gR gX gF gY gN gG gE gU) (wr := WM κ.z o sa la e d e1 e2 e3 l0 l1 l2 l3 dr sf nS fs fl nw ls cnt hl hh nu lo hi st sin sta tt er vl vh sb (if st = true then tb + 1 else 16) gG gE gU sg) (u_T_holderG κ.l κ.D κ.z m aK aP aQ aT aW aO aM aL aH aI aS aR aX aF aY aJ aG aE aU nS dr sf nw tA tL tl tg st sb tb vl vh tt er sin sta gK gP gQ gT gW gO gM gL gH gI gS gR gX gF gY gN gG gE gU 2 (by decide)) 0 rfl rfl m636 m637 m638 m36 (by decide +kernel) rfl (Nat.le_of_ble_eq_true rfl) ⟨by decide, by decide⟩ ⟨by decide, by decide⟩ rfl rfl m639 d_L_law_988 (fun v w1 hg => ?_)
      obtain ⟨rfl, rfl⟩ := hg
      refine v_perm List.perm_append_comm ?_
      show V κ 4 56 549 991 [(3, .int (nI (3 + 9 * t))), (2, .ref m), (1, .ref o), (0, .ref b)] [.int (f_T_holderG gG gE 2), .int (f_M_holderG (gG 2) (gE 2))] (wA (WM κ.z o sa la e d e1 e2 e3 l0 l1 l2 l3 dr sf nS fs fl nw ls cnt hl hh nu lo hi st sin sta tt er vl vh sb (if st = true then tb + 1 else 16) gG gE gU sg) (WT κ.z m aK aP aQ aT aW aO aM aL aH aI aS aR aX aF aY aJ aG aE aU nS dr sf nw tA tL tl tg st sb tb vl vh tt er sin sta gK gP gQ gT gW gO gM gL gH gI gS gR gX gF gY gN gG gE gU))
      show V κ 4 56 549 991 [(3, .int (nI (3 + 9 * t))), (2, .ref m), (1, .ref o), (0, .ref b)] [.int (f_T_holderG gG gE 2), .int (f_M_holderG (gG 2) (gE 2))] (wA (WM κ.z o sa la e d e1 e2 e3 l0 l1 l2 l3 dr sf nS fs fl nw ls cnt hl hh nu lo hi st sin sta tt er vl vh sb (if st = true then tb + 1 else 16) gG gE gU sg) (WT κ.z m aK aP aQ aT aW aO aM aL aH aI aS aR aX aF aY aJ aG aE aU nS dr sf nw tA tL tl tg st sb tb vl vh tt er sin sta gK gP gQ gT gW gO gM gL gH gI gS gR gX gF gY gN gG gE gU))
      refine v_icmp_eq X 996 d_L_law_991 (by decide) (fun c991 => ?_) (fun c991 => absurd rfl c991)
      refine v_iinc X 0 d_L_law_996 (x := nI (3 + 9 * t)) rfl (v := nI ((3 + 9 * t) + 9)) (nI_add _ _) (by decide) (lv' := [(3, .int (nI ((3 + 9 * t) + 9))), (2, .ref m), (1, .ref o), (0, .ref b)]) rfl ?_
      refine v_goto X 48 d_L_law_999 (by decide) ?_
      exact v_eq rfl (by first | rfl | (rw [show 3 + 9 * t + 9 = 3 + 9 * (t + 1) by omega])) rfl (by rfl) (ih nw ls cnt hl hh nu lo hi st sin sta tt er vl vh sb tb sg tA tL tl tg gK gP gQ gT gW gO gM gL gH gI gS gR gX gF gY gN gG gE gU (Inv_next h))
    · skip
      show V κ 4 56 549 973 [(3, .int (nI (3 + 9 * t))), (2, .ref m), (1, .ref o), (0, .ref b)] [] (wA (WM κ.z o sa la e d e1 e2 e3 l0 l1 l2 l3 dr sf nS fs fl nw ls cnt hl hh nu lo hi st sin sta tt er vl vh sb (if st = true then tb + 1 else 16) gG gE gU sg) (WT κ.z m aK aP aQ aT aW aO aM aL aH aI aS aR aX aF aY aJ aG aE aU nS dr sf nw tA tL tl tg st sb tb vl vh tt er sin sta gK gP gQ gT gW gO gM gL gH gI gS gR gX gF gY gN gG gE gU))
      refine v_aload_n X 2 d_L_law_973 rfl ?_
      refine v_aload_n X 3 d_L_law_974 rfl ?_
      refine v_iload_n X 0 d_L_law_975 rfl ?_
      refine v_iconst X 1 d_L_law_976 (by decide) ?_
      refine v_iaddN X (a := (3 + 9 * t)) (b := 1) d_L_law_977 ?_
      refine v_sldE X hS (j := ((3 + 9 * t) + 1)) (x := nI 3) (by omega) (by omega) hx d_L_law_978 ?_
      refine v_callV X (b := o) (k := 56) (n := 549) (n9 := 1) (As := [.int (nI 3)]) (rest := []) (wc := WM κ.z o sa la e d e1 e2 e3 l0 l1 l2 l3 dr sf nS fs fl nw ls cnt hl hh nu lo hi st sin sta tt er vl vh sb (if st = true then tb + 1 else 16) gG gE gU sg) (wr := WT κ.z m aK aP aQ aT aW aO aM aL aH aI aS aR aX aF aY aJ aG aE aU nS dr sf nw tA tL tl tg st sb tb vl vh tt er sin sta gK gP gQ gT gW gO gM gL gH gI gS gR gX gF gY gN gG gE gU) (u_M_holderG3 κ.l κ.D κ.z o sa la e d e1 e2 e3 l0 l1 l2 l3 dr sf nS fs fl nw ls cnt hl hh nu lo hi st sin sta tt er vl vh sb (if st = true then tb + 1 else 16) gG gE gU sg  (by decide) hfl.2.2.2) 0 rfl rfl m411 m412 m413 m30 (by decide +kernel) rfl (Nat.le_of_ble_eq_true rfl) ⟨by decide, by decide⟩ ⟨by decide, by decide⟩ rfl rfl m414 d_L_law_979 (fun v w1 hg => ?_)
      obtain ⟨rfl, rfl⟩ := hg
      show V κ 4 56 549 982 [(3, .int (nI (3 + 9 * t))), (2, .ref m), (1, .ref o), (0, .ref b)] [.int (f_M_holderG (gG 3) (gE 3))] (wA (WM κ.z o sa la e d e1 e2 e3 l0 l1 l2 l3 dr sf nS fs fl nw ls cnt hl hh nu lo hi st sin sta tt er vl vh sb (if st = true then tb + 1 else 16) gG gE gU sg) (WT κ.z m aK aP aQ aT aW aO aM aL aH aI aS aR aX aF aY aJ aG aE aU nS dr sf nw tA tL tl tg st sb tb vl vh tt er sin sta gK gP gQ gT gW gO gM gL gH gI gS gR gX gF gY gN gG gE gU))
      refine v_aload_n X 1 d_L_law_982 rfl ?_
      refine v_aload_n X 3 d_L_law_983 rfl ?_
      refine v_iload_n X 0 d_L_law_984 rfl ?_
      refine v_iconst X 1 d_L_law_985 (by decide) ?_
      refine v_iaddN X (a := (3 + 9 * t)) (b := 1) d_L_law_986 ?_
      refine v_sldE X hS (j := ((3 + 9 * t) + 1)) (x := nI 3) (by omega) (by omega) hx d_L_law_987 ?_
      refine v_perm List.perm_append_comm ?_
      refine v_callV X (b := m) (k := 56) (n := 549) (n9 := 1) (As := [.int (nI 3)]) (rest := [.int (f_M_holderG (gG 3) (gE 3))]) (wc := WT κ.z m aK aP aQ aT aW aO aM aL aH aI aS aR aX aF aY aJ aG aE aU nS dr sf nw tA tL tl tg st sb tb vl vh tt er sin sta gK gP gQ gT gW gO gM gL gH gI gS gR gX gF gY gN gG gE gU) (wr := WM κ.z o sa la e d e1 e2 e3 l0 l1 l2 l3 dr sf nS fs fl nw ls cnt hl hh nu lo hi st sin sta tt er vl vh sb (if st = true then tb + 1 else 16) gG gE gU sg) (u_T_holderG κ.l κ.D κ.z m aK aP aQ aT aW aO aM aL aH aI aS aR aX aF aY aJ aG aE aU nS dr sf nw tA tL tl tg st sb tb vl vh tt er sin sta gK gP gQ gT gW gO gM gL gH gI gS gR gX gF gY gN gG gE gU 3 (by decide)) 0 rfl rfl m636 m637 m638 m36 (by decide +kernel) rfl (Nat.le_of_ble_eq_true rfl) ⟨by decide, by decide⟩ ⟨by decide, by decide⟩ rfl rfl m639 d_L_law_988 (fun v w1 hg => ?_)
      obtain ⟨rfl, rfl⟩ := hg
      refine v_perm List.perm_append_comm ?_
      show V κ 4 56 549 991 [(3, .int (nI (3 + 9 * t))), (2, .ref m), (1, .ref o), (0, .ref b)] [.int (f_T_holderG gG gE 3), .int (f_M_holderG (gG 3) (gE 3))] (wA (WM κ.z o sa la e d e1 e2 e3 l0 l1 l2 l3 dr sf nS fs fl nw ls cnt hl hh nu lo hi st sin sta tt er vl vh sb (if st = true then tb + 1 else 16) gG gE gU sg) (WT κ.z m aK aP aQ aT aW aO aM aL aH aI aS aR aX aF aY aJ aG aE aU nS dr sf nw tA tL tl tg st sb tb vl vh tt er sin sta gK gP gQ gT gW gO gM gL gH gI gS gR gX gF gY gN gG gE gU))
      show V κ 4 56 549 991 [(3, .int (nI (3 + 9 * t))), (2, .ref m), (1, .ref o), (0, .ref b)] [.int (f_T_holderG gG gE 3), .int (f_M_holderG (gG 3) (gE 3))] (wA (WM κ.z o sa la e d e1 e2 e3 l0 l1 l2 l3 dr sf nS fs fl nw ls cnt hl hh nu lo hi st sin sta tt er vl vh sb (if st = true then tb + 1 else 16) gG gE gU sg) (WT κ.z m aK aP aQ aT aW aO aM aL aH aI aS aR aX aF aY aJ aG aE aU nS dr sf nw tA tL tl tg st sb tb vl vh tt er sin sta gK gP gQ gT gW gO gM gL gH gI gS gR gX gF gY gN gG gE gU))
      refine v_icmp_eq X 996 d_L_law_991 (by decide) (fun c991 => ?_) (fun c991 => absurd rfl c991)
      refine v_iinc X 0 d_L_law_996 (x := nI (3 + 9 * t)) rfl (v := nI ((3 + 9 * t) + 9)) (nI_add _ _) (by decide) (lv' := [(3, .int (nI ((3 + 9 * t) + 9))), (2, .ref m), (1, .ref o), (0, .ref b)]) rfl ?_
      refine v_goto X 48 d_L_law_999 (by decide) ?_
      exact v_eq rfl (by first | rfl | (rw [show 3 + 9 * t + 9 = 3 + 9 * (t + 1) by omega])) rfl (by rfl) (ih nw ls cnt hl hh nu lo hi st sin sta tt er vl vh sb tb sg tA tL tl tg gK gP gQ gT gW gO gM gL gH gI gS gR gX gF gY gN gG gE gU (Inv_next h))
  · skip
    show V κ 4 56 549 973 [(3, .int (nI (3 + 9 * t))), (2, .ref m), (1, .ref o), (0, .ref b)] [] (wA (WM κ.z o sa la e d e1 e2 e3 l0 l1 l2 l3 dr sf nS fs fl nw ls cnt hl hh nu lo hi st sin sta tt er vl vh sb (if st = true then tb + 1 else 16) gG gE gU sg) (WT κ.z m aK aP aQ aT aW aO aM aL aH aI aS aR aX aF aY aJ aG aE aU nS dr sf nw tA tL tl tg st sb tb vl vh tt er sin sta gK gP gQ gT gW gO gM gL gH gI gS gR gX gF gY gN gG gE gU))
    refine v_aload_n X 2 d_L_law_973 rfl ?_
    refine v_aload_n X 3 d_L_law_974 rfl ?_
    refine v_iload_n X 0 d_L_law_975 rfl ?_
    refine v_iconst X 1 d_L_law_976 (by decide) ?_
    refine v_iaddN X (a := (3 + 9 * t)) (b := 1) d_L_law_977 ?_
    refine v_sld X hS (j := ((3 + 9 * t) + 1)) (by omega) (by omega) d_L_law_978 ?_
    refine v_callV X (b := o) (k := 56) (n := 549) (n9 := 1) (As := [.int (xs ((3 + 9 * t) + 1))]) (rest := []) (wc := WM κ.z o sa la e d e1 e2 e3 l0 l1 l2 l3 dr sf nS fs fl nw ls cnt hl hh nu lo hi st sin sta tt er vl vh sb (if st = true then tb + 1 else 16) gG gE gU sg) (wr := WT κ.z m aK aP aQ aT aW aO aM aL aH aI aS aR aX aF aY aJ aG aE aU nS dr sf nw tA tL tl tg st sb tb vl vh tt er sin sta gK gP gQ gT gW gO gM gL gH gI gS gR gX gF gY gN gG gE gU) (u_M_holderB κ.l κ.D κ.z o sa la e d e1 e2 e3 l0 l1 l2 l3 dr sf nS fs fl nw ls cnt hl hh nu lo hi st sin sta tt er vl vh sb (if st = true then tb + 1 else 16) gG gE gU sg (xs ((3 + 9 * t) + 1)) hb) 0 rfl rfl m411 m412 m413 m30 (by decide +kernel) rfl (Nat.le_of_ble_eq_true rfl) ⟨by decide, by decide⟩ ⟨by decide, by decide⟩ rfl rfl m414 d_L_law_979 (fun v w1 hg => ?_)
    obtain ⟨rfl, rfl⟩ := hg
    show V κ 4 56 549 982 [(3, .int (nI (3 + 9 * t))), (2, .ref m), (1, .ref o), (0, .ref b)] [.int (-1 : Int32)] (wA (WM κ.z o sa la e d e1 e2 e3 l0 l1 l2 l3 dr sf nS fs fl nw ls cnt hl hh nu lo hi st sin sta tt er vl vh sb (if st = true then tb + 1 else 16) gG gE gU sg) (WT κ.z m aK aP aQ aT aW aO aM aL aH aI aS aR aX aF aY aJ aG aE aU nS dr sf nw tA tL tl tg st sb tb vl vh tt er sin sta gK gP gQ gT gW gO gM gL gH gI gS gR gX gF gY gN gG gE gU))
    refine v_aload_n X 1 d_L_law_982 rfl ?_
    refine v_aload_n X 3 d_L_law_983 rfl ?_
    refine v_iload_n X 0 d_L_law_984 rfl ?_
    refine v_iconst X 1 d_L_law_985 (by decide) ?_
    refine v_iaddN X (a := (3 + 9 * t)) (b := 1) d_L_law_986 ?_
    refine v_sld X hS (j := ((3 + 9 * t) + 1)) (by omega) (by omega) d_L_law_987 ?_
    refine v_perm List.perm_append_comm ?_
    refine v_callV X (b := m) (k := 56) (n := 549) (n9 := 1) (As := [.int (xs ((3 + 9 * t) + 1))]) (rest := [.int (-1 : Int32)]) (wc := WT κ.z m aK aP aQ aT aW aO aM aL aH aI aS aR aX aF aY aJ aG aE aU nS dr sf nw tA tL tl tg st sb tb vl vh tt er sin sta gK gP gQ gT gW gO gM gL gH gI gS gR gX gF gY gN gG gE gU) (wr := WM κ.z o sa la e d e1 e2 e3 l0 l1 l2 l3 dr sf nS fs fl nw ls cnt hl hh nu lo hi st sin sta tt er vl vh sb (if st = true then tb + 1 else 16) gG gE gU sg) (u_T_holderB κ.l κ.D κ.z m aK aP aQ aT aW aO aM aL aH aI aS aR aX aF aY aJ aG aE aU nS dr sf nw tA tL tl tg st sb tb vl vh tt er sin sta gK gP gQ gT gW gO gM gL gH gI gS gR gX gF gY gN gG gE gU (xs ((3 + 9 * t) + 1)) hb) 0 rfl rfl m636 m637 m638 m36 (by decide +kernel) rfl (Nat.le_of_ble_eq_true rfl) ⟨by decide, by decide⟩ ⟨by decide, by decide⟩ rfl rfl m639 d_L_law_988 (fun v w1 hg => ?_)
    obtain ⟨rfl, rfl⟩ := hg
    refine v_perm List.perm_append_comm ?_
    show V κ 4 56 549 991 [(3, .int (nI (3 + 9 * t))), (2, .ref m), (1, .ref o), (0, .ref b)] [.int (-1 : Int32), .int (-1 : Int32)] (wA (WM κ.z o sa la e d e1 e2 e3 l0 l1 l2 l3 dr sf nS fs fl nw ls cnt hl hh nu lo hi st sin sta tt er vl vh sb (if st = true then tb + 1 else 16) gG gE gU sg) (WT κ.z m aK aP aQ aT aW aO aM aL aH aI aS aR aX aF aY aJ aG aE aU nS dr sf nw tA tL tl tg st sb tb vl vh tt er sin sta gK gP gQ gT gW gO gM gL gH gI gS gR gX gF gY gN gG gE gU))
    show V κ 4 56 549 991 [(3, .int (nI (3 + 9 * t))), (2, .ref m), (1, .ref o), (0, .ref b)] [.int (-1 : Int32), .int (-1 : Int32)] (wA (WM κ.z o sa la e d e1 e2 e3 l0 l1 l2 l3 dr sf nS fs fl nw ls cnt hl hh nu lo hi st sin sta tt er vl vh sb (if st = true then tb + 1 else 16) gG gE gU sg) (WT κ.z m aK aP aQ aT aW aO aM aL aH aI aS aR aX aF aY aJ aG aE aU nS dr sf nw tA tL tl tg st sb tb vl vh tt er sin sta gK gP gQ gT gW gO gM gL gH gI gS gR gX gF gY gN gG gE gU))
    refine v_icmp_eq X 996 d_L_law_991 (by decide) (fun c991 => ?_) (fun c991 => absurd rfl c991)
    refine v_iinc X 0 d_L_law_996 (x := nI (3 + 9 * t)) rfl (v := nI ((3 + 9 * t) + 9)) (nI_add _ _) (by decide) (lv' := [(3, .int (nI ((3 + 9 * t) + 9))), (2, .ref m), (1, .ref o), (0, .ref b)]) rfl ?_
    refine v_goto X 48 d_L_law_999 (by decide) ?_
    exact v_eq rfl (by first | rfl | (rw [show 3 + 9 * t + 9 = 3 + 9 * (t + 1) by omega])) rfl (by rfl) (ih nw ls cnt hl hh nu lo hi st sin sta tt er vl vh sb tb sg tA tL tl tg gK gP gQ gT gW gO gM gL gH gI gS gR gX gF gY gN gG gE gU (Inv_next h))

set_option maxHeartbeats 4000000 in
set_option maxRecDepth 100000 in
theorem lc_16 {κ : VC} (X : Cx κ code R_L room_1 4) (b : Nat) (o : Nat) (sa : Nat) (la : Nat) (e : Nat) (d : Nat) (e1 : Nat) (e2 : Nat) (e3 : Nat) (l0 : Nat) (l1 : Nat) (l2 : Nat) (l3 : Nat) (dr : Int32) (sf : Int32) (nS : Nat) (fs : Nat → Option Nat) (fl : Nat → Option Nat) (m : Nat) (aK : Nat) (aP : Nat) (aQ : Nat) (aT : Nat) (aW : Nat) (aO : Nat) (aM : Nat) (aL : Nat) (aH : Nat) (aI : Nat) (aS : Nat) (aR : Nat) (aX : Nat) (aF : Nat) (aY : Nat) (aJ : Nat) (aG : Nat) (aE : Nat) (aU : Nat) (L : Nat) (xs : Nat → Int32) (hS : Scr κ b L xs) (hL : L ≤ 4611) (hfl : fl 0 = some l0 ∧ fl 1 = some l1 ∧ fl 2 = some l2 ∧ fl 3 = some l3) (t : Nat) (ht : 12 + 9 * t ≤ L) (nw : Int64) (ls : Int64) (cnt : Nat) (hl : Int64) (hh : Int64) (nu : Nat → Nat) (lo : Nat → Int64) (hi : Nat → Int64) (st : Bool) (sin : Int64) (sta : Int64) (tt : Int64) (er : Int64) (vl : Int64) (vh : Int64) (sb : Int32) (tb : Int32) (sg : Nat → SvS) (tA : Bool) (tL : Int64) (tl : Int64) (tg : Int64) (gK : Nat → Int64) (gP : Nat → Bool) (gQ : Nat → Int64) (gT : Nat → Int64) (gW : Nat → Bool) (gO : Nat → Int64) (gM : Nat → Nat) (gL : Nat → Int64) (gH : Nat → Int64) (gI : Nat → Int64) (gS : Nat → Int32) (gR : Nat → Int32) (gX : Nat → Int32) (gF : Nat → Int64) (gY : Nat → Int64) (gN : Nat → Bool) (gG : Nat → Bool) (gE : Nat → Int32) (gU : Nat → Int64) (h : Inv t nS dr fs nw ls nu sin sta tt sg tA tL gK gQ gT gO gL gH gI gP gW gM gS gR gX) (ih : ∀ (nw : Int64) (ls : Int64) (cnt : Nat) (hl : Int64) (hh : Int64) (nu : Nat → Nat) (lo : Nat → Int64) (hi : Nat → Int64) (st : Bool) (sin : Int64) (sta : Int64) (tt : Int64) (er : Int64) (vl : Int64) (vh : Int64) (sb : Int32) (tb : Int32) (sg : Nat → SvS) (tA : Bool) (tL : Int64) (tl : Int64) (tg : Int64) (gK : Nat → Int64) (gP : Nat → Bool) (gQ : Nat → Int64) (gT : Nat → Int64) (gW : Nat → Bool) (gO : Nat → Int64) (gM : Nat → Nat) (gL : Nat → Int64) (gH : Nat → Int64) (gI : Nat → Int64) (gS : Nat → Int32) (gR : Nat → Int32) (gX : Nat → Int32) (gF : Nat → Int64) (gY : Nat → Int64) (gN : Nat → Bool) (gG : Nat → Bool) (gE : Nat → Int32) (gU : Nat → Int64), Inv (t + 1) nS dr fs nw ls nu sin sta tt sg tA tL gK gQ gT gO gL gH gI gP gW gM gS gR gX → V κ 4 56 549 48 [(3, .int (nI (3 + 9 * (t + 1)))), (2, .ref m), (1, .ref o), (0, .ref b)] [] (wA (WM κ.z o sa la e d e1 e2 e3 l0 l1 l2 l3 dr sf nS fs fl nw ls cnt hl hh nu lo hi st sin sta tt er vl vh sb (if st = true then tb + 1 else 16) gG gE gU sg) (WT κ.z m aK aP aQ aT aW aO aM aL aH aI aS aR aX aF aY aJ aG aE aU nS dr sf nw tA tL tl tg st sb tb vl vh tt er sin sta gK gP gQ gT gW gO gM gL gH gI gS gR gX gF gY gN gG gE gU))) : V κ 4 56 549 834 [(3, .int (nI (3 + 9 * t))), (2, .ref m), (1, .ref o), (0, .ref b)] [] (wA (WM κ.z o sa la e d e1 e2 e3 l0 l1 l2 l3 dr sf nS fs fl nw ls cnt hl hh nu lo hi st sin sta tt er vl vh sb (if st = true then tb + 1 else 16) gG gE gU sg) (WT κ.z m aK aP aQ aT aW aO aM aL aH aI aS aR aX aF aY aJ aG aE aU nS dr sf nw tA tL tl tg st sb tb vl vh tt er sin sta gK gP gQ gT gW gO gM gL gH gI gS gR gX gF gY gN gG gE gU)) := by
  have hn6 := h.1.2
  have hn1 := h.1.1
  rcases srv_cases (n := 4) (xs (3 + 9 * t + 1)) (by decide) with ⟨i, hj, hx⟩ | hb
  · rcases (show i = 0 ∨ i = 1 ∨ i = 2 ∨ i = 3 by omega) with rfl | rfl | rfl | rfl
    · skip
      show V κ 4 56 549 834 [(3, .int (nI (3 + 9 * t))), (2, .ref m), (1, .ref o), (0, .ref b)] [] (wA (WM κ.z o sa la e d e1 e2 e3 l0 l1 l2 l3 dr sf nS fs fl nw ls cnt hl hh nu lo hi st sin sta tt er vl vh sb (if st = true then tb + 1 else 16) gG gE gU sg) (WT κ.z m aK aP aQ aT aW aO aM aL aH aI aS aR aX aF aY aJ aG aE aU nS dr sf nw tA tL tl tg st sb tb vl vh tt er sin sta gK gP gQ gT gW gO gM gL gH gI gS gR gX gF gY gN gG gE gU))
      refine v_aload_n X 2 d_L_law_834 rfl ?_
      refine v_aload_n X 3 d_L_law_835 rfl ?_
      refine v_iload_n X 0 d_L_law_836 rfl ?_
      refine v_iconst X 1 d_L_law_837 (by decide) ?_
      refine v_iaddN X (a := (3 + 9 * t)) (b := 1) d_L_law_838 ?_
      refine v_sldE X hS (j := ((3 + 9 * t) + 1)) (x := nI 0) (by omega) (by omega) hx d_L_law_839 ?_
      refine v_aload_n X 3 d_L_law_840 rfl ?_
      refine v_iload_n X 0 d_L_law_841 rfl ?_
      refine v_iconst X 2 d_L_law_842 (by decide) ?_
      refine v_iaddN X (a := (3 + 9 * t)) (b := 2) d_L_law_843 ?_
      refine v_sld X hS (j := ((3 + 9 * t) + 2)) (by omega) (by omega) d_L_law_844 ?_
      refine v_aload_n X 3 d_L_law_845 rfl ?_
      refine v_iload_n X 0 d_L_law_846 rfl ?_
      refine v_iconst X 3 d_L_law_847 (by decide) ?_
      show V κ 4 56 549 848 [(3, .int (nI (3 + 9 * t))), (2, .ref m), (1, .ref o), (0, .ref b)] [.int 3, .int (nI (3 + 9 * t)), .ref b, .int (xs ((3 + 9 * t) + 2)), .int (nI 0), .ref o] (wA (WM κ.z o sa la e d e1 e2 e3 l0 l1 l2 l3 dr sf nS fs fl nw ls cnt hl hh nu lo hi st sin sta tt er vl vh sb (if st = true then tb + 1 else 16) gG gE gU sg) (WT κ.z m aK aP aQ aT aW aO aM aL aH aI aS aR aX aF aY aJ aG aE aU nS dr sf nw tA tL tl tg st sb tb vl vh tt er sin sta gK gP gQ gT gW gO gM gL gH gI gS gR gX gF gY gN gG gE gU))
      refine v_iaddN X (a := (3 + 9 * t)) (b := 3) d_L_law_848 ?_
      refine v_sld X hS (j := ((3 + 9 * t) + 3)) (by omega) (by omega) d_L_law_849 ?_
      refine v_i2l X d_L_law_850 ?_
      refine v_bipush X 32 d_L_law_851 (by decide) ?_
      refine v_lshl X d_L_law_853 ?_
      refine v_aload_n X 3 d_L_law_854 rfl ?_
      refine v_iload_n X 0 d_L_law_855 rfl ?_
      refine v_iconst X 4 d_L_law_856 (by decide) ?_
      refine v_iaddN X (a := (3 + 9 * t)) (b := 4) d_L_law_857 ?_
      refine v_sld X hS (j := ((3 + 9 * t) + 4)) (by omega) (by omega) d_L_law_858 ?_
      refine v_i2l X d_L_law_859 ?_
      refine v_ldc2 X (v := 4294967295) m640 d_L_law_860 ?_
      refine v_land X d_L_law_863 ?_
      refine v_lor X d_L_law_864 ?_
      refine v_aload_n X 3 d_L_law_865 rfl ?_
      show V κ 4 56 549 866 [(3, .int (nI (3 + 9 * t))), (2, .ref m), (1, .ref o), (0, .ref b)] [.ref b, .long ((((xs ((3 + 9 * t) + 3)).toInt64) <<< ((32 : Int32).toInt64 &&& 63)) ||| (((xs ((3 + 9 * t) + 4)).toInt64) &&& 4294967295)), .int (xs ((3 + 9 * t) + 2)), .int (nI 0), .ref o] (wA (WM κ.z o sa la e d e1 e2 e3 l0 l1 l2 l3 dr sf nS fs fl nw ls cnt hl hh nu lo hi st sin sta tt er vl vh sb (if st = true then tb + 1 else 16) gG gE gU sg) (WT κ.z m aK aP aQ aT aW aO aM aL aH aI aS aR aX aF aY aJ aG aE aU nS dr sf nw tA tL tl tg st sb tb vl vh tt er sin sta gK gP gQ gT gW gO gM gL gH gI gS gR gX gF gY gN gG gE gU))
      refine v_iload_n X 0 d_L_law_866 rfl ?_
      refine v_iconst X 5 d_L_law_867 (by decide) ?_
      refine v_iaddN X (a := (3 + 9 * t)) (b := 5) d_L_law_868 ?_
      refine v_sld X hS (j := ((3 + 9 * t) + 5)) (by omega) (by omega) d_L_law_869 ?_
      refine v_i2l X d_L_law_870 ?_
      refine v_bipush X 32 d_L_law_871 (by decide) ?_
      refine v_lshl X d_L_law_873 ?_
      refine v_aload_n X 3 d_L_law_874 rfl ?_
      refine v_iload_n X 0 d_L_law_875 rfl ?_
      refine v_bipush X 6 d_L_law_876 (by decide) ?_
      refine v_iaddN X (a := (3 + 9 * t)) (b := 6) d_L_law_878 ?_
      refine v_sld X hS (j := ((3 + 9 * t) + 6)) (by omega) (by omega) d_L_law_879 ?_
      refine v_i2l X d_L_law_880 ?_
      refine v_ldc2 X (v := 4294967295) m640 d_L_law_881 ?_
      refine v_land X d_L_law_884 ?_
      show V κ 4 56 549 885 [(3, .int (nI (3 + 9 * t))), (2, .ref m), (1, .ref o), (0, .ref b)] [.long (((xs ((3 + 9 * t) + 6)).toInt64) &&& 4294967295), .long (((xs ((3 + 9 * t) + 5)).toInt64) <<< ((32 : Int32).toInt64 &&& 63)), .long ((((xs ((3 + 9 * t) + 3)).toInt64) <<< ((32 : Int32).toInt64 &&& 63)) ||| (((xs ((3 + 9 * t) + 4)).toInt64) &&& 4294967295)), .int (xs ((3 + 9 * t) + 2)), .int (nI 0), .ref o] (wA (WM κ.z o sa la e d e1 e2 e3 l0 l1 l2 l3 dr sf nS fs fl nw ls cnt hl hh nu lo hi st sin sta tt er vl vh sb (if st = true then tb + 1 else 16) gG gE gU sg) (WT κ.z m aK aP aQ aT aW aO aM aL aH aI aS aR aX aF aY aJ aG aE aU nS dr sf nw tA tL tl tg st sb tb vl vh tt er sin sta gK gP gQ gT gW gO gM gL gH gI gS gR gX gF gY gN gG gE gU))
      refine v_lor X d_L_law_885 ?_
      refine v_callV X (b := o) (k := 56) (n := 549) (n9 := 4) (As := [.int (nI 0), .int (xs ((3 + 9 * t) + 2)), .long ((((xs ((3 + 9 * t) + 3)).toInt64) <<< ((32 : Int32).toInt64 &&& 63)) ||| (((xs ((3 + 9 * t) + 4)).toInt64) &&& 4294967295)), .long ((((xs ((3 + 9 * t) + 5)).toInt64) <<< ((32 : Int32).toInt64 &&& 63)) ||| (((xs ((3 + 9 * t) + 6)).toInt64) &&& 4294967295))]) (rest := []) (wc := WM κ.z o sa la e d e1 e2 e3 l0 l1 l2 l3 dr sf nS fs fl nw ls cnt hl hh nu lo hi st sin sta tt er vl vh sb (if st = true then tb + 1 else 16) gG gE gU sg) (wr := WT κ.z m aK aP aQ aT aW aO aM aL aH aI aS aR aX aF aY aJ aG aE aU nS dr sf nw tA tL tl tg st sb tb vl vh tt er sin sta gK gP gQ gT gW gO gM gL gH gI gS gR gX gF gY gN gG gE gU) (u_M_holdsG0 κ.l κ.D κ.z o sa la e d e1 e2 e3 l0 l1 l2 l3 dr sf nS fs fl nw ls cnt hl hh nu lo hi st sin sta tt er vl vh sb (if st = true then tb + 1 else 16) gG gE gU sg (xs ((3 + 9 * t) + 2)) ((((xs ((3 + 9 * t) + 3)).toInt64) <<< ((32 : Int32).toInt64 &&& 63)) ||| (((xs ((3 + 9 * t) + 4)).toInt64) &&& 4294967295)) ((((xs ((3 + 9 * t) + 5)).toInt64) <<< ((32 : Int32).toInt64 &&& 63)) ||| (((xs ((3 + 9 * t) + 6)).toInt64) &&& 4294967295)) (by decide) hfl.1) 0 rfl rfl m401 m402 m403 m30 (by decide +kernel) rfl (Nat.le_of_ble_eq_true rfl) ⟨by decide, by decide⟩ ⟨by decide, by decide⟩ rfl rfl m404 d_L_law_886 (fun v w1 hg => ?_)
      obtain ⟨rfl, rfl⟩ := hg
      show V κ 4 56 549 889 [(3, .int (nI (3 + 9 * t))), (2, .ref m), (1, .ref o), (0, .ref b)] [.int (bI (f_M_holdsG (gG 0) (gE 0) (gU 0) (xs ((3 + 9 * t) + 2)) ((((xs ((3 + 9 * t) + 3)).toInt64) <<< ((32 : Int32).toInt64 &&& 63)) ||| (((xs ((3 + 9 * t) + 4)).toInt64) &&& 4294967295)) ((((xs ((3 + 9 * t) + 5)).toInt64) <<< ((32 : Int32).toInt64 &&& 63)) ||| (((xs ((3 + 9 * t) + 6)).toInt64) &&& 4294967295))))] (wA (WM κ.z o sa la e d e1 e2 e3 l0 l1 l2 l3 dr sf nS fs fl nw ls cnt hl hh nu lo hi st sin sta tt er vl vh sb (if st = true then tb + 1 else 16) gG gE gU sg) (WT κ.z m aK aP aQ aT aW aO aM aL aH aI aS aR aX aF aY aJ aG aE aU nS dr sf nw tA tL tl tg st sb tb vl vh tt er sin sta gK gP gQ gT gW gO gM gL gH gI gS gR gX gF gY gN gG gE gU))
      refine v_aload_n X 1 d_L_law_889 rfl ?_
      refine v_aload_n X 3 d_L_law_890 rfl ?_
      refine v_iload_n X 0 d_L_law_891 rfl ?_
      refine v_iconst X 1 d_L_law_892 (by decide) ?_
      refine v_iaddN X (a := (3 + 9 * t)) (b := 1) d_L_law_893 ?_
      refine v_sldE X hS (j := ((3 + 9 * t) + 1)) (x := nI 0) (by omega) (by omega) hx d_L_law_894 ?_
      refine v_aload_n X 3 d_L_law_895 rfl ?_
      refine v_iload_n X 0 d_L_law_896 rfl ?_
      refine v_iconst X 2 d_L_law_897 (by decide) ?_
      refine v_iaddN X (a := (3 + 9 * t)) (b := 2) d_L_law_898 ?_
      refine v_sld X hS (j := ((3 + 9 * t) + 2)) (by omega) (by omega) d_L_law_899 ?_
      refine v_aload_n X 3 d_L_law_900 rfl ?_
      refine v_iload_n X 0 d_L_law_901 rfl ?_
      show V κ 4 56 549 902 [(3, .int (nI (3 + 9 * t))), (2, .ref m), (1, .ref o), (0, .ref b)] [.int (nI (3 + 9 * t)), .ref b, .int (xs ((3 + 9 * t) + 2)), .int (nI 0), .ref m, .int (bI (f_M_holdsG (gG 0) (gE 0) (gU 0) (xs ((3 + 9 * t) + 2)) ((((xs ((3 + 9 * t) + 3)).toInt64) <<< ((32 : Int32).toInt64 &&& 63)) ||| (((xs ((3 + 9 * t) + 4)).toInt64) &&& 4294967295)) ((((xs ((3 + 9 * t) + 5)).toInt64) <<< ((32 : Int32).toInt64 &&& 63)) ||| (((xs ((3 + 9 * t) + 6)).toInt64) &&& 4294967295))))] (wA (WM κ.z o sa la e d e1 e2 e3 l0 l1 l2 l3 dr sf nS fs fl nw ls cnt hl hh nu lo hi st sin sta tt er vl vh sb (if st = true then tb + 1 else 16) gG gE gU sg) (WT κ.z m aK aP aQ aT aW aO aM aL aH aI aS aR aX aF aY aJ aG aE aU nS dr sf nw tA tL tl tg st sb tb vl vh tt er sin sta gK gP gQ gT gW gO gM gL gH gI gS gR gX gF gY gN gG gE gU))
      refine v_iconst X 3 d_L_law_902 (by decide) ?_
      refine v_iaddN X (a := (3 + 9 * t)) (b := 3) d_L_law_903 ?_
      refine v_sld X hS (j := ((3 + 9 * t) + 3)) (by omega) (by omega) d_L_law_904 ?_
      refine v_i2l X d_L_law_905 ?_
      refine v_bipush X 32 d_L_law_906 (by decide) ?_
      refine v_lshl X d_L_law_908 ?_
      refine v_aload_n X 3 d_L_law_909 rfl ?_
      refine v_iload_n X 0 d_L_law_910 rfl ?_
      refine v_iconst X 4 d_L_law_911 (by decide) ?_
      refine v_iaddN X (a := (3 + 9 * t)) (b := 4) d_L_law_912 ?_
      refine v_sld X hS (j := ((3 + 9 * t) + 4)) (by omega) (by omega) d_L_law_913 ?_
      refine v_i2l X d_L_law_914 ?_
      refine v_ldc2 X (v := 4294967295) m640 d_L_law_915 ?_
      refine v_land X d_L_law_918 ?_
      refine v_lor X d_L_law_919 ?_
      show V κ 4 56 549 920 [(3, .int (nI (3 + 9 * t))), (2, .ref m), (1, .ref o), (0, .ref b)] [.long ((((xs ((3 + 9 * t) + 3)).toInt64) <<< ((32 : Int32).toInt64 &&& 63)) ||| (((xs ((3 + 9 * t) + 4)).toInt64) &&& 4294967295)), .int (xs ((3 + 9 * t) + 2)), .int (nI 0), .ref m, .int (bI (f_M_holdsG (gG 0) (gE 0) (gU 0) (xs ((3 + 9 * t) + 2)) ((((xs ((3 + 9 * t) + 3)).toInt64) <<< ((32 : Int32).toInt64 &&& 63)) ||| (((xs ((3 + 9 * t) + 4)).toInt64) &&& 4294967295)) ((((xs ((3 + 9 * t) + 5)).toInt64) <<< ((32 : Int32).toInt64 &&& 63)) ||| (((xs ((3 + 9 * t) + 6)).toInt64) &&& 4294967295))))] (wA (WM κ.z o sa la e d e1 e2 e3 l0 l1 l2 l3 dr sf nS fs fl nw ls cnt hl hh nu lo hi st sin sta tt er vl vh sb (if st = true then tb + 1 else 16) gG gE gU sg) (WT κ.z m aK aP aQ aT aW aO aM aL aH aI aS aR aX aF aY aJ aG aE aU nS dr sf nw tA tL tl tg st sb tb vl vh tt er sin sta gK gP gQ gT gW gO gM gL gH gI gS gR gX gF gY gN gG gE gU))
      refine v_aload_n X 3 d_L_law_920 rfl ?_
      refine v_iload_n X 0 d_L_law_921 rfl ?_
      refine v_iconst X 5 d_L_law_922 (by decide) ?_
      refine v_iaddN X (a := (3 + 9 * t)) (b := 5) d_L_law_923 ?_
      refine v_sld X hS (j := ((3 + 9 * t) + 5)) (by omega) (by omega) d_L_law_924 ?_
      refine v_i2l X d_L_law_925 ?_
      refine v_bipush X 32 d_L_law_926 (by decide) ?_
      refine v_lshl X d_L_law_928 ?_
      refine v_aload_n X 3 d_L_law_929 rfl ?_
      refine v_iload_n X 0 d_L_law_930 rfl ?_
      refine v_bipush X 6 d_L_law_931 (by decide) ?_
      refine v_iaddN X (a := (3 + 9 * t)) (b := 6) d_L_law_933 ?_
      refine v_sld X hS (j := ((3 + 9 * t) + 6)) (by omega) (by omega) d_L_law_934 ?_
      refine v_i2l X d_L_law_935 ?_
      refine v_ldc2 X (v := 4294967295) m640 d_L_law_936 ?_
      show V κ 4 56 549 939 [(3, .int (nI (3 + 9 * t))), (2, .ref m), (1, .ref o), (0, .ref b)] [.long 4294967295, .long ((xs ((3 + 9 * t) + 6)).toInt64), .long (((xs ((3 + 9 * t) + 5)).toInt64) <<< ((32 : Int32).toInt64 &&& 63)), .long ((((xs ((3 + 9 * t) + 3)).toInt64) <<< ((32 : Int32).toInt64 &&& 63)) ||| (((xs ((3 + 9 * t) + 4)).toInt64) &&& 4294967295)), .int (xs ((3 + 9 * t) + 2)), .int (nI 0), .ref m, .int (bI (f_M_holdsG (gG 0) (gE 0) (gU 0) (xs ((3 + 9 * t) + 2)) ((((xs ((3 + 9 * t) + 3)).toInt64) <<< ((32 : Int32).toInt64 &&& 63)) ||| (((xs ((3 + 9 * t) + 4)).toInt64) &&& 4294967295)) ((((xs ((3 + 9 * t) + 5)).toInt64) <<< ((32 : Int32).toInt64 &&& 63)) ||| (((xs ((3 + 9 * t) + 6)).toInt64) &&& 4294967295))))] (wA (WM κ.z o sa la e d e1 e2 e3 l0 l1 l2 l3 dr sf nS fs fl nw ls cnt hl hh nu lo hi st sin sta tt er vl vh sb (if st = true then tb + 1 else 16) gG gE gU sg) (WT κ.z m aK aP aQ aT aW aO aM aL aH aI aS aR aX aF aY aJ aG aE aU nS dr sf nw tA tL tl tg st sb tb vl vh tt er sin sta gK gP gQ gT gW gO gM gL gH gI gS gR gX gF gY gN gG gE gU))
      refine v_land X d_L_law_939 ?_
      refine v_lor X d_L_law_940 ?_
      refine v_perm List.perm_append_comm ?_
      refine v_callV X (b := m) (k := 56) (n := 549) (n9 := 4) (As := [.int (nI 0), .int (xs ((3 + 9 * t) + 2)), .long ((((xs ((3 + 9 * t) + 3)).toInt64) <<< ((32 : Int32).toInt64 &&& 63)) ||| (((xs ((3 + 9 * t) + 4)).toInt64) &&& 4294967295)), .long ((((xs ((3 + 9 * t) + 5)).toInt64) <<< ((32 : Int32).toInt64 &&& 63)) ||| (((xs ((3 + 9 * t) + 6)).toInt64) &&& 4294967295))]) (rest := [.int (bI (f_M_holdsG (gG 0) (gE 0) (gU 0) (xs ((3 + 9 * t) + 2)) ((((xs ((3 + 9 * t) + 3)).toInt64) <<< ((32 : Int32).toInt64 &&& 63)) ||| (((xs ((3 + 9 * t) + 4)).toInt64) &&& 4294967295)) ((((xs ((3 + 9 * t) + 5)).toInt64) <<< ((32 : Int32).toInt64 &&& 63)) ||| (((xs ((3 + 9 * t) + 6)).toInt64) &&& 4294967295))))]) (wc := WT κ.z m aK aP aQ aT aW aO aM aL aH aI aS aR aX aF aY aJ aG aE aU nS dr sf nw tA tL tl tg st sb tb vl vh tt er sin sta gK gP gQ gT gW gO gM gL gH gI gS gR gX gF gY gN gG gE gU) (wr := WM κ.z o sa la e d e1 e2 e3 l0 l1 l2 l3 dr sf nS fs fl nw ls cnt hl hh nu lo hi st sin sta tt er vl vh sb (if st = true then tb + 1 else 16) gG gE gU sg) (u_T_holdsG κ.l κ.D κ.z m aK aP aQ aT aW aO aM aL aH aI aS aR aX aF aY aJ aG aE aU nS dr sf nw tA tL tl tg st sb tb vl vh tt er sin sta gK gP gQ gT gW gO gM gL gH gI gS gR gX gF gY gN gG gE gU 0 (xs ((3 + 9 * t) + 2)) ((((xs ((3 + 9 * t) + 3)).toInt64) <<< ((32 : Int32).toInt64 &&& 63)) ||| (((xs ((3 + 9 * t) + 4)).toInt64) &&& 4294967295)) ((((xs ((3 + 9 * t) + 5)).toInt64) <<< ((32 : Int32).toInt64 &&& 63)) ||| (((xs ((3 + 9 * t) + 6)).toInt64) &&& 4294967295)) (by decide)) 0 rfl rfl m626 m627 m628 m36 (by decide +kernel) rfl (Nat.le_of_ble_eq_true rfl) ⟨by decide, by decide⟩ ⟨by decide, by decide⟩ rfl rfl m629 d_L_law_941 (fun v w1 hg => ?_)
      obtain ⟨rfl, rfl⟩ := hg
      refine v_perm List.perm_append_comm ?_
      show V κ 4 56 549 944 [(3, .int (nI (3 + 9 * t))), (2, .ref m), (1, .ref o), (0, .ref b)] [.int (bI (f_T_holdsG gG gE gU 0 (xs ((3 + 9 * t) + 2)) ((((xs ((3 + 9 * t) + 3)).toInt64) <<< ((32 : Int32).toInt64 &&& 63)) ||| (((xs ((3 + 9 * t) + 4)).toInt64) &&& 4294967295)) ((((xs ((3 + 9 * t) + 5)).toInt64) <<< ((32 : Int32).toInt64 &&& 63)) ||| (((xs ((3 + 9 * t) + 6)).toInt64) &&& 4294967295)))), .int (bI (f_M_holdsG (gG 0) (gE 0) (gU 0) (xs ((3 + 9 * t) + 2)) ((((xs ((3 + 9 * t) + 3)).toInt64) <<< ((32 : Int32).toInt64 &&& 63)) ||| (((xs ((3 + 9 * t) + 4)).toInt64) &&& 4294967295)) ((((xs ((3 + 9 * t) + 5)).toInt64) <<< ((32 : Int32).toInt64 &&& 63)) ||| (((xs ((3 + 9 * t) + 6)).toInt64) &&& 4294967295))))] (wA (WM κ.z o sa la e d e1 e2 e3 l0 l1 l2 l3 dr sf nS fs fl nw ls cnt hl hh nu lo hi st sin sta tt er vl vh sb (if st = true then tb + 1 else 16) gG gE gU sg) (WT κ.z m aK aP aQ aT aW aO aM aL aH aI aS aR aX aF aY aJ aG aE aU nS dr sf nw tA tL tl tg st sb tb vl vh tt er sin sta gK gP gQ gT gW gO gM gL gH gI gS gR gX gF gY gN gG gE gU))
      refine v_icmp_eq X 996 d_L_law_944 (by decide) (fun c944 => ?_) (fun c944 => absurd (congrArg bI (holds_eq _ _ _ gG gE gU 0 rfl rfl rfl _ _ _)) c944)
      refine v_iinc X 0 d_L_law_996 (x := nI (3 + 9 * t)) rfl (v := nI ((3 + 9 * t) + 9)) (nI_add _ _) (by decide) (lv' := [(3, .int (nI ((3 + 9 * t) + 9))), (2, .ref m), (1, .ref o), (0, .ref b)]) rfl ?_
      refine v_goto X 48 d_L_law_999 (by decide) ?_
      exact v_eq rfl (by first | rfl | (rw [show 3 + 9 * t + 9 = 3 + 9 * (t + 1) by omega])) rfl (by rfl) (ih nw ls cnt hl hh nu lo hi st sin sta tt er vl vh sb tb sg tA tL tl tg gK gP gQ gT gW gO gM gL gH gI gS gR gX gF gY gN gG gE gU (Inv_next h))
    · skip
      show V κ 4 56 549 834 [(3, .int (nI (3 + 9 * t))), (2, .ref m), (1, .ref o), (0, .ref b)] [] (wA (WM κ.z o sa la e d e1 e2 e3 l0 l1 l2 l3 dr sf nS fs fl nw ls cnt hl hh nu lo hi st sin sta tt er vl vh sb (if st = true then tb + 1 else 16) gG gE gU sg) (WT κ.z m aK aP aQ aT aW aO aM aL aH aI aS aR aX aF aY aJ aG aE aU nS dr sf nw tA tL tl tg st sb tb vl vh tt er sin sta gK gP gQ gT gW gO gM gL gH gI gS gR gX gF gY gN gG gE gU))
      refine v_aload_n X 2 d_L_law_834 rfl ?_
      refine v_aload_n X 3 d_L_law_835 rfl ?_
      refine v_iload_n X 0 d_L_law_836 rfl ?_
      refine v_iconst X 1 d_L_law_837 (by decide) ?_
      refine v_iaddN X (a := (3 + 9 * t)) (b := 1) d_L_law_838 ?_
      refine v_sldE X hS (j := ((3 + 9 * t) + 1)) (x := nI 1) (by omega) (by omega) hx d_L_law_839 ?_
      refine v_aload_n X 3 d_L_law_840 rfl ?_
      refine v_iload_n X 0 d_L_law_841 rfl ?_
      refine v_iconst X 2 d_L_law_842 (by decide) ?_
      refine v_iaddN X (a := (3 + 9 * t)) (b := 2) d_L_law_843 ?_
      refine v_sld X hS (j := ((3 + 9 * t) + 2)) (by omega) (by omega) d_L_law_844 ?_
      refine v_aload_n X 3 d_L_law_845 rfl ?_
      refine v_iload_n X 0 d_L_law_846 rfl ?_
      refine v_iconst X 3 d_L_law_847 (by decide) ?_
      show V κ 4 56 549 848 [(3, .int (nI (3 + 9 * t))), (2, .ref m), (1, .ref o), (0, .ref b)] [.int 3, .int (nI (3 + 9 * t)), .ref b, .int (xs ((3 + 9 * t) + 2)), .int (nI 1), .ref o] (wA (WM κ.z o sa la e d e1 e2 e3 l0 l1 l2 l3 dr sf nS fs fl nw ls cnt hl hh nu lo hi st sin sta tt er vl vh sb (if st = true then tb + 1 else 16) gG gE gU sg) (WT κ.z m aK aP aQ aT aW aO aM aL aH aI aS aR aX aF aY aJ aG aE aU nS dr sf nw tA tL tl tg st sb tb vl vh tt er sin sta gK gP gQ gT gW gO gM gL gH gI gS gR gX gF gY gN gG gE gU))
      refine v_iaddN X (a := (3 + 9 * t)) (b := 3) d_L_law_848 ?_
      refine v_sld X hS (j := ((3 + 9 * t) + 3)) (by omega) (by omega) d_L_law_849 ?_
      refine v_i2l X d_L_law_850 ?_
      refine v_bipush X 32 d_L_law_851 (by decide) ?_
      refine v_lshl X d_L_law_853 ?_
      refine v_aload_n X 3 d_L_law_854 rfl ?_
      refine v_iload_n X 0 d_L_law_855 rfl ?_
      refine v_iconst X 4 d_L_law_856 (by decide) ?_
      refine v_iaddN X (a := (3 + 9 * t)) (b := 4) d_L_law_857 ?_
      refine v_sld X hS (j := ((3 + 9 * t) + 4)) (by omega) (by omega) d_L_law_858 ?_
      refine v_i2l X d_L_law_859 ?_
      refine v_ldc2 X (v := 4294967295) m640 d_L_law_860 ?_
      refine v_land X d_L_law_863 ?_
      refine v_lor X d_L_law_864 ?_
      refine v_aload_n X 3 d_L_law_865 rfl ?_
      show V κ 4 56 549 866 [(3, .int (nI (3 + 9 * t))), (2, .ref m), (1, .ref o), (0, .ref b)] [.ref b, .long ((((xs ((3 + 9 * t) + 3)).toInt64) <<< ((32 : Int32).toInt64 &&& 63)) ||| (((xs ((3 + 9 * t) + 4)).toInt64) &&& 4294967295)), .int (xs ((3 + 9 * t) + 2)), .int (nI 1), .ref o] (wA (WM κ.z o sa la e d e1 e2 e3 l0 l1 l2 l3 dr sf nS fs fl nw ls cnt hl hh nu lo hi st sin sta tt er vl vh sb (if st = true then tb + 1 else 16) gG gE gU sg) (WT κ.z m aK aP aQ aT aW aO aM aL aH aI aS aR aX aF aY aJ aG aE aU nS dr sf nw tA tL tl tg st sb tb vl vh tt er sin sta gK gP gQ gT gW gO gM gL gH gI gS gR gX gF gY gN gG gE gU))
      refine v_iload_n X 0 d_L_law_866 rfl ?_
      refine v_iconst X 5 d_L_law_867 (by decide) ?_
      refine v_iaddN X (a := (3 + 9 * t)) (b := 5) d_L_law_868 ?_
      refine v_sld X hS (j := ((3 + 9 * t) + 5)) (by omega) (by omega) d_L_law_869 ?_
      refine v_i2l X d_L_law_870 ?_
      refine v_bipush X 32 d_L_law_871 (by decide) ?_
      refine v_lshl X d_L_law_873 ?_
      refine v_aload_n X 3 d_L_law_874 rfl ?_
      refine v_iload_n X 0 d_L_law_875 rfl ?_
      refine v_bipush X 6 d_L_law_876 (by decide) ?_
      refine v_iaddN X (a := (3 + 9 * t)) (b := 6) d_L_law_878 ?_
      refine v_sld X hS (j := ((3 + 9 * t) + 6)) (by omega) (by omega) d_L_law_879 ?_
      refine v_i2l X d_L_law_880 ?_
      refine v_ldc2 X (v := 4294967295) m640 d_L_law_881 ?_
      refine v_land X d_L_law_884 ?_
      show V κ 4 56 549 885 [(3, .int (nI (3 + 9 * t))), (2, .ref m), (1, .ref o), (0, .ref b)] [.long (((xs ((3 + 9 * t) + 6)).toInt64) &&& 4294967295), .long (((xs ((3 + 9 * t) + 5)).toInt64) <<< ((32 : Int32).toInt64 &&& 63)), .long ((((xs ((3 + 9 * t) + 3)).toInt64) <<< ((32 : Int32).toInt64 &&& 63)) ||| (((xs ((3 + 9 * t) + 4)).toInt64) &&& 4294967295)), .int (xs ((3 + 9 * t) + 2)), .int (nI 1), .ref o] (wA (WM κ.z o sa la e d e1 e2 e3 l0 l1 l2 l3 dr sf nS fs fl nw ls cnt hl hh nu lo hi st sin sta tt er vl vh sb (if st = true then tb + 1 else 16) gG gE gU sg) (WT κ.z m aK aP aQ aT aW aO aM aL aH aI aS aR aX aF aY aJ aG aE aU nS dr sf nw tA tL tl tg st sb tb vl vh tt er sin sta gK gP gQ gT gW gO gM gL gH gI gS gR gX gF gY gN gG gE gU))
      refine v_lor X d_L_law_885 ?_
      refine v_callV X (b := o) (k := 56) (n := 549) (n9 := 4) (As := [.int (nI 1), .int (xs ((3 + 9 * t) + 2)), .long ((((xs ((3 + 9 * t) + 3)).toInt64) <<< ((32 : Int32).toInt64 &&& 63)) ||| (((xs ((3 + 9 * t) + 4)).toInt64) &&& 4294967295)), .long ((((xs ((3 + 9 * t) + 5)).toInt64) <<< ((32 : Int32).toInt64 &&& 63)) ||| (((xs ((3 + 9 * t) + 6)).toInt64) &&& 4294967295))]) (rest := []) (wc := WM κ.z o sa la e d e1 e2 e3 l0 l1 l2 l3 dr sf nS fs fl nw ls cnt hl hh nu lo hi st sin sta tt er vl vh sb (if st = true then tb + 1 else 16) gG gE gU sg) (wr := WT κ.z m aK aP aQ aT aW aO aM aL aH aI aS aR aX aF aY aJ aG aE aU nS dr sf nw tA tL tl tg st sb tb vl vh tt er sin sta gK gP gQ gT gW gO gM gL gH gI gS gR gX gF gY gN gG gE gU) (u_M_holdsG1 κ.l κ.D κ.z o sa la e d e1 e2 e3 l0 l1 l2 l3 dr sf nS fs fl nw ls cnt hl hh nu lo hi st sin sta tt er vl vh sb (if st = true then tb + 1 else 16) gG gE gU sg (xs ((3 + 9 * t) + 2)) ((((xs ((3 + 9 * t) + 3)).toInt64) <<< ((32 : Int32).toInt64 &&& 63)) ||| (((xs ((3 + 9 * t) + 4)).toInt64) &&& 4294967295)) ((((xs ((3 + 9 * t) + 5)).toInt64) <<< ((32 : Int32).toInt64 &&& 63)) ||| (((xs ((3 + 9 * t) + 6)).toInt64) &&& 4294967295)) (by decide) hfl.2.1) 0 rfl rfl m401 m402 m403 m30 (by decide +kernel) rfl (Nat.le_of_ble_eq_true rfl) ⟨by decide, by decide⟩ ⟨by decide, by decide⟩ rfl rfl m404 d_L_law_886 (fun v w1 hg => ?_)
      obtain ⟨rfl, rfl⟩ := hg
      show V κ 4 56 549 889 [(3, .int (nI (3 + 9 * t))), (2, .ref m), (1, .ref o), (0, .ref b)] [.int (bI (f_M_holdsG (gG 1) (gE 1) (gU 1) (xs ((3 + 9 * t) + 2)) ((((xs ((3 + 9 * t) + 3)).toInt64) <<< ((32 : Int32).toInt64 &&& 63)) ||| (((xs ((3 + 9 * t) + 4)).toInt64) &&& 4294967295)) ((((xs ((3 + 9 * t) + 5)).toInt64) <<< ((32 : Int32).toInt64 &&& 63)) ||| (((xs ((3 + 9 * t) + 6)).toInt64) &&& 4294967295))))] (wA (WM κ.z o sa la e d e1 e2 e3 l0 l1 l2 l3 dr sf nS fs fl nw ls cnt hl hh nu lo hi st sin sta tt er vl vh sb (if st = true then tb + 1 else 16) gG gE gU sg) (WT κ.z m aK aP aQ aT aW aO aM aL aH aI aS aR aX aF aY aJ aG aE aU nS dr sf nw tA tL tl tg st sb tb vl vh tt er sin sta gK gP gQ gT gW gO gM gL gH gI gS gR gX gF gY gN gG gE gU))
      refine v_aload_n X 1 d_L_law_889 rfl ?_
      refine v_aload_n X 3 d_L_law_890 rfl ?_
      refine v_iload_n X 0 d_L_law_891 rfl ?_
      refine v_iconst X 1 d_L_law_892 (by decide) ?_
      refine v_iaddN X (a := (3 + 9 * t)) (b := 1) d_L_law_893 ?_
      refine v_sldE X hS (j := ((3 + 9 * t) + 1)) (x := nI 1) (by omega) (by omega) hx d_L_law_894 ?_
      refine v_aload_n X 3 d_L_law_895 rfl ?_
      refine v_iload_n X 0 d_L_law_896 rfl ?_
      refine v_iconst X 2 d_L_law_897 (by decide) ?_
      refine v_iaddN X (a := (3 + 9 * t)) (b := 2) d_L_law_898 ?_
      refine v_sld X hS (j := ((3 + 9 * t) + 2)) (by omega) (by omega) d_L_law_899 ?_
      refine v_aload_n X 3 d_L_law_900 rfl ?_
      refine v_iload_n X 0 d_L_law_901 rfl ?_
      show V κ 4 56 549 902 [(3, .int (nI (3 + 9 * t))), (2, .ref m), (1, .ref o), (0, .ref b)] [.int (nI (3 + 9 * t)), .ref b, .int (xs ((3 + 9 * t) + 2)), .int (nI 1), .ref m, .int (bI (f_M_holdsG (gG 1) (gE 1) (gU 1) (xs ((3 + 9 * t) + 2)) ((((xs ((3 + 9 * t) + 3)).toInt64) <<< ((32 : Int32).toInt64 &&& 63)) ||| (((xs ((3 + 9 * t) + 4)).toInt64) &&& 4294967295)) ((((xs ((3 + 9 * t) + 5)).toInt64) <<< ((32 : Int32).toInt64 &&& 63)) ||| (((xs ((3 + 9 * t) + 6)).toInt64) &&& 4294967295))))] (wA (WM κ.z o sa la e d e1 e2 e3 l0 l1 l2 l3 dr sf nS fs fl nw ls cnt hl hh nu lo hi st sin sta tt er vl vh sb (if st = true then tb + 1 else 16) gG gE gU sg) (WT κ.z m aK aP aQ aT aW aO aM aL aH aI aS aR aX aF aY aJ aG aE aU nS dr sf nw tA tL tl tg st sb tb vl vh tt er sin sta gK gP gQ gT gW gO gM gL gH gI gS gR gX gF gY gN gG gE gU))
      refine v_iconst X 3 d_L_law_902 (by decide) ?_
      refine v_iaddN X (a := (3 + 9 * t)) (b := 3) d_L_law_903 ?_
      refine v_sld X hS (j := ((3 + 9 * t) + 3)) (by omega) (by omega) d_L_law_904 ?_
      refine v_i2l X d_L_law_905 ?_
      refine v_bipush X 32 d_L_law_906 (by decide) ?_
      refine v_lshl X d_L_law_908 ?_
      refine v_aload_n X 3 d_L_law_909 rfl ?_
      refine v_iload_n X 0 d_L_law_910 rfl ?_
      refine v_iconst X 4 d_L_law_911 (by decide) ?_
      refine v_iaddN X (a := (3 + 9 * t)) (b := 4) d_L_law_912 ?_
      refine v_sld X hS (j := ((3 + 9 * t) + 4)) (by omega) (by omega) d_L_law_913 ?_
      refine v_i2l X d_L_law_914 ?_
      refine v_ldc2 X (v := 4294967295) m640 d_L_law_915 ?_
      refine v_land X d_L_law_918 ?_
      refine v_lor X d_L_law_919 ?_
      show V κ 4 56 549 920 [(3, .int (nI (3 + 9 * t))), (2, .ref m), (1, .ref o), (0, .ref b)] [.long ((((xs ((3 + 9 * t) + 3)).toInt64) <<< ((32 : Int32).toInt64 &&& 63)) ||| (((xs ((3 + 9 * t) + 4)).toInt64) &&& 4294967295)), .int (xs ((3 + 9 * t) + 2)), .int (nI 1), .ref m, .int (bI (f_M_holdsG (gG 1) (gE 1) (gU 1) (xs ((3 + 9 * t) + 2)) ((((xs ((3 + 9 * t) + 3)).toInt64) <<< ((32 : Int32).toInt64 &&& 63)) ||| (((xs ((3 + 9 * t) + 4)).toInt64) &&& 4294967295)) ((((xs ((3 + 9 * t) + 5)).toInt64) <<< ((32 : Int32).toInt64 &&& 63)) ||| (((xs ((3 + 9 * t) + 6)).toInt64) &&& 4294967295))))] (wA (WM κ.z o sa la e d e1 e2 e3 l0 l1 l2 l3 dr sf nS fs fl nw ls cnt hl hh nu lo hi st sin sta tt er vl vh sb (if st = true then tb + 1 else 16) gG gE gU sg) (WT κ.z m aK aP aQ aT aW aO aM aL aH aI aS aR aX aF aY aJ aG aE aU nS dr sf nw tA tL tl tg st sb tb vl vh tt er sin sta gK gP gQ gT gW gO gM gL gH gI gS gR gX gF gY gN gG gE gU))
      refine v_aload_n X 3 d_L_law_920 rfl ?_
      refine v_iload_n X 0 d_L_law_921 rfl ?_
      refine v_iconst X 5 d_L_law_922 (by decide) ?_
      refine v_iaddN X (a := (3 + 9 * t)) (b := 5) d_L_law_923 ?_
      refine v_sld X hS (j := ((3 + 9 * t) + 5)) (by omega) (by omega) d_L_law_924 ?_
      refine v_i2l X d_L_law_925 ?_
      refine v_bipush X 32 d_L_law_926 (by decide) ?_
      refine v_lshl X d_L_law_928 ?_
      refine v_aload_n X 3 d_L_law_929 rfl ?_
      refine v_iload_n X 0 d_L_law_930 rfl ?_
      refine v_bipush X 6 d_L_law_931 (by decide) ?_
      refine v_iaddN X (a := (3 + 9 * t)) (b := 6) d_L_law_933 ?_
      refine v_sld X hS (j := ((3 + 9 * t) + 6)) (by omega) (by omega) d_L_law_934 ?_
      refine v_i2l X d_L_law_935 ?_
      refine v_ldc2 X (v := 4294967295) m640 d_L_law_936 ?_
      show V κ 4 56 549 939 [(3, .int (nI (3 + 9 * t))), (2, .ref m), (1, .ref o), (0, .ref b)] [.long 4294967295, .long ((xs ((3 + 9 * t) + 6)).toInt64), .long (((xs ((3 + 9 * t) + 5)).toInt64) <<< ((32 : Int32).toInt64 &&& 63)), .long ((((xs ((3 + 9 * t) + 3)).toInt64) <<< ((32 : Int32).toInt64 &&& 63)) ||| (((xs ((3 + 9 * t) + 4)).toInt64) &&& 4294967295)), .int (xs ((3 + 9 * t) + 2)), .int (nI 1), .ref m, .int (bI (f_M_holdsG (gG 1) (gE 1) (gU 1) (xs ((3 + 9 * t) + 2)) ((((xs ((3 + 9 * t) + 3)).toInt64) <<< ((32 : Int32).toInt64 &&& 63)) ||| (((xs ((3 + 9 * t) + 4)).toInt64) &&& 4294967295)) ((((xs ((3 + 9 * t) + 5)).toInt64) <<< ((32 : Int32).toInt64 &&& 63)) ||| (((xs ((3 + 9 * t) + 6)).toInt64) &&& 4294967295))))] (wA (WM κ.z o sa la e d e1 e2 e3 l0 l1 l2 l3 dr sf nS fs fl nw ls cnt hl hh nu lo hi st sin sta tt er vl vh sb (if st = true then tb + 1 else 16) gG gE gU sg) (WT κ.z m aK aP aQ aT aW aO aM aL aH aI aS aR aX aF aY aJ aG aE aU nS dr sf nw tA tL tl tg st sb tb vl vh tt er sin sta gK gP gQ gT gW gO gM gL gH gI gS gR gX gF gY gN gG gE gU))
      refine v_land X d_L_law_939 ?_
      refine v_lor X d_L_law_940 ?_
      refine v_perm List.perm_append_comm ?_
      refine v_callV X (b := m) (k := 56) (n := 549) (n9 := 4) (As := [.int (nI 1), .int (xs ((3 + 9 * t) + 2)), .long ((((xs ((3 + 9 * t) + 3)).toInt64) <<< ((32 : Int32).toInt64 &&& 63)) ||| (((xs ((3 + 9 * t) + 4)).toInt64) &&& 4294967295)), .long ((((xs ((3 + 9 * t) + 5)).toInt64) <<< ((32 : Int32).toInt64 &&& 63)) ||| (((xs ((3 + 9 * t) + 6)).toInt64) &&& 4294967295))]) (rest := [.int (bI (f_M_holdsG (gG 1) (gE 1) (gU 1) (xs ((3 + 9 * t) + 2)) ((((xs ((3 + 9 * t) + 3)).toInt64) <<< ((32 : Int32).toInt64 &&& 63)) ||| (((xs ((3 + 9 * t) + 4)).toInt64) &&& 4294967295)) ((((xs ((3 + 9 * t) + 5)).toInt64) <<< ((32 : Int32).toInt64 &&& 63)) ||| (((xs ((3 + 9 * t) + 6)).toInt64) &&& 4294967295))))]) (wc := WT κ.z m aK aP aQ aT aW aO aM aL aH aI aS aR aX aF aY aJ aG aE aU nS dr sf nw tA tL tl tg st sb tb vl vh tt er sin sta gK gP gQ gT gW gO gM gL gH gI gS gR gX gF gY gN gG gE gU) (wr := WM κ.z o sa la e d e1 e2 e3 l0 l1 l2 l3 dr sf nS fs fl nw ls cnt hl hh nu lo hi st sin sta tt er vl vh sb (if st = true then tb + 1 else 16) gG gE gU sg) (u_T_holdsG κ.l κ.D κ.z m aK aP aQ aT aW aO aM aL aH aI aS aR aX aF aY aJ aG aE aU nS dr sf nw tA tL tl tg st sb tb vl vh tt er sin sta gK gP gQ gT gW gO gM gL gH gI gS gR gX gF gY gN gG gE gU 1 (xs ((3 + 9 * t) + 2)) ((((xs ((3 + 9 * t) + 3)).toInt64) <<< ((32 : Int32).toInt64 &&& 63)) ||| (((xs ((3 + 9 * t) + 4)).toInt64) &&& 4294967295)) ((((xs ((3 + 9 * t) + 5)).toInt64) <<< ((32 : Int32).toInt64 &&& 63)) ||| (((xs ((3 + 9 * t) + 6)).toInt64) &&& 4294967295)) (by decide)) 0 rfl rfl m626 m627 m628 m36 (by decide +kernel) rfl (Nat.le_of_ble_eq_true rfl) ⟨by decide, by decide⟩ ⟨by decide, by decide⟩ rfl rfl m629 d_L_law_941 (fun v w1 hg => ?_)
      obtain ⟨rfl, rfl⟩ := hg
      refine v_perm List.perm_append_comm ?_
      show V κ 4 56 549 944 [(3, .int (nI (3 + 9 * t))), (2, .ref m), (1, .ref o), (0, .ref b)] [.int (bI (f_T_holdsG gG gE gU 1 (xs ((3 + 9 * t) + 2)) ((((xs ((3 + 9 * t) + 3)).toInt64) <<< ((32 : Int32).toInt64 &&& 63)) ||| (((xs ((3 + 9 * t) + 4)).toInt64) &&& 4294967295)) ((((xs ((3 + 9 * t) + 5)).toInt64) <<< ((32 : Int32).toInt64 &&& 63)) ||| (((xs ((3 + 9 * t) + 6)).toInt64) &&& 4294967295)))), .int (bI (f_M_holdsG (gG 1) (gE 1) (gU 1) (xs ((3 + 9 * t) + 2)) ((((xs ((3 + 9 * t) + 3)).toInt64) <<< ((32 : Int32).toInt64 &&& 63)) ||| (((xs ((3 + 9 * t) + 4)).toInt64) &&& 4294967295)) ((((xs ((3 + 9 * t) + 5)).toInt64) <<< ((32 : Int32).toInt64 &&& 63)) ||| (((xs ((3 + 9 * t) + 6)).toInt64) &&& 4294967295))))] (wA (WM κ.z o sa la e d e1 e2 e3 l0 l1 l2 l3 dr sf nS fs fl nw ls cnt hl hh nu lo hi st sin sta tt er vl vh sb (if st = true then tb + 1 else 16) gG gE gU sg) (WT κ.z m aK aP aQ aT aW aO aM aL aH aI aS aR aX aF aY aJ aG aE aU nS dr sf nw tA tL tl tg st sb tb vl vh tt er sin sta gK gP gQ gT gW gO gM gL gH gI gS gR gX gF gY gN gG gE gU))
      refine v_icmp_eq X 996 d_L_law_944 (by decide) (fun c944 => ?_) (fun c944 => absurd (congrArg bI (holds_eq _ _ _ gG gE gU 1 rfl rfl rfl _ _ _)) c944)
      refine v_iinc X 0 d_L_law_996 (x := nI (3 + 9 * t)) rfl (v := nI ((3 + 9 * t) + 9)) (nI_add _ _) (by decide) (lv' := [(3, .int (nI ((3 + 9 * t) + 9))), (2, .ref m), (1, .ref o), (0, .ref b)]) rfl ?_
      refine v_goto X 48 d_L_law_999 (by decide) ?_
      exact v_eq rfl (by first | rfl | (rw [show 3 + 9 * t + 9 = 3 + 9 * (t + 1) by omega])) rfl (by rfl) (ih nw ls cnt hl hh nu lo hi st sin sta tt er vl vh sb tb sg tA tL tl tg gK gP gQ gT gW gO gM gL gH gI gS gR gX gF gY gN gG gE gU (Inv_next h))
    · skip
      show V κ 4 56 549 834 [(3, .int (nI (3 + 9 * t))), (2, .ref m), (1, .ref o), (0, .ref b)] [] (wA (WM κ.z o sa la e d e1 e2 e3 l0 l1 l2 l3 dr sf nS fs fl nw ls cnt hl hh nu lo hi st sin sta tt er vl vh sb (if st = true then tb + 1 else 16) gG gE gU sg) (WT κ.z m aK aP aQ aT aW aO aM aL aH aI aS aR aX aF aY aJ aG aE aU nS dr sf nw tA tL tl tg st sb tb vl vh tt er sin sta gK gP gQ gT gW gO gM gL gH gI gS gR gX gF gY gN gG gE gU))
      refine v_aload_n X 2 d_L_law_834 rfl ?_
      refine v_aload_n X 3 d_L_law_835 rfl ?_
      refine v_iload_n X 0 d_L_law_836 rfl ?_
      refine v_iconst X 1 d_L_law_837 (by decide) ?_
      refine v_iaddN X (a := (3 + 9 * t)) (b := 1) d_L_law_838 ?_
      refine v_sldE X hS (j := ((3 + 9 * t) + 1)) (x := nI 2) (by omega) (by omega) hx d_L_law_839 ?_
      refine v_aload_n X 3 d_L_law_840 rfl ?_
      refine v_iload_n X 0 d_L_law_841 rfl ?_
      refine v_iconst X 2 d_L_law_842 (by decide) ?_
      refine v_iaddN X (a := (3 + 9 * t)) (b := 2) d_L_law_843 ?_
      refine v_sld X hS (j := ((3 + 9 * t) + 2)) (by omega) (by omega) d_L_law_844 ?_
      refine v_aload_n X 3 d_L_law_845 rfl ?_
      refine v_iload_n X 0 d_L_law_846 rfl ?_
      refine v_iconst X 3 d_L_law_847 (by decide) ?_
      show V κ 4 56 549 848 [(3, .int (nI (3 + 9 * t))), (2, .ref m), (1, .ref o), (0, .ref b)] [.int 3, .int (nI (3 + 9 * t)), .ref b, .int (xs ((3 + 9 * t) + 2)), .int (nI 2), .ref o] (wA (WM κ.z o sa la e d e1 e2 e3 l0 l1 l2 l3 dr sf nS fs fl nw ls cnt hl hh nu lo hi st sin sta tt er vl vh sb (if st = true then tb + 1 else 16) gG gE gU sg) (WT κ.z m aK aP aQ aT aW aO aM aL aH aI aS aR aX aF aY aJ aG aE aU nS dr sf nw tA tL tl tg st sb tb vl vh tt er sin sta gK gP gQ gT gW gO gM gL gH gI gS gR gX gF gY gN gG gE gU))
      refine v_iaddN X (a := (3 + 9 * t)) (b := 3) d_L_law_848 ?_
      refine v_sld X hS (j := ((3 + 9 * t) + 3)) (by omega) (by omega) d_L_law_849 ?_
      refine v_i2l X d_L_law_850 ?_
      refine v_bipush X 32 d_L_law_851 (by decide) ?_
      refine v_lshl X d_L_law_853 ?_
      refine v_aload_n X 3 d_L_law_854 rfl ?_
      refine v_iload_n X 0 d_L_law_855 rfl ?_
      refine v_iconst X 4 d_L_law_856 (by decide) ?_
      refine v_iaddN X (a := (3 + 9 * t)) (b := 4) d_L_law_857 ?_
      refine v_sld X hS (j := ((3 + 9 * t) + 4)) (by omega) (by omega) d_L_law_858 ?_
      refine v_i2l X d_L_law_859 ?_
      refine v_ldc2 X (v := 4294967295) m640 d_L_law_860 ?_
      refine v_land X d_L_law_863 ?_
      refine v_lor X d_L_law_864 ?_
      refine v_aload_n X 3 d_L_law_865 rfl ?_
      show V κ 4 56 549 866 [(3, .int (nI (3 + 9 * t))), (2, .ref m), (1, .ref o), (0, .ref b)] [.ref b, .long ((((xs ((3 + 9 * t) + 3)).toInt64) <<< ((32 : Int32).toInt64 &&& 63)) ||| (((xs ((3 + 9 * t) + 4)).toInt64) &&& 4294967295)), .int (xs ((3 + 9 * t) + 2)), .int (nI 2), .ref o] (wA (WM κ.z o sa la e d e1 e2 e3 l0 l1 l2 l3 dr sf nS fs fl nw ls cnt hl hh nu lo hi st sin sta tt er vl vh sb (if st = true then tb + 1 else 16) gG gE gU sg) (WT κ.z m aK aP aQ aT aW aO aM aL aH aI aS aR aX aF aY aJ aG aE aU nS dr sf nw tA tL tl tg st sb tb vl vh tt er sin sta gK gP gQ gT gW gO gM gL gH gI gS gR gX gF gY gN gG gE gU))
      refine v_iload_n X 0 d_L_law_866 rfl ?_
      refine v_iconst X 5 d_L_law_867 (by decide) ?_
      refine v_iaddN X (a := (3 + 9 * t)) (b := 5) d_L_law_868 ?_
      refine v_sld X hS (j := ((3 + 9 * t) + 5)) (by omega) (by omega) d_L_law_869 ?_
      refine v_i2l X d_L_law_870 ?_
      refine v_bipush X 32 d_L_law_871 (by decide) ?_
      refine v_lshl X d_L_law_873 ?_
      refine v_aload_n X 3 d_L_law_874 rfl ?_
      refine v_iload_n X 0 d_L_law_875 rfl ?_
      refine v_bipush X 6 d_L_law_876 (by decide) ?_
      refine v_iaddN X (a := (3 + 9 * t)) (b := 6) d_L_law_878 ?_
      refine v_sld X hS (j := ((3 + 9 * t) + 6)) (by omega) (by omega) d_L_law_879 ?_
      refine v_i2l X d_L_law_880 ?_
      refine v_ldc2 X (v := 4294967295) m640 d_L_law_881 ?_
      refine v_land X d_L_law_884 ?_
      show V κ 4 56 549 885 [(3, .int (nI (3 + 9 * t))), (2, .ref m), (1, .ref o), (0, .ref b)] [.long (((xs ((3 + 9 * t) + 6)).toInt64) &&& 4294967295), .long (((xs ((3 + 9 * t) + 5)).toInt64) <<< ((32 : Int32).toInt64 &&& 63)), .long ((((xs ((3 + 9 * t) + 3)).toInt64) <<< ((32 : Int32).toInt64 &&& 63)) ||| (((xs ((3 + 9 * t) + 4)).toInt64) &&& 4294967295)), .int (xs ((3 + 9 * t) + 2)), .int (nI 2), .ref o] (wA (WM κ.z o sa la e d e1 e2 e3 l0 l1 l2 l3 dr sf nS fs fl nw ls cnt hl hh nu lo hi st sin sta tt er vl vh sb (if st = true then tb + 1 else 16) gG gE gU sg) (WT κ.z m aK aP aQ aT aW aO aM aL aH aI aS aR aX aF aY aJ aG aE aU nS dr sf nw tA tL tl tg st sb tb vl vh tt er sin sta gK gP gQ gT gW gO gM gL gH gI gS gR gX gF gY gN gG gE gU))
      refine v_lor X d_L_law_885 ?_
      refine v_callV X (b := o) (k := 56) (n := 549) (n9 := 4) (As := [.int (nI 2), .int (xs ((3 + 9 * t) + 2)), .long ((((xs ((3 + 9 * t) + 3)).toInt64) <<< ((32 : Int32).toInt64 &&& 63)) ||| (((xs ((3 + 9 * t) + 4)).toInt64) &&& 4294967295)), .long ((((xs ((3 + 9 * t) + 5)).toInt64) <<< ((32 : Int32).toInt64 &&& 63)) ||| (((xs ((3 + 9 * t) + 6)).toInt64) &&& 4294967295))]) (rest := []) (wc := WM κ.z o sa la e d e1 e2 e3 l0 l1 l2 l3 dr sf nS fs fl nw ls cnt hl hh nu lo hi st sin sta tt er vl vh sb (if st = true then tb + 1 else 16) gG gE gU sg) (wr := WT κ.z m aK aP aQ aT aW aO aM aL aH aI aS aR aX aF aY aJ aG aE aU nS dr sf nw tA tL tl tg st sb tb vl vh tt er sin sta gK gP gQ gT gW gO gM gL gH gI gS gR gX gF gY gN gG gE gU) (u_M_holdsG2 κ.l κ.D κ.z o sa la e d e1 e2 e3 l0 l1 l2 l3 dr sf nS fs fl nw ls cnt hl hh nu lo hi st sin sta tt er vl vh sb (if st = true then tb + 1 else 16) gG gE gU sg (xs ((3 + 9 * t) + 2)) ((((xs ((3 + 9 * t) + 3)).toInt64) <<< ((32 : Int32).toInt64 &&& 63)) ||| (((xs ((3 + 9 * t) + 4)).toInt64) &&& 4294967295)) ((((xs ((3 + 9 * t) + 5)).toInt64) <<< ((32 : Int32).toInt64 &&& 63)) ||| (((xs ((3 + 9 * t) + 6)).toInt64) &&& 4294967295)) (by decide) hfl.2.2.1) 0 rfl rfl m401 m402 m403 m30 (by decide +kernel) rfl (Nat.le_of_ble_eq_true rfl) ⟨by decide, by decide⟩ ⟨by decide, by decide⟩ rfl rfl m404 d_L_law_886 (fun v w1 hg => ?_)
      obtain ⟨rfl, rfl⟩ := hg
      show V κ 4 56 549 889 [(3, .int (nI (3 + 9 * t))), (2, .ref m), (1, .ref o), (0, .ref b)] [.int (bI (f_M_holdsG (gG 2) (gE 2) (gU 2) (xs ((3 + 9 * t) + 2)) ((((xs ((3 + 9 * t) + 3)).toInt64) <<< ((32 : Int32).toInt64 &&& 63)) ||| (((xs ((3 + 9 * t) + 4)).toInt64) &&& 4294967295)) ((((xs ((3 + 9 * t) + 5)).toInt64) <<< ((32 : Int32).toInt64 &&& 63)) ||| (((xs ((3 + 9 * t) + 6)).toInt64) &&& 4294967295))))] (wA (WM κ.z o sa la e d e1 e2 e3 l0 l1 l2 l3 dr sf nS fs fl nw ls cnt hl hh nu lo hi st sin sta tt er vl vh sb (if st = true then tb + 1 else 16) gG gE gU sg) (WT κ.z m aK aP aQ aT aW aO aM aL aH aI aS aR aX aF aY aJ aG aE aU nS dr sf nw tA tL tl tg st sb tb vl vh tt er sin sta gK gP gQ gT gW gO gM gL gH gI gS gR gX gF gY gN gG gE gU))
      refine v_aload_n X 1 d_L_law_889 rfl ?_
      refine v_aload_n X 3 d_L_law_890 rfl ?_
      refine v_iload_n X 0 d_L_law_891 rfl ?_
      refine v_iconst X 1 d_L_law_892 (by decide) ?_
      refine v_iaddN X (a := (3 + 9 * t)) (b := 1) d_L_law_893 ?_
      refine v_sldE X hS (j := ((3 + 9 * t) + 1)) (x := nI 2) (by omega) (by omega) hx d_L_law_894 ?_
      refine v_aload_n X 3 d_L_law_895 rfl ?_
      refine v_iload_n X 0 d_L_law_896 rfl ?_
      refine v_iconst X 2 d_L_law_897 (by decide) ?_
      refine v_iaddN X (a := (3 + 9 * t)) (b := 2) d_L_law_898 ?_
      refine v_sld X hS (j := ((3 + 9 * t) + 2)) (by omega) (by omega) d_L_law_899 ?_
      refine v_aload_n X 3 d_L_law_900 rfl ?_
      refine v_iload_n X 0 d_L_law_901 rfl ?_
      show V κ 4 56 549 902 [(3, .int (nI (3 + 9 * t))), (2, .ref m), (1, .ref o), (0, .ref b)] [.int (nI (3 + 9 * t)), .ref b, .int (xs ((3 + 9 * t) + 2)), .int (nI 2), .ref m, .int (bI (f_M_holdsG (gG 2) (gE 2) (gU 2) (xs ((3 + 9 * t) + 2)) ((((xs ((3 + 9 * t) + 3)).toInt64) <<< ((32 : Int32).toInt64 &&& 63)) ||| (((xs ((3 + 9 * t) + 4)).toInt64) &&& 4294967295)) ((((xs ((3 + 9 * t) + 5)).toInt64) <<< ((32 : Int32).toInt64 &&& 63)) ||| (((xs ((3 + 9 * t) + 6)).toInt64) &&& 4294967295))))] (wA (WM κ.z o sa la e d e1 e2 e3 l0 l1 l2 l3 dr sf nS fs fl nw ls cnt hl hh nu lo hi st sin sta tt er vl vh sb (if st = true then tb + 1 else 16) gG gE gU sg) (WT κ.z m aK aP aQ aT aW aO aM aL aH aI aS aR aX aF aY aJ aG aE aU nS dr sf nw tA tL tl tg st sb tb vl vh tt er sin sta gK gP gQ gT gW gO gM gL gH gI gS gR gX gF gY gN gG gE gU))
      refine v_iconst X 3 d_L_law_902 (by decide) ?_
      refine v_iaddN X (a := (3 + 9 * t)) (b := 3) d_L_law_903 ?_
      refine v_sld X hS (j := ((3 + 9 * t) + 3)) (by omega) (by omega) d_L_law_904 ?_
      refine v_i2l X d_L_law_905 ?_
      refine v_bipush X 32 d_L_law_906 (by decide) ?_
      refine v_lshl X d_L_law_908 ?_
      refine v_aload_n X 3 d_L_law_909 rfl ?_
      refine v_iload_n X 0 d_L_law_910 rfl ?_
      refine v_iconst X 4 d_L_law_911 (by decide) ?_
      refine v_iaddN X (a := (3 + 9 * t)) (b := 4) d_L_law_912 ?_
      refine v_sld X hS (j := ((3 + 9 * t) + 4)) (by omega) (by omega) d_L_law_913 ?_
      refine v_i2l X d_L_law_914 ?_
      refine v_ldc2 X (v := 4294967295) m640 d_L_law_915 ?_
      refine v_land X d_L_law_918 ?_
      refine v_lor X d_L_law_919 ?_
      show V κ 4 56 549 920 [(3, .int (nI (3 + 9 * t))), (2, .ref m), (1, .ref o), (0, .ref b)] [.long ((((xs ((3 + 9 * t) + 3)).toInt64) <<< ((32 : Int32).toInt64 &&& 63)) ||| (((xs ((3 + 9 * t) + 4)).toInt64) &&& 4294967295)), .int (xs ((3 + 9 * t) + 2)), .int (nI 2), .ref m, .int (bI (f_M_holdsG (gG 2) (gE 2) (gU 2) (xs ((3 + 9 * t) + 2)) ((((xs ((3 + 9 * t) + 3)).toInt64) <<< ((32 : Int32).toInt64 &&& 63)) ||| (((xs ((3 + 9 * t) + 4)).toInt64) &&& 4294967295)) ((((xs ((3 + 9 * t) + 5)).toInt64) <<< ((32 : Int32).toInt64 &&& 63)) ||| (((xs ((3 + 9 * t) + 6)).toInt64) &&& 4294967295))))] (wA (WM κ.z o sa la e d e1 e2 e3 l0 l1 l2 l3 dr sf nS fs fl nw ls cnt hl hh nu lo hi st sin sta tt er vl vh sb (if st = true then tb + 1 else 16) gG gE gU sg) (WT κ.z m aK aP aQ aT aW aO aM aL aH aI aS aR aX aF aY aJ aG aE aU nS dr sf nw tA tL tl tg st sb tb vl vh tt er sin sta gK gP gQ gT gW gO gM gL gH gI gS gR gX gF gY gN gG gE gU))
      refine v_aload_n X 3 d_L_law_920 rfl ?_
      refine v_iload_n X 0 d_L_law_921 rfl ?_
      refine v_iconst X 5 d_L_law_922 (by decide) ?_
      refine v_iaddN X (a := (3 + 9 * t)) (b := 5) d_L_law_923 ?_
      refine v_sld X hS (j := ((3 + 9 * t) + 5)) (by omega) (by omega) d_L_law_924 ?_
      refine v_i2l X d_L_law_925 ?_
      refine v_bipush X 32 d_L_law_926 (by decide) ?_
      refine v_lshl X d_L_law_928 ?_
      refine v_aload_n X 3 d_L_law_929 rfl ?_
      refine v_iload_n X 0 d_L_law_930 rfl ?_
      refine v_bipush X 6 d_L_law_931 (by decide) ?_
      refine v_iaddN X (a := (3 + 9 * t)) (b := 6) d_L_law_933 ?_
      refine v_sld X hS (j := ((3 + 9 * t) + 6)) (by omega) (by omega) d_L_law_934 ?_
      refine v_i2l X d_L_law_935 ?_
      refine v_ldc2 X (v := 4294967295) m640 d_L_law_936 ?_
      show V κ 4 56 549 939 [(3, .int (nI (3 + 9 * t))), (2, .ref m), (1, .ref o), (0, .ref b)] [.long 4294967295, .long ((xs ((3 + 9 * t) + 6)).toInt64), .long (((xs ((3 + 9 * t) + 5)).toInt64) <<< ((32 : Int32).toInt64 &&& 63)), .long ((((xs ((3 + 9 * t) + 3)).toInt64) <<< ((32 : Int32).toInt64 &&& 63)) ||| (((xs ((3 + 9 * t) + 4)).toInt64) &&& 4294967295)), .int (xs ((3 + 9 * t) + 2)), .int (nI 2), .ref m, .int (bI (f_M_holdsG (gG 2) (gE 2) (gU 2) (xs ((3 + 9 * t) + 2)) ((((xs ((3 + 9 * t) + 3)).toInt64) <<< ((32 : Int32).toInt64 &&& 63)) ||| (((xs ((3 + 9 * t) + 4)).toInt64) &&& 4294967295)) ((((xs ((3 + 9 * t) + 5)).toInt64) <<< ((32 : Int32).toInt64 &&& 63)) ||| (((xs ((3 + 9 * t) + 6)).toInt64) &&& 4294967295))))] (wA (WM κ.z o sa la e d e1 e2 e3 l0 l1 l2 l3 dr sf nS fs fl nw ls cnt hl hh nu lo hi st sin sta tt er vl vh sb (if st = true then tb + 1 else 16) gG gE gU sg) (WT κ.z m aK aP aQ aT aW aO aM aL aH aI aS aR aX aF aY aJ aG aE aU nS dr sf nw tA tL tl tg st sb tb vl vh tt er sin sta gK gP gQ gT gW gO gM gL gH gI gS gR gX gF gY gN gG gE gU))
      refine v_land X d_L_law_939 ?_
      refine v_lor X d_L_law_940 ?_
      refine v_perm List.perm_append_comm ?_
      refine v_callV X (b := m) (k := 56) (n := 549) (n9 := 4) (As := [.int (nI 2), .int (xs ((3 + 9 * t) + 2)), .long ((((xs ((3 + 9 * t) + 3)).toInt64) <<< ((32 : Int32).toInt64 &&& 63)) ||| (((xs ((3 + 9 * t) + 4)).toInt64) &&& 4294967295)), .long ((((xs ((3 + 9 * t) + 5)).toInt64) <<< ((32 : Int32).toInt64 &&& 63)) ||| (((xs ((3 + 9 * t) + 6)).toInt64) &&& 4294967295))]) (rest := [.int (bI (f_M_holdsG (gG 2) (gE 2) (gU 2) (xs ((3 + 9 * t) + 2)) ((((xs ((3 + 9 * t) + 3)).toInt64) <<< ((32 : Int32).toInt64 &&& 63)) ||| (((xs ((3 + 9 * t) + 4)).toInt64) &&& 4294967295)) ((((xs ((3 + 9 * t) + 5)).toInt64) <<< ((32 : Int32).toInt64 &&& 63)) ||| (((xs ((3 + 9 * t) + 6)).toInt64) &&& 4294967295))))]) (wc := WT κ.z m aK aP aQ aT aW aO aM aL aH aI aS aR aX aF aY aJ aG aE aU nS dr sf nw tA tL tl tg st sb tb vl vh tt er sin sta gK gP gQ gT gW gO gM gL gH gI gS gR gX gF gY gN gG gE gU) (wr := WM κ.z o sa la e d e1 e2 e3 l0 l1 l2 l3 dr sf nS fs fl nw ls cnt hl hh nu lo hi st sin sta tt er vl vh sb (if st = true then tb + 1 else 16) gG gE gU sg) (u_T_holdsG κ.l κ.D κ.z m aK aP aQ aT aW aO aM aL aH aI aS aR aX aF aY aJ aG aE aU nS dr sf nw tA tL tl tg st sb tb vl vh tt er sin sta gK gP gQ gT gW gO gM gL gH gI gS gR gX gF gY gN gG gE gU 2 (xs ((3 + 9 * t) + 2)) ((((xs ((3 + 9 * t) + 3)).toInt64) <<< ((32 : Int32).toInt64 &&& 63)) ||| (((xs ((3 + 9 * t) + 4)).toInt64) &&& 4294967295)) ((((xs ((3 + 9 * t) + 5)).toInt64) <<< ((32 : Int32).toInt64 &&& 63)) ||| (((xs ((3 + 9 * t) + 6)).toInt64) &&& 4294967295)) (by decide)) 0 rfl rfl m626 m627 m628 m36 (by decide +kernel) rfl (Nat.le_of_ble_eq_true rfl) ⟨by decide, by decide⟩ ⟨by decide, by decide⟩ rfl rfl m629 d_L_law_941 (fun v w1 hg => ?_)
      obtain ⟨rfl, rfl⟩ := hg
      refine v_perm List.perm_append_comm ?_
      show V κ 4 56 549 944 [(3, .int (nI (3 + 9 * t))), (2, .ref m), (1, .ref o), (0, .ref b)] [.int (bI (f_T_holdsG gG gE gU 2 (xs ((3 + 9 * t) + 2)) ((((xs ((3 + 9 * t) + 3)).toInt64) <<< ((32 : Int32).toInt64 &&& 63)) ||| (((xs ((3 + 9 * t) + 4)).toInt64) &&& 4294967295)) ((((xs ((3 + 9 * t) + 5)).toInt64) <<< ((32 : Int32).toInt64 &&& 63)) ||| (((xs ((3 + 9 * t) + 6)).toInt64) &&& 4294967295)))), .int (bI (f_M_holdsG (gG 2) (gE 2) (gU 2) (xs ((3 + 9 * t) + 2)) ((((xs ((3 + 9 * t) + 3)).toInt64) <<< ((32 : Int32).toInt64 &&& 63)) ||| (((xs ((3 + 9 * t) + 4)).toInt64) &&& 4294967295)) ((((xs ((3 + 9 * t) + 5)).toInt64) <<< ((32 : Int32).toInt64 &&& 63)) ||| (((xs ((3 + 9 * t) + 6)).toInt64) &&& 4294967295))))] (wA (WM κ.z o sa la e d e1 e2 e3 l0 l1 l2 l3 dr sf nS fs fl nw ls cnt hl hh nu lo hi st sin sta tt er vl vh sb (if st = true then tb + 1 else 16) gG gE gU sg) (WT κ.z m aK aP aQ aT aW aO aM aL aH aI aS aR aX aF aY aJ aG aE aU nS dr sf nw tA tL tl tg st sb tb vl vh tt er sin sta gK gP gQ gT gW gO gM gL gH gI gS gR gX gF gY gN gG gE gU))
      refine v_icmp_eq X 996 d_L_law_944 (by decide) (fun c944 => ?_) (fun c944 => absurd (congrArg bI (holds_eq _ _ _ gG gE gU 2 rfl rfl rfl _ _ _)) c944)
      refine v_iinc X 0 d_L_law_996 (x := nI (3 + 9 * t)) rfl (v := nI ((3 + 9 * t) + 9)) (nI_add _ _) (by decide) (lv' := [(3, .int (nI ((3 + 9 * t) + 9))), (2, .ref m), (1, .ref o), (0, .ref b)]) rfl ?_
      refine v_goto X 48 d_L_law_999 (by decide) ?_
      exact v_eq rfl (by first | rfl | (rw [show 3 + 9 * t + 9 = 3 + 9 * (t + 1) by omega])) rfl (by rfl) (ih nw ls cnt hl hh nu lo hi st sin sta tt er vl vh sb tb sg tA tL tl tg gK gP gQ gT gW gO gM gL gH gI gS gR gX gF gY gN gG gE gU (Inv_next h))
    · skip
      show V κ 4 56 549 834 [(3, .int (nI (3 + 9 * t))), (2, .ref m), (1, .ref o), (0, .ref b)] [] (wA (WM κ.z o sa la e d e1 e2 e3 l0 l1 l2 l3 dr sf nS fs fl nw ls cnt hl hh nu lo hi st sin sta tt er vl vh sb (if st = true then tb + 1 else 16) gG gE gU sg) (WT κ.z m aK aP aQ aT aW aO aM aL aH aI aS aR aX aF aY aJ aG aE aU nS dr sf nw tA tL tl tg st sb tb vl vh tt er sin sta gK gP gQ gT gW gO gM gL gH gI gS gR gX gF gY gN gG gE gU))
      refine v_aload_n X 2 d_L_law_834 rfl ?_
      refine v_aload_n X 3 d_L_law_835 rfl ?_
      refine v_iload_n X 0 d_L_law_836 rfl ?_
      refine v_iconst X 1 d_L_law_837 (by decide) ?_
      refine v_iaddN X (a := (3 + 9 * t)) (b := 1) d_L_law_838 ?_
      refine v_sldE X hS (j := ((3 + 9 * t) + 1)) (x := nI 3) (by omega) (by omega) hx d_L_law_839 ?_
      refine v_aload_n X 3 d_L_law_840 rfl ?_
      refine v_iload_n X 0 d_L_law_841 rfl ?_
      refine v_iconst X 2 d_L_law_842 (by decide) ?_
      refine v_iaddN X (a := (3 + 9 * t)) (b := 2) d_L_law_843 ?_
      refine v_sld X hS (j := ((3 + 9 * t) + 2)) (by omega) (by omega) d_L_law_844 ?_
      refine v_aload_n X 3 d_L_law_845 rfl ?_
      refine v_iload_n X 0 d_L_law_846 rfl ?_
      refine v_iconst X 3 d_L_law_847 (by decide) ?_
      show V κ 4 56 549 848 [(3, .int (nI (3 + 9 * t))), (2, .ref m), (1, .ref o), (0, .ref b)] [.int 3, .int (nI (3 + 9 * t)), .ref b, .int (xs ((3 + 9 * t) + 2)), .int (nI 3), .ref o] (wA (WM κ.z o sa la e d e1 e2 e3 l0 l1 l2 l3 dr sf nS fs fl nw ls cnt hl hh nu lo hi st sin sta tt er vl vh sb (if st = true then tb + 1 else 16) gG gE gU sg) (WT κ.z m aK aP aQ aT aW aO aM aL aH aI aS aR aX aF aY aJ aG aE aU nS dr sf nw tA tL tl tg st sb tb vl vh tt er sin sta gK gP gQ gT gW gO gM gL gH gI gS gR gX gF gY gN gG gE gU))
      refine v_iaddN X (a := (3 + 9 * t)) (b := 3) d_L_law_848 ?_
      refine v_sld X hS (j := ((3 + 9 * t) + 3)) (by omega) (by omega) d_L_law_849 ?_
      refine v_i2l X d_L_law_850 ?_
      refine v_bipush X 32 d_L_law_851 (by decide) ?_
      refine v_lshl X d_L_law_853 ?_
      refine v_aload_n X 3 d_L_law_854 rfl ?_
      refine v_iload_n X 0 d_L_law_855 rfl ?_
      refine v_iconst X 4 d_L_law_856 (by decide) ?_
      refine v_iaddN X (a := (3 + 9 * t)) (b := 4) d_L_law_857 ?_
      refine v_sld X hS (j := ((3 + 9 * t) + 4)) (by omega) (by omega) d_L_law_858 ?_
      refine v_i2l X d_L_law_859 ?_
      refine v_ldc2 X (v := 4294967295) m640 d_L_law_860 ?_
      refine v_land X d_L_law_863 ?_
      refine v_lor X d_L_law_864 ?_
      refine v_aload_n X 3 d_L_law_865 rfl ?_
      show V κ 4 56 549 866 [(3, .int (nI (3 + 9 * t))), (2, .ref m), (1, .ref o), (0, .ref b)] [.ref b, .long ((((xs ((3 + 9 * t) + 3)).toInt64) <<< ((32 : Int32).toInt64 &&& 63)) ||| (((xs ((3 + 9 * t) + 4)).toInt64) &&& 4294967295)), .int (xs ((3 + 9 * t) + 2)), .int (nI 3), .ref o] (wA (WM κ.z o sa la e d e1 e2 e3 l0 l1 l2 l3 dr sf nS fs fl nw ls cnt hl hh nu lo hi st sin sta tt er vl vh sb (if st = true then tb + 1 else 16) gG gE gU sg) (WT κ.z m aK aP aQ aT aW aO aM aL aH aI aS aR aX aF aY aJ aG aE aU nS dr sf nw tA tL tl tg st sb tb vl vh tt er sin sta gK gP gQ gT gW gO gM gL gH gI gS gR gX gF gY gN gG gE gU))
      refine v_iload_n X 0 d_L_law_866 rfl ?_
      refine v_iconst X 5 d_L_law_867 (by decide) ?_
      refine v_iaddN X (a := (3 + 9 * t)) (b := 5) d_L_law_868 ?_
      refine v_sld X hS (j := ((3 + 9 * t) + 5)) (by omega) (by omega) d_L_law_869 ?_
      refine v_i2l X d_L_law_870 ?_
      refine v_bipush X 32 d_L_law_871 (by decide) ?_
      refine v_lshl X d_L_law_873 ?_
      refine v_aload_n X 3 d_L_law_874 rfl ?_
      refine v_iload_n X 0 d_L_law_875 rfl ?_
      refine v_bipush X 6 d_L_law_876 (by decide) ?_
      refine v_iaddN X (a := (3 + 9 * t)) (b := 6) d_L_law_878 ?_
      refine v_sld X hS (j := ((3 + 9 * t) + 6)) (by omega) (by omega) d_L_law_879 ?_
      refine v_i2l X d_L_law_880 ?_
      refine v_ldc2 X (v := 4294967295) m640 d_L_law_881 ?_
      refine v_land X d_L_law_884 ?_
      show V κ 4 56 549 885 [(3, .int (nI (3 + 9 * t))), (2, .ref m), (1, .ref o), (0, .ref b)] [.long (((xs ((3 + 9 * t) + 6)).toInt64) &&& 4294967295), .long (((xs ((3 + 9 * t) + 5)).toInt64) <<< ((32 : Int32).toInt64 &&& 63)), .long ((((xs ((3 + 9 * t) + 3)).toInt64) <<< ((32 : Int32).toInt64 &&& 63)) ||| (((xs ((3 + 9 * t) + 4)).toInt64) &&& 4294967295)), .int (xs ((3 + 9 * t) + 2)), .int (nI 3), .ref o] (wA (WM κ.z o sa la e d e1 e2 e3 l0 l1 l2 l3 dr sf nS fs fl nw ls cnt hl hh nu lo hi st sin sta tt er vl vh sb (if st = true then tb + 1 else 16) gG gE gU sg) (WT κ.z m aK aP aQ aT aW aO aM aL aH aI aS aR aX aF aY aJ aG aE aU nS dr sf nw tA tL tl tg st sb tb vl vh tt er sin sta gK gP gQ gT gW gO gM gL gH gI gS gR gX gF gY gN gG gE gU))
      refine v_lor X d_L_law_885 ?_
      refine v_callV X (b := o) (k := 56) (n := 549) (n9 := 4) (As := [.int (nI 3), .int (xs ((3 + 9 * t) + 2)), .long ((((xs ((3 + 9 * t) + 3)).toInt64) <<< ((32 : Int32).toInt64 &&& 63)) ||| (((xs ((3 + 9 * t) + 4)).toInt64) &&& 4294967295)), .long ((((xs ((3 + 9 * t) + 5)).toInt64) <<< ((32 : Int32).toInt64 &&& 63)) ||| (((xs ((3 + 9 * t) + 6)).toInt64) &&& 4294967295))]) (rest := []) (wc := WM κ.z o sa la e d e1 e2 e3 l0 l1 l2 l3 dr sf nS fs fl nw ls cnt hl hh nu lo hi st sin sta tt er vl vh sb (if st = true then tb + 1 else 16) gG gE gU sg) (wr := WT κ.z m aK aP aQ aT aW aO aM aL aH aI aS aR aX aF aY aJ aG aE aU nS dr sf nw tA tL tl tg st sb tb vl vh tt er sin sta gK gP gQ gT gW gO gM gL gH gI gS gR gX gF gY gN gG gE gU) (u_M_holdsG3 κ.l κ.D κ.z o sa la e d e1 e2 e3 l0 l1 l2 l3 dr sf nS fs fl nw ls cnt hl hh nu lo hi st sin sta tt er vl vh sb (if st = true then tb + 1 else 16) gG gE gU sg (xs ((3 + 9 * t) + 2)) ((((xs ((3 + 9 * t) + 3)).toInt64) <<< ((32 : Int32).toInt64 &&& 63)) ||| (((xs ((3 + 9 * t) + 4)).toInt64) &&& 4294967295)) ((((xs ((3 + 9 * t) + 5)).toInt64) <<< ((32 : Int32).toInt64 &&& 63)) ||| (((xs ((3 + 9 * t) + 6)).toInt64) &&& 4294967295)) (by decide) hfl.2.2.2) 0 rfl rfl m401 m402 m403 m30 (by decide +kernel) rfl (Nat.le_of_ble_eq_true rfl) ⟨by decide, by decide⟩ ⟨by decide, by decide⟩ rfl rfl m404 d_L_law_886 (fun v w1 hg => ?_)
      obtain ⟨rfl, rfl⟩ := hg
      show V κ 4 56 549 889 [(3, .int (nI (3 + 9 * t))), (2, .ref m), (1, .ref o), (0, .ref b)] [.int (bI (f_M_holdsG (gG 3) (gE 3) (gU 3) (xs ((3 + 9 * t) + 2)) ((((xs ((3 + 9 * t) + 3)).toInt64) <<< ((32 : Int32).toInt64 &&& 63)) ||| (((xs ((3 + 9 * t) + 4)).toInt64) &&& 4294967295)) ((((xs ((3 + 9 * t) + 5)).toInt64) <<< ((32 : Int32).toInt64 &&& 63)) ||| (((xs ((3 + 9 * t) + 6)).toInt64) &&& 4294967295))))] (wA (WM κ.z o sa la e d e1 e2 e3 l0 l1 l2 l3 dr sf nS fs fl nw ls cnt hl hh nu lo hi st sin sta tt er vl vh sb (if st = true then tb + 1 else 16) gG gE gU sg) (WT κ.z m aK aP aQ aT aW aO aM aL aH aI aS aR aX aF aY aJ aG aE aU nS dr sf nw tA tL tl tg st sb tb vl vh tt er sin sta gK gP gQ gT gW gO gM gL gH gI gS gR gX gF gY gN gG gE gU))
      refine v_aload_n X 1 d_L_law_889 rfl ?_
      refine v_aload_n X 3 d_L_law_890 rfl ?_
      refine v_iload_n X 0 d_L_law_891 rfl ?_
      refine v_iconst X 1 d_L_law_892 (by decide) ?_
      refine v_iaddN X (a := (3 + 9 * t)) (b := 1) d_L_law_893 ?_
      refine v_sldE X hS (j := ((3 + 9 * t) + 1)) (x := nI 3) (by omega) (by omega) hx d_L_law_894 ?_
      refine v_aload_n X 3 d_L_law_895 rfl ?_
      refine v_iload_n X 0 d_L_law_896 rfl ?_
      refine v_iconst X 2 d_L_law_897 (by decide) ?_
      refine v_iaddN X (a := (3 + 9 * t)) (b := 2) d_L_law_898 ?_
      refine v_sld X hS (j := ((3 + 9 * t) + 2)) (by omega) (by omega) d_L_law_899 ?_
      refine v_aload_n X 3 d_L_law_900 rfl ?_
      refine v_iload_n X 0 d_L_law_901 rfl ?_
      show V κ 4 56 549 902 [(3, .int (nI (3 + 9 * t))), (2, .ref m), (1, .ref o), (0, .ref b)] [.int (nI (3 + 9 * t)), .ref b, .int (xs ((3 + 9 * t) + 2)), .int (nI 3), .ref m, .int (bI (f_M_holdsG (gG 3) (gE 3) (gU 3) (xs ((3 + 9 * t) + 2)) ((((xs ((3 + 9 * t) + 3)).toInt64) <<< ((32 : Int32).toInt64 &&& 63)) ||| (((xs ((3 + 9 * t) + 4)).toInt64) &&& 4294967295)) ((((xs ((3 + 9 * t) + 5)).toInt64) <<< ((32 : Int32).toInt64 &&& 63)) ||| (((xs ((3 + 9 * t) + 6)).toInt64) &&& 4294967295))))] (wA (WM κ.z o sa la e d e1 e2 e3 l0 l1 l2 l3 dr sf nS fs fl nw ls cnt hl hh nu lo hi st sin sta tt er vl vh sb (if st = true then tb + 1 else 16) gG gE gU sg) (WT κ.z m aK aP aQ aT aW aO aM aL aH aI aS aR aX aF aY aJ aG aE aU nS dr sf nw tA tL tl tg st sb tb vl vh tt er sin sta gK gP gQ gT gW gO gM gL gH gI gS gR gX gF gY gN gG gE gU))
      refine v_iconst X 3 d_L_law_902 (by decide) ?_
      refine v_iaddN X (a := (3 + 9 * t)) (b := 3) d_L_law_903 ?_
      refine v_sld X hS (j := ((3 + 9 * t) + 3)) (by omega) (by omega) d_L_law_904 ?_
      refine v_i2l X d_L_law_905 ?_
      refine v_bipush X 32 d_L_law_906 (by decide) ?_
      refine v_lshl X d_L_law_908 ?_
      refine v_aload_n X 3 d_L_law_909 rfl ?_
      refine v_iload_n X 0 d_L_law_910 rfl ?_
      refine v_iconst X 4 d_L_law_911 (by decide) ?_
      refine v_iaddN X (a := (3 + 9 * t)) (b := 4) d_L_law_912 ?_
      refine v_sld X hS (j := ((3 + 9 * t) + 4)) (by omega) (by omega) d_L_law_913 ?_
      refine v_i2l X d_L_law_914 ?_
      refine v_ldc2 X (v := 4294967295) m640 d_L_law_915 ?_
      refine v_land X d_L_law_918 ?_
      refine v_lor X d_L_law_919 ?_
      show V κ 4 56 549 920 [(3, .int (nI (3 + 9 * t))), (2, .ref m), (1, .ref o), (0, .ref b)] [.long ((((xs ((3 + 9 * t) + 3)).toInt64) <<< ((32 : Int32).toInt64 &&& 63)) ||| (((xs ((3 + 9 * t) + 4)).toInt64) &&& 4294967295)), .int (xs ((3 + 9 * t) + 2)), .int (nI 3), .ref m, .int (bI (f_M_holdsG (gG 3) (gE 3) (gU 3) (xs ((3 + 9 * t) + 2)) ((((xs ((3 + 9 * t) + 3)).toInt64) <<< ((32 : Int32).toInt64 &&& 63)) ||| (((xs ((3 + 9 * t) + 4)).toInt64) &&& 4294967295)) ((((xs ((3 + 9 * t) + 5)).toInt64) <<< ((32 : Int32).toInt64 &&& 63)) ||| (((xs ((3 + 9 * t) + 6)).toInt64) &&& 4294967295))))] (wA (WM κ.z o sa la e d e1 e2 e3 l0 l1 l2 l3 dr sf nS fs fl nw ls cnt hl hh nu lo hi st sin sta tt er vl vh sb (if st = true then tb + 1 else 16) gG gE gU sg) (WT κ.z m aK aP aQ aT aW aO aM aL aH aI aS aR aX aF aY aJ aG aE aU nS dr sf nw tA tL tl tg st sb tb vl vh tt er sin sta gK gP gQ gT gW gO gM gL gH gI gS gR gX gF gY gN gG gE gU))
      refine v_aload_n X 3 d_L_law_920 rfl ?_
      refine v_iload_n X 0 d_L_law_921 rfl ?_
      refine v_iconst X 5 d_L_law_922 (by decide) ?_
      refine v_iaddN X (a := (3 + 9 * t)) (b := 5) d_L_law_923 ?_
      refine v_sld X hS (j := ((3 + 9 * t) + 5)) (by omega) (by omega) d_L_law_924 ?_
      refine v_i2l X d_L_law_925 ?_
      refine v_bipush X 32 d_L_law_926 (by decide) ?_
      refine v_lshl X d_L_law_928 ?_
      refine v_aload_n X 3 d_L_law_929 rfl ?_
      refine v_iload_n X 0 d_L_law_930 rfl ?_
      refine v_bipush X 6 d_L_law_931 (by decide) ?_
      refine v_iaddN X (a := (3 + 9 * t)) (b := 6) d_L_law_933 ?_
      refine v_sld X hS (j := ((3 + 9 * t) + 6)) (by omega) (by omega) d_L_law_934 ?_
      refine v_i2l X d_L_law_935 ?_
      refine v_ldc2 X (v := 4294967295) m640 d_L_law_936 ?_
      show V κ 4 56 549 939 [(3, .int (nI (3 + 9 * t))), (2, .ref m), (1, .ref o), (0, .ref b)] [.long 4294967295, .long ((xs ((3 + 9 * t) + 6)).toInt64), .long (((xs ((3 + 9 * t) + 5)).toInt64) <<< ((32 : Int32).toInt64 &&& 63)), .long ((((xs ((3 + 9 * t) + 3)).toInt64) <<< ((32 : Int32).toInt64 &&& 63)) ||| (((xs ((3 + 9 * t) + 4)).toInt64) &&& 4294967295)), .int (xs ((3 + 9 * t) + 2)), .int (nI 3), .ref m, .int (bI (f_M_holdsG (gG 3) (gE 3) (gU 3) (xs ((3 + 9 * t) + 2)) ((((xs ((3 + 9 * t) + 3)).toInt64) <<< ((32 : Int32).toInt64 &&& 63)) ||| (((xs ((3 + 9 * t) + 4)).toInt64) &&& 4294967295)) ((((xs ((3 + 9 * t) + 5)).toInt64) <<< ((32 : Int32).toInt64 &&& 63)) ||| (((xs ((3 + 9 * t) + 6)).toInt64) &&& 4294967295))))] (wA (WM κ.z o sa la e d e1 e2 e3 l0 l1 l2 l3 dr sf nS fs fl nw ls cnt hl hh nu lo hi st sin sta tt er vl vh sb (if st = true then tb + 1 else 16) gG gE gU sg) (WT κ.z m aK aP aQ aT aW aO aM aL aH aI aS aR aX aF aY aJ aG aE aU nS dr sf nw tA tL tl tg st sb tb vl vh tt er sin sta gK gP gQ gT gW gO gM gL gH gI gS gR gX gF gY gN gG gE gU))
      refine v_land X d_L_law_939 ?_
      refine v_lor X d_L_law_940 ?_
      refine v_perm List.perm_append_comm ?_
      refine v_callV X (b := m) (k := 56) (n := 549) (n9 := 4) (As := [.int (nI 3), .int (xs ((3 + 9 * t) + 2)), .long ((((xs ((3 + 9 * t) + 3)).toInt64) <<< ((32 : Int32).toInt64 &&& 63)) ||| (((xs ((3 + 9 * t) + 4)).toInt64) &&& 4294967295)), .long ((((xs ((3 + 9 * t) + 5)).toInt64) <<< ((32 : Int32).toInt64 &&& 63)) ||| (((xs ((3 + 9 * t) + 6)).toInt64) &&& 4294967295))]) (rest := [.int (bI (f_M_holdsG (gG 3) (gE 3) (gU 3) (xs ((3 + 9 * t) + 2)) ((((xs ((3 + 9 * t) + 3)).toInt64) <<< ((32 : Int32).toInt64 &&& 63)) ||| (((xs ((3 + 9 * t) + 4)).toInt64) &&& 4294967295)) ((((xs ((3 + 9 * t) + 5)).toInt64) <<< ((32 : Int32).toInt64 &&& 63)) ||| (((xs ((3 + 9 * t) + 6)).toInt64) &&& 4294967295))))]) (wc := WT κ.z m aK aP aQ aT aW aO aM aL aH aI aS aR aX aF aY aJ aG aE aU nS dr sf nw tA tL tl tg st sb tb vl vh tt er sin sta gK gP gQ gT gW gO gM gL gH gI gS gR gX gF gY gN gG gE gU) (wr := WM κ.z o sa la e d e1 e2 e3 l0 l1 l2 l3 dr sf nS fs fl nw ls cnt hl hh nu lo hi st sin sta tt er vl vh sb (if st = true then tb + 1 else 16) gG gE gU sg) (u_T_holdsG κ.l κ.D κ.z m aK aP aQ aT aW aO aM aL aH aI aS aR aX aF aY aJ aG aE aU nS dr sf nw tA tL tl tg st sb tb vl vh tt er sin sta gK gP gQ gT gW gO gM gL gH gI gS gR gX gF gY gN gG gE gU 3 (xs ((3 + 9 * t) + 2)) ((((xs ((3 + 9 * t) + 3)).toInt64) <<< ((32 : Int32).toInt64 &&& 63)) ||| (((xs ((3 + 9 * t) + 4)).toInt64) &&& 4294967295)) ((((xs ((3 + 9 * t) + 5)).toInt64) <<< ((32 : Int32).toInt64 &&& 63)) ||| (((xs ((3 + 9 * t) + 6)).toInt64) &&& 4294967295)) (by decide)) 0 rfl rfl m626 m627 m628 m36 (by decide +kernel) rfl (Nat.le_of_ble_eq_true rfl) ⟨by decide, by decide⟩ ⟨by decide, by decide⟩ rfl rfl m629 d_L_law_941 (fun v w1 hg => ?_)
      obtain ⟨rfl, rfl⟩ := hg
      refine v_perm List.perm_append_comm ?_
      show V κ 4 56 549 944 [(3, .int (nI (3 + 9 * t))), (2, .ref m), (1, .ref o), (0, .ref b)] [.int (bI (f_T_holdsG gG gE gU 3 (xs ((3 + 9 * t) + 2)) ((((xs ((3 + 9 * t) + 3)).toInt64) <<< ((32 : Int32).toInt64 &&& 63)) ||| (((xs ((3 + 9 * t) + 4)).toInt64) &&& 4294967295)) ((((xs ((3 + 9 * t) + 5)).toInt64) <<< ((32 : Int32).toInt64 &&& 63)) ||| (((xs ((3 + 9 * t) + 6)).toInt64) &&& 4294967295)))), .int (bI (f_M_holdsG (gG 3) (gE 3) (gU 3) (xs ((3 + 9 * t) + 2)) ((((xs ((3 + 9 * t) + 3)).toInt64) <<< ((32 : Int32).toInt64 &&& 63)) ||| (((xs ((3 + 9 * t) + 4)).toInt64) &&& 4294967295)) ((((xs ((3 + 9 * t) + 5)).toInt64) <<< ((32 : Int32).toInt64 &&& 63)) ||| (((xs ((3 + 9 * t) + 6)).toInt64) &&& 4294967295))))] (wA (WM κ.z o sa la e d e1 e2 e3 l0 l1 l2 l3 dr sf nS fs fl nw ls cnt hl hh nu lo hi st sin sta tt er vl vh sb (if st = true then tb + 1 else 16) gG gE gU sg) (WT κ.z m aK aP aQ aT aW aO aM aL aH aI aS aR aX aF aY aJ aG aE aU nS dr sf nw tA tL tl tg st sb tb vl vh tt er sin sta gK gP gQ gT gW gO gM gL gH gI gS gR gX gF gY gN gG gE gU))
      refine v_icmp_eq X 996 d_L_law_944 (by decide) (fun c944 => ?_) (fun c944 => absurd (congrArg bI (holds_eq _ _ _ gG gE gU 3 rfl rfl rfl _ _ _)) c944)
      refine v_iinc X 0 d_L_law_996 (x := nI (3 + 9 * t)) rfl (v := nI ((3 + 9 * t) + 9)) (nI_add _ _) (by decide) (lv' := [(3, .int (nI ((3 + 9 * t) + 9))), (2, .ref m), (1, .ref o), (0, .ref b)]) rfl ?_
      refine v_goto X 48 d_L_law_999 (by decide) ?_
      exact v_eq rfl (by first | rfl | (rw [show 3 + 9 * t + 9 = 3 + 9 * (t + 1) by omega])) rfl (by rfl) (ih nw ls cnt hl hh nu lo hi st sin sta tt er vl vh sb tb sg tA tL tl tg gK gP gQ gT gW gO gM gL gH gI gS gR gX gF gY gN gG gE gU (Inv_next h))
  · skip
    show V κ 4 56 549 834 [(3, .int (nI (3 + 9 * t))), (2, .ref m), (1, .ref o), (0, .ref b)] [] (wA (WM κ.z o sa la e d e1 e2 e3 l0 l1 l2 l3 dr sf nS fs fl nw ls cnt hl hh nu lo hi st sin sta tt er vl vh sb (if st = true then tb + 1 else 16) gG gE gU sg) (WT κ.z m aK aP aQ aT aW aO aM aL aH aI aS aR aX aF aY aJ aG aE aU nS dr sf nw tA tL tl tg st sb tb vl vh tt er sin sta gK gP gQ gT gW gO gM gL gH gI gS gR gX gF gY gN gG gE gU))
    refine v_aload_n X 2 d_L_law_834 rfl ?_
    refine v_aload_n X 3 d_L_law_835 rfl ?_
    refine v_iload_n X 0 d_L_law_836 rfl ?_
    refine v_iconst X 1 d_L_law_837 (by decide) ?_
    refine v_iaddN X (a := (3 + 9 * t)) (b := 1) d_L_law_838 ?_
    refine v_sld X hS (j := ((3 + 9 * t) + 1)) (by omega) (by omega) d_L_law_839 ?_
    refine v_aload_n X 3 d_L_law_840 rfl ?_
    refine v_iload_n X 0 d_L_law_841 rfl ?_
    refine v_iconst X 2 d_L_law_842 (by decide) ?_
    refine v_iaddN X (a := (3 + 9 * t)) (b := 2) d_L_law_843 ?_
    refine v_sld X hS (j := ((3 + 9 * t) + 2)) (by omega) (by omega) d_L_law_844 ?_
    refine v_aload_n X 3 d_L_law_845 rfl ?_
    refine v_iload_n X 0 d_L_law_846 rfl ?_
    refine v_iconst X 3 d_L_law_847 (by decide) ?_
    show V κ 4 56 549 848 [(3, .int (nI (3 + 9 * t))), (2, .ref m), (1, .ref o), (0, .ref b)] [.int 3, .int (nI (3 + 9 * t)), .ref b, .int (xs ((3 + 9 * t) + 2)), .int (xs ((3 + 9 * t) + 1)), .ref o] (wA (WM κ.z o sa la e d e1 e2 e3 l0 l1 l2 l3 dr sf nS fs fl nw ls cnt hl hh nu lo hi st sin sta tt er vl vh sb (if st = true then tb + 1 else 16) gG gE gU sg) (WT κ.z m aK aP aQ aT aW aO aM aL aH aI aS aR aX aF aY aJ aG aE aU nS dr sf nw tA tL tl tg st sb tb vl vh tt er sin sta gK gP gQ gT gW gO gM gL gH gI gS gR gX gF gY gN gG gE gU))
    refine v_iaddN X (a := (3 + 9 * t)) (b := 3) d_L_law_848 ?_
    refine v_sld X hS (j := ((3 + 9 * t) + 3)) (by omega) (by omega) d_L_law_849 ?_
    refine v_i2l X d_L_law_850 ?_
    refine v_bipush X 32 d_L_law_851 (by decide) ?_
    refine v_lshl X d_L_law_853 ?_
    refine v_aload_n X 3 d_L_law_854 rfl ?_
    refine v_iload_n X 0 d_L_law_855 rfl ?_
    refine v_iconst X 4 d_L_law_856 (by decide) ?_
    refine v_iaddN X (a := (3 + 9 * t)) (b := 4) d_L_law_857 ?_
    refine v_sld X hS (j := ((3 + 9 * t) + 4)) (by omega) (by omega) d_L_law_858 ?_
    refine v_i2l X d_L_law_859 ?_
    refine v_ldc2 X (v := 4294967295) m640 d_L_law_860 ?_
    refine v_land X d_L_law_863 ?_
    refine v_lor X d_L_law_864 ?_
    refine v_aload_n X 3 d_L_law_865 rfl ?_
    show V κ 4 56 549 866 [(3, .int (nI (3 + 9 * t))), (2, .ref m), (1, .ref o), (0, .ref b)] [.ref b, .long ((((xs ((3 + 9 * t) + 3)).toInt64) <<< ((32 : Int32).toInt64 &&& 63)) ||| (((xs ((3 + 9 * t) + 4)).toInt64) &&& 4294967295)), .int (xs ((3 + 9 * t) + 2)), .int (xs ((3 + 9 * t) + 1)), .ref o] (wA (WM κ.z o sa la e d e1 e2 e3 l0 l1 l2 l3 dr sf nS fs fl nw ls cnt hl hh nu lo hi st sin sta tt er vl vh sb (if st = true then tb + 1 else 16) gG gE gU sg) (WT κ.z m aK aP aQ aT aW aO aM aL aH aI aS aR aX aF aY aJ aG aE aU nS dr sf nw tA tL tl tg st sb tb vl vh tt er sin sta gK gP gQ gT gW gO gM gL gH gI gS gR gX gF gY gN gG gE gU))
    refine v_iload_n X 0 d_L_law_866 rfl ?_
    refine v_iconst X 5 d_L_law_867 (by decide) ?_
    refine v_iaddN X (a := (3 + 9 * t)) (b := 5) d_L_law_868 ?_
    refine v_sld X hS (j := ((3 + 9 * t) + 5)) (by omega) (by omega) d_L_law_869 ?_
    refine v_i2l X d_L_law_870 ?_
    refine v_bipush X 32 d_L_law_871 (by decide) ?_
    refine v_lshl X d_L_law_873 ?_
    refine v_aload_n X 3 d_L_law_874 rfl ?_
    refine v_iload_n X 0 d_L_law_875 rfl ?_
    refine v_bipush X 6 d_L_law_876 (by decide) ?_
    refine v_iaddN X (a := (3 + 9 * t)) (b := 6) d_L_law_878 ?_
    refine v_sld X hS (j := ((3 + 9 * t) + 6)) (by omega) (by omega) d_L_law_879 ?_
    refine v_i2l X d_L_law_880 ?_
    refine v_ldc2 X (v := 4294967295) m640 d_L_law_881 ?_
    refine v_land X d_L_law_884 ?_
    show V κ 4 56 549 885 [(3, .int (nI (3 + 9 * t))), (2, .ref m), (1, .ref o), (0, .ref b)] [.long (((xs ((3 + 9 * t) + 6)).toInt64) &&& 4294967295), .long (((xs ((3 + 9 * t) + 5)).toInt64) <<< ((32 : Int32).toInt64 &&& 63)), .long ((((xs ((3 + 9 * t) + 3)).toInt64) <<< ((32 : Int32).toInt64 &&& 63)) ||| (((xs ((3 + 9 * t) + 4)).toInt64) &&& 4294967295)), .int (xs ((3 + 9 * t) + 2)), .int (xs ((3 + 9 * t) + 1)), .ref o] (wA (WM κ.z o sa la e d e1 e2 e3 l0 l1 l2 l3 dr sf nS fs fl nw ls cnt hl hh nu lo hi st sin sta tt er vl vh sb (if st = true then tb + 1 else 16) gG gE gU sg) (WT κ.z m aK aP aQ aT aW aO aM aL aH aI aS aR aX aF aY aJ aG aE aU nS dr sf nw tA tL tl tg st sb tb vl vh tt er sin sta gK gP gQ gT gW gO gM gL gH gI gS gR gX gF gY gN gG gE gU))
    refine v_lor X d_L_law_885 ?_
    refine v_callV X (b := o) (k := 56) (n := 549) (n9 := 4) (As := [.int (xs ((3 + 9 * t) + 1)), .int (xs ((3 + 9 * t) + 2)), .long ((((xs ((3 + 9 * t) + 3)).toInt64) <<< ((32 : Int32).toInt64 &&& 63)) ||| (((xs ((3 + 9 * t) + 4)).toInt64) &&& 4294967295)), .long ((((xs ((3 + 9 * t) + 5)).toInt64) <<< ((32 : Int32).toInt64 &&& 63)) ||| (((xs ((3 + 9 * t) + 6)).toInt64) &&& 4294967295))]) (rest := []) (wc := WM κ.z o sa la e d e1 e2 e3 l0 l1 l2 l3 dr sf nS fs fl nw ls cnt hl hh nu lo hi st sin sta tt er vl vh sb (if st = true then tb + 1 else 16) gG gE gU sg) (wr := WT κ.z m aK aP aQ aT aW aO aM aL aH aI aS aR aX aF aY aJ aG aE aU nS dr sf nw tA tL tl tg st sb tb vl vh tt er sin sta gK gP gQ gT gW gO gM gL gH gI gS gR gX gF gY gN gG gE gU) (u_M_holdsB κ.l κ.D κ.z o sa la e d e1 e2 e3 l0 l1 l2 l3 dr sf nS fs fl nw ls cnt hl hh nu lo hi st sin sta tt er vl vh sb (if st = true then tb + 1 else 16) gG gE gU sg (xs ((3 + 9 * t) + 1)) (xs ((3 + 9 * t) + 2)) ((((xs ((3 + 9 * t) + 3)).toInt64) <<< ((32 : Int32).toInt64 &&& 63)) ||| (((xs ((3 + 9 * t) + 4)).toInt64) &&& 4294967295)) ((((xs ((3 + 9 * t) + 5)).toInt64) <<< ((32 : Int32).toInt64 &&& 63)) ||| (((xs ((3 + 9 * t) + 6)).toInt64) &&& 4294967295)) hb) 0 rfl rfl m401 m402 m403 m30 (by decide +kernel) rfl (Nat.le_of_ble_eq_true rfl) ⟨by decide, by decide⟩ ⟨by decide, by decide⟩ rfl rfl m404 d_L_law_886 (fun v w1 hg => ?_)
    obtain ⟨rfl, rfl⟩ := hg
    show V κ 4 56 549 889 [(3, .int (nI (3 + 9 * t))), (2, .ref m), (1, .ref o), (0, .ref b)] [.int (bI false)] (wA (WM κ.z o sa la e d e1 e2 e3 l0 l1 l2 l3 dr sf nS fs fl nw ls cnt hl hh nu lo hi st sin sta tt er vl vh sb (if st = true then tb + 1 else 16) gG gE gU sg) (WT κ.z m aK aP aQ aT aW aO aM aL aH aI aS aR aX aF aY aJ aG aE aU nS dr sf nw tA tL tl tg st sb tb vl vh tt er sin sta gK gP gQ gT gW gO gM gL gH gI gS gR gX gF gY gN gG gE gU))
    refine v_aload_n X 1 d_L_law_889 rfl ?_
    refine v_aload_n X 3 d_L_law_890 rfl ?_
    refine v_iload_n X 0 d_L_law_891 rfl ?_
    refine v_iconst X 1 d_L_law_892 (by decide) ?_
    refine v_iaddN X (a := (3 + 9 * t)) (b := 1) d_L_law_893 ?_
    refine v_sld X hS (j := ((3 + 9 * t) + 1)) (by omega) (by omega) d_L_law_894 ?_
    refine v_aload_n X 3 d_L_law_895 rfl ?_
    refine v_iload_n X 0 d_L_law_896 rfl ?_
    refine v_iconst X 2 d_L_law_897 (by decide) ?_
    refine v_iaddN X (a := (3 + 9 * t)) (b := 2) d_L_law_898 ?_
    refine v_sld X hS (j := ((3 + 9 * t) + 2)) (by omega) (by omega) d_L_law_899 ?_
    refine v_aload_n X 3 d_L_law_900 rfl ?_
    refine v_iload_n X 0 d_L_law_901 rfl ?_
    show V κ 4 56 549 902 [(3, .int (nI (3 + 9 * t))), (2, .ref m), (1, .ref o), (0, .ref b)] [.int (nI (3 + 9 * t)), .ref b, .int (xs ((3 + 9 * t) + 2)), .int (xs ((3 + 9 * t) + 1)), .ref m, .int (bI false)] (wA (WM κ.z o sa la e d e1 e2 e3 l0 l1 l2 l3 dr sf nS fs fl nw ls cnt hl hh nu lo hi st sin sta tt er vl vh sb (if st = true then tb + 1 else 16) gG gE gU sg) (WT κ.z m aK aP aQ aT aW aO aM aL aH aI aS aR aX aF aY aJ aG aE aU nS dr sf nw tA tL tl tg st sb tb vl vh tt er sin sta gK gP gQ gT gW gO gM gL gH gI gS gR gX gF gY gN gG gE gU))
    refine v_iconst X 3 d_L_law_902 (by decide) ?_
    refine v_iaddN X (a := (3 + 9 * t)) (b := 3) d_L_law_903 ?_
    refine v_sld X hS (j := ((3 + 9 * t) + 3)) (by omega) (by omega) d_L_law_904 ?_
    refine v_i2l X d_L_law_905 ?_
    refine v_bipush X 32 d_L_law_906 (by decide) ?_
    refine v_lshl X d_L_law_908 ?_
    refine v_aload_n X 3 d_L_law_909 rfl ?_
    refine v_iload_n X 0 d_L_law_910 rfl ?_
    refine v_iconst X 4 d_L_law_911 (by decide) ?_
    refine v_iaddN X (a := (3 + 9 * t)) (b := 4) d_L_law_912 ?_
    refine v_sld X hS (j := ((3 + 9 * t) + 4)) (by omega) (by omega) d_L_law_913 ?_
    refine v_i2l X d_L_law_914 ?_
    refine v_ldc2 X (v := 4294967295) m640 d_L_law_915 ?_
    refine v_land X d_L_law_918 ?_
    refine v_lor X d_L_law_919 ?_
    show V κ 4 56 549 920 [(3, .int (nI (3 + 9 * t))), (2, .ref m), (1, .ref o), (0, .ref b)] [.long ((((xs ((3 + 9 * t) + 3)).toInt64) <<< ((32 : Int32).toInt64 &&& 63)) ||| (((xs ((3 + 9 * t) + 4)).toInt64) &&& 4294967295)), .int (xs ((3 + 9 * t) + 2)), .int (xs ((3 + 9 * t) + 1)), .ref m, .int (bI false)] (wA (WM κ.z o sa la e d e1 e2 e3 l0 l1 l2 l3 dr sf nS fs fl nw ls cnt hl hh nu lo hi st sin sta tt er vl vh sb (if st = true then tb + 1 else 16) gG gE gU sg) (WT κ.z m aK aP aQ aT aW aO aM aL aH aI aS aR aX aF aY aJ aG aE aU nS dr sf nw tA tL tl tg st sb tb vl vh tt er sin sta gK gP gQ gT gW gO gM gL gH gI gS gR gX gF gY gN gG gE gU))
    refine v_aload_n X 3 d_L_law_920 rfl ?_
    refine v_iload_n X 0 d_L_law_921 rfl ?_
    refine v_iconst X 5 d_L_law_922 (by decide) ?_
    refine v_iaddN X (a := (3 + 9 * t)) (b := 5) d_L_law_923 ?_
    refine v_sld X hS (j := ((3 + 9 * t) + 5)) (by omega) (by omega) d_L_law_924 ?_
    refine v_i2l X d_L_law_925 ?_
    refine v_bipush X 32 d_L_law_926 (by decide) ?_
    refine v_lshl X d_L_law_928 ?_
    refine v_aload_n X 3 d_L_law_929 rfl ?_
    refine v_iload_n X 0 d_L_law_930 rfl ?_
    refine v_bipush X 6 d_L_law_931 (by decide) ?_
    refine v_iaddN X (a := (3 + 9 * t)) (b := 6) d_L_law_933 ?_
    refine v_sld X hS (j := ((3 + 9 * t) + 6)) (by omega) (by omega) d_L_law_934 ?_
    refine v_i2l X d_L_law_935 ?_
    refine v_ldc2 X (v := 4294967295) m640 d_L_law_936 ?_
    show V κ 4 56 549 939 [(3, .int (nI (3 + 9 * t))), (2, .ref m), (1, .ref o), (0, .ref b)] [.long 4294967295, .long ((xs ((3 + 9 * t) + 6)).toInt64), .long (((xs ((3 + 9 * t) + 5)).toInt64) <<< ((32 : Int32).toInt64 &&& 63)), .long ((((xs ((3 + 9 * t) + 3)).toInt64) <<< ((32 : Int32).toInt64 &&& 63)) ||| (((xs ((3 + 9 * t) + 4)).toInt64) &&& 4294967295)), .int (xs ((3 + 9 * t) + 2)), .int (xs ((3 + 9 * t) + 1)), .ref m, .int (bI false)] (wA (WM κ.z o sa la e d e1 e2 e3 l0 l1 l2 l3 dr sf nS fs fl nw ls cnt hl hh nu lo hi st sin sta tt er vl vh sb (if st = true then tb + 1 else 16) gG gE gU sg) (WT κ.z m aK aP aQ aT aW aO aM aL aH aI aS aR aX aF aY aJ aG aE aU nS dr sf nw tA tL tl tg st sb tb vl vh tt er sin sta gK gP gQ gT gW gO gM gL gH gI gS gR gX gF gY gN gG gE gU))
    refine v_land X d_L_law_939 ?_
    refine v_lor X d_L_law_940 ?_
    refine v_perm List.perm_append_comm ?_
    refine v_callV X (b := m) (k := 56) (n := 549) (n9 := 4) (As := [.int (xs ((3 + 9 * t) + 1)), .int (xs ((3 + 9 * t) + 2)), .long ((((xs ((3 + 9 * t) + 3)).toInt64) <<< ((32 : Int32).toInt64 &&& 63)) ||| (((xs ((3 + 9 * t) + 4)).toInt64) &&& 4294967295)), .long ((((xs ((3 + 9 * t) + 5)).toInt64) <<< ((32 : Int32).toInt64 &&& 63)) ||| (((xs ((3 + 9 * t) + 6)).toInt64) &&& 4294967295))]) (rest := [.int (bI false)]) (wc := WT κ.z m aK aP aQ aT aW aO aM aL aH aI aS aR aX aF aY aJ aG aE aU nS dr sf nw tA tL tl tg st sb tb vl vh tt er sin sta gK gP gQ gT gW gO gM gL gH gI gS gR gX gF gY gN gG gE gU) (wr := WM κ.z o sa la e d e1 e2 e3 l0 l1 l2 l3 dr sf nS fs fl nw ls cnt hl hh nu lo hi st sin sta tt er vl vh sb (if st = true then tb + 1 else 16) gG gE gU sg) (u_T_holdsB κ.l κ.D κ.z m aK aP aQ aT aW aO aM aL aH aI aS aR aX aF aY aJ aG aE aU nS dr sf nw tA tL tl tg st sb tb vl vh tt er sin sta gK gP gQ gT gW gO gM gL gH gI gS gR gX gF gY gN gG gE gU (xs ((3 + 9 * t) + 1)) (xs ((3 + 9 * t) + 2)) ((((xs ((3 + 9 * t) + 3)).toInt64) <<< ((32 : Int32).toInt64 &&& 63)) ||| (((xs ((3 + 9 * t) + 4)).toInt64) &&& 4294967295)) ((((xs ((3 + 9 * t) + 5)).toInt64) <<< ((32 : Int32).toInt64 &&& 63)) ||| (((xs ((3 + 9 * t) + 6)).toInt64) &&& 4294967295)) hb) 0 rfl rfl m626 m627 m628 m36 (by decide +kernel) rfl (Nat.le_of_ble_eq_true rfl) ⟨by decide, by decide⟩ ⟨by decide, by decide⟩ rfl rfl m629 d_L_law_941 (fun v w1 hg => ?_)
    obtain ⟨rfl, rfl⟩ := hg
    refine v_perm List.perm_append_comm ?_
    show V κ 4 56 549 944 [(3, .int (nI (3 + 9 * t))), (2, .ref m), (1, .ref o), (0, .ref b)] [.int (bI false), .int (bI false)] (wA (WM κ.z o sa la e d e1 e2 e3 l0 l1 l2 l3 dr sf nS fs fl nw ls cnt hl hh nu lo hi st sin sta tt er vl vh sb (if st = true then tb + 1 else 16) gG gE gU sg) (WT κ.z m aK aP aQ aT aW aO aM aL aH aI aS aR aX aF aY aJ aG aE aU nS dr sf nw tA tL tl tg st sb tb vl vh tt er sin sta gK gP gQ gT gW gO gM gL gH gI gS gR gX gF gY gN gG gE gU))
    refine v_icmp_eq X 996 d_L_law_944 (by decide) (fun c944 => ?_) (fun c944 => absurd rfl c944)
    refine v_iinc X 0 d_L_law_996 (x := nI (3 + 9 * t)) rfl (v := nI ((3 + 9 * t) + 9)) (nI_add _ _) (by decide) (lv' := [(3, .int (nI ((3 + 9 * t) + 9))), (2, .ref m), (1, .ref o), (0, .ref b)]) rfl ?_
    refine v_goto X 48 d_L_law_999 (by decide) ?_
    exact v_eq rfl (by first | rfl | (rw [show 3 + 9 * t + 9 = 3 + 9 * (t + 1) by omega])) rfl (by rfl) (ih nw ls cnt hl hh nu lo hi st sin sta tt er vl vh sb tb sg tA tL tl tg gK gP gQ gT gW gO gM gL gH gI gS gR gX gF gY gN gG gE gU (Inv_next h))

set_option maxHeartbeats 4000000 in
set_option maxRecDepth 100000 in
theorem lc_11 {κ : VC} (X : Cx κ code R_L room_1 4) (b : Nat) (o : Nat) (sa : Nat) (la : Nat) (e : Nat) (d : Nat) (e1 : Nat) (e2 : Nat) (e3 : Nat) (l0 : Nat) (l1 : Nat) (l2 : Nat) (l3 : Nat) (dr : Int32) (sf : Int32) (nS : Nat) (fs : Nat → Option Nat) (fl : Nat → Option Nat) (m : Nat) (aK : Nat) (aP : Nat) (aQ : Nat) (aT : Nat) (aW : Nat) (aO : Nat) (aM : Nat) (aL : Nat) (aH : Nat) (aI : Nat) (aS : Nat) (aR : Nat) (aX : Nat) (aF : Nat) (aY : Nat) (aJ : Nat) (aG : Nat) (aE : Nat) (aU : Nat) (L : Nat) (xs : Nat → Int32) (hS : Scr κ b L xs) (hL : L ≤ 4611) (hfl : fl 0 = some l0 ∧ fl 1 = some l1 ∧ fl 2 = some l2 ∧ fl 3 = some l3) (t : Nat) (ht : 12 + 9 * t ≤ L) (nw : Int64) (ls : Int64) (cnt : Nat) (hl : Int64) (hh : Int64) (nu : Nat → Nat) (lo : Nat → Int64) (hi : Nat → Int64) (st : Bool) (sin : Int64) (sta : Int64) (tt : Int64) (er : Int64) (vl : Int64) (vh : Int64) (sb : Int32) (tb : Int32) (sg : Nat → SvS) (tA : Bool) (tL : Int64) (tl : Int64) (tg : Int64) (gK : Nat → Int64) (gP : Nat → Bool) (gQ : Nat → Int64) (gT : Nat → Int64) (gW : Nat → Bool) (gO : Nat → Int64) (gM : Nat → Nat) (gL : Nat → Int64) (gH : Nat → Int64) (gI : Nat → Int64) (gS : Nat → Int32) (gR : Nat → Int32) (gX : Nat → Int32) (gF : Nat → Int64) (gY : Nat → Int64) (gN : Nat → Bool) (gG : Nat → Bool) (gE : Nat → Int32) (gU : Nat → Int64) (h : Inv t nS dr fs nw ls nu sin sta tt sg tA tL gK gQ gT gO gL gH gI gP gW gM gS gR gX) (ih : ∀ (nw : Int64) (ls : Int64) (cnt : Nat) (hl : Int64) (hh : Int64) (nu : Nat → Nat) (lo : Nat → Int64) (hi : Nat → Int64) (st : Bool) (sin : Int64) (sta : Int64) (tt : Int64) (er : Int64) (vl : Int64) (vh : Int64) (sb : Int32) (tb : Int32) (sg : Nat → SvS) (tA : Bool) (tL : Int64) (tl : Int64) (tg : Int64) (gK : Nat → Int64) (gP : Nat → Bool) (gQ : Nat → Int64) (gT : Nat → Int64) (gW : Nat → Bool) (gO : Nat → Int64) (gM : Nat → Nat) (gL : Nat → Int64) (gH : Nat → Int64) (gI : Nat → Int64) (gS : Nat → Int32) (gR : Nat → Int32) (gX : Nat → Int32) (gF : Nat → Int64) (gY : Nat → Int64) (gN : Nat → Bool) (gG : Nat → Bool) (gE : Nat → Int32) (gU : Nat → Int64), Inv (t + 1) nS dr fs nw ls nu sin sta tt sg tA tL gK gQ gT gO gL gH gI gP gW gM gS gR gX → V κ 4 56 549 48 [(3, .int (nI (3 + 9 * (t + 1)))), (2, .ref m), (1, .ref o), (0, .ref b)] [] (wA (WM κ.z o sa la e d e1 e2 e3 l0 l1 l2 l3 dr sf nS fs fl nw ls cnt hl hh nu lo hi st sin sta tt er vl vh sb (if st = true then tb + 1 else 16) gG gE gU sg) (WT κ.z m aK aP aQ aT aW aO aM aL aH aI aS aR aX aF aY aJ aG aE aU nS dr sf nw tA tL tl tg st sb tb vl vh tt er sin sta gK gP gQ gT gW gO gM gL gH gI gS gR gX gF gY gN gG gE gU))) : V κ 4 56 549 709 [(3, .int (nI (3 + 9 * t))), (2, .ref m), (1, .ref o), (0, .ref b)] [] (wA (WM κ.z o sa la e d e1 e2 e3 l0 l1 l2 l3 dr sf nS fs fl nw ls cnt hl hh nu lo hi st sin sta tt er vl vh sb (if st = true then tb + 1 else 16) gG gE gU sg) (WT κ.z m aK aP aQ aT aW aO aM aL aH aI aS aR aX aF aY aJ aG aE aU nS dr sf nw tA tL tl tg st sb tb vl vh tt er sin sta gK gP gQ gT gW gO gM gL gH gI gS gR gX gF gY gN gG gE gU)) := by
  have hn6 := h.1.2
  have hn1 := h.1.1
  show V κ 4 56 549 709 [(3, .int (nI (3 + 9 * t))), (2, .ref m), (1, .ref o), (0, .ref b)] [] (wA (WM κ.z o sa la e d e1 e2 e3 l0 l1 l2 l3 dr sf nS fs fl nw ls cnt hl hh nu lo hi st sin sta tt er vl vh sb (if st = true then tb + 1 else 16) gG gE gU sg) (WT κ.z m aK aP aQ aT aW aO aM aL aH aI aS aR aX aF aY aJ aG aE aU nS dr sf nw tA tL tl tg st sb tb vl vh tt er sin sta gK gP gQ gT gW gO gM gL gH gI gS gR gX gF gY gN gG gE gU))
  refine v_aload_n X 2 d_L_law_709 rfl ?_
  refine v_aload_n X 3 d_L_law_710 rfl ?_
  refine v_iload_n X 0 d_L_law_711 rfl ?_
  refine v_iconst X 1 d_L_law_712 (by decide) ?_
  refine v_iaddN X (a := (3 + 9 * t)) (b := 1) d_L_law_713 ?_
  refine v_sld X hS (j := ((3 + 9 * t) + 1)) (by omega) (by omega) d_L_law_714 ?_
  suffices hm715 : V κ 4 56 549 723 [(3, .int (nI (3 + 9 * t))), (2, .ref m), (1, .ref o), (0, .ref b)] [.int (bI (if (xs ((3 + 9 * t) + 1)) = 0 then false else true)), .ref o] (wA (WM κ.z o sa la e d e1 e2 e3 l0 l1 l2 l3 dr sf nS fs fl nw ls cnt hl hh nu lo hi st sin sta tt er vl vh sb (if st = true then tb + 1 else 16) gG gE gU sg) (WT κ.z m aK aP aQ aT aW aO aM aL aH aI aS aR aX aF aY aJ aG aE aU nS dr sf nw tA tL tl tg st sb tb vl vh tt er sin sta gK gP gQ gT gW gO gM gL gH gI gS gR gX gF gY gN gG gE gU)) by
    refine v_if_eq X 722 d_L_law_715 (by decide) (fun c715 => ?_) (fun c715 => ?_)
    · skip
      refine v_iconst X 0 d_L_law_722 (by decide) ?_
      have h9 := hm715; simp only [if_pos c715] at h9; first | exact h9 | (simp only [if_pos c715]; exact h9)
    · skip
      refine v_iconst X 1 d_L_law_718 (by decide) ?_
      refine v_goto X 723 d_L_law_719 (by decide) ?_
      have h9 := hm715; simp only [if_neg c715] at h9; first | exact h9 | (simp only [if_neg c715]; exact h9)
  refine v_callV X (b := o) (k := 56) (n := 549) (n9 := 1) (As := [.int (bI (if (xs ((3 + 9 * t) + 1)) = 0 then false else true))]) (rest := []) (wc := WM κ.z o sa la e d e1 e2 e3 l0 l1 l2 l3 dr sf nS fs fl nw ls cnt hl hh nu lo hi st sin sta tt er vl vh sb (if st = true then tb + 1 else 16) gG gE gU sg) (wr := WT κ.z m aK aP aQ aT aW aO aM aL aH aI aS aR aX aF aY aJ aG aE aU nS dr sf nw tA tL tl tg st sb tb vl vh tt er sin sta gK gP gQ gT gW gO gM gL gH gI gS gR gX gF gY gN gG gE gU) (u_M_hull κ.l κ.D κ.z o sa la e d e1 e2 e3 l0 l1 l2 l3 dr sf nS fs fl nw ls cnt hl hh nu lo hi st sin sta tt er vl vh sb (if st = true then tb + 1 else 16) gG gE gU sg (if (xs ((3 + 9 * t) + 1)) = 0 then false else true) ) 0 rfl rfl m361 m362 m363 m30 (by decide +kernel) rfl (Nat.le_of_ble_eq_true rfl) ⟨by decide, by decide⟩ ⟨by decide, by decide⟩ rfl rfl m364 d_L_law_723 (fun v w1 hg => ?_)
  obtain ⟨rfl, rfl⟩ := hg
  show V κ 4 56 549 726 [(3, .int (nI (3 + 9 * t))), (2, .ref m), (1, .ref o), (0, .ref b)] [.long (f_M_hull st vl vh (if (xs ((3 + 9 * t) + 1)) = 0 then false else true))] (wA (WM κ.z o sa la e d e1 e2 e3 l0 l1 l2 l3 dr sf nS fs fl nw ls cnt hl hh nu lo hi st sin sta tt er vl vh sb (if st = true then tb + 1 else 16) gG gE gU sg) (WT κ.z m aK aP aQ aT aW aO aM aL aH aI aS aR aX aF aY aJ aG aE aU nS dr sf nw tA tL tl tg st sb tb vl vh tt er sin sta gK gP gQ gT gW gO gM gL gH gI gS gR gX gF gY gN gG gE gU))
  refine v_aload_n X 1 d_L_law_726 rfl ?_
  refine v_aload_n X 3 d_L_law_727 rfl ?_
  refine v_iload_n X 0 d_L_law_728 rfl ?_
  refine v_iconst X 1 d_L_law_729 (by decide) ?_
  refine v_iaddN X (a := (3 + 9 * t)) (b := 1) d_L_law_730 ?_
  refine v_sld X hS (j := ((3 + 9 * t) + 1)) (by omega) (by omega) d_L_law_731 ?_
  show V κ 4 56 549 732 [(3, .int (nI (3 + 9 * t))), (2, .ref m), (1, .ref o), (0, .ref b)] [.int (xs ((3 + 9 * t) + 1)), .ref m, .long (f_M_hull st vl vh (if (xs ((3 + 9 * t) + 1)) = 0 then false else true))] (wA (WM κ.z o sa la e d e1 e2 e3 l0 l1 l2 l3 dr sf nS fs fl nw ls cnt hl hh nu lo hi st sin sta tt er vl vh sb (if st = true then tb + 1 else 16) gG gE gU sg) (WT κ.z m aK aP aQ aT aW aO aM aL aH aI aS aR aX aF aY aJ aG aE aU nS dr sf nw tA tL tl tg st sb tb vl vh tt er sin sta gK gP gQ gT gW gO gM gL gH gI gS gR gX gF gY gN gG gE gU))
  suffices hm732 : V κ 4 56 549 740 [(3, .int (nI (3 + 9 * t))), (2, .ref m), (1, .ref o), (0, .ref b)] [.int (bI (if (xs ((3 + 9 * t) + 1)) = 0 then false else true)), .ref m, .long (f_M_hull st vl vh (if (xs ((3 + 9 * t) + 1)) = 0 then false else true))] (wA (WM κ.z o sa la e d e1 e2 e3 l0 l1 l2 l3 dr sf nS fs fl nw ls cnt hl hh nu lo hi st sin sta tt er vl vh sb (if st = true then tb + 1 else 16) gG gE gU sg) (WT κ.z m aK aP aQ aT aW aO aM aL aH aI aS aR aX aF aY aJ aG aE aU nS dr sf nw tA tL tl tg st sb tb vl vh tt er sin sta gK gP gQ gT gW gO gM gL gH gI gS gR gX gF gY gN gG gE gU)) by
    refine v_if_eq X 739 d_L_law_732 (by decide) (fun c732 => ?_) (fun c732 => ?_)
    · skip
      refine v_iconst X 0 d_L_law_739 (by decide) ?_
      have h9 := hm732; simp only [if_pos c732] at h9; first | exact h9 | (simp only [if_pos c732]; exact h9)
    · skip
      refine v_iconst X 1 d_L_law_735 (by decide) ?_
      refine v_goto X 740 d_L_law_736 (by decide) ?_
      have h9 := hm732; simp only [if_neg c732] at h9; first | exact h9 | (simp only [if_neg c732]; exact h9)
  refine v_perm List.perm_append_comm ?_
  refine v_callV X (b := m) (k := 56) (n := 549) (n9 := 1) (As := [.int (bI (if (xs ((3 + 9 * t) + 1)) = 0 then false else true))]) (rest := [.long (f_M_hull st vl vh (if (xs ((3 + 9 * t) + 1)) = 0 then false else true))]) (wc := WT κ.z m aK aP aQ aT aW aO aM aL aH aI aS aR aX aF aY aJ aG aE aU nS dr sf nw tA tL tl tg st sb tb vl vh tt er sin sta gK gP gQ gT gW gO gM gL gH gI gS gR gX gF gY gN gG gE gU) (wr := WM κ.z o sa la e d e1 e2 e3 l0 l1 l2 l3 dr sf nS fs fl nw ls cnt hl hh nu lo hi st sin sta tt er vl vh sb (if st = true then tb + 1 else 16) gG gE gU sg) (u_T_hull κ.l κ.D κ.z m aK aP aQ aT aW aO aM aL aH aI aS aR aX aF aY aJ aG aE aU nS dr sf nw tA tL tl tg st sb tb vl vh tt er sin sta gK gP gQ gT gW gO gM gL gH gI gS gR gX gF gY gN gG gE gU (if (xs ((3 + 9 * t) + 1)) = 0 then false else true) ) 0 rfl rfl m601 m602 m603 m36 (by decide +kernel) rfl (Nat.le_of_ble_eq_true rfl) ⟨by decide, by decide⟩ ⟨by decide, by decide⟩ rfl rfl m604 d_L_law_740 (fun v w1 hg => ?_)
  obtain ⟨rfl, rfl⟩ := hg
  refine v_perm List.perm_append_comm ?_
  show V κ 4 56 549 743 [(3, .int (nI (3 + 9 * t))), (2, .ref m), (1, .ref o), (0, .ref b)] [.long (f_T_hull st vl vh (if (xs ((3 + 9 * t) + 1)) = 0 then false else true)), .long (f_M_hull st vl vh (if (xs ((3 + 9 * t) + 1)) = 0 then false else true))] (wA (WM κ.z o sa la e d e1 e2 e3 l0 l1 l2 l3 dr sf nS fs fl nw ls cnt hl hh nu lo hi st sin sta tt er vl vh sb (if st = true then tb + 1 else 16) gG gE gU sg) (WT κ.z m aK aP aQ aT aW aO aM aL aH aI aS aR aX aF aY aJ aG aE aU nS dr sf nw tA tL tl tg st sb tb vl vh tt er sin sta gK gP gQ gT gW gO gM gL gH gI gS gR gX gF gY gN gG gE gU))
  refine v_lcmp_eq X 996 d_L_law_743 d_L_law_744 (by decide) (fun c743 => ?_) (fun c743 => absurd rfl c743)
  refine v_iinc X 0 d_L_law_996 (x := nI (3 + 9 * t)) rfl (v := nI ((3 + 9 * t) + 9)) (nI_add _ _) (by decide) (lv' := [(3, .int (nI ((3 + 9 * t) + 9))), (2, .ref m), (1, .ref o), (0, .ref b)]) rfl ?_
  refine v_goto X 48 d_L_law_999 (by decide) ?_
  exact v_eq rfl (by first | rfl | (rw [show 3 + 9 * t + 9 = 3 + 9 * (t + 1) by omega])) rfl (by rfl) (ih nw ls cnt hl hh nu lo hi st sin sta tt er vl vh sb tb sg tA tL tl tg gK gP gQ gT gW gO gM gL gH gI gS gR gX gF gY gN gG gE gU (Inv_next h))
