theorem law_gt {L i : Nat} (hL : L ≤ 4611) (hi : i ≤ 5000) : nI L - 9 < nI i ↔ L < i + 9 := by
  have e : (nI L - 9).toInt = (L : Int) - 9 := by
    rw [Int32.toInt_sub, nI_toInt (by omega), show (9 : Int32).toInt = 9 by decide]
    apply Int.bmod_eq_of_le <;> omega
  rw [Int32.lt_iff_toInt_lt, e, nI_toInt (by omega)]
  omega
theorem and31 (x : Int32) : (∃ k : Nat, k < 19 ∧ x &&& 31 = nI k) ∨ ((x &&& 31).toInt < 0 ∨ 18 < (x &&& 31).toInt) := by
  by_cases c : (x &&& 31).toInt < 0
  · exact Or.inr (Or.inl c)
  · by_cases c2 : 18 < (x &&& 31).toInt
    · exact Or.inr (Or.inr c2)
    · left
      have c0 : ¬ x &&& 31 < 0 := fun q => c (by have := Int32.lt_iff_toInt_lt.mp q; have e : (0 : Int32).toInt = 0 := by decide
                                                 omega)
      obtain ⟨j, h1, h2⟩ := nI_of c0
      rw [h2, nI_toInt h1] at c2
      exact ⟨j, by omega, h2⟩
set_option maxHeartbeats 4000000 in
set_option maxRecDepth 100000 in
theorem lp_law {κ : VC} (X : Cx κ code R_L room_1 4) (b : Nat) (o : Nat) (sa : Nat) (la : Nat) (e : Nat) (d : Nat) (e1 : Nat) (e2 : Nat) (e3 : Nat) (l0 : Nat) (l1 : Nat) (l2 : Nat) (l3 : Nat) (dr : Int32) (sf : Int32) (nS : Nat) (fs : Nat → Option Nat) (fl : Nat → Option Nat) (m : Nat) (aK : Nat) (aP : Nat) (aQ : Nat) (aT : Nat) (aW : Nat) (aO : Nat) (aM : Nat) (aL : Nat) (aH : Nat) (aI : Nat) (aS : Nat) (aR : Nat) (aX : Nat) (aF : Nat) (aY : Nat) (aJ : Nat) (aG : Nat) (aE : Nat) (aU : Nat) (L : Nat) (xs : Nat → Int32) (hS : Scr κ b L xs) (hL : L ≤ 4611) (hfl : fl 0 = some l0 ∧ fl 1 = some l1 ∧ fl 2 = some l2 ∧ fl 3 = some l3) (ha : κ.a = #[Value.ref b]) (hA : κ.A = fun q => κ.s.heap.size ≤ q) (hr : κ.y.sig.returnType = ret) (hlk : κ.y.locks = false) (hQ : κ.Q = lw_Z κ.b #[Value.ref b] κ.s) : ∀ (d9 t : Nat), L < 3 + 9 * t + 9 * (d9 + 1) → t ≤ 513 → ∀ (nw : Int64) (ls : Int64) (cnt : Nat) (hl : Int64) (hh : Int64) (nu : Nat → Nat) (lo : Nat → Int64) (hi : Nat → Int64) (st : Bool) (sin : Int64) (sta : Int64) (tt : Int64) (er : Int64) (vl : Int64) (vh : Int64) (sb : Int32) (tb : Int32) (sg : Nat → SvS) (tA : Bool) (tL : Int64) (tl : Int64) (tg : Int64) (gK : Nat → Int64) (gP : Nat → Bool) (gQ : Nat → Int64) (gT : Nat → Int64) (gW : Nat → Bool) (gO : Nat → Int64) (gM : Nat → Nat) (gL : Nat → Int64) (gH : Nat → Int64) (gI : Nat → Int64) (gS : Nat → Int32) (gR : Nat → Int32) (gX : Nat → Int32) (gF : Nat → Int64) (gY : Nat → Int64) (gN : Nat → Bool) (gG : Nat → Bool) (gE : Nat → Int32) (gU : Nat → Int64), Inv t nS dr fs nw ls nu sin sta tt sg tA tL gK gQ gT gO gL gH gI gP gW gM gS gR gX → V κ 4 56 549 48 [(3, .int (nI (3 + 9 * t))), (2, .ref m), (1, .ref o), (0, .ref b)] [] (wA (WM κ.z o sa la e d e1 e2 e3 l0 l1 l2 l3 dr sf nS fs fl nw ls cnt hl hh nu lo hi st sin sta tt er vl vh sb (if st = true then tb + 1 else 16) gG gE gU sg) (WT κ.z m aK aP aQ aT aW aO aM aL aH aI aS aR aX aF aY aJ aG aE aU nS dr sf nw tA tL tl tg st sb tb vl vh tt er sin sta gK gP gQ gT gW gO gM gL gH gI gS gR gX gF gY gN gG gE gU)) := by
  intro d9
  induction d9 with
  | zero =>
    intro t hd ht5 nw ls cnt hl hh nu lo hi st sin sta tt er vl vh sb tb sg tA tL tl tg gK gP gQ gT gW gO gM gL gH gI gS gR gX gF gY gN gG gE gU h
    have hn6 := h.1.2
    show V κ 4 56 549 48 [(3, .int (nI (3 + 9 * t))), (2, .ref m), (1, .ref o), (0, .ref b)] [] (wA (WM κ.z o sa la e d e1 e2 e3 l0 l1 l2 l3 dr sf nS fs fl nw ls cnt hl hh nu lo hi st sin sta tt er vl vh sb (if st = true then tb + 1 else 16) gG gE gU sg) (WT κ.z m aK aP aQ aT aW aO aM aL aH aI aS aR aX aF aY aJ aG aE aU nS dr sf nw tA tL tl tg st sb tb vl vh tt er sin sta gK gP gQ gT gW gO gM gL gH gI gS gR gX gF gY gN gG gE gU))
    refine v_iload_n X 0 d_L_law_48 rfl ?_
    refine v_aload_n X 3 d_L_law_49 rfl ?_
    refine v_slen X hS d_L_law_50 ?_
    refine v_bipush X 9 d_L_law_51 (by decide) ?_
    refine v_isub X d_L_law_53 ?_
    refine v_icmp_gt X 1002 d_L_law_54 (by decide) (fun c54 => ?_) (fun c54 => absurd ((law_gt hL (by omega)).mpr (by omega)) c54)
    refine v_iconst X 1 d_L_law_1002 (by decide) ?_
    exact v_law (below := κ.b) X ha hA hr hlk hQ (by decide) (by decide) d_L_law_1003
  | succ d9 ih =>
    intro t hd ht5 nw ls cnt hl hh nu lo hi st sin sta tt er vl vh sb tb sg tA tL tl tg gK gP gQ gT gW gO gM gL gH gI gS gR gX gF gY gN gG gE gU h
    have hn6 := h.1.2
    by_cases hc : 12 + 9 * t ≤ L
    · skip
      show V κ 4 56 549 48 [(3, .int (nI (3 + 9 * t))), (2, .ref m), (1, .ref o), (0, .ref b)] [] (wA (WM κ.z o sa la e d e1 e2 e3 l0 l1 l2 l3 dr sf nS fs fl nw ls cnt hl hh nu lo hi st sin sta tt er vl vh sb (if st = true then tb + 1 else 16) gG gE gU sg) (WT κ.z m aK aP aQ aT aW aO aM aL aH aI aS aR aX aF aY aJ aG aE aU nS dr sf nw tA tL tl tg st sb tb vl vh tt er sin sta gK gP gQ gT gW gO gM gL gH gI gS gR gX gF gY gN gG gE gU))
      refine v_iload_n X 0 d_L_law_48 rfl ?_
      refine v_aload_n X 3 d_L_law_49 rfl ?_
      refine v_slen X hS d_L_law_50 ?_
      refine v_bipush X 9 d_L_law_51 (by decide) ?_
      refine v_isub X d_L_law_53 ?_
      refine v_icmp_gt X 1002 d_L_law_54 (by decide) (fun c54 => absurd ((law_gt hL (by omega)).mp c54) (by omega)) (fun c54 => ?_)
      refine v_aload_n X 3 d_L_law_57 rfl ?_
      refine v_iload_n X 0 d_L_law_58 rfl ?_
      refine v_sld X hS (j := (3 + 9 * t)) (by omega) (by omega) d_L_law_59 ?_
      refine v_bipush X 31 d_L_law_60 (by decide) ?_
      refine v_iand X d_L_law_62 ?_
      rcases and31 (xs (3 + 9 * t)) with ⟨k, hk, hx⟩ | hx
      · rw [hx]
        have ihh := ih (t + 1) (by omega) (by omega)
        rcases (show k = 0 ∨ k = 1 ∨ k = 2 ∨ k = 3 ∨ k = 4 ∨ k = 5 ∨ k = 6 ∨ k = 7 ∨ k = 8 ∨ k = 9 ∨ k = 10 ∨ k = 11 ∨ k = 12 ∨ k = 13 ∨ k = 14 ∨ k = 15 ∨ k = 16 ∨ k = 17 ∨ k = 18 by omega) with rfl | rfl | rfl | rfl | rfl | rfl | rfl | rfl | rfl | rfl | rfl | rfl | rfl | rfl | rfl | rfl | rfl | rfl | rfl
        · exact v_tabIn X 152 d_L_law_63 (by decide) (by decide) (off := 89) (by decide) (by decide) (lc_0 X b o sa la e d e1 e2 e3 l0 l1 l2 l3 dr sf nS fs fl m aK aP aQ aT aW aO aM aL aH aI aS aR aX aF aY aJ aG aE aU L xs hS hL hfl t hc nw ls cnt hl hh nu lo hi st sin sta tt er vl vh sb tb sg tA tL tl tg gK gP gQ gT gW gO gM gL gH gI gS gR gX gF gY gN gG gE gU h ihh)
        · exact v_tabIn X 175 d_L_law_63 (by decide) (by decide) (off := 112) (by decide) (by decide) (lc_1 X b o sa la e d e1 e2 e3 l0 l1 l2 l3 dr sf nS fs fl m aK aP aQ aT aW aO aM aL aH aI aS aR aX aF aY aJ aG aE aU L xs hS hL hfl t hc nw ls cnt hl hh nu lo hi st sin sta tt er vl vh sb tb sg tA tL tl tg gK gP gQ gT gW gO gM gL gH gI gS gR gX gF gY gN gG gE gU h ihh)
        · exact v_tabIn X 189 d_L_law_63 (by decide) (by decide) (off := 126) (by decide) (by decide) (lc_2 X b o sa la e d e1 e2 e3 l0 l1 l2 l3 dr sf nS fs fl m aK aP aQ aT aW aO aM aL aH aI aS aR aX aF aY aJ aG aE aU L xs hS hL hfl t hc nw ls cnt hl hh nu lo hi st sin sta tt er vl vh sb tb sg tA tL tl tg gK gP gQ gT gW gO gM gL gH gI gS gR gX gF gY gN gG gE gU h ihh)
        · exact v_tabIn X 252 d_L_law_63 (by decide) (by decide) (off := 189) (by decide) (by decide) (lc_3 X b o sa la e d e1 e2 e3 l0 l1 l2 l3 dr sf nS fs fl m aK aP aQ aT aW aO aM aL aH aI aS aR aX aF aY aJ aG aE aU L xs hS hL hfl t hc nw ls cnt hl hh nu lo hi st sin sta tt er vl vh sb tb sg tA tL tl tg gK gP gQ gT gW gO gM gL gH gI gS gR gX gF gY gN gG gE gU h ihh)
        · exact v_tabIn X 399 d_L_law_63 (by decide) (by decide) (off := 336) (by decide) (by decide) (lc_4 X b o sa la e d e1 e2 e3 l0 l1 l2 l3 dr sf nS fs fl m aK aP aQ aT aW aO aM aL aH aI aS aR aX aF aY aJ aG aE aU L xs hS hL hfl t hc nw ls cnt hl hh nu lo hi st sin sta tt er vl vh sb tb sg tA tL tl tg gK gP gQ gT gW gO gM gL gH gI gS gR gX gF gY gN gG gE gU h ihh)
        · exact v_tabIn X 423 d_L_law_63 (by decide) (by decide) (off := 360) (by decide) (by decide) (lc_5 X b o sa la e d e1 e2 e3 l0 l1 l2 l3 dr sf nS fs fl m aK aP aQ aT aW aO aM aL aH aI aS aR aX aF aY aJ aG aE aU L xs hS hL hfl t hc nw ls cnt hl hh nu lo hi st sin sta tt er vl vh sb tb sg tA tL tl tg gK gP gQ gT gW gO gM gL gH gI gS gR gX gF gY gN gG gE gU h ihh)
        · exact v_tabIn X 582 d_L_law_63 (by decide) (by decide) (off := 519) (by decide) (by decide) (lc_6 X b o sa la e d e1 e2 e3 l0 l1 l2 l3 dr sf nS fs fl m aK aP aQ aT aW aO aM aL aH aI aS aR aX aF aY aJ aG aE aU L xs hS hL hfl t hc nw ls cnt hl hh nu lo hi st sin sta tt er vl vh sb tb sg tA tL tl tg gK gP gQ gT gW gO gM gL gH gI gS gR gX gF gY gN gG gE gU h ihh)
        · exact v_tabIn X 635 d_L_law_63 (by decide) (by decide) (off := 572) (by decide) (by decide) (lc_7 X b o sa la e d e1 e2 e3 l0 l1 l2 l3 dr sf nS fs fl m aK aP aQ aT aW aO aM aL aH aI aS aR aX aF aY aJ aG aE aU L xs hS hL hfl t hc nw ls cnt hl hh nu lo hi st sin sta tt er vl vh sb tb sg tA tL tl tg gK gP gQ gT gW gO gM gL gH gI gS gR gX gF gY gN gG gE gU h ihh)
        · exact v_tabIn X 659 d_L_law_63 (by decide) (by decide) (off := 596) (by decide) (by decide) (lc_8 X b o sa la e d e1 e2 e3 l0 l1 l2 l3 dr sf nS fs fl m aK aP aQ aT aW aO aM aL aH aI aS aR aX aF aY aJ aG aE aU L xs hS hL hfl t hc nw ls cnt hl hh nu lo hi st sin sta tt er vl vh sb tb sg tA tL tl tg gK gP gQ gT gW gO gM gL gH gI gS gR gX gF gY gN gG gE gU h ihh)
        · exact v_tabIn X 683 d_L_law_63 (by decide) (by decide) (off := 620) (by decide) (by decide) (lc_9 X b o sa la e d e1 e2 e3 l0 l1 l2 l3 dr sf nS fs fl m aK aP aQ aT aW aO aM aL aH aI aS aR aX aF aY aJ aG aE aU L xs hS hL hfl t hc nw ls cnt hl hh nu lo hi st sin sta tt er vl vh sb tb sg tA tL tl tg gK gP gQ gT gW gO gM gL gH gI gS gR gX gF gY gN gG gE gU h ihh)
        · exact v_tabIn X 696 d_L_law_63 (by decide) (by decide) (off := 633) (by decide) (by decide) (lc_10 X b o sa la e d e1 e2 e3 l0 l1 l2 l3 dr sf nS fs fl m aK aP aQ aT aW aO aM aL aH aI aS aR aX aF aY aJ aG aE aU L xs hS hL hfl t hc nw ls cnt hl hh nu lo hi st sin sta tt er vl vh sb tb sg tA tL tl tg gK gP gQ gT gW gO gM gL gH gI gS gR gX gF gY gN gG gE gU h ihh)
        · exact v_tabIn X 709 d_L_law_63 (by decide) (by decide) (off := 646) (by decide) (by decide) (lc_11 X b o sa la e d e1 e2 e3 l0 l1 l2 l3 dr sf nS fs fl m aK aP aQ aT aW aO aM aL aH aI aS aR aX aF aY aJ aG aE aU L xs hS hL hfl t hc nw ls cnt hl hh nu lo hi st sin sta tt er vl vh sb tb sg tA tL tl tg gK gP gQ gT gW gO gM gL gH gI gS gR gX gF gY gN gG gE gU h ihh)
        · exact v_tabIn X 749 d_L_law_63 (by decide) (by decide) (off := 686) (by decide) (by decide) (lc_12 X b o sa la e d e1 e2 e3 l0 l1 l2 l3 dr sf nS fs fl m aK aP aQ aT aW aO aM aL aH aI aS aR aX aF aY aJ aG aE aU L xs hS hL hfl t hc nw ls cnt hl hh nu lo hi st sin sta tt er vl vh sb tb sg tA tL tl tg gK gP gQ gT gW gO gM gL gH gI gS gR gX gF gY gN gG gE gU h ihh)
        · exact v_tabIn X 762 d_L_law_63 (by decide) (by decide) (off := 699) (by decide) (by decide) (lc_13 X b o sa la e d e1 e2 e3 l0 l1 l2 l3 dr sf nS fs fl m aK aP aQ aT aW aO aM aL aH aI aS aR aX aF aY aJ aG aE aU L xs hS hL hfl t hc nw ls cnt hl hh nu lo hi st sin sta tt er vl vh sb tb sg tA tL tl tg gK gP gQ gT gW gO gM gL gH gI gS gR gX gF gY gN gG gE gU h ihh)
        · exact v_tabIn X 776 d_L_law_63 (by decide) (by decide) (off := 713) (by decide) (by decide) (lc_14 X b o sa la e d e1 e2 e3 l0 l1 l2 l3 dr sf nS fs fl m aK aP aQ aT aW aO aM aL aH aI aS aR aX aF aY aJ aG aE aU L xs hS hL hfl t hc nw ls cnt hl hh nu lo hi st sin sta tt er vl vh sb tb sg tA tL tl tg gK gP gQ gT gW gO gM gL gH gI gS gR gX gF gY gN gG gE gU h ihh)
        · exact v_tabIn X 790 d_L_law_63 (by decide) (by decide) (off := 727) (by decide) (by decide) (lc_15 X b o sa la e d e1 e2 e3 l0 l1 l2 l3 dr sf nS fs fl m aK aP aQ aT aW aO aM aL aH aI aS aR aX aF aY aJ aG aE aU L xs hS hL hfl t hc nw ls cnt hl hh nu lo hi st sin sta tt er vl vh sb tb sg tA tL tl tg gK gP gQ gT gW gO gM gL gH gI gS gR gX gF gY gN gG gE gU h ihh)
        · exact v_tabIn X 834 d_L_law_63 (by decide) (by decide) (off := 771) (by decide) (by decide) (lc_16 X b o sa la e d e1 e2 e3 l0 l1 l2 l3 dr sf nS fs fl m aK aP aQ aT aW aO aM aL aH aI aS aR aX aF aY aJ aG aE aU L xs hS hL hfl t hc nw ls cnt hl hh nu lo hi st sin sta tt er vl vh sb tb sg tA tL tl tg gK gP gQ gT gW gO gM gL gH gI gS gR gX gF gY gN gG gE gU h ihh)
        · exact v_tabIn X 949 d_L_law_63 (by decide) (by decide) (off := 886) (by decide) (by decide) (lc_17 X b o sa la e d e1 e2 e3 l0 l1 l2 l3 dr sf nS fs fl m aK aP aQ aT aW aO aM aL aH aI aS aR aX aF aY aJ aG aE aU L xs hS hL hfl t hc nw ls cnt hl hh nu lo hi st sin sta tt er vl vh sb tb sg tA tL tl tg gK gP gQ gT gW gO gM gL gH gI gS gR gX gF gY gN gG gE gU h ihh)
        · exact v_tabIn X 973 d_L_law_63 (by decide) (by decide) (off := 910) (by decide) (by decide) (lc_18 X b o sa la e d e1 e2 e3 l0 l1 l2 l3 dr sf nS fs fl m aK aP aQ aT aW aO aM aL aH aI aS aR aX aF aY aJ aG aE aU L xs hS hL hfl t hc nw ls cnt hl hh nu lo hi st sin sta tt er vl vh sb tb sg tA tL tl tg gK gP gQ gT gW gO gM gL gH gI gS gR gX gF gY gN gG gE gU h ihh)
      · exact v_tabOut X 996 d_L_law_63 hx (by decide) (lc_d X b o sa la e d e1 e2 e3 l0 l1 l2 l3 dr sf nS fs fl m aK aP aQ aT aW aO aM aL aH aI aS aR aX aF aY aJ aG aE aU L xs hS hL hfl t hc nw ls cnt hl hh nu lo hi st sin sta tt er vl vh sb tb sg tA tL tl tg gK gP gQ gT gW gO gM gL gH gI gS gR gX gF gY gN gG gE gU h (ih (t + 1) (by omega) (by omega)))
    · skip
      show V κ 4 56 549 48 [(3, .int (nI (3 + 9 * t))), (2, .ref m), (1, .ref o), (0, .ref b)] [] (wA (WM κ.z o sa la e d e1 e2 e3 l0 l1 l2 l3 dr sf nS fs fl nw ls cnt hl hh nu lo hi st sin sta tt er vl vh sb (if st = true then tb + 1 else 16) gG gE gU sg) (WT κ.z m aK aP aQ aT aW aO aM aL aH aI aS aR aX aF aY aJ aG aE aU nS dr sf nw tA tL tl tg st sb tb vl vh tt er sin sta gK gP gQ gT gW gO gM gL gH gI gS gR gX gF gY gN gG gE gU))
      refine v_iload_n X 0 d_L_law_48 rfl ?_
      refine v_aload_n X 3 d_L_law_49 rfl ?_
      refine v_slen X hS d_L_law_50 ?_
      refine v_bipush X 9 d_L_law_51 (by decide) ?_
      refine v_isub X d_L_law_53 ?_
      refine v_icmp_gt X 1002 d_L_law_54 (by decide) (fun c54 => ?_) (fun c54 => absurd ((law_gt hL (by omega)).mpr (by omega)) c54)
      refine v_iconst X 1 d_L_law_1002 (by decide) ?_
      exact v_law (below := κ.b) X ha hA hr hlk hQ (by decide) (by decide) d_L_law_1003
