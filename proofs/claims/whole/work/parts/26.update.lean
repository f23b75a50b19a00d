/-! 26.update: an update, in both ways -/
theorem hull_run {g : Nat → Bool} {F Y : Nat → Int64} {n : Nat} {nu : Nat → Nat} {lo hi : Nat → Int64} (h : En g F Y n nu lo hi) (hc : ¬ lfS g n = 0) (tl tg hl hh : Int64) :
    (fhF (lfS g n) lo hi < (lfS g n + 1) / 2 → (hwS n tl tg F Y g (lfS g n) (fst9 (fun j => (hwS n tl tg F Y g (lfS g n) j).1) ((lfS g n + 1) / 2) 0)).1 = true ∧ (hwS n tl tg F Y g (lfS g n) (fst9 (fun j => (hwS n tl tg F Y g (lfS g n) j).1) ((lfS g n + 1) / 2) 0)).2.1 = fhH (lfS g n) hl lo hi ∧ (hwS n tl tg F Y g (lfS g n) (fst9 (fun j => (hwS n tl tg F Y g (lfS g n) j).1) ((lfS g n + 1) / 2) 0)).2.2 = fhK (lfS g n) hh lo hi ∧ ∃ k, 1 ≤ k ∧ Sx F Y g n k n (fhH (lfS g n) hl lo hi) ∧ Sx F Y g n k n (fhK (lfS g n) hh lo hi) ∧ fhH (lfS g n) hl lo hi ≤ fhK (lfS g n) hh lo hi) ∧
    (¬ fhF (lfS g n) lo hi < (lfS g n + 1) / 2 → ¬ (hwS n tl tg F Y g (lfS g n) (fst9 (fun j => (hwS n tl tg F Y g (lfS g n) j).1) ((lfS g n + 1) / 2) 0)).1 = true) := by
  have step : ∀ j, j < (lfS g n + 1) / 2 → (hwS n tl tg F Y g (lfS g n) (j + 1)).1 = f_E_findHullOf (lfS g n) lo hi (lfS g n - j) := fun j hj => by
    simp only [hwS]
    exact (hull_eq h (show 1 ≤ lfS g n - j by omega) _ _).1.symm
  have z0 : (hwS n tl tg F Y g (lfS g n) 0).1 = false := rfl
  obtain ⟨s1, s2⟩ := fst9_sp (fun i => f_E_findHullOf (lfS g n) lo hi (lfS g n - i)) ((lfS g n + 1) / 2) 0
  have le := fst9_le (fun i => f_E_findHullOf (lfS g n) lo hi (lfS g n - i)) ((lfS g n + 1) / 2) 0
  have eF : fst9 (fun i => f_E_findHullOf (lfS g n) lo hi (lfS g n - i)) ((lfS g n + 1) / 2) 0 = fhF (lfS g n) lo hi := rfl
  rw [eF] at s1 s2 le
  have low : ∀ i, i ≤ fhF (lfS g n) lo hi → ¬ (hwS n tl tg F Y g (lfS g n) i).1 = true := fun i hi => by
    cases i with
    | zero => rw [z0]; decide
    | succ j => rw [step j (by omega)]; exact s1 j (by omega) (by omega)
  refine ⟨fun c => ?_, fun c => ?_⟩
  · have ok := s2 (by omega)
    have eK : fst9 (fun j => (hwS n tl tg F Y g (lfS g n) j).1) ((lfS g n + 1) / 2) 0 = fhF (lfS g n) lo hi + 1 := by
      by_cases q : fhF (lfS g n) lo hi + 1 < (lfS g n + 1) / 2
      · exact fst9_is _ _ 0 _ (by omega) (by omega) (fun i a b => low i (by omega)) (by rw [step _ c]; exact ok)
      · rw [fst9_no _ _ 0 (fun i a b => low i (by omega))]
        omega
    rw [eK]
    obtain ⟨p1, p2⟩ := hull_eq h (show 1 ≤ lfS g n - fhF (lfS g n) lo hi by omega) (hwS n tl tg F Y g (lfS g n) (fhF (lfS g n) lo hi)).2.1 (hwS n tl tg F Y g (lfS g n) (fhF (lfS g n) lo hi)).2.2
    have ok' := ok
    rw [p1] at ok'
    obtain ⟨q1, q2⟩ := p2 ok'
    have sp := (hu_spec F Y g n (lfS g n - fhF (lfS g n) lo hi) (hwS n tl tg F Y g (lfS g n) (fhF (lfS g n) lo hi)).2.1 (hwS n tl tg F Y g (lfS g n) (fhF (lfS g n) lo hi)).2.2 n).1 ok'
    have eH : fhH (lfS g n) hl lo hi = (huS n (hwS n tl tg F Y g (lfS g n) (fhF (lfS g n) lo hi)).2.1 (hwS n tl tg F Y g (lfS g n) (fhF (lfS g n) lo hi)).2.2 F Y g (lfS g n - fhF (lfS g n) lo hi) n).2.1 := by
      unfold fhH; rw [if_pos c]; exact q1
    have eK2 : fhK (lfS g n) hh lo hi = (huS n (hwS n tl tg F Y g (lfS g n) (fhF (lfS g n) lo hi)).2.1 (hwS n tl tg F Y g (lfS g n) (fhF (lfS g n) lo hi)).2.2 F Y g (lfS g n - fhF (lfS g n) lo hi) n).2.2 := by
      unfold fhK; rw [if_pos c]; exact q2
    rw [eH, eK2]
    exact ⟨by simp only [hwS]; exact ok', by simp only [hwS], by simp only [hwS], lfS g n - fhF (lfS g n) lo hi, by omega, sp.1, sp.2.1, (sp.2.2 _ sp.1).2⟩
  · have eN : fhF (lfS g n) lo hi = (lfS g n + 1) / 2 := by omega
    have eK : fst9 (fun j => (hwS n tl tg F Y g (lfS g n) j).1) ((lfS g n + 1) / 2) 0 = (lfS g n + 1) / 2 := by
      rw [fst9_no _ _ 0 (fun i a b => low i (by omega))]
      omega
    rw [eK]
    exact low _ (by omega)
theorem sx_bd {g : Nat → Bool} {F Y : Nat → Int64} {n k : Nat} {x : Int64} (hB : ∀ i, i < n → g i = true → Bd (F i) ∧ Bd (Y i)) (h : Sx F Y g n k n x) : Bd x := by
  obtain ⟨i, h1, h2, h3⟩ := h
  rcases h3 with h3 | h3
  · rw [h3.1]; exact (hB i h1 h2).1
  · rw [h3.1]; exact (hB i h1 h2).2
theorem stay_of {g : Nat → Bool} {F Y : Nat → Int64} {n k : Nat} {L G : Int64} (hk : 1 ≤ k) (h : Sx F Y g n k n L) (hLG : L ≤ G) : 1 ≤ lfS (ktS L G F Y g n) n := by
  have cov : k ≤ cvS F Y g L n := by
    obtain ⟨i, _, _, q3⟩ := h
    rcases q3 with q3 | q3
    · rw [q3.1]; exact q3.2
    · rw [q3.1]; exact q3.2
  obtain ⟨i, h1, h2, h3, h4, -⟩ := ex_low n (Nat.le_trans hk cov)
  have e : ktS L G F Y g n i = true := by
    rw [kt_at, if_pos h1]
    unfold kpB
    rw [if_pos h2, if_neg (fun q => Int64.not_lt.mpr (l_le_tr h3 hLG) q), if_neg (fun q => Int64.not_lt.mpr h4 q)]
  have := lf_lt (ktS L G F Y g n) h1 e
  omega
theorem upd_B {g : Nat → Bool} {F Y : Nat → Int64} {n : Nat} {nu : Nat → Nat} {lo hi : Nat → Int64} (hn : n ≤ 6) (h : En g F Y n nu lo hi) (hB : ∀ i, i < n → g i = true → Bd (F i) ∧ Bd (Y i)) (S : Nat → Int32) (sg : Nat → SvS) (hs : ∀ i, i < n → s_str (sg i) = S i) {L G : Int64} (hLG : L ≤ G) (hst : 1 ≤ lfS (ktS L G F Y g n) n)
    {nw sin sta tt : Int64} {st : Bool} (c1 : 0 ≤ sin.toInt) (c2 : sin.toInt ≤ nw.toInt) (c3 : nw.toInt ≤ 1000000000000) (c4 : Bd sta) (c5 : Bd tt) :
    f_M_update_B (lfS g n) L G nu lo hi = f_T_update_C n F Y (ktS L G F Y g n) ∧
    f_M_update_B_Sd_target (lfS g n) L G nu lo hi = f_T_update_B_target n L G S F Y g ∧
    f_M_update_B_Sd_error (lfS g n) L G nu lo hi = f_T_update_B_error n L G S F Y g ∧
    f_M_update_B_Sd_startCorrection nw (lfS g n) L G nu lo hi st sin sta tt = f_T_update_B_startedFrom n nw L G st tt sin sta S F Y g ∧
    f_M_update_B_Sd_survivorBits (lfS g n) L G nu lo hi = f_T_update_B_mask n L G S F Y g ∧
    f_M_update_B_Sd_ownStratum (lfS g n) L G nu lo hi sg = f_T_update_B_best n L G S F Y g + 1 ∧
    ¬ t_many n F Y (ktS L G F Y g n) = 0 ∧ L ≤ f_T_update_B_target n L G S F Y g ∧ f_T_update_B_target n L G S F Y g ≤ G := by
  obtain ⟨a1, a2⟩ := kp_En h L G
  have hBk : ∀ i, i < n → ktS L G F Y g n i = true → Bd (F i) ∧ Bd (Y i) := fun i hi q => hB i hi (by
    rw [kt_at, if_pos hi] at q
    unfold kpB at q
    by_cases c : g i = true
    · exact c
    · rw [if_neg c] at q; cases q)
  have fin := close_fin hn a2 hBk
  obtain ⟨b1, b2, b3⟩ := close_spec hn a2 hBk (lfS (ktS L G F Y g n) n - 3) (Nat.le_refl _)
  have sm := sum_eq b3 S n (Nat.le_refl n)
  have bt := bit_eq b3 S n (Nat.le_refl n)
  have ls := str_eq b3 S sg hs n (Nat.le_refl n)
  rw [b1] at sm bt ls
  have k6 := lfS_le (ktS L G F Y g n) n
  have hm0 : ¬ lfS (ktS L G F Y g n) n - (lfS (ktS L G F Y g n) n - 3) = 0 := by omega
  have et : f_E_target (lfS (ktS L G F Y g n) n - (lfS (ktS L G F Y g n) n - 3)) L G (clS (lfS (ktS L G F Y g n) n) (kpS L G nu lo hi (lfS g n)).2.1 (kpS L G nu lo hi (lfS g n)).2.2.1 (kpS L G nu lo hi (lfS g n)).2.2.2 (lfS (ktS L G F Y g n) n - 3)).2.1 (clS (lfS (ktS L G F Y g n) n) (kpS L G nu lo hi (lfS g n)).2.1 (kpS L G nu lo hi (lfS g n)).2.2.1 (kpS L G nu lo hi (lfS g n)).2.2.2 (lfS (ktS L G F Y g n) n - 3)).2.2
      = f_T_keep_target n L G S F Y (lvS n F Y (ktS L G F Y g n) (lfS (ktS L G F Y g n) n - 3)) (lfS (ktS L G F Y g n) n - (lfS (ktS L G F Y g n) n - 3)) := by
    unfold f_E_target f_T_keep_target
    rw [sm]
    exact tgt_eq hm0 (by omega) hLG
  have eT : f_T_update_B_target n L G S F Y g = f_T_keep_target n L G S F Y (lvS n F Y (ktS L G F Y g n) (lfS (ktS L G F Y g n) n - 3)) (lfS (ktS L G F Y g n) n - (lfS (ktS L G F Y g n) n - 3)) := by
    unfold f_T_update_B_target f_T_update_C_target
    rw [fin, b1]
  refine ⟨?_, ?_, ?_, ?_, ?_, ?_, ?_, ?_, ?_⟩
  · unfold f_M_update_B f_T_update_C
    rw [fin, b1, a1]
  · rw [eT]
    unfold f_M_update_B_Sd_target
    rw [a1]
    exact et
  · unfold f_M_update_B_Sd_error f_M_update_C_Sd_error f_T_update_B_error f_T_update_C_error
    rw [a1, fin, b1, et, max_eq]
    rfl
  · unfold f_M_update_B_Sd_startCorrection f_M_update_C_Sd_startCorrection f_Sd_follow_startCorrection f_T_update_B_startedFrom f_T_update_C_startedFrom f_T_update_D_startedFrom f_T_keep_startedFrom
    rw [a1, fin, b1, et, (corr_eq c1 c2 c3 c4 c5).1]
    rfl
  · unfold f_M_update_B_Sd_survivorBits f_T_update_B_mask f_T_update_C_mask
    rw [a1, fin]
    exact bt
  · unfold f_M_update_B_Sd_ownStratum f_T_update_B_best f_T_update_C_best
    rw [a1, fin, ls]
  · unfold t_many
    rw [fin, b1]
    exact hm0
  · rw [eT]
    unfold f_T_keep_target
    split
    · split
      · assumption
      · exact hLG
    · exact l_le_refl _
  · rw [eT]
    unfold f_T_keep_target
    split
    · split
      · assumption
      · exact l_le_refl _
    · exact hLG
