/-- one server: its addresses and what it holds -/
abbrev SvS : Type := Nat × Nat × Nat × Nat × Int64 × Bool × Int64 × Int64 × Int64 × Int32 × Int32 × Int32 × Nat × (Nat → Int64) × (Nat → Int64) × (Nat → Int64)
def s_a (x : SvS) : Nat := x.1
def s_b1 (x : SvS) : Nat := x.2.1
def s_b2 (x : SvS) : Nat := x.2.2.1
def s_b3 (x : SvS) : Nat := x.2.2.2.1
def s_sec (x : SvS) : Int64 := x.2.2.2.2.1
def s_pen (x : SvS) : Bool := x.2.2.2.2.2.1
def s_pst (x : SvS) : Int64 := x.2.2.2.2.2.2.1
def s_psi (x : SvS) : Int64 := x.2.2.2.2.2.2.2.1
def s_acc (x : SvS) : Int64 := x.2.2.2.2.2.2.2.2.1
def s_str (x : SvS) : Int32 := x.2.2.2.2.2.2.2.2.2.1
def s_ref (x : SvS) : Int32 := x.2.2.2.2.2.2.2.2.2.2.1
def s_rt (x : SvS) : Int32 := x.2.2.2.2.2.2.2.2.2.2.2.1
def s_sm (x : SvS) : Nat := x.2.2.2.2.2.2.2.2.2.2.2.2.1
def s_lo (x : SvS) : Nat → Int64 := x.2.2.2.2.2.2.2.2.2.2.2.2.2.1
def s_hi (x : SvS) : Nat → Int64 := x.2.2.2.2.2.2.2.2.2.2.2.2.2.2.1
def s_ti (x : SvS) : Nat → Int64 := x.2.2.2.2.2.2.2.2.2.2.2.2.2.2.2
def svm (a : Nat) (b1 : Nat) (b2 : Nat) (b3 : Nat) (sec : Int64) (pen : Bool) (pst : Int64) (psi : Int64) (acc : Int64) (str : Int32) (ref : Int32) (rt : Int32) (sm : Nat) (lo : Nat → Int64) (hi : Nat → Int64) (ti : Nat → Int64) : SvS := (a, b1, b2, b3, sec, pen, pst, psi, acc, str, ref, rt, sm, lo, hi, ti)
def svc (z : Nat → ClassId) (x : SvS) : va_W := [(s_a x, .inr (3, [.long (s_sec x), .int (bI (s_pen x)), .long (s_pst x), .long (s_psi x), .long (s_acc x), .int (s_str x), .int (s_ref x), .int (s_rt x), .int (nI (s_sm x)), .ref (s_b1 x), .ref (s_b2 x), .ref (s_b3 x)])), (s_b1 x, .inl (z 1, 8, .inr (.inl (s_lo x)))), (s_b2 x, .inl (z 1, 8, .inr (.inl (s_hi x)))), (s_b3 x, .inl (z 1, 8, .inr (.inl (s_ti x))))]
def pool (z : Nat → ClassId) (sg : Nat → SvS) (n : Nat) : va_W := (List.range n).flatMap (fun i => svc z (sg i))
def poolx (z : Nat → ClassId) (sg : Nat → SvS) (n i : Nat) : va_W := ((List.range n).erase i).flatMap (fun k => svc z (sg k))
theorem pool_get (z : Nat → ClassId) (sg : Nat → SvS) {n i : Nat} (h : i < n) : (pool z sg n).Perm (svc z (sg i) ++ poolx z sg n i) := by
  have h1 := (List.perm_cons_erase (List.mem_range.mpr h)).flatMap_right (fun k => svc z (sg k))
  rw [List.flatMap_cons] at h1
  exact h1
theorem pool_put (z : Nat → ClassId) (sg : Nat → SvS) {n i : Nat} (x : SvS) (h : i < n) : (svc z x ++ poolx z sg n i).Perm (pool z (va_up sg i x) n) := by
  have h1 := (pool_get z (va_up sg i x) h).symm
  rw [va_ups] at h1
  have e : poolx z (va_up sg i x) n i = poolx z sg n i := by
    unfold poolx
    rw [List.flatMap_def, List.flatMap_def]
    congr 1
    apply List.map_congr_left
    intro k hk
    have hne : k ≠ i := ((List.nodup_range).mem_erase_iff.mp hk).1
    rw [va_upn hne]
  rw [e] at h1
  exact h1
theorem pool_succ (z : Nat → ClassId) (sg : Nat → SvS) (n : Nat) : pool z sg (n + 1) = pool z sg n ++ svc z (sg n) := by
  unfold pool
  rw [List.range_succ, List.flatMap_append]
  simp
theorem pm_open {α : Type} {X tl tl' bk : List α} (h : tl.Perm (bk ++ tl')) : (X ++ tl).Perm ((X ++ bk) ++ tl') := by
  rw [List.append_assoc]
  exact h.append_left X
theorem pm_shut {α : Type} {X tl tl' bk : List α} (h : (bk ++ tl').Perm tl) : ((X ++ bk) ++ tl').Perm (X ++ tl) := by
  rw [List.append_assoc]
  exact h.append_left X
