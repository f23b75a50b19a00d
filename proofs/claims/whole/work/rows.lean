section
-- ===== PART A: goes FIRST, ahead of the names: the tables' words, and 'selects' of the private methods out of them =====
/-- a private method of a class that the tables say can be made, by its rows of tables_1 -/
def lw_okq (q : MethodName × Nat) : Prop := (q.1.cls ≠ "java/lang/invoke/MethodHandle" ∧ q.1.cls ≠ "java/lang/invoke/VarHandle") ∧ Cond.instantiable q.1.cls q.2 ∈ tables_1 ∧ Cond.privateMethod q.1 ∈ tables_1 ∧ Cond.instanceMethod q.1 ∈ tables_1
theorem lw_p0 : lw_okq (⟨"MajorityClock", "serverOrNull", "(I)LMajorityClock$Server;"⟩, 8) := ⟨⟨by decide +kernel, by decide +kernel⟩, List.mem_of_getElem? (i := 9) (by decide +kernel), List.mem_of_getElem? (i := 200) (by decide +kernel), List.mem_of_getElem? (i := 201) (by decide +kernel)⟩
theorem lw_p1 : lw_okq (⟨"MajorityClock$Server", "makeRoomForSample", "()V"⟩, 12) := ⟨⟨by decide +kernel, by decide +kernel⟩, List.mem_of_getElem? (i := 25) (by decide +kernel), List.mem_of_getElem? (i := 247) (by decide +kernel), List.mem_of_getElem? (i := 248) (by decide +kernel)⟩
theorem lw_p2 : lw_okq (⟨"MajorityClock$Server", "lengthOf", "(IJI)J"⟩, 12) := ⟨⟨by decide +kernel, by decide +kernel⟩, List.mem_of_getElem? (i := 25) (by decide +kernel), List.mem_of_getElem? (i := 264) (by decide +kernel), List.mem_of_getElem? (i := 265) (by decide +kernel)⟩
theorem lw_p3 : lw_okq (⟨"MajorityClock", "callElection", "()V"⟩, 8) := ⟨⟨by decide +kernel, by decide +kernel⟩, List.mem_of_getElem? (i := 9) (by decide +kernel), List.mem_of_getElem? (i := 293) (by decide +kernel), List.mem_of_getElem? (i := 294) (by decide +kernel)⟩
theorem lw_p4 : lw_okq (⟨"MajorityClock", "isUsable", "(LMajorityClock$Server;)Z"⟩, 8) := ⟨⟨by decide +kernel, by decide +kernel⟩, List.mem_of_getElem? (i := 9) (by decide +kernel), List.mem_of_getElem? (i := 301) (by decide +kernel), List.mem_of_getElem? (i := 302) (by decide +kernel)⟩
theorem lw_p5 : lw_okq (⟨"MajorityClock$Election", "put", "(IIJJ)V"⟩, 6) := ⟨⟨by decide +kernel, by decide +kernel⟩, List.mem_of_getElem? (i := 93) (by decide +kernel), List.mem_of_getElem? (i := 313) (by decide +kernel), List.mem_of_getElem? (i := 314) (by decide +kernel)⟩
theorem lw_p6 : lw_okq (⟨"MajorityClock$Election", "findHullOf", "(I)Z"⟩, 6) := ⟨⟨by decide +kernel, by decide +kernel⟩, List.mem_of_getElem? (i := 93) (by decide +kernel), List.mem_of_getElem? (i := 321) (by decide +kernel), List.mem_of_getElem? (i := 322) (by decide +kernel)⟩
theorem lw_p7 : lw_okq (⟨"MajorityClock$Election", "intervalsAround", "(J)I"⟩, 6) := ⟨⟨by decide +kernel, by decide +kernel⟩, List.mem_of_getElem? (i := 93) (by decide +kernel), List.mem_of_getElem? (i := 327) (by decide +kernel), List.mem_of_getElem? (i := 328) (by decide +kernel)⟩
theorem lw_p8 : lw_okq (⟨"MajorityClock$Election", "farthest", "()I"⟩, 6) := ⟨⟨by decide +kernel, by decide +kernel⟩, List.mem_of_getElem? (i := 93) (by decide +kernel), List.mem_of_getElem? (i := 343) (by decide +kernel), List.mem_of_getElem? (i := 344) (by decide +kernel)⟩
theorem lw_p9 : lw_okq (⟨"MajorityClock$Election", "distances", "(I)J"⟩, 6) := ⟨⟨by decide +kernel, by decide +kernel⟩, List.mem_of_getElem? (i := 93) (by decide +kernel), List.mem_of_getElem? (i := 347) (by decide +kernel), List.mem_of_getElem? (i := 348) (by decide +kernel)⟩
theorem lw_p10 : lw_okq (⟨"MajorityClock$Election", "middle", "(I)J"⟩, 6) := ⟨⟨by decide +kernel, by decide +kernel⟩, List.mem_of_getElem? (i := 93) (by decide +kernel), List.mem_of_getElem? (i := 351) (by decide +kernel), List.mem_of_getElem? (i := 352) (by decide +kernel)⟩
theorem lw_p11 : lw_okq (⟨"MajorityClock$Election", "remove", "(I)V"⟩, 6) := ⟨⟨by decide +kernel, by decide +kernel⟩, List.mem_of_getElem? (i := 93) (by decide +kernel), List.mem_of_getElem? (i := 360) (by decide +kernel), List.mem_of_getElem? (i := 361) (by decide +kernel)⟩
theorem lw_p12 : lw_okq (⟨"MajorityClock", "survivorsLeastStratum", "()I"⟩, 8) := ⟨⟨by decide +kernel, by decide +kernel⟩, List.mem_of_getElem? (i := 9) (by decide +kernel), List.mem_of_getElem? (i := 379) (by decide +kernel), List.mem_of_getElem? (i := 380) (by decide +kernel)⟩
theorem lw_p13 : lw_okq (⟨"MajorityClock", "leaseOrNull", "(I)LMajorityClock$Lease;"⟩, 8) := ⟨⟨by decide +kernel, by decide +kernel⟩, List.mem_of_getElem? (i := 9) (by decide +kernel), List.mem_of_getElem? (i := 422) (by decide +kernel), List.mem_of_getElem? (i := 423) (by decide +kernel)⟩
theorem lw_p14 : lw_okq (⟨"MajorityClock", "mayFollow", "(LMajorityClock$Lease;IJ)Z"⟩, 8) := ⟨⟨by decide +kernel, by decide +kernel⟩, List.mem_of_getElem? (i := 9) (by decide +kernel), List.mem_of_getElem? (i := 427) (by decide +kernel), List.mem_of_getElem? (i := 428) (by decide +kernel)⟩
theorem lw_p15 : lw_okq (⟨"MajorityClock", "isOver", "(LMajorityClock$Lease;)Z"⟩, 8) := ⟨⟨by decide +kernel, by decide +kernel⟩, List.mem_of_getElem? (i := 9) (by decide +kernel), List.mem_of_getElem? (i := 431) (by decide +kernel), List.mem_of_getElem? (i := 432) (by decide +kernel)⟩
def lw_privs_1 : List (MethodName × Nat) := [(⟨"MajorityClock", "serverOrNull", "(I)LMajorityClock$Server;"⟩, 8), (⟨"MajorityClock$Server", "makeRoomForSample", "()V"⟩, 12), (⟨"MajorityClock$Server", "lengthOf", "(IJI)J"⟩, 12), (⟨"MajorityClock", "callElection", "()V"⟩, 8), (⟨"MajorityClock", "isUsable", "(LMajorityClock$Server;)Z"⟩, 8), (⟨"MajorityClock$Election", "put", "(IIJJ)V"⟩, 6), (⟨"MajorityClock$Election", "findHullOf", "(I)Z"⟩, 6), (⟨"MajorityClock$Election", "intervalsAround", "(J)I"⟩, 6), (⟨"MajorityClock$Election", "farthest", "()I"⟩, 6), (⟨"MajorityClock$Election", "distances", "(I)J"⟩, 6), (⟨"MajorityClock$Election", "middle", "(I)J"⟩, 6), (⟨"MajorityClock$Election", "remove", "(I)V"⟩, 6), (⟨"MajorityClock", "survivorsLeastStratum", "()I"⟩, 8), (⟨"MajorityClock", "leaseOrNull", "(I)LMajorityClock$Lease;"⟩, 8), (⟨"MajorityClock", "mayFollow", "(LMajorityClock$Lease;IJ)Z"⟩, 8), (⟨"MajorityClock", "isOver", "(LMajorityClock$Lease;)Z"⟩, 8)]
theorem lw_r1 : ∀ q ∈ lw_privs_1, lw_okq q := List.forall_mem_cons.mpr ⟨lw_p0, List.forall_mem_cons.mpr ⟨lw_p1, List.forall_mem_cons.mpr ⟨lw_p2, List.forall_mem_cons.mpr ⟨lw_p3, List.forall_mem_cons.mpr ⟨lw_p4, List.forall_mem_cons.mpr ⟨lw_p5, List.forall_mem_cons.mpr ⟨lw_p6, List.forall_mem_cons.mpr ⟨lw_p7, List.forall_mem_cons.mpr ⟨lw_p8, List.forall_mem_cons.mpr ⟨lw_p9, List.forall_mem_cons.mpr ⟨lw_p10, List.forall_mem_cons.mpr ⟨lw_p11, List.forall_mem_cons.mpr ⟨lw_p12, List.forall_mem_cons.mpr ⟨lw_p13, List.forall_mem_cons.mpr ⟨lw_p14, List.forall_mem_cons.mpr ⟨lw_p15, fun _ h => absurd h List.not_mem_nil⟩⟩⟩⟩⟩⟩⟩⟩⟩⟩⟩⟩⟩⟩⟩⟩
theorem lw_p16 : lw_okq (⟨"MajorityClockModel", "isServer", "(I)Z"⟩, 36) := ⟨⟨by decide +kernel, by decide +kernel⟩, List.mem_of_getElem? (i := 457) (by decide +kernel), List.mem_of_getElem? (i := 589) (by decide +kernel), List.mem_of_getElem? (i := 590) (by decide +kernel)⟩
theorem lw_p17 : lw_okq (⟨"MajorityClockModel", "why", "(IJJJI)I"⟩, 36) := ⟨⟨by decide +kernel, by decide +kernel⟩, List.mem_of_getElem? (i := 457) (by decide +kernel), List.mem_of_getElem? (i := 610) (by decide +kernel), List.mem_of_getElem? (i := 611) (by decide +kernel)⟩
theorem lw_p18 : lw_okq (⟨"MajorityClockModel", "measure", "(I)V"⟩, 36) := ⟨⟨by decide +kernel, by decide +kernel⟩, List.mem_of_getElem? (i := 457) (by decide +kernel), List.mem_of_getElem? (i := 627) (by decide +kernel), List.mem_of_getElem? (i := 628) (by decide +kernel)⟩
theorem lw_p19 : lw_okq (⟨"MajorityClockModel", "growth", "(J)J"⟩, 36) := ⟨⟨by decide +kernel, by decide +kernel⟩, List.mem_of_getElem? (i := 457) (by decide +kernel), List.mem_of_getElem? (i := 631) (by decide +kernel), List.mem_of_getElem? (i := 632) (by decide +kernel)⟩
theorem lw_p20 : lw_okq (⟨"MajorityClockModel", "usable", "(I)Z"⟩, 36) := ⟨⟨by decide +kernel, by decide +kernel⟩, List.mem_of_getElem? (i := 457) (by decide +kernel), List.mem_of_getElem? (i := 644) (by decide +kernel), List.mem_of_getElem? (i := 645) (by decide +kernel)⟩
theorem lw_p21 : lw_okq (⟨"MajorityClockModel", "left", "()I"⟩, 36) := ⟨⟨by decide +kernel, by decide +kernel⟩, List.mem_of_getElem? (i := 457) (by decide +kernel), List.mem_of_getElem? (i := 648) (by decide +kernel), List.mem_of_getElem? (i := 649) (by decide +kernel)⟩
theorem lw_p22 : lw_okq (⟨"MajorityClockModel", "hullOf", "(I)Z"⟩, 36) := ⟨⟨by decide +kernel, by decide +kernel⟩, List.mem_of_getElem? (i := 457) (by decide +kernel), List.mem_of_getElem? (i := 652) (by decide +kernel), List.mem_of_getElem? (i := 653) (by decide +kernel)⟩
theorem lw_p23 : lw_okq (⟨"MajorityClockModel", "covering", "(J)I"⟩, 36) := ⟨⟨by decide +kernel, by decide +kernel⟩, List.mem_of_getElem? (i := 457) (by decide +kernel), List.mem_of_getElem? (i := 656) (by decide +kernel), List.mem_of_getElem? (i := 657) (by decide +kernel)⟩
theorem lw_p24 : lw_okq (⟨"MajorityClockModel", "leave", "()V"⟩, 36) := ⟨⟨by decide +kernel, by decide +kernel⟩, List.mem_of_getElem? (i := 457) (by decide +kernel), List.mem_of_getElem? (i := 660) (by decide +kernel), List.mem_of_getElem? (i := 661) (by decide +kernel)⟩
theorem lw_p25 : lw_okq (⟨"MajorityClockModel", "far", "(I)J"⟩, 36) := ⟨⟨by decide +kernel, by decide +kernel⟩, List.mem_of_getElem? (i := 457) (by decide +kernel), List.mem_of_getElem? (i := 665) (by decide +kernel), List.mem_of_getElem? (i := 666) (by decide +kernel)⟩
theorem lw_p26 : lw_okq (⟨"MajorityClockModel", "middle", "(I)J"⟩, 36) := ⟨⟨by decide +kernel, by decide +kernel⟩, List.mem_of_getElem? (i := 457) (by decide +kernel), List.mem_of_getElem? (i := 669) (by decide +kernel), List.mem_of_getElem? (i := 670) (by decide +kernel)⟩
theorem lw_p27 : lw_okq (⟨"MajorityClockModel", "keep", "(I)V"⟩, 36) := ⟨⟨by decide +kernel, by decide +kernel⟩, List.mem_of_getElem? (i := 457) (by decide +kernel), List.mem_of_getElem? (i := 677) (by decide +kernel), List.mem_of_getElem? (i := 678) (by decide +kernel)⟩
theorem lw_p28 : lw_okq (⟨"MajorityClockModel", "offset", "()J"⟩, 36) := ⟨⟨by decide +kernel, by decide +kernel⟩, List.mem_of_getElem? (i := 457) (by decide +kernel), List.mem_of_getElem? (i := 681) (by decide +kernel), List.mem_of_getElem? (i := 682) (by decide +kernel)⟩
def lw_privs_2 : List (MethodName × Nat) := [(⟨"MajorityClockModel", "isServer", "(I)Z"⟩, 36), (⟨"MajorityClockModel", "why", "(IJJJI)I"⟩, 36), (⟨"MajorityClockModel", "measure", "(I)V"⟩, 36), (⟨"MajorityClockModel", "growth", "(J)J"⟩, 36), (⟨"MajorityClockModel", "usable", "(I)Z"⟩, 36), (⟨"MajorityClockModel", "left", "()I"⟩, 36), (⟨"MajorityClockModel", "hullOf", "(I)Z"⟩, 36), (⟨"MajorityClockModel", "covering", "(J)I"⟩, 36), (⟨"MajorityClockModel", "leave", "()V"⟩, 36), (⟨"MajorityClockModel", "far", "(I)J"⟩, 36), (⟨"MajorityClockModel", "middle", "(I)J"⟩, 36), (⟨"MajorityClockModel", "keep", "(I)V"⟩, 36), (⟨"MajorityClockModel", "offset", "()J"⟩, 36)]
theorem lw_r2 : ∀ q ∈ lw_privs_2, lw_okq q := List.forall_mem_cons.mpr ⟨lw_p16, List.forall_mem_cons.mpr ⟨lw_p17, List.forall_mem_cons.mpr ⟨lw_p18, List.forall_mem_cons.mpr ⟨lw_p19, List.forall_mem_cons.mpr ⟨lw_p20, List.forall_mem_cons.mpr ⟨lw_p21, List.forall_mem_cons.mpr ⟨lw_p22, List.forall_mem_cons.mpr ⟨lw_p23, List.forall_mem_cons.mpr ⟨lw_p24, List.forall_mem_cons.mpr ⟨lw_p25, List.forall_mem_cons.mpr ⟨lw_p26, List.forall_mem_cons.mpr ⟨lw_p27, List.forall_mem_cons.mpr ⟨lw_p28, fun _ h => absurd h List.not_mem_nil⟩⟩⟩⟩⟩⟩⟩⟩⟩⟩⟩⟩⟩
def lw_privs : List (MethodName × Nat) := lw_privs_1 ++ (lw_privs_2)
def lw_tbl : List Cond := k2_sels lw_privs ++ tables_1
theorem lw_privs_ok : ∀ q ∈ lw_privs, lw_okq q := by
  show ∀ q ∈ lw_privs_1 ++ (lw_privs_2), lw_okq q
  exact List.forall_mem_append.mpr ⟨lw_r1, lw_r2⟩
def R_E : String := "MajorityClock$Election"
def R_Le : String := "MajorityClock$Lease"
def R_Sd : String := "MajorityClock$Served"
def R_Sv : String := "MajorityClock$Server"
def R_M : String := "MajorityClock"
def R_T : String := "MajorityClockModel"
def R_L : String := "MajorityClockLaw"
def R_J : String := "java/lang/Math"
def F_E : u_T := fun k => match k with
  | 0 => ("MajorityClock$Election", "count", "I", false)
  | 1 => ("MajorityClock$Election", "numbers", "[I", true)
  | 2 => ("MajorityClock$Election", "lows", "[J", true)
  | 3 => ("MajorityClock$Election", "highs", "[J", true)
  | 4 => ("MajorityClock$Election", "hullLow", "J", false)
  | _ => ("MajorityClock$Election", "hullHigh", "J", false)
def ty_E : Nat → FieldType := fun k => match k with
  | 0 => .int
  | 1 => .array .int
  | 2 => .array .long
  | 3 => .array .long
  | 4 => .long
  | _ => .long
theorem n_E : ∀ a, a < 6 → ∀ b, b < 6 → a ≠ b → (F_E a).2.1 ≠ (F_E b).2.1 := by decide +kernel
theorem tk_E : ∀ k, k < 6 → parseFieldDescriptor (F_E k).2.2.1 = some (ty_E k) := by decide +kernel
def F_Le : u_T := fun k => match k with
  | 0 => ("MajorityClock$Lease", "granted", "Z", false)
  | 1 => ("MajorityClock$Lease", "owner", "I", false)
  | _ => ("MajorityClock$Lease", "until", "J", false)
def ty_Le : Nat → FieldType := fun k => match k with
  | 0 => .boolean
  | 1 => .int
  | _ => .long
theorem n_Le : ∀ a, a < 3 → ∀ b, b < 3 → a ≠ b → (F_Le a).2.1 ≠ (F_Le b).2.1 := by decide +kernel
theorem tk_Le : ∀ k, k < 3 → parseFieldDescriptor (F_Le k).2.2.1 = some (ty_Le k) := by decide +kernel
def F_Sd : u_T := fun k => match k with
  | 0 => ("MajorityClock$Served", "started", "Z", false)
  | 1 => ("MajorityClock$Served", "since", "J", false)
  | 2 => ("MajorityClock$Served", "startCorrection", "J", false)
  | 3 => ("MajorityClock$Served", "target", "J", false)
  | 4 => ("MajorityClock$Served", "error", "J", false)
  | 5 => ("MajorityClock$Served", "hullLow", "J", false)
  | 6 => ("MajorityClock$Served", "hullHigh", "J", false)
  | 7 => ("MajorityClock$Served", "survivorBits", "I", false)
  | _ => ("MajorityClock$Served", "ownStratum", "I", false)
def ty_Sd : Nat → FieldType := fun k => match k with
  | 0 => .boolean
  | 1 => .long
  | 2 => .long
  | 3 => .long
  | 4 => .long
  | 5 => .long
  | 6 => .long
  | 7 => .int
  | _ => .int
theorem n_Sd : ∀ a, a < 9 → ∀ b, b < 9 → a ≠ b → (F_Sd a).2.1 ≠ (F_Sd b).2.1 := by decide +kernel
theorem tk_Sd : ∀ k, k < 9 → parseFieldDescriptor (F_Sd k).2.2.1 = some (ty_Sd k) := by decide +kernel
def F_Sv : u_T := fun k => match k with
  | 0 => ("MajorityClock$Server", "secret", "J", false)
  | 1 => ("MajorityClock$Server", "pending", "Z", false)
  | 2 => ("MajorityClock$Server", "pendingStamp", "J", false)
  | 3 => ("MajorityClock$Server", "pendingSince", "J", false)
  | 4 => ("MajorityClock$Server", "acceptedOrigin", "J", false)
  | 5 => ("MajorityClock$Server", "toldStratum", "I", false)
  | 6 => ("MajorityClock$Server", "toldReference", "I", false)
  | 7 => ("MajorityClock$Server", "toldRoot", "I", false)
  | 8 => ("MajorityClock$Server", "samples", "I", false)
  | 9 => ("MajorityClock$Server", "lowEnds", "[J", true)
  | 10 => ("MajorityClock$Server", "highEnds", "[J", true)
  | _ => ("MajorityClock$Server", "times", "[J", true)
def ty_Sv : Nat → FieldType := fun k => match k with
  | 0 => .long
  | 1 => .boolean
  | 2 => .long
  | 3 => .long
  | 4 => .long
  | 5 => .int
  | 6 => .int
  | 7 => .int
  | 8 => .int
  | 9 => .array .long
  | 10 => .array .long
  | _ => .array .long
theorem n_Sv : ∀ a, a < 12 → ∀ b, b < 12 → a ≠ b → (F_Sv a).2.1 ≠ (F_Sv b).2.1 := by decide +kernel
theorem tk_Sv : ∀ k, k < 12 → parseFieldDescriptor (F_Sv k).2.2.1 = some (ty_Sv k) := by decide +kernel
def F_M : u_T := fun k => match k with
  | 0 => ("MajorityClock", "servers", "[LMajorityClock$Server;", true)
  | 1 => ("MajorityClock", "leases", "[LMajorityClock$Lease;", true)
  | 2 => ("MajorityClock", "election", "LMajorityClock$Election;", true)
  | 3 => ("MajorityClock", "served", "LMajorityClock$Served;", true)
  | 4 => ("MajorityClock", "drift", "I", true)
  | 5 => ("MajorityClock", "self", "I", true)
  | 6 => ("MajorityClock", "now", "J", false)
  | _ => ("MajorityClock", "latestStamp", "J", false)
def ty_M : Nat → FieldType := fun k => match k with
  | 0 => .array (.object "MajorityClock$Server")
  | 1 => .array (.object "MajorityClock$Lease")
  | 2 => .object "MajorityClock$Election"
  | 3 => .object "MajorityClock$Served"
  | 4 => .int
  | 5 => .int
  | 6 => .long
  | _ => .long
theorem n_M : ∀ a, a < 8 → ∀ b, b < 8 → a ≠ b → (F_M a).2.1 ≠ (F_M b).2.1 := by decide +kernel
theorem tk_M : ∀ k, k < 8 → parseFieldDescriptor (F_M k).2.2.1 = some (ty_M k) := by decide +kernel
def F_T : u_T := fun k => match k with
  | 0 => ("MajorityClockModel", "servers", "I", false)
  | 1 => ("MajorityClockModel", "drift", "I", false)
  | 2 => ("MajorityClockModel", "self", "I", false)
  | 3 => ("MajorityClockModel", "now", "J", false)
  | 4 => ("MajorityClockModel", "asked", "Z", false)
  | 5 => ("MajorityClockModel", "lastStamp", "J", false)
  | 6 => ("MajorityClockModel", "key", "[J", true)
  | 7 => ("MajorityClockModel", "pending", "[Z", true)
  | 8 => ("MajorityClockModel", "askedAt", "[J", true)
  | 9 => ("MajorityClockModel", "stampOf", "[J", true)
  | 10 => ("MajorityClockModel", "answered", "[Z", true)
  | 11 => ("MajorityClockModel", "lastOrigin", "[J", true)
  | 12 => ("MajorityClockModel", "samples", "[I", true)
  | 13 => ("MajorityClockModel", "sampleLow", "[J", true)
  | 14 => ("MajorityClockModel", "sampleHigh", "[J", true)
  | 15 => ("MajorityClockModel", "sampleTime", "[J", true)
  | 16 => ("MajorityClockModel", "stratumOf", "[I", true)
  | 17 => ("MajorityClockModel", "reference", "[I", true)
  | 18 => ("MajorityClockModel", "root", "[I", true)
  | 19 => ("MajorityClockModel", "from", "[J", true)
  | 20 => ("MajorityClockModel", "to", "[J", true)
  | 21 => ("MajorityClockModel", "in", "[Z", true)
  | 22 => ("MajorityClockModel", "least", "J", false)
  | 23 => ("MajorityClockModel", "greatest", "J", false)
  | 24 => ("MajorityClockModel", "set", "Z", false)
  | 25 => ("MajorityClockModel", "mask", "I", false)
  | 26 => ("MajorityClockModel", "best", "I", false)
  | 27 => ("MajorityClockModel", "lower", "J", false)
  | 28 => ("MajorityClockModel", "upper", "J", false)
  | 29 => ("MajorityClockModel", "target", "J", false)
  | 30 => ("MajorityClockModel", "error", "J", false)
  | 31 => ("MajorityClockModel", "madeAt", "J", false)
  | 32 => ("MajorityClockModel", "startedFrom", "J", false)
  | 33 => ("MajorityClockModel", "granted", "[Z", true)
  | 34 => ("MajorityClockModel", "owner", "[I", true)
  | _ => ("MajorityClockModel", "until", "[J", true)
def ty_T : Nat → FieldType := fun k => match k with
  | 0 => .int
  | 1 => .int
  | 2 => .int
  | 3 => .long
  | 4 => .boolean
  | 5 => .long
  | 6 => .array .long
  | 7 => .array .boolean
  | 8 => .array .long
  | 9 => .array .long
  | 10 => .array .boolean
  | 11 => .array .long
  | 12 => .array .int
  | 13 => .array .long
  | 14 => .array .long
  | 15 => .array .long
  | 16 => .array .int
  | 17 => .array .int
  | 18 => .array .int
  | 19 => .array .long
  | 20 => .array .long
  | 21 => .array .boolean
  | 22 => .long
  | 23 => .long
  | 24 => .boolean
  | 25 => .int
  | 26 => .int
  | 27 => .long
  | 28 => .long
  | 29 => .long
  | 30 => .long
  | 31 => .long
  | 32 => .long
  | 33 => .array .boolean
  | 34 => .array .int
  | _ => .array .long
theorem n_T : ∀ a, a < 36 → ∀ b, b < 36 → a ≠ b → (F_T a).2.1 ≠ (F_T b).2.1 := by decide +kernel
theorem tk_T : ∀ k, k < 36 → parseFieldDescriptor (F_T k).2.2.1 = some (ty_T k) := by decide +kernel
abbrev CLS : List vw_C := [(R_E, F_E, 6), (R_Le, F_Le, 3), (R_Sd, F_Sd, 9), (R_Sv, F_Sv, 12), (R_M, F_M, 8), (R_T, F_T, 36)]
/-- the classes of arrays: z gives their numbers -/
abbrev TY (z : Nat → ClassId) : List (ClassId × FieldType) := [(z 0, .int), (z 1, .long), (z 2, .boolean), (z 3, .object R_Sv), (z 4, .object R_Le)]
abbrev b_M_init : ByteArray := prog_1_method_1_code
def y_M_init : MethodName := ⟨R_M, "<init>", "(III)V"⟩
abbrev b_J_max_II : ByteArray := prog_8_method_65_code
def y_J_max_II : MethodName := ⟨R_J, "max", "(II)I"⟩
abbrev b_J_min_II : ByteArray := prog_8_method_69_code
def y_J_min_II : MethodName := ⟨R_J, "min", "(II)I"⟩
abbrev b_Sv_init : ByteArray := prog_5_method_1_code
def y_Sv_init : MethodName := ⟨R_Sv, "<init>", "()V"⟩
abbrev b_Le_init : ByteArray := prog_3_method_1_code
def y_Le_init : MethodName := ⟨R_Le, "<init>", "()V"⟩
abbrev b_E_init : ByteArray := prog_2_method_1_code
def y_E_init : MethodName := ⟨R_E, "<init>", "()V"⟩
abbrev b_Sd_init : ByteArray := prog_4_method_1_code
def y_Sd_init : MethodName := ⟨R_Sd, "<init>", "()V"⟩
abbrev b_M_advance : ByteArray := prog_1_method_2_code
def y_M_advance : MethodName := ⟨R_M, "advance", "(I)Z"⟩
abbrev b_M_hardware : ByteArray := prog_1_method_3_code
def y_M_hardware : MethodName := ⟨R_M, "hardware", "()J"⟩
abbrev b_M_key : ByteArray := prog_1_method_4_code
def y_M_key : MethodName := ⟨R_M, "key", "(IJ)Z"⟩
abbrev b_M_serverOrNull : ByteArray := prog_1_method_21_code
def y_M_serverOrNull : MethodName := ⟨R_M, "serverOrNull", "(I)LMajorityClock$Server;"⟩
abbrev b_M_seal : ByteArray := prog_1_method_5_code
def y_M_seal : MethodName := ⟨R_M, "seal", "(IJJJ)I"⟩
abbrev b_M_sealUnder : ByteArray := prog_1_method_29_code
def y_M_sealUnder : MethodName := ⟨R_M, "sealUnder", "(JJJJ)I"⟩
abbrev b_M_mixed : ByteArray := prog_1_method_30_code
def y_M_mixed : MethodName := ⟨R_M, "mixed", "(JJ)J"⟩
abbrev b_M_ask : ByteArray := prog_1_method_6_code
def y_M_ask : MethodName := ⟨R_M, "ask", "(I)J"⟩
abbrev b_J_max_JJ : ByteArray := prog_8_method_66_code
def y_J_max_JJ : MethodName := ⟨R_J, "max", "(JJ)J"⟩
abbrev b_Sv_expectReply : ByteArray := prog_5_method_2_code
def y_Sv_expectReply : MethodName := ⟨R_Sv, "expectReply", "(JJ)V"⟩
abbrev b_M_reply : ByteArray := prog_1_method_7_code
def y_M_reply : MethodName := ⟨R_M, "reply", "(IJJJI)I"⟩
abbrev b_M_isReplyTime : ByteArray := prog_1_method_28_code
def y_M_isReplyTime : MethodName := ⟨R_M, "isReplyTime", "(J)Z"⟩
abbrev b_Sv_acceptedLast : ByteArray := prog_5_method_3_code
def y_Sv_acceptedLast : MethodName := ⟨R_Sv, "acceptedLast", "(J)Z"⟩
abbrev b_Sv_expects : ByteArray := prog_5_method_4_code
def y_Sv_expects : MethodName := ⟨R_Sv, "expects", "(J)Z"⟩
abbrev b_Sv_accept : ByteArray := prog_5_method_5_code
def y_Sv_accept : MethodName := ⟨R_Sv, "accept", "(JJJJ)V"⟩
abbrev b_Sv_makeRoomForSample : ByteArray := prog_5_method_6_code
def y_Sv_makeRoomForSample : MethodName := ⟨R_Sv, "makeRoomForSample", "()V"⟩
abbrev b_M_tell : ByteArray := prog_1_method_8_code
def y_M_tell : MethodName := ⟨R_M, "tell", "(IIII)Z"⟩
abbrev b_M_low : ByteArray := prog_1_method_9_code
def y_M_low : MethodName := ⟨R_M, "low", "(I)J"⟩
abbrev b_Sv_shortestSample : ByteArray := prog_5_method_8_code
def y_Sv_shortestSample : MethodName := ⟨R_Sv, "shortestSample", "(JI)I"⟩
abbrev b_Sv_lengthOf : ByteArray := prog_5_method_9_code
def y_Sv_lengthOf : MethodName := ⟨R_Sv, "lengthOf", "(IJI)J"⟩
abbrev b_Sv_upperEnd : ByteArray := prog_5_method_11_code
def y_Sv_upperEnd : MethodName := ⟨R_Sv, "upperEnd", "(IJI)J"⟩
abbrev b_M_growth : ByteArray := prog_1_method_31_code
def y_M_growth : MethodName := ⟨R_M, "growth", "(JI)J"⟩
abbrev b_J_floorDiv : ByteArray := prog_8_method_49_code
def y_J_floorDiv : MethodName := ⟨R_J, "floorDiv", "(JJ)J"⟩
abbrev b_Sv_lowerEnd : ByteArray := prog_5_method_10_code
def y_Sv_lowerEnd : MethodName := ⟨R_Sv, "lowerEnd", "(IJI)J"⟩
abbrev b_M_high : ByteArray := prog_1_method_10_code
def y_M_high : MethodName := ⟨R_M, "high", "(I)J"⟩
abbrev b_M_update : ByteArray := prog_1_method_11_code
def y_M_update : MethodName := ⟨R_M, "update", "()I"⟩
abbrev b_M_callElection : ByteArray := prog_1_method_24_code
def y_M_callElection : MethodName := ⟨R_M, "callElection", "()V"⟩
abbrev b_E_clear : ByteArray := prog_2_method_2_code
def y_E_clear : MethodName := ⟨R_E, "clear", "()V"⟩
abbrev b_M_isUsable : ByteArray := prog_1_method_23_code
def y_M_isUsable : MethodName := ⟨R_M, "isUsable", "(LMajorityClock$Server;)Z"⟩
abbrev b_Sv_latestSampleTime : ByteArray := prog_5_method_7_code
def y_Sv_latestSampleTime : MethodName := ⟨R_Sv, "latestSampleTime", "()J"⟩
abbrev b_E_enter : ByteArray := prog_2_method_3_code
def y_E_enter : MethodName := ⟨R_E, "enter", "(IJJ)V"⟩
abbrev b_E_put : ByteArray := prog_2_method_4_code
def y_E_put : MethodName := ⟨R_E, "put", "(IIJJ)V"⟩
abbrev b_E_findHull : ByteArray := prog_2_method_5_code
def y_E_findHull : MethodName := ⟨R_E, "findHull", "()Z"⟩
abbrev b_E_findHullOf : ByteArray := prog_2_method_6_code
def y_E_findHullOf : MethodName := ⟨R_E, "findHullOf", "(I)Z"⟩
abbrev b_E_intervalsAround : ByteArray := prog_2_method_7_code
def y_E_intervalsAround : MethodName := ⟨R_E, "intervalsAround", "(J)I"⟩
abbrev b_J_min_JJ : ByteArray := prog_8_method_70_code
def y_J_min_JJ : MethodName := ⟨R_J, "min", "(JJ)J"⟩
abbrev b_E_keepThoseAtHull : ByteArray := prog_2_method_8_code
def y_E_keepThoseAtHull : MethodName := ⟨R_E, "keepThoseAtHull", "()V"⟩
abbrev b_E_keepTheClosest : ByteArray := prog_2_method_9_code
def y_E_keepTheClosest : MethodName := ⟨R_E, "keepTheClosest", "()V"⟩
abbrev b_E_farthest : ByteArray := prog_2_method_10_code
def y_E_farthest : MethodName := ⟨R_E, "farthest", "()I"⟩
abbrev b_E_distances : ByteArray := prog_2_method_11_code
def y_E_distances : MethodName := ⟨R_E, "distances", "(I)J"⟩
abbrev b_E_middle : ByteArray := prog_2_method_12_code
def y_E_middle : MethodName := ⟨R_E, "middle", "(I)J"⟩
abbrev b_J_abs : ByteArray := prog_8_method_61_code
def y_J_abs : MethodName := ⟨R_J, "abs", "(J)J"⟩
abbrev b_E_remove : ByteArray := prog_2_method_13_code
def y_E_remove : MethodName := ⟨R_E, "remove", "(I)V"⟩
abbrev b_E_target : ByteArray := prog_2_method_14_code
def y_E_target : MethodName := ⟨R_E, "target", "()J"⟩
abbrev b_Sd_follow : ByteArray := prog_4_method_2_code
def y_Sd_follow : MethodName := ⟨R_Sd, "follow", "(JJ)V"⟩
abbrev b_Sd_correctionAt : ByteArray := prog_4_method_4_code
def y_Sd_correctionAt : MethodName := ⟨R_Sd, "correctionAt", "(J)J"⟩
abbrev b_M_survivorsLeastStratum : ByteArray := prog_1_method_25_code
def y_M_survivorsLeastStratum : MethodName := ⟨R_M, "survivorsLeastStratum", "()I"⟩
abbrev b_Sd_remember : ByteArray := prog_4_method_3_code
def y_Sd_remember : MethodName := ⟨R_Sd, "remember", "(LMajorityClock$Election;I)V"⟩
abbrev b_E_bits : ByteArray := prog_2_method_15_code
def y_E_bits : MethodName := ⟨R_E, "bits", "()I"⟩
abbrev b_M_survivors : ByteArray := prog_1_method_12_code
def y_M_survivors : MethodName := ⟨R_M, "survivors", "()I"⟩
abbrev b_M_hull : ByteArray := prog_1_method_13_code
def y_M_hull : MethodName := ⟨R_M, "hull", "(Z)J"⟩
abbrev b_M_stratum : ByteArray := prog_1_method_14_code
def y_M_stratum : MethodName := ⟨R_M, "stratum", "()I"⟩
abbrev b_M_time : ByteArray := prog_1_method_15_code
def y_M_time : MethodName := ⟨R_M, "time", "()J"⟩
abbrev b_M_bound : ByteArray := prog_1_method_16_code
def y_M_bound : MethodName := ⟨R_M, "bound", "()J"⟩
abbrev b_Sd_wrongAtMost : ByteArray := prog_4_method_5_code
def y_Sd_wrongAtMost : MethodName := ⟨R_Sd, "wrongAtMost", "(JI)J"⟩
abbrev b_M_grant : ByteArray := prog_1_method_17_code
def y_M_grant : MethodName := ⟨R_M, "grant", "(III)J"⟩
abbrev b_M_leaseOrNull : ByteArray := prog_1_method_22_code
def y_M_leaseOrNull : MethodName := ⟨R_M, "leaseOrNull", "(I)LMajorityClock$Lease;"⟩
abbrev b_M_mayFollow : ByteArray := prog_1_method_26_code
def y_M_mayFollow : MethodName := ⟨R_M, "mayFollow", "(LMajorityClock$Lease;IJ)Z"⟩
abbrev b_M_isOver : ByteArray := prog_1_method_27_code
def y_M_isOver : MethodName := ⟨R_M, "isOver", "(LMajorityClock$Lease;)Z"⟩
abbrev b_Le_give : ByteArray := prog_3_method_2_code
def y_Le_give : MethodName := ⟨R_Le, "give", "(IJ)V"⟩
abbrev b_M_holds : ByteArray := prog_1_method_18_code
def y_M_holds : MethodName := ⟨R_M, "holds", "(IIJJ)Z"⟩
abbrev b_M_expiry : ByteArray := prog_1_method_19_code
def y_M_expiry : MethodName := ⟨R_M, "expiry", "(I)J"⟩
abbrev b_M_holder : ByteArray := prog_1_method_20_code
def y_M_holder : MethodName := ⟨R_M, "holder", "(I)I"⟩
abbrev b_L_cell : ByteArray := method_2_code
def y_L_cell : MethodName := ⟨R_L, "cell", "([II)I"⟩
abbrev b_T_init : ByteArray := prog_7_method_1_code
def y_T_init : MethodName := ⟨R_T, "<init>", "(III)V"⟩
abbrev b_T_within : ByteArray := prog_7_method_2_code
def y_T_within : MethodName := ⟨R_T, "within", "(III)I"⟩
abbrev b_T_advance : ByteArray := prog_7_method_7_code
def y_T_advance : MethodName := ⟨R_T, "advance", "(I)Z"⟩
abbrev b_T_hardware : ByteArray := prog_7_method_8_code
def y_T_hardware : MethodName := ⟨R_T, "hardware", "()J"⟩
abbrev b_T_key : ByteArray := prog_7_method_9_code
def y_T_key : MethodName := ⟨R_T, "key", "(IJ)Z"⟩
abbrev b_T_isServer : ByteArray := prog_7_method_4_code
def y_T_isServer : MethodName := ⟨R_T, "isServer", "(I)Z"⟩
abbrev b_T_seal : ByteArray := prog_7_method_11_code
def y_T_seal : MethodName := ⟨R_T, "seal", "(IJJJ)I"⟩
abbrev b_T_mixed : ByteArray := prog_7_method_10_code
def y_T_mixed : MethodName := ⟨R_T, "mixed", "(JJ)J"⟩
abbrev b_T_ask : ByteArray := prog_7_method_12_code
def y_T_ask : MethodName := ⟨R_T, "ask", "(I)J"⟩
abbrev b_T_reply : ByteArray := prog_7_method_14_code
def y_T_reply : MethodName := ⟨R_T, "reply", "(IJJJI)I"⟩
abbrev b_T_why : ByteArray := prog_7_method_13_code
def y_T_why : MethodName := ⟨R_T, "why", "(IJJJI)I"⟩
abbrev b_T_between : ByteArray := prog_7_method_3_code
def y_T_between : MethodName := ⟨R_T, "between", "(JJJ)Z"⟩
abbrev b_T_tell : ByteArray := prog_7_method_15_code
def y_T_tell : MethodName := ⟨R_T, "tell", "(IIII)Z"⟩
abbrev b_T_low : ByteArray := prog_7_method_17_code
def y_T_low : MethodName := ⟨R_T, "low", "(I)J"⟩
abbrev b_T_measure : ByteArray := prog_7_method_16_code
def y_T_measure : MethodName := ⟨R_T, "measure", "(I)V"⟩
abbrev b_T_growth : ByteArray := prog_7_method_6_code
def y_T_growth : MethodName := ⟨R_T, "growth", "(J)J"⟩
abbrev b_T_high : ByteArray := prog_7_method_18_code
def y_T_high : MethodName := ⟨R_T, "high", "(I)J"⟩
abbrev b_T_update : ByteArray := prog_7_method_26_code
def y_T_update : MethodName := ⟨R_T, "update", "()I"⟩
abbrev b_T_usable : ByteArray := prog_7_method_19_code
def y_T_usable : MethodName := ⟨R_T, "usable", "(I)Z"⟩
abbrev b_T_left : ByteArray := prog_7_method_20_code
def y_T_left : MethodName := ⟨R_T, "left", "()I"⟩
abbrev b_T_hullOf : ByteArray := prog_7_method_22_code
def y_T_hullOf : MethodName := ⟨R_T, "hullOf", "(I)Z"⟩
abbrev b_T_covering : ByteArray := prog_7_method_21_code
def y_T_covering : MethodName := ⟨R_T, "covering", "(J)I"⟩
abbrev b_T_leave : ByteArray := prog_7_method_25_code
def y_T_leave : MethodName := ⟨R_T, "leave", "()V"⟩
abbrev b_T_far : ByteArray := prog_7_method_24_code
def y_T_far : MethodName := ⟨R_T, "far", "(I)J"⟩
abbrev b_T_middle : ByteArray := prog_7_method_23_code
def y_T_middle : MethodName := ⟨R_T, "middle", "(I)J"⟩
abbrev b_T_down : ByteArray := prog_7_method_5_code
def y_T_down : MethodName := ⟨R_T, "down", "(JJ)J"⟩
abbrev b_T_keep : ByteArray := prog_7_method_27_code
def y_T_keep : MethodName := ⟨R_T, "keep", "(I)V"⟩
abbrev b_T_offset : ByteArray := prog_7_method_31_code
def y_T_offset : MethodName := ⟨R_T, "offset", "()J"⟩
abbrev b_T_survivors : ByteArray := prog_7_method_28_code
def y_T_survivors : MethodName := ⟨R_T, "survivors", "()I"⟩
abbrev b_T_hull : ByteArray := prog_7_method_29_code
def y_T_hull : MethodName := ⟨R_T, "hull", "(Z)J"⟩
abbrev b_T_stratum : ByteArray := prog_7_method_30_code
def y_T_stratum : MethodName := ⟨R_T, "stratum", "()I"⟩
abbrev b_T_time : ByteArray := prog_7_method_32_code
def y_T_time : MethodName := ⟨R_T, "time", "()J"⟩
abbrev b_T_bound : ByteArray := prog_7_method_33_code
def y_T_bound : MethodName := ⟨R_T, "bound", "()J"⟩
abbrev b_T_grant : ByteArray := prog_7_method_35_code
def y_T_grant : MethodName := ⟨R_T, "grant", "(III)J"⟩
abbrev b_T_isLease : ByteArray := prog_7_method_34_code
def y_T_isLease : MethodName := ⟨R_T, "isLease", "(I)Z"⟩
abbrev b_T_holds : ByteArray := prog_7_method_36_code
def y_T_holds : MethodName := ⟨R_T, "holds", "(IIJJ)Z"⟩
abbrev b_T_expiry : ByteArray := prog_7_method_37_code
def y_T_expiry : MethodName := ⟨R_T, "expiry", "(I)J"⟩
abbrev b_T_holder : ByteArray := prog_7_method_38_code
def y_T_holder : MethodName := ⟨R_T, "holder", "(I)I"⟩
abbrev b_L_law : ByteArray := code
def BIG_0 : List Cond := [(Jvm.Cond.selects "MajorityClock" ({ cls := "MajorityClock", name := "serverOrNull", desc := "(I)LMajorityClock$Server;" } : Jvm.MethodName) ({ cls := "MajorityClock", name := "serverOrNull", desc := "(I)LMajorityClock$Server;" } : Jvm.MethodName)), (Jvm.Cond.selects "MajorityClock$Server" ({ cls := "MajorityClock$Server", name := "makeRoomForSample", desc := "()V" } : Jvm.MethodName) ({ cls := "MajorityClock$Server", name := "makeRoomForSample", desc := "()V" } : Jvm.MethodName)), (Jvm.Cond.selects "MajorityClock$Server" ({ cls := "MajorityClock$Server", name := "lengthOf", desc := "(IJI)J" } : Jvm.MethodName) ({ cls := "MajorityClock$Server", name := "lengthOf", desc := "(IJI)J" } : Jvm.MethodName)), (Jvm.Cond.selects "MajorityClock" ({ cls := "MajorityClock", name := "callElection", desc := "()V" } : Jvm.MethodName) ({ cls := "MajorityClock", name := "callElection", desc := "()V" } : Jvm.MethodName)), (Jvm.Cond.selects "MajorityClock" ({ cls := "MajorityClock", name := "isUsable", desc := "(LMajorityClock$Server;)Z" } : Jvm.MethodName) ({ cls := "MajorityClock", name := "isUsable", desc := "(LMajorityClock$Server;)Z" } : Jvm.MethodName)), (Jvm.Cond.selects "MajorityClock$Election" ({ cls := "MajorityClock$Election", name := "put", desc := "(IIJJ)V" } : Jvm.MethodName) ({ cls := "MajorityClock$Election", name := "put", desc := "(IIJJ)V" } : Jvm.MethodName)), (Jvm.Cond.selects "MajorityClock$Election" ({ cls := "MajorityClock$Election", name := "findHullOf", desc := "(I)Z" } : Jvm.MethodName) ({ cls := "MajorityClock$Election", name := "findHullOf", desc := "(I)Z" } : Jvm.MethodName)), (Jvm.Cond.selects "MajorityClock$Election" ({ cls := "MajorityClock$Election", name := "intervalsAround", desc := "(J)I" } : Jvm.MethodName) ({ cls := "MajorityClock$Election", name := "intervalsAround", desc := "(J)I" } : Jvm.MethodName)), (Jvm.Cond.selects "MajorityClock$Election" ({ cls := "MajorityClock$Election", name := "farthest", desc := "()I" } : Jvm.MethodName) ({ cls := "MajorityClock$Election", name := "farthest", desc := "()I" } : Jvm.MethodName)), (Jvm.Cond.selects "MajorityClock$Election" ({ cls := "MajorityClock$Election", name := "distances", desc := "(I)J" } : Jvm.MethodName) ({ cls := "MajorityClock$Election", name := "distances", desc := "(I)J" } : Jvm.MethodName)), (Jvm.Cond.selects "MajorityClock$Election" ({ cls := "MajorityClock$Election", name := "middle", desc := "(I)J" } : Jvm.MethodName) ({ cls := "MajorityClock$Election", name := "middle", desc := "(I)J" } : Jvm.MethodName)), (Jvm.Cond.selects "MajorityClock$Election" ({ cls := "MajorityClock$Election", name := "remove", desc := "(I)V" } : Jvm.MethodName) ({ cls := "MajorityClock$Election", name := "remove", desc := "(I)V" } : Jvm.MethodName)), (Jvm.Cond.selects "MajorityClock" ({ cls := "MajorityClock", name := "survivorsLeastStratum", desc := "()I" } : Jvm.MethodName) ({ cls := "MajorityClock", name := "survivorsLeastStratum", desc := "()I" } : Jvm.MethodName)), (Jvm.Cond.selects "MajorityClock" ({ cls := "MajorityClock", name := "leaseOrNull", desc := "(I)LMajorityClock$Lease;" } : Jvm.MethodName) ({ cls := "MajorityClock", name := "leaseOrNull", desc := "(I)LMajorityClock$Lease;" } : Jvm.MethodName)), (Jvm.Cond.selects "MajorityClock" ({ cls := "MajorityClock", name := "mayFollow", desc := "(LMajorityClock$Lease;IJ)Z" } : Jvm.MethodName) ({ cls := "MajorityClock", name := "mayFollow", desc := "(LMajorityClock$Lease;IJ)Z" } : Jvm.MethodName)), (Jvm.Cond.selects "MajorityClock" ({ cls := "MajorityClock", name := "isOver", desc := "(LMajorityClock$Lease;)Z" } : Jvm.MethodName) ({ cls := "MajorityClock", name := "isOver", desc := "(LMajorityClock$Lease;)Z" } : Jvm.MethodName)), (Jvm.Cond.selects "MajorityClockModel" ({ cls := "MajorityClockModel", name := "isServer", desc := "(I)Z" } : Jvm.MethodName) ({ cls := "MajorityClockModel", name := "isServer", desc := "(I)Z" } : Jvm.MethodName)), (Jvm.Cond.selects "MajorityClockModel" ({ cls := "MajorityClockModel", name := "why", desc := "(IJJJI)I" } : Jvm.MethodName) ({ cls := "MajorityClockModel", name := "why", desc := "(IJJJI)I" } : Jvm.MethodName)), (Jvm.Cond.selects "MajorityClockModel" ({ cls := "MajorityClockModel", name := "measure", desc := "(I)V" } : Jvm.MethodName) ({ cls := "MajorityClockModel", name := "measure", desc := "(I)V" } : Jvm.MethodName)), (Jvm.Cond.selects "MajorityClockModel" ({ cls := "MajorityClockModel", name := "growth", desc := "(J)J" } : Jvm.MethodName) ({ cls := "MajorityClockModel", name := "growth", desc := "(J)J" } : Jvm.MethodName)), (Jvm.Cond.selects "MajorityClockModel" ({ cls := "MajorityClockModel", name := "usable", desc := "(I)Z" } : Jvm.MethodName) ({ cls := "MajorityClockModel", name := "usable", desc := "(I)Z" } : Jvm.MethodName)), (Jvm.Cond.selects "MajorityClockModel" ({ cls := "MajorityClockModel", name := "left", desc := "()I" } : Jvm.MethodName) ({ cls := "MajorityClockModel", name := "left", desc := "()I" } : Jvm.MethodName)), (Jvm.Cond.selects "MajorityClockModel" ({ cls := "MajorityClockModel", name := "hullOf", desc := "(I)Z" } : Jvm.MethodName) ({ cls := "MajorityClockModel", name := "hullOf", desc := "(I)Z" } : Jvm.MethodName)), (Jvm.Cond.selects "MajorityClockModel" ({ cls := "MajorityClockModel", name := "covering", desc := "(J)I" } : Jvm.MethodName) ({ cls := "MajorityClockModel", name := "covering", desc := "(J)I" } : Jvm.MethodName)), (Jvm.Cond.selects "MajorityClockModel" ({ cls := "MajorityClockModel", name := "leave", desc := "()V" } : Jvm.MethodName) ({ cls := "MajorityClockModel", name := "leave", desc := "()V" } : Jvm.MethodName)), (Jvm.Cond.selects "MajorityClockModel" ({ cls := "MajorityClockModel", name := "far", desc := "(I)J" } : Jvm.MethodName) ({ cls := "MajorityClockModel", name := "far", desc := "(I)J" } : Jvm.MethodName)), (Jvm.Cond.selects "MajorityClockModel" ({ cls := "MajorityClockModel", name := "middle", desc := "(I)J" } : Jvm.MethodName) ({ cls := "MajorityClockModel", name := "middle", desc := "(I)J" } : Jvm.MethodName)), (Jvm.Cond.selects "MajorityClockModel" ({ cls := "MajorityClockModel", name := "keep", desc := "(I)V" } : Jvm.MethodName) ({ cls := "MajorityClockModel", name := "keep", desc := "(I)V" } : Jvm.MethodName)), (Jvm.Cond.selects "MajorityClockModel" ({ cls := "MajorityClockModel", name := "offset", desc := "()J" } : Jvm.MethodName) ({ cls := "MajorityClockModel", name := "offset", desc := "()J" } : Jvm.MethodName)), (Jvm.Cond.initialized "MajorityClockLaw"), (Jvm.Cond.initialized "MajorityClock"), (Jvm.Cond.initialized "java/lang/Math"), (Jvm.Cond.initialized "MajorityClock$Server"), (Jvm.Cond.initialized "MajorityClock$Lease"), (Jvm.Cond.initialized "MajorityClock$Election"), (Jvm.Cond.initialized "MajorityClock$Served"), (Jvm.Cond.initialized "MajorityClockModel"), (Jvm.Cond.classLink "MajorityClockLaw" (7 : Nat) "MajorityClock"), (Jvm.Cond.instantiable "MajorityClock" (8 : Nat)), (Jvm.Cond.methodLink "MajorityClockLaw" (15 : Nat) ({ cls := "MajorityClock", name := "<init>", desc := "(III)V" } : Jvm.MethodName)), (Jvm.Cond.instanceMethod ({ cls := "MajorityClock", name := "<init>", desc := "(III)V" } : Jvm.MethodName)), (Jvm.Cond.code ({ cls := "MajorityClock", name := "<init>", desc := "(III)V" } : Jvm.MethodName) prog_1_method_1_code (6 : Nat) (Option.none : Option Jvm.ClassFile.FieldType)), (Jvm.Cond.methodLink "MajorityClock" (1 : Nat) ({ cls := "java/lang/Object", name := "<init>", desc := "()V" } : Jvm.MethodName)), (Jvm.Cond.instanceMethod ({ cls := "java/lang/Object", name := "<init>", desc := "()V" } : Jvm.MethodName)), (Jvm.Cond.code ({ cls := "java/lang/Object", name := "<init>", desc := "()V" } : Jvm.MethodName) object_method_1_code (1 : Nat) (Option.none : Option Jvm.ClassFile.FieldType)), (Jvm.Cond.constantLong "MajorityClock" (7 : Nat) (-1 : Int64)), (Jvm.Cond.methodLink "MajorityClock" (15 : Nat) ({ cls := "java/lang/Math", name := "max", desc := "(II)I" } : Jvm.MethodName)), (Jvm.Cond.static ({ cls := "java/lang/Math", name := "max", desc := "(II)I" } : Jvm.MethodName)), (Jvm.Cond.code ({ cls := "java/lang/Math", name := "max", desc := "(II)I" } : Jvm.MethodName) prog_8_method_65_code (2 : Nat) (Option.some Jvm.ClassFile.FieldType.int)), (Jvm.Cond.methodLink "MajorityClock" (21 : Nat) ({ cls := "java/lang/Math", name := "min", desc := "(II)I" } : Jvm.MethodName))]
def BIG_1 : List Cond := [(Jvm.Cond.static ({ cls := "java/lang/Math", name := "min", desc := "(II)I" } : Jvm.MethodName)), (Jvm.Cond.code ({ cls := "java/lang/Math", name := "min", desc := "(II)I" } : Jvm.MethodName) prog_8_method_69_code (2 : Nat) (Option.some Jvm.ClassFile.FieldType.int)), (Jvm.Cond.classLink "MajorityClock" (31 : Nat) "MajorityClock$Server"), (Jvm.Cond.instantiable "MajorityClock$Server" (12 : Nat)), (Jvm.Cond.instanceMethod ({ cls := "MajorityClock$Server", name := "<init>", desc := "()V" } : Jvm.MethodName)), (Jvm.Cond.code ({ cls := "MajorityClock$Server", name := "<init>", desc := "()V" } : Jvm.MethodName) prog_5_method_1_code (1 : Nat) (Option.none : Option Jvm.ClassFile.FieldType)), (Jvm.Cond.methodLink "MajorityClock$Server" (3 : Nat) ({ cls := "java/lang/Object", name := "<init>", desc := "()V" } : Jvm.MethodName)), (Jvm.Cond.fieldLink "MajorityClock" (67 : Nat) "MajorityClock$Server" "secret" "J"), (Jvm.Cond.fieldLink "MajorityClock$Server" (25 : Nat) "MajorityClock$Server" "pending" "Z"), (Jvm.Cond.fieldLink "MajorityClock$Server" (29 : Nat) "MajorityClock$Server" "pendingStamp" "J"), (Jvm.Cond.fieldLink "MajorityClock$Server" (33 : Nat) "MajorityClock$Server" "pendingSince" "J"), (Jvm.Cond.fieldLink "MajorityClock" (93 : Nat) "MajorityClock$Server" "pendingSince" "J"), (Jvm.Cond.fieldLink "MajorityClock$Server" (39 : Nat) "MajorityClock$Server" "acceptedOrigin" "J"), (Jvm.Cond.fieldLink "MajorityClock$Server" (9 : Nat) "MajorityClock$Server" "toldStratum" "I"), (Jvm.Cond.fieldLink "MajorityClock" (103 : Nat) "MajorityClock$Server" "toldStratum" "I"), (Jvm.Cond.fieldLink "MajorityClock" (106 : Nat) "MajorityClock$Server" "toldReference" "I"), (Jvm.Cond.fieldLink "MajorityClock" (109 : Nat) "MajorityClock$Server" "toldRoot" "I"), (Jvm.Cond.fieldLink "MajorityClock$Server" (61 : Nat) "MajorityClock$Server" "toldRoot" "I"), (Jvm.Cond.fieldLink "MajorityClock$Server" (36 : Nat) "MajorityClock$Server" "samples" "I"), (Jvm.Cond.fieldLink "MajorityClock" (100 : Nat) "MajorityClock$Server" "samples" "I"), (Jvm.Cond.fieldLink "MajorityClock$Server" (15 : Nat) "MajorityClock$Server" "lowEnds" "[J"), (Jvm.Cond.fieldLink "MajorityClock$Server" (19 : Nat) "MajorityClock$Server" "highEnds" "[J"), (Jvm.Cond.fieldLink "MajorityClock$Server" (22 : Nat) "MajorityClock$Server" "times" "[J"), (Jvm.Cond.lays "MajorityClock$Server" "MajorityClock$Server" "secret" "J"), (Jvm.Cond.lays "MajorityClock$Server" "MajorityClock$Server" "pending" "Z"), (Jvm.Cond.lays "MajorityClock$Server" "MajorityClock$Server" "pendingStamp" "J"), (Jvm.Cond.lays "MajorityClock$Server" "MajorityClock$Server" "pendingSince" "J"), (Jvm.Cond.lays "MajorityClock$Server" "MajorityClock$Server" "acceptedOrigin" "J"), (Jvm.Cond.lays "MajorityClock$Server" "MajorityClock$Server" "toldStratum" "I"), (Jvm.Cond.lays "MajorityClock$Server" "MajorityClock$Server" "toldReference" "I"), (Jvm.Cond.lays "MajorityClock$Server" "MajorityClock$Server" "toldRoot" "I"), (Jvm.Cond.lays "MajorityClock$Server" "MajorityClock$Server" "samples" "I"), (Jvm.Cond.laysFinal "MajorityClock$Server" "MajorityClock$Server" "lowEnds" "[J"), (Jvm.Cond.laysFinal "MajorityClock$Server" "MajorityClock$Server" "highEnds" "[J"), (Jvm.Cond.laysFinal "MajorityClock$Server" "MajorityClock$Server" "times" "[J"), (Jvm.Cond.arrayClass Jvm.ClassFile.FieldType.long), (Jvm.Cond.classLink "MajorityClock" (38 : Nat) "MajorityClock$Lease"), (Jvm.Cond.instantiable "MajorityClock$Lease" (3 : Nat)), (Jvm.Cond.instanceMethod ({ cls := "MajorityClock$Lease", name := "<init>", desc := "()V" } : Jvm.MethodName)), (Jvm.Cond.code ({ cls := "MajorityClock$Lease", name := "<init>", desc := "()V" } : Jvm.MethodName) prog_3_method_1_code (1 : Nat) (Option.none : Option Jvm.ClassFile.FieldType)), (Jvm.Cond.methodLink "MajorityClock$Lease" (1 : Nat) ({ cls := "java/lang/Object", name := "<init>", desc := "()V" } : Jvm.MethodName)), (Jvm.Cond.fieldLink "MajorityClock$Lease" (7 : Nat) "MajorityClock$Lease" "granted" "Z"), (Jvm.Cond.fieldLink "MajorityClock" (185 : Nat) "MajorityClock$Lease" "granted" "Z"), (Jvm.Cond.fieldLink "MajorityClock$Lease" (13 : Nat) "MajorityClock$Lease" "owner" "I"), (Jvm.Cond.fieldLink "MajorityClock" (196 : Nat) "MajorityClock$Lease" "owner" "I"), (Jvm.Cond.fieldLink "MajorityClock$Lease" (17 : Nat) "MajorityClock$Lease" "until" "J"), (Jvm.Cond.fieldLink "MajorityClock" (205 : Nat) "MajorityClock$Lease" "until" "J"), (Jvm.Cond.lays "MajorityClock$Lease" "MajorityClock$Lease" "granted" "Z"), (Jvm.Cond.lays "MajorityClock$Lease" "MajorityClock$Lease" "owner" "I"), (Jvm.Cond.lays "MajorityClock$Lease" "MajorityClock$Lease" "until" "J")]
def BIG_2 : List Cond := [(Jvm.Cond.classLink "MajorityClock" (45 : Nat) "MajorityClock$Election"), (Jvm.Cond.instantiable "MajorityClock$Election" (6 : Nat)), (Jvm.Cond.instanceMethod ({ cls := "MajorityClock$Election", name := "<init>", desc := "()V" } : Jvm.MethodName)), (Jvm.Cond.code ({ cls := "MajorityClock$Election", name := "<init>", desc := "()V" } : Jvm.MethodName) prog_2_method_1_code (1 : Nat) (Option.none : Option Jvm.ClassFile.FieldType)), (Jvm.Cond.methodLink "MajorityClock$Election" (3 : Nat) ({ cls := "java/lang/Object", name := "<init>", desc := "()V" } : Jvm.MethodName)), (Jvm.Cond.fieldLink "MajorityClock$Election" (22 : Nat) "MajorityClock$Election" "count" "I"), (Jvm.Cond.fieldLink "MajorityClock" (126 : Nat) "MajorityClock$Election" "count" "I"), (Jvm.Cond.fieldLink "MajorityClock$Election" (9 : Nat) "MajorityClock$Election" "numbers" "[I"), (Jvm.Cond.fieldLink "MajorityClock" (224 : Nat) "MajorityClock$Election" "numbers" "[I"), (Jvm.Cond.fieldLink "MajorityClock$Election" (15 : Nat) "MajorityClock$Election" "lows" "[J"), (Jvm.Cond.fieldLink "MajorityClock$Election" (19 : Nat) "MajorityClock$Election" "highs" "[J"), (Jvm.Cond.fieldLink "MajorityClock$Served" (33 : Nat) "MajorityClock$Election" "hullLow" "J"), (Jvm.Cond.fieldLink "MajorityClock$Election" (53 : Nat) "MajorityClock$Election" "hullLow" "J"), (Jvm.Cond.fieldLink "MajorityClock$Served" (39 : Nat) "MajorityClock$Election" "hullHigh" "J"), (Jvm.Cond.fieldLink "MajorityClock$Election" (57 : Nat) "MajorityClock$Election" "hullHigh" "J"), (Jvm.Cond.lays "MajorityClock$Election" "MajorityClock$Election" "count" "I"), (Jvm.Cond.laysFinal "MajorityClock$Election" "MajorityClock$Election" "numbers" "[I"), (Jvm.Cond.laysFinal "MajorityClock$Election" "MajorityClock$Election" "lows" "[J"), (Jvm.Cond.laysFinal "MajorityClock$Election" "MajorityClock$Election" "highs" "[J"), (Jvm.Cond.lays "MajorityClock$Election" "MajorityClock$Election" "hullLow" "J"), (Jvm.Cond.lays "MajorityClock$Election" "MajorityClock$Election" "hullHigh" "J"), (Jvm.Cond.arrayClass Jvm.ClassFile.FieldType.int), (Jvm.Cond.classLink "MajorityClock" (52 : Nat) "MajorityClock$Served"), (Jvm.Cond.instantiable "MajorityClock$Served" (9 : Nat)), (Jvm.Cond.instanceMethod ({ cls := "MajorityClock$Served", name := "<init>", desc := "()V" } : Jvm.MethodName)), (Jvm.Cond.code ({ cls := "MajorityClock$Served", name := "<init>", desc := "()V" } : Jvm.MethodName) prog_4_method_1_code (1 : Nat) (Option.none : Option Jvm.ClassFile.FieldType)), (Jvm.Cond.methodLink "MajorityClock$Served" (3 : Nat) ({ cls := "java/lang/Object", name := "<init>", desc := "()V" } : Jvm.MethodName)), (Jvm.Cond.fieldLink "MajorityClock$Served" (15 : Nat) "MajorityClock$Served" "started" "Z"), (Jvm.Cond.fieldLink "MajorityClock" (157 : Nat) "MajorityClock$Served" "started" "Z"), (Jvm.Cond.fieldLink "MajorityClock$Served" (30 : Nat) "MajorityClock$Served" "since" "J"), (Jvm.Cond.fieldLink "MajorityClock$Served" (23 : Nat) "MajorityClock$Served" "startCorrection" "J"), (Jvm.Cond.fieldLink "MajorityClock$Served" (27 : Nat) "MajorityClock$Served" "target" "J"), (Jvm.Cond.fieldLink "MajorityClock$Served" (49 : Nat) "MajorityClock$Served" "error" "J"), (Jvm.Cond.fieldLink "MajorityClock$Served" (38 : Nat) "MajorityClock$Served" "hullLow" "J"), (Jvm.Cond.fieldLink "MajorityClock" (164 : Nat) "MajorityClock$Served" "hullLow" "J"), (Jvm.Cond.fieldLink "MajorityClock$Served" (42 : Nat) "MajorityClock$Served" "hullHigh" "J"), (Jvm.Cond.fieldLink "MajorityClock" (161 : Nat) "MajorityClock$Served" "hullHigh" "J"), (Jvm.Cond.fieldLink "MajorityClock$Served" (56 : Nat) "MajorityClock$Served" "survivorBits" "I"), (Jvm.Cond.fieldLink "MajorityClock" (154 : Nat) "MajorityClock$Served" "survivorBits" "I"), (Jvm.Cond.fieldLink "MajorityClock$Served" (9 : Nat) "MajorityClock$Served" "ownStratum" "I"), (Jvm.Cond.fieldLink "MajorityClock" (167 : Nat) "MajorityClock$Served" "ownStratum" "I"), (Jvm.Cond.lays "MajorityClock$Served" "MajorityClock$Served" "started" "Z"), (Jvm.Cond.lays "MajorityClock$Served" "MajorityClock$Served" "since" "J"), (Jvm.Cond.lays "MajorityClock$Served" "MajorityClock$Served" "startCorrection" "J"), (Jvm.Cond.lays "MajorityClock$Served" "MajorityClock$Served" "target" "J"), (Jvm.Cond.lays "MajorityClock$Served" "MajorityClock$Served" "error" "J"), (Jvm.Cond.lays "MajorityClock$Served" "MajorityClock$Served" "hullLow" "J"), (Jvm.Cond.lays "MajorityClock$Served" "MajorityClock$Served" "hullHigh" "J"), (Jvm.Cond.lays "MajorityClock$Served" "MajorityClock$Served" "survivorBits" "I"), (Jvm.Cond.lays "MajorityClock$Served" "MajorityClock$Served" "ownStratum" "I")]
def BIG_3 : List Cond := [(Jvm.Cond.fieldLink "MajorityClock" (33 : Nat) "MajorityClock" "servers" "[LMajorityClock$Server;"), (Jvm.Cond.fieldLink "MajorityClock" (40 : Nat) "MajorityClock" "leases" "[LMajorityClock$Lease;"), (Jvm.Cond.fieldLink "MajorityClock" (48 : Nat) "MajorityClock" "election" "LMajorityClock$Election;"), (Jvm.Cond.fieldLink "MajorityClock" (55 : Nat) "MajorityClock" "served" "LMajorityClock$Served;"), (Jvm.Cond.fieldLink "MajorityClock" (24 : Nat) "MajorityClock" "drift" "I"), (Jvm.Cond.fieldLink "MajorityClock" (28 : Nat) "MajorityClock" "self" "I"), (Jvm.Cond.fieldLink "MajorityClock" (60 : Nat) "MajorityClock" "now" "J"), (Jvm.Cond.fieldLink "MajorityClock" (9 : Nat) "MajorityClock" "latestStamp" "J"), (Jvm.Cond.laysFinal "MajorityClock" "MajorityClock" "servers" "[LMajorityClock$Server;"), (Jvm.Cond.laysFinal "MajorityClock" "MajorityClock" "leases" "[LMajorityClock$Lease;"), (Jvm.Cond.laysFinal "MajorityClock" "MajorityClock" "election" "LMajorityClock$Election;"), (Jvm.Cond.laysFinal "MajorityClock" "MajorityClock" "served" "LMajorityClock$Served;"), (Jvm.Cond.laysFinal "MajorityClock" "MajorityClock" "drift" "I"), (Jvm.Cond.laysFinal "MajorityClock" "MajorityClock" "self" "I"), (Jvm.Cond.lays "MajorityClock" "MajorityClock" "now" "J"), (Jvm.Cond.lays "MajorityClock" "MajorityClock" "latestStamp" "J"), (Jvm.Cond.methodLink "MajorityClockLaw" (21 : Nat) ({ cls := "MajorityClock", name := "advance", desc := "(I)Z" } : Jvm.MethodName)), (Jvm.Cond.instanceMethod ({ cls := "MajorityClock", name := "advance", desc := "(I)Z" } : Jvm.MethodName)), (Jvm.Cond.selects "MajorityClock" ({ cls := "MajorityClock", name := "advance", desc := "(I)Z" } : Jvm.MethodName) ({ cls := "MajorityClock", name := "advance", desc := "(I)Z" } : Jvm.MethodName)), (Jvm.Cond.code ({ cls := "MajorityClock", name := "advance", desc := "(I)Z" } : Jvm.MethodName) prog_1_method_2_code (2 : Nat) (Option.some Jvm.ClassFile.FieldType.boolean)), (Jvm.Cond.constant "MajorityClock" (59 : Nat) (1000000 : Int32)), (Jvm.Cond.methodLink "MajorityClockLaw" (26 : Nat) ({ cls := "MajorityClock", name := "hardware", desc := "()J" } : Jvm.MethodName)), (Jvm.Cond.instanceMethod ({ cls := "MajorityClock", name := "hardware", desc := "()J" } : Jvm.MethodName)), (Jvm.Cond.selects "MajorityClock" ({ cls := "MajorityClock", name := "hardware", desc := "()J" } : Jvm.MethodName) ({ cls := "MajorityClock", name := "hardware", desc := "()J" } : Jvm.MethodName)), (Jvm.Cond.code ({ cls := "MajorityClock", name := "hardware", desc := "()J" } : Jvm.MethodName) prog_1_method_3_code (1 : Nat) (Option.some Jvm.ClassFile.FieldType.long)), (Jvm.Cond.methodLink "MajorityClockLaw" (33 : Nat) ({ cls := "MajorityClock", name := "key", desc := "(IJ)Z" } : Jvm.MethodName)), (Jvm.Cond.instanceMethod ({ cls := "MajorityClock", name := "key", desc := "(IJ)Z" } : Jvm.MethodName)), (Jvm.Cond.selects "MajorityClock" ({ cls := "MajorityClock", name := "key", desc := "(IJ)Z" } : Jvm.MethodName) ({ cls := "MajorityClock", name := "key", desc := "(IJ)Z" } : Jvm.MethodName)), (Jvm.Cond.code ({ cls := "MajorityClock", name := "key", desc := "(IJ)Z" } : Jvm.MethodName) prog_1_method_4_code (5 : Nat) (Option.some Jvm.ClassFile.FieldType.boolean)), (Jvm.Cond.methodLink "MajorityClock" (63 : Nat) ({ cls := "MajorityClock", name := "serverOrNull", desc := "(I)LMajorityClock$Server;" } : Jvm.MethodName)), (Jvm.Cond.instanceMethod ({ cls := "MajorityClock", name := "serverOrNull", desc := "(I)LMajorityClock$Server;" } : Jvm.MethodName)), (Jvm.Cond.code ({ cls := "MajorityClock", name := "serverOrNull", desc := "(I)LMajorityClock$Server;" } : Jvm.MethodName) prog_1_method_21_code (2 : Nat) (Option.some (Jvm.ClassFile.FieldType.object "MajorityClock$Server"))), (Jvm.Cond.methodLink "MajorityClockLaw" (38 : Nat) ({ cls := "MajorityClock", name := "seal", desc := "(IJJJ)I" } : Jvm.MethodName)), (Jvm.Cond.instanceMethod ({ cls := "MajorityClock", name := "seal", desc := "(IJJJ)I" } : Jvm.MethodName)), (Jvm.Cond.selects "MajorityClock" ({ cls := "MajorityClock", name := "seal", desc := "(IJJJ)I" } : Jvm.MethodName) ({ cls := "MajorityClock", name := "seal", desc := "(IJJJ)I" } : Jvm.MethodName)), (Jvm.Cond.code ({ cls := "MajorityClock", name := "seal", desc := "(IJJJ)I" } : Jvm.MethodName) prog_1_method_5_code (9 : Nat) (Option.some Jvm.ClassFile.FieldType.int)), (Jvm.Cond.methodLink "MajorityClock" (70 : Nat) ({ cls := "MajorityClock", name := "sealUnder", desc := "(JJJJ)I" } : Jvm.MethodName)), (Jvm.Cond.static ({ cls := "MajorityClock", name := "sealUnder", desc := "(JJJJ)I" } : Jvm.MethodName)), (Jvm.Cond.code ({ cls := "MajorityClock", name := "sealUnder", desc := "(JJJJ)I" } : Jvm.MethodName) prog_1_method_29_code (10 : Nat) (Option.some Jvm.ClassFile.FieldType.int)), (Jvm.Cond.methodLink "MajorityClock" (235 : Nat) ({ cls := "MajorityClock", name := "mixed", desc := "(JJ)J" } : Jvm.MethodName)), (Jvm.Cond.static ({ cls := "MajorityClock", name := "mixed", desc := "(JJ)J" } : Jvm.MethodName)), (Jvm.Cond.code ({ cls := "MajorityClock", name := "mixed", desc := "(JJ)J" } : Jvm.MethodName) prog_1_method_30_code (6 : Nat) (Option.some Jvm.ClassFile.FieldType.long)), (Jvm.Cond.constantLong "MajorityClock" (238 : Nat) (-7046029254386353131 : Int64)), (Jvm.Cond.methodLink "MajorityClockLaw" (43 : Nat) ({ cls := "MajorityClock", name := "ask", desc := "(I)J" } : Jvm.MethodName)), (Jvm.Cond.instanceMethod ({ cls := "MajorityClock", name := "ask", desc := "(I)J" } : Jvm.MethodName)), (Jvm.Cond.selects "MajorityClock" ({ cls := "MajorityClock", name := "ask", desc := "(I)J" } : Jvm.MethodName) ({ cls := "MajorityClock", name := "ask", desc := "(I)J" } : Jvm.MethodName)), (Jvm.Cond.code ({ cls := "MajorityClock", name := "ask", desc := "(I)J" } : Jvm.MethodName) prog_1_method_6_code (3 : Nat) (Option.some Jvm.ClassFile.FieldType.long)), (Jvm.Cond.constantLong "MajorityClock" (74 : Nat) (-4611686018427387904 : Int64)), (Jvm.Cond.methodLink "MajorityClock" (76 : Nat) ({ cls := "java/lang/Math", name := "max", desc := "(JJ)J" } : Jvm.MethodName)), (Jvm.Cond.static ({ cls := "java/lang/Math", name := "max", desc := "(JJ)J" } : Jvm.MethodName))]
def BIG_4 : List Cond := [(Jvm.Cond.code ({ cls := "java/lang/Math", name := "max", desc := "(JJ)J" } : Jvm.MethodName) prog_8_method_66_code (4 : Nat) (Option.some Jvm.ClassFile.FieldType.long)), (Jvm.Cond.methodLink "MajorityClock" (79 : Nat) ({ cls := "MajorityClock$Server", name := "expectReply", desc := "(JJ)V" } : Jvm.MethodName)), (Jvm.Cond.instanceMethod ({ cls := "MajorityClock$Server", name := "expectReply", desc := "(JJ)V" } : Jvm.MethodName)), (Jvm.Cond.selects "MajorityClock$Server" ({ cls := "MajorityClock$Server", name := "expectReply", desc := "(JJ)V" } : Jvm.MethodName) ({ cls := "MajorityClock$Server", name := "expectReply", desc := "(JJ)V" } : Jvm.MethodName)), (Jvm.Cond.code ({ cls := "MajorityClock$Server", name := "expectReply", desc := "(JJ)V" } : Jvm.MethodName) prog_5_method_2_code (5 : Nat) (Option.none : Option Jvm.ClassFile.FieldType)), (Jvm.Cond.methodLink "MajorityClockLaw" (48 : Nat) ({ cls := "MajorityClock", name := "reply", desc := "(IJJJI)I" } : Jvm.MethodName)), (Jvm.Cond.instanceMethod ({ cls := "MajorityClock", name := "reply", desc := "(IJJJI)I" } : Jvm.MethodName)), (Jvm.Cond.selects "MajorityClock" ({ cls := "MajorityClock", name := "reply", desc := "(IJJJI)I" } : Jvm.MethodName) ({ cls := "MajorityClock", name := "reply", desc := "(IJJJI)I" } : Jvm.MethodName)), (Jvm.Cond.code ({ cls := "MajorityClock", name := "reply", desc := "(IJJJI)I" } : Jvm.MethodName) prog_1_method_7_code (10 : Nat) (Option.some Jvm.ClassFile.FieldType.int)), (Jvm.Cond.methodLink "MajorityClock" (83 : Nat) ({ cls := "MajorityClock", name := "isReplyTime", desc := "(J)Z" } : Jvm.MethodName)), (Jvm.Cond.static ({ cls := "MajorityClock", name := "isReplyTime", desc := "(J)Z" } : Jvm.MethodName)), (Jvm.Cond.code ({ cls := "MajorityClock", name := "isReplyTime", desc := "(J)Z" } : Jvm.MethodName) prog_1_method_28_code (2 : Nat) (Option.some Jvm.ClassFile.FieldType.boolean)), (Jvm.Cond.constantLong "MajorityClock" (199 : Nat) (1099511627776 : Int64)), (Jvm.Cond.methodLink "MajorityClock" (87 : Nat) ({ cls := "MajorityClock$Server", name := "acceptedLast", desc := "(J)Z" } : Jvm.MethodName)), (Jvm.Cond.instanceMethod ({ cls := "MajorityClock$Server", name := "acceptedLast", desc := "(J)Z" } : Jvm.MethodName)), (Jvm.Cond.selects "MajorityClock$Server" ({ cls := "MajorityClock$Server", name := "acceptedLast", desc := "(J)Z" } : Jvm.MethodName) ({ cls := "MajorityClock$Server", name := "acceptedLast", desc := "(J)Z" } : Jvm.MethodName)), (Jvm.Cond.code ({ cls := "MajorityClock$Server", name := "acceptedLast", desc := "(J)Z" } : Jvm.MethodName) prog_5_method_3_code (3 : Nat) (Option.some Jvm.ClassFile.FieldType.boolean)), (Jvm.Cond.methodLink "MajorityClock" (90 : Nat) ({ cls := "MajorityClock$Server", name := "expects", desc := "(J)Z" } : Jvm.MethodName)), (Jvm.Cond.instanceMethod ({ cls := "MajorityClock$Server", name := "expects", desc := "(J)Z" } : Jvm.MethodName)), (Jvm.Cond.selects "MajorityClock$Server" ({ cls := "MajorityClock$Server", name := "expects", desc := "(J)Z" } : Jvm.MethodName) ({ cls := "MajorityClock$Server", name := "expects", desc := "(J)Z" } : Jvm.MethodName)), (Jvm.Cond.code ({ cls := "MajorityClock$Server", name := "expects", desc := "(J)Z" } : Jvm.MethodName) prog_5_method_4_code (3 : Nat) (Option.some Jvm.ClassFile.FieldType.boolean)), (Jvm.Cond.methodLink "MajorityClock" (96 : Nat) ({ cls := "MajorityClock$Server", name := "accept", desc := "(JJJJ)V" } : Jvm.MethodName)), (Jvm.Cond.instanceMethod ({ cls := "MajorityClock$Server", name := "accept", desc := "(JJJJ)V" } : Jvm.MethodName)), (Jvm.Cond.selects "MajorityClock$Server" ({ cls := "MajorityClock$Server", name := "accept", desc := "(JJJJ)V" } : Jvm.MethodName) ({ cls := "MajorityClock$Server", name := "accept", desc := "(JJJJ)V" } : Jvm.MethodName)), (Jvm.Cond.code ({ cls := "MajorityClock$Server", name := "accept", desc := "(JJJJ)V" } : Jvm.MethodName) prog_5_method_5_code (9 : Nat) (Option.none : Option Jvm.ClassFile.FieldType)), (Jvm.Cond.methodLink "MajorityClock$Server" (42 : Nat) ({ cls := "MajorityClock$Server", name := "makeRoomForSample", desc := "()V" } : Jvm.MethodName)), (Jvm.Cond.instanceMethod ({ cls := "MajorityClock$Server", name := "makeRoomForSample", desc := "()V" } : Jvm.MethodName)), (Jvm.Cond.code ({ cls := "MajorityClock$Server", name := "makeRoomForSample", desc := "()V" } : Jvm.MethodName) prog_5_method_6_code (2 : Nat) (Option.none : Option Jvm.ClassFile.FieldType)), (Jvm.Cond.methodLink "MajorityClock$Server" (45 : Nat) ({ cls := "java/lang/Math", name := "min", desc := "(II)I" } : Jvm.MethodName)), (Jvm.Cond.methodLink "MajorityClockLaw" (53 : Nat) ({ cls := "MajorityClock", name := "tell", desc := "(IIII)Z" } : Jvm.MethodName)), (Jvm.Cond.instanceMethod ({ cls := "MajorityClock", name := "tell", desc := "(IIII)Z" } : Jvm.MethodName)), (Jvm.Cond.selects "MajorityClock" ({ cls := "MajorityClock", name := "tell", desc := "(IIII)Z" } : Jvm.MethodName) ({ cls := "MajorityClock", name := "tell", desc := "(IIII)Z" } : Jvm.MethodName)), (Jvm.Cond.code ({ cls := "MajorityClock", name := "tell", desc := "(IIII)Z" } : Jvm.MethodName) prog_1_method_8_code (6 : Nat) (Option.some Jvm.ClassFile.FieldType.boolean)), (Jvm.Cond.methodLink "MajorityClockLaw" (58 : Nat) ({ cls := "MajorityClock", name := "low", desc := "(I)J" } : Jvm.MethodName)), (Jvm.Cond.instanceMethod ({ cls := "MajorityClock", name := "low", desc := "(I)J" } : Jvm.MethodName)), (Jvm.Cond.selects "MajorityClock" ({ cls := "MajorityClock", name := "low", desc := "(I)J" } : Jvm.MethodName) ({ cls := "MajorityClock", name := "low", desc := "(I)J" } : Jvm.MethodName)), (Jvm.Cond.code ({ cls := "MajorityClock", name := "low", desc := "(I)J" } : Jvm.MethodName) prog_1_method_9_code (3 : Nat) (Option.some Jvm.ClassFile.FieldType.long)), (Jvm.Cond.methodLink "MajorityClock" (112 : Nat) ({ cls := "MajorityClock$Server", name := "shortestSample", desc := "(JI)I" } : Jvm.MethodName)), (Jvm.Cond.instanceMethod ({ cls := "MajorityClock$Server", name := "shortestSample", desc := "(JI)I" } : Jvm.MethodName)), (Jvm.Cond.selects "MajorityClock$Server" ({ cls := "MajorityClock$Server", name := "shortestSample", desc := "(JI)I" } : Jvm.MethodName) ({ cls := "MajorityClock$Server", name := "shortestSample", desc := "(JI)I" } : Jvm.MethodName)), (Jvm.Cond.code ({ cls := "MajorityClock$Server", name := "shortestSample", desc := "(JI)I" } : Jvm.MethodName) prog_5_method_8_code (6 : Nat) (Option.some Jvm.ClassFile.FieldType.int)), (Jvm.Cond.methodLink "MajorityClock$Server" (51 : Nat) ({ cls := "MajorityClock$Server", name := "lengthOf", desc := "(IJI)J" } : Jvm.MethodName)), (Jvm.Cond.instanceMethod ({ cls := "MajorityClock$Server", name := "lengthOf", desc := "(IJI)J" } : Jvm.MethodName)), (Jvm.Cond.code ({ cls := "MajorityClock$Server", name := "lengthOf", desc := "(IJI)J" } : Jvm.MethodName) prog_5_method_9_code (5 : Nat) (Option.some Jvm.ClassFile.FieldType.long)), (Jvm.Cond.methodLink "MajorityClock$Server" (55 : Nat) ({ cls := "MajorityClock$Server", name := "upperEnd", desc := "(IJI)J" } : Jvm.MethodName)), (Jvm.Cond.instanceMethod ({ cls := "MajorityClock$Server", name := "upperEnd", desc := "(IJI)J" } : Jvm.MethodName)), (Jvm.Cond.selects "MajorityClock$Server" ({ cls := "MajorityClock$Server", name := "upperEnd", desc := "(IJI)J" } : Jvm.MethodName) ({ cls := "MajorityClock$Server", name := "upperEnd", desc := "(IJI)J" } : Jvm.MethodName)), (Jvm.Cond.code ({ cls := "MajorityClock$Server", name := "upperEnd", desc := "(IJI)J" } : Jvm.MethodName) prog_5_method_11_code (5 : Nat) (Option.some Jvm.ClassFile.FieldType.long)), (Jvm.Cond.static ({ cls := "MajorityClock", name := "growth", desc := "(JI)J" } : Jvm.MethodName)), (Jvm.Cond.code ({ cls := "MajorityClock", name := "growth", desc := "(JI)J" } : Jvm.MethodName) prog_1_method_31_code (3 : Nat) (Option.some Jvm.ClassFile.FieldType.long))]
def BIG_5 : List Cond := [(Jvm.Cond.constantLong "MajorityClock" (211 : Nat) (1000000 : Int64)), (Jvm.Cond.methodLink "MajorityClock" (240 : Nat) ({ cls := "java/lang/Math", name := "floorDiv", desc := "(JJ)J" } : Jvm.MethodName)), (Jvm.Cond.static ({ cls := "java/lang/Math", name := "floorDiv", desc := "(JJ)J" } : Jvm.MethodName)), (Jvm.Cond.code ({ cls := "java/lang/Math", name := "floorDiv", desc := "(JJ)J" } : Jvm.MethodName) prog_8_method_49_code (6 : Nat) (Option.some Jvm.ClassFile.FieldType.long)), (Jvm.Cond.methodLink "MajorityClock$Server" (58 : Nat) ({ cls := "MajorityClock$Server", name := "lowerEnd", desc := "(IJI)J" } : Jvm.MethodName)), (Jvm.Cond.instanceMethod ({ cls := "MajorityClock$Server", name := "lowerEnd", desc := "(IJI)J" } : Jvm.MethodName)), (Jvm.Cond.selects "MajorityClock$Server" ({ cls := "MajorityClock$Server", name := "lowerEnd", desc := "(IJI)J" } : Jvm.MethodName) ({ cls := "MajorityClock$Server", name := "lowerEnd", desc := "(IJI)J" } : Jvm.MethodName)), (Jvm.Cond.code ({ cls := "MajorityClock$Server", name := "lowerEnd", desc := "(IJI)J" } : Jvm.MethodName) prog_5_method_10_code (5 : Nat) (Option.some Jvm.ClassFile.FieldType.long)), (Jvm.Cond.methodLink "MajorityClock" (116 : Nat) ({ cls := "MajorityClock$Server", name := "lowerEnd", desc := "(IJI)J" } : Jvm.MethodName)), (Jvm.Cond.methodLink "MajorityClockLaw" (62 : Nat) ({ cls := "MajorityClock", name := "high", desc := "(I)J" } : Jvm.MethodName)), (Jvm.Cond.instanceMethod ({ cls := "MajorityClock", name := "high", desc := "(I)J" } : Jvm.MethodName)), (Jvm.Cond.selects "MajorityClock" ({ cls := "MajorityClock", name := "high", desc := "(I)J" } : Jvm.MethodName) ({ cls := "MajorityClock", name := "high", desc := "(I)J" } : Jvm.MethodName)), (Jvm.Cond.code ({ cls := "MajorityClock", name := "high", desc := "(I)J" } : Jvm.MethodName) prog_1_method_10_code (3 : Nat) (Option.some Jvm.ClassFile.FieldType.long)), (Jvm.Cond.methodLink "MajorityClock" (120 : Nat) ({ cls := "MajorityClock$Server", name := "upperEnd", desc := "(IJI)J" } : Jvm.MethodName)), (Jvm.Cond.methodLink "MajorityClockLaw" (66 : Nat) ({ cls := "MajorityClock", name := "update", desc := "()I" } : Jvm.MethodName)), (Jvm.Cond.instanceMethod ({ cls := "MajorityClock", name := "update", desc := "()I" } : Jvm.MethodName)), (Jvm.Cond.selects "MajorityClock" ({ cls := "MajorityClock", name := "update", desc := "()I" } : Jvm.MethodName) ({ cls := "MajorityClock", name := "update", desc := "()I" } : Jvm.MethodName)), (Jvm.Cond.code ({ cls := "MajorityClock", name := "update", desc := "()I" } : Jvm.MethodName) prog_1_method_11_code (1 : Nat) (Option.some Jvm.ClassFile.FieldType.int)), (Jvm.Cond.methodLink "MajorityClock" (123 : Nat) ({ cls := "MajorityClock", name := "callElection", desc := "()V" } : Jvm.MethodName)), (Jvm.Cond.instanceMethod ({ cls := "MajorityClock", name := "callElection", desc := "()V" } : Jvm.MethodName)), (Jvm.Cond.code ({ cls := "MajorityClock", name := "callElection", desc := "()V" } : Jvm.MethodName) prog_1_method_24_code (4 : Nat) (Option.none : Option Jvm.ClassFile.FieldType)), (Jvm.Cond.methodLink "MajorityClock" (213 : Nat) ({ cls := "MajorityClock$Election", name := "clear", desc := "()V" } : Jvm.MethodName)), (Jvm.Cond.instanceMethod ({ cls := "MajorityClock$Election", name := "clear", desc := "()V" } : Jvm.MethodName)), (Jvm.Cond.selects "MajorityClock$Election" ({ cls := "MajorityClock$Election", name := "clear", desc := "()V" } : Jvm.MethodName) ({ cls := "MajorityClock$Election", name := "clear", desc := "()V" } : Jvm.MethodName)), (Jvm.Cond.code ({ cls := "MajorityClock$Election", name := "clear", desc := "()V" } : Jvm.MethodName) prog_2_method_2_code (1 : Nat) (Option.none : Option Jvm.ClassFile.FieldType)), (Jvm.Cond.methodLink "MajorityClock" (216 : Nat) ({ cls := "MajorityClock", name := "isUsable", desc := "(LMajorityClock$Server;)Z" } : Jvm.MethodName)), (Jvm.Cond.instanceMethod ({ cls := "MajorityClock", name := "isUsable", desc := "(LMajorityClock$Server;)Z" } : Jvm.MethodName)), (Jvm.Cond.code ({ cls := "MajorityClock", name := "isUsable", desc := "(LMajorityClock$Server;)Z" } : Jvm.MethodName) prog_1_method_23_code (2 : Nat) (Option.some Jvm.ClassFile.FieldType.boolean)), (Jvm.Cond.methodLink "MajorityClock" (208 : Nat) ({ cls := "MajorityClock$Server", name := "latestSampleTime", desc := "()J" } : Jvm.MethodName)), (Jvm.Cond.instanceMethod ({ cls := "MajorityClock$Server", name := "latestSampleTime", desc := "()J" } : Jvm.MethodName)), (Jvm.Cond.selects "MajorityClock$Server" ({ cls := "MajorityClock$Server", name := "latestSampleTime", desc := "()J" } : Jvm.MethodName) ({ cls := "MajorityClock$Server", name := "latestSampleTime", desc := "()J" } : Jvm.MethodName)), (Jvm.Cond.code ({ cls := "MajorityClock$Server", name := "latestSampleTime", desc := "()J" } : Jvm.MethodName) prog_5_method_7_code (1 : Nat) (Option.some Jvm.ClassFile.FieldType.long)), (Jvm.Cond.methodLink "MajorityClock" (220 : Nat) ({ cls := "MajorityClock$Election", name := "enter", desc := "(IJJ)V" } : Jvm.MethodName)), (Jvm.Cond.instanceMethod ({ cls := "MajorityClock$Election", name := "enter", desc := "(IJJ)V" } : Jvm.MethodName)), (Jvm.Cond.selects "MajorityClock$Election" ({ cls := "MajorityClock$Election", name := "enter", desc := "(IJJ)V" } : Jvm.MethodName) ({ cls := "MajorityClock$Election", name := "enter", desc := "(IJJ)V" } : Jvm.MethodName)), (Jvm.Cond.code ({ cls := "MajorityClock$Election", name := "enter", desc := "(IJJ)V" } : Jvm.MethodName) prog_2_method_3_code (6 : Nat) (Option.none : Option Jvm.ClassFile.FieldType)), (Jvm.Cond.methodLink "MajorityClock$Election" (26 : Nat) ({ cls := "MajorityClock$Election", name := "put", desc := "(IIJJ)V" } : Jvm.MethodName)), (Jvm.Cond.instanceMethod ({ cls := "MajorityClock$Election", name := "put", desc := "(IIJJ)V" } : Jvm.MethodName)), (Jvm.Cond.code ({ cls := "MajorityClock$Election", name := "put", desc := "(IIJJ)V" } : Jvm.MethodName) prog_2_method_4_code (7 : Nat) (Option.none : Option Jvm.ClassFile.FieldType)), (Jvm.Cond.methodLink "MajorityClock" (129 : Nat) ({ cls := "MajorityClock$Election", name := "findHull", desc := "()Z" } : Jvm.MethodName)), (Jvm.Cond.instanceMethod ({ cls := "MajorityClock$Election", name := "findHull", desc := "()Z" } : Jvm.MethodName)), (Jvm.Cond.selects "MajorityClock$Election" ({ cls := "MajorityClock$Election", name := "findHull", desc := "()Z" } : Jvm.MethodName) ({ cls := "MajorityClock$Election", name := "findHull", desc := "()Z" } : Jvm.MethodName)), (Jvm.Cond.code ({ cls := "MajorityClock$Election", name := "findHull", desc := "()Z" } : Jvm.MethodName) prog_2_method_5_code (2 : Nat) (Option.some Jvm.ClassFile.FieldType.boolean)), (Jvm.Cond.methodLink "MajorityClock$Election" (30 : Nat) ({ cls := "MajorityClock$Election", name := "findHullOf", desc := "(I)Z" } : Jvm.MethodName)), (Jvm.Cond.instanceMethod ({ cls := "MajorityClock$Election", name := "findHullOf", desc := "(I)Z" } : Jvm.MethodName)), (Jvm.Cond.code ({ cls := "MajorityClock$Election", name := "findHullOf", desc := "(I)Z" } : Jvm.MethodName) prog_2_method_6_code (7 : Nat) (Option.some Jvm.ClassFile.FieldType.boolean)), (Jvm.Cond.constantLong "MajorityClock$Election" (36 : Nat) (9223372036854775807 : Int64)), (Jvm.Cond.constantLong "MajorityClock$Election" (38 : Nat) (-9223372036854775808 : Int64)), (Jvm.Cond.methodLink "MajorityClock$Election" (40 : Nat) ({ cls := "MajorityClock$Election", name := "intervalsAround", desc := "(J)I" } : Jvm.MethodName)), (Jvm.Cond.instanceMethod ({ cls := "MajorityClock$Election", name := "intervalsAround", desc := "(J)I" } : Jvm.MethodName))]
def BIG_6 : List Cond := [(Jvm.Cond.code ({ cls := "MajorityClock$Election", name := "intervalsAround", desc := "(J)I" } : Jvm.MethodName) prog_2_method_7_code (5 : Nat) (Option.some Jvm.ClassFile.FieldType.int)), (Jvm.Cond.methodLink "MajorityClock$Election" (44 : Nat) ({ cls := "java/lang/Math", name := "min", desc := "(JJ)J" } : Jvm.MethodName)), (Jvm.Cond.static ({ cls := "java/lang/Math", name := "min", desc := "(JJ)J" } : Jvm.MethodName)), (Jvm.Cond.code ({ cls := "java/lang/Math", name := "min", desc := "(JJ)J" } : Jvm.MethodName) prog_8_method_70_code (4 : Nat) (Option.some Jvm.ClassFile.FieldType.long)), (Jvm.Cond.methodLink "MajorityClock$Election" (50 : Nat) ({ cls := "java/lang/Math", name := "max", desc := "(JJ)J" } : Jvm.MethodName)), (Jvm.Cond.methodLink "MajorityClock" (133 : Nat) ({ cls := "MajorityClock$Election", name := "keepThoseAtHull", desc := "()V" } : Jvm.MethodName)), (Jvm.Cond.instanceMethod ({ cls := "MajorityClock$Election", name := "keepThoseAtHull", desc := "()V" } : Jvm.MethodName)), (Jvm.Cond.selects "MajorityClock$Election" ({ cls := "MajorityClock$Election", name := "keepThoseAtHull", desc := "()V" } : Jvm.MethodName) ({ cls := "MajorityClock$Election", name := "keepThoseAtHull", desc := "()V" } : Jvm.MethodName)), (Jvm.Cond.code ({ cls := "MajorityClock$Election", name := "keepThoseAtHull", desc := "()V" } : Jvm.MethodName) prog_2_method_8_code (3 : Nat) (Option.none : Option Jvm.ClassFile.FieldType)), (Jvm.Cond.methodLink "MajorityClock" (136 : Nat) ({ cls := "MajorityClock$Election", name := "keepTheClosest", desc := "()V" } : Jvm.MethodName)), (Jvm.Cond.instanceMethod ({ cls := "MajorityClock$Election", name := "keepTheClosest", desc := "()V" } : Jvm.MethodName)), (Jvm.Cond.selects "MajorityClock$Election" ({ cls := "MajorityClock$Election", name := "keepTheClosest", desc := "()V" } : Jvm.MethodName) ({ cls := "MajorityClock$Election", name := "keepTheClosest", desc := "()V" } : Jvm.MethodName)), (Jvm.Cond.code ({ cls := "MajorityClock$Election", name := "keepTheClosest", desc := "()V" } : Jvm.MethodName) prog_2_method_9_code (2 : Nat) (Option.none : Option Jvm.ClassFile.FieldType)), (Jvm.Cond.methodLink "MajorityClock$Election" (60 : Nat) ({ cls := "MajorityClock$Election", name := "farthest", desc := "()I" } : Jvm.MethodName)), (Jvm.Cond.instanceMethod ({ cls := "MajorityClock$Election", name := "farthest", desc := "()I" } : Jvm.MethodName)), (Jvm.Cond.code ({ cls := "MajorityClock$Election", name := "farthest", desc := "()I" } : Jvm.MethodName) prog_2_method_10_code (3 : Nat) (Option.some Jvm.ClassFile.FieldType.int)), (Jvm.Cond.methodLink "MajorityClock$Election" (68 : Nat) ({ cls := "MajorityClock$Election", name := "distances", desc := "(I)J" } : Jvm.MethodName)), (Jvm.Cond.instanceMethod ({ cls := "MajorityClock$Election", name := "distances", desc := "(I)J" } : Jvm.MethodName)), (Jvm.Cond.code ({ cls := "MajorityClock$Election", name := "distances", desc := "(I)J" } : Jvm.MethodName) prog_2_method_11_code (5 : Nat) (Option.some Jvm.ClassFile.FieldType.long)), (Jvm.Cond.methodLink "MajorityClock$Election" (72 : Nat) ({ cls := "MajorityClock$Election", name := "middle", desc := "(I)J" } : Jvm.MethodName)), (Jvm.Cond.instanceMethod ({ cls := "MajorityClock$Election", name := "middle", desc := "(I)J" } : Jvm.MethodName)), (Jvm.Cond.code ({ cls := "MajorityClock$Election", name := "middle", desc := "(I)J" } : Jvm.MethodName) prog_2_method_12_code (2 : Nat) (Option.some Jvm.ClassFile.FieldType.long)), (Jvm.Cond.constantLong "MajorityClock$Election" (79 : Nat) (2 : Int64)), (Jvm.Cond.methodLink "MajorityClock$Election" (81 : Nat) ({ cls := "java/lang/Math", name := "floorDiv", desc := "(JJ)J" } : Jvm.MethodName)), (Jvm.Cond.methodLink "MajorityClock$Election" (75 : Nat) ({ cls := "java/lang/Math", name := "abs", desc := "(J)J" } : Jvm.MethodName)), (Jvm.Cond.static ({ cls := "java/lang/Math", name := "abs", desc := "(J)J" } : Jvm.MethodName)), (Jvm.Cond.code ({ cls := "java/lang/Math", name := "abs", desc := "(J)J" } : Jvm.MethodName) prog_8_method_61_code (2 : Nat) (Option.some Jvm.ClassFile.FieldType.long)), (Jvm.Cond.methodLink "MajorityClock$Election" (64 : Nat) ({ cls := "MajorityClock$Election", name := "remove", desc := "(I)V" } : Jvm.MethodName)), (Jvm.Cond.instanceMethod ({ cls := "MajorityClock$Election", name := "remove", desc := "(I)V" } : Jvm.MethodName)), (Jvm.Cond.code ({ cls := "MajorityClock$Election", name := "remove", desc := "(I)V" } : Jvm.MethodName) prog_2_method_13_code (3 : Nat) (Option.none : Option Jvm.ClassFile.FieldType)), (Jvm.Cond.methodLink "MajorityClock" (139 : Nat) ({ cls := "MajorityClock$Election", name := "target", desc := "()J" } : Jvm.MethodName)), (Jvm.Cond.instanceMethod ({ cls := "MajorityClock$Election", name := "target", desc := "()J" } : Jvm.MethodName)), (Jvm.Cond.selects "MajorityClock$Election" ({ cls := "MajorityClock$Election", name := "target", desc := "()J" } : Jvm.MethodName) ({ cls := "MajorityClock$Election", name := "target", desc := "()J" } : Jvm.MethodName)), (Jvm.Cond.code ({ cls := "MajorityClock$Election", name := "target", desc := "()J" } : Jvm.MethodName) prog_2_method_14_code (5 : Nat) (Option.some Jvm.ClassFile.FieldType.long)), (Jvm.Cond.methodLink "MajorityClock" (143 : Nat) ({ cls := "MajorityClock$Served", name := "follow", desc := "(JJ)V" } : Jvm.MethodName)), (Jvm.Cond.instanceMethod ({ cls := "MajorityClock$Served", name := "follow", desc := "(JJ)V" } : Jvm.MethodName)), (Jvm.Cond.selects "MajorityClock$Served" ({ cls := "MajorityClock$Served", name := "follow", desc := "(JJ)V" } : Jvm.MethodName) ({ cls := "MajorityClock$Served", name := "follow", desc := "(JJ)V" } : Jvm.MethodName)), (Jvm.Cond.code ({ cls := "MajorityClock$Served", name := "follow", desc := "(JJ)V" } : Jvm.MethodName) prog_4_method_2_code (5 : Nat) (Option.none : Option Jvm.ClassFile.FieldType)), (Jvm.Cond.methodLink "MajorityClock$Served" (19 : Nat) ({ cls := "MajorityClock$Served", name := "correctionAt", desc := "(J)J" } : Jvm.MethodName)), (Jvm.Cond.instanceMethod ({ cls := "MajorityClock$Served", name := "correctionAt", desc := "(J)J" } : Jvm.MethodName)), (Jvm.Cond.selects "MajorityClock$Served" ({ cls := "MajorityClock$Served", name := "correctionAt", desc := "(J)J" } : Jvm.MethodName) ({ cls := "MajorityClock$Served", name := "correctionAt", desc := "(J)J" } : Jvm.MethodName)), (Jvm.Cond.code ({ cls := "MajorityClock$Served", name := "correctionAt", desc := "(J)J" } : Jvm.MethodName) prog_4_method_4_code (5 : Nat) (Option.some Jvm.ClassFile.FieldType.long)), (Jvm.Cond.constantLong "MajorityClock$Served" (59 : Nat) (16 : Int64)), (Jvm.Cond.methodLink "MajorityClock$Served" (61 : Nat) ({ cls := "java/lang/Math", name := "floorDiv", desc := "(JJ)J" } : Jvm.MethodName)), (Jvm.Cond.methodLink "MajorityClock$Served" (64 : Nat) ({ cls := "java/lang/Math", name := "abs", desc := "(J)J" } : Jvm.MethodName)), (Jvm.Cond.methodLink "MajorityClock" (146 : Nat) ({ cls := "MajorityClock", name := "survivorsLeastStratum", desc := "()I" } : Jvm.MethodName)), (Jvm.Cond.instanceMethod ({ cls := "MajorityClock", name := "survivorsLeastStratum", desc := "()I" } : Jvm.MethodName)), (Jvm.Cond.code ({ cls := "MajorityClock", name := "survivorsLeastStratum", desc := "()I" } : Jvm.MethodName) prog_1_method_25_code (4 : Nat) (Option.some Jvm.ClassFile.FieldType.int)), (Jvm.Cond.methodLink "MajorityClock" (150 : Nat) ({ cls := "MajorityClock$Served", name := "remember", desc := "(LMajorityClock$Election;I)V" } : Jvm.MethodName)), (Jvm.Cond.instanceMethod ({ cls := "MajorityClock$Served", name := "remember", desc := "(LMajorityClock$Election;I)V" } : Jvm.MethodName))]
def BIG_7 : List Cond := [(Jvm.Cond.selects "MajorityClock$Served" ({ cls := "MajorityClock$Served", name := "remember", desc := "(LMajorityClock$Election;I)V" } : Jvm.MethodName) ({ cls := "MajorityClock$Served", name := "remember", desc := "(LMajorityClock$Election;I)V" } : Jvm.MethodName)), (Jvm.Cond.code ({ cls := "MajorityClock$Served", name := "remember", desc := "(LMajorityClock$Election;I)V" } : Jvm.MethodName) prog_4_method_3_code (3 : Nat) (Option.none : Option Jvm.ClassFile.FieldType)), (Jvm.Cond.methodLink "MajorityClock$Served" (43 : Nat) ({ cls := "java/lang/Math", name := "max", desc := "(JJ)J" } : Jvm.MethodName)), (Jvm.Cond.methodLink "MajorityClock$Served" (52 : Nat) ({ cls := "MajorityClock$Election", name := "bits", desc := "()I" } : Jvm.MethodName)), (Jvm.Cond.instanceMethod ({ cls := "MajorityClock$Election", name := "bits", desc := "()I" } : Jvm.MethodName)), (Jvm.Cond.selects "MajorityClock$Election" ({ cls := "MajorityClock$Election", name := "bits", desc := "()I" } : Jvm.MethodName) ({ cls := "MajorityClock$Election", name := "bits", desc := "()I" } : Jvm.MethodName)), (Jvm.Cond.code ({ cls := "MajorityClock$Election", name := "bits", desc := "()I" } : Jvm.MethodName) prog_2_method_15_code (3 : Nat) (Option.some Jvm.ClassFile.FieldType.int)), (Jvm.Cond.methodLink "MajorityClockLaw" (71 : Nat) ({ cls := "MajorityClock", name := "survivors", desc := "()I" } : Jvm.MethodName)), (Jvm.Cond.instanceMethod ({ cls := "MajorityClock", name := "survivors", desc := "()I" } : Jvm.MethodName)), (Jvm.Cond.selects "MajorityClock" ({ cls := "MajorityClock", name := "survivors", desc := "()I" } : Jvm.MethodName) ({ cls := "MajorityClock", name := "survivors", desc := "()I" } : Jvm.MethodName)), (Jvm.Cond.code ({ cls := "MajorityClock", name := "survivors", desc := "()I" } : Jvm.MethodName) prog_1_method_12_code (1 : Nat) (Option.some Jvm.ClassFile.FieldType.int)), (Jvm.Cond.methodLink "MajorityClockLaw" (75 : Nat) ({ cls := "MajorityClock", name := "hull", desc := "(Z)J" } : Jvm.MethodName)), (Jvm.Cond.instanceMethod ({ cls := "MajorityClock", name := "hull", desc := "(Z)J" } : Jvm.MethodName)), (Jvm.Cond.selects "MajorityClock" ({ cls := "MajorityClock", name := "hull", desc := "(Z)J" } : Jvm.MethodName) ({ cls := "MajorityClock", name := "hull", desc := "(Z)J" } : Jvm.MethodName)), (Jvm.Cond.code ({ cls := "MajorityClock", name := "hull", desc := "(Z)J" } : Jvm.MethodName) prog_1_method_13_code (2 : Nat) (Option.some Jvm.ClassFile.FieldType.long)), (Jvm.Cond.methodLink "MajorityClockLaw" (80 : Nat) ({ cls := "MajorityClock", name := "stratum", desc := "()I" } : Jvm.MethodName)), (Jvm.Cond.instanceMethod ({ cls := "MajorityClock", name := "stratum", desc := "()I" } : Jvm.MethodName)), (Jvm.Cond.selects "MajorityClock" ({ cls := "MajorityClock", name := "stratum", desc := "()I" } : Jvm.MethodName) ({ cls := "MajorityClock", name := "stratum", desc := "()I" } : Jvm.MethodName)), (Jvm.Cond.code ({ cls := "MajorityClock", name := "stratum", desc := "()I" } : Jvm.MethodName) prog_1_method_14_code (1 : Nat) (Option.some Jvm.ClassFile.FieldType.int)), (Jvm.Cond.methodLink "MajorityClockLaw" (84 : Nat) ({ cls := "MajorityClock", name := "time", desc := "()J" } : Jvm.MethodName)), (Jvm.Cond.instanceMethod ({ cls := "MajorityClock", name := "time", desc := "()J" } : Jvm.MethodName)), (Jvm.Cond.selects "MajorityClock" ({ cls := "MajorityClock", name := "time", desc := "()J" } : Jvm.MethodName) ({ cls := "MajorityClock", name := "time", desc := "()J" } : Jvm.MethodName)), (Jvm.Cond.code ({ cls := "MajorityClock", name := "time", desc := "()J" } : Jvm.MethodName) prog_1_method_15_code (1 : Nat) (Option.some Jvm.ClassFile.FieldType.long)), (Jvm.Cond.methodLink "MajorityClock" (170 : Nat) ({ cls := "MajorityClock$Served", name := "correctionAt", desc := "(J)J" } : Jvm.MethodName)), (Jvm.Cond.methodLink "MajorityClockLaw" (88 : Nat) ({ cls := "MajorityClock", name := "bound", desc := "()J" } : Jvm.MethodName)), (Jvm.Cond.instanceMethod ({ cls := "MajorityClock", name := "bound", desc := "()J" } : Jvm.MethodName)), (Jvm.Cond.selects "MajorityClock" ({ cls := "MajorityClock", name := "bound", desc := "()J" } : Jvm.MethodName) ({ cls := "MajorityClock", name := "bound", desc := "()J" } : Jvm.MethodName)), (Jvm.Cond.code ({ cls := "MajorityClock", name := "bound", desc := "()J" } : Jvm.MethodName) prog_1_method_16_code (1 : Nat) (Option.some Jvm.ClassFile.FieldType.long)), (Jvm.Cond.methodLink "MajorityClock" (174 : Nat) ({ cls := "MajorityClock$Served", name := "wrongAtMost", desc := "(JI)J" } : Jvm.MethodName)), (Jvm.Cond.instanceMethod ({ cls := "MajorityClock$Served", name := "wrongAtMost", desc := "(JI)J" } : Jvm.MethodName)), (Jvm.Cond.selects "MajorityClock$Served" ({ cls := "MajorityClock$Served", name := "wrongAtMost", desc := "(JI)J" } : Jvm.MethodName) ({ cls := "MajorityClock$Served", name := "wrongAtMost", desc := "(JI)J" } : Jvm.MethodName)), (Jvm.Cond.code ({ cls := "MajorityClock$Served", name := "wrongAtMost", desc := "(JI)J" } : Jvm.MethodName) prog_4_method_5_code (4 : Nat) (Option.some Jvm.ClassFile.FieldType.long)), (Jvm.Cond.methodLink "MajorityClockLaw" (92 : Nat) ({ cls := "MajorityClock", name := "grant", desc := "(III)J" } : Jvm.MethodName)), (Jvm.Cond.instanceMethod ({ cls := "MajorityClock", name := "grant", desc := "(III)J" } : Jvm.MethodName)), (Jvm.Cond.selects "MajorityClock" ({ cls := "MajorityClock", name := "grant", desc := "(III)J" } : Jvm.MethodName) ({ cls := "MajorityClock", name := "grant", desc := "(III)J" } : Jvm.MethodName)), (Jvm.Cond.code ({ cls := "MajorityClock", name := "grant", desc := "(III)J" } : Jvm.MethodName) prog_1_method_17_code (7 : Nat) (Option.some Jvm.ClassFile.FieldType.long)), (Jvm.Cond.methodLink "MajorityClock" (178 : Nat) ({ cls := "MajorityClock", name := "leaseOrNull", desc := "(I)LMajorityClock$Lease;" } : Jvm.MethodName)), (Jvm.Cond.instanceMethod ({ cls := "MajorityClock", name := "leaseOrNull", desc := "(I)LMajorityClock$Lease;" } : Jvm.MethodName)), (Jvm.Cond.code ({ cls := "MajorityClock", name := "leaseOrNull", desc := "(I)LMajorityClock$Lease;" } : Jvm.MethodName) prog_1_method_22_code (2 : Nat) (Option.some (Jvm.ClassFile.FieldType.object "MajorityClock$Lease"))), (Jvm.Cond.methodLink "MajorityClock" (182 : Nat) ({ cls := "MajorityClock", name := "time", desc := "()J" } : Jvm.MethodName)), (Jvm.Cond.methodLink "MajorityClock" (188 : Nat) ({ cls := "MajorityClock", name := "mayFollow", desc := "(LMajorityClock$Lease;IJ)Z" } : Jvm.MethodName)), (Jvm.Cond.instanceMethod ({ cls := "MajorityClock", name := "mayFollow", desc := "(LMajorityClock$Lease;IJ)Z" } : Jvm.MethodName)), (Jvm.Cond.code ({ cls := "MajorityClock", name := "mayFollow", desc := "(LMajorityClock$Lease;IJ)Z" } : Jvm.MethodName) prog_1_method_26_code (5 : Nat) (Option.some Jvm.ClassFile.FieldType.boolean)), (Jvm.Cond.methodLink "MajorityClock" (228 : Nat) ({ cls := "MajorityClock", name := "isOver", desc := "(LMajorityClock$Lease;)Z" } : Jvm.MethodName)), (Jvm.Cond.instanceMethod ({ cls := "MajorityClock", name := "isOver", desc := "(LMajorityClock$Lease;)Z" } : Jvm.MethodName)), (Jvm.Cond.code ({ cls := "MajorityClock", name := "isOver", desc := "(LMajorityClock$Lease;)Z" } : Jvm.MethodName) prog_1_method_27_code (2 : Nat) (Option.some Jvm.ClassFile.FieldType.boolean)), (Jvm.Cond.methodLink "MajorityClock" (232 : Nat) ({ cls := "MajorityClock", name := "bound", desc := "()J" } : Jvm.MethodName)), (Jvm.Cond.methodLink "MajorityClock" (192 : Nat) ({ cls := "MajorityClock$Lease", name := "give", desc := "(IJ)V" } : Jvm.MethodName)), (Jvm.Cond.instanceMethod ({ cls := "MajorityClock$Lease", name := "give", desc := "(IJ)V" } : Jvm.MethodName)), (Jvm.Cond.selects "MajorityClock$Lease" ({ cls := "MajorityClock$Lease", name := "give", desc := "(IJ)V" } : Jvm.MethodName) ({ cls := "MajorityClock$Lease", name := "give", desc := "(IJ)V" } : Jvm.MethodName))]
def BIG_8 : List Cond := [(Jvm.Cond.code ({ cls := "MajorityClock$Lease", name := "give", desc := "(IJ)V" } : Jvm.MethodName) prog_3_method_2_code (4 : Nat) (Option.none : Option Jvm.ClassFile.FieldType)), (Jvm.Cond.methodLink "MajorityClockLaw" (97 : Nat) ({ cls := "MajorityClock", name := "holds", desc := "(IIJJ)Z" } : Jvm.MethodName)), (Jvm.Cond.instanceMethod ({ cls := "MajorityClock", name := "holds", desc := "(IIJJ)Z" } : Jvm.MethodName)), (Jvm.Cond.selects "MajorityClock" ({ cls := "MajorityClock", name := "holds", desc := "(IIJJ)Z" } : Jvm.MethodName) ({ cls := "MajorityClock", name := "holds", desc := "(IIJJ)Z" } : Jvm.MethodName)), (Jvm.Cond.code ({ cls := "MajorityClock", name := "holds", desc := "(IIJJ)Z" } : Jvm.MethodName) prog_1_method_18_code (8 : Nat) (Option.some Jvm.ClassFile.FieldType.boolean)), (Jvm.Cond.constantLong "MajorityClock" (201 : Nat) (-1099511627776 : Int64)), (Jvm.Cond.constantLong "MajorityClock" (203 : Nat) (2199023255552 : Int64)), (Jvm.Cond.methodLink "MajorityClockLaw" (102 : Nat) ({ cls := "MajorityClock", name := "expiry", desc := "(I)J" } : Jvm.MethodName)), (Jvm.Cond.instanceMethod ({ cls := "MajorityClock", name := "expiry", desc := "(I)J" } : Jvm.MethodName)), (Jvm.Cond.selects "MajorityClock" ({ cls := "MajorityClock", name := "expiry", desc := "(I)J" } : Jvm.MethodName) ({ cls := "MajorityClock", name := "expiry", desc := "(I)J" } : Jvm.MethodName)), (Jvm.Cond.code ({ cls := "MajorityClock", name := "expiry", desc := "(I)J" } : Jvm.MethodName) prog_1_method_19_code (3 : Nat) (Option.some Jvm.ClassFile.FieldType.long)), (Jvm.Cond.methodLink "MajorityClockLaw" (106 : Nat) ({ cls := "MajorityClock", name := "holder", desc := "(I)I" } : Jvm.MethodName)), (Jvm.Cond.instanceMethod ({ cls := "MajorityClock", name := "holder", desc := "(I)I" } : Jvm.MethodName)), (Jvm.Cond.selects "MajorityClock" ({ cls := "MajorityClock", name := "holder", desc := "(I)I" } : Jvm.MethodName) ({ cls := "MajorityClock", name := "holder", desc := "(I)I" } : Jvm.MethodName)), (Jvm.Cond.code ({ cls := "MajorityClock", name := "holder", desc := "(I)I" } : Jvm.MethodName) prog_1_method_20_code (3 : Nat) (Option.some Jvm.ClassFile.FieldType.int)), (Jvm.Cond.methodLink "MajorityClockLaw" (9 : Nat) ({ cls := "MajorityClockLaw", name := "cell", desc := "([II)I" } : Jvm.MethodName)), (Jvm.Cond.static ({ cls := "MajorityClockLaw", name := "cell", desc := "([II)I" } : Jvm.MethodName)), (Jvm.Cond.code ({ cls := "MajorityClockLaw", name := "cell", desc := "([II)I" } : Jvm.MethodName) method_2_code (2 : Nat) (Option.some Jvm.ClassFile.FieldType.int)), (Jvm.Cond.classLink "MajorityClockLaw" (18 : Nat) "MajorityClockModel"), (Jvm.Cond.instantiable "MajorityClockModel" (36 : Nat)), (Jvm.Cond.methodLink "MajorityClockLaw" (20 : Nat) ({ cls := "MajorityClockModel", name := "<init>", desc := "(III)V" } : Jvm.MethodName)), (Jvm.Cond.instanceMethod ({ cls := "MajorityClockModel", name := "<init>", desc := "(III)V" } : Jvm.MethodName)), (Jvm.Cond.code ({ cls := "MajorityClockModel", name := "<init>", desc := "(III)V" } : Jvm.MethodName) prog_7_method_1_code (5 : Nat) (Option.none : Option Jvm.ClassFile.FieldType)), (Jvm.Cond.methodLink "MajorityClockModel" (1 : Nat) ({ cls := "java/lang/Object", name := "<init>", desc := "()V" } : Jvm.MethodName)), (Jvm.Cond.methodLink "MajorityClockModel" (69 : Nat) ({ cls := "MajorityClockModel", name := "within", desc := "(III)I" } : Jvm.MethodName)), (Jvm.Cond.static ({ cls := "MajorityClockModel", name := "within", desc := "(III)I" } : Jvm.MethodName)), (Jvm.Cond.code ({ cls := "MajorityClockModel", name := "within", desc := "(III)I" } : Jvm.MethodName) prog_7_method_2_code (3 : Nat) (Option.some Jvm.ClassFile.FieldType.int)), (Jvm.Cond.fieldLink "MajorityClockModel" (73 : Nat) "MajorityClockModel" "servers" "I"), (Jvm.Cond.fieldLink "MajorityClockModel" (77 : Nat) "MajorityClockModel" "drift" "I"), (Jvm.Cond.fieldLink "MajorityClockModel" (80 : Nat) "MajorityClockModel" "self" "I"), (Jvm.Cond.fieldLink "MajorityClockModel" (86 : Nat) "MajorityClockModel" "now" "J"), (Jvm.Cond.fieldLink "MajorityClockModel" (102 : Nat) "MajorityClockModel" "asked" "Z"), (Jvm.Cond.fieldLink "MajorityClockModel" (106 : Nat) "MajorityClockModel" "lastStamp" "J"), (Jvm.Cond.fieldLink "MajorityClockModel" (7 : Nat) "MajorityClockModel" "key" "[J"), (Jvm.Cond.fieldLink "MajorityClockModel" (13 : Nat) "MajorityClockModel" "pending" "[Z"), (Jvm.Cond.fieldLink "MajorityClockModel" (17 : Nat) "MajorityClockModel" "askedAt" "[J"), (Jvm.Cond.fieldLink "MajorityClockModel" (20 : Nat) "MajorityClockModel" "stampOf" "[J"), (Jvm.Cond.fieldLink "MajorityClockModel" (23 : Nat) "MajorityClockModel" "answered" "[Z"), (Jvm.Cond.fieldLink "MajorityClockModel" (26 : Nat) "MajorityClockModel" "lastOrigin" "[J"), (Jvm.Cond.fieldLink "MajorityClockModel" (29 : Nat) "MajorityClockModel" "samples" "[I"), (Jvm.Cond.fieldLink "MajorityClockModel" (33 : Nat) "MajorityClockModel" "sampleLow" "[J"), (Jvm.Cond.fieldLink "MajorityClockModel" (36 : Nat) "MajorityClockModel" "sampleHigh" "[J"), (Jvm.Cond.fieldLink "MajorityClockModel" (39 : Nat) "MajorityClockModel" "sampleTime" "[J"), (Jvm.Cond.fieldLink "MajorityClockModel" (42 : Nat) "MajorityClockModel" "stratumOf" "[I"), (Jvm.Cond.fieldLink "MajorityClockModel" (45 : Nat) "MajorityClockModel" "reference" "[I"), (Jvm.Cond.fieldLink "MajorityClockModel" (48 : Nat) "MajorityClockModel" "root" "[I"), (Jvm.Cond.fieldLink "MajorityClockModel" (51 : Nat) "MajorityClockModel" "from" "[J"), (Jvm.Cond.fieldLink "MajorityClockModel" (54 : Nat) "MajorityClockModel" "to" "[J"), (Jvm.Cond.fieldLink "MajorityClockModel" (57 : Nat) "MajorityClockModel" "in" "[Z"), (Jvm.Cond.fieldLink "MajorityClockModel" (135 : Nat) "MajorityClockModel" "least" "J")]
def BIG_9 : List Cond := [(Jvm.Cond.fieldLink "MajorityClockModel" (138 : Nat) "MajorityClockModel" "greatest" "J"), (Jvm.Cond.fieldLink "MajorityClockModel" (171 : Nat) "MajorityClockModel" "set" "Z"), (Jvm.Cond.fieldLink "MajorityClockModel" (196 : Nat) "MajorityClockModel" "mask" "I"), (Jvm.Cond.fieldLink "MajorityClockModel" (199 : Nat) "MajorityClockModel" "best" "I"), (Jvm.Cond.fieldLink "MajorityClockModel" (184 : Nat) "MajorityClockModel" "lower" "J"), (Jvm.Cond.fieldLink "MajorityClockModel" (187 : Nat) "MajorityClockModel" "upper" "J"), (Jvm.Cond.fieldLink "MajorityClockModel" (181 : Nat) "MajorityClockModel" "target" "J"), (Jvm.Cond.fieldLink "MajorityClockModel" (190 : Nat) "MajorityClockModel" "error" "J"), (Jvm.Cond.fieldLink "MajorityClockModel" (193 : Nat) "MajorityClockModel" "madeAt" "J"), (Jvm.Cond.fieldLink "MajorityClockModel" (178 : Nat) "MajorityClockModel" "startedFrom" "J"), (Jvm.Cond.fieldLink "MajorityClockModel" (60 : Nat) "MajorityClockModel" "granted" "[Z"), (Jvm.Cond.fieldLink "MajorityClockModel" (63 : Nat) "MajorityClockModel" "owner" "[I"), (Jvm.Cond.fieldLink "MajorityClockModel" (66 : Nat) "MajorityClockModel" "until" "[J"), (Jvm.Cond.lays "MajorityClockModel" "MajorityClockModel" "servers" "I"), (Jvm.Cond.lays "MajorityClockModel" "MajorityClockModel" "drift" "I"), (Jvm.Cond.lays "MajorityClockModel" "MajorityClockModel" "self" "I"), (Jvm.Cond.lays "MajorityClockModel" "MajorityClockModel" "now" "J"), (Jvm.Cond.lays "MajorityClockModel" "MajorityClockModel" "asked" "Z"), (Jvm.Cond.lays "MajorityClockModel" "MajorityClockModel" "lastStamp" "J"), (Jvm.Cond.laysFinal "MajorityClockModel" "MajorityClockModel" "key" "[J"), (Jvm.Cond.laysFinal "MajorityClockModel" "MajorityClockModel" "pending" "[Z"), (Jvm.Cond.laysFinal "MajorityClockModel" "MajorityClockModel" "askedAt" "[J"), (Jvm.Cond.laysFinal "MajorityClockModel" "MajorityClockModel" "stampOf" "[J"), (Jvm.Cond.laysFinal "MajorityClockModel" "MajorityClockModel" "answered" "[Z"), (Jvm.Cond.laysFinal "MajorityClockModel" "MajorityClockModel" "lastOrigin" "[J"), (Jvm.Cond.laysFinal "MajorityClockModel" "MajorityClockModel" "samples" "[I"), (Jvm.Cond.laysFinal "MajorityClockModel" "MajorityClockModel" "sampleLow" "[J"), (Jvm.Cond.laysFinal "MajorityClockModel" "MajorityClockModel" "sampleHigh" "[J"), (Jvm.Cond.laysFinal "MajorityClockModel" "MajorityClockModel" "sampleTime" "[J"), (Jvm.Cond.laysFinal "MajorityClockModel" "MajorityClockModel" "stratumOf" "[I"), (Jvm.Cond.laysFinal "MajorityClockModel" "MajorityClockModel" "reference" "[I"), (Jvm.Cond.laysFinal "MajorityClockModel" "MajorityClockModel" "root" "[I"), (Jvm.Cond.laysFinal "MajorityClockModel" "MajorityClockModel" "from" "[J"), (Jvm.Cond.laysFinal "MajorityClockModel" "MajorityClockModel" "to" "[J"), (Jvm.Cond.laysFinal "MajorityClockModel" "MajorityClockModel" "in" "[Z"), (Jvm.Cond.lays "MajorityClockModel" "MajorityClockModel" "least" "J"), (Jvm.Cond.lays "MajorityClockModel" "MajorityClockModel" "greatest" "J"), (Jvm.Cond.lays "MajorityClockModel" "MajorityClockModel" "set" "Z"), (Jvm.Cond.lays "MajorityClockModel" "MajorityClockModel" "mask" "I"), (Jvm.Cond.lays "MajorityClockModel" "MajorityClockModel" "best" "I"), (Jvm.Cond.lays "MajorityClockModel" "MajorityClockModel" "lower" "J"), (Jvm.Cond.lays "MajorityClockModel" "MajorityClockModel" "upper" "J"), (Jvm.Cond.lays "MajorityClockModel" "MajorityClockModel" "target" "J"), (Jvm.Cond.lays "MajorityClockModel" "MajorityClockModel" "error" "J"), (Jvm.Cond.lays "MajorityClockModel" "MajorityClockModel" "madeAt" "J"), (Jvm.Cond.lays "MajorityClockModel" "MajorityClockModel" "startedFrom" "J"), (Jvm.Cond.laysFinal "MajorityClockModel" "MajorityClockModel" "granted" "[Z"), (Jvm.Cond.laysFinal "MajorityClockModel" "MajorityClockModel" "owner" "[I"), (Jvm.Cond.laysFinal "MajorityClockModel" "MajorityClockModel" "until" "[J"), (Jvm.Cond.arrayClass Jvm.ClassFile.FieldType.boolean)]
def BIG_10 : List Cond := [(Jvm.Cond.methodLink "MajorityClockLaw" (25 : Nat) ({ cls := "MajorityClockModel", name := "advance", desc := "(I)Z" } : Jvm.MethodName)), (Jvm.Cond.instanceMethod ({ cls := "MajorityClockModel", name := "advance", desc := "(I)Z" } : Jvm.MethodName)), (Jvm.Cond.selects "MajorityClockModel" ({ cls := "MajorityClockModel", name := "advance", desc := "(I)Z" } : Jvm.MethodName) ({ cls := "MajorityClockModel", name := "advance", desc := "(I)Z" } : Jvm.MethodName)), (Jvm.Cond.code ({ cls := "MajorityClockModel", name := "advance", desc := "(I)Z" } : Jvm.MethodName) prog_7_method_7_code (2 : Nat) (Option.some Jvm.ClassFile.FieldType.boolean)), (Jvm.Cond.constant "MajorityClockModel" (85 : Nat) (1000000 : Int32)), (Jvm.Cond.methodLink "MajorityClockLaw" (30 : Nat) ({ cls := "MajorityClockModel", name := "hardware", desc := "()J" } : Jvm.MethodName)), (Jvm.Cond.instanceMethod ({ cls := "MajorityClockModel", name := "hardware", desc := "()J" } : Jvm.MethodName)), (Jvm.Cond.selects "MajorityClockModel" ({ cls := "MajorityClockModel", name := "hardware", desc := "()J" } : Jvm.MethodName) ({ cls := "MajorityClockModel", name := "hardware", desc := "()J" } : Jvm.MethodName)), (Jvm.Cond.code ({ cls := "MajorityClockModel", name := "hardware", desc := "()J" } : Jvm.MethodName) prog_7_method_8_code (1 : Nat) (Option.some Jvm.ClassFile.FieldType.long)), (Jvm.Cond.methodLink "MajorityClockLaw" (37 : Nat) ({ cls := "MajorityClockModel", name := "key", desc := "(IJ)Z" } : Jvm.MethodName)), (Jvm.Cond.instanceMethod ({ cls := "MajorityClockModel", name := "key", desc := "(IJ)Z" } : Jvm.MethodName)), (Jvm.Cond.selects "MajorityClockModel" ({ cls := "MajorityClockModel", name := "key", desc := "(IJ)Z" } : Jvm.MethodName) ({ cls := "MajorityClockModel", name := "key", desc := "(IJ)Z" } : Jvm.MethodName)), (Jvm.Cond.code ({ cls := "MajorityClockModel", name := "key", desc := "(IJ)Z" } : Jvm.MethodName) prog_7_method_9_code (4 : Nat) (Option.some Jvm.ClassFile.FieldType.boolean)), (Jvm.Cond.methodLink "MajorityClockModel" (90 : Nat) ({ cls := "MajorityClockModel", name := "isServer", desc := "(I)Z" } : Jvm.MethodName)), (Jvm.Cond.instanceMethod ({ cls := "MajorityClockModel", name := "isServer", desc := "(I)Z" } : Jvm.MethodName)), (Jvm.Cond.code ({ cls := "MajorityClockModel", name := "isServer", desc := "(I)Z" } : Jvm.MethodName) prog_7_method_4_code (2 : Nat) (Option.some Jvm.ClassFile.FieldType.boolean)), (Jvm.Cond.methodLink "MajorityClockLaw" (42 : Nat) ({ cls := "MajorityClockModel", name := "seal", desc := "(IJJJ)I" } : Jvm.MethodName)), (Jvm.Cond.instanceMethod ({ cls := "MajorityClockModel", name := "seal", desc := "(IJJJ)I" } : Jvm.MethodName)), (Jvm.Cond.selects "MajorityClockModel" ({ cls := "MajorityClockModel", name := "seal", desc := "(IJJJ)I" } : Jvm.MethodName) ({ cls := "MajorityClockModel", name := "seal", desc := "(IJJJ)I" } : Jvm.MethodName)), (Jvm.Cond.code ({ cls := "MajorityClockModel", name := "seal", desc := "(IJJJ)I" } : Jvm.MethodName) prog_7_method_11_code (14 : Nat) (Option.some Jvm.ClassFile.FieldType.int)), (Jvm.Cond.methodLink "MajorityClockModel" (96 : Nat) ({ cls := "MajorityClockModel", name := "mixed", desc := "(JJ)J" } : Jvm.MethodName)), (Jvm.Cond.static ({ cls := "MajorityClockModel", name := "mixed", desc := "(JJ)J" } : Jvm.MethodName)), (Jvm.Cond.code ({ cls := "MajorityClockModel", name := "mixed", desc := "(JJ)J" } : Jvm.MethodName) prog_7_method_10_code (6 : Nat) (Option.some Jvm.ClassFile.FieldType.long)), (Jvm.Cond.constantLong "MajorityClockModel" (94 : Nat) (-7046029254386353131 : Int64)), (Jvm.Cond.methodLink "MajorityClockLaw" (47 : Nat) ({ cls := "MajorityClockModel", name := "ask", desc := "(I)J" } : Jvm.MethodName)), (Jvm.Cond.instanceMethod ({ cls := "MajorityClockModel", name := "ask", desc := "(I)J" } : Jvm.MethodName)), (Jvm.Cond.selects "MajorityClockModel" ({ cls := "MajorityClockModel", name := "ask", desc := "(I)J" } : Jvm.MethodName) ({ cls := "MajorityClockModel", name := "ask", desc := "(I)J" } : Jvm.MethodName)), (Jvm.Cond.code ({ cls := "MajorityClockModel", name := "ask", desc := "(I)J" } : Jvm.MethodName) prog_7_method_12_code (2 : Nat) (Option.some Jvm.ClassFile.FieldType.long)), (Jvm.Cond.constantLong "MajorityClockModel" (100 : Nat) (-4611686018427387904 : Int64)), (Jvm.Cond.methodLink "MajorityClockLaw" (52 : Nat) ({ cls := "MajorityClockModel", name := "reply", desc := "(IJJJI)I" } : Jvm.MethodName)), (Jvm.Cond.instanceMethod ({ cls := "MajorityClockModel", name := "reply", desc := "(IJJJI)I" } : Jvm.MethodName)), (Jvm.Cond.selects "MajorityClockModel" ({ cls := "MajorityClockModel", name := "reply", desc := "(IJJJI)I" } : Jvm.MethodName) ({ cls := "MajorityClockModel", name := "reply", desc := "(IJJJI)I" } : Jvm.MethodName)), (Jvm.Cond.code ({ cls := "MajorityClockModel", name := "reply", desc := "(IJJJI)I" } : Jvm.MethodName) prog_7_method_14_code (11 : Nat) (Option.some Jvm.ClassFile.FieldType.int)), (Jvm.Cond.methodLink "MajorityClockModel" (119 : Nat) ({ cls := "MajorityClockModel", name := "why", desc := "(IJJJI)I" } : Jvm.MethodName)), (Jvm.Cond.instanceMethod ({ cls := "MajorityClockModel", name := "why", desc := "(IJJJI)I" } : Jvm.MethodName)), (Jvm.Cond.code ({ cls := "MajorityClockModel", name := "why", desc := "(IJJJI)I" } : Jvm.MethodName) prog_7_method_13_code (10 : Nat) (Option.some Jvm.ClassFile.FieldType.int)), (Jvm.Cond.constantLong "MajorityClockModel" (109 : Nat) (1099511627776 : Int64)), (Jvm.Cond.methodLink "MajorityClockModel" (111 : Nat) ({ cls := "MajorityClockModel", name := "between", desc := "(JJJ)Z" } : Jvm.MethodName)), (Jvm.Cond.static ({ cls := "MajorityClockModel", name := "between", desc := "(JJJ)Z" } : Jvm.MethodName)), (Jvm.Cond.code ({ cls := "MajorityClockModel", name := "between", desc := "(JJJ)Z" } : Jvm.MethodName) prog_7_method_3_code (6 : Nat) (Option.some Jvm.ClassFile.FieldType.boolean)), (Jvm.Cond.methodLink "MajorityClockModel" (115 : Nat) ({ cls := "MajorityClockModel", name := "seal", desc := "(IJJJ)I" } : Jvm.MethodName)), (Jvm.Cond.methodLink "MajorityClockLaw" (57 : Nat) ({ cls := "MajorityClockModel", name := "tell", desc := "(IIII)Z" } : Jvm.MethodName)), (Jvm.Cond.instanceMethod ({ cls := "MajorityClockModel", name := "tell", desc := "(IIII)Z" } : Jvm.MethodName)), (Jvm.Cond.selects "MajorityClockModel" ({ cls := "MajorityClockModel", name := "tell", desc := "(IIII)Z" } : Jvm.MethodName) ({ cls := "MajorityClockModel", name := "tell", desc := "(IIII)Z" } : Jvm.MethodName)), (Jvm.Cond.code ({ cls := "MajorityClockModel", name := "tell", desc := "(IIII)Z" } : Jvm.MethodName) prog_7_method_15_code (5 : Nat) (Option.some Jvm.ClassFile.FieldType.boolean)), (Jvm.Cond.methodLink "MajorityClockLaw" (61 : Nat) ({ cls := "MajorityClockModel", name := "low", desc := "(I)J" } : Jvm.MethodName)), (Jvm.Cond.instanceMethod ({ cls := "MajorityClockModel", name := "low", desc := "(I)J" } : Jvm.MethodName)), (Jvm.Cond.selects "MajorityClockModel" ({ cls := "MajorityClockModel", name := "low", desc := "(I)J" } : Jvm.MethodName) ({ cls := "MajorityClockModel", name := "low", desc := "(I)J" } : Jvm.MethodName)), (Jvm.Cond.code ({ cls := "MajorityClockModel", name := "low", desc := "(I)J" } : Jvm.MethodName) prog_7_method_17_code (2 : Nat) (Option.some Jvm.ClassFile.FieldType.long)), (Jvm.Cond.methodLink "MajorityClockModel" (127 : Nat) ({ cls := "MajorityClockModel", name := "measure", desc := "(I)V" } : Jvm.MethodName))]
def BIG_11 : List Cond := [(Jvm.Cond.instanceMethod ({ cls := "MajorityClockModel", name := "measure", desc := "(I)V" } : Jvm.MethodName)), (Jvm.Cond.code ({ cls := "MajorityClockModel", name := "measure", desc := "(I)V" } : Jvm.MethodName) prog_7_method_16_code (9 : Nat) (Option.none : Option Jvm.ClassFile.FieldType)), (Jvm.Cond.methodLink "MajorityClockModel" (123 : Nat) ({ cls := "MajorityClockModel", name := "growth", desc := "(J)J" } : Jvm.MethodName)), (Jvm.Cond.instanceMethod ({ cls := "MajorityClockModel", name := "growth", desc := "(J)J" } : Jvm.MethodName)), (Jvm.Cond.code ({ cls := "MajorityClockModel", name := "growth", desc := "(J)J" } : Jvm.MethodName) prog_7_method_6_code (7 : Nat) (Option.some Jvm.ClassFile.FieldType.long)), (Jvm.Cond.constantLong "MajorityClockModel" (83 : Nat) (1000000 : Int64)), (Jvm.Cond.methodLink "MajorityClockLaw" (65 : Nat) ({ cls := "MajorityClockModel", name := "high", desc := "(I)J" } : Jvm.MethodName)), (Jvm.Cond.instanceMethod ({ cls := "MajorityClockModel", name := "high", desc := "(I)J" } : Jvm.MethodName)), (Jvm.Cond.selects "MajorityClockModel" ({ cls := "MajorityClockModel", name := "high", desc := "(I)J" } : Jvm.MethodName) ({ cls := "MajorityClockModel", name := "high", desc := "(I)J" } : Jvm.MethodName)), (Jvm.Cond.code ({ cls := "MajorityClockModel", name := "high", desc := "(I)J" } : Jvm.MethodName) prog_7_method_18_code (2 : Nat) (Option.some Jvm.ClassFile.FieldType.long)), (Jvm.Cond.methodLink "MajorityClockLaw" (70 : Nat) ({ cls := "MajorityClockModel", name := "update", desc := "()I" } : Jvm.MethodName)), (Jvm.Cond.instanceMethod ({ cls := "MajorityClockModel", name := "update", desc := "()I" } : Jvm.MethodName)), (Jvm.Cond.selects "MajorityClockModel" ({ cls := "MajorityClockModel", name := "update", desc := "()I" } : Jvm.MethodName) ({ cls := "MajorityClockModel", name := "update", desc := "()I" } : Jvm.MethodName)), (Jvm.Cond.code ({ cls := "MajorityClockModel", name := "update", desc := "()I" } : Jvm.MethodName) prog_7_method_26_code (5 : Nat) (Option.some Jvm.ClassFile.FieldType.int)), (Jvm.Cond.methodLink "MajorityClockModel" (155 : Nat) ({ cls := "MajorityClockModel", name := "usable", desc := "(I)Z" } : Jvm.MethodName)), (Jvm.Cond.instanceMethod ({ cls := "MajorityClockModel", name := "usable", desc := "(I)Z" } : Jvm.MethodName)), (Jvm.Cond.code ({ cls := "MajorityClockModel", name := "usable", desc := "(I)Z" } : Jvm.MethodName) prog_7_method_19_code (3 : Nat) (Option.some Jvm.ClassFile.FieldType.boolean)), (Jvm.Cond.methodLink "MajorityClockModel" (158 : Nat) ({ cls := "MajorityClockModel", name := "left", desc := "()I" } : Jvm.MethodName)), (Jvm.Cond.instanceMethod ({ cls := "MajorityClockModel", name := "left", desc := "()I" } : Jvm.MethodName)), (Jvm.Cond.code ({ cls := "MajorityClockModel", name := "left", desc := "()I" } : Jvm.MethodName) prog_7_method_20_code (3 : Nat) (Option.some Jvm.ClassFile.FieldType.int)), (Jvm.Cond.methodLink "MajorityClockModel" (162 : Nat) ({ cls := "MajorityClockModel", name := "hullOf", desc := "(I)Z" } : Jvm.MethodName)), (Jvm.Cond.instanceMethod ({ cls := "MajorityClockModel", name := "hullOf", desc := "(I)Z" } : Jvm.MethodName)), (Jvm.Cond.code ({ cls := "MajorityClockModel", name := "hullOf", desc := "(I)Z" } : Jvm.MethodName) prog_7_method_22_code (4 : Nat) (Option.some Jvm.ClassFile.FieldType.boolean)), (Jvm.Cond.methodLink "MajorityClockModel" (131 : Nat) ({ cls := "MajorityClockModel", name := "covering", desc := "(J)I" } : Jvm.MethodName)), (Jvm.Cond.instanceMethod ({ cls := "MajorityClockModel", name := "covering", desc := "(J)I" } : Jvm.MethodName)), (Jvm.Cond.code ({ cls := "MajorityClockModel", name := "covering", desc := "(J)I" } : Jvm.MethodName) prog_7_method_21_code (5 : Nat) (Option.some Jvm.ClassFile.FieldType.int)), (Jvm.Cond.methodLink "MajorityClockModel" (165 : Nat) ({ cls := "MajorityClockModel", name := "leave", desc := "()V" } : Jvm.MethodName)), (Jvm.Cond.instanceMethod ({ cls := "MajorityClockModel", name := "leave", desc := "()V" } : Jvm.MethodName)), (Jvm.Cond.code ({ cls := "MajorityClockModel", name := "leave", desc := "()V" } : Jvm.MethodName) prog_7_method_25_code (7 : Nat) (Option.none : Option Jvm.ClassFile.FieldType)), (Jvm.Cond.constantLong "MajorityClockModel" (150 : Nat) (-1 : Int64)), (Jvm.Cond.methodLink "MajorityClockModel" (152 : Nat) ({ cls := "MajorityClockModel", name := "far", desc := "(I)J" } : Jvm.MethodName)), (Jvm.Cond.instanceMethod ({ cls := "MajorityClockModel", name := "far", desc := "(I)J" } : Jvm.MethodName)), (Jvm.Cond.code ({ cls := "MajorityClockModel", name := "far", desc := "(I)J" } : Jvm.MethodName) prog_7_method_24_code (7 : Nat) (Option.some Jvm.ClassFile.FieldType.long)), (Jvm.Cond.methodLink "MajorityClockModel" (146 : Nat) ({ cls := "MajorityClockModel", name := "middle", desc := "(I)J" } : Jvm.MethodName)), (Jvm.Cond.instanceMethod ({ cls := "MajorityClockModel", name := "middle", desc := "(I)J" } : Jvm.MethodName)), (Jvm.Cond.code ({ cls := "MajorityClockModel", name := "middle", desc := "(I)J" } : Jvm.MethodName) prog_7_method_23_code (2 : Nat) (Option.some Jvm.ClassFile.FieldType.long)), (Jvm.Cond.constantLong "MajorityClockModel" (141 : Nat) (2 : Int64)), (Jvm.Cond.methodLink "MajorityClockModel" (143 : Nat) ({ cls := "MajorityClockModel", name := "down", desc := "(JJ)J" } : Jvm.MethodName)), (Jvm.Cond.static ({ cls := "MajorityClockModel", name := "down", desc := "(JJ)J" } : Jvm.MethodName)), (Jvm.Cond.code ({ cls := "MajorityClockModel", name := "down", desc := "(JJ)J" } : Jvm.MethodName) prog_7_method_5_code (6 : Nat) (Option.some Jvm.ClassFile.FieldType.long)), (Jvm.Cond.methodLink "MajorityClockModel" (168 : Nat) ({ cls := "MajorityClockModel", name := "keep", desc := "(I)V" } : Jvm.MethodName)), (Jvm.Cond.instanceMethod ({ cls := "MajorityClockModel", name := "keep", desc := "(I)V" } : Jvm.MethodName)), (Jvm.Cond.code ({ cls := "MajorityClockModel", name := "keep", desc := "(I)V" } : Jvm.MethodName) prog_7_method_27_code (8 : Nat) (Option.none : Option Jvm.ClassFile.FieldType)), (Jvm.Cond.methodLink "MajorityClockModel" (174 : Nat) ({ cls := "MajorityClockModel", name := "offset", desc := "()J" } : Jvm.MethodName)), (Jvm.Cond.instanceMethod ({ cls := "MajorityClockModel", name := "offset", desc := "()J" } : Jvm.MethodName)), (Jvm.Cond.code ({ cls := "MajorityClockModel", name := "offset", desc := "()J" } : Jvm.MethodName) prog_7_method_31_code (5 : Nat) (Option.some Jvm.ClassFile.FieldType.long)), (Jvm.Cond.constantLong "MajorityClockModel" (202 : Nat) (16 : Int64)), (Jvm.Cond.methodLink "MajorityClockLaw" (74 : Nat) ({ cls := "MajorityClockModel", name := "survivors", desc := "()I" } : Jvm.MethodName)), (Jvm.Cond.instanceMethod ({ cls := "MajorityClockModel", name := "survivors", desc := "()I" } : Jvm.MethodName)), (Jvm.Cond.selects "MajorityClockModel" ({ cls := "MajorityClockModel", name := "survivors", desc := "()I" } : Jvm.MethodName) ({ cls := "MajorityClockModel", name := "survivors", desc := "()I" } : Jvm.MethodName))]
def BIG_12 : List Cond := [(Jvm.Cond.code ({ cls := "MajorityClockModel", name := "survivors", desc := "()I" } : Jvm.MethodName) prog_7_method_28_code (1 : Nat) (Option.some Jvm.ClassFile.FieldType.int)), (Jvm.Cond.methodLink "MajorityClockLaw" (79 : Nat) ({ cls := "MajorityClockModel", name := "hull", desc := "(Z)J" } : Jvm.MethodName)), (Jvm.Cond.instanceMethod ({ cls := "MajorityClockModel", name := "hull", desc := "(Z)J" } : Jvm.MethodName)), (Jvm.Cond.selects "MajorityClockModel" ({ cls := "MajorityClockModel", name := "hull", desc := "(Z)J" } : Jvm.MethodName) ({ cls := "MajorityClockModel", name := "hull", desc := "(Z)J" } : Jvm.MethodName)), (Jvm.Cond.code ({ cls := "MajorityClockModel", name := "hull", desc := "(Z)J" } : Jvm.MethodName) prog_7_method_29_code (2 : Nat) (Option.some Jvm.ClassFile.FieldType.long)), (Jvm.Cond.methodLink "MajorityClockLaw" (83 : Nat) ({ cls := "MajorityClockModel", name := "stratum", desc := "()I" } : Jvm.MethodName)), (Jvm.Cond.instanceMethod ({ cls := "MajorityClockModel", name := "stratum", desc := "()I" } : Jvm.MethodName)), (Jvm.Cond.selects "MajorityClockModel" ({ cls := "MajorityClockModel", name := "stratum", desc := "()I" } : Jvm.MethodName) ({ cls := "MajorityClockModel", name := "stratum", desc := "()I" } : Jvm.MethodName)), (Jvm.Cond.code ({ cls := "MajorityClockModel", name := "stratum", desc := "()I" } : Jvm.MethodName) prog_7_method_30_code (1 : Nat) (Option.some Jvm.ClassFile.FieldType.int)), (Jvm.Cond.methodLink "MajorityClockLaw" (87 : Nat) ({ cls := "MajorityClockModel", name := "time", desc := "()J" } : Jvm.MethodName)), (Jvm.Cond.instanceMethod ({ cls := "MajorityClockModel", name := "time", desc := "()J" } : Jvm.MethodName)), (Jvm.Cond.selects "MajorityClockModel" ({ cls := "MajorityClockModel", name := "time", desc := "()J" } : Jvm.MethodName) ({ cls := "MajorityClockModel", name := "time", desc := "()J" } : Jvm.MethodName)), (Jvm.Cond.code ({ cls := "MajorityClockModel", name := "time", desc := "()J" } : Jvm.MethodName) prog_7_method_32_code (1 : Nat) (Option.some Jvm.ClassFile.FieldType.long)), (Jvm.Cond.methodLink "MajorityClockLaw" (91 : Nat) ({ cls := "MajorityClockModel", name := "bound", desc := "()J" } : Jvm.MethodName)), (Jvm.Cond.instanceMethod ({ cls := "MajorityClockModel", name := "bound", desc := "()J" } : Jvm.MethodName)), (Jvm.Cond.selects "MajorityClockModel" ({ cls := "MajorityClockModel", name := "bound", desc := "()J" } : Jvm.MethodName) ({ cls := "MajorityClockModel", name := "bound", desc := "()J" } : Jvm.MethodName)), (Jvm.Cond.code ({ cls := "MajorityClockModel", name := "bound", desc := "()J" } : Jvm.MethodName) prog_7_method_33_code (3 : Nat) (Option.some Jvm.ClassFile.FieldType.long)), (Jvm.Cond.methodLink "MajorityClockLaw" (96 : Nat) ({ cls := "MajorityClockModel", name := "grant", desc := "(III)J" } : Jvm.MethodName)), (Jvm.Cond.instanceMethod ({ cls := "MajorityClockModel", name := "grant", desc := "(III)J" } : Jvm.MethodName)), (Jvm.Cond.selects "MajorityClockModel" ({ cls := "MajorityClockModel", name := "grant", desc := "(III)J" } : Jvm.MethodName) ({ cls := "MajorityClockModel", name := "grant", desc := "(III)J" } : Jvm.MethodName)), (Jvm.Cond.code ({ cls := "MajorityClockModel", name := "grant", desc := "(III)J" } : Jvm.MethodName) prog_7_method_35_code (12 : Nat) (Option.some Jvm.ClassFile.FieldType.long)), (Jvm.Cond.methodLink "MajorityClockModel" (204 : Nat) ({ cls := "MajorityClockModel", name := "isLease", desc := "(I)Z" } : Jvm.MethodName)), (Jvm.Cond.static ({ cls := "MajorityClockModel", name := "isLease", desc := "(I)Z" } : Jvm.MethodName)), (Jvm.Cond.code ({ cls := "MajorityClockModel", name := "isLease", desc := "(I)Z" } : Jvm.MethodName) prog_7_method_34_code (1 : Nat) (Option.some Jvm.ClassFile.FieldType.boolean)), (Jvm.Cond.methodLink "MajorityClockModel" (207 : Nat) ({ cls := "MajorityClockModel", name := "time", desc := "()J" } : Jvm.MethodName)), (Jvm.Cond.methodLink "MajorityClockModel" (210 : Nat) ({ cls := "MajorityClockModel", name := "bound", desc := "()J" } : Jvm.MethodName)), (Jvm.Cond.methodLink "MajorityClockLaw" (101 : Nat) ({ cls := "MajorityClockModel", name := "holds", desc := "(IIJJ)Z" } : Jvm.MethodName)), (Jvm.Cond.instanceMethod ({ cls := "MajorityClockModel", name := "holds", desc := "(IIJJ)Z" } : Jvm.MethodName)), (Jvm.Cond.selects "MajorityClockModel" ({ cls := "MajorityClockModel", name := "holds", desc := "(IIJJ)Z" } : Jvm.MethodName) ({ cls := "MajorityClockModel", name := "holds", desc := "(IIJJ)Z" } : Jvm.MethodName)), (Jvm.Cond.code ({ cls := "MajorityClockModel", name := "holds", desc := "(IIJJ)Z" } : Jvm.MethodName) prog_7_method_36_code (7 : Nat) (Option.some Jvm.ClassFile.FieldType.boolean)), (Jvm.Cond.constantLong "MajorityClockModel" (213 : Nat) (-1099511627776 : Int64)), (Jvm.Cond.constantLong "MajorityClockModel" (215 : Nat) (2199023255552 : Int64)), (Jvm.Cond.methodLink "MajorityClockLaw" (105 : Nat) ({ cls := "MajorityClockModel", name := "expiry", desc := "(I)J" } : Jvm.MethodName)), (Jvm.Cond.instanceMethod ({ cls := "MajorityClockModel", name := "expiry", desc := "(I)J" } : Jvm.MethodName)), (Jvm.Cond.selects "MajorityClockModel" ({ cls := "MajorityClockModel", name := "expiry", desc := "(I)J" } : Jvm.MethodName) ({ cls := "MajorityClockModel", name := "expiry", desc := "(I)J" } : Jvm.MethodName)), (Jvm.Cond.code ({ cls := "MajorityClockModel", name := "expiry", desc := "(I)J" } : Jvm.MethodName) prog_7_method_37_code (2 : Nat) (Option.some Jvm.ClassFile.FieldType.long)), (Jvm.Cond.methodLink "MajorityClockLaw" (110 : Nat) ({ cls := "MajorityClockModel", name := "holder", desc := "(I)I" } : Jvm.MethodName)), (Jvm.Cond.instanceMethod ({ cls := "MajorityClockModel", name := "holder", desc := "(I)I" } : Jvm.MethodName)), (Jvm.Cond.selects "MajorityClockModel" ({ cls := "MajorityClockModel", name := "holder", desc := "(I)I" } : Jvm.MethodName) ({ cls := "MajorityClockModel", name := "holder", desc := "(I)I" } : Jvm.MethodName)), (Jvm.Cond.code ({ cls := "MajorityClockModel", name := "holder", desc := "(I)I" } : Jvm.MethodName) prog_7_method_38_code (2 : Nat) (Option.some Jvm.ClassFile.FieldType.int)), (Jvm.Cond.constantLong "MajorityClockLaw" (31 : Nat) (4294967295 : Int64))]
def BIG : List Cond := BIG_0 ++ (BIG_1 ++ (BIG_2 ++ (BIG_3 ++ (BIG_4 ++ (BIG_5 ++ (BIG_6 ++ (BIG_7 ++ (BIG_8 ++ (BIG_9 ++ (BIG_10 ++ (BIG_11 ++ (BIG_12))))))))))))
theorem goodIn_q {big : List Cond} (ws : List Cond) (ps : List Nat) (hp : ws = ps.filterMap (fun i => big[i]?)) (h : ws.all goodWord = true) : GoodIn big ws := by
  intro w hw
  have h1 := List.all_eq_true.mp h w hw
  rw [hp] at hw
  obtain ⟨i, -, hi⟩ := List.mem_filterMap.mp hw
  exact ⟨List.mem_of_getElem? hi, good_of_word h1⟩
set_option maxRecDepth 20000 in
theorem big_ok0 : GoodIn lw_tbl BIG_0 := goodIn_q _ [0, 1, 2, 3, 4, 5, 6, 7, 8, 9, 10, 11, 12, 13, 14, 15, 16, 17, 18, 19, 20, 21, 22, 23, 24, 25, 26, 27, 28, 29, 30, 31, 32, 33, 34, 35, 36, 37, 38, 39, 40, 41, 42, 43, 44, 45, 46, 47, 48, 49] (by decide +kernel) (by decide +kernel)
set_option maxRecDepth 20000 in
theorem big_ok1 : GoodIn lw_tbl BIG_1 := goodIn_q _ [50, 51, 52, 54, 56, 57, 58, 59, 60, 61, 62, 63, 64, 65, 66, 67, 68, 69, 70, 71, 72, 73, 74, 75, 77, 79, 81, 83, 85, 87, 89, 91, 93, 95, 97, 100, 101, 103, 105, 106, 107, 108, 109, 110, 111, 112, 113, 114, 116, 118] (by decide +kernel) (by decide +kernel)
set_option maxRecDepth 20000 in
theorem big_ok2 : GoodIn lw_tbl BIG_2 := goodIn_q _ [121, 122, 124, 125, 126, 127, 128, 129, 130, 131, 132, 133, 134, 135, 136, 137, 139, 141, 143, 145, 147, 150, 151, 152, 154, 155, 156, 157, 158, 159, 160, 161, 162, 163, 164, 165, 166, 167, 168, 169, 170, 171, 173, 175, 177, 179, 181, 183, 185, 187] (by decide +kernel) (by decide +kernel)
set_option maxRecDepth 20000 in
theorem big_ok3 : GoodIn lw_tbl BIG_3 := goodIn_q _ [190, 191, 192, 193, 194, 195, 196, 197, 198, 200, 202, 204, 206, 208, 210, 212, 215, 216, 217, 218, 219, 220, 221, 222, 223, 224, 225, 226, 227, 228, 230, 231, 232, 233, 234, 235, 236, 237, 238, 239, 240, 241, 242, 243, 244, 245, 246, 247, 248, 249] (by decide +kernel) (by decide +kernel)
set_option maxRecDepth 20000 in
theorem big_ok4 : GoodIn lw_tbl BIG_4 := goodIn_q _ [250, 251, 252, 253, 254, 255, 256, 257, 258, 259, 260, 261, 262, 263, 264, 265, 266, 267, 268, 269, 270, 271, 272, 273, 274, 275, 277, 278, 279, 280, 281, 282, 283, 284, 285, 286, 287, 288, 289, 290, 291, 292, 294, 295, 296, 297, 298, 299, 301, 302] (by decide +kernel) (by decide +kernel)
set_option maxRecDepth 20000 in
theorem big_ok5 : GoodIn lw_tbl BIG_5 := goodIn_q _ [303, 304, 305, 306, 307, 308, 309, 310, 311, 312, 313, 314, 315, 316, 317, 318, 319, 320, 321, 323, 324, 325, 326, 327, 328, 329, 331, 332, 333, 334, 335, 336, 337, 338, 339, 340, 341, 343, 344, 345, 346, 347, 348, 349, 351, 352, 353, 354, 355, 357] (by decide +kernel) (by decide +kernel)
set_option maxRecDepth 20000 in
theorem big_ok6 : GoodIn lw_tbl BIG_6 := goodIn_q _ [358, 359, 360, 361, 362, 363, 364, 365, 366, 367, 368, 369, 370, 371, 373, 374, 375, 377, 378, 379, 381, 382, 383, 384, 385, 386, 387, 388, 390, 391, 392, 393, 394, 395, 396, 397, 398, 399, 400, 401, 402, 403, 404, 405, 406, 407, 409, 410, 411, 412] (by decide +kernel) (by decide +kernel)
set_option maxRecDepth 20000 in
theorem big_ok7 : GoodIn lw_tbl BIG_7 := goodIn_q _ [413, 414, 415, 416, 417, 418, 419, 420, 421, 422, 423, 424, 425, 426, 427, 428, 429, 430, 431, 432, 433, 434, 435, 436, 437, 438, 439, 440, 441, 442, 443, 444, 446, 447, 448, 449, 450, 452, 453, 454, 455, 457, 458, 459, 461, 462, 463, 464, 465, 466] (by decide +kernel) (by decide +kernel)
set_option maxRecDepth 20000 in
theorem big_ok8 : GoodIn lw_tbl BIG_8 := goodIn_q _ [467, 468, 469, 470, 471, 472, 473, 474, 475, 476, 477, 478, 479, 480, 481, 482, 483, 484, 485, 486, 487, 488, 489, 490, 491, 492, 493, 494, 495, 496, 497, 498, 499, 500, 501, 502, 503, 504, 505, 506, 507, 508, 509, 510, 511, 512, 513, 514, 515, 516] (by decide +kernel) (by decide +kernel)
set_option maxRecDepth 20000 in
theorem big_ok9 : GoodIn lw_tbl BIG_9 := goodIn_q _ [517, 518, 519, 520, 521, 522, 523, 524, 525, 526, 527, 528, 529, 530, 532, 534, 536, 538, 540, 542, 544, 546, 548, 550, 552, 554, 556, 558, 560, 562, 564, 566, 568, 570, 572, 574, 576, 578, 580, 582, 584, 586, 588, 590, 592, 594, 596, 598, 600, 603] (by decide +kernel) (by decide +kernel)
set_option maxRecDepth 20000 in
theorem big_ok10 : GoodIn lw_tbl BIG_10 := goodIn_q _ [604, 605, 606, 607, 608, 609, 610, 611, 612, 613, 614, 615, 616, 617, 619, 620, 621, 622, 623, 624, 625, 626, 627, 628, 629, 630, 631, 632, 633, 634, 635, 636, 637, 638, 640, 641, 642, 643, 644, 645, 646, 647, 648, 649, 650, 651, 652, 653, 654, 655] (by decide +kernel) (by decide +kernel)
set_option maxRecDepth 20000 in
theorem big_ok11 : GoodIn lw_tbl BIG_11 := goodIn_q _ [657, 658, 659, 661, 662, 663, 664, 665, 666, 667, 668, 669, 670, 671, 672, 674, 675, 676, 678, 679, 680, 682, 683, 684, 686, 687, 688, 690, 691, 692, 693, 695, 696, 697, 699, 700, 701, 702, 703, 704, 705, 707, 708, 709, 711, 712, 713, 714, 715, 716] (by decide +kernel) (by decide +kernel)
set_option maxRecDepth 20000 in
theorem big_ok12 : GoodIn lw_tbl BIG_12 := goodIn_q _ [717, 718, 719, 720, 721, 722, 723, 724, 725, 726, 727, 728, 729, 730, 731, 732, 733, 734, 735, 736, 737, 738, 739, 740, 741, 742, 743, 744, 745, 746, 747, 748, 749, 750, 751, 752, 753, 754, 755, 756, 757] (by decide +kernel) (by decide +kernel)
theorem big_ok : GoodIn lw_tbl BIG := fun w h => by
  unfold BIG at h
  simp only [List.mem_append] at h
  rcases h with h | h | h | h | h | h | h | h | h | h | h | h | h
  · exact big_ok0 w h
  · exact big_ok1 w h
  · exact big_ok2 w h
  · exact big_ok3 w h
  · exact big_ok4 w h
  · exact big_ok5 w h
  · exact big_ok6 w h
  · exact big_ok7 w h
  · exact big_ok8 w h
  · exact big_ok9 w h
  · exact big_ok10 w h
  · exact big_ok11 w h
  · exact big_ok12 w h
theorem big0 : ∀ w ∈ BIG_0, w ∈ BIG := fun w h => List.mem_append_left _ h
theorem big1 : ∀ w ∈ BIG_1, w ∈ BIG := fun w h => List.mem_append_right _ (List.mem_append_left _ h)
theorem big2 : ∀ w ∈ BIG_2, w ∈ BIG := fun w h => List.mem_append_right _ (List.mem_append_right _ (List.mem_append_left _ h))
theorem big3 : ∀ w ∈ BIG_3, w ∈ BIG := fun w h => List.mem_append_right _ (List.mem_append_right _ (List.mem_append_right _ (List.mem_append_left _ h)))
theorem big4 : ∀ w ∈ BIG_4, w ∈ BIG := fun w h => List.mem_append_right _ (List.mem_append_right _ (List.mem_append_right _ (List.mem_append_right _ (List.mem_append_left _ h))))
theorem big5 : ∀ w ∈ BIG_5, w ∈ BIG := fun w h => List.mem_append_right _ (List.mem_append_right _ (List.mem_append_right _ (List.mem_append_right _ (List.mem_append_right _ (List.mem_append_left _ h)))))
theorem big6 : ∀ w ∈ BIG_6, w ∈ BIG := fun w h => List.mem_append_right _ (List.mem_append_right _ (List.mem_append_right _ (List.mem_append_right _ (List.mem_append_right _ (List.mem_append_right _ (List.mem_append_left _ h))))))
theorem big7 : ∀ w ∈ BIG_7, w ∈ BIG := fun w h => List.mem_append_right _ (List.mem_append_right _ (List.mem_append_right _ (List.mem_append_right _ (List.mem_append_right _ (List.mem_append_right _ (List.mem_append_right _ (List.mem_append_left _ h)))))))
theorem big8 : ∀ w ∈ BIG_8, w ∈ BIG := fun w h => List.mem_append_right _ (List.mem_append_right _ (List.mem_append_right _ (List.mem_append_right _ (List.mem_append_right _ (List.mem_append_right _ (List.mem_append_right _ (List.mem_append_right _ (List.mem_append_left _ h))))))))
theorem big9 : ∀ w ∈ BIG_9, w ∈ BIG := fun w h => List.mem_append_right _ (List.mem_append_right _ (List.mem_append_right _ (List.mem_append_right _ (List.mem_append_right _ (List.mem_append_right _ (List.mem_append_right _ (List.mem_append_right _ (List.mem_append_right _ (List.mem_append_left _ h)))))))))
theorem big10 : ∀ w ∈ BIG_10, w ∈ BIG := fun w h => List.mem_append_right _ (List.mem_append_right _ (List.mem_append_right _ (List.mem_append_right _ (List.mem_append_right _ (List.mem_append_right _ (List.mem_append_right _ (List.mem_append_right _ (List.mem_append_right _ (List.mem_append_right _ (List.mem_append_left _ h))))))))))
theorem big11 : ∀ w ∈ BIG_11, w ∈ BIG := fun w h => List.mem_append_right _ (List.mem_append_right _ (List.mem_append_right _ (List.mem_append_right _ (List.mem_append_right _ (List.mem_append_right _ (List.mem_append_right _ (List.mem_append_right _ (List.mem_append_right _ (List.mem_append_right _ (List.mem_append_right _ (List.mem_append_left _ h)))))))))))
theorem big12 : ∀ w ∈ BIG_12, w ∈ BIG := fun w h => List.mem_append_right _ (List.mem_append_right _ (List.mem_append_right _ (List.mem_append_right _ (List.mem_append_right _ (List.mem_append_right _ (List.mem_append_right _ (List.mem_append_right _ (List.mem_append_right _ (List.mem_append_right _ (List.mem_append_right _ (List.mem_append_right _ (h))))))))))))
end
section
set_option maxRecDepth 20000 in
theorem li_E : ∀ w ∈ u_ws R_E F_E 6, w ∈ BIG := by decide +kernel
set_option maxRecDepth 20000 in
theorem li_Le : ∀ w ∈ u_ws R_Le F_Le 3, w ∈ BIG := by decide +kernel
set_option maxRecDepth 20000 in
theorem li_Sd : ∀ w ∈ u_ws R_Sd F_Sd 9, w ∈ BIG := by decide +kernel
set_option maxRecDepth 20000 in
theorem li_Sv : ∀ w ∈ u_ws R_Sv F_Sv 12, w ∈ BIG := by decide +kernel
set_option maxRecDepth 20000 in
theorem li_M : ∀ w ∈ u_ws R_M F_M 8, w ∈ BIG := by decide +kernel
set_option maxRecDepth 20000 in
theorem li_T : ∀ w ∈ u_ws R_T F_T 36, w ∈ BIG := by decide +kernel
theorem m0 : (Jvm.Cond.selects "MajorityClock" ({ cls := "MajorityClock", name := "serverOrNull", desc := "(I)LMajorityClock$Server;" } : Jvm.MethodName) ({ cls := "MajorityClock", name := "serverOrNull", desc := "(I)LMajorityClock$Server;" } : Jvm.MethodName)) ∈ BIG := big0 _ (List.mem_of_getElem? (i := 0) rfl)
theorem m1 : (Jvm.Cond.selects "MajorityClock$Server" ({ cls := "MajorityClock$Server", name := "makeRoomForSample", desc := "()V" } : Jvm.MethodName) ({ cls := "MajorityClock$Server", name := "makeRoomForSample", desc := "()V" } : Jvm.MethodName)) ∈ BIG := big0 _ (List.mem_of_getElem? (i := 1) rfl)
theorem m2 : (Jvm.Cond.selects "MajorityClock$Server" ({ cls := "MajorityClock$Server", name := "lengthOf", desc := "(IJI)J" } : Jvm.MethodName) ({ cls := "MajorityClock$Server", name := "lengthOf", desc := "(IJI)J" } : Jvm.MethodName)) ∈ BIG := big0 _ (List.mem_of_getElem? (i := 2) rfl)
theorem m3 : (Jvm.Cond.selects "MajorityClock" ({ cls := "MajorityClock", name := "callElection", desc := "()V" } : Jvm.MethodName) ({ cls := "MajorityClock", name := "callElection", desc := "()V" } : Jvm.MethodName)) ∈ BIG := big0 _ (List.mem_of_getElem? (i := 3) rfl)
theorem m4 : (Jvm.Cond.selects "MajorityClock" ({ cls := "MajorityClock", name := "isUsable", desc := "(LMajorityClock$Server;)Z" } : Jvm.MethodName) ({ cls := "MajorityClock", name := "isUsable", desc := "(LMajorityClock$Server;)Z" } : Jvm.MethodName)) ∈ BIG := big0 _ (List.mem_of_getElem? (i := 4) rfl)
theorem m5 : (Jvm.Cond.selects "MajorityClock$Election" ({ cls := "MajorityClock$Election", name := "put", desc := "(IIJJ)V" } : Jvm.MethodName) ({ cls := "MajorityClock$Election", name := "put", desc := "(IIJJ)V" } : Jvm.MethodName)) ∈ BIG := big0 _ (List.mem_of_getElem? (i := 5) rfl)
theorem m6 : (Jvm.Cond.selects "MajorityClock$Election" ({ cls := "MajorityClock$Election", name := "findHullOf", desc := "(I)Z" } : Jvm.MethodName) ({ cls := "MajorityClock$Election", name := "findHullOf", desc := "(I)Z" } : Jvm.MethodName)) ∈ BIG := big0 _ (List.mem_of_getElem? (i := 6) rfl)
theorem m7 : (Jvm.Cond.selects "MajorityClock$Election" ({ cls := "MajorityClock$Election", name := "intervalsAround", desc := "(J)I" } : Jvm.MethodName) ({ cls := "MajorityClock$Election", name := "intervalsAround", desc := "(J)I" } : Jvm.MethodName)) ∈ BIG := big0 _ (List.mem_of_getElem? (i := 7) rfl)
theorem m8 : (Jvm.Cond.selects "MajorityClock$Election" ({ cls := "MajorityClock$Election", name := "farthest", desc := "()I" } : Jvm.MethodName) ({ cls := "MajorityClock$Election", name := "farthest", desc := "()I" } : Jvm.MethodName)) ∈ BIG := big0 _ (List.mem_of_getElem? (i := 8) rfl)
theorem m9 : (Jvm.Cond.selects "MajorityClock$Election" ({ cls := "MajorityClock$Election", name := "distances", desc := "(I)J" } : Jvm.MethodName) ({ cls := "MajorityClock$Election", name := "distances", desc := "(I)J" } : Jvm.MethodName)) ∈ BIG := big0 _ (List.mem_of_getElem? (i := 9) rfl)
theorem m10 : (Jvm.Cond.selects "MajorityClock$Election" ({ cls := "MajorityClock$Election", name := "middle", desc := "(I)J" } : Jvm.MethodName) ({ cls := "MajorityClock$Election", name := "middle", desc := "(I)J" } : Jvm.MethodName)) ∈ BIG := big0 _ (List.mem_of_getElem? (i := 10) rfl)
theorem m11 : (Jvm.Cond.selects "MajorityClock$Election" ({ cls := "MajorityClock$Election", name := "remove", desc := "(I)V" } : Jvm.MethodName) ({ cls := "MajorityClock$Election", name := "remove", desc := "(I)V" } : Jvm.MethodName)) ∈ BIG := big0 _ (List.mem_of_getElem? (i := 11) rfl)
theorem m12 : (Jvm.Cond.selects "MajorityClock" ({ cls := "MajorityClock", name := "survivorsLeastStratum", desc := "()I" } : Jvm.MethodName) ({ cls := "MajorityClock", name := "survivorsLeastStratum", desc := "()I" } : Jvm.MethodName)) ∈ BIG := big0 _ (List.mem_of_getElem? (i := 12) rfl)
theorem m13 : (Jvm.Cond.selects "MajorityClock" ({ cls := "MajorityClock", name := "leaseOrNull", desc := "(I)LMajorityClock$Lease;" } : Jvm.MethodName) ({ cls := "MajorityClock", name := "leaseOrNull", desc := "(I)LMajorityClock$Lease;" } : Jvm.MethodName)) ∈ BIG := big0 _ (List.mem_of_getElem? (i := 13) rfl)
theorem m14 : (Jvm.Cond.selects "MajorityClock" ({ cls := "MajorityClock", name := "mayFollow", desc := "(LMajorityClock$Lease;IJ)Z" } : Jvm.MethodName) ({ cls := "MajorityClock", name := "mayFollow", desc := "(LMajorityClock$Lease;IJ)Z" } : Jvm.MethodName)) ∈ BIG := big0 _ (List.mem_of_getElem? (i := 14) rfl)
theorem m15 : (Jvm.Cond.selects "MajorityClock" ({ cls := "MajorityClock", name := "isOver", desc := "(LMajorityClock$Lease;)Z" } : Jvm.MethodName) ({ cls := "MajorityClock", name := "isOver", desc := "(LMajorityClock$Lease;)Z" } : Jvm.MethodName)) ∈ BIG := big0 _ (List.mem_of_getElem? (i := 15) rfl)
theorem m16 : (Jvm.Cond.selects "MajorityClockModel" ({ cls := "MajorityClockModel", name := "isServer", desc := "(I)Z" } : Jvm.MethodName) ({ cls := "MajorityClockModel", name := "isServer", desc := "(I)Z" } : Jvm.MethodName)) ∈ BIG := big0 _ (List.mem_of_getElem? (i := 16) rfl)
theorem m17 : (Jvm.Cond.selects "MajorityClockModel" ({ cls := "MajorityClockModel", name := "why", desc := "(IJJJI)I" } : Jvm.MethodName) ({ cls := "MajorityClockModel", name := "why", desc := "(IJJJI)I" } : Jvm.MethodName)) ∈ BIG := big0 _ (List.mem_of_getElem? (i := 17) rfl)
theorem m18 : (Jvm.Cond.selects "MajorityClockModel" ({ cls := "MajorityClockModel", name := "measure", desc := "(I)V" } : Jvm.MethodName) ({ cls := "MajorityClockModel", name := "measure", desc := "(I)V" } : Jvm.MethodName)) ∈ BIG := big0 _ (List.mem_of_getElem? (i := 18) rfl)
theorem m19 : (Jvm.Cond.selects "MajorityClockModel" ({ cls := "MajorityClockModel", name := "growth", desc := "(J)J" } : Jvm.MethodName) ({ cls := "MajorityClockModel", name := "growth", desc := "(J)J" } : Jvm.MethodName)) ∈ BIG := big0 _ (List.mem_of_getElem? (i := 19) rfl)
theorem m20 : (Jvm.Cond.selects "MajorityClockModel" ({ cls := "MajorityClockModel", name := "usable", desc := "(I)Z" } : Jvm.MethodName) ({ cls := "MajorityClockModel", name := "usable", desc := "(I)Z" } : Jvm.MethodName)) ∈ BIG := big0 _ (List.mem_of_getElem? (i := 20) rfl)
theorem m21 : (Jvm.Cond.selects "MajorityClockModel" ({ cls := "MajorityClockModel", name := "left", desc := "()I" } : Jvm.MethodName) ({ cls := "MajorityClockModel", name := "left", desc := "()I" } : Jvm.MethodName)) ∈ BIG := big0 _ (List.mem_of_getElem? (i := 21) rfl)
theorem m22 : (Jvm.Cond.selects "MajorityClockModel" ({ cls := "MajorityClockModel", name := "hullOf", desc := "(I)Z" } : Jvm.MethodName) ({ cls := "MajorityClockModel", name := "hullOf", desc := "(I)Z" } : Jvm.MethodName)) ∈ BIG := big0 _ (List.mem_of_getElem? (i := 22) rfl)
theorem m23 : (Jvm.Cond.selects "MajorityClockModel" ({ cls := "MajorityClockModel", name := "covering", desc := "(J)I" } : Jvm.MethodName) ({ cls := "MajorityClockModel", name := "covering", desc := "(J)I" } : Jvm.MethodName)) ∈ BIG := big0 _ (List.mem_of_getElem? (i := 23) rfl)
theorem m24 : (Jvm.Cond.selects "MajorityClockModel" ({ cls := "MajorityClockModel", name := "leave", desc := "()V" } : Jvm.MethodName) ({ cls := "MajorityClockModel", name := "leave", desc := "()V" } : Jvm.MethodName)) ∈ BIG := big0 _ (List.mem_of_getElem? (i := 24) rfl)
theorem m25 : (Jvm.Cond.selects "MajorityClockModel" ({ cls := "MajorityClockModel", name := "far", desc := "(I)J" } : Jvm.MethodName) ({ cls := "MajorityClockModel", name := "far", desc := "(I)J" } : Jvm.MethodName)) ∈ BIG := big0 _ (List.mem_of_getElem? (i := 25) rfl)
theorem m26 : (Jvm.Cond.selects "MajorityClockModel" ({ cls := "MajorityClockModel", name := "middle", desc := "(I)J" } : Jvm.MethodName) ({ cls := "MajorityClockModel", name := "middle", desc := "(I)J" } : Jvm.MethodName)) ∈ BIG := big0 _ (List.mem_of_getElem? (i := 26) rfl)
theorem m27 : (Jvm.Cond.selects "MajorityClockModel" ({ cls := "MajorityClockModel", name := "keep", desc := "(I)V" } : Jvm.MethodName) ({ cls := "MajorityClockModel", name := "keep", desc := "(I)V" } : Jvm.MethodName)) ∈ BIG := big0 _ (List.mem_of_getElem? (i := 27) rfl)
theorem m28 : (Jvm.Cond.selects "MajorityClockModel" ({ cls := "MajorityClockModel", name := "offset", desc := "()J" } : Jvm.MethodName) ({ cls := "MajorityClockModel", name := "offset", desc := "()J" } : Jvm.MethodName)) ∈ BIG := big0 _ (List.mem_of_getElem? (i := 28) rfl)
theorem m30 : (Jvm.Cond.initialized "MajorityClock") ∈ BIG := big0 _ (List.mem_of_getElem? (i := 30) rfl)
theorem m31 : (Jvm.Cond.initialized "java/lang/Math") ∈ BIG := big0 _ (List.mem_of_getElem? (i := 31) rfl)
theorem m32 : (Jvm.Cond.initialized "MajorityClock$Server") ∈ BIG := big0 _ (List.mem_of_getElem? (i := 32) rfl)
theorem m33 : (Jvm.Cond.initialized "MajorityClock$Lease") ∈ BIG := big0 _ (List.mem_of_getElem? (i := 33) rfl)
theorem m34 : (Jvm.Cond.initialized "MajorityClock$Election") ∈ BIG := big0 _ (List.mem_of_getElem? (i := 34) rfl)
theorem m35 : (Jvm.Cond.initialized "MajorityClock$Served") ∈ BIG := big0 _ (List.mem_of_getElem? (i := 35) rfl)
theorem m36 : (Jvm.Cond.initialized "MajorityClockModel") ∈ BIG := big0 _ (List.mem_of_getElem? (i := 36) rfl)
theorem m42 : (Jvm.Cond.methodLink "MajorityClock" (1 : Nat) ({ cls := "java/lang/Object", name := "<init>", desc := "()V" } : Jvm.MethodName)) ∈ BIG := big0 _ (List.mem_of_getElem? (i := 42) rfl)
theorem m43 : (Jvm.Cond.instanceMethod ({ cls := "java/lang/Object", name := "<init>", desc := "()V" } : Jvm.MethodName)) ∈ BIG := big0 _ (List.mem_of_getElem? (i := 43) rfl)
theorem m44 : (Jvm.Cond.code ({ cls := "java/lang/Object", name := "<init>", desc := "()V" } : Jvm.MethodName) object_method_1_code (1 : Nat) (Option.none : Option Jvm.ClassFile.FieldType)) ∈ BIG := big0 _ (List.mem_of_getElem? (i := 44) rfl)
theorem m45 : (Jvm.Cond.constantLong "MajorityClock" (7 : Nat) (-1 : Int64)) ∈ BIG := big0 _ (List.mem_of_getElem? (i := 45) rfl)
theorem m46 : (Jvm.Cond.methodLink "MajorityClock" (15 : Nat) ({ cls := "java/lang/Math", name := "max", desc := "(II)I" } : Jvm.MethodName)) ∈ BIG := big0 _ (List.mem_of_getElem? (i := 46) rfl)
theorem m47 : (Jvm.Cond.static ({ cls := "java/lang/Math", name := "max", desc := "(II)I" } : Jvm.MethodName)) ∈ BIG := big0 _ (List.mem_of_getElem? (i := 47) rfl)
theorem m48 : (Jvm.Cond.code ({ cls := "java/lang/Math", name := "max", desc := "(II)I" } : Jvm.MethodName) prog_8_method_65_code (2 : Nat) (Option.some Jvm.ClassFile.FieldType.int)) ∈ BIG := big0 _ (List.mem_of_getElem? (i := 48) rfl)
theorem m49 : (Jvm.Cond.methodLink "MajorityClock" (21 : Nat) ({ cls := "java/lang/Math", name := "min", desc := "(II)I" } : Jvm.MethodName)) ∈ BIG := big0 _ (List.mem_of_getElem? (i := 49) rfl)
theorem m50 : (Jvm.Cond.static ({ cls := "java/lang/Math", name := "min", desc := "(II)I" } : Jvm.MethodName)) ∈ BIG := big1 _ (List.mem_of_getElem? (i := 0) rfl)
theorem m51 : (Jvm.Cond.code ({ cls := "java/lang/Math", name := "min", desc := "(II)I" } : Jvm.MethodName) prog_8_method_69_code (2 : Nat) (Option.some Jvm.ClassFile.FieldType.int)) ∈ BIG := big1 _ (List.mem_of_getElem? (i := 1) rfl)
theorem m52 : (Jvm.Cond.classLink "MajorityClock" (31 : Nat) "MajorityClock$Server") ∈ BIG := big1 _ (List.mem_of_getElem? (i := 2) rfl)
theorem m53 : (Jvm.Cond.instantiable "MajorityClock$Server" (12 : Nat)) ∈ BIG := big1 _ (List.mem_of_getElem? (i := 3) rfl)
theorem m54 : (Jvm.Cond.instanceMethod ({ cls := "MajorityClock$Server", name := "<init>", desc := "()V" } : Jvm.MethodName)) ∈ BIG := big1 _ (List.mem_of_getElem? (i := 4) rfl)
theorem m55 : (Jvm.Cond.code ({ cls := "MajorityClock$Server", name := "<init>", desc := "()V" } : Jvm.MethodName) prog_5_method_1_code (1 : Nat) (Option.none : Option Jvm.ClassFile.FieldType)) ∈ BIG := big1 _ (List.mem_of_getElem? (i := 5) rfl)
theorem m56 : (Jvm.Cond.methodLink "MajorityClock$Server" (3 : Nat) ({ cls := "java/lang/Object", name := "<init>", desc := "()V" } : Jvm.MethodName)) ∈ BIG := big1 _ (List.mem_of_getElem? (i := 6) rfl)
theorem m57 : (Jvm.Cond.fieldLink "MajorityClock" (67 : Nat) "MajorityClock$Server" "secret" "J") ∈ BIG := big1 _ (List.mem_of_getElem? (i := 7) rfl)
theorem m58 : (Jvm.Cond.fieldLink "MajorityClock$Server" (25 : Nat) "MajorityClock$Server" "pending" "Z") ∈ BIG := big1 _ (List.mem_of_getElem? (i := 8) rfl)
theorem m59 : (Jvm.Cond.fieldLink "MajorityClock$Server" (29 : Nat) "MajorityClock$Server" "pendingStamp" "J") ∈ BIG := big1 _ (List.mem_of_getElem? (i := 9) rfl)
theorem m60 : (Jvm.Cond.fieldLink "MajorityClock$Server" (33 : Nat) "MajorityClock$Server" "pendingSince" "J") ∈ BIG := big1 _ (List.mem_of_getElem? (i := 10) rfl)
theorem m61 : (Jvm.Cond.fieldLink "MajorityClock" (93 : Nat) "MajorityClock$Server" "pendingSince" "J") ∈ BIG := big1 _ (List.mem_of_getElem? (i := 11) rfl)
theorem m62 : (Jvm.Cond.fieldLink "MajorityClock$Server" (39 : Nat) "MajorityClock$Server" "acceptedOrigin" "J") ∈ BIG := big1 _ (List.mem_of_getElem? (i := 12) rfl)
theorem m63 : (Jvm.Cond.fieldLink "MajorityClock$Server" (9 : Nat) "MajorityClock$Server" "toldStratum" "I") ∈ BIG := big1 _ (List.mem_of_getElem? (i := 13) rfl)
theorem m64 : (Jvm.Cond.fieldLink "MajorityClock" (103 : Nat) "MajorityClock$Server" "toldStratum" "I") ∈ BIG := big1 _ (List.mem_of_getElem? (i := 14) rfl)
theorem m65 : (Jvm.Cond.fieldLink "MajorityClock" (106 : Nat) "MajorityClock$Server" "toldReference" "I") ∈ BIG := big1 _ (List.mem_of_getElem? (i := 15) rfl)
theorem m66 : (Jvm.Cond.fieldLink "MajorityClock" (109 : Nat) "MajorityClock$Server" "toldRoot" "I") ∈ BIG := big1 _ (List.mem_of_getElem? (i := 16) rfl)
theorem m67 : (Jvm.Cond.fieldLink "MajorityClock$Server" (61 : Nat) "MajorityClock$Server" "toldRoot" "I") ∈ BIG := big1 _ (List.mem_of_getElem? (i := 17) rfl)
theorem m68 : (Jvm.Cond.fieldLink "MajorityClock$Server" (36 : Nat) "MajorityClock$Server" "samples" "I") ∈ BIG := big1 _ (List.mem_of_getElem? (i := 18) rfl)
theorem m69 : (Jvm.Cond.fieldLink "MajorityClock" (100 : Nat) "MajorityClock$Server" "samples" "I") ∈ BIG := big1 _ (List.mem_of_getElem? (i := 19) rfl)
theorem m70 : (Jvm.Cond.fieldLink "MajorityClock$Server" (15 : Nat) "MajorityClock$Server" "lowEnds" "[J") ∈ BIG := big1 _ (List.mem_of_getElem? (i := 20) rfl)
theorem m71 : (Jvm.Cond.fieldLink "MajorityClock$Server" (19 : Nat) "MajorityClock$Server" "highEnds" "[J") ∈ BIG := big1 _ (List.mem_of_getElem? (i := 21) rfl)
theorem m72 : (Jvm.Cond.fieldLink "MajorityClock$Server" (22 : Nat) "MajorityClock$Server" "times" "[J") ∈ BIG := big1 _ (List.mem_of_getElem? (i := 22) rfl)
theorem m85 : (Jvm.Cond.arrayClass Jvm.ClassFile.FieldType.long) ∈ BIG := big1 _ (List.mem_of_getElem? (i := 35) rfl)
theorem m86 : (Jvm.Cond.classLink "MajorityClock" (38 : Nat) "MajorityClock$Lease") ∈ BIG := big1 _ (List.mem_of_getElem? (i := 36) rfl)
theorem m87 : (Jvm.Cond.instantiable "MajorityClock$Lease" (3 : Nat)) ∈ BIG := big1 _ (List.mem_of_getElem? (i := 37) rfl)
theorem m88 : (Jvm.Cond.instanceMethod ({ cls := "MajorityClock$Lease", name := "<init>", desc := "()V" } : Jvm.MethodName)) ∈ BIG := big1 _ (List.mem_of_getElem? (i := 38) rfl)
theorem m89 : (Jvm.Cond.code ({ cls := "MajorityClock$Lease", name := "<init>", desc := "()V" } : Jvm.MethodName) prog_3_method_1_code (1 : Nat) (Option.none : Option Jvm.ClassFile.FieldType)) ∈ BIG := big1 _ (List.mem_of_getElem? (i := 39) rfl)
theorem m90 : (Jvm.Cond.methodLink "MajorityClock$Lease" (1 : Nat) ({ cls := "java/lang/Object", name := "<init>", desc := "()V" } : Jvm.MethodName)) ∈ BIG := big1 _ (List.mem_of_getElem? (i := 40) rfl)
theorem m91 : (Jvm.Cond.fieldLink "MajorityClock$Lease" (7 : Nat) "MajorityClock$Lease" "granted" "Z") ∈ BIG := big1 _ (List.mem_of_getElem? (i := 41) rfl)
theorem m92 : (Jvm.Cond.fieldLink "MajorityClock" (185 : Nat) "MajorityClock$Lease" "granted" "Z") ∈ BIG := big1 _ (List.mem_of_getElem? (i := 42) rfl)
theorem m93 : (Jvm.Cond.fieldLink "MajorityClock$Lease" (13 : Nat) "MajorityClock$Lease" "owner" "I") ∈ BIG := big1 _ (List.mem_of_getElem? (i := 43) rfl)
theorem m94 : (Jvm.Cond.fieldLink "MajorityClock" (196 : Nat) "MajorityClock$Lease" "owner" "I") ∈ BIG := big1 _ (List.mem_of_getElem? (i := 44) rfl)
theorem m95 : (Jvm.Cond.fieldLink "MajorityClock$Lease" (17 : Nat) "MajorityClock$Lease" "until" "J") ∈ BIG := big1 _ (List.mem_of_getElem? (i := 45) rfl)
theorem m96 : (Jvm.Cond.fieldLink "MajorityClock" (205 : Nat) "MajorityClock$Lease" "until" "J") ∈ BIG := big1 _ (List.mem_of_getElem? (i := 46) rfl)
theorem m100 : (Jvm.Cond.classLink "MajorityClock" (45 : Nat) "MajorityClock$Election") ∈ BIG := big2 _ (List.mem_of_getElem? (i := 0) rfl)
theorem m101 : (Jvm.Cond.instantiable "MajorityClock$Election" (6 : Nat)) ∈ BIG := big2 _ (List.mem_of_getElem? (i := 1) rfl)
theorem m102 : (Jvm.Cond.instanceMethod ({ cls := "MajorityClock$Election", name := "<init>", desc := "()V" } : Jvm.MethodName)) ∈ BIG := big2 _ (List.mem_of_getElem? (i := 2) rfl)
theorem m103 : (Jvm.Cond.code ({ cls := "MajorityClock$Election", name := "<init>", desc := "()V" } : Jvm.MethodName) prog_2_method_1_code (1 : Nat) (Option.none : Option Jvm.ClassFile.FieldType)) ∈ BIG := big2 _ (List.mem_of_getElem? (i := 3) rfl)
theorem m104 : (Jvm.Cond.methodLink "MajorityClock$Election" (3 : Nat) ({ cls := "java/lang/Object", name := "<init>", desc := "()V" } : Jvm.MethodName)) ∈ BIG := big2 _ (List.mem_of_getElem? (i := 4) rfl)
theorem m105 : (Jvm.Cond.fieldLink "MajorityClock$Election" (22 : Nat) "MajorityClock$Election" "count" "I") ∈ BIG := big2 _ (List.mem_of_getElem? (i := 5) rfl)
theorem m106 : (Jvm.Cond.fieldLink "MajorityClock" (126 : Nat) "MajorityClock$Election" "count" "I") ∈ BIG := big2 _ (List.mem_of_getElem? (i := 6) rfl)
theorem m107 : (Jvm.Cond.fieldLink "MajorityClock$Election" (9 : Nat) "MajorityClock$Election" "numbers" "[I") ∈ BIG := big2 _ (List.mem_of_getElem? (i := 7) rfl)
theorem m108 : (Jvm.Cond.fieldLink "MajorityClock" (224 : Nat) "MajorityClock$Election" "numbers" "[I") ∈ BIG := big2 _ (List.mem_of_getElem? (i := 8) rfl)
theorem m109 : (Jvm.Cond.fieldLink "MajorityClock$Election" (15 : Nat) "MajorityClock$Election" "lows" "[J") ∈ BIG := big2 _ (List.mem_of_getElem? (i := 9) rfl)
theorem m110 : (Jvm.Cond.fieldLink "MajorityClock$Election" (19 : Nat) "MajorityClock$Election" "highs" "[J") ∈ BIG := big2 _ (List.mem_of_getElem? (i := 10) rfl)
theorem m111 : (Jvm.Cond.fieldLink "MajorityClock$Served" (33 : Nat) "MajorityClock$Election" "hullLow" "J") ∈ BIG := big2 _ (List.mem_of_getElem? (i := 11) rfl)
theorem m112 : (Jvm.Cond.fieldLink "MajorityClock$Election" (53 : Nat) "MajorityClock$Election" "hullLow" "J") ∈ BIG := big2 _ (List.mem_of_getElem? (i := 12) rfl)
theorem m113 : (Jvm.Cond.fieldLink "MajorityClock$Served" (39 : Nat) "MajorityClock$Election" "hullHigh" "J") ∈ BIG := big2 _ (List.mem_of_getElem? (i := 13) rfl)
theorem m114 : (Jvm.Cond.fieldLink "MajorityClock$Election" (57 : Nat) "MajorityClock$Election" "hullHigh" "J") ∈ BIG := big2 _ (List.mem_of_getElem? (i := 14) rfl)
theorem m121 : (Jvm.Cond.arrayClass Jvm.ClassFile.FieldType.int) ∈ BIG := big2 _ (List.mem_of_getElem? (i := 21) rfl)
theorem m122 : (Jvm.Cond.classLink "MajorityClock" (52 : Nat) "MajorityClock$Served") ∈ BIG := big2 _ (List.mem_of_getElem? (i := 22) rfl)
theorem m123 : (Jvm.Cond.instantiable "MajorityClock$Served" (9 : Nat)) ∈ BIG := big2 _ (List.mem_of_getElem? (i := 23) rfl)
theorem m124 : (Jvm.Cond.instanceMethod ({ cls := "MajorityClock$Served", name := "<init>", desc := "()V" } : Jvm.MethodName)) ∈ BIG := big2 _ (List.mem_of_getElem? (i := 24) rfl)
theorem m125 : (Jvm.Cond.code ({ cls := "MajorityClock$Served", name := "<init>", desc := "()V" } : Jvm.MethodName) prog_4_method_1_code (1 : Nat) (Option.none : Option Jvm.ClassFile.FieldType)) ∈ BIG := big2 _ (List.mem_of_getElem? (i := 25) rfl)
theorem m126 : (Jvm.Cond.methodLink "MajorityClock$Served" (3 : Nat) ({ cls := "java/lang/Object", name := "<init>", desc := "()V" } : Jvm.MethodName)) ∈ BIG := big2 _ (List.mem_of_getElem? (i := 26) rfl)
theorem m127 : (Jvm.Cond.fieldLink "MajorityClock$Served" (15 : Nat) "MajorityClock$Served" "started" "Z") ∈ BIG := big2 _ (List.mem_of_getElem? (i := 27) rfl)
theorem m128 : (Jvm.Cond.fieldLink "MajorityClock" (157 : Nat) "MajorityClock$Served" "started" "Z") ∈ BIG := big2 _ (List.mem_of_getElem? (i := 28) rfl)
theorem m129 : (Jvm.Cond.fieldLink "MajorityClock$Served" (30 : Nat) "MajorityClock$Served" "since" "J") ∈ BIG := big2 _ (List.mem_of_getElem? (i := 29) rfl)
theorem m130 : (Jvm.Cond.fieldLink "MajorityClock$Served" (23 : Nat) "MajorityClock$Served" "startCorrection" "J") ∈ BIG := big2 _ (List.mem_of_getElem? (i := 30) rfl)
theorem m131 : (Jvm.Cond.fieldLink "MajorityClock$Served" (27 : Nat) "MajorityClock$Served" "target" "J") ∈ BIG := big2 _ (List.mem_of_getElem? (i := 31) rfl)
theorem m132 : (Jvm.Cond.fieldLink "MajorityClock$Served" (49 : Nat) "MajorityClock$Served" "error" "J") ∈ BIG := big2 _ (List.mem_of_getElem? (i := 32) rfl)
theorem m133 : (Jvm.Cond.fieldLink "MajorityClock$Served" (38 : Nat) "MajorityClock$Served" "hullLow" "J") ∈ BIG := big2 _ (List.mem_of_getElem? (i := 33) rfl)
theorem m134 : (Jvm.Cond.fieldLink "MajorityClock" (164 : Nat) "MajorityClock$Served" "hullLow" "J") ∈ BIG := big2 _ (List.mem_of_getElem? (i := 34) rfl)
theorem m135 : (Jvm.Cond.fieldLink "MajorityClock$Served" (42 : Nat) "MajorityClock$Served" "hullHigh" "J") ∈ BIG := big2 _ (List.mem_of_getElem? (i := 35) rfl)
theorem m136 : (Jvm.Cond.fieldLink "MajorityClock" (161 : Nat) "MajorityClock$Served" "hullHigh" "J") ∈ BIG := big2 _ (List.mem_of_getElem? (i := 36) rfl)
theorem m137 : (Jvm.Cond.fieldLink "MajorityClock$Served" (56 : Nat) "MajorityClock$Served" "survivorBits" "I") ∈ BIG := big2 _ (List.mem_of_getElem? (i := 37) rfl)
theorem m138 : (Jvm.Cond.fieldLink "MajorityClock" (154 : Nat) "MajorityClock$Served" "survivorBits" "I") ∈ BIG := big2 _ (List.mem_of_getElem? (i := 38) rfl)
theorem m139 : (Jvm.Cond.fieldLink "MajorityClock$Served" (9 : Nat) "MajorityClock$Served" "ownStratum" "I") ∈ BIG := big2 _ (List.mem_of_getElem? (i := 39) rfl)
theorem m140 : (Jvm.Cond.fieldLink "MajorityClock" (167 : Nat) "MajorityClock$Served" "ownStratum" "I") ∈ BIG := big2 _ (List.mem_of_getElem? (i := 40) rfl)
theorem m150 : (Jvm.Cond.fieldLink "MajorityClock" (33 : Nat) "MajorityClock" "servers" "[LMajorityClock$Server;") ∈ BIG := big3 _ (List.mem_of_getElem? (i := 0) rfl)
theorem m151 : (Jvm.Cond.fieldLink "MajorityClock" (40 : Nat) "MajorityClock" "leases" "[LMajorityClock$Lease;") ∈ BIG := big3 _ (List.mem_of_getElem? (i := 1) rfl)
theorem m152 : (Jvm.Cond.fieldLink "MajorityClock" (48 : Nat) "MajorityClock" "election" "LMajorityClock$Election;") ∈ BIG := big3 _ (List.mem_of_getElem? (i := 2) rfl)
theorem m153 : (Jvm.Cond.fieldLink "MajorityClock" (55 : Nat) "MajorityClock" "served" "LMajorityClock$Served;") ∈ BIG := big3 _ (List.mem_of_getElem? (i := 3) rfl)
theorem m154 : (Jvm.Cond.fieldLink "MajorityClock" (24 : Nat) "MajorityClock" "drift" "I") ∈ BIG := big3 _ (List.mem_of_getElem? (i := 4) rfl)
theorem m155 : (Jvm.Cond.fieldLink "MajorityClock" (28 : Nat) "MajorityClock" "self" "I") ∈ BIG := big3 _ (List.mem_of_getElem? (i := 5) rfl)
theorem m156 : (Jvm.Cond.fieldLink "MajorityClock" (60 : Nat) "MajorityClock" "now" "J") ∈ BIG := big3 _ (List.mem_of_getElem? (i := 6) rfl)
theorem m157 : (Jvm.Cond.fieldLink "MajorityClock" (9 : Nat) "MajorityClock" "latestStamp" "J") ∈ BIG := big3 _ (List.mem_of_getElem? (i := 7) rfl)
theorem m170 : (Jvm.Cond.constant "MajorityClock" (59 : Nat) (1000000 : Int32)) ∈ BIG := big3 _ (List.mem_of_getElem? (i := 20) rfl)
theorem m179 : (Jvm.Cond.methodLink "MajorityClock" (63 : Nat) ({ cls := "MajorityClock", name := "serverOrNull", desc := "(I)LMajorityClock$Server;" } : Jvm.MethodName)) ∈ BIG := big3 _ (List.mem_of_getElem? (i := 29) rfl)
theorem m180 : (Jvm.Cond.instanceMethod ({ cls := "MajorityClock", name := "serverOrNull", desc := "(I)LMajorityClock$Server;" } : Jvm.MethodName)) ∈ BIG := big3 _ (List.mem_of_getElem? (i := 30) rfl)
theorem m181 : (Jvm.Cond.code ({ cls := "MajorityClock", name := "serverOrNull", desc := "(I)LMajorityClock$Server;" } : Jvm.MethodName) prog_1_method_21_code (2 : Nat) (Option.some (Jvm.ClassFile.FieldType.object "MajorityClock$Server"))) ∈ BIG := big3 _ (List.mem_of_getElem? (i := 31) rfl)
theorem m186 : (Jvm.Cond.methodLink "MajorityClock" (70 : Nat) ({ cls := "MajorityClock", name := "sealUnder", desc := "(JJJJ)I" } : Jvm.MethodName)) ∈ BIG := big3 _ (List.mem_of_getElem? (i := 36) rfl)
theorem m187 : (Jvm.Cond.static ({ cls := "MajorityClock", name := "sealUnder", desc := "(JJJJ)I" } : Jvm.MethodName)) ∈ BIG := big3 _ (List.mem_of_getElem? (i := 37) rfl)
theorem m188 : (Jvm.Cond.code ({ cls := "MajorityClock", name := "sealUnder", desc := "(JJJJ)I" } : Jvm.MethodName) prog_1_method_29_code (10 : Nat) (Option.some Jvm.ClassFile.FieldType.int)) ∈ BIG := big3 _ (List.mem_of_getElem? (i := 38) rfl)
theorem m189 : (Jvm.Cond.methodLink "MajorityClock" (235 : Nat) ({ cls := "MajorityClock", name := "mixed", desc := "(JJ)J" } : Jvm.MethodName)) ∈ BIG := big3 _ (List.mem_of_getElem? (i := 39) rfl)
theorem m190 : (Jvm.Cond.static ({ cls := "MajorityClock", name := "mixed", desc := "(JJ)J" } : Jvm.MethodName)) ∈ BIG := big3 _ (List.mem_of_getElem? (i := 40) rfl)
theorem m191 : (Jvm.Cond.code ({ cls := "MajorityClock", name := "mixed", desc := "(JJ)J" } : Jvm.MethodName) prog_1_method_30_code (6 : Nat) (Option.some Jvm.ClassFile.FieldType.long)) ∈ BIG := big3 _ (List.mem_of_getElem? (i := 41) rfl)
theorem m192 : (Jvm.Cond.constantLong "MajorityClock" (238 : Nat) (-7046029254386353131 : Int64)) ∈ BIG := big3 _ (List.mem_of_getElem? (i := 42) rfl)
theorem m197 : (Jvm.Cond.constantLong "MajorityClock" (74 : Nat) (-4611686018427387904 : Int64)) ∈ BIG := big3 _ (List.mem_of_getElem? (i := 47) rfl)
theorem m198 : (Jvm.Cond.methodLink "MajorityClock" (76 : Nat) ({ cls := "java/lang/Math", name := "max", desc := "(JJ)J" } : Jvm.MethodName)) ∈ BIG := big3 _ (List.mem_of_getElem? (i := 48) rfl)
theorem m199 : (Jvm.Cond.static ({ cls := "java/lang/Math", name := "max", desc := "(JJ)J" } : Jvm.MethodName)) ∈ BIG := big3 _ (List.mem_of_getElem? (i := 49) rfl)
theorem m200 : (Jvm.Cond.code ({ cls := "java/lang/Math", name := "max", desc := "(JJ)J" } : Jvm.MethodName) prog_8_method_66_code (4 : Nat) (Option.some Jvm.ClassFile.FieldType.long)) ∈ BIG := big4 _ (List.mem_of_getElem? (i := 0) rfl)
theorem m201 : (Jvm.Cond.methodLink "MajorityClock" (79 : Nat) ({ cls := "MajorityClock$Server", name := "expectReply", desc := "(JJ)V" } : Jvm.MethodName)) ∈ BIG := big4 _ (List.mem_of_getElem? (i := 1) rfl)
theorem m202 : (Jvm.Cond.instanceMethod ({ cls := "MajorityClock$Server", name := "expectReply", desc := "(JJ)V" } : Jvm.MethodName)) ∈ BIG := big4 _ (List.mem_of_getElem? (i := 2) rfl)
theorem m203 : (Jvm.Cond.selects "MajorityClock$Server" ({ cls := "MajorityClock$Server", name := "expectReply", desc := "(JJ)V" } : Jvm.MethodName) ({ cls := "MajorityClock$Server", name := "expectReply", desc := "(JJ)V" } : Jvm.MethodName)) ∈ BIG := big4 _ (List.mem_of_getElem? (i := 3) rfl)
theorem m204 : (Jvm.Cond.code ({ cls := "MajorityClock$Server", name := "expectReply", desc := "(JJ)V" } : Jvm.MethodName) prog_5_method_2_code (5 : Nat) (Option.none : Option Jvm.ClassFile.FieldType)) ∈ BIG := big4 _ (List.mem_of_getElem? (i := 4) rfl)
theorem m209 : (Jvm.Cond.methodLink "MajorityClock" (83 : Nat) ({ cls := "MajorityClock", name := "isReplyTime", desc := "(J)Z" } : Jvm.MethodName)) ∈ BIG := big4 _ (List.mem_of_getElem? (i := 9) rfl)
theorem m210 : (Jvm.Cond.static ({ cls := "MajorityClock", name := "isReplyTime", desc := "(J)Z" } : Jvm.MethodName)) ∈ BIG := big4 _ (List.mem_of_getElem? (i := 10) rfl)
theorem m211 : (Jvm.Cond.code ({ cls := "MajorityClock", name := "isReplyTime", desc := "(J)Z" } : Jvm.MethodName) prog_1_method_28_code (2 : Nat) (Option.some Jvm.ClassFile.FieldType.boolean)) ∈ BIG := big4 _ (List.mem_of_getElem? (i := 11) rfl)
theorem m212 : (Jvm.Cond.constantLong "MajorityClock" (199 : Nat) (1099511627776 : Int64)) ∈ BIG := big4 _ (List.mem_of_getElem? (i := 12) rfl)
theorem m213 : (Jvm.Cond.methodLink "MajorityClock" (87 : Nat) ({ cls := "MajorityClock$Server", name := "acceptedLast", desc := "(J)Z" } : Jvm.MethodName)) ∈ BIG := big4 _ (List.mem_of_getElem? (i := 13) rfl)
theorem m214 : (Jvm.Cond.instanceMethod ({ cls := "MajorityClock$Server", name := "acceptedLast", desc := "(J)Z" } : Jvm.MethodName)) ∈ BIG := big4 _ (List.mem_of_getElem? (i := 14) rfl)
theorem m215 : (Jvm.Cond.selects "MajorityClock$Server" ({ cls := "MajorityClock$Server", name := "acceptedLast", desc := "(J)Z" } : Jvm.MethodName) ({ cls := "MajorityClock$Server", name := "acceptedLast", desc := "(J)Z" } : Jvm.MethodName)) ∈ BIG := big4 _ (List.mem_of_getElem? (i := 15) rfl)
theorem m216 : (Jvm.Cond.code ({ cls := "MajorityClock$Server", name := "acceptedLast", desc := "(J)Z" } : Jvm.MethodName) prog_5_method_3_code (3 : Nat) (Option.some Jvm.ClassFile.FieldType.boolean)) ∈ BIG := big4 _ (List.mem_of_getElem? (i := 16) rfl)
theorem m217 : (Jvm.Cond.methodLink "MajorityClock" (90 : Nat) ({ cls := "MajorityClock$Server", name := "expects", desc := "(J)Z" } : Jvm.MethodName)) ∈ BIG := big4 _ (List.mem_of_getElem? (i := 17) rfl)
theorem m218 : (Jvm.Cond.instanceMethod ({ cls := "MajorityClock$Server", name := "expects", desc := "(J)Z" } : Jvm.MethodName)) ∈ BIG := big4 _ (List.mem_of_getElem? (i := 18) rfl)
theorem m219 : (Jvm.Cond.selects "MajorityClock$Server" ({ cls := "MajorityClock$Server", name := "expects", desc := "(J)Z" } : Jvm.MethodName) ({ cls := "MajorityClock$Server", name := "expects", desc := "(J)Z" } : Jvm.MethodName)) ∈ BIG := big4 _ (List.mem_of_getElem? (i := 19) rfl)
theorem m220 : (Jvm.Cond.code ({ cls := "MajorityClock$Server", name := "expects", desc := "(J)Z" } : Jvm.MethodName) prog_5_method_4_code (3 : Nat) (Option.some Jvm.ClassFile.FieldType.boolean)) ∈ BIG := big4 _ (List.mem_of_getElem? (i := 20) rfl)
theorem m221 : (Jvm.Cond.methodLink "MajorityClock" (96 : Nat) ({ cls := "MajorityClock$Server", name := "accept", desc := "(JJJJ)V" } : Jvm.MethodName)) ∈ BIG := big4 _ (List.mem_of_getElem? (i := 21) rfl)
theorem m222 : (Jvm.Cond.instanceMethod ({ cls := "MajorityClock$Server", name := "accept", desc := "(JJJJ)V" } : Jvm.MethodName)) ∈ BIG := big4 _ (List.mem_of_getElem? (i := 22) rfl)
theorem m223 : (Jvm.Cond.selects "MajorityClock$Server" ({ cls := "MajorityClock$Server", name := "accept", desc := "(JJJJ)V" } : Jvm.MethodName) ({ cls := "MajorityClock$Server", name := "accept", desc := "(JJJJ)V" } : Jvm.MethodName)) ∈ BIG := big4 _ (List.mem_of_getElem? (i := 23) rfl)
theorem m224 : (Jvm.Cond.code ({ cls := "MajorityClock$Server", name := "accept", desc := "(JJJJ)V" } : Jvm.MethodName) prog_5_method_5_code (9 : Nat) (Option.none : Option Jvm.ClassFile.FieldType)) ∈ BIG := big4 _ (List.mem_of_getElem? (i := 24) rfl)
theorem m225 : (Jvm.Cond.methodLink "MajorityClock$Server" (42 : Nat) ({ cls := "MajorityClock$Server", name := "makeRoomForSample", desc := "()V" } : Jvm.MethodName)) ∈ BIG := big4 _ (List.mem_of_getElem? (i := 25) rfl)
theorem m226 : (Jvm.Cond.instanceMethod ({ cls := "MajorityClock$Server", name := "makeRoomForSample", desc := "()V" } : Jvm.MethodName)) ∈ BIG := big4 _ (List.mem_of_getElem? (i := 26) rfl)
theorem m227 : (Jvm.Cond.code ({ cls := "MajorityClock$Server", name := "makeRoomForSample", desc := "()V" } : Jvm.MethodName) prog_5_method_6_code (2 : Nat) (Option.none : Option Jvm.ClassFile.FieldType)) ∈ BIG := big4 _ (List.mem_of_getElem? (i := 27) rfl)
theorem m228 : (Jvm.Cond.methodLink "MajorityClock$Server" (45 : Nat) ({ cls := "java/lang/Math", name := "min", desc := "(II)I" } : Jvm.MethodName)) ∈ BIG := big4 _ (List.mem_of_getElem? (i := 28) rfl)
theorem m237 : (Jvm.Cond.methodLink "MajorityClock" (112 : Nat) ({ cls := "MajorityClock$Server", name := "shortestSample", desc := "(JI)I" } : Jvm.MethodName)) ∈ BIG := big4 _ (List.mem_of_getElem? (i := 37) rfl)
theorem m238 : (Jvm.Cond.instanceMethod ({ cls := "MajorityClock$Server", name := "shortestSample", desc := "(JI)I" } : Jvm.MethodName)) ∈ BIG := big4 _ (List.mem_of_getElem? (i := 38) rfl)
theorem m239 : (Jvm.Cond.selects "MajorityClock$Server" ({ cls := "MajorityClock$Server", name := "shortestSample", desc := "(JI)I" } : Jvm.MethodName) ({ cls := "MajorityClock$Server", name := "shortestSample", desc := "(JI)I" } : Jvm.MethodName)) ∈ BIG := big4 _ (List.mem_of_getElem? (i := 39) rfl)
theorem m240 : (Jvm.Cond.code ({ cls := "MajorityClock$Server", name := "shortestSample", desc := "(JI)I" } : Jvm.MethodName) prog_5_method_8_code (6 : Nat) (Option.some Jvm.ClassFile.FieldType.int)) ∈ BIG := big4 _ (List.mem_of_getElem? (i := 40) rfl)
theorem m241 : (Jvm.Cond.methodLink "MajorityClock$Server" (51 : Nat) ({ cls := "MajorityClock$Server", name := "lengthOf", desc := "(IJI)J" } : Jvm.MethodName)) ∈ BIG := big4 _ (List.mem_of_getElem? (i := 41) rfl)
theorem m242 : (Jvm.Cond.instanceMethod ({ cls := "MajorityClock$Server", name := "lengthOf", desc := "(IJI)J" } : Jvm.MethodName)) ∈ BIG := big4 _ (List.mem_of_getElem? (i := 42) rfl)
theorem m243 : (Jvm.Cond.code ({ cls := "MajorityClock$Server", name := "lengthOf", desc := "(IJI)J" } : Jvm.MethodName) prog_5_method_9_code (5 : Nat) (Option.some Jvm.ClassFile.FieldType.long)) ∈ BIG := big4 _ (List.mem_of_getElem? (i := 43) rfl)
theorem m244 : (Jvm.Cond.methodLink "MajorityClock$Server" (55 : Nat) ({ cls := "MajorityClock$Server", name := "upperEnd", desc := "(IJI)J" } : Jvm.MethodName)) ∈ BIG := big4 _ (List.mem_of_getElem? (i := 44) rfl)
theorem m245 : (Jvm.Cond.instanceMethod ({ cls := "MajorityClock$Server", name := "upperEnd", desc := "(IJI)J" } : Jvm.MethodName)) ∈ BIG := big4 _ (List.mem_of_getElem? (i := 45) rfl)
theorem m246 : (Jvm.Cond.selects "MajorityClock$Server" ({ cls := "MajorityClock$Server", name := "upperEnd", desc := "(IJI)J" } : Jvm.MethodName) ({ cls := "MajorityClock$Server", name := "upperEnd", desc := "(IJI)J" } : Jvm.MethodName)) ∈ BIG := big4 _ (List.mem_of_getElem? (i := 46) rfl)
theorem m247 : (Jvm.Cond.code ({ cls := "MajorityClock$Server", name := "upperEnd", desc := "(IJI)J" } : Jvm.MethodName) prog_5_method_11_code (5 : Nat) (Option.some Jvm.ClassFile.FieldType.long)) ∈ BIG := big4 _ (List.mem_of_getElem? (i := 47) rfl)
theorem m248 : (Jvm.Cond.static ({ cls := "MajorityClock", name := "growth", desc := "(JI)J" } : Jvm.MethodName)) ∈ BIG := big4 _ (List.mem_of_getElem? (i := 48) rfl)
theorem m249 : (Jvm.Cond.code ({ cls := "MajorityClock", name := "growth", desc := "(JI)J" } : Jvm.MethodName) prog_1_method_31_code (3 : Nat) (Option.some Jvm.ClassFile.FieldType.long)) ∈ BIG := big4 _ (List.mem_of_getElem? (i := 49) rfl)
theorem m250 : (Jvm.Cond.constantLong "MajorityClock" (211 : Nat) (1000000 : Int64)) ∈ BIG := big5 _ (List.mem_of_getElem? (i := 0) rfl)
theorem m251 : (Jvm.Cond.methodLink "MajorityClock" (240 : Nat) ({ cls := "java/lang/Math", name := "floorDiv", desc := "(JJ)J" } : Jvm.MethodName)) ∈ BIG := big5 _ (List.mem_of_getElem? (i := 1) rfl)
theorem m252 : (Jvm.Cond.static ({ cls := "java/lang/Math", name := "floorDiv", desc := "(JJ)J" } : Jvm.MethodName)) ∈ BIG := big5 _ (List.mem_of_getElem? (i := 2) rfl)
theorem m253 : (Jvm.Cond.code ({ cls := "java/lang/Math", name := "floorDiv", desc := "(JJ)J" } : Jvm.MethodName) prog_8_method_49_code (6 : Nat) (Option.some Jvm.ClassFile.FieldType.long)) ∈ BIG := big5 _ (List.mem_of_getElem? (i := 3) rfl)
theorem m254 : (Jvm.Cond.methodLink "MajorityClock$Server" (58 : Nat) ({ cls := "MajorityClock$Server", name := "lowerEnd", desc := "(IJI)J" } : Jvm.MethodName)) ∈ BIG := big5 _ (List.mem_of_getElem? (i := 4) rfl)
theorem m255 : (Jvm.Cond.instanceMethod ({ cls := "MajorityClock$Server", name := "lowerEnd", desc := "(IJI)J" } : Jvm.MethodName)) ∈ BIG := big5 _ (List.mem_of_getElem? (i := 5) rfl)
theorem m256 : (Jvm.Cond.selects "MajorityClock$Server" ({ cls := "MajorityClock$Server", name := "lowerEnd", desc := "(IJI)J" } : Jvm.MethodName) ({ cls := "MajorityClock$Server", name := "lowerEnd", desc := "(IJI)J" } : Jvm.MethodName)) ∈ BIG := big5 _ (List.mem_of_getElem? (i := 6) rfl)
theorem m257 : (Jvm.Cond.code ({ cls := "MajorityClock$Server", name := "lowerEnd", desc := "(IJI)J" } : Jvm.MethodName) prog_5_method_10_code (5 : Nat) (Option.some Jvm.ClassFile.FieldType.long)) ∈ BIG := big5 _ (List.mem_of_getElem? (i := 7) rfl)
theorem m258 : (Jvm.Cond.methodLink "MajorityClock" (116 : Nat) ({ cls := "MajorityClock$Server", name := "lowerEnd", desc := "(IJI)J" } : Jvm.MethodName)) ∈ BIG := big5 _ (List.mem_of_getElem? (i := 8) rfl)
theorem m263 : (Jvm.Cond.methodLink "MajorityClock" (120 : Nat) ({ cls := "MajorityClock$Server", name := "upperEnd", desc := "(IJI)J" } : Jvm.MethodName)) ∈ BIG := big5 _ (List.mem_of_getElem? (i := 13) rfl)
theorem m268 : (Jvm.Cond.methodLink "MajorityClock" (123 : Nat) ({ cls := "MajorityClock", name := "callElection", desc := "()V" } : Jvm.MethodName)) ∈ BIG := big5 _ (List.mem_of_getElem? (i := 18) rfl)
theorem m269 : (Jvm.Cond.instanceMethod ({ cls := "MajorityClock", name := "callElection", desc := "()V" } : Jvm.MethodName)) ∈ BIG := big5 _ (List.mem_of_getElem? (i := 19) rfl)
theorem m270 : (Jvm.Cond.code ({ cls := "MajorityClock", name := "callElection", desc := "()V" } : Jvm.MethodName) prog_1_method_24_code (4 : Nat) (Option.none : Option Jvm.ClassFile.FieldType)) ∈ BIG := big5 _ (List.mem_of_getElem? (i := 20) rfl)
theorem m271 : (Jvm.Cond.methodLink "MajorityClock" (213 : Nat) ({ cls := "MajorityClock$Election", name := "clear", desc := "()V" } : Jvm.MethodName)) ∈ BIG := big5 _ (List.mem_of_getElem? (i := 21) rfl)
theorem m272 : (Jvm.Cond.instanceMethod ({ cls := "MajorityClock$Election", name := "clear", desc := "()V" } : Jvm.MethodName)) ∈ BIG := big5 _ (List.mem_of_getElem? (i := 22) rfl)
theorem m273 : (Jvm.Cond.selects "MajorityClock$Election" ({ cls := "MajorityClock$Election", name := "clear", desc := "()V" } : Jvm.MethodName) ({ cls := "MajorityClock$Election", name := "clear", desc := "()V" } : Jvm.MethodName)) ∈ BIG := big5 _ (List.mem_of_getElem? (i := 23) rfl)
theorem m274 : (Jvm.Cond.code ({ cls := "MajorityClock$Election", name := "clear", desc := "()V" } : Jvm.MethodName) prog_2_method_2_code (1 : Nat) (Option.none : Option Jvm.ClassFile.FieldType)) ∈ BIG := big5 _ (List.mem_of_getElem? (i := 24) rfl)
theorem m275 : (Jvm.Cond.methodLink "MajorityClock" (216 : Nat) ({ cls := "MajorityClock", name := "isUsable", desc := "(LMajorityClock$Server;)Z" } : Jvm.MethodName)) ∈ BIG := big5 _ (List.mem_of_getElem? (i := 25) rfl)
theorem m276 : (Jvm.Cond.instanceMethod ({ cls := "MajorityClock", name := "isUsable", desc := "(LMajorityClock$Server;)Z" } : Jvm.MethodName)) ∈ BIG := big5 _ (List.mem_of_getElem? (i := 26) rfl)
theorem m277 : (Jvm.Cond.code ({ cls := "MajorityClock", name := "isUsable", desc := "(LMajorityClock$Server;)Z" } : Jvm.MethodName) prog_1_method_23_code (2 : Nat) (Option.some Jvm.ClassFile.FieldType.boolean)) ∈ BIG := big5 _ (List.mem_of_getElem? (i := 27) rfl)
theorem m278 : (Jvm.Cond.methodLink "MajorityClock" (208 : Nat) ({ cls := "MajorityClock$Server", name := "latestSampleTime", desc := "()J" } : Jvm.MethodName)) ∈ BIG := big5 _ (List.mem_of_getElem? (i := 28) rfl)
theorem m279 : (Jvm.Cond.instanceMethod ({ cls := "MajorityClock$Server", name := "latestSampleTime", desc := "()J" } : Jvm.MethodName)) ∈ BIG := big5 _ (List.mem_of_getElem? (i := 29) rfl)
theorem m280 : (Jvm.Cond.selects "MajorityClock$Server" ({ cls := "MajorityClock$Server", name := "latestSampleTime", desc := "()J" } : Jvm.MethodName) ({ cls := "MajorityClock$Server", name := "latestSampleTime", desc := "()J" } : Jvm.MethodName)) ∈ BIG := big5 _ (List.mem_of_getElem? (i := 30) rfl)
theorem m281 : (Jvm.Cond.code ({ cls := "MajorityClock$Server", name := "latestSampleTime", desc := "()J" } : Jvm.MethodName) prog_5_method_7_code (1 : Nat) (Option.some Jvm.ClassFile.FieldType.long)) ∈ BIG := big5 _ (List.mem_of_getElem? (i := 31) rfl)
theorem m282 : (Jvm.Cond.methodLink "MajorityClock" (220 : Nat) ({ cls := "MajorityClock$Election", name := "enter", desc := "(IJJ)V" } : Jvm.MethodName)) ∈ BIG := big5 _ (List.mem_of_getElem? (i := 32) rfl)
theorem m283 : (Jvm.Cond.instanceMethod ({ cls := "MajorityClock$Election", name := "enter", desc := "(IJJ)V" } : Jvm.MethodName)) ∈ BIG := big5 _ (List.mem_of_getElem? (i := 33) rfl)
theorem m284 : (Jvm.Cond.selects "MajorityClock$Election" ({ cls := "MajorityClock$Election", name := "enter", desc := "(IJJ)V" } : Jvm.MethodName) ({ cls := "MajorityClock$Election", name := "enter", desc := "(IJJ)V" } : Jvm.MethodName)) ∈ BIG := big5 _ (List.mem_of_getElem? (i := 34) rfl)
theorem m285 : (Jvm.Cond.code ({ cls := "MajorityClock$Election", name := "enter", desc := "(IJJ)V" } : Jvm.MethodName) prog_2_method_3_code (6 : Nat) (Option.none : Option Jvm.ClassFile.FieldType)) ∈ BIG := big5 _ (List.mem_of_getElem? (i := 35) rfl)
theorem m286 : (Jvm.Cond.methodLink "MajorityClock$Election" (26 : Nat) ({ cls := "MajorityClock$Election", name := "put", desc := "(IIJJ)V" } : Jvm.MethodName)) ∈ BIG := big5 _ (List.mem_of_getElem? (i := 36) rfl)
theorem m287 : (Jvm.Cond.instanceMethod ({ cls := "MajorityClock$Election", name := "put", desc := "(IIJJ)V" } : Jvm.MethodName)) ∈ BIG := big5 _ (List.mem_of_getElem? (i := 37) rfl)
theorem m288 : (Jvm.Cond.code ({ cls := "MajorityClock$Election", name := "put", desc := "(IIJJ)V" } : Jvm.MethodName) prog_2_method_4_code (7 : Nat) (Option.none : Option Jvm.ClassFile.FieldType)) ∈ BIG := big5 _ (List.mem_of_getElem? (i := 38) rfl)
theorem m289 : (Jvm.Cond.methodLink "MajorityClock" (129 : Nat) ({ cls := "MajorityClock$Election", name := "findHull", desc := "()Z" } : Jvm.MethodName)) ∈ BIG := big5 _ (List.mem_of_getElem? (i := 39) rfl)
theorem m290 : (Jvm.Cond.instanceMethod ({ cls := "MajorityClock$Election", name := "findHull", desc := "()Z" } : Jvm.MethodName)) ∈ BIG := big5 _ (List.mem_of_getElem? (i := 40) rfl)
theorem m291 : (Jvm.Cond.selects "MajorityClock$Election" ({ cls := "MajorityClock$Election", name := "findHull", desc := "()Z" } : Jvm.MethodName) ({ cls := "MajorityClock$Election", name := "findHull", desc := "()Z" } : Jvm.MethodName)) ∈ BIG := big5 _ (List.mem_of_getElem? (i := 41) rfl)
theorem m292 : (Jvm.Cond.code ({ cls := "MajorityClock$Election", name := "findHull", desc := "()Z" } : Jvm.MethodName) prog_2_method_5_code (2 : Nat) (Option.some Jvm.ClassFile.FieldType.boolean)) ∈ BIG := big5 _ (List.mem_of_getElem? (i := 42) rfl)
theorem m293 : (Jvm.Cond.methodLink "MajorityClock$Election" (30 : Nat) ({ cls := "MajorityClock$Election", name := "findHullOf", desc := "(I)Z" } : Jvm.MethodName)) ∈ BIG := big5 _ (List.mem_of_getElem? (i := 43) rfl)
theorem m294 : (Jvm.Cond.instanceMethod ({ cls := "MajorityClock$Election", name := "findHullOf", desc := "(I)Z" } : Jvm.MethodName)) ∈ BIG := big5 _ (List.mem_of_getElem? (i := 44) rfl)
theorem m295 : (Jvm.Cond.code ({ cls := "MajorityClock$Election", name := "findHullOf", desc := "(I)Z" } : Jvm.MethodName) prog_2_method_6_code (7 : Nat) (Option.some Jvm.ClassFile.FieldType.boolean)) ∈ BIG := big5 _ (List.mem_of_getElem? (i := 45) rfl)
theorem m296 : (Jvm.Cond.constantLong "MajorityClock$Election" (36 : Nat) (9223372036854775807 : Int64)) ∈ BIG := big5 _ (List.mem_of_getElem? (i := 46) rfl)
theorem m297 : (Jvm.Cond.constantLong "MajorityClock$Election" (38 : Nat) (-9223372036854775808 : Int64)) ∈ BIG := big5 _ (List.mem_of_getElem? (i := 47) rfl)
theorem m298 : (Jvm.Cond.methodLink "MajorityClock$Election" (40 : Nat) ({ cls := "MajorityClock$Election", name := "intervalsAround", desc := "(J)I" } : Jvm.MethodName)) ∈ BIG := big5 _ (List.mem_of_getElem? (i := 48) rfl)
theorem m299 : (Jvm.Cond.instanceMethod ({ cls := "MajorityClock$Election", name := "intervalsAround", desc := "(J)I" } : Jvm.MethodName)) ∈ BIG := big5 _ (List.mem_of_getElem? (i := 49) rfl)
theorem m300 : (Jvm.Cond.code ({ cls := "MajorityClock$Election", name := "intervalsAround", desc := "(J)I" } : Jvm.MethodName) prog_2_method_7_code (5 : Nat) (Option.some Jvm.ClassFile.FieldType.int)) ∈ BIG := big6 _ (List.mem_of_getElem? (i := 0) rfl)
theorem m301 : (Jvm.Cond.methodLink "MajorityClock$Election" (44 : Nat) ({ cls := "java/lang/Math", name := "min", desc := "(JJ)J" } : Jvm.MethodName)) ∈ BIG := big6 _ (List.mem_of_getElem? (i := 1) rfl)
theorem m302 : (Jvm.Cond.static ({ cls := "java/lang/Math", name := "min", desc := "(JJ)J" } : Jvm.MethodName)) ∈ BIG := big6 _ (List.mem_of_getElem? (i := 2) rfl)
theorem m303 : (Jvm.Cond.code ({ cls := "java/lang/Math", name := "min", desc := "(JJ)J" } : Jvm.MethodName) prog_8_method_70_code (4 : Nat) (Option.some Jvm.ClassFile.FieldType.long)) ∈ BIG := big6 _ (List.mem_of_getElem? (i := 3) rfl)
theorem m304 : (Jvm.Cond.methodLink "MajorityClock$Election" (50 : Nat) ({ cls := "java/lang/Math", name := "max", desc := "(JJ)J" } : Jvm.MethodName)) ∈ BIG := big6 _ (List.mem_of_getElem? (i := 4) rfl)
theorem m305 : (Jvm.Cond.methodLink "MajorityClock" (133 : Nat) ({ cls := "MajorityClock$Election", name := "keepThoseAtHull", desc := "()V" } : Jvm.MethodName)) ∈ BIG := big6 _ (List.mem_of_getElem? (i := 5) rfl)
theorem m306 : (Jvm.Cond.instanceMethod ({ cls := "MajorityClock$Election", name := "keepThoseAtHull", desc := "()V" } : Jvm.MethodName)) ∈ BIG := big6 _ (List.mem_of_getElem? (i := 6) rfl)
theorem m307 : (Jvm.Cond.selects "MajorityClock$Election" ({ cls := "MajorityClock$Election", name := "keepThoseAtHull", desc := "()V" } : Jvm.MethodName) ({ cls := "MajorityClock$Election", name := "keepThoseAtHull", desc := "()V" } : Jvm.MethodName)) ∈ BIG := big6 _ (List.mem_of_getElem? (i := 7) rfl)
theorem m308 : (Jvm.Cond.code ({ cls := "MajorityClock$Election", name := "keepThoseAtHull", desc := "()V" } : Jvm.MethodName) prog_2_method_8_code (3 : Nat) (Option.none : Option Jvm.ClassFile.FieldType)) ∈ BIG := big6 _ (List.mem_of_getElem? (i := 8) rfl)
theorem m309 : (Jvm.Cond.methodLink "MajorityClock" (136 : Nat) ({ cls := "MajorityClock$Election", name := "keepTheClosest", desc := "()V" } : Jvm.MethodName)) ∈ BIG := big6 _ (List.mem_of_getElem? (i := 9) rfl)
theorem m310 : (Jvm.Cond.instanceMethod ({ cls := "MajorityClock$Election", name := "keepTheClosest", desc := "()V" } : Jvm.MethodName)) ∈ BIG := big6 _ (List.mem_of_getElem? (i := 10) rfl)
theorem m311 : (Jvm.Cond.selects "MajorityClock$Election" ({ cls := "MajorityClock$Election", name := "keepTheClosest", desc := "()V" } : Jvm.MethodName) ({ cls := "MajorityClock$Election", name := "keepTheClosest", desc := "()V" } : Jvm.MethodName)) ∈ BIG := big6 _ (List.mem_of_getElem? (i := 11) rfl)
theorem m312 : (Jvm.Cond.code ({ cls := "MajorityClock$Election", name := "keepTheClosest", desc := "()V" } : Jvm.MethodName) prog_2_method_9_code (2 : Nat) (Option.none : Option Jvm.ClassFile.FieldType)) ∈ BIG := big6 _ (List.mem_of_getElem? (i := 12) rfl)
theorem m313 : (Jvm.Cond.methodLink "MajorityClock$Election" (60 : Nat) ({ cls := "MajorityClock$Election", name := "farthest", desc := "()I" } : Jvm.MethodName)) ∈ BIG := big6 _ (List.mem_of_getElem? (i := 13) rfl)
theorem m314 : (Jvm.Cond.instanceMethod ({ cls := "MajorityClock$Election", name := "farthest", desc := "()I" } : Jvm.MethodName)) ∈ BIG := big6 _ (List.mem_of_getElem? (i := 14) rfl)
theorem m315 : (Jvm.Cond.code ({ cls := "MajorityClock$Election", name := "farthest", desc := "()I" } : Jvm.MethodName) prog_2_method_10_code (3 : Nat) (Option.some Jvm.ClassFile.FieldType.int)) ∈ BIG := big6 _ (List.mem_of_getElem? (i := 15) rfl)
theorem m316 : (Jvm.Cond.methodLink "MajorityClock$Election" (68 : Nat) ({ cls := "MajorityClock$Election", name := "distances", desc := "(I)J" } : Jvm.MethodName)) ∈ BIG := big6 _ (List.mem_of_getElem? (i := 16) rfl)
theorem m317 : (Jvm.Cond.instanceMethod ({ cls := "MajorityClock$Election", name := "distances", desc := "(I)J" } : Jvm.MethodName)) ∈ BIG := big6 _ (List.mem_of_getElem? (i := 17) rfl)
theorem m318 : (Jvm.Cond.code ({ cls := "MajorityClock$Election", name := "distances", desc := "(I)J" } : Jvm.MethodName) prog_2_method_11_code (5 : Nat) (Option.some Jvm.ClassFile.FieldType.long)) ∈ BIG := big6 _ (List.mem_of_getElem? (i := 18) rfl)
theorem m319 : (Jvm.Cond.methodLink "MajorityClock$Election" (72 : Nat) ({ cls := "MajorityClock$Election", name := "middle", desc := "(I)J" } : Jvm.MethodName)) ∈ BIG := big6 _ (List.mem_of_getElem? (i := 19) rfl)
theorem m320 : (Jvm.Cond.instanceMethod ({ cls := "MajorityClock$Election", name := "middle", desc := "(I)J" } : Jvm.MethodName)) ∈ BIG := big6 _ (List.mem_of_getElem? (i := 20) rfl)
theorem m321 : (Jvm.Cond.code ({ cls := "MajorityClock$Election", name := "middle", desc := "(I)J" } : Jvm.MethodName) prog_2_method_12_code (2 : Nat) (Option.some Jvm.ClassFile.FieldType.long)) ∈ BIG := big6 _ (List.mem_of_getElem? (i := 21) rfl)
theorem m322 : (Jvm.Cond.constantLong "MajorityClock$Election" (79 : Nat) (2 : Int64)) ∈ BIG := big6 _ (List.mem_of_getElem? (i := 22) rfl)
theorem m323 : (Jvm.Cond.methodLink "MajorityClock$Election" (81 : Nat) ({ cls := "java/lang/Math", name := "floorDiv", desc := "(JJ)J" } : Jvm.MethodName)) ∈ BIG := big6 _ (List.mem_of_getElem? (i := 23) rfl)
theorem m324 : (Jvm.Cond.methodLink "MajorityClock$Election" (75 : Nat) ({ cls := "java/lang/Math", name := "abs", desc := "(J)J" } : Jvm.MethodName)) ∈ BIG := big6 _ (List.mem_of_getElem? (i := 24) rfl)
theorem m325 : (Jvm.Cond.static ({ cls := "java/lang/Math", name := "abs", desc := "(J)J" } : Jvm.MethodName)) ∈ BIG := big6 _ (List.mem_of_getElem? (i := 25) rfl)
theorem m326 : (Jvm.Cond.code ({ cls := "java/lang/Math", name := "abs", desc := "(J)J" } : Jvm.MethodName) prog_8_method_61_code (2 : Nat) (Option.some Jvm.ClassFile.FieldType.long)) ∈ BIG := big6 _ (List.mem_of_getElem? (i := 26) rfl)
theorem m327 : (Jvm.Cond.methodLink "MajorityClock$Election" (64 : Nat) ({ cls := "MajorityClock$Election", name := "remove", desc := "(I)V" } : Jvm.MethodName)) ∈ BIG := big6 _ (List.mem_of_getElem? (i := 27) rfl)
theorem m328 : (Jvm.Cond.instanceMethod ({ cls := "MajorityClock$Election", name := "remove", desc := "(I)V" } : Jvm.MethodName)) ∈ BIG := big6 _ (List.mem_of_getElem? (i := 28) rfl)
theorem m329 : (Jvm.Cond.code ({ cls := "MajorityClock$Election", name := "remove", desc := "(I)V" } : Jvm.MethodName) prog_2_method_13_code (3 : Nat) (Option.none : Option Jvm.ClassFile.FieldType)) ∈ BIG := big6 _ (List.mem_of_getElem? (i := 29) rfl)
theorem m330 : (Jvm.Cond.methodLink "MajorityClock" (139 : Nat) ({ cls := "MajorityClock$Election", name := "target", desc := "()J" } : Jvm.MethodName)) ∈ BIG := big6 _ (List.mem_of_getElem? (i := 30) rfl)
theorem m331 : (Jvm.Cond.instanceMethod ({ cls := "MajorityClock$Election", name := "target", desc := "()J" } : Jvm.MethodName)) ∈ BIG := big6 _ (List.mem_of_getElem? (i := 31) rfl)
theorem m332 : (Jvm.Cond.selects "MajorityClock$Election" ({ cls := "MajorityClock$Election", name := "target", desc := "()J" } : Jvm.MethodName) ({ cls := "MajorityClock$Election", name := "target", desc := "()J" } : Jvm.MethodName)) ∈ BIG := big6 _ (List.mem_of_getElem? (i := 32) rfl)
theorem m333 : (Jvm.Cond.code ({ cls := "MajorityClock$Election", name := "target", desc := "()J" } : Jvm.MethodName) prog_2_method_14_code (5 : Nat) (Option.some Jvm.ClassFile.FieldType.long)) ∈ BIG := big6 _ (List.mem_of_getElem? (i := 33) rfl)
theorem m334 : (Jvm.Cond.methodLink "MajorityClock" (143 : Nat) ({ cls := "MajorityClock$Served", name := "follow", desc := "(JJ)V" } : Jvm.MethodName)) ∈ BIG := big6 _ (List.mem_of_getElem? (i := 34) rfl)
theorem m335 : (Jvm.Cond.instanceMethod ({ cls := "MajorityClock$Served", name := "follow", desc := "(JJ)V" } : Jvm.MethodName)) ∈ BIG := big6 _ (List.mem_of_getElem? (i := 35) rfl)
theorem m336 : (Jvm.Cond.selects "MajorityClock$Served" ({ cls := "MajorityClock$Served", name := "follow", desc := "(JJ)V" } : Jvm.MethodName) ({ cls := "MajorityClock$Served", name := "follow", desc := "(JJ)V" } : Jvm.MethodName)) ∈ BIG := big6 _ (List.mem_of_getElem? (i := 36) rfl)
theorem m337 : (Jvm.Cond.code ({ cls := "MajorityClock$Served", name := "follow", desc := "(JJ)V" } : Jvm.MethodName) prog_4_method_2_code (5 : Nat) (Option.none : Option Jvm.ClassFile.FieldType)) ∈ BIG := big6 _ (List.mem_of_getElem? (i := 37) rfl)
theorem m338 : (Jvm.Cond.methodLink "MajorityClock$Served" (19 : Nat) ({ cls := "MajorityClock$Served", name := "correctionAt", desc := "(J)J" } : Jvm.MethodName)) ∈ BIG := big6 _ (List.mem_of_getElem? (i := 38) rfl)
theorem m339 : (Jvm.Cond.instanceMethod ({ cls := "MajorityClock$Served", name := "correctionAt", desc := "(J)J" } : Jvm.MethodName)) ∈ BIG := big6 _ (List.mem_of_getElem? (i := 39) rfl)
theorem m340 : (Jvm.Cond.selects "MajorityClock$Served" ({ cls := "MajorityClock$Served", name := "correctionAt", desc := "(J)J" } : Jvm.MethodName) ({ cls := "MajorityClock$Served", name := "correctionAt", desc := "(J)J" } : Jvm.MethodName)) ∈ BIG := big6 _ (List.mem_of_getElem? (i := 40) rfl)
theorem m341 : (Jvm.Cond.code ({ cls := "MajorityClock$Served", name := "correctionAt", desc := "(J)J" } : Jvm.MethodName) prog_4_method_4_code (5 : Nat) (Option.some Jvm.ClassFile.FieldType.long)) ∈ BIG := big6 _ (List.mem_of_getElem? (i := 41) rfl)
theorem m342 : (Jvm.Cond.constantLong "MajorityClock$Served" (59 : Nat) (16 : Int64)) ∈ BIG := big6 _ (List.mem_of_getElem? (i := 42) rfl)
theorem m343 : (Jvm.Cond.methodLink "MajorityClock$Served" (61 : Nat) ({ cls := "java/lang/Math", name := "floorDiv", desc := "(JJ)J" } : Jvm.MethodName)) ∈ BIG := big6 _ (List.mem_of_getElem? (i := 43) rfl)
theorem m344 : (Jvm.Cond.methodLink "MajorityClock$Served" (64 : Nat) ({ cls := "java/lang/Math", name := "abs", desc := "(J)J" } : Jvm.MethodName)) ∈ BIG := big6 _ (List.mem_of_getElem? (i := 44) rfl)
theorem m345 : (Jvm.Cond.methodLink "MajorityClock" (146 : Nat) ({ cls := "MajorityClock", name := "survivorsLeastStratum", desc := "()I" } : Jvm.MethodName)) ∈ BIG := big6 _ (List.mem_of_getElem? (i := 45) rfl)
theorem m346 : (Jvm.Cond.instanceMethod ({ cls := "MajorityClock", name := "survivorsLeastStratum", desc := "()I" } : Jvm.MethodName)) ∈ BIG := big6 _ (List.mem_of_getElem? (i := 46) rfl)
theorem m347 : (Jvm.Cond.code ({ cls := "MajorityClock", name := "survivorsLeastStratum", desc := "()I" } : Jvm.MethodName) prog_1_method_25_code (4 : Nat) (Option.some Jvm.ClassFile.FieldType.int)) ∈ BIG := big6 _ (List.mem_of_getElem? (i := 47) rfl)
theorem m348 : (Jvm.Cond.methodLink "MajorityClock" (150 : Nat) ({ cls := "MajorityClock$Served", name := "remember", desc := "(LMajorityClock$Election;I)V" } : Jvm.MethodName)) ∈ BIG := big6 _ (List.mem_of_getElem? (i := 48) rfl)
theorem m349 : (Jvm.Cond.instanceMethod ({ cls := "MajorityClock$Served", name := "remember", desc := "(LMajorityClock$Election;I)V" } : Jvm.MethodName)) ∈ BIG := big6 _ (List.mem_of_getElem? (i := 49) rfl)
theorem m350 : (Jvm.Cond.selects "MajorityClock$Served" ({ cls := "MajorityClock$Served", name := "remember", desc := "(LMajorityClock$Election;I)V" } : Jvm.MethodName) ({ cls := "MajorityClock$Served", name := "remember", desc := "(LMajorityClock$Election;I)V" } : Jvm.MethodName)) ∈ BIG := big7 _ (List.mem_of_getElem? (i := 0) rfl)
theorem m351 : (Jvm.Cond.code ({ cls := "MajorityClock$Served", name := "remember", desc := "(LMajorityClock$Election;I)V" } : Jvm.MethodName) prog_4_method_3_code (3 : Nat) (Option.none : Option Jvm.ClassFile.FieldType)) ∈ BIG := big7 _ (List.mem_of_getElem? (i := 1) rfl)
theorem m352 : (Jvm.Cond.methodLink "MajorityClock$Served" (43 : Nat) ({ cls := "java/lang/Math", name := "max", desc := "(JJ)J" } : Jvm.MethodName)) ∈ BIG := big7 _ (List.mem_of_getElem? (i := 2) rfl)
theorem m353 : (Jvm.Cond.methodLink "MajorityClock$Served" (52 : Nat) ({ cls := "MajorityClock$Election", name := "bits", desc := "()I" } : Jvm.MethodName)) ∈ BIG := big7 _ (List.mem_of_getElem? (i := 3) rfl)
theorem m354 : (Jvm.Cond.instanceMethod ({ cls := "MajorityClock$Election", name := "bits", desc := "()I" } : Jvm.MethodName)) ∈ BIG := big7 _ (List.mem_of_getElem? (i := 4) rfl)
theorem m355 : (Jvm.Cond.selects "MajorityClock$Election" ({ cls := "MajorityClock$Election", name := "bits", desc := "()I" } : Jvm.MethodName) ({ cls := "MajorityClock$Election", name := "bits", desc := "()I" } : Jvm.MethodName)) ∈ BIG := big7 _ (List.mem_of_getElem? (i := 5) rfl)
theorem m356 : (Jvm.Cond.code ({ cls := "MajorityClock$Election", name := "bits", desc := "()I" } : Jvm.MethodName) prog_2_method_15_code (3 : Nat) (Option.some Jvm.ClassFile.FieldType.int)) ∈ BIG := big7 _ (List.mem_of_getElem? (i := 6) rfl)
theorem m370 : (Jvm.Cond.instanceMethod ({ cls := "MajorityClock", name := "time", desc := "()J" } : Jvm.MethodName)) ∈ BIG := big7 _ (List.mem_of_getElem? (i := 20) rfl)
theorem m371 : (Jvm.Cond.selects "MajorityClock" ({ cls := "MajorityClock", name := "time", desc := "()J" } : Jvm.MethodName) ({ cls := "MajorityClock", name := "time", desc := "()J" } : Jvm.MethodName)) ∈ BIG := big7 _ (List.mem_of_getElem? (i := 21) rfl)
theorem m372 : (Jvm.Cond.code ({ cls := "MajorityClock", name := "time", desc := "()J" } : Jvm.MethodName) prog_1_method_15_code (1 : Nat) (Option.some Jvm.ClassFile.FieldType.long)) ∈ BIG := big7 _ (List.mem_of_getElem? (i := 22) rfl)
theorem m373 : (Jvm.Cond.methodLink "MajorityClock" (170 : Nat) ({ cls := "MajorityClock$Served", name := "correctionAt", desc := "(J)J" } : Jvm.MethodName)) ∈ BIG := big7 _ (List.mem_of_getElem? (i := 23) rfl)
theorem m375 : (Jvm.Cond.instanceMethod ({ cls := "MajorityClock", name := "bound", desc := "()J" } : Jvm.MethodName)) ∈ BIG := big7 _ (List.mem_of_getElem? (i := 25) rfl)
theorem m376 : (Jvm.Cond.selects "MajorityClock" ({ cls := "MajorityClock", name := "bound", desc := "()J" } : Jvm.MethodName) ({ cls := "MajorityClock", name := "bound", desc := "()J" } : Jvm.MethodName)) ∈ BIG := big7 _ (List.mem_of_getElem? (i := 26) rfl)
theorem m377 : (Jvm.Cond.code ({ cls := "MajorityClock", name := "bound", desc := "()J" } : Jvm.MethodName) prog_1_method_16_code (1 : Nat) (Option.some Jvm.ClassFile.FieldType.long)) ∈ BIG := big7 _ (List.mem_of_getElem? (i := 27) rfl)
theorem m378 : (Jvm.Cond.methodLink "MajorityClock" (174 : Nat) ({ cls := "MajorityClock$Served", name := "wrongAtMost", desc := "(JI)J" } : Jvm.MethodName)) ∈ BIG := big7 _ (List.mem_of_getElem? (i := 28) rfl)
theorem m379 : (Jvm.Cond.instanceMethod ({ cls := "MajorityClock$Served", name := "wrongAtMost", desc := "(JI)J" } : Jvm.MethodName)) ∈ BIG := big7 _ (List.mem_of_getElem? (i := 29) rfl)
theorem m380 : (Jvm.Cond.selects "MajorityClock$Served" ({ cls := "MajorityClock$Served", name := "wrongAtMost", desc := "(JI)J" } : Jvm.MethodName) ({ cls := "MajorityClock$Served", name := "wrongAtMost", desc := "(JI)J" } : Jvm.MethodName)) ∈ BIG := big7 _ (List.mem_of_getElem? (i := 30) rfl)
theorem m381 : (Jvm.Cond.code ({ cls := "MajorityClock$Served", name := "wrongAtMost", desc := "(JI)J" } : Jvm.MethodName) prog_4_method_5_code (4 : Nat) (Option.some Jvm.ClassFile.FieldType.long)) ∈ BIG := big7 _ (List.mem_of_getElem? (i := 31) rfl)
theorem m386 : (Jvm.Cond.methodLink "MajorityClock" (178 : Nat) ({ cls := "MajorityClock", name := "leaseOrNull", desc := "(I)LMajorityClock$Lease;" } : Jvm.MethodName)) ∈ BIG := big7 _ (List.mem_of_getElem? (i := 36) rfl)
theorem m387 : (Jvm.Cond.instanceMethod ({ cls := "MajorityClock", name := "leaseOrNull", desc := "(I)LMajorityClock$Lease;" } : Jvm.MethodName)) ∈ BIG := big7 _ (List.mem_of_getElem? (i := 37) rfl)
theorem m388 : (Jvm.Cond.code ({ cls := "MajorityClock", name := "leaseOrNull", desc := "(I)LMajorityClock$Lease;" } : Jvm.MethodName) prog_1_method_22_code (2 : Nat) (Option.some (Jvm.ClassFile.FieldType.object "MajorityClock$Lease"))) ∈ BIG := big7 _ (List.mem_of_getElem? (i := 38) rfl)
theorem m389 : (Jvm.Cond.methodLink "MajorityClock" (182 : Nat) ({ cls := "MajorityClock", name := "time", desc := "()J" } : Jvm.MethodName)) ∈ BIG := big7 _ (List.mem_of_getElem? (i := 39) rfl)
theorem m390 : (Jvm.Cond.methodLink "MajorityClock" (188 : Nat) ({ cls := "MajorityClock", name := "mayFollow", desc := "(LMajorityClock$Lease;IJ)Z" } : Jvm.MethodName)) ∈ BIG := big7 _ (List.mem_of_getElem? (i := 40) rfl)
theorem m391 : (Jvm.Cond.instanceMethod ({ cls := "MajorityClock", name := "mayFollow", desc := "(LMajorityClock$Lease;IJ)Z" } : Jvm.MethodName)) ∈ BIG := big7 _ (List.mem_of_getElem? (i := 41) rfl)
theorem m392 : (Jvm.Cond.code ({ cls := "MajorityClock", name := "mayFollow", desc := "(LMajorityClock$Lease;IJ)Z" } : Jvm.MethodName) prog_1_method_26_code (5 : Nat) (Option.some Jvm.ClassFile.FieldType.boolean)) ∈ BIG := big7 _ (List.mem_of_getElem? (i := 42) rfl)
theorem m393 : (Jvm.Cond.methodLink "MajorityClock" (228 : Nat) ({ cls := "MajorityClock", name := "isOver", desc := "(LMajorityClock$Lease;)Z" } : Jvm.MethodName)) ∈ BIG := big7 _ (List.mem_of_getElem? (i := 43) rfl)
theorem m394 : (Jvm.Cond.instanceMethod ({ cls := "MajorityClock", name := "isOver", desc := "(LMajorityClock$Lease;)Z" } : Jvm.MethodName)) ∈ BIG := big7 _ (List.mem_of_getElem? (i := 44) rfl)
theorem m395 : (Jvm.Cond.code ({ cls := "MajorityClock", name := "isOver", desc := "(LMajorityClock$Lease;)Z" } : Jvm.MethodName) prog_1_method_27_code (2 : Nat) (Option.some Jvm.ClassFile.FieldType.boolean)) ∈ BIG := big7 _ (List.mem_of_getElem? (i := 45) rfl)
theorem m396 : (Jvm.Cond.methodLink "MajorityClock" (232 : Nat) ({ cls := "MajorityClock", name := "bound", desc := "()J" } : Jvm.MethodName)) ∈ BIG := big7 _ (List.mem_of_getElem? (i := 46) rfl)
theorem m397 : (Jvm.Cond.methodLink "MajorityClock" (192 : Nat) ({ cls := "MajorityClock$Lease", name := "give", desc := "(IJ)V" } : Jvm.MethodName)) ∈ BIG := big7 _ (List.mem_of_getElem? (i := 47) rfl)
theorem m398 : (Jvm.Cond.instanceMethod ({ cls := "MajorityClock$Lease", name := "give", desc := "(IJ)V" } : Jvm.MethodName)) ∈ BIG := big7 _ (List.mem_of_getElem? (i := 48) rfl)
theorem m399 : (Jvm.Cond.selects "MajorityClock$Lease" ({ cls := "MajorityClock$Lease", name := "give", desc := "(IJ)V" } : Jvm.MethodName) ({ cls := "MajorityClock$Lease", name := "give", desc := "(IJ)V" } : Jvm.MethodName)) ∈ BIG := big7 _ (List.mem_of_getElem? (i := 49) rfl)
theorem m400 : (Jvm.Cond.code ({ cls := "MajorityClock$Lease", name := "give", desc := "(IJ)V" } : Jvm.MethodName) prog_3_method_2_code (4 : Nat) (Option.none : Option Jvm.ClassFile.FieldType)) ∈ BIG := big8 _ (List.mem_of_getElem? (i := 0) rfl)
theorem m405 : (Jvm.Cond.constantLong "MajorityClock" (201 : Nat) (-1099511627776 : Int64)) ∈ BIG := big8 _ (List.mem_of_getElem? (i := 5) rfl)
theorem m406 : (Jvm.Cond.constantLong "MajorityClock" (203 : Nat) (2199023255552 : Int64)) ∈ BIG := big8 _ (List.mem_of_getElem? (i := 6) rfl)
theorem m423 : (Jvm.Cond.methodLink "MajorityClockModel" (1 : Nat) ({ cls := "java/lang/Object", name := "<init>", desc := "()V" } : Jvm.MethodName)) ∈ BIG := big8 _ (List.mem_of_getElem? (i := 23) rfl)
theorem m424 : (Jvm.Cond.methodLink "MajorityClockModel" (69 : Nat) ({ cls := "MajorityClockModel", name := "within", desc := "(III)I" } : Jvm.MethodName)) ∈ BIG := big8 _ (List.mem_of_getElem? (i := 24) rfl)
theorem m425 : (Jvm.Cond.static ({ cls := "MajorityClockModel", name := "within", desc := "(III)I" } : Jvm.MethodName)) ∈ BIG := big8 _ (List.mem_of_getElem? (i := 25) rfl)
theorem m426 : (Jvm.Cond.code ({ cls := "MajorityClockModel", name := "within", desc := "(III)I" } : Jvm.MethodName) prog_7_method_2_code (3 : Nat) (Option.some Jvm.ClassFile.FieldType.int)) ∈ BIG := big8 _ (List.mem_of_getElem? (i := 26) rfl)
theorem m427 : (Jvm.Cond.fieldLink "MajorityClockModel" (73 : Nat) "MajorityClockModel" "servers" "I") ∈ BIG := big8 _ (List.mem_of_getElem? (i := 27) rfl)
theorem m428 : (Jvm.Cond.fieldLink "MajorityClockModel" (77 : Nat) "MajorityClockModel" "drift" "I") ∈ BIG := big8 _ (List.mem_of_getElem? (i := 28) rfl)
theorem m429 : (Jvm.Cond.fieldLink "MajorityClockModel" (80 : Nat) "MajorityClockModel" "self" "I") ∈ BIG := big8 _ (List.mem_of_getElem? (i := 29) rfl)
theorem m430 : (Jvm.Cond.fieldLink "MajorityClockModel" (86 : Nat) "MajorityClockModel" "now" "J") ∈ BIG := big8 _ (List.mem_of_getElem? (i := 30) rfl)
theorem m431 : (Jvm.Cond.fieldLink "MajorityClockModel" (102 : Nat) "MajorityClockModel" "asked" "Z") ∈ BIG := big8 _ (List.mem_of_getElem? (i := 31) rfl)
theorem m432 : (Jvm.Cond.fieldLink "MajorityClockModel" (106 : Nat) "MajorityClockModel" "lastStamp" "J") ∈ BIG := big8 _ (List.mem_of_getElem? (i := 32) rfl)
theorem m433 : (Jvm.Cond.fieldLink "MajorityClockModel" (7 : Nat) "MajorityClockModel" "key" "[J") ∈ BIG := big8 _ (List.mem_of_getElem? (i := 33) rfl)
theorem m434 : (Jvm.Cond.fieldLink "MajorityClockModel" (13 : Nat) "MajorityClockModel" "pending" "[Z") ∈ BIG := big8 _ (List.mem_of_getElem? (i := 34) rfl)
theorem m435 : (Jvm.Cond.fieldLink "MajorityClockModel" (17 : Nat) "MajorityClockModel" "askedAt" "[J") ∈ BIG := big8 _ (List.mem_of_getElem? (i := 35) rfl)
theorem m436 : (Jvm.Cond.fieldLink "MajorityClockModel" (20 : Nat) "MajorityClockModel" "stampOf" "[J") ∈ BIG := big8 _ (List.mem_of_getElem? (i := 36) rfl)
theorem m437 : (Jvm.Cond.fieldLink "MajorityClockModel" (23 : Nat) "MajorityClockModel" "answered" "[Z") ∈ BIG := big8 _ (List.mem_of_getElem? (i := 37) rfl)
theorem m438 : (Jvm.Cond.fieldLink "MajorityClockModel" (26 : Nat) "MajorityClockModel" "lastOrigin" "[J") ∈ BIG := big8 _ (List.mem_of_getElem? (i := 38) rfl)
theorem m439 : (Jvm.Cond.fieldLink "MajorityClockModel" (29 : Nat) "MajorityClockModel" "samples" "[I") ∈ BIG := big8 _ (List.mem_of_getElem? (i := 39) rfl)
theorem m440 : (Jvm.Cond.fieldLink "MajorityClockModel" (33 : Nat) "MajorityClockModel" "sampleLow" "[J") ∈ BIG := big8 _ (List.mem_of_getElem? (i := 40) rfl)
theorem m441 : (Jvm.Cond.fieldLink "MajorityClockModel" (36 : Nat) "MajorityClockModel" "sampleHigh" "[J") ∈ BIG := big8 _ (List.mem_of_getElem? (i := 41) rfl)
theorem m442 : (Jvm.Cond.fieldLink "MajorityClockModel" (39 : Nat) "MajorityClockModel" "sampleTime" "[J") ∈ BIG := big8 _ (List.mem_of_getElem? (i := 42) rfl)
theorem m443 : (Jvm.Cond.fieldLink "MajorityClockModel" (42 : Nat) "MajorityClockModel" "stratumOf" "[I") ∈ BIG := big8 _ (List.mem_of_getElem? (i := 43) rfl)
theorem m444 : (Jvm.Cond.fieldLink "MajorityClockModel" (45 : Nat) "MajorityClockModel" "reference" "[I") ∈ BIG := big8 _ (List.mem_of_getElem? (i := 44) rfl)
theorem m445 : (Jvm.Cond.fieldLink "MajorityClockModel" (48 : Nat) "MajorityClockModel" "root" "[I") ∈ BIG := big8 _ (List.mem_of_getElem? (i := 45) rfl)
theorem m446 : (Jvm.Cond.fieldLink "MajorityClockModel" (51 : Nat) "MajorityClockModel" "from" "[J") ∈ BIG := big8 _ (List.mem_of_getElem? (i := 46) rfl)
theorem m447 : (Jvm.Cond.fieldLink "MajorityClockModel" (54 : Nat) "MajorityClockModel" "to" "[J") ∈ BIG := big8 _ (List.mem_of_getElem? (i := 47) rfl)
theorem m448 : (Jvm.Cond.fieldLink "MajorityClockModel" (57 : Nat) "MajorityClockModel" "in" "[Z") ∈ BIG := big8 _ (List.mem_of_getElem? (i := 48) rfl)
theorem m449 : (Jvm.Cond.fieldLink "MajorityClockModel" (135 : Nat) "MajorityClockModel" "least" "J") ∈ BIG := big8 _ (List.mem_of_getElem? (i := 49) rfl)
theorem m450 : (Jvm.Cond.fieldLink "MajorityClockModel" (138 : Nat) "MajorityClockModel" "greatest" "J") ∈ BIG := big9 _ (List.mem_of_getElem? (i := 0) rfl)
theorem m451 : (Jvm.Cond.fieldLink "MajorityClockModel" (171 : Nat) "MajorityClockModel" "set" "Z") ∈ BIG := big9 _ (List.mem_of_getElem? (i := 1) rfl)
theorem m452 : (Jvm.Cond.fieldLink "MajorityClockModel" (196 : Nat) "MajorityClockModel" "mask" "I") ∈ BIG := big9 _ (List.mem_of_getElem? (i := 2) rfl)
theorem m453 : (Jvm.Cond.fieldLink "MajorityClockModel" (199 : Nat) "MajorityClockModel" "best" "I") ∈ BIG := big9 _ (List.mem_of_getElem? (i := 3) rfl)
theorem m454 : (Jvm.Cond.fieldLink "MajorityClockModel" (184 : Nat) "MajorityClockModel" "lower" "J") ∈ BIG := big9 _ (List.mem_of_getElem? (i := 4) rfl)
theorem m455 : (Jvm.Cond.fieldLink "MajorityClockModel" (187 : Nat) "MajorityClockModel" "upper" "J") ∈ BIG := big9 _ (List.mem_of_getElem? (i := 5) rfl)
theorem m456 : (Jvm.Cond.fieldLink "MajorityClockModel" (181 : Nat) "MajorityClockModel" "target" "J") ∈ BIG := big9 _ (List.mem_of_getElem? (i := 6) rfl)
theorem m457 : (Jvm.Cond.fieldLink "MajorityClockModel" (190 : Nat) "MajorityClockModel" "error" "J") ∈ BIG := big9 _ (List.mem_of_getElem? (i := 7) rfl)
theorem m458 : (Jvm.Cond.fieldLink "MajorityClockModel" (193 : Nat) "MajorityClockModel" "madeAt" "J") ∈ BIG := big9 _ (List.mem_of_getElem? (i := 8) rfl)
theorem m459 : (Jvm.Cond.fieldLink "MajorityClockModel" (178 : Nat) "MajorityClockModel" "startedFrom" "J") ∈ BIG := big9 _ (List.mem_of_getElem? (i := 9) rfl)
theorem m460 : (Jvm.Cond.fieldLink "MajorityClockModel" (60 : Nat) "MajorityClockModel" "granted" "[Z") ∈ BIG := big9 _ (List.mem_of_getElem? (i := 10) rfl)
theorem m461 : (Jvm.Cond.fieldLink "MajorityClockModel" (63 : Nat) "MajorityClockModel" "owner" "[I") ∈ BIG := big9 _ (List.mem_of_getElem? (i := 11) rfl)
theorem m462 : (Jvm.Cond.fieldLink "MajorityClockModel" (66 : Nat) "MajorityClockModel" "until" "[J") ∈ BIG := big9 _ (List.mem_of_getElem? (i := 12) rfl)
theorem m499 : (Jvm.Cond.arrayClass Jvm.ClassFile.FieldType.boolean) ∈ BIG := big9 _ (List.mem_of_getElem? (i := 49) rfl)
theorem m504 : (Jvm.Cond.constant "MajorityClockModel" (85 : Nat) (1000000 : Int32)) ∈ BIG := big10 _ (List.mem_of_getElem? (i := 4) rfl)
theorem m513 : (Jvm.Cond.methodLink "MajorityClockModel" (90 : Nat) ({ cls := "MajorityClockModel", name := "isServer", desc := "(I)Z" } : Jvm.MethodName)) ∈ BIG := big10 _ (List.mem_of_getElem? (i := 13) rfl)
theorem m514 : (Jvm.Cond.instanceMethod ({ cls := "MajorityClockModel", name := "isServer", desc := "(I)Z" } : Jvm.MethodName)) ∈ BIG := big10 _ (List.mem_of_getElem? (i := 14) rfl)
theorem m515 : (Jvm.Cond.code ({ cls := "MajorityClockModel", name := "isServer", desc := "(I)Z" } : Jvm.MethodName) prog_7_method_4_code (2 : Nat) (Option.some Jvm.ClassFile.FieldType.boolean)) ∈ BIG := big10 _ (List.mem_of_getElem? (i := 15) rfl)
theorem m517 : (Jvm.Cond.instanceMethod ({ cls := "MajorityClockModel", name := "seal", desc := "(IJJJ)I" } : Jvm.MethodName)) ∈ BIG := big10 _ (List.mem_of_getElem? (i := 17) rfl)
theorem m518 : (Jvm.Cond.selects "MajorityClockModel" ({ cls := "MajorityClockModel", name := "seal", desc := "(IJJJ)I" } : Jvm.MethodName) ({ cls := "MajorityClockModel", name := "seal", desc := "(IJJJ)I" } : Jvm.MethodName)) ∈ BIG := big10 _ (List.mem_of_getElem? (i := 18) rfl)
theorem m519 : (Jvm.Cond.code ({ cls := "MajorityClockModel", name := "seal", desc := "(IJJJ)I" } : Jvm.MethodName) prog_7_method_11_code (14 : Nat) (Option.some Jvm.ClassFile.FieldType.int)) ∈ BIG := big10 _ (List.mem_of_getElem? (i := 19) rfl)
theorem m520 : (Jvm.Cond.methodLink "MajorityClockModel" (96 : Nat) ({ cls := "MajorityClockModel", name := "mixed", desc := "(JJ)J" } : Jvm.MethodName)) ∈ BIG := big10 _ (List.mem_of_getElem? (i := 20) rfl)
theorem m521 : (Jvm.Cond.static ({ cls := "MajorityClockModel", name := "mixed", desc := "(JJ)J" } : Jvm.MethodName)) ∈ BIG := big10 _ (List.mem_of_getElem? (i := 21) rfl)
theorem m522 : (Jvm.Cond.code ({ cls := "MajorityClockModel", name := "mixed", desc := "(JJ)J" } : Jvm.MethodName) prog_7_method_10_code (6 : Nat) (Option.some Jvm.ClassFile.FieldType.long)) ∈ BIG := big10 _ (List.mem_of_getElem? (i := 22) rfl)
theorem m523 : (Jvm.Cond.constantLong "MajorityClockModel" (94 : Nat) (-7046029254386353131 : Int64)) ∈ BIG := big10 _ (List.mem_of_getElem? (i := 23) rfl)
theorem m528 : (Jvm.Cond.constantLong "MajorityClockModel" (100 : Nat) (-4611686018427387904 : Int64)) ∈ BIG := big10 _ (List.mem_of_getElem? (i := 28) rfl)
theorem m533 : (Jvm.Cond.methodLink "MajorityClockModel" (119 : Nat) ({ cls := "MajorityClockModel", name := "why", desc := "(IJJJI)I" } : Jvm.MethodName)) ∈ BIG := big10 _ (List.mem_of_getElem? (i := 33) rfl)
theorem m534 : (Jvm.Cond.instanceMethod ({ cls := "MajorityClockModel", name := "why", desc := "(IJJJI)I" } : Jvm.MethodName)) ∈ BIG := big10 _ (List.mem_of_getElem? (i := 34) rfl)
theorem m535 : (Jvm.Cond.code ({ cls := "MajorityClockModel", name := "why", desc := "(IJJJI)I" } : Jvm.MethodName) prog_7_method_13_code (10 : Nat) (Option.some Jvm.ClassFile.FieldType.int)) ∈ BIG := big10 _ (List.mem_of_getElem? (i := 35) rfl)
theorem m536 : (Jvm.Cond.constantLong "MajorityClockModel" (109 : Nat) (1099511627776 : Int64)) ∈ BIG := big10 _ (List.mem_of_getElem? (i := 36) rfl)
theorem m537 : (Jvm.Cond.methodLink "MajorityClockModel" (111 : Nat) ({ cls := "MajorityClockModel", name := "between", desc := "(JJJ)Z" } : Jvm.MethodName)) ∈ BIG := big10 _ (List.mem_of_getElem? (i := 37) rfl)
theorem m538 : (Jvm.Cond.static ({ cls := "MajorityClockModel", name := "between", desc := "(JJJ)Z" } : Jvm.MethodName)) ∈ BIG := big10 _ (List.mem_of_getElem? (i := 38) rfl)
theorem m539 : (Jvm.Cond.code ({ cls := "MajorityClockModel", name := "between", desc := "(JJJ)Z" } : Jvm.MethodName) prog_7_method_3_code (6 : Nat) (Option.some Jvm.ClassFile.FieldType.boolean)) ∈ BIG := big10 _ (List.mem_of_getElem? (i := 39) rfl)
theorem m540 : (Jvm.Cond.methodLink "MajorityClockModel" (115 : Nat) ({ cls := "MajorityClockModel", name := "seal", desc := "(IJJJ)I" } : Jvm.MethodName)) ∈ BIG := big10 _ (List.mem_of_getElem? (i := 40) rfl)
theorem m549 : (Jvm.Cond.methodLink "MajorityClockModel" (127 : Nat) ({ cls := "MajorityClockModel", name := "measure", desc := "(I)V" } : Jvm.MethodName)) ∈ BIG := big10 _ (List.mem_of_getElem? (i := 49) rfl)
theorem m550 : (Jvm.Cond.instanceMethod ({ cls := "MajorityClockModel", name := "measure", desc := "(I)V" } : Jvm.MethodName)) ∈ BIG := big11 _ (List.mem_of_getElem? (i := 0) rfl)
theorem m551 : (Jvm.Cond.code ({ cls := "MajorityClockModel", name := "measure", desc := "(I)V" } : Jvm.MethodName) prog_7_method_16_code (9 : Nat) (Option.none : Option Jvm.ClassFile.FieldType)) ∈ BIG := big11 _ (List.mem_of_getElem? (i := 1) rfl)
theorem m552 : (Jvm.Cond.methodLink "MajorityClockModel" (123 : Nat) ({ cls := "MajorityClockModel", name := "growth", desc := "(J)J" } : Jvm.MethodName)) ∈ BIG := big11 _ (List.mem_of_getElem? (i := 2) rfl)
theorem m553 : (Jvm.Cond.instanceMethod ({ cls := "MajorityClockModel", name := "growth", desc := "(J)J" } : Jvm.MethodName)) ∈ BIG := big11 _ (List.mem_of_getElem? (i := 3) rfl)
theorem m554 : (Jvm.Cond.code ({ cls := "MajorityClockModel", name := "growth", desc := "(J)J" } : Jvm.MethodName) prog_7_method_6_code (7 : Nat) (Option.some Jvm.ClassFile.FieldType.long)) ∈ BIG := big11 _ (List.mem_of_getElem? (i := 4) rfl)
theorem m555 : (Jvm.Cond.constantLong "MajorityClockModel" (83 : Nat) (1000000 : Int64)) ∈ BIG := big11 _ (List.mem_of_getElem? (i := 5) rfl)
theorem m564 : (Jvm.Cond.methodLink "MajorityClockModel" (155 : Nat) ({ cls := "MajorityClockModel", name := "usable", desc := "(I)Z" } : Jvm.MethodName)) ∈ BIG := big11 _ (List.mem_of_getElem? (i := 14) rfl)
theorem m565 : (Jvm.Cond.instanceMethod ({ cls := "MajorityClockModel", name := "usable", desc := "(I)Z" } : Jvm.MethodName)) ∈ BIG := big11 _ (List.mem_of_getElem? (i := 15) rfl)
theorem m566 : (Jvm.Cond.code ({ cls := "MajorityClockModel", name := "usable", desc := "(I)Z" } : Jvm.MethodName) prog_7_method_19_code (3 : Nat) (Option.some Jvm.ClassFile.FieldType.boolean)) ∈ BIG := big11 _ (List.mem_of_getElem? (i := 16) rfl)
theorem m567 : (Jvm.Cond.methodLink "MajorityClockModel" (158 : Nat) ({ cls := "MajorityClockModel", name := "left", desc := "()I" } : Jvm.MethodName)) ∈ BIG := big11 _ (List.mem_of_getElem? (i := 17) rfl)
theorem m568 : (Jvm.Cond.instanceMethod ({ cls := "MajorityClockModel", name := "left", desc := "()I" } : Jvm.MethodName)) ∈ BIG := big11 _ (List.mem_of_getElem? (i := 18) rfl)
theorem m569 : (Jvm.Cond.code ({ cls := "MajorityClockModel", name := "left", desc := "()I" } : Jvm.MethodName) prog_7_method_20_code (3 : Nat) (Option.some Jvm.ClassFile.FieldType.int)) ∈ BIG := big11 _ (List.mem_of_getElem? (i := 19) rfl)
theorem m570 : (Jvm.Cond.methodLink "MajorityClockModel" (162 : Nat) ({ cls := "MajorityClockModel", name := "hullOf", desc := "(I)Z" } : Jvm.MethodName)) ∈ BIG := big11 _ (List.mem_of_getElem? (i := 20) rfl)
theorem m571 : (Jvm.Cond.instanceMethod ({ cls := "MajorityClockModel", name := "hullOf", desc := "(I)Z" } : Jvm.MethodName)) ∈ BIG := big11 _ (List.mem_of_getElem? (i := 21) rfl)
theorem m572 : (Jvm.Cond.code ({ cls := "MajorityClockModel", name := "hullOf", desc := "(I)Z" } : Jvm.MethodName) prog_7_method_22_code (4 : Nat) (Option.some Jvm.ClassFile.FieldType.boolean)) ∈ BIG := big11 _ (List.mem_of_getElem? (i := 22) rfl)
theorem m573 : (Jvm.Cond.methodLink "MajorityClockModel" (131 : Nat) ({ cls := "MajorityClockModel", name := "covering", desc := "(J)I" } : Jvm.MethodName)) ∈ BIG := big11 _ (List.mem_of_getElem? (i := 23) rfl)
theorem m574 : (Jvm.Cond.instanceMethod ({ cls := "MajorityClockModel", name := "covering", desc := "(J)I" } : Jvm.MethodName)) ∈ BIG := big11 _ (List.mem_of_getElem? (i := 24) rfl)
theorem m575 : (Jvm.Cond.code ({ cls := "MajorityClockModel", name := "covering", desc := "(J)I" } : Jvm.MethodName) prog_7_method_21_code (5 : Nat) (Option.some Jvm.ClassFile.FieldType.int)) ∈ BIG := big11 _ (List.mem_of_getElem? (i := 25) rfl)
theorem m576 : (Jvm.Cond.methodLink "MajorityClockModel" (165 : Nat) ({ cls := "MajorityClockModel", name := "leave", desc := "()V" } : Jvm.MethodName)) ∈ BIG := big11 _ (List.mem_of_getElem? (i := 26) rfl)
theorem m577 : (Jvm.Cond.instanceMethod ({ cls := "MajorityClockModel", name := "leave", desc := "()V" } : Jvm.MethodName)) ∈ BIG := big11 _ (List.mem_of_getElem? (i := 27) rfl)
theorem m578 : (Jvm.Cond.code ({ cls := "MajorityClockModel", name := "leave", desc := "()V" } : Jvm.MethodName) prog_7_method_25_code (7 : Nat) (Option.none : Option Jvm.ClassFile.FieldType)) ∈ BIG := big11 _ (List.mem_of_getElem? (i := 28) rfl)
theorem m579 : (Jvm.Cond.constantLong "MajorityClockModel" (150 : Nat) (-1 : Int64)) ∈ BIG := big11 _ (List.mem_of_getElem? (i := 29) rfl)
theorem m580 : (Jvm.Cond.methodLink "MajorityClockModel" (152 : Nat) ({ cls := "MajorityClockModel", name := "far", desc := "(I)J" } : Jvm.MethodName)) ∈ BIG := big11 _ (List.mem_of_getElem? (i := 30) rfl)
theorem m581 : (Jvm.Cond.instanceMethod ({ cls := "MajorityClockModel", name := "far", desc := "(I)J" } : Jvm.MethodName)) ∈ BIG := big11 _ (List.mem_of_getElem? (i := 31) rfl)
theorem m582 : (Jvm.Cond.code ({ cls := "MajorityClockModel", name := "far", desc := "(I)J" } : Jvm.MethodName) prog_7_method_24_code (7 : Nat) (Option.some Jvm.ClassFile.FieldType.long)) ∈ BIG := big11 _ (List.mem_of_getElem? (i := 32) rfl)
theorem m583 : (Jvm.Cond.methodLink "MajorityClockModel" (146 : Nat) ({ cls := "MajorityClockModel", name := "middle", desc := "(I)J" } : Jvm.MethodName)) ∈ BIG := big11 _ (List.mem_of_getElem? (i := 33) rfl)
theorem m584 : (Jvm.Cond.instanceMethod ({ cls := "MajorityClockModel", name := "middle", desc := "(I)J" } : Jvm.MethodName)) ∈ BIG := big11 _ (List.mem_of_getElem? (i := 34) rfl)
theorem m585 : (Jvm.Cond.code ({ cls := "MajorityClockModel", name := "middle", desc := "(I)J" } : Jvm.MethodName) prog_7_method_23_code (2 : Nat) (Option.some Jvm.ClassFile.FieldType.long)) ∈ BIG := big11 _ (List.mem_of_getElem? (i := 35) rfl)
theorem m586 : (Jvm.Cond.constantLong "MajorityClockModel" (141 : Nat) (2 : Int64)) ∈ BIG := big11 _ (List.mem_of_getElem? (i := 36) rfl)
theorem m587 : (Jvm.Cond.methodLink "MajorityClockModel" (143 : Nat) ({ cls := "MajorityClockModel", name := "down", desc := "(JJ)J" } : Jvm.MethodName)) ∈ BIG := big11 _ (List.mem_of_getElem? (i := 37) rfl)
theorem m588 : (Jvm.Cond.static ({ cls := "MajorityClockModel", name := "down", desc := "(JJ)J" } : Jvm.MethodName)) ∈ BIG := big11 _ (List.mem_of_getElem? (i := 38) rfl)
theorem m589 : (Jvm.Cond.code ({ cls := "MajorityClockModel", name := "down", desc := "(JJ)J" } : Jvm.MethodName) prog_7_method_5_code (6 : Nat) (Option.some Jvm.ClassFile.FieldType.long)) ∈ BIG := big11 _ (List.mem_of_getElem? (i := 39) rfl)
theorem m590 : (Jvm.Cond.methodLink "MajorityClockModel" (168 : Nat) ({ cls := "MajorityClockModel", name := "keep", desc := "(I)V" } : Jvm.MethodName)) ∈ BIG := big11 _ (List.mem_of_getElem? (i := 40) rfl)
theorem m591 : (Jvm.Cond.instanceMethod ({ cls := "MajorityClockModel", name := "keep", desc := "(I)V" } : Jvm.MethodName)) ∈ BIG := big11 _ (List.mem_of_getElem? (i := 41) rfl)
theorem m592 : (Jvm.Cond.code ({ cls := "MajorityClockModel", name := "keep", desc := "(I)V" } : Jvm.MethodName) prog_7_method_27_code (8 : Nat) (Option.none : Option Jvm.ClassFile.FieldType)) ∈ BIG := big11 _ (List.mem_of_getElem? (i := 42) rfl)
theorem m593 : (Jvm.Cond.methodLink "MajorityClockModel" (174 : Nat) ({ cls := "MajorityClockModel", name := "offset", desc := "()J" } : Jvm.MethodName)) ∈ BIG := big11 _ (List.mem_of_getElem? (i := 43) rfl)
theorem m594 : (Jvm.Cond.instanceMethod ({ cls := "MajorityClockModel", name := "offset", desc := "()J" } : Jvm.MethodName)) ∈ BIG := big11 _ (List.mem_of_getElem? (i := 44) rfl)
theorem m595 : (Jvm.Cond.code ({ cls := "MajorityClockModel", name := "offset", desc := "()J" } : Jvm.MethodName) prog_7_method_31_code (5 : Nat) (Option.some Jvm.ClassFile.FieldType.long)) ∈ BIG := big11 _ (List.mem_of_getElem? (i := 45) rfl)
theorem m596 : (Jvm.Cond.constantLong "MajorityClockModel" (202 : Nat) (16 : Int64)) ∈ BIG := big11 _ (List.mem_of_getElem? (i := 46) rfl)
theorem m610 : (Jvm.Cond.instanceMethod ({ cls := "MajorityClockModel", name := "time", desc := "()J" } : Jvm.MethodName)) ∈ BIG := big12 _ (List.mem_of_getElem? (i := 10) rfl)
theorem m611 : (Jvm.Cond.selects "MajorityClockModel" ({ cls := "MajorityClockModel", name := "time", desc := "()J" } : Jvm.MethodName) ({ cls := "MajorityClockModel", name := "time", desc := "()J" } : Jvm.MethodName)) ∈ BIG := big12 _ (List.mem_of_getElem? (i := 11) rfl)
theorem m612 : (Jvm.Cond.code ({ cls := "MajorityClockModel", name := "time", desc := "()J" } : Jvm.MethodName) prog_7_method_32_code (1 : Nat) (Option.some Jvm.ClassFile.FieldType.long)) ∈ BIG := big12 _ (List.mem_of_getElem? (i := 12) rfl)
theorem m614 : (Jvm.Cond.instanceMethod ({ cls := "MajorityClockModel", name := "bound", desc := "()J" } : Jvm.MethodName)) ∈ BIG := big12 _ (List.mem_of_getElem? (i := 14) rfl)
theorem m615 : (Jvm.Cond.selects "MajorityClockModel" ({ cls := "MajorityClockModel", name := "bound", desc := "()J" } : Jvm.MethodName) ({ cls := "MajorityClockModel", name := "bound", desc := "()J" } : Jvm.MethodName)) ∈ BIG := big12 _ (List.mem_of_getElem? (i := 15) rfl)
theorem m616 : (Jvm.Cond.code ({ cls := "MajorityClockModel", name := "bound", desc := "()J" } : Jvm.MethodName) prog_7_method_33_code (3 : Nat) (Option.some Jvm.ClassFile.FieldType.long)) ∈ BIG := big12 _ (List.mem_of_getElem? (i := 16) rfl)
theorem m621 : (Jvm.Cond.methodLink "MajorityClockModel" (204 : Nat) ({ cls := "MajorityClockModel", name := "isLease", desc := "(I)Z" } : Jvm.MethodName)) ∈ BIG := big12 _ (List.mem_of_getElem? (i := 21) rfl)
theorem m622 : (Jvm.Cond.static ({ cls := "MajorityClockModel", name := "isLease", desc := "(I)Z" } : Jvm.MethodName)) ∈ BIG := big12 _ (List.mem_of_getElem? (i := 22) rfl)
theorem m623 : (Jvm.Cond.code ({ cls := "MajorityClockModel", name := "isLease", desc := "(I)Z" } : Jvm.MethodName) prog_7_method_34_code (1 : Nat) (Option.some Jvm.ClassFile.FieldType.boolean)) ∈ BIG := big12 _ (List.mem_of_getElem? (i := 23) rfl)
theorem m624 : (Jvm.Cond.methodLink "MajorityClockModel" (207 : Nat) ({ cls := "MajorityClockModel", name := "time", desc := "()J" } : Jvm.MethodName)) ∈ BIG := big12 _ (List.mem_of_getElem? (i := 24) rfl)
theorem m625 : (Jvm.Cond.methodLink "MajorityClockModel" (210 : Nat) ({ cls := "MajorityClockModel", name := "bound", desc := "()J" } : Jvm.MethodName)) ∈ BIG := big12 _ (List.mem_of_getElem? (i := 25) rfl)
theorem m630 : (Jvm.Cond.constantLong "MajorityClockModel" (213 : Nat) (-1099511627776 : Int64)) ∈ BIG := big12 _ (List.mem_of_getElem? (i := 30) rfl)
theorem m631 : (Jvm.Cond.constantLong "MajorityClockModel" (215 : Nat) (2199023255552 : Int64)) ∈ BIG := big12 _ (List.mem_of_getElem? (i := 31) rfl)
end
section
theorem d_J_max_II_0 : decode b_J_max_II 0 = .ok (.iload_n 0, 1) := by decide +kernel
theorem d_J_max_II_1 : decode b_J_max_II 1 = .ok (.iload_n 1, 1) := by decide +kernel
theorem d_J_max_II_2 : decode b_J_max_II 2 = .ok (.if_icmp .lt 7, 3) := by decide +kernel
theorem d_J_max_II_5 : decode b_J_max_II 5 = .ok (.iload_n 0, 1) := by decide +kernel
theorem d_J_max_II_6 : decode b_J_max_II 6 = .ok (.goto 4, 3) := by decide +kernel
theorem d_J_max_II_9 : decode b_J_max_II 9 = .ok (.iload_n 1, 1) := by decide +kernel
theorem d_J_max_II_10 : decode b_J_max_II 10 = .ok (.ireturn, 1) := by decide +kernel
theorem d_J_max_JJ_0 : decode b_J_max_JJ 0 = .ok (.lload_n 0, 1) := by decide +kernel
theorem d_J_max_JJ_1 : decode b_J_max_JJ 1 = .ok (.lload_n 2, 1) := by decide +kernel
theorem d_J_max_JJ_2 : decode b_J_max_JJ 2 = .ok (.lcmp, 1) := by decide +kernel
theorem d_J_max_JJ_3 : decode b_J_max_JJ 3 = .ok (.ifCond .lt 7, 3) := by decide +kernel
theorem d_J_max_JJ_6 : decode b_J_max_JJ 6 = .ok (.lload_n 0, 1) := by decide +kernel
theorem d_J_max_JJ_7 : decode b_J_max_JJ 7 = .ok (.goto 4, 3) := by decide +kernel
theorem d_J_max_JJ_10 : decode b_J_max_JJ 10 = .ok (.lload_n 2, 1) := by decide +kernel
theorem d_J_max_JJ_11 : decode b_J_max_JJ 11 = .ok (.lreturn, 1) := by decide +kernel
theorem d_J_min_II_0 : decode b_J_min_II 0 = .ok (.iload_n 0, 1) := by decide +kernel
theorem d_J_min_II_1 : decode b_J_min_II 1 = .ok (.iload_n 1, 1) := by decide +kernel
theorem d_J_min_II_2 : decode b_J_min_II 2 = .ok (.if_icmp .gt 7, 3) := by decide +kernel
theorem d_J_min_II_5 : decode b_J_min_II 5 = .ok (.iload_n 0, 1) := by decide +kernel
theorem d_J_min_II_6 : decode b_J_min_II 6 = .ok (.goto 4, 3) := by decide +kernel
theorem d_J_min_II_9 : decode b_J_min_II 9 = .ok (.iload_n 1, 1) := by decide +kernel
theorem d_J_min_II_10 : decode b_J_min_II 10 = .ok (.ireturn, 1) := by decide +kernel
theorem d_J_min_JJ_0 : decode b_J_min_JJ 0 = .ok (.lload_n 0, 1) := by decide +kernel
theorem d_J_min_JJ_1 : decode b_J_min_JJ 1 = .ok (.lload_n 2, 1) := by decide +kernel
theorem d_J_min_JJ_2 : decode b_J_min_JJ 2 = .ok (.lcmp, 1) := by decide +kernel
theorem d_J_min_JJ_3 : decode b_J_min_JJ 3 = .ok (.ifCond .gt 7, 3) := by decide +kernel
theorem d_J_min_JJ_6 : decode b_J_min_JJ 6 = .ok (.lload_n 0, 1) := by decide +kernel
theorem d_J_min_JJ_7 : decode b_J_min_JJ 7 = .ok (.goto 4, 3) := by decide +kernel
theorem d_J_min_JJ_10 : decode b_J_min_JJ 10 = .ok (.lload_n 2, 1) := by decide +kernel
theorem d_J_min_JJ_11 : decode b_J_min_JJ 11 = .ok (.lreturn, 1) := by decide +kernel
theorem d_J_abs_0 : decode b_J_abs 0 = .ok (.lload_n 0, 1) := by decide +kernel
theorem d_J_abs_1 : decode b_J_abs 1 = .ok (.lconst 0, 1) := by decide +kernel
theorem d_J_abs_2 : decode b_J_abs 2 = .ok (.lcmp, 1) := by decide +kernel
theorem d_J_abs_3 : decode b_J_abs 3 = .ok (.ifCond .ge 8, 3) := by decide +kernel
theorem d_J_abs_6 : decode b_J_abs 6 = .ok (.lload_n 0, 1) := by decide +kernel
theorem d_J_abs_7 : decode b_J_abs 7 = .ok (.lneg, 1) := by decide +kernel
theorem d_J_abs_8 : decode b_J_abs 8 = .ok (.goto 4, 3) := by decide +kernel
theorem d_J_abs_11 : decode b_J_abs 11 = .ok (.lload_n 0, 1) := by decide +kernel
theorem d_J_abs_12 : decode b_J_abs 12 = .ok (.lreturn, 1) := by decide +kernel
theorem d_J_floorDiv_0 : decode b_J_floorDiv 0 = .ok (.lload_n 0, 1) := by decide +kernel
theorem d_J_floorDiv_1 : decode b_J_floorDiv 1 = .ok (.lload_n 2, 1) := by decide +kernel
theorem d_J_floorDiv_2 : decode b_J_floorDiv 2 = .ok (.ldiv, 1) := by decide +kernel
theorem d_J_floorDiv_3 : decode b_J_floorDiv 3 = .ok (.lstore 4, 2) := by decide +kernel
theorem d_J_floorDiv_5 : decode b_J_floorDiv 5 = .ok (.lload_n 0, 1) := by decide +kernel
theorem d_J_floorDiv_6 : decode b_J_floorDiv 6 = .ok (.lload_n 2, 1) := by decide +kernel
theorem d_J_floorDiv_7 : decode b_J_floorDiv 7 = .ok (.lxor, 1) := by decide +kernel
theorem d_J_floorDiv_8 : decode b_J_floorDiv 8 = .ok (.lconst 0, 1) := by decide +kernel
theorem d_J_floorDiv_9 : decode b_J_floorDiv 9 = .ok (.lcmp, 1) := by decide +kernel
theorem d_J_floorDiv_10 : decode b_J_floorDiv 10 = .ok (.ifCond .ge 17, 3) := by decide +kernel
theorem d_J_floorDiv_13 : decode b_J_floorDiv 13 = .ok (.lload 4, 2) := by decide +kernel
theorem d_J_floorDiv_15 : decode b_J_floorDiv 15 = .ok (.lload_n 2, 1) := by decide +kernel
theorem d_J_floorDiv_16 : decode b_J_floorDiv 16 = .ok (.lmul, 1) := by decide +kernel
theorem d_J_floorDiv_17 : decode b_J_floorDiv 17 = .ok (.lload_n 0, 1) := by decide +kernel
theorem d_J_floorDiv_18 : decode b_J_floorDiv 18 = .ok (.lcmp, 1) := by decide +kernel
theorem d_J_floorDiv_19 : decode b_J_floorDiv 19 = .ok (.ifCond .eq 8, 3) := by decide +kernel
theorem d_J_floorDiv_22 : decode b_J_floorDiv 22 = .ok (.lload 4, 2) := by decide +kernel
theorem d_J_floorDiv_24 : decode b_J_floorDiv 24 = .ok (.lconst 1, 1) := by decide +kernel
theorem d_J_floorDiv_25 : decode b_J_floorDiv 25 = .ok (.lsub, 1) := by decide +kernel
theorem d_J_floorDiv_26 : decode b_J_floorDiv 26 = .ok (.lreturn, 1) := by decide +kernel
theorem d_J_floorDiv_27 : decode b_J_floorDiv 27 = .ok (.lload 4, 2) := by decide +kernel
theorem d_J_floorDiv_29 : decode b_J_floorDiv 29 = .ok (.lreturn, 1) := by decide +kernel
theorem d_M_growth_0 : decode b_M_growth 0 = .ok (.lload_n 0, 1) := by decide +kernel
theorem d_M_growth_1 : decode b_M_growth 1 = .ok (.iload_n 2, 1) := by decide +kernel
theorem d_M_growth_2 : decode b_M_growth 2 = .ok (.i2l, 1) := by decide +kernel
theorem d_M_growth_3 : decode b_M_growth 3 = .ok (.lmul, 1) := by decide +kernel
theorem d_M_growth_4 : decode b_M_growth 4 = .ok (.ldc2_w 211, 3) := by decide +kernel
theorem d_M_growth_7 : decode b_M_growth 7 = .ok (.ladd, 1) := by decide +kernel
theorem d_M_growth_8 : decode b_M_growth 8 = .ok (.lconst 1, 1) := by decide +kernel
theorem d_M_growth_9 : decode b_M_growth 9 = .ok (.lsub, 1) := by decide +kernel
theorem d_M_growth_10 : decode b_M_growth 10 = .ok (.ldc2_w 211, 3) := by decide +kernel
theorem d_M_growth_13 : decode b_M_growth 13 = .ok (.invokestatic 240, 3) := by decide +kernel
theorem d_M_growth_16 : decode b_M_growth 16 = .ok (.lreturn, 1) := by decide +kernel
theorem d_M_mixed_0 : decode b_M_mixed 0 = .ok (.lload_n 0, 1) := by decide +kernel
theorem d_M_mixed_1 : decode b_M_mixed 1 = .ok (.lload_n 2, 1) := by decide +kernel
theorem d_M_mixed_2 : decode b_M_mixed 2 = .ok (.lxor, 1) := by decide +kernel
theorem d_M_mixed_3 : decode b_M_mixed 3 = .ok (.ldc2_w 238, 3) := by decide +kernel
theorem d_M_mixed_6 : decode b_M_mixed 6 = .ok (.lmul, 1) := by decide +kernel
theorem d_M_mixed_7 : decode b_M_mixed 7 = .ok (.lstore 4, 2) := by decide +kernel
theorem d_M_mixed_9 : decode b_M_mixed 9 = .ok (.lload 4, 2) := by decide +kernel
theorem d_M_mixed_11 : decode b_M_mixed 11 = .ok (.lload 4, 2) := by decide +kernel
theorem d_M_mixed_13 : decode b_M_mixed 13 = .ok (.bipush 29, 2) := by decide +kernel
theorem d_M_mixed_15 : decode b_M_mixed 15 = .ok (.lushr, 1) := by decide +kernel
theorem d_M_mixed_16 : decode b_M_mixed 16 = .ok (.lxor, 1) := by decide +kernel
theorem d_M_mixed_17 : decode b_M_mixed 17 = .ok (.lreturn, 1) := by decide +kernel
theorem d_M_sealUnder_0 : decode b_M_sealUnder 0 = .ok (.lload_n 0, 1) := by decide +kernel
theorem d_M_sealUnder_1 : decode b_M_sealUnder 1 = .ok (.lload_n 2, 1) := by decide +kernel
theorem d_M_sealUnder_2 : decode b_M_sealUnder 2 = .ok (.invokestatic 235, 3) := by decide +kernel
theorem d_M_sealUnder_5 : decode b_M_sealUnder 5 = .ok (.lload 4, 2) := by decide +kernel
theorem d_M_sealUnder_7 : decode b_M_sealUnder 7 = .ok (.invokestatic 235, 3) := by decide +kernel
theorem d_M_sealUnder_10 : decode b_M_sealUnder 10 = .ok (.lload 6, 2) := by decide +kernel
theorem d_M_sealUnder_12 : decode b_M_sealUnder 12 = .ok (.invokestatic 235, 3) := by decide +kernel
theorem d_M_sealUnder_15 : decode b_M_sealUnder 15 = .ok (.lstore 8, 2) := by decide +kernel
theorem d_M_sealUnder_17 : decode b_M_sealUnder 17 = .ok (.lload 8, 2) := by decide +kernel
theorem d_M_sealUnder_19 : decode b_M_sealUnder 19 = .ok (.bipush 32, 2) := by decide +kernel
theorem d_M_sealUnder_21 : decode b_M_sealUnder 21 = .ok (.lushr, 1) := by decide +kernel
theorem d_M_sealUnder_22 : decode b_M_sealUnder 22 = .ok (.l2i, 1) := by decide +kernel
theorem d_M_sealUnder_23 : decode b_M_sealUnder 23 = .ok (.ireturn, 1) := by decide +kernel
theorem d_M_isReplyTime_0 : decode b_M_isReplyTime 0 = .ok (.lload_n 0, 1) := by decide +kernel
theorem d_M_isReplyTime_1 : decode b_M_isReplyTime 1 = .ok (.lconst 0, 1) := by decide +kernel
theorem d_M_isReplyTime_2 : decode b_M_isReplyTime 2 = .ok (.lcmp, 1) := by decide +kernel
theorem d_M_isReplyTime_3 : decode b_M_isReplyTime 3 = .ok (.ifCond .lt 15, 3) := by decide +kernel
theorem d_M_isReplyTime_6 : decode b_M_isReplyTime 6 = .ok (.lload_n 0, 1) := by decide +kernel
theorem d_M_isReplyTime_7 : decode b_M_isReplyTime 7 = .ok (.ldc2_w 199, 3) := by decide +kernel
theorem d_M_isReplyTime_10 : decode b_M_isReplyTime 10 = .ok (.lcmp, 1) := by decide +kernel
theorem d_M_isReplyTime_11 : decode b_M_isReplyTime 11 = .ok (.ifCond .gt 7, 3) := by decide +kernel
theorem d_M_isReplyTime_14 : decode b_M_isReplyTime 14 = .ok (.iconst 1, 1) := by decide +kernel
theorem d_M_isReplyTime_15 : decode b_M_isReplyTime 15 = .ok (.goto 4, 3) := by decide +kernel
theorem d_M_isReplyTime_18 : decode b_M_isReplyTime 18 = .ok (.iconst 0, 1) := by decide +kernel
theorem d_M_isReplyTime_19 : decode b_M_isReplyTime 19 = .ok (.ireturn, 1) := by decide +kernel
theorem d_Sv_expectReply_0 : decode b_Sv_expectReply 0 = .ok (.aload_n 0, 1) := by decide +kernel
theorem d_Sv_expectReply_1 : decode b_Sv_expectReply 1 = .ok (.iconst 1, 1) := by decide +kernel
theorem d_Sv_expectReply_2 : decode b_Sv_expectReply 2 = .ok (.putfield 25, 3) := by decide +kernel
theorem d_Sv_expectReply_5 : decode b_Sv_expectReply 5 = .ok (.aload_n 0, 1) := by decide +kernel
theorem d_Sv_expectReply_6 : decode b_Sv_expectReply 6 = .ok (.lload_n 1, 1) := by decide +kernel
theorem d_Sv_expectReply_7 : decode b_Sv_expectReply 7 = .ok (.putfield 29, 3) := by decide +kernel
theorem d_Sv_expectReply_10 : decode b_Sv_expectReply 10 = .ok (.aload_n 0, 1) := by decide +kernel
theorem d_Sv_expectReply_11 : decode b_Sv_expectReply 11 = .ok (.lload_n 3, 1) := by decide +kernel
theorem d_Sv_expectReply_12 : decode b_Sv_expectReply 12 = .ok (.putfield 33, 3) := by decide +kernel
theorem d_Sv_expectReply_15 : decode b_Sv_expectReply 15 = .ok (.return_, 1) := by decide +kernel
theorem d_Sv_acceptedLast_0 : decode b_Sv_acceptedLast 0 = .ok (.aload_n 0, 1) := by decide +kernel
theorem d_Sv_acceptedLast_1 : decode b_Sv_acceptedLast 1 = .ok (.getfield 36, 3) := by decide +kernel
theorem d_Sv_acceptedLast_4 : decode b_Sv_acceptedLast 4 = .ok (.ifCond .le 16, 3) := by decide +kernel
theorem d_Sv_acceptedLast_7 : decode b_Sv_acceptedLast 7 = .ok (.aload_n 0, 1) := by decide +kernel
theorem d_Sv_acceptedLast_8 : decode b_Sv_acceptedLast 8 = .ok (.getfield 39, 3) := by decide +kernel
theorem d_Sv_acceptedLast_11 : decode b_Sv_acceptedLast 11 = .ok (.lload_n 1, 1) := by decide +kernel
theorem d_Sv_acceptedLast_12 : decode b_Sv_acceptedLast 12 = .ok (.lcmp, 1) := by decide +kernel
theorem d_Sv_acceptedLast_13 : decode b_Sv_acceptedLast 13 = .ok (.ifCond .ne 7, 3) := by decide +kernel
theorem d_Sv_acceptedLast_16 : decode b_Sv_acceptedLast 16 = .ok (.iconst 1, 1) := by decide +kernel
theorem d_Sv_acceptedLast_17 : decode b_Sv_acceptedLast 17 = .ok (.goto 4, 3) := by decide +kernel
theorem d_Sv_acceptedLast_20 : decode b_Sv_acceptedLast 20 = .ok (.iconst 0, 1) := by decide +kernel
theorem d_Sv_acceptedLast_21 : decode b_Sv_acceptedLast 21 = .ok (.ireturn, 1) := by decide +kernel
theorem d_Sv_expects_0 : decode b_Sv_expects 0 = .ok (.aload_n 0, 1) := by decide +kernel
theorem d_Sv_expects_1 : decode b_Sv_expects 1 = .ok (.getfield 25, 3) := by decide +kernel
theorem d_Sv_expects_4 : decode b_Sv_expects 4 = .ok (.ifCond .eq 16, 3) := by decide +kernel
theorem d_Sv_expects_7 : decode b_Sv_expects 7 = .ok (.aload_n 0, 1) := by decide +kernel
theorem d_Sv_expects_8 : decode b_Sv_expects 8 = .ok (.getfield 29, 3) := by decide +kernel
theorem d_Sv_expects_11 : decode b_Sv_expects 11 = .ok (.lload_n 1, 1) := by decide +kernel
theorem d_Sv_expects_12 : decode b_Sv_expects 12 = .ok (.lcmp, 1) := by decide +kernel
theorem d_Sv_expects_13 : decode b_Sv_expects 13 = .ok (.ifCond .ne 7, 3) := by decide +kernel
theorem d_Sv_expects_16 : decode b_Sv_expects 16 = .ok (.iconst 1, 1) := by decide +kernel
theorem d_Sv_expects_17 : decode b_Sv_expects 17 = .ok (.goto 4, 3) := by decide +kernel
theorem d_Sv_expects_20 : decode b_Sv_expects 20 = .ok (.iconst 0, 1) := by decide +kernel
theorem d_Sv_expects_21 : decode b_Sv_expects 21 = .ok (.ireturn, 1) := by decide +kernel
theorem d_Sv_latestSampleTime_0 : decode b_Sv_latestSampleTime 0 = .ok (.aload_n 0, 1) := by decide +kernel
theorem d_Sv_latestSampleTime_1 : decode b_Sv_latestSampleTime 1 = .ok (.getfield 22, 3) := by decide +kernel
theorem d_Sv_latestSampleTime_4 : decode b_Sv_latestSampleTime 4 = .ok (.iconst 0, 1) := by decide +kernel
theorem d_Sv_latestSampleTime_5 : decode b_Sv_latestSampleTime 5 = .ok (.laload, 1) := by decide +kernel
theorem d_Sv_latestSampleTime_6 : decode b_Sv_latestSampleTime 6 = .ok (.lreturn, 1) := by decide +kernel
theorem d_Sv_lowerEnd_0 : decode b_Sv_lowerEnd 0 = .ok (.aload_n 0, 1) := by decide +kernel
theorem d_Sv_lowerEnd_1 : decode b_Sv_lowerEnd 1 = .ok (.getfield 15, 3) := by decide +kernel
theorem d_Sv_lowerEnd_4 : decode b_Sv_lowerEnd 4 = .ok (.iload_n 1, 1) := by decide +kernel
theorem d_Sv_lowerEnd_5 : decode b_Sv_lowerEnd 5 = .ok (.laload, 1) := by decide +kernel
theorem d_Sv_lowerEnd_6 : decode b_Sv_lowerEnd 6 = .ok (.aload_n 0, 1) := by decide +kernel
theorem d_Sv_lowerEnd_7 : decode b_Sv_lowerEnd 7 = .ok (.getfield 61, 3) := by decide +kernel
theorem d_Sv_lowerEnd_10 : decode b_Sv_lowerEnd 10 = .ok (.i2l, 1) := by decide +kernel
theorem d_Sv_lowerEnd_11 : decode b_Sv_lowerEnd 11 = .ok (.lsub, 1) := by decide +kernel
theorem d_Sv_lowerEnd_12 : decode b_Sv_lowerEnd 12 = .ok (.lload_n 2, 1) := by decide +kernel
theorem d_Sv_lowerEnd_13 : decode b_Sv_lowerEnd 13 = .ok (.aload_n 0, 1) := by decide +kernel
theorem d_Sv_lowerEnd_14 : decode b_Sv_lowerEnd 14 = .ok (.getfield 22, 3) := by decide +kernel
theorem d_Sv_lowerEnd_17 : decode b_Sv_lowerEnd 17 = .ok (.iload_n 1, 1) := by decide +kernel
end
section
theorem d_Sv_lowerEnd_18 : decode b_Sv_lowerEnd 18 = .ok (.laload, 1) := by decide +kernel
theorem d_Sv_lowerEnd_19 : decode b_Sv_lowerEnd 19 = .ok (.lsub, 1) := by decide +kernel
theorem d_Sv_lowerEnd_20 : decode b_Sv_lowerEnd 20 = .ok (.iload 4, 2) := by decide +kernel
theorem d_Sv_lowerEnd_22 : decode b_Sv_lowerEnd 22 = .ok (.invokestatic 64, 3) := by decide +kernel
theorem d_Sv_lowerEnd_25 : decode b_Sv_lowerEnd 25 = .ok (.lsub, 1) := by decide +kernel
theorem d_Sv_lowerEnd_26 : decode b_Sv_lowerEnd 26 = .ok (.lreturn, 1) := by decide +kernel
theorem d_Sv_upperEnd_0 : decode b_Sv_upperEnd 0 = .ok (.aload_n 0, 1) := by decide +kernel
theorem d_Sv_upperEnd_1 : decode b_Sv_upperEnd 1 = .ok (.getfield 19, 3) := by decide +kernel
theorem d_Sv_upperEnd_4 : decode b_Sv_upperEnd 4 = .ok (.iload_n 1, 1) := by decide +kernel
theorem d_Sv_upperEnd_5 : decode b_Sv_upperEnd 5 = .ok (.laload, 1) := by decide +kernel
theorem d_Sv_upperEnd_6 : decode b_Sv_upperEnd 6 = .ok (.aload_n 0, 1) := by decide +kernel
theorem d_Sv_upperEnd_7 : decode b_Sv_upperEnd 7 = .ok (.getfield 61, 3) := by decide +kernel
theorem d_Sv_upperEnd_10 : decode b_Sv_upperEnd 10 = .ok (.i2l, 1) := by decide +kernel
theorem d_Sv_upperEnd_11 : decode b_Sv_upperEnd 11 = .ok (.ladd, 1) := by decide +kernel
theorem d_Sv_upperEnd_12 : decode b_Sv_upperEnd 12 = .ok (.lload_n 2, 1) := by decide +kernel
theorem d_Sv_upperEnd_13 : decode b_Sv_upperEnd 13 = .ok (.aload_n 0, 1) := by decide +kernel
theorem d_Sv_upperEnd_14 : decode b_Sv_upperEnd 14 = .ok (.getfield 22, 3) := by decide +kernel
theorem d_Sv_upperEnd_17 : decode b_Sv_upperEnd 17 = .ok (.iload_n 1, 1) := by decide +kernel
theorem d_Sv_upperEnd_18 : decode b_Sv_upperEnd 18 = .ok (.laload, 1) := by decide +kernel
theorem d_Sv_upperEnd_19 : decode b_Sv_upperEnd 19 = .ok (.lsub, 1) := by decide +kernel
theorem d_Sv_upperEnd_20 : decode b_Sv_upperEnd 20 = .ok (.iload 4, 2) := by decide +kernel
theorem d_Sv_upperEnd_22 : decode b_Sv_upperEnd 22 = .ok (.invokestatic 64, 3) := by decide +kernel
theorem d_Sv_upperEnd_25 : decode b_Sv_upperEnd 25 = .ok (.ladd, 1) := by decide +kernel
theorem d_Sv_upperEnd_26 : decode b_Sv_upperEnd 26 = .ok (.lreturn, 1) := by decide +kernel
theorem d_Sv_lengthOf_0 : decode b_Sv_lengthOf 0 = .ok (.aload_n 0, 1) := by decide +kernel
theorem d_Sv_lengthOf_1 : decode b_Sv_lengthOf 1 = .ok (.iload_n 1, 1) := by decide +kernel
theorem d_Sv_lengthOf_2 : decode b_Sv_lengthOf 2 = .ok (.lload_n 2, 1) := by decide +kernel
theorem d_Sv_lengthOf_3 : decode b_Sv_lengthOf 3 = .ok (.iload 4, 2) := by decide +kernel
theorem d_Sv_lengthOf_5 : decode b_Sv_lengthOf 5 = .ok (.invokevirtual 55, 3) := by decide +kernel
theorem d_Sv_lengthOf_8 : decode b_Sv_lengthOf 8 = .ok (.aload_n 0, 1) := by decide +kernel
theorem d_Sv_lengthOf_9 : decode b_Sv_lengthOf 9 = .ok (.iload_n 1, 1) := by decide +kernel
theorem d_Sv_lengthOf_10 : decode b_Sv_lengthOf 10 = .ok (.lload_n 2, 1) := by decide +kernel
theorem d_Sv_lengthOf_11 : decode b_Sv_lengthOf 11 = .ok (.iload 4, 2) := by decide +kernel
theorem d_Sv_lengthOf_13 : decode b_Sv_lengthOf 13 = .ok (.invokevirtual 58, 3) := by decide +kernel
theorem d_Sv_lengthOf_16 : decode b_Sv_lengthOf 16 = .ok (.lsub, 1) := by decide +kernel
theorem d_Sv_lengthOf_17 : decode b_Sv_lengthOf 17 = .ok (.lreturn, 1) := by decide +kernel
theorem d_Sv_init_0 : decode b_Sv_init 0 = .ok (.aload_n 0, 1) := by decide +kernel
theorem d_Sv_init_1 : decode b_Sv_init 1 = .ok (.invokespecial 3, 3) := by decide +kernel
theorem d_Sv_init_4 : decode b_Sv_init 4 = .ok (.aload_n 0, 1) := by decide +kernel
theorem d_Sv_init_5 : decode b_Sv_init 5 = .ok (.bipush 16, 2) := by decide +kernel
theorem d_Sv_init_7 : decode b_Sv_init 7 = .ok (.putfield 9, 3) := by decide +kernel
theorem d_Sv_init_10 : decode b_Sv_init 10 = .ok (.aload_n 0, 1) := by decide +kernel
theorem d_Sv_init_11 : decode b_Sv_init 11 = .ok (.bipush 8, 2) := by decide +kernel
theorem d_Sv_init_13 : decode b_Sv_init 13 = .ok (.newarray .long, 2) := by decide +kernel
theorem d_Sv_init_15 : decode b_Sv_init 15 = .ok (.putfield 15, 3) := by decide +kernel
theorem d_Sv_init_18 : decode b_Sv_init 18 = .ok (.aload_n 0, 1) := by decide +kernel
theorem d_Sv_init_19 : decode b_Sv_init 19 = .ok (.bipush 8, 2) := by decide +kernel
theorem d_Sv_init_21 : decode b_Sv_init 21 = .ok (.newarray .long, 2) := by decide +kernel
theorem d_Sv_init_23 : decode b_Sv_init 23 = .ok (.putfield 19, 3) := by decide +kernel
theorem d_Sv_init_26 : decode b_Sv_init 26 = .ok (.aload_n 0, 1) := by decide +kernel
theorem d_Sv_init_27 : decode b_Sv_init 27 = .ok (.bipush 8, 2) := by decide +kernel
theorem d_Sv_init_29 : decode b_Sv_init 29 = .ok (.newarray .long, 2) := by decide +kernel
theorem d_Sv_init_31 : decode b_Sv_init 31 = .ok (.putfield 22, 3) := by decide +kernel
theorem d_Sv_init_34 : decode b_Sv_init 34 = .ok (.return_, 1) := by decide +kernel
theorem d_Sv_makeRoomForSample_0 : decode b_Sv_makeRoomForSample 0 = .ok (.aload_n 0, 1) := by decide +kernel
theorem d_Sv_makeRoomForSample_1 : decode b_Sv_makeRoomForSample 1 = .ok (.aload_n 0, 1) := by decide +kernel
theorem d_Sv_makeRoomForSample_2 : decode b_Sv_makeRoomForSample 2 = .ok (.getfield 36, 3) := by decide +kernel
theorem d_Sv_makeRoomForSample_5 : decode b_Sv_makeRoomForSample 5 = .ok (.iconst 1, 1) := by decide +kernel
theorem d_Sv_makeRoomForSample_6 : decode b_Sv_makeRoomForSample 6 = .ok (.iadd, 1) := by decide +kernel
theorem d_Sv_makeRoomForSample_7 : decode b_Sv_makeRoomForSample 7 = .ok (.bipush 8, 2) := by decide +kernel
theorem d_Sv_makeRoomForSample_9 : decode b_Sv_makeRoomForSample 9 = .ok (.invokestatic 45, 3) := by decide +kernel
theorem d_Sv_makeRoomForSample_12 : decode b_Sv_makeRoomForSample 12 = .ok (.putfield 36, 3) := by decide +kernel
theorem d_Sv_makeRoomForSample_15 : decode b_Sv_makeRoomForSample 15 = .ok (.aload_n 0, 1) := by decide +kernel
theorem d_Sv_makeRoomForSample_16 : decode b_Sv_makeRoomForSample 16 = .ok (.getfield 36, 3) := by decide +kernel
theorem d_Sv_makeRoomForSample_19 : decode b_Sv_makeRoomForSample 19 = .ok (.iconst 1, 1) := by decide +kernel
theorem d_Sv_makeRoomForSample_20 : decode b_Sv_makeRoomForSample 20 = .ok (.isub, 1) := by decide +kernel
theorem d_Sv_makeRoomForSample_21 : decode b_Sv_makeRoomForSample 21 = .ok (.istore_n 1, 1) := by decide +kernel
theorem d_Sv_makeRoomForSample_22 : decode b_Sv_makeRoomForSample 22 = .ok (.iload_n 1, 1) := by decide +kernel
theorem d_Sv_makeRoomForSample_23 : decode b_Sv_makeRoomForSample 23 = .ok (.ifCond .le 51, 3) := by decide +kernel
theorem d_Sv_makeRoomForSample_26 : decode b_Sv_makeRoomForSample 26 = .ok (.aload_n 0, 1) := by decide +kernel
theorem d_Sv_makeRoomForSample_27 : decode b_Sv_makeRoomForSample 27 = .ok (.getfield 15, 3) := by decide +kernel
theorem d_Sv_makeRoomForSample_30 : decode b_Sv_makeRoomForSample 30 = .ok (.iload_n 1, 1) := by decide +kernel
theorem d_Sv_makeRoomForSample_31 : decode b_Sv_makeRoomForSample 31 = .ok (.aload_n 0, 1) := by decide +kernel
theorem d_Sv_makeRoomForSample_32 : decode b_Sv_makeRoomForSample 32 = .ok (.getfield 15, 3) := by decide +kernel
theorem d_Sv_makeRoomForSample_35 : decode b_Sv_makeRoomForSample 35 = .ok (.iload_n 1, 1) := by decide +kernel
theorem d_Sv_makeRoomForSample_36 : decode b_Sv_makeRoomForSample 36 = .ok (.iconst 1, 1) := by decide +kernel
theorem d_Sv_makeRoomForSample_37 : decode b_Sv_makeRoomForSample 37 = .ok (.isub, 1) := by decide +kernel
theorem d_Sv_makeRoomForSample_38 : decode b_Sv_makeRoomForSample 38 = .ok (.laload, 1) := by decide +kernel
theorem d_Sv_makeRoomForSample_39 : decode b_Sv_makeRoomForSample 39 = .ok (.lastore, 1) := by decide +kernel
theorem d_Sv_makeRoomForSample_40 : decode b_Sv_makeRoomForSample 40 = .ok (.aload_n 0, 1) := by decide +kernel
theorem d_Sv_makeRoomForSample_41 : decode b_Sv_makeRoomForSample 41 = .ok (.getfield 19, 3) := by decide +kernel
theorem d_Sv_makeRoomForSample_44 : decode b_Sv_makeRoomForSample 44 = .ok (.iload_n 1, 1) := by decide +kernel
theorem d_Sv_makeRoomForSample_45 : decode b_Sv_makeRoomForSample 45 = .ok (.aload_n 0, 1) := by decide +kernel
theorem d_Sv_makeRoomForSample_46 : decode b_Sv_makeRoomForSample 46 = .ok (.getfield 19, 3) := by decide +kernel
theorem d_Sv_makeRoomForSample_49 : decode b_Sv_makeRoomForSample 49 = .ok (.iload_n 1, 1) := by decide +kernel
theorem d_Sv_makeRoomForSample_50 : decode b_Sv_makeRoomForSample 50 = .ok (.iconst 1, 1) := by decide +kernel
theorem d_Sv_makeRoomForSample_51 : decode b_Sv_makeRoomForSample 51 = .ok (.isub, 1) := by decide +kernel
theorem d_Sv_makeRoomForSample_52 : decode b_Sv_makeRoomForSample 52 = .ok (.laload, 1) := by decide +kernel
theorem d_Sv_makeRoomForSample_53 : decode b_Sv_makeRoomForSample 53 = .ok (.lastore, 1) := by decide +kernel
theorem d_Sv_makeRoomForSample_54 : decode b_Sv_makeRoomForSample 54 = .ok (.aload_n 0, 1) := by decide +kernel
theorem d_Sv_makeRoomForSample_55 : decode b_Sv_makeRoomForSample 55 = .ok (.getfield 22, 3) := by decide +kernel
theorem d_Sv_makeRoomForSample_58 : decode b_Sv_makeRoomForSample 58 = .ok (.iload_n 1, 1) := by decide +kernel
theorem d_Sv_makeRoomForSample_59 : decode b_Sv_makeRoomForSample 59 = .ok (.aload_n 0, 1) := by decide +kernel
theorem d_Sv_makeRoomForSample_60 : decode b_Sv_makeRoomForSample 60 = .ok (.getfield 22, 3) := by decide +kernel
theorem d_Sv_makeRoomForSample_63 : decode b_Sv_makeRoomForSample 63 = .ok (.iload_n 1, 1) := by decide +kernel
theorem d_Sv_makeRoomForSample_64 : decode b_Sv_makeRoomForSample 64 = .ok (.iconst 1, 1) := by decide +kernel
theorem d_Sv_makeRoomForSample_65 : decode b_Sv_makeRoomForSample 65 = .ok (.isub, 1) := by decide +kernel
theorem d_Sv_makeRoomForSample_66 : decode b_Sv_makeRoomForSample 66 = .ok (.laload, 1) := by decide +kernel
theorem d_Sv_makeRoomForSample_67 : decode b_Sv_makeRoomForSample 67 = .ok (.lastore, 1) := by decide +kernel
theorem d_Sv_makeRoomForSample_68 : decode b_Sv_makeRoomForSample 68 = .ok (.iinc 1 (-1), 3) := by decide +kernel
theorem d_Sv_makeRoomForSample_71 : decode b_Sv_makeRoomForSample 71 = .ok (.goto (-49), 3) := by decide +kernel
theorem d_Sv_makeRoomForSample_74 : decode b_Sv_makeRoomForSample 74 = .ok (.return_, 1) := by decide +kernel
theorem d_Sv_accept_0 : decode b_Sv_accept 0 = .ok (.aload_n 0, 1) := by decide +kernel
theorem d_Sv_accept_1 : decode b_Sv_accept 1 = .ok (.invokevirtual 42, 3) := by decide +kernel
theorem d_Sv_accept_4 : decode b_Sv_accept 4 = .ok (.aload_n 0, 1) := by decide +kernel
theorem d_Sv_accept_5 : decode b_Sv_accept 5 = .ok (.getfield 15, 3) := by decide +kernel
theorem d_Sv_accept_8 : decode b_Sv_accept 8 = .ok (.iconst 0, 1) := by decide +kernel
theorem d_Sv_accept_9 : decode b_Sv_accept 9 = .ok (.lload 5, 2) := by decide +kernel
theorem d_Sv_accept_11 : decode b_Sv_accept 11 = .ok (.lload 7, 2) := by decide +kernel
theorem d_Sv_accept_13 : decode b_Sv_accept 13 = .ok (.lsub, 1) := by decide +kernel
theorem d_Sv_accept_14 : decode b_Sv_accept 14 = .ok (.lastore, 1) := by decide +kernel
theorem d_Sv_accept_15 : decode b_Sv_accept 15 = .ok (.aload_n 0, 1) := by decide +kernel
theorem d_Sv_accept_16 : decode b_Sv_accept 16 = .ok (.getfield 19, 3) := by decide +kernel
theorem d_Sv_accept_19 : decode b_Sv_accept 19 = .ok (.iconst 0, 1) := by decide +kernel
theorem d_Sv_accept_20 : decode b_Sv_accept 20 = .ok (.lload_n 3, 1) := by decide +kernel
theorem d_Sv_accept_21 : decode b_Sv_accept 21 = .ok (.aload_n 0, 1) := by decide +kernel
theorem d_Sv_accept_22 : decode b_Sv_accept 22 = .ok (.getfield 33, 3) := by decide +kernel
theorem d_Sv_accept_25 : decode b_Sv_accept 25 = .ok (.lsub, 1) := by decide +kernel
theorem d_Sv_accept_26 : decode b_Sv_accept 26 = .ok (.lastore, 1) := by decide +kernel
theorem d_Sv_accept_27 : decode b_Sv_accept 27 = .ok (.aload_n 0, 1) := by decide +kernel
theorem d_Sv_accept_28 : decode b_Sv_accept 28 = .ok (.getfield 22, 3) := by decide +kernel
theorem d_Sv_accept_31 : decode b_Sv_accept 31 = .ok (.iconst 0, 1) := by decide +kernel
theorem d_Sv_accept_32 : decode b_Sv_accept 32 = .ok (.lload 7, 2) := by decide +kernel
theorem d_Sv_accept_34 : decode b_Sv_accept 34 = .ok (.lastore, 1) := by decide +kernel
theorem d_Sv_accept_35 : decode b_Sv_accept 35 = .ok (.aload_n 0, 1) := by decide +kernel
theorem d_Sv_accept_36 : decode b_Sv_accept 36 = .ok (.lload_n 1, 1) := by decide +kernel
theorem d_Sv_accept_37 : decode b_Sv_accept 37 = .ok (.putfield 39, 3) := by decide +kernel
theorem d_Sv_accept_40 : decode b_Sv_accept 40 = .ok (.aload_n 0, 1) := by decide +kernel
theorem d_Sv_accept_41 : decode b_Sv_accept 41 = .ok (.iconst 0, 1) := by decide +kernel
theorem d_Sv_accept_42 : decode b_Sv_accept 42 = .ok (.putfield 25, 3) := by decide +kernel
theorem d_Sv_accept_45 : decode b_Sv_accept 45 = .ok (.return_, 1) := by decide +kernel
theorem d_Sv_shortestSample_0 : decode b_Sv_shortestSample 0 = .ok (.iconst 0, 1) := by decide +kernel
theorem d_Sv_shortestSample_1 : decode b_Sv_shortestSample 1 = .ok (.istore 4, 2) := by decide +kernel
theorem d_Sv_shortestSample_3 : decode b_Sv_shortestSample 3 = .ok (.iconst 1, 1) := by decide +kernel
theorem d_Sv_shortestSample_4 : decode b_Sv_shortestSample 4 = .ok (.istore 5, 2) := by decide +kernel
theorem d_Sv_shortestSample_6 : decode b_Sv_shortestSample 6 = .ok (.iload 5, 2) := by decide +kernel
theorem d_Sv_shortestSample_8 : decode b_Sv_shortestSample 8 = .ok (.aload_n 0, 1) := by decide +kernel
theorem d_Sv_shortestSample_9 : decode b_Sv_shortestSample 9 = .ok (.getfield 36, 3) := by decide +kernel
theorem d_Sv_shortestSample_12 : decode b_Sv_shortestSample 12 = .ok (.if_icmp .ge 33, 3) := by decide +kernel
theorem d_Sv_shortestSample_15 : decode b_Sv_shortestSample 15 = .ok (.aload_n 0, 1) := by decide +kernel
theorem d_Sv_shortestSample_16 : decode b_Sv_shortestSample 16 = .ok (.iload 5, 2) := by decide +kernel
theorem d_Sv_shortestSample_18 : decode b_Sv_shortestSample 18 = .ok (.lload_n 1, 1) := by decide +kernel
theorem d_Sv_shortestSample_19 : decode b_Sv_shortestSample 19 = .ok (.iload_n 3, 1) := by decide +kernel
theorem d_Sv_shortestSample_20 : decode b_Sv_shortestSample 20 = .ok (.invokevirtual 51, 3) := by decide +kernel
theorem d_Sv_shortestSample_23 : decode b_Sv_shortestSample 23 = .ok (.aload_n 0, 1) := by decide +kernel
theorem d_Sv_shortestSample_24 : decode b_Sv_shortestSample 24 = .ok (.iload 4, 2) := by decide +kernel
theorem d_Sv_shortestSample_26 : decode b_Sv_shortestSample 26 = .ok (.lload_n 1, 1) := by decide +kernel
theorem d_Sv_shortestSample_27 : decode b_Sv_shortestSample 27 = .ok (.iload_n 3, 1) := by decide +kernel
theorem d_Sv_shortestSample_28 : decode b_Sv_shortestSample 28 = .ok (.invokevirtual 51, 3) := by decide +kernel
theorem d_Sv_shortestSample_31 : decode b_Sv_shortestSample 31 = .ok (.lcmp, 1) := by decide +kernel
theorem d_Sv_shortestSample_32 : decode b_Sv_shortestSample 32 = .ok (.ifCond .ge 7, 3) := by decide +kernel
theorem d_Sv_shortestSample_35 : decode b_Sv_shortestSample 35 = .ok (.iload 5, 2) := by decide +kernel
theorem d_Sv_shortestSample_37 : decode b_Sv_shortestSample 37 = .ok (.istore 4, 2) := by decide +kernel
theorem d_Sv_shortestSample_39 : decode b_Sv_shortestSample 39 = .ok (.iinc 5 1, 3) := by decide +kernel
theorem d_Sv_shortestSample_42 : decode b_Sv_shortestSample 42 = .ok (.goto (-36), 3) := by decide +kernel
theorem d_Sv_shortestSample_45 : decode b_Sv_shortestSample 45 = .ok (.iload 4, 2) := by decide +kernel
theorem d_Sv_shortestSample_47 : decode b_Sv_shortestSample 47 = .ok (.ireturn, 1) := by decide +kernel
theorem d_E_init_0 : decode b_E_init 0 = .ok (.aload_n 0, 1) := by decide +kernel
theorem d_E_init_1 : decode b_E_init 1 = .ok (.invokespecial 3, 3) := by decide +kernel
theorem d_E_init_4 : decode b_E_init 4 = .ok (.aload_n 0, 1) := by decide +kernel
end
section
theorem d_E_init_5 : decode b_E_init 5 = .ok (.bipush 6, 2) := by decide +kernel
theorem d_E_init_7 : decode b_E_init 7 = .ok (.newarray .int, 2) := by decide +kernel
theorem d_E_init_9 : decode b_E_init 9 = .ok (.putfield 9, 3) := by decide +kernel
theorem d_E_init_12 : decode b_E_init 12 = .ok (.aload_n 0, 1) := by decide +kernel
theorem d_E_init_13 : decode b_E_init 13 = .ok (.bipush 6, 2) := by decide +kernel
theorem d_E_init_15 : decode b_E_init 15 = .ok (.newarray .long, 2) := by decide +kernel
theorem d_E_init_17 : decode b_E_init 17 = .ok (.putfield 15, 3) := by decide +kernel
theorem d_E_init_20 : decode b_E_init 20 = .ok (.aload_n 0, 1) := by decide +kernel
theorem d_E_init_21 : decode b_E_init 21 = .ok (.bipush 6, 2) := by decide +kernel
theorem d_E_init_23 : decode b_E_init 23 = .ok (.newarray .long, 2) := by decide +kernel
theorem d_E_init_25 : decode b_E_init 25 = .ok (.putfield 19, 3) := by decide +kernel
theorem d_E_init_28 : decode b_E_init 28 = .ok (.return_, 1) := by decide +kernel
theorem d_E_clear_0 : decode b_E_clear 0 = .ok (.aload_n 0, 1) := by decide +kernel
theorem d_E_clear_1 : decode b_E_clear 1 = .ok (.iconst 0, 1) := by decide +kernel
theorem d_E_clear_2 : decode b_E_clear 2 = .ok (.putfield 22, 3) := by decide +kernel
theorem d_E_clear_5 : decode b_E_clear 5 = .ok (.return_, 1) := by decide +kernel
theorem d_E_put_0 : decode b_E_put 0 = .ok (.aload_n 0, 1) := by decide +kernel
theorem d_E_put_1 : decode b_E_put 1 = .ok (.getfield 9, 3) := by decide +kernel
theorem d_E_put_4 : decode b_E_put 4 = .ok (.iload_n 1, 1) := by decide +kernel
theorem d_E_put_5 : decode b_E_put 5 = .ok (.iload_n 2, 1) := by decide +kernel
theorem d_E_put_6 : decode b_E_put 6 = .ok (.iastore, 1) := by decide +kernel
theorem d_E_put_7 : decode b_E_put 7 = .ok (.aload_n 0, 1) := by decide +kernel
theorem d_E_put_8 : decode b_E_put 8 = .ok (.getfield 15, 3) := by decide +kernel
theorem d_E_put_11 : decode b_E_put 11 = .ok (.iload_n 1, 1) := by decide +kernel
theorem d_E_put_12 : decode b_E_put 12 = .ok (.lload_n 3, 1) := by decide +kernel
theorem d_E_put_13 : decode b_E_put 13 = .ok (.lastore, 1) := by decide +kernel
theorem d_E_put_14 : decode b_E_put 14 = .ok (.aload_n 0, 1) := by decide +kernel
theorem d_E_put_15 : decode b_E_put 15 = .ok (.getfield 19, 3) := by decide +kernel
theorem d_E_put_18 : decode b_E_put 18 = .ok (.iload_n 1, 1) := by decide +kernel
theorem d_E_put_19 : decode b_E_put 19 = .ok (.lload 5, 2) := by decide +kernel
theorem d_E_put_21 : decode b_E_put 21 = .ok (.lastore, 1) := by decide +kernel
theorem d_E_put_22 : decode b_E_put 22 = .ok (.return_, 1) := by decide +kernel
theorem d_E_enter_0 : decode b_E_enter 0 = .ok (.aload_n 0, 1) := by decide +kernel
theorem d_E_enter_1 : decode b_E_enter 1 = .ok (.getfield 22, 3) := by decide +kernel
theorem d_E_enter_4 : decode b_E_enter 4 = .ok (.bipush 6, 2) := by decide +kernel
theorem d_E_enter_6 : decode b_E_enter 6 = .ok (.if_icmp .ge 25, 3) := by decide +kernel
theorem d_E_enter_9 : decode b_E_enter 9 = .ok (.aload_n 0, 1) := by decide +kernel
theorem d_E_enter_10 : decode b_E_enter 10 = .ok (.aload_n 0, 1) := by decide +kernel
theorem d_E_enter_11 : decode b_E_enter 11 = .ok (.getfield 22, 3) := by decide +kernel
theorem d_E_enter_14 : decode b_E_enter 14 = .ok (.iload_n 1, 1) := by decide +kernel
theorem d_E_enter_15 : decode b_E_enter 15 = .ok (.lload_n 2, 1) := by decide +kernel
theorem d_E_enter_16 : decode b_E_enter 16 = .ok (.lload 4, 2) := by decide +kernel
theorem d_E_enter_18 : decode b_E_enter 18 = .ok (.invokevirtual 26, 3) := by decide +kernel
theorem d_E_enter_21 : decode b_E_enter 21 = .ok (.aload_n 0, 1) := by decide +kernel
theorem d_E_enter_22 : decode b_E_enter 22 = .ok (.dup, 1) := by decide +kernel
theorem d_E_enter_23 : decode b_E_enter 23 = .ok (.getfield 22, 3) := by decide +kernel
theorem d_E_enter_26 : decode b_E_enter 26 = .ok (.iconst 1, 1) := by decide +kernel
theorem d_E_enter_27 : decode b_E_enter 27 = .ok (.iadd, 1) := by decide +kernel
theorem d_E_enter_28 : decode b_E_enter 28 = .ok (.putfield 22, 3) := by decide +kernel
theorem d_E_enter_31 : decode b_E_enter 31 = .ok (.return_, 1) := by decide +kernel
theorem d_E_intervalsAround_0 : decode b_E_intervalsAround 0 = .ok (.iconst 0, 1) := by decide +kernel
theorem d_E_intervalsAround_1 : decode b_E_intervalsAround 1 = .ok (.istore_n 3, 1) := by decide +kernel
theorem d_E_intervalsAround_2 : decode b_E_intervalsAround 2 = .ok (.iconst 0, 1) := by decide +kernel
theorem d_E_intervalsAround_3 : decode b_E_intervalsAround 3 = .ok (.istore 4, 2) := by decide +kernel
theorem d_E_intervalsAround_5 : decode b_E_intervalsAround 5 = .ok (.iload 4, 2) := by decide +kernel
theorem d_E_intervalsAround_7 : decode b_E_intervalsAround 7 = .ok (.aload_n 0, 1) := by decide +kernel
theorem d_E_intervalsAround_8 : decode b_E_intervalsAround 8 = .ok (.getfield 22, 3) := by decide +kernel
theorem d_E_intervalsAround_11 : decode b_E_intervalsAround 11 = .ok (.if_icmp .ge 36, 3) := by decide +kernel
theorem d_E_intervalsAround_14 : decode b_E_intervalsAround 14 = .ok (.aload_n 0, 1) := by decide +kernel
theorem d_E_intervalsAround_15 : decode b_E_intervalsAround 15 = .ok (.getfield 15, 3) := by decide +kernel
theorem d_E_intervalsAround_18 : decode b_E_intervalsAround 18 = .ok (.iload 4, 2) := by decide +kernel
theorem d_E_intervalsAround_20 : decode b_E_intervalsAround 20 = .ok (.laload, 1) := by decide +kernel
theorem d_E_intervalsAround_21 : decode b_E_intervalsAround 21 = .ok (.lload_n 1, 1) := by decide +kernel
theorem d_E_intervalsAround_22 : decode b_E_intervalsAround 22 = .ok (.lcmp, 1) := by decide +kernel
theorem d_E_intervalsAround_23 : decode b_E_intervalsAround 23 = .ok (.ifCond .gt 18, 3) := by decide +kernel
theorem d_E_intervalsAround_26 : decode b_E_intervalsAround 26 = .ok (.lload_n 1, 1) := by decide +kernel
theorem d_E_intervalsAround_27 : decode b_E_intervalsAround 27 = .ok (.aload_n 0, 1) := by decide +kernel
theorem d_E_intervalsAround_28 : decode b_E_intervalsAround 28 = .ok (.getfield 19, 3) := by decide +kernel
theorem d_E_intervalsAround_31 : decode b_E_intervalsAround 31 = .ok (.iload 4, 2) := by decide +kernel
theorem d_E_intervalsAround_33 : decode b_E_intervalsAround 33 = .ok (.laload, 1) := by decide +kernel
theorem d_E_intervalsAround_34 : decode b_E_intervalsAround 34 = .ok (.lcmp, 1) := by decide +kernel
theorem d_E_intervalsAround_35 : decode b_E_intervalsAround 35 = .ok (.ifCond .gt 6, 3) := by decide +kernel
theorem d_E_intervalsAround_38 : decode b_E_intervalsAround 38 = .ok (.iinc 3 1, 3) := by decide +kernel
theorem d_E_intervalsAround_41 : decode b_E_intervalsAround 41 = .ok (.iinc 4 1, 3) := by decide +kernel
theorem d_E_intervalsAround_44 : decode b_E_intervalsAround 44 = .ok (.goto (-39), 3) := by decide +kernel
theorem d_E_intervalsAround_47 : decode b_E_intervalsAround 47 = .ok (.iload_n 3, 1) := by decide +kernel
theorem d_E_intervalsAround_48 : decode b_E_intervalsAround 48 = .ok (.ireturn, 1) := by decide +kernel
theorem d_E_findHullOf_0 : decode b_E_findHullOf 0 = .ok (.ldc2_w 36, 3) := by decide +kernel
theorem d_E_findHullOf_3 : decode b_E_findHullOf 3 = .ok (.lstore_n 2, 1) := by decide +kernel
theorem d_E_findHullOf_4 : decode b_E_findHullOf 4 = .ok (.ldc2_w 38, 3) := by decide +kernel
theorem d_E_findHullOf_7 : decode b_E_findHullOf 7 = .ok (.lstore 4, 2) := by decide +kernel
theorem d_E_findHullOf_9 : decode b_E_findHullOf 9 = .ok (.iconst 0, 1) := by decide +kernel
theorem d_E_findHullOf_10 : decode b_E_findHullOf 10 = .ok (.istore 6, 2) := by decide +kernel
theorem d_E_findHullOf_12 : decode b_E_findHullOf 12 = .ok (.iload 6, 2) := by decide +kernel
theorem d_E_findHullOf_14 : decode b_E_findHullOf 14 = .ok (.aload_n 0, 1) := by decide +kernel
theorem d_E_findHullOf_15 : decode b_E_findHullOf 15 = .ok (.getfield 22, 3) := by decide +kernel
theorem d_E_findHullOf_18 : decode b_E_findHullOf 18 = .ok (.if_icmp .ge 65, 3) := by decide +kernel
theorem d_E_findHullOf_21 : decode b_E_findHullOf 21 = .ok (.aload_n 0, 1) := by decide +kernel
theorem d_E_findHullOf_22 : decode b_E_findHullOf 22 = .ok (.aload_n 0, 1) := by decide +kernel
theorem d_E_findHullOf_23 : decode b_E_findHullOf 23 = .ok (.getfield 15, 3) := by decide +kernel
theorem d_E_findHullOf_26 : decode b_E_findHullOf 26 = .ok (.iload 6, 2) := by decide +kernel
theorem d_E_findHullOf_28 : decode b_E_findHullOf 28 = .ok (.laload, 1) := by decide +kernel
theorem d_E_findHullOf_29 : decode b_E_findHullOf 29 = .ok (.invokevirtual 40, 3) := by decide +kernel
theorem d_E_findHullOf_32 : decode b_E_findHullOf 32 = .ok (.iload_n 1, 1) := by decide +kernel
theorem d_E_findHullOf_33 : decode b_E_findHullOf 33 = .ok (.if_icmp .lt 15, 3) := by decide +kernel
theorem d_E_findHullOf_36 : decode b_E_findHullOf 36 = .ok (.lload_n 2, 1) := by decide +kernel
theorem d_E_findHullOf_37 : decode b_E_findHullOf 37 = .ok (.aload_n 0, 1) := by decide +kernel
theorem d_E_findHullOf_38 : decode b_E_findHullOf 38 = .ok (.getfield 15, 3) := by decide +kernel
theorem d_E_findHullOf_41 : decode b_E_findHullOf 41 = .ok (.iload 6, 2) := by decide +kernel
theorem d_E_findHullOf_43 : decode b_E_findHullOf 43 = .ok (.laload, 1) := by decide +kernel
theorem d_E_findHullOf_44 : decode b_E_findHullOf 44 = .ok (.invokestatic 44, 3) := by decide +kernel
theorem d_E_findHullOf_47 : decode b_E_findHullOf 47 = .ok (.lstore_n 2, 1) := by decide +kernel
theorem d_E_findHullOf_48 : decode b_E_findHullOf 48 = .ok (.aload_n 0, 1) := by decide +kernel
theorem d_E_findHullOf_49 : decode b_E_findHullOf 49 = .ok (.aload_n 0, 1) := by decide +kernel
theorem d_E_findHullOf_50 : decode b_E_findHullOf 50 = .ok (.getfield 19, 3) := by decide +kernel
theorem d_E_findHullOf_53 : decode b_E_findHullOf 53 = .ok (.iload 6, 2) := by decide +kernel
theorem d_E_findHullOf_55 : decode b_E_findHullOf 55 = .ok (.laload, 1) := by decide +kernel
theorem d_E_findHullOf_56 : decode b_E_findHullOf 56 = .ok (.invokevirtual 40, 3) := by decide +kernel
theorem d_E_findHullOf_59 : decode b_E_findHullOf 59 = .ok (.iload_n 1, 1) := by decide +kernel
theorem d_E_findHullOf_60 : decode b_E_findHullOf 60 = .ok (.if_icmp .lt 17, 3) := by decide +kernel
theorem d_E_findHullOf_63 : decode b_E_findHullOf 63 = .ok (.lload 4, 2) := by decide +kernel
theorem d_E_findHullOf_65 : decode b_E_findHullOf 65 = .ok (.aload_n 0, 1) := by decide +kernel
theorem d_E_findHullOf_66 : decode b_E_findHullOf 66 = .ok (.getfield 19, 3) := by decide +kernel
theorem d_E_findHullOf_69 : decode b_E_findHullOf 69 = .ok (.iload 6, 2) := by decide +kernel
theorem d_E_findHullOf_71 : decode b_E_findHullOf 71 = .ok (.laload, 1) := by decide +kernel
theorem d_E_findHullOf_72 : decode b_E_findHullOf 72 = .ok (.invokestatic 50, 3) := by decide +kernel
theorem d_E_findHullOf_75 : decode b_E_findHullOf 75 = .ok (.lstore 4, 2) := by decide +kernel
theorem d_E_findHullOf_77 : decode b_E_findHullOf 77 = .ok (.iinc 6 1, 3) := by decide +kernel
theorem d_E_findHullOf_80 : decode b_E_findHullOf 80 = .ok (.goto (-68), 3) := by decide +kernel
theorem d_E_findHullOf_83 : decode b_E_findHullOf 83 = .ok (.lload_n 2, 1) := by decide +kernel
theorem d_E_findHullOf_84 : decode b_E_findHullOf 84 = .ok (.lload 4, 2) := by decide +kernel
theorem d_E_findHullOf_86 : decode b_E_findHullOf 86 = .ok (.lcmp, 1) := by decide +kernel
theorem d_E_findHullOf_87 : decode b_E_findHullOf 87 = .ok (.ifCond .le 5, 3) := by decide +kernel
theorem d_E_findHullOf_90 : decode b_E_findHullOf 90 = .ok (.iconst 0, 1) := by decide +kernel
theorem d_E_findHullOf_91 : decode b_E_findHullOf 91 = .ok (.ireturn, 1) := by decide +kernel
theorem d_E_findHullOf_92 : decode b_E_findHullOf 92 = .ok (.aload_n 0, 1) := by decide +kernel
theorem d_E_findHullOf_93 : decode b_E_findHullOf 93 = .ok (.lload_n 2, 1) := by decide +kernel
theorem d_E_findHullOf_94 : decode b_E_findHullOf 94 = .ok (.putfield 53, 3) := by decide +kernel
theorem d_E_findHullOf_97 : decode b_E_findHullOf 97 = .ok (.aload_n 0, 1) := by decide +kernel
theorem d_E_findHullOf_98 : decode b_E_findHullOf 98 = .ok (.lload 4, 2) := by decide +kernel
theorem d_E_findHullOf_100 : decode b_E_findHullOf 100 = .ok (.putfield 57, 3) := by decide +kernel
theorem d_E_findHullOf_103 : decode b_E_findHullOf 103 = .ok (.iconst 1, 1) := by decide +kernel
theorem d_E_findHullOf_104 : decode b_E_findHullOf 104 = .ok (.ireturn, 1) := by decide +kernel
theorem d_E_findHull_0 : decode b_E_findHull 0 = .ok (.iconst 0, 1) := by decide +kernel
theorem d_E_findHull_1 : decode b_E_findHull 1 = .ok (.istore_n 1, 1) := by decide +kernel
theorem d_E_findHull_2 : decode b_E_findHull 2 = .ok (.iconst 2, 1) := by decide +kernel
theorem d_E_findHull_3 : decode b_E_findHull 3 = .ok (.iload_n 1, 1) := by decide +kernel
theorem d_E_findHull_4 : decode b_E_findHull 4 = .ok (.imul, 1) := by decide +kernel
theorem d_E_findHull_5 : decode b_E_findHull 5 = .ok (.aload_n 0, 1) := by decide +kernel
theorem d_E_findHull_6 : decode b_E_findHull 6 = .ok (.getfield 22, 3) := by decide +kernel
theorem d_E_findHull_9 : decode b_E_findHull 9 = .ok (.if_icmp .ge 24, 3) := by decide +kernel
theorem d_E_findHull_12 : decode b_E_findHull 12 = .ok (.aload_n 0, 1) := by decide +kernel
theorem d_E_findHull_13 : decode b_E_findHull 13 = .ok (.aload_n 0, 1) := by decide +kernel
theorem d_E_findHull_14 : decode b_E_findHull 14 = .ok (.getfield 22, 3) := by decide +kernel
theorem d_E_findHull_17 : decode b_E_findHull 17 = .ok (.iload_n 1, 1) := by decide +kernel
theorem d_E_findHull_18 : decode b_E_findHull 18 = .ok (.isub, 1) := by decide +kernel
theorem d_E_findHull_19 : decode b_E_findHull 19 = .ok (.invokevirtual 30, 3) := by decide +kernel
theorem d_E_findHull_22 : decode b_E_findHull 22 = .ok (.ifCond .eq 5, 3) := by decide +kernel
theorem d_E_findHull_25 : decode b_E_findHull 25 = .ok (.iconst 1, 1) := by decide +kernel
theorem d_E_findHull_26 : decode b_E_findHull 26 = .ok (.ireturn, 1) := by decide +kernel
theorem d_E_findHull_27 : decode b_E_findHull 27 = .ok (.iinc 1 1, 3) := by decide +kernel
theorem d_E_findHull_30 : decode b_E_findHull 30 = .ok (.goto (-28), 3) := by decide +kernel
theorem d_E_findHull_33 : decode b_E_findHull 33 = .ok (.iconst 0, 1) := by decide +kernel
theorem d_E_findHull_34 : decode b_E_findHull 34 = .ok (.ireturn, 1) := by decide +kernel
theorem d_E_keepThoseAtHull_0 : decode b_E_keepThoseAtHull 0 = .ok (.iconst 0, 1) := by decide +kernel
theorem d_E_keepThoseAtHull_1 : decode b_E_keepThoseAtHull 1 = .ok (.istore_n 1, 1) := by decide +kernel
theorem d_E_keepThoseAtHull_2 : decode b_E_keepThoseAtHull 2 = .ok (.iconst 0, 1) := by decide +kernel
theorem d_E_keepThoseAtHull_3 : decode b_E_keepThoseAtHull 3 = .ok (.istore_n 2, 1) := by decide +kernel
theorem d_E_keepThoseAtHull_4 : decode b_E_keepThoseAtHull 4 = .ok (.iload_n 2, 1) := by decide +kernel
theorem d_E_keepThoseAtHull_5 : decode b_E_keepThoseAtHull 5 = .ok (.aload_n 0, 1) := by decide +kernel
end
section
theorem d_E_keepThoseAtHull_6 : decode b_E_keepThoseAtHull 6 = .ok (.getfield 22, 3) := by decide +kernel
theorem d_E_keepThoseAtHull_9 : decode b_E_keepThoseAtHull 9 = .ok (.if_icmp .ge 63, 3) := by decide +kernel
theorem d_E_keepThoseAtHull_12 : decode b_E_keepThoseAtHull 12 = .ok (.aload_n 0, 1) := by decide +kernel
theorem d_E_keepThoseAtHull_13 : decode b_E_keepThoseAtHull 13 = .ok (.getfield 15, 3) := by decide +kernel
theorem d_E_keepThoseAtHull_16 : decode b_E_keepThoseAtHull 16 = .ok (.iload_n 2, 1) := by decide +kernel
theorem d_E_keepThoseAtHull_17 : decode b_E_keepThoseAtHull 17 = .ok (.laload, 1) := by decide +kernel
theorem d_E_keepThoseAtHull_18 : decode b_E_keepThoseAtHull 18 = .ok (.aload_n 0, 1) := by decide +kernel
theorem d_E_keepThoseAtHull_19 : decode b_E_keepThoseAtHull 19 = .ok (.getfield 57, 3) := by decide +kernel
theorem d_E_keepThoseAtHull_22 : decode b_E_keepThoseAtHull 22 = .ok (.lcmp, 1) := by decide +kernel
theorem d_E_keepThoseAtHull_23 : decode b_E_keepThoseAtHull 23 = .ok (.ifCond .gt 43, 3) := by decide +kernel
theorem d_E_keepThoseAtHull_26 : decode b_E_keepThoseAtHull 26 = .ok (.aload_n 0, 1) := by decide +kernel
theorem d_E_keepThoseAtHull_27 : decode b_E_keepThoseAtHull 27 = .ok (.getfield 19, 3) := by decide +kernel
theorem d_E_keepThoseAtHull_30 : decode b_E_keepThoseAtHull 30 = .ok (.iload_n 2, 1) := by decide +kernel
theorem d_E_keepThoseAtHull_31 : decode b_E_keepThoseAtHull 31 = .ok (.laload, 1) := by decide +kernel
theorem d_E_keepThoseAtHull_32 : decode b_E_keepThoseAtHull 32 = .ok (.aload_n 0, 1) := by decide +kernel
theorem d_E_keepThoseAtHull_33 : decode b_E_keepThoseAtHull 33 = .ok (.getfield 53, 3) := by decide +kernel
theorem d_E_keepThoseAtHull_36 : decode b_E_keepThoseAtHull 36 = .ok (.lcmp, 1) := by decide +kernel
theorem d_E_keepThoseAtHull_37 : decode b_E_keepThoseAtHull 37 = .ok (.ifCond .lt 29, 3) := by decide +kernel
theorem d_E_keepThoseAtHull_40 : decode b_E_keepThoseAtHull 40 = .ok (.aload_n 0, 1) := by decide +kernel
theorem d_E_keepThoseAtHull_41 : decode b_E_keepThoseAtHull 41 = .ok (.iload_n 1, 1) := by decide +kernel
theorem d_E_keepThoseAtHull_42 : decode b_E_keepThoseAtHull 42 = .ok (.aload_n 0, 1) := by decide +kernel
theorem d_E_keepThoseAtHull_43 : decode b_E_keepThoseAtHull 43 = .ok (.getfield 9, 3) := by decide +kernel
theorem d_E_keepThoseAtHull_46 : decode b_E_keepThoseAtHull 46 = .ok (.iload_n 2, 1) := by decide +kernel
theorem d_E_keepThoseAtHull_47 : decode b_E_keepThoseAtHull 47 = .ok (.iaload, 1) := by decide +kernel
theorem d_E_keepThoseAtHull_48 : decode b_E_keepThoseAtHull 48 = .ok (.aload_n 0, 1) := by decide +kernel
theorem d_E_keepThoseAtHull_49 : decode b_E_keepThoseAtHull 49 = .ok (.getfield 15, 3) := by decide +kernel
theorem d_E_keepThoseAtHull_52 : decode b_E_keepThoseAtHull 52 = .ok (.iload_n 2, 1) := by decide +kernel
theorem d_E_keepThoseAtHull_53 : decode b_E_keepThoseAtHull 53 = .ok (.laload, 1) := by decide +kernel
theorem d_E_keepThoseAtHull_54 : decode b_E_keepThoseAtHull 54 = .ok (.aload_n 0, 1) := by decide +kernel
theorem d_E_keepThoseAtHull_55 : decode b_E_keepThoseAtHull 55 = .ok (.getfield 19, 3) := by decide +kernel
theorem d_E_keepThoseAtHull_58 : decode b_E_keepThoseAtHull 58 = .ok (.iload_n 2, 1) := by decide +kernel
theorem d_E_keepThoseAtHull_59 : decode b_E_keepThoseAtHull 59 = .ok (.laload, 1) := by decide +kernel
theorem d_E_keepThoseAtHull_60 : decode b_E_keepThoseAtHull 60 = .ok (.invokevirtual 26, 3) := by decide +kernel
theorem d_E_keepThoseAtHull_63 : decode b_E_keepThoseAtHull 63 = .ok (.iinc 1 1, 3) := by decide +kernel
theorem d_E_keepThoseAtHull_66 : decode b_E_keepThoseAtHull 66 = .ok (.iinc 2 1, 3) := by decide +kernel
theorem d_E_keepThoseAtHull_69 : decode b_E_keepThoseAtHull 69 = .ok (.goto (-65), 3) := by decide +kernel
theorem d_E_keepThoseAtHull_72 : decode b_E_keepThoseAtHull 72 = .ok (.aload_n 0, 1) := by decide +kernel
theorem d_E_keepThoseAtHull_73 : decode b_E_keepThoseAtHull 73 = .ok (.iload_n 1, 1) := by decide +kernel
theorem d_E_keepThoseAtHull_74 : decode b_E_keepThoseAtHull 74 = .ok (.putfield 22, 3) := by decide +kernel
theorem d_E_keepThoseAtHull_77 : decode b_E_keepThoseAtHull 77 = .ok (.return_, 1) := by decide +kernel
theorem d_E_middle_0 : decode b_E_middle 0 = .ok (.aload_n 0, 1) := by decide +kernel
theorem d_E_middle_1 : decode b_E_middle 1 = .ok (.getfield 15, 3) := by decide +kernel
theorem d_E_middle_4 : decode b_E_middle 4 = .ok (.iload_n 1, 1) := by decide +kernel
theorem d_E_middle_5 : decode b_E_middle 5 = .ok (.laload, 1) := by decide +kernel
theorem d_E_middle_6 : decode b_E_middle 6 = .ok (.aload_n 0, 1) := by decide +kernel
theorem d_E_middle_7 : decode b_E_middle 7 = .ok (.getfield 19, 3) := by decide +kernel
theorem d_E_middle_10 : decode b_E_middle 10 = .ok (.iload_n 1, 1) := by decide +kernel
theorem d_E_middle_11 : decode b_E_middle 11 = .ok (.laload, 1) := by decide +kernel
theorem d_E_middle_12 : decode b_E_middle 12 = .ok (.ladd, 1) := by decide +kernel
theorem d_E_middle_13 : decode b_E_middle 13 = .ok (.ldc2_w 79, 3) := by decide +kernel
theorem d_E_middle_16 : decode b_E_middle 16 = .ok (.invokestatic 81, 3) := by decide +kernel
theorem d_E_middle_19 : decode b_E_middle 19 = .ok (.lreturn, 1) := by decide +kernel
theorem d_E_distances_0 : decode b_E_distances 0 = .ok (.lconst 0, 1) := by decide +kernel
theorem d_E_distances_1 : decode b_E_distances 1 = .ok (.lstore_n 2, 1) := by decide +kernel
theorem d_E_distances_2 : decode b_E_distances 2 = .ok (.iconst 0, 1) := by decide +kernel
theorem d_E_distances_3 : decode b_E_distances 3 = .ok (.istore 4, 2) := by decide +kernel
theorem d_E_distances_5 : decode b_E_distances 5 = .ok (.iload 4, 2) := by decide +kernel
theorem d_E_distances_7 : decode b_E_distances 7 = .ok (.aload_n 0, 1) := by decide +kernel
theorem d_E_distances_8 : decode b_E_distances 8 = .ok (.getfield 22, 3) := by decide +kernel
theorem d_E_distances_11 : decode b_E_distances 11 = .ok (.if_icmp .ge 27, 3) := by decide +kernel
theorem d_E_distances_14 : decode b_E_distances 14 = .ok (.lload_n 2, 1) := by decide +kernel
theorem d_E_distances_15 : decode b_E_distances 15 = .ok (.aload_n 0, 1) := by decide +kernel
theorem d_E_distances_16 : decode b_E_distances 16 = .ok (.iload_n 1, 1) := by decide +kernel
theorem d_E_distances_17 : decode b_E_distances 17 = .ok (.invokevirtual 72, 3) := by decide +kernel
theorem d_E_distances_20 : decode b_E_distances 20 = .ok (.aload_n 0, 1) := by decide +kernel
theorem d_E_distances_21 : decode b_E_distances 21 = .ok (.iload 4, 2) := by decide +kernel
theorem d_E_distances_23 : decode b_E_distances 23 = .ok (.invokevirtual 72, 3) := by decide +kernel
theorem d_E_distances_26 : decode b_E_distances 26 = .ok (.lsub, 1) := by decide +kernel
theorem d_E_distances_27 : decode b_E_distances 27 = .ok (.invokestatic 75, 3) := by decide +kernel
theorem d_E_distances_30 : decode b_E_distances 30 = .ok (.ladd, 1) := by decide +kernel
theorem d_E_distances_31 : decode b_E_distances 31 = .ok (.lstore_n 2, 1) := by decide +kernel
theorem d_E_distances_32 : decode b_E_distances 32 = .ok (.iinc 4 1, 3) := by decide +kernel
theorem d_E_distances_35 : decode b_E_distances 35 = .ok (.goto (-30), 3) := by decide +kernel
theorem d_E_distances_38 : decode b_E_distances 38 = .ok (.lload_n 2, 1) := by decide +kernel
theorem d_E_distances_39 : decode b_E_distances 39 = .ok (.lreturn, 1) := by decide +kernel
theorem d_E_farthest_0 : decode b_E_farthest 0 = .ok (.iconst 0, 1) := by decide +kernel
theorem d_E_farthest_1 : decode b_E_farthest 1 = .ok (.istore_n 1, 1) := by decide +kernel
theorem d_E_farthest_2 : decode b_E_farthest 2 = .ok (.iconst 1, 1) := by decide +kernel
theorem d_E_farthest_3 : decode b_E_farthest 3 = .ok (.istore_n 2, 1) := by decide +kernel
theorem d_E_farthest_4 : decode b_E_farthest 4 = .ok (.iload_n 2, 1) := by decide +kernel
theorem d_E_farthest_5 : decode b_E_farthest 5 = .ok (.aload_n 0, 1) := by decide +kernel
theorem d_E_farthest_6 : decode b_E_farthest 6 = .ok (.getfield 22, 3) := by decide +kernel
theorem d_E_farthest_9 : decode b_E_farthest 9 = .ok (.if_icmp .ge 25, 3) := by decide +kernel
theorem d_E_farthest_12 : decode b_E_farthest 12 = .ok (.aload_n 0, 1) := by decide +kernel
theorem d_E_farthest_13 : decode b_E_farthest 13 = .ok (.iload_n 2, 1) := by decide +kernel
theorem d_E_farthest_14 : decode b_E_farthest 14 = .ok (.invokevirtual 68, 3) := by decide +kernel
theorem d_E_farthest_17 : decode b_E_farthest 17 = .ok (.aload_n 0, 1) := by decide +kernel
theorem d_E_farthest_18 : decode b_E_farthest 18 = .ok (.iload_n 1, 1) := by decide +kernel
theorem d_E_farthest_19 : decode b_E_farthest 19 = .ok (.invokevirtual 68, 3) := by decide +kernel
theorem d_E_farthest_22 : decode b_E_farthest 22 = .ok (.lcmp, 1) := by decide +kernel
theorem d_E_farthest_23 : decode b_E_farthest 23 = .ok (.ifCond .lt 5, 3) := by decide +kernel
theorem d_E_farthest_26 : decode b_E_farthest 26 = .ok (.iload_n 2, 1) := by decide +kernel
theorem d_E_farthest_27 : decode b_E_farthest 27 = .ok (.istore_n 1, 1) := by decide +kernel
theorem d_E_farthest_28 : decode b_E_farthest 28 = .ok (.iinc 2 1, 3) := by decide +kernel
theorem d_E_farthest_31 : decode b_E_farthest 31 = .ok (.goto (-27), 3) := by decide +kernel
theorem d_E_farthest_34 : decode b_E_farthest 34 = .ok (.iload_n 1, 1) := by decide +kernel
theorem d_E_farthest_35 : decode b_E_farthest 35 = .ok (.ireturn, 1) := by decide +kernel
theorem d_E_remove_0 : decode b_E_remove 0 = .ok (.iload_n 1, 1) := by decide +kernel
theorem d_E_remove_1 : decode b_E_remove 1 = .ok (.iconst 1, 1) := by decide +kernel
theorem d_E_remove_2 : decode b_E_remove 2 = .ok (.iadd, 1) := by decide +kernel
theorem d_E_remove_3 : decode b_E_remove 3 = .ok (.istore_n 2, 1) := by decide +kernel
theorem d_E_remove_4 : decode b_E_remove 4 = .ok (.iload_n 2, 1) := by decide +kernel
theorem d_E_remove_5 : decode b_E_remove 5 = .ok (.aload_n 0, 1) := by decide +kernel
theorem d_E_remove_6 : decode b_E_remove 6 = .ok (.getfield 22, 3) := by decide +kernel
theorem d_E_remove_9 : decode b_E_remove 9 = .ok (.if_icmp .ge 34, 3) := by decide +kernel
theorem d_E_remove_12 : decode b_E_remove 12 = .ok (.aload_n 0, 1) := by decide +kernel
theorem d_E_remove_13 : decode b_E_remove 13 = .ok (.iload_n 2, 1) := by decide +kernel
theorem d_E_remove_14 : decode b_E_remove 14 = .ok (.iconst 1, 1) := by decide +kernel
theorem d_E_remove_15 : decode b_E_remove 15 = .ok (.isub, 1) := by decide +kernel
theorem d_E_remove_16 : decode b_E_remove 16 = .ok (.aload_n 0, 1) := by decide +kernel
theorem d_E_remove_17 : decode b_E_remove 17 = .ok (.getfield 9, 3) := by decide +kernel
theorem d_E_remove_20 : decode b_E_remove 20 = .ok (.iload_n 2, 1) := by decide +kernel
theorem d_E_remove_21 : decode b_E_remove 21 = .ok (.iaload, 1) := by decide +kernel
theorem d_E_remove_22 : decode b_E_remove 22 = .ok (.aload_n 0, 1) := by decide +kernel
theorem d_E_remove_23 : decode b_E_remove 23 = .ok (.getfield 15, 3) := by decide +kernel
theorem d_E_remove_26 : decode b_E_remove 26 = .ok (.iload_n 2, 1) := by decide +kernel
theorem d_E_remove_27 : decode b_E_remove 27 = .ok (.laload, 1) := by decide +kernel
theorem d_E_remove_28 : decode b_E_remove 28 = .ok (.aload_n 0, 1) := by decide +kernel
theorem d_E_remove_29 : decode b_E_remove 29 = .ok (.getfield 19, 3) := by decide +kernel
theorem d_E_remove_32 : decode b_E_remove 32 = .ok (.iload_n 2, 1) := by decide +kernel
theorem d_E_remove_33 : decode b_E_remove 33 = .ok (.laload, 1) := by decide +kernel
theorem d_E_remove_34 : decode b_E_remove 34 = .ok (.invokevirtual 26, 3) := by decide +kernel
theorem d_E_remove_37 : decode b_E_remove 37 = .ok (.iinc 2 1, 3) := by decide +kernel
theorem d_E_remove_40 : decode b_E_remove 40 = .ok (.goto (-36), 3) := by decide +kernel
theorem d_E_remove_43 : decode b_E_remove 43 = .ok (.aload_n 0, 1) := by decide +kernel
theorem d_E_remove_44 : decode b_E_remove 44 = .ok (.dup, 1) := by decide +kernel
theorem d_E_remove_45 : decode b_E_remove 45 = .ok (.getfield 22, 3) := by decide +kernel
theorem d_E_remove_48 : decode b_E_remove 48 = .ok (.iconst 1, 1) := by decide +kernel
theorem d_E_remove_49 : decode b_E_remove 49 = .ok (.isub, 1) := by decide +kernel
theorem d_E_remove_50 : decode b_E_remove 50 = .ok (.putfield 22, 3) := by decide +kernel
theorem d_E_remove_53 : decode b_E_remove 53 = .ok (.return_, 1) := by decide +kernel
theorem d_E_keepTheClosest_0 : decode b_E_keepTheClosest 0 = .ok (.aload_n 0, 1) := by decide +kernel
theorem d_E_keepTheClosest_1 : decode b_E_keepTheClosest 1 = .ok (.getfield 22, 3) := by decide +kernel
theorem d_E_keepTheClosest_4 : decode b_E_keepTheClosest 4 = .ok (.istore_n 1, 1) := by decide +kernel
theorem d_E_keepTheClosest_5 : decode b_E_keepTheClosest 5 = .ok (.iload_n 1, 1) := by decide +kernel
theorem d_E_keepTheClosest_6 : decode b_E_keepTheClosest 6 = .ok (.iconst 3, 1) := by decide +kernel
theorem d_E_keepTheClosest_7 : decode b_E_keepTheClosest 7 = .ok (.if_icmp .le 17, 3) := by decide +kernel
theorem d_E_keepTheClosest_10 : decode b_E_keepTheClosest 10 = .ok (.aload_n 0, 1) := by decide +kernel
theorem d_E_keepTheClosest_11 : decode b_E_keepTheClosest 11 = .ok (.aload_n 0, 1) := by decide +kernel
theorem d_E_keepTheClosest_12 : decode b_E_keepTheClosest 12 = .ok (.invokevirtual 60, 3) := by decide +kernel
theorem d_E_keepTheClosest_15 : decode b_E_keepTheClosest 15 = .ok (.invokevirtual 64, 3) := by decide +kernel
theorem d_E_keepTheClosest_18 : decode b_E_keepTheClosest 18 = .ok (.iinc 1 (-1), 3) := by decide +kernel
theorem d_E_keepTheClosest_21 : decode b_E_keepTheClosest 21 = .ok (.goto (-16), 3) := by decide +kernel
theorem d_E_keepTheClosest_24 : decode b_E_keepTheClosest 24 = .ok (.return_, 1) := by decide +kernel
theorem d_E_target_0 : decode b_E_target 0 = .ok (.lconst 0, 1) := by decide +kernel
theorem d_E_target_1 : decode b_E_target 1 = .ok (.lstore_n 1, 1) := by decide +kernel
theorem d_E_target_2 : decode b_E_target 2 = .ok (.iconst 0, 1) := by decide +kernel
theorem d_E_target_3 : decode b_E_target 3 = .ok (.istore_n 3, 1) := by decide +kernel
theorem d_E_target_4 : decode b_E_target 4 = .ok (.iload_n 3, 1) := by decide +kernel
theorem d_E_target_5 : decode b_E_target 5 = .ok (.aload_n 0, 1) := by decide +kernel
theorem d_E_target_6 : decode b_E_target 6 = .ok (.getfield 22, 3) := by decide +kernel
theorem d_E_target_9 : decode b_E_target 9 = .ok (.if_icmp .ge 17, 3) := by decide +kernel
theorem d_E_target_12 : decode b_E_target 12 = .ok (.lload_n 1, 1) := by decide +kernel
theorem d_E_target_13 : decode b_E_target 13 = .ok (.aload_n 0, 1) := by decide +kernel
theorem d_E_target_14 : decode b_E_target 14 = .ok (.iload_n 3, 1) := by decide +kernel
theorem d_E_target_15 : decode b_E_target 15 = .ok (.invokevirtual 72, 3) := by decide +kernel
theorem d_E_target_18 : decode b_E_target 18 = .ok (.ladd, 1) := by decide +kernel
theorem d_E_target_19 : decode b_E_target 19 = .ok (.lstore_n 1, 1) := by decide +kernel
theorem d_E_target_20 : decode b_E_target 20 = .ok (.iinc 3 1, 3) := by decide +kernel
theorem d_E_target_23 : decode b_E_target 23 = .ok (.goto (-19), 3) := by decide +kernel
end
section
theorem d_E_target_26 : decode b_E_target 26 = .ok (.aload_n 0, 1) := by decide +kernel
theorem d_E_target_27 : decode b_E_target 27 = .ok (.getfield 22, 3) := by decide +kernel
theorem d_E_target_30 : decode b_E_target 30 = .ok (.ifCond .ne 7, 3) := by decide +kernel
theorem d_E_target_33 : decode b_E_target 33 = .ok (.lconst 0, 1) := by decide +kernel
theorem d_E_target_34 : decode b_E_target 34 = .ok (.goto 12, 3) := by decide +kernel
theorem d_E_target_37 : decode b_E_target 37 = .ok (.lload_n 1, 1) := by decide +kernel
theorem d_E_target_38 : decode b_E_target 38 = .ok (.aload_n 0, 1) := by decide +kernel
theorem d_E_target_39 : decode b_E_target 39 = .ok (.getfield 22, 3) := by decide +kernel
theorem d_E_target_42 : decode b_E_target 42 = .ok (.i2l, 1) := by decide +kernel
theorem d_E_target_43 : decode b_E_target 43 = .ok (.invokestatic 81, 3) := by decide +kernel
theorem d_E_target_46 : decode b_E_target 46 = .ok (.lstore_n 3, 1) := by decide +kernel
theorem d_E_target_47 : decode b_E_target 47 = .ok (.aload_n 0, 1) := by decide +kernel
theorem d_E_target_48 : decode b_E_target 48 = .ok (.getfield 53, 3) := by decide +kernel
theorem d_E_target_51 : decode b_E_target 51 = .ok (.aload_n 0, 1) := by decide +kernel
theorem d_E_target_52 : decode b_E_target 52 = .ok (.getfield 57, 3) := by decide +kernel
theorem d_E_target_55 : decode b_E_target 55 = .ok (.lload_n 3, 1) := by decide +kernel
theorem d_E_target_56 : decode b_E_target 56 = .ok (.invokestatic 44, 3) := by decide +kernel
theorem d_E_target_59 : decode b_E_target 59 = .ok (.invokestatic 50, 3) := by decide +kernel
theorem d_E_target_62 : decode b_E_target 62 = .ok (.lreturn, 1) := by decide +kernel
theorem d_E_bits_0 : decode b_E_bits 0 = .ok (.iconst 0, 1) := by decide +kernel
theorem d_E_bits_1 : decode b_E_bits 1 = .ok (.istore_n 1, 1) := by decide +kernel
theorem d_E_bits_2 : decode b_E_bits 2 = .ok (.iconst 0, 1) := by decide +kernel
theorem d_E_bits_3 : decode b_E_bits 3 = .ok (.istore_n 2, 1) := by decide +kernel
theorem d_E_bits_4 : decode b_E_bits 4 = .ok (.iload_n 2, 1) := by decide +kernel
theorem d_E_bits_5 : decode b_E_bits 5 = .ok (.aload_n 0, 1) := by decide +kernel
theorem d_E_bits_6 : decode b_E_bits 6 = .ok (.getfield 22, 3) := by decide +kernel
theorem d_E_bits_9 : decode b_E_bits 9 = .ok (.if_icmp .ge 20, 3) := by decide +kernel
theorem d_E_bits_12 : decode b_E_bits 12 = .ok (.iload_n 1, 1) := by decide +kernel
theorem d_E_bits_13 : decode b_E_bits 13 = .ok (.iconst 1, 1) := by decide +kernel
theorem d_E_bits_14 : decode b_E_bits 14 = .ok (.aload_n 0, 1) := by decide +kernel
theorem d_E_bits_15 : decode b_E_bits 15 = .ok (.getfield 9, 3) := by decide +kernel
theorem d_E_bits_18 : decode b_E_bits 18 = .ok (.iload_n 2, 1) := by decide +kernel
theorem d_E_bits_19 : decode b_E_bits 19 = .ok (.iaload, 1) := by decide +kernel
theorem d_E_bits_20 : decode b_E_bits 20 = .ok (.ishl, 1) := by decide +kernel
theorem d_E_bits_21 : decode b_E_bits 21 = .ok (.ior, 1) := by decide +kernel
theorem d_E_bits_22 : decode b_E_bits 22 = .ok (.istore_n 1, 1) := by decide +kernel
theorem d_E_bits_23 : decode b_E_bits 23 = .ok (.iinc 2 1, 3) := by decide +kernel
theorem d_E_bits_26 : decode b_E_bits 26 = .ok (.goto (-22), 3) := by decide +kernel
theorem d_E_bits_29 : decode b_E_bits 29 = .ok (.iload_n 1, 1) := by decide +kernel
theorem d_E_bits_30 : decode b_E_bits 30 = .ok (.ireturn, 1) := by decide +kernel
theorem d_Sd_init_0 : decode b_Sd_init 0 = .ok (.aload_n 0, 1) := by decide +kernel
theorem d_Sd_init_1 : decode b_Sd_init 1 = .ok (.invokespecial 3, 3) := by decide +kernel
theorem d_Sd_init_4 : decode b_Sd_init 4 = .ok (.aload_n 0, 1) := by decide +kernel
theorem d_Sd_init_5 : decode b_Sd_init 5 = .ok (.bipush 16, 2) := by decide +kernel
theorem d_Sd_init_7 : decode b_Sd_init 7 = .ok (.putfield 9, 3) := by decide +kernel
theorem d_Sd_init_10 : decode b_Sd_init 10 = .ok (.return_, 1) := by decide +kernel
theorem d_Sd_correctionAt_0 : decode b_Sd_correctionAt 0 = .ok (.lload_n 1, 1) := by decide +kernel
theorem d_Sd_correctionAt_1 : decode b_Sd_correctionAt 1 = .ok (.aload_n 0, 1) := by decide +kernel
theorem d_Sd_correctionAt_2 : decode b_Sd_correctionAt 2 = .ok (.getfield 30, 3) := by decide +kernel
theorem d_Sd_correctionAt_5 : decode b_Sd_correctionAt 5 = .ok (.lsub, 1) := by decide +kernel
theorem d_Sd_correctionAt_6 : decode b_Sd_correctionAt 6 = .ok (.ldc2_w 59, 3) := by decide +kernel
theorem d_Sd_correctionAt_9 : decode b_Sd_correctionAt 9 = .ok (.invokestatic 61, 3) := by decide +kernel
theorem d_Sd_correctionAt_12 : decode b_Sd_correctionAt 12 = .ok (.lstore_n 3, 1) := by decide +kernel
theorem d_Sd_correctionAt_13 : decode b_Sd_correctionAt 13 = .ok (.aload_n 0, 1) := by decide +kernel
theorem d_Sd_correctionAt_14 : decode b_Sd_correctionAt 14 = .ok (.getfield 27, 3) := by decide +kernel
theorem d_Sd_correctionAt_17 : decode b_Sd_correctionAt 17 = .ok (.aload_n 0, 1) := by decide +kernel
theorem d_Sd_correctionAt_18 : decode b_Sd_correctionAt 18 = .ok (.getfield 23, 3) := by decide +kernel
theorem d_Sd_correctionAt_21 : decode b_Sd_correctionAt 21 = .ok (.lsub, 1) := by decide +kernel
theorem d_Sd_correctionAt_22 : decode b_Sd_correctionAt 22 = .ok (.invokestatic 64, 3) := by decide +kernel
theorem d_Sd_correctionAt_25 : decode b_Sd_correctionAt 25 = .ok (.lload_n 3, 1) := by decide +kernel
theorem d_Sd_correctionAt_26 : decode b_Sd_correctionAt 26 = .ok (.lcmp, 1) := by decide +kernel
theorem d_Sd_correctionAt_27 : decode b_Sd_correctionAt 27 = .ok (.ifCond .gt 8, 3) := by decide +kernel
theorem d_Sd_correctionAt_30 : decode b_Sd_correctionAt 30 = .ok (.aload_n 0, 1) := by decide +kernel
theorem d_Sd_correctionAt_31 : decode b_Sd_correctionAt 31 = .ok (.getfield 27, 3) := by decide +kernel
theorem d_Sd_correctionAt_34 : decode b_Sd_correctionAt 34 = .ok (.lreturn, 1) := by decide +kernel
theorem d_Sd_correctionAt_35 : decode b_Sd_correctionAt 35 = .ok (.aload_n 0, 1) := by decide +kernel
theorem d_Sd_correctionAt_36 : decode b_Sd_correctionAt 36 = .ok (.getfield 27, 3) := by decide +kernel
theorem d_Sd_correctionAt_39 : decode b_Sd_correctionAt 39 = .ok (.aload_n 0, 1) := by decide +kernel
theorem d_Sd_correctionAt_40 : decode b_Sd_correctionAt 40 = .ok (.getfield 23, 3) := by decide +kernel
theorem d_Sd_correctionAt_43 : decode b_Sd_correctionAt 43 = .ok (.lcmp, 1) := by decide +kernel
theorem d_Sd_correctionAt_44 : decode b_Sd_correctionAt 44 = .ok (.ifCond .le 12, 3) := by decide +kernel
theorem d_Sd_correctionAt_47 : decode b_Sd_correctionAt 47 = .ok (.aload_n 0, 1) := by decide +kernel
theorem d_Sd_correctionAt_48 : decode b_Sd_correctionAt 48 = .ok (.getfield 23, 3) := by decide +kernel
theorem d_Sd_correctionAt_51 : decode b_Sd_correctionAt 51 = .ok (.lload_n 3, 1) := by decide +kernel
theorem d_Sd_correctionAt_52 : decode b_Sd_correctionAt 52 = .ok (.ladd, 1) := by decide +kernel
theorem d_Sd_correctionAt_53 : decode b_Sd_correctionAt 53 = .ok (.goto 9, 3) := by decide +kernel
theorem d_Sd_correctionAt_56 : decode b_Sd_correctionAt 56 = .ok (.aload_n 0, 1) := by decide +kernel
theorem d_Sd_correctionAt_57 : decode b_Sd_correctionAt 57 = .ok (.getfield 23, 3) := by decide +kernel
theorem d_Sd_correctionAt_60 : decode b_Sd_correctionAt 60 = .ok (.lload_n 3, 1) := by decide +kernel
theorem d_Sd_correctionAt_61 : decode b_Sd_correctionAt 61 = .ok (.lsub, 1) := by decide +kernel
theorem d_Sd_correctionAt_62 : decode b_Sd_correctionAt 62 = .ok (.lreturn, 1) := by decide +kernel
theorem d_Sd_follow_0 : decode b_Sd_follow 0 = .ok (.aload_n 0, 1) := by decide +kernel
theorem d_Sd_follow_1 : decode b_Sd_follow 1 = .ok (.aload_n 0, 1) := by decide +kernel
theorem d_Sd_follow_2 : decode b_Sd_follow 2 = .ok (.getfield 15, 3) := by decide +kernel
theorem d_Sd_follow_5 : decode b_Sd_follow 5 = .ok (.ifCond .eq 11, 3) := by decide +kernel
theorem d_Sd_follow_8 : decode b_Sd_follow 8 = .ok (.aload_n 0, 1) := by decide +kernel
theorem d_Sd_follow_9 : decode b_Sd_follow 9 = .ok (.lload_n 3, 1) := by decide +kernel
theorem d_Sd_follow_10 : decode b_Sd_follow 10 = .ok (.invokevirtual 19, 3) := by decide +kernel
theorem d_Sd_follow_13 : decode b_Sd_follow 13 = .ok (.goto 4, 3) := by decide +kernel
theorem d_Sd_follow_16 : decode b_Sd_follow 16 = .ok (.lload_n 1, 1) := by decide +kernel
theorem d_Sd_follow_17 : decode b_Sd_follow 17 = .ok (.putfield 23, 3) := by decide +kernel
theorem d_Sd_follow_20 : decode b_Sd_follow 20 = .ok (.aload_n 0, 1) := by decide +kernel
theorem d_Sd_follow_21 : decode b_Sd_follow 21 = .ok (.lload_n 1, 1) := by decide +kernel
theorem d_Sd_follow_22 : decode b_Sd_follow 22 = .ok (.putfield 27, 3) := by decide +kernel
theorem d_Sd_follow_25 : decode b_Sd_follow 25 = .ok (.aload_n 0, 1) := by decide +kernel
theorem d_Sd_follow_26 : decode b_Sd_follow 26 = .ok (.lload_n 3, 1) := by decide +kernel
theorem d_Sd_follow_27 : decode b_Sd_follow 27 = .ok (.putfield 30, 3) := by decide +kernel
theorem d_Sd_follow_30 : decode b_Sd_follow 30 = .ok (.aload_n 0, 1) := by decide +kernel
theorem d_Sd_follow_31 : decode b_Sd_follow 31 = .ok (.iconst 1, 1) := by decide +kernel
theorem d_Sd_follow_32 : decode b_Sd_follow 32 = .ok (.putfield 15, 3) := by decide +kernel
theorem d_Sd_follow_35 : decode b_Sd_follow 35 = .ok (.return_, 1) := by decide +kernel
theorem d_Sd_wrongAtMost_0 : decode b_Sd_wrongAtMost 0 = .ok (.aload_n 0, 1) := by decide +kernel
theorem d_Sd_wrongAtMost_1 : decode b_Sd_wrongAtMost 1 = .ok (.getfield 49, 3) := by decide +kernel
theorem d_Sd_wrongAtMost_4 : decode b_Sd_wrongAtMost 4 = .ok (.lload_n 1, 1) := by decide +kernel
theorem d_Sd_wrongAtMost_5 : decode b_Sd_wrongAtMost 5 = .ok (.aload_n 0, 1) := by decide +kernel
theorem d_Sd_wrongAtMost_6 : decode b_Sd_wrongAtMost 6 = .ok (.getfield 30, 3) := by decide +kernel
theorem d_Sd_wrongAtMost_9 : decode b_Sd_wrongAtMost 9 = .ok (.lsub, 1) := by decide +kernel
theorem d_Sd_wrongAtMost_10 : decode b_Sd_wrongAtMost 10 = .ok (.iload_n 3, 1) := by decide +kernel
theorem d_Sd_wrongAtMost_11 : decode b_Sd_wrongAtMost 11 = .ok (.invokestatic 67, 3) := by decide +kernel
theorem d_Sd_wrongAtMost_14 : decode b_Sd_wrongAtMost 14 = .ok (.ladd, 1) := by decide +kernel
theorem d_Sd_wrongAtMost_15 : decode b_Sd_wrongAtMost 15 = .ok (.aload_n 0, 1) := by decide +kernel
theorem d_Sd_wrongAtMost_16 : decode b_Sd_wrongAtMost 16 = .ok (.getfield 27, 3) := by decide +kernel
theorem d_Sd_wrongAtMost_19 : decode b_Sd_wrongAtMost 19 = .ok (.aload_n 0, 1) := by decide +kernel
theorem d_Sd_wrongAtMost_20 : decode b_Sd_wrongAtMost 20 = .ok (.lload_n 1, 1) := by decide +kernel
theorem d_Sd_wrongAtMost_21 : decode b_Sd_wrongAtMost 21 = .ok (.invokevirtual 19, 3) := by decide +kernel
theorem d_Sd_wrongAtMost_24 : decode b_Sd_wrongAtMost 24 = .ok (.lsub, 1) := by decide +kernel
theorem d_Sd_wrongAtMost_25 : decode b_Sd_wrongAtMost 25 = .ok (.invokestatic 64, 3) := by decide +kernel
theorem d_Sd_wrongAtMost_28 : decode b_Sd_wrongAtMost 28 = .ok (.ladd, 1) := by decide +kernel
theorem d_Sd_wrongAtMost_29 : decode b_Sd_wrongAtMost 29 = .ok (.lreturn, 1) := by decide +kernel
theorem d_Sd_remember_0 : decode b_Sd_remember 0 = .ok (.aload_n 0, 1) := by decide +kernel
theorem d_Sd_remember_1 : decode b_Sd_remember 1 = .ok (.aload_n 1, 1) := by decide +kernel
theorem d_Sd_remember_2 : decode b_Sd_remember 2 = .ok (.getfield 33, 3) := by decide +kernel
theorem d_Sd_remember_5 : decode b_Sd_remember 5 = .ok (.putfield 38, 3) := by decide +kernel
theorem d_Sd_remember_8 : decode b_Sd_remember 8 = .ok (.aload_n 0, 1) := by decide +kernel
theorem d_Sd_remember_9 : decode b_Sd_remember 9 = .ok (.aload_n 1, 1) := by decide +kernel
theorem d_Sd_remember_10 : decode b_Sd_remember 10 = .ok (.getfield 39, 3) := by decide +kernel
theorem d_Sd_remember_13 : decode b_Sd_remember 13 = .ok (.putfield 42, 3) := by decide +kernel
theorem d_Sd_remember_16 : decode b_Sd_remember 16 = .ok (.aload_n 0, 1) := by decide +kernel
theorem d_Sd_remember_17 : decode b_Sd_remember 17 = .ok (.aload_n 0, 1) := by decide +kernel
theorem d_Sd_remember_18 : decode b_Sd_remember 18 = .ok (.getfield 27, 3) := by decide +kernel
theorem d_Sd_remember_21 : decode b_Sd_remember 21 = .ok (.aload_n 0, 1) := by decide +kernel
theorem d_Sd_remember_22 : decode b_Sd_remember 22 = .ok (.getfield 38, 3) := by decide +kernel
theorem d_Sd_remember_25 : decode b_Sd_remember 25 = .ok (.lsub, 1) := by decide +kernel
theorem d_Sd_remember_26 : decode b_Sd_remember 26 = .ok (.aload_n 0, 1) := by decide +kernel
theorem d_Sd_remember_27 : decode b_Sd_remember 27 = .ok (.getfield 42, 3) := by decide +kernel
theorem d_Sd_remember_30 : decode b_Sd_remember 30 = .ok (.aload_n 0, 1) := by decide +kernel
theorem d_Sd_remember_31 : decode b_Sd_remember 31 = .ok (.getfield 27, 3) := by decide +kernel
theorem d_Sd_remember_34 : decode b_Sd_remember 34 = .ok (.lsub, 1) := by decide +kernel
theorem d_Sd_remember_35 : decode b_Sd_remember 35 = .ok (.invokestatic 43, 3) := by decide +kernel
theorem d_Sd_remember_38 : decode b_Sd_remember 38 = .ok (.putfield 49, 3) := by decide +kernel
theorem d_Sd_remember_41 : decode b_Sd_remember 41 = .ok (.aload_n 0, 1) := by decide +kernel
theorem d_Sd_remember_42 : decode b_Sd_remember 42 = .ok (.aload_n 1, 1) := by decide +kernel
theorem d_Sd_remember_43 : decode b_Sd_remember 43 = .ok (.invokevirtual 52, 3) := by decide +kernel
theorem d_Sd_remember_46 : decode b_Sd_remember 46 = .ok (.putfield 56, 3) := by decide +kernel
theorem d_Sd_remember_49 : decode b_Sd_remember 49 = .ok (.aload_n 0, 1) := by decide +kernel
theorem d_Sd_remember_50 : decode b_Sd_remember 50 = .ok (.iload_n 2, 1) := by decide +kernel
theorem d_Sd_remember_51 : decode b_Sd_remember 51 = .ok (.iconst 1, 1) := by decide +kernel
theorem d_Sd_remember_52 : decode b_Sd_remember 52 = .ok (.iadd, 1) := by decide +kernel
theorem d_Sd_remember_53 : decode b_Sd_remember 53 = .ok (.putfield 9, 3) := by decide +kernel
theorem d_Sd_remember_56 : decode b_Sd_remember 56 = .ok (.return_, 1) := by decide +kernel
theorem d_Le_init_0 : decode b_Le_init 0 = .ok (.aload_n 0, 1) := by decide +kernel
theorem d_Le_init_1 : decode b_Le_init 1 = .ok (.invokespecial 1, 3) := by decide +kernel
theorem d_Le_init_4 : decode b_Le_init 4 = .ok (.return_, 1) := by decide +kernel
theorem d_Le_give_0 : decode b_Le_give 0 = .ok (.aload_n 0, 1) := by decide +kernel
theorem d_Le_give_1 : decode b_Le_give 1 = .ok (.iconst 1, 1) := by decide +kernel
theorem d_Le_give_2 : decode b_Le_give 2 = .ok (.putfield 7, 3) := by decide +kernel
theorem d_Le_give_5 : decode b_Le_give 5 = .ok (.aload_n 0, 1) := by decide +kernel
theorem d_Le_give_6 : decode b_Le_give 6 = .ok (.iload_n 1, 1) := by decide +kernel
theorem d_Le_give_7 : decode b_Le_give 7 = .ok (.putfield 13, 3) := by decide +kernel
theorem d_Le_give_10 : decode b_Le_give 10 = .ok (.aload_n 0, 1) := by decide +kernel
end
section
theorem d_Le_give_11 : decode b_Le_give 11 = .ok (.lload_n 2, 1) := by decide +kernel
theorem d_Le_give_12 : decode b_Le_give 12 = .ok (.putfield 17, 3) := by decide +kernel
theorem d_Le_give_15 : decode b_Le_give 15 = .ok (.return_, 1) := by decide +kernel
theorem d_M_advance_0 : decode b_M_advance 0 = .ok (.iload_n 1, 1) := by decide +kernel
theorem d_M_advance_1 : decode b_M_advance 1 = .ok (.ifCond .lt 9, 3) := by decide +kernel
theorem d_M_advance_4 : decode b_M_advance 4 = .ok (.iload_n 1, 1) := by decide +kernel
theorem d_M_advance_5 : decode b_M_advance 5 = .ok (.ldc 59, 2) := by decide +kernel
theorem d_M_advance_7 : decode b_M_advance 7 = .ok (.if_icmp .le 5, 3) := by decide +kernel
theorem d_M_advance_10 : decode b_M_advance 10 = .ok (.iconst 0, 1) := by decide +kernel
theorem d_M_advance_11 : decode b_M_advance 11 = .ok (.ireturn, 1) := by decide +kernel
theorem d_M_advance_12 : decode b_M_advance 12 = .ok (.aload_n 0, 1) := by decide +kernel
theorem d_M_advance_13 : decode b_M_advance 13 = .ok (.dup, 1) := by decide +kernel
theorem d_M_advance_14 : decode b_M_advance 14 = .ok (.getfield 60, 3) := by decide +kernel
theorem d_M_advance_17 : decode b_M_advance 17 = .ok (.iload_n 1, 1) := by decide +kernel
theorem d_M_advance_18 : decode b_M_advance 18 = .ok (.i2l, 1) := by decide +kernel
theorem d_M_advance_19 : decode b_M_advance 19 = .ok (.ladd, 1) := by decide +kernel
theorem d_M_advance_20 : decode b_M_advance 20 = .ok (.putfield 60, 3) := by decide +kernel
theorem d_M_advance_23 : decode b_M_advance 23 = .ok (.iconst 1, 1) := by decide +kernel
theorem d_M_advance_24 : decode b_M_advance 24 = .ok (.ireturn, 1) := by decide +kernel
theorem d_M_hardware_0 : decode b_M_hardware 0 = .ok (.aload_n 0, 1) := by decide +kernel
theorem d_M_hardware_1 : decode b_M_hardware 1 = .ok (.getfield 60, 3) := by decide +kernel
theorem d_M_hardware_4 : decode b_M_hardware 4 = .ok (.lreturn, 1) := by decide +kernel
theorem d_M_survivors_0 : decode b_M_survivors 0 = .ok (.aload_n 0, 1) := by decide +kernel
theorem d_M_survivors_1 : decode b_M_survivors 1 = .ok (.getfield 55, 3) := by decide +kernel
theorem d_M_survivors_4 : decode b_M_survivors 4 = .ok (.getfield 154, 3) := by decide +kernel
theorem d_M_survivors_7 : decode b_M_survivors 7 = .ok (.ireturn, 1) := by decide +kernel
theorem d_M_stratum_0 : decode b_M_stratum 0 = .ok (.aload_n 0, 1) := by decide +kernel
theorem d_M_stratum_1 : decode b_M_stratum 1 = .ok (.getfield 55, 3) := by decide +kernel
theorem d_M_stratum_4 : decode b_M_stratum 4 = .ok (.getfield 167, 3) := by decide +kernel
theorem d_M_stratum_7 : decode b_M_stratum 7 = .ok (.ireturn, 1) := by decide +kernel
theorem d_M_time_0 : decode b_M_time 0 = .ok (.aload_n 0, 1) := by decide +kernel
theorem d_M_time_1 : decode b_M_time 1 = .ok (.getfield 55, 3) := by decide +kernel
theorem d_M_time_4 : decode b_M_time 4 = .ok (.getfield 157, 3) := by decide +kernel
theorem d_M_time_7 : decode b_M_time 7 = .ok (.ifCond .ne 7, 3) := by decide +kernel
theorem d_M_time_10 : decode b_M_time 10 = .ok (.ldc2_w 74, 3) := by decide +kernel
theorem d_M_time_13 : decode b_M_time 13 = .ok (.lreturn, 1) := by decide +kernel
theorem d_M_time_14 : decode b_M_time 14 = .ok (.aload_n 0, 1) := by decide +kernel
theorem d_M_time_15 : decode b_M_time 15 = .ok (.getfield 60, 3) := by decide +kernel
theorem d_M_time_18 : decode b_M_time 18 = .ok (.aload_n 0, 1) := by decide +kernel
theorem d_M_time_19 : decode b_M_time 19 = .ok (.getfield 55, 3) := by decide +kernel
theorem d_M_time_22 : decode b_M_time 22 = .ok (.aload_n 0, 1) := by decide +kernel
theorem d_M_time_23 : decode b_M_time 23 = .ok (.getfield 60, 3) := by decide +kernel
theorem d_M_time_26 : decode b_M_time 26 = .ok (.invokevirtual 170, 3) := by decide +kernel
theorem d_M_time_29 : decode b_M_time 29 = .ok (.ladd, 1) := by decide +kernel
theorem d_M_time_30 : decode b_M_time 30 = .ok (.lreturn, 1) := by decide +kernel
theorem d_M_bound_0 : decode b_M_bound 0 = .ok (.aload_n 0, 1) := by decide +kernel
theorem d_M_bound_1 : decode b_M_bound 1 = .ok (.getfield 55, 3) := by decide +kernel
theorem d_M_bound_4 : decode b_M_bound 4 = .ok (.getfield 157, 3) := by decide +kernel
theorem d_M_bound_7 : decode b_M_bound 7 = .ok (.ifCond .ne 7, 3) := by decide +kernel
theorem d_M_bound_10 : decode b_M_bound 10 = .ok (.ldc2_w 74, 3) := by decide +kernel
theorem d_M_bound_13 : decode b_M_bound 13 = .ok (.lreturn, 1) := by decide +kernel
theorem d_M_bound_14 : decode b_M_bound 14 = .ok (.aload_n 0, 1) := by decide +kernel
theorem d_M_bound_15 : decode b_M_bound 15 = .ok (.getfield 55, 3) := by decide +kernel
theorem d_M_bound_18 : decode b_M_bound 18 = .ok (.aload_n 0, 1) := by decide +kernel
theorem d_M_bound_19 : decode b_M_bound 19 = .ok (.getfield 60, 3) := by decide +kernel
theorem d_M_bound_22 : decode b_M_bound 22 = .ok (.aload_n 0, 1) := by decide +kernel
theorem d_M_bound_23 : decode b_M_bound 23 = .ok (.getfield 24, 3) := by decide +kernel
theorem d_M_bound_26 : decode b_M_bound 26 = .ok (.invokevirtual 174, 3) := by decide +kernel
theorem d_M_bound_29 : decode b_M_bound 29 = .ok (.lreturn, 1) := by decide +kernel
theorem d_M_hull_0 : decode b_M_hull 0 = .ok (.aload_n 0, 1) := by decide +kernel
theorem d_M_hull_1 : decode b_M_hull 1 = .ok (.getfield 55, 3) := by decide +kernel
theorem d_M_hull_4 : decode b_M_hull 4 = .ok (.getfield 157, 3) := by decide +kernel
theorem d_M_hull_7 : decode b_M_hull 7 = .ok (.ifCond .ne 7, 3) := by decide +kernel
theorem d_M_hull_10 : decode b_M_hull 10 = .ok (.ldc2_w 74, 3) := by decide +kernel
theorem d_M_hull_13 : decode b_M_hull 13 = .ok (.lreturn, 1) := by decide +kernel
theorem d_M_hull_14 : decode b_M_hull 14 = .ok (.iload_n 1, 1) := by decide +kernel
theorem d_M_hull_15 : decode b_M_hull 15 = .ok (.ifCond .eq 13, 3) := by decide +kernel
theorem d_M_hull_18 : decode b_M_hull 18 = .ok (.aload_n 0, 1) := by decide +kernel
theorem d_M_hull_19 : decode b_M_hull 19 = .ok (.getfield 55, 3) := by decide +kernel
theorem d_M_hull_22 : decode b_M_hull 22 = .ok (.getfield 161, 3) := by decide +kernel
theorem d_M_hull_25 : decode b_M_hull 25 = .ok (.goto 10, 3) := by decide +kernel
theorem d_M_hull_28 : decode b_M_hull 28 = .ok (.aload_n 0, 1) := by decide +kernel
theorem d_M_hull_29 : decode b_M_hull 29 = .ok (.getfield 55, 3) := by decide +kernel
theorem d_M_hull_32 : decode b_M_hull 32 = .ok (.getfield 164, 3) := by decide +kernel
theorem d_M_hull_35 : decode b_M_hull 35 = .ok (.lreturn, 1) := by decide +kernel
theorem d_M_isOver_0 : decode b_M_isOver 0 = .ok (.aload_n 0, 1) := by decide +kernel
theorem d_M_isOver_1 : decode b_M_isOver 1 = .ok (.invokevirtual 182, 3) := by decide +kernel
theorem d_M_isOver_4 : decode b_M_isOver 4 = .ok (.aload_n 0, 1) := by decide +kernel
theorem d_M_isOver_5 : decode b_M_isOver 5 = .ok (.invokevirtual 232, 3) := by decide +kernel
theorem d_M_isOver_8 : decode b_M_isOver 8 = .ok (.lsub, 1) := by decide +kernel
theorem d_M_isOver_9 : decode b_M_isOver 9 = .ok (.aload_n 1, 1) := by decide +kernel
theorem d_M_isOver_10 : decode b_M_isOver 10 = .ok (.getfield 205, 3) := by decide +kernel
theorem d_M_isOver_13 : decode b_M_isOver 13 = .ok (.lcmp, 1) := by decide +kernel
theorem d_M_isOver_14 : decode b_M_isOver 14 = .ok (.ifCond .lt 7, 3) := by decide +kernel
theorem d_M_isOver_17 : decode b_M_isOver 17 = .ok (.iconst 1, 1) := by decide +kernel
theorem d_M_isOver_18 : decode b_M_isOver 18 = .ok (.goto 4, 3) := by decide +kernel
theorem d_M_isOver_21 : decode b_M_isOver 21 = .ok (.iconst 0, 1) := by decide +kernel
theorem d_M_isOver_22 : decode b_M_isOver 22 = .ok (.ireturn, 1) := by decide +kernel
theorem d_M_mayFollow_0 : decode b_M_mayFollow 0 = .ok (.aload_n 1, 1) := by decide +kernel
theorem d_M_mayFollow_1 : decode b_M_mayFollow 1 = .ok (.getfield 196, 3) := by decide +kernel
theorem d_M_mayFollow_4 : decode b_M_mayFollow 4 = .ok (.iload_n 2, 1) := by decide +kernel
theorem d_M_mayFollow_5 : decode b_M_mayFollow 5 = .ok (.if_icmp .ne 18, 3) := by decide +kernel
theorem d_M_mayFollow_8 : decode b_M_mayFollow 8 = .ok (.lload_n 3, 1) := by decide +kernel
theorem d_M_mayFollow_9 : decode b_M_mayFollow 9 = .ok (.aload_n 1, 1) := by decide +kernel
theorem d_M_mayFollow_10 : decode b_M_mayFollow 10 = .ok (.getfield 205, 3) := by decide +kernel
theorem d_M_mayFollow_13 : decode b_M_mayFollow 13 = .ok (.lcmp, 1) := by decide +kernel
theorem d_M_mayFollow_14 : decode b_M_mayFollow 14 = .ok (.ifCond .lt 7, 3) := by decide +kernel
theorem d_M_mayFollow_17 : decode b_M_mayFollow 17 = .ok (.iconst 1, 1) := by decide +kernel
theorem d_M_mayFollow_18 : decode b_M_mayFollow 18 = .ok (.goto 4, 3) := by decide +kernel
theorem d_M_mayFollow_21 : decode b_M_mayFollow 21 = .ok (.iconst 0, 1) := by decide +kernel
theorem d_M_mayFollow_22 : decode b_M_mayFollow 22 = .ok (.ireturn, 1) := by decide +kernel
theorem d_M_mayFollow_23 : decode b_M_mayFollow 23 = .ok (.aload_n 0, 1) := by decide +kernel
theorem d_M_mayFollow_24 : decode b_M_mayFollow 24 = .ok (.aload_n 1, 1) := by decide +kernel
theorem d_M_mayFollow_25 : decode b_M_mayFollow 25 = .ok (.invokevirtual 228, 3) := by decide +kernel
theorem d_M_mayFollow_28 : decode b_M_mayFollow 28 = .ok (.ireturn, 1) := by decide +kernel
theorem d_M_serverOrNull_0 : decode b_M_serverOrNull 0 = .ok (.iload_n 1, 1) := by decide +kernel
theorem d_M_serverOrNull_1 : decode b_M_serverOrNull 1 = .ok (.ifCond .lt 12, 3) := by decide +kernel
theorem d_M_serverOrNull_4 : decode b_M_serverOrNull 4 = .ok (.iload_n 1, 1) := by decide +kernel
theorem d_M_serverOrNull_5 : decode b_M_serverOrNull 5 = .ok (.aload_n 0, 1) := by decide +kernel
theorem d_M_serverOrNull_6 : decode b_M_serverOrNull 6 = .ok (.getfield 33, 3) := by decide +kernel
theorem d_M_serverOrNull_9 : decode b_M_serverOrNull 9 = .ok (.arraylength, 1) := by decide +kernel
theorem d_M_serverOrNull_10 : decode b_M_serverOrNull 10 = .ok (.if_icmp .lt 7, 3) := by decide +kernel
theorem d_M_serverOrNull_13 : decode b_M_serverOrNull 13 = .ok (.aconst_null, 1) := by decide +kernel
theorem d_M_serverOrNull_14 : decode b_M_serverOrNull 14 = .ok (.goto 9, 3) := by decide +kernel
theorem d_M_serverOrNull_17 : decode b_M_serverOrNull 17 = .ok (.aload_n 0, 1) := by decide +kernel
theorem d_M_serverOrNull_18 : decode b_M_serverOrNull 18 = .ok (.getfield 33, 3) := by decide +kernel
theorem d_M_serverOrNull_21 : decode b_M_serverOrNull 21 = .ok (.iload_n 1, 1) := by decide +kernel
theorem d_M_serverOrNull_22 : decode b_M_serverOrNull 22 = .ok (.aaload, 1) := by decide +kernel
theorem d_M_serverOrNull_23 : decode b_M_serverOrNull 23 = .ok (.areturn, 1) := by decide +kernel
theorem d_M_leaseOrNull_0 : decode b_M_leaseOrNull 0 = .ok (.iload_n 1, 1) := by decide +kernel
theorem d_M_leaseOrNull_1 : decode b_M_leaseOrNull 1 = .ok (.ifCond .lt 12, 3) := by decide +kernel
theorem d_M_leaseOrNull_4 : decode b_M_leaseOrNull 4 = .ok (.iload_n 1, 1) := by decide +kernel
theorem d_M_leaseOrNull_5 : decode b_M_leaseOrNull 5 = .ok (.aload_n 0, 1) := by decide +kernel
theorem d_M_leaseOrNull_6 : decode b_M_leaseOrNull 6 = .ok (.getfield 40, 3) := by decide +kernel
theorem d_M_leaseOrNull_9 : decode b_M_leaseOrNull 9 = .ok (.arraylength, 1) := by decide +kernel
theorem d_M_leaseOrNull_10 : decode b_M_leaseOrNull 10 = .ok (.if_icmp .lt 7, 3) := by decide +kernel
theorem d_M_leaseOrNull_13 : decode b_M_leaseOrNull 13 = .ok (.aconst_null, 1) := by decide +kernel
theorem d_M_leaseOrNull_14 : decode b_M_leaseOrNull 14 = .ok (.goto 9, 3) := by decide +kernel
theorem d_M_leaseOrNull_17 : decode b_M_leaseOrNull 17 = .ok (.aload_n 0, 1) := by decide +kernel
theorem d_M_leaseOrNull_18 : decode b_M_leaseOrNull 18 = .ok (.getfield 40, 3) := by decide +kernel
theorem d_M_leaseOrNull_21 : decode b_M_leaseOrNull 21 = .ok (.iload_n 1, 1) := by decide +kernel
theorem d_M_leaseOrNull_22 : decode b_M_leaseOrNull 22 = .ok (.aaload, 1) := by decide +kernel
theorem d_M_leaseOrNull_23 : decode b_M_leaseOrNull 23 = .ok (.areturn, 1) := by decide +kernel
theorem d_M_expiry_0 : decode b_M_expiry 0 = .ok (.aload_n 0, 1) := by decide +kernel
theorem d_M_expiry_1 : decode b_M_expiry 1 = .ok (.iload_n 1, 1) := by decide +kernel
theorem d_M_expiry_2 : decode b_M_expiry 2 = .ok (.invokevirtual 178, 3) := by decide +kernel
theorem d_M_expiry_5 : decode b_M_expiry 5 = .ok (.astore_n 2, 1) := by decide +kernel
theorem d_M_expiry_6 : decode b_M_expiry 6 = .ok (.aload_n 2, 1) := by decide +kernel
theorem d_M_expiry_7 : decode b_M_expiry 7 = .ok (.ifnull 10, 3) := by decide +kernel
theorem d_M_expiry_10 : decode b_M_expiry 10 = .ok (.aload_n 2, 1) := by decide +kernel
theorem d_M_expiry_11 : decode b_M_expiry 11 = .ok (.getfield 185, 3) := by decide +kernel
theorem d_M_expiry_14 : decode b_M_expiry 14 = .ok (.ifCond .ne 9, 3) := by decide +kernel
theorem d_M_expiry_17 : decode b_M_expiry 17 = .ok (.ldc2_w 74, 3) := by decide +kernel
theorem d_M_expiry_20 : decode b_M_expiry 20 = .ok (.goto 7, 3) := by decide +kernel
theorem d_M_expiry_23 : decode b_M_expiry 23 = .ok (.aload_n 2, 1) := by decide +kernel
theorem d_M_expiry_24 : decode b_M_expiry 24 = .ok (.getfield 205, 3) := by decide +kernel
theorem d_M_expiry_27 : decode b_M_expiry 27 = .ok (.lreturn, 1) := by decide +kernel
theorem d_M_holder_0 : decode b_M_holder 0 = .ok (.aload_n 0, 1) := by decide +kernel
theorem d_M_holder_1 : decode b_M_holder 1 = .ok (.iload_n 1, 1) := by decide +kernel
theorem d_M_holder_2 : decode b_M_holder 2 = .ok (.invokevirtual 178, 3) := by decide +kernel
theorem d_M_holder_5 : decode b_M_holder 5 = .ok (.astore_n 2, 1) := by decide +kernel
theorem d_M_holder_6 : decode b_M_holder 6 = .ok (.aload_n 2, 1) := by decide +kernel
theorem d_M_holder_7 : decode b_M_holder 7 = .ok (.ifnull 10, 3) := by decide +kernel
theorem d_M_holder_10 : decode b_M_holder 10 = .ok (.aload_n 2, 1) := by decide +kernel
theorem d_M_holder_11 : decode b_M_holder 11 = .ok (.getfield 185, 3) := by decide +kernel
theorem d_M_holder_14 : decode b_M_holder 14 = .ok (.ifCond .ne 7, 3) := by decide +kernel
theorem d_M_holder_17 : decode b_M_holder 17 = .ok (.iconst (-1), 1) := by decide +kernel
theorem d_M_holder_18 : decode b_M_holder 18 = .ok (.goto 7, 3) := by decide +kernel
theorem d_M_holder_21 : decode b_M_holder 21 = .ok (.aload_n 2, 1) := by decide +kernel
theorem d_M_holder_22 : decode b_M_holder 22 = .ok (.getfield 196, 3) := by decide +kernel
end
section
theorem d_M_holder_25 : decode b_M_holder 25 = .ok (.ireturn, 1) := by decide +kernel
theorem d_M_holds_0 : decode b_M_holds 0 = .ok (.aload_n 0, 1) := by decide +kernel
theorem d_M_holds_1 : decode b_M_holds 1 = .ok (.iload_n 1, 1) := by decide +kernel
theorem d_M_holds_2 : decode b_M_holds 2 = .ok (.invokevirtual 178, 3) := by decide +kernel
theorem d_M_holds_5 : decode b_M_holds 5 = .ok (.astore 7, 2) := by decide +kernel
theorem d_M_holds_7 : decode b_M_holds 7 = .ok (.aload 7, 2) := by decide +kernel
theorem d_M_holds_9 : decode b_M_holds 9 = .ok (.ifnull 20, 3) := by decide +kernel
theorem d_M_holds_12 : decode b_M_holds 12 = .ok (.aload 7, 2) := by decide +kernel
theorem d_M_holds_14 : decode b_M_holds 14 = .ok (.getfield 185, 3) := by decide +kernel
theorem d_M_holds_17 : decode b_M_holds 17 = .ok (.ifCond .eq 12, 3) := by decide +kernel
theorem d_M_holds_20 : decode b_M_holds 20 = .ok (.aload 7, 2) := by decide +kernel
theorem d_M_holds_22 : decode b_M_holds 22 = .ok (.getfield 196, 3) := by decide +kernel
theorem d_M_holds_25 : decode b_M_holds 25 = .ok (.iload_n 2, 1) := by decide +kernel
theorem d_M_holds_26 : decode b_M_holds 26 = .ok (.if_icmp .eq 5, 3) := by decide +kernel
theorem d_M_holds_29 : decode b_M_holds 29 = .ok (.iconst 0, 1) := by decide +kernel
theorem d_M_holds_30 : decode b_M_holds 30 = .ok (.ireturn, 1) := by decide +kernel
theorem d_M_holds_31 : decode b_M_holds 31 = .ok (.lload 5, 2) := by decide +kernel
theorem d_M_holds_33 : decode b_M_holds 33 = .ok (.lconst 0, 1) := by decide +kernel
theorem d_M_holds_34 : decode b_M_holds 34 = .ok (.lcmp, 1) := by decide +kernel
theorem d_M_holds_35 : decode b_M_holds 35 = .ok (.ifCond .lt 28, 3) := by decide +kernel
theorem d_M_holds_38 : decode b_M_holds 38 = .ok (.lload 5, 2) := by decide +kernel
theorem d_M_holds_40 : decode b_M_holds 40 = .ok (.ldc2_w 199, 3) := by decide +kernel
theorem d_M_holds_43 : decode b_M_holds 43 = .ok (.lcmp, 1) := by decide +kernel
theorem d_M_holds_44 : decode b_M_holds 44 = .ok (.ifCond .gt 19, 3) := by decide +kernel
theorem d_M_holds_47 : decode b_M_holds 47 = .ok (.lload_n 3, 1) := by decide +kernel
theorem d_M_holds_48 : decode b_M_holds 48 = .ok (.ldc2_w 201, 3) := by decide +kernel
theorem d_M_holds_51 : decode b_M_holds 51 = .ok (.lcmp, 1) := by decide +kernel
theorem d_M_holds_52 : decode b_M_holds 52 = .ok (.ifCond .lt 11, 3) := by decide +kernel
theorem d_M_holds_55 : decode b_M_holds 55 = .ok (.lload_n 3, 1) := by decide +kernel
theorem d_M_holds_56 : decode b_M_holds 56 = .ok (.ldc2_w 203, 3) := by decide +kernel
theorem d_M_holds_59 : decode b_M_holds 59 = .ok (.lcmp, 1) := by decide +kernel
theorem d_M_holds_60 : decode b_M_holds 60 = .ok (.ifCond .le 5, 3) := by decide +kernel
theorem d_M_holds_63 : decode b_M_holds 63 = .ok (.iconst 0, 1) := by decide +kernel
theorem d_M_holds_64 : decode b_M_holds 64 = .ok (.ireturn, 1) := by decide +kernel
theorem d_M_holds_65 : decode b_M_holds 65 = .ok (.lload_n 3, 1) := by decide +kernel
theorem d_M_holds_66 : decode b_M_holds 66 = .ok (.lload 5, 2) := by decide +kernel
theorem d_M_holds_68 : decode b_M_holds 68 = .ok (.ladd, 1) := by decide +kernel
theorem d_M_holds_69 : decode b_M_holds 69 = .ok (.aload 7, 2) := by decide +kernel
theorem d_M_holds_71 : decode b_M_holds 71 = .ok (.getfield 205, 3) := by decide +kernel
theorem d_M_holds_74 : decode b_M_holds 74 = .ok (.lcmp, 1) := by decide +kernel
theorem d_M_holds_75 : decode b_M_holds 75 = .ok (.ifCond .ge 7, 3) := by decide +kernel
theorem d_M_holds_78 : decode b_M_holds 78 = .ok (.iconst 1, 1) := by decide +kernel
theorem d_M_holds_79 : decode b_M_holds 79 = .ok (.goto 4, 3) := by decide +kernel
theorem d_M_holds_82 : decode b_M_holds 82 = .ok (.iconst 0, 1) := by decide +kernel
theorem d_M_holds_83 : decode b_M_holds 83 = .ok (.ireturn, 1) := by decide +kernel
theorem d_M_grant_0 : decode b_M_grant 0 = .ok (.aload_n 0, 1) := by decide +kernel
theorem d_M_grant_1 : decode b_M_grant 1 = .ok (.iload_n 1, 1) := by decide +kernel
theorem d_M_grant_2 : decode b_M_grant 2 = .ok (.invokevirtual 178, 3) := by decide +kernel
theorem d_M_grant_5 : decode b_M_grant 5 = .ok (.astore 4, 2) := by decide +kernel
theorem d_M_grant_7 : decode b_M_grant 7 = .ok (.aload 4, 2) := by decide +kernel
theorem d_M_grant_9 : decode b_M_grant 9 = .ok (.ifnull 28, 3) := by decide +kernel
theorem d_M_grant_12 : decode b_M_grant 12 = .ok (.iload_n 2, 1) := by decide +kernel
theorem d_M_grant_13 : decode b_M_grant 13 = .ok (.ifCond .lt 24, 3) := by decide +kernel
theorem d_M_grant_16 : decode b_M_grant 16 = .ok (.iload_n 3, 1) := by decide +kernel
theorem d_M_grant_17 : decode b_M_grant 17 = .ok (.iconst 1, 1) := by decide +kernel
theorem d_M_grant_18 : decode b_M_grant 18 = .ok (.if_icmp .lt 19, 3) := by decide +kernel
theorem d_M_grant_21 : decode b_M_grant 21 = .ok (.iload_n 3, 1) := by decide +kernel
theorem d_M_grant_22 : decode b_M_grant 22 = .ok (.ldc 59, 2) := by decide +kernel
theorem d_M_grant_24 : decode b_M_grant 24 = .ok (.if_icmp .gt 13, 3) := by decide +kernel
theorem d_M_grant_27 : decode b_M_grant 27 = .ok (.aload_n 0, 1) := by decide +kernel
theorem d_M_grant_28 : decode b_M_grant 28 = .ok (.getfield 55, 3) := by decide +kernel
theorem d_M_grant_31 : decode b_M_grant 31 = .ok (.getfield 157, 3) := by decide +kernel
theorem d_M_grant_34 : decode b_M_grant 34 = .ok (.ifCond .ne 7, 3) := by decide +kernel
theorem d_M_grant_37 : decode b_M_grant 37 = .ok (.ldc2_w 74, 3) := by decide +kernel
theorem d_M_grant_40 : decode b_M_grant 40 = .ok (.lreturn, 1) := by decide +kernel
theorem d_M_grant_41 : decode b_M_grant 41 = .ok (.aload_n 0, 1) := by decide +kernel
theorem d_M_grant_42 : decode b_M_grant 42 = .ok (.invokevirtual 182, 3) := by decide +kernel
theorem d_M_grant_45 : decode b_M_grant 45 = .ok (.iload_n 3, 1) := by decide +kernel
theorem d_M_grant_46 : decode b_M_grant 46 = .ok (.i2l, 1) := by decide +kernel
theorem d_M_grant_47 : decode b_M_grant 47 = .ok (.ladd, 1) := by decide +kernel
theorem d_M_grant_48 : decode b_M_grant 48 = .ok (.lstore 5, 2) := by decide +kernel
theorem d_M_grant_50 : decode b_M_grant 50 = .ok (.aload 4, 2) := by decide +kernel
theorem d_M_grant_52 : decode b_M_grant 52 = .ok (.getfield 185, 3) := by decide +kernel
theorem d_M_grant_55 : decode b_M_grant 55 = .ok (.ifCond .eq 19, 3) := by decide +kernel
theorem d_M_grant_58 : decode b_M_grant 58 = .ok (.aload_n 0, 1) := by decide +kernel
theorem d_M_grant_59 : decode b_M_grant 59 = .ok (.aload 4, 2) := by decide +kernel
theorem d_M_grant_61 : decode b_M_grant 61 = .ok (.iload_n 2, 1) := by decide +kernel
theorem d_M_grant_62 : decode b_M_grant 62 = .ok (.lload 5, 2) := by decide +kernel
theorem d_M_grant_64 : decode b_M_grant 64 = .ok (.invokevirtual 188, 3) := by decide +kernel
theorem d_M_grant_67 : decode b_M_grant 67 = .ok (.ifCond .ne 7, 3) := by decide +kernel
theorem d_M_grant_70 : decode b_M_grant 70 = .ok (.ldc2_w 74, 3) := by decide +kernel
theorem d_M_grant_73 : decode b_M_grant 73 = .ok (.lreturn, 1) := by decide +kernel
theorem d_M_grant_74 : decode b_M_grant 74 = .ok (.aload 4, 2) := by decide +kernel
theorem d_M_grant_76 : decode b_M_grant 76 = .ok (.iload_n 2, 1) := by decide +kernel
theorem d_M_grant_77 : decode b_M_grant 77 = .ok (.lload 5, 2) := by decide +kernel
theorem d_M_grant_79 : decode b_M_grant 79 = .ok (.invokevirtual 192, 3) := by decide +kernel
theorem d_M_grant_82 : decode b_M_grant 82 = .ok (.lload 5, 2) := by decide +kernel
theorem d_M_grant_84 : decode b_M_grant 84 = .ok (.lreturn, 1) := by decide +kernel
theorem d_M_key_0 : decode b_M_key 0 = .ok (.aload_n 0, 1) := by decide +kernel
theorem d_M_key_1 : decode b_M_key 1 = .ok (.iload_n 1, 1) := by decide +kernel
theorem d_M_key_2 : decode b_M_key 2 = .ok (.invokevirtual 63, 3) := by decide +kernel
theorem d_M_key_5 : decode b_M_key 5 = .ok (.astore 4, 2) := by decide +kernel
theorem d_M_key_7 : decode b_M_key 7 = .ok (.aload 4, 2) := by decide +kernel
theorem d_M_key_9 : decode b_M_key 9 = .ok (.ifnonnull 5, 3) := by decide +kernel
theorem d_M_key_12 : decode b_M_key 12 = .ok (.iconst 0, 1) := by decide +kernel
theorem d_M_key_13 : decode b_M_key 13 = .ok (.ireturn, 1) := by decide +kernel
theorem d_M_key_14 : decode b_M_key 14 = .ok (.aload 4, 2) := by decide +kernel
theorem d_M_key_16 : decode b_M_key 16 = .ok (.lload_n 2, 1) := by decide +kernel
theorem d_M_key_17 : decode b_M_key 17 = .ok (.putfield 67, 3) := by decide +kernel
theorem d_M_key_20 : decode b_M_key 20 = .ok (.iconst 1, 1) := by decide +kernel
theorem d_M_key_21 : decode b_M_key 21 = .ok (.ireturn, 1) := by decide +kernel
theorem d_M_seal_0 : decode b_M_seal 0 = .ok (.aload_n 0, 1) := by decide +kernel
theorem d_M_seal_1 : decode b_M_seal 1 = .ok (.iload_n 1, 1) := by decide +kernel
theorem d_M_seal_2 : decode b_M_seal 2 = .ok (.invokevirtual 63, 3) := by decide +kernel
theorem d_M_seal_5 : decode b_M_seal 5 = .ok (.astore 8, 2) := by decide +kernel
theorem d_M_seal_7 : decode b_M_seal 7 = .ok (.aload 8, 2) := by decide +kernel
theorem d_M_seal_9 : decode b_M_seal 9 = .ok (.ifnonnull 5, 3) := by decide +kernel
theorem d_M_seal_12 : decode b_M_seal 12 = .ok (.iconst 0, 1) := by decide +kernel
theorem d_M_seal_13 : decode b_M_seal 13 = .ok (.ireturn, 1) := by decide +kernel
theorem d_M_seal_14 : decode b_M_seal 14 = .ok (.aload 8, 2) := by decide +kernel
theorem d_M_seal_16 : decode b_M_seal 16 = .ok (.getfield 67, 3) := by decide +kernel
theorem d_M_seal_19 : decode b_M_seal 19 = .ok (.lload_n 2, 1) := by decide +kernel
theorem d_M_seal_20 : decode b_M_seal 20 = .ok (.lload 4, 2) := by decide +kernel
theorem d_M_seal_22 : decode b_M_seal 22 = .ok (.lload 6, 2) := by decide +kernel
theorem d_M_seal_24 : decode b_M_seal 24 = .ok (.invokestatic 70, 3) := by decide +kernel
theorem d_M_seal_27 : decode b_M_seal 27 = .ok (.ireturn, 1) := by decide +kernel
theorem d_M_ask_0 : decode b_M_ask 0 = .ok (.aload_n 0, 1) := by decide +kernel
theorem d_M_ask_1 : decode b_M_ask 1 = .ok (.iload_n 1, 1) := by decide +kernel
theorem d_M_ask_2 : decode b_M_ask 2 = .ok (.invokevirtual 63, 3) := by decide +kernel
theorem d_M_ask_5 : decode b_M_ask 5 = .ok (.astore_n 2, 1) := by decide +kernel
theorem d_M_ask_6 : decode b_M_ask 6 = .ok (.aload_n 2, 1) := by decide +kernel
theorem d_M_ask_7 : decode b_M_ask 7 = .ok (.ifnonnull 7, 3) := by decide +kernel
theorem d_M_ask_10 : decode b_M_ask 10 = .ok (.ldc2_w 74, 3) := by decide +kernel
theorem d_M_ask_13 : decode b_M_ask 13 = .ok (.lreturn, 1) := by decide +kernel
theorem d_M_ask_14 : decode b_M_ask 14 = .ok (.aload_n 0, 1) := by decide +kernel
theorem d_M_ask_15 : decode b_M_ask 15 = .ok (.aload_n 0, 1) := by decide +kernel
theorem d_M_ask_16 : decode b_M_ask 16 = .ok (.getfield 60, 3) := by decide +kernel
theorem d_M_ask_19 : decode b_M_ask 19 = .ok (.aload_n 0, 1) := by decide +kernel
theorem d_M_ask_20 : decode b_M_ask 20 = .ok (.getfield 9, 3) := by decide +kernel
theorem d_M_ask_23 : decode b_M_ask 23 = .ok (.lconst 1, 1) := by decide +kernel
theorem d_M_ask_24 : decode b_M_ask 24 = .ok (.ladd, 1) := by decide +kernel
theorem d_M_ask_25 : decode b_M_ask 25 = .ok (.invokestatic 76, 3) := by decide +kernel
theorem d_M_ask_28 : decode b_M_ask 28 = .ok (.putfield 9, 3) := by decide +kernel
theorem d_M_ask_31 : decode b_M_ask 31 = .ok (.aload_n 2, 1) := by decide +kernel
theorem d_M_ask_32 : decode b_M_ask 32 = .ok (.aload_n 0, 1) := by decide +kernel
theorem d_M_ask_33 : decode b_M_ask 33 = .ok (.getfield 9, 3) := by decide +kernel
theorem d_M_ask_36 : decode b_M_ask 36 = .ok (.aload_n 0, 1) := by decide +kernel
theorem d_M_ask_37 : decode b_M_ask 37 = .ok (.getfield 60, 3) := by decide +kernel
theorem d_M_ask_40 : decode b_M_ask 40 = .ok (.invokevirtual 79, 3) := by decide +kernel
theorem d_M_ask_43 : decode b_M_ask 43 = .ok (.aload_n 0, 1) := by decide +kernel
theorem d_M_ask_44 : decode b_M_ask 44 = .ok (.getfield 9, 3) := by decide +kernel
theorem d_M_ask_47 : decode b_M_ask 47 = .ok (.lreturn, 1) := by decide +kernel
theorem d_M_reply_0 : decode b_M_reply 0 = .ok (.aload_n 0, 1) := by decide +kernel
theorem d_M_reply_1 : decode b_M_reply 1 = .ok (.iload_n 1, 1) := by decide +kernel
theorem d_M_reply_2 : decode b_M_reply 2 = .ok (.invokevirtual 63, 3) := by decide +kernel
theorem d_M_reply_5 : decode b_M_reply 5 = .ok (.astore 9, 2) := by decide +kernel
theorem d_M_reply_7 : decode b_M_reply 7 = .ok (.aload 9, 2) := by decide +kernel
theorem d_M_reply_9 : decode b_M_reply 9 = .ok (.ifnonnull 5, 3) := by decide +kernel
theorem d_M_reply_12 : decode b_M_reply 12 = .ok (.iconst (-1), 1) := by decide +kernel
theorem d_M_reply_13 : decode b_M_reply 13 = .ok (.ireturn, 1) := by decide +kernel
theorem d_M_reply_14 : decode b_M_reply 14 = .ok (.lload 4, 2) := by decide +kernel
theorem d_M_reply_16 : decode b_M_reply 16 = .ok (.invokestatic 83, 3) := by decide +kernel
theorem d_M_reply_19 : decode b_M_reply 19 = .ok (.ifCond .eq 19, 3) := by decide +kernel
theorem d_M_reply_22 : decode b_M_reply 22 = .ok (.lload 6, 2) := by decide +kernel
theorem d_M_reply_24 : decode b_M_reply 24 = .ok (.invokestatic 83, 3) := by decide +kernel
theorem d_M_reply_27 : decode b_M_reply 27 = .ok (.ifCond .eq 11, 3) := by decide +kernel
theorem d_M_reply_30 : decode b_M_reply 30 = .ok (.lload 4, 2) := by decide +kernel
theorem d_M_reply_32 : decode b_M_reply 32 = .ok (.lload 6, 2) := by decide +kernel
theorem d_M_reply_34 : decode b_M_reply 34 = .ok (.lcmp, 1) := by decide +kernel
theorem d_M_reply_35 : decode b_M_reply 35 = .ok (.ifCond .le 6, 3) := by decide +kernel
end
section
theorem d_M_reply_38 : decode b_M_reply 38 = .ok (.bipush (-2), 2) := by decide +kernel
theorem d_M_reply_40 : decode b_M_reply 40 = .ok (.ireturn, 1) := by decide +kernel
theorem d_M_reply_41 : decode b_M_reply 41 = .ok (.iload 8, 2) := by decide +kernel
theorem d_M_reply_43 : decode b_M_reply 43 = .ok (.aload 9, 2) := by decide +kernel
theorem d_M_reply_45 : decode b_M_reply 45 = .ok (.getfield 67, 3) := by decide +kernel
theorem d_M_reply_48 : decode b_M_reply 48 = .ok (.lload_n 2, 1) := by decide +kernel
theorem d_M_reply_49 : decode b_M_reply 49 = .ok (.lload 4, 2) := by decide +kernel
theorem d_M_reply_51 : decode b_M_reply 51 = .ok (.lload 6, 2) := by decide +kernel
theorem d_M_reply_53 : decode b_M_reply 53 = .ok (.invokestatic 70, 3) := by decide +kernel
theorem d_M_reply_56 : decode b_M_reply 56 = .ok (.if_icmp .eq 6, 3) := by decide +kernel
theorem d_M_reply_59 : decode b_M_reply 59 = .ok (.bipush (-3), 2) := by decide +kernel
theorem d_M_reply_61 : decode b_M_reply 61 = .ok (.ireturn, 1) := by decide +kernel
theorem d_M_reply_62 : decode b_M_reply 62 = .ok (.aload 9, 2) := by decide +kernel
theorem d_M_reply_64 : decode b_M_reply 64 = .ok (.lload_n 2, 1) := by decide +kernel
theorem d_M_reply_65 : decode b_M_reply 65 = .ok (.invokevirtual 87, 3) := by decide +kernel
theorem d_M_reply_68 : decode b_M_reply 68 = .ok (.ifCond .eq 6, 3) := by decide +kernel
theorem d_M_reply_71 : decode b_M_reply 71 = .ok (.bipush (-4), 2) := by decide +kernel
theorem d_M_reply_73 : decode b_M_reply 73 = .ok (.ireturn, 1) := by decide +kernel
theorem d_M_reply_74 : decode b_M_reply 74 = .ok (.aload 9, 2) := by decide +kernel
theorem d_M_reply_76 : decode b_M_reply 76 = .ok (.lload_n 2, 1) := by decide +kernel
theorem d_M_reply_77 : decode b_M_reply 77 = .ok (.invokevirtual 90, 3) := by decide +kernel
theorem d_M_reply_80 : decode b_M_reply 80 = .ok (.ifCond .ne 6, 3) := by decide +kernel
theorem d_M_reply_83 : decode b_M_reply 83 = .ok (.bipush (-5), 2) := by decide +kernel
theorem d_M_reply_85 : decode b_M_reply 85 = .ok (.ireturn, 1) := by decide +kernel
theorem d_M_reply_86 : decode b_M_reply 86 = .ok (.lload 6, 2) := by decide +kernel
theorem d_M_reply_88 : decode b_M_reply 88 = .ok (.lload 4, 2) := by decide +kernel
theorem d_M_reply_90 : decode b_M_reply 90 = .ok (.lsub, 1) := by decide +kernel
theorem d_M_reply_91 : decode b_M_reply 91 = .ok (.aload_n 0, 1) := by decide +kernel
theorem d_M_reply_92 : decode b_M_reply 92 = .ok (.getfield 60, 3) := by decide +kernel
theorem d_M_reply_95 : decode b_M_reply 95 = .ok (.aload 9, 2) := by decide +kernel
theorem d_M_reply_97 : decode b_M_reply 97 = .ok (.getfield 93, 3) := by decide +kernel
theorem d_M_reply_100 : decode b_M_reply 100 = .ok (.lsub, 1) := by decide +kernel
theorem d_M_reply_101 : decode b_M_reply 101 = .ok (.lcmp, 1) := by decide +kernel
theorem d_M_reply_102 : decode b_M_reply 102 = .ok (.ifCond .le 6, 3) := by decide +kernel
theorem d_M_reply_105 : decode b_M_reply 105 = .ok (.bipush (-6), 2) := by decide +kernel
theorem d_M_reply_107 : decode b_M_reply 107 = .ok (.ireturn, 1) := by decide +kernel
theorem d_M_reply_108 : decode b_M_reply 108 = .ok (.aload 9, 2) := by decide +kernel
theorem d_M_reply_110 : decode b_M_reply 110 = .ok (.lload_n 2, 1) := by decide +kernel
theorem d_M_reply_111 : decode b_M_reply 111 = .ok (.lload 4, 2) := by decide +kernel
theorem d_M_reply_113 : decode b_M_reply 113 = .ok (.lload 6, 2) := by decide +kernel
theorem d_M_reply_115 : decode b_M_reply 115 = .ok (.aload_n 0, 1) := by decide +kernel
theorem d_M_reply_116 : decode b_M_reply 116 = .ok (.getfield 60, 3) := by decide +kernel
theorem d_M_reply_119 : decode b_M_reply 119 = .ok (.invokevirtual 96, 3) := by decide +kernel
theorem d_M_reply_122 : decode b_M_reply 122 = .ok (.aload 9, 2) := by decide +kernel
theorem d_M_reply_124 : decode b_M_reply 124 = .ok (.getfield 100, 3) := by decide +kernel
theorem d_M_reply_127 : decode b_M_reply 127 = .ok (.ireturn, 1) := by decide +kernel
theorem d_M_tell_0 : decode b_M_tell 0 = .ok (.aload_n 0, 1) := by decide +kernel
theorem d_M_tell_1 : decode b_M_tell 1 = .ok (.iload_n 1, 1) := by decide +kernel
theorem d_M_tell_2 : decode b_M_tell 2 = .ok (.invokevirtual 63, 3) := by decide +kernel
theorem d_M_tell_5 : decode b_M_tell 5 = .ok (.astore 5, 2) := by decide +kernel
theorem d_M_tell_7 : decode b_M_tell 7 = .ok (.aload 5, 2) := by decide +kernel
theorem d_M_tell_9 : decode b_M_tell 9 = .ok (.ifnull 26, 3) := by decide +kernel
theorem d_M_tell_12 : decode b_M_tell 12 = .ok (.iload_n 2, 1) := by decide +kernel
theorem d_M_tell_13 : decode b_M_tell 13 = .ok (.iconst 1, 1) := by decide +kernel
theorem d_M_tell_14 : decode b_M_tell 14 = .ok (.if_icmp .lt 21, 3) := by decide +kernel
theorem d_M_tell_17 : decode b_M_tell 17 = .ok (.iload_n 2, 1) := by decide +kernel
theorem d_M_tell_18 : decode b_M_tell 18 = .ok (.bipush 16, 2) := by decide +kernel
theorem d_M_tell_20 : decode b_M_tell 20 = .ok (.if_icmp .gt 15, 3) := by decide +kernel
theorem d_M_tell_23 : decode b_M_tell 23 = .ok (.iload 4, 2) := by decide +kernel
theorem d_M_tell_25 : decode b_M_tell 25 = .ok (.ifCond .lt 10, 3) := by decide +kernel
theorem d_M_tell_28 : decode b_M_tell 28 = .ok (.iload 4, 2) := by decide +kernel
theorem d_M_tell_30 : decode b_M_tell 30 = .ok (.ldc 59, 2) := by decide +kernel
theorem d_M_tell_32 : decode b_M_tell 32 = .ok (.if_icmp .le 5, 3) := by decide +kernel
theorem d_M_tell_35 : decode b_M_tell 35 = .ok (.iconst 0, 1) := by decide +kernel
theorem d_M_tell_36 : decode b_M_tell 36 = .ok (.ireturn, 1) := by decide +kernel
theorem d_M_tell_37 : decode b_M_tell 37 = .ok (.aload 5, 2) := by decide +kernel
theorem d_M_tell_39 : decode b_M_tell 39 = .ok (.iload_n 2, 1) := by decide +kernel
theorem d_M_tell_40 : decode b_M_tell 40 = .ok (.putfield 103, 3) := by decide +kernel
theorem d_M_tell_43 : decode b_M_tell 43 = .ok (.aload 5, 2) := by decide +kernel
theorem d_M_tell_45 : decode b_M_tell 45 = .ok (.iload_n 3, 1) := by decide +kernel
theorem d_M_tell_46 : decode b_M_tell 46 = .ok (.putfield 106, 3) := by decide +kernel
theorem d_M_tell_49 : decode b_M_tell 49 = .ok (.aload 5, 2) := by decide +kernel
theorem d_M_tell_51 : decode b_M_tell 51 = .ok (.iload 4, 2) := by decide +kernel
theorem d_M_tell_53 : decode b_M_tell 53 = .ok (.putfield 109, 3) := by decide +kernel
theorem d_M_tell_56 : decode b_M_tell 56 = .ok (.iconst 1, 1) := by decide +kernel
theorem d_M_tell_57 : decode b_M_tell 57 = .ok (.ireturn, 1) := by decide +kernel
theorem d_M_low_0 : decode b_M_low 0 = .ok (.aload_n 0, 1) := by decide +kernel
theorem d_M_low_1 : decode b_M_low 1 = .ok (.iload_n 1, 1) := by decide +kernel
theorem d_M_low_2 : decode b_M_low 2 = .ok (.invokevirtual 63, 3) := by decide +kernel
theorem d_M_low_5 : decode b_M_low 5 = .ok (.astore_n 2, 1) := by decide +kernel
theorem d_M_low_6 : decode b_M_low 6 = .ok (.aload_n 2, 1) := by decide +kernel
theorem d_M_low_7 : decode b_M_low 7 = .ok (.ifnull 10, 3) := by decide +kernel
theorem d_M_low_10 : decode b_M_low 10 = .ok (.aload_n 2, 1) := by decide +kernel
theorem d_M_low_11 : decode b_M_low 11 = .ok (.getfield 100, 3) := by decide +kernel
theorem d_M_low_14 : decode b_M_low 14 = .ok (.ifCond .ne 7, 3) := by decide +kernel
theorem d_M_low_17 : decode b_M_low 17 = .ok (.ldc2_w 74, 3) := by decide +kernel
theorem d_M_low_20 : decode b_M_low 20 = .ok (.lreturn, 1) := by decide +kernel
theorem d_M_low_21 : decode b_M_low 21 = .ok (.aload_n 2, 1) := by decide +kernel
theorem d_M_low_22 : decode b_M_low 22 = .ok (.aload_n 2, 1) := by decide +kernel
theorem d_M_low_23 : decode b_M_low 23 = .ok (.aload_n 0, 1) := by decide +kernel
theorem d_M_low_24 : decode b_M_low 24 = .ok (.getfield 60, 3) := by decide +kernel
theorem d_M_low_27 : decode b_M_low 27 = .ok (.aload_n 0, 1) := by decide +kernel
theorem d_M_low_28 : decode b_M_low 28 = .ok (.getfield 24, 3) := by decide +kernel
theorem d_M_low_31 : decode b_M_low 31 = .ok (.invokevirtual 112, 3) := by decide +kernel
theorem d_M_low_34 : decode b_M_low 34 = .ok (.aload_n 0, 1) := by decide +kernel
theorem d_M_low_35 : decode b_M_low 35 = .ok (.getfield 60, 3) := by decide +kernel
theorem d_M_low_38 : decode b_M_low 38 = .ok (.aload_n 0, 1) := by decide +kernel
theorem d_M_low_39 : decode b_M_low 39 = .ok (.getfield 24, 3) := by decide +kernel
theorem d_M_low_42 : decode b_M_low 42 = .ok (.invokevirtual 116, 3) := by decide +kernel
theorem d_M_low_45 : decode b_M_low 45 = .ok (.lreturn, 1) := by decide +kernel
theorem d_M_high_0 : decode b_M_high 0 = .ok (.aload_n 0, 1) := by decide +kernel
theorem d_M_high_1 : decode b_M_high 1 = .ok (.iload_n 1, 1) := by decide +kernel
theorem d_M_high_2 : decode b_M_high 2 = .ok (.invokevirtual 63, 3) := by decide +kernel
theorem d_M_high_5 : decode b_M_high 5 = .ok (.astore_n 2, 1) := by decide +kernel
theorem d_M_high_6 : decode b_M_high 6 = .ok (.aload_n 2, 1) := by decide +kernel
theorem d_M_high_7 : decode b_M_high 7 = .ok (.ifnull 10, 3) := by decide +kernel
theorem d_M_high_10 : decode b_M_high 10 = .ok (.aload_n 2, 1) := by decide +kernel
theorem d_M_high_11 : decode b_M_high 11 = .ok (.getfield 100, 3) := by decide +kernel
theorem d_M_high_14 : decode b_M_high 14 = .ok (.ifCond .ne 7, 3) := by decide +kernel
theorem d_M_high_17 : decode b_M_high 17 = .ok (.ldc2_w 74, 3) := by decide +kernel
theorem d_M_high_20 : decode b_M_high 20 = .ok (.lreturn, 1) := by decide +kernel
theorem d_M_high_21 : decode b_M_high 21 = .ok (.aload_n 2, 1) := by decide +kernel
theorem d_M_high_22 : decode b_M_high 22 = .ok (.aload_n 2, 1) := by decide +kernel
theorem d_M_high_23 : decode b_M_high 23 = .ok (.aload_n 0, 1) := by decide +kernel
theorem d_M_high_24 : decode b_M_high 24 = .ok (.getfield 60, 3) := by decide +kernel
theorem d_M_high_27 : decode b_M_high 27 = .ok (.aload_n 0, 1) := by decide +kernel
theorem d_M_high_28 : decode b_M_high 28 = .ok (.getfield 24, 3) := by decide +kernel
theorem d_M_high_31 : decode b_M_high 31 = .ok (.invokevirtual 112, 3) := by decide +kernel
theorem d_M_high_34 : decode b_M_high 34 = .ok (.aload_n 0, 1) := by decide +kernel
theorem d_M_high_35 : decode b_M_high 35 = .ok (.getfield 60, 3) := by decide +kernel
theorem d_M_high_38 : decode b_M_high 38 = .ok (.aload_n 0, 1) := by decide +kernel
theorem d_M_high_39 : decode b_M_high 39 = .ok (.getfield 24, 3) := by decide +kernel
theorem d_M_high_42 : decode b_M_high 42 = .ok (.invokevirtual 120, 3) := by decide +kernel
theorem d_M_high_45 : decode b_M_high 45 = .ok (.lreturn, 1) := by decide +kernel
theorem d_M_isUsable_0 : decode b_M_isUsable 0 = .ok (.aload_n 1, 1) := by decide +kernel
theorem d_M_isUsable_1 : decode b_M_isUsable 1 = .ok (.getfield 103, 3) := by decide +kernel
theorem d_M_isUsable_4 : decode b_M_isUsable 4 = .ok (.iconst 1, 1) := by decide +kernel
theorem d_M_isUsable_5 : decode b_M_isUsable 5 = .ok (.if_icmp .lt 50, 3) := by decide +kernel
theorem d_M_isUsable_8 : decode b_M_isUsable 8 = .ok (.aload_n 1, 1) := by decide +kernel
theorem d_M_isUsable_9 : decode b_M_isUsable 9 = .ok (.getfield 103, 3) := by decide +kernel
theorem d_M_isUsable_12 : decode b_M_isUsable 12 = .ok (.bipush 14, 2) := by decide +kernel
theorem d_M_isUsable_14 : decode b_M_isUsable 14 = .ok (.if_icmp .gt 41, 3) := by decide +kernel
theorem d_M_isUsable_17 : decode b_M_isUsable 17 = .ok (.aload_n 1, 1) := by decide +kernel
theorem d_M_isUsable_18 : decode b_M_isUsable 18 = .ok (.getfield 106, 3) := by decide +kernel
theorem d_M_isUsable_21 : decode b_M_isUsable 21 = .ok (.aload_n 0, 1) := by decide +kernel
theorem d_M_isUsable_22 : decode b_M_isUsable 22 = .ok (.getfield 28, 3) := by decide +kernel
theorem d_M_isUsable_25 : decode b_M_isUsable 25 = .ok (.if_icmp .eq 30, 3) := by decide +kernel
theorem d_M_isUsable_28 : decode b_M_isUsable 28 = .ok (.aload_n 1, 1) := by decide +kernel
theorem d_M_isUsable_29 : decode b_M_isUsable 29 = .ok (.getfield 100, 3) := by decide +kernel
theorem d_M_isUsable_32 : decode b_M_isUsable 32 = .ok (.ifCond .le 23, 3) := by decide +kernel
theorem d_M_isUsable_35 : decode b_M_isUsable 35 = .ok (.aload_n 0, 1) := by decide +kernel
theorem d_M_isUsable_36 : decode b_M_isUsable 36 = .ok (.getfield 60, 3) := by decide +kernel
theorem d_M_isUsable_39 : decode b_M_isUsable 39 = .ok (.aload_n 1, 1) := by decide +kernel
theorem d_M_isUsable_40 : decode b_M_isUsable 40 = .ok (.invokevirtual 208, 3) := by decide +kernel
theorem d_M_isUsable_43 : decode b_M_isUsable 43 = .ok (.lsub, 1) := by decide +kernel
theorem d_M_isUsable_44 : decode b_M_isUsable 44 = .ok (.ldc2_w 211, 3) := by decide +kernel
theorem d_M_isUsable_47 : decode b_M_isUsable 47 = .ok (.lcmp, 1) := by decide +kernel
theorem d_M_isUsable_48 : decode b_M_isUsable 48 = .ok (.ifCond .gt 7, 3) := by decide +kernel
theorem d_M_isUsable_51 : decode b_M_isUsable 51 = .ok (.iconst 1, 1) := by decide +kernel
theorem d_M_isUsable_52 : decode b_M_isUsable 52 = .ok (.goto 4, 3) := by decide +kernel
theorem d_M_isUsable_55 : decode b_M_isUsable 55 = .ok (.iconst 0, 1) := by decide +kernel
theorem d_M_isUsable_56 : decode b_M_isUsable 56 = .ok (.ireturn, 1) := by decide +kernel
theorem d_M_callElection_0 : decode b_M_callElection 0 = .ok (.aload_n 0, 1) := by decide +kernel
theorem d_M_callElection_1 : decode b_M_callElection 1 = .ok (.getfield 48, 3) := by decide +kernel
theorem d_M_callElection_4 : decode b_M_callElection 4 = .ok (.invokevirtual 213, 3) := by decide +kernel
theorem d_M_callElection_7 : decode b_M_callElection 7 = .ok (.iconst 0, 1) := by decide +kernel
theorem d_M_callElection_8 : decode b_M_callElection 8 = .ok (.istore_n 1, 1) := by decide +kernel
theorem d_M_callElection_9 : decode b_M_callElection 9 = .ok (.iload_n 1, 1) := by decide +kernel
theorem d_M_callElection_10 : decode b_M_callElection 10 = .ok (.aload_n 0, 1) := by decide +kernel
theorem d_M_callElection_11 : decode b_M_callElection 11 = .ok (.getfield 33, 3) := by decide +kernel
end
section
theorem d_M_callElection_14 : decode b_M_callElection 14 = .ok (.arraylength, 1) := by decide +kernel
theorem d_M_callElection_15 : decode b_M_callElection 15 = .ok (.if_icmp .ge 75, 3) := by decide +kernel
theorem d_M_callElection_18 : decode b_M_callElection 18 = .ok (.aload_n 0, 1) := by decide +kernel
theorem d_M_callElection_19 : decode b_M_callElection 19 = .ok (.getfield 33, 3) := by decide +kernel
theorem d_M_callElection_22 : decode b_M_callElection 22 = .ok (.iload_n 1, 1) := by decide +kernel
theorem d_M_callElection_23 : decode b_M_callElection 23 = .ok (.aaload, 1) := by decide +kernel
theorem d_M_callElection_24 : decode b_M_callElection 24 = .ok (.astore_n 2, 1) := by decide +kernel
theorem d_M_callElection_25 : decode b_M_callElection 25 = .ok (.aload_n 2, 1) := by decide +kernel
theorem d_M_callElection_26 : decode b_M_callElection 26 = .ok (.ifnull 58, 3) := by decide +kernel
theorem d_M_callElection_29 : decode b_M_callElection 29 = .ok (.aload_n 0, 1) := by decide +kernel
theorem d_M_callElection_30 : decode b_M_callElection 30 = .ok (.aload_n 2, 1) := by decide +kernel
theorem d_M_callElection_31 : decode b_M_callElection 31 = .ok (.invokevirtual 216, 3) := by decide +kernel
theorem d_M_callElection_34 : decode b_M_callElection 34 = .ok (.ifCond .eq 50, 3) := by decide +kernel
theorem d_M_callElection_37 : decode b_M_callElection 37 = .ok (.aload_n 2, 1) := by decide +kernel
theorem d_M_callElection_38 : decode b_M_callElection 38 = .ok (.aload_n 0, 1) := by decide +kernel
theorem d_M_callElection_39 : decode b_M_callElection 39 = .ok (.getfield 60, 3) := by decide +kernel
theorem d_M_callElection_42 : decode b_M_callElection 42 = .ok (.aload_n 0, 1) := by decide +kernel
theorem d_M_callElection_43 : decode b_M_callElection 43 = .ok (.getfield 24, 3) := by decide +kernel
theorem d_M_callElection_46 : decode b_M_callElection 46 = .ok (.invokevirtual 112, 3) := by decide +kernel
theorem d_M_callElection_49 : decode b_M_callElection 49 = .ok (.istore_n 3, 1) := by decide +kernel
theorem d_M_callElection_50 : decode b_M_callElection 50 = .ok (.aload_n 0, 1) := by decide +kernel
theorem d_M_callElection_51 : decode b_M_callElection 51 = .ok (.getfield 48, 3) := by decide +kernel
theorem d_M_callElection_54 : decode b_M_callElection 54 = .ok (.iload_n 1, 1) := by decide +kernel
theorem d_M_callElection_55 : decode b_M_callElection 55 = .ok (.aload_n 2, 1) := by decide +kernel
theorem d_M_callElection_56 : decode b_M_callElection 56 = .ok (.iload_n 3, 1) := by decide +kernel
theorem d_M_callElection_57 : decode b_M_callElection 57 = .ok (.aload_n 0, 1) := by decide +kernel
theorem d_M_callElection_58 : decode b_M_callElection 58 = .ok (.getfield 60, 3) := by decide +kernel
theorem d_M_callElection_61 : decode b_M_callElection 61 = .ok (.aload_n 0, 1) := by decide +kernel
theorem d_M_callElection_62 : decode b_M_callElection 62 = .ok (.getfield 24, 3) := by decide +kernel
theorem d_M_callElection_65 : decode b_M_callElection 65 = .ok (.invokevirtual 116, 3) := by decide +kernel
theorem d_M_callElection_68 : decode b_M_callElection 68 = .ok (.aload_n 2, 1) := by decide +kernel
theorem d_M_callElection_69 : decode b_M_callElection 69 = .ok (.iload_n 3, 1) := by decide +kernel
theorem d_M_callElection_70 : decode b_M_callElection 70 = .ok (.aload_n 0, 1) := by decide +kernel
theorem d_M_callElection_71 : decode b_M_callElection 71 = .ok (.getfield 60, 3) := by decide +kernel
theorem d_M_callElection_74 : decode b_M_callElection 74 = .ok (.aload_n 0, 1) := by decide +kernel
theorem d_M_callElection_75 : decode b_M_callElection 75 = .ok (.getfield 24, 3) := by decide +kernel
theorem d_M_callElection_78 : decode b_M_callElection 78 = .ok (.invokevirtual 120, 3) := by decide +kernel
theorem d_M_callElection_81 : decode b_M_callElection 81 = .ok (.invokevirtual 220, 3) := by decide +kernel
theorem d_M_callElection_84 : decode b_M_callElection 84 = .ok (.iinc 1 1, 3) := by decide +kernel
theorem d_M_callElection_87 : decode b_M_callElection 87 = .ok (.goto (-78), 3) := by decide +kernel
theorem d_M_callElection_90 : decode b_M_callElection 90 = .ok (.return_, 1) := by decide +kernel
theorem d_M_survivorsLeastStratum_0 : decode b_M_survivorsLeastStratum 0 = .ok (.bipush 16, 2) := by decide +kernel
theorem d_M_survivorsLeastStratum_2 : decode b_M_survivorsLeastStratum 2 = .ok (.istore_n 1, 1) := by decide +kernel
theorem d_M_survivorsLeastStratum_3 : decode b_M_survivorsLeastStratum 3 = .ok (.iconst 0, 1) := by decide +kernel
theorem d_M_survivorsLeastStratum_4 : decode b_M_survivorsLeastStratum 4 = .ok (.istore_n 2, 1) := by decide +kernel
theorem d_M_survivorsLeastStratum_5 : decode b_M_survivorsLeastStratum 5 = .ok (.iload_n 2, 1) := by decide +kernel
theorem d_M_survivorsLeastStratum_6 : decode b_M_survivorsLeastStratum 6 = .ok (.aload_n 0, 1) := by decide +kernel
theorem d_M_survivorsLeastStratum_7 : decode b_M_survivorsLeastStratum 7 = .ok (.getfield 48, 3) := by decide +kernel
theorem d_M_survivorsLeastStratum_10 : decode b_M_survivorsLeastStratum 10 = .ok (.getfield 126, 3) := by decide +kernel
theorem d_M_survivorsLeastStratum_13 : decode b_M_survivorsLeastStratum 13 = .ok (.if_icmp .ge 36, 3) := by decide +kernel
theorem d_M_survivorsLeastStratum_16 : decode b_M_survivorsLeastStratum 16 = .ok (.aload_n 0, 1) := by decide +kernel
theorem d_M_survivorsLeastStratum_17 : decode b_M_survivorsLeastStratum 17 = .ok (.aload_n 0, 1) := by decide +kernel
theorem d_M_survivorsLeastStratum_18 : decode b_M_survivorsLeastStratum 18 = .ok (.getfield 48, 3) := by decide +kernel
theorem d_M_survivorsLeastStratum_21 : decode b_M_survivorsLeastStratum 21 = .ok (.getfield 224, 3) := by decide +kernel
theorem d_M_survivorsLeastStratum_24 : decode b_M_survivorsLeastStratum 24 = .ok (.iload_n 2, 1) := by decide +kernel
theorem d_M_survivorsLeastStratum_25 : decode b_M_survivorsLeastStratum 25 = .ok (.iaload, 1) := by decide +kernel
theorem d_M_survivorsLeastStratum_26 : decode b_M_survivorsLeastStratum 26 = .ok (.invokevirtual 63, 3) := by decide +kernel
theorem d_M_survivorsLeastStratum_29 : decode b_M_survivorsLeastStratum 29 = .ok (.astore_n 3, 1) := by decide +kernel
theorem d_M_survivorsLeastStratum_30 : decode b_M_survivorsLeastStratum 30 = .ok (.aload_n 3, 1) := by decide +kernel
theorem d_M_survivorsLeastStratum_31 : decode b_M_survivorsLeastStratum 31 = .ok (.ifnull 12, 3) := by decide +kernel
theorem d_M_survivorsLeastStratum_34 : decode b_M_survivorsLeastStratum 34 = .ok (.iload_n 1, 1) := by decide +kernel
theorem d_M_survivorsLeastStratum_35 : decode b_M_survivorsLeastStratum 35 = .ok (.aload_n 3, 1) := by decide +kernel
theorem d_M_survivorsLeastStratum_36 : decode b_M_survivorsLeastStratum 36 = .ok (.getfield 103, 3) := by decide +kernel
theorem d_M_survivorsLeastStratum_39 : decode b_M_survivorsLeastStratum 39 = .ok (.invokestatic 21, 3) := by decide +kernel
theorem d_M_survivorsLeastStratum_42 : decode b_M_survivorsLeastStratum 42 = .ok (.istore_n 1, 1) := by decide +kernel
theorem d_M_survivorsLeastStratum_43 : decode b_M_survivorsLeastStratum 43 = .ok (.iinc 2 1, 3) := by decide +kernel
theorem d_M_survivorsLeastStratum_46 : decode b_M_survivorsLeastStratum 46 = .ok (.goto (-41), 3) := by decide +kernel
theorem d_M_survivorsLeastStratum_49 : decode b_M_survivorsLeastStratum 49 = .ok (.iload_n 1, 1) := by decide +kernel
theorem d_M_survivorsLeastStratum_50 : decode b_M_survivorsLeastStratum 50 = .ok (.ireturn, 1) := by decide +kernel
theorem d_M_update_0 : decode b_M_update 0 = .ok (.aload_n 0, 1) := by decide +kernel
theorem d_M_update_1 : decode b_M_update 1 = .ok (.invokevirtual 123, 3) := by decide +kernel
theorem d_M_update_4 : decode b_M_update 4 = .ok (.aload_n 0, 1) := by decide +kernel
theorem d_M_update_5 : decode b_M_update 5 = .ok (.getfield 48, 3) := by decide +kernel
theorem d_M_update_8 : decode b_M_update 8 = .ok (.getfield 126, 3) := by decide +kernel
theorem d_M_update_11 : decode b_M_update 11 = .ok (.ifCond .ne 5, 3) := by decide +kernel
theorem d_M_update_14 : decode b_M_update 14 = .ok (.iconst 0, 1) := by decide +kernel
theorem d_M_update_15 : decode b_M_update 15 = .ok (.ireturn, 1) := by decide +kernel
theorem d_M_update_16 : decode b_M_update 16 = .ok (.aload_n 0, 1) := by decide +kernel
theorem d_M_update_17 : decode b_M_update 17 = .ok (.getfield 48, 3) := by decide +kernel
theorem d_M_update_20 : decode b_M_update 20 = .ok (.invokevirtual 129, 3) := by decide +kernel
theorem d_M_update_23 : decode b_M_update 23 = .ok (.ifCond .ne 5, 3) := by decide +kernel
theorem d_M_update_26 : decode b_M_update 26 = .ok (.iconst (-1), 1) := by decide +kernel
theorem d_M_update_27 : decode b_M_update 27 = .ok (.ireturn, 1) := by decide +kernel
theorem d_M_update_28 : decode b_M_update 28 = .ok (.aload_n 0, 1) := by decide +kernel
theorem d_M_update_29 : decode b_M_update 29 = .ok (.getfield 48, 3) := by decide +kernel
theorem d_M_update_32 : decode b_M_update 32 = .ok (.invokevirtual 133, 3) := by decide +kernel
theorem d_M_update_35 : decode b_M_update 35 = .ok (.aload_n 0, 1) := by decide +kernel
theorem d_M_update_36 : decode b_M_update 36 = .ok (.getfield 48, 3) := by decide +kernel
theorem d_M_update_39 : decode b_M_update 39 = .ok (.invokevirtual 136, 3) := by decide +kernel
theorem d_M_update_42 : decode b_M_update 42 = .ok (.aload_n 0, 1) := by decide +kernel
theorem d_M_update_43 : decode b_M_update 43 = .ok (.getfield 55, 3) := by decide +kernel
theorem d_M_update_46 : decode b_M_update 46 = .ok (.aload_n 0, 1) := by decide +kernel
theorem d_M_update_47 : decode b_M_update 47 = .ok (.getfield 48, 3) := by decide +kernel
theorem d_M_update_50 : decode b_M_update 50 = .ok (.invokevirtual 139, 3) := by decide +kernel
theorem d_M_update_53 : decode b_M_update 53 = .ok (.aload_n 0, 1) := by decide +kernel
theorem d_M_update_54 : decode b_M_update 54 = .ok (.getfield 60, 3) := by decide +kernel
theorem d_M_update_57 : decode b_M_update 57 = .ok (.invokevirtual 143, 3) := by decide +kernel
theorem d_M_update_60 : decode b_M_update 60 = .ok (.aload_n 0, 1) := by decide +kernel
theorem d_M_update_61 : decode b_M_update 61 = .ok (.getfield 55, 3) := by decide +kernel
theorem d_M_update_64 : decode b_M_update 64 = .ok (.aload_n 0, 1) := by decide +kernel
theorem d_M_update_65 : decode b_M_update 65 = .ok (.getfield 48, 3) := by decide +kernel
theorem d_M_update_68 : decode b_M_update 68 = .ok (.aload_n 0, 1) := by decide +kernel
theorem d_M_update_69 : decode b_M_update 69 = .ok (.invokevirtual 146, 3) := by decide +kernel
theorem d_M_update_72 : decode b_M_update 72 = .ok (.invokevirtual 150, 3) := by decide +kernel
theorem d_M_update_75 : decode b_M_update 75 = .ok (.aload_n 0, 1) := by decide +kernel
theorem d_M_update_76 : decode b_M_update 76 = .ok (.getfield 48, 3) := by decide +kernel
theorem d_M_update_79 : decode b_M_update 79 = .ok (.getfield 126, 3) := by decide +kernel
theorem d_M_update_82 : decode b_M_update 82 = .ok (.ireturn, 1) := by decide +kernel
theorem d_T_within_0 : decode b_T_within 0 = .ok (.iload_n 0, 1) := by decide +kernel
theorem d_T_within_1 : decode b_T_within 1 = .ok (.iload_n 1, 1) := by decide +kernel
theorem d_T_within_2 : decode b_T_within 2 = .ok (.if_icmp .ge 7, 3) := by decide +kernel
theorem d_T_within_5 : decode b_T_within 5 = .ok (.iload_n 1, 1) := by decide +kernel
theorem d_T_within_6 : decode b_T_within 6 = .ok (.goto 13, 3) := by decide +kernel
theorem d_T_within_9 : decode b_T_within 9 = .ok (.iload_n 0, 1) := by decide +kernel
theorem d_T_within_10 : decode b_T_within 10 = .ok (.iload_n 2, 1) := by decide +kernel
theorem d_T_within_11 : decode b_T_within 11 = .ok (.if_icmp .le 7, 3) := by decide +kernel
theorem d_T_within_14 : decode b_T_within 14 = .ok (.iload_n 2, 1) := by decide +kernel
theorem d_T_within_15 : decode b_T_within 15 = .ok (.goto 4, 3) := by decide +kernel
theorem d_T_within_18 : decode b_T_within 18 = .ok (.iload_n 0, 1) := by decide +kernel
theorem d_T_within_19 : decode b_T_within 19 = .ok (.ireturn, 1) := by decide +kernel
theorem d_T_between_0 : decode b_T_between 0 = .ok (.lload_n 2, 1) := by decide +kernel
theorem d_T_between_1 : decode b_T_between 1 = .ok (.lload_n 0, 1) := by decide +kernel
theorem d_T_between_2 : decode b_T_between 2 = .ok (.lcmp, 1) := by decide +kernel
theorem d_T_between_3 : decode b_T_between 3 = .ok (.ifCond .gt 14, 3) := by decide +kernel
theorem d_T_between_6 : decode b_T_between 6 = .ok (.lload_n 0, 1) := by decide +kernel
theorem d_T_between_7 : decode b_T_between 7 = .ok (.lload 4, 2) := by decide +kernel
theorem d_T_between_9 : decode b_T_between 9 = .ok (.lcmp, 1) := by decide +kernel
theorem d_T_between_10 : decode b_T_between 10 = .ok (.ifCond .gt 7, 3) := by decide +kernel
theorem d_T_between_13 : decode b_T_between 13 = .ok (.iconst 1, 1) := by decide +kernel
theorem d_T_between_14 : decode b_T_between 14 = .ok (.goto 4, 3) := by decide +kernel
theorem d_T_between_17 : decode b_T_between 17 = .ok (.iconst 0, 1) := by decide +kernel
theorem d_T_between_18 : decode b_T_between 18 = .ok (.ireturn, 1) := by decide +kernel
theorem d_T_isServer_0 : decode b_T_isServer 0 = .ok (.iload_n 1, 1) := by decide +kernel
theorem d_T_isServer_1 : decode b_T_isServer 1 = .ok (.ifCond .lt 15, 3) := by decide +kernel
theorem d_T_isServer_4 : decode b_T_isServer 4 = .ok (.iload_n 1, 1) := by decide +kernel
theorem d_T_isServer_5 : decode b_T_isServer 5 = .ok (.aload_n 0, 1) := by decide +kernel
theorem d_T_isServer_6 : decode b_T_isServer 6 = .ok (.getfield 73, 3) := by decide +kernel
theorem d_T_isServer_9 : decode b_T_isServer 9 = .ok (.if_icmp .ge 7, 3) := by decide +kernel
theorem d_T_isServer_12 : decode b_T_isServer 12 = .ok (.iconst 1, 1) := by decide +kernel
theorem d_T_isServer_13 : decode b_T_isServer 13 = .ok (.goto 4, 3) := by decide +kernel
theorem d_T_isServer_16 : decode b_T_isServer 16 = .ok (.iconst 0, 1) := by decide +kernel
theorem d_T_isServer_17 : decode b_T_isServer 17 = .ok (.ireturn, 1) := by decide +kernel
theorem d_T_down_0 : decode b_T_down 0 = .ok (.lload_n 0, 1) := by decide +kernel
theorem d_T_down_1 : decode b_T_down 1 = .ok (.lload_n 2, 1) := by decide +kernel
theorem d_T_down_2 : decode b_T_down 2 = .ok (.ldiv, 1) := by decide +kernel
theorem d_T_down_3 : decode b_T_down 3 = .ok (.lstore 4, 2) := by decide +kernel
theorem d_T_down_5 : decode b_T_down 5 = .ok (.lload 4, 2) := by decide +kernel
theorem d_T_down_7 : decode b_T_down 7 = .ok (.lload_n 2, 1) := by decide +kernel
theorem d_T_down_8 : decode b_T_down 8 = .ok (.lmul, 1) := by decide +kernel
theorem d_T_down_9 : decode b_T_down 9 = .ok (.lload_n 0, 1) := by decide +kernel
theorem d_T_down_10 : decode b_T_down 10 = .ok (.lcmp, 1) := by decide +kernel
theorem d_T_down_11 : decode b_T_down 11 = .ok (.ifCond .le 10, 3) := by decide +kernel
theorem d_T_down_14 : decode b_T_down 14 = .ok (.lload 4, 2) := by decide +kernel
theorem d_T_down_16 : decode b_T_down 16 = .ok (.lconst 1, 1) := by decide +kernel
theorem d_T_down_17 : decode b_T_down 17 = .ok (.lsub, 1) := by decide +kernel
theorem d_T_down_18 : decode b_T_down 18 = .ok (.goto 5, 3) := by decide +kernel
theorem d_T_down_21 : decode b_T_down 21 = .ok (.lload 4, 2) := by decide +kernel
theorem d_T_down_23 : decode b_T_down 23 = .ok (.lreturn, 1) := by decide +kernel
theorem d_T_growth_0 : decode b_T_growth 0 = .ok (.lload_n 1, 1) := by decide +kernel
theorem d_T_growth_1 : decode b_T_growth 1 = .ok (.aload_n 0, 1) := by decide +kernel
end
section
theorem d_T_growth_2 : decode b_T_growth 2 = .ok (.getfield 77, 3) := by decide +kernel
theorem d_T_growth_5 : decode b_T_growth 5 = .ok (.i2l, 1) := by decide +kernel
theorem d_T_growth_6 : decode b_T_growth 6 = .ok (.lmul, 1) := by decide +kernel
theorem d_T_growth_7 : decode b_T_growth 7 = .ok (.lstore_n 3, 1) := by decide +kernel
theorem d_T_growth_8 : decode b_T_growth 8 = .ok (.lload_n 3, 1) := by decide +kernel
theorem d_T_growth_9 : decode b_T_growth 9 = .ok (.ldc2_w 83, 3) := by decide +kernel
theorem d_T_growth_12 : decode b_T_growth 12 = .ok (.ldiv, 1) := by decide +kernel
theorem d_T_growth_13 : decode b_T_growth 13 = .ok (.lstore 5, 2) := by decide +kernel
theorem d_T_growth_15 : decode b_T_growth 15 = .ok (.lload 5, 2) := by decide +kernel
theorem d_T_growth_17 : decode b_T_growth 17 = .ok (.ldc2_w 83, 3) := by decide +kernel
theorem d_T_growth_20 : decode b_T_growth 20 = .ok (.lmul, 1) := by decide +kernel
theorem d_T_growth_21 : decode b_T_growth 21 = .ok (.lload_n 3, 1) := by decide +kernel
theorem d_T_growth_22 : decode b_T_growth 22 = .ok (.lcmp, 1) := by decide +kernel
theorem d_T_growth_23 : decode b_T_growth 23 = .ok (.ifCond .ge 10, 3) := by decide +kernel
theorem d_T_growth_26 : decode b_T_growth 26 = .ok (.lload 5, 2) := by decide +kernel
theorem d_T_growth_28 : decode b_T_growth 28 = .ok (.lconst 1, 1) := by decide +kernel
theorem d_T_growth_29 : decode b_T_growth 29 = .ok (.ladd, 1) := by decide +kernel
theorem d_T_growth_30 : decode b_T_growth 30 = .ok (.goto 5, 3) := by decide +kernel
theorem d_T_growth_33 : decode b_T_growth 33 = .ok (.lload 5, 2) := by decide +kernel
theorem d_T_growth_35 : decode b_T_growth 35 = .ok (.lreturn, 1) := by decide +kernel
theorem d_T_advance_0 : decode b_T_advance 0 = .ok (.iload_n 1, 1) := by decide +kernel
theorem d_T_advance_1 : decode b_T_advance 1 = .ok (.ifCond .lt 9, 3) := by decide +kernel
theorem d_T_advance_4 : decode b_T_advance 4 = .ok (.iload_n 1, 1) := by decide +kernel
theorem d_T_advance_5 : decode b_T_advance 5 = .ok (.ldc 85, 2) := by decide +kernel
theorem d_T_advance_7 : decode b_T_advance 7 = .ok (.if_icmp .le 5, 3) := by decide +kernel
theorem d_T_advance_10 : decode b_T_advance 10 = .ok (.iconst 0, 1) := by decide +kernel
theorem d_T_advance_11 : decode b_T_advance 11 = .ok (.ireturn, 1) := by decide +kernel
theorem d_T_advance_12 : decode b_T_advance 12 = .ok (.aload_n 0, 1) := by decide +kernel
theorem d_T_advance_13 : decode b_T_advance 13 = .ok (.aload_n 0, 1) := by decide +kernel
theorem d_T_advance_14 : decode b_T_advance 14 = .ok (.getfield 86, 3) := by decide +kernel
theorem d_T_advance_17 : decode b_T_advance 17 = .ok (.iload_n 1, 1) := by decide +kernel
theorem d_T_advance_18 : decode b_T_advance 18 = .ok (.i2l, 1) := by decide +kernel
theorem d_T_advance_19 : decode b_T_advance 19 = .ok (.ladd, 1) := by decide +kernel
theorem d_T_advance_20 : decode b_T_advance 20 = .ok (.putfield 86, 3) := by decide +kernel
theorem d_T_advance_23 : decode b_T_advance 23 = .ok (.iconst 1, 1) := by decide +kernel
theorem d_T_advance_24 : decode b_T_advance 24 = .ok (.ireturn, 1) := by decide +kernel
theorem d_T_hardware_0 : decode b_T_hardware 0 = .ok (.aload_n 0, 1) := by decide +kernel
theorem d_T_hardware_1 : decode b_T_hardware 1 = .ok (.getfield 86, 3) := by decide +kernel
theorem d_T_hardware_4 : decode b_T_hardware 4 = .ok (.lreturn, 1) := by decide +kernel
theorem d_T_mixed_0 : decode b_T_mixed 0 = .ok (.lload_n 0, 1) := by decide +kernel
theorem d_T_mixed_1 : decode b_T_mixed 1 = .ok (.lload_n 2, 1) := by decide +kernel
theorem d_T_mixed_2 : decode b_T_mixed 2 = .ok (.lxor, 1) := by decide +kernel
theorem d_T_mixed_3 : decode b_T_mixed 3 = .ok (.ldc2_w 94, 3) := by decide +kernel
theorem d_T_mixed_6 : decode b_T_mixed 6 = .ok (.lmul, 1) := by decide +kernel
theorem d_T_mixed_7 : decode b_T_mixed 7 = .ok (.lstore 4, 2) := by decide +kernel
theorem d_T_mixed_9 : decode b_T_mixed 9 = .ok (.lload 4, 2) := by decide +kernel
theorem d_T_mixed_11 : decode b_T_mixed 11 = .ok (.lload 4, 2) := by decide +kernel
theorem d_T_mixed_13 : decode b_T_mixed 13 = .ok (.bipush 29, 2) := by decide +kernel
theorem d_T_mixed_15 : decode b_T_mixed 15 = .ok (.lushr, 1) := by decide +kernel
theorem d_T_mixed_16 : decode b_T_mixed 16 = .ok (.lxor, 1) := by decide +kernel
theorem d_T_mixed_17 : decode b_T_mixed 17 = .ok (.lreturn, 1) := by decide +kernel
theorem d_T_key_0 : decode b_T_key 0 = .ok (.aload_n 0, 1) := by decide +kernel
theorem d_T_key_1 : decode b_T_key 1 = .ok (.iload_n 1, 1) := by decide +kernel
theorem d_T_key_2 : decode b_T_key 2 = .ok (.invokevirtual 90, 3) := by decide +kernel
theorem d_T_key_5 : decode b_T_key 5 = .ok (.ifCond .ne 5, 3) := by decide +kernel
theorem d_T_key_8 : decode b_T_key 8 = .ok (.iconst 0, 1) := by decide +kernel
theorem d_T_key_9 : decode b_T_key 9 = .ok (.ireturn, 1) := by decide +kernel
theorem d_T_key_10 : decode b_T_key 10 = .ok (.aload_n 0, 1) := by decide +kernel
theorem d_T_key_11 : decode b_T_key 11 = .ok (.getfield 7, 3) := by decide +kernel
theorem d_T_key_14 : decode b_T_key 14 = .ok (.iload_n 1, 1) := by decide +kernel
theorem d_T_key_15 : decode b_T_key 15 = .ok (.lload_n 2, 1) := by decide +kernel
theorem d_T_key_16 : decode b_T_key 16 = .ok (.lastore, 1) := by decide +kernel
theorem d_T_key_17 : decode b_T_key 17 = .ok (.iconst 1, 1) := by decide +kernel
theorem d_T_key_18 : decode b_T_key 18 = .ok (.ireturn, 1) := by decide +kernel
theorem d_T_seal_0 : decode b_T_seal 0 = .ok (.aload_n 0, 1) := by decide +kernel
theorem d_T_seal_1 : decode b_T_seal 1 = .ok (.iload_n 1, 1) := by decide +kernel
theorem d_T_seal_2 : decode b_T_seal 2 = .ok (.invokevirtual 90, 3) := by decide +kernel
theorem d_T_seal_5 : decode b_T_seal 5 = .ok (.ifCond .ne 5, 3) := by decide +kernel
theorem d_T_seal_8 : decode b_T_seal 8 = .ok (.iconst 0, 1) := by decide +kernel
theorem d_T_seal_9 : decode b_T_seal 9 = .ok (.ireturn, 1) := by decide +kernel
theorem d_T_seal_10 : decode b_T_seal 10 = .ok (.aload_n 0, 1) := by decide +kernel
theorem d_T_seal_11 : decode b_T_seal 11 = .ok (.getfield 7, 3) := by decide +kernel
theorem d_T_seal_14 : decode b_T_seal 14 = .ok (.iload_n 1, 1) := by decide +kernel
theorem d_T_seal_15 : decode b_T_seal 15 = .ok (.laload, 1) := by decide +kernel
theorem d_T_seal_16 : decode b_T_seal 16 = .ok (.lload_n 2, 1) := by decide +kernel
theorem d_T_seal_17 : decode b_T_seal 17 = .ok (.invokestatic 96, 3) := by decide +kernel
theorem d_T_seal_20 : decode b_T_seal 20 = .ok (.lstore 8, 2) := by decide +kernel
theorem d_T_seal_22 : decode b_T_seal 22 = .ok (.lload 8, 2) := by decide +kernel
theorem d_T_seal_24 : decode b_T_seal 24 = .ok (.lload 4, 2) := by decide +kernel
theorem d_T_seal_26 : decode b_T_seal 26 = .ok (.invokestatic 96, 3) := by decide +kernel
theorem d_T_seal_29 : decode b_T_seal 29 = .ok (.lstore 10, 2) := by decide +kernel
theorem d_T_seal_31 : decode b_T_seal 31 = .ok (.lload 10, 2) := by decide +kernel
theorem d_T_seal_33 : decode b_T_seal 33 = .ok (.lload 6, 2) := by decide +kernel
theorem d_T_seal_35 : decode b_T_seal 35 = .ok (.invokestatic 96, 3) := by decide +kernel
theorem d_T_seal_38 : decode b_T_seal 38 = .ok (.lstore 12, 2) := by decide +kernel
theorem d_T_seal_40 : decode b_T_seal 40 = .ok (.lload 12, 2) := by decide +kernel
theorem d_T_seal_42 : decode b_T_seal 42 = .ok (.bipush 32, 2) := by decide +kernel
theorem d_T_seal_44 : decode b_T_seal 44 = .ok (.lshr, 1) := by decide +kernel
theorem d_T_seal_45 : decode b_T_seal 45 = .ok (.l2i, 1) := by decide +kernel
theorem d_T_seal_46 : decode b_T_seal 46 = .ok (.ireturn, 1) := by decide +kernel
theorem d_T_ask_0 : decode b_T_ask 0 = .ok (.aload_n 0, 1) := by decide +kernel
theorem d_T_ask_1 : decode b_T_ask 1 = .ok (.iload_n 1, 1) := by decide +kernel
theorem d_T_ask_2 : decode b_T_ask 2 = .ok (.invokevirtual 90, 3) := by decide +kernel
theorem d_T_ask_5 : decode b_T_ask 5 = .ok (.ifCond .ne 7, 3) := by decide +kernel
theorem d_T_ask_8 : decode b_T_ask 8 = .ok (.ldc2_w 100, 3) := by decide +kernel
theorem d_T_ask_11 : decode b_T_ask 11 = .ok (.lreturn, 1) := by decide +kernel
theorem d_T_ask_12 : decode b_T_ask 12 = .ok (.aload_n 0, 1) := by decide +kernel
theorem d_T_ask_13 : decode b_T_ask 13 = .ok (.aload_n 0, 1) := by decide +kernel
theorem d_T_ask_14 : decode b_T_ask 14 = .ok (.getfield 102, 3) := by decide +kernel
theorem d_T_ask_17 : decode b_T_ask 17 = .ok (.ifCond .eq 24, 3) := by decide +kernel
theorem d_T_ask_20 : decode b_T_ask 20 = .ok (.aload_n 0, 1) := by decide +kernel
theorem d_T_ask_21 : decode b_T_ask 21 = .ok (.getfield 106, 3) := by decide +kernel
theorem d_T_ask_24 : decode b_T_ask 24 = .ok (.aload_n 0, 1) := by decide +kernel
theorem d_T_ask_25 : decode b_T_ask 25 = .ok (.getfield 86, 3) := by decide +kernel
theorem d_T_ask_28 : decode b_T_ask 28 = .ok (.lcmp, 1) := by decide +kernel
theorem d_T_ask_29 : decode b_T_ask 29 = .ok (.ifCond .lt 12, 3) := by decide +kernel
theorem d_T_ask_32 : decode b_T_ask 32 = .ok (.aload_n 0, 1) := by decide +kernel
theorem d_T_ask_33 : decode b_T_ask 33 = .ok (.getfield 106, 3) := by decide +kernel
theorem d_T_ask_36 : decode b_T_ask 36 = .ok (.lconst 1, 1) := by decide +kernel
theorem d_T_ask_37 : decode b_T_ask 37 = .ok (.ladd, 1) := by decide +kernel
theorem d_T_ask_38 : decode b_T_ask 38 = .ok (.goto 7, 3) := by decide +kernel
theorem d_T_ask_41 : decode b_T_ask 41 = .ok (.aload_n 0, 1) := by decide +kernel
theorem d_T_ask_42 : decode b_T_ask 42 = .ok (.getfield 86, 3) := by decide +kernel
theorem d_T_ask_45 : decode b_T_ask 45 = .ok (.putfield 106, 3) := by decide +kernel
theorem d_T_ask_48 : decode b_T_ask 48 = .ok (.aload_n 0, 1) := by decide +kernel
theorem d_T_ask_49 : decode b_T_ask 49 = .ok (.iconst 1, 1) := by decide +kernel
theorem d_T_ask_50 : decode b_T_ask 50 = .ok (.putfield 102, 3) := by decide +kernel
theorem d_T_ask_53 : decode b_T_ask 53 = .ok (.aload_n 0, 1) := by decide +kernel
theorem d_T_ask_54 : decode b_T_ask 54 = .ok (.getfield 13, 3) := by decide +kernel
theorem d_T_ask_57 : decode b_T_ask 57 = .ok (.iload_n 1, 1) := by decide +kernel
theorem d_T_ask_58 : decode b_T_ask 58 = .ok (.iconst 1, 1) := by decide +kernel
theorem d_T_ask_59 : decode b_T_ask 59 = .ok (.bastore, 1) := by decide +kernel
theorem d_T_ask_60 : decode b_T_ask 60 = .ok (.aload_n 0, 1) := by decide +kernel
theorem d_T_ask_61 : decode b_T_ask 61 = .ok (.getfield 17, 3) := by decide +kernel
theorem d_T_ask_64 : decode b_T_ask 64 = .ok (.iload_n 1, 1) := by decide +kernel
theorem d_T_ask_65 : decode b_T_ask 65 = .ok (.aload_n 0, 1) := by decide +kernel
theorem d_T_ask_66 : decode b_T_ask 66 = .ok (.getfield 86, 3) := by decide +kernel
theorem d_T_ask_69 : decode b_T_ask 69 = .ok (.lastore, 1) := by decide +kernel
theorem d_T_ask_70 : decode b_T_ask 70 = .ok (.aload_n 0, 1) := by decide +kernel
theorem d_T_ask_71 : decode b_T_ask 71 = .ok (.getfield 20, 3) := by decide +kernel
theorem d_T_ask_74 : decode b_T_ask 74 = .ok (.iload_n 1, 1) := by decide +kernel
theorem d_T_ask_75 : decode b_T_ask 75 = .ok (.aload_n 0, 1) := by decide +kernel
theorem d_T_ask_76 : decode b_T_ask 76 = .ok (.getfield 106, 3) := by decide +kernel
theorem d_T_ask_79 : decode b_T_ask 79 = .ok (.lastore, 1) := by decide +kernel
theorem d_T_ask_80 : decode b_T_ask 80 = .ok (.aload_n 0, 1) := by decide +kernel
theorem d_T_ask_81 : decode b_T_ask 81 = .ok (.getfield 106, 3) := by decide +kernel
theorem d_T_ask_84 : decode b_T_ask 84 = .ok (.lreturn, 1) := by decide +kernel
theorem d_T_why_0 : decode b_T_why 0 = .ok (.lload 4, 2) := by decide +kernel
theorem d_T_why_2 : decode b_T_why 2 = .ok (.lconst 0, 1) := by decide +kernel
theorem d_T_why_3 : decode b_T_why 3 = .ok (.ldc2_w 109, 3) := by decide +kernel
theorem d_T_why_6 : decode b_T_why 6 = .ok (.invokestatic 111, 3) := by decide +kernel
theorem d_T_why_9 : decode b_T_why 9 = .ok (.ifCond .eq 23, 3) := by decide +kernel
theorem d_T_why_12 : decode b_T_why 12 = .ok (.lload 6, 2) := by decide +kernel
theorem d_T_why_14 : decode b_T_why 14 = .ok (.lconst 0, 1) := by decide +kernel
theorem d_T_why_15 : decode b_T_why 15 = .ok (.ldc2_w 109, 3) := by decide +kernel
theorem d_T_why_18 : decode b_T_why 18 = .ok (.invokestatic 111, 3) := by decide +kernel
theorem d_T_why_21 : decode b_T_why 21 = .ok (.ifCond .eq 11, 3) := by decide +kernel
theorem d_T_why_24 : decode b_T_why 24 = .ok (.lload 4, 2) := by decide +kernel
theorem d_T_why_26 : decode b_T_why 26 = .ok (.lload 6, 2) := by decide +kernel
theorem d_T_why_28 : decode b_T_why 28 = .ok (.lcmp, 1) := by decide +kernel
theorem d_T_why_29 : decode b_T_why 29 = .ok (.ifCond .le 6, 3) := by decide +kernel
theorem d_T_why_32 : decode b_T_why 32 = .ok (.bipush (-2), 2) := by decide +kernel
theorem d_T_why_34 : decode b_T_why 34 = .ok (.ireturn, 1) := by decide +kernel
theorem d_T_why_35 : decode b_T_why 35 = .ok (.aload_n 0, 1) := by decide +kernel
theorem d_T_why_36 : decode b_T_why 36 = .ok (.iload_n 1, 1) := by decide +kernel
theorem d_T_why_37 : decode b_T_why 37 = .ok (.lload_n 2, 1) := by decide +kernel
theorem d_T_why_38 : decode b_T_why 38 = .ok (.lload 4, 2) := by decide +kernel
theorem d_T_why_40 : decode b_T_why 40 = .ok (.lload 6, 2) := by decide +kernel
theorem d_T_why_42 : decode b_T_why 42 = .ok (.invokevirtual 115, 3) := by decide +kernel
theorem d_T_why_45 : decode b_T_why 45 = .ok (.istore 9, 2) := by decide +kernel
end
section
theorem d_T_why_47 : decode b_T_why 47 = .ok (.iload 8, 2) := by decide +kernel
theorem d_T_why_49 : decode b_T_why 49 = .ok (.iload 9, 2) := by decide +kernel
theorem d_T_why_51 : decode b_T_why 51 = .ok (.if_icmp .eq 6, 3) := by decide +kernel
theorem d_T_why_54 : decode b_T_why 54 = .ok (.bipush (-3), 2) := by decide +kernel
theorem d_T_why_56 : decode b_T_why 56 = .ok (.ireturn, 1) := by decide +kernel
theorem d_T_why_57 : decode b_T_why 57 = .ok (.aload_n 0, 1) := by decide +kernel
theorem d_T_why_58 : decode b_T_why 58 = .ok (.getfield 23, 3) := by decide +kernel
theorem d_T_why_61 : decode b_T_why 61 = .ok (.iload_n 1, 1) := by decide +kernel
theorem d_T_why_62 : decode b_T_why 62 = .ok (.baload, 1) := by decide +kernel
theorem d_T_why_63 : decode b_T_why 63 = .ok (.ifCond .eq 17, 3) := by decide +kernel
theorem d_T_why_66 : decode b_T_why 66 = .ok (.aload_n 0, 1) := by decide +kernel
theorem d_T_why_67 : decode b_T_why 67 = .ok (.getfield 26, 3) := by decide +kernel
theorem d_T_why_70 : decode b_T_why 70 = .ok (.iload_n 1, 1) := by decide +kernel
theorem d_T_why_71 : decode b_T_why 71 = .ok (.laload, 1) := by decide +kernel
theorem d_T_why_72 : decode b_T_why 72 = .ok (.lload_n 2, 1) := by decide +kernel
theorem d_T_why_73 : decode b_T_why 73 = .ok (.lcmp, 1) := by decide +kernel
theorem d_T_why_74 : decode b_T_why 74 = .ok (.ifCond .ne 6, 3) := by decide +kernel
theorem d_T_why_77 : decode b_T_why 77 = .ok (.bipush (-4), 2) := by decide +kernel
theorem d_T_why_79 : decode b_T_why 79 = .ok (.ireturn, 1) := by decide +kernel
theorem d_T_why_80 : decode b_T_why 80 = .ok (.aload_n 0, 1) := by decide +kernel
theorem d_T_why_81 : decode b_T_why 81 = .ok (.getfield 13, 3) := by decide +kernel
theorem d_T_why_84 : decode b_T_why 84 = .ok (.iload_n 1, 1) := by decide +kernel
theorem d_T_why_85 : decode b_T_why 85 = .ok (.baload, 1) := by decide +kernel
theorem d_T_why_86 : decode b_T_why 86 = .ok (.ifCond .eq 14, 3) := by decide +kernel
theorem d_T_why_89 : decode b_T_why 89 = .ok (.aload_n 0, 1) := by decide +kernel
theorem d_T_why_90 : decode b_T_why 90 = .ok (.getfield 20, 3) := by decide +kernel
theorem d_T_why_93 : decode b_T_why 93 = .ok (.iload_n 1, 1) := by decide +kernel
theorem d_T_why_94 : decode b_T_why 94 = .ok (.laload, 1) := by decide +kernel
theorem d_T_why_95 : decode b_T_why 95 = .ok (.lload_n 2, 1) := by decide +kernel
theorem d_T_why_96 : decode b_T_why 96 = .ok (.lcmp, 1) := by decide +kernel
theorem d_T_why_97 : decode b_T_why 97 = .ok (.ifCond .eq 6, 3) := by decide +kernel
theorem d_T_why_100 : decode b_T_why 100 = .ok (.bipush (-5), 2) := by decide +kernel
theorem d_T_why_102 : decode b_T_why 102 = .ok (.ireturn, 1) := by decide +kernel
theorem d_T_why_103 : decode b_T_why 103 = .ok (.lload 6, 2) := by decide +kernel
theorem d_T_why_105 : decode b_T_why 105 = .ok (.lload 4, 2) := by decide +kernel
theorem d_T_why_107 : decode b_T_why 107 = .ok (.lsub, 1) := by decide +kernel
theorem d_T_why_108 : decode b_T_why 108 = .ok (.aload_n 0, 1) := by decide +kernel
theorem d_T_why_109 : decode b_T_why 109 = .ok (.getfield 86, 3) := by decide +kernel
theorem d_T_why_112 : decode b_T_why 112 = .ok (.aload_n 0, 1) := by decide +kernel
theorem d_T_why_113 : decode b_T_why 113 = .ok (.getfield 17, 3) := by decide +kernel
theorem d_T_why_116 : decode b_T_why 116 = .ok (.iload_n 1, 1) := by decide +kernel
theorem d_T_why_117 : decode b_T_why 117 = .ok (.laload, 1) := by decide +kernel
theorem d_T_why_118 : decode b_T_why 118 = .ok (.lsub, 1) := by decide +kernel
theorem d_T_why_119 : decode b_T_why 119 = .ok (.lcmp, 1) := by decide +kernel
theorem d_T_why_120 : decode b_T_why 120 = .ok (.ifCond .le 8, 3) := by decide +kernel
theorem d_T_why_123 : decode b_T_why 123 = .ok (.bipush (-6), 2) := by decide +kernel
theorem d_T_why_125 : decode b_T_why 125 = .ok (.goto 4, 3) := by decide +kernel
theorem d_T_why_128 : decode b_T_why 128 = .ok (.iconst 0, 1) := by decide +kernel
theorem d_T_why_129 : decode b_T_why 129 = .ok (.ireturn, 1) := by decide +kernel
theorem d_T_tell_0 : decode b_T_tell 0 = .ok (.aload_n 0, 1) := by decide +kernel
theorem d_T_tell_1 : decode b_T_tell 1 = .ok (.iload_n 1, 1) := by decide +kernel
theorem d_T_tell_2 : decode b_T_tell 2 = .ok (.invokevirtual 90, 3) := by decide +kernel
theorem d_T_tell_5 : decode b_T_tell 5 = .ok (.ifCond .eq 26, 3) := by decide +kernel
theorem d_T_tell_8 : decode b_T_tell 8 = .ok (.iload_n 2, 1) := by decide +kernel
theorem d_T_tell_9 : decode b_T_tell 9 = .ok (.iconst 1, 1) := by decide +kernel
theorem d_T_tell_10 : decode b_T_tell 10 = .ok (.if_icmp .lt 21, 3) := by decide +kernel
theorem d_T_tell_13 : decode b_T_tell 13 = .ok (.iload_n 2, 1) := by decide +kernel
theorem d_T_tell_14 : decode b_T_tell 14 = .ok (.bipush 16, 2) := by decide +kernel
theorem d_T_tell_16 : decode b_T_tell 16 = .ok (.if_icmp .gt 15, 3) := by decide +kernel
theorem d_T_tell_19 : decode b_T_tell 19 = .ok (.iload 4, 2) := by decide +kernel
theorem d_T_tell_21 : decode b_T_tell 21 = .ok (.ifCond .lt 10, 3) := by decide +kernel
theorem d_T_tell_24 : decode b_T_tell 24 = .ok (.iload 4, 2) := by decide +kernel
theorem d_T_tell_26 : decode b_T_tell 26 = .ok (.ldc 85, 2) := by decide +kernel
theorem d_T_tell_28 : decode b_T_tell 28 = .ok (.if_icmp .le 5, 3) := by decide +kernel
theorem d_T_tell_31 : decode b_T_tell 31 = .ok (.iconst 0, 1) := by decide +kernel
theorem d_T_tell_32 : decode b_T_tell 32 = .ok (.ireturn, 1) := by decide +kernel
theorem d_T_tell_33 : decode b_T_tell 33 = .ok (.aload_n 0, 1) := by decide +kernel
theorem d_T_tell_34 : decode b_T_tell 34 = .ok (.getfield 42, 3) := by decide +kernel
theorem d_T_tell_37 : decode b_T_tell 37 = .ok (.iload_n 1, 1) := by decide +kernel
theorem d_T_tell_38 : decode b_T_tell 38 = .ok (.iload_n 2, 1) := by decide +kernel
theorem d_T_tell_39 : decode b_T_tell 39 = .ok (.iastore, 1) := by decide +kernel
theorem d_T_tell_40 : decode b_T_tell 40 = .ok (.aload_n 0, 1) := by decide +kernel
theorem d_T_tell_41 : decode b_T_tell 41 = .ok (.getfield 45, 3) := by decide +kernel
theorem d_T_tell_44 : decode b_T_tell 44 = .ok (.iload_n 1, 1) := by decide +kernel
theorem d_T_tell_45 : decode b_T_tell 45 = .ok (.iload_n 3, 1) := by decide +kernel
theorem d_T_tell_46 : decode b_T_tell 46 = .ok (.iastore, 1) := by decide +kernel
theorem d_T_tell_47 : decode b_T_tell 47 = .ok (.aload_n 0, 1) := by decide +kernel
theorem d_T_tell_48 : decode b_T_tell 48 = .ok (.getfield 48, 3) := by decide +kernel
theorem d_T_tell_51 : decode b_T_tell 51 = .ok (.iload_n 1, 1) := by decide +kernel
theorem d_T_tell_52 : decode b_T_tell 52 = .ok (.iload 4, 2) := by decide +kernel
theorem d_T_tell_54 : decode b_T_tell 54 = .ok (.iastore, 1) := by decide +kernel
theorem d_T_tell_55 : decode b_T_tell 55 = .ok (.iconst 1, 1) := by decide +kernel
theorem d_T_tell_56 : decode b_T_tell 56 = .ok (.ireturn, 1) := by decide +kernel
theorem d_T_reply_0 : decode b_T_reply 0 = .ok (.aload_n 0, 1) := by decide +kernel
theorem d_T_reply_1 : decode b_T_reply 1 = .ok (.iload_n 1, 1) := by decide +kernel
theorem d_T_reply_2 : decode b_T_reply 2 = .ok (.invokevirtual 90, 3) := by decide +kernel
theorem d_T_reply_5 : decode b_T_reply 5 = .ok (.ifCond .ne 5, 3) := by decide +kernel
theorem d_T_reply_8 : decode b_T_reply 8 = .ok (.iconst (-1), 1) := by decide +kernel
theorem d_T_reply_9 : decode b_T_reply 9 = .ok (.ireturn, 1) := by decide +kernel
theorem d_T_reply_10 : decode b_T_reply 10 = .ok (.aload_n 0, 1) := by decide +kernel
theorem d_T_reply_11 : decode b_T_reply 11 = .ok (.iload_n 1, 1) := by decide +kernel
theorem d_T_reply_12 : decode b_T_reply 12 = .ok (.lload_n 2, 1) := by decide +kernel
theorem d_T_reply_13 : decode b_T_reply 13 = .ok (.lload 4, 2) := by decide +kernel
theorem d_T_reply_15 : decode b_T_reply 15 = .ok (.lload 6, 2) := by decide +kernel
theorem d_T_reply_17 : decode b_T_reply 17 = .ok (.iload 8, 2) := by decide +kernel
theorem d_T_reply_19 : decode b_T_reply 19 = .ok (.invokevirtual 119, 3) := by decide +kernel
theorem d_T_reply_22 : decode b_T_reply 22 = .ok (.istore 9, 2) := by decide +kernel
theorem d_T_reply_24 : decode b_T_reply 24 = .ok (.iload 9, 2) := by decide +kernel
theorem d_T_reply_26 : decode b_T_reply 26 = .ok (.ifCond .eq 6, 3) := by decide +kernel
theorem d_T_reply_29 : decode b_T_reply 29 = .ok (.iload 9, 2) := by decide +kernel
theorem d_T_reply_31 : decode b_T_reply 31 = .ok (.ireturn, 1) := by decide +kernel
theorem d_T_reply_32 : decode b_T_reply 32 = .ok (.aload_n 0, 1) := by decide +kernel
theorem d_T_reply_33 : decode b_T_reply 33 = .ok (.getfield 13, 3) := by decide +kernel
theorem d_T_reply_36 : decode b_T_reply 36 = .ok (.iload_n 1, 1) := by decide +kernel
theorem d_T_reply_37 : decode b_T_reply 37 = .ok (.iconst 0, 1) := by decide +kernel
theorem d_T_reply_38 : decode b_T_reply 38 = .ok (.bastore, 1) := by decide +kernel
theorem d_T_reply_39 : decode b_T_reply 39 = .ok (.aload_n 0, 1) := by decide +kernel
theorem d_T_reply_40 : decode b_T_reply 40 = .ok (.getfield 23, 3) := by decide +kernel
theorem d_T_reply_43 : decode b_T_reply 43 = .ok (.iload_n 1, 1) := by decide +kernel
theorem d_T_reply_44 : decode b_T_reply 44 = .ok (.iconst 1, 1) := by decide +kernel
theorem d_T_reply_45 : decode b_T_reply 45 = .ok (.bastore, 1) := by decide +kernel
theorem d_T_reply_46 : decode b_T_reply 46 = .ok (.aload_n 0, 1) := by decide +kernel
theorem d_T_reply_47 : decode b_T_reply 47 = .ok (.getfield 26, 3) := by decide +kernel
theorem d_T_reply_50 : decode b_T_reply 50 = .ok (.iload_n 1, 1) := by decide +kernel
theorem d_T_reply_51 : decode b_T_reply 51 = .ok (.lload_n 2, 1) := by decide +kernel
theorem d_T_reply_52 : decode b_T_reply 52 = .ok (.lastore, 1) := by decide +kernel
theorem d_T_reply_53 : decode b_T_reply 53 = .ok (.aload_n 0, 1) := by decide +kernel
theorem d_T_reply_54 : decode b_T_reply 54 = .ok (.getfield 29, 3) := by decide +kernel
theorem d_T_reply_57 : decode b_T_reply 57 = .ok (.iload_n 1, 1) := by decide +kernel
theorem d_T_reply_58 : decode b_T_reply 58 = .ok (.aload_n 0, 1) := by decide +kernel
theorem d_T_reply_59 : decode b_T_reply 59 = .ok (.getfield 29, 3) := by decide +kernel
theorem d_T_reply_62 : decode b_T_reply 62 = .ok (.iload_n 1, 1) := by decide +kernel
theorem d_T_reply_63 : decode b_T_reply 63 = .ok (.iaload, 1) := by decide +kernel
theorem d_T_reply_64 : decode b_T_reply 64 = .ok (.bipush 8, 2) := by decide +kernel
theorem d_T_reply_66 : decode b_T_reply 66 = .ok (.if_icmp .ne 8, 3) := by decide +kernel
theorem d_T_reply_69 : decode b_T_reply 69 = .ok (.bipush 8, 2) := by decide +kernel
theorem d_T_reply_71 : decode b_T_reply 71 = .ok (.goto 11, 3) := by decide +kernel
theorem d_T_reply_74 : decode b_T_reply 74 = .ok (.aload_n 0, 1) := by decide +kernel
theorem d_T_reply_75 : decode b_T_reply 75 = .ok (.getfield 29, 3) := by decide +kernel
theorem d_T_reply_78 : decode b_T_reply 78 = .ok (.iload_n 1, 1) := by decide +kernel
theorem d_T_reply_79 : decode b_T_reply 79 = .ok (.iaload, 1) := by decide +kernel
theorem d_T_reply_80 : decode b_T_reply 80 = .ok (.iconst 1, 1) := by decide +kernel
theorem d_T_reply_81 : decode b_T_reply 81 = .ok (.iadd, 1) := by decide +kernel
theorem d_T_reply_82 : decode b_T_reply 82 = .ok (.iastore, 1) := by decide +kernel
theorem d_T_reply_83 : decode b_T_reply 83 = .ok (.bipush 8, 2) := by decide +kernel
theorem d_T_reply_85 : decode b_T_reply 85 = .ok (.iload_n 1, 1) := by decide +kernel
theorem d_T_reply_86 : decode b_T_reply 86 = .ok (.imul, 1) := by decide +kernel
theorem d_T_reply_87 : decode b_T_reply 87 = .ok (.aload_n 0, 1) := by decide +kernel
theorem d_T_reply_88 : decode b_T_reply 88 = .ok (.getfield 29, 3) := by decide +kernel
theorem d_T_reply_91 : decode b_T_reply 91 = .ok (.iload_n 1, 1) := by decide +kernel
theorem d_T_reply_92 : decode b_T_reply 92 = .ok (.iaload, 1) := by decide +kernel
theorem d_T_reply_93 : decode b_T_reply 93 = .ok (.iadd, 1) := by decide +kernel
theorem d_T_reply_94 : decode b_T_reply 94 = .ok (.iconst 1, 1) := by decide +kernel
theorem d_T_reply_95 : decode b_T_reply 95 = .ok (.isub, 1) := by decide +kernel
theorem d_T_reply_96 : decode b_T_reply 96 = .ok (.istore 10, 2) := by decide +kernel
theorem d_T_reply_98 : decode b_T_reply 98 = .ok (.iload 10, 2) := by decide +kernel
theorem d_T_reply_100 : decode b_T_reply 100 = .ok (.bipush 8, 2) := by decide +kernel
theorem d_T_reply_102 : decode b_T_reply 102 = .ok (.iload_n 1, 1) := by decide +kernel
theorem d_T_reply_103 : decode b_T_reply 103 = .ok (.imul, 1) := by decide +kernel
theorem d_T_reply_104 : decode b_T_reply 104 = .ok (.if_icmp .le 57, 3) := by decide +kernel
theorem d_T_reply_107 : decode b_T_reply 107 = .ok (.aload_n 0, 1) := by decide +kernel
theorem d_T_reply_108 : decode b_T_reply 108 = .ok (.getfield 33, 3) := by decide +kernel
theorem d_T_reply_111 : decode b_T_reply 111 = .ok (.iload 10, 2) := by decide +kernel
theorem d_T_reply_113 : decode b_T_reply 113 = .ok (.aload_n 0, 1) := by decide +kernel
theorem d_T_reply_114 : decode b_T_reply 114 = .ok (.getfield 33, 3) := by decide +kernel
theorem d_T_reply_117 : decode b_T_reply 117 = .ok (.iload 10, 2) := by decide +kernel
theorem d_T_reply_119 : decode b_T_reply 119 = .ok (.iconst 1, 1) := by decide +kernel
theorem d_T_reply_120 : decode b_T_reply 120 = .ok (.isub, 1) := by decide +kernel
theorem d_T_reply_121 : decode b_T_reply 121 = .ok (.laload, 1) := by decide +kernel
theorem d_T_reply_122 : decode b_T_reply 122 = .ok (.lastore, 1) := by decide +kernel
end
section
theorem d_T_reply_123 : decode b_T_reply 123 = .ok (.aload_n 0, 1) := by decide +kernel
theorem d_T_reply_124 : decode b_T_reply 124 = .ok (.getfield 36, 3) := by decide +kernel
theorem d_T_reply_127 : decode b_T_reply 127 = .ok (.iload 10, 2) := by decide +kernel
theorem d_T_reply_129 : decode b_T_reply 129 = .ok (.aload_n 0, 1) := by decide +kernel
theorem d_T_reply_130 : decode b_T_reply 130 = .ok (.getfield 36, 3) := by decide +kernel
theorem d_T_reply_133 : decode b_T_reply 133 = .ok (.iload 10, 2) := by decide +kernel
theorem d_T_reply_135 : decode b_T_reply 135 = .ok (.iconst 1, 1) := by decide +kernel
theorem d_T_reply_136 : decode b_T_reply 136 = .ok (.isub, 1) := by decide +kernel
theorem d_T_reply_137 : decode b_T_reply 137 = .ok (.laload, 1) := by decide +kernel
theorem d_T_reply_138 : decode b_T_reply 138 = .ok (.lastore, 1) := by decide +kernel
theorem d_T_reply_139 : decode b_T_reply 139 = .ok (.aload_n 0, 1) := by decide +kernel
theorem d_T_reply_140 : decode b_T_reply 140 = .ok (.getfield 39, 3) := by decide +kernel
theorem d_T_reply_143 : decode b_T_reply 143 = .ok (.iload 10, 2) := by decide +kernel
theorem d_T_reply_145 : decode b_T_reply 145 = .ok (.aload_n 0, 1) := by decide +kernel
theorem d_T_reply_146 : decode b_T_reply 146 = .ok (.getfield 39, 3) := by decide +kernel
theorem d_T_reply_149 : decode b_T_reply 149 = .ok (.iload 10, 2) := by decide +kernel
theorem d_T_reply_151 : decode b_T_reply 151 = .ok (.iconst 1, 1) := by decide +kernel
theorem d_T_reply_152 : decode b_T_reply 152 = .ok (.isub, 1) := by decide +kernel
theorem d_T_reply_153 : decode b_T_reply 153 = .ok (.laload, 1) := by decide +kernel
theorem d_T_reply_154 : decode b_T_reply 154 = .ok (.lastore, 1) := by decide +kernel
theorem d_T_reply_155 : decode b_T_reply 155 = .ok (.iinc 10 (-1), 3) := by decide +kernel
theorem d_T_reply_158 : decode b_T_reply 158 = .ok (.goto (-60), 3) := by decide +kernel
theorem d_T_reply_161 : decode b_T_reply 161 = .ok (.aload_n 0, 1) := by decide +kernel
theorem d_T_reply_162 : decode b_T_reply 162 = .ok (.getfield 33, 3) := by decide +kernel
theorem d_T_reply_165 : decode b_T_reply 165 = .ok (.bipush 8, 2) := by decide +kernel
theorem d_T_reply_167 : decode b_T_reply 167 = .ok (.iload_n 1, 1) := by decide +kernel
theorem d_T_reply_168 : decode b_T_reply 168 = .ok (.imul, 1) := by decide +kernel
theorem d_T_reply_169 : decode b_T_reply 169 = .ok (.lload 6, 2) := by decide +kernel
theorem d_T_reply_171 : decode b_T_reply 171 = .ok (.aload_n 0, 1) := by decide +kernel
theorem d_T_reply_172 : decode b_T_reply 172 = .ok (.getfield 86, 3) := by decide +kernel
theorem d_T_reply_175 : decode b_T_reply 175 = .ok (.lsub, 1) := by decide +kernel
theorem d_T_reply_176 : decode b_T_reply 176 = .ok (.lastore, 1) := by decide +kernel
theorem d_T_reply_177 : decode b_T_reply 177 = .ok (.aload_n 0, 1) := by decide +kernel
theorem d_T_reply_178 : decode b_T_reply 178 = .ok (.getfield 36, 3) := by decide +kernel
theorem d_T_reply_181 : decode b_T_reply 181 = .ok (.bipush 8, 2) := by decide +kernel
theorem d_T_reply_183 : decode b_T_reply 183 = .ok (.iload_n 1, 1) := by decide +kernel
theorem d_T_reply_184 : decode b_T_reply 184 = .ok (.imul, 1) := by decide +kernel
theorem d_T_reply_185 : decode b_T_reply 185 = .ok (.lload 4, 2) := by decide +kernel
theorem d_T_reply_187 : decode b_T_reply 187 = .ok (.aload_n 0, 1) := by decide +kernel
theorem d_T_reply_188 : decode b_T_reply 188 = .ok (.getfield 17, 3) := by decide +kernel
theorem d_T_reply_191 : decode b_T_reply 191 = .ok (.iload_n 1, 1) := by decide +kernel
theorem d_T_reply_192 : decode b_T_reply 192 = .ok (.laload, 1) := by decide +kernel
theorem d_T_reply_193 : decode b_T_reply 193 = .ok (.lsub, 1) := by decide +kernel
theorem d_T_reply_194 : decode b_T_reply 194 = .ok (.lastore, 1) := by decide +kernel
theorem d_T_reply_195 : decode b_T_reply 195 = .ok (.aload_n 0, 1) := by decide +kernel
theorem d_T_reply_196 : decode b_T_reply 196 = .ok (.getfield 39, 3) := by decide +kernel
theorem d_T_reply_199 : decode b_T_reply 199 = .ok (.bipush 8, 2) := by decide +kernel
theorem d_T_reply_201 : decode b_T_reply 201 = .ok (.iload_n 1, 1) := by decide +kernel
theorem d_T_reply_202 : decode b_T_reply 202 = .ok (.imul, 1) := by decide +kernel
theorem d_T_reply_203 : decode b_T_reply 203 = .ok (.aload_n 0, 1) := by decide +kernel
theorem d_T_reply_204 : decode b_T_reply 204 = .ok (.getfield 86, 3) := by decide +kernel
theorem d_T_reply_207 : decode b_T_reply 207 = .ok (.lastore, 1) := by decide +kernel
theorem d_T_reply_208 : decode b_T_reply 208 = .ok (.aload_n 0, 1) := by decide +kernel
theorem d_T_reply_209 : decode b_T_reply 209 = .ok (.getfield 29, 3) := by decide +kernel
theorem d_T_reply_212 : decode b_T_reply 212 = .ok (.iload_n 1, 1) := by decide +kernel
theorem d_T_reply_213 : decode b_T_reply 213 = .ok (.iaload, 1) := by decide +kernel
theorem d_T_reply_214 : decode b_T_reply 214 = .ok (.ireturn, 1) := by decide +kernel
theorem d_T_measure_0 : decode b_T_measure 0 = .ok (.bipush 8, 2) := by decide +kernel
theorem d_T_measure_2 : decode b_T_measure 2 = .ok (.iload_n 1, 1) := by decide +kernel
theorem d_T_measure_3 : decode b_T_measure 3 = .ok (.imul, 1) := by decide +kernel
theorem d_T_measure_4 : decode b_T_measure 4 = .ok (.istore_n 2, 1) := by decide +kernel
theorem d_T_measure_5 : decode b_T_measure 5 = .ok (.iload_n 2, 1) := by decide +kernel
theorem d_T_measure_6 : decode b_T_measure 6 = .ok (.bipush 8, 2) := by decide +kernel
theorem d_T_measure_8 : decode b_T_measure 8 = .ok (.iload_n 1, 1) := by decide +kernel
theorem d_T_measure_9 : decode b_T_measure 9 = .ok (.imul, 1) := by decide +kernel
theorem d_T_measure_10 : decode b_T_measure 10 = .ok (.aload_n 0, 1) := by decide +kernel
theorem d_T_measure_11 : decode b_T_measure 11 = .ok (.getfield 29, 3) := by decide +kernel
theorem d_T_measure_14 : decode b_T_measure 14 = .ok (.iload_n 1, 1) := by decide +kernel
theorem d_T_measure_15 : decode b_T_measure 15 = .ok (.iaload, 1) := by decide +kernel
theorem d_T_measure_16 : decode b_T_measure 16 = .ok (.iadd, 1) := by decide +kernel
theorem d_T_measure_17 : decode b_T_measure 17 = .ok (.if_icmp .ge 107, 3) := by decide +kernel
theorem d_T_measure_20 : decode b_T_measure 20 = .ok (.aload_n 0, 1) := by decide +kernel
theorem d_T_measure_21 : decode b_T_measure 21 = .ok (.aload_n 0, 1) := by decide +kernel
theorem d_T_measure_22 : decode b_T_measure 22 = .ok (.getfield 86, 3) := by decide +kernel
theorem d_T_measure_25 : decode b_T_measure 25 = .ok (.aload_n 0, 1) := by decide +kernel
theorem d_T_measure_26 : decode b_T_measure 26 = .ok (.getfield 39, 3) := by decide +kernel
theorem d_T_measure_29 : decode b_T_measure 29 = .ok (.iload_n 2, 1) := by decide +kernel
theorem d_T_measure_30 : decode b_T_measure 30 = .ok (.laload, 1) := by decide +kernel
theorem d_T_measure_31 : decode b_T_measure 31 = .ok (.lsub, 1) := by decide +kernel
theorem d_T_measure_32 : decode b_T_measure 32 = .ok (.invokevirtual 123, 3) := by decide +kernel
theorem d_T_measure_35 : decode b_T_measure 35 = .ok (.lstore_n 3, 1) := by decide +kernel
theorem d_T_measure_36 : decode b_T_measure 36 = .ok (.aload_n 0, 1) := by decide +kernel
theorem d_T_measure_37 : decode b_T_measure 37 = .ok (.getfield 33, 3) := by decide +kernel
theorem d_T_measure_40 : decode b_T_measure 40 = .ok (.iload_n 2, 1) := by decide +kernel
theorem d_T_measure_41 : decode b_T_measure 41 = .ok (.laload, 1) := by decide +kernel
theorem d_T_measure_42 : decode b_T_measure 42 = .ok (.aload_n 0, 1) := by decide +kernel
theorem d_T_measure_43 : decode b_T_measure 43 = .ok (.getfield 48, 3) := by decide +kernel
theorem d_T_measure_46 : decode b_T_measure 46 = .ok (.iload_n 1, 1) := by decide +kernel
theorem d_T_measure_47 : decode b_T_measure 47 = .ok (.iaload, 1) := by decide +kernel
theorem d_T_measure_48 : decode b_T_measure 48 = .ok (.i2l, 1) := by decide +kernel
theorem d_T_measure_49 : decode b_T_measure 49 = .ok (.lsub, 1) := by decide +kernel
theorem d_T_measure_50 : decode b_T_measure 50 = .ok (.lload_n 3, 1) := by decide +kernel
theorem d_T_measure_51 : decode b_T_measure 51 = .ok (.lsub, 1) := by decide +kernel
theorem d_T_measure_52 : decode b_T_measure 52 = .ok (.lstore 5, 2) := by decide +kernel
theorem d_T_measure_54 : decode b_T_measure 54 = .ok (.aload_n 0, 1) := by decide +kernel
theorem d_T_measure_55 : decode b_T_measure 55 = .ok (.getfield 36, 3) := by decide +kernel
theorem d_T_measure_58 : decode b_T_measure 58 = .ok (.iload_n 2, 1) := by decide +kernel
theorem d_T_measure_59 : decode b_T_measure 59 = .ok (.laload, 1) := by decide +kernel
theorem d_T_measure_60 : decode b_T_measure 60 = .ok (.aload_n 0, 1) := by decide +kernel
theorem d_T_measure_61 : decode b_T_measure 61 = .ok (.getfield 48, 3) := by decide +kernel
theorem d_T_measure_64 : decode b_T_measure 64 = .ok (.iload_n 1, 1) := by decide +kernel
theorem d_T_measure_65 : decode b_T_measure 65 = .ok (.iaload, 1) := by decide +kernel
theorem d_T_measure_66 : decode b_T_measure 66 = .ok (.i2l, 1) := by decide +kernel
theorem d_T_measure_67 : decode b_T_measure 67 = .ok (.ladd, 1) := by decide +kernel
theorem d_T_measure_68 : decode b_T_measure 68 = .ok (.lload_n 3, 1) := by decide +kernel
theorem d_T_measure_69 : decode b_T_measure 69 = .ok (.ladd, 1) := by decide +kernel
theorem d_T_measure_70 : decode b_T_measure 70 = .ok (.lstore 7, 2) := by decide +kernel
theorem d_T_measure_72 : decode b_T_measure 72 = .ok (.iload_n 2, 1) := by decide +kernel
theorem d_T_measure_73 : decode b_T_measure 73 = .ok (.bipush 8, 2) := by decide +kernel
theorem d_T_measure_75 : decode b_T_measure 75 = .ok (.iload_n 1, 1) := by decide +kernel
theorem d_T_measure_76 : decode b_T_measure 76 = .ok (.imul, 1) := by decide +kernel
theorem d_T_measure_77 : decode b_T_measure 77 = .ok (.if_icmp .eq 25, 3) := by decide +kernel
theorem d_T_measure_80 : decode b_T_measure 80 = .ok (.lload 7, 2) := by decide +kernel
theorem d_T_measure_82 : decode b_T_measure 82 = .ok (.lload 5, 2) := by decide +kernel
theorem d_T_measure_84 : decode b_T_measure 84 = .ok (.lsub, 1) := by decide +kernel
theorem d_T_measure_85 : decode b_T_measure 85 = .ok (.aload_n 0, 1) := by decide +kernel
theorem d_T_measure_86 : decode b_T_measure 86 = .ok (.getfield 54, 3) := by decide +kernel
theorem d_T_measure_89 : decode b_T_measure 89 = .ok (.iload_n 1, 1) := by decide +kernel
theorem d_T_measure_90 : decode b_T_measure 90 = .ok (.laload, 1) := by decide +kernel
theorem d_T_measure_91 : decode b_T_measure 91 = .ok (.aload_n 0, 1) := by decide +kernel
theorem d_T_measure_92 : decode b_T_measure 92 = .ok (.getfield 51, 3) := by decide +kernel
theorem d_T_measure_95 : decode b_T_measure 95 = .ok (.iload_n 1, 1) := by decide +kernel
theorem d_T_measure_96 : decode b_T_measure 96 = .ok (.laload, 1) := by decide +kernel
theorem d_T_measure_97 : decode b_T_measure 97 = .ok (.lsub, 1) := by decide +kernel
theorem d_T_measure_98 : decode b_T_measure 98 = .ok (.lcmp, 1) := by decide +kernel
theorem d_T_measure_99 : decode b_T_measure 99 = .ok (.ifCond .ge 19, 3) := by decide +kernel
theorem d_T_measure_102 : decode b_T_measure 102 = .ok (.aload_n 0, 1) := by decide +kernel
theorem d_T_measure_103 : decode b_T_measure 103 = .ok (.getfield 51, 3) := by decide +kernel
theorem d_T_measure_106 : decode b_T_measure 106 = .ok (.iload_n 1, 1) := by decide +kernel
theorem d_T_measure_107 : decode b_T_measure 107 = .ok (.lload 5, 2) := by decide +kernel
theorem d_T_measure_109 : decode b_T_measure 109 = .ok (.lastore, 1) := by decide +kernel
theorem d_T_measure_110 : decode b_T_measure 110 = .ok (.aload_n 0, 1) := by decide +kernel
theorem d_T_measure_111 : decode b_T_measure 111 = .ok (.getfield 54, 3) := by decide +kernel
theorem d_T_measure_114 : decode b_T_measure 114 = .ok (.iload_n 1, 1) := by decide +kernel
theorem d_T_measure_115 : decode b_T_measure 115 = .ok (.lload 7, 2) := by decide +kernel
theorem d_T_measure_117 : decode b_T_measure 117 = .ok (.lastore, 1) := by decide +kernel
theorem d_T_measure_118 : decode b_T_measure 118 = .ok (.iinc 2 1, 3) := by decide +kernel
theorem d_T_measure_121 : decode b_T_measure 121 = .ok (.goto (-116), 3) := by decide +kernel
theorem d_T_measure_124 : decode b_T_measure 124 = .ok (.return_, 1) := by decide +kernel
theorem d_T_low_0 : decode b_T_low 0 = .ok (.aload_n 0, 1) := by decide +kernel
theorem d_T_low_1 : decode b_T_low 1 = .ok (.iload_n 1, 1) := by decide +kernel
theorem d_T_low_2 : decode b_T_low 2 = .ok (.invokevirtual 90, 3) := by decide +kernel
theorem d_T_low_5 : decode b_T_low 5 = .ok (.ifCond .eq 12, 3) := by decide +kernel
theorem d_T_low_8 : decode b_T_low 8 = .ok (.aload_n 0, 1) := by decide +kernel
theorem d_T_low_9 : decode b_T_low 9 = .ok (.getfield 29, 3) := by decide +kernel
theorem d_T_low_12 : decode b_T_low 12 = .ok (.iload_n 1, 1) := by decide +kernel
theorem d_T_low_13 : decode b_T_low 13 = .ok (.iaload, 1) := by decide +kernel
theorem d_T_low_14 : decode b_T_low 14 = .ok (.ifCond .ne 7, 3) := by decide +kernel
theorem d_T_low_17 : decode b_T_low 17 = .ok (.ldc2_w 100, 3) := by decide +kernel
theorem d_T_low_20 : decode b_T_low 20 = .ok (.lreturn, 1) := by decide +kernel
theorem d_T_low_21 : decode b_T_low 21 = .ok (.aload_n 0, 1) := by decide +kernel
theorem d_T_low_22 : decode b_T_low 22 = .ok (.iload_n 1, 1) := by decide +kernel
theorem d_T_low_23 : decode b_T_low 23 = .ok (.invokevirtual 127, 3) := by decide +kernel
theorem d_T_low_26 : decode b_T_low 26 = .ok (.aload_n 0, 1) := by decide +kernel
theorem d_T_low_27 : decode b_T_low 27 = .ok (.getfield 51, 3) := by decide +kernel
theorem d_T_low_30 : decode b_T_low 30 = .ok (.iload_n 1, 1) := by decide +kernel
theorem d_T_low_31 : decode b_T_low 31 = .ok (.laload, 1) := by decide +kernel
theorem d_T_low_32 : decode b_T_low 32 = .ok (.lreturn, 1) := by decide +kernel
theorem d_T_high_0 : decode b_T_high 0 = .ok (.aload_n 0, 1) := by decide +kernel
theorem d_T_high_1 : decode b_T_high 1 = .ok (.iload_n 1, 1) := by decide +kernel
end
section
theorem d_T_high_2 : decode b_T_high 2 = .ok (.invokevirtual 90, 3) := by decide +kernel
theorem d_T_high_5 : decode b_T_high 5 = .ok (.ifCond .eq 12, 3) := by decide +kernel
theorem d_T_high_8 : decode b_T_high 8 = .ok (.aload_n 0, 1) := by decide +kernel
theorem d_T_high_9 : decode b_T_high 9 = .ok (.getfield 29, 3) := by decide +kernel
theorem d_T_high_12 : decode b_T_high 12 = .ok (.iload_n 1, 1) := by decide +kernel
theorem d_T_high_13 : decode b_T_high 13 = .ok (.iaload, 1) := by decide +kernel
theorem d_T_high_14 : decode b_T_high 14 = .ok (.ifCond .ne 7, 3) := by decide +kernel
theorem d_T_high_17 : decode b_T_high 17 = .ok (.ldc2_w 100, 3) := by decide +kernel
theorem d_T_high_20 : decode b_T_high 20 = .ok (.lreturn, 1) := by decide +kernel
theorem d_T_high_21 : decode b_T_high 21 = .ok (.aload_n 0, 1) := by decide +kernel
theorem d_T_high_22 : decode b_T_high 22 = .ok (.iload_n 1, 1) := by decide +kernel
theorem d_T_high_23 : decode b_T_high 23 = .ok (.invokevirtual 127, 3) := by decide +kernel
theorem d_T_high_26 : decode b_T_high 26 = .ok (.aload_n 0, 1) := by decide +kernel
theorem d_T_high_27 : decode b_T_high 27 = .ok (.getfield 54, 3) := by decide +kernel
theorem d_T_high_30 : decode b_T_high 30 = .ok (.iload_n 1, 1) := by decide +kernel
theorem d_T_high_31 : decode b_T_high 31 = .ok (.laload, 1) := by decide +kernel
theorem d_T_high_32 : decode b_T_high 32 = .ok (.lreturn, 1) := by decide +kernel
theorem d_T_usable_0 : decode b_T_usable 0 = .ok (.aload_n 0, 1) := by decide +kernel
theorem d_T_usable_1 : decode b_T_usable 1 = .ok (.getfield 42, 3) := by decide +kernel
theorem d_T_usable_4 : decode b_T_usable 4 = .ok (.iload_n 1, 1) := by decide +kernel
theorem d_T_usable_5 : decode b_T_usable 5 = .ok (.iaload, 1) := by decide +kernel
theorem d_T_usable_6 : decode b_T_usable 6 = .ok (.iconst 1, 1) := by decide +kernel
theorem d_T_usable_7 : decode b_T_usable 7 = .ok (.if_icmp .lt 31, 3) := by decide +kernel
theorem d_T_usable_10 : decode b_T_usable 10 = .ok (.aload_n 0, 1) := by decide +kernel
theorem d_T_usable_11 : decode b_T_usable 11 = .ok (.getfield 42, 3) := by decide +kernel
theorem d_T_usable_14 : decode b_T_usable 14 = .ok (.iload_n 1, 1) := by decide +kernel
theorem d_T_usable_15 : decode b_T_usable 15 = .ok (.iaload, 1) := by decide +kernel
theorem d_T_usable_16 : decode b_T_usable 16 = .ok (.bipush 14, 2) := by decide +kernel
theorem d_T_usable_18 : decode b_T_usable 18 = .ok (.if_icmp .gt 20, 3) := by decide +kernel
theorem d_T_usable_21 : decode b_T_usable 21 = .ok (.aload_n 0, 1) := by decide +kernel
theorem d_T_usable_22 : decode b_T_usable 22 = .ok (.getfield 45, 3) := by decide +kernel
theorem d_T_usable_25 : decode b_T_usable 25 = .ok (.iload_n 1, 1) := by decide +kernel
theorem d_T_usable_26 : decode b_T_usable 26 = .ok (.iaload, 1) := by decide +kernel
theorem d_T_usable_27 : decode b_T_usable 27 = .ok (.aload_n 0, 1) := by decide +kernel
theorem d_T_usable_28 : decode b_T_usable 28 = .ok (.getfield 80, 3) := by decide +kernel
theorem d_T_usable_31 : decode b_T_usable 31 = .ok (.if_icmp .eq 7, 3) := by decide +kernel
theorem d_T_usable_34 : decode b_T_usable 34 = .ok (.iconst 1, 1) := by decide +kernel
theorem d_T_usable_35 : decode b_T_usable 35 = .ok (.goto 4, 3) := by decide +kernel
theorem d_T_usable_38 : decode b_T_usable 38 = .ok (.iconst 0, 1) := by decide +kernel
theorem d_T_usable_39 : decode b_T_usable 39 = .ok (.istore_n 2, 1) := by decide +kernel
theorem d_T_usable_40 : decode b_T_usable 40 = .ok (.iload_n 2, 1) := by decide +kernel
theorem d_T_usable_41 : decode b_T_usable 41 = .ok (.ifCond .eq 37, 3) := by decide +kernel
theorem d_T_usable_44 : decode b_T_usable 44 = .ok (.aload_n 0, 1) := by decide +kernel
theorem d_T_usable_45 : decode b_T_usable 45 = .ok (.getfield 29, 3) := by decide +kernel
theorem d_T_usable_48 : decode b_T_usable 48 = .ok (.iload_n 1, 1) := by decide +kernel
theorem d_T_usable_49 : decode b_T_usable 49 = .ok (.iaload, 1) := by decide +kernel
theorem d_T_usable_50 : decode b_T_usable 50 = .ok (.ifCond .le 28, 3) := by decide +kernel
theorem d_T_usable_53 : decode b_T_usable 53 = .ok (.aload_n 0, 1) := by decide +kernel
theorem d_T_usable_54 : decode b_T_usable 54 = .ok (.getfield 86, 3) := by decide +kernel
theorem d_T_usable_57 : decode b_T_usable 57 = .ok (.aload_n 0, 1) := by decide +kernel
theorem d_T_usable_58 : decode b_T_usable 58 = .ok (.getfield 39, 3) := by decide +kernel
theorem d_T_usable_61 : decode b_T_usable 61 = .ok (.bipush 8, 2) := by decide +kernel
theorem d_T_usable_63 : decode b_T_usable 63 = .ok (.iload_n 1, 1) := by decide +kernel
theorem d_T_usable_64 : decode b_T_usable 64 = .ok (.imul, 1) := by decide +kernel
theorem d_T_usable_65 : decode b_T_usable 65 = .ok (.laload, 1) := by decide +kernel
theorem d_T_usable_66 : decode b_T_usable 66 = .ok (.lsub, 1) := by decide +kernel
theorem d_T_usable_67 : decode b_T_usable 67 = .ok (.ldc2_w 83, 3) := by decide +kernel
theorem d_T_usable_70 : decode b_T_usable 70 = .ok (.lcmp, 1) := by decide +kernel
theorem d_T_usable_71 : decode b_T_usable 71 = .ok (.ifCond .gt 7, 3) := by decide +kernel
theorem d_T_usable_74 : decode b_T_usable 74 = .ok (.iconst 1, 1) := by decide +kernel
theorem d_T_usable_75 : decode b_T_usable 75 = .ok (.goto 4, 3) := by decide +kernel
theorem d_T_usable_78 : decode b_T_usable 78 = .ok (.iconst 0, 1) := by decide +kernel
theorem d_T_usable_79 : decode b_T_usable 79 = .ok (.ireturn, 1) := by decide +kernel
theorem d_T_left_0 : decode b_T_left 0 = .ok (.iconst 0, 1) := by decide +kernel
theorem d_T_left_1 : decode b_T_left 1 = .ok (.istore_n 1, 1) := by decide +kernel
theorem d_T_left_2 : decode b_T_left 2 = .ok (.iconst 0, 1) := by decide +kernel
theorem d_T_left_3 : decode b_T_left 3 = .ok (.istore_n 2, 1) := by decide +kernel
theorem d_T_left_4 : decode b_T_left 4 = .ok (.iload_n 2, 1) := by decide +kernel
theorem d_T_left_5 : decode b_T_left 5 = .ok (.aload_n 0, 1) := by decide +kernel
theorem d_T_left_6 : decode b_T_left 6 = .ok (.getfield 73, 3) := by decide +kernel
theorem d_T_left_9 : decode b_T_left 9 = .ok (.if_icmp .ge 26, 3) := by decide +kernel
theorem d_T_left_12 : decode b_T_left 12 = .ok (.aload_n 0, 1) := by decide +kernel
theorem d_T_left_13 : decode b_T_left 13 = .ok (.getfield 57, 3) := by decide +kernel
theorem d_T_left_16 : decode b_T_left 16 = .ok (.iload_n 2, 1) := by decide +kernel
theorem d_T_left_17 : decode b_T_left 17 = .ok (.baload, 1) := by decide +kernel
theorem d_T_left_18 : decode b_T_left 18 = .ok (.ifCond .eq 9, 3) := by decide +kernel
theorem d_T_left_21 : decode b_T_left 21 = .ok (.iload_n 1, 1) := by decide +kernel
theorem d_T_left_22 : decode b_T_left 22 = .ok (.iconst 1, 1) := by decide +kernel
theorem d_T_left_23 : decode b_T_left 23 = .ok (.iadd, 1) := by decide +kernel
theorem d_T_left_24 : decode b_T_left 24 = .ok (.goto 4, 3) := by decide +kernel
theorem d_T_left_27 : decode b_T_left 27 = .ok (.iload_n 1, 1) := by decide +kernel
theorem d_T_left_28 : decode b_T_left 28 = .ok (.istore_n 1, 1) := by decide +kernel
theorem d_T_left_29 : decode b_T_left 29 = .ok (.iinc 2 1, 3) := by decide +kernel
theorem d_T_left_32 : decode b_T_left 32 = .ok (.goto (-28), 3) := by decide +kernel
theorem d_T_left_35 : decode b_T_left 35 = .ok (.iload_n 1, 1) := by decide +kernel
theorem d_T_left_36 : decode b_T_left 36 = .ok (.ireturn, 1) := by decide +kernel
theorem d_T_covering_0 : decode b_T_covering 0 = .ok (.iconst 0, 1) := by decide +kernel
theorem d_T_covering_1 : decode b_T_covering 1 = .ok (.istore_n 3, 1) := by decide +kernel
theorem d_T_covering_2 : decode b_T_covering 2 = .ok (.iconst 0, 1) := by decide +kernel
theorem d_T_covering_3 : decode b_T_covering 3 = .ok (.istore 4, 2) := by decide +kernel
theorem d_T_covering_5 : decode b_T_covering 5 = .ok (.iload 4, 2) := by decide +kernel
theorem d_T_covering_7 : decode b_T_covering 7 = .ok (.aload_n 0, 1) := by decide +kernel
theorem d_T_covering_8 : decode b_T_covering 8 = .ok (.getfield 73, 3) := by decide +kernel
theorem d_T_covering_11 : decode b_T_covering 11 = .ok (.if_icmp .ge 48, 3) := by decide +kernel
theorem d_T_covering_14 : decode b_T_covering 14 = .ok (.aload_n 0, 1) := by decide +kernel
theorem d_T_covering_15 : decode b_T_covering 15 = .ok (.getfield 57, 3) := by decide +kernel
theorem d_T_covering_18 : decode b_T_covering 18 = .ok (.iload 4, 2) := by decide +kernel
theorem d_T_covering_20 : decode b_T_covering 20 = .ok (.baload, 1) := by decide +kernel
theorem d_T_covering_21 : decode b_T_covering 21 = .ok (.ifCond .eq 30, 3) := by decide +kernel
theorem d_T_covering_24 : decode b_T_covering 24 = .ok (.lload_n 1, 1) := by decide +kernel
theorem d_T_covering_25 : decode b_T_covering 25 = .ok (.aload_n 0, 1) := by decide +kernel
theorem d_T_covering_26 : decode b_T_covering 26 = .ok (.getfield 51, 3) := by decide +kernel
theorem d_T_covering_29 : decode b_T_covering 29 = .ok (.iload 4, 2) := by decide +kernel
theorem d_T_covering_31 : decode b_T_covering 31 = .ok (.laload, 1) := by decide +kernel
theorem d_T_covering_32 : decode b_T_covering 32 = .ok (.aload_n 0, 1) := by decide +kernel
theorem d_T_covering_33 : decode b_T_covering 33 = .ok (.getfield 54, 3) := by decide +kernel
theorem d_T_covering_36 : decode b_T_covering 36 = .ok (.iload 4, 2) := by decide +kernel
theorem d_T_covering_38 : decode b_T_covering 38 = .ok (.laload, 1) := by decide +kernel
theorem d_T_covering_39 : decode b_T_covering 39 = .ok (.invokestatic 111, 3) := by decide +kernel
theorem d_T_covering_42 : decode b_T_covering 42 = .ok (.ifCond .eq 9, 3) := by decide +kernel
theorem d_T_covering_45 : decode b_T_covering 45 = .ok (.iload_n 3, 1) := by decide +kernel
theorem d_T_covering_46 : decode b_T_covering 46 = .ok (.iconst 1, 1) := by decide +kernel
theorem d_T_covering_47 : decode b_T_covering 47 = .ok (.iadd, 1) := by decide +kernel
theorem d_T_covering_48 : decode b_T_covering 48 = .ok (.goto 4, 3) := by decide +kernel
theorem d_T_covering_51 : decode b_T_covering 51 = .ok (.iload_n 3, 1) := by decide +kernel
theorem d_T_covering_52 : decode b_T_covering 52 = .ok (.istore_n 3, 1) := by decide +kernel
theorem d_T_covering_53 : decode b_T_covering 53 = .ok (.iinc 4 1, 3) := by decide +kernel
theorem d_T_covering_56 : decode b_T_covering 56 = .ok (.goto (-51), 3) := by decide +kernel
theorem d_T_covering_59 : decode b_T_covering 59 = .ok (.iload_n 3, 1) := by decide +kernel
theorem d_T_covering_60 : decode b_T_covering 60 = .ok (.ireturn, 1) := by decide +kernel
theorem d_T_hullOf_0 : decode b_T_hullOf 0 = .ok (.iconst 0, 1) := by decide +kernel
theorem d_T_hullOf_1 : decode b_T_hullOf 1 = .ok (.istore_n 2, 1) := by decide +kernel
theorem d_T_hullOf_2 : decode b_T_hullOf 2 = .ok (.iconst 0, 1) := by decide +kernel
theorem d_T_hullOf_3 : decode b_T_hullOf 3 = .ok (.istore_n 3, 1) := by decide +kernel
theorem d_T_hullOf_4 : decode b_T_hullOf 4 = .ok (.iload_n 3, 1) := by decide +kernel
theorem d_T_hullOf_5 : decode b_T_hullOf 5 = .ok (.aload_n 0, 1) := by decide +kernel
theorem d_T_hullOf_6 : decode b_T_hullOf 6 = .ok (.getfield 73, 3) := by decide +kernel
theorem d_T_hullOf_9 : decode b_T_hullOf 9 = .ok (.if_icmp .ge 199, 3) := by decide +kernel
theorem d_T_hullOf_12 : decode b_T_hullOf 12 = .ok (.aload_n 0, 1) := by decide +kernel
theorem d_T_hullOf_13 : decode b_T_hullOf 13 = .ok (.getfield 57, 3) := by decide +kernel
theorem d_T_hullOf_16 : decode b_T_hullOf 16 = .ok (.iload_n 3, 1) := by decide +kernel
theorem d_T_hullOf_17 : decode b_T_hullOf 17 = .ok (.baload, 1) := by decide +kernel
theorem d_T_hullOf_18 : decode b_T_hullOf 18 = .ok (.ifCond .eq 89, 3) := by decide +kernel
theorem d_T_hullOf_21 : decode b_T_hullOf 21 = .ok (.aload_n 0, 1) := by decide +kernel
theorem d_T_hullOf_22 : decode b_T_hullOf 22 = .ok (.aload_n 0, 1) := by decide +kernel
theorem d_T_hullOf_23 : decode b_T_hullOf 23 = .ok (.getfield 51, 3) := by decide +kernel
theorem d_T_hullOf_26 : decode b_T_hullOf 26 = .ok (.iload_n 3, 1) := by decide +kernel
theorem d_T_hullOf_27 : decode b_T_hullOf 27 = .ok (.laload, 1) := by decide +kernel
theorem d_T_hullOf_28 : decode b_T_hullOf 28 = .ok (.invokevirtual 131, 3) := by decide +kernel
theorem d_T_hullOf_31 : decode b_T_hullOf 31 = .ok (.iload_n 1, 1) := by decide +kernel
theorem d_T_hullOf_32 : decode b_T_hullOf 32 = .ok (.if_icmp .lt 75, 3) := by decide +kernel
theorem d_T_hullOf_35 : decode b_T_hullOf 35 = .ok (.aload_n 0, 1) := by decide +kernel
theorem d_T_hullOf_36 : decode b_T_hullOf 36 = .ok (.iload_n 2, 1) := by decide +kernel
theorem d_T_hullOf_37 : decode b_T_hullOf 37 = .ok (.ifCond .eq 24, 3) := by decide +kernel
theorem d_T_hullOf_40 : decode b_T_hullOf 40 = .ok (.aload_n 0, 1) := by decide +kernel
theorem d_T_hullOf_41 : decode b_T_hullOf 41 = .ok (.getfield 135, 3) := by decide +kernel
theorem d_T_hullOf_44 : decode b_T_hullOf 44 = .ok (.aload_n 0, 1) := by decide +kernel
theorem d_T_hullOf_45 : decode b_T_hullOf 45 = .ok (.getfield 51, 3) := by decide +kernel
theorem d_T_hullOf_48 : decode b_T_hullOf 48 = .ok (.iload_n 3, 1) := by decide +kernel
theorem d_T_hullOf_49 : decode b_T_hullOf 49 = .ok (.laload, 1) := by decide +kernel
theorem d_T_hullOf_50 : decode b_T_hullOf 50 = .ok (.lcmp, 1) := by decide +kernel
theorem d_T_hullOf_51 : decode b_T_hullOf 51 = .ok (.ifCond .ge 10, 3) := by decide +kernel
theorem d_T_hullOf_54 : decode b_T_hullOf 54 = .ok (.aload_n 0, 1) := by decide +kernel
theorem d_T_hullOf_55 : decode b_T_hullOf 55 = .ok (.getfield 135, 3) := by decide +kernel
theorem d_T_hullOf_58 : decode b_T_hullOf 58 = .ok (.goto 9, 3) := by decide +kernel
theorem d_T_hullOf_61 : decode b_T_hullOf 61 = .ok (.aload_n 0, 1) := by decide +kernel
theorem d_T_hullOf_62 : decode b_T_hullOf 62 = .ok (.getfield 51, 3) := by decide +kernel
theorem d_T_hullOf_65 : decode b_T_hullOf 65 = .ok (.iload_n 3, 1) := by decide +kernel
theorem d_T_hullOf_66 : decode b_T_hullOf 66 = .ok (.laload, 1) := by decide +kernel
theorem d_T_hullOf_67 : decode b_T_hullOf 67 = .ok (.putfield 135, 3) := by decide +kernel
end
section
theorem d_T_hullOf_70 : decode b_T_hullOf 70 = .ok (.aload_n 0, 1) := by decide +kernel
theorem d_T_hullOf_71 : decode b_T_hullOf 71 = .ok (.iload_n 2, 1) := by decide +kernel
theorem d_T_hullOf_72 : decode b_T_hullOf 72 = .ok (.ifCond .eq 24, 3) := by decide +kernel
theorem d_T_hullOf_75 : decode b_T_hullOf 75 = .ok (.aload_n 0, 1) := by decide +kernel
theorem d_T_hullOf_76 : decode b_T_hullOf 76 = .ok (.getfield 138, 3) := by decide +kernel
theorem d_T_hullOf_79 : decode b_T_hullOf 79 = .ok (.aload_n 0, 1) := by decide +kernel
theorem d_T_hullOf_80 : decode b_T_hullOf 80 = .ok (.getfield 51, 3) := by decide +kernel
theorem d_T_hullOf_83 : decode b_T_hullOf 83 = .ok (.iload_n 3, 1) := by decide +kernel
theorem d_T_hullOf_84 : decode b_T_hullOf 84 = .ok (.laload, 1) := by decide +kernel
theorem d_T_hullOf_85 : decode b_T_hullOf 85 = .ok (.lcmp, 1) := by decide +kernel
theorem d_T_hullOf_86 : decode b_T_hullOf 86 = .ok (.ifCond .le 10, 3) := by decide +kernel
theorem d_T_hullOf_89 : decode b_T_hullOf 89 = .ok (.aload_n 0, 1) := by decide +kernel
theorem d_T_hullOf_90 : decode b_T_hullOf 90 = .ok (.getfield 138, 3) := by decide +kernel
theorem d_T_hullOf_93 : decode b_T_hullOf 93 = .ok (.goto 9, 3) := by decide +kernel
theorem d_T_hullOf_96 : decode b_T_hullOf 96 = .ok (.aload_n 0, 1) := by decide +kernel
theorem d_T_hullOf_97 : decode b_T_hullOf 97 = .ok (.getfield 51, 3) := by decide +kernel
theorem d_T_hullOf_100 : decode b_T_hullOf 100 = .ok (.iload_n 3, 1) := by decide +kernel
theorem d_T_hullOf_101 : decode b_T_hullOf 101 = .ok (.laload, 1) := by decide +kernel
theorem d_T_hullOf_102 : decode b_T_hullOf 102 = .ok (.putfield 138, 3) := by decide +kernel
theorem d_T_hullOf_105 : decode b_T_hullOf 105 = .ok (.iconst 1, 1) := by decide +kernel
theorem d_T_hullOf_106 : decode b_T_hullOf 106 = .ok (.istore_n 2, 1) := by decide +kernel
theorem d_T_hullOf_107 : decode b_T_hullOf 107 = .ok (.aload_n 0, 1) := by decide +kernel
theorem d_T_hullOf_108 : decode b_T_hullOf 108 = .ok (.getfield 57, 3) := by decide +kernel
theorem d_T_hullOf_111 : decode b_T_hullOf 111 = .ok (.iload_n 3, 1) := by decide +kernel
theorem d_T_hullOf_112 : decode b_T_hullOf 112 = .ok (.baload, 1) := by decide +kernel
theorem d_T_hullOf_113 : decode b_T_hullOf 113 = .ok (.ifCond .eq 89, 3) := by decide +kernel
theorem d_T_hullOf_116 : decode b_T_hullOf 116 = .ok (.aload_n 0, 1) := by decide +kernel
theorem d_T_hullOf_117 : decode b_T_hullOf 117 = .ok (.aload_n 0, 1) := by decide +kernel
theorem d_T_hullOf_118 : decode b_T_hullOf 118 = .ok (.getfield 54, 3) := by decide +kernel
theorem d_T_hullOf_121 : decode b_T_hullOf 121 = .ok (.iload_n 3, 1) := by decide +kernel
theorem d_T_hullOf_122 : decode b_T_hullOf 122 = .ok (.laload, 1) := by decide +kernel
theorem d_T_hullOf_123 : decode b_T_hullOf 123 = .ok (.invokevirtual 131, 3) := by decide +kernel
theorem d_T_hullOf_126 : decode b_T_hullOf 126 = .ok (.iload_n 1, 1) := by decide +kernel
theorem d_T_hullOf_127 : decode b_T_hullOf 127 = .ok (.if_icmp .lt 75, 3) := by decide +kernel
theorem d_T_hullOf_130 : decode b_T_hullOf 130 = .ok (.aload_n 0, 1) := by decide +kernel
theorem d_T_hullOf_131 : decode b_T_hullOf 131 = .ok (.iload_n 2, 1) := by decide +kernel
theorem d_T_hullOf_132 : decode b_T_hullOf 132 = .ok (.ifCond .eq 24, 3) := by decide +kernel
theorem d_T_hullOf_135 : decode b_T_hullOf 135 = .ok (.aload_n 0, 1) := by decide +kernel
theorem d_T_hullOf_136 : decode b_T_hullOf 136 = .ok (.getfield 135, 3) := by decide +kernel
theorem d_T_hullOf_139 : decode b_T_hullOf 139 = .ok (.aload_n 0, 1) := by decide +kernel
theorem d_T_hullOf_140 : decode b_T_hullOf 140 = .ok (.getfield 54, 3) := by decide +kernel
theorem d_T_hullOf_143 : decode b_T_hullOf 143 = .ok (.iload_n 3, 1) := by decide +kernel
theorem d_T_hullOf_144 : decode b_T_hullOf 144 = .ok (.laload, 1) := by decide +kernel
theorem d_T_hullOf_145 : decode b_T_hullOf 145 = .ok (.lcmp, 1) := by decide +kernel
theorem d_T_hullOf_146 : decode b_T_hullOf 146 = .ok (.ifCond .ge 10, 3) := by decide +kernel
theorem d_T_hullOf_149 : decode b_T_hullOf 149 = .ok (.aload_n 0, 1) := by decide +kernel
theorem d_T_hullOf_150 : decode b_T_hullOf 150 = .ok (.getfield 135, 3) := by decide +kernel
theorem d_T_hullOf_153 : decode b_T_hullOf 153 = .ok (.goto 9, 3) := by decide +kernel
theorem d_T_hullOf_156 : decode b_T_hullOf 156 = .ok (.aload_n 0, 1) := by decide +kernel
theorem d_T_hullOf_157 : decode b_T_hullOf 157 = .ok (.getfield 54, 3) := by decide +kernel
theorem d_T_hullOf_160 : decode b_T_hullOf 160 = .ok (.iload_n 3, 1) := by decide +kernel
theorem d_T_hullOf_161 : decode b_T_hullOf 161 = .ok (.laload, 1) := by decide +kernel
theorem d_T_hullOf_162 : decode b_T_hullOf 162 = .ok (.putfield 135, 3) := by decide +kernel
theorem d_T_hullOf_165 : decode b_T_hullOf 165 = .ok (.aload_n 0, 1) := by decide +kernel
theorem d_T_hullOf_166 : decode b_T_hullOf 166 = .ok (.iload_n 2, 1) := by decide +kernel
theorem d_T_hullOf_167 : decode b_T_hullOf 167 = .ok (.ifCond .eq 24, 3) := by decide +kernel
theorem d_T_hullOf_170 : decode b_T_hullOf 170 = .ok (.aload_n 0, 1) := by decide +kernel
theorem d_T_hullOf_171 : decode b_T_hullOf 171 = .ok (.getfield 138, 3) := by decide +kernel
theorem d_T_hullOf_174 : decode b_T_hullOf 174 = .ok (.aload_n 0, 1) := by decide +kernel
theorem d_T_hullOf_175 : decode b_T_hullOf 175 = .ok (.getfield 54, 3) := by decide +kernel
theorem d_T_hullOf_178 : decode b_T_hullOf 178 = .ok (.iload_n 3, 1) := by decide +kernel
theorem d_T_hullOf_179 : decode b_T_hullOf 179 = .ok (.laload, 1) := by decide +kernel
theorem d_T_hullOf_180 : decode b_T_hullOf 180 = .ok (.lcmp, 1) := by decide +kernel
theorem d_T_hullOf_181 : decode b_T_hullOf 181 = .ok (.ifCond .le 10, 3) := by decide +kernel
theorem d_T_hullOf_184 : decode b_T_hullOf 184 = .ok (.aload_n 0, 1) := by decide +kernel
theorem d_T_hullOf_185 : decode b_T_hullOf 185 = .ok (.getfield 138, 3) := by decide +kernel
theorem d_T_hullOf_188 : decode b_T_hullOf 188 = .ok (.goto 9, 3) := by decide +kernel
theorem d_T_hullOf_191 : decode b_T_hullOf 191 = .ok (.aload_n 0, 1) := by decide +kernel
theorem d_T_hullOf_192 : decode b_T_hullOf 192 = .ok (.getfield 54, 3) := by decide +kernel
theorem d_T_hullOf_195 : decode b_T_hullOf 195 = .ok (.iload_n 3, 1) := by decide +kernel
theorem d_T_hullOf_196 : decode b_T_hullOf 196 = .ok (.laload, 1) := by decide +kernel
theorem d_T_hullOf_197 : decode b_T_hullOf 197 = .ok (.putfield 138, 3) := by decide +kernel
theorem d_T_hullOf_200 : decode b_T_hullOf 200 = .ok (.iconst 1, 1) := by decide +kernel
theorem d_T_hullOf_201 : decode b_T_hullOf 201 = .ok (.istore_n 2, 1) := by decide +kernel
theorem d_T_hullOf_202 : decode b_T_hullOf 202 = .ok (.iinc 3 1, 3) := by decide +kernel
theorem d_T_hullOf_205 : decode b_T_hullOf 205 = .ok (.goto (-201), 3) := by decide +kernel
theorem d_T_hullOf_208 : decode b_T_hullOf 208 = .ok (.iload_n 2, 1) := by decide +kernel
theorem d_T_hullOf_209 : decode b_T_hullOf 209 = .ok (.ireturn, 1) := by decide +kernel
theorem d_T_middle_0 : decode b_T_middle 0 = .ok (.aload_n 0, 1) := by decide +kernel
theorem d_T_middle_1 : decode b_T_middle 1 = .ok (.getfield 51, 3) := by decide +kernel
theorem d_T_middle_4 : decode b_T_middle 4 = .ok (.iload_n 1, 1) := by decide +kernel
theorem d_T_middle_5 : decode b_T_middle 5 = .ok (.laload, 1) := by decide +kernel
theorem d_T_middle_6 : decode b_T_middle 6 = .ok (.aload_n 0, 1) := by decide +kernel
theorem d_T_middle_7 : decode b_T_middle 7 = .ok (.getfield 54, 3) := by decide +kernel
theorem d_T_middle_10 : decode b_T_middle 10 = .ok (.iload_n 1, 1) := by decide +kernel
theorem d_T_middle_11 : decode b_T_middle 11 = .ok (.laload, 1) := by decide +kernel
theorem d_T_middle_12 : decode b_T_middle 12 = .ok (.ladd, 1) := by decide +kernel
theorem d_T_middle_13 : decode b_T_middle 13 = .ok (.ldc2_w 141, 3) := by decide +kernel
theorem d_T_middle_16 : decode b_T_middle 16 = .ok (.invokestatic 143, 3) := by decide +kernel
theorem d_T_middle_19 : decode b_T_middle 19 = .ok (.lreturn, 1) := by decide +kernel
theorem d_T_far_0 : decode b_T_far 0 = .ok (.lconst 0, 1) := by decide +kernel
theorem d_T_far_1 : decode b_T_far 1 = .ok (.lstore_n 2, 1) := by decide +kernel
theorem d_T_far_2 : decode b_T_far 2 = .ok (.iconst 0, 1) := by decide +kernel
theorem d_T_far_3 : decode b_T_far 3 = .ok (.istore 4, 2) := by decide +kernel
theorem d_T_far_5 : decode b_T_far 5 = .ok (.iload 4, 2) := by decide +kernel
theorem d_T_far_7 : decode b_T_far 7 = .ok (.aload_n 0, 1) := by decide +kernel
theorem d_T_far_8 : decode b_T_far 8 = .ok (.getfield 73, 3) := by decide +kernel
theorem d_T_far_11 : decode b_T_far 11 = .ok (.if_icmp .ge 51, 3) := by decide +kernel
theorem d_T_far_14 : decode b_T_far 14 = .ok (.aload_n 0, 1) := by decide +kernel
theorem d_T_far_15 : decode b_T_far 15 = .ok (.getfield 57, 3) := by decide +kernel
theorem d_T_far_18 : decode b_T_far 18 = .ok (.iload 4, 2) := by decide +kernel
theorem d_T_far_20 : decode b_T_far 20 = .ok (.baload, 1) := by decide +kernel
theorem d_T_far_21 : decode b_T_far 21 = .ok (.ifCond .eq 35, 3) := by decide +kernel
theorem d_T_far_24 : decode b_T_far 24 = .ok (.aload_n 0, 1) := by decide +kernel
theorem d_T_far_25 : decode b_T_far 25 = .ok (.iload 4, 2) := by decide +kernel
theorem d_T_far_27 : decode b_T_far 27 = .ok (.invokevirtual 146, 3) := by decide +kernel
theorem d_T_far_30 : decode b_T_far 30 = .ok (.aload_n 0, 1) := by decide +kernel
theorem d_T_far_31 : decode b_T_far 31 = .ok (.iload_n 1, 1) := by decide +kernel
theorem d_T_far_32 : decode b_T_far 32 = .ok (.invokevirtual 146, 3) := by decide +kernel
theorem d_T_far_35 : decode b_T_far 35 = .ok (.lsub, 1) := by decide +kernel
theorem d_T_far_36 : decode b_T_far 36 = .ok (.lstore 5, 2) := by decide +kernel
theorem d_T_far_38 : decode b_T_far 38 = .ok (.lload_n 2, 1) := by decide +kernel
theorem d_T_far_39 : decode b_T_far 39 = .ok (.lload 5, 2) := by decide +kernel
theorem d_T_far_41 : decode b_T_far 41 = .ok (.lconst 0, 1) := by decide +kernel
theorem d_T_far_42 : decode b_T_far 42 = .ok (.lcmp, 1) := by decide +kernel
theorem d_T_far_43 : decode b_T_far 43 = .ok (.ifCond .ge 9, 3) := by decide +kernel
theorem d_T_far_46 : decode b_T_far 46 = .ok (.lload 5, 2) := by decide +kernel
theorem d_T_far_48 : decode b_T_far 48 = .ok (.lneg, 1) := by decide +kernel
theorem d_T_far_49 : decode b_T_far 49 = .ok (.goto 5, 3) := by decide +kernel
theorem d_T_far_52 : decode b_T_far 52 = .ok (.lload 5, 2) := by decide +kernel
theorem d_T_far_54 : decode b_T_far 54 = .ok (.ladd, 1) := by decide +kernel
theorem d_T_far_55 : decode b_T_far 55 = .ok (.lstore_n 2, 1) := by decide +kernel
theorem d_T_far_56 : decode b_T_far 56 = .ok (.iinc 4 1, 3) := by decide +kernel
theorem d_T_far_59 : decode b_T_far 59 = .ok (.goto (-54), 3) := by decide +kernel
theorem d_T_far_62 : decode b_T_far 62 = .ok (.lload_n 2, 1) := by decide +kernel
theorem d_T_far_63 : decode b_T_far 63 = .ok (.lreturn, 1) := by decide +kernel
theorem d_T_leave_0 : decode b_T_leave 0 = .ok (.iconst (-1), 1) := by decide +kernel
theorem d_T_leave_1 : decode b_T_leave 1 = .ok (.istore_n 1, 1) := by decide +kernel
theorem d_T_leave_2 : decode b_T_leave 2 = .ok (.ldc2_w 150, 3) := by decide +kernel
theorem d_T_leave_5 : decode b_T_leave 5 = .ok (.lstore_n 2, 1) := by decide +kernel
theorem d_T_leave_6 : decode b_T_leave 6 = .ok (.iconst 0, 1) := by decide +kernel
theorem d_T_leave_7 : decode b_T_leave 7 = .ok (.istore 4, 2) := by decide +kernel
theorem d_T_leave_9 : decode b_T_leave 9 = .ok (.iload 4, 2) := by decide +kernel
theorem d_T_leave_11 : decode b_T_leave 11 = .ok (.aload_n 0, 1) := by decide +kernel
theorem d_T_leave_12 : decode b_T_leave 12 = .ok (.getfield 73, 3) := by decide +kernel
theorem d_T_leave_15 : decode b_T_leave 15 = .ok (.if_icmp .ge 56, 3) := by decide +kernel
theorem d_T_leave_18 : decode b_T_leave 18 = .ok (.aload_n 0, 1) := by decide +kernel
theorem d_T_leave_19 : decode b_T_leave 19 = .ok (.getfield 57, 3) := by decide +kernel
theorem d_T_leave_22 : decode b_T_leave 22 = .ok (.iload 4, 2) := by decide +kernel
theorem d_T_leave_24 : decode b_T_leave 24 = .ok (.baload, 1) := by decide +kernel
theorem d_T_leave_25 : decode b_T_leave 25 = .ok (.ifCond .eq 12, 3) := by decide +kernel
theorem d_T_leave_28 : decode b_T_leave 28 = .ok (.aload_n 0, 1) := by decide +kernel
theorem d_T_leave_29 : decode b_T_leave 29 = .ok (.iload 4, 2) := by decide +kernel
theorem d_T_leave_31 : decode b_T_leave 31 = .ok (.invokevirtual 152, 3) := by decide +kernel
theorem d_T_leave_34 : decode b_T_leave 34 = .ok (.goto 6, 3) := by decide +kernel
theorem d_T_leave_37 : decode b_T_leave 37 = .ok (.ldc2_w 150, 3) := by decide +kernel
theorem d_T_leave_40 : decode b_T_leave 40 = .ok (.lstore 5, 2) := by decide +kernel
theorem d_T_leave_42 : decode b_T_leave 42 = .ok (.aload_n 0, 1) := by decide +kernel
theorem d_T_leave_43 : decode b_T_leave 43 = .ok (.getfield 57, 3) := by decide +kernel
theorem d_T_leave_46 : decode b_T_leave 46 = .ok (.iload 4, 2) := by decide +kernel
theorem d_T_leave_48 : decode b_T_leave 48 = .ok (.baload, 1) := by decide +kernel
theorem d_T_leave_49 : decode b_T_leave 49 = .ok (.ifCond .eq 16, 3) := by decide +kernel
theorem d_T_leave_52 : decode b_T_leave 52 = .ok (.lload 5, 2) := by decide +kernel
theorem d_T_leave_54 : decode b_T_leave 54 = .ok (.lload_n 2, 1) := by decide +kernel
theorem d_T_leave_55 : decode b_T_leave 55 = .ok (.lcmp, 1) := by decide +kernel
theorem d_T_leave_56 : decode b_T_leave 56 = .ok (.ifCond .lt 9, 3) := by decide +kernel
theorem d_T_leave_59 : decode b_T_leave 59 = .ok (.lload 5, 2) := by decide +kernel
theorem d_T_leave_61 : decode b_T_leave 61 = .ok (.lstore_n 2, 1) := by decide +kernel
theorem d_T_leave_62 : decode b_T_leave 62 = .ok (.iload 4, 2) := by decide +kernel
theorem d_T_leave_64 : decode b_T_leave 64 = .ok (.istore_n 1, 1) := by decide +kernel
end
section
theorem d_T_leave_65 : decode b_T_leave 65 = .ok (.iinc 4 1, 3) := by decide +kernel
theorem d_T_leave_68 : decode b_T_leave 68 = .ok (.goto (-59), 3) := by decide +kernel
theorem d_T_leave_71 : decode b_T_leave 71 = .ok (.iload_n 1, 1) := by decide +kernel
theorem d_T_leave_72 : decode b_T_leave 72 = .ok (.ifCond .lt 10, 3) := by decide +kernel
theorem d_T_leave_75 : decode b_T_leave 75 = .ok (.aload_n 0, 1) := by decide +kernel
theorem d_T_leave_76 : decode b_T_leave 76 = .ok (.getfield 57, 3) := by decide +kernel
theorem d_T_leave_79 : decode b_T_leave 79 = .ok (.iload_n 1, 1) := by decide +kernel
theorem d_T_leave_80 : decode b_T_leave 80 = .ok (.iconst 0, 1) := by decide +kernel
theorem d_T_leave_81 : decode b_T_leave 81 = .ok (.bastore, 1) := by decide +kernel
theorem d_T_leave_82 : decode b_T_leave 82 = .ok (.return_, 1) := by decide +kernel
theorem d_T_offset_0 : decode b_T_offset 0 = .ok (.aload_n 0, 1) := by decide +kernel
theorem d_T_offset_1 : decode b_T_offset 1 = .ok (.getfield 86, 3) := by decide +kernel
theorem d_T_offset_4 : decode b_T_offset 4 = .ok (.aload_n 0, 1) := by decide +kernel
theorem d_T_offset_5 : decode b_T_offset 5 = .ok (.getfield 193, 3) := by decide +kernel
theorem d_T_offset_8 : decode b_T_offset 8 = .ok (.lsub, 1) := by decide +kernel
theorem d_T_offset_9 : decode b_T_offset 9 = .ok (.ldc2_w 202, 3) := by decide +kernel
theorem d_T_offset_12 : decode b_T_offset 12 = .ok (.ldiv, 1) := by decide +kernel
theorem d_T_offset_13 : decode b_T_offset 13 = .ok (.lstore_n 1, 1) := by decide +kernel
theorem d_T_offset_14 : decode b_T_offset 14 = .ok (.aload_n 0, 1) := by decide +kernel
theorem d_T_offset_15 : decode b_T_offset 15 = .ok (.getfield 181, 3) := by decide +kernel
theorem d_T_offset_18 : decode b_T_offset 18 = .ok (.aload_n 0, 1) := by decide +kernel
theorem d_T_offset_19 : decode b_T_offset 19 = .ok (.getfield 178, 3) := by decide +kernel
theorem d_T_offset_22 : decode b_T_offset 22 = .ok (.lsub, 1) := by decide +kernel
theorem d_T_offset_23 : decode b_T_offset 23 = .ok (.lstore_n 3, 1) := by decide +kernel
theorem d_T_offset_24 : decode b_T_offset 24 = .ok (.lload_n 3, 1) := by decide +kernel
theorem d_T_offset_25 : decode b_T_offset 25 = .ok (.lload_n 1, 1) := by decide +kernel
theorem d_T_offset_26 : decode b_T_offset 26 = .ok (.lcmp, 1) := by decide +kernel
theorem d_T_offset_27 : decode b_T_offset 27 = .ok (.ifCond .gt 15, 3) := by decide +kernel
theorem d_T_offset_30 : decode b_T_offset 30 = .ok (.lload_n 3, 1) := by decide +kernel
theorem d_T_offset_31 : decode b_T_offset 31 = .ok (.lneg, 1) := by decide +kernel
theorem d_T_offset_32 : decode b_T_offset 32 = .ok (.lload_n 1, 1) := by decide +kernel
theorem d_T_offset_33 : decode b_T_offset 33 = .ok (.lcmp, 1) := by decide +kernel
theorem d_T_offset_34 : decode b_T_offset 34 = .ok (.ifCond .gt 8, 3) := by decide +kernel
theorem d_T_offset_37 : decode b_T_offset 37 = .ok (.aload_n 0, 1) := by decide +kernel
theorem d_T_offset_38 : decode b_T_offset 38 = .ok (.getfield 181, 3) := by decide +kernel
theorem d_T_offset_41 : decode b_T_offset 41 = .ok (.lreturn, 1) := by decide +kernel
theorem d_T_offset_42 : decode b_T_offset 42 = .ok (.lload_n 3, 1) := by decide +kernel
theorem d_T_offset_43 : decode b_T_offset 43 = .ok (.lconst 0, 1) := by decide +kernel
theorem d_T_offset_44 : decode b_T_offset 44 = .ok (.lcmp, 1) := by decide +kernel
theorem d_T_offset_45 : decode b_T_offset 45 = .ok (.ifCond .le 12, 3) := by decide +kernel
theorem d_T_offset_48 : decode b_T_offset 48 = .ok (.aload_n 0, 1) := by decide +kernel
theorem d_T_offset_49 : decode b_T_offset 49 = .ok (.getfield 178, 3) := by decide +kernel
theorem d_T_offset_52 : decode b_T_offset 52 = .ok (.lload_n 1, 1) := by decide +kernel
theorem d_T_offset_53 : decode b_T_offset 53 = .ok (.ladd, 1) := by decide +kernel
theorem d_T_offset_54 : decode b_T_offset 54 = .ok (.goto 9, 3) := by decide +kernel
theorem d_T_offset_57 : decode b_T_offset 57 = .ok (.aload_n 0, 1) := by decide +kernel
theorem d_T_offset_58 : decode b_T_offset 58 = .ok (.getfield 178, 3) := by decide +kernel
theorem d_T_offset_61 : decode b_T_offset 61 = .ok (.lload_n 1, 1) := by decide +kernel
theorem d_T_offset_62 : decode b_T_offset 62 = .ok (.lsub, 1) := by decide +kernel
theorem d_T_offset_63 : decode b_T_offset 63 = .ok (.lreturn, 1) := by decide +kernel
theorem d_T_keep_0 : decode b_T_keep 0 = .ok (.lconst 0, 1) := by decide +kernel
theorem d_T_keep_1 : decode b_T_keep 1 = .ok (.lstore_n 2, 1) := by decide +kernel
theorem d_T_keep_2 : decode b_T_keep 2 = .ok (.iconst 0, 1) := by decide +kernel
theorem d_T_keep_3 : decode b_T_keep 3 = .ok (.istore 4, 2) := by decide +kernel
theorem d_T_keep_5 : decode b_T_keep 5 = .ok (.bipush 16, 2) := by decide +kernel
theorem d_T_keep_7 : decode b_T_keep 7 = .ok (.istore 5, 2) := by decide +kernel
theorem d_T_keep_9 : decode b_T_keep 9 = .ok (.iconst 0, 1) := by decide +kernel
theorem d_T_keep_10 : decode b_T_keep 10 = .ok (.istore 6, 2) := by decide +kernel
theorem d_T_keep_12 : decode b_T_keep 12 = .ok (.iload 6, 2) := by decide +kernel
theorem d_T_keep_14 : decode b_T_keep 14 = .ok (.aload_n 0, 1) := by decide +kernel
theorem d_T_keep_15 : decode b_T_keep 15 = .ok (.getfield 73, 3) := by decide +kernel
theorem d_T_keep_18 : decode b_T_keep 18 = .ok (.if_icmp .ge 63, 3) := by decide +kernel
theorem d_T_keep_21 : decode b_T_keep 21 = .ok (.aload_n 0, 1) := by decide +kernel
theorem d_T_keep_22 : decode b_T_keep 22 = .ok (.getfield 57, 3) := by decide +kernel
theorem d_T_keep_25 : decode b_T_keep 25 = .ok (.iload 6, 2) := by decide +kernel
theorem d_T_keep_27 : decode b_T_keep 27 = .ok (.baload, 1) := by decide +kernel
theorem d_T_keep_28 : decode b_T_keep 28 = .ok (.ifCond .eq 47, 3) := by decide +kernel
theorem d_T_keep_31 : decode b_T_keep 31 = .ok (.lload_n 2, 1) := by decide +kernel
theorem d_T_keep_32 : decode b_T_keep 32 = .ok (.aload_n 0, 1) := by decide +kernel
theorem d_T_keep_33 : decode b_T_keep 33 = .ok (.iload 6, 2) := by decide +kernel
theorem d_T_keep_35 : decode b_T_keep 35 = .ok (.invokevirtual 146, 3) := by decide +kernel
theorem d_T_keep_38 : decode b_T_keep 38 = .ok (.ladd, 1) := by decide +kernel
theorem d_T_keep_39 : decode b_T_keep 39 = .ok (.lstore_n 2, 1) := by decide +kernel
theorem d_T_keep_40 : decode b_T_keep 40 = .ok (.iload 4, 2) := by decide +kernel
theorem d_T_keep_42 : decode b_T_keep 42 = .ok (.iconst 1, 1) := by decide +kernel
theorem d_T_keep_43 : decode b_T_keep 43 = .ok (.iload 6, 2) := by decide +kernel
theorem d_T_keep_45 : decode b_T_keep 45 = .ok (.ishl, 1) := by decide +kernel
theorem d_T_keep_46 : decode b_T_keep 46 = .ok (.ior, 1) := by decide +kernel
theorem d_T_keep_47 : decode b_T_keep 47 = .ok (.istore 4, 2) := by decide +kernel
theorem d_T_keep_49 : decode b_T_keep 49 = .ok (.aload_n 0, 1) := by decide +kernel
theorem d_T_keep_50 : decode b_T_keep 50 = .ok (.getfield 42, 3) := by decide +kernel
theorem d_T_keep_53 : decode b_T_keep 53 = .ok (.iload 6, 2) := by decide +kernel
theorem d_T_keep_55 : decode b_T_keep 55 = .ok (.iaload, 1) := by decide +kernel
theorem d_T_keep_56 : decode b_T_keep 56 = .ok (.iload 5, 2) := by decide +kernel
theorem d_T_keep_58 : decode b_T_keep 58 = .ok (.if_icmp .ge 13, 3) := by decide +kernel
theorem d_T_keep_61 : decode b_T_keep 61 = .ok (.aload_n 0, 1) := by decide +kernel
theorem d_T_keep_62 : decode b_T_keep 62 = .ok (.getfield 42, 3) := by decide +kernel
theorem d_T_keep_65 : decode b_T_keep 65 = .ok (.iload 6, 2) := by decide +kernel
theorem d_T_keep_67 : decode b_T_keep 67 = .ok (.iaload, 1) := by decide +kernel
theorem d_T_keep_68 : decode b_T_keep 68 = .ok (.goto 5, 3) := by decide +kernel
theorem d_T_keep_71 : decode b_T_keep 71 = .ok (.iload 5, 2) := by decide +kernel
theorem d_T_keep_73 : decode b_T_keep 73 = .ok (.istore 5, 2) := by decide +kernel
theorem d_T_keep_75 : decode b_T_keep 75 = .ok (.iinc 6 1, 3) := by decide +kernel
theorem d_T_keep_78 : decode b_T_keep 78 = .ok (.goto (-66), 3) := by decide +kernel
theorem d_T_keep_81 : decode b_T_keep 81 = .ok (.lload_n 2, 1) := by decide +kernel
theorem d_T_keep_82 : decode b_T_keep 82 = .ok (.iload_n 1, 1) := by decide +kernel
theorem d_T_keep_83 : decode b_T_keep 83 = .ok (.i2l, 1) := by decide +kernel
theorem d_T_keep_84 : decode b_T_keep 84 = .ok (.invokestatic 143, 3) := by decide +kernel
theorem d_T_keep_87 : decode b_T_keep 87 = .ok (.lstore 6, 2) := by decide +kernel
theorem d_T_keep_89 : decode b_T_keep 89 = .ok (.lload 6, 2) := by decide +kernel
theorem d_T_keep_91 : decode b_T_keep 91 = .ok (.aload_n 0, 1) := by decide +kernel
theorem d_T_keep_92 : decode b_T_keep 92 = .ok (.getfield 135, 3) := by decide +kernel
theorem d_T_keep_95 : decode b_T_keep 95 = .ok (.lcmp, 1) := by decide +kernel
theorem d_T_keep_96 : decode b_T_keep 96 = .ok (.ifCond .ge 10, 3) := by decide +kernel
theorem d_T_keep_99 : decode b_T_keep 99 = .ok (.aload_n 0, 1) := by decide +kernel
theorem d_T_keep_100 : decode b_T_keep 100 = .ok (.getfield 135, 3) := by decide +kernel
theorem d_T_keep_103 : decode b_T_keep 103 = .ok (.goto 22, 3) := by decide +kernel
theorem d_T_keep_106 : decode b_T_keep 106 = .ok (.lload 6, 2) := by decide +kernel
theorem d_T_keep_108 : decode b_T_keep 108 = .ok (.aload_n 0, 1) := by decide +kernel
theorem d_T_keep_109 : decode b_T_keep 109 = .ok (.getfield 138, 3) := by decide +kernel
theorem d_T_keep_112 : decode b_T_keep 112 = .ok (.lcmp, 1) := by decide +kernel
theorem d_T_keep_113 : decode b_T_keep 113 = .ok (.ifCond .le 10, 3) := by decide +kernel
theorem d_T_keep_116 : decode b_T_keep 116 = .ok (.aload_n 0, 1) := by decide +kernel
theorem d_T_keep_117 : decode b_T_keep 117 = .ok (.getfield 138, 3) := by decide +kernel
theorem d_T_keep_120 : decode b_T_keep 120 = .ok (.goto 5, 3) := by decide +kernel
theorem d_T_keep_123 : decode b_T_keep 123 = .ok (.lload 6, 2) := by decide +kernel
theorem d_T_keep_125 : decode b_T_keep 125 = .ok (.lstore 6, 2) := by decide +kernel
theorem d_T_keep_127 : decode b_T_keep 127 = .ok (.aload_n 0, 1) := by decide +kernel
theorem d_T_keep_128 : decode b_T_keep 128 = .ok (.aload_n 0, 1) := by decide +kernel
theorem d_T_keep_129 : decode b_T_keep 129 = .ok (.getfield 171, 3) := by decide +kernel
theorem d_T_keep_132 : decode b_T_keep 132 = .ok (.ifCond .eq 10, 3) := by decide +kernel
theorem d_T_keep_135 : decode b_T_keep 135 = .ok (.aload_n 0, 1) := by decide +kernel
theorem d_T_keep_136 : decode b_T_keep 136 = .ok (.invokevirtual 174, 3) := by decide +kernel
theorem d_T_keep_139 : decode b_T_keep 139 = .ok (.goto 5, 3) := by decide +kernel
theorem d_T_keep_142 : decode b_T_keep 142 = .ok (.lload 6, 2) := by decide +kernel
theorem d_T_keep_144 : decode b_T_keep 144 = .ok (.putfield 178, 3) := by decide +kernel
theorem d_T_keep_147 : decode b_T_keep 147 = .ok (.aload_n 0, 1) := by decide +kernel
theorem d_T_keep_148 : decode b_T_keep 148 = .ok (.iconst 1, 1) := by decide +kernel
theorem d_T_keep_149 : decode b_T_keep 149 = .ok (.putfield 171, 3) := by decide +kernel
theorem d_T_keep_152 : decode b_T_keep 152 = .ok (.aload_n 0, 1) := by decide +kernel
theorem d_T_keep_153 : decode b_T_keep 153 = .ok (.lload 6, 2) := by decide +kernel
theorem d_T_keep_155 : decode b_T_keep 155 = .ok (.putfield 181, 3) := by decide +kernel
theorem d_T_keep_158 : decode b_T_keep 158 = .ok (.aload_n 0, 1) := by decide +kernel
theorem d_T_keep_159 : decode b_T_keep 159 = .ok (.aload_n 0, 1) := by decide +kernel
theorem d_T_keep_160 : decode b_T_keep 160 = .ok (.getfield 135, 3) := by decide +kernel
theorem d_T_keep_163 : decode b_T_keep 163 = .ok (.putfield 184, 3) := by decide +kernel
theorem d_T_keep_166 : decode b_T_keep 166 = .ok (.aload_n 0, 1) := by decide +kernel
theorem d_T_keep_167 : decode b_T_keep 167 = .ok (.aload_n 0, 1) := by decide +kernel
theorem d_T_keep_168 : decode b_T_keep 168 = .ok (.getfield 138, 3) := by decide +kernel
theorem d_T_keep_171 : decode b_T_keep 171 = .ok (.putfield 187, 3) := by decide +kernel
theorem d_T_keep_174 : decode b_T_keep 174 = .ok (.aload_n 0, 1) := by decide +kernel
theorem d_T_keep_175 : decode b_T_keep 175 = .ok (.lload 6, 2) := by decide +kernel
theorem d_T_keep_177 : decode b_T_keep 177 = .ok (.aload_n 0, 1) := by decide +kernel
theorem d_T_keep_178 : decode b_T_keep 178 = .ok (.getfield 135, 3) := by decide +kernel
theorem d_T_keep_181 : decode b_T_keep 181 = .ok (.lsub, 1) := by decide +kernel
theorem d_T_keep_182 : decode b_T_keep 182 = .ok (.aload_n 0, 1) := by decide +kernel
theorem d_T_keep_183 : decode b_T_keep 183 = .ok (.getfield 138, 3) := by decide +kernel
theorem d_T_keep_186 : decode b_T_keep 186 = .ok (.lload 6, 2) := by decide +kernel
theorem d_T_keep_188 : decode b_T_keep 188 = .ok (.lsub, 1) := by decide +kernel
theorem d_T_keep_189 : decode b_T_keep 189 = .ok (.lcmp, 1) := by decide +kernel
theorem d_T_keep_190 : decode b_T_keep 190 = .ok (.ifCond .le 13, 3) := by decide +kernel
theorem d_T_keep_193 : decode b_T_keep 193 = .ok (.lload 6, 2) := by decide +kernel
theorem d_T_keep_195 : decode b_T_keep 195 = .ok (.aload_n 0, 1) := by decide +kernel
theorem d_T_keep_196 : decode b_T_keep 196 = .ok (.getfield 135, 3) := by decide +kernel
theorem d_T_keep_199 : decode b_T_keep 199 = .ok (.lsub, 1) := by decide +kernel
theorem d_T_keep_200 : decode b_T_keep 200 = .ok (.goto 10, 3) := by decide +kernel
theorem d_T_keep_203 : decode b_T_keep 203 = .ok (.aload_n 0, 1) := by decide +kernel
theorem d_T_keep_204 : decode b_T_keep 204 = .ok (.getfield 138, 3) := by decide +kernel
theorem d_T_keep_207 : decode b_T_keep 207 = .ok (.lload 6, 2) := by decide +kernel
theorem d_T_keep_209 : decode b_T_keep 209 = .ok (.lsub, 1) := by decide +kernel
end
section
theorem d_T_keep_210 : decode b_T_keep 210 = .ok (.putfield 190, 3) := by decide +kernel
theorem d_T_keep_213 : decode b_T_keep 213 = .ok (.aload_n 0, 1) := by decide +kernel
theorem d_T_keep_214 : decode b_T_keep 214 = .ok (.aload_n 0, 1) := by decide +kernel
theorem d_T_keep_215 : decode b_T_keep 215 = .ok (.getfield 86, 3) := by decide +kernel
theorem d_T_keep_218 : decode b_T_keep 218 = .ok (.putfield 193, 3) := by decide +kernel
theorem d_T_keep_221 : decode b_T_keep 221 = .ok (.aload_n 0, 1) := by decide +kernel
theorem d_T_keep_222 : decode b_T_keep 222 = .ok (.iload 4, 2) := by decide +kernel
theorem d_T_keep_224 : decode b_T_keep 224 = .ok (.putfield 196, 3) := by decide +kernel
theorem d_T_keep_227 : decode b_T_keep 227 = .ok (.aload_n 0, 1) := by decide +kernel
theorem d_T_keep_228 : decode b_T_keep 228 = .ok (.iload 5, 2) := by decide +kernel
theorem d_T_keep_230 : decode b_T_keep 230 = .ok (.putfield 199, 3) := by decide +kernel
theorem d_T_keep_233 : decode b_T_keep 233 = .ok (.return_, 1) := by decide +kernel
theorem d_T_survivors_0 : decode b_T_survivors 0 = .ok (.aload_n 0, 1) := by decide +kernel
theorem d_T_survivors_1 : decode b_T_survivors 1 = .ok (.getfield 196, 3) := by decide +kernel
theorem d_T_survivors_4 : decode b_T_survivors 4 = .ok (.ireturn, 1) := by decide +kernel
theorem d_T_stratum_0 : decode b_T_stratum 0 = .ok (.aload_n 0, 1) := by decide +kernel
theorem d_T_stratum_1 : decode b_T_stratum 1 = .ok (.getfield 171, 3) := by decide +kernel
theorem d_T_stratum_4 : decode b_T_stratum 4 = .ok (.ifCond .eq 12, 3) := by decide +kernel
theorem d_T_stratum_7 : decode b_T_stratum 7 = .ok (.aload_n 0, 1) := by decide +kernel
theorem d_T_stratum_8 : decode b_T_stratum 8 = .ok (.getfield 199, 3) := by decide +kernel
theorem d_T_stratum_11 : decode b_T_stratum 11 = .ok (.iconst 1, 1) := by decide +kernel
theorem d_T_stratum_12 : decode b_T_stratum 12 = .ok (.iadd, 1) := by decide +kernel
theorem d_T_stratum_13 : decode b_T_stratum 13 = .ok (.goto 5, 3) := by decide +kernel
theorem d_T_stratum_16 : decode b_T_stratum 16 = .ok (.bipush 16, 2) := by decide +kernel
theorem d_T_stratum_18 : decode b_T_stratum 18 = .ok (.ireturn, 1) := by decide +kernel
theorem d_T_time_0 : decode b_T_time 0 = .ok (.aload_n 0, 1) := by decide +kernel
theorem d_T_time_1 : decode b_T_time 1 = .ok (.getfield 171, 3) := by decide +kernel
theorem d_T_time_4 : decode b_T_time 4 = .ok (.ifCond .ne 7, 3) := by decide +kernel
theorem d_T_time_7 : decode b_T_time 7 = .ok (.ldc2_w 100, 3) := by decide +kernel
theorem d_T_time_10 : decode b_T_time 10 = .ok (.lreturn, 1) := by decide +kernel
theorem d_T_time_11 : decode b_T_time 11 = .ok (.aload_n 0, 1) := by decide +kernel
theorem d_T_time_12 : decode b_T_time 12 = .ok (.getfield 86, 3) := by decide +kernel
theorem d_T_time_15 : decode b_T_time 15 = .ok (.aload_n 0, 1) := by decide +kernel
theorem d_T_time_16 : decode b_T_time 16 = .ok (.invokevirtual 174, 3) := by decide +kernel
theorem d_T_time_19 : decode b_T_time 19 = .ok (.ladd, 1) := by decide +kernel
theorem d_T_time_20 : decode b_T_time 20 = .ok (.lreturn, 1) := by decide +kernel
theorem d_T_bound_0 : decode b_T_bound 0 = .ok (.aload_n 0, 1) := by decide +kernel
theorem d_T_bound_1 : decode b_T_bound 1 = .ok (.getfield 171, 3) := by decide +kernel
theorem d_T_bound_4 : decode b_T_bound 4 = .ok (.ifCond .ne 7, 3) := by decide +kernel
theorem d_T_bound_7 : decode b_T_bound 7 = .ok (.ldc2_w 100, 3) := by decide +kernel
theorem d_T_bound_10 : decode b_T_bound 10 = .ok (.lreturn, 1) := by decide +kernel
theorem d_T_bound_11 : decode b_T_bound 11 = .ok (.aload_n 0, 1) := by decide +kernel
theorem d_T_bound_12 : decode b_T_bound 12 = .ok (.invokevirtual 174, 3) := by decide +kernel
theorem d_T_bound_15 : decode b_T_bound 15 = .ok (.aload_n 0, 1) := by decide +kernel
theorem d_T_bound_16 : decode b_T_bound 16 = .ok (.getfield 181, 3) := by decide +kernel
theorem d_T_bound_19 : decode b_T_bound 19 = .ok (.lsub, 1) := by decide +kernel
theorem d_T_bound_20 : decode b_T_bound 20 = .ok (.lstore_n 1, 1) := by decide +kernel
theorem d_T_bound_21 : decode b_T_bound 21 = .ok (.aload_n 0, 1) := by decide +kernel
theorem d_T_bound_22 : decode b_T_bound 22 = .ok (.getfield 190, 3) := by decide +kernel
theorem d_T_bound_25 : decode b_T_bound 25 = .ok (.aload_n 0, 1) := by decide +kernel
theorem d_T_bound_26 : decode b_T_bound 26 = .ok (.aload_n 0, 1) := by decide +kernel
theorem d_T_bound_27 : decode b_T_bound 27 = .ok (.getfield 86, 3) := by decide +kernel
theorem d_T_bound_30 : decode b_T_bound 30 = .ok (.aload_n 0, 1) := by decide +kernel
theorem d_T_bound_31 : decode b_T_bound 31 = .ok (.getfield 193, 3) := by decide +kernel
theorem d_T_bound_34 : decode b_T_bound 34 = .ok (.lsub, 1) := by decide +kernel
theorem d_T_bound_35 : decode b_T_bound 35 = .ok (.invokevirtual 123, 3) := by decide +kernel
theorem d_T_bound_38 : decode b_T_bound 38 = .ok (.ladd, 1) := by decide +kernel
theorem d_T_bound_39 : decode b_T_bound 39 = .ok (.lload_n 1, 1) := by decide +kernel
theorem d_T_bound_40 : decode b_T_bound 40 = .ok (.lconst 0, 1) := by decide +kernel
theorem d_T_bound_41 : decode b_T_bound 41 = .ok (.lcmp, 1) := by decide +kernel
theorem d_T_bound_42 : decode b_T_bound 42 = .ok (.ifCond .ge 8, 3) := by decide +kernel
theorem d_T_bound_45 : decode b_T_bound 45 = .ok (.lload_n 1, 1) := by decide +kernel
theorem d_T_bound_46 : decode b_T_bound 46 = .ok (.lneg, 1) := by decide +kernel
theorem d_T_bound_47 : decode b_T_bound 47 = .ok (.goto 4, 3) := by decide +kernel
theorem d_T_bound_50 : decode b_T_bound 50 = .ok (.lload_n 1, 1) := by decide +kernel
theorem d_T_bound_51 : decode b_T_bound 51 = .ok (.ladd, 1) := by decide +kernel
theorem d_T_bound_52 : decode b_T_bound 52 = .ok (.lreturn, 1) := by decide +kernel
theorem d_T_hull_0 : decode b_T_hull 0 = .ok (.aload_n 0, 1) := by decide +kernel
theorem d_T_hull_1 : decode b_T_hull 1 = .ok (.getfield 171, 3) := by decide +kernel
theorem d_T_hull_4 : decode b_T_hull 4 = .ok (.ifCond .ne 9, 3) := by decide +kernel
theorem d_T_hull_7 : decode b_T_hull 7 = .ok (.ldc2_w 100, 3) := by decide +kernel
theorem d_T_hull_10 : decode b_T_hull 10 = .ok (.goto 18, 3) := by decide +kernel
theorem d_T_hull_13 : decode b_T_hull 13 = .ok (.iload_n 1, 1) := by decide +kernel
theorem d_T_hull_14 : decode b_T_hull 14 = .ok (.ifCond .eq 10, 3) := by decide +kernel
theorem d_T_hull_17 : decode b_T_hull 17 = .ok (.aload_n 0, 1) := by decide +kernel
theorem d_T_hull_18 : decode b_T_hull 18 = .ok (.getfield 187, 3) := by decide +kernel
theorem d_T_hull_21 : decode b_T_hull 21 = .ok (.goto 7, 3) := by decide +kernel
theorem d_T_hull_24 : decode b_T_hull 24 = .ok (.aload_n 0, 1) := by decide +kernel
theorem d_T_hull_25 : decode b_T_hull 25 = .ok (.getfield 184, 3) := by decide +kernel
theorem d_T_hull_28 : decode b_T_hull 28 = .ok (.lreturn, 1) := by decide +kernel
theorem d_T_isLease_0 : decode b_T_isLease 0 = .ok (.iload_n 0, 1) := by decide +kernel
theorem d_T_isLease_1 : decode b_T_isLease 1 = .ok (.ifCond .lt 12, 3) := by decide +kernel
theorem d_T_isLease_4 : decode b_T_isLease 4 = .ok (.iload_n 0, 1) := by decide +kernel
theorem d_T_isLease_5 : decode b_T_isLease 5 = .ok (.iconst 3, 1) := by decide +kernel
theorem d_T_isLease_6 : decode b_T_isLease 6 = .ok (.if_icmp .gt 7, 3) := by decide +kernel
theorem d_T_isLease_9 : decode b_T_isLease 9 = .ok (.iconst 1, 1) := by decide +kernel
theorem d_T_isLease_10 : decode b_T_isLease 10 = .ok (.goto 4, 3) := by decide +kernel
theorem d_T_isLease_13 : decode b_T_isLease 13 = .ok (.iconst 0, 1) := by decide +kernel
theorem d_T_isLease_14 : decode b_T_isLease 14 = .ok (.ireturn, 1) := by decide +kernel
theorem d_T_grant_0 : decode b_T_grant 0 = .ok (.iload_n 1, 1) := by decide +kernel
theorem d_T_grant_1 : decode b_T_grant 1 = .ok (.invokestatic 204, 3) := by decide +kernel
theorem d_T_grant_4 : decode b_T_grant 4 = .ok (.ifCond .eq 25, 3) := by decide +kernel
theorem d_T_grant_7 : decode b_T_grant 7 = .ok (.iload_n 2, 1) := by decide +kernel
theorem d_T_grant_8 : decode b_T_grant 8 = .ok (.ifCond .lt 21, 3) := by decide +kernel
theorem d_T_grant_11 : decode b_T_grant 11 = .ok (.iload_n 3, 1) := by decide +kernel
theorem d_T_grant_12 : decode b_T_grant 12 = .ok (.iconst 1, 1) := by decide +kernel
theorem d_T_grant_13 : decode b_T_grant 13 = .ok (.if_icmp .lt 16, 3) := by decide +kernel
theorem d_T_grant_16 : decode b_T_grant 16 = .ok (.iload_n 3, 1) := by decide +kernel
theorem d_T_grant_17 : decode b_T_grant 17 = .ok (.ldc 85, 2) := by decide +kernel
theorem d_T_grant_19 : decode b_T_grant 19 = .ok (.if_icmp .gt 10, 3) := by decide +kernel
theorem d_T_grant_22 : decode b_T_grant 22 = .ok (.aload_n 0, 1) := by decide +kernel
theorem d_T_grant_23 : decode b_T_grant 23 = .ok (.getfield 171, 3) := by decide +kernel
theorem d_T_grant_26 : decode b_T_grant 26 = .ok (.ifCond .ne 7, 3) := by decide +kernel
theorem d_T_grant_29 : decode b_T_grant 29 = .ok (.ldc2_w 100, 3) := by decide +kernel
theorem d_T_grant_32 : decode b_T_grant 32 = .ok (.lreturn, 1) := by decide +kernel
theorem d_T_grant_33 : decode b_T_grant 33 = .ok (.aload_n 0, 1) := by decide +kernel
theorem d_T_grant_34 : decode b_T_grant 34 = .ok (.invokevirtual 207, 3) := by decide +kernel
theorem d_T_grant_37 : decode b_T_grant 37 = .ok (.lstore 4, 2) := by decide +kernel
theorem d_T_grant_39 : decode b_T_grant 39 = .ok (.aload_n 0, 1) := by decide +kernel
theorem d_T_grant_40 : decode b_T_grant 40 = .ok (.invokevirtual 210, 3) := by decide +kernel
theorem d_T_grant_43 : decode b_T_grant 43 = .ok (.lstore 6, 2) := by decide +kernel
theorem d_T_grant_45 : decode b_T_grant 45 = .ok (.lload 4, 2) := by decide +kernel
theorem d_T_grant_47 : decode b_T_grant 47 = .ok (.iload_n 3, 1) := by decide +kernel
theorem d_T_grant_48 : decode b_T_grant 48 = .ok (.i2l, 1) := by decide +kernel
theorem d_T_grant_49 : decode b_T_grant 49 = .ok (.ladd, 1) := by decide +kernel
theorem d_T_grant_50 : decode b_T_grant 50 = .ok (.lstore 8, 2) := by decide +kernel
theorem d_T_grant_52 : decode b_T_grant 52 = .ok (.aload_n 0, 1) := by decide +kernel
theorem d_T_grant_53 : decode b_T_grant 53 = .ok (.getfield 60, 3) := by decide +kernel
theorem d_T_grant_56 : decode b_T_grant 56 = .ok (.iload_n 1, 1) := by decide +kernel
theorem d_T_grant_57 : decode b_T_grant 57 = .ok (.baload, 1) := by decide +kernel
theorem d_T_grant_58 : decode b_T_grant 58 = .ok (.ifCond .eq 71, 3) := by decide +kernel
theorem d_T_grant_61 : decode b_T_grant 61 = .ok (.aload_n 0, 1) := by decide +kernel
theorem d_T_grant_62 : decode b_T_grant 62 = .ok (.getfield 63, 3) := by decide +kernel
theorem d_T_grant_65 : decode b_T_grant 65 = .ok (.iload_n 1, 1) := by decide +kernel
theorem d_T_grant_66 : decode b_T_grant 66 = .ok (.iaload, 1) := by decide +kernel
theorem d_T_grant_67 : decode b_T_grant 67 = .ok (.iload_n 2, 1) := by decide +kernel
theorem d_T_grant_68 : decode b_T_grant 68 = .ok (.if_icmp .eq 7, 3) := by decide +kernel
theorem d_T_grant_71 : decode b_T_grant 71 = .ok (.iconst 1, 1) := by decide +kernel
theorem d_T_grant_72 : decode b_T_grant 72 = .ok (.goto 4, 3) := by decide +kernel
theorem d_T_grant_75 : decode b_T_grant 75 = .ok (.iconst 0, 1) := by decide +kernel
theorem d_T_grant_76 : decode b_T_grant 76 = .ok (.istore 10, 2) := by decide +kernel
theorem d_T_grant_78 : decode b_T_grant 78 = .ok (.lload 4, 2) := by decide +kernel
theorem d_T_grant_80 : decode b_T_grant 80 = .ok (.lload 6, 2) := by decide +kernel
theorem d_T_grant_82 : decode b_T_grant 82 = .ok (.lsub, 1) := by decide +kernel
theorem d_T_grant_83 : decode b_T_grant 83 = .ok (.aload_n 0, 1) := by decide +kernel
theorem d_T_grant_84 : decode b_T_grant 84 = .ok (.getfield 66, 3) := by decide +kernel
theorem d_T_grant_87 : decode b_T_grant 87 = .ok (.iload_n 1, 1) := by decide +kernel
theorem d_T_grant_88 : decode b_T_grant 88 = .ok (.laload, 1) := by decide +kernel
theorem d_T_grant_89 : decode b_T_grant 89 = .ok (.lcmp, 1) := by decide +kernel
theorem d_T_grant_90 : decode b_T_grant 90 = .ok (.ifCond .lt 7, 3) := by decide +kernel
theorem d_T_grant_93 : decode b_T_grant 93 = .ok (.iconst 1, 1) := by decide +kernel
theorem d_T_grant_94 : decode b_T_grant 94 = .ok (.goto 4, 3) := by decide +kernel
theorem d_T_grant_97 : decode b_T_grant 97 = .ok (.iconst 0, 1) := by decide +kernel
theorem d_T_grant_98 : decode b_T_grant 98 = .ok (.istore 11, 2) := by decide +kernel
theorem d_T_grant_100 : decode b_T_grant 100 = .ok (.iload 10, 2) := by decide +kernel
theorem d_T_grant_102 : decode b_T_grant 102 = .ok (.ifCond .eq 11, 3) := by decide +kernel
theorem d_T_grant_105 : decode b_T_grant 105 = .ok (.iload 11, 2) := by decide +kernel
theorem d_T_grant_107 : decode b_T_grant 107 = .ok (.ifCond .ne 22, 3) := by decide +kernel
theorem d_T_grant_110 : decode b_T_grant 110 = .ok (.goto 15, 3) := by decide +kernel
theorem d_T_grant_113 : decode b_T_grant 113 = .ok (.lload 8, 2) := by decide +kernel
theorem d_T_grant_115 : decode b_T_grant 115 = .ok (.aload_n 0, 1) := by decide +kernel
theorem d_T_grant_116 : decode b_T_grant 116 = .ok (.getfield 66, 3) := by decide +kernel
theorem d_T_grant_119 : decode b_T_grant 119 = .ok (.iload_n 1, 1) := by decide +kernel
theorem d_T_grant_120 : decode b_T_grant 120 = .ok (.laload, 1) := by decide +kernel
theorem d_T_grant_121 : decode b_T_grant 121 = .ok (.lcmp, 1) := by decide +kernel
theorem d_T_grant_122 : decode b_T_grant 122 = .ok (.ifCond .ge 7, 3) := by decide +kernel
theorem d_T_grant_125 : decode b_T_grant 125 = .ok (.ldc2_w 100, 3) := by decide +kernel
theorem d_T_grant_128 : decode b_T_grant 128 = .ok (.lreturn, 1) := by decide +kernel
theorem d_T_grant_129 : decode b_T_grant 129 = .ok (.aload_n 0, 1) := by decide +kernel
theorem d_T_grant_130 : decode b_T_grant 130 = .ok (.getfield 60, 3) := by decide +kernel
end
section
theorem d_T_grant_133 : decode b_T_grant 133 = .ok (.iload_n 1, 1) := by decide +kernel
theorem d_T_grant_134 : decode b_T_grant 134 = .ok (.iconst 1, 1) := by decide +kernel
theorem d_T_grant_135 : decode b_T_grant 135 = .ok (.bastore, 1) := by decide +kernel
theorem d_T_grant_136 : decode b_T_grant 136 = .ok (.aload_n 0, 1) := by decide +kernel
theorem d_T_grant_137 : decode b_T_grant 137 = .ok (.getfield 63, 3) := by decide +kernel
theorem d_T_grant_140 : decode b_T_grant 140 = .ok (.iload_n 1, 1) := by decide +kernel
theorem d_T_grant_141 : decode b_T_grant 141 = .ok (.iload_n 2, 1) := by decide +kernel
theorem d_T_grant_142 : decode b_T_grant 142 = .ok (.iastore, 1) := by decide +kernel
theorem d_T_grant_143 : decode b_T_grant 143 = .ok (.aload_n 0, 1) := by decide +kernel
theorem d_T_grant_144 : decode b_T_grant 144 = .ok (.getfield 66, 3) := by decide +kernel
theorem d_T_grant_147 : decode b_T_grant 147 = .ok (.iload_n 1, 1) := by decide +kernel
theorem d_T_grant_148 : decode b_T_grant 148 = .ok (.lload 8, 2) := by decide +kernel
theorem d_T_grant_150 : decode b_T_grant 150 = .ok (.lastore, 1) := by decide +kernel
theorem d_T_grant_151 : decode b_T_grant 151 = .ok (.lload 8, 2) := by decide +kernel
theorem d_T_grant_153 : decode b_T_grant 153 = .ok (.lreturn, 1) := by decide +kernel
theorem d_T_holds_0 : decode b_T_holds 0 = .ok (.iload_n 1, 1) := by decide +kernel
theorem d_T_holds_1 : decode b_T_holds 1 = .ok (.invokestatic 204, 3) := by decide +kernel
theorem d_T_holds_4 : decode b_T_holds 4 = .ok (.ifCond .eq 22, 3) := by decide +kernel
theorem d_T_holds_7 : decode b_T_holds 7 = .ok (.aload_n 0, 1) := by decide +kernel
theorem d_T_holds_8 : decode b_T_holds 8 = .ok (.getfield 60, 3) := by decide +kernel
theorem d_T_holds_11 : decode b_T_holds 11 = .ok (.iload_n 1, 1) := by decide +kernel
theorem d_T_holds_12 : decode b_T_holds 12 = .ok (.baload, 1) := by decide +kernel
theorem d_T_holds_13 : decode b_T_holds 13 = .ok (.ifCond .eq 13, 3) := by decide +kernel
theorem d_T_holds_16 : decode b_T_holds 16 = .ok (.aload_n 0, 1) := by decide +kernel
theorem d_T_holds_17 : decode b_T_holds 17 = .ok (.getfield 63, 3) := by decide +kernel
theorem d_T_holds_20 : decode b_T_holds 20 = .ok (.iload_n 1, 1) := by decide +kernel
theorem d_T_holds_21 : decode b_T_holds 21 = .ok (.iaload, 1) := by decide +kernel
theorem d_T_holds_22 : decode b_T_holds 22 = .ok (.iload_n 2, 1) := by decide +kernel
theorem d_T_holds_23 : decode b_T_holds 23 = .ok (.if_icmp .eq 5, 3) := by decide +kernel
theorem d_T_holds_26 : decode b_T_holds 26 = .ok (.iconst 0, 1) := by decide +kernel
theorem d_T_holds_27 : decode b_T_holds 27 = .ok (.ireturn, 1) := by decide +kernel
theorem d_T_holds_28 : decode b_T_holds 28 = .ok (.lload 5, 2) := by decide +kernel
theorem d_T_holds_30 : decode b_T_holds 30 = .ok (.lconst 0, 1) := by decide +kernel
theorem d_T_holds_31 : decode b_T_holds 31 = .ok (.ldc2_w 109, 3) := by decide +kernel
theorem d_T_holds_34 : decode b_T_holds 34 = .ok (.invokestatic 111, 3) := by decide +kernel
theorem d_T_holds_37 : decode b_T_holds 37 = .ok (.ifCond .eq 16, 3) := by decide +kernel
theorem d_T_holds_40 : decode b_T_holds 40 = .ok (.lload_n 3, 1) := by decide +kernel
theorem d_T_holds_41 : decode b_T_holds 41 = .ok (.ldc2_w 213, 3) := by decide +kernel
theorem d_T_holds_44 : decode b_T_holds 44 = .ok (.ldc2_w 215, 3) := by decide +kernel
theorem d_T_holds_47 : decode b_T_holds 47 = .ok (.invokestatic 111, 3) := by decide +kernel
theorem d_T_holds_50 : decode b_T_holds 50 = .ok (.ifCond .ne 5, 3) := by decide +kernel
theorem d_T_holds_53 : decode b_T_holds 53 = .ok (.iconst 0, 1) := by decide +kernel
theorem d_T_holds_54 : decode b_T_holds 54 = .ok (.ireturn, 1) := by decide +kernel
theorem d_T_holds_55 : decode b_T_holds 55 = .ok (.lload_n 3, 1) := by decide +kernel
theorem d_T_holds_56 : decode b_T_holds 56 = .ok (.lload 5, 2) := by decide +kernel
theorem d_T_holds_58 : decode b_T_holds 58 = .ok (.ladd, 1) := by decide +kernel
theorem d_T_holds_59 : decode b_T_holds 59 = .ok (.aload_n 0, 1) := by decide +kernel
theorem d_T_holds_60 : decode b_T_holds 60 = .ok (.getfield 66, 3) := by decide +kernel
theorem d_T_holds_63 : decode b_T_holds 63 = .ok (.iload_n 1, 1) := by decide +kernel
theorem d_T_holds_64 : decode b_T_holds 64 = .ok (.laload, 1) := by decide +kernel
theorem d_T_holds_65 : decode b_T_holds 65 = .ok (.lcmp, 1) := by decide +kernel
theorem d_T_holds_66 : decode b_T_holds 66 = .ok (.ifCond .ge 7, 3) := by decide +kernel
theorem d_T_holds_69 : decode b_T_holds 69 = .ok (.iconst 1, 1) := by decide +kernel
theorem d_T_holds_70 : decode b_T_holds 70 = .ok (.goto 4, 3) := by decide +kernel
theorem d_T_holds_73 : decode b_T_holds 73 = .ok (.iconst 0, 1) := by decide +kernel
theorem d_T_holds_74 : decode b_T_holds 74 = .ok (.ireturn, 1) := by decide +kernel
theorem d_T_expiry_0 : decode b_T_expiry 0 = .ok (.iload_n 1, 1) := by decide +kernel
theorem d_T_expiry_1 : decode b_T_expiry 1 = .ok (.invokestatic 204, 3) := by decide +kernel
theorem d_T_expiry_4 : decode b_T_expiry 4 = .ok (.ifCond .eq 21, 3) := by decide +kernel
theorem d_T_expiry_7 : decode b_T_expiry 7 = .ok (.aload_n 0, 1) := by decide +kernel
theorem d_T_expiry_8 : decode b_T_expiry 8 = .ok (.getfield 60, 3) := by decide +kernel
theorem d_T_expiry_11 : decode b_T_expiry 11 = .ok (.iload_n 1, 1) := by decide +kernel
theorem d_T_expiry_12 : decode b_T_expiry 12 = .ok (.baload, 1) := by decide +kernel
theorem d_T_expiry_13 : decode b_T_expiry 13 = .ok (.ifCond .eq 12, 3) := by decide +kernel
theorem d_T_expiry_16 : decode b_T_expiry 16 = .ok (.aload_n 0, 1) := by decide +kernel
theorem d_T_expiry_17 : decode b_T_expiry 17 = .ok (.getfield 66, 3) := by decide +kernel
theorem d_T_expiry_20 : decode b_T_expiry 20 = .ok (.iload_n 1, 1) := by decide +kernel
theorem d_T_expiry_21 : decode b_T_expiry 21 = .ok (.laload, 1) := by decide +kernel
theorem d_T_expiry_22 : decode b_T_expiry 22 = .ok (.goto 6, 3) := by decide +kernel
theorem d_T_expiry_25 : decode b_T_expiry 25 = .ok (.ldc2_w 100, 3) := by decide +kernel
theorem d_T_expiry_28 : decode b_T_expiry 28 = .ok (.lreturn, 1) := by decide +kernel
theorem d_T_holder_0 : decode b_T_holder 0 = .ok (.iload_n 1, 1) := by decide +kernel
theorem d_T_holder_1 : decode b_T_holder 1 = .ok (.invokestatic 204, 3) := by decide +kernel
theorem d_T_holder_4 : decode b_T_holder 4 = .ok (.ifCond .eq 21, 3) := by decide +kernel
theorem d_T_holder_7 : decode b_T_holder 7 = .ok (.aload_n 0, 1) := by decide +kernel
theorem d_T_holder_8 : decode b_T_holder 8 = .ok (.getfield 60, 3) := by decide +kernel
theorem d_T_holder_11 : decode b_T_holder 11 = .ok (.iload_n 1, 1) := by decide +kernel
theorem d_T_holder_12 : decode b_T_holder 12 = .ok (.baload, 1) := by decide +kernel
theorem d_T_holder_13 : decode b_T_holder 13 = .ok (.ifCond .eq 12, 3) := by decide +kernel
theorem d_T_holder_16 : decode b_T_holder 16 = .ok (.aload_n 0, 1) := by decide +kernel
theorem d_T_holder_17 : decode b_T_holder 17 = .ok (.getfield 63, 3) := by decide +kernel
theorem d_T_holder_20 : decode b_T_holder 20 = .ok (.iload_n 1, 1) := by decide +kernel
theorem d_T_holder_21 : decode b_T_holder 21 = .ok (.iaload, 1) := by decide +kernel
theorem d_T_holder_22 : decode b_T_holder 22 = .ok (.goto 4, 3) := by decide +kernel
theorem d_T_holder_25 : decode b_T_holder 25 = .ok (.iconst (-1), 1) := by decide +kernel
theorem d_T_holder_26 : decode b_T_holder 26 = .ok (.ireturn, 1) := by decide +kernel
theorem d_T_update_0 : decode b_T_update 0 = .ok (.iconst 0, 1) := by decide +kernel
theorem d_T_update_1 : decode b_T_update 1 = .ok (.istore_n 1, 1) := by decide +kernel
theorem d_T_update_2 : decode b_T_update 2 = .ok (.iload_n 1, 1) := by decide +kernel
theorem d_T_update_3 : decode b_T_update 3 = .ok (.aload_n 0, 1) := by decide +kernel
theorem d_T_update_4 : decode b_T_update 4 = .ok (.getfield 73, 3) := by decide +kernel
theorem d_T_update_7 : decode b_T_update 7 = .ok (.if_icmp .ge 34, 3) := by decide +kernel
theorem d_T_update_10 : decode b_T_update 10 = .ok (.aload_n 0, 1) := by decide +kernel
theorem d_T_update_11 : decode b_T_update 11 = .ok (.getfield 57, 3) := by decide +kernel
theorem d_T_update_14 : decode b_T_update 14 = .ok (.iload_n 1, 1) := by decide +kernel
theorem d_T_update_15 : decode b_T_update 15 = .ok (.aload_n 0, 1) := by decide +kernel
theorem d_T_update_16 : decode b_T_update 16 = .ok (.iload_n 1, 1) := by decide +kernel
theorem d_T_update_17 : decode b_T_update 17 = .ok (.invokevirtual 155, 3) := by decide +kernel
theorem d_T_update_20 : decode b_T_update 20 = .ok (.bastore, 1) := by decide +kernel
theorem d_T_update_21 : decode b_T_update 21 = .ok (.aload_n 0, 1) := by decide +kernel
theorem d_T_update_22 : decode b_T_update 22 = .ok (.getfield 57, 3) := by decide +kernel
theorem d_T_update_25 : decode b_T_update 25 = .ok (.iload_n 1, 1) := by decide +kernel
theorem d_T_update_26 : decode b_T_update 26 = .ok (.baload, 1) := by decide +kernel
theorem d_T_update_27 : decode b_T_update 27 = .ok (.ifCond .eq 8, 3) := by decide +kernel
theorem d_T_update_30 : decode b_T_update 30 = .ok (.aload_n 0, 1) := by decide +kernel
theorem d_T_update_31 : decode b_T_update 31 = .ok (.iload_n 1, 1) := by decide +kernel
theorem d_T_update_32 : decode b_T_update 32 = .ok (.invokevirtual 127, 3) := by decide +kernel
theorem d_T_update_35 : decode b_T_update 35 = .ok (.iinc 1 1, 3) := by decide +kernel
theorem d_T_update_38 : decode b_T_update 38 = .ok (.goto (-36), 3) := by decide +kernel
theorem d_T_update_41 : decode b_T_update 41 = .ok (.aload_n 0, 1) := by decide +kernel
theorem d_T_update_42 : decode b_T_update 42 = .ok (.invokevirtual 158, 3) := by decide +kernel
theorem d_T_update_45 : decode b_T_update 45 = .ok (.istore_n 1, 1) := by decide +kernel
theorem d_T_update_46 : decode b_T_update 46 = .ok (.iload_n 1, 1) := by decide +kernel
theorem d_T_update_47 : decode b_T_update 47 = .ok (.ifCond .ne 5, 3) := by decide +kernel
theorem d_T_update_50 : decode b_T_update 50 = .ok (.iconst 0, 1) := by decide +kernel
theorem d_T_update_51 : decode b_T_update 51 = .ok (.ireturn, 1) := by decide +kernel
theorem d_T_update_52 : decode b_T_update 52 = .ok (.iconst 0, 1) := by decide +kernel
theorem d_T_update_53 : decode b_T_update 53 = .ok (.istore_n 2, 1) := by decide +kernel
theorem d_T_update_54 : decode b_T_update 54 = .ok (.iconst 0, 1) := by decide +kernel
theorem d_T_update_55 : decode b_T_update 55 = .ok (.istore_n 3, 1) := by decide +kernel
theorem d_T_update_56 : decode b_T_update 56 = .ok (.iconst 2, 1) := by decide +kernel
theorem d_T_update_57 : decode b_T_update 57 = .ok (.iload_n 3, 1) := by decide +kernel
theorem d_T_update_58 : decode b_T_update 58 = .ok (.imul, 1) := by decide +kernel
theorem d_T_update_59 : decode b_T_update 59 = .ok (.iload_n 1, 1) := by decide +kernel
theorem d_T_update_60 : decode b_T_update 60 = .ok (.if_icmp .ge 21, 3) := by decide +kernel
theorem d_T_update_63 : decode b_T_update 63 = .ok (.iload_n 2, 1) := by decide +kernel
theorem d_T_update_64 : decode b_T_update 64 = .ok (.ifCond .ne 17, 3) := by decide +kernel
theorem d_T_update_67 : decode b_T_update 67 = .ok (.aload_n 0, 1) := by decide +kernel
theorem d_T_update_68 : decode b_T_update 68 = .ok (.iload_n 1, 1) := by decide +kernel
theorem d_T_update_69 : decode b_T_update 69 = .ok (.iload_n 3, 1) := by decide +kernel
theorem d_T_update_70 : decode b_T_update 70 = .ok (.isub, 1) := by decide +kernel
theorem d_T_update_71 : decode b_T_update 71 = .ok (.invokevirtual 162, 3) := by decide +kernel
theorem d_T_update_74 : decode b_T_update 74 = .ok (.istore_n 2, 1) := by decide +kernel
theorem d_T_update_75 : decode b_T_update 75 = .ok (.iinc 3 1, 3) := by decide +kernel
theorem d_T_update_78 : decode b_T_update 78 = .ok (.goto (-22), 3) := by decide +kernel
theorem d_T_update_81 : decode b_T_update 81 = .ok (.iload_n 2, 1) := by decide +kernel
theorem d_T_update_82 : decode b_T_update 82 = .ok (.ifCond .ne 5, 3) := by decide +kernel
theorem d_T_update_85 : decode b_T_update 85 = .ok (.iconst (-1), 1) := by decide +kernel
theorem d_T_update_86 : decode b_T_update 86 = .ok (.ireturn, 1) := by decide +kernel
theorem d_T_update_87 : decode b_T_update 87 = .ok (.iconst 0, 1) := by decide +kernel
theorem d_T_update_88 : decode b_T_update 88 = .ok (.istore_n 3, 1) := by decide +kernel
theorem d_T_update_89 : decode b_T_update 89 = .ok (.iload_n 3, 1) := by decide +kernel
theorem d_T_update_90 : decode b_T_update 90 = .ok (.aload_n 0, 1) := by decide +kernel
theorem d_T_update_91 : decode b_T_update 91 = .ok (.getfield 73, 3) := by decide +kernel
theorem d_T_update_94 : decode b_T_update 94 = .ok (.if_icmp .ge 57, 3) := by decide +kernel
theorem d_T_update_97 : decode b_T_update 97 = .ok (.aload_n 0, 1) := by decide +kernel
theorem d_T_update_98 : decode b_T_update 98 = .ok (.getfield 57, 3) := by decide +kernel
theorem d_T_update_101 : decode b_T_update 101 = .ok (.iload_n 3, 1) := by decide +kernel
theorem d_T_update_102 : decode b_T_update 102 = .ok (.aload_n 0, 1) := by decide +kernel
theorem d_T_update_103 : decode b_T_update 103 = .ok (.getfield 57, 3) := by decide +kernel
theorem d_T_update_106 : decode b_T_update 106 = .ok (.iload_n 3, 1) := by decide +kernel
theorem d_T_update_107 : decode b_T_update 107 = .ok (.baload, 1) := by decide +kernel
theorem d_T_update_108 : decode b_T_update 108 = .ok (.ifCond .eq 35, 3) := by decide +kernel
theorem d_T_update_111 : decode b_T_update 111 = .ok (.aload_n 0, 1) := by decide +kernel
theorem d_T_update_112 : decode b_T_update 112 = .ok (.getfield 51, 3) := by decide +kernel
theorem d_T_update_115 : decode b_T_update 115 = .ok (.iload_n 3, 1) := by decide +kernel
theorem d_T_update_116 : decode b_T_update 116 = .ok (.laload, 1) := by decide +kernel
theorem d_T_update_117 : decode b_T_update 117 = .ok (.aload_n 0, 1) := by decide +kernel
theorem d_T_update_118 : decode b_T_update 118 = .ok (.getfield 138, 3) := by decide +kernel
theorem d_T_update_121 : decode b_T_update 121 = .ok (.lcmp, 1) := by decide +kernel
end
section
theorem d_T_update_122 : decode b_T_update 122 = .ok (.ifCond .gt 21, 3) := by decide +kernel
theorem d_T_update_125 : decode b_T_update 125 = .ok (.aload_n 0, 1) := by decide +kernel
theorem d_T_update_126 : decode b_T_update 126 = .ok (.getfield 54, 3) := by decide +kernel
theorem d_T_update_129 : decode b_T_update 129 = .ok (.iload_n 3, 1) := by decide +kernel
theorem d_T_update_130 : decode b_T_update 130 = .ok (.laload, 1) := by decide +kernel
theorem d_T_update_131 : decode b_T_update 131 = .ok (.aload_n 0, 1) := by decide +kernel
theorem d_T_update_132 : decode b_T_update 132 = .ok (.getfield 135, 3) := by decide +kernel
theorem d_T_update_135 : decode b_T_update 135 = .ok (.lcmp, 1) := by decide +kernel
theorem d_T_update_136 : decode b_T_update 136 = .ok (.ifCond .lt 7, 3) := by decide +kernel
theorem d_T_update_139 : decode b_T_update 139 = .ok (.iconst 1, 1) := by decide +kernel
theorem d_T_update_140 : decode b_T_update 140 = .ok (.goto 4, 3) := by decide +kernel
theorem d_T_update_143 : decode b_T_update 143 = .ok (.iconst 0, 1) := by decide +kernel
theorem d_T_update_144 : decode b_T_update 144 = .ok (.bastore, 1) := by decide +kernel
theorem d_T_update_145 : decode b_T_update 145 = .ok (.iinc 3 1, 3) := by decide +kernel
theorem d_T_update_148 : decode b_T_update 148 = .ok (.goto (-59), 3) := by decide +kernel
theorem d_T_update_151 : decode b_T_update 151 = .ok (.aload_n 0, 1) := by decide +kernel
theorem d_T_update_152 : decode b_T_update 152 = .ok (.invokevirtual 158, 3) := by decide +kernel
theorem d_T_update_155 : decode b_T_update 155 = .ok (.istore_n 3, 1) := by decide +kernel
theorem d_T_update_156 : decode b_T_update 156 = .ok (.iconst 0, 1) := by decide +kernel
theorem d_T_update_157 : decode b_T_update 157 = .ok (.istore 4, 2) := by decide +kernel
theorem d_T_update_159 : decode b_T_update 159 = .ok (.iload 4, 2) := by decide +kernel
theorem d_T_update_161 : decode b_T_update 161 = .ok (.bipush 6, 2) := by decide +kernel
theorem d_T_update_163 : decode b_T_update 163 = .ok (.if_icmp .ge 23, 3) := by decide +kernel
theorem d_T_update_166 : decode b_T_update 166 = .ok (.iload_n 3, 1) := by decide +kernel
theorem d_T_update_167 : decode b_T_update 167 = .ok (.iconst 3, 1) := by decide +kernel
theorem d_T_update_168 : decode b_T_update 168 = .ok (.if_icmp .le 18, 3) := by decide +kernel
theorem d_T_update_171 : decode b_T_update 171 = .ok (.aload_n 0, 1) := by decide +kernel
theorem d_T_update_172 : decode b_T_update 172 = .ok (.invokevirtual 165, 3) := by decide +kernel
theorem d_T_update_175 : decode b_T_update 175 = .ok (.aload_n 0, 1) := by decide +kernel
theorem d_T_update_176 : decode b_T_update 176 = .ok (.invokevirtual 158, 3) := by decide +kernel
theorem d_T_update_179 : decode b_T_update 179 = .ok (.istore_n 3, 1) := by decide +kernel
theorem d_T_update_180 : decode b_T_update 180 = .ok (.iinc 4 1, 3) := by decide +kernel
theorem d_T_update_183 : decode b_T_update 183 = .ok (.goto (-24), 3) := by decide +kernel
theorem d_T_update_186 : decode b_T_update 186 = .ok (.aload_n 0, 1) := by decide +kernel
theorem d_T_update_187 : decode b_T_update 187 = .ok (.iload_n 3, 1) := by decide +kernel
theorem d_T_update_188 : decode b_T_update 188 = .ok (.invokevirtual 168, 3) := by decide +kernel
theorem d_T_update_191 : decode b_T_update 191 = .ok (.iload_n 3, 1) := by decide +kernel
theorem d_T_update_192 : decode b_T_update 192 = .ok (.ireturn, 1) := by decide +kernel
theorem d_T_init_0 : decode b_T_init 0 = .ok (.aload_n 0, 1) := by decide +kernel
theorem d_T_init_1 : decode b_T_init 1 = .ok (.invokespecial 1, 3) := by decide +kernel
theorem d_T_init_4 : decode b_T_init 4 = .ok (.aload_n 0, 1) := by decide +kernel
theorem d_T_init_5 : decode b_T_init 5 = .ok (.bipush 6, 2) := by decide +kernel
theorem d_T_init_7 : decode b_T_init 7 = .ok (.newarray .long, 2) := by decide +kernel
theorem d_T_init_9 : decode b_T_init 9 = .ok (.putfield 7, 3) := by decide +kernel
theorem d_T_init_12 : decode b_T_init 12 = .ok (.aload_n 0, 1) := by decide +kernel
theorem d_T_init_13 : decode b_T_init 13 = .ok (.bipush 6, 2) := by decide +kernel
theorem d_T_init_15 : decode b_T_init 15 = .ok (.newarray .boolean, 2) := by decide +kernel
theorem d_T_init_17 : decode b_T_init 17 = .ok (.putfield 13, 3) := by decide +kernel
theorem d_T_init_20 : decode b_T_init 20 = .ok (.aload_n 0, 1) := by decide +kernel
theorem d_T_init_21 : decode b_T_init 21 = .ok (.bipush 6, 2) := by decide +kernel
theorem d_T_init_23 : decode b_T_init 23 = .ok (.newarray .long, 2) := by decide +kernel
theorem d_T_init_25 : decode b_T_init 25 = .ok (.putfield 17, 3) := by decide +kernel
theorem d_T_init_28 : decode b_T_init 28 = .ok (.aload_n 0, 1) := by decide +kernel
theorem d_T_init_29 : decode b_T_init 29 = .ok (.bipush 6, 2) := by decide +kernel
theorem d_T_init_31 : decode b_T_init 31 = .ok (.newarray .long, 2) := by decide +kernel
theorem d_T_init_33 : decode b_T_init 33 = .ok (.putfield 20, 3) := by decide +kernel
theorem d_T_init_36 : decode b_T_init 36 = .ok (.aload_n 0, 1) := by decide +kernel
theorem d_T_init_37 : decode b_T_init 37 = .ok (.bipush 6, 2) := by decide +kernel
theorem d_T_init_39 : decode b_T_init 39 = .ok (.newarray .boolean, 2) := by decide +kernel
theorem d_T_init_41 : decode b_T_init 41 = .ok (.putfield 23, 3) := by decide +kernel
theorem d_T_init_44 : decode b_T_init 44 = .ok (.aload_n 0, 1) := by decide +kernel
theorem d_T_init_45 : decode b_T_init 45 = .ok (.bipush 6, 2) := by decide +kernel
theorem d_T_init_47 : decode b_T_init 47 = .ok (.newarray .long, 2) := by decide +kernel
theorem d_T_init_49 : decode b_T_init 49 = .ok (.putfield 26, 3) := by decide +kernel
theorem d_T_init_52 : decode b_T_init 52 = .ok (.aload_n 0, 1) := by decide +kernel
theorem d_T_init_53 : decode b_T_init 53 = .ok (.bipush 6, 2) := by decide +kernel
theorem d_T_init_55 : decode b_T_init 55 = .ok (.newarray .int, 2) := by decide +kernel
theorem d_T_init_57 : decode b_T_init 57 = .ok (.putfield 29, 3) := by decide +kernel
theorem d_T_init_60 : decode b_T_init 60 = .ok (.aload_n 0, 1) := by decide +kernel
theorem d_T_init_61 : decode b_T_init 61 = .ok (.bipush 48, 2) := by decide +kernel
theorem d_T_init_63 : decode b_T_init 63 = .ok (.newarray .long, 2) := by decide +kernel
theorem d_T_init_65 : decode b_T_init 65 = .ok (.putfield 33, 3) := by decide +kernel
theorem d_T_init_68 : decode b_T_init 68 = .ok (.aload_n 0, 1) := by decide +kernel
theorem d_T_init_69 : decode b_T_init 69 = .ok (.bipush 48, 2) := by decide +kernel
theorem d_T_init_71 : decode b_T_init 71 = .ok (.newarray .long, 2) := by decide +kernel
theorem d_T_init_73 : decode b_T_init 73 = .ok (.putfield 36, 3) := by decide +kernel
theorem d_T_init_76 : decode b_T_init 76 = .ok (.aload_n 0, 1) := by decide +kernel
theorem d_T_init_77 : decode b_T_init 77 = .ok (.bipush 48, 2) := by decide +kernel
theorem d_T_init_79 : decode b_T_init 79 = .ok (.newarray .long, 2) := by decide +kernel
theorem d_T_init_81 : decode b_T_init 81 = .ok (.putfield 39, 3) := by decide +kernel
theorem d_T_init_84 : decode b_T_init 84 = .ok (.aload_n 0, 1) := by decide +kernel
theorem d_T_init_85 : decode b_T_init 85 = .ok (.bipush 6, 2) := by decide +kernel
theorem d_T_init_87 : decode b_T_init 87 = .ok (.newarray .int, 2) := by decide +kernel
theorem d_T_init_89 : decode b_T_init 89 = .ok (.putfield 42, 3) := by decide +kernel
theorem d_T_init_92 : decode b_T_init 92 = .ok (.aload_n 0, 1) := by decide +kernel
theorem d_T_init_93 : decode b_T_init 93 = .ok (.bipush 6, 2) := by decide +kernel
theorem d_T_init_95 : decode b_T_init 95 = .ok (.newarray .int, 2) := by decide +kernel
theorem d_T_init_97 : decode b_T_init 97 = .ok (.putfield 45, 3) := by decide +kernel
theorem d_T_init_100 : decode b_T_init 100 = .ok (.aload_n 0, 1) := by decide +kernel
theorem d_T_init_101 : decode b_T_init 101 = .ok (.bipush 6, 2) := by decide +kernel
theorem d_T_init_103 : decode b_T_init 103 = .ok (.newarray .int, 2) := by decide +kernel
theorem d_T_init_105 : decode b_T_init 105 = .ok (.putfield 48, 3) := by decide +kernel
theorem d_T_init_108 : decode b_T_init 108 = .ok (.aload_n 0, 1) := by decide +kernel
theorem d_T_init_109 : decode b_T_init 109 = .ok (.bipush 6, 2) := by decide +kernel
theorem d_T_init_111 : decode b_T_init 111 = .ok (.newarray .long, 2) := by decide +kernel
theorem d_T_init_113 : decode b_T_init 113 = .ok (.putfield 51, 3) := by decide +kernel
theorem d_T_init_116 : decode b_T_init 116 = .ok (.aload_n 0, 1) := by decide +kernel
theorem d_T_init_117 : decode b_T_init 117 = .ok (.bipush 6, 2) := by decide +kernel
theorem d_T_init_119 : decode b_T_init 119 = .ok (.newarray .long, 2) := by decide +kernel
theorem d_T_init_121 : decode b_T_init 121 = .ok (.putfield 54, 3) := by decide +kernel
theorem d_T_init_124 : decode b_T_init 124 = .ok (.aload_n 0, 1) := by decide +kernel
theorem d_T_init_125 : decode b_T_init 125 = .ok (.bipush 6, 2) := by decide +kernel
theorem d_T_init_127 : decode b_T_init 127 = .ok (.newarray .boolean, 2) := by decide +kernel
theorem d_T_init_129 : decode b_T_init 129 = .ok (.putfield 57, 3) := by decide +kernel
theorem d_T_init_132 : decode b_T_init 132 = .ok (.aload_n 0, 1) := by decide +kernel
theorem d_T_init_133 : decode b_T_init 133 = .ok (.iconst 4, 1) := by decide +kernel
theorem d_T_init_134 : decode b_T_init 134 = .ok (.newarray .boolean, 2) := by decide +kernel
theorem d_T_init_136 : decode b_T_init 136 = .ok (.putfield 60, 3) := by decide +kernel
theorem d_T_init_139 : decode b_T_init 139 = .ok (.aload_n 0, 1) := by decide +kernel
theorem d_T_init_140 : decode b_T_init 140 = .ok (.iconst 4, 1) := by decide +kernel
theorem d_T_init_141 : decode b_T_init 141 = .ok (.newarray .int, 2) := by decide +kernel
theorem d_T_init_143 : decode b_T_init 143 = .ok (.putfield 63, 3) := by decide +kernel
theorem d_T_init_146 : decode b_T_init 146 = .ok (.aload_n 0, 1) := by decide +kernel
theorem d_T_init_147 : decode b_T_init 147 = .ok (.iconst 4, 1) := by decide +kernel
theorem d_T_init_148 : decode b_T_init 148 = .ok (.newarray .long, 2) := by decide +kernel
theorem d_T_init_150 : decode b_T_init 150 = .ok (.putfield 66, 3) := by decide +kernel
theorem d_T_init_153 : decode b_T_init 153 = .ok (.aload_n 0, 1) := by decide +kernel
theorem d_T_init_154 : decode b_T_init 154 = .ok (.iload_n 1, 1) := by decide +kernel
theorem d_T_init_155 : decode b_T_init 155 = .ok (.iconst 1, 1) := by decide +kernel
theorem d_T_init_156 : decode b_T_init 156 = .ok (.bipush 6, 2) := by decide +kernel
theorem d_T_init_158 : decode b_T_init 158 = .ok (.invokestatic 69, 3) := by decide +kernel
theorem d_T_init_161 : decode b_T_init 161 = .ok (.putfield 73, 3) := by decide +kernel
theorem d_T_init_164 : decode b_T_init 164 = .ok (.aload_n 0, 1) := by decide +kernel
theorem d_T_init_165 : decode b_T_init 165 = .ok (.iload_n 2, 1) := by decide +kernel
theorem d_T_init_166 : decode b_T_init 166 = .ok (.iconst 0, 1) := by decide +kernel
theorem d_T_init_167 : decode b_T_init 167 = .ok (.sipush 1000, 3) := by decide +kernel
theorem d_T_init_170 : decode b_T_init 170 = .ok (.invokestatic 69, 3) := by decide +kernel
theorem d_T_init_173 : decode b_T_init 173 = .ok (.putfield 77, 3) := by decide +kernel
theorem d_T_init_176 : decode b_T_init 176 = .ok (.aload_n 0, 1) := by decide +kernel
theorem d_T_init_177 : decode b_T_init 177 = .ok (.iload_n 3, 1) := by decide +kernel
theorem d_T_init_178 : decode b_T_init 178 = .ok (.putfield 80, 3) := by decide +kernel
theorem d_T_init_181 : decode b_T_init 181 = .ok (.iconst 0, 1) := by decide +kernel
theorem d_T_init_182 : decode b_T_init 182 = .ok (.istore 4, 2) := by decide +kernel
theorem d_T_init_184 : decode b_T_init 184 = .ok (.iload 4, 2) := by decide +kernel
theorem d_T_init_186 : decode b_T_init 186 = .ok (.bipush 6, 2) := by decide +kernel
theorem d_T_init_188 : decode b_T_init 188 = .ok (.if_icmp .ge 18, 3) := by decide +kernel
theorem d_T_init_191 : decode b_T_init 191 = .ok (.aload_n 0, 1) := by decide +kernel
theorem d_T_init_192 : decode b_T_init 192 = .ok (.getfield 42, 3) := by decide +kernel
theorem d_T_init_195 : decode b_T_init 195 = .ok (.iload 4, 2) := by decide +kernel
theorem d_T_init_197 : decode b_T_init 197 = .ok (.bipush 16, 2) := by decide +kernel
theorem d_T_init_199 : decode b_T_init 199 = .ok (.iastore, 1) := by decide +kernel
theorem d_T_init_200 : decode b_T_init 200 = .ok (.iinc 4 1, 3) := by decide +kernel
theorem d_T_init_203 : decode b_T_init 203 = .ok (.goto (-19), 3) := by decide +kernel
theorem d_T_init_206 : decode b_T_init 206 = .ok (.return_, 1) := by decide +kernel
theorem d_M_init_0 : decode b_M_init 0 = .ok (.aload_n 0, 1) := by decide +kernel
theorem d_M_init_1 : decode b_M_init 1 = .ok (.invokespecial 1, 3) := by decide +kernel
theorem d_M_init_4 : decode b_M_init 4 = .ok (.aload_n 0, 1) := by decide +kernel
theorem d_M_init_5 : decode b_M_init 5 = .ok (.ldc2_w 7, 3) := by decide +kernel
theorem d_M_init_8 : decode b_M_init 8 = .ok (.putfield 9, 3) := by decide +kernel
theorem d_M_init_11 : decode b_M_init 11 = .ok (.iload_n 1, 1) := by decide +kernel
theorem d_M_init_12 : decode b_M_init 12 = .ok (.iconst 1, 1) := by decide +kernel
theorem d_M_init_13 : decode b_M_init 13 = .ok (.invokestatic 15, 3) := by decide +kernel
theorem d_M_init_16 : decode b_M_init 16 = .ok (.bipush 6, 2) := by decide +kernel
theorem d_M_init_18 : decode b_M_init 18 = .ok (.invokestatic 21, 3) := by decide +kernel
theorem d_M_init_21 : decode b_M_init 21 = .ok (.istore 4, 2) := by decide +kernel
theorem d_M_init_23 : decode b_M_init 23 = .ok (.aload_n 0, 1) := by decide +kernel
theorem d_M_init_24 : decode b_M_init 24 = .ok (.iload_n 2, 1) := by decide +kernel
theorem d_M_init_25 : decode b_M_init 25 = .ok (.iconst 0, 1) := by decide +kernel
theorem d_M_init_26 : decode b_M_init 26 = .ok (.invokestatic 15, 3) := by decide +kernel
theorem d_M_init_29 : decode b_M_init 29 = .ok (.sipush 1000, 3) := by decide +kernel
end
section
theorem d_M_init_32 : decode b_M_init 32 = .ok (.invokestatic 21, 3) := by decide +kernel
theorem d_M_init_35 : decode b_M_init 35 = .ok (.putfield 24, 3) := by decide +kernel
theorem d_M_init_38 : decode b_M_init 38 = .ok (.aload_n 0, 1) := by decide +kernel
theorem d_M_init_39 : decode b_M_init 39 = .ok (.iload_n 3, 1) := by decide +kernel
theorem d_M_init_40 : decode b_M_init 40 = .ok (.putfield 28, 3) := by decide +kernel
theorem d_M_init_43 : decode b_M_init 43 = .ok (.aload_n 0, 1) := by decide +kernel
theorem d_M_init_44 : decode b_M_init 44 = .ok (.iload 4, 2) := by decide +kernel
theorem d_M_init_46 : decode b_M_init 46 = .ok (.anewarray 31, 3) := by decide +kernel
theorem d_M_init_49 : decode b_M_init 49 = .ok (.putfield 33, 3) := by decide +kernel
theorem d_M_init_52 : decode b_M_init 52 = .ok (.iconst 0, 1) := by decide +kernel
theorem d_M_init_53 : decode b_M_init 53 = .ok (.istore 5, 2) := by decide +kernel
theorem d_M_init_55 : decode b_M_init 55 = .ok (.iload 5, 2) := by decide +kernel
theorem d_M_init_57 : decode b_M_init 57 = .ok (.iload 4, 2) := by decide +kernel
theorem d_M_init_59 : decode b_M_init 59 = .ok (.if_icmp .ge 23, 3) := by decide +kernel
theorem d_M_init_62 : decode b_M_init 62 = .ok (.aload_n 0, 1) := by decide +kernel
theorem d_M_init_63 : decode b_M_init 63 = .ok (.getfield 33, 3) := by decide +kernel
theorem d_M_init_66 : decode b_M_init 66 = .ok (.iload 5, 2) := by decide +kernel
theorem d_M_init_68 : decode b_M_init 68 = .ok (.new 31, 3) := by decide +kernel
theorem d_M_init_71 : decode b_M_init 71 = .ok (.dup, 1) := by decide +kernel
theorem d_M_init_72 : decode b_M_init 72 = .ok (.invokespecial 37, 3) := by decide +kernel
theorem d_M_init_75 : decode b_M_init 75 = .ok (.aastore, 1) := by decide +kernel
theorem d_M_init_76 : decode b_M_init 76 = .ok (.iinc 5 1, 3) := by decide +kernel
theorem d_M_init_79 : decode b_M_init 79 = .ok (.goto (-24), 3) := by decide +kernel
theorem d_M_init_82 : decode b_M_init 82 = .ok (.aload_n 0, 1) := by decide +kernel
theorem d_M_init_83 : decode b_M_init 83 = .ok (.iconst 4, 1) := by decide +kernel
theorem d_M_init_84 : decode b_M_init 84 = .ok (.anewarray 38, 3) := by decide +kernel
theorem d_M_init_87 : decode b_M_init 87 = .ok (.putfield 40, 3) := by decide +kernel
theorem d_M_init_90 : decode b_M_init 90 = .ok (.iconst 0, 1) := by decide +kernel
theorem d_M_init_91 : decode b_M_init 91 = .ok (.istore 5, 2) := by decide +kernel
theorem d_M_init_93 : decode b_M_init 93 = .ok (.iload 5, 2) := by decide +kernel
theorem d_M_init_95 : decode b_M_init 95 = .ok (.iconst 4, 1) := by decide +kernel
theorem d_M_init_96 : decode b_M_init 96 = .ok (.if_icmp .ge 23, 3) := by decide +kernel
theorem d_M_init_99 : decode b_M_init 99 = .ok (.aload_n 0, 1) := by decide +kernel
theorem d_M_init_100 : decode b_M_init 100 = .ok (.getfield 40, 3) := by decide +kernel
theorem d_M_init_103 : decode b_M_init 103 = .ok (.iload 5, 2) := by decide +kernel
theorem d_M_init_105 : decode b_M_init 105 = .ok (.new 38, 3) := by decide +kernel
theorem d_M_init_108 : decode b_M_init 108 = .ok (.dup, 1) := by decide +kernel
theorem d_M_init_109 : decode b_M_init 109 = .ok (.invokespecial 44, 3) := by decide +kernel
theorem d_M_init_112 : decode b_M_init 112 = .ok (.aastore, 1) := by decide +kernel
theorem d_M_init_113 : decode b_M_init 113 = .ok (.iinc 5 1, 3) := by decide +kernel
theorem d_M_init_116 : decode b_M_init 116 = .ok (.goto (-23), 3) := by decide +kernel
theorem d_M_init_119 : decode b_M_init 119 = .ok (.aload_n 0, 1) := by decide +kernel
theorem d_M_init_120 : decode b_M_init 120 = .ok (.new 45, 3) := by decide +kernel
theorem d_M_init_123 : decode b_M_init 123 = .ok (.dup, 1) := by decide +kernel
theorem d_M_init_124 : decode b_M_init 124 = .ok (.invokespecial 47, 3) := by decide +kernel
theorem d_M_init_127 : decode b_M_init 127 = .ok (.putfield 48, 3) := by decide +kernel
theorem d_M_init_130 : decode b_M_init 130 = .ok (.aload_n 0, 1) := by decide +kernel
theorem d_M_init_131 : decode b_M_init 131 = .ok (.new 52, 3) := by decide +kernel
theorem d_M_init_134 : decode b_M_init 134 = .ok (.dup, 1) := by decide +kernel
theorem d_M_init_135 : decode b_M_init 135 = .ok (.invokespecial 54, 3) := by decide +kernel
theorem d_M_init_138 : decode b_M_init 138 = .ok (.putfield 55, 3) := by decide +kernel
theorem d_M_init_141 : decode b_M_init 141 = .ok (.return_, 1) := by decide +kernel
end
section
/-! 02.v: a method under way, as one variable κ; V: the machine stands at pc with these locals, this stack, this world, and comes to κ's end -/
abbrev VC := Program × Launch × Env × Room × State × MethodId × (Array Value) × (List Frame) × Method × Code × va_G × (Nat → ClassId) × (Nat → Prop) × (State → Prop)
abbrev VC.p (κ : VC) : Program := κ.1
abbrev VC.l (κ : VC) : Launch := κ.2.1
abbrev VC.e (κ : VC) : Env := κ.2.2.1
abbrev VC.R (κ : VC) : Room := κ.2.2.2.1
abbrev VC.s (κ : VC) : State := κ.2.2.2.2.1
abbrev VC.m (κ : VC) : MethodId := κ.2.2.2.2.2.1
abbrev VC.a (κ : VC) : Array Value := κ.2.2.2.2.2.2.1
abbrev VC.b (κ : VC) : List Frame := κ.2.2.2.2.2.2.2.1
abbrev VC.y (κ : VC) : Method := κ.2.2.2.2.2.2.2.2.1
abbrev VC.c (κ : VC) : Code := κ.2.2.2.2.2.2.2.2.2.1
abbrev VC.D (κ : VC) : va_G := κ.2.2.2.2.2.2.2.2.2.2.1
abbrev VC.z (κ : VC) : Nat → ClassId := κ.2.2.2.2.2.2.2.2.2.2.2.1
abbrev VC.A (κ : VC) : Nat → Prop := κ.2.2.2.2.2.2.2.2.2.2.2.2.1
abbrev VC.Q (κ : VC) : State → Prop := κ.2.2.2.2.2.2.2.2.2.2.2.2.2
/-- NEST: calls between nest mates that the class files name -/
def NEST : List (String × Nat × MethodName × String) := [(R_M, 37, y_Sv_init, R_M), (R_M, 44, y_Le_init, R_M), (R_M, 47, y_E_init, R_M), (R_M, 54, y_Sd_init, R_M), (R_Sv, 64, y_M_growth, R_M), (R_Sd, 67, y_M_growth, R_M)]
def V (κ : VC) (nL k n pc : Nat) (lv : List (Nat × Value)) (st : List Value) (ws : va_W) : Prop :=
  ∀ (H : Heap) (locs : List Loc) (ls : Array Slot), va_P κ.D CLS ws H → va_D κ.A ws → va_S κ.A κ.s.heap H locs → lv_has ls nL lv → W κ.p κ.l κ.e κ.R κ.s κ.m κ.a κ.b κ.y κ.c H locs k n κ.Q (F0 κ.m pc ls st)
/-- links between nest mates and classes over arrays: what no word of BIG keeps -/
def NS (U : State) : Prop := (∀ q ∈ NEST, va_Nw (.methodLinkNest q.1 q.2.1 q.2.2.1 q.2.2.2) U) ∧ va_AO R_Sv U ∧ va_AO R_Le U
theorem NS.warm {s U : State} (hW : s.WarmedH U.vm) (h : NS s) : NS U := ⟨fun q hq => va_Nw.warmM hW (h.1 q hq), va_AO.moved hW.alike h.2.1, va_AO.moved hW.alike h.2.2⟩
theorem NS.same {s U : State} (hv : s.vm = U.vm) (h : NS s) : NS U := ⟨fun q hq => va_Nw.same rfl hv (h.1 q hq), va_AO.moved (hv ▸ Vm.Alike.refl _) h.2.1, va_AO.moved (hv ▸ Vm.Alike.refl _) h.2.2⟩
/-- what is known of a method under way: machine, bytes, locals, its own class, its words, the tables, new cells are its own, its room -/
def Cx (κ : VC) (cc : ByteArray) (own : String) (rm : Room) (nL : Nat) : Prop :=
  κ.p.tables.exec = Jvm.exec ∧ κ.c.code = cc ∧ κ.c.maxLocals = nL ∧ κ.s.vm.findClass own = some κ.m.cls ∧ (∀ w ∈ BIG, w.before κ.a κ.s = true) ∧ va_K κ.D CLS (TY κ.z) κ.s ∧ (∀ q, κ.s.heap.size ≤ q → κ.A q) ∧ κ.R = rm ∧ NS κ.s
/-- a method's end: an answer v and a world w with G v w; nothing changed but what is its own -/
def QG (D : va_G) (G : Option Value → va_W → Prop) (A : Nat → Prop) : Array Value → State → Outcome → State → Prop := fun _ st oc t => (∃ (v : Option Value) (w : va_W), oc = .returned v ∧ G v w ∧ va_P D CLS w t.heap ∧ va_D A w) ∧ va_F A st t
def Rx (κ : VC) (nm : String) (ret : Option FieldType) (G : Option Value → va_W → Prop) (mc ms : Nat) : Prop :=
  κ.y.sig.returnType = ret ∧ κ.y.locks = false ∧ κ.Q = MQ κ.b (QG κ.D G κ.A) κ.a κ.s mc ms κ.A ∧ κ.y.name = nm
def PC (D : va_G) (z : Nat → ClassId) (ws : va_W) (sz : Nat) (U : State) : Prop := U.heap.size = sz ∧ va_P D CLS ws U.heap ∧ va_K D CLS (TY z) U ∧ va_D (fun _ => True) ws ∧ NS U
/-- a contract: y, called with av in the world ws, returns with G -/
def Ctr (l : Launch) (D : va_G) (z : Nat → ClassId) (y : MethodName) (cc : ByteArray) (maxL : Nat) (ret : Option FieldType) (rm : Room) (av : List Value) (ws : va_W) (G : Option Value → va_W → Prop) (mc ms : Nat) : Prop :=
  ∀ sz : Nat, Met l y (Cond.code y cc maxL ret :: BIG) rm (va_Pc av (PC D z ws sz)) (QG D G (va_A ws sz)) mc ms (va_A ws sz)
/-- a method's contract out of its walk, also where its class isn't plainly named -/
theorem met_F {l : Launch} {y : MethodName} {ws ws' : List Cond} {rm : Room} {Pc : Array Value → State → Prop} {Qc : Array Value → State → Outcome → State → Prop} {mc ms : Nat} {free : Addr → Prop} {cc : ByteArray} {maxL : Nat} {ret : Option FieldType} (hy : plainFor y = true) (hw : ws = Cond.code y cc maxL ret :: ws')
    (body : ∀ p e s m args below meth c s₁, BodyLoose p l y (headSpec ws rm) cc maxL ret e s m args below meth c s₁ → c.maxLocals = maxL → Pc args s → W p l e (headSpec ws rm).room s m args below meth c s.heap [] 0 0 (MQ below Qc args s mc ms free) (entryFrame m args maxL)) : Met l y ws rm Pc Qc mc ms free :=
  MetFree.of_bodySF (code := cc) (maxLocals := maxL) (ret := ret) hy (fun args s m h hn => by
    have hc := Cond.code_spec hn (atoms_spec (ws := ws) h _ (by rw [hw]; exact List.mem_cons_self))
    exact ⟨hc.choose, hc.choose_spec.choose, hc.choose_spec.choose_spec.1, hc.choose_spec.choose_spec.2.1, hc.choose_spec.choose_spec.2.2.1, hc.choose_spec.choose_spec.2.2.2.1, hc.choose_spec.choose_spec.2.2.2.2.1, hc.choose_spec.choose_spec.2.2.2.2.2.1⟩)
    (fun p e s m args below meth c s₁ B hml hP _ => by
      have hx := body p e s m args below meth c s₁ B hml hP s₁ (by rw [B.state]; rfl) (Stand.of_body B)
      exact ⟨hx.choose, hx.choose_spec.2.choose, hx.choose_spec.1, hx.choose_spec.2.choose_spec.1, hx.choose_spec.2.choose_spec.2.1, hx.choose_spec.2.choose_spec.2.2.1, hx.choose_spec.2.choose_spec.2.2.2⟩)
theorem met_V {l : Launch} {D : va_G} {z : Nat → ClassId} {y : MethodName} {rm : Room} {av : List Value} {ws : va_W} {G : Option Value → va_W → Prop} {mc ms : Nat} {own nm : String} {cc : ByteArray} {maxL : Nat} {ret : Option FieldType} (hy : plainFor y = true) (ho : y.cls = own) (hnm : y.name = nm) (hsl : (lg_sl av).length ≤ maxL)
    (body : ∀ κ : VC, κ.l = l → κ.D = D → κ.z = z → Cx κ cc own rm maxL → Rx κ nm ret G mc ms → V κ maxL 0 0 0 (lv_args 0 av) [] ws) : Ctr l D z y cc maxL ret rm av ws G mc ms := by
  subst ho
  subst hnm
  intro sz
  refine met_F (cc := cc) (maxL := maxL) (ret := ret) hy rfl ?_
  intro p e s m args below meth c s₁ B hml hv
  obtain ⟨rfl, hsz, hP, hK, hD0, hN⟩ := hv
  subst hsz
  have hD := hD0.self (sz := s.heap.size)
  rw [lg_entry_eq]
  exact body (p, l, e, (headSpec (Cond.code y cc maxL ret :: BIG) rm).room, s, m, av.toArray, below, meth, c, D, z, va_A ws s.heap.size, MQ below (QG D G (va_A ws s.heap.size)) av.toArray s mc ms (va_A ws s.heap.size)) rfl rfl rfl ⟨B.exec, B.bytes, hml, findClass_of_methodNamed B.named, fun w h => atoms_spec (ws := Cond.code y cc maxL ret :: BIG) B.pre w (List.mem_cons_of_mem _ h), hK, fun q h => Or.inr h, rfl, hN⟩ ⟨B.returns, B.notSynchronized, rfl, (name_of_methodNamed B.named B.method).1⟩ _ _ _ hP hD va_S.rf (lv_entry av hsl)
section VV
variable {κ : VC} {cc : ByteArray} {own : String} {rm : Room} {nL k n pc : Nat} {lv lv' : List (Nat × Value)} {st rest : List Value} {ws ws' : va_W} {nm : String} {ret : Option FieldType} {G : Option Value → va_W → Prop} {mc ms : Nat}
/-- fewer locals, another order -/
theorem v_lv (is : List Nat) (hl : lv_pick lv is = lv') (h : V κ nL k n pc lv' st ws) : V κ nL k n pc lv st ws := fun H locs ls hP hD hS hv => h H locs ls hP hD hS (lv_sub hv is hl)
/-- fewer cells, another order -/
theorem v_ws (is : List Nat) (hn : va_nd is = true) (hs : is.map (fun i => ws[i]?) = ws'.map some) (h : V κ nL k n pc lv st ws') : V κ nL k n pc lv st ws := fun H locs ls hP hD hS hv => h H locs ls (fun k q hk => (va_in_of is hs hk).elim fun i hi => hP i q hi.2) (hD.sub is hn hs) hS hv
theorem v_eq {lv' : List (Nat × Value)} {st' : List Value} {ws' : va_W} {pc' : Nat} (e0 : pc = pc') (e1 : lv = lv') (e2 : st = st') (e3 : ws = ws') (h : V κ nL k n pc' lv' st' ws') : V κ nL k n pc lv st ws := by subst e0; subst e1; subst e2; subst e3; exact h
theorem v_wide {k' n' : Nat} (h1 : k ≤ k') (h2 : n ≤ n') (h : V κ nL k' n' pc lv st ws) : V κ nL k n pc lv st ws := fun H locs ls hP hD hS hv => W.widen h1 h2 (h H locs ls hP hD hS hv)

theorem v_iadd (X : Cx κ cc own rm nL) {x y : Int32} (d : decode cc pc = .ok (.iadd, 1)) (h : V κ nL k n (pc + 1) lv (.int (x + y) :: rest) ws) : V κ nL k n pc lv (.int y :: .int x :: rest) ws := fun H locs ls hP hD hS hl => lv_iadd X.1 X.2.1 d (h H locs ls hP hD hS hl)
theorem v_isub (X : Cx κ cc own rm nL) {x y : Int32} (d : decode cc pc = .ok (.isub, 1)) (h : V κ nL k n (pc + 1) lv (.int (x - y) :: rest) ws) : V κ nL k n pc lv (.int y :: .int x :: rest) ws := fun H locs ls hP hD hS hl => lv_isub X.1 X.2.1 d (h H locs ls hP hD hS hl)
theorem v_imul (X : Cx κ cc own rm nL) {x y : Int32} (d : decode cc pc = .ok (.imul, 1)) (h : V κ nL k n (pc + 1) lv (.int (x * y) :: rest) ws) : V κ nL k n pc lv (.int y :: .int x :: rest) ws := fun H locs ls hP hD hS hl => lv_imul X.1 X.2.1 d (h H locs ls hP hD hS hl)
theorem v_iand (X : Cx κ cc own rm nL) {x y : Int32} (d : decode cc pc = .ok (.iand, 1)) (h : V κ nL k n (pc + 1) lv (.int (x &&& y) :: rest) ws) : V κ nL k n pc lv (.int y :: .int x :: rest) ws := fun H locs ls hP hD hS hl => lv_iand X.1 X.2.1 d (h H locs ls hP hD hS hl)
theorem v_ior (X : Cx κ cc own rm nL) {x y : Int32} (d : decode cc pc = .ok (.ior, 1)) (h : V κ nL k n (pc + 1) lv (.int (x ||| y) :: rest) ws) : V κ nL k n pc lv (.int y :: .int x :: rest) ws := fun H locs ls hP hD hS hl => lv_ior X.1 X.2.1 d (h H locs ls hP hD hS hl)
theorem v_ixor (X : Cx κ cc own rm nL) {x y : Int32} (d : decode cc pc = .ok (.ixor, 1)) (h : V κ nL k n (pc + 1) lv (.int (x ^^^ y) :: rest) ws) : V κ nL k n pc lv (.int y :: .int x :: rest) ws := fun H locs ls hP hD hS hl => lv_ixor X.1 X.2.1 d (h H locs ls hP hD hS hl)
theorem v_ladd (X : Cx κ cc own rm nL) {x y : Int64} (d : decode cc pc = .ok (.ladd, 1)) (h : V κ nL k n (pc + 1) lv (.long (x + y) :: rest) ws) : V κ nL k n pc lv (.long y :: .long x :: rest) ws := fun H locs ls hP hD hS hl => lv_ladd X.1 X.2.1 d (h H locs ls hP hD hS hl)
theorem v_lsub (X : Cx κ cc own rm nL) {x y : Int64} (d : decode cc pc = .ok (.lsub, 1)) (h : V κ nL k n (pc + 1) lv (.long (x - y) :: rest) ws) : V κ nL k n pc lv (.long y :: .long x :: rest) ws := fun H locs ls hP hD hS hl => lv_lsub X.1 X.2.1 d (h H locs ls hP hD hS hl)
theorem v_lmul (X : Cx κ cc own rm nL) {x y : Int64} (d : decode cc pc = .ok (.lmul, 1)) (h : V κ nL k n (pc + 1) lv (.long (x * y) :: rest) ws) : V κ nL k n pc lv (.long y :: .long x :: rest) ws := fun H locs ls hP hD hS hl => lv_lmul X.1 X.2.1 d (h H locs ls hP hD hS hl)
theorem v_land (X : Cx κ cc own rm nL) {x y : Int64} (d : decode cc pc = .ok (.land, 1)) (h : V κ nL k n (pc + 1) lv (.long (x &&& y) :: rest) ws) : V κ nL k n pc lv (.long y :: .long x :: rest) ws := fun H locs ls hP hD hS hl => lv_land X.1 X.2.1 d (h H locs ls hP hD hS hl)
theorem v_lor (X : Cx κ cc own rm nL) {x y : Int64} (d : decode cc pc = .ok (.lor, 1)) (h : V κ nL k n (pc + 1) lv (.long (x ||| y) :: rest) ws) : V κ nL k n pc lv (.long y :: .long x :: rest) ws := fun H locs ls hP hD hS hl => lv_lor X.1 X.2.1 d (h H locs ls hP hD hS hl)
theorem v_lxor (X : Cx κ cc own rm nL) {x y : Int64} (d : decode cc pc = .ok (.lxor, 1)) (h : V κ nL k n (pc + 1) lv (.long (x ^^^ y) :: rest) ws) : V κ nL k n pc lv (.long y :: .long x :: rest) ws := fun H locs ls hP hD hS hl => lv_lxor X.1 X.2.1 d (h H locs ls hP hD hS hl)
theorem v_ldiv (X : Cx κ cc own rm nL) {x y : Int64} (d : decode cc pc = .ok (.ldiv, 1)) (hne : ¬ y = 0) (h : V κ nL k n (pc + 1) lv (.long (x / y) :: rest) ws) : V κ nL k n pc lv (.long y :: .long x :: rest) ws := fun H locs ls hP hD hS hl => lv_ldiv X.1 X.2.1 d hne (h H locs ls hP hD hS hl)
theorem v_idiv (X : Cx κ cc own rm nL) {x y : Int32} (d : decode cc pc = .ok (.idiv, 1)) (hne : ¬ y = 0) (h : V κ nL k n (pc + 1) lv (.int (x / y) :: rest) ws) : V κ nL k n pc lv (.int y :: .int x :: rest) ws := fun H locs ls hP hD hS hl => lv_idiv X.1 X.2.1 d hne (h H locs ls hP hD hS hl)
theorem v_irem (X : Cx κ cc own rm nL) {x y : Int32} (d : decode cc pc = .ok (.irem, 1)) (hne : ¬ y = 0) (h : V κ nL k n (pc + 1) lv (.int (x - x / y * y) :: rest) ws) : V κ nL k n pc lv (.int y :: .int x :: rest) ws := fun H locs ls hP hD hS hl => lv_irem X.1 X.2.1 d hne (h H locs ls hP hD hS hl)
theorem v_lrem (X : Cx κ cc own rm nL) {x y : Int64} (d : decode cc pc = .ok (.lrem, 1)) (hne : ¬ y = 0) (h : V κ nL k n (pc + 1) lv (.long (x - x / y * y) :: rest) ws) : V κ nL k n pc lv (.long y :: .long x :: rest) ws := fun H locs ls hP hD hS hl => lv_lrem X.1 X.2.1 d hne (h H locs ls hP hD hS hl)
theorem v_ineg (X : Cx κ cc own rm nL) {x : Int32} (d : decode cc pc = .ok (.ineg, 1)) (h : V κ nL k n (pc + 1) lv (.int (-x) :: rest) ws) : V κ nL k n pc lv (.int x :: rest) ws := fun H locs ls hP hD hS hl => lv_ineg X.1 X.2.1 d (h H locs ls hP hD hS hl)
theorem v_lneg (X : Cx κ cc own rm nL) {x : Int64} (d : decode cc pc = .ok (.lneg, 1)) (h : V κ nL k n (pc + 1) lv (.long (-x) :: rest) ws) : V κ nL k n pc lv (.long x :: rest) ws := fun H locs ls hP hD hS hl => lv_lneg X.1 X.2.1 d (h H locs ls hP hD hS hl)
theorem v_ishl (X : Cx κ cc own rm nL) {x y : Int32} (d : decode cc pc = .ok (.ishl, 1)) (h : V κ nL k n (pc + 1) lv (.int (x <<< (y &&& 31)) :: rest) ws) : V κ nL k n pc lv (.int y :: .int x :: rest) ws := fun H locs ls hP hD hS hl => lv_ishl X.1 X.2.1 d (h H locs ls hP hD hS hl)
theorem v_ishr (X : Cx κ cc own rm nL) {x y : Int32} (d : decode cc pc = .ok (.ishr, 1)) (h : V κ nL k n (pc + 1) lv (.int (x >>> (y &&& 31)) :: rest) ws) : V κ nL k n pc lv (.int y :: .int x :: rest) ws := fun H locs ls hP hD hS hl => lv_ishr X.1 X.2.1 d (h H locs ls hP hD hS hl)
theorem v_i2l (X : Cx κ cc own rm nL) {x : Int32} (d : decode cc pc = .ok (.i2l, 1)) (h : V κ nL k n (pc + 1) lv (.long (x.toInt64) :: rest) ws) : V κ nL k n pc lv (.int x :: rest) ws := fun H locs ls hP hD hS hl => lv_i2l X.1 X.2.1 d rfl (h H locs ls hP hD hS hl)
theorem v_l2i (X : Cx κ cc own rm nL) {x : Int64} (d : decode cc pc = .ok (.l2i, 1)) (h : V κ nL k n (pc + 1) lv (.int (x.toInt32) :: rest) ws) : V κ nL k n pc lv (.long x :: rest) ws := fun H locs ls hP hD hS hl => lv_l2i X.1 X.2.1 d rfl (h H locs ls hP hD hS hl)
theorem v_lushr (X : Cx κ cc own rm nL) {x : Int64} {y : Int32} (d : decode cc pc = .ok (.lushr, 1)) (h : V κ nL k n (pc + 1) lv (.long ((x.toUInt64 >>> (y.toInt64.toUInt64 &&& Int64.toUInt64 63)).toInt64) :: rest) ws) : V κ nL k n pc lv (.int y :: .long x :: rest) ws := fun H locs ls hP hD hS hl => lv_lushr X.1 X.2.1 d rfl (h H locs ls hP hD hS hl)
theorem v_lshl (X : Cx κ cc own rm nL) {x : Int64} {y : Int32} (d : decode cc pc = .ok (.lshl, 1)) (h : V κ nL k n (pc + 1) lv (.long (x <<< (y.toInt64 &&& 63)) :: rest) ws) : V κ nL k n pc lv (.int y :: .long x :: rest) ws := fun H locs ls hP hD hS hl => lv_lshl X.1 X.2.1 d rfl (h H locs ls hP hD hS hl)
theorem v_lshr (X : Cx κ cc own rm nL) {x : Int64} {y : Int32} (d : decode cc pc = .ok (.lshr, 1)) (h : V κ nL k n (pc + 1) lv (.long (x >>> (y.toInt64 &&& 63)) :: rest) ws) : V κ nL k n pc lv (.int y :: .long x :: rest) ws := fun H locs ls hP hD hS hl => lv_lshr X.1 X.2.1 d rfl (h H locs ls hP hD hS hl)
theorem v_iconst (X : Cx κ cc own rm nL) {i : Int} (v : Int32) (d : decode cc pc = .ok (.iconst i, 1)) (hv : Int32.ofInt i = v) (h : V κ nL k n (pc + 1) lv (.int v :: rest) ws) : V κ nL k n pc lv rest ws := fun H locs ls hP hD hS hl => lv_iconst X.1 X.2.1 d hv (h H locs ls hP hD hS hl)
theorem v_bipush (X : Cx κ cc own rm nL) {i : Int} (v : Int32) (d : decode cc pc = .ok (.bipush i, 2)) (hv : (Int8.ofInt i).toInt32 = v) (h : V κ nL k n (pc + 2) lv (.int v :: rest) ws) : V κ nL k n pc lv rest ws := fun H locs ls hP hD hS hl => lv_bipush X.1 X.2.1 d hv (h H locs ls hP hD hS hl)
theorem v_sipush (X : Cx κ cc own rm nL) {i : Int} (v : Int32) (d : decode cc pc = .ok (.sipush i, 3)) (hv : (Int16.ofInt i).toInt32 = v) (h : V κ nL k n (pc + 3) lv (.int v :: rest) ws) : V κ nL k n pc lv rest ws := fun H locs ls hP hD hS hl => lv_sipush X.1 X.2.1 d hv (h H locs ls hP hD hS hl)
theorem v_lconst (X : Cx κ cc own rm nL) {i : Fin 2} (v : Int64) (d : decode cc pc = .ok (.lconst i, 1)) (hv : Int64.ofNat (i : Nat) = v) (h : V κ nL k n (pc + 1) lv (.long v :: rest) ws) : V κ nL k n pc lv rest ws := fun H locs ls hP hD hS hl => lv_lconst X.1 X.2.1 d hv (h H locs ls hP hD hS hl)
theorem v_ldc (X : Cx κ cc own rm nL) {index : Nat} {v : Int32} (hw : Jvm.Cond.constant own index v ∈ BIG) (d : decode cc pc = .ok (.ldc index, 2)) (h : V κ nL k n (pc + 2) lv (.int v :: rest) ws) : V κ nL k n pc lv rest ws := fun H locs ls hP hD hS hl => lv_ldc X.1 X.2.1 X.2.2.2.1 (X.2.2.2.2.1 _ hw) d (h H locs ls hP hD hS hl)
theorem v_ldc2 (X : Cx κ cc own rm nL) {index : Nat} {v : Int64} (hw : Jvm.Cond.constantLong own index v ∈ BIG) (d : decode cc pc = .ok (.ldc2_w index, 3)) (h : V κ nL k n (pc + 3) lv (.long v :: rest) ws) : V κ nL k n pc lv rest ws := fun H locs ls hP hD hS hl => lv_ldc2 X.1 X.2.1 X.2.2.2.1 (X.2.2.2.2.1 _ hw) d (h H locs ls hP hD hS hl)
theorem v_null (X : Cx κ cc own rm nL) (d : decode cc pc = .ok (.aconst_null, 1)) (h : V κ nL k n (pc + 1) lv (.null :: rest) ws) : V κ nL k n pc lv rest ws := fun H locs ls hP hD hS hl => lv_null X.1 X.2.1 d (h H locs ls hP hD hS hl)
theorem v_iload_n (X : Cx κ cc own rm nL) (j : Nat) {q : Fin 4} {x : Int32} (d : decode cc pc = .ok (.iload_n q, 1)) (hj : lv[j]? = some ((q : Nat), .int x)) (h : V κ nL k n (pc + 1) lv (.int x :: rest) ws) : V κ nL k n pc lv rest ws := fun H locs ls hP hD hS hl => lv_iload_n X.1 X.2.1 d rfl (lv_at hl j hj) (h H locs ls hP hD hS hl)
theorem v_iload (X : Cx κ cc own rm nL) (j : Nat) {i : Nat} {x : Int32} (d : decode cc pc = .ok (.iload i, 2)) (hj : lv[j]? = some (i, .int x)) (h : V κ nL k n (pc + 2) lv (.int x :: rest) ws) : V κ nL k n pc lv rest ws := fun H locs ls hP hD hS hl => lv_iload X.1 X.2.1 d (lv_at hl j hj) (h H locs ls hP hD hS hl)
theorem v_istore_n (X : Cx κ cc own rm nL) {q : Fin 4} {i : Nat} {x : Int32} (d : decode cc pc = .ok (.istore_n q, 1)) (hi : (q : Nat) = i) (hn : i < nL) (e : (i, Value.int x) :: lv.filter (fun q => !(q.1 == i) && !(q.1 + 1 == i && q.2.category == 2)) = lv') (h : V κ nL k n (pc + 1) lv' rest ws) : V κ nL k n pc lv (.int x :: rest) ws := fun H locs ls hP hD hS hl => lv_istore_n X.1 X.2.1 d hi hl hn e (fun _ hl2 => (h H locs _ hP hD hS hl2))
theorem v_istore (X : Cx κ cc own rm nL) {i : Nat} {x : Int32} (d : decode cc pc = .ok (.istore i, 2)) (hn : i < nL) (e : (i, Value.int x) :: lv.filter (fun q => !(q.1 == i) && !(q.1 + 1 == i && q.2.category == 2)) = lv') (h : V κ nL k n (pc + 2) lv' rest ws) : V κ nL k n pc lv (.int x :: rest) ws := fun H locs ls hP hD hS hl => lv_istore X.1 X.2.1 d hl hn e (fun _ hl2 => (h H locs _ hP hD hS hl2))
theorem v_lload_n (X : Cx κ cc own rm nL) (j : Nat) {q : Fin 4} {x : Int64} (d : decode cc pc = .ok (.lload_n q, 1)) (hj : lv[j]? = some ((q : Nat), .long x)) (h : V κ nL k n (pc + 1) lv (.long x :: rest) ws) : V κ nL k n pc lv rest ws := fun H locs ls hP hD hS hl => lv_lload_n X.1 X.2.1 d rfl (lv_at hl j hj) (h H locs ls hP hD hS hl)
theorem v_lload (X : Cx κ cc own rm nL) (j : Nat) {i : Nat} {x : Int64} (d : decode cc pc = .ok (.lload i, 2)) (hj : lv[j]? = some (i, .long x)) (h : V κ nL k n (pc + 2) lv (.long x :: rest) ws) : V κ nL k n pc lv rest ws := fun H locs ls hP hD hS hl => lv_lload X.1 X.2.1 d (lv_at hl j hj) (h H locs ls hP hD hS hl)
theorem v_lstore_n (X : Cx κ cc own rm nL) {q : Fin 4} {i : Nat} {x : Int64} (d : decode cc pc = .ok (.lstore_n q, 1)) (hi : (q : Nat) = i) (hn : i + 1 < nL) (e : (i, Value.long x) :: lv.filter (fun q => !(q.1 == i) && (!(q.1 == i + 1) && !(q.1 + 1 == i && q.2.category == 2))) = lv') (h : V κ nL k n (pc + 1) lv' rest ws) : V κ nL k n pc lv (.long x :: rest) ws := fun H locs ls hP hD hS hl => lv_lstore_n X.1 X.2.1 d hi hl hn e (fun _ hl2 => (h H locs _ hP hD hS hl2))
theorem v_lstore (X : Cx κ cc own rm nL) {i : Nat} {x : Int64} (d : decode cc pc = .ok (.lstore i, 2)) (hn : i + 1 < nL) (e : (i, Value.long x) :: lv.filter (fun q => !(q.1 == i) && (!(q.1 == i + 1) && !(q.1 + 1 == i && q.2.category == 2))) = lv') (h : V κ nL k n (pc + 2) lv' rest ws) : V κ nL k n pc lv (.long x :: rest) ws := fun H locs ls hP hD hS hl => lv_lstore X.1 X.2.1 d hl hn e (fun _ hl2 => (h H locs _ hP hD hS hl2))
theorem v_aload_n (X : Cx κ cc own rm nL) (j : Nat) {q : Fin 4} {x : Nat} (d : decode cc pc = .ok (.aload_n q, 1)) (hj : lv[j]? = some ((q : Nat), .ref x)) (h : V κ nL k n (pc + 1) lv (.ref x :: rest) ws) : V κ nL k n pc lv rest ws := fun H locs ls hP hD hS hl => lv_aload_n X.1 X.2.1 d rfl (lv_at hl j hj) (h H locs ls hP hD hS hl)
theorem v_aload (X : Cx κ cc own rm nL) (j : Nat) {i : Nat} {x : Nat} (d : decode cc pc = .ok (.aload i, 2)) (hj : lv[j]? = some (i, .ref x)) (h : V κ nL k n (pc + 2) lv (.ref x :: rest) ws) : V κ nL k n pc lv rest ws := fun H locs ls hP hD hS hl => lv_aload X.1 X.2.1 d (lv_at hl j hj) (h H locs ls hP hD hS hl)
theorem v_astore_n (X : Cx κ cc own rm nL) {q : Fin 4} {i : Nat} {x : Nat} (d : decode cc pc = .ok (.astore_n q, 1)) (hi : (q : Nat) = i) (hn : i < nL) (e : (i, Value.ref x) :: lv.filter (fun q => !(q.1 == i) && !(q.1 + 1 == i && q.2.category == 2)) = lv') (h : V κ nL k n (pc + 1) lv' rest ws) : V κ nL k n pc lv (.ref x :: rest) ws := fun H locs ls hP hD hS hl => lv_astore_n X.1 X.2.1 d hi hl hn e (fun _ hl2 => (h H locs _ hP hD hS hl2))
theorem v_astore (X : Cx κ cc own rm nL) {i : Nat} {x : Nat} (d : decode cc pc = .ok (.astore i, 2)) (hn : i < nL) (e : (i, Value.ref x) :: lv.filter (fun q => !(q.1 == i) && !(q.1 + 1 == i && q.2.category == 2)) = lv') (h : V κ nL k n (pc + 2) lv' rest ws) : V κ nL k n pc lv (.ref x :: rest) ws := fun H locs ls hP hD hS hl => lv_astore X.1 X.2.1 d hl hn e (fun _ hl2 => (h H locs _ hP hD hS hl2))
theorem v_iinc (X : Cx κ cc own rm nL) (j : Nat) {i : Nat} {c : Int} {x v : Int32} (d : decode cc pc = .ok (.iinc i c, 3)) (hj : lv[j]? = some (i, .int x)) (hv : x + Int32.ofInt c = v) (hn : i < nL) (e : (i, Value.int v) :: lv.filter (fun q => !(q.1 == i) && !(q.1 + 1 == i && q.2.category == 2)) = lv') (h : V κ nL k n (pc + 3) lv' rest ws) : V κ nL k n pc lv rest ws := fun H locs ls hP hD hS hl => lv_iinc X.1 X.2.1 d hl hj hv hn e (fun _ hl2 => (h H locs _ hP hD hS hl2))
theorem v_dup (X : Cx κ cc own rm nL) {u : Value} (d : decode cc pc = .ok (.dup, 1)) (hu : u.category = 1) (h : V κ nL k n (pc + 1) lv (u :: u :: rest) ws) : V κ nL k n pc lv (u :: rest) ws := fun H locs ls hP hD hS hl => lv_dup X.1 X.2.1 d hu (h H locs ls hP hD hS hl)
theorem v_dup2 (X : Cx κ cc own rm nL) {u w : Value} (d : decode cc pc = .ok (.dup2, 1)) (hu : u.category = 1) (hw : w.category = 1) (h : V κ nL k n (pc + 1) lv (u :: w :: u :: w :: rest) ws) : V κ nL k n pc lv (u :: w :: rest) ws := fun H locs ls hP hD hS hl => lv_dup2_11 X.1 X.2.1 d hu hw (h H locs ls hP hD hS hl)
theorem v_dup_x1 (X : Cx κ cc own rm nL) {u w : Value} (d : decode cc pc = .ok (.dup_x1, 1)) (hu : u.category = 1) (hw : w.category = 1) (h : V κ nL k n (pc + 1) lv (u :: w :: u :: rest) ws) : V κ nL k n pc lv (u :: w :: rest) ws := fun H locs ls hP hD hS hl => lv_dup_x1 X.1 X.2.1 d hu hw (h H locs ls hP hD hS hl)
theorem v_dup2_x1 (X : Cx κ cc own rm nL) {u w : Value} (d : decode cc pc = .ok (.dup2_x1, 1)) (hu : u.category = 2) (hw : w.category = 1) (h : V κ nL k n (pc + 1) lv (u :: w :: u :: rest) ws) : V κ nL k n pc lv (u :: w :: rest) ws := fun H locs ls hP hD hS hl => lv_dup2_x1_2 X.1 X.2.1 d hu hw (h H locs ls hP hD hS hl)
theorem v_pop (X : Cx κ cc own rm nL) {u : Value} (d : decode cc pc = .ok (.pop, 1)) (hu : u.category = 1) (h : V κ nL k n (pc + 1) lv rest ws) : V κ nL k n pc lv (u :: rest) ws := fun H locs ls hP hD hS hl => lv_pop X.1 X.2.1 d hu (h H locs ls hP hD hS hl)
theorem v_goto (X : Cx κ cc own rm nL) (tgt : Nat) {off : Int} (d : decode cc pc = .ok (.goto off, 3)) (ht : (pc : Int) + off = (tgt : Int)) (h : V κ nL k n tgt lv rest ws) : V κ nL k n pc lv rest ws := fun H locs ls hP hD hS hl => lv_goto X.1 X.2.1 d ht (h H locs ls hP hD hS hl)
theorem v_if_eq (X : Cx κ cc own rm nL) (tgt : Nat) {x : Int32} {off : Int} (d : decode cc pc = .ok (.ifCond .eq off, 3)) (ht : (pc : Int) + off = (tgt : Int)) (kt : x = 0 → V κ nL k n tgt lv rest ws) (kf : ¬ (x = 0) → V κ nL k n (pc + 3) lv rest ws) : V κ nL k n pc lv (.int x :: rest) ws := fun H locs ls hP hD hS hl => lv_if_eq X.1 X.2.1 d ht (fun c => kt c H locs ls hP hD hS hl) (fun c => kf c H locs ls hP hD hS hl)
theorem v_icmp_eq (X : Cx κ cc own rm nL) (tgt : Nat) {x y : Int32} {off : Int} (d : decode cc pc = .ok (.if_icmp .eq off, 3)) (ht : (pc : Int) + off = (tgt : Int)) (kt : x = y → V κ nL k n tgt lv rest ws) (kf : ¬ (x = y) → V κ nL k n (pc + 3) lv rest ws) : V κ nL k n pc lv (.int y :: .int x :: rest) ws := fun H locs ls hP hD hS hl => lv_icmp_eq X.1 X.2.1 d ht (fun c => kt c H locs ls hP hD hS hl) (fun c => kf c H locs ls hP hD hS hl)
theorem v_lcmp_eq (X : Cx κ cc own rm nL) (tgt : Nat) {x y : Int64} {off : Int} (d1 : decode cc pc = .ok (.lcmp, 1)) (d2 : decode cc (pc + 1) = .ok (.ifCond .eq off, 3)) (ht : ((pc + 1 : Nat) : Int) + off = (tgt : Int)) (kt : x = y → V κ nL k n tgt lv rest ws) (kf : ¬ (x = y) → V κ nL k n (pc + 4) lv rest ws) : V κ nL k n pc lv (.long y :: .long x :: rest) ws := fun H locs ls hP hD hS hl => W.lcmp X.1 X.2.1 d1 (lv_if_eq X.1 X.2.1 d2 ht (fun c => kt ((lg_cmp_eq x y).mp c) H locs ls hP hD hS hl) (fun c => kf (fun z => c ((lg_cmp_eq x y).mpr z)) H locs ls hP hD hS hl))
theorem v_if_ne (X : Cx κ cc own rm nL) (tgt : Nat) {x : Int32} {off : Int} (d : decode cc pc = .ok (.ifCond .ne off, 3)) (ht : (pc : Int) + off = (tgt : Int)) (kt : ¬ x = 0 → V κ nL k n tgt lv rest ws) (kf : x = 0 → V κ nL k n (pc + 3) lv rest ws) : V κ nL k n pc lv (.int x :: rest) ws := fun H locs ls hP hD hS hl => lv_if_ne X.1 X.2.1 d ht (fun c => kt c H locs ls hP hD hS hl) (fun c => kf c H locs ls hP hD hS hl)
theorem v_icmp_ne (X : Cx κ cc own rm nL) (tgt : Nat) {x y : Int32} {off : Int} (d : decode cc pc = .ok (.if_icmp .ne off, 3)) (ht : (pc : Int) + off = (tgt : Int)) (kt : ¬ x = y → V κ nL k n tgt lv rest ws) (kf : x = y → V κ nL k n (pc + 3) lv rest ws) : V κ nL k n pc lv (.int y :: .int x :: rest) ws := fun H locs ls hP hD hS hl => lv_icmp_ne X.1 X.2.1 d ht (fun c => kt c H locs ls hP hD hS hl) (fun c => kf c H locs ls hP hD hS hl)
theorem v_lcmp_ne (X : Cx κ cc own rm nL) (tgt : Nat) {x y : Int64} {off : Int} (d1 : decode cc pc = .ok (.lcmp, 1)) (d2 : decode cc (pc + 1) = .ok (.ifCond .ne off, 3)) (ht : ((pc + 1 : Nat) : Int) + off = (tgt : Int)) (kt : ¬ x = y → V κ nL k n tgt lv rest ws) (kf : x = y → V κ nL k n (pc + 4) lv rest ws) : V κ nL k n pc lv (.long y :: .long x :: rest) ws := fun H locs ls hP hD hS hl => W.lcmp X.1 X.2.1 d1 (lv_if_ne X.1 X.2.1 d2 ht (fun c => kt ((not_congr (lg_cmp_eq x y)).mp c) H locs ls hP hD hS hl) (fun c => kf ((lg_cmp_eq x y).mp c) H locs ls hP hD hS hl))
theorem v_if_lt (X : Cx κ cc own rm nL) (tgt : Nat) {x : Int32} {off : Int} (d : decode cc pc = .ok (.ifCond .lt off, 3)) (ht : (pc : Int) + off = (tgt : Int)) (kt : x < 0 → V κ nL k n tgt lv rest ws) (kf : ¬ (x < 0) → V κ nL k n (pc + 3) lv rest ws) : V κ nL k n pc lv (.int x :: rest) ws := fun H locs ls hP hD hS hl => lv_if_lt X.1 X.2.1 d ht (fun c => kt c H locs ls hP hD hS hl) (fun c => kf c H locs ls hP hD hS hl)
theorem v_icmp_lt (X : Cx κ cc own rm nL) (tgt : Nat) {x y : Int32} {off : Int} (d : decode cc pc = .ok (.if_icmp .lt off, 3)) (ht : (pc : Int) + off = (tgt : Int)) (kt : x < y → V κ nL k n tgt lv rest ws) (kf : ¬ (x < y) → V κ nL k n (pc + 3) lv rest ws) : V κ nL k n pc lv (.int y :: .int x :: rest) ws := fun H locs ls hP hD hS hl => lv_icmp_lt X.1 X.2.1 d ht (fun c => kt c H locs ls hP hD hS hl) (fun c => kf c H locs ls hP hD hS hl)
theorem v_lcmp_lt (X : Cx κ cc own rm nL) (tgt : Nat) {x y : Int64} {off : Int} (d1 : decode cc pc = .ok (.lcmp, 1)) (d2 : decode cc (pc + 1) = .ok (.ifCond .lt off, 3)) (ht : ((pc + 1 : Nat) : Int) + off = (tgt : Int)) (kt : x < y → V κ nL k n tgt lv rest ws) (kf : ¬ (x < y) → V κ nL k n (pc + 4) lv rest ws) : V κ nL k n pc lv (.long y :: .long x :: rest) ws := fun H locs ls hP hD hS hl => W.lcmp X.1 X.2.1 d1 (lv_if_lt X.1 X.2.1 d2 ht (fun c => kt ((lg_cmp_lt x y).mp c) H locs ls hP hD hS hl) (fun c => kf (fun z => c ((lg_cmp_lt x y).mpr z)) H locs ls hP hD hS hl))
theorem v_if_ge (X : Cx κ cc own rm nL) (tgt : Nat) {x : Int32} {off : Int} (d : decode cc pc = .ok (.ifCond .ge off, 3)) (ht : (pc : Int) + off = (tgt : Int)) (kt : 0 ≤ x → V κ nL k n tgt lv rest ws) (kf : ¬ (0 ≤ x) → V κ nL k n (pc + 3) lv rest ws) : V κ nL k n pc lv (.int x :: rest) ws := fun H locs ls hP hD hS hl => lv_if_ge X.1 X.2.1 d ht (fun c => kt c H locs ls hP hD hS hl) (fun c => kf c H locs ls hP hD hS hl)
theorem v_icmp_ge (X : Cx κ cc own rm nL) (tgt : Nat) {x y : Int32} {off : Int} (d : decode cc pc = .ok (.if_icmp .ge off, 3)) (ht : (pc : Int) + off = (tgt : Int)) (kt : y ≤ x → V κ nL k n tgt lv rest ws) (kf : ¬ (y ≤ x) → V κ nL k n (pc + 3) lv rest ws) : V κ nL k n pc lv (.int y :: .int x :: rest) ws := fun H locs ls hP hD hS hl => lv_icmp_ge X.1 X.2.1 d ht (fun c => kt c H locs ls hP hD hS hl) (fun c => kf c H locs ls hP hD hS hl)
theorem v_lcmp_ge (X : Cx κ cc own rm nL) (tgt : Nat) {x y : Int64} {off : Int} (d1 : decode cc pc = .ok (.lcmp, 1)) (d2 : decode cc (pc + 1) = .ok (.ifCond .ge off, 3)) (ht : ((pc + 1 : Nat) : Int) + off = (tgt : Int)) (kt : y ≤ x → V κ nL k n tgt lv rest ws) (kf : ¬ (y ≤ x) → V κ nL k n (pc + 4) lv rest ws) : V κ nL k n pc lv (.long y :: .long x :: rest) ws := fun H locs ls hP hD hS hl => W.lcmp X.1 X.2.1 d1 (lv_if_ge X.1 X.2.1 d2 ht (fun c => kt ((lg_cmp_ge x y).mp c) H locs ls hP hD hS hl) (fun c => kf (fun z => c ((lg_cmp_ge x y).mpr z)) H locs ls hP hD hS hl))
theorem v_if_gt (X : Cx κ cc own rm nL) (tgt : Nat) {x : Int32} {off : Int} (d : decode cc pc = .ok (.ifCond .gt off, 3)) (ht : (pc : Int) + off = (tgt : Int)) (kt : 0 < x → V κ nL k n tgt lv rest ws) (kf : ¬ (0 < x) → V κ nL k n (pc + 3) lv rest ws) : V κ nL k n pc lv (.int x :: rest) ws := fun H locs ls hP hD hS hl => lv_if_gt X.1 X.2.1 d ht (fun c => kt c H locs ls hP hD hS hl) (fun c => kf c H locs ls hP hD hS hl)
theorem v_icmp_gt (X : Cx κ cc own rm nL) (tgt : Nat) {x y : Int32} {off : Int} (d : decode cc pc = .ok (.if_icmp .gt off, 3)) (ht : (pc : Int) + off = (tgt : Int)) (kt : y < x → V κ nL k n tgt lv rest ws) (kf : ¬ (y < x) → V κ nL k n (pc + 3) lv rest ws) : V κ nL k n pc lv (.int y :: .int x :: rest) ws := fun H locs ls hP hD hS hl => lv_icmp_gt X.1 X.2.1 d ht (fun c => kt c H locs ls hP hD hS hl) (fun c => kf c H locs ls hP hD hS hl)
theorem v_lcmp_gt (X : Cx κ cc own rm nL) (tgt : Nat) {x y : Int64} {off : Int} (d1 : decode cc pc = .ok (.lcmp, 1)) (d2 : decode cc (pc + 1) = .ok (.ifCond .gt off, 3)) (ht : ((pc + 1 : Nat) : Int) + off = (tgt : Int)) (kt : y < x → V κ nL k n tgt lv rest ws) (kf : ¬ (y < x) → V κ nL k n (pc + 4) lv rest ws) : V κ nL k n pc lv (.long y :: .long x :: rest) ws := fun H locs ls hP hD hS hl => W.lcmp X.1 X.2.1 d1 (lv_if_gt X.1 X.2.1 d2 ht (fun c => kt ((lg_cmp_gt x y).mp c) H locs ls hP hD hS hl) (fun c => kf (fun z => c ((lg_cmp_gt x y).mpr z)) H locs ls hP hD hS hl))
theorem v_if_le (X : Cx κ cc own rm nL) (tgt : Nat) {x : Int32} {off : Int} (d : decode cc pc = .ok (.ifCond .le off, 3)) (ht : (pc : Int) + off = (tgt : Int)) (kt : x ≤ 0 → V κ nL k n tgt lv rest ws) (kf : ¬ (x ≤ 0) → V κ nL k n (pc + 3) lv rest ws) : V κ nL k n pc lv (.int x :: rest) ws := fun H locs ls hP hD hS hl => lv_if_le X.1 X.2.1 d ht (fun c => kt c H locs ls hP hD hS hl) (fun c => kf c H locs ls hP hD hS hl)
theorem v_icmp_le (X : Cx κ cc own rm nL) (tgt : Nat) {x y : Int32} {off : Int} (d : decode cc pc = .ok (.if_icmp .le off, 3)) (ht : (pc : Int) + off = (tgt : Int)) (kt : x ≤ y → V κ nL k n tgt lv rest ws) (kf : ¬ (x ≤ y) → V κ nL k n (pc + 3) lv rest ws) : V κ nL k n pc lv (.int y :: .int x :: rest) ws := fun H locs ls hP hD hS hl => lv_icmp_le X.1 X.2.1 d ht (fun c => kt c H locs ls hP hD hS hl) (fun c => kf c H locs ls hP hD hS hl)
theorem v_lcmp_le (X : Cx κ cc own rm nL) (tgt : Nat) {x y : Int64} {off : Int} (d1 : decode cc pc = .ok (.lcmp, 1)) (d2 : decode cc (pc + 1) = .ok (.ifCond .le off, 3)) (ht : ((pc + 1 : Nat) : Int) + off = (tgt : Int)) (kt : x ≤ y → V κ nL k n tgt lv rest ws) (kf : ¬ (x ≤ y) → V κ nL k n (pc + 4) lv rest ws) : V κ nL k n pc lv (.long y :: .long x :: rest) ws := fun H locs ls hP hD hS hl => W.lcmp X.1 X.2.1 d1 (lv_if_le X.1 X.2.1 d2 ht (fun c => kt ((lg_cmp_le x y).mp c) H locs ls hP hD hS hl) (fun c => kf (fun z => c ((lg_cmp_le x y).mpr z)) H locs ls hP hD hS hl))
theorem v_ifnull (X : Cx κ cc own rm nL) {x : Nat} {off : Int} (d : decode cc pc = .ok (.ifnull off, 3)) (h : V κ nL k n (pc + 3) lv rest ws) : V κ nL k n pc lv (.ref x :: rest) ws := fun H locs ls hP hD hS hl => lv_ifnull X.1 X.2.1 d (h H locs ls hP hD hS hl)
theorem v_ifnonnull (X : Cx κ cc own rm nL) (tgt : Nat) {x : Nat} {off : Int} (d : decode cc pc = .ok (.ifnonnull off, 3)) (ht : (pc : Int) + off = (tgt : Int)) (h : V κ nL k n tgt lv rest ws) : V κ nL k n pc lv (.ref x :: rest) ws := fun H locs ls hP hD hS hl => lv_ifnonnull X.1 X.2.1 d ht (h H locs ls hP hD hS hl)
theorem v_ifnullN (X : Cx κ cc own rm nL) (tgt : Nat) {off : Int} (d : decode cc pc = .ok (.ifnull off, 3)) (ht : (pc : Int) + off = (tgt : Int)) (h : V κ nL k n tgt lv rest ws) : V κ nL k n pc lv (.null :: rest) ws := fun H locs ls hP hD hS hl => lv_ifnullN X.1 X.2.1 d ht (h H locs ls hP hD hS hl)
theorem v_ifnonnullN (X : Cx κ cc own rm nL) {off : Int} (d : decode cc pc = .ok (.ifnonnull off, 3)) (h : V κ nL k n (pc + 3) lv rest ws) : V κ nL k n pc lv (.null :: rest) ws := fun H locs ls hP hD hS hl => lv_ifnonnullN X.1 X.2.1 d (h H locs ls hP hD hS hl)
theorem v_aload_nN (X : Cx κ cc own rm nL) (j : Nat) {q : Fin 4} (d : decode cc pc = .ok (.aload_n q, 1)) (hj : lv[j]? = some ((q : Nat), .null)) (h : V κ nL k n (pc + 1) lv (.null :: rest) ws) : V κ nL k n pc lv rest ws := fun H locs ls hP hD hS hl => lv_aload_nN X.1 X.2.1 d rfl (lv_at hl j hj) (h H locs ls hP hD hS hl)
theorem v_aloadN (X : Cx κ cc own rm nL) (j : Nat) {i : Nat} (d : decode cc pc = .ok (.aload i, 2)) (hj : lv[j]? = some (i, .null)) (h : V κ nL k n (pc + 2) lv (.null :: rest) ws) : V κ nL k n pc lv rest ws := fun H locs ls hP hD hS hl => lv_aloadN X.1 X.2.1 d (lv_at hl j hj) (h H locs ls hP hD hS hl)
theorem v_astore_nN (X : Cx κ cc own rm nL) {q : Fin 4} {i : Nat} (d : decode cc pc = .ok (.astore_n q, 1)) (hi : (q : Nat) = i) (hn : i < nL) (e : (i, Value.null) :: lv.filter (fun q => !(q.1 == i) && !(q.1 + 1 == i && q.2.category == 2)) = lv') (h : V κ nL k n (pc + 1) lv' rest ws) : V κ nL k n pc lv (.null :: rest) ws := fun H locs ls hP hD hS hl => lv_astore_nN X.1 X.2.1 d hi hl hn e (fun _ hl2 => (h H locs _ hP hD hS hl2))
theorem v_astoreN (X : Cx κ cc own rm nL) {i : Nat} (d : decode cc pc = .ok (.astore i, 2)) (hn : i < nL) (e : (i, Value.null) :: lv.filter (fun q => !(q.1 == i) && !(q.1 + 1 == i && q.2.category == 2)) = lv') (h : V κ nL k n (pc + 2) lv' rest ws) : V κ nL k n pc lv (.null :: rest) ws := fun H locs ls hP hD hS hl => lv_astoreN X.1 X.2.1 d hl hn e (fun _ hl2 => (h H locs _ hP hD hS hl2))
theorem v_get (X : Cx κ cc own rm nL) {C : String} {T : u_T} {N ci index a : Nat} {fs : List Value} (q0 j : Nat) {v : Value} (he : ws[q0]? = some (a, .inr (ci, fs))) (hc : CLS[ci]? = some (C, T, N)) (hin : ∀ w ∈ u_ws C T N, w ∈ BIG) (hj : j < N) (hlink : Cond.fieldLink own index (T j).1 (T j).2.1 (T j).2.2.1 ∈ BIG) (hv : fs[j]? = some v) (d : decode cc pc = .ok (.getfield index, 3)) (h : V κ nL k n (pc + 3) lv (v :: rest) ws) : V κ nL k n pc lv (.ref a :: rest) ws :=
  fun H locs ls hP hD hS hl => va_get X.1 X.2.1 X.2.2.2.2.1 hin X.2.2.2.1 X.2.2.2.2.2.1 hP q0 he hc j hj (X.2.2.2.2.1 _ hlink) (fun _ z => z) hv d (h H locs ls hP hD hS hl)
theorem v_put (X : Cx κ cc own rm nL) {C : String} {T : u_T} {N ci index a : Nat} {fs : List Value} (q0 j : Nat) {v : Value} {ty : FieldType} (ty0 : Nat → FieldType) (hty : ∀ k, k < N → parseFieldDescriptor (T k).2.2.1 = some (ty0 k)) (hnm : ∀ a, a < N → ∀ b, b < N → a ≠ b → (T a).2.1 ≠ (T b).2.1) (he : ws[q0]? = some (a, .inr (ci, fs))) (hc : CLS[ci]? = some (C, T, N)) (hin : ∀ w ∈ u_ws C T N, w ∈ BIG) (hj : j < N) (hlink : Cond.fieldLink own index (T j).1 (T j).2.1 (T j).2.2.1 ∈ BIG) (hfin : (T j).2.2.2 = false) (hd : parseFieldDescriptor (T j).2.2.1 = some ty) (hnar : narrow ty v = v) (hfit : fits ty v = true) (hl9 : j < fs.length) (d : decode cc pc = .ok (.putfield index, 3)) (e : ws.set q0 (a, .inr (ci, fs.set j v)) = ws') (h : V κ nL k n (pc + 3) lv rest ws') : V κ nL k n pc lv (v :: .ref a :: rest) ws := by
  subst e
  exact fun H locs ls hP hD hS hl => va_put X.1 X.2.1 X.2.2.2.2.1 hin ty0 hty hnm X.2.2.2.1 X.2.2.2.2.2.1 hP hD hS q0 he hc j hj (X.2.2.2.2.1 _ hlink) (fun _ z => z) hfin hd hnar hfit hl9 d (fun H1 locs1 hP1 hD1 hS1 => h H1 locs1 ls hP1 hD1 hS1 hl)
theorem v_putF (X : Cx κ cc own rm nL) (Y : Rx κ "<init>" ret G mc ms) {C : String} {T : u_T} {N ci index a : Nat} {fs : List Value} (q0 j : Nat) {v : Value} {ty : FieldType} (ty0 : Nat → FieldType) (hty : ∀ k, k < N → parseFieldDescriptor (T k).2.2.1 = some (ty0 k)) (hnm : ∀ a, a < N → ∀ b, b < N → a ≠ b → (T a).2.1 ≠ (T b).2.1) (he : ws[q0]? = some (a, .inr (ci, fs))) (hc : CLS[ci]? = some (C, T, N)) (hin : ∀ w ∈ u_ws C T N, w ∈ BIG) (hj : j < N) (hlink : Cond.fieldLink own index (T j).1 (T j).2.1 (T j).2.2.1 ∈ BIG) (hfin : (T j).2.2.2 = true) (hdecl : (T j).1 = own) (hd : parseFieldDescriptor (T j).2.2.1 = some ty) (hnar : narrow ty v = v) (hfit : fits ty v = true) (hl9 : j < fs.length) (d : decode cc pc = .ok (.putfield index, 3)) (e : ws.set q0 (a, .inr (ci, fs.set j v)) = ws') (h : V κ nL k n (pc + 3) lv rest ws') : V κ nL k n pc lv (v :: .ref a :: rest) ws := by
  subst e
  exact fun H locs ls hP hD hS hl => va_putF X.1 X.2.1 X.2.2.2.2.1 hin ty0 hty hnm X.2.2.2.1 X.2.2.2.2.2.1 hP hD hS q0 he hc j hj (X.2.2.2.2.1 _ hlink) (fun _ z => z) hfin Y.2.2.2 hdecl hd hnar hfit hl9 d (fun H1 locs1 hP1 hD1 hS1 => h H1 locs1 ls hP1 hD1 hS1 hl)
theorem v_iald (X : Cx κ cc own rm nL) (q0 t0 : Nat) {cA : ClassId} {N a : Nat} {f : Nat → Int32} {i : Int32} (ha : ws[q0]? = some (a, .inl (cA, N, .inl f))) (ht : (TY κ.z)[t0]? = some (cA, .int)) (hin : vp_in i N) (d : decode cc pc = .ok (.iaload, 1)) (h : V κ nL k n (pc + 1) lv (.int (f i.toNatClampNeg) :: rest) ws) : V κ nL k n pc lv (.int i :: .ref a :: rest) ws := fun H locs ls hP hD hS hl => va_iald X.1 X.2.1 X.2.2.2.2.2.1 hP q0 t0 ha ht hin d (h H locs ls hP hD hS hl)
theorem v_iast (X : Cx κ cc own rm nL) (q0 t0 : Nat) {cA : ClassId} {N a : Nat} {f : Nat → Int32} {i : Int32} {x : Int32} (ha : ws[q0]? = some (a, .inl (cA, N, .inl f))) (ht : (TY κ.z)[t0]? = some (cA, .int)) (hin : vp_in i N) (d : decode cc pc = .ok (.iastore, 1)) (e : ws.set q0 (a, .inl (cA, N, .inl (upd f i.toNatClampNeg x))) = ws') (h : V κ nL k n (pc + 1) lv rest ws') : V κ nL k n pc lv (.int x :: .int i :: .ref a :: rest) ws := by
  subst e
  exact fun H locs ls hP hD hS hl => va_iast X.1 X.2.1 X.2.2.2.2.2.1 hP hD hS q0 t0 ha ht hin d (fun H1 locs1 hP1 hD1 hS1 => h H1 locs1 ls hP1 hD1 hS1 hl)
theorem v_lald (X : Cx κ cc own rm nL) (q0 t0 : Nat) {cA : ClassId} {N a : Nat} {f : Nat → Int64} {i : Int32} (ha : ws[q0]? = some (a, .inl (cA, N, .inr (.inl f)))) (ht : (TY κ.z)[t0]? = some (cA, .long)) (hin : vp_in i N) (d : decode cc pc = .ok (.laload, 1)) (h : V κ nL k n (pc + 1) lv (.long (f i.toNatClampNeg) :: rest) ws) : V κ nL k n pc lv (.int i :: .ref a :: rest) ws := fun H locs ls hP hD hS hl => va_lald X.1 X.2.1 X.2.2.2.2.2.1 hP q0 t0 ha ht hin d (h H locs ls hP hD hS hl)
theorem v_last (X : Cx κ cc own rm nL) (q0 t0 : Nat) {cA : ClassId} {N a : Nat} {f : Nat → Int64} {i : Int32} {x : Int64} (ha : ws[q0]? = some (a, .inl (cA, N, .inr (.inl f)))) (ht : (TY κ.z)[t0]? = some (cA, .long)) (hin : vp_in i N) (d : decode cc pc = .ok (.lastore, 1)) (e : ws.set q0 (a, .inl (cA, N, .inr (.inl (vp_updL f i.toNatClampNeg x)))) = ws') (h : V κ nL k n (pc + 1) lv rest ws') : V κ nL k n pc lv (.long x :: .int i :: .ref a :: rest) ws := by
  subst e
  exact fun H locs ls hP hD hS hl => va_last X.1 X.2.1 X.2.2.2.2.2.1 hP hD hS q0 t0 ha ht hin d (fun H1 locs1 hP1 hD1 hS1 => h H1 locs1 ls hP1 hD1 hS1 hl)
theorem v_aald (X : Cx κ cc own rm nL) (q0 t0 : Nat) {cA : ClassId} {C : String} {N a : Nat} {f : Nat → Option Nat} {i : Int32} (ha : ws[q0]? = some (a, .inl (cA, N, .inr (.inr (.inr (.inr f)))))) (ht : (TY κ.z)[t0]? = some (cA, .object C)) (hin : vp_in i N) (d : decode cc pc = .ok (.aaload, 1)) (h : V κ nL k n (pc + 1) lv (va_rf (f i.toNatClampNeg) :: rest) ws) : V κ nL k n pc lv (.int i :: .ref a :: rest) ws := fun H locs ls hP hD hS hl => va_aldq X.1 X.2.1 X.2.2.2.2.2.1 hP q0 t0 ha ht hin d (h H locs ls hP hD hS hl)
theorem v_aast (X : Cx κ cc own rm nL) (q0 t0 qk ci : Nat) {cA : ClassId} {r : vw_C} {N v a : Nat} {vs : List Value} {f : Nat → Option Nat} {i : Int32} (ha : ws[q0]? = some (a, .inl (cA, N, .inr (.inr (.inr (.inr f)))))) (ht : (TY κ.z)[t0]? = some (cA, .object r.1)) (hv : ws[qk]? = some (v, .inr (ci, vs))) (hc : CLS[ci]? = some r) (hin : vp_in i N) (d : decode cc pc = .ok (.aastore, 1)) (e : ws.set q0 (a, .inl (cA, N, .inr (.inr (.inr (.inr (va_up f i.toNatClampNeg (some v))))))) = ws') (h : V κ nL k n (pc + 1) lv rest ws') : V κ nL k n pc lv (.ref v :: .int i :: .ref a :: rest) ws := by
  subst e
  exact fun H locs ls hP hD hS hl => va_astq X.1 X.2.1 X.2.2.2.2.2.1 hP hD hS q0 t0 qk ci ha ht hv hc hin d (fun H1 locs1 hP1 hD1 hS1 => h H1 locs1 ls hP1 hD1 hS1 hl)
theorem v_alen (X : Cx κ cc own rm nL) (q0 t0 : Nat) {cA : ClassId} {x : vp_A} {a : Nat} {ty : FieldType} (v : Int32) (ha : ws[q0]? = some (a, .inl (cA, x))) (ht : (TY κ.z)[t0]? = some (cA, ty)) (hv : Int32.ofNat x.1 = v) (d : decode cc pc = .ok (.arraylength, 1)) (h : V κ nL k n (pc + 1) lv (.int v :: rest) ws) : V κ nL k n pc lv (.ref a :: rest) ws := fun H locs ls hP hD hS hl => va_alen X.1 X.2.1 X.2.2.2.2.2.1 hP q0 t0 ha ht hv d (h H locs ls hP hD hS hl)
theorem v_new (X : Cx κ cc own rm nL) {C : String} {T : u_T} {N ci index : Nat} {fs : List Value} (ty : Nat → FieldType) (hty : ∀ k, k < N → parseFieldDescriptor (T k).2.2.1 = some (ty k)) (hc : CLS[ci]? = some (C, T, N)) (hin : ∀ w ∈ u_ws C T N, w ∈ BIG) (hcl : Cond.classLink own index C ∈ BIG) (hinst : Cond.instantiable C N ∈ BIG) (hini : Cond.initialized C ∈ BIG) (hfs : ∀ j, j < N → defaultValue (ty j) = vp_V fs j) (hk : k + 1 ≤ rm.cells) (hn : n + N ≤ rm.slots) (d : decode cc pc = .ok (.new index, 3)) (h : ∀ q : Nat, V κ nL (k + 1) (n + N) (pc + 3) lv (.ref q :: rest) (ws ++ [(q, .inr (ci, fs))])) : V κ nL k n pc lv rest ws :=
  fun H locs ls hP hD hS hl => va_new X.1 X.2.1 X.2.2.2.2.1 hin ty hty X.2.2.2.1 (X.2.2.2.2.1 _ hcl) (X.2.2.2.2.1 _ hinst) (X.2.2.2.2.1 _ hini) X.2.2.2.2.2.1 hP hD hS X.2.2.2.2.2.2.1 hc hfs (by rw [X.2.2.2.2.2.2.2.1]; exact hk) (by rw [X.2.2.2.2.2.2.2.1]; exact hn) d (fun q H1 hP1 hD1 hS1 => h q H1 locs ls hP1 hD1 hS1 hl)
theorem v_objInit (X : Cx κ cc own rm nL) {idx a : Nat} (hlink : Cond.methodLink own idx Lib.objectInit ∈ BIG) (hinst : Cond.instanceMethod Lib.objectInit ∈ BIG) (hcode : Cond.code Lib.objectInit ⟨#[0xb1]⟩ 1 none ∈ BIG) (d : decode cc pc = .ok (.invokespecial idx, 3)) (hfr : 1 ≤ rm.frames) (hlo : (rest.map fun v => v.category).sum + 12 ≤ rm.locals) (h : V κ nL k n (pc + 3) lv rest ws) : V κ nL k n pc lv (.ref a :: rest) ws :=
  fun H locs ls hP hD hS hl => W.objInit X.1 X.2.1 X.2.2.2.1 (X.2.2.2.2.1 _ hlink) (X.2.2.2.2.1 _ hinst) (X.2.2.2.2.1 _ hcode) rfl (by rw [X.2.2.1]; exact hl.1) rfl d (by rw [X.2.2.2.2.2.2.2.1]; exact hfr) (by rw [X.2.2.2.2.2.2.2.1]; show 2 * 0 + _ + 12 ≤ _; omega) (W.eq (g2 := F0 κ.m (pc + 3) ls rest) rfl (h H locs ls hP hD hS hl))
theorem v_iret (X : Cx κ cc own rm nL) (Y : Rx κ nm (some .int) G mc ms) {v : Int32} (hk : k ≤ mc) (hn : n ≤ ms) (d : decode cc pc = .ok (.ireturn, 1)) (h : G (some (.int v)) ws) : V κ nL k n pc lv [.int v] ws := by
  intro H locs ls hP hD hS hl
  rw [Y.2.2.1]
  exact W.widen hk hn (W.iret X.1 X.2.1 Y.1 (fun t ht hW => ⟨⟨_, ws, rfl, h, by rw [ht]; exact hP, hD⟩, hS.F ht⟩) hS.2.2 d Y.2.1)
theorem v_lret (X : Cx κ cc own rm nL) (Y : Rx κ nm (some .long) G mc ms) {v : Int64} (hk : k ≤ mc) (hn : n ≤ ms) (d : decode cc pc = .ok (.lreturn, 1)) (h : G (some (.long v)) ws) : V κ nL k n pc lv [.long v] ws := by
  intro H locs ls hP hD hS hl
  rw [Y.2.2.1]
  exact W.widen hk hn (W.lret X.1 X.2.1 Y.1 (fun t ht hW => ⟨⟨_, ws, rfl, h, by rw [ht]; exact hP, hD⟩, hS.F ht⟩) hS.2.2 d Y.2.1)
theorem v_zret (X : Cx κ cc own rm nL) (Y : Rx κ nm (some .boolean) G mc ms) {v : Int32} (hk : k ≤ mc) (hn : n ≤ ms) (d : decode cc pc = .ok (.ireturn, 1)) (hv : narrow .boolean (.int v) = .int v) (h : G (some (.int v)) ws) : V κ nL k n pc lv [.int v] ws := by
  intro H locs ls hP hD hS hl
  rw [Y.2.2.1]
  exact W.widen hk hn (W.zret X.1 X.2.1 Y.1 hv (fun t ht hW => ⟨⟨_, ws, rfl, h, by rw [ht]; exact hP, hD⟩, hS.F ht⟩) hS.2.2 d Y.2.1)
theorem v_vret (X : Cx κ cc own rm nL) (Y : Rx κ nm none G mc ms) (hk : k ≤ mc) (hn : n ≤ ms) (d : decode cc pc = .ok (.return_, 1)) (h : G none ws) : V κ nL k n pc lv [] ws := by
  intro H locs ls hP hD hS hl
  rw [Y.2.2.1]
  exact W.widen hk hn (W.vret X.1 X.2.1 Y.1 (fun t ht hW => ⟨⟨_, ws, rfl, h, by rw [ht]; exact hP, hD⟩, hS.F ht⟩) hS.2.2 d Y.2.1)
theorem v_aret (X : Cx κ cc own rm nL) {C : String} (Y : Rx κ nm (some (.object C)) G mc ms) {v : Value} (hk : k ≤ mc) (hn : n ≤ ms) (d : decode cc pc = .ok (.areturn, 1)) (hv : v = .null ∨ ∃ a, v = .ref a) (h : G (some v) ws) : V κ nL k n pc lv [v] ws := by
  intro H locs ls hP hD hS hl
  rw [Y.2.2.1]
  exact W.widen hk hn (W.aret X.1 X.2.1 Y.1 (Or.inl ⟨_, rfl⟩) hv (fun t ht hW => ⟨⟨_, ws, rfl, h, by rw [ht]; exact hP, hD⟩, hS.F ht⟩) hS.2.2 d Y.2.1)
theorem v_aaldS (X : Cx κ cc own rm nL) (q0 t0 : Nat) {cA : ClassId} {C : String} {N a b : Nat} {f : Nat → Option Nat} {i : Int32} (ha : ws[q0]? = some (a, .inl (cA, N, .inr (.inr (.inr (.inr f)))))) (ht : (TY κ.z)[t0]? = some (cA, .object C)) (hin : vp_in i N) (hf : f i.toNatClampNeg = some b) (d : decode cc pc = .ok (.aaload, 1)) (h : V κ nL k n (pc + 1) lv (.ref b :: rest) ws) : V κ nL k n pc lv (.int i :: .ref a :: rest) ws := v_aald X q0 t0 ha ht hin d (by rw [hf]; exact h)
theorem v_arr_same (X : Cx κ cc own rm nL) {cA cB : ClassId} {ty : FieldType} {t0 : Nat} (ht : (TY κ.z)[t0]? = some (cA, ty)) (hK : va_K κ.D CLS (TY κ.z ++ [(cB, ty)]) κ.s) : cB = cA := by
  have h1 := (X.2.2.2.2.2.1.2 t0 _ ht).2
  have h2 := (hK.2 (TY κ.z).length (cB, ty) (by simp)).2
  cases ty with
  | object C =>
    obtain ⟨_, _, _, _, _, e1⟩ := h1
    obtain ⟨_, _, _, _, _, e2⟩ := h2
    exact Option.some.inj (e2.symm.trans e1)
  | _ => exact Option.some.inj (Eq.trans (Eq.symm h2) h1)
theorem v_newI (X : Cx κ cc own rm nL) (t0 N' : Nat) {cA : ClassId} {v : Int32} {at9 : ArrayType} (hat : newarray.typeOf at9 = .int) (ht : (TY κ.z)[t0]? = some (cA, .int)) (harr : Cond.arrayClass .int ∈ BIG) (hv : ¬ v < 0) (hN : v.toNatClampNeg = N') (hby : N' * 4 ≤ 536870912) (hk : k + 1 ≤ rm.cells) (hn : n + N' ≤ rm.slots) (d : decode cc pc = .ok (.newarray at9, 2)) (h : ∀ q : Nat, V κ nL (k + 1) (n + N') (pc + 2) lv (.ref q :: rest) (ws ++ [(q, .inl (cA, N', .inl (fun _ => 0)))])) : V κ nL k n pc lv (.int v :: rest) ws :=
  fun H locs ls hP hD hS hl => va_newa X.1 X.2.1 (by rw [hat]; exact X.2.2.2.2.1 _ harr) hat X.2.2.2.2.2.1 hP hD hS X.2.2.2.2.2.2.1 (a0 := (N', .inl (fun _ => 0))) (fun _ => rfl) hv hN hby (by rw [X.2.2.2.2.2.2.2.1]; exact hk) (by rw [X.2.2.2.2.2.2.2.1]; exact hn) d (fun q cB H1 hK1 hP1 hD1 hS1 => by
    have e := v_arr_same X ht hK1
    subst e
    exact h q H1 locs ls hP1 hD1 hS1 hl)
theorem v_newJ (X : Cx κ cc own rm nL) (t0 N' : Nat) {cA : ClassId} {v : Int32} {at9 : ArrayType} (hat : newarray.typeOf at9 = .long) (ht : (TY κ.z)[t0]? = some (cA, .long)) (harr : Cond.arrayClass .long ∈ BIG) (hv : ¬ v < 0) (hN : v.toNatClampNeg = N') (hby : N' * 8 ≤ 536870912) (hk : k + 1 ≤ rm.cells) (hn : n + N' ≤ rm.slots) (d : decode cc pc = .ok (.newarray at9, 2)) (h : ∀ q : Nat, V κ nL (k + 1) (n + N') (pc + 2) lv (.ref q :: rest) (ws ++ [(q, .inl (cA, N', .inr (.inl (fun _ => 0))))])) : V κ nL k n pc lv (.int v :: rest) ws :=
  fun H locs ls hP hD hS hl => va_newa X.1 X.2.1 (by rw [hat]; exact X.2.2.2.2.1 _ harr) hat X.2.2.2.2.2.1 hP hD hS X.2.2.2.2.2.2.1 (a0 := (N', .inr (.inl (fun _ => 0)))) (fun _ => rfl) hv hN hby (by rw [X.2.2.2.2.2.2.2.1]; exact hk) (by rw [X.2.2.2.2.2.2.2.1]; exact hn) d (fun q cB H1 hK1 hP1 hD1 hS1 => by
    have e := v_arr_same X ht hK1
    subst e
    exact h q H1 locs ls hP1 hD1 hS1 hl)
theorem v_newZ (X : Cx κ cc own rm nL) (t0 N' : Nat) {cA : ClassId} {v : Int32} {at9 : ArrayType} (hat : newarray.typeOf at9 = .boolean) (ht : (TY κ.z)[t0]? = some (cA, .boolean)) (harr : Cond.arrayClass .boolean ∈ BIG) (hv : ¬ v < 0) (hN : v.toNatClampNeg = N') (hby : N' * 1 ≤ 536870912) (hk : k + 1 ≤ rm.cells) (hn : n + N' ≤ rm.slots) (d : decode cc pc = .ok (.newarray at9, 2)) (h : ∀ q : Nat, V κ nL (k + 1) (n + N') (pc + 2) lv (.ref q :: rest) (ws ++ [(q, .inl (cA, N', .inl (fun _ => 0)))])) : V κ nL k n pc lv (.int v :: rest) ws :=
  fun H locs ls hP hD hS hl => va_newa X.1 X.2.1 (by rw [hat]; exact X.2.2.2.2.1 _ harr) hat X.2.2.2.2.2.1 hP hD hS X.2.2.2.2.2.2.1 (a0 := (N', .inl (fun _ => 0))) (fun _ => rfl) hv hN hby (by rw [X.2.2.2.2.2.2.2.1]; exact hk) (by rw [X.2.2.2.2.2.2.2.1]; exact hn) d (fun q cB H1 hK1 hP1 hD1 hS1 => by
    have e := v_arr_same X ht hK1
    subst e
    exact h q H1 locs ls hP1 hD1 hS1 hl)
theorem v_newQ (X : Cx κ cc own rm nL) (t0 N' : Nat) {cA : ClassId} {C : String} {v : Int32} {index : Nat} (ht : (TY κ.z)[t0]? = some (cA, .object C)) (hcl : Cond.classLink own index C ∈ BIG) (hov : va_AO C κ.s) (hv : ¬ v < 0) (hN : v.toNatClampNeg = N') (hby : N' * 4 ≤ 536870912) (hk : k + 1 ≤ rm.cells) (hn : n + N' ≤ rm.slots) (d : decode cc pc = .ok (.anewarray index, 3)) (h : ∀ q : Nat, V κ nL (k + 1) (n + N') (pc + 3) lv (.ref q :: rest) (ws ++ [(q, .inl (cA, N', .inr (.inr (.inr (.inr (fun _ => none))))))])) : V κ nL k n pc lv (.int v :: rest) ws :=
  fun H locs ls hP hD hS hl => va_newq X.1 X.2.1 X.2.2.2.1 (X.2.2.2.2.1 _ hcl) hov X.2.2.2.2.2.1 hP hD hS X.2.2.2.2.2.2.1 hv hN hby (by rw [X.2.2.2.2.2.2.2.1]; exact hk) (by rw [X.2.2.2.2.2.2.2.1]; exact hn) d (fun q cB H1 hK1 hP1 hD1 hS1 => by
    have e := v_arr_same X ht hK1
    subst e
    exact h q H1 locs ls hP1 hD1 hS1 hl)
end VV
end
section
theorem range_map {α : Type} (w : List α) : (List.range w.length).map (fun i => w[i]?) = w.map some := by
  apply List.ext_getElem?
  intro i
  by_cases h : i < w.length
  · simp [h]
  · simp [h]
theorem perm_idx {α : Type} {ws ws' : List α} (is : List Nat) (hi : is.isPerm (List.range ws.length) = true) (hs : is.map (fun i => ws[i]?) = ws'.map some) : ws.Perm ws' := by
  have h2 := (List.isPerm_iff.mp hi).map (fun i => ws[i]?)
  rw [hs, range_map] at h2
  have h4 := h2.filterMap id
  simpa [List.filterMap_map] using h4.symm
theorem pm_in {α : Type} {X cx rx tl : List α} (h : X.Perm (cx ++ rx)) : (X ++ tl).Perm ((cx ++ tl) ++ rx) := by
  refine (h.append_right tl).trans ?_
  rw [List.append_assoc, List.append_assoc]
  exact List.perm_append_comm.append_left cx
theorem pm_out {α : Type} {X cx rx tl : List α} (h : (cx ++ rx).Perm X) : ((cx ++ tl) ++ rx).Perm (X ++ tl) := (pm_in h.symm).symm
theorem pm_new {α : Type} {X tl : List α} {a : α} : ((X ++ tl) ++ [a]).Perm ((X ++ [a]) ++ tl) := by
  rw [List.append_assoc, List.append_assoc]
  exact List.perm_append_comm.append_left X
theorem vq_pw {A : Nat → Prop} {ws : va_W} (h : va_D A ws) : ws.Pairwise (fun p q => p.1 ≠ q.1) :=
  List.pairwise_iff_getElem.mpr fun i j hi hj hij e => by
    have := h.1 i j _ _ (List.getElem?_eq_getElem hi) (List.getElem?_eq_getElem hj) e
    omega
theorem vq_of {A : Nat → Prop} {ws : va_W} (h : ws.Pairwise (fun p q => p.1 ≠ q.1)) (hA : ∀ q ∈ ws, A q.1) : va_D A ws := by
  refine ⟨fun i j p q hi hj e => ?_, fun k q hk => hA q (List.mem_of_getElem? hk)⟩
  obtain ⟨hi', rfl⟩ := List.getElem?_eq_some_iff.mp hi
  obtain ⟨hj', rfl⟩ := List.getElem?_eq_some_iff.mp hj
  rcases Nat.lt_trichotomy i j with h1 | h1 | h1
  · exact absurd e (List.pairwise_iff_getElem.mp h i j hi' hj' h1)
  · exact h1
  · exact absurd e.symm (List.pairwise_iff_getElem.mp h j i hj' hi' h1)
theorem vq_perm {A : Nat → Prop} {ws ws' : va_W} (h : va_D A ws) (hp : ws.Perm ws') : va_D A ws' :=
  vq_of ((hp.pairwise_iff (fun h => Ne.symm h)).mp (vq_pw h)) (fun q hq => by
    obtain ⟨i, hi⟩ := List.getElem?_of_mem (hp.mem_iff.mpr hq)
    exact h.2 i q hi)
theorem vq_permP {D : va_G} {cl : List vw_C} {ws ws' : va_W} {H : Heap} (h : va_P D cl ws H) (hp : ws.Perm ws') : va_P D cl ws' H := fun k q hk => by
  obtain ⟨i, hi⟩ := List.getElem?_of_mem (hp.mem_iff.mpr (List.mem_of_getElem? hk))
  exact h i q hi
/-- the same cells in another order -/
theorem v_perm {κ : VC} {nL k n pc : Nat} {lv : List (Nat × Value)} {st : List Value} {ws ws' : va_W} (hp : ws.Perm ws') (h : V κ nL k n pc lv st ws') : V κ nL k n pc lv st ws := fun H locs ls hP hD hS hv => h H locs ls (vq_permP hP hp) (vq_perm hD hp) hS hv
section VG
variable {p : Program} {l : Launch} {e : Env} {R : Room} {s : State} {m : MethodId} {args : Array Value} {below : List Frame} {meth : Method} {c : Code} {H : Heap} {locs : List Loc} {cells slots : Nat} {Q : State → Prop}
variable {pc : Nat} {ls : Array Slot} {rest st0 : List Value} {a : Array Value} {A0 A1 : Nat → Prop} {H0 : Heap} {mc ms : Nat} {free : Addr → Prop}
theorem va_callG {D : va_G} {G : Option Value → va_W → Prop} (hr : va_Run p l e R s m args below meth c H locs cells slots mc ms (F0 m pc ls st0) rest (QG D G A1 a) free) (hS : va_S A0 H0 H locs) (hA : ∀ q, q < H.size → A1 q → A0 q) (hf : ∀ q, free q → A0 q)
    (kk : ∀ (v : Option Value) (w : va_W) (H1 : Heap) (locs1 : List Loc), G v w → va_P D CLS w H1 → va_D A1 w → (∀ q : Nat, q < H.size → ¬ A1 q → H1[q]? = H[q]?) → va_S A0 H0 H1 locs1 → W p l e R s m args below meth c H1 locs1 (cells + mc) (slots + ms) Q (F0 m (pc + 3) ls (v.toList ++ rest))) : W p l e R s m args below meth c H locs cells slots Q (F0 m pc ls st0) := by
  intro T hT X
  obtain ⟨v, st₀, t, T', L, h0, X', hL, e1, e2, ⟨⟨v2, w, hv, hg, hp, hd⟩, hz, hk⟩, st⟩ := hr T hT X
  cases hv
  rw [h0] at hz hk
  obtain ⟨t2, a1, b1⟩ := kk v w T'.heap (locs ++ L) hg (by rw [e1]; exact hp) hd (fun q h1 h2 => by rw [e1]; exact hk q h1 h2)
    ⟨Nat.le_trans hS.1 (by rw [e1]; exact hz), fun q h1 h2 => by rw [e1, hk q (Nat.lt_of_lt_of_le h1 hS.1) (fun z => h2 (hA q (Nat.lt_of_lt_of_le h1 hS.1) z))]; exact hS.2.1 q h1 h2, fun q hq => by
      rcases List.mem_append.mp hq with h | h
      · exact hS.2.2 q h
      · exact hf _ (hL q h)⟩ T' rfl X'
  exact ⟨t2, st t2 a1, b1⟩
end VG
section VC9
variable {κ : VC} {cc : ByteArray} {own : String} {rm : Room} {nL k n pc : Nat} {lv : List (Nat × Value)} {rest : List Value} {ws : va_W}
variable {y : MethodName} {rm9 : Room} {As : List Value} {b : Nat} {wc wr : va_W} {G9 : Option Value → va_W → Prop} {mc9 ms9 maxL9 n9 index ci : Nat} {bytes9 : ByteArray} {ret9 : Option FieldType} {C host : String} {T9 : u_T} {N9 : Nat} {fs : List Value}
theorem v_blind {D : va_G} {z : Nat → ClassId} {av : List Value} {wc : va_W} {sz : Nat} : FrameBlind (va_Pc av (PC D z wc sz)) := fun a U g mk q => by
  obtain ⟨q0, q1, qP, qK, qD, qN⟩ := q
  exact ⟨q0, q1, qP, va_K.moved (u := U) (U := U.calling g mk a) (Vm.Alike.refl U.vm) qK, qD, NS.same rfl qN⟩
theorem big_sub {w9 : List Cond} (h : ∀ w ∈ w9, w ∈ BIG) : GoodIn BIG w9 := fun w hw => ⟨h w hw, (big_ok w (h w hw)).2⟩
theorem big_cons {c9 : Cond} (h : c9 ∈ BIG) : ∀ w ∈ c9 :: BIG, w ∈ BIG := fun w hw => by
  rcases List.mem_cons.mp hw with rfl | h2
  · exact h
  · exact h2
theorem big_four {a b c d : Cond} {w9 : List Cond} (ha : a ∈ BIG) (hb : b ∈ BIG) (hc : c ∈ BIG) (hd : d ∈ BIG) (h : ∀ w ∈ w9, w ∈ BIG) : ∀ w ∈ [a, b, c, d] ++ w9, w ∈ BIG := fun w hw => by
  rcases List.mem_append.mp hw with h1 | h1
  · simp only [List.mem_cons, List.not_mem_nil, or_false] at h1
    rcases h1 with rfl | rfl | rfl | rfl <;> assumption
  · exact h w h1
theorem big_three {a b c : Cond} {w9 : List Cond} (ha : a ∈ BIG) (hb : b ∈ BIG) (hc : c ∈ BIG) (h : ∀ w ∈ w9, w ∈ BIG) : ∀ w ∈ [a, b, c] ++ w9, w ∈ BIG := fun w hw => by
  rcases List.mem_append.mp hw with h1 | h1
  · simp only [List.mem_cons, List.not_mem_nil, or_false] at h1
    rcases h1 with rfl | rfl | rfl <;> assumption
  · exact h w h1
theorem v_callV (X : Cx κ cc own rm nL) (hM : Ctr κ.l κ.D κ.z y bytes9 maxL9 ret9 rm9 (.ref b :: As) wc G9 mc9 ms9) (q0 : Nat) (hq : wc[q0]? = some (b, .inr (ci, fs))) (hcC : CLS[ci]? = some (C, T9, N9)) (h1 : Cond.methodLink own index y ∈ BIG) (h2 : Cond.instanceMethod y ∈ BIG) (h3 : Cond.selects C y y ∈ BIG) (h4 : Cond.initialized C ∈ BIG) (hd : y.cls = C ∧ y.cls ≠ "java/lang/invoke/MethodHandle" ∧ y.cls ≠ "java/lang/invoke/VarHandle" ∧ (parseMethodDescriptor y.desc).map (fun d => d.parameters.length) = some n9) (hAs : As.length = n9) (hcat : (rest.map fun v => v.category).sum ≤ 8) (hroom : k + mc9 ≤ rm.cells ∧ n + ms9 ≤ rm.slots) (hfl : rm9.frames + 1 ≤ rm.frames ∧ 8 + (maxL9 + 11) + rm9.locals ≤ rm.locals) (hrc : rm9.cells = mc9) (hrs : rm9.slots = ms9) (hcd : Cond.code y bytes9 maxL9 ret9 ∈ BIG) (d : decode cc pc = .ok (.invokevirtual index, 3)) (h : ∀ (v : Option Value) (w1 : va_W), G9 v w1 → V κ nL (k + mc9) (n + ms9) (pc + 3) lv (v.toList ++ rest) (w1 ++ wr)) : V κ nL k n pc lv (As.reverse ++ .ref b :: rest) (wc ++ wr) := by
  intro H locs ls hP hD hS hl
  have hat : ∀ (k9 : Nat) (q9 : Nat × va_E), wc[k9]? = some q9 → (wc ++ wr)[k9]? = some q9 := fun k9 q9 h9 => by rw [List.getElem?_append_left (List.getElem?_eq_some_iff.mp h9).1]; exact h9
  have hPc : va_P κ.D CLS wc H := fun k9 q9 h9 => hP k9 q9 (hat k9 q9 h9)
  have hDc : va_D κ.A wc := ⟨fun i9 j9 p9 q9 h8 h9 e9 => hD.1 i9 j9 p9 q9 (hat i9 p9 h8) (hat j9 q9 h9) e9, fun k9 q9 h9 => hD.2 k9 q9 (hat k9 q9 h9)⟩
  have hFc : ∀ q9, va_A wc H.size q9 → κ.A q9 := fun q9 h9 => by
    rcases h9 with ⟨k9, e9, h9⟩ | h9
    · exact hD.2 k9 (q9, e9) (hat k9 _ h9)
    · exact X.2.2.2.2.2.2.1 q9 (Nat.le_trans hS.1 h9)
  refine va_callG (va_runV (Ts := BIG) (As := As) (rest := rest) ⟨X.1, X.2.1, X.2.2.1, X.2.2.2.1, X.2.2.2.2.1⟩ (hM H.size) (cwV n9 X.2.2.2.2.1 (big_sub (big_four h1 h2 h3 h4 (big_cons hcd))) rfl hrc hrs hd (by rw [X.2.2.2.2.2.2.2.1]; exact hfl)) ⟨v_blind, va_recv X.2.2.2.2.2.1 hPc hcC hq, fun U hU hW => ⟨rfl, by rw [hU], by rw [hU]; exact hPc, va_K.moved hW.alike X.2.2.2.2.2.1, hDc.weaken (fun _ _ _ _ => trivial), NS.warm hW X.2.2.2.2.2.2.2.2⟩⟩ rfl hAs hl.1 rfl (lv_room hcat) d (by rw [X.2.2.2.2.2.2.2.1]; exact hroom)) hS (fun q _ h => hFc q h) hFc (fun v w1 H1 locs1 hG hP1 hD1 hk1 hS1 => ?_)
  obtain ⟨hP2, hD2⟩ := va_joinQ (X := wc) (cx := wc) (wr := []) (w1 := w1) (pl := wr) hP hD (List.range wc.length) [] (range_map wc) rfl rfl (fun i h => by cases h) hk1 hFc hP1 hD1
  exact h v w1 hG H1 locs1 ls hP2 hD2 hS1 hl
theorem v_callS (X : Cx κ cc own rm nL) (hM : Ctr κ.l κ.D κ.z y bytes9 maxL9 ret9 rm9 As wc G9 mc9 ms9) (h1 : Cond.methodLink own index y ∈ BIG) (h2 : Cond.static y ∈ BIG) (h3 : Cond.initialized y.cls ∈ BIG) (hd : y.cls ≠ "java/lang/invoke/MethodHandle" ∧ y.cls ≠ "java/lang/invoke/VarHandle" ∧ (parseMethodDescriptor y.desc).map (fun d => d.parameters.length) = some n9) (hAs : As.length = n9) (hcat : (rest.map fun v => v.category).sum ≤ 8) (hroom : k + mc9 ≤ rm.cells ∧ n + ms9 ≤ rm.slots) (hfl : rm9.frames + 1 ≤ rm.frames ∧ 8 + (maxL9 + 11) + rm9.locals ≤ rm.locals) (hrc : rm9.cells = mc9) (hrs : rm9.slots = ms9) (hcd : Cond.code y bytes9 maxL9 ret9 ∈ BIG) (d : decode cc pc = .ok (.invokestatic index, 3)) (h : ∀ (v : Option Value) (w1 : va_W), G9 v w1 → V κ nL (k + mc9) (n + ms9) (pc + 3) lv (v.toList ++ rest) (w1 ++ wr)) : V κ nL k n pc lv (As.reverse ++ rest) (wc ++ wr) := by
  intro H locs ls hP hD hS hl
  have hat : ∀ (k9 : Nat) (q9 : Nat × va_E), wc[k9]? = some q9 → (wc ++ wr)[k9]? = some q9 := fun k9 q9 h9 => by rw [List.getElem?_append_left (List.getElem?_eq_some_iff.mp h9).1]; exact h9
  have hPc : va_P κ.D CLS wc H := fun k9 q9 h9 => hP k9 q9 (hat k9 q9 h9)
  have hDc : va_D κ.A wc := ⟨fun i9 j9 p9 q9 h8 h9 e9 => hD.1 i9 j9 p9 q9 (hat i9 p9 h8) (hat j9 q9 h9) e9, fun k9 q9 h9 => hD.2 k9 q9 (hat k9 q9 h9)⟩
  have hFc : ∀ q9, va_A wc H.size q9 → κ.A q9 := fun q9 h9 => by
    rcases h9 with ⟨k9, e9, h9⟩ | h9
    · exact hD.2 k9 (q9, e9) (hat k9 _ h9)
    · exact X.2.2.2.2.2.2.1 q9 (Nat.le_trans hS.1 h9)
  refine va_callG (va_runS (Ts := BIG) (As := As) (rest := rest) ⟨X.1, X.2.1, X.2.2.1, X.2.2.2.1, X.2.2.2.2.1⟩ (hM H.size) (va_cwS n9 X.2.2.2.2.1 (big_sub (big_three h1 h2 h3 (big_cons hcd))) rfl hrc hrs hd (by rw [X.2.2.2.2.2.2.2.1]; exact hfl)) ⟨v_blind, fun U hU hW => ⟨rfl, by rw [hU], by rw [hU]; exact hPc, va_K.moved hW.alike X.2.2.2.2.2.1, hDc.weaken (fun _ _ _ _ => trivial), NS.warm hW X.2.2.2.2.2.2.2.2⟩⟩ rfl hAs hl.1 rfl (lv_room hcat) d (by rw [X.2.2.2.2.2.2.2.1]; exact hroom)) hS (fun q _ h => hFc q h) hFc (fun v w1 H1 locs1 hG hP1 hD1 hk1 hS1 => ?_)
  obtain ⟨hP2, hD2⟩ := va_joinQ (X := wc) (cx := wc) (wr := []) (w1 := w1) (pl := wr) hP hD (List.range wc.length) [] (range_map wc) rfl rfl (fun i h => by cases h) hk1 hFc hP1 hD1
  exact h v w1 hG H1 locs1 ls hP2 hD2 hS1 hl
theorem v_callSN (X : Cx κ cc own rm nL) (hM : Ctr κ.l κ.D κ.z y bytes9 maxL9 ret9 rm9 As wc G9 mc9 ms9) (h1 : (own, index, y, host) ∈ NEST) (h2 : Cond.static y ∈ BIG) (h3 : Cond.initialized y.cls ∈ BIG) (hd : y.cls ≠ "java/lang/invoke/MethodHandle" ∧ y.cls ≠ "java/lang/invoke/VarHandle" ∧ (parseMethodDescriptor y.desc).map (fun d => d.parameters.length) = some n9) (hAs : As.length = n9) (hcat : (rest.map fun v => v.category).sum ≤ 8) (hroom : k + mc9 ≤ rm.cells ∧ n + ms9 ≤ rm.slots) (hfl : rm9.frames + 1 ≤ rm.frames ∧ 8 + (maxL9 + 11) + rm9.locals ≤ rm.locals) (hrc : rm9.cells = mc9) (hrs : rm9.slots = ms9) (hcd : Cond.code y bytes9 maxL9 ret9 ∈ BIG) (d : decode cc pc = .ok (.invokestatic index, 3)) (h : ∀ (v : Option Value) (w1 : va_W), G9 v w1 → V κ nL (k + mc9) (n + ms9) (pc + 3) lv (v.toList ++ rest) (w1 ++ wr)) : V κ nL k n pc lv (As.reverse ++ rest) (wc ++ wr) := by
  intro H locs ls hP hD hS hl
  have hat : ∀ (k9 : Nat) (q9 : Nat × va_E), wc[k9]? = some q9 → (wc ++ wr)[k9]? = some q9 := fun k9 q9 h9 => by rw [List.getElem?_append_left (List.getElem?_eq_some_iff.mp h9).1]; exact h9
  have hPc : va_P κ.D CLS wc H := fun k9 q9 h9 => hP k9 q9 (hat k9 q9 h9)
  have hDc : va_D κ.A wc := ⟨fun i9 j9 p9 q9 h8 h9 e9 => hD.1 i9 j9 p9 q9 (hat i9 p9 h8) (hat j9 q9 h9) e9, fun k9 q9 h9 => hD.2 k9 q9 (hat k9 q9 h9)⟩
  have hFc : ∀ q9, va_A wc H.size q9 → κ.A q9 := fun q9 h9 => by
    rcases h9 with ⟨k9, e9, h9⟩ | h9
    · exact hD.2 k9 (q9, e9) (hat k9 _ h9)
    · exact X.2.2.2.2.2.2.1 q9 (Nat.le_trans hS.1 h9)
  refine va_callG (va_runSN (Ts := BIG) (host := host) (As := As) (rest := rest) ⟨X.1, X.2.1, X.2.2.1, X.2.2.2.1, X.2.2.2.2.1⟩ (hM H.size) ⟨va_cnB n9 X.2.2.2.2.1 (big_sub (big_cons hcd)) rfl hrc hrs (X.2.2.2.2.2.2.2.2.1 _ h1) (X.2.2.2.2.1 _ h3) hd (by rw [X.2.2.2.2.2.2.2.1]; exact hfl), X.2.2.2.2.1 _ h2, trivial⟩ ⟨v_blind, fun U hU hW => ⟨rfl, by rw [hU], by rw [hU]; exact hPc, va_K.moved hW.alike X.2.2.2.2.2.1, hDc.weaken (fun _ _ _ _ => trivial), NS.warm hW X.2.2.2.2.2.2.2.2⟩⟩ rfl hAs hl.1 rfl (lv_room hcat) d (by rw [X.2.2.2.2.2.2.2.1]; exact hroom)) hS (fun q _ h => hFc q h) hFc (fun v w1 H1 locs1 hG hP1 hD1 hk1 hS1 => ?_)
  obtain ⟨hP2, hD2⟩ := va_joinQ (X := wc) (cx := wc) (wr := []) (w1 := w1) (pl := wr) hP hD (List.range wc.length) [] (range_map wc) rfl rfl (fun i h => by cases h) hk1 hFc hP1 hD1
  exact h v w1 hG H1 locs1 ls hP2 hD2 hS1 hl
theorem v_callIN (X : Cx κ cc own rm nL) (hM : Ctr κ.l κ.D κ.z y bytes9 maxL9 none rm9 (.ref b :: As) wc G9 mc9 ms9) (h1 : (own, index, y, host) ∈ NEST) (h2 : Cond.instanceMethod y ∈ BIG) (h3 : Cond.initialized y.cls ∈ BIG) (h4 : y.name = "<init>") (hd : y.cls ≠ "java/lang/invoke/MethodHandle" ∧ y.cls ≠ "java/lang/invoke/VarHandle" ∧ (parseMethodDescriptor y.desc).map (fun d => d.parameters.length) = some n9) (hAs : As.length = n9) (hcat : (rest.map fun v => v.category).sum ≤ 8) (hroom : k + mc9 ≤ rm.cells ∧ n + ms9 ≤ rm.slots) (hfl : rm9.frames + 1 ≤ rm.frames ∧ 8 + (maxL9 + 11) + rm9.locals ≤ rm.locals) (hrc : rm9.cells = mc9) (hrs : rm9.slots = ms9) (hcd : Cond.code y bytes9 maxL9 none ∈ BIG) (d : decode cc pc = .ok (.invokespecial index, 3)) (h : ∀ (v : Option Value) (w1 : va_W), G9 v w1 → V κ nL (k + mc9) (n + ms9) (pc + 3) lv (v.toList ++ rest) (w1 ++ wr)) : V κ nL k n pc lv (As.reverse ++ .ref b :: rest) (wc ++ wr) := by
  intro H locs ls hP hD hS hl
  have hat : ∀ (k9 : Nat) (q9 : Nat × va_E), wc[k9]? = some q9 → (wc ++ wr)[k9]? = some q9 := fun k9 q9 h9 => by rw [List.getElem?_append_left (List.getElem?_eq_some_iff.mp h9).1]; exact h9
  have hPc : va_P κ.D CLS wc H := fun k9 q9 h9 => hP k9 q9 (hat k9 q9 h9)
  have hDc : va_D κ.A wc := ⟨fun i9 j9 p9 q9 h8 h9 e9 => hD.1 i9 j9 p9 q9 (hat i9 p9 h8) (hat j9 q9 h9) e9, fun k9 q9 h9 => hD.2 k9 q9 (hat k9 q9 h9)⟩
  have hFc : ∀ q9, va_A wc H.size q9 → κ.A q9 := fun q9 h9 => by
    rcases h9 with ⟨k9, e9, h9⟩ | h9
    · exact hD.2 k9 (q9, e9) (hat k9 _ h9)
    · exact X.2.2.2.2.2.2.1 q9 (Nat.le_trans hS.1 h9)
  refine va_callG (va_runIN (Ts := BIG) (host := host) (As := As) (rest := rest) ⟨X.1, X.2.1, X.2.2.1, X.2.2.2.1, X.2.2.2.2.1⟩ (hM H.size) ⟨va_cnB n9 X.2.2.2.2.1 (big_sub (big_cons hcd)) rfl hrc hrs (X.2.2.2.2.2.2.2.2.1 _ h1) (X.2.2.2.2.1 _ h3) hd (by rw [X.2.2.2.2.2.2.2.1]; exact hfl), h4, X.2.2.2.2.1 _ h2⟩ ⟨v_blind, fun U hU hW => ⟨rfl, by rw [hU], by rw [hU]; exact hPc, va_K.moved hW.alike X.2.2.2.2.2.1, hDc.weaken (fun _ _ _ _ => trivial), NS.warm hW X.2.2.2.2.2.2.2.2⟩⟩ rfl hAs hl.1 rfl (lv_room hcat) d (by rw [X.2.2.2.2.2.2.2.1]; exact hroom)) hS (fun q _ h => hFc q h) hFc (fun v w1 H1 locs1 hG hP1 hD1 hk1 hS1 => ?_)
  obtain ⟨hP2, hD2⟩ := va_joinQ (X := wc) (cx := wc) (wr := []) (w1 := w1) (pl := wr) hP hD (List.range wc.length) [] (range_map wc) rfl rfl (fun i h => by cases h) hk1 hFc hP1 hD1
  exact h v w1 hG H1 locs1 ls hP2 hD2 hS1 hl
theorem v_callI (X : Cx κ cc own rm nL) (hM : Ctr κ.l κ.D κ.z y bytes9 maxL9 none rm9 (.ref b :: As) wc G9 mc9 ms9) (h1 : Cond.methodLink own index y ∈ BIG) (h2 : Cond.instanceMethod y ∈ BIG) (h3 : Cond.initialized y.cls ∈ BIG) (h4 : y.name = "<init>") (hd : y.cls ≠ "java/lang/invoke/MethodHandle" ∧ y.cls ≠ "java/lang/invoke/VarHandle" ∧ (parseMethodDescriptor y.desc).map (fun d => d.parameters.length) = some n9) (hAs : As.length = n9) (hcat : (rest.map fun v => v.category).sum ≤ 8) (hroom : k + mc9 ≤ rm.cells ∧ n + ms9 ≤ rm.slots) (hfl : rm9.frames + 1 ≤ rm.frames ∧ 8 + (maxL9 + 11) + rm9.locals ≤ rm.locals) (hrc : rm9.cells = mc9) (hrs : rm9.slots = ms9) (hcd : Cond.code y bytes9 maxL9 none ∈ BIG) (d : decode cc pc = .ok (.invokespecial index, 3)) (h : ∀ (v : Option Value) (w1 : va_W), G9 v w1 → V κ nL (k + mc9) (n + ms9) (pc + 3) lv (v.toList ++ rest) (w1 ++ wr)) : V κ nL k n pc lv (As.reverse ++ .ref b :: rest) (wc ++ wr) := by
  intro H locs ls hP hD hS hl
  have hat : ∀ (k9 : Nat) (q9 : Nat × va_E), wc[k9]? = some q9 → (wc ++ wr)[k9]? = some q9 := fun k9 q9 h9 => by rw [List.getElem?_append_left (List.getElem?_eq_some_iff.mp h9).1]; exact h9
  have hPc : va_P κ.D CLS wc H := fun k9 q9 h9 => hP k9 q9 (hat k9 q9 h9)
  have hDc : va_D κ.A wc := ⟨fun i9 j9 p9 q9 h8 h9 e9 => hD.1 i9 j9 p9 q9 (hat i9 p9 h8) (hat j9 q9 h9) e9, fun k9 q9 h9 => hD.2 k9 q9 (hat k9 q9 h9)⟩
  have hFc : ∀ q9, va_A wc H.size q9 → κ.A q9 := fun q9 h9 => by
    rcases h9 with ⟨k9, e9, h9⟩ | h9
    · exact hD.2 k9 (q9, e9) (hat k9 _ h9)
    · exact X.2.2.2.2.2.2.1 q9 (Nat.le_trans hS.1 h9)
  refine va_callG (va_runI (Ts := BIG) (As := As) (rest := rest) ⟨X.1, X.2.1, X.2.2.1, X.2.2.2.1, X.2.2.2.2.1⟩ (hM H.size) (cwI n9 X.2.2.2.2.1 (big_sub (big_cons hcd)) rfl hrc hrs (X.2.2.2.2.1 _ h3) (X.2.2.2.2.1 _ h1) (X.2.2.2.2.1 _ h2) h4 hd (by rw [X.2.2.2.2.2.2.2.1]; exact hfl)) ⟨v_blind, fun U hU hW => ⟨rfl, by rw [hU], by rw [hU]; exact hPc, va_K.moved hW.alike X.2.2.2.2.2.1, hDc.weaken (fun _ _ _ _ => trivial), NS.warm hW X.2.2.2.2.2.2.2.2⟩⟩ rfl hAs hl.1 rfl (lv_room hcat) d (by rw [X.2.2.2.2.2.2.2.1]; exact hroom)) hS (fun q _ h => hFc q h) hFc (fun v w1 H1 locs1 hG hP1 hD1 hk1 hS1 => ?_)
  obtain ⟨hP2, hD2⟩ := va_joinQ (X := wc) (cx := wc) (wr := []) (w1 := w1) (pl := wr) hP hD (List.range wc.length) [] (range_map wc) rfl rfl (fun i h => by cases h) hk1 hFc hP1 hD1
  exact h v w1 hG H1 locs1 ls hP2 hD2 hS1 hl
end VC9

/-- a truth value as a word -/
def bI (t : Bool) : Int32 := cond t 1 0
theorem bI_t : bI true = 1 := rfl
theorem bI_f : bI false = 0 := rfl
theorem bI_0 (t : Bool) : bI t = 0 ↔ ¬ t = true := by cases t <;> decide
theorem narB (t : Bool) : narrow .boolean (.int (bI t)) = .int (bI t) := by cases t <;> decide +kernel
/-- rows of numbers, of truth values -/
def aN (g : Nat → Nat) : Nat → Int32 := fun k => nI (g k)
def aB (g : Nat → Bool) : Nat → Int32 := fun k => bI (g k)
theorem vpnB (t : Bool) : vp_nar .boolean (bI t) = bI t := by cases t <;> decide +kernel
theorem aN_up (g : Nat → Nat) (j x : Nat) : upd (aN g) j (nI x) = aN (va_up g j x) := by
  funext k
  by_cases h : k = j <;> simp [upd, aN, va_up, h]
theorem aB_up (g : Nat → Bool) (j : Nat) (x : Bool) : upd (aB g) j (bI x) = aB (va_up g j x) := by
  funext k
  by_cases h : k = j <;> simp [upd, aB, va_up, h]
theorem va_ups {α : Type} {f : Nat → α} {k : Nat} {x : α} : va_up f k x k = x := by simp [va_up]
theorem va_upn {α : Type} {f : Nat → α} {k j : Nat} {x : α} (h : j ≠ k) : va_up f k x j = f j := by simp [va_up, h]
theorem nI_sub {a b : Nat} (h : b ≤ a) : nI a - nI b = nI (a - b) := by
  have e := nI_add (a - b) b
  rw [Nat.sub_add_cancel h] at e
  rw [← e]
  exact Int32.add_sub_cancel _ _
theorem nI_mul (a b : Nat) : nI a * nI b = nI (a * b) := (Int32.ofNat_mul a b).symm
theorem nI_m1 {a : Nat} (h : 1 ≤ a) : nI a + Int32.ofInt (-1) = nI (a - 1) := by
  have e := nI_sub h
  have e2 : -(nI 1) = Int32.ofInt (-1) := by decide
  rw [← e, Int32.sub_eq_add_neg, e2]
theorem rf_or (r : Option Nat) : va_rf r = .null ∨ ∃ a, va_rf r = .ref a := by
  cases r with
  | none => exact Or.inl rfl
  | some a => exact Or.inr ⟨a, rfl⟩
section VN
variable {κ : VC} {cc : ByteArray} {own : String} {rm : Room} {nL k n pc : Nat} {lv : List (Nat × Value)} {rest : List Value} {ws ws' : va_W}
theorem v_iaddN (X : Cx κ cc own rm nL) {a b : Nat} (d : decode cc pc = .ok (.iadd, 1)) (h : V κ nL k n (pc + 1) lv (.int (nI (a + b)) :: rest) ws) : V κ nL k n pc lv (.int (nI b) :: .int (nI a) :: rest) ws := v_iadd X d (by rw [nI_add]; exact h)
theorem v_isubN (X : Cx κ cc own rm nL) {a b : Nat} (d : decode cc pc = .ok (.isub, 1)) (hb : b ≤ a) (h : V κ nL k n (pc + 1) lv (.int (nI (a - b)) :: rest) ws) : V κ nL k n pc lv (.int (nI b) :: .int (nI a) :: rest) ws := v_isub X d (by rw [nI_sub hb]; exact h)
theorem v_imulN (X : Cx κ cc own rm nL) {a b : Nat} (d : decode cc pc = .ok (.imul, 1)) (h : V κ nL k n (pc + 1) lv (.int (nI (a * b)) :: rest) ws) : V κ nL k n pc lv (.int (nI b) :: .int (nI a) :: rest) ws := v_imul X d (by rw [nI_mul]; exact h)
theorem v_icmpN_eq (X : Cx κ cc own rm nL) (tgt : Nat) {a b : Nat} {off : Int} (d : decode cc pc = .ok (.if_icmp .eq off, 3)) (ht : (pc : Int) + off = (tgt : Int)) (ha : a < 2 ^ 31) (hb : b < 2 ^ 31) (kt : a = b → V κ nL k n tgt lv rest ws) (kf : ¬ a = b → V κ nL k n (pc + 3) lv rest ws) : V κ nL k n pc lv (.int (nI b) :: .int (nI a) :: rest) ws := v_icmp_eq X tgt d ht (fun c => kt ((nI_eq ha hb).mp c)) (fun c => kf (fun z => c ((nI_eq ha hb).mpr z)))
theorem v_icmpN_ne (X : Cx κ cc own rm nL) (tgt : Nat) {a b : Nat} {off : Int} (d : decode cc pc = .ok (.if_icmp .ne off, 3)) (ht : (pc : Int) + off = (tgt : Int)) (ha : a < 2 ^ 31) (hb : b < 2 ^ 31) (kt : ¬ a = b → V κ nL k n tgt lv rest ws) (kf : a = b → V κ nL k n (pc + 3) lv rest ws) : V κ nL k n pc lv (.int (nI b) :: .int (nI a) :: rest) ws := v_icmp_ne X tgt d ht (fun c => kt ((not_congr (nI_eq ha hb)).mp c)) (fun c => kf ((nI_eq ha hb).mp c))
theorem v_icmpN_lt (X : Cx κ cc own rm nL) (tgt : Nat) {a b : Nat} {off : Int} (d : decode cc pc = .ok (.if_icmp .lt off, 3)) (ht : (pc : Int) + off = (tgt : Int)) (ha : a < 2 ^ 31) (hb : b < 2 ^ 31) (kt : a < b → V κ nL k n tgt lv rest ws) (kf : ¬ a < b → V κ nL k n (pc + 3) lv rest ws) : V κ nL k n pc lv (.int (nI b) :: .int (nI a) :: rest) ws := v_icmp_lt X tgt d ht (fun c => kt ((nI_ltI ha hb).mp c)) (fun c => kf (fun z => c ((nI_ltI ha hb).mpr z)))
theorem v_icmpN_ge (X : Cx κ cc own rm nL) (tgt : Nat) {a b : Nat} {off : Int} (d : decode cc pc = .ok (.if_icmp .ge off, 3)) (ht : (pc : Int) + off = (tgt : Int)) (ha : a < 2 ^ 31) (hb : b < 2 ^ 31) (kt : b ≤ a → V κ nL k n tgt lv rest ws) (kf : ¬ b ≤ a → V κ nL k n (pc + 3) lv rest ws) : V κ nL k n pc lv (.int (nI b) :: .int (nI a) :: rest) ws := v_icmp_ge X tgt d ht (fun c => kt ((nI_leI hb ha).mp c)) (fun c => kf (fun z => c ((nI_leI hb ha).mpr z)))
theorem v_icmpN_gt (X : Cx κ cc own rm nL) (tgt : Nat) {a b : Nat} {off : Int} (d : decode cc pc = .ok (.if_icmp .gt off, 3)) (ht : (pc : Int) + off = (tgt : Int)) (ha : a < 2 ^ 31) (hb : b < 2 ^ 31) (kt : b < a → V κ nL k n tgt lv rest ws) (kf : ¬ b < a → V κ nL k n (pc + 3) lv rest ws) : V κ nL k n pc lv (.int (nI b) :: .int (nI a) :: rest) ws := v_icmp_gt X tgt d ht (fun c => kt ((nI_ltI hb ha).mp c)) (fun c => kf (fun z => c ((nI_ltI hb ha).mpr z)))
theorem v_icmpN_le (X : Cx κ cc own rm nL) (tgt : Nat) {a b : Nat} {off : Int} (d : decode cc pc = .ok (.if_icmp .le off, 3)) (ht : (pc : Int) + off = (tgt : Int)) (ha : a < 2 ^ 31) (hb : b < 2 ^ 31) (kt : a ≤ b → V κ nL k n tgt lv rest ws) (kf : ¬ a ≤ b → V κ nL k n (pc + 3) lv rest ws) : V κ nL k n pc lv (.int (nI b) :: .int (nI a) :: rest) ws := v_icmp_le X tgt d ht (fun c => kt ((nI_leI ha hb).mp c)) (fun c => kf (fun z => c ((nI_leI ha hb).mpr z)))
theorem nI_z {a : Nat} (ha : a < 2 ^ 31) : nI a = 0 ↔ a = 0 := by
  have h := nI_eq (b := 0) ha (by decide)
  rw [nI_0] at h
  exact h
theorem nI_zl {a : Nat} (ha : a < 2 ^ 31) : nI a ≤ 0 ↔ a ≤ 0 := by
  have h := nI_leI (b := 0) ha (by decide)
  rw [nI_0] at h
  exact h
theorem nI_zg {a : Nat} (ha : a < 2 ^ 31) : 0 < nI a ↔ 0 < a := by
  have h := nI_ltI (a := 0) (b := a) (by decide) ha
  rw [nI_0] at h
  exact h
theorem v_ifN_eq (X : Cx κ cc own rm nL) (tgt : Nat) {a : Nat} {off : Int} (d : decode cc pc = .ok (.ifCond .eq off, 3)) (ht : (pc : Int) + off = (tgt : Int)) (ha : a < 2 ^ 31) (kt : a = 0 → V κ nL k n tgt lv rest ws) (kf : ¬ a = 0 → V κ nL k n (pc + 3) lv rest ws) : V κ nL k n pc lv (.int (nI a) :: rest) ws := v_if_eq X tgt d ht (fun c => kt ((nI_z ha).mp c)) (fun c => kf (fun z => c ((nI_z ha).mpr z)))
theorem v_ifN_ne (X : Cx κ cc own rm nL) (tgt : Nat) {a : Nat} {off : Int} (d : decode cc pc = .ok (.ifCond .ne off, 3)) (ht : (pc : Int) + off = (tgt : Int)) (ha : a < 2 ^ 31) (kt : ¬ a = 0 → V κ nL k n tgt lv rest ws) (kf : a = 0 → V κ nL k n (pc + 3) lv rest ws) : V κ nL k n pc lv (.int (nI a) :: rest) ws := v_if_ne X tgt d ht (fun c => kt ((not_congr (nI_z ha)).mp c)) (fun c => kf ((nI_z ha).mp c))
theorem v_ifN_gt (X : Cx κ cc own rm nL) (tgt : Nat) {a : Nat} {off : Int} (d : decode cc pc = .ok (.ifCond .gt off, 3)) (ht : (pc : Int) + off = (tgt : Int)) (ha : a < 2 ^ 31) (kt : 0 < a → V κ nL k n tgt lv rest ws) (kf : ¬ 0 < a → V κ nL k n (pc + 3) lv rest ws) : V κ nL k n pc lv (.int (nI a) :: rest) ws := v_if_gt X tgt d ht (fun c => kt ((nI_zg ha).mp c)) (fun c => kf (fun z => c ((nI_zg ha).mpr z)))
theorem v_ifN_le (X : Cx κ cc own rm nL) (tgt : Nat) {a : Nat} {off : Int} (d : decode cc pc = .ok (.ifCond .le off, 3)) (ht : (pc : Int) + off = (tgt : Int)) (ha : a < 2 ^ 31) (kt : a ≤ 0 → V κ nL k n tgt lv rest ws) (kf : ¬ a ≤ 0 → V κ nL k n (pc + 3) lv rest ws) : V κ nL k n pc lv (.int (nI a) :: rest) ws := v_if_le X tgt d ht (fun c => kt ((nI_zl ha).mp c)) (fun c => kf (fun z => c ((nI_zl ha).mpr z)))
theorem v_ifN_ge (X : Cx κ cc own rm nL) (tgt : Nat) {a : Nat} {off : Int} (d : decode cc pc = .ok (.ifCond .ge off, 3)) (ht : (pc : Int) + off = (tgt : Int)) (ha : a < 2 ^ 31) (h : V κ nL k n tgt lv rest ws) : V κ nL k n pc lv (.int (nI a) :: rest) ws := v_if_ge X tgt d ht (fun _ => h) (fun c => absurd (nI_pos' ha) c)
theorem v_ifN_lt (X : Cx κ cc own rm nL) (tgt : Nat) {a : Nat} {off : Int} (d : decode cc pc = .ok (.ifCond .lt off, 3)) (ht : (pc : Int) + off = (tgt : Int)) (ha : a < 2 ^ 31) (h : V κ nL k n (pc + 3) lv rest ws) : V κ nL k n pc lv (.int (nI a) :: rest) ws := v_if_lt X tgt d ht (fun c => absurd c (nI_pos ha)) (fun _ => h)
theorem v_ifB_eq (X : Cx κ cc own rm nL) (tgt : Nat) {t : Bool} {off : Int} (d : decode cc pc = .ok (.ifCond .eq off, 3)) (ht : (pc : Int) + off = (tgt : Int)) (kt : ¬ t = true → V κ nL k n tgt lv rest ws) (kf : t = true → V κ nL k n (pc + 3) lv rest ws) : V κ nL k n pc lv (.int (bI t) :: rest) ws := v_if_eq X tgt d ht (fun c => kt ((bI_0 t).mp c)) (fun c => kf (Decidable.not_not.mp (fun z => c ((bI_0 t).mpr z))))
theorem v_ifB_ne (X : Cx κ cc own rm nL) (tgt : Nat) {t : Bool} {off : Int} (d : decode cc pc = .ok (.ifCond .ne off, 3)) (ht : (pc : Int) + off = (tgt : Int)) (kt : t = true → V κ nL k n tgt lv rest ws) (kf : ¬ t = true → V κ nL k n (pc + 3) lv rest ws) : V κ nL k n pc lv (.int (bI t) :: rest) ws := v_if_ne X tgt d ht (fun c => kt (Decidable.not_not.mp (fun z => c ((bI_0 t).mpr z)))) (fun c => kf ((bI_0 t).mp c))
theorem v_ialdN (X : Cx κ cc own rm nL) (q0 t0 : Nat) {cA : ClassId} {N a j : Nat} {f : Nat → Int32} (ha : ws[q0]? = some (a, .inl (cA, N, .inl f))) (ht : (TY κ.z)[t0]? = some (cA, .int)) (hj : j < N) (hN : N < 2 ^ 31) (d : decode cc pc = .ok (.iaload, 1)) (h : V κ nL k n (pc + 1) lv (.int (f j) :: rest) ws) : V κ nL k n pc lv (.int (nI j) :: .ref a :: rest) ws := fun H locs ls hP hD hS hl => va_iald X.1 X.2.1 X.2.2.2.2.2.1 hP q0 t0 ha ht (vp_in_nI hj hN) d (by rw [nI_clamp (by omega)]; exact (h H locs ls hP hD hS hl))
theorem v_ialdE (X : Cx κ cc own rm nL) (q0 t0 : Nat) {cA : ClassId} {N a j : Nat} {f : Nat → Int32} {x : Int32} (ha : ws[q0]? = some (a, .inl (cA, N, .inl f))) (ht : (TY κ.z)[t0]? = some (cA, .int)) (hj : j < N) (hN : N < 2 ^ 31) (hx : f j = x) (d : decode cc pc = .ok (.iaload, 1)) (h : V κ nL k n (pc + 1) lv (.int x :: rest) ws) : V κ nL k n pc lv (.int (nI j) :: .ref a :: rest) ws := v_ialdN X q0 t0 ha ht hj hN d (by rw [hx]; exact h)
theorem v_laldN (X : Cx κ cc own rm nL) (q0 t0 : Nat) {cA : ClassId} {N a j : Nat} {f : Nat → Int64} (ha : ws[q0]? = some (a, .inl (cA, N, .inr (.inl f)))) (ht : (TY κ.z)[t0]? = some (cA, .long)) (hj : j < N) (hN : N < 2 ^ 31) (d : decode cc pc = .ok (.laload, 1)) (h : V κ nL k n (pc + 1) lv (.long (f j) :: rest) ws) : V κ nL k n pc lv (.int (nI j) :: .ref a :: rest) ws := fun H locs ls hP hD hS hl => va_lald X.1 X.2.1 X.2.2.2.2.2.1 hP q0 t0 ha ht (vp_in_nI hj hN) d (by rw [nI_clamp (by omega)]; exact (h H locs ls hP hD hS hl))
theorem v_laldE (X : Cx κ cc own rm nL) (q0 t0 : Nat) {cA : ClassId} {N a j : Nat} {f : Nat → Int64} {x : Int64} (ha : ws[q0]? = some (a, .inl (cA, N, .inr (.inl f)))) (ht : (TY κ.z)[t0]? = some (cA, .long)) (hj : j < N) (hN : N < 2 ^ 31) (hx : f j = x) (d : decode cc pc = .ok (.laload, 1)) (h : V κ nL k n (pc + 1) lv (.long x :: rest) ws) : V κ nL k n pc lv (.int (nI j) :: .ref a :: rest) ws := v_laldN X q0 t0 ha ht hj hN d (by rw [hx]; exact h)
theorem v_naldN (X : Cx κ cc own rm nL) (q0 t0 : Nat) {cA : ClassId} {N a j : Nat} {f : Nat → Nat} (ha : ws[q0]? = some (a, .inl (cA, N, .inl (aN f)))) (ht : (TY κ.z)[t0]? = some (cA, .int)) (hj : j < N) (hN : N < 2 ^ 31) (d : decode cc pc = .ok (.iaload, 1)) (h : V κ nL k n (pc + 1) lv (.int (nI (f j)) :: rest) ws) : V κ nL k n pc lv (.int (nI j) :: .ref a :: rest) ws := fun H locs ls hP hD hS hl => va_iald X.1 X.2.1 X.2.2.2.2.2.1 hP q0 t0 ha ht (vp_in_nI hj hN) d (by rw [nI_clamp (by omega)]; exact (h H locs ls hP hD hS hl))
theorem v_naldE (X : Cx κ cc own rm nL) (q0 t0 : Nat) {cA : ClassId} {N a j : Nat} {f : Nat → Nat} {x : Nat} (ha : ws[q0]? = some (a, .inl (cA, N, .inl (aN f)))) (ht : (TY κ.z)[t0]? = some (cA, .int)) (hj : j < N) (hN : N < 2 ^ 31) (hx : f j = x) (d : decode cc pc = .ok (.iaload, 1)) (h : V κ nL k n (pc + 1) lv (.int (nI x) :: rest) ws) : V κ nL k n pc lv (.int (nI j) :: .ref a :: rest) ws := v_naldN X q0 t0 ha ht hj hN d (by rw [hx]; exact h)
theorem v_zaldN (X : Cx κ cc own rm nL) (q0 t0 : Nat) {cA : ClassId} {N a j : Nat} {f : Nat → Bool} (ha : ws[q0]? = some (a, .inl (cA, N, .inl (aB f)))) (ht : (TY κ.z)[t0]? = some (cA, .boolean)) (hj : j < N) (hN : N < 2 ^ 31) (d : decode cc pc = .ok (.baload, 1)) (h : V κ nL k n (pc + 1) lv (.int (bI (f j)) :: rest) ws) : V κ nL k n pc lv (.int (nI j) :: .ref a :: rest) ws := fun H locs ls hP hD hS hl => va_zald X.1 X.2.1 X.2.2.2.2.2.1 hP q0 t0 ha ht (vp_in_nI hj hN) d (by rw [nI_clamp (by omega)]; exact (h H locs ls hP hD hS hl))
theorem v_zaldE (X : Cx κ cc own rm nL) (q0 t0 : Nat) {cA : ClassId} {N a j : Nat} {f : Nat → Bool} {x : Bool} (ha : ws[q0]? = some (a, .inl (cA, N, .inl (aB f)))) (ht : (TY κ.z)[t0]? = some (cA, .boolean)) (hj : j < N) (hN : N < 2 ^ 31) (hx : f j = x) (d : decode cc pc = .ok (.baload, 1)) (h : V κ nL k n (pc + 1) lv (.int (bI x) :: rest) ws) : V κ nL k n pc lv (.int (nI j) :: .ref a :: rest) ws := v_zaldN X q0 t0 ha ht hj hN d (by rw [hx]; exact h)
theorem v_iastN (X : Cx κ cc own rm nL) (q0 t0 : Nat) {cA : ClassId} {N a j : Nat} {f : Nat → Int32} {x : Int32} (ha : ws[q0]? = some (a, .inl (cA, N, .inl f))) (ht : (TY κ.z)[t0]? = some (cA, .int)) (hj : j < N) (hN : N < 2 ^ 31) (d : decode cc pc = .ok (.iastore, 1)) (e : ws.set q0 (a, .inl (cA, N, .inl (upd f j x))) = ws') (h : V κ nL k n (pc + 1) lv rest ws') : V κ nL k n pc lv (.int x :: .int (nI j) :: .ref a :: rest) ws := by
  subst e
  exact fun H locs ls hP hD hS hl => va_iast X.1 X.2.1 X.2.2.2.2.2.1 hP hD hS q0 t0 ha ht (vp_in_nI hj hN) d (fun H1 locs1 hP1 hD1 hS1 => by
    rw [nI_clamp (show j < 2 ^ 31 by omega)] at hP1 hD1
    exact h H1 locs1 ls hP1 hD1 hS1 hl)
theorem v_lastN (X : Cx κ cc own rm nL) (q0 t0 : Nat) {cA : ClassId} {N a j : Nat} {f : Nat → Int64} {x : Int64} (ha : ws[q0]? = some (a, .inl (cA, N, .inr (.inl f)))) (ht : (TY κ.z)[t0]? = some (cA, .long)) (hj : j < N) (hN : N < 2 ^ 31) (d : decode cc pc = .ok (.lastore, 1)) (e : ws.set q0 (a, .inl (cA, N, .inr (.inl (vp_updL f j x)))) = ws') (h : V κ nL k n (pc + 1) lv rest ws') : V κ nL k n pc lv (.long x :: .int (nI j) :: .ref a :: rest) ws := by
  subst e
  exact fun H locs ls hP hD hS hl => va_last X.1 X.2.1 X.2.2.2.2.2.1 hP hD hS q0 t0 ha ht (vp_in_nI hj hN) d (fun H1 locs1 hP1 hD1 hS1 => by
    rw [nI_clamp (show j < 2 ^ 31 by omega)] at hP1 hD1
    exact h H1 locs1 ls hP1 hD1 hS1 hl)
theorem v_nastN (X : Cx κ cc own rm nL) (q0 t0 : Nat) {cA : ClassId} {N a j : Nat} {f : Nat → Nat} {x : Nat} (ha : ws[q0]? = some (a, .inl (cA, N, .inl (aN f)))) (ht : (TY κ.z)[t0]? = some (cA, .int)) (hj : j < N) (hN : N < 2 ^ 31) (d : decode cc pc = .ok (.iastore, 1)) (e : ws.set q0 (a, .inl (cA, N, .inl (aN (va_up f j x)))) = ws') (h : V κ nL k n (pc + 1) lv rest ws') : V κ nL k n pc lv (.int (nI x) :: .int (nI j) :: .ref a :: rest) ws := by
  subst e
  exact fun H locs ls hP hD hS hl => va_iast X.1 X.2.1 X.2.2.2.2.2.1 hP hD hS q0 t0 ha ht (vp_in_nI hj hN) d (fun H1 locs1 hP1 hD1 hS1 => by
    rw [nI_clamp (show j < 2 ^ 31 by omega), aN_up] at hP1 hD1
    exact h H1 locs1 ls hP1 hD1 hS1 hl)
theorem v_zastN (X : Cx κ cc own rm nL) (q0 t0 : Nat) {cA : ClassId} {N a j : Nat} {f : Nat → Bool} {x : Bool} (ha : ws[q0]? = some (a, .inl (cA, N, .inl (aB f)))) (ht : (TY κ.z)[t0]? = some (cA, .boolean)) (hj : j < N) (hN : N < 2 ^ 31) (d : decode cc pc = .ok (.bastore, 1)) (e : ws.set q0 (a, .inl (cA, N, .inl (aB (va_up f j x)))) = ws') (h : V κ nL k n (pc + 1) lv rest ws') : V κ nL k n pc lv (.int (bI x) :: .int (nI j) :: .ref a :: rest) ws := by
  subst e
  exact fun H locs ls hP hD hS hl => va_zast X.1 X.2.1 X.2.2.2.2.2.1 hP hD hS q0 t0 ha ht (vp_in_nI hj hN) d (fun H1 locs1 hP1 hD1 hS1 => by
    rw [nI_clamp (show j < 2 ^ 31 by omega), vpnB, aB_up] at hP1 hD1
    exact h H1 locs1 ls hP1 hD1 hS1 hl)
theorem v_aaldN (X : Cx κ cc own rm nL) (q0 t0 : Nat) {cA : ClassId} {C : String} {N a j : Nat} {f : Nat → Option Nat} (ha : ws[q0]? = some (a, .inl (cA, N, .inr (.inr (.inr (.inr f)))))) (ht : (TY κ.z)[t0]? = some (cA, .object C)) (hj : j < N) (hN : N < 2 ^ 31) (d : decode cc pc = .ok (.aaload, 1)) (h : V κ nL k n (pc + 1) lv (va_rf (f j) :: rest) ws) : V κ nL k n pc lv (.int (nI j) :: .ref a :: rest) ws := v_aald X q0 t0 ha ht (vp_in_nI hj hN) d (by rw [nI_clamp (by omega)]; exact h)
theorem v_aaldM (X : Cx κ cc own rm nL) (q0 t0 : Nat) {cA : ClassId} {C : String} {N a b j : Nat} {f : Nat → Option Nat} (ha : ws[q0]? = some (a, .inl (cA, N, .inr (.inr (.inr (.inr f)))))) (ht : (TY κ.z)[t0]? = some (cA, .object C)) (hj : j < N) (hN : N < 2 ^ 31) (hf : f j = some b) (d : decode cc pc = .ok (.aaload, 1)) (h : V κ nL k n (pc + 1) lv (.ref b :: rest) ws) : V κ nL k n pc lv (.int (nI j) :: .ref a :: rest) ws := v_aaldN X q0 t0 ha ht hj hN d (by rw [hf]; exact h)
theorem v_aastN (X : Cx κ cc own rm nL) (q0 t0 qk ci : Nat) {cA : ClassId} {r : vw_C} {N v a j : Nat} {vs : List Value} {f : Nat → Option Nat} (ha : ws[q0]? = some (a, .inl (cA, N, .inr (.inr (.inr (.inr f)))))) (ht : (TY κ.z)[t0]? = some (cA, .object r.1)) (hv : ws[qk]? = some (v, .inr (ci, vs))) (hc : CLS[ci]? = some r) (hj : j < N) (hN : N < 2 ^ 31) (d : decode cc pc = .ok (.aastore, 1)) (e : ws.set q0 (a, .inl (cA, N, .inr (.inr (.inr (.inr (va_up f j (some v))))))) = ws') (h : V κ nL k n (pc + 1) lv rest ws') : V κ nL k n pc lv (.ref v :: .int (nI j) :: .ref a :: rest) ws := by
  subst e
  refine v_aast X q0 t0 qk ci ha ht hv hc (vp_in_nI hj hN) d rfl ?_
  rw [nI_clamp (show j < 2 ^ 31 by omega)]
  exact h
theorem v_zastW (X : Cx κ cc own rm nL) (q0 t0 : Nat) {cA : ClassId} {N a : Nat} {i : Int32} {f : Nat → Bool} {x : Bool} (ha : ws[q0]? = some (a, .inl (cA, N, .inl (aB f)))) (ht : (TY κ.z)[t0]? = some (cA, .boolean)) (hin : vp_in i N) (d : decode cc pc = .ok (.bastore, 1)) (e : ws.set q0 (a, .inl (cA, N, .inl (aB (va_up f i.toNatClampNeg x)))) = ws') (h : V κ nL k n (pc + 1) lv rest ws') : V κ nL k n pc lv (.int (bI x) :: .int i :: .ref a :: rest) ws := by
  subst e
  exact fun H locs ls hP hD hS hl => va_zast X.1 X.2.1 X.2.2.2.2.2.1 hP hD hS q0 t0 ha ht hin d (fun H1 locs1 hP1 hD1 hS1 => by
    rw [vpnB, aB_up] at hP1 hD1
    exact h H1 locs1 ls hP1 hD1 hS1 hl)
end VN
end
section
def f_J_max_II (x : Int32) (y : Int32) : Int32 := if x < y then y else x
set_option maxHeartbeats 4000000 in
set_option maxRecDepth 100000 in
theorem c_J_max_II (l : Launch) (D : va_G) (z : Nat → ClassId) (x : Int32) (y : Int32)  : Ctr l D z y_J_max_II b_J_max_II 2 (some .int) { frames := 0, cells := 0, slots := 0, locals := 0 } [.int x, .int y] [] (fun v w => v = some (.int (f_J_max_II x y)) ∧ w = []) 0 0 := by
  refine met_V (own := R_J) (nm := "max") (by decide +kernel) rfl rfl (Nat.le_of_ble_eq_true rfl) ?_
  intro κ hl hD hz X Y
  subst hl
  subst hD
  subst hz
  show V κ 2 0 0 0 [(0, .int x), (1, .int y)] [] []
  refine v_iload_n X 0 d_J_max_II_0 rfl ?_
  refine v_iload_n X 1 d_J_max_II_1 rfl ?_
  suffices hm2 : V κ 2 0 0 10 [(0, .int x), (1, .int y)] [.int (if x < y then y else x)] [] by
    refine v_icmp_lt X 9 d_J_max_II_2 (by decide) (fun c2 => ?_) (fun c2 => ?_)
    · skip
      refine v_iload_n X 1 d_J_max_II_9 rfl ?_
      have h9 := hm2; simp only [if_pos c2] at h9; first | exact h9 | (simp only [if_pos c2]; exact h9)
    · skip
      refine v_iload_n X 0 d_J_max_II_5 rfl ?_
      refine v_goto X 10 d_J_max_II_6 (by decide) ?_
      have h9 := hm2; simp only [if_neg c2] at h9; first | exact h9 | (simp only [if_neg c2]; exact h9)
  exact v_iret X Y (by decide) (by decide) d_J_max_II_10 ⟨rfl, rfl⟩

def f_J_max_JJ (x : Int64) (y : Int64) : Int64 := if x < y then y else x
set_option maxHeartbeats 4000000 in
set_option maxRecDepth 100000 in
theorem c_J_max_JJ (l : Launch) (D : va_G) (z : Nat → ClassId) (x : Int64) (y : Int64)  : Ctr l D z y_J_max_JJ b_J_max_JJ 4 (some .long) { frames := 0, cells := 0, slots := 0, locals := 0 } [.long x, .long y] [] (fun v w => v = some (.long (f_J_max_JJ x y)) ∧ w = []) 0 0 := by
  refine met_V (own := R_J) (nm := "max") (by decide +kernel) rfl rfl (Nat.le_of_ble_eq_true rfl) ?_
  intro κ hl hD hz X Y
  subst hl
  subst hD
  subst hz
  show V κ 4 0 0 0 [(0, .long x), (2, .long y)] [] []
  refine v_lload_n X 0 d_J_max_JJ_0 rfl ?_
  refine v_lload_n X 1 d_J_max_JJ_1 rfl ?_
  suffices hm2 : V κ 4 0 0 11 [(0, .long x), (2, .long y)] [.long (if x < y then y else x)] [] by
    refine v_lcmp_lt X 10 d_J_max_JJ_2 d_J_max_JJ_3 (by decide) (fun c2 => ?_) (fun c2 => ?_)
    · skip
      refine v_lload_n X 1 d_J_max_JJ_10 rfl ?_
      have h9 := hm2; simp only [if_pos c2] at h9; first | exact h9 | (simp only [if_pos c2]; exact h9)
    · skip
      refine v_lload_n X 0 d_J_max_JJ_6 rfl ?_
      refine v_goto X 11 d_J_max_JJ_7 (by decide) ?_
      have h9 := hm2; simp only [if_neg c2] at h9; first | exact h9 | (simp only [if_neg c2]; exact h9)
  exact v_lret X Y (by decide) (by decide) d_J_max_JJ_11 ⟨rfl, rfl⟩

def f_J_min_II (x : Int32) (y : Int32) : Int32 := if y < x then y else x
set_option maxHeartbeats 4000000 in
set_option maxRecDepth 100000 in
theorem c_J_min_II (l : Launch) (D : va_G) (z : Nat → ClassId) (x : Int32) (y : Int32)  : Ctr l D z y_J_min_II b_J_min_II 2 (some .int) { frames := 0, cells := 0, slots := 0, locals := 0 } [.int x, .int y] [] (fun v w => v = some (.int (f_J_min_II x y)) ∧ w = []) 0 0 := by
  refine met_V (own := R_J) (nm := "min") (by decide +kernel) rfl rfl (Nat.le_of_ble_eq_true rfl) ?_
  intro κ hl hD hz X Y
  subst hl
  subst hD
  subst hz
  show V κ 2 0 0 0 [(0, .int x), (1, .int y)] [] []
  refine v_iload_n X 0 d_J_min_II_0 rfl ?_
  refine v_iload_n X 1 d_J_min_II_1 rfl ?_
  suffices hm2 : V κ 2 0 0 10 [(0, .int x), (1, .int y)] [.int (if y < x then y else x)] [] by
    refine v_icmp_gt X 9 d_J_min_II_2 (by decide) (fun c2 => ?_) (fun c2 => ?_)
    · skip
      refine v_iload_n X 1 d_J_min_II_9 rfl ?_
      have h9 := hm2; simp only [if_pos c2] at h9; first | exact h9 | (simp only [if_pos c2]; exact h9)
    · skip
      refine v_iload_n X 0 d_J_min_II_5 rfl ?_
      refine v_goto X 10 d_J_min_II_6 (by decide) ?_
      have h9 := hm2; simp only [if_neg c2] at h9; first | exact h9 | (simp only [if_neg c2]; exact h9)
  exact v_iret X Y (by decide) (by decide) d_J_min_II_10 ⟨rfl, rfl⟩

def f_J_min_JJ (x : Int64) (y : Int64) : Int64 := if y < x then y else x
set_option maxHeartbeats 4000000 in
set_option maxRecDepth 100000 in
theorem c_J_min_JJ (l : Launch) (D : va_G) (z : Nat → ClassId) (x : Int64) (y : Int64)  : Ctr l D z y_J_min_JJ b_J_min_JJ 4 (some .long) { frames := 0, cells := 0, slots := 0, locals := 0 } [.long x, .long y] [] (fun v w => v = some (.long (f_J_min_JJ x y)) ∧ w = []) 0 0 := by
  refine met_V (own := R_J) (nm := "min") (by decide +kernel) rfl rfl (Nat.le_of_ble_eq_true rfl) ?_
  intro κ hl hD hz X Y
  subst hl
  subst hD
  subst hz
  show V κ 4 0 0 0 [(0, .long x), (2, .long y)] [] []
  refine v_lload_n X 0 d_J_min_JJ_0 rfl ?_
  refine v_lload_n X 1 d_J_min_JJ_1 rfl ?_
  suffices hm2 : V κ 4 0 0 11 [(0, .long x), (2, .long y)] [.long (if y < x then y else x)] [] by
    refine v_lcmp_gt X 10 d_J_min_JJ_2 d_J_min_JJ_3 (by decide) (fun c2 => ?_) (fun c2 => ?_)
    · skip
      refine v_lload_n X 1 d_J_min_JJ_10 rfl ?_
      have h9 := hm2; simp only [if_pos c2] at h9; first | exact h9 | (simp only [if_pos c2]; exact h9)
    · skip
      refine v_lload_n X 0 d_J_min_JJ_6 rfl ?_
      refine v_goto X 11 d_J_min_JJ_7 (by decide) ?_
      have h9 := hm2; simp only [if_neg c2] at h9; first | exact h9 | (simp only [if_neg c2]; exact h9)
  exact v_lret X Y (by decide) (by decide) d_J_min_JJ_11 ⟨rfl, rfl⟩

def f_J_abs (x : Int64) : Int64 := if 0 ≤ x then x else -x
set_option maxHeartbeats 4000000 in
set_option maxRecDepth 100000 in
theorem c_J_abs (l : Launch) (D : va_G) (z : Nat → ClassId) (x : Int64)  : Ctr l D z y_J_abs b_J_abs 2 (some .long) { frames := 0, cells := 0, slots := 0, locals := 0 } [.long x] [] (fun v w => v = some (.long (f_J_abs x)) ∧ w = []) 0 0 := by
  refine met_V (own := R_J) (nm := "abs") (by decide +kernel) rfl rfl (Nat.le_of_ble_eq_true rfl) ?_
  intro κ hl hD hz X Y
  subst hl
  subst hD
  subst hz
  show V κ 2 0 0 0 [(0, .long x)] [] []
  refine v_lload_n X 0 d_J_abs_0 rfl ?_
  refine v_lconst X 0 d_J_abs_1 (by decide) ?_
  suffices hm2 : V κ 2 0 0 12 [(0, .long x)] [.long (if 0 ≤ x then x else -x)] [] by
    refine v_lcmp_ge X 11 d_J_abs_2 d_J_abs_3 (by decide) (fun c2 => ?_) (fun c2 => ?_)
    · skip
      refine v_lload_n X 0 d_J_abs_11 rfl ?_
      have h9 := hm2; simp only [if_pos c2] at h9; first | exact h9 | (simp only [if_pos c2]; exact h9)
    · skip
      refine v_lload_n X 0 d_J_abs_6 rfl ?_
      refine v_lneg X d_J_abs_7 ?_
      refine v_goto X 12 d_J_abs_8 (by decide) ?_
      have h9 := hm2; simp only [if_neg c2] at h9; first | exact h9 | (simp only [if_neg c2]; exact h9)
  exact v_lret X Y (by decide) (by decide) d_J_abs_12 ⟨rfl, rfl⟩

def f_J_floorDiv (x : Int64) (y : Int64) : Int64 := if 0 ≤ (x ^^^ y) then x / y else if ((x / y) * y) = x then x / y else (x / y) - 1
set_option maxHeartbeats 4000000 in
set_option maxRecDepth 100000 in
theorem c_J_floorDiv (l : Launch) (D : va_G) (z : Nat → ClassId) (x : Int64) (y : Int64) (hy : ¬ y = 0) : Ctr l D z y_J_floorDiv b_J_floorDiv 6 (some .long) { frames := 0, cells := 0, slots := 0, locals := 0 } [.long x, .long y] [] (fun v w => v = some (.long (f_J_floorDiv x y)) ∧ w = []) 0 0 := by
  refine met_V (own := R_J) (nm := "floorDiv") (by decide +kernel) rfl rfl (Nat.le_of_ble_eq_true rfl) ?_
  intro κ hl hD hz X Y
  subst hl
  subst hD
  subst hz
  show V κ 6 0 0 0 [(0, .long x), (2, .long y)] [] []
  refine v_lload_n X 0 d_J_floorDiv_0 rfl ?_
  refine v_lload_n X 1 d_J_floorDiv_1 rfl ?_
  refine v_ldiv X d_J_floorDiv_2 hy ?_
  refine v_lstore X d_J_floorDiv_3 (by decide) (lv' := [(4, .long (x / y)), (0, .long x), (2, .long y)]) rfl ?_
  refine v_lload_n X 1 d_J_floorDiv_5 rfl ?_
  refine v_lload_n X 2 d_J_floorDiv_6 rfl ?_
  refine v_lxor X d_J_floorDiv_7 ?_
  refine v_lconst X 0 d_J_floorDiv_8 (by decide) ?_
  refine v_lcmp_ge X 27 d_J_floorDiv_9 d_J_floorDiv_10 (by decide) (fun c9 => ?_) (fun c9 => ?_)
  · skip
    refine v_lload X 0 d_J_floorDiv_27 rfl ?_
    exact v_lret X Y (by decide) (by decide) d_J_floorDiv_29 ⟨by simp only [f_J_floorDiv, if_pos c9] <;> rfl, rfl⟩
  · skip
    refine v_lload X 0 d_J_floorDiv_13 rfl ?_
    refine v_lload_n X 2 d_J_floorDiv_15 rfl ?_
    refine v_lmul X d_J_floorDiv_16 ?_
    refine v_lload_n X 1 d_J_floorDiv_17 rfl ?_
    refine v_lcmp_eq X 27 d_J_floorDiv_18 d_J_floorDiv_19 (by decide) (fun c18 => ?_) (fun c18 => ?_)
    · skip
      refine v_lload X 0 d_J_floorDiv_27 rfl ?_
      exact v_lret X Y (by decide) (by decide) d_J_floorDiv_29 ⟨by simp only [f_J_floorDiv, if_neg c9, if_pos c18] <;> rfl, rfl⟩
    · skip
      refine v_lload X 0 d_J_floorDiv_22 rfl ?_
      refine v_lconst X 1 d_J_floorDiv_24 (by decide) ?_
      refine v_lsub X d_J_floorDiv_25 ?_
      exact v_lret X Y (by decide) (by decide) d_J_floorDiv_26 ⟨by simp only [f_J_floorDiv, if_neg c9, if_neg c18] <;> rfl, rfl⟩

def f_J_min_IIN (p : Nat) (q : Nat) : Nat := if q < p then q else p
set_option maxHeartbeats 4000000 in
set_option maxRecDepth 100000 in
theorem c_J_min_IIN (l : Launch) (D : va_G) (z : Nat → ClassId) (p : Nat) (q : Nat) (hp9 : p < 2 ^ 31) (hq9 : q < 2 ^ 31) : Ctr l D z y_J_min_II b_J_min_II 2 (some .int) { frames := 0, cells := 0, slots := 0, locals := 0 } [.int (nI p), .int (nI q)] [] (fun v w => v = some (.int (nI (f_J_min_IIN p q))) ∧ w = []) 0 0 := by
  refine met_V (own := R_J) (nm := "min") (by decide +kernel) rfl rfl (Nat.le_of_ble_eq_true rfl) ?_
  intro κ hl hD hz X Y
  subst hl
  subst hD
  subst hz
  show V κ 2 0 0 0 [(0, .int (nI p)), (1, .int (nI q))] [] []
  refine v_iload_n X 0 d_J_min_II_0 rfl ?_
  refine v_iload_n X 1 d_J_min_II_1 rfl ?_
  suffices hm2 : V κ 2 0 0 10 [(0, .int (nI p)), (1, .int (nI q))] [.int (nI (if q < p then q else p))] [] by
    refine v_icmpN_gt X 9 (a := p) (b := q) d_J_min_II_2 (by decide) (by omega) (by omega) (fun c2 => ?_) (fun c2 => ?_)
    · skip
      refine v_iload_n X 1 d_J_min_II_9 rfl ?_
      have h9 := hm2; simp only [if_pos c2] at h9; first | exact h9 | (simp only [if_pos c2]; exact h9)
    · skip
      refine v_iload_n X 0 d_J_min_II_5 rfl ?_
      refine v_goto X 10 d_J_min_II_6 (by decide) ?_
      have h9 := hm2; simp only [if_neg c2] at h9; first | exact h9 | (simp only [if_neg c2]; exact h9)
  exact v_iret X Y (by decide) (by decide) d_J_min_II_10 ⟨rfl, rfl⟩
end
section
def f_M_growth (t : Int64) (dr : Int32) : Int64 := f_J_floorDiv (((t * dr.toInt64) + 1000000) - 1) 1000000
set_option maxHeartbeats 4000000 in
set_option maxRecDepth 100000 in
theorem c_M_growth (l : Launch) (D : va_G) (z : Nat → ClassId) (t : Int64) (dr : Int32)  : Ctr l D z y_M_growth b_M_growth 3 (some .long) { frames := 1, cells := 0, slots := 0, locals := 25 } [.long t, .int dr] [] (fun v w => v = some (.long (f_M_growth t dr)) ∧ w = []) 0 0 := by
  refine met_V (own := R_M) (nm := "growth") (by decide +kernel) rfl rfl (Nat.le_of_ble_eq_true rfl) ?_
  intro κ hl hD hz X Y
  subst hl
  subst hD
  subst hz
  show V κ 3 0 0 0 [(0, .long t), (2, .int dr)] [] []
  refine v_lload_n X 0 d_M_growth_0 rfl ?_
  refine v_iload_n X 1 d_M_growth_1 rfl ?_
  refine v_i2l X d_M_growth_2 ?_
  refine v_lmul X d_M_growth_3 ?_
  refine v_ldc2 X (v := 1000000) m250 d_M_growth_4 ?_
  refine v_ladd X d_M_growth_7 ?_
  refine v_lconst X 1 d_M_growth_8 (by decide) ?_
  refine v_lsub X d_M_growth_9 ?_
  refine v_ldc2 X (v := 1000000) m250 d_M_growth_10 ?_
  refine v_callS X (n9 := 2) (As := [.long (((t * dr.toInt64) + 1000000) - 1), .long 1000000]) (rest := []) (wc := []) (wr := []) (c_J_floorDiv κ.l κ.D κ.z (((t * dr.toInt64) + 1000000) - 1) 1000000 (by decide)) m251 m252 m31 (by decide +kernel) rfl (Nat.le_of_ble_eq_true rfl) ⟨by decide, by decide⟩ ⟨by decide, by decide⟩ rfl rfl m253 d_M_growth_13 (fun v w1 hg => ?_)
  obtain ⟨rfl, rfl⟩ := hg
  show V κ 3 0 0 16 [(0, .long t), (2, .int dr)] [.long (f_J_floorDiv (((t * dr.toInt64) + 1000000) - 1) 1000000)] []
  exact v_lret X Y (by decide) (by decide) d_M_growth_16 ⟨rfl, rfl⟩

def f_M_mixed (x : Int64) (y : Int64) : Int64 := ((x ^^^ y) * (-7046029254386353131)) ^^^ ((((x ^^^ y) * (-7046029254386353131)).toUInt64 >>> ((29 : Int32).toInt64.toUInt64 &&& Int64.toUInt64 63)).toInt64)
set_option maxHeartbeats 4000000 in
set_option maxRecDepth 100000 in
theorem c_M_mixed (l : Launch) (D : va_G) (z : Nat → ClassId) (x : Int64) (y : Int64)  : Ctr l D z y_M_mixed b_M_mixed 6 (some .long) { frames := 0, cells := 0, slots := 0, locals := 0 } [.long x, .long y] [] (fun v w => v = some (.long (f_M_mixed x y)) ∧ w = []) 0 0 := by
  refine met_V (own := R_M) (nm := "mixed") (by decide +kernel) rfl rfl (Nat.le_of_ble_eq_true rfl) ?_
  intro κ hl hD hz X Y
  subst hl
  subst hD
  subst hz
  show V κ 6 0 0 0 [(0, .long x), (2, .long y)] [] []
  refine v_lload_n X 0 d_M_mixed_0 rfl ?_
  refine v_lload_n X 1 d_M_mixed_1 rfl ?_
  refine v_lxor X d_M_mixed_2 ?_
  refine v_ldc2 X (v := (-7046029254386353131)) m192 d_M_mixed_3 ?_
  refine v_lmul X d_M_mixed_6 ?_
  refine v_lstore X d_M_mixed_7 (by decide) (lv' := [(4, .long ((x ^^^ y) * (-7046029254386353131))), (0, .long x), (2, .long y)]) rfl ?_
  refine v_lload X 0 d_M_mixed_9 rfl ?_
  refine v_lload X 0 d_M_mixed_11 rfl ?_
  refine v_bipush X 29 d_M_mixed_13 (by decide) ?_
  refine v_lushr X d_M_mixed_15 ?_
  refine v_lxor X d_M_mixed_16 ?_
  exact v_lret X Y (by decide) (by decide) d_M_mixed_17 ⟨rfl, rfl⟩

def f_M_sealUnder (k : Int64) (x : Int64) (y : Int64) (t : Int64) : Int32 := (((f_M_mixed (f_M_mixed (f_M_mixed k x) y) t).toUInt64 >>> ((32 : Int32).toInt64.toUInt64 &&& Int64.toUInt64 63)).toInt64).toInt32
set_option maxHeartbeats 4000000 in
set_option maxRecDepth 100000 in
theorem c_M_sealUnder (l : Launch) (D : va_G) (z : Nat → ClassId) (k : Int64) (x : Int64) (y : Int64) (t : Int64)  : Ctr l D z y_M_sealUnder b_M_sealUnder 10 (some .int) { frames := 1, cells := 0, slots := 0, locals := 25 } [.long k, .long x, .long y, .long t] [] (fun v w => v = some (.int (f_M_sealUnder k x y t)) ∧ w = []) 0 0 := by
  refine met_V (own := R_M) (nm := "sealUnder") (by decide +kernel) rfl rfl (Nat.le_of_ble_eq_true rfl) ?_
  intro κ hl hD hz X Y
  subst hl
  subst hD
  subst hz
  show V κ 10 0 0 0 [(0, .long k), (2, .long x), (4, .long y), (6, .long t)] [] []
  refine v_lload_n X 0 d_M_sealUnder_0 rfl ?_
  refine v_lload_n X 1 d_M_sealUnder_1 rfl ?_
  refine v_callS X (n9 := 2) (As := [.long k, .long x]) (rest := []) (wc := []) (wr := []) (c_M_mixed κ.l κ.D κ.z k x ) m189 m190 m30 (by decide +kernel) rfl (Nat.le_of_ble_eq_true rfl) ⟨by decide, by decide⟩ ⟨by decide, by decide⟩ rfl rfl m191 d_M_sealUnder_2 (fun v w1 hg => ?_)
  obtain ⟨rfl, rfl⟩ := hg
  show V κ 10 0 0 5 [(0, .long k), (2, .long x), (4, .long y), (6, .long t)] [.long (f_M_mixed k x)] []
  refine v_lload X 2 d_M_sealUnder_5 rfl ?_
  refine v_callS X (n9 := 2) (As := [.long (f_M_mixed k x), .long y]) (rest := []) (wc := []) (wr := []) (c_M_mixed κ.l κ.D κ.z (f_M_mixed k x) y ) m189 m190 m30 (by decide +kernel) rfl (Nat.le_of_ble_eq_true rfl) ⟨by decide, by decide⟩ ⟨by decide, by decide⟩ rfl rfl m191 d_M_sealUnder_7 (fun v w1 hg => ?_)
  obtain ⟨rfl, rfl⟩ := hg
  show V κ 10 0 0 10 [(0, .long k), (2, .long x), (4, .long y), (6, .long t)] [.long (f_M_mixed (f_M_mixed k x) y)] []
  refine v_lload X 3 d_M_sealUnder_10 rfl ?_
  refine v_callS X (n9 := 2) (As := [.long (f_M_mixed (f_M_mixed k x) y), .long t]) (rest := []) (wc := []) (wr := []) (c_M_mixed κ.l κ.D κ.z (f_M_mixed (f_M_mixed k x) y) t ) m189 m190 m30 (by decide +kernel) rfl (Nat.le_of_ble_eq_true rfl) ⟨by decide, by decide⟩ ⟨by decide, by decide⟩ rfl rfl m191 d_M_sealUnder_12 (fun v w1 hg => ?_)
  obtain ⟨rfl, rfl⟩ := hg
  show V κ 10 0 0 15 [(0, .long k), (2, .long x), (4, .long y), (6, .long t)] [.long (f_M_mixed (f_M_mixed (f_M_mixed k x) y) t)] []
  refine v_lstore X d_M_sealUnder_15 (by decide) (lv' := [(8, .long (f_M_mixed (f_M_mixed (f_M_mixed k x) y) t)), (0, .long k), (2, .long x), (4, .long y), (6, .long t)]) rfl ?_
  refine v_lload X 0 d_M_sealUnder_17 rfl ?_
  refine v_bipush X 32 d_M_sealUnder_19 (by decide) ?_
  refine v_lushr X d_M_sealUnder_21 ?_
  refine v_l2i X d_M_sealUnder_22 ?_
  exact v_iret X Y (by decide) (by decide) d_M_sealUnder_23 ⟨rfl, rfl⟩

def f_M_isReplyTime (x : Int64) : Bool := (if x < 0 then false else (if 1099511627776 < x then false else true))
set_option maxHeartbeats 4000000 in
set_option maxRecDepth 100000 in
theorem c_M_isReplyTime (l : Launch) (D : va_G) (z : Nat → ClassId) (x : Int64)  : Ctr l D z y_M_isReplyTime b_M_isReplyTime 2 (some .boolean) { frames := 0, cells := 0, slots := 0, locals := 0 } [.long x] [] (fun v w => v = some (.int (bI (f_M_isReplyTime x))) ∧ w = []) 0 0 := by
  refine met_V (own := R_M) (nm := "isReplyTime") (by decide +kernel) rfl rfl (Nat.le_of_ble_eq_true rfl) ?_
  intro κ hl hD hz X Y
  subst hl
  subst hD
  subst hz
  show V κ 2 0 0 0 [(0, .long x)] [] []
  refine v_lload_n X 0 d_M_isReplyTime_0 rfl ?_
  refine v_lconst X 0 d_M_isReplyTime_1 (by decide) ?_
  suffices hm2 : V κ 2 0 0 19 [(0, .long x)] [.int (bI (if x < 0 then false else (if 1099511627776 < x then false else true)))] [] by
    refine v_lcmp_lt X 18 d_M_isReplyTime_2 d_M_isReplyTime_3 (by decide) (fun c2 => ?_) (fun c2 => ?_)
    · skip
      refine v_iconst X 0 d_M_isReplyTime_18 (by decide) ?_
      have h9 := hm2; simp only [if_pos c2] at h9; first | exact h9 | (simp only [if_pos c2]; exact h9)
    · skip
      refine v_lload_n X 0 d_M_isReplyTime_6 rfl ?_
      refine v_ldc2 X (v := 1099511627776) m212 d_M_isReplyTime_7 ?_
      suffices hm10 : V κ 2 0 0 19 [(0, .long x)] [.int (bI (if 1099511627776 < x then false else true))] [] by
        refine v_lcmp_gt X 18 d_M_isReplyTime_10 d_M_isReplyTime_11 (by decide) (fun c10 => ?_) (fun c10 => ?_)
        · skip
          refine v_iconst X 0 d_M_isReplyTime_18 (by decide) ?_
          have h9 := hm10; simp only [if_pos c10] at h9; first | exact h9 | (simp only [if_pos c10]; exact h9)
        · skip
          refine v_iconst X 1 d_M_isReplyTime_14 (by decide) ?_
          refine v_goto X 19 d_M_isReplyTime_15 (by decide) ?_
          have h9 := hm10; simp only [if_neg c10] at h9; first | exact h9 | (simp only [if_neg c10]; exact h9)
      have h9 := hm2; simp only [if_neg c2] at h9; first | exact h9 | (simp only [if_neg c2]; exact h9)
  exact v_zret X Y (by decide) (by decide) d_M_isReplyTime_19 (narB _) ⟨rfl, rfl⟩

set_option maxHeartbeats 4000000 in
set_option maxRecDepth 100000 in
theorem c_Sv_expectReply (l : Launch) (D : va_G) (z : Nat → ClassId) (a : Nat) (b1 : Nat) (b2 : Nat) (b3 : Nat) (sec : Int64) (pen : Bool) (pst : Int64) (psi : Int64) (acc : Int64) (str : Int32) (ref : Int32) (rt : Int32) (sm : Nat) (lo : Nat → Int64) (hi : Nat → Int64) (ti : Nat → Int64) (x : Int64) (y : Int64)  : Ctr l D z y_Sv_expectReply b_Sv_expectReply 5 none { frames := 0, cells := 0, slots := 0, locals := 0 } [.ref a, .long x, .long y] [(a, .inr (3, [.long sec, .int (bI pen), .long pst, .long psi, .long acc, .int str, .int ref, .int rt, .int (nI sm), .ref b1, .ref b2, .ref b3])), (b1, .inl (z 1, 8, .inr (.inl lo))), (b2, .inl (z 1, 8, .inr (.inl hi))), (b3, .inl (z 1, 8, .inr (.inl ti)))] (fun v w => v = none ∧ w = [(a, .inr (3, [.long sec, .int (bI true), .long x, .long y, .long acc, .int str, .int ref, .int rt, .int (nI sm), .ref b1, .ref b2, .ref b3])), (b1, .inl (z 1, 8, .inr (.inl lo))), (b2, .inl (z 1, 8, .inr (.inl hi))), (b3, .inl (z 1, 8, .inr (.inl ti)))]) 0 0 := by
  refine met_V (own := R_Sv) (nm := "expectReply") (by decide +kernel) rfl rfl (Nat.le_of_ble_eq_true rfl) ?_
  intro κ hl hD hz X Y
  subst hl
  subst hD
  subst hz
  show V κ 5 0 0 0 [(0, .ref a), (1, .long x), (3, .long y)] [] [(a, .inr (3, [.long sec, .int (bI pen), .long pst, .long psi, .long acc, .int str, .int ref, .int rt, .int (nI sm), .ref b1, .ref b2, .ref b3])), (b1, .inl (κ.z 1, 8, .inr (.inl lo))), (b2, .inl (κ.z 1, 8, .inr (.inl hi))), (b3, .inl (κ.z 1, 8, .inr (.inl ti)))]
  refine v_aload_n X 0 d_Sv_expectReply_0 rfl ?_
  refine v_iconst X 1 d_Sv_expectReply_1 (by decide) ?_
  refine v_put X 0 1 (v := .int (bI true)) (ty := .boolean) ty_Sv tk_Sv n_Sv rfl rfl li_Sv (by decide) m58 rfl (by decide +kernel) (narB _) rfl (Nat.le_of_ble_eq_true rfl) d_Sv_expectReply_2 (ws' := [(a, .inr (3, [.long sec, .int (bI true), .long pst, .long psi, .long acc, .int str, .int ref, .int rt, .int (nI sm), .ref b1, .ref b2, .ref b3])), (b1, .inl (κ.z 1, 8, .inr (.inl lo))), (b2, .inl (κ.z 1, 8, .inr (.inl hi))), (b3, .inl (κ.z 1, 8, .inr (.inl ti)))]) rfl ?_
  refine v_aload_n X 0 d_Sv_expectReply_5 rfl ?_
  refine v_lload_n X 1 d_Sv_expectReply_6 rfl ?_
  refine v_put X 0 2 (v := .long x) (ty := .long) ty_Sv tk_Sv n_Sv rfl rfl li_Sv (by decide) m59 rfl (by decide +kernel) rfl rfl (Nat.le_of_ble_eq_true rfl) d_Sv_expectReply_7 (ws' := [(a, .inr (3, [.long sec, .int (bI true), .long x, .long psi, .long acc, .int str, .int ref, .int rt, .int (nI sm), .ref b1, .ref b2, .ref b3])), (b1, .inl (κ.z 1, 8, .inr (.inl lo))), (b2, .inl (κ.z 1, 8, .inr (.inl hi))), (b3, .inl (κ.z 1, 8, .inr (.inl ti)))]) rfl ?_
  refine v_aload_n X 0 d_Sv_expectReply_10 rfl ?_
  refine v_lload_n X 2 d_Sv_expectReply_11 rfl ?_
  refine v_put X 0 3 (v := .long y) (ty := .long) ty_Sv tk_Sv n_Sv rfl rfl li_Sv (by decide) m60 rfl (by decide +kernel) rfl rfl (Nat.le_of_ble_eq_true rfl) d_Sv_expectReply_12 (ws' := [(a, .inr (3, [.long sec, .int (bI true), .long x, .long y, .long acc, .int str, .int ref, .int rt, .int (nI sm), .ref b1, .ref b2, .ref b3])), (b1, .inl (κ.z 1, 8, .inr (.inl lo))), (b2, .inl (κ.z 1, 8, .inr (.inl hi))), (b3, .inl (κ.z 1, 8, .inr (.inl ti)))]) rfl ?_
  exact v_vret X Y (by decide) (by decide) d_Sv_expectReply_15 ⟨rfl, rfl⟩

def f_Sv_acceptedLast (acc : Int64) (sm : Nat) (x : Int64) : Bool := (if sm ≤ 0 then false else (if acc = x then true else false))
set_option maxHeartbeats 4000000 in
set_option maxRecDepth 100000 in
theorem c_Sv_acceptedLast (l : Launch) (D : va_G) (z : Nat → ClassId) (a : Nat) (b1 : Nat) (b2 : Nat) (b3 : Nat) (sec : Int64) (pen : Bool) (pst : Int64) (psi : Int64) (acc : Int64) (str : Int32) (ref : Int32) (rt : Int32) (sm : Nat) (lo : Nat → Int64) (hi : Nat → Int64) (ti : Nat → Int64) (x : Int64) (hs8 : sm ≤ 8) : Ctr l D z y_Sv_acceptedLast b_Sv_acceptedLast 3 (some .boolean) { frames := 0, cells := 0, slots := 0, locals := 0 } [.ref a, .long x] [(a, .inr (3, [.long sec, .int (bI pen), .long pst, .long psi, .long acc, .int str, .int ref, .int rt, .int (nI sm), .ref b1, .ref b2, .ref b3])), (b1, .inl (z 1, 8, .inr (.inl lo))), (b2, .inl (z 1, 8, .inr (.inl hi))), (b3, .inl (z 1, 8, .inr (.inl ti)))] (fun v w => v = some (.int (bI (f_Sv_acceptedLast acc sm x))) ∧ w = [(a, .inr (3, [.long sec, .int (bI pen), .long pst, .long psi, .long acc, .int str, .int ref, .int rt, .int (nI sm), .ref b1, .ref b2, .ref b3])), (b1, .inl (z 1, 8, .inr (.inl lo))), (b2, .inl (z 1, 8, .inr (.inl hi))), (b3, .inl (z 1, 8, .inr (.inl ti)))]) 0 0 := by
  refine met_V (own := R_Sv) (nm := "acceptedLast") (by decide +kernel) rfl rfl (Nat.le_of_ble_eq_true rfl) ?_
  intro κ hl hD hz X Y
  subst hl
  subst hD
  subst hz
  show V κ 3 0 0 0 [(0, .ref a), (1, .long x)] [] [(a, .inr (3, [.long sec, .int (bI pen), .long pst, .long psi, .long acc, .int str, .int ref, .int rt, .int (nI sm), .ref b1, .ref b2, .ref b3])), (b1, .inl (κ.z 1, 8, .inr (.inl lo))), (b2, .inl (κ.z 1, 8, .inr (.inl hi))), (b3, .inl (κ.z 1, 8, .inr (.inl ti)))]
  refine v_aload_n X 0 d_Sv_acceptedLast_0 rfl ?_
  refine v_get X 0 8 rfl rfl li_Sv (by decide) m68 rfl d_Sv_acceptedLast_1 ?_
  suffices hm4 : V κ 3 0 0 21 [(0, .ref a), (1, .long x)] [.int (bI (if sm ≤ 0 then false else (if acc = x then true else false)))] [(a, .inr (3, [.long sec, .int (bI pen), .long pst, .long psi, .long acc, .int str, .int ref, .int rt, .int (nI sm), .ref b1, .ref b2, .ref b3])), (b1, .inl (κ.z 1, 8, .inr (.inl lo))), (b2, .inl (κ.z 1, 8, .inr (.inl hi))), (b3, .inl (κ.z 1, 8, .inr (.inl ti)))] by
    refine v_ifN_le X 20 (a := sm) d_Sv_acceptedLast_4 (by decide) (by omega) (fun c4 => ?_) (fun c4 => ?_)
    · skip
      refine v_iconst X 0 d_Sv_acceptedLast_20 (by decide) ?_
      have h9 := hm4; simp only [if_pos c4] at h9; first | exact h9 | (simp only [if_pos c4]; exact h9)
    · skip
      refine v_aload_n X 0 d_Sv_acceptedLast_7 rfl ?_
      refine v_get X 0 4 rfl rfl li_Sv (by decide) m62 rfl d_Sv_acceptedLast_8 ?_
      refine v_lload_n X 1 d_Sv_acceptedLast_11 rfl ?_
      suffices hm12 : V κ 3 0 0 21 [(0, .ref a), (1, .long x)] [.int (bI (if acc = x then true else false))] [(a, .inr (3, [.long sec, .int (bI pen), .long pst, .long psi, .long acc, .int str, .int ref, .int rt, .int (nI sm), .ref b1, .ref b2, .ref b3])), (b1, .inl (κ.z 1, 8, .inr (.inl lo))), (b2, .inl (κ.z 1, 8, .inr (.inl hi))), (b3, .inl (κ.z 1, 8, .inr (.inl ti)))] by
        refine v_lcmp_ne X 20 d_Sv_acceptedLast_12 d_Sv_acceptedLast_13 (by decide) (fun c12 => ?_) (fun c12 => ?_)
        · skip
          refine v_iconst X 0 d_Sv_acceptedLast_20 (by decide) ?_
          have h9 := hm12; simp only [if_neg c12] at h9; first | exact h9 | (simp only [if_neg c12]; exact h9)
        · skip
          refine v_iconst X 1 d_Sv_acceptedLast_16 (by decide) ?_
          refine v_goto X 21 d_Sv_acceptedLast_17 (by decide) ?_
          have h9 := hm12; simp only [if_pos c12] at h9; first | exact h9 | (simp only [if_pos c12]; exact h9)
      have h9 := hm4; simp only [if_neg c4] at h9; first | exact h9 | (simp only [if_neg c4]; exact h9)
  exact v_zret X Y (by decide) (by decide) d_Sv_acceptedLast_21 (narB _) ⟨rfl, rfl⟩

def f_Sv_expects (pen : Bool) (pst : Int64) (x : Int64) : Bool := (if pen = true then (if pst = x then true else false) else false)
set_option maxHeartbeats 4000000 in
set_option maxRecDepth 100000 in
theorem c_Sv_expects (l : Launch) (D : va_G) (z : Nat → ClassId) (a : Nat) (b1 : Nat) (b2 : Nat) (b3 : Nat) (sec : Int64) (pen : Bool) (pst : Int64) (psi : Int64) (acc : Int64) (str : Int32) (ref : Int32) (rt : Int32) (sm : Nat) (lo : Nat → Int64) (hi : Nat → Int64) (ti : Nat → Int64) (x : Int64) (hs8 : sm ≤ 8) : Ctr l D z y_Sv_expects b_Sv_expects 3 (some .boolean) { frames := 0, cells := 0, slots := 0, locals := 0 } [.ref a, .long x] [(a, .inr (3, [.long sec, .int (bI pen), .long pst, .long psi, .long acc, .int str, .int ref, .int rt, .int (nI sm), .ref b1, .ref b2, .ref b3])), (b1, .inl (z 1, 8, .inr (.inl lo))), (b2, .inl (z 1, 8, .inr (.inl hi))), (b3, .inl (z 1, 8, .inr (.inl ti)))] (fun v w => v = some (.int (bI (f_Sv_expects pen pst x))) ∧ w = [(a, .inr (3, [.long sec, .int (bI pen), .long pst, .long psi, .long acc, .int str, .int ref, .int rt, .int (nI sm), .ref b1, .ref b2, .ref b3])), (b1, .inl (z 1, 8, .inr (.inl lo))), (b2, .inl (z 1, 8, .inr (.inl hi))), (b3, .inl (z 1, 8, .inr (.inl ti)))]) 0 0 := by
  refine met_V (own := R_Sv) (nm := "expects") (by decide +kernel) rfl rfl (Nat.le_of_ble_eq_true rfl) ?_
  intro κ hl hD hz X Y
  subst hl
  subst hD
  subst hz
  show V κ 3 0 0 0 [(0, .ref a), (1, .long x)] [] [(a, .inr (3, [.long sec, .int (bI pen), .long pst, .long psi, .long acc, .int str, .int ref, .int rt, .int (nI sm), .ref b1, .ref b2, .ref b3])), (b1, .inl (κ.z 1, 8, .inr (.inl lo))), (b2, .inl (κ.z 1, 8, .inr (.inl hi))), (b3, .inl (κ.z 1, 8, .inr (.inl ti)))]
  refine v_aload_n X 0 d_Sv_expects_0 rfl ?_
  refine v_get X 0 1 rfl rfl li_Sv (by decide) m58 rfl d_Sv_expects_1 ?_
  suffices hm4 : V κ 3 0 0 21 [(0, .ref a), (1, .long x)] [.int (bI (if pen = true then (if pst = x then true else false) else false))] [(a, .inr (3, [.long sec, .int (bI pen), .long pst, .long psi, .long acc, .int str, .int ref, .int rt, .int (nI sm), .ref b1, .ref b2, .ref b3])), (b1, .inl (κ.z 1, 8, .inr (.inl lo))), (b2, .inl (κ.z 1, 8, .inr (.inl hi))), (b3, .inl (κ.z 1, 8, .inr (.inl ti)))] by
    refine v_ifB_eq X 20 (t := pen) d_Sv_expects_4 (by decide) (fun c4 => ?_) (fun c4 => ?_)
    · skip
      refine v_iconst X 0 d_Sv_expects_20 (by decide) ?_
      have h9 := hm4; simp only [if_neg c4] at h9; first | exact h9 | (simp only [if_neg c4]; exact h9)
    · skip
      refine v_aload_n X 0 d_Sv_expects_7 rfl ?_
      refine v_get X 0 2 rfl rfl li_Sv (by decide) m59 rfl d_Sv_expects_8 ?_
      refine v_lload_n X 1 d_Sv_expects_11 rfl ?_
      suffices hm12 : V κ 3 0 0 21 [(0, .ref a), (1, .long x)] [.int (bI (if pst = x then true else false))] [(a, .inr (3, [.long sec, .int (bI pen), .long pst, .long psi, .long acc, .int str, .int ref, .int rt, .int (nI sm), .ref b1, .ref b2, .ref b3])), (b1, .inl (κ.z 1, 8, .inr (.inl lo))), (b2, .inl (κ.z 1, 8, .inr (.inl hi))), (b3, .inl (κ.z 1, 8, .inr (.inl ti)))] by
        refine v_lcmp_ne X 20 d_Sv_expects_12 d_Sv_expects_13 (by decide) (fun c12 => ?_) (fun c12 => ?_)
        · skip
          refine v_iconst X 0 d_Sv_expects_20 (by decide) ?_
          have h9 := hm12; simp only [if_neg c12] at h9; first | exact h9 | (simp only [if_neg c12]; exact h9)
        · skip
          refine v_iconst X 1 d_Sv_expects_16 (by decide) ?_
          refine v_goto X 21 d_Sv_expects_17 (by decide) ?_
          have h9 := hm12; simp only [if_pos c12] at h9; first | exact h9 | (simp only [if_pos c12]; exact h9)
      have h9 := hm4; simp only [if_pos c4] at h9; first | exact h9 | (simp only [if_pos c4]; exact h9)
  exact v_zret X Y (by decide) (by decide) d_Sv_expects_21 (narB _) ⟨rfl, rfl⟩

set_option maxHeartbeats 4000000 in
set_option maxRecDepth 100000 in
theorem c_Sv_latestSampleTime (l : Launch) (D : va_G) (z : Nat → ClassId) (a : Nat) (b1 : Nat) (b2 : Nat) (b3 : Nat) (sec : Int64) (pen : Bool) (pst : Int64) (psi : Int64) (acc : Int64) (str : Int32) (ref : Int32) (rt : Int32) (sm : Nat) (lo : Nat → Int64) (hi : Nat → Int64) (ti : Nat → Int64)  : Ctr l D z y_Sv_latestSampleTime b_Sv_latestSampleTime 1 (some .long) { frames := 0, cells := 0, slots := 0, locals := 0 } [.ref a] [(a, .inr (3, [.long sec, .int (bI pen), .long pst, .long psi, .long acc, .int str, .int ref, .int rt, .int (nI sm), .ref b1, .ref b2, .ref b3])), (b1, .inl (z 1, 8, .inr (.inl lo))), (b2, .inl (z 1, 8, .inr (.inl hi))), (b3, .inl (z 1, 8, .inr (.inl ti)))] (fun v w => v = some (.long (ti 0)) ∧ w = [(a, .inr (3, [.long sec, .int (bI pen), .long pst, .long psi, .long acc, .int str, .int ref, .int rt, .int (nI sm), .ref b1, .ref b2, .ref b3])), (b1, .inl (z 1, 8, .inr (.inl lo))), (b2, .inl (z 1, 8, .inr (.inl hi))), (b3, .inl (z 1, 8, .inr (.inl ti)))]) 0 0 := by
  refine met_V (own := R_Sv) (nm := "latestSampleTime") (by decide +kernel) rfl rfl (Nat.le_of_ble_eq_true rfl) ?_
  intro κ hl hD hz X Y
  subst hl
  subst hD
  subst hz
  show V κ 1 0 0 0 [(0, .ref a)] [] [(a, .inr (3, [.long sec, .int (bI pen), .long pst, .long psi, .long acc, .int str, .int ref, .int rt, .int (nI sm), .ref b1, .ref b2, .ref b3])), (b1, .inl (κ.z 1, 8, .inr (.inl lo))), (b2, .inl (κ.z 1, 8, .inr (.inl hi))), (b3, .inl (κ.z 1, 8, .inr (.inl ti)))]
  refine v_aload_n X 0 d_Sv_latestSampleTime_0 rfl ?_
  refine v_get X 0 11 rfl rfl li_Sv (by decide) m72 rfl d_Sv_latestSampleTime_1 ?_
  refine v_iconst X 0 d_Sv_latestSampleTime_4 (by decide) ?_
  refine v_laldN X 3 1 (j := 0) rfl rfl (by omega) (by omega) d_Sv_latestSampleTime_5 ?_
  exact v_lret X Y (by decide) (by decide) d_Sv_latestSampleTime_6 ⟨rfl, rfl⟩

def f_Sv_lowerEnd (rt : Int32) (lo : Nat → Int64) (ti : Nat → Int64) (i : Nat) (nw : Int64) (dr : Int32) : Int64 := ((lo i) - rt.toInt64) - (f_M_growth (nw - (ti i)) dr)
set_option maxHeartbeats 4000000 in
set_option maxRecDepth 100000 in
theorem c_Sv_lowerEnd (l : Launch) (D : va_G) (z : Nat → ClassId) (a : Nat) (b1 : Nat) (b2 : Nat) (b3 : Nat) (sec : Int64) (pen : Bool) (pst : Int64) (psi : Int64) (acc : Int64) (str : Int32) (ref : Int32) (rt : Int32) (sm : Nat) (lo : Nat → Int64) (hi : Nat → Int64) (ti : Nat → Int64) (i : Nat) (nw : Int64) (dr : Int32) (hi9 : i < 8) : Ctr l D z y_Sv_lowerEnd b_Sv_lowerEnd 5 (some .long) { frames := 2, cells := 0, slots := 0, locals := 47 } [.ref a, .int (nI i), .long nw, .int dr] [(a, .inr (3, [.long sec, .int (bI pen), .long pst, .long psi, .long acc, .int str, .int ref, .int rt, .int (nI sm), .ref b1, .ref b2, .ref b3])), (b1, .inl (z 1, 8, .inr (.inl lo))), (b2, .inl (z 1, 8, .inr (.inl hi))), (b3, .inl (z 1, 8, .inr (.inl ti)))] (fun v w => v = some (.long (f_Sv_lowerEnd rt lo ti i nw dr)) ∧ w = [(a, .inr (3, [.long sec, .int (bI pen), .long pst, .long psi, .long acc, .int str, .int ref, .int rt, .int (nI sm), .ref b1, .ref b2, .ref b3])), (b1, .inl (z 1, 8, .inr (.inl lo))), (b2, .inl (z 1, 8, .inr (.inl hi))), (b3, .inl (z 1, 8, .inr (.inl ti)))]) 0 0 := by
  refine met_V (own := R_Sv) (nm := "lowerEnd") (by decide +kernel) rfl rfl (Nat.le_of_ble_eq_true rfl) ?_
  intro κ hl hD hz X Y
  subst hl
  subst hD
  subst hz
  show V κ 5 0 0 0 [(0, .ref a), (1, .int (nI i)), (2, .long nw), (4, .int dr)] [] [(a, .inr (3, [.long sec, .int (bI pen), .long pst, .long psi, .long acc, .int str, .int ref, .int rt, .int (nI sm), .ref b1, .ref b2, .ref b3])), (b1, .inl (κ.z 1, 8, .inr (.inl lo))), (b2, .inl (κ.z 1, 8, .inr (.inl hi))), (b3, .inl (κ.z 1, 8, .inr (.inl ti)))]
  refine v_aload_n X 0 d_Sv_lowerEnd_0 rfl ?_
  refine v_get X 0 9 rfl rfl li_Sv (by decide) m70 rfl d_Sv_lowerEnd_1 ?_
  refine v_iload_n X 1 d_Sv_lowerEnd_4 rfl ?_
  refine v_laldN X 1 1 (j := i) rfl rfl (by omega) (by omega) d_Sv_lowerEnd_5 ?_
  refine v_aload_n X 0 d_Sv_lowerEnd_6 rfl ?_
  refine v_get X 0 7 rfl rfl li_Sv (by decide) m67 rfl d_Sv_lowerEnd_7 ?_
  refine v_i2l X d_Sv_lowerEnd_10 ?_
  refine v_lsub X d_Sv_lowerEnd_11 ?_
  refine v_lload_n X 2 d_Sv_lowerEnd_12 rfl ?_
  refine v_aload_n X 0 d_Sv_lowerEnd_13 rfl ?_
  refine v_get X 0 11 rfl rfl li_Sv (by decide) m72 rfl d_Sv_lowerEnd_14 ?_
  refine v_iload_n X 1 d_Sv_lowerEnd_17 rfl ?_
  refine v_laldN X 3 1 (j := i) rfl rfl (by omega) (by omega) d_Sv_lowerEnd_18 ?_
  refine v_lsub X d_Sv_lowerEnd_19 ?_
  show V κ 5 0 0 20 [(0, .ref a), (1, .int (nI i)), (2, .long nw), (4, .int dr)] [.long (nw - (ti i)), .long ((lo i) - rt.toInt64)] [(a, .inr (3, [.long sec, .int (bI pen), .long pst, .long psi, .long acc, .int str, .int ref, .int rt, .int (nI sm), .ref b1, .ref b2, .ref b3])), (b1, .inl (κ.z 1, 8, .inr (.inl lo))), (b2, .inl (κ.z 1, 8, .inr (.inl hi))), (b3, .inl (κ.z 1, 8, .inr (.inl ti)))]
  refine v_iload X 3 d_Sv_lowerEnd_20 rfl ?_
  refine v_callSN X (host := R_M) (n9 := 2) (As := [.long (nw - (ti i)), .int dr]) (rest := [.long ((lo i) - rt.toInt64)]) (wc := []) (wr := [(a, .inr (3, [.long sec, .int (bI pen), .long pst, .long psi, .long acc, .int str, .int ref, .int rt, .int (nI sm), .ref b1, .ref b2, .ref b3])), (b1, .inl (κ.z 1, 8, .inr (.inl lo))), (b2, .inl (κ.z 1, 8, .inr (.inl hi))), (b3, .inl (κ.z 1, 8, .inr (.inl ti)))]) (c_M_growth κ.l κ.D κ.z (nw - (ti i)) dr ) (List.mem_of_getElem? (i := 4) rfl) m248 m30 (by decide +kernel) rfl (Nat.le_of_ble_eq_true rfl) ⟨by decide, by decide⟩ ⟨by decide, by decide⟩ rfl rfl m249 d_Sv_lowerEnd_22 (fun v w1 hg => ?_)
  obtain ⟨rfl, rfl⟩ := hg
  show V κ 5 0 0 25 [(0, .ref a), (1, .int (nI i)), (2, .long nw), (4, .int dr)] [.long (f_M_growth (nw - (ti i)) dr), .long ((lo i) - rt.toInt64)] [(a, .inr (3, [.long sec, .int (bI pen), .long pst, .long psi, .long acc, .int str, .int ref, .int rt, .int (nI sm), .ref b1, .ref b2, .ref b3])), (b1, .inl (κ.z 1, 8, .inr (.inl lo))), (b2, .inl (κ.z 1, 8, .inr (.inl hi))), (b3, .inl (κ.z 1, 8, .inr (.inl ti)))]
  refine v_lsub X d_Sv_lowerEnd_25 ?_
  exact v_lret X Y (by decide) (by decide) d_Sv_lowerEnd_26 ⟨rfl, rfl⟩

def f_Sv_upperEnd (rt : Int32) (hi : Nat → Int64) (ti : Nat → Int64) (i : Nat) (nw : Int64) (dr : Int32) : Int64 := ((hi i) + rt.toInt64) + (f_M_growth (nw - (ti i)) dr)
set_option maxHeartbeats 4000000 in
set_option maxRecDepth 100000 in
theorem c_Sv_upperEnd (l : Launch) (D : va_G) (z : Nat → ClassId) (a : Nat) (b1 : Nat) (b2 : Nat) (b3 : Nat) (sec : Int64) (pen : Bool) (pst : Int64) (psi : Int64) (acc : Int64) (str : Int32) (ref : Int32) (rt : Int32) (sm : Nat) (lo : Nat → Int64) (hi : Nat → Int64) (ti : Nat → Int64) (i : Nat) (nw : Int64) (dr : Int32) (hi9 : i < 8) : Ctr l D z y_Sv_upperEnd b_Sv_upperEnd 5 (some .long) { frames := 2, cells := 0, slots := 0, locals := 47 } [.ref a, .int (nI i), .long nw, .int dr] [(a, .inr (3, [.long sec, .int (bI pen), .long pst, .long psi, .long acc, .int str, .int ref, .int rt, .int (nI sm), .ref b1, .ref b2, .ref b3])), (b1, .inl (z 1, 8, .inr (.inl lo))), (b2, .inl (z 1, 8, .inr (.inl hi))), (b3, .inl (z 1, 8, .inr (.inl ti)))] (fun v w => v = some (.long (f_Sv_upperEnd rt hi ti i nw dr)) ∧ w = [(a, .inr (3, [.long sec, .int (bI pen), .long pst, .long psi, .long acc, .int str, .int ref, .int rt, .int (nI sm), .ref b1, .ref b2, .ref b3])), (b1, .inl (z 1, 8, .inr (.inl lo))), (b2, .inl (z 1, 8, .inr (.inl hi))), (b3, .inl (z 1, 8, .inr (.inl ti)))]) 0 0 := by
  refine met_V (own := R_Sv) (nm := "upperEnd") (by decide +kernel) rfl rfl (Nat.le_of_ble_eq_true rfl) ?_
  intro κ hl hD hz X Y
  subst hl
  subst hD
  subst hz
  show V κ 5 0 0 0 [(0, .ref a), (1, .int (nI i)), (2, .long nw), (4, .int dr)] [] [(a, .inr (3, [.long sec, .int (bI pen), .long pst, .long psi, .long acc, .int str, .int ref, .int rt, .int (nI sm), .ref b1, .ref b2, .ref b3])), (b1, .inl (κ.z 1, 8, .inr (.inl lo))), (b2, .inl (κ.z 1, 8, .inr (.inl hi))), (b3, .inl (κ.z 1, 8, .inr (.inl ti)))]
  refine v_aload_n X 0 d_Sv_upperEnd_0 rfl ?_
  refine v_get X 0 10 rfl rfl li_Sv (by decide) m71 rfl d_Sv_upperEnd_1 ?_
  refine v_iload_n X 1 d_Sv_upperEnd_4 rfl ?_
  refine v_laldN X 2 1 (j := i) rfl rfl (by omega) (by omega) d_Sv_upperEnd_5 ?_
  refine v_aload_n X 0 d_Sv_upperEnd_6 rfl ?_
  refine v_get X 0 7 rfl rfl li_Sv (by decide) m67 rfl d_Sv_upperEnd_7 ?_
  refine v_i2l X d_Sv_upperEnd_10 ?_
  refine v_ladd X d_Sv_upperEnd_11 ?_
  refine v_lload_n X 2 d_Sv_upperEnd_12 rfl ?_
  refine v_aload_n X 0 d_Sv_upperEnd_13 rfl ?_
  refine v_get X 0 11 rfl rfl li_Sv (by decide) m72 rfl d_Sv_upperEnd_14 ?_
  refine v_iload_n X 1 d_Sv_upperEnd_17 rfl ?_
  refine v_laldN X 3 1 (j := i) rfl rfl (by omega) (by omega) d_Sv_upperEnd_18 ?_
  refine v_lsub X d_Sv_upperEnd_19 ?_
  show V κ 5 0 0 20 [(0, .ref a), (1, .int (nI i)), (2, .long nw), (4, .int dr)] [.long (nw - (ti i)), .long ((hi i) + rt.toInt64)] [(a, .inr (3, [.long sec, .int (bI pen), .long pst, .long psi, .long acc, .int str, .int ref, .int rt, .int (nI sm), .ref b1, .ref b2, .ref b3])), (b1, .inl (κ.z 1, 8, .inr (.inl lo))), (b2, .inl (κ.z 1, 8, .inr (.inl hi))), (b3, .inl (κ.z 1, 8, .inr (.inl ti)))]
  refine v_iload X 3 d_Sv_upperEnd_20 rfl ?_
  refine v_callSN X (host := R_M) (n9 := 2) (As := [.long (nw - (ti i)), .int dr]) (rest := [.long ((hi i) + rt.toInt64)]) (wc := []) (wr := [(a, .inr (3, [.long sec, .int (bI pen), .long pst, .long psi, .long acc, .int str, .int ref, .int rt, .int (nI sm), .ref b1, .ref b2, .ref b3])), (b1, .inl (κ.z 1, 8, .inr (.inl lo))), (b2, .inl (κ.z 1, 8, .inr (.inl hi))), (b3, .inl (κ.z 1, 8, .inr (.inl ti)))]) (c_M_growth κ.l κ.D κ.z (nw - (ti i)) dr ) (List.mem_of_getElem? (i := 4) rfl) m248 m30 (by decide +kernel) rfl (Nat.le_of_ble_eq_true rfl) ⟨by decide, by decide⟩ ⟨by decide, by decide⟩ rfl rfl m249 d_Sv_upperEnd_22 (fun v w1 hg => ?_)
  obtain ⟨rfl, rfl⟩ := hg
  show V κ 5 0 0 25 [(0, .ref a), (1, .int (nI i)), (2, .long nw), (4, .int dr)] [.long (f_M_growth (nw - (ti i)) dr), .long ((hi i) + rt.toInt64)] [(a, .inr (3, [.long sec, .int (bI pen), .long pst, .long psi, .long acc, .int str, .int ref, .int rt, .int (nI sm), .ref b1, .ref b2, .ref b3])), (b1, .inl (κ.z 1, 8, .inr (.inl lo))), (b2, .inl (κ.z 1, 8, .inr (.inl hi))), (b3, .inl (κ.z 1, 8, .inr (.inl ti)))]
  refine v_ladd X d_Sv_upperEnd_25 ?_
  exact v_lret X Y (by decide) (by decide) d_Sv_upperEnd_26 ⟨rfl, rfl⟩

def f_Sv_lengthOf (rt : Int32) (lo : Nat → Int64) (hi : Nat → Int64) (ti : Nat → Int64) (i : Nat) (nw : Int64) (dr : Int32) : Int64 := (f_Sv_upperEnd rt hi ti i nw dr) - (f_Sv_lowerEnd rt lo ti i nw dr)
set_option maxHeartbeats 4000000 in
set_option maxRecDepth 100000 in
theorem c_Sv_lengthOf (l : Launch) (D : va_G) (z : Nat → ClassId) (a : Nat) (b1 : Nat) (b2 : Nat) (b3 : Nat) (sec : Int64) (pen : Bool) (pst : Int64) (psi : Int64) (acc : Int64) (str : Int32) (ref : Int32) (rt : Int32) (sm : Nat) (lo : Nat → Int64) (hi : Nat → Int64) (ti : Nat → Int64) (i : Nat) (nw : Int64) (dr : Int32) (hi9 : i < 8) : Ctr l D z y_Sv_lengthOf b_Sv_lengthOf 5 (some .long) { frames := 3, cells := 0, slots := 0, locals := 71 } [.ref a, .int (nI i), .long nw, .int dr] [(a, .inr (3, [.long sec, .int (bI pen), .long pst, .long psi, .long acc, .int str, .int ref, .int rt, .int (nI sm), .ref b1, .ref b2, .ref b3])), (b1, .inl (z 1, 8, .inr (.inl lo))), (b2, .inl (z 1, 8, .inr (.inl hi))), (b3, .inl (z 1, 8, .inr (.inl ti)))] (fun v w => v = some (.long (f_Sv_lengthOf rt lo hi ti i nw dr)) ∧ w = [(a, .inr (3, [.long sec, .int (bI pen), .long pst, .long psi, .long acc, .int str, .int ref, .int rt, .int (nI sm), .ref b1, .ref b2, .ref b3])), (b1, .inl (z 1, 8, .inr (.inl lo))), (b2, .inl (z 1, 8, .inr (.inl hi))), (b3, .inl (z 1, 8, .inr (.inl ti)))]) 0 0 := by
  refine met_V (own := R_Sv) (nm := "lengthOf") (by decide +kernel) rfl rfl (Nat.le_of_ble_eq_true rfl) ?_
  intro κ hl hD hz X Y
  subst hl
  subst hD
  subst hz
  show V κ 5 0 0 0 [(0, .ref a), (1, .int (nI i)), (2, .long nw), (4, .int dr)] [] [(a, .inr (3, [.long sec, .int (bI pen), .long pst, .long psi, .long acc, .int str, .int ref, .int rt, .int (nI sm), .ref b1, .ref b2, .ref b3])), (b1, .inl (κ.z 1, 8, .inr (.inl lo))), (b2, .inl (κ.z 1, 8, .inr (.inl hi))), (b3, .inl (κ.z 1, 8, .inr (.inl ti)))]
  refine v_aload_n X 0 d_Sv_lengthOf_0 rfl ?_
  refine v_iload_n X 1 d_Sv_lengthOf_1 rfl ?_
  refine v_lload_n X 2 d_Sv_lengthOf_2 rfl ?_
  refine v_iload X 3 d_Sv_lengthOf_3 rfl ?_
  refine v_callV X (b := a) (n9 := 3) (As := [.int (nI i), .long nw, .int dr]) (rest := []) (wc := [(a, .inr (3, [.long sec, .int (bI pen), .long pst, .long psi, .long acc, .int str, .int ref, .int rt, .int (nI sm), .ref b1, .ref b2, .ref b3])), (b1, .inl (κ.z 1, 8, .inr (.inl lo))), (b2, .inl (κ.z 1, 8, .inr (.inl hi))), (b3, .inl (κ.z 1, 8, .inr (.inl ti)))]) (wr := []) (c_Sv_upperEnd κ.l κ.D κ.z a b1 b2 b3 sec pen pst psi acc str ref rt sm lo hi ti i nw dr (by omega)) 0 rfl rfl m244 m245 m246 m32 (by decide +kernel) rfl (Nat.le_of_ble_eq_true rfl) ⟨by decide, by decide⟩ ⟨by decide, by decide⟩ rfl rfl m247 d_Sv_lengthOf_5 (fun v w1 hg => ?_)
  obtain ⟨rfl, rfl⟩ := hg
  show V κ 5 0 0 8 [(0, .ref a), (1, .int (nI i)), (2, .long nw), (4, .int dr)] [.long (f_Sv_upperEnd rt hi ti i nw dr)] [(a, .inr (3, [.long sec, .int (bI pen), .long pst, .long psi, .long acc, .int str, .int ref, .int rt, .int (nI sm), .ref b1, .ref b2, .ref b3])), (b1, .inl (κ.z 1, 8, .inr (.inl lo))), (b2, .inl (κ.z 1, 8, .inr (.inl hi))), (b3, .inl (κ.z 1, 8, .inr (.inl ti)))]
  refine v_aload_n X 0 d_Sv_lengthOf_8 rfl ?_
  refine v_iload_n X 1 d_Sv_lengthOf_9 rfl ?_
  refine v_lload_n X 2 d_Sv_lengthOf_10 rfl ?_
  refine v_iload X 3 d_Sv_lengthOf_11 rfl ?_
  refine v_callV X (b := a) (n9 := 3) (As := [.int (nI i), .long nw, .int dr]) (rest := [.long (f_Sv_upperEnd rt hi ti i nw dr)]) (wc := [(a, .inr (3, [.long sec, .int (bI pen), .long pst, .long psi, .long acc, .int str, .int ref, .int rt, .int (nI sm), .ref b1, .ref b2, .ref b3])), (b1, .inl (κ.z 1, 8, .inr (.inl lo))), (b2, .inl (κ.z 1, 8, .inr (.inl hi))), (b3, .inl (κ.z 1, 8, .inr (.inl ti)))]) (wr := []) (c_Sv_lowerEnd κ.l κ.D κ.z a b1 b2 b3 sec pen pst psi acc str ref rt sm lo hi ti i nw dr (by omega)) 0 rfl rfl m254 m255 m256 m32 (by decide +kernel) rfl (Nat.le_of_ble_eq_true rfl) ⟨by decide, by decide⟩ ⟨by decide, by decide⟩ rfl rfl m257 d_Sv_lengthOf_13 (fun v w1 hg => ?_)
  obtain ⟨rfl, rfl⟩ := hg
  show V κ 5 0 0 16 [(0, .ref a), (1, .int (nI i)), (2, .long nw), (4, .int dr)] [.long (f_Sv_lowerEnd rt lo ti i nw dr), .long (f_Sv_upperEnd rt hi ti i nw dr)] [(a, .inr (3, [.long sec, .int (bI pen), .long pst, .long psi, .long acc, .int str, .int ref, .int rt, .int (nI sm), .ref b1, .ref b2, .ref b3])), (b1, .inl (κ.z 1, 8, .inr (.inl lo))), (b2, .inl (κ.z 1, 8, .inr (.inl hi))), (b3, .inl (κ.z 1, 8, .inr (.inl ti)))]
  refine v_lsub X d_Sv_lengthOf_16 ?_
  exact v_lret X Y (by decide) (by decide) d_Sv_lengthOf_17 ⟨rfl, rfl⟩
end
section
set_option maxHeartbeats 4000000 in
set_option maxRecDepth 100000 in
theorem c_Sv_init (l : Launch) (D : va_G) (z : Nat → ClassId) (a : Nat)  : Ctr l D z y_Sv_init b_Sv_init 1 none { frames := 1, cells := 3, slots := 24, locals := 20 } [.ref a] [(a, .inr (3, [.long 0, .int (bI false), .long 0, .long 0, .long 0, .int 0, .int 0, .int 0, .int (nI 0), .null, .null, .null]))] (fun v w => v = none ∧ ∃ b1 b2 b3 : Nat, w = [(a, .inr (3, [.long 0, .int (bI false), .long 0, .long 0, .long 0, .int 16, .int 0, .int 0, .int (nI 0), .ref b1, .ref b2, .ref b3])), (b1, .inl (z 1, 8, .inr (.inl (fun _ => 0)))), (b2, .inl (z 1, 8, .inr (.inl (fun _ => 0)))), (b3, .inl (z 1, 8, .inr (.inl (fun _ => 0))))]) 3 24 := by
  refine met_V (own := R_Sv) (nm := "<init>") (by decide +kernel) rfl rfl (Nat.le_of_ble_eq_true rfl) ?_
  intro κ hl hD hz X Y
  subst hl
  subst hD
  subst hz
  show V κ 1 0 0 0 [(0, .ref a)] [] [(a, .inr (3, [.long 0, .int (bI false), .long 0, .long 0, .long 0, .int 0, .int 0, .int 0, .int (nI 0), .null, .null, .null]))]
  refine v_aload_n X 0 d_Sv_init_0 rfl ?_
  refine v_objInit X m56 m43 m44 d_Sv_init_1 (by decide) (Nat.le_of_ble_eq_true rfl) ?_
  show V κ 1 0 0 4 [(0, .ref a)] [] [(a, .inr (3, [.long 0, .int (bI false), .long 0, .long 0, .long 0, .int 0, .int 0, .int 0, .int (nI 0), .null, .null, .null]))]
  refine v_aload_n X 0 d_Sv_init_4 rfl ?_
  refine v_bipush X 16 d_Sv_init_5 (by decide) ?_
  refine v_put X 0 5 (v := .int (16 : Int32)) (ty := .int) ty_Sv tk_Sv n_Sv rfl rfl li_Sv (by decide) m63 rfl (by decide +kernel) rfl rfl (Nat.le_of_ble_eq_true rfl) d_Sv_init_7 (ws' := [(a, .inr (3, [.long 0, .int (bI false), .long 0, .long 0, .long 0, .int (16 : Int32), .int 0, .int 0, .int (nI 0), .null, .null, .null]))]) rfl ?_
  refine v_aload_n X 0 d_Sv_init_10 rfl ?_
  refine v_bipush X 8 d_Sv_init_11 (by decide) ?_
  refine v_newJ X 1 8 rfl rfl m85 (by decide) rfl (by decide) (by decide) (by decide) d_Sv_init_13 (fun q13 => ?_)
  show V κ 1 1 8 15 [(0, .ref a)] [.ref q13, .ref a] [(a, .inr (3, [.long 0, .int (bI false), .long 0, .long 0, .long 0, .int (16 : Int32), .int 0, .int 0, .int (nI 0), .null, .null, .null])), (q13, .inl (κ.z 1, 8, .inr (.inl (fun _ => 0))))]
  refine v_putF X Y 0 9 (v := .ref q13) (ty := (.array .long)) ty_Sv tk_Sv n_Sv rfl rfl li_Sv (by decide) m70 rfl rfl (by decide +kernel) rfl rfl (Nat.le_of_ble_eq_true rfl) d_Sv_init_15 (ws' := [(a, .inr (3, [.long 0, .int (bI false), .long 0, .long 0, .long 0, .int (16 : Int32), .int 0, .int 0, .int (nI 0), .ref q13, .null, .null])), (q13, .inl (κ.z 1, 8, .inr (.inl (fun _ => 0))))]) rfl ?_
  refine v_aload_n X 0 d_Sv_init_18 rfl ?_
  refine v_bipush X 8 d_Sv_init_19 (by decide) ?_
  refine v_newJ X 1 8 rfl rfl m85 (by decide) rfl (by decide) (by decide) (by decide) d_Sv_init_21 (fun q21 => ?_)
  show V κ 1 2 16 23 [(0, .ref a)] [.ref q21, .ref a] [(a, .inr (3, [.long 0, .int (bI false), .long 0, .long 0, .long 0, .int (16 : Int32), .int 0, .int 0, .int (nI 0), .ref q13, .null, .null])), (q13, .inl (κ.z 1, 8, .inr (.inl (fun _ => 0)))), (q21, .inl (κ.z 1, 8, .inr (.inl (fun _ => 0))))]
  refine v_putF X Y 0 10 (v := .ref q21) (ty := (.array .long)) ty_Sv tk_Sv n_Sv rfl rfl li_Sv (by decide) m71 rfl rfl (by decide +kernel) rfl rfl (Nat.le_of_ble_eq_true rfl) d_Sv_init_23 (ws' := [(a, .inr (3, [.long 0, .int (bI false), .long 0, .long 0, .long 0, .int (16 : Int32), .int 0, .int 0, .int (nI 0), .ref q13, .ref q21, .null])), (q13, .inl (κ.z 1, 8, .inr (.inl (fun _ => 0)))), (q21, .inl (κ.z 1, 8, .inr (.inl (fun _ => 0))))]) rfl ?_
  refine v_aload_n X 0 d_Sv_init_26 rfl ?_
  show V κ 1 2 16 27 [(0, .ref a)] [.ref a] [(a, .inr (3, [.long 0, .int (bI false), .long 0, .long 0, .long 0, .int (16 : Int32), .int 0, .int 0, .int (nI 0), .ref q13, .ref q21, .null])), (q13, .inl (κ.z 1, 8, .inr (.inl (fun _ => 0)))), (q21, .inl (κ.z 1, 8, .inr (.inl (fun _ => 0))))]
  refine v_bipush X 8 d_Sv_init_27 (by decide) ?_
  refine v_newJ X 1 8 rfl rfl m85 (by decide) rfl (by decide) (by decide) (by decide) d_Sv_init_29 (fun q29 => ?_)
  show V κ 1 3 24 31 [(0, .ref a)] [.ref q29, .ref a] [(a, .inr (3, [.long 0, .int (bI false), .long 0, .long 0, .long 0, .int (16 : Int32), .int 0, .int 0, .int (nI 0), .ref q13, .ref q21, .null])), (q13, .inl (κ.z 1, 8, .inr (.inl (fun _ => 0)))), (q21, .inl (κ.z 1, 8, .inr (.inl (fun _ => 0)))), (q29, .inl (κ.z 1, 8, .inr (.inl (fun _ => 0))))]
  refine v_putF X Y 0 11 (v := .ref q29) (ty := (.array .long)) ty_Sv tk_Sv n_Sv rfl rfl li_Sv (by decide) m72 rfl rfl (by decide +kernel) rfl rfl (Nat.le_of_ble_eq_true rfl) d_Sv_init_31 (ws' := [(a, .inr (3, [.long 0, .int (bI false), .long 0, .long 0, .long 0, .int (16 : Int32), .int 0, .int 0, .int (nI 0), .ref q13, .ref q21, .ref q29])), (q13, .inl (κ.z 1, 8, .inr (.inl (fun _ => 0)))), (q21, .inl (κ.z 1, 8, .inr (.inl (fun _ => 0)))), (q29, .inl (κ.z 1, 8, .inr (.inl (fun _ => 0))))]) rfl ?_
  exact v_vret X Y (by decide) (by decide) d_Sv_init_34 ⟨rfl, _, _, _, rfl⟩

def shf (lo : Nat → Int64) (hi : Nat → Int64) (ti : Nat → Int64) (s : Nat) : Nat → (Nat → Int64) × (Nat → Int64) × (Nat → Int64)
  | 0 => (lo, hi, ti)
  | j + 1 => (vp_updL ((shf lo hi ti s j).1) (s - 1 - j) (((shf lo hi ti s j).1) ((s - 1 - j) - 1)), vp_updL ((shf lo hi ti s j).2.1) (s - 1 - j) (((shf lo hi ti s j).2.1) ((s - 1 - j) - 1)), vp_updL ((shf lo hi ti s j).2.2) (s - 1 - j) (((shf lo hi ti s j).2.2) ((s - 1 - j) - 1)))
set_option maxHeartbeats 4000000 in
set_option maxRecDepth 100000 in
theorem lp_makeRoom {κ : VC} (X : Cx κ b_Sv_makeRoomForSample R_Sv { frames := 1, cells := 0, slots := 0, locals := 21 } 2) (a : Nat) (b1 : Nat) (b2 : Nat) (b3 : Nat) (sec : Int64) (pen : Bool) (pst : Int64) (psi : Int64) (acc : Int64) (str : Int32) (ref : Int32) (rt : Int32) (lo : Nat → Int64) (hi : Nat → Int64) (ti : Nat → Int64) (s : Nat) (hs1 : 1 ≤ s) (hs8 : s ≤ 8)  (kk : V κ 2 0 0 74 [(1, .int (nI (s - 1 - (s - 1)))), (0, .ref a)] [] [(a, .inr (3, [.long sec, .int (bI pen), .long pst, .long psi, .long acc, .int str, .int ref, .int rt, .int (nI s), .ref b1, .ref b2, .ref b3])), (b1, .inl (κ.z 1, 8, .inr (.inl ((shf lo hi ti s (s - 1)).1)))), (b2, .inl (κ.z 1, 8, .inr (.inl ((shf lo hi ti s (s - 1)).2.1)))), (b3, .inl (κ.z 1, 8, .inr (.inl ((shf lo hi ti s (s - 1)).2.2))))]) : ∀ (d9 j : Nat), j + d9 = s - 1 → V κ 2 0 0 22 [(1, .int (nI (s - 1 - j))), (0, .ref a)] [] [(a, .inr (3, [.long sec, .int (bI pen), .long pst, .long psi, .long acc, .int str, .int ref, .int rt, .int (nI s), .ref b1, .ref b2, .ref b3])), (b1, .inl (κ.z 1, 8, .inr (.inl ((shf lo hi ti s j).1)))), (b2, .inl (κ.z 1, 8, .inr (.inl ((shf lo hi ti s j).2.1)))), (b3, .inl (κ.z 1, 8, .inr (.inl ((shf lo hi ti s j).2.2))))] := by
  intro d9
  induction d9 with
  | zero =>
    intro j hj 
    have e9 : j = s - 1 := by omega
    rw [e9]
    show V κ 2 0 0 22 [(1, .int (nI (s - 1 - (s - 1)))), (0, .ref a)] [] [(a, .inr (3, [.long sec, .int (bI pen), .long pst, .long psi, .long acc, .int str, .int ref, .int rt, .int (nI s), .ref b1, .ref b2, .ref b3])), (b1, .inl (κ.z 1, 8, .inr (.inl ((shf lo hi ti s (s - 1)).1)))), (b2, .inl (κ.z 1, 8, .inr (.inl ((shf lo hi ti s (s - 1)).2.1)))), (b3, .inl (κ.z 1, 8, .inr (.inl ((shf lo hi ti s (s - 1)).2.2))))]
    refine v_iload_n X 0 d_Sv_makeRoomForSample_22 rfl ?_
    refine v_ifN_le X 74 (a := (s - 1 - (s - 1))) d_Sv_makeRoomForSample_23 (by decide) (by omega) (fun c23 => ?_) (fun c23 => by omega)
    exact kk
  | succ d9 ih =>
    intro j hj 
    show V κ 2 0 0 22 [(1, .int (nI (s - 1 - j))), (0, .ref a)] [] [(a, .inr (3, [.long sec, .int (bI pen), .long pst, .long psi, .long acc, .int str, .int ref, .int rt, .int (nI s), .ref b1, .ref b2, .ref b3])), (b1, .inl (κ.z 1, 8, .inr (.inl ((shf lo hi ti s j).1)))), (b2, .inl (κ.z 1, 8, .inr (.inl ((shf lo hi ti s j).2.1)))), (b3, .inl (κ.z 1, 8, .inr (.inl ((shf lo hi ti s j).2.2))))]
    refine v_iload_n X 0 d_Sv_makeRoomForSample_22 rfl ?_
    refine v_ifN_le X 74 (a := (s - 1 - j)) d_Sv_makeRoomForSample_23 (by decide) (by omega) (fun c23 => by omega) (fun c23 => ?_)
    refine v_aload_n X 1 d_Sv_makeRoomForSample_26 rfl ?_
    refine v_get X 0 9 rfl rfl li_Sv (by decide) m70 rfl d_Sv_makeRoomForSample_27 ?_
    refine v_iload_n X 0 d_Sv_makeRoomForSample_30 rfl ?_
    refine v_aload_n X 1 d_Sv_makeRoomForSample_31 rfl ?_
    refine v_get X 0 9 rfl rfl li_Sv (by decide) m70 rfl d_Sv_makeRoomForSample_32 ?_
    refine v_iload_n X 0 d_Sv_makeRoomForSample_35 rfl ?_
    refine v_iconst X 1 d_Sv_makeRoomForSample_36 (by decide) ?_
    refine v_isubN X (a := (s - 1 - j)) (b := 1) d_Sv_makeRoomForSample_37 (by omega) ?_
    refine v_laldN X 1 1 (j := ((s - 1 - j) - 1)) rfl rfl (by omega) (by omega) d_Sv_makeRoomForSample_38 ?_
    refine v_lastN X 1 1 (j := (s - 1 - j)) (x := (((shf lo hi ti s j).1) ((s - 1 - j) - 1))) rfl rfl (by omega) (by omega) d_Sv_makeRoomForSample_39 (ws' := [(a, .inr (3, [.long sec, .int (bI pen), .long pst, .long psi, .long acc, .int str, .int ref, .int rt, .int (nI s), .ref b1, .ref b2, .ref b3])), (b1, .inl (κ.z 1, 8, .inr (.inl (vp_updL ((shf lo hi ti s j).1) (s - 1 - j) (((shf lo hi ti s j).1) ((s - 1 - j) - 1)))))), (b2, .inl (κ.z 1, 8, .inr (.inl ((shf lo hi ti s j).2.1)))), (b3, .inl (κ.z 1, 8, .inr (.inl ((shf lo hi ti s j).2.2))))]) rfl ?_
    refine v_aload_n X 1 d_Sv_makeRoomForSample_40 rfl ?_
    refine v_get X 0 10 rfl rfl li_Sv (by decide) m71 rfl d_Sv_makeRoomForSample_41 ?_
    show V κ 2 0 0 44 [(1, .int (nI (s - 1 - j))), (0, .ref a)] [.ref b2] [(a, .inr (3, [.long sec, .int (bI pen), .long pst, .long psi, .long acc, .int str, .int ref, .int rt, .int (nI s), .ref b1, .ref b2, .ref b3])), (b1, .inl (κ.z 1, 8, .inr (.inl (vp_updL ((shf lo hi ti s j).1) (s - 1 - j) (((shf lo hi ti s j).1) ((s - 1 - j) - 1)))))), (b2, .inl (κ.z 1, 8, .inr (.inl ((shf lo hi ti s j).2.1)))), (b3, .inl (κ.z 1, 8, .inr (.inl ((shf lo hi ti s j).2.2))))]
    refine v_iload_n X 0 d_Sv_makeRoomForSample_44 rfl ?_
    refine v_aload_n X 1 d_Sv_makeRoomForSample_45 rfl ?_
    refine v_get X 0 10 rfl rfl li_Sv (by decide) m71 rfl d_Sv_makeRoomForSample_46 ?_
    refine v_iload_n X 0 d_Sv_makeRoomForSample_49 rfl ?_
    refine v_iconst X 1 d_Sv_makeRoomForSample_50 (by decide) ?_
    refine v_isubN X (a := (s - 1 - j)) (b := 1) d_Sv_makeRoomForSample_51 (by omega) ?_
    refine v_laldN X 2 1 (j := ((s - 1 - j) - 1)) rfl rfl (by omega) (by omega) d_Sv_makeRoomForSample_52 ?_
    refine v_lastN X 2 1 (j := (s - 1 - j)) (x := (((shf lo hi ti s j).2.1) ((s - 1 - j) - 1))) rfl rfl (by omega) (by omega) d_Sv_makeRoomForSample_53 (ws' := [(a, .inr (3, [.long sec, .int (bI pen), .long pst, .long psi, .long acc, .int str, .int ref, .int rt, .int (nI s), .ref b1, .ref b2, .ref b3])), (b1, .inl (κ.z 1, 8, .inr (.inl (vp_updL ((shf lo hi ti s j).1) (s - 1 - j) (((shf lo hi ti s j).1) ((s - 1 - j) - 1)))))), (b2, .inl (κ.z 1, 8, .inr (.inl (vp_updL ((shf lo hi ti s j).2.1) (s - 1 - j) (((shf lo hi ti s j).2.1) ((s - 1 - j) - 1)))))), (b3, .inl (κ.z 1, 8, .inr (.inl ((shf lo hi ti s j).2.2))))]) rfl ?_
    refine v_aload_n X 1 d_Sv_makeRoomForSample_54 rfl ?_
    refine v_get X 0 11 rfl rfl li_Sv (by decide) m72 rfl d_Sv_makeRoomForSample_55 ?_
    refine v_iload_n X 0 d_Sv_makeRoomForSample_58 rfl ?_
    refine v_aload_n X 1 d_Sv_makeRoomForSample_59 rfl ?_
    refine v_get X 0 11 rfl rfl li_Sv (by decide) m72 rfl d_Sv_makeRoomForSample_60 ?_
    refine v_iload_n X 0 d_Sv_makeRoomForSample_63 rfl ?_
    refine v_iconst X 1 d_Sv_makeRoomForSample_64 (by decide) ?_
    show V κ 2 0 0 65 [(1, .int (nI (s - 1 - j))), (0, .ref a)] [.int 1, .int (nI (s - 1 - j)), .ref b3, .int (nI (s - 1 - j)), .ref b3] [(a, .inr (3, [.long sec, .int (bI pen), .long pst, .long psi, .long acc, .int str, .int ref, .int rt, .int (nI s), .ref b1, .ref b2, .ref b3])), (b1, .inl (κ.z 1, 8, .inr (.inl (vp_updL ((shf lo hi ti s j).1) (s - 1 - j) (((shf lo hi ti s j).1) ((s - 1 - j) - 1)))))), (b2, .inl (κ.z 1, 8, .inr (.inl (vp_updL ((shf lo hi ti s j).2.1) (s - 1 - j) (((shf lo hi ti s j).2.1) ((s - 1 - j) - 1)))))), (b3, .inl (κ.z 1, 8, .inr (.inl ((shf lo hi ti s j).2.2))))]
    refine v_isubN X (a := (s - 1 - j)) (b := 1) d_Sv_makeRoomForSample_65 (by omega) ?_
    refine v_laldN X 3 1 (j := ((s - 1 - j) - 1)) rfl rfl (by omega) (by omega) d_Sv_makeRoomForSample_66 ?_
    refine v_lastN X 3 1 (j := (s - 1 - j)) (x := (((shf lo hi ti s j).2.2) ((s - 1 - j) - 1))) rfl rfl (by omega) (by omega) d_Sv_makeRoomForSample_67 (ws' := [(a, .inr (3, [.long sec, .int (bI pen), .long pst, .long psi, .long acc, .int str, .int ref, .int rt, .int (nI s), .ref b1, .ref b2, .ref b3])), (b1, .inl (κ.z 1, 8, .inr (.inl (vp_updL ((shf lo hi ti s j).1) (s - 1 - j) (((shf lo hi ti s j).1) ((s - 1 - j) - 1)))))), (b2, .inl (κ.z 1, 8, .inr (.inl (vp_updL ((shf lo hi ti s j).2.1) (s - 1 - j) (((shf lo hi ti s j).2.1) ((s - 1 - j) - 1)))))), (b3, .inl (κ.z 1, 8, .inr (.inl (vp_updL ((shf lo hi ti s j).2.2) (s - 1 - j) (((shf lo hi ti s j).2.2) ((s - 1 - j) - 1))))))]) rfl ?_
    refine v_iinc X 0 d_Sv_makeRoomForSample_68 (x := nI (s - 1 - j)) rfl (v := nI ((s - 1 - j) - 1)) (nI_m1 (by omega)) (by decide) (lv' := [(1, .int (nI ((s - 1 - j) - 1))), (0, .ref a)]) rfl ?_
    refine v_goto X 22 d_Sv_makeRoomForSample_71 (by decide) ?_
    exact v_eq rfl (by rw [show s - 1 - j - 1 = s - 1 - (j + 1) by omega]) rfl (by rfl) (ih (j + 1) (by omega))

def f_Sv_makeRoomForSample_r1 (sm : Nat) (lo : Nat → Int64) (hi : Nat → Int64) (ti : Nat → Int64) : Nat → Int64 := (shf lo hi ti (f_J_min_IIN (sm + 1) 8) ((f_J_min_IIN (sm + 1) 8) - 1)).1
def f_Sv_makeRoomForSample_r2 (sm : Nat) (lo : Nat → Int64) (hi : Nat → Int64) (ti : Nat → Int64) : Nat → Int64 := (shf lo hi ti (f_J_min_IIN (sm + 1) 8) ((f_J_min_IIN (sm + 1) 8) - 1)).2.1
def f_Sv_makeRoomForSample_r3 (sm : Nat) (lo : Nat → Int64) (hi : Nat → Int64) (ti : Nat → Int64) : Nat → Int64 := (shf lo hi ti (f_J_min_IIN (sm + 1) 8) ((f_J_min_IIN (sm + 1) 8) - 1)).2.2
set_option maxHeartbeats 4000000 in
set_option maxRecDepth 100000 in
theorem c_Sv_makeRoomForSample (l : Launch) (D : va_G) (z : Nat → ClassId) (a : Nat) (b1 : Nat) (b2 : Nat) (b3 : Nat) (sec : Int64) (pen : Bool) (pst : Int64) (psi : Int64) (acc : Int64) (str : Int32) (ref : Int32) (rt : Int32) (sm : Nat) (lo : Nat → Int64) (hi : Nat → Int64) (ti : Nat → Int64) (hs8 : sm ≤ 8) : Ctr l D z y_Sv_makeRoomForSample b_Sv_makeRoomForSample 2 none { frames := 1, cells := 0, slots := 0, locals := 21 } [.ref a] [(a, .inr (3, [.long sec, .int (bI pen), .long pst, .long psi, .long acc, .int str, .int ref, .int rt, .int (nI sm), .ref b1, .ref b2, .ref b3])), (b1, .inl (z 1, 8, .inr (.inl lo))), (b2, .inl (z 1, 8, .inr (.inl hi))), (b3, .inl (z 1, 8, .inr (.inl ti)))] (fun v w => v = none ∧ w = [(a, .inr (3, [.long sec, .int (bI pen), .long pst, .long psi, .long acc, .int str, .int ref, .int rt, .int (nI (f_J_min_IIN (sm + 1) 8)), .ref b1, .ref b2, .ref b3])), (b1, .inl (z 1, 8, .inr (.inl (f_Sv_makeRoomForSample_r1 sm lo hi ti)))), (b2, .inl (z 1, 8, .inr (.inl (f_Sv_makeRoomForSample_r2 sm lo hi ti)))), (b3, .inl (z 1, 8, .inr (.inl (f_Sv_makeRoomForSample_r3 sm lo hi ti))))]) 0 0 := by
  refine met_V (own := R_Sv) (nm := "makeRoomForSample") (by decide +kernel) rfl rfl (Nat.le_of_ble_eq_true rfl) ?_
  intro κ hl hD hz X Y
  subst hl
  subst hD
  subst hz
  have hmn : 1 ≤ f_J_min_IIN (sm + 1) 8 ∧ f_J_min_IIN (sm + 1) 8 ≤ 8 := by unfold f_J_min_IIN; split <;> omega
  show V κ 2 0 0 0 [(0, .ref a)] [] [(a, .inr (3, [.long sec, .int (bI pen), .long pst, .long psi, .long acc, .int str, .int ref, .int rt, .int (nI sm), .ref b1, .ref b2, .ref b3])), (b1, .inl (κ.z 1, 8, .inr (.inl lo))), (b2, .inl (κ.z 1, 8, .inr (.inl hi))), (b3, .inl (κ.z 1, 8, .inr (.inl ti)))]
  refine v_aload_n X 0 d_Sv_makeRoomForSample_0 rfl ?_
  refine v_aload_n X 0 d_Sv_makeRoomForSample_1 rfl ?_
  refine v_get X 0 8 rfl rfl li_Sv (by decide) m68 rfl d_Sv_makeRoomForSample_2 ?_
  refine v_iconst X 1 d_Sv_makeRoomForSample_5 (by decide) ?_
  refine v_iaddN X (a := sm) (b := 1) d_Sv_makeRoomForSample_6 ?_
  refine v_bipush X 8 d_Sv_makeRoomForSample_7 (by decide) ?_
  refine v_callS X (n9 := 2) (As := [.int (nI (sm + 1)), .int 8]) (rest := [.ref a]) (wc := []) (wr := [(a, .inr (3, [.long sec, .int (bI pen), .long pst, .long psi, .long acc, .int str, .int ref, .int rt, .int (nI sm), .ref b1, .ref b2, .ref b3])), (b1, .inl (κ.z 1, 8, .inr (.inl lo))), (b2, .inl (κ.z 1, 8, .inr (.inl hi))), (b3, .inl (κ.z 1, 8, .inr (.inl ti)))]) (c_J_min_IIN κ.l κ.D κ.z (sm + 1) 8 (by omega) (by omega)) m228 m50 m31 (by decide +kernel) rfl (Nat.le_of_ble_eq_true rfl) ⟨by decide, by decide⟩ ⟨by decide, by decide⟩ rfl rfl m51 d_Sv_makeRoomForSample_9 (fun v w1 hg => ?_)
  obtain ⟨rfl, rfl⟩ := hg
  show V κ 2 0 0 12 [(0, .ref a)] [.int (nI (f_J_min_IIN (sm + 1) 8)), .ref a] [(a, .inr (3, [.long sec, .int (bI pen), .long pst, .long psi, .long acc, .int str, .int ref, .int rt, .int (nI sm), .ref b1, .ref b2, .ref b3])), (b1, .inl (κ.z 1, 8, .inr (.inl lo))), (b2, .inl (κ.z 1, 8, .inr (.inl hi))), (b3, .inl (κ.z 1, 8, .inr (.inl ti)))]
  refine v_put X 0 8 (v := .int (nI (f_J_min_IIN (sm + 1) 8))) (ty := .int) ty_Sv tk_Sv n_Sv rfl rfl li_Sv (by decide) m68 rfl (by decide +kernel) rfl rfl (Nat.le_of_ble_eq_true rfl) d_Sv_makeRoomForSample_12 (ws' := [(a, .inr (3, [.long sec, .int (bI pen), .long pst, .long psi, .long acc, .int str, .int ref, .int rt, .int (nI (f_J_min_IIN (sm + 1) 8)), .ref b1, .ref b2, .ref b3])), (b1, .inl (κ.z 1, 8, .inr (.inl lo))), (b2, .inl (κ.z 1, 8, .inr (.inl hi))), (b3, .inl (κ.z 1, 8, .inr (.inl ti)))]) rfl ?_
  refine v_aload_n X 0 d_Sv_makeRoomForSample_15 rfl ?_
  refine v_get X 0 8 rfl rfl li_Sv (by decide) m68 rfl d_Sv_makeRoomForSample_16 ?_
  refine v_iconst X 1 d_Sv_makeRoomForSample_19 (by decide) ?_
  refine v_isubN X (a := (f_J_min_IIN (sm + 1) 8)) (b := 1) d_Sv_makeRoomForSample_20 (by omega) ?_
  refine v_istore_n X d_Sv_makeRoomForSample_21 rfl (by decide) (lv' := [(1, .int (nI ((f_J_min_IIN (sm + 1) 8) - 1))), (0, .ref a)]) rfl ?_
  show V κ 2 0 0 22 [(1, .int (nI ((f_J_min_IIN (sm + 1) 8) - 1 - 0))), (0, .ref a)] [] [(a, .inr (3, [.long sec, .int (bI pen), .long pst, .long psi, .long acc, .int str, .int ref, .int rt, .int (nI (f_J_min_IIN (sm + 1) 8)), .ref b1, .ref b2, .ref b3])), (b1, .inl (κ.z 1, 8, .inr (.inl ((shf lo hi ti (f_J_min_IIN (sm + 1) 8) 0).1)))), (b2, .inl (κ.z 1, 8, .inr (.inl ((shf lo hi ti (f_J_min_IIN (sm + 1) 8) 0).2.1)))), (b3, .inl (κ.z 1, 8, .inr (.inl ((shf lo hi ti (f_J_min_IIN (sm + 1) 8) 0).2.2))))]
  refine lp_makeRoom X a b1 b2 b3 sec pen pst psi acc str ref rt lo hi ti (f_J_min_IIN (sm + 1) 8) (by unfold f_J_min_IIN; split <;> omega) (by unfold f_J_min_IIN; split <;> omega)  ?_ (((f_J_min_IIN (sm + 1) 8) - 1) - 0) 0 (by omega)
  show V κ 2 0 0 74 [(1, .int (nI ((f_J_min_IIN (sm + 1) 8) - 1 - ((f_J_min_IIN (sm + 1) 8) - 1)))), (0, .ref a)] [] [(a, .inr (3, [.long sec, .int (bI pen), .long pst, .long psi, .long acc, .int str, .int ref, .int rt, .int (nI (f_J_min_IIN (sm + 1) 8)), .ref b1, .ref b2, .ref b3])), (b1, .inl (κ.z 1, 8, .inr (.inl ((shf lo hi ti (f_J_min_IIN (sm + 1) 8) ((f_J_min_IIN (sm + 1) 8) - 1)).1)))), (b2, .inl (κ.z 1, 8, .inr (.inl ((shf lo hi ti (f_J_min_IIN (sm + 1) 8) ((f_J_min_IIN (sm + 1) 8) - 1)).2.1)))), (b3, .inl (κ.z 1, 8, .inr (.inl ((shf lo hi ti (f_J_min_IIN (sm + 1) 8) ((f_J_min_IIN (sm + 1) 8) - 1)).2.2))))]
  exact v_vret X Y (by decide) (by decide) d_Sv_makeRoomForSample_74 ⟨rfl, rfl⟩

def f_Sv_accept_r1 (sm : Nat) (lo : Nat → Int64) (hi : Nat → Int64) (ti : Nat → Int64) (t : Int64) (nw : Int64) : Nat → Int64 := vp_updL (f_Sv_makeRoomForSample_r1 sm lo hi ti) 0 (t - nw)
def f_Sv_accept_r2 (psi : Int64) (sm : Nat) (lo : Nat → Int64) (hi : Nat → Int64) (ti : Nat → Int64) (y : Int64) : Nat → Int64 := vp_updL (f_Sv_makeRoomForSample_r2 sm lo hi ti) 0 (y - psi)
def f_Sv_accept_r3 (sm : Nat) (lo : Nat → Int64) (hi : Nat → Int64) (ti : Nat → Int64) (nw : Int64) : Nat → Int64 := vp_updL (f_Sv_makeRoomForSample_r3 sm lo hi ti) 0 nw
set_option maxHeartbeats 4000000 in
set_option maxRecDepth 100000 in
theorem c_Sv_accept (l : Launch) (D : va_G) (z : Nat → ClassId) (a : Nat) (b1 : Nat) (b2 : Nat) (b3 : Nat) (sec : Int64) (pen : Bool) (pst : Int64) (psi : Int64) (acc : Int64) (str : Int32) (ref : Int32) (rt : Int32) (sm : Nat) (lo : Nat → Int64) (hi : Nat → Int64) (ti : Nat → Int64) (x : Int64) (y : Int64) (t : Int64) (nw : Int64) (hs8 : sm ≤ 8) : Ctr l D z y_Sv_accept b_Sv_accept 9 none { frames := 2, cells := 0, slots := 0, locals := 42 } [.ref a, .long x, .long y, .long t, .long nw] [(a, .inr (3, [.long sec, .int (bI pen), .long pst, .long psi, .long acc, .int str, .int ref, .int rt, .int (nI sm), .ref b1, .ref b2, .ref b3])), (b1, .inl (z 1, 8, .inr (.inl lo))), (b2, .inl (z 1, 8, .inr (.inl hi))), (b3, .inl (z 1, 8, .inr (.inl ti)))] (fun v w => v = none ∧ w = [(a, .inr (3, [.long sec, .int (bI false), .long pst, .long psi, .long x, .int str, .int ref, .int rt, .int (nI (f_J_min_IIN (sm + 1) 8)), .ref b1, .ref b2, .ref b3])), (b1, .inl (z 1, 8, .inr (.inl (f_Sv_accept_r1 sm lo hi ti t nw)))), (b2, .inl (z 1, 8, .inr (.inl (f_Sv_accept_r2 psi sm lo hi ti y)))), (b3, .inl (z 1, 8, .inr (.inl (f_Sv_accept_r3 sm lo hi ti nw))))]) 0 0 := by
  refine met_V (own := R_Sv) (nm := "accept") (by decide +kernel) rfl rfl (Nat.le_of_ble_eq_true rfl) ?_
  intro κ hl hD hz X Y
  subst hl
  subst hD
  subst hz
  show V κ 9 0 0 0 [(0, .ref a), (1, .long x), (3, .long y), (5, .long t), (7, .long nw)] [] [(a, .inr (3, [.long sec, .int (bI pen), .long pst, .long psi, .long acc, .int str, .int ref, .int rt, .int (nI sm), .ref b1, .ref b2, .ref b3])), (b1, .inl (κ.z 1, 8, .inr (.inl lo))), (b2, .inl (κ.z 1, 8, .inr (.inl hi))), (b3, .inl (κ.z 1, 8, .inr (.inl ti)))]
  refine v_aload_n X 0 d_Sv_accept_0 rfl ?_
  refine v_callV X (b := a) (n9 := 0) (As := []) (rest := []) (wc := [(a, .inr (3, [.long sec, .int (bI pen), .long pst, .long psi, .long acc, .int str, .int ref, .int rt, .int (nI sm), .ref b1, .ref b2, .ref b3])), (b1, .inl (κ.z 1, 8, .inr (.inl lo))), (b2, .inl (κ.z 1, 8, .inr (.inl hi))), (b3, .inl (κ.z 1, 8, .inr (.inl ti)))]) (wr := []) (c_Sv_makeRoomForSample κ.l κ.D κ.z a b1 b2 b3 sec pen pst psi acc str ref rt sm lo hi ti (by omega)) 0 rfl rfl m225 m226 m1 m32 (by decide +kernel) rfl (Nat.le_of_ble_eq_true rfl) ⟨by decide, by decide⟩ ⟨by decide, by decide⟩ rfl rfl m227 d_Sv_accept_1 (fun v w1 hg => ?_)
  obtain ⟨rfl, rfl⟩ := hg
  show V κ 9 0 0 4 [(0, .ref a), (1, .long x), (3, .long y), (5, .long t), (7, .long nw)] [] [(a, .inr (3, [.long sec, .int (bI pen), .long pst, .long psi, .long acc, .int str, .int ref, .int rt, .int (nI (f_J_min_IIN (sm + 1) 8)), .ref b1, .ref b2, .ref b3])), (b1, .inl (κ.z 1, 8, .inr (.inl (f_Sv_makeRoomForSample_r1 sm lo hi ti)))), (b2, .inl (κ.z 1, 8, .inr (.inl (f_Sv_makeRoomForSample_r2 sm lo hi ti)))), (b3, .inl (κ.z 1, 8, .inr (.inl (f_Sv_makeRoomForSample_r3 sm lo hi ti))))]
  refine v_aload_n X 0 d_Sv_accept_4 rfl ?_
  refine v_get X 0 9 rfl rfl li_Sv (by decide) m70 rfl d_Sv_accept_5 ?_
  refine v_iconst X 0 d_Sv_accept_8 (by decide) ?_
  refine v_lload X 3 d_Sv_accept_9 rfl ?_
  refine v_lload X 4 d_Sv_accept_11 rfl ?_
  refine v_lsub X d_Sv_accept_13 ?_
  refine v_lastN X 1 1 (j := 0) (x := (t - nw)) rfl rfl (by omega) (by omega) d_Sv_accept_14 (ws' := [(a, .inr (3, [.long sec, .int (bI pen), .long pst, .long psi, .long acc, .int str, .int ref, .int rt, .int (nI (f_J_min_IIN (sm + 1) 8)), .ref b1, .ref b2, .ref b3])), (b1, .inl (κ.z 1, 8, .inr (.inl (vp_updL (f_Sv_makeRoomForSample_r1 sm lo hi ti) 0 (t - nw))))), (b2, .inl (κ.z 1, 8, .inr (.inl (f_Sv_makeRoomForSample_r2 sm lo hi ti)))), (b3, .inl (κ.z 1, 8, .inr (.inl (f_Sv_makeRoomForSample_r3 sm lo hi ti))))]) rfl ?_
  refine v_aload_n X 0 d_Sv_accept_15 rfl ?_
  refine v_get X 0 10 rfl rfl li_Sv (by decide) m71 rfl d_Sv_accept_16 ?_
  refine v_iconst X 0 d_Sv_accept_19 (by decide) ?_
  refine v_lload_n X 2 d_Sv_accept_20 rfl ?_
  refine v_aload_n X 0 d_Sv_accept_21 rfl ?_
  show V κ 9 0 0 22 [(0, .ref a), (1, .long x), (3, .long y), (5, .long t), (7, .long nw)] [.ref a, .long y, .int 0, .ref b2] [(a, .inr (3, [.long sec, .int (bI pen), .long pst, .long psi, .long acc, .int str, .int ref, .int rt, .int (nI (f_J_min_IIN (sm + 1) 8)), .ref b1, .ref b2, .ref b3])), (b1, .inl (κ.z 1, 8, .inr (.inl (vp_updL (f_Sv_makeRoomForSample_r1 sm lo hi ti) 0 (t - nw))))), (b2, .inl (κ.z 1, 8, .inr (.inl (f_Sv_makeRoomForSample_r2 sm lo hi ti)))), (b3, .inl (κ.z 1, 8, .inr (.inl (f_Sv_makeRoomForSample_r3 sm lo hi ti))))]
  refine v_get X 0 3 rfl rfl li_Sv (by decide) m60 rfl d_Sv_accept_22 ?_
  refine v_lsub X d_Sv_accept_25 ?_
  refine v_lastN X 2 1 (j := 0) (x := (y - psi)) rfl rfl (by omega) (by omega) d_Sv_accept_26 (ws' := [(a, .inr (3, [.long sec, .int (bI pen), .long pst, .long psi, .long acc, .int str, .int ref, .int rt, .int (nI (f_J_min_IIN (sm + 1) 8)), .ref b1, .ref b2, .ref b3])), (b1, .inl (κ.z 1, 8, .inr (.inl (vp_updL (f_Sv_makeRoomForSample_r1 sm lo hi ti) 0 (t - nw))))), (b2, .inl (κ.z 1, 8, .inr (.inl (vp_updL (f_Sv_makeRoomForSample_r2 sm lo hi ti) 0 (y - psi))))), (b3, .inl (κ.z 1, 8, .inr (.inl (f_Sv_makeRoomForSample_r3 sm lo hi ti))))]) rfl ?_
  refine v_aload_n X 0 d_Sv_accept_27 rfl ?_
  refine v_get X 0 11 rfl rfl li_Sv (by decide) m72 rfl d_Sv_accept_28 ?_
  refine v_iconst X 0 d_Sv_accept_31 (by decide) ?_
  refine v_lload X 4 d_Sv_accept_32 rfl ?_
  refine v_lastN X 3 1 (j := 0) (x := nw) rfl rfl (by omega) (by omega) d_Sv_accept_34 (ws' := [(a, .inr (3, [.long sec, .int (bI pen), .long pst, .long psi, .long acc, .int str, .int ref, .int rt, .int (nI (f_J_min_IIN (sm + 1) 8)), .ref b1, .ref b2, .ref b3])), (b1, .inl (κ.z 1, 8, .inr (.inl (vp_updL (f_Sv_makeRoomForSample_r1 sm lo hi ti) 0 (t - nw))))), (b2, .inl (κ.z 1, 8, .inr (.inl (vp_updL (f_Sv_makeRoomForSample_r2 sm lo hi ti) 0 (y - psi))))), (b3, .inl (κ.z 1, 8, .inr (.inl (vp_updL (f_Sv_makeRoomForSample_r3 sm lo hi ti) 0 nw))))]) rfl ?_
  refine v_aload_n X 0 d_Sv_accept_35 rfl ?_
  refine v_lload_n X 1 d_Sv_accept_36 rfl ?_
  refine v_put X 0 4 (v := .long x) (ty := .long) ty_Sv tk_Sv n_Sv rfl rfl li_Sv (by decide) m62 rfl (by decide +kernel) rfl rfl (Nat.le_of_ble_eq_true rfl) d_Sv_accept_37 (ws' := [(a, .inr (3, [.long sec, .int (bI pen), .long pst, .long psi, .long x, .int str, .int ref, .int rt, .int (nI (f_J_min_IIN (sm + 1) 8)), .ref b1, .ref b2, .ref b3])), (b1, .inl (κ.z 1, 8, .inr (.inl (vp_updL (f_Sv_makeRoomForSample_r1 sm lo hi ti) 0 (t - nw))))), (b2, .inl (κ.z 1, 8, .inr (.inl (vp_updL (f_Sv_makeRoomForSample_r2 sm lo hi ti) 0 (y - psi))))), (b3, .inl (κ.z 1, 8, .inr (.inl (vp_updL (f_Sv_makeRoomForSample_r3 sm lo hi ti) 0 nw))))]) rfl ?_
  refine v_aload_n X 0 d_Sv_accept_40 rfl ?_
  refine v_iconst X 0 d_Sv_accept_41 (by decide) ?_
  refine v_put X 0 1 (v := .int (bI false)) (ty := .boolean) ty_Sv tk_Sv n_Sv rfl rfl li_Sv (by decide) m58 rfl (by decide +kernel) (narB _) rfl (Nat.le_of_ble_eq_true rfl) d_Sv_accept_42 (ws' := [(a, .inr (3, [.long sec, .int (bI false), .long pst, .long psi, .long x, .int str, .int ref, .int rt, .int (nI (f_J_min_IIN (sm + 1) 8)), .ref b1, .ref b2, .ref b3])), (b1, .inl (κ.z 1, 8, .inr (.inl (vp_updL (f_Sv_makeRoomForSample_r1 sm lo hi ti) 0 (t - nw))))), (b2, .inl (κ.z 1, 8, .inr (.inl (vp_updL (f_Sv_makeRoomForSample_r2 sm lo hi ti) 0 (y - psi))))), (b3, .inl (κ.z 1, 8, .inr (.inl (vp_updL (f_Sv_makeRoomForSample_r3 sm lo hi ti) 0 nw))))]) rfl ?_
  exact v_vret X Y (by decide) (by decide) d_Sv_accept_45 ⟨rfl, rfl⟩

def shb (rt : Int32) (lo : Nat → Int64) (hi : Nat → Int64) (ti : Nat → Int64) (nw : Int64) (dr : Int32) : Nat → Nat
  | 0 => 0
  | j + 1 => if (f_Sv_lengthOf rt lo hi ti (shb rt lo hi ti nw dr j) nw dr) ≤ (f_Sv_lengthOf rt lo hi ti (j + 1) nw dr) then (shb rt lo hi ti nw dr j) else (j + 1)
theorem shb_le (rt : Int32) (lo : Nat → Int64) (hi : Nat → Int64) (ti : Nat → Int64) (nw : Int64) (dr : Int32) : ∀ n : Nat, shb rt lo hi ti nw dr n ≤ n
  | 0 => Nat.le_refl _
  | n + 1 => by
    have h9 := shb_le rt lo hi ti nw dr n
    unfold shb
    try dsimp only
    repeat' split
    all_goals omega
set_option maxHeartbeats 4000000 in
set_option maxRecDepth 100000 in
theorem lp_shortest {κ : VC} (X : Cx κ b_Sv_shortestSample R_Sv { frames := 4, cells := 0, slots := 0, locals := 95 } 6) (a : Nat) (b1 : Nat) (b2 : Nat) (b3 : Nat) (sec : Int64) (pen : Bool) (pst : Int64) (psi : Int64) (acc : Int64) (str : Int32) (ref : Int32) (rt : Int32) (sm : Nat) (lo : Nat → Int64) (hi : Nat → Int64) (ti : Nat → Int64) (nw : Int64) (dr : Int32) (hs1 : 1 ≤ sm) (hs8 : sm ≤ 8)  (kk : V κ 6 0 0 45 [(5, .int (nI ((sm - 1) + 1))), (4, .int (nI (shb rt lo hi ti nw dr (sm - 1)))), (0, .ref a), (1, .long nw), (3, .int dr)] [] [(a, .inr (3, [.long sec, .int (bI pen), .long pst, .long psi, .long acc, .int str, .int ref, .int rt, .int (nI sm), .ref b1, .ref b2, .ref b3])), (b1, .inl (κ.z 1, 8, .inr (.inl lo))), (b2, .inl (κ.z 1, 8, .inr (.inl hi))), (b3, .inl (κ.z 1, 8, .inr (.inl ti)))]) : ∀ (d9 j : Nat), j + d9 = sm - 1 → V κ 6 0 0 6 [(5, .int (nI (j + 1))), (4, .int (nI (shb rt lo hi ti nw dr j))), (0, .ref a), (1, .long nw), (3, .int dr)] [] [(a, .inr (3, [.long sec, .int (bI pen), .long pst, .long psi, .long acc, .int str, .int ref, .int rt, .int (nI sm), .ref b1, .ref b2, .ref b3])), (b1, .inl (κ.z 1, 8, .inr (.inl lo))), (b2, .inl (κ.z 1, 8, .inr (.inl hi))), (b3, .inl (κ.z 1, 8, .inr (.inl ti)))] := by
  intro d9
  induction d9 with
  | zero =>
    intro j hj 
    have e9 : j = sm - 1 := by omega
    rw [e9]
    show V κ 6 0 0 6 [(5, .int (nI ((sm - 1) + 1))), (4, .int (nI (shb rt lo hi ti nw dr (sm - 1)))), (0, .ref a), (1, .long nw), (3, .int dr)] [] [(a, .inr (3, [.long sec, .int (bI pen), .long pst, .long psi, .long acc, .int str, .int ref, .int rt, .int (nI sm), .ref b1, .ref b2, .ref b3])), (b1, .inl (κ.z 1, 8, .inr (.inl lo))), (b2, .inl (κ.z 1, 8, .inr (.inl hi))), (b3, .inl (κ.z 1, 8, .inr (.inl ti)))]
    refine v_iload X 0 d_Sv_shortestSample_6 rfl ?_
    refine v_aload_n X 2 d_Sv_shortestSample_8 rfl ?_
    refine v_get X 0 8 rfl rfl li_Sv (by decide) m68 rfl d_Sv_shortestSample_9 ?_
    refine v_icmpN_ge X 45 (a := ((sm - 1) + 1)) (b := sm) d_Sv_shortestSample_12 (by decide) (by omega) (by omega) (fun c12 => ?_) (fun c12 => by omega)
    exact kk
  | succ d9 ih =>
    intro j hj 
    have h8 := shb_le rt lo hi ti nw dr j
    show V κ 6 0 0 6 [(5, .int (nI (j + 1))), (4, .int (nI (shb rt lo hi ti nw dr j))), (0, .ref a), (1, .long nw), (3, .int dr)] [] [(a, .inr (3, [.long sec, .int (bI pen), .long pst, .long psi, .long acc, .int str, .int ref, .int rt, .int (nI sm), .ref b1, .ref b2, .ref b3])), (b1, .inl (κ.z 1, 8, .inr (.inl lo))), (b2, .inl (κ.z 1, 8, .inr (.inl hi))), (b3, .inl (κ.z 1, 8, .inr (.inl ti)))]
    refine v_iload X 0 d_Sv_shortestSample_6 rfl ?_
    refine v_aload_n X 2 d_Sv_shortestSample_8 rfl ?_
    refine v_get X 0 8 rfl rfl li_Sv (by decide) m68 rfl d_Sv_shortestSample_9 ?_
    refine v_icmpN_ge X 45 (a := (j + 1)) (b := sm) d_Sv_shortestSample_12 (by decide) (by omega) (by omega) (fun c12 => by omega) (fun c12 => ?_)
    refine v_aload_n X 2 d_Sv_shortestSample_15 rfl ?_
    refine v_iload X 0 d_Sv_shortestSample_16 rfl ?_
    refine v_lload_n X 3 d_Sv_shortestSample_18 rfl ?_
    refine v_iload_n X 4 d_Sv_shortestSample_19 rfl ?_
    refine v_callV X (b := a) (n9 := 3) (As := [.int (nI (j + 1)), .long nw, .int dr]) (rest := []) (wc := [(a, .inr (3, [.long sec, .int (bI pen), .long pst, .long psi, .long acc, .int str, .int ref, .int rt, .int (nI sm), .ref b1, .ref b2, .ref b3])), (b1, .inl (κ.z 1, 8, .inr (.inl lo))), (b2, .inl (κ.z 1, 8, .inr (.inl hi))), (b3, .inl (κ.z 1, 8, .inr (.inl ti)))]) (wr := []) (c_Sv_lengthOf κ.l κ.D κ.z a b1 b2 b3 sec pen pst psi acc str ref rt sm lo hi ti (j + 1) nw dr (by omega)) 0 rfl rfl m241 m242 m2 m32 (by decide +kernel) rfl (Nat.le_of_ble_eq_true rfl) ⟨by decide, by decide⟩ ⟨by decide, by decide⟩ rfl rfl m243 d_Sv_shortestSample_20 (fun v w1 hg => ?_)
    obtain ⟨rfl, rfl⟩ := hg
    show V κ 6 0 0 23 [(5, .int (nI (j + 1))), (4, .int (nI (shb rt lo hi ti nw dr j))), (0, .ref a), (1, .long nw), (3, .int dr)] [.long (f_Sv_lengthOf rt lo hi ti (j + 1) nw dr)] [(a, .inr (3, [.long sec, .int (bI pen), .long pst, .long psi, .long acc, .int str, .int ref, .int rt, .int (nI sm), .ref b1, .ref b2, .ref b3])), (b1, .inl (κ.z 1, 8, .inr (.inl lo))), (b2, .inl (κ.z 1, 8, .inr (.inl hi))), (b3, .inl (κ.z 1, 8, .inr (.inl ti)))]
    refine v_aload_n X 2 d_Sv_shortestSample_23 rfl ?_
    refine v_iload X 1 d_Sv_shortestSample_24 rfl ?_
    refine v_lload_n X 3 d_Sv_shortestSample_26 rfl ?_
    refine v_iload_n X 4 d_Sv_shortestSample_27 rfl ?_
    refine v_callV X (b := a) (n9 := 3) (As := [.int (nI (shb rt lo hi ti nw dr j)), .long nw, .int dr]) (rest := [.long (f_Sv_lengthOf rt lo hi ti (j + 1) nw dr)]) (wc := [(a, .inr (3, [.long sec, .int (bI pen), .long pst, .long psi, .long acc, .int str, .int ref, .int rt, .int (nI sm), .ref b1, .ref b2, .ref b3])), (b1, .inl (κ.z 1, 8, .inr (.inl lo))), (b2, .inl (κ.z 1, 8, .inr (.inl hi))), (b3, .inl (κ.z 1, 8, .inr (.inl ti)))]) (wr := []) (c_Sv_lengthOf κ.l κ.D κ.z a b1 b2 b3 sec pen pst psi acc str ref rt sm lo hi ti (shb rt lo hi ti nw dr j) nw dr (by omega)) 0 rfl rfl m241 m242 m2 m32 (by decide +kernel) rfl (Nat.le_of_ble_eq_true rfl) ⟨by decide, by decide⟩ ⟨by decide, by decide⟩ rfl rfl m243 d_Sv_shortestSample_28 (fun v w1 hg => ?_)
    obtain ⟨rfl, rfl⟩ := hg
    show V κ 6 0 0 31 [(5, .int (nI (j + 1))), (4, .int (nI (shb rt lo hi ti nw dr j))), (0, .ref a), (1, .long nw), (3, .int dr)] [.long (f_Sv_lengthOf rt lo hi ti (shb rt lo hi ti nw dr j) nw dr), .long (f_Sv_lengthOf rt lo hi ti (j + 1) nw dr)] [(a, .inr (3, [.long sec, .int (bI pen), .long pst, .long psi, .long acc, .int str, .int ref, .int rt, .int (nI sm), .ref b1, .ref b2, .ref b3])), (b1, .inl (κ.z 1, 8, .inr (.inl lo))), (b2, .inl (κ.z 1, 8, .inr (.inl hi))), (b3, .inl (κ.z 1, 8, .inr (.inl ti)))]
    show V κ 6 0 0 31 [(5, .int (nI (j + 1))), (4, .int (nI (shb rt lo hi ti nw dr j))), (0, .ref a), (1, .long nw), (3, .int dr)] [.long (f_Sv_lengthOf rt lo hi ti (shb rt lo hi ti nw dr j) nw dr), .long (f_Sv_lengthOf rt lo hi ti (j + 1) nw dr)] [(a, .inr (3, [.long sec, .int (bI pen), .long pst, .long psi, .long acc, .int str, .int ref, .int rt, .int (nI sm), .ref b1, .ref b2, .ref b3])), (b1, .inl (κ.z 1, 8, .inr (.inl lo))), (b2, .inl (κ.z 1, 8, .inr (.inl hi))), (b3, .inl (κ.z 1, 8, .inr (.inl ti)))]
    suffices hm31 : V κ 6 0 0 39 [(5, .int (nI (j + 1))), (4, .int (nI (if (f_Sv_lengthOf rt lo hi ti (shb rt lo hi ti nw dr j) nw dr) ≤ (f_Sv_lengthOf rt lo hi ti (j + 1) nw dr) then (shb rt lo hi ti nw dr j) else (j + 1)))), (0, .ref a), (1, .long nw), (3, .int dr)] [] [(a, .inr (3, [.long sec, .int (bI pen), .long pst, .long psi, .long acc, .int str, .int ref, .int rt, .int (nI sm), .ref b1, .ref b2, .ref b3])), (b1, .inl (κ.z 1, 8, .inr (.inl lo))), (b2, .inl (κ.z 1, 8, .inr (.inl hi))), (b3, .inl (κ.z 1, 8, .inr (.inl ti)))] by
      refine v_lcmp_ge X 39 d_Sv_shortestSample_31 d_Sv_shortestSample_32 (by decide) (fun c31 => ?_) (fun c31 => ?_)
      · skip
        have h9 := hm31; simp only [if_pos c31] at h9; first | exact h9 | (simp only [if_pos c31]; exact h9)
      · skip
        refine v_iload X 0 d_Sv_shortestSample_35 rfl ?_
        refine v_istore X d_Sv_shortestSample_37 (by decide) (lv' := [(4, .int (nI (j + 1))), (5, .int (nI (j + 1))), (0, .ref a), (1, .long nw), (3, .int dr)]) rfl ?_
        refine v_lv [1, 0, 2, 3, 4] rfl ?_
        have h9 := hm31; simp only [if_neg c31] at h9; first | exact h9 | (simp only [if_neg c31]; exact h9)
    refine v_iinc X 0 d_Sv_shortestSample_39 (x := nI (j + 1)) rfl (v := nI ((j + 1) + 1)) (nI_1 _) (by decide) (lv' := [(5, .int (nI ((j + 1) + 1))), (4, .int (nI (if (f_Sv_lengthOf rt lo hi ti (shb rt lo hi ti nw dr j) nw dr) ≤ (f_Sv_lengthOf rt lo hi ti (j + 1) nw dr) then (shb rt lo hi ti nw dr j) else (j + 1)))), (0, .ref a), (1, .long nw), (3, .int dr)]) rfl ?_
    refine v_goto X 6 d_Sv_shortestSample_42 (by decide) ?_
    exact v_eq rfl (by rfl) rfl (by rfl) (ih (j + 1) (by omega))

set_option maxHeartbeats 4000000 in
set_option maxRecDepth 100000 in
theorem c_Sv_shortestSample (l : Launch) (D : va_G) (z : Nat → ClassId) (a : Nat) (b1 : Nat) (b2 : Nat) (b3 : Nat) (sec : Int64) (pen : Bool) (pst : Int64) (psi : Int64) (acc : Int64) (str : Int32) (ref : Int32) (rt : Int32) (sm : Nat) (lo : Nat → Int64) (hi : Nat → Int64) (ti : Nat → Int64) (nw : Int64) (dr : Int32) (hs1 : 1 ≤ sm) (hs8 : sm ≤ 8) : Ctr l D z y_Sv_shortestSample b_Sv_shortestSample 6 (some .int) { frames := 4, cells := 0, slots := 0, locals := 95 } [.ref a, .long nw, .int dr] [(a, .inr (3, [.long sec, .int (bI pen), .long pst, .long psi, .long acc, .int str, .int ref, .int rt, .int (nI sm), .ref b1, .ref b2, .ref b3])), (b1, .inl (z 1, 8, .inr (.inl lo))), (b2, .inl (z 1, 8, .inr (.inl hi))), (b3, .inl (z 1, 8, .inr (.inl ti)))] (fun v w => v = some (.int (nI (shb rt lo hi ti nw dr (sm - 1)))) ∧ w = [(a, .inr (3, [.long sec, .int (bI pen), .long pst, .long psi, .long acc, .int str, .int ref, .int rt, .int (nI sm), .ref b1, .ref b2, .ref b3])), (b1, .inl (z 1, 8, .inr (.inl lo))), (b2, .inl (z 1, 8, .inr (.inl hi))), (b3, .inl (z 1, 8, .inr (.inl ti)))]) 0 0 := by
  refine met_V (own := R_Sv) (nm := "shortestSample") (by decide +kernel) rfl rfl (Nat.le_of_ble_eq_true rfl) ?_
  intro κ hl hD hz X Y
  subst hl
  subst hD
  subst hz
  show V κ 6 0 0 0 [(0, .ref a), (1, .long nw), (3, .int dr)] [] [(a, .inr (3, [.long sec, .int (bI pen), .long pst, .long psi, .long acc, .int str, .int ref, .int rt, .int (nI sm), .ref b1, .ref b2, .ref b3])), (b1, .inl (κ.z 1, 8, .inr (.inl lo))), (b2, .inl (κ.z 1, 8, .inr (.inl hi))), (b3, .inl (κ.z 1, 8, .inr (.inl ti)))]
  refine v_iconst X 0 d_Sv_shortestSample_0 (by decide) ?_
  refine v_istore X d_Sv_shortestSample_1 (by decide) (lv' := [(4, .int 0), (0, .ref a), (1, .long nw), (3, .int dr)]) rfl ?_
  refine v_iconst X 1 d_Sv_shortestSample_3 (by decide) ?_
  refine v_istore X d_Sv_shortestSample_4 (by decide) (lv' := [(5, .int 1), (4, .int 0), (0, .ref a), (1, .long nw), (3, .int dr)]) rfl ?_
  show V κ 6 0 0 6 [(5, .int (nI (0 + 1))), (4, .int (nI (shb rt lo hi ti nw dr 0))), (0, .ref a), (1, .long nw), (3, .int dr)] [] [(a, .inr (3, [.long sec, .int (bI pen), .long pst, .long psi, .long acc, .int str, .int ref, .int rt, .int (nI sm), .ref b1, .ref b2, .ref b3])), (b1, .inl (κ.z 1, 8, .inr (.inl lo))), (b2, .inl (κ.z 1, 8, .inr (.inl hi))), (b3, .inl (κ.z 1, 8, .inr (.inl ti)))]
  refine lp_shortest X a b1 b2 b3 sec pen pst psi acc str ref rt sm lo hi ti nw dr (by omega) (by omega)  ?_ ((sm - 1) - 0) 0 (by omega)
  show V κ 6 0 0 45 [(5, .int (nI ((sm - 1) + 1))), (4, .int (nI (shb rt lo hi ti nw dr (sm - 1)))), (0, .ref a), (1, .long nw), (3, .int dr)] [] [(a, .inr (3, [.long sec, .int (bI pen), .long pst, .long psi, .long acc, .int str, .int ref, .int rt, .int (nI sm), .ref b1, .ref b2, .ref b3])), (b1, .inl (κ.z 1, 8, .inr (.inl lo))), (b2, .inl (κ.z 1, 8, .inr (.inl hi))), (b3, .inl (κ.z 1, 8, .inr (.inl ti)))]
  refine v_iload X 1 d_Sv_shortestSample_45 rfl ?_
  exact v_iret X Y (by decide) (by decide) d_Sv_shortestSample_47 ⟨rfl, rfl⟩
end
section
set_option maxHeartbeats 4000000 in
set_option maxRecDepth 100000 in
theorem c_E_init (l : Launch) (D : va_G) (z : Nat → ClassId) (e : Nat)  : Ctr l D z y_E_init b_E_init 1 none { frames := 1, cells := 3, slots := 18, locals := 20 } [.ref e] [(e, .inr (0, [.int (nI 0), .null, .null, .null, .long 0, .long 0]))] (fun v w => v = none ∧ ∃ e1 e2 e3 : Nat, w = [(e, .inr (0, [.int (nI 0), .ref e1, .ref e2, .ref e3, .long 0, .long 0])), (e1, .inl (z 0, 6, .inl (aN (fun _ => 0)))), (e2, .inl (z 1, 6, .inr (.inl (fun _ => 0)))), (e3, .inl (z 1, 6, .inr (.inl (fun _ => 0))))]) 3 18 := by
  refine met_V (own := R_E) (nm := "<init>") (by decide +kernel) rfl rfl (Nat.le_of_ble_eq_true rfl) ?_
  intro κ hl hD hz X Y
  subst hl
  subst hD
  subst hz
  show V κ 1 0 0 0 [(0, .ref e)] [] [(e, .inr (0, [.int (nI 0), .null, .null, .null, .long 0, .long 0]))]
  refine v_aload_n X 0 d_E_init_0 rfl ?_
  refine v_objInit X m104 m43 m44 d_E_init_1 (by decide) (Nat.le_of_ble_eq_true rfl) ?_
  show V κ 1 0 0 4 [(0, .ref e)] [] [(e, .inr (0, [.int (nI 0), .null, .null, .null, .long 0, .long 0]))]
  refine v_aload_n X 0 d_E_init_4 rfl ?_
  refine v_bipush X 6 d_E_init_5 (by decide) ?_
  refine v_newI X 0 6 rfl rfl m121 (by decide) rfl (by decide) (by decide) (by decide) d_E_init_7 (fun q7 => ?_)
  show V κ 1 1 6 9 [(0, .ref e)] [.ref q7, .ref e] [(e, .inr (0, [.int (nI 0), .null, .null, .null, .long 0, .long 0])), (q7, .inl (κ.z 0, 6, .inl (aN (fun _ => 0))))]
  refine v_putF X Y 0 1 (v := .ref q7) (ty := (.array .int)) ty_E tk_E n_E rfl rfl li_E (by decide) m107 rfl rfl (by decide +kernel) rfl rfl (Nat.le_of_ble_eq_true rfl) d_E_init_9 (ws' := [(e, .inr (0, [.int (nI 0), .ref q7, .null, .null, .long 0, .long 0])), (q7, .inl (κ.z 0, 6, .inl (aN (fun _ => 0))))]) rfl ?_
  refine v_aload_n X 0 d_E_init_12 rfl ?_
  refine v_bipush X 6 d_E_init_13 (by decide) ?_
  refine v_newJ X 1 6 rfl rfl m85 (by decide) rfl (by decide) (by decide) (by decide) d_E_init_15 (fun q15 => ?_)
  show V κ 1 2 12 17 [(0, .ref e)] [.ref q15, .ref e] [(e, .inr (0, [.int (nI 0), .ref q7, .null, .null, .long 0, .long 0])), (q7, .inl (κ.z 0, 6, .inl (aN (fun _ => 0)))), (q15, .inl (κ.z 1, 6, .inr (.inl (fun _ => 0))))]
  refine v_putF X Y 0 2 (v := .ref q15) (ty := (.array .long)) ty_E tk_E n_E rfl rfl li_E (by decide) m109 rfl rfl (by decide +kernel) rfl rfl (Nat.le_of_ble_eq_true rfl) d_E_init_17 (ws' := [(e, .inr (0, [.int (nI 0), .ref q7, .ref q15, .null, .long 0, .long 0])), (q7, .inl (κ.z 0, 6, .inl (aN (fun _ => 0)))), (q15, .inl (κ.z 1, 6, .inr (.inl (fun _ => 0))))]) rfl ?_
  refine v_aload_n X 0 d_E_init_20 rfl ?_
  refine v_bipush X 6 d_E_init_21 (by decide) ?_
  refine v_newJ X 1 6 rfl rfl m85 (by decide) rfl (by decide) (by decide) (by decide) d_E_init_23 (fun q23 => ?_)
  show V κ 1 3 18 25 [(0, .ref e)] [.ref q23, .ref e] [(e, .inr (0, [.int (nI 0), .ref q7, .ref q15, .null, .long 0, .long 0])), (q7, .inl (κ.z 0, 6, .inl (aN (fun _ => 0)))), (q15, .inl (κ.z 1, 6, .inr (.inl (fun _ => 0)))), (q23, .inl (κ.z 1, 6, .inr (.inl (fun _ => 0))))]
  refine v_putF X Y 0 3 (v := .ref q23) (ty := (.array .long)) ty_E tk_E n_E rfl rfl li_E (by decide) m110 rfl rfl (by decide +kernel) rfl rfl (Nat.le_of_ble_eq_true rfl) d_E_init_25 (ws' := [(e, .inr (0, [.int (nI 0), .ref q7, .ref q15, .ref q23, .long 0, .long 0])), (q7, .inl (κ.z 0, 6, .inl (aN (fun _ => 0)))), (q15, .inl (κ.z 1, 6, .inr (.inl (fun _ => 0)))), (q23, .inl (κ.z 1, 6, .inr (.inl (fun _ => 0))))]) rfl ?_
  show V κ 1 3 18 28 [(0, .ref e)] [] [(e, .inr (0, [.int (nI 0), .ref q7, .ref q15, .ref q23, .long 0, .long 0])), (q7, .inl (κ.z 0, 6, .inl (aN (fun _ => 0)))), (q15, .inl (κ.z 1, 6, .inr (.inl (fun _ => 0)))), (q23, .inl (κ.z 1, 6, .inr (.inl (fun _ => 0))))]
  exact v_vret X Y (by decide) (by decide) d_E_init_28 ⟨rfl, _, _, _, rfl⟩

set_option maxHeartbeats 4000000 in
set_option maxRecDepth 100000 in
theorem c_E_clear (l : Launch) (D : va_G) (z : Nat → ClassId) (e : Nat) (e1 : Nat) (e2 : Nat) (e3 : Nat) (cnt : Nat) (hl : Int64) (hh : Int64) (nu : Nat → Nat) (lo : Nat → Int64) (hi : Nat → Int64)  : Ctr l D z y_E_clear b_E_clear 1 none { frames := 0, cells := 0, slots := 0, locals := 0 } [.ref e] [(e, .inr (0, [.int (nI cnt), .ref e1, .ref e2, .ref e3, .long hl, .long hh])), (e1, .inl (z 0, 6, .inl (aN nu))), (e2, .inl (z 1, 6, .inr (.inl lo))), (e3, .inl (z 1, 6, .inr (.inl hi)))] (fun v w => v = none ∧ w = [(e, .inr (0, [.int (nI 0), .ref e1, .ref e2, .ref e3, .long hl, .long hh])), (e1, .inl (z 0, 6, .inl (aN nu))), (e2, .inl (z 1, 6, .inr (.inl lo))), (e3, .inl (z 1, 6, .inr (.inl hi)))]) 0 0 := by
  refine met_V (own := R_E) (nm := "clear") (by decide +kernel) rfl rfl (Nat.le_of_ble_eq_true rfl) ?_
  intro κ hl hD hz X Y
  subst hl
  subst hD
  subst hz
  show V κ 1 0 0 0 [(0, .ref e)] [] [(e, .inr (0, [.int (nI cnt), .ref e1, .ref e2, .ref e3, .long hl, .long hh])), (e1, .inl (κ.z 0, 6, .inl (aN nu))), (e2, .inl (κ.z 1, 6, .inr (.inl lo))), (e3, .inl (κ.z 1, 6, .inr (.inl hi)))]
  refine v_aload_n X 0 d_E_clear_0 rfl ?_
  refine v_iconst X 0 d_E_clear_1 (by decide) ?_
  refine v_put X 0 0 (v := .int (nI 0)) (ty := .int) ty_E tk_E n_E rfl rfl li_E (by decide) m105 rfl (by decide +kernel) rfl rfl (Nat.le_of_ble_eq_true rfl) d_E_clear_2 (ws' := [(e, .inr (0, [.int (nI 0), .ref e1, .ref e2, .ref e3, .long hl, .long hh])), (e1, .inl (κ.z 0, 6, .inl (aN nu))), (e2, .inl (κ.z 1, 6, .inr (.inl lo))), (e3, .inl (κ.z 1, 6, .inr (.inl hi)))]) rfl ?_
  exact v_vret X Y (by decide) (by decide) d_E_clear_5 ⟨rfl, rfl⟩

set_option maxHeartbeats 4000000 in
set_option maxRecDepth 100000 in
theorem c_E_put (l : Launch) (D : va_G) (z : Nat → ClassId) (e : Nat) (e1 : Nat) (e2 : Nat) (e3 : Nat) (cnt : Nat) (hl : Int64) (hh : Int64) (nu : Nat → Nat) (lo : Nat → Int64) (hi : Nat → Int64) (p : Nat) (i : Nat) (x : Int64) (y : Int64) (hp9 : p < 6) : Ctr l D z y_E_put b_E_put 7 none { frames := 0, cells := 0, slots := 0, locals := 0 } [.ref e, .int (nI p), .int (nI i), .long x, .long y] [(e, .inr (0, [.int (nI cnt), .ref e1, .ref e2, .ref e3, .long hl, .long hh])), (e1, .inl (z 0, 6, .inl (aN nu))), (e2, .inl (z 1, 6, .inr (.inl lo))), (e3, .inl (z 1, 6, .inr (.inl hi)))] (fun v w => v = none ∧ w = [(e, .inr (0, [.int (nI cnt), .ref e1, .ref e2, .ref e3, .long hl, .long hh])), (e1, .inl (z 0, 6, .inl (aN (va_up nu p i)))), (e2, .inl (z 1, 6, .inr (.inl (vp_updL lo p x)))), (e3, .inl (z 1, 6, .inr (.inl (vp_updL hi p y))))]) 0 0 := by
  refine met_V (own := R_E) (nm := "put") (by decide +kernel) rfl rfl (Nat.le_of_ble_eq_true rfl) ?_
  intro κ hl hD hz X Y
  subst hl
  subst hD
  subst hz
  show V κ 7 0 0 0 [(0, .ref e), (1, .int (nI p)), (2, .int (nI i)), (3, .long x), (5, .long y)] [] [(e, .inr (0, [.int (nI cnt), .ref e1, .ref e2, .ref e3, .long hl, .long hh])), (e1, .inl (κ.z 0, 6, .inl (aN nu))), (e2, .inl (κ.z 1, 6, .inr (.inl lo))), (e3, .inl (κ.z 1, 6, .inr (.inl hi)))]
  refine v_aload_n X 0 d_E_put_0 rfl ?_
  refine v_get X 0 1 rfl rfl li_E (by decide) m107 rfl d_E_put_1 ?_
  refine v_iload_n X 1 d_E_put_4 rfl ?_
  refine v_iload_n X 2 d_E_put_5 rfl ?_
  refine v_nastN X 1 0 (j := p) (x := i) rfl rfl (by omega) (by omega) d_E_put_6 (ws' := [(e, .inr (0, [.int (nI cnt), .ref e1, .ref e2, .ref e3, .long hl, .long hh])), (e1, .inl (κ.z 0, 6, .inl (aN (va_up nu p i)))), (e2, .inl (κ.z 1, 6, .inr (.inl lo))), (e3, .inl (κ.z 1, 6, .inr (.inl hi)))]) rfl ?_
  refine v_aload_n X 0 d_E_put_7 rfl ?_
  refine v_get X 0 2 rfl rfl li_E (by decide) m109 rfl d_E_put_8 ?_
  refine v_iload_n X 1 d_E_put_11 rfl ?_
  refine v_lload_n X 3 d_E_put_12 rfl ?_
  refine v_lastN X 2 1 (j := p) (x := x) rfl rfl (by omega) (by omega) d_E_put_13 (ws' := [(e, .inr (0, [.int (nI cnt), .ref e1, .ref e2, .ref e3, .long hl, .long hh])), (e1, .inl (κ.z 0, 6, .inl (aN (va_up nu p i)))), (e2, .inl (κ.z 1, 6, .inr (.inl (vp_updL lo p x)))), (e3, .inl (κ.z 1, 6, .inr (.inl hi)))]) rfl ?_
  refine v_aload_n X 0 d_E_put_14 rfl ?_
  refine v_get X 0 3 rfl rfl li_E (by decide) m110 rfl d_E_put_15 ?_
  refine v_iload_n X 1 d_E_put_18 rfl ?_
  refine v_lload X 4 d_E_put_19 rfl ?_
  show V κ 7 0 0 21 [(0, .ref e), (1, .int (nI p)), (2, .int (nI i)), (3, .long x), (5, .long y)] [.long y, .int (nI p), .ref e3] [(e, .inr (0, [.int (nI cnt), .ref e1, .ref e2, .ref e3, .long hl, .long hh])), (e1, .inl (κ.z 0, 6, .inl (aN (va_up nu p i)))), (e2, .inl (κ.z 1, 6, .inr (.inl (vp_updL lo p x)))), (e3, .inl (κ.z 1, 6, .inr (.inl hi)))]
  refine v_lastN X 3 1 (j := p) (x := y) rfl rfl (by omega) (by omega) d_E_put_21 (ws' := [(e, .inr (0, [.int (nI cnt), .ref e1, .ref e2, .ref e3, .long hl, .long hh])), (e1, .inl (κ.z 0, 6, .inl (aN (va_up nu p i)))), (e2, .inl (κ.z 1, 6, .inr (.inl (vp_updL lo p x)))), (e3, .inl (κ.z 1, 6, .inr (.inl (vp_updL hi p y))))]) rfl ?_
  exact v_vret X Y (by decide) (by decide) d_E_put_22 ⟨rfl, rfl⟩

set_option maxHeartbeats 4000000 in
set_option maxRecDepth 100000 in
theorem c_E_enter (l : Launch) (D : va_G) (z : Nat → ClassId) (e : Nat) (e1 : Nat) (e2 : Nat) (e3 : Nat) (cnt : Nat) (hl : Int64) (hh : Int64) (nu : Nat → Nat) (lo : Nat → Int64) (hi : Nat → Int64) (i : Nat) (x : Int64) (y : Int64) (hc9 : cnt < 6) : Ctr l D z y_E_enter b_E_enter 6 none { frames := 1, cells := 0, slots := 0, locals := 26 } [.ref e, .int (nI i), .long x, .long y] [(e, .inr (0, [.int (nI cnt), .ref e1, .ref e2, .ref e3, .long hl, .long hh])), (e1, .inl (z 0, 6, .inl (aN nu))), (e2, .inl (z 1, 6, .inr (.inl lo))), (e3, .inl (z 1, 6, .inr (.inl hi)))] (fun v w => v = none ∧ w = [(e, .inr (0, [.int (nI (cnt + 1)), .ref e1, .ref e2, .ref e3, .long hl, .long hh])), (e1, .inl (z 0, 6, .inl (aN (va_up nu cnt i)))), (e2, .inl (z 1, 6, .inr (.inl (vp_updL lo cnt x)))), (e3, .inl (z 1, 6, .inr (.inl (vp_updL hi cnt y))))]) 0 0 := by
  refine met_V (own := R_E) (nm := "enter") (by decide +kernel) rfl rfl (Nat.le_of_ble_eq_true rfl) ?_
  intro κ hl hD hz X Y
  subst hl
  subst hD
  subst hz
  show V κ 6 0 0 0 [(0, .ref e), (1, .int (nI i)), (2, .long x), (4, .long y)] [] [(e, .inr (0, [.int (nI cnt), .ref e1, .ref e2, .ref e3, .long hl, .long hh])), (e1, .inl (κ.z 0, 6, .inl (aN nu))), (e2, .inl (κ.z 1, 6, .inr (.inl lo))), (e3, .inl (κ.z 1, 6, .inr (.inl hi)))]
  refine v_aload_n X 0 d_E_enter_0 rfl ?_
  refine v_get X 0 0 rfl rfl li_E (by decide) m105 rfl d_E_enter_1 ?_
  refine v_bipush X 6 d_E_enter_4 (by decide) ?_
  refine v_icmpN_ge X 31 (a := cnt) (b := 6) d_E_enter_6 (by decide) (by omega) (by omega) (fun c6 => by omega) (fun c6 => ?_)
  refine v_aload_n X 0 d_E_enter_9 rfl ?_
  refine v_aload_n X 0 d_E_enter_10 rfl ?_
  refine v_get X 0 0 rfl rfl li_E (by decide) m105 rfl d_E_enter_11 ?_
  refine v_iload_n X 1 d_E_enter_14 rfl ?_
  refine v_lload_n X 2 d_E_enter_15 rfl ?_
  refine v_lload X 3 d_E_enter_16 rfl ?_
  refine v_callV X (b := e) (n9 := 4) (As := [.int (nI cnt), .int (nI i), .long x, .long y]) (rest := []) (wc := [(e, .inr (0, [.int (nI cnt), .ref e1, .ref e2, .ref e3, .long hl, .long hh])), (e1, .inl (κ.z 0, 6, .inl (aN nu))), (e2, .inl (κ.z 1, 6, .inr (.inl lo))), (e3, .inl (κ.z 1, 6, .inr (.inl hi)))]) (wr := []) (c_E_put κ.l κ.D κ.z e e1 e2 e3 cnt hl hh nu lo hi cnt i x y (by omega)) 0 rfl rfl m286 m287 m5 m34 (by decide +kernel) rfl (Nat.le_of_ble_eq_true rfl) ⟨by decide, by decide⟩ ⟨by decide, by decide⟩ rfl rfl m288 d_E_enter_18 (fun v w1 hg => ?_)
  obtain ⟨rfl, rfl⟩ := hg
  show V κ 6 0 0 21 [(0, .ref e), (1, .int (nI i)), (2, .long x), (4, .long y)] [] [(e, .inr (0, [.int (nI cnt), .ref e1, .ref e2, .ref e3, .long hl, .long hh])), (e1, .inl (κ.z 0, 6, .inl (aN (va_up nu cnt i)))), (e2, .inl (κ.z 1, 6, .inr (.inl (vp_updL lo cnt x)))), (e3, .inl (κ.z 1, 6, .inr (.inl (vp_updL hi cnt y))))]
  refine v_aload_n X 0 d_E_enter_21 rfl ?_
  refine v_dup X d_E_enter_22 rfl ?_
  refine v_get X 0 0 rfl rfl li_E (by decide) m105 rfl d_E_enter_23 ?_
  show V κ 6 0 0 26 [(0, .ref e), (1, .int (nI i)), (2, .long x), (4, .long y)] [.int (nI cnt), .ref e] [(e, .inr (0, [.int (nI cnt), .ref e1, .ref e2, .ref e3, .long hl, .long hh])), (e1, .inl (κ.z 0, 6, .inl (aN (va_up nu cnt i)))), (e2, .inl (κ.z 1, 6, .inr (.inl (vp_updL lo cnt x)))), (e3, .inl (κ.z 1, 6, .inr (.inl (vp_updL hi cnt y))))]
  refine v_iconst X 1 d_E_enter_26 (by decide) ?_
  refine v_iaddN X (a := cnt) (b := 1) d_E_enter_27 ?_
  refine v_put X 0 0 (v := .int (nI (cnt + 1))) (ty := .int) ty_E tk_E n_E rfl rfl li_E (by decide) m105 rfl (by decide +kernel) rfl rfl (Nat.le_of_ble_eq_true rfl) d_E_enter_28 (ws' := [(e, .inr (0, [.int (nI (cnt + 1)), .ref e1, .ref e2, .ref e3, .long hl, .long hh])), (e1, .inl (κ.z 0, 6, .inl (aN (va_up nu cnt i)))), (e2, .inl (κ.z 1, 6, .inr (.inl (vp_updL lo cnt x)))), (e3, .inl (κ.z 1, 6, .inr (.inl (vp_updL hi cnt y))))]) rfl ?_
  exact v_vret X Y (by decide) (by decide) d_E_enter_31 ⟨rfl, rfl⟩

def arC (lo : Nat → Int64) (hi : Nat → Int64) (x : Int64) : Nat → Nat
  | 0 => 0
  | j + 1 => if x < (lo j) then (arC lo hi x j) else (if (hi j) < x then (arC lo hi x j) else ((arC lo hi x j) + 1))
theorem arC_le (lo : Nat → Int64) (hi : Nat → Int64) (x : Int64) : ∀ n : Nat, arC lo hi x n ≤ n
  | 0 => Nat.le_refl _
  | n + 1 => by
    have h9 := arC_le lo hi x n
    unfold arC
    try dsimp only
    repeat' split
    all_goals omega
set_option maxHeartbeats 4000000 in
set_option maxRecDepth 100000 in
theorem lp_around {κ : VC} (X : Cx κ b_E_intervalsAround R_E { frames := 0, cells := 0, slots := 0, locals := 0 } 5) (e : Nat) (e1 : Nat) (e2 : Nat) (e3 : Nat) (cnt : Nat) (hl : Int64) (hh : Int64) (nu : Nat → Nat) (lo : Nat → Int64) (hi : Nat → Int64) (x : Int64) (hc6 : cnt ≤ 6)  (kk : V κ 5 0 0 47 [(4, .int (nI cnt)), (3, .int (nI (arC lo hi x cnt))), (0, .ref e), (1, .long x)] [] [(e, .inr (0, [.int (nI cnt), .ref e1, .ref e2, .ref e3, .long hl, .long hh])), (e1, .inl (κ.z 0, 6, .inl (aN nu))), (e2, .inl (κ.z 1, 6, .inr (.inl lo))), (e3, .inl (κ.z 1, 6, .inr (.inl hi)))]) : ∀ (d9 j : Nat), j + d9 = cnt → V κ 5 0 0 5 [(4, .int (nI j)), (3, .int (nI (arC lo hi x j))), (0, .ref e), (1, .long x)] [] [(e, .inr (0, [.int (nI cnt), .ref e1, .ref e2, .ref e3, .long hl, .long hh])), (e1, .inl (κ.z 0, 6, .inl (aN nu))), (e2, .inl (κ.z 1, 6, .inr (.inl lo))), (e3, .inl (κ.z 1, 6, .inr (.inl hi)))] := by
  intro d9
  induction d9 with
  | zero =>
    intro j hj 
    have e9 : j = cnt := by omega
    rw [e9]
    show V κ 5 0 0 5 [(4, .int (nI cnt)), (3, .int (nI (arC lo hi x cnt))), (0, .ref e), (1, .long x)] [] [(e, .inr (0, [.int (nI cnt), .ref e1, .ref e2, .ref e3, .long hl, .long hh])), (e1, .inl (κ.z 0, 6, .inl (aN nu))), (e2, .inl (κ.z 1, 6, .inr (.inl lo))), (e3, .inl (κ.z 1, 6, .inr (.inl hi)))]
    refine v_iload X 0 d_E_intervalsAround_5 rfl ?_
    refine v_aload_n X 2 d_E_intervalsAround_7 rfl ?_
    refine v_get X 0 0 rfl rfl li_E (by decide) m105 rfl d_E_intervalsAround_8 ?_
    refine v_icmpN_ge X 47 (a := cnt) (b := cnt) d_E_intervalsAround_11 (by decide) (by omega) (by omega) (fun c11 => ?_) (fun c11 => by omega)
    exact kk
  | succ d9 ih =>
    intro j hj 
    show V κ 5 0 0 5 [(4, .int (nI j)), (3, .int (nI (arC lo hi x j))), (0, .ref e), (1, .long x)] [] [(e, .inr (0, [.int (nI cnt), .ref e1, .ref e2, .ref e3, .long hl, .long hh])), (e1, .inl (κ.z 0, 6, .inl (aN nu))), (e2, .inl (κ.z 1, 6, .inr (.inl lo))), (e3, .inl (κ.z 1, 6, .inr (.inl hi)))]
    refine v_iload X 0 d_E_intervalsAround_5 rfl ?_
    refine v_aload_n X 2 d_E_intervalsAround_7 rfl ?_
    refine v_get X 0 0 rfl rfl li_E (by decide) m105 rfl d_E_intervalsAround_8 ?_
    refine v_icmpN_ge X 47 (a := j) (b := cnt) d_E_intervalsAround_11 (by decide) (by omega) (by omega) (fun c11 => by omega) (fun c11 => ?_)
    refine v_aload_n X 2 d_E_intervalsAround_14 rfl ?_
    refine v_get X 0 2 rfl rfl li_E (by decide) m109 rfl d_E_intervalsAround_15 ?_
    refine v_iload X 0 d_E_intervalsAround_18 rfl ?_
    refine v_laldN X 2 1 (j := j) rfl rfl (by omega) (by omega) d_E_intervalsAround_20 ?_
    refine v_lload_n X 3 d_E_intervalsAround_21 rfl ?_
    suffices hm22 : V κ 5 0 0 41 [(4, .int (nI j)), (3, .int (nI (if x < (lo j) then (arC lo hi x j) else (if (hi j) < x then (arC lo hi x j) else ((arC lo hi x j) + 1))))), (0, .ref e), (1, .long x)] [] [(e, .inr (0, [.int (nI cnt), .ref e1, .ref e2, .ref e3, .long hl, .long hh])), (e1, .inl (κ.z 0, 6, .inl (aN nu))), (e2, .inl (κ.z 1, 6, .inr (.inl lo))), (e3, .inl (κ.z 1, 6, .inr (.inl hi)))] by
      refine v_lcmp_gt X 41 d_E_intervalsAround_22 d_E_intervalsAround_23 (by decide) (fun c22 => ?_) (fun c22 => ?_)
      · skip
        have h9 := hm22; simp only [if_pos c22] at h9; first | exact h9 | (simp only [if_pos c22]; exact h9)
      · skip
        refine v_lload_n X 3 d_E_intervalsAround_26 rfl ?_
        refine v_aload_n X 2 d_E_intervalsAround_27 rfl ?_
        refine v_get X 0 3 rfl rfl li_E (by decide) m110 rfl d_E_intervalsAround_28 ?_
        refine v_iload X 0 d_E_intervalsAround_31 rfl ?_
        refine v_laldN X 3 1 (j := j) rfl rfl (by omega) (by omega) d_E_intervalsAround_33 ?_
        suffices hm34 : V κ 5 0 0 41 [(4, .int (nI j)), (3, .int (nI (if (hi j) < x then (arC lo hi x j) else ((arC lo hi x j) + 1)))), (0, .ref e), (1, .long x)] [] [(e, .inr (0, [.int (nI cnt), .ref e1, .ref e2, .ref e3, .long hl, .long hh])), (e1, .inl (κ.z 0, 6, .inl (aN nu))), (e2, .inl (κ.z 1, 6, .inr (.inl lo))), (e3, .inl (κ.z 1, 6, .inr (.inl hi)))] by
          refine v_lcmp_gt X 41 d_E_intervalsAround_34 d_E_intervalsAround_35 (by decide) (fun c34 => ?_) (fun c34 => ?_)
          · skip
            have h9 := hm34; simp only [if_pos c34] at h9; first | exact h9 | (simp only [if_pos c34]; exact h9)
          · skip
            refine v_iinc X 1 d_E_intervalsAround_38 (x := nI (arC lo hi x j)) rfl (v := nI ((arC lo hi x j) + 1)) (nI_1 _) (by decide) (lv' := [(3, .int (nI ((arC lo hi x j) + 1))), (4, .int (nI j)), (0, .ref e), (1, .long x)]) rfl ?_
            refine v_lv [1, 0, 2, 3] rfl ?_
            have h9 := hm34; simp only [if_neg c34] at h9; first | exact h9 | (simp only [if_neg c34]; exact h9)
        have h9 := hm22; simp only [if_neg c22] at h9; first | exact h9 | (simp only [if_neg c22]; exact h9)
    refine v_iinc X 0 d_E_intervalsAround_41 (x := nI j) rfl (v := nI (j + 1)) (nI_1 _) (by decide) (lv' := [(4, .int (nI (j + 1))), (3, .int (nI (if x < (lo j) then (arC lo hi x j) else (if (hi j) < x then (arC lo hi x j) else ((arC lo hi x j) + 1))))), (0, .ref e), (1, .long x)]) rfl ?_
    refine v_goto X 5 d_E_intervalsAround_44 (by decide) ?_
    exact v_eq rfl (by rfl) rfl (by rfl) (ih (j + 1) (by omega))

set_option maxHeartbeats 4000000 in
set_option maxRecDepth 100000 in
theorem c_E_intervalsAround (l : Launch) (D : va_G) (z : Nat → ClassId) (e : Nat) (e1 : Nat) (e2 : Nat) (e3 : Nat) (cnt : Nat) (hl : Int64) (hh : Int64) (nu : Nat → Nat) (lo : Nat → Int64) (hi : Nat → Int64) (x : Int64) (hc6 : cnt ≤ 6) : Ctr l D z y_E_intervalsAround b_E_intervalsAround 5 (some .int) { frames := 0, cells := 0, slots := 0, locals := 0 } [.ref e, .long x] [(e, .inr (0, [.int (nI cnt), .ref e1, .ref e2, .ref e3, .long hl, .long hh])), (e1, .inl (z 0, 6, .inl (aN nu))), (e2, .inl (z 1, 6, .inr (.inl lo))), (e3, .inl (z 1, 6, .inr (.inl hi)))] (fun v w => v = some (.int (nI (arC lo hi x cnt))) ∧ w = [(e, .inr (0, [.int (nI cnt), .ref e1, .ref e2, .ref e3, .long hl, .long hh])), (e1, .inl (z 0, 6, .inl (aN nu))), (e2, .inl (z 1, 6, .inr (.inl lo))), (e3, .inl (z 1, 6, .inr (.inl hi)))]) 0 0 := by
  refine met_V (own := R_E) (nm := "intervalsAround") (by decide +kernel) rfl rfl (Nat.le_of_ble_eq_true rfl) ?_
  intro κ hl hD hz X Y
  subst hl
  subst hD
  subst hz
  show V κ 5 0 0 0 [(0, .ref e), (1, .long x)] [] [(e, .inr (0, [.int (nI cnt), .ref e1, .ref e2, .ref e3, .long hl, .long hh])), (e1, .inl (κ.z 0, 6, .inl (aN nu))), (e2, .inl (κ.z 1, 6, .inr (.inl lo))), (e3, .inl (κ.z 1, 6, .inr (.inl hi)))]
  refine v_iconst X 0 d_E_intervalsAround_0 (by decide) ?_
  refine v_istore_n X d_E_intervalsAround_1 rfl (by decide) (lv' := [(3, .int 0), (0, .ref e), (1, .long x)]) rfl ?_
  refine v_iconst X 0 d_E_intervalsAround_2 (by decide) ?_
  refine v_istore X d_E_intervalsAround_3 (by decide) (lv' := [(4, .int 0), (3, .int 0), (0, .ref e), (1, .long x)]) rfl ?_
  show V κ 5 0 0 5 [(4, .int (nI 0)), (3, .int (nI (arC lo hi x 0))), (0, .ref e), (1, .long x)] [] [(e, .inr (0, [.int (nI cnt), .ref e1, .ref e2, .ref e3, .long hl, .long hh])), (e1, .inl (κ.z 0, 6, .inl (aN nu))), (e2, .inl (κ.z 1, 6, .inr (.inl lo))), (e3, .inl (κ.z 1, 6, .inr (.inl hi)))]
  refine lp_around X e e1 e2 e3 cnt hl hh nu lo hi x (by omega)  ?_ (cnt - 0) 0 (by omega)
  show V κ 5 0 0 47 [(4, .int (nI cnt)), (3, .int (nI (arC lo hi x cnt))), (0, .ref e), (1, .long x)] [] [(e, .inr (0, [.int (nI cnt), .ref e1, .ref e2, .ref e3, .long hl, .long hh])), (e1, .inl (κ.z 0, 6, .inl (aN nu))), (e2, .inl (κ.z 1, 6, .inr (.inl lo))), (e3, .inl (κ.z 1, 6, .inr (.inl hi)))]
  refine v_iload_n X 1 d_E_intervalsAround_47 rfl ?_
  exact v_iret X Y (by decide) (by decide) d_E_intervalsAround_48 ⟨rfl, rfl⟩

def fhS (cnt : Nat) (lo : Nat → Int64) (hi : Nat → Int64) (nd : Nat) : Nat → Int64 × Int64
  | 0 => (9223372036854775807, (-9223372036854775808))
  | j + 1 => (if (arC lo hi (lo j) cnt) < nd then ((fhS cnt lo hi nd j).1) else f_J_min_JJ ((fhS cnt lo hi nd j).1) (lo j), if (arC lo hi (hi j) cnt) < nd then ((fhS cnt lo hi nd j).2) else f_J_max_JJ ((fhS cnt lo hi nd j).2) (hi j))
set_option maxHeartbeats 4000000 in
set_option maxRecDepth 100000 in
theorem lp_hullOf {κ : VC} (X : Cx κ b_E_findHullOf R_E { frames := 1, cells := 0, slots := 0, locals := 24 } 7) (e : Nat) (e1 : Nat) (e2 : Nat) (e3 : Nat) (cnt : Nat) (hl : Int64) (hh : Int64) (nu : Nat → Nat) (lo : Nat → Int64) (hi : Nat → Int64) (nd : Nat) (hc6 : cnt ≤ 6) (hn6 : nd ≤ 6)  (kk : V κ 7 0 0 83 [(6, .int (nI cnt)), (4, .long ((fhS cnt lo hi nd cnt).2)), (2, .long ((fhS cnt lo hi nd cnt).1)), (0, .ref e), (1, .int (nI nd))] [] [(e, .inr (0, [.int (nI cnt), .ref e1, .ref e2, .ref e3, .long hl, .long hh])), (e1, .inl (κ.z 0, 6, .inl (aN nu))), (e2, .inl (κ.z 1, 6, .inr (.inl lo))), (e3, .inl (κ.z 1, 6, .inr (.inl hi)))]) : ∀ (d9 j : Nat), j + d9 = cnt → V κ 7 0 0 12 [(6, .int (nI j)), (4, .long ((fhS cnt lo hi nd j).2)), (2, .long ((fhS cnt lo hi nd j).1)), (0, .ref e), (1, .int (nI nd))] [] [(e, .inr (0, [.int (nI cnt), .ref e1, .ref e2, .ref e3, .long hl, .long hh])), (e1, .inl (κ.z 0, 6, .inl (aN nu))), (e2, .inl (κ.z 1, 6, .inr (.inl lo))), (e3, .inl (κ.z 1, 6, .inr (.inl hi)))] := by
  intro d9
  induction d9 with
  | zero =>
    intro j hj 
    have e9 : j = cnt := by omega
    rw [e9]
    show V κ 7 0 0 12 [(6, .int (nI cnt)), (4, .long ((fhS cnt lo hi nd cnt).2)), (2, .long ((fhS cnt lo hi nd cnt).1)), (0, .ref e), (1, .int (nI nd))] [] [(e, .inr (0, [.int (nI cnt), .ref e1, .ref e2, .ref e3, .long hl, .long hh])), (e1, .inl (κ.z 0, 6, .inl (aN nu))), (e2, .inl (κ.z 1, 6, .inr (.inl lo))), (e3, .inl (κ.z 1, 6, .inr (.inl hi)))]
    refine v_iload X 0 d_E_findHullOf_12 rfl ?_
    refine v_aload_n X 3 d_E_findHullOf_14 rfl ?_
    refine v_get X 0 0 rfl rfl li_E (by decide) m105 rfl d_E_findHullOf_15 ?_
    refine v_icmpN_ge X 83 (a := cnt) (b := cnt) d_E_findHullOf_18 (by decide) (by omega) (by omega) (fun c18 => ?_) (fun c18 => by omega)
    exact kk
  | succ d9 ih =>
    intro j hj 
    have h8 := arC_le lo hi (lo j) cnt
    have h9 := arC_le lo hi (hi j) cnt
    show V κ 7 0 0 12 [(6, .int (nI j)), (4, .long ((fhS cnt lo hi nd j).2)), (2, .long ((fhS cnt lo hi nd j).1)), (0, .ref e), (1, .int (nI nd))] [] [(e, .inr (0, [.int (nI cnt), .ref e1, .ref e2, .ref e3, .long hl, .long hh])), (e1, .inl (κ.z 0, 6, .inl (aN nu))), (e2, .inl (κ.z 1, 6, .inr (.inl lo))), (e3, .inl (κ.z 1, 6, .inr (.inl hi)))]
    refine v_iload X 0 d_E_findHullOf_12 rfl ?_
    refine v_aload_n X 3 d_E_findHullOf_14 rfl ?_
    refine v_get X 0 0 rfl rfl li_E (by decide) m105 rfl d_E_findHullOf_15 ?_
    refine v_icmpN_ge X 83 (a := j) (b := cnt) d_E_findHullOf_18 (by decide) (by omega) (by omega) (fun c18 => by omega) (fun c18 => ?_)
    refine v_aload_n X 3 d_E_findHullOf_21 rfl ?_
    refine v_aload_n X 3 d_E_findHullOf_22 rfl ?_
    refine v_get X 0 2 rfl rfl li_E (by decide) m109 rfl d_E_findHullOf_23 ?_
    refine v_iload X 0 d_E_findHullOf_26 rfl ?_
    refine v_laldN X 2 1 (j := j) rfl rfl (by omega) (by omega) d_E_findHullOf_28 ?_
    refine v_callV X (b := e) (n9 := 1) (As := [.long (lo j)]) (rest := []) (wc := [(e, .inr (0, [.int (nI cnt), .ref e1, .ref e2, .ref e3, .long hl, .long hh])), (e1, .inl (κ.z 0, 6, .inl (aN nu))), (e2, .inl (κ.z 1, 6, .inr (.inl lo))), (e3, .inl (κ.z 1, 6, .inr (.inl hi)))]) (wr := []) (c_E_intervalsAround κ.l κ.D κ.z e e1 e2 e3 cnt hl hh nu lo hi (lo j) (by omega)) 0 rfl rfl m298 m299 m7 m34 (by decide +kernel) rfl (Nat.le_of_ble_eq_true rfl) ⟨by decide, by decide⟩ ⟨by decide, by decide⟩ rfl rfl m300 d_E_findHullOf_29 (fun v w1 hg => ?_)
    obtain ⟨rfl, rfl⟩ := hg
    show V κ 7 0 0 32 [(6, .int (nI j)), (4, .long ((fhS cnt lo hi nd j).2)), (2, .long ((fhS cnt lo hi nd j).1)), (0, .ref e), (1, .int (nI nd))] [.int (nI (arC lo hi (lo j) cnt))] [(e, .inr (0, [.int (nI cnt), .ref e1, .ref e2, .ref e3, .long hl, .long hh])), (e1, .inl (κ.z 0, 6, .inl (aN nu))), (e2, .inl (κ.z 1, 6, .inr (.inl lo))), (e3, .inl (κ.z 1, 6, .inr (.inl hi)))]
    refine v_iload_n X 4 d_E_findHullOf_32 rfl ?_
    suffices hm33 : V κ 7 0 0 48 [(6, .int (nI j)), (4, .long ((fhS cnt lo hi nd j).2)), (2, .long (if (arC lo hi (lo j) cnt) < nd then (fhS cnt lo hi nd j).1 else f_J_min_JJ ((fhS cnt lo hi nd j).1) (lo j))), (0, .ref e), (1, .int (nI nd))] [] [(e, .inr (0, [.int (nI cnt), .ref e1, .ref e2, .ref e3, .long hl, .long hh])), (e1, .inl (κ.z 0, 6, .inl (aN nu))), (e2, .inl (κ.z 1, 6, .inr (.inl lo))), (e3, .inl (κ.z 1, 6, .inr (.inl hi)))] by
      refine v_icmpN_lt X 48 (a := (arC lo hi (lo j) cnt)) (b := nd) d_E_findHullOf_33 (by decide) (by omega) (by omega) (fun c33 => ?_) (fun c33 => ?_)
      · skip
        have h9 := hm33; simp only [if_pos c33] at h9; first | exact h9 | (simp only [if_pos c33]; exact h9)
      · skip
        refine v_lload_n X 2 d_E_findHullOf_36 rfl ?_
        refine v_aload_n X 3 d_E_findHullOf_37 rfl ?_
        refine v_get X 0 2 rfl rfl li_E (by decide) m109 rfl d_E_findHullOf_38 ?_
        refine v_iload X 0 d_E_findHullOf_41 rfl ?_
        refine v_laldN X 2 1 (j := j) rfl rfl (by omega) (by omega) d_E_findHullOf_43 ?_
        refine v_callS X (n9 := 2) (As := [.long ((fhS cnt lo hi nd j).1), .long (lo j)]) (rest := []) (wc := []) (wr := [(e, .inr (0, [.int (nI cnt), .ref e1, .ref e2, .ref e3, .long hl, .long hh])), (e1, .inl (κ.z 0, 6, .inl (aN nu))), (e2, .inl (κ.z 1, 6, .inr (.inl lo))), (e3, .inl (κ.z 1, 6, .inr (.inl hi)))]) (c_J_min_JJ κ.l κ.D κ.z ((fhS cnt lo hi nd j).1) (lo j) ) m301 m302 m31 (by decide +kernel) rfl (Nat.le_of_ble_eq_true rfl) ⟨by decide, by decide⟩ ⟨by decide, by decide⟩ rfl rfl m303 d_E_findHullOf_44 (fun v w1 hg => ?_)
        obtain ⟨rfl, rfl⟩ := hg
        show V κ 7 0 0 47 [(6, .int (nI j)), (4, .long ((fhS cnt lo hi nd j).2)), (2, .long ((fhS cnt lo hi nd j).1)), (0, .ref e), (1, .int (nI nd))] [.long (f_J_min_JJ ((fhS cnt lo hi nd j).1) (lo j))] [(e, .inr (0, [.int (nI cnt), .ref e1, .ref e2, .ref e3, .long hl, .long hh])), (e1, .inl (κ.z 0, 6, .inl (aN nu))), (e2, .inl (κ.z 1, 6, .inr (.inl lo))), (e3, .inl (κ.z 1, 6, .inr (.inl hi)))]
        refine v_lstore_n X d_E_findHullOf_47 rfl (by decide) (lv' := [(2, .long (f_J_min_JJ ((fhS cnt lo hi nd j).1) (lo j))), (6, .int (nI j)), (4, .long ((fhS cnt lo hi nd j).2)), (0, .ref e), (1, .int (nI nd))]) rfl ?_
        refine v_lv [1, 2, 0, 3, 4] rfl ?_
        have h9 := hm33; simp only [if_neg c33] at h9; first | exact h9 | (simp only [if_neg c33]; exact h9)
    refine v_aload_n X 3 d_E_findHullOf_48 rfl ?_
    refine v_aload_n X 3 d_E_findHullOf_49 rfl ?_
    show V κ 7 0 0 50 [(6, .int (nI j)), (4, .long ((fhS cnt lo hi nd j).2)), (2, .long (if (arC lo hi (lo j) cnt) < nd then (fhS cnt lo hi nd j).1 else f_J_min_JJ ((fhS cnt lo hi nd j).1) (lo j))), (0, .ref e), (1, .int (nI nd))] [.ref e, .ref e] [(e, .inr (0, [.int (nI cnt), .ref e1, .ref e2, .ref e3, .long hl, .long hh])), (e1, .inl (κ.z 0, 6, .inl (aN nu))), (e2, .inl (κ.z 1, 6, .inr (.inl lo))), (e3, .inl (κ.z 1, 6, .inr (.inl hi)))]
    refine v_get X 0 3 rfl rfl li_E (by decide) m110 rfl d_E_findHullOf_50 ?_
    refine v_iload X 0 d_E_findHullOf_53 rfl ?_
    refine v_laldN X 3 1 (j := j) rfl rfl (by omega) (by omega) d_E_findHullOf_55 ?_
    refine v_callV X (b := e) (n9 := 1) (As := [.long (hi j)]) (rest := []) (wc := [(e, .inr (0, [.int (nI cnt), .ref e1, .ref e2, .ref e3, .long hl, .long hh])), (e1, .inl (κ.z 0, 6, .inl (aN nu))), (e2, .inl (κ.z 1, 6, .inr (.inl lo))), (e3, .inl (κ.z 1, 6, .inr (.inl hi)))]) (wr := []) (c_E_intervalsAround κ.l κ.D κ.z e e1 e2 e3 cnt hl hh nu lo hi (hi j) (by omega)) 0 rfl rfl m298 m299 m7 m34 (by decide +kernel) rfl (Nat.le_of_ble_eq_true rfl) ⟨by decide, by decide⟩ ⟨by decide, by decide⟩ rfl rfl m300 d_E_findHullOf_56 (fun v w1 hg => ?_)
    obtain ⟨rfl, rfl⟩ := hg
    show V κ 7 0 0 59 [(6, .int (nI j)), (4, .long ((fhS cnt lo hi nd j).2)), (2, .long (if (arC lo hi (lo j) cnt) < nd then (fhS cnt lo hi nd j).1 else f_J_min_JJ ((fhS cnt lo hi nd j).1) (lo j))), (0, .ref e), (1, .int (nI nd))] [.int (nI (arC lo hi (hi j) cnt))] [(e, .inr (0, [.int (nI cnt), .ref e1, .ref e2, .ref e3, .long hl, .long hh])), (e1, .inl (κ.z 0, 6, .inl (aN nu))), (e2, .inl (κ.z 1, 6, .inr (.inl lo))), (e3, .inl (κ.z 1, 6, .inr (.inl hi)))]
    refine v_iload_n X 4 d_E_findHullOf_59 rfl ?_
    suffices hm60 : V κ 7 0 0 77 [(6, .int (nI j)), (4, .long (if (arC lo hi (hi j) cnt) < nd then (fhS cnt lo hi nd j).2 else f_J_max_JJ ((fhS cnt lo hi nd j).2) (hi j))), (2, .long (if (arC lo hi (lo j) cnt) < nd then (fhS cnt lo hi nd j).1 else f_J_min_JJ ((fhS cnt lo hi nd j).1) (lo j))), (0, .ref e), (1, .int (nI nd))] [] [(e, .inr (0, [.int (nI cnt), .ref e1, .ref e2, .ref e3, .long hl, .long hh])), (e1, .inl (κ.z 0, 6, .inl (aN nu))), (e2, .inl (κ.z 1, 6, .inr (.inl lo))), (e3, .inl (κ.z 1, 6, .inr (.inl hi)))] by
      refine v_icmpN_lt X 77 (a := (arC lo hi (hi j) cnt)) (b := nd) d_E_findHullOf_60 (by decide) (by omega) (by omega) (fun c60 => ?_) (fun c60 => ?_)
      · skip
        have h9 := hm60; simp only [if_pos c60] at h9; first | exact h9 | (simp only [if_pos c60]; exact h9)
      · skip
        refine v_lload X 1 d_E_findHullOf_63 rfl ?_
        refine v_aload_n X 3 d_E_findHullOf_65 rfl ?_
        refine v_get X 0 3 rfl rfl li_E (by decide) m110 rfl d_E_findHullOf_66 ?_
        refine v_iload X 0 d_E_findHullOf_69 rfl ?_
        refine v_laldN X 3 1 (j := j) rfl rfl (by omega) (by omega) d_E_findHullOf_71 ?_
        refine v_callS X (n9 := 2) (As := [.long ((fhS cnt lo hi nd j).2), .long (hi j)]) (rest := []) (wc := []) (wr := [(e, .inr (0, [.int (nI cnt), .ref e1, .ref e2, .ref e3, .long hl, .long hh])), (e1, .inl (κ.z 0, 6, .inl (aN nu))), (e2, .inl (κ.z 1, 6, .inr (.inl lo))), (e3, .inl (κ.z 1, 6, .inr (.inl hi)))]) (c_J_max_JJ κ.l κ.D κ.z ((fhS cnt lo hi nd j).2) (hi j) ) m304 m199 m31 (by decide +kernel) rfl (Nat.le_of_ble_eq_true rfl) ⟨by decide, by decide⟩ ⟨by decide, by decide⟩ rfl rfl m200 d_E_findHullOf_72 (fun v w1 hg => ?_)
        obtain ⟨rfl, rfl⟩ := hg
        show V κ 7 0 0 75 [(6, .int (nI j)), (4, .long ((fhS cnt lo hi nd j).2)), (2, .long (if (arC lo hi (lo j) cnt) < nd then (fhS cnt lo hi nd j).1 else f_J_min_JJ ((fhS cnt lo hi nd j).1) (lo j))), (0, .ref e), (1, .int (nI nd))] [.long (f_J_max_JJ ((fhS cnt lo hi nd j).2) (hi j))] [(e, .inr (0, [.int (nI cnt), .ref e1, .ref e2, .ref e3, .long hl, .long hh])), (e1, .inl (κ.z 0, 6, .inl (aN nu))), (e2, .inl (κ.z 1, 6, .inr (.inl lo))), (e3, .inl (κ.z 1, 6, .inr (.inl hi)))]
        refine v_lstore X d_E_findHullOf_75 (by decide) (lv' := [(4, .long (f_J_max_JJ ((fhS cnt lo hi nd j).2) (hi j))), (6, .int (nI j)), (2, .long (if (arC lo hi (lo j) cnt) < nd then (fhS cnt lo hi nd j).1 else f_J_min_JJ ((fhS cnt lo hi nd j).1) (lo j))), (0, .ref e), (1, .int (nI nd))]) rfl ?_
        refine v_lv [1, 0, 2, 3, 4] rfl ?_
        have h9 := hm60; simp only [if_neg c60] at h9; first | exact h9 | (simp only [if_neg c60]; exact h9)
    refine v_iinc X 0 d_E_findHullOf_77 (x := nI j) rfl (v := nI (j + 1)) (nI_1 _) (by decide) (lv' := [(6, .int (nI (j + 1))), (4, .long (if (arC lo hi (hi j) cnt) < nd then (fhS cnt lo hi nd j).2 else f_J_max_JJ ((fhS cnt lo hi nd j).2) (hi j))), (2, .long (if (arC lo hi (lo j) cnt) < nd then (fhS cnt lo hi nd j).1 else f_J_min_JJ ((fhS cnt lo hi nd j).1) (lo j))), (0, .ref e), (1, .int (nI nd))]) rfl ?_
    refine v_goto X 12 d_E_findHullOf_80 (by decide) ?_
    exact v_eq rfl (by rfl) rfl (by rfl) (ih (j + 1) (by omega))

def f_E_findHullOf (cnt : Nat) (lo : Nat → Int64) (hi : Nat → Int64) (nd : Nat) : Bool := if ((fhS cnt lo hi nd cnt).1) ≤ ((fhS cnt lo hi nd cnt).2) then true else false
def f_E_findHullOf_hullLow (cnt : Nat) (hl : Int64) (lo : Nat → Int64) (hi : Nat → Int64) (nd : Nat) : Int64 := if ((fhS cnt lo hi nd cnt).1) ≤ ((fhS cnt lo hi nd cnt).2) then (fhS cnt lo hi nd cnt).1 else hl
def f_E_findHullOf_hullHigh (cnt : Nat) (hh : Int64) (lo : Nat → Int64) (hi : Nat → Int64) (nd : Nat) : Int64 := if ((fhS cnt lo hi nd cnt).1) ≤ ((fhS cnt lo hi nd cnt).2) then (fhS cnt lo hi nd cnt).2 else hh
set_option maxHeartbeats 4000000 in
set_option maxRecDepth 100000 in
theorem c_E_findHullOf (l : Launch) (D : va_G) (z : Nat → ClassId) (e : Nat) (e1 : Nat) (e2 : Nat) (e3 : Nat) (cnt : Nat) (hl : Int64) (hh : Int64) (nu : Nat → Nat) (lo : Nat → Int64) (hi : Nat → Int64) (nd : Nat) (hc6 : cnt ≤ 6) (hn6 : nd ≤ 6) : Ctr l D z y_E_findHullOf b_E_findHullOf 7 (some .boolean) { frames := 1, cells := 0, slots := 0, locals := 24 } [.ref e, .int (nI nd)] [(e, .inr (0, [.int (nI cnt), .ref e1, .ref e2, .ref e3, .long hl, .long hh])), (e1, .inl (z 0, 6, .inl (aN nu))), (e2, .inl (z 1, 6, .inr (.inl lo))), (e3, .inl (z 1, 6, .inr (.inl hi)))] (fun v w => v = some (.int (bI (f_E_findHullOf cnt lo hi nd))) ∧ w = [(e, .inr (0, [.int (nI cnt), .ref e1, .ref e2, .ref e3, .long (f_E_findHullOf_hullLow cnt hl lo hi nd), .long (f_E_findHullOf_hullHigh cnt hh lo hi nd)])), (e1, .inl (z 0, 6, .inl (aN nu))), (e2, .inl (z 1, 6, .inr (.inl lo))), (e3, .inl (z 1, 6, .inr (.inl hi)))]) 0 0 := by
  refine met_V (own := R_E) (nm := "findHullOf") (by decide +kernel) rfl rfl (Nat.le_of_ble_eq_true rfl) ?_
  intro κ hl hD hz X Y
  subst hl
  subst hD
  subst hz
  show V κ 7 0 0 0 [(0, .ref e), (1, .int (nI nd))] [] [(e, .inr (0, [.int (nI cnt), .ref e1, .ref e2, .ref e3, .long hl, .long hh])), (e1, .inl (κ.z 0, 6, .inl (aN nu))), (e2, .inl (κ.z 1, 6, .inr (.inl lo))), (e3, .inl (κ.z 1, 6, .inr (.inl hi)))]
  refine v_ldc2 X (v := 9223372036854775807) m296 d_E_findHullOf_0 ?_
  refine v_lstore_n X d_E_findHullOf_3 rfl (by decide) (lv' := [(2, .long 9223372036854775807), (0, .ref e), (1, .int (nI nd))]) rfl ?_
  refine v_ldc2 X (v := (-9223372036854775808)) m297 d_E_findHullOf_4 ?_
  refine v_lstore X d_E_findHullOf_7 (by decide) (lv' := [(4, .long (-9223372036854775808)), (2, .long 9223372036854775807), (0, .ref e), (1, .int (nI nd))]) rfl ?_
  refine v_iconst X 0 d_E_findHullOf_9 (by decide) ?_
  refine v_istore X d_E_findHullOf_10 (by decide) (lv' := [(6, .int 0), (4, .long (-9223372036854775808)), (2, .long 9223372036854775807), (0, .ref e), (1, .int (nI nd))]) rfl ?_
  show V κ 7 0 0 12 [(6, .int (nI 0)), (4, .long ((fhS cnt lo hi nd 0).2)), (2, .long ((fhS cnt lo hi nd 0).1)), (0, .ref e), (1, .int (nI nd))] [] [(e, .inr (0, [.int (nI cnt), .ref e1, .ref e2, .ref e3, .long hl, .long hh])), (e1, .inl (κ.z 0, 6, .inl (aN nu))), (e2, .inl (κ.z 1, 6, .inr (.inl lo))), (e3, .inl (κ.z 1, 6, .inr (.inl hi)))]
  refine lp_hullOf X e e1 e2 e3 cnt hl hh nu lo hi nd (by omega) (by omega)  ?_ (cnt - 0) 0 (by omega)
  show V κ 7 0 0 83 [(6, .int (nI cnt)), (4, .long ((fhS cnt lo hi nd cnt).2)), (2, .long ((fhS cnt lo hi nd cnt).1)), (0, .ref e), (1, .int (nI nd))] [] [(e, .inr (0, [.int (nI cnt), .ref e1, .ref e2, .ref e3, .long hl, .long hh])), (e1, .inl (κ.z 0, 6, .inl (aN nu))), (e2, .inl (κ.z 1, 6, .inr (.inl lo))), (e3, .inl (κ.z 1, 6, .inr (.inl hi)))]
  refine v_lload_n X 2 d_E_findHullOf_83 rfl ?_
  refine v_lload X 1 d_E_findHullOf_84 rfl ?_
  refine v_lcmp_le X 92 d_E_findHullOf_86 d_E_findHullOf_87 (by decide) (fun c86 => ?_) (fun c86 => ?_)
  · skip
    refine v_aload_n X 3 d_E_findHullOf_92 rfl ?_
    refine v_lload_n X 2 d_E_findHullOf_93 rfl ?_
    refine v_put X 0 4 (v := .long ((fhS cnt lo hi nd cnt).1)) (ty := .long) ty_E tk_E n_E rfl rfl li_E (by decide) m112 rfl (by decide +kernel) rfl rfl (Nat.le_of_ble_eq_true rfl) d_E_findHullOf_94 (ws' := [(e, .inr (0, [.int (nI cnt), .ref e1, .ref e2, .ref e3, .long ((fhS cnt lo hi nd cnt).1), .long hh])), (e1, .inl (κ.z 0, 6, .inl (aN nu))), (e2, .inl (κ.z 1, 6, .inr (.inl lo))), (e3, .inl (κ.z 1, 6, .inr (.inl hi)))]) rfl ?_
    refine v_aload_n X 3 d_E_findHullOf_97 rfl ?_
    refine v_lload X 1 d_E_findHullOf_98 rfl ?_
    refine v_put X 0 5 (v := .long ((fhS cnt lo hi nd cnt).2)) (ty := .long) ty_E tk_E n_E rfl rfl li_E (by decide) m114 rfl (by decide +kernel) rfl rfl (Nat.le_of_ble_eq_true rfl) d_E_findHullOf_100 (ws' := [(e, .inr (0, [.int (nI cnt), .ref e1, .ref e2, .ref e3, .long ((fhS cnt lo hi nd cnt).1), .long ((fhS cnt lo hi nd cnt).2)])), (e1, .inl (κ.z 0, 6, .inl (aN nu))), (e2, .inl (κ.z 1, 6, .inr (.inl lo))), (e3, .inl (κ.z 1, 6, .inr (.inl hi)))]) rfl ?_
    refine v_iconst X 1 d_E_findHullOf_103 (by decide) ?_
    exact v_zret X Y (by decide) (by decide) d_E_findHullOf_104 rfl ⟨by simp only [f_E_findHullOf, f_E_findHullOf_hullLow, f_E_findHullOf_hullHigh, if_pos c86] <;> rfl, by simp only [f_E_findHullOf, f_E_findHullOf_hullLow, f_E_findHullOf_hullHigh, if_pos c86] <;> rfl⟩
  · skip
    refine v_iconst X 0 d_E_findHullOf_90 (by decide) ?_
    exact v_zret X Y (by decide) (by decide) d_E_findHullOf_91 rfl ⟨by simp only [f_E_findHullOf, f_E_findHullOf_hullLow, f_E_findHullOf_hullHigh, if_neg c86] <;> rfl, by simp only [f_E_findHullOf, f_E_findHullOf_hullLow, f_E_findHullOf_hullHigh, if_neg c86] <;> rfl⟩

/-- the first of j, j + 1 .. that is right, or the one behind the last of d -/
def fst9 (ok : Nat → Bool) : Nat → Nat → Nat
  | 0, j => j
  | d + 1, j => if ok j = true then j else fst9 ok d (j + 1)
theorem fst9_le (ok : Nat → Bool) : ∀ d j, fst9 ok d j ≤ j + d
  | 0, j => Nat.le_refl _
  | d + 1, j => by
    have h9 := fst9_le ok d (j + 1)
    unfold fst9
    split <;> omega
theorem fst9_ge (ok : Nat → Bool) : ∀ d j, j ≤ fst9 ok d j
  | 0, j => Nat.le_refl _
  | d + 1, j => by
    have h9 := fst9_ge ok d (j + 1)
    unfold fst9
    split <;> omega
def fhF (cnt : Nat) (lo hi : Nat → Int64) : Nat := fst9 (fun i => f_E_findHullOf cnt lo hi (cnt - i)) ((cnt + 1) / 2) 0
def fhH (cnt : Nat) (hl : Int64) (lo hi : Nat → Int64) : Int64 := if (fhF cnt lo hi) < (cnt + 1) / 2 then (fhS cnt lo hi (cnt - (fhF cnt lo hi)) cnt).1 else hl
def fhK (cnt : Nat) (hh : Int64) (lo hi : Nat → Int64) : Int64 := if (fhF cnt lo hi) < (cnt + 1) / 2 then (fhS cnt lo hi (cnt - (fhF cnt lo hi)) cnt).2 else hh
theorem of_okt {cnt : Nat} {lo hi : Nat → Int64} {nd : Nat} (h : f_E_findHullOf cnt lo hi nd = true) : (fhS cnt lo hi nd cnt).1 ≤ (fhS cnt lo hi nd cnt).2 := by
  by_cases c : (fhS cnt lo hi nd cnt).1 ≤ (fhS cnt lo hi nd cnt).2
  · exact c
  · simp [f_E_findHullOf, c] at h
theorem of_okf {cnt : Nat} {lo hi : Nat → Int64} {nd : Nat} (h : ¬ f_E_findHullOf cnt lo hi nd = true) : ¬ (fhS cnt lo hi nd cnt).1 ≤ (fhS cnt lo hi nd cnt).2 := by
  intro c
  simp [f_E_findHullOf, c] at h
set_option maxHeartbeats 4000000 in
set_option maxRecDepth 100000 in
theorem lp_hull {κ : VC} (X : Cx κ b_E_findHull R_E { frames := 2, cells := 0, slots := 0, locals := 50 } 2) (e : Nat) (e1 : Nat) (e2 : Nat) (e3 : Nat) (cnt : Nat) (hl : Int64) (hh : Int64) (nu : Nat → Nat) (lo : Nat → Int64) (hi : Nat → Int64) (hc6 : cnt ≤ 6) (Y : Rx κ "findHull" (some .boolean) (fun v w => v = some (.int (bI (decide (fhF cnt lo hi < (cnt + 1) / 2)))) ∧ w = [(e, .inr (0, [.int (nI cnt), .ref e1, .ref e2, .ref e3, .long (fhH cnt hl lo hi), .long (fhK cnt hh lo hi)])), (e1, .inl (κ.z 0, 6, .inl (aN nu))), (e2, .inl (κ.z 1, 6, .inr (.inl lo))), (e3, .inl (κ.z 1, 6, .inr (.inl hi)))]) 0 0)  : ∀ (d9 j : Nat), j + d9 = (cnt + 1) / 2 → fst9 (fun i => f_E_findHullOf cnt lo hi (cnt - i)) d9 j = fhF cnt lo hi → V κ 2 0 0 2 [(1, .int (nI j)), (0, .ref e)] [] [(e, .inr (0, [.int (nI cnt), .ref e1, .ref e2, .ref e3, .long hl, .long hh])), (e1, .inl (κ.z 0, 6, .inl (aN nu))), (e2, .inl (κ.z 1, 6, .inr (.inl lo))), (e3, .inl (κ.z 1, 6, .inr (.inl hi)))] := by
  intro d9
  induction d9 with
  | zero =>
    intro j hj hr
    have e9 : j = (cnt + 1) / 2 := by omega
    rw [e9]
    rw [e9] at hr
    show V κ 2 0 0 2 [(1, .int (nI ((cnt + 1) / 2))), (0, .ref e)] [] [(e, .inr (0, [.int (nI cnt), .ref e1, .ref e2, .ref e3, .long hl, .long hh])), (e1, .inl (κ.z 0, 6, .inl (aN nu))), (e2, .inl (κ.z 1, 6, .inr (.inl lo))), (e3, .inl (κ.z 1, 6, .inr (.inl hi)))]
    refine v_iconst X 2 d_E_findHull_2 (by decide) ?_
    refine v_iload_n X 0 d_E_findHull_3 rfl ?_
    refine v_imulN X (a := 2) (b := ((cnt + 1) / 2)) d_E_findHull_4 ?_
    refine v_aload_n X 1 d_E_findHull_5 rfl ?_
    refine v_get X 0 0 rfl rfl li_E (by decide) m105 rfl d_E_findHull_6 ?_
    refine v_icmpN_ge X 33 (a := (2 * ((cnt + 1) / 2))) (b := cnt) d_E_findHull_9 (by decide) (by omega) (by omega) (fun c9 => ?_) (fun c9 => by omega)
    refine v_iconst X 0 d_E_findHull_33 (by decide) ?_
    exact v_zret X Y (by decide) (by decide) d_E_findHull_34 rfl ⟨by rw [show decide (fhF cnt lo hi < (cnt + 1) / 2) = false by have e8 : fhF cnt lo hi = (cnt + 1) / 2 := hr.symm; rw [e8]; simp]; rfl, by simp only [fhH, fhK, show ¬ fhF cnt lo hi < (cnt + 1) / 2 by have e8 : fhF cnt lo hi = (cnt + 1) / 2 := hr.symm; omega, if_false]⟩
  | succ d9 ih =>
    intro j hj hr
    show V κ 2 0 0 2 [(1, .int (nI j)), (0, .ref e)] [] [(e, .inr (0, [.int (nI cnt), .ref e1, .ref e2, .ref e3, .long hl, .long hh])), (e1, .inl (κ.z 0, 6, .inl (aN nu))), (e2, .inl (κ.z 1, 6, .inr (.inl lo))), (e3, .inl (κ.z 1, 6, .inr (.inl hi)))]
    refine v_iconst X 2 d_E_findHull_2 (by decide) ?_
    refine v_iload_n X 0 d_E_findHull_3 rfl ?_
    refine v_imulN X (a := 2) (b := j) d_E_findHull_4 ?_
    refine v_aload_n X 1 d_E_findHull_5 rfl ?_
    refine v_get X 0 0 rfl rfl li_E (by decide) m105 rfl d_E_findHull_6 ?_
    refine v_icmpN_ge X 33 (a := (2 * j)) (b := cnt) d_E_findHull_9 (by decide) (by omega) (by omega) (fun c9 => by omega) (fun c9 => ?_)
    refine v_aload_n X 1 d_E_findHull_12 rfl ?_
    refine v_aload_n X 1 d_E_findHull_13 rfl ?_
    refine v_get X 0 0 rfl rfl li_E (by decide) m105 rfl d_E_findHull_14 ?_
    refine v_iload_n X 0 d_E_findHull_17 rfl ?_
    refine v_isubN X (a := cnt) (b := j) d_E_findHull_18 (by omega) ?_
    refine v_callV X (b := e) (n9 := 1) (As := [.int (nI (cnt - j))]) (rest := []) (wc := [(e, .inr (0, [.int (nI cnt), .ref e1, .ref e2, .ref e3, .long hl, .long hh])), (e1, .inl (κ.z 0, 6, .inl (aN nu))), (e2, .inl (κ.z 1, 6, .inr (.inl lo))), (e3, .inl (κ.z 1, 6, .inr (.inl hi)))]) (wr := []) (c_E_findHullOf κ.l κ.D κ.z e e1 e2 e3 cnt hl hh nu lo hi (cnt - j) (by omega) (by omega)) 0 rfl rfl m293 m294 m6 m34 (by decide +kernel) rfl (Nat.le_of_ble_eq_true rfl) ⟨by decide, by decide⟩ ⟨by decide, by decide⟩ rfl rfl m295 d_E_findHull_19 (fun v w1 hg => ?_)
    obtain ⟨rfl, rfl⟩ := hg
    show V κ 2 0 0 22 [(1, .int (nI j)), (0, .ref e)] [.int (bI (f_E_findHullOf cnt lo hi (cnt - j)))] [(e, .inr (0, [.int (nI cnt), .ref e1, .ref e2, .ref e3, .long (f_E_findHullOf_hullLow cnt hl lo hi (cnt - j)), .long (f_E_findHullOf_hullHigh cnt hh lo hi (cnt - j))])), (e1, .inl (κ.z 0, 6, .inl (aN nu))), (e2, .inl (κ.z 1, 6, .inr (.inl lo))), (e3, .inl (κ.z 1, 6, .inr (.inl hi)))]
    refine v_ifB_eq X 27 (t := f_E_findHullOf cnt lo hi (cnt - j)) d_E_findHull_22 (by decide) (fun c22 => ?_) (fun c22 => ?_)
    · skip
      refine v_iinc X 0 d_E_findHull_27 (x := nI j) rfl (v := nI (j + 1)) (nI_1 _) (by decide) (lv' := [(1, .int (nI (j + 1))), (0, .ref e)]) rfl ?_
      refine v_goto X 2 d_E_findHull_30 (by decide) ?_
      exact v_eq rfl (by rfl) rfl (by simp only [f_E_findHullOf_hullLow, f_E_findHullOf_hullHigh, if_neg (of_okf c22)]) (ih (j + 1) (by omega) (by rw [← hr]; conv => rhs; unfold fst9; rw [if_neg c22]))
    · skip
      refine v_iconst X 1 d_E_findHull_25 (by decide) ?_
      have e8 : j = fhF cnt lo hi := by rw [← hr]; unfold fst9; rw [if_pos c22]
      have e7 := of_okt c22
      exact v_zret X Y (by decide) (by decide) d_E_findHull_26 rfl ⟨by rw [show decide (fhF cnt lo hi < (cnt + 1) / 2) = true by rw [← e8]; simp; omega]; rfl, by simp only [fhH, fhK, ← e8, show j < (cnt + 1) / 2 by omega, if_true, f_E_findHullOf_hullLow, f_E_findHullOf_hullHigh, if_pos e7]⟩

set_option maxHeartbeats 4000000 in
set_option maxRecDepth 100000 in
theorem c_E_findHull (l : Launch) (D : va_G) (z : Nat → ClassId) (e : Nat) (e1 : Nat) (e2 : Nat) (e3 : Nat) (cnt : Nat) (hl : Int64) (hh : Int64) (nu : Nat → Nat) (lo : Nat → Int64) (hi : Nat → Int64) (hc6 : cnt ≤ 6) : Ctr l D z y_E_findHull b_E_findHull 2 (some .boolean) { frames := 2, cells := 0, slots := 0, locals := 50 } [.ref e] [(e, .inr (0, [.int (nI cnt), .ref e1, .ref e2, .ref e3, .long hl, .long hh])), (e1, .inl (z 0, 6, .inl (aN nu))), (e2, .inl (z 1, 6, .inr (.inl lo))), (e3, .inl (z 1, 6, .inr (.inl hi)))] (fun v w => v = some (.int (bI (decide (fhF cnt lo hi < (cnt + 1) / 2)))) ∧ w = [(e, .inr (0, [.int (nI cnt), .ref e1, .ref e2, .ref e3, .long (fhH cnt hl lo hi), .long (fhK cnt hh lo hi)])), (e1, .inl (z 0, 6, .inl (aN nu))), (e2, .inl (z 1, 6, .inr (.inl lo))), (e3, .inl (z 1, 6, .inr (.inl hi)))]) 0 0 := by
  refine met_V (own := R_E) (nm := "findHull") (by decide +kernel) rfl rfl (Nat.le_of_ble_eq_true rfl) ?_
  intro κ hl hD hz X Y
  subst hl
  subst hD
  subst hz
  show V κ 2 0 0 0 [(0, .ref e)] [] [(e, .inr (0, [.int (nI cnt), .ref e1, .ref e2, .ref e3, .long hl, .long hh])), (e1, .inl (κ.z 0, 6, .inl (aN nu))), (e2, .inl (κ.z 1, 6, .inr (.inl lo))), (e3, .inl (κ.z 1, 6, .inr (.inl hi)))]
  refine v_iconst X 0 d_E_findHull_0 (by decide) ?_
  refine v_istore_n X d_E_findHull_1 rfl (by decide) (lv' := [(1, .int 0), (0, .ref e)]) rfl ?_
  refine v_lv [0, 1] rfl ?_
  exact lp_hull X e e1 e2 e3 cnt hl hh nu lo hi hc6 Y ((cnt + 1) / 2) 0 (by omega) rfl

def kpS (hl : Int64) (hh : Int64) (nu : Nat → Nat) (lo : Nat → Int64) (hi : Nat → Int64) : Nat → Nat × (Nat → Nat) × (Nat → Int64) × (Nat → Int64)
  | 0 => (0, nu, lo, hi)
  | j + 1 => (if hh < (((kpS hl hh nu lo hi j).2.2.1) j) then ((kpS hl hh nu lo hi j).1) else (if (((kpS hl hh nu lo hi j).2.2.2) j) < hl then ((kpS hl hh nu lo hi j).1) else (((kpS hl hh nu lo hi j).1) + 1)), if hh < (((kpS hl hh nu lo hi j).2.2.1) j) then ((kpS hl hh nu lo hi j).2.1) else if (((kpS hl hh nu lo hi j).2.2.2) j) < hl then ((kpS hl hh nu lo hi j).2.1) else va_up ((kpS hl hh nu lo hi j).2.1) ((kpS hl hh nu lo hi j).1) (((kpS hl hh nu lo hi j).2.1) j), if hh < (((kpS hl hh nu lo hi j).2.2.1) j) then ((kpS hl hh nu lo hi j).2.2.1) else if (((kpS hl hh nu lo hi j).2.2.2) j) < hl then ((kpS hl hh nu lo hi j).2.2.1) else vp_updL ((kpS hl hh nu lo hi j).2.2.1) ((kpS hl hh nu lo hi j).1) (((kpS hl hh nu lo hi j).2.2.1) j), if hh < (((kpS hl hh nu lo hi j).2.2.1) j) then ((kpS hl hh nu lo hi j).2.2.2) else if (((kpS hl hh nu lo hi j).2.2.2) j) < hl then ((kpS hl hh nu lo hi j).2.2.2) else vp_updL ((kpS hl hh nu lo hi j).2.2.2) ((kpS hl hh nu lo hi j).1) (((kpS hl hh nu lo hi j).2.2.2) j))
theorem kpS_le (hl : Int64) (hh : Int64) (nu : Nat → Nat) (lo : Nat → Int64) (hi : Nat → Int64) : ∀ n : Nat, (kpS hl hh nu lo hi n).1 ≤ n
  | 0 => Nat.le_refl _
  | n + 1 => by
    have h9 := kpS_le hl hh nu lo hi n
    unfold kpS
    try dsimp only
    repeat' split
    all_goals omega
set_option maxHeartbeats 4000000 in
set_option maxRecDepth 100000 in
theorem lp_keep {κ : VC} (X : Cx κ b_E_keepThoseAtHull R_E { frames := 1, cells := 0, slots := 0, locals := 26 } 3) (e : Nat) (e1 : Nat) (e2 : Nat) (e3 : Nat) (cnt : Nat) (hl : Int64) (hh : Int64) (nu : Nat → Nat) (lo : Nat → Int64) (hi : Nat → Int64) (hc6 : cnt ≤ 6)  (kk : V κ 3 0 0 72 [(2, .int (nI cnt)), (1, .int (nI ((kpS hl hh nu lo hi cnt).1))), (0, .ref e)] [] [(e, .inr (0, [.int (nI cnt), .ref e1, .ref e2, .ref e3, .long hl, .long hh])), (e1, .inl (κ.z 0, 6, .inl (aN ((kpS hl hh nu lo hi cnt).2.1)))), (e2, .inl (κ.z 1, 6, .inr (.inl ((kpS hl hh nu lo hi cnt).2.2.1)))), (e3, .inl (κ.z 1, 6, .inr (.inl ((kpS hl hh nu lo hi cnt).2.2.2))))]) : ∀ (d9 j : Nat), j + d9 = cnt → V κ 3 0 0 4 [(2, .int (nI j)), (1, .int (nI ((kpS hl hh nu lo hi j).1))), (0, .ref e)] [] [(e, .inr (0, [.int (nI cnt), .ref e1, .ref e2, .ref e3, .long hl, .long hh])), (e1, .inl (κ.z 0, 6, .inl (aN ((kpS hl hh nu lo hi j).2.1)))), (e2, .inl (κ.z 1, 6, .inr (.inl ((kpS hl hh nu lo hi j).2.2.1)))), (e3, .inl (κ.z 1, 6, .inr (.inl ((kpS hl hh nu lo hi j).2.2.2))))] := by
  intro d9
  induction d9 with
  | zero =>
    intro j hj 
    have e9 : j = cnt := by omega
    rw [e9]
    show V κ 3 0 0 4 [(2, .int (nI cnt)), (1, .int (nI ((kpS hl hh nu lo hi cnt).1))), (0, .ref e)] [] [(e, .inr (0, [.int (nI cnt), .ref e1, .ref e2, .ref e3, .long hl, .long hh])), (e1, .inl (κ.z 0, 6, .inl (aN ((kpS hl hh nu lo hi cnt).2.1)))), (e2, .inl (κ.z 1, 6, .inr (.inl ((kpS hl hh nu lo hi cnt).2.2.1)))), (e3, .inl (κ.z 1, 6, .inr (.inl ((kpS hl hh nu lo hi cnt).2.2.2))))]
    refine v_iload_n X 0 d_E_keepThoseAtHull_4 rfl ?_
    refine v_aload_n X 2 d_E_keepThoseAtHull_5 rfl ?_
    refine v_get X 0 0 rfl rfl li_E (by decide) m105 rfl d_E_keepThoseAtHull_6 ?_
    refine v_icmpN_ge X 72 (a := cnt) (b := cnt) d_E_keepThoseAtHull_9 (by decide) (by omega) (by omega) (fun c9 => ?_) (fun c9 => by omega)
    exact kk
  | succ d9 ih =>
    intro j hj 
    have h8 := kpS_le hl hh nu lo hi j
    show V κ 3 0 0 4 [(2, .int (nI j)), (1, .int (nI ((kpS hl hh nu lo hi j).1))), (0, .ref e)] [] [(e, .inr (0, [.int (nI cnt), .ref e1, .ref e2, .ref e3, .long hl, .long hh])), (e1, .inl (κ.z 0, 6, .inl (aN ((kpS hl hh nu lo hi j).2.1)))), (e2, .inl (κ.z 1, 6, .inr (.inl ((kpS hl hh nu lo hi j).2.2.1)))), (e3, .inl (κ.z 1, 6, .inr (.inl ((kpS hl hh nu lo hi j).2.2.2))))]
    refine v_iload_n X 0 d_E_keepThoseAtHull_4 rfl ?_
    refine v_aload_n X 2 d_E_keepThoseAtHull_5 rfl ?_
    refine v_get X 0 0 rfl rfl li_E (by decide) m105 rfl d_E_keepThoseAtHull_6 ?_
    refine v_icmpN_ge X 72 (a := j) (b := cnt) d_E_keepThoseAtHull_9 (by decide) (by omega) (by omega) (fun c9 => by omega) (fun c9 => ?_)
    refine v_aload_n X 2 d_E_keepThoseAtHull_12 rfl ?_
    refine v_get X 0 2 rfl rfl li_E (by decide) m109 rfl d_E_keepThoseAtHull_13 ?_
    refine v_iload_n X 0 d_E_keepThoseAtHull_16 rfl ?_
    refine v_laldN X 2 1 (j := j) rfl rfl (by omega) (by omega) d_E_keepThoseAtHull_17 ?_
    refine v_aload_n X 2 d_E_keepThoseAtHull_18 rfl ?_
    refine v_get X 0 5 rfl rfl li_E (by decide) m114 rfl d_E_keepThoseAtHull_19 ?_
    suffices hm22 : V κ 3 0 0 66 [(2, .int (nI j)), (1, .int (nI (if hh < (((kpS hl hh nu lo hi j).2.2.1) j) then ((kpS hl hh nu lo hi j).1) else (if (((kpS hl hh nu lo hi j).2.2.2) j) < hl then ((kpS hl hh nu lo hi j).1) else (((kpS hl hh nu lo hi j).1) + 1))))), (0, .ref e)] [] [(e, .inr (0, [.int (nI cnt), .ref e1, .ref e2, .ref e3, .long hl, .long hh])), (e1, .inl (κ.z 0, 6, .inl (aN (if hh < (((kpS hl hh nu lo hi j).2.2.1) j) then (kpS hl hh nu lo hi j).2.1 else if (((kpS hl hh nu lo hi j).2.2.2) j) < hl then (kpS hl hh nu lo hi j).2.1 else va_up ((kpS hl hh nu lo hi j).2.1) ((kpS hl hh nu lo hi j).1) (((kpS hl hh nu lo hi j).2.1) j))))), (e2, .inl (κ.z 1, 6, .inr (.inl (if hh < (((kpS hl hh nu lo hi j).2.2.1) j) then (kpS hl hh nu lo hi j).2.2.1 else if (((kpS hl hh nu lo hi j).2.2.2) j) < hl then (kpS hl hh nu lo hi j).2.2.1 else vp_updL ((kpS hl hh nu lo hi j).2.2.1) ((kpS hl hh nu lo hi j).1) (((kpS hl hh nu lo hi j).2.2.1) j))))), (e3, .inl (κ.z 1, 6, .inr (.inl (if hh < (((kpS hl hh nu lo hi j).2.2.1) j) then (kpS hl hh nu lo hi j).2.2.2 else if (((kpS hl hh nu lo hi j).2.2.2) j) < hl then (kpS hl hh nu lo hi j).2.2.2 else vp_updL ((kpS hl hh nu lo hi j).2.2.2) ((kpS hl hh nu lo hi j).1) (((kpS hl hh nu lo hi j).2.2.2) j)))))] by
      refine v_lcmp_gt X 66 d_E_keepThoseAtHull_22 d_E_keepThoseAtHull_23 (by decide) (fun c22 => ?_) (fun c22 => ?_)
      · skip
        have h9 := hm22; simp only [if_pos c22] at h9; first | exact h9 | (simp only [if_pos c22]; exact h9)
      · skip
        refine v_aload_n X 2 d_E_keepThoseAtHull_26 rfl ?_
        refine v_get X 0 3 rfl rfl li_E (by decide) m110 rfl d_E_keepThoseAtHull_27 ?_
        refine v_iload_n X 0 d_E_keepThoseAtHull_30 rfl ?_
        refine v_laldN X 3 1 (j := j) rfl rfl (by omega) (by omega) d_E_keepThoseAtHull_31 ?_
        refine v_aload_n X 2 d_E_keepThoseAtHull_32 rfl ?_
        refine v_get X 0 4 rfl rfl li_E (by decide) m112 rfl d_E_keepThoseAtHull_33 ?_
        suffices hm36 : V κ 3 0 0 66 [(2, .int (nI j)), (1, .int (nI (if (((kpS hl hh nu lo hi j).2.2.2) j) < hl then ((kpS hl hh nu lo hi j).1) else (((kpS hl hh nu lo hi j).1) + 1)))), (0, .ref e)] [] [(e, .inr (0, [.int (nI cnt), .ref e1, .ref e2, .ref e3, .long hl, .long hh])), (e1, .inl (κ.z 0, 6, .inl (aN (if (((kpS hl hh nu lo hi j).2.2.2) j) < hl then (kpS hl hh nu lo hi j).2.1 else va_up ((kpS hl hh nu lo hi j).2.1) ((kpS hl hh nu lo hi j).1) (((kpS hl hh nu lo hi j).2.1) j))))), (e2, .inl (κ.z 1, 6, .inr (.inl (if (((kpS hl hh nu lo hi j).2.2.2) j) < hl then (kpS hl hh nu lo hi j).2.2.1 else vp_updL ((kpS hl hh nu lo hi j).2.2.1) ((kpS hl hh nu lo hi j).1) (((kpS hl hh nu lo hi j).2.2.1) j))))), (e3, .inl (κ.z 1, 6, .inr (.inl (if (((kpS hl hh nu lo hi j).2.2.2) j) < hl then (kpS hl hh nu lo hi j).2.2.2 else vp_updL ((kpS hl hh nu lo hi j).2.2.2) ((kpS hl hh nu lo hi j).1) (((kpS hl hh nu lo hi j).2.2.2) j)))))] by
          refine v_lcmp_lt X 66 d_E_keepThoseAtHull_36 d_E_keepThoseAtHull_37 (by decide) (fun c36 => ?_) (fun c36 => ?_)
          · skip
            have h9 := hm36; simp only [if_pos c36] at h9; first | exact h9 | (simp only [if_pos c36]; exact h9)
          · skip
            refine v_aload_n X 2 d_E_keepThoseAtHull_40 rfl ?_
            refine v_iload_n X 1 d_E_keepThoseAtHull_41 rfl ?_
            refine v_aload_n X 2 d_E_keepThoseAtHull_42 rfl ?_
            refine v_get X 0 1 rfl rfl li_E (by decide) m107 rfl d_E_keepThoseAtHull_43 ?_
            refine v_iload_n X 0 d_E_keepThoseAtHull_46 rfl ?_
            refine v_naldN X 1 0 (j := j) rfl rfl (by omega) (by omega) d_E_keepThoseAtHull_47 ?_
            refine v_aload_n X 2 d_E_keepThoseAtHull_48 rfl ?_
            refine v_get X 0 2 rfl rfl li_E (by decide) m109 rfl d_E_keepThoseAtHull_49 ?_
            refine v_iload_n X 0 d_E_keepThoseAtHull_52 rfl ?_
            refine v_laldN X 2 1 (j := j) rfl rfl (by omega) (by omega) d_E_keepThoseAtHull_53 ?_
            refine v_aload_n X 2 d_E_keepThoseAtHull_54 rfl ?_
            refine v_get X 0 3 rfl rfl li_E (by decide) m110 rfl d_E_keepThoseAtHull_55 ?_
            refine v_iload_n X 0 d_E_keepThoseAtHull_58 rfl ?_
            refine v_laldN X 3 1 (j := j) rfl rfl (by omega) (by omega) d_E_keepThoseAtHull_59 ?_
            show V κ 3 0 0 60 [(2, .int (nI j)), (1, .int (nI ((kpS hl hh nu lo hi j).1))), (0, .ref e)] [.long (((kpS hl hh nu lo hi j).2.2.2) j), .long (((kpS hl hh nu lo hi j).2.2.1) j), .int (nI (((kpS hl hh nu lo hi j).2.1) j)), .int (nI ((kpS hl hh nu lo hi j).1)), .ref e] [(e, .inr (0, [.int (nI cnt), .ref e1, .ref e2, .ref e3, .long hl, .long hh])), (e1, .inl (κ.z 0, 6, .inl (aN ((kpS hl hh nu lo hi j).2.1)))), (e2, .inl (κ.z 1, 6, .inr (.inl ((kpS hl hh nu lo hi j).2.2.1)))), (e3, .inl (κ.z 1, 6, .inr (.inl ((kpS hl hh nu lo hi j).2.2.2))))]
            refine v_callV X (b := e) (n9 := 4) (As := [.int (nI ((kpS hl hh nu lo hi j).1)), .int (nI (((kpS hl hh nu lo hi j).2.1) j)), .long (((kpS hl hh nu lo hi j).2.2.1) j), .long (((kpS hl hh nu lo hi j).2.2.2) j)]) (rest := []) (wc := [(e, .inr (0, [.int (nI cnt), .ref e1, .ref e2, .ref e3, .long hl, .long hh])), (e1, .inl (κ.z 0, 6, .inl (aN ((kpS hl hh nu lo hi j).2.1)))), (e2, .inl (κ.z 1, 6, .inr (.inl ((kpS hl hh nu lo hi j).2.2.1)))), (e3, .inl (κ.z 1, 6, .inr (.inl ((kpS hl hh nu lo hi j).2.2.2))))]) (wr := []) (c_E_put κ.l κ.D κ.z e e1 e2 e3 cnt hl hh ((kpS hl hh nu lo hi j).2.1) ((kpS hl hh nu lo hi j).2.2.1) ((kpS hl hh nu lo hi j).2.2.2) ((kpS hl hh nu lo hi j).1) (((kpS hl hh nu lo hi j).2.1) j) (((kpS hl hh nu lo hi j).2.2.1) j) (((kpS hl hh nu lo hi j).2.2.2) j) (by omega)) 0 rfl rfl m286 m287 m5 m34 (by decide +kernel) rfl (Nat.le_of_ble_eq_true rfl) ⟨by decide, by decide⟩ ⟨by decide, by decide⟩ rfl rfl m288 d_E_keepThoseAtHull_60 (fun v w1 hg => ?_)
            obtain ⟨rfl, rfl⟩ := hg
            show V κ 3 0 0 63 [(2, .int (nI j)), (1, .int (nI ((kpS hl hh nu lo hi j).1))), (0, .ref e)] [] [(e, .inr (0, [.int (nI cnt), .ref e1, .ref e2, .ref e3, .long hl, .long hh])), (e1, .inl (κ.z 0, 6, .inl (aN (va_up ((kpS hl hh nu lo hi j).2.1) ((kpS hl hh nu lo hi j).1) (((kpS hl hh nu lo hi j).2.1) j))))), (e2, .inl (κ.z 1, 6, .inr (.inl (vp_updL ((kpS hl hh nu lo hi j).2.2.1) ((kpS hl hh nu lo hi j).1) (((kpS hl hh nu lo hi j).2.2.1) j))))), (e3, .inl (κ.z 1, 6, .inr (.inl (vp_updL ((kpS hl hh nu lo hi j).2.2.2) ((kpS hl hh nu lo hi j).1) (((kpS hl hh nu lo hi j).2.2.2) j)))))]
            refine v_iinc X 1 d_E_keepThoseAtHull_63 (x := nI ((kpS hl hh nu lo hi j).1)) rfl (v := nI (((kpS hl hh nu lo hi j).1) + 1)) (nI_1 _) (by decide) (lv' := [(1, .int (nI (((kpS hl hh nu lo hi j).1) + 1))), (2, .int (nI j)), (0, .ref e)]) rfl ?_
            refine v_lv [1, 0, 2] rfl ?_
            have h9 := hm36; simp only [if_neg c36] at h9; first | exact h9 | (simp only [if_neg c36]; exact h9)
        have h9 := hm22; simp only [if_neg c22] at h9; first | exact h9 | (simp only [if_neg c22]; exact h9)
    refine v_iinc X 0 d_E_keepThoseAtHull_66 (x := nI j) rfl (v := nI (j + 1)) (nI_1 _) (by decide) (lv' := [(2, .int (nI (j + 1))), (1, .int (nI (if hh < (((kpS hl hh nu lo hi j).2.2.1) j) then ((kpS hl hh nu lo hi j).1) else (if (((kpS hl hh nu lo hi j).2.2.2) j) < hl then ((kpS hl hh nu lo hi j).1) else (((kpS hl hh nu lo hi j).1) + 1))))), (0, .ref e)]) rfl ?_
    refine v_goto X 4 d_E_keepThoseAtHull_69 (by decide) ?_
    exact v_eq rfl (by rfl) rfl (by rfl) (ih (j + 1) (by omega))

set_option maxHeartbeats 4000000 in
set_option maxRecDepth 100000 in
theorem c_E_keepThoseAtHull (l : Launch) (D : va_G) (z : Nat → ClassId) (e : Nat) (e1 : Nat) (e2 : Nat) (e3 : Nat) (cnt : Nat) (hl : Int64) (hh : Int64) (nu : Nat → Nat) (lo : Nat → Int64) (hi : Nat → Int64) (hc6 : cnt ≤ 6) : Ctr l D z y_E_keepThoseAtHull b_E_keepThoseAtHull 3 none { frames := 1, cells := 0, slots := 0, locals := 26 } [.ref e] [(e, .inr (0, [.int (nI cnt), .ref e1, .ref e2, .ref e3, .long hl, .long hh])), (e1, .inl (z 0, 6, .inl (aN nu))), (e2, .inl (z 1, 6, .inr (.inl lo))), (e3, .inl (z 1, 6, .inr (.inl hi)))] (fun v w => v = none ∧ w = [(e, .inr (0, [.int (nI ((kpS hl hh nu lo hi cnt).1)), .ref e1, .ref e2, .ref e3, .long hl, .long hh])), (e1, .inl (z 0, 6, .inl (aN ((kpS hl hh nu lo hi cnt).2.1)))), (e2, .inl (z 1, 6, .inr (.inl ((kpS hl hh nu lo hi cnt).2.2.1)))), (e3, .inl (z 1, 6, .inr (.inl ((kpS hl hh nu lo hi cnt).2.2.2))))]) 0 0 := by
  refine met_V (own := R_E) (nm := "keepThoseAtHull") (by decide +kernel) rfl rfl (Nat.le_of_ble_eq_true rfl) ?_
  intro κ hl hD hz X Y
  subst hl
  subst hD
  subst hz
  show V κ 3 0 0 0 [(0, .ref e)] [] [(e, .inr (0, [.int (nI cnt), .ref e1, .ref e2, .ref e3, .long hl, .long hh])), (e1, .inl (κ.z 0, 6, .inl (aN nu))), (e2, .inl (κ.z 1, 6, .inr (.inl lo))), (e3, .inl (κ.z 1, 6, .inr (.inl hi)))]
  refine v_iconst X 0 d_E_keepThoseAtHull_0 (by decide) ?_
  refine v_istore_n X d_E_keepThoseAtHull_1 rfl (by decide) (lv' := [(1, .int 0), (0, .ref e)]) rfl ?_
  refine v_iconst X 0 d_E_keepThoseAtHull_2 (by decide) ?_
  refine v_istore_n X d_E_keepThoseAtHull_3 rfl (by decide) (lv' := [(2, .int 0), (1, .int 0), (0, .ref e)]) rfl ?_
  show V κ 3 0 0 4 [(2, .int (nI 0)), (1, .int (nI ((kpS hl hh nu lo hi 0).1))), (0, .ref e)] [] [(e, .inr (0, [.int (nI cnt), .ref e1, .ref e2, .ref e3, .long hl, .long hh])), (e1, .inl (κ.z 0, 6, .inl (aN ((kpS hl hh nu lo hi 0).2.1)))), (e2, .inl (κ.z 1, 6, .inr (.inl ((kpS hl hh nu lo hi 0).2.2.1)))), (e3, .inl (κ.z 1, 6, .inr (.inl ((kpS hl hh nu lo hi 0).2.2.2))))]
  refine lp_keep X e e1 e2 e3 cnt hl hh nu lo hi (by omega)  ?_ (cnt - 0) 0 (by omega)
  show V κ 3 0 0 72 [(2, .int (nI cnt)), (1, .int (nI ((kpS hl hh nu lo hi cnt).1))), (0, .ref e)] [] [(e, .inr (0, [.int (nI cnt), .ref e1, .ref e2, .ref e3, .long hl, .long hh])), (e1, .inl (κ.z 0, 6, .inl (aN ((kpS hl hh nu lo hi cnt).2.1)))), (e2, .inl (κ.z 1, 6, .inr (.inl ((kpS hl hh nu lo hi cnt).2.2.1)))), (e3, .inl (κ.z 1, 6, .inr (.inl ((kpS hl hh nu lo hi cnt).2.2.2))))]
  refine v_aload_n X 2 d_E_keepThoseAtHull_72 rfl ?_
  refine v_iload_n X 1 d_E_keepThoseAtHull_73 rfl ?_
  refine v_put X 0 0 (v := .int (nI ((kpS hl hh nu lo hi cnt).1))) (ty := .int) ty_E tk_E n_E rfl rfl li_E (by decide) m105 rfl (by decide +kernel) rfl rfl (Nat.le_of_ble_eq_true rfl) d_E_keepThoseAtHull_74 (ws' := [(e, .inr (0, [.int (nI ((kpS hl hh nu lo hi cnt).1)), .ref e1, .ref e2, .ref e3, .long hl, .long hh])), (e1, .inl (κ.z 0, 6, .inl (aN ((kpS hl hh nu lo hi cnt).2.1)))), (e2, .inl (κ.z 1, 6, .inr (.inl ((kpS hl hh nu lo hi cnt).2.2.1)))), (e3, .inl (κ.z 1, 6, .inr (.inl ((kpS hl hh nu lo hi cnt).2.2.2))))]) rfl ?_
  exact v_vret X Y (by decide) (by decide) d_E_keepThoseAtHull_77 ⟨rfl, rfl⟩

set_option maxHeartbeats 4000000 in
set_option maxRecDepth 100000 in
theorem c_E_middle (l : Launch) (D : va_G) (z : Nat → ClassId) (e : Nat) (e1 : Nat) (e2 : Nat) (e3 : Nat) (cnt : Nat) (hl : Int64) (hh : Int64) (nu : Nat → Nat) (lo : Nat → Int64) (hi : Nat → Int64) (i : Nat) (hi9 : i < 6) : Ctr l D z y_E_middle b_E_middle 2 (some .long) { frames := 1, cells := 0, slots := 0, locals := 25 } [.ref e, .int (nI i)] [(e, .inr (0, [.int (nI cnt), .ref e1, .ref e2, .ref e3, .long hl, .long hh])), (e1, .inl (z 0, 6, .inl (aN nu))), (e2, .inl (z 1, 6, .inr (.inl lo))), (e3, .inl (z 1, 6, .inr (.inl hi)))] (fun v w => v = some (.long (f_J_floorDiv ((lo i) + (hi i)) 2)) ∧ w = [(e, .inr (0, [.int (nI cnt), .ref e1, .ref e2, .ref e3, .long hl, .long hh])), (e1, .inl (z 0, 6, .inl (aN nu))), (e2, .inl (z 1, 6, .inr (.inl lo))), (e3, .inl (z 1, 6, .inr (.inl hi)))]) 0 0 := by
  refine met_V (own := R_E) (nm := "middle") (by decide +kernel) rfl rfl (Nat.le_of_ble_eq_true rfl) ?_
  intro κ hl hD hz X Y
  subst hl
  subst hD
  subst hz
  show V κ 2 0 0 0 [(0, .ref e), (1, .int (nI i))] [] [(e, .inr (0, [.int (nI cnt), .ref e1, .ref e2, .ref e3, .long hl, .long hh])), (e1, .inl (κ.z 0, 6, .inl (aN nu))), (e2, .inl (κ.z 1, 6, .inr (.inl lo))), (e3, .inl (κ.z 1, 6, .inr (.inl hi)))]
  refine v_aload_n X 0 d_E_middle_0 rfl ?_
  refine v_get X 0 2 rfl rfl li_E (by decide) m109 rfl d_E_middle_1 ?_
  refine v_iload_n X 1 d_E_middle_4 rfl ?_
  refine v_laldN X 2 1 (j := i) rfl rfl (by omega) (by omega) d_E_middle_5 ?_
  refine v_aload_n X 0 d_E_middle_6 rfl ?_
  refine v_get X 0 3 rfl rfl li_E (by decide) m110 rfl d_E_middle_7 ?_
  refine v_iload_n X 1 d_E_middle_10 rfl ?_
  refine v_laldN X 3 1 (j := i) rfl rfl (by omega) (by omega) d_E_middle_11 ?_
  refine v_ladd X d_E_middle_12 ?_
  refine v_ldc2 X (v := 2) m322 d_E_middle_13 ?_
  refine v_callS X (n9 := 2) (As := [.long ((lo i) + (hi i)), .long 2]) (rest := []) (wc := []) (wr := [(e, .inr (0, [.int (nI cnt), .ref e1, .ref e2, .ref e3, .long hl, .long hh])), (e1, .inl (κ.z 0, 6, .inl (aN nu))), (e2, .inl (κ.z 1, 6, .inr (.inl lo))), (e3, .inl (κ.z 1, 6, .inr (.inl hi)))]) (c_J_floorDiv κ.l κ.D κ.z ((lo i) + (hi i)) 2 (by decide)) m323 m252 m31 (by decide +kernel) rfl (Nat.le_of_ble_eq_true rfl) ⟨by decide, by decide⟩ ⟨by decide, by decide⟩ rfl rfl m253 d_E_middle_16 (fun v w1 hg => ?_)
  obtain ⟨rfl, rfl⟩ := hg
  show V κ 2 0 0 19 [(0, .ref e), (1, .int (nI i))] [.long (f_J_floorDiv ((lo i) + (hi i)) 2)] [(e, .inr (0, [.int (nI cnt), .ref e1, .ref e2, .ref e3, .long hl, .long hh])), (e1, .inl (κ.z 0, 6, .inl (aN nu))), (e2, .inl (κ.z 1, 6, .inr (.inl lo))), (e3, .inl (κ.z 1, 6, .inr (.inl hi)))]
  exact v_lret X Y (by decide) (by decide) d_E_middle_19 ⟨rfl, rfl⟩

def dsS (lo : Nat → Int64) (hi : Nat → Int64) (i : Nat) : Nat → Int64
  | 0 => 0
  | j + 1 => (dsS lo hi i j) + (f_J_abs ((f_J_floorDiv ((lo i) + (hi i)) 2) - (f_J_floorDiv ((lo j) + (hi j)) 2)))
set_option maxHeartbeats 4000000 in
set_option maxRecDepth 100000 in
theorem lp_dist {κ : VC} (X : Cx κ b_E_distances R_E { frames := 2, cells := 0, slots := 0, locals := 46 } 5) (e : Nat) (e1 : Nat) (e2 : Nat) (e3 : Nat) (cnt : Nat) (hl : Int64) (hh : Int64) (nu : Nat → Nat) (lo : Nat → Int64) (hi : Nat → Int64) (i : Nat) (hc6 : cnt ≤ 6) (hi9 : i < 6)  (kk : V κ 5 0 0 38 [(4, .int (nI cnt)), (2, .long (dsS lo hi i cnt)), (0, .ref e), (1, .int (nI i))] [] [(e, .inr (0, [.int (nI cnt), .ref e1, .ref e2, .ref e3, .long hl, .long hh])), (e1, .inl (κ.z 0, 6, .inl (aN nu))), (e2, .inl (κ.z 1, 6, .inr (.inl lo))), (e3, .inl (κ.z 1, 6, .inr (.inl hi)))]) : ∀ (d9 j : Nat), j + d9 = cnt → V κ 5 0 0 5 [(4, .int (nI j)), (2, .long (dsS lo hi i j)), (0, .ref e), (1, .int (nI i))] [] [(e, .inr (0, [.int (nI cnt), .ref e1, .ref e2, .ref e3, .long hl, .long hh])), (e1, .inl (κ.z 0, 6, .inl (aN nu))), (e2, .inl (κ.z 1, 6, .inr (.inl lo))), (e3, .inl (κ.z 1, 6, .inr (.inl hi)))] := by
  intro d9
  induction d9 with
  | zero =>
    intro j hj 
    have e9 : j = cnt := by omega
    rw [e9]
    show V κ 5 0 0 5 [(4, .int (nI cnt)), (2, .long (dsS lo hi i cnt)), (0, .ref e), (1, .int (nI i))] [] [(e, .inr (0, [.int (nI cnt), .ref e1, .ref e2, .ref e3, .long hl, .long hh])), (e1, .inl (κ.z 0, 6, .inl (aN nu))), (e2, .inl (κ.z 1, 6, .inr (.inl lo))), (e3, .inl (κ.z 1, 6, .inr (.inl hi)))]
    refine v_iload X 0 d_E_distances_5 rfl ?_
    refine v_aload_n X 2 d_E_distances_7 rfl ?_
    refine v_get X 0 0 rfl rfl li_E (by decide) m105 rfl d_E_distances_8 ?_
    refine v_icmpN_ge X 38 (a := cnt) (b := cnt) d_E_distances_11 (by decide) (by omega) (by omega) (fun c11 => ?_) (fun c11 => by omega)
    exact kk
  | succ d9 ih =>
    intro j hj 
    show V κ 5 0 0 5 [(4, .int (nI j)), (2, .long (dsS lo hi i j)), (0, .ref e), (1, .int (nI i))] [] [(e, .inr (0, [.int (nI cnt), .ref e1, .ref e2, .ref e3, .long hl, .long hh])), (e1, .inl (κ.z 0, 6, .inl (aN nu))), (e2, .inl (κ.z 1, 6, .inr (.inl lo))), (e3, .inl (κ.z 1, 6, .inr (.inl hi)))]
    refine v_iload X 0 d_E_distances_5 rfl ?_
    refine v_aload_n X 2 d_E_distances_7 rfl ?_
    refine v_get X 0 0 rfl rfl li_E (by decide) m105 rfl d_E_distances_8 ?_
    refine v_icmpN_ge X 38 (a := j) (b := cnt) d_E_distances_11 (by decide) (by omega) (by omega) (fun c11 => by omega) (fun c11 => ?_)
    refine v_lload_n X 1 d_E_distances_14 rfl ?_
    refine v_aload_n X 2 d_E_distances_15 rfl ?_
    refine v_iload_n X 3 d_E_distances_16 rfl ?_
    refine v_callV X (b := e) (n9 := 1) (As := [.int (nI i)]) (rest := [.long (dsS lo hi i j)]) (wc := [(e, .inr (0, [.int (nI cnt), .ref e1, .ref e2, .ref e3, .long hl, .long hh])), (e1, .inl (κ.z 0, 6, .inl (aN nu))), (e2, .inl (κ.z 1, 6, .inr (.inl lo))), (e3, .inl (κ.z 1, 6, .inr (.inl hi)))]) (wr := []) (c_E_middle κ.l κ.D κ.z e e1 e2 e3 cnt hl hh nu lo hi i (by omega)) 0 rfl rfl m319 m320 m10 m34 (by decide +kernel) rfl (Nat.le_of_ble_eq_true rfl) ⟨by decide, by decide⟩ ⟨by decide, by decide⟩ rfl rfl m321 d_E_distances_17 (fun v w1 hg => ?_)
    obtain ⟨rfl, rfl⟩ := hg
    show V κ 5 0 0 20 [(4, .int (nI j)), (2, .long (dsS lo hi i j)), (0, .ref e), (1, .int (nI i))] [.long (f_J_floorDiv ((lo i) + (hi i)) 2), .long (dsS lo hi i j)] [(e, .inr (0, [.int (nI cnt), .ref e1, .ref e2, .ref e3, .long hl, .long hh])), (e1, .inl (κ.z 0, 6, .inl (aN nu))), (e2, .inl (κ.z 1, 6, .inr (.inl lo))), (e3, .inl (κ.z 1, 6, .inr (.inl hi)))]
    refine v_aload_n X 2 d_E_distances_20 rfl ?_
    refine v_iload X 0 d_E_distances_21 rfl ?_
    refine v_callV X (b := e) (n9 := 1) (As := [.int (nI j)]) (rest := [.long (f_J_floorDiv ((lo i) + (hi i)) 2), .long (dsS lo hi i j)]) (wc := [(e, .inr (0, [.int (nI cnt), .ref e1, .ref e2, .ref e3, .long hl, .long hh])), (e1, .inl (κ.z 0, 6, .inl (aN nu))), (e2, .inl (κ.z 1, 6, .inr (.inl lo))), (e3, .inl (κ.z 1, 6, .inr (.inl hi)))]) (wr := []) (c_E_middle κ.l κ.D κ.z e e1 e2 e3 cnt hl hh nu lo hi j (by omega)) 0 rfl rfl m319 m320 m10 m34 (by decide +kernel) rfl (Nat.le_of_ble_eq_true rfl) ⟨by decide, by decide⟩ ⟨by decide, by decide⟩ rfl rfl m321 d_E_distances_23 (fun v w1 hg => ?_)
    obtain ⟨rfl, rfl⟩ := hg
    show V κ 5 0 0 26 [(4, .int (nI j)), (2, .long (dsS lo hi i j)), (0, .ref e), (1, .int (nI i))] [.long (f_J_floorDiv ((lo j) + (hi j)) 2), .long (f_J_floorDiv ((lo i) + (hi i)) 2), .long (dsS lo hi i j)] [(e, .inr (0, [.int (nI cnt), .ref e1, .ref e2, .ref e3, .long hl, .long hh])), (e1, .inl (κ.z 0, 6, .inl (aN nu))), (e2, .inl (κ.z 1, 6, .inr (.inl lo))), (e3, .inl (κ.z 1, 6, .inr (.inl hi)))]
    refine v_lsub X d_E_distances_26 ?_
    refine v_callS X (n9 := 1) (As := [.long ((f_J_floorDiv ((lo i) + (hi i)) 2) - (f_J_floorDiv ((lo j) + (hi j)) 2))]) (rest := [.long (dsS lo hi i j)]) (wc := []) (wr := [(e, .inr (0, [.int (nI cnt), .ref e1, .ref e2, .ref e3, .long hl, .long hh])), (e1, .inl (κ.z 0, 6, .inl (aN nu))), (e2, .inl (κ.z 1, 6, .inr (.inl lo))), (e3, .inl (κ.z 1, 6, .inr (.inl hi)))]) (c_J_abs κ.l κ.D κ.z ((f_J_floorDiv ((lo i) + (hi i)) 2) - (f_J_floorDiv ((lo j) + (hi j)) 2)) ) m324 m325 m31 (by decide +kernel) rfl (Nat.le_of_ble_eq_true rfl) ⟨by decide, by decide⟩ ⟨by decide, by decide⟩ rfl rfl m326 d_E_distances_27 (fun v w1 hg => ?_)
    obtain ⟨rfl, rfl⟩ := hg
    show V κ 5 0 0 30 [(4, .int (nI j)), (2, .long (dsS lo hi i j)), (0, .ref e), (1, .int (nI i))] [.long (f_J_abs ((f_J_floorDiv ((lo i) + (hi i)) 2) - (f_J_floorDiv ((lo j) + (hi j)) 2))), .long (dsS lo hi i j)] [(e, .inr (0, [.int (nI cnt), .ref e1, .ref e2, .ref e3, .long hl, .long hh])), (e1, .inl (κ.z 0, 6, .inl (aN nu))), (e2, .inl (κ.z 1, 6, .inr (.inl lo))), (e3, .inl (κ.z 1, 6, .inr (.inl hi)))]
    refine v_ladd X d_E_distances_30 ?_
    show V κ 5 0 0 31 [(4, .int (nI j)), (2, .long (dsS lo hi i j)), (0, .ref e), (1, .int (nI i))] [.long ((dsS lo hi i j) + (f_J_abs ((f_J_floorDiv ((lo i) + (hi i)) 2) - (f_J_floorDiv ((lo j) + (hi j)) 2))))] [(e, .inr (0, [.int (nI cnt), .ref e1, .ref e2, .ref e3, .long hl, .long hh])), (e1, .inl (κ.z 0, 6, .inl (aN nu))), (e2, .inl (κ.z 1, 6, .inr (.inl lo))), (e3, .inl (κ.z 1, 6, .inr (.inl hi)))]
    refine v_lstore_n X d_E_distances_31 rfl (by decide) (lv' := [(2, .long ((dsS lo hi i j) + (f_J_abs ((f_J_floorDiv ((lo i) + (hi i)) 2) - (f_J_floorDiv ((lo j) + (hi j)) 2))))), (4, .int (nI j)), (0, .ref e), (1, .int (nI i))]) rfl ?_
    refine v_iinc X 1 d_E_distances_32 (x := nI j) rfl (v := nI (j + 1)) (nI_1 _) (by decide) (lv' := [(4, .int (nI (j + 1))), (2, .long ((dsS lo hi i j) + (f_J_abs ((f_J_floorDiv ((lo i) + (hi i)) 2) - (f_J_floorDiv ((lo j) + (hi j)) 2))))), (0, .ref e), (1, .int (nI i))]) rfl ?_
    refine v_goto X 5 d_E_distances_35 (by decide) ?_
    exact v_eq rfl (by rfl) rfl (by rfl) (ih (j + 1) (by omega))

set_option maxHeartbeats 4000000 in
set_option maxRecDepth 100000 in
theorem c_E_distances (l : Launch) (D : va_G) (z : Nat → ClassId) (e : Nat) (e1 : Nat) (e2 : Nat) (e3 : Nat) (cnt : Nat) (hl : Int64) (hh : Int64) (nu : Nat → Nat) (lo : Nat → Int64) (hi : Nat → Int64) (i : Nat) (hc6 : cnt ≤ 6) (hi9 : i < 6) : Ctr l D z y_E_distances b_E_distances 5 (some .long) { frames := 2, cells := 0, slots := 0, locals := 46 } [.ref e, .int (nI i)] [(e, .inr (0, [.int (nI cnt), .ref e1, .ref e2, .ref e3, .long hl, .long hh])), (e1, .inl (z 0, 6, .inl (aN nu))), (e2, .inl (z 1, 6, .inr (.inl lo))), (e3, .inl (z 1, 6, .inr (.inl hi)))] (fun v w => v = some (.long (dsS lo hi i cnt)) ∧ w = [(e, .inr (0, [.int (nI cnt), .ref e1, .ref e2, .ref e3, .long hl, .long hh])), (e1, .inl (z 0, 6, .inl (aN nu))), (e2, .inl (z 1, 6, .inr (.inl lo))), (e3, .inl (z 1, 6, .inr (.inl hi)))]) 0 0 := by
  refine met_V (own := R_E) (nm := "distances") (by decide +kernel) rfl rfl (Nat.le_of_ble_eq_true rfl) ?_
  intro κ hl hD hz X Y
  subst hl
  subst hD
  subst hz
  show V κ 5 0 0 0 [(0, .ref e), (1, .int (nI i))] [] [(e, .inr (0, [.int (nI cnt), .ref e1, .ref e2, .ref e3, .long hl, .long hh])), (e1, .inl (κ.z 0, 6, .inl (aN nu))), (e2, .inl (κ.z 1, 6, .inr (.inl lo))), (e3, .inl (κ.z 1, 6, .inr (.inl hi)))]
  refine v_lconst X 0 d_E_distances_0 (by decide) ?_
  refine v_lstore_n X d_E_distances_1 rfl (by decide) (lv' := [(2, .long 0), (0, .ref e), (1, .int (nI i))]) rfl ?_
  refine v_iconst X 0 d_E_distances_2 (by decide) ?_
  refine v_istore X d_E_distances_3 (by decide) (lv' := [(4, .int 0), (2, .long 0), (0, .ref e), (1, .int (nI i))]) rfl ?_
  show V κ 5 0 0 5 [(4, .int (nI 0)), (2, .long (dsS lo hi i 0)), (0, .ref e), (1, .int (nI i))] [] [(e, .inr (0, [.int (nI cnt), .ref e1, .ref e2, .ref e3, .long hl, .long hh])), (e1, .inl (κ.z 0, 6, .inl (aN nu))), (e2, .inl (κ.z 1, 6, .inr (.inl lo))), (e3, .inl (κ.z 1, 6, .inr (.inl hi)))]
  refine lp_dist X e e1 e2 e3 cnt hl hh nu lo hi i (by omega) (by omega)  ?_ (cnt - 0) 0 (by omega)
  show V κ 5 0 0 38 [(4, .int (nI cnt)), (2, .long (dsS lo hi i cnt)), (0, .ref e), (1, .int (nI i))] [] [(e, .inr (0, [.int (nI cnt), .ref e1, .ref e2, .ref e3, .long hl, .long hh])), (e1, .inl (κ.z 0, 6, .inl (aN nu))), (e2, .inl (κ.z 1, 6, .inr (.inl lo))), (e3, .inl (κ.z 1, 6, .inr (.inl hi)))]
  refine v_lload_n X 1 d_E_distances_38 rfl ?_
  exact v_lret X Y (by decide) (by decide) d_E_distances_39 ⟨rfl, rfl⟩

def frS (cnt : Nat) (lo : Nat → Int64) (hi : Nat → Int64) : Nat → Nat
  | 0 => 0
  | j + 1 => if (dsS lo hi (j + 1) cnt) < (dsS lo hi (frS cnt lo hi j) cnt) then (frS cnt lo hi j) else (j + 1)
theorem frS_le (cnt : Nat) (lo : Nat → Int64) (hi : Nat → Int64) : ∀ n : Nat, frS cnt lo hi n ≤ n
  | 0 => Nat.le_refl _
  | n + 1 => by
    have h9 := frS_le cnt lo hi n
    unfold frS
    try dsimp only
    repeat' split
    all_goals omega
set_option maxHeartbeats 4000000 in
set_option maxRecDepth 100000 in
theorem lp_far {κ : VC} (X : Cx κ b_E_farthest R_E { frames := 3, cells := 0, slots := 0, locals := 70 } 3) (e : Nat) (e1 : Nat) (e2 : Nat) (e3 : Nat) (cnt : Nat) (hl : Int64) (hh : Int64) (nu : Nat → Nat) (lo : Nat → Int64) (hi : Nat → Int64) (hc6 : cnt ≤ 6) (hc1 : 1 ≤ cnt)  (kk : V κ 3 0 0 34 [(2, .int (nI ((cnt - 1) + 1))), (1, .int (nI (frS cnt lo hi (cnt - 1)))), (0, .ref e)] [] [(e, .inr (0, [.int (nI cnt), .ref e1, .ref e2, .ref e3, .long hl, .long hh])), (e1, .inl (κ.z 0, 6, .inl (aN nu))), (e2, .inl (κ.z 1, 6, .inr (.inl lo))), (e3, .inl (κ.z 1, 6, .inr (.inl hi)))]) : ∀ (d9 j : Nat), j + d9 = cnt - 1 → V κ 3 0 0 4 [(2, .int (nI (j + 1))), (1, .int (nI (frS cnt lo hi j))), (0, .ref e)] [] [(e, .inr (0, [.int (nI cnt), .ref e1, .ref e2, .ref e3, .long hl, .long hh])), (e1, .inl (κ.z 0, 6, .inl (aN nu))), (e2, .inl (κ.z 1, 6, .inr (.inl lo))), (e3, .inl (κ.z 1, 6, .inr (.inl hi)))] := by
  intro d9
  induction d9 with
  | zero =>
    intro j hj 
    have e9 : j = cnt - 1 := by omega
    rw [e9]
    show V κ 3 0 0 4 [(2, .int (nI ((cnt - 1) + 1))), (1, .int (nI (frS cnt lo hi (cnt - 1)))), (0, .ref e)] [] [(e, .inr (0, [.int (nI cnt), .ref e1, .ref e2, .ref e3, .long hl, .long hh])), (e1, .inl (κ.z 0, 6, .inl (aN nu))), (e2, .inl (κ.z 1, 6, .inr (.inl lo))), (e3, .inl (κ.z 1, 6, .inr (.inl hi)))]
    refine v_iload_n X 0 d_E_farthest_4 rfl ?_
    refine v_aload_n X 2 d_E_farthest_5 rfl ?_
    refine v_get X 0 0 rfl rfl li_E (by decide) m105 rfl d_E_farthest_6 ?_
    refine v_icmpN_ge X 34 (a := ((cnt - 1) + 1)) (b := cnt) d_E_farthest_9 (by decide) (by omega) (by omega) (fun c9 => ?_) (fun c9 => by omega)
    exact kk
  | succ d9 ih =>
    intro j hj 
    have h8 := frS_le cnt lo hi j
    show V κ 3 0 0 4 [(2, .int (nI (j + 1))), (1, .int (nI (frS cnt lo hi j))), (0, .ref e)] [] [(e, .inr (0, [.int (nI cnt), .ref e1, .ref e2, .ref e3, .long hl, .long hh])), (e1, .inl (κ.z 0, 6, .inl (aN nu))), (e2, .inl (κ.z 1, 6, .inr (.inl lo))), (e3, .inl (κ.z 1, 6, .inr (.inl hi)))]
    refine v_iload_n X 0 d_E_farthest_4 rfl ?_
    refine v_aload_n X 2 d_E_farthest_5 rfl ?_
    refine v_get X 0 0 rfl rfl li_E (by decide) m105 rfl d_E_farthest_6 ?_
    refine v_icmpN_ge X 34 (a := (j + 1)) (b := cnt) d_E_farthest_9 (by decide) (by omega) (by omega) (fun c9 => by omega) (fun c9 => ?_)
    refine v_aload_n X 2 d_E_farthest_12 rfl ?_
    refine v_iload_n X 0 d_E_farthest_13 rfl ?_
    refine v_callV X (b := e) (n9 := 1) (As := [.int (nI (j + 1))]) (rest := []) (wc := [(e, .inr (0, [.int (nI cnt), .ref e1, .ref e2, .ref e3, .long hl, .long hh])), (e1, .inl (κ.z 0, 6, .inl (aN nu))), (e2, .inl (κ.z 1, 6, .inr (.inl lo))), (e3, .inl (κ.z 1, 6, .inr (.inl hi)))]) (wr := []) (c_E_distances κ.l κ.D κ.z e e1 e2 e3 cnt hl hh nu lo hi (j + 1) (by omega) (by omega)) 0 rfl rfl m316 m317 m9 m34 (by decide +kernel) rfl (Nat.le_of_ble_eq_true rfl) ⟨by decide, by decide⟩ ⟨by decide, by decide⟩ rfl rfl m318 d_E_farthest_14 (fun v w1 hg => ?_)
    obtain ⟨rfl, rfl⟩ := hg
    show V κ 3 0 0 17 [(2, .int (nI (j + 1))), (1, .int (nI (frS cnt lo hi j))), (0, .ref e)] [.long (dsS lo hi (j + 1) cnt)] [(e, .inr (0, [.int (nI cnt), .ref e1, .ref e2, .ref e3, .long hl, .long hh])), (e1, .inl (κ.z 0, 6, .inl (aN nu))), (e2, .inl (κ.z 1, 6, .inr (.inl lo))), (e3, .inl (κ.z 1, 6, .inr (.inl hi)))]
    refine v_aload_n X 2 d_E_farthest_17 rfl ?_
    refine v_iload_n X 1 d_E_farthest_18 rfl ?_
    refine v_callV X (b := e) (n9 := 1) (As := [.int (nI (frS cnt lo hi j))]) (rest := [.long (dsS lo hi (j + 1) cnt)]) (wc := [(e, .inr (0, [.int (nI cnt), .ref e1, .ref e2, .ref e3, .long hl, .long hh])), (e1, .inl (κ.z 0, 6, .inl (aN nu))), (e2, .inl (κ.z 1, 6, .inr (.inl lo))), (e3, .inl (κ.z 1, 6, .inr (.inl hi)))]) (wr := []) (c_E_distances κ.l κ.D κ.z e e1 e2 e3 cnt hl hh nu lo hi (frS cnt lo hi j) (by omega) (by omega)) 0 rfl rfl m316 m317 m9 m34 (by decide +kernel) rfl (Nat.le_of_ble_eq_true rfl) ⟨by decide, by decide⟩ ⟨by decide, by decide⟩ rfl rfl m318 d_E_farthest_19 (fun v w1 hg => ?_)
    obtain ⟨rfl, rfl⟩ := hg
    show V κ 3 0 0 22 [(2, .int (nI (j + 1))), (1, .int (nI (frS cnt lo hi j))), (0, .ref e)] [.long (dsS lo hi (frS cnt lo hi j) cnt), .long (dsS lo hi (j + 1) cnt)] [(e, .inr (0, [.int (nI cnt), .ref e1, .ref e2, .ref e3, .long hl, .long hh])), (e1, .inl (κ.z 0, 6, .inl (aN nu))), (e2, .inl (κ.z 1, 6, .inr (.inl lo))), (e3, .inl (κ.z 1, 6, .inr (.inl hi)))]
    suffices hm22 : V κ 3 0 0 28 [(2, .int (nI (j + 1))), (1, .int (nI (if (dsS lo hi (j + 1) cnt) < (dsS lo hi (frS cnt lo hi j) cnt) then (frS cnt lo hi j) else (j + 1)))), (0, .ref e)] [] [(e, .inr (0, [.int (nI cnt), .ref e1, .ref e2, .ref e3, .long hl, .long hh])), (e1, .inl (κ.z 0, 6, .inl (aN nu))), (e2, .inl (κ.z 1, 6, .inr (.inl lo))), (e3, .inl (κ.z 1, 6, .inr (.inl hi)))] by
      refine v_lcmp_lt X 28 d_E_farthest_22 d_E_farthest_23 (by decide) (fun c22 => ?_) (fun c22 => ?_)
      · skip
        have h9 := hm22; simp only [if_pos c22] at h9; first | exact h9 | (simp only [if_pos c22]; exact h9)
      · skip
        refine v_iload_n X 0 d_E_farthest_26 rfl ?_
        refine v_istore_n X d_E_farthest_27 rfl (by decide) (lv' := [(1, .int (nI (j + 1))), (2, .int (nI (j + 1))), (0, .ref e)]) rfl ?_
        refine v_lv [1, 0, 2] rfl ?_
        have h9 := hm22; simp only [if_neg c22] at h9; first | exact h9 | (simp only [if_neg c22]; exact h9)
    refine v_iinc X 0 d_E_farthest_28 (x := nI (j + 1)) rfl (v := nI ((j + 1) + 1)) (nI_1 _) (by decide) (lv' := [(2, .int (nI ((j + 1) + 1))), (1, .int (nI (if (dsS lo hi (j + 1) cnt) < (dsS lo hi (frS cnt lo hi j) cnt) then (frS cnt lo hi j) else (j + 1)))), (0, .ref e)]) rfl ?_
    refine v_goto X 4 d_E_farthest_31 (by decide) ?_
    exact v_eq rfl (by rfl) rfl (by rfl) (ih (j + 1) (by omega))

set_option maxHeartbeats 4000000 in
set_option maxRecDepth 100000 in
theorem c_E_farthest (l : Launch) (D : va_G) (z : Nat → ClassId) (e : Nat) (e1 : Nat) (e2 : Nat) (e3 : Nat) (cnt : Nat) (hl : Int64) (hh : Int64) (nu : Nat → Nat) (lo : Nat → Int64) (hi : Nat → Int64) (hc6 : cnt ≤ 6) (hc1 : 1 ≤ cnt) : Ctr l D z y_E_farthest b_E_farthest 3 (some .int) { frames := 3, cells := 0, slots := 0, locals := 70 } [.ref e] [(e, .inr (0, [.int (nI cnt), .ref e1, .ref e2, .ref e3, .long hl, .long hh])), (e1, .inl (z 0, 6, .inl (aN nu))), (e2, .inl (z 1, 6, .inr (.inl lo))), (e3, .inl (z 1, 6, .inr (.inl hi)))] (fun v w => v = some (.int (nI (frS cnt lo hi (cnt - 1)))) ∧ w = [(e, .inr (0, [.int (nI cnt), .ref e1, .ref e2, .ref e3, .long hl, .long hh])), (e1, .inl (z 0, 6, .inl (aN nu))), (e2, .inl (z 1, 6, .inr (.inl lo))), (e3, .inl (z 1, 6, .inr (.inl hi)))]) 0 0 := by
  refine met_V (own := R_E) (nm := "farthest") (by decide +kernel) rfl rfl (Nat.le_of_ble_eq_true rfl) ?_
  intro κ hl hD hz X Y
  subst hl
  subst hD
  subst hz
  show V κ 3 0 0 0 [(0, .ref e)] [] [(e, .inr (0, [.int (nI cnt), .ref e1, .ref e2, .ref e3, .long hl, .long hh])), (e1, .inl (κ.z 0, 6, .inl (aN nu))), (e2, .inl (κ.z 1, 6, .inr (.inl lo))), (e3, .inl (κ.z 1, 6, .inr (.inl hi)))]
  refine v_iconst X 0 d_E_farthest_0 (by decide) ?_
  refine v_istore_n X d_E_farthest_1 rfl (by decide) (lv' := [(1, .int 0), (0, .ref e)]) rfl ?_
  refine v_iconst X 1 d_E_farthest_2 (by decide) ?_
  refine v_istore_n X d_E_farthest_3 rfl (by decide) (lv' := [(2, .int 1), (1, .int 0), (0, .ref e)]) rfl ?_
  show V κ 3 0 0 4 [(2, .int (nI (0 + 1))), (1, .int (nI (frS cnt lo hi 0))), (0, .ref e)] [] [(e, .inr (0, [.int (nI cnt), .ref e1, .ref e2, .ref e3, .long hl, .long hh])), (e1, .inl (κ.z 0, 6, .inl (aN nu))), (e2, .inl (κ.z 1, 6, .inr (.inl lo))), (e3, .inl (κ.z 1, 6, .inr (.inl hi)))]
  refine lp_far X e e1 e2 e3 cnt hl hh nu lo hi (by omega) (by omega)  ?_ ((cnt - 1) - 0) 0 (by omega)
  show V κ 3 0 0 34 [(2, .int (nI ((cnt - 1) + 1))), (1, .int (nI (frS cnt lo hi (cnt - 1)))), (0, .ref e)] [] [(e, .inr (0, [.int (nI cnt), .ref e1, .ref e2, .ref e3, .long hl, .long hh])), (e1, .inl (κ.z 0, 6, .inl (aN nu))), (e2, .inl (κ.z 1, 6, .inr (.inl lo))), (e3, .inl (κ.z 1, 6, .inr (.inl hi)))]
  refine v_iload_n X 1 d_E_farthest_34 rfl ?_
  exact v_iret X Y (by decide) (by decide) d_E_farthest_35 ⟨rfl, rfl⟩

def rmS (nu : Nat → Nat) (lo : Nat → Int64) (hi : Nat → Int64) (p : Nat) : Nat → (Nat → Nat) × (Nat → Int64) × (Nat → Int64)
  | 0 => (nu, lo, hi)
  | j + 1 => (va_up ((rmS nu lo hi p j).1) ((p + 1 + j) - 1) (((rmS nu lo hi p j).1) (p + 1 + j)), vp_updL ((rmS nu lo hi p j).2.1) ((p + 1 + j) - 1) (((rmS nu lo hi p j).2.1) (p + 1 + j)), vp_updL ((rmS nu lo hi p j).2.2) ((p + 1 + j) - 1) (((rmS nu lo hi p j).2.2) (p + 1 + j)))
set_option maxHeartbeats 4000000 in
set_option maxRecDepth 100000 in
theorem lp_remove {κ : VC} (X : Cx κ b_E_remove R_E { frames := 1, cells := 0, slots := 0, locals := 26 } 3) (e : Nat) (e1 : Nat) (e2 : Nat) (e3 : Nat) (cnt : Nat) (hl : Int64) (hh : Int64) (nu : Nat → Nat) (lo : Nat → Int64) (hi : Nat → Int64) (p : Nat) (hc6 : cnt ≤ 6) (hp9 : p < cnt)  (kk : V κ 3 0 0 43 [(2, .int (nI (p + 1 + (cnt - (p + 1))))), (0, .ref e), (1, .int (nI p))] [] [(e, .inr (0, [.int (nI cnt), .ref e1, .ref e2, .ref e3, .long hl, .long hh])), (e1, .inl (κ.z 0, 6, .inl (aN ((rmS nu lo hi p (cnt - (p + 1))).1)))), (e2, .inl (κ.z 1, 6, .inr (.inl ((rmS nu lo hi p (cnt - (p + 1))).2.1)))), (e3, .inl (κ.z 1, 6, .inr (.inl ((rmS nu lo hi p (cnt - (p + 1))).2.2))))]) : ∀ (d9 j : Nat), j + d9 = cnt - (p + 1) → V κ 3 0 0 4 [(2, .int (nI (p + 1 + j))), (0, .ref e), (1, .int (nI p))] [] [(e, .inr (0, [.int (nI cnt), .ref e1, .ref e2, .ref e3, .long hl, .long hh])), (e1, .inl (κ.z 0, 6, .inl (aN ((rmS nu lo hi p j).1)))), (e2, .inl (κ.z 1, 6, .inr (.inl ((rmS nu lo hi p j).2.1)))), (e3, .inl (κ.z 1, 6, .inr (.inl ((rmS nu lo hi p j).2.2))))] := by
  intro d9
  induction d9 with
  | zero =>
    intro j hj 
    have e9 : j = cnt - (p + 1) := by omega
    rw [e9]
    show V κ 3 0 0 4 [(2, .int (nI (p + 1 + (cnt - (p + 1))))), (0, .ref e), (1, .int (nI p))] [] [(e, .inr (0, [.int (nI cnt), .ref e1, .ref e2, .ref e3, .long hl, .long hh])), (e1, .inl (κ.z 0, 6, .inl (aN ((rmS nu lo hi p (cnt - (p + 1))).1)))), (e2, .inl (κ.z 1, 6, .inr (.inl ((rmS nu lo hi p (cnt - (p + 1))).2.1)))), (e3, .inl (κ.z 1, 6, .inr (.inl ((rmS nu lo hi p (cnt - (p + 1))).2.2))))]
    refine v_iload_n X 0 d_E_remove_4 rfl ?_
    refine v_aload_n X 1 d_E_remove_5 rfl ?_
    refine v_get X 0 0 rfl rfl li_E (by decide) m105 rfl d_E_remove_6 ?_
    refine v_icmpN_ge X 43 (a := (p + 1 + (cnt - (p + 1)))) (b := cnt) d_E_remove_9 (by decide) (by omega) (by omega) (fun c9 => ?_) (fun c9 => by omega)
    exact kk
  | succ d9 ih =>
    intro j hj 
    show V κ 3 0 0 4 [(2, .int (nI (p + 1 + j))), (0, .ref e), (1, .int (nI p))] [] [(e, .inr (0, [.int (nI cnt), .ref e1, .ref e2, .ref e3, .long hl, .long hh])), (e1, .inl (κ.z 0, 6, .inl (aN ((rmS nu lo hi p j).1)))), (e2, .inl (κ.z 1, 6, .inr (.inl ((rmS nu lo hi p j).2.1)))), (e3, .inl (κ.z 1, 6, .inr (.inl ((rmS nu lo hi p j).2.2))))]
    refine v_iload_n X 0 d_E_remove_4 rfl ?_
    refine v_aload_n X 1 d_E_remove_5 rfl ?_
    refine v_get X 0 0 rfl rfl li_E (by decide) m105 rfl d_E_remove_6 ?_
    refine v_icmpN_ge X 43 (a := (p + 1 + j)) (b := cnt) d_E_remove_9 (by decide) (by omega) (by omega) (fun c9 => by omega) (fun c9 => ?_)
    refine v_aload_n X 1 d_E_remove_12 rfl ?_
    refine v_iload_n X 0 d_E_remove_13 rfl ?_
    refine v_iconst X 1 d_E_remove_14 (by decide) ?_
    refine v_isubN X (a := (p + 1 + j)) (b := 1) d_E_remove_15 (by omega) ?_
    refine v_aload_n X 1 d_E_remove_16 rfl ?_
    refine v_get X 0 1 rfl rfl li_E (by decide) m107 rfl d_E_remove_17 ?_
    refine v_iload_n X 0 d_E_remove_20 rfl ?_
    refine v_naldN X 1 0 (j := (p + 1 + j)) rfl rfl (by omega) (by omega) d_E_remove_21 ?_
    refine v_aload_n X 1 d_E_remove_22 rfl ?_
    refine v_get X 0 2 rfl rfl li_E (by decide) m109 rfl d_E_remove_23 ?_
    show V κ 3 0 0 26 [(2, .int (nI (p + 1 + j))), (0, .ref e), (1, .int (nI p))] [.ref e2, .int (nI (((rmS nu lo hi p j).1) (p + 1 + j))), .int (nI ((p + 1 + j) - 1)), .ref e] [(e, .inr (0, [.int (nI cnt), .ref e1, .ref e2, .ref e3, .long hl, .long hh])), (e1, .inl (κ.z 0, 6, .inl (aN ((rmS nu lo hi p j).1)))), (e2, .inl (κ.z 1, 6, .inr (.inl ((rmS nu lo hi p j).2.1)))), (e3, .inl (κ.z 1, 6, .inr (.inl ((rmS nu lo hi p j).2.2))))]
    refine v_iload_n X 0 d_E_remove_26 rfl ?_
    refine v_laldN X 2 1 (j := (p + 1 + j)) rfl rfl (by omega) (by omega) d_E_remove_27 ?_
    refine v_aload_n X 1 d_E_remove_28 rfl ?_
    refine v_get X 0 3 rfl rfl li_E (by decide) m110 rfl d_E_remove_29 ?_
    refine v_iload_n X 0 d_E_remove_32 rfl ?_
    refine v_laldN X 3 1 (j := (p + 1 + j)) rfl rfl (by omega) (by omega) d_E_remove_33 ?_
    refine v_callV X (b := e) (n9 := 4) (As := [.int (nI ((p + 1 + j) - 1)), .int (nI (((rmS nu lo hi p j).1) (p + 1 + j))), .long (((rmS nu lo hi p j).2.1) (p + 1 + j)), .long (((rmS nu lo hi p j).2.2) (p + 1 + j))]) (rest := []) (wc := [(e, .inr (0, [.int (nI cnt), .ref e1, .ref e2, .ref e3, .long hl, .long hh])), (e1, .inl (κ.z 0, 6, .inl (aN ((rmS nu lo hi p j).1)))), (e2, .inl (κ.z 1, 6, .inr (.inl ((rmS nu lo hi p j).2.1)))), (e3, .inl (κ.z 1, 6, .inr (.inl ((rmS nu lo hi p j).2.2))))]) (wr := []) (c_E_put κ.l κ.D κ.z e e1 e2 e3 cnt hl hh ((rmS nu lo hi p j).1) ((rmS nu lo hi p j).2.1) ((rmS nu lo hi p j).2.2) ((p + 1 + j) - 1) (((rmS nu lo hi p j).1) (p + 1 + j)) (((rmS nu lo hi p j).2.1) (p + 1 + j)) (((rmS nu lo hi p j).2.2) (p + 1 + j)) (by omega)) 0 rfl rfl m286 m287 m5 m34 (by decide +kernel) rfl (Nat.le_of_ble_eq_true rfl) ⟨by decide, by decide⟩ ⟨by decide, by decide⟩ rfl rfl m288 d_E_remove_34 (fun v w1 hg => ?_)
    obtain ⟨rfl, rfl⟩ := hg
    show V κ 3 0 0 37 [(2, .int (nI (p + 1 + j))), (0, .ref e), (1, .int (nI p))] [] [(e, .inr (0, [.int (nI cnt), .ref e1, .ref e2, .ref e3, .long hl, .long hh])), (e1, .inl (κ.z 0, 6, .inl (aN (va_up ((rmS nu lo hi p j).1) ((p + 1 + j) - 1) (((rmS nu lo hi p j).1) (p + 1 + j)))))), (e2, .inl (κ.z 1, 6, .inr (.inl (vp_updL ((rmS nu lo hi p j).2.1) ((p + 1 + j) - 1) (((rmS nu lo hi p j).2.1) (p + 1 + j)))))), (e3, .inl (κ.z 1, 6, .inr (.inl (vp_updL ((rmS nu lo hi p j).2.2) ((p + 1 + j) - 1) (((rmS nu lo hi p j).2.2) (p + 1 + j))))))]
    refine v_iinc X 0 d_E_remove_37 (x := nI (p + 1 + j)) rfl (v := nI ((p + 1 + j) + 1)) (nI_1 _) (by decide) (lv' := [(2, .int (nI ((p + 1 + j) + 1))), (0, .ref e), (1, .int (nI p))]) rfl ?_
    refine v_goto X 4 d_E_remove_40 (by decide) ?_
    exact v_eq rfl (by rfl) rfl (by rfl) (ih (j + 1) (by omega))

set_option maxHeartbeats 4000000 in
set_option maxRecDepth 100000 in
theorem c_E_remove (l : Launch) (D : va_G) (z : Nat → ClassId) (e : Nat) (e1 : Nat) (e2 : Nat) (e3 : Nat) (cnt : Nat) (hl : Int64) (hh : Int64) (nu : Nat → Nat) (lo : Nat → Int64) (hi : Nat → Int64) (p : Nat) (hc6 : cnt ≤ 6) (hp9 : p < cnt) : Ctr l D z y_E_remove b_E_remove 3 none { frames := 1, cells := 0, slots := 0, locals := 26 } [.ref e, .int (nI p)] [(e, .inr (0, [.int (nI cnt), .ref e1, .ref e2, .ref e3, .long hl, .long hh])), (e1, .inl (z 0, 6, .inl (aN nu))), (e2, .inl (z 1, 6, .inr (.inl lo))), (e3, .inl (z 1, 6, .inr (.inl hi)))] (fun v w => v = none ∧ w = [(e, .inr (0, [.int (nI (cnt - 1)), .ref e1, .ref e2, .ref e3, .long hl, .long hh])), (e1, .inl (z 0, 6, .inl (aN ((rmS nu lo hi p (cnt - (p + 1))).1)))), (e2, .inl (z 1, 6, .inr (.inl ((rmS nu lo hi p (cnt - (p + 1))).2.1)))), (e3, .inl (z 1, 6, .inr (.inl ((rmS nu lo hi p (cnt - (p + 1))).2.2))))]) 0 0 := by
  refine met_V (own := R_E) (nm := "remove") (by decide +kernel) rfl rfl (Nat.le_of_ble_eq_true rfl) ?_
  intro κ hl hD hz X Y
  subst hl
  subst hD
  subst hz
  show V κ 3 0 0 0 [(0, .ref e), (1, .int (nI p))] [] [(e, .inr (0, [.int (nI cnt), .ref e1, .ref e2, .ref e3, .long hl, .long hh])), (e1, .inl (κ.z 0, 6, .inl (aN nu))), (e2, .inl (κ.z 1, 6, .inr (.inl lo))), (e3, .inl (κ.z 1, 6, .inr (.inl hi)))]
  refine v_iload_n X 1 d_E_remove_0 rfl ?_
  refine v_iconst X 1 d_E_remove_1 (by decide) ?_
  refine v_iaddN X (a := p) (b := 1) d_E_remove_2 ?_
  refine v_istore_n X d_E_remove_3 rfl (by decide) (lv' := [(2, .int (nI (p + 1))), (0, .ref e), (1, .int (nI p))]) rfl ?_
  show V κ 3 0 0 4 [(2, .int (nI (p + 1 + 0))), (0, .ref e), (1, .int (nI p))] [] [(e, .inr (0, [.int (nI cnt), .ref e1, .ref e2, .ref e3, .long hl, .long hh])), (e1, .inl (κ.z 0, 6, .inl (aN ((rmS nu lo hi p 0).1)))), (e2, .inl (κ.z 1, 6, .inr (.inl ((rmS nu lo hi p 0).2.1)))), (e3, .inl (κ.z 1, 6, .inr (.inl ((rmS nu lo hi p 0).2.2))))]
  refine lp_remove X e e1 e2 e3 cnt hl hh nu lo hi p (by omega) (by omega)  ?_ ((cnt - (p + 1)) - 0) 0 (by omega)
  show V κ 3 0 0 43 [(2, .int (nI (p + 1 + (cnt - (p + 1))))), (0, .ref e), (1, .int (nI p))] [] [(e, .inr (0, [.int (nI cnt), .ref e1, .ref e2, .ref e3, .long hl, .long hh])), (e1, .inl (κ.z 0, 6, .inl (aN ((rmS nu lo hi p (cnt - (p + 1))).1)))), (e2, .inl (κ.z 1, 6, .inr (.inl ((rmS nu lo hi p (cnt - (p + 1))).2.1)))), (e3, .inl (κ.z 1, 6, .inr (.inl ((rmS nu lo hi p (cnt - (p + 1))).2.2))))]
  refine v_aload_n X 1 d_E_remove_43 rfl ?_
  refine v_dup X d_E_remove_44 rfl ?_
  refine v_get X 0 0 rfl rfl li_E (by decide) m105 rfl d_E_remove_45 ?_
  refine v_iconst X 1 d_E_remove_48 (by decide) ?_
  refine v_isubN X (a := cnt) (b := 1) d_E_remove_49 (by omega) ?_
  refine v_put X 0 0 (v := .int (nI (cnt - 1))) (ty := .int) ty_E tk_E n_E rfl rfl li_E (by decide) m105 rfl (by decide +kernel) rfl rfl (Nat.le_of_ble_eq_true rfl) d_E_remove_50 (ws' := [(e, .inr (0, [.int (nI (cnt - 1)), .ref e1, .ref e2, .ref e3, .long hl, .long hh])), (e1, .inl (κ.z 0, 6, .inl (aN ((rmS nu lo hi p (cnt - (p + 1))).1)))), (e2, .inl (κ.z 1, 6, .inr (.inl ((rmS nu lo hi p (cnt - (p + 1))).2.1)))), (e3, .inl (κ.z 1, 6, .inr (.inl ((rmS nu lo hi p (cnt - (p + 1))).2.2))))]) rfl ?_
  exact v_vret X Y (by decide) (by decide) d_E_remove_53 ⟨rfl, rfl⟩

def clS (cnt : Nat) (nu : Nat → Nat) (lo : Nat → Int64) (hi : Nat → Int64) : Nat → (Nat → Nat) × (Nat → Int64) × (Nat → Int64)
  | 0 => (nu, lo, hi)
  | j + 1 => ((rmS ((clS cnt nu lo hi j).1) ((clS cnt nu lo hi j).2.1) ((clS cnt nu lo hi j).2.2) (frS (cnt - j) ((clS cnt nu lo hi j).2.1) ((clS cnt nu lo hi j).2.2) ((cnt - j) - 1)) ((cnt - j) - ((frS (cnt - j) ((clS cnt nu lo hi j).2.1) ((clS cnt nu lo hi j).2.2) ((cnt - j) - 1)) + 1))).1, (rmS ((clS cnt nu lo hi j).1) ((clS cnt nu lo hi j).2.1) ((clS cnt nu lo hi j).2.2) (frS (cnt - j) ((clS cnt nu lo hi j).2.1) ((clS cnt nu lo hi j).2.2) ((cnt - j) - 1)) ((cnt - j) - ((frS (cnt - j) ((clS cnt nu lo hi j).2.1) ((clS cnt nu lo hi j).2.2) ((cnt - j) - 1)) + 1))).2.1, (rmS ((clS cnt nu lo hi j).1) ((clS cnt nu lo hi j).2.1) ((clS cnt nu lo hi j).2.2) (frS (cnt - j) ((clS cnt nu lo hi j).2.1) ((clS cnt nu lo hi j).2.2) ((cnt - j) - 1)) ((cnt - j) - ((frS (cnt - j) ((clS cnt nu lo hi j).2.1) ((clS cnt nu lo hi j).2.2) ((cnt - j) - 1)) + 1))).2.2)
set_option maxHeartbeats 4000000 in
set_option maxRecDepth 100000 in
theorem lp_close {κ : VC} (X : Cx κ b_E_keepTheClosest R_E { frames := 4, cells := 0, slots := 0, locals := 92 } 2) (e : Nat) (e1 : Nat) (e2 : Nat) (e3 : Nat) (cnt : Nat) (hl : Int64) (hh : Int64) (nu : Nat → Nat) (lo : Nat → Int64) (hi : Nat → Int64) (hc6 : cnt ≤ 6)  (kk : V κ 2 0 0 24 [(1, .int (nI (cnt - (cnt - 3)))), (0, .ref e)] [] [(e, .inr (0, [.int (nI (cnt - (cnt - 3))), .ref e1, .ref e2, .ref e3, .long hl, .long hh])), (e1, .inl (κ.z 0, 6, .inl (aN ((clS cnt nu lo hi (cnt - 3)).1)))), (e2, .inl (κ.z 1, 6, .inr (.inl ((clS cnt nu lo hi (cnt - 3)).2.1)))), (e3, .inl (κ.z 1, 6, .inr (.inl ((clS cnt nu lo hi (cnt - 3)).2.2))))]) : ∀ (d9 j : Nat), j + d9 = cnt - 3 → V κ 2 0 0 5 [(1, .int (nI (cnt - j))), (0, .ref e)] [] [(e, .inr (0, [.int (nI (cnt - j)), .ref e1, .ref e2, .ref e3, .long hl, .long hh])), (e1, .inl (κ.z 0, 6, .inl (aN ((clS cnt nu lo hi j).1)))), (e2, .inl (κ.z 1, 6, .inr (.inl ((clS cnt nu lo hi j).2.1)))), (e3, .inl (κ.z 1, 6, .inr (.inl ((clS cnt nu lo hi j).2.2))))] := by
  intro d9
  induction d9 with
  | zero =>
    intro j hj 
    have e9 : j = cnt - 3 := by omega
    rw [e9]
    show V κ 2 0 0 5 [(1, .int (nI (cnt - (cnt - 3)))), (0, .ref e)] [] [(e, .inr (0, [.int (nI (cnt - (cnt - 3))), .ref e1, .ref e2, .ref e3, .long hl, .long hh])), (e1, .inl (κ.z 0, 6, .inl (aN ((clS cnt nu lo hi (cnt - 3)).1)))), (e2, .inl (κ.z 1, 6, .inr (.inl ((clS cnt nu lo hi (cnt - 3)).2.1)))), (e3, .inl (κ.z 1, 6, .inr (.inl ((clS cnt nu lo hi (cnt - 3)).2.2))))]
    refine v_iload_n X 0 d_E_keepTheClosest_5 rfl ?_
    refine v_iconst X 3 d_E_keepTheClosest_6 (by decide) ?_
    refine v_icmpN_le X 24 (a := (cnt - (cnt - 3))) (b := 3) d_E_keepTheClosest_7 (by decide) (by omega) (by omega) (fun c7 => ?_) (fun c7 => by omega)
    exact kk
  | succ d9 ih =>
    intro j hj 
    show V κ 2 0 0 5 [(1, .int (nI (cnt - j))), (0, .ref e)] [] [(e, .inr (0, [.int (nI (cnt - j)), .ref e1, .ref e2, .ref e3, .long hl, .long hh])), (e1, .inl (κ.z 0, 6, .inl (aN ((clS cnt nu lo hi j).1)))), (e2, .inl (κ.z 1, 6, .inr (.inl ((clS cnt nu lo hi j).2.1)))), (e3, .inl (κ.z 1, 6, .inr (.inl ((clS cnt nu lo hi j).2.2))))]
    refine v_iload_n X 0 d_E_keepTheClosest_5 rfl ?_
    refine v_iconst X 3 d_E_keepTheClosest_6 (by decide) ?_
    refine v_icmpN_le X 24 (a := (cnt - j)) (b := 3) d_E_keepTheClosest_7 (by decide) (by omega) (by omega) (fun c7 => by omega) (fun c7 => ?_)
    refine v_aload_n X 1 d_E_keepTheClosest_10 rfl ?_
    refine v_aload_n X 1 d_E_keepTheClosest_11 rfl ?_
    refine v_callV X (b := e) (n9 := 0) (As := []) (rest := [.ref e]) (wc := [(e, .inr (0, [.int (nI (cnt - j)), .ref e1, .ref e2, .ref e3, .long hl, .long hh])), (e1, .inl (κ.z 0, 6, .inl (aN ((clS cnt nu lo hi j).1)))), (e2, .inl (κ.z 1, 6, .inr (.inl ((clS cnt nu lo hi j).2.1)))), (e3, .inl (κ.z 1, 6, .inr (.inl ((clS cnt nu lo hi j).2.2))))]) (wr := []) (c_E_farthest κ.l κ.D κ.z e e1 e2 e3 (cnt - j) hl hh ((clS cnt nu lo hi j).1) ((clS cnt nu lo hi j).2.1) ((clS cnt nu lo hi j).2.2) (by omega) (by omega)) 0 rfl rfl m313 m314 m8 m34 (by decide +kernel) rfl (Nat.le_of_ble_eq_true rfl) ⟨by decide, by decide⟩ ⟨by decide, by decide⟩ rfl rfl m315 d_E_keepTheClosest_12 (fun v w1 hg => ?_)
    obtain ⟨rfl, rfl⟩ := hg
    show V κ 2 0 0 15 [(1, .int (nI (cnt - j))), (0, .ref e)] [.int (nI (frS (cnt - j) ((clS cnt nu lo hi j).2.1) ((clS cnt nu lo hi j).2.2) ((cnt - j) - 1))), .ref e] [(e, .inr (0, [.int (nI (cnt - j)), .ref e1, .ref e2, .ref e3, .long hl, .long hh])), (e1, .inl (κ.z 0, 6, .inl (aN ((clS cnt nu lo hi j).1)))), (e2, .inl (κ.z 1, 6, .inr (.inl ((clS cnt nu lo hi j).2.1)))), (e3, .inl (κ.z 1, 6, .inr (.inl ((clS cnt nu lo hi j).2.2))))]
    refine v_callV X (b := e) (n9 := 1) (As := [.int (nI (frS (cnt - j) ((clS cnt nu lo hi j).2.1) ((clS cnt nu lo hi j).2.2) ((cnt - j) - 1)))]) (rest := []) (wc := [(e, .inr (0, [.int (nI (cnt - j)), .ref e1, .ref e2, .ref e3, .long hl, .long hh])), (e1, .inl (κ.z 0, 6, .inl (aN ((clS cnt nu lo hi j).1)))), (e2, .inl (κ.z 1, 6, .inr (.inl ((clS cnt nu lo hi j).2.1)))), (e3, .inl (κ.z 1, 6, .inr (.inl ((clS cnt nu lo hi j).2.2))))]) (wr := []) (c_E_remove κ.l κ.D κ.z e e1 e2 e3 (cnt - j) hl hh ((clS cnt nu lo hi j).1) ((clS cnt nu lo hi j).2.1) ((clS cnt nu lo hi j).2.2) (frS (cnt - j) ((clS cnt nu lo hi j).2.1) ((clS cnt nu lo hi j).2.2) ((cnt - j) - 1)) (by omega) (by have h9 := frS_le (cnt - j) ((clS cnt nu lo hi j).2.1) ((clS cnt nu lo hi j).2.2) (cnt - j - 1); omega)) 0 rfl rfl m327 m328 m11 m34 (by decide +kernel) rfl (Nat.le_of_ble_eq_true rfl) ⟨by decide, by decide⟩ ⟨by decide, by decide⟩ rfl rfl m329 d_E_keepTheClosest_15 (fun v w1 hg => ?_)
    obtain ⟨rfl, rfl⟩ := hg
    show V κ 2 0 0 18 [(1, .int (nI (cnt - j))), (0, .ref e)] [] [(e, .inr (0, [.int (nI ((cnt - j) - 1)), .ref e1, .ref e2, .ref e3, .long hl, .long hh])), (e1, .inl (κ.z 0, 6, .inl (aN ((rmS ((clS cnt nu lo hi j).1) ((clS cnt nu lo hi j).2.1) ((clS cnt nu lo hi j).2.2) (frS (cnt - j) ((clS cnt nu lo hi j).2.1) ((clS cnt nu lo hi j).2.2) ((cnt - j) - 1)) ((cnt - j) - ((frS (cnt - j) ((clS cnt nu lo hi j).2.1) ((clS cnt nu lo hi j).2.2) ((cnt - j) - 1)) + 1))).1)))), (e2, .inl (κ.z 1, 6, .inr (.inl ((rmS ((clS cnt nu lo hi j).1) ((clS cnt nu lo hi j).2.1) ((clS cnt nu lo hi j).2.2) (frS (cnt - j) ((clS cnt nu lo hi j).2.1) ((clS cnt nu lo hi j).2.2) ((cnt - j) - 1)) ((cnt - j) - ((frS (cnt - j) ((clS cnt nu lo hi j).2.1) ((clS cnt nu lo hi j).2.2) ((cnt - j) - 1)) + 1))).2.1)))), (e3, .inl (κ.z 1, 6, .inr (.inl ((rmS ((clS cnt nu lo hi j).1) ((clS cnt nu lo hi j).2.1) ((clS cnt nu lo hi j).2.2) (frS (cnt - j) ((clS cnt nu lo hi j).2.1) ((clS cnt nu lo hi j).2.2) ((cnt - j) - 1)) ((cnt - j) - ((frS (cnt - j) ((clS cnt nu lo hi j).2.1) ((clS cnt nu lo hi j).2.2) ((cnt - j) - 1)) + 1))).2.2))))]
    refine v_iinc X 0 d_E_keepTheClosest_18 (x := nI (cnt - j)) rfl (v := nI ((cnt - j) - 1)) (nI_m1 (by omega)) (by decide) (lv' := [(1, .int (nI ((cnt - j) - 1))), (0, .ref e)]) rfl ?_
    refine v_goto X 5 d_E_keepTheClosest_21 (by decide) ?_
    exact v_eq rfl (by rfl) rfl (by rfl) (ih (j + 1) (by omega))

set_option maxHeartbeats 4000000 in
set_option maxRecDepth 100000 in
theorem c_E_keepTheClosest (l : Launch) (D : va_G) (z : Nat → ClassId) (e : Nat) (e1 : Nat) (e2 : Nat) (e3 : Nat) (cnt : Nat) (hl : Int64) (hh : Int64) (nu : Nat → Nat) (lo : Nat → Int64) (hi : Nat → Int64) (hc6 : cnt ≤ 6) : Ctr l D z y_E_keepTheClosest b_E_keepTheClosest 2 none { frames := 4, cells := 0, slots := 0, locals := 92 } [.ref e] [(e, .inr (0, [.int (nI cnt), .ref e1, .ref e2, .ref e3, .long hl, .long hh])), (e1, .inl (z 0, 6, .inl (aN nu))), (e2, .inl (z 1, 6, .inr (.inl lo))), (e3, .inl (z 1, 6, .inr (.inl hi)))] (fun v w => v = none ∧ w = [(e, .inr (0, [.int (nI (cnt - (cnt - 3))), .ref e1, .ref e2, .ref e3, .long hl, .long hh])), (e1, .inl (z 0, 6, .inl (aN ((clS cnt nu lo hi (cnt - 3)).1)))), (e2, .inl (z 1, 6, .inr (.inl ((clS cnt nu lo hi (cnt - 3)).2.1)))), (e3, .inl (z 1, 6, .inr (.inl ((clS cnt nu lo hi (cnt - 3)).2.2))))]) 0 0 := by
  refine met_V (own := R_E) (nm := "keepTheClosest") (by decide +kernel) rfl rfl (Nat.le_of_ble_eq_true rfl) ?_
  intro κ hl hD hz X Y
  subst hl
  subst hD
  subst hz
  show V κ 2 0 0 0 [(0, .ref e)] [] [(e, .inr (0, [.int (nI cnt), .ref e1, .ref e2, .ref e3, .long hl, .long hh])), (e1, .inl (κ.z 0, 6, .inl (aN nu))), (e2, .inl (κ.z 1, 6, .inr (.inl lo))), (e3, .inl (κ.z 1, 6, .inr (.inl hi)))]
  refine v_aload_n X 0 d_E_keepTheClosest_0 rfl ?_
  refine v_get X 0 0 rfl rfl li_E (by decide) m105 rfl d_E_keepTheClosest_1 ?_
  refine v_istore_n X d_E_keepTheClosest_4 rfl (by decide) (lv' := [(1, .int (nI cnt)), (0, .ref e)]) rfl ?_
  show V κ 2 0 0 5 [(1, .int (nI (cnt - 0))), (0, .ref e)] [] [(e, .inr (0, [.int (nI (cnt - 0)), .ref e1, .ref e2, .ref e3, .long hl, .long hh])), (e1, .inl (κ.z 0, 6, .inl (aN ((clS cnt nu lo hi 0).1)))), (e2, .inl (κ.z 1, 6, .inr (.inl ((clS cnt nu lo hi 0).2.1)))), (e3, .inl (κ.z 1, 6, .inr (.inl ((clS cnt nu lo hi 0).2.2))))]
  refine lp_close X e e1 e2 e3 cnt hl hh nu lo hi (by omega)  ?_ ((cnt - 3) - 0) 0 (by omega)
  show V κ 2 0 0 24 [(1, .int (nI (cnt - (cnt - 3)))), (0, .ref e)] [] [(e, .inr (0, [.int (nI (cnt - (cnt - 3))), .ref e1, .ref e2, .ref e3, .long hl, .long hh])), (e1, .inl (κ.z 0, 6, .inl (aN ((clS cnt nu lo hi (cnt - 3)).1)))), (e2, .inl (κ.z 1, 6, .inr (.inl ((clS cnt nu lo hi (cnt - 3)).2.1)))), (e3, .inl (κ.z 1, 6, .inr (.inl ((clS cnt nu lo hi (cnt - 3)).2.2))))]
  exact v_vret X Y (by decide) (by decide) d_E_keepTheClosest_24 ⟨rfl, rfl⟩

def tgS (lo : Nat → Int64) (hi : Nat → Int64) : Nat → Int64
  | 0 => 0
  | j + 1 => (tgS lo hi j) + (f_J_floorDiv ((lo j) + (hi j)) 2)
theorem nI_lne {c : Nat} (h : ¬ c = 0) (hc : c < 2 ^ 31) : ¬ (nI c).toInt64 = 0 := by
  rw [nI_l hc]
  intro q
  exact h ((lN_eq hc (b := 0) (by decide)).mp q)
set_option maxHeartbeats 4000000 in
set_option maxRecDepth 100000 in
theorem lp_target {κ : VC} (X : Cx κ b_E_target R_E { frames := 2, cells := 0, slots := 0, locals := 46 } 5) (e : Nat) (e1 : Nat) (e2 : Nat) (e3 : Nat) (cnt : Nat) (hl : Int64) (hh : Int64) (nu : Nat → Nat) (lo : Nat → Int64) (hi : Nat → Int64) (hc6 : cnt ≤ 6)  (kk : V κ 5 0 0 26 [(3, .int (nI cnt)), (1, .long (tgS lo hi cnt)), (0, .ref e)] [] [(e, .inr (0, [.int (nI cnt), .ref e1, .ref e2, .ref e3, .long hl, .long hh])), (e1, .inl (κ.z 0, 6, .inl (aN nu))), (e2, .inl (κ.z 1, 6, .inr (.inl lo))), (e3, .inl (κ.z 1, 6, .inr (.inl hi)))]) : ∀ (d9 j : Nat), j + d9 = cnt → V κ 5 0 0 4 [(3, .int (nI j)), (1, .long (tgS lo hi j)), (0, .ref e)] [] [(e, .inr (0, [.int (nI cnt), .ref e1, .ref e2, .ref e3, .long hl, .long hh])), (e1, .inl (κ.z 0, 6, .inl (aN nu))), (e2, .inl (κ.z 1, 6, .inr (.inl lo))), (e3, .inl (κ.z 1, 6, .inr (.inl hi)))] := by
  intro d9
  induction d9 with
  | zero =>
    intro j hj 
    have e9 : j = cnt := by omega
    rw [e9]
    show V κ 5 0 0 4 [(3, .int (nI cnt)), (1, .long (tgS lo hi cnt)), (0, .ref e)] [] [(e, .inr (0, [.int (nI cnt), .ref e1, .ref e2, .ref e3, .long hl, .long hh])), (e1, .inl (κ.z 0, 6, .inl (aN nu))), (e2, .inl (κ.z 1, 6, .inr (.inl lo))), (e3, .inl (κ.z 1, 6, .inr (.inl hi)))]
    refine v_iload_n X 0 d_E_target_4 rfl ?_
    refine v_aload_n X 2 d_E_target_5 rfl ?_
    refine v_get X 0 0 rfl rfl li_E (by decide) m105 rfl d_E_target_6 ?_
    refine v_icmpN_ge X 26 (a := cnt) (b := cnt) d_E_target_9 (by decide) (by omega) (by omega) (fun c9 => ?_) (fun c9 => by omega)
    exact kk
  | succ d9 ih =>
    intro j hj 
    show V κ 5 0 0 4 [(3, .int (nI j)), (1, .long (tgS lo hi j)), (0, .ref e)] [] [(e, .inr (0, [.int (nI cnt), .ref e1, .ref e2, .ref e3, .long hl, .long hh])), (e1, .inl (κ.z 0, 6, .inl (aN nu))), (e2, .inl (κ.z 1, 6, .inr (.inl lo))), (e3, .inl (κ.z 1, 6, .inr (.inl hi)))]
    refine v_iload_n X 0 d_E_target_4 rfl ?_
    refine v_aload_n X 2 d_E_target_5 rfl ?_
    refine v_get X 0 0 rfl rfl li_E (by decide) m105 rfl d_E_target_6 ?_
    refine v_icmpN_ge X 26 (a := j) (b := cnt) d_E_target_9 (by decide) (by omega) (by omega) (fun c9 => by omega) (fun c9 => ?_)
    refine v_lload_n X 1 d_E_target_12 rfl ?_
    refine v_aload_n X 2 d_E_target_13 rfl ?_
    refine v_iload_n X 0 d_E_target_14 rfl ?_
    refine v_callV X (b := e) (n9 := 1) (As := [.int (nI j)]) (rest := [.long (tgS lo hi j)]) (wc := [(e, .inr (0, [.int (nI cnt), .ref e1, .ref e2, .ref e3, .long hl, .long hh])), (e1, .inl (κ.z 0, 6, .inl (aN nu))), (e2, .inl (κ.z 1, 6, .inr (.inl lo))), (e3, .inl (κ.z 1, 6, .inr (.inl hi)))]) (wr := []) (c_E_middle κ.l κ.D κ.z e e1 e2 e3 cnt hl hh nu lo hi j (by omega)) 0 rfl rfl m319 m320 m10 m34 (by decide +kernel) rfl (Nat.le_of_ble_eq_true rfl) ⟨by decide, by decide⟩ ⟨by decide, by decide⟩ rfl rfl m321 d_E_target_15 (fun v w1 hg => ?_)
    obtain ⟨rfl, rfl⟩ := hg
    show V κ 5 0 0 18 [(3, .int (nI j)), (1, .long (tgS lo hi j)), (0, .ref e)] [.long (f_J_floorDiv ((lo j) + (hi j)) 2), .long (tgS lo hi j)] [(e, .inr (0, [.int (nI cnt), .ref e1, .ref e2, .ref e3, .long hl, .long hh])), (e1, .inl (κ.z 0, 6, .inl (aN nu))), (e2, .inl (κ.z 1, 6, .inr (.inl lo))), (e3, .inl (κ.z 1, 6, .inr (.inl hi)))]
    refine v_ladd X d_E_target_18 ?_
    refine v_lstore_n X d_E_target_19 rfl (by decide) (lv' := [(1, .long ((tgS lo hi j) + (f_J_floorDiv ((lo j) + (hi j)) 2))), (3, .int (nI j)), (0, .ref e)]) rfl ?_
    refine v_iinc X 1 d_E_target_20 (x := nI j) rfl (v := nI (j + 1)) (nI_1 _) (by decide) (lv' := [(3, .int (nI (j + 1))), (1, .long ((tgS lo hi j) + (f_J_floorDiv ((lo j) + (hi j)) 2))), (0, .ref e)]) rfl ?_
    refine v_goto X 4 d_E_target_23 (by decide) ?_
    exact v_eq rfl (by rfl) rfl (by rfl) (ih (j + 1) (by omega))

def f_E_target (cnt : Nat) (hl : Int64) (hh : Int64) (lo : Nat → Int64) (hi : Nat → Int64) : Int64 := f_J_max_JJ hl (f_J_min_JJ hh (if cnt = 0 then 0 else f_J_floorDiv (tgS lo hi cnt) ((nI cnt).toInt64)))
set_option maxHeartbeats 4000000 in
set_option maxRecDepth 100000 in
theorem c_E_target (l : Launch) (D : va_G) (z : Nat → ClassId) (e : Nat) (e1 : Nat) (e2 : Nat) (e3 : Nat) (cnt : Nat) (hl : Int64) (hh : Int64) (nu : Nat → Nat) (lo : Nat → Int64) (hi : Nat → Int64) (hc6 : cnt ≤ 6) : Ctr l D z y_E_target b_E_target 5 (some .long) { frames := 2, cells := 0, slots := 0, locals := 46 } [.ref e] [(e, .inr (0, [.int (nI cnt), .ref e1, .ref e2, .ref e3, .long hl, .long hh])), (e1, .inl (z 0, 6, .inl (aN nu))), (e2, .inl (z 1, 6, .inr (.inl lo))), (e3, .inl (z 1, 6, .inr (.inl hi)))] (fun v w => v = some (.long (f_E_target cnt hl hh lo hi)) ∧ w = [(e, .inr (0, [.int (nI cnt), .ref e1, .ref e2, .ref e3, .long hl, .long hh])), (e1, .inl (z 0, 6, .inl (aN nu))), (e2, .inl (z 1, 6, .inr (.inl lo))), (e3, .inl (z 1, 6, .inr (.inl hi)))]) 0 0 := by
  refine met_V (own := R_E) (nm := "target") (by decide +kernel) rfl rfl (Nat.le_of_ble_eq_true rfl) ?_
  intro κ hl hD hz X Y
  subst hl
  subst hD
  subst hz
  show V κ 5 0 0 0 [(0, .ref e)] [] [(e, .inr (0, [.int (nI cnt), .ref e1, .ref e2, .ref e3, .long hl, .long hh])), (e1, .inl (κ.z 0, 6, .inl (aN nu))), (e2, .inl (κ.z 1, 6, .inr (.inl lo))), (e3, .inl (κ.z 1, 6, .inr (.inl hi)))]
  refine v_lconst X 0 d_E_target_0 (by decide) ?_
  refine v_lstore_n X d_E_target_1 rfl (by decide) (lv' := [(1, .long 0), (0, .ref e)]) rfl ?_
  refine v_iconst X 0 d_E_target_2 (by decide) ?_
  refine v_istore_n X d_E_target_3 rfl (by decide) (lv' := [(3, .int 0), (1, .long 0), (0, .ref e)]) rfl ?_
  show V κ 5 0 0 4 [(3, .int (nI 0)), (1, .long (tgS lo hi 0)), (0, .ref e)] [] [(e, .inr (0, [.int (nI cnt), .ref e1, .ref e2, .ref e3, .long hl, .long hh])), (e1, .inl (κ.z 0, 6, .inl (aN nu))), (e2, .inl (κ.z 1, 6, .inr (.inl lo))), (e3, .inl (κ.z 1, 6, .inr (.inl hi)))]
  refine lp_target X e e1 e2 e3 cnt hl hh nu lo hi (by omega)  ?_ (cnt - 0) 0 (by omega)
  show V κ 5 0 0 26 [(3, .int (nI cnt)), (1, .long (tgS lo hi cnt)), (0, .ref e)] [] [(e, .inr (0, [.int (nI cnt), .ref e1, .ref e2, .ref e3, .long hl, .long hh])), (e1, .inl (κ.z 0, 6, .inl (aN nu))), (e2, .inl (κ.z 1, 6, .inr (.inl lo))), (e3, .inl (κ.z 1, 6, .inr (.inl hi)))]
  refine v_aload_n X 2 d_E_target_26 rfl ?_
  refine v_get X 0 0 rfl rfl li_E (by decide) m105 rfl d_E_target_27 ?_
  suffices hm30 : V κ 5 0 0 46 [(3, .int (nI cnt)), (1, .long (tgS lo hi cnt)), (0, .ref e)] [.long (if cnt = 0 then 0 else f_J_floorDiv (tgS lo hi cnt) ((nI cnt).toInt64))] [(e, .inr (0, [.int (nI cnt), .ref e1, .ref e2, .ref e3, .long hl, .long hh])), (e1, .inl (κ.z 0, 6, .inl (aN nu))), (e2, .inl (κ.z 1, 6, .inr (.inl lo))), (e3, .inl (κ.z 1, 6, .inr (.inl hi)))] by
    refine v_ifN_ne X 37 (a := cnt) d_E_target_30 (by decide) (by omega) (fun c30 => ?_) (fun c30 => ?_)
    · skip
      refine v_lload_n X 1 d_E_target_37 rfl ?_
      refine v_aload_n X 2 d_E_target_38 rfl ?_
      refine v_get X 0 0 rfl rfl li_E (by decide) m105 rfl d_E_target_39 ?_
      refine v_i2l X d_E_target_42 ?_
      refine v_callS X (n9 := 2) (As := [.long (tgS lo hi cnt), .long ((nI cnt).toInt64)]) (rest := []) (wc := []) (wr := [(e, .inr (0, [.int (nI cnt), .ref e1, .ref e2, .ref e3, .long hl, .long hh])), (e1, .inl (κ.z 0, 6, .inl (aN nu))), (e2, .inl (κ.z 1, 6, .inr (.inl lo))), (e3, .inl (κ.z 1, 6, .inr (.inl hi)))]) (c_J_floorDiv κ.l κ.D κ.z (tgS lo hi cnt) ((nI cnt).toInt64) (nI_lne c30 (by omega))) m323 m252 m31 (by decide +kernel) rfl (Nat.le_of_ble_eq_true rfl) ⟨by decide, by decide⟩ ⟨by decide, by decide⟩ rfl rfl m253 d_E_target_43 (fun v w1 hg => ?_)
      obtain ⟨rfl, rfl⟩ := hg
      show V κ 5 0 0 46 [(3, .int (nI cnt)), (1, .long (tgS lo hi cnt)), (0, .ref e)] [.long (f_J_floorDiv (tgS lo hi cnt) ((nI cnt).toInt64))] [(e, .inr (0, [.int (nI cnt), .ref e1, .ref e2, .ref e3, .long hl, .long hh])), (e1, .inl (κ.z 0, 6, .inl (aN nu))), (e2, .inl (κ.z 1, 6, .inr (.inl lo))), (e3, .inl (κ.z 1, 6, .inr (.inl hi)))]
      have h9 := hm30; simp only [if_neg c30] at h9; first | exact h9 | (simp only [if_neg c30]; exact h9)
    · skip
      refine v_lconst X 0 d_E_target_33 (by decide) ?_
      refine v_goto X 46 d_E_target_34 (by decide) ?_
      have h9 := hm30; simp only [if_pos c30] at h9; first | exact h9 | (simp only [if_pos c30]; exact h9)
  refine v_lstore_n X d_E_target_46 rfl (by decide) (lv' := [(3, .long (if cnt = 0 then 0 else f_J_floorDiv (tgS lo hi cnt) ((nI cnt).toInt64))), (1, .long (tgS lo hi cnt)), (0, .ref e)]) rfl ?_
  refine v_aload_n X 2 d_E_target_47 rfl ?_
  refine v_get X 0 4 rfl rfl li_E (by decide) m112 rfl d_E_target_48 ?_
  refine v_aload_n X 2 d_E_target_51 rfl ?_
  refine v_get X 0 5 rfl rfl li_E (by decide) m114 rfl d_E_target_52 ?_
  refine v_lload_n X 0 d_E_target_55 rfl ?_
  refine v_callS X (n9 := 2) (As := [.long hh, .long (if cnt = 0 then 0 else f_J_floorDiv (tgS lo hi cnt) ((nI cnt).toInt64))]) (rest := [.long hl]) (wc := []) (wr := [(e, .inr (0, [.int (nI cnt), .ref e1, .ref e2, .ref e3, .long hl, .long hh])), (e1, .inl (κ.z 0, 6, .inl (aN nu))), (e2, .inl (κ.z 1, 6, .inr (.inl lo))), (e3, .inl (κ.z 1, 6, .inr (.inl hi)))]) (c_J_min_JJ κ.l κ.D κ.z hh (if cnt = 0 then 0 else f_J_floorDiv (tgS lo hi cnt) ((nI cnt).toInt64)) ) m301 m302 m31 (by decide +kernel) rfl (Nat.le_of_ble_eq_true rfl) ⟨by decide, by decide⟩ ⟨by decide, by decide⟩ rfl rfl m303 d_E_target_56 (fun v w1 hg => ?_)
  obtain ⟨rfl, rfl⟩ := hg
  show V κ 5 0 0 59 [(3, .long (if cnt = 0 then 0 else f_J_floorDiv (tgS lo hi cnt) ((nI cnt).toInt64))), (1, .long (tgS lo hi cnt)), (0, .ref e)] [.long (f_J_min_JJ hh (if cnt = 0 then 0 else f_J_floorDiv (tgS lo hi cnt) ((nI cnt).toInt64))), .long hl] [(e, .inr (0, [.int (nI cnt), .ref e1, .ref e2, .ref e3, .long hl, .long hh])), (e1, .inl (κ.z 0, 6, .inl (aN nu))), (e2, .inl (κ.z 1, 6, .inr (.inl lo))), (e3, .inl (κ.z 1, 6, .inr (.inl hi)))]
  show V κ 5 0 0 59 [(3, .long (if cnt = 0 then 0 else f_J_floorDiv (tgS lo hi cnt) ((nI cnt).toInt64))), (1, .long (tgS lo hi cnt)), (0, .ref e)] [.long (f_J_min_JJ hh (if cnt = 0 then 0 else f_J_floorDiv (tgS lo hi cnt) ((nI cnt).toInt64))), .long hl] [(e, .inr (0, [.int (nI cnt), .ref e1, .ref e2, .ref e3, .long hl, .long hh])), (e1, .inl (κ.z 0, 6, .inl (aN nu))), (e2, .inl (κ.z 1, 6, .inr (.inl lo))), (e3, .inl (κ.z 1, 6, .inr (.inl hi)))]
  refine v_callS X (n9 := 2) (As := [.long hl, .long (f_J_min_JJ hh (if cnt = 0 then 0 else f_J_floorDiv (tgS lo hi cnt) ((nI cnt).toInt64)))]) (rest := []) (wc := []) (wr := [(e, .inr (0, [.int (nI cnt), .ref e1, .ref e2, .ref e3, .long hl, .long hh])), (e1, .inl (κ.z 0, 6, .inl (aN nu))), (e2, .inl (κ.z 1, 6, .inr (.inl lo))), (e3, .inl (κ.z 1, 6, .inr (.inl hi)))]) (c_J_max_JJ κ.l κ.D κ.z hl (f_J_min_JJ hh (if cnt = 0 then 0 else f_J_floorDiv (tgS lo hi cnt) ((nI cnt).toInt64))) ) m304 m199 m31 (by decide +kernel) rfl (Nat.le_of_ble_eq_true rfl) ⟨by decide, by decide⟩ ⟨by decide, by decide⟩ rfl rfl m200 d_E_target_59 (fun v w1 hg => ?_)
  obtain ⟨rfl, rfl⟩ := hg
  show V κ 5 0 0 62 [(3, .long (if cnt = 0 then 0 else f_J_floorDiv (tgS lo hi cnt) ((nI cnt).toInt64))), (1, .long (tgS lo hi cnt)), (0, .ref e)] [.long (f_J_max_JJ hl (f_J_min_JJ hh (if cnt = 0 then 0 else f_J_floorDiv (tgS lo hi cnt) ((nI cnt).toInt64))))] [(e, .inr (0, [.int (nI cnt), .ref e1, .ref e2, .ref e3, .long hl, .long hh])), (e1, .inl (κ.z 0, 6, .inl (aN nu))), (e2, .inl (κ.z 1, 6, .inr (.inl lo))), (e3, .inl (κ.z 1, 6, .inr (.inl hi)))]
  exact v_lret X Y (by decide) (by decide) d_E_target_62 ⟨rfl, rfl⟩

def btS (nu : Nat → Nat) : Nat → Int32
  | 0 => 0
  | j + 1 => (btS nu j) ||| ((1 : Int32) <<< ((nI (nu j)) &&& 31))
set_option maxHeartbeats 4000000 in
set_option maxRecDepth 100000 in
theorem lp_bits {κ : VC} (X : Cx κ b_E_bits R_E { frames := 0, cells := 0, slots := 0, locals := 0 } 3) (e : Nat) (e1 : Nat) (e2 : Nat) (e3 : Nat) (cnt : Nat) (hl : Int64) (hh : Int64) (nu : Nat → Nat) (lo : Nat → Int64) (hi : Nat → Int64) (hc6 : cnt ≤ 6)  (kk : V κ 3 0 0 29 [(2, .int (nI cnt)), (1, .int (btS nu cnt)), (0, .ref e)] [] [(e, .inr (0, [.int (nI cnt), .ref e1, .ref e2, .ref e3, .long hl, .long hh])), (e1, .inl (κ.z 0, 6, .inl (aN nu))), (e2, .inl (κ.z 1, 6, .inr (.inl lo))), (e3, .inl (κ.z 1, 6, .inr (.inl hi)))]) : ∀ (d9 j : Nat), j + d9 = cnt → V κ 3 0 0 4 [(2, .int (nI j)), (1, .int (btS nu j)), (0, .ref e)] [] [(e, .inr (0, [.int (nI cnt), .ref e1, .ref e2, .ref e3, .long hl, .long hh])), (e1, .inl (κ.z 0, 6, .inl (aN nu))), (e2, .inl (κ.z 1, 6, .inr (.inl lo))), (e3, .inl (κ.z 1, 6, .inr (.inl hi)))] := by
  intro d9
  induction d9 with
  | zero =>
    intro j hj 
    have e9 : j = cnt := by omega
    rw [e9]
    show V κ 3 0 0 4 [(2, .int (nI cnt)), (1, .int (btS nu cnt)), (0, .ref e)] [] [(e, .inr (0, [.int (nI cnt), .ref e1, .ref e2, .ref e3, .long hl, .long hh])), (e1, .inl (κ.z 0, 6, .inl (aN nu))), (e2, .inl (κ.z 1, 6, .inr (.inl lo))), (e3, .inl (κ.z 1, 6, .inr (.inl hi)))]
    refine v_iload_n X 0 d_E_bits_4 rfl ?_
    refine v_aload_n X 2 d_E_bits_5 rfl ?_
    refine v_get X 0 0 rfl rfl li_E (by decide) m105 rfl d_E_bits_6 ?_
    refine v_icmpN_ge X 29 (a := cnt) (b := cnt) d_E_bits_9 (by decide) (by omega) (by omega) (fun c9 => ?_) (fun c9 => by omega)
    exact kk
  | succ d9 ih =>
    intro j hj 
    show V κ 3 0 0 4 [(2, .int (nI j)), (1, .int (btS nu j)), (0, .ref e)] [] [(e, .inr (0, [.int (nI cnt), .ref e1, .ref e2, .ref e3, .long hl, .long hh])), (e1, .inl (κ.z 0, 6, .inl (aN nu))), (e2, .inl (κ.z 1, 6, .inr (.inl lo))), (e3, .inl (κ.z 1, 6, .inr (.inl hi)))]
    refine v_iload_n X 0 d_E_bits_4 rfl ?_
    refine v_aload_n X 2 d_E_bits_5 rfl ?_
    refine v_get X 0 0 rfl rfl li_E (by decide) m105 rfl d_E_bits_6 ?_
    refine v_icmpN_ge X 29 (a := j) (b := cnt) d_E_bits_9 (by decide) (by omega) (by omega) (fun c9 => by omega) (fun c9 => ?_)
    refine v_iload_n X 1 d_E_bits_12 rfl ?_
    refine v_iconst X 1 d_E_bits_13 (by decide) ?_
    refine v_aload_n X 2 d_E_bits_14 rfl ?_
    refine v_get X 0 1 rfl rfl li_E (by decide) m107 rfl d_E_bits_15 ?_
    refine v_iload_n X 0 d_E_bits_18 rfl ?_
    refine v_naldN X 1 0 (j := j) rfl rfl (by omega) (by omega) d_E_bits_19 ?_
    refine v_ishl X d_E_bits_20 ?_
    refine v_ior X d_E_bits_21 ?_
    refine v_istore_n X d_E_bits_22 rfl (by decide) (lv' := [(1, .int ((btS nu j) ||| ((1 : Int32) <<< ((nI (nu j)) &&& 31)))), (2, .int (nI j)), (0, .ref e)]) rfl ?_
    refine v_iinc X 1 d_E_bits_23 (x := nI j) rfl (v := nI (j + 1)) (nI_1 _) (by decide) (lv' := [(2, .int (nI (j + 1))), (1, .int ((btS nu j) ||| ((1 : Int32) <<< ((nI (nu j)) &&& 31)))), (0, .ref e)]) rfl ?_
    show V κ 3 0 0 26 [(2, .int (nI (j + 1))), (1, .int ((btS nu j) ||| ((1 : Int32) <<< ((nI (nu j)) &&& 31)))), (0, .ref e)] [] [(e, .inr (0, [.int (nI cnt), .ref e1, .ref e2, .ref e3, .long hl, .long hh])), (e1, .inl (κ.z 0, 6, .inl (aN nu))), (e2, .inl (κ.z 1, 6, .inr (.inl lo))), (e3, .inl (κ.z 1, 6, .inr (.inl hi)))]
    refine v_goto X 4 d_E_bits_26 (by decide) ?_
    exact v_eq rfl (by rfl) rfl (by rfl) (ih (j + 1) (by omega))

set_option maxHeartbeats 4000000 in
set_option maxRecDepth 100000 in
theorem c_E_bits (l : Launch) (D : va_G) (z : Nat → ClassId) (e : Nat) (e1 : Nat) (e2 : Nat) (e3 : Nat) (cnt : Nat) (hl : Int64) (hh : Int64) (nu : Nat → Nat) (lo : Nat → Int64) (hi : Nat → Int64) (hc6 : cnt ≤ 6) : Ctr l D z y_E_bits b_E_bits 3 (some .int) { frames := 0, cells := 0, slots := 0, locals := 0 } [.ref e] [(e, .inr (0, [.int (nI cnt), .ref e1, .ref e2, .ref e3, .long hl, .long hh])), (e1, .inl (z 0, 6, .inl (aN nu))), (e2, .inl (z 1, 6, .inr (.inl lo))), (e3, .inl (z 1, 6, .inr (.inl hi)))] (fun v w => v = some (.int (btS nu cnt)) ∧ w = [(e, .inr (0, [.int (nI cnt), .ref e1, .ref e2, .ref e3, .long hl, .long hh])), (e1, .inl (z 0, 6, .inl (aN nu))), (e2, .inl (z 1, 6, .inr (.inl lo))), (e3, .inl (z 1, 6, .inr (.inl hi)))]) 0 0 := by
  refine met_V (own := R_E) (nm := "bits") (by decide +kernel) rfl rfl (Nat.le_of_ble_eq_true rfl) ?_
  intro κ hl hD hz X Y
  subst hl
  subst hD
  subst hz
  show V κ 3 0 0 0 [(0, .ref e)] [] [(e, .inr (0, [.int (nI cnt), .ref e1, .ref e2, .ref e3, .long hl, .long hh])), (e1, .inl (κ.z 0, 6, .inl (aN nu))), (e2, .inl (κ.z 1, 6, .inr (.inl lo))), (e3, .inl (κ.z 1, 6, .inr (.inl hi)))]
  refine v_iconst X 0 d_E_bits_0 (by decide) ?_
  refine v_istore_n X d_E_bits_1 rfl (by decide) (lv' := [(1, .int 0), (0, .ref e)]) rfl ?_
  refine v_iconst X 0 d_E_bits_2 (by decide) ?_
  refine v_istore_n X d_E_bits_3 rfl (by decide) (lv' := [(2, .int 0), (1, .int 0), (0, .ref e)]) rfl ?_
  show V κ 3 0 0 4 [(2, .int (nI 0)), (1, .int (btS nu 0)), (0, .ref e)] [] [(e, .inr (0, [.int (nI cnt), .ref e1, .ref e2, .ref e3, .long hl, .long hh])), (e1, .inl (κ.z 0, 6, .inl (aN nu))), (e2, .inl (κ.z 1, 6, .inr (.inl lo))), (e3, .inl (κ.z 1, 6, .inr (.inl hi)))]
  refine lp_bits X e e1 e2 e3 cnt hl hh nu lo hi (by omega)  ?_ (cnt - 0) 0 (by omega)
  show V κ 3 0 0 29 [(2, .int (nI cnt)), (1, .int (btS nu cnt)), (0, .ref e)] [] [(e, .inr (0, [.int (nI cnt), .ref e1, .ref e2, .ref e3, .long hl, .long hh])), (e1, .inl (κ.z 0, 6, .inl (aN nu))), (e2, .inl (κ.z 1, 6, .inr (.inl lo))), (e3, .inl (κ.z 1, 6, .inr (.inl hi)))]
  refine v_iload_n X 1 d_E_bits_29 rfl ?_
  exact v_iret X Y (by decide) (by decide) d_E_bits_30 ⟨rfl, rfl⟩
end
section
set_option maxHeartbeats 4000000 in
set_option maxRecDepth 100000 in
theorem c_Sd_init (l : Launch) (D : va_G) (z : Nat → ClassId) (d : Nat)  : Ctr l D z y_Sd_init b_Sd_init 1 none { frames := 1, cells := 0, slots := 0, locals := 20 } [.ref d] [(d, .inr (2, [.int (bI false), .long 0, .long 0, .long 0, .long 0, .long 0, .long 0, .int 0, .int 0]))] (fun v w => v = none ∧ w = [(d, .inr (2, [.int (bI false), .long 0, .long 0, .long 0, .long 0, .long 0, .long 0, .int 0, .int (16 : Int32)]))]) 0 0 := by
  refine met_V (own := R_Sd) (nm := "<init>") (by decide +kernel) rfl rfl (Nat.le_of_ble_eq_true rfl) ?_
  intro κ hl hD hz X Y
  subst hl
  subst hD
  subst hz
  show V κ 1 0 0 0 [(0, .ref d)] [] [(d, .inr (2, [.int (bI false), .long 0, .long 0, .long 0, .long 0, .long 0, .long 0, .int 0, .int 0]))]
  refine v_aload_n X 0 d_Sd_init_0 rfl ?_
  refine v_objInit X m126 m43 m44 d_Sd_init_1 (by decide) (Nat.le_of_ble_eq_true rfl) ?_
  show V κ 1 0 0 4 [(0, .ref d)] [] [(d, .inr (2, [.int (bI false), .long 0, .long 0, .long 0, .long 0, .long 0, .long 0, .int 0, .int 0]))]
  refine v_aload_n X 0 d_Sd_init_4 rfl ?_
  refine v_bipush X 16 d_Sd_init_5 (by decide) ?_
  refine v_put X 0 8 (v := .int (16 : Int32)) (ty := .int) ty_Sd tk_Sd n_Sd rfl rfl li_Sd (by decide) m139 rfl (by decide +kernel) rfl rfl (Nat.le_of_ble_eq_true rfl) d_Sd_init_7 (ws' := [(d, .inr (2, [.int (bI false), .long 0, .long 0, .long 0, .long 0, .long 0, .long 0, .int 0, .int (16 : Int32)]))]) rfl ?_
  exact v_vret X Y (by decide) (by decide) d_Sd_init_10 ⟨rfl, rfl⟩

def f_Sd_correctionAt (sin : Int64) (sta : Int64) (tg : Int64) (nw : Int64) : Int64 := if (f_J_floorDiv (nw - sin) 16) < (f_J_abs (tg - sta)) then if tg ≤ sta then sta - (f_J_floorDiv (nw - sin) 16) else sta + (f_J_floorDiv (nw - sin) 16) else tg
set_option maxHeartbeats 4000000 in
set_option maxRecDepth 100000 in
theorem c_Sd_correctionAt (l : Launch) (D : va_G) (z : Nat → ClassId) (d : Nat) (st : Bool) (sin : Int64) (sta : Int64) (tg : Int64) (er : Int64) (vl : Int64) (vh : Int64) (sb : Int32) (os : Int32) (nw : Int64)  : Ctr l D z y_Sd_correctionAt b_Sd_correctionAt 5 (some .long) { frames := 1, cells := 0, slots := 0, locals := 25 } [.ref d, .long nw] [(d, .inr (2, [.int (bI st), .long sin, .long sta, .long tg, .long er, .long vl, .long vh, .int sb, .int os]))] (fun v w => v = some (.long (f_Sd_correctionAt sin sta tg nw)) ∧ w = [(d, .inr (2, [.int (bI st), .long sin, .long sta, .long tg, .long er, .long vl, .long vh, .int sb, .int os]))]) 0 0 := by
  refine met_V (own := R_Sd) (nm := "correctionAt") (by decide +kernel) rfl rfl (Nat.le_of_ble_eq_true rfl) ?_
  intro κ hl hD hz X Y
  subst hl
  subst hD
  subst hz
  show V κ 5 0 0 0 [(0, .ref d), (1, .long nw)] [] [(d, .inr (2, [.int (bI st), .long sin, .long sta, .long tg, .long er, .long vl, .long vh, .int sb, .int os]))]
  refine v_lload_n X 1 d_Sd_correctionAt_0 rfl ?_
  refine v_aload_n X 0 d_Sd_correctionAt_1 rfl ?_
  refine v_get X 0 1 rfl rfl li_Sd (by decide) m129 rfl d_Sd_correctionAt_2 ?_
  refine v_lsub X d_Sd_correctionAt_5 ?_
  refine v_ldc2 X (v := 16) m342 d_Sd_correctionAt_6 ?_
  refine v_callS X (n9 := 2) (As := [.long (nw - sin), .long 16]) (rest := []) (wc := []) (wr := [(d, .inr (2, [.int (bI st), .long sin, .long sta, .long tg, .long er, .long vl, .long vh, .int sb, .int os]))]) (c_J_floorDiv κ.l κ.D κ.z (nw - sin) 16 (by decide)) m343 m252 m31 (by decide +kernel) rfl (Nat.le_of_ble_eq_true rfl) ⟨by decide, by decide⟩ ⟨by decide, by decide⟩ rfl rfl m253 d_Sd_correctionAt_9 (fun v w1 hg => ?_)
  obtain ⟨rfl, rfl⟩ := hg
  show V κ 5 0 0 12 [(0, .ref d), (1, .long nw)] [.long (f_J_floorDiv (nw - sin) 16)] [(d, .inr (2, [.int (bI st), .long sin, .long sta, .long tg, .long er, .long vl, .long vh, .int sb, .int os]))]
  refine v_lstore_n X d_Sd_correctionAt_12 rfl (by decide) (lv' := [(3, .long (f_J_floorDiv (nw - sin) 16)), (0, .ref d), (1, .long nw)]) rfl ?_
  refine v_aload_n X 1 d_Sd_correctionAt_13 rfl ?_
  refine v_get X 0 3 rfl rfl li_Sd (by decide) m131 rfl d_Sd_correctionAt_14 ?_
  refine v_aload_n X 1 d_Sd_correctionAt_17 rfl ?_
  refine v_get X 0 2 rfl rfl li_Sd (by decide) m130 rfl d_Sd_correctionAt_18 ?_
  refine v_lsub X d_Sd_correctionAt_21 ?_
  refine v_callS X (n9 := 1) (As := [.long (tg - sta)]) (rest := []) (wc := []) (wr := [(d, .inr (2, [.int (bI st), .long sin, .long sta, .long tg, .long er, .long vl, .long vh, .int sb, .int os]))]) (c_J_abs κ.l κ.D κ.z (tg - sta) ) m344 m325 m31 (by decide +kernel) rfl (Nat.le_of_ble_eq_true rfl) ⟨by decide, by decide⟩ ⟨by decide, by decide⟩ rfl rfl m326 d_Sd_correctionAt_22 (fun v w1 hg => ?_)
  obtain ⟨rfl, rfl⟩ := hg
  show V κ 5 0 0 25 [(3, .long (f_J_floorDiv (nw - sin) 16)), (0, .ref d), (1, .long nw)] [.long (f_J_abs (tg - sta))] [(d, .inr (2, [.int (bI st), .long sin, .long sta, .long tg, .long er, .long vl, .long vh, .int sb, .int os]))]
  refine v_lload_n X 0 d_Sd_correctionAt_25 rfl ?_
  show V κ 5 0 0 26 [(3, .long (f_J_floorDiv (nw - sin) 16)), (0, .ref d), (1, .long nw)] [.long (f_J_floorDiv (nw - sin) 16), .long (f_J_abs (tg - sta))] [(d, .inr (2, [.int (bI st), .long sin, .long sta, .long tg, .long er, .long vl, .long vh, .int sb, .int os]))]
  refine v_lcmp_gt X 35 d_Sd_correctionAt_26 d_Sd_correctionAt_27 (by decide) (fun c26 => ?_) (fun c26 => ?_)
  · skip
    refine v_aload_n X 1 d_Sd_correctionAt_35 rfl ?_
    refine v_get X 0 3 rfl rfl li_Sd (by decide) m131 rfl d_Sd_correctionAt_36 ?_
    refine v_aload_n X 1 d_Sd_correctionAt_39 rfl ?_
    refine v_get X 0 2 rfl rfl li_Sd (by decide) m130 rfl d_Sd_correctionAt_40 ?_
    suffices hm43 : V κ 5 0 0 62 [(3, .long (f_J_floorDiv (nw - sin) 16)), (0, .ref d), (1, .long nw)] [.long (if tg ≤ sta then sta - (f_J_floorDiv (nw - sin) 16) else sta + (f_J_floorDiv (nw - sin) 16))] [(d, .inr (2, [.int (bI st), .long sin, .long sta, .long tg, .long er, .long vl, .long vh, .int sb, .int os]))] by
      refine v_lcmp_le X 56 d_Sd_correctionAt_43 d_Sd_correctionAt_44 (by decide) (fun c43 => ?_) (fun c43 => ?_)
      · skip
        refine v_aload_n X 1 d_Sd_correctionAt_56 rfl ?_
        refine v_get X 0 2 rfl rfl li_Sd (by decide) m130 rfl d_Sd_correctionAt_57 ?_
        refine v_lload_n X 0 d_Sd_correctionAt_60 rfl ?_
        refine v_lsub X d_Sd_correctionAt_61 ?_
        have h9 := hm43; simp only [if_pos c43] at h9; first | exact h9 | (simp only [if_pos c43]; exact h9)
      · skip
        refine v_aload_n X 1 d_Sd_correctionAt_47 rfl ?_
        refine v_get X 0 2 rfl rfl li_Sd (by decide) m130 rfl d_Sd_correctionAt_48 ?_
        refine v_lload_n X 0 d_Sd_correctionAt_51 rfl ?_
        refine v_ladd X d_Sd_correctionAt_52 ?_
        refine v_goto X 62 d_Sd_correctionAt_53 (by decide) ?_
        have h9 := hm43; simp only [if_neg c43] at h9; first | exact h9 | (simp only [if_neg c43]; exact h9)
    exact v_lret X Y (by decide) (by decide) d_Sd_correctionAt_62 ⟨by simp only [f_Sd_correctionAt, if_pos c26] <;> rfl, rfl⟩
  · skip
    refine v_aload_n X 1 d_Sd_correctionAt_30 rfl ?_
    refine v_get X 0 3 rfl rfl li_Sd (by decide) m131 rfl d_Sd_correctionAt_31 ?_
    exact v_lret X Y (by decide) (by decide) d_Sd_correctionAt_34 ⟨by simp only [f_Sd_correctionAt, if_neg c26] <;> rfl, rfl⟩

def f_Sd_follow_startCorrection (st : Bool) (sin : Int64) (sta : Int64) (tg : Int64) (x : Int64) (nw : Int64) : Int64 := if st = true then f_Sd_correctionAt sin sta tg nw else x
set_option maxHeartbeats 4000000 in
set_option maxRecDepth 100000 in
theorem c_Sd_follow (l : Launch) (D : va_G) (z : Nat → ClassId) (d : Nat) (st : Bool) (sin : Int64) (sta : Int64) (tg : Int64) (er : Int64) (vl : Int64) (vh : Int64) (sb : Int32) (os : Int32) (x : Int64) (nw : Int64)  : Ctr l D z y_Sd_follow b_Sd_follow 5 none { frames := 2, cells := 0, slots := 0, locals := 49 } [.ref d, .long x, .long nw] [(d, .inr (2, [.int (bI st), .long sin, .long sta, .long tg, .long er, .long vl, .long vh, .int sb, .int os]))] (fun v w => v = none ∧ w = [(d, .inr (2, [.int (bI true), .long nw, .long (f_Sd_follow_startCorrection st sin sta tg x nw), .long x, .long er, .long vl, .long vh, .int sb, .int os]))]) 0 0 := by
  refine met_V (own := R_Sd) (nm := "follow") (by decide +kernel) rfl rfl (Nat.le_of_ble_eq_true rfl) ?_
  intro κ hl hD hz X Y
  subst hl
  subst hD
  subst hz
  show V κ 5 0 0 0 [(0, .ref d), (1, .long x), (3, .long nw)] [] [(d, .inr (2, [.int (bI st), .long sin, .long sta, .long tg, .long er, .long vl, .long vh, .int sb, .int os]))]
  refine v_aload_n X 0 d_Sd_follow_0 rfl ?_
  refine v_aload_n X 0 d_Sd_follow_1 rfl ?_
  refine v_get X 0 0 rfl rfl li_Sd (by decide) m127 rfl d_Sd_follow_2 ?_
  suffices hm5 : V κ 5 0 0 17 [(0, .ref d), (1, .long x), (3, .long nw)] [.long (if st = true then f_Sd_correctionAt sin sta tg nw else x), .ref d] [(d, .inr (2, [.int (bI st), .long sin, .long sta, .long tg, .long er, .long vl, .long vh, .int sb, .int os]))] by
    refine v_ifB_eq X 16 (t := st) d_Sd_follow_5 (by decide) (fun c5 => ?_) (fun c5 => ?_)
    · skip
      refine v_lload_n X 1 d_Sd_follow_16 rfl ?_
      have h9 := hm5; simp only [if_neg c5] at h9; first | exact h9 | (simp only [if_neg c5]; exact h9)
    · skip
      refine v_aload_n X 0 d_Sd_follow_8 rfl ?_
      refine v_lload_n X 2 d_Sd_follow_9 rfl ?_
      refine v_callV X (b := d) (n9 := 1) (As := [.long nw]) (rest := [.ref d]) (wc := [(d, .inr (2, [.int (bI st), .long sin, .long sta, .long tg, .long er, .long vl, .long vh, .int sb, .int os]))]) (wr := []) (c_Sd_correctionAt κ.l κ.D κ.z d st sin sta tg er vl vh sb os nw ) 0 rfl rfl m338 m339 m340 m35 (by decide +kernel) rfl (Nat.le_of_ble_eq_true rfl) ⟨by decide, by decide⟩ ⟨by decide, by decide⟩ rfl rfl m341 d_Sd_follow_10 (fun v w1 hg => ?_)
      obtain ⟨rfl, rfl⟩ := hg
      show V κ 5 0 0 13 [(0, .ref d), (1, .long x), (3, .long nw)] [.long (f_Sd_correctionAt sin sta tg nw), .ref d] [(d, .inr (2, [.int (bI st), .long sin, .long sta, .long tg, .long er, .long vl, .long vh, .int sb, .int os]))]
      refine v_goto X 17 d_Sd_follow_13 (by decide) ?_
      have h9 := hm5; simp only [if_pos c5] at h9; first | exact h9 | (simp only [if_pos c5]; exact h9)
  refine v_put X 0 2 (v := .long (if st = true then f_Sd_correctionAt sin sta tg nw else x)) (ty := .long) ty_Sd tk_Sd n_Sd rfl rfl li_Sd (by decide) m130 rfl (by decide +kernel) rfl rfl (Nat.le_of_ble_eq_true rfl) d_Sd_follow_17 (ws' := [(d, .inr (2, [.int (bI st), .long sin, .long (if st = true then f_Sd_correctionAt sin sta tg nw else x), .long tg, .long er, .long vl, .long vh, .int sb, .int os]))]) rfl ?_
  refine v_aload_n X 0 d_Sd_follow_20 rfl ?_
  refine v_lload_n X 1 d_Sd_follow_21 rfl ?_
  refine v_put X 0 3 (v := .long x) (ty := .long) ty_Sd tk_Sd n_Sd rfl rfl li_Sd (by decide) m131 rfl (by decide +kernel) rfl rfl (Nat.le_of_ble_eq_true rfl) d_Sd_follow_22 (ws' := [(d, .inr (2, [.int (bI st), .long sin, .long (if st = true then f_Sd_correctionAt sin sta tg nw else x), .long x, .long er, .long vl, .long vh, .int sb, .int os]))]) rfl ?_
  refine v_aload_n X 0 d_Sd_follow_25 rfl ?_
  refine v_lload_n X 2 d_Sd_follow_26 rfl ?_
  refine v_put X 0 1 (v := .long nw) (ty := .long) ty_Sd tk_Sd n_Sd rfl rfl li_Sd (by decide) m129 rfl (by decide +kernel) rfl rfl (Nat.le_of_ble_eq_true rfl) d_Sd_follow_27 (ws' := [(d, .inr (2, [.int (bI st), .long nw, .long (if st = true then f_Sd_correctionAt sin sta tg nw else x), .long x, .long er, .long vl, .long vh, .int sb, .int os]))]) rfl ?_
  refine v_aload_n X 0 d_Sd_follow_30 rfl ?_
  refine v_iconst X 1 d_Sd_follow_31 (by decide) ?_
  refine v_put X 0 0 (v := .int (bI true)) (ty := .boolean) ty_Sd tk_Sd n_Sd rfl rfl li_Sd (by decide) m127 rfl (by decide +kernel) (narB _) rfl (Nat.le_of_ble_eq_true rfl) d_Sd_follow_32 (ws' := [(d, .inr (2, [.int (bI true), .long nw, .long (if st = true then f_Sd_correctionAt sin sta tg nw else x), .long x, .long er, .long vl, .long vh, .int sb, .int os]))]) rfl ?_
  show V κ 5 0 0 35 [(0, .ref d), (1, .long x), (3, .long nw)] [] [(d, .inr (2, [.int (bI true), .long nw, .long (if st = true then f_Sd_correctionAt sin sta tg nw else x), .long x, .long er, .long vl, .long vh, .int sb, .int os]))]
  exact v_vret X Y (by decide) (by decide) d_Sd_follow_35 ⟨rfl, rfl⟩

def f_Sd_wrongAtMost (sin : Int64) (sta : Int64) (tg : Int64) (er : Int64) (nw : Int64) (dr : Int32) : Int64 := (er + (f_M_growth (nw - sin) dr)) + (f_J_abs (tg - (f_Sd_correctionAt sin sta tg nw)))
set_option maxHeartbeats 4000000 in
set_option maxRecDepth 100000 in
theorem c_Sd_wrongAtMost (l : Launch) (D : va_G) (z : Nat → ClassId) (d : Nat) (st : Bool) (sin : Int64) (sta : Int64) (tg : Int64) (er : Int64) (vl : Int64) (vh : Int64) (sb : Int32) (os : Int32) (nw : Int64) (dr : Int32)  : Ctr l D z y_Sd_wrongAtMost b_Sd_wrongAtMost 4 (some .long) { frames := 2, cells := 0, slots := 0, locals := 49 } [.ref d, .long nw, .int dr] [(d, .inr (2, [.int (bI st), .long sin, .long sta, .long tg, .long er, .long vl, .long vh, .int sb, .int os]))] (fun v w => v = some (.long (f_Sd_wrongAtMost sin sta tg er nw dr)) ∧ w = [(d, .inr (2, [.int (bI st), .long sin, .long sta, .long tg, .long er, .long vl, .long vh, .int sb, .int os]))]) 0 0 := by
  refine met_V (own := R_Sd) (nm := "wrongAtMost") (by decide +kernel) rfl rfl (Nat.le_of_ble_eq_true rfl) ?_
  intro κ hl hD hz X Y
  subst hl
  subst hD
  subst hz
  show V κ 4 0 0 0 [(0, .ref d), (1, .long nw), (3, .int dr)] [] [(d, .inr (2, [.int (bI st), .long sin, .long sta, .long tg, .long er, .long vl, .long vh, .int sb, .int os]))]
  refine v_aload_n X 0 d_Sd_wrongAtMost_0 rfl ?_
  refine v_get X 0 4 rfl rfl li_Sd (by decide) m132 rfl d_Sd_wrongAtMost_1 ?_
  refine v_lload_n X 1 d_Sd_wrongAtMost_4 rfl ?_
  refine v_aload_n X 0 d_Sd_wrongAtMost_5 rfl ?_
  refine v_get X 0 1 rfl rfl li_Sd (by decide) m129 rfl d_Sd_wrongAtMost_6 ?_
  refine v_lsub X d_Sd_wrongAtMost_9 ?_
  refine v_iload_n X 2 d_Sd_wrongAtMost_10 rfl ?_
  refine v_callSN X (host := R_M) (n9 := 2) (As := [.long (nw - sin), .int dr]) (rest := [.long er]) (wc := []) (wr := [(d, .inr (2, [.int (bI st), .long sin, .long sta, .long tg, .long er, .long vl, .long vh, .int sb, .int os]))]) (c_M_growth κ.l κ.D κ.z (nw - sin) dr ) (List.mem_of_getElem? (i := 5) rfl) m248 m30 (by decide +kernel) rfl (Nat.le_of_ble_eq_true rfl) ⟨by decide, by decide⟩ ⟨by decide, by decide⟩ rfl rfl m249 d_Sd_wrongAtMost_11 (fun v w1 hg => ?_)
  obtain ⟨rfl, rfl⟩ := hg
  show V κ 4 0 0 14 [(0, .ref d), (1, .long nw), (3, .int dr)] [.long (f_M_growth (nw - sin) dr), .long er] [(d, .inr (2, [.int (bI st), .long sin, .long sta, .long tg, .long er, .long vl, .long vh, .int sb, .int os]))]
  refine v_ladd X d_Sd_wrongAtMost_14 ?_
  refine v_aload_n X 0 d_Sd_wrongAtMost_15 rfl ?_
  refine v_get X 0 3 rfl rfl li_Sd (by decide) m131 rfl d_Sd_wrongAtMost_16 ?_
  refine v_aload_n X 0 d_Sd_wrongAtMost_19 rfl ?_
  refine v_lload_n X 1 d_Sd_wrongAtMost_20 rfl ?_
  refine v_callV X (b := d) (n9 := 1) (As := [.long nw]) (rest := [.long tg, .long (er + (f_M_growth (nw - sin) dr))]) (wc := [(d, .inr (2, [.int (bI st), .long sin, .long sta, .long tg, .long er, .long vl, .long vh, .int sb, .int os]))]) (wr := []) (c_Sd_correctionAt κ.l κ.D κ.z d st sin sta tg er vl vh sb os nw ) 0 rfl rfl m338 m339 m340 m35 (by decide +kernel) rfl (Nat.le_of_ble_eq_true rfl) ⟨by decide, by decide⟩ ⟨by decide, by decide⟩ rfl rfl m341 d_Sd_wrongAtMost_21 (fun v w1 hg => ?_)
  obtain ⟨rfl, rfl⟩ := hg
  show V κ 4 0 0 24 [(0, .ref d), (1, .long nw), (3, .int dr)] [.long (f_Sd_correctionAt sin sta tg nw), .long tg, .long (er + (f_M_growth (nw - sin) dr))] [(d, .inr (2, [.int (bI st), .long sin, .long sta, .long tg, .long er, .long vl, .long vh, .int sb, .int os]))]
  show V κ 4 0 0 24 [(0, .ref d), (1, .long nw), (3, .int dr)] [.long (f_Sd_correctionAt sin sta tg nw), .long tg, .long (er + (f_M_growth (nw - sin) dr))] [(d, .inr (2, [.int (bI st), .long sin, .long sta, .long tg, .long er, .long vl, .long vh, .int sb, .int os]))]
  refine v_lsub X d_Sd_wrongAtMost_24 ?_
  refine v_callS X (n9 := 1) (As := [.long (tg - (f_Sd_correctionAt sin sta tg nw))]) (rest := [.long (er + (f_M_growth (nw - sin) dr))]) (wc := []) (wr := [(d, .inr (2, [.int (bI st), .long sin, .long sta, .long tg, .long er, .long vl, .long vh, .int sb, .int os]))]) (c_J_abs κ.l κ.D κ.z (tg - (f_Sd_correctionAt sin sta tg nw)) ) m344 m325 m31 (by decide +kernel) rfl (Nat.le_of_ble_eq_true rfl) ⟨by decide, by decide⟩ ⟨by decide, by decide⟩ rfl rfl m326 d_Sd_wrongAtMost_25 (fun v w1 hg => ?_)
  obtain ⟨rfl, rfl⟩ := hg
  show V κ 4 0 0 28 [(0, .ref d), (1, .long nw), (3, .int dr)] [.long (f_J_abs (tg - (f_Sd_correctionAt sin sta tg nw))), .long (er + (f_M_growth (nw - sin) dr))] [(d, .inr (2, [.int (bI st), .long sin, .long sta, .long tg, .long er, .long vl, .long vh, .int sb, .int os]))]
  refine v_ladd X d_Sd_wrongAtMost_28 ?_
  exact v_lret X Y (by decide) (by decide) d_Sd_wrongAtMost_29 ⟨rfl, rfl⟩

set_option maxHeartbeats 4000000 in
set_option maxRecDepth 100000 in
theorem c_Sd_remember (l : Launch) (D : va_G) (z : Nat → ClassId) (d : Nat) (st : Bool) (sin : Int64) (sta : Int64) (tg : Int64) (er : Int64) (vl : Int64) (vh : Int64) (sb : Int32) (os : Int32) (e : Nat) (e1 : Nat) (e2 : Nat) (e3 : Nat) (cnt : Nat) (hl : Int64) (hh : Int64) (nu : Nat → Nat) (lo : Nat → Int64) (hi : Nat → Int64) (ss : Int32) (hc6 : cnt ≤ 6) : Ctr l D z y_Sd_remember b_Sd_remember 3 none { frames := 1, cells := 0, slots := 0, locals := 23 } [.ref d, .ref e, .int ss] [(d, .inr (2, [.int (bI st), .long sin, .long sta, .long tg, .long er, .long vl, .long vh, .int sb, .int os])), (e, .inr (0, [.int (nI cnt), .ref e1, .ref e2, .ref e3, .long hl, .long hh])), (e1, .inl (z 0, 6, .inl (aN nu))), (e2, .inl (z 1, 6, .inr (.inl lo))), (e3, .inl (z 1, 6, .inr (.inl hi)))] (fun v w => v = none ∧ w = [(d, .inr (2, [.int (bI st), .long sin, .long sta, .long tg, .long (f_J_max_JJ (tg - hl) (hh - tg)), .long hl, .long hh, .int (btS nu cnt), .int (ss + 1)])), (e, .inr (0, [.int (nI cnt), .ref e1, .ref e2, .ref e3, .long hl, .long hh])), (e1, .inl (z 0, 6, .inl (aN nu))), (e2, .inl (z 1, 6, .inr (.inl lo))), (e3, .inl (z 1, 6, .inr (.inl hi)))]) 0 0 := by
  refine met_V (own := R_Sd) (nm := "remember") (by decide +kernel) rfl rfl (Nat.le_of_ble_eq_true rfl) ?_
  intro κ hl hD hz X Y
  subst hl
  subst hD
  subst hz
  show V κ 3 0 0 0 [(0, .ref d), (1, .ref e), (2, .int ss)] [] [(d, .inr (2, [.int (bI st), .long sin, .long sta, .long tg, .long er, .long vl, .long vh, .int sb, .int os])), (e, .inr (0, [.int (nI cnt), .ref e1, .ref e2, .ref e3, .long hl, .long hh])), (e1, .inl (κ.z 0, 6, .inl (aN nu))), (e2, .inl (κ.z 1, 6, .inr (.inl lo))), (e3, .inl (κ.z 1, 6, .inr (.inl hi)))]
  refine v_aload_n X 0 d_Sd_remember_0 rfl ?_
  refine v_aload_n X 1 d_Sd_remember_1 rfl ?_
  refine v_get X 1 4 rfl rfl li_E (by decide) m111 rfl d_Sd_remember_2 ?_
  refine v_put X 0 5 (v := .long hl) (ty := .long) ty_Sd tk_Sd n_Sd rfl rfl li_Sd (by decide) m133 rfl (by decide +kernel) rfl rfl (Nat.le_of_ble_eq_true rfl) d_Sd_remember_5 (ws' := [(d, .inr (2, [.int (bI st), .long sin, .long sta, .long tg, .long er, .long hl, .long vh, .int sb, .int os])), (e, .inr (0, [.int (nI cnt), .ref e1, .ref e2, .ref e3, .long hl, .long hh])), (e1, .inl (κ.z 0, 6, .inl (aN nu))), (e2, .inl (κ.z 1, 6, .inr (.inl lo))), (e3, .inl (κ.z 1, 6, .inr (.inl hi)))]) rfl ?_
  refine v_aload_n X 0 d_Sd_remember_8 rfl ?_
  refine v_aload_n X 1 d_Sd_remember_9 rfl ?_
  refine v_get X 1 5 rfl rfl li_E (by decide) m113 rfl d_Sd_remember_10 ?_
  refine v_put X 0 6 (v := .long hh) (ty := .long) ty_Sd tk_Sd n_Sd rfl rfl li_Sd (by decide) m135 rfl (by decide +kernel) rfl rfl (Nat.le_of_ble_eq_true rfl) d_Sd_remember_13 (ws' := [(d, .inr (2, [.int (bI st), .long sin, .long sta, .long tg, .long er, .long hl, .long hh, .int sb, .int os])), (e, .inr (0, [.int (nI cnt), .ref e1, .ref e2, .ref e3, .long hl, .long hh])), (e1, .inl (κ.z 0, 6, .inl (aN nu))), (e2, .inl (κ.z 1, 6, .inr (.inl lo))), (e3, .inl (κ.z 1, 6, .inr (.inl hi)))]) rfl ?_
  refine v_aload_n X 0 d_Sd_remember_16 rfl ?_
  refine v_aload_n X 0 d_Sd_remember_17 rfl ?_
  refine v_get X 0 3 rfl rfl li_Sd (by decide) m131 rfl d_Sd_remember_18 ?_
  refine v_aload_n X 0 d_Sd_remember_21 rfl ?_
  refine v_get X 0 5 rfl rfl li_Sd (by decide) m133 rfl d_Sd_remember_22 ?_
  refine v_lsub X d_Sd_remember_25 ?_
  show V κ 3 0 0 26 [(0, .ref d), (1, .ref e), (2, .int ss)] [.long (tg - hl), .ref d] [(d, .inr (2, [.int (bI st), .long sin, .long sta, .long tg, .long er, .long hl, .long hh, .int sb, .int os])), (e, .inr (0, [.int (nI cnt), .ref e1, .ref e2, .ref e3, .long hl, .long hh])), (e1, .inl (κ.z 0, 6, .inl (aN nu))), (e2, .inl (κ.z 1, 6, .inr (.inl lo))), (e3, .inl (κ.z 1, 6, .inr (.inl hi)))]
  refine v_aload_n X 0 d_Sd_remember_26 rfl ?_
  refine v_get X 0 6 rfl rfl li_Sd (by decide) m135 rfl d_Sd_remember_27 ?_
  refine v_aload_n X 0 d_Sd_remember_30 rfl ?_
  refine v_get X 0 3 rfl rfl li_Sd (by decide) m131 rfl d_Sd_remember_31 ?_
  refine v_lsub X d_Sd_remember_34 ?_
  refine v_callS X (n9 := 2) (As := [.long (tg - hl), .long (hh - tg)]) (rest := [.ref d]) (wc := []) (wr := [(d, .inr (2, [.int (bI st), .long sin, .long sta, .long tg, .long er, .long hl, .long hh, .int sb, .int os])), (e, .inr (0, [.int (nI cnt), .ref e1, .ref e2, .ref e3, .long hl, .long hh])), (e1, .inl (κ.z 0, 6, .inl (aN nu))), (e2, .inl (κ.z 1, 6, .inr (.inl lo))), (e3, .inl (κ.z 1, 6, .inr (.inl hi)))]) (c_J_max_JJ κ.l κ.D κ.z (tg - hl) (hh - tg) ) m352 m199 m31 (by decide +kernel) rfl (Nat.le_of_ble_eq_true rfl) ⟨by decide, by decide⟩ ⟨by decide, by decide⟩ rfl rfl m200 d_Sd_remember_35 (fun v w1 hg => ?_)
  obtain ⟨rfl, rfl⟩ := hg
  show V κ 3 0 0 38 [(0, .ref d), (1, .ref e), (2, .int ss)] [.long (f_J_max_JJ (tg - hl) (hh - tg)), .ref d] [(d, .inr (2, [.int (bI st), .long sin, .long sta, .long tg, .long er, .long hl, .long hh, .int sb, .int os])), (e, .inr (0, [.int (nI cnt), .ref e1, .ref e2, .ref e3, .long hl, .long hh])), (e1, .inl (κ.z 0, 6, .inl (aN nu))), (e2, .inl (κ.z 1, 6, .inr (.inl lo))), (e3, .inl (κ.z 1, 6, .inr (.inl hi)))]
  refine v_put X 0 4 (v := .long (f_J_max_JJ (tg - hl) (hh - tg))) (ty := .long) ty_Sd tk_Sd n_Sd rfl rfl li_Sd (by decide) m132 rfl (by decide +kernel) rfl rfl (Nat.le_of_ble_eq_true rfl) d_Sd_remember_38 (ws' := [(d, .inr (2, [.int (bI st), .long sin, .long sta, .long tg, .long (f_J_max_JJ (tg - hl) (hh - tg)), .long hl, .long hh, .int sb, .int os])), (e, .inr (0, [.int (nI cnt), .ref e1, .ref e2, .ref e3, .long hl, .long hh])), (e1, .inl (κ.z 0, 6, .inl (aN nu))), (e2, .inl (κ.z 1, 6, .inr (.inl lo))), (e3, .inl (κ.z 1, 6, .inr (.inl hi)))]) rfl ?_
  refine v_aload_n X 0 d_Sd_remember_41 rfl ?_
  refine v_aload_n X 1 d_Sd_remember_42 rfl ?_
  refine v_perm (perm_idx (α := Nat × va_E) (ws := [(d, .inr (2, [.int (bI st), .long sin, .long sta, .long tg, .long (f_J_max_JJ (tg - hl) (hh - tg)), .long hl, .long hh, .int sb, .int os])), (e, .inr (0, [.int (nI cnt), .ref e1, .ref e2, .ref e3, .long hl, .long hh])), (e1, .inl (κ.z 0, 6, .inl (aN nu))), (e2, .inl (κ.z 1, 6, .inr (.inl lo))), (e3, .inl (κ.z 1, 6, .inr (.inl hi)))]) (ws' := [(e, .inr (0, [.int (nI cnt), .ref e1, .ref e2, .ref e3, .long hl, .long hh])), (e1, .inl (κ.z 0, 6, .inl (aN nu))), (e2, .inl (κ.z 1, 6, .inr (.inl lo))), (e3, .inl (κ.z 1, 6, .inr (.inl hi))), (d, .inr (2, [.int (bI st), .long sin, .long sta, .long tg, .long (f_J_max_JJ (tg - hl) (hh - tg)), .long hl, .long hh, .int sb, .int os]))]) [1, 2, 3, 4, 0] rfl rfl) ?_
  refine v_callV X (b := e) (n9 := 0) (As := []) (rest := [.ref d]) (wc := [(e, .inr (0, [.int (nI cnt), .ref e1, .ref e2, .ref e3, .long hl, .long hh])), (e1, .inl (κ.z 0, 6, .inl (aN nu))), (e2, .inl (κ.z 1, 6, .inr (.inl lo))), (e3, .inl (κ.z 1, 6, .inr (.inl hi)))]) (wr := [(d, .inr (2, [.int (bI st), .long sin, .long sta, .long tg, .long (f_J_max_JJ (tg - hl) (hh - tg)), .long hl, .long hh, .int sb, .int os]))]) (c_E_bits κ.l κ.D κ.z e e1 e2 e3 cnt hl hh nu lo hi (by omega)) 0 rfl rfl m353 m354 m355 m34 (by decide +kernel) rfl (Nat.le_of_ble_eq_true rfl) ⟨by decide, by decide⟩ ⟨by decide, by decide⟩ rfl rfl m356 d_Sd_remember_43 (fun v w1 hg => ?_)
  obtain ⟨rfl, rfl⟩ := hg
  refine v_perm (perm_idx (α := Nat × va_E) (ws := [(e, .inr (0, [.int (nI cnt), .ref e1, .ref e2, .ref e3, .long hl, .long hh])), (e1, .inl (κ.z 0, 6, .inl (aN nu))), (e2, .inl (κ.z 1, 6, .inr (.inl lo))), (e3, .inl (κ.z 1, 6, .inr (.inl hi))), (d, .inr (2, [.int (bI st), .long sin, .long sta, .long tg, .long (f_J_max_JJ (tg - hl) (hh - tg)), .long hl, .long hh, .int sb, .int os]))]) (ws' := [(d, .inr (2, [.int (bI st), .long sin, .long sta, .long tg, .long (f_J_max_JJ (tg - hl) (hh - tg)), .long hl, .long hh, .int sb, .int os])), (e, .inr (0, [.int (nI cnt), .ref e1, .ref e2, .ref e3, .long hl, .long hh])), (e1, .inl (κ.z 0, 6, .inl (aN nu))), (e2, .inl (κ.z 1, 6, .inr (.inl lo))), (e3, .inl (κ.z 1, 6, .inr (.inl hi)))]) [4, 0, 1, 2, 3] rfl rfl) ?_
  show V κ 3 0 0 46 [(0, .ref d), (1, .ref e), (2, .int ss)] [.int (btS nu cnt), .ref d] [(d, .inr (2, [.int (bI st), .long sin, .long sta, .long tg, .long (f_J_max_JJ (tg - hl) (hh - tg)), .long hl, .long hh, .int sb, .int os])), (e, .inr (0, [.int (nI cnt), .ref e1, .ref e2, .ref e3, .long hl, .long hh])), (e1, .inl (κ.z 0, 6, .inl (aN nu))), (e2, .inl (κ.z 1, 6, .inr (.inl lo))), (e3, .inl (κ.z 1, 6, .inr (.inl hi)))]
  refine v_put X 0 7 (v := .int (btS nu cnt)) (ty := .int) ty_Sd tk_Sd n_Sd rfl rfl li_Sd (by decide) m137 rfl (by decide +kernel) rfl rfl (Nat.le_of_ble_eq_true rfl) d_Sd_remember_46 (ws' := [(d, .inr (2, [.int (bI st), .long sin, .long sta, .long tg, .long (f_J_max_JJ (tg - hl) (hh - tg)), .long hl, .long hh, .int (btS nu cnt), .int os])), (e, .inr (0, [.int (nI cnt), .ref e1, .ref e2, .ref e3, .long hl, .long hh])), (e1, .inl (κ.z 0, 6, .inl (aN nu))), (e2, .inl (κ.z 1, 6, .inr (.inl lo))), (e3, .inl (κ.z 1, 6, .inr (.inl hi)))]) rfl ?_
  refine v_aload_n X 0 d_Sd_remember_49 rfl ?_
  refine v_iload_n X 2 d_Sd_remember_50 rfl ?_
  refine v_iconst X 1 d_Sd_remember_51 (by decide) ?_
  refine v_iadd X d_Sd_remember_52 ?_
  show V κ 3 0 0 53 [(0, .ref d), (1, .ref e), (2, .int ss)] [.int (ss + 1), .ref d] [(d, .inr (2, [.int (bI st), .long sin, .long sta, .long tg, .long (f_J_max_JJ (tg - hl) (hh - tg)), .long hl, .long hh, .int (btS nu cnt), .int os])), (e, .inr (0, [.int (nI cnt), .ref e1, .ref e2, .ref e3, .long hl, .long hh])), (e1, .inl (κ.z 0, 6, .inl (aN nu))), (e2, .inl (κ.z 1, 6, .inr (.inl lo))), (e3, .inl (κ.z 1, 6, .inr (.inl hi)))]
  refine v_put X 0 8 (v := .int (ss + 1)) (ty := .int) ty_Sd tk_Sd n_Sd rfl rfl li_Sd (by decide) m139 rfl (by decide +kernel) rfl rfl (Nat.le_of_ble_eq_true rfl) d_Sd_remember_53 (ws' := [(d, .inr (2, [.int (bI st), .long sin, .long sta, .long tg, .long (f_J_max_JJ (tg - hl) (hh - tg)), .long hl, .long hh, .int (btS nu cnt), .int (ss + 1)])), (e, .inr (0, [.int (nI cnt), .ref e1, .ref e2, .ref e3, .long hl, .long hh])), (e1, .inl (κ.z 0, 6, .inl (aN nu))), (e2, .inl (κ.z 1, 6, .inr (.inl lo))), (e3, .inl (κ.z 1, 6, .inr (.inl hi)))]) rfl ?_
  exact v_vret X Y (by decide) (by decide) d_Sd_remember_56 ⟨rfl, rfl⟩

set_option maxHeartbeats 4000000 in
set_option maxRecDepth 100000 in
theorem c_Le_init (l : Launch) (D : va_G) (z : Nat → ClassId) (r : Nat)  : Ctr l D z y_Le_init b_Le_init 1 none { frames := 1, cells := 0, slots := 0, locals := 20 } [.ref r] [(r, .inr (1, [.int (bI false), .int 0, .long 0]))] (fun v w => v = none ∧ w = [(r, .inr (1, [.int (bI false), .int 0, .long 0]))]) 0 0 := by
  refine met_V (own := R_Le) (nm := "<init>") (by decide +kernel) rfl rfl (Nat.le_of_ble_eq_true rfl) ?_
  intro κ hl hD hz X Y
  subst hl
  subst hD
  subst hz
  show V κ 1 0 0 0 [(0, .ref r)] [] [(r, .inr (1, [.int (bI false), .int 0, .long 0]))]
  refine v_aload_n X 0 d_Le_init_0 rfl ?_
  refine v_objInit X m90 m43 m44 d_Le_init_1 (by decide) (Nat.le_of_ble_eq_true rfl) ?_
  show V κ 1 0 0 4 [(0, .ref r)] [] [(r, .inr (1, [.int (bI false), .int 0, .long 0]))]
  exact v_vret X Y (by decide) (by decide) d_Le_init_4 ⟨rfl, rfl⟩

set_option maxHeartbeats 4000000 in
set_option maxRecDepth 100000 in
theorem c_Le_give (l : Launch) (D : va_G) (z : Nat → ClassId) (r : Nat) (gr : Bool) (ow : Int32) (un : Int64) (x : Int32) (y : Int64)  : Ctr l D z y_Le_give b_Le_give 4 none { frames := 0, cells := 0, slots := 0, locals := 0 } [.ref r, .int x, .long y] [(r, .inr (1, [.int (bI gr), .int ow, .long un]))] (fun v w => v = none ∧ w = [(r, .inr (1, [.int (bI true), .int x, .long y]))]) 0 0 := by
  refine met_V (own := R_Le) (nm := "give") (by decide +kernel) rfl rfl (Nat.le_of_ble_eq_true rfl) ?_
  intro κ hl hD hz X Y
  subst hl
  subst hD
  subst hz
  show V κ 4 0 0 0 [(0, .ref r), (1, .int x), (2, .long y)] [] [(r, .inr (1, [.int (bI gr), .int ow, .long un]))]
  refine v_aload_n X 0 d_Le_give_0 rfl ?_
  refine v_iconst X 1 d_Le_give_1 (by decide) ?_
  refine v_put X 0 0 (v := .int (bI true)) (ty := .boolean) ty_Le tk_Le n_Le rfl rfl li_Le (by decide) m91 rfl (by decide +kernel) (narB _) rfl (Nat.le_of_ble_eq_true rfl) d_Le_give_2 (ws' := [(r, .inr (1, [.int (bI true), .int ow, .long un]))]) rfl ?_
  refine v_aload_n X 0 d_Le_give_5 rfl ?_
  refine v_iload_n X 1 d_Le_give_6 rfl ?_
  refine v_put X 0 1 (v := .int x) (ty := .int) ty_Le tk_Le n_Le rfl rfl li_Le (by decide) m93 rfl (by decide +kernel) rfl rfl (Nat.le_of_ble_eq_true rfl) d_Le_give_7 (ws' := [(r, .inr (1, [.int (bI true), .int x, .long un]))]) rfl ?_
  refine v_aload_n X 0 d_Le_give_10 rfl ?_
  refine v_lload_n X 2 d_Le_give_11 rfl ?_
  refine v_put X 0 2 (v := .long y) (ty := .long) ty_Le tk_Le n_Le rfl rfl li_Le (by decide) m95 rfl (by decide +kernel) rfl rfl (Nat.le_of_ble_eq_true rfl) d_Le_give_12 (ws' := [(r, .inr (1, [.int (bI true), .int x, .long y]))]) rfl ?_
  exact v_vret X Y (by decide) (by decide) d_Le_give_15 ⟨rfl, rfl⟩
end
section
def f_M_advance (x : Int32) : Bool := if x < 0 then false else (if x ≤ 1000000 then true else false)
def f_M_advance_now (nw : Int64) (x : Int32) : Int64 := if x < 0 then nw else if x ≤ 1000000 then nw + x.toInt64 else nw
set_option maxHeartbeats 4000000 in
set_option maxRecDepth 100000 in
theorem c_M_advance (l : Launch) (D : va_G) (z : Nat → ClassId) (o : Nat) (sa : Nat) (la : Nat) (e : Nat) (d : Nat) (dr : Int32) (sf : Int32) (nw : Int64) (ls : Int64) (x : Int32)  : Ctr l D z y_M_advance b_M_advance 2 (some .boolean) { frames := 0, cells := 0, slots := 0, locals := 0 } [.ref o, .int x] [(o, .inr (4, [.ref sa, .ref la, .ref e, .ref d, .int dr, .int sf, .long nw, .long ls]))] (fun v w => v = some (.int (bI (f_M_advance x))) ∧ w = [(o, .inr (4, [.ref sa, .ref la, .ref e, .ref d, .int dr, .int sf, .long (f_M_advance_now nw x), .long ls]))]) 0 0 := by
  refine met_V (own := R_M) (nm := "advance") (by decide +kernel) rfl rfl (Nat.le_of_ble_eq_true rfl) ?_
  intro κ hl hD hz X Y
  subst hl
  subst hD
  subst hz
  show V κ 2 0 0 0 [(0, .ref o), (1, .int x)] [] [(o, .inr (4, [.ref sa, .ref la, .ref e, .ref d, .int dr, .int sf, .long nw, .long ls]))]
  refine v_iload_n X 1 d_M_advance_0 rfl ?_
  refine v_if_lt X 10 d_M_advance_1 (by decide) (fun c1 => ?_) (fun c1 => ?_)
  · skip
    refine v_iconst X 0 d_M_advance_10 (by decide) ?_
    exact v_zret X Y (by decide) (by decide) d_M_advance_11 rfl ⟨by simp only [f_M_advance, f_M_advance_now, if_pos c1] <;> rfl, by simp only [f_M_advance, f_M_advance_now, if_pos c1] <;> rfl⟩
  · skip
    refine v_iload_n X 1 d_M_advance_4 rfl ?_
    refine v_ldc X (v := 1000000) m170 d_M_advance_5 ?_
    refine v_icmp_le X 12 d_M_advance_7 (by decide) (fun c7 => ?_) (fun c7 => ?_)
    · skip
      refine v_aload_n X 0 d_M_advance_12 rfl ?_
      refine v_dup X d_M_advance_13 rfl ?_
      refine v_get X 0 6 rfl rfl li_M (by decide) m156 rfl d_M_advance_14 ?_
      refine v_iload_n X 1 d_M_advance_17 rfl ?_
      refine v_i2l X d_M_advance_18 ?_
      refine v_ladd X d_M_advance_19 ?_
      refine v_put X 0 6 (v := .long (nw + x.toInt64)) (ty := .long) ty_M tk_M n_M rfl rfl li_M (by decide) m156 rfl (by decide +kernel) rfl rfl (Nat.le_of_ble_eq_true rfl) d_M_advance_20 (ws' := [(o, .inr (4, [.ref sa, .ref la, .ref e, .ref d, .int dr, .int sf, .long (nw + x.toInt64), .long ls]))]) rfl ?_
      refine v_iconst X 1 d_M_advance_23 (by decide) ?_
      exact v_zret X Y (by decide) (by decide) d_M_advance_24 rfl ⟨by simp only [f_M_advance, f_M_advance_now, if_neg c1, if_pos c7] <;> rfl, by simp only [f_M_advance, f_M_advance_now, if_neg c1, if_pos c7] <;> rfl⟩
    · skip
      refine v_iconst X 0 d_M_advance_10 (by decide) ?_
      exact v_zret X Y (by decide) (by decide) d_M_advance_11 rfl ⟨by simp only [f_M_advance, f_M_advance_now, if_neg c1, if_neg c7] <;> rfl, by simp only [f_M_advance, f_M_advance_now, if_neg c1, if_neg c7] <;> rfl⟩

set_option maxHeartbeats 4000000 in
set_option maxRecDepth 100000 in
theorem c_M_hardware (l : Launch) (D : va_G) (z : Nat → ClassId) (o : Nat) (sa : Nat) (la : Nat) (e : Nat) (d : Nat) (dr : Int32) (sf : Int32) (nw : Int64) (ls : Int64)  : Ctr l D z y_M_hardware b_M_hardware 1 (some .long) { frames := 0, cells := 0, slots := 0, locals := 0 } [.ref o] [(o, .inr (4, [.ref sa, .ref la, .ref e, .ref d, .int dr, .int sf, .long nw, .long ls]))] (fun v w => v = some (.long nw) ∧ w = [(o, .inr (4, [.ref sa, .ref la, .ref e, .ref d, .int dr, .int sf, .long nw, .long ls]))]) 0 0 := by
  refine met_V (own := R_M) (nm := "hardware") (by decide +kernel) rfl rfl (Nat.le_of_ble_eq_true rfl) ?_
  intro κ hl hD hz X Y
  subst hl
  subst hD
  subst hz
  show V κ 1 0 0 0 [(0, .ref o)] [] [(o, .inr (4, [.ref sa, .ref la, .ref e, .ref d, .int dr, .int sf, .long nw, .long ls]))]
  refine v_aload_n X 0 d_M_hardware_0 rfl ?_
  refine v_get X 0 6 rfl rfl li_M (by decide) m156 rfl d_M_hardware_1 ?_
  exact v_lret X Y (by decide) (by decide) d_M_hardware_4 ⟨rfl, rfl⟩

set_option maxHeartbeats 4000000 in
set_option maxRecDepth 100000 in
theorem c_M_survivors (l : Launch) (D : va_G) (z : Nat → ClassId) (o : Nat) (sa : Nat) (la : Nat) (e : Nat) (d : Nat) (dr : Int32) (sf : Int32) (nw : Int64) (ls : Int64) (st : Bool) (sin : Int64) (sta : Int64) (tg : Int64) (er : Int64) (vl : Int64) (vh : Int64) (sb : Int32) (os : Int32)  : Ctr l D z y_M_survivors b_M_survivors 1 (some .int) { frames := 0, cells := 0, slots := 0, locals := 0 } [.ref o] [(o, .inr (4, [.ref sa, .ref la, .ref e, .ref d, .int dr, .int sf, .long nw, .long ls])), (d, .inr (2, [.int (bI st), .long sin, .long sta, .long tg, .long er, .long vl, .long vh, .int sb, .int os]))] (fun v w => v = some (.int sb) ∧ w = [(o, .inr (4, [.ref sa, .ref la, .ref e, .ref d, .int dr, .int sf, .long nw, .long ls])), (d, .inr (2, [.int (bI st), .long sin, .long sta, .long tg, .long er, .long vl, .long vh, .int sb, .int os]))]) 0 0 := by
  refine met_V (own := R_M) (nm := "survivors") (by decide +kernel) rfl rfl (Nat.le_of_ble_eq_true rfl) ?_
  intro κ hl hD hz X Y
  subst hl
  subst hD
  subst hz
  show V κ 1 0 0 0 [(0, .ref o)] [] [(o, .inr (4, [.ref sa, .ref la, .ref e, .ref d, .int dr, .int sf, .long nw, .long ls])), (d, .inr (2, [.int (bI st), .long sin, .long sta, .long tg, .long er, .long vl, .long vh, .int sb, .int os]))]
  refine v_aload_n X 0 d_M_survivors_0 rfl ?_
  refine v_get X 0 3 rfl rfl li_M (by decide) m153 rfl d_M_survivors_1 ?_
  refine v_get X 1 7 rfl rfl li_Sd (by decide) m138 rfl d_M_survivors_4 ?_
  exact v_iret X Y (by decide) (by decide) d_M_survivors_7 ⟨rfl, rfl⟩

set_option maxHeartbeats 4000000 in
set_option maxRecDepth 100000 in
theorem c_M_stratum (l : Launch) (D : va_G) (z : Nat → ClassId) (o : Nat) (sa : Nat) (la : Nat) (e : Nat) (d : Nat) (dr : Int32) (sf : Int32) (nw : Int64) (ls : Int64) (st : Bool) (sin : Int64) (sta : Int64) (tg : Int64) (er : Int64) (vl : Int64) (vh : Int64) (sb : Int32) (os : Int32)  : Ctr l D z y_M_stratum b_M_stratum 1 (some .int) { frames := 0, cells := 0, slots := 0, locals := 0 } [.ref o] [(o, .inr (4, [.ref sa, .ref la, .ref e, .ref d, .int dr, .int sf, .long nw, .long ls])), (d, .inr (2, [.int (bI st), .long sin, .long sta, .long tg, .long er, .long vl, .long vh, .int sb, .int os]))] (fun v w => v = some (.int os) ∧ w = [(o, .inr (4, [.ref sa, .ref la, .ref e, .ref d, .int dr, .int sf, .long nw, .long ls])), (d, .inr (2, [.int (bI st), .long sin, .long sta, .long tg, .long er, .long vl, .long vh, .int sb, .int os]))]) 0 0 := by
  refine met_V (own := R_M) (nm := "stratum") (by decide +kernel) rfl rfl (Nat.le_of_ble_eq_true rfl) ?_
  intro κ hl hD hz X Y
  subst hl
  subst hD
  subst hz
  show V κ 1 0 0 0 [(0, .ref o)] [] [(o, .inr (4, [.ref sa, .ref la, .ref e, .ref d, .int dr, .int sf, .long nw, .long ls])), (d, .inr (2, [.int (bI st), .long sin, .long sta, .long tg, .long er, .long vl, .long vh, .int sb, .int os]))]
  refine v_aload_n X 0 d_M_stratum_0 rfl ?_
  refine v_get X 0 3 rfl rfl li_M (by decide) m153 rfl d_M_stratum_1 ?_
  refine v_get X 1 8 rfl rfl li_Sd (by decide) m140 rfl d_M_stratum_4 ?_
  exact v_iret X Y (by decide) (by decide) d_M_stratum_7 ⟨rfl, rfl⟩

def f_M_time (nw : Int64) (st : Bool) (sin : Int64) (sta : Int64) (tg : Int64) : Int64 := if st = true then nw + (f_Sd_correctionAt sin sta tg nw) else (-4611686018427387904)
set_option maxHeartbeats 4000000 in
set_option maxRecDepth 100000 in
theorem c_M_time (l : Launch) (D : va_G) (z : Nat → ClassId) (o : Nat) (sa : Nat) (la : Nat) (e : Nat) (d : Nat) (dr : Int32) (sf : Int32) (nw : Int64) (ls : Int64) (st : Bool) (sin : Int64) (sta : Int64) (tg : Int64) (er : Int64) (vl : Int64) (vh : Int64) (sb : Int32) (os : Int32)  : Ctr l D z y_M_time b_M_time 1 (some .long) { frames := 2, cells := 0, slots := 0, locals := 49 } [.ref o] [(o, .inr (4, [.ref sa, .ref la, .ref e, .ref d, .int dr, .int sf, .long nw, .long ls])), (d, .inr (2, [.int (bI st), .long sin, .long sta, .long tg, .long er, .long vl, .long vh, .int sb, .int os]))] (fun v w => v = some (.long (f_M_time nw st sin sta tg)) ∧ w = [(o, .inr (4, [.ref sa, .ref la, .ref e, .ref d, .int dr, .int sf, .long nw, .long ls])), (d, .inr (2, [.int (bI st), .long sin, .long sta, .long tg, .long er, .long vl, .long vh, .int sb, .int os]))]) 0 0 := by
  refine met_V (own := R_M) (nm := "time") (by decide +kernel) rfl rfl (Nat.le_of_ble_eq_true rfl) ?_
  intro κ hl hD hz X Y
  subst hl
  subst hD
  subst hz
  show V κ 1 0 0 0 [(0, .ref o)] [] [(o, .inr (4, [.ref sa, .ref la, .ref e, .ref d, .int dr, .int sf, .long nw, .long ls])), (d, .inr (2, [.int (bI st), .long sin, .long sta, .long tg, .long er, .long vl, .long vh, .int sb, .int os]))]
  refine v_aload_n X 0 d_M_time_0 rfl ?_
  refine v_get X 0 3 rfl rfl li_M (by decide) m153 rfl d_M_time_1 ?_
  refine v_get X 1 0 rfl rfl li_Sd (by decide) m128 rfl d_M_time_4 ?_
  refine v_ifB_ne X 14 (t := st) d_M_time_7 (by decide) (fun c7 => ?_) (fun c7 => ?_)
  · skip
    refine v_aload_n X 0 d_M_time_14 rfl ?_
    refine v_get X 0 6 rfl rfl li_M (by decide) m156 rfl d_M_time_15 ?_
    refine v_aload_n X 0 d_M_time_18 rfl ?_
    refine v_get X 0 3 rfl rfl li_M (by decide) m153 rfl d_M_time_19 ?_
    refine v_aload_n X 0 d_M_time_22 rfl ?_
    refine v_get X 0 6 rfl rfl li_M (by decide) m156 rfl d_M_time_23 ?_
    refine v_perm (perm_idx (α := Nat × va_E) (ws := [(o, .inr (4, [.ref sa, .ref la, .ref e, .ref d, .int dr, .int sf, .long nw, .long ls])), (d, .inr (2, [.int (bI st), .long sin, .long sta, .long tg, .long er, .long vl, .long vh, .int sb, .int os]))]) (ws' := [(d, .inr (2, [.int (bI st), .long sin, .long sta, .long tg, .long er, .long vl, .long vh, .int sb, .int os])), (o, .inr (4, [.ref sa, .ref la, .ref e, .ref d, .int dr, .int sf, .long nw, .long ls]))]) [1, 0] rfl rfl) ?_
    refine v_callV X (b := d) (n9 := 1) (As := [.long nw]) (rest := [.long nw]) (wc := [(d, .inr (2, [.int (bI st), .long sin, .long sta, .long tg, .long er, .long vl, .long vh, .int sb, .int os]))]) (wr := [(o, .inr (4, [.ref sa, .ref la, .ref e, .ref d, .int dr, .int sf, .long nw, .long ls]))]) (c_Sd_correctionAt κ.l κ.D κ.z d st sin sta tg er vl vh sb os nw ) 0 rfl rfl m373 m339 m340 m35 (by decide +kernel) rfl (Nat.le_of_ble_eq_true rfl) ⟨by decide, by decide⟩ ⟨by decide, by decide⟩ rfl rfl m341 d_M_time_26 (fun v w1 hg => ?_)
    obtain ⟨rfl, rfl⟩ := hg
    refine v_perm (perm_idx (α := Nat × va_E) (ws := [(d, .inr (2, [.int (bI st), .long sin, .long sta, .long tg, .long er, .long vl, .long vh, .int sb, .int os])), (o, .inr (4, [.ref sa, .ref la, .ref e, .ref d, .int dr, .int sf, .long nw, .long ls]))]) (ws' := [(o, .inr (4, [.ref sa, .ref la, .ref e, .ref d, .int dr, .int sf, .long nw, .long ls])), (d, .inr (2, [.int (bI st), .long sin, .long sta, .long tg, .long er, .long vl, .long vh, .int sb, .int os]))]) [1, 0] rfl rfl) ?_
    show V κ 1 0 0 29 [(0, .ref o)] [.long (f_Sd_correctionAt sin sta tg nw), .long nw] [(o, .inr (4, [.ref sa, .ref la, .ref e, .ref d, .int dr, .int sf, .long nw, .long ls])), (d, .inr (2, [.int (bI st), .long sin, .long sta, .long tg, .long er, .long vl, .long vh, .int sb, .int os]))]
    refine v_ladd X d_M_time_29 ?_
    exact v_lret X Y (by decide) (by decide) d_M_time_30 ⟨by simp only [f_M_time, if_pos c7] <;> rfl, rfl⟩
  · skip
    refine v_ldc2 X (v := (-4611686018427387904)) m197 d_M_time_10 ?_
    exact v_lret X Y (by decide) (by decide) d_M_time_13 ⟨by simp only [f_M_time, if_neg c7] <;> rfl, rfl⟩

def f_M_bound (dr : Int32) (nw : Int64) (st : Bool) (sin : Int64) (sta : Int64) (tg : Int64) (er : Int64) : Int64 := if st = true then f_Sd_wrongAtMost sin sta tg er nw dr else (-4611686018427387904)
set_option maxHeartbeats 4000000 in
set_option maxRecDepth 100000 in
theorem c_M_bound (l : Launch) (D : va_G) (z : Nat → ClassId) (o : Nat) (sa : Nat) (la : Nat) (e : Nat) (d : Nat) (dr : Int32) (sf : Int32) (nw : Int64) (ls : Int64) (st : Bool) (sin : Int64) (sta : Int64) (tg : Int64) (er : Int64) (vl : Int64) (vh : Int64) (sb : Int32) (os : Int32)  : Ctr l D z y_M_bound b_M_bound 1 (some .long) { frames := 3, cells := 0, slots := 0, locals := 72 } [.ref o] [(o, .inr (4, [.ref sa, .ref la, .ref e, .ref d, .int dr, .int sf, .long nw, .long ls])), (d, .inr (2, [.int (bI st), .long sin, .long sta, .long tg, .long er, .long vl, .long vh, .int sb, .int os]))] (fun v w => v = some (.long (f_M_bound dr nw st sin sta tg er)) ∧ w = [(o, .inr (4, [.ref sa, .ref la, .ref e, .ref d, .int dr, .int sf, .long nw, .long ls])), (d, .inr (2, [.int (bI st), .long sin, .long sta, .long tg, .long er, .long vl, .long vh, .int sb, .int os]))]) 0 0 := by
  refine met_V (own := R_M) (nm := "bound") (by decide +kernel) rfl rfl (Nat.le_of_ble_eq_true rfl) ?_
  intro κ hl hD hz X Y
  subst hl
  subst hD
  subst hz
  show V κ 1 0 0 0 [(0, .ref o)] [] [(o, .inr (4, [.ref sa, .ref la, .ref e, .ref d, .int dr, .int sf, .long nw, .long ls])), (d, .inr (2, [.int (bI st), .long sin, .long sta, .long tg, .long er, .long vl, .long vh, .int sb, .int os]))]
  refine v_aload_n X 0 d_M_bound_0 rfl ?_
  refine v_get X 0 3 rfl rfl li_M (by decide) m153 rfl d_M_bound_1 ?_
  refine v_get X 1 0 rfl rfl li_Sd (by decide) m128 rfl d_M_bound_4 ?_
  refine v_ifB_ne X 14 (t := st) d_M_bound_7 (by decide) (fun c7 => ?_) (fun c7 => ?_)
  · skip
    refine v_aload_n X 0 d_M_bound_14 rfl ?_
    refine v_get X 0 3 rfl rfl li_M (by decide) m153 rfl d_M_bound_15 ?_
    refine v_aload_n X 0 d_M_bound_18 rfl ?_
    refine v_get X 0 6 rfl rfl li_M (by decide) m156 rfl d_M_bound_19 ?_
    refine v_aload_n X 0 d_M_bound_22 rfl ?_
    refine v_get X 0 4 rfl rfl li_M (by decide) m154 rfl d_M_bound_23 ?_
    refine v_perm (perm_idx (α := Nat × va_E) (ws := [(o, .inr (4, [.ref sa, .ref la, .ref e, .ref d, .int dr, .int sf, .long nw, .long ls])), (d, .inr (2, [.int (bI st), .long sin, .long sta, .long tg, .long er, .long vl, .long vh, .int sb, .int os]))]) (ws' := [(d, .inr (2, [.int (bI st), .long sin, .long sta, .long tg, .long er, .long vl, .long vh, .int sb, .int os])), (o, .inr (4, [.ref sa, .ref la, .ref e, .ref d, .int dr, .int sf, .long nw, .long ls]))]) [1, 0] rfl rfl) ?_
    refine v_callV X (b := d) (n9 := 2) (As := [.long nw, .int dr]) (rest := []) (wc := [(d, .inr (2, [.int (bI st), .long sin, .long sta, .long tg, .long er, .long vl, .long vh, .int sb, .int os]))]) (wr := [(o, .inr (4, [.ref sa, .ref la, .ref e, .ref d, .int dr, .int sf, .long nw, .long ls]))]) (c_Sd_wrongAtMost κ.l κ.D κ.z d st sin sta tg er vl vh sb os nw dr ) 0 rfl rfl m378 m379 m380 m35 (by decide +kernel) rfl (Nat.le_of_ble_eq_true rfl) ⟨by decide, by decide⟩ ⟨by decide, by decide⟩ rfl rfl m381 d_M_bound_26 (fun v w1 hg => ?_)
    obtain ⟨rfl, rfl⟩ := hg
    refine v_perm (perm_idx (α := Nat × va_E) (ws := [(d, .inr (2, [.int (bI st), .long sin, .long sta, .long tg, .long er, .long vl, .long vh, .int sb, .int os])), (o, .inr (4, [.ref sa, .ref la, .ref e, .ref d, .int dr, .int sf, .long nw, .long ls]))]) (ws' := [(o, .inr (4, [.ref sa, .ref la, .ref e, .ref d, .int dr, .int sf, .long nw, .long ls])), (d, .inr (2, [.int (bI st), .long sin, .long sta, .long tg, .long er, .long vl, .long vh, .int sb, .int os]))]) [1, 0] rfl rfl) ?_
    show V κ 1 0 0 29 [(0, .ref o)] [.long (f_Sd_wrongAtMost sin sta tg er nw dr)] [(o, .inr (4, [.ref sa, .ref la, .ref e, .ref d, .int dr, .int sf, .long nw, .long ls])), (d, .inr (2, [.int (bI st), .long sin, .long sta, .long tg, .long er, .long vl, .long vh, .int sb, .int os]))]
    exact v_lret X Y (by decide) (by decide) d_M_bound_29 ⟨by simp only [f_M_bound, if_pos c7] <;> rfl, rfl⟩
  · skip
    refine v_ldc2 X (v := (-4611686018427387904)) m197 d_M_bound_10 ?_
    exact v_lret X Y (by decide) (by decide) d_M_bound_13 ⟨by simp only [f_M_bound, if_neg c7] <;> rfl, rfl⟩

def f_M_hull (st : Bool) (vl : Int64) (vh : Int64) (u : Bool) : Int64 := if st = true then if u = true then vh else vl else (-4611686018427387904)
set_option maxHeartbeats 4000000 in
set_option maxRecDepth 100000 in
theorem c_M_hull (l : Launch) (D : va_G) (z : Nat → ClassId) (o : Nat) (sa : Nat) (la : Nat) (e : Nat) (d : Nat) (dr : Int32) (sf : Int32) (nw : Int64) (ls : Int64) (st : Bool) (sin : Int64) (sta : Int64) (tg : Int64) (er : Int64) (vl : Int64) (vh : Int64) (sb : Int32) (os : Int32) (u : Bool)  : Ctr l D z y_M_hull b_M_hull 2 (some .long) { frames := 0, cells := 0, slots := 0, locals := 0 } [.ref o, .int (bI u)] [(o, .inr (4, [.ref sa, .ref la, .ref e, .ref d, .int dr, .int sf, .long nw, .long ls])), (d, .inr (2, [.int (bI st), .long sin, .long sta, .long tg, .long er, .long vl, .long vh, .int sb, .int os]))] (fun v w => v = some (.long (f_M_hull st vl vh u)) ∧ w = [(o, .inr (4, [.ref sa, .ref la, .ref e, .ref d, .int dr, .int sf, .long nw, .long ls])), (d, .inr (2, [.int (bI st), .long sin, .long sta, .long tg, .long er, .long vl, .long vh, .int sb, .int os]))]) 0 0 := by
  refine met_V (own := R_M) (nm := "hull") (by decide +kernel) rfl rfl (Nat.le_of_ble_eq_true rfl) ?_
  intro κ hl hD hz X Y
  subst hl
  subst hD
  subst hz
  show V κ 2 0 0 0 [(0, .ref o), (1, .int (bI u))] [] [(o, .inr (4, [.ref sa, .ref la, .ref e, .ref d, .int dr, .int sf, .long nw, .long ls])), (d, .inr (2, [.int (bI st), .long sin, .long sta, .long tg, .long er, .long vl, .long vh, .int sb, .int os]))]
  refine v_aload_n X 0 d_M_hull_0 rfl ?_
  refine v_get X 0 3 rfl rfl li_M (by decide) m153 rfl d_M_hull_1 ?_
  refine v_get X 1 0 rfl rfl li_Sd (by decide) m128 rfl d_M_hull_4 ?_
  refine v_ifB_ne X 14 (t := st) d_M_hull_7 (by decide) (fun c7 => ?_) (fun c7 => ?_)
  · skip
    refine v_iload_n X 1 d_M_hull_14 rfl ?_
    suffices hm15 : V κ 2 0 0 35 [(0, .ref o), (1, .int (bI u))] [.long (if u = true then vh else vl)] [(o, .inr (4, [.ref sa, .ref la, .ref e, .ref d, .int dr, .int sf, .long nw, .long ls])), (d, .inr (2, [.int (bI st), .long sin, .long sta, .long tg, .long er, .long vl, .long vh, .int sb, .int os]))] by
      refine v_ifB_eq X 28 (t := u) d_M_hull_15 (by decide) (fun c15 => ?_) (fun c15 => ?_)
      · skip
        refine v_aload_n X 0 d_M_hull_28 rfl ?_
        refine v_get X 0 3 rfl rfl li_M (by decide) m153 rfl d_M_hull_29 ?_
        refine v_get X 1 5 rfl rfl li_Sd (by decide) m134 rfl d_M_hull_32 ?_
        have h9 := hm15; simp only [if_neg c15] at h9; first | exact h9 | (simp only [if_neg c15]; exact h9)
      · skip
        refine v_aload_n X 0 d_M_hull_18 rfl ?_
        refine v_get X 0 3 rfl rfl li_M (by decide) m153 rfl d_M_hull_19 ?_
        refine v_get X 1 6 rfl rfl li_Sd (by decide) m136 rfl d_M_hull_22 ?_
        refine v_goto X 35 d_M_hull_25 (by decide) ?_
        have h9 := hm15; simp only [if_pos c15] at h9; first | exact h9 | (simp only [if_pos c15]; exact h9)
    exact v_lret X Y (by decide) (by decide) d_M_hull_35 ⟨by simp only [f_M_hull, if_pos c7] <;> rfl, rfl⟩
  · skip
    refine v_ldc2 X (v := (-4611686018427387904)) m197 d_M_hull_10 ?_
    exact v_lret X Y (by decide) (by decide) d_M_hull_13 ⟨by simp only [f_M_hull, if_neg c7] <;> rfl, rfl⟩

def f_M_isOver (dr : Int32) (nw : Int64) (st : Bool) (sin : Int64) (sta : Int64) (tg : Int64) (er : Int64) (un : Int64) : Bool := (if ((f_M_time nw st sin sta tg) - (f_M_bound dr nw st sin sta tg er)) < un then false else true)
set_option maxHeartbeats 4000000 in
set_option maxRecDepth 100000 in
theorem c_M_isOver (l : Launch) (D : va_G) (z : Nat → ClassId) (o : Nat) (sa : Nat) (la : Nat) (e : Nat) (d : Nat) (dr : Int32) (sf : Int32) (nw : Int64) (ls : Int64) (st : Bool) (sin : Int64) (sta : Int64) (tg : Int64) (er : Int64) (vl : Int64) (vh : Int64) (sb : Int32) (os : Int32) (r : Nat) (gr : Bool) (ow : Int32) (un : Int64)  : Ctr l D z y_M_isOver b_M_isOver 2 (some .boolean) { frames := 4, cells := 0, slots := 0, locals := 92 } [.ref o, .ref r] [(o, .inr (4, [.ref sa, .ref la, .ref e, .ref d, .int dr, .int sf, .long nw, .long ls])), (d, .inr (2, [.int (bI st), .long sin, .long sta, .long tg, .long er, .long vl, .long vh, .int sb, .int os])), (r, .inr (1, [.int (bI gr), .int ow, .long un]))] (fun v w => v = some (.int (bI (f_M_isOver dr nw st sin sta tg er un))) ∧ w = [(o, .inr (4, [.ref sa, .ref la, .ref e, .ref d, .int dr, .int sf, .long nw, .long ls])), (d, .inr (2, [.int (bI st), .long sin, .long sta, .long tg, .long er, .long vl, .long vh, .int sb, .int os])), (r, .inr (1, [.int (bI gr), .int ow, .long un]))]) 0 0 := by
  refine met_V (own := R_M) (nm := "isOver") (by decide +kernel) rfl rfl (Nat.le_of_ble_eq_true rfl) ?_
  intro κ hl hD hz X Y
  subst hl
  subst hD
  subst hz
  show V κ 2 0 0 0 [(0, .ref o), (1, .ref r)] [] [(o, .inr (4, [.ref sa, .ref la, .ref e, .ref d, .int dr, .int sf, .long nw, .long ls])), (d, .inr (2, [.int (bI st), .long sin, .long sta, .long tg, .long er, .long vl, .long vh, .int sb, .int os])), (r, .inr (1, [.int (bI gr), .int ow, .long un]))]
  refine v_aload_n X 0 d_M_isOver_0 rfl ?_
  refine v_callV X (b := o) (n9 := 0) (As := []) (rest := []) (wc := [(o, .inr (4, [.ref sa, .ref la, .ref e, .ref d, .int dr, .int sf, .long nw, .long ls])), (d, .inr (2, [.int (bI st), .long sin, .long sta, .long tg, .long er, .long vl, .long vh, .int sb, .int os]))]) (wr := [(r, .inr (1, [.int (bI gr), .int ow, .long un]))]) (c_M_time κ.l κ.D κ.z o sa la e d dr sf nw ls st sin sta tg er vl vh sb os ) 0 rfl rfl m389 m370 m371 m30 (by decide +kernel) rfl (Nat.le_of_ble_eq_true rfl) ⟨by decide, by decide⟩ ⟨by decide, by decide⟩ rfl rfl m372 d_M_isOver_1 (fun v w1 hg => ?_)
  obtain ⟨rfl, rfl⟩ := hg
  show V κ 2 0 0 4 [(0, .ref o), (1, .ref r)] [.long (f_M_time nw st sin sta tg)] [(o, .inr (4, [.ref sa, .ref la, .ref e, .ref d, .int dr, .int sf, .long nw, .long ls])), (d, .inr (2, [.int (bI st), .long sin, .long sta, .long tg, .long er, .long vl, .long vh, .int sb, .int os])), (r, .inr (1, [.int (bI gr), .int ow, .long un]))]
  refine v_aload_n X 0 d_M_isOver_4 rfl ?_
  refine v_callV X (b := o) (n9 := 0) (As := []) (rest := [.long (f_M_time nw st sin sta tg)]) (wc := [(o, .inr (4, [.ref sa, .ref la, .ref e, .ref d, .int dr, .int sf, .long nw, .long ls])), (d, .inr (2, [.int (bI st), .long sin, .long sta, .long tg, .long er, .long vl, .long vh, .int sb, .int os]))]) (wr := [(r, .inr (1, [.int (bI gr), .int ow, .long un]))]) (c_M_bound κ.l κ.D κ.z o sa la e d dr sf nw ls st sin sta tg er vl vh sb os ) 0 rfl rfl m396 m375 m376 m30 (by decide +kernel) rfl (Nat.le_of_ble_eq_true rfl) ⟨by decide, by decide⟩ ⟨by decide, by decide⟩ rfl rfl m377 d_M_isOver_5 (fun v w1 hg => ?_)
  obtain ⟨rfl, rfl⟩ := hg
  show V κ 2 0 0 8 [(0, .ref o), (1, .ref r)] [.long (f_M_bound dr nw st sin sta tg er), .long (f_M_time nw st sin sta tg)] [(o, .inr (4, [.ref sa, .ref la, .ref e, .ref d, .int dr, .int sf, .long nw, .long ls])), (d, .inr (2, [.int (bI st), .long sin, .long sta, .long tg, .long er, .long vl, .long vh, .int sb, .int os])), (r, .inr (1, [.int (bI gr), .int ow, .long un]))]
  refine v_lsub X d_M_isOver_8 ?_
  refine v_aload_n X 1 d_M_isOver_9 rfl ?_
  refine v_get X 2 2 rfl rfl li_Le (by decide) m96 rfl d_M_isOver_10 ?_
  suffices hm13 : V κ 2 0 0 22 [(0, .ref o), (1, .ref r)] [.int (bI (if ((f_M_time nw st sin sta tg) - (f_M_bound dr nw st sin sta tg er)) < un then false else true))] [(o, .inr (4, [.ref sa, .ref la, .ref e, .ref d, .int dr, .int sf, .long nw, .long ls])), (d, .inr (2, [.int (bI st), .long sin, .long sta, .long tg, .long er, .long vl, .long vh, .int sb, .int os])), (r, .inr (1, [.int (bI gr), .int ow, .long un]))] by
    refine v_lcmp_lt X 21 d_M_isOver_13 d_M_isOver_14 (by decide) (fun c13 => ?_) (fun c13 => ?_)
    · skip
      refine v_iconst X 0 d_M_isOver_21 (by decide) ?_
      have h9 := hm13; simp only [if_pos c13] at h9; first | exact h9 | (simp only [if_pos c13]; exact h9)
    · skip
      refine v_iconst X 1 d_M_isOver_17 (by decide) ?_
      refine v_goto X 22 d_M_isOver_18 (by decide) ?_
      have h9 := hm13; simp only [if_neg c13] at h9; first | exact h9 | (simp only [if_neg c13]; exact h9)
  exact v_zret X Y (by decide) (by decide) d_M_isOver_22 (narB _) ⟨rfl, rfl⟩

def f_M_mayFollow (dr : Int32) (nw : Int64) (st : Bool) (sin : Int64) (sta : Int64) (tg : Int64) (er : Int64) (ow : Int32) (un : Int64) (x : Int32) (y : Int64) : Bool := if ow = x then (if y < un then false else true) else (f_M_isOver dr nw st sin sta tg er un)
set_option maxHeartbeats 4000000 in
set_option maxRecDepth 100000 in
theorem c_M_mayFollow (l : Launch) (D : va_G) (z : Nat → ClassId) (o : Nat) (sa : Nat) (la : Nat) (e : Nat) (d : Nat) (dr : Int32) (sf : Int32) (nw : Int64) (ls : Int64) (st : Bool) (sin : Int64) (sta : Int64) (tg : Int64) (er : Int64) (vl : Int64) (vh : Int64) (sb : Int32) (os : Int32) (r : Nat) (gr : Bool) (ow : Int32) (un : Int64) (x : Int32) (y : Int64)  : Ctr l D z y_M_mayFollow b_M_mayFollow 5 (some .boolean) { frames := 5, cells := 0, slots := 0, locals := 113 } [.ref o, .ref r, .int x, .long y] [(o, .inr (4, [.ref sa, .ref la, .ref e, .ref d, .int dr, .int sf, .long nw, .long ls])), (d, .inr (2, [.int (bI st), .long sin, .long sta, .long tg, .long er, .long vl, .long vh, .int sb, .int os])), (r, .inr (1, [.int (bI gr), .int ow, .long un]))] (fun v w => v = some (.int (bI (f_M_mayFollow dr nw st sin sta tg er ow un x y))) ∧ w = [(o, .inr (4, [.ref sa, .ref la, .ref e, .ref d, .int dr, .int sf, .long nw, .long ls])), (d, .inr (2, [.int (bI st), .long sin, .long sta, .long tg, .long er, .long vl, .long vh, .int sb, .int os])), (r, .inr (1, [.int (bI gr), .int ow, .long un]))]) 0 0 := by
  refine met_V (own := R_M) (nm := "mayFollow") (by decide +kernel) rfl rfl (Nat.le_of_ble_eq_true rfl) ?_
  intro κ hl hD hz X Y
  subst hl
  subst hD
  subst hz
  show V κ 5 0 0 0 [(0, .ref o), (1, .ref r), (2, .int x), (3, .long y)] [] [(o, .inr (4, [.ref sa, .ref la, .ref e, .ref d, .int dr, .int sf, .long nw, .long ls])), (d, .inr (2, [.int (bI st), .long sin, .long sta, .long tg, .long er, .long vl, .long vh, .int sb, .int os])), (r, .inr (1, [.int (bI gr), .int ow, .long un]))]
  refine v_aload_n X 1 d_M_mayFollow_0 rfl ?_
  refine v_get X 2 1 rfl rfl li_Le (by decide) m94 rfl d_M_mayFollow_1 ?_
  refine v_iload_n X 2 d_M_mayFollow_4 rfl ?_
  refine v_icmp_ne X 23 d_M_mayFollow_5 (by decide) (fun c5 => ?_) (fun c5 => ?_)
  · skip
    refine v_aload_n X 0 d_M_mayFollow_23 rfl ?_
    refine v_aload_n X 1 d_M_mayFollow_24 rfl ?_
    refine v_callV X (b := o) (n9 := 1) (As := [.ref r]) (rest := []) (wc := [(o, .inr (4, [.ref sa, .ref la, .ref e, .ref d, .int dr, .int sf, .long nw, .long ls])), (d, .inr (2, [.int (bI st), .long sin, .long sta, .long tg, .long er, .long vl, .long vh, .int sb, .int os])), (r, .inr (1, [.int (bI gr), .int ow, .long un]))]) (wr := []) (c_M_isOver κ.l κ.D κ.z o sa la e d dr sf nw ls st sin sta tg er vl vh sb os r gr ow un ) 0 rfl rfl m393 m394 m15 m30 (by decide +kernel) rfl (Nat.le_of_ble_eq_true rfl) ⟨by decide, by decide⟩ ⟨by decide, by decide⟩ rfl rfl m395 d_M_mayFollow_25 (fun v w1 hg => ?_)
    obtain ⟨rfl, rfl⟩ := hg
    show V κ 5 0 0 28 [(0, .ref o), (1, .ref r), (2, .int x), (3, .long y)] [.int (bI (f_M_isOver dr nw st sin sta tg er un))] [(o, .inr (4, [.ref sa, .ref la, .ref e, .ref d, .int dr, .int sf, .long nw, .long ls])), (d, .inr (2, [.int (bI st), .long sin, .long sta, .long tg, .long er, .long vl, .long vh, .int sb, .int os])), (r, .inr (1, [.int (bI gr), .int ow, .long un]))]
    exact v_zret X Y (by decide) (by decide) d_M_mayFollow_28 (narB _) ⟨by simp only [f_M_mayFollow, if_neg c5] <;> rfl, rfl⟩
  · skip
    refine v_lload_n X 3 d_M_mayFollow_8 rfl ?_
    refine v_aload_n X 1 d_M_mayFollow_9 rfl ?_
    refine v_get X 2 2 rfl rfl li_Le (by decide) m96 rfl d_M_mayFollow_10 ?_
    suffices hm13 : V κ 5 0 0 22 [(0, .ref o), (1, .ref r), (2, .int x), (3, .long y)] [.int (bI (if y < un then false else true))] [(o, .inr (4, [.ref sa, .ref la, .ref e, .ref d, .int dr, .int sf, .long nw, .long ls])), (d, .inr (2, [.int (bI st), .long sin, .long sta, .long tg, .long er, .long vl, .long vh, .int sb, .int os])), (r, .inr (1, [.int (bI gr), .int ow, .long un]))] by
      refine v_lcmp_lt X 21 d_M_mayFollow_13 d_M_mayFollow_14 (by decide) (fun c13 => ?_) (fun c13 => ?_)
      · skip
        refine v_iconst X 0 d_M_mayFollow_21 (by decide) ?_
        have h9 := hm13; simp only [if_pos c13] at h9; first | exact h9 | (simp only [if_pos c13]; exact h9)
      · skip
        refine v_iconst X 1 d_M_mayFollow_17 (by decide) ?_
        refine v_goto X 22 d_M_mayFollow_18 (by decide) ?_
        have h9 := hm13; simp only [if_neg c13] at h9; first | exact h9 | (simp only [if_neg c13]; exact h9)
    exact v_zret X Y (by decide) (by decide) d_M_mayFollow_22 (narB _) ⟨by simp only [f_M_mayFollow, if_pos c5] <;> rfl, rfl⟩

set_option maxHeartbeats 4000000 in
set_option maxRecDepth 100000 in
theorem c_M_serverOrNullG (l : Launch) (D : va_G) (z : Nat → ClassId) (o : Nat) (sa : Nat) (la : Nat) (e : Nat) (d : Nat) (dr : Int32) (sf : Int32) (nw : Int64) (ls : Int64) (nS : Nat) (fs : Nat → Option Nat) (i : Nat) (a : Nat) (hi9 : i < nS) (hn9 : nS ≤ 6) (hf9 : fs i = some a) : Ctr l D z y_M_serverOrNull b_M_serverOrNull 2 (some (.object "MajorityClock$Server")) { frames := 0, cells := 0, slots := 0, locals := 0 } [.ref o, .int (nI i)] [(o, .inr (4, [.ref sa, .ref la, .ref e, .ref d, .int dr, .int sf, .long nw, .long ls])), (sa, .inl (z 3, nS, .inr (.inr (.inr (.inr fs)))))] (fun v w => v = some (.ref a) ∧ w = [(o, .inr (4, [.ref sa, .ref la, .ref e, .ref d, .int dr, .int sf, .long nw, .long ls])), (sa, .inl (z 3, nS, .inr (.inr (.inr (.inr fs)))))]) 0 0 := by
  refine met_V (own := R_M) (nm := "serverOrNull") (by decide +kernel) rfl rfl (Nat.le_of_ble_eq_true rfl) ?_
  intro κ hl hD hz X Y
  subst hl
  subst hD
  subst hz
  show V κ 2 0 0 0 [(0, .ref o), (1, .int (nI i))] [] [(o, .inr (4, [.ref sa, .ref la, .ref e, .ref d, .int dr, .int sf, .long nw, .long ls])), (sa, .inl (κ.z 3, nS, .inr (.inr (.inr (.inr fs)))))]
  refine v_iload_n X 1 d_M_serverOrNull_0 rfl ?_
  refine v_ifN_lt X 13 (a := i) d_M_serverOrNull_1 (by decide) (by omega) ?_
  refine v_iload_n X 1 d_M_serverOrNull_4 rfl ?_
  refine v_aload_n X 0 d_M_serverOrNull_5 rfl ?_
  refine v_get X 0 0 rfl rfl li_M (by decide) m150 rfl d_M_serverOrNull_6 ?_
  refine v_alen X 1 3 (nI nS) rfl rfl rfl d_M_serverOrNull_9 ?_
  refine v_icmpN_lt X 17 (a := i) (b := nS) d_M_serverOrNull_10 (by decide) (by omega) (by omega) (fun c10 => ?_) (fun c10 => by omega)
  refine v_aload_n X 0 d_M_serverOrNull_17 rfl ?_
  refine v_get X 0 0 rfl rfl li_M (by decide) m150 rfl d_M_serverOrNull_18 ?_
  refine v_iload_n X 1 d_M_serverOrNull_21 rfl ?_
  refine v_aaldM X 1 3 (j := i) (b := a) rfl rfl (by omega) (by omega) hf9 d_M_serverOrNull_22 ?_
  exact v_aret X Y (by decide) (by decide) d_M_serverOrNull_23 (Or.inr ⟨_, rfl⟩) ⟨rfl, rfl⟩

set_option maxHeartbeats 4000000 in
set_option maxRecDepth 100000 in
theorem c_M_serverOrNullB (l : Launch) (D : va_G) (z : Nat → ClassId) (o : Nat) (sa : Nat) (la : Nat) (e : Nat) (d : Nat) (dr : Int32) (sf : Int32) (nw : Int64) (ls : Int64) (nS : Nat) (fs : Nat → Option Nat) (s : Int32) (hb9 : ¬ s < 0 → ¬ s < nI nS) : Ctr l D z y_M_serverOrNull b_M_serverOrNull 2 (some (.object "MajorityClock$Server")) { frames := 0, cells := 0, slots := 0, locals := 0 } [.ref o, .int s] [(o, .inr (4, [.ref sa, .ref la, .ref e, .ref d, .int dr, .int sf, .long nw, .long ls])), (sa, .inl (z 3, nS, .inr (.inr (.inr (.inr fs)))))] (fun v w => v = some (.null) ∧ w = [(o, .inr (4, [.ref sa, .ref la, .ref e, .ref d, .int dr, .int sf, .long nw, .long ls])), (sa, .inl (z 3, nS, .inr (.inr (.inr (.inr fs)))))]) 0 0 := by
  refine met_V (own := R_M) (nm := "serverOrNull") (by decide +kernel) rfl rfl (Nat.le_of_ble_eq_true rfl) ?_
  intro κ hl hD hz X Y
  subst hl
  subst hD
  subst hz
  show V κ 2 0 0 0 [(0, .ref o), (1, .int s)] [] [(o, .inr (4, [.ref sa, .ref la, .ref e, .ref d, .int dr, .int sf, .long nw, .long ls])), (sa, .inl (κ.z 3, nS, .inr (.inr (.inr (.inr fs)))))]
  refine v_iload_n X 1 d_M_serverOrNull_0 rfl ?_
  refine v_if_lt X 13 d_M_serverOrNull_1 (by decide) (fun c1 => ?_) (fun c1 => ?_)
  · skip
    refine v_null X d_M_serverOrNull_13 ?_
    refine v_goto X 23 d_M_serverOrNull_14 (by decide) ?_
    exact v_aret X Y (by decide) (by decide) d_M_serverOrNull_23 (Or.inl rfl) ⟨rfl, rfl⟩
  · skip
    refine v_iload_n X 1 d_M_serverOrNull_4 rfl ?_
    refine v_aload_n X 0 d_M_serverOrNull_5 rfl ?_
    refine v_get X 0 0 rfl rfl li_M (by decide) m150 rfl d_M_serverOrNull_6 ?_
    refine v_alen X 1 3 (nI nS) rfl rfl rfl d_M_serverOrNull_9 ?_
    refine v_icmp_lt X 17 d_M_serverOrNull_10 (by decide) (fun c10 => absurd c10 (hb9 c1)) (fun c10 => ?_)
    refine v_null X d_M_serverOrNull_13 ?_
    refine v_goto X 23 d_M_serverOrNull_14 (by decide) ?_
    exact v_aret X Y (by decide) (by decide) d_M_serverOrNull_23 (Or.inl rfl) ⟨rfl, rfl⟩

set_option maxHeartbeats 4000000 in
set_option maxRecDepth 100000 in
theorem c_M_leaseOrNullG (l : Launch) (D : va_G) (z : Nat → ClassId) (o : Nat) (sa : Nat) (la : Nat) (e : Nat) (d : Nat) (dr : Int32) (sf : Int32) (nw : Int64) (ls : Int64) (fl : Nat → Option Nat) (i : Nat) (r : Nat) (hi9 : i < 4) (hn9 : 4 ≤ 6) (hf9 : fl i = some r) : Ctr l D z y_M_leaseOrNull b_M_leaseOrNull 2 (some (.object "MajorityClock$Lease")) { frames := 0, cells := 0, slots := 0, locals := 0 } [.ref o, .int (nI i)] [(o, .inr (4, [.ref sa, .ref la, .ref e, .ref d, .int dr, .int sf, .long nw, .long ls])), (la, .inl (z 4, 4, .inr (.inr (.inr (.inr fl)))))] (fun v w => v = some (.ref r) ∧ w = [(o, .inr (4, [.ref sa, .ref la, .ref e, .ref d, .int dr, .int sf, .long nw, .long ls])), (la, .inl (z 4, 4, .inr (.inr (.inr (.inr fl)))))]) 0 0 := by
  refine met_V (own := R_M) (nm := "leaseOrNull") (by decide +kernel) rfl rfl (Nat.le_of_ble_eq_true rfl) ?_
  intro κ hl hD hz X Y
  subst hl
  subst hD
  subst hz
  show V κ 2 0 0 0 [(0, .ref o), (1, .int (nI i))] [] [(o, .inr (4, [.ref sa, .ref la, .ref e, .ref d, .int dr, .int sf, .long nw, .long ls])), (la, .inl (κ.z 4, 4, .inr (.inr (.inr (.inr fl)))))]
  refine v_iload_n X 1 d_M_leaseOrNull_0 rfl ?_
  refine v_ifN_lt X 13 (a := i) d_M_leaseOrNull_1 (by decide) (by omega) ?_
  refine v_iload_n X 1 d_M_leaseOrNull_4 rfl ?_
  refine v_aload_n X 0 d_M_leaseOrNull_5 rfl ?_
  refine v_get X 0 1 rfl rfl li_M (by decide) m151 rfl d_M_leaseOrNull_6 ?_
  refine v_alen X 1 4 (nI 4) rfl rfl rfl d_M_leaseOrNull_9 ?_
  refine v_icmpN_lt X 17 (a := i) (b := 4) d_M_leaseOrNull_10 (by decide) (by omega) (by omega) (fun c10 => ?_) (fun c10 => by omega)
  refine v_aload_n X 0 d_M_leaseOrNull_17 rfl ?_
  refine v_get X 0 1 rfl rfl li_M (by decide) m151 rfl d_M_leaseOrNull_18 ?_
  refine v_iload_n X 1 d_M_leaseOrNull_21 rfl ?_
  refine v_aaldM X 1 4 (j := i) (b := r) rfl rfl (by omega) (by omega) hf9 d_M_leaseOrNull_22 ?_
  exact v_aret X Y (by decide) (by decide) d_M_leaseOrNull_23 (Or.inr ⟨_, rfl⟩) ⟨rfl, rfl⟩

set_option maxHeartbeats 4000000 in
set_option maxRecDepth 100000 in
theorem c_M_leaseOrNullB (l : Launch) (D : va_G) (z : Nat → ClassId) (o : Nat) (sa : Nat) (la : Nat) (e : Nat) (d : Nat) (dr : Int32) (sf : Int32) (nw : Int64) (ls : Int64) (fl : Nat → Option Nat) (s : Int32) (hb9 : ¬ s < 0 → ¬ s < nI 4) : Ctr l D z y_M_leaseOrNull b_M_leaseOrNull 2 (some (.object "MajorityClock$Lease")) { frames := 0, cells := 0, slots := 0, locals := 0 } [.ref o, .int s] [(o, .inr (4, [.ref sa, .ref la, .ref e, .ref d, .int dr, .int sf, .long nw, .long ls])), (la, .inl (z 4, 4, .inr (.inr (.inr (.inr fl)))))] (fun v w => v = some (.null) ∧ w = [(o, .inr (4, [.ref sa, .ref la, .ref e, .ref d, .int dr, .int sf, .long nw, .long ls])), (la, .inl (z 4, 4, .inr (.inr (.inr (.inr fl)))))]) 0 0 := by
  refine met_V (own := R_M) (nm := "leaseOrNull") (by decide +kernel) rfl rfl (Nat.le_of_ble_eq_true rfl) ?_
  intro κ hl hD hz X Y
  subst hl
  subst hD
  subst hz
  show V κ 2 0 0 0 [(0, .ref o), (1, .int s)] [] [(o, .inr (4, [.ref sa, .ref la, .ref e, .ref d, .int dr, .int sf, .long nw, .long ls])), (la, .inl (κ.z 4, 4, .inr (.inr (.inr (.inr fl)))))]
  refine v_iload_n X 1 d_M_leaseOrNull_0 rfl ?_
  refine v_if_lt X 13 d_M_leaseOrNull_1 (by decide) (fun c1 => ?_) (fun c1 => ?_)
  · skip
    refine v_null X d_M_leaseOrNull_13 ?_
    refine v_goto X 23 d_M_leaseOrNull_14 (by decide) ?_
    exact v_aret X Y (by decide) (by decide) d_M_leaseOrNull_23 (Or.inl rfl) ⟨rfl, rfl⟩
  · skip
    refine v_iload_n X 1 d_M_leaseOrNull_4 rfl ?_
    refine v_aload_n X 0 d_M_leaseOrNull_5 rfl ?_
    refine v_get X 0 1 rfl rfl li_M (by decide) m151 rfl d_M_leaseOrNull_6 ?_
    refine v_alen X 1 4 (nI 4) rfl rfl rfl d_M_leaseOrNull_9 ?_
    refine v_icmp_lt X 17 d_M_leaseOrNull_10 (by decide) (fun c10 => absurd c10 (hb9 c1)) (fun c10 => ?_)
    refine v_null X d_M_leaseOrNull_13 ?_
    refine v_goto X 23 d_M_leaseOrNull_14 (by decide) ?_
    exact v_aret X Y (by decide) (by decide) d_M_leaseOrNull_23 (Or.inl rfl) ⟨rfl, rfl⟩

def f_M_expiryG (gr : Bool) (un : Int64) : Int64 := if gr = true then un else (-4611686018427387904)
set_option maxHeartbeats 4000000 in
set_option maxRecDepth 100000 in
theorem c_M_expiryG (l : Launch) (D : va_G) (z : Nat → ClassId) (o : Nat) (sa : Nat) (la : Nat) (e : Nat) (d : Nat) (dr : Int32) (sf : Int32) (nw : Int64) (ls : Int64) (fl : Nat → Option Nat) (r : Nat) (gr : Bool) (ow : Int32) (un : Int64) (i : Nat) (hi9 : i < 4) (hf9 : fl i = some r) : Ctr l D z y_M_expiry b_M_expiry 3 (some .long) { frames := 1, cells := 0, slots := 0, locals := 21 } [.ref o, .int (nI i)] [(o, .inr (4, [.ref sa, .ref la, .ref e, .ref d, .int dr, .int sf, .long nw, .long ls])), (la, .inl (z 4, 4, .inr (.inr (.inr (.inr fl))))), (r, .inr (1, [.int (bI gr), .int ow, .long un]))] (fun v w => v = some (.long (f_M_expiryG gr un)) ∧ w = [(o, .inr (4, [.ref sa, .ref la, .ref e, .ref d, .int dr, .int sf, .long nw, .long ls])), (la, .inl (z 4, 4, .inr (.inr (.inr (.inr fl))))), (r, .inr (1, [.int (bI gr), .int ow, .long un]))]) 0 0 := by
  refine met_V (own := R_M) (nm := "expiry") (by decide +kernel) rfl rfl (Nat.le_of_ble_eq_true rfl) ?_
  intro κ hl hD hz X Y
  subst hl
  subst hD
  subst hz
  show V κ 3 0 0 0 [(0, .ref o), (1, .int (nI i))] [] [(o, .inr (4, [.ref sa, .ref la, .ref e, .ref d, .int dr, .int sf, .long nw, .long ls])), (la, .inl (κ.z 4, 4, .inr (.inr (.inr (.inr fl))))), (r, .inr (1, [.int (bI gr), .int ow, .long un]))]
  refine v_aload_n X 0 d_M_expiry_0 rfl ?_
  refine v_iload_n X 1 d_M_expiry_1 rfl ?_
  refine v_callV X (b := o) (n9 := 1) (As := [.int (nI i)]) (rest := []) (wc := [(o, .inr (4, [.ref sa, .ref la, .ref e, .ref d, .int dr, .int sf, .long nw, .long ls])), (la, .inl (κ.z 4, 4, .inr (.inr (.inr (.inr fl)))))]) (wr := [(r, .inr (1, [.int (bI gr), .int ow, .long un]))]) (c_M_leaseOrNullG κ.l κ.D κ.z o sa la e d dr sf nw ls fl i r (by omega) (by omega) hf9) 0 rfl rfl m386 m387 m13 m30 (by decide +kernel) rfl (Nat.le_of_ble_eq_true rfl) ⟨by decide, by decide⟩ ⟨by decide, by decide⟩ rfl rfl m388 d_M_expiry_2 (fun v w1 hg => ?_)
  obtain ⟨rfl, rfl⟩ := hg
  show V κ 3 0 0 5 [(0, .ref o), (1, .int (nI i))] [.ref r] [(o, .inr (4, [.ref sa, .ref la, .ref e, .ref d, .int dr, .int sf, .long nw, .long ls])), (la, .inl (κ.z 4, 4, .inr (.inr (.inr (.inr fl))))), (r, .inr (1, [.int (bI gr), .int ow, .long un]))]
  refine v_astore_n X d_M_expiry_5 rfl (by decide) (lv' := [(2, .ref r), (0, .ref o), (1, .int (nI i))]) rfl ?_
  refine v_aload_n X 0 d_M_expiry_6 rfl ?_
  refine v_ifnull X d_M_expiry_7 ?_
  refine v_aload_n X 0 d_M_expiry_10 rfl ?_
  refine v_get X 2 0 rfl rfl li_Le (by decide) m92 rfl d_M_expiry_11 ?_
  suffices hm14 : V κ 3 0 0 27 [(2, .ref r), (0, .ref o), (1, .int (nI i))] [.long (if gr = true then un else (-4611686018427387904))] [(o, .inr (4, [.ref sa, .ref la, .ref e, .ref d, .int dr, .int sf, .long nw, .long ls])), (la, .inl (κ.z 4, 4, .inr (.inr (.inr (.inr fl))))), (r, .inr (1, [.int (bI gr), .int ow, .long un]))] by
    refine v_ifB_ne X 23 (t := gr) d_M_expiry_14 (by decide) (fun c14 => ?_) (fun c14 => ?_)
    · skip
      refine v_aload_n X 0 d_M_expiry_23 rfl ?_
      refine v_get X 2 2 rfl rfl li_Le (by decide) m96 rfl d_M_expiry_24 ?_
      have h9 := hm14; simp only [if_pos c14] at h9; first | exact h9 | (simp only [if_pos c14]; exact h9)
    · skip
      refine v_ldc2 X (v := (-4611686018427387904)) m197 d_M_expiry_17 ?_
      refine v_goto X 27 d_M_expiry_20 (by decide) ?_
      have h9 := hm14; simp only [if_neg c14] at h9; first | exact h9 | (simp only [if_neg c14]; exact h9)
  exact v_lret X Y (by decide) (by decide) d_M_expiry_27 ⟨rfl, rfl⟩

set_option maxHeartbeats 4000000 in
set_option maxRecDepth 100000 in
theorem c_M_expiryB (l : Launch) (D : va_G) (z : Nat → ClassId) (o : Nat) (sa : Nat) (la : Nat) (e : Nat) (d : Nat) (dr : Int32) (sf : Int32) (nw : Int64) (ls : Int64) (fl : Nat → Option Nat) (s : Int32) (hb9 : ¬ s < 0 → ¬ s < nI 4) : Ctr l D z y_M_expiry b_M_expiry 3 (some .long) { frames := 1, cells := 0, slots := 0, locals := 21 } [.ref o, .int s] [(o, .inr (4, [.ref sa, .ref la, .ref e, .ref d, .int dr, .int sf, .long nw, .long ls])), (la, .inl (z 4, 4, .inr (.inr (.inr (.inr fl)))))] (fun v w => v = some (.long (-4611686018427387904)) ∧ w = [(o, .inr (4, [.ref sa, .ref la, .ref e, .ref d, .int dr, .int sf, .long nw, .long ls])), (la, .inl (z 4, 4, .inr (.inr (.inr (.inr fl)))))]) 0 0 := by
  refine met_V (own := R_M) (nm := "expiry") (by decide +kernel) rfl rfl (Nat.le_of_ble_eq_true rfl) ?_
  intro κ hl hD hz X Y
  subst hl
  subst hD
  subst hz
  show V κ 3 0 0 0 [(0, .ref o), (1, .int s)] [] [(o, .inr (4, [.ref sa, .ref la, .ref e, .ref d, .int dr, .int sf, .long nw, .long ls])), (la, .inl (κ.z 4, 4, .inr (.inr (.inr (.inr fl)))))]
  refine v_aload_n X 0 d_M_expiry_0 rfl ?_
  refine v_iload_n X 1 d_M_expiry_1 rfl ?_
  refine v_callV X (b := o) (n9 := 1) (As := [.int s]) (rest := []) (wc := [(o, .inr (4, [.ref sa, .ref la, .ref e, .ref d, .int dr, .int sf, .long nw, .long ls])), (la, .inl (κ.z 4, 4, .inr (.inr (.inr (.inr fl)))))]) (wr := []) (c_M_leaseOrNullB κ.l κ.D κ.z o sa la e d dr sf nw ls fl s hb9) 0 rfl rfl m386 m387 m13 m30 (by decide +kernel) rfl (Nat.le_of_ble_eq_true rfl) ⟨by decide, by decide⟩ ⟨by decide, by decide⟩ rfl rfl m388 d_M_expiry_2 (fun v w1 hg => ?_)
  obtain ⟨rfl, rfl⟩ := hg
  show V κ 3 0 0 5 [(0, .ref o), (1, .int s)] [.null] [(o, .inr (4, [.ref sa, .ref la, .ref e, .ref d, .int dr, .int sf, .long nw, .long ls])), (la, .inl (κ.z 4, 4, .inr (.inr (.inr (.inr fl)))))]
  refine v_astore_nN X d_M_expiry_5 rfl (by decide) (lv' := [(2, .null), (0, .ref o), (1, .int s)]) rfl ?_
  refine v_aload_nN X 0 d_M_expiry_6 rfl ?_
  refine v_ifnullN X 17 d_M_expiry_7 (by decide) ?_
  refine v_ldc2 X (v := (-4611686018427387904)) m197 d_M_expiry_17 ?_
  refine v_goto X 27 d_M_expiry_20 (by decide) ?_
  exact v_lret X Y (by decide) (by decide) d_M_expiry_27 ⟨rfl, rfl⟩

def f_M_holderG (gr : Bool) (ow : Int32) : Int32 := if gr = true then ow else (-1)
set_option maxHeartbeats 4000000 in
set_option maxRecDepth 100000 in
theorem c_M_holderG (l : Launch) (D : va_G) (z : Nat → ClassId) (o : Nat) (sa : Nat) (la : Nat) (e : Nat) (d : Nat) (dr : Int32) (sf : Int32) (nw : Int64) (ls : Int64) (fl : Nat → Option Nat) (r : Nat) (gr : Bool) (ow : Int32) (un : Int64) (i : Nat) (hi9 : i < 4) (hf9 : fl i = some r) : Ctr l D z y_M_holder b_M_holder 3 (some .int) { frames := 1, cells := 0, slots := 0, locals := 21 } [.ref o, .int (nI i)] [(o, .inr (4, [.ref sa, .ref la, .ref e, .ref d, .int dr, .int sf, .long nw, .long ls])), (la, .inl (z 4, 4, .inr (.inr (.inr (.inr fl))))), (r, .inr (1, [.int (bI gr), .int ow, .long un]))] (fun v w => v = some (.int (f_M_holderG gr ow)) ∧ w = [(o, .inr (4, [.ref sa, .ref la, .ref e, .ref d, .int dr, .int sf, .long nw, .long ls])), (la, .inl (z 4, 4, .inr (.inr (.inr (.inr fl))))), (r, .inr (1, [.int (bI gr), .int ow, .long un]))]) 0 0 := by
  refine met_V (own := R_M) (nm := "holder") (by decide +kernel) rfl rfl (Nat.le_of_ble_eq_true rfl) ?_
  intro κ hl hD hz X Y
  subst hl
  subst hD
  subst hz
  show V κ 3 0 0 0 [(0, .ref o), (1, .int (nI i))] [] [(o, .inr (4, [.ref sa, .ref la, .ref e, .ref d, .int dr, .int sf, .long nw, .long ls])), (la, .inl (κ.z 4, 4, .inr (.inr (.inr (.inr fl))))), (r, .inr (1, [.int (bI gr), .int ow, .long un]))]
  refine v_aload_n X 0 d_M_holder_0 rfl ?_
  refine v_iload_n X 1 d_M_holder_1 rfl ?_
  refine v_callV X (b := o) (n9 := 1) (As := [.int (nI i)]) (rest := []) (wc := [(o, .inr (4, [.ref sa, .ref la, .ref e, .ref d, .int dr, .int sf, .long nw, .long ls])), (la, .inl (κ.z 4, 4, .inr (.inr (.inr (.inr fl)))))]) (wr := [(r, .inr (1, [.int (bI gr), .int ow, .long un]))]) (c_M_leaseOrNullG κ.l κ.D κ.z o sa la e d dr sf nw ls fl i r (by omega) (by omega) hf9) 0 rfl rfl m386 m387 m13 m30 (by decide +kernel) rfl (Nat.le_of_ble_eq_true rfl) ⟨by decide, by decide⟩ ⟨by decide, by decide⟩ rfl rfl m388 d_M_holder_2 (fun v w1 hg => ?_)
  obtain ⟨rfl, rfl⟩ := hg
  show V κ 3 0 0 5 [(0, .ref o), (1, .int (nI i))] [.ref r] [(o, .inr (4, [.ref sa, .ref la, .ref e, .ref d, .int dr, .int sf, .long nw, .long ls])), (la, .inl (κ.z 4, 4, .inr (.inr (.inr (.inr fl))))), (r, .inr (1, [.int (bI gr), .int ow, .long un]))]
  refine v_astore_n X d_M_holder_5 rfl (by decide) (lv' := [(2, .ref r), (0, .ref o), (1, .int (nI i))]) rfl ?_
  refine v_aload_n X 0 d_M_holder_6 rfl ?_
  refine v_ifnull X d_M_holder_7 ?_
  refine v_aload_n X 0 d_M_holder_10 rfl ?_
  refine v_get X 2 0 rfl rfl li_Le (by decide) m92 rfl d_M_holder_11 ?_
  suffices hm14 : V κ 3 0 0 25 [(2, .ref r), (0, .ref o), (1, .int (nI i))] [.int (if gr = true then ow else (-1))] [(o, .inr (4, [.ref sa, .ref la, .ref e, .ref d, .int dr, .int sf, .long nw, .long ls])), (la, .inl (κ.z 4, 4, .inr (.inr (.inr (.inr fl))))), (r, .inr (1, [.int (bI gr), .int ow, .long un]))] by
    refine v_ifB_ne X 21 (t := gr) d_M_holder_14 (by decide) (fun c14 => ?_) (fun c14 => ?_)
    · skip
      refine v_aload_n X 0 d_M_holder_21 rfl ?_
      refine v_get X 2 1 rfl rfl li_Le (by decide) m94 rfl d_M_holder_22 ?_
      have h9 := hm14; simp only [if_pos c14] at h9; first | exact h9 | (simp only [if_pos c14]; exact h9)
    · skip
      refine v_iconst X (-1) d_M_holder_17 (by decide) ?_
      refine v_goto X 25 d_M_holder_18 (by decide) ?_
      have h9 := hm14; simp only [if_neg c14] at h9; first | exact h9 | (simp only [if_neg c14]; exact h9)
  exact v_iret X Y (by decide) (by decide) d_M_holder_25 ⟨rfl, rfl⟩

set_option maxHeartbeats 4000000 in
set_option maxRecDepth 100000 in
theorem c_M_holderB (l : Launch) (D : va_G) (z : Nat → ClassId) (o : Nat) (sa : Nat) (la : Nat) (e : Nat) (d : Nat) (dr : Int32) (sf : Int32) (nw : Int64) (ls : Int64) (fl : Nat → Option Nat) (s : Int32) (hb9 : ¬ s < 0 → ¬ s < nI 4) : Ctr l D z y_M_holder b_M_holder 3 (some .int) { frames := 1, cells := 0, slots := 0, locals := 21 } [.ref o, .int s] [(o, .inr (4, [.ref sa, .ref la, .ref e, .ref d, .int dr, .int sf, .long nw, .long ls])), (la, .inl (z 4, 4, .inr (.inr (.inr (.inr fl)))))] (fun v w => v = some (.int (-1 : Int32)) ∧ w = [(o, .inr (4, [.ref sa, .ref la, .ref e, .ref d, .int dr, .int sf, .long nw, .long ls])), (la, .inl (z 4, 4, .inr (.inr (.inr (.inr fl)))))]) 0 0 := by
  refine met_V (own := R_M) (nm := "holder") (by decide +kernel) rfl rfl (Nat.le_of_ble_eq_true rfl) ?_
  intro κ hl hD hz X Y
  subst hl
  subst hD
  subst hz
  show V κ 3 0 0 0 [(0, .ref o), (1, .int s)] [] [(o, .inr (4, [.ref sa, .ref la, .ref e, .ref d, .int dr, .int sf, .long nw, .long ls])), (la, .inl (κ.z 4, 4, .inr (.inr (.inr (.inr fl)))))]
  refine v_aload_n X 0 d_M_holder_0 rfl ?_
  refine v_iload_n X 1 d_M_holder_1 rfl ?_
  refine v_callV X (b := o) (n9 := 1) (As := [.int s]) (rest := []) (wc := [(o, .inr (4, [.ref sa, .ref la, .ref e, .ref d, .int dr, .int sf, .long nw, .long ls])), (la, .inl (κ.z 4, 4, .inr (.inr (.inr (.inr fl)))))]) (wr := []) (c_M_leaseOrNullB κ.l κ.D κ.z o sa la e d dr sf nw ls fl s hb9) 0 rfl rfl m386 m387 m13 m30 (by decide +kernel) rfl (Nat.le_of_ble_eq_true rfl) ⟨by decide, by decide⟩ ⟨by decide, by decide⟩ rfl rfl m388 d_M_holder_2 (fun v w1 hg => ?_)
  obtain ⟨rfl, rfl⟩ := hg
  show V κ 3 0 0 5 [(0, .ref o), (1, .int s)] [.null] [(o, .inr (4, [.ref sa, .ref la, .ref e, .ref d, .int dr, .int sf, .long nw, .long ls])), (la, .inl (κ.z 4, 4, .inr (.inr (.inr (.inr fl)))))]
  refine v_astore_nN X d_M_holder_5 rfl (by decide) (lv' := [(2, .null), (0, .ref o), (1, .int s)]) rfl ?_
  refine v_aload_nN X 0 d_M_holder_6 rfl ?_
  refine v_ifnullN X 17 d_M_holder_7 (by decide) ?_
  refine v_iconst X (-1) d_M_holder_17 (by decide) ?_
  refine v_goto X 25 d_M_holder_18 (by decide) ?_
  exact v_iret X Y (by decide) (by decide) d_M_holder_25 ⟨rfl, rfl⟩

def f_M_holdsG (gr : Bool) (ow : Int32) (un : Int64) (x : Int32) (y : Int64) (t : Int64) : Bool := if gr = true then (if ow = x then (if t < 0 then false else (if 1099511627776 < t then false else (if y < (-1099511627776) then false else (if y ≤ 2199023255552 then (if un ≤ (y + t) then false else true) else false)))) else false) else false
set_option maxHeartbeats 4000000 in
set_option maxRecDepth 100000 in
theorem c_M_holdsG (l : Launch) (D : va_G) (z : Nat → ClassId) (o : Nat) (sa : Nat) (la : Nat) (e : Nat) (d : Nat) (dr : Int32) (sf : Int32) (nw : Int64) (ls : Int64) (fl : Nat → Option Nat) (r : Nat) (gr : Bool) (ow : Int32) (un : Int64) (i : Nat) (x : Int32) (y : Int64) (t : Int64) (hi9 : i < 4) (hf9 : fl i = some r) : Ctr l D z y_M_holds b_M_holds 8 (some .boolean) { frames := 1, cells := 0, slots := 0, locals := 21 } [.ref o, .int (nI i), .int x, .long y, .long t] [(o, .inr (4, [.ref sa, .ref la, .ref e, .ref d, .int dr, .int sf, .long nw, .long ls])), (la, .inl (z 4, 4, .inr (.inr (.inr (.inr fl))))), (r, .inr (1, [.int (bI gr), .int ow, .long un]))] (fun v w => v = some (.int (bI (f_M_holdsG gr ow un x y t))) ∧ w = [(o, .inr (4, [.ref sa, .ref la, .ref e, .ref d, .int dr, .int sf, .long nw, .long ls])), (la, .inl (z 4, 4, .inr (.inr (.inr (.inr fl))))), (r, .inr (1, [.int (bI gr), .int ow, .long un]))]) 0 0 := by
  refine met_V (own := R_M) (nm := "holds") (by decide +kernel) rfl rfl (Nat.le_of_ble_eq_true rfl) ?_
  intro κ hl hD hz X Y
  subst hl
  subst hD
  subst hz
  show V κ 8 0 0 0 [(0, .ref o), (1, .int (nI i)), (2, .int x), (3, .long y), (5, .long t)] [] [(o, .inr (4, [.ref sa, .ref la, .ref e, .ref d, .int dr, .int sf, .long nw, .long ls])), (la, .inl (κ.z 4, 4, .inr (.inr (.inr (.inr fl))))), (r, .inr (1, [.int (bI gr), .int ow, .long un]))]
  refine v_aload_n X 0 d_M_holds_0 rfl ?_
  refine v_iload_n X 1 d_M_holds_1 rfl ?_
  refine v_callV X (b := o) (n9 := 1) (As := [.int (nI i)]) (rest := []) (wc := [(o, .inr (4, [.ref sa, .ref la, .ref e, .ref d, .int dr, .int sf, .long nw, .long ls])), (la, .inl (κ.z 4, 4, .inr (.inr (.inr (.inr fl)))))]) (wr := [(r, .inr (1, [.int (bI gr), .int ow, .long un]))]) (c_M_leaseOrNullG κ.l κ.D κ.z o sa la e d dr sf nw ls fl i r (by omega) (by omega) hf9) 0 rfl rfl m386 m387 m13 m30 (by decide +kernel) rfl (Nat.le_of_ble_eq_true rfl) ⟨by decide, by decide⟩ ⟨by decide, by decide⟩ rfl rfl m388 d_M_holds_2 (fun v w1 hg => ?_)
  obtain ⟨rfl, rfl⟩ := hg
  show V κ 8 0 0 5 [(0, .ref o), (1, .int (nI i)), (2, .int x), (3, .long y), (5, .long t)] [.ref r] [(o, .inr (4, [.ref sa, .ref la, .ref e, .ref d, .int dr, .int sf, .long nw, .long ls])), (la, .inl (κ.z 4, 4, .inr (.inr (.inr (.inr fl))))), (r, .inr (1, [.int (bI gr), .int ow, .long un]))]
  refine v_astore X d_M_holds_5 (by decide) (lv' := [(7, .ref r), (0, .ref o), (1, .int (nI i)), (2, .int x), (3, .long y), (5, .long t)]) rfl ?_
  refine v_aload X 0 d_M_holds_7 rfl ?_
  refine v_ifnull X d_M_holds_9 ?_
  refine v_aload X 0 d_M_holds_12 rfl ?_
  refine v_get X 2 0 rfl rfl li_Le (by decide) m92 rfl d_M_holds_14 ?_
  refine v_ifB_eq X 29 (t := gr) d_M_holds_17 (by decide) (fun c17 => ?_) (fun c17 => ?_)
  · skip
    refine v_iconst X 0 d_M_holds_29 (by decide) ?_
    exact v_zret X Y (by decide) (by decide) d_M_holds_30 rfl ⟨by simp only [f_M_holdsG, if_neg c17] <;> rfl, rfl⟩
  · skip
    refine v_aload X 0 d_M_holds_20 rfl ?_
    refine v_get X 2 1 rfl rfl li_Le (by decide) m94 rfl d_M_holds_22 ?_
    refine v_iload_n X 3 d_M_holds_25 rfl ?_
    refine v_icmp_eq X 31 d_M_holds_26 (by decide) (fun c26 => ?_) (fun c26 => ?_)
    · skip
      refine v_lload X 5 d_M_holds_31 rfl ?_
      refine v_lconst X 0 d_M_holds_33 (by decide) ?_
      refine v_lcmp_lt X 63 d_M_holds_34 d_M_holds_35 (by decide) (fun c34 => ?_) (fun c34 => ?_)
      · skip
        refine v_iconst X 0 d_M_holds_63 (by decide) ?_
        exact v_zret X Y (by decide) (by decide) d_M_holds_64 rfl ⟨by simp only [f_M_holdsG, if_pos c17, if_pos c26, if_pos c34] <;> rfl, rfl⟩
      · skip
        refine v_lload X 5 d_M_holds_38 rfl ?_
        refine v_ldc2 X (v := 1099511627776) m212 d_M_holds_40 ?_
        refine v_lcmp_gt X 63 d_M_holds_43 d_M_holds_44 (by decide) (fun c43 => ?_) (fun c43 => ?_)
        · skip
          refine v_iconst X 0 d_M_holds_63 (by decide) ?_
          exact v_zret X Y (by decide) (by decide) d_M_holds_64 rfl ⟨by simp only [f_M_holdsG, if_pos c17, if_pos c26, if_neg c34, if_pos c43] <;> rfl, rfl⟩
        · skip
          refine v_lload_n X 4 d_M_holds_47 rfl ?_
          refine v_ldc2 X (v := (-1099511627776)) m405 d_M_holds_48 ?_
          refine v_lcmp_lt X 63 d_M_holds_51 d_M_holds_52 (by decide) (fun c51 => ?_) (fun c51 => ?_)
          · skip
            refine v_iconst X 0 d_M_holds_63 (by decide) ?_
            exact v_zret X Y (by decide) (by decide) d_M_holds_64 rfl ⟨by simp only [f_M_holdsG, if_pos c17, if_pos c26, if_neg c34, if_neg c43, if_pos c51] <;> rfl, rfl⟩
          · skip
            refine v_lload_n X 4 d_M_holds_55 rfl ?_
            refine v_ldc2 X (v := 2199023255552) m406 d_M_holds_56 ?_
            refine v_lcmp_le X 65 d_M_holds_59 d_M_holds_60 (by decide) (fun c59 => ?_) (fun c59 => ?_)
            · skip
              refine v_lload_n X 4 d_M_holds_65 rfl ?_
              refine v_lload X 5 d_M_holds_66 rfl ?_
              refine v_ladd X d_M_holds_68 ?_
              refine v_aload X 0 d_M_holds_69 rfl ?_
              refine v_get X 2 2 rfl rfl li_Le (by decide) m96 rfl d_M_holds_71 ?_
              suffices hm74 : V κ 8 0 0 83 [(7, .ref r), (0, .ref o), (1, .int (nI i)), (2, .int x), (3, .long y), (5, .long t)] [.int (bI (if un ≤ (y + t) then false else true))] [(o, .inr (4, [.ref sa, .ref la, .ref e, .ref d, .int dr, .int sf, .long nw, .long ls])), (la, .inl (κ.z 4, 4, .inr (.inr (.inr (.inr fl))))), (r, .inr (1, [.int (bI gr), .int ow, .long un]))] by
                refine v_lcmp_ge X 82 d_M_holds_74 d_M_holds_75 (by decide) (fun c74 => ?_) (fun c74 => ?_)
                · skip
                  refine v_iconst X 0 d_M_holds_82 (by decide) ?_
                  have h9 := hm74; simp only [if_pos c74] at h9; first | exact h9 | (simp only [if_pos c74]; exact h9)
                · skip
                  refine v_iconst X 1 d_M_holds_78 (by decide) ?_
                  refine v_goto X 83 d_M_holds_79 (by decide) ?_
                  have h9 := hm74; simp only [if_neg c74] at h9; first | exact h9 | (simp only [if_neg c74]; exact h9)
              exact v_zret X Y (by decide) (by decide) d_M_holds_83 (narB _) ⟨by simp only [f_M_holdsG, if_pos c17, if_pos c26, if_neg c34, if_neg c43, if_neg c51, if_pos c59] <;> rfl, rfl⟩
            · skip
              refine v_iconst X 0 d_M_holds_63 (by decide) ?_
              exact v_zret X Y (by decide) (by decide) d_M_holds_64 rfl ⟨by simp only [f_M_holdsG, if_pos c17, if_pos c26, if_neg c34, if_neg c43, if_neg c51, if_neg c59] <;> rfl, rfl⟩
    · skip
      refine v_iconst X 0 d_M_holds_29 (by decide) ?_
      exact v_zret X Y (by decide) (by decide) d_M_holds_30 rfl ⟨by simp only [f_M_holdsG, if_pos c17, if_neg c26] <;> rfl, rfl⟩

set_option maxHeartbeats 4000000 in
set_option maxRecDepth 100000 in
theorem c_M_holdsB (l : Launch) (D : va_G) (z : Nat → ClassId) (o : Nat) (sa : Nat) (la : Nat) (e : Nat) (d : Nat) (dr : Int32) (sf : Int32) (nw : Int64) (ls : Int64) (fl : Nat → Option Nat) (s : Int32) (x : Int32) (y : Int64) (t : Int64) (hb9 : ¬ s < 0 → ¬ s < nI 4) : Ctr l D z y_M_holds b_M_holds 8 (some .boolean) { frames := 1, cells := 0, slots := 0, locals := 21 } [.ref o, .int s, .int x, .long y, .long t] [(o, .inr (4, [.ref sa, .ref la, .ref e, .ref d, .int dr, .int sf, .long nw, .long ls])), (la, .inl (z 4, 4, .inr (.inr (.inr (.inr fl)))))] (fun v w => v = some (.int (bI false)) ∧ w = [(o, .inr (4, [.ref sa, .ref la, .ref e, .ref d, .int dr, .int sf, .long nw, .long ls])), (la, .inl (z 4, 4, .inr (.inr (.inr (.inr fl)))))]) 0 0 := by
  refine met_V (own := R_M) (nm := "holds") (by decide +kernel) rfl rfl (Nat.le_of_ble_eq_true rfl) ?_
  intro κ hl hD hz X Y
  subst hl
  subst hD
  subst hz
  show V κ 8 0 0 0 [(0, .ref o), (1, .int s), (2, .int x), (3, .long y), (5, .long t)] [] [(o, .inr (4, [.ref sa, .ref la, .ref e, .ref d, .int dr, .int sf, .long nw, .long ls])), (la, .inl (κ.z 4, 4, .inr (.inr (.inr (.inr fl)))))]
  refine v_aload_n X 0 d_M_holds_0 rfl ?_
  refine v_iload_n X 1 d_M_holds_1 rfl ?_
  refine v_callV X (b := o) (n9 := 1) (As := [.int s]) (rest := []) (wc := [(o, .inr (4, [.ref sa, .ref la, .ref e, .ref d, .int dr, .int sf, .long nw, .long ls])), (la, .inl (κ.z 4, 4, .inr (.inr (.inr (.inr fl)))))]) (wr := []) (c_M_leaseOrNullB κ.l κ.D κ.z o sa la e d dr sf nw ls fl s hb9) 0 rfl rfl m386 m387 m13 m30 (by decide +kernel) rfl (Nat.le_of_ble_eq_true rfl) ⟨by decide, by decide⟩ ⟨by decide, by decide⟩ rfl rfl m388 d_M_holds_2 (fun v w1 hg => ?_)
  obtain ⟨rfl, rfl⟩ := hg
  show V κ 8 0 0 5 [(0, .ref o), (1, .int s), (2, .int x), (3, .long y), (5, .long t)] [.null] [(o, .inr (4, [.ref sa, .ref la, .ref e, .ref d, .int dr, .int sf, .long nw, .long ls])), (la, .inl (κ.z 4, 4, .inr (.inr (.inr (.inr fl)))))]
  refine v_astoreN X d_M_holds_5 (by decide) (lv' := [(7, .null), (0, .ref o), (1, .int s), (2, .int x), (3, .long y), (5, .long t)]) rfl ?_
  refine v_aloadN X 0 d_M_holds_7 rfl ?_
  refine v_ifnullN X 29 d_M_holds_9 (by decide) ?_
  refine v_iconst X 0 d_M_holds_29 (by decide) ?_
  exact v_zret X Y (by decide) (by decide) d_M_holds_30 rfl ⟨rfl, rfl⟩

def f_M_grantG (dr : Int32) (nw : Int64) (gr : Bool) (ow : Int32) (un : Int64) (st : Bool) (sin : Int64) (sta : Int64) (tg : Int64) (er : Int64) (x : Int32) (y : Int32) : Int64 := if x < 0 then (-4611686018427387904) else if y < 1 then (-4611686018427387904) else if 1000000 < y then (-4611686018427387904) else if st = true then if gr = true then if (f_M_mayFollow dr nw st sin sta tg er ow un x ((f_M_time nw st sin sta tg) + y.toInt64)) = true then (f_M_time nw st sin sta tg) + y.toInt64 else (-4611686018427387904) else (f_M_time nw st sin sta tg) + y.toInt64 else (-4611686018427387904)
def f_M_grantG_Le_granted (dr : Int32) (nw : Int64) (gr : Bool) (ow : Int32) (un : Int64) (st : Bool) (sin : Int64) (sta : Int64) (tg : Int64) (er : Int64) (x : Int32) (y : Int32) : Bool := if x < 0 then gr else (if y < 1 then gr else (if 1000000 < y then gr else (if st = true then (if gr = true then (if (f_M_mayFollow dr nw st sin sta tg er ow un x ((f_M_time nw st sin sta tg) + y.toInt64)) = true then true else gr) else true) else gr)))
def f_M_grantG_Le_owner (dr : Int32) (nw : Int64) (gr : Bool) (ow : Int32) (un : Int64) (st : Bool) (sin : Int64) (sta : Int64) (tg : Int64) (er : Int64) (x : Int32) (y : Int32) : Int32 := if x < 0 then ow else (if y < 1 then ow else (if 1000000 < y then ow else (if st = true then (if gr = true then (if (f_M_mayFollow dr nw st sin sta tg er ow un x ((f_M_time nw st sin sta tg) + y.toInt64)) = true then x else ow) else x) else ow)))
def f_M_grantG_Le_until (dr : Int32) (nw : Int64) (gr : Bool) (ow : Int32) (un : Int64) (st : Bool) (sin : Int64) (sta : Int64) (tg : Int64) (er : Int64) (x : Int32) (y : Int32) : Int64 := if x < 0 then un else if y < 1 then un else if 1000000 < y then un else if st = true then if gr = true then if (f_M_mayFollow dr nw st sin sta tg er ow un x ((f_M_time nw st sin sta tg) + y.toInt64)) = true then ((f_M_time nw st sin sta tg) + y.toInt64) else un else ((f_M_time nw st sin sta tg) + y.toInt64) else un
set_option maxHeartbeats 4000000 in
set_option maxRecDepth 100000 in
theorem c_M_grantG (l : Launch) (D : va_G) (z : Nat → ClassId) (o : Nat) (sa : Nat) (la : Nat) (e : Nat) (d : Nat) (dr : Int32) (sf : Int32) (nw : Int64) (ls : Int64) (fl : Nat → Option Nat) (r : Nat) (gr : Bool) (ow : Int32) (un : Int64) (st : Bool) (sin : Int64) (sta : Int64) (tg : Int64) (er : Int64) (vl : Int64) (vh : Int64) (sb : Int32) (os : Int32) (i : Nat) (x : Int32) (y : Int32) (hi9 : i < 4) (hf9 : fl i = some r) : Ctr l D z y_M_grant b_M_grant 7 (some .long) { frames := 6, cells := 0, slots := 0, locals := 137 } [.ref o, .int (nI i), .int x, .int y] [(o, .inr (4, [.ref sa, .ref la, .ref e, .ref d, .int dr, .int sf, .long nw, .long ls])), (la, .inl (z 4, 4, .inr (.inr (.inr (.inr fl))))), (r, .inr (1, [.int (bI gr), .int ow, .long un])), (d, .inr (2, [.int (bI st), .long sin, .long sta, .long tg, .long er, .long vl, .long vh, .int sb, .int os]))] (fun v w => v = some (.long (f_M_grantG dr nw gr ow un st sin sta tg er x y)) ∧ w = [(o, .inr (4, [.ref sa, .ref la, .ref e, .ref d, .int dr, .int sf, .long nw, .long ls])), (la, .inl (z 4, 4, .inr (.inr (.inr (.inr fl))))), (r, .inr (1, [.int (bI (f_M_grantG_Le_granted dr nw gr ow un st sin sta tg er x y)), .int (f_M_grantG_Le_owner dr nw gr ow un st sin sta tg er x y), .long (f_M_grantG_Le_until dr nw gr ow un st sin sta tg er x y)])), (d, .inr (2, [.int (bI st), .long sin, .long sta, .long tg, .long er, .long vl, .long vh, .int sb, .int os]))]) 0 0 := by
  refine met_V (own := R_M) (nm := "grant") (by decide +kernel) rfl rfl (Nat.le_of_ble_eq_true rfl) ?_
  intro κ hl hD hz X Y
  subst hl
  subst hD
  subst hz
  show V κ 7 0 0 0 [(0, .ref o), (1, .int (nI i)), (2, .int x), (3, .int y)] [] [(o, .inr (4, [.ref sa, .ref la, .ref e, .ref d, .int dr, .int sf, .long nw, .long ls])), (la, .inl (κ.z 4, 4, .inr (.inr (.inr (.inr fl))))), (r, .inr (1, [.int (bI gr), .int ow, .long un])), (d, .inr (2, [.int (bI st), .long sin, .long sta, .long tg, .long er, .long vl, .long vh, .int sb, .int os]))]
  refine v_aload_n X 0 d_M_grant_0 rfl ?_
  refine v_iload_n X 1 d_M_grant_1 rfl ?_
  refine v_callV X (b := o) (n9 := 1) (As := [.int (nI i)]) (rest := []) (wc := [(o, .inr (4, [.ref sa, .ref la, .ref e, .ref d, .int dr, .int sf, .long nw, .long ls])), (la, .inl (κ.z 4, 4, .inr (.inr (.inr (.inr fl)))))]) (wr := [(r, .inr (1, [.int (bI gr), .int ow, .long un])), (d, .inr (2, [.int (bI st), .long sin, .long sta, .long tg, .long er, .long vl, .long vh, .int sb, .int os]))]) (c_M_leaseOrNullG κ.l κ.D κ.z o sa la e d dr sf nw ls fl i r (by omega) (by omega) hf9) 0 rfl rfl m386 m387 m13 m30 (by decide +kernel) rfl (Nat.le_of_ble_eq_true rfl) ⟨by decide, by decide⟩ ⟨by decide, by decide⟩ rfl rfl m388 d_M_grant_2 (fun v w1 hg => ?_)
  obtain ⟨rfl, rfl⟩ := hg
  show V κ 7 0 0 5 [(0, .ref o), (1, .int (nI i)), (2, .int x), (3, .int y)] [.ref r] [(o, .inr (4, [.ref sa, .ref la, .ref e, .ref d, .int dr, .int sf, .long nw, .long ls])), (la, .inl (κ.z 4, 4, .inr (.inr (.inr (.inr fl))))), (r, .inr (1, [.int (bI gr), .int ow, .long un])), (d, .inr (2, [.int (bI st), .long sin, .long sta, .long tg, .long er, .long vl, .long vh, .int sb, .int os]))]
  refine v_astore X d_M_grant_5 (by decide) (lv' := [(4, .ref r), (0, .ref o), (1, .int (nI i)), (2, .int x), (3, .int y)]) rfl ?_
  refine v_aload X 0 d_M_grant_7 rfl ?_
  refine v_ifnull X d_M_grant_9 ?_
  refine v_iload_n X 3 d_M_grant_12 rfl ?_
  refine v_if_lt X 37 d_M_grant_13 (by decide) (fun c13 => ?_) (fun c13 => ?_)
  · skip
    refine v_ldc2 X (v := (-4611686018427387904)) m197 d_M_grant_37 ?_
    exact v_lret X Y (by decide) (by decide) d_M_grant_40 ⟨by simp only [f_M_grantG, f_M_grantG_Le_granted, f_M_grantG_Le_owner, f_M_grantG_Le_until, if_pos c13] <;> rfl, by simp only [f_M_grantG, f_M_grantG_Le_granted, f_M_grantG_Le_owner, f_M_grantG_Le_until, if_pos c13] <;> rfl⟩
  · skip
    refine v_iload_n X 4 d_M_grant_16 rfl ?_
    refine v_iconst X 1 d_M_grant_17 (by decide) ?_
    refine v_icmp_lt X 37 d_M_grant_18 (by decide) (fun c18 => ?_) (fun c18 => ?_)
    · skip
      refine v_ldc2 X (v := (-4611686018427387904)) m197 d_M_grant_37 ?_
      exact v_lret X Y (by decide) (by decide) d_M_grant_40 ⟨by simp only [f_M_grantG, f_M_grantG_Le_granted, f_M_grantG_Le_owner, f_M_grantG_Le_until, if_neg c13, if_pos c18] <;> rfl, by simp only [f_M_grantG, f_M_grantG_Le_granted, f_M_grantG_Le_owner, f_M_grantG_Le_until, if_neg c13, if_pos c18] <;> rfl⟩
    · skip
      refine v_iload_n X 4 d_M_grant_21 rfl ?_
      refine v_ldc X (v := 1000000) m170 d_M_grant_22 ?_
      refine v_icmp_gt X 37 d_M_grant_24 (by decide) (fun c24 => ?_) (fun c24 => ?_)
      · skip
        refine v_ldc2 X (v := (-4611686018427387904)) m197 d_M_grant_37 ?_
        exact v_lret X Y (by decide) (by decide) d_M_grant_40 ⟨by simp only [f_M_grantG, f_M_grantG_Le_granted, f_M_grantG_Le_owner, f_M_grantG_Le_until, if_neg c13, if_neg c18, if_pos c24] <;> rfl, by simp only [f_M_grantG, f_M_grantG_Le_granted, f_M_grantG_Le_owner, f_M_grantG_Le_until, if_neg c13, if_neg c18, if_pos c24] <;> rfl⟩
      · skip
        refine v_aload_n X 1 d_M_grant_27 rfl ?_
        refine v_get X 0 3 rfl rfl li_M (by decide) m153 rfl d_M_grant_28 ?_
        refine v_get X 3 0 rfl rfl li_Sd (by decide) m128 rfl d_M_grant_31 ?_
        refine v_ifB_ne X 41 (t := st) d_M_grant_34 (by decide) (fun c34 => ?_) (fun c34 => ?_)
        · skip
          refine v_aload_n X 1 d_M_grant_41 rfl ?_
          refine v_perm (perm_idx (α := Nat × va_E) (ws := [(o, .inr (4, [.ref sa, .ref la, .ref e, .ref d, .int dr, .int sf, .long nw, .long ls])), (la, .inl (κ.z 4, 4, .inr (.inr (.inr (.inr fl))))), (r, .inr (1, [.int (bI gr), .int ow, .long un])), (d, .inr (2, [.int (bI st), .long sin, .long sta, .long tg, .long er, .long vl, .long vh, .int sb, .int os]))]) (ws' := [(o, .inr (4, [.ref sa, .ref la, .ref e, .ref d, .int dr, .int sf, .long nw, .long ls])), (d, .inr (2, [.int (bI st), .long sin, .long sta, .long tg, .long er, .long vl, .long vh, .int sb, .int os])), (la, .inl (κ.z 4, 4, .inr (.inr (.inr (.inr fl))))), (r, .inr (1, [.int (bI gr), .int ow, .long un]))]) [0, 3, 1, 2] rfl rfl) ?_
          refine v_callV X (b := o) (n9 := 0) (As := []) (rest := []) (wc := [(o, .inr (4, [.ref sa, .ref la, .ref e, .ref d, .int dr, .int sf, .long nw, .long ls])), (d, .inr (2, [.int (bI st), .long sin, .long sta, .long tg, .long er, .long vl, .long vh, .int sb, .int os]))]) (wr := [(la, .inl (κ.z 4, 4, .inr (.inr (.inr (.inr fl))))), (r, .inr (1, [.int (bI gr), .int ow, .long un]))]) (c_M_time κ.l κ.D κ.z o sa la e d dr sf nw ls st sin sta tg er vl vh sb os ) 0 rfl rfl m389 m370 m371 m30 (by decide +kernel) rfl (Nat.le_of_ble_eq_true rfl) ⟨by decide, by decide⟩ ⟨by decide, by decide⟩ rfl rfl m372 d_M_grant_42 (fun v w1 hg => ?_)
          obtain ⟨rfl, rfl⟩ := hg
          refine v_perm (perm_idx (α := Nat × va_E) (ws := [(o, .inr (4, [.ref sa, .ref la, .ref e, .ref d, .int dr, .int sf, .long nw, .long ls])), (d, .inr (2, [.int (bI st), .long sin, .long sta, .long tg, .long er, .long vl, .long vh, .int sb, .int os])), (la, .inl (κ.z 4, 4, .inr (.inr (.inr (.inr fl))))), (r, .inr (1, [.int (bI gr), .int ow, .long un]))]) (ws' := [(o, .inr (4, [.ref sa, .ref la, .ref e, .ref d, .int dr, .int sf, .long nw, .long ls])), (la, .inl (κ.z 4, 4, .inr (.inr (.inr (.inr fl))))), (r, .inr (1, [.int (bI gr), .int ow, .long un])), (d, .inr (2, [.int (bI st), .long sin, .long sta, .long tg, .long er, .long vl, .long vh, .int sb, .int os]))]) [0, 2, 3, 1] rfl rfl) ?_
          show V κ 7 0 0 45 [(4, .ref r), (0, .ref o), (1, .int (nI i)), (2, .int x), (3, .int y)] [.long (f_M_time nw st sin sta tg)] [(o, .inr (4, [.ref sa, .ref la, .ref e, .ref d, .int dr, .int sf, .long nw, .long ls])), (la, .inl (κ.z 4, 4, .inr (.inr (.inr (.inr fl))))), (r, .inr (1, [.int (bI gr), .int ow, .long un])), (d, .inr (2, [.int (bI st), .long sin, .long sta, .long tg, .long er, .long vl, .long vh, .int sb, .int os]))]
          refine v_iload_n X 4 d_M_grant_45 rfl ?_
          refine v_i2l X d_M_grant_46 ?_
          refine v_ladd X d_M_grant_47 ?_
          refine v_lstore X d_M_grant_48 (by decide) (lv' := [(5, .long ((f_M_time nw st sin sta tg) + y.toInt64)), (4, .ref r), (0, .ref o), (1, .int (nI i)), (2, .int x), (3, .int y)]) rfl ?_
          refine v_aload X 1 d_M_grant_50 rfl ?_
          refine v_get X 2 0 rfl rfl li_Le (by decide) m92 rfl d_M_grant_52 ?_
          refine v_ifB_eq X 74 (t := gr) d_M_grant_55 (by decide) (fun c55 => ?_) (fun c55 => ?_)
          · skip
            refine v_aload X 1 d_M_grant_74 rfl ?_
            refine v_iload_n X 4 d_M_grant_76 rfl ?_
            refine v_lload X 0 d_M_grant_77 rfl ?_
            refine v_perm (perm_idx (α := Nat × va_E) (ws := [(o, .inr (4, [.ref sa, .ref la, .ref e, .ref d, .int dr, .int sf, .long nw, .long ls])), (la, .inl (κ.z 4, 4, .inr (.inr (.inr (.inr fl))))), (r, .inr (1, [.int (bI gr), .int ow, .long un])), (d, .inr (2, [.int (bI st), .long sin, .long sta, .long tg, .long er, .long vl, .long vh, .int sb, .int os]))]) (ws' := [(r, .inr (1, [.int (bI gr), .int ow, .long un])), (o, .inr (4, [.ref sa, .ref la, .ref e, .ref d, .int dr, .int sf, .long nw, .long ls])), (la, .inl (κ.z 4, 4, .inr (.inr (.inr (.inr fl))))), (d, .inr (2, [.int (bI st), .long sin, .long sta, .long tg, .long er, .long vl, .long vh, .int sb, .int os]))]) [2, 0, 1, 3] rfl rfl) ?_
            refine v_callV X (b := r) (n9 := 2) (As := [.int x, .long ((f_M_time nw st sin sta tg) + y.toInt64)]) (rest := []) (wc := [(r, .inr (1, [.int (bI gr), .int ow, .long un]))]) (wr := [(o, .inr (4, [.ref sa, .ref la, .ref e, .ref d, .int dr, .int sf, .long nw, .long ls])), (la, .inl (κ.z 4, 4, .inr (.inr (.inr (.inr fl))))), (d, .inr (2, [.int (bI st), .long sin, .long sta, .long tg, .long er, .long vl, .long vh, .int sb, .int os]))]) (c_Le_give κ.l κ.D κ.z r gr ow un x ((f_M_time nw st sin sta tg) + y.toInt64) ) 0 rfl rfl m397 m398 m399 m33 (by decide +kernel) rfl (Nat.le_of_ble_eq_true rfl) ⟨by decide, by decide⟩ ⟨by decide, by decide⟩ rfl rfl m400 d_M_grant_79 (fun v w1 hg => ?_)
            obtain ⟨rfl, rfl⟩ := hg
            refine v_perm (perm_idx (α := Nat × va_E) (ws := [(r, .inr (1, [.int (bI true), .int x, .long ((f_M_time nw st sin sta tg) + y.toInt64)])), (o, .inr (4, [.ref sa, .ref la, .ref e, .ref d, .int dr, .int sf, .long nw, .long ls])), (la, .inl (κ.z 4, 4, .inr (.inr (.inr (.inr fl))))), (d, .inr (2, [.int (bI st), .long sin, .long sta, .long tg, .long er, .long vl, .long vh, .int sb, .int os]))]) (ws' := [(o, .inr (4, [.ref sa, .ref la, .ref e, .ref d, .int dr, .int sf, .long nw, .long ls])), (la, .inl (κ.z 4, 4, .inr (.inr (.inr (.inr fl))))), (r, .inr (1, [.int (bI true), .int x, .long ((f_M_time nw st sin sta tg) + y.toInt64)])), (d, .inr (2, [.int (bI st), .long sin, .long sta, .long tg, .long er, .long vl, .long vh, .int sb, .int os]))]) [1, 2, 0, 3] rfl rfl) ?_
            show V κ 7 0 0 82 [(5, .long ((f_M_time nw st sin sta tg) + y.toInt64)), (4, .ref r), (0, .ref o), (1, .int (nI i)), (2, .int x), (3, .int y)] [] [(o, .inr (4, [.ref sa, .ref la, .ref e, .ref d, .int dr, .int sf, .long nw, .long ls])), (la, .inl (κ.z 4, 4, .inr (.inr (.inr (.inr fl))))), (r, .inr (1, [.int (bI true), .int x, .long ((f_M_time nw st sin sta tg) + y.toInt64)])), (d, .inr (2, [.int (bI st), .long sin, .long sta, .long tg, .long er, .long vl, .long vh, .int sb, .int os]))]
            refine v_lload X 0 d_M_grant_82 rfl ?_
            exact v_lret X Y (by decide) (by decide) d_M_grant_84 ⟨by simp only [f_M_grantG, f_M_grantG_Le_granted, f_M_grantG_Le_owner, f_M_grantG_Le_until, if_neg c13, if_neg c18, if_neg c24, if_pos c34, if_neg c55] <;> rfl, by simp only [f_M_grantG, f_M_grantG_Le_granted, f_M_grantG_Le_owner, f_M_grantG_Le_until, if_neg c13, if_neg c18, if_neg c24, if_pos c34, if_neg c55] <;> rfl⟩
          · skip
            refine v_aload_n X 2 d_M_grant_58 rfl ?_
            refine v_aload X 1 d_M_grant_59 rfl ?_
            refine v_iload_n X 4 d_M_grant_61 rfl ?_
            refine v_lload X 0 d_M_grant_62 rfl ?_
            refine v_perm (perm_idx (α := Nat × va_E) (ws := [(o, .inr (4, [.ref sa, .ref la, .ref e, .ref d, .int dr, .int sf, .long nw, .long ls])), (la, .inl (κ.z 4, 4, .inr (.inr (.inr (.inr fl))))), (r, .inr (1, [.int (bI gr), .int ow, .long un])), (d, .inr (2, [.int (bI st), .long sin, .long sta, .long tg, .long er, .long vl, .long vh, .int sb, .int os]))]) (ws' := [(o, .inr (4, [.ref sa, .ref la, .ref e, .ref d, .int dr, .int sf, .long nw, .long ls])), (d, .inr (2, [.int (bI st), .long sin, .long sta, .long tg, .long er, .long vl, .long vh, .int sb, .int os])), (r, .inr (1, [.int (bI gr), .int ow, .long un])), (la, .inl (κ.z 4, 4, .inr (.inr (.inr (.inr fl)))))]) [0, 3, 2, 1] rfl rfl) ?_
            refine v_callV X (b := o) (n9 := 3) (As := [.ref r, .int x, .long ((f_M_time nw st sin sta tg) + y.toInt64)]) (rest := []) (wc := [(o, .inr (4, [.ref sa, .ref la, .ref e, .ref d, .int dr, .int sf, .long nw, .long ls])), (d, .inr (2, [.int (bI st), .long sin, .long sta, .long tg, .long er, .long vl, .long vh, .int sb, .int os])), (r, .inr (1, [.int (bI gr), .int ow, .long un]))]) (wr := [(la, .inl (κ.z 4, 4, .inr (.inr (.inr (.inr fl)))))]) (c_M_mayFollow κ.l κ.D κ.z o sa la e d dr sf nw ls st sin sta tg er vl vh sb os r gr ow un x ((f_M_time nw st sin sta tg) + y.toInt64) ) 0 rfl rfl m390 m391 m14 m30 (by decide +kernel) rfl (Nat.le_of_ble_eq_true rfl) ⟨by decide, by decide⟩ ⟨by decide, by decide⟩ rfl rfl m392 d_M_grant_64 (fun v w1 hg => ?_)
            obtain ⟨rfl, rfl⟩ := hg
            refine v_perm (perm_idx (α := Nat × va_E) (ws := [(o, .inr (4, [.ref sa, .ref la, .ref e, .ref d, .int dr, .int sf, .long nw, .long ls])), (d, .inr (2, [.int (bI st), .long sin, .long sta, .long tg, .long er, .long vl, .long vh, .int sb, .int os])), (r, .inr (1, [.int (bI gr), .int ow, .long un])), (la, .inl (κ.z 4, 4, .inr (.inr (.inr (.inr fl)))))]) (ws' := [(o, .inr (4, [.ref sa, .ref la, .ref e, .ref d, .int dr, .int sf, .long nw, .long ls])), (la, .inl (κ.z 4, 4, .inr (.inr (.inr (.inr fl))))), (r, .inr (1, [.int (bI gr), .int ow, .long un])), (d, .inr (2, [.int (bI st), .long sin, .long sta, .long tg, .long er, .long vl, .long vh, .int sb, .int os]))]) [0, 3, 2, 1] rfl rfl) ?_
            show V κ 7 0 0 67 [(5, .long ((f_M_time nw st sin sta tg) + y.toInt64)), (4, .ref r), (0, .ref o), (1, .int (nI i)), (2, .int x), (3, .int y)] [.int (bI (f_M_mayFollow dr nw st sin sta tg er ow un x ((f_M_time nw st sin sta tg) + y.toInt64)))] [(o, .inr (4, [.ref sa, .ref la, .ref e, .ref d, .int dr, .int sf, .long nw, .long ls])), (la, .inl (κ.z 4, 4, .inr (.inr (.inr (.inr fl))))), (r, .inr (1, [.int (bI gr), .int ow, .long un])), (d, .inr (2, [.int (bI st), .long sin, .long sta, .long tg, .long er, .long vl, .long vh, .int sb, .int os]))]
            refine v_ifB_ne X 74 (t := f_M_mayFollow dr nw st sin sta tg er ow un x ((f_M_time nw st sin sta tg) + y.toInt64)) d_M_grant_67 (by decide) (fun c67 => ?_) (fun c67 => ?_)
            · skip
              refine v_aload X 1 d_M_grant_74 rfl ?_
              refine v_iload_n X 4 d_M_grant_76 rfl ?_
              refine v_lload X 0 d_M_grant_77 rfl ?_
              refine v_perm (perm_idx (α := Nat × va_E) (ws := [(o, .inr (4, [.ref sa, .ref la, .ref e, .ref d, .int dr, .int sf, .long nw, .long ls])), (la, .inl (κ.z 4, 4, .inr (.inr (.inr (.inr fl))))), (r, .inr (1, [.int (bI gr), .int ow, .long un])), (d, .inr (2, [.int (bI st), .long sin, .long sta, .long tg, .long er, .long vl, .long vh, .int sb, .int os]))]) (ws' := [(r, .inr (1, [.int (bI gr), .int ow, .long un])), (o, .inr (4, [.ref sa, .ref la, .ref e, .ref d, .int dr, .int sf, .long nw, .long ls])), (la, .inl (κ.z 4, 4, .inr (.inr (.inr (.inr fl))))), (d, .inr (2, [.int (bI st), .long sin, .long sta, .long tg, .long er, .long vl, .long vh, .int sb, .int os]))]) [2, 0, 1, 3] rfl rfl) ?_
              refine v_callV X (b := r) (n9 := 2) (As := [.int x, .long ((f_M_time nw st sin sta tg) + y.toInt64)]) (rest := []) (wc := [(r, .inr (1, [.int (bI gr), .int ow, .long un]))]) (wr := [(o, .inr (4, [.ref sa, .ref la, .ref e, .ref d, .int dr, .int sf, .long nw, .long ls])), (la, .inl (κ.z 4, 4, .inr (.inr (.inr (.inr fl))))), (d, .inr (2, [.int (bI st), .long sin, .long sta, .long tg, .long er, .long vl, .long vh, .int sb, .int os]))]) (c_Le_give κ.l κ.D κ.z r gr ow un x ((f_M_time nw st sin sta tg) + y.toInt64) ) 0 rfl rfl m397 m398 m399 m33 (by decide +kernel) rfl (Nat.le_of_ble_eq_true rfl) ⟨by decide, by decide⟩ ⟨by decide, by decide⟩ rfl rfl m400 d_M_grant_79 (fun v w1 hg => ?_)
              obtain ⟨rfl, rfl⟩ := hg
              refine v_perm (perm_idx (α := Nat × va_E) (ws := [(r, .inr (1, [.int (bI true), .int x, .long ((f_M_time nw st sin sta tg) + y.toInt64)])), (o, .inr (4, [.ref sa, .ref la, .ref e, .ref d, .int dr, .int sf, .long nw, .long ls])), (la, .inl (κ.z 4, 4, .inr (.inr (.inr (.inr fl))))), (d, .inr (2, [.int (bI st), .long sin, .long sta, .long tg, .long er, .long vl, .long vh, .int sb, .int os]))]) (ws' := [(o, .inr (4, [.ref sa, .ref la, .ref e, .ref d, .int dr, .int sf, .long nw, .long ls])), (la, .inl (κ.z 4, 4, .inr (.inr (.inr (.inr fl))))), (r, .inr (1, [.int (bI true), .int x, .long ((f_M_time nw st sin sta tg) + y.toInt64)])), (d, .inr (2, [.int (bI st), .long sin, .long sta, .long tg, .long er, .long vl, .long vh, .int sb, .int os]))]) [1, 2, 0, 3] rfl rfl) ?_
              show V κ 7 0 0 82 [(5, .long ((f_M_time nw st sin sta tg) + y.toInt64)), (4, .ref r), (0, .ref o), (1, .int (nI i)), (2, .int x), (3, .int y)] [] [(o, .inr (4, [.ref sa, .ref la, .ref e, .ref d, .int dr, .int sf, .long nw, .long ls])), (la, .inl (κ.z 4, 4, .inr (.inr (.inr (.inr fl))))), (r, .inr (1, [.int (bI true), .int x, .long ((f_M_time nw st sin sta tg) + y.toInt64)])), (d, .inr (2, [.int (bI st), .long sin, .long sta, .long tg, .long er, .long vl, .long vh, .int sb, .int os]))]
              refine v_lload X 0 d_M_grant_82 rfl ?_
              exact v_lret X Y (by decide) (by decide) d_M_grant_84 ⟨by simp only [f_M_grantG, f_M_grantG_Le_granted, f_M_grantG_Le_owner, f_M_grantG_Le_until, if_neg c13, if_neg c18, if_neg c24, if_pos c34, if_pos c55, if_pos c67] <;> rfl, by simp only [f_M_grantG, f_M_grantG_Le_granted, f_M_grantG_Le_owner, f_M_grantG_Le_until, if_neg c13, if_neg c18, if_neg c24, if_pos c34, if_pos c55, if_pos c67] <;> rfl⟩
            · skip
              refine v_ldc2 X (v := (-4611686018427387904)) m197 d_M_grant_70 ?_
              exact v_lret X Y (by decide) (by decide) d_M_grant_73 ⟨by simp only [f_M_grantG, f_M_grantG_Le_granted, f_M_grantG_Le_owner, f_M_grantG_Le_until, if_neg c13, if_neg c18, if_neg c24, if_pos c34, if_pos c55, if_neg c67] <;> rfl, by simp only [f_M_grantG, f_M_grantG_Le_granted, f_M_grantG_Le_owner, f_M_grantG_Le_until, if_neg c13, if_neg c18, if_neg c24, if_pos c34, if_pos c55, if_neg c67] <;> rfl⟩
        · skip
          refine v_ldc2 X (v := (-4611686018427387904)) m197 d_M_grant_37 ?_
          exact v_lret X Y (by decide) (by decide) d_M_grant_40 ⟨by simp only [f_M_grantG, f_M_grantG_Le_granted, f_M_grantG_Le_owner, f_M_grantG_Le_until, if_neg c13, if_neg c18, if_neg c24, if_neg c34] <;> rfl, by simp only [f_M_grantG, f_M_grantG_Le_granted, f_M_grantG_Le_owner, f_M_grantG_Le_until, if_neg c13, if_neg c18, if_neg c24, if_neg c34] <;> rfl⟩

set_option maxHeartbeats 4000000 in
set_option maxRecDepth 100000 in
theorem c_M_grantB (l : Launch) (D : va_G) (z : Nat → ClassId) (o : Nat) (sa : Nat) (la : Nat) (e : Nat) (d : Nat) (dr : Int32) (sf : Int32) (nw : Int64) (ls : Int64) (fl : Nat → Option Nat) (s : Int32) (x : Int32) (y : Int32) (hb9 : ¬ s < 0 → ¬ s < nI 4) : Ctr l D z y_M_grant b_M_grant 7 (some .long) { frames := 6, cells := 0, slots := 0, locals := 137 } [.ref o, .int s, .int x, .int y] [(o, .inr (4, [.ref sa, .ref la, .ref e, .ref d, .int dr, .int sf, .long nw, .long ls])), (la, .inl (z 4, 4, .inr (.inr (.inr (.inr fl)))))] (fun v w => v = some (.long (-4611686018427387904)) ∧ w = [(o, .inr (4, [.ref sa, .ref la, .ref e, .ref d, .int dr, .int sf, .long nw, .long ls])), (la, .inl (z 4, 4, .inr (.inr (.inr (.inr fl)))))]) 0 0 := by
  refine met_V (own := R_M) (nm := "grant") (by decide +kernel) rfl rfl (Nat.le_of_ble_eq_true rfl) ?_
  intro κ hl hD hz X Y
  subst hl
  subst hD
  subst hz
  show V κ 7 0 0 0 [(0, .ref o), (1, .int s), (2, .int x), (3, .int y)] [] [(o, .inr (4, [.ref sa, .ref la, .ref e, .ref d, .int dr, .int sf, .long nw, .long ls])), (la, .inl (κ.z 4, 4, .inr (.inr (.inr (.inr fl)))))]
  refine v_aload_n X 0 d_M_grant_0 rfl ?_
  refine v_iload_n X 1 d_M_grant_1 rfl ?_
  refine v_callV X (b := o) (n9 := 1) (As := [.int s]) (rest := []) (wc := [(o, .inr (4, [.ref sa, .ref la, .ref e, .ref d, .int dr, .int sf, .long nw, .long ls])), (la, .inl (κ.z 4, 4, .inr (.inr (.inr (.inr fl)))))]) (wr := []) (c_M_leaseOrNullB κ.l κ.D κ.z o sa la e d dr sf nw ls fl s hb9) 0 rfl rfl m386 m387 m13 m30 (by decide +kernel) rfl (Nat.le_of_ble_eq_true rfl) ⟨by decide, by decide⟩ ⟨by decide, by decide⟩ rfl rfl m388 d_M_grant_2 (fun v w1 hg => ?_)
  obtain ⟨rfl, rfl⟩ := hg
  show V κ 7 0 0 5 [(0, .ref o), (1, .int s), (2, .int x), (3, .int y)] [.null] [(o, .inr (4, [.ref sa, .ref la, .ref e, .ref d, .int dr, .int sf, .long nw, .long ls])), (la, .inl (κ.z 4, 4, .inr (.inr (.inr (.inr fl)))))]
  refine v_astoreN X d_M_grant_5 (by decide) (lv' := [(4, .null), (0, .ref o), (1, .int s), (2, .int x), (3, .int y)]) rfl ?_
  refine v_aloadN X 0 d_M_grant_7 rfl ?_
  refine v_ifnullN X 37 d_M_grant_9 (by decide) ?_
  refine v_ldc2 X (v := (-4611686018427387904)) m197 d_M_grant_37 ?_
  exact v_lret X Y (by decide) (by decide) d_M_grant_40 ⟨rfl, rfl⟩

set_option maxHeartbeats 4000000 in
set_option maxRecDepth 100000 in
theorem c_M_keyG (l : Launch) (D : va_G) (z : Nat → ClassId) (o : Nat) (sa : Nat) (la : Nat) (e : Nat) (d : Nat) (dr : Int32) (sf : Int32) (nw : Int64) (ls : Int64) (nS : Nat) (fs : Nat → Option Nat) (a : Nat) (b1 : Nat) (b2 : Nat) (b3 : Nat) (sec : Int64) (pen : Bool) (pst : Int64) (psi : Int64) (acc : Int64) (str : Int32) (ref : Int32) (rt : Int32) (sm : Nat) (lo : Nat → Int64) (hi : Nat → Int64) (ti : Nat → Int64) (i : Nat) (x : Int64) (hi9 : i < nS) (hn9 : nS ≤ 6) (hf9 : fs i = some a) (hs8 : sm ≤ 8) : Ctr l D z y_M_key b_M_key 5 (some .boolean) { frames := 1, cells := 0, slots := 0, locals := 21 } [.ref o, .int (nI i), .long x] [(o, .inr (4, [.ref sa, .ref la, .ref e, .ref d, .int dr, .int sf, .long nw, .long ls])), (sa, .inl (z 3, nS, .inr (.inr (.inr (.inr fs))))), (a, .inr (3, [.long sec, .int (bI pen), .long pst, .long psi, .long acc, .int str, .int ref, .int rt, .int (nI sm), .ref b1, .ref b2, .ref b3])), (b1, .inl (z 1, 8, .inr (.inl lo))), (b2, .inl (z 1, 8, .inr (.inl hi))), (b3, .inl (z 1, 8, .inr (.inl ti)))] (fun v w => v = some (.int (bI true)) ∧ w = [(o, .inr (4, [.ref sa, .ref la, .ref e, .ref d, .int dr, .int sf, .long nw, .long ls])), (sa, .inl (z 3, nS, .inr (.inr (.inr (.inr fs))))), (a, .inr (3, [.long x, .int (bI pen), .long pst, .long psi, .long acc, .int str, .int ref, .int rt, .int (nI sm), .ref b1, .ref b2, .ref b3])), (b1, .inl (z 1, 8, .inr (.inl lo))), (b2, .inl (z 1, 8, .inr (.inl hi))), (b3, .inl (z 1, 8, .inr (.inl ti)))]) 0 0 := by
  refine met_V (own := R_M) (nm := "key") (by decide +kernel) rfl rfl (Nat.le_of_ble_eq_true rfl) ?_
  intro κ hl hD hz X Y
  subst hl
  subst hD
  subst hz
  show V κ 5 0 0 0 [(0, .ref o), (1, .int (nI i)), (2, .long x)] [] [(o, .inr (4, [.ref sa, .ref la, .ref e, .ref d, .int dr, .int sf, .long nw, .long ls])), (sa, .inl (κ.z 3, nS, .inr (.inr (.inr (.inr fs))))), (a, .inr (3, [.long sec, .int (bI pen), .long pst, .long psi, .long acc, .int str, .int ref, .int rt, .int (nI sm), .ref b1, .ref b2, .ref b3])), (b1, .inl (κ.z 1, 8, .inr (.inl lo))), (b2, .inl (κ.z 1, 8, .inr (.inl hi))), (b3, .inl (κ.z 1, 8, .inr (.inl ti)))]
  refine v_aload_n X 0 d_M_key_0 rfl ?_
  refine v_iload_n X 1 d_M_key_1 rfl ?_
  refine v_callV X (b := o) (n9 := 1) (As := [.int (nI i)]) (rest := []) (wc := [(o, .inr (4, [.ref sa, .ref la, .ref e, .ref d, .int dr, .int sf, .long nw, .long ls])), (sa, .inl (κ.z 3, nS, .inr (.inr (.inr (.inr fs)))))]) (wr := [(a, .inr (3, [.long sec, .int (bI pen), .long pst, .long psi, .long acc, .int str, .int ref, .int rt, .int (nI sm), .ref b1, .ref b2, .ref b3])), (b1, .inl (κ.z 1, 8, .inr (.inl lo))), (b2, .inl (κ.z 1, 8, .inr (.inl hi))), (b3, .inl (κ.z 1, 8, .inr (.inl ti)))]) (c_M_serverOrNullG κ.l κ.D κ.z o sa la e d dr sf nw ls nS fs i a hi9 hn9 hf9) 0 rfl rfl m179 m180 m0 m30 (by decide +kernel) rfl (Nat.le_of_ble_eq_true rfl) ⟨by decide, by decide⟩ ⟨by decide, by decide⟩ rfl rfl m181 d_M_key_2 (fun v w1 hg => ?_)
  obtain ⟨rfl, rfl⟩ := hg
  show V κ 5 0 0 5 [(0, .ref o), (1, .int (nI i)), (2, .long x)] [.ref a] [(o, .inr (4, [.ref sa, .ref la, .ref e, .ref d, .int dr, .int sf, .long nw, .long ls])), (sa, .inl (κ.z 3, nS, .inr (.inr (.inr (.inr fs))))), (a, .inr (3, [.long sec, .int (bI pen), .long pst, .long psi, .long acc, .int str, .int ref, .int rt, .int (nI sm), .ref b1, .ref b2, .ref b3])), (b1, .inl (κ.z 1, 8, .inr (.inl lo))), (b2, .inl (κ.z 1, 8, .inr (.inl hi))), (b3, .inl (κ.z 1, 8, .inr (.inl ti)))]
  refine v_astore X d_M_key_5 (by decide) (lv' := [(4, .ref a), (0, .ref o), (1, .int (nI i)), (2, .long x)]) rfl ?_
  refine v_aload X 0 d_M_key_7 rfl ?_
  refine v_ifnonnull X 14 d_M_key_9 (by decide) ?_
  refine v_aload X 0 d_M_key_14 rfl ?_
  refine v_lload_n X 3 d_M_key_16 rfl ?_
  refine v_put X 2 0 (v := .long x) (ty := .long) ty_Sv tk_Sv n_Sv rfl rfl li_Sv (by decide) m57 rfl (by decide +kernel) rfl rfl (Nat.le_of_ble_eq_true rfl) d_M_key_17 (ws' := [(o, .inr (4, [.ref sa, .ref la, .ref e, .ref d, .int dr, .int sf, .long nw, .long ls])), (sa, .inl (κ.z 3, nS, .inr (.inr (.inr (.inr fs))))), (a, .inr (3, [.long x, .int (bI pen), .long pst, .long psi, .long acc, .int str, .int ref, .int rt, .int (nI sm), .ref b1, .ref b2, .ref b3])), (b1, .inl (κ.z 1, 8, .inr (.inl lo))), (b2, .inl (κ.z 1, 8, .inr (.inl hi))), (b3, .inl (κ.z 1, 8, .inr (.inl ti)))]) rfl ?_
  refine v_iconst X 1 d_M_key_20 (by decide) ?_
  exact v_zret X Y (by decide) (by decide) d_M_key_21 rfl ⟨rfl, rfl⟩

set_option maxHeartbeats 4000000 in
set_option maxRecDepth 100000 in
theorem c_M_keyB (l : Launch) (D : va_G) (z : Nat → ClassId) (o : Nat) (sa : Nat) (la : Nat) (e : Nat) (d : Nat) (dr : Int32) (sf : Int32) (nw : Int64) (ls : Int64) (nS : Nat) (fs : Nat → Option Nat) (s : Int32) (x : Int64) (hb9 : ¬ s < 0 → ¬ s < nI nS) : Ctr l D z y_M_key b_M_key 5 (some .boolean) { frames := 1, cells := 0, slots := 0, locals := 21 } [.ref o, .int s, .long x] [(o, .inr (4, [.ref sa, .ref la, .ref e, .ref d, .int dr, .int sf, .long nw, .long ls])), (sa, .inl (z 3, nS, .inr (.inr (.inr (.inr fs)))))] (fun v w => v = some (.int (bI false)) ∧ w = [(o, .inr (4, [.ref sa, .ref la, .ref e, .ref d, .int dr, .int sf, .long nw, .long ls])), (sa, .inl (z 3, nS, .inr (.inr (.inr (.inr fs)))))]) 0 0 := by
  refine met_V (own := R_M) (nm := "key") (by decide +kernel) rfl rfl (Nat.le_of_ble_eq_true rfl) ?_
  intro κ hl hD hz X Y
  subst hl
  subst hD
  subst hz
  show V κ 5 0 0 0 [(0, .ref o), (1, .int s), (2, .long x)] [] [(o, .inr (4, [.ref sa, .ref la, .ref e, .ref d, .int dr, .int sf, .long nw, .long ls])), (sa, .inl (κ.z 3, nS, .inr (.inr (.inr (.inr fs)))))]
  refine v_aload_n X 0 d_M_key_0 rfl ?_
  refine v_iload_n X 1 d_M_key_1 rfl ?_
  refine v_callV X (b := o) (n9 := 1) (As := [.int s]) (rest := []) (wc := [(o, .inr (4, [.ref sa, .ref la, .ref e, .ref d, .int dr, .int sf, .long nw, .long ls])), (sa, .inl (κ.z 3, nS, .inr (.inr (.inr (.inr fs)))))]) (wr := []) (c_M_serverOrNullB κ.l κ.D κ.z o sa la e d dr sf nw ls nS fs s hb9) 0 rfl rfl m179 m180 m0 m30 (by decide +kernel) rfl (Nat.le_of_ble_eq_true rfl) ⟨by decide, by decide⟩ ⟨by decide, by decide⟩ rfl rfl m181 d_M_key_2 (fun v w1 hg => ?_)
  obtain ⟨rfl, rfl⟩ := hg
  show V κ 5 0 0 5 [(0, .ref o), (1, .int s), (2, .long x)] [.null] [(o, .inr (4, [.ref sa, .ref la, .ref e, .ref d, .int dr, .int sf, .long nw, .long ls])), (sa, .inl (κ.z 3, nS, .inr (.inr (.inr (.inr fs)))))]
  refine v_astoreN X d_M_key_5 (by decide) (lv' := [(4, .null), (0, .ref o), (1, .int s), (2, .long x)]) rfl ?_
  refine v_aloadN X 0 d_M_key_7 rfl ?_
  refine v_ifnonnullN X d_M_key_9 ?_
  refine v_iconst X 0 d_M_key_12 (by decide) ?_
  exact v_zret X Y (by decide) (by decide) d_M_key_13 rfl ⟨rfl, rfl⟩

set_option maxHeartbeats 4000000 in
set_option maxRecDepth 100000 in
theorem c_M_sealG (l : Launch) (D : va_G) (z : Nat → ClassId) (o : Nat) (sa : Nat) (la : Nat) (e : Nat) (d : Nat) (dr : Int32) (sf : Int32) (nw : Int64) (ls : Int64) (nS : Nat) (fs : Nat → Option Nat) (a : Nat) (b1 : Nat) (b2 : Nat) (b3 : Nat) (sec : Int64) (pen : Bool) (pst : Int64) (psi : Int64) (acc : Int64) (str : Int32) (ref : Int32) (rt : Int32) (sm : Nat) (lo : Nat → Int64) (hi : Nat → Int64) (ti : Nat → Int64) (i : Nat) (x : Int64) (y : Int64) (t : Int64) (hi9 : i < nS) (hn9 : nS ≤ 6) (hf9 : fs i = some a) (hs8 : sm ≤ 8) : Ctr l D z y_M_seal b_M_seal 9 (some .int) { frames := 2, cells := 0, slots := 0, locals := 54 } [.ref o, .int (nI i), .long x, .long y, .long t] [(o, .inr (4, [.ref sa, .ref la, .ref e, .ref d, .int dr, .int sf, .long nw, .long ls])), (sa, .inl (z 3, nS, .inr (.inr (.inr (.inr fs))))), (a, .inr (3, [.long sec, .int (bI pen), .long pst, .long psi, .long acc, .int str, .int ref, .int rt, .int (nI sm), .ref b1, .ref b2, .ref b3])), (b1, .inl (z 1, 8, .inr (.inl lo))), (b2, .inl (z 1, 8, .inr (.inl hi))), (b3, .inl (z 1, 8, .inr (.inl ti)))] (fun v w => v = some (.int (f_M_sealUnder sec x y t)) ∧ w = [(o, .inr (4, [.ref sa, .ref la, .ref e, .ref d, .int dr, .int sf, .long nw, .long ls])), (sa, .inl (z 3, nS, .inr (.inr (.inr (.inr fs))))), (a, .inr (3, [.long sec, .int (bI pen), .long pst, .long psi, .long acc, .int str, .int ref, .int rt, .int (nI sm), .ref b1, .ref b2, .ref b3])), (b1, .inl (z 1, 8, .inr (.inl lo))), (b2, .inl (z 1, 8, .inr (.inl hi))), (b3, .inl (z 1, 8, .inr (.inl ti)))]) 0 0 := by
  refine met_V (own := R_M) (nm := "seal") (by decide +kernel) rfl rfl (Nat.le_of_ble_eq_true rfl) ?_
  intro κ hl hD hz X Y
  subst hl
  subst hD
  subst hz
  show V κ 9 0 0 0 [(0, .ref o), (1, .int (nI i)), (2, .long x), (4, .long y), (6, .long t)] [] [(o, .inr (4, [.ref sa, .ref la, .ref e, .ref d, .int dr, .int sf, .long nw, .long ls])), (sa, .inl (κ.z 3, nS, .inr (.inr (.inr (.inr fs))))), (a, .inr (3, [.long sec, .int (bI pen), .long pst, .long psi, .long acc, .int str, .int ref, .int rt, .int (nI sm), .ref b1, .ref b2, .ref b3])), (b1, .inl (κ.z 1, 8, .inr (.inl lo))), (b2, .inl (κ.z 1, 8, .inr (.inl hi))), (b3, .inl (κ.z 1, 8, .inr (.inl ti)))]
  refine v_aload_n X 0 d_M_seal_0 rfl ?_
  refine v_iload_n X 1 d_M_seal_1 rfl ?_
  refine v_callV X (b := o) (n9 := 1) (As := [.int (nI i)]) (rest := []) (wc := [(o, .inr (4, [.ref sa, .ref la, .ref e, .ref d, .int dr, .int sf, .long nw, .long ls])), (sa, .inl (κ.z 3, nS, .inr (.inr (.inr (.inr fs)))))]) (wr := [(a, .inr (3, [.long sec, .int (bI pen), .long pst, .long psi, .long acc, .int str, .int ref, .int rt, .int (nI sm), .ref b1, .ref b2, .ref b3])), (b1, .inl (κ.z 1, 8, .inr (.inl lo))), (b2, .inl (κ.z 1, 8, .inr (.inl hi))), (b3, .inl (κ.z 1, 8, .inr (.inl ti)))]) (c_M_serverOrNullG κ.l κ.D κ.z o sa la e d dr sf nw ls nS fs i a hi9 hn9 hf9) 0 rfl rfl m179 m180 m0 m30 (by decide +kernel) rfl (Nat.le_of_ble_eq_true rfl) ⟨by decide, by decide⟩ ⟨by decide, by decide⟩ rfl rfl m181 d_M_seal_2 (fun v w1 hg => ?_)
  obtain ⟨rfl, rfl⟩ := hg
  show V κ 9 0 0 5 [(0, .ref o), (1, .int (nI i)), (2, .long x), (4, .long y), (6, .long t)] [.ref a] [(o, .inr (4, [.ref sa, .ref la, .ref e, .ref d, .int dr, .int sf, .long nw, .long ls])), (sa, .inl (κ.z 3, nS, .inr (.inr (.inr (.inr fs))))), (a, .inr (3, [.long sec, .int (bI pen), .long pst, .long psi, .long acc, .int str, .int ref, .int rt, .int (nI sm), .ref b1, .ref b2, .ref b3])), (b1, .inl (κ.z 1, 8, .inr (.inl lo))), (b2, .inl (κ.z 1, 8, .inr (.inl hi))), (b3, .inl (κ.z 1, 8, .inr (.inl ti)))]
  refine v_astore X d_M_seal_5 (by decide) (lv' := [(8, .ref a), (0, .ref o), (1, .int (nI i)), (2, .long x), (4, .long y), (6, .long t)]) rfl ?_
  refine v_aload X 0 d_M_seal_7 rfl ?_
  refine v_ifnonnull X 14 d_M_seal_9 (by decide) ?_
  refine v_aload X 0 d_M_seal_14 rfl ?_
  refine v_get X 2 0 rfl rfl li_Sv (by decide) m57 rfl d_M_seal_16 ?_
  refine v_lload_n X 3 d_M_seal_19 rfl ?_
  refine v_lload X 4 d_M_seal_20 rfl ?_
  refine v_lload X 5 d_M_seal_22 rfl ?_
  refine v_callS X (n9 := 4) (As := [.long sec, .long x, .long y, .long t]) (rest := []) (wc := []) (wr := [(o, .inr (4, [.ref sa, .ref la, .ref e, .ref d, .int dr, .int sf, .long nw, .long ls])), (sa, .inl (κ.z 3, nS, .inr (.inr (.inr (.inr fs))))), (a, .inr (3, [.long sec, .int (bI pen), .long pst, .long psi, .long acc, .int str, .int ref, .int rt, .int (nI sm), .ref b1, .ref b2, .ref b3])), (b1, .inl (κ.z 1, 8, .inr (.inl lo))), (b2, .inl (κ.z 1, 8, .inr (.inl hi))), (b3, .inl (κ.z 1, 8, .inr (.inl ti)))]) (c_M_sealUnder κ.l κ.D κ.z sec x y t ) m186 m187 m30 (by decide +kernel) rfl (Nat.le_of_ble_eq_true rfl) ⟨by decide, by decide⟩ ⟨by decide, by decide⟩ rfl rfl m188 d_M_seal_24 (fun v w1 hg => ?_)
  obtain ⟨rfl, rfl⟩ := hg
  show V κ 9 0 0 27 [(8, .ref a), (0, .ref o), (1, .int (nI i)), (2, .long x), (4, .long y), (6, .long t)] [.int (f_M_sealUnder sec x y t)] [(o, .inr (4, [.ref sa, .ref la, .ref e, .ref d, .int dr, .int sf, .long nw, .long ls])), (sa, .inl (κ.z 3, nS, .inr (.inr (.inr (.inr fs))))), (a, .inr (3, [.long sec, .int (bI pen), .long pst, .long psi, .long acc, .int str, .int ref, .int rt, .int (nI sm), .ref b1, .ref b2, .ref b3])), (b1, .inl (κ.z 1, 8, .inr (.inl lo))), (b2, .inl (κ.z 1, 8, .inr (.inl hi))), (b3, .inl (κ.z 1, 8, .inr (.inl ti)))]
  exact v_iret X Y (by decide) (by decide) d_M_seal_27 ⟨rfl, rfl⟩

set_option maxHeartbeats 4000000 in
set_option maxRecDepth 100000 in
theorem c_M_sealB (l : Launch) (D : va_G) (z : Nat → ClassId) (o : Nat) (sa : Nat) (la : Nat) (e : Nat) (d : Nat) (dr : Int32) (sf : Int32) (nw : Int64) (ls : Int64) (nS : Nat) (fs : Nat → Option Nat) (s : Int32) (x : Int64) (y : Int64) (t : Int64) (hb9 : ¬ s < 0 → ¬ s < nI nS) : Ctr l D z y_M_seal b_M_seal 9 (some .int) { frames := 2, cells := 0, slots := 0, locals := 54 } [.ref o, .int s, .long x, .long y, .long t] [(o, .inr (4, [.ref sa, .ref la, .ref e, .ref d, .int dr, .int sf, .long nw, .long ls])), (sa, .inl (z 3, nS, .inr (.inr (.inr (.inr fs)))))] (fun v w => v = some (.int (0 : Int32)) ∧ w = [(o, .inr (4, [.ref sa, .ref la, .ref e, .ref d, .int dr, .int sf, .long nw, .long ls])), (sa, .inl (z 3, nS, .inr (.inr (.inr (.inr fs)))))]) 0 0 := by
  refine met_V (own := R_M) (nm := "seal") (by decide +kernel) rfl rfl (Nat.le_of_ble_eq_true rfl) ?_
  intro κ hl hD hz X Y
  subst hl
  subst hD
  subst hz
  show V κ 9 0 0 0 [(0, .ref o), (1, .int s), (2, .long x), (4, .long y), (6, .long t)] [] [(o, .inr (4, [.ref sa, .ref la, .ref e, .ref d, .int dr, .int sf, .long nw, .long ls])), (sa, .inl (κ.z 3, nS, .inr (.inr (.inr (.inr fs)))))]
  refine v_aload_n X 0 d_M_seal_0 rfl ?_
  refine v_iload_n X 1 d_M_seal_1 rfl ?_
  refine v_callV X (b := o) (n9 := 1) (As := [.int s]) (rest := []) (wc := [(o, .inr (4, [.ref sa, .ref la, .ref e, .ref d, .int dr, .int sf, .long nw, .long ls])), (sa, .inl (κ.z 3, nS, .inr (.inr (.inr (.inr fs)))))]) (wr := []) (c_M_serverOrNullB κ.l κ.D κ.z o sa la e d dr sf nw ls nS fs s hb9) 0 rfl rfl m179 m180 m0 m30 (by decide +kernel) rfl (Nat.le_of_ble_eq_true rfl) ⟨by decide, by decide⟩ ⟨by decide, by decide⟩ rfl rfl m181 d_M_seal_2 (fun v w1 hg => ?_)
  obtain ⟨rfl, rfl⟩ := hg
  show V κ 9 0 0 5 [(0, .ref o), (1, .int s), (2, .long x), (4, .long y), (6, .long t)] [.null] [(o, .inr (4, [.ref sa, .ref la, .ref e, .ref d, .int dr, .int sf, .long nw, .long ls])), (sa, .inl (κ.z 3, nS, .inr (.inr (.inr (.inr fs)))))]
  refine v_astoreN X d_M_seal_5 (by decide) (lv' := [(8, .null), (0, .ref o), (1, .int s), (2, .long x), (4, .long y), (6, .long t)]) rfl ?_
  refine v_aloadN X 0 d_M_seal_7 rfl ?_
  refine v_ifnonnullN X d_M_seal_9 ?_
  refine v_iconst X 0 d_M_seal_12 (by decide) ?_
  exact v_iret X Y (by decide) (by decide) d_M_seal_13 ⟨rfl, rfl⟩

set_option maxHeartbeats 4000000 in
set_option maxRecDepth 100000 in
theorem c_M_askG (l : Launch) (D : va_G) (z : Nat → ClassId) (o : Nat) (sa : Nat) (la : Nat) (e : Nat) (d : Nat) (dr : Int32) (sf : Int32) (nw : Int64) (ls : Int64) (nS : Nat) (fs : Nat → Option Nat) (a : Nat) (b1 : Nat) (b2 : Nat) (b3 : Nat) (sec : Int64) (pen : Bool) (pst : Int64) (psi : Int64) (acc : Int64) (str : Int32) (ref : Int32) (rt : Int32) (sm : Nat) (lo : Nat → Int64) (hi : Nat → Int64) (ti : Nat → Int64) (i : Nat) (hi9 : i < nS) (hn9 : nS ≤ 6) (hf9 : fs i = some a) (hs8 : sm ≤ 8) : Ctr l D z y_M_ask b_M_ask 3 (some .long) { frames := 1, cells := 0, slots := 0, locals := 24 } [.ref o, .int (nI i)] [(o, .inr (4, [.ref sa, .ref la, .ref e, .ref d, .int dr, .int sf, .long nw, .long ls])), (sa, .inl (z 3, nS, .inr (.inr (.inr (.inr fs))))), (a, .inr (3, [.long sec, .int (bI pen), .long pst, .long psi, .long acc, .int str, .int ref, .int rt, .int (nI sm), .ref b1, .ref b2, .ref b3])), (b1, .inl (z 1, 8, .inr (.inl lo))), (b2, .inl (z 1, 8, .inr (.inl hi))), (b3, .inl (z 1, 8, .inr (.inl ti)))] (fun v w => v = some (.long (f_J_max_JJ nw (ls + 1))) ∧ w = [(o, .inr (4, [.ref sa, .ref la, .ref e, .ref d, .int dr, .int sf, .long nw, .long (f_J_max_JJ nw (ls + 1))])), (sa, .inl (z 3, nS, .inr (.inr (.inr (.inr fs))))), (a, .inr (3, [.long sec, .int (bI true), .long (f_J_max_JJ nw (ls + 1)), .long nw, .long acc, .int str, .int ref, .int rt, .int (nI sm), .ref b1, .ref b2, .ref b3])), (b1, .inl (z 1, 8, .inr (.inl lo))), (b2, .inl (z 1, 8, .inr (.inl hi))), (b3, .inl (z 1, 8, .inr (.inl ti)))]) 0 0 := by
  refine met_V (own := R_M) (nm := "ask") (by decide +kernel) rfl rfl (Nat.le_of_ble_eq_true rfl) ?_
  intro κ hl hD hz X Y
  subst hl
  subst hD
  subst hz
  show V κ 3 0 0 0 [(0, .ref o), (1, .int (nI i))] [] [(o, .inr (4, [.ref sa, .ref la, .ref e, .ref d, .int dr, .int sf, .long nw, .long ls])), (sa, .inl (κ.z 3, nS, .inr (.inr (.inr (.inr fs))))), (a, .inr (3, [.long sec, .int (bI pen), .long pst, .long psi, .long acc, .int str, .int ref, .int rt, .int (nI sm), .ref b1, .ref b2, .ref b3])), (b1, .inl (κ.z 1, 8, .inr (.inl lo))), (b2, .inl (κ.z 1, 8, .inr (.inl hi))), (b3, .inl (κ.z 1, 8, .inr (.inl ti)))]
  refine v_aload_n X 0 d_M_ask_0 rfl ?_
  refine v_iload_n X 1 d_M_ask_1 rfl ?_
  refine v_callV X (b := o) (n9 := 1) (As := [.int (nI i)]) (rest := []) (wc := [(o, .inr (4, [.ref sa, .ref la, .ref e, .ref d, .int dr, .int sf, .long nw, .long ls])), (sa, .inl (κ.z 3, nS, .inr (.inr (.inr (.inr fs)))))]) (wr := [(a, .inr (3, [.long sec, .int (bI pen), .long pst, .long psi, .long acc, .int str, .int ref, .int rt, .int (nI sm), .ref b1, .ref b2, .ref b3])), (b1, .inl (κ.z 1, 8, .inr (.inl lo))), (b2, .inl (κ.z 1, 8, .inr (.inl hi))), (b3, .inl (κ.z 1, 8, .inr (.inl ti)))]) (c_M_serverOrNullG κ.l κ.D κ.z o sa la e d dr sf nw ls nS fs i a hi9 hn9 hf9) 0 rfl rfl m179 m180 m0 m30 (by decide +kernel) rfl (Nat.le_of_ble_eq_true rfl) ⟨by decide, by decide⟩ ⟨by decide, by decide⟩ rfl rfl m181 d_M_ask_2 (fun v w1 hg => ?_)
  obtain ⟨rfl, rfl⟩ := hg
  show V κ 3 0 0 5 [(0, .ref o), (1, .int (nI i))] [.ref a] [(o, .inr (4, [.ref sa, .ref la, .ref e, .ref d, .int dr, .int sf, .long nw, .long ls])), (sa, .inl (κ.z 3, nS, .inr (.inr (.inr (.inr fs))))), (a, .inr (3, [.long sec, .int (bI pen), .long pst, .long psi, .long acc, .int str, .int ref, .int rt, .int (nI sm), .ref b1, .ref b2, .ref b3])), (b1, .inl (κ.z 1, 8, .inr (.inl lo))), (b2, .inl (κ.z 1, 8, .inr (.inl hi))), (b3, .inl (κ.z 1, 8, .inr (.inl ti)))]
  refine v_astore_n X d_M_ask_5 rfl (by decide) (lv' := [(2, .ref a), (0, .ref o), (1, .int (nI i))]) rfl ?_
  refine v_aload_n X 0 d_M_ask_6 rfl ?_
  refine v_ifnonnull X 14 d_M_ask_7 (by decide) ?_
  refine v_aload_n X 1 d_M_ask_14 rfl ?_
  refine v_aload_n X 1 d_M_ask_15 rfl ?_
  refine v_get X 0 6 rfl rfl li_M (by decide) m156 rfl d_M_ask_16 ?_
  refine v_aload_n X 1 d_M_ask_19 rfl ?_
  refine v_get X 0 7 rfl rfl li_M (by decide) m157 rfl d_M_ask_20 ?_
  refine v_lconst X 1 d_M_ask_23 (by decide) ?_
  refine v_ladd X d_M_ask_24 ?_
  refine v_callS X (n9 := 2) (As := [.long nw, .long (ls + 1)]) (rest := [.ref o]) (wc := []) (wr := [(o, .inr (4, [.ref sa, .ref la, .ref e, .ref d, .int dr, .int sf, .long nw, .long ls])), (sa, .inl (κ.z 3, nS, .inr (.inr (.inr (.inr fs))))), (a, .inr (3, [.long sec, .int (bI pen), .long pst, .long psi, .long acc, .int str, .int ref, .int rt, .int (nI sm), .ref b1, .ref b2, .ref b3])), (b1, .inl (κ.z 1, 8, .inr (.inl lo))), (b2, .inl (κ.z 1, 8, .inr (.inl hi))), (b3, .inl (κ.z 1, 8, .inr (.inl ti)))]) (c_J_max_JJ κ.l κ.D κ.z nw (ls + 1) ) m198 m199 m31 (by decide +kernel) rfl (Nat.le_of_ble_eq_true rfl) ⟨by decide, by decide⟩ ⟨by decide, by decide⟩ rfl rfl m200 d_M_ask_25 (fun v w1 hg => ?_)
  obtain ⟨rfl, rfl⟩ := hg
  show V κ 3 0 0 28 [(2, .ref a), (0, .ref o), (1, .int (nI i))] [.long (f_J_max_JJ nw (ls + 1)), .ref o] [(o, .inr (4, [.ref sa, .ref la, .ref e, .ref d, .int dr, .int sf, .long nw, .long ls])), (sa, .inl (κ.z 3, nS, .inr (.inr (.inr (.inr fs))))), (a, .inr (3, [.long sec, .int (bI pen), .long pst, .long psi, .long acc, .int str, .int ref, .int rt, .int (nI sm), .ref b1, .ref b2, .ref b3])), (b1, .inl (κ.z 1, 8, .inr (.inl lo))), (b2, .inl (κ.z 1, 8, .inr (.inl hi))), (b3, .inl (κ.z 1, 8, .inr (.inl ti)))]
  show V κ 3 0 0 28 [(2, .ref a), (0, .ref o), (1, .int (nI i))] [.long (f_J_max_JJ nw (ls + 1)), .ref o] [(o, .inr (4, [.ref sa, .ref la, .ref e, .ref d, .int dr, .int sf, .long nw, .long ls])), (sa, .inl (κ.z 3, nS, .inr (.inr (.inr (.inr fs))))), (a, .inr (3, [.long sec, .int (bI pen), .long pst, .long psi, .long acc, .int str, .int ref, .int rt, .int (nI sm), .ref b1, .ref b2, .ref b3])), (b1, .inl (κ.z 1, 8, .inr (.inl lo))), (b2, .inl (κ.z 1, 8, .inr (.inl hi))), (b3, .inl (κ.z 1, 8, .inr (.inl ti)))]
  refine v_put X 0 7 (v := .long (f_J_max_JJ nw (ls + 1))) (ty := .long) ty_M tk_M n_M rfl rfl li_M (by decide) m157 rfl (by decide +kernel) rfl rfl (Nat.le_of_ble_eq_true rfl) d_M_ask_28 (ws' := [(o, .inr (4, [.ref sa, .ref la, .ref e, .ref d, .int dr, .int sf, .long nw, .long (f_J_max_JJ nw (ls + 1))])), (sa, .inl (κ.z 3, nS, .inr (.inr (.inr (.inr fs))))), (a, .inr (3, [.long sec, .int (bI pen), .long pst, .long psi, .long acc, .int str, .int ref, .int rt, .int (nI sm), .ref b1, .ref b2, .ref b3])), (b1, .inl (κ.z 1, 8, .inr (.inl lo))), (b2, .inl (κ.z 1, 8, .inr (.inl hi))), (b3, .inl (κ.z 1, 8, .inr (.inl ti)))]) rfl ?_
  refine v_aload_n X 0 d_M_ask_31 rfl ?_
  refine v_aload_n X 1 d_M_ask_32 rfl ?_
  refine v_get X 0 7 rfl rfl li_M (by decide) m157 rfl d_M_ask_33 ?_
  refine v_aload_n X 1 d_M_ask_36 rfl ?_
  refine v_get X 0 6 rfl rfl li_M (by decide) m156 rfl d_M_ask_37 ?_
  refine v_perm (perm_idx (α := Nat × va_E) (ws := [(o, .inr (4, [.ref sa, .ref la, .ref e, .ref d, .int dr, .int sf, .long nw, .long (f_J_max_JJ nw (ls + 1))])), (sa, .inl (κ.z 3, nS, .inr (.inr (.inr (.inr fs))))), (a, .inr (3, [.long sec, .int (bI pen), .long pst, .long psi, .long acc, .int str, .int ref, .int rt, .int (nI sm), .ref b1, .ref b2, .ref b3])), (b1, .inl (κ.z 1, 8, .inr (.inl lo))), (b2, .inl (κ.z 1, 8, .inr (.inl hi))), (b3, .inl (κ.z 1, 8, .inr (.inl ti)))]) (ws' := [(a, .inr (3, [.long sec, .int (bI pen), .long pst, .long psi, .long acc, .int str, .int ref, .int rt, .int (nI sm), .ref b1, .ref b2, .ref b3])), (b1, .inl (κ.z 1, 8, .inr (.inl lo))), (b2, .inl (κ.z 1, 8, .inr (.inl hi))), (b3, .inl (κ.z 1, 8, .inr (.inl ti))), (o, .inr (4, [.ref sa, .ref la, .ref e, .ref d, .int dr, .int sf, .long nw, .long (f_J_max_JJ nw (ls + 1))])), (sa, .inl (κ.z 3, nS, .inr (.inr (.inr (.inr fs)))))]) [2, 3, 4, 5, 0, 1] rfl rfl) ?_
  refine v_callV X (b := a) (n9 := 2) (As := [.long (f_J_max_JJ nw (ls + 1)), .long nw]) (rest := []) (wc := [(a, .inr (3, [.long sec, .int (bI pen), .long pst, .long psi, .long acc, .int str, .int ref, .int rt, .int (nI sm), .ref b1, .ref b2, .ref b3])), (b1, .inl (κ.z 1, 8, .inr (.inl lo))), (b2, .inl (κ.z 1, 8, .inr (.inl hi))), (b3, .inl (κ.z 1, 8, .inr (.inl ti)))]) (wr := [(o, .inr (4, [.ref sa, .ref la, .ref e, .ref d, .int dr, .int sf, .long nw, .long (f_J_max_JJ nw (ls + 1))])), (sa, .inl (κ.z 3, nS, .inr (.inr (.inr (.inr fs)))))]) (c_Sv_expectReply κ.l κ.D κ.z a b1 b2 b3 sec pen pst psi acc str ref rt sm lo hi ti (f_J_max_JJ nw (ls + 1)) nw ) 0 rfl rfl m201 m202 m203 m32 (by decide +kernel) rfl (Nat.le_of_ble_eq_true rfl) ⟨by decide, by decide⟩ ⟨by decide, by decide⟩ rfl rfl m204 d_M_ask_40 (fun v w1 hg => ?_)
  obtain ⟨rfl, rfl⟩ := hg
  refine v_perm (perm_idx (α := Nat × va_E) (ws := [(a, .inr (3, [.long sec, .int (bI true), .long (f_J_max_JJ nw (ls + 1)), .long nw, .long acc, .int str, .int ref, .int rt, .int (nI sm), .ref b1, .ref b2, .ref b3])), (b1, .inl (κ.z 1, 8, .inr (.inl lo))), (b2, .inl (κ.z 1, 8, .inr (.inl hi))), (b3, .inl (κ.z 1, 8, .inr (.inl ti))), (o, .inr (4, [.ref sa, .ref la, .ref e, .ref d, .int dr, .int sf, .long nw, .long (f_J_max_JJ nw (ls + 1))])), (sa, .inl (κ.z 3, nS, .inr (.inr (.inr (.inr fs)))))]) (ws' := [(o, .inr (4, [.ref sa, .ref la, .ref e, .ref d, .int dr, .int sf, .long nw, .long (f_J_max_JJ nw (ls + 1))])), (sa, .inl (κ.z 3, nS, .inr (.inr (.inr (.inr fs))))), (a, .inr (3, [.long sec, .int (bI true), .long (f_J_max_JJ nw (ls + 1)), .long nw, .long acc, .int str, .int ref, .int rt, .int (nI sm), .ref b1, .ref b2, .ref b3])), (b1, .inl (κ.z 1, 8, .inr (.inl lo))), (b2, .inl (κ.z 1, 8, .inr (.inl hi))), (b3, .inl (κ.z 1, 8, .inr (.inl ti)))]) [4, 5, 0, 1, 2, 3] rfl rfl) ?_
  show V κ 3 0 0 43 [(2, .ref a), (0, .ref o), (1, .int (nI i))] [] [(o, .inr (4, [.ref sa, .ref la, .ref e, .ref d, .int dr, .int sf, .long nw, .long (f_J_max_JJ nw (ls + 1))])), (sa, .inl (κ.z 3, nS, .inr (.inr (.inr (.inr fs))))), (a, .inr (3, [.long sec, .int (bI true), .long (f_J_max_JJ nw (ls + 1)), .long nw, .long acc, .int str, .int ref, .int rt, .int (nI sm), .ref b1, .ref b2, .ref b3])), (b1, .inl (κ.z 1, 8, .inr (.inl lo))), (b2, .inl (κ.z 1, 8, .inr (.inl hi))), (b3, .inl (κ.z 1, 8, .inr (.inl ti)))]
  refine v_aload_n X 1 d_M_ask_43 rfl ?_
  refine v_get X 0 7 rfl rfl li_M (by decide) m157 rfl d_M_ask_44 ?_
  exact v_lret X Y (by decide) (by decide) d_M_ask_47 ⟨rfl, rfl⟩

set_option maxHeartbeats 4000000 in
set_option maxRecDepth 100000 in
theorem c_M_askB (l : Launch) (D : va_G) (z : Nat → ClassId) (o : Nat) (sa : Nat) (la : Nat) (e : Nat) (d : Nat) (dr : Int32) (sf : Int32) (nw : Int64) (ls : Int64) (nS : Nat) (fs : Nat → Option Nat) (s : Int32) (hb9 : ¬ s < 0 → ¬ s < nI nS) : Ctr l D z y_M_ask b_M_ask 3 (some .long) { frames := 1, cells := 0, slots := 0, locals := 24 } [.ref o, .int s] [(o, .inr (4, [.ref sa, .ref la, .ref e, .ref d, .int dr, .int sf, .long nw, .long ls])), (sa, .inl (z 3, nS, .inr (.inr (.inr (.inr fs)))))] (fun v w => v = some (.long (-4611686018427387904)) ∧ w = [(o, .inr (4, [.ref sa, .ref la, .ref e, .ref d, .int dr, .int sf, .long nw, .long ls])), (sa, .inl (z 3, nS, .inr (.inr (.inr (.inr fs)))))]) 0 0 := by
  refine met_V (own := R_M) (nm := "ask") (by decide +kernel) rfl rfl (Nat.le_of_ble_eq_true rfl) ?_
  intro κ hl hD hz X Y
  subst hl
  subst hD
  subst hz
  show V κ 3 0 0 0 [(0, .ref o), (1, .int s)] [] [(o, .inr (4, [.ref sa, .ref la, .ref e, .ref d, .int dr, .int sf, .long nw, .long ls])), (sa, .inl (κ.z 3, nS, .inr (.inr (.inr (.inr fs)))))]
  refine v_aload_n X 0 d_M_ask_0 rfl ?_
  refine v_iload_n X 1 d_M_ask_1 rfl ?_
  refine v_callV X (b := o) (n9 := 1) (As := [.int s]) (rest := []) (wc := [(o, .inr (4, [.ref sa, .ref la, .ref e, .ref d, .int dr, .int sf, .long nw, .long ls])), (sa, .inl (κ.z 3, nS, .inr (.inr (.inr (.inr fs)))))]) (wr := []) (c_M_serverOrNullB κ.l κ.D κ.z o sa la e d dr sf nw ls nS fs s hb9) 0 rfl rfl m179 m180 m0 m30 (by decide +kernel) rfl (Nat.le_of_ble_eq_true rfl) ⟨by decide, by decide⟩ ⟨by decide, by decide⟩ rfl rfl m181 d_M_ask_2 (fun v w1 hg => ?_)
  obtain ⟨rfl, rfl⟩ := hg
  show V κ 3 0 0 5 [(0, .ref o), (1, .int s)] [.null] [(o, .inr (4, [.ref sa, .ref la, .ref e, .ref d, .int dr, .int sf, .long nw, .long ls])), (sa, .inl (κ.z 3, nS, .inr (.inr (.inr (.inr fs)))))]
  refine v_astore_nN X d_M_ask_5 rfl (by decide) (lv' := [(2, .null), (0, .ref o), (1, .int s)]) rfl ?_
  refine v_aload_nN X 0 d_M_ask_6 rfl ?_
  refine v_ifnonnullN X d_M_ask_7 ?_
  refine v_ldc2 X (v := (-4611686018427387904)) m197 d_M_ask_10 ?_
  exact v_lret X Y (by decide) (by decide) d_M_ask_13 ⟨rfl, rfl⟩

def f_M_replyG (nw : Int64) (sec : Int64) (pen : Bool) (pst : Int64) (psi : Int64) (acc : Int64) (sm : Nat) (x : Int64) (y : Int64) (t : Int64) (u : Int32) : Int32 := if (f_M_isReplyTime y) = true then (if (f_M_isReplyTime t) = true then (if y ≤ t then (if u = (f_M_sealUnder sec x y t) then (if (f_Sv_acceptedLast acc sm x) = true then (-4) else (if (f_Sv_expects pen pst x) = true then (if (t - y) ≤ (nw - psi) then (nI (f_J_min_IIN (sm + 1) 8)) else (-6)) else (-5))) else (-3)) else (-2)) else (-2)) else (-2)
def f_M_replyG_Sv_pending (nw : Int64) (sec : Int64) (pen : Bool) (pst : Int64) (psi : Int64) (acc : Int64) (sm : Nat) (x : Int64) (y : Int64) (t : Int64) (u : Int32) : Bool := if (f_M_isReplyTime y) = true then (if (f_M_isReplyTime t) = true then (if y ≤ t then (if u = (f_M_sealUnder sec x y t) then (if (f_Sv_acceptedLast acc sm x) = true then pen else (if (f_Sv_expects pen pst x) = true then (if (t - y) ≤ (nw - psi) then false else pen) else pen)) else pen) else pen) else pen) else pen
def f_M_replyG_Sv_acceptedOrigin (nw : Int64) (sec : Int64) (pen : Bool) (pst : Int64) (psi : Int64) (acc : Int64) (sm : Nat) (x : Int64) (y : Int64) (t : Int64) (u : Int32) : Int64 := if (f_M_isReplyTime y) = true then if (f_M_isReplyTime t) = true then if y ≤ t then if u = (f_M_sealUnder sec x y t) then if (f_Sv_acceptedLast acc sm x) = true then acc else if (f_Sv_expects pen pst x) = true then if (t - y) ≤ (nw - psi) then x else acc else acc else acc else acc else acc else acc
def f_M_replyG_Sv_samples (nw : Int64) (sec : Int64) (pen : Bool) (pst : Int64) (psi : Int64) (acc : Int64) (sm : Nat) (x : Int64) (y : Int64) (t : Int64) (u : Int32) : Nat := if (f_M_isReplyTime y) = true then (if (f_M_isReplyTime t) = true then (if y ≤ t then (if u = (f_M_sealUnder sec x y t) then (if (f_Sv_acceptedLast acc sm x) = true then sm else (if (f_Sv_expects pen pst x) = true then (if (t - y) ≤ (nw - psi) then (f_J_min_IIN (sm + 1) 8) else sm) else sm)) else sm) else sm) else sm) else sm
def f_M_replyG_r3 (nw : Int64) (sec : Int64) (pen : Bool) (pst : Int64) (psi : Int64) (acc : Int64) (sm : Nat) (lo : Nat → Int64) (hi : Nat → Int64) (ti : Nat → Int64) (x : Int64) (y : Int64) (t : Int64) (u : Int32) : Nat → Int64 := if (f_M_isReplyTime y) = true then if (f_M_isReplyTime t) = true then if y ≤ t then if u = (f_M_sealUnder sec x y t) then if (f_Sv_acceptedLast acc sm x) = true then lo else if (f_Sv_expects pen pst x) = true then if (t - y) ≤ (nw - psi) then f_Sv_accept_r1 sm lo hi ti t nw else lo else lo else lo else lo else lo else lo
def f_M_replyG_r4 (nw : Int64) (sec : Int64) (pen : Bool) (pst : Int64) (psi : Int64) (acc : Int64) (sm : Nat) (lo : Nat → Int64) (hi : Nat → Int64) (ti : Nat → Int64) (x : Int64) (y : Int64) (t : Int64) (u : Int32) : Nat → Int64 := if (f_M_isReplyTime y) = true then if (f_M_isReplyTime t) = true then if y ≤ t then if u = (f_M_sealUnder sec x y t) then if (f_Sv_acceptedLast acc sm x) = true then hi else if (f_Sv_expects pen pst x) = true then if (t - y) ≤ (nw - psi) then f_Sv_accept_r2 psi sm lo hi ti y else hi else hi else hi else hi else hi else hi
def f_M_replyG_r5 (nw : Int64) (sec : Int64) (pen : Bool) (pst : Int64) (psi : Int64) (acc : Int64) (sm : Nat) (lo : Nat → Int64) (hi : Nat → Int64) (ti : Nat → Int64) (x : Int64) (y : Int64) (t : Int64) (u : Int32) : Nat → Int64 := if (f_M_isReplyTime y) = true then if (f_M_isReplyTime t) = true then if y ≤ t then if u = (f_M_sealUnder sec x y t) then if (f_Sv_acceptedLast acc sm x) = true then ti else if (f_Sv_expects pen pst x) = true then if (t - y) ≤ (nw - psi) then f_Sv_accept_r3 sm lo hi ti nw else ti else ti else ti else ti else ti else ti
set_option maxHeartbeats 4000000 in
set_option maxRecDepth 100000 in
theorem c_M_replyG (l : Launch) (D : va_G) (z : Nat → ClassId) (o : Nat) (sa : Nat) (la : Nat) (e : Nat) (d : Nat) (dr : Int32) (sf : Int32) (nw : Int64) (ls : Int64) (nS : Nat) (fs : Nat → Option Nat) (a : Nat) (b1 : Nat) (b2 : Nat) (b3 : Nat) (sec : Int64) (pen : Bool) (pst : Int64) (psi : Int64) (acc : Int64) (str : Int32) (ref : Int32) (rt : Int32) (sm : Nat) (lo : Nat → Int64) (hi : Nat → Int64) (ti : Nat → Int64) (i : Nat) (x : Int64) (y : Int64) (t : Int64) (u : Int32) (hi9 : i < nS) (hn9 : nS ≤ 6) (hf9 : fs i = some a) (hs8 : sm ≤ 8) : Ctr l D z y_M_reply b_M_reply 10 (some .int) { frames := 3, cells := 0, slots := 0, locals := 70 } [.ref o, .int (nI i), .long x, .long y, .long t, .int u] [(o, .inr (4, [.ref sa, .ref la, .ref e, .ref d, .int dr, .int sf, .long nw, .long ls])), (sa, .inl (z 3, nS, .inr (.inr (.inr (.inr fs))))), (a, .inr (3, [.long sec, .int (bI pen), .long pst, .long psi, .long acc, .int str, .int ref, .int rt, .int (nI sm), .ref b1, .ref b2, .ref b3])), (b1, .inl (z 1, 8, .inr (.inl lo))), (b2, .inl (z 1, 8, .inr (.inl hi))), (b3, .inl (z 1, 8, .inr (.inl ti)))] (fun v w => v = some (.int (f_M_replyG nw sec pen pst psi acc sm x y t u)) ∧ w = [(o, .inr (4, [.ref sa, .ref la, .ref e, .ref d, .int dr, .int sf, .long nw, .long ls])), (sa, .inl (z 3, nS, .inr (.inr (.inr (.inr fs))))), (a, .inr (3, [.long sec, .int (bI (f_M_replyG_Sv_pending nw sec pen pst psi acc sm x y t u)), .long pst, .long psi, .long (f_M_replyG_Sv_acceptedOrigin nw sec pen pst psi acc sm x y t u), .int str, .int ref, .int rt, .int (nI (f_M_replyG_Sv_samples nw sec pen pst psi acc sm x y t u)), .ref b1, .ref b2, .ref b3])), (b1, .inl (z 1, 8, .inr (.inl (f_M_replyG_r3 nw sec pen pst psi acc sm lo hi ti x y t u)))), (b2, .inl (z 1, 8, .inr (.inl (f_M_replyG_r4 nw sec pen pst psi acc sm lo hi ti x y t u)))), (b3, .inl (z 1, 8, .inr (.inl (f_M_replyG_r5 nw sec pen pst psi acc sm lo hi ti x y t u))))]) 0 0 := by
  refine met_V (own := R_M) (nm := "reply") (by decide +kernel) rfl rfl (Nat.le_of_ble_eq_true rfl) ?_
  intro κ hl hD hz X Y
  subst hl
  subst hD
  subst hz
  show V κ 10 0 0 0 [(0, .ref o), (1, .int (nI i)), (2, .long x), (4, .long y), (6, .long t), (8, .int u)] [] [(o, .inr (4, [.ref sa, .ref la, .ref e, .ref d, .int dr, .int sf, .long nw, .long ls])), (sa, .inl (κ.z 3, nS, .inr (.inr (.inr (.inr fs))))), (a, .inr (3, [.long sec, .int (bI pen), .long pst, .long psi, .long acc, .int str, .int ref, .int rt, .int (nI sm), .ref b1, .ref b2, .ref b3])), (b1, .inl (κ.z 1, 8, .inr (.inl lo))), (b2, .inl (κ.z 1, 8, .inr (.inl hi))), (b3, .inl (κ.z 1, 8, .inr (.inl ti)))]
  refine v_aload_n X 0 d_M_reply_0 rfl ?_
  refine v_iload_n X 1 d_M_reply_1 rfl ?_
  refine v_callV X (b := o) (n9 := 1) (As := [.int (nI i)]) (rest := []) (wc := [(o, .inr (4, [.ref sa, .ref la, .ref e, .ref d, .int dr, .int sf, .long nw, .long ls])), (sa, .inl (κ.z 3, nS, .inr (.inr (.inr (.inr fs)))))]) (wr := [(a, .inr (3, [.long sec, .int (bI pen), .long pst, .long psi, .long acc, .int str, .int ref, .int rt, .int (nI sm), .ref b1, .ref b2, .ref b3])), (b1, .inl (κ.z 1, 8, .inr (.inl lo))), (b2, .inl (κ.z 1, 8, .inr (.inl hi))), (b3, .inl (κ.z 1, 8, .inr (.inl ti)))]) (c_M_serverOrNullG κ.l κ.D κ.z o sa la e d dr sf nw ls nS fs i a hi9 hn9 hf9) 0 rfl rfl m179 m180 m0 m30 (by decide +kernel) rfl (Nat.le_of_ble_eq_true rfl) ⟨by decide, by decide⟩ ⟨by decide, by decide⟩ rfl rfl m181 d_M_reply_2 (fun v w1 hg => ?_)
  obtain ⟨rfl, rfl⟩ := hg
  show V κ 10 0 0 5 [(0, .ref o), (1, .int (nI i)), (2, .long x), (4, .long y), (6, .long t), (8, .int u)] [.ref a] [(o, .inr (4, [.ref sa, .ref la, .ref e, .ref d, .int dr, .int sf, .long nw, .long ls])), (sa, .inl (κ.z 3, nS, .inr (.inr (.inr (.inr fs))))), (a, .inr (3, [.long sec, .int (bI pen), .long pst, .long psi, .long acc, .int str, .int ref, .int rt, .int (nI sm), .ref b1, .ref b2, .ref b3])), (b1, .inl (κ.z 1, 8, .inr (.inl lo))), (b2, .inl (κ.z 1, 8, .inr (.inl hi))), (b3, .inl (κ.z 1, 8, .inr (.inl ti)))]
  refine v_astore X d_M_reply_5 (by decide) (lv' := [(9, .ref a), (0, .ref o), (1, .int (nI i)), (2, .long x), (4, .long y), (6, .long t), (8, .int u)]) rfl ?_
  refine v_aload X 0 d_M_reply_7 rfl ?_
  refine v_ifnonnull X 14 d_M_reply_9 (by decide) ?_
  refine v_lload X 4 d_M_reply_14 rfl ?_
  refine v_callS X (n9 := 1) (As := [.long y]) (rest := []) (wc := []) (wr := [(o, .inr (4, [.ref sa, .ref la, .ref e, .ref d, .int dr, .int sf, .long nw, .long ls])), (sa, .inl (κ.z 3, nS, .inr (.inr (.inr (.inr fs))))), (a, .inr (3, [.long sec, .int (bI pen), .long pst, .long psi, .long acc, .int str, .int ref, .int rt, .int (nI sm), .ref b1, .ref b2, .ref b3])), (b1, .inl (κ.z 1, 8, .inr (.inl lo))), (b2, .inl (κ.z 1, 8, .inr (.inl hi))), (b3, .inl (κ.z 1, 8, .inr (.inl ti)))]) (c_M_isReplyTime κ.l κ.D κ.z y ) m209 m210 m30 (by decide +kernel) rfl (Nat.le_of_ble_eq_true rfl) ⟨by decide, by decide⟩ ⟨by decide, by decide⟩ rfl rfl m211 d_M_reply_16 (fun v w1 hg => ?_)
  obtain ⟨rfl, rfl⟩ := hg
  show V κ 10 0 0 19 [(9, .ref a), (0, .ref o), (1, .int (nI i)), (2, .long x), (4, .long y), (6, .long t), (8, .int u)] [.int (bI (f_M_isReplyTime y))] [(o, .inr (4, [.ref sa, .ref la, .ref e, .ref d, .int dr, .int sf, .long nw, .long ls])), (sa, .inl (κ.z 3, nS, .inr (.inr (.inr (.inr fs))))), (a, .inr (3, [.long sec, .int (bI pen), .long pst, .long psi, .long acc, .int str, .int ref, .int rt, .int (nI sm), .ref b1, .ref b2, .ref b3])), (b1, .inl (κ.z 1, 8, .inr (.inl lo))), (b2, .inl (κ.z 1, 8, .inr (.inl hi))), (b3, .inl (κ.z 1, 8, .inr (.inl ti)))]
  refine v_ifB_eq X 38 (t := f_M_isReplyTime y) d_M_reply_19 (by decide) (fun c19 => ?_) (fun c19 => ?_)
  · skip
    refine v_bipush X (-2) d_M_reply_38 (by decide) ?_
    exact v_iret X Y (by decide) (by decide) d_M_reply_40 ⟨by simp only [f_M_replyG, f_M_replyG_Sv_pending, f_M_replyG_Sv_acceptedOrigin, f_M_replyG_Sv_samples, f_M_replyG_r3, f_M_replyG_r4, f_M_replyG_r5, if_neg c19] <;> rfl, by simp only [f_M_replyG, f_M_replyG_Sv_pending, f_M_replyG_Sv_acceptedOrigin, f_M_replyG_Sv_samples, f_M_replyG_r3, f_M_replyG_r4, f_M_replyG_r5, if_neg c19] <;> rfl⟩
  · skip
    refine v_lload X 5 d_M_reply_22 rfl ?_
    refine v_callS X (n9 := 1) (As := [.long t]) (rest := []) (wc := []) (wr := [(o, .inr (4, [.ref sa, .ref la, .ref e, .ref d, .int dr, .int sf, .long nw, .long ls])), (sa, .inl (κ.z 3, nS, .inr (.inr (.inr (.inr fs))))), (a, .inr (3, [.long sec, .int (bI pen), .long pst, .long psi, .long acc, .int str, .int ref, .int rt, .int (nI sm), .ref b1, .ref b2, .ref b3])), (b1, .inl (κ.z 1, 8, .inr (.inl lo))), (b2, .inl (κ.z 1, 8, .inr (.inl hi))), (b3, .inl (κ.z 1, 8, .inr (.inl ti)))]) (c_M_isReplyTime κ.l κ.D κ.z t ) m209 m210 m30 (by decide +kernel) rfl (Nat.le_of_ble_eq_true rfl) ⟨by decide, by decide⟩ ⟨by decide, by decide⟩ rfl rfl m211 d_M_reply_24 (fun v w1 hg => ?_)
    obtain ⟨rfl, rfl⟩ := hg
    show V κ 10 0 0 27 [(9, .ref a), (0, .ref o), (1, .int (nI i)), (2, .long x), (4, .long y), (6, .long t), (8, .int u)] [.int (bI (f_M_isReplyTime t))] [(o, .inr (4, [.ref sa, .ref la, .ref e, .ref d, .int dr, .int sf, .long nw, .long ls])), (sa, .inl (κ.z 3, nS, .inr (.inr (.inr (.inr fs))))), (a, .inr (3, [.long sec, .int (bI pen), .long pst, .long psi, .long acc, .int str, .int ref, .int rt, .int (nI sm), .ref b1, .ref b2, .ref b3])), (b1, .inl (κ.z 1, 8, .inr (.inl lo))), (b2, .inl (κ.z 1, 8, .inr (.inl hi))), (b3, .inl (κ.z 1, 8, .inr (.inl ti)))]
    refine v_ifB_eq X 38 (t := f_M_isReplyTime t) d_M_reply_27 (by decide) (fun c27 => ?_) (fun c27 => ?_)
    · skip
      refine v_bipush X (-2) d_M_reply_38 (by decide) ?_
      exact v_iret X Y (by decide) (by decide) d_M_reply_40 ⟨by simp only [f_M_replyG, f_M_replyG_Sv_pending, f_M_replyG_Sv_acceptedOrigin, f_M_replyG_Sv_samples, f_M_replyG_r3, f_M_replyG_r4, f_M_replyG_r5, if_pos c19, if_neg c27] <;> rfl, by simp only [f_M_replyG, f_M_replyG_Sv_pending, f_M_replyG_Sv_acceptedOrigin, f_M_replyG_Sv_samples, f_M_replyG_r3, f_M_replyG_r4, f_M_replyG_r5, if_pos c19, if_neg c27] <;> rfl⟩
    · skip
      refine v_lload X 4 d_M_reply_30 rfl ?_
      refine v_lload X 5 d_M_reply_32 rfl ?_
      refine v_lcmp_le X 41 d_M_reply_34 d_M_reply_35 (by decide) (fun c34 => ?_) (fun c34 => ?_)
      · skip
        refine v_iload X 6 d_M_reply_41 rfl ?_
        refine v_aload X 0 d_M_reply_43 rfl ?_
        refine v_get X 2 0 rfl rfl li_Sv (by decide) m57 rfl d_M_reply_45 ?_
        refine v_lload_n X 3 d_M_reply_48 rfl ?_
        refine v_lload X 4 d_M_reply_49 rfl ?_
        refine v_lload X 5 d_M_reply_51 rfl ?_
        refine v_callS X (n9 := 4) (As := [.long sec, .long x, .long y, .long t]) (rest := [.int u]) (wc := []) (wr := [(o, .inr (4, [.ref sa, .ref la, .ref e, .ref d, .int dr, .int sf, .long nw, .long ls])), (sa, .inl (κ.z 3, nS, .inr (.inr (.inr (.inr fs))))), (a, .inr (3, [.long sec, .int (bI pen), .long pst, .long psi, .long acc, .int str, .int ref, .int rt, .int (nI sm), .ref b1, .ref b2, .ref b3])), (b1, .inl (κ.z 1, 8, .inr (.inl lo))), (b2, .inl (κ.z 1, 8, .inr (.inl hi))), (b3, .inl (κ.z 1, 8, .inr (.inl ti)))]) (c_M_sealUnder κ.l κ.D κ.z sec x y t ) m186 m187 m30 (by decide +kernel) rfl (Nat.le_of_ble_eq_true rfl) ⟨by decide, by decide⟩ ⟨by decide, by decide⟩ rfl rfl m188 d_M_reply_53 (fun v w1 hg => ?_)
        obtain ⟨rfl, rfl⟩ := hg
        show V κ 10 0 0 56 [(9, .ref a), (0, .ref o), (1, .int (nI i)), (2, .long x), (4, .long y), (6, .long t), (8, .int u)] [.int (f_M_sealUnder sec x y t), .int u] [(o, .inr (4, [.ref sa, .ref la, .ref e, .ref d, .int dr, .int sf, .long nw, .long ls])), (sa, .inl (κ.z 3, nS, .inr (.inr (.inr (.inr fs))))), (a, .inr (3, [.long sec, .int (bI pen), .long pst, .long psi, .long acc, .int str, .int ref, .int rt, .int (nI sm), .ref b1, .ref b2, .ref b3])), (b1, .inl (κ.z 1, 8, .inr (.inl lo))), (b2, .inl (κ.z 1, 8, .inr (.inl hi))), (b3, .inl (κ.z 1, 8, .inr (.inl ti)))]
        refine v_icmp_eq X 62 d_M_reply_56 (by decide) (fun c56 => ?_) (fun c56 => ?_)
        · skip
          refine v_aload X 0 d_M_reply_62 rfl ?_
          refine v_lload_n X 3 d_M_reply_64 rfl ?_
          refine v_perm (perm_idx (α := Nat × va_E) (ws := [(o, .inr (4, [.ref sa, .ref la, .ref e, .ref d, .int dr, .int sf, .long nw, .long ls])), (sa, .inl (κ.z 3, nS, .inr (.inr (.inr (.inr fs))))), (a, .inr (3, [.long sec, .int (bI pen), .long pst, .long psi, .long acc, .int str, .int ref, .int rt, .int (nI sm), .ref b1, .ref b2, .ref b3])), (b1, .inl (κ.z 1, 8, .inr (.inl lo))), (b2, .inl (κ.z 1, 8, .inr (.inl hi))), (b3, .inl (κ.z 1, 8, .inr (.inl ti)))]) (ws' := [(a, .inr (3, [.long sec, .int (bI pen), .long pst, .long psi, .long acc, .int str, .int ref, .int rt, .int (nI sm), .ref b1, .ref b2, .ref b3])), (b1, .inl (κ.z 1, 8, .inr (.inl lo))), (b2, .inl (κ.z 1, 8, .inr (.inl hi))), (b3, .inl (κ.z 1, 8, .inr (.inl ti))), (o, .inr (4, [.ref sa, .ref la, .ref e, .ref d, .int dr, .int sf, .long nw, .long ls])), (sa, .inl (κ.z 3, nS, .inr (.inr (.inr (.inr fs)))))]) [2, 3, 4, 5, 0, 1] rfl rfl) ?_
          refine v_callV X (b := a) (n9 := 1) (As := [.long x]) (rest := []) (wc := [(a, .inr (3, [.long sec, .int (bI pen), .long pst, .long psi, .long acc, .int str, .int ref, .int rt, .int (nI sm), .ref b1, .ref b2, .ref b3])), (b1, .inl (κ.z 1, 8, .inr (.inl lo))), (b2, .inl (κ.z 1, 8, .inr (.inl hi))), (b3, .inl (κ.z 1, 8, .inr (.inl ti)))]) (wr := [(o, .inr (4, [.ref sa, .ref la, .ref e, .ref d, .int dr, .int sf, .long nw, .long ls])), (sa, .inl (κ.z 3, nS, .inr (.inr (.inr (.inr fs)))))]) (c_Sv_acceptedLast κ.l κ.D κ.z a b1 b2 b3 sec pen pst psi acc str ref rt sm lo hi ti x (by omega)) 0 rfl rfl m213 m214 m215 m32 (by decide +kernel) rfl (Nat.le_of_ble_eq_true rfl) ⟨by decide, by decide⟩ ⟨by decide, by decide⟩ rfl rfl m216 d_M_reply_65 (fun v w1 hg => ?_)
          obtain ⟨rfl, rfl⟩ := hg
          refine v_perm (perm_idx (α := Nat × va_E) (ws := [(a, .inr (3, [.long sec, .int (bI pen), .long pst, .long psi, .long acc, .int str, .int ref, .int rt, .int (nI sm), .ref b1, .ref b2, .ref b3])), (b1, .inl (κ.z 1, 8, .inr (.inl lo))), (b2, .inl (κ.z 1, 8, .inr (.inl hi))), (b3, .inl (κ.z 1, 8, .inr (.inl ti))), (o, .inr (4, [.ref sa, .ref la, .ref e, .ref d, .int dr, .int sf, .long nw, .long ls])), (sa, .inl (κ.z 3, nS, .inr (.inr (.inr (.inr fs)))))]) (ws' := [(o, .inr (4, [.ref sa, .ref la, .ref e, .ref d, .int dr, .int sf, .long nw, .long ls])), (sa, .inl (κ.z 3, nS, .inr (.inr (.inr (.inr fs))))), (a, .inr (3, [.long sec, .int (bI pen), .long pst, .long psi, .long acc, .int str, .int ref, .int rt, .int (nI sm), .ref b1, .ref b2, .ref b3])), (b1, .inl (κ.z 1, 8, .inr (.inl lo))), (b2, .inl (κ.z 1, 8, .inr (.inl hi))), (b3, .inl (κ.z 1, 8, .inr (.inl ti)))]) [4, 5, 0, 1, 2, 3] rfl rfl) ?_
          show V κ 10 0 0 68 [(9, .ref a), (0, .ref o), (1, .int (nI i)), (2, .long x), (4, .long y), (6, .long t), (8, .int u)] [.int (bI (f_Sv_acceptedLast acc sm x))] [(o, .inr (4, [.ref sa, .ref la, .ref e, .ref d, .int dr, .int sf, .long nw, .long ls])), (sa, .inl (κ.z 3, nS, .inr (.inr (.inr (.inr fs))))), (a, .inr (3, [.long sec, .int (bI pen), .long pst, .long psi, .long acc, .int str, .int ref, .int rt, .int (nI sm), .ref b1, .ref b2, .ref b3])), (b1, .inl (κ.z 1, 8, .inr (.inl lo))), (b2, .inl (κ.z 1, 8, .inr (.inl hi))), (b3, .inl (κ.z 1, 8, .inr (.inl ti)))]
          refine v_ifB_eq X 74 (t := f_Sv_acceptedLast acc sm x) d_M_reply_68 (by decide) (fun c68 => ?_) (fun c68 => ?_)
          · skip
            refine v_aload X 0 d_M_reply_74 rfl ?_
            refine v_lload_n X 3 d_M_reply_76 rfl ?_
            refine v_perm (perm_idx (α := Nat × va_E) (ws := [(o, .inr (4, [.ref sa, .ref la, .ref e, .ref d, .int dr, .int sf, .long nw, .long ls])), (sa, .inl (κ.z 3, nS, .inr (.inr (.inr (.inr fs))))), (a, .inr (3, [.long sec, .int (bI pen), .long pst, .long psi, .long acc, .int str, .int ref, .int rt, .int (nI sm), .ref b1, .ref b2, .ref b3])), (b1, .inl (κ.z 1, 8, .inr (.inl lo))), (b2, .inl (κ.z 1, 8, .inr (.inl hi))), (b3, .inl (κ.z 1, 8, .inr (.inl ti)))]) (ws' := [(a, .inr (3, [.long sec, .int (bI pen), .long pst, .long psi, .long acc, .int str, .int ref, .int rt, .int (nI sm), .ref b1, .ref b2, .ref b3])), (b1, .inl (κ.z 1, 8, .inr (.inl lo))), (b2, .inl (κ.z 1, 8, .inr (.inl hi))), (b3, .inl (κ.z 1, 8, .inr (.inl ti))), (o, .inr (4, [.ref sa, .ref la, .ref e, .ref d, .int dr, .int sf, .long nw, .long ls])), (sa, .inl (κ.z 3, nS, .inr (.inr (.inr (.inr fs)))))]) [2, 3, 4, 5, 0, 1] rfl rfl) ?_
            refine v_callV X (b := a) (n9 := 1) (As := [.long x]) (rest := []) (wc := [(a, .inr (3, [.long sec, .int (bI pen), .long pst, .long psi, .long acc, .int str, .int ref, .int rt, .int (nI sm), .ref b1, .ref b2, .ref b3])), (b1, .inl (κ.z 1, 8, .inr (.inl lo))), (b2, .inl (κ.z 1, 8, .inr (.inl hi))), (b3, .inl (κ.z 1, 8, .inr (.inl ti)))]) (wr := [(o, .inr (4, [.ref sa, .ref la, .ref e, .ref d, .int dr, .int sf, .long nw, .long ls])), (sa, .inl (κ.z 3, nS, .inr (.inr (.inr (.inr fs)))))]) (c_Sv_expects κ.l κ.D κ.z a b1 b2 b3 sec pen pst psi acc str ref rt sm lo hi ti x (by omega)) 0 rfl rfl m217 m218 m219 m32 (by decide +kernel) rfl (Nat.le_of_ble_eq_true rfl) ⟨by decide, by decide⟩ ⟨by decide, by decide⟩ rfl rfl m220 d_M_reply_77 (fun v w1 hg => ?_)
            obtain ⟨rfl, rfl⟩ := hg
            refine v_perm (perm_idx (α := Nat × va_E) (ws := [(a, .inr (3, [.long sec, .int (bI pen), .long pst, .long psi, .long acc, .int str, .int ref, .int rt, .int (nI sm), .ref b1, .ref b2, .ref b3])), (b1, .inl (κ.z 1, 8, .inr (.inl lo))), (b2, .inl (κ.z 1, 8, .inr (.inl hi))), (b3, .inl (κ.z 1, 8, .inr (.inl ti))), (o, .inr (4, [.ref sa, .ref la, .ref e, .ref d, .int dr, .int sf, .long nw, .long ls])), (sa, .inl (κ.z 3, nS, .inr (.inr (.inr (.inr fs)))))]) (ws' := [(o, .inr (4, [.ref sa, .ref la, .ref e, .ref d, .int dr, .int sf, .long nw, .long ls])), (sa, .inl (κ.z 3, nS, .inr (.inr (.inr (.inr fs))))), (a, .inr (3, [.long sec, .int (bI pen), .long pst, .long psi, .long acc, .int str, .int ref, .int rt, .int (nI sm), .ref b1, .ref b2, .ref b3])), (b1, .inl (κ.z 1, 8, .inr (.inl lo))), (b2, .inl (κ.z 1, 8, .inr (.inl hi))), (b3, .inl (κ.z 1, 8, .inr (.inl ti)))]) [4, 5, 0, 1, 2, 3] rfl rfl) ?_
            show V κ 10 0 0 80 [(9, .ref a), (0, .ref o), (1, .int (nI i)), (2, .long x), (4, .long y), (6, .long t), (8, .int u)] [.int (bI (f_Sv_expects pen pst x))] [(o, .inr (4, [.ref sa, .ref la, .ref e, .ref d, .int dr, .int sf, .long nw, .long ls])), (sa, .inl (κ.z 3, nS, .inr (.inr (.inr (.inr fs))))), (a, .inr (3, [.long sec, .int (bI pen), .long pst, .long psi, .long acc, .int str, .int ref, .int rt, .int (nI sm), .ref b1, .ref b2, .ref b3])), (b1, .inl (κ.z 1, 8, .inr (.inl lo))), (b2, .inl (κ.z 1, 8, .inr (.inl hi))), (b3, .inl (κ.z 1, 8, .inr (.inl ti)))]
            refine v_ifB_ne X 86 (t := f_Sv_expects pen pst x) d_M_reply_80 (by decide) (fun c80 => ?_) (fun c80 => ?_)
            · skip
              refine v_lload X 5 d_M_reply_86 rfl ?_
              refine v_lload X 4 d_M_reply_88 rfl ?_
              refine v_lsub X d_M_reply_90 ?_
              refine v_aload_n X 1 d_M_reply_91 rfl ?_
              refine v_get X 0 6 rfl rfl li_M (by decide) m156 rfl d_M_reply_92 ?_
              refine v_aload X 0 d_M_reply_95 rfl ?_
              refine v_get X 2 3 rfl rfl li_Sv (by decide) m61 rfl d_M_reply_97 ?_
              refine v_lsub X d_M_reply_100 ?_
              refine v_lcmp_le X 108 d_M_reply_101 d_M_reply_102 (by decide) (fun c101 => ?_) (fun c101 => ?_)
              · skip
                refine v_aload X 0 d_M_reply_108 rfl ?_
                refine v_lload_n X 3 d_M_reply_110 rfl ?_
                refine v_lload X 4 d_M_reply_111 rfl ?_
                refine v_lload X 5 d_M_reply_113 rfl ?_
                refine v_aload_n X 1 d_M_reply_115 rfl ?_
                refine v_get X 0 6 rfl rfl li_M (by decide) m156 rfl d_M_reply_116 ?_
                refine v_perm (perm_idx (α := Nat × va_E) (ws := [(o, .inr (4, [.ref sa, .ref la, .ref e, .ref d, .int dr, .int sf, .long nw, .long ls])), (sa, .inl (κ.z 3, nS, .inr (.inr (.inr (.inr fs))))), (a, .inr (3, [.long sec, .int (bI pen), .long pst, .long psi, .long acc, .int str, .int ref, .int rt, .int (nI sm), .ref b1, .ref b2, .ref b3])), (b1, .inl (κ.z 1, 8, .inr (.inl lo))), (b2, .inl (κ.z 1, 8, .inr (.inl hi))), (b3, .inl (κ.z 1, 8, .inr (.inl ti)))]) (ws' := [(a, .inr (3, [.long sec, .int (bI pen), .long pst, .long psi, .long acc, .int str, .int ref, .int rt, .int (nI sm), .ref b1, .ref b2, .ref b3])), (b1, .inl (κ.z 1, 8, .inr (.inl lo))), (b2, .inl (κ.z 1, 8, .inr (.inl hi))), (b3, .inl (κ.z 1, 8, .inr (.inl ti))), (o, .inr (4, [.ref sa, .ref la, .ref e, .ref d, .int dr, .int sf, .long nw, .long ls])), (sa, .inl (κ.z 3, nS, .inr (.inr (.inr (.inr fs)))))]) [2, 3, 4, 5, 0, 1] rfl rfl) ?_
                refine v_callV X (b := a) (n9 := 4) (As := [.long x, .long y, .long t, .long nw]) (rest := []) (wc := [(a, .inr (3, [.long sec, .int (bI pen), .long pst, .long psi, .long acc, .int str, .int ref, .int rt, .int (nI sm), .ref b1, .ref b2, .ref b3])), (b1, .inl (κ.z 1, 8, .inr (.inl lo))), (b2, .inl (κ.z 1, 8, .inr (.inl hi))), (b3, .inl (κ.z 1, 8, .inr (.inl ti)))]) (wr := [(o, .inr (4, [.ref sa, .ref la, .ref e, .ref d, .int dr, .int sf, .long nw, .long ls])), (sa, .inl (κ.z 3, nS, .inr (.inr (.inr (.inr fs)))))]) (c_Sv_accept κ.l κ.D κ.z a b1 b2 b3 sec pen pst psi acc str ref rt sm lo hi ti x y t nw (by omega)) 0 rfl rfl m221 m222 m223 m32 (by decide +kernel) rfl (Nat.le_of_ble_eq_true rfl) ⟨by decide, by decide⟩ ⟨by decide, by decide⟩ rfl rfl m224 d_M_reply_119 (fun v w1 hg => ?_)
                obtain ⟨rfl, rfl⟩ := hg
                refine v_perm (perm_idx (α := Nat × va_E) (ws := [(a, .inr (3, [.long sec, .int (bI false), .long pst, .long psi, .long x, .int str, .int ref, .int rt, .int (nI (f_J_min_IIN (sm + 1) 8)), .ref b1, .ref b2, .ref b3])), (b1, .inl (κ.z 1, 8, .inr (.inl (f_Sv_accept_r1 sm lo hi ti t nw)))), (b2, .inl (κ.z 1, 8, .inr (.inl (f_Sv_accept_r2 psi sm lo hi ti y)))), (b3, .inl (κ.z 1, 8, .inr (.inl (f_Sv_accept_r3 sm lo hi ti nw)))), (o, .inr (4, [.ref sa, .ref la, .ref e, .ref d, .int dr, .int sf, .long nw, .long ls])), (sa, .inl (κ.z 3, nS, .inr (.inr (.inr (.inr fs)))))]) (ws' := [(o, .inr (4, [.ref sa, .ref la, .ref e, .ref d, .int dr, .int sf, .long nw, .long ls])), (sa, .inl (κ.z 3, nS, .inr (.inr (.inr (.inr fs))))), (a, .inr (3, [.long sec, .int (bI false), .long pst, .long psi, .long x, .int str, .int ref, .int rt, .int (nI (f_J_min_IIN (sm + 1) 8)), .ref b1, .ref b2, .ref b3])), (b1, .inl (κ.z 1, 8, .inr (.inl (f_Sv_accept_r1 sm lo hi ti t nw)))), (b2, .inl (κ.z 1, 8, .inr (.inl (f_Sv_accept_r2 psi sm lo hi ti y)))), (b3, .inl (κ.z 1, 8, .inr (.inl (f_Sv_accept_r3 sm lo hi ti nw))))]) [4, 5, 0, 1, 2, 3] rfl rfl) ?_
                show V κ 10 0 0 122 [(9, .ref a), (0, .ref o), (1, .int (nI i)), (2, .long x), (4, .long y), (6, .long t), (8, .int u)] [] [(o, .inr (4, [.ref sa, .ref la, .ref e, .ref d, .int dr, .int sf, .long nw, .long ls])), (sa, .inl (κ.z 3, nS, .inr (.inr (.inr (.inr fs))))), (a, .inr (3, [.long sec, .int (bI false), .long pst, .long psi, .long x, .int str, .int ref, .int rt, .int (nI (f_J_min_IIN (sm + 1) 8)), .ref b1, .ref b2, .ref b3])), (b1, .inl (κ.z 1, 8, .inr (.inl (f_Sv_accept_r1 sm lo hi ti t nw)))), (b2, .inl (κ.z 1, 8, .inr (.inl (f_Sv_accept_r2 psi sm lo hi ti y)))), (b3, .inl (κ.z 1, 8, .inr (.inl (f_Sv_accept_r3 sm lo hi ti nw))))]
                refine v_aload X 0 d_M_reply_122 rfl ?_
                refine v_get X 2 8 rfl rfl li_Sv (by decide) m69 rfl d_M_reply_124 ?_
                exact v_iret X Y (by decide) (by decide) d_M_reply_127 ⟨by simp only [f_M_replyG, f_M_replyG_Sv_pending, f_M_replyG_Sv_acceptedOrigin, f_M_replyG_Sv_samples, f_M_replyG_r3, f_M_replyG_r4, f_M_replyG_r5, if_pos c19, if_pos c27, if_pos c34, if_pos c56, if_neg c68, if_pos c80, if_pos c101] <;> rfl, by simp only [f_M_replyG, f_M_replyG_Sv_pending, f_M_replyG_Sv_acceptedOrigin, f_M_replyG_Sv_samples, f_M_replyG_r3, f_M_replyG_r4, f_M_replyG_r5, if_pos c19, if_pos c27, if_pos c34, if_pos c56, if_neg c68, if_pos c80, if_pos c101] <;> rfl⟩
              · skip
                refine v_bipush X (-6) d_M_reply_105 (by decide) ?_
                exact v_iret X Y (by decide) (by decide) d_M_reply_107 ⟨by simp only [f_M_replyG, f_M_replyG_Sv_pending, f_M_replyG_Sv_acceptedOrigin, f_M_replyG_Sv_samples, f_M_replyG_r3, f_M_replyG_r4, f_M_replyG_r5, if_pos c19, if_pos c27, if_pos c34, if_pos c56, if_neg c68, if_pos c80, if_neg c101] <;> rfl, by simp only [f_M_replyG, f_M_replyG_Sv_pending, f_M_replyG_Sv_acceptedOrigin, f_M_replyG_Sv_samples, f_M_replyG_r3, f_M_replyG_r4, f_M_replyG_r5, if_pos c19, if_pos c27, if_pos c34, if_pos c56, if_neg c68, if_pos c80, if_neg c101] <;> rfl⟩
            · skip
              refine v_bipush X (-5) d_M_reply_83 (by decide) ?_
              exact v_iret X Y (by decide) (by decide) d_M_reply_85 ⟨by simp only [f_M_replyG, f_M_replyG_Sv_pending, f_M_replyG_Sv_acceptedOrigin, f_M_replyG_Sv_samples, f_M_replyG_r3, f_M_replyG_r4, f_M_replyG_r5, if_pos c19, if_pos c27, if_pos c34, if_pos c56, if_neg c68, if_neg c80] <;> rfl, by simp only [f_M_replyG, f_M_replyG_Sv_pending, f_M_replyG_Sv_acceptedOrigin, f_M_replyG_Sv_samples, f_M_replyG_r3, f_M_replyG_r4, f_M_replyG_r5, if_pos c19, if_pos c27, if_pos c34, if_pos c56, if_neg c68, if_neg c80] <;> rfl⟩
          · skip
            refine v_bipush X (-4) d_M_reply_71 (by decide) ?_
            exact v_iret X Y (by decide) (by decide) d_M_reply_73 ⟨by simp only [f_M_replyG, f_M_replyG_Sv_pending, f_M_replyG_Sv_acceptedOrigin, f_M_replyG_Sv_samples, f_M_replyG_r3, f_M_replyG_r4, f_M_replyG_r5, if_pos c19, if_pos c27, if_pos c34, if_pos c56, if_pos c68] <;> rfl, by simp only [f_M_replyG, f_M_replyG_Sv_pending, f_M_replyG_Sv_acceptedOrigin, f_M_replyG_Sv_samples, f_M_replyG_r3, f_M_replyG_r4, f_M_replyG_r5, if_pos c19, if_pos c27, if_pos c34, if_pos c56, if_pos c68] <;> rfl⟩
        · skip
          refine v_bipush X (-3) d_M_reply_59 (by decide) ?_
          exact v_iret X Y (by decide) (by decide) d_M_reply_61 ⟨by simp only [f_M_replyG, f_M_replyG_Sv_pending, f_M_replyG_Sv_acceptedOrigin, f_M_replyG_Sv_samples, f_M_replyG_r3, f_M_replyG_r4, f_M_replyG_r5, if_pos c19, if_pos c27, if_pos c34, if_neg c56] <;> rfl, by simp only [f_M_replyG, f_M_replyG_Sv_pending, f_M_replyG_Sv_acceptedOrigin, f_M_replyG_Sv_samples, f_M_replyG_r3, f_M_replyG_r4, f_M_replyG_r5, if_pos c19, if_pos c27, if_pos c34, if_neg c56] <;> rfl⟩
      · skip
        refine v_bipush X (-2) d_M_reply_38 (by decide) ?_
        exact v_iret X Y (by decide) (by decide) d_M_reply_40 ⟨by simp only [f_M_replyG, f_M_replyG_Sv_pending, f_M_replyG_Sv_acceptedOrigin, f_M_replyG_Sv_samples, f_M_replyG_r3, f_M_replyG_r4, f_M_replyG_r5, if_pos c19, if_pos c27, if_neg c34] <;> rfl, by simp only [f_M_replyG, f_M_replyG_Sv_pending, f_M_replyG_Sv_acceptedOrigin, f_M_replyG_Sv_samples, f_M_replyG_r3, f_M_replyG_r4, f_M_replyG_r5, if_pos c19, if_pos c27, if_neg c34] <;> rfl⟩

set_option maxHeartbeats 4000000 in
set_option maxRecDepth 100000 in
theorem c_M_replyB (l : Launch) (D : va_G) (z : Nat → ClassId) (o : Nat) (sa : Nat) (la : Nat) (e : Nat) (d : Nat) (dr : Int32) (sf : Int32) (nw : Int64) (ls : Int64) (nS : Nat) (fs : Nat → Option Nat) (s : Int32) (x : Int64) (y : Int64) (t : Int64) (u : Int32) (hb9 : ¬ s < 0 → ¬ s < nI nS) : Ctr l D z y_M_reply b_M_reply 10 (some .int) { frames := 3, cells := 0, slots := 0, locals := 70 } [.ref o, .int s, .long x, .long y, .long t, .int u] [(o, .inr (4, [.ref sa, .ref la, .ref e, .ref d, .int dr, .int sf, .long nw, .long ls])), (sa, .inl (z 3, nS, .inr (.inr (.inr (.inr fs)))))] (fun v w => v = some (.int (-1 : Int32)) ∧ w = [(o, .inr (4, [.ref sa, .ref la, .ref e, .ref d, .int dr, .int sf, .long nw, .long ls])), (sa, .inl (z 3, nS, .inr (.inr (.inr (.inr fs)))))]) 0 0 := by
  refine met_V (own := R_M) (nm := "reply") (by decide +kernel) rfl rfl (Nat.le_of_ble_eq_true rfl) ?_
  intro κ hl hD hz X Y
  subst hl
  subst hD
  subst hz
  show V κ 10 0 0 0 [(0, .ref o), (1, .int s), (2, .long x), (4, .long y), (6, .long t), (8, .int u)] [] [(o, .inr (4, [.ref sa, .ref la, .ref e, .ref d, .int dr, .int sf, .long nw, .long ls])), (sa, .inl (κ.z 3, nS, .inr (.inr (.inr (.inr fs)))))]
  refine v_aload_n X 0 d_M_reply_0 rfl ?_
  refine v_iload_n X 1 d_M_reply_1 rfl ?_
  refine v_callV X (b := o) (n9 := 1) (As := [.int s]) (rest := []) (wc := [(o, .inr (4, [.ref sa, .ref la, .ref e, .ref d, .int dr, .int sf, .long nw, .long ls])), (sa, .inl (κ.z 3, nS, .inr (.inr (.inr (.inr fs)))))]) (wr := []) (c_M_serverOrNullB κ.l κ.D κ.z o sa la e d dr sf nw ls nS fs s hb9) 0 rfl rfl m179 m180 m0 m30 (by decide +kernel) rfl (Nat.le_of_ble_eq_true rfl) ⟨by decide, by decide⟩ ⟨by decide, by decide⟩ rfl rfl m181 d_M_reply_2 (fun v w1 hg => ?_)
  obtain ⟨rfl, rfl⟩ := hg
  show V κ 10 0 0 5 [(0, .ref o), (1, .int s), (2, .long x), (4, .long y), (6, .long t), (8, .int u)] [.null] [(o, .inr (4, [.ref sa, .ref la, .ref e, .ref d, .int dr, .int sf, .long nw, .long ls])), (sa, .inl (κ.z 3, nS, .inr (.inr (.inr (.inr fs)))))]
  refine v_astoreN X d_M_reply_5 (by decide) (lv' := [(9, .null), (0, .ref o), (1, .int s), (2, .long x), (4, .long y), (6, .long t), (8, .int u)]) rfl ?_
  refine v_aloadN X 0 d_M_reply_7 rfl ?_
  refine v_ifnonnullN X d_M_reply_9 ?_
  refine v_iconst X (-1) d_M_reply_12 (by decide) ?_
  exact v_iret X Y (by decide) (by decide) d_M_reply_13 ⟨rfl, rfl⟩

def f_M_tellG (x : Int32) (t : Int32) : Bool := if x < 1 then false else (if 16 < x then false else (if t < 0 then false else (if t ≤ 1000000 then true else false)))
def f_M_tellG_Sv_toldStratum (str : Int32) (x : Int32) (t : Int32) : Int32 := if x < 1 then str else (if 16 < x then str else (if t < 0 then str else (if t ≤ 1000000 then x else str)))
def f_M_tellG_Sv_toldReference (ref : Int32) (x : Int32) (y : Int32) (t : Int32) : Int32 := if x < 1 then ref else (if 16 < x then ref else (if t < 0 then ref else (if t ≤ 1000000 then y else ref)))
def f_M_tellG_Sv_toldRoot (rt : Int32) (x : Int32) (t : Int32) : Int32 := if x < 1 then rt else (if 16 < x then rt else (if t < 0 then rt else (if t ≤ 1000000 then t else rt)))
set_option maxHeartbeats 4000000 in
set_option maxRecDepth 100000 in
theorem c_M_tellG (l : Launch) (D : va_G) (z : Nat → ClassId) (o : Nat) (sa : Nat) (la : Nat) (e : Nat) (d : Nat) (dr : Int32) (sf : Int32) (nw : Int64) (ls : Int64) (nS : Nat) (fs : Nat → Option Nat) (a : Nat) (b1 : Nat) (b2 : Nat) (b3 : Nat) (sec : Int64) (pen : Bool) (pst : Int64) (psi : Int64) (acc : Int64) (str : Int32) (ref : Int32) (rt : Int32) (sm : Nat) (lo : Nat → Int64) (hi : Nat → Int64) (ti : Nat → Int64) (i : Nat) (x : Int32) (y : Int32) (t : Int32) (hi9 : i < nS) (hn9 : nS ≤ 6) (hf9 : fs i = some a) (hs8 : sm ≤ 8) : Ctr l D z y_M_tell b_M_tell 6 (some .boolean) { frames := 1, cells := 0, slots := 0, locals := 21 } [.ref o, .int (nI i), .int x, .int y, .int t] [(o, .inr (4, [.ref sa, .ref la, .ref e, .ref d, .int dr, .int sf, .long nw, .long ls])), (sa, .inl (z 3, nS, .inr (.inr (.inr (.inr fs))))), (a, .inr (3, [.long sec, .int (bI pen), .long pst, .long psi, .long acc, .int str, .int ref, .int rt, .int (nI sm), .ref b1, .ref b2, .ref b3])), (b1, .inl (z 1, 8, .inr (.inl lo))), (b2, .inl (z 1, 8, .inr (.inl hi))), (b3, .inl (z 1, 8, .inr (.inl ti)))] (fun v w => v = some (.int (bI (f_M_tellG x t))) ∧ w = [(o, .inr (4, [.ref sa, .ref la, .ref e, .ref d, .int dr, .int sf, .long nw, .long ls])), (sa, .inl (z 3, nS, .inr (.inr (.inr (.inr fs))))), (a, .inr (3, [.long sec, .int (bI pen), .long pst, .long psi, .long acc, .int (f_M_tellG_Sv_toldStratum str x t), .int (f_M_tellG_Sv_toldReference ref x y t), .int (f_M_tellG_Sv_toldRoot rt x t), .int (nI sm), .ref b1, .ref b2, .ref b3])), (b1, .inl (z 1, 8, .inr (.inl lo))), (b2, .inl (z 1, 8, .inr (.inl hi))), (b3, .inl (z 1, 8, .inr (.inl ti)))]) 0 0 := by
  refine met_V (own := R_M) (nm := "tell") (by decide +kernel) rfl rfl (Nat.le_of_ble_eq_true rfl) ?_
  intro κ hl hD hz X Y
  subst hl
  subst hD
  subst hz
  show V κ 6 0 0 0 [(0, .ref o), (1, .int (nI i)), (2, .int x), (3, .int y), (4, .int t)] [] [(o, .inr (4, [.ref sa, .ref la, .ref e, .ref d, .int dr, .int sf, .long nw, .long ls])), (sa, .inl (κ.z 3, nS, .inr (.inr (.inr (.inr fs))))), (a, .inr (3, [.long sec, .int (bI pen), .long pst, .long psi, .long acc, .int str, .int ref, .int rt, .int (nI sm), .ref b1, .ref b2, .ref b3])), (b1, .inl (κ.z 1, 8, .inr (.inl lo))), (b2, .inl (κ.z 1, 8, .inr (.inl hi))), (b3, .inl (κ.z 1, 8, .inr (.inl ti)))]
  refine v_aload_n X 0 d_M_tell_0 rfl ?_
  refine v_iload_n X 1 d_M_tell_1 rfl ?_
  refine v_callV X (b := o) (n9 := 1) (As := [.int (nI i)]) (rest := []) (wc := [(o, .inr (4, [.ref sa, .ref la, .ref e, .ref d, .int dr, .int sf, .long nw, .long ls])), (sa, .inl (κ.z 3, nS, .inr (.inr (.inr (.inr fs)))))]) (wr := [(a, .inr (3, [.long sec, .int (bI pen), .long pst, .long psi, .long acc, .int str, .int ref, .int rt, .int (nI sm), .ref b1, .ref b2, .ref b3])), (b1, .inl (κ.z 1, 8, .inr (.inl lo))), (b2, .inl (κ.z 1, 8, .inr (.inl hi))), (b3, .inl (κ.z 1, 8, .inr (.inl ti)))]) (c_M_serverOrNullG κ.l κ.D κ.z o sa la e d dr sf nw ls nS fs i a hi9 hn9 hf9) 0 rfl rfl m179 m180 m0 m30 (by decide +kernel) rfl (Nat.le_of_ble_eq_true rfl) ⟨by decide, by decide⟩ ⟨by decide, by decide⟩ rfl rfl m181 d_M_tell_2 (fun v w1 hg => ?_)
  obtain ⟨rfl, rfl⟩ := hg
  show V κ 6 0 0 5 [(0, .ref o), (1, .int (nI i)), (2, .int x), (3, .int y), (4, .int t)] [.ref a] [(o, .inr (4, [.ref sa, .ref la, .ref e, .ref d, .int dr, .int sf, .long nw, .long ls])), (sa, .inl (κ.z 3, nS, .inr (.inr (.inr (.inr fs))))), (a, .inr (3, [.long sec, .int (bI pen), .long pst, .long psi, .long acc, .int str, .int ref, .int rt, .int (nI sm), .ref b1, .ref b2, .ref b3])), (b1, .inl (κ.z 1, 8, .inr (.inl lo))), (b2, .inl (κ.z 1, 8, .inr (.inl hi))), (b3, .inl (κ.z 1, 8, .inr (.inl ti)))]
  refine v_astore X d_M_tell_5 (by decide) (lv' := [(5, .ref a), (0, .ref o), (1, .int (nI i)), (2, .int x), (3, .int y), (4, .int t)]) rfl ?_
  refine v_aload X 0 d_M_tell_7 rfl ?_
  refine v_ifnull X d_M_tell_9 ?_
  refine v_iload_n X 3 d_M_tell_12 rfl ?_
  refine v_iconst X 1 d_M_tell_13 (by decide) ?_
  refine v_icmp_lt X 35 d_M_tell_14 (by decide) (fun c14 => ?_) (fun c14 => ?_)
  · skip
    refine v_iconst X 0 d_M_tell_35 (by decide) ?_
    exact v_zret X Y (by decide) (by decide) d_M_tell_36 rfl ⟨by simp only [f_M_tellG, f_M_tellG_Sv_toldStratum, f_M_tellG_Sv_toldReference, f_M_tellG_Sv_toldRoot, if_pos c14] <;> rfl, by simp only [f_M_tellG, f_M_tellG_Sv_toldStratum, f_M_tellG_Sv_toldReference, f_M_tellG_Sv_toldRoot, if_pos c14] <;> rfl⟩
  · skip
    refine v_iload_n X 3 d_M_tell_17 rfl ?_
    refine v_bipush X 16 d_M_tell_18 (by decide) ?_
    refine v_icmp_gt X 35 d_M_tell_20 (by decide) (fun c20 => ?_) (fun c20 => ?_)
    · skip
      refine v_iconst X 0 d_M_tell_35 (by decide) ?_
      exact v_zret X Y (by decide) (by decide) d_M_tell_36 rfl ⟨by simp only [f_M_tellG, f_M_tellG_Sv_toldStratum, f_M_tellG_Sv_toldReference, f_M_tellG_Sv_toldRoot, if_neg c14, if_pos c20] <;> rfl, by simp only [f_M_tellG, f_M_tellG_Sv_toldStratum, f_M_tellG_Sv_toldReference, f_M_tellG_Sv_toldRoot, if_neg c14, if_pos c20] <;> rfl⟩
    · skip
      refine v_iload X 5 d_M_tell_23 rfl ?_
      refine v_if_lt X 35 d_M_tell_25 (by decide) (fun c25 => ?_) (fun c25 => ?_)
      · skip
        refine v_iconst X 0 d_M_tell_35 (by decide) ?_
        exact v_zret X Y (by decide) (by decide) d_M_tell_36 rfl ⟨by simp only [f_M_tellG, f_M_tellG_Sv_toldStratum, f_M_tellG_Sv_toldReference, f_M_tellG_Sv_toldRoot, if_neg c14, if_neg c20, if_pos c25] <;> rfl, by simp only [f_M_tellG, f_M_tellG_Sv_toldStratum, f_M_tellG_Sv_toldReference, f_M_tellG_Sv_toldRoot, if_neg c14, if_neg c20, if_pos c25] <;> rfl⟩
      · skip
        refine v_iload X 5 d_M_tell_28 rfl ?_
        refine v_ldc X (v := 1000000) m170 d_M_tell_30 ?_
        refine v_icmp_le X 37 d_M_tell_32 (by decide) (fun c32 => ?_) (fun c32 => ?_)
        · skip
          refine v_aload X 0 d_M_tell_37 rfl ?_
          refine v_iload_n X 3 d_M_tell_39 rfl ?_
          refine v_put X 2 5 (v := .int x) (ty := .int) ty_Sv tk_Sv n_Sv rfl rfl li_Sv (by decide) m64 rfl (by decide +kernel) rfl rfl (Nat.le_of_ble_eq_true rfl) d_M_tell_40 (ws' := [(o, .inr (4, [.ref sa, .ref la, .ref e, .ref d, .int dr, .int sf, .long nw, .long ls])), (sa, .inl (κ.z 3, nS, .inr (.inr (.inr (.inr fs))))), (a, .inr (3, [.long sec, .int (bI pen), .long pst, .long psi, .long acc, .int x, .int ref, .int rt, .int (nI sm), .ref b1, .ref b2, .ref b3])), (b1, .inl (κ.z 1, 8, .inr (.inl lo))), (b2, .inl (κ.z 1, 8, .inr (.inl hi))), (b3, .inl (κ.z 1, 8, .inr (.inl ti)))]) rfl ?_
          refine v_aload X 0 d_M_tell_43 rfl ?_
          refine v_iload_n X 4 d_M_tell_45 rfl ?_
          refine v_put X 2 6 (v := .int y) (ty := .int) ty_Sv tk_Sv n_Sv rfl rfl li_Sv (by decide) m65 rfl (by decide +kernel) rfl rfl (Nat.le_of_ble_eq_true rfl) d_M_tell_46 (ws' := [(o, .inr (4, [.ref sa, .ref la, .ref e, .ref d, .int dr, .int sf, .long nw, .long ls])), (sa, .inl (κ.z 3, nS, .inr (.inr (.inr (.inr fs))))), (a, .inr (3, [.long sec, .int (bI pen), .long pst, .long psi, .long acc, .int x, .int y, .int rt, .int (nI sm), .ref b1, .ref b2, .ref b3])), (b1, .inl (κ.z 1, 8, .inr (.inl lo))), (b2, .inl (κ.z 1, 8, .inr (.inl hi))), (b3, .inl (κ.z 1, 8, .inr (.inl ti)))]) rfl ?_
          refine v_aload X 0 d_M_tell_49 rfl ?_
          refine v_iload X 5 d_M_tell_51 rfl ?_
          refine v_put X 2 7 (v := .int t) (ty := .int) ty_Sv tk_Sv n_Sv rfl rfl li_Sv (by decide) m66 rfl (by decide +kernel) rfl rfl (Nat.le_of_ble_eq_true rfl) d_M_tell_53 (ws' := [(o, .inr (4, [.ref sa, .ref la, .ref e, .ref d, .int dr, .int sf, .long nw, .long ls])), (sa, .inl (κ.z 3, nS, .inr (.inr (.inr (.inr fs))))), (a, .inr (3, [.long sec, .int (bI pen), .long pst, .long psi, .long acc, .int x, .int y, .int t, .int (nI sm), .ref b1, .ref b2, .ref b3])), (b1, .inl (κ.z 1, 8, .inr (.inl lo))), (b2, .inl (κ.z 1, 8, .inr (.inl hi))), (b3, .inl (κ.z 1, 8, .inr (.inl ti)))]) rfl ?_
          refine v_iconst X 1 d_M_tell_56 (by decide) ?_
          exact v_zret X Y (by decide) (by decide) d_M_tell_57 rfl ⟨by simp only [f_M_tellG, f_M_tellG_Sv_toldStratum, f_M_tellG_Sv_toldReference, f_M_tellG_Sv_toldRoot, if_neg c14, if_neg c20, if_neg c25, if_pos c32] <;> rfl, by simp only [f_M_tellG, f_M_tellG_Sv_toldStratum, f_M_tellG_Sv_toldReference, f_M_tellG_Sv_toldRoot, if_neg c14, if_neg c20, if_neg c25, if_pos c32] <;> rfl⟩
        · skip
          refine v_iconst X 0 d_M_tell_35 (by decide) ?_
          exact v_zret X Y (by decide) (by decide) d_M_tell_36 rfl ⟨by simp only [f_M_tellG, f_M_tellG_Sv_toldStratum, f_M_tellG_Sv_toldReference, f_M_tellG_Sv_toldRoot, if_neg c14, if_neg c20, if_neg c25, if_neg c32] <;> rfl, by simp only [f_M_tellG, f_M_tellG_Sv_toldStratum, f_M_tellG_Sv_toldReference, f_M_tellG_Sv_toldRoot, if_neg c14, if_neg c20, if_neg c25, if_neg c32] <;> rfl⟩

set_option maxHeartbeats 4000000 in
set_option maxRecDepth 100000 in
theorem c_M_tellB (l : Launch) (D : va_G) (z : Nat → ClassId) (o : Nat) (sa : Nat) (la : Nat) (e : Nat) (d : Nat) (dr : Int32) (sf : Int32) (nw : Int64) (ls : Int64) (nS : Nat) (fs : Nat → Option Nat) (s : Int32) (x : Int32) (y : Int32) (t : Int32) (hb9 : ¬ s < 0 → ¬ s < nI nS) : Ctr l D z y_M_tell b_M_tell 6 (some .boolean) { frames := 1, cells := 0, slots := 0, locals := 21 } [.ref o, .int s, .int x, .int y, .int t] [(o, .inr (4, [.ref sa, .ref la, .ref e, .ref d, .int dr, .int sf, .long nw, .long ls])), (sa, .inl (z 3, nS, .inr (.inr (.inr (.inr fs)))))] (fun v w => v = some (.int (bI false)) ∧ w = [(o, .inr (4, [.ref sa, .ref la, .ref e, .ref d, .int dr, .int sf, .long nw, .long ls])), (sa, .inl (z 3, nS, .inr (.inr (.inr (.inr fs)))))]) 0 0 := by
  refine met_V (own := R_M) (nm := "tell") (by decide +kernel) rfl rfl (Nat.le_of_ble_eq_true rfl) ?_
  intro κ hl hD hz X Y
  subst hl
  subst hD
  subst hz
  show V κ 6 0 0 0 [(0, .ref o), (1, .int s), (2, .int x), (3, .int y), (4, .int t)] [] [(o, .inr (4, [.ref sa, .ref la, .ref e, .ref d, .int dr, .int sf, .long nw, .long ls])), (sa, .inl (κ.z 3, nS, .inr (.inr (.inr (.inr fs)))))]
  refine v_aload_n X 0 d_M_tell_0 rfl ?_
  refine v_iload_n X 1 d_M_tell_1 rfl ?_
  refine v_callV X (b := o) (n9 := 1) (As := [.int s]) (rest := []) (wc := [(o, .inr (4, [.ref sa, .ref la, .ref e, .ref d, .int dr, .int sf, .long nw, .long ls])), (sa, .inl (κ.z 3, nS, .inr (.inr (.inr (.inr fs)))))]) (wr := []) (c_M_serverOrNullB κ.l κ.D κ.z o sa la e d dr sf nw ls nS fs s hb9) 0 rfl rfl m179 m180 m0 m30 (by decide +kernel) rfl (Nat.le_of_ble_eq_true rfl) ⟨by decide, by decide⟩ ⟨by decide, by decide⟩ rfl rfl m181 d_M_tell_2 (fun v w1 hg => ?_)
  obtain ⟨rfl, rfl⟩ := hg
  show V κ 6 0 0 5 [(0, .ref o), (1, .int s), (2, .int x), (3, .int y), (4, .int t)] [.null] [(o, .inr (4, [.ref sa, .ref la, .ref e, .ref d, .int dr, .int sf, .long nw, .long ls])), (sa, .inl (κ.z 3, nS, .inr (.inr (.inr (.inr fs)))))]
  refine v_astoreN X d_M_tell_5 (by decide) (lv' := [(5, .null), (0, .ref o), (1, .int s), (2, .int x), (3, .int y), (4, .int t)]) rfl ?_
  refine v_aloadN X 0 d_M_tell_7 rfl ?_
  refine v_ifnullN X 35 d_M_tell_9 (by decide) ?_
  refine v_iconst X 0 d_M_tell_35 (by decide) ?_
  exact v_zret X Y (by decide) (by decide) d_M_tell_36 rfl ⟨rfl, rfl⟩

def f_M_lowG (dr : Int32) (nw : Int64) (rt : Int32) (sm : Nat) (lo : Nat → Int64) (hi : Nat → Int64) (ti : Nat → Int64) : Int64 := if sm = 0 then (-4611686018427387904) else f_Sv_lowerEnd rt lo ti (shb rt lo hi ti nw dr (sm - 1)) nw dr
set_option maxHeartbeats 4000000 in
set_option maxRecDepth 100000 in
theorem c_M_lowG (l : Launch) (D : va_G) (z : Nat → ClassId) (o : Nat) (sa : Nat) (la : Nat) (e : Nat) (d : Nat) (dr : Int32) (sf : Int32) (nw : Int64) (ls : Int64) (nS : Nat) (fs : Nat → Option Nat) (a : Nat) (b1 : Nat) (b2 : Nat) (b3 : Nat) (sec : Int64) (pen : Bool) (pst : Int64) (psi : Int64) (acc : Int64) (str : Int32) (ref : Int32) (rt : Int32) (sm : Nat) (lo : Nat → Int64) (hi : Nat → Int64) (ti : Nat → Int64) (i : Nat) (hi9 : i < nS) (hn9 : nS ≤ 6) (hf9 : fs i = some a) (hs8 : sm ≤ 8) : Ctr l D z y_M_low b_M_low 3 (some .long) { frames := 5, cells := 0, slots := 0, locals := 120 } [.ref o, .int (nI i)] [(o, .inr (4, [.ref sa, .ref la, .ref e, .ref d, .int dr, .int sf, .long nw, .long ls])), (sa, .inl (z 3, nS, .inr (.inr (.inr (.inr fs))))), (a, .inr (3, [.long sec, .int (bI pen), .long pst, .long psi, .long acc, .int str, .int ref, .int rt, .int (nI sm), .ref b1, .ref b2, .ref b3])), (b1, .inl (z 1, 8, .inr (.inl lo))), (b2, .inl (z 1, 8, .inr (.inl hi))), (b3, .inl (z 1, 8, .inr (.inl ti)))] (fun v w => v = some (.long (f_M_lowG dr nw rt sm lo hi ti)) ∧ w = [(o, .inr (4, [.ref sa, .ref la, .ref e, .ref d, .int dr, .int sf, .long nw, .long ls])), (sa, .inl (z 3, nS, .inr (.inr (.inr (.inr fs))))), (a, .inr (3, [.long sec, .int (bI pen), .long pst, .long psi, .long acc, .int str, .int ref, .int rt, .int (nI sm), .ref b1, .ref b2, .ref b3])), (b1, .inl (z 1, 8, .inr (.inl lo))), (b2, .inl (z 1, 8, .inr (.inl hi))), (b3, .inl (z 1, 8, .inr (.inl ti)))]) 0 0 := by
  refine met_V (own := R_M) (nm := "low") (by decide +kernel) rfl rfl (Nat.le_of_ble_eq_true rfl) ?_
  intro κ hl hD hz X Y
  subst hl
  subst hD
  subst hz
  show V κ 3 0 0 0 [(0, .ref o), (1, .int (nI i))] [] [(o, .inr (4, [.ref sa, .ref la, .ref e, .ref d, .int dr, .int sf, .long nw, .long ls])), (sa, .inl (κ.z 3, nS, .inr (.inr (.inr (.inr fs))))), (a, .inr (3, [.long sec, .int (bI pen), .long pst, .long psi, .long acc, .int str, .int ref, .int rt, .int (nI sm), .ref b1, .ref b2, .ref b3])), (b1, .inl (κ.z 1, 8, .inr (.inl lo))), (b2, .inl (κ.z 1, 8, .inr (.inl hi))), (b3, .inl (κ.z 1, 8, .inr (.inl ti)))]
  refine v_aload_n X 0 d_M_low_0 rfl ?_
  refine v_iload_n X 1 d_M_low_1 rfl ?_
  refine v_callV X (b := o) (n9 := 1) (As := [.int (nI i)]) (rest := []) (wc := [(o, .inr (4, [.ref sa, .ref la, .ref e, .ref d, .int dr, .int sf, .long nw, .long ls])), (sa, .inl (κ.z 3, nS, .inr (.inr (.inr (.inr fs)))))]) (wr := [(a, .inr (3, [.long sec, .int (bI pen), .long pst, .long psi, .long acc, .int str, .int ref, .int rt, .int (nI sm), .ref b1, .ref b2, .ref b3])), (b1, .inl (κ.z 1, 8, .inr (.inl lo))), (b2, .inl (κ.z 1, 8, .inr (.inl hi))), (b3, .inl (κ.z 1, 8, .inr (.inl ti)))]) (c_M_serverOrNullG κ.l κ.D κ.z o sa la e d dr sf nw ls nS fs i a hi9 hn9 hf9) 0 rfl rfl m179 m180 m0 m30 (by decide +kernel) rfl (Nat.le_of_ble_eq_true rfl) ⟨by decide, by decide⟩ ⟨by decide, by decide⟩ rfl rfl m181 d_M_low_2 (fun v w1 hg => ?_)
  obtain ⟨rfl, rfl⟩ := hg
  show V κ 3 0 0 5 [(0, .ref o), (1, .int (nI i))] [.ref a] [(o, .inr (4, [.ref sa, .ref la, .ref e, .ref d, .int dr, .int sf, .long nw, .long ls])), (sa, .inl (κ.z 3, nS, .inr (.inr (.inr (.inr fs))))), (a, .inr (3, [.long sec, .int (bI pen), .long pst, .long psi, .long acc, .int str, .int ref, .int rt, .int (nI sm), .ref b1, .ref b2, .ref b3])), (b1, .inl (κ.z 1, 8, .inr (.inl lo))), (b2, .inl (κ.z 1, 8, .inr (.inl hi))), (b3, .inl (κ.z 1, 8, .inr (.inl ti)))]
  refine v_astore_n X d_M_low_5 rfl (by decide) (lv' := [(2, .ref a), (0, .ref o), (1, .int (nI i))]) rfl ?_
  refine v_aload_n X 0 d_M_low_6 rfl ?_
  refine v_ifnull X d_M_low_7 ?_
  refine v_aload_n X 0 d_M_low_10 rfl ?_
  refine v_get X 2 8 rfl rfl li_Sv (by decide) m69 rfl d_M_low_11 ?_
  refine v_ifN_ne X 21 (a := sm) d_M_low_14 (by decide) (by omega) (fun c14 => ?_) (fun c14 => ?_)
  · skip
    refine v_aload_n X 0 d_M_low_21 rfl ?_
    refine v_aload_n X 0 d_M_low_22 rfl ?_
    refine v_aload_n X 1 d_M_low_23 rfl ?_
    refine v_get X 0 6 rfl rfl li_M (by decide) m156 rfl d_M_low_24 ?_
    refine v_aload_n X 1 d_M_low_27 rfl ?_
    refine v_get X 0 4 rfl rfl li_M (by decide) m154 rfl d_M_low_28 ?_
    refine v_perm (perm_idx (α := Nat × va_E) (ws := [(o, .inr (4, [.ref sa, .ref la, .ref e, .ref d, .int dr, .int sf, .long nw, .long ls])), (sa, .inl (κ.z 3, nS, .inr (.inr (.inr (.inr fs))))), (a, .inr (3, [.long sec, .int (bI pen), .long pst, .long psi, .long acc, .int str, .int ref, .int rt, .int (nI sm), .ref b1, .ref b2, .ref b3])), (b1, .inl (κ.z 1, 8, .inr (.inl lo))), (b2, .inl (κ.z 1, 8, .inr (.inl hi))), (b3, .inl (κ.z 1, 8, .inr (.inl ti)))]) (ws' := [(a, .inr (3, [.long sec, .int (bI pen), .long pst, .long psi, .long acc, .int str, .int ref, .int rt, .int (nI sm), .ref b1, .ref b2, .ref b3])), (b1, .inl (κ.z 1, 8, .inr (.inl lo))), (b2, .inl (κ.z 1, 8, .inr (.inl hi))), (b3, .inl (κ.z 1, 8, .inr (.inl ti))), (o, .inr (4, [.ref sa, .ref la, .ref e, .ref d, .int dr, .int sf, .long nw, .long ls])), (sa, .inl (κ.z 3, nS, .inr (.inr (.inr (.inr fs)))))]) [2, 3, 4, 5, 0, 1] rfl rfl) ?_
    refine v_callV X (b := a) (n9 := 2) (As := [.long nw, .int dr]) (rest := [.ref a]) (wc := [(a, .inr (3, [.long sec, .int (bI pen), .long pst, .long psi, .long acc, .int str, .int ref, .int rt, .int (nI sm), .ref b1, .ref b2, .ref b3])), (b1, .inl (κ.z 1, 8, .inr (.inl lo))), (b2, .inl (κ.z 1, 8, .inr (.inl hi))), (b3, .inl (κ.z 1, 8, .inr (.inl ti)))]) (wr := [(o, .inr (4, [.ref sa, .ref la, .ref e, .ref d, .int dr, .int sf, .long nw, .long ls])), (sa, .inl (κ.z 3, nS, .inr (.inr (.inr (.inr fs)))))]) (c_Sv_shortestSample κ.l κ.D κ.z a b1 b2 b3 sec pen pst psi acc str ref rt sm lo hi ti nw dr (by omega) (by omega)) 0 rfl rfl m237 m238 m239 m32 (by decide +kernel) rfl (Nat.le_of_ble_eq_true rfl) ⟨by decide, by decide⟩ ⟨by decide, by decide⟩ rfl rfl m240 d_M_low_31 (fun v w1 hg => ?_)
    obtain ⟨rfl, rfl⟩ := hg
    refine v_perm (perm_idx (α := Nat × va_E) (ws := [(a, .inr (3, [.long sec, .int (bI pen), .long pst, .long psi, .long acc, .int str, .int ref, .int rt, .int (nI sm), .ref b1, .ref b2, .ref b3])), (b1, .inl (κ.z 1, 8, .inr (.inl lo))), (b2, .inl (κ.z 1, 8, .inr (.inl hi))), (b3, .inl (κ.z 1, 8, .inr (.inl ti))), (o, .inr (4, [.ref sa, .ref la, .ref e, .ref d, .int dr, .int sf, .long nw, .long ls])), (sa, .inl (κ.z 3, nS, .inr (.inr (.inr (.inr fs)))))]) (ws' := [(o, .inr (4, [.ref sa, .ref la, .ref e, .ref d, .int dr, .int sf, .long nw, .long ls])), (sa, .inl (κ.z 3, nS, .inr (.inr (.inr (.inr fs))))), (a, .inr (3, [.long sec, .int (bI pen), .long pst, .long psi, .long acc, .int str, .int ref, .int rt, .int (nI sm), .ref b1, .ref b2, .ref b3])), (b1, .inl (κ.z 1, 8, .inr (.inl lo))), (b2, .inl (κ.z 1, 8, .inr (.inl hi))), (b3, .inl (κ.z 1, 8, .inr (.inl ti)))]) [4, 5, 0, 1, 2, 3] rfl rfl) ?_
    show V κ 3 0 0 34 [(2, .ref a), (0, .ref o), (1, .int (nI i))] [.int (nI (shb rt lo hi ti nw dr (sm - 1))), .ref a] [(o, .inr (4, [.ref sa, .ref la, .ref e, .ref d, .int dr, .int sf, .long nw, .long ls])), (sa, .inl (κ.z 3, nS, .inr (.inr (.inr (.inr fs))))), (a, .inr (3, [.long sec, .int (bI pen), .long pst, .long psi, .long acc, .int str, .int ref, .int rt, .int (nI sm), .ref b1, .ref b2, .ref b3])), (b1, .inl (κ.z 1, 8, .inr (.inl lo))), (b2, .inl (κ.z 1, 8, .inr (.inl hi))), (b3, .inl (κ.z 1, 8, .inr (.inl ti)))]
    refine v_aload_n X 1 d_M_low_34 rfl ?_
    refine v_get X 0 6 rfl rfl li_M (by decide) m156 rfl d_M_low_35 ?_
    refine v_aload_n X 1 d_M_low_38 rfl ?_
    refine v_get X 0 4 rfl rfl li_M (by decide) m154 rfl d_M_low_39 ?_
    refine v_perm (perm_idx (α := Nat × va_E) (ws := [(o, .inr (4, [.ref sa, .ref la, .ref e, .ref d, .int dr, .int sf, .long nw, .long ls])), (sa, .inl (κ.z 3, nS, .inr (.inr (.inr (.inr fs))))), (a, .inr (3, [.long sec, .int (bI pen), .long pst, .long psi, .long acc, .int str, .int ref, .int rt, .int (nI sm), .ref b1, .ref b2, .ref b3])), (b1, .inl (κ.z 1, 8, .inr (.inl lo))), (b2, .inl (κ.z 1, 8, .inr (.inl hi))), (b3, .inl (κ.z 1, 8, .inr (.inl ti)))]) (ws' := [(a, .inr (3, [.long sec, .int (bI pen), .long pst, .long psi, .long acc, .int str, .int ref, .int rt, .int (nI sm), .ref b1, .ref b2, .ref b3])), (b1, .inl (κ.z 1, 8, .inr (.inl lo))), (b2, .inl (κ.z 1, 8, .inr (.inl hi))), (b3, .inl (κ.z 1, 8, .inr (.inl ti))), (o, .inr (4, [.ref sa, .ref la, .ref e, .ref d, .int dr, .int sf, .long nw, .long ls])), (sa, .inl (κ.z 3, nS, .inr (.inr (.inr (.inr fs)))))]) [2, 3, 4, 5, 0, 1] rfl rfl) ?_
    refine v_callV X (b := a) (n9 := 3) (As := [.int (nI (shb rt lo hi ti nw dr (sm - 1))), .long nw, .int dr]) (rest := []) (wc := [(a, .inr (3, [.long sec, .int (bI pen), .long pst, .long psi, .long acc, .int str, .int ref, .int rt, .int (nI sm), .ref b1, .ref b2, .ref b3])), (b1, .inl (κ.z 1, 8, .inr (.inl lo))), (b2, .inl (κ.z 1, 8, .inr (.inl hi))), (b3, .inl (κ.z 1, 8, .inr (.inl ti)))]) (wr := [(o, .inr (4, [.ref sa, .ref la, .ref e, .ref d, .int dr, .int sf, .long nw, .long ls])), (sa, .inl (κ.z 3, nS, .inr (.inr (.inr (.inr fs)))))]) (c_Sv_lowerEnd κ.l κ.D κ.z a b1 b2 b3 sec pen pst psi acc str ref rt sm lo hi ti (shb rt lo hi ti nw dr (sm - 1)) nw dr (by omega)) 0 rfl rfl m258 m255 m256 m32 (by decide +kernel) rfl (Nat.le_of_ble_eq_true rfl) ⟨by decide, by decide⟩ ⟨by decide, by decide⟩ rfl rfl m257 d_M_low_42 (fun v w1 hg => ?_)
    obtain ⟨rfl, rfl⟩ := hg
    refine v_perm (perm_idx (α := Nat × va_E) (ws := [(a, .inr (3, [.long sec, .int (bI pen), .long pst, .long psi, .long acc, .int str, .int ref, .int rt, .int (nI sm), .ref b1, .ref b2, .ref b3])), (b1, .inl (κ.z 1, 8, .inr (.inl lo))), (b2, .inl (κ.z 1, 8, .inr (.inl hi))), (b3, .inl (κ.z 1, 8, .inr (.inl ti))), (o, .inr (4, [.ref sa, .ref la, .ref e, .ref d, .int dr, .int sf, .long nw, .long ls])), (sa, .inl (κ.z 3, nS, .inr (.inr (.inr (.inr fs)))))]) (ws' := [(o, .inr (4, [.ref sa, .ref la, .ref e, .ref d, .int dr, .int sf, .long nw, .long ls])), (sa, .inl (κ.z 3, nS, .inr (.inr (.inr (.inr fs))))), (a, .inr (3, [.long sec, .int (bI pen), .long pst, .long psi, .long acc, .int str, .int ref, .int rt, .int (nI sm), .ref b1, .ref b2, .ref b3])), (b1, .inl (κ.z 1, 8, .inr (.inl lo))), (b2, .inl (κ.z 1, 8, .inr (.inl hi))), (b3, .inl (κ.z 1, 8, .inr (.inl ti)))]) [4, 5, 0, 1, 2, 3] rfl rfl) ?_
    show V κ 3 0 0 45 [(2, .ref a), (0, .ref o), (1, .int (nI i))] [.long (f_Sv_lowerEnd rt lo ti (shb rt lo hi ti nw dr (sm - 1)) nw dr)] [(o, .inr (4, [.ref sa, .ref la, .ref e, .ref d, .int dr, .int sf, .long nw, .long ls])), (sa, .inl (κ.z 3, nS, .inr (.inr (.inr (.inr fs))))), (a, .inr (3, [.long sec, .int (bI pen), .long pst, .long psi, .long acc, .int str, .int ref, .int rt, .int (nI sm), .ref b1, .ref b2, .ref b3])), (b1, .inl (κ.z 1, 8, .inr (.inl lo))), (b2, .inl (κ.z 1, 8, .inr (.inl hi))), (b3, .inl (κ.z 1, 8, .inr (.inl ti)))]
    exact v_lret X Y (by decide) (by decide) d_M_low_45 ⟨by simp only [f_M_lowG, if_neg c14] <;> rfl, rfl⟩
  · skip
    refine v_ldc2 X (v := (-4611686018427387904)) m197 d_M_low_17 ?_
    exact v_lret X Y (by decide) (by decide) d_M_low_20 ⟨by simp only [f_M_lowG, if_pos c14] <;> rfl, rfl⟩

set_option maxHeartbeats 4000000 in
set_option maxRecDepth 100000 in
theorem c_M_lowB (l : Launch) (D : va_G) (z : Nat → ClassId) (o : Nat) (sa : Nat) (la : Nat) (e : Nat) (d : Nat) (dr : Int32) (sf : Int32) (nw : Int64) (ls : Int64) (nS : Nat) (fs : Nat → Option Nat) (s : Int32) (hb9 : ¬ s < 0 → ¬ s < nI nS) : Ctr l D z y_M_low b_M_low 3 (some .long) { frames := 5, cells := 0, slots := 0, locals := 120 } [.ref o, .int s] [(o, .inr (4, [.ref sa, .ref la, .ref e, .ref d, .int dr, .int sf, .long nw, .long ls])), (sa, .inl (z 3, nS, .inr (.inr (.inr (.inr fs)))))] (fun v w => v = some (.long (-4611686018427387904)) ∧ w = [(o, .inr (4, [.ref sa, .ref la, .ref e, .ref d, .int dr, .int sf, .long nw, .long ls])), (sa, .inl (z 3, nS, .inr (.inr (.inr (.inr fs)))))]) 0 0 := by
  refine met_V (own := R_M) (nm := "low") (by decide +kernel) rfl rfl (Nat.le_of_ble_eq_true rfl) ?_
  intro κ hl hD hz X Y
  subst hl
  subst hD
  subst hz
  show V κ 3 0 0 0 [(0, .ref o), (1, .int s)] [] [(o, .inr (4, [.ref sa, .ref la, .ref e, .ref d, .int dr, .int sf, .long nw, .long ls])), (sa, .inl (κ.z 3, nS, .inr (.inr (.inr (.inr fs)))))]
  refine v_aload_n X 0 d_M_low_0 rfl ?_
  refine v_iload_n X 1 d_M_low_1 rfl ?_
  refine v_callV X (b := o) (n9 := 1) (As := [.int s]) (rest := []) (wc := [(o, .inr (4, [.ref sa, .ref la, .ref e, .ref d, .int dr, .int sf, .long nw, .long ls])), (sa, .inl (κ.z 3, nS, .inr (.inr (.inr (.inr fs)))))]) (wr := []) (c_M_serverOrNullB κ.l κ.D κ.z o sa la e d dr sf nw ls nS fs s hb9) 0 rfl rfl m179 m180 m0 m30 (by decide +kernel) rfl (Nat.le_of_ble_eq_true rfl) ⟨by decide, by decide⟩ ⟨by decide, by decide⟩ rfl rfl m181 d_M_low_2 (fun v w1 hg => ?_)
  obtain ⟨rfl, rfl⟩ := hg
  show V κ 3 0 0 5 [(0, .ref o), (1, .int s)] [.null] [(o, .inr (4, [.ref sa, .ref la, .ref e, .ref d, .int dr, .int sf, .long nw, .long ls])), (sa, .inl (κ.z 3, nS, .inr (.inr (.inr (.inr fs)))))]
  refine v_astore_nN X d_M_low_5 rfl (by decide) (lv' := [(2, .null), (0, .ref o), (1, .int s)]) rfl ?_
  refine v_aload_nN X 0 d_M_low_6 rfl ?_
  refine v_ifnullN X 17 d_M_low_7 (by decide) ?_
  refine v_ldc2 X (v := (-4611686018427387904)) m197 d_M_low_17 ?_
  exact v_lret X Y (by decide) (by decide) d_M_low_20 ⟨rfl, rfl⟩

def f_M_highG (dr : Int32) (nw : Int64) (rt : Int32) (sm : Nat) (lo : Nat → Int64) (hi : Nat → Int64) (ti : Nat → Int64) : Int64 := if sm = 0 then (-4611686018427387904) else f_Sv_upperEnd rt hi ti (shb rt lo hi ti nw dr (sm - 1)) nw dr
set_option maxHeartbeats 4000000 in
set_option maxRecDepth 100000 in
theorem c_M_highG (l : Launch) (D : va_G) (z : Nat → ClassId) (o : Nat) (sa : Nat) (la : Nat) (e : Nat) (d : Nat) (dr : Int32) (sf : Int32) (nw : Int64) (ls : Int64) (nS : Nat) (fs : Nat → Option Nat) (a : Nat) (b1 : Nat) (b2 : Nat) (b3 : Nat) (sec : Int64) (pen : Bool) (pst : Int64) (psi : Int64) (acc : Int64) (str : Int32) (ref : Int32) (rt : Int32) (sm : Nat) (lo : Nat → Int64) (hi : Nat → Int64) (ti : Nat → Int64) (i : Nat) (hi9 : i < nS) (hn9 : nS ≤ 6) (hf9 : fs i = some a) (hs8 : sm ≤ 8) : Ctr l D z y_M_high b_M_high 3 (some .long) { frames := 5, cells := 0, slots := 0, locals := 120 } [.ref o, .int (nI i)] [(o, .inr (4, [.ref sa, .ref la, .ref e, .ref d, .int dr, .int sf, .long nw, .long ls])), (sa, .inl (z 3, nS, .inr (.inr (.inr (.inr fs))))), (a, .inr (3, [.long sec, .int (bI pen), .long pst, .long psi, .long acc, .int str, .int ref, .int rt, .int (nI sm), .ref b1, .ref b2, .ref b3])), (b1, .inl (z 1, 8, .inr (.inl lo))), (b2, .inl (z 1, 8, .inr (.inl hi))), (b3, .inl (z 1, 8, .inr (.inl ti)))] (fun v w => v = some (.long (f_M_highG dr nw rt sm lo hi ti)) ∧ w = [(o, .inr (4, [.ref sa, .ref la, .ref e, .ref d, .int dr, .int sf, .long nw, .long ls])), (sa, .inl (z 3, nS, .inr (.inr (.inr (.inr fs))))), (a, .inr (3, [.long sec, .int (bI pen), .long pst, .long psi, .long acc, .int str, .int ref, .int rt, .int (nI sm), .ref b1, .ref b2, .ref b3])), (b1, .inl (z 1, 8, .inr (.inl lo))), (b2, .inl (z 1, 8, .inr (.inl hi))), (b3, .inl (z 1, 8, .inr (.inl ti)))]) 0 0 := by
  refine met_V (own := R_M) (nm := "high") (by decide +kernel) rfl rfl (Nat.le_of_ble_eq_true rfl) ?_
  intro κ hl hD hz X Y
  subst hl
  subst hD
  subst hz
  show V κ 3 0 0 0 [(0, .ref o), (1, .int (nI i))] [] [(o, .inr (4, [.ref sa, .ref la, .ref e, .ref d, .int dr, .int sf, .long nw, .long ls])), (sa, .inl (κ.z 3, nS, .inr (.inr (.inr (.inr fs))))), (a, .inr (3, [.long sec, .int (bI pen), .long pst, .long psi, .long acc, .int str, .int ref, .int rt, .int (nI sm), .ref b1, .ref b2, .ref b3])), (b1, .inl (κ.z 1, 8, .inr (.inl lo))), (b2, .inl (κ.z 1, 8, .inr (.inl hi))), (b3, .inl (κ.z 1, 8, .inr (.inl ti)))]
  refine v_aload_n X 0 d_M_high_0 rfl ?_
  refine v_iload_n X 1 d_M_high_1 rfl ?_
  refine v_callV X (b := o) (n9 := 1) (As := [.int (nI i)]) (rest := []) (wc := [(o, .inr (4, [.ref sa, .ref la, .ref e, .ref d, .int dr, .int sf, .long nw, .long ls])), (sa, .inl (κ.z 3, nS, .inr (.inr (.inr (.inr fs)))))]) (wr := [(a, .inr (3, [.long sec, .int (bI pen), .long pst, .long psi, .long acc, .int str, .int ref, .int rt, .int (nI sm), .ref b1, .ref b2, .ref b3])), (b1, .inl (κ.z 1, 8, .inr (.inl lo))), (b2, .inl (κ.z 1, 8, .inr (.inl hi))), (b3, .inl (κ.z 1, 8, .inr (.inl ti)))]) (c_M_serverOrNullG κ.l κ.D κ.z o sa la e d dr sf nw ls nS fs i a hi9 hn9 hf9) 0 rfl rfl m179 m180 m0 m30 (by decide +kernel) rfl (Nat.le_of_ble_eq_true rfl) ⟨by decide, by decide⟩ ⟨by decide, by decide⟩ rfl rfl m181 d_M_high_2 (fun v w1 hg => ?_)
  obtain ⟨rfl, rfl⟩ := hg
  show V κ 3 0 0 5 [(0, .ref o), (1, .int (nI i))] [.ref a] [(o, .inr (4, [.ref sa, .ref la, .ref e, .ref d, .int dr, .int sf, .long nw, .long ls])), (sa, .inl (κ.z 3, nS, .inr (.inr (.inr (.inr fs))))), (a, .inr (3, [.long sec, .int (bI pen), .long pst, .long psi, .long acc, .int str, .int ref, .int rt, .int (nI sm), .ref b1, .ref b2, .ref b3])), (b1, .inl (κ.z 1, 8, .inr (.inl lo))), (b2, .inl (κ.z 1, 8, .inr (.inl hi))), (b3, .inl (κ.z 1, 8, .inr (.inl ti)))]
  refine v_astore_n X d_M_high_5 rfl (by decide) (lv' := [(2, .ref a), (0, .ref o), (1, .int (nI i))]) rfl ?_
  refine v_aload_n X 0 d_M_high_6 rfl ?_
  refine v_ifnull X d_M_high_7 ?_
  refine v_aload_n X 0 d_M_high_10 rfl ?_
  refine v_get X 2 8 rfl rfl li_Sv (by decide) m69 rfl d_M_high_11 ?_
  refine v_ifN_ne X 21 (a := sm) d_M_high_14 (by decide) (by omega) (fun c14 => ?_) (fun c14 => ?_)
  · skip
    refine v_aload_n X 0 d_M_high_21 rfl ?_
    refine v_aload_n X 0 d_M_high_22 rfl ?_
    refine v_aload_n X 1 d_M_high_23 rfl ?_
    refine v_get X 0 6 rfl rfl li_M (by decide) m156 rfl d_M_high_24 ?_
    refine v_aload_n X 1 d_M_high_27 rfl ?_
    refine v_get X 0 4 rfl rfl li_M (by decide) m154 rfl d_M_high_28 ?_
    refine v_perm (perm_idx (α := Nat × va_E) (ws := [(o, .inr (4, [.ref sa, .ref la, .ref e, .ref d, .int dr, .int sf, .long nw, .long ls])), (sa, .inl (κ.z 3, nS, .inr (.inr (.inr (.inr fs))))), (a, .inr (3, [.long sec, .int (bI pen), .long pst, .long psi, .long acc, .int str, .int ref, .int rt, .int (nI sm), .ref b1, .ref b2, .ref b3])), (b1, .inl (κ.z 1, 8, .inr (.inl lo))), (b2, .inl (κ.z 1, 8, .inr (.inl hi))), (b3, .inl (κ.z 1, 8, .inr (.inl ti)))]) (ws' := [(a, .inr (3, [.long sec, .int (bI pen), .long pst, .long psi, .long acc, .int str, .int ref, .int rt, .int (nI sm), .ref b1, .ref b2, .ref b3])), (b1, .inl (κ.z 1, 8, .inr (.inl lo))), (b2, .inl (κ.z 1, 8, .inr (.inl hi))), (b3, .inl (κ.z 1, 8, .inr (.inl ti))), (o, .inr (4, [.ref sa, .ref la, .ref e, .ref d, .int dr, .int sf, .long nw, .long ls])), (sa, .inl (κ.z 3, nS, .inr (.inr (.inr (.inr fs)))))]) [2, 3, 4, 5, 0, 1] rfl rfl) ?_
    refine v_callV X (b := a) (n9 := 2) (As := [.long nw, .int dr]) (rest := [.ref a]) (wc := [(a, .inr (3, [.long sec, .int (bI pen), .long pst, .long psi, .long acc, .int str, .int ref, .int rt, .int (nI sm), .ref b1, .ref b2, .ref b3])), (b1, .inl (κ.z 1, 8, .inr (.inl lo))), (b2, .inl (κ.z 1, 8, .inr (.inl hi))), (b3, .inl (κ.z 1, 8, .inr (.inl ti)))]) (wr := [(o, .inr (4, [.ref sa, .ref la, .ref e, .ref d, .int dr, .int sf, .long nw, .long ls])), (sa, .inl (κ.z 3, nS, .inr (.inr (.inr (.inr fs)))))]) (c_Sv_shortestSample κ.l κ.D κ.z a b1 b2 b3 sec pen pst psi acc str ref rt sm lo hi ti nw dr (by omega) (by omega)) 0 rfl rfl m237 m238 m239 m32 (by decide +kernel) rfl (Nat.le_of_ble_eq_true rfl) ⟨by decide, by decide⟩ ⟨by decide, by decide⟩ rfl rfl m240 d_M_high_31 (fun v w1 hg => ?_)
    obtain ⟨rfl, rfl⟩ := hg
    refine v_perm (perm_idx (α := Nat × va_E) (ws := [(a, .inr (3, [.long sec, .int (bI pen), .long pst, .long psi, .long acc, .int str, .int ref, .int rt, .int (nI sm), .ref b1, .ref b2, .ref b3])), (b1, .inl (κ.z 1, 8, .inr (.inl lo))), (b2, .inl (κ.z 1, 8, .inr (.inl hi))), (b3, .inl (κ.z 1, 8, .inr (.inl ti))), (o, .inr (4, [.ref sa, .ref la, .ref e, .ref d, .int dr, .int sf, .long nw, .long ls])), (sa, .inl (κ.z 3, nS, .inr (.inr (.inr (.inr fs)))))]) (ws' := [(o, .inr (4, [.ref sa, .ref la, .ref e, .ref d, .int dr, .int sf, .long nw, .long ls])), (sa, .inl (κ.z 3, nS, .inr (.inr (.inr (.inr fs))))), (a, .inr (3, [.long sec, .int (bI pen), .long pst, .long psi, .long acc, .int str, .int ref, .int rt, .int (nI sm), .ref b1, .ref b2, .ref b3])), (b1, .inl (κ.z 1, 8, .inr (.inl lo))), (b2, .inl (κ.z 1, 8, .inr (.inl hi))), (b3, .inl (κ.z 1, 8, .inr (.inl ti)))]) [4, 5, 0, 1, 2, 3] rfl rfl) ?_
    show V κ 3 0 0 34 [(2, .ref a), (0, .ref o), (1, .int (nI i))] [.int (nI (shb rt lo hi ti nw dr (sm - 1))), .ref a] [(o, .inr (4, [.ref sa, .ref la, .ref e, .ref d, .int dr, .int sf, .long nw, .long ls])), (sa, .inl (κ.z 3, nS, .inr (.inr (.inr (.inr fs))))), (a, .inr (3, [.long sec, .int (bI pen), .long pst, .long psi, .long acc, .int str, .int ref, .int rt, .int (nI sm), .ref b1, .ref b2, .ref b3])), (b1, .inl (κ.z 1, 8, .inr (.inl lo))), (b2, .inl (κ.z 1, 8, .inr (.inl hi))), (b3, .inl (κ.z 1, 8, .inr (.inl ti)))]
    refine v_aload_n X 1 d_M_high_34 rfl ?_
    refine v_get X 0 6 rfl rfl li_M (by decide) m156 rfl d_M_high_35 ?_
    refine v_aload_n X 1 d_M_high_38 rfl ?_
    refine v_get X 0 4 rfl rfl li_M (by decide) m154 rfl d_M_high_39 ?_
    refine v_perm (perm_idx (α := Nat × va_E) (ws := [(o, .inr (4, [.ref sa, .ref la, .ref e, .ref d, .int dr, .int sf, .long nw, .long ls])), (sa, .inl (κ.z 3, nS, .inr (.inr (.inr (.inr fs))))), (a, .inr (3, [.long sec, .int (bI pen), .long pst, .long psi, .long acc, .int str, .int ref, .int rt, .int (nI sm), .ref b1, .ref b2, .ref b3])), (b1, .inl (κ.z 1, 8, .inr (.inl lo))), (b2, .inl (κ.z 1, 8, .inr (.inl hi))), (b3, .inl (κ.z 1, 8, .inr (.inl ti)))]) (ws' := [(a, .inr (3, [.long sec, .int (bI pen), .long pst, .long psi, .long acc, .int str, .int ref, .int rt, .int (nI sm), .ref b1, .ref b2, .ref b3])), (b1, .inl (κ.z 1, 8, .inr (.inl lo))), (b2, .inl (κ.z 1, 8, .inr (.inl hi))), (b3, .inl (κ.z 1, 8, .inr (.inl ti))), (o, .inr (4, [.ref sa, .ref la, .ref e, .ref d, .int dr, .int sf, .long nw, .long ls])), (sa, .inl (κ.z 3, nS, .inr (.inr (.inr (.inr fs)))))]) [2, 3, 4, 5, 0, 1] rfl rfl) ?_
    refine v_callV X (b := a) (n9 := 3) (As := [.int (nI (shb rt lo hi ti nw dr (sm - 1))), .long nw, .int dr]) (rest := []) (wc := [(a, .inr (3, [.long sec, .int (bI pen), .long pst, .long psi, .long acc, .int str, .int ref, .int rt, .int (nI sm), .ref b1, .ref b2, .ref b3])), (b1, .inl (κ.z 1, 8, .inr (.inl lo))), (b2, .inl (κ.z 1, 8, .inr (.inl hi))), (b3, .inl (κ.z 1, 8, .inr (.inl ti)))]) (wr := [(o, .inr (4, [.ref sa, .ref la, .ref e, .ref d, .int dr, .int sf, .long nw, .long ls])), (sa, .inl (κ.z 3, nS, .inr (.inr (.inr (.inr fs)))))]) (c_Sv_upperEnd κ.l κ.D κ.z a b1 b2 b3 sec pen pst psi acc str ref rt sm lo hi ti (shb rt lo hi ti nw dr (sm - 1)) nw dr (by omega)) 0 rfl rfl m263 m245 m246 m32 (by decide +kernel) rfl (Nat.le_of_ble_eq_true rfl) ⟨by decide, by decide⟩ ⟨by decide, by decide⟩ rfl rfl m247 d_M_high_42 (fun v w1 hg => ?_)
    obtain ⟨rfl, rfl⟩ := hg
    refine v_perm (perm_idx (α := Nat × va_E) (ws := [(a, .inr (3, [.long sec, .int (bI pen), .long pst, .long psi, .long acc, .int str, .int ref, .int rt, .int (nI sm), .ref b1, .ref b2, .ref b3])), (b1, .inl (κ.z 1, 8, .inr (.inl lo))), (b2, .inl (κ.z 1, 8, .inr (.inl hi))), (b3, .inl (κ.z 1, 8, .inr (.inl ti))), (o, .inr (4, [.ref sa, .ref la, .ref e, .ref d, .int dr, .int sf, .long nw, .long ls])), (sa, .inl (κ.z 3, nS, .inr (.inr (.inr (.inr fs)))))]) (ws' := [(o, .inr (4, [.ref sa, .ref la, .ref e, .ref d, .int dr, .int sf, .long nw, .long ls])), (sa, .inl (κ.z 3, nS, .inr (.inr (.inr (.inr fs))))), (a, .inr (3, [.long sec, .int (bI pen), .long pst, .long psi, .long acc, .int str, .int ref, .int rt, .int (nI sm), .ref b1, .ref b2, .ref b3])), (b1, .inl (κ.z 1, 8, .inr (.inl lo))), (b2, .inl (κ.z 1, 8, .inr (.inl hi))), (b3, .inl (κ.z 1, 8, .inr (.inl ti)))]) [4, 5, 0, 1, 2, 3] rfl rfl) ?_
    show V κ 3 0 0 45 [(2, .ref a), (0, .ref o), (1, .int (nI i))] [.long (f_Sv_upperEnd rt hi ti (shb rt lo hi ti nw dr (sm - 1)) nw dr)] [(o, .inr (4, [.ref sa, .ref la, .ref e, .ref d, .int dr, .int sf, .long nw, .long ls])), (sa, .inl (κ.z 3, nS, .inr (.inr (.inr (.inr fs))))), (a, .inr (3, [.long sec, .int (bI pen), .long pst, .long psi, .long acc, .int str, .int ref, .int rt, .int (nI sm), .ref b1, .ref b2, .ref b3])), (b1, .inl (κ.z 1, 8, .inr (.inl lo))), (b2, .inl (κ.z 1, 8, .inr (.inl hi))), (b3, .inl (κ.z 1, 8, .inr (.inl ti)))]
    exact v_lret X Y (by decide) (by decide) d_M_high_45 ⟨by simp only [f_M_highG, if_neg c14] <;> rfl, rfl⟩
  · skip
    refine v_ldc2 X (v := (-4611686018427387904)) m197 d_M_high_17 ?_
    exact v_lret X Y (by decide) (by decide) d_M_high_20 ⟨by simp only [f_M_highG, if_pos c14] <;> rfl, rfl⟩

set_option maxHeartbeats 4000000 in
set_option maxRecDepth 100000 in
theorem c_M_highB (l : Launch) (D : va_G) (z : Nat → ClassId) (o : Nat) (sa : Nat) (la : Nat) (e : Nat) (d : Nat) (dr : Int32) (sf : Int32) (nw : Int64) (ls : Int64) (nS : Nat) (fs : Nat → Option Nat) (s : Int32) (hb9 : ¬ s < 0 → ¬ s < nI nS) : Ctr l D z y_M_high b_M_high 3 (some .long) { frames := 5, cells := 0, slots := 0, locals := 120 } [.ref o, .int s] [(o, .inr (4, [.ref sa, .ref la, .ref e, .ref d, .int dr, .int sf, .long nw, .long ls])), (sa, .inl (z 3, nS, .inr (.inr (.inr (.inr fs)))))] (fun v w => v = some (.long (-4611686018427387904)) ∧ w = [(o, .inr (4, [.ref sa, .ref la, .ref e, .ref d, .int dr, .int sf, .long nw, .long ls])), (sa, .inl (z 3, nS, .inr (.inr (.inr (.inr fs)))))]) 0 0 := by
  refine met_V (own := R_M) (nm := "high") (by decide +kernel) rfl rfl (Nat.le_of_ble_eq_true rfl) ?_
  intro κ hl hD hz X Y
  subst hl
  subst hD
  subst hz
  show V κ 3 0 0 0 [(0, .ref o), (1, .int s)] [] [(o, .inr (4, [.ref sa, .ref la, .ref e, .ref d, .int dr, .int sf, .long nw, .long ls])), (sa, .inl (κ.z 3, nS, .inr (.inr (.inr (.inr fs)))))]
  refine v_aload_n X 0 d_M_high_0 rfl ?_
  refine v_iload_n X 1 d_M_high_1 rfl ?_
  refine v_callV X (b := o) (n9 := 1) (As := [.int s]) (rest := []) (wc := [(o, .inr (4, [.ref sa, .ref la, .ref e, .ref d, .int dr, .int sf, .long nw, .long ls])), (sa, .inl (κ.z 3, nS, .inr (.inr (.inr (.inr fs)))))]) (wr := []) (c_M_serverOrNullB κ.l κ.D κ.z o sa la e d dr sf nw ls nS fs s hb9) 0 rfl rfl m179 m180 m0 m30 (by decide +kernel) rfl (Nat.le_of_ble_eq_true rfl) ⟨by decide, by decide⟩ ⟨by decide, by decide⟩ rfl rfl m181 d_M_high_2 (fun v w1 hg => ?_)
  obtain ⟨rfl, rfl⟩ := hg
  show V κ 3 0 0 5 [(0, .ref o), (1, .int s)] [.null] [(o, .inr (4, [.ref sa, .ref la, .ref e, .ref d, .int dr, .int sf, .long nw, .long ls])), (sa, .inl (κ.z 3, nS, .inr (.inr (.inr (.inr fs)))))]
  refine v_astore_nN X d_M_high_5 rfl (by decide) (lv' := [(2, .null), (0, .ref o), (1, .int s)]) rfl ?_
  refine v_aload_nN X 0 d_M_high_6 rfl ?_
  refine v_ifnullN X 17 d_M_high_7 (by decide) ?_
  refine v_ldc2 X (v := (-4611686018427387904)) m197 d_M_high_17 ?_
  exact v_lret X Y (by decide) (by decide) d_M_high_20 ⟨rfl, rfl⟩

def f_M_isUsable (sf : Int32) (nw : Int64) (str : Int32) (ref : Int32) (sm : Nat) (ti : Nat → Int64) : Bool := (if str < 1 then false else (if 14 < str then false else (if ref = sf then false else (if sm ≤ 0 then false else (if 1000000 < (nw - (ti 0)) then false else true)))))
set_option maxHeartbeats 4000000 in
set_option maxRecDepth 100000 in
theorem c_M_isUsable (l : Launch) (D : va_G) (z : Nat → ClassId) (o : Nat) (sa : Nat) (la : Nat) (e : Nat) (d : Nat) (dr : Int32) (sf : Int32) (nw : Int64) (ls : Int64) (a : Nat) (b1 : Nat) (b2 : Nat) (b3 : Nat) (sec : Int64) (pen : Bool) (pst : Int64) (psi : Int64) (acc : Int64) (str : Int32) (ref : Int32) (rt : Int32) (sm : Nat) (lo : Nat → Int64) (hi : Nat → Int64) (ti : Nat → Int64) (hs8 : sm ≤ 8) : Ctr l D z y_M_isUsable b_M_isUsable 2 (some .boolean) { frames := 1, cells := 0, slots := 0, locals := 20 } [.ref o, .ref a] [(o, .inr (4, [.ref sa, .ref la, .ref e, .ref d, .int dr, .int sf, .long nw, .long ls])), (a, .inr (3, [.long sec, .int (bI pen), .long pst, .long psi, .long acc, .int str, .int ref, .int rt, .int (nI sm), .ref b1, .ref b2, .ref b3])), (b1, .inl (z 1, 8, .inr (.inl lo))), (b2, .inl (z 1, 8, .inr (.inl hi))), (b3, .inl (z 1, 8, .inr (.inl ti)))] (fun v w => v = some (.int (bI (f_M_isUsable sf nw str ref sm ti))) ∧ w = [(o, .inr (4, [.ref sa, .ref la, .ref e, .ref d, .int dr, .int sf, .long nw, .long ls])), (a, .inr (3, [.long sec, .int (bI pen), .long pst, .long psi, .long acc, .int str, .int ref, .int rt, .int (nI sm), .ref b1, .ref b2, .ref b3])), (b1, .inl (z 1, 8, .inr (.inl lo))), (b2, .inl (z 1, 8, .inr (.inl hi))), (b3, .inl (z 1, 8, .inr (.inl ti)))]) 0 0 := by
  refine met_V (own := R_M) (nm := "isUsable") (by decide +kernel) rfl rfl (Nat.le_of_ble_eq_true rfl) ?_
  intro κ hl hD hz X Y
  subst hl
  subst hD
  subst hz
  show V κ 2 0 0 0 [(0, .ref o), (1, .ref a)] [] [(o, .inr (4, [.ref sa, .ref la, .ref e, .ref d, .int dr, .int sf, .long nw, .long ls])), (a, .inr (3, [.long sec, .int (bI pen), .long pst, .long psi, .long acc, .int str, .int ref, .int rt, .int (nI sm), .ref b1, .ref b2, .ref b3])), (b1, .inl (κ.z 1, 8, .inr (.inl lo))), (b2, .inl (κ.z 1, 8, .inr (.inl hi))), (b3, .inl (κ.z 1, 8, .inr (.inl ti)))]
  refine v_aload_n X 1 d_M_isUsable_0 rfl ?_
  refine v_get X 1 5 rfl rfl li_Sv (by decide) m64 rfl d_M_isUsable_1 ?_
  refine v_iconst X 1 d_M_isUsable_4 (by decide) ?_
  suffices hm5 : V κ 2 0 0 56 [(0, .ref o), (1, .ref a)] [.int (bI (if str < 1 then false else (if 14 < str then false else (if ref = sf then false else (if sm ≤ 0 then false else (if 1000000 < (nw - (ti 0)) then false else true))))))] [(o, .inr (4, [.ref sa, .ref la, .ref e, .ref d, .int dr, .int sf, .long nw, .long ls])), (a, .inr (3, [.long sec, .int (bI pen), .long pst, .long psi, .long acc, .int str, .int ref, .int rt, .int (nI sm), .ref b1, .ref b2, .ref b3])), (b1, .inl (κ.z 1, 8, .inr (.inl lo))), (b2, .inl (κ.z 1, 8, .inr (.inl hi))), (b3, .inl (κ.z 1, 8, .inr (.inl ti)))] by
    refine v_icmp_lt X 55 d_M_isUsable_5 (by decide) (fun c5 => ?_) (fun c5 => ?_)
    · skip
      refine v_iconst X 0 d_M_isUsable_55 (by decide) ?_
      have h9 := hm5; simp only [if_pos c5] at h9; first | exact h9 | (simp only [if_pos c5]; exact h9)
    · skip
      refine v_aload_n X 1 d_M_isUsable_8 rfl ?_
      refine v_get X 1 5 rfl rfl li_Sv (by decide) m64 rfl d_M_isUsable_9 ?_
      refine v_bipush X 14 d_M_isUsable_12 (by decide) ?_
      suffices hm14 : V κ 2 0 0 56 [(0, .ref o), (1, .ref a)] [.int (bI (if 14 < str then false else (if ref = sf then false else (if sm ≤ 0 then false else (if 1000000 < (nw - (ti 0)) then false else true)))))] [(o, .inr (4, [.ref sa, .ref la, .ref e, .ref d, .int dr, .int sf, .long nw, .long ls])), (a, .inr (3, [.long sec, .int (bI pen), .long pst, .long psi, .long acc, .int str, .int ref, .int rt, .int (nI sm), .ref b1, .ref b2, .ref b3])), (b1, .inl (κ.z 1, 8, .inr (.inl lo))), (b2, .inl (κ.z 1, 8, .inr (.inl hi))), (b3, .inl (κ.z 1, 8, .inr (.inl ti)))] by
        refine v_icmp_gt X 55 d_M_isUsable_14 (by decide) (fun c14 => ?_) (fun c14 => ?_)
        · skip
          refine v_iconst X 0 d_M_isUsable_55 (by decide) ?_
          have h9 := hm14; simp only [if_pos c14] at h9; first | exact h9 | (simp only [if_pos c14]; exact h9)
        · skip
          refine v_aload_n X 1 d_M_isUsable_17 rfl ?_
          refine v_get X 1 6 rfl rfl li_Sv (by decide) m65 rfl d_M_isUsable_18 ?_
          refine v_aload_n X 0 d_M_isUsable_21 rfl ?_
          refine v_get X 0 5 rfl rfl li_M (by decide) m155 rfl d_M_isUsable_22 ?_
          suffices hm25 : V κ 2 0 0 56 [(0, .ref o), (1, .ref a)] [.int (bI (if ref = sf then false else (if sm ≤ 0 then false else (if 1000000 < (nw - (ti 0)) then false else true))))] [(o, .inr (4, [.ref sa, .ref la, .ref e, .ref d, .int dr, .int sf, .long nw, .long ls])), (a, .inr (3, [.long sec, .int (bI pen), .long pst, .long psi, .long acc, .int str, .int ref, .int rt, .int (nI sm), .ref b1, .ref b2, .ref b3])), (b1, .inl (κ.z 1, 8, .inr (.inl lo))), (b2, .inl (κ.z 1, 8, .inr (.inl hi))), (b3, .inl (κ.z 1, 8, .inr (.inl ti)))] by
            refine v_icmp_eq X 55 d_M_isUsable_25 (by decide) (fun c25 => ?_) (fun c25 => ?_)
            · skip
              refine v_iconst X 0 d_M_isUsable_55 (by decide) ?_
              have h9 := hm25; simp only [if_pos c25] at h9; first | exact h9 | (simp only [if_pos c25]; exact h9)
            · skip
              refine v_aload_n X 1 d_M_isUsable_28 rfl ?_
              refine v_get X 1 8 rfl rfl li_Sv (by decide) m69 rfl d_M_isUsable_29 ?_
              suffices hm32 : V κ 2 0 0 56 [(0, .ref o), (1, .ref a)] [.int (bI (if sm ≤ 0 then false else (if 1000000 < (nw - (ti 0)) then false else true)))] [(o, .inr (4, [.ref sa, .ref la, .ref e, .ref d, .int dr, .int sf, .long nw, .long ls])), (a, .inr (3, [.long sec, .int (bI pen), .long pst, .long psi, .long acc, .int str, .int ref, .int rt, .int (nI sm), .ref b1, .ref b2, .ref b3])), (b1, .inl (κ.z 1, 8, .inr (.inl lo))), (b2, .inl (κ.z 1, 8, .inr (.inl hi))), (b3, .inl (κ.z 1, 8, .inr (.inl ti)))] by
                refine v_ifN_le X 55 (a := sm) d_M_isUsable_32 (by decide) (by omega) (fun c32 => ?_) (fun c32 => ?_)
                · skip
                  refine v_iconst X 0 d_M_isUsable_55 (by decide) ?_
                  have h9 := hm32; simp only [if_pos c32] at h9; first | exact h9 | (simp only [if_pos c32]; exact h9)
                · skip
                  refine v_aload_n X 0 d_M_isUsable_35 rfl ?_
                  refine v_get X 0 6 rfl rfl li_M (by decide) m156 rfl d_M_isUsable_36 ?_
                  refine v_aload_n X 1 d_M_isUsable_39 rfl ?_
                  refine v_perm (perm_idx (α := Nat × va_E) (ws := [(o, .inr (4, [.ref sa, .ref la, .ref e, .ref d, .int dr, .int sf, .long nw, .long ls])), (a, .inr (3, [.long sec, .int (bI pen), .long pst, .long psi, .long acc, .int str, .int ref, .int rt, .int (nI sm), .ref b1, .ref b2, .ref b3])), (b1, .inl (κ.z 1, 8, .inr (.inl lo))), (b2, .inl (κ.z 1, 8, .inr (.inl hi))), (b3, .inl (κ.z 1, 8, .inr (.inl ti)))]) (ws' := [(a, .inr (3, [.long sec, .int (bI pen), .long pst, .long psi, .long acc, .int str, .int ref, .int rt, .int (nI sm), .ref b1, .ref b2, .ref b3])), (b1, .inl (κ.z 1, 8, .inr (.inl lo))), (b2, .inl (κ.z 1, 8, .inr (.inl hi))), (b3, .inl (κ.z 1, 8, .inr (.inl ti))), (o, .inr (4, [.ref sa, .ref la, .ref e, .ref d, .int dr, .int sf, .long nw, .long ls]))]) [1, 2, 3, 4, 0] rfl rfl) ?_
                  refine v_callV X (b := a) (n9 := 0) (As := []) (rest := [.long nw]) (wc := [(a, .inr (3, [.long sec, .int (bI pen), .long pst, .long psi, .long acc, .int str, .int ref, .int rt, .int (nI sm), .ref b1, .ref b2, .ref b3])), (b1, .inl (κ.z 1, 8, .inr (.inl lo))), (b2, .inl (κ.z 1, 8, .inr (.inl hi))), (b3, .inl (κ.z 1, 8, .inr (.inl ti)))]) (wr := [(o, .inr (4, [.ref sa, .ref la, .ref e, .ref d, .int dr, .int sf, .long nw, .long ls]))]) (c_Sv_latestSampleTime κ.l κ.D κ.z a b1 b2 b3 sec pen pst psi acc str ref rt sm lo hi ti ) 0 rfl rfl m278 m279 m280 m32 (by decide +kernel) rfl (Nat.le_of_ble_eq_true rfl) ⟨by decide, by decide⟩ ⟨by decide, by decide⟩ rfl rfl m281 d_M_isUsable_40 (fun v w1 hg => ?_)
                  obtain ⟨rfl, rfl⟩ := hg
                  refine v_perm (perm_idx (α := Nat × va_E) (ws := [(a, .inr (3, [.long sec, .int (bI pen), .long pst, .long psi, .long acc, .int str, .int ref, .int rt, .int (nI sm), .ref b1, .ref b2, .ref b3])), (b1, .inl (κ.z 1, 8, .inr (.inl lo))), (b2, .inl (κ.z 1, 8, .inr (.inl hi))), (b3, .inl (κ.z 1, 8, .inr (.inl ti))), (o, .inr (4, [.ref sa, .ref la, .ref e, .ref d, .int dr, .int sf, .long nw, .long ls]))]) (ws' := [(o, .inr (4, [.ref sa, .ref la, .ref e, .ref d, .int dr, .int sf, .long nw, .long ls])), (a, .inr (3, [.long sec, .int (bI pen), .long pst, .long psi, .long acc, .int str, .int ref, .int rt, .int (nI sm), .ref b1, .ref b2, .ref b3])), (b1, .inl (κ.z 1, 8, .inr (.inl lo))), (b2, .inl (κ.z 1, 8, .inr (.inl hi))), (b3, .inl (κ.z 1, 8, .inr (.inl ti)))]) [4, 0, 1, 2, 3] rfl rfl) ?_
                  show V κ 2 0 0 43 [(0, .ref o), (1, .ref a)] [.long (ti 0), .long nw] [(o, .inr (4, [.ref sa, .ref la, .ref e, .ref d, .int dr, .int sf, .long nw, .long ls])), (a, .inr (3, [.long sec, .int (bI pen), .long pst, .long psi, .long acc, .int str, .int ref, .int rt, .int (nI sm), .ref b1, .ref b2, .ref b3])), (b1, .inl (κ.z 1, 8, .inr (.inl lo))), (b2, .inl (κ.z 1, 8, .inr (.inl hi))), (b3, .inl (κ.z 1, 8, .inr (.inl ti)))]
                  refine v_lsub X d_M_isUsable_43 ?_
                  refine v_ldc2 X (v := 1000000) m250 d_M_isUsable_44 ?_
                  suffices hm47 : V κ 2 0 0 56 [(0, .ref o), (1, .ref a)] [.int (bI (if 1000000 < (nw - (ti 0)) then false else true))] [(o, .inr (4, [.ref sa, .ref la, .ref e, .ref d, .int dr, .int sf, .long nw, .long ls])), (a, .inr (3, [.long sec, .int (bI pen), .long pst, .long psi, .long acc, .int str, .int ref, .int rt, .int (nI sm), .ref b1, .ref b2, .ref b3])), (b1, .inl (κ.z 1, 8, .inr (.inl lo))), (b2, .inl (κ.z 1, 8, .inr (.inl hi))), (b3, .inl (κ.z 1, 8, .inr (.inl ti)))] by
                    refine v_lcmp_gt X 55 d_M_isUsable_47 d_M_isUsable_48 (by decide) (fun c47 => ?_) (fun c47 => ?_)
                    · skip
                      refine v_iconst X 0 d_M_isUsable_55 (by decide) ?_
                      have h9 := hm47; simp only [if_pos c47] at h9; first | exact h9 | (simp only [if_pos c47]; exact h9)
                    · skip
                      refine v_iconst X 1 d_M_isUsable_51 (by decide) ?_
                      refine v_goto X 56 d_M_isUsable_52 (by decide) ?_
                      have h9 := hm47; simp only [if_neg c47] at h9; first | exact h9 | (simp only [if_neg c47]; exact h9)
                  have h9 := hm32; simp only [if_neg c32] at h9; first | exact h9 | (simp only [if_neg c32]; exact h9)
              have h9 := hm25; simp only [if_neg c25] at h9; first | exact h9 | (simp only [if_neg c25]; exact h9)
          have h9 := hm14; simp only [if_neg c14] at h9; first | exact h9 | (simp only [if_neg c14]; exact h9)
      have h9 := hm5; simp only [if_neg c5] at h9; first | exact h9 | (simp only [if_neg c5]; exact h9)
  exact v_zret X Y (by decide) (by decide) d_M_isUsable_56 (narB _) ⟨rfl, rfl⟩
end
