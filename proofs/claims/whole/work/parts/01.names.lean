-- ===== PART A: goes FIRST, ahead of the names: the tables' words, and 'selects' of the private methods out of them =====
/-- a private method of a class that the tables say can be made, by its rows of tables_1 -/
def lw_okq (q : MethodName × Nat) : Prop := (q.1.cls ≠ "java/lang/invoke/MethodHandle" ∧ q.1.cls ≠ "java/lang/invoke/VarHandle") ∧ Cond.instantiable q.1.cls q.2 ∈ tables_1 ∧ Cond.privateMethod q.1 ∈ tables_1 ∧ Cond.instanceMethod q.1 ∈ tables_1
theorem lw_p0 : lw_okq (⟨"EventKeeper$Log", "forgetCause", "(I)V"⟩, 11) := ⟨⟨by decide +kernel, by decide +kernel⟩, List.mem_of_getElem? (i := 23) (by decide +kernel), List.mem_of_getElem? (i := 163) (by decide +kernel), List.mem_of_getElem? (i := 164) (by decide +kernel)⟩
theorem lw_p1 : lw_okq (⟨"EventKeeper$Projection", "startOver", "()V"⟩, 8) := ⟨⟨by decide +kernel, by decide +kernel⟩, List.mem_of_getElem? (i := 83) (by decide +kernel), List.mem_of_getElem? (i := 171) (by decide +kernel), List.mem_of_getElem? (i := 172) (by decide +kernel)⟩
theorem lw_p2 : lw_okq (⟨"java/lang/Throwable", "fillInStackTrace", "(I)Ljava/lang/Throwable;"⟩, 6) := ⟨⟨by decide +kernel, by decide +kernel⟩, List.mem_of_getElem? (i := 239) (by decide +kernel), List.mem_of_getElem? (i := 237) (by decide +kernel), List.mem_of_getElem? (i := 238) (by decide +kernel)⟩
theorem lw_p3 : lw_okq (⟨"EventKeeper$Projection", "targetCell", "(LEventKeeper$Log;)I"⟩, 8) := ⟨⟨by decide +kernel, by decide +kernel⟩, List.mem_of_getElem? (i := 83) (by decide +kernel), List.mem_of_getElem? (i := 337) (by decide +kernel), List.mem_of_getElem? (i := 338) (by decide +kernel)⟩
theorem lw_p4 : lw_okq (⟨"EventKeeper$Projection", "countAndEmit", "(LEventKeeper$Log;I)Z"⟩, 8) := ⟨⟨by decide +kernel, by decide +kernel⟩, List.mem_of_getElem? (i := 83) (by decide +kernel), List.mem_of_getElem? (i := 342) (by decide +kernel), List.mem_of_getElem? (i := 343) (by decide +kernel)⟩
theorem lw_p5 : lw_okq (⟨"EventKeeper$Subscription", "letsThrough", "(II)Z"⟩, 4) := ⟨⟨by decide +kernel, by decide +kernel⟩, List.mem_of_getElem? (i := 117) (by decide +kernel), List.mem_of_getElem? (i := 410) (by decide +kernel), List.mem_of_getElem? (i := 411) (by decide +kernel)⟩
theorem lw_p6 : lw_okq (⟨"EventKeeper", "checkPlace", "(I)V"⟩, 3) := ⟨⟨by decide +kernel, by decide +kernel⟩, List.mem_of_getElem? (i := 15) (by decide +kernel), List.mem_of_getElem? (i := 421) (by decide +kernel), List.mem_of_getElem? (i := 422) (by decide +kernel)⟩
theorem lw_p7 : lw_okq (⟨"EventKeeperModel", "fails", "(ZI)Z"⟩, 19) := ⟨⟨by decide +kernel, by decide +kernel⟩, List.mem_of_getElem? (i := 467) (by decide +kernel), List.mem_of_getElem? (i := 542) (by decide +kernel), List.mem_of_getElem? (i := 543) (by decide +kernel)⟩
theorem lw_p8 : lw_okq (⟨"EventKeeperModel", "inStream", "(II)I"⟩, 19) := ⟨⟨by decide +kernel, by decide +kernel⟩, List.mem_of_getElem? (i := 467) (by decide +kernel), List.mem_of_getElem? (i := 546) (by decide +kernel), List.mem_of_getElem? (i := 547) (by decide +kernel)⟩
theorem lw_p9 : lw_okq (⟨"EventKeeperModel", "put", "(IIJII)I"⟩, 19) := ⟨⟨by decide +kernel, by decide +kernel⟩, List.mem_of_getElem? (i := 467) (by decide +kernel), List.mem_of_getElem? (i := 550) (by decide +kernel), List.mem_of_getElem? (i := 551) (by decide +kernel)⟩
theorem lw_p10 : lw_okq (⟨"EventKeeperModel", "begin", "(I)V"⟩, 19) := ⟨⟨by decide +kernel, by decide +kernel⟩, List.mem_of_getElem? (i := 467) (by decide +kernel), List.mem_of_getElem? (i := 561) (by decide +kernel), List.mem_of_getElem? (i := 562) (by decide +kernel)⟩
theorem lw_p11 : lw_okq (⟨"EventKeeperModel", "takes", "(II)Z"⟩, 19) := ⟨⟨by decide +kernel, by decide +kernel⟩, List.mem_of_getElem? (i := 467) (by decide +kernel), List.mem_of_getElem? (i := 569) (by decide +kernel), List.mem_of_getElem? (i := 570) (by decide +kernel)⟩
theorem lw_p12 : lw_okq (⟨"EventKeeperModel", "isNone", "(I)Z"⟩, 19) := ⟨⟨by decide +kernel, by decide +kernel⟩, List.mem_of_getElem? (i := 467) (by decide +kernel), List.mem_of_getElem? (i := 609) (by decide +kernel), List.mem_of_getElem? (i := 610) (by decide +kernel)⟩
def lw_privs_1 : List (MethodName × Nat) := [(⟨"EventKeeper$Log", "forgetCause", "(I)V"⟩, 11), (⟨"EventKeeper$Projection", "startOver", "()V"⟩, 8), (⟨"java/lang/Throwable", "fillInStackTrace", "(I)Ljava/lang/Throwable;"⟩, 6), (⟨"EventKeeper$Projection", "targetCell", "(LEventKeeper$Log;)I"⟩, 8), (⟨"EventKeeper$Projection", "countAndEmit", "(LEventKeeper$Log;I)Z"⟩, 8), (⟨"EventKeeper$Subscription", "letsThrough", "(II)Z"⟩, 4), (⟨"EventKeeper", "checkPlace", "(I)V"⟩, 3), (⟨"EventKeeperModel", "fails", "(ZI)Z"⟩, 19), (⟨"EventKeeperModel", "inStream", "(II)I"⟩, 19), (⟨"EventKeeperModel", "put", "(IIJII)I"⟩, 19), (⟨"EventKeeperModel", "begin", "(I)V"⟩, 19), (⟨"EventKeeperModel", "takes", "(II)Z"⟩, 19), (⟨"EventKeeperModel", "isNone", "(I)Z"⟩, 19)]
theorem lw_r1 : ∀ q ∈ lw_privs_1, lw_okq q := List.forall_mem_cons.mpr ⟨lw_p0, List.forall_mem_cons.mpr ⟨lw_p1, List.forall_mem_cons.mpr ⟨lw_p2, List.forall_mem_cons.mpr ⟨lw_p3, List.forall_mem_cons.mpr ⟨lw_p4, List.forall_mem_cons.mpr ⟨lw_p5, List.forall_mem_cons.mpr ⟨lw_p6, List.forall_mem_cons.mpr ⟨lw_p7, List.forall_mem_cons.mpr ⟨lw_p8, List.forall_mem_cons.mpr ⟨lw_p9, List.forall_mem_cons.mpr ⟨lw_p10, List.forall_mem_cons.mpr ⟨lw_p11, List.forall_mem_cons.mpr ⟨lw_p12, fun _ h => absurd h List.not_mem_nil⟩⟩⟩⟩⟩⟩⟩⟩⟩⟩⟩⟩⟩
def lw_privs : List (MethodName × Nat) := lw_privs_1
def lw_tbl : List Cond := k2_sels lw_privs ++ tables_1
theorem lw_privs_ok : ∀ q ∈ lw_privs, lw_okq q := lw_r1

/-! words, by their places in the tables -/
def kx_tb : List Cond := lw_tbl.filter goodWord
theorem kx_tb_good : kx_tb.all goodWord = true := List.all_eq_true.mpr (fun _ hw => (List.mem_filter.mp hw).2)
theorem kx_t {w : Cond} (i : Nat) (h : tables_1[i]? = some w) (g : goodWord w = true) : w ∈ kx_tb := List.mem_filter.mpr ⟨List.mem_append_right _ (List.mem_of_getElem? h), g⟩
theorem kx_ts {w : Cond} (i : Nat) (h : (k2_sels lw_privs)[i]? = some w) (g : goodWord w = true) : w ∈ kx_tb := List.mem_filter.mpr ⟨List.mem_append_left _ (List.mem_of_getElem? h), g⟩
def T_EK : u_T := fun k => match k with
  | 0 => ("EventKeeper", "log", "LEventKeeper$Log;", true)
  | 1 => ("EventKeeper", "projections", "[LEventKeeper$Projection;", true)
  | _ => ("EventKeeper", "subscriptions", "[LEventKeeper$Subscription;", true)
def ty_EK : Nat → FieldType := fun k => match k with
  | 0 => .object "EventKeeper$Log"
  | 1 => .array (.object "EventKeeper$Projection")
  | _ => .array (.object "EventKeeper$Subscription")
def T_L : u_T := fun k => match k with
  | 0 => ("EventKeeper$Log", "streams", "[I", true)
  | 1 => ("EventKeeper$Log", "versions", "[I", true)
  | 2 => ("EventKeeper$Log", "kinds", "[I", true)
  | 3 => ("EventKeeper$Log", "values", "[J", true)
  | 4 => ("EventKeeper$Log", "causeProjections", "[I", true)
  | 5 => ("EventKeeper$Log", "causePlaces", "[I", true)
  | 6 => ("EventKeeper$Log", "emitters", "[I", true)
  | 7 => ("EventKeeper$Log", "streamSizes", "[I", true)
  | 8 => ("EventKeeper$Log", "emittedSizes", "[I", true)
  | 9 => ("EventKeeper$Log", "size", "I", false)
  | _ => ("EventKeeper$Log", "durableSize", "I", false)
def ty_L : Nat → FieldType := fun k => match k with
  | 0 => .array .int
  | 1 => .array .int
  | 2 => .array .int
  | 3 => .array .long
  | 4 => .array .int
  | 5 => .array .int
  | 6 => .array .int
  | 7 => .array .int
  | 8 => .array .int
  | 9 => .int
  | _ => .int
def T_P : u_T := fun k => match k with
  | 0 => ("EventKeeper$Projection", "number", "I", true)
  | 1 => ("EventKeeper$Projection", "actions", "[I", true)
  | 2 => ("EventKeeper$Projection", "targets", "[I", true)
  | 3 => ("EventKeeper$Projection", "cells", "[J", true)
  | 4 => ("EventKeeper$Projection", "position", "I", false)
  | 5 => ("EventKeeper$Projection", "savedCells", "[J", true)
  | 6 => ("EventKeeper$Projection", "savedPosition", "I", false)
  | _ => ("EventKeeper$Projection", "savedLogSize", "I", false)
def ty_P : Nat → FieldType := fun k => match k with
  | 0 => .int
  | 1 => .array .int
  | 2 => .array .int
  | 3 => .array .long
  | 4 => .int
  | 5 => .array .long
  | 6 => .int
  | _ => .int
def T_S : u_T := fun k => match k with
  | 0 => ("EventKeeper$Subscription", "onlyStream", "I", false)
  | 1 => ("EventKeeper$Subscription", "kindBits", "I", false)
  | 2 => ("EventKeeper$Subscription", "position", "I", false)
  | _ => ("EventKeeper$Subscription", "safePosition", "I", false)
def ty_S : Nat → FieldType := fun k => match k with
  | 0 => .int
  | 1 => .int
  | 2 => .int
  | _ => .int
def T_M : u_T := fun k => match k with
  | 0 => ("EventKeeperModel", "err", "I", false)
  | 1 => ("EventKeeperModel", "events", "I", false)
  | 2 => ("EventKeeperModel", "durable", "I", false)
  | 3 => ("EventKeeperModel", "stream", "[I", true)
  | 4 => ("EventKeeperModel", "kind", "[I", true)
  | 5 => ("EventKeeperModel", "causeOf", "[I", true)
  | 6 => ("EventKeeperModel", "causeAt", "[I", true)
  | 7 => ("EventKeeperModel", "value", "[J", true)
  | 8 => ("EventKeeperModel", "cell", "[J", true)
  | 9 => ("EventKeeperModel", "saved", "[J", true)
  | 10 => ("EventKeeperModel", "does", "[I", true)
  | 11 => ("EventKeeperModel", "where", "[I", true)
  | 12 => ("EventKeeperModel", "position", "[I", true)
  | 13 => ("EventKeeperModel", "savedAt", "[I", true)
  | 14 => ("EventKeeperModel", "savedOf", "[I", true)
  | 15 => ("EventKeeperModel", "from", "[I", true)
  | 16 => ("EventKeeperModel", "kinds", "[I", true)
  | 17 => ("EventKeeperModel", "place", "[I", true)
  | _ => ("EventKeeperModel", "safe", "[I", true)
def ty_M : Nat → FieldType := fun k => match k with
  | 0 => .int
  | 1 => .int
  | 2 => .int
  | 3 => .array .int
  | 4 => .array .int
  | 5 => .array .int
  | 6 => .array .int
  | 7 => .array .long
  | 8 => .array .long
  | 9 => .array .long
  | 10 => .array .int
  | 11 => .array .int
  | 12 => .array .int
  | 13 => .array .int
  | 14 => .array .int
  | 15 => .array .int
  | 16 => .array .int
  | 17 => .array .int
  | _ => .array .int
abbrev kx_cls : List vw_C := [("EventKeeper", T_EK, 3), ("EventKeeper$Log", T_L, 11), ("EventKeeper$Projection", T_P, 8), ("EventKeeper$Subscription", T_S, 4), ("EventKeeperModel", T_M, 19)]
abbrev kc_EK : Nat := 0
abbrev kc_L : Nat := 1
abbrev kc_P : Nat := 2
abbrev kc_S : Nat := 3
abbrev kc_M : Nat := 4
def kx_q0 : String := "EventKeeper$Projection"
def kx_q1 : String := "EventKeeper$Subscription"
def kx_strs : List (String × Nat × String) := [("EventKeeper", 157, "an argument is out of its range"), ("EventKeeper", 48, "the stream has another number of events"), ("EventKeeper", 59, "the log is full"), ("EventKeeper", 85, "there is no such cell"), ("EventKeeper", 159, "there is no event at this place"), ("EventKeeper", 143, "the stream has no such version"), ("EventKeeper", 154, "there is nothing such to count")]
def kx_exc : List String := ["java/lang/IllegalArgumentException", "java/lang/IllegalStateException", "java/lang/IndexOutOfBoundsException"]
theorem kt_EK : ∀ w ∈ u_ws "EventKeeper" T_EK 3, w ∈ kx_tb := by
  have h : (u_ws "EventKeeper" T_EK 3).all (fun w => decide (w ∈ tables_1) && goodWord w) = true := by decide +kernel
  intro w hw
  have h1 := List.all_eq_true.mp h w hw
  simp only [Bool.and_eq_true, decide_eq_true_eq] at h1
  exact List.mem_filter.mpr ⟨List.mem_append_right _ h1.1, h1.2⟩
theorem kn_EK : ∀ a, a < 3 → ∀ b, b < 3 → a ≠ b → (T_EK a).2.1 ≠ (T_EK b).2.1 := by decide +kernel
theorem kp_EK : ∀ k, k < 3 → parseFieldDescriptor (T_EK k).2.2.1 = some (ty_EK k) := by decide +kernel
theorem kt_L : ∀ w ∈ u_ws "EventKeeper$Log" T_L 11, w ∈ kx_tb := by
  have h : (u_ws "EventKeeper$Log" T_L 11).all (fun w => decide (w ∈ tables_1) && goodWord w) = true := by decide +kernel
  intro w hw
  have h1 := List.all_eq_true.mp h w hw
  simp only [Bool.and_eq_true, decide_eq_true_eq] at h1
  exact List.mem_filter.mpr ⟨List.mem_append_right _ h1.1, h1.2⟩
theorem kn_L : ∀ a, a < 11 → ∀ b, b < 11 → a ≠ b → (T_L a).2.1 ≠ (T_L b).2.1 := by decide +kernel
theorem kp_L : ∀ k, k < 11 → parseFieldDescriptor (T_L k).2.2.1 = some (ty_L k) := by decide +kernel
theorem kt_P : ∀ w ∈ u_ws "EventKeeper$Projection" T_P 8, w ∈ kx_tb := by
  have h : (u_ws "EventKeeper$Projection" T_P 8).all (fun w => decide (w ∈ tables_1) && goodWord w) = true := by decide +kernel
  intro w hw
  have h1 := List.all_eq_true.mp h w hw
  simp only [Bool.and_eq_true, decide_eq_true_eq] at h1
  exact List.mem_filter.mpr ⟨List.mem_append_right _ h1.1, h1.2⟩
theorem kn_P : ∀ a, a < 8 → ∀ b, b < 8 → a ≠ b → (T_P a).2.1 ≠ (T_P b).2.1 := by decide +kernel
theorem kp_P : ∀ k, k < 8 → parseFieldDescriptor (T_P k).2.2.1 = some (ty_P k) := by decide +kernel
theorem kt_S : ∀ w ∈ u_ws "EventKeeper$Subscription" T_S 4, w ∈ kx_tb := by
  have h : (u_ws "EventKeeper$Subscription" T_S 4).all (fun w => decide (w ∈ tables_1) && goodWord w) = true := by decide +kernel
  intro w hw
  have h1 := List.all_eq_true.mp h w hw
  simp only [Bool.and_eq_true, decide_eq_true_eq] at h1
  exact List.mem_filter.mpr ⟨List.mem_append_right _ h1.1, h1.2⟩
theorem kn_S : ∀ a, a < 4 → ∀ b, b < 4 → a ≠ b → (T_S a).2.1 ≠ (T_S b).2.1 := by decide +kernel
theorem kp_S : ∀ k, k < 4 → parseFieldDescriptor (T_S k).2.2.1 = some (ty_S k) := by decide +kernel
theorem kt_M : ∀ w ∈ u_ws "EventKeeperModel" T_M 19, w ∈ kx_tb := by
  have h : (u_ws "EventKeeperModel" T_M 19).all (fun w => decide (w ∈ tables_1) && goodWord w) = true := by decide +kernel
  intro w hw
  have h1 := List.all_eq_true.mp h w hw
  simp only [Bool.and_eq_true, decide_eq_true_eq] at h1
  exact List.mem_filter.mpr ⟨List.mem_append_right _ h1.1, h1.2⟩
theorem kn_M : ∀ a, a < 19 → ∀ b, b < 19 → a ≠ b → (T_M a).2.1 ≠ (T_M b).2.1 := by decide +kernel
theorem kp_M : ∀ k, k < 19 → parseFieldDescriptor (T_M k).2.2.1 = some (ty_M k) := by decide +kernel
