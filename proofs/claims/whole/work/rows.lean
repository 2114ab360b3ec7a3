section
-- ===== PART A: goes FIRST, ahead of the names: the tables' words, and 'selects' of the private methods out of them =====
/-- a private method of a class that the tables say can be made, by its rows of tables_1 -/
def lw_okq (q : MethodName × Nat) : Prop := (q.1.cls ≠ "java/lang/invoke/MethodHandle" ∧ q.1.cls ≠ "java/lang/invoke/VarHandle") ∧ Cond.instantiable q.1.cls q.2 ∈ tables_1 ∧ Cond.privateMethod q.1 ∈ tables_1 ∧ Cond.instanceMethod q.1 ∈ tables_1
theorem lw_p0 : lw_okq (⟨"EventKeeper$Log", "forgetCause", "(I)V"⟩, 11) := ⟨⟨by decide +kernel, by decide +kernel⟩, List.mem_of_getElem? (i := 23) (by decide +kernel), List.mem_of_getElem? (i := 163) (by decide +kernel), List.mem_of_getElem? (i := 164) (by decide +kernel)⟩
theorem lw_p1 : lw_okq (⟨"EventKeeper$Projection", "startOver", "()V"⟩, 8) := ⟨⟨by decide +kernel, by decide +kernel⟩, List.mem_of_getElem? (i := 83) (by decide +kernel), List.mem_of_getElem? (i := 171) (by decide +kernel), List.mem_of_getElem? (i := 172) (by decide +kernel)⟩
theorem lw_p2 : lw_okq (⟨"java/lang/Throwable", "fillInStackTrace", "(I)Ljava/lang/Throwable;"⟩, 6) := ⟨⟨by decide +kernel, by decide +kernel⟩, List.mem_of_getElem? (i := 239) (by decide +kernel), List.mem_of_getElem? (i := 237) (by decide +kernel), List.mem_of_getElem? (i := 238) (by decide +kernel)⟩
theorem lw_p3 : lw_okq (⟨"EventKeeper$Projection", "targetCell", "(LEventKeeper$Log;)I"⟩, 8) := ⟨⟨by decide +kernel, by decide +kernel⟩, List.mem_of_getElem? (i := 83) (by decide +kernel), List.mem_of_getElem? (i := 337) (by decide +kernel), List.mem_of_getElem? (i := 338) (by decide +kernel)⟩
theorem lw_p4 : lw_okq (⟨"EventKeeper$Projection", "countAndEmit", "(LEventKeeper$Log;I)Z"⟩, 8) := ⟨⟨by decide +kernel, by decide +kernel⟩, List.mem_of_getElem? (i := 83) (by decide +kernel), List.mem_of_getElem? (i := 342) (by decide +kernel), List.mem_of_getElem? (i := 343) (by decide +kernel)⟩
theorem lw_p5 : lw_okq (⟨"EventKeeper$Subscription", "letsThrough", "(II)Z"⟩, 4) := ⟨⟨by decide +kernel, by decide +kernel⟩, List.mem_of_getElem? (i := 117) (by decide +kernel), List.mem_of_getElem? (i := 410) (by decide +kernel), List.mem_of_getElem? (i := 411) (by decide +kernel)⟩
theorem lw_p6 : lw_okq (⟨"EventKeeper", "checkPlace", "(I)V"⟩, 3) := ⟨⟨by decide +kernel, by decide +kernel⟩, List.mem_of_getElem? (i := 15) (by decide +kernel), List.mem_of_getElem? (i := 421) (by decide +kernel), List.mem_of_getElem? (i := 422) (by decide +kernel)⟩
theorem lw_p7 : lw_okq (⟨"EventKeeperModel", "fails", "(ZI)Z"⟩, 19) := ⟨⟨by decide +kernel, by decide +kernel⟩, List.mem_of_getElem? (i := 467) (by decide +kernel), List.mem_of_getElem? (i := 542) (by decide +kernel), List.mem_of_getElem? (i := 543) (by decide +kernel)⟩
theorem lw_p8 : lw_okq (⟨"EventKeeperModel", "inStream", "(II)I"⟩, 19) := ⟨⟨by decide +kernel, by decide +kernel⟩, List.mem_of_getElem? (i := 467) (by decide +kernel), List.mem_of_getElem? (i := 546) (by decide +kernel), List.mem_of_getElem? (i := 547) (by decide +kernel)⟩
theorem lw_p9 : lw_okq (⟨"EventKeeperModel", "put", "(IIJII)I"⟩, 19) := ⟨⟨by decide +kernel, by decide +kernel⟩, List.mem_of_getElem? (i := 467) (by decide +kernel), List.mem_of_getElem? (i := 550) (by decide +kernel), List.mem_of_getElem? (i := 551) (by decide +kernel)⟩
theorem lw_p10 : lw_okq (⟨"EventKeeperModel", "begin", "(I)V"⟩, 19) := ⟨⟨by decide +kernel, by decide +kernel⟩, List.mem_of_getElem? (i := 467) (by decide +kernel), List.mem_of_getElem? (i := 561) (by decide +kernel), List.mem_of_getElem? (i := 562) (by decide +kernel)⟩
theorem lw_p11 : lw_okq (⟨"EventKeeperModel", "takes", "(II)Z"⟩, 19) := ⟨⟨by decide +kernel, by decide +kernel⟩, List.mem_of_getElem? (i := 467) (by decide +kernel), List.mem_of_getElem? (i := 569) (by decide +kernel), List.mem_of_getElem? (i := 570) (by decide +kernel)⟩
theorem lw_p12 : lw_okq (⟨"EventKeeperModel", "isNone", "(I)Z"⟩, 19) := ⟨⟨by decide +kernel, by decide +kernel⟩, List.mem_of_getElem? (i := 467) (by decide +kernel), List.mem_of_getElem? (i := 609) (by decide +kernel), List.mem_of_getElem? (i := 610) (by decide +kernel)⟩
def lw_privs_1 : List (MethodName × Nat) := [(⟨"EventKeeper$Log", "forgetCause", "(I)V"⟩, 11), (⟨"EventKeeper$Projection", "startOver", "()V"⟩, 8), (⟨"java/lang/Throwable", "fillInStackTrace", "(I)Ljava/lang/Throwable;"⟩, 6), (⟨"EventKeeper$Projection", "targetCell", "(LEventKeeper$Log;)I"⟩, 8), (⟨"EventKeeper$Projection", "countAndEmit", "(LEventKeeper$Log;I)Z"⟩, 8), (⟨"EventKeeper$Subscription", "letsThrough", "(II)Z"⟩, 4), (⟨"EventKeeper", "checkPlace", "(I)V"⟩, 3), (⟨"EventKeeperModel", "fails", "(ZI)Z"⟩, 19), (⟨"EventKeeperModel", "inStream", "(II)I"⟩, 19), (⟨"EventKeeperModel", "put", "(IIJII)I"⟩, 19), (⟨"EventKeeperModel", "begin", "(I)V"⟩, 19), (⟨"EventKeeperModel", "takes", "(II)Z"⟩, 19), (⟨"EventKeeperModel", "isNone", "(I)Z"⟩, 19)]
theorem lw_r1 : ∀ q ∈ lw_privs_1, lw_okq q := List.forall_mem_cons.mpr ⟨lw_p0, List.forall_mem_cons.mpr ⟨lw_p1, List.forall_mem_cons.mpr ⟨lw_p2, List.forall_mem_cons.mpr ⟨lw_p3, List.forall_mem_cons.mpr ⟨lw_p4, List.forall_mem_cons.mpr ⟨lw_p5, List.forall_mem_cons.mpr ⟨lw_p6, List.forall_mem_cons.mpr ⟨lw_p7, List.forall_mem_cons.mpr ⟨lw_p8, List.forall_mem_cons.mpr ⟨lw_p9, List.forall_mem_cons.mpr ⟨lw_p10, List.forall_mem_cons.mpr ⟨lw_p11, List.forall_mem_cons.mpr ⟨lw_p12, fun _ h => absurd h List.not_mem_nil⟩⟩⟩⟩⟩⟩⟩⟩⟩⟩⟩⟩⟩
def lw_privs : List (MethodName × Nat) := lw_privs_1
def lw_tbl : List Cond := k2_sels lw_privs ++ tables_1
theorem lw_privs_ok : ∀ q ∈ lw_privs, lw_okq q := lw_r1

/-! words, by their places in the tables -/
def kx_tb : List Cond := lw_tbl.filter goodWord
theorem kx_tb_good : kx_tb.all goodWord = true := List.all_eq_true.mpr (fun _ hw => (List.mem_filter.mp hw).2)
theorem kx_t {w : Cond} (i : Nat) (h : tables_1[i]? = some w) (g : goodWord w = true) : w ∈ kx_tb := List.mem_filter.mpr ⟨List.mem_append_right _ (List.mem_of_getElem? h), g⟩
theorem kx_ts {w : Cond} (i : Nat) (h : (k2_sels lw_privs)[i]? = some w) (g : goodWord w = true) : w ∈ kx_tb := List.mem_filter.mpr ⟨List.mem_append_left _ (List.mem_of_getElem? h), g⟩
def T_EK : u_T := fun k => match k with
  | 0 => ("EventKeeper", "log", "LEventKeeper$Log;", true)
  | 1 => ("EventKeeper", "projections", "[LEventKeeper$Projection;", true)
  | _ => ("EventKeeper", "subscriptions", "[LEventKeeper$Subscription;", true)
def ty_EK : Nat → FieldType := fun k => match k with
  | 0 => .object "EventKeeper$Log"
  | 1 => .array (.object "EventKeeper$Projection")
  | _ => .array (.object "EventKeeper$Subscription")
def T_L : u_T := fun k => match k with
  | 0 => ("EventKeeper$Log", "streams", "[I", true)
  | 1 => ("EventKeeper$Log", "versions", "[I", true)
  | 2 => ("EventKeeper$Log", "kinds", "[I", true)
  | 3 => ("EventKeeper$Log", "values", "[J", true)
  | 4 => ("EventKeeper$Log", "causeProjections", "[I", true)
  | 5 => ("EventKeeper$Log", "causePlaces", "[I", true)
  | 6 => ("EventKeeper$Log", "emitters", "[I", true)
  | 7 => ("EventKeeper$Log", "streamSizes", "[I", true)
  | 8 => ("EventKeeper$Log", "emittedSizes", "[I", true)
  | 9 => ("EventKeeper$Log", "size", "I", false)
  | _ => ("EventKeeper$Log", "durableSize", "I", false)
def ty_L : Nat → FieldType := fun k => match k with
  | 0 => .array .int
  | 1 => .array .int
  | 2 => .array .int
  | 3 => .array .long
  | 4 => .array .int
  | 5 => .array .int
  | 6 => .array .int
  | 7 => .array .int
  | 8 => .array .int
  | 9 => .int
  | _ => .int
def T_P : u_T := fun k => match k with
  | 0 => ("EventKeeper$Projection", "number", "I", true)
  | 1 => ("EventKeeper$Projection", "actions", "[I", true)
  | 2 => ("EventKeeper$Projection", "targets", "[I", true)
  | 3 => ("EventKeeper$Projection", "cells", "[J", true)
  | 4 => ("EventKeeper$Projection", "position", "I", false)
  | 5 => ("EventKeeper$Projection", "savedCells", "[J", true)
  | 6 => ("EventKeeper$Projection", "savedPosition", "I", false)
  | _ => ("EventKeeper$Projection", "savedLogSize", "I", false)
def ty_P : Nat → FieldType := fun k => match k with
  | 0 => .int
  | 1 => .array .int
  | 2 => .array .int
  | 3 => .array .long
  | 4 => .int
  | 5 => .array .long
  | 6 => .int
  | _ => .int
def T_S : u_T := fun k => match k with
  | 0 => ("EventKeeper$Subscription", "onlyStream", "I", false)
  | 1 => ("EventKeeper$Subscription", "kindBits", "I", false)
  | 2 => ("EventKeeper$Subscription", "position", "I", false)
  | _ => ("EventKeeper$Subscription", "safePosition", "I", false)
def ty_S : Nat → FieldType := fun k => match k with
  | 0 => .int
  | 1 => .int
  | 2 => .int
  | _ => .int
def T_M : u_T := fun k => match k with
  | 0 => ("EventKeeperModel", "err", "I", false)
  | 1 => ("EventKeeperModel", "events", "I", false)
  | 2 => ("EventKeeperModel", "durable", "I", false)
  | 3 => ("EventKeeperModel", "stream", "[I", true)
  | 4 => ("EventKeeperModel", "kind", "[I", true)
  | 5 => ("EventKeeperModel", "causeOf", "[I", true)
  | 6 => ("EventKeeperModel", "causeAt", "[I", true)
  | 7 => ("EventKeeperModel", "value", "[J", true)
  | 8 => ("EventKeeperModel", "cell", "[J", true)
  | 9 => ("EventKeeperModel", "saved", "[J", true)
  | 10 => ("EventKeeperModel", "does", "[I", true)
  | 11 => ("EventKeeperModel", "where", "[I", true)
  | 12 => ("EventKeeperModel", "position", "[I", true)
  | 13 => ("EventKeeperModel", "savedAt", "[I", true)
  | 14 => ("EventKeeperModel", "savedOf", "[I", true)
  | 15 => ("EventKeeperModel", "from", "[I", true)
  | 16 => ("EventKeeperModel", "kinds", "[I", true)
  | 17 => ("EventKeeperModel", "place", "[I", true)
  | _ => ("EventKeeperModel", "safe", "[I", true)
def ty_M : Nat → FieldType := fun k => match k with
  | 0 => .int
  | 1 => .int
  | 2 => .int
  | 3 => .array .int
  | 4 => .array .int
  | 5 => .array .int
  | 6 => .array .int
  | 7 => .array .long
  | 8 => .array .long
  | 9 => .array .long
  | 10 => .array .int
  | 11 => .array .int
  | 12 => .array .int
  | 13 => .array .int
  | 14 => .array .int
  | 15 => .array .int
  | 16 => .array .int
  | 17 => .array .int
  | _ => .array .int
abbrev kx_cls : List vw_C := [("EventKeeper", T_EK, 3), ("EventKeeper$Log", T_L, 11), ("EventKeeper$Projection", T_P, 8), ("EventKeeper$Subscription", T_S, 4), ("EventKeeperModel", T_M, 19)]
abbrev kc_EK : Nat := 0
abbrev kc_L : Nat := 1
abbrev kc_P : Nat := 2
abbrev kc_S : Nat := 3
abbrev kc_M : Nat := 4
def kx_q0 : String := "EventKeeper$Projection"
def kx_q1 : String := "EventKeeper$Subscription"
def kx_strs : List (String × Nat × String) := [("EventKeeper", 157, "an argument is out of its range"), ("EventKeeper", 48, "the stream has another number of events"), ("EventKeeper", 59, "the log is full"), ("EventKeeper", 85, "there is no such cell"), ("EventKeeper", 159, "there is no event at this place"), ("EventKeeper", 143, "the stream has no such version"), ("EventKeeper", 154, "there is nothing such to count")]
def kx_exc : List String := ["java/lang/IllegalArgumentException", "java/lang/IllegalStateException", "java/lang/IndexOutOfBoundsException"]
theorem kt_EK : ∀ w ∈ u_ws "EventKeeper" T_EK 3, w ∈ kx_tb := by
  have h : (u_ws "EventKeeper" T_EK 3).all (fun w => decide (w ∈ tables_1) && goodWord w) = true := by decide +kernel
  intro w hw
  have h1 := List.all_eq_true.mp h w hw
  simp only [Bool.and_eq_true, decide_eq_true_eq] at h1
  exact List.mem_filter.mpr ⟨List.mem_append_right _ h1.1, h1.2⟩
theorem kn_EK : ∀ a, a < 3 → ∀ b, b < 3 → a ≠ b → (T_EK a).2.1 ≠ (T_EK b).2.1 := by decide +kernel
theorem kp_EK : ∀ k, k < 3 → parseFieldDescriptor (T_EK k).2.2.1 = some (ty_EK k) := by decide +kernel
theorem kt_L : ∀ w ∈ u_ws "EventKeeper$Log" T_L 11, w ∈ kx_tb := by
  have h : (u_ws "EventKeeper$Log" T_L 11).all (fun w => decide (w ∈ tables_1) && goodWord w) = true := by decide +kernel
  intro w hw
  have h1 := List.all_eq_true.mp h w hw
  simp only [Bool.and_eq_true, decide_eq_true_eq] at h1
  exact List.mem_filter.mpr ⟨List.mem_append_right _ h1.1, h1.2⟩
theorem kn_L : ∀ a, a < 11 → ∀ b, b < 11 → a ≠ b → (T_L a).2.1 ≠ (T_L b).2.1 := by decide +kernel
theorem kp_L : ∀ k, k < 11 → parseFieldDescriptor (T_L k).2.2.1 = some (ty_L k) := by decide +kernel
theorem kt_P : ∀ w ∈ u_ws "EventKeeper$Projection" T_P 8, w ∈ kx_tb := by
  have h : (u_ws "EventKeeper$Projection" T_P 8).all (fun w => decide (w ∈ tables_1) && goodWord w) = true := by decide +kernel
  intro w hw
  have h1 := List.all_eq_true.mp h w hw
  simp only [Bool.and_eq_true, decide_eq_true_eq] at h1
  exact List.mem_filter.mpr ⟨List.mem_append_right _ h1.1, h1.2⟩
theorem kn_P : ∀ a, a < 8 → ∀ b, b < 8 → a ≠ b → (T_P a).2.1 ≠ (T_P b).2.1 := by decide +kernel
theorem kp_P : ∀ k, k < 8 → parseFieldDescriptor (T_P k).2.2.1 = some (ty_P k) := by decide +kernel
theorem kt_S : ∀ w ∈ u_ws "EventKeeper$Subscription" T_S 4, w ∈ kx_tb := by
  have h : (u_ws "EventKeeper$Subscription" T_S 4).all (fun w => decide (w ∈ tables_1) && goodWord w) = true := by decide +kernel
  intro w hw
  have h1 := List.all_eq_true.mp h w hw
  simp only [Bool.and_eq_true, decide_eq_true_eq] at h1
  exact List.mem_filter.mpr ⟨List.mem_append_right _ h1.1, h1.2⟩
theorem kn_S : ∀ a, a < 4 → ∀ b, b < 4 → a ≠ b → (T_S a).2.1 ≠ (T_S b).2.1 := by decide +kernel
theorem kp_S : ∀ k, k < 4 → parseFieldDescriptor (T_S k).2.2.1 = some (ty_S k) := by decide +kernel
theorem kt_M : ∀ w ∈ u_ws "EventKeeperModel" T_M 19, w ∈ kx_tb := by
  have h : (u_ws "EventKeeperModel" T_M 19).all (fun w => decide (w ∈ tables_1) && goodWord w) = true := by decide +kernel
  intro w hw
  have h1 := List.all_eq_true.mp h w hw
  simp only [Bool.and_eq_true, decide_eq_true_eq] at h1
  exact List.mem_filter.mpr ⟨List.mem_append_right _ h1.1, h1.2⟩
theorem kn_M : ∀ a, a < 19 → ∀ b, b < 19 → a ≠ b → (T_M a).2.1 ≠ (T_M b).2.1 := by decide +kernel
theorem kp_M : ∀ k, k < 19 → parseFieldDescriptor (T_M k).2.2.1 = some (ty_M k) := by decide +kernel
end
section
abbrev kx_c : Type := (Nat × (Nat → Int32)) ⊕ (Nat × (Nat → Int64)) ⊕ (Nat × Nat × (Nat → Option Nat)) ⊕ (Nat × List Value)
abbrev kx_ci (n : Nat) (f : Nat → Int32) : kx_c := Sum.inl (n, f)
abbrev kx_cl (n : Nat) (f : Nat → Int64) : kx_c := Sum.inr (Sum.inl (n, f))
abbrev kx_cq (t n : Nat) (f : Nat → Option Nat) : kx_c := Sum.inr (Sum.inr (Sum.inl (t, n, f)))
abbrev kx_co (ci : Nat) (fs : List Value) : kx_c := Sum.inr (Sum.inr (Sum.inr (ci, fs)))
abbrev kx_H : Type := Nat → Option kx_c
def kx_set (h : kx_H) (i : Nat) (c : kx_c) : kx_H := fun j => if j = i then some c else h j
theorem kx_set_s {h : kx_H} {i : Nat} {c : kx_c} : kx_set h i c i = some c := by simp [kx_set]
theorem kx_set_n {h : kx_H} {i j : Nat} {c : kx_c} (hj : j ≠ i) : kx_set h i c j = h j := by simp [kx_set, hj]
abbrev kx_E : Type := Launch × State × va_G × (Nat → Nat)
def kx_B (E : kx_E) : Nat := E.2.1.heap.size
def kx_v (B : Nat) : Value → Value
  | .int x => .int x
  | .long x => .long x
  | .float x => .float x
  | .double x => .double x
  | .null => .null
  | .ref i => .ref (B + i)
  | .retAddr k => .ref k
def kx_rf (B : Nat) : Option Nat → Value
  | none => .null
  | some i => .ref (B + i)
theorem kx_v_cat (B : Nat) (v : Value) : (kx_v B v).category = v.category := by cases v <;> rfl
abbrev kx_s (E : kx_E) (st : List Value) : List Value := st.map (kx_v (kx_B E))
abbrev kx_l (E : kx_E) (lv : List (Nat × Value)) : List (Nat × Value) := lv.map (fun q => (q.1, kx_v (kx_B E) q.2))
theorem kx_s_cat (E : kx_E) (st : List Value) : ((kx_s E st).map fun v => v.category).sum = (st.map fun v => v.category).sum := by
  show ((st.map (kx_v (kx_B E))).map fun v => v.category).sum = _
  rw [List.map_map]
  congr 1
  apply List.map_congr_left
  intro v _
  exact kx_v_cat _ v
def kx_lk : List (Nat × Value) → Nat → Option Value
  | [], _ => none
  | q :: l, i => match Nat.beq q.1 i with
    | true => some q.2
    | false => kx_lk l i
theorem kx_lk_mem : ∀ {l : List (Nat × Value)} {i : Nat} {v : Value}, kx_lk l i = some v → (i, v) ∈ l
  | [], _, _, h => by simp [kx_lk] at h
  | q :: l, i, v, h => by
    cases hb : Nat.beq q.1 i with
    | true =>
      have e : q.1 = i := Nat.eq_of_beq_eq_true hb
      simp only [kx_lk, hb, Option.some.injEq] at h
      obtain ⟨a, b⟩ := q
      cases e
      cases h
      exact List.mem_cons_self
    | false =>
      simp only [kx_lk, hb] at h
      exact List.mem_cons_of_mem _ (kx_lk_mem h)
theorem kx_l_at {E : kx_E} {ls : Array Slot} {nL : Nat} {lv : List (Nat × Value)} {i : Nat} {v : Value} (hV : lv_has ls nL (kx_l E lv)) (h : kx_lk lv i = some v) : ls[i]? = some (.val (kx_v (kx_B E) v)) :=
  hV.2.2 (i, kx_v (kx_B E) v) (List.mem_map.mpr ⟨(i, v), kx_lk_mem h, rfl⟩)
theorem kx_l_st1 (E : kx_E) (lv : List (Nat × Value)) (i : Nat) (v : Value) : (i, kx_v (kx_B E) v) :: (kx_l E lv).filter (fun q => !(q.1 == i) && !(q.1 + 1 == i && q.2.category == 2)) = kx_l E ((i, v) :: lv.filter (fun q => !(q.1 == i) && !(q.1 + 1 == i && q.2.category == 2))) := by
  show _ = (i, kx_v (kx_B E) v) :: (lv.filter _).map _
  congr 1
  rw [List.filter_map]
  congr 1
  apply List.filter_congr
  intro q _
  simp only [Function.comp, kx_v_cat]
theorem kx_l_st2 (E : kx_E) (lv : List (Nat × Value)) (i : Nat) (v : Value) : (i, kx_v (kx_B E) v) :: (kx_l E lv).filter (fun q => !(q.1 == i) && (!(q.1 == i + 1) && !(q.1 + 1 == i && q.2.category == 2))) = kx_l E ((i, v) :: lv.filter (fun q => !(q.1 == i) && (!(q.1 == i + 1) && !(q.1 + 1 == i && q.2.category == 2)))) := by
  show _ = (i, kx_v (kx_B E) v) :: (lv.filter _).map _
  congr 1
  rw [List.filter_map]
  congr 1
  apply List.filter_congr
  intro q _
  simp only [Function.comp, kx_v_cat]
theorem kx_args (E : kx_E) : ∀ (as : List Value) (i : Nat), lv_args i (kx_s E as) = kx_l E (lv_args i as)
  | [], _ => rfl
  | v :: vs, i => by
    show (i, kx_v (kx_B E) v) :: lv_args (if (kx_v (kx_B E) v).category = 2 then i + 2 else i + 1) (kx_s E vs) = (i, kx_v (kx_B E) v) :: kx_l E (lv_args (if v.category = 2 then i + 2 else i + 1) vs)
    rw [kx_v_cat, kx_args E vs]
theorem kx_sl (E : kx_E) : ∀ (as : List Value), (lg_sl (kx_s E as)).length = (lg_sl as).length
  | [] => rfl
  | v :: vs => by
    have h := kx_sl E vs
    simp only [lg_sl, List.map_cons, List.flatMap_cons, List.length_append, kx_v_cat] at h ⊢
    rw [h]
    by_cases hc : v.category = 2 <;> simp [hc]
def kx_at (E : kx_E) (i : Nat) (c : kx_c) (H : Heap) : Prop := match c with
  | Sum.inl x => H[kx_B E + i]? = some (arrV (E.2.2.2 0) x.1 (fun j => .int (x.2 j)))
  | Sum.inr (Sum.inl x) => H[kx_B E + i]? = some (arrV (E.2.2.2 1) x.1 (fun j => .long (x.2 j)))
  | Sum.inr (Sum.inr (Sum.inl x)) => H[kx_B E + i]? = some (arrV (E.2.2.2 (2 + x.1)) x.2.1 (fun j => kx_rf (kx_B E) (x.2.2 j)))
  | Sum.inr (Sum.inr (Sum.inr x)) => ∃ r : vw_C, kx_cls[x.1]? = some r ∧ t_OB (kx_B E + i) (E.2.2.1.1 x.1) r.2.2 (E.2.2.1.2 x.1) H (fun k => kx_v (kx_B E) (x.2.getD k .null))
theorem kx_at.kept {E : kx_E} {i : Nat} {c : kx_c} {H H1 : Heap} (h : kx_at E i c H) (hq : H1[kx_B E + i]? = H[kx_B E + i]?) : kx_at E i c H1 := by
  rcases c with x | x | x | x
  · exact hq.trans h
  · exact hq.trans h
  · exact hq.trans h
  · obtain ⟨r, h1, h2⟩ := h
    exact ⟨r, h1, h2.kept hq⟩
theorem kx_at.cell {E : kx_E} {i : Nat} {c : kx_c} {H : Heap} (h : kx_at E i c H) : ∃ cell : Cell, H[kx_B E + i]? = some cell ∧ cell.vm = .none := by
  rcases c with x | x | x | x
  · exact ⟨_, h, rfl⟩
  · exact ⟨_, h, rfl⟩
  · exact ⟨_, h, rfl⟩
  · obtain ⟨r, h1, cell, h2, -, h3, -⟩ := h
    exact ⟨cell, h2, h3⟩
theorem kx_at.lt {E : kx_E} {i : Nat} {c : kx_c} {H : Heap} (h : kx_at E i c H) : kx_B E + i < H.size := by
  obtain ⟨cell, h1, -⟩ := h.cell
  exact (Array.getElem?_eq_some_iff.mp h1).1
def kx_P (E : kx_E) (n : Nat) (h : kx_H) (H : Heap) : Prop :=
  H.size = kx_B E + n ∧ (∀ q : Nat, q < kx_B E → H[q]? = E.2.1.heap[q]?) ∧ (∀ (q : Nat) (cell : Cell), kx_B E ≤ q → H[q]? = some cell → cell.vm.isStatics = false) ∧ ∀ (i : Nat) (c : kx_c), h i = some c → kx_at E i c H
theorem kx_P.set {E : kx_E} {n : Nat} {h : kx_H} {H H1 : Heap} (P : kx_P E n h H) {i : Nat} {c : kx_c} (z : H1.size = H.size) (oq : ∀ q : Nat, q ≠ kx_B E + i → H1[q]? = H[q]?) (hc : kx_at E i c H1) : kx_P E n (kx_set h i c) H1 := by
  obtain ⟨p1, p2, p3, p4⟩ := P
  refine ⟨z.trans p1, fun q hq => ?_, fun q cell hq hcl => ?_, fun j d hj => ?_⟩
  · rw [oq q (by omega)]; exact p2 q hq
  · by_cases e : q = kx_B E + i
    · subst e
      obtain ⟨cell', h1, h2⟩ := hc.cell
      rw [h1] at hcl
      cases hcl
      rw [h2]; rfl
    · rw [oq q e] at hcl
      exact p3 q cell hq hcl
  · by_cases e : j = i
    · subst e
      rw [kx_set_s] at hj
      cases hj
      exact hc
    · rw [kx_set_n e] at hj
      exact (p4 j d hj).kept (oq _ (by omega))
theorem kx_P.junk {E : kx_E} {n : Nat} {h : kx_H} {H H1 : Heap} (P : kx_P E n h H) (z : H1.size = H.size + 1) (oq : ∀ q : Nat, q < H.size → H1[q]? = H[q]?) (hn : ∀ cell, H1[H.size]? = some cell → cell.vm.isStatics = false) : kx_P E (n + 1) h H1 := by
  obtain ⟨p1, p2, p3, p4⟩ := P
  refine ⟨by omega, fun q hq => ?_, fun q cell hq hcl => ?_, fun j d hj => (p4 j d hj).kept (oq _ (p4 j d hj).lt)⟩
  · rw [oq q (by omega)]; exact p2 q hq
  · have hlt := (Array.getElem?_eq_some_iff.mp hcl).1
    by_cases e : q = H.size
    · subst e
      exact hn cell hcl
    · rw [oq q (by omega)] at hcl
      exact p3 q cell hq hcl
theorem kx_P.push {E : kx_E} {n : Nat} {h : kx_H} {H H1 : Heap} (P : kx_P E n h H) {c : kx_c} (z : H1.size = H.size + 1) (oq : ∀ q : Nat, q < H.size → H1[q]? = H[q]?) (hc : kx_at E n c H1) : kx_P E (n + 1) (kx_set h n c) H1 := by
  have hs : H.size = kx_B E + n := P.1
  have P1 : kx_P E (n + 1) h H1 := P.junk z oq (fun cell hcl => by
    obtain ⟨cell', h1, h2⟩ := hc.cell
    rw [← hs, hcl] at h1
    cases h1
    rw [h2]; rfl)
  refine ⟨P1.1, P1.2.1, P1.2.2.1, fun j d hj => ?_⟩
  by_cases e : j = n
  · subst e
    rw [kx_set_s] at hj
    cases hj
    exact hc
  · rw [kx_set_n e] at hj
    exact P1.2.2.2 j d hj
def kx_hw : List Cond := [.laysStatic "java/lang/Throwable" "UNASSIGNED_STACK" "[Ljava/lang/StackTraceElement;", .laysStatic "java/lang/Throwable" "SUPPRESSED_SENTINEL" "Ljava/util/List;"]
def kx_hr : List Cond := [.isRef (.static "java/lang/Throwable" "UNASSIGNED_STACK" "[Ljava/lang/StackTraceElement;"), .isRef (.static "java/lang/Throwable" "SUPPRESSED_SENTINEL" "Ljava/util/List;")]
def kx_T (s : State) : Prop := (∀ w ∈ kx_hw, ∀ a : Array Value, w.before a s = true) ∧ (∀ w ∈ kx_hr, ∀ a : Array Value, w.before a s = true) ∧ ∀ q ∈ kx_strs, ∃ a : Nat, vk_R q.1 q.2.1 q.2.2 a s
theorem kx_lays {s U : State} (hW : s.WarmedH U.vm) (hh : ∀ q : Nat, q < s.heap.size → U.heap[q]? = s.heap[q]?) {O f d : String} {a' a'' : Array Value} (h : (Cond.laysStatic O f d).before a' s = true) : (Cond.laysStatic O f d).before a'' U = true := by
  obtain ⟨c, k, i, fd, a, cell, hc, hi, hst, ha, hcell, hs, hcls, hlt, hty⟩ := Cond.laysStatic_spec h
  obtain ⟨k', hi', he⟩ := State.fieldFound?_setVm hW.alike hi
  have hb := (Array.getElem?_eq_some_iff.mp hcell).1
  exact Cond.laysStatic_of (s := U) (by rw [hW.alike.findClass]; exact hc) hi' hst (by rw [he]; exact ha) (by rw [hh a hb]; exact hcell) hs hcls hlt (by rw [he]; exact hty)
theorem kx_isref {s U : State} (hW : s.WarmedH U.vm) (hh : ∀ q : Nat, q < s.heap.size → U.heap[q]? = s.heap[q]?) {O f d : String} {a' a'' : Array Value} (hl : (Cond.laysStatic O f d).before a' s = true) (h : (Cond.isRef (.static O f d)).before a' s = true) : (Cond.isRef (.static O f d)).before a'' U = true := by
  obtain ⟨c, k, i, fd, a, cell, hc, hi, hst, ha, hcell, hs, hcls, hlt, hty⟩ := Cond.laysStatic_spec hl
  obtain ⟨k', hi', he⟩ := State.fieldFound?_setVm hW.alike hi
  have hb := (Array.getElem?_eq_some_iff.mp hcell).1
  have hcU : U.heap[a]? = some cell := by rw [hh a hb]; exact hcell
  have hiU : U.fieldFound? O f d = some (c, k', i, fd) := hi'
  have haU : k'.statics = some a := by rw [he]; exact ha
  cases hv : (Term.static O f d).eval a' s none [] s with
  | none => simp [Cond.before, Cond.holds, Cond.value, hv] at h
  | some w =>
    obtain ⟨-, a2, cell2, q1, q2, -, q4⟩ := Term.static_spec hi hv
    cases ha.symm.trans q1
    cases hcell.symm.trans q2
    have heU : (Term.static O f d).eval a'' U none [] U = some w := by
      simp [Term.eval, State.fieldNamed?, hiU, hst, haU, hcU, hs, q4]
    simp only [Cond.before, Cond.holds, Cond.value, hv] at h
    simp only [Cond.before, Cond.holds, Cond.value, heU]
    exact h
theorem kx_T.to {s U : State} (h : kx_T s) (hW : s.WarmedH U.vm) (hh : ∀ q : Nat, q < s.heap.size → U.heap[q]? = s.heap[q]?) : kx_T U := by
  obtain ⟨h1, h2, h3⟩ := h
  refine ⟨fun w hw a => ?_, fun w hw a => ?_, fun q hq => ?_⟩
  · simp only [kx_hw, List.mem_cons, List.not_mem_nil, or_false] at hw
    rcases hw with rfl | rfl
    · exact kx_lays hW hh (h1 _ (by simp [kx_hw]) #[])
    · exact kx_lays hW hh (h1 _ (by simp [kx_hw]) #[])
  · simp only [kx_hr, List.mem_cons, List.not_mem_nil, or_false] at hw
    rcases hw with rfl | rfl
    · exact kx_isref hW hh (h1 _ (by simp [kx_hw]) #[]) (h2 _ (by simp [kx_hr]) #[])
    · exact kx_isref hW hh (h1 _ (by simp [kx_hw]) #[]) (h2 _ (by simp [kx_hr]) #[])
  · obtain ⟨a, ha⟩ := h3 q hq
    exact ⟨a, vk_R.warm hW ha⟩
def kx_tys (aC : Nat → Nat) : List (ClassId × FieldType) := [(aC 0, .int), (aC 1, .long), (aC 2, .object kx_q0), (aC 3, .object kx_q1)]
def kx_yes (E : kx_E) (A B : String) : Prop := ∃ a b : ClassId, E.2.1.vm.findClass A = some a ∧ E.2.1.vm.findClass B = some b ∧ E.2.1.vm.assignable a b = true
def kx_no (E : kx_E) (A B : String) : Prop := ∃ a b : ClassId, E.2.1.vm.findClass A = some a ∧ E.2.1.vm.findClass B = some b ∧ E.2.1.vm.assignable a b = false
def kx_G (E : kx_E) : Prop := E.1.stackTraces = false ∧ (∃ a0 : Array Value, ∀ w ∈ lw_tbl, w.before a0 E.2.1 = true) ∧ va_K E.2.2.1 kx_cls (kx_tys E.2.2.2) E.2.1 ∧ kx_T E.2.1 ∧ ∀ A ∈ kx_exc, ∀ B ∈ kx_exc, (A = B → kx_yes E A B) ∧ (A ≠ B → kx_no E A B)
abbrev kx_I : Type := String × ByteArray × Nat × Option FieldType × List (Nat × Nat × Nat × Nat) × String
abbrev kx_Q : Type := (Option Value ⊕ String) → Nat → kx_H → Prop
def kx_C (E : kx_E) (I : kx_I) (d mc ms : Nat) (p : Program) (e : Env) (R : Room) (s : State) (m : MethodId) (args : Array Value) (meth : Method) (c : Code) : Prop :=
  (kx_G E ∧ p.tables.exec = Jvm.exec ∧ c.code = I.2.1 ∧ c.maxLocals = I.2.2.1) ∧ (meth.sig.returnType = I.2.2.2.1 ∧ meth.locks = false ∧ s.vm.findClass I.1 = some m.cls ∧ E.2.1.WarmedH s.vm) ∧
  ((∀ q : Nat, q < kx_B E → s.heap[q]? = E.2.1.heap[q]?) ∧ c.exceptionTable.toList.map (fun x => (x.startPc, x.endPc, x.handlerPc, x.catchType)) = I.2.2.2.2.1 ∧ meth.name = I.2.2.2.2.2) ∧ d ≤ R.frames ∧ 36 * d ≤ R.locals ∧ R.cells = mc ∧ R.slots = ms
section KXC
variable {E : kx_E} {I : kx_I} {d mc ms : Nat} {p : Program} {e : Env} {R : Room} {s : State} {m : MethodId} {args : Array Value} {meth : Method} {c : Code}
theorem kx_C.g (C : kx_C E I d mc ms p e R s m args meth c) : kx_G E := C.1.1
theorem kx_C.ex (C : kx_C E I d mc ms p e R s m args meth c) : p.tables.exec = Jvm.exec := C.1.2.1
theorem kx_C.bt (C : kx_C E I d mc ms p e R s m args meth c) : c.code = I.2.1 := C.1.2.2.1
theorem kx_C.ml (C : kx_C E I d mc ms p e R s m args meth c) : c.maxLocals = I.2.2.1 := C.1.2.2.2
theorem kx_C.rt (C : kx_C E I d mc ms p e R s m args meth c) : meth.sig.returnType = I.2.2.2.1 := C.2.1.1
theorem kx_C.lk (C : kx_C E I d mc ms p e R s m args meth c) : meth.locks = false := C.2.1.2.1
theorem kx_C.own (C : kx_C E I d mc ms p e R s m args meth c) : s.vm.findClass I.1 = some m.cls := C.2.1.2.2.1
theorem kx_C.wm (C : kx_C E I d mc ms p e R s m args meth c) : E.2.1.WarmedH s.vm := C.2.1.2.2.2
theorem kx_C.lo (C : kx_C E I d mc ms p e R s m args meth c) : ∀ q : Nat, q < kx_B E → s.heap[q]? = E.2.1.heap[q]? := C.2.2.1.1
theorem kx_C.tb (C : kx_C E I d mc ms p e R s m args meth c) : c.exceptionTable.toList.map (fun x => (x.startPc, x.endPc, x.handlerPc, x.catchType)) = I.2.2.2.2.1 := C.2.2.1.2.1
theorem kx_C.nm (C : kx_C E I d mc ms p e R s m args meth c) : meth.name = I.2.2.2.2.2 := C.2.2.1.2.2
theorem kx_C.fr (C : kx_C E I d mc ms p e R s m args meth c) : d ≤ R.frames := C.2.2.2.1
theorem kx_C.lc (C : kx_C E I d mc ms p e R s m args meth c) : 36 * d ≤ R.locals := C.2.2.2.2.1
theorem kx_C.rc (C : kx_C E I d mc ms p e R s m args meth c) : R.cells = mc := C.2.2.2.2.2.1
theorem kx_C.rs (C : kx_C E I d mc ms p e R s m args meth c) : R.slots = ms := C.2.2.2.2.2.2
theorem kx_word {E : kx_E} (G : kx_G E) {w : Cond} (hw : w ∈ kx_tb) (a' : Array Value) {U : State} (hU : E.2.1.WarmedH U.vm) : w.before a' U = true := by
  obtain ⟨a0, h⟩ := G.2.1
  exact word_at hU (good_of_word (List.all_eq_true.mp kx_tb_good w hw)) (h w (List.mem_filter.mp hw).1)
def kx_dc (w : Cond) : Bool := match w with
  | .declares _ => true
  | .castable _ _ => true
  | _ => false
theorem kx_word2 {E : kx_E} (G : kx_G E) {w : Cond} (hw : w ∈ lw_tbl) (hd : kx_dc w = true) (a' : Array Value) {U : State} (hU : E.2.1.WarmedH U.vm) : w.before a' U = true := by
  obtain ⟨a0, h⟩ := G.2.1
  have h1 := h w hw
  cases w with
  | declares x => exact va_tabs rfl (rfl : (E.2.1.setVm U.vm).vm = U.vm) (by rw [Cond.declares_setVm hU.alike]; exact h1)
  | castable x y => exact va_tabs rfl (rfl : (E.2.1.setVm U.vm).vm = U.vm) (by rw [Cond.castable_setVm hU.alike]; exact h1)
  | _ => cases hd
theorem kx_C.w (C : kx_C E I d mc ms p e R s m args meth c) {w : Cond} (hw : w ∈ kx_tb) : w.before args s = true := kx_word C.g hw args C.wm
theorem kx_C.k (C : kx_C E I d mc ms p e R s m args meth c) : va_K E.2.2.1 kx_cls (kx_tys E.2.2.2) s := va_K.moved C.wm.alike C.g.2.2.1
end KXC
def kx_O (E : kx_E) (r : Option Value ⊕ String) (o : Outcome) (t : State) : Prop := match r with
  | Sum.inl v => o = .returned (v.map (kx_v (kx_B E)))
  | Sum.inr X => ∃ (a : Addr) (ce : Cell), o = .threw a ∧ t.heap[a]? = some ce ∧ ce.vm.isStatics = false ∧ E.2.1.vm.findClass X = some ce.cls
def kx_Z (E : kx_E) (mc ms : Nat) (Q : kx_Q) (below : List Frame) (s : State) (t : State) : Prop :=
  ∃ o, t.status = .running ∧ Ended t below o ∧ s.WarmedH t.vm ∧ (∃ L, s.sameButNew ({ t with vm := s.vm } : State) L mc ms ∧ ∀ q ∈ L, kx_B E ≤ q.base) ∧ ∃ (r : Option Value ⊕ String) (n : Nat) (h : kx_H), kx_P E n h t.heap ∧ kx_O E r o t ∧ Q r n h
def kx_V (E : kx_E) (I : kx_I) (d mc ms : Nat) (Q : kx_Q) (k j pc : Nat) (lv : List (Nat × Value)) (st : List Value) (n : Nat) (h : kx_H) : Prop :=
  ∀ (p : Program) (e : Env) (R : Room) (s : State) (m : MethodId) (args : Array Value) (below : List Frame) (meth : Method) (c : Code) (H : Heap) (locs : List Loc) (ls : Array Slot) (cells slots : Nat),
    kx_C E I d mc ms p e R s m args meth c → kx_P E n h H → (∀ q ∈ locs, kx_B E ≤ q.base) → lv_has ls I.2.2.1 (kx_l E lv) → cells + k ≤ mc → slots + j ≤ ms →
    W p E.1 e R s m args below meth c H locs cells slots (kx_Z E mc ms Q below s) (F0 m pc ls (kx_s E st))
def kx_X (E : kx_E) (I : kx_I) (d mc ms : Nat) (Q : kx_Q) (k j pc : Nat) (lv : List (Nat × Value)) (X : String) (n : Nat) (h : kx_H) : Prop :=
  ∀ (p : Program) (e : Env) (R : Room) (s : State) (m : MethodId) (args : Array Value) (below : List Frame) (meth : Method) (c : Code) (H : Heap) (locs : List Loc) (ls : Array Slot) (cells slots : Nat),
    kx_C E I d mc ms p e R s m args meth c → kx_P E n h H → (∀ q ∈ locs, kx_B E ≤ q.base) → lv_has ls I.2.2.1 (kx_l E lv) → cells + k ≤ mc → slots + j ≤ ms →
    ∀ (st : List Value) (a : Addr) (ce : Cell), H[a]? = some ce → ce.vm.isStatics = false → E.2.1.vm.findClass X = some ce.cls →
    ∀ T : State, T.heap = H → Stand p E.1 e R s m args below meth c T locs cells slots → ∃ t, Steps p.tables e below ((T.setTop (F0 m pc ls st)).pushFrame (.throwing a)) t ∧ kx_Z E mc ms Q below s t
theorem kx_W_mono {p : Program} {l : Launch} {e : Env} {R : Room} {s : State} {m : MethodId} {args : Array Value} {below : List Frame} {meth : Method} {c : Code} {H : Heap} {locs : List Loc} {cells slots : Nat} {Q Q' : State → Prop} {g : JFrame} (hq : ∀ t, Q t → Q' t) (w : W p l e R s m args below meth c H locs cells slots Q g) : W p l e R s m args below meth c H locs cells slots Q' g := by
  intro T hT X
  obtain ⟨t, a, b⟩ := w T hT X
  exact ⟨t, a, hq t b⟩
theorem kx_up {tb : Tables} {e : Env} {mid below : List Frame} {a b : State} (h : Steps tb e (mid ++ below) a b) : Steps tb e below a b := by
  obtain ⟨n, h1, h2⟩ := h
  exact ⟨n, h1, fun k hk => (h2 k hk).weaken⟩
end
section
section KXR
variable {E : kx_E} {I : kx_I} {d mc ms : Nat} {Q : kx_Q} {k j pc : Nat} {lv : List (Nat × Value)} {st : List Value} {n : Nat} {h : kx_H}
theorem kx_iconst {a : Int} {x : Int32} (hdg : decode I.2.1 pc = .ok (.iconst a, 1)) (hx : Int32.ofInt a = x) (kk : kx_V E I d mc ms Q k j (pc + 1) lv (.int x :: st) n h) : kx_V E I d mc ms Q k j pc lv st n h :=
  fun p e R s m args below meth c H locs ls cells slots C P L V hk hj => lv_iconst C.ex C.bt hdg hx (kk p e R s m args below meth c H locs ls cells slots C P L V hk hj)
theorem kx_bipush {a : Int} {x : Int32} (hdg : decode I.2.1 pc = .ok (.bipush a, 2)) (hx : (Int8.ofInt a).toInt32 = x) (kk : kx_V E I d mc ms Q k j (pc + 2) lv (.int x :: st) n h) : kx_V E I d mc ms Q k j pc lv st n h :=
  fun p e R s m args below meth c H locs ls cells slots C P L V hk hj => lv_bipush C.ex C.bt hdg hx (kk p e R s m args below meth c H locs ls cells slots C P L V hk hj)
theorem kx_sipush {a : Int} {x : Int32} (hdg : decode I.2.1 pc = .ok (.sipush a, 3)) (hx : (Int16.ofInt a).toInt32 = x) (kk : kx_V E I d mc ms Q k j (pc + 3) lv (.int x :: st) n h) : kx_V E I d mc ms Q k j pc lv st n h :=
  fun p e R s m args below meth c H locs ls cells slots C P L V hk hj => lv_sipush C.ex C.bt hdg hx (kk p e R s m args below meth c H locs ls cells slots C P L V hk hj)
theorem kx_lconst {a : Fin 2} {x : Int64} (hdg : decode I.2.1 pc = .ok (.lconst a, 1)) (hx : Int64.ofNat (a : Nat) = x) (kk : kx_V E I d mc ms Q k j (pc + 1) lv (.long x :: st) n h) : kx_V E I d mc ms Q k j pc lv st n h :=
  fun p e R s m args below meth c H locs ls cells slots C P L V hk hj => lv_lconst C.ex C.bt hdg hx (kk p e R s m args below meth c H locs ls cells slots C P L V hk hj)
theorem kx_ldc2 {index : Nat} {x : Int64} (hdg : decode I.2.1 pc = .ok (.ldc2_w index, 3)) (hw : Cond.constantLong I.1 index x ∈ kx_tb) (kk : kx_V E I d mc ms Q k j (pc + 3) lv (.long x :: st) n h) : kx_V E I d mc ms Q k j pc lv st n h :=
  fun p e R s m args below meth c H locs ls cells slots C P L V hk hj => lv_ldc2 C.ex C.bt C.own (C.w hw) hdg (kk p e R s m args below meth c H locs ls cells slots C P L V hk hj)
theorem kx_iload_n {f : Fin 4} {x : Int32} (hdg : decode I.2.1 pc = .ok (.iload_n f, 1)) (hl : kx_lk lv f.val = some (.int x)) (kk : kx_V E I d mc ms Q k j (pc + 1) lv (.int x :: st) n h) : kx_V E I d mc ms Q k j pc lv st n h :=
  fun p e R s m args below meth c H locs ls cells slots C P L V hk hj => lv_iload_n C.ex C.bt hdg rfl (kx_l_at V hl) (kk p e R s m args below meth c H locs ls cells slots C P L V hk hj)
theorem kx_iload {i : Nat} {x : Int32} (hdg : decode I.2.1 pc = .ok (.iload i, 2)) (hl : kx_lk lv i = some (.int x)) (kk : kx_V E I d mc ms Q k j (pc + 2) lv (.int x :: st) n h) : kx_V E I d mc ms Q k j pc lv st n h :=
  fun p e R s m args below meth c H locs ls cells slots C P L V hk hj => lv_iload C.ex C.bt hdg (kx_l_at V hl) (kk p e R s m args below meth c H locs ls cells slots C P L V hk hj)
theorem kx_istore_n {f : Fin 4} {i : Nat} {x : Int32} {lv' : List (Nat × Value)} (hdg : decode I.2.1 pc = .ok (.istore_n f, 1)) (hf : (f : Nat) = i) (hn : i < I.2.2.1) (hl : (i, Value.int x) :: lv.filter (fun q => !(q.1 == i) && !(q.1 + 1 == i && q.2.category == 2)) = lv') (kk : kx_V E I d mc ms Q k j (pc + 1) lv' st n h) : kx_V E I d mc ms Q k j pc lv (.int x :: st) n h := by
  subst hl
  intro p e R s m args below meth c H locs ls cells slots C P L V hk hj
  exact lv_istore_n C.ex C.bt hdg hf V hn (kx_l_st1 E lv i (.int x)) (fun ls' V' => kk p e R s m args below meth c H locs ls' cells slots C P L V' hk hj)
theorem kx_istore {i : Nat} {x : Int32} {lv' : List (Nat × Value)} (hdg : decode I.2.1 pc = .ok (.istore i, 2)) (hn : i < I.2.2.1) (hl : (i, Value.int x) :: lv.filter (fun q => !(q.1 == i) && !(q.1 + 1 == i && q.2.category == 2)) = lv') (kk : kx_V E I d mc ms Q k j (pc + 2) lv' st n h) : kx_V E I d mc ms Q k j pc lv (.int x :: st) n h := by
  subst hl
  intro p e R s m args below meth c H locs ls cells slots C P L V hk hj
  exact lv_istore C.ex C.bt hdg V hn (kx_l_st1 E lv i (.int x)) (fun ls' V' => kk p e R s m args below meth c H locs ls' cells slots C P L V' hk hj)
theorem kx_lload_n {f : Fin 4} {x : Int64} (hdg : decode I.2.1 pc = .ok (.lload_n f, 1)) (hl : kx_lk lv f.val = some (.long x)) (kk : kx_V E I d mc ms Q k j (pc + 1) lv (.long x :: st) n h) : kx_V E I d mc ms Q k j pc lv st n h :=
  fun p e R s m args below meth c H locs ls cells slots C P L V hk hj => lv_lload_n C.ex C.bt hdg rfl (kx_l_at V hl) (kk p e R s m args below meth c H locs ls cells slots C P L V hk hj)
theorem kx_lload {i : Nat} {x : Int64} (hdg : decode I.2.1 pc = .ok (.lload i, 2)) (hl : kx_lk lv i = some (.long x)) (kk : kx_V E I d mc ms Q k j (pc + 2) lv (.long x :: st) n h) : kx_V E I d mc ms Q k j pc lv st n h :=
  fun p e R s m args below meth c H locs ls cells slots C P L V hk hj => lv_lload C.ex C.bt hdg (kx_l_at V hl) (kk p e R s m args below meth c H locs ls cells slots C P L V hk hj)
theorem kx_lstore_n {f : Fin 4} {i : Nat} {x : Int64} {lv' : List (Nat × Value)} (hdg : decode I.2.1 pc = .ok (.lstore_n f, 1)) (hf : (f : Nat) = i) (hn : i + 1 < I.2.2.1) (hl : (i, Value.long x) :: lv.filter (fun q => !(q.1 == i) && (!(q.1 == i + 1) && !(q.1 + 1 == i && q.2.category == 2))) = lv') (kk : kx_V E I d mc ms Q k j (pc + 1) lv' st n h) : kx_V E I d mc ms Q k j pc lv (.long x :: st) n h := by
  subst hl
  intro p e R s m args below meth c H locs ls cells slots C P L V hk hj
  exact lv_lstore_n C.ex C.bt hdg hf V hn (kx_l_st2 E lv i (.long x)) (fun ls' V' => kk p e R s m args below meth c H locs ls' cells slots C P L V' hk hj)
theorem kx_lstore {i : Nat} {x : Int64} {lv' : List (Nat × Value)} (hdg : decode I.2.1 pc = .ok (.lstore i, 2)) (hn : i + 1 < I.2.2.1) (hl : (i, Value.long x) :: lv.filter (fun q => !(q.1 == i) && (!(q.1 == i + 1) && !(q.1 + 1 == i && q.2.category == 2))) = lv') (kk : kx_V E I d mc ms Q k j (pc + 2) lv' st n h) : kx_V E I d mc ms Q k j pc lv (.long x :: st) n h := by
  subst hl
  intro p e R s m args below meth c H locs ls cells slots C P L V hk hj
  exact lv_lstore C.ex C.bt hdg V hn (kx_l_st2 E lv i (.long x)) (fun ls' V' => kk p e R s m args below meth c H locs ls' cells slots C P L V' hk hj)
theorem kx_aload_n {f : Fin 4} {x : Nat} (hdg : decode I.2.1 pc = .ok (.aload_n f, 1)) (hl : kx_lk lv f.val = some (.ref x)) (kk : kx_V E I d mc ms Q k j (pc + 1) lv (.ref x :: st) n h) : kx_V E I d mc ms Q k j pc lv st n h :=
  fun p e R s m args below meth c H locs ls cells slots C P L V hk hj => lv_aload_n C.ex C.bt hdg rfl (kx_l_at V hl) (kk p e R s m args below meth c H locs ls cells slots C P L V hk hj)
theorem kx_aload {i : Nat} {x : Nat} (hdg : decode I.2.1 pc = .ok (.aload i, 2)) (hl : kx_lk lv i = some (.ref x)) (kk : kx_V E I d mc ms Q k j (pc + 2) lv (.ref x :: st) n h) : kx_V E I d mc ms Q k j pc lv st n h :=
  fun p e R s m args below meth c H locs ls cells slots C P L V hk hj => lv_aload C.ex C.bt hdg (kx_l_at V hl) (kk p e R s m args below meth c H locs ls cells slots C P L V hk hj)
theorem kx_astore_n {f : Fin 4} {i : Nat} {x : Nat} {lv' : List (Nat × Value)} (hdg : decode I.2.1 pc = .ok (.astore_n f, 1)) (hf : (f : Nat) = i) (hn : i < I.2.2.1) (hl : (i, Value.ref x) :: lv.filter (fun q => !(q.1 == i) && !(q.1 + 1 == i && q.2.category == 2)) = lv') (kk : kx_V E I d mc ms Q k j (pc + 1) lv' st n h) : kx_V E I d mc ms Q k j pc lv (.ref x :: st) n h := by
  subst hl
  intro p e R s m args below meth c H locs ls cells slots C P L V hk hj
  exact lv_astore_n C.ex C.bt hdg hf V hn (kx_l_st1 E lv i (.ref x)) (fun ls' V' => kk p e R s m args below meth c H locs ls' cells slots C P L V' hk hj)
theorem kx_astore {i : Nat} {x : Nat} {lv' : List (Nat × Value)} (hdg : decode I.2.1 pc = .ok (.astore i, 2)) (hn : i < I.2.2.1) (hl : (i, Value.ref x) :: lv.filter (fun q => !(q.1 == i) && !(q.1 + 1 == i && q.2.category == 2)) = lv') (kk : kx_V E I d mc ms Q k j (pc + 2) lv' st n h) : kx_V E I d mc ms Q k j pc lv (.ref x :: st) n h := by
  subst hl
  intro p e R s m args below meth c H locs ls cells slots C P L V hk hj
  exact lv_astore C.ex C.bt hdg V hn (kx_l_st1 E lv i (.ref x)) (fun ls' V' => kk p e R s m args below meth c H locs ls' cells slots C P L V' hk hj)
theorem kx_iinc {i : Nat} {a : Int} {x y : Int32} {lv' : List (Nat × Value)} (hdg : decode I.2.1 pc = .ok (.iinc i a, 3)) (hx : kx_lk lv i = some (.int x)) (hy : x + Int32.ofInt a = y) (hn : i < I.2.2.1) (hl : (i, Value.int y) :: lv.filter (fun q => !(q.1 == i) && !(q.1 + 1 == i && q.2.category == 2)) = lv') (kk : kx_V E I d mc ms Q k j (pc + 3) lv' st n h) : kx_V E I d mc ms Q k j pc lv st n h := by
  subst hl
  intro p e R s m args below meth c H locs ls cells slots C P L V hk hj
  obtain ⟨k0, hk0⟩ := List.getElem?_of_mem (List.mem_map.mpr ⟨(i, Value.int x), kx_lk_mem hx, rfl⟩ : (i, kx_v (kx_B E) (.int x)) ∈ kx_l E lv)
  exact lv_iinc C.ex C.bt hdg V hk0 hy hn (kx_l_st1 E lv i (.int y)) (fun ls' V' => kk p e R s m args below meth c H locs ls' cells slots C P L V' hk hj)
theorem kx_iadd {x y : Int32} (hdg : decode I.2.1 pc = .ok (.iadd, 1)) (kk : kx_V E I d mc ms Q k j (pc + 1) lv (.int (x + y) :: st) n h) : kx_V E I d mc ms Q k j pc lv (.int y :: .int x :: st) n h :=
  fun p e R s m args below meth c H locs ls cells slots C P L V hk hj => lv_iadd C.ex C.bt hdg (kk p e R s m args below meth c H locs ls cells slots C P L V hk hj)
theorem kx_isub {x y : Int32} (hdg : decode I.2.1 pc = .ok (.isub, 1)) (kk : kx_V E I d mc ms Q k j (pc + 1) lv (.int (x - y) :: st) n h) : kx_V E I d mc ms Q k j pc lv (.int y :: .int x :: st) n h :=
  fun p e R s m args below meth c H locs ls cells slots C P L V hk hj => lv_isub C.ex C.bt hdg (kk p e R s m args below meth c H locs ls cells slots C P L V hk hj)
theorem kx_imul {x y : Int32} (hdg : decode I.2.1 pc = .ok (.imul, 1)) (kk : kx_V E I d mc ms Q k j (pc + 1) lv (.int (x * y) :: st) n h) : kx_V E I d mc ms Q k j pc lv (.int y :: .int x :: st) n h :=
  fun p e R s m args below meth c H locs ls cells slots C P L V hk hj => lv_imul C.ex C.bt hdg (kk p e R s m args below meth c H locs ls cells slots C P L V hk hj)
theorem kx_iand {x y : Int32} (hdg : decode I.2.1 pc = .ok (.iand, 1)) (kk : kx_V E I d mc ms Q k j (pc + 1) lv (.int (x &&& y) :: st) n h) : kx_V E I d mc ms Q k j pc lv (.int y :: .int x :: st) n h :=
  fun p e R s m args below meth c H locs ls cells slots C P L V hk hj => lv_iand C.ex C.bt hdg (kk p e R s m args below meth c H locs ls cells slots C P L V hk hj)
theorem kx_ior {x y : Int32} (hdg : decode I.2.1 pc = .ok (.ior, 1)) (kk : kx_V E I d mc ms Q k j (pc + 1) lv (.int (x ||| y) :: st) n h) : kx_V E I d mc ms Q k j pc lv (.int y :: .int x :: st) n h :=
  fun p e R s m args below meth c H locs ls cells slots C P L V hk hj => lv_ior C.ex C.bt hdg (kk p e R s m args below meth c H locs ls cells slots C P L V hk hj)
theorem kx_ixor {x y : Int32} (hdg : decode I.2.1 pc = .ok (.ixor, 1)) (kk : kx_V E I d mc ms Q k j (pc + 1) lv (.int (x ^^^ y) :: st) n h) : kx_V E I d mc ms Q k j pc lv (.int y :: .int x :: st) n h :=
  fun p e R s m args below meth c H locs ls cells slots C P L V hk hj => lv_ixor C.ex C.bt hdg (kk p e R s m args below meth c H locs ls cells slots C P L V hk hj)
theorem kx_ishl {x y : Int32} (hdg : decode I.2.1 pc = .ok (.ishl, 1)) (kk : kx_V E I d mc ms Q k j (pc + 1) lv (.int (x <<< (y &&& 31)) :: st) n h) : kx_V E I d mc ms Q k j pc lv (.int y :: .int x :: st) n h :=
  fun p e R s m args below meth c H locs ls cells slots C P L V hk hj => lv_ishl C.ex C.bt hdg (kk p e R s m args below meth c H locs ls cells slots C P L V hk hj)
theorem kx_ishr {x y : Int32} (hdg : decode I.2.1 pc = .ok (.ishr, 1)) (kk : kx_V E I d mc ms Q k j (pc + 1) lv (.int (x >>> (y &&& 31)) :: st) n h) : kx_V E I d mc ms Q k j pc lv (.int y :: .int x :: st) n h :=
  fun p e R s m args below meth c H locs ls cells slots C P L V hk hj => lv_ishr C.ex C.bt hdg (kk p e R s m args below meth c H locs ls cells slots C P L V hk hj)
theorem kx_ladd {x y : Int64} (hdg : decode I.2.1 pc = .ok (.ladd, 1)) (kk : kx_V E I d mc ms Q k j (pc + 1) lv (.long (x + y) :: st) n h) : kx_V E I d mc ms Q k j pc lv (.long y :: .long x :: st) n h :=
  fun p e R s m args below meth c H locs ls cells slots C P L V hk hj => lv_ladd C.ex C.bt hdg (kk p e R s m args below meth c H locs ls cells slots C P L V hk hj)
theorem kx_lsub {x y : Int64} (hdg : decode I.2.1 pc = .ok (.lsub, 1)) (kk : kx_V E I d mc ms Q k j (pc + 1) lv (.long (x - y) :: st) n h) : kx_V E I d mc ms Q k j pc lv (.long y :: .long x :: st) n h :=
  fun p e R s m args below meth c H locs ls cells slots C P L V hk hj => lv_lsub C.ex C.bt hdg (kk p e R s m args below meth c H locs ls cells slots C P L V hk hj)
theorem kx_land {x y : Int64} (hdg : decode I.2.1 pc = .ok (.land, 1)) (kk : kx_V E I d mc ms Q k j (pc + 1) lv (.long (x &&& y) :: st) n h) : kx_V E I d mc ms Q k j pc lv (.long y :: .long x :: st) n h :=
  fun p e R s m args below meth c H locs ls cells slots C P L V hk hj => lv_land C.ex C.bt hdg (kk p e R s m args below meth c H locs ls cells slots C P L V hk hj)
theorem kx_lor {x y : Int64} (hdg : decode I.2.1 pc = .ok (.lor, 1)) (kk : kx_V E I d mc ms Q k j (pc + 1) lv (.long (x ||| y) :: st) n h) : kx_V E I d mc ms Q k j pc lv (.long y :: .long x :: st) n h :=
  fun p e R s m args below meth c H locs ls cells slots C P L V hk hj => lv_lor C.ex C.bt hdg (kk p e R s m args below meth c H locs ls cells slots C P L V hk hj)
theorem kx_lrem {x y : Int64} (hdg : decode I.2.1 pc = .ok (.lrem, 1)) (hy : ¬ y = 0) (kk : kx_V E I d mc ms Q k j (pc + 1) lv (.long (x - x / y * y) :: st) n h) : kx_V E I d mc ms Q k j pc lv (.long y :: .long x :: st) n h :=
  fun p e R s m args below meth c H locs ls cells slots C P L V hk hj => lv_lrem C.ex C.bt hdg hy (kk p e R s m args below meth c H locs ls cells slots C P L V hk hj)
theorem kx_i2l {x : Int32} (hdg : decode I.2.1 pc = .ok (.i2l, 1)) (kk : kx_V E I d mc ms Q k j (pc + 1) lv (.long x.toInt64 :: st) n h) : kx_V E I d mc ms Q k j pc lv (.int x :: st) n h :=
  fun p e R s m args below meth c H locs ls cells slots C P L V hk hj => lv_i2l C.ex C.bt hdg rfl (kk p e R s m args below meth c H locs ls cells slots C P L V hk hj)
theorem kx_l2i {x : Int64} (hdg : decode I.2.1 pc = .ok (.l2i, 1)) (kk : kx_V E I d mc ms Q k j (pc + 1) lv (.int x.toInt32 :: st) n h) : kx_V E I d mc ms Q k j pc lv (.long x :: st) n h :=
  fun p e R s m args below meth c H locs ls cells slots C P L V hk hj => lv_l2i C.ex C.bt hdg rfl (kk p e R s m args below meth c H locs ls cells slots C P L V hk hj)
theorem kx_lshl {x : Int64} {y : Int32} (hdg : decode I.2.1 pc = .ok (.lshl, 1)) (kk : kx_V E I d mc ms Q k j (pc + 1) lv (.long (x <<< (y.toInt64 &&& 63)) :: st) n h) : kx_V E I d mc ms Q k j pc lv (.int y :: .long x :: st) n h :=
  fun p e R s m args below meth c H locs ls cells slots C P L V hk hj => lv_lshl C.ex C.bt hdg rfl (kk p e R s m args below meth c H locs ls cells slots C P L V hk hj)
theorem kx_lcmp {x y : Int64} (hdg : decode I.2.1 pc = .ok (.lcmp, 1)) (kk : kx_V E I d mc ms Q k j (pc + 1) lv (.int (lg_cmp x y) :: st) n h) : kx_V E I d mc ms Q k j pc lv (.long y :: .long x :: st) n h :=
  fun p e R s m args below meth c H locs ls cells slots C P L V hk hj => W.lcmp C.ex C.bt hdg (kk p e R s m args below meth c H locs ls cells slots C P L V hk hj)
theorem kx_dup {v : Value} (hdg : decode I.2.1 pc = .ok (.dup, 1)) (hv : v.category = 1) (kk : kx_V E I d mc ms Q k j (pc + 1) lv (v :: v :: st) n h) : kx_V E I d mc ms Q k j pc lv (v :: st) n h :=
  fun p e R s m args below meth c H locs ls cells slots C P L V hk hj => lv_dup C.ex C.bt hdg ((kx_v_cat _ v).trans hv) (kk p e R s m args below meth c H locs ls cells slots C P L V hk hj)
theorem kx_pop {v : Value} (hdg : decode I.2.1 pc = .ok (.pop, 1)) (hv : v.category = 1) (kk : kx_V E I d mc ms Q k j (pc + 1) lv st n h) : kx_V E I d mc ms Q k j pc lv (v :: st) n h :=
  fun p e R s m args below meth c H locs ls cells slots C P L V hk hj => lv_pop C.ex C.bt hdg ((kx_v_cat _ v).trans hv) (kk p e R s m args below meth c H locs ls cells slots C P L V hk hj)
theorem kx_dup_x1 {v w : Value} (hdg : decode I.2.1 pc = .ok (.dup_x1, 1)) (hv : v.category = 1) (hw : w.category = 1) (kk : kx_V E I d mc ms Q k j (pc + 1) lv (v :: w :: v :: st) n h) : kx_V E I d mc ms Q k j pc lv (v :: w :: st) n h :=
  fun p e R s m args below meth c H locs ls cells slots C P L V hk hj => lv_dup_x1 C.ex C.bt hdg ((kx_v_cat _ v).trans hv) ((kx_v_cat _ w).trans hw) (kk p e R s m args below meth c H locs ls cells slots C P L V hk hj)
theorem kx_dup2 {v w : Value} (hdg : decode I.2.1 pc = .ok (.dup2, 1)) (hv : v.category = 1) (hw : w.category = 1) (kk : kx_V E I d mc ms Q k j (pc + 1) lv (v :: w :: v :: w :: st) n h) : kx_V E I d mc ms Q k j pc lv (v :: w :: st) n h :=
  fun p e R s m args below meth c H locs ls cells slots C P L V hk hj => lv_dup2_11 C.ex C.bt hdg ((kx_v_cat _ v).trans hv) ((kx_v_cat _ w).trans hw) (kk p e R s m args below meth c H locs ls cells slots C P L V hk hj)
theorem kx_if_eq {x : Int32} {off : Int} {tgt : Nat} (hdg : decode I.2.1 pc = .ok (.ifCond .eq off, 3)) (ht : (pc : Int) + off = (tgt : Int)) (kt : x = 0 → kx_V E I d mc ms Q k j tgt lv st n h) (kf : ¬ x = 0 → kx_V E I d mc ms Q k j (pc + 3) lv st n h) : kx_V E I d mc ms Q k j pc lv (.int x :: st) n h :=
  fun p e R s m args below meth c H locs ls cells slots C P L V hk hj => lv_if_eq C.ex C.bt hdg ht (fun q => kt q p e R s m args below meth c H locs ls cells slots C P L V hk hj) (fun q => kf q p e R s m args below meth c H locs ls cells slots C P L V hk hj)
theorem kx_icmp_eq {x y : Int32} {off : Int} {tgt : Nat} (hdg : decode I.2.1 pc = .ok (.if_icmp .eq off, 3)) (ht : (pc : Int) + off = (tgt : Int)) (kt : x = y → kx_V E I d mc ms Q k j tgt lv st n h) (kf : ¬ x = y → kx_V E I d mc ms Q k j (pc + 3) lv st n h) : kx_V E I d mc ms Q k j pc lv (.int y :: .int x :: st) n h :=
  fun p e R s m args below meth c H locs ls cells slots C P L V hk hj => lv_icmp_eq C.ex C.bt hdg ht (fun q => kt q p e R s m args below meth c H locs ls cells slots C P L V hk hj) (fun q => kf q p e R s m args below meth c H locs ls cells slots C P L V hk hj)
theorem kx_if_ne {x : Int32} {off : Int} {tgt : Nat} (hdg : decode I.2.1 pc = .ok (.ifCond .ne off, 3)) (ht : (pc : Int) + off = (tgt : Int)) (kt : ¬ x = 0 → kx_V E I d mc ms Q k j tgt lv st n h) (kf : x = 0 → kx_V E I d mc ms Q k j (pc + 3) lv st n h) : kx_V E I d mc ms Q k j pc lv (.int x :: st) n h :=
  fun p e R s m args below meth c H locs ls cells slots C P L V hk hj => lv_if_ne C.ex C.bt hdg ht (fun q => kt q p e R s m args below meth c H locs ls cells slots C P L V hk hj) (fun q => kf q p e R s m args below meth c H locs ls cells slots C P L V hk hj)
theorem kx_icmp_ne {x y : Int32} {off : Int} {tgt : Nat} (hdg : decode I.2.1 pc = .ok (.if_icmp .ne off, 3)) (ht : (pc : Int) + off = (tgt : Int)) (kt : ¬ x = y → kx_V E I d mc ms Q k j tgt lv st n h) (kf : x = y → kx_V E I d mc ms Q k j (pc + 3) lv st n h) : kx_V E I d mc ms Q k j pc lv (.int y :: .int x :: st) n h :=
  fun p e R s m args below meth c H locs ls cells slots C P L V hk hj => lv_icmp_ne C.ex C.bt hdg ht (fun q => kt q p e R s m args below meth c H locs ls cells slots C P L V hk hj) (fun q => kf q p e R s m args below meth c H locs ls cells slots C P L V hk hj)
theorem kx_if_lt {x : Int32} {off : Int} {tgt : Nat} (hdg : decode I.2.1 pc = .ok (.ifCond .lt off, 3)) (ht : (pc : Int) + off = (tgt : Int)) (kt : x < 0 → kx_V E I d mc ms Q k j tgt lv st n h) (kf : ¬ x < 0 → kx_V E I d mc ms Q k j (pc + 3) lv st n h) : kx_V E I d mc ms Q k j pc lv (.int x :: st) n h :=
  fun p e R s m args below meth c H locs ls cells slots C P L V hk hj => lv_if_lt C.ex C.bt hdg ht (fun q => kt q p e R s m args below meth c H locs ls cells slots C P L V hk hj) (fun q => kf q p e R s m args below meth c H locs ls cells slots C P L V hk hj)
theorem kx_icmp_lt {x y : Int32} {off : Int} {tgt : Nat} (hdg : decode I.2.1 pc = .ok (.if_icmp .lt off, 3)) (ht : (pc : Int) + off = (tgt : Int)) (kt : x < y → kx_V E I d mc ms Q k j tgt lv st n h) (kf : ¬ x < y → kx_V E I d mc ms Q k j (pc + 3) lv st n h) : kx_V E I d mc ms Q k j pc lv (.int y :: .int x :: st) n h :=
  fun p e R s m args below meth c H locs ls cells slots C P L V hk hj => lv_icmp_lt C.ex C.bt hdg ht (fun q => kt q p e R s m args below meth c H locs ls cells slots C P L V hk hj) (fun q => kf q p e R s m args below meth c H locs ls cells slots C P L V hk hj)
theorem kx_if_ge {x : Int32} {off : Int} {tgt : Nat} (hdg : decode I.2.1 pc = .ok (.ifCond .ge off, 3)) (ht : (pc : Int) + off = (tgt : Int)) (kt : 0 ≤ x → kx_V E I d mc ms Q k j tgt lv st n h) (kf : ¬ 0 ≤ x → kx_V E I d mc ms Q k j (pc + 3) lv st n h) : kx_V E I d mc ms Q k j pc lv (.int x :: st) n h :=
  fun p e R s m args below meth c H locs ls cells slots C P L V hk hj => lv_if_ge C.ex C.bt hdg ht (fun q => kt q p e R s m args below meth c H locs ls cells slots C P L V hk hj) (fun q => kf q p e R s m args below meth c H locs ls cells slots C P L V hk hj)
theorem kx_icmp_ge {x y : Int32} {off : Int} {tgt : Nat} (hdg : decode I.2.1 pc = .ok (.if_icmp .ge off, 3)) (ht : (pc : Int) + off = (tgt : Int)) (kt : y ≤ x → kx_V E I d mc ms Q k j tgt lv st n h) (kf : ¬ y ≤ x → kx_V E I d mc ms Q k j (pc + 3) lv st n h) : kx_V E I d mc ms Q k j pc lv (.int y :: .int x :: st) n h :=
  fun p e R s m args below meth c H locs ls cells slots C P L V hk hj => lv_icmp_ge C.ex C.bt hdg ht (fun q => kt q p e R s m args below meth c H locs ls cells slots C P L V hk hj) (fun q => kf q p e R s m args below meth c H locs ls cells slots C P L V hk hj)
theorem kx_if_gt {x : Int32} {off : Int} {tgt : Nat} (hdg : decode I.2.1 pc = .ok (.ifCond .gt off, 3)) (ht : (pc : Int) + off = (tgt : Int)) (kt : 0 < x → kx_V E I d mc ms Q k j tgt lv st n h) (kf : ¬ 0 < x → kx_V E I d mc ms Q k j (pc + 3) lv st n h) : kx_V E I d mc ms Q k j pc lv (.int x :: st) n h :=
  fun p e R s m args below meth c H locs ls cells slots C P L V hk hj => lv_if_gt C.ex C.bt hdg ht (fun q => kt q p e R s m args below meth c H locs ls cells slots C P L V hk hj) (fun q => kf q p e R s m args below meth c H locs ls cells slots C P L V hk hj)
theorem kx_icmp_gt {x y : Int32} {off : Int} {tgt : Nat} (hdg : decode I.2.1 pc = .ok (.if_icmp .gt off, 3)) (ht : (pc : Int) + off = (tgt : Int)) (kt : y < x → kx_V E I d mc ms Q k j tgt lv st n h) (kf : ¬ y < x → kx_V E I d mc ms Q k j (pc + 3) lv st n h) : kx_V E I d mc ms Q k j pc lv (.int y :: .int x :: st) n h :=
  fun p e R s m args below meth c H locs ls cells slots C P L V hk hj => lv_icmp_gt C.ex C.bt hdg ht (fun q => kt q p e R s m args below meth c H locs ls cells slots C P L V hk hj) (fun q => kf q p e R s m args below meth c H locs ls cells slots C P L V hk hj)
theorem kx_if_le {x : Int32} {off : Int} {tgt : Nat} (hdg : decode I.2.1 pc = .ok (.ifCond .le off, 3)) (ht : (pc : Int) + off = (tgt : Int)) (kt : x ≤ 0 → kx_V E I d mc ms Q k j tgt lv st n h) (kf : ¬ x ≤ 0 → kx_V E I d mc ms Q k j (pc + 3) lv st n h) : kx_V E I d mc ms Q k j pc lv (.int x :: st) n h :=
  fun p e R s m args below meth c H locs ls cells slots C P L V hk hj => lv_if_le C.ex C.bt hdg ht (fun q => kt q p e R s m args below meth c H locs ls cells slots C P L V hk hj) (fun q => kf q p e R s m args below meth c H locs ls cells slots C P L V hk hj)
theorem kx_icmp_le {x y : Int32} {off : Int} {tgt : Nat} (hdg : decode I.2.1 pc = .ok (.if_icmp .le off, 3)) (ht : (pc : Int) + off = (tgt : Int)) (kt : x ≤ y → kx_V E I d mc ms Q k j tgt lv st n h) (kf : ¬ x ≤ y → kx_V E I d mc ms Q k j (pc + 3) lv st n h) : kx_V E I d mc ms Q k j pc lv (.int y :: .int x :: st) n h :=
  fun p e R s m args below meth c H locs ls cells slots C P L V hk hj => lv_icmp_le C.ex C.bt hdg ht (fun q => kt q p e R s m args below meth c H locs ls cells slots C P L V hk hj) (fun q => kf q p e R s m args below meth c H locs ls cells slots C P L V hk hj)
theorem kx_goto {off : Int} {tgt : Nat} (hdg : decode I.2.1 pc = .ok (.goto off, 3)) (ht : (pc : Int) + off = (tgt : Int)) (kk : kx_V E I d mc ms Q k j tgt lv st n h) : kx_V E I d mc ms Q k j pc lv st n h :=
  fun p e R s m args below meth c H locs ls cells slots C P L V hk hj => lv_goto C.ex C.bt hdg ht (kk p e R s m args below meth c H locs ls cells slots C P L V hk hj)
theorem kx_tsIn {dflt lo hi : Int} {offs : Array Int} {len : Nat} {x : Int32} {off : Int} {tgt : Nat} (hdg : decode I.2.1 pc = .ok (.tableswitch dflt lo hi offs, len)) (h1 : ¬ x.toInt < lo) (h2 : ¬ hi < x.toInt) (ho : offs[(x.toInt - lo).toNat]? = some off) (ht : (pc : Int) + off = (tgt : Int)) (kk : kx_V E I d mc ms Q k j tgt lv st n h) : kx_V E I d mc ms Q k j pc lv (.int x :: st) n h :=
  fun p e R s m args below meth c H locs ls cells slots C P L V hk hj => lv_tableIn C.ex C.bt hdg h1 h2 ho ht (kk p e R s m args below meth c H locs ls cells slots C P L V hk hj)
theorem kx_tsOut {dflt lo hi : Int} {offs : Array Int} {len : Nat} {x : Int32} {tgt : Nat} (hdg : decode I.2.1 pc = .ok (.tableswitch dflt lo hi offs, len)) (h1 : x.toInt < lo ∨ hi < x.toInt) (ht : (pc : Int) + dflt = (tgt : Int)) (kk : kx_V E I d mc ms Q k j tgt lv st n h) : kx_V E I d mc ms Q k j pc lv (.int x :: st) n h :=
  fun p e R s m args below meth c H locs ls cells slots C P L V hk hj => lv_tableOut C.ex C.bt hdg h1 ht (kk p e R s m args below meth c H locs ls cells slots C P L V hk hj)
theorem kx_lsw {dflt : Int} {ps : Array (Int × Int)} {len : Nat} {x : Int32} {off : Int} {tgt : Nat} (hdg : decode I.2.1 pc = .ok (.lookupswitch dflt ps, len)) (hp : (ps.toList.zip (ps.toList.drop 1)).all (fun (a, next) => a.1 < next.1) = true) (ho : Op.lookupswitch.offset ps.toList dflt x.toInt = off) (ht : (pc : Int) + off = (tgt : Int)) (kk : kx_V E I d mc ms Q k j tgt lv st n h) : kx_V E I d mc ms Q k j pc lv (.int x :: st) n h :=
  fun p e R s m args below meth c H locs ls cells slots C P L V hk hj => lv_lookup C.ex C.bt hdg hp ho ht (kk p e R s m args below meth c H locs ls cells slots C P L V hk hj)
theorem kx_topi {x : Int32} (kk : ∀ y : Int32, y = x → kx_V E I d mc ms Q k j pc lv (.int y :: st) n h) : kx_V E I d mc ms Q k j pc lv (.int x :: st) n h := kk x rfl
theorem kx_topl {x : Int64} (kk : ∀ y : Int64, y = x → kx_V E I d mc ms Q k j pc lv (.long y :: st) n h) : kx_V E I d mc ms Q k j pc lv (.long x :: st) n h := kk x rfl
theorem kx_eqi {x y : Int32} (e : x = y) (kk : kx_V E I d mc ms Q k j pc lv (.int y :: st) n h) : kx_V E I d mc ms Q k j pc lv (.int x :: st) n h := e ▸ kk
theorem kx_eql {x y : Int64} (e : x = y) (kk : kx_V E I d mc ms Q k j pc lv (.long y :: st) n h) : kx_V E I d mc ms Q k j pc lv (.long x :: st) n h := e ▸ kk
theorem kx_eqh {h' : kx_H} (e : h = h') (kk : kx_V E I d mc ms Q k j pc lv st n h') : kx_V E I d mc ms Q k j pc lv st n h := e ▸ kk
theorem kx_eqpc {pc' : Nat} (e : pc = pc') (kk : kx_V E I d mc ms Q k j pc' lv st n h) : kx_V E I d mc ms Q k j pc lv st n h := e ▸ kk
theorem kx_sub (ks : List Nat) {lv' : List (Nat × Value)} (hl : lv_pick lv ks = lv') (kk : kx_V E I d mc ms Q k j pc lv' st n h) : kx_V E I d mc ms Q k j pc lv st n h := by
  intro p e R s m args below meth c H locs ls cells slots C P L V hk hj
  refine kk p e R s m args below meth c H locs ls cells slots C P L ⟨V.1, V.2.1, fun q hq => ?_⟩ hk hj
  obtain ⟨q0, h0, rfl⟩ := List.mem_map.mp hq
  rw [← hl] at h0
  obtain ⟨i, -, hi⟩ := List.mem_filterMap.mp h0
  exact V.2.2 _ (List.mem_map.mpr ⟨q0, List.mem_of_getElem? hi, rfl⟩)
theorem kx_more {k' j' : Nat} (h1 : k' ≤ k) (h2 : j' ≤ j) (kk : kx_V E I d mc ms Q k' j' pc lv st n h) : kx_V E I d mc ms Q k j pc lv st n h :=
  fun p e R s m args below meth c H locs ls cells slots C P L V hk hj => kk p e R s m args below meth c H locs ls cells slots C P L V (by omega) (by omega)
theorem kx_iret {x : Int32} (hr : I.2.2.2.1 = some .int) (hdg : decode I.2.1 pc = .ok (.ireturn, 1)) (hq : Q (Sum.inl (some (.int x))) n h) : kx_V E I d mc ms Q k j pc lv [.int x] n h := by
  intro p e R s m args below meth c H locs ls cells slots C P L V hk hj
  refine W.widen (k := mc) (n := ms) (by omega) (by omega) ?_
  refine kx_W_mono ?_ (W.iret (v := x) (Qc := fun _ _ o t => o = .returned (some (.int x)) ∧ t.heap = H) (free := fun q => kx_B E ≤ q) C.ex C.bt (C.rt.trans hr) (fun t ht hW => ⟨rfl, ht⟩) L hdg (hlocks := C.lk))
  rintro t ⟨o, h1, h2, ⟨h3, h4⟩, L', ⟨-, hW, hs⟩, hf⟩
  exact ⟨o, h1, h2, hW, ⟨L', hs, hf⟩, Sum.inl (some (.int x)), n, h, by rw [h4]; exact P, h3, hq⟩
theorem kx_lret {x : Int64} (hr : I.2.2.2.1 = some .long) (hdg : decode I.2.1 pc = .ok (.lreturn, 1)) (hq : Q (Sum.inl (some (.long x))) n h) : kx_V E I d mc ms Q k j pc lv [.long x] n h := by
  intro p e R s m args below meth c H locs ls cells slots C P L V hk hj
  refine W.widen (k := mc) (n := ms) (by omega) (by omega) ?_
  refine kx_W_mono ?_ (W.lret (v := x) (Qc := fun _ _ o t => o = .returned (some (.long x)) ∧ t.heap = H) (free := fun q => kx_B E ≤ q) C.ex C.bt (C.rt.trans hr) (fun t ht hW => ⟨rfl, ht⟩) L hdg (hlocks := C.lk))
  rintro t ⟨o, h1, h2, ⟨h3, h4⟩, L', ⟨-, hW, hs⟩, hf⟩
  exact ⟨o, h1, h2, hW, ⟨L', hs, hf⟩, Sum.inl (some (.long x)), n, h, by rw [h4]; exact P, h3, hq⟩
theorem kx_zret {x : Int32} (hr : I.2.2.2.1 = some .boolean) (hx : narrow .boolean (.int x) = .int x) (hdg : decode I.2.1 pc = .ok (.ireturn, 1)) (hq : Q (Sum.inl (some (.int x))) n h) : kx_V E I d mc ms Q k j pc lv [.int x] n h := by
  intro p e R s m args below meth c H locs ls cells slots C P L V hk hj
  refine W.widen (k := mc) (n := ms) (by omega) (by omega) ?_
  refine kx_W_mono ?_ (W.zret (v := x) (Qc := fun _ _ o t => o = .returned (some (.int x)) ∧ t.heap = H) (free := fun q => kx_B E ≤ q) C.ex C.bt (C.rt.trans hr) hx (fun t ht hW => ⟨rfl, ht⟩) L hdg (hlocks := C.lk))
  rintro t ⟨o, h1, h2, ⟨h3, h4⟩, L', ⟨-, hW, hs⟩, hf⟩
  exact ⟨o, h1, h2, hW, ⟨L', hs, hf⟩, Sum.inl (some (.int x)), n, h, by rw [h4]; exact P, h3, hq⟩
theorem kx_vret (hr : I.2.2.2.1 = none) (hdg : decode I.2.1 pc = .ok (.return_, 1)) (hq : Q (Sum.inl none) n h) : kx_V E I d mc ms Q k j pc lv [] n h := by
  intro p e R s m args below meth c H locs ls cells slots C P L V hk hj
  refine W.widen (k := mc) (n := ms) (by omega) (by omega) ?_
  refine kx_W_mono ?_ (W.vret (Qc := fun _ _ o t => o = .returned none ∧ t.heap = H) (free := fun q => kx_B E ≤ q) C.ex C.bt (C.rt.trans hr) (fun t ht hW => ⟨rfl, ht⟩) L hdg (hlocks := C.lk))
  rintro t ⟨o, h1, h2, ⟨h3, h4⟩, L', ⟨-, hW, hs⟩, hf⟩
  exact ⟨o, h1, h2, hW, ⟨L', hs, hf⟩, Sum.inl none, n, h, by rw [h4]; exact P, h3, hq⟩
end KXR
def kx_fl (own : String) (index ci kf : Nat) : Prop := ∃ (C : String) (T : u_T) (N : Nat), kx_cls[ci]? = some (C, T, N) ∧ kf < N ∧ (∀ w ∈ u_ws C T N, w ∈ kx_tb) ∧ Cond.fieldLink own index (T kf).1 (T kf).2.1 (T kf).2.2.1 ∈ kx_tb
def kx_fw (own nm : String) (ci kf : Nat) (ty : FieldType) : Prop := ∃ (C : String) (T : u_T) (N : Nat) (ty0 : Nat → FieldType), kx_cls[ci]? = some (C, T, N) ∧ parseFieldDescriptor (T kf).2.2.1 = some ty ∧ (∀ k, k < N → parseFieldDescriptor (T k).2.2.1 = some (ty0 k)) ∧ (∀ a, a < N → ∀ b, b < N → a ≠ b → (T a).2.1 ≠ (T b).2.1) ∧ ((T kf).2.2.2 = false ∨ ((T kf).2.2.2 = true ∧ nm = "<init>" ∧ (T kf).1 = own))
theorem kx_getD (B : Nat) (fs : List Value) (k : Nat) : (fs.map (kx_v B)).getD k .null = kx_v B (fs.getD k .null) := by
  simp only [List.getD_eq_getElem?_getD, List.getElem?_map]
  cases fs[k]? <;> rfl
theorem kx_P1 {E : kx_E} {n : Nat} {h : kx_H} {H : Heap} (P : kx_P E n h H) {i ci : Nat} {fs : List Value} (hi : h i = some (kx_co ci fs)) : va_P E.2.2.1 kx_cls [(kx_B E + i, Sum.inr (ci, kx_s E fs))] H := by
  intro k q hk
  have hz : k < 1 := (List.getElem?_eq_some_iff.mp hk).1
  rw [show k = 0 by omega] at hk
  cases hk
  obtain ⟨r, h1, h2⟩ := P.2.2.2 i _ hi
  exact ⟨r, h1, h2.to (fun k _ => (kx_getD _ fs k).symm)⟩
theorem kx_recv {E : kx_E} {I : kx_I} {d mc ms : Nat} {p : Program} {e : Env} {R : Room} {s : State} {m : MethodId} {args : Array Value} {meth : Method} {c : Code} (C : kx_C E I d mc ms p e R s m args meth c) {n : Nat} {h : kx_H} {H : Heap} (P : kx_P E n h H) {i ci : Nat} {fs : List Value} (hi : h i = some (kx_co ci fs)) {q : vw_C} (hc : kx_cls[ci]? = some q) :
    ∃ cell : Cell, H[kx_B E + i]? = some cell ∧ cell.vm.isStatics = false ∧ s.vm.findClass q.1 = some cell.cls := va_recv C.k (kx_P1 P hi) hc (q0 := 0) rfl
def kx_ix (x : Int32) (i N : Nat) : Prop := x = nI i ∧ i < N ∧ N < 2 ^ 31
theorem kx_ix.cl {x : Int32} {i N : Nat} (h : kx_ix x i N) : x.toNatClampNeg = i := by
  rw [h.1]; exact nI_clamp (by have := h.2.1; have := h.2.2; omega)
theorem kx_ix.ok {x : Int32} {i N : Nat} (h : kx_ix x i N) : ¬ (x < 0 ∨ N ≤ x.toNatClampNeg) := by
  rw [h.1]; exact nI_in h.2.1 h.2.2
section KXD
variable {E : kx_E} {I : kx_I} {d mc ms : Nat} {Q : kx_Q} {k j pc : Nat} {lv : List (Nat × Value)} {st : List Value} {n : Nat} {h : kx_H}
theorem kx_get {index i ci kf : Nat} {fs : List Value} {v : Value} (hdg : decode I.2.1 pc = .ok (.getfield index, 3)) (hf : kx_fl I.1 index ci kf) (hi : h i = some (kx_co ci fs)) (hv : fs[kf]? = some v)
    (kk : kx_V E I d mc ms Q k j (pc + 3) lv (v :: st) n h) : kx_V E I d mc ms Q k j pc lv (.ref i :: st) n h := by
  intro p e R s m args below meth c H locs ls cells slots C P L V hk hj
  obtain ⟨C', T, N, hc, hkN, hin, hlink⟩ := hf
  exact va_get (C := C') (T := T) (N := N) (ci := ci) (v := kx_v (kx_B E) v) (Ts := kx_tb) C.ex C.bt (fun w hw => C.w hw) hin C.own C.k (kx_P1 P hi) 0 rfl hc kf hkN (C.w hlink) (fun _ q => q) (by rw [List.getElem?_map, hv]; rfl) hdg
    (kk p e R s m args below meth c H locs ls cells slots C P L V hk hj)
theorem kx_put {index i ci kf : Nat} {fs : List Value} {v : Value} {ty : FieldType} (hdg : decode I.2.1 pc = .ok (.putfield index, 3)) (hf : kx_fl I.1 index ci kf) (hw : kx_fw I.1 I.2.2.2.2.2 ci kf ty) (hi : h i = some (kx_co ci fs)) (hn : ∀ B, narrow ty (kx_v B v) = kx_v B v) (hfit : ∀ B, fits ty (kx_v B v) = true) (hl : kf < fs.length)
    (kk : kx_V E I d mc ms Q k j (pc + 3) lv st n (kx_set h i (kx_co ci (fs.set kf v)))) : kx_V E I d mc ms Q k j pc lv (v :: .ref i :: st) n h := by
  intro p e R s m args below meth c H locs ls cells slots C P L V hk hj
  obtain ⟨C', T, N, hc, hkN, hin, hlink⟩ := hf
  obtain ⟨C2, T2, N2, ty0, hc2, hd, hty, hnm, hfin⟩ := hw
  cases hc.symm.trans hc2
  obtain ⟨r, h1, cell, q1, q2, q3, q4⟩ := P.2.2.2 i _ hi
  have hr : r = (C', T, N) := Option.some.inj (h1.symm.trans hc)
  subst hr
  have hap := va_apart (own := I.1) (Ts := kx_tb) (fun w hw => C.w hw) hin ty0 hty hnm C.k hc
  obtain ⟨hS, hfc, kC, hkC, hkind⟩ := C.k.1 ci _ hc
  obtain ⟨cf, kf', fi, f, hif, hsl⟩ := hS kf hkN
  have hlay := C.w (hin _ (u_in_lay hkN))
  have hst := (u_facts hfc hkC (u_lays (ws := kx_tb) (fun w hw => C.w hw) hin hkN) hif).1
  have hbig : ∀ (H' : Heap), H'[kx_B E + i]? = some (cell.setSlot f.slot (kx_v (kx_B E) v)) → H'.size = H.size → (∀ q, q ≠ kx_B E + i → H'[q]? = H[q]?) → W p E.1 e R s m args below meth c H' (locs ++ [⟨kx_B E + i, f.slot⟩]) cells slots (kx_Z E mc ms Q below s) (F0 m (pc + 3) ls (kx_s E st)) := by
    intro H' e1 e2 e3
    refine kk p e R s m args below meth c H' _ ls cells slots C (P.set e2 e3 ⟨_, hc, t_OB.to (V := updV (fun k => kx_v (kx_B E) (fs.getD k .null)) kf (kx_v (kx_B E) v)) ⟨_, e1, q2, q3, ?_⟩ (fun z _ => ?_)⟩) (fun q hq => ?_) V hk hj
    · rw [hsl]
      exact t_set q4 hap hkN (kx_v (kx_B E) v)
    · simp only [updV]
      by_cases hz : z = kf
      · subst hz
        rw [if_pos rfl, List.getD_eq_getElem?_getD, List.getElem?_set_self hl]
        rfl
      · rw [if_neg hz]
        congr 1
        rw [List.getD_eq_getElem?_getD, List.getD_eq_getElem?_getD, List.getElem?_set_ne (Ne.symm hz)]
    · rcases List.mem_append.mp hq with g | g
      · exact L q g
      · rw [List.mem_singleton.mp g]
        exact Nat.le_add_right _ _
  rcases hfin with hfin | ⟨hfin, hini, hdecl⟩
  · unfold u_lay at hlay
    rw [if_neg (by rw [hfin]; decide)] at hlay
    have h6 := u_store hfc hkC hkind hlay hif hd (hn (kx_B E)) (hfit (kx_B E))
    exact W.putK C.ex C.bt (f := f) ⟨C.own, C.w hlink, ⟨_, _, _, hif⟩, hst⟩ (by rw [q2]; exact h6) q1 q3 (by rw [hsl]; exact k2_hasslot (q4 kf hkN)) rfl rfl hdg hbig
  · unfold u_lay at hlay
    rw [if_pos hfin] at hlay
    have hcf : m.cls = cf := by
      obtain ⟨_, _, c', _, _, _, -, -, hf', -, -, -, hown2, -⟩ := Cond.laysFinal_spec hlay
      have e1 : c' = cf := by have := hif.symm.trans hf'; simp at this; exact this.1.symm
      rw [hdecl] at hown2
      rw [← e1]; exact Option.some.inj (C.own.symm.trans hown2)
    have h6 := u_fits hfc hkC hkind (Or.inr hlay) hif hd (hn (kx_B E)) (hfit (kx_B E))
    exact W.putFinK C.ex C.bt C.own (C.w hlink) hif hst hcf (C.nm.trans hini) (by rw [q2]; exact h6) q1 q3 (by rw [hsl]; exact k2_hasslot (q4 kf hkN)) rfl rfl hdg hbig
theorem kx_iald {i N ix : Nat} {f : Nat → Int32} {x : Int32} (hdg : decode I.2.1 pc = .ok (.iaload, 1)) (hi : h i = some (kx_ci N f)) (hx : kx_ix x ix N)
    (kk : kx_V E I d mc ms Q k j (pc + 1) lv (.int (f ix) :: st) n h) : kx_V E I d mc ms Q k j pc lv (.int x :: .ref i :: st) n h := by
  intro p e R s m args below meth c H locs ls cells slots C P L V hk hj
  exact W.iald (v := .int (f ix)) C.ex C.bt (P.2.2.2 i _ hi) ((C.k.2 0 _ rfl).1 N (fun j => .int (f j))) (fun q => by cases q) (by rw [arrV_size]; exact hx.ok) (by rw [hx.cl, arrV_read _ _ hx.2.1]) rfl rfl hdg
    (kk p e R s m args below meth c H locs ls cells slots C P L V hk hj)
theorem kx_lald {i N ix : Nat} {f : Nat → Int64} {x : Int32} (hdg : decode I.2.1 pc = .ok (.laload, 1)) (hi : h i = some (kx_cl N f)) (hx : kx_ix x ix N)
    (kk : kx_V E I d mc ms Q k j (pc + 1) lv (.long (f ix) :: st) n h) : kx_V E I d mc ms Q k j pc lv (.int x :: .ref i :: st) n h := by
  intro p e R s m args below meth c H locs ls cells slots C P L V hk hj
  exact W.lald (v := .long (f ix)) C.ex C.bt (P.2.2.2 i _ hi) ((C.k.2 1 _ rfl).1 N (fun j => .long (f j))) (fun q => by cases q) (by rw [arrV_size]; exact hx.ok) (by rw [hx.cl, arrV_read _ _ hx.2.1]) rfl rfl hdg
    (kk p e R s m args below meth c H locs ls cells slots C P L V hk hj)
theorem kx_aald {i t N ix b : Nat} {f : Nat → Option Nat} {x : Int32} (hdg : decode I.2.1 pc = .ok (.aaload, 1)) (ht : ∃ Cn, ∀ aC, (kx_tys aC)[2 + t]? = some (aC (2 + t), .object Cn)) (hi : h i = some (kx_cq t N f)) (hx : kx_ix x ix N) (hf : f ix = some b)
    (kk : kx_V E I d mc ms Q k j (pc + 1) lv (.ref b :: st) n h) : kx_V E I d mc ms Q k j pc lv (.int x :: .ref i :: st) n h := by
  intro p e R s m args below meth c H locs ls cells slots C P L V hk hj
  obtain ⟨Cn, ht⟩ := ht
  exact W.aald (v := .ref (kx_B E + b)) (ty := .object Cn) C.ex C.bt (P.2.2.2 i _ hi) ((C.k.2 (2 + t) _ (ht E.2.2.2)).1 N (fun j => kx_rf (kx_B E) (f j))) rfl (fun q => by cases q) (by rw [arrV_size]; exact hx.ok) (by rw [hx.cl, arrV_read _ _ hx.2.1]; show some (kx_rf (kx_B E) (f ix)) = _; rw [hf]; rfl) rfl rfl hdg
    (kk p e R s m args below meth c H locs ls cells slots C P L V hk hj)
theorem kx_locs {E : kx_E} {locs : List Loc} {a z : Nat} (L : ∀ q ∈ locs, kx_B E ≤ q.base) : ∀ q ∈ locs ++ [(⟨kx_B E + a, z⟩ : Loc)], kx_B E ≤ q.base := by
  intro q hq
  rcases List.mem_append.mp hq with g | g
  · exact L q g
  · rw [List.mem_singleton.mp g]
    exact Nat.le_add_right _ _
theorem kx_iast {i N ix : Nat} {f : Nat → Int32} {x y : Int32} (hdg : decode I.2.1 pc = .ok (.iastore, 1)) (hi : h i = some (kx_ci N f)) (hx : kx_ix x ix N)
    (kk : kx_V E I d mc ms Q k j (pc + 1) lv st n (kx_set h i (kx_ci N (upd f ix y)))) : kx_V E I d mc ms Q k j pc lv (.int y :: .int x :: .ref i :: st) n h := by
  intro p e R s m args below meth c H locs ls cells slots C P L V hk hj
  refine W.iast C.ex C.bt (P.2.2.2 i _ hi) ((C.k.2 0 _ rfl).1 N (fun j => .int (f j))) (fun q => by cases q) (by rw [arrV_size]; exact hx.ok) rfl rfl hdg fun H1 e z oq => ?_
  refine kk p _ R s m args below meth c H1 _ ls cells slots C (P.set z oq ?_) (kx_locs L) V hk hj
  show H1[_]? = some (arrV _ _ _)
  rw [e, arrV_store, hx.cl]
  congr 2
  funext q
  by_cases hq : q = ix
  · subst hq
    simp [updV, upd]
  · simp [updV, upd, hq]
theorem kx_last {i N ix : Nat} {f : Nat → Int64} {x : Int32} {y : Int64} (hdg : decode I.2.1 pc = .ok (.lastore, 1)) (hi : h i = some (kx_cl N f)) (hx : kx_ix x ix N)
    (kk : kx_V E I d mc ms Q k j (pc + 1) lv st n (kx_set h i (kx_cl N (vp_updL f ix y)))) : kx_V E I d mc ms Q k j pc lv (.long y :: .int x :: .ref i :: st) n h := by
  intro p e R s m args below meth c H locs ls cells slots C P L V hk hj
  refine W.last C.ex C.bt (P.2.2.2 i _ hi) ((C.k.2 1 _ rfl).1 N (fun j => .long (f j))) (fun q => by cases q) (by rw [arrV_size]; exact hx.ok) rfl rfl hdg fun H1 e z oq => ?_
  refine kk p _ R s m args below meth c H1 _ ls cells slots C (P.set z oq ?_) (kx_locs L) V hk hj
  show H1[_]? = some (arrV _ _ _)
  rw [e, arrV_store, hx.cl]
  congr 2
  funext q
  by_cases hq : q = ix
  · subst hq
    simp [updV, vp_updL]
  · simp [updV, vp_updL, hq]
theorem kx_aast {i t N ix b ci : Nat} {f : Nat → Option Nat} {x : Int32} {fs : List Value} (hdg : decode I.2.1 pc = .ok (.aastore, 1)) (ht : ∃ r : vw_C, kx_cls[ci]? = some r ∧ ∀ aC, (kx_tys aC)[2 + t]? = some (aC (2 + t), .object r.1)) (hi : h i = some (kx_cq t N f)) (hb : h b = some (kx_co ci fs)) (hx : kx_ix x ix N)
    (kk : kx_V E I d mc ms Q k j (pc + 1) lv st n (kx_set h i (kx_cq t N (va_up f ix (some b))))) : kx_V E I d mc ms Q k j pc lv (.ref b :: .int x :: .ref i :: st) n h := by
  intro p e R s m args below meth c H locs ls cells slots C P L V hk hj
  obtain ⟨r, hc, ht⟩ := ht
  obtain ⟨r', h1, cellV, g1, g2, g3, -⟩ := P.2.2.2 b _ hb
  have hcls := (C.k.1 ci r hc).2
  obtain ⟨kA, comp, k1, k2, k3, -⟩ := (C.k.2 (2 + t) _ (ht E.2.2.2)).2
  have hcomp : comp = E.2.2.1.1 ci := Option.some.inj (k3.symm.trans hcls.1)
  subst hcomp
  obtain ⟨kC, hkC, -⟩ := hcls.2
  refine W.aast C.ex C.bt (P.2.2.2 i _ hi) (fun q h => by cases h) (fun h => by cases h) k1 k2 rfl hkC ⟨fun q => hx.ok (Or.inl q), by rw [arrV_size, hx.cl]; exact hx.2.1⟩ g1 (fun q h => by rw [g3] at h; cases h) (by rw [g2]; exact hkC) (by rw [g2]; exact va_assign hcls) rfl rfl hdg fun H1 e z oq => ?_
  refine kk p _ R s m args below meth c H1 _ ls cells slots C (P.set z oq ?_) (kx_locs L) V hk hj
  show H1[_]? = some (arrV _ _ _)
  rw [e, arrV_store, hx.cl]
  congr 2
  funext q
  by_cases hq : q = ix
  · subst hq
    simp [updV, va_up, kx_rf]
  · simp [updV, va_up, hq]
theorem kx_alen {i N : Nat} {f : Nat → Int32} (hdg : decode I.2.1 pc = .ok (.arraylength, 1)) (hi : h i = some (kx_ci N f))
    (kk : kx_V E I d mc ms Q k j (pc + 1) lv (.int (nI N) :: st) n h) : kx_V E I d mc ms Q k j pc lv (.ref i :: st) n h := by
  intro p e R s m args below meth c H locs ls cells slots C P L V hk hj
  exact W.alen (n := nI N) C.ex C.bt (P.2.2.2 i _ hi) ((C.k.2 0 _ rfl).1 N (fun j => .int (f j))) (by rw [arrV_size]; rfl) rfl rfl hdg
    (kk p e R s m args below meth c H locs ls cells slots C P L V hk hj)
def kx_nw (own : String) (index ci N : Nat) (fs : List Value) : Prop := ∃ (C : String) (T : u_T) (ty : Nat → FieldType), kx_cls[ci]? = some (C, T, N) ∧ (∀ w ∈ u_ws C T N, w ∈ kx_tb) ∧ (∀ k, k < N → parseFieldDescriptor (T k).2.2.1 = some (ty k)) ∧ Cond.classLink own index C ∈ kx_tb ∧ Cond.instantiable C N ∈ kx_tb ∧ Cond.initialized C ∈ kx_tb ∧ (∀ (B : Nat) (z : Nat), z < N → defaultValue (ty z) = kx_v B (fs.getD z .null))
theorem kx_new {index ci N : Nat} {fs : List Value} (hdg : decode I.2.1 pc = .ok (.new index, 3)) (hw : kx_nw I.1 index ci N fs)
    (kk : kx_V E I d mc ms Q k j (pc + 3) lv (.ref n :: st) (n + 1) (kx_set h n (kx_co ci fs))) : kx_V E I d mc ms Q (k + 1) (j + N) pc lv st n h := by
  intro p e R s m args below meth c H locs ls cells slots C P L V hk hj
  obtain ⟨C', T, ty, hc, hin, hty, w1, w2, w3, hfs⟩ := hw
  have hKn := C.k.1 ci _ hc
  have hsz : H.size = kx_B E + n := P.1
  refine W.newcK C.ex C.bt C.own (C.w w1) (C.w w2) (C.w w3) rfl hdg (by rw [C.rc]; omega) (by rw [C.rs]; omega) hKn.2.1 hsz fun H1 kC hkC e1 z1 o1 => ?_
  refine kk p _ R s m args below meth c H1 locs ls (cells + 1) (slots + N) C (P.push (by rw [z1, hsz]) (fun q hq => o1 q (by omega)) ⟨_, hc, (u_born (ws := kx_tb) ty (fun w hw => C.w hw) hin hKn hkC e1 hty).to (fun z hz => hfs _ z hz)⟩) L V (by omega) (by omega)
theorem kx_newi {N : Nat} {x : Int32} (hdg : decode I.2.1 pc = .ok (.newarray .int, 2)) (hw : Cond.arrayClass .int ∈ kx_tb) (hx : x = nI N) (hN : N ≤ 100000)
    (kk : kx_V E I d mc ms Q k j (pc + 2) lv (.ref n :: st) (n + 1) (kx_set h n (kx_ci N (fun _ => 0)))) : kx_V E I d mc ms Q (k + 1) (j + N) pc lv (.int x :: st) n h := by
  intro p e R s m args below meth c H locs ls cells slots C P L V hk hj
  subst hx
  have hsz : H.size = kx_B E + n := P.1
  refine va_newaK (atype := .int) C.ex C.bt (C.w hw) rfl hdg rfl (nI_pos (by omega)) (nI_clamp (by omega)) (by show N * 4 ≤ _; omega) (by rw [C.rc]; omega) (by rw [C.rs]; omega) hsz fun H1 cA e1 z1 o1 hA hnm => ?_
  have hcA : cA = E.2.2.2 0 := Option.some.inj (hnm.symm.trans (C.k.2 0 _ rfl).2)
  subst hcA
  exact kk p _ R s m args below meth c H1 locs ls (cells + 1) (slots + N) C (P.push (by rw [z1, hsz]) (fun q hq => o1 q (by omega)) e1) L V (by omega) (by omega)
theorem kx_newl {N : Nat} {x : Int32} (hdg : decode I.2.1 pc = .ok (.newarray .long, 2)) (hw : Cond.arrayClass .long ∈ kx_tb) (hx : x = nI N) (hN : N ≤ 100000)
    (kk : kx_V E I d mc ms Q k j (pc + 2) lv (.ref n :: st) (n + 1) (kx_set h n (kx_cl N (fun _ => 0)))) : kx_V E I d mc ms Q (k + 1) (j + N) pc lv (.int x :: st) n h := by
  intro p e R s m args below meth c H locs ls cells slots C P L V hk hj
  subst hx
  have hsz : H.size = kx_B E + n := P.1
  refine va_newaK (atype := .long) C.ex C.bt (C.w hw) rfl hdg rfl (nI_pos (by omega)) (nI_clamp (by omega)) (by show N * 8 ≤ _; omega) (by rw [C.rc]; omega) (by rw [C.rs]; omega) hsz fun H1 cA e1 z1 o1 hA hnm => ?_
  have hcA : cA = E.2.2.2 1 := Option.some.inj (hnm.symm.trans (C.k.2 1 _ rfl).2)
  subst hcA
  exact kk p _ R s m args below meth c H1 locs ls (cells + 1) (slots + N) C (P.push (by rw [z1, hsz]) (fun q hq => o1 q (by omega)) e1) L V (by omega) (by omega)
theorem kx_newq {index t N : Nat} {x : Int32} {Cn : String} (hdg : decode I.2.1 pc = .ok (.anewarray index, 3)) (h1 : Cond.classLink I.1 index Cn ∈ kx_tb) (h2 : Cond.arrayOver (.object Cn) ∈ kx_tb) (ht : ∀ aC, (kx_tys aC)[2 + t]? = some (aC (2 + t), .object Cn)) (hx : x = nI N) (hN : N ≤ 100000)
    (kk : kx_V E I d mc ms Q k j (pc + 3) lv (.ref n :: st) (n + 1) (kx_set h n (kx_cq t N (fun _ => none)))) : kx_V E I d mc ms Q (k + 1) (j + N) pc lv (.int x :: st) n h := by
  intro p e R s m args below meth c H locs ls cells slots C P L V hk hj
  subst hx
  have hsz : H.size = kx_B E + n := P.1
  have hcl : (nI N).toNatClampNeg = N := nI_clamp (by omega)
  refine W.anew C.ex C.bt C.own (C.w h1) (C.w h2) rfl hdg rfl (nI_pos (by omega)) (by rw [hcl]; omega) (by rw [C.rc]; omega) (by rw [C.rs, hcl]; omega) fun cA kA comp f1 f2 f3 f4 => ?_
  obtain ⟨kA', comp', k1, k2, k3, k4⟩ := (C.k.2 (2 + t) _ (ht E.2.2.2)).2
  have hcA : cA = E.2.2.2 (2 + t) := Option.some.inj (f1.symm.trans k4)
  subst hcA
  rw [hsz, hcl]
  refine kk p _ R s m args below meth c _ locs ls (cells + 1) (slots + N) C (P.push (by simp) (fun q hq => ?_) ?_) L V (by omega) (by omega)
  · rw [Array.getElem?_push, if_neg (Nat.ne_of_lt hq)]
  · show (H.push _)[kx_B E + n]? = some (arrV _ _ _)
    rw [← hsz, Array.getElem?_push_size]
    show some _ = some (arrV (E.2.2.2 (2 + t)) N (fun _ => Value.null))
    rw [← arrV_new]
theorem kx_obj {index i : Nat} (hdg : decode I.2.1 pc = .ok (.invokespecial index, 3)) (h1 : Cond.methodLink I.1 index Lib.objectInit ∈ kx_tb) (h2 : Cond.instanceMethod Lib.objectInit ∈ kx_tb) (h3 : Cond.code Lib.objectInit ⟨#[0xb1]⟩ 1 none ∈ kx_tb) (hd : 1 ≤ d) (hs : (st.map fun v => v.category).sum ≤ 8)
    (kk : kx_V E I d mc ms Q k j (pc + 3) lv st n h) : kx_V E I d mc ms Q k j pc lv (.ref i :: st) n h := by
  intro p e R s m args below meth c H locs ls cells slots C P L V hk hj
  have hc : ((List.map (kx_v (kx_B E)) st).map fun v => v.category).sum = _ := kx_s_cat E st
  have hl := C.lc
  have hf := C.fr
  exact W.objInit C.ex C.bt C.own (C.w h1) (C.w h2) (C.w h3) rfl (V.1.trans C.ml.symm) rfl hdg (by omega) (by show 2 * 0 + ((List.map (kx_v (kx_B E)) st).map fun v => v.category).sum + 12 ≤ _; omega)
    (kk p e R s m args below meth c H locs ls cells slots C P L V hk hj)
end KXD
end
section
def kx_kw (kw : Cond) (y : MethodName) (I : kx_I) : Prop := ∀ (a : Array Value) (U : State) (m : MethodId), kw.before a U = true → U.methodNamed? y = some m →
  ∃ meth c, U.vm.method? m = some meth ∧ meth.code = some c ∧ c.code = I.2.1 ∧ c.maxLocals = I.2.2.1 ∧ meth.sig.returnType = I.2.2.2.1 ∧ meth.locks = false ∧ c.exceptionTable.toList.map (fun x => (x.startPc, x.endPc, x.handlerPc, x.catchType)) = I.2.2.2.2.1 ∧ parseMethodDescriptor y.desc = some meth.sig
theorem kx_kw0 {y : MethodName} {own nm : String} {cc : ByteArray} {nL : Nat} {rt : Option FieldType} : kx_kw (.code y cc nL rt) y (own, cc, nL, rt, [], nm) := by
  intro a U m h hn
  obtain ⟨meth, c, h1, h2, h3, h4, h5, h6, h7, h8⟩ := Cond.code_spec hn h
  exact ⟨meth, c, h1, h2, h3, h4, h5, h6, by rw [Array.isEmpty_iff.mp h7]; rfl, h8⟩
theorem kx_kwH {y : MethodName} {own nm : String} {cc : ByteArray} {nL : Nat} {rt : Option FieldType} {hs : List (Nat × Nat × Nat × Nat)} : kx_kw (.codeWith y cc nL rt hs) y (own, cc, nL, rt, hs, nm) := by
  intro a U m h hn
  obtain ⟨m', meth, c, h0, h1, h2, h3, h4, h5, h6, h7, h8⟩ := Cond.codeWith_spec h
  cases hn.symm.trans h0
  exact ⟨meth, c, h1, h2, h3, h4, h6, h7, h5, h8⟩
def kx_Go (E : kx_E) (p : Program) (e : Env) (below : List Frame) (T T' : State) (g : JFrame) (len : Nat) (mk : MethodId) (av : Array Value) (r : Option Value ⊕ String) : Prop := match r with
  | Sum.inl v => ∀ acts, Steps p.tables e below (doInvoke e (T.setTop g) acts mk av).1 (T'.setTop { g with pc := g.pc + len, stack := (v.map (kx_v (kx_B E))).toList ++ g.stack })
  | Sum.inr X => ∃ (a : Addr) (ce : Cell), T'.heap[a]? = some ce ∧ ce.vm.isStatics = false ∧ E.2.1.vm.findClass X = some ce.cls ∧ ∀ acts, Steps p.tables e below (doInvoke e (T.setTop g) acts mk av).1 ((T'.setTop g).pushFrame (.throwing a))
theorem kx_heapTop (T : State) (g : JFrame) : (T.setTop g).heap = T.heap := by simp [State.setTop, State.modifyTopJava]
theorem kx_heapPush (T : State) (f : Frame) : (T.pushFrame f).heap = T.heap := by simp [State.pushFrame, State.setFrames]
section KXE
variable {E : kx_E} {I : kx_I} {d mc ms : Nat} {Q : kx_Q} {k j pc : Nat} {lv : List (Nat × Value)} {st : List Value} {n : Nat} {h : kx_H}
variable {p : Program} {e : Env} {R : Room} {s : State} {m : MethodId} {args : Array Value} {below : List Frame} {meth : Method} {c : Code} {T : State} {locs : List Loc} {cells slots : Nat}
theorem kx_run (X : Stand p E.1 e R s m args below meth c T locs cells slots) (C : kx_C E I d mc ms p e R s m args meth c)
    {g : JFrame} (hg : g.method = m) (hsize : g.locals.size = c.maxLocals) {ig : Instr} {len : Nat} (hdg : decode c.code g.pc = .ok (ig, len)) (hst : 2 * g.monitorRoom + (g.stack.map fun v => v.category).sum ≤ 8)
    {y : MethodName} {I' : kx_I} {kw : Cond} (hkw : kx_kw kw y I') (hkin : kw ∈ kx_tb) (hpl : plainName y.cls = true) (hI1 : I'.1 = y.cls) (hI2 : I'.2.2.2.2.2 = y.name) {mk : MethodId} (hn : T.methodNamed? y = some mk)
    {as : List Value} (P : kx_P E n h T.heap) {Q' : kx_Q} {d' mc' ms' : Nat} (hV : kx_V E I' d' mc' ms' Q' mc' ms' 0 (lv_args 0 as) [] n h) (hfit : (lg_sl as).length ≤ I'.2.2.1)
    (hd : d' + 1 ≤ d) (hL : I'.2.2.1 ≤ 17) (hc : cells + mc' ≤ mc) (hs : slots + ms' ≤ ms) :
    ∃ (r : Option Value ⊕ String) (n' : Nat) (h' : kx_H) (L : List Loc) (T' : State), Stand p E.1 e R s m args below meth c T' (locs ++ L) (cells + mc') (slots + ms') ∧ (∀ q ∈ L, kx_B E ≤ q.base) ∧ kx_P E n' h' T'.heap ∧ Q' r n' h' ∧ kx_Go E p e below T T' g len mk (kx_s E as).toArray r := by
  obtain ⟨methk, ck, hmk, hck, hcode, hml, hret, hlk, htb, hsig⟩ := hkw #[] T mk (kx_word C.g hkin #[] (State.WarmedH.trans C.wm X.warmed)) hn
  have hpk : T.plainMethod mk := State.plainMethod.of_name (fun k hk => by
    obtain ⟨k', hk', hnm⟩ := className_of_methodNamed hn
    cases hk.symm.trans hk'
    rw [hnm]; exact hpl)
  have hfr := C.fr
  have hlc := C.lc
  obtain ⟨Y, hin⟩ := X.into hg hsize hdg (kx_s E as).toArray (R' := { frames := d', cells := mc', slots := ms', locals := 36 * d' }) hmk hck hlk hpk (by show d' + 1 ≤ R.frames; omega) (by show _ + _ + (ck.maxLocals + 11) + 36 * d' ≤ R.locals; rw [hml]; omega) (by show cells + mc' ≤ R.cells; rw [C.rc]; exact hc) (by show slots + ms' ≤ R.slots; rw [C.rs]; exact hs)
  have hvm : (T.calling g mk (kx_s E as).toArray).vm = T.vm := by rw [State.calling_eq X.here.top]; rfl
  have hhp : (T.calling g mk (kx_s E as).toArray).heap = T.heap := by rw [State.calling_eq X.here.top]; rfl
  have C' : kx_C E I' d' mc' ms' p e { frames := d', cells := mc', slots := ms', locals := 36 * d' } (T.calling g mk (kx_s E as).toArray) mk (kx_s E as).toArray methk ck :=
    ⟨⟨C.g, C.ex, hcode, hml⟩, ⟨hret, hlk, by rw [hvm, hI1]; exact findClass_of_methodNamed hn, by rw [hvm]; exact State.WarmedH.trans C.wm X.warmed⟩, ⟨by rw [hhp]; exact P.2.1, htb, by rw [hI2]; exact (name_of_methodNamed hn hmk).1⟩, Nat.le_refl _, Nat.le_refl _, rfl, rfl⟩
  have hl := lv_entry (kx_s E as) (n := I'.2.2.1) (by rw [kx_sl]; exact hfit)
  rw [kx_args] at hl
  have w := hV p e _ _ mk _ (.java g :: below) methk ck T.heap [] _ 0 0 C' P (fun q hq => by cases hq) hl (by omega) (by omega)
  obtain ⟨t, hsteps, o, hrun, hend, hW, ⟨L, hsame, hLB⟩, r, n', h', P', hO, hq⟩ := w _ (by rw [kx_heapPush, kx_heapTop]) Y
  rw [hml, lg_entry_eq] at hsteps
  have hin' : ∀ acts, Steps p.tables e below (doInvoke e (T.setTop g) acts mk (kx_s E as).toArray).1 t := by
    intro acts
    rw [hin acts, hml, lg_entry_eq]
    exact kx_up (mid := [.java g]) hsteps
  cases r with
  | inl v =>
    have ho : o = .returned (v.map (kx_v (kx_B E))) := hO
    subst ho
    obtain ⟨T', X', -, -, ht⟩ := X.outOf hg hdg hend hW hsame
    refine ⟨Sum.inl v, n', h', L, T', X', hLB, ?_, hq, fun acts => ?_⟩
    · rw [ht, kx_heapTop] at P'
      exact P'
    · rw [← ht]
      exact hin' acts
  | inr Xc =>
    obtain ⟨a, ce, ho, hce, hns, hfc⟩ := hO
    subst ho
    obtain ⟨T', X', -, -, ht⟩ := X.outOfThrown hg hend hW hsame
    rw [ht, kx_heapPush, kx_heapTop] at P' hce
    refine ⟨Sum.inr Xc, n', h', L, T', X', hLB, P', hq, a, ce, hce, hns, hfc, fun acts => ?_⟩
    rw [← ht]
    exact hin' acts
theorem kx_after {H : Heap} {ls : Array Slot} {g' : JFrame} {vm₁ : Vm} (C : kx_C E I d mc ms p e R s m args meth c) (L0 : ∀ q ∈ locs, kx_B E ≤ q.base) (V : lv_has ls I.2.2.1 (kx_l E lv))
    {r : Option Value ⊕ String} {n' : Nat} {h' : kx_H} {L : List Loc} {T' : State} {mc' ms' : Nat} {mk : MethodId} {av : Array Value} (hk : cells + (k + mc') ≤ mc) (hj : slots + (j + ms') ≤ ms)
    (X' : Stand p E.1 e R s m args below meth c T' (locs ++ L) (cells + mc') (slots + ms')) (hLB : ∀ q ∈ L, kx_B E ≤ q.base) (P' : kx_P E n' h' T'.heap)
    (hstep : ∀ target, (∀ acts, Steps p.tables e below (doInvoke e ((T.setVm vm₁).setTop (F0 m pc ls (kx_s E st))) acts mk av).1 target) → Steps p.tables e below (T.setTop g') target)
    (hgo : kx_Go E p e below (T.setVm vm₁) T' (F0 m pc ls (kx_s E st)) 3 mk av r)
    (kk : ∀ v, r = Sum.inl v → kx_V E I d mc ms Q k j (pc + 3) lv (v.toList ++ st) n' h') (kx : ∀ Xc, r = Sum.inr Xc → kx_X E I d mc ms Q k j pc lv Xc n' h') :
    ∃ t, Steps p.tables e below (T.setTop g') t ∧ kx_Z E mc ms Q below s t := by
  have LL : ∀ q ∈ locs ++ L, kx_B E ≤ q.base := fun q hq => by
    rcases List.mem_append.mp hq with g | g
    · exact L0 q g
    · exact hLB q g
  cases r with
  | inl v =>
    obtain ⟨t, a1, b1⟩ := kk v rfl p e R s m args below meth c T'.heap _ ls _ _ C P' LL V (by omega) (by omega) T' rfl X'
    refine ⟨t, hstep t (fun acts => (hgo acts).trans ?_), b1⟩
    have e1 : kx_s E (v.toList ++ st) = (v.map (kx_v (kx_B E))).toList ++ kx_s E st := by cases v <;> rfl
    rw [e1] at a1
    exact a1
  | inr Xc =>
    obtain ⟨a, ce, hce, hns, hfc, hgo⟩ := hgo
    obtain ⟨t, a1, b1⟩ := kx Xc rfl p e R s m args below meth c T'.heap _ ls _ _ C P' LL V (by omega) (by omega) (kx_s E st) a ce hce hns hfc T' rfl X'
    exact ⟨t, hstep t (fun acts => (hgo acts).trans a1), b1⟩
def kx_wS (own : String) (index : Nat) (y : MethodName) (kw : Cond) (I' : kx_I) (na : Nat) : Prop :=
  kx_kw kw y I' ∧ kw ∈ kx_tb ∧ Cond.methodLink own index y ∈ kx_tb ∧ Cond.static y ∈ kx_tb ∧ Cond.initialized y.cls ∈ kx_tb ∧ plainName y.cls = true ∧ (y.cls ≠ "java/lang/invoke/MethodHandle" ∧ y.cls ≠ "java/lang/invoke/VarHandle") ∧ (parseMethodDescriptor y.desc).map (fun q => q.parameters.length) = some na ∧ I'.1 = y.cls ∧ I'.2.2.2.2.2 = y.name ∧ I'.2.2.1 ≤ 17
theorem kx_cat8 {m : MethodId} {ls : Array Slot} (h : (st.map fun v => v.category).sum ≤ 8) : 2 * (F0 m pc ls (kx_s E st)).monitorRoom + ((F0 m pc ls (kx_s E st)).stack.map fun v => v.category).sum ≤ 8 := by
  show 2 * 0 + ((kx_s E st).map fun v => v.category).sum ≤ 8
  rw [kx_s_cat]
  omega
theorem kx_invS {index : Nat} {y : MethodName} {kw : Cond} {I' : kx_I} {na : Nat} {as stk : List Value} {Q' : kx_Q} {d' mc' ms' : Nat} (hdg : decode I.2.1 pc = .ok (.invokestatic index, 3)) (hw : kx_wS I.1 index y kw I' na) (hV : kx_V E I' d' mc' ms' Q' mc' ms' 0 (lv_args 0 as) [] n h) (hs : stk = as.reverse ++ st) (hna : as.length = na) (hfit : (lg_sl as).length ≤ I'.2.2.1) (hd : d' + 1 ≤ d) (hcat : (st.map fun v => v.category).sum ≤ 8)
    (kk : ∀ v n' h', Q' (Sum.inl v) n' h' → kx_V E I d mc ms Q k j (pc + 3) lv (v.toList ++ st) n' h') (kx : ∀ Xc n' h', Q' (Sum.inr Xc) n' h' → kx_X E I d mc ms Q k j pc lv Xc n' h') : kx_V E I d mc ms Q (k + mc') (j + ms') pc lv stk n h := by
  intro p e R s m args below meth c H locs ls cells slots C P L V hk hj T hT X
  subst hs
  obtain ⟨hkw, w0, w1, w2, w3, hpl, hy, hpa, hI1, hI2, hnL⟩ := hw
  have hnamed0 := C.w w2
  obtain ⟨mk, methM, hnamed, hmethM⟩ : ∃ mk methM, s.methodNamed? y = some mk ∧ s.vm.method? mk = some methM := by
    cases hq : s.methodNamed? y with
    | none => simp [Cond.before, Cond.holds, Cond.value, hq] at hnamed0
    | some mk =>
      obtain ⟨methM, c0, g1, -⟩ := hkw args s mk (C.w w0) hq
      exact ⟨mk, methM, rfl, g1⟩
  have hstatic : methM.isStatic = true := Cond.static_spec hnamed hmethM hnamed0
  obtain ⟨kP, hkP, -⟩ := className_of_methodNamed hnamed
  have hinitP : kP.init = .initialized := Cond.initialized_spec (findClass_of_methodNamed hnamed) hkP (C.w w3)
  obtain ⟨methM', c0, g1, -, -, -, -, -, -, hsig⟩ := hkw args s mk (C.w w0) hnamed
  cases hmethM.symm.trans g1
  have hlen : (kx_s E as).length = methM.sig.parameters.length := by
    rw [hsig] at hpa
    rw [List.length_map, hna]
    exact (Option.some.inj hpa).symm
  obtain ⟨vm₁, X₁, hstep⟩ := X.invokestatic C.ex C.own (C.w w1) hnamed hmethM hstatic hkP hinitP hy (g := F0 m pc ls (kx_s E (as.reverse ++ st))) rfl (argsL := kx_s E as) (rest := kx_s E st) hlen (by show kx_s E (as.reverse ++ st) = _; simp [kx_s, List.map_reverse]) (by rw [C.bt]; exact hdg)
  obtain ⟨r, n', h', L', T', X', hLB, P', hq, hgo⟩ := kx_run X₁ C (g := F0 m pc ls (kx_s E st)) rfl (V.1.trans C.ml.symm) (by rw [C.bt]; exact hdg) (kx_cat8 hcat) hkw w0 hpl hI1 hI2 (X₁.named hnamed) (by rw [← hT] at P; exact P) hV hfit hd hnL (by omega) (by omega)
  exact kx_after (vm₁ := vm₁) (H := H) C L V hk hj X' hLB P' hstep hgo (fun v hv => kk v n' h' (hv ▸ hq)) (fun Xc hX => kx Xc n' h' (hX ▸ hq))
def kx_wV (own : String) (index ci : Nat) (y : MethodName) (kw : Cond) (I' : kx_I) (na : Nat) : Prop :=
  kx_kw kw y I' ∧ kw ∈ kx_tb ∧ Cond.methodLink own index y ∈ kx_tb ∧ Cond.instanceMethod y ∈ kx_tb ∧ (∃ q : vw_C, kx_cls[ci]? = some q ∧ q.1 = y.cls) ∧ Cond.selects y.cls y y ∈ kx_tb ∧ plainName y.cls = true ∧ (y.cls ≠ "java/lang/invoke/MethodHandle" ∧ y.cls ≠ "java/lang/invoke/VarHandle") ∧ (parseMethodDescriptor y.desc).map (fun q => q.parameters.length) = some na ∧ I'.1 = y.cls ∧ I'.2.2.2.2.2 = y.name ∧ I'.2.2.1 ≤ 17
theorem kx_invV {index ci b : Nat} {y : MethodName} {kw : Cond} {I' : kx_I} {na : Nat} {fs as stk : List Value} {Q' : kx_Q} {d' mc' ms' : Nat} (hdg : decode I.2.1 pc = .ok (.invokevirtual index, 3)) (hw : kx_wV I.1 index ci y kw I' na) (hb : h b = some (kx_co ci fs)) (hV : kx_V E I' d' mc' ms' Q' mc' ms' 0 (lv_args 0 (.ref b :: as)) [] n h) (hs : stk = as.reverse ++ .ref b :: st) (hna : as.length = na) (hfit : (lg_sl (.ref b :: as)).length ≤ I'.2.2.1) (hd : d' + 1 ≤ d) (hcat : (st.map fun v => v.category).sum ≤ 8)
    (kk : ∀ v n' h', Q' (Sum.inl v) n' h' → kx_V E I d mc ms Q k j (pc + 3) lv (v.toList ++ st) n' h') (kx : ∀ Xc n' h', Q' (Sum.inr Xc) n' h' → kx_X E I d mc ms Q k j pc lv Xc n' h') : kx_V E I d mc ms Q (k + mc') (j + ms') pc lv stk n h := by
  intro p e R s m args below meth c H locs ls cells slots C P L V hk hj T hT X
  subst hs
  obtain ⟨hkw, w0, w1, w2, ⟨q, hq, hqc⟩, w4, hpl, hy, hpa, hI1, hI2, hnL⟩ := hw
  obtain ⟨mk, methM, hnamed, hmethM, hstM, habM⟩ := Cond.instanceMethod_spec (C.w w2)
  obtain ⟨methM', c0, g1, -, -, -, -, -, -, hsig⟩ := hkw args s mk (C.w w0) hnamed
  cases hmethM.symm.trans g1
  obtain ⟨c2, r2, m2, q1, q2, q3, q4, kP, hkP, hkPi⟩ := Cond.selects_spec (C.w w4)
  obtain ⟨cellB, hcB, hoB, hclB⟩ := kx_recv C P hb hq
  rw [hqc] at hclB
  cases hclB.symm.trans q1
  cases (State.methodFound?_of_named hnamed hy).symm.trans q2
  cases hnamed.symm.trans q3
  have hselP : selectMethod e.platform s.vm cellB.cls mk = .method mk := by rw [Launch.admits_selectMethod X.admits]; exact q4
  have hlen : (kx_s E as).length = methM.sig.parameters.length := by
    rw [hsig] at hpa
    rw [List.length_map, hna]
    exact (Option.some.inj hpa).symm
  obtain ⟨vm₁, X₁, hstep⟩ := X.invokevirtual C.ex C.own (C.w w1) hnamed hmethM hstM hkP hkPi hy (a := kx_B E + b) (cell := cellB) (by rw [hT]; exact hcB) (fun z hz => by rw [hz] at hoB; cases hoB) hselP hmethM habM hkP hkPi (g := F0 m pc ls (kx_s E (as.reverse ++ .ref b :: st))) rfl (argsL := kx_s E as) (rest := kx_s E st) hlen (by show kx_s E (as.reverse ++ .ref b :: st) = _; simp [kx_s, List.map_reverse, kx_v]) (by rw [C.bt]; exact hdg)
  obtain ⟨r, n', h', L', T', X', hLB, P', hq', hgo⟩ := kx_run X₁ C (g := F0 m pc ls (kx_s E st)) rfl (V.1.trans C.ml.symm) (by rw [C.bt]; exact hdg) (kx_cat8 hcat) hkw w0 hpl hI1 hI2 (X₁.named hnamed) (by rw [← hT] at P; exact P) hV hfit hd hnL (by omega) (by omega)
  exact kx_after (vm₁ := vm₁) (H := H) C L V hk hj X' hLB P' hstep hgo (fun v hv => kk v n' h' (hv ▸ hq')) (fun Xc hX => kx Xc n' h' (hX ▸ hq'))
def kx_wI (own : String) (index : Nat) (y : MethodName) (I' : kx_I) (na : Nat) : Prop :=
  Cond.code y I'.2.1 I'.2.2.1 none ∈ kx_tb ∧ I'.2.2.2.1 = none ∧ I'.2.2.2.2.1 = [] ∧ Cond.methodLink own index y ∈ kx_tb ∧ Cond.instanceMethod y ∈ kx_tb ∧ y.name = "<init>" ∧ plainName y.cls = true ∧ (y.cls ≠ "java/lang/invoke/MethodHandle" ∧ y.cls ≠ "java/lang/invoke/VarHandle") ∧ (parseMethodDescriptor y.desc).map (fun q => q.parameters.length) = some na ∧ I'.1 = y.cls ∧ I'.2.2.2.2.2 = y.name ∧ I'.2.2.1 ≤ 17
theorem kx_invI {index b : Nat} {y : MethodName} {I' : kx_I} {na : Nat} {as stk : List Value} {Q' : kx_Q} {d' mc' ms' : Nat} (hdg : decode I.2.1 pc = .ok (.invokespecial index, 3)) (hw : kx_wI I.1 index y I' na) (hV : kx_V E I' d' mc' ms' Q' mc' ms' 0 (lv_args 0 (.ref b :: as)) [] n h) (hs : stk = as.reverse ++ .ref b :: st) (hna : as.length = na) (hfit : (lg_sl (.ref b :: as)).length ≤ I'.2.2.1) (hd : d' + 1 ≤ d) (hcat : (st.map fun v => v.category).sum ≤ 8)
    (kk : ∀ v n' h', Q' (Sum.inl v) n' h' → kx_V E I d mc ms Q k j (pc + 3) lv (v.toList ++ st) n' h') (kx : ∀ Xc n' h', Q' (Sum.inr Xc) n' h' → kx_X E I d mc ms Q k j pc lv Xc n' h') : kx_V E I d mc ms Q (k + mc') (j + ms') pc lv stk n h := by
  intro p e R s m args below meth c H locs ls cells slots C P L V hk hj T hT X
  subst hs
  obtain ⟨w0, hI3, hI4, w1, w2, hini, hpl, hy, hpa, hI1, hI2, hnL⟩ := hw
  have hkw : kx_kw (.code y I'.2.1 I'.2.2.1 none) y I' := by
    obtain ⟨i1, i2, i3, i4, i5, i6⟩ := I'
    dsimp only at hI3 hI4
    subst hI3
    subst hI4
    exact kx_kw0
  have hplat : e.platform.magicAccessors = ({} : Platform).magicAccessors := by rw [X.admits.platform]
  obtain ⟨mk, methM, cM, kP, vm₁, hnamed, hmethM, hcodeM, -, -, -, hkP, -, hW₁, hstep⟩ := Steps.initColdArgs (e := e) X.here C.ex X.warmed hplat C.own hini hy (C.w w1) (C.w w2) (C.w w0) (f := F0 m pc ls (kx_s E (as.reverse ++ .ref b :: st))) rfl (a := kx_B E + b) (argsL := kx_s E as) (rest := kx_s E st) (fun sig hsg => by
      rw [hsg] at hpa
      rw [List.length_map, hna]
      exact (Option.some.inj hpa).symm) (by show kx_s E (as.reverse ++ .ref b :: st) = _; simp [kx_s, List.map_reverse, kx_v]) (by rw [C.bt]; exact hdg)
  have X₁ := X.noted hW₁
  obtain ⟨r, n', h', L', T', X', hLB, P', hq', hgo⟩ := kx_run X₁ C (g := F0 m pc ls (kx_s E st)) rfl (V.1.trans C.ml.symm) (by rw [C.bt]; exact hdg) (kx_cat8 hcat) hkw w0 hpl hI1 hI2 (X₁.named hnamed) (by rw [← hT] at P; exact P) hV hfit hd hnL (by omega) (by omega)
  exact kx_after (vm₁ := vm₁) (H := H) C L V hk hj X' hLB P' hstep hgo (fun v hv => kk v n' h' (hv ▸ hq')) (fun Xc hX => kx Xc n' h' (hX ▸ hq'))
theorem kx_X.out {Xc : String} (hno : ∀ x ∈ I.2.2.2.2.1, ¬ (x.1 ≤ pc ∧ pc < x.2.1)) (hq : Q (Sum.inr Xc) n h) : kx_X E I d mc ms Q k j pc lv Xc n h := by
  intro p e R s m args below meth c H locs ls cells slots C P L V hk hj st a ce hce hns hfc T hT X
  have hout : ∀ x ∈ c.exceptionTable.toList, covers x pc = false := by
    intro x hx
    have h1 := hno (x.startPc, x.endPc, x.handlerPc, x.catchType) (by rw [← C.tb]; exact List.mem_map.mpr ⟨x, hx, rfl⟩)
    simp only [covers, Bool.and_eq_false_iff, decide_eq_false_iff_not]
    by_cases h2 : x.startPc ≤ pc
    · exact Or.inr (fun h3 => h1 ⟨h2, h3⟩)
    · exact Or.inl h2
  obtain ⟨hsteps, hrun, hend, hW, hsame⟩ := X.leaveThrown a (g := F0 m pc ls st) rfl rfl rfl hout (hlocks := C.lk)
  refine ⟨_, hsteps, .threw a, hrun, hend, hW, ⟨locs, hsame.mono (by omega) (by omega), L⟩, Sum.inr Xc, n, h, ?_, ⟨a, ce, rfl, ?_, hns, hfc⟩, hq⟩
  · show kx_P E n h T.heap
    rw [hT]; exact P
  · show T.heap[a]? = some ce
    rw [hT]; exact hce
end KXE
end
section
section KXF
variable {p : Program} {l : Launch} {e : Env} {R : Room} {s : State} {m : MethodId} {args : Array Value} {below : List Frame} {meth : Method} {c : Code} {T : State} {locs : List Loc} {cells slots : Nat}
theorem kx_rebase (X : Stand p l e R s m args below meth c T locs cells slots) {R' : Room} (h1 : R'.frames ≤ R.frames) (h2 : R'.locals ≤ R.locals) (h3 : cells + R'.cells ≤ R.cells) (h4 : slots + R'.slots ≤ R.slots) :
    Stand p l e R' (T.setFrames (.invoking m args :: below)) m args below meth c T [] 0 0 := by
  obtain ⟨g₀, hfr⟩ := X.frames_eq
  have hcur := State.cur_lt_of_frames hfr
  have hF : (T.setFrames (.invoking m args :: below)).frames = .invoking m args :: below := State.frames_setFrames _ hcur
  have hm : ∀ z, T.vm.method? z = s.vm.method? z := fun z => X.warmed.alike.method? z
  have hmeth : (T.setFrames (.invoking m args :: below)).vm.method? m = some meth := X.method'
  refine ⟨X.admits, X.cas, X.clock, hF, ?_, ?_, hmeth, X.code, X.here, X.tail, State.WarmedH.refl (T.setFrames (.invoking m args :: below)), by rw [State.stackLimits_setFrames], by rw [State.stackBytes_setFrames], ?_⟩
  · have hr := X.room
    have hz := X.heapSize
    have hu := X.used
    have hbk : (T.setFrames (.invoking m args :: below)).slotsTrue = true := X.book
    simp only [State.hasRoom, Bool.and_eq_true, decide_eq_true_eq] at hr ⊢
    rw [State.localsInUse_invoking X.frames X.method X.code, X.frames] at hr
    rw [State.localsInUse_invoking hF hmeth X.code, hF, State.stackLimits_setFrames, State.stackBytes_setFrames, X.limits, X.bytes]
    obtain ⟨⟨⟨⟨r1, r2, r3, r4, r5, r6⟩, r7⟩, r8⟩, r9⟩ := hr
    refine ⟨⟨⟨⟨by omega, by omega, by omega, by omega, by omega, r6⟩, ?_⟩, ?_⟩, hbk⟩
    · show T.heap.size + R'.cells ≤ _
      omega
    · show T.slotsUsed + R'.slots ≤ _
      omega
  · have h0 := X.hears
    have hco : ∀ z, (T.setFrames (.invoking m args :: below)).code? z = s.code? z := fun z => by
      rw [State.code?_eq, State.code?_eq]
      show (T.vm.method? z).bind _ = _
      rw [hm z]
    have hm2 : ∀ z, (T.setFrames (.invoking m args :: below)).vm.method? z = s.vm.method? z := hm
    cases below with
    | nil => simpa only [State.hears, hm2] using h0
    | cons f r => cases f <;> first | simpa only [State.hears, hco] using h0 | simpa only [State.hears, hm2] using h0
  · obtain ⟨th, hth, -⟩ := State.frames_cons hF
    have hb := (State.sameButNew.refl (T.setFrames (.invoking m args :: below)) hth).setFrames T.frames (State.cur_lt_of_frames hF)
    obtain ⟨th2, hth2, -⟩ := State.frames_cons hfr
    rw [State.setFrames_setFrames, State.setFrames_self hth2] at hb
    exact hb
theorem kx_gone (X : Stand p l e R s m args below meth c T locs cells slots) {a : Addr} {t : State} (hend : Ended t below (.threw a)) (hW : (T.setFrames (.invoking m args :: below)).WarmedH t.vm) {k n : Nat} (hs : (T.setFrames (.invoking m args :: below)).sameButNew ({ t with vm := (T.setFrames (.invoking m args :: below)).vm } : State) [] k n) :
    s.WarmedH t.vm ∧ s.sameButNew ({ t with vm := s.vm } : State) locs (cells + k) (slots + n) := by
  obtain ⟨e2, q2, q3, q4, q5, q6⟩ := hs
  obtain ⟨g₀, hfr⟩ := X.frames_eq
  have hf : t.frames = .throwing a :: below := hend
  have hW' : T.WarmedH t.vm := hW
  have e3 : t = (({ (T.setFrames (.invoking m args :: below)).setFrames t.frames with heap := t.heap, slotsUsed := t.slotsUsed } : State)).setVm t.vm := by
    have : t = ({ t with vm := (T.setFrames (.invoking m args :: below)).vm } : State).setVm t.vm := rfl
    rw [e2] at this
    exact this
  have hB : T.sameButNew ({ T with heap := t.heap, slotsUsed := t.slotsUsed } : State) [] k n := by
    refine ⟨?_, q2, q3, q4, q5, q6⟩
    obtain ⟨th, hth, -⟩ := State.frames_cons hfr
    show ({ T with heap := t.heap, slotsUsed := t.slotsUsed } : State) = { T.setFrames T.frames with heap := t.heap, slotsUsed := t.slotsUsed }
    rw [State.setFrames_self hth]
  have X' : Stand p l e R s m args below meth c (({ T with heap := t.heap, slotsUsed := t.slotsUsed } : State).setVm t.vm) (locs ++ []) (cells + k) (slots + n) :=
    ⟨X.admits, X.cas, X.clock, X.frames, X.room, X.hears, X.method, X.code, (X.here.setHeapUsed t.heap t.slotsUsed).setVm hW'.alike, X.tail, State.WarmedH.trans X.warmed hW', X.limits, X.bytes, X.same.trans (hB.setVm s.vm)⟩
  rw [List.append_nil] at X'
  have hE := X'.ends (.throwing a :: below)
  have ht : t = (({ T with heap := t.heap, slotsUsed := t.slotsUsed } : State).setVm t.vm).setFrames (.throwing a :: below) := by
    refine e3.trans ?_
    rw [hf, State.setFrames_setFrames]
    rfl
  rw [← ht] at hE
  exact hE
end KXF
def kx_tx (own : String) (inew ic : Nat) (Xc : String) (names : List String) : Prop := Bundle.fit Xc = true ∧ (∀ q ∈ names, Bundle.fit q = true) ∧ Cond.classLink own inew Xc ∈ kx_tb ∧ Cond.instantiable Xc 6 ∈ kx_tb ∧ Cond.initialized Xc ∈ kx_tb ∧ ∀ w ∈ Bundle.ownAtoms own ic Xc names, w ∈ kx_tb ∨ w ∈ kx_hw ∨ w ∈ kx_hr ∨ (w ∈ lw_tbl ∧ kx_dc w = true)
section KXG
variable {E : kx_E} {I : kx_I} {d mc ms : Nat} {Q : kx_Q} {k j pc : Nat} {lv : List (Nat × Value)} {st : List Value} {n : Nat} {h : kx_H}
theorem kx_throw {inew istr ic : Nat} {Xc tx : String} {names : List String} (d0 : decode I.2.1 pc = .ok (.new inew, 3)) (d3 : decode I.2.1 (pc + 3) = .ok (.dup, 1)) (d4 : decode I.2.1 (pc + 3 + 1) = .ok (.ldc istr, 2)) (d6 : decode I.2.1 (pc + 3 + 1 + 2) = .ok (.invokespecial ic, 3)) (d9 : decode I.2.1 (pc + 3 + 1 + 2 + 3) = .ok (.athrow, 1))
    (hx : kx_tx I.1 inew ic Xc names) (hstr : (I.1, istr, tx) ∈ kx_strs) (hno : ∀ x ∈ I.2.2.2.2.1, ¬ (x.1 ≤ pc + 3 + 1 + 2 + 3 ∧ pc + 3 + 1 + 2 + 3 < x.2.1)) (hd : names.length + 4 ≤ d) (hcat : (st.map fun v => v.category).sum ≤ 8) (hq : Q (Sum.inr Xc) (n + 1) h) : kx_V E I d mc ms Q (k + 1) (j + 6) pc lv st n h := by
  intro p e R s m args below meth c H locs ls cells slots C P L V hk hj T hT X
  obtain ⟨f1, f2, w1, w2, w3, hat⟩ := hx
  have hrc := C.rc
  have hrs := C.rs
  have hfr := C.fr
  have hlc := C.lc
  have hW2 : E.2.1.WarmedH T.vm := State.WarmedH.trans C.wm X.warmed
  have Y := kx_rebase X (R' := { frames := R.frames, cells := 1, slots := 6, locals := R.locals }) (Nat.le_refl _) (Nat.le_refl _) (by show cells + 1 ≤ _; omega) (by show slots + 6 ≤ _; omega)
  generalize hs2 : T.setFrames (.invoking m args :: below) = s2 at Y
  have hvm2 : s2.vm = T.vm := by rw [← hs2]; rfl
  have hhp2 : s2.heap = H := by rw [← hs2, ← hT]; rfl
  have hW3 : E.2.1.WarmedH s2.vm := by rw [hvm2]; exact hW2
  have hown2 : s2.vm.findClass I.1 = some m.cls := by rw [hvm2, X.warmed.alike.findClass]; exact C.own
  have hT2 : kx_T s2 := C.g.2.2.2.1.to hW3 (fun q hq => by rw [hhp2]; exact P.2.1 q hq)
  have hwd : ∀ w ∈ Bundle.ownAtoms I.1 ic Xc names, w.before args s2 = true := fun w hw => by
    rcases hat w hw with g | g | g | g
    · exact kx_word C.g g args hW3
    · exact hT2.1 w g args
    · exact hT2.2.1 w g args
    · exact kx_word2 C.g g.1 g.2 args hW3
  have htr : e.platform.stackTraces = false := by
    have h0 := X.admits.2.2.2.2.1
    rw [h0]
    exact C.g.1
  have hout : ∀ x ∈ c.exceptionTable.toList, covers x (pc + 3 + 1 + 2 + 3) = false := by
    intro x hx
    have h1 := hno (x.startPc, x.endPc, x.handlerPc, x.catchType) (by rw [← C.tb]; exact List.mem_map.mpr ⟨x, hx, rfl⟩)
    simp only [covers, Bool.and_eq_false_iff, decide_eq_false_iff_not]
    by_cases h2 : x.startPc ≤ pc + 3 + 1 + 2 + 3
    · exact Or.inr (fun h3 => h1 ⟨h2, h3⟩)
    · exact Or.inl h2
  obtain ⟨cX, kX, hfX, hkX, -⟩ := Cond.instantiable_spec (kx_word C.g w2 args hW3)
  obtain ⟨qs, hZ⟩ := hT2.2.2 _ hstr
  have hc8 : ((List.map (kx_v (kx_B E)) st).map fun v => v.category).sum = _ := kx_s_cat E st
  have w : W p E.1 e { frames := R.frames, cells := 1, slots := 6, locals := R.locals } s2 m args below meth c H [] 0 0 (fun t => ∃ (a : Addr) (ce : Cell), t.status = .running ∧ Ended t below (.threw a) ∧ s2.WarmedH t.vm ∧ s2.sameButNew ({ t with vm := s2.vm } : State) [] 1 6 ∧ t.heap[a]? = some ce ∧ a = H.size ∧ ce.vm = .none ∧ s2.vm.findClass Xc = some ce.cls) (F0 m pc ls (kx_s E st)) := by
    refine W.newcK C.ex C.bt hown2 (kx_word C.g w1 args hW3) (kx_word C.g w2 args hW3) (kx_word C.g w3 args hW3) rfl d0 (by show 0 + 1 ≤ 1; omega) (by show 0 + 6 ≤ 6; omega) hfX rfl fun H1 kC hkC e1 z1 o1 => ?_
    cases hkX.symm.trans hkC
    refine lv_dup C.ex C.bt d3 rfl ?_
    refine va_ldcS C.ex C.bt hown2 hZ d4 ?_
    intro T2 hT2 X2
    obtain ⟨U, hsteps, hrun, hend, hWU, hsame, ce, hce, O⟩ := X2.ctorThrowS C.ex htr hown2 f1 f2 hwd (fun x hx => by cases hx) hfX hkX (a := H.size) (by rw [hT2]; exact e1) (by rw [hhp2]; exact Nat.le_refl _) (msg := .ref qs) rfl (g := F0 m (pc + 3 + 1 + 2) ls (.ref qs :: .ref H.size :: .ref H.size :: kx_s E st)) rfl (V.1.trans C.ml.symm) rfl rfl rfl (by rw [C.bt]; exact d6) (by rw [C.bt]; exact d9) hout (by show names.length + 3 < R.frames; omega) (by
        show 2 * 0 + ((Value.ref H.size :: kx_s E st).map fun v => v.category).sum + (13 * (names.length + 1) + 42) ≤ R.locals
        rw [List.map_cons, List.sum_cons]
        show 2 * 0 + (1 + ((List.map (kx_v (kx_B E)) st).map fun v => v.category).sum) + _ ≤ _
        omega) (hlocks := C.lk)
    exact ⟨U, hsteps, H.size, ce, hrun, hend, hWU, hsame, hce, rfl, O.vm, O.cls⟩
  obtain ⟨t, hsteps, a, ce, hrun, hend, hWt, hsame, hce, ha, hvn, hfc⟩ := w T hT Y
  subst hs2
  obtain ⟨g1, g2⟩ := kx_gone X hend hWt hsame
  have hlt : a < t.heap.size := (Array.getElem?_eq_some_iff.mp hce).1
  have hz4 : H.size < t.heap.size := by rw [ha] at hlt; exact hlt
  have hz3 : t.heap.size ≤ H.size + 1 := by have := hsame.2.2.1; rw [hhp2] at this; exact this
  refine ⟨t, hsteps, .threw a, hrun, hend, g1, ⟨locs, g2.mono (by omega) (by omega), L⟩, Sum.inr Xc, n + 1, h, P.junk (by omega) (fun q hq => ?_) (fun cell hc => ?_), ⟨a, ce, rfl, hce, by rw [hvn]; rfl, ?_⟩, hq⟩
  · have hq2 : (T.setFrames (.invoking m args :: below)).heap[q]? = some H[q] := by rw [hhp2]; exact Array.getElem?_eq_getElem hq
    rw [Array.getElem?_eq_getElem hq]
    exact State.sameButNew.old_cell hsame hq2
  · rw [← ha, hce] at hc
    cases hc
    rw [hvn]; rfl
  · rw [← hfc, hW3.alike.findClass]
end KXG
end
section
def kx_sel (own Xc : String) (pc hpc : Nat) : List (Nat × Nat × Nat × Nat) → Prop
  | [] => False
  | x :: t => (x.1 ≤ pc ∧ pc < x.2.1) ∧ x.2.2.2 ≠ 0 ∧ ∃ Cn, Cond.classLink own x.2.2.2 Cn ∈ kx_tb ∧ Xc ∈ kx_exc ∧ Cn ∈ kx_exc ∧ ((Xc = Cn ∧ x.2.2.1 = hpc) ∨ (Xc ≠ Cn ∧ kx_sel own Xc pc hpc t))
section KXS
variable {e : Env} {s S0 : State} {f : JFrame} {a : Addr}
theorem kx_goIn {x : ExceptionTableEntry} {t : List ExceptionTableEntry} {cT : ClassId} {cell : Cell} (hx : covers x f.pc = true) (h0 : x.catchType ≠ 0) (hl : S0.vm.ClassLinks e.platform f.method.cls x.catchType cT) (hcell : S0.heap[a]? = some cell) (hobj : ∀ k, cell.vm ≠ .statics k) (hk : ∃ k, S0.vm.classes[cell.cls]? = some k) (hc : ∃ k, S0.vm.classes[cT]? = some k)
    (Q : Handler → Pre) (Ee : CtlPost) (d : Bool) (acts : List Action) :
    wp (findHandler.go f a (x :: t)) Q Ee e d acts S0 ↔ if S0.vm.assignable cell.cls cT = true then Q (.found x.handlerPc) d acts (S0.setVm (S0.vm.noted f.method.cls x.catchType (.cls cT))) else wp (findHandler.go f a t) Q Ee e d acts (S0.setVm (S0.vm.noted f.method.cls x.catchType (.cls cT))) := by
  simp only [covers] at hx
  obtain ⟨ha, ht⟩ := (resolveClass_links e.toSetting hl).op (op := VmOp.resolveClass f.method.cls x.catchType) rfl
  have hal : S0.vm.Alike (S0.vm.noted f.method.cls x.catchType (.cls cT)) := (Vm.Alike.refl S0.vm).noted _ _ _
  obtain ⟨k1, hk1⟩ := hk
  obtain ⟨k2, hk2⟩ := hc
  obtain ⟨k1', hk1', -⟩ := hal.2.2 _ _ hk1
  obtain ⟨k2', hk2', -⟩ := hal.2.2 _ _ hk2
  have has : (S0.vm.noted f.method.cls x.catchType (.cls cT)).assignable cell.cls cT = S0.vm.assignable cell.cls cT := hal.assignable ..
  cases hfit : S0.vm.assignable cell.cls cT <;> simp [findHandler.go, hx, h0, ha, ht, hcell, hobj, hk1', hk2', has, hfit, VmOp.dirties, VmOp.acts]
end KXS
section KXT
variable {E : kx_E} {I : kx_I} {d mc ms : Nat} {Q : kx_Q} {k j pc : Nat} {lv : List (Nat × Value)} {n : Nat} {h : kx_H}
theorem kx_search {p : Program} {e : Env} {R : Room} {s : State} {m : MethodId} {args : Array Value} {meth : Method} {c : Code} {below : List Frame} {T : State} {locs : List Loc} {cells slots : Nat} (X : Stand p E.1 e R s m args below meth c T locs cells slots) (C : kx_C E I d mc ms p e R s m args meth c) {g : JFrame} (hg : g.method = m) {S0 : State} {a : Addr} {ce : Cell} {Xc : String} {hpc : Nat} (hce : S0.heap[a]? = some ce) (hns : ce.vm.isStatics = false) (hfc : E.2.1.vm.findClass Xc = some ce.cls) :
    ∀ (tb : List ExceptionTableEntry), kx_sel I.1 Xc g.pc hpc (tb.map (fun x => (x.startPc, x.endPc, x.handlerPc, x.catchType))) → ∀ vm1 : Vm, s.WarmedH vm1 → ∃ vm2, s.WarmedH vm2 ∧ ∀ (Qh : Handler → Pre) (Ee : CtlPost) (dd : Bool) (acts : List Action), wp (findHandler.go g a tb) Qh Ee e dd acts (S0.setVm vm1) ↔ Qh (.found hpc) dd acts (S0.setVm vm2)
  | [], hs, _, _ => hs.elim
  | x :: t, hs, vm1, hW1 => by
    obtain ⟨⟨c1, c2⟩, h0, Cn, hlk, hX1, hX2, hcase⟩ := hs
    have hyn := C.g.2.2.2.2 Xc hX1 Cn hX2
    have hpl : e.platform.magicAccessors = ({} : Platform).magicAccessors := by rw [X.admits.platform]
    have hx : covers x g.pc = true := by
      simp only [covers, Bool.and_eq_true, decide_eq_true_eq]
      exact ⟨c1, c2⟩
    obtain ⟨cT, hcT, hcl⟩ := Cond.classLink_spec C.own (C.w hlk) e.platform hpl
    obtain ⟨dk, _, _, kt, hdk, _, _, _, _, hkt, _, hopen⟩ := hcl.here
    have hcl1 : vm1.ClassLinks e.platform m.cls x.catchType cT := hW1.classLinks hcl
    have hW' : s.WarmedH (vm1.noted m.cls x.catchType (.cls cT)) := hW1.noted hdk hopen (State.rightAt_cls hcl)
    have halE := (State.WarmedH.trans C.wm hW1).alike
    have hob : ∀ z, ce.vm ≠ .statics z := fun z hz => by rw [hz] at hns; cases hns
    obtain ⟨kx1, hkx1⟩ := Vm.classAt_of_findClass (vm := vm1) (by rw [halE.findClass]; exact hfc)
    obtain ⟨kt1, hkt1, -⟩ := hW1.alike.2.2 _ _ hkt
    have hin := kx_goIn (e := e) (S0 := S0.setVm vm1) (f := g) (a := a) (x := x) (t := t) (cT := cT) (cell := ce) hx h0 (by rw [hg]; exact hcl1) hce hob ⟨kx1, hkx1⟩ ⟨kt1, hkt1⟩
    have hcE : E.2.1.vm.findClass Cn = some cT := by rw [← C.wm.alike.findClass]; exact hcT
    rcases hcase with ⟨hcs, hp⟩ | ⟨hcs, hrest⟩
    · obtain ⟨a1, b1, g1, g2, g3⟩ := hyn.1 hcs
      cases hfc.symm.trans g1
      cases hcE.symm.trans g2
      refine ⟨_, hW', fun Qh Ee dd acts => ?_⟩
      rw [hin Qh Ee dd acts, if_pos (by show vm1.assignable _ _ = true; rw [halE.assignable]; exact g3), hg]
      dsimp only at hp
      rw [hp]
      exact Iff.rfl
    · obtain ⟨a1, b1, g1, g2, g3⟩ := hyn.2 hcs
      cases hfc.symm.trans g1
      cases hcE.symm.trans g2
      obtain ⟨vm2, hW2, hgo⟩ := kx_search X C hg hce hns hfc t hrest _ hW'
      refine ⟨vm2, hW2, fun Qh Ee dd acts => ?_⟩
      rw [hin Qh Ee dd acts, if_neg (by show ¬ vm1.assignable _ _ = true; rw [halE.assignable, g3]; decide), hg]
      exact hgo Qh Ee dd acts
theorem kx_caught {tb : Tables} {e : Env} {T target : State} {g : JFrame} {c : Code} {below : List Frame} {a : Addr} (hA : At T g.method c below) {hpc : Nat} {vm2 : Vm}
    (hf : ∀ (Qh : Handler → Pre) (Ee : CtlPost) (dd : Bool) (acts : List Action), wp (findHandler g a) Qh Ee e dd acts ((T.setTop g).pushFrame (.throwing a)) ↔ Qh (.found hpc) dd acts (((T.setTop g).pushFrame (.throwing a)).setVm vm2))
    (hrest : Steps tb e below ((T.setVm vm2).setTop { g with pc := hpc, stack := [.ref a] }) target) : Steps tb e below ((T.setTop g).pushFrame (.throwing a)) target := by
  obtain ⟨hgo, hw⟩ := hA.throwing a
  refine Steps.head hgo hw ?_
  have hst : ∀ r, (stepThrowing e ((T.setTop g).pushFrame (.throwing a)) a (.java g :: r)).1 = (((T.setTop g).pushFrame (.throwing a)).setVm vm2).setFrames (.java { g with pc := hpc, stack := [.ref a] } :: r) := by
    intro r
    simp only [stepThrowing, searchFrame, vmDo]
    generalize hr : Sem.go _ e false [] ((T.setTop g).pushFrame (.throwing a)) = res
    obtain ⟨as, rfl, -⟩ := Sem.eq_ok_of hr (a := Handler.found hpc) (s' := ((T.setTop g).pushFrame (.throwing a)).setVm vm2) (acts' := []) (by simp [hf _ _ _ _])
    rfl
  rw [stepThread_throwing (frames_entered hA.top _), hst]
  obtain ⟨g₀, hg⟩ := Option.isSome_iff_exists.mp hA.top
  obtain ⟨r, hr⟩ := State.topJava?_eq_some.mp hg
  have hr' : (T.setVm vm2).frames = .java g₀ :: r := hr
  rw [State.setTop_of_frames _ hr'] at hrest
  have e1 : ((((T.setTop g).pushFrame (.throwing a)).setVm vm2).setFrames (.java { g with pc := hpc, stack := [.ref a] } :: T.frames.tail)) = (T.setVm vm2).setFrames (.java { g with pc := hpc, stack := [.ref a] } :: r) := by
    rw [hr, List.tail_cons, State.pushFrame, State.setTop_of_frames _ hr]
    have h1 : ∀ (F G : List Frame), (((T.setFrames F).setFrames G).setVm vm2) = ((T.setVm vm2).setFrames F).setFrames G := fun _ _ => rfl
    rw [h1, State.setFrames_setFrames, State.setFrames_setFrames]
  rw [e1]
  exact hrest
theorem kx_X.catch {Xc : String} {hpc : Nat} (hs : kx_sel I.1 Xc pc hpc I.2.2.2.2.1) {i : Nat} {lv' : List (Nat × Value)} {ln : Nat} (hdg : (ln = 1 ∧ ∃ f : Fin 4, (f : Nat) = i ∧ decode I.2.1 hpc = .ok (.astore_n f, 1)) ∨ (ln = 2 ∧ decode I.2.1 hpc = .ok (.astore i, 2))) (hn : i < I.2.2.1) (hl : lv.filter (fun q => !(q.1 == i) && !(q.1 + 1 == i && q.2.category == 2)) = lv')
    (kk : kx_V E I d mc ms Q k j (hpc + ln) lv' [] n h) : kx_X E I d mc ms Q k j pc lv Xc n h := by
  intro p e R s m args below meth c H locs ls cells slots C P L V hk hj st a ce hce hns hfc T hT X
  obtain ⟨vm2, hW2, hgo⟩ := kx_search X C (g := F0 m pc ls st) rfl (S0 := (T.setTop (F0 m pc ls st)).pushFrame (.throwing a)) (a := a) (ce := ce) (Xc := Xc) (hpc := hpc) (by rw [Stand.throwing_heap, hT]; exact hce) hns hfc c.exceptionTable.toList (by rw [C.tb]; exact hs) T.vm X.warmed
  have hself : ((T.setTop (F0 m pc ls st)).pushFrame (.throwing a)).setVm T.vm = (T.setTop (F0 m pc ls st)).pushFrame (.throwing a) := by
    have h1 : ((T.setTop (F0 m pc ls st)).pushFrame (.throwing a)).vm = T.vm := Stand.throwing_vm T _ a
    rw [← h1, State.setVm_self]
  rw [hself] at hgo
  have hfind : ∀ (Qh : Handler → Pre) (Ee : CtlPost) (dd : Bool) (acts : List Action), wp (findHandler (F0 m pc ls st) a) Qh Ee e dd acts ((T.setTop (F0 m pc ls st)).pushFrame (.throwing a)) ↔ Qh (.found hpc) dd acts (((T.setTop (F0 m pc ls st)).pushFrame (.throwing a)).setVm vm2) := by
    intro Qh Ee dd acts
    rw [W.findHandler_eq (meth := meth) (code := c) (by rw [Stand.throwing_vm]; exact X.method') X.code]
    exact hgo Qh Ee dd acts
  have X2 : Stand p E.1 e R s m args below meth c (T.setVm vm2) locs cells slots := X.noted hW2
  have w : W p E.1 e R s m args below meth c H locs cells slots (kx_Z E mc ms Q below s) (F0 m hpc ls [.ref a]) := by
    have key : ∀ ls' : Array Slot, lv_has ls' I.2.2.1 ((i, Value.ref a) :: (kx_l E lv).filter (fun q => !(q.1 == i) && !(q.1 + 1 == i && q.2.category == 2))) → W p E.1 e R s m args below meth c H locs cells slots (kx_Z E mc ms Q below s) (F0 m (hpc + ln) ls' []) := by
      intro ls' V'
      refine kk p e R s m args below meth c H locs ls' cells slots C P L ⟨V'.1, V'.2.1, fun q hq => ?_⟩ hk hj
      refine V'.2.2 q (List.mem_cons_of_mem _ ?_)
      have h9 := kx_l_st1 E lv i (.int 0)
      have h8 : (kx_l E lv).filter (fun q => !(q.1 == i) && !(q.1 + 1 == i && q.2.category == 2)) = kx_l E (lv.filter (fun q => !(q.1 == i) && !(q.1 + 1 == i && q.2.category == 2))) := (List.cons.inj h9).2
      rw [h8, hl]
      exact hq
    rcases hdg with ⟨rfl, f, hf, hdg⟩ | ⟨rfl, hdg⟩
    · exact lv_astore_n C.ex C.bt hdg hf V hn rfl key
    · exact lv_astore C.ex C.bt hdg V hn rfl key
  obtain ⟨t, a1, b1⟩ := w (T.setVm vm2) hT X2
  exact ⟨t, kx_caught (g := F0 m pc ls st) X.here hfind a1, b1⟩
end KXT
section KXM
variable {E : kx_E} {I : kx_I} {d mc ms : Nat} {Q : kx_Q} {k j pc : Nat} {lv : List (Nat × Value)} {st : List Value} {n : Nat} {h : kx_H}
theorem kx_max {index : Nat} {x y : Int32} (hdg : decode I.2.1 pc = .ok (.invokestatic index, 3)) (h1 : Cond.methodLink I.1 index Lib.Math.max.name ∈ kx_tb) (h2 : Cond.static Lib.Math.max.name ∈ kx_tb) (h3 : Cond.initialized "java/lang/Math" ∈ kx_tb) (h4 : Cond.code Lib.Math.max.name Lib.Math.max.code 2 (some .int) ∈ kx_tb) (hd : 1 ≤ d) (hs : (st.map fun v => v.category).sum ≤ 8)
    (kk : kx_V E I d mc ms Q k j (pc + 3) lv (.int (if x < y then y else x) :: st) n h) : kx_V E I d mc ms Q k j pc lv (.int y :: .int x :: st) n h := by
  intro p e R s m args below meth c H locs ls cells slots C P L V hk hj
  have hc : ((List.map (kx_v (kx_B E)) st).map fun v => v.category).sum = _ := kx_s_cat E st
  have hl := C.lc
  have hf := C.fr
  exact va_mmax C.ex C.bt (C.ml.trans V.1.symm) C.own (C.w h1) (C.w h2) (C.w h3) (C.w h4) (by omega) (by omega) (by rw [C.rc]; omega) (by rw [C.rs]; omega) hdg (kk p e R s m args below meth c H locs ls cells slots C P L V hk hj)
theorem kx_min {index : Nat} {x y : Int32} (hdg : decode I.2.1 pc = .ok (.invokestatic index, 3)) (h1 : Cond.methodLink I.1 index Lib.Math.min.name ∈ kx_tb) (h2 : Cond.static Lib.Math.min.name ∈ kx_tb) (h3 : Cond.initialized "java/lang/Math" ∈ kx_tb) (h4 : Cond.code Lib.Math.min.name Lib.Math.min.code 2 (some .int) ∈ kx_tb) (hd : 1 ≤ d) (hs : (st.map fun v => v.category).sum ≤ 8)
    (kk : kx_V E I d mc ms Q k j (pc + 3) lv (.int (if y < x then y else x) :: st) n h) : kx_V E I d mc ms Q k j pc lv (.int y :: .int x :: st) n h := by
  intro p e R s m args below meth c H locs ls cells slots C P L V hk hj
  have hc : ((List.map (kx_v (kx_B E)) st).map fun v => v.category).sum = _ := kx_s_cat E st
  have hl := C.lc
  have hf := C.fr
  exact va_mmin C.ex C.bt (C.ml.trans V.1.symm) C.own (C.w h1) (C.w h2) (C.w h3) (C.w h4) (by omega) (by omega) (by rw [C.rc]; omega) (by rw [C.rs]; omega) hdg (kk p e R s m args below meth c H locs ls cells slots C P L V hk hj)
theorem kx_maxl {index : Nat} {x y : Int64} (hdg : decode I.2.1 pc = .ok (.invokestatic index, 3)) (h1 : Cond.methodLink I.1 index Lib.MathLoose.max_long.x ∈ kx_tb) (h2 : Cond.static Lib.MathLoose.max_long.x ∈ kx_tb) (h3 : Cond.initialized "java/lang/Math" ∈ kx_tb) (h4 : Cond.code Lib.MathLoose.max_long.x Lib.MathLoose.max_long.code 4 (some .long) ∈ kx_tb) (hd : 1 ≤ d) (hs : (st.map fun v => v.category).sum ≤ 8)
    (kk : kx_V E I d mc ms Q k j (pc + 3) lv (.long (if y < x then x else y) :: st) n h) : kx_V E I d mc ms Q k j pc lv (.long y :: .long x :: st) n h := by
  intro p e R s m args below meth c H locs ls cells slots C P L V hk hj
  have hc : ((List.map (kx_v (kx_B E)) st).map fun v => v.category).sum = _ := kx_s_cat E st
  have hl := C.lc
  have hf := C.fr
  exact va_mmax_long C.ex C.bt (C.ml.trans V.1.symm) C.own (C.w h1) (C.w h2) (C.w h3) (C.w h4) (by omega) (by omega) (by rw [C.rc]; omega) (by rw [C.rs]; omega) hdg (kk p e R s m args below meth c H locs ls cells slots C P L V hk hj)
theorem kx_minl {index : Nat} {x y : Int64} (hdg : decode I.2.1 pc = .ok (.invokestatic index, 3)) (h1 : Cond.methodLink I.1 index Lib.MathLoose.min_long.x ∈ kx_tb) (h2 : Cond.static Lib.MathLoose.min_long.x ∈ kx_tb) (h3 : Cond.initialized "java/lang/Math" ∈ kx_tb) (h4 : Cond.code Lib.MathLoose.min_long.x Lib.MathLoose.min_long.code 4 (some .long) ∈ kx_tb) (hd : 1 ≤ d) (hs : (st.map fun v => v.category).sum ≤ 8)
    (kk : kx_V E I d mc ms Q k j (pc + 3) lv (.long (if y < x then y else x) :: st) n h) : kx_V E I d mc ms Q k j pc lv (.long y :: .long x :: st) n h := by
  intro p e R s m args below meth c H locs ls cells slots C P L V hk hj
  have hc : ((List.map (kx_v (kx_B E)) st).map fun v => v.category).sum = _ := kx_s_cat E st
  have hl := C.lc
  have hf := C.fr
  exact va_mmin_long C.ex C.bt (C.ml.trans V.1.symm) C.own (C.w h1) (C.w h2) (C.w h3) (C.w h4) (by omega) (by omega) (by rw [C.rc]; omega) (by rw [C.rs]; omega) hdg (kk p e R s m args below meth c H locs ls cells slots C P L V hk hj)
theorem kx_copy {index N a b : Nat} {f g : Nat → Int64} (hdg : decode I.2.1 pc = .ok (.invokestatic index, 3)) (h1 : Cond.methodLink I.1 index arraycopyName ∈ kx_tb) (h2 : Cond.native arraycopyName ∈ kx_tb) (h3 : Cond.static arraycopyName ∈ kx_tb) (h4 : Cond.initialized "java/lang/System" ∈ kx_tb) (ha : h a = some (kx_cl N f)) (hb : h b = some (kx_cl N g)) (hN : N ≤ 100000) (hd : 3 ≤ d) (hs : (st.map fun v => v.category).sum ≤ 8)
    (kk : kx_V E I d mc ms Q k j (pc + 3) lv st n (kx_set h b (kx_cl N (va_cpy f g 0 0 N)))) : kx_V E I d mc ms Q k j pc lv (.int (nI N) :: .int 0 :: .ref b :: .int 0 :: .ref a :: st) n h := by
  intro p e R s m args below meth c H locs ls cells slots C P L V hk hj T hT X
  have hc : ((List.map (kx_v (kx_B E)) st).map fun v => v.category).sum = _ := kx_s_cat E st
  have hl := C.lc
  have hf := C.fr
  have hcl : (nI N).toNatClampNeg = N := nI_clamp (by omega)
  have htI : (nI N).toInt = (N : Int) := nI_toInt (by omega)
  have z0 : (0 : Int32).toNatClampNeg = 0 := rfl
  have zI : (0 : Int32).toInt = 0 := rfl
  have hw : nativeFrameWords "java/lang/System" "arraycopy" 5 + 11 ≤ 100 := by decide +kernel
  have hc0 : H[kx_B E + a]? = some (arrV (E.2.2.2 1) N (fun j => .long (f j))) := P.2.2.2 a _ ha
  have hc1 : H[kx_B E + b]? = some (arrV (E.2.2.2 1) N (fun j => .long (g j))) := P.2.2.2 b _ hb
  obtain ⟨-, k0, hk0, cm0, hkk0⟩ := (C.k.2 1 _ rfl).1 N (fun j => .long (f j))
  obtain ⟨-, k1, hk1, cm1, hkk1⟩ := (C.k.2 1 _ rfl).1 N (fun j => .long (g j))
  obtain ⟨vm', X', step⟩ := X.arraycopy C.ex C.own (C.w h1) (C.w h2) (C.w h3) (C.w h4) (src := kx_B E + a) (dst := kx_B E + b) (cs := arrV (E.2.2.2 1) N (fun j => .long (f j))) (cd := arrV (E.2.2.2 1) N (fun j => .long (g j))) (srcPos := 0) (destPos := 0) (n := nI N) (by rw [hT]; exact hc0) (by rw [hT]; exact hc1)
    (fun _ q => by cases q) (fun _ q => by cases q) (fun q => by cases q) (fun q => by cases q) hk0 hk1 hkk0 hkk1 (by simp [refKind]) (by decide) (by decide) (nI_pos (by omega))
    (by rw [zI, htI, arrV_size]; omega) (by rw [zI, htI, arrV_size]; omega)
    (fun vm₁ _ i hi => by
      rw [hcl] at hi
      have e : (arrV (E.2.2.2 1) N (fun j => .long (f j))).slots.getD ((0 : Int32).toNatClampNeg + i) .null = .long (f i) := by
        rw [z0, Nat.zero_add, Array.getD_eq_getD_getElem?, arrV_read _ _ hi]
        rfl
      refine ⟨?_, ?_⟩
      · rw [e]
        rfl
      · rw [e]
        exact trivial)
    (g := F0 m pc ls (kx_s E (.int (nI N) :: .int 0 :: .ref b :: .int 0 :: .ref a :: st))) rfl (V.1.trans C.ml.symm) (rest := kx_s E st) rfl (by rw [C.bt]; exact hdg) (by omega) (by show 2 * 0 + ((List.map (kx_v (kx_B E)) st).map fun v => v.category).sum + _ ≤ _; omega)
  have e1 : copied (arrV (E.2.2.2 1) N (fun j => .long (f j))) (arrV (E.2.2.2 1) N (fun j => .long (g j))) 0 0 (nI N) = arrV (E.2.2.2 1) N (fun j => .long (va_cpy f g 0 0 N j)) := by
    have e0 := va_copied (fun z => Value.long z) (E.2.2.2 1) (E.2.2.2 1) (n0 := N) (n1 := N) (sp := 0) (dp := 0) (n := N) f g (by omega)
    unfold copied
    rw [hcl, z0]
    exact e0
  rw [e1] at X' step
  have hlt : kx_B E + b < H.size := (Array.getElem?_eq_some_iff.mp hc1).1
  have hheap : ((T.setVm vm').setCell (kx_B E + b) (arrV (E.2.2.2 1) N (fun j => .long (va_cpy f g 0 0 N j)))).heap = H.setIfInBounds (kx_B E + b) (arrV (E.2.2.2 1) N (fun j => .long (va_cpy f g 0 0 N j))) := by rw [← hT]; rfl
  obtain ⟨t, a1, b1⟩ := kk p e R s m args below meth c (H.setIfInBounds (kx_B E + b) (arrV (E.2.2.2 1) N (fun j => .long (va_cpy f g 0 0 N j)))) _ ls cells slots C (P.set (by simp) (fun q hq => by simp [Array.getElem?_setIfInBounds, Ne.symm hq]) (by show (H.setIfInBounds _ _)[_]? = some _; simp [Array.getElem?_setIfInBounds, hlt])) (fun q hq => by
      rcases List.mem_append.mp hq with g | g
      · exact L q g
      · obtain ⟨z, -, hz⟩ := List.mem_map.mp g
        rw [← hz]
        exact Nat.le_add_right _ _) V hk hj _ hheap X'
  exact ⟨t, step t a1, b1⟩
end KXM
end
section
abbrev c_W_law : ByteArray := code
abbrev i_W_law : kx_I := ("EventKeeperLaw", c_W_law, 8, some .boolean, [], "law")
def kx_S (E : kx_E) (S N : Nat) (xs : Nat → Int32) : Prop := va_X S N xs E.2.1 E.2.1.heap ∧ S < kx_B E
theorem k_law {E : kx_E} {mc ms S N : Nat} {xs : Nat → Int32} {Q : kx_Q} (hS : kx_S E S N xs) (hN3 : N ≤ 3072) (hQ : ∀ n h, Q (Sum.inl (some (.int 1))) n h) : kx_V E i_W_law 12 mc ms Q 2644 22384 0 [(0, .retAddr S)] [] 0 (fun _ => none) := by sorry
end
section
theorem kx_forget {s t : State} {L : List Loc} {k n : Nat} (h : s.sameButNew t L k n) (hL : ∀ q ∈ L, s.heap.size ≤ q.base) : s.sameButNew t [] k n := by
  obtain ⟨h1, h2, h3, h4, h5, h6⟩ := h
  refine ⟨h1, h2, h3, h4, h5, fun a c ha => ?_⟩
  obtain ⟨c', g1, g2, g3, g4⟩ := h6 a c ha
  refine ⟨c', g1, g2, g3, fun i _ => g4 i fun hq => ?_⟩
  have h7 : a < s.heap.size := (Array.getElem?_eq_some_iff.mp ha).1
  have h8 : s.heap.size ≤ a := hL _ hq
  exact absurd h7 (Nat.not_lt.mpr h8)
theorem ks_cls {s : State} {A : Array Value} (hts : ∀ w ∈ lw_tbl, w.before A s = true) : ∃ D : va_G, ∀ (c : Nat) (q : vw_C), kx_cls[c]? = some q → u_Kn s q.1 q.2.1 q.2.2 (D.1 c) (D.2 c) := by
  have htk : ∀ w ∈ kx_tb, w.before A s = true := fun w hw => hts w (List.mem_filter.mp hw).1
  obtain ⟨c0, i0, K0⟩ := u_known (C := "EventKeeper") (T := T_EK) (N := 3) (n := 3) htk kt_EK (htk (.instantiable "EventKeeper" 3) (kx_t 15 (by decide +kernel) rfl))
  obtain ⟨c1, i1, K1⟩ := u_known (C := "EventKeeper$Log") (T := T_L) (N := 11) (n := 11) htk kt_L (htk (.instantiable "EventKeeper$Log" 11) (kx_t 23 (by decide +kernel) rfl))
  obtain ⟨c2, i2, K2⟩ := u_known (C := "EventKeeper$Projection") (T := T_P) (N := 8) (n := 8) htk kt_P (htk (.instantiable "EventKeeper$Projection" 8) (kx_t 83 (by decide +kernel) rfl))
  obtain ⟨c3, i3, K3⟩ := u_known (C := "EventKeeper$Subscription") (T := T_S) (N := 4) (n := 4) htk kt_S (htk (.instantiable "EventKeeper$Subscription" 4) (kx_t 117 (by decide +kernel) rfl))
  obtain ⟨c4, i4, K4⟩ := u_known (C := "EventKeeperModel") (T := T_M) (N := 19) (n := 19) htk kt_M (htk (.instantiable "EventKeeperModel" 19) (kx_t 467 (by decide +kernel) rfl))
  refine ⟨(fun k => match k with | 0 => c0 | 1 => c1 | 2 => c2 | 3 => c3 | _ => c4, fun k => match k with | 0 => i0 | 1 => i1 | 2 => i2 | 3 => i3 | _ => i4), ?_⟩
  intro c q hq
  match c, hq with
  | 0, hq =>
    have e : (("EventKeeper", T_EK, 3) : vw_C) = q := Option.some.inj hq
    subst e
    exact K0
  | 1, hq =>
    have e : (("EventKeeper$Log", T_L, 11) : vw_C) = q := Option.some.inj hq
    subst e
    exact K1
  | 2, hq =>
    have e : (("EventKeeper$Projection", T_P, 8) : vw_C) = q := Option.some.inj hq
    subst e
    exact K2
  | 3, hq =>
    have e : (("EventKeeper$Subscription", T_S, 4) : vw_C) = q := Option.some.inj hq
    subst e
    exact K3
  | 4, hq =>
    have e : (("EventKeeperModel", T_M, 19) : vw_C) = q := Option.some.inj hq
    subst e
    exact K4
  | k + 5, hq =>
    have h1 : k + 5 < 5 := (List.getElem?_eq_some_iff.mp hq).1
    exact absurd h1 (by omega)
theorem ks_arr {s : State} {A : Array Value} (hts : ∀ w ∈ lw_tbl, w.before A s = true) : ∃ aC : Nat → Nat, ∀ (k : Nat) (q : ClassId × FieldType), (kx_tys aC)[k]? = some q → ArrOfT s q.1 q.2 ∧ va_RA s q.1 q.2 := by
  obtain ⟨a0, k0, m0, f0, h0, g0⟩ := Cond.arrayClass_spec (hts (.arrayClass .int) (List.mem_append_right _ (List.mem_of_getElem? (i := 79) (by decide +kernel))))
  obtain ⟨a1, k1, m1, f1, h1, g1⟩ := Cond.arrayClass_spec (hts (.arrayClass .long) (List.mem_append_right _ (List.mem_of_getElem? (i := 80) (by decide +kernel))))
  obtain ⟨m2, a2, k2, n2, -, h2, g2, f2⟩ := Cond.arrayOver_spec (hts (.arrayOver (.object "EventKeeper$Projection")) (List.mem_append_right _ (List.mem_of_getElem? (i := 82) (by decide +kernel))))
  obtain ⟨m3, a3, k3, n3, -, h3, g3, f3⟩ := Cond.arrayOver_spec (hts (.arrayOver (.object "EventKeeper$Subscription")) (List.mem_append_right _ (List.mem_of_getElem? (i := 116) (by decide +kernel))))
  have b0 : ArrOfT s a0 .int := fun n z => ⟨fun k h => (by cases h), k0, h0, m0, g0⟩
  have b1 : ArrOfT s a1 .long := fun n z => ⟨fun k h => (by cases h), k1, h1, m1, g1⟩
  have b2 : ArrOfT s a2 (.object kx_q0) := fun n z => ⟨fun k h => (by cases h), k2, h2, m2, g2⟩
  have b3 : ArrOfT s a3 (.object kx_q1) := fun n z => ⟨fun k h => (by cases h), k3, h3, m3, g3⟩
  have r2 : va_RA s a2 (.object kx_q0) := ⟨k2, m2, h2, g2, n2, f2⟩
  have r3 : va_RA s a3 (.object kx_q1) := ⟨k3, m3, h3, g3, n3, f3⟩
  refine ⟨fun k => match k with | 0 => a0 | 1 => a1 | 2 => a2 | _ => a3, ?_⟩
  intro k q hq
  match k, hq with
  | 0, hq =>
    have e : ((a0, .int) : ClassId × FieldType) = q := Option.some.inj hq
    subst e
    exact ⟨b0, f0⟩
  | 1, hq =>
    have e : ((a1, .long) : ClassId × FieldType) = q := Option.some.inj hq
    subst e
    exact ⟨b1, f1⟩
  | 2, hq =>
    have e : ((a2, .object kx_q0) : ClassId × FieldType) = q := Option.some.inj hq
    subst e
    exact ⟨b2, r2⟩
  | 3, hq =>
    have e : ((a3, .object kx_q1) : ClassId × FieldType) = q := Option.some.inj hq
    subst e
    exact ⟨b3, r3⟩
  | k + 4, hq =>
    have h9 : k + 4 < 4 := (List.getElem?_eq_some_iff.mp hq).1
    exact absurd h9 (by omega)
theorem ks_no {s : State} {A : Array Value} {X Y : String} (h : (Cond.not (.castable X Y)).before A s = true) : ∃ a b : ClassId, s.vm.findClass X = some a ∧ s.vm.findClass Y = some b ∧ s.vm.assignable a b = false := by
  simp only [Cond.before, Cond.holds, Cond.value] at h
  cases hc : s.vm.findClass X with
  | none => simp [hc] at h
  | some a =>
    cases hd : s.vm.findClass Y with
    | none => simp [hc, hd] at h
    | some b => exact ⟨a, b, rfl, rfl, by simpa [hc, hd] using h⟩
theorem ks_yes {s : State} {A : Array Value} {X : String} (h : (Cond.instantiable X 6).before A s = true) : ∃ a : ClassId, s.vm.findClass X = some a ∧ s.vm.assignable a a = true := by
  obtain ⟨cC, kC, hfc, hk, hkind, -⟩ := Cond.instantiable_spec h
  exact ⟨cC, hfc, va_assign (C := X) ⟨hfc, kC, hk, hkind⟩⟩
theorem ks_hi : ∀ X ∈ kx_exc, Cond.instantiable X 6 ∈ lw_tbl := by decide +kernel
theorem ks_hn : ∀ X ∈ kx_exc, ∀ Y ∈ kx_exc, X ≠ Y → Cond.not (.castable X Y) ∈ flatC (Jvm.Cond.and given_1 narrow_1) := by decide +kernel
theorem ks_hs : ∀ q ∈ kx_strs, Cond.stringRef q.1 q.2.1 q.2.2 ∈ lw_tbl ∧ q.1 = "EventKeeper" := by decide +kernel
theorem ks_hw : ∀ w ∈ kx_hw, w ∈ lw_tbl := by decide +kernel
theorem ks_hr : ∀ w ∈ kx_hr, w ∈ flatC (Jvm.Cond.and given_1 narrow_1) := by decide +kernel
theorem ks_T {s : State} {A : Array Value} {cE : ClassId} (hts : ∀ w ∈ lw_tbl, w.before A s = true) (hs : ∀ w ∈ flatC (Jvm.Cond.and given_1 narrow_1), w.before A s = true) (hE : s.vm.findClass "EventKeeper" = some cE) : kx_T s := by
  have hR := State.WarmedH.refl s
  refine ⟨fun w hw a => ?_, fun w hw a => ?_, fun q hq => ?_⟩
  · have h0 := hts w (ks_hw w hw)
    simp only [kx_hw, List.mem_cons, List.not_mem_nil, or_false] at hw
    rcases hw with rfl | rfl
    · exact kx_lays hR (fun _ _ => rfl) h0
    · exact kx_lays hR (fun _ _ => rfl) h0
  · have h0 := hs w (ks_hr w hw)
    simp only [kx_hr, List.mem_cons, List.not_mem_nil, or_false] at hw
    rcases hw with rfl | rfl
    · exact kx_isref hR (fun _ _ => rfl) (hts _ (ks_hw _ (by simp [kx_hw]))) h0
    · exact kx_isref hR (fun _ _ => rfl) (hts _ (ks_hw _ (by simp [kx_hw]))) h0
  · have h1 := hts _ (ks_hs q hq).1
    obtain ⟨-, -, -, a, -, -, -, -, -, hev⟩ := Cond.stringRef_spec (cur := cE) (by rw [(ks_hs q hq).2]; exact hE) h1
    exact ⟨a, vk_R.of h1 hev⟩
theorem kx_start {l : Launch} {s : State} {A : Array Value} (hl : l.stackTraces = false) (hts : ∀ w ∈ lw_tbl, w.before A s = true) (hgv : (Jvm.Cond.and given_1 narrow_1).before A s = true) : ∃ (D : va_G) (aC : Nat → Nat), kx_G (l, s, D, aC) := by
  have hs := flat_of_before _ hgv
  obtain ⟨D, hD⟩ := ks_cls hts
  obtain ⟨aC, hA⟩ := ks_arr hts
  refine ⟨D, aC, hl, ⟨A, hts⟩, ⟨hD, hA⟩, ks_T hts hs (hD 0 ("EventKeeper", T_EK, 3) rfl).2.1, ?_⟩
  intro X hX Y hY
  refine ⟨fun e => ?_, fun ne => ?_⟩
  · subst e
    obtain ⟨a, h1, h2⟩ := ks_yes (hts _ (ks_hi X hX))
    exact ⟨a, a, h1, h1, h2⟩
  · exact ks_no (hs _ (ks_hn X hX Y hY ne))
def R_law : String := "EventKeeperLaw"
def lw_P (b : Addr) (xs : List Int32) (args : Array Value) (s : State) : Prop := args = #[.ref b] ∧ s.IntsAt b xs ∧ xs.length ≤ 3072 ∧ (Jvm.Cond.and given_1 narrow_1).before args s = true
def lw_Q (_ : Array Value) (s : State) (o : Outcome) (t : State) : Prop := o = .returned (some (.int 1)) ∧ Framed s o t [] 601024 7293034
def lw_Z (below : List Frame) (a : Array Value) (s : State) : State → Prop := fun t => ∃ o, t.status = .running ∧ Ended t below o ∧ lw_Q a s o t
def lw_At (p : Program) (s : State) (m : MethodId) (meth : Method) (c : Code) (b L : Nat) (xs : Nat → Int32) : Prop :=
  (p.tables.exec = Jvm.exec ∧ c.code = code ∧ meth.sig.returnType = ret ∧ c.maxLocals = 8 ∧ s.vm.findClass R_law = some m.cls) ∧ ((∀ w ∈ lw_tbl, w.before #[Value.ref b] s = true) ∧ va_X b L xs s s.heap ∧ b < s.heap.size) ∧ meth.locks = false ∧ (Jvm.Cond.and given_1 narrow_1).before #[Value.ref b] s = true ∧ c.exceptionTable.isEmpty = true ∧ meth.name = "law"
theorem whole_start {p : Program} {e : Env} {s : State} {m : MethodId} {below : List Frame} {meth : Method} {c : Code} (l : Launch) (hst : l.stackTraces = false) {b L : Nat} {xs : Nat → Int32} (hL : L ≤ 3072) (C0 : lw_At p s m meth c b L xs) : W p l e room_1 s m #[Value.ref b] below meth c s.heap [] 0 0 (lw_Z below #[Value.ref b] s) (entryFrame m ([Value.ref b] : List Value).toArray 8) := by
  obtain ⟨⟨hx, hb, hr, hml, hown⟩, ⟨hts, hX, hbl⟩, hlocks, hgv, hnh, hnm⟩ := C0
  obtain ⟨D, aC, G⟩ := kx_start hst hts hgv
  have htb : c.exceptionTable.toList.map (fun x => (x.startPc, x.endPc, x.handlerPc, x.catchType)) = [] := by rw [Array.isEmpty_iff.mp hnh]; rfl
  have hl := lv_entry ([.ref b]) (n := 8) (Nat.le_of_ble_eq_true rfl)
  rw [lg_entry_eq]
  generalize (lg_sl ([.ref b]) ++ List.replicate (8 - (lg_sl ([.ref b])).length) Slot.unset).toArray = ls at hl ⊢
  have hl : lv_has ls 8 (kx_l (l, s, D, aC) [(0, .retAddr b)]) := hl
  have C : kx_C (l, s, D, aC) i_W_law 12 601024 7293034 p e room_1 s m #[Value.ref b] meth c :=
    ⟨⟨G, hx, hb, hml⟩, ⟨hr, hlocks, hown, State.WarmedH.refl s⟩, ⟨fun _ _ => rfl, htb, hnm⟩, Nat.le_of_ble_eq_true rfl, Nat.le_of_ble_eq_true rfl, rfl, rfl⟩
  have P : kx_P (l, s, D, aC) 0 (fun _ => none) s.heap :=
    ⟨rfl, fun _ _ => rfl, fun q cell hq hc => absurd (Array.getElem?_eq_some_iff.mp hc).1 (Nat.not_lt.mpr hq), fun i c hc => by
      have hc : (none : Option kx_c) = some c := hc
      cases hc⟩
  have V : kx_V (l, s, D, aC) i_W_law 12 601024 7293034 (fun r _ _ => r = Sum.inl (some (.int 1))) 2644 22384 0 [(0, .retAddr b)] [] 0 (fun _ => none) :=
    k_law (E := (l, s, D, aC)) (N := L) (xs := xs) ⟨hX, hbl⟩ hL (fun _ _ => rfl)
  refine kx_W_mono ?_ (V p e room_1 s m #[Value.ref b] below meth c s.heap [] ls 0 0 C P (fun q hq => by cases hq) hl (by decide) (by decide))
  rintro t ⟨o, h1, h2, h3, ⟨L', h4, h5⟩, r, n, h, -, h6, h7⟩
  have h7 : r = Sum.inl (some (.int 1)) := h7
  subst h7
  have h6 : o = .returned (some (.int 1)) := h6
  exact ⟨o, h1, h2, h6, ⟨_, h6⟩, h3, kx_forget h4 h5⟩
set_option maxHeartbeats 4000000 in
theorem lw_walk (l : Launch) (hst : l.stackTraces = false) (b : Addr) (xs : List Int32) : MetFree l x (headSpec (Jvm.Cond.code x code maxLocals ret :: tables_1) room_1) (lw_P b xs) (fun _ _ _ _ _ => True) lw_Q := by
  refine MetFree.of_bodyS (code := code) (maxLocals := maxLocals) (ret := ret) (by decide) ?_ ?_
  · intro args s m h hn
    obtain ⟨meth, c, h1, h2, h3, h4, h5, h6, -, -⟩ := Cond.code_spec hn (atoms_spec (ws := Jvm.Cond.code x code maxLocals ret :: tables_1) h _ List.mem_cons_self)
    exact ⟨meth, c, h1, h2, h3, h4, h5, h6⟩
  · intro p e s m args below meth c s₁ B hml0 hP _
    obtain ⟨rfl, hx, hbd, hgv⟩ := hP
    obtain ⟨scr, harrAt, hlist, hof, hsmall⟩ := hx
    obtain ⟨hcb, hkn, -, -⟩ := State.arrayAt?_spec harrAt
    have hown : s.vm.findClass R_law = some m.cls := findClass_of_methodNamed B.named
    have hts0 : ∀ c ∈ (Jvm.Cond.code x code maxLocals ret :: tables_1), c.before #[Value.ref b] s = true := atoms_spec (ws := Jvm.Cond.code x code maxLocals ret :: tables_1) B.pre
    have hts : ∀ w ∈ lw_tbl, w.before #[Value.ref b] s = true := k2_hts_sels lw_privs (fun w hw => hts0 w (List.mem_cons_of_mem _ hw)) lw_privs_ok
    have hml : c.maxLocals = 8 := B.maxLocals_eq (hts0 _ List.mem_cons_self)
    have hnh : c.exceptionTable.isEmpty = true := B.noHandlers (hts0 _ List.mem_cons_self)
    have hnm : meth.name = "law" := (name_of_methodNamed B.named B.method).1
    have X₀ : Stand p l e room_1 s m #[Value.ref b] below meth c s₁ [] 0 0 := Stand.of_body B
    have hh0 : s₁.heap = s.heap := by rw [B.state]; rfl
    have hsz : scr.slots.size = xs.length := by rw [← Array.length_toList, hlist, List.length_map]
    have hval : ∀ j : Nat, j < xs.length → scr.slots[j]? = some (.int (xs.getD j 0)) := fun j hj => by
      rw [← Array.getElem?_toList, hlist]
      simp [hj]
    have hbl : b < s.heap.size := (Array.getElem?_eq_some_iff.mp hcb).1
    have hX : va_X b xs.length (fun j => xs.getD j 0) s s.heap := ⟨scr, hcb, hof, hkn, hsz, hval⟩
    have K : W p l e room_1 s m #[Value.ref b] below meth c s₁.heap [] 0 0 (lw_Z below #[Value.ref b] s) (entryFrame m ([Value.ref b] : List Value).toArray 8) := by
      rw [hh0]
      exact whole_start l hst hbd ⟨⟨B.exec, B.bytes, B.returns, hml, hown⟩, ⟨hts, hX, hbl⟩, B.notSynchronized, hgv, hnh, hnm⟩
    obtain ⟨t, a1, o, b1, b2, b3⟩ := K s₁ rfl X₀
    exact ⟨t, o, a1, b1, b2, b3⟩
theorem lw_pre_spec {args : Array Value} {s : State} (h : (Jvm.Cond.and given_1 narrow_1).before args s = true) (hr : rest_1_c.before args s = true) : ∃ (b : Addr) (xs : List Int32), lw_P b xs args s := by
  have hs := flat_of_before _ h
  have hq := flat_of_before _ hr
  have hc : (Cond.count 1).before args s = true := hs _ (by decide +kernel)
  have harr : (Cond.arrayOf (.arg 0) .int).before args s = true := hs _ (by decide +kernel)
  have hle : (Cond.le (.length (.arg 0)) (.int 3072)).before args s = true := hs _ (by decide +kernel)
  have hlen : (Cond.isInt (.length (.arg 0))).before args s = true := hq _ (by decide +kernel)
  have hall : (Cond.all (.arg 0) (.isInt (.elem (.arg 0) (.index 0)))).before args s = true := hq _ (by decide +kernel)
  obtain ⟨b, xs, hb, hx⟩ := State.ints_of_pre rfl harr hlen hall
  have hsm : xs.length < 2 ^ 31 := hx.choose_spec.2.2.2
  have hev : (Term.length (.arg 0)).eval args s none [] s = some (.int xs.length.toInt32) := hx.length_eval hb
  have hv := Cond.le_ints hev (show (Term.int 3072).eval args s none [] s = some (.int 3072) from rfl)
  have hd : xs.length.toInt32 ≤ 3072 := by
    simpa [Cond.before, Cond.holds, hv] using hle
  have hN : xs.length ≤ 3072 := (Int32.ofNat_le_ofNat hsm (by decide)).mp (show Int32.ofNat xs.length ≤ Int32.ofNat 3072 from hd)
  exact ⟨b, xs, Cond.one_arg hc (show args[0]? = some (.ref b) from hb), hx, hN, h⟩
theorem lw_comes (l : Launch) (hst : l.stackTraces = false) : Comes l x (Jvm.Cond.code x code maxLocals ret :: tables_1) room_1 (fun tb e args s => Calls_1 tb e args s ∧ rest_1 tb e args s ∧ Pre_1 tb e args s)
    (fun _ _ args s o t => lw_Q args s o t) := by
  intro p e ha hc hk s m args below hf hfit hheap happ hpre
  obtain ⟨b, xs, hP⟩ := lw_pre_spec hpre.2.2 hpre.2.1
  obtain ⟨k, o, h1, h2, h3, hQ⟩ := lw_walk l hst b xs p e ha hc hk s m args below hf ((Spec.applies_iff_loose hf).mp happ).1 hP trivial
  exact ⟨k, o, h1, h2, h3, hQ⟩
theorem lw_frame {s t : State} {o : Outcome} {args : Array Value} (h : Framed s o t [] 601024 7293034) :
    Framed s o t (fieldLocs frame_1_writes args s ++ arrayLocs frame_1_arrays args s ++ staticLocs frame_1_statics s) 601024 7293034 := h
theorem lw_limb (L : Cond) (hL : ∀ (args : Array Value) (s t : State), L.after args s (.returned (some (.int 1))) t = true) :
    ArmFor flags0 classFile x code maxLocals ret World_1 tables_1 room_1 Calls_1 rest_1 Pre_1
      (fun tb e a s o t => postC L tb e a s o t ∧ Framed s o t (fieldLocs frame_1_writes a s ++ arrayLocs frame_1_arrays a s ++ staticLocs frame_1_statics s) 601024 7293034) := by
  intro l hfl _ _ p e ha hc hk s m args below hf hfit hheap happ hpre
  have hst : l.stackTraces = false := by
    unfold Launch.stackTraces
    rw [hfl]
    decide +kernel
  obtain ⟨k, o, h1, h2, h3, rfl, hF⟩ := lw_comes l hst p e ha hc hk s m args below hf hfit hheap happ hpre
  exact ⟨k, _, h1, h2, h3, hL args s _, lw_frame hF⟩
theorem i_vc : Claimed_1_1 ∧ Claimed_1_2 := ⟨lw_limb limb_1_1 (fun args s t => by simp [limb_1_1, Cond.after, Cond.holds, Cond.value]), lw_limb limb_1_2 (fun args s t => Cond.after_iff.mpr (by
  first | (rw [show limb_1_2 = Cond.eq .result (.int 1) from rfl, Cond.eq_ints (x := 1) (y := 1) rfl rfl]; simp; done) | (simp [limb_1_2, Cond.value, Term.eval]; done)))⟩
end
