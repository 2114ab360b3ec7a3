section
-- ===== PART A: goes FIRST, ahead of the names: the tables' words, and 'selects' of the private methods out of them =====
/-- a private method of a class that the tables say can be made, by its rows of tables_1 -/
def lw_okq (q : MethodName × Nat) : Prop := (q.1.cls ≠ "java/lang/invoke/MethodHandle" ∧ q.1.cls ≠ "java/lang/invoke/VarHandle") ∧ Cond.instantiable q.1.cls q.2 ∈ tables_1 ∧ Cond.privateMethod q.1 ∈ tables_1 ∧ Cond.instanceMethod q.1 ∈ tables_1
theorem lw_p0 : lw_okq (⟨"EventKeeper$Log", "forgetCause", "(I)V"⟩, 11) := ⟨⟨by decide +kernel, by decide +kernel⟩, List.mem_of_getElem? (i := 23) (by decide +kernel), List.mem_of_getElem? (i := 163) (by decide +kernel), List.mem_of_getElem? (i := 164) (by decide +kernel)⟩
theorem lw_p1 : lw_okq (⟨"EventKeeper$Projection", "startOver", "()V"⟩, 8) := ⟨⟨by decide +kernel, by decide +kernel⟩, List.mem_of_getElem? (i := 83) (by decide +kernel), List.mem_of_getElem? (i := 171) (by decide +kernel), List.mem_of_getElem? (i := 172) (by decide +kernel)⟩
theorem lw_p2 : lw_okq (⟨"java/lang/Throwable", "fillInStackTrace", "(I)Ljava/lang/Throwable;"⟩, 6) := ⟨⟨by decide +kernel, by decide +kernel⟩, List.mem_of_getElem? (i := 239) (by decide +kernel), List.mem_of_getElem? (i := 237) (by decide +kernel), List.mem_of_getElem? (i := 238) (by decide +kernel)⟩
theorem lw_p3 : lw_okq (⟨"EventKeeper$Projection", "targetCell", "(LEventKeeper$Log;)I"⟩, 8) := ⟨⟨by decide +kernel, by decide +kernel⟩, List.mem_of_getElem? (i := 83) (by decide +kernel), List.mem_of_getElem? (i := 337) (by decide +kernel), List.mem_of_getElem? (i := 338) (by decide +kernel)⟩
theorem lw_p4 : lw_okq (⟨"EventKeeper$Projection", "countAndEmit", "(LEventKeeper$Log;I)Z"⟩, 8) := ⟨⟨by decide +kernel, by decide +kernel⟩, List.mem_of_getElem? (i := 83) (by decide +kernel), List.mem_of_getElem? (i := 342) (by decide +kernel), List.mem_of_getElem? (i := 343) (by decide +kernel)⟩
theorem lw_p5 : lw_okq (⟨"EventKeeper$Subscription", "letsThrough", "(II)Z"⟩, 4) := ⟨⟨by decide +kernel, by decide +kernel⟩, List.mem_of_getElem? (i := 117) (by decide +kernel), List.mem_of_getElem? (i := 410) (by decide +kernel), List.mem_of_getElem? (i := 411) (by decide +kernel)⟩
theorem lw_p6 : lw_okq (⟨"EventKeeper", "checkPlace", "(I)V"⟩, 3) := ⟨⟨by decide +kernel, by decide +kernel⟩, List.mem_of_getElem? (i := 15) (by decide +kernel), List.mem_of_getElem? (i := 421) (by decide +kernel), List.mem_of_getElem? (i := 422) (by decide +kernel)⟩
theorem lw_p7 : lw_okq (⟨"EventKeeperModel", "fails", "(ZI)Z"⟩, 19) := ⟨⟨by decide +kernel, by decide +kernel⟩, List.mem_of_getElem? (i := 467) (by decide +kernel), List.mem_of_getElem? (i := 542) (by decide +kernel), List.mem_of_getElem? (i := 543) (by decide +kernel)⟩
theorem lw_p8 : lw_okq (⟨"EventKeeperModel", "inStream", "(II)I"⟩, 19) := ⟨⟨by decide +kernel, by decide +kernel⟩, List.mem_of_getElem? (i := 467) (by decide +kernel), List.mem_of_getElem? (i := 546) (by decide +kernel), List.mem_of_getElem? (i := 547) (by decide +kernel)⟩
theorem lw_p9 : lw_okq (⟨"EventKeeperModel", "put", "(IIJII)I"⟩, 19) := ⟨⟨by decide +kernel, by decide +kernel⟩, List.mem_of_getElem? (i := 467) (by decide +kernel), List.mem_of_getElem? (i := 550) (by decide +kernel), List.mem_of_getElem? (i := 551) (by decide +kernel)⟩
theorem lw_p10 : lw_okq (⟨"EventKeeperModel", "begin", "(I)V"⟩, 19) := ⟨⟨by decide +kernel, by decide +kernel⟩, List.mem_of_getElem? (i := 467) (by decide +kernel), List.mem_of_getElem? (i := 561) (by decide +kernel), List.mem_of_getElem? (i := 562) (by decide +kernel)⟩
theorem lw_p11 : lw_okq (⟨"EventKeeperModel", "takes", "(II)Z"⟩, 19) := ⟨⟨by decide +kernel, by decide +kernel⟩, List.mem_of_getElem? (i := 467) (by decide +kernel), List.mem_of_getElem? (i := 569) (by decide +kernel), List.mem_of_getElem? (i := 570) (by decide +kernel)⟩
theorem lw_p12 : lw_okq (⟨"EventKeeperModel", "isNone", "(I)Z"⟩, 19) := ⟨⟨by decide +kernel, by decide +kernel⟩, List.mem_of_getElem? (i := 467) (by decide +kernel), List.mem_of_getElem? (i := 609) (by decide +kernel), List.mem_of_getElem? (i := 610) (by decide +kernel)⟩
def lw_privs_1 : List (MethodName × Nat) := [(⟨"EventKeeper$Log", "forgetCause", "(I)V"⟩, 11), (⟨"EventKeeper$Projection", "startOver", "()V"⟩, 8), (⟨"java/lang/Throwable", "fillInStackTrace", "(I)Ljava/lang/Throwable;"⟩, 6), (⟨"EventKeeper$Projection", "targetCell", "(LEventKeeper$Log;)I"⟩, 8), (⟨"EventKeeper$Projection", "countAndEmit", "(LEventKeeper$Log;I)Z"⟩, 8), (⟨"EventKeeper$Subscription", "letsThrough", "(II)Z"⟩, 4), (⟨"EventKeeper", "checkPlace", "(I)V"⟩, 3), (⟨"EventKeeperModel", "fails", "(ZI)Z"⟩, 19), (⟨"EventKeeperModel", "inStream", "(II)I"⟩, 19), (⟨"EventKeeperModel", "put", "(IIJII)I"⟩, 19), (⟨"EventKeeperModel", "begin", "(I)V"⟩, 19), (⟨"EventKeeperModel", "takes", "(II)Z"⟩, 19), (⟨"EventKeeperModel", "isNone", "(I)Z"⟩, 19)]
theorem lw_r1 : ∀ q ∈ lw_privs_1, lw_okq q := List.forall_mem_cons.mpr ⟨lw_p0, List.forall_mem_cons.mpr ⟨lw_p1, List.forall_mem_cons.mpr ⟨lw_p2, List.forall_mem_cons.mpr ⟨lw_p3, List.forall_mem_cons.mpr ⟨lw_p4, List.forall_mem_cons.mpr ⟨lw_p5, List.forall_mem_cons.mpr ⟨lw_p6, List.forall_mem_cons.mpr ⟨lw_p7, List.forall_mem_cons.mpr ⟨lw_p8, List.forall_mem_cons.mpr ⟨lw_p9, List.forall_mem_cons.mpr ⟨lw_p10, List.forall_mem_cons.mpr ⟨lw_p11, List.forall_mem_cons.mpr ⟨lw_p12, fun _ h => absurd h List.not_mem_nil⟩⟩⟩⟩⟩⟩⟩⟩⟩⟩⟩⟩⟩
def lw_privs : List (MethodName × Nat) := lw_privs_1
def lw_tbl : List Cond := k2_sels lw_privs ++ tables_1
theorem lw_privs_ok : ∀ q ∈ lw_privs, lw_okq q := lw_r1

/-! words, by their places in the tables -/
def kx_tb : List Cond := lw_tbl.filter goodWord
theorem kx_tb_good : kx_tb.all goodWord = true := List.all_eq_true.mpr (fun _ hw => (List.mem_filter.mp hw).2)
theorem kx_t {w : Cond} (i : Nat) (h : tables_1[i]? = some w) (g : goodWord w = true) : w ∈ kx_tb := List.mem_filter.mpr ⟨List.mem_append_right _ (List.mem_of_getElem? h), g⟩
theorem kx_ts {w : Cond} (i : Nat) (h : (k2_sels lw_privs)[i]? = some w) (g : goodWord w = true) : w ∈ kx_tb := List.mem_filter.mpr ⟨List.mem_append_left _ (List.mem_of_getElem? h), g⟩
def T_EK : u_T := fun k => match k with
  | 0 => ("EventKeeper", "log", "LEventKeeper$Log;", true)
  | 1 => ("EventKeeper", "projections", "[LEventKeeper$Projection;", true)
  | _ => ("EventKeeper", "subscriptions", "[LEventKeeper$Subscription;", true)
def ty_EK : Nat → FieldType := fun k => match k with
  | 0 => .object "EventKeeper$Log"
  | 1 => .array (.object "EventKeeper$Projection")
  | _ => .array (.object "EventKeeper$Subscription")
def T_L : u_T := fun k => match k with
  | 0 => ("EventKeeper$Log", "streams", "[I", true)
  | 1 => ("EventKeeper$Log", "versions", "[I", true)
  | 2 => ("EventKeeper$Log", "kinds", "[I", true)
  | 3 => ("EventKeeper$Log", "values", "[J", true)
  | 4 => ("EventKeeper$Log", "causeProjections", "[I", true)
  | 5 => ("EventKeeper$Log", "causePlaces", "[I", true)
  | 6 => ("EventKeeper$Log", "emitters", "[I", true)
  | 7 => ("EventKeeper$Log", "streamSizes", "[I", true)
  | 8 => ("EventKeeper$Log", "emittedSizes", "[I", true)
  | 9 => ("EventKeeper$Log", "size", "I", false)
  | _ => ("EventKeeper$Log", "durableSize", "I", false)
def ty_L : Nat → FieldType := fun k => match k with
  | 0 => .array .int
  | 1 => .array .int
  | 2 => .array .int
  | 3 => .array .long
  | 4 => .array .int
  | 5 => .array .int
  | 6 => .array .int
  | 7 => .array .int
  | 8 => .array .int
  | 9 => .int
  | _ => .int
def T_P : u_T := fun k => match k with
  | 0 => ("EventKeeper$Projection", "number", "I", true)
  | 1 => ("EventKeeper$Projection", "actions", "[I", true)
  | 2 => ("EventKeeper$Projection", "targets", "[I", true)
  | 3 => ("EventKeeper$Projection", "cells", "[J", true)
  | 4 => ("EventKeeper$Projection", "position", "I", false)
  | 5 => ("EventKeeper$Projection", "savedCells", "[J", true)
  | 6 => ("EventKeeper$Projection", "savedPosition", "I", false)
  | _ => ("EventKeeper$Projection", "savedLogSize", "I", false)
def ty_P : Nat → FieldType := fun k => match k with
  | 0 => .int
  | 1 => .array .int
  | 2 => .array .int
  | 3 => .array .long
  | 4 => .int
  | 5 => .array .long
  | 6 => .int
  | _ => .int
def T_S : u_T := fun k => match k with
  | 0 => ("EventKeeper$Subscription", "onlyStream", "I", false)
  | 1 => ("EventKeeper$Subscription", "kindBits", "I", false)
  | 2 => ("EventKeeper$Subscription", "position", "I", false)
  | _ => ("EventKeeper$Subscription", "safePosition", "I", false)
def ty_S : Nat → FieldType := fun k => match k with
  | 0 => .int
  | 1 => .int
  | 2 => .int
  | _ => .int
def T_M : u_T := fun k => match k with
  | 0 => ("EventKeeperModel", "err", "I", false)
  | 1 => ("EventKeeperModel", "events", "I", false)
  | 2 => ("EventKeeperModel", "durable", "I", false)
  | 3 => ("EventKeeperModel", "stream", "[I", true)
  | 4 => ("EventKeeperModel", "kind", "[I", true)
  | 5 => ("EventKeeperModel", "causeOf", "[I", true)
  | 6 => ("EventKeeperModel", "causeAt", "[I", true)
  | 7 => ("EventKeeperModel", "value", "[J", true)
  | 8 => ("EventKeeperModel", "cell", "[J", true)
  | 9 => ("EventKeeperModel", "saved", "[J", true)
  | 10 => ("EventKeeperModel", "does", "[I", true)
  | 11 => ("EventKeeperModel", "where", "[I", true)
  | 12 => ("EventKeeperModel", "position", "[I", true)
  | 13 => ("EventKeeperModel", "savedAt", "[I", true)
  | 14 => ("EventKeeperModel", "savedOf", "[I", true)
  | 15 => ("EventKeeperModel", "from", "[I", true)
  | 16 => ("EventKeeperModel", "kinds", "[I", true)
  | 17 => ("EventKeeperModel", "place", "[I", true)
  | _ => ("EventKeeperModel", "safe", "[I", true)
def ty_M : Nat → FieldType := fun k => match k with
  | 0 => .int
  | 1 => .int
  | 2 => .int
  | 3 => .array .int
  | 4 => .array .int
  | 5 => .array .int
  | 6 => .array .int
  | 7 => .array .long
  | 8 => .array .long
  | 9 => .array .long
  | 10 => .array .int
  | 11 => .array .int
  | 12 => .array .int
  | 13 => .array .int
  | 14 => .array .int
  | 15 => .array .int
  | 16 => .array .int
  | 17 => .array .int
  | _ => .array .int
abbrev kx_cls : List vw_C := [("EventKeeper", T_EK, 3), ("EventKeeper$Log", T_L, 11), ("EventKeeper$Projection", T_P, 8), ("EventKeeper$Subscription", T_S, 4), ("EventKeeperModel", T_M, 19)]
abbrev kc_EK : Nat := 0
abbrev kc_L : Nat := 1
abbrev kc_P : Nat := 2
abbrev kc_S : Nat := 3
abbrev kc_M : Nat := 4
def kx_q0 : String := "EventKeeper$Projection"
def kx_q1 : String := "EventKeeper$Subscription"
def kx_strs : List (String × Nat × String) := [("EventKeeper", 157, "an argument is out of its range"), ("EventKeeper", 48, "the stream has another number of events"), ("EventKeeper", 59, "the log is full"), ("EventKeeper", 85, "there is no such cell"), ("EventKeeper", 159, "there is no event at this place"), ("EventKeeper", 143, "the stream has no such version"), ("EventKeeper", 154, "there is nothing such to count")]
def kx_exc : List String := ["java/lang/IllegalArgumentException", "java/lang/IllegalStateException", "java/lang/IndexOutOfBoundsException"]
theorem kt_EK : ∀ w ∈ u_ws "EventKeeper" T_EK 3, w ∈ kx_tb := by
  have h : (u_ws "EventKeeper" T_EK 3).all (fun w => decide (w ∈ tables_1) && goodWord w) = true := by decide +kernel
  intro w hw
  have h1 := List.all_eq_true.mp h w hw
  simp only [Bool.and_eq_true, decide_eq_true_eq] at h1
  exact List.mem_filter.mpr ⟨List.mem_append_right _ h1.1, h1.2⟩
theorem kn_EK : ∀ a, a < 3 → ∀ b, b < 3 → a ≠ b → (T_EK a).2.1 ≠ (T_EK b).2.1 := by decide +kernel
theorem kp_EK : ∀ k, k < 3 → parseFieldDescriptor (T_EK k).2.2.1 = some (ty_EK k) := by decide +kernel
theorem kt_L : ∀ w ∈ u_ws "EventKeeper$Log" T_L 11, w ∈ kx_tb := by
  have h : (u_ws "EventKeeper$Log" T_L 11).all (fun w => decide (w ∈ tables_1) && goodWord w) = true := by decide +kernel
  intro w hw
  have h1 := List.all_eq_true.mp h w hw
  simp only [Bool.and_eq_true, decide_eq_true_eq] at h1
  exact List.mem_filter.mpr ⟨List.mem_append_right _ h1.1, h1.2⟩
theorem kn_L : ∀ a, a < 11 → ∀ b, b < 11 → a ≠ b → (T_L a).2.1 ≠ (T_L b).2.1 := by decide +kernel
theorem kp_L : ∀ k, k < 11 → parseFieldDescriptor (T_L k).2.2.1 = some (ty_L k) := by decide +kernel
theorem kt_P : ∀ w ∈ u_ws "EventKeeper$Projection" T_P 8, w ∈ kx_tb := by
  have h : (u_ws "EventKeeper$Projection" T_P 8).all (fun w => decide (w ∈ tables_1) && goodWord w) = true := by decide +kernel
  intro w hw
  have h1 := List.all_eq_true.mp h w hw
  simp only [Bool.and_eq_true, decide_eq_true_eq] at h1
  exact List.mem_filter.mpr ⟨List.mem_append_right _ h1.1, h1.2⟩
theorem kn_P : ∀ a, a < 8 → ∀ b, b < 8 → a ≠ b → (T_P a).2.1 ≠ (T_P b).2.1 := by decide +kernel
theorem kp_P : ∀ k, k < 8 → parseFieldDescriptor (T_P k).2.2.1 = some (ty_P k) := by decide +kernel
theorem kt_S : ∀ w ∈ u_ws "EventKeeper$Subscription" T_S 4, w ∈ kx_tb := by
  have h : (u_ws "EventKeeper$Subscription" T_S 4).all (fun w => decide (w ∈ tables_1) && goodWord w) = true := by decide +kernel
  intro w hw
  have h1 := List.all_eq_true.mp h w hw
  simp only [Bool.and_eq_true, decide_eq_true_eq] at h1
  exact List.mem_filter.mpr ⟨List.mem_append_right _ h1.1, h1.2⟩
theorem kn_S : ∀ a, a < 4 → ∀ b, b < 4 → a ≠ b → (T_S a).2.1 ≠ (T_S b).2.1 := by decide +kernel
theorem kp_S : ∀ k, k < 4 → parseFieldDescriptor (T_S k).2.2.1 = some (ty_S k) := by decide +kernel
theorem kt_M : ∀ w ∈ u_ws "EventKeeperModel" T_M 19, w ∈ kx_tb := by
  have h : (u_ws "EventKeeperModel" T_M 19).all (fun w => decide (w ∈ tables_1) && goodWord w) = true := by decide +kernel
  intro w hw
  have h1 := List.all_eq_true.mp h w hw
  simp only [Bool.and_eq_true, decide_eq_true_eq] at h1
  exact List.mem_filter.mpr ⟨List.mem_append_right _ h1.1, h1.2⟩
theorem kn_M : ∀ a, a < 19 → ∀ b, b < 19 → a ≠ b → (T_M a).2.1 ≠ (T_M b).2.1 := by decide +kernel
theorem kp_M : ∀ k, k < 19 → parseFieldDescriptor (T_M k).2.2.1 = some (ty_M k) := by decide +kernel
end
section
abbrev kx_c : Type := (Nat × (Nat → Int32)) ⊕ (Nat × (Nat → Int64)) ⊕ (Nat × Nat × (Nat → Option Nat)) ⊕ (Nat × List Value)
abbrev kx_ci (n : Nat) (f : Nat → Int32) : kx_c := Sum.inl (n, f)
abbrev kx_cl (n : Nat) (f : Nat → Int64) : kx_c := Sum.inr (Sum.inl (n, f))
abbrev kx_cq (t n : Nat) (f : Nat → Option Nat) : kx_c := Sum.inr (Sum.inr (Sum.inl (t, n, f)))
abbrev kx_co (ci : Nat) (fs : List Value) : kx_c := Sum.inr (Sum.inr (Sum.inr (ci, fs)))
abbrev kx_H : Type := Nat → Option kx_c
def kx_set (h : kx_H) (i : Nat) (c : kx_c) : kx_H := fun j => if j = i then some c else h j
theorem kx_set_s {h : kx_H} {i : Nat} {c : kx_c} : kx_set h i c i = some c := by simp [kx_set]
theorem kx_set_n {h : kx_H} {i j : Nat} {c : kx_c} (hj : j ≠ i) : kx_set h i c j = h j := by simp [kx_set, hj]
abbrev kx_E : Type := Launch × State × va_G × (Nat → Nat)
def kx_B (E : kx_E) : Nat := E.2.1.heap.size
def kx_v (B : Nat) : Value → Value
  | .int x => .int x
  | .long x => .long x
  | .float x => .float x
  | .double x => .double x
  | .null => .null
  | .ref i => .ref (B + i)
  | .retAddr k => .retAddr k
def kx_rf (B : Nat) : Option Nat → Value
  | none => .null
  | some i => .ref (B + i)
theorem kx_v_cat (B : Nat) (v : Value) : (kx_v B v).category = v.category := by cases v <;> rfl
abbrev kx_s (E : kx_E) (st : List Value) : List Value := st.map (kx_v (kx_B E))
abbrev kx_l (E : kx_E) (lv : List (Nat × Value)) : List (Nat × Value) := lv.map (fun q => (q.1, kx_v (kx_B E) q.2))
theorem kx_s_cat (E : kx_E) (st : List Value) : ((kx_s E st).map fun v => v.category).sum = (st.map fun v => v.category).sum := by
  show ((st.map (kx_v (kx_B E))).map fun v => v.category).sum = _
  rw [List.map_map]
  congr 1
  apply List.map_congr_left
  intro v _
  exact kx_v_cat _ v
def kx_lk : List (Nat × Value) → Nat → Option Value
  | [], _ => none
  | q :: l, i => match Nat.beq q.1 i with
    | true => some q.2
    | false => kx_lk l i
theorem kx_lk_mem : ∀ {l : List (Nat × Value)} {i : Nat} {v : Value}, kx_lk l i = some v → (i, v) ∈ l
  | [], _, _, h => by simp [kx_lk] at h
  | q :: l, i, v, h => by
    cases hb : Nat.beq q.1 i with
    | true =>
      have e : q.1 = i := Nat.eq_of_beq_eq_true hb
      simp only [kx_lk, hb, Option.some.injEq] at h
      obtain ⟨a, b⟩ := q
      cases e
      cases h
      exact List.mem_cons_self
    | false =>
      simp only [kx_lk, hb] at h
      exact List.mem_cons_of_mem _ (kx_lk_mem h)
theorem kx_l_at {E : kx_E} {ls : Array Slot} {nL : Nat} {lv : List (Nat × Value)} {i : Nat} {v : Value} (hV : lv_has ls nL (kx_l E lv)) (h : kx_lk lv i = some v) : ls[i]? = some (.val (kx_v (kx_B E) v)) :=
  hV.2.2 (i, kx_v (kx_B E) v) (List.mem_map.mpr ⟨(i, v), kx_lk_mem h, rfl⟩)
theorem kx_l_st1 (E : kx_E) (lv : List (Nat × Value)) (i : Nat) (v : Value) : (i, kx_v (kx_B E) v) :: (kx_l E lv).filter (fun q => !(q.1 == i) && !(q.1 + 1 == i && q.2.category == 2)) = kx_l E ((i, v) :: lv.filter (fun q => !(q.1 == i) && !(q.1 + 1 == i && q.2.category == 2))) := by
  show _ = (i, kx_v (kx_B E) v) :: (lv.filter _).map _
  congr 1
  rw [List.filter_map]
  congr 1
  apply List.filter_congr
  intro q _
  simp only [Function.comp, kx_v_cat]
theorem kx_l_st2 (E : kx_E) (lv : List (Nat × Value)) (i : Nat) (v : Value) : (i, kx_v (kx_B E) v) :: (kx_l E lv).filter (fun q => !(q.1 == i) && (!(q.1 == i + 1) && !(q.1 + 1 == i && q.2.category == 2))) = kx_l E ((i, v) :: lv.filter (fun q => !(q.1 == i) && (!(q.1 == i + 1) && !(q.1 + 1 == i && q.2.category == 2)))) := by
  show _ = (i, kx_v (kx_B E) v) :: (lv.filter _).map _
  congr 1
  rw [List.filter_map]
  congr 1
  apply List.filter_congr
  intro q _
  simp only [Function.comp, kx_v_cat]
theorem kx_args (E : kx_E) : ∀ (as : List Value) (i : Nat), lv_args i (kx_s E as) = kx_l E (lv_args i as)
  | [], _ => rfl
  | v :: vs, i => by
    show (i, kx_v (kx_B E) v) :: lv_args (if (kx_v (kx_B E) v).category = 2 then i + 2 else i + 1) (kx_s E vs) = (i, kx_v (kx_B E) v) :: kx_l E (lv_args (if v.category = 2 then i + 2 else i + 1) vs)
    rw [kx_v_cat, kx_args E vs]
theorem kx_sl (E : kx_E) : ∀ (as : List Value), (lg_sl (kx_s E as)).length = (lg_sl as).length
  | [] => rfl
  | v :: vs => by
    have h := kx_sl E vs
    simp only [lg_sl, List.map_cons, List.flatMap_cons, List.length_append, kx_v_cat] at h ⊢
    rw [h]
    by_cases hc : v.category = 2 <;> simp [hc]
def kx_at (E : kx_E) (i : Nat) (c : kx_c) (H : Heap) : Prop := match c with
  | Sum.inl x => H[kx_B E + i]? = some (arrV (E.2.2.2 0) x.1 (fun j => .int (x.2 j)))
  | Sum.inr (Sum.inl x) => H[kx_B E + i]? = some (arrV (E.2.2.2 1) x.1 (fun j => .long (x.2 j)))
  | Sum.inr (Sum.inr (Sum.inl x)) => H[kx_B E + i]? = some (arrV (E.2.2.2 (2 + x.1)) x.2.1 (fun j => kx_rf (kx_B E) (x.2.2 j)))
  | Sum.inr (Sum.inr (Sum.inr x)) => ∃ r : vw_C, kx_cls[x.1]? = some r ∧ t_OB (kx_B E + i) (E.2.2.1.1 x.1) r.2.2 (E.2.2.1.2 x.1) H (fun k => kx_v (kx_B E) (x.2.getD k .null))
theorem kx_at.kept {E : kx_E} {i : Nat} {c : kx_c} {H H1 : Heap} (h : kx_at E i c H) (hq : H1[kx_B E + i]? = H[kx_B E + i]?) : kx_at E i c H1 := by
  rcases c with x | x | x | x
  · exact hq.trans h
  · exact hq.trans h
  · exact hq.trans h
  · obtain ⟨r, h1, h2⟩ := h
    exact ⟨r, h1, h2.kept hq⟩
theorem kx_at.cell {E : kx_E} {i : Nat} {c : kx_c} {H : Heap} (h : kx_at E i c H) : ∃ cell : Cell, H[kx_B E + i]? = some cell ∧ cell.vm = .none := by
  rcases c with x | x | x | x
  · exact ⟨_, h, rfl⟩
  · exact ⟨_, h, rfl⟩
  · exact ⟨_, h, rfl⟩
  · obtain ⟨r, h1, cell, h2, -, h3, -⟩ := h
    exact ⟨cell, h2, h3⟩
theorem kx_at.lt {E : kx_E} {i : Nat} {c : kx_c} {H : Heap} (h : kx_at E i c H) : kx_B E + i < H.size := by
  obtain ⟨cell, h1, -⟩ := h.cell
  exact (Array.getElem?_eq_some_iff.mp h1).1
def kx_P (E : kx_E) (n : Nat) (h : kx_H) (H : Heap) : Prop :=
  H.size = kx_B E + n ∧ (∀ q : Nat, q < kx_B E → H[q]? = E.2.1.heap[q]?) ∧ (∀ (q : Nat) (cell : Cell), kx_B E ≤ q → H[q]? = some cell → cell.vm.isStatics = false) ∧ ∀ (i : Nat) (c : kx_c), h i = some c → kx_at E i c H
theorem kx_P.set {E : kx_E} {n : Nat} {h : kx_H} {H H1 : Heap} (P : kx_P E n h H) {i : Nat} {c : kx_c} (z : H1.size = H.size) (oq : ∀ q : Nat, q ≠ kx_B E + i → H1[q]? = H[q]?) (hc : kx_at E i c H1) : kx_P E n (kx_set h i c) H1 := by
  obtain ⟨p1, p2, p3, p4⟩ := P
  refine ⟨z.trans p1, fun q hq => ?_, fun q cell hq hcl => ?_, fun j d hj => ?_⟩
  · rw [oq q (by omega)]; exact p2 q hq
  · by_cases e : q = kx_B E + i
    · subst e
      obtain ⟨cell', h1, h2⟩ := hc.cell
      rw [h1] at hcl
      cases hcl
      rw [h2]; rfl
    · rw [oq q e] at hcl
      exact p3 q cell hq hcl
  · by_cases e : j = i
    · subst e
      rw [kx_set_s] at hj
      cases hj
      exact hc
    · rw [kx_set_n e] at hj
      exact (p4 j d hj).kept (oq _ (by omega))
theorem kx_P.junk {E : kx_E} {n : Nat} {h : kx_H} {H H1 : Heap} (P : kx_P E n h H) (z : H1.size = H.size + 1) (oq : ∀ q : Nat, q < H.size → H1[q]? = H[q]?) (hn : ∀ cell, H1[H.size]? = some cell → cell.vm.isStatics = false) : kx_P E (n + 1) h H1 := by
  obtain ⟨p1, p2, p3, p4⟩ := P
  refine ⟨by omega, fun q hq => ?_, fun q cell hq hcl => ?_, fun j d hj => (p4 j d hj).kept (oq _ (p4 j d hj).lt)⟩
  · rw [oq q (by omega)]; exact p2 q hq
  · have hlt := (Array.getElem?_eq_some_iff.mp hcl).1
    by_cases e : q = H.size
    · subst e
      exact hn cell hcl
    · rw [oq q (by omega)] at hcl
      exact p3 q cell hq hcl
theorem kx_P.push {E : kx_E} {n : Nat} {h : kx_H} {H H1 : Heap} (P : kx_P E n h H) {c : kx_c} (z : H1.size = H.size + 1) (oq : ∀ q : Nat, q < H.size → H1[q]? = H[q]?) (hc : kx_at E n c H1) : kx_P E (n + 1) (kx_set h n c) H1 := by
  have hs : H.size = kx_B E + n := P.1
  have P1 : kx_P E (n + 1) h H1 := P.junk z oq (fun cell hcl => by
    obtain ⟨cell', h1, h2⟩ := hc.cell
    rw [← hs, hcl] at h1
    cases h1
    rw [h2]; rfl)
  refine ⟨P1.1, P1.2.1, P1.2.2.1, fun j d hj => ?_⟩
  by_cases e : j = n
  · subst e
    rw [kx_set_s] at hj
    cases hj
    exact hc
  · rw [kx_set_n e] at hj
    exact P1.2.2.2 j d hj
def kx_hw : List Cond := [.laysStatic "java/lang/Throwable" "UNASSIGNED_STACK" "[Ljava/lang/StackTraceElement;", .laysStatic "java/lang/Throwable" "SUPPRESSED_SENTINEL" "Ljava/util/List;"]
def kx_hr : List Cond := [.isRef (.static "java/lang/Throwable" "UNASSIGNED_STACK" "[Ljava/lang/StackTraceElement;"), .isRef (.static "java/lang/Throwable" "SUPPRESSED_SENTINEL" "Ljava/util/List;")]
def kx_T (s : State) : Prop := (∀ w ∈ kx_hw, ∀ a : Array Value, w.before a s = true) ∧ (∀ w ∈ kx_hr, ∀ a : Array Value, w.before a s = true) ∧ ∀ q ∈ kx_strs, ∃ a : Nat, vk_R q.1 q.2.1 q.2.2 a s
theorem kx_lays {s U : State} (hW : s.WarmedH U.vm) (hh : ∀ q : Nat, q < s.heap.size → U.heap[q]? = s.heap[q]?) {O f d : String} {a' a'' : Array Value} (h : (Cond.laysStatic O f d).before a' s = true) : (Cond.laysStatic O f d).before a'' U = true := by
  obtain ⟨c, k, i, fd, a, cell, hc, hi, hst, ha, hcell, hs, hcls, hlt, hty⟩ := Cond.laysStatic_spec h
  obtain ⟨k', hi', he⟩ := State.fieldFound?_setVm hW.alike hi
  have hb := (Array.getElem?_eq_some_iff.mp hcell).1
  exact Cond.laysStatic_of (s := U) (by rw [hW.alike.findClass]; exact hc) hi' hst (by rw [he]; exact ha) (by rw [hh a hb]; exact hcell) hs hcls hlt (by rw [he]; exact hty)
theorem kx_isref {s U : State} (hW : s.WarmedH U.vm) (hh : ∀ q : Nat, q < s.heap.size → U.heap[q]? = s.heap[q]?) {O f d : String} {a' a'' : Array Value} (hl : (Cond.laysStatic O f d).before a' s = true) (h : (Cond.isRef (.static O f d)).before a' s = true) : (Cond.isRef (.static O f d)).before a'' U = true := by
  obtain ⟨c, k, i, fd, a, cell, hc, hi, hst, ha, hcell, hs, hcls, hlt, hty⟩ := Cond.laysStatic_spec hl
  obtain ⟨k', hi', he⟩ := State.fieldFound?_setVm hW.alike hi
  have hb := (Array.getElem?_eq_some_iff.mp hcell).1
  have hcU : U.heap[a]? = some cell := by rw [hh a hb]; exact hcell
  have hiU : U.fieldFound? O f d = some (c, k', i, fd) := hi'
  have haU : k'.statics = some a := by rw [he]; exact ha
  cases hv : (Term.static O f d).eval a' s none [] s with
  | none => simp [Cond.before, Cond.holds, Cond.value, hv] at h
  | some w =>
    obtain ⟨-, a2, cell2, q1, q2, -, q4⟩ := Term.static_spec hi hv
    cases ha.symm.trans q1
    cases hcell.symm.trans q2
    have heU : (Term.static O f d).eval a'' U none [] U = some w := by
      simp [Term.eval, State.fieldNamed?, hiU, hst, haU, hcU, hs, q4]
    simp only [Cond.before, Cond.holds, Cond.value, hv] at h
    simp only [Cond.before, Cond.holds, Cond.value, heU]
    exact h
theorem kx_T.to {s U : State} (h : kx_T s) (hW : s.WarmedH U.vm) (hh : ∀ q : Nat, q < s.heap.size → U.heap[q]? = s.heap[q]?) : kx_T U := by
  obtain ⟨h1, h2, h3⟩ := h
  refine ⟨fun w hw a => ?_, fun w hw a => ?_, fun q hq => ?_⟩
  · simp only [kx_hw, List.mem_cons, List.not_mem_nil, or_false] at hw
    rcases hw with rfl | rfl
    · exact kx_lays hW hh (h1 _ (by simp [kx_hw]) #[])
    · exact kx_lays hW hh (h1 _ (by simp [kx_hw]) #[])
  · simp only [kx_hr, List.mem_cons, List.not_mem_nil, or_false] at hw
    rcases hw with rfl | rfl
    · exact kx_isref hW hh (h1 _ (by simp [kx_hw]) #[]) (h2 _ (by simp [kx_hr]) #[])
    · exact kx_isref hW hh (h1 _ (by simp [kx_hw]) #[]) (h2 _ (by simp [kx_hr]) #[])
  · obtain ⟨a, ha⟩ := h3 q hq
    exact ⟨a, vk_R.warm hW ha⟩
def kx_tys (aC : Nat → Nat) : List (ClassId × FieldType) := [(aC 0, .int), (aC 1, .long), (aC 2, .object kx_q0), (aC 3, .object kx_q1)]
def kx_yes (E : kx_E) (A B : String) : Prop := ∃ a b : ClassId, E.2.1.vm.findClass A = some a ∧ E.2.1.vm.findClass B = some b ∧ E.2.1.vm.assignable a b = true
def kx_no (E : kx_E) (A B : String) : Prop := ∃ a b : ClassId, E.2.1.vm.findClass A = some a ∧ E.2.1.vm.findClass B = some b ∧ E.2.1.vm.assignable a b = false
def kx_G (E : kx_E) : Prop := E.1.stackTraces = false ∧ (∃ a0 : Array Value, ∀ w ∈ kx_tb, w.before a0 E.2.1 = true) ∧ va_K E.2.2.1 kx_cls (kx_tys E.2.2.2) E.2.1 ∧ kx_T E.2.1 ∧ ∀ A ∈ kx_exc, ∀ B ∈ kx_exc, (A = B → kx_yes E A B) ∧ (A ≠ B → kx_no E A B)
abbrev kx_I : Type := String × ByteArray × Nat × Option FieldType × List (Nat × Nat × Nat × Nat) × String
abbrev kx_Q : Type := (Option Value ⊕ String) → Nat → kx_H → Prop
def kx_C (E : kx_E) (I : kx_I) (d mc ms : Nat) (p : Program) (e : Env) (R : Room) (s : State) (m : MethodId) (args : Array Value) (meth : Method) (c : Code) : Prop :=
  (kx_G E ∧ p.tables.exec = Jvm.exec ∧ c.code = I.2.1 ∧ c.maxLocals = I.2.2.1) ∧ (meth.sig.returnType = I.2.2.2.1 ∧ meth.locks = false ∧ s.vm.findClass I.1 = some m.cls ∧ E.2.1.WarmedH s.vm) ∧
  ((∀ q : Nat, q < kx_B E → s.heap[q]? = E.2.1.heap[q]?) ∧ c.exceptionTable.toList.map (fun x => (x.startPc, x.endPc, x.handlerPc, x.catchType)) = I.2.2.2.2.1 ∧ meth.name = I.2.2.2.2.2) ∧ d ≤ R.frames ∧ 36 * d ≤ R.locals ∧ R.cells = mc ∧ R.slots = ms
section KXC
variable {E : kx_E} {I : kx_I} {d mc ms : Nat} {p : Program} {e : Env} {R : Room} {s : State} {m : MethodId} {args : Array Value} {meth : Method} {c : Code}
theorem kx_C.g (C : kx_C E I d mc ms p e R s m args meth c) : kx_G E := C.1.1
theorem kx_C.ex (C : kx_C E I d mc ms p e R s m args meth c) : p.tables.exec = Jvm.exec := C.1.2.1
theorem kx_C.bt (C : kx_C E I d mc ms p e R s m args meth c) : c.code = I.2.1 := C.1.2.2.1
theorem kx_C.ml (C : kx_C E I d mc ms p e R s m args meth c) : c.maxLocals = I.2.2.1 := C.1.2.2.2
theorem kx_C.rt (C : kx_C E I d mc ms p e R s m args meth c) : meth.sig.returnType = I.2.2.2.1 := C.2.1.1
theorem kx_C.lk (C : kx_C E I d mc ms p e R s m args meth c) : meth.locks = false := C.2.1.2.1
theorem kx_C.own (C : kx_C E I d mc ms p e R s m args meth c) : s.vm.findClass I.1 = some m.cls := C.2.1.2.2.1
theorem kx_C.wm (C : kx_C E I d mc ms p e R s m args meth c) : E.2.1.WarmedH s.vm := C.2.1.2.2.2
theorem kx_C.lo (C : kx_C E I d mc ms p e R s m args meth c) : ∀ q : Nat, q < kx_B E → s.heap[q]? = E.2.1.heap[q]? := C.2.2.1.1
theorem kx_C.tb (C : kx_C E I d mc ms p e R s m args meth c) : c.exceptionTable.toList.map (fun x => (x.startPc, x.endPc, x.handlerPc, x.catchType)) = I.2.2.2.2.1 := C.2.2.1.2.1
theorem kx_C.nm (C : kx_C E I d mc ms p e R s m args meth c) : meth.name = I.2.2.2.2.2 := C.2.2.1.2.2
theorem kx_C.fr (C : kx_C E I d mc ms p e R s m args meth c) : d ≤ R.frames := C.2.2.2.1
theorem kx_C.lc (C : kx_C E I d mc ms p e R s m args meth c) : 36 * d ≤ R.locals := C.2.2.2.2.1
theorem kx_C.rc (C : kx_C E I d mc ms p e R s m args meth c) : R.cells = mc := C.2.2.2.2.2.1
theorem kx_C.rs (C : kx_C E I d mc ms p e R s m args meth c) : R.slots = ms := C.2.2.2.2.2.2
theorem kx_word {E : kx_E} (G : kx_G E) {w : Cond} (hw : w ∈ kx_tb) (a' : Array Value) {U : State} (hU : E.2.1.WarmedH U.vm) : w.before a' U = true := by
  obtain ⟨a0, h⟩ := G.2.1
  exact word_at hU (good_of_word (List.all_eq_true.mp kx_tb_good w hw)) (h w hw)
theorem kx_C.w (C : kx_C E I d mc ms p e R s m args meth c) {w : Cond} (hw : w ∈ kx_tb) : w.before args s = true := kx_word C.g hw args C.wm
theorem kx_C.k (C : kx_C E I d mc ms p e R s m args meth c) : va_K E.2.2.1 kx_cls (kx_tys E.2.2.2) s := va_K.moved C.wm.alike C.g.2.2.1
end KXC
def kx_O (E : kx_E) (r : Option Value ⊕ String) (o : Outcome) (t : State) : Prop := match r with
  | Sum.inl v => o = .returned (v.map (kx_v (kx_B E)))
  | Sum.inr X => ∃ (a : Addr) (ce : Cell), o = .threw a ∧ t.heap[a]? = some ce ∧ ce.vm.isStatics = false ∧ E.2.1.vm.findClass X = some ce.cls
def kx_Z (E : kx_E) (mc ms : Nat) (Q : kx_Q) (below : List Frame) (s : State) (t : State) : Prop :=
  ∃ o, t.status = .running ∧ Ended t below o ∧ s.WarmedH t.vm ∧ (∃ L, s.sameButNew ({ t with vm := s.vm } : State) L mc ms ∧ ∀ q ∈ L, kx_B E ≤ q.base) ∧ ∃ (r : Option Value ⊕ String) (n : Nat) (h : kx_H), kx_P E n h t.heap ∧ kx_O E r o t ∧ Q r n h
def kx_V (E : kx_E) (I : kx_I) (d mc ms : Nat) (Q : kx_Q) (k j pc : Nat) (lv : List (Nat × Value)) (st : List Value) (n : Nat) (h : kx_H) : Prop :=
  ∀ (p : Program) (e : Env) (R : Room) (s : State) (m : MethodId) (args : Array Value) (below : List Frame) (meth : Method) (c : Code) (H : Heap) (locs : List Loc) (ls : Array Slot) (cells slots : Nat),
    kx_C E I d mc ms p e R s m args meth c → kx_P E n h H → (∀ q ∈ locs, kx_B E ≤ q.base) → lv_has ls I.2.2.1 (kx_l E lv) → cells + k ≤ mc → slots + j ≤ ms →
    W p E.1 e R s m args below meth c H locs cells slots (kx_Z E mc ms Q below s) (F0 m pc ls (kx_s E st))
def kx_X (E : kx_E) (I : kx_I) (d mc ms : Nat) (Q : kx_Q) (k j pc : Nat) (lv : List (Nat × Value)) (X : String) (n : Nat) (h : kx_H) : Prop :=
  ∀ (p : Program) (e : Env) (R : Room) (s : State) (m : MethodId) (args : Array Value) (below : List Frame) (meth : Method) (c : Code) (H : Heap) (locs : List Loc) (ls : Array Slot) (cells slots : Nat),
    kx_C E I d mc ms p e R s m args meth c → kx_P E n h H → (∀ q ∈ locs, kx_B E ≤ q.base) → lv_has ls I.2.2.1 (kx_l E lv) → cells + k ≤ mc → slots + j ≤ ms →
    ∀ (st : List Value) (a : Addr) (ce : Cell), H[a]? = some ce → ce.vm.isStatics = false → E.2.1.vm.findClass X = some ce.cls →
    ∀ T : State, T.heap = H → Stand p E.1 e R s m args below meth c T locs cells slots → ∃ t, Steps p.tables e below ((T.setTop (F0 m pc ls st)).pushFrame (.throwing a)) t ∧ kx_Z E mc ms Q below s t
theorem kx_W_mono {p : Program} {l : Launch} {e : Env} {R : Room} {s : State} {m : MethodId} {args : Array Value} {below : List Frame} {meth : Method} {c : Code} {H : Heap} {locs : List Loc} {cells slots : Nat} {Q Q' : State → Prop} {g : JFrame} (hq : ∀ t, Q t → Q' t) (w : W p l e R s m args below meth c H locs cells slots Q g) : W p l e R s m args below meth c H locs cells slots Q' g := by
  intro T hT X
  obtain ⟨t, a, b⟩ := w T hT X
  exact ⟨t, a, hq t b⟩
theorem kx_up {tb : Tables} {e : Env} {mid below : List Frame} {a b : State} (h : Steps tb e (mid ++ below) a b) : Steps tb e below a b := by
  obtain ⟨n, h1, h2⟩ := h
  exact ⟨n, h1, fun k hk => (h2 k hk).weaken⟩
end
section
section KXR
variable {E : kx_E} {I : kx_I} {d mc ms : Nat} {Q : kx_Q} {k j pc : Nat} {lv : List (Nat × Value)} {st : List Value} {n : Nat} {h : kx_H}
theorem kx_iconst {a : Int} {x : Int32} (hdg : decode I.2.1 pc = .ok (.iconst a, 1)) (hx : Int32.ofInt a = x) (kk : kx_V E I d mc ms Q k j (pc + 1) lv (.int x :: st) n h) : kx_V E I d mc ms Q k j pc lv st n h :=
  fun p e R s m args below meth c H locs ls cells slots C P L V hk hj => lv_iconst C.ex C.bt hdg hx (kk p e R s m args below meth c H locs ls cells slots C P L V hk hj)
theorem kx_bipush {a : Int} {x : Int32} (hdg : decode I.2.1 pc = .ok (.bipush a, 2)) (hx : (Int8.ofInt a).toInt32 = x) (kk : kx_V E I d mc ms Q k j (pc + 2) lv (.int x :: st) n h) : kx_V E I d mc ms Q k j pc lv st n h :=
  fun p e R s m args below meth c H locs ls cells slots C P L V hk hj => lv_bipush C.ex C.bt hdg hx (kk p e R s m args below meth c H locs ls cells slots C P L V hk hj)
theorem kx_sipush {a : Int} {x : Int32} (hdg : decode I.2.1 pc = .ok (.sipush a, 3)) (hx : (Int16.ofInt a).toInt32 = x) (kk : kx_V E I d mc ms Q k j (pc + 3) lv (.int x :: st) n h) : kx_V E I d mc ms Q k j pc lv st n h :=
  fun p e R s m args below meth c H locs ls cells slots C P L V hk hj => lv_sipush C.ex C.bt hdg hx (kk p e R s m args below meth c H locs ls cells slots C P L V hk hj)
theorem kx_lconst {a : Fin 2} {x : Int64} (hdg : decode I.2.1 pc = .ok (.lconst a, 1)) (hx : Int64.ofNat (a : Nat) = x) (kk : kx_V E I d mc ms Q k j (pc + 1) lv (.long x :: st) n h) : kx_V E I d mc ms Q k j pc lv st n h :=
  fun p e R s m args below meth c H locs ls cells slots C P L V hk hj => lv_lconst C.ex C.bt hdg hx (kk p e R s m args below meth c H locs ls cells slots C P L V hk hj)
theorem kx_ldc2 {index : Nat} {x : Int64} (hdg : decode I.2.1 pc = .ok (.ldc2_w index, 3)) (hw : Cond.constantLong I.1 index x ∈ kx_tb) (kk : kx_V E I d mc ms Q k j (pc + 3) lv (.long x :: st) n h) : kx_V E I d mc ms Q k j pc lv st n h :=
  fun p e R s m args below meth c H locs ls cells slots C P L V hk hj => lv_ldc2 C.ex C.bt C.own (C.w hw) hdg (kk p e R s m args below meth c H locs ls cells slots C P L V hk hj)
theorem kx_iload_n {f : Fin 4} {x : Int32} (hdg : decode I.2.1 pc = .ok (.iload_n f, 1)) (hl : kx_lk lv f.val = some (.int x)) (kk : kx_V E I d mc ms Q k j (pc + 1) lv (.int x :: st) n h) : kx_V E I d mc ms Q k j pc lv st n h :=
  fun p e R s m args below meth c H locs ls cells slots C P L V hk hj => lv_iload_n C.ex C.bt hdg rfl (kx_l_at V hl) (kk p e R s m args below meth c H locs ls cells slots C P L V hk hj)
theorem kx_iload {i : Nat} {x : Int32} (hdg : decode I.2.1 pc = .ok (.iload i, 2)) (hl : kx_lk lv i = some (.int x)) (kk : kx_V E I d mc ms Q k j (pc + 2) lv (.int x :: st) n h) : kx_V E I d mc ms Q k j pc lv st n h :=
  fun p e R s m args below meth c H locs ls cells slots C P L V hk hj => lv_iload C.ex C.bt hdg (kx_l_at V hl) (kk p e R s m args below meth c H locs ls cells slots C P L V hk hj)
theorem kx_istore_n {f : Fin 4} {i : Nat} {x : Int32} {lv' : List (Nat × Value)} (hdg : decode I.2.1 pc = .ok (.istore_n f, 1)) (hf : (f : Nat) = i) (hn : i < I.2.2.1) (hl : (i, Value.int x) :: lv.filter (fun q => !(q.1 == i) && !(q.1 + 1 == i && q.2.category == 2)) = lv') (kk : kx_V E I d mc ms Q k j (pc + 1) lv' st n h) : kx_V E I d mc ms Q k j pc lv (.int x :: st) n h := by
  subst hl
  intro p e R s m args below meth c H locs ls cells slots C P L V hk hj
  exact lv_istore_n C.ex C.bt hdg hf V hn (kx_l_st1 E lv i (.int x)) (fun ls' V' => kk p e R s m args below meth c H locs ls' cells slots C P L V' hk hj)
theorem kx_istore {i : Nat} {x : Int32} {lv' : List (Nat × Value)} (hdg : decode I.2.1 pc = .ok (.istore i, 2)) (hn : i < I.2.2.1) (hl : (i, Value.int x) :: lv.filter (fun q => !(q.1 == i) && !(q.1 + 1 == i && q.2.category == 2)) = lv') (kk : kx_V E I d mc ms Q k j (pc + 2) lv' st n h) : kx_V E I d mc ms Q k j pc lv (.int x :: st) n h := by
  subst hl
  intro p e R s m args below meth c H locs ls cells slots C P L V hk hj
  exact lv_istore C.ex C.bt hdg V hn (kx_l_st1 E lv i (.int x)) (fun ls' V' => kk p e R s m args below meth c H locs ls' cells slots C P L V' hk hj)
theorem kx_lload_n {f : Fin 4} {x : Int64} (hdg : decode I.2.1 pc = .ok (.lload_n f, 1)) (hl : kx_lk lv f.val = some (.long x)) (kk : kx_V E I d mc ms Q k j (pc + 1) lv (.long x :: st) n h) : kx_V E I d mc ms Q k j pc lv st n h :=
  fun p e R s m args below meth c H locs ls cells slots C P L V hk hj => lv_lload_n C.ex C.bt hdg rfl (kx_l_at V hl) (kk p e R s m args below meth c H locs ls cells slots C P L V hk hj)
theorem kx_lload {i : Nat} {x : Int64} (hdg : decode I.2.1 pc = .ok (.lload i, 2)) (hl : kx_lk lv i = some (.long x)) (kk : kx_V E I d mc ms Q k j (pc + 2) lv (.long x :: st) n h) : kx_V E I d mc ms Q k j pc lv st n h :=
  fun p e R s m args below meth c H locs ls cells slots C P L V hk hj => lv_lload C.ex C.bt hdg (kx_l_at V hl) (kk p e R s m args below meth c H locs ls cells slots C P L V hk hj)
theorem kx_lstore_n {f : Fin 4} {i : Nat} {x : Int64} {lv' : List (Nat × Value)} (hdg : decode I.2.1 pc = .ok (.lstore_n f, 1)) (hf : (f : Nat) = i) (hn : i + 1 < I.2.2.1) (hl : (i, Value.long x) :: lv.filter (fun q => !(q.1 == i) && (!(q.1 == i + 1) && !(q.1 + 1 == i && q.2.category == 2))) = lv') (kk : kx_V E I d mc ms Q k j (pc + 1) lv' st n h) : kx_V E I d mc ms Q k j pc lv (.long x :: st) n h := by
  subst hl
  intro p e R s m args below meth c H locs ls cells slots C P L V hk hj
  exact lv_lstore_n C.ex C.bt hdg hf V hn (kx_l_st2 E lv i (.long x)) (fun ls' V' => kk p e R s m args below meth c H locs ls' cells slots C P L V' hk hj)
theorem kx_lstore {i : Nat} {x : Int64} {lv' : List (Nat × Value)} (hdg : decode I.2.1 pc = .ok (.lstore i, 2)) (hn : i + 1 < I.2.2.1) (hl : (i, Value.long x) :: lv.filter (fun q => !(q.1 == i) && (!(q.1 == i + 1) && !(q.1 + 1 == i && q.2.category == 2))) = lv') (kk : kx_V E I d mc ms Q k j (pc + 2) lv' st n h) : kx_V E I d mc ms Q k j pc lv (.long x :: st) n h := by
  subst hl
  intro p e R s m args below meth c H locs ls cells slots C P L V hk hj
  exact lv_lstore C.ex C.bt hdg V hn (kx_l_st2 E lv i (.long x)) (fun ls' V' => kk p e R s m args below meth c H locs ls' cells slots C P L V' hk hj)
theorem kx_aload_n {f : Fin 4} {x : Nat} (hdg : decode I.2.1 pc = .ok (.aload_n f, 1)) (hl : kx_lk lv f.val = some (.ref x)) (kk : kx_V E I d mc ms Q k j (pc + 1) lv (.ref x :: st) n h) : kx_V E I d mc ms Q k j pc lv st n h :=
  fun p e R s m args below meth c H locs ls cells slots C P L V hk hj => lv_aload_n C.ex C.bt hdg rfl (kx_l_at V hl) (kk p e R s m args below meth c H locs ls cells slots C P L V hk hj)
theorem kx_aload {i : Nat} {x : Nat} (hdg : decode I.2.1 pc = .ok (.aload i, 2)) (hl : kx_lk lv i = some (.ref x)) (kk : kx_V E I d mc ms Q k j (pc + 2) lv (.ref x :: st) n h) : kx_V E I d mc ms Q k j pc lv st n h :=
  fun p e R s m args below meth c H locs ls cells slots C P L V hk hj => lv_aload C.ex C.bt hdg (kx_l_at V hl) (kk p e R s m args below meth c H locs ls cells slots C P L V hk hj)
theorem kx_astore_n {f : Fin 4} {i : Nat} {x : Nat} {lv' : List (Nat × Value)} (hdg : decode I.2.1 pc = .ok (.astore_n f, 1)) (hf : (f : Nat) = i) (hn : i < I.2.2.1) (hl : (i, Value.ref x) :: lv.filter (fun q => !(q.1 == i) && !(q.1 + 1 == i && q.2.category == 2)) = lv') (kk : kx_V E I d mc ms Q k j (pc + 1) lv' st n h) : kx_V E I d mc ms Q k j pc lv (.ref x :: st) n h := by
  subst hl
  intro p e R s m args below meth c H locs ls cells slots C P L V hk hj
  exact lv_astore_n C.ex C.bt hdg hf V hn (kx_l_st1 E lv i (.ref x)) (fun ls' V' => kk p e R s m args below meth c H locs ls' cells slots C P L V' hk hj)
theorem kx_astore {i : Nat} {x : Nat} {lv' : List (Nat × Value)} (hdg : decode I.2.1 pc = .ok (.astore i, 2)) (hn : i < I.2.2.1) (hl : (i, Value.ref x) :: lv.filter (fun q => !(q.1 == i) && !(q.1 + 1 == i && q.2.category == 2)) = lv') (kk : kx_V E I d mc ms Q k j (pc + 2) lv' st n h) : kx_V E I d mc ms Q k j pc lv (.ref x :: st) n h := by
  subst hl
  intro p e R s m args below meth c H locs ls cells slots C P L V hk hj
  exact lv_astore C.ex C.bt hdg V hn (kx_l_st1 E lv i (.ref x)) (fun ls' V' => kk p e R s m args below meth c H locs ls' cells slots C P L V' hk hj)
theorem kx_iinc {i : Nat} {a : Int} {x y : Int32} {lv' : List (Nat × Value)} (hdg : decode I.2.1 pc = .ok (.iinc i a, 3)) (hx : kx_lk lv i = some (.int x)) (hy : x + Int32.ofInt a = y) (hn : i < I.2.2.1) (hl : (i, Value.int y) :: lv.filter (fun q => !(q.1 == i) && !(q.1 + 1 == i && q.2.category == 2)) = lv') (kk : kx_V E I d mc ms Q k j (pc + 3) lv' st n h) : kx_V E I d mc ms Q k j pc lv st n h := by
  subst hl
  intro p e R s m args below meth c H locs ls cells slots C P L V hk hj
  obtain ⟨k0, hk0⟩ := List.getElem?_of_mem (List.mem_map.mpr ⟨(i, Value.int x), kx_lk_mem hx, rfl⟩ : (i, kx_v (kx_B E) (.int x)) ∈ kx_l E lv)
  exact lv_iinc C.ex C.bt hdg V hk0 hy hn (kx_l_st1 E lv i (.int y)) (fun ls' V' => kk p e R s m args below meth c H locs ls' cells slots C P L V' hk hj)
theorem kx_iadd {x y : Int32} (hdg : decode I.2.1 pc = .ok (.iadd, 1)) (kk : kx_V E I d mc ms Q k j (pc + 1) lv (.int (x + y) :: st) n h) : kx_V E I d mc ms Q k j pc lv (.int y :: .int x :: st) n h :=
  fun p e R s m args below meth c H locs ls cells slots C P L V hk hj => lv_iadd C.ex C.bt hdg (kk p e R s m args below meth c H locs ls cells slots C P L V hk hj)
theorem kx_isub {x y : Int32} (hdg : decode I.2.1 pc = .ok (.isub, 1)) (kk : kx_V E I d mc ms Q k j (pc + 1) lv (.int (x - y) :: st) n h) : kx_V E I d mc ms Q k j pc lv (.int y :: .int x :: st) n h :=
  fun p e R s m args below meth c H locs ls cells slots C P L V hk hj => lv_isub C.ex C.bt hdg (kk p e R s m args below meth c H locs ls cells slots C P L V hk hj)
theorem kx_imul {x y : Int32} (hdg : decode I.2.1 pc = .ok (.imul, 1)) (kk : kx_V E I d mc ms Q k j (pc + 1) lv (.int (x * y) :: st) n h) : kx_V E I d mc ms Q k j pc lv (.int y :: .int x :: st) n h :=
  fun p e R s m args below meth c H locs ls cells slots C P L V hk hj => lv_imul C.ex C.bt hdg (kk p e R s m args below meth c H locs ls cells slots C P L V hk hj)
theorem kx_iand {x y : Int32} (hdg : decode I.2.1 pc = .ok (.iand, 1)) (kk : kx_V E I d mc ms Q k j (pc + 1) lv (.int (x &&& y) :: st) n h) : kx_V E I d mc ms Q k j pc lv (.int y :: .int x :: st) n h :=
  fun p e R s m args below meth c H locs ls cells slots C P L V hk hj => lv_iand C.ex C.bt hdg (kk p e R s m args below meth c H locs ls cells slots C P L V hk hj)
theorem kx_ior {x y : Int32} (hdg : decode I.2.1 pc = .ok (.ior, 1)) (kk : kx_V E I d mc ms Q k j (pc + 1) lv (.int (x ||| y) :: st) n h) : kx_V E I d mc ms Q k j pc lv (.int y :: .int x :: st) n h :=
  fun p e R s m args below meth c H locs ls cells slots C P L V hk hj => lv_ior C.ex C.bt hdg (kk p e R s m args below meth c H locs ls cells slots C P L V hk hj)
theorem kx_ixor {x y : Int32} (hdg : decode I.2.1 pc = .ok (.ixor, 1)) (kk : kx_V E I d mc ms Q k j (pc + 1) lv (.int (x ^^^ y) :: st) n h) : kx_V E I d mc ms Q k j pc lv (.int y :: .int x :: st) n h :=
  fun p e R s m args below meth c H locs ls cells slots C P L V hk hj => lv_ixor C.ex C.bt hdg (kk p e R s m args below meth c H locs ls cells slots C P L V hk hj)
theorem kx_ishl {x y : Int32} (hdg : decode I.2.1 pc = .ok (.ishl, 1)) (kk : kx_V E I d mc ms Q k j (pc + 1) lv (.int (x <<< (y &&& 31)) :: st) n h) : kx_V E I d mc ms Q k j pc lv (.int y :: .int x :: st) n h :=
  fun p e R s m args below meth c H locs ls cells slots C P L V hk hj => lv_ishl C.ex C.bt hdg (kk p e R s m args below meth c H locs ls cells slots C P L V hk hj)
theorem kx_ishr {x y : Int32} (hdg : decode I.2.1 pc = .ok (.ishr, 1)) (kk : kx_V E I d mc ms Q k j (pc + 1) lv (.int (x >>> (y &&& 31)) :: st) n h) : kx_V E I d mc ms Q k j pc lv (.int y :: .int x :: st) n h :=
  fun p e R s m args below meth c H locs ls cells slots C P L V hk hj => lv_ishr C.ex C.bt hdg (kk p e R s m args below meth c H locs ls cells slots C P L V hk hj)
theorem kx_ladd {x y : Int64} (hdg : decode I.2.1 pc = .ok (.ladd, 1)) (kk : kx_V E I d mc ms Q k j (pc + 1) lv (.long (x + y) :: st) n h) : kx_V E I d mc ms Q k j pc lv (.long y :: .long x :: st) n h :=
  fun p e R s m args below meth c H locs ls cells slots C P L V hk hj => lv_ladd C.ex C.bt hdg (kk p e R s m args below meth c H locs ls cells slots C P L V hk hj)
theorem kx_lsub {x y : Int64} (hdg : decode I.2.1 pc = .ok (.lsub, 1)) (kk : kx_V E I d mc ms Q k j (pc + 1) lv (.long (x - y) :: st) n h) : kx_V E I d mc ms Q k j pc lv (.long y :: .long x :: st) n h :=
  fun p e R s m args below meth c H locs ls cells slots C P L V hk hj => lv_lsub C.ex C.bt hdg (kk p e R s m args below meth c H locs ls cells slots C P L V hk hj)
theorem kx_land {x y : Int64} (hdg : decode I.2.1 pc = .ok (.land, 1)) (kk : kx_V E I d mc ms Q k j (pc + 1) lv (.long (x &&& y) :: st) n h) : kx_V E I d mc ms Q k j pc lv (.long y :: .long x :: st) n h :=
  fun p e R s m args below meth c H locs ls cells slots C P L V hk hj => lv_land C.ex C.bt hdg (kk p e R s m args below meth c H locs ls cells slots C P L V hk hj)
theorem kx_lor {x y : Int64} (hdg : decode I.2.1 pc = .ok (.lor, 1)) (kk : kx_V E I d mc ms Q k j (pc + 1) lv (.long (x ||| y) :: st) n h) : kx_V E I d mc ms Q k j pc lv (.long y :: .long x :: st) n h :=
  fun p e R s m args below meth c H locs ls cells slots C P L V hk hj => lv_lor C.ex C.bt hdg (kk p e R s m args below meth c H locs ls cells slots C P L V hk hj)
theorem kx_lrem {x y : Int64} (hdg : decode I.2.1 pc = .ok (.lrem, 1)) (hy : ¬ y = 0) (kk : kx_V E I d mc ms Q k j (pc + 1) lv (.long (x - x / y * y) :: st) n h) : kx_V E I d mc ms Q k j pc lv (.long y :: .long x :: st) n h :=
  fun p e R s m args below meth c H locs ls cells slots C P L V hk hj => lv_lrem C.ex C.bt hdg hy (kk p e R s m args below meth c H locs ls cells slots C P L V hk hj)
theorem kx_i2l {x : Int32} (hdg : decode I.2.1 pc = .ok (.i2l, 1)) (kk : kx_V E I d mc ms Q k j (pc + 1) lv (.long x.toInt64 :: st) n h) : kx_V E I d mc ms Q k j pc lv (.int x :: st) n h :=
  fun p e R s m args below meth c H locs ls cells slots C P L V hk hj => lv_i2l C.ex C.bt hdg rfl (kk p e R s m args below meth c H locs ls cells slots C P L V hk hj)
theorem kx_l2i {x : Int64} (hdg : decode I.2.1 pc = .ok (.l2i, 1)) (kk : kx_V E I d mc ms Q k j (pc + 1) lv (.int x.toInt32 :: st) n h) : kx_V E I d mc ms Q k j pc lv (.long x :: st) n h :=
  fun p e R s m args below meth c H locs ls cells slots C P L V hk hj => lv_l2i C.ex C.bt hdg rfl (kk p e R s m args below meth c H locs ls cells slots C P L V hk hj)
theorem kx_lshl {x : Int64} {y : Int32} (hdg : decode I.2.1 pc = .ok (.lshl, 1)) (kk : kx_V E I d mc ms Q k j (pc + 1) lv (.long (x <<< (y.toInt64 &&& 63)) :: st) n h) : kx_V E I d mc ms Q k j pc lv (.int y :: .long x :: st) n h :=
  fun p e R s m args below meth c H locs ls cells slots C P L V hk hj => lv_lshl C.ex C.bt hdg rfl (kk p e R s m args below meth c H locs ls cells slots C P L V hk hj)
theorem kx_lcmp {x y : Int64} (hdg : decode I.2.1 pc = .ok (.lcmp, 1)) (kk : kx_V E I d mc ms Q k j (pc + 1) lv (.int (lg_cmp x y) :: st) n h) : kx_V E I d mc ms Q k j pc lv (.long y :: .long x :: st) n h :=
  fun p e R s m args below meth c H locs ls cells slots C P L V hk hj => W.lcmp C.ex C.bt hdg (kk p e R s m args below meth c H locs ls cells slots C P L V hk hj)
theorem kx_dup {v : Value} (hdg : decode I.2.1 pc = .ok (.dup, 1)) (hv : v.category = 1) (kk : kx_V E I d mc ms Q k j (pc + 1) lv (v :: v :: st) n h) : kx_V E I d mc ms Q k j pc lv (v :: st) n h :=
  fun p e R s m args below meth c H locs ls cells slots C P L V hk hj => lv_dup C.ex C.bt hdg ((kx_v_cat _ v).trans hv) (kk p e R s m args below meth c H locs ls cells slots C P L V hk hj)
theorem kx_pop {v : Value} (hdg : decode I.2.1 pc = .ok (.pop, 1)) (hv : v.category = 1) (kk : kx_V E I d mc ms Q k j (pc + 1) lv st n h) : kx_V E I d mc ms Q k j pc lv (v :: st) n h :=
  fun p e R s m args below meth c H locs ls cells slots C P L V hk hj => lv_pop C.ex C.bt hdg ((kx_v_cat _ v).trans hv) (kk p e R s m args below meth c H locs ls cells slots C P L V hk hj)
theorem kx_dup_x1 {v w : Value} (hdg : decode I.2.1 pc = .ok (.dup_x1, 1)) (hv : v.category = 1) (hw : w.category = 1) (kk : kx_V E I d mc ms Q k j (pc + 1) lv (v :: w :: v :: st) n h) : kx_V E I d mc ms Q k j pc lv (v :: w :: st) n h :=
  fun p e R s m args below meth c H locs ls cells slots C P L V hk hj => lv_dup_x1 C.ex C.bt hdg ((kx_v_cat _ v).trans hv) ((kx_v_cat _ w).trans hw) (kk p e R s m args below meth c H locs ls cells slots C P L V hk hj)
theorem kx_dup2 {v w : Value} (hdg : decode I.2.1 pc = .ok (.dup2, 1)) (hv : v.category = 1) (hw : w.category = 1) (kk : kx_V E I d mc ms Q k j (pc + 1) lv (v :: w :: v :: w :: st) n h) : kx_V E I d mc ms Q k j pc lv (v :: w :: st) n h :=
  fun p e R s m args below meth c H locs ls cells slots C P L V hk hj => lv_dup2_11 C.ex C.bt hdg ((kx_v_cat _ v).trans hv) ((kx_v_cat _ w).trans hw) (kk p e R s m args below meth c H locs ls cells slots C P L V hk hj)
theorem kx_if_eq {x : Int32} {off : Int} {tgt : Nat} (hdg : decode I.2.1 pc = .ok (.ifCond .eq off, 3)) (ht : (pc : Int) + off = (tgt : Int)) (kt : x = 0 → kx_V E I d mc ms Q k j tgt lv st n h) (kf : ¬ x = 0 → kx_V E I d mc ms Q k j (pc + 3) lv st n h) : kx_V E I d mc ms Q k j pc lv (.int x :: st) n h :=
  fun p e R s m args below meth c H locs ls cells slots C P L V hk hj => lv_if_eq C.ex C.bt hdg ht (fun q => kt q p e R s m args below meth c H locs ls cells slots C P L V hk hj) (fun q => kf q p e R s m args below meth c H locs ls cells slots C P L V hk hj)
theorem kx_icmp_eq {x y : Int32} {off : Int} {tgt : Nat} (hdg : decode I.2.1 pc = .ok (.if_icmp .eq off, 3)) (ht : (pc : Int) + off = (tgt : Int)) (kt : x = y → kx_V E I d mc ms Q k j tgt lv st n h) (kf : ¬ x = y → kx_V E I d mc ms Q k j (pc + 3) lv st n h) : kx_V E I d mc ms Q k j pc lv (.int y :: .int x :: st) n h :=
  fun p e R s m args below meth c H locs ls cells slots C P L V hk hj => lv_icmp_eq C.ex C.bt hdg ht (fun q => kt q p e R s m args below meth c H locs ls cells slots C P L V hk hj) (fun q => kf q p e R s m args below meth c H locs ls cells slots C P L V hk hj)
theorem kx_if_ne {x : Int32} {off : Int} {tgt : Nat} (hdg : decode I.2.1 pc = .ok (.ifCond .ne off, 3)) (ht : (pc : Int) + off = (tgt : Int)) (kt : ¬ x = 0 → kx_V E I d mc ms Q k j tgt lv st n h) (kf : x = 0 → kx_V E I d mc ms Q k j (pc + 3) lv st n h) : kx_V E I d mc ms Q k j pc lv (.int x :: st) n h :=
  fun p e R s m args below meth c H locs ls cells slots C P L V hk hj => lv_if_ne C.ex C.bt hdg ht (fun q => kt q p e R s m args below meth c H locs ls cells slots C P L V hk hj) (fun q => kf q p e R s m args below meth c H locs ls cells slots C P L V hk hj)
theorem kx_icmp_ne {x y : Int32} {off : Int} {tgt : Nat} (hdg : decode I.2.1 pc = .ok (.if_icmp .ne off, 3)) (ht : (pc : Int) + off = (tgt : Int)) (kt : ¬ x = y → kx_V E I d mc ms Q k j tgt lv st n h) (kf : x = y → kx_V E I d mc ms Q k j (pc + 3) lv st n h) : kx_V E I d mc ms Q k j pc lv (.int y :: .int x :: st) n h :=
  fun p e R s m args below meth c H locs ls cells slots C P L V hk hj => lv_icmp_ne C.ex C.bt hdg ht (fun q => kt q p e R s m args below meth c H locs ls cells slots C P L V hk hj) (fun q => kf q p e R s m args below meth c H locs ls cells slots C P L V hk hj)
theorem kx_if_lt {x : Int32} {off : Int} {tgt : Nat} (hdg : decode I.2.1 pc = .ok (.ifCond .lt off, 3)) (ht : (pc : Int) + off = (tgt : Int)) (kt : x < 0 → kx_V E I d mc ms Q k j tgt lv st n h) (kf : ¬ x < 0 → kx_V E I d mc ms Q k j (pc + 3) lv st n h) : kx_V E I d mc ms Q k j pc lv (.int x :: st) n h :=
  fun p e R s m args below meth c H locs ls cells slots C P L V hk hj => lv_if_lt C.ex C.bt hdg ht (fun q => kt q p e R s m args below meth c H locs ls cells slots C P L V hk hj) (fun q => kf q p e R s m args below meth c H locs ls cells slots C P L V hk hj)
theorem kx_icmp_lt {x y : Int32} {off : Int} {tgt : Nat} (hdg : decode I.2.1 pc = .ok (.if_icmp .lt off, 3)) (ht : (pc : Int) + off = (tgt : Int)) (kt : x < y → kx_V E I d mc ms Q k j tgt lv st n h) (kf : ¬ x < y → kx_V E I d mc ms Q k j (pc + 3) lv st n h) : kx_V E I d mc ms Q k j pc lv (.int y :: .int x :: st) n h :=
  fun p e R s m args below meth c H locs ls cells slots C P L V hk hj => lv_icmp_lt C.ex C.bt hdg ht (fun q => kt q p e R s m args below meth c H locs ls cells slots C P L V hk hj) (fun q => kf q p e R s m args below meth c H locs ls cells slots C P L V hk hj)
theorem kx_if_ge {x : Int32} {off : Int} {tgt : Nat} (hdg : decode I.2.1 pc = .ok (.ifCond .ge off, 3)) (ht : (pc : Int) + off = (tgt : Int)) (kt : 0 ≤ x → kx_V E I d mc ms Q k j tgt lv st n h) (kf : ¬ 0 ≤ x → kx_V E I d mc ms Q k j (pc + 3) lv st n h) : kx_V E I d mc ms Q k j pc lv (.int x :: st) n h :=
  fun p e R s m args below meth c H locs ls cells slots C P L V hk hj => lv_if_ge C.ex C.bt hdg ht (fun q => kt q p e R s m args below meth c H locs ls cells slots C P L V hk hj) (fun q => kf q p e R s m args below meth c H locs ls cells slots C P L V hk hj)
theorem kx_icmp_ge {x y : Int32} {off : Int} {tgt : Nat} (hdg : decode I.2.1 pc = .ok (.if_icmp .ge off, 3)) (ht : (pc : Int) + off = (tgt : Int)) (kt : y ≤ x → kx_V E I d mc ms Q k j tgt lv st n h) (kf : ¬ y ≤ x → kx_V E I d mc ms Q k j (pc + 3) lv st n h) : kx_V E I d mc ms Q k j pc lv (.int y :: .int x :: st) n h :=
  fun p e R s m args below meth c H locs ls cells slots C P L V hk hj => lv_icmp_ge C.ex C.bt hdg ht (fun q => kt q p e R s m args below meth c H locs ls cells slots C P L V hk hj) (fun q => kf q p e R s m args below meth c H locs ls cells slots C P L V hk hj)
theorem kx_if_gt {x : Int32} {off : Int} {tgt : Nat} (hdg : decode I.2.1 pc = .ok (.ifCond .gt off, 3)) (ht : (pc : Int) + off = (tgt : Int)) (kt : 0 < x → kx_V E I d mc ms Q k j tgt lv st n h) (kf : ¬ 0 < x → kx_V E I d mc ms Q k j (pc + 3) lv st n h) : kx_V E I d mc ms Q k j pc lv (.int x :: st) n h :=
  fun p e R s m args below meth c H locs ls cells slots C P L V hk hj => lv_if_gt C.ex C.bt hdg ht (fun q => kt q p e R s m args below meth c H locs ls cells slots C P L V hk hj) (fun q => kf q p e R s m args below meth c H locs ls cells slots C P L V hk hj)
theorem kx_icmp_gt {x y : Int32} {off : Int} {tgt : Nat} (hdg : decode I.2.1 pc = .ok (.if_icmp .gt off, 3)) (ht : (pc : Int) + off = (tgt : Int)) (kt : y < x → kx_V E I d mc ms Q k j tgt lv st n h) (kf : ¬ y < x → kx_V E I d mc ms Q k j (pc + 3) lv st n h) : kx_V E I d mc ms Q k j pc lv (.int y :: .int x :: st) n h :=
  fun p e R s m args below meth c H locs ls cells slots C P L V hk hj => lv_icmp_gt C.ex C.bt hdg ht (fun q => kt q p e R s m args below meth c H locs ls cells slots C P L V hk hj) (fun q => kf q p e R s m args below meth c H locs ls cells slots C P L V hk hj)
theorem kx_if_le {x : Int32} {off : Int} {tgt : Nat} (hdg : decode I.2.1 pc = .ok (.ifCond .le off, 3)) (ht : (pc : Int) + off = (tgt : Int)) (kt : x ≤ 0 → kx_V E I d mc ms Q k j tgt lv st n h) (kf : ¬ x ≤ 0 → kx_V E I d mc ms Q k j (pc + 3) lv st n h) : kx_V E I d mc ms Q k j pc lv (.int x :: st) n h :=
  fun p e R s m args below meth c H locs ls cells slots C P L V hk hj => lv_if_le C.ex C.bt hdg ht (fun q => kt q p e R s m args below meth c H locs ls cells slots C P L V hk hj) (fun q => kf q p e R s m args below meth c H locs ls cells slots C P L V hk hj)
theorem kx_icmp_le {x y : Int32} {off : Int} {tgt : Nat} (hdg : decode I.2.1 pc = .ok (.if_icmp .le off, 3)) (ht : (pc : Int) + off = (tgt : Int)) (kt : x ≤ y → kx_V E I d mc ms Q k j tgt lv st n h) (kf : ¬ x ≤ y → kx_V E I d mc ms Q k j (pc + 3) lv st n h) : kx_V E I d mc ms Q k j pc lv (.int y :: .int x :: st) n h :=
  fun p e R s m args below meth c H locs ls cells slots C P L V hk hj => lv_icmp_le C.ex C.bt hdg ht (fun q => kt q p e R s m args below meth c H locs ls cells slots C P L V hk hj) (fun q => kf q p e R s m args below meth c H locs ls cells slots C P L V hk hj)
theorem kx_goto {off : Int} {tgt : Nat} (hdg : decode I.2.1 pc = .ok (.goto off, 3)) (ht : (pc : Int) + off = (tgt : Int)) (kk : kx_V E I d mc ms Q k j tgt lv st n h) : kx_V E I d mc ms Q k j pc lv st n h :=
  fun p e R s m args below meth c H locs ls cells slots C P L V hk hj => lv_goto C.ex C.bt hdg ht (kk p e R s m args below meth c H locs ls cells slots C P L V hk hj)
theorem kx_tsIn {dflt lo hi : Int} {offs : Array Int} {len : Nat} {x : Int32} {off : Int} {tgt : Nat} (hdg : decode I.2.1 pc = .ok (.tableswitch dflt lo hi offs, len)) (h1 : ¬ x.toInt < lo) (h2 : ¬ hi < x.toInt) (ho : offs[(x.toInt - lo).toNat]? = some off) (ht : (pc : Int) + off = (tgt : Int)) (kk : kx_V E I d mc ms Q k j tgt lv st n h) : kx_V E I d mc ms Q k j pc lv (.int x :: st) n h :=
  fun p e R s m args below meth c H locs ls cells slots C P L V hk hj => lv_tableIn C.ex C.bt hdg h1 h2 ho ht (kk p e R s m args below meth c H locs ls cells slots C P L V hk hj)
theorem kx_tsOut {dflt lo hi : Int} {offs : Array Int} {len : Nat} {x : Int32} {tgt : Nat} (hdg : decode I.2.1 pc = .ok (.tableswitch dflt lo hi offs, len)) (h1 : x.toInt < lo ∨ hi < x.toInt) (ht : (pc : Int) + dflt = (tgt : Int)) (kk : kx_V E I d mc ms Q k j tgt lv st n h) : kx_V E I d mc ms Q k j pc lv (.int x :: st) n h :=
  fun p e R s m args below meth c H locs ls cells slots C P L V hk hj => lv_tableOut C.ex C.bt hdg h1 ht (kk p e R s m args below meth c H locs ls cells slots C P L V hk hj)
theorem kx_lsw {dflt : Int} {ps : Array (Int × Int)} {len : Nat} {x : Int32} {off : Int} {tgt : Nat} (hdg : decode I.2.1 pc = .ok (.lookupswitch dflt ps, len)) (hp : (ps.toList.zip (ps.toList.drop 1)).all (fun (a, next) => a.1 < next.1) = true) (ho : Op.lookupswitch.offset ps.toList dflt x.toInt = off) (ht : (pc : Int) + off = (tgt : Int)) (kk : kx_V E I d mc ms Q k j tgt lv st n h) : kx_V E I d mc ms Q k j pc lv (.int x :: st) n h :=
  fun p e R s m args below meth c H locs ls cells slots C P L V hk hj => lv_lookup C.ex C.bt hdg hp ho ht (kk p e R s m args below meth c H locs ls cells slots C P L V hk hj)
theorem kx_topi {x : Int32} (kk : ∀ y : Int32, y = x → kx_V E I d mc ms Q k j pc lv (.int y :: st) n h) : kx_V E I d mc ms Q k j pc lv (.int x :: st) n h := kk x rfl
theorem kx_topl {x : Int64} (kk : ∀ y : Int64, y = x → kx_V E I d mc ms Q k j pc lv (.long y :: st) n h) : kx_V E I d mc ms Q k j pc lv (.long x :: st) n h := kk x rfl
theorem kx_eqi {x y : Int32} (e : x = y) (kk : kx_V E I d mc ms Q k j pc lv (.int y :: st) n h) : kx_V E I d mc ms Q k j pc lv (.int x :: st) n h := e ▸ kk
theorem kx_eql {x y : Int64} (e : x = y) (kk : kx_V E I d mc ms Q k j pc lv (.long y :: st) n h) : kx_V E I d mc ms Q k j pc lv (.long x :: st) n h := e ▸ kk
theorem kx_eqh {h' : kx_H} (e : h = h') (kk : kx_V E I d mc ms Q k j pc lv st n h') : kx_V E I d mc ms Q k j pc lv st n h := e ▸ kk
theorem kx_eqpc {pc' : Nat} (e : pc = pc') (kk : kx_V E I d mc ms Q k j pc' lv st n h) : kx_V E I d mc ms Q k j pc lv st n h := e ▸ kk
theorem kx_sub (ks : List Nat) {lv' : List (Nat × Value)} (hl : lv_pick lv ks = lv') (kk : kx_V E I d mc ms Q k j pc lv' st n h) : kx_V E I d mc ms Q k j pc lv st n h := by
  intro p e R s m args below meth c H locs ls cells slots C P L V hk hj
  refine kk p e R s m args below meth c H locs ls cells slots C P L ⟨V.1, V.2.1, fun q hq => ?_⟩ hk hj
  obtain ⟨q0, h0, rfl⟩ := List.mem_map.mp hq
  rw [← hl] at h0
  obtain ⟨i, -, hi⟩ := List.mem_filterMap.mp h0
  exact V.2.2 _ (List.mem_map.mpr ⟨q0, List.mem_of_getElem? hi, rfl⟩)
theorem kx_more {k' j' : Nat} (h1 : k' ≤ k) (h2 : j' ≤ j) (kk : kx_V E I d mc ms Q k' j' pc lv st n h) : kx_V E I d mc ms Q k j pc lv st n h :=
  fun p e R s m args below meth c H locs ls cells slots C P L V hk hj => kk p e R s m args below meth c H locs ls cells slots C P L V (by omega) (by omega)
theorem kx_iret {x : Int32} (hr : I.2.2.2.1 = some .int) (hdg : decode I.2.1 pc = .ok (.ireturn, 1)) (hq : Q (Sum.inl (some (.int x))) n h) : kx_V E I d mc ms Q k j pc lv [.int x] n h := by
  intro p e R s m args below meth c H locs ls cells slots C P L V hk hj
  refine W.widen (k := mc) (n := ms) (by omega) (by omega) ?_
  refine kx_W_mono ?_ (W.iret (v := x) (Qc := fun _ _ o t => o = .returned (some (.int x)) ∧ t.heap = H) (free := fun q => kx_B E ≤ q) C.ex C.bt (C.rt.trans hr) (fun t ht hW => ⟨rfl, ht⟩) L hdg (hlocks := C.lk))
  rintro t ⟨o, h1, h2, ⟨h3, h4⟩, L', ⟨-, hW, hs⟩, hf⟩
  exact ⟨o, h1, h2, hW, ⟨L', hs, hf⟩, Sum.inl (some (.int x)), n, h, by rw [h4]; exact P, h3, hq⟩
theorem kx_lret {x : Int64} (hr : I.2.2.2.1 = some .long) (hdg : decode I.2.1 pc = .ok (.lreturn, 1)) (hq : Q (Sum.inl (some (.long x))) n h) : kx_V E I d mc ms Q k j pc lv [.long x] n h := by
  intro p e R s m args below meth c H locs ls cells slots C P L V hk hj
  refine W.widen (k := mc) (n := ms) (by omega) (by omega) ?_
  refine kx_W_mono ?_ (W.lret (v := x) (Qc := fun _ _ o t => o = .returned (some (.long x)) ∧ t.heap = H) (free := fun q => kx_B E ≤ q) C.ex C.bt (C.rt.trans hr) (fun t ht hW => ⟨rfl, ht⟩) L hdg (hlocks := C.lk))
  rintro t ⟨o, h1, h2, ⟨h3, h4⟩, L', ⟨-, hW, hs⟩, hf⟩
  exact ⟨o, h1, h2, hW, ⟨L', hs, hf⟩, Sum.inl (some (.long x)), n, h, by rw [h4]; exact P, h3, hq⟩
theorem kx_zret {x : Int32} (hr : I.2.2.2.1 = some .boolean) (hx : narrow .boolean (.int x) = .int x) (hdg : decode I.2.1 pc = .ok (.ireturn, 1)) (hq : Q (Sum.inl (some (.int x))) n h) : kx_V E I d mc ms Q k j pc lv [.int x] n h := by
  intro p e R s m args below meth c H locs ls cells slots C P L V hk hj
  refine W.widen (k := mc) (n := ms) (by omega) (by omega) ?_
  refine kx_W_mono ?_ (W.zret (v := x) (Qc := fun _ _ o t => o = .returned (some (.int x)) ∧ t.heap = H) (free := fun q => kx_B E ≤ q) C.ex C.bt (C.rt.trans hr) hx (fun t ht hW => ⟨rfl, ht⟩) L hdg (hlocks := C.lk))
  rintro t ⟨o, h1, h2, ⟨h3, h4⟩, L', ⟨-, hW, hs⟩, hf⟩
  exact ⟨o, h1, h2, hW, ⟨L', hs, hf⟩, Sum.inl (some (.int x)), n, h, by rw [h4]; exact P, h3, hq⟩
theorem kx_vret (hr : I.2.2.2.1 = none) (hdg : decode I.2.1 pc = .ok (.return_, 1)) (hq : Q (Sum.inl none) n h) : kx_V E I d mc ms Q k j pc lv [] n h := by
  intro p e R s m args below meth c H locs ls cells slots C P L V hk hj
  refine W.widen (k := mc) (n := ms) (by omega) (by omega) ?_
  refine kx_W_mono ?_ (W.vret (Qc := fun _ _ o t => o = .returned none ∧ t.heap = H) (free := fun q => kx_B E ≤ q) C.ex C.bt (C.rt.trans hr) (fun t ht hW => ⟨rfl, ht⟩) L hdg (hlocks := C.lk))
  rintro t ⟨o, h1, h2, ⟨h3, h4⟩, L', ⟨-, hW, hs⟩, hf⟩
  exact ⟨o, h1, h2, hW, ⟨L', hs, hf⟩, Sum.inl none, n, h, by rw [h4]; exact P, h3, hq⟩
end KXR
def kx_fl (own : String) (index ci kf : Nat) : Prop := ∃ (C : String) (T : u_T) (N : Nat), kx_cls[ci]? = some (C, T, N) ∧ kf < N ∧ (∀ w ∈ u_ws C T N, w ∈ kx_tb) ∧ Cond.fieldLink own index (T kf).1 (T kf).2.1 (T kf).2.2.1 ∈ kx_tb
def kx_fw (own nm : String) (ci kf : Nat) (ty : FieldType) : Prop := ∃ (C : String) (T : u_T) (N : Nat) (ty0 : Nat → FieldType), kx_cls[ci]? = some (C, T, N) ∧ parseFieldDescriptor (T kf).2.2.1 = some ty ∧ (∀ k, k < N → parseFieldDescriptor (T k).2.2.1 = some (ty0 k)) ∧ (∀ a, a < N → ∀ b, b < N → a ≠ b → (T a).2.1 ≠ (T b).2.1) ∧ ((T kf).2.2.2 = false ∨ ((T kf).2.2.2 = true ∧ nm = "<init>" ∧ (T kf).1 = own))
theorem kx_getD (B : Nat) (fs : List Value) (k : Nat) : (fs.map (kx_v B)).getD k .null = kx_v B (fs.getD k .null) := by
  simp only [List.getD_eq_getElem?_getD, List.getElem?_map]
  cases fs[k]? <;> rfl
theorem kx_P1 {E : kx_E} {n : Nat} {h : kx_H} {H : Heap} (P : kx_P E n h H) {i ci : Nat} {fs : List Value} (hi : h i = some (kx_co ci fs)) : va_P E.2.2.1 kx_cls [(kx_B E + i, Sum.inr (ci, kx_s E fs))] H := by
  intro k q hk
  have hz : k < 1 := (List.getElem?_eq_some_iff.mp hk).1
  rw [show k = 0 by omega] at hk
  cases hk
  obtain ⟨r, h1, h2⟩ := P.2.2.2 i _ hi
  exact ⟨r, h1, h2.to (fun k _ => (kx_getD _ fs k).symm)⟩
theorem kx_recv {E : kx_E} {I : kx_I} {d mc ms : Nat} {p : Program} {e : Env} {R : Room} {s : State} {m : MethodId} {args : Array Value} {meth : Method} {c : Code} (C : kx_C E I d mc ms p e R s m args meth c) {n : Nat} {h : kx_H} {H : Heap} (P : kx_P E n h H) {i ci : Nat} {fs : List Value} (hi : h i = some (kx_co ci fs)) {q : vw_C} (hc : kx_cls[ci]? = some q) :
    ∃ cell : Cell, H[kx_B E + i]? = some cell ∧ cell.vm.isStatics = false ∧ s.vm.findClass q.1 = some cell.cls := va_recv C.k (kx_P1 P hi) hc (q0 := 0) rfl
def kx_ix (x : Int32) (i N : Nat) : Prop := x = nI i ∧ i < N ∧ N < 2 ^ 31
theorem kx_ix.cl {x : Int32} {i N : Nat} (h : kx_ix x i N) : x.toNatClampNeg = i := by
  rw [h.1]; exact nI_clamp (by have := h.2.1; have := h.2.2; omega)
theorem kx_ix.ok {x : Int32} {i N : Nat} (h : kx_ix x i N) : ¬ (x < 0 ∨ N ≤ x.toNatClampNeg) := by
  rw [h.1]; exact nI_in h.2.1 h.2.2
section KXD
variable {E : kx_E} {I : kx_I} {d mc ms : Nat} {Q : kx_Q} {k j pc : Nat} {lv : List (Nat × Value)} {st : List Value} {n : Nat} {h : kx_H}
theorem kx_get {index i ci kf : Nat} {fs : List Value} {v : Value} (hdg : decode I.2.1 pc = .ok (.getfield index, 3)) (hf : kx_fl I.1 index ci kf) (hi : h i = some (kx_co ci fs)) (hv : fs[kf]? = some v)
    (kk : kx_V E I d mc ms Q k j (pc + 3) lv (v :: st) n h) : kx_V E I d mc ms Q k j pc lv (.ref i :: st) n h := by
  intro p e R s m args below meth c H locs ls cells slots C P L V hk hj
  obtain ⟨C', T, N, hc, hkN, hin, hlink⟩ := hf
  exact va_get (C := C') (T := T) (N := N) (ci := ci) (v := kx_v (kx_B E) v) (Ts := kx_tb) C.ex C.bt (fun w hw => C.w hw) hin C.own C.k (kx_P1 P hi) 0 rfl hc kf hkN (C.w hlink) (fun _ q => q) (by rw [List.getElem?_map, hv]; rfl) hdg
    (kk p e R s m args below meth c H locs ls cells slots C P L V hk hj)
theorem kx_put {index i ci kf : Nat} {fs : List Value} {v : Value} {ty : FieldType} (hdg : decode I.2.1 pc = .ok (.putfield index, 3)) (hf : kx_fl I.1 index ci kf) (hw : kx_fw I.1 I.2.2.2.2.2 ci kf ty) (hi : h i = some (kx_co ci fs)) (hn : ∀ B, narrow ty (kx_v B v) = kx_v B v) (hfit : ∀ B, fits ty (kx_v B v) = true) (hl : kf < fs.length)
    (kk : kx_V E I d mc ms Q k j (pc + 3) lv st n (kx_set h i (kx_co ci (fs.set kf v)))) : kx_V E I d mc ms Q k j pc lv (v :: .ref i :: st) n h := by
  intro p e R s m args below meth c H locs ls cells slots C P L V hk hj
  obtain ⟨C', T, N, hc, hkN, hin, hlink⟩ := hf
  obtain ⟨C2, T2, N2, ty0, hc2, hd, hty, hnm, hfin⟩ := hw
  cases hc.symm.trans hc2
  obtain ⟨r, h1, cell, q1, q2, q3, q4⟩ := P.2.2.2 i _ hi
  have hr : r = (C', T, N) := Option.some.inj (h1.symm.trans hc)
  subst hr
  have hap := va_apart (own := I.1) (Ts := kx_tb) (fun w hw => C.w hw) hin ty0 hty hnm C.k hc
  obtain ⟨hS, hfc, kC, hkC, hkind⟩ := C.k.1 ci _ hc
  obtain ⟨cf, kf', fi, f, hif, hsl⟩ := hS kf hkN
  have hlay := C.w (hin _ (u_in_lay hkN))
  have hst := (u_facts hfc hkC (u_lays (ws := kx_tb) (fun w hw => C.w hw) hin hkN) hif).1
  have hbig : ∀ (H' : Heap), H'[kx_B E + i]? = some (cell.setSlot f.slot (kx_v (kx_B E) v)) → H'.size = H.size → (∀ q, q ≠ kx_B E + i → H'[q]? = H[q]?) → W p E.1 e R s m args below meth c H' (locs ++ [⟨kx_B E + i, f.slot⟩]) cells slots (kx_Z E mc ms Q below s) (F0 m (pc + 3) ls (kx_s E st)) := by
    intro H' e1 e2 e3
    refine kk p e R s m args below meth c H' _ ls cells slots C (P.set e2 e3 ⟨_, hc, t_OB.to (V := updV (fun k => kx_v (kx_B E) (fs.getD k .null)) kf (kx_v (kx_B E) v)) ⟨_, e1, q2, q3, ?_⟩ (fun z _ => ?_)⟩) (fun q hq => ?_) V hk hj
    · rw [hsl]
      exact t_set q4 hap hkN (kx_v (kx_B E) v)
    · simp only [updV]
      by_cases hz : z = kf
      · subst hz
        rw [if_pos rfl, List.getD_eq_getElem?_getD, List.getElem?_set_self hl]
        rfl
      · rw [if_neg hz]
        congr 1
        rw [List.getD_eq_getElem?_getD, List.getD_eq_getElem?_getD, List.getElem?_set_ne (Ne.symm hz)]
    · rcases List.mem_append.mp hq with g | g
      · exact L q g
      · rw [List.mem_singleton.mp g]
        exact Nat.le_add_right _ _
  rcases hfin with hfin | ⟨hfin, hini, hdecl⟩
  · unfold u_lay at hlay
    rw [if_neg (by rw [hfin]; decide)] at hlay
    have h6 := u_store hfc hkC hkind hlay hif hd (hn (kx_B E)) (hfit (kx_B E))
    exact W.putK C.ex C.bt (f := f) ⟨C.own, C.w hlink, ⟨_, _, _, hif⟩, hst⟩ (by rw [q2]; exact h6) q1 q3 (by rw [hsl]; exact k2_hasslot (q4 kf hkN)) rfl rfl hdg hbig
  · unfold u_lay at hlay
    rw [if_pos hfin] at hlay
    have hcf : m.cls = cf := by
      obtain ⟨_, _, c', _, _, _, -, -, hf', -, -, -, hown2, -⟩ := Cond.laysFinal_spec hlay
      have e1 : c' = cf := by have := hif.symm.trans hf'; simp at this; exact this.1.symm
      rw [hdecl] at hown2
      rw [← e1]; exact Option.some.inj (C.own.symm.trans hown2)
    have h6 := u_fits hfc hkC hkind (Or.inr hlay) hif hd (hn (kx_B E)) (hfit (kx_B E))
    exact W.putFinK C.ex C.bt C.own (C.w hlink) hif hst hcf (C.nm.trans hini) (by rw [q2]; exact h6) q1 q3 (by rw [hsl]; exact k2_hasslot (q4 kf hkN)) rfl rfl hdg hbig
theorem kx_iald {i N ix : Nat} {f : Nat → Int32} {x : Int32} (hdg : decode I.2.1 pc = .ok (.iaload, 1)) (hi : h i = some (kx_ci N f)) (hx : kx_ix x ix N)
    (kk : kx_V E I d mc ms Q k j (pc + 1) lv (.int (f ix) :: st) n h) : kx_V E I d mc ms Q k j pc lv (.int x :: .ref i :: st) n h := by
  intro p e R s m args below meth c H locs ls cells slots C P L V hk hj
  exact W.iald (v := .int (f ix)) C.ex C.bt (P.2.2.2 i _ hi) ((C.k.2 0 _ rfl).1 N (fun j => .int (f j))) (fun q => by cases q) (by rw [arrV_size]; exact hx.ok) (by rw [hx.cl, arrV_read _ _ hx.2.1]) rfl rfl hdg
    (kk p e R s m args below meth c H locs ls cells slots C P L V hk hj)
theorem kx_lald {i N ix : Nat} {f : Nat → Int64} {x : Int32} (hdg : decode I.2.1 pc = .ok (.laload, 1)) (hi : h i = some (kx_cl N f)) (hx : kx_ix x ix N)
    (kk : kx_V E I d mc ms Q k j (pc + 1) lv (.long (f ix) :: st) n h) : kx_V E I d mc ms Q k j pc lv (.int x :: .ref i :: st) n h := by
  intro p e R s m args below meth c H locs ls cells slots C P L V hk hj
  exact W.lald (v := .long (f ix)) C.ex C.bt (P.2.2.2 i _ hi) ((C.k.2 1 _ rfl).1 N (fun j => .long (f j))) (fun q => by cases q) (by rw [arrV_size]; exact hx.ok) (by rw [hx.cl, arrV_read _ _ hx.2.1]) rfl rfl hdg
    (kk p e R s m args below meth c H locs ls cells slots C P L V hk hj)
theorem kx_aald {i t N ix b : Nat} {f : Nat → Option Nat} {x : Int32} (hdg : decode I.2.1 pc = .ok (.aaload, 1)) (ht : ∃ Cn, ∀ aC, (kx_tys aC)[2 + t]? = some (aC (2 + t), .object Cn)) (hi : h i = some (kx_cq t N f)) (hx : kx_ix x ix N) (hf : f ix = some b)
    (kk : kx_V E I d mc ms Q k j (pc + 1) lv (.ref b :: st) n h) : kx_V E I d mc ms Q k j pc lv (.int x :: .ref i :: st) n h := by
  intro p e R s m args below meth c H locs ls cells slots C P L V hk hj
  obtain ⟨Cn, ht⟩ := ht
  exact W.aald (v := .ref (kx_B E + b)) (ty := .object Cn) C.ex C.bt (P.2.2.2 i _ hi) ((C.k.2 (2 + t) _ (ht E.2.2.2)).1 N (fun j => kx_rf (kx_B E) (f j))) rfl (fun q => by cases q) (by rw [arrV_size]; exact hx.ok) (by rw [hx.cl, arrV_read _ _ hx.2.1]; show some (kx_rf (kx_B E) (f ix)) = _; rw [hf]; rfl) rfl rfl hdg
    (kk p e R s m args below meth c H locs ls cells slots C P L V hk hj)
theorem kx_locs {E : kx_E} {locs : List Loc} {a z : Nat} (L : ∀ q ∈ locs, kx_B E ≤ q.base) : ∀ q ∈ locs ++ [(⟨kx_B E + a, z⟩ : Loc)], kx_B E ≤ q.base := by
  intro q hq
  rcases List.mem_append.mp hq with g | g
  · exact L q g
  · rw [List.mem_singleton.mp g]
    exact Nat.le_add_right _ _
theorem kx_iast {i N ix : Nat} {f : Nat → Int32} {x y : Int32} (hdg : decode I.2.1 pc = .ok (.iastore, 1)) (hi : h i = some (kx_ci N f)) (hx : kx_ix x ix N)
    (kk : kx_V E I d mc ms Q k j (pc + 1) lv st n (kx_set h i (kx_ci N (upd f ix y)))) : kx_V E I d mc ms Q k j pc lv (.int y :: .int x :: .ref i :: st) n h := by
  intro p e R s m args below meth c H locs ls cells slots C P L V hk hj
  refine W.iast C.ex C.bt (P.2.2.2 i _ hi) ((C.k.2 0 _ rfl).1 N (fun j => .int (f j))) (fun q => by cases q) (by rw [arrV_size]; exact hx.ok) rfl rfl hdg fun H1 e z oq => ?_
  refine kk p _ R s m args below meth c H1 _ ls cells slots C (P.set z oq ?_) (kx_locs L) V hk hj
  show H1[_]? = some (arrV _ _ _)
  rw [e, arrV_store, hx.cl]
  congr 2
  funext q
  by_cases hq : q = ix
  · subst hq
    simp [updV, upd]
  · simp [updV, upd, hq]
theorem kx_last {i N ix : Nat} {f : Nat → Int64} {x : Int32} {y : Int64} (hdg : decode I.2.1 pc = .ok (.lastore, 1)) (hi : h i = some (kx_cl N f)) (hx : kx_ix x ix N)
    (kk : kx_V E I d mc ms Q k j (pc + 1) lv st n (kx_set h i (kx_cl N (vp_updL f ix y)))) : kx_V E I d mc ms Q k j pc lv (.long y :: .int x :: .ref i :: st) n h := by
  intro p e R s m args below meth c H locs ls cells slots C P L V hk hj
  refine W.last C.ex C.bt (P.2.2.2 i _ hi) ((C.k.2 1 _ rfl).1 N (fun j => .long (f j))) (fun q => by cases q) (by rw [arrV_size]; exact hx.ok) rfl rfl hdg fun H1 e z oq => ?_
  refine kk p _ R s m args below meth c H1 _ ls cells slots C (P.set z oq ?_) (kx_locs L) V hk hj
  show H1[_]? = some (arrV _ _ _)
  rw [e, arrV_store, hx.cl]
  congr 2
  funext q
  by_cases hq : q = ix
  · subst hq
    simp [updV, vp_updL]
  · simp [updV, vp_updL, hq]
theorem kx_aast {i t N ix b ci : Nat} {f : Nat → Option Nat} {x : Int32} {fs : List Value} (hdg : decode I.2.1 pc = .ok (.aastore, 1)) (ht : ∃ r : vw_C, kx_cls[ci]? = some r ∧ ∀ aC, (kx_tys aC)[2 + t]? = some (aC (2 + t), .object r.1)) (hi : h i = some (kx_cq t N f)) (hb : h b = some (kx_co ci fs)) (hx : kx_ix x ix N)
    (kk : kx_V E I d mc ms Q k j (pc + 1) lv st n (kx_set h i (kx_cq t N (va_up f ix (some b))))) : kx_V E I d mc ms Q k j pc lv (.ref b :: .int x :: .ref i :: st) n h := by
  intro p e R s m args below meth c H locs ls cells slots C P L V hk hj
  obtain ⟨r, hc, ht⟩ := ht
  obtain ⟨r', h1, cellV, g1, g2, g3, -⟩ := P.2.2.2 b _ hb
  have hcls := (C.k.1 ci r hc).2
  obtain ⟨kA, comp, k1, k2, k3, -⟩ := (C.k.2 (2 + t) _ (ht E.2.2.2)).2
  have hcomp : comp = E.2.2.1.1 ci := Option.some.inj (k3.symm.trans hcls.1)
  subst hcomp
  obtain ⟨kC, hkC, -⟩ := hcls.2
  refine W.aast C.ex C.bt (P.2.2.2 i _ hi) (fun q h => by cases h) (fun h => by cases h) k1 k2 rfl hkC ⟨fun q => hx.ok (Or.inl q), by rw [arrV_size, hx.cl]; exact hx.2.1⟩ g1 (fun q h => by rw [g3] at h; cases h) (by rw [g2]; exact hkC) (by rw [g2]; exact va_assign hcls) rfl rfl hdg fun H1 e z oq => ?_
  refine kk p _ R s m args below meth c H1 _ ls cells slots C (P.set z oq ?_) (kx_locs L) V hk hj
  show H1[_]? = some (arrV _ _ _)
  rw [e, arrV_store, hx.cl]
  congr 2
  funext q
  by_cases hq : q = ix
  · subst hq
    simp [updV, va_up, kx_rf]
  · simp [updV, va_up, hq]
theorem kx_alen {i N : Nat} {f : Nat → Int32} (hdg : decode I.2.1 pc = .ok (.arraylength, 1)) (hi : h i = some (kx_ci N f))
    (kk : kx_V E I d mc ms Q k j (pc + 1) lv (.int (nI N) :: st) n h) : kx_V E I d mc ms Q k j pc lv (.ref i :: st) n h := by
  intro p e R s m args below meth c H locs ls cells slots C P L V hk hj
  exact W.alen (n := nI N) C.ex C.bt (P.2.2.2 i _ hi) ((C.k.2 0 _ rfl).1 N (fun j => .int (f j))) (by rw [arrV_size]; rfl) rfl rfl hdg
    (kk p e R s m args below meth c H locs ls cells slots C P L V hk hj)
def kx_nw (own : String) (index ci N : Nat) (fs : List Value) : Prop := ∃ (C : String) (T : u_T) (ty : Nat → FieldType), kx_cls[ci]? = some (C, T, N) ∧ (∀ w ∈ u_ws C T N, w ∈ kx_tb) ∧ (∀ k, k < N → parseFieldDescriptor (T k).2.2.1 = some (ty k)) ∧ Cond.classLink own index C ∈ kx_tb ∧ Cond.instantiable C N ∈ kx_tb ∧ Cond.initialized C ∈ kx_tb ∧ (∀ (B : Nat) (z : Nat), z < N → defaultValue (ty z) = kx_v B (fs.getD z .null))
theorem kx_new {index ci N : Nat} {fs : List Value} (hdg : decode I.2.1 pc = .ok (.new index, 3)) (hw : kx_nw I.1 index ci N fs)
    (kk : kx_V E I d mc ms Q k j (pc + 3) lv (.ref n :: st) (n + 1) (kx_set h n (kx_co ci fs))) : kx_V E I d mc ms Q (k + 1) (j + N) pc lv st n h := by
  intro p e R s m args below meth c H locs ls cells slots C P L V hk hj
  obtain ⟨C', T, ty, hc, hin, hty, w1, w2, w3, hfs⟩ := hw
  have hKn := C.k.1 ci _ hc
  have hsz : H.size = kx_B E + n := P.1
  refine W.newcK C.ex C.bt C.own (C.w w1) (C.w w2) (C.w w3) rfl hdg (by rw [C.rc]; omega) (by rw [C.rs]; omega) hKn.2.1 hsz fun H1 kC hkC e1 z1 o1 => ?_
  refine kk p _ R s m args below meth c H1 locs ls (cells + 1) (slots + N) C (P.push (by rw [z1, hsz]) (fun q hq => o1 q (by omega)) ⟨_, hc, (u_born (ws := kx_tb) ty (fun w hw => C.w hw) hin hKn hkC e1 hty).to (fun z hz => hfs _ z hz)⟩) L V (by omega) (by omega)
theorem kx_newi {N : Nat} {x : Int32} (hdg : decode I.2.1 pc = .ok (.newarray .int, 2)) (hw : Cond.arrayClass .int ∈ kx_tb) (hx : x = nI N) (hN : N ≤ 100000)
    (kk : kx_V E I d mc ms Q k j (pc + 2) lv (.ref n :: st) (n + 1) (kx_set h n (kx_ci N (fun _ => 0)))) : kx_V E I d mc ms Q (k + 1) (j + N) pc lv (.int x :: st) n h := by
  intro p e R s m args below meth c H locs ls cells slots C P L V hk hj
  subst hx
  have hsz : H.size = kx_B E + n := P.1
  refine va_newaK (atype := .int) C.ex C.bt (C.w hw) rfl hdg rfl (nI_pos (by omega)) (nI_clamp (by omega)) (by show N * 4 ≤ _; omega) (by rw [C.rc]; omega) (by rw [C.rs]; omega) hsz fun H1 cA e1 z1 o1 hA hnm => ?_
  have hcA : cA = E.2.2.2 0 := Option.some.inj (hnm.symm.trans (C.k.2 0 _ rfl).2)
  subst hcA
  exact kk p _ R s m args below meth c H1 locs ls (cells + 1) (slots + N) C (P.push (by rw [z1, hsz]) (fun q hq => o1 q (by omega)) e1) L V (by omega) (by omega)
theorem kx_newl {N : Nat} {x : Int32} (hdg : decode I.2.1 pc = .ok (.newarray .long, 2)) (hw : Cond.arrayClass .long ∈ kx_tb) (hx : x = nI N) (hN : N ≤ 100000)
    (kk : kx_V E I d mc ms Q k j (pc + 2) lv (.ref n :: st) (n + 1) (kx_set h n (kx_cl N (fun _ => 0)))) : kx_V E I d mc ms Q (k + 1) (j + N) pc lv (.int x :: st) n h := by
  intro p e R s m args below meth c H locs ls cells slots C P L V hk hj
  subst hx
  have hsz : H.size = kx_B E + n := P.1
  refine va_newaK (atype := .long) C.ex C.bt (C.w hw) rfl hdg rfl (nI_pos (by omega)) (nI_clamp (by omega)) (by show N * 8 ≤ _; omega) (by rw [C.rc]; omega) (by rw [C.rs]; omega) hsz fun H1 cA e1 z1 o1 hA hnm => ?_
  have hcA : cA = E.2.2.2 1 := Option.some.inj (hnm.symm.trans (C.k.2 1 _ rfl).2)
  subst hcA
  exact kk p _ R s m args below meth c H1 locs ls (cells + 1) (slots + N) C (P.push (by rw [z1, hsz]) (fun q hq => o1 q (by omega)) e1) L V (by omega) (by omega)
theorem kx_newq {index t N : Nat} {x : Int32} {Cn : String} (hdg : decode I.2.1 pc = .ok (.anewarray index, 3)) (h1 : Cond.classLink I.1 index Cn ∈ kx_tb) (h2 : Cond.arrayOver (.object Cn) ∈ kx_tb) (ht : ∀ aC, (kx_tys aC)[2 + t]? = some (aC (2 + t), .object Cn)) (hx : x = nI N) (hN : N ≤ 100000)
    (kk : kx_V E I d mc ms Q k j (pc + 3) lv (.ref n :: st) (n + 1) (kx_set h n (kx_cq t N (fun _ => none)))) : kx_V E I d mc ms Q (k + 1) (j + N) pc lv (.int x :: st) n h := by
  intro p e R s m args below meth c H locs ls cells slots C P L V hk hj
  subst hx
  have hsz : H.size = kx_B E + n := P.1
  have hcl : (nI N).toNatClampNeg = N := nI_clamp (by omega)
  refine W.anew C.ex C.bt C.own (C.w h1) (C.w h2) rfl hdg rfl (nI_pos (by omega)) (by rw [hcl]; omega) (by rw [C.rc]; omega) (by rw [C.rs, hcl]; omega) fun cA kA comp f1 f2 f3 f4 => ?_
  obtain ⟨kA', comp', k1, k2, k3, k4⟩ := (C.k.2 (2 + t) _ (ht E.2.2.2)).2
  have hcA : cA = E.2.2.2 (2 + t) := Option.some.inj (f1.symm.trans k4)
  subst hcA
  rw [hsz, hcl]
  refine kk p _ R s m args below meth c _ locs ls (cells + 1) (slots + N) C (P.push (by simp) (fun q hq => ?_) ?_) L V (by omega) (by omega)
  · rw [Array.getElem?_push, if_neg (Nat.ne_of_lt hq)]
  · show (H.push _)[kx_B E + n]? = some (arrV _ _ _)
    rw [← hsz, Array.getElem?_push_size]
    show some _ = some (arrV (E.2.2.2 (2 + t)) N (fun _ => Value.null))
    rw [← arrV_new]
theorem kx_obj {index i : Nat} (hdg : decode I.2.1 pc = .ok (.invokespecial index, 3)) (h1 : Cond.methodLink I.1 index Lib.objectInit ∈ kx_tb) (h2 : Cond.instanceMethod Lib.objectInit ∈ kx_tb) (h3 : Cond.code Lib.objectInit ⟨#[0xb1]⟩ 1 none ∈ kx_tb) (hd : 1 ≤ d) (hs : (st.map fun v => v.category).sum ≤ 8)
    (kk : kx_V E I d mc ms Q k j (pc + 3) lv st n h) : kx_V E I d mc ms Q k j pc lv (.ref i :: st) n h := by
  intro p e R s m args below meth c H locs ls cells slots C P L V hk hj
  have hc : ((List.map (kx_v (kx_B E)) st).map fun v => v.category).sum = _ := kx_s_cat E st
  have hl := C.lc
  have hf := C.fr
  exact W.objInit C.ex C.bt C.own (C.w h1) (C.w h2) (C.w h3) rfl (V.1.trans C.ml.symm) rfl hdg (by omega) (by show 2 * 0 + ((List.map (kx_v (kx_B E)) st).map fun v => v.category).sum + 12 ≤ _; omega)
    (kk p e R s m args below meth c H locs ls cells slots C P L V hk hj)
end KXD
end
section
def kx_kw (kw : Cond) (y : MethodName) (I : kx_I) : Prop := ∀ (a : Array Value) (U : State) (m : MethodId), kw.before a U = true → U.methodNamed? y = some m →
  ∃ meth c, U.vm.method? m = some meth ∧ meth.code = some c ∧ c.code = I.2.1 ∧ c.maxLocals = I.2.2.1 ∧ meth.sig.returnType = I.2.2.2.1 ∧ meth.locks = false ∧ c.exceptionTable.toList.map (fun x => (x.startPc, x.endPc, x.handlerPc, x.catchType)) = I.2.2.2.2.1 ∧ parseMethodDescriptor y.desc = some meth.sig
theorem kx_kw0 {y : MethodName} {own nm : String} {cc : ByteArray} {nL : Nat} {rt : Option FieldType} : kx_kw (.code y cc nL rt) y (own, cc, nL, rt, [], nm) := by
  intro a U m h hn
  obtain ⟨meth, c, h1, h2, h3, h4, h5, h6, h7, h8⟩ := Cond.code_spec hn h
  exact ⟨meth, c, h1, h2, h3, h4, h5, h6, by rw [Array.isEmpty_iff.mp h7]; rfl, h8⟩
theorem kx_kwH {y : MethodName} {own nm : String} {cc : ByteArray} {nL : Nat} {rt : Option FieldType} {hs : List (Nat × Nat × Nat × Nat)} : kx_kw (.codeWith y cc nL rt hs) y (own, cc, nL, rt, hs, nm) := by
  intro a U m h hn
  obtain ⟨m', meth, c, h0, h1, h2, h3, h4, h5, h6, h7, h8⟩ := Cond.codeWith_spec h
  cases hn.symm.trans h0
  exact ⟨meth, c, h1, h2, h3, h4, h6, h7, h5, h8⟩
def kx_Go (E : kx_E) (p : Program) (e : Env) (below : List Frame) (T T' : State) (g : JFrame) (len : Nat) (mk : MethodId) (av : Array Value) (r : Option Value ⊕ String) : Prop := match r with
  | Sum.inl v => ∀ acts, Steps p.tables e below (doInvoke e (T.setTop g) acts mk av).1 (T'.setTop { g with pc := g.pc + len, stack := (v.map (kx_v (kx_B E))).toList ++ g.stack })
  | Sum.inr X => ∃ (a : Addr) (ce : Cell), T'.heap[a]? = some ce ∧ ce.vm.isStatics = false ∧ E.2.1.vm.findClass X = some ce.cls ∧ ∀ acts, Steps p.tables e below (doInvoke e (T.setTop g) acts mk av).1 ((T'.setTop g).pushFrame (.throwing a))
theorem kx_heapTop (T : State) (g : JFrame) : (T.setTop g).heap = T.heap := by simp [State.setTop, State.modifyTopJava]
theorem kx_heapPush (T : State) (f : Frame) : (T.pushFrame f).heap = T.heap := by simp [State.pushFrame, State.setFrames]
section KXE
variable {E : kx_E} {I : kx_I} {d mc ms : Nat} {Q : kx_Q} {k j pc : Nat} {lv : List (Nat × Value)} {st : List Value} {n : Nat} {h : kx_H}
variable {p : Program} {e : Env} {R : Room} {s : State} {m : MethodId} {args : Array Value} {below : List Frame} {meth : Method} {c : Code} {T : State} {locs : List Loc} {cells slots : Nat}
theorem kx_run (X : Stand p E.1 e R s m args below meth c T locs cells slots) (C : kx_C E I d mc ms p e R s m args meth c)
    {g : JFrame} (hg : g.method = m) (hsize : g.locals.size = c.maxLocals) {ig : Instr} {len : Nat} (hdg : decode c.code g.pc = .ok (ig, len)) (hst : 2 * g.monitorRoom + (g.stack.map fun v => v.category).sum ≤ 8)
    {y : MethodName} {I' : kx_I} {kw : Cond} (hkw : kx_kw kw y I') (hkin : kw ∈ kx_tb) (hpl : plainName y.cls = true) (hI1 : I'.1 = y.cls) (hI2 : I'.2.2.2.2.2 = y.name) {mk : MethodId} (hn : T.methodNamed? y = some mk)
    {as : List Value} (P : kx_P E n h T.heap) {Q' : kx_Q} {d' mc' ms' : Nat} (hV : kx_V E I' d' mc' ms' Q' mc' ms' 0 (lv_args 0 as) [] n h) (hfit : (lg_sl as).length ≤ I'.2.2.1)
    (hd : d' + 1 ≤ d) (hL : I'.2.2.1 ≤ 17) (hc : cells + mc' ≤ mc) (hs : slots + ms' ≤ ms) :
    ∃ (r : Option Value ⊕ String) (n' : Nat) (h' : kx_H) (L : List Loc) (T' : State), Stand p E.1 e R s m args below meth c T' (locs ++ L) (cells + mc') (slots + ms') ∧ (∀ q ∈ L, kx_B E ≤ q.base) ∧ kx_P E n' h' T'.heap ∧ Q' r n' h' ∧ kx_Go E p e below T T' g len mk (kx_s E as).toArray r := by
  obtain ⟨methk, ck, hmk, hck, hcode, hml, hret, hlk, htb, hsig⟩ := hkw #[] T mk (kx_word C.g hkin #[] (State.WarmedH.trans C.wm X.warmed)) hn
  have hpk : T.plainMethod mk := State.plainMethod.of_name (fun k hk => by
    obtain ⟨k', hk', hnm⟩ := className_of_methodNamed hn
    cases hk.symm.trans hk'
    rw [hnm]; exact hpl)
  have hfr := C.fr
  have hlc := C.lc
  obtain ⟨Y, hin⟩ := X.into hg hsize hdg (kx_s E as).toArray (R' := { frames := d', cells := mc', slots := ms', locals := 36 * d' }) hmk hck hlk hpk (by show d' + 1 ≤ R.frames; omega) (by show _ + _ + (ck.maxLocals + 11) + 36 * d' ≤ R.locals; rw [hml]; omega) (by show cells + mc' ≤ R.cells; rw [C.rc]; exact hc) (by show slots + ms' ≤ R.slots; rw [C.rs]; exact hs)
  have hvm : (T.calling g mk (kx_s E as).toArray).vm = T.vm := by rw [State.calling_eq X.here.top]; rfl
  have hhp : (T.calling g mk (kx_s E as).toArray).heap = T.heap := by rw [State.calling_eq X.here.top]; rfl
  have C' : kx_C E I' d' mc' ms' p e { frames := d', cells := mc', slots := ms', locals := 36 * d' } (T.calling g mk (kx_s E as).toArray) mk (kx_s E as).toArray methk ck :=
    ⟨⟨C.g, C.ex, hcode, hml⟩, ⟨hret, hlk, by rw [hvm, hI1]; exact findClass_of_methodNamed hn, by rw [hvm]; exact State.WarmedH.trans C.wm X.warmed⟩, ⟨by rw [hhp]; exact P.2.1, htb, by rw [hI2]; exact (name_of_methodNamed hn hmk).1⟩, Nat.le_refl _, Nat.le_refl _, rfl, rfl⟩
  have hl := lv_entry (kx_s E as) (n := I'.2.2.1) (by rw [kx_sl]; exact hfit)
  rw [kx_args] at hl
  have w := hV p e _ _ mk _ (.java g :: below) methk ck T.heap [] _ 0 0 C' P (fun q hq => by cases hq) hl (by omega) (by omega)
  obtain ⟨t, hsteps, o, hrun, hend, hW, ⟨L, hsame, hLB⟩, r, n', h', P', hO, hq⟩ := w _ (by rw [kx_heapPush, kx_heapTop]) Y
  rw [hml, lg_entry_eq] at hsteps
  have hin' : ∀ acts, Steps p.tables e below (doInvoke e (T.setTop g) acts mk (kx_s E as).toArray).1 t := by
    intro acts
    rw [hin acts, hml, lg_entry_eq]
    exact kx_up (mid := [.java g]) hsteps
  cases r with
  | inl v =>
    have ho : o = .returned (v.map (kx_v (kx_B E))) := hO
    subst ho
    obtain ⟨T', X', -, -, ht⟩ := X.outOf hg hdg hend hW hsame
    refine ⟨Sum.inl v, n', h', L, T', X', hLB, ?_, hq, fun acts => ?_⟩
    · rw [ht, kx_heapTop] at P'
      exact P'
    · rw [← ht]
      exact hin' acts
  | inr Xc =>
    obtain ⟨a, ce, ho, hce, hns, hfc⟩ := hO
    subst ho
    obtain ⟨T', X', -, -, ht⟩ := X.outOfThrown hg hend hW hsame
    rw [ht, kx_heapPush, kx_heapTop] at P' hce
    refine ⟨Sum.inr Xc, n', h', L, T', X', hLB, P', hq, a, ce, hce, hns, hfc, fun acts => ?_⟩
    rw [← ht]
    exact hin' acts
theorem kx_after {H : Heap} {ls : Array Slot} {g' : JFrame} {vm₁ : Vm} (C : kx_C E I d mc ms p e R s m args meth c) (L0 : ∀ q ∈ locs, kx_B E ≤ q.base) (V : lv_has ls I.2.2.1 (kx_l E lv))
    {r : Option Value ⊕ String} {n' : Nat} {h' : kx_H} {L : List Loc} {T' : State} {mc' ms' : Nat} {mk : MethodId} {av : Array Value} (hk : cells + (k + mc') ≤ mc) (hj : slots + (j + ms') ≤ ms)
    (X' : Stand p E.1 e R s m args below meth c T' (locs ++ L) (cells + mc') (slots + ms')) (hLB : ∀ q ∈ L, kx_B E ≤ q.base) (P' : kx_P E n' h' T'.heap)
    (hstep : ∀ target, (∀ acts, Steps p.tables e below (doInvoke e ((T.setVm vm₁).setTop (F0 m pc ls (kx_s E st))) acts mk av).1 target) → Steps p.tables e below (T.setTop g') target)
    (hgo : kx_Go E p e below (T.setVm vm₁) T' (F0 m pc ls (kx_s E st)) 3 mk av r)
    (kk : ∀ v, r = Sum.inl v → kx_V E I d mc ms Q k j (pc + 3) lv (v.toList ++ st) n' h') (kx : ∀ Xc, r = Sum.inr Xc → kx_X E I d mc ms Q k j pc lv Xc n' h') :
    ∃ t, Steps p.tables e below (T.setTop g') t ∧ kx_Z E mc ms Q below s t := by
  have LL : ∀ q ∈ locs ++ L, kx_B E ≤ q.base := fun q hq => by
    rcases List.mem_append.mp hq with g | g
    · exact L0 q g
    · exact hLB q g
  cases r with
  | inl v =>
    obtain ⟨t, a1, b1⟩ := kk v rfl p e R s m args below meth c T'.heap _ ls _ _ C P' LL V (by omega) (by omega) T' rfl X'
    refine ⟨t, hstep t (fun acts => (hgo acts).trans ?_), b1⟩
    have e1 : kx_s E (v.toList ++ st) = (v.map (kx_v (kx_B E))).toList ++ kx_s E st := by cases v <;> rfl
    rw [e1] at a1
    exact a1
  | inr Xc =>
    obtain ⟨a, ce, hce, hns, hfc, hgo⟩ := hgo
    obtain ⟨t, a1, b1⟩ := kx Xc rfl p e R s m args below meth c T'.heap _ ls _ _ C P' LL V (by omega) (by omega) (kx_s E st) a ce hce hns hfc T' rfl X'
    exact ⟨t, hstep t (fun acts => (hgo acts).trans a1), b1⟩
def kx_wS (own : String) (index : Nat) (y : MethodName) (kw : Cond) (I' : kx_I) (na : Nat) : Prop :=
  kx_kw kw y I' ∧ kw ∈ kx_tb ∧ Cond.methodLink own index y ∈ kx_tb ∧ Cond.static y ∈ kx_tb ∧ Cond.initialized y.cls ∈ kx_tb ∧ plainName y.cls = true ∧ (y.cls ≠ "java/lang/invoke/MethodHandle" ∧ y.cls ≠ "java/lang/invoke/VarHandle") ∧ (parseMethodDescriptor y.desc).map (fun q => q.parameters.length) = some na ∧ I'.1 = y.cls ∧ I'.2.2.2.2.2 = y.name ∧ I'.2.2.1 ≤ 17
theorem kx_cat8 {m : MethodId} {ls : Array Slot} (h : (st.map fun v => v.category).sum ≤ 8) : 2 * (F0 m pc ls (kx_s E st)).monitorRoom + ((F0 m pc ls (kx_s E st)).stack.map fun v => v.category).sum ≤ 8 := by
  show 2 * 0 + ((kx_s E st).map fun v => v.category).sum ≤ 8
  rw [kx_s_cat]
  omega
theorem kx_invS {index : Nat} {y : MethodName} {kw : Cond} {I' : kx_I} {na : Nat} {as stk : List Value} {Q' : kx_Q} {d' mc' ms' : Nat} (hdg : decode I.2.1 pc = .ok (.invokestatic index, 3)) (hw : kx_wS I.1 index y kw I' na) (hV : kx_V E I' d' mc' ms' Q' mc' ms' 0 (lv_args 0 as) [] n h) (hs : stk = as.reverse ++ st) (hna : as.length = na) (hfit : (lg_sl as).length ≤ I'.2.2.1) (hd : d' + 1 ≤ d) (hcat : (st.map fun v => v.category).sum ≤ 8)
    (kk : ∀ v n' h', Q' (Sum.inl v) n' h' → kx_V E I d mc ms Q k j (pc + 3) lv (v.toList ++ st) n' h') (kx : ∀ Xc n' h', Q' (Sum.inr Xc) n' h' → kx_X E I d mc ms Q k j pc lv Xc n' h') : kx_V E I d mc ms Q (k + mc') (j + ms') pc lv stk n h := by
  intro p e R s m args below meth c H locs ls cells slots C P L V hk hj T hT X
  subst hs
  obtain ⟨hkw, w0, w1, w2, w3, hpl, hy, hpa, hI1, hI2, hnL⟩ := hw
  have hnamed0 := C.w w2
  obtain ⟨mk, methM, hnamed, hmethM⟩ : ∃ mk methM, s.methodNamed? y = some mk ∧ s.vm.method? mk = some methM := by
    cases hq : s.methodNamed? y with
    | none => simp [Cond.before, Cond.holds, Cond.value, hq] at hnamed0
    | some mk =>
      obtain ⟨methM, c0, g1, -⟩ := hkw args s mk (C.w w0) hq
      exact ⟨mk, methM, rfl, g1⟩
  have hstatic : methM.isStatic = true := Cond.static_spec hnamed hmethM hnamed0
  obtain ⟨kP, hkP, -⟩ := className_of_methodNamed hnamed
  have hinitP : kP.init = .initialized := Cond.initialized_spec (findClass_of_methodNamed hnamed) hkP (C.w w3)
  obtain ⟨methM', c0, g1, -, -, -, -, -, -, hsig⟩ := hkw args s mk (C.w w0) hnamed
  cases hmethM.symm.trans g1
  have hlen : (kx_s E as).length = methM.sig.parameters.length := by
    rw [hsig] at hpa
    rw [List.length_map, hna]
    exact (Option.some.inj hpa).symm
  obtain ⟨vm₁, X₁, hstep⟩ := X.invokestatic C.ex C.own (C.w w1) hnamed hmethM hstatic hkP hinitP hy (g := F0 m pc ls (kx_s E (as.reverse ++ st))) rfl (argsL := kx_s E as) (rest := kx_s E st) hlen (by show kx_s E (as.reverse ++ st) = _; simp [kx_s, List.map_reverse]) (by rw [C.bt]; exact hdg)
  obtain ⟨r, n', h', L', T', X', hLB, P', hq, hgo⟩ := kx_run X₁ C (g := F0 m pc ls (kx_s E st)) rfl (V.1.trans C.ml.symm) (by rw [C.bt]; exact hdg) (kx_cat8 hcat) hkw w0 hpl hI1 hI2 (X₁.named hnamed) (by rw [← hT] at P; exact P) hV hfit hd hnL (by omega) (by omega)
  exact kx_after (vm₁ := vm₁) (H := H) C L V hk hj X' hLB P' hstep hgo (fun v hv => kk v n' h' (hv ▸ hq)) (fun Xc hX => kx Xc n' h' (hX ▸ hq))
def kx_wV (own : String) (index ci : Nat) (y : MethodName) (kw : Cond) (I' : kx_I) (na : Nat) : Prop :=
  kx_kw kw y I' ∧ kw ∈ kx_tb ∧ Cond.methodLink own index y ∈ kx_tb ∧ Cond.instanceMethod y ∈ kx_tb ∧ (∃ q : vw_C, kx_cls[ci]? = some q ∧ q.1 = y.cls) ∧ Cond.selects y.cls y y ∈ kx_tb ∧ plainName y.cls = true ∧ (y.cls ≠ "java/lang/invoke/MethodHandle" ∧ y.cls ≠ "java/lang/invoke/VarHandle") ∧ (parseMethodDescriptor y.desc).map (fun q => q.parameters.length) = some na ∧ I'.1 = y.cls ∧ I'.2.2.2.2.2 = y.name ∧ I'.2.2.1 ≤ 17
theorem kx_invV {index ci b : Nat} {y : MethodName} {kw : Cond} {I' : kx_I} {na : Nat} {fs as stk : List Value} {Q' : kx_Q} {d' mc' ms' : Nat} (hdg : decode I.2.1 pc = .ok (.invokevirtual index, 3)) (hw : kx_wV I.1 index ci y kw I' na) (hb : h b = some (kx_co ci fs)) (hV : kx_V E I' d' mc' ms' Q' mc' ms' 0 (lv_args 0 (.ref b :: as)) [] n h) (hs : stk = as.reverse ++ .ref b :: st) (hna : as.length = na) (hfit : (lg_sl (.ref b :: as)).length ≤ I'.2.2.1) (hd : d' + 1 ≤ d) (hcat : (st.map fun v => v.category).sum ≤ 8)
    (kk : ∀ v n' h', Q' (Sum.inl v) n' h' → kx_V E I d mc ms Q k j (pc + 3) lv (v.toList ++ st) n' h') (kx : ∀ Xc n' h', Q' (Sum.inr Xc) n' h' → kx_X E I d mc ms Q k j pc lv Xc n' h') : kx_V E I d mc ms Q (k + mc') (j + ms') pc lv stk n h := by
  intro p e R s m args below meth c H locs ls cells slots C P L V hk hj T hT X
  subst hs
  obtain ⟨hkw, w0, w1, w2, ⟨q, hq, hqc⟩, w4, hpl, hy, hpa, hI1, hI2, hnL⟩ := hw
  obtain ⟨mk, methM, hnamed, hmethM, hstM, habM⟩ := Cond.instanceMethod_spec (C.w w2)
  obtain ⟨methM', c0, g1, -, -, -, -, -, -, hsig⟩ := hkw args s mk (C.w w0) hnamed
  cases hmethM.symm.trans g1
  obtain ⟨c2, r2, m2, q1, q2, q3, q4, kP, hkP, hkPi⟩ := Cond.selects_spec (C.w w4)
  obtain ⟨cellB, hcB, hoB, hclB⟩ := kx_recv C P hb hq
  rw [hqc] at hclB
  cases hclB.symm.trans q1
  cases (State.methodFound?_of_named hnamed hy).symm.trans q2
  cases hnamed.symm.trans q3
  have hselP : selectMethod e.platform s.vm cellB.cls mk = .method mk := by rw [Launch.admits_selectMethod X.admits]; exact q4
  have hlen : (kx_s E as).length = methM.sig.parameters.length := by
    rw [hsig] at hpa
    rw [List.length_map, hna]
    exact (Option.some.inj hpa).symm
  obtain ⟨vm₁, X₁, hstep⟩ := X.invokevirtual C.ex C.own (C.w w1) hnamed hmethM hstM hkP hkPi hy (a := kx_B E + b) (cell := cellB) (by rw [hT]; exact hcB) (fun z hz => by rw [hz] at hoB; cases hoB) hselP hmethM habM hkP hkPi (g := F0 m pc ls (kx_s E (as.reverse ++ .ref b :: st))) rfl (argsL := kx_s E as) (rest := kx_s E st) hlen (by show kx_s E (as.reverse ++ .ref b :: st) = _; simp [kx_s, List.map_reverse, kx_v]) (by rw [C.bt]; exact hdg)
  obtain ⟨r, n', h', L', T', X', hLB, P', hq', hgo⟩ := kx_run X₁ C (g := F0 m pc ls (kx_s E st)) rfl (V.1.trans C.ml.symm) (by rw [C.bt]; exact hdg) (kx_cat8 hcat) hkw w0 hpl hI1 hI2 (X₁.named hnamed) (by rw [← hT] at P; exact P) hV hfit hd hnL (by omega) (by omega)
  exact kx_after (vm₁ := vm₁) (H := H) C L V hk hj X' hLB P' hstep hgo (fun v hv => kk v n' h' (hv ▸ hq')) (fun Xc hX => kx Xc n' h' (hX ▸ hq'))
def kx_wI (own : String) (index : Nat) (y : MethodName) (I' : kx_I) (na : Nat) : Prop :=
  Cond.code y I'.2.1 I'.2.2.1 none ∈ kx_tb ∧ I'.2.2.2.1 = none ∧ I'.2.2.2.2.1 = [] ∧ Cond.methodLink own index y ∈ kx_tb ∧ Cond.instanceMethod y ∈ kx_tb ∧ y.name = "<init>" ∧ plainName y.cls = true ∧ (y.cls ≠ "java/lang/invoke/MethodHandle" ∧ y.cls ≠ "java/lang/invoke/VarHandle") ∧ (parseMethodDescriptor y.desc).map (fun q => q.parameters.length) = some na ∧ I'.1 = y.cls ∧ I'.2.2.2.2.2 = y.name ∧ I'.2.2.1 ≤ 17
theorem kx_invI {index b : Nat} {y : MethodName} {I' : kx_I} {na : Nat} {as stk : List Value} {Q' : kx_Q} {d' mc' ms' : Nat} (hdg : decode I.2.1 pc = .ok (.invokespecial index, 3)) (hw : kx_wI I.1 index y I' na) (hV : kx_V E I' d' mc' ms' Q' mc' ms' 0 (lv_args 0 (.ref b :: as)) [] n h) (hs : stk = as.reverse ++ .ref b :: st) (hna : as.length = na) (hfit : (lg_sl (.ref b :: as)).length ≤ I'.2.2.1) (hd : d' + 1 ≤ d) (hcat : (st.map fun v => v.category).sum ≤ 8)
    (kk : ∀ v n' h', Q' (Sum.inl v) n' h' → kx_V E I d mc ms Q k j (pc + 3) lv (v.toList ++ st) n' h') (kx : ∀ Xc n' h', Q' (Sum.inr Xc) n' h' → kx_X E I d mc ms Q k j pc lv Xc n' h') : kx_V E I d mc ms Q (k + mc') (j + ms') pc lv stk n h := by
  intro p e R s m args below meth c H locs ls cells slots C P L V hk hj T hT X
  subst hs
  obtain ⟨w0, hI3, hI4, w1, w2, hini, hpl, hy, hpa, hI1, hI2, hnL⟩ := hw
  have hkw : kx_kw (.code y I'.2.1 I'.2.2.1 none) y I' := by
    obtain ⟨i1, i2, i3, i4, i5, i6⟩ := I'
    dsimp only at hI3 hI4
    subst hI3
    subst hI4
    exact kx_kw0
  have hplat : e.platform.magicAccessors = ({} : Platform).magicAccessors := by rw [X.admits.platform]
  obtain ⟨mk, methM, cM, kP, vm₁, hnamed, hmethM, hcodeM, -, -, -, hkP, -, hW₁, hstep⟩ := Steps.initColdArgs (e := e) X.here C.ex X.warmed hplat C.own hini hy (C.w w1) (C.w w2) (C.w w0) (f := F0 m pc ls (kx_s E (as.reverse ++ .ref b :: st))) rfl (a := kx_B E + b) (argsL := kx_s E as) (rest := kx_s E st) (fun sig hsg => by
      rw [hsg] at hpa
      rw [List.length_map, hna]
      exact (Option.some.inj hpa).symm) (by show kx_s E (as.reverse ++ .ref b :: st) = _; simp [kx_s, List.map_reverse, kx_v]) (by rw [C.bt]; exact hdg)
  have X₁ := X.noted hW₁
  obtain ⟨r, n', h', L', T', X', hLB, P', hq', hgo⟩ := kx_run X₁ C (g := F0 m pc ls (kx_s E st)) rfl (V.1.trans C.ml.symm) (by rw [C.bt]; exact hdg) (kx_cat8 hcat) hkw w0 hpl hI1 hI2 (X₁.named hnamed) (by rw [← hT] at P; exact P) hV hfit hd hnL (by omega) (by omega)
  exact kx_after (vm₁ := vm₁) (H := H) C L V hk hj X' hLB P' hstep hgo (fun v hv => kk v n' h' (hv ▸ hq')) (fun Xc hX => kx Xc n' h' (hX ▸ hq'))
theorem kx_X.out {Xc : String} (hno : ∀ x ∈ I.2.2.2.2.1, ¬ (x.1 ≤ pc ∧ pc < x.2.1)) (hq : Q (Sum.inr Xc) n h) : kx_X E I d mc ms Q k j pc lv Xc n h := by
  intro p e R s m args below meth c H locs ls cells slots C P L V hk hj st a ce hce hns hfc T hT X
  have hout : ∀ x ∈ c.exceptionTable.toList, covers x pc = false := by
    intro x hx
    have h1 := hno (x.startPc, x.endPc, x.handlerPc, x.catchType) (by rw [← C.tb]; exact List.mem_map.mpr ⟨x, hx, rfl⟩)
    simp only [covers, Bool.and_eq_false_iff, decide_eq_false_iff_not]
    by_cases h2 : x.startPc ≤ pc
    · exact Or.inr (fun h3 => h1 ⟨h2, h3⟩)
    · exact Or.inl h2
  obtain ⟨hsteps, hrun, hend, hW, hsame⟩ := X.leaveThrown a (g := F0 m pc ls st) rfl rfl rfl hout (hlocks := C.lk)
  refine ⟨_, hsteps, .threw a, hrun, hend, hW, ⟨locs, hsame.mono (by omega) (by omega), L⟩, Sum.inr Xc, n, h, ?_, ⟨a, ce, rfl, ?_, hns, hfc⟩, hq⟩
  · show kx_P E n h T.heap
    rw [hT]; exact P
  · show T.heap[a]? = some ce
    rw [hT]; exact hce
end KXE
end
section
section KXF
variable {p : Program} {l : Launch} {e : Env} {R : Room} {s : State} {m : MethodId} {args : Array Value} {below : List Frame} {meth : Method} {c : Code} {T : State} {locs : List Loc} {cells slots : Nat}
theorem kx_rebase (X : Stand p l e R s m args below meth c T locs cells slots) {R' : Room} (h1 : R'.frames ≤ R.frames) (h2 : R'.locals ≤ R.locals) (h3 : cells + R'.cells ≤ R.cells) (h4 : slots + R'.slots ≤ R.slots) :
    Stand p l e R' (T.setFrames (.invoking m args :: below)) m args below meth c T [] 0 0 := by
  obtain ⟨g₀, hfr⟩ := X.frames_eq
  have hcur := State.cur_lt_of_frames hfr
  have hF : (T.setFrames (.invoking m args :: below)).frames = .invoking m args :: below := State.frames_setFrames _ hcur
  have hm : ∀ z, T.vm.method? z = s.vm.method? z := fun z => X.warmed.alike.method? z
  have hmeth : (T.setFrames (.invoking m args :: below)).vm.method? m = some meth := X.method'
  refine ⟨X.admits, X.cas, X.clock, hF, ?_, ?_, hmeth, X.code, X.here, X.tail, State.WarmedH.refl (T.setFrames (.invoking m args :: below)), by rw [State.stackLimits_setFrames], by rw [State.stackBytes_setFrames], ?_⟩
  · have hr := X.room
    have hz := X.heapSize
    have hu := X.used
    have hbk : (T.setFrames (.invoking m args :: below)).slotsTrue = true := X.book
    simp only [State.hasRoom, Bool.and_eq_true, decide_eq_true_eq] at hr ⊢
    rw [State.localsInUse_invoking X.frames X.method X.code, X.frames] at hr
    rw [State.localsInUse_invoking hF hmeth X.code, hF, State.stackLimits_setFrames, State.stackBytes_setFrames, X.limits, X.bytes]
    obtain ⟨⟨⟨⟨r1, r2, r3, r4, r5, r6⟩, r7⟩, r8⟩, r9⟩ := hr
    refine ⟨⟨⟨⟨by omega, by omega, by omega, by omega, by omega, r6⟩, ?_⟩, ?_⟩, hbk⟩
    · show T.heap.size + R'.cells ≤ _
      omega
    · show T.slotsUsed + R'.slots ≤ _
      omega
  · have h0 := X.hears
    have hco : ∀ z, (T.setFrames (.invoking m args :: below)).code? z = s.code? z := fun z => by
      rw [State.code?_eq, State.code?_eq]
      show (T.vm.method? z).bind _ = _
      rw [hm z]
    have hm2 : ∀ z, (T.setFrames (.invoking m args :: below)).vm.method? z = s.vm.method? z := hm
    cases below with
    | nil => simpa only [State.hears, hm2] using h0
    | cons f r => cases f <;> first | simpa only [State.hears, hco] using h0 | simpa only [State.hears, hm2] using h0
  · obtain ⟨th, hth, -⟩ := State.frames_cons hF
    have hb := (State.sameButNew.refl (T.setFrames (.invoking m args :: below)) hth).setFrames T.frames (State.cur_lt_of_frames hF)
    obtain ⟨th2, hth2, -⟩ := State.frames_cons hfr
    rw [State.setFrames_setFrames, State.setFrames_self hth2] at hb
    exact hb
theorem kx_gone (X : Stand p l e R s m args below meth c T locs cells slots) {a : Addr} {t : State} (hend : Ended t below (.threw a)) (hW : (T.setFrames (.invoking m args :: below)).WarmedH t.vm) {k n : Nat} (hs : (T.setFrames (.invoking m args :: below)).sameButNew ({ t with vm := (T.setFrames (.invoking m args :: below)).vm } : State) [] k n) :
    s.WarmedH t.vm ∧ s.sameButNew ({ t with vm := s.vm } : State) locs (cells + k) (slots + n) := by
  obtain ⟨e2, q2, q3, q4, q5, q6⟩ := hs
  obtain ⟨g₀, hfr⟩ := X.frames_eq
  have hf : t.frames = .throwing a :: below := hend
  have hW' : T.WarmedH t.vm := hW
  have e3 : t = (({ (T.setFrames (.invoking m args :: below)).setFrames t.frames with heap := t.heap, slotsUsed := t.slotsUsed } : State)).setVm t.vm := by
    have : t = ({ t with vm := (T.setFrames (.invoking m args :: below)).vm } : State).setVm t.vm := rfl
    rw [e2] at this
    exact this
  have hB : T.sameButNew ({ T with heap := t.heap, slotsUsed := t.slotsUsed } : State) [] k n := by
    refine ⟨?_, q2, q3, q4, q5, q6⟩
    obtain ⟨th, hth, -⟩ := State.frames_cons hfr
    show ({ T with heap := t.heap, slotsUsed := t.slotsUsed } : State) = { T.setFrames T.frames with heap := t.heap, slotsUsed := t.slotsUsed }
    rw [State.setFrames_self hth]
  have X' : Stand p l e R s m args below meth c (({ T with heap := t.heap, slotsUsed := t.slotsUsed } : State).setVm t.vm) (locs ++ []) (cells + k) (slots + n) :=
    ⟨X.admits, X.cas, X.clock, X.frames, X.room, X.hears, X.method, X.code, (X.here.setHeapUsed t.heap t.slotsUsed).setVm hW'.alike, X.tail, State.WarmedH.trans X.warmed hW', X.limits, X.bytes, X.same.trans (hB.setVm s.vm)⟩
  rw [List.append_nil] at X'
  have hE := X'.ends (.throwing a :: below)
  have ht : t = (({ T with heap := t.heap, slotsUsed := t.slotsUsed } : State).setVm t.vm).setFrames (.throwing a :: below) := by
    refine e3.trans ?_
    rw [hf, State.setFrames_setFrames]
    rfl
  rw [← ht] at hE
  exact hE
end KXF
def kx_tx (own : String) (inew ic : Nat) (Xc : String) (names : List String) : Prop := Bundle.fit Xc = true ∧ (∀ q ∈ names, Bundle.fit q = true) ∧ Cond.classLink own inew Xc ∈ kx_tb ∧ Cond.instantiable Xc 6 ∈ kx_tb ∧ Cond.initialized Xc ∈ kx_tb ∧ ∀ w ∈ Bundle.ownAtoms own ic Xc names, w ∈ kx_tb ∨ w ∈ kx_hw ∨ w ∈ kx_hr
section KXG
variable {E : kx_E} {I : kx_I} {d mc ms : Nat} {Q : kx_Q} {k j pc : Nat} {lv : List (Nat × Value)} {st : List Value} {n : Nat} {h : kx_H}
theorem kx_throw {inew istr ic : Nat} {Xc tx : String} {names : List String} (d0 : decode I.2.1 pc = .ok (.new inew, 3)) (d3 : decode I.2.1 (pc + 3) = .ok (.dup, 1)) (d4 : decode I.2.1 (pc + 3 + 1) = .ok (.ldc istr, 2)) (d6 : decode I.2.1 (pc + 3 + 1 + 2) = .ok (.invokespecial ic, 3)) (d9 : decode I.2.1 (pc + 3 + 1 + 2 + 3) = .ok (.athrow, 1))
    (hx : kx_tx I.1 inew ic Xc names) (hstr : (I.1, istr, tx) ∈ kx_strs) (hno : ∀ x ∈ I.2.2.2.2.1, ¬ (x.1 ≤ pc + 3 + 1 + 2 + 3 ∧ pc + 3 + 1 + 2 + 3 < x.2.1)) (hd : names.length + 4 ≤ d) (hcat : (st.map fun v => v.category).sum ≤ 8) (hq : Q (Sum.inr Xc) (n + 1) h) : kx_V E I d mc ms Q (k + 1) (j + 6) pc lv st n h := by
  intro p e R s m args below meth c H locs ls cells slots C P L V hk hj T hT X
  obtain ⟨f1, f2, w1, w2, w3, hat⟩ := hx
  have hrc := C.rc
  have hrs := C.rs
  have hfr := C.fr
  have hlc := C.lc
  have hW2 : E.2.1.WarmedH T.vm := State.WarmedH.trans C.wm X.warmed
  have Y := kx_rebase X (R' := { frames := R.frames, cells := 1, slots := 6, locals := R.locals }) (Nat.le_refl _) (Nat.le_refl _) (by show cells + 1 ≤ _; omega) (by show slots + 6 ≤ _; omega)
  generalize hs2 : T.setFrames (.invoking m args :: below) = s2 at Y
  have hvm2 : s2.vm = T.vm := by rw [← hs2]; rfl
  have hhp2 : s2.heap = H := by rw [← hs2, ← hT]; rfl
  have hW3 : E.2.1.WarmedH s2.vm := by rw [hvm2]; exact hW2
  have hown2 : s2.vm.findClass I.1 = some m.cls := by rw [hvm2, X.warmed.alike.findClass]; exact C.own
  have hT2 : kx_T s2 := C.g.2.2.2.1.to hW3 (fun q hq => by rw [hhp2]; exact P.2.1 q hq)
  have hwd : ∀ w ∈ Bundle.ownAtoms I.1 ic Xc names, w.before args s2 = true := fun w hw => by
    rcases hat w hw with g | g | g
    · exact kx_word C.g g args hW3
    · exact hT2.1 w g args
    · exact hT2.2.1 w g args
  have htr : e.platform.stackTraces = false := by
    have h0 := X.admits.2.2.2.2.1
    rw [h0]
    exact C.g.1
  have hout : ∀ x ∈ c.exceptionTable.toList, covers x (pc + 3 + 1 + 2 + 3) = false := by
    intro x hx
    have h1 := hno (x.startPc, x.endPc, x.handlerPc, x.catchType) (by rw [← C.tb]; exact List.mem_map.mpr ⟨x, hx, rfl⟩)
    simp only [covers, Bool.and_eq_false_iff, decide_eq_false_iff_not]
    by_cases h2 : x.startPc ≤ pc + 3 + 1 + 2 + 3
    · exact Or.inr (fun h3 => h1 ⟨h2, h3⟩)
    · exact Or.inl h2
  obtain ⟨cX, kX, hfX, hkX, -⟩ := Cond.instantiable_spec (kx_word C.g w2 args hW3)
  obtain ⟨qs, hZ⟩ := hT2.2.2 _ hstr
  have hc8 : ((List.map (kx_v (kx_B E)) st).map fun v => v.category).sum = _ := kx_s_cat E st
  have w : W p E.1 e { frames := R.frames, cells := 1, slots := 6, locals := R.locals } s2 m args below meth c H [] 0 0 (fun t => ∃ (a : Addr) (ce : Cell), t.status = .running ∧ Ended t below (.threw a) ∧ s2.WarmedH t.vm ∧ s2.sameButNew ({ t with vm := s2.vm } : State) [] 1 6 ∧ t.heap[a]? = some ce ∧ a = H.size ∧ ce.vm = .none ∧ s2.vm.findClass Xc = some ce.cls) (F0 m pc ls (kx_s E st)) := by
    refine W.newcK C.ex C.bt hown2 (kx_word C.g w1 args hW3) (kx_word C.g w2 args hW3) (kx_word C.g w3 args hW3) rfl d0 (by show 0 + 1 ≤ 1; omega) (by show 0 + 6 ≤ 6; omega) hfX rfl fun H1 kC hkC e1 z1 o1 => ?_
    cases hkX.symm.trans hkC
    refine lv_dup C.ex C.bt d3 rfl ?_
    refine va_ldcS C.ex C.bt hown2 hZ d4 ?_
    intro T2 hT2 X2
    obtain ⟨U, hsteps, hrun, hend, hWU, hsame, ce, hce, O⟩ := X2.ctorThrowS C.ex htr hown2 f1 f2 hwd (fun x hx => by cases hx) hfX hkX (a := H.size) (by rw [hT2]; exact e1) (by rw [hhp2]; exact Nat.le_refl _) (msg := .ref qs) rfl (g := F0 m (pc + 3 + 1 + 2) ls (.ref qs :: .ref H.size :: .ref H.size :: kx_s E st)) rfl (V.1.trans C.ml.symm) rfl rfl rfl (by rw [C.bt]; exact d6) (by rw [C.bt]; exact d9) hout (by show names.length + 3 < R.frames; omega) (by
        show 2 * 0 + ((Value.ref H.size :: kx_s E st).map fun v => v.category).sum + (13 * (names.length + 1) + 42) ≤ R.locals
        rw [List.map_cons, List.sum_cons]
        show 2 * 0 + (1 + ((List.map (kx_v (kx_B E)) st).map fun v => v.category).sum) + _ ≤ _
        omega) (hlocks := C.lk)
    exact ⟨U, hsteps, H.size, ce, hrun, hend, hWU, hsame, hce, rfl, O.vm, O.cls⟩
  obtain ⟨t, hsteps, a, ce, hrun, hend, hWt, hsame, hce, ha, hvn, hfc⟩ := w T hT Y
  subst hs2
  obtain ⟨g1, g2⟩ := kx_gone X hend hWt hsame
  have hlt : a < t.heap.size := (Array.getElem?_eq_some_iff.mp hce).1
  have hz4 : H.size < t.heap.size := by rw [ha] at hlt; exact hlt
  have hz3 : t.heap.size ≤ H.size + 1 := by have := hsame.2.2.1; rw [hhp2] at this; exact this
  refine ⟨t, hsteps, .threw a, hrun, hend, g1, ⟨locs, g2.mono (by omega) (by omega), L⟩, Sum.inr Xc, n + 1, h, P.junk (by omega) (fun q hq => ?_) (fun cell hc => ?_), ⟨a, ce, rfl, hce, by rw [hvn]; rfl, ?_⟩, hq⟩
  · have hq2 : (T.setFrames (.invoking m args :: below)).heap[q]? = some H[q] := by rw [hhp2]; exact Array.getElem?_eq_getElem hq
    rw [Array.getElem?_eq_getElem hq]
    exact State.sameButNew.old_cell hsame hq2
  · rw [← ha, hce] at hc
    cases hc
    rw [hvn]; rfl
  · rw [← hfc, hW3.alike.findClass]
end KXG
end
section
def kx_sel (own Xc : String) (pc hpc : Nat) : List (Nat × Nat × Nat × Nat) → Prop
  | [] => False
  | x :: t => (x.1 ≤ pc ∧ pc < x.2.1) ∧ x.2.2.2 ≠ 0 ∧ ∃ Cn, Cond.classLink own x.2.2.2 Cn ∈ kx_tb ∧ Xc ∈ kx_exc ∧ Cn ∈ kx_exc ∧ ((Xc = Cn ∧ x.2.2.1 = hpc) ∨ (Xc ≠ Cn ∧ kx_sel own Xc pc hpc t))
section KXS
variable {e : Env} {s S0 : State} {f : JFrame} {a : Addr}
theorem kx_goIn {x : ExceptionTableEntry} {t : List ExceptionTableEntry} {cT : ClassId} {cell : Cell} (hx : covers x f.pc = true) (h0 : x.catchType ≠ 0) (hl : S0.vm.ClassLinks e.platform f.method.cls x.catchType cT) (hcell : S0.heap[a]? = some cell) (hobj : ∀ k, cell.vm ≠ .statics k) (hk : ∃ k, S0.vm.classes[cell.cls]? = some k) (hc : ∃ k, S0.vm.classes[cT]? = some k)
    (Q : Handler → Pre) (Ee : CtlPost) (d : Bool) (acts : List Action) :
    wp (findHandler.go f a (x :: t)) Q Ee e d acts S0 ↔ if S0.vm.assignable cell.cls cT = true then Q (.found x.handlerPc) d acts (S0.setVm (S0.vm.noted f.method.cls x.catchType (.cls cT))) else wp (findHandler.go f a t) Q Ee e d acts (S0.setVm (S0.vm.noted f.method.cls x.catchType (.cls cT))) := by
  simp only [covers] at hx
  obtain ⟨ha, ht⟩ := (resolveClass_links e.toSetting hl).op (op := VmOp.resolveClass f.method.cls x.catchType) rfl
  have hal : S0.vm.Alike (S0.vm.noted f.method.cls x.catchType (.cls cT)) := (Vm.Alike.refl S0.vm).noted _ _ _
  obtain ⟨k1, hk1⟩ := hk
  obtain ⟨k2, hk2⟩ := hc
  obtain ⟨k1', hk1', -⟩ := hal.2.2 _ _ hk1
  obtain ⟨k2', hk2', -⟩ := hal.2.2 _ _ hk2
  have has : (S0.vm.noted f.method.cls x.catchType (.cls cT)).assignable cell.cls cT = S0.vm.assignable cell.cls cT := hal.assignable ..
  cases hfit : S0.vm.assignable cell.cls cT <;> simp [findHandler.go, hx, h0, ha, ht, hcell, hobj, hk1', hk2', has, hfit, VmOp.dirties, VmOp.acts]
end KXS
section KXT
variable {E : kx_E} {I : kx_I} {d mc ms : Nat} {Q : kx_Q} {k j pc : Nat} {lv : List (Nat × Value)} {n : Nat} {h : kx_H}
theorem kx_search {p : Program} {e : Env} {R : Room} {s : State} {m : MethodId} {args : Array Value} {meth : Method} {c : Code} {below : List Frame} {T : State} {locs : List Loc} {cells slots : Nat} (X : Stand p E.1 e R s m args below meth c T locs cells slots) (C : kx_C E I d mc ms p e R s m args meth c) {g : JFrame} (hg : g.method = m) {S0 : State} {a : Addr} {ce : Cell} {Xc : String} {hpc : Nat} (hce : S0.heap[a]? = some ce) (hns : ce.vm.isStatics = false) (hfc : E.2.1.vm.findClass Xc = some ce.cls) :
    ∀ (tb : List ExceptionTableEntry), kx_sel I.1 Xc g.pc hpc (tb.map (fun x => (x.startPc, x.endPc, x.handlerPc, x.catchType))) → ∀ vm1 : Vm, s.WarmedH vm1 → ∃ vm2, s.WarmedH vm2 ∧ ∀ (Qh : Handler → Pre) (Ee : CtlPost) (dd : Bool) (acts : List Action), wp (findHandler.go g a tb) Qh Ee e dd acts (S0.setVm vm1) ↔ Qh (.found hpc) dd acts (S0.setVm vm2)
  | [], hs, _, _ => hs.elim
  | x :: t, hs, vm1, hW1 => by
    obtain ⟨⟨c1, c2⟩, h0, Cn, hlk, hX1, hX2, hcase⟩ := hs
    have hyn := C.g.2.2.2.2 Xc hX1 Cn hX2
    have hpl : e.platform.magicAccessors = ({} : Platform).magicAccessors := by rw [X.admits.platform]
    have hx : covers x g.pc = true := by
      simp only [covers, Bool.and_eq_true, decide_eq_true_eq]
      exact ⟨c1, c2⟩
    obtain ⟨cT, hcT, hcl⟩ := Cond.classLink_spec C.own (C.w hlk) e.platform hpl
    obtain ⟨dk, _, _, kt, hdk, _, _, _, _, hkt, _, hopen⟩ := hcl.here
    have hcl1 : vm1.ClassLinks e.platform m.cls x.catchType cT := hW1.classLinks hcl
    have hW' : s.WarmedH (vm1.noted m.cls x.catchType (.cls cT)) := hW1.noted hdk hopen (State.rightAt_cls hcl)
    have halE := (State.WarmedH.trans C.wm hW1).alike
    have hob : ∀ z, ce.vm ≠ .statics z := fun z hz => by rw [hz] at hns; cases hns
    obtain ⟨kx1, hkx1⟩ := Vm.classAt_of_findClass (vm := vm1) (by rw [halE.findClass]; exact hfc)
    obtain ⟨kt1, hkt1, -⟩ := hW1.alike.2.2 _ _ hkt
    have hin := kx_goIn (e := e) (S0 := S0.setVm vm1) (f := g) (a := a) (x := x) (t := t) (cT := cT) (cell := ce) hx h0 (by rw [hg]; exact hcl1) hce hob ⟨kx1, hkx1⟩ ⟨kt1, hkt1⟩
    have hcE : E.2.1.vm.findClass Cn = some cT := by rw [← C.wm.alike.findClass]; exact hcT
    rcases hcase with ⟨hcs, hp⟩ | ⟨hcs, hrest⟩
    · obtain ⟨a1, b1, g1, g2, g3⟩ := hyn.1 hcs
      cases hfc.symm.trans g1
      cases hcE.symm.trans g2
      refine ⟨_, hW', fun Qh Ee dd acts => ?_⟩
      rw [hin Qh Ee dd acts, if_pos (by show vm1.assignable _ _ = true; rw [halE.assignable]; exact g3), hg]
      dsimp only at hp
      rw [hp]
      exact Iff.rfl
    · obtain ⟨a1, b1, g1, g2, g3⟩ := hyn.2 hcs
      cases hfc.symm.trans g1
      cases hcE.symm.trans g2
      obtain ⟨vm2, hW2, hgo⟩ := kx_search X C hg hce hns hfc t hrest _ hW'
      refine ⟨vm2, hW2, fun Qh Ee dd acts => ?_⟩
      rw [hin Qh Ee dd acts, if_neg (by show ¬ vm1.assignable _ _ = true; rw [halE.assignable, g3]; decide), hg]
      exact hgo Qh Ee dd acts
theorem kx_caught {tb : Tables} {e : Env} {T target : State} {g : JFrame} {c : Code} {below : List Frame} {a : Addr} (hA : At T g.method c below) {hpc : Nat} {vm2 : Vm}
    (hf : ∀ (Qh : Handler → Pre) (Ee : CtlPost) (dd : Bool) (acts : List Action), wp (findHandler g a) Qh Ee e dd acts ((T.setTop g).pushFrame (.throwing a)) ↔ Qh (.found hpc) dd acts (((T.setTop g).pushFrame (.throwing a)).setVm vm2))
    (hrest : Steps tb e below ((T.setVm vm2).setTop { g with pc := hpc, stack := [.ref a] }) target) : Steps tb e below ((T.setTop g).pushFrame (.throwing a)) target := by
  obtain ⟨hgo, hw⟩ := hA.throwing a
  refine Steps.head hgo hw ?_
  have hst : ∀ r, (stepThrowing e ((T.setTop g).pushFrame (.throwing a)) a (.java g :: r)).1 = (((T.setTop g).pushFrame (.throwing a)).setVm vm2).setFrames (.java { g with pc := hpc, stack := [.ref a] } :: r) := by
    intro r
    simp only [stepThrowing, searchFrame, vmDo]
    generalize hr : Sem.go _ e false [] ((T.setTop g).pushFrame (.throwing a)) = res
    obtain ⟨as, rfl, -⟩ := Sem.eq_ok_of hr (a := Handler.found hpc) (s' := ((T.setTop g).pushFrame (.throwing a)).setVm vm2) (acts' := []) (by simp [hf _ _ _ _])
    rfl
  rw [stepThread_throwing (frames_entered hA.top _), hst]
  obtain ⟨g₀, hg⟩ := Option.isSome_iff_exists.mp hA.top
  obtain ⟨r, hr⟩ := State.topJava?_eq_some.mp hg
  have hr' : (T.setVm vm2).frames = .java g₀ :: r := hr
  rw [State.setTop_of_frames _ hr'] at hrest
  have e1 : ((((T.setTop g).pushFrame (.throwing a)).setVm vm2).setFrames (.java { g with pc := hpc, stack := [.ref a] } :: T.frames.tail)) = (T.setVm vm2).setFrames (.java { g with pc := hpc, stack := [.ref a] } :: r) := by
    rw [hr, List.tail_cons, State.pushFrame, State.setTop_of_frames _ hr]
    have h1 : ∀ (F G : List Frame), (((T.setFrames F).setFrames G).setVm vm2) = ((T.setVm vm2).setFrames F).setFrames G := fun _ _ => rfl
    rw [h1, State.setFrames_setFrames, State.setFrames_setFrames]
  rw [e1]
  exact hrest
theorem kx_X.catch {Xc : String} {hpc : Nat} (hs : kx_sel I.1 Xc pc hpc I.2.2.2.2.1) {i : Nat} {lv' : List (Nat × Value)} {ln : Nat} (hdg : (ln = 1 ∧ ∃ f : Fin 4, (f : Nat) = i ∧ decode I.2.1 hpc = .ok (.astore_n f, 1)) ∨ (ln = 2 ∧ decode I.2.1 hpc = .ok (.astore i, 2))) (hn : i < I.2.2.1) (hl : lv.filter (fun q => !(q.1 == i) && !(q.1 + 1 == i && q.2.category == 2)) = lv')
    (kk : kx_V E I d mc ms Q k j (hpc + ln) lv' [] n h) : kx_X E I d mc ms Q k j pc lv Xc n h := by
  intro p e R s m args below meth c H locs ls cells slots C P L V hk hj st a ce hce hns hfc T hT X
  obtain ⟨vm2, hW2, hgo⟩ := kx_search X C (g := F0 m pc ls st) rfl (S0 := (T.setTop (F0 m pc ls st)).pushFrame (.throwing a)) (a := a) (ce := ce) (Xc := Xc) (hpc := hpc) (by rw [Stand.throwing_heap, hT]; exact hce) hns hfc c.exceptionTable.toList (by rw [C.tb]; exact hs) T.vm X.warmed
  have hself : ((T.setTop (F0 m pc ls st)).pushFrame (.throwing a)).setVm T.vm = (T.setTop (F0 m pc ls st)).pushFrame (.throwing a) := by
    have h1 : ((T.setTop (F0 m pc ls st)).pushFrame (.throwing a)).vm = T.vm := Stand.throwing_vm T _ a
    rw [← h1, State.setVm_self]
  rw [hself] at hgo
  have hfind : ∀ (Qh : Handler → Pre) (Ee : CtlPost) (dd : Bool) (acts : List Action), wp (findHandler (F0 m pc ls st) a) Qh Ee e dd acts ((T.setTop (F0 m pc ls st)).pushFrame (.throwing a)) ↔ Qh (.found hpc) dd acts (((T.setTop (F0 m pc ls st)).pushFrame (.throwing a)).setVm vm2) := by
    intro Qh Ee dd acts
    rw [W.findHandler_eq (meth := meth) (code := c) (by rw [Stand.throwing_vm]; exact X.method') X.code]
    exact hgo Qh Ee dd acts
  have X2 : Stand p E.1 e R s m args below meth c (T.setVm vm2) locs cells slots := X.noted hW2
  have w : W p E.1 e R s m args below meth c H locs cells slots (kx_Z E mc ms Q below s) (F0 m hpc ls [.ref a]) := by
    have key : ∀ ls' : Array Slot, lv_has ls' I.2.2.1 ((i, Value.ref a) :: (kx_l E lv).filter (fun q => !(q.1 == i) && !(q.1 + 1 == i && q.2.category == 2))) → W p E.1 e R s m args below meth c H locs cells slots (kx_Z E mc ms Q below s) (F0 m (hpc + ln) ls' []) := by
      intro ls' V'
      refine kk p e R s m args below meth c H locs ls' cells slots C P L ⟨V'.1, V'.2.1, fun q hq => ?_⟩ hk hj
      refine V'.2.2 q (List.mem_cons_of_mem _ ?_)
      have h9 := kx_l_st1 E lv i (.int 0)
      have h8 : (kx_l E lv).filter (fun q => !(q.1 == i) && !(q.1 + 1 == i && q.2.category == 2)) = kx_l E (lv.filter (fun q => !(q.1 == i) && !(q.1 + 1 == i && q.2.category == 2))) := (List.cons.inj h9).2
      rw [h8, hl]
      exact hq
    rcases hdg with ⟨rfl, f, hf, hdg⟩ | ⟨rfl, hdg⟩
    · exact lv_astore_n C.ex C.bt hdg hf V hn rfl key
    · exact lv_astore C.ex C.bt hdg V hn rfl key
  obtain ⟨t, a1, b1⟩ := w (T.setVm vm2) hT X2
  exact ⟨t, kx_caught (g := F0 m pc ls st) X.here hfind a1, b1⟩
end KXT
section KXM
variable {E : kx_E} {I : kx_I} {d mc ms : Nat} {Q : kx_Q} {k j pc : Nat} {lv : List (Nat × Value)} {st : List Value} {n : Nat} {h : kx_H}
theorem kx_max {index : Nat} {x y : Int32} (hdg : decode I.2.1 pc = .ok (.invokestatic index, 3)) (h1 : Cond.methodLink I.1 index Lib.Math.max.name ∈ kx_tb) (h2 : Cond.static Lib.Math.max.name ∈ kx_tb) (h3 : Cond.initialized "java/lang/Math" ∈ kx_tb) (h4 : Cond.code Lib.Math.max.name Lib.Math.max.code 2 (some .int) ∈ kx_tb) (hd : 1 ≤ d) (hs : (st.map fun v => v.category).sum ≤ 8)
    (kk : kx_V E I d mc ms Q k j (pc + 3) lv (.int (if x < y then y else x) :: st) n h) : kx_V E I d mc ms Q k j pc lv (.int y :: .int x :: st) n h := by
  intro p e R s m args below meth c H locs ls cells slots C P L V hk hj
  have hc : ((List.map (kx_v (kx_B E)) st).map fun v => v.category).sum = _ := kx_s_cat E st
  have hl := C.lc
  have hf := C.fr
  exact va_mmax C.ex C.bt (C.ml.trans V.1.symm) C.own (C.w h1) (C.w h2) (C.w h3) (C.w h4) (by omega) (by omega) (by rw [C.rc]; omega) (by rw [C.rs]; omega) hdg (kk p e R s m args below meth c H locs ls cells slots C P L V hk hj)
theorem kx_min {index : Nat} {x y : Int32} (hdg : decode I.2.1 pc = .ok (.invokestatic index, 3)) (h1 : Cond.methodLink I.1 index Lib.Math.min.name ∈ kx_tb) (h2 : Cond.static Lib.Math.min.name ∈ kx_tb) (h3 : Cond.initialized "java/lang/Math" ∈ kx_tb) (h4 : Cond.code Lib.Math.min.name Lib.Math.min.code 2 (some .int) ∈ kx_tb) (hd : 1 ≤ d) (hs : (st.map fun v => v.category).sum ≤ 8)
    (kk : kx_V E I d mc ms Q k j (pc + 3) lv (.int (if y < x then y else x) :: st) n h) : kx_V E I d mc ms Q k j pc lv (.int y :: .int x :: st) n h := by
  intro p e R s m args below meth c H locs ls cells slots C P L V hk hj
  have hc : ((List.map (kx_v (kx_B E)) st).map fun v => v.category).sum = _ := kx_s_cat E st
  have hl := C.lc
  have hf := C.fr
  exact va_mmin C.ex C.bt (C.ml.trans V.1.symm) C.own (C.w h1) (C.w h2) (C.w h3) (C.w h4) (by omega) (by omega) (by rw [C.rc]; omega) (by rw [C.rs]; omega) hdg (kk p e R s m args below meth c H locs ls cells slots C P L V hk hj)
theorem kx_maxl {index : Nat} {x y : Int64} (hdg : decode I.2.1 pc = .ok (.invokestatic index, 3)) (h1 : Cond.methodLink I.1 index Lib.MathLoose.max_long.x ∈ kx_tb) (h2 : Cond.static Lib.MathLoose.max_long.x ∈ kx_tb) (h3 : Cond.initialized "java/lang/Math" ∈ kx_tb) (h4 : Cond.code Lib.MathLoose.max_long.x Lib.MathLoose.max_long.code 4 (some .long) ∈ kx_tb) (hd : 1 ≤ d) (hs : (st.map fun v => v.category).sum ≤ 8)
    (kk : kx_V E I d mc ms Q k j (pc + 3) lv (.long (if y < x then x else y) :: st) n h) : kx_V E I d mc ms Q k j pc lv (.long y :: .long x :: st) n h := by
  intro p e R s m args below meth c H locs ls cells slots C P L V hk hj
  have hc : ((List.map (kx_v (kx_B E)) st).map fun v => v.category).sum = _ := kx_s_cat E st
  have hl := C.lc
  have hf := C.fr
  exact va_mmax_long C.ex C.bt (C.ml.trans V.1.symm) C.own (C.w h1) (C.w h2) (C.w h3) (C.w h4) (by omega) (by omega) (by rw [C.rc]; omega) (by rw [C.rs]; omega) hdg (kk p e R s m args below meth c H locs ls cells slots C P L V hk hj)
theorem kx_minl {index : Nat} {x y : Int64} (hdg : decode I.2.1 pc = .ok (.invokestatic index, 3)) (h1 : Cond.methodLink I.1 index Lib.MathLoose.min_long.x ∈ kx_tb) (h2 : Cond.static Lib.MathLoose.min_long.x ∈ kx_tb) (h3 : Cond.initialized "java/lang/Math" ∈ kx_tb) (h4 : Cond.code Lib.MathLoose.min_long.x Lib.MathLoose.min_long.code 4 (some .long) ∈ kx_tb) (hd : 1 ≤ d) (hs : (st.map fun v => v.category).sum ≤ 8)
    (kk : kx_V E I d mc ms Q k j (pc + 3) lv (.long (if y < x then y else x) :: st) n h) : kx_V E I d mc ms Q k j pc lv (.long y :: .long x :: st) n h := by
  intro p e R s m args below meth c H locs ls cells slots C P L V hk hj
  have hc : ((List.map (kx_v (kx_B E)) st).map fun v => v.category).sum = _ := kx_s_cat E st
  have hl := C.lc
  have hf := C.fr
  exact va_mmin_long C.ex C.bt (C.ml.trans V.1.symm) C.own (C.w h1) (C.w h2) (C.w h3) (C.w h4) (by omega) (by omega) (by rw [C.rc]; omega) (by rw [C.rs]; omega) hdg (kk p e R s m args below meth c H locs ls cells slots C P L V hk hj)
theorem kx_copy {index N a b : Nat} {f g : Nat → Int64} (hdg : decode I.2.1 pc = .ok (.invokestatic index, 3)) (h1 : Cond.methodLink I.1 index arraycopyName ∈ kx_tb) (h2 : Cond.native arraycopyName ∈ kx_tb) (h3 : Cond.static arraycopyName ∈ kx_tb) (h4 : Cond.initialized "java/lang/System" ∈ kx_tb) (ha : h a = some (kx_cl N f)) (hb : h b = some (kx_cl N g)) (hN : N ≤ 100000) (hd : 3 ≤ d) (hs : (st.map fun v => v.category).sum ≤ 8)
    (kk : kx_V E I d mc ms Q k j (pc + 3) lv st n (kx_set h b (kx_cl N (va_cpy f g 0 0 N)))) : kx_V E I d mc ms Q k j pc lv (.int (nI N) :: .int 0 :: .ref b :: .int 0 :: .ref a :: st) n h := by
  intro p e R s m args below meth c H locs ls cells slots C P L V hk hj T hT X
  have hc : ((List.map (kx_v (kx_B E)) st).map fun v => v.category).sum = _ := kx_s_cat E st
  have hl := C.lc
  have hf := C.fr
  have hcl : (nI N).toNatClampNeg = N := nI_clamp (by omega)
  have htI : (nI N).toInt = (N : Int) := nI_toInt (by omega)
  have z0 : (0 : Int32).toNatClampNeg = 0 := rfl
  have zI : (0 : Int32).toInt = 0 := rfl
  have hw : nativeFrameWords "java/lang/System" "arraycopy" 5 + 11 ≤ 100 := by decide +kernel
  have hc0 : H[kx_B E + a]? = some (arrV (E.2.2.2 1) N (fun j => .long (f j))) := P.2.2.2 a _ ha
  have hc1 : H[kx_B E + b]? = some (arrV (E.2.2.2 1) N (fun j => .long (g j))) := P.2.2.2 b _ hb
  obtain ⟨-, k0, hk0, cm0, hkk0⟩ := (C.k.2 1 _ rfl).1 N (fun j => .long (f j))
  obtain ⟨-, k1, hk1, cm1, hkk1⟩ := (C.k.2 1 _ rfl).1 N (fun j => .long (g j))
  obtain ⟨vm', X', step⟩ := X.arraycopy C.ex C.own (C.w h1) (C.w h2) (C.w h3) (C.w h4) (src := kx_B E + a) (dst := kx_B E + b) (cs := arrV (E.2.2.2 1) N (fun j => .long (f j))) (cd := arrV (E.2.2.2 1) N (fun j => .long (g j))) (srcPos := 0) (destPos := 0) (n := nI N) (by rw [hT]; exact hc0) (by rw [hT]; exact hc1)
    (fun _ q => by cases q) (fun _ q => by cases q) (fun q => by cases q) (fun q => by cases q) hk0 hk1 hkk0 hkk1 (by simp [refKind]) (by decide) (by decide) (nI_pos (by omega))
    (by rw [zI, htI, arrV_size]; omega) (by rw [zI, htI, arrV_size]; omega)
    (fun vm₁ _ i hi => by
      rw [hcl] at hi
      have e : (arrV (E.2.2.2 1) N (fun j => .long (f j))).slots.getD ((0 : Int32).toNatClampNeg + i) .null = .long (f i) := by
        rw [z0, Nat.zero_add, Array.getD_eq_getD_getElem?, arrV_read _ _ hi]
        rfl
      refine ⟨?_, ?_⟩
      · rw [e]
        rfl
      · rw [e]
        exact trivial)
    (g := F0 m pc ls (kx_s E (.int (nI N) :: .int 0 :: .ref b :: .int 0 :: .ref a :: st))) rfl (V.1.trans C.ml.symm) (rest := kx_s E st) rfl (by rw [C.bt]; exact hdg) (by omega) (by show 2 * 0 + ((List.map (kx_v (kx_B E)) st).map fun v => v.category).sum + _ ≤ _; omega)
  have e1 : copied (arrV (E.2.2.2 1) N (fun j => .long (f j))) (arrV (E.2.2.2 1) N (fun j => .long (g j))) 0 0 (nI N) = arrV (E.2.2.2 1) N (fun j => .long (va_cpy f g 0 0 N j)) := by
    have e0 := va_copied (fun z => Value.long z) (E.2.2.2 1) (E.2.2.2 1) (n0 := N) (n1 := N) (sp := 0) (dp := 0) (n := N) f g (by omega)
    unfold copied
    rw [hcl, z0]
    exact e0
  rw [e1] at X' step
  have hlt : kx_B E + b < H.size := (Array.getElem?_eq_some_iff.mp hc1).1
  have hheap : ((T.setVm vm').setCell (kx_B E + b) (arrV (E.2.2.2 1) N (fun j => .long (va_cpy f g 0 0 N j)))).heap = H.setIfInBounds (kx_B E + b) (arrV (E.2.2.2 1) N (fun j => .long (va_cpy f g 0 0 N j))) := by rw [← hT]; rfl
  obtain ⟨t, a1, b1⟩ := kk p e R s m args below meth c (H.setIfInBounds (kx_B E + b) (arrV (E.2.2.2 1) N (fun j => .long (va_cpy f g 0 0 N j)))) _ ls cells slots C (P.set (by simp) (fun q hq => by simp [Array.getElem?_setIfInBounds, Ne.symm hq]) (by show (H.setIfInBounds _ _)[_]? = some _; simp [Array.getElem?_setIfInBounds, hlt])) (fun q hq => by
      rcases List.mem_append.mp hq with g | g
      · exact L q g
      · obtain ⟨z, -, hz⟩ := List.mem_map.mp g
        rw [← hz]
        exact Nat.le_add_right _ _) V hk hj _ hheap X'
  exact ⟨t, step t a1, b1⟩
end KXM
end
section
abbrev kW : Type := (Nat → Nat → Int32) × (Nat → Nat → Int64) × (Nat → Nat → Int32)
def wk (i : Nat) : Nat × Nat :=
  if i = 0 then (3, kc_EK) else if i = 1 then (3, kc_L) else if i = 5 then (2, 500) else if i < 9 then (1, 500) else if i = 9 then (1, 16) else if i = 10 then (1, 8) else if i = 11 then (4, 0)
  else if i < 52 then (if (i - 12) % 5 = 0 then (3, kc_P) else if (i - 12) % 5 < 3 then (1, 8) else (2, 16))
  else if i = 52 then (4, 1) else if i < 61 then (3, kc_S) else if i = 61 then (3, kc_M) else if i < 66 then (1, 500) else if i = 66 then (2, 500) else if i < 69 then (2, 128) else if i < 71 then (1, 64) else if i < 78 then (1, 8) else if i = 78 then (2, 1) else (0, 0)
def wf (i k : Nat) : Option Nat :=
  if i = 0 then (if k = 0 then some 1 else if k = 1 then some 11 else some 52) else if i = 1 then (if k < 9 then some (2 + k) else none)
  else if i = 61 then (if k < 3 then none else some (59 + k)) else if i < 12 then none else if i < 52 then (if k = 1 then some (i + 1) else if k = 2 then some (i + 2) else if k = 3 then some (i + 3) else if k = 5 then some (i + 4) else none) else none
def wq (i k : Nat) : Option Nat := if i = 11 then (if k < 8 then some (12 + 5 * k) else none) else (if k < 8 then some (53 + k) else none)
def wn (ci : Nat) : Nat := if ci = kc_EK then 3 else if ci = kc_L then 11 else if ci = kc_P then 8 else if ci = kc_S then 4 else 19
def wd (w : kW) : kx_H := fun i => match wk i with
  | (1, N) => some (kx_ci N (w.1 i))
  | (2, N) => some (kx_cl N (w.2.1 i))
  | (3, ci) => some (kx_co ci ((List.range (wn ci)).map (fun k => match wf i k with | some r => Value.ref r | none => Value.int (w.2.2 i k))))
  | (4, t) => some (kx_cq t 8 (wq i))
  | _ => none
def ui (w : kW) (i k : Nat) (x : Int32) : kW := (fun a => if a = i then upd (w.1 a) k x else w.1 a, w.2)
def ul (w : kW) (i k : Nat) (x : Int64) : kW := (w.1, fun a => if a = i then vp_updL (w.2.1 a) k x else w.2.1 a, w.2.2)
def uL (w : kW) (i : Nat) (f : Nat → Int64) : kW := (w.1, fun a => if a = i then f else w.2.1 a, w.2.2)
def uo (w : kW) (i k : Nat) (x : Int32) : kW := (w.1, w.2.1, fun a b => if a = i ∧ b = k then x else w.2.2 a b)
theorem wd_i {w : kW} {i N : Nat} (hk : wk i = (1, N)) : wd w i = some (kx_ci N (w.1 i)) := by simp [wd, hk]
theorem wd_l {w : kW} {i N : Nat} (hk : wk i = (2, N)) : wd w i = some (kx_cl N (w.2.1 i)) := by simp [wd, hk]
theorem wd_q {w : kW} {i t : Nat} (hk : wk i = (4, t)) : wd w i = some (kx_cq t 8 (wq i)) := by simp [wd, hk]
theorem wd_o {w : kW} {i ci : Nat} (hk : wk i = (3, ci)) : wd w i = some (kx_co ci ((List.range (wn ci)).map (fun k => match wf i k with | some r => Value.ref r | none => Value.int (w.2.2 i k)))) := by simp [wd, hk]
theorem wd_si {w : kW} {i N k : Nat} {x : Int32} (hk : wk i = (1, N)) : kx_set (wd w) i (kx_ci N (upd (w.1 i) k x)) = wd (ui w i k x) := by
  funext a
  by_cases h : a = i
  · subst h
    rw [kx_set_s, wd_i hk]
    simp [ui]
  · rw [kx_set_n h]
    simp only [wd, ui, if_neg h]
theorem wd_sl {w : kW} {i N k : Nat} {x : Int64} (hk : wk i = (2, N)) : kx_set (wd w) i (kx_cl N (vp_updL (w.2.1 i) k x)) = wd (ul w i k x) := by
  funext a
  by_cases h : a = i
  · subst h
    rw [kx_set_s, wd_l hk]
    simp [ul]
  · rw [kx_set_n h]
    simp only [wd, ul, if_neg h]
theorem wd_sL {w : kW} {i N : Nat} {f : Nat → Int64} (hk : wk i = (2, N)) : kx_set (wd w) i (kx_cl N f) = wd (uL w i f) := by
  funext a
  by_cases h : a = i
  · subst h
    rw [kx_set_s, wd_l hk]
    simp [uL]
  · rw [kx_set_n h]
    simp only [wd, uL, if_neg h]
theorem wd_so {w : kW} {i ci k : Nat} {x : Int32} (hk : wk i = (3, ci)) (hf : wf i k = none) : kx_set (wd w) i (kx_co ci (((List.range (wn ci)).map (fun k => match wf i k with | some r => Value.ref r | none => Value.int (w.2.2 i k))).set k (.int x))) = wd (uo w i k x) := by
  funext a
  by_cases h : a = i
  · subst h
    rw [kx_set_s, wd_o hk]
    congr 3
    apply List.ext_getElem?
    intro z
    rw [List.getElem?_set, List.getElem?_map, List.getElem?_map]
    by_cases hz : k = z
    · subst hz
      by_cases hl : k < wn ci
      · simp [hl, hf, uo]
      · simp [hl]
    · rw [if_neg hz]
      by_cases hl : z < wn ci
      · rw [List.getElem?_range hl]
        have hz2 : ¬ z = k := fun q => hz q.symm
        simp [uo, hz2]
      · simp [hl]
  · rw [kx_set_n h]
    have h' : ∀ z, ¬ (a = i ∧ z = k) := fun z q => h q.1
    simp only [wd, uo, if_neg (h' _)]
def wx (a b : kW) : kW := (fun i => if i < 61 then a.1 i else b.1 i, fun i => if i < 61 then a.2.1 i else b.2.1 i, fun i k => if i < 61 then a.2.2 i k else b.2.2 i k)
theorem wx_ai {a b : kW} {i : Nat} (h : i < 61) : (wx a b).1 i = a.1 i := by simp [wx, h]
theorem wx_al {a b : kW} {i : Nat} (h : i < 61) : (wx a b).2.1 i = a.2.1 i := by simp [wx, h]
theorem wx_ao {a b : kW} {i k : Nat} (h : i < 61) : (wx a b).2.2 i k = a.2.2 i k := by simp [wx, h]
theorem wx_bi {a b : kW} {i : Nat} (h : 61 ≤ i) : (wx a b).1 i = b.1 i := by simp [wx, Nat.not_lt.mpr h]
theorem wx_bl {a b : kW} {i : Nat} (h : 61 ≤ i) : (wx a b).2.1 i = b.2.1 i := by simp [wx, Nat.not_lt.mpr h]
theorem wx_bo {a b : kW} {i k : Nat} (h : 61 ≤ i) : (wx a b).2.2 i k = b.2.2 i k := by simp [wx, Nat.not_lt.mpr h]
theorem ui_xa {a b : kW} {i k : Nat} {x : Int32} (h : i < 61) : ui (wx a b) i k x = wx (ui a i k x) b := by
  refine Prod.ext (funext fun z => ?_) rfl
  by_cases e : z = i
  · subst e
    simp [wx, ui, h]
  · by_cases e2 : z < 61 <;> simp [wx, ui, e, e2]
theorem ul_xa {a b : kW} {i k : Nat} {x : Int64} (h : i < 61) : ul (wx a b) i k x = wx (ul a i k x) b := by
  refine Prod.ext rfl (Prod.ext (funext fun z => ?_) rfl)
  by_cases e : z = i
  · subst e
    simp [wx, ul, h]
  · by_cases e2 : z < 61 <;> simp [wx, ul, e, e2]
theorem uL_xa {a b : kW} {i : Nat} {f : Nat → Int64} (h : i < 61) : uL (wx a b) i f = wx (uL a i f) b := by
  refine Prod.ext rfl (Prod.ext (funext fun z => ?_) rfl)
  by_cases e : z = i
  · subst e
    simp [wx, uL, h]
  · by_cases e2 : z < 61 <;> simp [wx, uL, e, e2]
theorem uo_xa {a b : kW} {i k : Nat} {x : Int32} (h : i < 61) : uo (wx a b) i k x = wx (uo a i k x) b := by
  refine Prod.ext rfl (Prod.ext rfl (funext fun z => funext fun y => ?_))
  by_cases e : z = i
  · subst e
    simp [wx, uo, h]
  · by_cases e2 : z < 61 <;> simp [wx, uo, e, e2]
theorem ui_xb {a b : kW} {i k : Nat} {x : Int32} (h : 61 ≤ i) : ui (wx a b) i k x = wx a (ui b i k x) := by
  refine Prod.ext (funext fun z => ?_) rfl
  by_cases e : z = i
  · subst e
    simp [wx, ui, Nat.not_lt.mpr h]
  · by_cases e2 : z < 61 <;> simp [wx, ui, e, e2]
theorem ul_xb {a b : kW} {i k : Nat} {x : Int64} (h : 61 ≤ i) : ul (wx a b) i k x = wx a (ul b i k x) := by
  refine Prod.ext rfl (Prod.ext (funext fun z => ?_) rfl)
  by_cases e : z = i
  · subst e
    simp [wx, ul, Nat.not_lt.mpr h]
  · by_cases e2 : z < 61 <;> simp [wx, ul, e, e2]
theorem uL_xb {a b : kW} {i : Nat} {f : Nat → Int64} (h : 61 ≤ i) : uL (wx a b) i f = wx a (uL b i f) := by
  refine Prod.ext rfl (Prod.ext (funext fun z => ?_) rfl)
  by_cases e : z = i
  · subst e
    simp [wx, uL, Nat.not_lt.mpr h]
  · by_cases e2 : z < 61 <;> simp [wx, uL, e, e2]
theorem uo_xb {a b : kW} {i k : Nat} {x : Int32} (h : 61 ≤ i) : uo (wx a b) i k x = wx a (uo b i k x) := by
  refine Prod.ext rfl (Prod.ext rfl (funext fun z => funext fun y => ?_))
  by_cases e : z = i
  · subst e
    simp [wx, uo, Nat.not_lt.mpr h]
  · by_cases e2 : z < 61 <;> simp [wx, uo, e, e2]
section KWR
variable {E : kx_E} {I : kx_I} {d mc ms : Nat} {Q : kx_Q} {k j pc : Nat} {lv : List (Nat × Value)} {st : List Value} {n : Nat} {a b : kW}
theorem ka_iald {i N ix : Nat} {x : Int32} (hdg : decode I.2.1 pc = .ok (.iaload, 1)) (hi : i < 61) (hk : wk i = (1, N)) (hx : kx_ix x ix N) (kk : kx_V E I d mc ms Q k j (pc + 1) lv (.int (a.1 i ix) :: st) n (wd (wx a b))) : kx_V E I d mc ms Q k j pc lv (.int x :: .ref i :: st) n (wd (wx a b)) := kx_iald hdg (wd_i hk) hx (by rw [wx_ai hi]; exact kk)
theorem ka_lald {i N ix : Nat} {x : Int32} (hdg : decode I.2.1 pc = .ok (.laload, 1)) (hi : i < 61) (hk : wk i = (2, N)) (hx : kx_ix x ix N) (kk : kx_V E I d mc ms Q k j (pc + 1) lv (.long (a.2.1 i ix) :: st) n (wd (wx a b))) : kx_V E I d mc ms Q k j pc lv (.int x :: .ref i :: st) n (wd (wx a b)) := kx_lald hdg (wd_l hk) hx (by rw [wx_al hi]; exact kk)
theorem ka_iast {i N ix : Nat} {x y : Int32} (hdg : decode I.2.1 pc = .ok (.iastore, 1)) (hi : i < 61) (hk : wk i = (1, N)) (hx : kx_ix x ix N) (kk : kx_V E I d mc ms Q k j (pc + 1) lv st n (wd (wx (ui a i ix y) b))) : kx_V E I d mc ms Q k j pc lv (.int y :: .int x :: .ref i :: st) n (wd (wx a b)) := kx_iast hdg (wd_i hk) hx (kx_eqh ((wd_si hk).trans (congrArg wd (ui_xa hi))) kk)
theorem ka_last {i N ix : Nat} {x : Int32} {y : Int64} (hdg : decode I.2.1 pc = .ok (.lastore, 1)) (hi : i < 61) (hk : wk i = (2, N)) (hx : kx_ix x ix N) (kk : kx_V E I d mc ms Q k j (pc + 1) lv st n (wd (wx (ul a i ix y) b))) : kx_V E I d mc ms Q k j pc lv (.long y :: .int x :: .ref i :: st) n (wd (wx a b)) := kx_last hdg (wd_l hk) hx (kx_eqh ((wd_sl hk).trans (congrArg wd (ul_xa hi))) kk)
theorem ka_geti {index i ci kf : Nat} (hdg : decode I.2.1 pc = .ok (.getfield index, 3)) (hf : kx_fl I.1 index ci kf) (hi : i < 61) (hk : wk i = (3, ci)) (hl : kf < wn ci) (hw : wf i kf = none) (kk : kx_V E I d mc ms Q k j (pc + 3) lv (.int (a.2.2 i kf) :: st) n (wd (wx a b))) : kx_V E I d mc ms Q k j pc lv (.ref i :: st) n (wd (wx a b)) :=
  kx_get (v := .int (a.2.2 i kf)) hdg hf (wd_o hk) (by simp [hl, hw, wx_ao hi]) kk
theorem ka_puti {index i ci kf : Nat} {x : Int32} (hdg : decode I.2.1 pc = .ok (.putfield index, 3)) (hf : kx_fl I.1 index ci kf) (hfw : kx_fw I.1 I.2.2.2.2.2 ci kf .int) (hi : i < 61) (hk : wk i = (3, ci)) (hl : kf < wn ci) (hw : wf i kf = none) (kk : kx_V E I d mc ms Q k j (pc + 3) lv st n (wd (wx (uo a i kf x) b))) : kx_V E I d mc ms Q k j pc lv (.int x :: .ref i :: st) n (wd (wx a b)) :=
  kx_put hdg hf hfw (wd_o hk) (fun _ => rfl) (fun _ => rfl) (by simp [hl]) (kx_eqh ((wd_so hk hw).trans (congrArg wd (uo_xa hi))) kk)
theorem km_iald {i N ix : Nat} {x : Int32} (hdg : decode I.2.1 pc = .ok (.iaload, 1)) (hi : 61 ≤ i) (hk : wk i = (1, N)) (hx : kx_ix x ix N) (kk : kx_V E I d mc ms Q k j (pc + 1) lv (.int (b.1 i ix) :: st) n (wd (wx a b))) : kx_V E I d mc ms Q k j pc lv (.int x :: .ref i :: st) n (wd (wx a b)) := kx_iald hdg (wd_i hk) hx (by rw [wx_bi hi]; exact kk)
theorem km_lald {i N ix : Nat} {x : Int32} (hdg : decode I.2.1 pc = .ok (.laload, 1)) (hi : 61 ≤ i) (hk : wk i = (2, N)) (hx : kx_ix x ix N) (kk : kx_V E I d mc ms Q k j (pc + 1) lv (.long (b.2.1 i ix) :: st) n (wd (wx a b))) : kx_V E I d mc ms Q k j pc lv (.int x :: .ref i :: st) n (wd (wx a b)) := kx_lald hdg (wd_l hk) hx (by rw [wx_bl hi]; exact kk)
theorem km_iast {i N ix : Nat} {x y : Int32} (hdg : decode I.2.1 pc = .ok (.iastore, 1)) (hi : 61 ≤ i) (hk : wk i = (1, N)) (hx : kx_ix x ix N) (kk : kx_V E I d mc ms Q k j (pc + 1) lv st n (wd (wx a (ui b i ix y)))) : kx_V E I d mc ms Q k j pc lv (.int y :: .int x :: .ref i :: st) n (wd (wx a b)) := kx_iast hdg (wd_i hk) hx (kx_eqh ((wd_si hk).trans (congrArg wd (ui_xb hi))) kk)
theorem km_last {i N ix : Nat} {x : Int32} {y : Int64} (hdg : decode I.2.1 pc = .ok (.lastore, 1)) (hi : 61 ≤ i) (hk : wk i = (2, N)) (hx : kx_ix x ix N) (kk : kx_V E I d mc ms Q k j (pc + 1) lv st n (wd (wx a (ul b i ix y)))) : kx_V E I d mc ms Q k j pc lv (.long y :: .int x :: .ref i :: st) n (wd (wx a b)) := kx_last hdg (wd_l hk) hx (kx_eqh ((wd_sl hk).trans (congrArg wd (ul_xb hi))) kk)
theorem km_geti {index i ci kf : Nat} (hdg : decode I.2.1 pc = .ok (.getfield index, 3)) (hf : kx_fl I.1 index ci kf) (hi : 61 ≤ i) (hk : wk i = (3, ci)) (hl : kf < wn ci) (hw : wf i kf = none) (kk : kx_V E I d mc ms Q k j (pc + 3) lv (.int (b.2.2 i kf) :: st) n (wd (wx a b))) : kx_V E I d mc ms Q k j pc lv (.ref i :: st) n (wd (wx a b)) :=
  kx_get (v := .int (b.2.2 i kf)) hdg hf (wd_o hk) (by simp [hl, hw, wx_bo hi]) kk
theorem km_puti {index i ci kf : Nat} {x : Int32} (hdg : decode I.2.1 pc = .ok (.putfield index, 3)) (hf : kx_fl I.1 index ci kf) (hfw : kx_fw I.1 I.2.2.2.2.2 ci kf .int) (hi : 61 ≤ i) (hk : wk i = (3, ci)) (hl : kf < wn ci) (hw : wf i kf = none) (kk : kx_V E I d mc ms Q k j (pc + 3) lv st n (wd (wx a (uo b i kf x)))) : kx_V E I d mc ms Q k j pc lv (.int x :: .ref i :: st) n (wd (wx a b)) :=
  kx_put hdg hf hfw (wd_o hk) (fun _ => rfl) (fun _ => rfl) (by simp [hl]) (kx_eqh ((wd_so hk hw).trans (congrArg wd (uo_xb hi))) kk)
theorem kw_getr {index i ci kf r : Nat} {w : kW} (hdg : decode I.2.1 pc = .ok (.getfield index, 3)) (hf : kx_fl I.1 index ci kf) (hk : wk i = (3, ci)) (hl : kf < wn ci) (hw : wf i kf = some r) (kk : kx_V E I d mc ms Q k j (pc + 3) lv (.ref r :: st) n (wd (w))) : kx_V E I d mc ms Q k j pc lv (.ref i :: st) n (wd (w)) :=
  kx_get hdg hf (wd_o hk) (by simp [hl, hw]) kk
theorem kw_aald {i t ix r : Nat} {x : Int32} {w : kW} (hdg : decode I.2.1 pc = .ok (.aaload, 1)) (ht : ∃ Cn, ∀ aC, (kx_tys aC)[2 + t]? = some (aC (2 + t), .object Cn)) (hk : wk i = (4, t)) (hx : kx_ix x ix 8) (hb : wq i ix = some r) (kk : kx_V E I d mc ms Q k j (pc + 1) lv (.ref r :: st) n (wd (w))) : kx_V E I d mc ms Q k j pc lv (.int x :: .ref i :: st) n (wd (w)) := kx_aald hdg ht (wd_q hk) hx hb kk
end KWR
theorem ui_s {w : kW} {i k : Nat} {x : Int32} : (ui w i k x).1 i k = x := by simp [ui, upd]
theorem ui_k {w : kW} {i k a : Nat} {x : Int32} (h : a ≠ k) : (ui w i k x).1 i a = w.1 i a := by simp [ui, upd, h]
theorem ui_n {w : kW} {i k a : Nat} {x : Int32} (h : a ≠ i) : (ui w i k x).1 a = w.1 a := by simp [ui, h]
theorem ul_s {w : kW} {i k : Nat} {x : Int64} : (ul w i k x).2.1 i k = x := by simp [ul, vp_updL]
theorem ul_k {w : kW} {i k a : Nat} {x : Int64} (h : a ≠ k) : (ul w i k x).2.1 i a = w.2.1 i a := by simp [ul, vp_updL, h]
theorem ul_n {w : kW} {i k a : Nat} {x : Int64} (h : a ≠ i) : (ul w i k x).2.1 a = w.2.1 a := by simp [ul, h]
theorem uo_s {w : kW} {i k : Nat} {x : Int32} : (uo w i k x).2.2 i k = x := by simp [uo]
theorem uo_k {w : kW} {i k a : Nat} {x : Int32} (h : a ≠ k) : (uo w i k x).2.2 i a = w.2.2 i a := by simp [uo, h]
theorem uo_n {w : kW} {i k a b : Nat} {x : Int32} (h : a ≠ i) : (uo w i k x).2.2 a b = w.2.2 a b := by simp [uo, h]
theorem wk_p0 {p : Nat} (h : p < 8) : wk (12 + 5 * p) = (3, kc_P) := by revert p; decide
theorem wk_p1 {p : Nat} (h : p < 8) : wk (12 + 5 * p + 1) = (1, 8) := by revert p; decide
theorem wk_p2 {p : Nat} (h : p < 8) : wk (12 + 5 * p + 2) = (1, 8) := by revert p; decide
theorem wk_p3 {p : Nat} (h : p < 8) : wk (12 + 5 * p + 3) = (2, 16) := by revert p; decide
theorem wk_p4 {p : Nat} (h : p < 8) : wk (12 + 5 * p + 4) = (2, 16) := by revert p; decide
theorem wf_p1 {p : Nat} (h : p < 8) : wf (12 + 5 * p) 1 = some (12 + 5 * p + 1) := by revert p; decide
theorem wf_p2 {p : Nat} (h : p < 8) : wf (12 + 5 * p) 2 = some (12 + 5 * p + 2) := by revert p; decide
theorem wf_p3 {p : Nat} (h : p < 8) : wf (12 + 5 * p) 3 = some (12 + 5 * p + 3) := by revert p; decide
theorem wf_p5 {p : Nat} (h : p < 8) : wf (12 + 5 * p) 5 = some (12 + 5 * p + 4) := by revert p; decide
theorem wf_p0 {p : Nat} (h : p < 8) : wf (12 + 5 * p) 0 = none := by revert p; decide
theorem wf_p4 {p : Nat} (h : p < 8) : wf (12 + 5 * p) 4 = none := by revert p; decide
theorem wf_p6 {p : Nat} (h : p < 8) : wf (12 + 5 * p) 6 = none := by revert p; decide
theorem wf_p7 {p : Nat} (h : p < 8) : wf (12 + 5 * p) 7 = none := by revert p; decide
theorem wk_s {u : Nat} (h : u < 8) : wk (53 + u) = (3, kc_S) := by revert u; decide
theorem wf_s {u k : Nat} (h : u < 8) (hk : k < 4) : wf (53 + u) k = none := by
  have : ∀ u, u < 8 → ∀ k, k < 4 → wf (53 + u) k = none := by decide
  exact this u h k hk
theorem wq_p {p : Nat} (h : p < 8) : wq 11 p = some (12 + 5 * p) := by simp [wq, h]
theorem wq_s {u : Nat} (h : u < 8) : wq 52 u = some (53 + u) := by simp [wq, h]
end
section
def cn (f : Nat → Int32) (x : Int32) : Nat → Nat
  | 0 => 0
  | k + 1 => cn f x k + (if f k = x then 1 else 0)
theorem cn_le (f : Nat → Int32) (x : Int32) : ∀ k, cn f x k ≤ k
  | 0 => Nat.le_refl 0
  | k + 1 => by
    have h := cn_le f x k
    unfold cn
    split <;> omega
theorem cn_mono (f : Nat → Int32) (x : Int32) {a : Nat} : ∀ {b : Nat}, a ≤ b → cn f x a ≤ cn f x b
  | 0, h => by rw [Nat.le_zero.mp h]; exact Nat.le_refl _
  | b + 1, h => by
    rcases Nat.lt_or_ge b a with q | q
    · rw [show a = b + 1 by omega]; exact Nat.le_refl _
    · have := cn_mono f x q
      show _ ≤ cn f x b + _
      omega
theorem cn_congr {f g : Nat → Int32} (x : Int32) : ∀ {k : Nat}, (∀ i, i < k → f i = g i) → cn f x k = cn g x k
  | 0, _ => rfl
  | k + 1, h => by
    show cn f x k + _ = cn g x k + _
    rw [cn_congr x (fun i hi => h i (by omega)), h k (by omega)]
theorem cn_upd {f : Nat → Int32} {x y : Int32} {i k : Nat} (h : k ≤ i) : cn (upd f i y) x k = cn f x k :=
  cn_congr x (fun a ha => pk_un (by omega))
theorem cn_put {f : Nat → Int32} {x y : Int32} {k : Nat} : cn (upd f k y) x (k + 1) = cn f x k + (if y = x then 1 else 0) := by
  show cn (upd f k y) x k + (if upd f k y k = x then 1 else 0) = _
  rw [cn_upd (Nat.le_refl k), pk_us]
theorem nI_inj {a b : Nat} (ha : a < 2 ^ 31) (hb : b < 2 ^ 31) (h : nI a = nI b) : a = b := (nI_eq ha hb).mp h
theorem nI_m1 {a : Nat} (ha : a < 2 ^ 31) : ¬ ((-1 : Int32) = nI a) := by
  intro h
  have h1 : (-1 : Int32).toInt = (nI a).toInt := by rw [h]
  rw [nI_toInt ha] at h1
  have h2 : (-1 : Int32).toInt = -1 := by decide
  omega
def LgA (st ki co ca : Nat → Int32) (sz : Nat) : Prop := ∀ k, k < sz → (∃ s, s < 16 ∧ st k = nI s) ∧ (∃ t, t < 8 ∧ ki k = nI t) ∧ ((co k = -1) ∨ ∃ p c, p < 8 ∧ c < k ∧ co k = nI p ∧ ca k = nI c)
def LgV (ve st : Nat → Int32) (sz : Nat) : Prop := ∀ k, k < sz → ve k = nI (cn st (st k) k)
def LgS (ss st : Nat → Int32) (sz : Nat) : Prop := ∀ s, s < 16 → ss s = nI (cn st (nI s) sz)
def LgE (es co : Nat → Int32) (sz : Nat) : Prop := ∀ p, p < 8 → es p = nI (cn co (nI p) sz)
def LgH (co ca : Nat → Int32) (lo sz p c : Nat) : Prop := ∃ k, lo ≤ k ∧ k < sz ∧ co k = nI p ∧ ca k = nI c
def LgB (em co ca : Nat → Int32) (sz : Nat) : Prop := ∀ c p, c < 500 → p < 8 → (em c &&& ((1 : Int32) <<< (nI p &&& 31)) = 0 ↔ ¬ LgH co ca 0 sz p c)
def LgU (co ca : Nat → Int32) (sz : Nat) : Prop := ∀ k k' p, k < sz → k' < sz → p < 8 → co k = nI p → co k' = nI p → ca k = ca k' → k = k'
section Put
variable {st ki co ca ve ss es em : Nat → Int32} {sz s t p c : Nat}
theorem LgA.put (h : LgA st ki co ca sz) (hs : s < 16) (ht : t < 8) : LgA (upd st sz (nI s)) (upd ki sz (nI t)) (upd co sz (-1)) (upd ca sz (-1)) (sz + 1) := by
  intro k hk
  by_cases e : k = sz
  · subst e
    exact ⟨⟨s, hs, pk_us⟩, ⟨t, ht, pk_us⟩, Or.inl pk_us⟩
  · rw [pk_un e, pk_un e, pk_un e, pk_un e]
    exact h k (by omega)
theorem LgA.emit (h : LgA st ki co ca sz) (hs : s < 16) (ht : t < 8) (hp : p < 8) (hc : c < sz) : LgA (upd st sz (nI s)) (upd ki sz (nI t)) (upd co sz (nI p)) (upd ca sz (nI c)) (sz + 1) := by
  intro k hk
  by_cases e : k = sz
  · subst e
    exact ⟨⟨s, hs, pk_us⟩, ⟨t, ht, pk_us⟩, Or.inr ⟨p, c, hp, hc, pk_us, pk_us⟩⟩
  · rw [pk_un e, pk_un e, pk_un e, pk_un e]
    exact h k (by omega)
theorem LgV.put (h : LgV ve st sz) (hS : LgS ss st sz) (hs : s < 16) : LgV (upd ve sz (ss s)) (upd st sz (nI s)) (sz + 1) := by
  intro k hk
  by_cases e : k = sz
  · subst e
    rw [pk_us, pk_us, cn_upd (Nat.le_refl k)]
    exact hS s hs
  · rw [pk_un e, pk_un e, cn_upd (by omega)]
    exact h k (by omega)
theorem LgS.put (h : LgS ss st sz) (hs : s < 16) : LgS (upd ss s (ss s + 1)) (upd st sz (nI s)) (sz + 1) := by
  intro a ha
  rw [cn_put]
  by_cases e : a = s
  · subst e
    rw [pk_us, if_pos rfl, h a ha, nI_1]
  · rw [pk_un e, if_neg (fun q => e (nI_inj (by omega) (by omega) q).symm)]
    exact h a ha
theorem LgE.put (h : LgE es co sz) : LgE es (upd co sz (-1)) (sz + 1) := by
  intro a ha
  rw [cn_put, if_neg (nI_m1 (by omega))]
  exact h a ha
theorem LgE.emit (h : LgE es co sz) (hp : p < 8) : LgE (upd es p (es p + 1)) (upd co sz (nI p)) (sz + 1) := by
  intro a ha
  rw [cn_put]
  by_cases e : a = p
  · subst e
    rw [pk_us, if_pos rfl, h a ha, nI_1]
  · rw [pk_un e, if_neg (fun q => e (nI_inj (by omega) (by omega) q).symm)]
    exact h a ha
theorem LgH.up {lo a : Nat} {x y : Int32} (hx : ¬ (x = nI p ∧ y = nI c)) : LgH (upd co sz x) (upd ca sz y) lo (sz + 1) p c ↔ LgH co ca lo sz p c := by
  constructor
  · rintro ⟨k, h0, h1, h2, h3⟩
    by_cases e : k = sz
    · subst e
      rw [pk_us] at h2 h3
      exact absurd ⟨h2, h3⟩ hx
    · rw [pk_un e] at h2 h3
      exact ⟨k, h0, by omega, h2, h3⟩
  · rintro ⟨k, h0, h1, h2, h3⟩
    exact ⟨k, h0, by omega, by rw [pk_un (by omega)]; exact h2, by rw [pk_un (by omega)]; exact h3⟩
theorem LgB.put (h : LgB em co ca sz) : LgB em (upd co sz (-1)) (upd ca sz (-1)) (sz + 1) := by
  intro c p hc hp
  rw [h c p hc hp, LgH.up (a := 0) (fun q => nI_m1 (by omega) q.1)]
theorem LgU.put (h : LgU co ca sz) : LgU (upd co sz (-1)) (upd ca sz (-1)) (sz + 1) := by
  intro k k' p hk hk' hp h1 h2 h3
  have e1 : k ≠ sz := fun e => by
    subst e
    rw [pk_us] at h1
    exact nI_m1 (by omega) h1
  have e2 : k' ≠ sz := fun e => by
    subst e
    rw [pk_us] at h2
    exact nI_m1 (by omega) h2
  rw [pk_un e1] at h1 h3
  rw [pk_un e2] at h2 h3
  exact h k k' p (by omega) (by omega) hp h1 h2 h3
theorem LgU.emit (h : LgU co ca sz) (hp : p < 8) (hn : ¬ LgH co ca 0 sz p c) : LgU (upd co sz (nI p)) (upd ca sz (nI c)) (sz + 1) := by
  intro k k' p' hk hk' hp' h1 h2 h3
  by_cases e1 : k = sz <;> by_cases e2 : k' = sz
  · omega
  · subst e1
    rw [pk_us] at h1 h3
    rw [pk_un e2] at h2 h3
    have hpp : p = p' := nI_inj (by omega) (by omega) h1
    subst hpp
    exact absurd ⟨k', Nat.zero_le _, by omega, h2, h3.symm⟩ hn
  · subst e2
    rw [pk_us] at h2 h3
    rw [pk_un e1] at h1 h3
    have hpp : p = p' := nI_inj (by omega) (by omega) h2
    subst hpp
    exact absurd ⟨k, Nat.zero_le _, by omega, h1, h3⟩ hn
  · rw [pk_un e1] at h1 h3
    rw [pk_un e2] at h2 h3
    exact h k k' p' (by omega) (by omega) hp' h1 h2 h3
end Put
def kb (p : Nat) : Int32 := (1 : Int32) <<< (nI p &&& 31)
theorem kb_bv : ∀ p, p < 8 → (kb p).toBitVec = BitVec.twoPow 32 p := by decide +kernel
theorem kb_bit (x : Int32) {p : Nat} (hp : p < 8) : x &&& kb p = 0 ↔ x.toBitVec.getLsbD p = false := by
  rw [← Int32.toBitVec_inj]
  rw [Int32.toBitVec_and, kb_bv p hp]
  have h0 : (0 : Int32).toBitVec = 0#32 := rfl
  rw [h0, BitVec.and_twoPow]
  cases h : x.toBitVec.getLsbD p
  · simp
  · simp only [if_true]
    constructor
    · intro q
      exfalso
      have := congrArg (fun z : BitVec 32 => z.getLsbD p) q
      simp [BitVec.getLsbD_twoPow, show p < 32 by omega] at this
    · intro q; cases q
theorem kb_or (x : Int32) {p q : Nat} (hp : p < 8) (hq : q < 8) : (x ||| kb p) &&& kb q = 0 ↔ q ≠ p ∧ x &&& kb q = 0 := by
  rw [kb_bit _ hq, kb_bit _ hq, Int32.toBitVec_or, kb_bv p hp, BitVec.getLsbD_or, BitVec.getLsbD_twoPow]
  simp only [Bool.or_eq_false_iff]
  constructor
  · rintro ⟨a, b⟩
    refine ⟨fun e => ?_, a⟩
    subst e
    simp [show q < 32 by omega] at b
  · rintro ⟨a, b⟩
    refine ⟨b, ?_⟩
    simp [Ne.symm a]
theorem kb_clr (x : Int32) {p q : Nat} (hp : p < 8) (hq : q < 8) : (x &&& (kb p ^^^ (-1))) &&& kb q = 0 ↔ q = p ∨ x &&& kb q = 0 := by
  rw [kb_bit _ hq, kb_bit _ hq, Int32.toBitVec_and, Int32.toBitVec_xor, kb_bv p hp, BitVec.getLsbD_and, BitVec.getLsbD_xor, BitVec.getLsbD_twoPow]
  have h1 : ((-1 : Int32).toBitVec).getLsbD q = true := by
    have : ∀ q, q < 8 → ((-1 : Int32).toBitVec).getLsbD q = true := by decide +kernel
    exact this q hq
  rw [h1]
  by_cases e : q = p
  · subst e
    simp [show q < 32 by omega]
  · have e' : ¬ p = q := fun z => e z.symm
    simp [e, e']
theorem LgB.emit {em co ca : Nat → Int32} {sz p c : Nat} (h : LgB em co ca sz) (hp : p < 8) (hc : c < 500) : LgB (upd em c (em c ||| kb p)) (upd co sz (nI p)) (upd ca sz (nI c)) (sz + 1) := by
  intro c' p' hc' hp'
  have hnew : LgH (upd co sz (nI p)) (upd ca sz (nI c)) 0 (sz + 1) p c := ⟨sz, Nat.zero_le _, by omega, pk_us, pk_us⟩
  by_cases e1 : c' = c
  · subst e1
    rw [pk_us]
    show (em c' ||| kb p) &&& kb p' = 0 ↔ _
    rw [kb_or _ hp hp']
    by_cases e2 : p' = p
    · subst e2
      exact ⟨fun q => absurd rfl q.1, fun q => absurd hnew q⟩
    · rw [LgH.up (a := 0) (fun q => e2 (nI_inj (by omega) (by omega) q.1).symm), ← h c' p' hc' hp']
      exact ⟨fun q => q.2, fun q => ⟨e2, q⟩⟩
  · rw [pk_un e1, h c' p' hc' hp', LgH.up (a := 0) (fun q => e1 (nI_inj (by omega) (by omega) q.2).symm)]
def CrS (ss st : Nat → Int32) (du q sz : Nat) : Prop := ∀ s, s < 16 → ss s = nI (cn st (nI s) sz - (cn st (nI s) q - cn st (nI s) du))
def CrE (es co : Nat → Int32) (du q sz : Nat) : Prop := ∀ p, p < 8 → es p = nI (cn co (nI p) sz - (cn co (nI p) q - cn co (nI p) du))
def CrB (em co ca : Nat → Int32) (du q sz : Nat) : Prop := ∀ c p, c < 500 → p < 8 → (em c &&& kb p = 0 ↔ ¬ (LgH co ca 0 du p c ∨ LgH co ca q sz p c))
section Cr
variable {st ki co ca ss es em ve : Nat → Int32} {du q sz s p c : Nat}
theorem CrS.start (h : LgS ss st sz) : CrS ss st du du sz := fun s hs => by rw [Nat.sub_self, Nat.sub_zero]; exact h s hs
theorem CrE.start (h : LgE es co sz) : CrE es co du du sz := fun s hs => by rw [Nat.sub_self, Nat.sub_zero]; exact h s hs
theorem LgH.split (h1 : du ≤ sz) : LgH co ca 0 sz p c ↔ (LgH co ca 0 du p c ∨ LgH co ca du sz p c) := by
  constructor
  · rintro ⟨k, g0, g1, g2, g3⟩
    rcases Nat.lt_or_ge k du with z | z
    · exact Or.inl ⟨k, g0, z, g2, g3⟩
    · exact Or.inr ⟨k, z, g1, g2, g3⟩
  · rintro (⟨k, g0, g1, g2, g3⟩ | ⟨k, g0, g1, g2, g3⟩)
    · exact ⟨k, g0, by omega, g2, g3⟩
    · exact ⟨k, Nat.zero_le _, g1, g2, g3⟩
theorem CrB.start (h : LgB em co ca sz) (h1 : du ≤ sz) : CrB em co ca du du sz := fun c p hc hp => by
  rw [← LgH.split h1]
  exact h c p hc hp
theorem CrS.step (h : CrS ss st du q sz) (h1 : du ≤ q) (h2 : q < sz) (hs : s < 16) (e : st q = nI s) : CrS (upd ss s (ss s - 1)) st du (q + 1) sz := by
  intro a ha
  have m1 : cn st (nI a) du ≤ cn st (nI a) q := cn_mono st _ h1
  have m2 : cn st (nI a) (q + 1) ≤ cn st (nI a) sz := cn_mono st _ (by omega)
  have m3 : cn st (nI a) (q + 1) = cn st (nI a) q + (if st q = nI a then 1 else 0) := rfl
  by_cases ea : a = s
  · subst ea
    rw [if_pos e] at m3
    rw [pk_us, h a ha]
    have e2 : cn st (nI a) sz - (cn st (nI a) q - cn st (nI a) du) = (cn st (nI a) sz - (cn st (nI a) (q + 1) - cn st (nI a) du)) + 1 := by omega
    rw [e2, nI_pred]
  · rw [if_neg (fun z => ea (nI_inj (by omega) (by omega) (e.symm.trans z)).symm)] at m3
    rw [pk_un ea, h a ha, m3]
    rfl
theorem CrE.skip (h : CrE es co du q sz) (e : co q = -1) : CrE es co du (q + 1) sz := by
  intro a ha
  have m3 : cn co (nI a) (q + 1) = cn co (nI a) q + (if co q = nI a then 1 else 0) := rfl
  rw [e, if_neg (nI_m1 (by omega)), Nat.add_zero] at m3
  rw [m3]
  exact h a ha
theorem CrE.step (h : CrE es co du q sz) (h1 : du ≤ q) (h2 : q < sz) (hp : p < 8) (e : co q = nI p) : CrE (upd es p (es p - 1)) co du (q + 1) sz := by
  intro a ha
  have m1 : cn co (nI a) du ≤ cn co (nI a) q := cn_mono co _ h1
  have m2 : cn co (nI a) (q + 1) ≤ cn co (nI a) sz := cn_mono co _ (by omega)
  have m3 : cn co (nI a) (q + 1) = cn co (nI a) q + (if co q = nI a then 1 else 0) := rfl
  by_cases ea : a = p
  · subst ea
    rw [if_pos e] at m3
    rw [pk_us, h a ha]
    have e2 : cn co (nI a) sz - (cn co (nI a) q - cn co (nI a) du) = (cn co (nI a) sz - (cn co (nI a) (q + 1) - cn co (nI a) du)) + 1 := by omega
    rw [e2, nI_pred]
  · rw [if_neg (fun z => ea (nI_inj (by omega) (by omega) (e.symm.trans z)).symm)] at m3
    rw [pk_un ea, h a ha, m3]
    rfl
theorem LgH.next (h2 : q < sz) (hn : ¬ (co q = nI p ∧ ca q = nI c)) : LgH co ca q sz p c ↔ LgH co ca (q + 1) sz p c := by
  constructor
  · rintro ⟨k, g0, g1, g2, g3⟩
    rcases Nat.eq_or_lt_of_le g0 with z | z
    · subst z
      exact absurd ⟨g2, g3⟩ hn
    · exact ⟨k, z, g1, g2, g3⟩
  · rintro ⟨k, g0, g1, g2, g3⟩
    exact ⟨k, by omega, g1, g2, g3⟩
theorem CrB.skip (h : CrB em co ca du q sz) (h2 : q < sz) (e : co q = -1) : CrB em co ca du (q + 1) sz := by
  intro c p hc hp
  rw [← LgH.next h2 (fun z => nI_m1 (by omega) (e.symm.trans z.1))]
  exact h c p hc hp
theorem CrB.step (h : CrB em co ca du q sz) (hU : LgU co ca sz) (h1 : du ≤ q) (h2 : q < sz) (h5 : sz ≤ 500) (hp : p < 8) (hc : c < 500) (e1 : co q = nI p) (e2 : ca q = nI c) : CrB (upd em c (em c &&& (kb p ^^^ (-1)))) co ca du (q + 1) sz := by
  intro c' p' hc' hp'
  by_cases z1 : c' = c
  · subst z1
    rw [pk_us, kb_clr _ hp hp']
    by_cases z2 : p' = p
    · subst z2
      refine ⟨fun _ => ?_, fun _ => Or.inl rfl⟩
      rintro (⟨k, g0, g1, g2, g3⟩ | ⟨k, g0, g1, g2, g3⟩)
      · have := hU k q p' (by omega) h2 hp' g2 e1 (g3.trans e2.symm)
        omega
      · have := hU k q p' g1 h2 hp' g2 e1 (g3.trans e2.symm)
        omega
    · rw [← LgH.next h2 (fun z => z2 (nI_inj (by omega) (by omega) (e1.symm.trans z.1)).symm), ← h c' p' hc' hp']
      exact ⟨fun z => z.resolve_left z2, Or.inr⟩
  · rw [pk_un z1, ← LgH.next h2 (fun z => z1 (nI_inj (by omega) (by omega) (e2.symm.trans z.2)).symm)]
    exact h c' p' hc' hp'
theorem CrS.done (h : CrS ss st du sz sz) (h1 : du ≤ sz) : LgS ss st du := fun s hs => by
  have m1 : cn st (nI s) du ≤ cn st (nI s) sz := cn_mono st _ h1
  rw [h s hs]
  congr 1
  omega
theorem CrE.done (h : CrE es co du sz sz) (h1 : du ≤ sz) : LgE es co du := fun s hs => by
  have m1 : cn co (nI s) du ≤ cn co (nI s) sz := cn_mono co _ h1
  rw [h s hs]
  congr 1
  omega
theorem CrB.done (h : CrB em co ca du sz sz) : LgB em co ca du := fun c p hc hp => by
  refine (h c p hc hp).trans ⟨fun z g => z (Or.inl g), fun z g => ?_⟩
  rcases g with g | ⟨k, g0, g1, -⟩
  · exact z g
  · omega
theorem LgA.less (h : LgA st ki co ca sz) (h1 : du ≤ sz) : LgA st ki co ca du := fun k hk => h k (by omega)
theorem LgV.less (h : LgV ve st sz) (h1 : du ≤ sz) : LgV ve st du := fun k hk => h k (by omega)
theorem LgU.less (h : LgU co ca sz) (h1 : du ≤ sz) : LgU co ca du := fun k k' p hk hk' => h k k' p (by omega) (by omega)
end Cr
end
section
abbrev c_L_init : ByteArray := prog_2_method_1_code
def y_L_init : MethodName := ⟨"EventKeeper$Log", "<init>", "()V"⟩
theorem d_L_init_0 : decode c_L_init 0 = .ok (.aload_n 0, 1) := by decide +kernel
theorem d_L_init_1 : decode c_L_init 1 = .ok (.invokespecial 3, 3) := by decide +kernel
theorem d_L_init_4 : decode c_L_init 4 = .ok (.aload_n 0, 1) := by decide +kernel
theorem d_L_init_5 : decode c_L_init 5 = .ok (.sipush 500, 3) := by decide +kernel
theorem d_L_init_8 : decode c_L_init 8 = .ok (.newarray .int, 2) := by decide +kernel
theorem d_L_init_10 : decode c_L_init 10 = .ok (.putfield 9, 3) := by decide +kernel
theorem d_L_init_13 : decode c_L_init 13 = .ok (.aload_n 0, 1) := by decide +kernel
theorem d_L_init_14 : decode c_L_init 14 = .ok (.sipush 500, 3) := by decide +kernel
theorem d_L_init_17 : decode c_L_init 17 = .ok (.newarray .int, 2) := by decide +kernel
theorem d_L_init_19 : decode c_L_init 19 = .ok (.putfield 15, 3) := by decide +kernel
theorem d_L_init_22 : decode c_L_init 22 = .ok (.aload_n 0, 1) := by decide +kernel
theorem d_L_init_23 : decode c_L_init 23 = .ok (.sipush 500, 3) := by decide +kernel
theorem d_L_init_26 : decode c_L_init 26 = .ok (.newarray .int, 2) := by decide +kernel
theorem d_L_init_28 : decode c_L_init 28 = .ok (.putfield 18, 3) := by decide +kernel
theorem d_L_init_31 : decode c_L_init 31 = .ok (.aload_n 0, 1) := by decide +kernel
theorem d_L_init_32 : decode c_L_init 32 = .ok (.sipush 500, 3) := by decide +kernel
theorem d_L_init_35 : decode c_L_init 35 = .ok (.newarray .long, 2) := by decide +kernel
theorem d_L_init_37 : decode c_L_init 37 = .ok (.putfield 21, 3) := by decide +kernel
theorem d_L_init_40 : decode c_L_init 40 = .ok (.aload_n 0, 1) := by decide +kernel
theorem d_L_init_41 : decode c_L_init 41 = .ok (.sipush 500, 3) := by decide +kernel
theorem d_L_init_44 : decode c_L_init 44 = .ok (.newarray .int, 2) := by decide +kernel
theorem d_L_init_46 : decode c_L_init 46 = .ok (.putfield 25, 3) := by decide +kernel
theorem d_L_init_49 : decode c_L_init 49 = .ok (.aload_n 0, 1) := by decide +kernel
theorem d_L_init_50 : decode c_L_init 50 = .ok (.sipush 500, 3) := by decide +kernel
theorem d_L_init_53 : decode c_L_init 53 = .ok (.newarray .int, 2) := by decide +kernel
theorem d_L_init_55 : decode c_L_init 55 = .ok (.putfield 28, 3) := by decide +kernel
theorem d_L_init_58 : decode c_L_init 58 = .ok (.aload_n 0, 1) := by decide +kernel
theorem d_L_init_59 : decode c_L_init 59 = .ok (.sipush 500, 3) := by decide +kernel
theorem d_L_init_62 : decode c_L_init 62 = .ok (.newarray .int, 2) := by decide +kernel
theorem d_L_init_64 : decode c_L_init 64 = .ok (.putfield 31, 3) := by decide +kernel
theorem d_L_init_67 : decode c_L_init 67 = .ok (.aload_n 0, 1) := by decide +kernel
theorem d_L_init_68 : decode c_L_init 68 = .ok (.bipush 16, 2) := by decide +kernel
theorem d_L_init_70 : decode c_L_init 70 = .ok (.newarray .int, 2) := by decide +kernel
theorem d_L_init_72 : decode c_L_init 72 = .ok (.putfield 34, 3) := by decide +kernel
theorem d_L_init_75 : decode c_L_init 75 = .ok (.aload_n 0, 1) := by decide +kernel
theorem d_L_init_76 : decode c_L_init 76 = .ok (.bipush 8, 2) := by decide +kernel
theorem d_L_init_78 : decode c_L_init 78 = .ok (.newarray .int, 2) := by decide +kernel
theorem d_L_init_80 : decode c_L_init 80 = .ok (.putfield 37, 3) := by decide +kernel
theorem d_L_init_83 : decode c_L_init 83 = .ok (.return_, 1) := by decide +kernel
abbrev c_L_isFull : ByteArray := prog_2_method_2_code
def y_L_isFull : MethodName := ⟨"EventKeeper$Log", "isFull", "()Z"⟩
theorem d_L_isFull_0 : decode c_L_isFull 0 = .ok (.aload_n 0, 1) := by decide +kernel
theorem d_L_isFull_1 : decode c_L_isFull 1 = .ok (.getfield 40, 3) := by decide +kernel
theorem d_L_isFull_4 : decode c_L_isFull 4 = .ok (.sipush 500, 3) := by decide +kernel
theorem d_L_isFull_7 : decode c_L_isFull 7 = .ok (.if_icmp .lt 7, 3) := by decide +kernel
theorem d_L_isFull_10 : decode c_L_isFull 10 = .ok (.iconst 1, 1) := by decide +kernel
theorem d_L_isFull_11 : decode c_L_isFull 11 = .ok (.goto 4, 3) := by decide +kernel
theorem d_L_isFull_14 : decode c_L_isFull 14 = .ok (.iconst 0, 1) := by decide +kernel
theorem d_L_isFull_15 : decode c_L_isFull 15 = .ok (.ireturn, 1) := by decide +kernel
abbrev c_L_put : ByteArray := prog_2_method_3_code
def y_L_put : MethodName := ⟨"EventKeeper$Log", "put", "(IIJ)I"⟩
theorem d_L_put_0 : decode c_L_put 0 = .ok (.aload_n 0, 1) := by decide +kernel
theorem d_L_put_1 : decode c_L_put 1 = .ok (.getfield 40, 3) := by decide +kernel
theorem d_L_put_4 : decode c_L_put 4 = .ok (.istore 5, 2) := by decide +kernel
theorem d_L_put_6 : decode c_L_put 6 = .ok (.aload_n 0, 1) := by decide +kernel
theorem d_L_put_7 : decode c_L_put 7 = .ok (.getfield 9, 3) := by decide +kernel
theorem d_L_put_10 : decode c_L_put 10 = .ok (.iload 5, 2) := by decide +kernel
theorem d_L_put_12 : decode c_L_put 12 = .ok (.iload_n 1, 1) := by decide +kernel
theorem d_L_put_13 : decode c_L_put 13 = .ok (.iastore, 1) := by decide +kernel
theorem d_L_put_14 : decode c_L_put 14 = .ok (.aload_n 0, 1) := by decide +kernel
theorem d_L_put_15 : decode c_L_put 15 = .ok (.getfield 15, 3) := by decide +kernel
theorem d_L_put_18 : decode c_L_put 18 = .ok (.iload 5, 2) := by decide +kernel
theorem d_L_put_20 : decode c_L_put 20 = .ok (.aload_n 0, 1) := by decide +kernel
theorem d_L_put_21 : decode c_L_put 21 = .ok (.getfield 34, 3) := by decide +kernel
theorem d_L_put_24 : decode c_L_put 24 = .ok (.iload_n 1, 1) := by decide +kernel
theorem d_L_put_25 : decode c_L_put 25 = .ok (.iaload, 1) := by decide +kernel
theorem d_L_put_26 : decode c_L_put 26 = .ok (.iastore, 1) := by decide +kernel
theorem d_L_put_27 : decode c_L_put 27 = .ok (.aload_n 0, 1) := by decide +kernel
theorem d_L_put_28 : decode c_L_put 28 = .ok (.getfield 18, 3) := by decide +kernel
theorem d_L_put_31 : decode c_L_put 31 = .ok (.iload 5, 2) := by decide +kernel
theorem d_L_put_33 : decode c_L_put 33 = .ok (.iload_n 2, 1) := by decide +kernel
theorem d_L_put_34 : decode c_L_put 34 = .ok (.iastore, 1) := by decide +kernel
theorem d_L_put_35 : decode c_L_put 35 = .ok (.aload_n 0, 1) := by decide +kernel
theorem d_L_put_36 : decode c_L_put 36 = .ok (.getfield 21, 3) := by decide +kernel
theorem d_L_put_39 : decode c_L_put 39 = .ok (.iload 5, 2) := by decide +kernel
theorem d_L_put_41 : decode c_L_put 41 = .ok (.lload_n 3, 1) := by decide +kernel
theorem d_L_put_42 : decode c_L_put 42 = .ok (.lastore, 1) := by decide +kernel
theorem d_L_put_43 : decode c_L_put 43 = .ok (.aload_n 0, 1) := by decide +kernel
theorem d_L_put_44 : decode c_L_put 44 = .ok (.getfield 25, 3) := by decide +kernel
theorem d_L_put_47 : decode c_L_put 47 = .ok (.iload 5, 2) := by decide +kernel
theorem d_L_put_49 : decode c_L_put 49 = .ok (.iconst (-1), 1) := by decide +kernel
theorem d_L_put_50 : decode c_L_put 50 = .ok (.iastore, 1) := by decide +kernel
theorem d_L_put_51 : decode c_L_put 51 = .ok (.aload_n 0, 1) := by decide +kernel
theorem d_L_put_52 : decode c_L_put 52 = .ok (.getfield 28, 3) := by decide +kernel
theorem d_L_put_55 : decode c_L_put 55 = .ok (.iload 5, 2) := by decide +kernel
theorem d_L_put_57 : decode c_L_put 57 = .ok (.iconst (-1), 1) := by decide +kernel
theorem d_L_put_58 : decode c_L_put 58 = .ok (.iastore, 1) := by decide +kernel
theorem d_L_put_59 : decode c_L_put 59 = .ok (.aload_n 0, 1) := by decide +kernel
theorem d_L_put_60 : decode c_L_put 60 = .ok (.getfield 34, 3) := by decide +kernel
theorem d_L_put_63 : decode c_L_put 63 = .ok (.iload_n 1, 1) := by decide +kernel
theorem d_L_put_64 : decode c_L_put 64 = .ok (.dup2, 1) := by decide +kernel
theorem d_L_put_65 : decode c_L_put 65 = .ok (.iaload, 1) := by decide +kernel
theorem d_L_put_66 : decode c_L_put 66 = .ok (.iconst 1, 1) := by decide +kernel
theorem d_L_put_67 : decode c_L_put 67 = .ok (.iadd, 1) := by decide +kernel
theorem d_L_put_68 : decode c_L_put 68 = .ok (.iastore, 1) := by decide +kernel
theorem d_L_put_69 : decode c_L_put 69 = .ok (.aload_n 0, 1) := by decide +kernel
theorem d_L_put_70 : decode c_L_put 70 = .ok (.dup, 1) := by decide +kernel
theorem d_L_put_71 : decode c_L_put 71 = .ok (.getfield 40, 3) := by decide +kernel
theorem d_L_put_74 : decode c_L_put 74 = .ok (.iconst 1, 1) := by decide +kernel
theorem d_L_put_75 : decode c_L_put 75 = .ok (.iadd, 1) := by decide +kernel
theorem d_L_put_76 : decode c_L_put 76 = .ok (.putfield 40, 3) := by decide +kernel
theorem d_L_put_79 : decode c_L_put 79 = .ok (.iload 5, 2) := by decide +kernel
theorem d_L_put_81 : decode c_L_put 81 = .ok (.ireturn, 1) := by decide +kernel
abbrev c_L_putEmitted : ByteArray := prog_2_method_4_code
def y_L_putEmitted : MethodName := ⟨"EventKeeper$Log", "putEmitted", "(IIJ)V"⟩
theorem d_L_putEmitted_0 : decode c_L_putEmitted 0 = .ok (.aload_n 0, 1) := by decide +kernel
theorem d_L_putEmitted_1 : decode c_L_putEmitted 1 = .ok (.aload_n 0, 1) := by decide +kernel
theorem d_L_putEmitted_2 : decode c_L_putEmitted 2 = .ok (.getfield 21, 3) := by decide +kernel
theorem d_L_putEmitted_5 : decode c_L_putEmitted 5 = .ok (.iload_n 2, 1) := by decide +kernel
theorem d_L_putEmitted_6 : decode c_L_putEmitted 6 = .ok (.laload, 1) := by decide +kernel
theorem d_L_putEmitted_7 : decode c_L_putEmitted 7 = .ok (.ldc2_w 44, 3) := by decide +kernel
theorem d_L_putEmitted_10 : decode c_L_putEmitted 10 = .ok (.land, 1) := by decide +kernel
theorem d_L_putEmitted_11 : decode c_L_putEmitted 11 = .ok (.l2i, 1) := by decide +kernel
theorem d_L_putEmitted_12 : decode c_L_putEmitted 12 = .ok (.bipush 7, 2) := by decide +kernel
theorem d_L_putEmitted_14 : decode c_L_putEmitted 14 = .ok (.lload_n 3, 1) := by decide +kernel
theorem d_L_putEmitted_15 : decode c_L_putEmitted 15 = .ok (.invokevirtual 46, 3) := by decide +kernel
theorem d_L_putEmitted_18 : decode c_L_putEmitted 18 = .ok (.istore 5, 2) := by decide +kernel
theorem d_L_putEmitted_20 : decode c_L_putEmitted 20 = .ok (.aload_n 0, 1) := by decide +kernel
theorem d_L_putEmitted_21 : decode c_L_putEmitted 21 = .ok (.getfield 25, 3) := by decide +kernel
theorem d_L_putEmitted_24 : decode c_L_putEmitted 24 = .ok (.iload 5, 2) := by decide +kernel
theorem d_L_putEmitted_26 : decode c_L_putEmitted 26 = .ok (.iload_n 1, 1) := by decide +kernel
theorem d_L_putEmitted_27 : decode c_L_putEmitted 27 = .ok (.iastore, 1) := by decide +kernel
theorem d_L_putEmitted_28 : decode c_L_putEmitted 28 = .ok (.aload_n 0, 1) := by decide +kernel
theorem d_L_putEmitted_29 : decode c_L_putEmitted 29 = .ok (.getfield 28, 3) := by decide +kernel
theorem d_L_putEmitted_32 : decode c_L_putEmitted 32 = .ok (.iload 5, 2) := by decide +kernel
theorem d_L_putEmitted_34 : decode c_L_putEmitted 34 = .ok (.iload_n 2, 1) := by decide +kernel
theorem d_L_putEmitted_35 : decode c_L_putEmitted 35 = .ok (.iastore, 1) := by decide +kernel
theorem d_L_putEmitted_36 : decode c_L_putEmitted 36 = .ok (.aload_n 0, 1) := by decide +kernel
theorem d_L_putEmitted_37 : decode c_L_putEmitted 37 = .ok (.getfield 31, 3) := by decide +kernel
theorem d_L_putEmitted_40 : decode c_L_putEmitted 40 = .ok (.iload_n 2, 1) := by decide +kernel
theorem d_L_putEmitted_41 : decode c_L_putEmitted 41 = .ok (.dup2, 1) := by decide +kernel
theorem d_L_putEmitted_42 : decode c_L_putEmitted 42 = .ok (.iaload, 1) := by decide +kernel
theorem d_L_putEmitted_43 : decode c_L_putEmitted 43 = .ok (.iconst 1, 1) := by decide +kernel
theorem d_L_putEmitted_44 : decode c_L_putEmitted 44 = .ok (.iload_n 1, 1) := by decide +kernel
theorem d_L_putEmitted_45 : decode c_L_putEmitted 45 = .ok (.ishl, 1) := by decide +kernel
theorem d_L_putEmitted_46 : decode c_L_putEmitted 46 = .ok (.ior, 1) := by decide +kernel
theorem d_L_putEmitted_47 : decode c_L_putEmitted 47 = .ok (.iastore, 1) := by decide +kernel
theorem d_L_putEmitted_48 : decode c_L_putEmitted 48 = .ok (.aload_n 0, 1) := by decide +kernel
theorem d_L_putEmitted_49 : decode c_L_putEmitted 49 = .ok (.getfield 37, 3) := by decide +kernel
theorem d_L_putEmitted_52 : decode c_L_putEmitted 52 = .ok (.iload_n 1, 1) := by decide +kernel
theorem d_L_putEmitted_53 : decode c_L_putEmitted 53 = .ok (.dup2, 1) := by decide +kernel
theorem d_L_putEmitted_54 : decode c_L_putEmitted 54 = .ok (.iaload, 1) := by decide +kernel
theorem d_L_putEmitted_55 : decode c_L_putEmitted 55 = .ok (.iconst 1, 1) := by decide +kernel
theorem d_L_putEmitted_56 : decode c_L_putEmitted 56 = .ok (.iadd, 1) := by decide +kernel
theorem d_L_putEmitted_57 : decode c_L_putEmitted 57 = .ok (.iastore, 1) := by decide +kernel
theorem d_L_putEmitted_58 : decode c_L_putEmitted 58 = .ok (.return_, 1) := by decide +kernel
abbrev c_L_hasEmitted : ByteArray := prog_2_method_5_code
def y_L_hasEmitted : MethodName := ⟨"EventKeeper$Log", "hasEmitted", "(II)Z"⟩
theorem d_L_hasEmitted_0 : decode c_L_hasEmitted 0 = .ok (.aload_n 0, 1) := by decide +kernel
theorem d_L_hasEmitted_1 : decode c_L_hasEmitted 1 = .ok (.getfield 31, 3) := by decide +kernel
theorem d_L_hasEmitted_4 : decode c_L_hasEmitted 4 = .ok (.iload_n 2, 1) := by decide +kernel
theorem d_L_hasEmitted_5 : decode c_L_hasEmitted 5 = .ok (.iaload, 1) := by decide +kernel
theorem d_L_hasEmitted_6 : decode c_L_hasEmitted 6 = .ok (.iconst 1, 1) := by decide +kernel
theorem d_L_hasEmitted_7 : decode c_L_hasEmitted 7 = .ok (.iload_n 1, 1) := by decide +kernel
theorem d_L_hasEmitted_8 : decode c_L_hasEmitted 8 = .ok (.ishl, 1) := by decide +kernel
theorem d_L_hasEmitted_9 : decode c_L_hasEmitted 9 = .ok (.iand, 1) := by decide +kernel
theorem d_L_hasEmitted_10 : decode c_L_hasEmitted 10 = .ok (.ifCond .eq 7, 3) := by decide +kernel
theorem d_L_hasEmitted_13 : decode c_L_hasEmitted 13 = .ok (.iconst 1, 1) := by decide +kernel
theorem d_L_hasEmitted_14 : decode c_L_hasEmitted 14 = .ok (.goto 4, 3) := by decide +kernel
theorem d_L_hasEmitted_17 : decode c_L_hasEmitted 17 = .ok (.iconst 0, 1) := by decide +kernel
theorem d_L_hasEmitted_18 : decode c_L_hasEmitted 18 = .ok (.ireturn, 1) := by decide +kernel
abbrev c_L_dropUndurable : ByteArray := prog_2_method_6_code
def y_L_dropUndurable : MethodName := ⟨"EventKeeper$Log", "dropUndurable", "()V"⟩
theorem d_L_dropUndurable_0 : decode c_L_dropUndurable 0 = .ok (.aload_n 0, 1) := by decide +kernel
theorem d_L_dropUndurable_1 : decode c_L_dropUndurable 1 = .ok (.getfield 50, 3) := by decide +kernel
theorem d_L_dropUndurable_4 : decode c_L_dropUndurable 4 = .ok (.istore_n 1, 1) := by decide +kernel
theorem d_L_dropUndurable_5 : decode c_L_dropUndurable 5 = .ok (.iload_n 1, 1) := by decide +kernel
theorem d_L_dropUndurable_6 : decode c_L_dropUndurable 6 = .ok (.aload_n 0, 1) := by decide +kernel
theorem d_L_dropUndurable_7 : decode c_L_dropUndurable 7 = .ok (.getfield 40, 3) := by decide +kernel
theorem d_L_dropUndurable_10 : decode c_L_dropUndurable 10 = .ok (.if_icmp .ge 39, 3) := by decide +kernel
theorem d_L_dropUndurable_13 : decode c_L_dropUndurable 13 = .ok (.aload_n 0, 1) := by decide +kernel
theorem d_L_dropUndurable_14 : decode c_L_dropUndurable 14 = .ok (.getfield 34, 3) := by decide +kernel
theorem d_L_dropUndurable_17 : decode c_L_dropUndurable 17 = .ok (.aload_n 0, 1) := by decide +kernel
theorem d_L_dropUndurable_18 : decode c_L_dropUndurable 18 = .ok (.getfield 9, 3) := by decide +kernel
theorem d_L_dropUndurable_21 : decode c_L_dropUndurable 21 = .ok (.iload_n 1, 1) := by decide +kernel
theorem d_L_dropUndurable_22 : decode c_L_dropUndurable 22 = .ok (.iaload, 1) := by decide +kernel
theorem d_L_dropUndurable_23 : decode c_L_dropUndurable 23 = .ok (.dup2, 1) := by decide +kernel
theorem d_L_dropUndurable_24 : decode c_L_dropUndurable 24 = .ok (.iaload, 1) := by decide +kernel
theorem d_L_dropUndurable_25 : decode c_L_dropUndurable 25 = .ok (.iconst 1, 1) := by decide +kernel
theorem d_L_dropUndurable_26 : decode c_L_dropUndurable 26 = .ok (.isub, 1) := by decide +kernel
theorem d_L_dropUndurable_27 : decode c_L_dropUndurable 27 = .ok (.iastore, 1) := by decide +kernel
theorem d_L_dropUndurable_28 : decode c_L_dropUndurable 28 = .ok (.aload_n 0, 1) := by decide +kernel
theorem d_L_dropUndurable_29 : decode c_L_dropUndurable 29 = .ok (.getfield 25, 3) := by decide +kernel
theorem d_L_dropUndurable_32 : decode c_L_dropUndurable 32 = .ok (.iload_n 1, 1) := by decide +kernel
theorem d_L_dropUndurable_33 : decode c_L_dropUndurable 33 = .ok (.iaload, 1) := by decide +kernel
theorem d_L_dropUndurable_34 : decode c_L_dropUndurable 34 = .ok (.iconst (-1), 1) := by decide +kernel
theorem d_L_dropUndurable_35 : decode c_L_dropUndurable 35 = .ok (.if_icmp .eq 8, 3) := by decide +kernel
theorem d_L_dropUndurable_38 : decode c_L_dropUndurable 38 = .ok (.aload_n 0, 1) := by decide +kernel
theorem d_L_dropUndurable_39 : decode c_L_dropUndurable 39 = .ok (.iload_n 1, 1) := by decide +kernel
theorem d_L_dropUndurable_40 : decode c_L_dropUndurable 40 = .ok (.invokevirtual 53, 3) := by decide +kernel
theorem d_L_dropUndurable_43 : decode c_L_dropUndurable 43 = .ok (.iinc 1 1, 3) := by decide +kernel
theorem d_L_dropUndurable_46 : decode c_L_dropUndurable 46 = .ok (.goto (-41), 3) := by decide +kernel
theorem d_L_dropUndurable_49 : decode c_L_dropUndurable 49 = .ok (.aload_n 0, 1) := by decide +kernel
theorem d_L_dropUndurable_50 : decode c_L_dropUndurable 50 = .ok (.aload_n 0, 1) := by decide +kernel
theorem d_L_dropUndurable_51 : decode c_L_dropUndurable 51 = .ok (.getfield 50, 3) := by decide +kernel
theorem d_L_dropUndurable_54 : decode c_L_dropUndurable 54 = .ok (.putfield 40, 3) := by decide +kernel
theorem d_L_dropUndurable_57 : decode c_L_dropUndurable 57 = .ok (.return_, 1) := by decide +kernel
abbrev c_L_forgetCause : ByteArray := prog_2_method_7_code
def y_L_forgetCause : MethodName := ⟨"EventKeeper$Log", "forgetCause", "(I)V"⟩
theorem d_L_forgetCause_0 : decode c_L_forgetCause 0 = .ok (.aload_n 0, 1) := by decide +kernel
theorem d_L_forgetCause_1 : decode c_L_forgetCause 1 = .ok (.getfield 25, 3) := by decide +kernel
theorem d_L_forgetCause_4 : decode c_L_forgetCause 4 = .ok (.iload_n 1, 1) := by decide +kernel
theorem d_L_forgetCause_5 : decode c_L_forgetCause 5 = .ok (.iaload, 1) := by decide +kernel
theorem d_L_forgetCause_6 : decode c_L_forgetCause 6 = .ok (.istore_n 2, 1) := by decide +kernel
theorem d_L_forgetCause_7 : decode c_L_forgetCause 7 = .ok (.aload_n 0, 1) := by decide +kernel
theorem d_L_forgetCause_8 : decode c_L_forgetCause 8 = .ok (.getfield 31, 3) := by decide +kernel
theorem d_L_forgetCause_11 : decode c_L_forgetCause 11 = .ok (.aload_n 0, 1) := by decide +kernel
theorem d_L_forgetCause_12 : decode c_L_forgetCause 12 = .ok (.getfield 28, 3) := by decide +kernel
theorem d_L_forgetCause_15 : decode c_L_forgetCause 15 = .ok (.iload_n 1, 1) := by decide +kernel
theorem d_L_forgetCause_16 : decode c_L_forgetCause 16 = .ok (.iaload, 1) := by decide +kernel
theorem d_L_forgetCause_17 : decode c_L_forgetCause 17 = .ok (.dup2, 1) := by decide +kernel
theorem d_L_forgetCause_18 : decode c_L_forgetCause 18 = .ok (.iaload, 1) := by decide +kernel
theorem d_L_forgetCause_19 : decode c_L_forgetCause 19 = .ok (.iconst 1, 1) := by decide +kernel
theorem d_L_forgetCause_20 : decode c_L_forgetCause 20 = .ok (.iload_n 2, 1) := by decide +kernel
theorem d_L_forgetCause_21 : decode c_L_forgetCause 21 = .ok (.ishl, 1) := by decide +kernel
theorem d_L_forgetCause_22 : decode c_L_forgetCause 22 = .ok (.iconst (-1), 1) := by decide +kernel
theorem d_L_forgetCause_23 : decode c_L_forgetCause 23 = .ok (.ixor, 1) := by decide +kernel
theorem d_L_forgetCause_24 : decode c_L_forgetCause 24 = .ok (.iand, 1) := by decide +kernel
theorem d_L_forgetCause_25 : decode c_L_forgetCause 25 = .ok (.iastore, 1) := by decide +kernel
theorem d_L_forgetCause_26 : decode c_L_forgetCause 26 = .ok (.aload_n 0, 1) := by decide +kernel
theorem d_L_forgetCause_27 : decode c_L_forgetCause 27 = .ok (.getfield 37, 3) := by decide +kernel
theorem d_L_forgetCause_30 : decode c_L_forgetCause 30 = .ok (.iload_n 2, 1) := by decide +kernel
theorem d_L_forgetCause_31 : decode c_L_forgetCause 31 = .ok (.dup2, 1) := by decide +kernel
theorem d_L_forgetCause_32 : decode c_L_forgetCause 32 = .ok (.iaload, 1) := by decide +kernel
theorem d_L_forgetCause_33 : decode c_L_forgetCause 33 = .ok (.iconst 1, 1) := by decide +kernel
theorem d_L_forgetCause_34 : decode c_L_forgetCause 34 = .ok (.isub, 1) := by decide +kernel
theorem d_L_forgetCause_35 : decode c_L_forgetCause 35 = .ok (.iastore, 1) := by decide +kernel
theorem d_L_forgetCause_36 : decode c_L_forgetCause 36 = .ok (.return_, 1) := by decide +kernel
abbrev c_L_placeOf : ByteArray := prog_2_method_8_code
def y_L_placeOf : MethodName := ⟨"EventKeeper$Log", "placeOf", "(II)I"⟩
theorem d_L_placeOf_0 : decode c_L_placeOf 0 = .ok (.iconst 0, 1) := by decide +kernel
theorem d_L_placeOf_1 : decode c_L_placeOf 1 = .ok (.istore_n 3, 1) := by decide +kernel
theorem d_L_placeOf_2 : decode c_L_placeOf 2 = .ok (.iload_n 3, 1) := by decide +kernel
theorem d_L_placeOf_3 : decode c_L_placeOf 3 = .ok (.aload_n 0, 1) := by decide +kernel
theorem d_L_placeOf_4 : decode c_L_placeOf 4 = .ok (.getfield 40, 3) := by decide +kernel
theorem d_L_placeOf_7 : decode c_L_placeOf 7 = .ok (.if_icmp .ge 31, 3) := by decide +kernel
theorem d_L_placeOf_10 : decode c_L_placeOf 10 = .ok (.aload_n 0, 1) := by decide +kernel
theorem d_L_placeOf_11 : decode c_L_placeOf 11 = .ok (.getfield 9, 3) := by decide +kernel
theorem d_L_placeOf_14 : decode c_L_placeOf 14 = .ok (.iload_n 3, 1) := by decide +kernel
theorem d_L_placeOf_15 : decode c_L_placeOf 15 = .ok (.iaload, 1) := by decide +kernel
theorem d_L_placeOf_16 : decode c_L_placeOf 16 = .ok (.iload_n 1, 1) := by decide +kernel
theorem d_L_placeOf_17 : decode c_L_placeOf 17 = .ok (.if_icmp .ne 15, 3) := by decide +kernel
theorem d_L_placeOf_20 : decode c_L_placeOf 20 = .ok (.aload_n 0, 1) := by decide +kernel
theorem d_L_placeOf_21 : decode c_L_placeOf 21 = .ok (.getfield 15, 3) := by decide +kernel
theorem d_L_placeOf_24 : decode c_L_placeOf 24 = .ok (.iload_n 3, 1) := by decide +kernel
theorem d_L_placeOf_25 : decode c_L_placeOf 25 = .ok (.iaload, 1) := by decide +kernel
theorem d_L_placeOf_26 : decode c_L_placeOf 26 = .ok (.iload_n 2, 1) := by decide +kernel
theorem d_L_placeOf_27 : decode c_L_placeOf 27 = .ok (.if_icmp .ne 5, 3) := by decide +kernel
theorem d_L_placeOf_30 : decode c_L_placeOf 30 = .ok (.iload_n 3, 1) := by decide +kernel
theorem d_L_placeOf_31 : decode c_L_placeOf 31 = .ok (.ireturn, 1) := by decide +kernel
theorem d_L_placeOf_32 : decode c_L_placeOf 32 = .ok (.iinc 3 1, 3) := by decide +kernel
theorem d_L_placeOf_35 : decode c_L_placeOf 35 = .ok (.goto (-33), 3) := by decide +kernel
theorem d_L_placeOf_38 : decode c_L_placeOf 38 = .ok (.iconst (-1), 1) := by decide +kernel
theorem d_L_placeOf_39 : decode c_L_placeOf 39 = .ok (.ireturn, 1) := by decide +kernel
abbrev c_P_init : ByteArray := prog_3_method_1_code
def y_P_init : MethodName := ⟨"EventKeeper$Projection", "<init>", "(I)V"⟩
theorem d_P_init_0 : decode c_P_init 0 = .ok (.aload_n 0, 1) := by decide +kernel
theorem d_P_init_1 : decode c_P_init 1 = .ok (.invokespecial 3, 3) := by decide +kernel
theorem d_P_init_4 : decode c_P_init 4 = .ok (.aload_n 0, 1) := by decide +kernel
theorem d_P_init_5 : decode c_P_init 5 = .ok (.iload_n 1, 1) := by decide +kernel
theorem d_P_init_6 : decode c_P_init 6 = .ok (.putfield 9, 3) := by decide +kernel
theorem d_P_init_9 : decode c_P_init 9 = .ok (.aload_n 0, 1) := by decide +kernel
theorem d_P_init_10 : decode c_P_init 10 = .ok (.bipush 8, 2) := by decide +kernel
theorem d_P_init_12 : decode c_P_init 12 = .ok (.newarray .int, 2) := by decide +kernel
theorem d_P_init_14 : decode c_P_init 14 = .ok (.putfield 15, 3) := by decide +kernel
theorem d_P_init_17 : decode c_P_init 17 = .ok (.aload_n 0, 1) := by decide +kernel
theorem d_P_init_18 : decode c_P_init 18 = .ok (.bipush 8, 2) := by decide +kernel
theorem d_P_init_20 : decode c_P_init 20 = .ok (.newarray .int, 2) := by decide +kernel
theorem d_P_init_22 : decode c_P_init 22 = .ok (.putfield 19, 3) := by decide +kernel
theorem d_P_init_25 : decode c_P_init 25 = .ok (.aload_n 0, 1) := by decide +kernel
theorem d_P_init_26 : decode c_P_init 26 = .ok (.bipush 16, 2) := by decide +kernel
theorem d_P_init_28 : decode c_P_init 28 = .ok (.newarray .long, 2) := by decide +kernel
theorem d_P_init_30 : decode c_P_init 30 = .ok (.putfield 22, 3) := by decide +kernel
theorem d_P_init_33 : decode c_P_init 33 = .ok (.aload_n 0, 1) := by decide +kernel
theorem d_P_init_34 : decode c_P_init 34 = .ok (.bipush 16, 2) := by decide +kernel
theorem d_P_init_36 : decode c_P_init 36 = .ok (.newarray .long, 2) := by decide +kernel
theorem d_P_init_38 : decode c_P_init 38 = .ok (.putfield 26, 3) := by decide +kernel
theorem d_P_init_41 : decode c_P_init 41 = .ok (.aload_n 0, 1) := by decide +kernel
theorem d_P_init_42 : decode c_P_init 42 = .ok (.iconst (-1), 1) := by decide +kernel
theorem d_P_init_43 : decode c_P_init 43 = .ok (.putfield 29, 3) := by decide +kernel
theorem d_P_init_46 : decode c_P_init 46 = .ok (.return_, 1) := by decide +kernel
abbrev c_P_setRule : ByteArray := prog_3_method_2_code
def y_P_setRule : MethodName := ⟨"EventKeeper$Projection", "setRule", "(III)V"⟩
theorem d_P_setRule_0 : decode c_P_setRule 0 = .ok (.aload_n 0, 1) := by decide +kernel
theorem d_P_setRule_1 : decode c_P_setRule 1 = .ok (.getfield 15, 3) := by decide +kernel
theorem d_P_setRule_4 : decode c_P_setRule 4 = .ok (.iload_n 1, 1) := by decide +kernel
theorem d_P_setRule_5 : decode c_P_setRule 5 = .ok (.iload_n 2, 1) := by decide +kernel
theorem d_P_setRule_6 : decode c_P_setRule 6 = .ok (.iastore, 1) := by decide +kernel
theorem d_P_setRule_7 : decode c_P_setRule 7 = .ok (.aload_n 0, 1) := by decide +kernel
theorem d_P_setRule_8 : decode c_P_setRule 8 = .ok (.getfield 19, 3) := by decide +kernel
theorem d_P_setRule_11 : decode c_P_setRule 11 = .ok (.iload_n 1, 1) := by decide +kernel
theorem d_P_setRule_12 : decode c_P_setRule 12 = .ok (.iload_n 3, 1) := by decide +kernel
theorem d_P_setRule_13 : decode c_P_setRule 13 = .ok (.iastore, 1) := by decide +kernel
theorem d_P_setRule_14 : decode c_P_setRule 14 = .ok (.aload_n 0, 1) := by decide +kernel
theorem d_P_setRule_15 : decode c_P_setRule 15 = .ok (.invokevirtual 32, 3) := by decide +kernel
theorem d_P_setRule_18 : decode c_P_setRule 18 = .ok (.return_, 1) := by decide +kernel
abbrev c_P_takeOne : ByteArray := prog_3_method_3_code
def y_P_takeOne : MethodName := ⟨"EventKeeper$Projection", "takeOne", "(LEventKeeper$Log;)Z"⟩
theorem d_P_takeOne_0 : decode c_P_takeOne 0 = .ok (.aload_n 0, 1) := by decide +kernel
theorem d_P_takeOne_1 : decode c_P_takeOne 1 = .ok (.getfield 35, 3) := by decide +kernel
theorem d_P_takeOne_4 : decode c_P_takeOne 4 = .ok (.aload_n 1, 1) := by decide +kernel
theorem d_P_takeOne_5 : decode c_P_takeOne 5 = .ok (.getfield 38, 3) := by decide +kernel
theorem d_P_takeOne_8 : decode c_P_takeOne 8 = .ok (.if_icmp .lt 5, 3) := by decide +kernel
theorem d_P_takeOne_11 : decode c_P_takeOne 11 = .ok (.iconst 0, 1) := by decide +kernel
theorem d_P_takeOne_12 : decode c_P_takeOne 12 = .ok (.ireturn, 1) := by decide +kernel
theorem d_P_takeOne_13 : decode c_P_takeOne 13 = .ok (.aload_n 0, 1) := by decide +kernel
theorem d_P_takeOne_14 : decode c_P_takeOne 14 = .ok (.getfield 15, 3) := by decide +kernel
theorem d_P_takeOne_17 : decode c_P_takeOne 17 = .ok (.aload_n 1, 1) := by decide +kernel
theorem d_P_takeOne_18 : decode c_P_takeOne 18 = .ok (.getfield 43, 3) := by decide +kernel
theorem d_P_takeOne_21 : decode c_P_takeOne 21 = .ok (.aload_n 0, 1) := by decide +kernel
theorem d_P_takeOne_22 : decode c_P_takeOne 22 = .ok (.getfield 35, 3) := by decide +kernel
theorem d_P_takeOne_25 : decode c_P_takeOne 25 = .ok (.iaload, 1) := by decide +kernel
theorem d_P_takeOne_26 : decode c_P_takeOne 26 = .ok (.iaload, 1) := by decide +kernel
theorem d_P_takeOne_27 : decode c_P_takeOne 27 = .ok (.istore_n 2, 1) := by decide +kernel
theorem d_P_takeOne_28 : decode c_P_takeOne 28 = .ok (.aload_n 0, 1) := by decide +kernel
theorem d_P_takeOne_29 : decode c_P_takeOne 29 = .ok (.aload_n 1, 1) := by decide +kernel
theorem d_P_takeOne_30 : decode c_P_takeOne 30 = .ok (.invokevirtual 46, 3) := by decide +kernel
theorem d_P_takeOne_33 : decode c_P_takeOne 33 = .ok (.istore_n 3, 1) := by decide +kernel
theorem d_P_takeOne_34 : decode c_P_takeOne 34 = .ok (.iload_n 2, 1) := by decide +kernel
theorem d_P_takeOne_35 : decode c_P_takeOne 35 = .ok (.bipush 6, 2) := by decide +kernel
theorem d_P_takeOne_37 : decode c_P_takeOne 37 = .ok (.if_icmp .ne 14, 3) := by decide +kernel
theorem d_P_takeOne_40 : decode c_P_takeOne 40 = .ok (.aload_n 0, 1) := by decide +kernel
theorem d_P_takeOne_41 : decode c_P_takeOne 41 = .ok (.aload_n 1, 1) := by decide +kernel
theorem d_P_takeOne_42 : decode c_P_takeOne 42 = .ok (.iload_n 3, 1) := by decide +kernel
theorem d_P_takeOne_43 : decode c_P_takeOne 43 = .ok (.invokevirtual 50, 3) := by decide +kernel
theorem d_P_takeOne_46 : decode c_P_takeOne 46 = .ok (.ifCond .ne 30, 3) := by decide +kernel
theorem d_P_takeOne_49 : decode c_P_takeOne 49 = .ok (.iconst 0, 1) := by decide +kernel
theorem d_P_takeOne_50 : decode c_P_takeOne 50 = .ok (.ireturn, 1) := by decide +kernel
theorem d_P_takeOne_51 : decode c_P_takeOne 51 = .ok (.aload_n 0, 1) := by decide +kernel
theorem d_P_takeOne_52 : decode c_P_takeOne 52 = .ok (.getfield 22, 3) := by decide +kernel
theorem d_P_takeOne_55 : decode c_P_takeOne 55 = .ok (.iload_n 3, 1) := by decide +kernel
theorem d_P_takeOne_56 : decode c_P_takeOne 56 = .ok (.iload_n 2, 1) := by decide +kernel
theorem d_P_takeOne_57 : decode c_P_takeOne 57 = .ok (.aload_n 0, 1) := by decide +kernel
theorem d_P_takeOne_58 : decode c_P_takeOne 58 = .ok (.getfield 22, 3) := by decide +kernel
theorem d_P_takeOne_61 : decode c_P_takeOne 61 = .ok (.iload_n 3, 1) := by decide +kernel
theorem d_P_takeOne_62 : decode c_P_takeOne 62 = .ok (.laload, 1) := by decide +kernel
theorem d_P_takeOne_63 : decode c_P_takeOne 63 = .ok (.aload_n 1, 1) := by decide +kernel
theorem d_P_takeOne_64 : decode c_P_takeOne 64 = .ok (.getfield 54, 3) := by decide +kernel
theorem d_P_takeOne_67 : decode c_P_takeOne 67 = .ok (.aload_n 0, 1) := by decide +kernel
theorem d_P_takeOne_68 : decode c_P_takeOne 68 = .ok (.getfield 35, 3) := by decide +kernel
theorem d_P_takeOne_71 : decode c_P_takeOne 71 = .ok (.laload, 1) := by decide +kernel
theorem d_P_takeOne_72 : decode c_P_takeOne 72 = .ok (.invokestatic 57, 3) := by decide +kernel
theorem d_P_takeOne_75 : decode c_P_takeOne 75 = .ok (.lastore, 1) := by decide +kernel
theorem d_P_takeOne_76 : decode c_P_takeOne 76 = .ok (.aload_n 0, 1) := by decide +kernel
theorem d_P_takeOne_77 : decode c_P_takeOne 77 = .ok (.dup, 1) := by decide +kernel
theorem d_P_takeOne_78 : decode c_P_takeOne 78 = .ok (.getfield 35, 3) := by decide +kernel
theorem d_P_takeOne_81 : decode c_P_takeOne 81 = .ok (.iconst 1, 1) := by decide +kernel
theorem d_P_takeOne_82 : decode c_P_takeOne 82 = .ok (.iadd, 1) := by decide +kernel
theorem d_P_takeOne_83 : decode c_P_takeOne 83 = .ok (.putfield 35, 3) := by decide +kernel
theorem d_P_takeOne_86 : decode c_P_takeOne 86 = .ok (.iconst 1, 1) := by decide +kernel
theorem d_P_takeOne_87 : decode c_P_takeOne 87 = .ok (.ireturn, 1) := by decide +kernel
abbrev c_P_targetCell : ByteArray := prog_3_method_4_code
def y_P_targetCell : MethodName := ⟨"EventKeeper$Projection", "targetCell", "(LEventKeeper$Log;)I"⟩
theorem d_P_targetCell_0 : decode c_P_targetCell 0 = .ok (.aload_n 0, 1) := by decide +kernel
theorem d_P_targetCell_1 : decode c_P_targetCell 1 = .ok (.getfield 19, 3) := by decide +kernel
theorem d_P_targetCell_4 : decode c_P_targetCell 4 = .ok (.aload_n 1, 1) := by decide +kernel
theorem d_P_targetCell_5 : decode c_P_targetCell 5 = .ok (.getfield 43, 3) := by decide +kernel
theorem d_P_targetCell_8 : decode c_P_targetCell 8 = .ok (.aload_n 0, 1) := by decide +kernel
theorem d_P_targetCell_9 : decode c_P_targetCell 9 = .ok (.getfield 35, 3) := by decide +kernel
theorem d_P_targetCell_12 : decode c_P_targetCell 12 = .ok (.iaload, 1) := by decide +kernel
theorem d_P_targetCell_13 : decode c_P_targetCell 13 = .ok (.iaload, 1) := by decide +kernel
theorem d_P_targetCell_14 : decode c_P_targetCell 14 = .ok (.lookupswitch 51 #[(0, 26), (1, 36)], 26) := by decide +kernel
theorem d_P_targetCell_40 : decode c_P_targetCell 40 = .ok (.aload_n 1, 1) := by decide +kernel
theorem d_P_targetCell_41 : decode c_P_targetCell 41 = .ok (.getfield 61, 3) := by decide +kernel
theorem d_P_targetCell_44 : decode c_P_targetCell 44 = .ok (.aload_n 0, 1) := by decide +kernel
theorem d_P_targetCell_45 : decode c_P_targetCell 45 = .ok (.getfield 35, 3) := by decide +kernel
theorem d_P_targetCell_48 : decode c_P_targetCell 48 = .ok (.iaload, 1) := by decide +kernel
theorem d_P_targetCell_49 : decode c_P_targetCell 49 = .ok (.ireturn, 1) := by decide +kernel
theorem d_P_targetCell_50 : decode c_P_targetCell 50 = .ok (.aload_n 1, 1) := by decide +kernel
theorem d_P_targetCell_51 : decode c_P_targetCell 51 = .ok (.getfield 54, 3) := by decide +kernel
theorem d_P_targetCell_54 : decode c_P_targetCell 54 = .ok (.aload_n 0, 1) := by decide +kernel
theorem d_P_targetCell_55 : decode c_P_targetCell 55 = .ok (.getfield 35, 3) := by decide +kernel
theorem d_P_targetCell_58 : decode c_P_targetCell 58 = .ok (.laload, 1) := by decide +kernel
theorem d_P_targetCell_59 : decode c_P_targetCell 59 = .ok (.ldc2_w 64, 3) := by decide +kernel
theorem d_P_targetCell_62 : decode c_P_targetCell 62 = .ok (.land, 1) := by decide +kernel
theorem d_P_targetCell_63 : decode c_P_targetCell 63 = .ok (.l2i, 1) := by decide +kernel
theorem d_P_targetCell_64 : decode c_P_targetCell 64 = .ok (.ireturn, 1) := by decide +kernel
theorem d_P_targetCell_65 : decode c_P_targetCell 65 = .ok (.iconst 0, 1) := by decide +kernel
theorem d_P_targetCell_66 : decode c_P_targetCell 66 = .ok (.ireturn, 1) := by decide +kernel
abbrev c_P_folded : ByteArray := prog_3_method_5_code
def y_P_folded : MethodName := ⟨"EventKeeper$Projection", "folded", "(IJJ)J"⟩
theorem d_P_folded_0 : decode c_P_folded 0 = .ok (.iload_n 0, 1) := by decide +kernel
theorem d_P_folded_1 : decode c_P_folded 1 = .ok (.tableswitch 57 1 5 #[35, 39, 41, 45, 51], 35) := by decide +kernel
theorem d_P_folded_36 : decode c_P_folded 36 = .ok (.lload_n 1, 1) := by decide +kernel
theorem d_P_folded_37 : decode c_P_folded 37 = .ok (.lload_n 3, 1) := by decide +kernel
theorem d_P_folded_38 : decode c_P_folded 38 = .ok (.ladd, 1) := by decide +kernel
theorem d_P_folded_39 : decode c_P_folded 39 = .ok (.lreturn, 1) := by decide +kernel
theorem d_P_folded_40 : decode c_P_folded 40 = .ok (.lload_n 3, 1) := by decide +kernel
theorem d_P_folded_41 : decode c_P_folded 41 = .ok (.lreturn, 1) := by decide +kernel
theorem d_P_folded_42 : decode c_P_folded 42 = .ok (.lload_n 1, 1) := by decide +kernel
theorem d_P_folded_43 : decode c_P_folded 43 = .ok (.lconst 1, 1) := by decide +kernel
theorem d_P_folded_44 : decode c_P_folded 44 = .ok (.ladd, 1) := by decide +kernel
theorem d_P_folded_45 : decode c_P_folded 45 = .ok (.lreturn, 1) := by decide +kernel
theorem d_P_folded_46 : decode c_P_folded 46 = .ok (.lload_n 1, 1) := by decide +kernel
theorem d_P_folded_47 : decode c_P_folded 47 = .ok (.lload_n 3, 1) := by decide +kernel
theorem d_P_folded_48 : decode c_P_folded 48 = .ok (.invokestatic 66, 3) := by decide +kernel
theorem d_P_folded_51 : decode c_P_folded 51 = .ok (.lreturn, 1) := by decide +kernel
theorem d_P_folded_52 : decode c_P_folded 52 = .ok (.lload_n 1, 1) := by decide +kernel
theorem d_P_folded_53 : decode c_P_folded 53 = .ok (.lload_n 3, 1) := by decide +kernel
theorem d_P_folded_54 : decode c_P_folded 54 = .ok (.invokestatic 72, 3) := by decide +kernel
theorem d_P_folded_57 : decode c_P_folded 57 = .ok (.lreturn, 1) := by decide +kernel
theorem d_P_folded_58 : decode c_P_folded 58 = .ok (.lload_n 1, 1) := by decide +kernel
theorem d_P_folded_59 : decode c_P_folded 59 = .ok (.lreturn, 1) := by decide +kernel
abbrev c_P_countAndEmit : ByteArray := prog_3_method_6_code
def y_P_countAndEmit : MethodName := ⟨"EventKeeper$Projection", "countAndEmit", "(LEventKeeper$Log;I)Z"⟩
theorem d_P_countAndEmit_0 : decode c_P_countAndEmit 0 = .ok (.aload_n 0, 1) := by decide +kernel
theorem d_P_countAndEmit_1 : decode c_P_countAndEmit 1 = .ok (.getfield 22, 3) := by decide +kernel
theorem d_P_countAndEmit_4 : decode c_P_countAndEmit 4 = .ok (.iload_n 2, 1) := by decide +kernel
theorem d_P_countAndEmit_5 : decode c_P_countAndEmit 5 = .ok (.laload, 1) := by decide +kernel
theorem d_P_countAndEmit_6 : decode c_P_countAndEmit 6 = .ok (.lconst 1, 1) := by decide +kernel
theorem d_P_countAndEmit_7 : decode c_P_countAndEmit 7 = .ok (.ladd, 1) := by decide +kernel
theorem d_P_countAndEmit_8 : decode c_P_countAndEmit 8 = .ok (.lstore_n 3, 1) := by decide +kernel
theorem d_P_countAndEmit_9 : decode c_P_countAndEmit 9 = .ok (.lload_n 3, 1) := by decide +kernel
theorem d_P_countAndEmit_10 : decode c_P_countAndEmit 10 = .ok (.lconst 1, 1) := by decide +kernel
theorem d_P_countAndEmit_11 : decode c_P_countAndEmit 11 = .ok (.land, 1) := by decide +kernel
theorem d_P_countAndEmit_12 : decode c_P_countAndEmit 12 = .ok (.lconst 0, 1) := by decide +kernel
theorem d_P_countAndEmit_13 : decode c_P_countAndEmit 13 = .ok (.lcmp, 1) := by decide +kernel
theorem d_P_countAndEmit_14 : decode c_P_countAndEmit 14 = .ok (.ifCond .ne 7, 3) := by decide +kernel
theorem d_P_countAndEmit_17 : decode c_P_countAndEmit 17 = .ok (.iconst 1, 1) := by decide +kernel
theorem d_P_countAndEmit_18 : decode c_P_countAndEmit 18 = .ok (.goto 4, 3) := by decide +kernel
theorem d_P_countAndEmit_21 : decode c_P_countAndEmit 21 = .ok (.iconst 0, 1) := by decide +kernel
theorem d_P_countAndEmit_22 : decode c_P_countAndEmit 22 = .ok (.istore 5, 2) := by decide +kernel
theorem d_P_countAndEmit_24 : decode c_P_countAndEmit 24 = .ok (.iload 5, 2) := by decide +kernel
theorem d_P_countAndEmit_26 : decode c_P_countAndEmit 26 = .ok (.ifCond .eq 40, 3) := by decide +kernel
theorem d_P_countAndEmit_29 : decode c_P_countAndEmit 29 = .ok (.aload_n 1, 1) := by decide +kernel
theorem d_P_countAndEmit_30 : decode c_P_countAndEmit 30 = .ok (.aload_n 0, 1) := by decide +kernel
theorem d_P_countAndEmit_31 : decode c_P_countAndEmit 31 = .ok (.getfield 9, 3) := by decide +kernel
theorem d_P_countAndEmit_34 : decode c_P_countAndEmit 34 = .ok (.aload_n 0, 1) := by decide +kernel
theorem d_P_countAndEmit_35 : decode c_P_countAndEmit 35 = .ok (.getfield 35, 3) := by decide +kernel
theorem d_P_countAndEmit_38 : decode c_P_countAndEmit 38 = .ok (.invokevirtual 75, 3) := by decide +kernel
theorem d_P_countAndEmit_41 : decode c_P_countAndEmit 41 = .ok (.ifCond .ne 25, 3) := by decide +kernel
theorem d_P_countAndEmit_44 : decode c_P_countAndEmit 44 = .ok (.aload_n 1, 1) := by decide +kernel
theorem d_P_countAndEmit_45 : decode c_P_countAndEmit 45 = .ok (.invokevirtual 79, 3) := by decide +kernel
theorem d_P_countAndEmit_48 : decode c_P_countAndEmit 48 = .ok (.ifCond .eq 5, 3) := by decide +kernel
theorem d_P_countAndEmit_51 : decode c_P_countAndEmit 51 = .ok (.iconst 0, 1) := by decide +kernel
theorem d_P_countAndEmit_52 : decode c_P_countAndEmit 52 = .ok (.ireturn, 1) := by decide +kernel
theorem d_P_countAndEmit_53 : decode c_P_countAndEmit 53 = .ok (.aload_n 1, 1) := by decide +kernel
theorem d_P_countAndEmit_54 : decode c_P_countAndEmit 54 = .ok (.aload_n 0, 1) := by decide +kernel
theorem d_P_countAndEmit_55 : decode c_P_countAndEmit 55 = .ok (.getfield 9, 3) := by decide +kernel
theorem d_P_countAndEmit_58 : decode c_P_countAndEmit 58 = .ok (.aload_n 0, 1) := by decide +kernel
theorem d_P_countAndEmit_59 : decode c_P_countAndEmit 59 = .ok (.getfield 35, 3) := by decide +kernel
theorem d_P_countAndEmit_62 : decode c_P_countAndEmit 62 = .ok (.lload_n 3, 1) := by decide +kernel
theorem d_P_countAndEmit_63 : decode c_P_countAndEmit 63 = .ok (.invokevirtual 83, 3) := by decide +kernel
theorem d_P_countAndEmit_66 : decode c_P_countAndEmit 66 = .ok (.aload_n 0, 1) := by decide +kernel
theorem d_P_countAndEmit_67 : decode c_P_countAndEmit 67 = .ok (.getfield 22, 3) := by decide +kernel
theorem d_P_countAndEmit_70 : decode c_P_countAndEmit 70 = .ok (.iload_n 2, 1) := by decide +kernel
theorem d_P_countAndEmit_71 : decode c_P_countAndEmit 71 = .ok (.lload_n 3, 1) := by decide +kernel
theorem d_P_countAndEmit_72 : decode c_P_countAndEmit 72 = .ok (.lastore, 1) := by decide +kernel
theorem d_P_countAndEmit_73 : decode c_P_countAndEmit 73 = .ok (.iconst 1, 1) := by decide +kernel
theorem d_P_countAndEmit_74 : decode c_P_countAndEmit 74 = .ok (.ireturn, 1) := by decide +kernel
abbrev c_P_keep : ByteArray := prog_3_method_7_code
def y_P_keep : MethodName := ⟨"EventKeeper$Projection", "keep", "(I)I"⟩
theorem d_P_keep_0 : decode c_P_keep 0 = .ok (.aload_n 0, 1) := by decide +kernel
theorem d_P_keep_1 : decode c_P_keep 1 = .ok (.getfield 22, 3) := by decide +kernel
theorem d_P_keep_4 : decode c_P_keep 4 = .ok (.iconst 0, 1) := by decide +kernel
theorem d_P_keep_5 : decode c_P_keep 5 = .ok (.aload_n 0, 1) := by decide +kernel
theorem d_P_keep_6 : decode c_P_keep 6 = .ok (.getfield 26, 3) := by decide +kernel
theorem d_P_keep_9 : decode c_P_keep 9 = .ok (.iconst 0, 1) := by decide +kernel
theorem d_P_keep_10 : decode c_P_keep 10 = .ok (.bipush 16, 2) := by decide +kernel
theorem d_P_keep_12 : decode c_P_keep 12 = .ok (.invokestatic 87, 3) := by decide +kernel
theorem d_P_keep_15 : decode c_P_keep 15 = .ok (.aload_n 0, 1) := by decide +kernel
theorem d_P_keep_16 : decode c_P_keep 16 = .ok (.aload_n 0, 1) := by decide +kernel
theorem d_P_keep_17 : decode c_P_keep 17 = .ok (.getfield 35, 3) := by decide +kernel
theorem d_P_keep_20 : decode c_P_keep 20 = .ok (.putfield 93, 3) := by decide +kernel
theorem d_P_keep_23 : decode c_P_keep 23 = .ok (.aload_n 0, 1) := by decide +kernel
theorem d_P_keep_24 : decode c_P_keep 24 = .ok (.iload_n 1, 1) := by decide +kernel
theorem d_P_keep_25 : decode c_P_keep 25 = .ok (.putfield 29, 3) := by decide +kernel
theorem d_P_keep_28 : decode c_P_keep 28 = .ok (.aload_n 0, 1) := by decide +kernel
theorem d_P_keep_29 : decode c_P_keep 29 = .ok (.getfield 35, 3) := by decide +kernel
theorem d_P_keep_32 : decode c_P_keep 32 = .ok (.ireturn, 1) := by decide +kernel
abbrev c_P_recover : ByteArray := prog_3_method_8_code
def y_P_recover : MethodName := ⟨"EventKeeper$Projection", "recover", "(I)V"⟩
theorem d_P_recover_0 : decode c_P_recover 0 = .ok (.aload_n 0, 1) := by decide +kernel
theorem d_P_recover_1 : decode c_P_recover 1 = .ok (.getfield 29, 3) := by decide +kernel
theorem d_P_recover_4 : decode c_P_recover 4 = .ok (.iconst (-1), 1) := by decide +kernel
theorem d_P_recover_5 : decode c_P_recover 5 = .ok (.if_icmp .eq 11, 3) := by decide +kernel
theorem d_P_recover_8 : decode c_P_recover 8 = .ok (.aload_n 0, 1) := by decide +kernel
theorem d_P_recover_9 : decode c_P_recover 9 = .ok (.getfield 29, 3) := by decide +kernel
theorem d_P_recover_12 : decode c_P_recover 12 = .ok (.iload_n 1, 1) := by decide +kernel
theorem d_P_recover_13 : decode c_P_recover 13 = .ok (.if_icmp .le 10, 3) := by decide +kernel
theorem d_P_recover_16 : decode c_P_recover 16 = .ok (.aload_n 0, 1) := by decide +kernel
theorem d_P_recover_17 : decode c_P_recover 17 = .ok (.invokevirtual 32, 3) := by decide +kernel
theorem d_P_recover_20 : decode c_P_recover 20 = .ok (.goto 26, 3) := by decide +kernel
theorem d_P_recover_23 : decode c_P_recover 23 = .ok (.aload_n 0, 1) := by decide +kernel
theorem d_P_recover_24 : decode c_P_recover 24 = .ok (.getfield 26, 3) := by decide +kernel
theorem d_P_recover_27 : decode c_P_recover 27 = .ok (.iconst 0, 1) := by decide +kernel
theorem d_P_recover_28 : decode c_P_recover 28 = .ok (.aload_n 0, 1) := by decide +kernel
theorem d_P_recover_29 : decode c_P_recover 29 = .ok (.getfield 22, 3) := by decide +kernel
theorem d_P_recover_32 : decode c_P_recover 32 = .ok (.iconst 0, 1) := by decide +kernel
theorem d_P_recover_33 : decode c_P_recover 33 = .ok (.bipush 16, 2) := by decide +kernel
theorem d_P_recover_35 : decode c_P_recover 35 = .ok (.invokestatic 87, 3) := by decide +kernel
theorem d_P_recover_38 : decode c_P_recover 38 = .ok (.aload_n 0, 1) := by decide +kernel
theorem d_P_recover_39 : decode c_P_recover 39 = .ok (.aload_n 0, 1) := by decide +kernel
theorem d_P_recover_40 : decode c_P_recover 40 = .ok (.getfield 93, 3) := by decide +kernel
theorem d_P_recover_43 : decode c_P_recover 43 = .ok (.putfield 35, 3) := by decide +kernel
theorem d_P_recover_46 : decode c_P_recover 46 = .ok (.return_, 1) := by decide +kernel
abbrev c_P_startOver : ByteArray := prog_3_method_9_code
def y_P_startOver : MethodName := ⟨"EventKeeper$Projection", "startOver", "()V"⟩
theorem d_P_startOver_0 : decode c_P_startOver 0 = .ok (.iconst 0, 1) := by decide +kernel
theorem d_P_startOver_1 : decode c_P_startOver 1 = .ok (.istore_n 1, 1) := by decide +kernel
theorem d_P_startOver_2 : decode c_P_startOver 2 = .ok (.iload_n 1, 1) := by decide +kernel
theorem d_P_startOver_3 : decode c_P_startOver 3 = .ok (.bipush 16, 2) := by decide +kernel
theorem d_P_startOver_5 : decode c_P_startOver 5 = .ok (.if_icmp .ge 16, 3) := by decide +kernel
theorem d_P_startOver_8 : decode c_P_startOver 8 = .ok (.aload_n 0, 1) := by decide +kernel
theorem d_P_startOver_9 : decode c_P_startOver 9 = .ok (.getfield 22, 3) := by decide +kernel
theorem d_P_startOver_12 : decode c_P_startOver 12 = .ok (.iload_n 1, 1) := by decide +kernel
theorem d_P_startOver_13 : decode c_P_startOver 13 = .ok (.lconst 0, 1) := by decide +kernel
theorem d_P_startOver_14 : decode c_P_startOver 14 = .ok (.lastore, 1) := by decide +kernel
theorem d_P_startOver_15 : decode c_P_startOver 15 = .ok (.iinc 1 1, 3) := by decide +kernel
theorem d_P_startOver_18 : decode c_P_startOver 18 = .ok (.goto (-16), 3) := by decide +kernel
theorem d_P_startOver_21 : decode c_P_startOver 21 = .ok (.aload_n 0, 1) := by decide +kernel
theorem d_P_startOver_22 : decode c_P_startOver 22 = .ok (.iconst 0, 1) := by decide +kernel
theorem d_P_startOver_23 : decode c_P_startOver 23 = .ok (.putfield 35, 3) := by decide +kernel
theorem d_P_startOver_26 : decode c_P_startOver 26 = .ok (.aload_n 0, 1) := by decide +kernel
theorem d_P_startOver_27 : decode c_P_startOver 27 = .ok (.iconst (-1), 1) := by decide +kernel
theorem d_P_startOver_28 : decode c_P_startOver 28 = .ok (.putfield 29, 3) := by decide +kernel
theorem d_P_startOver_31 : decode c_P_startOver 31 = .ok (.return_, 1) := by decide +kernel
abbrev c_S_init : ByteArray := prog_4_method_1_code
def y_S_init : MethodName := ⟨"EventKeeper$Subscription", "<init>", "()V"⟩
theorem d_S_init_0 : decode c_S_init 0 = .ok (.aload_n 0, 1) := by decide +kernel
theorem d_S_init_1 : decode c_S_init 1 = .ok (.invokespecial 3, 3) := by decide +kernel
theorem d_S_init_4 : decode c_S_init 4 = .ok (.aload_n 0, 1) := by decide +kernel
theorem d_S_init_5 : decode c_S_init 5 = .ok (.iconst (-1), 1) := by decide +kernel
theorem d_S_init_6 : decode c_S_init 6 = .ok (.putfield 9, 3) := by decide +kernel
theorem d_S_init_9 : decode c_S_init 9 = .ok (.aload_n 0, 1) := by decide +kernel
theorem d_S_init_10 : decode c_S_init 10 = .ok (.sipush 255, 3) := by decide +kernel
theorem d_S_init_13 : decode c_S_init 13 = .ok (.putfield 15, 3) := by decide +kernel
theorem d_S_init_16 : decode c_S_init 16 = .ok (.return_, 1) := by decide +kernel
abbrev c_S_setFilter : ByteArray := prog_4_method_2_code
def y_S_setFilter : MethodName := ⟨"EventKeeper$Subscription", "setFilter", "(II)V"⟩
theorem d_S_setFilter_0 : decode c_S_setFilter 0 = .ok (.aload_n 0, 1) := by decide +kernel
theorem d_S_setFilter_1 : decode c_S_setFilter 1 = .ok (.iload_n 1, 1) := by decide +kernel
theorem d_S_setFilter_2 : decode c_S_setFilter 2 = .ok (.putfield 9, 3) := by decide +kernel
theorem d_S_setFilter_5 : decode c_S_setFilter 5 = .ok (.aload_n 0, 1) := by decide +kernel
theorem d_S_setFilter_6 : decode c_S_setFilter 6 = .ok (.iload_n 2, 1) := by decide +kernel
theorem d_S_setFilter_7 : decode c_S_setFilter 7 = .ok (.putfield 15, 3) := by decide +kernel
theorem d_S_setFilter_10 : decode c_S_setFilter 10 = .ok (.aload_n 0, 1) := by decide +kernel
theorem d_S_setFilter_11 : decode c_S_setFilter 11 = .ok (.iconst 0, 1) := by decide +kernel
theorem d_S_setFilter_12 : decode c_S_setFilter 12 = .ok (.putfield 18, 3) := by decide +kernel
theorem d_S_setFilter_15 : decode c_S_setFilter 15 = .ok (.aload_n 0, 1) := by decide +kernel
theorem d_S_setFilter_16 : decode c_S_setFilter 16 = .ok (.iconst 0, 1) := by decide +kernel
theorem d_S_setFilter_17 : decode c_S_setFilter 17 = .ok (.putfield 21, 3) := by decide +kernel
theorem d_S_setFilter_20 : decode c_S_setFilter 20 = .ok (.return_, 1) := by decide +kernel
abbrev c_S_firstWaiting : ByteArray := prog_4_method_3_code
def y_S_firstWaiting : MethodName := ⟨"EventKeeper$Subscription", "firstWaiting", "(LEventKeeper$Log;)I"⟩
theorem d_S_firstWaiting_0 : decode c_S_firstWaiting 0 = .ok (.aload_n 0, 1) := by decide +kernel
theorem d_S_firstWaiting_1 : decode c_S_firstWaiting 1 = .ok (.getfield 18, 3) := by decide +kernel
theorem d_S_firstWaiting_4 : decode c_S_firstWaiting 4 = .ok (.istore_n 2, 1) := by decide +kernel
theorem d_S_firstWaiting_5 : decode c_S_firstWaiting 5 = .ok (.iload_n 2, 1) := by decide +kernel
theorem d_S_firstWaiting_6 : decode c_S_firstWaiting 6 = .ok (.aload_n 1, 1) := by decide +kernel
theorem d_S_firstWaiting_7 : decode c_S_firstWaiting 7 = .ok (.getfield 24, 3) := by decide +kernel
theorem d_S_firstWaiting_10 : decode c_S_firstWaiting 10 = .ok (.if_icmp .ge 30, 3) := by decide +kernel
theorem d_S_firstWaiting_13 : decode c_S_firstWaiting 13 = .ok (.aload_n 0, 1) := by decide +kernel
theorem d_S_firstWaiting_14 : decode c_S_firstWaiting 14 = .ok (.aload_n 1, 1) := by decide +kernel
theorem d_S_firstWaiting_15 : decode c_S_firstWaiting 15 = .ok (.getfield 29, 3) := by decide +kernel
theorem d_S_firstWaiting_18 : decode c_S_firstWaiting 18 = .ok (.iload_n 2, 1) := by decide +kernel
theorem d_S_firstWaiting_19 : decode c_S_firstWaiting 19 = .ok (.iaload, 1) := by decide +kernel
theorem d_S_firstWaiting_20 : decode c_S_firstWaiting 20 = .ok (.aload_n 1, 1) := by decide +kernel
theorem d_S_firstWaiting_21 : decode c_S_firstWaiting 21 = .ok (.getfield 33, 3) := by decide +kernel
theorem d_S_firstWaiting_24 : decode c_S_firstWaiting 24 = .ok (.iload_n 2, 1) := by decide +kernel
theorem d_S_firstWaiting_25 : decode c_S_firstWaiting 25 = .ok (.iaload, 1) := by decide +kernel
theorem d_S_firstWaiting_26 : decode c_S_firstWaiting 26 = .ok (.invokevirtual 36, 3) := by decide +kernel
theorem d_S_firstWaiting_29 : decode c_S_firstWaiting 29 = .ok (.ifCond .eq 5, 3) := by decide +kernel
theorem d_S_firstWaiting_32 : decode c_S_firstWaiting 32 = .ok (.iload_n 2, 1) := by decide +kernel
theorem d_S_firstWaiting_33 : decode c_S_firstWaiting 33 = .ok (.ireturn, 1) := by decide +kernel
theorem d_S_firstWaiting_34 : decode c_S_firstWaiting 34 = .ok (.iinc 2 1, 3) := by decide +kernel
theorem d_S_firstWaiting_37 : decode c_S_firstWaiting 37 = .ok (.goto (-32), 3) := by decide +kernel
theorem d_S_firstWaiting_40 : decode c_S_firstWaiting 40 = .ok (.iconst (-1), 1) := by decide +kernel
theorem d_S_firstWaiting_41 : decode c_S_firstWaiting 41 = .ok (.ireturn, 1) := by decide +kernel
abbrev c_S_letsThrough : ByteArray := prog_4_method_4_code
def y_S_letsThrough : MethodName := ⟨"EventKeeper$Subscription", "letsThrough", "(II)Z"⟩
theorem d_S_letsThrough_0 : decode c_S_letsThrough 0 = .ok (.aload_n 0, 1) := by decide +kernel
theorem d_S_letsThrough_1 : decode c_S_letsThrough 1 = .ok (.getfield 9, 3) := by decide +kernel
theorem d_S_letsThrough_4 : decode c_S_letsThrough 4 = .ok (.iconst (-1), 1) := by decide +kernel
theorem d_S_letsThrough_5 : decode c_S_letsThrough 5 = .ok (.if_icmp .eq 11, 3) := by decide +kernel
theorem d_S_letsThrough_8 : decode c_S_letsThrough 8 = .ok (.aload_n 0, 1) := by decide +kernel
theorem d_S_letsThrough_9 : decode c_S_letsThrough 9 = .ok (.getfield 9, 3) := by decide +kernel
theorem d_S_letsThrough_12 : decode c_S_letsThrough 12 = .ok (.iload_n 1, 1) := by decide +kernel
theorem d_S_letsThrough_13 : decode c_S_letsThrough 13 = .ok (.if_icmp .ne 7, 3) := by decide +kernel
theorem d_S_letsThrough_16 : decode c_S_letsThrough 16 = .ok (.iconst 1, 1) := by decide +kernel
theorem d_S_letsThrough_17 : decode c_S_letsThrough 17 = .ok (.goto 4, 3) := by decide +kernel
theorem d_S_letsThrough_20 : decode c_S_letsThrough 20 = .ok (.iconst 0, 1) := by decide +kernel
theorem d_S_letsThrough_21 : decode c_S_letsThrough 21 = .ok (.istore_n 3, 1) := by decide +kernel
theorem d_S_letsThrough_22 : decode c_S_letsThrough 22 = .ok (.iload_n 3, 1) := by decide +kernel
theorem d_S_letsThrough_23 : decode c_S_letsThrough 23 = .ok (.ifCond .eq 18, 3) := by decide +kernel
theorem d_S_letsThrough_26 : decode c_S_letsThrough 26 = .ok (.aload_n 0, 1) := by decide +kernel
theorem d_S_letsThrough_27 : decode c_S_letsThrough 27 = .ok (.getfield 15, 3) := by decide +kernel
theorem d_S_letsThrough_30 : decode c_S_letsThrough 30 = .ok (.iconst 1, 1) := by decide +kernel
theorem d_S_letsThrough_31 : decode c_S_letsThrough 31 = .ok (.iload_n 2, 1) := by decide +kernel
theorem d_S_letsThrough_32 : decode c_S_letsThrough 32 = .ok (.ishl, 1) := by decide +kernel
theorem d_S_letsThrough_33 : decode c_S_letsThrough 33 = .ok (.iand, 1) := by decide +kernel
theorem d_S_letsThrough_34 : decode c_S_letsThrough 34 = .ok (.ifCond .eq 7, 3) := by decide +kernel
theorem d_S_letsThrough_37 : decode c_S_letsThrough 37 = .ok (.iconst 1, 1) := by decide +kernel
theorem d_S_letsThrough_38 : decode c_S_letsThrough 38 = .ok (.goto 4, 3) := by decide +kernel
theorem d_S_letsThrough_41 : decode c_S_letsThrough 41 = .ok (.iconst 0, 1) := by decide +kernel
theorem d_S_letsThrough_42 : decode c_S_letsThrough 42 = .ok (.ireturn, 1) := by decide +kernel
abbrev c_S_passBehind : ByteArray := prog_4_method_5_code
def y_S_passBehind : MethodName := ⟨"EventKeeper$Subscription", "passBehind", "(I)I"⟩
theorem d_S_passBehind_0 : decode c_S_passBehind 0 = .ok (.aload_n 0, 1) := by decide +kernel
theorem d_S_passBehind_1 : decode c_S_passBehind 1 = .ok (.aload_n 0, 1) := by decide +kernel
theorem d_S_passBehind_2 : decode c_S_passBehind 2 = .ok (.getfield 18, 3) := by decide +kernel
theorem d_S_passBehind_5 : decode c_S_passBehind 5 = .ok (.iload_n 1, 1) := by decide +kernel
theorem d_S_passBehind_6 : decode c_S_passBehind 6 = .ok (.iconst 1, 1) := by decide +kernel
theorem d_S_passBehind_7 : decode c_S_passBehind 7 = .ok (.iadd, 1) := by decide +kernel
theorem d_S_passBehind_8 : decode c_S_passBehind 8 = .ok (.invokestatic 40, 3) := by decide +kernel
theorem d_S_passBehind_11 : decode c_S_passBehind 11 = .ok (.putfield 18, 3) := by decide +kernel
theorem d_S_passBehind_14 : decode c_S_passBehind 14 = .ok (.aload_n 0, 1) := by decide +kernel
theorem d_S_passBehind_15 : decode c_S_passBehind 15 = .ok (.getfield 18, 3) := by decide +kernel
theorem d_S_passBehind_18 : decode c_S_passBehind 18 = .ok (.ireturn, 1) := by decide +kernel
abbrev c_S_makeSafe : ByteArray := prog_4_method_6_code
def y_S_makeSafe : MethodName := ⟨"EventKeeper$Subscription", "makeSafe", "()V"⟩
theorem d_S_makeSafe_0 : decode c_S_makeSafe 0 = .ok (.aload_n 0, 1) := by decide +kernel
theorem d_S_makeSafe_1 : decode c_S_makeSafe 1 = .ok (.aload_n 0, 1) := by decide +kernel
theorem d_S_makeSafe_2 : decode c_S_makeSafe 2 = .ok (.getfield 18, 3) := by decide +kernel
theorem d_S_makeSafe_5 : decode c_S_makeSafe 5 = .ok (.putfield 21, 3) := by decide +kernel
theorem d_S_makeSafe_8 : decode c_S_makeSafe 8 = .ok (.return_, 1) := by decide +kernel
abbrev c_S_recover : ByteArray := prog_4_method_7_code
def y_S_recover : MethodName := ⟨"EventKeeper$Subscription", "recover", "(I)V"⟩
theorem d_S_recover_0 : decode c_S_recover 0 = .ok (.aload_n 0, 1) := by decide +kernel
theorem d_S_recover_1 : decode c_S_recover 1 = .ok (.aload_n 0, 1) := by decide +kernel
theorem d_S_recover_2 : decode c_S_recover 2 = .ok (.getfield 21, 3) := by decide +kernel
theorem d_S_recover_5 : decode c_S_recover 5 = .ok (.iload_n 1, 1) := by decide +kernel
theorem d_S_recover_6 : decode c_S_recover 6 = .ok (.invokestatic 46, 3) := by decide +kernel
theorem d_S_recover_9 : decode c_S_recover 9 = .ok (.putfield 18, 3) := by decide +kernel
theorem d_S_recover_12 : decode c_S_recover 12 = .ok (.return_, 1) := by decide +kernel
end
section
abbrev c_EK_init : ByteArray := prog_1_method_1_code
def y_EK_init : MethodName := ⟨"EventKeeper", "<init>", "()V"⟩
theorem d_EK_init_0 : decode c_EK_init 0 = .ok (.aload_n 0, 1) := by decide +kernel
theorem d_EK_init_1 : decode c_EK_init 1 = .ok (.invokespecial 1, 3) := by decide +kernel
theorem d_EK_init_4 : decode c_EK_init 4 = .ok (.aload_n 0, 1) := by decide +kernel
theorem d_EK_init_5 : decode c_EK_init 5 = .ok (.new 7, 3) := by decide +kernel
theorem d_EK_init_8 : decode c_EK_init 8 = .ok (.dup, 1) := by decide +kernel
theorem d_EK_init_9 : decode c_EK_init 9 = .ok (.invokespecial 9, 3) := by decide +kernel
theorem d_EK_init_12 : decode c_EK_init 12 = .ok (.putfield 10, 3) := by decide +kernel
theorem d_EK_init_15 : decode c_EK_init 15 = .ok (.aload_n 0, 1) := by decide +kernel
theorem d_EK_init_16 : decode c_EK_init 16 = .ok (.bipush 8, 2) := by decide +kernel
theorem d_EK_init_18 : decode c_EK_init 18 = .ok (.anewarray 16, 3) := by decide +kernel
theorem d_EK_init_21 : decode c_EK_init 21 = .ok (.putfield 18, 3) := by decide +kernel
theorem d_EK_init_24 : decode c_EK_init 24 = .ok (.iconst 0, 1) := by decide +kernel
theorem d_EK_init_25 : decode c_EK_init 25 = .ok (.istore_n 1, 1) := by decide +kernel
theorem d_EK_init_26 : decode c_EK_init 26 = .ok (.iload_n 1, 1) := by decide +kernel
theorem d_EK_init_27 : decode c_EK_init 27 = .ok (.bipush 8, 2) := by decide +kernel
theorem d_EK_init_29 : decode c_EK_init 29 = .ok (.if_icmp .ge 23, 3) := by decide +kernel
theorem d_EK_init_32 : decode c_EK_init 32 = .ok (.aload_n 0, 1) := by decide +kernel
theorem d_EK_init_33 : decode c_EK_init 33 = .ok (.getfield 18, 3) := by decide +kernel
theorem d_EK_init_36 : decode c_EK_init 36 = .ok (.iload_n 1, 1) := by decide +kernel
theorem d_EK_init_37 : decode c_EK_init 37 = .ok (.new 16, 3) := by decide +kernel
theorem d_EK_init_40 : decode c_EK_init 40 = .ok (.dup, 1) := by decide +kernel
theorem d_EK_init_41 : decode c_EK_init 41 = .ok (.iload_n 1, 1) := by decide +kernel
theorem d_EK_init_42 : decode c_EK_init 42 = .ok (.invokespecial 22, 3) := by decide +kernel
theorem d_EK_init_45 : decode c_EK_init 45 = .ok (.aastore, 1) := by decide +kernel
theorem d_EK_init_46 : decode c_EK_init 46 = .ok (.iinc 1 1, 3) := by decide +kernel
theorem d_EK_init_49 : decode c_EK_init 49 = .ok (.goto (-23), 3) := by decide +kernel
theorem d_EK_init_52 : decode c_EK_init 52 = .ok (.aload_n 0, 1) := by decide +kernel
theorem d_EK_init_53 : decode c_EK_init 53 = .ok (.bipush 8, 2) := by decide +kernel
theorem d_EK_init_55 : decode c_EK_init 55 = .ok (.anewarray 25, 3) := by decide +kernel
theorem d_EK_init_58 : decode c_EK_init 58 = .ok (.putfield 27, 3) := by decide +kernel
theorem d_EK_init_61 : decode c_EK_init 61 = .ok (.iconst 0, 1) := by decide +kernel
theorem d_EK_init_62 : decode c_EK_init 62 = .ok (.istore_n 1, 1) := by decide +kernel
theorem d_EK_init_63 : decode c_EK_init 63 = .ok (.iload_n 1, 1) := by decide +kernel
theorem d_EK_init_64 : decode c_EK_init 64 = .ok (.bipush 8, 2) := by decide +kernel
theorem d_EK_init_66 : decode c_EK_init 66 = .ok (.if_icmp .ge 22, 3) := by decide +kernel
theorem d_EK_init_69 : decode c_EK_init 69 = .ok (.aload_n 0, 1) := by decide +kernel
theorem d_EK_init_70 : decode c_EK_init 70 = .ok (.getfield 27, 3) := by decide +kernel
theorem d_EK_init_73 : decode c_EK_init 73 = .ok (.iload_n 1, 1) := by decide +kernel
theorem d_EK_init_74 : decode c_EK_init 74 = .ok (.new 25, 3) := by decide +kernel
theorem d_EK_init_77 : decode c_EK_init 77 = .ok (.dup, 1) := by decide +kernel
theorem d_EK_init_78 : decode c_EK_init 78 = .ok (.invokespecial 31, 3) := by decide +kernel
theorem d_EK_init_81 : decode c_EK_init 81 = .ok (.aastore, 1) := by decide +kernel
theorem d_EK_init_82 : decode c_EK_init 82 = .ok (.iinc 1 1, 3) := by decide +kernel
theorem d_EK_init_85 : decode c_EK_init 85 = .ok (.goto (-22), 3) := by decide +kernel
theorem d_EK_init_88 : decode c_EK_init 88 = .ok (.return_, 1) := by decide +kernel
abbrev c_EK_append : ByteArray := prog_1_method_2_code
def y_EK_append : MethodName := ⟨"EventKeeper", "append", "(IIIJ)I"⟩
theorem d_EK_append_0 : decode c_EK_append 0 = .ok (.iload_n 1, 1) := by decide +kernel
theorem d_EK_append_1 : decode c_EK_append 1 = .ok (.invokestatic 32, 3) := by decide +kernel
theorem d_EK_append_4 : decode c_EK_append 4 = .ok (.iload_n 2, 1) := by decide +kernel
theorem d_EK_append_5 : decode c_EK_append 5 = .ok (.iconst (-1), 1) := by decide +kernel
theorem d_EK_append_6 : decode c_EK_append 6 = .ok (.if_icmp .lt 7, 3) := by decide +kernel
theorem d_EK_append_9 : decode c_EK_append 9 = .ok (.iconst 1, 1) := by decide +kernel
theorem d_EK_append_10 : decode c_EK_append 10 = .ok (.goto 4, 3) := by decide +kernel
theorem d_EK_append_13 : decode c_EK_append 13 = .ok (.iconst 0, 1) := by decide +kernel
theorem d_EK_append_14 : decode c_EK_append 14 = .ok (.invokestatic 35, 3) := by decide +kernel
theorem d_EK_append_17 : decode c_EK_append 17 = .ok (.iload_n 3, 1) := by decide +kernel
theorem d_EK_append_18 : decode c_EK_append 18 = .ok (.invokestatic 39, 3) := by decide +kernel
theorem d_EK_append_21 : decode c_EK_append 21 = .ok (.iload_n 2, 1) := by decide +kernel
theorem d_EK_append_22 : decode c_EK_append 22 = .ok (.iconst (-1), 1) := by decide +kernel
theorem d_EK_append_23 : decode c_EK_append 23 = .ok (.if_icmp .eq 26, 3) := by decide +kernel
theorem d_EK_append_26 : decode c_EK_append 26 = .ok (.iload_n 2, 1) := by decide +kernel
theorem d_EK_append_27 : decode c_EK_append 27 = .ok (.aload_n 0, 1) := by decide +kernel
theorem d_EK_append_28 : decode c_EK_append 28 = .ok (.getfield 10, 3) := by decide +kernel
theorem d_EK_append_31 : decode c_EK_append 31 = .ok (.getfield 42, 3) := by decide +kernel
theorem d_EK_append_34 : decode c_EK_append 34 = .ok (.iload_n 1, 1) := by decide +kernel
theorem d_EK_append_35 : decode c_EK_append 35 = .ok (.iaload, 1) := by decide +kernel
theorem d_EK_append_36 : decode c_EK_append 36 = .ok (.if_icmp .eq 13, 3) := by decide +kernel
theorem d_EK_append_39 : decode c_EK_append 39 = .ok (.new 46, 3) := by decide +kernel
theorem d_EK_append_42 : decode c_EK_append 42 = .ok (.dup, 1) := by decide +kernel
theorem d_EK_append_43 : decode c_EK_append 43 = .ok (.ldc 48, 2) := by decide +kernel
theorem d_EK_append_45 : decode c_EK_append 45 = .ok (.invokespecial 50, 3) := by decide +kernel
theorem d_EK_append_48 : decode c_EK_append 48 = .ok (.athrow, 1) := by decide +kernel
theorem d_EK_append_49 : decode c_EK_append 49 = .ok (.aload_n 0, 1) := by decide +kernel
theorem d_EK_append_50 : decode c_EK_append 50 = .ok (.getfield 10, 3) := by decide +kernel
theorem d_EK_append_53 : decode c_EK_append 53 = .ok (.invokevirtual 53, 3) := by decide +kernel
theorem d_EK_append_56 : decode c_EK_append 56 = .ok (.ifCond .eq 13, 3) := by decide +kernel
theorem d_EK_append_59 : decode c_EK_append 59 = .ok (.new 57, 3) := by decide +kernel
theorem d_EK_append_62 : decode c_EK_append 62 = .ok (.dup, 1) := by decide +kernel
theorem d_EK_append_63 : decode c_EK_append 63 = .ok (.ldc 59, 2) := by decide +kernel
theorem d_EK_append_65 : decode c_EK_append 65 = .ok (.invokespecial 61, 3) := by decide +kernel
theorem d_EK_append_68 : decode c_EK_append 68 = .ok (.athrow, 1) := by decide +kernel
theorem d_EK_append_69 : decode c_EK_append 69 = .ok (.aload_n 0, 1) := by decide +kernel
theorem d_EK_append_70 : decode c_EK_append 70 = .ok (.getfield 10, 3) := by decide +kernel
theorem d_EK_append_73 : decode c_EK_append 73 = .ok (.iload_n 1, 1) := by decide +kernel
theorem d_EK_append_74 : decode c_EK_append 74 = .ok (.iload_n 3, 1) := by decide +kernel
theorem d_EK_append_75 : decode c_EK_append 75 = .ok (.lload 4, 2) := by decide +kernel
theorem d_EK_append_77 : decode c_EK_append 77 = .ok (.invokevirtual 62, 3) := by decide +kernel
theorem d_EK_append_80 : decode c_EK_append 80 = .ok (.ireturn, 1) := by decide +kernel
abbrev c_EK_rule : ByteArray := prog_1_method_3_code
def y_EK_rule : MethodName := ⟨"EventKeeper", "rule", "(IIII)V"⟩
theorem d_EK_rule_0 : decode c_EK_rule 0 = .ok (.iload_n 1, 1) := by decide +kernel
theorem d_EK_rule_1 : decode c_EK_rule 1 = .ok (.invokestatic 66, 3) := by decide +kernel
theorem d_EK_rule_4 : decode c_EK_rule 4 = .ok (.iload_n 2, 1) := by decide +kernel
theorem d_EK_rule_5 : decode c_EK_rule 5 = .ok (.invokestatic 39, 3) := by decide +kernel
theorem d_EK_rule_8 : decode c_EK_rule 8 = .ok (.iload_n 3, 1) := by decide +kernel
theorem d_EK_rule_9 : decode c_EK_rule 9 = .ok (.ifCond .lt 13, 3) := by decide +kernel
theorem d_EK_rule_12 : decode c_EK_rule 12 = .ok (.iload_n 3, 1) := by decide +kernel
theorem d_EK_rule_13 : decode c_EK_rule 13 = .ok (.bipush 6, 2) := by decide +kernel
theorem d_EK_rule_15 : decode c_EK_rule 15 = .ok (.if_icmp .gt 7, 3) := by decide +kernel
theorem d_EK_rule_18 : decode c_EK_rule 18 = .ok (.iconst 1, 1) := by decide +kernel
theorem d_EK_rule_19 : decode c_EK_rule 19 = .ok (.goto 4, 3) := by decide +kernel
theorem d_EK_rule_22 : decode c_EK_rule 22 = .ok (.iconst 0, 1) := by decide +kernel
theorem d_EK_rule_23 : decode c_EK_rule 23 = .ok (.invokestatic 35, 3) := by decide +kernel
theorem d_EK_rule_26 : decode c_EK_rule 26 = .ok (.iload 4, 2) := by decide +kernel
theorem d_EK_rule_28 : decode c_EK_rule 28 = .ok (.ifCond .lt 13, 3) := by decide +kernel
theorem d_EK_rule_31 : decode c_EK_rule 31 = .ok (.iload 4, 2) := by decide +kernel
theorem d_EK_rule_33 : decode c_EK_rule 33 = .ok (.iconst 2, 1) := by decide +kernel
theorem d_EK_rule_34 : decode c_EK_rule 34 = .ok (.if_icmp .gt 7, 3) := by decide +kernel
theorem d_EK_rule_37 : decode c_EK_rule 37 = .ok (.iconst 1, 1) := by decide +kernel
theorem d_EK_rule_38 : decode c_EK_rule 38 = .ok (.goto 4, 3) := by decide +kernel
theorem d_EK_rule_41 : decode c_EK_rule 41 = .ok (.iconst 0, 1) := by decide +kernel
theorem d_EK_rule_42 : decode c_EK_rule 42 = .ok (.invokestatic 35, 3) := by decide +kernel
theorem d_EK_rule_45 : decode c_EK_rule 45 = .ok (.aload_n 0, 1) := by decide +kernel
theorem d_EK_rule_46 : decode c_EK_rule 46 = .ok (.getfield 18, 3) := by decide +kernel
theorem d_EK_rule_49 : decode c_EK_rule 49 = .ok (.iload_n 1, 1) := by decide +kernel
theorem d_EK_rule_50 : decode c_EK_rule 50 = .ok (.aaload, 1) := by decide +kernel
theorem d_EK_rule_51 : decode c_EK_rule 51 = .ok (.iload_n 2, 1) := by decide +kernel
theorem d_EK_rule_52 : decode c_EK_rule 52 = .ok (.iload_n 3, 1) := by decide +kernel
theorem d_EK_rule_53 : decode c_EK_rule 53 = .ok (.iload 4, 2) := by decide +kernel
theorem d_EK_rule_55 : decode c_EK_rule 55 = .ok (.invokevirtual 69, 3) := by decide +kernel
theorem d_EK_rule_58 : decode c_EK_rule 58 = .ok (.return_, 1) := by decide +kernel
abbrev c_EK_advance : ByteArray := prog_1_method_4_code
def y_EK_advance : MethodName := ⟨"EventKeeper", "advance", "(II)I"⟩
theorem d_EK_advance_0 : decode c_EK_advance 0 = .ok (.iload_n 1, 1) := by decide +kernel
theorem d_EK_advance_1 : decode c_EK_advance 1 = .ok (.invokestatic 66, 3) := by decide +kernel
theorem d_EK_advance_4 : decode c_EK_advance 4 = .ok (.iload_n 2, 1) := by decide +kernel
theorem d_EK_advance_5 : decode c_EK_advance 5 = .ok (.ifCond .lt 14, 3) := by decide +kernel
theorem d_EK_advance_8 : decode c_EK_advance 8 = .ok (.iload_n 2, 1) := by decide +kernel
theorem d_EK_advance_9 : decode c_EK_advance 9 = .ok (.sipush 1000, 3) := by decide +kernel
theorem d_EK_advance_12 : decode c_EK_advance 12 = .ok (.if_icmp .gt 7, 3) := by decide +kernel
theorem d_EK_advance_15 : decode c_EK_advance 15 = .ok (.iconst 1, 1) := by decide +kernel
theorem d_EK_advance_16 : decode c_EK_advance 16 = .ok (.goto 4, 3) := by decide +kernel
theorem d_EK_advance_19 : decode c_EK_advance 19 = .ok (.iconst 0, 1) := by decide +kernel
theorem d_EK_advance_20 : decode c_EK_advance 20 = .ok (.invokestatic 35, 3) := by decide +kernel
theorem d_EK_advance_23 : decode c_EK_advance 23 = .ok (.iconst 0, 1) := by decide +kernel
theorem d_EK_advance_24 : decode c_EK_advance 24 = .ok (.istore_n 3, 1) := by decide +kernel
theorem d_EK_advance_25 : decode c_EK_advance 25 = .ok (.iload_n 3, 1) := by decide +kernel
theorem d_EK_advance_26 : decode c_EK_advance 26 = .ok (.iload_n 2, 1) := by decide +kernel
theorem d_EK_advance_27 : decode c_EK_advance 27 = .ok (.if_icmp .ge 27, 3) := by decide +kernel
theorem d_EK_advance_30 : decode c_EK_advance 30 = .ok (.aload_n 0, 1) := by decide +kernel
theorem d_EK_advance_31 : decode c_EK_advance 31 = .ok (.getfield 18, 3) := by decide +kernel
theorem d_EK_advance_34 : decode c_EK_advance 34 = .ok (.iload_n 1, 1) := by decide +kernel
theorem d_EK_advance_35 : decode c_EK_advance 35 = .ok (.aaload, 1) := by decide +kernel
theorem d_EK_advance_36 : decode c_EK_advance 36 = .ok (.aload_n 0, 1) := by decide +kernel
theorem d_EK_advance_37 : decode c_EK_advance 37 = .ok (.getfield 10, 3) := by decide +kernel
theorem d_EK_advance_40 : decode c_EK_advance 40 = .ok (.invokevirtual 73, 3) := by decide +kernel
theorem d_EK_advance_43 : decode c_EK_advance 43 = .ok (.ifCond .ne 5, 3) := by decide +kernel
theorem d_EK_advance_46 : decode c_EK_advance 46 = .ok (.iload_n 3, 1) := by decide +kernel
theorem d_EK_advance_47 : decode c_EK_advance 47 = .ok (.ireturn, 1) := by decide +kernel
theorem d_EK_advance_48 : decode c_EK_advance 48 = .ok (.iinc 3 1, 3) := by decide +kernel
theorem d_EK_advance_51 : decode c_EK_advance 51 = .ok (.goto (-26), 3) := by decide +kernel
theorem d_EK_advance_54 : decode c_EK_advance 54 = .ok (.iload_n 2, 1) := by decide +kernel
theorem d_EK_advance_55 : decode c_EK_advance 55 = .ok (.ireturn, 1) := by decide +kernel
abbrev c_EK_save : ByteArray := prog_1_method_5_code
def y_EK_save : MethodName := ⟨"EventKeeper", "save", "(I)I"⟩
theorem d_EK_save_0 : decode c_EK_save 0 = .ok (.iload_n 1, 1) := by decide +kernel
theorem d_EK_save_1 : decode c_EK_save 1 = .ok (.invokestatic 66, 3) := by decide +kernel
theorem d_EK_save_4 : decode c_EK_save 4 = .ok (.aload_n 0, 1) := by decide +kernel
theorem d_EK_save_5 : decode c_EK_save 5 = .ok (.getfield 18, 3) := by decide +kernel
theorem d_EK_save_8 : decode c_EK_save 8 = .ok (.iload_n 1, 1) := by decide +kernel
theorem d_EK_save_9 : decode c_EK_save 9 = .ok (.aaload, 1) := by decide +kernel
theorem d_EK_save_10 : decode c_EK_save 10 = .ok (.aload_n 0, 1) := by decide +kernel
theorem d_EK_save_11 : decode c_EK_save 11 = .ok (.getfield 10, 3) := by decide +kernel
theorem d_EK_save_14 : decode c_EK_save 14 = .ok (.getfield 77, 3) := by decide +kernel
theorem d_EK_save_17 : decode c_EK_save 17 = .ok (.invokevirtual 81, 3) := by decide +kernel
theorem d_EK_save_20 : decode c_EK_save 20 = .ok (.ireturn, 1) := by decide +kernel
abbrev c_EK_cell : ByteArray := prog_1_method_6_code
def y_EK_cell : MethodName := ⟨"EventKeeper", "cell", "(II)J"⟩
theorem d_EK_cell_0 : decode c_EK_cell 0 = .ok (.iload_n 1, 1) := by decide +kernel
theorem d_EK_cell_1 : decode c_EK_cell 1 = .ok (.invokestatic 66, 3) := by decide +kernel
theorem d_EK_cell_4 : decode c_EK_cell 4 = .ok (.iload_n 2, 1) := by decide +kernel
theorem d_EK_cell_5 : decode c_EK_cell 5 = .ok (.ifCond .lt 9, 3) := by decide +kernel
theorem d_EK_cell_8 : decode c_EK_cell 8 = .ok (.iload_n 2, 1) := by decide +kernel
theorem d_EK_cell_9 : decode c_EK_cell 9 = .ok (.bipush 16, 2) := by decide +kernel
theorem d_EK_cell_11 : decode c_EK_cell 11 = .ok (.if_icmp .lt 13, 3) := by decide +kernel
theorem d_EK_cell_14 : decode c_EK_cell 14 = .ok (.new 57, 3) := by decide +kernel
theorem d_EK_cell_17 : decode c_EK_cell 17 = .ok (.dup, 1) := by decide +kernel
theorem d_EK_cell_18 : decode c_EK_cell 18 = .ok (.ldc 85, 2) := by decide +kernel
theorem d_EK_cell_20 : decode c_EK_cell 20 = .ok (.invokespecial 61, 3) := by decide +kernel
theorem d_EK_cell_23 : decode c_EK_cell 23 = .ok (.athrow, 1) := by decide +kernel
theorem d_EK_cell_24 : decode c_EK_cell 24 = .ok (.aload_n 0, 1) := by decide +kernel
theorem d_EK_cell_25 : decode c_EK_cell 25 = .ok (.getfield 18, 3) := by decide +kernel
theorem d_EK_cell_28 : decode c_EK_cell 28 = .ok (.iload_n 1, 1) := by decide +kernel
theorem d_EK_cell_29 : decode c_EK_cell 29 = .ok (.aaload, 1) := by decide +kernel
theorem d_EK_cell_30 : decode c_EK_cell 30 = .ok (.getfield 87, 3) := by decide +kernel
theorem d_EK_cell_33 : decode c_EK_cell 33 = .ok (.iload_n 2, 1) := by decide +kernel
theorem d_EK_cell_34 : decode c_EK_cell 34 = .ok (.laload, 1) := by decide +kernel
theorem d_EK_cell_35 : decode c_EK_cell 35 = .ok (.lreturn, 1) := by decide +kernel
abbrev c_EK_filter : ByteArray := prog_1_method_7_code
def y_EK_filter : MethodName := ⟨"EventKeeper", "filter", "(III)V"⟩
theorem d_EK_filter_0 : decode c_EK_filter 0 = .ok (.iload_n 1, 1) := by decide +kernel
theorem d_EK_filter_1 : decode c_EK_filter 1 = .ok (.invokestatic 91, 3) := by decide +kernel
theorem d_EK_filter_4 : decode c_EK_filter 4 = .ok (.iload_n 2, 1) := by decide +kernel
theorem d_EK_filter_5 : decode c_EK_filter 5 = .ok (.iconst (-1), 1) := by decide +kernel
theorem d_EK_filter_6 : decode c_EK_filter 6 = .ok (.if_icmp .lt 13, 3) := by decide +kernel
theorem d_EK_filter_9 : decode c_EK_filter 9 = .ok (.iload_n 2, 1) := by decide +kernel
theorem d_EK_filter_10 : decode c_EK_filter 10 = .ok (.bipush 16, 2) := by decide +kernel
theorem d_EK_filter_12 : decode c_EK_filter 12 = .ok (.if_icmp .ge 7, 3) := by decide +kernel
theorem d_EK_filter_15 : decode c_EK_filter 15 = .ok (.iconst 1, 1) := by decide +kernel
theorem d_EK_filter_16 : decode c_EK_filter 16 = .ok (.goto 4, 3) := by decide +kernel
theorem d_EK_filter_19 : decode c_EK_filter 19 = .ok (.iconst 0, 1) := by decide +kernel
theorem d_EK_filter_20 : decode c_EK_filter 20 = .ok (.invokestatic 35, 3) := by decide +kernel
theorem d_EK_filter_23 : decode c_EK_filter 23 = .ok (.iload_n 3, 1) := by decide +kernel
theorem d_EK_filter_24 : decode c_EK_filter 24 = .ok (.ifCond .lt 14, 3) := by decide +kernel
theorem d_EK_filter_27 : decode c_EK_filter 27 = .ok (.iload_n 3, 1) := by decide +kernel
theorem d_EK_filter_28 : decode c_EK_filter 28 = .ok (.sipush 255, 3) := by decide +kernel
theorem d_EK_filter_31 : decode c_EK_filter 31 = .ok (.if_icmp .gt 7, 3) := by decide +kernel
theorem d_EK_filter_34 : decode c_EK_filter 34 = .ok (.iconst 1, 1) := by decide +kernel
theorem d_EK_filter_35 : decode c_EK_filter 35 = .ok (.goto 4, 3) := by decide +kernel
theorem d_EK_filter_38 : decode c_EK_filter 38 = .ok (.iconst 0, 1) := by decide +kernel
theorem d_EK_filter_39 : decode c_EK_filter 39 = .ok (.invokestatic 35, 3) := by decide +kernel
theorem d_EK_filter_42 : decode c_EK_filter 42 = .ok (.aload_n 0, 1) := by decide +kernel
theorem d_EK_filter_43 : decode c_EK_filter 43 = .ok (.getfield 27, 3) := by decide +kernel
theorem d_EK_filter_46 : decode c_EK_filter 46 = .ok (.iload_n 1, 1) := by decide +kernel
theorem d_EK_filter_47 : decode c_EK_filter 47 = .ok (.aaload, 1) := by decide +kernel
theorem d_EK_filter_48 : decode c_EK_filter 48 = .ok (.iload_n 2, 1) := by decide +kernel
theorem d_EK_filter_49 : decode c_EK_filter 49 = .ok (.iload_n 3, 1) := by decide +kernel
theorem d_EK_filter_50 : decode c_EK_filter 50 = .ok (.invokevirtual 94, 3) := by decide +kernel
theorem d_EK_filter_53 : decode c_EK_filter 53 = .ok (.return_, 1) := by decide +kernel
abbrev c_EK_next : ByteArray := prog_1_method_8_code
def y_EK_next : MethodName := ⟨"EventKeeper", "next", "(I)I"⟩
theorem d_EK_next_0 : decode c_EK_next 0 = .ok (.iload_n 1, 1) := by decide +kernel
theorem d_EK_next_1 : decode c_EK_next 1 = .ok (.invokestatic 91, 3) := by decide +kernel
theorem d_EK_next_4 : decode c_EK_next 4 = .ok (.aload_n 0, 1) := by decide +kernel
theorem d_EK_next_5 : decode c_EK_next 5 = .ok (.getfield 27, 3) := by decide +kernel
theorem d_EK_next_8 : decode c_EK_next 8 = .ok (.iload_n 1, 1) := by decide +kernel
theorem d_EK_next_9 : decode c_EK_next 9 = .ok (.aaload, 1) := by decide +kernel
theorem d_EK_next_10 : decode c_EK_next 10 = .ok (.aload_n 0, 1) := by decide +kernel
theorem d_EK_next_11 : decode c_EK_next 11 = .ok (.getfield 10, 3) := by decide +kernel
theorem d_EK_next_14 : decode c_EK_next 14 = .ok (.invokevirtual 98, 3) := by decide +kernel
theorem d_EK_next_17 : decode c_EK_next 17 = .ok (.ireturn, 1) := by decide +kernel
abbrev c_EK_acknowledge : ByteArray := prog_1_method_9_code
def y_EK_acknowledge : MethodName := ⟨"EventKeeper", "acknowledge", "(II)I"⟩
theorem d_EK_acknowledge_0 : decode c_EK_acknowledge 0 = .ok (.iload_n 1, 1) := by decide +kernel
theorem d_EK_acknowledge_1 : decode c_EK_acknowledge 1 = .ok (.invokestatic 91, 3) := by decide +kernel
theorem d_EK_acknowledge_4 : decode c_EK_acknowledge 4 = .ok (.aload_n 0, 1) := by decide +kernel
theorem d_EK_acknowledge_5 : decode c_EK_acknowledge 5 = .ok (.iload_n 2, 1) := by decide +kernel
theorem d_EK_acknowledge_6 : decode c_EK_acknowledge 6 = .ok (.invokevirtual 102, 3) := by decide +kernel
theorem d_EK_acknowledge_9 : decode c_EK_acknowledge 9 = .ok (.aload_n 0, 1) := by decide +kernel
theorem d_EK_acknowledge_10 : decode c_EK_acknowledge 10 = .ok (.getfield 27, 3) := by decide +kernel
theorem d_EK_acknowledge_13 : decode c_EK_acknowledge 13 = .ok (.iload_n 1, 1) := by decide +kernel
theorem d_EK_acknowledge_14 : decode c_EK_acknowledge 14 = .ok (.aaload, 1) := by decide +kernel
theorem d_EK_acknowledge_15 : decode c_EK_acknowledge 15 = .ok (.iload_n 2, 1) := by decide +kernel
theorem d_EK_acknowledge_16 : decode c_EK_acknowledge 16 = .ok (.invokevirtual 105, 3) := by decide +kernel
theorem d_EK_acknowledge_19 : decode c_EK_acknowledge 19 = .ok (.ireturn, 1) := by decide +kernel
abbrev c_EK_sync : ByteArray := prog_1_method_10_code
def y_EK_sync : MethodName := ⟨"EventKeeper", "sync", "()I"⟩
theorem d_EK_sync_0 : decode c_EK_sync 0 = .ok (.aload_n 0, 1) := by decide +kernel
theorem d_EK_sync_1 : decode c_EK_sync 1 = .ok (.getfield 10, 3) := by decide +kernel
theorem d_EK_sync_4 : decode c_EK_sync 4 = .ok (.aload_n 0, 1) := by decide +kernel
theorem d_EK_sync_5 : decode c_EK_sync 5 = .ok (.getfield 10, 3) := by decide +kernel
theorem d_EK_sync_8 : decode c_EK_sync 8 = .ok (.getfield 77, 3) := by decide +kernel
theorem d_EK_sync_11 : decode c_EK_sync 11 = .ok (.putfield 108, 3) := by decide +kernel
theorem d_EK_sync_14 : decode c_EK_sync 14 = .ok (.iconst 0, 1) := by decide +kernel
theorem d_EK_sync_15 : decode c_EK_sync 15 = .ok (.istore_n 1, 1) := by decide +kernel
theorem d_EK_sync_16 : decode c_EK_sync 16 = .ok (.iload_n 1, 1) := by decide +kernel
theorem d_EK_sync_17 : decode c_EK_sync 17 = .ok (.bipush 8, 2) := by decide +kernel
theorem d_EK_sync_19 : decode c_EK_sync 19 = .ok (.if_icmp .ge 18, 3) := by decide +kernel
theorem d_EK_sync_22 : decode c_EK_sync 22 = .ok (.aload_n 0, 1) := by decide +kernel
theorem d_EK_sync_23 : decode c_EK_sync 23 = .ok (.getfield 27, 3) := by decide +kernel
theorem d_EK_sync_26 : decode c_EK_sync 26 = .ok (.iload_n 1, 1) := by decide +kernel
theorem d_EK_sync_27 : decode c_EK_sync 27 = .ok (.aaload, 1) := by decide +kernel
theorem d_EK_sync_28 : decode c_EK_sync 28 = .ok (.invokevirtual 111, 3) := by decide +kernel
theorem d_EK_sync_31 : decode c_EK_sync 31 = .ok (.iinc 1 1, 3) := by decide +kernel
theorem d_EK_sync_34 : decode c_EK_sync 34 = .ok (.goto (-18), 3) := by decide +kernel
theorem d_EK_sync_37 : decode c_EK_sync 37 = .ok (.aload_n 0, 1) := by decide +kernel
theorem d_EK_sync_38 : decode c_EK_sync 38 = .ok (.getfield 10, 3) := by decide +kernel
theorem d_EK_sync_41 : decode c_EK_sync 41 = .ok (.getfield 77, 3) := by decide +kernel
theorem d_EK_sync_44 : decode c_EK_sync 44 = .ok (.ireturn, 1) := by decide +kernel
abbrev c_EK_crash : ByteArray := prog_1_method_11_code
def y_EK_crash : MethodName := ⟨"EventKeeper", "crash", "()I"⟩
theorem d_EK_crash_0 : decode c_EK_crash 0 = .ok (.aload_n 0, 1) := by decide +kernel
theorem d_EK_crash_1 : decode c_EK_crash 1 = .ok (.getfield 10, 3) := by decide +kernel
theorem d_EK_crash_4 : decode c_EK_crash 4 = .ok (.invokevirtual 114, 3) := by decide +kernel
theorem d_EK_crash_7 : decode c_EK_crash 7 = .ok (.iconst 0, 1) := by decide +kernel
theorem d_EK_crash_8 : decode c_EK_crash 8 = .ok (.istore_n 1, 1) := by decide +kernel
theorem d_EK_crash_9 : decode c_EK_crash 9 = .ok (.iload_n 1, 1) := by decide +kernel
theorem d_EK_crash_10 : decode c_EK_crash 10 = .ok (.bipush 8, 2) := by decide +kernel
theorem d_EK_crash_12 : decode c_EK_crash 12 = .ok (.if_icmp .ge 25, 3) := by decide +kernel
theorem d_EK_crash_15 : decode c_EK_crash 15 = .ok (.aload_n 0, 1) := by decide +kernel
theorem d_EK_crash_16 : decode c_EK_crash 16 = .ok (.getfield 18, 3) := by decide +kernel
theorem d_EK_crash_19 : decode c_EK_crash 19 = .ok (.iload_n 1, 1) := by decide +kernel
theorem d_EK_crash_20 : decode c_EK_crash 20 = .ok (.aaload, 1) := by decide +kernel
theorem d_EK_crash_21 : decode c_EK_crash 21 = .ok (.aload_n 0, 1) := by decide +kernel
theorem d_EK_crash_22 : decode c_EK_crash 22 = .ok (.getfield 10, 3) := by decide +kernel
theorem d_EK_crash_25 : decode c_EK_crash 25 = .ok (.getfield 77, 3) := by decide +kernel
theorem d_EK_crash_28 : decode c_EK_crash 28 = .ok (.invokevirtual 117, 3) := by decide +kernel
theorem d_EK_crash_31 : decode c_EK_crash 31 = .ok (.iinc 1 1, 3) := by decide +kernel
theorem d_EK_crash_34 : decode c_EK_crash 34 = .ok (.goto (-25), 3) := by decide +kernel
theorem d_EK_crash_37 : decode c_EK_crash 37 = .ok (.iconst 0, 1) := by decide +kernel
theorem d_EK_crash_38 : decode c_EK_crash 38 = .ok (.istore_n 1, 1) := by decide +kernel
theorem d_EK_crash_39 : decode c_EK_crash 39 = .ok (.iload_n 1, 1) := by decide +kernel
theorem d_EK_crash_40 : decode c_EK_crash 40 = .ok (.bipush 8, 2) := by decide +kernel
theorem d_EK_crash_42 : decode c_EK_crash 42 = .ok (.if_icmp .ge 25, 3) := by decide +kernel
theorem d_EK_crash_45 : decode c_EK_crash 45 = .ok (.aload_n 0, 1) := by decide +kernel
theorem d_EK_crash_46 : decode c_EK_crash 46 = .ok (.getfield 27, 3) := by decide +kernel
theorem d_EK_crash_49 : decode c_EK_crash 49 = .ok (.iload_n 1, 1) := by decide +kernel
theorem d_EK_crash_50 : decode c_EK_crash 50 = .ok (.aaload, 1) := by decide +kernel
theorem d_EK_crash_51 : decode c_EK_crash 51 = .ok (.aload_n 0, 1) := by decide +kernel
theorem d_EK_crash_52 : decode c_EK_crash 52 = .ok (.getfield 10, 3) := by decide +kernel
theorem d_EK_crash_55 : decode c_EK_crash 55 = .ok (.getfield 77, 3) := by decide +kernel
theorem d_EK_crash_58 : decode c_EK_crash 58 = .ok (.invokevirtual 120, 3) := by decide +kernel
theorem d_EK_crash_61 : decode c_EK_crash 61 = .ok (.iinc 1 1, 3) := by decide +kernel
theorem d_EK_crash_64 : decode c_EK_crash 64 = .ok (.goto (-25), 3) := by decide +kernel
theorem d_EK_crash_67 : decode c_EK_crash 67 = .ok (.aload_n 0, 1) := by decide +kernel
theorem d_EK_crash_68 : decode c_EK_crash 68 = .ok (.getfield 10, 3) := by decide +kernel
theorem d_EK_crash_71 : decode c_EK_crash 71 = .ok (.getfield 77, 3) := by decide +kernel
theorem d_EK_crash_74 : decode c_EK_crash 74 = .ok (.ireturn, 1) := by decide +kernel
abbrev c_EK_event : ByteArray := prog_1_method_12_code
def y_EK_event : MethodName := ⟨"EventKeeper", "event", "(II)I"⟩
theorem d_EK_event_0 : decode c_EK_event 0 = .ok (.iload_n 2, 1) := by decide +kernel
theorem d_EK_event_1 : decode c_EK_event 1 = .ok (.ifCond .lt 12, 3) := by decide +kernel
theorem d_EK_event_4 : decode c_EK_event 4 = .ok (.iload_n 2, 1) := by decide +kernel
theorem d_EK_event_5 : decode c_EK_event 5 = .ok (.iconst 4, 1) := by decide +kernel
theorem d_EK_event_6 : decode c_EK_event 6 = .ok (.if_icmp .gt 7, 3) := by decide +kernel
theorem d_EK_event_9 : decode c_EK_event 9 = .ok (.iconst 1, 1) := by decide +kernel
theorem d_EK_event_10 : decode c_EK_event 10 = .ok (.goto 4, 3) := by decide +kernel
theorem d_EK_event_13 : decode c_EK_event 13 = .ok (.iconst 0, 1) := by decide +kernel
theorem d_EK_event_14 : decode c_EK_event 14 = .ok (.invokestatic 35, 3) := by decide +kernel
theorem d_EK_event_17 : decode c_EK_event 17 = .ok (.aload_n 0, 1) := by decide +kernel
theorem d_EK_event_18 : decode c_EK_event 18 = .ok (.iload_n 1, 1) := by decide +kernel
theorem d_EK_event_19 : decode c_EK_event 19 = .ok (.invokevirtual 102, 3) := by decide +kernel
theorem d_EK_event_22 : decode c_EK_event 22 = .ok (.iload_n 2, 1) := by decide +kernel
theorem d_EK_event_23 : decode c_EK_event 23 = .ok (.tableswitch 69 0 3 #[29, 39, 49, 59], 29) := by decide +kernel
theorem d_EK_event_52 : decode c_EK_event 52 = .ok (.aload_n 0, 1) := by decide +kernel
theorem d_EK_event_53 : decode c_EK_event 53 = .ok (.getfield 10, 3) := by decide +kernel
theorem d_EK_event_56 : decode c_EK_event 56 = .ok (.getfield 121, 3) := by decide +kernel
theorem d_EK_event_59 : decode c_EK_event 59 = .ok (.iload_n 1, 1) := by decide +kernel
theorem d_EK_event_60 : decode c_EK_event 60 = .ok (.iaload, 1) := by decide +kernel
theorem d_EK_event_61 : decode c_EK_event 61 = .ok (.ireturn, 1) := by decide +kernel
theorem d_EK_event_62 : decode c_EK_event 62 = .ok (.aload_n 0, 1) := by decide +kernel
theorem d_EK_event_63 : decode c_EK_event 63 = .ok (.getfield 10, 3) := by decide +kernel
theorem d_EK_event_66 : decode c_EK_event 66 = .ok (.getfield 124, 3) := by decide +kernel
theorem d_EK_event_69 : decode c_EK_event 69 = .ok (.iload_n 1, 1) := by decide +kernel
theorem d_EK_event_70 : decode c_EK_event 70 = .ok (.iaload, 1) := by decide +kernel
theorem d_EK_event_71 : decode c_EK_event 71 = .ok (.ireturn, 1) := by decide +kernel
theorem d_EK_event_72 : decode c_EK_event 72 = .ok (.aload_n 0, 1) := by decide +kernel
theorem d_EK_event_73 : decode c_EK_event 73 = .ok (.getfield 10, 3) := by decide +kernel
theorem d_EK_event_76 : decode c_EK_event 76 = .ok (.getfield 127, 3) := by decide +kernel
theorem d_EK_event_79 : decode c_EK_event 79 = .ok (.iload_n 1, 1) := by decide +kernel
theorem d_EK_event_80 : decode c_EK_event 80 = .ok (.iaload, 1) := by decide +kernel
theorem d_EK_event_81 : decode c_EK_event 81 = .ok (.ireturn, 1) := by decide +kernel
theorem d_EK_event_82 : decode c_EK_event 82 = .ok (.aload_n 0, 1) := by decide +kernel
theorem d_EK_event_83 : decode c_EK_event 83 = .ok (.getfield 10, 3) := by decide +kernel
theorem d_EK_event_86 : decode c_EK_event 86 = .ok (.getfield 130, 3) := by decide +kernel
theorem d_EK_event_89 : decode c_EK_event 89 = .ok (.iload_n 1, 1) := by decide +kernel
theorem d_EK_event_90 : decode c_EK_event 90 = .ok (.iaload, 1) := by decide +kernel
theorem d_EK_event_91 : decode c_EK_event 91 = .ok (.ireturn, 1) := by decide +kernel
theorem d_EK_event_92 : decode c_EK_event 92 = .ok (.aload_n 0, 1) := by decide +kernel
theorem d_EK_event_93 : decode c_EK_event 93 = .ok (.getfield 10, 3) := by decide +kernel
theorem d_EK_event_96 : decode c_EK_event 96 = .ok (.getfield 133, 3) := by decide +kernel
theorem d_EK_event_99 : decode c_EK_event 99 = .ok (.iload_n 1, 1) := by decide +kernel
theorem d_EK_event_100 : decode c_EK_event 100 = .ok (.iaload, 1) := by decide +kernel
theorem d_EK_event_101 : decode c_EK_event 101 = .ok (.ireturn, 1) := by decide +kernel
abbrev c_EK_value : ByteArray := prog_1_method_13_code
def y_EK_value : MethodName := ⟨"EventKeeper", "value", "(I)J"⟩
theorem d_EK_value_0 : decode c_EK_value 0 = .ok (.aload_n 0, 1) := by decide +kernel
theorem d_EK_value_1 : decode c_EK_value 1 = .ok (.iload_n 1, 1) := by decide +kernel
theorem d_EK_value_2 : decode c_EK_value 2 = .ok (.invokevirtual 102, 3) := by decide +kernel
theorem d_EK_value_5 : decode c_EK_value 5 = .ok (.aload_n 0, 1) := by decide +kernel
theorem d_EK_value_6 : decode c_EK_value 6 = .ok (.getfield 10, 3) := by decide +kernel
theorem d_EK_value_9 : decode c_EK_value 9 = .ok (.getfield 136, 3) := by decide +kernel
theorem d_EK_value_12 : decode c_EK_value 12 = .ok (.iload_n 1, 1) := by decide +kernel
theorem d_EK_value_13 : decode c_EK_value 13 = .ok (.laload, 1) := by decide +kernel
theorem d_EK_value_14 : decode c_EK_value 14 = .ok (.lreturn, 1) := by decide +kernel
abbrev c_EK_find : ByteArray := prog_1_method_14_code
def y_EK_find : MethodName := ⟨"EventKeeper", "find", "(II)I"⟩
theorem d_EK_find_0 : decode c_EK_find 0 = .ok (.iload_n 1, 1) := by decide +kernel
theorem d_EK_find_1 : decode c_EK_find 1 = .ok (.invokestatic 32, 3) := by decide +kernel
theorem d_EK_find_4 : decode c_EK_find 4 = .ok (.aload_n 0, 1) := by decide +kernel
theorem d_EK_find_5 : decode c_EK_find 5 = .ok (.getfield 10, 3) := by decide +kernel
theorem d_EK_find_8 : decode c_EK_find 8 = .ok (.iload_n 1, 1) := by decide +kernel
theorem d_EK_find_9 : decode c_EK_find 9 = .ok (.iload_n 2, 1) := by decide +kernel
theorem d_EK_find_10 : decode c_EK_find 10 = .ok (.invokevirtual 139, 3) := by decide +kernel
theorem d_EK_find_13 : decode c_EK_find 13 = .ok (.istore_n 3, 1) := by decide +kernel
theorem d_EK_find_14 : decode c_EK_find 14 = .ok (.iload_n 3, 1) := by decide +kernel
theorem d_EK_find_15 : decode c_EK_find 15 = .ok (.iconst (-1), 1) := by decide +kernel
theorem d_EK_find_16 : decode c_EK_find 16 = .ok (.if_icmp .ne 13, 3) := by decide +kernel
theorem d_EK_find_19 : decode c_EK_find 19 = .ok (.new 57, 3) := by decide +kernel
theorem d_EK_find_22 : decode c_EK_find 22 = .ok (.dup, 1) := by decide +kernel
theorem d_EK_find_23 : decode c_EK_find 23 = .ok (.ldc 143, 2) := by decide +kernel
theorem d_EK_find_25 : decode c_EK_find 25 = .ok (.invokespecial 61, 3) := by decide +kernel
theorem d_EK_find_28 : decode c_EK_find 28 = .ok (.athrow, 1) := by decide +kernel
theorem d_EK_find_29 : decode c_EK_find 29 = .ok (.iload_n 3, 1) := by decide +kernel
theorem d_EK_find_30 : decode c_EK_find 30 = .ok (.ireturn, 1) := by decide +kernel
abbrev c_EK_count : ByteArray := prog_1_method_15_code
def y_EK_count : MethodName := ⟨"EventKeeper", "count", "(II)I"⟩
theorem d_EK_count_0 : decode c_EK_count 0 = .ok (.iload_n 1, 1) := by decide +kernel
theorem d_EK_count_1 : decode c_EK_count 1 = .ok (.tableswitch 111 0 5 #[39, 47, 55, 69, 83, 97], 39) := by decide +kernel
theorem d_EK_count_40 : decode c_EK_count 40 = .ok (.aload_n 0, 1) := by decide +kernel
theorem d_EK_count_41 : decode c_EK_count 41 = .ok (.getfield 10, 3) := by decide +kernel
theorem d_EK_count_44 : decode c_EK_count 44 = .ok (.getfield 77, 3) := by decide +kernel
theorem d_EK_count_47 : decode c_EK_count 47 = .ok (.ireturn, 1) := by decide +kernel
theorem d_EK_count_48 : decode c_EK_count 48 = .ok (.aload_n 0, 1) := by decide +kernel
theorem d_EK_count_49 : decode c_EK_count 49 = .ok (.getfield 10, 3) := by decide +kernel
theorem d_EK_count_52 : decode c_EK_count 52 = .ok (.getfield 108, 3) := by decide +kernel
theorem d_EK_count_55 : decode c_EK_count 55 = .ok (.ireturn, 1) := by decide +kernel
theorem d_EK_count_56 : decode c_EK_count 56 = .ok (.iload_n 2, 1) := by decide +kernel
theorem d_EK_count_57 : decode c_EK_count 57 = .ok (.invokestatic 32, 3) := by decide +kernel
theorem d_EK_count_60 : decode c_EK_count 60 = .ok (.aload_n 0, 1) := by decide +kernel
theorem d_EK_count_61 : decode c_EK_count 61 = .ok (.getfield 10, 3) := by decide +kernel
theorem d_EK_count_64 : decode c_EK_count 64 = .ok (.getfield 42, 3) := by decide +kernel
theorem d_EK_count_67 : decode c_EK_count 67 = .ok (.iload_n 2, 1) := by decide +kernel
theorem d_EK_count_68 : decode c_EK_count 68 = .ok (.iaload, 1) := by decide +kernel
theorem d_EK_count_69 : decode c_EK_count 69 = .ok (.ireturn, 1) := by decide +kernel
theorem d_EK_count_70 : decode c_EK_count 70 = .ok (.iload_n 2, 1) := by decide +kernel
theorem d_EK_count_71 : decode c_EK_count 71 = .ok (.invokestatic 66, 3) := by decide +kernel
theorem d_EK_count_74 : decode c_EK_count 74 = .ok (.aload_n 0, 1) := by decide +kernel
theorem d_EK_count_75 : decode c_EK_count 75 = .ok (.getfield 18, 3) := by decide +kernel
theorem d_EK_count_78 : decode c_EK_count 78 = .ok (.iload_n 2, 1) := by decide +kernel
theorem d_EK_count_79 : decode c_EK_count 79 = .ok (.aaload, 1) := by decide +kernel
theorem d_EK_count_80 : decode c_EK_count 80 = .ok (.getfield 145, 3) := by decide +kernel
theorem d_EK_count_83 : decode c_EK_count 83 = .ok (.ireturn, 1) := by decide +kernel
theorem d_EK_count_84 : decode c_EK_count 84 = .ok (.iload_n 2, 1) := by decide +kernel
theorem d_EK_count_85 : decode c_EK_count 85 = .ok (.invokestatic 91, 3) := by decide +kernel
theorem d_EK_count_88 : decode c_EK_count 88 = .ok (.aload_n 0, 1) := by decide +kernel
theorem d_EK_count_89 : decode c_EK_count 89 = .ok (.getfield 27, 3) := by decide +kernel
theorem d_EK_count_92 : decode c_EK_count 92 = .ok (.iload_n 2, 1) := by decide +kernel
theorem d_EK_count_93 : decode c_EK_count 93 = .ok (.aaload, 1) := by decide +kernel
theorem d_EK_count_94 : decode c_EK_count 94 = .ok (.getfield 148, 3) := by decide +kernel
theorem d_EK_count_97 : decode c_EK_count 97 = .ok (.ireturn, 1) := by decide +kernel
theorem d_EK_count_98 : decode c_EK_count 98 = .ok (.iload_n 2, 1) := by decide +kernel
theorem d_EK_count_99 : decode c_EK_count 99 = .ok (.invokestatic 66, 3) := by decide +kernel
theorem d_EK_count_102 : decode c_EK_count 102 = .ok (.aload_n 0, 1) := by decide +kernel
theorem d_EK_count_103 : decode c_EK_count 103 = .ok (.getfield 10, 3) := by decide +kernel
theorem d_EK_count_106 : decode c_EK_count 106 = .ok (.getfield 149, 3) := by decide +kernel
theorem d_EK_count_109 : decode c_EK_count 109 = .ok (.iload_n 2, 1) := by decide +kernel
theorem d_EK_count_110 : decode c_EK_count 110 = .ok (.iaload, 1) := by decide +kernel
theorem d_EK_count_111 : decode c_EK_count 111 = .ok (.ireturn, 1) := by decide +kernel
theorem d_EK_count_112 : decode c_EK_count 112 = .ok (.new 152, 3) := by decide +kernel
theorem d_EK_count_115 : decode c_EK_count 115 = .ok (.dup, 1) := by decide +kernel
theorem d_EK_count_116 : decode c_EK_count 116 = .ok (.ldc 154, 2) := by decide +kernel
theorem d_EK_count_118 : decode c_EK_count 118 = .ok (.invokespecial 156, 3) := by decide +kernel
theorem d_EK_count_121 : decode c_EK_count 121 = .ok (.athrow, 1) := by decide +kernel
abbrev c_EK_checkArgument : ByteArray := prog_1_method_16_code
def y_EK_checkArgument : MethodName := ⟨"EventKeeper", "checkArgument", "(Z)V"⟩
theorem d_EK_checkArgument_0 : decode c_EK_checkArgument 0 = .ok (.iload_n 0, 1) := by decide +kernel
theorem d_EK_checkArgument_1 : decode c_EK_checkArgument 1 = .ok (.ifCond .ne 13, 3) := by decide +kernel
theorem d_EK_checkArgument_4 : decode c_EK_checkArgument 4 = .ok (.new 152, 3) := by decide +kernel
theorem d_EK_checkArgument_7 : decode c_EK_checkArgument 7 = .ok (.dup, 1) := by decide +kernel
theorem d_EK_checkArgument_8 : decode c_EK_checkArgument 8 = .ok (.ldc 157, 2) := by decide +kernel
theorem d_EK_checkArgument_10 : decode c_EK_checkArgument 10 = .ok (.invokespecial 156, 3) := by decide +kernel
theorem d_EK_checkArgument_13 : decode c_EK_checkArgument 13 = .ok (.athrow, 1) := by decide +kernel
theorem d_EK_checkArgument_14 : decode c_EK_checkArgument 14 = .ok (.return_, 1) := by decide +kernel
abbrev c_EK_checkStream : ByteArray := prog_1_method_17_code
def y_EK_checkStream : MethodName := ⟨"EventKeeper", "checkStream", "(I)V"⟩
theorem d_EK_checkStream_0 : decode c_EK_checkStream 0 = .ok (.iload_n 0, 1) := by decide +kernel
theorem d_EK_checkStream_1 : decode c_EK_checkStream 1 = .ok (.ifCond .lt 13, 3) := by decide +kernel
theorem d_EK_checkStream_4 : decode c_EK_checkStream 4 = .ok (.iload_n 0, 1) := by decide +kernel
theorem d_EK_checkStream_5 : decode c_EK_checkStream 5 = .ok (.bipush 16, 2) := by decide +kernel
theorem d_EK_checkStream_7 : decode c_EK_checkStream 7 = .ok (.if_icmp .ge 7, 3) := by decide +kernel
theorem d_EK_checkStream_10 : decode c_EK_checkStream 10 = .ok (.iconst 1, 1) := by decide +kernel
theorem d_EK_checkStream_11 : decode c_EK_checkStream 11 = .ok (.goto 4, 3) := by decide +kernel
theorem d_EK_checkStream_14 : decode c_EK_checkStream 14 = .ok (.iconst 0, 1) := by decide +kernel
theorem d_EK_checkStream_15 : decode c_EK_checkStream 15 = .ok (.invokestatic 35, 3) := by decide +kernel
theorem d_EK_checkStream_18 : decode c_EK_checkStream 18 = .ok (.return_, 1) := by decide +kernel
abbrev c_EK_checkKind : ByteArray := prog_1_method_18_code
def y_EK_checkKind : MethodName := ⟨"EventKeeper", "checkKind", "(I)V"⟩
theorem d_EK_checkKind_0 : decode c_EK_checkKind 0 = .ok (.iload_n 0, 1) := by decide +kernel
theorem d_EK_checkKind_1 : decode c_EK_checkKind 1 = .ok (.ifCond .lt 13, 3) := by decide +kernel
theorem d_EK_checkKind_4 : decode c_EK_checkKind 4 = .ok (.iload_n 0, 1) := by decide +kernel
theorem d_EK_checkKind_5 : decode c_EK_checkKind 5 = .ok (.bipush 8, 2) := by decide +kernel
theorem d_EK_checkKind_7 : decode c_EK_checkKind 7 = .ok (.if_icmp .ge 7, 3) := by decide +kernel
theorem d_EK_checkKind_10 : decode c_EK_checkKind 10 = .ok (.iconst 1, 1) := by decide +kernel
theorem d_EK_checkKind_11 : decode c_EK_checkKind 11 = .ok (.goto 4, 3) := by decide +kernel
theorem d_EK_checkKind_14 : decode c_EK_checkKind 14 = .ok (.iconst 0, 1) := by decide +kernel
theorem d_EK_checkKind_15 : decode c_EK_checkKind 15 = .ok (.invokestatic 35, 3) := by decide +kernel
theorem d_EK_checkKind_18 : decode c_EK_checkKind 18 = .ok (.return_, 1) := by decide +kernel
abbrev c_EK_checkProjection : ByteArray := prog_1_method_19_code
def y_EK_checkProjection : MethodName := ⟨"EventKeeper", "checkProjection", "(I)V"⟩
theorem d_EK_checkProjection_0 : decode c_EK_checkProjection 0 = .ok (.iload_n 0, 1) := by decide +kernel
theorem d_EK_checkProjection_1 : decode c_EK_checkProjection 1 = .ok (.ifCond .lt 13, 3) := by decide +kernel
theorem d_EK_checkProjection_4 : decode c_EK_checkProjection 4 = .ok (.iload_n 0, 1) := by decide +kernel
theorem d_EK_checkProjection_5 : decode c_EK_checkProjection 5 = .ok (.bipush 8, 2) := by decide +kernel
theorem d_EK_checkProjection_7 : decode c_EK_checkProjection 7 = .ok (.if_icmp .ge 7, 3) := by decide +kernel
theorem d_EK_checkProjection_10 : decode c_EK_checkProjection 10 = .ok (.iconst 1, 1) := by decide +kernel
theorem d_EK_checkProjection_11 : decode c_EK_checkProjection 11 = .ok (.goto 4, 3) := by decide +kernel
theorem d_EK_checkProjection_14 : decode c_EK_checkProjection 14 = .ok (.iconst 0, 1) := by decide +kernel
theorem d_EK_checkProjection_15 : decode c_EK_checkProjection 15 = .ok (.invokestatic 35, 3) := by decide +kernel
theorem d_EK_checkProjection_18 : decode c_EK_checkProjection 18 = .ok (.return_, 1) := by decide +kernel
abbrev c_EK_checkSubscription : ByteArray := prog_1_method_20_code
def y_EK_checkSubscription : MethodName := ⟨"EventKeeper", "checkSubscription", "(I)V"⟩
theorem d_EK_checkSubscription_0 : decode c_EK_checkSubscription 0 = .ok (.iload_n 0, 1) := by decide +kernel
theorem d_EK_checkSubscription_1 : decode c_EK_checkSubscription 1 = .ok (.ifCond .lt 13, 3) := by decide +kernel
theorem d_EK_checkSubscription_4 : decode c_EK_checkSubscription 4 = .ok (.iload_n 0, 1) := by decide +kernel
theorem d_EK_checkSubscription_5 : decode c_EK_checkSubscription 5 = .ok (.bipush 8, 2) := by decide +kernel
theorem d_EK_checkSubscription_7 : decode c_EK_checkSubscription 7 = .ok (.if_icmp .ge 7, 3) := by decide +kernel
theorem d_EK_checkSubscription_10 : decode c_EK_checkSubscription 10 = .ok (.iconst 1, 1) := by decide +kernel
theorem d_EK_checkSubscription_11 : decode c_EK_checkSubscription 11 = .ok (.goto 4, 3) := by decide +kernel
theorem d_EK_checkSubscription_14 : decode c_EK_checkSubscription 14 = .ok (.iconst 0, 1) := by decide +kernel
theorem d_EK_checkSubscription_15 : decode c_EK_checkSubscription 15 = .ok (.invokestatic 35, 3) := by decide +kernel
theorem d_EK_checkSubscription_18 : decode c_EK_checkSubscription 18 = .ok (.return_, 1) := by decide +kernel
abbrev c_EK_checkPlace : ByteArray := prog_1_method_21_code
def y_EK_checkPlace : MethodName := ⟨"EventKeeper", "checkPlace", "(I)V"⟩
theorem d_EK_checkPlace_0 : decode c_EK_checkPlace 0 = .ok (.iload_n 1, 1) := by decide +kernel
theorem d_EK_checkPlace_1 : decode c_EK_checkPlace 1 = .ok (.ifCond .lt 14, 3) := by decide +kernel
theorem d_EK_checkPlace_4 : decode c_EK_checkPlace 4 = .ok (.iload_n 1, 1) := by decide +kernel
theorem d_EK_checkPlace_5 : decode c_EK_checkPlace 5 = .ok (.aload_n 0, 1) := by decide +kernel
theorem d_EK_checkPlace_6 : decode c_EK_checkPlace 6 = .ok (.getfield 10, 3) := by decide +kernel
theorem d_EK_checkPlace_9 : decode c_EK_checkPlace 9 = .ok (.getfield 77, 3) := by decide +kernel
theorem d_EK_checkPlace_12 : decode c_EK_checkPlace 12 = .ok (.if_icmp .lt 13, 3) := by decide +kernel
theorem d_EK_checkPlace_15 : decode c_EK_checkPlace 15 = .ok (.new 57, 3) := by decide +kernel
theorem d_EK_checkPlace_18 : decode c_EK_checkPlace 18 = .ok (.dup, 1) := by decide +kernel
theorem d_EK_checkPlace_19 : decode c_EK_checkPlace 19 = .ok (.ldc 159, 2) := by decide +kernel
theorem d_EK_checkPlace_21 : decode c_EK_checkPlace 21 = .ok (.invokespecial 61, 3) := by decide +kernel
theorem d_EK_checkPlace_24 : decode c_EK_checkPlace 24 = .ok (.athrow, 1) := by decide +kernel
theorem d_EK_checkPlace_25 : decode c_EK_checkPlace 25 = .ok (.return_, 1) := by decide +kernel
end
