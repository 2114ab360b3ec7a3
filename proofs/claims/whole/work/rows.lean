section
-- ===== PART A: goes FIRST, ahead of the names: the tables' words, and 'selects' of the private methods out of them =====
/-- a private method of a class that the tables say can be made, by its rows of tables_1 -/
def lw_okq (q : MethodName × Nat) : Prop := (q.1.cls ≠ "java/lang/invoke/MethodHandle" ∧ q.1.cls ≠ "java/lang/invoke/VarHandle") ∧ Cond.instantiable q.1.cls q.2 ∈ tables_1 ∧ Cond.privateMethod q.1 ∈ tables_1 ∧ Cond.instanceMethod q.1 ∈ tables_1
theorem lw_p0 : lw_okq (⟨"EventKeeper$Log", "forgetCause", "(I)V"⟩, 11) := ⟨⟨by decide +kernel, by decide +kernel⟩, List.mem_of_getElem? (i := 23) (by decide +kernel), List.mem_of_getElem? (i := 163) (by decide +kernel), List.mem_of_getElem? (i := 164) (by decide +kernel)⟩
theorem lw_p1 : lw_okq (⟨"EventKeeper$Projection", "startOver", "()V"⟩, 8) := ⟨⟨by decide +kernel, by decide +kernel⟩, List.mem_of_getElem? (i := 83) (by decide +kernel), List.mem_of_getElem? (i := 171) (by decide +kernel), List.mem_of_getElem? (i := 172) (by decide +kernel)⟩
theorem lw_p2 : lw_okq (⟨"java/lang/Throwable", "fillInStackTrace", "(I)Ljava/lang/Throwable;"⟩, 6) := ⟨⟨by decide +kernel, by decide +kernel⟩, List.mem_of_getElem? (i := 239) (by decide +kernel), List.mem_of_getElem? (i := 237) (by decide +kernel), List.mem_of_getElem? (i := 238) (by decide +kernel)⟩
theorem lw_p3 : lw_okq (⟨"EventKeeper$Projection", "targetCell", "(LEventKeeper$Log;)I"⟩, 8) := ⟨⟨by decide +kernel, by decide +kernel⟩, List.mem_of_getElem? (i := 83) (by decide +kernel), List.mem_of_getElem? (i := 337) (by decide +kernel), List.mem_of_getElem? (i := 338) (by decide +kernel)⟩
theorem lw_p4 : lw_okq (⟨"EventKeeper$Projection", "countAndEmit", "(LEventKeeper$Log;I)Z"⟩, 8) := ⟨⟨by decide +kernel, by decide +kernel⟩, List.mem_of_getElem? (i := 83) (by decide +kernel), List.mem_of_getElem? (i := 342) (by decide +kernel), List.mem_of_getElem? (i := 343) (by decide +kernel)⟩
theorem lw_p5 : lw_okq (⟨"EventKeeper$Subscription", "letsThrough", "(II)Z"⟩, 4) := ⟨⟨by decide +kernel, by decide +kernel⟩, List.mem_of_getElem? (i := 117) (by decide +kernel), List.mem_of_getElem? (i := 410) (by decide +kernel), List.mem_of_getElem? (i := 411) (by decide +kernel)⟩
theorem lw_p6 : lw_okq (⟨"EventKeeper", "checkPlace", "(I)V"⟩, 3) := ⟨⟨by decide +kernel, by decide +kernel⟩, List.mem_of_getElem? (i := 15) (by decide +kernel), List.mem_of_getElem? (i := 421) (by decide +kernel), List.mem_of_getElem? (i := 422) (by decide +kernel)⟩
theorem lw_p7 : lw_okq (⟨"EventKeeperModel", "fails", "(ZI)Z"⟩, 19) := ⟨⟨by decide +kernel, by decide +kernel⟩, List.mem_of_getElem? (i := 467) (by decide +kernel), List.mem_of_getElem? (i := 542) (by decide +kernel), List.mem_of_getElem? (i := 543) (by decide +kernel)⟩
theorem lw_p8 : lw_okq (⟨"EventKeeperModel", "inStream", "(II)I"⟩, 19) := ⟨⟨by decide +kernel, by decide +kernel⟩, List.mem_of_getElem? (i := 467) (by decide +kernel), List.mem_of_getElem? (i := 546) (by decide +kernel), List.mem_of_getElem? (i := 547) (by decide +kernel)⟩
theorem lw_p9 : lw_okq (⟨"EventKeeperModel", "put", "(IIJII)I"⟩, 19) := ⟨⟨by decide +kernel, by decide +kernel⟩, List.mem_of_getElem? (i := 467) (by decide +kernel), List.mem_of_getElem? (i := 550) (by decide +kernel), List.mem_of_getElem? (i := 551) (by decide +kernel)⟩
theorem lw_p10 : lw_okq (⟨"EventKeeperModel", "begin", "(I)V"⟩, 19) := ⟨⟨by decide +kernel, by decide +kernel⟩, List.mem_of_getElem? (i := 467) (by decide +kernel), List.mem_of_getElem? (i := 561) (by decide +kernel), List.mem_of_getElem? (i := 562) (by decide +kernel)⟩
theorem lw_p11 : lw_okq (⟨"EventKeeperModel", "takes", "(II)Z"⟩, 19) := ⟨⟨by decide +kernel, by decide +kernel⟩, List.mem_of_getElem? (i := 467) (by decide +kernel), List.mem_of_getElem? (i := 569) (by decide +kernel), List.mem_of_getElem? (i := 570) (by decide +kernel)⟩
theorem lw_p12 : lw_okq (⟨"EventKeeperModel", "isNone", "(I)Z"⟩, 19) := ⟨⟨by decide +kernel, by decide +kernel⟩, List.mem_of_getElem? (i := 467) (by decide +kernel), List.mem_of_getElem? (i := 609) (by decide +kernel), List.mem_of_getElem? (i := 610) (by decide +kernel)⟩
def lw_privs_1 : List (MethodName × Nat) := [(⟨"EventKeeper$Log", "forgetCause", "(I)V"⟩, 11), (⟨"EventKeeper$Projection", "startOver", "()V"⟩, 8), (⟨"java/lang/Throwable", "fillInStackTrace", "(I)Ljava/lang/Throwable;"⟩, 6), (⟨"EventKeeper$Projection", "targetCell", "(LEventKeeper$Log;)I"⟩, 8), (⟨"EventKeeper$Projection", "countAndEmit", "(LEventKeeper$Log;I)Z"⟩, 8), (⟨"EventKeeper$Subscription", "letsThrough", "(II)Z"⟩, 4), (⟨"EventKeeper", "checkPlace", "(I)V"⟩, 3), (⟨"EventKeeperModel", "fails", "(ZI)Z"⟩, 19), (⟨"EventKeeperModel", "inStream", "(II)I"⟩, 19), (⟨"EventKeeperModel", "put", "(IIJII)I"⟩, 19), (⟨"EventKeeperModel", "begin", "(I)V"⟩, 19), (⟨"EventKeeperModel", "takes", "(II)Z"⟩, 19), (⟨"EventKeeperModel", "isNone", "(I)Z"⟩, 19)]
theorem lw_r1 : ∀ q ∈ lw_privs_1, lw_okq q := List.forall_mem_cons.mpr ⟨lw_p0, List.forall_mem_cons.mpr ⟨lw_p1, List.forall_mem_cons.mpr ⟨lw_p2, List.forall_mem_cons.mpr ⟨lw_p3, List.forall_mem_cons.mpr ⟨lw_p4, List.forall_mem_cons.mpr ⟨lw_p5, List.forall_mem_cons.mpr ⟨lw_p6, List.forall_mem_cons.mpr ⟨lw_p7, List.forall_mem_cons.mpr ⟨lw_p8, List.forall_mem_cons.mpr ⟨lw_p9, List.forall_mem_cons.mpr ⟨lw_p10, List.forall_mem_cons.mpr ⟨lw_p11, List.forall_mem_cons.mpr ⟨lw_p12, fun _ h => absurd h List.not_mem_nil⟩⟩⟩⟩⟩⟩⟩⟩⟩⟩⟩⟩⟩
def lw_privs : List (MethodName × Nat) := lw_privs_1
def lw_tbl : List Cond := k2_sels lw_privs ++ tables_1
theorem lw_privs_ok : ∀ q ∈ lw_privs, lw_okq q := lw_r1

/-! words, by their places in the tables -/
def kx_tb : List Cond := lw_tbl.filter goodWord
theorem kx_tb_good : kx_tb.all goodWord = true := List.all_eq_true.mpr (fun _ hw => (List.mem_filter.mp hw).2)
theorem kx_t {w : Cond} (i : Nat) (h : tables_1[i]? = some w) (g : goodWord w = true) : w ∈ kx_tb := List.mem_filter.mpr ⟨List.mem_append_right _ (List.mem_of_getElem? h), g⟩
theorem kx_ts {w : Cond} (i : Nat) (h : (k2_sels lw_privs)[i]? = some w) (g : goodWord w = true) : w ∈ kx_tb := List.mem_filter.mpr ⟨List.mem_append_left _ (List.mem_of_getElem? h), g⟩
def T_EK : u_T := fun k => match k with
  | 0 => ("EventKeeper", "log", "LEventKeeper$Log;", true)
  | 1 => ("EventKeeper", "projections", "[LEventKeeper$Projection;", true)
  | _ => ("EventKeeper", "subscriptions", "[LEventKeeper$Subscription;", true)
def ty_EK : Nat → FieldType := fun k => match k with
  | 0 => .object "EventKeeper$Log"
  | 1 => .array (.object "EventKeeper$Projection")
  | _ => .array (.object "EventKeeper$Subscription")
def T_L : u_T := fun k => match k with
  | 0 => ("EventKeeper$Log", "streams", "[I", true)
  | 1 => ("EventKeeper$Log", "versions", "[I", true)
  | 2 => ("EventKeeper$Log", "kinds", "[I", true)
  | 3 => ("EventKeeper$Log", "values", "[J", true)
  | 4 => ("EventKeeper$Log", "causeProjections", "[I", true)
  | 5 => ("EventKeeper$Log", "causePlaces", "[I", true)
  | 6 => ("EventKeeper$Log", "emitters", "[I", true)
  | 7 => ("EventKeeper$Log", "streamSizes", "[I", true)
  | 8 => ("EventKeeper$Log", "emittedSizes", "[I", true)
  | 9 => ("EventKeeper$Log", "size", "I", false)
  | _ => ("EventKeeper$Log", "durableSize", "I", false)
def ty_L : Nat → FieldType := fun k => match k with
  | 0 => .array .int
  | 1 => .array .int
  | 2 => .array .int
  | 3 => .array .long
  | 4 => .array .int
  | 5 => .array .int
  | 6 => .array .int
  | 7 => .array .int
  | 8 => .array .int
  | 9 => .int
  | _ => .int
def T_P : u_T := fun k => match k with
  | 0 => ("EventKeeper$Projection", "number", "I", true)
  | 1 => ("EventKeeper$Projection", "actions", "[I", true)
  | 2 => ("EventKeeper$Projection", "targets", "[I", true)
  | 3 => ("EventKeeper$Projection", "cells", "[J", true)
  | 4 => ("EventKeeper$Projection", "position", "I", false)
  | 5 => ("EventKeeper$Projection", "savedCells", "[J", true)
  | 6 => ("EventKeeper$Projection", "savedPosition", "I", false)
  | _ => ("EventKeeper$Projection", "savedLogSize", "I", false)
def ty_P : Nat → FieldType := fun k => match k with
  | 0 => .int
  | 1 => .array .int
  | 2 => .array .int
  | 3 => .array .long
  | 4 => .int
  | 5 => .array .long
  | 6 => .int
  | _ => .int
def T_S : u_T := fun k => match k with
  | 0 => ("EventKeeper$Subscription", "onlyStream", "I", false)
  | 1 => ("EventKeeper$Subscription", "kindBits", "I", false)
  | 2 => ("EventKeeper$Subscription", "position", "I", false)
  | _ => ("EventKeeper$Subscription", "safePosition", "I", false)
def ty_S : Nat → FieldType := fun k => match k with
  | 0 => .int
  | 1 => .int
  | 2 => .int
  | _ => .int
def T_M : u_T := fun k => match k with
  | 0 => ("EventKeeperModel", "err", "I", false)
  | 1 => ("EventKeeperModel", "events", "I", false)
  | 2 => ("EventKeeperModel", "durable", "I", false)
  | 3 => ("EventKeeperModel", "stream", "[I", true)
  | 4 => ("EventKeeperModel", "kind", "[I", true)
  | 5 => ("EventKeeperModel", "causeOf", "[I", true)
  | 6 => ("EventKeeperModel", "causeAt", "[I", true)
  | 7 => ("EventKeeperModel", "value", "[J", true)
  | 8 => ("EventKeeperModel", "cell", "[J", true)
  | 9 => ("EventKeeperModel", "saved", "[J", true)
  | 10 => ("EventKeeperModel", "does", "[I", true)
  | 11 => ("EventKeeperModel", "where", "[I", true)
  | 12 => ("EventKeeperModel", "position", "[I", true)
  | 13 => ("EventKeeperModel", "savedAt", "[I", true)
  | 14 => ("EventKeeperModel", "savedOf", "[I", true)
  | 15 => ("EventKeeperModel", "from", "[I", true)
  | 16 => ("EventKeeperModel", "kinds", "[I", true)
  | 17 => ("EventKeeperModel", "place", "[I", true)
  | _ => ("EventKeeperModel", "safe", "[I", true)
def ty_M : Nat → FieldType := fun k => match k with
  | 0 => .int
  | 1 => .int
  | 2 => .int
  | 3 => .array .int
  | 4 => .array .int
  | 5 => .array .int
  | 6 => .array .int
  | 7 => .array .long
  | 8 => .array .long
  | 9 => .array .long
  | 10 => .array .int
  | 11 => .array .int
  | 12 => .array .int
  | 13 => .array .int
  | 14 => .array .int
  | 15 => .array .int
  | 16 => .array .int
  | 17 => .array .int
  | _ => .array .int
abbrev kx_cls : List vw_C := [("EventKeeper", T_EK, 3), ("EventKeeper$Log", T_L, 11), ("EventKeeper$Projection", T_P, 8), ("EventKeeper$Subscription", T_S, 4), ("EventKeeperModel", T_M, 19)]
abbrev kc_EK : Nat := 0
abbrev kc_L : Nat := 1
abbrev kc_P : Nat := 2
abbrev kc_S : Nat := 3
abbrev kc_M : Nat := 4
def kx_q0 : String := "EventKeeper$Projection"
def kx_q1 : String := "EventKeeper$Subscription"
def kx_strs : List (String × Nat × String) := [("EventKeeper", 157, "an argument is out of its range"), ("EventKeeper", 48, "the stream has another number of events"), ("EventKeeper", 59, "the log is full"), ("EventKeeper", 85, "there is no such cell"), ("EventKeeper", 159, "there is no event at this place"), ("EventKeeper", 143, "the stream has no such version"), ("EventKeeper", 154, "there is nothing such to count")]
def kx_exc : List String := ["java/lang/IllegalArgumentException", "java/lang/IllegalStateException", "java/lang/IndexOutOfBoundsException"]
theorem kt_EK : ∀ w ∈ u_ws "EventKeeper" T_EK 3, w ∈ kx_tb := by
  have h : (u_ws "EventKeeper" T_EK 3).all (fun w => decide (w ∈ tables_1) && goodWord w) = true := by decide +kernel
  intro w hw
  have h1 := List.all_eq_true.mp h w hw
  simp only [Bool.and_eq_true, decide_eq_true_eq] at h1
  exact List.mem_filter.mpr ⟨List.mem_append_right _ h1.1, h1.2⟩
theorem kn_EK : ∀ a, a < 3 → ∀ b, b < 3 → a ≠ b → (T_EK a).2.1 ≠ (T_EK b).2.1 := by decide +kernel
theorem kp_EK : ∀ k, k < 3 → parseFieldDescriptor (T_EK k).2.2.1 = some (ty_EK k) := by decide +kernel
theorem kt_L : ∀ w ∈ u_ws "EventKeeper$Log" T_L 11, w ∈ kx_tb := by
  have h : (u_ws "EventKeeper$Log" T_L 11).all (fun w => decide (w ∈ tables_1) && goodWord w) = true := by decide +kernel
  intro w hw
  have h1 := List.all_eq_true.mp h w hw
  simp only [Bool.and_eq_true, decide_eq_true_eq] at h1
  exact List.mem_filter.mpr ⟨List.mem_append_right _ h1.1, h1.2⟩
theorem kn_L : ∀ a, a < 11 → ∀ b, b < 11 → a ≠ b → (T_L a).2.1 ≠ (T_L b).2.1 := by decide +kernel
theorem kp_L : ∀ k, k < 11 → parseFieldDescriptor (T_L k).2.2.1 = some (ty_L k) := by decide +kernel
theorem kt_P : ∀ w ∈ u_ws "EventKeeper$Projection" T_P 8, w ∈ kx_tb := by
  have h : (u_ws "EventKeeper$Projection" T_P 8).all (fun w => decide (w ∈ tables_1) && goodWord w) = true := by decide +kernel
  intro w hw
  have h1 := List.all_eq_true.mp h w hw
  simp only [Bool.and_eq_true, decide_eq_true_eq] at h1
  exact List.mem_filter.mpr ⟨List.mem_append_right _ h1.1, h1.2⟩
theorem kn_P : ∀ a, a < 8 → ∀ b, b < 8 → a ≠ b → (T_P a).2.1 ≠ (T_P b).2.1 := by decide +kernel
theorem kp_P : ∀ k, k < 8 → parseFieldDescriptor (T_P k).2.2.1 = some (ty_P k) := by decide +kernel
theorem kt_S : ∀ w ∈ u_ws "EventKeeper$Subscription" T_S 4, w ∈ kx_tb := by
  have h : (u_ws "EventKeeper$Subscription" T_S 4).all (fun w => decide (w ∈ tables_1) && goodWord w) = true := by decide +kernel
  intro w hw
  have h1 := List.all_eq_true.mp h w hw
  simp only [Bool.and_eq_true, decide_eq_true_eq] at h1
  exact List.mem_filter.mpr ⟨List.mem_append_right _ h1.1, h1.2⟩
theorem kn_S : ∀ a, a < 4 → ∀ b, b < 4 → a ≠ b → (T_S a).2.1 ≠ (T_S b).2.1 := by decide +kernel
theorem kp_S : ∀ k, k < 4 → parseFieldDescriptor (T_S k).2.2.1 = some (ty_S k) := by decide +kernel
theorem kt_M : ∀ w ∈ u_ws "EventKeeperModel" T_M 19, w ∈ kx_tb := by
  have h : (u_ws "EventKeeperModel" T_M 19).all (fun w => decide (w ∈ tables_1) && goodWord w) = true := by decide +kernel
  intro w hw
  have h1 := List.all_eq_true.mp h w hw
  simp only [Bool.and_eq_true, decide_eq_true_eq] at h1
  exact List.mem_filter.mpr ⟨List.mem_append_right _ h1.1, h1.2⟩
theorem kn_M : ∀ a, a < 19 → ∀ b, b < 19 → a ≠ b → (T_M a).2.1 ≠ (T_M b).2.1 := by decide +kernel
theorem kp_M : ∀ k, k < 19 → parseFieldDescriptor (T_M k).2.2.1 = some (ty_M k) := by decide +kernel
end
section
abbrev kx_c : Type := (Nat × (Nat → Int32)) ⊕ (Nat × (Nat → Int64)) ⊕ (Nat × Nat × (Nat → Option Nat)) ⊕ (Nat × List Value)
abbrev kx_ci (n : Nat) (f : Nat → Int32) : kx_c := Sum.inl (n, f)
abbrev kx_cl (n : Nat) (f : Nat → Int64) : kx_c := Sum.inr (Sum.inl (n, f))
abbrev kx_cq (t n : Nat) (f : Nat → Option Nat) : kx_c := Sum.inr (Sum.inr (Sum.inl (t, n, f)))
abbrev kx_co (ci : Nat) (fs : List Value) : kx_c := Sum.inr (Sum.inr (Sum.inr (ci, fs)))
abbrev kx_H : Type := Nat → Option kx_c
def kx_set (h : kx_H) (i : Nat) (c : kx_c) : kx_H := fun j => if j = i then some c else h j
theorem kx_set_s {h : kx_H} {i : Nat} {c : kx_c} : kx_set h i c i = some c := by simp [kx_set]
theorem kx_set_n {h : kx_H} {i j : Nat} {c : kx_c} (hj : j ≠ i) : kx_set h i c j = h j := by simp [kx_set, hj]
abbrev kx_E : Type := Launch × State × va_G × (Nat → Nat)
def kx_B (E : kx_E) : Nat := E.2.1.heap.size
def kx_v (B : Nat) : Value → Value
  | .int x => .int x
  | .long x => .long x
  | .float x => .float x
  | .double x => .double x
  | .null => .null
  | .ref i => .ref (B + i)
  | .retAddr k => .retAddr k
def kx_rf (B : Nat) : Option Nat → Value
  | none => .null
  | some i => .ref (B + i)
theorem kx_v_cat (B : Nat) (v : Value) : (kx_v B v).category = v.category := by cases v <;> rfl
abbrev kx_s (E : kx_E) (st : List Value) : List Value := st.map (kx_v (kx_B E))
abbrev kx_l (E : kx_E) (lv : List (Nat × Value)) : List (Nat × Value) := lv.map (fun q => (q.1, kx_v (kx_B E) q.2))
theorem kx_s_cat (E : kx_E) (st : List Value) : ((kx_s E st).map fun v => v.category).sum = (st.map fun v => v.category).sum := by
  show ((st.map (kx_v (kx_B E))).map fun v => v.category).sum = _
  rw [List.map_map]
  congr 1
  apply List.map_congr_left
  intro v _
  exact kx_v_cat _ v
def kx_lk : List (Nat × Value) → Nat → Option Value
  | [], _ => none
  | q :: l, i => match Nat.beq q.1 i with
    | true => some q.2
    | false => kx_lk l i
theorem kx_lk_mem : ∀ {l : List (Nat × Value)} {i : Nat} {v : Value}, kx_lk l i = some v → (i, v) ∈ l
  | [], _, _, h => by simp [kx_lk] at h
  | q :: l, i, v, h => by
    cases hb : Nat.beq q.1 i with
    | true =>
      have e : q.1 = i := Nat.eq_of_beq_eq_true hb
      simp only [kx_lk, hb, Option.some.injEq] at h
      obtain ⟨a, b⟩ := q
      cases e
      cases h
      exact List.mem_cons_self
    | false =>
      simp only [kx_lk, hb] at h
      exact List.mem_cons_of_mem _ (kx_lk_mem h)
theorem kx_l_at {E : kx_E} {ls : Array Slot} {nL : Nat} {lv : List (Nat × Value)} {i : Nat} {v : Value} (hV : lv_has ls nL (kx_l E lv)) (h : kx_lk lv i = some v) : ls[i]? = some (.val (kx_v (kx_B E) v)) :=
  hV.2.2 (i, kx_v (kx_B E) v) (List.mem_map.mpr ⟨(i, v), kx_lk_mem h, rfl⟩)
theorem kx_l_st1 (E : kx_E) (lv : List (Nat × Value)) (i : Nat) (v : Value) : (i, kx_v (kx_B E) v) :: (kx_l E lv).filter (fun q => !(q.1 == i) && !(q.1 + 1 == i && q.2.category == 2)) = kx_l E ((i, v) :: lv.filter (fun q => !(q.1 == i) && !(q.1 + 1 == i && q.2.category == 2))) := by
  show _ = (i, kx_v (kx_B E) v) :: (lv.filter _).map _
  congr 1
  rw [List.filter_map]
  congr 1
  apply List.filter_congr
  intro q _
  simp only [Function.comp, kx_v_cat]
theorem kx_l_st2 (E : kx_E) (lv : List (Nat × Value)) (i : Nat) (v : Value) : (i, kx_v (kx_B E) v) :: (kx_l E lv).filter (fun q => !(q.1 == i) && (!(q.1 == i + 1) && !(q.1 + 1 == i && q.2.category == 2))) = kx_l E ((i, v) :: lv.filter (fun q => !(q.1 == i) && (!(q.1 == i + 1) && !(q.1 + 1 == i && q.2.category == 2)))) := by
  show _ = (i, kx_v (kx_B E) v) :: (lv.filter _).map _
  congr 1
  rw [List.filter_map]
  congr 1
  apply List.filter_congr
  intro q _
  simp only [Function.comp, kx_v_cat]
theorem kx_args (E : kx_E) : ∀ (as : List Value) (i : Nat), lv_args i (kx_s E as) = kx_l E (lv_args i as)
  | [], _ => rfl
  | v :: vs, i => by
    show (i, kx_v (kx_B E) v) :: lv_args (if (kx_v (kx_B E) v).category = 2 then i + 2 else i + 1) (kx_s E vs) = (i, kx_v (kx_B E) v) :: kx_l E (lv_args (if v.category = 2 then i + 2 else i + 1) vs)
    rw [kx_v_cat, kx_args E vs]
theorem kx_sl (E : kx_E) : ∀ (as : List Value), (lg_sl (kx_s E as)).length = (lg_sl as).length
  | [] => rfl
  | v :: vs => by
    have h := kx_sl E vs
    simp only [lg_sl, List.map_cons, List.flatMap_cons, List.length_append, kx_v_cat] at h ⊢
    rw [h]
    by_cases hc : v.category = 2 <;> simp [hc]
def kx_at (E : kx_E) (i : Nat) (c : kx_c) (H : Heap) : Prop := match c with
  | Sum.inl x => H[kx_B E + i]? = some (arrV (E.2.2.2 0) x.1 (fun j => .int (x.2 j)))
  | Sum.inr (Sum.inl x) => H[kx_B E + i]? = some (arrV (E.2.2.2 1) x.1 (fun j => .long (x.2 j)))
  | Sum.inr (Sum.inr (Sum.inl x)) => H[kx_B E + i]? = some (arrV (E.2.2.2 (2 + x.1)) x.2.1 (fun j => kx_rf (kx_B E) (x.2.2 j)))
  | Sum.inr (Sum.inr (Sum.inr x)) => ∃ r : vw_C, kx_cls[x.1]? = some r ∧ t_OB (kx_B E + i) (E.2.2.1.1 x.1) r.2.2 (E.2.2.1.2 x.1) H (fun k => kx_v (kx_B E) (x.2.getD k .null))
theorem kx_at.kept {E : kx_E} {i : Nat} {c : kx_c} {H H1 : Heap} (h : kx_at E i c H) (hq : H1[kx_B E + i]? = H[kx_B E + i]?) : kx_at E i c H1 := by
  rcases c with x | x | x | x
  · exact hq.trans h
  · exact hq.trans h
  · exact hq.trans h
  · obtain ⟨r, h1, h2⟩ := h
    exact ⟨r, h1, h2.kept hq⟩
theorem kx_at.cell {E : kx_E} {i : Nat} {c : kx_c} {H : Heap} (h : kx_at E i c H) : ∃ cell : Cell, H[kx_B E + i]? = some cell ∧ cell.vm = .none := by
  rcases c with x | x | x | x
  · exact ⟨_, h, rfl⟩
  · exact ⟨_, h, rfl⟩
  · exact ⟨_, h, rfl⟩
  · obtain ⟨r, h1, cell, h2, -, h3, -⟩ := h
    exact ⟨cell, h2, h3⟩
theorem kx_at.lt {E : kx_E} {i : Nat} {c : kx_c} {H : Heap} (h : kx_at E i c H) : kx_B E + i < H.size := by
  obtain ⟨cell, h1, -⟩ := h.cell
  exact (Array.getElem?_eq_some_iff.mp h1).1
def kx_P (E : kx_E) (n : Nat) (h : kx_H) (H : Heap) : Prop :=
  H.size = kx_B E + n ∧ (∀ q : Nat, q < kx_B E → H[q]? = E.2.1.heap[q]?) ∧ (∀ (q : Nat) (cell : Cell), kx_B E ≤ q → H[q]? = some cell → cell.vm.isStatics = false) ∧ ∀ (i : Nat) (c : kx_c), h i = some c → kx_at E i c H
theorem kx_P.set {E : kx_E} {n : Nat} {h : kx_H} {H H1 : Heap} (P : kx_P E n h H) {i : Nat} {c : kx_c} (z : H1.size = H.size) (oq : ∀ q : Nat, q ≠ kx_B E + i → H1[q]? = H[q]?) (hc : kx_at E i c H1) : kx_P E n (kx_set h i c) H1 := by
  obtain ⟨p1, p2, p3, p4⟩ := P
  refine ⟨z.trans p1, fun q hq => ?_, fun q cell hq hcl => ?_, fun j d hj => ?_⟩
  · rw [oq q (by omega)]; exact p2 q hq
  · by_cases e : q = kx_B E + i
    · subst e
      obtain ⟨cell', h1, h2⟩ := hc.cell
      rw [h1] at hcl
      cases hcl
      rw [h2]; rfl
    · rw [oq q e] at hcl
      exact p3 q cell hq hcl
  · by_cases e : j = i
    · subst e
      rw [kx_set_s] at hj
      cases hj
      exact hc
    · rw [kx_set_n e] at hj
      exact (p4 j d hj).kept (oq _ (by omega))
theorem kx_P.junk {E : kx_E} {n : Nat} {h : kx_H} {H H1 : Heap} (P : kx_P E n h H) (z : H1.size = H.size + 1) (oq : ∀ q : Nat, q < H.size → H1[q]? = H[q]?) (hn : ∀ cell, H1[H.size]? = some cell → cell.vm.isStatics = false) : kx_P E (n + 1) h H1 := by
  obtain ⟨p1, p2, p3, p4⟩ := P
  refine ⟨by omega, fun q hq => ?_, fun q cell hq hcl => ?_, fun j d hj => (p4 j d hj).kept (oq _ (p4 j d hj).lt)⟩
  · rw [oq q (by omega)]; exact p2 q hq
  · have hlt := (Array.getElem?_eq_some_iff.mp hcl).1
    by_cases e : q = H.size
    · subst e
      exact hn cell hcl
    · rw [oq q (by omega)] at hcl
      exact p3 q cell hq hcl
theorem kx_P.push {E : kx_E} {n : Nat} {h : kx_H} {H H1 : Heap} (P : kx_P E n h H) {c : kx_c} (z : H1.size = H.size + 1) (oq : ∀ q : Nat, q < H.size → H1[q]? = H[q]?) (hc : kx_at E n c H1) : kx_P E (n + 1) (kx_set h n c) H1 := by
  have hs : H.size = kx_B E + n := P.1
  have P1 : kx_P E (n + 1) h H1 := P.junk z oq (fun cell hcl => by
    obtain ⟨cell', h1, h2⟩ := hc.cell
    rw [← hs, hcl] at h1
    cases h1
    rw [h2]; rfl)
  refine ⟨P1.1, P1.2.1, P1.2.2.1, fun j d hj => ?_⟩
  by_cases e : j = n
  · subst e
    rw [kx_set_s] at hj
    cases hj
    exact hc
  · rw [kx_set_n e] at hj
    exact P1.2.2.2 j d hj
def kx_hw : List Cond := [.laysStatic "java/lang/Throwable" "UNASSIGNED_STACK" "[Ljava/lang/StackTraceElement;", .laysStatic "java/lang/Throwable" "SUPPRESSED_SENTINEL" "Ljava/util/List;"]
def kx_hr : List Cond := [.isRef (.static "java/lang/Throwable" "UNASSIGNED_STACK" "[Ljava/lang/StackTraceElement;"), .isRef (.static "java/lang/Throwable" "SUPPRESSED_SENTINEL" "Ljava/util/List;")]
def kx_T (s : State) : Prop := (∀ w ∈ kx_hw, ∀ a : Array Value, w.before a s = true) ∧ (∀ w ∈ kx_hr, ∀ a : Array Value, w.before a s = true) ∧ ∀ q ∈ kx_strs, ∃ a : Nat, vk_R q.1 q.2.1 q.2.2 a s
theorem kx_lays {s U : State} (hW : s.WarmedH U.vm) (hh : ∀ q : Nat, q < s.heap.size → U.heap[q]? = s.heap[q]?) {O f d : String} {a' a'' : Array Value} (h : (Cond.laysStatic O f d).before a' s = true) : (Cond.laysStatic O f d).before a'' U = true := by
  obtain ⟨c, k, i, fd, a, cell, hc, hi, hst, ha, hcell, hs, hcls, hlt, hty⟩ := Cond.laysStatic_spec h
  obtain ⟨k', hi', he⟩ := State.fieldFound?_setVm hW.alike hi
  have hb := (Array.getElem?_eq_some_iff.mp hcell).1
  exact Cond.laysStatic_of (s := U) (by rw [hW.alike.findClass]; exact hc) hi' hst (by rw [he]; exact ha) (by rw [hh a hb]; exact hcell) hs hcls hlt (by rw [he]; exact hty)
theorem kx_isref {s U : State} (hW : s.WarmedH U.vm) (hh : ∀ q : Nat, q < s.heap.size → U.heap[q]? = s.heap[q]?) {O f d : String} {a' a'' : Array Value} (hl : (Cond.laysStatic O f d).before a' s = true) (h : (Cond.isRef (.static O f d)).before a' s = true) : (Cond.isRef (.static O f d)).before a'' U = true := by
  obtain ⟨c, k, i, fd, a, cell, hc, hi, hst, ha, hcell, hs, hcls, hlt, hty⟩ := Cond.laysStatic_spec hl
  obtain ⟨k', hi', he⟩ := State.fieldFound?_setVm hW.alike hi
  have hb := (Array.getElem?_eq_some_iff.mp hcell).1
  have hcU : U.heap[a]? = some cell := by rw [hh a hb]; exact hcell
  have hiU : U.fieldFound? O f d = some (c, k', i, fd) := hi'
  have haU : k'.statics = some a := by rw [he]; exact ha
  cases hv : (Term.static O f d).eval a' s none [] s with
  | none => simp [Cond.before, Cond.holds, Cond.value, hv] at h
  | some w =>
    obtain ⟨-, a2, cell2, q1, q2, -, q4⟩ := Term.static_spec hi hv
    cases ha.symm.trans q1
    cases hcell.symm.trans q2
    have heU : (Term.static O f d).eval a'' U none [] U = some w := by
      simp [Term.eval, State.fieldNamed?, hiU, hst, haU, hcU, hs, q4]
    simp only [Cond.before, Cond.holds, Cond.value, hv] at h
    simp only [Cond.before, Cond.holds, Cond.value, heU]
    exact h
theorem kx_T.to {s U : State} (h : kx_T s) (hW : s.WarmedH U.vm) (hh : ∀ q : Nat, q < s.heap.size → U.heap[q]? = s.heap[q]?) : kx_T U := by
  obtain ⟨h1, h2, h3⟩ := h
  refine ⟨fun w hw a => ?_, fun w hw a => ?_, fun q hq => ?_⟩
  · simp only [kx_hw, List.mem_cons, List.not_mem_nil, or_false] at hw
    rcases hw with rfl | rfl
    · exact kx_lays hW hh (h1 _ (by simp [kx_hw]) #[])
    · exact kx_lays hW hh (h1 _ (by simp [kx_hw]) #[])
  · simp only [kx_hr, List.mem_cons, List.not_mem_nil, or_false] at hw
    rcases hw with rfl | rfl
    · exact kx_isref hW hh (h1 _ (by simp [kx_hw]) #[]) (h2 _ (by simp [kx_hr]) #[])
    · exact kx_isref hW hh (h1 _ (by simp [kx_hw]) #[]) (h2 _ (by simp [kx_hr]) #[])
  · obtain ⟨a, ha⟩ := h3 q hq
    exact ⟨a, vk_R.warm hW ha⟩
def kx_tys (aC : Nat → Nat) : List (ClassId × FieldType) := [(aC 0, .int), (aC 1, .long), (aC 2, .object kx_q0), (aC 3, .object kx_q1)]
def kx_yes (E : kx_E) (A B : String) : Prop := ∃ a b : ClassId, E.2.1.vm.findClass A = some a ∧ E.2.1.vm.findClass B = some b ∧ E.2.1.vm.assignable a b = true
def kx_no (E : kx_E) (A B : String) : Prop := ∃ a b : ClassId, E.2.1.vm.findClass A = some a ∧ E.2.1.vm.findClass B = some b ∧ E.2.1.vm.assignable a b = false
def kx_G (E : kx_E) : Prop := E.1.stackTraces = false ∧ (∃ a0 : Array Value, ∀ w ∈ lw_tbl, w.before a0 E.2.1 = true) ∧ va_K E.2.2.1 kx_cls (kx_tys E.2.2.2) E.2.1 ∧ kx_T E.2.1 ∧ ∀ A ∈ kx_exc, ∀ B ∈ kx_exc, (A = B → kx_yes E A B) ∧ (A ≠ B → kx_no E A B)
abbrev kx_I : Type := String × ByteArray × Nat × Option FieldType × List (Nat × Nat × Nat × Nat) × String
abbrev kx_Q : Type := (Option Value ⊕ String) → Nat → kx_H → Prop
def kx_C (E : kx_E) (I : kx_I) (d mc ms : Nat) (p : Program) (e : Env) (R : Room) (s : State) (m : MethodId) (args : Array Value) (meth : Method) (c : Code) : Prop :=
  (kx_G E ∧ p.tables.exec = Jvm.exec ∧ c.code = I.2.1 ∧ c.maxLocals = I.2.2.1) ∧ (meth.sig.returnType = I.2.2.2.1 ∧ meth.locks = false ∧ s.vm.findClass I.1 = some m.cls ∧ E.2.1.WarmedH s.vm) ∧
  ((∀ q : Nat, q < kx_B E → s.heap[q]? = E.2.1.heap[q]?) ∧ c.exceptionTable.toList.map (fun x => (x.startPc, x.endPc, x.handlerPc, x.catchType)) = I.2.2.2.2.1 ∧ meth.name = I.2.2.2.2.2) ∧ d ≤ R.frames ∧ 36 * d ≤ R.locals ∧ R.cells = mc ∧ R.slots = ms
section KXC
variable {E : kx_E} {I : kx_I} {d mc ms : Nat} {p : Program} {e : Env} {R : Room} {s : State} {m : MethodId} {args : Array Value} {meth : Method} {c : Code}
theorem kx_C.g (C : kx_C E I d mc ms p e R s m args meth c) : kx_G E := C.1.1
theorem kx_C.ex (C : kx_C E I d mc ms p e R s m args meth c) : p.tables.exec = Jvm.exec := C.1.2.1
theorem kx_C.bt (C : kx_C E I d mc ms p e R s m args meth c) : c.code = I.2.1 := C.1.2.2.1
theorem kx_C.ml (C : kx_C E I d mc ms p e R s m args meth c) : c.maxLocals = I.2.2.1 := C.1.2.2.2
theorem kx_C.rt (C : kx_C E I d mc ms p e R s m args meth c) : meth.sig.returnType = I.2.2.2.1 := C.2.1.1
theorem kx_C.lk (C : kx_C E I d mc ms p e R s m args meth c) : meth.locks = false := C.2.1.2.1
theorem kx_C.own (C : kx_C E I d mc ms p e R s m args meth c) : s.vm.findClass I.1 = some m.cls := C.2.1.2.2.1
theorem kx_C.wm (C : kx_C E I d mc ms p e R s m args meth c) : E.2.1.WarmedH s.vm := C.2.1.2.2.2
theorem kx_C.lo (C : kx_C E I d mc ms p e R s m args meth c) : ∀ q : Nat, q < kx_B E → s.heap[q]? = E.2.1.heap[q]? := C.2.2.1.1
theorem kx_C.tb (C : kx_C E I d mc ms p e R s m args meth c) : c.exceptionTable.toList.map (fun x => (x.startPc, x.endPc, x.handlerPc, x.catchType)) = I.2.2.2.2.1 := C.2.2.1.2.1
theorem kx_C.nm (C : kx_C E I d mc ms p e R s m args meth c) : meth.name = I.2.2.2.2.2 := C.2.2.1.2.2
theorem kx_C.fr (C : kx_C E I d mc ms p e R s m args meth c) : d ≤ R.frames := C.2.2.2.1
theorem kx_C.lc (C : kx_C E I d mc ms p e R s m args meth c) : 36 * d ≤ R.locals := C.2.2.2.2.1
theorem kx_C.rc (C : kx_C E I d mc ms p e R s m args meth c) : R.cells = mc := C.2.2.2.2.2.1
theorem kx_C.rs (C : kx_C E I d mc ms p e R s m args meth c) : R.slots = ms := C.2.2.2.2.2.2
theorem kx_word {E : kx_E} (G : kx_G E) {w : Cond} (hw : w ∈ kx_tb) (a' : Array Value) {U : State} (hU : E.2.1.WarmedH U.vm) : w.before a' U = true := by
  obtain ⟨a0, h⟩ := G.2.1
  exact word_at hU (good_of_word (List.all_eq_true.mp kx_tb_good w hw)) (h w (List.mem_filter.mp hw).1)
def kx_dc (w : Cond) : Bool := match w with
  | .declares _ => true
  | .castable _ _ => true
  | _ => false
theorem kx_word2 {E : kx_E} (G : kx_G E) {w : Cond} (hw : w ∈ lw_tbl) (hd : kx_dc w = true) (a' : Array Value) {U : State} (hU : E.2.1.WarmedH U.vm) : w.before a' U = true := by
  obtain ⟨a0, h⟩ := G.2.1
  have h1 := h w hw
  cases w with
  | declares x => exact va_tabs rfl (rfl : (E.2.1.setVm U.vm).vm = U.vm) (by rw [Cond.declares_setVm hU.alike]; exact h1)
  | castable x y => exact va_tabs rfl (rfl : (E.2.1.setVm U.vm).vm = U.vm) (by rw [Cond.castable_setVm hU.alike]; exact h1)
  | _ => cases hd
theorem kx_C.w (C : kx_C E I d mc ms p e R s m args meth c) {w : Cond} (hw : w ∈ kx_tb) : w.before args s = true := kx_word C.g hw args C.wm
theorem kx_C.k (C : kx_C E I d mc ms p e R s m args meth c) : va_K E.2.2.1 kx_cls (kx_tys E.2.2.2) s := va_K.moved C.wm.alike C.g.2.2.1
end KXC
def kx_O (E : kx_E) (r : Option Value ⊕ String) (o : Outcome) (t : State) : Prop := match r with
  | Sum.inl v => o = .returned (v.map (kx_v (kx_B E)))
  | Sum.inr X => ∃ (a : Addr) (ce : Cell), o = .threw a ∧ t.heap[a]? = some ce ∧ ce.vm.isStatics = false ∧ E.2.1.vm.findClass X = some ce.cls
def kx_Z (E : kx_E) (mc ms : Nat) (Q : kx_Q) (below : List Frame) (s : State) (t : State) : Prop :=
  ∃ o, t.status = .running ∧ Ended t below o ∧ s.WarmedH t.vm ∧ (∃ L, s.sameButNew ({ t with vm := s.vm } : State) L mc ms ∧ ∀ q ∈ L, kx_B E ≤ q.base) ∧ ∃ (r : Option Value ⊕ String) (n : Nat) (h : kx_H), kx_P E n h t.heap ∧ kx_O E r o t ∧ Q r n h
def kx_V (E : kx_E) (I : kx_I) (d mc ms : Nat) (Q : kx_Q) (k j pc : Nat) (lv : List (Nat × Value)) (st : List Value) (n : Nat) (h : kx_H) : Prop :=
  ∀ (p : Program) (e : Env) (R : Room) (s : State) (m : MethodId) (args : Array Value) (below : List Frame) (meth : Method) (c : Code) (H : Heap) (locs : List Loc) (ls : Array Slot) (cells slots : Nat),
    kx_C E I d mc ms p e R s m args meth c → kx_P E n h H → (∀ q ∈ locs, kx_B E ≤ q.base) → lv_has ls I.2.2.1 (kx_l E lv) → cells + k ≤ mc → slots + j ≤ ms →
    W p E.1 e R s m args below meth c H locs cells slots (kx_Z E mc ms Q below s) (F0 m pc ls (kx_s E st))
def kx_X (E : kx_E) (I : kx_I) (d mc ms : Nat) (Q : kx_Q) (k j pc : Nat) (lv : List (Nat × Value)) (X : String) (n : Nat) (h : kx_H) : Prop :=
  ∀ (p : Program) (e : Env) (R : Room) (s : State) (m : MethodId) (args : Array Value) (below : List Frame) (meth : Method) (c : Code) (H : Heap) (locs : List Loc) (ls : Array Slot) (cells slots : Nat),
    kx_C E I d mc ms p e R s m args meth c → kx_P E n h H → (∀ q ∈ locs, kx_B E ≤ q.base) → lv_has ls I.2.2.1 (kx_l E lv) → cells + k ≤ mc → slots + j ≤ ms →
    ∀ (st : List Value) (a : Addr) (ce : Cell), H[a]? = some ce → ce.vm.isStatics = false → E.2.1.vm.findClass X = some ce.cls →
    ∀ T : State, T.heap = H → Stand p E.1 e R s m args below meth c T locs cells slots → ∃ t, Steps p.tables e below ((T.setTop (F0 m pc ls st)).pushFrame (.throwing a)) t ∧ kx_Z E mc ms Q below s t
theorem kx_W_mono {p : Program} {l : Launch} {e : Env} {R : Room} {s : State} {m : MethodId} {args : Array Value} {below : List Frame} {meth : Method} {c : Code} {H : Heap} {locs : List Loc} {cells slots : Nat} {Q Q' : State → Prop} {g : JFrame} (hq : ∀ t, Q t → Q' t) (w : W p l e R s m args below meth c H locs cells slots Q g) : W p l e R s m args below meth c H locs cells slots Q' g := by
  intro T hT X
  obtain ⟨t, a, b⟩ := w T hT X
  exact ⟨t, a, hq t b⟩
theorem kx_up {tb : Tables} {e : Env} {mid below : List Frame} {a b : State} (h : Steps tb e (mid ++ below) a b) : Steps tb e below a b := by
  obtain ⟨n, h1, h2⟩ := h
  exact ⟨n, h1, fun k hk => (h2 k hk).weaken⟩
end
section
section KXR
variable {E : kx_E} {I : kx_I} {d mc ms : Nat} {Q : kx_Q} {k j pc : Nat} {lv : List (Nat × Value)} {st : List Value} {n : Nat} {h : kx_H}
theorem kx_iconst {a : Int} {x : Int32} (hdg : decode I.2.1 pc = .ok (.iconst a, 1)) (hx : Int32.ofInt a = x) (kk : kx_V E I d mc ms Q k j (pc + 1) lv (.int x :: st) n h) : kx_V E I d mc ms Q k j pc lv st n h :=
  fun p e R s m args below meth c H locs ls cells slots C P L V hk hj => lv_iconst C.ex C.bt hdg hx (kk p e R s m args below meth c H locs ls cells slots C P L V hk hj)
theorem kx_bipush {a : Int} {x : Int32} (hdg : decode I.2.1 pc = .ok (.bipush a, 2)) (hx : (Int8.ofInt a).toInt32 = x) (kk : kx_V E I d mc ms Q k j (pc + 2) lv (.int x :: st) n h) : kx_V E I d mc ms Q k j pc lv st n h :=
  fun p e R s m args below meth c H locs ls cells slots C P L V hk hj => lv_bipush C.ex C.bt hdg hx (kk p e R s m args below meth c H locs ls cells slots C P L V hk hj)
theorem kx_sipush {a : Int} {x : Int32} (hdg : decode I.2.1 pc = .ok (.sipush a, 3)) (hx : (Int16.ofInt a).toInt32 = x) (kk : kx_V E I d mc ms Q k j (pc + 3) lv (.int x :: st) n h) : kx_V E I d mc ms Q k j pc lv st n h :=
  fun p e R s m args below meth c H locs ls cells slots C P L V hk hj => lv_sipush C.ex C.bt hdg hx (kk p e R s m args below meth c H locs ls cells slots C P L V hk hj)
theorem kx_lconst {a : Fin 2} {x : Int64} (hdg : decode I.2.1 pc = .ok (.lconst a, 1)) (hx : Int64.ofNat (a : Nat) = x) (kk : kx_V E I d mc ms Q k j (pc + 1) lv (.long x :: st) n h) : kx_V E I d mc ms Q k j pc lv st n h :=
  fun p e R s m args below meth c H locs ls cells slots C P L V hk hj => lv_lconst C.ex C.bt hdg hx (kk p e R s m args below meth c H locs ls cells slots C P L V hk hj)
theorem kx_ldc2 {index : Nat} {x : Int64} (hdg : decode I.2.1 pc = .ok (.ldc2_w index, 3)) (hw : Cond.constantLong I.1 index x ∈ kx_tb) (kk : kx_V E I d mc ms Q k j (pc + 3) lv (.long x :: st) n h) : kx_V E I d mc ms Q k j pc lv st n h :=
  fun p e R s m args below meth c H locs ls cells slots C P L V hk hj => lv_ldc2 C.ex C.bt C.own (C.w hw) hdg (kk p e R s m args below meth c H locs ls cells slots C P L V hk hj)
theorem kx_iload_n {f : Fin 4} {x : Int32} (hdg : decode I.2.1 pc = .ok (.iload_n f, 1)) (hl : kx_lk lv f.val = some (.int x)) (kk : kx_V E I d mc ms Q k j (pc + 1) lv (.int x :: st) n h) : kx_V E I d mc ms Q k j pc lv st n h :=
  fun p e R s m args below meth c H locs ls cells slots C P L V hk hj => lv_iload_n C.ex C.bt hdg rfl (kx_l_at V hl) (kk p e R s m args below meth c H locs ls cells slots C P L V hk hj)
theorem kx_iload {i : Nat} {x : Int32} (hdg : decode I.2.1 pc = .ok (.iload i, 2)) (hl : kx_lk lv i = some (.int x)) (kk : kx_V E I d mc ms Q k j (pc + 2) lv (.int x :: st) n h) : kx_V E I d mc ms Q k j pc lv st n h :=
  fun p e R s m args below meth c H locs ls cells slots C P L V hk hj => lv_iload C.ex C.bt hdg (kx_l_at V hl) (kk p e R s m args below meth c H locs ls cells slots C P L V hk hj)
theorem kx_istore_n {f : Fin 4} {i : Nat} {x : Int32} {lv' : List (Nat × Value)} (hdg : decode I.2.1 pc = .ok (.istore_n f, 1)) (hf : (f : Nat) = i) (hn : i < I.2.2.1) (hl : (i, Value.int x) :: lv.filter (fun q => !(q.1 == i) && !(q.1 + 1 == i && q.2.category == 2)) = lv') (kk : kx_V E I d mc ms Q k j (pc + 1) lv' st n h) : kx_V E I d mc ms Q k j pc lv (.int x :: st) n h := by
  subst hl
  intro p e R s m args below meth c H locs ls cells slots C P L V hk hj
  exact lv_istore_n C.ex C.bt hdg hf V hn (kx_l_st1 E lv i (.int x)) (fun ls' V' => kk p e R s m args below meth c H locs ls' cells slots C P L V' hk hj)
theorem kx_istore {i : Nat} {x : Int32} {lv' : List (Nat × Value)} (hdg : decode I.2.1 pc = .ok (.istore i, 2)) (hn : i < I.2.2.1) (hl : (i, Value.int x) :: lv.filter (fun q => !(q.1 == i) && !(q.1 + 1 == i && q.2.category == 2)) = lv') (kk : kx_V E I d mc ms Q k j (pc + 2) lv' st n h) : kx_V E I d mc ms Q k j pc lv (.int x :: st) n h := by
  subst hl
  intro p e R s m args below meth c H locs ls cells slots C P L V hk hj
  exact lv_istore C.ex C.bt hdg V hn (kx_l_st1 E lv i (.int x)) (fun ls' V' => kk p e R s m args below meth c H locs ls' cells slots C P L V' hk hj)
theorem kx_lload_n {f : Fin 4} {x : Int64} (hdg : decode I.2.1 pc = .ok (.lload_n f, 1)) (hl : kx_lk lv f.val = some (.long x)) (kk : kx_V E I d mc ms Q k j (pc + 1) lv (.long x :: st) n h) : kx_V E I d mc ms Q k j pc lv st n h :=
  fun p e R s m args below meth c H locs ls cells slots C P L V hk hj => lv_lload_n C.ex C.bt hdg rfl (kx_l_at V hl) (kk p e R s m args below meth c H locs ls cells slots C P L V hk hj)
theorem kx_lload {i : Nat} {x : Int64} (hdg : decode I.2.1 pc = .ok (.lload i, 2)) (hl : kx_lk lv i = some (.long x)) (kk : kx_V E I d mc ms Q k j (pc + 2) lv (.long x :: st) n h) : kx_V E I d mc ms Q k j pc lv st n h :=
  fun p e R s m args below meth c H locs ls cells slots C P L V hk hj => lv_lload C.ex C.bt hdg (kx_l_at V hl) (kk p e R s m args below meth c H locs ls cells slots C P L V hk hj)
theorem kx_lstore_n {f : Fin 4} {i : Nat} {x : Int64} {lv' : List (Nat × Value)} (hdg : decode I.2.1 pc = .ok (.lstore_n f, 1)) (hf : (f : Nat) = i) (hn : i + 1 < I.2.2.1) (hl : (i, Value.long x) :: lv.filter (fun q => !(q.1 == i) && (!(q.1 == i + 1) && !(q.1 + 1 == i && q.2.category == 2))) = lv') (kk : kx_V E I d mc ms Q k j (pc + 1) lv' st n h) : kx_V E I d mc ms Q k j pc lv (.long x :: st) n h := by
  subst hl
  intro p e R s m args below meth c H locs ls cells slots C P L V hk hj
  exact lv_lstore_n C.ex C.bt hdg hf V hn (kx_l_st2 E lv i (.long x)) (fun ls' V' => kk p e R s m args below meth c H locs ls' cells slots C P L V' hk hj)
theorem kx_lstore {i : Nat} {x : Int64} {lv' : List (Nat × Value)} (hdg : decode I.2.1 pc = .ok (.lstore i, 2)) (hn : i + 1 < I.2.2.1) (hl : (i, Value.long x) :: lv.filter (fun q => !(q.1 == i) && (!(q.1 == i + 1) && !(q.1 + 1 == i && q.2.category == 2))) = lv') (kk : kx_V E I d mc ms Q k j (pc + 2) lv' st n h) : kx_V E I d mc ms Q k j pc lv (.long x :: st) n h := by
  subst hl
  intro p e R s m args below meth c H locs ls cells slots C P L V hk hj
  exact lv_lstore C.ex C.bt hdg V hn (kx_l_st2 E lv i (.long x)) (fun ls' V' => kk p e R s m args below meth c H locs ls' cells slots C P L V' hk hj)
theorem kx_aload_n {f : Fin 4} {x : Nat} (hdg : decode I.2.1 pc = .ok (.aload_n f, 1)) (hl : kx_lk lv f.val = some (.ref x)) (kk : kx_V E I d mc ms Q k j (pc + 1) lv (.ref x :: st) n h) : kx_V E I d mc ms Q k j pc lv st n h :=
  fun p e R s m args below meth c H locs ls cells slots C P L V hk hj => lv_aload_n C.ex C.bt hdg rfl (kx_l_at V hl) (kk p e R s m args below meth c H locs ls cells slots C P L V hk hj)
theorem kx_aload {i : Nat} {x : Nat} (hdg : decode I.2.1 pc = .ok (.aload i, 2)) (hl : kx_lk lv i = some (.ref x)) (kk : kx_V E I d mc ms Q k j (pc + 2) lv (.ref x :: st) n h) : kx_V E I d mc ms Q k j pc lv st n h :=
  fun p e R s m args below meth c H locs ls cells slots C P L V hk hj => lv_aload C.ex C.bt hdg (kx_l_at V hl) (kk p e R s m args below meth c H locs ls cells slots C P L V hk hj)
theorem kx_astore_n {f : Fin 4} {i : Nat} {x : Nat} {lv' : List (Nat × Value)} (hdg : decode I.2.1 pc = .ok (.astore_n f, 1)) (hf : (f : Nat) = i) (hn : i < I.2.2.1) (hl : (i, Value.ref x) :: lv.filter (fun q => !(q.1 == i) && !(q.1 + 1 == i && q.2.category == 2)) = lv') (kk : kx_V E I d mc ms Q k j (pc + 1) lv' st n h) : kx_V E I d mc ms Q k j pc lv (.ref x :: st) n h := by
  subst hl
  intro p e R s m args below meth c H locs ls cells slots C P L V hk hj
  exact lv_astore_n C.ex C.bt hdg hf V hn (kx_l_st1 E lv i (.ref x)) (fun ls' V' => kk p e R s m args below meth c H locs ls' cells slots C P L V' hk hj)
theorem kx_astore {i : Nat} {x : Nat} {lv' : List (Nat × Value)} (hdg : decode I.2.1 pc = .ok (.astore i, 2)) (hn : i < I.2.2.1) (hl : (i, Value.ref x) :: lv.filter (fun q => !(q.1 == i) && !(q.1 + 1 == i && q.2.category == 2)) = lv') (kk : kx_V E I d mc ms Q k j (pc + 2) lv' st n h) : kx_V E I d mc ms Q k j pc lv (.ref x :: st) n h := by
  subst hl
  intro p e R s m args below meth c H locs ls cells slots C P L V hk hj
  exact lv_astore C.ex C.bt hdg V hn (kx_l_st1 E lv i (.ref x)) (fun ls' V' => kk p e R s m args below meth c H locs ls' cells slots C P L V' hk hj)
theorem kx_iinc {i : Nat} {a : Int} {x y : Int32} {lv' : List (Nat × Value)} (hdg : decode I.2.1 pc = .ok (.iinc i a, 3)) (hx : kx_lk lv i = some (.int x)) (hy : x + Int32.ofInt a = y) (hn : i < I.2.2.1) (hl : (i, Value.int y) :: lv.filter (fun q => !(q.1 == i) && !(q.1 + 1 == i && q.2.category == 2)) = lv') (kk : kx_V E I d mc ms Q k j (pc + 3) lv' st n h) : kx_V E I d mc ms Q k j pc lv st n h := by
  subst hl
  intro p e R s m args below meth c H locs ls cells slots C P L V hk hj
  obtain ⟨k0, hk0⟩ := List.getElem?_of_mem (List.mem_map.mpr ⟨(i, Value.int x), kx_lk_mem hx, rfl⟩ : (i, kx_v (kx_B E) (.int x)) ∈ kx_l E lv)
  exact lv_iinc C.ex C.bt hdg V hk0 hy hn (kx_l_st1 E lv i (.int y)) (fun ls' V' => kk p e R s m args below meth c H locs ls' cells slots C P L V' hk hj)
theorem kx_iadd {x y : Int32} (hdg : decode I.2.1 pc = .ok (.iadd, 1)) (kk : kx_V E I d mc ms Q k j (pc + 1) lv (.int (x + y) :: st) n h) : kx_V E I d mc ms Q k j pc lv (.int y :: .int x :: st) n h :=
  fun p e R s m args below meth c H locs ls cells slots C P L V hk hj => lv_iadd C.ex C.bt hdg (kk p e R s m args below meth c H locs ls cells slots C P L V hk hj)
theorem kx_isub {x y : Int32} (hdg : decode I.2.1 pc = .ok (.isub, 1)) (kk : kx_V E I d mc ms Q k j (pc + 1) lv (.int (x - y) :: st) n h) : kx_V E I d mc ms Q k j pc lv (.int y :: .int x :: st) n h :=
  fun p e R s m args below meth c H locs ls cells slots C P L V hk hj => lv_isub C.ex C.bt hdg (kk p e R s m args below meth c H locs ls cells slots C P L V hk hj)
theorem kx_imul {x y : Int32} (hdg : decode I.2.1 pc = .ok (.imul, 1)) (kk : kx_V E I d mc ms Q k j (pc + 1) lv (.int (x * y) :: st) n h) : kx_V E I d mc ms Q k j pc lv (.int y :: .int x :: st) n h :=
  fun p e R s m args below meth c H locs ls cells slots C P L V hk hj => lv_imul C.ex C.bt hdg (kk p e R s m args below meth c H locs ls cells slots C P L V hk hj)
theorem kx_iand {x y : Int32} (hdg : decode I.2.1 pc = .ok (.iand, 1)) (kk : kx_V E I d mc ms Q k j (pc + 1) lv (.int (x &&& y) :: st) n h) : kx_V E I d mc ms Q k j pc lv (.int y :: .int x :: st) n h :=
  fun p e R s m args below meth c H locs ls cells slots C P L V hk hj => lv_iand C.ex C.bt hdg (kk p e R s m args below meth c H locs ls cells slots C P L V hk hj)
theorem kx_ior {x y : Int32} (hdg : decode I.2.1 pc = .ok (.ior, 1)) (kk : kx_V E I d mc ms Q k j (pc + 1) lv (.int (x ||| y) :: st) n h) : kx_V E I d mc ms Q k j pc lv (.int y :: .int x :: st) n h :=
  fun p e R s m args below meth c H locs ls cells slots C P L V hk hj => lv_ior C.ex C.bt hdg (kk p e R s m args below meth c H locs ls cells slots C P L V hk hj)
theorem kx_ixor {x y : Int32} (hdg : decode I.2.1 pc = .ok (.ixor, 1)) (kk : kx_V E I d mc ms Q k j (pc + 1) lv (.int (x ^^^ y) :: st) n h) : kx_V E I d mc ms Q k j pc lv (.int y :: .int x :: st) n h :=
  fun p e R s m args below meth c H locs ls cells slots C P L V hk hj => lv_ixor C.ex C.bt hdg (kk p e R s m args below meth c H locs ls cells slots C P L V hk hj)
theorem kx_ishl {x y : Int32} (hdg : decode I.2.1 pc = .ok (.ishl, 1)) (kk : kx_V E I d mc ms Q k j (pc + 1) lv (.int (x <<< (y &&& 31)) :: st) n h) : kx_V E I d mc ms Q k j pc lv (.int y :: .int x :: st) n h :=
  fun p e R s m args below meth c H locs ls cells slots C P L V hk hj => lv_ishl C.ex C.bt hdg (kk p e R s m args below meth c H locs ls cells slots C P L V hk hj)
theorem kx_ishr {x y : Int32} (hdg : decode I.2.1 pc = .ok (.ishr, 1)) (kk : kx_V E I d mc ms Q k j (pc + 1) lv (.int (x >>> (y &&& 31)) :: st) n h) : kx_V E I d mc ms Q k j pc lv (.int y :: .int x :: st) n h :=
  fun p e R s m args below meth c H locs ls cells slots C P L V hk hj => lv_ishr C.ex C.bt hdg (kk p e R s m args below meth c H locs ls cells slots C P L V hk hj)
theorem kx_ladd {x y : Int64} (hdg : decode I.2.1 pc = .ok (.ladd, 1)) (kk : kx_V E I d mc ms Q k j (pc + 1) lv (.long (x + y) :: st) n h) : kx_V E I d mc ms Q k j pc lv (.long y :: .long x :: st) n h :=
  fun p e R s m args below meth c H locs ls cells slots C P L V hk hj => lv_ladd C.ex C.bt hdg (kk p e R s m args below meth c H locs ls cells slots C P L V hk hj)
theorem kx_lsub {x y : Int64} (hdg : decode I.2.1 pc = .ok (.lsub, 1)) (kk : kx_V E I d mc ms Q k j (pc + 1) lv (.long (x - y) :: st) n h) : kx_V E I d mc ms Q k j pc lv (.long y :: .long x :: st) n h :=
  fun p e R s m args below meth c H locs ls cells slots C P L V hk hj => lv_lsub C.ex C.bt hdg (kk p e R s m args below meth c H locs ls cells slots C P L V hk hj)
theorem kx_land {x y : Int64} (hdg : decode I.2.1 pc = .ok (.land, 1)) (kk : kx_V E I d mc ms Q k j (pc + 1) lv (.long (x &&& y) :: st) n h) : kx_V E I d mc ms Q k j pc lv (.long y :: .long x :: st) n h :=
  fun p e R s m args below meth c H locs ls cells slots C P L V hk hj => lv_land C.ex C.bt hdg (kk p e R s m args below meth c H locs ls cells slots C P L V hk hj)
theorem kx_lor {x y : Int64} (hdg : decode I.2.1 pc = .ok (.lor, 1)) (kk : kx_V E I d mc ms Q k j (pc + 1) lv (.long (x ||| y) :: st) n h) : kx_V E I d mc ms Q k j pc lv (.long y :: .long x :: st) n h :=
  fun p e R s m args below meth c H locs ls cells slots C P L V hk hj => lv_lor C.ex C.bt hdg (kk p e R s m args below meth c H locs ls cells slots C P L V hk hj)
theorem kx_lrem {x y : Int64} (hdg : decode I.2.1 pc = .ok (.lrem, 1)) (hy : ¬ y = 0) (kk : kx_V E I d mc ms Q k j (pc + 1) lv (.long (x - x / y * y) :: st) n h) : kx_V E I d mc ms Q k j pc lv (.long y :: .long x :: st) n h :=
  fun p e R s m args below meth c H locs ls cells slots C P L V hk hj => lv_lrem C.ex C.bt hdg hy (kk p e R s m args below meth c H locs ls cells slots C P L V hk hj)
theorem kx_i2l {x : Int32} (hdg : decode I.2.1 pc = .ok (.i2l, 1)) (kk : kx_V E I d mc ms Q k j (pc + 1) lv (.long x.toInt64 :: st) n h) : kx_V E I d mc ms Q k j pc lv (.int x :: st) n h :=
  fun p e R s m args below meth c H locs ls cells slots C P L V hk hj => lv_i2l C.ex C.bt hdg rfl (kk p e R s m args below meth c H locs ls cells slots C P L V hk hj)
theorem kx_l2i {x : Int64} (hdg : decode I.2.1 pc = .ok (.l2i, 1)) (kk : kx_V E I d mc ms Q k j (pc + 1) lv (.int x.toInt32 :: st) n h) : kx_V E I d mc ms Q k j pc lv (.long x :: st) n h :=
  fun p e R s m args below meth c H locs ls cells slots C P L V hk hj => lv_l2i C.ex C.bt hdg rfl (kk p e R s m args below meth c H locs ls cells slots C P L V hk hj)
theorem kx_lshl {x : Int64} {y : Int32} (hdg : decode I.2.1 pc = .ok (.lshl, 1)) (kk : kx_V E I d mc ms Q k j (pc + 1) lv (.long (x <<< (y.toInt64 &&& 63)) :: st) n h) : kx_V E I d mc ms Q k j pc lv (.int y :: .long x :: st) n h :=
  fun p e R s m args below meth c H locs ls cells slots C P L V hk hj => lv_lshl C.ex C.bt hdg rfl (kk p e R s m args below meth c H locs ls cells slots C P L V hk hj)
theorem kx_lcmp {x y : Int64} (hdg : decode I.2.1 pc = .ok (.lcmp, 1)) (kk : kx_V E I d mc ms Q k j (pc + 1) lv (.int (lg_cmp x y) :: st) n h) : kx_V E I d mc ms Q k j pc lv (.long y :: .long x :: st) n h :=
  fun p e R s m args below meth c H locs ls cells slots C P L V hk hj => W.lcmp C.ex C.bt hdg (kk p e R s m args below meth c H locs ls cells slots C P L V hk hj)
theorem kx_dup {v : Value} (hdg : decode I.2.1 pc = .ok (.dup, 1)) (hv : v.category = 1) (kk : kx_V E I d mc ms Q k j (pc + 1) lv (v :: v :: st) n h) : kx_V E I d mc ms Q k j pc lv (v :: st) n h :=
  fun p e R s m args below meth c H locs ls cells slots C P L V hk hj => lv_dup C.ex C.bt hdg ((kx_v_cat _ v).trans hv) (kk p e R s m args below meth c H locs ls cells slots C P L V hk hj)
theorem kx_pop {v : Value} (hdg : decode I.2.1 pc = .ok (.pop, 1)) (hv : v.category = 1) (kk : kx_V E I d mc ms Q k j (pc + 1) lv st n h) : kx_V E I d mc ms Q k j pc lv (v :: st) n h :=
  fun p e R s m args below meth c H locs ls cells slots C P L V hk hj => lv_pop C.ex C.bt hdg ((kx_v_cat _ v).trans hv) (kk p e R s m args below meth c H locs ls cells slots C P L V hk hj)
theorem kx_dup_x1 {v w : Value} (hdg : decode I.2.1 pc = .ok (.dup_x1, 1)) (hv : v.category = 1) (hw : w.category = 1) (kk : kx_V E I d mc ms Q k j (pc + 1) lv (v :: w :: v :: st) n h) : kx_V E I d mc ms Q k j pc lv (v :: w :: st) n h :=
  fun p e R s m args below meth c H locs ls cells slots C P L V hk hj => lv_dup_x1 C.ex C.bt hdg ((kx_v_cat _ v).trans hv) ((kx_v_cat _ w).trans hw) (kk p e R s m args below meth c H locs ls cells slots C P L V hk hj)
theorem kx_dup2 {v w : Value} (hdg : decode I.2.1 pc = .ok (.dup2, 1)) (hv : v.category = 1) (hw : w.category = 1) (kk : kx_V E I d mc ms Q k j (pc + 1) lv (v :: w :: v :: w :: st) n h) : kx_V E I d mc ms Q k j pc lv (v :: w :: st) n h :=
  fun p e R s m args below meth c H locs ls cells slots C P L V hk hj => lv_dup2_11 C.ex C.bt hdg ((kx_v_cat _ v).trans hv) ((kx_v_cat _ w).trans hw) (kk p e R s m args below meth c H locs ls cells slots C P L V hk hj)
theorem kx_if_eq {x : Int32} {off : Int} {tgt : Nat} (hdg : decode I.2.1 pc = .ok (.ifCond .eq off, 3)) (ht : (pc : Int) + off = (tgt : Int)) (kt : x = 0 → kx_V E I d mc ms Q k j tgt lv st n h) (kf : ¬ x = 0 → kx_V E I d mc ms Q k j (pc + 3) lv st n h) : kx_V E I d mc ms Q k j pc lv (.int x :: st) n h :=
  fun p e R s m args below meth c H locs ls cells slots C P L V hk hj => lv_if_eq C.ex C.bt hdg ht (fun q => kt q p e R s m args below meth c H locs ls cells slots C P L V hk hj) (fun q => kf q p e R s m args below meth c H locs ls cells slots C P L V hk hj)
theorem kx_icmp_eq {x y : Int32} {off : Int} {tgt : Nat} (hdg : decode I.2.1 pc = .ok (.if_icmp .eq off, 3)) (ht : (pc : Int) + off = (tgt : Int)) (kt : x = y → kx_V E I d mc ms Q k j tgt lv st n h) (kf : ¬ x = y → kx_V E I d mc ms Q k j (pc + 3) lv st n h) : kx_V E I d mc ms Q k j pc lv (.int y :: .int x :: st) n h :=
  fun p e R s m args below meth c H locs ls cells slots C P L V hk hj => lv_icmp_eq C.ex C.bt hdg ht (fun q => kt q p e R s m args below meth c H locs ls cells slots C P L V hk hj) (fun q => kf q p e R s m args below meth c H locs ls cells slots C P L V hk hj)
theorem kx_if_ne {x : Int32} {off : Int} {tgt : Nat} (hdg : decode I.2.1 pc = .ok (.ifCond .ne off, 3)) (ht : (pc : Int) + off = (tgt : Int)) (kt : ¬ x = 0 → kx_V E I d mc ms Q k j tgt lv st n h) (kf : x = 0 → kx_V E I d mc ms Q k j (pc + 3) lv st n h) : kx_V E I d mc ms Q k j pc lv (.int x :: st) n h :=
  fun p e R s m args below meth c H locs ls cells slots C P L V hk hj => lv_if_ne C.ex C.bt hdg ht (fun q => kt q p e R s m args below meth c H locs ls cells slots C P L V hk hj) (fun q => kf q p e R s m args below meth c H locs ls cells slots C P L V hk hj)
theorem kx_icmp_ne {x y : Int32} {off : Int} {tgt : Nat} (hdg : decode I.2.1 pc = .ok (.if_icmp .ne off, 3)) (ht : (pc : Int) + off = (tgt : Int)) (kt : ¬ x = y → kx_V E I d mc ms Q k j tgt lv st n h) (kf : x = y → kx_V E I d mc ms Q k j (pc + 3) lv st n h) : kx_V E I d mc ms Q k j pc lv (.int y :: .int x :: st) n h :=
  fun p e R s m args below meth c H locs ls cells slots C P L V hk hj => lv_icmp_ne C.ex C.bt hdg ht (fun q => kt q p e R s m args below meth c H locs ls cells slots C P L V hk hj) (fun q => kf q p e R s m args below meth c H locs ls cells slots C P L V hk hj)
theorem kx_if_lt {x : Int32} {off : Int} {tgt : Nat} (hdg : decode I.2.1 pc = .ok (.ifCond .lt off, 3)) (ht : (pc : Int) + off = (tgt : Int)) (kt : x < 0 → kx_V E I d mc ms Q k j tgt lv st n h) (kf : ¬ x < 0 → kx_V E I d mc ms Q k j (pc + 3) lv st n h) : kx_V E I d mc ms Q k j pc lv (.int x :: st) n h :=
  fun p e R s m args below meth c H locs ls cells slots C P L V hk hj => lv_if_lt C.ex C.bt hdg ht (fun q => kt q p e R s m args below meth c H locs ls cells slots C P L V hk hj) (fun q => kf q p e R s m args below meth c H locs ls cells slots C P L V hk hj)
theorem kx_icmp_lt {x y : Int32} {off : Int} {tgt : Nat} (hdg : decode I.2.1 pc = .ok (.if_icmp .lt off, 3)) (ht : (pc : Int) + off = (tgt : Int)) (kt : x < y → kx_V E I d mc ms Q k j tgt lv st n h) (kf : ¬ x < y → kx_V E I d mc ms Q k j (pc + 3) lv st n h) : kx_V E I d mc ms Q k j pc lv (.int y :: .int x :: st) n h :=
  fun p e R s m args below meth c H locs ls cells slots C P L V hk hj => lv_icmp_lt C.ex C.bt hdg ht (fun q => kt q p e R s m args below meth c H locs ls cells slots C P L V hk hj) (fun q => kf q p e R s m args below meth c H locs ls cells slots C P L V hk hj)
theorem kx_if_ge {x : Int32} {off : Int} {tgt : Nat} (hdg : decode I.2.1 pc = .ok (.ifCond .ge off, 3)) (ht : (pc : Int) + off = (tgt : Int)) (kt : 0 ≤ x → kx_V E I d mc ms Q k j tgt lv st n h) (kf : ¬ 0 ≤ x → kx_V E I d mc ms Q k j (pc + 3) lv st n h) : kx_V E I d mc ms Q k j pc lv (.int x :: st) n h :=
  fun p e R s m args below meth c H locs ls cells slots C P L V hk hj => lv_if_ge C.ex C.bt hdg ht (fun q => kt q p e R s m args below meth c H locs ls cells slots C P L V hk hj) (fun q => kf q p e R s m args below meth c H locs ls cells slots C P L V hk hj)
theorem kx_icmp_ge {x y : Int32} {off : Int} {tgt : Nat} (hdg : decode I.2.1 pc = .ok (.if_icmp .ge off, 3)) (ht : (pc : Int) + off = (tgt : Int)) (kt : y ≤ x → kx_V E I d mc ms Q k j tgt lv st n h) (kf : ¬ y ≤ x → kx_V E I d mc ms Q k j (pc + 3) lv st n h) : kx_V E I d mc ms Q k j pc lv (.int y :: .int x :: st) n h :=
  fun p e R s m args below meth c H locs ls cells slots C P L V hk hj => lv_icmp_ge C.ex C.bt hdg ht (fun q => kt q p e R s m args below meth c H locs ls cells slots C P L V hk hj) (fun q => kf q p e R s m args below meth c H locs ls cells slots C P L V hk hj)
theorem kx_if_gt {x : Int32} {off : Int} {tgt : Nat} (hdg : decode I.2.1 pc = .ok (.ifCond .gt off, 3)) (ht : (pc : Int) + off = (tgt : Int)) (kt : 0 < x → kx_V E I d mc ms Q k j tgt lv st n h) (kf : ¬ 0 < x → kx_V E I d mc ms Q k j (pc + 3) lv st n h) : kx_V E I d mc ms Q k j pc lv (.int x :: st) n h :=
  fun p e R s m args below meth c H locs ls cells slots C P L V hk hj => lv_if_gt C.ex C.bt hdg ht (fun q => kt q p e R s m args below meth c H locs ls cells slots C P L V hk hj) (fun q => kf q p e R s m args below meth c H locs ls cells slots C P L V hk hj)
theorem kx_icmp_gt {x y : Int32} {off : Int} {tgt : Nat} (hdg : decode I.2.1 pc = .ok (.if_icmp .gt off, 3)) (ht : (pc : Int) + off = (tgt : Int)) (kt : y < x → kx_V E I d mc ms Q k j tgt lv st n h) (kf : ¬ y < x → kx_V E I d mc ms Q k j (pc + 3) lv st n h) : kx_V E I d mc ms Q k j pc lv (.int y :: .int x :: st) n h :=
  fun p e R s m args below meth c H locs ls cells slots C P L V hk hj => lv_icmp_gt C.ex C.bt hdg ht (fun q => kt q p e R s m args below meth c H locs ls cells slots C P L V hk hj) (fun q => kf q p e R s m args below meth c H locs ls cells slots C P L V hk hj)
theorem kx_if_le {x : Int32} {off : Int} {tgt : Nat} (hdg : decode I.2.1 pc = .ok (.ifCond .le off, 3)) (ht : (pc : Int) + off = (tgt : Int)) (kt : x ≤ 0 → kx_V E I d mc ms Q k j tgt lv st n h) (kf : ¬ x ≤ 0 → kx_V E I d mc ms Q k j (pc + 3) lv st n h) : kx_V E I d mc ms Q k j pc lv (.int x :: st) n h :=
  fun p e R s m args below meth c H locs ls cells slots C P L V hk hj => lv_if_le C.ex C.bt hdg ht (fun q => kt q p e R s m args below meth c H locs ls cells slots C P L V hk hj) (fun q => kf q p e R s m args below meth c H locs ls cells slots C P L V hk hj)
theorem kx_icmp_le {x y : Int32} {off : Int} {tgt : Nat} (hdg : decode I.2.1 pc = .ok (.if_icmp .le off, 3)) (ht : (pc : Int) + off = (tgt : Int)) (kt : x ≤ y → kx_V E I d mc ms Q k j tgt lv st n h) (kf : ¬ x ≤ y → kx_V E I d mc ms Q k j (pc + 3) lv st n h) : kx_V E I d mc ms Q k j pc lv (.int y :: .int x :: st) n h :=
  fun p e R s m args below meth c H locs ls cells slots C P L V hk hj => lv_icmp_le C.ex C.bt hdg ht (fun q => kt q p e R s m args below meth c H locs ls cells slots C P L V hk hj) (fun q => kf q p e R s m args below meth c H locs ls cells slots C P L V hk hj)
theorem kx_goto {off : Int} {tgt : Nat} (hdg : decode I.2.1 pc = .ok (.goto off, 3)) (ht : (pc : Int) + off = (tgt : Int)) (kk : kx_V E I d mc ms Q k j tgt lv st n h) : kx_V E I d mc ms Q k j pc lv st n h :=
  fun p e R s m args below meth c H locs ls cells slots C P L V hk hj => lv_goto C.ex C.bt hdg ht (kk p e R s m args below meth c H locs ls cells slots C P L V hk hj)
theorem kx_tsIn {dflt lo hi : Int} {offs : Array Int} {len : Nat} {x : Int32} {off : Int} {tgt : Nat} (hdg : decode I.2.1 pc = .ok (.tableswitch dflt lo hi offs, len)) (h1 : ¬ x.toInt < lo) (h2 : ¬ hi < x.toInt) (ho : offs[(x.toInt - lo).toNat]? = some off) (ht : (pc : Int) + off = (tgt : Int)) (kk : kx_V E I d mc ms Q k j tgt lv st n h) : kx_V E I d mc ms Q k j pc lv (.int x :: st) n h :=
  fun p e R s m args below meth c H locs ls cells slots C P L V hk hj => lv_tableIn C.ex C.bt hdg h1 h2 ho ht (kk p e R s m args below meth c H locs ls cells slots C P L V hk hj)
theorem kx_tsOut {dflt lo hi : Int} {offs : Array Int} {len : Nat} {x : Int32} {tgt : Nat} (hdg : decode I.2.1 pc = .ok (.tableswitch dflt lo hi offs, len)) (h1 : x.toInt < lo ∨ hi < x.toInt) (ht : (pc : Int) + dflt = (tgt : Int)) (kk : kx_V E I d mc ms Q k j tgt lv st n h) : kx_V E I d mc ms Q k j pc lv (.int x :: st) n h :=
  fun p e R s m args below meth c H locs ls cells slots C P L V hk hj => lv_tableOut C.ex C.bt hdg h1 ht (kk p e R s m args below meth c H locs ls cells slots C P L V hk hj)
theorem kx_lsw {dflt : Int} {ps : Array (Int × Int)} {len : Nat} {x : Int32} {off : Int} {tgt : Nat} (hdg : decode I.2.1 pc = .ok (.lookupswitch dflt ps, len)) (hp : (ps.toList.zip (ps.toList.drop 1)).all (fun (a, next) => a.1 < next.1) = true) (ho : Op.lookupswitch.offset ps.toList dflt x.toInt = off) (ht : (pc : Int) + off = (tgt : Int)) (kk : kx_V E I d mc ms Q k j tgt lv st n h) : kx_V E I d mc ms Q k j pc lv (.int x :: st) n h :=
  fun p e R s m args below meth c H locs ls cells slots C P L V hk hj => lv_lookup C.ex C.bt hdg hp ho ht (kk p e R s m args below meth c H locs ls cells slots C P L V hk hj)
theorem kx_topi {x : Int32} (kk : ∀ y : Int32, y = x → kx_V E I d mc ms Q k j pc lv (.int y :: st) n h) : kx_V E I d mc ms Q k j pc lv (.int x :: st) n h := kk x rfl
theorem kx_topl {x : Int64} (kk : ∀ y : Int64, y = x → kx_V E I d mc ms Q k j pc lv (.long y :: st) n h) : kx_V E I d mc ms Q k j pc lv (.long x :: st) n h := kk x rfl
theorem kx_eqi {x y : Int32} (e : x = y) (kk : kx_V E I d mc ms Q k j pc lv (.int y :: st) n h) : kx_V E I d mc ms Q k j pc lv (.int x :: st) n h := e ▸ kk
theorem kx_eql {x y : Int64} (e : x = y) (kk : kx_V E I d mc ms Q k j pc lv (.long y :: st) n h) : kx_V E I d mc ms Q k j pc lv (.long x :: st) n h := e ▸ kk
theorem kx_eqh {h' : kx_H} (e : h = h') (kk : kx_V E I d mc ms Q k j pc lv st n h') : kx_V E I d mc ms Q k j pc lv st n h := e ▸ kk
theorem kx_eqpc {pc' : Nat} (e : pc = pc') (kk : kx_V E I d mc ms Q k j pc' lv st n h) : kx_V E I d mc ms Q k j pc lv st n h := e ▸ kk
theorem kx_sub (ks : List Nat) {lv' : List (Nat × Value)} (hl : lv_pick lv ks = lv') (kk : kx_V E I d mc ms Q k j pc lv' st n h) : kx_V E I d mc ms Q k j pc lv st n h := by
  intro p e R s m args below meth c H locs ls cells slots C P L V hk hj
  refine kk p e R s m args below meth c H locs ls cells slots C P L ⟨V.1, V.2.1, fun q hq => ?_⟩ hk hj
  obtain ⟨q0, h0, rfl⟩ := List.mem_map.mp hq
  rw [← hl] at h0
  obtain ⟨i, -, hi⟩ := List.mem_filterMap.mp h0
  exact V.2.2 _ (List.mem_map.mpr ⟨q0, List.mem_of_getElem? hi, rfl⟩)
theorem kx_more {k' j' : Nat} (h1 : k' ≤ k) (h2 : j' ≤ j) (kk : kx_V E I d mc ms Q k' j' pc lv st n h) : kx_V E I d mc ms Q k j pc lv st n h :=
  fun p e R s m args below meth c H locs ls cells slots C P L V hk hj => kk p e R s m args below meth c H locs ls cells slots C P L V (by omega) (by omega)
theorem kx_iret {x : Int32} (hr : I.2.2.2.1 = some .int) (hdg : decode I.2.1 pc = .ok (.ireturn, 1)) (hq : Q (Sum.inl (some (.int x))) n h) : kx_V E I d mc ms Q k j pc lv [.int x] n h := by
  intro p e R s m args below meth c H locs ls cells slots C P L V hk hj
  refine W.widen (k := mc) (n := ms) (by omega) (by omega) ?_
  refine kx_W_mono ?_ (W.iret (v := x) (Qc := fun _ _ o t => o = .returned (some (.int x)) ∧ t.heap = H) (free := fun q => kx_B E ≤ q) C.ex C.bt (C.rt.trans hr) (fun t ht hW => ⟨rfl, ht⟩) L hdg (hlocks := C.lk))
  rintro t ⟨o, h1, h2, ⟨h3, h4⟩, L', ⟨-, hW, hs⟩, hf⟩
  exact ⟨o, h1, h2, hW, ⟨L', hs, hf⟩, Sum.inl (some (.int x)), n, h, by rw [h4]; exact P, h3, hq⟩
theorem kx_lret {x : Int64} (hr : I.2.2.2.1 = some .long) (hdg : decode I.2.1 pc = .ok (.lreturn, 1)) (hq : Q (Sum.inl (some (.long x))) n h) : kx_V E I d mc ms Q k j pc lv [.long x] n h := by
  intro p e R s m args below meth c H locs ls cells slots C P L V hk hj
  refine W.widen (k := mc) (n := ms) (by omega) (by omega) ?_
  refine kx_W_mono ?_ (W.lret (v := x) (Qc := fun _ _ o t => o = .returned (some (.long x)) ∧ t.heap = H) (free := fun q => kx_B E ≤ q) C.ex C.bt (C.rt.trans hr) (fun t ht hW => ⟨rfl, ht⟩) L hdg (hlocks := C.lk))
  rintro t ⟨o, h1, h2, ⟨h3, h4⟩, L', ⟨-, hW, hs⟩, hf⟩
  exact ⟨o, h1, h2, hW, ⟨L', hs, hf⟩, Sum.inl (some (.long x)), n, h, by rw [h4]; exact P, h3, hq⟩
theorem kx_zret {x : Int32} (hr : I.2.2.2.1 = some .boolean) (hx : narrow .boolean (.int x) = .int x) (hdg : decode I.2.1 pc = .ok (.ireturn, 1)) (hq : Q (Sum.inl (some (.int x))) n h) : kx_V E I d mc ms Q k j pc lv [.int x] n h := by
  intro p e R s m args below meth c H locs ls cells slots C P L V hk hj
  refine W.widen (k := mc) (n := ms) (by omega) (by omega) ?_
  refine kx_W_mono ?_ (W.zret (v := x) (Qc := fun _ _ o t => o = .returned (some (.int x)) ∧ t.heap = H) (free := fun q => kx_B E ≤ q) C.ex C.bt (C.rt.trans hr) hx (fun t ht hW => ⟨rfl, ht⟩) L hdg (hlocks := C.lk))
  rintro t ⟨o, h1, h2, ⟨h3, h4⟩, L', ⟨-, hW, hs⟩, hf⟩
  exact ⟨o, h1, h2, hW, ⟨L', hs, hf⟩, Sum.inl (some (.int x)), n, h, by rw [h4]; exact P, h3, hq⟩
theorem kx_vret (hr : I.2.2.2.1 = none) (hdg : decode I.2.1 pc = .ok (.return_, 1)) (hq : Q (Sum.inl none) n h) : kx_V E I d mc ms Q k j pc lv [] n h := by
  intro p e R s m args below meth c H locs ls cells slots C P L V hk hj
  refine W.widen (k := mc) (n := ms) (by omega) (by omega) ?_
  refine kx_W_mono ?_ (W.vret (Qc := fun _ _ o t => o = .returned none ∧ t.heap = H) (free := fun q => kx_B E ≤ q) C.ex C.bt (C.rt.trans hr) (fun t ht hW => ⟨rfl, ht⟩) L hdg (hlocks := C.lk))
  rintro t ⟨o, h1, h2, ⟨h3, h4⟩, L', ⟨-, hW, hs⟩, hf⟩
  exact ⟨o, h1, h2, hW, ⟨L', hs, hf⟩, Sum.inl none, n, h, by rw [h4]; exact P, h3, hq⟩
end KXR
def kx_fl (own : String) (index ci kf : Nat) : Prop := ∃ (C : String) (T : u_T) (N : Nat), kx_cls[ci]? = some (C, T, N) ∧ kf < N ∧ (∀ w ∈ u_ws C T N, w ∈ kx_tb) ∧ Cond.fieldLink own index (T kf).1 (T kf).2.1 (T kf).2.2.1 ∈ kx_tb
def kx_fw (own nm : String) (ci kf : Nat) (ty : FieldType) : Prop := ∃ (C : String) (T : u_T) (N : Nat) (ty0 : Nat → FieldType), kx_cls[ci]? = some (C, T, N) ∧ parseFieldDescriptor (T kf).2.2.1 = some ty ∧ (∀ k, k < N → parseFieldDescriptor (T k).2.2.1 = some (ty0 k)) ∧ (∀ a, a < N → ∀ b, b < N → a ≠ b → (T a).2.1 ≠ (T b).2.1) ∧ ((T kf).2.2.2 = false ∨ ((T kf).2.2.2 = true ∧ nm = "<init>" ∧ (T kf).1 = own))
theorem kx_getD (B : Nat) (fs : List Value) (k : Nat) : (fs.map (kx_v B)).getD k .null = kx_v B (fs.getD k .null) := by
  simp only [List.getD_eq_getElem?_getD, List.getElem?_map]
  cases fs[k]? <;> rfl
theorem kx_P1 {E : kx_E} {n : Nat} {h : kx_H} {H : Heap} (P : kx_P E n h H) {i ci : Nat} {fs : List Value} (hi : h i = some (kx_co ci fs)) : va_P E.2.2.1 kx_cls [(kx_B E + i, Sum.inr (ci, kx_s E fs))] H := by
  intro k q hk
  have hz : k < 1 := (List.getElem?_eq_some_iff.mp hk).1
  rw [show k = 0 by omega] at hk
  cases hk
  obtain ⟨r, h1, h2⟩ := P.2.2.2 i _ hi
  exact ⟨r, h1, h2.to (fun k _ => (kx_getD _ fs k).symm)⟩
theorem kx_recv {E : kx_E} {I : kx_I} {d mc ms : Nat} {p : Program} {e : Env} {R : Room} {s : State} {m : MethodId} {args : Array Value} {meth : Method} {c : Code} (C : kx_C E I d mc ms p e R s m args meth c) {n : Nat} {h : kx_H} {H : Heap} (P : kx_P E n h H) {i ci : Nat} {fs : List Value} (hi : h i = some (kx_co ci fs)) {q : vw_C} (hc : kx_cls[ci]? = some q) :
    ∃ cell : Cell, H[kx_B E + i]? = some cell ∧ cell.vm.isStatics = false ∧ s.vm.findClass q.1 = some cell.cls := va_recv C.k (kx_P1 P hi) hc (q0 := 0) rfl
def kx_ix (x : Int32) (i N : Nat) : Prop := x = nI i ∧ i < N ∧ N < 2 ^ 31
theorem kx_ix.cl {x : Int32} {i N : Nat} (h : kx_ix x i N) : x.toNatClampNeg = i := by
  rw [h.1]; exact nI_clamp (by have := h.2.1; have := h.2.2; omega)
theorem kx_ix.ok {x : Int32} {i N : Nat} (h : kx_ix x i N) : ¬ (x < 0 ∨ N ≤ x.toNatClampNeg) := by
  rw [h.1]; exact nI_in h.2.1 h.2.2
section KXD
variable {E : kx_E} {I : kx_I} {d mc ms : Nat} {Q : kx_Q} {k j pc : Nat} {lv : List (Nat × Value)} {st : List Value} {n : Nat} {h : kx_H}
theorem kx_get {index i ci kf : Nat} {fs : List Value} {v : Value} (hdg : decode I.2.1 pc = .ok (.getfield index, 3)) (hf : kx_fl I.1 index ci kf) (hi : h i = some (kx_co ci fs)) (hv : fs[kf]? = some v)
    (kk : kx_V E I d mc ms Q k j (pc + 3) lv (v :: st) n h) : kx_V E I d mc ms Q k j pc lv (.ref i :: st) n h := by
  intro p e R s m args below meth c H locs ls cells slots C P L V hk hj
  obtain ⟨C', T, N, hc, hkN, hin, hlink⟩ := hf
  exact va_get (C := C') (T := T) (N := N) (ci := ci) (v := kx_v (kx_B E) v) (Ts := kx_tb) C.ex C.bt (fun w hw => C.w hw) hin C.own C.k (kx_P1 P hi) 0 rfl hc kf hkN (C.w hlink) (fun _ q => q) (by rw [List.getElem?_map, hv]; rfl) hdg
    (kk p e R s m args below meth c H locs ls cells slots C P L V hk hj)
theorem kx_put {index i ci kf : Nat} {fs : List Value} {v : Value} {ty : FieldType} (hdg : decode I.2.1 pc = .ok (.putfield index, 3)) (hf : kx_fl I.1 index ci kf) (hw : kx_fw I.1 I.2.2.2.2.2 ci kf ty) (hi : h i = some (kx_co ci fs)) (hn : ∀ B, narrow ty (kx_v B v) = kx_v B v) (hfit : ∀ B, fits ty (kx_v B v) = true) (hl : kf < fs.length)
    (kk : kx_V E I d mc ms Q k j (pc + 3) lv st n (kx_set h i (kx_co ci (fs.set kf v)))) : kx_V E I d mc ms Q k j pc lv (v :: .ref i :: st) n h := by
  intro p e R s m args below meth c H locs ls cells slots C P L V hk hj
  obtain ⟨C', T, N, hc, hkN, hin, hlink⟩ := hf
  obtain ⟨C2, T2, N2, ty0, hc2, hd, hty, hnm, hfin⟩ := hw
  cases hc.symm.trans hc2
  obtain ⟨r, h1, cell, q1, q2, q3, q4⟩ := P.2.2.2 i _ hi
  have hr : r = (C', T, N) := Option.some.inj (h1.symm.trans hc)
  subst hr
  have hap := va_apart (own := I.1) (Ts := kx_tb) (fun w hw => C.w hw) hin ty0 hty hnm C.k hc
  obtain ⟨hS, hfc, kC, hkC, hkind⟩ := C.k.1 ci _ hc
  obtain ⟨cf, kf', fi, f, hif, hsl⟩ := hS kf hkN
  have hlay := C.w (hin _ (u_in_lay hkN))
  have hst := (u_facts hfc hkC (u_lays (ws := kx_tb) (fun w hw => C.w hw) hin hkN) hif).1
  have hbig : ∀ (H' : Heap), H'[kx_B E + i]? = some (cell.setSlot f.slot (kx_v (kx_B E) v)) → H'.size = H.size → (∀ q, q ≠ kx_B E + i → H'[q]? = H[q]?) → W p E.1 e R s m args below meth c H' (locs ++ [⟨kx_B E + i, f.slot⟩]) cells slots (kx_Z E mc ms Q below s) (F0 m (pc + 3) ls (kx_s E st)) := by
    intro H' e1 e2 e3
    refine kk p e R s m args below meth c H' _ ls cells slots C (P.set e2 e3 ⟨_, hc, t_OB.to (V := updV (fun k => kx_v (kx_B E) (fs.getD k .null)) kf (kx_v (kx_B E) v)) ⟨_, e1, q2, q3, ?_⟩ (fun z _ => ?_)⟩) (fun q hq => ?_) V hk hj
    · rw [hsl]
      exact t_set q4 hap hkN (kx_v (kx_B E) v)
    · simp only [updV]
      by_cases hz : z = kf
      · subst hz
        rw [if_pos rfl, List.getD_eq_getElem?_getD, List.getElem?_set_self hl]
        rfl
      · rw [if_neg hz]
        congr 1
        rw [List.getD_eq_getElem?_getD, List.getD_eq_getElem?_getD, List.getElem?_set_ne (Ne.symm hz)]
    · rcases List.mem_append.mp hq with g | g
      · exact L q g
      · rw [List.mem_singleton.mp g]
        exact Nat.le_add_right _ _
  rcases hfin with hfin | ⟨hfin, hini, hdecl⟩
  · unfold u_lay at hlay
    rw [if_neg (by rw [hfin]; decide)] at hlay
    have h6 := u_store hfc hkC hkind hlay hif hd (hn (kx_B E)) (hfit (kx_B E))
    exact W.putK C.ex C.bt (f := f) ⟨C.own, C.w hlink, ⟨_, _, _, hif⟩, hst⟩ (by rw [q2]; exact h6) q1 q3 (by rw [hsl]; exact k2_hasslot (q4 kf hkN)) rfl rfl hdg hbig
  · unfold u_lay at hlay
    rw [if_pos hfin] at hlay
    have hcf : m.cls = cf := by
      obtain ⟨_, _, c', _, _, _, -, -, hf', -, -, -, hown2, -⟩ := Cond.laysFinal_spec hlay
      have e1 : c' = cf := by have := hif.symm.trans hf'; simp at this; exact this.1.symm
      rw [hdecl] at hown2
      rw [← e1]; exact Option.some.inj (C.own.symm.trans hown2)
    have h6 := u_fits hfc hkC hkind (Or.inr hlay) hif hd (hn (kx_B E)) (hfit (kx_B E))
    exact W.putFinK C.ex C.bt C.own (C.w hlink) hif hst hcf (C.nm.trans hini) (by rw [q2]; exact h6) q1 q3 (by rw [hsl]; exact k2_hasslot (q4 kf hkN)) rfl rfl hdg hbig
theorem kx_iald {i N ix : Nat} {f : Nat → Int32} {x : Int32} (hdg : decode I.2.1 pc = .ok (.iaload, 1)) (hi : h i = some (kx_ci N f)) (hx : kx_ix x ix N)
    (kk : kx_V E I d mc ms Q k j (pc + 1) lv (.int (f ix) :: st) n h) : kx_V E I d mc ms Q k j pc lv (.int x :: .ref i :: st) n h := by
  intro p e R s m args below meth c H locs ls cells slots C P L V hk hj
  exact W.iald (v := .int (f ix)) C.ex C.bt (P.2.2.2 i _ hi) ((C.k.2 0 _ rfl).1 N (fun j => .int (f j))) (fun q => by cases q) (by rw [arrV_size]; exact hx.ok) (by rw [hx.cl, arrV_read _ _ hx.2.1]) rfl rfl hdg
    (kk p e R s m args below meth c H locs ls cells slots C P L V hk hj)
theorem kx_lald {i N ix : Nat} {f : Nat → Int64} {x : Int32} (hdg : decode I.2.1 pc = .ok (.laload, 1)) (hi : h i = some (kx_cl N f)) (hx : kx_ix x ix N)
    (kk : kx_V E I d mc ms Q k j (pc + 1) lv (.long (f ix) :: st) n h) : kx_V E I d mc ms Q k j pc lv (.int x :: .ref i :: st) n h := by
  intro p e R s m args below meth c H locs ls cells slots C P L V hk hj
  exact W.lald (v := .long (f ix)) C.ex C.bt (P.2.2.2 i _ hi) ((C.k.2 1 _ rfl).1 N (fun j => .long (f j))) (fun q => by cases q) (by rw [arrV_size]; exact hx.ok) (by rw [hx.cl, arrV_read _ _ hx.2.1]) rfl rfl hdg
    (kk p e R s m args below meth c H locs ls cells slots C P L V hk hj)
theorem kx_aald {i t N ix b : Nat} {f : Nat → Option Nat} {x : Int32} (hdg : decode I.2.1 pc = .ok (.aaload, 1)) (ht : ∃ Cn, ∀ aC, (kx_tys aC)[2 + t]? = some (aC (2 + t), .object Cn)) (hi : h i = some (kx_cq t N f)) (hx : kx_ix x ix N) (hf : f ix = some b)
    (kk : kx_V E I d mc ms Q k j (pc + 1) lv (.ref b :: st) n h) : kx_V E I d mc ms Q k j pc lv (.int x :: .ref i :: st) n h := by
  intro p e R s m args below meth c H locs ls cells slots C P L V hk hj
  obtain ⟨Cn, ht⟩ := ht
  exact W.aald (v := .ref (kx_B E + b)) (ty := .object Cn) C.ex C.bt (P.2.2.2 i _ hi) ((C.k.2 (2 + t) _ (ht E.2.2.2)).1 N (fun j => kx_rf (kx_B E) (f j))) rfl (fun q => by cases q) (by rw [arrV_size]; exact hx.ok) (by rw [hx.cl, arrV_read _ _ hx.2.1]; show some (kx_rf (kx_B E) (f ix)) = _; rw [hf]; rfl) rfl rfl hdg
    (kk p e R s m args below meth c H locs ls cells slots C P L V hk hj)
theorem kx_locs {E : kx_E} {locs : List Loc} {a z : Nat} (L : ∀ q ∈ locs, kx_B E ≤ q.base) : ∀ q ∈ locs ++ [(⟨kx_B E + a, z⟩ : Loc)], kx_B E ≤ q.base := by
  intro q hq
  rcases List.mem_append.mp hq with g | g
  · exact L q g
  · rw [List.mem_singleton.mp g]
    exact Nat.le_add_right _ _
theorem kx_iast {i N ix : Nat} {f : Nat → Int32} {x y : Int32} (hdg : decode I.2.1 pc = .ok (.iastore, 1)) (hi : h i = some (kx_ci N f)) (hx : kx_ix x ix N)
    (kk : kx_V E I d mc ms Q k j (pc + 1) lv st n (kx_set h i (kx_ci N (upd f ix y)))) : kx_V E I d mc ms Q k j pc lv (.int y :: .int x :: .ref i :: st) n h := by
  intro p e R s m args below meth c H locs ls cells slots C P L V hk hj
  refine W.iast C.ex C.bt (P.2.2.2 i _ hi) ((C.k.2 0 _ rfl).1 N (fun j => .int (f j))) (fun q => by cases q) (by rw [arrV_size]; exact hx.ok) rfl rfl hdg fun H1 e z oq => ?_
  refine kk p _ R s m args below meth c H1 _ ls cells slots C (P.set z oq ?_) (kx_locs L) V hk hj
  show H1[_]? = some (arrV _ _ _)
  rw [e, arrV_store, hx.cl]
  congr 2
  funext q
  by_cases hq : q = ix
  · subst hq
    simp [updV, upd]
  · simp [updV, upd, hq]
theorem kx_last {i N ix : Nat} {f : Nat → Int64} {x : Int32} {y : Int64} (hdg : decode I.2.1 pc = .ok (.lastore, 1)) (hi : h i = some (kx_cl N f)) (hx : kx_ix x ix N)
    (kk : kx_V E I d mc ms Q k j (pc + 1) lv st n (kx_set h i (kx_cl N (vp_updL f ix y)))) : kx_V E I d mc ms Q k j pc lv (.long y :: .int x :: .ref i :: st) n h := by
  intro p e R s m args below meth c H locs ls cells slots C P L V hk hj
  refine W.last C.ex C.bt (P.2.2.2 i _ hi) ((C.k.2 1 _ rfl).1 N (fun j => .long (f j))) (fun q => by cases q) (by rw [arrV_size]; exact hx.ok) rfl rfl hdg fun H1 e z oq => ?_
  refine kk p _ R s m args below meth c H1 _ ls cells slots C (P.set z oq ?_) (kx_locs L) V hk hj
  show H1[_]? = some (arrV _ _ _)
  rw [e, arrV_store, hx.cl]
  congr 2
  funext q
  by_cases hq : q = ix
  · subst hq
    simp [updV, vp_updL]
  · simp [updV, vp_updL, hq]
theorem kx_aast {i t N ix b ci : Nat} {f : Nat → Option Nat} {x : Int32} {fs : List Value} (hdg : decode I.2.1 pc = .ok (.aastore, 1)) (ht : ∃ r : vw_C, kx_cls[ci]? = some r ∧ ∀ aC, (kx_tys aC)[2 + t]? = some (aC (2 + t), .object r.1)) (hi : h i = some (kx_cq t N f)) (hb : h b = some (kx_co ci fs)) (hx : kx_ix x ix N)
    (kk : kx_V E I d mc ms Q k j (pc + 1) lv st n (kx_set h i (kx_cq t N (va_up f ix (some b))))) : kx_V E I d mc ms Q k j pc lv (.ref b :: .int x :: .ref i :: st) n h := by
  intro p e R s m args below meth c H locs ls cells slots C P L V hk hj
  obtain ⟨r, hc, ht⟩ := ht
  obtain ⟨r', h1, cellV, g1, g2, g3, -⟩ := P.2.2.2 b _ hb
  have hcls := (C.k.1 ci r hc).2
  obtain ⟨kA, comp, k1, k2, k3, -⟩ := (C.k.2 (2 + t) _ (ht E.2.2.2)).2
  have hcomp : comp = E.2.2.1.1 ci := Option.some.inj (k3.symm.trans hcls.1)
  subst hcomp
  obtain ⟨kC, hkC, -⟩ := hcls.2
  refine W.aast C.ex C.bt (P.2.2.2 i _ hi) (fun q h => by cases h) (fun h => by cases h) k1 k2 rfl hkC ⟨fun q => hx.ok (Or.inl q), by rw [arrV_size, hx.cl]; exact hx.2.1⟩ g1 (fun q h => by rw [g3] at h; cases h) (by rw [g2]; exact hkC) (by rw [g2]; exact va_assign hcls) rfl rfl hdg fun H1 e z oq => ?_
  refine kk p _ R s m args below meth c H1 _ ls cells slots C (P.set z oq ?_) (kx_locs L) V hk hj
  show H1[_]? = some (arrV _ _ _)
  rw [e, arrV_store, hx.cl]
  congr 2
  funext q
  by_cases hq : q = ix
  · subst hq
    simp [updV, va_up, kx_rf]
  · simp [updV, va_up, hq]
theorem kx_alen {i N : Nat} {f : Nat → Int32} (hdg : decode I.2.1 pc = .ok (.arraylength, 1)) (hi : h i = some (kx_ci N f))
    (kk : kx_V E I d mc ms Q k j (pc + 1) lv (.int (nI N) :: st) n h) : kx_V E I d mc ms Q k j pc lv (.ref i :: st) n h := by
  intro p e R s m args below meth c H locs ls cells slots C P L V hk hj
  exact W.alen (n := nI N) C.ex C.bt (P.2.2.2 i _ hi) ((C.k.2 0 _ rfl).1 N (fun j => .int (f j))) (by rw [arrV_size]; rfl) rfl rfl hdg
    (kk p e R s m args below meth c H locs ls cells slots C P L V hk hj)
def kx_nw (own : String) (index ci N : Nat) (fs : List Value) : Prop := ∃ (C : String) (T : u_T) (ty : Nat → FieldType), kx_cls[ci]? = some (C, T, N) ∧ (∀ w ∈ u_ws C T N, w ∈ kx_tb) ∧ (∀ k, k < N → parseFieldDescriptor (T k).2.2.1 = some (ty k)) ∧ Cond.classLink own index C ∈ kx_tb ∧ Cond.instantiable C N ∈ kx_tb ∧ Cond.initialized C ∈ kx_tb ∧ (∀ (B : Nat) (z : Nat), z < N → defaultValue (ty z) = kx_v B (fs.getD z .null))
theorem kx_new {index ci N : Nat} {fs : List Value} (hdg : decode I.2.1 pc = .ok (.new index, 3)) (hw : kx_nw I.1 index ci N fs)
    (kk : kx_V E I d mc ms Q k j (pc + 3) lv (.ref n :: st) (n + 1) (kx_set h n (kx_co ci fs))) : kx_V E I d mc ms Q (k + 1) (j + N) pc lv st n h := by
  intro p e R s m args below meth c H locs ls cells slots C P L V hk hj
  obtain ⟨C', T, ty, hc, hin, hty, w1, w2, w3, hfs⟩ := hw
  have hKn := C.k.1 ci _ hc
  have hsz : H.size = kx_B E + n := P.1
  refine W.newcK C.ex C.bt C.own (C.w w1) (C.w w2) (C.w w3) rfl hdg (by rw [C.rc]; omega) (by rw [C.rs]; omega) hKn.2.1 hsz fun H1 kC hkC e1 z1 o1 => ?_
  refine kk p _ R s m args below meth c H1 locs ls (cells + 1) (slots + N) C (P.push (by rw [z1, hsz]) (fun q hq => o1 q (by omega)) ⟨_, hc, (u_born (ws := kx_tb) ty (fun w hw => C.w hw) hin hKn hkC e1 hty).to (fun z hz => hfs _ z hz)⟩) L V (by omega) (by omega)
theorem kx_newi {N : Nat} {x : Int32} (hdg : decode I.2.1 pc = .ok (.newarray .int, 2)) (hw : Cond.arrayClass .int ∈ kx_tb) (hx : x = nI N) (hN : N ≤ 100000)
    (kk : kx_V E I d mc ms Q k j (pc + 2) lv (.ref n :: st) (n + 1) (kx_set h n (kx_ci N (fun _ => 0)))) : kx_V E I d mc ms Q (k + 1) (j + N) pc lv (.int x :: st) n h := by
  intro p e R s m args below meth c H locs ls cells slots C P L V hk hj
  subst hx
  have hsz : H.size = kx_B E + n := P.1
  refine va_newaK (atype := .int) C.ex C.bt (C.w hw) rfl hdg rfl (nI_pos (by omega)) (nI_clamp (by omega)) (by show N * 4 ≤ _; omega) (by rw [C.rc]; omega) (by rw [C.rs]; omega) hsz fun H1 cA e1 z1 o1 hA hnm => ?_
  have hcA : cA = E.2.2.2 0 := Option.some.inj (hnm.symm.trans (C.k.2 0 _ rfl).2)
  subst hcA
  exact kk p _ R s m args below meth c H1 locs ls (cells + 1) (slots + N) C (P.push (by rw [z1, hsz]) (fun q hq => o1 q (by omega)) e1) L V (by omega) (by omega)
theorem kx_newl {N : Nat} {x : Int32} (hdg : decode I.2.1 pc = .ok (.newarray .long, 2)) (hw : Cond.arrayClass .long ∈ kx_tb) (hx : x = nI N) (hN : N ≤ 100000)
    (kk : kx_V E I d mc ms Q k j (pc + 2) lv (.ref n :: st) (n + 1) (kx_set h n (kx_cl N (fun _ => 0)))) : kx_V E I d mc ms Q (k + 1) (j + N) pc lv (.int x :: st) n h := by
  intro p e R s m args below meth c H locs ls cells slots C P L V hk hj
  subst hx
  have hsz : H.size = kx_B E + n := P.1
  refine va_newaK (atype := .long) C.ex C.bt (C.w hw) rfl hdg rfl (nI_pos (by omega)) (nI_clamp (by omega)) (by show N * 8 ≤ _; omega) (by rw [C.rc]; omega) (by rw [C.rs]; omega) hsz fun H1 cA e1 z1 o1 hA hnm => ?_
  have hcA : cA = E.2.2.2 1 := Option.some.inj (hnm.symm.trans (C.k.2 1 _ rfl).2)
  subst hcA
  exact kk p _ R s m args below meth c H1 locs ls (cells + 1) (slots + N) C (P.push (by rw [z1, hsz]) (fun q hq => o1 q (by omega)) e1) L V (by omega) (by omega)
theorem kx_newq {index t N : Nat} {x : Int32} {Cn : String} (hdg : decode I.2.1 pc = .ok (.anewarray index, 3)) (h1 : Cond.classLink I.1 index Cn ∈ kx_tb) (h2 : Cond.arrayOver (.object Cn) ∈ kx_tb) (ht : ∀ aC, (kx_tys aC)[2 + t]? = some (aC (2 + t), .object Cn)) (hx : x = nI N) (hN : N ≤ 100000)
    (kk : kx_V E I d mc ms Q k j (pc + 3) lv (.ref n :: st) (n + 1) (kx_set h n (kx_cq t N (fun _ => none)))) : kx_V E I d mc ms Q (k + 1) (j + N) pc lv (.int x :: st) n h := by
  intro p e R s m args below meth c H locs ls cells slots C P L V hk hj
  subst hx
  have hsz : H.size = kx_B E + n := P.1
  have hcl : (nI N).toNatClampNeg = N := nI_clamp (by omega)
  refine W.anew C.ex C.bt C.own (C.w h1) (C.w h2) rfl hdg rfl (nI_pos (by omega)) (by rw [hcl]; omega) (by rw [C.rc]; omega) (by rw [C.rs, hcl]; omega) fun cA kA comp f1 f2 f3 f4 => ?_
  obtain ⟨kA', comp', k1, k2, k3, k4⟩ := (C.k.2 (2 + t) _ (ht E.2.2.2)).2
  have hcA : cA = E.2.2.2 (2 + t) := Option.some.inj (f1.symm.trans k4)
  subst hcA
  rw [hsz, hcl]
  refine kk p _ R s m args below meth c _ locs ls (cells + 1) (slots + N) C (P.push (by simp) (fun q hq => ?_) ?_) L V (by omega) (by omega)
  · rw [Array.getElem?_push, if_neg (Nat.ne_of_lt hq)]
  · show (H.push _)[kx_B E + n]? = some (arrV _ _ _)
    rw [← hsz, Array.getElem?_push_size]
    show some _ = some (arrV (E.2.2.2 (2 + t)) N (fun _ => Value.null))
    rw [← arrV_new]
theorem kx_obj {index i : Nat} (hdg : decode I.2.1 pc = .ok (.invokespecial index, 3)) (h1 : Cond.methodLink I.1 index Lib.objectInit ∈ kx_tb) (h2 : Cond.instanceMethod Lib.objectInit ∈ kx_tb) (h3 : Cond.code Lib.objectInit ⟨#[0xb1]⟩ 1 none ∈ kx_tb) (hd : 1 ≤ d) (hs : (st.map fun v => v.category).sum ≤ 8)
    (kk : kx_V E I d mc ms Q k j (pc + 3) lv st n h) : kx_V E I d mc ms Q k j pc lv (.ref i :: st) n h := by
  intro p e R s m args below meth c H locs ls cells slots C P L V hk hj
  have hc : ((List.map (kx_v (kx_B E)) st).map fun v => v.category).sum = _ := kx_s_cat E st
  have hl := C.lc
  have hf := C.fr
  exact W.objInit C.ex C.bt C.own (C.w h1) (C.w h2) (C.w h3) rfl (V.1.trans C.ml.symm) rfl hdg (by omega) (by show 2 * 0 + ((List.map (kx_v (kx_B E)) st).map fun v => v.category).sum + 12 ≤ _; omega)
    (kk p e R s m args below meth c H locs ls cells slots C P L V hk hj)
end KXD
end
section
def kx_kw (kw : Cond) (y : MethodName) (I : kx_I) : Prop := ∀ (a : Array Value) (U : State) (m : MethodId), kw.before a U = true → U.methodNamed? y = some m →
  ∃ meth c, U.vm.method? m = some meth ∧ meth.code = some c ∧ c.code = I.2.1 ∧ c.maxLocals = I.2.2.1 ∧ meth.sig.returnType = I.2.2.2.1 ∧ meth.locks = false ∧ c.exceptionTable.toList.map (fun x => (x.startPc, x.endPc, x.handlerPc, x.catchType)) = I.2.2.2.2.1 ∧ parseMethodDescriptor y.desc = some meth.sig
theorem kx_kw0 {y : MethodName} {own nm : String} {cc : ByteArray} {nL : Nat} {rt : Option FieldType} : kx_kw (.code y cc nL rt) y (own, cc, nL, rt, [], nm) := by
  intro a U m h hn
  obtain ⟨meth, c, h1, h2, h3, h4, h5, h6, h7, h8⟩ := Cond.code_spec hn h
  exact ⟨meth, c, h1, h2, h3, h4, h5, h6, by rw [Array.isEmpty_iff.mp h7]; rfl, h8⟩
theorem kx_kwH {y : MethodName} {own nm : String} {cc : ByteArray} {nL : Nat} {rt : Option FieldType} {hs : List (Nat × Nat × Nat × Nat)} : kx_kw (.codeWith y cc nL rt hs) y (own, cc, nL, rt, hs, nm) := by
  intro a U m h hn
  obtain ⟨m', meth, c, h0, h1, h2, h3, h4, h5, h6, h7, h8⟩ := Cond.codeWith_spec h
  cases hn.symm.trans h0
  exact ⟨meth, c, h1, h2, h3, h4, h6, h7, h5, h8⟩
def kx_Go (E : kx_E) (p : Program) (e : Env) (below : List Frame) (T T' : State) (g : JFrame) (len : Nat) (mk : MethodId) (av : Array Value) (r : Option Value ⊕ String) : Prop := match r with
  | Sum.inl v => ∀ acts, Steps p.tables e below (doInvoke e (T.setTop g) acts mk av).1 (T'.setTop { g with pc := g.pc + len, stack := (v.map (kx_v (kx_B E))).toList ++ g.stack })
  | Sum.inr X => ∃ (a : Addr) (ce : Cell), T'.heap[a]? = some ce ∧ ce.vm.isStatics = false ∧ E.2.1.vm.findClass X = some ce.cls ∧ ∀ acts, Steps p.tables e below (doInvoke e (T.setTop g) acts mk av).1 ((T'.setTop g).pushFrame (.throwing a))
theorem kx_heapTop (T : State) (g : JFrame) : (T.setTop g).heap = T.heap := by simp [State.setTop, State.modifyTopJava]
theorem kx_heapPush (T : State) (f : Frame) : (T.pushFrame f).heap = T.heap := by simp [State.pushFrame, State.setFrames]
section KXE
variable {E : kx_E} {I : kx_I} {d mc ms : Nat} {Q : kx_Q} {k j pc : Nat} {lv : List (Nat × Value)} {st : List Value} {n : Nat} {h : kx_H}
variable {p : Program} {e : Env} {R : Room} {s : State} {m : MethodId} {args : Array Value} {below : List Frame} {meth : Method} {c : Code} {T : State} {locs : List Loc} {cells slots : Nat}
theorem kx_run (X : Stand p E.1 e R s m args below meth c T locs cells slots) (C : kx_C E I d mc ms p e R s m args meth c)
    {g : JFrame} (hg : g.method = m) (hsize : g.locals.size = c.maxLocals) {ig : Instr} {len : Nat} (hdg : decode c.code g.pc = .ok (ig, len)) (hst : 2 * g.monitorRoom + (g.stack.map fun v => v.category).sum ≤ 8)
    {y : MethodName} {I' : kx_I} {kw : Cond} (hkw : kx_kw kw y I') (hkin : kw ∈ kx_tb) (hpl : plainName y.cls = true) (hI1 : I'.1 = y.cls) (hI2 : I'.2.2.2.2.2 = y.name) {mk : MethodId} (hn : T.methodNamed? y = some mk)
    {as : List Value} (P : kx_P E n h T.heap) {Q' : kx_Q} {d' mc' ms' : Nat} (hV : kx_V E I' d' mc' ms' Q' mc' ms' 0 (lv_args 0 as) [] n h) (hfit : (lg_sl as).length ≤ I'.2.2.1)
    (hd : d' + 1 ≤ d) (hL : I'.2.2.1 ≤ 17) (hc : cells + mc' ≤ mc) (hs : slots + ms' ≤ ms) :
    ∃ (r : Option Value ⊕ String) (n' : Nat) (h' : kx_H) (L : List Loc) (T' : State), Stand p E.1 e R s m args below meth c T' (locs ++ L) (cells + mc') (slots + ms') ∧ (∀ q ∈ L, kx_B E ≤ q.base) ∧ kx_P E n' h' T'.heap ∧ Q' r n' h' ∧ kx_Go E p e below T T' g len mk (kx_s E as).toArray r := by
  obtain ⟨methk, ck, hmk, hck, hcode, hml, hret, hlk, htb, hsig⟩ := hkw #[] T mk (kx_word C.g hkin #[] (State.WarmedH.trans C.wm X.warmed)) hn
  have hpk : T.plainMethod mk := State.plainMethod.of_name (fun k hk => by
    obtain ⟨k', hk', hnm⟩ := className_of_methodNamed hn
    cases hk.symm.trans hk'
    rw [hnm]; exact hpl)
  have hfr := C.fr
  have hlc := C.lc
  obtain ⟨Y, hin⟩ := X.into hg hsize hdg (kx_s E as).toArray (R' := { frames := d', cells := mc', slots := ms', locals := 36 * d' }) hmk hck hlk hpk (by show d' + 1 ≤ R.frames; omega) (by show _ + _ + (ck.maxLocals + 11) + 36 * d' ≤ R.locals; rw [hml]; omega) (by show cells + mc' ≤ R.cells; rw [C.rc]; exact hc) (by show slots + ms' ≤ R.slots; rw [C.rs]; exact hs)
  have hvm : (T.calling g mk (kx_s E as).toArray).vm = T.vm := by rw [State.calling_eq X.here.top]; rfl
  have hhp : (T.calling g mk (kx_s E as).toArray).heap = T.heap := by rw [State.calling_eq X.here.top]; rfl
  have C' : kx_C E I' d' mc' ms' p e { frames := d', cells := mc', slots := ms', locals := 36 * d' } (T.calling g mk (kx_s E as).toArray) mk (kx_s E as).toArray methk ck :=
    ⟨⟨C.g, C.ex, hcode, hml⟩, ⟨hret, hlk, by rw [hvm, hI1]; exact findClass_of_methodNamed hn, by rw [hvm]; exact State.WarmedH.trans C.wm X.warmed⟩, ⟨by rw [hhp]; exact P.2.1, htb, by rw [hI2]; exact (name_of_methodNamed hn hmk).1⟩, Nat.le_refl _, Nat.le_refl _, rfl, rfl⟩
  have hl := lv_entry (kx_s E as) (n := I'.2.2.1) (by rw [kx_sl]; exact hfit)
  rw [kx_args] at hl
  have w := hV p e _ _ mk _ (.java g :: below) methk ck T.heap [] _ 0 0 C' P (fun q hq => by cases hq) hl (by omega) (by omega)
  obtain ⟨t, hsteps, o, hrun, hend, hW, ⟨L, hsame, hLB⟩, r, n', h', P', hO, hq⟩ := w _ (by rw [kx_heapPush, kx_heapTop]) Y
  rw [hml, lg_entry_eq] at hsteps
  have hin' : ∀ acts, Steps p.tables e below (doInvoke e (T.setTop g) acts mk (kx_s E as).toArray).1 t := by
    intro acts
    rw [hin acts, hml, lg_entry_eq]
    exact kx_up (mid := [.java g]) hsteps
  cases r with
  | inl v =>
    have ho : o = .returned (v.map (kx_v (kx_B E))) := hO
    subst ho
    obtain ⟨T', X', -, -, ht⟩ := X.outOf hg hdg hend hW hsame
    refine ⟨Sum.inl v, n', h', L, T', X', hLB, ?_, hq, fun acts => ?_⟩
    · rw [ht, kx_heapTop] at P'
      exact P'
    · rw [← ht]
      exact hin' acts
  | inr Xc =>
    obtain ⟨a, ce, ho, hce, hns, hfc⟩ := hO
    subst ho
    obtain ⟨T', X', -, -, ht⟩ := X.outOfThrown hg hend hW hsame
    rw [ht, kx_heapPush, kx_heapTop] at P' hce
    refine ⟨Sum.inr Xc, n', h', L, T', X', hLB, P', hq, a, ce, hce, hns, hfc, fun acts => ?_⟩
    rw [← ht]
    exact hin' acts
theorem kx_after {H : Heap} {ls : Array Slot} {g' : JFrame} {vm₁ : Vm} (C : kx_C E I d mc ms p e R s m args meth c) (L0 : ∀ q ∈ locs, kx_B E ≤ q.base) (V : lv_has ls I.2.2.1 (kx_l E lv))
    {r : Option Value ⊕ String} {n' : Nat} {h' : kx_H} {L : List Loc} {T' : State} {mc' ms' : Nat} {mk : MethodId} {av : Array Value} (hk : cells + (k + mc') ≤ mc) (hj : slots + (j + ms') ≤ ms)
    (X' : Stand p E.1 e R s m args below meth c T' (locs ++ L) (cells + mc') (slots + ms')) (hLB : ∀ q ∈ L, kx_B E ≤ q.base) (P' : kx_P E n' h' T'.heap)
    (hstep : ∀ target, (∀ acts, Steps p.tables e below (doInvoke e ((T.setVm vm₁).setTop (F0 m pc ls (kx_s E st))) acts mk av).1 target) → Steps p.tables e below (T.setTop g') target)
    (hgo : kx_Go E p e below (T.setVm vm₁) T' (F0 m pc ls (kx_s E st)) 3 mk av r)
    (kk : ∀ v, r = Sum.inl v → kx_V E I d mc ms Q k j (pc + 3) lv (v.toList ++ st) n' h') (kx : ∀ Xc, r = Sum.inr Xc → kx_X E I d mc ms Q k j pc lv Xc n' h') :
    ∃ t, Steps p.tables e below (T.setTop g') t ∧ kx_Z E mc ms Q below s t := by
  have LL : ∀ q ∈ locs ++ L, kx_B E ≤ q.base := fun q hq => by
    rcases List.mem_append.mp hq with g | g
    · exact L0 q g
    · exact hLB q g
  cases r with
  | inl v =>
    obtain ⟨t, a1, b1⟩ := kk v rfl p e R s m args below meth c T'.heap _ ls _ _ C P' LL V (by omega) (by omega) T' rfl X'
    refine ⟨t, hstep t (fun acts => (hgo acts).trans ?_), b1⟩
    have e1 : kx_s E (v.toList ++ st) = (v.map (kx_v (kx_B E))).toList ++ kx_s E st := by cases v <;> rfl
    rw [e1] at a1
    exact a1
  | inr Xc =>
    obtain ⟨a, ce, hce, hns, hfc, hgo⟩ := hgo
    obtain ⟨t, a1, b1⟩ := kx Xc rfl p e R s m args below meth c T'.heap _ ls _ _ C P' LL V (by omega) (by omega) (kx_s E st) a ce hce hns hfc T' rfl X'
    exact ⟨t, hstep t (fun acts => (hgo acts).trans a1), b1⟩
def kx_wS (own : String) (index : Nat) (y : MethodName) (kw : Cond) (I' : kx_I) (na : Nat) : Prop :=
  kx_kw kw y I' ∧ kw ∈ kx_tb ∧ Cond.methodLink own index y ∈ kx_tb ∧ Cond.static y ∈ kx_tb ∧ Cond.initialized y.cls ∈ kx_tb ∧ plainName y.cls = true ∧ (y.cls ≠ "java/lang/invoke/MethodHandle" ∧ y.cls ≠ "java/lang/invoke/VarHandle") ∧ (parseMethodDescriptor y.desc).map (fun q => q.parameters.length) = some na ∧ I'.1 = y.cls ∧ I'.2.2.2.2.2 = y.name ∧ I'.2.2.1 ≤ 17
theorem kx_cat8 {m : MethodId} {ls : Array Slot} (h : (st.map fun v => v.category).sum ≤ 8) : 2 * (F0 m pc ls (kx_s E st)).monitorRoom + ((F0 m pc ls (kx_s E st)).stack.map fun v => v.category).sum ≤ 8 := by
  show 2 * 0 + ((kx_s E st).map fun v => v.category).sum ≤ 8
  rw [kx_s_cat]
  omega
theorem kx_invS {index : Nat} {y : MethodName} {kw : Cond} {I' : kx_I} {na : Nat} {as stk : List Value} {Q' : kx_Q} {d' mc' ms' : Nat} (hdg : decode I.2.1 pc = .ok (.invokestatic index, 3)) (hw : kx_wS I.1 index y kw I' na) (hV : kx_V E I' d' mc' ms' Q' mc' ms' 0 (lv_args 0 as) [] n h) (hs : stk = as.reverse ++ st) (hna : as.length = na) (hfit : (lg_sl as).length ≤ I'.2.2.1) (hd : d' + 1 ≤ d) (hcat : (st.map fun v => v.category).sum ≤ 8)
    (kk : ∀ v n' h', Q' (Sum.inl v) n' h' → kx_V E I d mc ms Q k j (pc + 3) lv (v.toList ++ st) n' h') (kx : ∀ Xc n' h', Q' (Sum.inr Xc) n' h' → kx_X E I d mc ms Q k j pc lv Xc n' h') : kx_V E I d mc ms Q (k + mc') (j + ms') pc lv stk n h := by
  intro p e R s m args below meth c H locs ls cells slots C P L V hk hj T hT X
  subst hs
  obtain ⟨hkw, w0, w1, w2, w3, hpl, hy, hpa, hI1, hI2, hnL⟩ := hw
  have hnamed0 := C.w w2
  obtain ⟨mk, methM, hnamed, hmethM⟩ : ∃ mk methM, s.methodNamed? y = some mk ∧ s.vm.method? mk = some methM := by
    cases hq : s.methodNamed? y with
    | none => simp [Cond.before, Cond.holds, Cond.value, hq] at hnamed0
    | some mk =>
      obtain ⟨methM, c0, g1, -⟩ := hkw args s mk (C.w w0) hq
      exact ⟨mk, methM, rfl, g1⟩
  have hstatic : methM.isStatic = true := Cond.static_spec hnamed hmethM hnamed0
  obtain ⟨kP, hkP, -⟩ := className_of_methodNamed hnamed
  have hinitP : kP.init = .initialized := Cond.initialized_spec (findClass_of_methodNamed hnamed) hkP (C.w w3)
  obtain ⟨methM', c0, g1, -, -, -, -, -, -, hsig⟩ := hkw args s mk (C.w w0) hnamed
  cases hmethM.symm.trans g1
  have hlen : (kx_s E as).length = methM.sig.parameters.length := by
    rw [hsig] at hpa
    rw [List.length_map, hna]
    exact (Option.some.inj hpa).symm
  obtain ⟨vm₁, X₁, hstep⟩ := X.invokestatic C.ex C.own (C.w w1) hnamed hmethM hstatic hkP hinitP hy (g := F0 m pc ls (kx_s E (as.reverse ++ st))) rfl (argsL := kx_s E as) (rest := kx_s E st) hlen (by show kx_s E (as.reverse ++ st) = _; simp [kx_s, List.map_reverse]) (by rw [C.bt]; exact hdg)
  obtain ⟨r, n', h', L', T', X', hLB, P', hq, hgo⟩ := kx_run X₁ C (g := F0 m pc ls (kx_s E st)) rfl (V.1.trans C.ml.symm) (by rw [C.bt]; exact hdg) (kx_cat8 hcat) hkw w0 hpl hI1 hI2 (X₁.named hnamed) (by rw [← hT] at P; exact P) hV hfit hd hnL (by omega) (by omega)
  exact kx_after (vm₁ := vm₁) (H := H) C L V hk hj X' hLB P' hstep hgo (fun v hv => kk v n' h' (hv ▸ hq)) (fun Xc hX => kx Xc n' h' (hX ▸ hq))
def kx_wV (own : String) (index ci : Nat) (y : MethodName) (kw : Cond) (I' : kx_I) (na : Nat) : Prop :=
  kx_kw kw y I' ∧ kw ∈ kx_tb ∧ Cond.methodLink own index y ∈ kx_tb ∧ Cond.instanceMethod y ∈ kx_tb ∧ (∃ q : vw_C, kx_cls[ci]? = some q ∧ q.1 = y.cls) ∧ Cond.selects y.cls y y ∈ kx_tb ∧ plainName y.cls = true ∧ (y.cls ≠ "java/lang/invoke/MethodHandle" ∧ y.cls ≠ "java/lang/invoke/VarHandle") ∧ (parseMethodDescriptor y.desc).map (fun q => q.parameters.length) = some na ∧ I'.1 = y.cls ∧ I'.2.2.2.2.2 = y.name ∧ I'.2.2.1 ≤ 17
theorem kx_invV {index ci b : Nat} {y : MethodName} {kw : Cond} {I' : kx_I} {na : Nat} {fs as stk : List Value} {Q' : kx_Q} {d' mc' ms' : Nat} (hdg : decode I.2.1 pc = .ok (.invokevirtual index, 3)) (hw : kx_wV I.1 index ci y kw I' na) (hb : h b = some (kx_co ci fs)) (hV : kx_V E I' d' mc' ms' Q' mc' ms' 0 (lv_args 0 (.ref b :: as)) [] n h) (hs : stk = as.reverse ++ .ref b :: st) (hna : as.length = na) (hfit : (lg_sl (.ref b :: as)).length ≤ I'.2.2.1) (hd : d' + 1 ≤ d) (hcat : (st.map fun v => v.category).sum ≤ 8)
    (kk : ∀ v n' h', Q' (Sum.inl v) n' h' → kx_V E I d mc ms Q k j (pc + 3) lv (v.toList ++ st) n' h') (kx : ∀ Xc n' h', Q' (Sum.inr Xc) n' h' → kx_X E I d mc ms Q k j pc lv Xc n' h') : kx_V E I d mc ms Q (k + mc') (j + ms') pc lv stk n h := by
  intro p e R s m args below meth c H locs ls cells slots C P L V hk hj T hT X
  subst hs
  obtain ⟨hkw, w0, w1, w2, ⟨q, hq, hqc⟩, w4, hpl, hy, hpa, hI1, hI2, hnL⟩ := hw
  obtain ⟨mk, methM, hnamed, hmethM, hstM, habM⟩ := Cond.instanceMethod_spec (C.w w2)
  obtain ⟨methM', c0, g1, -, -, -, -, -, -, hsig⟩ := hkw args s mk (C.w w0) hnamed
  cases hmethM.symm.trans g1
  obtain ⟨c2, r2, m2, q1, q2, q3, q4, kP, hkP, hkPi⟩ := Cond.selects_spec (C.w w4)
  obtain ⟨cellB, hcB, hoB, hclB⟩ := kx_recv C P hb hq
  rw [hqc] at hclB
  cases hclB.symm.trans q1
  cases (State.methodFound?_of_named hnamed hy).symm.trans q2
  cases hnamed.symm.trans q3
  have hselP : selectMethod e.platform s.vm cellB.cls mk = .method mk := by rw [Launch.admits_selectMethod X.admits]; exact q4
  have hlen : (kx_s E as).length = methM.sig.parameters.length := by
    rw [hsig] at hpa
    rw [List.length_map, hna]
    exact (Option.some.inj hpa).symm
  obtain ⟨vm₁, X₁, hstep⟩ := X.invokevirtual C.ex C.own (C.w w1) hnamed hmethM hstM hkP hkPi hy (a := kx_B E + b) (cell := cellB) (by rw [hT]; exact hcB) (fun z hz => by rw [hz] at hoB; cases hoB) hselP hmethM habM hkP hkPi (g := F0 m pc ls (kx_s E (as.reverse ++ .ref b :: st))) rfl (argsL := kx_s E as) (rest := kx_s E st) hlen (by show kx_s E (as.reverse ++ .ref b :: st) = _; simp [kx_s, List.map_reverse, kx_v]) (by rw [C.bt]; exact hdg)
  obtain ⟨r, n', h', L', T', X', hLB, P', hq', hgo⟩ := kx_run X₁ C (g := F0 m pc ls (kx_s E st)) rfl (V.1.trans C.ml.symm) (by rw [C.bt]; exact hdg) (kx_cat8 hcat) hkw w0 hpl hI1 hI2 (X₁.named hnamed) (by rw [← hT] at P; exact P) hV hfit hd hnL (by omega) (by omega)
  exact kx_after (vm₁ := vm₁) (H := H) C L V hk hj X' hLB P' hstep hgo (fun v hv => kk v n' h' (hv ▸ hq')) (fun Xc hX => kx Xc n' h' (hX ▸ hq'))
def kx_wI (own : String) (index : Nat) (y : MethodName) (I' : kx_I) (na : Nat) : Prop :=
  Cond.code y I'.2.1 I'.2.2.1 none ∈ kx_tb ∧ I'.2.2.2.1 = none ∧ I'.2.2.2.2.1 = [] ∧ Cond.methodLink own index y ∈ kx_tb ∧ Cond.instanceMethod y ∈ kx_tb ∧ y.name = "<init>" ∧ plainName y.cls = true ∧ (y.cls ≠ "java/lang/invoke/MethodHandle" ∧ y.cls ≠ "java/lang/invoke/VarHandle") ∧ (parseMethodDescriptor y.desc).map (fun q => q.parameters.length) = some na ∧ I'.1 = y.cls ∧ I'.2.2.2.2.2 = y.name ∧ I'.2.2.1 ≤ 17
theorem kx_invI {index b : Nat} {y : MethodName} {I' : kx_I} {na : Nat} {as stk : List Value} {Q' : kx_Q} {d' mc' ms' : Nat} (hdg : decode I.2.1 pc = .ok (.invokespecial index, 3)) (hw : kx_wI I.1 index y I' na) (hV : kx_V E I' d' mc' ms' Q' mc' ms' 0 (lv_args 0 (.ref b :: as)) [] n h) (hs : stk = as.reverse ++ .ref b :: st) (hna : as.length = na) (hfit : (lg_sl (.ref b :: as)).length ≤ I'.2.2.1) (hd : d' + 1 ≤ d) (hcat : (st.map fun v => v.category).sum ≤ 8)
    (kk : ∀ v n' h', Q' (Sum.inl v) n' h' → kx_V E I d mc ms Q k j (pc + 3) lv (v.toList ++ st) n' h') (kx : ∀ Xc n' h', Q' (Sum.inr Xc) n' h' → kx_X E I d mc ms Q k j pc lv Xc n' h') : kx_V E I d mc ms Q (k + mc') (j + ms') pc lv stk n h := by
  intro p e R s m args below meth c H locs ls cells slots C P L V hk hj T hT X
  subst hs
  obtain ⟨w0, hI3, hI4, w1, w2, hini, hpl, hy, hpa, hI1, hI2, hnL⟩ := hw
  have hkw : kx_kw (.code y I'.2.1 I'.2.2.1 none) y I' := by
    obtain ⟨i1, i2, i3, i4, i5, i6⟩ := I'
    dsimp only at hI3 hI4
    subst hI3
    subst hI4
    exact kx_kw0
  have hplat : e.platform.magicAccessors = ({} : Platform).magicAccessors := by rw [X.admits.platform]
  obtain ⟨mk, methM, cM, kP, vm₁, hnamed, hmethM, hcodeM, -, -, -, hkP, -, hW₁, hstep⟩ := Steps.initColdArgs (e := e) X.here C.ex X.warmed hplat C.own hini hy (C.w w1) (C.w w2) (C.w w0) (f := F0 m pc ls (kx_s E (as.reverse ++ .ref b :: st))) rfl (a := kx_B E + b) (argsL := kx_s E as) (rest := kx_s E st) (fun sig hsg => by
      rw [hsg] at hpa
      rw [List.length_map, hna]
      exact (Option.some.inj hpa).symm) (by show kx_s E (as.reverse ++ .ref b :: st) = _; simp [kx_s, List.map_reverse, kx_v]) (by rw [C.bt]; exact hdg)
  have X₁ := X.noted hW₁
  obtain ⟨r, n', h', L', T', X', hLB, P', hq', hgo⟩ := kx_run X₁ C (g := F0 m pc ls (kx_s E st)) rfl (V.1.trans C.ml.symm) (by rw [C.bt]; exact hdg) (kx_cat8 hcat) hkw w0 hpl hI1 hI2 (X₁.named hnamed) (by rw [← hT] at P; exact P) hV hfit hd hnL (by omega) (by omega)
  exact kx_after (vm₁ := vm₁) (H := H) C L V hk hj X' hLB P' hstep hgo (fun v hv => kk v n' h' (hv ▸ hq')) (fun Xc hX => kx Xc n' h' (hX ▸ hq'))
theorem kx_X.out {Xc : String} (hno : ∀ x ∈ I.2.2.2.2.1, ¬ (x.1 ≤ pc ∧ pc < x.2.1)) (hq : Q (Sum.inr Xc) n h) : kx_X E I d mc ms Q k j pc lv Xc n h := by
  intro p e R s m args below meth c H locs ls cells slots C P L V hk hj st a ce hce hns hfc T hT X
  have hout : ∀ x ∈ c.exceptionTable.toList, covers x pc = false := by
    intro x hx
    have h1 := hno (x.startPc, x.endPc, x.handlerPc, x.catchType) (by rw [← C.tb]; exact List.mem_map.mpr ⟨x, hx, rfl⟩)
    simp only [covers, Bool.and_eq_false_iff, decide_eq_false_iff_not]
    by_cases h2 : x.startPc ≤ pc
    · exact Or.inr (fun h3 => h1 ⟨h2, h3⟩)
    · exact Or.inl h2
  obtain ⟨hsteps, hrun, hend, hW, hsame⟩ := X.leaveThrown a (g := F0 m pc ls st) rfl rfl rfl hout (hlocks := C.lk)
  refine ⟨_, hsteps, .threw a, hrun, hend, hW, ⟨locs, hsame.mono (by omega) (by omega), L⟩, Sum.inr Xc, n, h, ?_, ⟨a, ce, rfl, ?_, hns, hfc⟩, hq⟩
  · show kx_P E n h T.heap
    rw [hT]; exact P
  · show T.heap[a]? = some ce
    rw [hT]; exact hce
end KXE
end
section
section KXF
variable {p : Program} {l : Launch} {e : Env} {R : Room} {s : State} {m : MethodId} {args : Array Value} {below : List Frame} {meth : Method} {c : Code} {T : State} {locs : List Loc} {cells slots : Nat}
theorem kx_rebase (X : Stand p l e R s m args below meth c T locs cells slots) {R' : Room} (h1 : R'.frames ≤ R.frames) (h2 : R'.locals ≤ R.locals) (h3 : cells + R'.cells ≤ R.cells) (h4 : slots + R'.slots ≤ R.slots) :
    Stand p l e R' (T.setFrames (.invoking m args :: below)) m args below meth c T [] 0 0 := by
  obtain ⟨g₀, hfr⟩ := X.frames_eq
  have hcur := State.cur_lt_of_frames hfr
  have hF : (T.setFrames (.invoking m args :: below)).frames = .invoking m args :: below := State.frames_setFrames _ hcur
  have hm : ∀ z, T.vm.method? z = s.vm.method? z := fun z => X.warmed.alike.method? z
  have hmeth : (T.setFrames (.invoking m args :: below)).vm.method? m = some meth := X.method'
  refine ⟨X.admits, X.cas, X.clock, hF, ?_, ?_, hmeth, X.code, X.here, X.tail, State.WarmedH.refl (T.setFrames (.invoking m args :: below)), by rw [State.stackLimits_setFrames], by rw [State.stackBytes_setFrames], ?_⟩
  · have hr := X.room
    have hz := X.heapSize
    have hu := X.used
    have hbk : (T.setFrames (.invoking m args :: below)).slotsTrue = true := X.book
    simp only [State.hasRoom, Bool.and_eq_true, decide_eq_true_eq] at hr ⊢
    rw [State.localsInUse_invoking X.frames X.method X.code, X.frames] at hr
    rw [State.localsInUse_invoking hF hmeth X.code, hF, State.stackLimits_setFrames, State.stackBytes_setFrames, X.limits, X.bytes]
    obtain ⟨⟨⟨⟨r1, r2, r3, r4, r5, r6⟩, r7⟩, r8⟩, r9⟩ := hr
    refine ⟨⟨⟨⟨by omega, by omega, by omega, by omega, by omega, r6⟩, ?_⟩, ?_⟩, hbk⟩
    · show T.heap.size + R'.cells ≤ _
      omega
    · show T.slotsUsed + R'.slots ≤ _
      omega
  · have h0 := X.hears
    have hco : ∀ z, (T.setFrames (.invoking m args :: below)).code? z = s.code? z := fun z => by
      rw [State.code?_eq, State.code?_eq]
      show (T.vm.method? z).bind _ = _
      rw [hm z]
    have hm2 : ∀ z, (T.setFrames (.invoking m args :: below)).vm.method? z = s.vm.method? z := hm
    cases below with
    | nil => simpa only [State.hears, hm2] using h0
    | cons f r => cases f <;> first | simpa only [State.hears, hco] using h0 | simpa only [State.hears, hm2] using h0
  · obtain ⟨th, hth, -⟩ := State.frames_cons hF
    have hb := (State.sameButNew.refl (T.setFrames (.invoking m args :: below)) hth).setFrames T.frames (State.cur_lt_of_frames hF)
    obtain ⟨th2, hth2, -⟩ := State.frames_cons hfr
    rw [State.setFrames_setFrames, State.setFrames_self hth2] at hb
    exact hb
theorem kx_gone (X : Stand p l e R s m args below meth c T locs cells slots) {a : Addr} {t : State} (hend : Ended t below (.threw a)) (hW : (T.setFrames (.invoking m args :: below)).WarmedH t.vm) {k n : Nat} (hs : (T.setFrames (.invoking m args :: below)).sameButNew ({ t with vm := (T.setFrames (.invoking m args :: below)).vm } : State) [] k n) :
    s.WarmedH t.vm ∧ s.sameButNew ({ t with vm := s.vm } : State) locs (cells + k) (slots + n) := by
  obtain ⟨e2, q2, q3, q4, q5, q6⟩ := hs
  obtain ⟨g₀, hfr⟩ := X.frames_eq
  have hf : t.frames = .throwing a :: below := hend
  have hW' : T.WarmedH t.vm := hW
  have e3 : t = (({ (T.setFrames (.invoking m args :: below)).setFrames t.frames with heap := t.heap, slotsUsed := t.slotsUsed } : State)).setVm t.vm := by
    have : t = ({ t with vm := (T.setFrames (.invoking m args :: below)).vm } : State).setVm t.vm := rfl
    rw [e2] at this
    exact this
  have hB : T.sameButNew ({ T with heap := t.heap, slotsUsed := t.slotsUsed } : State) [] k n := by
    refine ⟨?_, q2, q3, q4, q5, q6⟩
    obtain ⟨th, hth, -⟩ := State.frames_cons hfr
    show ({ T with heap := t.heap, slotsUsed := t.slotsUsed } : State) = { T.setFrames T.frames with heap := t.heap, slotsUsed := t.slotsUsed }
    rw [State.setFrames_self hth]
  have X' : Stand p l e R s m args below meth c (({ T with heap := t.heap, slotsUsed := t.slotsUsed } : State).setVm t.vm) (locs ++ []) (cells + k) (slots + n) :=
    ⟨X.admits, X.cas, X.clock, X.frames, X.room, X.hears, X.method, X.code, (X.here.setHeapUsed t.heap t.slotsUsed).setVm hW'.alike, X.tail, State.WarmedH.trans X.warmed hW', X.limits, X.bytes, X.same.trans (hB.setVm s.vm)⟩
  rw [List.append_nil] at X'
  have hE := X'.ends (.throwing a :: below)
  have ht : t = (({ T with heap := t.heap, slotsUsed := t.slotsUsed } : State).setVm t.vm).setFrames (.throwing a :: below) := by
    refine e3.trans ?_
    rw [hf, State.setFrames_setFrames]
    rfl
  rw [← ht] at hE
  exact hE
end KXF
def kx_tx (own : String) (inew ic : Nat) (Xc : String) (names : List String) : Prop := Bundle.fit Xc = true ∧ (∀ q ∈ names, Bundle.fit q = true) ∧ Cond.classLink own inew Xc ∈ kx_tb ∧ Cond.instantiable Xc 6 ∈ kx_tb ∧ Cond.initialized Xc ∈ kx_tb ∧ ∀ w ∈ Bundle.ownAtoms own ic Xc names, w ∈ kx_tb ∨ w ∈ kx_hw ∨ w ∈ kx_hr ∨ (w ∈ lw_tbl ∧ kx_dc w = true)
section KXG
variable {E : kx_E} {I : kx_I} {d mc ms : Nat} {Q : kx_Q} {k j pc : Nat} {lv : List (Nat × Value)} {st : List Value} {n : Nat} {h : kx_H}
theorem kx_throw {inew istr ic : Nat} {Xc tx : String} {names : List String} (d0 : decode I.2.1 pc = .ok (.new inew, 3)) (d3 : decode I.2.1 (pc + 3) = .ok (.dup, 1)) (d4 : decode I.2.1 (pc + 3 + 1) = .ok (.ldc istr, 2)) (d6 : decode I.2.1 (pc + 3 + 1 + 2) = .ok (.invokespecial ic, 3)) (d9 : decode I.2.1 (pc + 3 + 1 + 2 + 3) = .ok (.athrow, 1))
    (hx : kx_tx I.1 inew ic Xc names) (hstr : (I.1, istr, tx) ∈ kx_strs) (hno : ∀ x ∈ I.2.2.2.2.1, ¬ (x.1 ≤ pc + 3 + 1 + 2 + 3 ∧ pc + 3 + 1 + 2 + 3 < x.2.1)) (hd : names.length + 4 ≤ d) (hcat : (st.map fun v => v.category).sum ≤ 8) (hq : Q (Sum.inr Xc) (n + 1) h) : kx_V E I d mc ms Q (k + 1) (j + 6) pc lv st n h := by
  intro p e R s m args below meth c H locs ls cells slots C P L V hk hj T hT X
  obtain ⟨f1, f2, w1, w2, w3, hat⟩ := hx
  have hrc := C.rc
  have hrs := C.rs
  have hfr := C.fr
  have hlc := C.lc
  have hW2 : E.2.1.WarmedH T.vm := State.WarmedH.trans C.wm X.warmed
  have Y := kx_rebase X (R' := { frames := R.frames, cells := 1, slots := 6, locals := R.locals }) (Nat.le_refl _) (Nat.le_refl _) (by show cells + 1 ≤ _; omega) (by show slots + 6 ≤ _; omega)
  generalize hs2 : T.setFrames (.invoking m args :: below) = s2 at Y
  have hvm2 : s2.vm = T.vm := by rw [← hs2]; rfl
  have hhp2 : s2.heap = H := by rw [← hs2, ← hT]; rfl
  have hW3 : E.2.1.WarmedH s2.vm := by rw [hvm2]; exact hW2
  have hown2 : s2.vm.findClass I.1 = some m.cls := by rw [hvm2, X.warmed.alike.findClass]; exact C.own
  have hT2 : kx_T s2 := C.g.2.2.2.1.to hW3 (fun q hq => by rw [hhp2]; exact P.2.1 q hq)
  have hwd : ∀ w ∈ Bundle.ownAtoms I.1 ic Xc names, w.before args s2 = true := fun w hw => by
    rcases hat w hw with g | g | g | g
    · exact kx_word C.g g args hW3
    · exact hT2.1 w g args
    · exact hT2.2.1 w g args
    · exact kx_word2 C.g g.1 g.2 args hW3
  have htr : e.platform.stackTraces = false := by
    have h0 := X.admits.2.2.2.2.1
    rw [h0]
    exact C.g.1
  have hout : ∀ x ∈ c.exceptionTable.toList, covers x (pc + 3 + 1 + 2 + 3) = false := by
    intro x hx
    have h1 := hno (x.startPc, x.endPc, x.handlerPc, x.catchType) (by rw [← C.tb]; exact List.mem_map.mpr ⟨x, hx, rfl⟩)
    simp only [covers, Bool.and_eq_false_iff, decide_eq_false_iff_not]
    by_cases h2 : x.startPc ≤ pc + 3 + 1 + 2 + 3
    · exact Or.inr (fun h3 => h1 ⟨h2, h3⟩)
    · exact Or.inl h2
  obtain ⟨cX, kX, hfX, hkX, -⟩ := Cond.instantiable_spec (kx_word C.g w2 args hW3)
  obtain ⟨qs, hZ⟩ := hT2.2.2 _ hstr
  have hc8 : ((List.map (kx_v (kx_B E)) st).map fun v => v.category).sum = _ := kx_s_cat E st
  have w : W p E.1 e { frames := R.frames, cells := 1, slots := 6, locals := R.locals } s2 m args below meth c H [] 0 0 (fun t => ∃ (a : Addr) (ce : Cell), t.status = .running ∧ Ended t below (.threw a) ∧ s2.WarmedH t.vm ∧ s2.sameButNew ({ t with vm := s2.vm } : State) [] 1 6 ∧ t.heap[a]? = some ce ∧ a = H.size ∧ ce.vm = .none ∧ s2.vm.findClass Xc = some ce.cls) (F0 m pc ls (kx_s E st)) := by
    refine W.newcK C.ex C.bt hown2 (kx_word C.g w1 args hW3) (kx_word C.g w2 args hW3) (kx_word C.g w3 args hW3) rfl d0 (by show 0 + 1 ≤ 1; omega) (by show 0 + 6 ≤ 6; omega) hfX rfl fun H1 kC hkC e1 z1 o1 => ?_
    cases hkX.symm.trans hkC
    refine lv_dup C.ex C.bt d3 rfl ?_
    refine va_ldcS C.ex C.bt hown2 hZ d4 ?_
    intro T2 hT2 X2
    obtain ⟨U, hsteps, hrun, hend, hWU, hsame, ce, hce, O⟩ := X2.ctorThrowS C.ex htr hown2 f1 f2 hwd (fun x hx => by cases hx) hfX hkX (a := H.size) (by rw [hT2]; exact e1) (by rw [hhp2]; exact Nat.le_refl _) (msg := .ref qs) rfl (g := F0 m (pc + 3 + 1 + 2) ls (.ref qs :: .ref H.size :: .ref H.size :: kx_s E st)) rfl (V.1.trans C.ml.symm) rfl rfl rfl (by rw [C.bt]; exact d6) (by rw [C.bt]; exact d9) hout (by show names.length + 3 < R.frames; omega) (by
        show 2 * 0 + ((Value.ref H.size :: kx_s E st).map fun v => v.category).sum + (13 * (names.length + 1) + 42) ≤ R.locals
        rw [List.map_cons, List.sum_cons]
        show 2 * 0 + (1 + ((List.map (kx_v (kx_B E)) st).map fun v => v.category).sum) + _ ≤ _
        omega) (hlocks := C.lk)
    exact ⟨U, hsteps, H.size, ce, hrun, hend, hWU, hsame, hce, rfl, O.vm, O.cls⟩
  obtain ⟨t, hsteps, a, ce, hrun, hend, hWt, hsame, hce, ha, hvn, hfc⟩ := w T hT Y
  subst hs2
  obtain ⟨g1, g2⟩ := kx_gone X hend hWt hsame
  have hlt : a < t.heap.size := (Array.getElem?_eq_some_iff.mp hce).1
  have hz4 : H.size < t.heap.size := by rw [ha] at hlt; exact hlt
  have hz3 : t.heap.size ≤ H.size + 1 := by have := hsame.2.2.1; rw [hhp2] at this; exact this
  refine ⟨t, hsteps, .threw a, hrun, hend, g1, ⟨locs, g2.mono (by omega) (by omega), L⟩, Sum.inr Xc, n + 1, h, P.junk (by omega) (fun q hq => ?_) (fun cell hc => ?_), ⟨a, ce, rfl, hce, by rw [hvn]; rfl, ?_⟩, hq⟩
  · have hq2 : (T.setFrames (.invoking m args :: below)).heap[q]? = some H[q] := by rw [hhp2]; exact Array.getElem?_eq_getElem hq
    rw [Array.getElem?_eq_getElem hq]
    exact State.sameButNew.old_cell hsame hq2
  · rw [← ha, hce] at hc
    cases hc
    rw [hvn]; rfl
  · rw [← hfc, hW3.alike.findClass]
end KXG
end
section
def kx_sel (own Xc : String) (pc hpc : Nat) : List (Nat × Nat × Nat × Nat) → Prop
  | [] => False
  | x :: t => (x.1 ≤ pc ∧ pc < x.2.1) ∧ x.2.2.2 ≠ 0 ∧ ∃ Cn, Cond.classLink own x.2.2.2 Cn ∈ kx_tb ∧ Xc ∈ kx_exc ∧ Cn ∈ kx_exc ∧ ((Xc = Cn ∧ x.2.2.1 = hpc) ∨ (Xc ≠ Cn ∧ kx_sel own Xc pc hpc t))
section KXS
variable {e : Env} {s S0 : State} {f : JFrame} {a : Addr}
theorem kx_goIn {x : ExceptionTableEntry} {t : List ExceptionTableEntry} {cT : ClassId} {cell : Cell} (hx : covers x f.pc = true) (h0 : x.catchType ≠ 0) (hl : S0.vm.ClassLinks e.platform f.method.cls x.catchType cT) (hcell : S0.heap[a]? = some cell) (hobj : ∀ k, cell.vm ≠ .statics k) (hk : ∃ k, S0.vm.classes[cell.cls]? = some k) (hc : ∃ k, S0.vm.classes[cT]? = some k)
    (Q : Handler → Pre) (Ee : CtlPost) (d : Bool) (acts : List Action) :
    wp (findHandler.go f a (x :: t)) Q Ee e d acts S0 ↔ if S0.vm.assignable cell.cls cT = true then Q (.found x.handlerPc) d acts (S0.setVm (S0.vm.noted f.method.cls x.catchType (.cls cT))) else wp (findHandler.go f a t) Q Ee e d acts (S0.setVm (S0.vm.noted f.method.cls x.catchType (.cls cT))) := by
  simp only [covers] at hx
  obtain ⟨ha, ht⟩ := (resolveClass_links e.toSetting hl).op (op := VmOp.resolveClass f.method.cls x.catchType) rfl
  have hal : S0.vm.Alike (S0.vm.noted f.method.cls x.catchType (.cls cT)) := (Vm.Alike.refl S0.vm).noted _ _ _
  obtain ⟨k1, hk1⟩ := hk
  obtain ⟨k2, hk2⟩ := hc
  obtain ⟨k1', hk1', -⟩ := hal.2.2 _ _ hk1
  obtain ⟨k2', hk2', -⟩ := hal.2.2 _ _ hk2
  have has : (S0.vm.noted f.method.cls x.catchType (.cls cT)).assignable cell.cls cT = S0.vm.assignable cell.cls cT := hal.assignable ..
  cases hfit : S0.vm.assignable cell.cls cT <;> simp [findHandler.go, hx, h0, ha, ht, hcell, hobj, hk1', hk2', has, hfit, VmOp.dirties, VmOp.acts]
end KXS
section KXT
variable {E : kx_E} {I : kx_I} {d mc ms : Nat} {Q : kx_Q} {k j pc : Nat} {lv : List (Nat × Value)} {n : Nat} {h : kx_H}
theorem kx_search {p : Program} {e : Env} {R : Room} {s : State} {m : MethodId} {args : Array Value} {meth : Method} {c : Code} {below : List Frame} {T : State} {locs : List Loc} {cells slots : Nat} (X : Stand p E.1 e R s m args below meth c T locs cells slots) (C : kx_C E I d mc ms p e R s m args meth c) {g : JFrame} (hg : g.method = m) {S0 : State} {a : Addr} {ce : Cell} {Xc : String} {hpc : Nat} (hce : S0.heap[a]? = some ce) (hns : ce.vm.isStatics = false) (hfc : E.2.1.vm.findClass Xc = some ce.cls) :
    ∀ (tb : List ExceptionTableEntry), kx_sel I.1 Xc g.pc hpc (tb.map (fun x => (x.startPc, x.endPc, x.handlerPc, x.catchType))) → ∀ vm1 : Vm, s.WarmedH vm1 → ∃ vm2, s.WarmedH vm2 ∧ ∀ (Qh : Handler → Pre) (Ee : CtlPost) (dd : Bool) (acts : List Action), wp (findHandler.go g a tb) Qh Ee e dd acts (S0.setVm vm1) ↔ Qh (.found hpc) dd acts (S0.setVm vm2)
  | [], hs, _, _ => hs.elim
  | x :: t, hs, vm1, hW1 => by
    obtain ⟨⟨c1, c2⟩, h0, Cn, hlk, hX1, hX2, hcase⟩ := hs
    have hyn := C.g.2.2.2.2 Xc hX1 Cn hX2
    have hpl : e.platform.magicAccessors = ({} : Platform).magicAccessors := by rw [X.admits.platform]
    have hx : covers x g.pc = true := by
      simp only [covers, Bool.and_eq_true, decide_eq_true_eq]
      exact ⟨c1, c2⟩
    obtain ⟨cT, hcT, hcl⟩ := Cond.classLink_spec C.own (C.w hlk) e.platform hpl
    obtain ⟨dk, _, _, kt, hdk, _, _, _, _, hkt, _, hopen⟩ := hcl.here
    have hcl1 : vm1.ClassLinks e.platform m.cls x.catchType cT := hW1.classLinks hcl
    have hW' : s.WarmedH (vm1.noted m.cls x.catchType (.cls cT)) := hW1.noted hdk hopen (State.rightAt_cls hcl)
    have halE := (State.WarmedH.trans C.wm hW1).alike
    have hob : ∀ z, ce.vm ≠ .statics z := fun z hz => by rw [hz] at hns; cases hns
    obtain ⟨kx1, hkx1⟩ := Vm.classAt_of_findClass (vm := vm1) (by rw [halE.findClass]; exact hfc)
    obtain ⟨kt1, hkt1, -⟩ := hW1.alike.2.2 _ _ hkt
    have hin := kx_goIn (e := e) (S0 := S0.setVm vm1) (f := g) (a := a) (x := x) (t := t) (cT := cT) (cell := ce) hx h0 (by rw [hg]; exact hcl1) hce hob ⟨kx1, hkx1⟩ ⟨kt1, hkt1⟩
    have hcE : E.2.1.vm.findClass Cn = some cT := by rw [← C.wm.alike.findClass]; exact hcT
    rcases hcase with ⟨hcs, hp⟩ | ⟨hcs, hrest⟩
    · obtain ⟨a1, b1, g1, g2, g3⟩ := hyn.1 hcs
      cases hfc.symm.trans g1
      cases hcE.symm.trans g2
      refine ⟨_, hW', fun Qh Ee dd acts => ?_⟩
      rw [hin Qh Ee dd acts, if_pos (by show vm1.assignable _ _ = true; rw [halE.assignable]; exact g3), hg]
      dsimp only at hp
      rw [hp]
      exact Iff.rfl
    · obtain ⟨a1, b1, g1, g2, g3⟩ := hyn.2 hcs
      cases hfc.symm.trans g1
      cases hcE.symm.trans g2
      obtain ⟨vm2, hW2, hgo⟩ := kx_search X C hg hce hns hfc t hrest _ hW'
      refine ⟨vm2, hW2, fun Qh Ee dd acts => ?_⟩
      rw [hin Qh Ee dd acts, if_neg (by show ¬ vm1.assignable _ _ = true; rw [halE.assignable, g3]; decide), hg]
      exact hgo Qh Ee dd acts
theorem kx_caught {tb : Tables} {e : Env} {T target : State} {g : JFrame} {c : Code} {below : List Frame} {a : Addr} (hA : At T g.method c below) {hpc : Nat} {vm2 : Vm}
    (hf : ∀ (Qh : Handler → Pre) (Ee : CtlPost) (dd : Bool) (acts : List Action), wp (findHandler g a) Qh Ee e dd acts ((T.setTop g).pushFrame (.throwing a)) ↔ Qh (.found hpc) dd acts (((T.setTop g).pushFrame (.throwing a)).setVm vm2))
    (hrest : Steps tb e below ((T.setVm vm2).setTop { g with pc := hpc, stack := [.ref a] }) target) : Steps tb e below ((T.setTop g).pushFrame (.throwing a)) target := by
  obtain ⟨hgo, hw⟩ := hA.throwing a
  refine Steps.head hgo hw ?_
  have hst : ∀ r, (stepThrowing e ((T.setTop g).pushFrame (.throwing a)) a (.java g :: r)).1 = (((T.setTop g).pushFrame (.throwing a)).setVm vm2).setFrames (.java { g with pc := hpc, stack := [.ref a] } :: r) := by
    intro r
    simp only [stepThrowing, searchFrame, vmDo]
    generalize hr : Sem.go _ e false [] ((T.setTop g).pushFrame (.throwing a)) = res
    obtain ⟨as, rfl, -⟩ := Sem.eq_ok_of hr (a := Handler.found hpc) (s' := ((T.setTop g).pushFrame (.throwing a)).setVm vm2) (acts' := []) (by simp [hf _ _ _ _])
    rfl
  rw [stepThread_throwing (frames_entered hA.top _), hst]
  obtain ⟨g₀, hg⟩ := Option.isSome_iff_exists.mp hA.top
  obtain ⟨r, hr⟩ := State.topJava?_eq_some.mp hg
  have hr' : (T.setVm vm2).frames = .java g₀ :: r := hr
  rw [State.setTop_of_frames _ hr'] at hrest
  have e1 : ((((T.setTop g).pushFrame (.throwing a)).setVm vm2).setFrames (.java { g with pc := hpc, stack := [.ref a] } :: T.frames.tail)) = (T.setVm vm2).setFrames (.java { g with pc := hpc, stack := [.ref a] } :: r) := by
    rw [hr, List.tail_cons, State.pushFrame, State.setTop_of_frames _ hr]
    have h1 : ∀ (F G : List Frame), (((T.setFrames F).setFrames G).setVm vm2) = ((T.setVm vm2).setFrames F).setFrames G := fun _ _ => rfl
    rw [h1, State.setFrames_setFrames, State.setFrames_setFrames]
  rw [e1]
  exact hrest
theorem kx_X.catch {Xc : String} {hpc : Nat} (hs : kx_sel I.1 Xc pc hpc I.2.2.2.2.1) {i : Nat} {lv' : List (Nat × Value)} {ln : Nat} (hdg : (ln = 1 ∧ ∃ f : Fin 4, (f : Nat) = i ∧ decode I.2.1 hpc = .ok (.astore_n f, 1)) ∨ (ln = 2 ∧ decode I.2.1 hpc = .ok (.astore i, 2))) (hn : i < I.2.2.1) (hl : lv.filter (fun q => !(q.1 == i) && !(q.1 + 1 == i && q.2.category == 2)) = lv')
    (kk : kx_V E I d mc ms Q k j (hpc + ln) lv' [] n h) : kx_X E I d mc ms Q k j pc lv Xc n h := by
  intro p e R s m args below meth c H locs ls cells slots C P L V hk hj st a ce hce hns hfc T hT X
  obtain ⟨vm2, hW2, hgo⟩ := kx_search X C (g := F0 m pc ls st) rfl (S0 := (T.setTop (F0 m pc ls st)).pushFrame (.throwing a)) (a := a) (ce := ce) (Xc := Xc) (hpc := hpc) (by rw [Stand.throwing_heap, hT]; exact hce) hns hfc c.exceptionTable.toList (by rw [C.tb]; exact hs) T.vm X.warmed
  have hself : ((T.setTop (F0 m pc ls st)).pushFrame (.throwing a)).setVm T.vm = (T.setTop (F0 m pc ls st)).pushFrame (.throwing a) := by
    have h1 : ((T.setTop (F0 m pc ls st)).pushFrame (.throwing a)).vm = T.vm := Stand.throwing_vm T _ a
    rw [← h1, State.setVm_self]
  rw [hself] at hgo
  have hfind : ∀ (Qh : Handler → Pre) (Ee : CtlPost) (dd : Bool) (acts : List Action), wp (findHandler (F0 m pc ls st) a) Qh Ee e dd acts ((T.setTop (F0 m pc ls st)).pushFrame (.throwing a)) ↔ Qh (.found hpc) dd acts (((T.setTop (F0 m pc ls st)).pushFrame (.throwing a)).setVm vm2) := by
    intro Qh Ee dd acts
    rw [W.findHandler_eq (meth := meth) (code := c) (by rw [Stand.throwing_vm]; exact X.method') X.code]
    exact hgo Qh Ee dd acts
  have X2 : Stand p E.1 e R s m args below meth c (T.setVm vm2) locs cells slots := X.noted hW2
  have w : W p E.1 e R s m args below meth c H locs cells slots (kx_Z E mc ms Q below s) (F0 m hpc ls [.ref a]) := by
    have key : ∀ ls' : Array Slot, lv_has ls' I.2.2.1 ((i, Value.ref a) :: (kx_l E lv).filter (fun q => !(q.1 == i) && !(q.1 + 1 == i && q.2.category == 2))) → W p E.1 e R s m args below meth c H locs cells slots (kx_Z E mc ms Q below s) (F0 m (hpc + ln) ls' []) := by
      intro ls' V'
      refine kk p e R s m args below meth c H locs ls' cells slots C P L ⟨V'.1, V'.2.1, fun q hq => ?_⟩ hk hj
      refine V'.2.2 q (List.mem_cons_of_mem _ ?_)
      have h9 := kx_l_st1 E lv i (.int 0)
      have h8 : (kx_l E lv).filter (fun q => !(q.1 == i) && !(q.1 + 1 == i && q.2.category == 2)) = kx_l E (lv.filter (fun q => !(q.1 == i) && !(q.1 + 1 == i && q.2.category == 2))) := (List.cons.inj h9).2
      rw [h8, hl]
      exact hq
    rcases hdg with ⟨rfl, f, hf, hdg⟩ | ⟨rfl, hdg⟩
    · exact lv_astore_n C.ex C.bt hdg hf V hn rfl key
    · exact lv_astore C.ex C.bt hdg V hn rfl key
  obtain ⟨t, a1, b1⟩ := w (T.setVm vm2) hT X2
  exact ⟨t, kx_caught (g := F0 m pc ls st) X.here hfind a1, b1⟩
end KXT
section KXM
variable {E : kx_E} {I : kx_I} {d mc ms : Nat} {Q : kx_Q} {k j pc : Nat} {lv : List (Nat × Value)} {st : List Value} {n : Nat} {h : kx_H}
theorem kx_max {index : Nat} {x y : Int32} (hdg : decode I.2.1 pc = .ok (.invokestatic index, 3)) (h1 : Cond.methodLink I.1 index Lib.Math.max.name ∈ kx_tb) (h2 : Cond.static Lib.Math.max.name ∈ kx_tb) (h3 : Cond.initialized "java/lang/Math" ∈ kx_tb) (h4 : Cond.code Lib.Math.max.name Lib.Math.max.code 2 (some .int) ∈ kx_tb) (hd : 1 ≤ d) (hs : (st.map fun v => v.category).sum ≤ 8)
    (kk : kx_V E I d mc ms Q k j (pc + 3) lv (.int (if x < y then y else x) :: st) n h) : kx_V E I d mc ms Q k j pc lv (.int y :: .int x :: st) n h := by
  intro p e R s m args below meth c H locs ls cells slots C P L V hk hj
  have hc : ((List.map (kx_v (kx_B E)) st).map fun v => v.category).sum = _ := kx_s_cat E st
  have hl := C.lc
  have hf := C.fr
  exact va_mmax C.ex C.bt (C.ml.trans V.1.symm) C.own (C.w h1) (C.w h2) (C.w h3) (C.w h4) (by omega) (by omega) (by rw [C.rc]; omega) (by rw [C.rs]; omega) hdg (kk p e R s m args below meth c H locs ls cells slots C P L V hk hj)
theorem kx_min {index : Nat} {x y : Int32} (hdg : decode I.2.1 pc = .ok (.invokestatic index, 3)) (h1 : Cond.methodLink I.1 index Lib.Math.min.name ∈ kx_tb) (h2 : Cond.static Lib.Math.min.name ∈ kx_tb) (h3 : Cond.initialized "java/lang/Math" ∈ kx_tb) (h4 : Cond.code Lib.Math.min.name Lib.Math.min.code 2 (some .int) ∈ kx_tb) (hd : 1 ≤ d) (hs : (st.map fun v => v.category).sum ≤ 8)
    (kk : kx_V E I d mc ms Q k j (pc + 3) lv (.int (if y < x then y else x) :: st) n h) : kx_V E I d mc ms Q k j pc lv (.int y :: .int x :: st) n h := by
  intro p e R s m args below meth c H locs ls cells slots C P L V hk hj
  have hc : ((List.map (kx_v (kx_B E)) st).map fun v => v.category).sum = _ := kx_s_cat E st
  have hl := C.lc
  have hf := C.fr
  exact va_mmin C.ex C.bt (C.ml.trans V.1.symm) C.own (C.w h1) (C.w h2) (C.w h3) (C.w h4) (by omega) (by omega) (by rw [C.rc]; omega) (by rw [C.rs]; omega) hdg (kk p e R s m args below meth c H locs ls cells slots C P L V hk hj)
theorem kx_maxl {index : Nat} {x y : Int64} (hdg : decode I.2.1 pc = .ok (.invokestatic index, 3)) (h1 : Cond.methodLink I.1 index Lib.MathLoose.max_long.x ∈ kx_tb) (h2 : Cond.static Lib.MathLoose.max_long.x ∈ kx_tb) (h3 : Cond.initialized "java/lang/Math" ∈ kx_tb) (h4 : Cond.code Lib.MathLoose.max_long.x Lib.MathLoose.max_long.code 4 (some .long) ∈ kx_tb) (hd : 1 ≤ d) (hs : (st.map fun v => v.category).sum ≤ 8)
    (kk : kx_V E I d mc ms Q k j (pc + 3) lv (.long (if y < x then x else y) :: st) n h) : kx_V E I d mc ms Q k j pc lv (.long y :: .long x :: st) n h := by
  intro p e R s m args below meth c H locs ls cells slots C P L V hk hj
  have hc : ((List.map (kx_v (kx_B E)) st).map fun v => v.category).sum = _ := kx_s_cat E st
  have hl := C.lc
  have hf := C.fr
  exact va_mmax_long C.ex C.bt (C.ml.trans V.1.symm) C.own (C.w h1) (C.w h2) (C.w h3) (C.w h4) (by omega) (by omega) (by rw [C.rc]; omega) (by rw [C.rs]; omega) hdg (kk p e R s m args below meth c H locs ls cells slots C P L V hk hj)
theorem kx_minl {index : Nat} {x y : Int64} (hdg : decode I.2.1 pc = .ok (.invokestatic index, 3)) (h1 : Cond.methodLink I.1 index Lib.MathLoose.min_long.x ∈ kx_tb) (h2 : Cond.static Lib.MathLoose.min_long.x ∈ kx_tb) (h3 : Cond.initialized "java/lang/Math" ∈ kx_tb) (h4 : Cond.code Lib.MathLoose.min_long.x Lib.MathLoose.min_long.code 4 (some .long) ∈ kx_tb) (hd : 1 ≤ d) (hs : (st.map fun v => v.category).sum ≤ 8)
    (kk : kx_V E I d mc ms Q k j (pc + 3) lv (.long (if y < x then y else x) :: st) n h) : kx_V E I d mc ms Q k j pc lv (.long y :: .long x :: st) n h := by
  intro p e R s m args below meth c H locs ls cells slots C P L V hk hj
  have hc : ((List.map (kx_v (kx_B E)) st).map fun v => v.category).sum = _ := kx_s_cat E st
  have hl := C.lc
  have hf := C.fr
  exact va_mmin_long C.ex C.bt (C.ml.trans V.1.symm) C.own (C.w h1) (C.w h2) (C.w h3) (C.w h4) (by omega) (by omega) (by rw [C.rc]; omega) (by rw [C.rs]; omega) hdg (kk p e R s m args below meth c H locs ls cells slots C P L V hk hj)
theorem kx_copy {index N a b : Nat} {f g : Nat → Int64} (hdg : decode I.2.1 pc = .ok (.invokestatic index, 3)) (h1 : Cond.methodLink I.1 index arraycopyName ∈ kx_tb) (h2 : Cond.native arraycopyName ∈ kx_tb) (h3 : Cond.static arraycopyName ∈ kx_tb) (h4 : Cond.initialized "java/lang/System" ∈ kx_tb) (ha : h a = some (kx_cl N f)) (hb : h b = some (kx_cl N g)) (hN : N ≤ 100000) (hd : 3 ≤ d) (hs : (st.map fun v => v.category).sum ≤ 8)
    (kk : kx_V E I d mc ms Q k j (pc + 3) lv st n (kx_set h b (kx_cl N (va_cpy f g 0 0 N)))) : kx_V E I d mc ms Q k j pc lv (.int (nI N) :: .int 0 :: .ref b :: .int 0 :: .ref a :: st) n h := by
  intro p e R s m args below meth c H locs ls cells slots C P L V hk hj T hT X
  have hc : ((List.map (kx_v (kx_B E)) st).map fun v => v.category).sum = _ := kx_s_cat E st
  have hl := C.lc
  have hf := C.fr
  have hcl : (nI N).toNatClampNeg = N := nI_clamp (by omega)
  have htI : (nI N).toInt = (N : Int) := nI_toInt (by omega)
  have z0 : (0 : Int32).toNatClampNeg = 0 := rfl
  have zI : (0 : Int32).toInt = 0 := rfl
  have hw : nativeFrameWords "java/lang/System" "arraycopy" 5 + 11 ≤ 100 := by decide +kernel
  have hc0 : H[kx_B E + a]? = some (arrV (E.2.2.2 1) N (fun j => .long (f j))) := P.2.2.2 a _ ha
  have hc1 : H[kx_B E + b]? = some (arrV (E.2.2.2 1) N (fun j => .long (g j))) := P.2.2.2 b _ hb
  obtain ⟨-, k0, hk0, cm0, hkk0⟩ := (C.k.2 1 _ rfl).1 N (fun j => .long (f j))
  obtain ⟨-, k1, hk1, cm1, hkk1⟩ := (C.k.2 1 _ rfl).1 N (fun j => .long (g j))
  obtain ⟨vm', X', step⟩ := X.arraycopy C.ex C.own (C.w h1) (C.w h2) (C.w h3) (C.w h4) (src := kx_B E + a) (dst := kx_B E + b) (cs := arrV (E.2.2.2 1) N (fun j => .long (f j))) (cd := arrV (E.2.2.2 1) N (fun j => .long (g j))) (srcPos := 0) (destPos := 0) (n := nI N) (by rw [hT]; exact hc0) (by rw [hT]; exact hc1)
    (fun _ q => by cases q) (fun _ q => by cases q) (fun q => by cases q) (fun q => by cases q) hk0 hk1 hkk0 hkk1 (by simp [refKind]) (by decide) (by decide) (nI_pos (by omega))
    (by rw [zI, htI, arrV_size]; omega) (by rw [zI, htI, arrV_size]; omega)
    (fun vm₁ _ i hi => by
      rw [hcl] at hi
      have e : (arrV (E.2.2.2 1) N (fun j => .long (f j))).slots.getD ((0 : Int32).toNatClampNeg + i) .null = .long (f i) := by
        rw [z0, Nat.zero_add, Array.getD_eq_getD_getElem?, arrV_read _ _ hi]
        rfl
      refine ⟨?_, ?_⟩
      · rw [e]
        rfl
      · rw [e]
        exact trivial)
    (g := F0 m pc ls (kx_s E (.int (nI N) :: .int 0 :: .ref b :: .int 0 :: .ref a :: st))) rfl (V.1.trans C.ml.symm) (rest := kx_s E st) rfl (by rw [C.bt]; exact hdg) (by omega) (by show 2 * 0 + ((List.map (kx_v (kx_B E)) st).map fun v => v.category).sum + _ ≤ _; omega)
  have e1 : copied (arrV (E.2.2.2 1) N (fun j => .long (f j))) (arrV (E.2.2.2 1) N (fun j => .long (g j))) 0 0 (nI N) = arrV (E.2.2.2 1) N (fun j => .long (va_cpy f g 0 0 N j)) := by
    have e0 := va_copied (fun z => Value.long z) (E.2.2.2 1) (E.2.2.2 1) (n0 := N) (n1 := N) (sp := 0) (dp := 0) (n := N) f g (by omega)
    unfold copied
    rw [hcl, z0]
    exact e0
  rw [e1] at X' step
  have hlt : kx_B E + b < H.size := (Array.getElem?_eq_some_iff.mp hc1).1
  have hheap : ((T.setVm vm').setCell (kx_B E + b) (arrV (E.2.2.2 1) N (fun j => .long (va_cpy f g 0 0 N j)))).heap = H.setIfInBounds (kx_B E + b) (arrV (E.2.2.2 1) N (fun j => .long (va_cpy f g 0 0 N j))) := by rw [← hT]; rfl
  obtain ⟨t, a1, b1⟩ := kk p e R s m args below meth c (H.setIfInBounds (kx_B E + b) (arrV (E.2.2.2 1) N (fun j => .long (va_cpy f g 0 0 N j)))) _ ls cells slots C (P.set (by simp) (fun q hq => by simp [Array.getElem?_setIfInBounds, Ne.symm hq]) (by show (H.setIfInBounds _ _)[_]? = some _; simp [Array.getElem?_setIfInBounds, hlt])) (fun q hq => by
      rcases List.mem_append.mp hq with g | g
      · exact L q g
      · obtain ⟨z, -, hz⟩ := List.mem_map.mp g
        rw [← hz]
        exact Nat.le_add_right _ _) V hk hj _ hheap X'
  exact ⟨t, step t a1, b1⟩
end KXM
end
section
abbrev kW : Type := (Nat → Nat → Int32) × (Nat → Nat → Int64) × (Nat → Nat → Int32)
def wk (i : Nat) : Nat × Nat :=
  if i = 0 then (3, kc_EK) else if i = 1 then (3, kc_L) else if i = 5 then (2, 500) else if i < 9 then (1, 500) else if i = 9 then (1, 16) else if i = 10 then (1, 8) else if i = 11 then (4, 0)
  else if i < 52 then (if (i - 12) % 5 = 0 then (3, kc_P) else if (i - 12) % 5 < 3 then (1, 8) else (2, 16))
  else if i = 52 then (4, 1) else if i < 61 then (3, kc_S) else if i = 61 then (3, kc_M) else if i < 66 then (1, 500) else if i = 66 then (2, 500) else if i < 69 then (2, 128) else if i < 71 then (1, 64) else if i < 78 then (1, 8) else if i = 78 then (2, 1) else (0, 0)
def wf (i k : Nat) : Option Nat :=
  if i = 0 then (if k = 0 then some 1 else if k = 1 then some 11 else some 52) else if i = 1 then (if k < 9 then some (2 + k) else none)
  else if i = 61 then (if k < 3 then none else some (59 + k)) else if i < 12 then none else if i < 52 then (if k = 1 then some (i + 1) else if k = 2 then some (i + 2) else if k = 3 then some (i + 3) else if k = 5 then some (i + 4) else none) else none
def wq (i k : Nat) : Option Nat := if i = 11 then (if k < 8 then some (12 + 5 * k) else none) else (if k < 8 then some (53 + k) else none)
def wn (ci : Nat) : Nat := if ci = kc_EK then 3 else if ci = kc_L then 11 else if ci = kc_P then 8 else if ci = kc_S then 4 else 19
def wd (w : kW) : kx_H := fun i => match wk i with
  | (1, N) => some (kx_ci N (w.1 i))
  | (2, N) => some (kx_cl N (w.2.1 i))
  | (3, ci) => some (kx_co ci ((List.range (wn ci)).map (fun k => match wf i k with | some r => Value.ref r | none => Value.int (w.2.2 i k))))
  | (4, t) => some (kx_cq t 8 (wq i))
  | _ => none
def ui (w : kW) (i k : Nat) (x : Int32) : kW := (fun a => if a = i then upd (w.1 a) k x else w.1 a, w.2)
def ul (w : kW) (i k : Nat) (x : Int64) : kW := (w.1, fun a => if a = i then vp_updL (w.2.1 a) k x else w.2.1 a, w.2.2)
def uL (w : kW) (i : Nat) (f : Nat → Int64) : kW := (w.1, fun a => if a = i then f else w.2.1 a, w.2.2)
def uo (w : kW) (i k : Nat) (x : Int32) : kW := (w.1, w.2.1, fun a b => if a = i ∧ b = k then x else w.2.2 a b)
theorem wd_i {w : kW} {i N : Nat} (hk : wk i = (1, N)) : wd w i = some (kx_ci N (w.1 i)) := by simp [wd, hk]
theorem wd_l {w : kW} {i N : Nat} (hk : wk i = (2, N)) : wd w i = some (kx_cl N (w.2.1 i)) := by simp [wd, hk]
theorem wd_q {w : kW} {i t : Nat} (hk : wk i = (4, t)) : wd w i = some (kx_cq t 8 (wq i)) := by simp [wd, hk]
theorem wd_o {w : kW} {i ci : Nat} (hk : wk i = (3, ci)) : wd w i = some (kx_co ci ((List.range (wn ci)).map (fun k => match wf i k with | some r => Value.ref r | none => Value.int (w.2.2 i k)))) := by simp [wd, hk]
theorem wd_si {w : kW} {i N k : Nat} {x : Int32} (hk : wk i = (1, N)) : kx_set (wd w) i (kx_ci N (upd (w.1 i) k x)) = wd (ui w i k x) := by
  funext a
  by_cases h : a = i
  · subst h
    rw [kx_set_s, wd_i hk]
    simp [ui]
  · rw [kx_set_n h]
    simp only [wd, ui, if_neg h]
theorem wd_sl {w : kW} {i N k : Nat} {x : Int64} (hk : wk i = (2, N)) : kx_set (wd w) i (kx_cl N (vp_updL (w.2.1 i) k x)) = wd (ul w i k x) := by
  funext a
  by_cases h : a = i
  · subst h
    rw [kx_set_s, wd_l hk]
    simp [ul]
  · rw [kx_set_n h]
    simp only [wd, ul, if_neg h]
theorem wd_sL {w : kW} {i N : Nat} {f : Nat → Int64} (hk : wk i = (2, N)) : kx_set (wd w) i (kx_cl N f) = wd (uL w i f) := by
  funext a
  by_cases h : a = i
  · subst h
    rw [kx_set_s, wd_l hk]
    simp [uL]
  · rw [kx_set_n h]
    simp only [wd, uL, if_neg h]
theorem wd_so {w : kW} {i ci k : Nat} {x : Int32} (hk : wk i = (3, ci)) (hf : wf i k = none) : kx_set (wd w) i (kx_co ci (((List.range (wn ci)).map (fun k => match wf i k with | some r => Value.ref r | none => Value.int (w.2.2 i k))).set k (.int x))) = wd (uo w i k x) := by
  funext a
  by_cases h : a = i
  · subst h
    rw [kx_set_s, wd_o hk]
    congr 3
    apply List.ext_getElem?
    intro z
    rw [List.getElem?_set, List.getElem?_map, List.getElem?_map]
    by_cases hz : k = z
    · subst hz
      by_cases hl : k < wn ci
      · simp [hl, hf, uo]
      · simp [hl]
    · rw [if_neg hz]
      by_cases hl : z < wn ci
      · rw [List.getElem?_range hl]
        have hz2 : ¬ z = k := fun q => hz q.symm
        simp [uo, hz2]
      · simp [hl]
  · rw [kx_set_n h]
    have h' : ∀ z, ¬ (a = i ∧ z = k) := fun z q => h q.1
    simp only [wd, uo, if_neg (h' _)]
def wx (a b : kW) : kW := (fun i => if i < 61 then a.1 i else b.1 i, fun i => if i < 61 then a.2.1 i else b.2.1 i, fun i k => if i < 61 then a.2.2 i k else b.2.2 i k)
theorem wx_ai {a b : kW} {i : Nat} (h : i < 61) : (wx a b).1 i = a.1 i := by simp [wx, h]
theorem wx_al {a b : kW} {i : Nat} (h : i < 61) : (wx a b).2.1 i = a.2.1 i := by simp [wx, h]
theorem wx_ao {a b : kW} {i k : Nat} (h : i < 61) : (wx a b).2.2 i k = a.2.2 i k := by simp [wx, h]
theorem wx_bi {a b : kW} {i : Nat} (h : 61 ≤ i) : (wx a b).1 i = b.1 i := by simp [wx, Nat.not_lt.mpr h]
theorem wx_bl {a b : kW} {i : Nat} (h : 61 ≤ i) : (wx a b).2.1 i = b.2.1 i := by simp [wx, Nat.not_lt.mpr h]
theorem wx_bo {a b : kW} {i k : Nat} (h : 61 ≤ i) : (wx a b).2.2 i k = b.2.2 i k := by simp [wx, Nat.not_lt.mpr h]
theorem ui_xa {a b : kW} {i k : Nat} {x : Int32} (h : i < 61) : ui (wx a b) i k x = wx (ui a i k x) b := by
  refine Prod.ext (funext fun z => ?_) rfl
  by_cases e : z = i
  · subst e
    simp [wx, ui, h]
  · by_cases e2 : z < 61 <;> simp [wx, ui, e, e2]
theorem ul_xa {a b : kW} {i k : Nat} {x : Int64} (h : i < 61) : ul (wx a b) i k x = wx (ul a i k x) b := by
  refine Prod.ext rfl (Prod.ext (funext fun z => ?_) rfl)
  by_cases e : z = i
  · subst e
    simp [wx, ul, h]
  · by_cases e2 : z < 61 <;> simp [wx, ul, e, e2]
theorem uL_xa {a b : kW} {i : Nat} {f : Nat → Int64} (h : i < 61) : uL (wx a b) i f = wx (uL a i f) b := by
  refine Prod.ext rfl (Prod.ext (funext fun z => ?_) rfl)
  by_cases e : z = i
  · subst e
    simp [wx, uL, h]
  · by_cases e2 : z < 61 <;> simp [wx, uL, e, e2]
theorem uo_xa {a b : kW} {i k : Nat} {x : Int32} (h : i < 61) : uo (wx a b) i k x = wx (uo a i k x) b := by
  refine Prod.ext rfl (Prod.ext rfl (funext fun z => funext fun y => ?_))
  by_cases e : z = i
  · subst e
    simp [wx, uo, h]
  · by_cases e2 : z < 61 <;> simp [wx, uo, e, e2]
theorem ui_xb {a b : kW} {i k : Nat} {x : Int32} (h : 61 ≤ i) : ui (wx a b) i k x = wx a (ui b i k x) := by
  refine Prod.ext (funext fun z => ?_) rfl
  by_cases e : z = i
  · subst e
    simp [wx, ui, Nat.not_lt.mpr h]
  · by_cases e2 : z < 61 <;> simp [wx, ui, e, e2]
theorem ul_xb {a b : kW} {i k : Nat} {x : Int64} (h : 61 ≤ i) : ul (wx a b) i k x = wx a (ul b i k x) := by
  refine Prod.ext rfl (Prod.ext (funext fun z => ?_) rfl)
  by_cases e : z = i
  · subst e
    simp [wx, ul, Nat.not_lt.mpr h]
  · by_cases e2 : z < 61 <;> simp [wx, ul, e, e2]
theorem uL_xb {a b : kW} {i : Nat} {f : Nat → Int64} (h : 61 ≤ i) : uL (wx a b) i f = wx a (uL b i f) := by
  refine Prod.ext rfl (Prod.ext (funext fun z => ?_) rfl)
  by_cases e : z = i
  · subst e
    simp [wx, uL, Nat.not_lt.mpr h]
  · by_cases e2 : z < 61 <;> simp [wx, uL, e, e2]
theorem uo_xb {a b : kW} {i k : Nat} {x : Int32} (h : 61 ≤ i) : uo (wx a b) i k x = wx a (uo b i k x) := by
  refine Prod.ext rfl (Prod.ext rfl (funext fun z => funext fun y => ?_))
  by_cases e : z = i
  · subst e
    simp [wx, uo, Nat.not_lt.mpr h]
  · by_cases e2 : z < 61 <;> simp [wx, uo, e, e2]
section KWR
variable {E : kx_E} {I : kx_I} {d mc ms : Nat} {Q : kx_Q} {k j pc : Nat} {lv : List (Nat × Value)} {st : List Value} {n : Nat} {a b : kW}
theorem ka_iald {i N ix : Nat} {x : Int32} (hdg : decode I.2.1 pc = .ok (.iaload, 1)) (hi : i < 61) (hk : wk i = (1, N)) (hx : kx_ix x ix N) (kk : kx_V E I d mc ms Q k j (pc + 1) lv (.int (a.1 i ix) :: st) n (wd (wx a b))) : kx_V E I d mc ms Q k j pc lv (.int x :: .ref i :: st) n (wd (wx a b)) := kx_iald hdg (wd_i hk) hx (by rw [wx_ai hi]; exact kk)
theorem ka_lald {i N ix : Nat} {x : Int32} (hdg : decode I.2.1 pc = .ok (.laload, 1)) (hi : i < 61) (hk : wk i = (2, N)) (hx : kx_ix x ix N) (kk : kx_V E I d mc ms Q k j (pc + 1) lv (.long (a.2.1 i ix) :: st) n (wd (wx a b))) : kx_V E I d mc ms Q k j pc lv (.int x :: .ref i :: st) n (wd (wx a b)) := kx_lald hdg (wd_l hk) hx (by rw [wx_al hi]; exact kk)
theorem ka_iast {i N ix : Nat} {x y : Int32} (hdg : decode I.2.1 pc = .ok (.iastore, 1)) (hi : i < 61) (hk : wk i = (1, N)) (hx : kx_ix x ix N) (kk : kx_V E I d mc ms Q k j (pc + 1) lv st n (wd (wx (ui a i ix y) b))) : kx_V E I d mc ms Q k j pc lv (.int y :: .int x :: .ref i :: st) n (wd (wx a b)) := kx_iast hdg (wd_i hk) hx (kx_eqh ((wd_si hk).trans (congrArg wd (ui_xa hi))) kk)
theorem ka_last {i N ix : Nat} {x : Int32} {y : Int64} (hdg : decode I.2.1 pc = .ok (.lastore, 1)) (hi : i < 61) (hk : wk i = (2, N)) (hx : kx_ix x ix N) (kk : kx_V E I d mc ms Q k j (pc + 1) lv st n (wd (wx (ul a i ix y) b))) : kx_V E I d mc ms Q k j pc lv (.long y :: .int x :: .ref i :: st) n (wd (wx a b)) := kx_last hdg (wd_l hk) hx (kx_eqh ((wd_sl hk).trans (congrArg wd (ul_xa hi))) kk)
theorem ka_geti {index i ci kf : Nat} (hdg : decode I.2.1 pc = .ok (.getfield index, 3)) (hf : kx_fl I.1 index ci kf) (hi : i < 61) (hk : wk i = (3, ci)) (hl : kf < wn ci) (hw : wf i kf = none) (kk : kx_V E I d mc ms Q k j (pc + 3) lv (.int (a.2.2 i kf) :: st) n (wd (wx a b))) : kx_V E I d mc ms Q k j pc lv (.ref i :: st) n (wd (wx a b)) :=
  kx_get (v := .int (a.2.2 i kf)) hdg hf (wd_o hk) (by simp [hl, hw, wx_ao hi]) kk
theorem ka_puti {index i ci kf : Nat} {x : Int32} (hdg : decode I.2.1 pc = .ok (.putfield index, 3)) (hf : kx_fl I.1 index ci kf) (hfw : kx_fw I.1 I.2.2.2.2.2 ci kf .int) (hi : i < 61) (hk : wk i = (3, ci)) (hl : kf < wn ci) (hw : wf i kf = none) (kk : kx_V E I d mc ms Q k j (pc + 3) lv st n (wd (wx (uo a i kf x) b))) : kx_V E I d mc ms Q k j pc lv (.int x :: .ref i :: st) n (wd (wx a b)) :=
  kx_put hdg hf hfw (wd_o hk) (fun _ => rfl) (fun _ => rfl) (by simp [hl]) (kx_eqh ((wd_so hk hw).trans (congrArg wd (uo_xa hi))) kk)
theorem km_iald {i N ix : Nat} {x : Int32} (hdg : decode I.2.1 pc = .ok (.iaload, 1)) (hi : 61 ≤ i) (hk : wk i = (1, N)) (hx : kx_ix x ix N) (kk : kx_V E I d mc ms Q k j (pc + 1) lv (.int (b.1 i ix) :: st) n (wd (wx a b))) : kx_V E I d mc ms Q k j pc lv (.int x :: .ref i :: st) n (wd (wx a b)) := kx_iald hdg (wd_i hk) hx (by rw [wx_bi hi]; exact kk)
theorem km_lald {i N ix : Nat} {x : Int32} (hdg : decode I.2.1 pc = .ok (.laload, 1)) (hi : 61 ≤ i) (hk : wk i = (2, N)) (hx : kx_ix x ix N) (kk : kx_V E I d mc ms Q k j (pc + 1) lv (.long (b.2.1 i ix) :: st) n (wd (wx a b))) : kx_V E I d mc ms Q k j pc lv (.int x :: .ref i :: st) n (wd (wx a b)) := kx_lald hdg (wd_l hk) hx (by rw [wx_bl hi]; exact kk)
theorem km_iast {i N ix : Nat} {x y : Int32} (hdg : decode I.2.1 pc = .ok (.iastore, 1)) (hi : 61 ≤ i) (hk : wk i = (1, N)) (hx : kx_ix x ix N) (kk : kx_V E I d mc ms Q k j (pc + 1) lv st n (wd (wx a (ui b i ix y)))) : kx_V E I d mc ms Q k j pc lv (.int y :: .int x :: .ref i :: st) n (wd (wx a b)) := kx_iast hdg (wd_i hk) hx (kx_eqh ((wd_si hk).trans (congrArg wd (ui_xb hi))) kk)
theorem km_last {i N ix : Nat} {x : Int32} {y : Int64} (hdg : decode I.2.1 pc = .ok (.lastore, 1)) (hi : 61 ≤ i) (hk : wk i = (2, N)) (hx : kx_ix x ix N) (kk : kx_V E I d mc ms Q k j (pc + 1) lv st n (wd (wx a (ul b i ix y)))) : kx_V E I d mc ms Q k j pc lv (.long y :: .int x :: .ref i :: st) n (wd (wx a b)) := kx_last hdg (wd_l hk) hx (kx_eqh ((wd_sl hk).trans (congrArg wd (ul_xb hi))) kk)
theorem km_geti {index i ci kf : Nat} (hdg : decode I.2.1 pc = .ok (.getfield index, 3)) (hf : kx_fl I.1 index ci kf) (hi : 61 ≤ i) (hk : wk i = (3, ci)) (hl : kf < wn ci) (hw : wf i kf = none) (kk : kx_V E I d mc ms Q k j (pc + 3) lv (.int (b.2.2 i kf) :: st) n (wd (wx a b))) : kx_V E I d mc ms Q k j pc lv (.ref i :: st) n (wd (wx a b)) :=
  kx_get (v := .int (b.2.2 i kf)) hdg hf (wd_o hk) (by simp [hl, hw, wx_bo hi]) kk
theorem km_puti {index i ci kf : Nat} {x : Int32} (hdg : decode I.2.1 pc = .ok (.putfield index, 3)) (hf : kx_fl I.1 index ci kf) (hfw : kx_fw I.1 I.2.2.2.2.2 ci kf .int) (hi : 61 ≤ i) (hk : wk i = (3, ci)) (hl : kf < wn ci) (hw : wf i kf = none) (kk : kx_V E I d mc ms Q k j (pc + 3) lv st n (wd (wx a (uo b i kf x)))) : kx_V E I d mc ms Q k j pc lv (.int x :: .ref i :: st) n (wd (wx a b)) :=
  kx_put hdg hf hfw (wd_o hk) (fun _ => rfl) (fun _ => rfl) (by simp [hl]) (kx_eqh ((wd_so hk hw).trans (congrArg wd (uo_xb hi))) kk)
theorem kw_getr {index i ci kf r : Nat} {w : kW} (hdg : decode I.2.1 pc = .ok (.getfield index, 3)) (hf : kx_fl I.1 index ci kf) (hk : wk i = (3, ci)) (hl : kf < wn ci) (hw : wf i kf = some r) (kk : kx_V E I d mc ms Q k j (pc + 3) lv (.ref r :: st) n (wd (w))) : kx_V E I d mc ms Q k j pc lv (.ref i :: st) n (wd (w)) :=
  kx_get hdg hf (wd_o hk) (by simp [hl, hw]) kk
theorem kw_aald {i t ix r : Nat} {x : Int32} {w : kW} (hdg : decode I.2.1 pc = .ok (.aaload, 1)) (ht : ∃ Cn, ∀ aC, (kx_tys aC)[2 + t]? = some (aC (2 + t), .object Cn)) (hk : wk i = (4, t)) (hx : kx_ix x ix 8) (hb : wq i ix = some r) (kk : kx_V E I d mc ms Q k j (pc + 1) lv (.ref r :: st) n (wd (w))) : kx_V E I d mc ms Q k j pc lv (.int x :: .ref i :: st) n (wd (w)) := kx_aald hdg ht (wd_q hk) hx hb kk
end KWR
theorem ui_s {w : kW} {i k : Nat} {x : Int32} : (ui w i k x).1 i k = x := by simp [ui, upd]
theorem ui_k {w : kW} {i k a : Nat} {x : Int32} (h : a ≠ k) : (ui w i k x).1 i a = w.1 i a := by simp [ui, upd, h]
theorem ui_n {w : kW} {i k a : Nat} {x : Int32} (h : a ≠ i) : (ui w i k x).1 a = w.1 a := by simp [ui, h]
theorem ul_s {w : kW} {i k : Nat} {x : Int64} : (ul w i k x).2.1 i k = x := by simp [ul, vp_updL]
theorem ul_k {w : kW} {i k a : Nat} {x : Int64} (h : a ≠ k) : (ul w i k x).2.1 i a = w.2.1 i a := by simp [ul, vp_updL, h]
theorem ul_n {w : kW} {i k a : Nat} {x : Int64} (h : a ≠ i) : (ul w i k x).2.1 a = w.2.1 a := by simp [ul, h]
theorem uo_s {w : kW} {i k : Nat} {x : Int32} : (uo w i k x).2.2 i k = x := by simp [uo]
theorem uo_k {w : kW} {i k a : Nat} {x : Int32} (h : a ≠ k) : (uo w i k x).2.2 i a = w.2.2 i a := by simp [uo, h]
theorem uo_n {w : kW} {i k a b : Nat} {x : Int32} (h : a ≠ i) : (uo w i k x).2.2 a b = w.2.2 a b := by simp [uo, h]
theorem wk_p0 {p : Nat} (h : p < 8) : wk (12 + 5 * p) = (3, kc_P) := by revert p; decide
theorem wk_p1 {p : Nat} (h : p < 8) : wk (12 + 5 * p + 1) = (1, 8) := by revert p; decide
theorem wk_p2 {p : Nat} (h : p < 8) : wk (12 + 5 * p + 2) = (1, 8) := by revert p; decide
theorem wk_p3 {p : Nat} (h : p < 8) : wk (12 + 5 * p + 3) = (2, 16) := by revert p; decide
theorem wk_p4 {p : Nat} (h : p < 8) : wk (12 + 5 * p + 4) = (2, 16) := by revert p; decide
theorem wf_p1 {p : Nat} (h : p < 8) : wf (12 + 5 * p) 1 = some (12 + 5 * p + 1) := by revert p; decide
theorem wf_p2 {p : Nat} (h : p < 8) : wf (12 + 5 * p) 2 = some (12 + 5 * p + 2) := by revert p; decide
theorem wf_p3 {p : Nat} (h : p < 8) : wf (12 + 5 * p) 3 = some (12 + 5 * p + 3) := by revert p; decide
theorem wf_p5 {p : Nat} (h : p < 8) : wf (12 + 5 * p) 5 = some (12 + 5 * p + 4) := by revert p; decide
theorem wf_p0 {p : Nat} (h : p < 8) : wf (12 + 5 * p) 0 = none := by revert p; decide
theorem wf_p4 {p : Nat} (h : p < 8) : wf (12 + 5 * p) 4 = none := by revert p; decide
theorem wf_p6 {p : Nat} (h : p < 8) : wf (12 + 5 * p) 6 = none := by revert p; decide
theorem wf_p7 {p : Nat} (h : p < 8) : wf (12 + 5 * p) 7 = none := by revert p; decide
theorem wk_s {u : Nat} (h : u < 8) : wk (53 + u) = (3, kc_S) := by revert u; decide
theorem wf_s {u k : Nat} (h : u < 8) (hk : k < 4) : wf (53 + u) k = none := by
  have : ∀ u, u < 8 → ∀ k, k < 4 → wf (53 + u) k = none := by decide
  exact this u h k hk
theorem wq_p {p : Nat} (h : p < 8) : wq 11 p = some (12 + 5 * p) := by simp [wq, h]
theorem wq_s {u : Nat} (h : u < 8) : wq 52 u = some (53 + u) := by simp [wq, h]
end
section
def cn (f : Nat → Int32) (x : Int32) : Nat → Nat
  | 0 => 0
  | k + 1 => cn f x k + (if f k = x then 1 else 0)
theorem cn_le (f : Nat → Int32) (x : Int32) : ∀ k, cn f x k ≤ k
  | 0 => Nat.le_refl 0
  | k + 1 => by
    have h := cn_le f x k
    unfold cn
    split <;> omega
theorem cn_mono (f : Nat → Int32) (x : Int32) {a : Nat} : ∀ {b : Nat}, a ≤ b → cn f x a ≤ cn f x b
  | 0, h => by rw [Nat.le_zero.mp h]; exact Nat.le_refl _
  | b + 1, h => by
    rcases Nat.lt_or_ge b a with q | q
    · rw [show a = b + 1 by omega]; exact Nat.le_refl _
    · have := cn_mono f x q
      show _ ≤ cn f x b + _
      omega
theorem cn_congr {f g : Nat → Int32} (x : Int32) : ∀ {k : Nat}, (∀ i, i < k → f i = g i) → cn f x k = cn g x k
  | 0, _ => rfl
  | k + 1, h => by
    show cn f x k + _ = cn g x k + _
    rw [cn_congr x (fun i hi => h i (by omega)), h k (by omega)]
theorem cn_upd {f : Nat → Int32} {x y : Int32} {i k : Nat} (h : k ≤ i) : cn (upd f i y) x k = cn f x k :=
  cn_congr x (fun a ha => pk_un (by omega))
theorem cn_put {f : Nat → Int32} {x y : Int32} {k : Nat} : cn (upd f k y) x (k + 1) = cn f x k + (if y = x then 1 else 0) := by
  show cn (upd f k y) x k + (if upd f k y k = x then 1 else 0) = _
  rw [cn_upd (Nat.le_refl k), pk_us]
theorem nI_inj {a b : Nat} (ha : a < 2 ^ 31) (hb : b < 2 ^ 31) (h : nI a = nI b) : a = b := (nI_eq ha hb).mp h
theorem nI_m1 {a : Nat} (ha : a < 2 ^ 31) : ¬ ((-1 : Int32) = nI a) := by
  intro h
  have h1 : (-1 : Int32).toInt = (nI a).toInt := by rw [h]
  rw [nI_toInt ha] at h1
  have h2 : (-1 : Int32).toInt = -1 := by decide
  omega
def LgA (st ki co ca : Nat → Int32) (sz : Nat) : Prop := ∀ k, k < sz → (∃ s, s < 16 ∧ st k = nI s) ∧ (∃ t, t < 8 ∧ ki k = nI t) ∧ ((co k = -1) ∨ ∃ p c, p < 8 ∧ c < k ∧ co k = nI p ∧ ca k = nI c)
def LgV (ve st : Nat → Int32) (sz : Nat) : Prop := ∀ k, k < sz → ve k = nI (cn st (st k) k)
def LgS (ss st : Nat → Int32) (sz : Nat) : Prop := ∀ s, s < 16 → ss s = nI (cn st (nI s) sz)
def LgE (es co : Nat → Int32) (sz : Nat) : Prop := ∀ p, p < 8 → es p = nI (cn co (nI p) sz)
def LgH (co ca : Nat → Int32) (lo sz p c : Nat) : Prop := ∃ k, lo ≤ k ∧ k < sz ∧ co k = nI p ∧ ca k = nI c
def LgB (em co ca : Nat → Int32) (sz : Nat) : Prop := ∀ c p, c < 500 → p < 8 → (em c &&& ((1 : Int32) <<< (nI p &&& 31)) = 0 ↔ ¬ LgH co ca 0 sz p c)
def LgU (co ca : Nat → Int32) (sz : Nat) : Prop := ∀ k k' p, k < sz → k' < sz → p < 8 → co k = nI p → co k' = nI p → ca k = ca k' → k = k'
section Put
variable {st ki co ca ve ss es em : Nat → Int32} {sz s t p c : Nat}
theorem LgA.put (h : LgA st ki co ca sz) (hs : s < 16) (ht : t < 8) : LgA (upd st sz (nI s)) (upd ki sz (nI t)) (upd co sz (-1)) (upd ca sz (-1)) (sz + 1) := by
  intro k hk
  by_cases e : k = sz
  · subst e
    exact ⟨⟨s, hs, pk_us⟩, ⟨t, ht, pk_us⟩, Or.inl pk_us⟩
  · rw [pk_un e, pk_un e, pk_un e, pk_un e]
    exact h k (by omega)
theorem LgA.emit (h : LgA st ki co ca sz) (hs : s < 16) (ht : t < 8) (hp : p < 8) (hc : c < sz) : LgA (upd st sz (nI s)) (upd ki sz (nI t)) (upd co sz (nI p)) (upd ca sz (nI c)) (sz + 1) := by
  intro k hk
  by_cases e : k = sz
  · subst e
    exact ⟨⟨s, hs, pk_us⟩, ⟨t, ht, pk_us⟩, Or.inr ⟨p, c, hp, hc, pk_us, pk_us⟩⟩
  · rw [pk_un e, pk_un e, pk_un e, pk_un e]
    exact h k (by omega)
theorem LgV.put (h : LgV ve st sz) (hS : LgS ss st sz) (hs : s < 16) : LgV (upd ve sz (ss s)) (upd st sz (nI s)) (sz + 1) := by
  intro k hk
  by_cases e : k = sz
  · subst e
    rw [pk_us, pk_us, cn_upd (Nat.le_refl k)]
    exact hS s hs
  · rw [pk_un e, pk_un e, cn_upd (by omega)]
    exact h k (by omega)
theorem LgS.put (h : LgS ss st sz) (hs : s < 16) : LgS (upd ss s (ss s + 1)) (upd st sz (nI s)) (sz + 1) := by
  intro a ha
  rw [cn_put]
  by_cases e : a = s
  · subst e
    rw [pk_us, if_pos rfl, h a ha, nI_1]
  · rw [pk_un e, if_neg (fun q => e (nI_inj (by omega) (by omega) q).symm)]
    exact h a ha
theorem LgE.put (h : LgE es co sz) : LgE es (upd co sz (-1)) (sz + 1) := by
  intro a ha
  rw [cn_put, if_neg (nI_m1 (by omega))]
  exact h a ha
theorem LgE.emit (h : LgE es co sz) (hp : p < 8) : LgE (upd es p (es p + 1)) (upd co sz (nI p)) (sz + 1) := by
  intro a ha
  rw [cn_put]
  by_cases e : a = p
  · subst e
    rw [pk_us, if_pos rfl, h a ha, nI_1]
  · rw [pk_un e, if_neg (fun q => e (nI_inj (by omega) (by omega) q).symm)]
    exact h a ha
theorem LgH.up {lo a : Nat} {x y : Int32} (hx : ¬ (x = nI p ∧ y = nI c)) : LgH (upd co sz x) (upd ca sz y) lo (sz + 1) p c ↔ LgH co ca lo sz p c := by
  constructor
  · rintro ⟨k, h0, h1, h2, h3⟩
    by_cases e : k = sz
    · subst e
      rw [pk_us] at h2 h3
      exact absurd ⟨h2, h3⟩ hx
    · rw [pk_un e] at h2 h3
      exact ⟨k, h0, by omega, h2, h3⟩
  · rintro ⟨k, h0, h1, h2, h3⟩
    exact ⟨k, h0, by omega, by rw [pk_un (by omega)]; exact h2, by rw [pk_un (by omega)]; exact h3⟩
theorem LgB.put (h : LgB em co ca sz) : LgB em (upd co sz (-1)) (upd ca sz (-1)) (sz + 1) := by
  intro c p hc hp
  rw [h c p hc hp, LgH.up (a := 0) (fun q => nI_m1 (by omega) q.1)]
theorem LgU.put (h : LgU co ca sz) : LgU (upd co sz (-1)) (upd ca sz (-1)) (sz + 1) := by
  intro k k' p hk hk' hp h1 h2 h3
  have e1 : k ≠ sz := fun e => by
    subst e
    rw [pk_us] at h1
    exact nI_m1 (by omega) h1
  have e2 : k' ≠ sz := fun e => by
    subst e
    rw [pk_us] at h2
    exact nI_m1 (by omega) h2
  rw [pk_un e1] at h1 h3
  rw [pk_un e2] at h2 h3
  exact h k k' p (by omega) (by omega) hp h1 h2 h3
theorem LgU.emit (h : LgU co ca sz) (hp : p < 8) (hn : ¬ LgH co ca 0 sz p c) : LgU (upd co sz (nI p)) (upd ca sz (nI c)) (sz + 1) := by
  intro k k' p' hk hk' hp' h1 h2 h3
  by_cases e1 : k = sz <;> by_cases e2 : k' = sz
  · omega
  · subst e1
    rw [pk_us] at h1 h3
    rw [pk_un e2] at h2 h3
    have hpp : p = p' := nI_inj (by omega) (by omega) h1
    subst hpp
    exact absurd ⟨k', Nat.zero_le _, by omega, h2, h3.symm⟩ hn
  · subst e2
    rw [pk_us] at h2 h3
    rw [pk_un e1] at h1 h3
    have hpp : p = p' := nI_inj (by omega) (by omega) h2
    subst hpp
    exact absurd ⟨k, Nat.zero_le _, by omega, h1, h3⟩ hn
  · rw [pk_un e1] at h1 h3
    rw [pk_un e2] at h2 h3
    exact h k k' p' (by omega) (by omega) hp' h1 h2 h3
end Put
def kb (p : Nat) : Int32 := (1 : Int32) <<< (nI p &&& 31)
theorem kb_bv : ∀ p, p < 8 → (kb p).toBitVec = BitVec.twoPow 32 p := by decide +kernel
theorem kb_bit (x : Int32) {p : Nat} (hp : p < 8) : x &&& kb p = 0 ↔ x.toBitVec.getLsbD p = false := by
  rw [← Int32.toBitVec_inj]
  rw [Int32.toBitVec_and, kb_bv p hp]
  have h0 : (0 : Int32).toBitVec = 0#32 := rfl
  rw [h0, BitVec.and_twoPow]
  cases h : x.toBitVec.getLsbD p
  · simp
  · simp only [if_true]
    constructor
    · intro q
      exfalso
      have := congrArg (fun z : BitVec 32 => z.getLsbD p) q
      simp [BitVec.getLsbD_twoPow, show p < 32 by omega] at this
    · intro q; cases q
theorem kb_or (x : Int32) {p q : Nat} (hp : p < 8) (hq : q < 8) : (x ||| kb p) &&& kb q = 0 ↔ q ≠ p ∧ x &&& kb q = 0 := by
  rw [kb_bit _ hq, kb_bit _ hq, Int32.toBitVec_or, kb_bv p hp, BitVec.getLsbD_or, BitVec.getLsbD_twoPow]
  simp only [Bool.or_eq_false_iff]
  constructor
  · rintro ⟨a, b⟩
    refine ⟨fun e => ?_, a⟩
    subst e
    simp [show q < 32 by omega] at b
  · rintro ⟨a, b⟩
    refine ⟨b, ?_⟩
    simp [Ne.symm a]
theorem kb_clr (x : Int32) {p q : Nat} (hp : p < 8) (hq : q < 8) : (x &&& (kb p ^^^ (-1))) &&& kb q = 0 ↔ q = p ∨ x &&& kb q = 0 := by
  rw [kb_bit _ hq, kb_bit _ hq, Int32.toBitVec_and, Int32.toBitVec_xor, kb_bv p hp, BitVec.getLsbD_and, BitVec.getLsbD_xor, BitVec.getLsbD_twoPow]
  have h1 : ((-1 : Int32).toBitVec).getLsbD q = true := by
    have : ∀ q, q < 8 → ((-1 : Int32).toBitVec).getLsbD q = true := by decide +kernel
    exact this q hq
  rw [h1]
  by_cases e : q = p
  · subst e
    simp [show q < 32 by omega]
  · have e' : ¬ p = q := fun z => e z.symm
    simp [e, e']
theorem LgB.emit {em co ca : Nat → Int32} {sz p c : Nat} (h : LgB em co ca sz) (hp : p < 8) (hc : c < 500) : LgB (upd em c (em c ||| kb p)) (upd co sz (nI p)) (upd ca sz (nI c)) (sz + 1) := by
  intro c' p' hc' hp'
  have hnew : LgH (upd co sz (nI p)) (upd ca sz (nI c)) 0 (sz + 1) p c := ⟨sz, Nat.zero_le _, by omega, pk_us, pk_us⟩
  by_cases e1 : c' = c
  · subst e1
    rw [pk_us]
    show (em c' ||| kb p) &&& kb p' = 0 ↔ _
    rw [kb_or _ hp hp']
    by_cases e2 : p' = p
    · subst e2
      exact ⟨fun q => absurd rfl q.1, fun q => absurd hnew q⟩
    · rw [LgH.up (a := 0) (fun q => e2 (nI_inj (by omega) (by omega) q.1).symm), ← h c' p' hc' hp']
      exact ⟨fun q => q.2, fun q => ⟨e2, q⟩⟩
  · rw [pk_un e1, h c' p' hc' hp', LgH.up (a := 0) (fun q => e1 (nI_inj (by omega) (by omega) q.2).symm)]
def CrS (ss st : Nat → Int32) (du q sz : Nat) : Prop := ∀ s, s < 16 → ss s = nI (cn st (nI s) sz - (cn st (nI s) q - cn st (nI s) du))
def CrE (es co : Nat → Int32) (du q sz : Nat) : Prop := ∀ p, p < 8 → es p = nI (cn co (nI p) sz - (cn co (nI p) q - cn co (nI p) du))
def CrB (em co ca : Nat → Int32) (du q sz : Nat) : Prop := ∀ c p, c < 500 → p < 8 → (em c &&& kb p = 0 ↔ ¬ (LgH co ca 0 du p c ∨ LgH co ca q sz p c))
section Cr
variable {st ki co ca ss es em ve : Nat → Int32} {du q sz s p c : Nat}
theorem CrS.start (h : LgS ss st sz) : CrS ss st du du sz := fun s hs => by rw [Nat.sub_self, Nat.sub_zero]; exact h s hs
theorem CrE.start (h : LgE es co sz) : CrE es co du du sz := fun s hs => by rw [Nat.sub_self, Nat.sub_zero]; exact h s hs
theorem LgH.split (h1 : du ≤ sz) : LgH co ca 0 sz p c ↔ (LgH co ca 0 du p c ∨ LgH co ca du sz p c) := by
  constructor
  · rintro ⟨k, g0, g1, g2, g3⟩
    rcases Nat.lt_or_ge k du with z | z
    · exact Or.inl ⟨k, g0, z, g2, g3⟩
    · exact Or.inr ⟨k, z, g1, g2, g3⟩
  · rintro (⟨k, g0, g1, g2, g3⟩ | ⟨k, g0, g1, g2, g3⟩)
    · exact ⟨k, g0, by omega, g2, g3⟩
    · exact ⟨k, Nat.zero_le _, g1, g2, g3⟩
theorem CrB.start (h : LgB em co ca sz) (h1 : du ≤ sz) : CrB em co ca du du sz := fun c p hc hp => by
  rw [← LgH.split h1]
  exact h c p hc hp
theorem CrS.step (h : CrS ss st du q sz) (h1 : du ≤ q) (h2 : q < sz) (hs : s < 16) (e : st q = nI s) : CrS (upd ss s (ss s - 1)) st du (q + 1) sz := by
  intro a ha
  have m1 : cn st (nI a) du ≤ cn st (nI a) q := cn_mono st _ h1
  have m2 : cn st (nI a) (q + 1) ≤ cn st (nI a) sz := cn_mono st _ (by omega)
  have m3 : cn st (nI a) (q + 1) = cn st (nI a) q + (if st q = nI a then 1 else 0) := rfl
  by_cases ea : a = s
  · subst ea
    rw [if_pos e] at m3
    rw [pk_us, h a ha]
    have e2 : cn st (nI a) sz - (cn st (nI a) q - cn st (nI a) du) = (cn st (nI a) sz - (cn st (nI a) (q + 1) - cn st (nI a) du)) + 1 := by omega
    rw [e2, nI_pred]
  · rw [if_neg (fun z => ea (nI_inj (by omega) (by omega) (e.symm.trans z)).symm)] at m3
    rw [pk_un ea, h a ha, m3]
    rfl
theorem CrE.skip (h : CrE es co du q sz) (e : co q = -1) : CrE es co du (q + 1) sz := by
  intro a ha
  have m3 : cn co (nI a) (q + 1) = cn co (nI a) q + (if co q = nI a then 1 else 0) := rfl
  rw [e, if_neg (nI_m1 (by omega)), Nat.add_zero] at m3
  rw [m3]
  exact h a ha
theorem CrE.step (h : CrE es co du q sz) (h1 : du ≤ q) (h2 : q < sz) (hp : p < 8) (e : co q = nI p) : CrE (upd es p (es p - 1)) co du (q + 1) sz := by
  intro a ha
  have m1 : cn co (nI a) du ≤ cn co (nI a) q := cn_mono co _ h1
  have m2 : cn co (nI a) (q + 1) ≤ cn co (nI a) sz := cn_mono co _ (by omega)
  have m3 : cn co (nI a) (q + 1) = cn co (nI a) q + (if co q = nI a then 1 else 0) := rfl
  by_cases ea : a = p
  · subst ea
    rw [if_pos e] at m3
    rw [pk_us, h a ha]
    have e2 : cn co (nI a) sz - (cn co (nI a) q - cn co (nI a) du) = (cn co (nI a) sz - (cn co (nI a) (q + 1) - cn co (nI a) du)) + 1 := by omega
    rw [e2, nI_pred]
  · rw [if_neg (fun z => ea (nI_inj (by omega) (by omega) (e.symm.trans z)).symm)] at m3
    rw [pk_un ea, h a ha, m3]
    rfl
theorem LgH.next (h2 : q < sz) (hn : ¬ (co q = nI p ∧ ca q = nI c)) : LgH co ca q sz p c ↔ LgH co ca (q + 1) sz p c := by
  constructor
  · rintro ⟨k, g0, g1, g2, g3⟩
    rcases Nat.eq_or_lt_of_le g0 with z | z
    · subst z
      exact absurd ⟨g2, g3⟩ hn
    · exact ⟨k, z, g1, g2, g3⟩
  · rintro ⟨k, g0, g1, g2, g3⟩
    exact ⟨k, by omega, g1, g2, g3⟩
theorem CrB.skip (h : CrB em co ca du q sz) (h2 : q < sz) (e : co q = -1) : CrB em co ca du (q + 1) sz := by
  intro c p hc hp
  rw [← LgH.next h2 (fun z => nI_m1 (by omega) (e.symm.trans z.1))]
  exact h c p hc hp
theorem CrB.step (h : CrB em co ca du q sz) (hU : LgU co ca sz) (h1 : du ≤ q) (h2 : q < sz) (h5 : sz ≤ 500) (hp : p < 8) (hc : c < 500) (e1 : co q = nI p) (e2 : ca q = nI c) : CrB (upd em c (em c &&& (kb p ^^^ (-1)))) co ca du (q + 1) sz := by
  intro c' p' hc' hp'
  by_cases z1 : c' = c
  · subst z1
    rw [pk_us, kb_clr _ hp hp']
    by_cases z2 : p' = p
    · subst z2
      refine ⟨fun _ => ?_, fun _ => Or.inl rfl⟩
      rintro (⟨k, g0, g1, g2, g3⟩ | ⟨k, g0, g1, g2, g3⟩)
      · have := hU k q p' (by omega) h2 hp' g2 e1 (g3.trans e2.symm)
        omega
      · have := hU k q p' g1 h2 hp' g2 e1 (g3.trans e2.symm)
        omega
    · rw [← LgH.next h2 (fun z => z2 (nI_inj (by omega) (by omega) (e1.symm.trans z.1)).symm), ← h c' p' hc' hp']
      exact ⟨fun z => z.resolve_left z2, Or.inr⟩
  · rw [pk_un z1, ← LgH.next h2 (fun z => z1 (nI_inj (by omega) (by omega) (e2.symm.trans z.2)).symm)]
    exact h c' p' hc' hp'
theorem CrS.done (h : CrS ss st du sz sz) (h1 : du ≤ sz) : LgS ss st du := fun s hs => by
  have m1 : cn st (nI s) du ≤ cn st (nI s) sz := cn_mono st _ h1
  rw [h s hs]
  congr 1
  omega
theorem CrE.done (h : CrE es co du sz sz) (h1 : du ≤ sz) : LgE es co du := fun s hs => by
  have m1 : cn co (nI s) du ≤ cn co (nI s) sz := cn_mono co _ h1
  rw [h s hs]
  congr 1
  omega
theorem CrB.done (h : CrB em co ca du sz sz) : LgB em co ca du := fun c p hc hp => by
  refine (h c p hc hp).trans ⟨fun z g => z (Or.inl g), fun z g => ?_⟩
  rcases g with g | ⟨k, g0, g1, -⟩
  · exact z g
  · omega
theorem LgA.less (h : LgA st ki co ca sz) (h1 : du ≤ sz) : LgA st ki co ca du := fun k hk => h k (by omega)
theorem LgV.less (h : LgV ve st sz) (h1 : du ≤ sz) : LgV ve st du := fun k hk => h k (by omega)
theorem LgU.less (h : LgU co ca sz) (h1 : du ≤ sz) : LgU co ca du := fun k k' p hk hk' => h k k' p (by omega) (by omega)
end Cr
end
section
abbrev c_L_init : ByteArray := prog_2_method_1_code
def y_L_init : MethodName := ⟨"EventKeeper$Log", "<init>", "()V"⟩
theorem d_L_init_0 : decode c_L_init 0 = .ok (.aload_n 0, 1) := by decide +kernel
theorem d_L_init_1 : decode c_L_init 1 = .ok (.invokespecial 3, 3) := by decide +kernel
theorem d_L_init_4 : decode c_L_init 4 = .ok (.aload_n 0, 1) := by decide +kernel
theorem d_L_init_5 : decode c_L_init 5 = .ok (.sipush 500, 3) := by decide +kernel
theorem d_L_init_8 : decode c_L_init 8 = .ok (.newarray .int, 2) := by decide +kernel
theorem d_L_init_10 : decode c_L_init 10 = .ok (.putfield 9, 3) := by decide +kernel
theorem d_L_init_13 : decode c_L_init 13 = .ok (.aload_n 0, 1) := by decide +kernel
theorem d_L_init_14 : decode c_L_init 14 = .ok (.sipush 500, 3) := by decide +kernel
theorem d_L_init_17 : decode c_L_init 17 = .ok (.newarray .int, 2) := by decide +kernel
theorem d_L_init_19 : decode c_L_init 19 = .ok (.putfield 15, 3) := by decide +kernel
theorem d_L_init_22 : decode c_L_init 22 = .ok (.aload_n 0, 1) := by decide +kernel
theorem d_L_init_23 : decode c_L_init 23 = .ok (.sipush 500, 3) := by decide +kernel
theorem d_L_init_26 : decode c_L_init 26 = .ok (.newarray .int, 2) := by decide +kernel
theorem d_L_init_28 : decode c_L_init 28 = .ok (.putfield 18, 3) := by decide +kernel
theorem d_L_init_31 : decode c_L_init 31 = .ok (.aload_n 0, 1) := by decide +kernel
theorem d_L_init_32 : decode c_L_init 32 = .ok (.sipush 500, 3) := by decide +kernel
theorem d_L_init_35 : decode c_L_init 35 = .ok (.newarray .long, 2) := by decide +kernel
theorem d_L_init_37 : decode c_L_init 37 = .ok (.putfield 21, 3) := by decide +kernel
theorem d_L_init_40 : decode c_L_init 40 = .ok (.aload_n 0, 1) := by decide +kernel
theorem d_L_init_41 : decode c_L_init 41 = .ok (.sipush 500, 3) := by decide +kernel
theorem d_L_init_44 : decode c_L_init 44 = .ok (.newarray .int, 2) := by decide +kernel
theorem d_L_init_46 : decode c_L_init 46 = .ok (.putfield 25, 3) := by decide +kernel
theorem d_L_init_49 : decode c_L_init 49 = .ok (.aload_n 0, 1) := by decide +kernel
theorem d_L_init_50 : decode c_L_init 50 = .ok (.sipush 500, 3) := by decide +kernel
theorem d_L_init_53 : decode c_L_init 53 = .ok (.newarray .int, 2) := by decide +kernel
theorem d_L_init_55 : decode c_L_init 55 = .ok (.putfield 28, 3) := by decide +kernel
theorem d_L_init_58 : decode c_L_init 58 = .ok (.aload_n 0, 1) := by decide +kernel
theorem d_L_init_59 : decode c_L_init 59 = .ok (.sipush 500, 3) := by decide +kernel
theorem d_L_init_62 : decode c_L_init 62 = .ok (.newarray .int, 2) := by decide +kernel
theorem d_L_init_64 : decode c_L_init 64 = .ok (.putfield 31, 3) := by decide +kernel
theorem d_L_init_67 : decode c_L_init 67 = .ok (.aload_n 0, 1) := by decide +kernel
theorem d_L_init_68 : decode c_L_init 68 = .ok (.bipush 16, 2) := by decide +kernel
theorem d_L_init_70 : decode c_L_init 70 = .ok (.newarray .int, 2) := by decide +kernel
theorem d_L_init_72 : decode c_L_init 72 = .ok (.putfield 34, 3) := by decide +kernel
theorem d_L_init_75 : decode c_L_init 75 = .ok (.aload_n 0, 1) := by decide +kernel
theorem d_L_init_76 : decode c_L_init 76 = .ok (.bipush 8, 2) := by decide +kernel
theorem d_L_init_78 : decode c_L_init 78 = .ok (.newarray .int, 2) := by decide +kernel
theorem d_L_init_80 : decode c_L_init 80 = .ok (.putfield 37, 3) := by decide +kernel
theorem d_L_init_83 : decode c_L_init 83 = .ok (.return_, 1) := by decide +kernel
abbrev c_L_isFull : ByteArray := prog_2_method_2_code
def y_L_isFull : MethodName := ⟨"EventKeeper$Log", "isFull", "()Z"⟩
theorem d_L_isFull_0 : decode c_L_isFull 0 = .ok (.aload_n 0, 1) := by decide +kernel
theorem d_L_isFull_1 : decode c_L_isFull 1 = .ok (.getfield 40, 3) := by decide +kernel
theorem d_L_isFull_4 : decode c_L_isFull 4 = .ok (.sipush 500, 3) := by decide +kernel
theorem d_L_isFull_7 : decode c_L_isFull 7 = .ok (.if_icmp .lt 7, 3) := by decide +kernel
theorem d_L_isFull_10 : decode c_L_isFull 10 = .ok (.iconst 1, 1) := by decide +kernel
theorem d_L_isFull_11 : decode c_L_isFull 11 = .ok (.goto 4, 3) := by decide +kernel
theorem d_L_isFull_14 : decode c_L_isFull 14 = .ok (.iconst 0, 1) := by decide +kernel
theorem d_L_isFull_15 : decode c_L_isFull 15 = .ok (.ireturn, 1) := by decide +kernel
abbrev c_L_put : ByteArray := prog_2_method_3_code
def y_L_put : MethodName := ⟨"EventKeeper$Log", "put", "(IIJ)I"⟩
theorem d_L_put_0 : decode c_L_put 0 = .ok (.aload_n 0, 1) := by decide +kernel
theorem d_L_put_1 : decode c_L_put 1 = .ok (.getfield 40, 3) := by decide +kernel
theorem d_L_put_4 : decode c_L_put 4 = .ok (.istore 5, 2) := by decide +kernel
theorem d_L_put_6 : decode c_L_put 6 = .ok (.aload_n 0, 1) := by decide +kernel
theorem d_L_put_7 : decode c_L_put 7 = .ok (.getfield 9, 3) := by decide +kernel
theorem d_L_put_10 : decode c_L_put 10 = .ok (.iload 5, 2) := by decide +kernel
theorem d_L_put_12 : decode c_L_put 12 = .ok (.iload_n 1, 1) := by decide +kernel
theorem d_L_put_13 : decode c_L_put 13 = .ok (.iastore, 1) := by decide +kernel
theorem d_L_put_14 : decode c_L_put 14 = .ok (.aload_n 0, 1) := by decide +kernel
theorem d_L_put_15 : decode c_L_put 15 = .ok (.getfield 15, 3) := by decide +kernel
theorem d_L_put_18 : decode c_L_put 18 = .ok (.iload 5, 2) := by decide +kernel
theorem d_L_put_20 : decode c_L_put 20 = .ok (.aload_n 0, 1) := by decide +kernel
theorem d_L_put_21 : decode c_L_put 21 = .ok (.getfield 34, 3) := by decide +kernel
theorem d_L_put_24 : decode c_L_put 24 = .ok (.iload_n 1, 1) := by decide +kernel
theorem d_L_put_25 : decode c_L_put 25 = .ok (.iaload, 1) := by decide +kernel
theorem d_L_put_26 : decode c_L_put 26 = .ok (.iastore, 1) := by decide +kernel
theorem d_L_put_27 : decode c_L_put 27 = .ok (.aload_n 0, 1) := by decide +kernel
theorem d_L_put_28 : decode c_L_put 28 = .ok (.getfield 18, 3) := by decide +kernel
theorem d_L_put_31 : decode c_L_put 31 = .ok (.iload 5, 2) := by decide +kernel
theorem d_L_put_33 : decode c_L_put 33 = .ok (.iload_n 2, 1) := by decide +kernel
theorem d_L_put_34 : decode c_L_put 34 = .ok (.iastore, 1) := by decide +kernel
theorem d_L_put_35 : decode c_L_put 35 = .ok (.aload_n 0, 1) := by decide +kernel
theorem d_L_put_36 : decode c_L_put 36 = .ok (.getfield 21, 3) := by decide +kernel
theorem d_L_put_39 : decode c_L_put 39 = .ok (.iload 5, 2) := by decide +kernel
theorem d_L_put_41 : decode c_L_put 41 = .ok (.lload_n 3, 1) := by decide +kernel
theorem d_L_put_42 : decode c_L_put 42 = .ok (.lastore, 1) := by decide +kernel
theorem d_L_put_43 : decode c_L_put 43 = .ok (.aload_n 0, 1) := by decide +kernel
theorem d_L_put_44 : decode c_L_put 44 = .ok (.getfield 25, 3) := by decide +kernel
theorem d_L_put_47 : decode c_L_put 47 = .ok (.iload 5, 2) := by decide +kernel
theorem d_L_put_49 : decode c_L_put 49 = .ok (.iconst (-1), 1) := by decide +kernel
theorem d_L_put_50 : decode c_L_put 50 = .ok (.iastore, 1) := by decide +kernel
theorem d_L_put_51 : decode c_L_put 51 = .ok (.aload_n 0, 1) := by decide +kernel
theorem d_L_put_52 : decode c_L_put 52 = .ok (.getfield 28, 3) := by decide +kernel
theorem d_L_put_55 : decode c_L_put 55 = .ok (.iload 5, 2) := by decide +kernel
theorem d_L_put_57 : decode c_L_put 57 = .ok (.iconst (-1), 1) := by decide +kernel
theorem d_L_put_58 : decode c_L_put 58 = .ok (.iastore, 1) := by decide +kernel
theorem d_L_put_59 : decode c_L_put 59 = .ok (.aload_n 0, 1) := by decide +kernel
theorem d_L_put_60 : decode c_L_put 60 = .ok (.getfield 34, 3) := by decide +kernel
theorem d_L_put_63 : decode c_L_put 63 = .ok (.iload_n 1, 1) := by decide +kernel
theorem d_L_put_64 : decode c_L_put 64 = .ok (.dup2, 1) := by decide +kernel
theorem d_L_put_65 : decode c_L_put 65 = .ok (.iaload, 1) := by decide +kernel
theorem d_L_put_66 : decode c_L_put 66 = .ok (.iconst 1, 1) := by decide +kernel
theorem d_L_put_67 : decode c_L_put 67 = .ok (.iadd, 1) := by decide +kernel
theorem d_L_put_68 : decode c_L_put 68 = .ok (.iastore, 1) := by decide +kernel
theorem d_L_put_69 : decode c_L_put 69 = .ok (.aload_n 0, 1) := by decide +kernel
theorem d_L_put_70 : decode c_L_put 70 = .ok (.dup, 1) := by decide +kernel
theorem d_L_put_71 : decode c_L_put 71 = .ok (.getfield 40, 3) := by decide +kernel
theorem d_L_put_74 : decode c_L_put 74 = .ok (.iconst 1, 1) := by decide +kernel
theorem d_L_put_75 : decode c_L_put 75 = .ok (.iadd, 1) := by decide +kernel
theorem d_L_put_76 : decode c_L_put 76 = .ok (.putfield 40, 3) := by decide +kernel
theorem d_L_put_79 : decode c_L_put 79 = .ok (.iload 5, 2) := by decide +kernel
theorem d_L_put_81 : decode c_L_put 81 = .ok (.ireturn, 1) := by decide +kernel
abbrev c_L_putEmitted : ByteArray := prog_2_method_4_code
def y_L_putEmitted : MethodName := ⟨"EventKeeper$Log", "putEmitted", "(IIJ)V"⟩
theorem d_L_putEmitted_0 : decode c_L_putEmitted 0 = .ok (.aload_n 0, 1) := by decide +kernel
theorem d_L_putEmitted_1 : decode c_L_putEmitted 1 = .ok (.aload_n 0, 1) := by decide +kernel
theorem d_L_putEmitted_2 : decode c_L_putEmitted 2 = .ok (.getfield 21, 3) := by decide +kernel
theorem d_L_putEmitted_5 : decode c_L_putEmitted 5 = .ok (.iload_n 2, 1) := by decide +kernel
theorem d_L_putEmitted_6 : decode c_L_putEmitted 6 = .ok (.laload, 1) := by decide +kernel
theorem d_L_putEmitted_7 : decode c_L_putEmitted 7 = .ok (.ldc2_w 44, 3) := by decide +kernel
theorem d_L_putEmitted_10 : decode c_L_putEmitted 10 = .ok (.land, 1) := by decide +kernel
theorem d_L_putEmitted_11 : decode c_L_putEmitted 11 = .ok (.l2i, 1) := by decide +kernel
theorem d_L_putEmitted_12 : decode c_L_putEmitted 12 = .ok (.bipush 7, 2) := by decide +kernel
theorem d_L_putEmitted_14 : decode c_L_putEmitted 14 = .ok (.lload_n 3, 1) := by decide +kernel
theorem d_L_putEmitted_15 : decode c_L_putEmitted 15 = .ok (.invokevirtual 46, 3) := by decide +kernel
theorem d_L_putEmitted_18 : decode c_L_putEmitted 18 = .ok (.istore 5, 2) := by decide +kernel
theorem d_L_putEmitted_20 : decode c_L_putEmitted 20 = .ok (.aload_n 0, 1) := by decide +kernel
theorem d_L_putEmitted_21 : decode c_L_putEmitted 21 = .ok (.getfield 25, 3) := by decide +kernel
theorem d_L_putEmitted_24 : decode c_L_putEmitted 24 = .ok (.iload 5, 2) := by decide +kernel
theorem d_L_putEmitted_26 : decode c_L_putEmitted 26 = .ok (.iload_n 1, 1) := by decide +kernel
theorem d_L_putEmitted_27 : decode c_L_putEmitted 27 = .ok (.iastore, 1) := by decide +kernel
theorem d_L_putEmitted_28 : decode c_L_putEmitted 28 = .ok (.aload_n 0, 1) := by decide +kernel
theorem d_L_putEmitted_29 : decode c_L_putEmitted 29 = .ok (.getfield 28, 3) := by decide +kernel
theorem d_L_putEmitted_32 : decode c_L_putEmitted 32 = .ok (.iload 5, 2) := by decide +kernel
theorem d_L_putEmitted_34 : decode c_L_putEmitted 34 = .ok (.iload_n 2, 1) := by decide +kernel
theorem d_L_putEmitted_35 : decode c_L_putEmitted 35 = .ok (.iastore, 1) := by decide +kernel
theorem d_L_putEmitted_36 : decode c_L_putEmitted 36 = .ok (.aload_n 0, 1) := by decide +kernel
theorem d_L_putEmitted_37 : decode c_L_putEmitted 37 = .ok (.getfield 31, 3) := by decide +kernel
theorem d_L_putEmitted_40 : decode c_L_putEmitted 40 = .ok (.iload_n 2, 1) := by decide +kernel
theorem d_L_putEmitted_41 : decode c_L_putEmitted 41 = .ok (.dup2, 1) := by decide +kernel
theorem d_L_putEmitted_42 : decode c_L_putEmitted 42 = .ok (.iaload, 1) := by decide +kernel
theorem d_L_putEmitted_43 : decode c_L_putEmitted 43 = .ok (.iconst 1, 1) := by decide +kernel
theorem d_L_putEmitted_44 : decode c_L_putEmitted 44 = .ok (.iload_n 1, 1) := by decide +kernel
theorem d_L_putEmitted_45 : decode c_L_putEmitted 45 = .ok (.ishl, 1) := by decide +kernel
theorem d_L_putEmitted_46 : decode c_L_putEmitted 46 = .ok (.ior, 1) := by decide +kernel
theorem d_L_putEmitted_47 : decode c_L_putEmitted 47 = .ok (.iastore, 1) := by decide +kernel
theorem d_L_putEmitted_48 : decode c_L_putEmitted 48 = .ok (.aload_n 0, 1) := by decide +kernel
theorem d_L_putEmitted_49 : decode c_L_putEmitted 49 = .ok (.getfield 37, 3) := by decide +kernel
theorem d_L_putEmitted_52 : decode c_L_putEmitted 52 = .ok (.iload_n 1, 1) := by decide +kernel
theorem d_L_putEmitted_53 : decode c_L_putEmitted 53 = .ok (.dup2, 1) := by decide +kernel
theorem d_L_putEmitted_54 : decode c_L_putEmitted 54 = .ok (.iaload, 1) := by decide +kernel
theorem d_L_putEmitted_55 : decode c_L_putEmitted 55 = .ok (.iconst 1, 1) := by decide +kernel
theorem d_L_putEmitted_56 : decode c_L_putEmitted 56 = .ok (.iadd, 1) := by decide +kernel
theorem d_L_putEmitted_57 : decode c_L_putEmitted 57 = .ok (.iastore, 1) := by decide +kernel
theorem d_L_putEmitted_58 : decode c_L_putEmitted 58 = .ok (.return_, 1) := by decide +kernel
abbrev c_L_hasEmitted : ByteArray := prog_2_method_5_code
def y_L_hasEmitted : MethodName := ⟨"EventKeeper$Log", "hasEmitted", "(II)Z"⟩
theorem d_L_hasEmitted_0 : decode c_L_hasEmitted 0 = .ok (.aload_n 0, 1) := by decide +kernel
theorem d_L_hasEmitted_1 : decode c_L_hasEmitted 1 = .ok (.getfield 31, 3) := by decide +kernel
theorem d_L_hasEmitted_4 : decode c_L_hasEmitted 4 = .ok (.iload_n 2, 1) := by decide +kernel
theorem d_L_hasEmitted_5 : decode c_L_hasEmitted 5 = .ok (.iaload, 1) := by decide +kernel
theorem d_L_hasEmitted_6 : decode c_L_hasEmitted 6 = .ok (.iconst 1, 1) := by decide +kernel
theorem d_L_hasEmitted_7 : decode c_L_hasEmitted 7 = .ok (.iload_n 1, 1) := by decide +kernel
theorem d_L_hasEmitted_8 : decode c_L_hasEmitted 8 = .ok (.ishl, 1) := by decide +kernel
theorem d_L_hasEmitted_9 : decode c_L_hasEmitted 9 = .ok (.iand, 1) := by decide +kernel
theorem d_L_hasEmitted_10 : decode c_L_hasEmitted 10 = .ok (.ifCond .eq 7, 3) := by decide +kernel
theorem d_L_hasEmitted_13 : decode c_L_hasEmitted 13 = .ok (.iconst 1, 1) := by decide +kernel
theorem d_L_hasEmitted_14 : decode c_L_hasEmitted 14 = .ok (.goto 4, 3) := by decide +kernel
theorem d_L_hasEmitted_17 : decode c_L_hasEmitted 17 = .ok (.iconst 0, 1) := by decide +kernel
theorem d_L_hasEmitted_18 : decode c_L_hasEmitted 18 = .ok (.ireturn, 1) := by decide +kernel
abbrev c_L_dropUndurable : ByteArray := prog_2_method_6_code
def y_L_dropUndurable : MethodName := ⟨"EventKeeper$Log", "dropUndurable", "()V"⟩
theorem d_L_dropUndurable_0 : decode c_L_dropUndurable 0 = .ok (.aload_n 0, 1) := by decide +kernel
theorem d_L_dropUndurable_1 : decode c_L_dropUndurable 1 = .ok (.getfield 50, 3) := by decide +kernel
theorem d_L_dropUndurable_4 : decode c_L_dropUndurable 4 = .ok (.istore_n 1, 1) := by decide +kernel
theorem d_L_dropUndurable_5 : decode c_L_dropUndurable 5 = .ok (.iload_n 1, 1) := by decide +kernel
theorem d_L_dropUndurable_6 : decode c_L_dropUndurable 6 = .ok (.aload_n 0, 1) := by decide +kernel
theorem d_L_dropUndurable_7 : decode c_L_dropUndurable 7 = .ok (.getfield 40, 3) := by decide +kernel
theorem d_L_dropUndurable_10 : decode c_L_dropUndurable 10 = .ok (.if_icmp .ge 39, 3) := by decide +kernel
theorem d_L_dropUndurable_13 : decode c_L_dropUndurable 13 = .ok (.aload_n 0, 1) := by decide +kernel
theorem d_L_dropUndurable_14 : decode c_L_dropUndurable 14 = .ok (.getfield 34, 3) := by decide +kernel
theorem d_L_dropUndurable_17 : decode c_L_dropUndurable 17 = .ok (.aload_n 0, 1) := by decide +kernel
theorem d_L_dropUndurable_18 : decode c_L_dropUndurable 18 = .ok (.getfield 9, 3) := by decide +kernel
theorem d_L_dropUndurable_21 : decode c_L_dropUndurable 21 = .ok (.iload_n 1, 1) := by decide +kernel
theorem d_L_dropUndurable_22 : decode c_L_dropUndurable 22 = .ok (.iaload, 1) := by decide +kernel
theorem d_L_dropUndurable_23 : decode c_L_dropUndurable 23 = .ok (.dup2, 1) := by decide +kernel
theorem d_L_dropUndurable_24 : decode c_L_dropUndurable 24 = .ok (.iaload, 1) := by decide +kernel
theorem d_L_dropUndurable_25 : decode c_L_dropUndurable 25 = .ok (.iconst 1, 1) := by decide +kernel
theorem d_L_dropUndurable_26 : decode c_L_dropUndurable 26 = .ok (.isub, 1) := by decide +kernel
theorem d_L_dropUndurable_27 : decode c_L_dropUndurable 27 = .ok (.iastore, 1) := by decide +kernel
theorem d_L_dropUndurable_28 : decode c_L_dropUndurable 28 = .ok (.aload_n 0, 1) := by decide +kernel
theorem d_L_dropUndurable_29 : decode c_L_dropUndurable 29 = .ok (.getfield 25, 3) := by decide +kernel
theorem d_L_dropUndurable_32 : decode c_L_dropUndurable 32 = .ok (.iload_n 1, 1) := by decide +kernel
theorem d_L_dropUndurable_33 : decode c_L_dropUndurable 33 = .ok (.iaload, 1) := by decide +kernel
theorem d_L_dropUndurable_34 : decode c_L_dropUndurable 34 = .ok (.iconst (-1), 1) := by decide +kernel
theorem d_L_dropUndurable_35 : decode c_L_dropUndurable 35 = .ok (.if_icmp .eq 8, 3) := by decide +kernel
theorem d_L_dropUndurable_38 : decode c_L_dropUndurable 38 = .ok (.aload_n 0, 1) := by decide +kernel
theorem d_L_dropUndurable_39 : decode c_L_dropUndurable 39 = .ok (.iload_n 1, 1) := by decide +kernel
theorem d_L_dropUndurable_40 : decode c_L_dropUndurable 40 = .ok (.invokevirtual 53, 3) := by decide +kernel
theorem d_L_dropUndurable_43 : decode c_L_dropUndurable 43 = .ok (.iinc 1 1, 3) := by decide +kernel
theorem d_L_dropUndurable_46 : decode c_L_dropUndurable 46 = .ok (.goto (-41), 3) := by decide +kernel
theorem d_L_dropUndurable_49 : decode c_L_dropUndurable 49 = .ok (.aload_n 0, 1) := by decide +kernel
theorem d_L_dropUndurable_50 : decode c_L_dropUndurable 50 = .ok (.aload_n 0, 1) := by decide +kernel
theorem d_L_dropUndurable_51 : decode c_L_dropUndurable 51 = .ok (.getfield 50, 3) := by decide +kernel
theorem d_L_dropUndurable_54 : decode c_L_dropUndurable 54 = .ok (.putfield 40, 3) := by decide +kernel
theorem d_L_dropUndurable_57 : decode c_L_dropUndurable 57 = .ok (.return_, 1) := by decide +kernel
abbrev c_L_forgetCause : ByteArray := prog_2_method_7_code
def y_L_forgetCause : MethodName := ⟨"EventKeeper$Log", "forgetCause", "(I)V"⟩
theorem d_L_forgetCause_0 : decode c_L_forgetCause 0 = .ok (.aload_n 0, 1) := by decide +kernel
theorem d_L_forgetCause_1 : decode c_L_forgetCause 1 = .ok (.getfield 25, 3) := by decide +kernel
theorem d_L_forgetCause_4 : decode c_L_forgetCause 4 = .ok (.iload_n 1, 1) := by decide +kernel
theorem d_L_forgetCause_5 : decode c_L_forgetCause 5 = .ok (.iaload, 1) := by decide +kernel
theorem d_L_forgetCause_6 : decode c_L_forgetCause 6 = .ok (.istore_n 2, 1) := by decide +kernel
theorem d_L_forgetCause_7 : decode c_L_forgetCause 7 = .ok (.aload_n 0, 1) := by decide +kernel
theorem d_L_forgetCause_8 : decode c_L_forgetCause 8 = .ok (.getfield 31, 3) := by decide +kernel
theorem d_L_forgetCause_11 : decode c_L_forgetCause 11 = .ok (.aload_n 0, 1) := by decide +kernel
theorem d_L_forgetCause_12 : decode c_L_forgetCause 12 = .ok (.getfield 28, 3) := by decide +kernel
theorem d_L_forgetCause_15 : decode c_L_forgetCause 15 = .ok (.iload_n 1, 1) := by decide +kernel
theorem d_L_forgetCause_16 : decode c_L_forgetCause 16 = .ok (.iaload, 1) := by decide +kernel
theorem d_L_forgetCause_17 : decode c_L_forgetCause 17 = .ok (.dup2, 1) := by decide +kernel
theorem d_L_forgetCause_18 : decode c_L_forgetCause 18 = .ok (.iaload, 1) := by decide +kernel
theorem d_L_forgetCause_19 : decode c_L_forgetCause 19 = .ok (.iconst 1, 1) := by decide +kernel
theorem d_L_forgetCause_20 : decode c_L_forgetCause 20 = .ok (.iload_n 2, 1) := by decide +kernel
theorem d_L_forgetCause_21 : decode c_L_forgetCause 21 = .ok (.ishl, 1) := by decide +kernel
theorem d_L_forgetCause_22 : decode c_L_forgetCause 22 = .ok (.iconst (-1), 1) := by decide +kernel
theorem d_L_forgetCause_23 : decode c_L_forgetCause 23 = .ok (.ixor, 1) := by decide +kernel
theorem d_L_forgetCause_24 : decode c_L_forgetCause 24 = .ok (.iand, 1) := by decide +kernel
theorem d_L_forgetCause_25 : decode c_L_forgetCause 25 = .ok (.iastore, 1) := by decide +kernel
theorem d_L_forgetCause_26 : decode c_L_forgetCause 26 = .ok (.aload_n 0, 1) := by decide +kernel
theorem d_L_forgetCause_27 : decode c_L_forgetCause 27 = .ok (.getfield 37, 3) := by decide +kernel
theorem d_L_forgetCause_30 : decode c_L_forgetCause 30 = .ok (.iload_n 2, 1) := by decide +kernel
theorem d_L_forgetCause_31 : decode c_L_forgetCause 31 = .ok (.dup2, 1) := by decide +kernel
theorem d_L_forgetCause_32 : decode c_L_forgetCause 32 = .ok (.iaload, 1) := by decide +kernel
theorem d_L_forgetCause_33 : decode c_L_forgetCause 33 = .ok (.iconst 1, 1) := by decide +kernel
theorem d_L_forgetCause_34 : decode c_L_forgetCause 34 = .ok (.isub, 1) := by decide +kernel
theorem d_L_forgetCause_35 : decode c_L_forgetCause 35 = .ok (.iastore, 1) := by decide +kernel
theorem d_L_forgetCause_36 : decode c_L_forgetCause 36 = .ok (.return_, 1) := by decide +kernel
abbrev c_L_placeOf : ByteArray := prog_2_method_8_code
def y_L_placeOf : MethodName := ⟨"EventKeeper$Log", "placeOf", "(II)I"⟩
theorem d_L_placeOf_0 : decode c_L_placeOf 0 = .ok (.iconst 0, 1) := by decide +kernel
theorem d_L_placeOf_1 : decode c_L_placeOf 1 = .ok (.istore_n 3, 1) := by decide +kernel
theorem d_L_placeOf_2 : decode c_L_placeOf 2 = .ok (.iload_n 3, 1) := by decide +kernel
theorem d_L_placeOf_3 : decode c_L_placeOf 3 = .ok (.aload_n 0, 1) := by decide +kernel
theorem d_L_placeOf_4 : decode c_L_placeOf 4 = .ok (.getfield 40, 3) := by decide +kernel
theorem d_L_placeOf_7 : decode c_L_placeOf 7 = .ok (.if_icmp .ge 31, 3) := by decide +kernel
theorem d_L_placeOf_10 : decode c_L_placeOf 10 = .ok (.aload_n 0, 1) := by decide +kernel
theorem d_L_placeOf_11 : decode c_L_placeOf 11 = .ok (.getfield 9, 3) := by decide +kernel
theorem d_L_placeOf_14 : decode c_L_placeOf 14 = .ok (.iload_n 3, 1) := by decide +kernel
theorem d_L_placeOf_15 : decode c_L_placeOf 15 = .ok (.iaload, 1) := by decide +kernel
theorem d_L_placeOf_16 : decode c_L_placeOf 16 = .ok (.iload_n 1, 1) := by decide +kernel
theorem d_L_placeOf_17 : decode c_L_placeOf 17 = .ok (.if_icmp .ne 15, 3) := by decide +kernel
theorem d_L_placeOf_20 : decode c_L_placeOf 20 = .ok (.aload_n 0, 1) := by decide +kernel
theorem d_L_placeOf_21 : decode c_L_placeOf 21 = .ok (.getfield 15, 3) := by decide +kernel
theorem d_L_placeOf_24 : decode c_L_placeOf 24 = .ok (.iload_n 3, 1) := by decide +kernel
theorem d_L_placeOf_25 : decode c_L_placeOf 25 = .ok (.iaload, 1) := by decide +kernel
theorem d_L_placeOf_26 : decode c_L_placeOf 26 = .ok (.iload_n 2, 1) := by decide +kernel
theorem d_L_placeOf_27 : decode c_L_placeOf 27 = .ok (.if_icmp .ne 5, 3) := by decide +kernel
theorem d_L_placeOf_30 : decode c_L_placeOf 30 = .ok (.iload_n 3, 1) := by decide +kernel
theorem d_L_placeOf_31 : decode c_L_placeOf 31 = .ok (.ireturn, 1) := by decide +kernel
theorem d_L_placeOf_32 : decode c_L_placeOf 32 = .ok (.iinc 3 1, 3) := by decide +kernel
theorem d_L_placeOf_35 : decode c_L_placeOf 35 = .ok (.goto (-33), 3) := by decide +kernel
theorem d_L_placeOf_38 : decode c_L_placeOf 38 = .ok (.iconst (-1), 1) := by decide +kernel
theorem d_L_placeOf_39 : decode c_L_placeOf 39 = .ok (.ireturn, 1) := by decide +kernel
abbrev c_P_init : ByteArray := prog_3_method_1_code
def y_P_init : MethodName := ⟨"EventKeeper$Projection", "<init>", "(I)V"⟩
theorem d_P_init_0 : decode c_P_init 0 = .ok (.aload_n 0, 1) := by decide +kernel
theorem d_P_init_1 : decode c_P_init 1 = .ok (.invokespecial 3, 3) := by decide +kernel
theorem d_P_init_4 : decode c_P_init 4 = .ok (.aload_n 0, 1) := by decide +kernel
theorem d_P_init_5 : decode c_P_init 5 = .ok (.iload_n 1, 1) := by decide +kernel
theorem d_P_init_6 : decode c_P_init 6 = .ok (.putfield 9, 3) := by decide +kernel
theorem d_P_init_9 : decode c_P_init 9 = .ok (.aload_n 0, 1) := by decide +kernel
theorem d_P_init_10 : decode c_P_init 10 = .ok (.bipush 8, 2) := by decide +kernel
theorem d_P_init_12 : decode c_P_init 12 = .ok (.newarray .int, 2) := by decide +kernel
theorem d_P_init_14 : decode c_P_init 14 = .ok (.putfield 15, 3) := by decide +kernel
theorem d_P_init_17 : decode c_P_init 17 = .ok (.aload_n 0, 1) := by decide +kernel
theorem d_P_init_18 : decode c_P_init 18 = .ok (.bipush 8, 2) := by decide +kernel
theorem d_P_init_20 : decode c_P_init 20 = .ok (.newarray .int, 2) := by decide +kernel
theorem d_P_init_22 : decode c_P_init 22 = .ok (.putfield 19, 3) := by decide +kernel
theorem d_P_init_25 : decode c_P_init 25 = .ok (.aload_n 0, 1) := by decide +kernel
theorem d_P_init_26 : decode c_P_init 26 = .ok (.bipush 16, 2) := by decide +kernel
theorem d_P_init_28 : decode c_P_init 28 = .ok (.newarray .long, 2) := by decide +kernel
theorem d_P_init_30 : decode c_P_init 30 = .ok (.putfield 22, 3) := by decide +kernel
theorem d_P_init_33 : decode c_P_init 33 = .ok (.aload_n 0, 1) := by decide +kernel
theorem d_P_init_34 : decode c_P_init 34 = .ok (.bipush 16, 2) := by decide +kernel
theorem d_P_init_36 : decode c_P_init 36 = .ok (.newarray .long, 2) := by decide +kernel
theorem d_P_init_38 : decode c_P_init 38 = .ok (.putfield 26, 3) := by decide +kernel
theorem d_P_init_41 : decode c_P_init 41 = .ok (.aload_n 0, 1) := by decide +kernel
theorem d_P_init_42 : decode c_P_init 42 = .ok (.iconst (-1), 1) := by decide +kernel
theorem d_P_init_43 : decode c_P_init 43 = .ok (.putfield 29, 3) := by decide +kernel
theorem d_P_init_46 : decode c_P_init 46 = .ok (.return_, 1) := by decide +kernel
abbrev c_P_setRule : ByteArray := prog_3_method_2_code
def y_P_setRule : MethodName := ⟨"EventKeeper$Projection", "setRule", "(III)V"⟩
theorem d_P_setRule_0 : decode c_P_setRule 0 = .ok (.aload_n 0, 1) := by decide +kernel
theorem d_P_setRule_1 : decode c_P_setRule 1 = .ok (.getfield 15, 3) := by decide +kernel
theorem d_P_setRule_4 : decode c_P_setRule 4 = .ok (.iload_n 1, 1) := by decide +kernel
theorem d_P_setRule_5 : decode c_P_setRule 5 = .ok (.iload_n 2, 1) := by decide +kernel
theorem d_P_setRule_6 : decode c_P_setRule 6 = .ok (.iastore, 1) := by decide +kernel
theorem d_P_setRule_7 : decode c_P_setRule 7 = .ok (.aload_n 0, 1) := by decide +kernel
theorem d_P_setRule_8 : decode c_P_setRule 8 = .ok (.getfield 19, 3) := by decide +kernel
theorem d_P_setRule_11 : decode c_P_setRule 11 = .ok (.iload_n 1, 1) := by decide +kernel
theorem d_P_setRule_12 : decode c_P_setRule 12 = .ok (.iload_n 3, 1) := by decide +kernel
theorem d_P_setRule_13 : decode c_P_setRule 13 = .ok (.iastore, 1) := by decide +kernel
theorem d_P_setRule_14 : decode c_P_setRule 14 = .ok (.aload_n 0, 1) := by decide +kernel
theorem d_P_setRule_15 : decode c_P_setRule 15 = .ok (.invokevirtual 32, 3) := by decide +kernel
theorem d_P_setRule_18 : decode c_P_setRule 18 = .ok (.return_, 1) := by decide +kernel
abbrev c_P_takeOne : ByteArray := prog_3_method_3_code
def y_P_takeOne : MethodName := ⟨"EventKeeper$Projection", "takeOne", "(LEventKeeper$Log;)Z"⟩
theorem d_P_takeOne_0 : decode c_P_takeOne 0 = .ok (.aload_n 0, 1) := by decide +kernel
theorem d_P_takeOne_1 : decode c_P_takeOne 1 = .ok (.getfield 35, 3) := by decide +kernel
theorem d_P_takeOne_4 : decode c_P_takeOne 4 = .ok (.aload_n 1, 1) := by decide +kernel
theorem d_P_takeOne_5 : decode c_P_takeOne 5 = .ok (.getfield 38, 3) := by decide +kernel
theorem d_P_takeOne_8 : decode c_P_takeOne 8 = .ok (.if_icmp .lt 5, 3) := by decide +kernel
theorem d_P_takeOne_11 : decode c_P_takeOne 11 = .ok (.iconst 0, 1) := by decide +kernel
theorem d_P_takeOne_12 : decode c_P_takeOne 12 = .ok (.ireturn, 1) := by decide +kernel
theorem d_P_takeOne_13 : decode c_P_takeOne 13 = .ok (.aload_n 0, 1) := by decide +kernel
theorem d_P_takeOne_14 : decode c_P_takeOne 14 = .ok (.getfield 15, 3) := by decide +kernel
theorem d_P_takeOne_17 : decode c_P_takeOne 17 = .ok (.aload_n 1, 1) := by decide +kernel
theorem d_P_takeOne_18 : decode c_P_takeOne 18 = .ok (.getfield 43, 3) := by decide +kernel
theorem d_P_takeOne_21 : decode c_P_takeOne 21 = .ok (.aload_n 0, 1) := by decide +kernel
theorem d_P_takeOne_22 : decode c_P_takeOne 22 = .ok (.getfield 35, 3) := by decide +kernel
theorem d_P_takeOne_25 : decode c_P_takeOne 25 = .ok (.iaload, 1) := by decide +kernel
theorem d_P_takeOne_26 : decode c_P_takeOne 26 = .ok (.iaload, 1) := by decide +kernel
theorem d_P_takeOne_27 : decode c_P_takeOne 27 = .ok (.istore_n 2, 1) := by decide +kernel
theorem d_P_takeOne_28 : decode c_P_takeOne 28 = .ok (.aload_n 0, 1) := by decide +kernel
theorem d_P_takeOne_29 : decode c_P_takeOne 29 = .ok (.aload_n 1, 1) := by decide +kernel
theorem d_P_takeOne_30 : decode c_P_takeOne 30 = .ok (.invokevirtual 46, 3) := by decide +kernel
theorem d_P_takeOne_33 : decode c_P_takeOne 33 = .ok (.istore_n 3, 1) := by decide +kernel
theorem d_P_takeOne_34 : decode c_P_takeOne 34 = .ok (.iload_n 2, 1) := by decide +kernel
theorem d_P_takeOne_35 : decode c_P_takeOne 35 = .ok (.bipush 6, 2) := by decide +kernel
theorem d_P_takeOne_37 : decode c_P_takeOne 37 = .ok (.if_icmp .ne 14, 3) := by decide +kernel
theorem d_P_takeOne_40 : decode c_P_takeOne 40 = .ok (.aload_n 0, 1) := by decide +kernel
theorem d_P_takeOne_41 : decode c_P_takeOne 41 = .ok (.aload_n 1, 1) := by decide +kernel
theorem d_P_takeOne_42 : decode c_P_takeOne 42 = .ok (.iload_n 3, 1) := by decide +kernel
theorem d_P_takeOne_43 : decode c_P_takeOne 43 = .ok (.invokevirtual 50, 3) := by decide +kernel
theorem d_P_takeOne_46 : decode c_P_takeOne 46 = .ok (.ifCond .ne 30, 3) := by decide +kernel
theorem d_P_takeOne_49 : decode c_P_takeOne 49 = .ok (.iconst 0, 1) := by decide +kernel
theorem d_P_takeOne_50 : decode c_P_takeOne 50 = .ok (.ireturn, 1) := by decide +kernel
theorem d_P_takeOne_51 : decode c_P_takeOne 51 = .ok (.aload_n 0, 1) := by decide +kernel
theorem d_P_takeOne_52 : decode c_P_takeOne 52 = .ok (.getfield 22, 3) := by decide +kernel
theorem d_P_takeOne_55 : decode c_P_takeOne 55 = .ok (.iload_n 3, 1) := by decide +kernel
theorem d_P_takeOne_56 : decode c_P_takeOne 56 = .ok (.iload_n 2, 1) := by decide +kernel
theorem d_P_takeOne_57 : decode c_P_takeOne 57 = .ok (.aload_n 0, 1) := by decide +kernel
theorem d_P_takeOne_58 : decode c_P_takeOne 58 = .ok (.getfield 22, 3) := by decide +kernel
theorem d_P_takeOne_61 : decode c_P_takeOne 61 = .ok (.iload_n 3, 1) := by decide +kernel
theorem d_P_takeOne_62 : decode c_P_takeOne 62 = .ok (.laload, 1) := by decide +kernel
theorem d_P_takeOne_63 : decode c_P_takeOne 63 = .ok (.aload_n 1, 1) := by decide +kernel
theorem d_P_takeOne_64 : decode c_P_takeOne 64 = .ok (.getfield 54, 3) := by decide +kernel
theorem d_P_takeOne_67 : decode c_P_takeOne 67 = .ok (.aload_n 0, 1) := by decide +kernel
theorem d_P_takeOne_68 : decode c_P_takeOne 68 = .ok (.getfield 35, 3) := by decide +kernel
theorem d_P_takeOne_71 : decode c_P_takeOne 71 = .ok (.laload, 1) := by decide +kernel
theorem d_P_takeOne_72 : decode c_P_takeOne 72 = .ok (.invokestatic 57, 3) := by decide +kernel
theorem d_P_takeOne_75 : decode c_P_takeOne 75 = .ok (.lastore, 1) := by decide +kernel
theorem d_P_takeOne_76 : decode c_P_takeOne 76 = .ok (.aload_n 0, 1) := by decide +kernel
theorem d_P_takeOne_77 : decode c_P_takeOne 77 = .ok (.dup, 1) := by decide +kernel
theorem d_P_takeOne_78 : decode c_P_takeOne 78 = .ok (.getfield 35, 3) := by decide +kernel
theorem d_P_takeOne_81 : decode c_P_takeOne 81 = .ok (.iconst 1, 1) := by decide +kernel
theorem d_P_takeOne_82 : decode c_P_takeOne 82 = .ok (.iadd, 1) := by decide +kernel
theorem d_P_takeOne_83 : decode c_P_takeOne 83 = .ok (.putfield 35, 3) := by decide +kernel
theorem d_P_takeOne_86 : decode c_P_takeOne 86 = .ok (.iconst 1, 1) := by decide +kernel
theorem d_P_takeOne_87 : decode c_P_takeOne 87 = .ok (.ireturn, 1) := by decide +kernel
abbrev c_P_targetCell : ByteArray := prog_3_method_4_code
def y_P_targetCell : MethodName := ⟨"EventKeeper$Projection", "targetCell", "(LEventKeeper$Log;)I"⟩
theorem d_P_targetCell_0 : decode c_P_targetCell 0 = .ok (.aload_n 0, 1) := by decide +kernel
theorem d_P_targetCell_1 : decode c_P_targetCell 1 = .ok (.getfield 19, 3) := by decide +kernel
theorem d_P_targetCell_4 : decode c_P_targetCell 4 = .ok (.aload_n 1, 1) := by decide +kernel
theorem d_P_targetCell_5 : decode c_P_targetCell 5 = .ok (.getfield 43, 3) := by decide +kernel
theorem d_P_targetCell_8 : decode c_P_targetCell 8 = .ok (.aload_n 0, 1) := by decide +kernel
theorem d_P_targetCell_9 : decode c_P_targetCell 9 = .ok (.getfield 35, 3) := by decide +kernel
theorem d_P_targetCell_12 : decode c_P_targetCell 12 = .ok (.iaload, 1) := by decide +kernel
theorem d_P_targetCell_13 : decode c_P_targetCell 13 = .ok (.iaload, 1) := by decide +kernel
theorem d_P_targetCell_14 : decode c_P_targetCell 14 = .ok (.lookupswitch 51 #[(0, 26), (1, 36)], 26) := by decide +kernel
theorem d_P_targetCell_40 : decode c_P_targetCell 40 = .ok (.aload_n 1, 1) := by decide +kernel
theorem d_P_targetCell_41 : decode c_P_targetCell 41 = .ok (.getfield 61, 3) := by decide +kernel
theorem d_P_targetCell_44 : decode c_P_targetCell 44 = .ok (.aload_n 0, 1) := by decide +kernel
theorem d_P_targetCell_45 : decode c_P_targetCell 45 = .ok (.getfield 35, 3) := by decide +kernel
theorem d_P_targetCell_48 : decode c_P_targetCell 48 = .ok (.iaload, 1) := by decide +kernel
theorem d_P_targetCell_49 : decode c_P_targetCell 49 = .ok (.ireturn, 1) := by decide +kernel
theorem d_P_targetCell_50 : decode c_P_targetCell 50 = .ok (.aload_n 1, 1) := by decide +kernel
theorem d_P_targetCell_51 : decode c_P_targetCell 51 = .ok (.getfield 54, 3) := by decide +kernel
theorem d_P_targetCell_54 : decode c_P_targetCell 54 = .ok (.aload_n 0, 1) := by decide +kernel
theorem d_P_targetCell_55 : decode c_P_targetCell 55 = .ok (.getfield 35, 3) := by decide +kernel
theorem d_P_targetCell_58 : decode c_P_targetCell 58 = .ok (.laload, 1) := by decide +kernel
theorem d_P_targetCell_59 : decode c_P_targetCell 59 = .ok (.ldc2_w 64, 3) := by decide +kernel
theorem d_P_targetCell_62 : decode c_P_targetCell 62 = .ok (.land, 1) := by decide +kernel
theorem d_P_targetCell_63 : decode c_P_targetCell 63 = .ok (.l2i, 1) := by decide +kernel
theorem d_P_targetCell_64 : decode c_P_targetCell 64 = .ok (.ireturn, 1) := by decide +kernel
theorem d_P_targetCell_65 : decode c_P_targetCell 65 = .ok (.iconst 0, 1) := by decide +kernel
theorem d_P_targetCell_66 : decode c_P_targetCell 66 = .ok (.ireturn, 1) := by decide +kernel
abbrev c_P_folded : ByteArray := prog_3_method_5_code
def y_P_folded : MethodName := ⟨"EventKeeper$Projection", "folded", "(IJJ)J"⟩
theorem d_P_folded_0 : decode c_P_folded 0 = .ok (.iload_n 0, 1) := by decide +kernel
theorem d_P_folded_1 : decode c_P_folded 1 = .ok (.tableswitch 57 1 5 #[35, 39, 41, 45, 51], 35) := by decide +kernel
theorem d_P_folded_36 : decode c_P_folded 36 = .ok (.lload_n 1, 1) := by decide +kernel
theorem d_P_folded_37 : decode c_P_folded 37 = .ok (.lload_n 3, 1) := by decide +kernel
theorem d_P_folded_38 : decode c_P_folded 38 = .ok (.ladd, 1) := by decide +kernel
theorem d_P_folded_39 : decode c_P_folded 39 = .ok (.lreturn, 1) := by decide +kernel
theorem d_P_folded_40 : decode c_P_folded 40 = .ok (.lload_n 3, 1) := by decide +kernel
theorem d_P_folded_41 : decode c_P_folded 41 = .ok (.lreturn, 1) := by decide +kernel
theorem d_P_folded_42 : decode c_P_folded 42 = .ok (.lload_n 1, 1) := by decide +kernel
theorem d_P_folded_43 : decode c_P_folded 43 = .ok (.lconst 1, 1) := by decide +kernel
theorem d_P_folded_44 : decode c_P_folded 44 = .ok (.ladd, 1) := by decide +kernel
theorem d_P_folded_45 : decode c_P_folded 45 = .ok (.lreturn, 1) := by decide +kernel
theorem d_P_folded_46 : decode c_P_folded 46 = .ok (.lload_n 1, 1) := by decide +kernel
theorem d_P_folded_47 : decode c_P_folded 47 = .ok (.lload_n 3, 1) := by decide +kernel
theorem d_P_folded_48 : decode c_P_folded 48 = .ok (.invokestatic 66, 3) := by decide +kernel
theorem d_P_folded_51 : decode c_P_folded 51 = .ok (.lreturn, 1) := by decide +kernel
theorem d_P_folded_52 : decode c_P_folded 52 = .ok (.lload_n 1, 1) := by decide +kernel
theorem d_P_folded_53 : decode c_P_folded 53 = .ok (.lload_n 3, 1) := by decide +kernel
theorem d_P_folded_54 : decode c_P_folded 54 = .ok (.invokestatic 72, 3) := by decide +kernel
theorem d_P_folded_57 : decode c_P_folded 57 = .ok (.lreturn, 1) := by decide +kernel
theorem d_P_folded_58 : decode c_P_folded 58 = .ok (.lload_n 1, 1) := by decide +kernel
theorem d_P_folded_59 : decode c_P_folded 59 = .ok (.lreturn, 1) := by decide +kernel
abbrev c_P_countAndEmit : ByteArray := prog_3_method_6_code
def y_P_countAndEmit : MethodName := ⟨"EventKeeper$Projection", "countAndEmit", "(LEventKeeper$Log;I)Z"⟩
theorem d_P_countAndEmit_0 : decode c_P_countAndEmit 0 = .ok (.aload_n 0, 1) := by decide +kernel
theorem d_P_countAndEmit_1 : decode c_P_countAndEmit 1 = .ok (.getfield 22, 3) := by decide +kernel
theorem d_P_countAndEmit_4 : decode c_P_countAndEmit 4 = .ok (.iload_n 2, 1) := by decide +kernel
theorem d_P_countAndEmit_5 : decode c_P_countAndEmit 5 = .ok (.laload, 1) := by decide +kernel
theorem d_P_countAndEmit_6 : decode c_P_countAndEmit 6 = .ok (.lconst 1, 1) := by decide +kernel
theorem d_P_countAndEmit_7 : decode c_P_countAndEmit 7 = .ok (.ladd, 1) := by decide +kernel
theorem d_P_countAndEmit_8 : decode c_P_countAndEmit 8 = .ok (.lstore_n 3, 1) := by decide +kernel
theorem d_P_countAndEmit_9 : decode c_P_countAndEmit 9 = .ok (.lload_n 3, 1) := by decide +kernel
theorem d_P_countAndEmit_10 : decode c_P_countAndEmit 10 = .ok (.lconst 1, 1) := by decide +kernel
theorem d_P_countAndEmit_11 : decode c_P_countAndEmit 11 = .ok (.land, 1) := by decide +kernel
theorem d_P_countAndEmit_12 : decode c_P_countAndEmit 12 = .ok (.lconst 0, 1) := by decide +kernel
theorem d_P_countAndEmit_13 : decode c_P_countAndEmit 13 = .ok (.lcmp, 1) := by decide +kernel
theorem d_P_countAndEmit_14 : decode c_P_countAndEmit 14 = .ok (.ifCond .ne 7, 3) := by decide +kernel
theorem d_P_countAndEmit_17 : decode c_P_countAndEmit 17 = .ok (.iconst 1, 1) := by decide +kernel
theorem d_P_countAndEmit_18 : decode c_P_countAndEmit 18 = .ok (.goto 4, 3) := by decide +kernel
theorem d_P_countAndEmit_21 : decode c_P_countAndEmit 21 = .ok (.iconst 0, 1) := by decide +kernel
theorem d_P_countAndEmit_22 : decode c_P_countAndEmit 22 = .ok (.istore 5, 2) := by decide +kernel
theorem d_P_countAndEmit_24 : decode c_P_countAndEmit 24 = .ok (.iload 5, 2) := by decide +kernel
theorem d_P_countAndEmit_26 : decode c_P_countAndEmit 26 = .ok (.ifCond .eq 40, 3) := by decide +kernel
theorem d_P_countAndEmit_29 : decode c_P_countAndEmit 29 = .ok (.aload_n 1, 1) := by decide +kernel
theorem d_P_countAndEmit_30 : decode c_P_countAndEmit 30 = .ok (.aload_n 0, 1) := by decide +kernel
theorem d_P_countAndEmit_31 : decode c_P_countAndEmit 31 = .ok (.getfield 9, 3) := by decide +kernel
theorem d_P_countAndEmit_34 : decode c_P_countAndEmit 34 = .ok (.aload_n 0, 1) := by decide +kernel
theorem d_P_countAndEmit_35 : decode c_P_countAndEmit 35 = .ok (.getfield 35, 3) := by decide +kernel
theorem d_P_countAndEmit_38 : decode c_P_countAndEmit 38 = .ok (.invokevirtual 75, 3) := by decide +kernel
theorem d_P_countAndEmit_41 : decode c_P_countAndEmit 41 = .ok (.ifCond .ne 25, 3) := by decide +kernel
theorem d_P_countAndEmit_44 : decode c_P_countAndEmit 44 = .ok (.aload_n 1, 1) := by decide +kernel
theorem d_P_countAndEmit_45 : decode c_P_countAndEmit 45 = .ok (.invokevirtual 79, 3) := by decide +kernel
theorem d_P_countAndEmit_48 : decode c_P_countAndEmit 48 = .ok (.ifCond .eq 5, 3) := by decide +kernel
theorem d_P_countAndEmit_51 : decode c_P_countAndEmit 51 = .ok (.iconst 0, 1) := by decide +kernel
theorem d_P_countAndEmit_52 : decode c_P_countAndEmit 52 = .ok (.ireturn, 1) := by decide +kernel
theorem d_P_countAndEmit_53 : decode c_P_countAndEmit 53 = .ok (.aload_n 1, 1) := by decide +kernel
theorem d_P_countAndEmit_54 : decode c_P_countAndEmit 54 = .ok (.aload_n 0, 1) := by decide +kernel
theorem d_P_countAndEmit_55 : decode c_P_countAndEmit 55 = .ok (.getfield 9, 3) := by decide +kernel
theorem d_P_countAndEmit_58 : decode c_P_countAndEmit 58 = .ok (.aload_n 0, 1) := by decide +kernel
theorem d_P_countAndEmit_59 : decode c_P_countAndEmit 59 = .ok (.getfield 35, 3) := by decide +kernel
theorem d_P_countAndEmit_62 : decode c_P_countAndEmit 62 = .ok (.lload_n 3, 1) := by decide +kernel
theorem d_P_countAndEmit_63 : decode c_P_countAndEmit 63 = .ok (.invokevirtual 83, 3) := by decide +kernel
theorem d_P_countAndEmit_66 : decode c_P_countAndEmit 66 = .ok (.aload_n 0, 1) := by decide +kernel
theorem d_P_countAndEmit_67 : decode c_P_countAndEmit 67 = .ok (.getfield 22, 3) := by decide +kernel
theorem d_P_countAndEmit_70 : decode c_P_countAndEmit 70 = .ok (.iload_n 2, 1) := by decide +kernel
theorem d_P_countAndEmit_71 : decode c_P_countAndEmit 71 = .ok (.lload_n 3, 1) := by decide +kernel
theorem d_P_countAndEmit_72 : decode c_P_countAndEmit 72 = .ok (.lastore, 1) := by decide +kernel
theorem d_P_countAndEmit_73 : decode c_P_countAndEmit 73 = .ok (.iconst 1, 1) := by decide +kernel
theorem d_P_countAndEmit_74 : decode c_P_countAndEmit 74 = .ok (.ireturn, 1) := by decide +kernel
abbrev c_P_keep : ByteArray := prog_3_method_7_code
def y_P_keep : MethodName := ⟨"EventKeeper$Projection", "keep", "(I)I"⟩
theorem d_P_keep_0 : decode c_P_keep 0 = .ok (.aload_n 0, 1) := by decide +kernel
theorem d_P_keep_1 : decode c_P_keep 1 = .ok (.getfield 22, 3) := by decide +kernel
theorem d_P_keep_4 : decode c_P_keep 4 = .ok (.iconst 0, 1) := by decide +kernel
theorem d_P_keep_5 : decode c_P_keep 5 = .ok (.aload_n 0, 1) := by decide +kernel
theorem d_P_keep_6 : decode c_P_keep 6 = .ok (.getfield 26, 3) := by decide +kernel
theorem d_P_keep_9 : decode c_P_keep 9 = .ok (.iconst 0, 1) := by decide +kernel
theorem d_P_keep_10 : decode c_P_keep 10 = .ok (.bipush 16, 2) := by decide +kernel
theorem d_P_keep_12 : decode c_P_keep 12 = .ok (.invokestatic 87, 3) := by decide +kernel
theorem d_P_keep_15 : decode c_P_keep 15 = .ok (.aload_n 0, 1) := by decide +kernel
theorem d_P_keep_16 : decode c_P_keep 16 = .ok (.aload_n 0, 1) := by decide +kernel
theorem d_P_keep_17 : decode c_P_keep 17 = .ok (.getfield 35, 3) := by decide +kernel
theorem d_P_keep_20 : decode c_P_keep 20 = .ok (.putfield 93, 3) := by decide +kernel
theorem d_P_keep_23 : decode c_P_keep 23 = .ok (.aload_n 0, 1) := by decide +kernel
theorem d_P_keep_24 : decode c_P_keep 24 = .ok (.iload_n 1, 1) := by decide +kernel
theorem d_P_keep_25 : decode c_P_keep 25 = .ok (.putfield 29, 3) := by decide +kernel
theorem d_P_keep_28 : decode c_P_keep 28 = .ok (.aload_n 0, 1) := by decide +kernel
theorem d_P_keep_29 : decode c_P_keep 29 = .ok (.getfield 35, 3) := by decide +kernel
theorem d_P_keep_32 : decode c_P_keep 32 = .ok (.ireturn, 1) := by decide +kernel
abbrev c_P_recover : ByteArray := prog_3_method_8_code
def y_P_recover : MethodName := ⟨"EventKeeper$Projection", "recover", "(I)V"⟩
theorem d_P_recover_0 : decode c_P_recover 0 = .ok (.aload_n 0, 1) := by decide +kernel
theorem d_P_recover_1 : decode c_P_recover 1 = .ok (.getfield 29, 3) := by decide +kernel
theorem d_P_recover_4 : decode c_P_recover 4 = .ok (.iconst (-1), 1) := by decide +kernel
theorem d_P_recover_5 : decode c_P_recover 5 = .ok (.if_icmp .eq 11, 3) := by decide +kernel
theorem d_P_recover_8 : decode c_P_recover 8 = .ok (.aload_n 0, 1) := by decide +kernel
theorem d_P_recover_9 : decode c_P_recover 9 = .ok (.getfield 29, 3) := by decide +kernel
theorem d_P_recover_12 : decode c_P_recover 12 = .ok (.iload_n 1, 1) := by decide +kernel
theorem d_P_recover_13 : decode c_P_recover 13 = .ok (.if_icmp .le 10, 3) := by decide +kernel
theorem d_P_recover_16 : decode c_P_recover 16 = .ok (.aload_n 0, 1) := by decide +kernel
theorem d_P_recover_17 : decode c_P_recover 17 = .ok (.invokevirtual 32, 3) := by decide +kernel
theorem d_P_recover_20 : decode c_P_recover 20 = .ok (.goto 26, 3) := by decide +kernel
theorem d_P_recover_23 : decode c_P_recover 23 = .ok (.aload_n 0, 1) := by decide +kernel
theorem d_P_recover_24 : decode c_P_recover 24 = .ok (.getfield 26, 3) := by decide +kernel
theorem d_P_recover_27 : decode c_P_recover 27 = .ok (.iconst 0, 1) := by decide +kernel
theorem d_P_recover_28 : decode c_P_recover 28 = .ok (.aload_n 0, 1) := by decide +kernel
theorem d_P_recover_29 : decode c_P_recover 29 = .ok (.getfield 22, 3) := by decide +kernel
theorem d_P_recover_32 : decode c_P_recover 32 = .ok (.iconst 0, 1) := by decide +kernel
theorem d_P_recover_33 : decode c_P_recover 33 = .ok (.bipush 16, 2) := by decide +kernel
theorem d_P_recover_35 : decode c_P_recover 35 = .ok (.invokestatic 87, 3) := by decide +kernel
theorem d_P_recover_38 : decode c_P_recover 38 = .ok (.aload_n 0, 1) := by decide +kernel
theorem d_P_recover_39 : decode c_P_recover 39 = .ok (.aload_n 0, 1) := by decide +kernel
theorem d_P_recover_40 : decode c_P_recover 40 = .ok (.getfield 93, 3) := by decide +kernel
theorem d_P_recover_43 : decode c_P_recover 43 = .ok (.putfield 35, 3) := by decide +kernel
theorem d_P_recover_46 : decode c_P_recover 46 = .ok (.return_, 1) := by decide +kernel
abbrev c_P_startOver : ByteArray := prog_3_method_9_code
def y_P_startOver : MethodName := ⟨"EventKeeper$Projection", "startOver", "()V"⟩
theorem d_P_startOver_0 : decode c_P_startOver 0 = .ok (.iconst 0, 1) := by decide +kernel
theorem d_P_startOver_1 : decode c_P_startOver 1 = .ok (.istore_n 1, 1) := by decide +kernel
theorem d_P_startOver_2 : decode c_P_startOver 2 = .ok (.iload_n 1, 1) := by decide +kernel
theorem d_P_startOver_3 : decode c_P_startOver 3 = .ok (.bipush 16, 2) := by decide +kernel
theorem d_P_startOver_5 : decode c_P_startOver 5 = .ok (.if_icmp .ge 16, 3) := by decide +kernel
theorem d_P_startOver_8 : decode c_P_startOver 8 = .ok (.aload_n 0, 1) := by decide +kernel
theorem d_P_startOver_9 : decode c_P_startOver 9 = .ok (.getfield 22, 3) := by decide +kernel
theorem d_P_startOver_12 : decode c_P_startOver 12 = .ok (.iload_n 1, 1) := by decide +kernel
theorem d_P_startOver_13 : decode c_P_startOver 13 = .ok (.lconst 0, 1) := by decide +kernel
theorem d_P_startOver_14 : decode c_P_startOver 14 = .ok (.lastore, 1) := by decide +kernel
theorem d_P_startOver_15 : decode c_P_startOver 15 = .ok (.iinc 1 1, 3) := by decide +kernel
theorem d_P_startOver_18 : decode c_P_startOver 18 = .ok (.goto (-16), 3) := by decide +kernel
theorem d_P_startOver_21 : decode c_P_startOver 21 = .ok (.aload_n 0, 1) := by decide +kernel
theorem d_P_startOver_22 : decode c_P_startOver 22 = .ok (.iconst 0, 1) := by decide +kernel
theorem d_P_startOver_23 : decode c_P_startOver 23 = .ok (.putfield 35, 3) := by decide +kernel
theorem d_P_startOver_26 : decode c_P_startOver 26 = .ok (.aload_n 0, 1) := by decide +kernel
theorem d_P_startOver_27 : decode c_P_startOver 27 = .ok (.iconst (-1), 1) := by decide +kernel
theorem d_P_startOver_28 : decode c_P_startOver 28 = .ok (.putfield 29, 3) := by decide +kernel
theorem d_P_startOver_31 : decode c_P_startOver 31 = .ok (.return_, 1) := by decide +kernel
abbrev c_S_init : ByteArray := prog_4_method_1_code
def y_S_init : MethodName := ⟨"EventKeeper$Subscription", "<init>", "()V"⟩
theorem d_S_init_0 : decode c_S_init 0 = .ok (.aload_n 0, 1) := by decide +kernel
theorem d_S_init_1 : decode c_S_init 1 = .ok (.invokespecial 3, 3) := by decide +kernel
theorem d_S_init_4 : decode c_S_init 4 = .ok (.aload_n 0, 1) := by decide +kernel
theorem d_S_init_5 : decode c_S_init 5 = .ok (.iconst (-1), 1) := by decide +kernel
theorem d_S_init_6 : decode c_S_init 6 = .ok (.putfield 9, 3) := by decide +kernel
theorem d_S_init_9 : decode c_S_init 9 = .ok (.aload_n 0, 1) := by decide +kernel
theorem d_S_init_10 : decode c_S_init 10 = .ok (.sipush 255, 3) := by decide +kernel
theorem d_S_init_13 : decode c_S_init 13 = .ok (.putfield 15, 3) := by decide +kernel
theorem d_S_init_16 : decode c_S_init 16 = .ok (.return_, 1) := by decide +kernel
abbrev c_S_setFilter : ByteArray := prog_4_method_2_code
def y_S_setFilter : MethodName := ⟨"EventKeeper$Subscription", "setFilter", "(II)V"⟩
theorem d_S_setFilter_0 : decode c_S_setFilter 0 = .ok (.aload_n 0, 1) := by decide +kernel
theorem d_S_setFilter_1 : decode c_S_setFilter 1 = .ok (.iload_n 1, 1) := by decide +kernel
theorem d_S_setFilter_2 : decode c_S_setFilter 2 = .ok (.putfield 9, 3) := by decide +kernel
theorem d_S_setFilter_5 : decode c_S_setFilter 5 = .ok (.aload_n 0, 1) := by decide +kernel
theorem d_S_setFilter_6 : decode c_S_setFilter 6 = .ok (.iload_n 2, 1) := by decide +kernel
theorem d_S_setFilter_7 : decode c_S_setFilter 7 = .ok (.putfield 15, 3) := by decide +kernel
theorem d_S_setFilter_10 : decode c_S_setFilter 10 = .ok (.aload_n 0, 1) := by decide +kernel
theorem d_S_setFilter_11 : decode c_S_setFilter 11 = .ok (.iconst 0, 1) := by decide +kernel
theorem d_S_setFilter_12 : decode c_S_setFilter 12 = .ok (.putfield 18, 3) := by decide +kernel
theorem d_S_setFilter_15 : decode c_S_setFilter 15 = .ok (.aload_n 0, 1) := by decide +kernel
theorem d_S_setFilter_16 : decode c_S_setFilter 16 = .ok (.iconst 0, 1) := by decide +kernel
theorem d_S_setFilter_17 : decode c_S_setFilter 17 = .ok (.putfield 21, 3) := by decide +kernel
theorem d_S_setFilter_20 : decode c_S_setFilter 20 = .ok (.return_, 1) := by decide +kernel
abbrev c_S_firstWaiting : ByteArray := prog_4_method_3_code
def y_S_firstWaiting : MethodName := ⟨"EventKeeper$Subscription", "firstWaiting", "(LEventKeeper$Log;)I"⟩
theorem d_S_firstWaiting_0 : decode c_S_firstWaiting 0 = .ok (.aload_n 0, 1) := by decide +kernel
theorem d_S_firstWaiting_1 : decode c_S_firstWaiting 1 = .ok (.getfield 18, 3) := by decide +kernel
theorem d_S_firstWaiting_4 : decode c_S_firstWaiting 4 = .ok (.istore_n 2, 1) := by decide +kernel
theorem d_S_firstWaiting_5 : decode c_S_firstWaiting 5 = .ok (.iload_n 2, 1) := by decide +kernel
theorem d_S_firstWaiting_6 : decode c_S_firstWaiting 6 = .ok (.aload_n 1, 1) := by decide +kernel
theorem d_S_firstWaiting_7 : decode c_S_firstWaiting 7 = .ok (.getfield 24, 3) := by decide +kernel
theorem d_S_firstWaiting_10 : decode c_S_firstWaiting 10 = .ok (.if_icmp .ge 30, 3) := by decide +kernel
theorem d_S_firstWaiting_13 : decode c_S_firstWaiting 13 = .ok (.aload_n 0, 1) := by decide +kernel
theorem d_S_firstWaiting_14 : decode c_S_firstWaiting 14 = .ok (.aload_n 1, 1) := by decide +kernel
theorem d_S_firstWaiting_15 : decode c_S_firstWaiting 15 = .ok (.getfield 29, 3) := by decide +kernel
theorem d_S_firstWaiting_18 : decode c_S_firstWaiting 18 = .ok (.iload_n 2, 1) := by decide +kernel
theorem d_S_firstWaiting_19 : decode c_S_firstWaiting 19 = .ok (.iaload, 1) := by decide +kernel
theorem d_S_firstWaiting_20 : decode c_S_firstWaiting 20 = .ok (.aload_n 1, 1) := by decide +kernel
theorem d_S_firstWaiting_21 : decode c_S_firstWaiting 21 = .ok (.getfield 33, 3) := by decide +kernel
theorem d_S_firstWaiting_24 : decode c_S_firstWaiting 24 = .ok (.iload_n 2, 1) := by decide +kernel
theorem d_S_firstWaiting_25 : decode c_S_firstWaiting 25 = .ok (.iaload, 1) := by decide +kernel
theorem d_S_firstWaiting_26 : decode c_S_firstWaiting 26 = .ok (.invokevirtual 36, 3) := by decide +kernel
theorem d_S_firstWaiting_29 : decode c_S_firstWaiting 29 = .ok (.ifCond .eq 5, 3) := by decide +kernel
theorem d_S_firstWaiting_32 : decode c_S_firstWaiting 32 = .ok (.iload_n 2, 1) := by decide +kernel
theorem d_S_firstWaiting_33 : decode c_S_firstWaiting 33 = .ok (.ireturn, 1) := by decide +kernel
theorem d_S_firstWaiting_34 : decode c_S_firstWaiting 34 = .ok (.iinc 2 1, 3) := by decide +kernel
theorem d_S_firstWaiting_37 : decode c_S_firstWaiting 37 = .ok (.goto (-32), 3) := by decide +kernel
theorem d_S_firstWaiting_40 : decode c_S_firstWaiting 40 = .ok (.iconst (-1), 1) := by decide +kernel
theorem d_S_firstWaiting_41 : decode c_S_firstWaiting 41 = .ok (.ireturn, 1) := by decide +kernel
abbrev c_S_letsThrough : ByteArray := prog_4_method_4_code
def y_S_letsThrough : MethodName := ⟨"EventKeeper$Subscription", "letsThrough", "(II)Z"⟩
theorem d_S_letsThrough_0 : decode c_S_letsThrough 0 = .ok (.aload_n 0, 1) := by decide +kernel
theorem d_S_letsThrough_1 : decode c_S_letsThrough 1 = .ok (.getfield 9, 3) := by decide +kernel
theorem d_S_letsThrough_4 : decode c_S_letsThrough 4 = .ok (.iconst (-1), 1) := by decide +kernel
theorem d_S_letsThrough_5 : decode c_S_letsThrough 5 = .ok (.if_icmp .eq 11, 3) := by decide +kernel
theorem d_S_letsThrough_8 : decode c_S_letsThrough 8 = .ok (.aload_n 0, 1) := by decide +kernel
theorem d_S_letsThrough_9 : decode c_S_letsThrough 9 = .ok (.getfield 9, 3) := by decide +kernel
theorem d_S_letsThrough_12 : decode c_S_letsThrough 12 = .ok (.iload_n 1, 1) := by decide +kernel
theorem d_S_letsThrough_13 : decode c_S_letsThrough 13 = .ok (.if_icmp .ne 7, 3) := by decide +kernel
theorem d_S_letsThrough_16 : decode c_S_letsThrough 16 = .ok (.iconst 1, 1) := by decide +kernel
theorem d_S_letsThrough_17 : decode c_S_letsThrough 17 = .ok (.goto 4, 3) := by decide +kernel
theorem d_S_letsThrough_20 : decode c_S_letsThrough 20 = .ok (.iconst 0, 1) := by decide +kernel
theorem d_S_letsThrough_21 : decode c_S_letsThrough 21 = .ok (.istore_n 3, 1) := by decide +kernel
theorem d_S_letsThrough_22 : decode c_S_letsThrough 22 = .ok (.iload_n 3, 1) := by decide +kernel
theorem d_S_letsThrough_23 : decode c_S_letsThrough 23 = .ok (.ifCond .eq 18, 3) := by decide +kernel
theorem d_S_letsThrough_26 : decode c_S_letsThrough 26 = .ok (.aload_n 0, 1) := by decide +kernel
theorem d_S_letsThrough_27 : decode c_S_letsThrough 27 = .ok (.getfield 15, 3) := by decide +kernel
theorem d_S_letsThrough_30 : decode c_S_letsThrough 30 = .ok (.iconst 1, 1) := by decide +kernel
theorem d_S_letsThrough_31 : decode c_S_letsThrough 31 = .ok (.iload_n 2, 1) := by decide +kernel
theorem d_S_letsThrough_32 : decode c_S_letsThrough 32 = .ok (.ishl, 1) := by decide +kernel
theorem d_S_letsThrough_33 : decode c_S_letsThrough 33 = .ok (.iand, 1) := by decide +kernel
theorem d_S_letsThrough_34 : decode c_S_letsThrough 34 = .ok (.ifCond .eq 7, 3) := by decide +kernel
theorem d_S_letsThrough_37 : decode c_S_letsThrough 37 = .ok (.iconst 1, 1) := by decide +kernel
theorem d_S_letsThrough_38 : decode c_S_letsThrough 38 = .ok (.goto 4, 3) := by decide +kernel
theorem d_S_letsThrough_41 : decode c_S_letsThrough 41 = .ok (.iconst 0, 1) := by decide +kernel
theorem d_S_letsThrough_42 : decode c_S_letsThrough 42 = .ok (.ireturn, 1) := by decide +kernel
abbrev c_S_passBehind : ByteArray := prog_4_method_5_code
def y_S_passBehind : MethodName := ⟨"EventKeeper$Subscription", "passBehind", "(I)I"⟩
theorem d_S_passBehind_0 : decode c_S_passBehind 0 = .ok (.aload_n 0, 1) := by decide +kernel
theorem d_S_passBehind_1 : decode c_S_passBehind 1 = .ok (.aload_n 0, 1) := by decide +kernel
theorem d_S_passBehind_2 : decode c_S_passBehind 2 = .ok (.getfield 18, 3) := by decide +kernel
theorem d_S_passBehind_5 : decode c_S_passBehind 5 = .ok (.iload_n 1, 1) := by decide +kernel
theorem d_S_passBehind_6 : decode c_S_passBehind 6 = .ok (.iconst 1, 1) := by decide +kernel
theorem d_S_passBehind_7 : decode c_S_passBehind 7 = .ok (.iadd, 1) := by decide +kernel
theorem d_S_passBehind_8 : decode c_S_passBehind 8 = .ok (.invokestatic 40, 3) := by decide +kernel
theorem d_S_passBehind_11 : decode c_S_passBehind 11 = .ok (.putfield 18, 3) := by decide +kernel
theorem d_S_passBehind_14 : decode c_S_passBehind 14 = .ok (.aload_n 0, 1) := by decide +kernel
theorem d_S_passBehind_15 : decode c_S_passBehind 15 = .ok (.getfield 18, 3) := by decide +kernel
theorem d_S_passBehind_18 : decode c_S_passBehind 18 = .ok (.ireturn, 1) := by decide +kernel
abbrev c_S_makeSafe : ByteArray := prog_4_method_6_code
def y_S_makeSafe : MethodName := ⟨"EventKeeper$Subscription", "makeSafe", "()V"⟩
theorem d_S_makeSafe_0 : decode c_S_makeSafe 0 = .ok (.aload_n 0, 1) := by decide +kernel
theorem d_S_makeSafe_1 : decode c_S_makeSafe 1 = .ok (.aload_n 0, 1) := by decide +kernel
theorem d_S_makeSafe_2 : decode c_S_makeSafe 2 = .ok (.getfield 18, 3) := by decide +kernel
theorem d_S_makeSafe_5 : decode c_S_makeSafe 5 = .ok (.putfield 21, 3) := by decide +kernel
theorem d_S_makeSafe_8 : decode c_S_makeSafe 8 = .ok (.return_, 1) := by decide +kernel
abbrev c_S_recover : ByteArray := prog_4_method_7_code
def y_S_recover : MethodName := ⟨"EventKeeper$Subscription", "recover", "(I)V"⟩
theorem d_S_recover_0 : decode c_S_recover 0 = .ok (.aload_n 0, 1) := by decide +kernel
theorem d_S_recover_1 : decode c_S_recover 1 = .ok (.aload_n 0, 1) := by decide +kernel
theorem d_S_recover_2 : decode c_S_recover 2 = .ok (.getfield 21, 3) := by decide +kernel
theorem d_S_recover_5 : decode c_S_recover 5 = .ok (.iload_n 1, 1) := by decide +kernel
theorem d_S_recover_6 : decode c_S_recover 6 = .ok (.invokestatic 46, 3) := by decide +kernel
theorem d_S_recover_9 : decode c_S_recover 9 = .ok (.putfield 18, 3) := by decide +kernel
theorem d_S_recover_12 : decode c_S_recover 12 = .ok (.return_, 1) := by decide +kernel
end
section
abbrev c_EK_init : ByteArray := prog_1_method_1_code
def y_EK_init : MethodName := ⟨"EventKeeper", "<init>", "()V"⟩
theorem d_EK_init_0 : decode c_EK_init 0 = .ok (.aload_n 0, 1) := by decide +kernel
theorem d_EK_init_1 : decode c_EK_init 1 = .ok (.invokespecial 1, 3) := by decide +kernel
theorem d_EK_init_4 : decode c_EK_init 4 = .ok (.aload_n 0, 1) := by decide +kernel
theorem d_EK_init_5 : decode c_EK_init 5 = .ok (.new 7, 3) := by decide +kernel
theorem d_EK_init_8 : decode c_EK_init 8 = .ok (.dup, 1) := by decide +kernel
theorem d_EK_init_9 : decode c_EK_init 9 = .ok (.invokespecial 9, 3) := by decide +kernel
theorem d_EK_init_12 : decode c_EK_init 12 = .ok (.putfield 10, 3) := by decide +kernel
theorem d_EK_init_15 : decode c_EK_init 15 = .ok (.aload_n 0, 1) := by decide +kernel
theorem d_EK_init_16 : decode c_EK_init 16 = .ok (.bipush 8, 2) := by decide +kernel
theorem d_EK_init_18 : decode c_EK_init 18 = .ok (.anewarray 16, 3) := by decide +kernel
theorem d_EK_init_21 : decode c_EK_init 21 = .ok (.putfield 18, 3) := by decide +kernel
theorem d_EK_init_24 : decode c_EK_init 24 = .ok (.iconst 0, 1) := by decide +kernel
theorem d_EK_init_25 : decode c_EK_init 25 = .ok (.istore_n 1, 1) := by decide +kernel
theorem d_EK_init_26 : decode c_EK_init 26 = .ok (.iload_n 1, 1) := by decide +kernel
theorem d_EK_init_27 : decode c_EK_init 27 = .ok (.bipush 8, 2) := by decide +kernel
theorem d_EK_init_29 : decode c_EK_init 29 = .ok (.if_icmp .ge 23, 3) := by decide +kernel
theorem d_EK_init_32 : decode c_EK_init 32 = .ok (.aload_n 0, 1) := by decide +kernel
theorem d_EK_init_33 : decode c_EK_init 33 = .ok (.getfield 18, 3) := by decide +kernel
theorem d_EK_init_36 : decode c_EK_init 36 = .ok (.iload_n 1, 1) := by decide +kernel
theorem d_EK_init_37 : decode c_EK_init 37 = .ok (.new 16, 3) := by decide +kernel
theorem d_EK_init_40 : decode c_EK_init 40 = .ok (.dup, 1) := by decide +kernel
theorem d_EK_init_41 : decode c_EK_init 41 = .ok (.iload_n 1, 1) := by decide +kernel
theorem d_EK_init_42 : decode c_EK_init 42 = .ok (.invokespecial 22, 3) := by decide +kernel
theorem d_EK_init_45 : decode c_EK_init 45 = .ok (.aastore, 1) := by decide +kernel
theorem d_EK_init_46 : decode c_EK_init 46 = .ok (.iinc 1 1, 3) := by decide +kernel
theorem d_EK_init_49 : decode c_EK_init 49 = .ok (.goto (-23), 3) := by decide +kernel
theorem d_EK_init_52 : decode c_EK_init 52 = .ok (.aload_n 0, 1) := by decide +kernel
theorem d_EK_init_53 : decode c_EK_init 53 = .ok (.bipush 8, 2) := by decide +kernel
theorem d_EK_init_55 : decode c_EK_init 55 = .ok (.anewarray 25, 3) := by decide +kernel
theorem d_EK_init_58 : decode c_EK_init 58 = .ok (.putfield 27, 3) := by decide +kernel
theorem d_EK_init_61 : decode c_EK_init 61 = .ok (.iconst 0, 1) := by decide +kernel
theorem d_EK_init_62 : decode c_EK_init 62 = .ok (.istore_n 1, 1) := by decide +kernel
theorem d_EK_init_63 : decode c_EK_init 63 = .ok (.iload_n 1, 1) := by decide +kernel
theorem d_EK_init_64 : decode c_EK_init 64 = .ok (.bipush 8, 2) := by decide +kernel
theorem d_EK_init_66 : decode c_EK_init 66 = .ok (.if_icmp .ge 22, 3) := by decide +kernel
theorem d_EK_init_69 : decode c_EK_init 69 = .ok (.aload_n 0, 1) := by decide +kernel
theorem d_EK_init_70 : decode c_EK_init 70 = .ok (.getfield 27, 3) := by decide +kernel
theorem d_EK_init_73 : decode c_EK_init 73 = .ok (.iload_n 1, 1) := by decide +kernel
theorem d_EK_init_74 : decode c_EK_init 74 = .ok (.new 25, 3) := by decide +kernel
theorem d_EK_init_77 : decode c_EK_init 77 = .ok (.dup, 1) := by decide +kernel
theorem d_EK_init_78 : decode c_EK_init 78 = .ok (.invokespecial 31, 3) := by decide +kernel
theorem d_EK_init_81 : decode c_EK_init 81 = .ok (.aastore, 1) := by decide +kernel
theorem d_EK_init_82 : decode c_EK_init 82 = .ok (.iinc 1 1, 3) := by decide +kernel
theorem d_EK_init_85 : decode c_EK_init 85 = .ok (.goto (-22), 3) := by decide +kernel
theorem d_EK_init_88 : decode c_EK_init 88 = .ok (.return_, 1) := by decide +kernel
abbrev c_EK_append : ByteArray := prog_1_method_2_code
def y_EK_append : MethodName := ⟨"EventKeeper", "append", "(IIIJ)I"⟩
theorem d_EK_append_0 : decode c_EK_append 0 = .ok (.iload_n 1, 1) := by decide +kernel
theorem d_EK_append_1 : decode c_EK_append 1 = .ok (.invokestatic 32, 3) := by decide +kernel
theorem d_EK_append_4 : decode c_EK_append 4 = .ok (.iload_n 2, 1) := by decide +kernel
theorem d_EK_append_5 : decode c_EK_append 5 = .ok (.iconst (-1), 1) := by decide +kernel
theorem d_EK_append_6 : decode c_EK_append 6 = .ok (.if_icmp .lt 7, 3) := by decide +kernel
theorem d_EK_append_9 : decode c_EK_append 9 = .ok (.iconst 1, 1) := by decide +kernel
theorem d_EK_append_10 : decode c_EK_append 10 = .ok (.goto 4, 3) := by decide +kernel
theorem d_EK_append_13 : decode c_EK_append 13 = .ok (.iconst 0, 1) := by decide +kernel
theorem d_EK_append_14 : decode c_EK_append 14 = .ok (.invokestatic 35, 3) := by decide +kernel
theorem d_EK_append_17 : decode c_EK_append 17 = .ok (.iload_n 3, 1) := by decide +kernel
theorem d_EK_append_18 : decode c_EK_append 18 = .ok (.invokestatic 39, 3) := by decide +kernel
theorem d_EK_append_21 : decode c_EK_append 21 = .ok (.iload_n 2, 1) := by decide +kernel
theorem d_EK_append_22 : decode c_EK_append 22 = .ok (.iconst (-1), 1) := by decide +kernel
theorem d_EK_append_23 : decode c_EK_append 23 = .ok (.if_icmp .eq 26, 3) := by decide +kernel
theorem d_EK_append_26 : decode c_EK_append 26 = .ok (.iload_n 2, 1) := by decide +kernel
theorem d_EK_append_27 : decode c_EK_append 27 = .ok (.aload_n 0, 1) := by decide +kernel
theorem d_EK_append_28 : decode c_EK_append 28 = .ok (.getfield 10, 3) := by decide +kernel
theorem d_EK_append_31 : decode c_EK_append 31 = .ok (.getfield 42, 3) := by decide +kernel
theorem d_EK_append_34 : decode c_EK_append 34 = .ok (.iload_n 1, 1) := by decide +kernel
theorem d_EK_append_35 : decode c_EK_append 35 = .ok (.iaload, 1) := by decide +kernel
theorem d_EK_append_36 : decode c_EK_append 36 = .ok (.if_icmp .eq 13, 3) := by decide +kernel
theorem d_EK_append_39 : decode c_EK_append 39 = .ok (.new 46, 3) := by decide +kernel
theorem d_EK_append_42 : decode c_EK_append 42 = .ok (.dup, 1) := by decide +kernel
theorem d_EK_append_43 : decode c_EK_append 43 = .ok (.ldc 48, 2) := by decide +kernel
theorem d_EK_append_45 : decode c_EK_append 45 = .ok (.invokespecial 50, 3) := by decide +kernel
theorem d_EK_append_48 : decode c_EK_append 48 = .ok (.athrow, 1) := by decide +kernel
theorem d_EK_append_49 : decode c_EK_append 49 = .ok (.aload_n 0, 1) := by decide +kernel
theorem d_EK_append_50 : decode c_EK_append 50 = .ok (.getfield 10, 3) := by decide +kernel
theorem d_EK_append_53 : decode c_EK_append 53 = .ok (.invokevirtual 53, 3) := by decide +kernel
theorem d_EK_append_56 : decode c_EK_append 56 = .ok (.ifCond .eq 13, 3) := by decide +kernel
theorem d_EK_append_59 : decode c_EK_append 59 = .ok (.new 57, 3) := by decide +kernel
theorem d_EK_append_62 : decode c_EK_append 62 = .ok (.dup, 1) := by decide +kernel
theorem d_EK_append_63 : decode c_EK_append 63 = .ok (.ldc 59, 2) := by decide +kernel
theorem d_EK_append_65 : decode c_EK_append 65 = .ok (.invokespecial 61, 3) := by decide +kernel
theorem d_EK_append_68 : decode c_EK_append 68 = .ok (.athrow, 1) := by decide +kernel
theorem d_EK_append_69 : decode c_EK_append 69 = .ok (.aload_n 0, 1) := by decide +kernel
theorem d_EK_append_70 : decode c_EK_append 70 = .ok (.getfield 10, 3) := by decide +kernel
theorem d_EK_append_73 : decode c_EK_append 73 = .ok (.iload_n 1, 1) := by decide +kernel
theorem d_EK_append_74 : decode c_EK_append 74 = .ok (.iload_n 3, 1) := by decide +kernel
theorem d_EK_append_75 : decode c_EK_append 75 = .ok (.lload 4, 2) := by decide +kernel
theorem d_EK_append_77 : decode c_EK_append 77 = .ok (.invokevirtual 62, 3) := by decide +kernel
theorem d_EK_append_80 : decode c_EK_append 80 = .ok (.ireturn, 1) := by decide +kernel
abbrev c_EK_rule : ByteArray := prog_1_method_3_code
def y_EK_rule : MethodName := ⟨"EventKeeper", "rule", "(IIII)V"⟩
theorem d_EK_rule_0 : decode c_EK_rule 0 = .ok (.iload_n 1, 1) := by decide +kernel
theorem d_EK_rule_1 : decode c_EK_rule 1 = .ok (.invokestatic 66, 3) := by decide +kernel
theorem d_EK_rule_4 : decode c_EK_rule 4 = .ok (.iload_n 2, 1) := by decide +kernel
theorem d_EK_rule_5 : decode c_EK_rule 5 = .ok (.invokestatic 39, 3) := by decide +kernel
theorem d_EK_rule_8 : decode c_EK_rule 8 = .ok (.iload_n 3, 1) := by decide +kernel
theorem d_EK_rule_9 : decode c_EK_rule 9 = .ok (.ifCond .lt 13, 3) := by decide +kernel
theorem d_EK_rule_12 : decode c_EK_rule 12 = .ok (.iload_n 3, 1) := by decide +kernel
theorem d_EK_rule_13 : decode c_EK_rule 13 = .ok (.bipush 6, 2) := by decide +kernel
theorem d_EK_rule_15 : decode c_EK_rule 15 = .ok (.if_icmp .gt 7, 3) := by decide +kernel
theorem d_EK_rule_18 : decode c_EK_rule 18 = .ok (.iconst 1, 1) := by decide +kernel
theorem d_EK_rule_19 : decode c_EK_rule 19 = .ok (.goto 4, 3) := by decide +kernel
theorem d_EK_rule_22 : decode c_EK_rule 22 = .ok (.iconst 0, 1) := by decide +kernel
theorem d_EK_rule_23 : decode c_EK_rule 23 = .ok (.invokestatic 35, 3) := by decide +kernel
theorem d_EK_rule_26 : decode c_EK_rule 26 = .ok (.iload 4, 2) := by decide +kernel
theorem d_EK_rule_28 : decode c_EK_rule 28 = .ok (.ifCond .lt 13, 3) := by decide +kernel
theorem d_EK_rule_31 : decode c_EK_rule 31 = .ok (.iload 4, 2) := by decide +kernel
theorem d_EK_rule_33 : decode c_EK_rule 33 = .ok (.iconst 2, 1) := by decide +kernel
theorem d_EK_rule_34 : decode c_EK_rule 34 = .ok (.if_icmp .gt 7, 3) := by decide +kernel
theorem d_EK_rule_37 : decode c_EK_rule 37 = .ok (.iconst 1, 1) := by decide +kernel
theorem d_EK_rule_38 : decode c_EK_rule 38 = .ok (.goto 4, 3) := by decide +kernel
theorem d_EK_rule_41 : decode c_EK_rule 41 = .ok (.iconst 0, 1) := by decide +kernel
theorem d_EK_rule_42 : decode c_EK_rule 42 = .ok (.invokestatic 35, 3) := by decide +kernel
theorem d_EK_rule_45 : decode c_EK_rule 45 = .ok (.aload_n 0, 1) := by decide +kernel
theorem d_EK_rule_46 : decode c_EK_rule 46 = .ok (.getfield 18, 3) := by decide +kernel
theorem d_EK_rule_49 : decode c_EK_rule 49 = .ok (.iload_n 1, 1) := by decide +kernel
theorem d_EK_rule_50 : decode c_EK_rule 50 = .ok (.aaload, 1) := by decide +kernel
theorem d_EK_rule_51 : decode c_EK_rule 51 = .ok (.iload_n 2, 1) := by decide +kernel
theorem d_EK_rule_52 : decode c_EK_rule 52 = .ok (.iload_n 3, 1) := by decide +kernel
theorem d_EK_rule_53 : decode c_EK_rule 53 = .ok (.iload 4, 2) := by decide +kernel
theorem d_EK_rule_55 : decode c_EK_rule 55 = .ok (.invokevirtual 69, 3) := by decide +kernel
theorem d_EK_rule_58 : decode c_EK_rule 58 = .ok (.return_, 1) := by decide +kernel
abbrev c_EK_advance : ByteArray := prog_1_method_4_code
def y_EK_advance : MethodName := ⟨"EventKeeper", "advance", "(II)I"⟩
theorem d_EK_advance_0 : decode c_EK_advance 0 = .ok (.iload_n 1, 1) := by decide +kernel
theorem d_EK_advance_1 : decode c_EK_advance 1 = .ok (.invokestatic 66, 3) := by decide +kernel
theorem d_EK_advance_4 : decode c_EK_advance 4 = .ok (.iload_n 2, 1) := by decide +kernel
theorem d_EK_advance_5 : decode c_EK_advance 5 = .ok (.ifCond .lt 14, 3) := by decide +kernel
theorem d_EK_advance_8 : decode c_EK_advance 8 = .ok (.iload_n 2, 1) := by decide +kernel
theorem d_EK_advance_9 : decode c_EK_advance 9 = .ok (.sipush 1000, 3) := by decide +kernel
theorem d_EK_advance_12 : decode c_EK_advance 12 = .ok (.if_icmp .gt 7, 3) := by decide +kernel
theorem d_EK_advance_15 : decode c_EK_advance 15 = .ok (.iconst 1, 1) := by decide +kernel
theorem d_EK_advance_16 : decode c_EK_advance 16 = .ok (.goto 4, 3) := by decide +kernel
theorem d_EK_advance_19 : decode c_EK_advance 19 = .ok (.iconst 0, 1) := by decide +kernel
theorem d_EK_advance_20 : decode c_EK_advance 20 = .ok (.invokestatic 35, 3) := by decide +kernel
theorem d_EK_advance_23 : decode c_EK_advance 23 = .ok (.iconst 0, 1) := by decide +kernel
theorem d_EK_advance_24 : decode c_EK_advance 24 = .ok (.istore_n 3, 1) := by decide +kernel
theorem d_EK_advance_25 : decode c_EK_advance 25 = .ok (.iload_n 3, 1) := by decide +kernel
theorem d_EK_advance_26 : decode c_EK_advance 26 = .ok (.iload_n 2, 1) := by decide +kernel
theorem d_EK_advance_27 : decode c_EK_advance 27 = .ok (.if_icmp .ge 27, 3) := by decide +kernel
theorem d_EK_advance_30 : decode c_EK_advance 30 = .ok (.aload_n 0, 1) := by decide +kernel
theorem d_EK_advance_31 : decode c_EK_advance 31 = .ok (.getfield 18, 3) := by decide +kernel
theorem d_EK_advance_34 : decode c_EK_advance 34 = .ok (.iload_n 1, 1) := by decide +kernel
theorem d_EK_advance_35 : decode c_EK_advance 35 = .ok (.aaload, 1) := by decide +kernel
theorem d_EK_advance_36 : decode c_EK_advance 36 = .ok (.aload_n 0, 1) := by decide +kernel
theorem d_EK_advance_37 : decode c_EK_advance 37 = .ok (.getfield 10, 3) := by decide +kernel
theorem d_EK_advance_40 : decode c_EK_advance 40 = .ok (.invokevirtual 73, 3) := by decide +kernel
theorem d_EK_advance_43 : decode c_EK_advance 43 = .ok (.ifCond .ne 5, 3) := by decide +kernel
theorem d_EK_advance_46 : decode c_EK_advance 46 = .ok (.iload_n 3, 1) := by decide +kernel
theorem d_EK_advance_47 : decode c_EK_advance 47 = .ok (.ireturn, 1) := by decide +kernel
theorem d_EK_advance_48 : decode c_EK_advance 48 = .ok (.iinc 3 1, 3) := by decide +kernel
theorem d_EK_advance_51 : decode c_EK_advance 51 = .ok (.goto (-26), 3) := by decide +kernel
theorem d_EK_advance_54 : decode c_EK_advance 54 = .ok (.iload_n 2, 1) := by decide +kernel
theorem d_EK_advance_55 : decode c_EK_advance 55 = .ok (.ireturn, 1) := by decide +kernel
abbrev c_EK_save : ByteArray := prog_1_method_5_code
def y_EK_save : MethodName := ⟨"EventKeeper", "save", "(I)I"⟩
theorem d_EK_save_0 : decode c_EK_save 0 = .ok (.iload_n 1, 1) := by decide +kernel
theorem d_EK_save_1 : decode c_EK_save 1 = .ok (.invokestatic 66, 3) := by decide +kernel
theorem d_EK_save_4 : decode c_EK_save 4 = .ok (.aload_n 0, 1) := by decide +kernel
theorem d_EK_save_5 : decode c_EK_save 5 = .ok (.getfield 18, 3) := by decide +kernel
theorem d_EK_save_8 : decode c_EK_save 8 = .ok (.iload_n 1, 1) := by decide +kernel
theorem d_EK_save_9 : decode c_EK_save 9 = .ok (.aaload, 1) := by decide +kernel
theorem d_EK_save_10 : decode c_EK_save 10 = .ok (.aload_n 0, 1) := by decide +kernel
theorem d_EK_save_11 : decode c_EK_save 11 = .ok (.getfield 10, 3) := by decide +kernel
theorem d_EK_save_14 : decode c_EK_save 14 = .ok (.getfield 77, 3) := by decide +kernel
theorem d_EK_save_17 : decode c_EK_save 17 = .ok (.invokevirtual 81, 3) := by decide +kernel
theorem d_EK_save_20 : decode c_EK_save 20 = .ok (.ireturn, 1) := by decide +kernel
abbrev c_EK_cell : ByteArray := prog_1_method_6_code
def y_EK_cell : MethodName := ⟨"EventKeeper", "cell", "(II)J"⟩
theorem d_EK_cell_0 : decode c_EK_cell 0 = .ok (.iload_n 1, 1) := by decide +kernel
theorem d_EK_cell_1 : decode c_EK_cell 1 = .ok (.invokestatic 66, 3) := by decide +kernel
theorem d_EK_cell_4 : decode c_EK_cell 4 = .ok (.iload_n 2, 1) := by decide +kernel
theorem d_EK_cell_5 : decode c_EK_cell 5 = .ok (.ifCond .lt 9, 3) := by decide +kernel
theorem d_EK_cell_8 : decode c_EK_cell 8 = .ok (.iload_n 2, 1) := by decide +kernel
theorem d_EK_cell_9 : decode c_EK_cell 9 = .ok (.bipush 16, 2) := by decide +kernel
theorem d_EK_cell_11 : decode c_EK_cell 11 = .ok (.if_icmp .lt 13, 3) := by decide +kernel
theorem d_EK_cell_14 : decode c_EK_cell 14 = .ok (.new 57, 3) := by decide +kernel
theorem d_EK_cell_17 : decode c_EK_cell 17 = .ok (.dup, 1) := by decide +kernel
theorem d_EK_cell_18 : decode c_EK_cell 18 = .ok (.ldc 85, 2) := by decide +kernel
theorem d_EK_cell_20 : decode c_EK_cell 20 = .ok (.invokespecial 61, 3) := by decide +kernel
theorem d_EK_cell_23 : decode c_EK_cell 23 = .ok (.athrow, 1) := by decide +kernel
theorem d_EK_cell_24 : decode c_EK_cell 24 = .ok (.aload_n 0, 1) := by decide +kernel
theorem d_EK_cell_25 : decode c_EK_cell 25 = .ok (.getfield 18, 3) := by decide +kernel
theorem d_EK_cell_28 : decode c_EK_cell 28 = .ok (.iload_n 1, 1) := by decide +kernel
theorem d_EK_cell_29 : decode c_EK_cell 29 = .ok (.aaload, 1) := by decide +kernel
theorem d_EK_cell_30 : decode c_EK_cell 30 = .ok (.getfield 87, 3) := by decide +kernel
theorem d_EK_cell_33 : decode c_EK_cell 33 = .ok (.iload_n 2, 1) := by decide +kernel
theorem d_EK_cell_34 : decode c_EK_cell 34 = .ok (.laload, 1) := by decide +kernel
theorem d_EK_cell_35 : decode c_EK_cell 35 = .ok (.lreturn, 1) := by decide +kernel
abbrev c_EK_filter : ByteArray := prog_1_method_7_code
def y_EK_filter : MethodName := ⟨"EventKeeper", "filter", "(III)V"⟩
theorem d_EK_filter_0 : decode c_EK_filter 0 = .ok (.iload_n 1, 1) := by decide +kernel
theorem d_EK_filter_1 : decode c_EK_filter 1 = .ok (.invokestatic 91, 3) := by decide +kernel
theorem d_EK_filter_4 : decode c_EK_filter 4 = .ok (.iload_n 2, 1) := by decide +kernel
theorem d_EK_filter_5 : decode c_EK_filter 5 = .ok (.iconst (-1), 1) := by decide +kernel
theorem d_EK_filter_6 : decode c_EK_filter 6 = .ok (.if_icmp .lt 13, 3) := by decide +kernel
theorem d_EK_filter_9 : decode c_EK_filter 9 = .ok (.iload_n 2, 1) := by decide +kernel
theorem d_EK_filter_10 : decode c_EK_filter 10 = .ok (.bipush 16, 2) := by decide +kernel
theorem d_EK_filter_12 : decode c_EK_filter 12 = .ok (.if_icmp .ge 7, 3) := by decide +kernel
theorem d_EK_filter_15 : decode c_EK_filter 15 = .ok (.iconst 1, 1) := by decide +kernel
theorem d_EK_filter_16 : decode c_EK_filter 16 = .ok (.goto 4, 3) := by decide +kernel
theorem d_EK_filter_19 : decode c_EK_filter 19 = .ok (.iconst 0, 1) := by decide +kernel
theorem d_EK_filter_20 : decode c_EK_filter 20 = .ok (.invokestatic 35, 3) := by decide +kernel
theorem d_EK_filter_23 : decode c_EK_filter 23 = .ok (.iload_n 3, 1) := by decide +kernel
theorem d_EK_filter_24 : decode c_EK_filter 24 = .ok (.ifCond .lt 14, 3) := by decide +kernel
theorem d_EK_filter_27 : decode c_EK_filter 27 = .ok (.iload_n 3, 1) := by decide +kernel
theorem d_EK_filter_28 : decode c_EK_filter 28 = .ok (.sipush 255, 3) := by decide +kernel
theorem d_EK_filter_31 : decode c_EK_filter 31 = .ok (.if_icmp .gt 7, 3) := by decide +kernel
theorem d_EK_filter_34 : decode c_EK_filter 34 = .ok (.iconst 1, 1) := by decide +kernel
theorem d_EK_filter_35 : decode c_EK_filter 35 = .ok (.goto 4, 3) := by decide +kernel
theorem d_EK_filter_38 : decode c_EK_filter 38 = .ok (.iconst 0, 1) := by decide +kernel
theorem d_EK_filter_39 : decode c_EK_filter 39 = .ok (.invokestatic 35, 3) := by decide +kernel
theorem d_EK_filter_42 : decode c_EK_filter 42 = .ok (.aload_n 0, 1) := by decide +kernel
theorem d_EK_filter_43 : decode c_EK_filter 43 = .ok (.getfield 27, 3) := by decide +kernel
theorem d_EK_filter_46 : decode c_EK_filter 46 = .ok (.iload_n 1, 1) := by decide +kernel
theorem d_EK_filter_47 : decode c_EK_filter 47 = .ok (.aaload, 1) := by decide +kernel
theorem d_EK_filter_48 : decode c_EK_filter 48 = .ok (.iload_n 2, 1) := by decide +kernel
theorem d_EK_filter_49 : decode c_EK_filter 49 = .ok (.iload_n 3, 1) := by decide +kernel
theorem d_EK_filter_50 : decode c_EK_filter 50 = .ok (.invokevirtual 94, 3) := by decide +kernel
theorem d_EK_filter_53 : decode c_EK_filter 53 = .ok (.return_, 1) := by decide +kernel
abbrev c_EK_next : ByteArray := prog_1_method_8_code
def y_EK_next : MethodName := ⟨"EventKeeper", "next", "(I)I"⟩
theorem d_EK_next_0 : decode c_EK_next 0 = .ok (.iload_n 1, 1) := by decide +kernel
theorem d_EK_next_1 : decode c_EK_next 1 = .ok (.invokestatic 91, 3) := by decide +kernel
theorem d_EK_next_4 : decode c_EK_next 4 = .ok (.aload_n 0, 1) := by decide +kernel
theorem d_EK_next_5 : decode c_EK_next 5 = .ok (.getfield 27, 3) := by decide +kernel
theorem d_EK_next_8 : decode c_EK_next 8 = .ok (.iload_n 1, 1) := by decide +kernel
theorem d_EK_next_9 : decode c_EK_next 9 = .ok (.aaload, 1) := by decide +kernel
theorem d_EK_next_10 : decode c_EK_next 10 = .ok (.aload_n 0, 1) := by decide +kernel
theorem d_EK_next_11 : decode c_EK_next 11 = .ok (.getfield 10, 3) := by decide +kernel
theorem d_EK_next_14 : decode c_EK_next 14 = .ok (.invokevirtual 98, 3) := by decide +kernel
theorem d_EK_next_17 : decode c_EK_next 17 = .ok (.ireturn, 1) := by decide +kernel
abbrev c_EK_acknowledge : ByteArray := prog_1_method_9_code
def y_EK_acknowledge : MethodName := ⟨"EventKeeper", "acknowledge", "(II)I"⟩
theorem d_EK_acknowledge_0 : decode c_EK_acknowledge 0 = .ok (.iload_n 1, 1) := by decide +kernel
theorem d_EK_acknowledge_1 : decode c_EK_acknowledge 1 = .ok (.invokestatic 91, 3) := by decide +kernel
theorem d_EK_acknowledge_4 : decode c_EK_acknowledge 4 = .ok (.aload_n 0, 1) := by decide +kernel
theorem d_EK_acknowledge_5 : decode c_EK_acknowledge 5 = .ok (.iload_n 2, 1) := by decide +kernel
theorem d_EK_acknowledge_6 : decode c_EK_acknowledge 6 = .ok (.invokevirtual 102, 3) := by decide +kernel
theorem d_EK_acknowledge_9 : decode c_EK_acknowledge 9 = .ok (.aload_n 0, 1) := by decide +kernel
theorem d_EK_acknowledge_10 : decode c_EK_acknowledge 10 = .ok (.getfield 27, 3) := by decide +kernel
theorem d_EK_acknowledge_13 : decode c_EK_acknowledge 13 = .ok (.iload_n 1, 1) := by decide +kernel
theorem d_EK_acknowledge_14 : decode c_EK_acknowledge 14 = .ok (.aaload, 1) := by decide +kernel
theorem d_EK_acknowledge_15 : decode c_EK_acknowledge 15 = .ok (.iload_n 2, 1) := by decide +kernel
theorem d_EK_acknowledge_16 : decode c_EK_acknowledge 16 = .ok (.invokevirtual 105, 3) := by decide +kernel
theorem d_EK_acknowledge_19 : decode c_EK_acknowledge 19 = .ok (.ireturn, 1) := by decide +kernel
abbrev c_EK_sync : ByteArray := prog_1_method_10_code
def y_EK_sync : MethodName := ⟨"EventKeeper", "sync", "()I"⟩
theorem d_EK_sync_0 : decode c_EK_sync 0 = .ok (.aload_n 0, 1) := by decide +kernel
theorem d_EK_sync_1 : decode c_EK_sync 1 = .ok (.getfield 10, 3) := by decide +kernel
theorem d_EK_sync_4 : decode c_EK_sync 4 = .ok (.aload_n 0, 1) := by decide +kernel
theorem d_EK_sync_5 : decode c_EK_sync 5 = .ok (.getfield 10, 3) := by decide +kernel
theorem d_EK_sync_8 : decode c_EK_sync 8 = .ok (.getfield 77, 3) := by decide +kernel
theorem d_EK_sync_11 : decode c_EK_sync 11 = .ok (.putfield 108, 3) := by decide +kernel
theorem d_EK_sync_14 : decode c_EK_sync 14 = .ok (.iconst 0, 1) := by decide +kernel
theorem d_EK_sync_15 : decode c_EK_sync 15 = .ok (.istore_n 1, 1) := by decide +kernel
theorem d_EK_sync_16 : decode c_EK_sync 16 = .ok (.iload_n 1, 1) := by decide +kernel
theorem d_EK_sync_17 : decode c_EK_sync 17 = .ok (.bipush 8, 2) := by decide +kernel
theorem d_EK_sync_19 : decode c_EK_sync 19 = .ok (.if_icmp .ge 18, 3) := by decide +kernel
theorem d_EK_sync_22 : decode c_EK_sync 22 = .ok (.aload_n 0, 1) := by decide +kernel
theorem d_EK_sync_23 : decode c_EK_sync 23 = .ok (.getfield 27, 3) := by decide +kernel
theorem d_EK_sync_26 : decode c_EK_sync 26 = .ok (.iload_n 1, 1) := by decide +kernel
theorem d_EK_sync_27 : decode c_EK_sync 27 = .ok (.aaload, 1) := by decide +kernel
theorem d_EK_sync_28 : decode c_EK_sync 28 = .ok (.invokevirtual 111, 3) := by decide +kernel
theorem d_EK_sync_31 : decode c_EK_sync 31 = .ok (.iinc 1 1, 3) := by decide +kernel
theorem d_EK_sync_34 : decode c_EK_sync 34 = .ok (.goto (-18), 3) := by decide +kernel
theorem d_EK_sync_37 : decode c_EK_sync 37 = .ok (.aload_n 0, 1) := by decide +kernel
theorem d_EK_sync_38 : decode c_EK_sync 38 = .ok (.getfield 10, 3) := by decide +kernel
theorem d_EK_sync_41 : decode c_EK_sync 41 = .ok (.getfield 77, 3) := by decide +kernel
theorem d_EK_sync_44 : decode c_EK_sync 44 = .ok (.ireturn, 1) := by decide +kernel
abbrev c_EK_crash : ByteArray := prog_1_method_11_code
def y_EK_crash : MethodName := ⟨"EventKeeper", "crash", "()I"⟩
theorem d_EK_crash_0 : decode c_EK_crash 0 = .ok (.aload_n 0, 1) := by decide +kernel
theorem d_EK_crash_1 : decode c_EK_crash 1 = .ok (.getfield 10, 3) := by decide +kernel
theorem d_EK_crash_4 : decode c_EK_crash 4 = .ok (.invokevirtual 114, 3) := by decide +kernel
theorem d_EK_crash_7 : decode c_EK_crash 7 = .ok (.iconst 0, 1) := by decide +kernel
theorem d_EK_crash_8 : decode c_EK_crash 8 = .ok (.istore_n 1, 1) := by decide +kernel
theorem d_EK_crash_9 : decode c_EK_crash 9 = .ok (.iload_n 1, 1) := by decide +kernel
theorem d_EK_crash_10 : decode c_EK_crash 10 = .ok (.bipush 8, 2) := by decide +kernel
theorem d_EK_crash_12 : decode c_EK_crash 12 = .ok (.if_icmp .ge 25, 3) := by decide +kernel
theorem d_EK_crash_15 : decode c_EK_crash 15 = .ok (.aload_n 0, 1) := by decide +kernel
theorem d_EK_crash_16 : decode c_EK_crash 16 = .ok (.getfield 18, 3) := by decide +kernel
theorem d_EK_crash_19 : decode c_EK_crash 19 = .ok (.iload_n 1, 1) := by decide +kernel
theorem d_EK_crash_20 : decode c_EK_crash 20 = .ok (.aaload, 1) := by decide +kernel
theorem d_EK_crash_21 : decode c_EK_crash 21 = .ok (.aload_n 0, 1) := by decide +kernel
theorem d_EK_crash_22 : decode c_EK_crash 22 = .ok (.getfield 10, 3) := by decide +kernel
theorem d_EK_crash_25 : decode c_EK_crash 25 = .ok (.getfield 77, 3) := by decide +kernel
theorem d_EK_crash_28 : decode c_EK_crash 28 = .ok (.invokevirtual 117, 3) := by decide +kernel
theorem d_EK_crash_31 : decode c_EK_crash 31 = .ok (.iinc 1 1, 3) := by decide +kernel
theorem d_EK_crash_34 : decode c_EK_crash 34 = .ok (.goto (-25), 3) := by decide +kernel
theorem d_EK_crash_37 : decode c_EK_crash 37 = .ok (.iconst 0, 1) := by decide +kernel
theorem d_EK_crash_38 : decode c_EK_crash 38 = .ok (.istore_n 1, 1) := by decide +kernel
theorem d_EK_crash_39 : decode c_EK_crash 39 = .ok (.iload_n 1, 1) := by decide +kernel
theorem d_EK_crash_40 : decode c_EK_crash 40 = .ok (.bipush 8, 2) := by decide +kernel
theorem d_EK_crash_42 : decode c_EK_crash 42 = .ok (.if_icmp .ge 25, 3) := by decide +kernel
theorem d_EK_crash_45 : decode c_EK_crash 45 = .ok (.aload_n 0, 1) := by decide +kernel
theorem d_EK_crash_46 : decode c_EK_crash 46 = .ok (.getfield 27, 3) := by decide +kernel
theorem d_EK_crash_49 : decode c_EK_crash 49 = .ok (.iload_n 1, 1) := by decide +kernel
theorem d_EK_crash_50 : decode c_EK_crash 50 = .ok (.aaload, 1) := by decide +kernel
theorem d_EK_crash_51 : decode c_EK_crash 51 = .ok (.aload_n 0, 1) := by decide +kernel
theorem d_EK_crash_52 : decode c_EK_crash 52 = .ok (.getfield 10, 3) := by decide +kernel
theorem d_EK_crash_55 : decode c_EK_crash 55 = .ok (.getfield 77, 3) := by decide +kernel
theorem d_EK_crash_58 : decode c_EK_crash 58 = .ok (.invokevirtual 120, 3) := by decide +kernel
theorem d_EK_crash_61 : decode c_EK_crash 61 = .ok (.iinc 1 1, 3) := by decide +kernel
theorem d_EK_crash_64 : decode c_EK_crash 64 = .ok (.goto (-25), 3) := by decide +kernel
theorem d_EK_crash_67 : decode c_EK_crash 67 = .ok (.aload_n 0, 1) := by decide +kernel
theorem d_EK_crash_68 : decode c_EK_crash 68 = .ok (.getfield 10, 3) := by decide +kernel
theorem d_EK_crash_71 : decode c_EK_crash 71 = .ok (.getfield 77, 3) := by decide +kernel
theorem d_EK_crash_74 : decode c_EK_crash 74 = .ok (.ireturn, 1) := by decide +kernel
abbrev c_EK_event : ByteArray := prog_1_method_12_code
def y_EK_event : MethodName := ⟨"EventKeeper", "event", "(II)I"⟩
theorem d_EK_event_0 : decode c_EK_event 0 = .ok (.iload_n 2, 1) := by decide +kernel
theorem d_EK_event_1 : decode c_EK_event 1 = .ok (.ifCond .lt 12, 3) := by decide +kernel
theorem d_EK_event_4 : decode c_EK_event 4 = .ok (.iload_n 2, 1) := by decide +kernel
theorem d_EK_event_5 : decode c_EK_event 5 = .ok (.iconst 4, 1) := by decide +kernel
theorem d_EK_event_6 : decode c_EK_event 6 = .ok (.if_icmp .gt 7, 3) := by decide +kernel
theorem d_EK_event_9 : decode c_EK_event 9 = .ok (.iconst 1, 1) := by decide +kernel
theorem d_EK_event_10 : decode c_EK_event 10 = .ok (.goto 4, 3) := by decide +kernel
theorem d_EK_event_13 : decode c_EK_event 13 = .ok (.iconst 0, 1) := by decide +kernel
theorem d_EK_event_14 : decode c_EK_event 14 = .ok (.invokestatic 35, 3) := by decide +kernel
theorem d_EK_event_17 : decode c_EK_event 17 = .ok (.aload_n 0, 1) := by decide +kernel
theorem d_EK_event_18 : decode c_EK_event 18 = .ok (.iload_n 1, 1) := by decide +kernel
theorem d_EK_event_19 : decode c_EK_event 19 = .ok (.invokevirtual 102, 3) := by decide +kernel
theorem d_EK_event_22 : decode c_EK_event 22 = .ok (.iload_n 2, 1) := by decide +kernel
theorem d_EK_event_23 : decode c_EK_event 23 = .ok (.tableswitch 69 0 3 #[29, 39, 49, 59], 29) := by decide +kernel
theorem d_EK_event_52 : decode c_EK_event 52 = .ok (.aload_n 0, 1) := by decide +kernel
theorem d_EK_event_53 : decode c_EK_event 53 = .ok (.getfield 10, 3) := by decide +kernel
theorem d_EK_event_56 : decode c_EK_event 56 = .ok (.getfield 121, 3) := by decide +kernel
theorem d_EK_event_59 : decode c_EK_event 59 = .ok (.iload_n 1, 1) := by decide +kernel
theorem d_EK_event_60 : decode c_EK_event 60 = .ok (.iaload, 1) := by decide +kernel
theorem d_EK_event_61 : decode c_EK_event 61 = .ok (.ireturn, 1) := by decide +kernel
theorem d_EK_event_62 : decode c_EK_event 62 = .ok (.aload_n 0, 1) := by decide +kernel
theorem d_EK_event_63 : decode c_EK_event 63 = .ok (.getfield 10, 3) := by decide +kernel
theorem d_EK_event_66 : decode c_EK_event 66 = .ok (.getfield 124, 3) := by decide +kernel
theorem d_EK_event_69 : decode c_EK_event 69 = .ok (.iload_n 1, 1) := by decide +kernel
theorem d_EK_event_70 : decode c_EK_event 70 = .ok (.iaload, 1) := by decide +kernel
theorem d_EK_event_71 : decode c_EK_event 71 = .ok (.ireturn, 1) := by decide +kernel
theorem d_EK_event_72 : decode c_EK_event 72 = .ok (.aload_n 0, 1) := by decide +kernel
theorem d_EK_event_73 : decode c_EK_event 73 = .ok (.getfield 10, 3) := by decide +kernel
theorem d_EK_event_76 : decode c_EK_event 76 = .ok (.getfield 127, 3) := by decide +kernel
theorem d_EK_event_79 : decode c_EK_event 79 = .ok (.iload_n 1, 1) := by decide +kernel
theorem d_EK_event_80 : decode c_EK_event 80 = .ok (.iaload, 1) := by decide +kernel
theorem d_EK_event_81 : decode c_EK_event 81 = .ok (.ireturn, 1) := by decide +kernel
theorem d_EK_event_82 : decode c_EK_event 82 = .ok (.aload_n 0, 1) := by decide +kernel
theorem d_EK_event_83 : decode c_EK_event 83 = .ok (.getfield 10, 3) := by decide +kernel
theorem d_EK_event_86 : decode c_EK_event 86 = .ok (.getfield 130, 3) := by decide +kernel
theorem d_EK_event_89 : decode c_EK_event 89 = .ok (.iload_n 1, 1) := by decide +kernel
theorem d_EK_event_90 : decode c_EK_event 90 = .ok (.iaload, 1) := by decide +kernel
theorem d_EK_event_91 : decode c_EK_event 91 = .ok (.ireturn, 1) := by decide +kernel
theorem d_EK_event_92 : decode c_EK_event 92 = .ok (.aload_n 0, 1) := by decide +kernel
theorem d_EK_event_93 : decode c_EK_event 93 = .ok (.getfield 10, 3) := by decide +kernel
theorem d_EK_event_96 : decode c_EK_event 96 = .ok (.getfield 133, 3) := by decide +kernel
theorem d_EK_event_99 : decode c_EK_event 99 = .ok (.iload_n 1, 1) := by decide +kernel
theorem d_EK_event_100 : decode c_EK_event 100 = .ok (.iaload, 1) := by decide +kernel
theorem d_EK_event_101 : decode c_EK_event 101 = .ok (.ireturn, 1) := by decide +kernel
abbrev c_EK_value : ByteArray := prog_1_method_13_code
def y_EK_value : MethodName := ⟨"EventKeeper", "value", "(I)J"⟩
theorem d_EK_value_0 : decode c_EK_value 0 = .ok (.aload_n 0, 1) := by decide +kernel
theorem d_EK_value_1 : decode c_EK_value 1 = .ok (.iload_n 1, 1) := by decide +kernel
theorem d_EK_value_2 : decode c_EK_value 2 = .ok (.invokevirtual 102, 3) := by decide +kernel
theorem d_EK_value_5 : decode c_EK_value 5 = .ok (.aload_n 0, 1) := by decide +kernel
theorem d_EK_value_6 : decode c_EK_value 6 = .ok (.getfield 10, 3) := by decide +kernel
theorem d_EK_value_9 : decode c_EK_value 9 = .ok (.getfield 136, 3) := by decide +kernel
theorem d_EK_value_12 : decode c_EK_value 12 = .ok (.iload_n 1, 1) := by decide +kernel
theorem d_EK_value_13 : decode c_EK_value 13 = .ok (.laload, 1) := by decide +kernel
theorem d_EK_value_14 : decode c_EK_value 14 = .ok (.lreturn, 1) := by decide +kernel
abbrev c_EK_find : ByteArray := prog_1_method_14_code
def y_EK_find : MethodName := ⟨"EventKeeper", "find", "(II)I"⟩
theorem d_EK_find_0 : decode c_EK_find 0 = .ok (.iload_n 1, 1) := by decide +kernel
theorem d_EK_find_1 : decode c_EK_find 1 = .ok (.invokestatic 32, 3) := by decide +kernel
theorem d_EK_find_4 : decode c_EK_find 4 = .ok (.aload_n 0, 1) := by decide +kernel
theorem d_EK_find_5 : decode c_EK_find 5 = .ok (.getfield 10, 3) := by decide +kernel
theorem d_EK_find_8 : decode c_EK_find 8 = .ok (.iload_n 1, 1) := by decide +kernel
theorem d_EK_find_9 : decode c_EK_find 9 = .ok (.iload_n 2, 1) := by decide +kernel
theorem d_EK_find_10 : decode c_EK_find 10 = .ok (.invokevirtual 139, 3) := by decide +kernel
theorem d_EK_find_13 : decode c_EK_find 13 = .ok (.istore_n 3, 1) := by decide +kernel
theorem d_EK_find_14 : decode c_EK_find 14 = .ok (.iload_n 3, 1) := by decide +kernel
theorem d_EK_find_15 : decode c_EK_find 15 = .ok (.iconst (-1), 1) := by decide +kernel
theorem d_EK_find_16 : decode c_EK_find 16 = .ok (.if_icmp .ne 13, 3) := by decide +kernel
theorem d_EK_find_19 : decode c_EK_find 19 = .ok (.new 57, 3) := by decide +kernel
theorem d_EK_find_22 : decode c_EK_find 22 = .ok (.dup, 1) := by decide +kernel
theorem d_EK_find_23 : decode c_EK_find 23 = .ok (.ldc 143, 2) := by decide +kernel
theorem d_EK_find_25 : decode c_EK_find 25 = .ok (.invokespecial 61, 3) := by decide +kernel
theorem d_EK_find_28 : decode c_EK_find 28 = .ok (.athrow, 1) := by decide +kernel
theorem d_EK_find_29 : decode c_EK_find 29 = .ok (.iload_n 3, 1) := by decide +kernel
theorem d_EK_find_30 : decode c_EK_find 30 = .ok (.ireturn, 1) := by decide +kernel
abbrev c_EK_count : ByteArray := prog_1_method_15_code
def y_EK_count : MethodName := ⟨"EventKeeper", "count", "(II)I"⟩
theorem d_EK_count_0 : decode c_EK_count 0 = .ok (.iload_n 1, 1) := by decide +kernel
theorem d_EK_count_1 : decode c_EK_count 1 = .ok (.tableswitch 111 0 5 #[39, 47, 55, 69, 83, 97], 39) := by decide +kernel
theorem d_EK_count_40 : decode c_EK_count 40 = .ok (.aload_n 0, 1) := by decide +kernel
theorem d_EK_count_41 : decode c_EK_count 41 = .ok (.getfield 10, 3) := by decide +kernel
theorem d_EK_count_44 : decode c_EK_count 44 = .ok (.getfield 77, 3) := by decide +kernel
theorem d_EK_count_47 : decode c_EK_count 47 = .ok (.ireturn, 1) := by decide +kernel
theorem d_EK_count_48 : decode c_EK_count 48 = .ok (.aload_n 0, 1) := by decide +kernel
theorem d_EK_count_49 : decode c_EK_count 49 = .ok (.getfield 10, 3) := by decide +kernel
theorem d_EK_count_52 : decode c_EK_count 52 = .ok (.getfield 108, 3) := by decide +kernel
theorem d_EK_count_55 : decode c_EK_count 55 = .ok (.ireturn, 1) := by decide +kernel
theorem d_EK_count_56 : decode c_EK_count 56 = .ok (.iload_n 2, 1) := by decide +kernel
theorem d_EK_count_57 : decode c_EK_count 57 = .ok (.invokestatic 32, 3) := by decide +kernel
theorem d_EK_count_60 : decode c_EK_count 60 = .ok (.aload_n 0, 1) := by decide +kernel
theorem d_EK_count_61 : decode c_EK_count 61 = .ok (.getfield 10, 3) := by decide +kernel
theorem d_EK_count_64 : decode c_EK_count 64 = .ok (.getfield 42, 3) := by decide +kernel
theorem d_EK_count_67 : decode c_EK_count 67 = .ok (.iload_n 2, 1) := by decide +kernel
theorem d_EK_count_68 : decode c_EK_count 68 = .ok (.iaload, 1) := by decide +kernel
theorem d_EK_count_69 : decode c_EK_count 69 = .ok (.ireturn, 1) := by decide +kernel
theorem d_EK_count_70 : decode c_EK_count 70 = .ok (.iload_n 2, 1) := by decide +kernel
theorem d_EK_count_71 : decode c_EK_count 71 = .ok (.invokestatic 66, 3) := by decide +kernel
theorem d_EK_count_74 : decode c_EK_count 74 = .ok (.aload_n 0, 1) := by decide +kernel
theorem d_EK_count_75 : decode c_EK_count 75 = .ok (.getfield 18, 3) := by decide +kernel
theorem d_EK_count_78 : decode c_EK_count 78 = .ok (.iload_n 2, 1) := by decide +kernel
theorem d_EK_count_79 : decode c_EK_count 79 = .ok (.aaload, 1) := by decide +kernel
theorem d_EK_count_80 : decode c_EK_count 80 = .ok (.getfield 145, 3) := by decide +kernel
theorem d_EK_count_83 : decode c_EK_count 83 = .ok (.ireturn, 1) := by decide +kernel
theorem d_EK_count_84 : decode c_EK_count 84 = .ok (.iload_n 2, 1) := by decide +kernel
theorem d_EK_count_85 : decode c_EK_count 85 = .ok (.invokestatic 91, 3) := by decide +kernel
theorem d_EK_count_88 : decode c_EK_count 88 = .ok (.aload_n 0, 1) := by decide +kernel
theorem d_EK_count_89 : decode c_EK_count 89 = .ok (.getfield 27, 3) := by decide +kernel
theorem d_EK_count_92 : decode c_EK_count 92 = .ok (.iload_n 2, 1) := by decide +kernel
theorem d_EK_count_93 : decode c_EK_count 93 = .ok (.aaload, 1) := by decide +kernel
theorem d_EK_count_94 : decode c_EK_count 94 = .ok (.getfield 148, 3) := by decide +kernel
theorem d_EK_count_97 : decode c_EK_count 97 = .ok (.ireturn, 1) := by decide +kernel
theorem d_EK_count_98 : decode c_EK_count 98 = .ok (.iload_n 2, 1) := by decide +kernel
theorem d_EK_count_99 : decode c_EK_count 99 = .ok (.invokestatic 66, 3) := by decide +kernel
theorem d_EK_count_102 : decode c_EK_count 102 = .ok (.aload_n 0, 1) := by decide +kernel
theorem d_EK_count_103 : decode c_EK_count 103 = .ok (.getfield 10, 3) := by decide +kernel
theorem d_EK_count_106 : decode c_EK_count 106 = .ok (.getfield 149, 3) := by decide +kernel
theorem d_EK_count_109 : decode c_EK_count 109 = .ok (.iload_n 2, 1) := by decide +kernel
theorem d_EK_count_110 : decode c_EK_count 110 = .ok (.iaload, 1) := by decide +kernel
theorem d_EK_count_111 : decode c_EK_count 111 = .ok (.ireturn, 1) := by decide +kernel
theorem d_EK_count_112 : decode c_EK_count 112 = .ok (.new 152, 3) := by decide +kernel
theorem d_EK_count_115 : decode c_EK_count 115 = .ok (.dup, 1) := by decide +kernel
theorem d_EK_count_116 : decode c_EK_count 116 = .ok (.ldc 154, 2) := by decide +kernel
theorem d_EK_count_118 : decode c_EK_count 118 = .ok (.invokespecial 156, 3) := by decide +kernel
theorem d_EK_count_121 : decode c_EK_count 121 = .ok (.athrow, 1) := by decide +kernel
abbrev c_EK_checkArgument : ByteArray := prog_1_method_16_code
def y_EK_checkArgument : MethodName := ⟨"EventKeeper", "checkArgument", "(Z)V"⟩
theorem d_EK_checkArgument_0 : decode c_EK_checkArgument 0 = .ok (.iload_n 0, 1) := by decide +kernel
theorem d_EK_checkArgument_1 : decode c_EK_checkArgument 1 = .ok (.ifCond .ne 13, 3) := by decide +kernel
theorem d_EK_checkArgument_4 : decode c_EK_checkArgument 4 = .ok (.new 152, 3) := by decide +kernel
theorem d_EK_checkArgument_7 : decode c_EK_checkArgument 7 = .ok (.dup, 1) := by decide +kernel
theorem d_EK_checkArgument_8 : decode c_EK_checkArgument 8 = .ok (.ldc 157, 2) := by decide +kernel
theorem d_EK_checkArgument_10 : decode c_EK_checkArgument 10 = .ok (.invokespecial 156, 3) := by decide +kernel
theorem d_EK_checkArgument_13 : decode c_EK_checkArgument 13 = .ok (.athrow, 1) := by decide +kernel
theorem d_EK_checkArgument_14 : decode c_EK_checkArgument 14 = .ok (.return_, 1) := by decide +kernel
abbrev c_EK_checkStream : ByteArray := prog_1_method_17_code
def y_EK_checkStream : MethodName := ⟨"EventKeeper", "checkStream", "(I)V"⟩
theorem d_EK_checkStream_0 : decode c_EK_checkStream 0 = .ok (.iload_n 0, 1) := by decide +kernel
theorem d_EK_checkStream_1 : decode c_EK_checkStream 1 = .ok (.ifCond .lt 13, 3) := by decide +kernel
theorem d_EK_checkStream_4 : decode c_EK_checkStream 4 = .ok (.iload_n 0, 1) := by decide +kernel
theorem d_EK_checkStream_5 : decode c_EK_checkStream 5 = .ok (.bipush 16, 2) := by decide +kernel
theorem d_EK_checkStream_7 : decode c_EK_checkStream 7 = .ok (.if_icmp .ge 7, 3) := by decide +kernel
theorem d_EK_checkStream_10 : decode c_EK_checkStream 10 = .ok (.iconst 1, 1) := by decide +kernel
theorem d_EK_checkStream_11 : decode c_EK_checkStream 11 = .ok (.goto 4, 3) := by decide +kernel
theorem d_EK_checkStream_14 : decode c_EK_checkStream 14 = .ok (.iconst 0, 1) := by decide +kernel
theorem d_EK_checkStream_15 : decode c_EK_checkStream 15 = .ok (.invokestatic 35, 3) := by decide +kernel
theorem d_EK_checkStream_18 : decode c_EK_checkStream 18 = .ok (.return_, 1) := by decide +kernel
abbrev c_EK_checkKind : ByteArray := prog_1_method_18_code
def y_EK_checkKind : MethodName := ⟨"EventKeeper", "checkKind", "(I)V"⟩
theorem d_EK_checkKind_0 : decode c_EK_checkKind 0 = .ok (.iload_n 0, 1) := by decide +kernel
theorem d_EK_checkKind_1 : decode c_EK_checkKind 1 = .ok (.ifCond .lt 13, 3) := by decide +kernel
theorem d_EK_checkKind_4 : decode c_EK_checkKind 4 = .ok (.iload_n 0, 1) := by decide +kernel
theorem d_EK_checkKind_5 : decode c_EK_checkKind 5 = .ok (.bipush 8, 2) := by decide +kernel
theorem d_EK_checkKind_7 : decode c_EK_checkKind 7 = .ok (.if_icmp .ge 7, 3) := by decide +kernel
theorem d_EK_checkKind_10 : decode c_EK_checkKind 10 = .ok (.iconst 1, 1) := by decide +kernel
theorem d_EK_checkKind_11 : decode c_EK_checkKind 11 = .ok (.goto 4, 3) := by decide +kernel
theorem d_EK_checkKind_14 : decode c_EK_checkKind 14 = .ok (.iconst 0, 1) := by decide +kernel
theorem d_EK_checkKind_15 : decode c_EK_checkKind 15 = .ok (.invokestatic 35, 3) := by decide +kernel
theorem d_EK_checkKind_18 : decode c_EK_checkKind 18 = .ok (.return_, 1) := by decide +kernel
abbrev c_EK_checkProjection : ByteArray := prog_1_method_19_code
def y_EK_checkProjection : MethodName := ⟨"EventKeeper", "checkProjection", "(I)V"⟩
theorem d_EK_checkProjection_0 : decode c_EK_checkProjection 0 = .ok (.iload_n 0, 1) := by decide +kernel
theorem d_EK_checkProjection_1 : decode c_EK_checkProjection 1 = .ok (.ifCond .lt 13, 3) := by decide +kernel
theorem d_EK_checkProjection_4 : decode c_EK_checkProjection 4 = .ok (.iload_n 0, 1) := by decide +kernel
theorem d_EK_checkProjection_5 : decode c_EK_checkProjection 5 = .ok (.bipush 8, 2) := by decide +kernel
theorem d_EK_checkProjection_7 : decode c_EK_checkProjection 7 = .ok (.if_icmp .ge 7, 3) := by decide +kernel
theorem d_EK_checkProjection_10 : decode c_EK_checkProjection 10 = .ok (.iconst 1, 1) := by decide +kernel
theorem d_EK_checkProjection_11 : decode c_EK_checkProjection 11 = .ok (.goto 4, 3) := by decide +kernel
theorem d_EK_checkProjection_14 : decode c_EK_checkProjection 14 = .ok (.iconst 0, 1) := by decide +kernel
theorem d_EK_checkProjection_15 : decode c_EK_checkProjection 15 = .ok (.invokestatic 35, 3) := by decide +kernel
theorem d_EK_checkProjection_18 : decode c_EK_checkProjection 18 = .ok (.return_, 1) := by decide +kernel
abbrev c_EK_checkSubscription : ByteArray := prog_1_method_20_code
def y_EK_checkSubscription : MethodName := ⟨"EventKeeper", "checkSubscription", "(I)V"⟩
theorem d_EK_checkSubscription_0 : decode c_EK_checkSubscription 0 = .ok (.iload_n 0, 1) := by decide +kernel
theorem d_EK_checkSubscription_1 : decode c_EK_checkSubscription 1 = .ok (.ifCond .lt 13, 3) := by decide +kernel
theorem d_EK_checkSubscription_4 : decode c_EK_checkSubscription 4 = .ok (.iload_n 0, 1) := by decide +kernel
theorem d_EK_checkSubscription_5 : decode c_EK_checkSubscription 5 = .ok (.bipush 8, 2) := by decide +kernel
theorem d_EK_checkSubscription_7 : decode c_EK_checkSubscription 7 = .ok (.if_icmp .ge 7, 3) := by decide +kernel
theorem d_EK_checkSubscription_10 : decode c_EK_checkSubscription 10 = .ok (.iconst 1, 1) := by decide +kernel
theorem d_EK_checkSubscription_11 : decode c_EK_checkSubscription 11 = .ok (.goto 4, 3) := by decide +kernel
theorem d_EK_checkSubscription_14 : decode c_EK_checkSubscription 14 = .ok (.iconst 0, 1) := by decide +kernel
theorem d_EK_checkSubscription_15 : decode c_EK_checkSubscription 15 = .ok (.invokestatic 35, 3) := by decide +kernel
theorem d_EK_checkSubscription_18 : decode c_EK_checkSubscription 18 = .ok (.return_, 1) := by decide +kernel
abbrev c_EK_checkPlace : ByteArray := prog_1_method_21_code
def y_EK_checkPlace : MethodName := ⟨"EventKeeper", "checkPlace", "(I)V"⟩
theorem d_EK_checkPlace_0 : decode c_EK_checkPlace 0 = .ok (.iload_n 1, 1) := by decide +kernel
theorem d_EK_checkPlace_1 : decode c_EK_checkPlace 1 = .ok (.ifCond .lt 14, 3) := by decide +kernel
theorem d_EK_checkPlace_4 : decode c_EK_checkPlace 4 = .ok (.iload_n 1, 1) := by decide +kernel
theorem d_EK_checkPlace_5 : decode c_EK_checkPlace 5 = .ok (.aload_n 0, 1) := by decide +kernel
theorem d_EK_checkPlace_6 : decode c_EK_checkPlace 6 = .ok (.getfield 10, 3) := by decide +kernel
theorem d_EK_checkPlace_9 : decode c_EK_checkPlace 9 = .ok (.getfield 77, 3) := by decide +kernel
theorem d_EK_checkPlace_12 : decode c_EK_checkPlace 12 = .ok (.if_icmp .lt 13, 3) := by decide +kernel
theorem d_EK_checkPlace_15 : decode c_EK_checkPlace 15 = .ok (.new 57, 3) := by decide +kernel
theorem d_EK_checkPlace_18 : decode c_EK_checkPlace 18 = .ok (.dup, 1) := by decide +kernel
theorem d_EK_checkPlace_19 : decode c_EK_checkPlace 19 = .ok (.ldc 159, 2) := by decide +kernel
theorem d_EK_checkPlace_21 : decode c_EK_checkPlace 21 = .ok (.invokespecial 61, 3) := by decide +kernel
theorem d_EK_checkPlace_24 : decode c_EK_checkPlace 24 = .ok (.athrow, 1) := by decide +kernel
theorem d_EK_checkPlace_25 : decode c_EK_checkPlace 25 = .ok (.return_, 1) := by decide +kernel
end
section
abbrev c_M_init : ByteArray := prog_6_method_1_code
def y_M_init : MethodName := ⟨"EventKeeperModel", "<init>", "()V"⟩
theorem d_M_init_0 : decode c_M_init 0 = .ok (.aload_n 0, 1) := by decide +kernel
theorem d_M_init_1 : decode c_M_init 1 = .ok (.invokespecial 1, 3) := by decide +kernel
theorem d_M_init_4 : decode c_M_init 4 = .ok (.aload_n 0, 1) := by decide +kernel
theorem d_M_init_5 : decode c_M_init 5 = .ok (.sipush 500, 3) := by decide +kernel
theorem d_M_init_8 : decode c_M_init 8 = .ok (.newarray .int, 2) := by decide +kernel
theorem d_M_init_10 : decode c_M_init 10 = .ok (.putfield 9, 3) := by decide +kernel
theorem d_M_init_13 : decode c_M_init 13 = .ok (.aload_n 0, 1) := by decide +kernel
theorem d_M_init_14 : decode c_M_init 14 = .ok (.sipush 500, 3) := by decide +kernel
theorem d_M_init_17 : decode c_M_init 17 = .ok (.newarray .int, 2) := by decide +kernel
theorem d_M_init_19 : decode c_M_init 19 = .ok (.putfield 13, 3) := by decide +kernel
theorem d_M_init_22 : decode c_M_init 22 = .ok (.aload_n 0, 1) := by decide +kernel
theorem d_M_init_23 : decode c_M_init 23 = .ok (.sipush 500, 3) := by decide +kernel
theorem d_M_init_26 : decode c_M_init 26 = .ok (.newarray .int, 2) := by decide +kernel
theorem d_M_init_28 : decode c_M_init 28 = .ok (.putfield 16, 3) := by decide +kernel
theorem d_M_init_31 : decode c_M_init 31 = .ok (.aload_n 0, 1) := by decide +kernel
theorem d_M_init_32 : decode c_M_init 32 = .ok (.sipush 500, 3) := by decide +kernel
theorem d_M_init_35 : decode c_M_init 35 = .ok (.newarray .int, 2) := by decide +kernel
theorem d_M_init_37 : decode c_M_init 37 = .ok (.putfield 19, 3) := by decide +kernel
theorem d_M_init_40 : decode c_M_init 40 = .ok (.aload_n 0, 1) := by decide +kernel
theorem d_M_init_41 : decode c_M_init 41 = .ok (.sipush 500, 3) := by decide +kernel
theorem d_M_init_44 : decode c_M_init 44 = .ok (.newarray .long, 2) := by decide +kernel
theorem d_M_init_46 : decode c_M_init 46 = .ok (.putfield 22, 3) := by decide +kernel
theorem d_M_init_49 : decode c_M_init 49 = .ok (.aload_n 0, 1) := by decide +kernel
theorem d_M_init_50 : decode c_M_init 50 = .ok (.sipush 128, 3) := by decide +kernel
theorem d_M_init_53 : decode c_M_init 53 = .ok (.newarray .long, 2) := by decide +kernel
theorem d_M_init_55 : decode c_M_init 55 = .ok (.putfield 26, 3) := by decide +kernel
theorem d_M_init_58 : decode c_M_init 58 = .ok (.aload_n 0, 1) := by decide +kernel
theorem d_M_init_59 : decode c_M_init 59 = .ok (.sipush 128, 3) := by decide +kernel
theorem d_M_init_62 : decode c_M_init 62 = .ok (.newarray .long, 2) := by decide +kernel
theorem d_M_init_64 : decode c_M_init 64 = .ok (.putfield 29, 3) := by decide +kernel
theorem d_M_init_67 : decode c_M_init 67 = .ok (.aload_n 0, 1) := by decide +kernel
theorem d_M_init_68 : decode c_M_init 68 = .ok (.bipush 64, 2) := by decide +kernel
theorem d_M_init_70 : decode c_M_init 70 = .ok (.newarray .int, 2) := by decide +kernel
theorem d_M_init_72 : decode c_M_init 72 = .ok (.putfield 32, 3) := by decide +kernel
theorem d_M_init_75 : decode c_M_init 75 = .ok (.aload_n 0, 1) := by decide +kernel
theorem d_M_init_76 : decode c_M_init 76 = .ok (.bipush 64, 2) := by decide +kernel
theorem d_M_init_78 : decode c_M_init 78 = .ok (.newarray .int, 2) := by decide +kernel
theorem d_M_init_80 : decode c_M_init 80 = .ok (.putfield 35, 3) := by decide +kernel
theorem d_M_init_83 : decode c_M_init 83 = .ok (.aload_n 0, 1) := by decide +kernel
theorem d_M_init_84 : decode c_M_init 84 = .ok (.bipush 8, 2) := by decide +kernel
theorem d_M_init_86 : decode c_M_init 86 = .ok (.newarray .int, 2) := by decide +kernel
theorem d_M_init_88 : decode c_M_init 88 = .ok (.putfield 38, 3) := by decide +kernel
theorem d_M_init_91 : decode c_M_init 91 = .ok (.aload_n 0, 1) := by decide +kernel
theorem d_M_init_92 : decode c_M_init 92 = .ok (.bipush 8, 2) := by decide +kernel
theorem d_M_init_94 : decode c_M_init 94 = .ok (.newarray .int, 2) := by decide +kernel
theorem d_M_init_96 : decode c_M_init 96 = .ok (.putfield 41, 3) := by decide +kernel
theorem d_M_init_99 : decode c_M_init 99 = .ok (.aload_n 0, 1) := by decide +kernel
theorem d_M_init_100 : decode c_M_init 100 = .ok (.bipush 8, 2) := by decide +kernel
theorem d_M_init_102 : decode c_M_init 102 = .ok (.newarray .int, 2) := by decide +kernel
theorem d_M_init_104 : decode c_M_init 104 = .ok (.putfield 44, 3) := by decide +kernel
theorem d_M_init_107 : decode c_M_init 107 = .ok (.aload_n 0, 1) := by decide +kernel
theorem d_M_init_108 : decode c_M_init 108 = .ok (.bipush 8, 2) := by decide +kernel
theorem d_M_init_110 : decode c_M_init 110 = .ok (.newarray .int, 2) := by decide +kernel
theorem d_M_init_112 : decode c_M_init 112 = .ok (.putfield 47, 3) := by decide +kernel
theorem d_M_init_115 : decode c_M_init 115 = .ok (.aload_n 0, 1) := by decide +kernel
theorem d_M_init_116 : decode c_M_init 116 = .ok (.bipush 8, 2) := by decide +kernel
theorem d_M_init_118 : decode c_M_init 118 = .ok (.newarray .int, 2) := by decide +kernel
theorem d_M_init_120 : decode c_M_init 120 = .ok (.putfield 50, 3) := by decide +kernel
theorem d_M_init_123 : decode c_M_init 123 = .ok (.aload_n 0, 1) := by decide +kernel
theorem d_M_init_124 : decode c_M_init 124 = .ok (.bipush 8, 2) := by decide +kernel
theorem d_M_init_126 : decode c_M_init 126 = .ok (.newarray .int, 2) := by decide +kernel
theorem d_M_init_128 : decode c_M_init 128 = .ok (.putfield 53, 3) := by decide +kernel
theorem d_M_init_131 : decode c_M_init 131 = .ok (.aload_n 0, 1) := by decide +kernel
theorem d_M_init_132 : decode c_M_init 132 = .ok (.bipush 8, 2) := by decide +kernel
theorem d_M_init_134 : decode c_M_init 134 = .ok (.newarray .int, 2) := by decide +kernel
theorem d_M_init_136 : decode c_M_init 136 = .ok (.putfield 56, 3) := by decide +kernel
theorem d_M_init_139 : decode c_M_init 139 = .ok (.iconst 0, 1) := by decide +kernel
theorem d_M_init_140 : decode c_M_init 140 = .ok (.istore_n 1, 1) := by decide +kernel
theorem d_M_init_141 : decode c_M_init 141 = .ok (.iload_n 1, 1) := by decide +kernel
theorem d_M_init_142 : decode c_M_init 142 = .ok (.bipush 8, 2) := by decide +kernel
theorem d_M_init_144 : decode c_M_init 144 = .ok (.if_icmp .ge 16, 3) := by decide +kernel
theorem d_M_init_147 : decode c_M_init 147 = .ok (.aload_n 0, 1) := by decide +kernel
theorem d_M_init_148 : decode c_M_init 148 = .ok (.getfield 41, 3) := by decide +kernel
theorem d_M_init_151 : decode c_M_init 151 = .ok (.iload_n 1, 1) := by decide +kernel
theorem d_M_init_152 : decode c_M_init 152 = .ok (.iconst (-1), 1) := by decide +kernel
theorem d_M_init_153 : decode c_M_init 153 = .ok (.iastore, 1) := by decide +kernel
theorem d_M_init_154 : decode c_M_init 154 = .ok (.iinc 1 1, 3) := by decide +kernel
theorem d_M_init_157 : decode c_M_init 157 = .ok (.goto (-16), 3) := by decide +kernel
theorem d_M_init_160 : decode c_M_init 160 = .ok (.iconst 0, 1) := by decide +kernel
theorem d_M_init_161 : decode c_M_init 161 = .ok (.istore_n 1, 1) := by decide +kernel
theorem d_M_init_162 : decode c_M_init 162 = .ok (.iload_n 1, 1) := by decide +kernel
theorem d_M_init_163 : decode c_M_init 163 = .ok (.bipush 8, 2) := by decide +kernel
theorem d_M_init_165 : decode c_M_init 165 = .ok (.if_icmp .ge 25, 3) := by decide +kernel
theorem d_M_init_168 : decode c_M_init 168 = .ok (.aload_n 0, 1) := by decide +kernel
theorem d_M_init_169 : decode c_M_init 169 = .ok (.getfield 47, 3) := by decide +kernel
theorem d_M_init_172 : decode c_M_init 172 = .ok (.iload_n 1, 1) := by decide +kernel
theorem d_M_init_173 : decode c_M_init 173 = .ok (.iconst (-1), 1) := by decide +kernel
theorem d_M_init_174 : decode c_M_init 174 = .ok (.iastore, 1) := by decide +kernel
theorem d_M_init_175 : decode c_M_init 175 = .ok (.aload_n 0, 1) := by decide +kernel
theorem d_M_init_176 : decode c_M_init 176 = .ok (.getfield 50, 3) := by decide +kernel
theorem d_M_init_179 : decode c_M_init 179 = .ok (.iload_n 1, 1) := by decide +kernel
theorem d_M_init_180 : decode c_M_init 180 = .ok (.sipush 255, 3) := by decide +kernel
theorem d_M_init_183 : decode c_M_init 183 = .ok (.iastore, 1) := by decide +kernel
theorem d_M_init_184 : decode c_M_init 184 = .ok (.iinc 1 1, 3) := by decide +kernel
theorem d_M_init_187 : decode c_M_init 187 = .ok (.goto (-25), 3) := by decide +kernel
theorem d_M_init_190 : decode c_M_init 190 = .ok (.return_, 1) := by decide +kernel
abbrev c_M_thrown : ByteArray := prog_6_method_2_code
def y_M_thrown : MethodName := ⟨"EventKeeperModel", "thrown", "()I"⟩
theorem d_M_thrown_0 : decode c_M_thrown 0 = .ok (.aload_n 0, 1) := by decide +kernel
theorem d_M_thrown_1 : decode c_M_thrown 1 = .ok (.getfield 59, 3) := by decide +kernel
theorem d_M_thrown_4 : decode c_M_thrown 4 = .ok (.ireturn, 1) := by decide +kernel
abbrev c_M_in : ByteArray := prog_6_method_3_code
def y_M_in : MethodName := ⟨"EventKeeperModel", "in", "(III)Z"⟩
theorem d_M_in_0 : decode c_M_in 0 = .ok (.iload_n 0, 1) := by decide +kernel
theorem d_M_in_1 : decode c_M_in 1 = .ok (.iload_n 1, 1) := by decide +kernel
theorem d_M_in_2 : decode c_M_in 2 = .ok (.if_icmp .lt 12, 3) := by decide +kernel
theorem d_M_in_5 : decode c_M_in 5 = .ok (.iload_n 0, 1) := by decide +kernel
theorem d_M_in_6 : decode c_M_in 6 = .ok (.iload_n 2, 1) := by decide +kernel
theorem d_M_in_7 : decode c_M_in 7 = .ok (.if_icmp .gt 7, 3) := by decide +kernel
theorem d_M_in_10 : decode c_M_in 10 = .ok (.iconst 1, 1) := by decide +kernel
theorem d_M_in_11 : decode c_M_in 11 = .ok (.goto 4, 3) := by decide +kernel
theorem d_M_in_14 : decode c_M_in 14 = .ok (.iconst 0, 1) := by decide +kernel
theorem d_M_in_15 : decode c_M_in 15 = .ok (.ireturn, 1) := by decide +kernel
abbrev c_M_fails : ByteArray := prog_6_method_4_code
def y_M_fails : MethodName := ⟨"EventKeeperModel", "fails", "(ZI)Z"⟩
theorem d_M_fails_0 : decode c_M_fails 0 = .ok (.iload_n 1, 1) := by decide +kernel
theorem d_M_fails_1 : decode c_M_fails 1 = .ok (.ifCond .eq 15, 3) := by decide +kernel
theorem d_M_fails_4 : decode c_M_fails 4 = .ok (.aload_n 0, 1) := by decide +kernel
theorem d_M_fails_5 : decode c_M_fails 5 = .ok (.getfield 59, 3) := by decide +kernel
theorem d_M_fails_8 : decode c_M_fails 8 = .ok (.ifCond .ne 8, 3) := by decide +kernel
theorem d_M_fails_11 : decode c_M_fails 11 = .ok (.aload_n 0, 1) := by decide +kernel
theorem d_M_fails_12 : decode c_M_fails 12 = .ok (.iload_n 2, 1) := by decide +kernel
theorem d_M_fails_13 : decode c_M_fails 13 = .ok (.putfield 59, 3) := by decide +kernel
theorem d_M_fails_16 : decode c_M_fails 16 = .ok (.aload_n 0, 1) := by decide +kernel
theorem d_M_fails_17 : decode c_M_fails 17 = .ok (.getfield 59, 3) := by decide +kernel
theorem d_M_fails_20 : decode c_M_fails 20 = .ok (.ifCond .eq 7, 3) := by decide +kernel
theorem d_M_fails_23 : decode c_M_fails 23 = .ok (.iconst 1, 1) := by decide +kernel
theorem d_M_fails_24 : decode c_M_fails 24 = .ok (.goto 4, 3) := by decide +kernel
theorem d_M_fails_27 : decode c_M_fails 27 = .ok (.iconst 0, 1) := by decide +kernel
theorem d_M_fails_28 : decode c_M_fails 28 = .ok (.ireturn, 1) := by decide +kernel
abbrev c_M_inStream : ByteArray := prog_6_method_5_code
def y_M_inStream : MethodName := ⟨"EventKeeperModel", "inStream", "(II)I"⟩
theorem d_M_inStream_0 : decode c_M_inStream 0 = .ok (.iconst 0, 1) := by decide +kernel
theorem d_M_inStream_1 : decode c_M_inStream 1 = .ok (.istore_n 3, 1) := by decide +kernel
theorem d_M_inStream_2 : decode c_M_inStream 2 = .ok (.iconst 0, 1) := by decide +kernel
theorem d_M_inStream_3 : decode c_M_inStream 3 = .ok (.istore 4, 2) := by decide +kernel
theorem d_M_inStream_5 : decode c_M_inStream 5 = .ok (.iload 4, 2) := by decide +kernel
theorem d_M_inStream_7 : decode c_M_inStream 7 = .ok (.iload_n 2, 1) := by decide +kernel
theorem d_M_inStream_8 : decode c_M_inStream 8 = .ok (.if_icmp .ge 23, 3) := by decide +kernel
theorem d_M_inStream_11 : decode c_M_inStream 11 = .ok (.aload_n 0, 1) := by decide +kernel
theorem d_M_inStream_12 : decode c_M_inStream 12 = .ok (.getfield 9, 3) := by decide +kernel
theorem d_M_inStream_15 : decode c_M_inStream 15 = .ok (.iload 4, 2) := by decide +kernel
theorem d_M_inStream_17 : decode c_M_inStream 17 = .ok (.iaload, 1) := by decide +kernel
theorem d_M_inStream_18 : decode c_M_inStream 18 = .ok (.iload_n 1, 1) := by decide +kernel
theorem d_M_inStream_19 : decode c_M_inStream 19 = .ok (.if_icmp .ne 6, 3) := by decide +kernel
theorem d_M_inStream_22 : decode c_M_inStream 22 = .ok (.iinc 3 1, 3) := by decide +kernel
theorem d_M_inStream_25 : decode c_M_inStream 25 = .ok (.iinc 4 1, 3) := by decide +kernel
theorem d_M_inStream_28 : decode c_M_inStream 28 = .ok (.goto (-23), 3) := by decide +kernel
theorem d_M_inStream_31 : decode c_M_inStream 31 = .ok (.iload_n 3, 1) := by decide +kernel
theorem d_M_inStream_32 : decode c_M_inStream 32 = .ok (.ireturn, 1) := by decide +kernel
abbrev c_M_put : ByteArray := prog_6_method_6_code
def y_M_put : MethodName := ⟨"EventKeeperModel", "put", "(IIJII)I"⟩
theorem d_M_put_0 : decode c_M_put 0 = .ok (.aload_n 0, 1) := by decide +kernel
theorem d_M_put_1 : decode c_M_put 1 = .ok (.getfield 9, 3) := by decide +kernel
theorem d_M_put_4 : decode c_M_put 4 = .ok (.aload_n 0, 1) := by decide +kernel
theorem d_M_put_5 : decode c_M_put 5 = .ok (.getfield 63, 3) := by decide +kernel
theorem d_M_put_8 : decode c_M_put 8 = .ok (.iload_n 1, 1) := by decide +kernel
theorem d_M_put_9 : decode c_M_put 9 = .ok (.iastore, 1) := by decide +kernel
theorem d_M_put_10 : decode c_M_put 10 = .ok (.aload_n 0, 1) := by decide +kernel
theorem d_M_put_11 : decode c_M_put 11 = .ok (.getfield 13, 3) := by decide +kernel
theorem d_M_put_14 : decode c_M_put 14 = .ok (.aload_n 0, 1) := by decide +kernel
theorem d_M_put_15 : decode c_M_put 15 = .ok (.getfield 63, 3) := by decide +kernel
theorem d_M_put_18 : decode c_M_put 18 = .ok (.iload_n 2, 1) := by decide +kernel
theorem d_M_put_19 : decode c_M_put 19 = .ok (.iastore, 1) := by decide +kernel
theorem d_M_put_20 : decode c_M_put 20 = .ok (.aload_n 0, 1) := by decide +kernel
theorem d_M_put_21 : decode c_M_put 21 = .ok (.getfield 22, 3) := by decide +kernel
theorem d_M_put_24 : decode c_M_put 24 = .ok (.aload_n 0, 1) := by decide +kernel
theorem d_M_put_25 : decode c_M_put 25 = .ok (.getfield 63, 3) := by decide +kernel
theorem d_M_put_28 : decode c_M_put 28 = .ok (.lload_n 3, 1) := by decide +kernel
theorem d_M_put_29 : decode c_M_put 29 = .ok (.lastore, 1) := by decide +kernel
theorem d_M_put_30 : decode c_M_put 30 = .ok (.aload_n 0, 1) := by decide +kernel
theorem d_M_put_31 : decode c_M_put 31 = .ok (.getfield 16, 3) := by decide +kernel
theorem d_M_put_34 : decode c_M_put 34 = .ok (.aload_n 0, 1) := by decide +kernel
theorem d_M_put_35 : decode c_M_put 35 = .ok (.getfield 63, 3) := by decide +kernel
theorem d_M_put_38 : decode c_M_put 38 = .ok (.iload 5, 2) := by decide +kernel
theorem d_M_put_40 : decode c_M_put 40 = .ok (.iastore, 1) := by decide +kernel
theorem d_M_put_41 : decode c_M_put 41 = .ok (.aload_n 0, 1) := by decide +kernel
theorem d_M_put_42 : decode c_M_put 42 = .ok (.getfield 19, 3) := by decide +kernel
theorem d_M_put_45 : decode c_M_put 45 = .ok (.aload_n 0, 1) := by decide +kernel
theorem d_M_put_46 : decode c_M_put 46 = .ok (.getfield 63, 3) := by decide +kernel
theorem d_M_put_49 : decode c_M_put 49 = .ok (.iload 6, 2) := by decide +kernel
theorem d_M_put_51 : decode c_M_put 51 = .ok (.iastore, 1) := by decide +kernel
theorem d_M_put_52 : decode c_M_put 52 = .ok (.aload_n 0, 1) := by decide +kernel
theorem d_M_put_53 : decode c_M_put 53 = .ok (.dup, 1) := by decide +kernel
theorem d_M_put_54 : decode c_M_put 54 = .ok (.getfield 63, 3) := by decide +kernel
theorem d_M_put_57 : decode c_M_put 57 = .ok (.dup_x1, 1) := by decide +kernel
theorem d_M_put_58 : decode c_M_put 58 = .ok (.iconst 1, 1) := by decide +kernel
theorem d_M_put_59 : decode c_M_put 59 = .ok (.iadd, 1) := by decide +kernel
theorem d_M_put_60 : decode c_M_put 60 = .ok (.putfield 63, 3) := by decide +kernel
theorem d_M_put_63 : decode c_M_put 63 = .ok (.ireturn, 1) := by decide +kernel
abbrev c_M_append : ByteArray := prog_6_method_7_code
def y_M_append : MethodName := ⟨"EventKeeperModel", "append", "(IIIJ)I"⟩
theorem d_M_append_0 : decode c_M_append 0 = .ok (.aload_n 0, 1) := by decide +kernel
theorem d_M_append_1 : decode c_M_append 1 = .ok (.iconst 0, 1) := by decide +kernel
theorem d_M_append_2 : decode c_M_append 2 = .ok (.putfield 59, 3) := by decide +kernel
theorem d_M_append_5 : decode c_M_append 5 = .ok (.aload_n 0, 1) := by decide +kernel
theorem d_M_append_6 : decode c_M_append 6 = .ok (.iload_n 1, 1) := by decide +kernel
theorem d_M_append_7 : decode c_M_append 7 = .ok (.iconst 0, 1) := by decide +kernel
theorem d_M_append_8 : decode c_M_append 8 = .ok (.bipush 15, 2) := by decide +kernel
theorem d_M_append_10 : decode c_M_append 10 = .ok (.invokestatic 66, 3) := by decide +kernel
theorem d_M_append_13 : decode c_M_append 13 = .ok (.ifCond .eq 18, 3) := by decide +kernel
theorem d_M_append_16 : decode c_M_append 16 = .ok (.iload_n 2, 1) := by decide +kernel
theorem d_M_append_17 : decode c_M_append 17 = .ok (.iconst (-1), 1) := by decide +kernel
theorem d_M_append_18 : decode c_M_append 18 = .ok (.if_icmp .lt 13, 3) := by decide +kernel
theorem d_M_append_21 : decode c_M_append 21 = .ok (.iload_n 3, 1) := by decide +kernel
theorem d_M_append_22 : decode c_M_append 22 = .ok (.iconst 0, 1) := by decide +kernel
theorem d_M_append_23 : decode c_M_append 23 = .ok (.bipush 7, 2) := by decide +kernel
theorem d_M_append_25 : decode c_M_append 25 = .ok (.invokestatic 66, 3) := by decide +kernel
theorem d_M_append_28 : decode c_M_append 28 = .ok (.ifCond .ne 7, 3) := by decide +kernel
theorem d_M_append_31 : decode c_M_append 31 = .ok (.iconst 1, 1) := by decide +kernel
theorem d_M_append_32 : decode c_M_append 32 = .ok (.goto 4, 3) := by decide +kernel
theorem d_M_append_35 : decode c_M_append 35 = .ok (.iconst 0, 1) := by decide +kernel
theorem d_M_append_36 : decode c_M_append 36 = .ok (.iconst 1, 1) := by decide +kernel
theorem d_M_append_37 : decode c_M_append 37 = .ok (.invokevirtual 70, 3) := by decide +kernel
theorem d_M_append_40 : decode c_M_append 40 = .ok (.ifCond .ne 56, 3) := by decide +kernel
theorem d_M_append_43 : decode c_M_append 43 = .ok (.aload_n 0, 1) := by decide +kernel
theorem d_M_append_44 : decode c_M_append 44 = .ok (.iload_n 2, 1) := by decide +kernel
theorem d_M_append_45 : decode c_M_append 45 = .ok (.ifCond .lt 20, 3) := by decide +kernel
theorem d_M_append_48 : decode c_M_append 48 = .ok (.aload_n 0, 1) := by decide +kernel
theorem d_M_append_49 : decode c_M_append 49 = .ok (.iload_n 1, 1) := by decide +kernel
theorem d_M_append_50 : decode c_M_append 50 = .ok (.aload_n 0, 1) := by decide +kernel
theorem d_M_append_51 : decode c_M_append 51 = .ok (.getfield 63, 3) := by decide +kernel
theorem d_M_append_54 : decode c_M_append 54 = .ok (.invokevirtual 74, 3) := by decide +kernel
theorem d_M_append_57 : decode c_M_append 57 = .ok (.iload_n 2, 1) := by decide +kernel
theorem d_M_append_58 : decode c_M_append 58 = .ok (.if_icmp .eq 7, 3) := by decide +kernel
theorem d_M_append_61 : decode c_M_append 61 = .ok (.iconst 1, 1) := by decide +kernel
theorem d_M_append_62 : decode c_M_append 62 = .ok (.goto 4, 3) := by decide +kernel
theorem d_M_append_65 : decode c_M_append 65 = .ok (.iconst 0, 1) := by decide +kernel
theorem d_M_append_66 : decode c_M_append 66 = .ok (.iconst 2, 1) := by decide +kernel
theorem d_M_append_67 : decode c_M_append 67 = .ok (.invokevirtual 70, 3) := by decide +kernel
theorem d_M_append_70 : decode c_M_append 70 = .ok (.ifCond .ne 26, 3) := by decide +kernel
theorem d_M_append_73 : decode c_M_append 73 = .ok (.aload_n 0, 1) := by decide +kernel
theorem d_M_append_74 : decode c_M_append 74 = .ok (.aload_n 0, 1) := by decide +kernel
theorem d_M_append_75 : decode c_M_append 75 = .ok (.getfield 63, 3) := by decide +kernel
theorem d_M_append_78 : decode c_M_append 78 = .ok (.sipush 500, 3) := by decide +kernel
theorem d_M_append_81 : decode c_M_append 81 = .ok (.if_icmp .ne 7, 3) := by decide +kernel
theorem d_M_append_84 : decode c_M_append 84 = .ok (.iconst 1, 1) := by decide +kernel
theorem d_M_append_85 : decode c_M_append 85 = .ok (.goto 4, 3) := by decide +kernel
theorem d_M_append_88 : decode c_M_append 88 = .ok (.iconst 0, 1) := by decide +kernel
theorem d_M_append_89 : decode c_M_append 89 = .ok (.iconst 3, 1) := by decide +kernel
theorem d_M_append_90 : decode c_M_append 90 = .ok (.invokevirtual 70, 3) := by decide +kernel
theorem d_M_append_93 : decode c_M_append 93 = .ok (.ifCond .eq 5, 3) := by decide +kernel
theorem d_M_append_96 : decode c_M_append 96 = .ok (.iconst 0, 1) := by decide +kernel
theorem d_M_append_97 : decode c_M_append 97 = .ok (.ireturn, 1) := by decide +kernel
theorem d_M_append_98 : decode c_M_append 98 = .ok (.aload_n 0, 1) := by decide +kernel
theorem d_M_append_99 : decode c_M_append 99 = .ok (.iload_n 1, 1) := by decide +kernel
theorem d_M_append_100 : decode c_M_append 100 = .ok (.iload_n 3, 1) := by decide +kernel
theorem d_M_append_101 : decode c_M_append 101 = .ok (.lload 4, 2) := by decide +kernel
theorem d_M_append_103 : decode c_M_append 103 = .ok (.iconst (-1), 1) := by decide +kernel
theorem d_M_append_104 : decode c_M_append 104 = .ok (.iconst (-1), 1) := by decide +kernel
theorem d_M_append_105 : decode c_M_append 105 = .ok (.invokevirtual 78, 3) := by decide +kernel
theorem d_M_append_108 : decode c_M_append 108 = .ok (.ireturn, 1) := by decide +kernel
abbrev c_M_isProjection : ByteArray := prog_6_method_8_code
def y_M_isProjection : MethodName := ⟨"EventKeeperModel", "isProjection", "(I)Z"⟩
theorem d_M_isProjection_0 : decode c_M_isProjection 0 = .ok (.iload_n 0, 1) := by decide +kernel
theorem d_M_isProjection_1 : decode c_M_isProjection 1 = .ok (.iconst 0, 1) := by decide +kernel
theorem d_M_isProjection_2 : decode c_M_isProjection 2 = .ok (.bipush 7, 2) := by decide +kernel
theorem d_M_isProjection_4 : decode c_M_isProjection 4 = .ok (.invokestatic 66, 3) := by decide +kernel
theorem d_M_isProjection_7 : decode c_M_isProjection 7 = .ok (.ireturn, 1) := by decide +kernel
abbrev c_M_begin : ByteArray := prog_6_method_9_code
def y_M_begin : MethodName := ⟨"EventKeeperModel", "begin", "(I)V"⟩
theorem d_M_begin_0 : decode c_M_begin 0 = .ok (.iconst 0, 1) := by decide +kernel
theorem d_M_begin_1 : decode c_M_begin 1 = .ok (.istore_n 2, 1) := by decide +kernel
theorem d_M_begin_2 : decode c_M_begin 2 = .ok (.iload_n 2, 1) := by decide +kernel
theorem d_M_begin_3 : decode c_M_begin 3 = .ok (.bipush 16, 2) := by decide +kernel
theorem d_M_begin_5 : decode c_M_begin 5 = .ok (.if_icmp .ge 21, 3) := by decide +kernel
theorem d_M_begin_8 : decode c_M_begin 8 = .ok (.aload_n 0, 1) := by decide +kernel
theorem d_M_begin_9 : decode c_M_begin 9 = .ok (.getfield 26, 3) := by decide +kernel
theorem d_M_begin_12 : decode c_M_begin 12 = .ok (.bipush 16, 2) := by decide +kernel
theorem d_M_begin_14 : decode c_M_begin 14 = .ok (.iload_n 1, 1) := by decide +kernel
theorem d_M_begin_15 : decode c_M_begin 15 = .ok (.imul, 1) := by decide +kernel
theorem d_M_begin_16 : decode c_M_begin 16 = .ok (.iload_n 2, 1) := by decide +kernel
theorem d_M_begin_17 : decode c_M_begin 17 = .ok (.iadd, 1) := by decide +kernel
theorem d_M_begin_18 : decode c_M_begin 18 = .ok (.lconst 0, 1) := by decide +kernel
theorem d_M_begin_19 : decode c_M_begin 19 = .ok (.lastore, 1) := by decide +kernel
theorem d_M_begin_20 : decode c_M_begin 20 = .ok (.iinc 2 1, 3) := by decide +kernel
theorem d_M_begin_23 : decode c_M_begin 23 = .ok (.goto (-21), 3) := by decide +kernel
theorem d_M_begin_26 : decode c_M_begin 26 = .ok (.aload_n 0, 1) := by decide +kernel
theorem d_M_begin_27 : decode c_M_begin 27 = .ok (.getfield 38, 3) := by decide +kernel
theorem d_M_begin_30 : decode c_M_begin 30 = .ok (.iload_n 1, 1) := by decide +kernel
theorem d_M_begin_31 : decode c_M_begin 31 = .ok (.iconst 0, 1) := by decide +kernel
theorem d_M_begin_32 : decode c_M_begin 32 = .ok (.iastore, 1) := by decide +kernel
theorem d_M_begin_33 : decode c_M_begin 33 = .ok (.aload_n 0, 1) := by decide +kernel
theorem d_M_begin_34 : decode c_M_begin 34 = .ok (.getfield 41, 3) := by decide +kernel
theorem d_M_begin_37 : decode c_M_begin 37 = .ok (.iload_n 1, 1) := by decide +kernel
theorem d_M_begin_38 : decode c_M_begin 38 = .ok (.iconst (-1), 1) := by decide +kernel
theorem d_M_begin_39 : decode c_M_begin 39 = .ok (.iastore, 1) := by decide +kernel
theorem d_M_begin_40 : decode c_M_begin 40 = .ok (.return_, 1) := by decide +kernel
abbrev c_M_rule : ByteArray := prog_6_method_10_code
def y_M_rule : MethodName := ⟨"EventKeeperModel", "rule", "(IIII)V"⟩
theorem d_M_rule_0 : decode c_M_rule 0 = .ok (.aload_n 0, 1) := by decide +kernel
theorem d_M_rule_1 : decode c_M_rule 1 = .ok (.iconst 0, 1) := by decide +kernel
theorem d_M_rule_2 : decode c_M_rule 2 = .ok (.putfield 59, 3) := by decide +kernel
theorem d_M_rule_5 : decode c_M_rule 5 = .ok (.aload_n 0, 1) := by decide +kernel
theorem d_M_rule_6 : decode c_M_rule 6 = .ok (.iload_n 1, 1) := by decide +kernel
theorem d_M_rule_7 : decode c_M_rule 7 = .ok (.invokestatic 82, 3) := by decide +kernel
theorem d_M_rule_10 : decode c_M_rule 10 = .ok (.ifCond .eq 33, 3) := by decide +kernel
theorem d_M_rule_13 : decode c_M_rule 13 = .ok (.iload_n 2, 1) := by decide +kernel
theorem d_M_rule_14 : decode c_M_rule 14 = .ok (.iconst 0, 1) := by decide +kernel
theorem d_M_rule_15 : decode c_M_rule 15 = .ok (.bipush 7, 2) := by decide +kernel
theorem d_M_rule_17 : decode c_M_rule 17 = .ok (.invokestatic 66, 3) := by decide +kernel
theorem d_M_rule_20 : decode c_M_rule 20 = .ok (.ifCond .eq 23, 3) := by decide +kernel
theorem d_M_rule_23 : decode c_M_rule 23 = .ok (.iload_n 3, 1) := by decide +kernel
theorem d_M_rule_24 : decode c_M_rule 24 = .ok (.iconst 0, 1) := by decide +kernel
theorem d_M_rule_25 : decode c_M_rule 25 = .ok (.bipush 6, 2) := by decide +kernel
theorem d_M_rule_27 : decode c_M_rule 27 = .ok (.invokestatic 66, 3) := by decide +kernel
theorem d_M_rule_30 : decode c_M_rule 30 = .ok (.ifCond .eq 13, 3) := by decide +kernel
theorem d_M_rule_33 : decode c_M_rule 33 = .ok (.iload 4, 2) := by decide +kernel
theorem d_M_rule_35 : decode c_M_rule 35 = .ok (.iconst 0, 1) := by decide +kernel
theorem d_M_rule_36 : decode c_M_rule 36 = .ok (.iconst 2, 1) := by decide +kernel
theorem d_M_rule_37 : decode c_M_rule 37 = .ok (.invokestatic 66, 3) := by decide +kernel
theorem d_M_rule_40 : decode c_M_rule 40 = .ok (.ifCond .ne 7, 3) := by decide +kernel
theorem d_M_rule_43 : decode c_M_rule 43 = .ok (.iconst 1, 1) := by decide +kernel
theorem d_M_rule_44 : decode c_M_rule 44 = .ok (.goto 4, 3) := by decide +kernel
theorem d_M_rule_47 : decode c_M_rule 47 = .ok (.iconst 0, 1) := by decide +kernel
theorem d_M_rule_48 : decode c_M_rule 48 = .ok (.iconst 1, 1) := by decide +kernel
theorem d_M_rule_49 : decode c_M_rule 49 = .ok (.invokevirtual 70, 3) := by decide +kernel
theorem d_M_rule_52 : decode c_M_rule 52 = .ok (.ifCond .eq 4, 3) := by decide +kernel
theorem d_M_rule_55 : decode c_M_rule 55 = .ok (.return_, 1) := by decide +kernel
theorem d_M_rule_56 : decode c_M_rule 56 = .ok (.aload_n 0, 1) := by decide +kernel
theorem d_M_rule_57 : decode c_M_rule 57 = .ok (.getfield 32, 3) := by decide +kernel
theorem d_M_rule_60 : decode c_M_rule 60 = .ok (.bipush 8, 2) := by decide +kernel
theorem d_M_rule_62 : decode c_M_rule 62 = .ok (.iload_n 1, 1) := by decide +kernel
theorem d_M_rule_63 : decode c_M_rule 63 = .ok (.imul, 1) := by decide +kernel
theorem d_M_rule_64 : decode c_M_rule 64 = .ok (.iload_n 2, 1) := by decide +kernel
theorem d_M_rule_65 : decode c_M_rule 65 = .ok (.iadd, 1) := by decide +kernel
theorem d_M_rule_66 : decode c_M_rule 66 = .ok (.iload_n 3, 1) := by decide +kernel
theorem d_M_rule_67 : decode c_M_rule 67 = .ok (.iastore, 1) := by decide +kernel
theorem d_M_rule_68 : decode c_M_rule 68 = .ok (.aload_n 0, 1) := by decide +kernel
theorem d_M_rule_69 : decode c_M_rule 69 = .ok (.getfield 35, 3) := by decide +kernel
theorem d_M_rule_72 : decode c_M_rule 72 = .ok (.bipush 8, 2) := by decide +kernel
theorem d_M_rule_74 : decode c_M_rule 74 = .ok (.iload_n 1, 1) := by decide +kernel
theorem d_M_rule_75 : decode c_M_rule 75 = .ok (.imul, 1) := by decide +kernel
theorem d_M_rule_76 : decode c_M_rule 76 = .ok (.iload_n 2, 1) := by decide +kernel
theorem d_M_rule_77 : decode c_M_rule 77 = .ok (.iadd, 1) := by decide +kernel
theorem d_M_rule_78 : decode c_M_rule 78 = .ok (.iload 4, 2) := by decide +kernel
theorem d_M_rule_80 : decode c_M_rule 80 = .ok (.iastore, 1) := by decide +kernel
theorem d_M_rule_81 : decode c_M_rule 81 = .ok (.aload_n 0, 1) := by decide +kernel
theorem d_M_rule_82 : decode c_M_rule 82 = .ok (.iload_n 1, 1) := by decide +kernel
theorem d_M_rule_83 : decode c_M_rule 83 = .ok (.invokevirtual 86, 3) := by decide +kernel
theorem d_M_rule_86 : decode c_M_rule 86 = .ok (.return_, 1) := by decide +kernel
abbrev c_M_advance : ByteArray := prog_6_method_11_code
def y_M_advance : MethodName := ⟨"EventKeeperModel", "advance", "(II)I"⟩
theorem d_M_advance_0 : decode c_M_advance 0 = .ok (.aload_n 0, 1) := by decide +kernel
theorem d_M_advance_1 : decode c_M_advance 1 = .ok (.iconst 0, 1) := by decide +kernel
theorem d_M_advance_2 : decode c_M_advance 2 = .ok (.putfield 59, 3) := by decide +kernel
theorem d_M_advance_5 : decode c_M_advance 5 = .ok (.aload_n 0, 1) := by decide +kernel
theorem d_M_advance_6 : decode c_M_advance 6 = .ok (.iload_n 1, 1) := by decide +kernel
theorem d_M_advance_7 : decode c_M_advance 7 = .ok (.invokestatic 82, 3) := by decide +kernel
theorem d_M_advance_10 : decode c_M_advance 10 = .ok (.ifCond .eq 14, 3) := by decide +kernel
theorem d_M_advance_13 : decode c_M_advance 13 = .ok (.iload_n 2, 1) := by decide +kernel
theorem d_M_advance_14 : decode c_M_advance 14 = .ok (.iconst 0, 1) := by decide +kernel
theorem d_M_advance_15 : decode c_M_advance 15 = .ok (.sipush 1000, 3) := by decide +kernel
theorem d_M_advance_18 : decode c_M_advance 18 = .ok (.invokestatic 66, 3) := by decide +kernel
theorem d_M_advance_21 : decode c_M_advance 21 = .ok (.ifCond .ne 7, 3) := by decide +kernel
theorem d_M_advance_24 : decode c_M_advance 24 = .ok (.iconst 1, 1) := by decide +kernel
theorem d_M_advance_25 : decode c_M_advance 25 = .ok (.goto 4, 3) := by decide +kernel
theorem d_M_advance_28 : decode c_M_advance 28 = .ok (.iconst 0, 1) := by decide +kernel
theorem d_M_advance_29 : decode c_M_advance 29 = .ok (.iconst 1, 1) := by decide +kernel
theorem d_M_advance_30 : decode c_M_advance 30 = .ok (.invokevirtual 70, 3) := by decide +kernel
theorem d_M_advance_33 : decode c_M_advance 33 = .ok (.ifCond .eq 5, 3) := by decide +kernel
theorem d_M_advance_36 : decode c_M_advance 36 = .ok (.iconst 0, 1) := by decide +kernel
theorem d_M_advance_37 : decode c_M_advance 37 = .ok (.ireturn, 1) := by decide +kernel
theorem d_M_advance_38 : decode c_M_advance 38 = .ok (.iconst 0, 1) := by decide +kernel
theorem d_M_advance_39 : decode c_M_advance 39 = .ok (.istore_n 3, 1) := by decide +kernel
theorem d_M_advance_40 : decode c_M_advance 40 = .ok (.iload_n 3, 1) := by decide +kernel
theorem d_M_advance_41 : decode c_M_advance 41 = .ok (.iload_n 2, 1) := by decide +kernel
theorem d_M_advance_42 : decode c_M_advance 42 = .ok (.if_icmp .ge 46, 3) := by decide +kernel
theorem d_M_advance_45 : decode c_M_advance 45 = .ok (.aload_n 0, 1) := by decide +kernel
theorem d_M_advance_46 : decode c_M_advance 46 = .ok (.getfield 38, 3) := by decide +kernel
theorem d_M_advance_49 : decode c_M_advance 49 = .ok (.iload_n 1, 1) := by decide +kernel
theorem d_M_advance_50 : decode c_M_advance 50 = .ok (.iaload, 1) := by decide +kernel
theorem d_M_advance_51 : decode c_M_advance 51 = .ok (.aload_n 0, 1) := by decide +kernel
theorem d_M_advance_52 : decode c_M_advance 52 = .ok (.getfield 63, 3) := by decide +kernel
theorem d_M_advance_55 : decode c_M_advance 55 = .ok (.if_icmp .ge 33, 3) := by decide +kernel
theorem d_M_advance_58 : decode c_M_advance 58 = .ok (.aload_n 0, 1) := by decide +kernel
theorem d_M_advance_59 : decode c_M_advance 59 = .ok (.iload_n 1, 1) := by decide +kernel
theorem d_M_advance_60 : decode c_M_advance 60 = .ok (.aload_n 0, 1) := by decide +kernel
theorem d_M_advance_61 : decode c_M_advance 61 = .ok (.getfield 38, 3) := by decide +kernel
theorem d_M_advance_64 : decode c_M_advance 64 = .ok (.iload_n 1, 1) := by decide +kernel
theorem d_M_advance_65 : decode c_M_advance 65 = .ok (.iaload, 1) := by decide +kernel
theorem d_M_advance_66 : decode c_M_advance 66 = .ok (.invokevirtual 90, 3) := by decide +kernel
theorem d_M_advance_69 : decode c_M_advance 69 = .ok (.ifCond .eq 19, 3) := by decide +kernel
theorem d_M_advance_72 : decode c_M_advance 72 = .ok (.aload_n 0, 1) := by decide +kernel
theorem d_M_advance_73 : decode c_M_advance 73 = .ok (.getfield 38, 3) := by decide +kernel
theorem d_M_advance_76 : decode c_M_advance 76 = .ok (.iload_n 1, 1) := by decide +kernel
theorem d_M_advance_77 : decode c_M_advance 77 = .ok (.dup2, 1) := by decide +kernel
theorem d_M_advance_78 : decode c_M_advance 78 = .ok (.iaload, 1) := by decide +kernel
theorem d_M_advance_79 : decode c_M_advance 79 = .ok (.iconst 1, 1) := by decide +kernel
theorem d_M_advance_80 : decode c_M_advance 80 = .ok (.iadd, 1) := by decide +kernel
theorem d_M_advance_81 : decode c_M_advance 81 = .ok (.iastore, 1) := by decide +kernel
theorem d_M_advance_82 : decode c_M_advance 82 = .ok (.iinc 3 1, 3) := by decide +kernel
theorem d_M_advance_85 : decode c_M_advance 85 = .ok (.goto (-45), 3) := by decide +kernel
theorem d_M_advance_88 : decode c_M_advance 88 = .ok (.iload_n 3, 1) := by decide +kernel
theorem d_M_advance_89 : decode c_M_advance 89 = .ok (.ireturn, 1) := by decide +kernel
abbrev c_M_takes : ByteArray := prog_6_method_12_code
def y_M_takes : MethodName := ⟨"EventKeeperModel", "takes", "(II)Z"⟩
theorem d_M_takes_0 : decode c_M_takes 0 = .ok (.aload_n 0, 1) := by decide +kernel
theorem d_M_takes_1 : decode c_M_takes 1 = .ok (.getfield 32, 3) := by decide +kernel
theorem d_M_takes_4 : decode c_M_takes 4 = .ok (.bipush 8, 2) := by decide +kernel
theorem d_M_takes_6 : decode c_M_takes 6 = .ok (.iload_n 1, 1) := by decide +kernel
theorem d_M_takes_7 : decode c_M_takes 7 = .ok (.imul, 1) := by decide +kernel
theorem d_M_takes_8 : decode c_M_takes 8 = .ok (.aload_n 0, 1) := by decide +kernel
theorem d_M_takes_9 : decode c_M_takes 9 = .ok (.getfield 13, 3) := by decide +kernel
theorem d_M_takes_12 : decode c_M_takes 12 = .ok (.iload_n 2, 1) := by decide +kernel
theorem d_M_takes_13 : decode c_M_takes 13 = .ok (.iaload, 1) := by decide +kernel
theorem d_M_takes_14 : decode c_M_takes 14 = .ok (.iadd, 1) := by decide +kernel
theorem d_M_takes_15 : decode c_M_takes 15 = .ok (.iaload, 1) := by decide +kernel
theorem d_M_takes_16 : decode c_M_takes 16 = .ok (.istore_n 3, 1) := by decide +kernel
theorem d_M_takes_17 : decode c_M_takes 17 = .ok (.aload_n 0, 1) := by decide +kernel
theorem d_M_takes_18 : decode c_M_takes 18 = .ok (.getfield 35, 3) := by decide +kernel
theorem d_M_takes_21 : decode c_M_takes 21 = .ok (.bipush 8, 2) := by decide +kernel
theorem d_M_takes_23 : decode c_M_takes 23 = .ok (.iload_n 1, 1) := by decide +kernel
theorem d_M_takes_24 : decode c_M_takes 24 = .ok (.imul, 1) := by decide +kernel
theorem d_M_takes_25 : decode c_M_takes 25 = .ok (.aload_n 0, 1) := by decide +kernel
theorem d_M_takes_26 : decode c_M_takes 26 = .ok (.getfield 13, 3) := by decide +kernel
theorem d_M_takes_29 : decode c_M_takes 29 = .ok (.iload_n 2, 1) := by decide +kernel
theorem d_M_takes_30 : decode c_M_takes 30 = .ok (.iaload, 1) := by decide +kernel
theorem d_M_takes_31 : decode c_M_takes 31 = .ok (.iadd, 1) := by decide +kernel
theorem d_M_takes_32 : decode c_M_takes 32 = .ok (.iaload, 1) := by decide +kernel
theorem d_M_takes_33 : decode c_M_takes 33 = .ok (.istore 4, 2) := by decide +kernel
theorem d_M_takes_35 : decode c_M_takes 35 = .ok (.bipush 16, 2) := by decide +kernel
theorem d_M_takes_37 : decode c_M_takes 37 = .ok (.iload_n 1, 1) := by decide +kernel
theorem d_M_takes_38 : decode c_M_takes 38 = .ok (.imul, 1) := by decide +kernel
theorem d_M_takes_39 : decode c_M_takes 39 = .ok (.iload 4, 2) := by decide +kernel
theorem d_M_takes_41 : decode c_M_takes 41 = .ok (.ifCond .ne 12, 3) := by decide +kernel
theorem d_M_takes_44 : decode c_M_takes 44 = .ok (.aload_n 0, 1) := by decide +kernel
theorem d_M_takes_45 : decode c_M_takes 45 = .ok (.getfield 9, 3) := by decide +kernel
theorem d_M_takes_48 : decode c_M_takes 48 = .ok (.iload_n 2, 1) := by decide +kernel
theorem d_M_takes_49 : decode c_M_takes 49 = .ok (.iaload, 1) := by decide +kernel
theorem d_M_takes_50 : decode c_M_takes 50 = .ok (.goto 23, 3) := by decide +kernel
theorem d_M_takes_53 : decode c_M_takes 53 = .ok (.iload 4, 2) := by decide +kernel
theorem d_M_takes_55 : decode c_M_takes 55 = .ok (.iconst 1, 1) := by decide +kernel
theorem d_M_takes_56 : decode c_M_takes 56 = .ok (.if_icmp .ne 16, 3) := by decide +kernel
theorem d_M_takes_59 : decode c_M_takes 59 = .ok (.aload_n 0, 1) := by decide +kernel
theorem d_M_takes_60 : decode c_M_takes 60 = .ok (.getfield 22, 3) := by decide +kernel
theorem d_M_takes_63 : decode c_M_takes 63 = .ok (.iload_n 2, 1) := by decide +kernel
theorem d_M_takes_64 : decode c_M_takes 64 = .ok (.laload, 1) := by decide +kernel
theorem d_M_takes_65 : decode c_M_takes 65 = .ok (.l2i, 1) := by decide +kernel
theorem d_M_takes_66 : decode c_M_takes 66 = .ok (.bipush 15, 2) := by decide +kernel
theorem d_M_takes_68 : decode c_M_takes 68 = .ok (.iand, 1) := by decide +kernel
theorem d_M_takes_69 : decode c_M_takes 69 = .ok (.goto 4, 3) := by decide +kernel
theorem d_M_takes_72 : decode c_M_takes 72 = .ok (.iconst 0, 1) := by decide +kernel
theorem d_M_takes_73 : decode c_M_takes 73 = .ok (.iadd, 1) := by decide +kernel
theorem d_M_takes_74 : decode c_M_takes 74 = .ok (.istore 5, 2) := by decide +kernel
theorem d_M_takes_76 : decode c_M_takes 76 = .ok (.aload_n 0, 1) := by decide +kernel
theorem d_M_takes_77 : decode c_M_takes 77 = .ok (.getfield 22, 3) := by decide +kernel
theorem d_M_takes_80 : decode c_M_takes 80 = .ok (.iload_n 2, 1) := by decide +kernel
theorem d_M_takes_81 : decode c_M_takes 81 = .ok (.laload, 1) := by decide +kernel
theorem d_M_takes_82 : decode c_M_takes 82 = .ok (.lstore 6, 2) := by decide +kernel
theorem d_M_takes_84 : decode c_M_takes 84 = .ok (.iload_n 3, 1) := by decide +kernel
theorem d_M_takes_85 : decode c_M_takes 85 = .ok (.iconst 1, 1) := by decide +kernel
theorem d_M_takes_86 : decode c_M_takes 86 = .ok (.if_icmp .ne 18, 3) := by decide +kernel
theorem d_M_takes_89 : decode c_M_takes 89 = .ok (.aload_n 0, 1) := by decide +kernel
theorem d_M_takes_90 : decode c_M_takes 90 = .ok (.getfield 26, 3) := by decide +kernel
theorem d_M_takes_93 : decode c_M_takes 93 = .ok (.iload 5, 2) := by decide +kernel
theorem d_M_takes_95 : decode c_M_takes 95 = .ok (.dup2, 1) := by decide +kernel
theorem d_M_takes_96 : decode c_M_takes 96 = .ok (.laload, 1) := by decide +kernel
theorem d_M_takes_97 : decode c_M_takes 97 = .ok (.lload 6, 2) := by decide +kernel
theorem d_M_takes_99 : decode c_M_takes 99 = .ok (.ladd, 1) := by decide +kernel
theorem d_M_takes_100 : decode c_M_takes 100 = .ok (.lastore, 1) := by decide +kernel
theorem d_M_takes_101 : decode c_M_takes 101 = .ok (.goto 250, 3) := by decide +kernel
theorem d_M_takes_104 : decode c_M_takes 104 = .ok (.iload_n 3, 1) := by decide +kernel
theorem d_M_takes_105 : decode c_M_takes 105 = .ok (.iconst 2, 1) := by decide +kernel
theorem d_M_takes_106 : decode c_M_takes 106 = .ok (.if_icmp .ne 15, 3) := by decide +kernel
theorem d_M_takes_109 : decode c_M_takes 109 = .ok (.aload_n 0, 1) := by decide +kernel
theorem d_M_takes_110 : decode c_M_takes 110 = .ok (.getfield 26, 3) := by decide +kernel
theorem d_M_takes_113 : decode c_M_takes 113 = .ok (.iload 5, 2) := by decide +kernel
theorem d_M_takes_115 : decode c_M_takes 115 = .ok (.lload 6, 2) := by decide +kernel
theorem d_M_takes_117 : decode c_M_takes 117 = .ok (.lastore, 1) := by decide +kernel
theorem d_M_takes_118 : decode c_M_takes 118 = .ok (.goto 233, 3) := by decide +kernel
theorem d_M_takes_121 : decode c_M_takes 121 = .ok (.iload_n 3, 1) := by decide +kernel
theorem d_M_takes_122 : decode c_M_takes 122 = .ok (.iconst 3, 1) := by decide +kernel
theorem d_M_takes_123 : decode c_M_takes 123 = .ok (.if_icmp .ne 17, 3) := by decide +kernel
theorem d_M_takes_126 : decode c_M_takes 126 = .ok (.aload_n 0, 1) := by decide +kernel
theorem d_M_takes_127 : decode c_M_takes 127 = .ok (.getfield 26, 3) := by decide +kernel
theorem d_M_takes_130 : decode c_M_takes 130 = .ok (.iload 5, 2) := by decide +kernel
theorem d_M_takes_132 : decode c_M_takes 132 = .ok (.dup2, 1) := by decide +kernel
theorem d_M_takes_133 : decode c_M_takes 133 = .ok (.laload, 1) := by decide +kernel
theorem d_M_takes_134 : decode c_M_takes 134 = .ok (.lconst 1, 1) := by decide +kernel
theorem d_M_takes_135 : decode c_M_takes 135 = .ok (.ladd, 1) := by decide +kernel
theorem d_M_takes_136 : decode c_M_takes 136 = .ok (.lastore, 1) := by decide +kernel
theorem d_M_takes_137 : decode c_M_takes 137 = .ok (.goto 214, 3) := by decide +kernel
theorem d_M_takes_140 : decode c_M_takes 140 = .ok (.iload_n 3, 1) := by decide +kernel
theorem d_M_takes_141 : decode c_M_takes 141 = .ok (.iconst 4, 1) := by decide +kernel
theorem d_M_takes_142 : decode c_M_takes 142 = .ok (.if_icmp .ne 38, 3) := by decide +kernel
theorem d_M_takes_145 : decode c_M_takes 145 = .ok (.aload_n 0, 1) := by decide +kernel
theorem d_M_takes_146 : decode c_M_takes 146 = .ok (.getfield 26, 3) := by decide +kernel
theorem d_M_takes_149 : decode c_M_takes 149 = .ok (.iload 5, 2) := by decide +kernel
theorem d_M_takes_151 : decode c_M_takes 151 = .ok (.aload_n 0, 1) := by decide +kernel
theorem d_M_takes_152 : decode c_M_takes 152 = .ok (.getfield 26, 3) := by decide +kernel
theorem d_M_takes_155 : decode c_M_takes 155 = .ok (.iload 5, 2) := by decide +kernel
theorem d_M_takes_157 : decode c_M_takes 157 = .ok (.laload, 1) := by decide +kernel
theorem d_M_takes_158 : decode c_M_takes 158 = .ok (.lload 6, 2) := by decide +kernel
theorem d_M_takes_160 : decode c_M_takes 160 = .ok (.lcmp, 1) := by decide +kernel
theorem d_M_takes_161 : decode c_M_takes 161 = .ok (.ifCond .le 13, 3) := by decide +kernel
theorem d_M_takes_164 : decode c_M_takes 164 = .ok (.aload_n 0, 1) := by decide +kernel
theorem d_M_takes_165 : decode c_M_takes 165 = .ok (.getfield 26, 3) := by decide +kernel
theorem d_M_takes_168 : decode c_M_takes 168 = .ok (.iload 5, 2) := by decide +kernel
theorem d_M_takes_170 : decode c_M_takes 170 = .ok (.laload, 1) := by decide +kernel
theorem d_M_takes_171 : decode c_M_takes 171 = .ok (.goto 5, 3) := by decide +kernel
theorem d_M_takes_174 : decode c_M_takes 174 = .ok (.lload 6, 2) := by decide +kernel
theorem d_M_takes_176 : decode c_M_takes 176 = .ok (.lastore, 1) := by decide +kernel
theorem d_M_takes_177 : decode c_M_takes 177 = .ok (.goto 174, 3) := by decide +kernel
theorem d_M_takes_180 : decode c_M_takes 180 = .ok (.iload_n 3, 1) := by decide +kernel
theorem d_M_takes_181 : decode c_M_takes 181 = .ok (.iconst 5, 1) := by decide +kernel
theorem d_M_takes_182 : decode c_M_takes 182 = .ok (.if_icmp .ne 38, 3) := by decide +kernel
theorem d_M_takes_185 : decode c_M_takes 185 = .ok (.aload_n 0, 1) := by decide +kernel
theorem d_M_takes_186 : decode c_M_takes 186 = .ok (.getfield 26, 3) := by decide +kernel
theorem d_M_takes_189 : decode c_M_takes 189 = .ok (.iload 5, 2) := by decide +kernel
theorem d_M_takes_191 : decode c_M_takes 191 = .ok (.aload_n 0, 1) := by decide +kernel
theorem d_M_takes_192 : decode c_M_takes 192 = .ok (.getfield 26, 3) := by decide +kernel
theorem d_M_takes_195 : decode c_M_takes 195 = .ok (.iload 5, 2) := by decide +kernel
theorem d_M_takes_197 : decode c_M_takes 197 = .ok (.laload, 1) := by decide +kernel
theorem d_M_takes_198 : decode c_M_takes 198 = .ok (.lload 6, 2) := by decide +kernel
theorem d_M_takes_200 : decode c_M_takes 200 = .ok (.lcmp, 1) := by decide +kernel
theorem d_M_takes_201 : decode c_M_takes 201 = .ok (.ifCond .ge 13, 3) := by decide +kernel
theorem d_M_takes_204 : decode c_M_takes 204 = .ok (.aload_n 0, 1) := by decide +kernel
theorem d_M_takes_205 : decode c_M_takes 205 = .ok (.getfield 26, 3) := by decide +kernel
theorem d_M_takes_208 : decode c_M_takes 208 = .ok (.iload 5, 2) := by decide +kernel
theorem d_M_takes_210 : decode c_M_takes 210 = .ok (.laload, 1) := by decide +kernel
theorem d_M_takes_211 : decode c_M_takes 211 = .ok (.goto 5, 3) := by decide +kernel
theorem d_M_takes_214 : decode c_M_takes 214 = .ok (.lload 6, 2) := by decide +kernel
theorem d_M_takes_216 : decode c_M_takes 216 = .ok (.lastore, 1) := by decide +kernel
theorem d_M_takes_217 : decode c_M_takes 217 = .ok (.goto 134, 3) := by decide +kernel
theorem d_M_takes_220 : decode c_M_takes 220 = .ok (.iload_n 3, 1) := by decide +kernel
theorem d_M_takes_221 : decode c_M_takes 221 = .ok (.bipush 6, 2) := by decide +kernel
theorem d_M_takes_223 : decode c_M_takes 223 = .ok (.if_icmp .ne 128, 3) := by decide +kernel
theorem d_M_takes_226 : decode c_M_takes 226 = .ok (.aload_n 0, 1) := by decide +kernel
theorem d_M_takes_227 : decode c_M_takes 227 = .ok (.getfield 26, 3) := by decide +kernel
theorem d_M_takes_230 : decode c_M_takes 230 = .ok (.iload 5, 2) := by decide +kernel
theorem d_M_takes_232 : decode c_M_takes 232 = .ok (.laload, 1) := by decide +kernel
theorem d_M_takes_233 : decode c_M_takes 233 = .ok (.lconst 1, 1) := by decide +kernel
theorem d_M_takes_234 : decode c_M_takes 234 = .ok (.ladd, 1) := by decide +kernel
theorem d_M_takes_235 : decode c_M_takes 235 = .ok (.lstore 8, 2) := by decide +kernel
theorem d_M_takes_237 : decode c_M_takes 237 = .ok (.lload 8, 2) := by decide +kernel
theorem d_M_takes_239 : decode c_M_takes 239 = .ok (.ldc2_w 94, 3) := by decide +kernel
theorem d_M_takes_242 : decode c_M_takes 242 = .ok (.lrem, 1) := by decide +kernel
theorem d_M_takes_243 : decode c_M_takes 243 = .ok (.lconst 0, 1) := by decide +kernel
theorem d_M_takes_244 : decode c_M_takes 244 = .ok (.lcmp, 1) := by decide +kernel
theorem d_M_takes_245 : decode c_M_takes 245 = .ok (.ifCond .ne 7, 3) := by decide +kernel
theorem d_M_takes_248 : decode c_M_takes 248 = .ok (.iconst 1, 1) := by decide +kernel
theorem d_M_takes_249 : decode c_M_takes 249 = .ok (.goto 4, 3) := by decide +kernel
theorem d_M_takes_252 : decode c_M_takes 252 = .ok (.iconst 0, 1) := by decide +kernel
theorem d_M_takes_253 : decode c_M_takes 253 = .ok (.istore 10, 2) := by decide +kernel
theorem d_M_takes_255 : decode c_M_takes 255 = .ok (.iconst 0, 1) := by decide +kernel
theorem d_M_takes_256 : decode c_M_takes 256 = .ok (.istore 11, 2) := by decide +kernel
theorem d_M_takes_258 : decode c_M_takes 258 = .ok (.iload 11, 2) := by decide +kernel
theorem d_M_takes_260 : decode c_M_takes 260 = .ok (.aload_n 0, 1) := by decide +kernel
theorem d_M_takes_261 : decode c_M_takes 261 = .ok (.getfield 63, 3) := by decide +kernel
theorem d_M_takes_264 : decode c_M_takes 264 = .ok (.if_icmp .ge 39, 3) := by decide +kernel
theorem d_M_takes_267 : decode c_M_takes 267 = .ok (.iload 10, 2) := by decide +kernel
theorem d_M_takes_269 : decode c_M_takes 269 = .ok (.ifCond .eq 34, 3) := by decide +kernel
theorem d_M_takes_272 : decode c_M_takes 272 = .ok (.aload_n 0, 1) := by decide +kernel
theorem d_M_takes_273 : decode c_M_takes 273 = .ok (.getfield 16, 3) := by decide +kernel
theorem d_M_takes_276 : decode c_M_takes 276 = .ok (.iload 11, 2) := by decide +kernel
theorem d_M_takes_278 : decode c_M_takes 278 = .ok (.iaload, 1) := by decide +kernel
theorem d_M_takes_279 : decode c_M_takes 279 = .ok (.iload_n 1, 1) := by decide +kernel
theorem d_M_takes_280 : decode c_M_takes 280 = .ok (.if_icmp .ne 17, 3) := by decide +kernel
theorem d_M_takes_283 : decode c_M_takes 283 = .ok (.aload_n 0, 1) := by decide +kernel
theorem d_M_takes_284 : decode c_M_takes 284 = .ok (.getfield 19, 3) := by decide +kernel
theorem d_M_takes_287 : decode c_M_takes 287 = .ok (.iload 11, 2) := by decide +kernel
theorem d_M_takes_289 : decode c_M_takes 289 = .ok (.iaload, 1) := by decide +kernel
theorem d_M_takes_290 : decode c_M_takes 290 = .ok (.iload_n 2, 1) := by decide +kernel
theorem d_M_takes_291 : decode c_M_takes 291 = .ok (.if_icmp .ne 6, 3) := by decide +kernel
theorem d_M_takes_294 : decode c_M_takes 294 = .ok (.iconst 0, 1) := by decide +kernel
theorem d_M_takes_295 : decode c_M_takes 295 = .ok (.istore 10, 2) := by decide +kernel
theorem d_M_takes_297 : decode c_M_takes 297 = .ok (.iinc 11 1, 3) := by decide +kernel
theorem d_M_takes_300 : decode c_M_takes 300 = .ok (.goto (-42), 3) := by decide +kernel
theorem d_M_takes_303 : decode c_M_takes 303 = .ok (.iload 10, 2) := by decide +kernel
theorem d_M_takes_305 : decode c_M_takes 305 = .ok (.ifCond .eq 15, 3) := by decide +kernel
theorem d_M_takes_308 : decode c_M_takes 308 = .ok (.aload_n 0, 1) := by decide +kernel
theorem d_M_takes_309 : decode c_M_takes 309 = .ok (.getfield 63, 3) := by decide +kernel
theorem d_M_takes_312 : decode c_M_takes 312 = .ok (.sipush 500, 3) := by decide +kernel
theorem d_M_takes_315 : decode c_M_takes 315 = .ok (.if_icmp .ne 5, 3) := by decide +kernel
theorem d_M_takes_318 : decode c_M_takes 318 = .ok (.iconst 0, 1) := by decide +kernel
theorem d_M_takes_319 : decode c_M_takes 319 = .ok (.ireturn, 1) := by decide +kernel
theorem d_M_takes_320 : decode c_M_takes 320 = .ok (.aload_n 0, 1) := by decide +kernel
theorem d_M_takes_321 : decode c_M_takes 321 = .ok (.getfield 26, 3) := by decide +kernel
theorem d_M_takes_324 : decode c_M_takes 324 = .ok (.iload 5, 2) := by decide +kernel
theorem d_M_takes_326 : decode c_M_takes 326 = .ok (.lload 8, 2) := by decide +kernel
theorem d_M_takes_328 : decode c_M_takes 328 = .ok (.lastore, 1) := by decide +kernel
theorem d_M_takes_329 : decode c_M_takes 329 = .ok (.iload 10, 2) := by decide +kernel
theorem d_M_takes_331 : decode c_M_takes 331 = .ok (.ifCond .eq 20, 3) := by decide +kernel
theorem d_M_takes_334 : decode c_M_takes 334 = .ok (.aload_n 0, 1) := by decide +kernel
theorem d_M_takes_335 : decode c_M_takes 335 = .ok (.lload 6, 2) := by decide +kernel
theorem d_M_takes_337 : decode c_M_takes 337 = .ok (.l2i, 1) := by decide +kernel
theorem d_M_takes_338 : decode c_M_takes 338 = .ok (.bipush 15, 2) := by decide +kernel
theorem d_M_takes_340 : decode c_M_takes 340 = .ok (.iand, 1) := by decide +kernel
theorem d_M_takes_341 : decode c_M_takes 341 = .ok (.bipush 7, 2) := by decide +kernel
theorem d_M_takes_343 : decode c_M_takes 343 = .ok (.lload 8, 2) := by decide +kernel
theorem d_M_takes_345 : decode c_M_takes 345 = .ok (.iload_n 1, 1) := by decide +kernel
theorem d_M_takes_346 : decode c_M_takes 346 = .ok (.iload_n 2, 1) := by decide +kernel
theorem d_M_takes_347 : decode c_M_takes 347 = .ok (.invokevirtual 78, 3) := by decide +kernel
theorem d_M_takes_350 : decode c_M_takes 350 = .ok (.pop, 1) := by decide +kernel
theorem d_M_takes_351 : decode c_M_takes 351 = .ok (.iconst 1, 1) := by decide +kernel
theorem d_M_takes_352 : decode c_M_takes 352 = .ok (.ireturn, 1) := by decide +kernel
abbrev c_M_save : ByteArray := prog_6_method_13_code
def y_M_save : MethodName := ⟨"EventKeeperModel", "save", "(I)I"⟩
theorem d_M_save_0 : decode c_M_save 0 = .ok (.aload_n 0, 1) := by decide +kernel
theorem d_M_save_1 : decode c_M_save 1 = .ok (.iconst 0, 1) := by decide +kernel
theorem d_M_save_2 : decode c_M_save 2 = .ok (.putfield 59, 3) := by decide +kernel
theorem d_M_save_5 : decode c_M_save 5 = .ok (.aload_n 0, 1) := by decide +kernel
theorem d_M_save_6 : decode c_M_save 6 = .ok (.iload_n 1, 1) := by decide +kernel
theorem d_M_save_7 : decode c_M_save 7 = .ok (.invokestatic 82, 3) := by decide +kernel
theorem d_M_save_10 : decode c_M_save 10 = .ok (.ifCond .ne 7, 3) := by decide +kernel
theorem d_M_save_13 : decode c_M_save 13 = .ok (.iconst 1, 1) := by decide +kernel
theorem d_M_save_14 : decode c_M_save 14 = .ok (.goto 4, 3) := by decide +kernel
theorem d_M_save_17 : decode c_M_save 17 = .ok (.iconst 0, 1) := by decide +kernel
theorem d_M_save_18 : decode c_M_save 18 = .ok (.iconst 1, 1) := by decide +kernel
theorem d_M_save_19 : decode c_M_save 19 = .ok (.invokevirtual 70, 3) := by decide +kernel
theorem d_M_save_22 : decode c_M_save 22 = .ok (.ifCond .eq 5, 3) := by decide +kernel
theorem d_M_save_25 : decode c_M_save 25 = .ok (.iconst 0, 1) := by decide +kernel
theorem d_M_save_26 : decode c_M_save 26 = .ok (.ireturn, 1) := by decide +kernel
theorem d_M_save_27 : decode c_M_save 27 = .ok (.iconst 0, 1) := by decide +kernel
theorem d_M_save_28 : decode c_M_save 28 = .ok (.istore_n 2, 1) := by decide +kernel
theorem d_M_save_29 : decode c_M_save 29 = .ok (.iload_n 2, 1) := by decide +kernel
theorem d_M_save_30 : decode c_M_save 30 = .ok (.bipush 16, 2) := by decide +kernel
theorem d_M_save_32 : decode c_M_save 32 = .ok (.if_icmp .ge 31, 3) := by decide +kernel
theorem d_M_save_35 : decode c_M_save 35 = .ok (.aload_n 0, 1) := by decide +kernel
theorem d_M_save_36 : decode c_M_save 36 = .ok (.getfield 29, 3) := by decide +kernel
theorem d_M_save_39 : decode c_M_save 39 = .ok (.bipush 16, 2) := by decide +kernel
theorem d_M_save_41 : decode c_M_save 41 = .ok (.iload_n 1, 1) := by decide +kernel
theorem d_M_save_42 : decode c_M_save 42 = .ok (.imul, 1) := by decide +kernel
theorem d_M_save_43 : decode c_M_save 43 = .ok (.iload_n 2, 1) := by decide +kernel
theorem d_M_save_44 : decode c_M_save 44 = .ok (.iadd, 1) := by decide +kernel
theorem d_M_save_45 : decode c_M_save 45 = .ok (.aload_n 0, 1) := by decide +kernel
theorem d_M_save_46 : decode c_M_save 46 = .ok (.getfield 26, 3) := by decide +kernel
theorem d_M_save_49 : decode c_M_save 49 = .ok (.bipush 16, 2) := by decide +kernel
theorem d_M_save_51 : decode c_M_save 51 = .ok (.iload_n 1, 1) := by decide +kernel
theorem d_M_save_52 : decode c_M_save 52 = .ok (.imul, 1) := by decide +kernel
theorem d_M_save_53 : decode c_M_save 53 = .ok (.iload_n 2, 1) := by decide +kernel
theorem d_M_save_54 : decode c_M_save 54 = .ok (.iadd, 1) := by decide +kernel
theorem d_M_save_55 : decode c_M_save 55 = .ok (.laload, 1) := by decide +kernel
theorem d_M_save_56 : decode c_M_save 56 = .ok (.lastore, 1) := by decide +kernel
theorem d_M_save_57 : decode c_M_save 57 = .ok (.iinc 2 1, 3) := by decide +kernel
theorem d_M_save_60 : decode c_M_save 60 = .ok (.goto (-31), 3) := by decide +kernel
theorem d_M_save_63 : decode c_M_save 63 = .ok (.aload_n 0, 1) := by decide +kernel
theorem d_M_save_64 : decode c_M_save 64 = .ok (.getfield 41, 3) := by decide +kernel
theorem d_M_save_67 : decode c_M_save 67 = .ok (.iload_n 1, 1) := by decide +kernel
theorem d_M_save_68 : decode c_M_save 68 = .ok (.aload_n 0, 1) := by decide +kernel
theorem d_M_save_69 : decode c_M_save 69 = .ok (.getfield 38, 3) := by decide +kernel
theorem d_M_save_72 : decode c_M_save 72 = .ok (.iload_n 1, 1) := by decide +kernel
theorem d_M_save_73 : decode c_M_save 73 = .ok (.iaload, 1) := by decide +kernel
theorem d_M_save_74 : decode c_M_save 74 = .ok (.iastore, 1) := by decide +kernel
theorem d_M_save_75 : decode c_M_save 75 = .ok (.aload_n 0, 1) := by decide +kernel
theorem d_M_save_76 : decode c_M_save 76 = .ok (.getfield 44, 3) := by decide +kernel
theorem d_M_save_79 : decode c_M_save 79 = .ok (.iload_n 1, 1) := by decide +kernel
theorem d_M_save_80 : decode c_M_save 80 = .ok (.aload_n 0, 1) := by decide +kernel
theorem d_M_save_81 : decode c_M_save 81 = .ok (.getfield 63, 3) := by decide +kernel
theorem d_M_save_84 : decode c_M_save 84 = .ok (.iastore, 1) := by decide +kernel
theorem d_M_save_85 : decode c_M_save 85 = .ok (.aload_n 0, 1) := by decide +kernel
theorem d_M_save_86 : decode c_M_save 86 = .ok (.getfield 38, 3) := by decide +kernel
theorem d_M_save_89 : decode c_M_save 89 = .ok (.iload_n 1, 1) := by decide +kernel
theorem d_M_save_90 : decode c_M_save 90 = .ok (.iaload, 1) := by decide +kernel
theorem d_M_save_91 : decode c_M_save 91 = .ok (.ireturn, 1) := by decide +kernel
abbrev c_M_cell : ByteArray := prog_6_method_14_code
def y_M_cell : MethodName := ⟨"EventKeeperModel", "cell", "(II)J"⟩
theorem d_M_cell_0 : decode c_M_cell 0 = .ok (.aload_n 0, 1) := by decide +kernel
theorem d_M_cell_1 : decode c_M_cell 1 = .ok (.iconst 0, 1) := by decide +kernel
theorem d_M_cell_2 : decode c_M_cell 2 = .ok (.putfield 59, 3) := by decide +kernel
theorem d_M_cell_5 : decode c_M_cell 5 = .ok (.aload_n 0, 1) := by decide +kernel
theorem d_M_cell_6 : decode c_M_cell 6 = .ok (.iload_n 1, 1) := by decide +kernel
theorem d_M_cell_7 : decode c_M_cell 7 = .ok (.invokestatic 82, 3) := by decide +kernel
theorem d_M_cell_10 : decode c_M_cell 10 = .ok (.ifCond .ne 7, 3) := by decide +kernel
theorem d_M_cell_13 : decode c_M_cell 13 = .ok (.iconst 1, 1) := by decide +kernel
theorem d_M_cell_14 : decode c_M_cell 14 = .ok (.goto 4, 3) := by decide +kernel
theorem d_M_cell_17 : decode c_M_cell 17 = .ok (.iconst 0, 1) := by decide +kernel
theorem d_M_cell_18 : decode c_M_cell 18 = .ok (.iconst 1, 1) := by decide +kernel
theorem d_M_cell_19 : decode c_M_cell 19 = .ok (.invokevirtual 70, 3) := by decide +kernel
theorem d_M_cell_22 : decode c_M_cell 22 = .ok (.ifCond .ne 26, 3) := by decide +kernel
theorem d_M_cell_25 : decode c_M_cell 25 = .ok (.aload_n 0, 1) := by decide +kernel
theorem d_M_cell_26 : decode c_M_cell 26 = .ok (.iload_n 2, 1) := by decide +kernel
theorem d_M_cell_27 : decode c_M_cell 27 = .ok (.iconst 0, 1) := by decide +kernel
theorem d_M_cell_28 : decode c_M_cell 28 = .ok (.bipush 15, 2) := by decide +kernel
theorem d_M_cell_30 : decode c_M_cell 30 = .ok (.invokestatic 66, 3) := by decide +kernel
theorem d_M_cell_33 : decode c_M_cell 33 = .ok (.ifCond .ne 7, 3) := by decide +kernel
theorem d_M_cell_36 : decode c_M_cell 36 = .ok (.iconst 1, 1) := by decide +kernel
theorem d_M_cell_37 : decode c_M_cell 37 = .ok (.goto 4, 3) := by decide +kernel
theorem d_M_cell_40 : decode c_M_cell 40 = .ok (.iconst 0, 1) := by decide +kernel
theorem d_M_cell_41 : decode c_M_cell 41 = .ok (.iconst 2, 1) := by decide +kernel
theorem d_M_cell_42 : decode c_M_cell 42 = .ok (.invokevirtual 70, 3) := by decide +kernel
theorem d_M_cell_45 : decode c_M_cell 45 = .ok (.ifCond .eq 7, 3) := by decide +kernel
theorem d_M_cell_48 : decode c_M_cell 48 = .ok (.lconst 0, 1) := by decide +kernel
theorem d_M_cell_49 : decode c_M_cell 49 = .ok (.goto 14, 3) := by decide +kernel
theorem d_M_cell_52 : decode c_M_cell 52 = .ok (.aload_n 0, 1) := by decide +kernel
theorem d_M_cell_53 : decode c_M_cell 53 = .ok (.getfield 26, 3) := by decide +kernel
theorem d_M_cell_56 : decode c_M_cell 56 = .ok (.bipush 16, 2) := by decide +kernel
theorem d_M_cell_58 : decode c_M_cell 58 = .ok (.iload_n 1, 1) := by decide +kernel
theorem d_M_cell_59 : decode c_M_cell 59 = .ok (.imul, 1) := by decide +kernel
theorem d_M_cell_60 : decode c_M_cell 60 = .ok (.iload_n 2, 1) := by decide +kernel
theorem d_M_cell_61 : decode c_M_cell 61 = .ok (.iadd, 1) := by decide +kernel
theorem d_M_cell_62 : decode c_M_cell 62 = .ok (.laload, 1) := by decide +kernel
theorem d_M_cell_63 : decode c_M_cell 63 = .ok (.lreturn, 1) := by decide +kernel
abbrev c_M_isSubscription : ByteArray := prog_6_method_15_code
def y_M_isSubscription : MethodName := ⟨"EventKeeperModel", "isSubscription", "(I)Z"⟩
theorem d_M_isSubscription_0 : decode c_M_isSubscription 0 = .ok (.iload_n 0, 1) := by decide +kernel
theorem d_M_isSubscription_1 : decode c_M_isSubscription 1 = .ok (.iconst 0, 1) := by decide +kernel
theorem d_M_isSubscription_2 : decode c_M_isSubscription 2 = .ok (.bipush 7, 2) := by decide +kernel
theorem d_M_isSubscription_4 : decode c_M_isSubscription 4 = .ok (.invokestatic 66, 3) := by decide +kernel
theorem d_M_isSubscription_7 : decode c_M_isSubscription 7 = .ok (.ireturn, 1) := by decide +kernel
abbrev c_M_filter : ByteArray := prog_6_method_16_code
def y_M_filter : MethodName := ⟨"EventKeeperModel", "filter", "(III)V"⟩
theorem d_M_filter_0 : decode c_M_filter 0 = .ok (.aload_n 0, 1) := by decide +kernel
theorem d_M_filter_1 : decode c_M_filter 1 = .ok (.iconst 0, 1) := by decide +kernel
theorem d_M_filter_2 : decode c_M_filter 2 = .ok (.putfield 59, 3) := by decide +kernel
theorem d_M_filter_5 : decode c_M_filter 5 = .ok (.aload_n 0, 1) := by decide +kernel
theorem d_M_filter_6 : decode c_M_filter 6 = .ok (.iload_n 1, 1) := by decide +kernel
theorem d_M_filter_7 : decode c_M_filter 7 = .ok (.invokestatic 96, 3) := by decide +kernel
theorem d_M_filter_10 : decode c_M_filter 10 = .ok (.ifCond .eq 24, 3) := by decide +kernel
theorem d_M_filter_13 : decode c_M_filter 13 = .ok (.iload_n 2, 1) := by decide +kernel
theorem d_M_filter_14 : decode c_M_filter 14 = .ok (.iconst (-1), 1) := by decide +kernel
theorem d_M_filter_15 : decode c_M_filter 15 = .ok (.bipush 15, 2) := by decide +kernel
theorem d_M_filter_17 : decode c_M_filter 17 = .ok (.invokestatic 66, 3) := by decide +kernel
theorem d_M_filter_20 : decode c_M_filter 20 = .ok (.ifCond .eq 14, 3) := by decide +kernel
theorem d_M_filter_23 : decode c_M_filter 23 = .ok (.iload_n 3, 1) := by decide +kernel
theorem d_M_filter_24 : decode c_M_filter 24 = .ok (.iconst 0, 1) := by decide +kernel
theorem d_M_filter_25 : decode c_M_filter 25 = .ok (.sipush 255, 3) := by decide +kernel
theorem d_M_filter_28 : decode c_M_filter 28 = .ok (.invokestatic 66, 3) := by decide +kernel
theorem d_M_filter_31 : decode c_M_filter 31 = .ok (.ifCond .ne 7, 3) := by decide +kernel
theorem d_M_filter_34 : decode c_M_filter 34 = .ok (.iconst 1, 1) := by decide +kernel
theorem d_M_filter_35 : decode c_M_filter 35 = .ok (.goto 4, 3) := by decide +kernel
theorem d_M_filter_38 : decode c_M_filter 38 = .ok (.iconst 0, 1) := by decide +kernel
theorem d_M_filter_39 : decode c_M_filter 39 = .ok (.iconst 1, 1) := by decide +kernel
theorem d_M_filter_40 : decode c_M_filter 40 = .ok (.invokevirtual 70, 3) := by decide +kernel
theorem d_M_filter_43 : decode c_M_filter 43 = .ok (.ifCond .eq 4, 3) := by decide +kernel
theorem d_M_filter_46 : decode c_M_filter 46 = .ok (.return_, 1) := by decide +kernel
theorem d_M_filter_47 : decode c_M_filter 47 = .ok (.aload_n 0, 1) := by decide +kernel
theorem d_M_filter_48 : decode c_M_filter 48 = .ok (.getfield 47, 3) := by decide +kernel
theorem d_M_filter_51 : decode c_M_filter 51 = .ok (.iload_n 1, 1) := by decide +kernel
theorem d_M_filter_52 : decode c_M_filter 52 = .ok (.iload_n 2, 1) := by decide +kernel
theorem d_M_filter_53 : decode c_M_filter 53 = .ok (.iastore, 1) := by decide +kernel
theorem d_M_filter_54 : decode c_M_filter 54 = .ok (.aload_n 0, 1) := by decide +kernel
theorem d_M_filter_55 : decode c_M_filter 55 = .ok (.getfield 50, 3) := by decide +kernel
theorem d_M_filter_58 : decode c_M_filter 58 = .ok (.iload_n 1, 1) := by decide +kernel
theorem d_M_filter_59 : decode c_M_filter 59 = .ok (.iload_n 3, 1) := by decide +kernel
theorem d_M_filter_60 : decode c_M_filter 60 = .ok (.iastore, 1) := by decide +kernel
theorem d_M_filter_61 : decode c_M_filter 61 = .ok (.aload_n 0, 1) := by decide +kernel
theorem d_M_filter_62 : decode c_M_filter 62 = .ok (.getfield 53, 3) := by decide +kernel
theorem d_M_filter_65 : decode c_M_filter 65 = .ok (.iload_n 1, 1) := by decide +kernel
theorem d_M_filter_66 : decode c_M_filter 66 = .ok (.iconst 0, 1) := by decide +kernel
theorem d_M_filter_67 : decode c_M_filter 67 = .ok (.iastore, 1) := by decide +kernel
theorem d_M_filter_68 : decode c_M_filter 68 = .ok (.aload_n 0, 1) := by decide +kernel
theorem d_M_filter_69 : decode c_M_filter 69 = .ok (.getfield 56, 3) := by decide +kernel
theorem d_M_filter_72 : decode c_M_filter 72 = .ok (.iload_n 1, 1) := by decide +kernel
theorem d_M_filter_73 : decode c_M_filter 73 = .ok (.iconst 0, 1) := by decide +kernel
theorem d_M_filter_74 : decode c_M_filter 74 = .ok (.iastore, 1) := by decide +kernel
theorem d_M_filter_75 : decode c_M_filter 75 = .ok (.return_, 1) := by decide +kernel
abbrev c_M_next : ByteArray := prog_6_method_17_code
def y_M_next : MethodName := ⟨"EventKeeperModel", "next", "(I)I"⟩
theorem d_M_next_0 : decode c_M_next 0 = .ok (.aload_n 0, 1) := by decide +kernel
theorem d_M_next_1 : decode c_M_next 1 = .ok (.iconst 0, 1) := by decide +kernel
theorem d_M_next_2 : decode c_M_next 2 = .ok (.putfield 59, 3) := by decide +kernel
theorem d_M_next_5 : decode c_M_next 5 = .ok (.aload_n 0, 1) := by decide +kernel
theorem d_M_next_6 : decode c_M_next 6 = .ok (.iload_n 1, 1) := by decide +kernel
theorem d_M_next_7 : decode c_M_next 7 = .ok (.invokestatic 96, 3) := by decide +kernel
theorem d_M_next_10 : decode c_M_next 10 = .ok (.ifCond .ne 7, 3) := by decide +kernel
theorem d_M_next_13 : decode c_M_next 13 = .ok (.iconst 1, 1) := by decide +kernel
theorem d_M_next_14 : decode c_M_next 14 = .ok (.goto 4, 3) := by decide +kernel
theorem d_M_next_17 : decode c_M_next 17 = .ok (.iconst 0, 1) := by decide +kernel
theorem d_M_next_18 : decode c_M_next 18 = .ok (.iconst 1, 1) := by decide +kernel
theorem d_M_next_19 : decode c_M_next 19 = .ok (.invokevirtual 70, 3) := by decide +kernel
theorem d_M_next_22 : decode c_M_next 22 = .ok (.ifCond .eq 5, 3) := by decide +kernel
theorem d_M_next_25 : decode c_M_next 25 = .ok (.iconst 0, 1) := by decide +kernel
theorem d_M_next_26 : decode c_M_next 26 = .ok (.ireturn, 1) := by decide +kernel
theorem d_M_next_27 : decode c_M_next 27 = .ok (.aload_n 0, 1) := by decide +kernel
theorem d_M_next_28 : decode c_M_next 28 = .ok (.getfield 53, 3) := by decide +kernel
theorem d_M_next_31 : decode c_M_next 31 = .ok (.iload_n 1, 1) := by decide +kernel
theorem d_M_next_32 : decode c_M_next 32 = .ok (.iaload, 1) := by decide +kernel
theorem d_M_next_33 : decode c_M_next 33 = .ok (.istore_n 2, 1) := by decide +kernel
theorem d_M_next_34 : decode c_M_next 34 = .ok (.iload_n 2, 1) := by decide +kernel
theorem d_M_next_35 : decode c_M_next 35 = .ok (.aload_n 0, 1) := by decide +kernel
theorem d_M_next_36 : decode c_M_next 36 = .ok (.getfield 63, 3) := by decide +kernel
theorem d_M_next_39 : decode c_M_next 39 = .ok (.if_icmp .ge 53, 3) := by decide +kernel
theorem d_M_next_42 : decode c_M_next 42 = .ok (.aload_n 0, 1) := by decide +kernel
theorem d_M_next_43 : decode c_M_next 43 = .ok (.getfield 47, 3) := by decide +kernel
theorem d_M_next_46 : decode c_M_next 46 = .ok (.iload_n 1, 1) := by decide +kernel
theorem d_M_next_47 : decode c_M_next 47 = .ok (.iaload, 1) := by decide +kernel
theorem d_M_next_48 : decode c_M_next 48 = .ok (.ifCond .lt 18, 3) := by decide +kernel
theorem d_M_next_51 : decode c_M_next 51 = .ok (.aload_n 0, 1) := by decide +kernel
theorem d_M_next_52 : decode c_M_next 52 = .ok (.getfield 47, 3) := by decide +kernel
theorem d_M_next_55 : decode c_M_next 55 = .ok (.iload_n 1, 1) := by decide +kernel
theorem d_M_next_56 : decode c_M_next 56 = .ok (.iaload, 1) := by decide +kernel
theorem d_M_next_57 : decode c_M_next 57 = .ok (.aload_n 0, 1) := by decide +kernel
theorem d_M_next_58 : decode c_M_next 58 = .ok (.getfield 9, 3) := by decide +kernel
theorem d_M_next_61 : decode c_M_next 61 = .ok (.iload_n 2, 1) := by decide +kernel
theorem d_M_next_62 : decode c_M_next 62 = .ok (.iaload, 1) := by decide +kernel
theorem d_M_next_63 : decode c_M_next 63 = .ok (.if_icmp .ne 23, 3) := by decide +kernel
theorem d_M_next_66 : decode c_M_next 66 = .ok (.aload_n 0, 1) := by decide +kernel
theorem d_M_next_67 : decode c_M_next 67 = .ok (.getfield 50, 3) := by decide +kernel
theorem d_M_next_70 : decode c_M_next 70 = .ok (.iload_n 1, 1) := by decide +kernel
theorem d_M_next_71 : decode c_M_next 71 = .ok (.iaload, 1) := by decide +kernel
theorem d_M_next_72 : decode c_M_next 72 = .ok (.aload_n 0, 1) := by decide +kernel
theorem d_M_next_73 : decode c_M_next 73 = .ok (.getfield 13, 3) := by decide +kernel
theorem d_M_next_76 : decode c_M_next 76 = .ok (.iload_n 2, 1) := by decide +kernel
theorem d_M_next_77 : decode c_M_next 77 = .ok (.iaload, 1) := by decide +kernel
theorem d_M_next_78 : decode c_M_next 78 = .ok (.ishr, 1) := by decide +kernel
theorem d_M_next_79 : decode c_M_next 79 = .ok (.iconst 1, 1) := by decide +kernel
theorem d_M_next_80 : decode c_M_next 80 = .ok (.iand, 1) := by decide +kernel
theorem d_M_next_81 : decode c_M_next 81 = .ok (.ifCond .eq 5, 3) := by decide +kernel
theorem d_M_next_84 : decode c_M_next 84 = .ok (.iload_n 2, 1) := by decide +kernel
theorem d_M_next_85 : decode c_M_next 85 = .ok (.ireturn, 1) := by decide +kernel
theorem d_M_next_86 : decode c_M_next 86 = .ok (.iinc 2 1, 3) := by decide +kernel
theorem d_M_next_89 : decode c_M_next 89 = .ok (.goto (-55), 3) := by decide +kernel
theorem d_M_next_92 : decode c_M_next 92 = .ok (.iconst (-1), 1) := by decide +kernel
theorem d_M_next_93 : decode c_M_next 93 = .ok (.ireturn, 1) := by decide +kernel
abbrev c_M_acknowledge : ByteArray := prog_6_method_18_code
def y_M_acknowledge : MethodName := ⟨"EventKeeperModel", "acknowledge", "(II)I"⟩
theorem d_M_acknowledge_0 : decode c_M_acknowledge 0 = .ok (.aload_n 0, 1) := by decide +kernel
theorem d_M_acknowledge_1 : decode c_M_acknowledge 1 = .ok (.iconst 0, 1) := by decide +kernel
theorem d_M_acknowledge_2 : decode c_M_acknowledge 2 = .ok (.putfield 59, 3) := by decide +kernel
theorem d_M_acknowledge_5 : decode c_M_acknowledge 5 = .ok (.aload_n 0, 1) := by decide +kernel
theorem d_M_acknowledge_6 : decode c_M_acknowledge 6 = .ok (.iload_n 1, 1) := by decide +kernel
theorem d_M_acknowledge_7 : decode c_M_acknowledge 7 = .ok (.invokestatic 96, 3) := by decide +kernel
theorem d_M_acknowledge_10 : decode c_M_acknowledge 10 = .ok (.ifCond .ne 7, 3) := by decide +kernel
theorem d_M_acknowledge_13 : decode c_M_acknowledge 13 = .ok (.iconst 1, 1) := by decide +kernel
theorem d_M_acknowledge_14 : decode c_M_acknowledge 14 = .ok (.goto 4, 3) := by decide +kernel
theorem d_M_acknowledge_17 : decode c_M_acknowledge 17 = .ok (.iconst 0, 1) := by decide +kernel
theorem d_M_acknowledge_18 : decode c_M_acknowledge 18 = .ok (.iconst 1, 1) := by decide +kernel
theorem d_M_acknowledge_19 : decode c_M_acknowledge 19 = .ok (.invokevirtual 70, 3) := by decide +kernel
theorem d_M_acknowledge_22 : decode c_M_acknowledge 22 = .ok (.ifCond .ne 30, 3) := by decide +kernel
theorem d_M_acknowledge_25 : decode c_M_acknowledge 25 = .ok (.aload_n 0, 1) := by decide +kernel
theorem d_M_acknowledge_26 : decode c_M_acknowledge 26 = .ok (.iload_n 2, 1) := by decide +kernel
theorem d_M_acknowledge_27 : decode c_M_acknowledge 27 = .ok (.iconst 0, 1) := by decide +kernel
theorem d_M_acknowledge_28 : decode c_M_acknowledge 28 = .ok (.aload_n 0, 1) := by decide +kernel
theorem d_M_acknowledge_29 : decode c_M_acknowledge 29 = .ok (.getfield 63, 3) := by decide +kernel
theorem d_M_acknowledge_32 : decode c_M_acknowledge 32 = .ok (.iconst 1, 1) := by decide +kernel
theorem d_M_acknowledge_33 : decode c_M_acknowledge 33 = .ok (.isub, 1) := by decide +kernel
theorem d_M_acknowledge_34 : decode c_M_acknowledge 34 = .ok (.invokestatic 66, 3) := by decide +kernel
theorem d_M_acknowledge_37 : decode c_M_acknowledge 37 = .ok (.ifCond .ne 7, 3) := by decide +kernel
theorem d_M_acknowledge_40 : decode c_M_acknowledge 40 = .ok (.iconst 1, 1) := by decide +kernel
theorem d_M_acknowledge_41 : decode c_M_acknowledge 41 = .ok (.goto 4, 3) := by decide +kernel
theorem d_M_acknowledge_44 : decode c_M_acknowledge 44 = .ok (.iconst 0, 1) := by decide +kernel
theorem d_M_acknowledge_45 : decode c_M_acknowledge 45 = .ok (.iconst 2, 1) := by decide +kernel
theorem d_M_acknowledge_46 : decode c_M_acknowledge 46 = .ok (.invokevirtual 70, 3) := by decide +kernel
theorem d_M_acknowledge_49 : decode c_M_acknowledge 49 = .ok (.ifCond .eq 5, 3) := by decide +kernel
theorem d_M_acknowledge_52 : decode c_M_acknowledge 52 = .ok (.iconst 0, 1) := by decide +kernel
theorem d_M_acknowledge_53 : decode c_M_acknowledge 53 = .ok (.ireturn, 1) := by decide +kernel
theorem d_M_acknowledge_54 : decode c_M_acknowledge 54 = .ok (.iload_n 2, 1) := by decide +kernel
theorem d_M_acknowledge_55 : decode c_M_acknowledge 55 = .ok (.iconst 1, 1) := by decide +kernel
theorem d_M_acknowledge_56 : decode c_M_acknowledge 56 = .ok (.iadd, 1) := by decide +kernel
theorem d_M_acknowledge_57 : decode c_M_acknowledge 57 = .ok (.aload_n 0, 1) := by decide +kernel
theorem d_M_acknowledge_58 : decode c_M_acknowledge 58 = .ok (.getfield 53, 3) := by decide +kernel
theorem d_M_acknowledge_61 : decode c_M_acknowledge 61 = .ok (.iload_n 1, 1) := by decide +kernel
theorem d_M_acknowledge_62 : decode c_M_acknowledge 62 = .ok (.iaload, 1) := by decide +kernel
theorem d_M_acknowledge_63 : decode c_M_acknowledge 63 = .ok (.if_icmp .le 12, 3) := by decide +kernel
theorem d_M_acknowledge_66 : decode c_M_acknowledge 66 = .ok (.aload_n 0, 1) := by decide +kernel
theorem d_M_acknowledge_67 : decode c_M_acknowledge 67 = .ok (.getfield 53, 3) := by decide +kernel
theorem d_M_acknowledge_70 : decode c_M_acknowledge 70 = .ok (.iload_n 1, 1) := by decide +kernel
theorem d_M_acknowledge_71 : decode c_M_acknowledge 71 = .ok (.iload_n 2, 1) := by decide +kernel
theorem d_M_acknowledge_72 : decode c_M_acknowledge 72 = .ok (.iconst 1, 1) := by decide +kernel
theorem d_M_acknowledge_73 : decode c_M_acknowledge 73 = .ok (.iadd, 1) := by decide +kernel
theorem d_M_acknowledge_74 : decode c_M_acknowledge 74 = .ok (.iastore, 1) := by decide +kernel
theorem d_M_acknowledge_75 : decode c_M_acknowledge 75 = .ok (.aload_n 0, 1) := by decide +kernel
theorem d_M_acknowledge_76 : decode c_M_acknowledge 76 = .ok (.getfield 53, 3) := by decide +kernel
theorem d_M_acknowledge_79 : decode c_M_acknowledge 79 = .ok (.iload_n 1, 1) := by decide +kernel
theorem d_M_acknowledge_80 : decode c_M_acknowledge 80 = .ok (.iaload, 1) := by decide +kernel
theorem d_M_acknowledge_81 : decode c_M_acknowledge 81 = .ok (.ireturn, 1) := by decide +kernel
abbrev c_M_sync : ByteArray := prog_6_method_19_code
def y_M_sync : MethodName := ⟨"EventKeeperModel", "sync", "()I"⟩
theorem d_M_sync_0 : decode c_M_sync 0 = .ok (.aload_n 0, 1) := by decide +kernel
theorem d_M_sync_1 : decode c_M_sync 1 = .ok (.iconst 0, 1) := by decide +kernel
theorem d_M_sync_2 : decode c_M_sync 2 = .ok (.putfield 59, 3) := by decide +kernel
theorem d_M_sync_5 : decode c_M_sync 5 = .ok (.aload_n 0, 1) := by decide +kernel
theorem d_M_sync_6 : decode c_M_sync 6 = .ok (.aload_n 0, 1) := by decide +kernel
theorem d_M_sync_7 : decode c_M_sync 7 = .ok (.getfield 63, 3) := by decide +kernel
theorem d_M_sync_10 : decode c_M_sync 10 = .ok (.putfield 99, 3) := by decide +kernel
theorem d_M_sync_13 : decode c_M_sync 13 = .ok (.iconst 0, 1) := by decide +kernel
theorem d_M_sync_14 : decode c_M_sync 14 = .ok (.istore_n 1, 1) := by decide +kernel
theorem d_M_sync_15 : decode c_M_sync 15 = .ok (.iload_n 1, 1) := by decide +kernel
theorem d_M_sync_16 : decode c_M_sync 16 = .ok (.bipush 8, 2) := by decide +kernel
theorem d_M_sync_18 : decode c_M_sync 18 = .ok (.if_icmp .ge 21, 3) := by decide +kernel
theorem d_M_sync_21 : decode c_M_sync 21 = .ok (.aload_n 0, 1) := by decide +kernel
theorem d_M_sync_22 : decode c_M_sync 22 = .ok (.getfield 56, 3) := by decide +kernel
theorem d_M_sync_25 : decode c_M_sync 25 = .ok (.iload_n 1, 1) := by decide +kernel
theorem d_M_sync_26 : decode c_M_sync 26 = .ok (.aload_n 0, 1) := by decide +kernel
theorem d_M_sync_27 : decode c_M_sync 27 = .ok (.getfield 53, 3) := by decide +kernel
theorem d_M_sync_30 : decode c_M_sync 30 = .ok (.iload_n 1, 1) := by decide +kernel
theorem d_M_sync_31 : decode c_M_sync 31 = .ok (.iaload, 1) := by decide +kernel
theorem d_M_sync_32 : decode c_M_sync 32 = .ok (.iastore, 1) := by decide +kernel
theorem d_M_sync_33 : decode c_M_sync 33 = .ok (.iinc 1 1, 3) := by decide +kernel
theorem d_M_sync_36 : decode c_M_sync 36 = .ok (.goto (-21), 3) := by decide +kernel
theorem d_M_sync_39 : decode c_M_sync 39 = .ok (.aload_n 0, 1) := by decide +kernel
theorem d_M_sync_40 : decode c_M_sync 40 = .ok (.getfield 63, 3) := by decide +kernel
theorem d_M_sync_43 : decode c_M_sync 43 = .ok (.ireturn, 1) := by decide +kernel
abbrev c_M_crash : ByteArray := prog_6_method_20_code
def y_M_crash : MethodName := ⟨"EventKeeperModel", "crash", "()I"⟩
theorem d_M_crash_0 : decode c_M_crash 0 = .ok (.aload_n 0, 1) := by decide +kernel
theorem d_M_crash_1 : decode c_M_crash 1 = .ok (.iconst 0, 1) := by decide +kernel
theorem d_M_crash_2 : decode c_M_crash 2 = .ok (.putfield 59, 3) := by decide +kernel
theorem d_M_crash_5 : decode c_M_crash 5 = .ok (.aload_n 0, 1) := by decide +kernel
theorem d_M_crash_6 : decode c_M_crash 6 = .ok (.aload_n 0, 1) := by decide +kernel
theorem d_M_crash_7 : decode c_M_crash 7 = .ok (.getfield 99, 3) := by decide +kernel
theorem d_M_crash_10 : decode c_M_crash 10 = .ok (.putfield 63, 3) := by decide +kernel
theorem d_M_crash_13 : decode c_M_crash 13 = .ok (.iconst 0, 1) := by decide +kernel
theorem d_M_crash_14 : decode c_M_crash 14 = .ok (.istore_n 1, 1) := by decide +kernel
theorem d_M_crash_15 : decode c_M_crash 15 = .ok (.iload_n 1, 1) := by decide +kernel
theorem d_M_crash_16 : decode c_M_crash 16 = .ok (.bipush 8, 2) := by decide +kernel
theorem d_M_crash_18 : decode c_M_crash 18 = .ok (.if_icmp .ge 87, 3) := by decide +kernel
theorem d_M_crash_21 : decode c_M_crash 21 = .ok (.aload_n 0, 1) := by decide +kernel
theorem d_M_crash_22 : decode c_M_crash 22 = .ok (.getfield 41, 3) := by decide +kernel
theorem d_M_crash_25 : decode c_M_crash 25 = .ok (.iload_n 1, 1) := by decide +kernel
theorem d_M_crash_26 : decode c_M_crash 26 = .ok (.iaload, 1) := by decide +kernel
theorem d_M_crash_27 : decode c_M_crash 27 = .ok (.ifCond .lt 16, 3) := by decide +kernel
theorem d_M_crash_30 : decode c_M_crash 30 = .ok (.aload_n 0, 1) := by decide +kernel
theorem d_M_crash_31 : decode c_M_crash 31 = .ok (.getfield 44, 3) := by decide +kernel
theorem d_M_crash_34 : decode c_M_crash 34 = .ok (.iload_n 1, 1) := by decide +kernel
theorem d_M_crash_35 : decode c_M_crash 35 = .ok (.iaload, 1) := by decide +kernel
theorem d_M_crash_36 : decode c_M_crash 36 = .ok (.aload_n 0, 1) := by decide +kernel
theorem d_M_crash_37 : decode c_M_crash 37 = .ok (.getfield 63, 3) := by decide +kernel
theorem d_M_crash_40 : decode c_M_crash 40 = .ok (.if_icmp .le 11, 3) := by decide +kernel
theorem d_M_crash_43 : decode c_M_crash 43 = .ok (.aload_n 0, 1) := by decide +kernel
theorem d_M_crash_44 : decode c_M_crash 44 = .ok (.iload_n 1, 1) := by decide +kernel
theorem d_M_crash_45 : decode c_M_crash 45 = .ok (.invokevirtual 86, 3) := by decide +kernel
theorem d_M_crash_48 : decode c_M_crash 48 = .ok (.goto 51, 3) := by decide +kernel
theorem d_M_crash_51 : decode c_M_crash 51 = .ok (.iconst 0, 1) := by decide +kernel
theorem d_M_crash_52 : decode c_M_crash 52 = .ok (.istore_n 2, 1) := by decide +kernel
theorem d_M_crash_53 : decode c_M_crash 53 = .ok (.iload_n 2, 1) := by decide +kernel
theorem d_M_crash_54 : decode c_M_crash 54 = .ok (.bipush 16, 2) := by decide +kernel
theorem d_M_crash_56 : decode c_M_crash 56 = .ok (.if_icmp .ge 31, 3) := by decide +kernel
theorem d_M_crash_59 : decode c_M_crash 59 = .ok (.aload_n 0, 1) := by decide +kernel
theorem d_M_crash_60 : decode c_M_crash 60 = .ok (.getfield 26, 3) := by decide +kernel
theorem d_M_crash_63 : decode c_M_crash 63 = .ok (.bipush 16, 2) := by decide +kernel
theorem d_M_crash_65 : decode c_M_crash 65 = .ok (.iload_n 1, 1) := by decide +kernel
theorem d_M_crash_66 : decode c_M_crash 66 = .ok (.imul, 1) := by decide +kernel
theorem d_M_crash_67 : decode c_M_crash 67 = .ok (.iload_n 2, 1) := by decide +kernel
theorem d_M_crash_68 : decode c_M_crash 68 = .ok (.iadd, 1) := by decide +kernel
theorem d_M_crash_69 : decode c_M_crash 69 = .ok (.aload_n 0, 1) := by decide +kernel
theorem d_M_crash_70 : decode c_M_crash 70 = .ok (.getfield 29, 3) := by decide +kernel
theorem d_M_crash_73 : decode c_M_crash 73 = .ok (.bipush 16, 2) := by decide +kernel
theorem d_M_crash_75 : decode c_M_crash 75 = .ok (.iload_n 1, 1) := by decide +kernel
theorem d_M_crash_76 : decode c_M_crash 76 = .ok (.imul, 1) := by decide +kernel
theorem d_M_crash_77 : decode c_M_crash 77 = .ok (.iload_n 2, 1) := by decide +kernel
theorem d_M_crash_78 : decode c_M_crash 78 = .ok (.iadd, 1) := by decide +kernel
theorem d_M_crash_79 : decode c_M_crash 79 = .ok (.laload, 1) := by decide +kernel
theorem d_M_crash_80 : decode c_M_crash 80 = .ok (.lastore, 1) := by decide +kernel
theorem d_M_crash_81 : decode c_M_crash 81 = .ok (.iinc 2 1, 3) := by decide +kernel
theorem d_M_crash_84 : decode c_M_crash 84 = .ok (.goto (-31), 3) := by decide +kernel
theorem d_M_crash_87 : decode c_M_crash 87 = .ok (.aload_n 0, 1) := by decide +kernel
theorem d_M_crash_88 : decode c_M_crash 88 = .ok (.getfield 38, 3) := by decide +kernel
theorem d_M_crash_91 : decode c_M_crash 91 = .ok (.iload_n 1, 1) := by decide +kernel
theorem d_M_crash_92 : decode c_M_crash 92 = .ok (.aload_n 0, 1) := by decide +kernel
theorem d_M_crash_93 : decode c_M_crash 93 = .ok (.getfield 41, 3) := by decide +kernel
theorem d_M_crash_96 : decode c_M_crash 96 = .ok (.iload_n 1, 1) := by decide +kernel
theorem d_M_crash_97 : decode c_M_crash 97 = .ok (.iaload, 1) := by decide +kernel
theorem d_M_crash_98 : decode c_M_crash 98 = .ok (.iastore, 1) := by decide +kernel
theorem d_M_crash_99 : decode c_M_crash 99 = .ok (.iinc 1 1, 3) := by decide +kernel
theorem d_M_crash_102 : decode c_M_crash 102 = .ok (.goto (-87), 3) := by decide +kernel
theorem d_M_crash_105 : decode c_M_crash 105 = .ok (.iconst 0, 1) := by decide +kernel
theorem d_M_crash_106 : decode c_M_crash 106 = .ok (.istore_n 1, 1) := by decide +kernel
theorem d_M_crash_107 : decode c_M_crash 107 = .ok (.iload_n 1, 1) := by decide +kernel
theorem d_M_crash_108 : decode c_M_crash 108 = .ok (.bipush 8, 2) := by decide +kernel
theorem d_M_crash_110 : decode c_M_crash 110 = .ok (.if_icmp .ge 41, 3) := by decide +kernel
theorem d_M_crash_113 : decode c_M_crash 113 = .ok (.aload_n 0, 1) := by decide +kernel
theorem d_M_crash_114 : decode c_M_crash 114 = .ok (.getfield 53, 3) := by decide +kernel
theorem d_M_crash_117 : decode c_M_crash 117 = .ok (.iload_n 1, 1) := by decide +kernel
theorem d_M_crash_118 : decode c_M_crash 118 = .ok (.aload_n 0, 1) := by decide +kernel
theorem d_M_crash_119 : decode c_M_crash 119 = .ok (.getfield 56, 3) := by decide +kernel
theorem d_M_crash_122 : decode c_M_crash 122 = .ok (.iload_n 1, 1) := by decide +kernel
theorem d_M_crash_123 : decode c_M_crash 123 = .ok (.iaload, 1) := by decide +kernel
theorem d_M_crash_124 : decode c_M_crash 124 = .ok (.aload_n 0, 1) := by decide +kernel
theorem d_M_crash_125 : decode c_M_crash 125 = .ok (.getfield 63, 3) := by decide +kernel
theorem d_M_crash_128 : decode c_M_crash 128 = .ok (.if_icmp .ge 12, 3) := by decide +kernel
theorem d_M_crash_131 : decode c_M_crash 131 = .ok (.aload_n 0, 1) := by decide +kernel
theorem d_M_crash_132 : decode c_M_crash 132 = .ok (.getfield 56, 3) := by decide +kernel
theorem d_M_crash_135 : decode c_M_crash 135 = .ok (.iload_n 1, 1) := by decide +kernel
theorem d_M_crash_136 : decode c_M_crash 136 = .ok (.iaload, 1) := by decide +kernel
theorem d_M_crash_137 : decode c_M_crash 137 = .ok (.goto 7, 3) := by decide +kernel
theorem d_M_crash_140 : decode c_M_crash 140 = .ok (.aload_n 0, 1) := by decide +kernel
theorem d_M_crash_141 : decode c_M_crash 141 = .ok (.getfield 63, 3) := by decide +kernel
theorem d_M_crash_144 : decode c_M_crash 144 = .ok (.iastore, 1) := by decide +kernel
theorem d_M_crash_145 : decode c_M_crash 145 = .ok (.iinc 1 1, 3) := by decide +kernel
theorem d_M_crash_148 : decode c_M_crash 148 = .ok (.goto (-41), 3) := by decide +kernel
theorem d_M_crash_151 : decode c_M_crash 151 = .ok (.aload_n 0, 1) := by decide +kernel
theorem d_M_crash_152 : decode c_M_crash 152 = .ok (.getfield 63, 3) := by decide +kernel
theorem d_M_crash_155 : decode c_M_crash 155 = .ok (.ireturn, 1) := by decide +kernel
abbrev c_M_isNone : ByteArray := prog_6_method_21_code
def y_M_isNone : MethodName := ⟨"EventKeeperModel", "isNone", "(I)Z"⟩
theorem d_M_isNone_0 : decode c_M_isNone 0 = .ok (.iload_n 1, 1) := by decide +kernel
theorem d_M_isNone_1 : decode c_M_isNone 1 = .ok (.iconst 0, 1) := by decide +kernel
theorem d_M_isNone_2 : decode c_M_isNone 2 = .ok (.aload_n 0, 1) := by decide +kernel
theorem d_M_isNone_3 : decode c_M_isNone 3 = .ok (.getfield 63, 3) := by decide +kernel
theorem d_M_isNone_6 : decode c_M_isNone 6 = .ok (.iconst 1, 1) := by decide +kernel
theorem d_M_isNone_7 : decode c_M_isNone 7 = .ok (.isub, 1) := by decide +kernel
theorem d_M_isNone_8 : decode c_M_isNone 8 = .ok (.invokestatic 66, 3) := by decide +kernel
theorem d_M_isNone_11 : decode c_M_isNone 11 = .ok (.ifCond .ne 7, 3) := by decide +kernel
theorem d_M_isNone_14 : decode c_M_isNone 14 = .ok (.iconst 1, 1) := by decide +kernel
theorem d_M_isNone_15 : decode c_M_isNone 15 = .ok (.goto 4, 3) := by decide +kernel
theorem d_M_isNone_18 : decode c_M_isNone 18 = .ok (.iconst 0, 1) := by decide +kernel
theorem d_M_isNone_19 : decode c_M_isNone 19 = .ok (.ireturn, 1) := by decide +kernel
abbrev c_M_event : ByteArray := prog_6_method_22_code
def y_M_event : MethodName := ⟨"EventKeeperModel", "event", "(II)I"⟩
theorem d_M_event_0 : decode c_M_event 0 = .ok (.aload_n 0, 1) := by decide +kernel
theorem d_M_event_1 : decode c_M_event 1 = .ok (.iconst 0, 1) := by decide +kernel
theorem d_M_event_2 : decode c_M_event 2 = .ok (.putfield 59, 3) := by decide +kernel
theorem d_M_event_5 : decode c_M_event 5 = .ok (.aload_n 0, 1) := by decide +kernel
theorem d_M_event_6 : decode c_M_event 6 = .ok (.iload_n 2, 1) := by decide +kernel
theorem d_M_event_7 : decode c_M_event 7 = .ok (.iconst 0, 1) := by decide +kernel
theorem d_M_event_8 : decode c_M_event 8 = .ok (.iconst 4, 1) := by decide +kernel
theorem d_M_event_9 : decode c_M_event 9 = .ok (.invokestatic 66, 3) := by decide +kernel
theorem d_M_event_12 : decode c_M_event 12 = .ok (.ifCond .ne 7, 3) := by decide +kernel
theorem d_M_event_15 : decode c_M_event 15 = .ok (.iconst 1, 1) := by decide +kernel
theorem d_M_event_16 : decode c_M_event 16 = .ok (.goto 4, 3) := by decide +kernel
theorem d_M_event_19 : decode c_M_event 19 = .ok (.iconst 0, 1) := by decide +kernel
theorem d_M_event_20 : decode c_M_event 20 = .ok (.iconst 1, 1) := by decide +kernel
theorem d_M_event_21 : decode c_M_event 21 = .ok (.invokevirtual 70, 3) := by decide +kernel
theorem d_M_event_24 : decode c_M_event 24 = .ok (.ifCond .ne 16, 3) := by decide +kernel
theorem d_M_event_27 : decode c_M_event 27 = .ok (.aload_n 0, 1) := by decide +kernel
theorem d_M_event_28 : decode c_M_event 28 = .ok (.aload_n 0, 1) := by decide +kernel
theorem d_M_event_29 : decode c_M_event 29 = .ok (.iload_n 1, 1) := by decide +kernel
theorem d_M_event_30 : decode c_M_event 30 = .ok (.invokevirtual 102, 3) := by decide +kernel
theorem d_M_event_33 : decode c_M_event 33 = .ok (.iconst 2, 1) := by decide +kernel
theorem d_M_event_34 : decode c_M_event 34 = .ok (.invokevirtual 70, 3) := by decide +kernel
theorem d_M_event_37 : decode c_M_event 37 = .ok (.ifCond .eq 5, 3) := by decide +kernel
theorem d_M_event_40 : decode c_M_event 40 = .ok (.iconst 0, 1) := by decide +kernel
theorem d_M_event_41 : decode c_M_event 41 = .ok (.ireturn, 1) := by decide +kernel
theorem d_M_event_42 : decode c_M_event 42 = .ok (.iload_n 2, 1) := by decide +kernel
theorem d_M_event_43 : decode c_M_event 43 = .ok (.ifCond .ne 12, 3) := by decide +kernel
theorem d_M_event_46 : decode c_M_event 46 = .ok (.aload_n 0, 1) := by decide +kernel
theorem d_M_event_47 : decode c_M_event 47 = .ok (.getfield 9, 3) := by decide +kernel
theorem d_M_event_50 : decode c_M_event 50 = .ok (.iload_n 1, 1) := by decide +kernel
theorem d_M_event_51 : decode c_M_event 51 = .ok (.iaload, 1) := by decide +kernel
theorem d_M_event_52 : decode c_M_event 52 = .ok (.goto 56, 3) := by decide +kernel
theorem d_M_event_55 : decode c_M_event 55 = .ok (.iload_n 2, 1) := by decide +kernel
theorem d_M_event_56 : decode c_M_event 56 = .ok (.iconst 1, 1) := by decide +kernel
theorem d_M_event_57 : decode c_M_event 57 = .ok (.if_icmp .ne 17, 3) := by decide +kernel
theorem d_M_event_60 : decode c_M_event 60 = .ok (.aload_n 0, 1) := by decide +kernel
theorem d_M_event_61 : decode c_M_event 61 = .ok (.aload_n 0, 1) := by decide +kernel
theorem d_M_event_62 : decode c_M_event 62 = .ok (.getfield 9, 3) := by decide +kernel
theorem d_M_event_65 : decode c_M_event 65 = .ok (.iload_n 1, 1) := by decide +kernel
theorem d_M_event_66 : decode c_M_event 66 = .ok (.iaload, 1) := by decide +kernel
theorem d_M_event_67 : decode c_M_event 67 = .ok (.iload_n 1, 1) := by decide +kernel
theorem d_M_event_68 : decode c_M_event 68 = .ok (.invokevirtual 74, 3) := by decide +kernel
theorem d_M_event_71 : decode c_M_event 71 = .ok (.goto 37, 3) := by decide +kernel
theorem d_M_event_74 : decode c_M_event 74 = .ok (.iload_n 2, 1) := by decide +kernel
theorem d_M_event_75 : decode c_M_event 75 = .ok (.iconst 2, 1) := by decide +kernel
theorem d_M_event_76 : decode c_M_event 76 = .ok (.if_icmp .ne 12, 3) := by decide +kernel
theorem d_M_event_79 : decode c_M_event 79 = .ok (.aload_n 0, 1) := by decide +kernel
theorem d_M_event_80 : decode c_M_event 80 = .ok (.getfield 13, 3) := by decide +kernel
theorem d_M_event_83 : decode c_M_event 83 = .ok (.iload_n 1, 1) := by decide +kernel
theorem d_M_event_84 : decode c_M_event 84 = .ok (.iaload, 1) := by decide +kernel
theorem d_M_event_85 : decode c_M_event 85 = .ok (.goto 23, 3) := by decide +kernel
theorem d_M_event_88 : decode c_M_event 88 = .ok (.iload_n 2, 1) := by decide +kernel
theorem d_M_event_89 : decode c_M_event 89 = .ok (.iconst 3, 1) := by decide +kernel
theorem d_M_event_90 : decode c_M_event 90 = .ok (.if_icmp .ne 12, 3) := by decide +kernel
theorem d_M_event_93 : decode c_M_event 93 = .ok (.aload_n 0, 1) := by decide +kernel
theorem d_M_event_94 : decode c_M_event 94 = .ok (.getfield 16, 3) := by decide +kernel
theorem d_M_event_97 : decode c_M_event 97 = .ok (.iload_n 1, 1) := by decide +kernel
theorem d_M_event_98 : decode c_M_event 98 = .ok (.iaload, 1) := by decide +kernel
theorem d_M_event_99 : decode c_M_event 99 = .ok (.goto 9, 3) := by decide +kernel
theorem d_M_event_102 : decode c_M_event 102 = .ok (.aload_n 0, 1) := by decide +kernel
theorem d_M_event_103 : decode c_M_event 103 = .ok (.getfield 19, 3) := by decide +kernel
theorem d_M_event_106 : decode c_M_event 106 = .ok (.iload_n 1, 1) := by decide +kernel
theorem d_M_event_107 : decode c_M_event 107 = .ok (.iaload, 1) := by decide +kernel
theorem d_M_event_108 : decode c_M_event 108 = .ok (.ireturn, 1) := by decide +kernel
abbrev c_M_value : ByteArray := prog_6_method_23_code
def y_M_value : MethodName := ⟨"EventKeeperModel", "value", "(I)J"⟩
theorem d_M_value_0 : decode c_M_value 0 = .ok (.aload_n 0, 1) := by decide +kernel
theorem d_M_value_1 : decode c_M_value 1 = .ok (.iconst 0, 1) := by decide +kernel
theorem d_M_value_2 : decode c_M_value 2 = .ok (.putfield 59, 3) := by decide +kernel
theorem d_M_value_5 : decode c_M_value 5 = .ok (.aload_n 0, 1) := by decide +kernel
theorem d_M_value_6 : decode c_M_value 6 = .ok (.aload_n 0, 1) := by decide +kernel
theorem d_M_value_7 : decode c_M_value 7 = .ok (.iload_n 1, 1) := by decide +kernel
theorem d_M_value_8 : decode c_M_value 8 = .ok (.invokevirtual 102, 3) := by decide +kernel
theorem d_M_value_11 : decode c_M_value 11 = .ok (.iconst 1, 1) := by decide +kernel
theorem d_M_value_12 : decode c_M_value 12 = .ok (.invokevirtual 70, 3) := by decide +kernel
theorem d_M_value_15 : decode c_M_value 15 = .ok (.ifCond .eq 7, 3) := by decide +kernel
theorem d_M_value_18 : decode c_M_value 18 = .ok (.lconst 0, 1) := by decide +kernel
theorem d_M_value_19 : decode c_M_value 19 = .ok (.goto 9, 3) := by decide +kernel
theorem d_M_value_22 : decode c_M_value 22 = .ok (.aload_n 0, 1) := by decide +kernel
theorem d_M_value_23 : decode c_M_value 23 = .ok (.getfield 22, 3) := by decide +kernel
theorem d_M_value_26 : decode c_M_value 26 = .ok (.iload_n 1, 1) := by decide +kernel
theorem d_M_value_27 : decode c_M_value 27 = .ok (.laload, 1) := by decide +kernel
theorem d_M_value_28 : decode c_M_value 28 = .ok (.lreturn, 1) := by decide +kernel
abbrev c_M_find : ByteArray := prog_6_method_24_code
def y_M_find : MethodName := ⟨"EventKeeperModel", "find", "(II)I"⟩
theorem d_M_find_0 : decode c_M_find 0 = .ok (.aload_n 0, 1) := by decide +kernel
theorem d_M_find_1 : decode c_M_find 1 = .ok (.iconst 0, 1) := by decide +kernel
theorem d_M_find_2 : decode c_M_find 2 = .ok (.putfield 59, 3) := by decide +kernel
theorem d_M_find_5 : decode c_M_find 5 = .ok (.aload_n 0, 1) := by decide +kernel
theorem d_M_find_6 : decode c_M_find 6 = .ok (.iload_n 1, 1) := by decide +kernel
theorem d_M_find_7 : decode c_M_find 7 = .ok (.iconst 0, 1) := by decide +kernel
theorem d_M_find_8 : decode c_M_find 8 = .ok (.bipush 15, 2) := by decide +kernel
theorem d_M_find_10 : decode c_M_find 10 = .ok (.invokestatic 66, 3) := by decide +kernel
theorem d_M_find_13 : decode c_M_find 13 = .ok (.ifCond .ne 7, 3) := by decide +kernel
theorem d_M_find_16 : decode c_M_find 16 = .ok (.iconst 1, 1) := by decide +kernel
theorem d_M_find_17 : decode c_M_find 17 = .ok (.goto 4, 3) := by decide +kernel
theorem d_M_find_20 : decode c_M_find 20 = .ok (.iconst 0, 1) := by decide +kernel
theorem d_M_find_21 : decode c_M_find 21 = .ok (.iconst 1, 1) := by decide +kernel
theorem d_M_find_22 : decode c_M_find 22 = .ok (.invokevirtual 70, 3) := by decide +kernel
theorem d_M_find_25 : decode c_M_find 25 = .ok (.ifCond .eq 5, 3) := by decide +kernel
theorem d_M_find_28 : decode c_M_find 28 = .ok (.iconst 0, 1) := by decide +kernel
theorem d_M_find_29 : decode c_M_find 29 = .ok (.ireturn, 1) := by decide +kernel
theorem d_M_find_30 : decode c_M_find 30 = .ok (.iconst 0, 1) := by decide +kernel
theorem d_M_find_31 : decode c_M_find 31 = .ok (.istore_n 3, 1) := by decide +kernel
theorem d_M_find_32 : decode c_M_find 32 = .ok (.iload_n 3, 1) := by decide +kernel
theorem d_M_find_33 : decode c_M_find 33 = .ok (.aload_n 0, 1) := by decide +kernel
theorem d_M_find_34 : decode c_M_find 34 = .ok (.getfield 63, 3) := by decide +kernel
theorem d_M_find_37 : decode c_M_find 37 = .ok (.if_icmp .ge 31, 3) := by decide +kernel
theorem d_M_find_40 : decode c_M_find 40 = .ok (.aload_n 0, 1) := by decide +kernel
theorem d_M_find_41 : decode c_M_find 41 = .ok (.getfield 9, 3) := by decide +kernel
theorem d_M_find_44 : decode c_M_find 44 = .ok (.iload_n 3, 1) := by decide +kernel
theorem d_M_find_45 : decode c_M_find 45 = .ok (.iaload, 1) := by decide +kernel
theorem d_M_find_46 : decode c_M_find 46 = .ok (.iload_n 1, 1) := by decide +kernel
theorem d_M_find_47 : decode c_M_find 47 = .ok (.if_icmp .ne 15, 3) := by decide +kernel
theorem d_M_find_50 : decode c_M_find 50 = .ok (.aload_n 0, 1) := by decide +kernel
theorem d_M_find_51 : decode c_M_find 51 = .ok (.iload_n 1, 1) := by decide +kernel
theorem d_M_find_52 : decode c_M_find 52 = .ok (.iload_n 3, 1) := by decide +kernel
theorem d_M_find_53 : decode c_M_find 53 = .ok (.invokevirtual 74, 3) := by decide +kernel
theorem d_M_find_56 : decode c_M_find 56 = .ok (.iload_n 2, 1) := by decide +kernel
theorem d_M_find_57 : decode c_M_find 57 = .ok (.if_icmp .ne 5, 3) := by decide +kernel
theorem d_M_find_60 : decode c_M_find 60 = .ok (.iload_n 3, 1) := by decide +kernel
theorem d_M_find_61 : decode c_M_find 61 = .ok (.ireturn, 1) := by decide +kernel
theorem d_M_find_62 : decode c_M_find 62 = .ok (.iinc 3 1, 3) := by decide +kernel
theorem d_M_find_65 : decode c_M_find 65 = .ok (.goto (-33), 3) := by decide +kernel
theorem d_M_find_68 : decode c_M_find 68 = .ok (.aload_n 0, 1) := by decide +kernel
theorem d_M_find_69 : decode c_M_find 69 = .ok (.iconst 1, 1) := by decide +kernel
theorem d_M_find_70 : decode c_M_find 70 = .ok (.iconst 2, 1) := by decide +kernel
theorem d_M_find_71 : decode c_M_find 71 = .ok (.invokevirtual 70, 3) := by decide +kernel
theorem d_M_find_74 : decode c_M_find 74 = .ok (.pop, 1) := by decide +kernel
theorem d_M_find_75 : decode c_M_find 75 = .ok (.iconst 0, 1) := by decide +kernel
theorem d_M_find_76 : decode c_M_find 76 = .ok (.ireturn, 1) := by decide +kernel
abbrev c_M_count : ByteArray := prog_6_method_25_code
def y_M_count : MethodName := ⟨"EventKeeperModel", "count", "(II)I"⟩
theorem d_M_count_0 : decode c_M_count 0 = .ok (.aload_n 0, 1) := by decide +kernel
theorem d_M_count_1 : decode c_M_count 1 = .ok (.iconst 0, 1) := by decide +kernel
theorem d_M_count_2 : decode c_M_count 2 = .ok (.putfield 59, 3) := by decide +kernel
theorem d_M_count_5 : decode c_M_count 5 = .ok (.aload_n 0, 1) := by decide +kernel
theorem d_M_count_6 : decode c_M_count 6 = .ok (.iload_n 1, 1) := by decide +kernel
theorem d_M_count_7 : decode c_M_count 7 = .ok (.iconst 0, 1) := by decide +kernel
theorem d_M_count_8 : decode c_M_count 8 = .ok (.iconst 5, 1) := by decide +kernel
theorem d_M_count_9 : decode c_M_count 9 = .ok (.invokestatic 66, 3) := by decide +kernel
theorem d_M_count_12 : decode c_M_count 12 = .ok (.ifCond .eq 47, 3) := by decide +kernel
theorem d_M_count_15 : decode c_M_count 15 = .ok (.iload_n 1, 1) := by decide +kernel
theorem d_M_count_16 : decode c_M_count 16 = .ok (.iconst 2, 1) := by decide +kernel
theorem d_M_count_17 : decode c_M_count 17 = .ok (.if_icmp .ne 13, 3) := by decide +kernel
theorem d_M_count_20 : decode c_M_count 20 = .ok (.iload_n 2, 1) := by decide +kernel
theorem d_M_count_21 : decode c_M_count 21 = .ok (.iconst 0, 1) := by decide +kernel
theorem d_M_count_22 : decode c_M_count 22 = .ok (.bipush 15, 2) := by decide +kernel
theorem d_M_count_24 : decode c_M_count 24 = .ok (.invokestatic 66, 3) := by decide +kernel
theorem d_M_count_27 : decode c_M_count 27 = .ok (.ifCond .eq 32, 3) := by decide +kernel
theorem d_M_count_30 : decode c_M_count 30 = .ok (.iload_n 1, 1) := by decide +kernel
theorem d_M_count_31 : decode c_M_count 31 = .ok (.iconst 3, 1) := by decide +kernel
theorem d_M_count_32 : decode c_M_count 32 = .ok (.if_icmp .eq 8, 3) := by decide +kernel
theorem d_M_count_35 : decode c_M_count 35 = .ok (.iload_n 1, 1) := by decide +kernel
theorem d_M_count_36 : decode c_M_count 36 = .ok (.iconst 5, 1) := by decide +kernel
theorem d_M_count_37 : decode c_M_count 37 = .ok (.if_icmp .ne 10, 3) := by decide +kernel
theorem d_M_count_40 : decode c_M_count 40 = .ok (.iload_n 2, 1) := by decide +kernel
theorem d_M_count_41 : decode c_M_count 41 = .ok (.invokestatic 82, 3) := by decide +kernel
theorem d_M_count_44 : decode c_M_count 44 = .ok (.ifCond .eq 15, 3) := by decide +kernel
theorem d_M_count_47 : decode c_M_count 47 = .ok (.iload_n 1, 1) := by decide +kernel
theorem d_M_count_48 : decode c_M_count 48 = .ok (.iconst 4, 1) := by decide +kernel
theorem d_M_count_49 : decode c_M_count 49 = .ok (.if_icmp .ne 14, 3) := by decide +kernel
theorem d_M_count_52 : decode c_M_count 52 = .ok (.iload_n 2, 1) := by decide +kernel
theorem d_M_count_53 : decode c_M_count 53 = .ok (.invokestatic 96, 3) := by decide +kernel
theorem d_M_count_56 : decode c_M_count 56 = .ok (.ifCond .ne 7, 3) := by decide +kernel
theorem d_M_count_59 : decode c_M_count 59 = .ok (.iconst 1, 1) := by decide +kernel
theorem d_M_count_60 : decode c_M_count 60 = .ok (.goto 4, 3) := by decide +kernel
theorem d_M_count_63 : decode c_M_count 63 = .ok (.iconst 0, 1) := by decide +kernel
theorem d_M_count_64 : decode c_M_count 64 = .ok (.iconst 1, 1) := by decide +kernel
theorem d_M_count_65 : decode c_M_count 65 = .ok (.invokevirtual 70, 3) := by decide +kernel
theorem d_M_count_68 : decode c_M_count 68 = .ok (.ifCond .eq 5, 3) := by decide +kernel
theorem d_M_count_71 : decode c_M_count 71 = .ok (.iconst 0, 1) := by decide +kernel
theorem d_M_count_72 : decode c_M_count 72 = .ok (.ireturn, 1) := by decide +kernel
theorem d_M_count_73 : decode c_M_count 73 = .ok (.iconst 0, 1) := by decide +kernel
theorem d_M_count_74 : decode c_M_count 74 = .ok (.istore_n 3, 1) := by decide +kernel
theorem d_M_count_75 : decode c_M_count 75 = .ok (.iload_n 1, 1) := by decide +kernel
theorem d_M_count_76 : decode c_M_count 76 = .ok (.tableswitch 70 0 4 #[36, 41, 46, 56, 63], 36) := by decide +kernel
theorem d_M_count_112 : decode c_M_count 112 = .ok (.aload_n 0, 1) := by decide +kernel
theorem d_M_count_113 : decode c_M_count 113 = .ok (.getfield 63, 3) := by decide +kernel
theorem d_M_count_116 : decode c_M_count 116 = .ok (.ireturn, 1) := by decide +kernel
theorem d_M_count_117 : decode c_M_count 117 = .ok (.aload_n 0, 1) := by decide +kernel
theorem d_M_count_118 : decode c_M_count 118 = .ok (.getfield 99, 3) := by decide +kernel
theorem d_M_count_121 : decode c_M_count 121 = .ok (.ireturn, 1) := by decide +kernel
theorem d_M_count_122 : decode c_M_count 122 = .ok (.aload_n 0, 1) := by decide +kernel
theorem d_M_count_123 : decode c_M_count 123 = .ok (.iload_n 2, 1) := by decide +kernel
theorem d_M_count_124 : decode c_M_count 124 = .ok (.aload_n 0, 1) := by decide +kernel
theorem d_M_count_125 : decode c_M_count 125 = .ok (.getfield 63, 3) := by decide +kernel
theorem d_M_count_128 : decode c_M_count 128 = .ok (.invokevirtual 74, 3) := by decide +kernel
theorem d_M_count_131 : decode c_M_count 131 = .ok (.ireturn, 1) := by decide +kernel
theorem d_M_count_132 : decode c_M_count 132 = .ok (.aload_n 0, 1) := by decide +kernel
theorem d_M_count_133 : decode c_M_count 133 = .ok (.getfield 38, 3) := by decide +kernel
theorem d_M_count_136 : decode c_M_count 136 = .ok (.iload_n 2, 1) := by decide +kernel
theorem d_M_count_137 : decode c_M_count 137 = .ok (.iaload, 1) := by decide +kernel
theorem d_M_count_138 : decode c_M_count 138 = .ok (.ireturn, 1) := by decide +kernel
theorem d_M_count_139 : decode c_M_count 139 = .ok (.aload_n 0, 1) := by decide +kernel
theorem d_M_count_140 : decode c_M_count 140 = .ok (.getfield 53, 3) := by decide +kernel
theorem d_M_count_143 : decode c_M_count 143 = .ok (.iload_n 2, 1) := by decide +kernel
theorem d_M_count_144 : decode c_M_count 144 = .ok (.iaload, 1) := by decide +kernel
theorem d_M_count_145 : decode c_M_count 145 = .ok (.ireturn, 1) := by decide +kernel
theorem d_M_count_146 : decode c_M_count 146 = .ok (.iconst 0, 1) := by decide +kernel
theorem d_M_count_147 : decode c_M_count 147 = .ok (.istore 4, 2) := by decide +kernel
theorem d_M_count_149 : decode c_M_count 149 = .ok (.iload 4, 2) := by decide +kernel
theorem d_M_count_151 : decode c_M_count 151 = .ok (.aload_n 0, 1) := by decide +kernel
theorem d_M_count_152 : decode c_M_count 152 = .ok (.getfield 63, 3) := by decide +kernel
theorem d_M_count_155 : decode c_M_count 155 = .ok (.if_icmp .ge 23, 3) := by decide +kernel
theorem d_M_count_158 : decode c_M_count 158 = .ok (.aload_n 0, 1) := by decide +kernel
theorem d_M_count_159 : decode c_M_count 159 = .ok (.getfield 16, 3) := by decide +kernel
theorem d_M_count_162 : decode c_M_count 162 = .ok (.iload 4, 2) := by decide +kernel
theorem d_M_count_164 : decode c_M_count 164 = .ok (.iaload, 1) := by decide +kernel
theorem d_M_count_165 : decode c_M_count 165 = .ok (.iload_n 2, 1) := by decide +kernel
theorem d_M_count_166 : decode c_M_count 166 = .ok (.if_icmp .ne 6, 3) := by decide +kernel
theorem d_M_count_169 : decode c_M_count 169 = .ok (.iinc 3 1, 3) := by decide +kernel
theorem d_M_count_172 : decode c_M_count 172 = .ok (.iinc 4 1, 3) := by decide +kernel
theorem d_M_count_175 : decode c_M_count 175 = .ok (.goto (-26), 3) := by decide +kernel
theorem d_M_count_178 : decode c_M_count 178 = .ok (.iload_n 3, 1) := by decide +kernel
theorem d_M_count_179 : decode c_M_count 179 = .ok (.ireturn, 1) := by decide +kernel
end
section
abbrev c_W_append : ByteArray := method_3_code
def y_W_append : MethodName := ⟨"EventKeeperLaw", "append", "(LEventKeeper;IIIJ[J)I"⟩
theorem d_W_append_0 : decode c_W_append 0 = .ok (.aload 6, 2) := by decide +kernel
theorem d_W_append_2 : decode c_W_append 2 = .ok (.iconst 0, 1) := by decide +kernel
theorem d_W_append_3 : decode c_W_append 3 = .ok (.aload_n 0, 1) := by decide +kernel
theorem d_W_append_4 : decode c_W_append 4 = .ok (.iload_n 1, 1) := by decide +kernel
theorem d_W_append_5 : decode c_W_append 5 = .ok (.iload_n 2, 1) := by decide +kernel
theorem d_W_append_6 : decode c_W_append 6 = .ok (.iload_n 3, 1) := by decide +kernel
theorem d_W_append_7 : decode c_W_append 7 = .ok (.lload 4, 2) := by decide +kernel
theorem d_W_append_9 : decode c_W_append 9 = .ok (.invokevirtual 7, 3) := by decide +kernel
theorem d_W_append_12 : decode c_W_append 12 = .ok (.i2l, 1) := by decide +kernel
theorem d_W_append_13 : decode c_W_append 13 = .ok (.lastore, 1) := by decide +kernel
theorem d_W_append_14 : decode c_W_append 14 = .ok (.goto 15, 3) := by decide +kernel
theorem d_W_append_17 : decode c_W_append 17 = .ok (.astore 7, 2) := by decide +kernel
theorem d_W_append_19 : decode c_W_append 19 = .ok (.iconst 1, 1) := by decide +kernel
theorem d_W_append_20 : decode c_W_append 20 = .ok (.ireturn, 1) := by decide +kernel
theorem d_W_append_21 : decode c_W_append 21 = .ok (.astore 7, 2) := by decide +kernel
theorem d_W_append_23 : decode c_W_append 23 = .ok (.iconst 2, 1) := by decide +kernel
theorem d_W_append_24 : decode c_W_append 24 = .ok (.ireturn, 1) := by decide +kernel
theorem d_W_append_25 : decode c_W_append 25 = .ok (.astore 7, 2) := by decide +kernel
theorem d_W_append_27 : decode c_W_append 27 = .ok (.iconst 3, 1) := by decide +kernel
theorem d_W_append_28 : decode c_W_append 28 = .ok (.ireturn, 1) := by decide +kernel
theorem d_W_append_29 : decode c_W_append 29 = .ok (.iconst 0, 1) := by decide +kernel
theorem d_W_append_30 : decode c_W_append 30 = .ok (.ireturn, 1) := by decide +kernel
abbrev c_W_rule : ByteArray := method_4_code
def y_W_rule : MethodName := ⟨"EventKeeperLaw", "rule", "(LEventKeeper;IIII)I"⟩
theorem d_W_rule_0 : decode c_W_rule 0 = .ok (.aload_n 0, 1) := by decide +kernel
theorem d_W_rule_1 : decode c_W_rule 1 = .ok (.iload_n 1, 1) := by decide +kernel
theorem d_W_rule_2 : decode c_W_rule 2 = .ok (.iload_n 2, 1) := by decide +kernel
theorem d_W_rule_3 : decode c_W_rule 3 = .ok (.iload_n 3, 1) := by decide +kernel
theorem d_W_rule_4 : decode c_W_rule 4 = .ok (.iload 4, 2) := by decide +kernel
theorem d_W_rule_6 : decode c_W_rule 6 = .ok (.invokevirtual 19, 3) := by decide +kernel
theorem d_W_rule_9 : decode c_W_rule 9 = .ok (.goto 7, 3) := by decide +kernel
theorem d_W_rule_12 : decode c_W_rule 12 = .ok (.astore 5, 2) := by decide +kernel
theorem d_W_rule_14 : decode c_W_rule 14 = .ok (.iconst 1, 1) := by decide +kernel
theorem d_W_rule_15 : decode c_W_rule 15 = .ok (.ireturn, 1) := by decide +kernel
theorem d_W_rule_16 : decode c_W_rule 16 = .ok (.iconst 0, 1) := by decide +kernel
theorem d_W_rule_17 : decode c_W_rule 17 = .ok (.ireturn, 1) := by decide +kernel
abbrev c_W_advance : ByteArray := method_5_code
def y_W_advance : MethodName := ⟨"EventKeeperLaw", "advance", "(LEventKeeper;II[J)I"⟩
theorem d_W_advance_0 : decode c_W_advance 0 = .ok (.aload_n 3, 1) := by decide +kernel
theorem d_W_advance_1 : decode c_W_advance 1 = .ok (.iconst 0, 1) := by decide +kernel
theorem d_W_advance_2 : decode c_W_advance 2 = .ok (.aload_n 0, 1) := by decide +kernel
theorem d_W_advance_3 : decode c_W_advance 3 = .ok (.iload_n 1, 1) := by decide +kernel
theorem d_W_advance_4 : decode c_W_advance 4 = .ok (.iload_n 2, 1) := by decide +kernel
theorem d_W_advance_5 : decode c_W_advance 5 = .ok (.invokevirtual 23, 3) := by decide +kernel
theorem d_W_advance_8 : decode c_W_advance 8 = .ok (.i2l, 1) := by decide +kernel
theorem d_W_advance_9 : decode c_W_advance 9 = .ok (.lastore, 1) := by decide +kernel
theorem d_W_advance_10 : decode c_W_advance 10 = .ok (.goto 7, 3) := by decide +kernel
theorem d_W_advance_13 : decode c_W_advance 13 = .ok (.astore 4, 2) := by decide +kernel
theorem d_W_advance_15 : decode c_W_advance 15 = .ok (.iconst 1, 1) := by decide +kernel
theorem d_W_advance_16 : decode c_W_advance 16 = .ok (.ireturn, 1) := by decide +kernel
theorem d_W_advance_17 : decode c_W_advance 17 = .ok (.iconst 0, 1) := by decide +kernel
theorem d_W_advance_18 : decode c_W_advance 18 = .ok (.ireturn, 1) := by decide +kernel
abbrev c_W_save : ByteArray := method_6_code
def y_W_save : MethodName := ⟨"EventKeeperLaw", "save", "(LEventKeeper;I[J)I"⟩
theorem d_W_save_0 : decode c_W_save 0 = .ok (.aload_n 2, 1) := by decide +kernel
theorem d_W_save_1 : decode c_W_save 1 = .ok (.iconst 0, 1) := by decide +kernel
theorem d_W_save_2 : decode c_W_save 2 = .ok (.aload_n 0, 1) := by decide +kernel
theorem d_W_save_3 : decode c_W_save 3 = .ok (.iload_n 1, 1) := by decide +kernel
theorem d_W_save_4 : decode c_W_save 4 = .ok (.invokevirtual 27, 3) := by decide +kernel
theorem d_W_save_7 : decode c_W_save 7 = .ok (.i2l, 1) := by decide +kernel
theorem d_W_save_8 : decode c_W_save 8 = .ok (.lastore, 1) := by decide +kernel
theorem d_W_save_9 : decode c_W_save 9 = .ok (.goto 6, 3) := by decide +kernel
theorem d_W_save_12 : decode c_W_save 12 = .ok (.astore_n 3, 1) := by decide +kernel
theorem d_W_save_13 : decode c_W_save 13 = .ok (.iconst 1, 1) := by decide +kernel
theorem d_W_save_14 : decode c_W_save 14 = .ok (.ireturn, 1) := by decide +kernel
theorem d_W_save_15 : decode c_W_save 15 = .ok (.iconst 0, 1) := by decide +kernel
theorem d_W_save_16 : decode c_W_save 16 = .ok (.ireturn, 1) := by decide +kernel
abbrev c_W_cell : ByteArray := method_7_code
def y_W_cell : MethodName := ⟨"EventKeeperLaw", "cell", "(LEventKeeper;II[J)I"⟩
theorem d_W_cell_0 : decode c_W_cell 0 = .ok (.aload_n 3, 1) := by decide +kernel
theorem d_W_cell_1 : decode c_W_cell 1 = .ok (.iconst 0, 1) := by decide +kernel
theorem d_W_cell_2 : decode c_W_cell 2 = .ok (.aload_n 0, 1) := by decide +kernel
theorem d_W_cell_3 : decode c_W_cell 3 = .ok (.iload_n 1, 1) := by decide +kernel
theorem d_W_cell_4 : decode c_W_cell 4 = .ok (.iload_n 2, 1) := by decide +kernel
theorem d_W_cell_5 : decode c_W_cell 5 = .ok (.invokevirtual 31, 3) := by decide +kernel
theorem d_W_cell_8 : decode c_W_cell 8 = .ok (.lastore, 1) := by decide +kernel
theorem d_W_cell_9 : decode c_W_cell 9 = .ok (.goto 11, 3) := by decide +kernel
theorem d_W_cell_12 : decode c_W_cell 12 = .ok (.astore 4, 2) := by decide +kernel
theorem d_W_cell_14 : decode c_W_cell 14 = .ok (.iconst 1, 1) := by decide +kernel
theorem d_W_cell_15 : decode c_W_cell 15 = .ok (.ireturn, 1) := by decide +kernel
theorem d_W_cell_16 : decode c_W_cell 16 = .ok (.astore 4, 2) := by decide +kernel
theorem d_W_cell_18 : decode c_W_cell 18 = .ok (.iconst 2, 1) := by decide +kernel
theorem d_W_cell_19 : decode c_W_cell 19 = .ok (.ireturn, 1) := by decide +kernel
theorem d_W_cell_20 : decode c_W_cell 20 = .ok (.iconst 0, 1) := by decide +kernel
theorem d_W_cell_21 : decode c_W_cell 21 = .ok (.ireturn, 1) := by decide +kernel
abbrev c_W_filter : ByteArray := method_8_code
def y_W_filter : MethodName := ⟨"EventKeeperLaw", "filter", "(LEventKeeper;III)I"⟩
theorem d_W_filter_0 : decode c_W_filter 0 = .ok (.aload_n 0, 1) := by decide +kernel
theorem d_W_filter_1 : decode c_W_filter 1 = .ok (.iload_n 1, 1) := by decide +kernel
theorem d_W_filter_2 : decode c_W_filter 2 = .ok (.iload_n 2, 1) := by decide +kernel
theorem d_W_filter_3 : decode c_W_filter 3 = .ok (.iload_n 3, 1) := by decide +kernel
theorem d_W_filter_4 : decode c_W_filter 4 = .ok (.invokevirtual 35, 3) := by decide +kernel
theorem d_W_filter_7 : decode c_W_filter 7 = .ok (.goto 7, 3) := by decide +kernel
theorem d_W_filter_10 : decode c_W_filter 10 = .ok (.astore 4, 2) := by decide +kernel
theorem d_W_filter_12 : decode c_W_filter 12 = .ok (.iconst 1, 1) := by decide +kernel
theorem d_W_filter_13 : decode c_W_filter 13 = .ok (.ireturn, 1) := by decide +kernel
theorem d_W_filter_14 : decode c_W_filter 14 = .ok (.iconst 0, 1) := by decide +kernel
theorem d_W_filter_15 : decode c_W_filter 15 = .ok (.ireturn, 1) := by decide +kernel
abbrev c_W_next : ByteArray := method_9_code
def y_W_next : MethodName := ⟨"EventKeeperLaw", "next", "(LEventKeeper;I[J)I"⟩
theorem d_W_next_0 : decode c_W_next 0 = .ok (.aload_n 2, 1) := by decide +kernel
theorem d_W_next_1 : decode c_W_next 1 = .ok (.iconst 0, 1) := by decide +kernel
theorem d_W_next_2 : decode c_W_next 2 = .ok (.aload_n 0, 1) := by decide +kernel
theorem d_W_next_3 : decode c_W_next 3 = .ok (.iload_n 1, 1) := by decide +kernel
theorem d_W_next_4 : decode c_W_next 4 = .ok (.invokevirtual 39, 3) := by decide +kernel
theorem d_W_next_7 : decode c_W_next 7 = .ok (.i2l, 1) := by decide +kernel
theorem d_W_next_8 : decode c_W_next 8 = .ok (.lastore, 1) := by decide +kernel
theorem d_W_next_9 : decode c_W_next 9 = .ok (.goto 6, 3) := by decide +kernel
theorem d_W_next_12 : decode c_W_next 12 = .ok (.astore_n 3, 1) := by decide +kernel
theorem d_W_next_13 : decode c_W_next 13 = .ok (.iconst 1, 1) := by decide +kernel
theorem d_W_next_14 : decode c_W_next 14 = .ok (.ireturn, 1) := by decide +kernel
theorem d_W_next_15 : decode c_W_next 15 = .ok (.iconst 0, 1) := by decide +kernel
theorem d_W_next_16 : decode c_W_next 16 = .ok (.ireturn, 1) := by decide +kernel
abbrev c_W_acknowledge : ByteArray := method_10_code
def y_W_acknowledge : MethodName := ⟨"EventKeeperLaw", "acknowledge", "(LEventKeeper;II[J)I"⟩
theorem d_W_acknowledge_0 : decode c_W_acknowledge 0 = .ok (.aload_n 3, 1) := by decide +kernel
theorem d_W_acknowledge_1 : decode c_W_acknowledge 1 = .ok (.iconst 0, 1) := by decide +kernel
theorem d_W_acknowledge_2 : decode c_W_acknowledge 2 = .ok (.aload_n 0, 1) := by decide +kernel
theorem d_W_acknowledge_3 : decode c_W_acknowledge 3 = .ok (.iload_n 1, 1) := by decide +kernel
theorem d_W_acknowledge_4 : decode c_W_acknowledge 4 = .ok (.iload_n 2, 1) := by decide +kernel
theorem d_W_acknowledge_5 : decode c_W_acknowledge 5 = .ok (.invokevirtual 42, 3) := by decide +kernel
theorem d_W_acknowledge_8 : decode c_W_acknowledge 8 = .ok (.i2l, 1) := by decide +kernel
theorem d_W_acknowledge_9 : decode c_W_acknowledge 9 = .ok (.lastore, 1) := by decide +kernel
theorem d_W_acknowledge_10 : decode c_W_acknowledge 10 = .ok (.goto 11, 3) := by decide +kernel
theorem d_W_acknowledge_13 : decode c_W_acknowledge 13 = .ok (.astore 4, 2) := by decide +kernel
theorem d_W_acknowledge_15 : decode c_W_acknowledge 15 = .ok (.iconst 1, 1) := by decide +kernel
theorem d_W_acknowledge_16 : decode c_W_acknowledge 16 = .ok (.ireturn, 1) := by decide +kernel
theorem d_W_acknowledge_17 : decode c_W_acknowledge 17 = .ok (.astore 4, 2) := by decide +kernel
theorem d_W_acknowledge_19 : decode c_W_acknowledge 19 = .ok (.iconst 2, 1) := by decide +kernel
theorem d_W_acknowledge_20 : decode c_W_acknowledge 20 = .ok (.ireturn, 1) := by decide +kernel
theorem d_W_acknowledge_21 : decode c_W_acknowledge 21 = .ok (.iconst 0, 1) := by decide +kernel
theorem d_W_acknowledge_22 : decode c_W_acknowledge 22 = .ok (.ireturn, 1) := by decide +kernel
abbrev c_W_event : ByteArray := method_11_code
def y_W_event : MethodName := ⟨"EventKeeperLaw", "event", "(LEventKeeper;II[J)I"⟩
theorem d_W_event_0 : decode c_W_event 0 = .ok (.aload_n 3, 1) := by decide +kernel
theorem d_W_event_1 : decode c_W_event 1 = .ok (.iconst 0, 1) := by decide +kernel
theorem d_W_event_2 : decode c_W_event 2 = .ok (.aload_n 0, 1) := by decide +kernel
theorem d_W_event_3 : decode c_W_event 3 = .ok (.iload_n 1, 1) := by decide +kernel
theorem d_W_event_4 : decode c_W_event 4 = .ok (.iload_n 2, 1) := by decide +kernel
theorem d_W_event_5 : decode c_W_event 5 = .ok (.invokevirtual 45, 3) := by decide +kernel
theorem d_W_event_8 : decode c_W_event 8 = .ok (.i2l, 1) := by decide +kernel
theorem d_W_event_9 : decode c_W_event 9 = .ok (.lastore, 1) := by decide +kernel
theorem d_W_event_10 : decode c_W_event 10 = .ok (.goto 11, 3) := by decide +kernel
theorem d_W_event_13 : decode c_W_event 13 = .ok (.astore 4, 2) := by decide +kernel
theorem d_W_event_15 : decode c_W_event 15 = .ok (.iconst 1, 1) := by decide +kernel
theorem d_W_event_16 : decode c_W_event 16 = .ok (.ireturn, 1) := by decide +kernel
theorem d_W_event_17 : decode c_W_event 17 = .ok (.astore 4, 2) := by decide +kernel
theorem d_W_event_19 : decode c_W_event 19 = .ok (.iconst 2, 1) := by decide +kernel
theorem d_W_event_20 : decode c_W_event 20 = .ok (.ireturn, 1) := by decide +kernel
theorem d_W_event_21 : decode c_W_event 21 = .ok (.iconst 0, 1) := by decide +kernel
theorem d_W_event_22 : decode c_W_event 22 = .ok (.ireturn, 1) := by decide +kernel
abbrev c_W_value : ByteArray := method_12_code
def y_W_value : MethodName := ⟨"EventKeeperLaw", "value", "(LEventKeeper;I[J)I"⟩
theorem d_W_value_0 : decode c_W_value 0 = .ok (.aload_n 2, 1) := by decide +kernel
theorem d_W_value_1 : decode c_W_value 1 = .ok (.iconst 0, 1) := by decide +kernel
theorem d_W_value_2 : decode c_W_value 2 = .ok (.aload_n 0, 1) := by decide +kernel
theorem d_W_value_3 : decode c_W_value 3 = .ok (.iload_n 1, 1) := by decide +kernel
theorem d_W_value_4 : decode c_W_value 4 = .ok (.invokevirtual 48, 3) := by decide +kernel
theorem d_W_value_7 : decode c_W_value 7 = .ok (.lastore, 1) := by decide +kernel
theorem d_W_value_8 : decode c_W_value 8 = .ok (.goto 6, 3) := by decide +kernel
theorem d_W_value_11 : decode c_W_value 11 = .ok (.astore_n 3, 1) := by decide +kernel
theorem d_W_value_12 : decode c_W_value 12 = .ok (.iconst 1, 1) := by decide +kernel
theorem d_W_value_13 : decode c_W_value 13 = .ok (.ireturn, 1) := by decide +kernel
theorem d_W_value_14 : decode c_W_value 14 = .ok (.iconst 0, 1) := by decide +kernel
theorem d_W_value_15 : decode c_W_value 15 = .ok (.ireturn, 1) := by decide +kernel
abbrev c_W_find : ByteArray := method_13_code
def y_W_find : MethodName := ⟨"EventKeeperLaw", "find", "(LEventKeeper;II[J)I"⟩
theorem d_W_find_0 : decode c_W_find 0 = .ok (.aload_n 3, 1) := by decide +kernel
theorem d_W_find_1 : decode c_W_find 1 = .ok (.iconst 0, 1) := by decide +kernel
theorem d_W_find_2 : decode c_W_find 2 = .ok (.aload_n 0, 1) := by decide +kernel
theorem d_W_find_3 : decode c_W_find 3 = .ok (.iload_n 1, 1) := by decide +kernel
theorem d_W_find_4 : decode c_W_find 4 = .ok (.iload_n 2, 1) := by decide +kernel
theorem d_W_find_5 : decode c_W_find 5 = .ok (.invokevirtual 52, 3) := by decide +kernel
theorem d_W_find_8 : decode c_W_find 8 = .ok (.i2l, 1) := by decide +kernel
theorem d_W_find_9 : decode c_W_find 9 = .ok (.lastore, 1) := by decide +kernel
theorem d_W_find_10 : decode c_W_find 10 = .ok (.goto 11, 3) := by decide +kernel
theorem d_W_find_13 : decode c_W_find 13 = .ok (.astore 4, 2) := by decide +kernel
theorem d_W_find_15 : decode c_W_find 15 = .ok (.iconst 1, 1) := by decide +kernel
theorem d_W_find_16 : decode c_W_find 16 = .ok (.ireturn, 1) := by decide +kernel
theorem d_W_find_17 : decode c_W_find 17 = .ok (.astore 4, 2) := by decide +kernel
theorem d_W_find_19 : decode c_W_find 19 = .ok (.iconst 2, 1) := by decide +kernel
theorem d_W_find_20 : decode c_W_find 20 = .ok (.ireturn, 1) := by decide +kernel
theorem d_W_find_21 : decode c_W_find 21 = .ok (.iconst 0, 1) := by decide +kernel
theorem d_W_find_22 : decode c_W_find 22 = .ok (.ireturn, 1) := by decide +kernel
abbrev c_W_count : ByteArray := method_14_code
def y_W_count : MethodName := ⟨"EventKeeperLaw", "count", "(LEventKeeper;II[J)I"⟩
theorem d_W_count_0 : decode c_W_count 0 = .ok (.aload_n 3, 1) := by decide +kernel
theorem d_W_count_1 : decode c_W_count 1 = .ok (.iconst 0, 1) := by decide +kernel
theorem d_W_count_2 : decode c_W_count 2 = .ok (.aload_n 0, 1) := by decide +kernel
theorem d_W_count_3 : decode c_W_count 3 = .ok (.iload_n 1, 1) := by decide +kernel
theorem d_W_count_4 : decode c_W_count 4 = .ok (.iload_n 2, 1) := by decide +kernel
theorem d_W_count_5 : decode c_W_count 5 = .ok (.invokevirtual 55, 3) := by decide +kernel
theorem d_W_count_8 : decode c_W_count 8 = .ok (.i2l, 1) := by decide +kernel
theorem d_W_count_9 : decode c_W_count 9 = .ok (.lastore, 1) := by decide +kernel
theorem d_W_count_10 : decode c_W_count 10 = .ok (.goto 7, 3) := by decide +kernel
theorem d_W_count_13 : decode c_W_count 13 = .ok (.astore 4, 2) := by decide +kernel
theorem d_W_count_15 : decode c_W_count 15 = .ok (.iconst 1, 1) := by decide +kernel
theorem d_W_count_16 : decode c_W_count 16 = .ok (.ireturn, 1) := by decide +kernel
theorem d_W_count_17 : decode c_W_count 17 = .ok (.iconst 0, 1) := by decide +kernel
theorem d_W_count_18 : decode c_W_count 18 = .ok (.ireturn, 1) := by decide +kernel
abbrev c_W_law : ByteArray := code
def y_W_law : MethodName := ⟨"EventKeeperLaw", "law", "([I)Z"⟩
theorem d_W_law_0 : decode c_W_law 0 = .ok (.new 8, 3) := by decide +kernel
theorem d_W_law_3 : decode c_W_law 3 = .ok (.dup, 1) := by decide +kernel
theorem d_W_law_4 : decode c_W_law 4 = .ok (.invokespecial 58, 3) := by decide +kernel
theorem d_W_law_7 : decode c_W_law 7 = .ok (.astore_n 1, 1) := by decide +kernel
theorem d_W_law_8 : decode c_W_law 8 = .ok (.new 59, 3) := by decide +kernel
theorem d_W_law_11 : decode c_W_law 11 = .ok (.dup, 1) := by decide +kernel
theorem d_W_law_12 : decode c_W_law 12 = .ok (.invokespecial 61, 3) := by decide +kernel
theorem d_W_law_15 : decode c_W_law 15 = .ok (.astore_n 2, 1) := by decide +kernel
theorem d_W_law_16 : decode c_W_law 16 = .ok (.iconst 1, 1) := by decide +kernel
theorem d_W_law_17 : decode c_W_law 17 = .ok (.newarray .long, 2) := by decide +kernel
theorem d_W_law_19 : decode c_W_law 19 = .ok (.astore_n 3, 1) := by decide +kernel
theorem d_W_law_20 : decode c_W_law 20 = .ok (.iconst 0, 1) := by decide +kernel
theorem d_W_law_21 : decode c_W_law 21 = .ok (.istore 4, 2) := by decide +kernel
theorem d_W_law_23 : decode c_W_law 23 = .ok (.iload 4, 2) := by decide +kernel
theorem d_W_law_25 : decode c_W_law 25 = .ok (.aload_n 0, 1) := by decide +kernel
theorem d_W_law_26 : decode c_W_law 26 = .ok (.arraylength, 1) := by decide +kernel
theorem d_W_law_27 : decode c_W_law 27 = .ok (.bipush 6, 2) := by decide +kernel
theorem d_W_law_29 : decode c_W_law 29 = .ok (.isub, 1) := by decide +kernel
theorem d_W_law_30 : decode c_W_law 30 = .ok (.if_icmp .gt 944, 3) := by decide +kernel
theorem d_W_law_33 : decode c_W_law 33 = .ok (.aload_n 0, 1) := by decide +kernel
theorem d_W_law_34 : decode c_W_law 34 = .ok (.iload 4, 2) := by decide +kernel
theorem d_W_law_36 : decode c_W_law 36 = .ok (.iaload, 1) := by decide +kernel
theorem d_W_law_37 : decode c_W_law 37 = .ok (.bipush 15, 2) := by decide +kernel
theorem d_W_law_39 : decode c_W_law 39 = .ok (.iand, 1) := by decide +kernel
theorem d_W_law_40 : decode c_W_law 40 = .ok (.tableswitch 928 0 13 #[72, 196, 268, 336, 392, 459, 519, 575, 643, 656, 669, 737, 792, 860], 72) := by decide +kernel
theorem d_W_law_112 : decode c_W_law 112 = .ok (.aload_n 1, 1) := by decide +kernel
theorem d_W_law_113 : decode c_W_law 113 = .ok (.aload_n 0, 1) := by decide +kernel
theorem d_W_law_114 : decode c_W_law 114 = .ok (.iload 4, 2) := by decide +kernel
theorem d_W_law_116 : decode c_W_law 116 = .ok (.iconst 1, 1) := by decide +kernel
theorem d_W_law_117 : decode c_W_law 117 = .ok (.iadd, 1) := by decide +kernel
theorem d_W_law_118 : decode c_W_law 118 = .ok (.iaload, 1) := by decide +kernel
theorem d_W_law_119 : decode c_W_law 119 = .ok (.aload_n 0, 1) := by decide +kernel
theorem d_W_law_120 : decode c_W_law 120 = .ok (.iload 4, 2) := by decide +kernel
theorem d_W_law_122 : decode c_W_law 122 = .ok (.iconst 2, 1) := by decide +kernel
theorem d_W_law_123 : decode c_W_law 123 = .ok (.iadd, 1) := by decide +kernel
theorem d_W_law_124 : decode c_W_law 124 = .ok (.iaload, 1) := by decide +kernel
theorem d_W_law_125 : decode c_W_law 125 = .ok (.aload_n 0, 1) := by decide +kernel
theorem d_W_law_126 : decode c_W_law 126 = .ok (.iload 4, 2) := by decide +kernel
theorem d_W_law_128 : decode c_W_law 128 = .ok (.iconst 3, 1) := by decide +kernel
theorem d_W_law_129 : decode c_W_law 129 = .ok (.iadd, 1) := by decide +kernel
theorem d_W_law_130 : decode c_W_law 130 = .ok (.iaload, 1) := by decide +kernel
theorem d_W_law_131 : decode c_W_law 131 = .ok (.aload_n 0, 1) := by decide +kernel
theorem d_W_law_132 : decode c_W_law 132 = .ok (.iload 4, 2) := by decide +kernel
theorem d_W_law_134 : decode c_W_law 134 = .ok (.iconst 4, 1) := by decide +kernel
theorem d_W_law_135 : decode c_W_law 135 = .ok (.iadd, 1) := by decide +kernel
theorem d_W_law_136 : decode c_W_law 136 = .ok (.iaload, 1) := by decide +kernel
theorem d_W_law_137 : decode c_W_law 137 = .ok (.i2l, 1) := by decide +kernel
theorem d_W_law_138 : decode c_W_law 138 = .ok (.bipush 32, 2) := by decide +kernel
theorem d_W_law_140 : decode c_W_law 140 = .ok (.lshl, 1) := by decide +kernel
theorem d_W_law_141 : decode c_W_law 141 = .ok (.aload_n 0, 1) := by decide +kernel
theorem d_W_law_142 : decode c_W_law 142 = .ok (.iload 4, 2) := by decide +kernel
theorem d_W_law_144 : decode c_W_law 144 = .ok (.iconst 5, 1) := by decide +kernel
theorem d_W_law_145 : decode c_W_law 145 = .ok (.iadd, 1) := by decide +kernel
theorem d_W_law_146 : decode c_W_law 146 = .ok (.iaload, 1) := by decide +kernel
theorem d_W_law_147 : decode c_W_law 147 = .ok (.i2l, 1) := by decide +kernel
theorem d_W_law_148 : decode c_W_law 148 = .ok (.ldc2_w 62, 3) := by decide +kernel
theorem d_W_law_151 : decode c_W_law 151 = .ok (.land, 1) := by decide +kernel
theorem d_W_law_152 : decode c_W_law 152 = .ok (.lor, 1) := by decide +kernel
theorem d_W_law_153 : decode c_W_law 153 = .ok (.aload_n 3, 1) := by decide +kernel
theorem d_W_law_154 : decode c_W_law 154 = .ok (.invokestatic 64, 3) := by decide +kernel
theorem d_W_law_157 : decode c_W_law 157 = .ok (.istore 5, 2) := by decide +kernel
theorem d_W_law_159 : decode c_W_law 159 = .ok (.aload_n 2, 1) := by decide +kernel
theorem d_W_law_160 : decode c_W_law 160 = .ok (.aload_n 0, 1) := by decide +kernel
theorem d_W_law_161 : decode c_W_law 161 = .ok (.iload 4, 2) := by decide +kernel
theorem d_W_law_163 : decode c_W_law 163 = .ok (.iconst 1, 1) := by decide +kernel
theorem d_W_law_164 : decode c_W_law 164 = .ok (.iadd, 1) := by decide +kernel
theorem d_W_law_165 : decode c_W_law 165 = .ok (.iaload, 1) := by decide +kernel
theorem d_W_law_166 : decode c_W_law 166 = .ok (.aload_n 0, 1) := by decide +kernel
theorem d_W_law_167 : decode c_W_law 167 = .ok (.iload 4, 2) := by decide +kernel
theorem d_W_law_169 : decode c_W_law 169 = .ok (.iconst 2, 1) := by decide +kernel
theorem d_W_law_170 : decode c_W_law 170 = .ok (.iadd, 1) := by decide +kernel
theorem d_W_law_171 : decode c_W_law 171 = .ok (.iaload, 1) := by decide +kernel
theorem d_W_law_172 : decode c_W_law 172 = .ok (.aload_n 0, 1) := by decide +kernel
theorem d_W_law_173 : decode c_W_law 173 = .ok (.iload 4, 2) := by decide +kernel
theorem d_W_law_175 : decode c_W_law 175 = .ok (.iconst 3, 1) := by decide +kernel
theorem d_W_law_176 : decode c_W_law 176 = .ok (.iadd, 1) := by decide +kernel
theorem d_W_law_177 : decode c_W_law 177 = .ok (.iaload, 1) := by decide +kernel
theorem d_W_law_178 : decode c_W_law 178 = .ok (.aload_n 0, 1) := by decide +kernel
theorem d_W_law_179 : decode c_W_law 179 = .ok (.iload 4, 2) := by decide +kernel
theorem d_W_law_181 : decode c_W_law 181 = .ok (.iconst 4, 1) := by decide +kernel
theorem d_W_law_182 : decode c_W_law 182 = .ok (.iadd, 1) := by decide +kernel
theorem d_W_law_183 : decode c_W_law 183 = .ok (.iaload, 1) := by decide +kernel
theorem d_W_law_184 : decode c_W_law 184 = .ok (.i2l, 1) := by decide +kernel
theorem d_W_law_185 : decode c_W_law 185 = .ok (.bipush 32, 2) := by decide +kernel
theorem d_W_law_187 : decode c_W_law 187 = .ok (.lshl, 1) := by decide +kernel
theorem d_W_law_188 : decode c_W_law 188 = .ok (.aload_n 0, 1) := by decide +kernel
theorem d_W_law_189 : decode c_W_law 189 = .ok (.iload 4, 2) := by decide +kernel
theorem d_W_law_191 : decode c_W_law 191 = .ok (.iconst 5, 1) := by decide +kernel
theorem d_W_law_192 : decode c_W_law 192 = .ok (.iadd, 1) := by decide +kernel
theorem d_W_law_193 : decode c_W_law 193 = .ok (.iaload, 1) := by decide +kernel
theorem d_W_law_194 : decode c_W_law 194 = .ok (.i2l, 1) := by decide +kernel
theorem d_W_law_195 : decode c_W_law 195 = .ok (.ldc2_w 62, 3) := by decide +kernel
theorem d_W_law_198 : decode c_W_law 198 = .ok (.land, 1) := by decide +kernel
theorem d_W_law_199 : decode c_W_law 199 = .ok (.lor, 1) := by decide +kernel
theorem d_W_law_200 : decode c_W_law 200 = .ok (.invokevirtual 69, 3) := by decide +kernel
theorem d_W_law_203 : decode c_W_law 203 = .ok (.istore 6, 2) := by decide +kernel
theorem d_W_law_205 : decode c_W_law 205 = .ok (.aload_n 2, 1) := by decide +kernel
theorem d_W_law_206 : decode c_W_law 206 = .ok (.invokevirtual 70, 3) := by decide +kernel
theorem d_W_law_209 : decode c_W_law 209 = .ok (.iload 5, 2) := by decide +kernel
theorem d_W_law_211 : decode c_W_law 211 = .ok (.if_icmp .eq 5, 3) := by decide +kernel
theorem d_W_law_214 : decode c_W_law 214 = .ok (.iconst 0, 1) := by decide +kernel
theorem d_W_law_215 : decode c_W_law 215 = .ok (.ireturn, 1) := by decide +kernel
theorem d_W_law_216 : decode c_W_law 216 = .ok (.iload 5, 2) := by decide +kernel
theorem d_W_law_218 : decode c_W_law 218 = .ok (.ifCond .ne 15, 3) := by decide +kernel
theorem d_W_law_221 : decode c_W_law 221 = .ok (.aload_n 3, 1) := by decide +kernel
theorem d_W_law_222 : decode c_W_law 222 = .ok (.iconst 0, 1) := by decide +kernel
theorem d_W_law_223 : decode c_W_law 223 = .ok (.laload, 1) := by decide +kernel
theorem d_W_law_224 : decode c_W_law 224 = .ok (.iload 6, 2) := by decide +kernel
theorem d_W_law_226 : decode c_W_law 226 = .ok (.i2l, 1) := by decide +kernel
theorem d_W_law_227 : decode c_W_law 227 = .ok (.lcmp, 1) := by decide +kernel
theorem d_W_law_228 : decode c_W_law 228 = .ok (.ifCond .eq 5, 3) := by decide +kernel
theorem d_W_law_231 : decode c_W_law 231 = .ok (.iconst 0, 1) := by decide +kernel
theorem d_W_law_232 : decode c_W_law 232 = .ok (.ireturn, 1) := by decide +kernel
theorem d_W_law_233 : decode c_W_law 233 = .ok (.goto 735, 3) := by decide +kernel
theorem d_W_law_236 : decode c_W_law 236 = .ok (.aload_n 1, 1) := by decide +kernel
theorem d_W_law_237 : decode c_W_law 237 = .ok (.aload_n 0, 1) := by decide +kernel
theorem d_W_law_238 : decode c_W_law 238 = .ok (.iload 4, 2) := by decide +kernel
theorem d_W_law_240 : decode c_W_law 240 = .ok (.iconst 1, 1) := by decide +kernel
theorem d_W_law_241 : decode c_W_law 241 = .ok (.iadd, 1) := by decide +kernel
theorem d_W_law_242 : decode c_W_law 242 = .ok (.iaload, 1) := by decide +kernel
theorem d_W_law_243 : decode c_W_law 243 = .ok (.aload_n 0, 1) := by decide +kernel
theorem d_W_law_244 : decode c_W_law 244 = .ok (.iload 4, 2) := by decide +kernel
theorem d_W_law_246 : decode c_W_law 246 = .ok (.iconst 2, 1) := by decide +kernel
theorem d_W_law_247 : decode c_W_law 247 = .ok (.iadd, 1) := by decide +kernel
theorem d_W_law_248 : decode c_W_law 248 = .ok (.iaload, 1) := by decide +kernel
theorem d_W_law_249 : decode c_W_law 249 = .ok (.aload_n 0, 1) := by decide +kernel
theorem d_W_law_250 : decode c_W_law 250 = .ok (.iload 4, 2) := by decide +kernel
theorem d_W_law_252 : decode c_W_law 252 = .ok (.iconst 3, 1) := by decide +kernel
theorem d_W_law_253 : decode c_W_law 253 = .ok (.iadd, 1) := by decide +kernel
theorem d_W_law_254 : decode c_W_law 254 = .ok (.iaload, 1) := by decide +kernel
theorem d_W_law_255 : decode c_W_law 255 = .ok (.aload_n 0, 1) := by decide +kernel
theorem d_W_law_256 : decode c_W_law 256 = .ok (.iload 4, 2) := by decide +kernel
theorem d_W_law_258 : decode c_W_law 258 = .ok (.iconst 4, 1) := by decide +kernel
theorem d_W_law_259 : decode c_W_law 259 = .ok (.iadd, 1) := by decide +kernel
theorem d_W_law_260 : decode c_W_law 260 = .ok (.iaload, 1) := by decide +kernel
theorem d_W_law_261 : decode c_W_law 261 = .ok (.invokestatic 74, 3) := by decide +kernel
theorem d_W_law_264 : decode c_W_law 264 = .ok (.istore 5, 2) := by decide +kernel
theorem d_W_law_266 : decode c_W_law 266 = .ok (.aload_n 2, 1) := by decide +kernel
theorem d_W_law_267 : decode c_W_law 267 = .ok (.aload_n 0, 1) := by decide +kernel
theorem d_W_law_268 : decode c_W_law 268 = .ok (.iload 4, 2) := by decide +kernel
theorem d_W_law_270 : decode c_W_law 270 = .ok (.iconst 1, 1) := by decide +kernel
theorem d_W_law_271 : decode c_W_law 271 = .ok (.iadd, 1) := by decide +kernel
theorem d_W_law_272 : decode c_W_law 272 = .ok (.iaload, 1) := by decide +kernel
theorem d_W_law_273 : decode c_W_law 273 = .ok (.aload_n 0, 1) := by decide +kernel
theorem d_W_law_274 : decode c_W_law 274 = .ok (.iload 4, 2) := by decide +kernel
theorem d_W_law_276 : decode c_W_law 276 = .ok (.iconst 2, 1) := by decide +kernel
theorem d_W_law_277 : decode c_W_law 277 = .ok (.iadd, 1) := by decide +kernel
theorem d_W_law_278 : decode c_W_law 278 = .ok (.iaload, 1) := by decide +kernel
theorem d_W_law_279 : decode c_W_law 279 = .ok (.aload_n 0, 1) := by decide +kernel
theorem d_W_law_280 : decode c_W_law 280 = .ok (.iload 4, 2) := by decide +kernel
theorem d_W_law_282 : decode c_W_law 282 = .ok (.iconst 3, 1) := by decide +kernel
theorem d_W_law_283 : decode c_W_law 283 = .ok (.iadd, 1) := by decide +kernel
theorem d_W_law_284 : decode c_W_law 284 = .ok (.iaload, 1) := by decide +kernel
theorem d_W_law_285 : decode c_W_law 285 = .ok (.aload_n 0, 1) := by decide +kernel
theorem d_W_law_286 : decode c_W_law 286 = .ok (.iload 4, 2) := by decide +kernel
theorem d_W_law_288 : decode c_W_law 288 = .ok (.iconst 4, 1) := by decide +kernel
theorem d_W_law_289 : decode c_W_law 289 = .ok (.iadd, 1) := by decide +kernel
theorem d_W_law_290 : decode c_W_law 290 = .ok (.iaload, 1) := by decide +kernel
theorem d_W_law_291 : decode c_W_law 291 = .ok (.invokevirtual 77, 3) := by decide +kernel
theorem d_W_law_294 : decode c_W_law 294 = .ok (.aload_n 2, 1) := by decide +kernel
theorem d_W_law_295 : decode c_W_law 295 = .ok (.invokevirtual 70, 3) := by decide +kernel
theorem d_W_law_298 : decode c_W_law 298 = .ok (.iload 5, 2) := by decide +kernel
theorem d_W_law_300 : decode c_W_law 300 = .ok (.if_icmp .eq 5, 3) := by decide +kernel
theorem d_W_law_303 : decode c_W_law 303 = .ok (.iconst 0, 1) := by decide +kernel
theorem d_W_law_304 : decode c_W_law 304 = .ok (.ireturn, 1) := by decide +kernel
theorem d_W_law_305 : decode c_W_law 305 = .ok (.goto 663, 3) := by decide +kernel
theorem d_W_law_308 : decode c_W_law 308 = .ok (.aload_n 1, 1) := by decide +kernel
theorem d_W_law_309 : decode c_W_law 309 = .ok (.aload_n 0, 1) := by decide +kernel
theorem d_W_law_310 : decode c_W_law 310 = .ok (.iload 4, 2) := by decide +kernel
theorem d_W_law_312 : decode c_W_law 312 = .ok (.iconst 1, 1) := by decide +kernel
theorem d_W_law_313 : decode c_W_law 313 = .ok (.iadd, 1) := by decide +kernel
theorem d_W_law_314 : decode c_W_law 314 = .ok (.iaload, 1) := by decide +kernel
theorem d_W_law_315 : decode c_W_law 315 = .ok (.aload_n 0, 1) := by decide +kernel
theorem d_W_law_316 : decode c_W_law 316 = .ok (.iload 4, 2) := by decide +kernel
theorem d_W_law_318 : decode c_W_law 318 = .ok (.iconst 2, 1) := by decide +kernel
theorem d_W_law_319 : decode c_W_law 319 = .ok (.iadd, 1) := by decide +kernel
theorem d_W_law_320 : decode c_W_law 320 = .ok (.iaload, 1) := by decide +kernel
theorem d_W_law_321 : decode c_W_law 321 = .ok (.aload_n 3, 1) := by decide +kernel
theorem d_W_law_322 : decode c_W_law 322 = .ok (.invokestatic 78, 3) := by decide +kernel
theorem d_W_law_325 : decode c_W_law 325 = .ok (.istore 5, 2) := by decide +kernel
theorem d_W_law_327 : decode c_W_law 327 = .ok (.aload_n 2, 1) := by decide +kernel
theorem d_W_law_328 : decode c_W_law 328 = .ok (.aload_n 0, 1) := by decide +kernel
theorem d_W_law_329 : decode c_W_law 329 = .ok (.iload 4, 2) := by decide +kernel
theorem d_W_law_331 : decode c_W_law 331 = .ok (.iconst 1, 1) := by decide +kernel
theorem d_W_law_332 : decode c_W_law 332 = .ok (.iadd, 1) := by decide +kernel
theorem d_W_law_333 : decode c_W_law 333 = .ok (.iaload, 1) := by decide +kernel
theorem d_W_law_334 : decode c_W_law 334 = .ok (.aload_n 0, 1) := by decide +kernel
theorem d_W_law_335 : decode c_W_law 335 = .ok (.iload 4, 2) := by decide +kernel
theorem d_W_law_337 : decode c_W_law 337 = .ok (.iconst 2, 1) := by decide +kernel
theorem d_W_law_338 : decode c_W_law 338 = .ok (.iadd, 1) := by decide +kernel
theorem d_W_law_339 : decode c_W_law 339 = .ok (.iaload, 1) := by decide +kernel
theorem d_W_law_340 : decode c_W_law 340 = .ok (.invokevirtual 81, 3) := by decide +kernel
theorem d_W_law_343 : decode c_W_law 343 = .ok (.istore 6, 2) := by decide +kernel
theorem d_W_law_345 : decode c_W_law 345 = .ok (.aload_n 2, 1) := by decide +kernel
theorem d_W_law_346 : decode c_W_law 346 = .ok (.invokevirtual 70, 3) := by decide +kernel
theorem d_W_law_349 : decode c_W_law 349 = .ok (.iload 5, 2) := by decide +kernel
theorem d_W_law_351 : decode c_W_law 351 = .ok (.if_icmp .eq 5, 3) := by decide +kernel
theorem d_W_law_354 : decode c_W_law 354 = .ok (.iconst 0, 1) := by decide +kernel
theorem d_W_law_355 : decode c_W_law 355 = .ok (.ireturn, 1) := by decide +kernel
theorem d_W_law_356 : decode c_W_law 356 = .ok (.iload 5, 2) := by decide +kernel
theorem d_W_law_358 : decode c_W_law 358 = .ok (.ifCond .ne 15, 3) := by decide +kernel
theorem d_W_law_361 : decode c_W_law 361 = .ok (.aload_n 3, 1) := by decide +kernel
theorem d_W_law_362 : decode c_W_law 362 = .ok (.iconst 0, 1) := by decide +kernel
theorem d_W_law_363 : decode c_W_law 363 = .ok (.laload, 1) := by decide +kernel
theorem d_W_law_364 : decode c_W_law 364 = .ok (.iload 6, 2) := by decide +kernel
theorem d_W_law_366 : decode c_W_law 366 = .ok (.i2l, 1) := by decide +kernel
theorem d_W_law_367 : decode c_W_law 367 = .ok (.lcmp, 1) := by decide +kernel
theorem d_W_law_368 : decode c_W_law 368 = .ok (.ifCond .eq 5, 3) := by decide +kernel
theorem d_W_law_371 : decode c_W_law 371 = .ok (.iconst 0, 1) := by decide +kernel
theorem d_W_law_372 : decode c_W_law 372 = .ok (.ireturn, 1) := by decide +kernel
theorem d_W_law_373 : decode c_W_law 373 = .ok (.goto 595, 3) := by decide +kernel
theorem d_W_law_376 : decode c_W_law 376 = .ok (.aload_n 1, 1) := by decide +kernel
theorem d_W_law_377 : decode c_W_law 377 = .ok (.aload_n 0, 1) := by decide +kernel
theorem d_W_law_378 : decode c_W_law 378 = .ok (.iload 4, 2) := by decide +kernel
theorem d_W_law_380 : decode c_W_law 380 = .ok (.iconst 1, 1) := by decide +kernel
theorem d_W_law_381 : decode c_W_law 381 = .ok (.iadd, 1) := by decide +kernel
theorem d_W_law_382 : decode c_W_law 382 = .ok (.iaload, 1) := by decide +kernel
theorem d_W_law_383 : decode c_W_law 383 = .ok (.aload_n 3, 1) := by decide +kernel
theorem d_W_law_384 : decode c_W_law 384 = .ok (.invokestatic 82, 3) := by decide +kernel
theorem d_W_law_387 : decode c_W_law 387 = .ok (.istore 5, 2) := by decide +kernel
theorem d_W_law_389 : decode c_W_law 389 = .ok (.aload_n 2, 1) := by decide +kernel
theorem d_W_law_390 : decode c_W_law 390 = .ok (.aload_n 0, 1) := by decide +kernel
theorem d_W_law_391 : decode c_W_law 391 = .ok (.iload 4, 2) := by decide +kernel
theorem d_W_law_393 : decode c_W_law 393 = .ok (.iconst 1, 1) := by decide +kernel
theorem d_W_law_394 : decode c_W_law 394 = .ok (.iadd, 1) := by decide +kernel
theorem d_W_law_395 : decode c_W_law 395 = .ok (.iaload, 1) := by decide +kernel
theorem d_W_law_396 : decode c_W_law 396 = .ok (.invokevirtual 85, 3) := by decide +kernel
theorem d_W_law_399 : decode c_W_law 399 = .ok (.istore 6, 2) := by decide +kernel
theorem d_W_law_401 : decode c_W_law 401 = .ok (.aload_n 2, 1) := by decide +kernel
theorem d_W_law_402 : decode c_W_law 402 = .ok (.invokevirtual 70, 3) := by decide +kernel
theorem d_W_law_405 : decode c_W_law 405 = .ok (.iload 5, 2) := by decide +kernel
theorem d_W_law_407 : decode c_W_law 407 = .ok (.if_icmp .eq 5, 3) := by decide +kernel
theorem d_W_law_410 : decode c_W_law 410 = .ok (.iconst 0, 1) := by decide +kernel
theorem d_W_law_411 : decode c_W_law 411 = .ok (.ireturn, 1) := by decide +kernel
theorem d_W_law_412 : decode c_W_law 412 = .ok (.iload 5, 2) := by decide +kernel
theorem d_W_law_414 : decode c_W_law 414 = .ok (.ifCond .ne 15, 3) := by decide +kernel
theorem d_W_law_417 : decode c_W_law 417 = .ok (.aload_n 3, 1) := by decide +kernel
theorem d_W_law_418 : decode c_W_law 418 = .ok (.iconst 0, 1) := by decide +kernel
theorem d_W_law_419 : decode c_W_law 419 = .ok (.laload, 1) := by decide +kernel
theorem d_W_law_420 : decode c_W_law 420 = .ok (.iload 6, 2) := by decide +kernel
theorem d_W_law_422 : decode c_W_law 422 = .ok (.i2l, 1) := by decide +kernel
theorem d_W_law_423 : decode c_W_law 423 = .ok (.lcmp, 1) := by decide +kernel
theorem d_W_law_424 : decode c_W_law 424 = .ok (.ifCond .eq 5, 3) := by decide +kernel
theorem d_W_law_427 : decode c_W_law 427 = .ok (.iconst 0, 1) := by decide +kernel
theorem d_W_law_428 : decode c_W_law 428 = .ok (.ireturn, 1) := by decide +kernel
theorem d_W_law_429 : decode c_W_law 429 = .ok (.goto 539, 3) := by decide +kernel
theorem d_W_law_432 : decode c_W_law 432 = .ok (.aload_n 1, 1) := by decide +kernel
theorem d_W_law_433 : decode c_W_law 433 = .ok (.aload_n 0, 1) := by decide +kernel
theorem d_W_law_434 : decode c_W_law 434 = .ok (.iload 4, 2) := by decide +kernel
theorem d_W_law_436 : decode c_W_law 436 = .ok (.iconst 1, 1) := by decide +kernel
theorem d_W_law_437 : decode c_W_law 437 = .ok (.iadd, 1) := by decide +kernel
theorem d_W_law_438 : decode c_W_law 438 = .ok (.iaload, 1) := by decide +kernel
theorem d_W_law_439 : decode c_W_law 439 = .ok (.aload_n 0, 1) := by decide +kernel
theorem d_W_law_440 : decode c_W_law 440 = .ok (.iload 4, 2) := by decide +kernel
theorem d_W_law_442 : decode c_W_law 442 = .ok (.iconst 2, 1) := by decide +kernel
theorem d_W_law_443 : decode c_W_law 443 = .ok (.iadd, 1) := by decide +kernel
theorem d_W_law_444 : decode c_W_law 444 = .ok (.iaload, 1) := by decide +kernel
theorem d_W_law_445 : decode c_W_law 445 = .ok (.aload_n 3, 1) := by decide +kernel
theorem d_W_law_446 : decode c_W_law 446 = .ok (.invokestatic 86, 3) := by decide +kernel
theorem d_W_law_449 : decode c_W_law 449 = .ok (.istore 5, 2) := by decide +kernel
theorem d_W_law_451 : decode c_W_law 451 = .ok (.aload_n 2, 1) := by decide +kernel
theorem d_W_law_452 : decode c_W_law 452 = .ok (.aload_n 0, 1) := by decide +kernel
theorem d_W_law_453 : decode c_W_law 453 = .ok (.iload 4, 2) := by decide +kernel
theorem d_W_law_455 : decode c_W_law 455 = .ok (.iconst 1, 1) := by decide +kernel
theorem d_W_law_456 : decode c_W_law 456 = .ok (.iadd, 1) := by decide +kernel
theorem d_W_law_457 : decode c_W_law 457 = .ok (.iaload, 1) := by decide +kernel
theorem d_W_law_458 : decode c_W_law 458 = .ok (.aload_n 0, 1) := by decide +kernel
theorem d_W_law_459 : decode c_W_law 459 = .ok (.iload 4, 2) := by decide +kernel
theorem d_W_law_461 : decode c_W_law 461 = .ok (.iconst 2, 1) := by decide +kernel
theorem d_W_law_462 : decode c_W_law 462 = .ok (.iadd, 1) := by decide +kernel
theorem d_W_law_463 : decode c_W_law 463 = .ok (.iaload, 1) := by decide +kernel
theorem d_W_law_464 : decode c_W_law 464 = .ok (.invokevirtual 88, 3) := by decide +kernel
theorem d_W_law_467 : decode c_W_law 467 = .ok (.lstore 6, 2) := by decide +kernel
theorem d_W_law_469 : decode c_W_law 469 = .ok (.aload_n 2, 1) := by decide +kernel
theorem d_W_law_470 : decode c_W_law 470 = .ok (.invokevirtual 70, 3) := by decide +kernel
theorem d_W_law_473 : decode c_W_law 473 = .ok (.iload 5, 2) := by decide +kernel
theorem d_W_law_475 : decode c_W_law 475 = .ok (.if_icmp .eq 5, 3) := by decide +kernel
theorem d_W_law_478 : decode c_W_law 478 = .ok (.iconst 0, 1) := by decide +kernel
theorem d_W_law_479 : decode c_W_law 479 = .ok (.ireturn, 1) := by decide +kernel
theorem d_W_law_480 : decode c_W_law 480 = .ok (.iload 5, 2) := by decide +kernel
theorem d_W_law_482 : decode c_W_law 482 = .ok (.ifCond .ne 14, 3) := by decide +kernel
theorem d_W_law_485 : decode c_W_law 485 = .ok (.aload_n 3, 1) := by decide +kernel
theorem d_W_law_486 : decode c_W_law 486 = .ok (.iconst 0, 1) := by decide +kernel
theorem d_W_law_487 : decode c_W_law 487 = .ok (.laload, 1) := by decide +kernel
theorem d_W_law_488 : decode c_W_law 488 = .ok (.lload 6, 2) := by decide +kernel
theorem d_W_law_490 : decode c_W_law 490 = .ok (.lcmp, 1) := by decide +kernel
theorem d_W_law_491 : decode c_W_law 491 = .ok (.ifCond .eq 5, 3) := by decide +kernel
theorem d_W_law_494 : decode c_W_law 494 = .ok (.iconst 0, 1) := by decide +kernel
theorem d_W_law_495 : decode c_W_law 495 = .ok (.ireturn, 1) := by decide +kernel
theorem d_W_law_496 : decode c_W_law 496 = .ok (.goto 472, 3) := by decide +kernel
theorem d_W_law_499 : decode c_W_law 499 = .ok (.aload_n 1, 1) := by decide +kernel
theorem d_W_law_500 : decode c_W_law 500 = .ok (.aload_n 0, 1) := by decide +kernel
theorem d_W_law_501 : decode c_W_law 501 = .ok (.iload 4, 2) := by decide +kernel
theorem d_W_law_503 : decode c_W_law 503 = .ok (.iconst 1, 1) := by decide +kernel
theorem d_W_law_504 : decode c_W_law 504 = .ok (.iadd, 1) := by decide +kernel
theorem d_W_law_505 : decode c_W_law 505 = .ok (.iaload, 1) := by decide +kernel
theorem d_W_law_506 : decode c_W_law 506 = .ok (.aload_n 0, 1) := by decide +kernel
theorem d_W_law_507 : decode c_W_law 507 = .ok (.iload 4, 2) := by decide +kernel
theorem d_W_law_509 : decode c_W_law 509 = .ok (.iconst 2, 1) := by decide +kernel
theorem d_W_law_510 : decode c_W_law 510 = .ok (.iadd, 1) := by decide +kernel
theorem d_W_law_511 : decode c_W_law 511 = .ok (.iaload, 1) := by decide +kernel
theorem d_W_law_512 : decode c_W_law 512 = .ok (.aload_n 0, 1) := by decide +kernel
theorem d_W_law_513 : decode c_W_law 513 = .ok (.iload 4, 2) := by decide +kernel
theorem d_W_law_515 : decode c_W_law 515 = .ok (.iconst 3, 1) := by decide +kernel
theorem d_W_law_516 : decode c_W_law 516 = .ok (.iadd, 1) := by decide +kernel
theorem d_W_law_517 : decode c_W_law 517 = .ok (.iaload, 1) := by decide +kernel
theorem d_W_law_518 : decode c_W_law 518 = .ok (.invokestatic 89, 3) := by decide +kernel
theorem d_W_law_521 : decode c_W_law 521 = .ok (.istore 5, 2) := by decide +kernel
theorem d_W_law_523 : decode c_W_law 523 = .ok (.aload_n 2, 1) := by decide +kernel
theorem d_W_law_524 : decode c_W_law 524 = .ok (.aload_n 0, 1) := by decide +kernel
theorem d_W_law_525 : decode c_W_law 525 = .ok (.iload 4, 2) := by decide +kernel
theorem d_W_law_527 : decode c_W_law 527 = .ok (.iconst 1, 1) := by decide +kernel
theorem d_W_law_528 : decode c_W_law 528 = .ok (.iadd, 1) := by decide +kernel
theorem d_W_law_529 : decode c_W_law 529 = .ok (.iaload, 1) := by decide +kernel
theorem d_W_law_530 : decode c_W_law 530 = .ok (.aload_n 0, 1) := by decide +kernel
theorem d_W_law_531 : decode c_W_law 531 = .ok (.iload 4, 2) := by decide +kernel
theorem d_W_law_533 : decode c_W_law 533 = .ok (.iconst 2, 1) := by decide +kernel
theorem d_W_law_534 : decode c_W_law 534 = .ok (.iadd, 1) := by decide +kernel
theorem d_W_law_535 : decode c_W_law 535 = .ok (.iaload, 1) := by decide +kernel
theorem d_W_law_536 : decode c_W_law 536 = .ok (.aload_n 0, 1) := by decide +kernel
theorem d_W_law_537 : decode c_W_law 537 = .ok (.iload 4, 2) := by decide +kernel
theorem d_W_law_539 : decode c_W_law 539 = .ok (.iconst 3, 1) := by decide +kernel
theorem d_W_law_540 : decode c_W_law 540 = .ok (.iadd, 1) := by decide +kernel
theorem d_W_law_541 : decode c_W_law 541 = .ok (.iaload, 1) := by decide +kernel
theorem d_W_law_542 : decode c_W_law 542 = .ok (.invokevirtual 92, 3) := by decide +kernel
theorem d_W_law_545 : decode c_W_law 545 = .ok (.aload_n 2, 1) := by decide +kernel
theorem d_W_law_546 : decode c_W_law 546 = .ok (.invokevirtual 70, 3) := by decide +kernel
theorem d_W_law_549 : decode c_W_law 549 = .ok (.iload 5, 2) := by decide +kernel
theorem d_W_law_551 : decode c_W_law 551 = .ok (.if_icmp .eq 5, 3) := by decide +kernel
theorem d_W_law_554 : decode c_W_law 554 = .ok (.iconst 0, 1) := by decide +kernel
theorem d_W_law_555 : decode c_W_law 555 = .ok (.ireturn, 1) := by decide +kernel
theorem d_W_law_556 : decode c_W_law 556 = .ok (.goto 412, 3) := by decide +kernel
theorem d_W_law_559 : decode c_W_law 559 = .ok (.aload_n 1, 1) := by decide +kernel
theorem d_W_law_560 : decode c_W_law 560 = .ok (.aload_n 0, 1) := by decide +kernel
theorem d_W_law_561 : decode c_W_law 561 = .ok (.iload 4, 2) := by decide +kernel
theorem d_W_law_563 : decode c_W_law 563 = .ok (.iconst 1, 1) := by decide +kernel
theorem d_W_law_564 : decode c_W_law 564 = .ok (.iadd, 1) := by decide +kernel
theorem d_W_law_565 : decode c_W_law 565 = .ok (.iaload, 1) := by decide +kernel
theorem d_W_law_566 : decode c_W_law 566 = .ok (.aload_n 3, 1) := by decide +kernel
theorem d_W_law_567 : decode c_W_law 567 = .ok (.invokestatic 93, 3) := by decide +kernel
theorem d_W_law_570 : decode c_W_law 570 = .ok (.istore 5, 2) := by decide +kernel
theorem d_W_law_572 : decode c_W_law 572 = .ok (.aload_n 2, 1) := by decide +kernel
theorem d_W_law_573 : decode c_W_law 573 = .ok (.aload_n 0, 1) := by decide +kernel
theorem d_W_law_574 : decode c_W_law 574 = .ok (.iload 4, 2) := by decide +kernel
theorem d_W_law_576 : decode c_W_law 576 = .ok (.iconst 1, 1) := by decide +kernel
theorem d_W_law_577 : decode c_W_law 577 = .ok (.iadd, 1) := by decide +kernel
theorem d_W_law_578 : decode c_W_law 578 = .ok (.iaload, 1) := by decide +kernel
theorem d_W_law_579 : decode c_W_law 579 = .ok (.invokevirtual 95, 3) := by decide +kernel
theorem d_W_law_582 : decode c_W_law 582 = .ok (.istore 6, 2) := by decide +kernel
theorem d_W_law_584 : decode c_W_law 584 = .ok (.aload_n 2, 1) := by decide +kernel
theorem d_W_law_585 : decode c_W_law 585 = .ok (.invokevirtual 70, 3) := by decide +kernel
theorem d_W_law_588 : decode c_W_law 588 = .ok (.iload 5, 2) := by decide +kernel
theorem d_W_law_590 : decode c_W_law 590 = .ok (.if_icmp .eq 5, 3) := by decide +kernel
theorem d_W_law_593 : decode c_W_law 593 = .ok (.iconst 0, 1) := by decide +kernel
theorem d_W_law_594 : decode c_W_law 594 = .ok (.ireturn, 1) := by decide +kernel
theorem d_W_law_595 : decode c_W_law 595 = .ok (.iload 5, 2) := by decide +kernel
theorem d_W_law_597 : decode c_W_law 597 = .ok (.ifCond .ne 15, 3) := by decide +kernel
theorem d_W_law_600 : decode c_W_law 600 = .ok (.aload_n 3, 1) := by decide +kernel
theorem d_W_law_601 : decode c_W_law 601 = .ok (.iconst 0, 1) := by decide +kernel
theorem d_W_law_602 : decode c_W_law 602 = .ok (.laload, 1) := by decide +kernel
theorem d_W_law_603 : decode c_W_law 603 = .ok (.iload 6, 2) := by decide +kernel
theorem d_W_law_605 : decode c_W_law 605 = .ok (.i2l, 1) := by decide +kernel
theorem d_W_law_606 : decode c_W_law 606 = .ok (.lcmp, 1) := by decide +kernel
theorem d_W_law_607 : decode c_W_law 607 = .ok (.ifCond .eq 5, 3) := by decide +kernel
theorem d_W_law_610 : decode c_W_law 610 = .ok (.iconst 0, 1) := by decide +kernel
theorem d_W_law_611 : decode c_W_law 611 = .ok (.ireturn, 1) := by decide +kernel
theorem d_W_law_612 : decode c_W_law 612 = .ok (.goto 356, 3) := by decide +kernel
theorem d_W_law_615 : decode c_W_law 615 = .ok (.aload_n 1, 1) := by decide +kernel
theorem d_W_law_616 : decode c_W_law 616 = .ok (.aload_n 0, 1) := by decide +kernel
theorem d_W_law_617 : decode c_W_law 617 = .ok (.iload 4, 2) := by decide +kernel
theorem d_W_law_619 : decode c_W_law 619 = .ok (.iconst 1, 1) := by decide +kernel
theorem d_W_law_620 : decode c_W_law 620 = .ok (.iadd, 1) := by decide +kernel
theorem d_W_law_621 : decode c_W_law 621 = .ok (.iaload, 1) := by decide +kernel
theorem d_W_law_622 : decode c_W_law 622 = .ok (.aload_n 0, 1) := by decide +kernel
theorem d_W_law_623 : decode c_W_law 623 = .ok (.iload 4, 2) := by decide +kernel
theorem d_W_law_625 : decode c_W_law 625 = .ok (.iconst 2, 1) := by decide +kernel
theorem d_W_law_626 : decode c_W_law 626 = .ok (.iadd, 1) := by decide +kernel
theorem d_W_law_627 : decode c_W_law 627 = .ok (.iaload, 1) := by decide +kernel
theorem d_W_law_628 : decode c_W_law 628 = .ok (.aload_n 3, 1) := by decide +kernel
theorem d_W_law_629 : decode c_W_law 629 = .ok (.invokestatic 96, 3) := by decide +kernel
theorem d_W_law_632 : decode c_W_law 632 = .ok (.istore 5, 2) := by decide +kernel
theorem d_W_law_634 : decode c_W_law 634 = .ok (.aload_n 2, 1) := by decide +kernel
theorem d_W_law_635 : decode c_W_law 635 = .ok (.aload_n 0, 1) := by decide +kernel
theorem d_W_law_636 : decode c_W_law 636 = .ok (.iload 4, 2) := by decide +kernel
theorem d_W_law_638 : decode c_W_law 638 = .ok (.iconst 1, 1) := by decide +kernel
theorem d_W_law_639 : decode c_W_law 639 = .ok (.iadd, 1) := by decide +kernel
theorem d_W_law_640 : decode c_W_law 640 = .ok (.iaload, 1) := by decide +kernel
theorem d_W_law_641 : decode c_W_law 641 = .ok (.aload_n 0, 1) := by decide +kernel
theorem d_W_law_642 : decode c_W_law 642 = .ok (.iload 4, 2) := by decide +kernel
theorem d_W_law_644 : decode c_W_law 644 = .ok (.iconst 2, 1) := by decide +kernel
theorem d_W_law_645 : decode c_W_law 645 = .ok (.iadd, 1) := by decide +kernel
theorem d_W_law_646 : decode c_W_law 646 = .ok (.iaload, 1) := by decide +kernel
theorem d_W_law_647 : decode c_W_law 647 = .ok (.invokevirtual 98, 3) := by decide +kernel
theorem d_W_law_650 : decode c_W_law 650 = .ok (.istore 6, 2) := by decide +kernel
theorem d_W_law_652 : decode c_W_law 652 = .ok (.aload_n 2, 1) := by decide +kernel
theorem d_W_law_653 : decode c_W_law 653 = .ok (.invokevirtual 70, 3) := by decide +kernel
theorem d_W_law_656 : decode c_W_law 656 = .ok (.iload 5, 2) := by decide +kernel
theorem d_W_law_658 : decode c_W_law 658 = .ok (.if_icmp .eq 5, 3) := by decide +kernel
theorem d_W_law_661 : decode c_W_law 661 = .ok (.iconst 0, 1) := by decide +kernel
theorem d_W_law_662 : decode c_W_law 662 = .ok (.ireturn, 1) := by decide +kernel
theorem d_W_law_663 : decode c_W_law 663 = .ok (.iload 5, 2) := by decide +kernel
theorem d_W_law_665 : decode c_W_law 665 = .ok (.ifCond .ne 15, 3) := by decide +kernel
theorem d_W_law_668 : decode c_W_law 668 = .ok (.aload_n 3, 1) := by decide +kernel
theorem d_W_law_669 : decode c_W_law 669 = .ok (.iconst 0, 1) := by decide +kernel
theorem d_W_law_670 : decode c_W_law 670 = .ok (.laload, 1) := by decide +kernel
theorem d_W_law_671 : decode c_W_law 671 = .ok (.iload 6, 2) := by decide +kernel
theorem d_W_law_673 : decode c_W_law 673 = .ok (.i2l, 1) := by decide +kernel
theorem d_W_law_674 : decode c_W_law 674 = .ok (.lcmp, 1) := by decide +kernel
theorem d_W_law_675 : decode c_W_law 675 = .ok (.ifCond .eq 5, 3) := by decide +kernel
theorem d_W_law_678 : decode c_W_law 678 = .ok (.iconst 0, 1) := by decide +kernel
theorem d_W_law_679 : decode c_W_law 679 = .ok (.ireturn, 1) := by decide +kernel
theorem d_W_law_680 : decode c_W_law 680 = .ok (.goto 288, 3) := by decide +kernel
theorem d_W_law_683 : decode c_W_law 683 = .ok (.aload_n 1, 1) := by decide +kernel
theorem d_W_law_684 : decode c_W_law 684 = .ok (.invokevirtual 99, 3) := by decide +kernel
theorem d_W_law_687 : decode c_W_law 687 = .ok (.aload_n 2, 1) := by decide +kernel
theorem d_W_law_688 : decode c_W_law 688 = .ok (.invokevirtual 102, 3) := by decide +kernel
theorem d_W_law_691 : decode c_W_law 691 = .ok (.if_icmp .eq 277, 3) := by decide +kernel
theorem d_W_law_694 : decode c_W_law 694 = .ok (.iconst 0, 1) := by decide +kernel
theorem d_W_law_695 : decode c_W_law 695 = .ok (.ireturn, 1) := by decide +kernel
theorem d_W_law_696 : decode c_W_law 696 = .ok (.aload_n 1, 1) := by decide +kernel
theorem d_W_law_697 : decode c_W_law 697 = .ok (.invokevirtual 103, 3) := by decide +kernel
theorem d_W_law_700 : decode c_W_law 700 = .ok (.aload_n 2, 1) := by decide +kernel
theorem d_W_law_701 : decode c_W_law 701 = .ok (.invokevirtual 106, 3) := by decide +kernel
theorem d_W_law_704 : decode c_W_law 704 = .ok (.if_icmp .eq 264, 3) := by decide +kernel
theorem d_W_law_707 : decode c_W_law 707 = .ok (.iconst 0, 1) := by decide +kernel
theorem d_W_law_708 : decode c_W_law 708 = .ok (.ireturn, 1) := by decide +kernel
theorem d_W_law_709 : decode c_W_law 709 = .ok (.aload_n 1, 1) := by decide +kernel
theorem d_W_law_710 : decode c_W_law 710 = .ok (.aload_n 0, 1) := by decide +kernel
theorem d_W_law_711 : decode c_W_law 711 = .ok (.iload 4, 2) := by decide +kernel
theorem d_W_law_713 : decode c_W_law 713 = .ok (.iconst 1, 1) := by decide +kernel
theorem d_W_law_714 : decode c_W_law 714 = .ok (.iadd, 1) := by decide +kernel
theorem d_W_law_715 : decode c_W_law 715 = .ok (.iaload, 1) := by decide +kernel
theorem d_W_law_716 : decode c_W_law 716 = .ok (.aload_n 0, 1) := by decide +kernel
theorem d_W_law_717 : decode c_W_law 717 = .ok (.iload 4, 2) := by decide +kernel
theorem d_W_law_719 : decode c_W_law 719 = .ok (.iconst 2, 1) := by decide +kernel
theorem d_W_law_720 : decode c_W_law 720 = .ok (.iadd, 1) := by decide +kernel
theorem d_W_law_721 : decode c_W_law 721 = .ok (.iaload, 1) := by decide +kernel
theorem d_W_law_722 : decode c_W_law 722 = .ok (.aload_n 3, 1) := by decide +kernel
theorem d_W_law_723 : decode c_W_law 723 = .ok (.invokestatic 107, 3) := by decide +kernel
theorem d_W_law_726 : decode c_W_law 726 = .ok (.istore 5, 2) := by decide +kernel
theorem d_W_law_728 : decode c_W_law 728 = .ok (.aload_n 2, 1) := by decide +kernel
theorem d_W_law_729 : decode c_W_law 729 = .ok (.aload_n 0, 1) := by decide +kernel
theorem d_W_law_730 : decode c_W_law 730 = .ok (.iload 4, 2) := by decide +kernel
theorem d_W_law_732 : decode c_W_law 732 = .ok (.iconst 1, 1) := by decide +kernel
theorem d_W_law_733 : decode c_W_law 733 = .ok (.iadd, 1) := by decide +kernel
theorem d_W_law_734 : decode c_W_law 734 = .ok (.iaload, 1) := by decide +kernel
theorem d_W_law_735 : decode c_W_law 735 = .ok (.aload_n 0, 1) := by decide +kernel
theorem d_W_law_736 : decode c_W_law 736 = .ok (.iload 4, 2) := by decide +kernel
theorem d_W_law_738 : decode c_W_law 738 = .ok (.iconst 2, 1) := by decide +kernel
theorem d_W_law_739 : decode c_W_law 739 = .ok (.iadd, 1) := by decide +kernel
theorem d_W_law_740 : decode c_W_law 740 = .ok (.iaload, 1) := by decide +kernel
theorem d_W_law_741 : decode c_W_law 741 = .ok (.invokevirtual 109, 3) := by decide +kernel
theorem d_W_law_744 : decode c_W_law 744 = .ok (.istore 6, 2) := by decide +kernel
theorem d_W_law_746 : decode c_W_law 746 = .ok (.aload_n 2, 1) := by decide +kernel
theorem d_W_law_747 : decode c_W_law 747 = .ok (.invokevirtual 70, 3) := by decide +kernel
theorem d_W_law_750 : decode c_W_law 750 = .ok (.iload 5, 2) := by decide +kernel
theorem d_W_law_752 : decode c_W_law 752 = .ok (.if_icmp .eq 5, 3) := by decide +kernel
theorem d_W_law_755 : decode c_W_law 755 = .ok (.iconst 0, 1) := by decide +kernel
theorem d_W_law_756 : decode c_W_law 756 = .ok (.ireturn, 1) := by decide +kernel
theorem d_W_law_757 : decode c_W_law 757 = .ok (.iload 5, 2) := by decide +kernel
theorem d_W_law_759 : decode c_W_law 759 = .ok (.ifCond .ne 15, 3) := by decide +kernel
theorem d_W_law_762 : decode c_W_law 762 = .ok (.aload_n 3, 1) := by decide +kernel
theorem d_W_law_763 : decode c_W_law 763 = .ok (.iconst 0, 1) := by decide +kernel
theorem d_W_law_764 : decode c_W_law 764 = .ok (.laload, 1) := by decide +kernel
theorem d_W_law_765 : decode c_W_law 765 = .ok (.iload 6, 2) := by decide +kernel
theorem d_W_law_767 : decode c_W_law 767 = .ok (.i2l, 1) := by decide +kernel
theorem d_W_law_768 : decode c_W_law 768 = .ok (.lcmp, 1) := by decide +kernel
theorem d_W_law_769 : decode c_W_law 769 = .ok (.ifCond .eq 5, 3) := by decide +kernel
theorem d_W_law_772 : decode c_W_law 772 = .ok (.iconst 0, 1) := by decide +kernel
theorem d_W_law_773 : decode c_W_law 773 = .ok (.ireturn, 1) := by decide +kernel
theorem d_W_law_774 : decode c_W_law 774 = .ok (.goto 194, 3) := by decide +kernel
theorem d_W_law_777 : decode c_W_law 777 = .ok (.aload_n 1, 1) := by decide +kernel
theorem d_W_law_778 : decode c_W_law 778 = .ok (.aload_n 0, 1) := by decide +kernel
theorem d_W_law_779 : decode c_W_law 779 = .ok (.iload 4, 2) := by decide +kernel
theorem d_W_law_781 : decode c_W_law 781 = .ok (.iconst 1, 1) := by decide +kernel
theorem d_W_law_782 : decode c_W_law 782 = .ok (.iadd, 1) := by decide +kernel
theorem d_W_law_783 : decode c_W_law 783 = .ok (.iaload, 1) := by decide +kernel
theorem d_W_law_784 : decode c_W_law 784 = .ok (.aload_n 3, 1) := by decide +kernel
theorem d_W_law_785 : decode c_W_law 785 = .ok (.invokestatic 110, 3) := by decide +kernel
theorem d_W_law_788 : decode c_W_law 788 = .ok (.istore 5, 2) := by decide +kernel
theorem d_W_law_790 : decode c_W_law 790 = .ok (.aload_n 2, 1) := by decide +kernel
theorem d_W_law_791 : decode c_W_law 791 = .ok (.aload_n 0, 1) := by decide +kernel
theorem d_W_law_792 : decode c_W_law 792 = .ok (.iload 4, 2) := by decide +kernel
theorem d_W_law_794 : decode c_W_law 794 = .ok (.iconst 1, 1) := by decide +kernel
theorem d_W_law_795 : decode c_W_law 795 = .ok (.iadd, 1) := by decide +kernel
theorem d_W_law_796 : decode c_W_law 796 = .ok (.iaload, 1) := by decide +kernel
theorem d_W_law_797 : decode c_W_law 797 = .ok (.invokevirtual 112, 3) := by decide +kernel
theorem d_W_law_800 : decode c_W_law 800 = .ok (.lstore 6, 2) := by decide +kernel
theorem d_W_law_802 : decode c_W_law 802 = .ok (.aload_n 2, 1) := by decide +kernel
theorem d_W_law_803 : decode c_W_law 803 = .ok (.invokevirtual 70, 3) := by decide +kernel
theorem d_W_law_806 : decode c_W_law 806 = .ok (.iload 5, 2) := by decide +kernel
theorem d_W_law_808 : decode c_W_law 808 = .ok (.if_icmp .eq 5, 3) := by decide +kernel
theorem d_W_law_811 : decode c_W_law 811 = .ok (.iconst 0, 1) := by decide +kernel
theorem d_W_law_812 : decode c_W_law 812 = .ok (.ireturn, 1) := by decide +kernel
theorem d_W_law_813 : decode c_W_law 813 = .ok (.iload 5, 2) := by decide +kernel
theorem d_W_law_815 : decode c_W_law 815 = .ok (.ifCond .ne 14, 3) := by decide +kernel
theorem d_W_law_818 : decode c_W_law 818 = .ok (.aload_n 3, 1) := by decide +kernel
theorem d_W_law_819 : decode c_W_law 819 = .ok (.iconst 0, 1) := by decide +kernel
theorem d_W_law_820 : decode c_W_law 820 = .ok (.laload, 1) := by decide +kernel
theorem d_W_law_821 : decode c_W_law 821 = .ok (.lload 6, 2) := by decide +kernel
theorem d_W_law_823 : decode c_W_law 823 = .ok (.lcmp, 1) := by decide +kernel
theorem d_W_law_824 : decode c_W_law 824 = .ok (.ifCond .eq 5, 3) := by decide +kernel
theorem d_W_law_827 : decode c_W_law 827 = .ok (.iconst 0, 1) := by decide +kernel
theorem d_W_law_828 : decode c_W_law 828 = .ok (.ireturn, 1) := by decide +kernel
theorem d_W_law_829 : decode c_W_law 829 = .ok (.goto 139, 3) := by decide +kernel
theorem d_W_law_832 : decode c_W_law 832 = .ok (.aload_n 1, 1) := by decide +kernel
theorem d_W_law_833 : decode c_W_law 833 = .ok (.aload_n 0, 1) := by decide +kernel
theorem d_W_law_834 : decode c_W_law 834 = .ok (.iload 4, 2) := by decide +kernel
theorem d_W_law_836 : decode c_W_law 836 = .ok (.iconst 1, 1) := by decide +kernel
theorem d_W_law_837 : decode c_W_law 837 = .ok (.iadd, 1) := by decide +kernel
theorem d_W_law_838 : decode c_W_law 838 = .ok (.iaload, 1) := by decide +kernel
theorem d_W_law_839 : decode c_W_law 839 = .ok (.aload_n 0, 1) := by decide +kernel
theorem d_W_law_840 : decode c_W_law 840 = .ok (.iload 4, 2) := by decide +kernel
theorem d_W_law_842 : decode c_W_law 842 = .ok (.iconst 2, 1) := by decide +kernel
theorem d_W_law_843 : decode c_W_law 843 = .ok (.iadd, 1) := by decide +kernel
theorem d_W_law_844 : decode c_W_law 844 = .ok (.iaload, 1) := by decide +kernel
theorem d_W_law_845 : decode c_W_law 845 = .ok (.aload_n 3, 1) := by decide +kernel
theorem d_W_law_846 : decode c_W_law 846 = .ok (.invokestatic 113, 3) := by decide +kernel
theorem d_W_law_849 : decode c_W_law 849 = .ok (.istore 5, 2) := by decide +kernel
theorem d_W_law_851 : decode c_W_law 851 = .ok (.aload_n 2, 1) := by decide +kernel
theorem d_W_law_852 : decode c_W_law 852 = .ok (.aload_n 0, 1) := by decide +kernel
theorem d_W_law_853 : decode c_W_law 853 = .ok (.iload 4, 2) := by decide +kernel
theorem d_W_law_855 : decode c_W_law 855 = .ok (.iconst 1, 1) := by decide +kernel
theorem d_W_law_856 : decode c_W_law 856 = .ok (.iadd, 1) := by decide +kernel
theorem d_W_law_857 : decode c_W_law 857 = .ok (.iaload, 1) := by decide +kernel
theorem d_W_law_858 : decode c_W_law 858 = .ok (.aload_n 0, 1) := by decide +kernel
theorem d_W_law_859 : decode c_W_law 859 = .ok (.iload 4, 2) := by decide +kernel
theorem d_W_law_861 : decode c_W_law 861 = .ok (.iconst 2, 1) := by decide +kernel
theorem d_W_law_862 : decode c_W_law 862 = .ok (.iadd, 1) := by decide +kernel
theorem d_W_law_863 : decode c_W_law 863 = .ok (.iaload, 1) := by decide +kernel
theorem d_W_law_864 : decode c_W_law 864 = .ok (.invokevirtual 115, 3) := by decide +kernel
theorem d_W_law_867 : decode c_W_law 867 = .ok (.istore 6, 2) := by decide +kernel
theorem d_W_law_869 : decode c_W_law 869 = .ok (.aload_n 2, 1) := by decide +kernel
theorem d_W_law_870 : decode c_W_law 870 = .ok (.invokevirtual 70, 3) := by decide +kernel
theorem d_W_law_873 : decode c_W_law 873 = .ok (.iload 5, 2) := by decide +kernel
theorem d_W_law_875 : decode c_W_law 875 = .ok (.if_icmp .eq 5, 3) := by decide +kernel
theorem d_W_law_878 : decode c_W_law 878 = .ok (.iconst 0, 1) := by decide +kernel
theorem d_W_law_879 : decode c_W_law 879 = .ok (.ireturn, 1) := by decide +kernel
theorem d_W_law_880 : decode c_W_law 880 = .ok (.iload 5, 2) := by decide +kernel
theorem d_W_law_882 : decode c_W_law 882 = .ok (.ifCond .ne 15, 3) := by decide +kernel
theorem d_W_law_885 : decode c_W_law 885 = .ok (.aload_n 3, 1) := by decide +kernel
theorem d_W_law_886 : decode c_W_law 886 = .ok (.iconst 0, 1) := by decide +kernel
theorem d_W_law_887 : decode c_W_law 887 = .ok (.laload, 1) := by decide +kernel
theorem d_W_law_888 : decode c_W_law 888 = .ok (.iload 6, 2) := by decide +kernel
theorem d_W_law_890 : decode c_W_law 890 = .ok (.i2l, 1) := by decide +kernel
theorem d_W_law_891 : decode c_W_law 891 = .ok (.lcmp, 1) := by decide +kernel
theorem d_W_law_892 : decode c_W_law 892 = .ok (.ifCond .eq 5, 3) := by decide +kernel
theorem d_W_law_895 : decode c_W_law 895 = .ok (.iconst 0, 1) := by decide +kernel
theorem d_W_law_896 : decode c_W_law 896 = .ok (.ireturn, 1) := by decide +kernel
theorem d_W_law_897 : decode c_W_law 897 = .ok (.goto 71, 3) := by decide +kernel
theorem d_W_law_900 : decode c_W_law 900 = .ok (.aload_n 1, 1) := by decide +kernel
theorem d_W_law_901 : decode c_W_law 901 = .ok (.aload_n 0, 1) := by decide +kernel
theorem d_W_law_902 : decode c_W_law 902 = .ok (.iload 4, 2) := by decide +kernel
theorem d_W_law_904 : decode c_W_law 904 = .ok (.iconst 1, 1) := by decide +kernel
theorem d_W_law_905 : decode c_W_law 905 = .ok (.iadd, 1) := by decide +kernel
theorem d_W_law_906 : decode c_W_law 906 = .ok (.iaload, 1) := by decide +kernel
theorem d_W_law_907 : decode c_W_law 907 = .ok (.aload_n 0, 1) := by decide +kernel
theorem d_W_law_908 : decode c_W_law 908 = .ok (.iload 4, 2) := by decide +kernel
theorem d_W_law_910 : decode c_W_law 910 = .ok (.iconst 2, 1) := by decide +kernel
theorem d_W_law_911 : decode c_W_law 911 = .ok (.iadd, 1) := by decide +kernel
theorem d_W_law_912 : decode c_W_law 912 = .ok (.iaload, 1) := by decide +kernel
theorem d_W_law_913 : decode c_W_law 913 = .ok (.aload_n 3, 1) := by decide +kernel
theorem d_W_law_914 : decode c_W_law 914 = .ok (.invokestatic 116, 3) := by decide +kernel
theorem d_W_law_917 : decode c_W_law 917 = .ok (.istore 5, 2) := by decide +kernel
theorem d_W_law_919 : decode c_W_law 919 = .ok (.aload_n 2, 1) := by decide +kernel
theorem d_W_law_920 : decode c_W_law 920 = .ok (.aload_n 0, 1) := by decide +kernel
theorem d_W_law_921 : decode c_W_law 921 = .ok (.iload 4, 2) := by decide +kernel
theorem d_W_law_923 : decode c_W_law 923 = .ok (.iconst 1, 1) := by decide +kernel
theorem d_W_law_924 : decode c_W_law 924 = .ok (.iadd, 1) := by decide +kernel
theorem d_W_law_925 : decode c_W_law 925 = .ok (.iaload, 1) := by decide +kernel
theorem d_W_law_926 : decode c_W_law 926 = .ok (.aload_n 0, 1) := by decide +kernel
theorem d_W_law_927 : decode c_W_law 927 = .ok (.iload 4, 2) := by decide +kernel
theorem d_W_law_929 : decode c_W_law 929 = .ok (.iconst 2, 1) := by decide +kernel
theorem d_W_law_930 : decode c_W_law 930 = .ok (.iadd, 1) := by decide +kernel
theorem d_W_law_931 : decode c_W_law 931 = .ok (.iaload, 1) := by decide +kernel
theorem d_W_law_932 : decode c_W_law 932 = .ok (.invokevirtual 118, 3) := by decide +kernel
theorem d_W_law_935 : decode c_W_law 935 = .ok (.istore 6, 2) := by decide +kernel
theorem d_W_law_937 : decode c_W_law 937 = .ok (.aload_n 2, 1) := by decide +kernel
theorem d_W_law_938 : decode c_W_law 938 = .ok (.invokevirtual 70, 3) := by decide +kernel
theorem d_W_law_941 : decode c_W_law 941 = .ok (.iload 5, 2) := by decide +kernel
theorem d_W_law_943 : decode c_W_law 943 = .ok (.if_icmp .eq 5, 3) := by decide +kernel
theorem d_W_law_946 : decode c_W_law 946 = .ok (.iconst 0, 1) := by decide +kernel
theorem d_W_law_947 : decode c_W_law 947 = .ok (.ireturn, 1) := by decide +kernel
theorem d_W_law_948 : decode c_W_law 948 = .ok (.iload 5, 2) := by decide +kernel
theorem d_W_law_950 : decode c_W_law 950 = .ok (.ifCond .ne 15, 3) := by decide +kernel
theorem d_W_law_953 : decode c_W_law 953 = .ok (.aload_n 3, 1) := by decide +kernel
theorem d_W_law_954 : decode c_W_law 954 = .ok (.iconst 0, 1) := by decide +kernel
theorem d_W_law_955 : decode c_W_law 955 = .ok (.laload, 1) := by decide +kernel
theorem d_W_law_956 : decode c_W_law 956 = .ok (.iload 6, 2) := by decide +kernel
theorem d_W_law_958 : decode c_W_law 958 = .ok (.i2l, 1) := by decide +kernel
theorem d_W_law_959 : decode c_W_law 959 = .ok (.lcmp, 1) := by decide +kernel
theorem d_W_law_960 : decode c_W_law 960 = .ok (.ifCond .eq 5, 3) := by decide +kernel
theorem d_W_law_963 : decode c_W_law 963 = .ok (.iconst 0, 1) := by decide +kernel
theorem d_W_law_964 : decode c_W_law 964 = .ok (.ireturn, 1) := by decide +kernel
theorem d_W_law_965 : decode c_W_law 965 = .ok (.goto 3, 3) := by decide +kernel
theorem d_W_law_968 : decode c_W_law 968 = .ok (.iinc 4 6, 3) := by decide +kernel
theorem d_W_law_971 : decode c_W_law 971 = .ok (.goto (-948), 3) := by decide +kernel
theorem d_W_law_974 : decode c_W_law 974 = .ok (.iconst 1, 1) := by decide +kernel
theorem d_W_law_975 : decode c_W_law 975 = .ok (.ireturn, 1) := by decide +kernel
end
section
abbrev i_EK_init : kx_I := ("EventKeeper", c_EK_init, 2, none, [], "<init>")
abbrev i_EK_append : kx_I := ("EventKeeper", c_EK_append, 6, some .int, [], "append")
abbrev i_EK_rule : kx_I := ("EventKeeper", c_EK_rule, 5, none, [], "rule")
abbrev i_EK_advance : kx_I := ("EventKeeper", c_EK_advance, 4, some .int, [], "advance")
abbrev i_EK_save : kx_I := ("EventKeeper", c_EK_save, 2, some .int, [], "save")
abbrev i_EK_cell : kx_I := ("EventKeeper", c_EK_cell, 3, some .long, [], "cell")
abbrev i_EK_filter : kx_I := ("EventKeeper", c_EK_filter, 4, none, [], "filter")
abbrev i_EK_next : kx_I := ("EventKeeper", c_EK_next, 2, some .int, [], "next")
abbrev i_EK_acknowledge : kx_I := ("EventKeeper", c_EK_acknowledge, 3, some .int, [], "acknowledge")
abbrev i_EK_sync : kx_I := ("EventKeeper", c_EK_sync, 2, some .int, [], "sync")
abbrev i_EK_crash : kx_I := ("EventKeeper", c_EK_crash, 2, some .int, [], "crash")
abbrev i_EK_event : kx_I := ("EventKeeper", c_EK_event, 3, some .int, [], "event")
abbrev i_EK_value : kx_I := ("EventKeeper", c_EK_value, 2, some .long, [], "value")
abbrev i_EK_find : kx_I := ("EventKeeper", c_EK_find, 4, some .int, [], "find")
abbrev i_EK_count : kx_I := ("EventKeeper", c_EK_count, 3, some .int, [], "count")
abbrev i_EK_checkArgument : kx_I := ("EventKeeper", c_EK_checkArgument, 1, none, [], "checkArgument")
abbrev i_EK_checkStream : kx_I := ("EventKeeper", c_EK_checkStream, 1, none, [], "checkStream")
abbrev i_EK_checkKind : kx_I := ("EventKeeper", c_EK_checkKind, 1, none, [], "checkKind")
abbrev i_EK_checkProjection : kx_I := ("EventKeeper", c_EK_checkProjection, 1, none, [], "checkProjection")
abbrev i_EK_checkSubscription : kx_I := ("EventKeeper", c_EK_checkSubscription, 1, none, [], "checkSubscription")
abbrev i_EK_checkPlace : kx_I := ("EventKeeper", c_EK_checkPlace, 2, none, [], "checkPlace")
abbrev i_M_init : kx_I := ("EventKeeperModel", c_M_init, 2, none, [], "<init>")
abbrev i_M_thrown : kx_I := ("EventKeeperModel", c_M_thrown, 1, some .int, [], "thrown")
abbrev i_M_in : kx_I := ("EventKeeperModel", c_M_in, 3, some .boolean, [], "in")
abbrev i_M_fails : kx_I := ("EventKeeperModel", c_M_fails, 3, some .boolean, [], "fails")
abbrev i_M_inStream : kx_I := ("EventKeeperModel", c_M_inStream, 5, some .int, [], "inStream")
abbrev i_M_put : kx_I := ("EventKeeperModel", c_M_put, 7, some .int, [], "put")
abbrev i_M_append : kx_I := ("EventKeeperModel", c_M_append, 6, some .int, [], "append")
abbrev i_M_isProjection : kx_I := ("EventKeeperModel", c_M_isProjection, 1, some .boolean, [], "isProjection")
abbrev i_M_begin : kx_I := ("EventKeeperModel", c_M_begin, 3, none, [], "begin")
abbrev i_M_rule : kx_I := ("EventKeeperModel", c_M_rule, 5, none, [], "rule")
abbrev i_M_advance : kx_I := ("EventKeeperModel", c_M_advance, 4, some .int, [], "advance")
abbrev i_M_takes : kx_I := ("EventKeeperModel", c_M_takes, 12, some .boolean, [], "takes")
abbrev i_M_save : kx_I := ("EventKeeperModel", c_M_save, 3, some .int, [], "save")
abbrev i_M_cell : kx_I := ("EventKeeperModel", c_M_cell, 3, some .long, [], "cell")
abbrev i_M_isSubscription : kx_I := ("EventKeeperModel", c_M_isSubscription, 1, some .boolean, [], "isSubscription")
abbrev i_M_filter : kx_I := ("EventKeeperModel", c_M_filter, 4, none, [], "filter")
abbrev i_M_next : kx_I := ("EventKeeperModel", c_M_next, 3, some .int, [], "next")
abbrev i_M_acknowledge : kx_I := ("EventKeeperModel", c_M_acknowledge, 3, some .int, [], "acknowledge")
abbrev i_M_sync : kx_I := ("EventKeeperModel", c_M_sync, 2, some .int, [], "sync")
abbrev i_M_crash : kx_I := ("EventKeeperModel", c_M_crash, 3, some .int, [], "crash")
abbrev i_M_isNone : kx_I := ("EventKeeperModel", c_M_isNone, 2, some .boolean, [], "isNone")
abbrev i_M_event : kx_I := ("EventKeeperModel", c_M_event, 3, some .int, [], "event")
abbrev i_M_value : kx_I := ("EventKeeperModel", c_M_value, 2, some .long, [], "value")
abbrev i_M_find : kx_I := ("EventKeeperModel", c_M_find, 4, some .int, [], "find")
abbrev i_M_count : kx_I := ("EventKeeperModel", c_M_count, 5, some .int, [], "count")
abbrev i_L_init : kx_I := ("EventKeeper$Log", c_L_init, 1, none, [], "<init>")
abbrev i_L_isFull : kx_I := ("EventKeeper$Log", c_L_isFull, 1, some .boolean, [], "isFull")
abbrev i_L_put : kx_I := ("EventKeeper$Log", c_L_put, 6, some .int, [], "put")
abbrev i_L_putEmitted : kx_I := ("EventKeeper$Log", c_L_putEmitted, 6, none, [], "putEmitted")
abbrev i_L_hasEmitted : kx_I := ("EventKeeper$Log", c_L_hasEmitted, 3, some .boolean, [], "hasEmitted")
abbrev i_L_dropUndurable : kx_I := ("EventKeeper$Log", c_L_dropUndurable, 2, none, [], "dropUndurable")
abbrev i_L_forgetCause : kx_I := ("EventKeeper$Log", c_L_forgetCause, 3, none, [], "forgetCause")
abbrev i_L_placeOf : kx_I := ("EventKeeper$Log", c_L_placeOf, 4, some .int, [], "placeOf")
abbrev i_P_init : kx_I := ("EventKeeper$Projection", c_P_init, 2, none, [], "<init>")
abbrev i_P_setRule : kx_I := ("EventKeeper$Projection", c_P_setRule, 4, none, [], "setRule")
abbrev i_P_takeOne : kx_I := ("EventKeeper$Projection", c_P_takeOne, 4, some .boolean, [], "takeOne")
abbrev i_P_targetCell : kx_I := ("EventKeeper$Projection", c_P_targetCell, 2, some .int, [], "targetCell")
abbrev i_P_folded : kx_I := ("EventKeeper$Projection", c_P_folded, 5, some .long, [], "folded")
abbrev i_P_countAndEmit : kx_I := ("EventKeeper$Projection", c_P_countAndEmit, 6, some .boolean, [], "countAndEmit")
abbrev i_P_keep : kx_I := ("EventKeeper$Projection", c_P_keep, 2, some .int, [], "keep")
abbrev i_P_recover : kx_I := ("EventKeeper$Projection", c_P_recover, 2, none, [], "recover")
abbrev i_P_startOver : kx_I := ("EventKeeper$Projection", c_P_startOver, 2, none, [], "startOver")
abbrev i_S_init : kx_I := ("EventKeeper$Subscription", c_S_init, 1, none, [], "<init>")
abbrev i_S_setFilter : kx_I := ("EventKeeper$Subscription", c_S_setFilter, 3, none, [], "setFilter")
abbrev i_S_firstWaiting : kx_I := ("EventKeeper$Subscription", c_S_firstWaiting, 3, some .int, [], "firstWaiting")
abbrev i_S_letsThrough : kx_I := ("EventKeeper$Subscription", c_S_letsThrough, 4, some .boolean, [], "letsThrough")
abbrev i_S_passBehind : kx_I := ("EventKeeper$Subscription", c_S_passBehind, 2, some .int, [], "passBehind")
abbrev i_S_makeSafe : kx_I := ("EventKeeper$Subscription", c_S_makeSafe, 1, none, [], "makeSafe")
abbrev i_S_recover : kx_I := ("EventKeeper$Subscription", c_S_recover, 2, none, [], "recover")
abbrev i_W_append : kx_I := ("EventKeeperLaw", c_W_append, 8, some .int, [(0, 14, 17, 13), (0, 14, 21, 15), (0, 14, 25, 17)], "append")
abbrev i_W_rule : kx_I := ("EventKeeperLaw", c_W_rule, 6, some .int, [(0, 9, 12, 13)], "rule")
abbrev i_W_advance : kx_I := ("EventKeeperLaw", c_W_advance, 5, some .int, [(0, 10, 13, 13)], "advance")
abbrev i_W_save : kx_I := ("EventKeeperLaw", c_W_save, 4, some .int, [(0, 9, 12, 13)], "save")
abbrev i_W_cell : kx_I := ("EventKeeperLaw", c_W_cell, 5, some .int, [(0, 9, 12, 13), (0, 9, 16, 17)], "cell")
abbrev i_W_filter : kx_I := ("EventKeeperLaw", c_W_filter, 5, some .int, [(0, 7, 10, 13)], "filter")
abbrev i_W_next : kx_I := ("EventKeeperLaw", c_W_next, 4, some .int, [(0, 9, 12, 13)], "next")
abbrev i_W_acknowledge : kx_I := ("EventKeeperLaw", c_W_acknowledge, 5, some .int, [(0, 10, 13, 13), (0, 10, 17, 17)], "acknowledge")
abbrev i_W_event : kx_I := ("EventKeeperLaw", c_W_event, 5, some .int, [(0, 10, 13, 13), (0, 10, 17, 17)], "event")
abbrev i_W_value : kx_I := ("EventKeeperLaw", c_W_value, 4, some .int, [(0, 8, 11, 17)], "value")
abbrev i_W_find : kx_I := ("EventKeeperLaw", c_W_find, 5, some .int, [(0, 10, 13, 13), (0, 10, 17, 17)], "find")
abbrev i_W_count : kx_I := ("EventKeeperLaw", c_W_count, 5, some .int, [(0, 10, 13, 13)], "count")
abbrev i_W_law : kx_I := ("EventKeeperLaw", c_W_law, 8, some .boolean, [], "law")
theorem fw_EK_0 : kx_fw "EventKeeper" "<init>" 0 0 (.object "EventKeeper$Log") := ⟨_, T_EK, 3, ty_EK, rfl, by decide +kernel, kp_EK, kn_EK, Or.inr ⟨rfl, rfl, rfl⟩⟩
theorem fw_EK_1 : kx_fw "EventKeeper" "<init>" 0 1 (.array (.object "EventKeeper$Projection")) := ⟨_, T_EK, 3, ty_EK, rfl, by decide +kernel, kp_EK, kn_EK, Or.inr ⟨rfl, rfl, rfl⟩⟩
theorem fw_EK_2 : kx_fw "EventKeeper" "<init>" 0 2 (.array (.object "EventKeeper$Subscription")) := ⟨_, T_EK, 3, ty_EK, rfl, by decide +kernel, kp_EK, kn_EK, Or.inr ⟨rfl, rfl, rfl⟩⟩
theorem fw_L_0 : kx_fw "EventKeeper$Log" "<init>" 1 0 (.array .int) := ⟨_, T_L, 11, ty_L, rfl, by decide +kernel, kp_L, kn_L, Or.inr ⟨rfl, rfl, rfl⟩⟩
theorem fw_L_1 : kx_fw "EventKeeper$Log" "<init>" 1 1 (.array .int) := ⟨_, T_L, 11, ty_L, rfl, by decide +kernel, kp_L, kn_L, Or.inr ⟨rfl, rfl, rfl⟩⟩
theorem fw_L_2 : kx_fw "EventKeeper$Log" "<init>" 1 2 (.array .int) := ⟨_, T_L, 11, ty_L, rfl, by decide +kernel, kp_L, kn_L, Or.inr ⟨rfl, rfl, rfl⟩⟩
theorem fw_L_3 : kx_fw "EventKeeper$Log" "<init>" 1 3 (.array .long) := ⟨_, T_L, 11, ty_L, rfl, by decide +kernel, kp_L, kn_L, Or.inr ⟨rfl, rfl, rfl⟩⟩
theorem fw_L_4 : kx_fw "EventKeeper$Log" "<init>" 1 4 (.array .int) := ⟨_, T_L, 11, ty_L, rfl, by decide +kernel, kp_L, kn_L, Or.inr ⟨rfl, rfl, rfl⟩⟩
theorem fw_L_5 : kx_fw "EventKeeper$Log" "<init>" 1 5 (.array .int) := ⟨_, T_L, 11, ty_L, rfl, by decide +kernel, kp_L, kn_L, Or.inr ⟨rfl, rfl, rfl⟩⟩
theorem fw_L_6 : kx_fw "EventKeeper$Log" "<init>" 1 6 (.array .int) := ⟨_, T_L, 11, ty_L, rfl, by decide +kernel, kp_L, kn_L, Or.inr ⟨rfl, rfl, rfl⟩⟩
theorem fw_L_7 : kx_fw "EventKeeper$Log" "<init>" 1 7 (.array .int) := ⟨_, T_L, 11, ty_L, rfl, by decide +kernel, kp_L, kn_L, Or.inr ⟨rfl, rfl, rfl⟩⟩
theorem fw_L_8 : kx_fw "EventKeeper$Log" "<init>" 1 8 (.array .int) := ⟨_, T_L, 11, ty_L, rfl, by decide +kernel, kp_L, kn_L, Or.inr ⟨rfl, rfl, rfl⟩⟩
theorem fw_L_9 {own nm : String} : kx_fw own nm 1 9 .int := ⟨_, T_L, 11, ty_L, rfl, by decide +kernel, kp_L, kn_L, Or.inl rfl⟩
theorem fw_L_10 {own nm : String} : kx_fw own nm 1 10 .int := ⟨_, T_L, 11, ty_L, rfl, by decide +kernel, kp_L, kn_L, Or.inl rfl⟩
theorem fw_P_0 : kx_fw "EventKeeper$Projection" "<init>" 2 0 .int := ⟨_, T_P, 8, ty_P, rfl, by decide +kernel, kp_P, kn_P, Or.inr ⟨rfl, rfl, rfl⟩⟩
theorem fw_P_1 : kx_fw "EventKeeper$Projection" "<init>" 2 1 (.array .int) := ⟨_, T_P, 8, ty_P, rfl, by decide +kernel, kp_P, kn_P, Or.inr ⟨rfl, rfl, rfl⟩⟩
theorem fw_P_2 : kx_fw "EventKeeper$Projection" "<init>" 2 2 (.array .int) := ⟨_, T_P, 8, ty_P, rfl, by decide +kernel, kp_P, kn_P, Or.inr ⟨rfl, rfl, rfl⟩⟩
theorem fw_P_3 : kx_fw "EventKeeper$Projection" "<init>" 2 3 (.array .long) := ⟨_, T_P, 8, ty_P, rfl, by decide +kernel, kp_P, kn_P, Or.inr ⟨rfl, rfl, rfl⟩⟩
theorem fw_P_4 {own nm : String} : kx_fw own nm 2 4 .int := ⟨_, T_P, 8, ty_P, rfl, by decide +kernel, kp_P, kn_P, Or.inl rfl⟩
theorem fw_P_5 : kx_fw "EventKeeper$Projection" "<init>" 2 5 (.array .long) := ⟨_, T_P, 8, ty_P, rfl, by decide +kernel, kp_P, kn_P, Or.inr ⟨rfl, rfl, rfl⟩⟩
theorem fw_P_6 {own nm : String} : kx_fw own nm 2 6 .int := ⟨_, T_P, 8, ty_P, rfl, by decide +kernel, kp_P, kn_P, Or.inl rfl⟩
theorem fw_P_7 {own nm : String} : kx_fw own nm 2 7 .int := ⟨_, T_P, 8, ty_P, rfl, by decide +kernel, kp_P, kn_P, Or.inl rfl⟩
theorem fw_S_0 {own nm : String} : kx_fw own nm 3 0 .int := ⟨_, T_S, 4, ty_S, rfl, by decide +kernel, kp_S, kn_S, Or.inl rfl⟩
theorem fw_S_1 {own nm : String} : kx_fw own nm 3 1 .int := ⟨_, T_S, 4, ty_S, rfl, by decide +kernel, kp_S, kn_S, Or.inl rfl⟩
theorem fw_S_2 {own nm : String} : kx_fw own nm 3 2 .int := ⟨_, T_S, 4, ty_S, rfl, by decide +kernel, kp_S, kn_S, Or.inl rfl⟩
theorem fw_S_3 {own nm : String} : kx_fw own nm 3 3 .int := ⟨_, T_S, 4, ty_S, rfl, by decide +kernel, kp_S, kn_S, Or.inl rfl⟩
theorem fw_M_0 {own nm : String} : kx_fw own nm 4 0 .int := ⟨_, T_M, 19, ty_M, rfl, by decide +kernel, kp_M, kn_M, Or.inl rfl⟩
theorem fw_M_1 {own nm : String} : kx_fw own nm 4 1 .int := ⟨_, T_M, 19, ty_M, rfl, by decide +kernel, kp_M, kn_M, Or.inl rfl⟩
theorem fw_M_2 {own nm : String} : kx_fw own nm 4 2 .int := ⟨_, T_M, 19, ty_M, rfl, by decide +kernel, kp_M, kn_M, Or.inl rfl⟩
theorem fw_M_3 : kx_fw "EventKeeperModel" "<init>" 4 3 (.array .int) := ⟨_, T_M, 19, ty_M, rfl, by decide +kernel, kp_M, kn_M, Or.inr ⟨rfl, rfl, rfl⟩⟩
theorem fw_M_4 : kx_fw "EventKeeperModel" "<init>" 4 4 (.array .int) := ⟨_, T_M, 19, ty_M, rfl, by decide +kernel, kp_M, kn_M, Or.inr ⟨rfl, rfl, rfl⟩⟩
theorem fw_M_5 : kx_fw "EventKeeperModel" "<init>" 4 5 (.array .int) := ⟨_, T_M, 19, ty_M, rfl, by decide +kernel, kp_M, kn_M, Or.inr ⟨rfl, rfl, rfl⟩⟩
theorem fw_M_6 : kx_fw "EventKeeperModel" "<init>" 4 6 (.array .int) := ⟨_, T_M, 19, ty_M, rfl, by decide +kernel, kp_M, kn_M, Or.inr ⟨rfl, rfl, rfl⟩⟩
theorem fw_M_7 : kx_fw "EventKeeperModel" "<init>" 4 7 (.array .long) := ⟨_, T_M, 19, ty_M, rfl, by decide +kernel, kp_M, kn_M, Or.inr ⟨rfl, rfl, rfl⟩⟩
theorem fw_M_8 : kx_fw "EventKeeperModel" "<init>" 4 8 (.array .long) := ⟨_, T_M, 19, ty_M, rfl, by decide +kernel, kp_M, kn_M, Or.inr ⟨rfl, rfl, rfl⟩⟩
theorem fw_M_9 : kx_fw "EventKeeperModel" "<init>" 4 9 (.array .long) := ⟨_, T_M, 19, ty_M, rfl, by decide +kernel, kp_M, kn_M, Or.inr ⟨rfl, rfl, rfl⟩⟩
theorem fw_M_10 : kx_fw "EventKeeperModel" "<init>" 4 10 (.array .int) := ⟨_, T_M, 19, ty_M, rfl, by decide +kernel, kp_M, kn_M, Or.inr ⟨rfl, rfl, rfl⟩⟩
theorem fw_M_11 : kx_fw "EventKeeperModel" "<init>" 4 11 (.array .int) := ⟨_, T_M, 19, ty_M, rfl, by decide +kernel, kp_M, kn_M, Or.inr ⟨rfl, rfl, rfl⟩⟩
theorem fw_M_12 : kx_fw "EventKeeperModel" "<init>" 4 12 (.array .int) := ⟨_, T_M, 19, ty_M, rfl, by decide +kernel, kp_M, kn_M, Or.inr ⟨rfl, rfl, rfl⟩⟩
theorem fw_M_13 : kx_fw "EventKeeperModel" "<init>" 4 13 (.array .int) := ⟨_, T_M, 19, ty_M, rfl, by decide +kernel, kp_M, kn_M, Or.inr ⟨rfl, rfl, rfl⟩⟩
theorem fw_M_14 : kx_fw "EventKeeperModel" "<init>" 4 14 (.array .int) := ⟨_, T_M, 19, ty_M, rfl, by decide +kernel, kp_M, kn_M, Or.inr ⟨rfl, rfl, rfl⟩⟩
theorem fw_M_15 : kx_fw "EventKeeperModel" "<init>" 4 15 (.array .int) := ⟨_, T_M, 19, ty_M, rfl, by decide +kernel, kp_M, kn_M, Or.inr ⟨rfl, rfl, rfl⟩⟩
theorem fw_M_16 : kx_fw "EventKeeperModel" "<init>" 4 16 (.array .int) := ⟨_, T_M, 19, ty_M, rfl, by decide +kernel, kp_M, kn_M, Or.inr ⟨rfl, rfl, rfl⟩⟩
theorem fw_M_17 : kx_fw "EventKeeperModel" "<init>" 4 17 (.array .int) := ⟨_, T_M, 19, ty_M, rfl, by decide +kernel, kp_M, kn_M, Or.inr ⟨rfl, rfl, rfl⟩⟩
theorem fw_M_18 : kx_fw "EventKeeperModel" "<init>" 4 18 (.array .int) := ⟨_, T_M, 19, ty_M, rfl, by decide +kernel, kp_M, kn_M, Or.inr ⟨rfl, rfl, rfl⟩⟩
theorem nw_EK_7 : kx_nw "EventKeeper" 7 1 11 [.null, .null, .null, .null, .null, .null, .null, .null, .null, .int 0, .int 0] := ⟨_, T_L, ty_L, rfl, kt_L, kp_L, (kx_t 22 (by decide +kernel) rfl), (kx_t 23 (by decide +kernel) rfl), (kx_t 2 (by decide +kernel) rfl), fun B z hz => by
  have h : ∀ z, z < 11 → defaultValue (ty_L z) = ([.null, .null, .null, .null, .null, .null, .null, .null, .null, .int 0, .int 0] : List Value).getD z .null ∧ ∀ i, ([.null, .null, .null, .null, .null, .null, .null, .null, .null, .int 0, .int 0] : List Value).getD z .null ≠ .ref i := by
    intro z hz
    refine ⟨?_, fun i h => ?_⟩
    · revert z; decide
    · have h2 : ([.null, .null, .null, .null, .null, .null, .null, .null, .null, .int 0, .int 0] : List Value).all (fun v => match v with | .ref _ => false | _ => true) = true := rfl
      rw [List.getD_eq_getElem?_getD] at h
      cases hg : ([.null, .null, .null, .null, .null, .null, .null, .null, .null, .int 0, .int 0] : List Value)[z]? with
      | none => rw [hg] at h; cases h
      | some v =>
        rw [hg] at h
        have h3 := List.all_eq_true.mp h2 v (List.mem_of_getElem? hg)
        cases h
        cases h3
  obtain ⟨h1, h2⟩ := h z hz
  rw [h1]
  cases hv : ([.null, .null, .null, .null, .null, .null, .null, .null, .null, .int 0, .int 0] : List Value).getD z .null with
  | ref i => exact absurd hv (h2 i)
  | _ => rfl⟩
theorem wi_EK_9 : kx_wI "EventKeeper" 9 y_L_init i_L_init 0 := ⟨(kx_t 26 (by decide +kernel) rfl), rfl, rfl, (kx_t 24 (by decide +kernel) rfl), (kx_t 25 (by decide +kernel) rfl), rfl, by decide +kernel, by decide, by decide +kernel, rfl, rfl, by decide⟩
theorem fl_EK_10 : kx_fl "EventKeeper" 10 0 0 := ⟨_, T_EK, 3, rfl, by decide, kt_EK, (kx_t 136 (by decide +kernel) rfl)⟩
theorem fl_EK_18 : kx_fl "EventKeeper" 18 0 1 := ⟨_, T_EK, 3, rfl, by decide, kt_EK, (kx_t 137 (by decide +kernel) rfl)⟩
theorem nw_EK_16 : kx_nw "EventKeeper" 16 2 8 [.int 0, .null, .null, .null, .int 0, .null, .int 0, .int 0] := ⟨_, T_P, ty_P, rfl, kt_P, kp_P, (kx_t 81 (by decide +kernel) rfl), (kx_t 83 (by decide +kernel) rfl), (kx_t 3 (by decide +kernel) rfl), fun B z hz => by
  have h : ∀ z, z < 8 → defaultValue (ty_P z) = ([.int 0, .null, .null, .null, .int 0, .null, .int 0, .int 0] : List Value).getD z .null ∧ ∀ i, ([.int 0, .null, .null, .null, .int 0, .null, .int 0, .int 0] : List Value).getD z .null ≠ .ref i := by
    intro z hz
    refine ⟨?_, fun i h => ?_⟩
    · revert z; decide
    · have h2 : ([.int 0, .null, .null, .null, .int 0, .null, .int 0, .int 0] : List Value).all (fun v => match v with | .ref _ => false | _ => true) = true := rfl
      rw [List.getD_eq_getElem?_getD] at h
      cases hg : ([.int 0, .null, .null, .null, .int 0, .null, .int 0, .int 0] : List Value)[z]? with
      | none => rw [hg] at h; cases h
      | some v =>
        rw [hg] at h
        have h3 := List.all_eq_true.mp h2 v (List.mem_of_getElem? hg)
        cases h
        cases h3
  obtain ⟨h1, h2⟩ := h z hz
  rw [h1]
  cases hv : ([.int 0, .null, .null, .null, .int 0, .null, .int 0, .int 0] : List Value).getD z .null with
  | ref i => exact absurd hv (h2 i)
  | _ => rfl⟩
theorem wi_EK_22 : kx_wI "EventKeeper" 22 y_P_init i_P_init 1 := ⟨(kx_t 86 (by decide +kernel) rfl), rfl, rfl, (kx_t 84 (by decide +kernel) rfl), (kx_t 85 (by decide +kernel) rfl), rfl, by decide +kernel, by decide, by decide +kernel, rfl, rfl, by decide⟩
theorem fl_EK_27 : kx_fl "EventKeeper" 27 0 2 := ⟨_, T_EK, 3, rfl, by decide, kt_EK, (kx_t 138 (by decide +kernel) rfl)⟩
theorem nw_EK_25 : kx_nw "EventKeeper" 25 3 4 [.int 0, .int 0, .int 0, .int 0] := ⟨_, T_S, ty_S, rfl, kt_S, kp_S, (kx_t 115 (by decide +kernel) rfl), (kx_t 117 (by decide +kernel) rfl), (kx_t 4 (by decide +kernel) rfl), fun B z hz => by
  have h : ∀ z, z < 4 → defaultValue (ty_S z) = ([.int 0, .int 0, .int 0, .int 0] : List Value).getD z .null ∧ ∀ i, ([.int 0, .int 0, .int 0, .int 0] : List Value).getD z .null ≠ .ref i := by
    intro z hz
    refine ⟨?_, fun i h => ?_⟩
    · revert z; decide
    · have h2 : ([.int 0, .int 0, .int 0, .int 0] : List Value).all (fun v => match v with | .ref _ => false | _ => true) = true := rfl
      rw [List.getD_eq_getElem?_getD] at h
      cases hg : ([.int 0, .int 0, .int 0, .int 0] : List Value)[z]? with
      | none => rw [hg] at h; cases h
      | some v =>
        rw [hg] at h
        have h3 := List.all_eq_true.mp h2 v (List.mem_of_getElem? hg)
        cases h
        cases h3
  obtain ⟨h1, h2⟩ := h z hz
  rw [h1]
  cases hv : ([.int 0, .int 0, .int 0, .int 0] : List Value).getD z .null with
  | ref i => exact absurd hv (h2 i)
  | _ => rfl⟩
theorem wi_EK_31 : kx_wI "EventKeeper" 31 y_S_init i_S_init 0 := ⟨(kx_t 120 (by decide +kernel) rfl), rfl, rfl, (kx_t 118 (by decide +kernel) rfl), (kx_t 119 (by decide +kernel) rfl), rfl, by decide +kernel, by decide, by decide +kernel, rfl, rfl, by decide⟩
theorem ws_EK_32 : kx_wS "EventKeeper" 32 y_EK_checkStream (.code y_EK_checkStream c_EK_checkStream 1 (none)) i_EK_checkStream 1 := ⟨kx_kw0, (kx_t 196 (by decide +kernel) rfl), (kx_t 194 (by decide +kernel) rfl), (kx_t 195 (by decide +kernel) rfl), (kx_t 1 (by decide +kernel) rfl), by decide +kernel, by decide, by decide +kernel, rfl, rfl, by decide⟩
theorem ws_EK_35 : kx_wS "EventKeeper" 35 y_EK_checkArgument (.code y_EK_checkArgument c_EK_checkArgument 1 (none)) i_EK_checkArgument 1 := ⟨kx_kw0, (kx_t 199 (by decide +kernel) rfl), (kx_t 197 (by decide +kernel) rfl), (kx_t 198 (by decide +kernel) rfl), (kx_t 1 (by decide +kernel) rfl), by decide +kernel, by decide, by decide +kernel, rfl, rfl, by decide⟩
theorem ws_EK_39 : kx_wS "EventKeeper" 39 y_EK_checkKind (.code y_EK_checkKind c_EK_checkKind 1 (none)) i_EK_checkKind 1 := ⟨kx_kw0, (kx_t 270 (by decide +kernel) rfl), (kx_t 268 (by decide +kernel) rfl), (kx_t 269 (by decide +kernel) rfl), (kx_t 1 (by decide +kernel) rfl), by decide +kernel, by decide, by decide +kernel, rfl, rfl, by decide⟩
theorem fl_EK_42 : kx_fl "EventKeeper" 42 1 7 := ⟨_, T_L, 11, rfl, by decide, kt_L, (kx_t 47 (by decide +kernel) rfl)⟩
theorem tx_EK_46_50 : kx_tx "EventKeeper" 46 50 "java/lang/IllegalStateException" ["java/lang/RuntimeException", "java/lang/Exception"] := by
  refine ⟨by decide +kernel, by decide +kernel, (kx_t 271 (by decide +kernel) rfl), (kx_t 272 (by decide +kernel) rfl), (kx_t 10 (by decide +kernel) rfl), ?_⟩
  have h : (Bundle.ownAtoms "EventKeeper" 50 "java/lang/IllegalStateException" ["java/lang/RuntimeException", "java/lang/Exception"]).all (fun w => (decide (w ∈ lw_tbl) && (goodWord w || kx_dc w)) || decide (w ∈ kx_hw) || decide (w ∈ kx_hr)) = true := by decide +kernel
  intro w hw
  have h1 := List.all_eq_true.mp h w hw
  simp only [Bool.or_eq_true, Bool.and_eq_true, decide_eq_true_eq] at h1
  rcases h1 with (⟨h1, h2 | h2⟩ | h1) | h1
  · exact Or.inl (List.mem_filter.mpr ⟨h1, h2⟩)
  · exact Or.inr (Or.inr (Or.inr ⟨h1, h2⟩))
  · exact Or.inr (Or.inl h1)
  · exact Or.inr (Or.inr (Or.inl h1))
theorem wv_EK_53 : kx_wV "EventKeeper" 53 1 y_L_isFull (.code y_L_isFull c_L_isFull 1 (some .boolean)) i_L_isFull 0 := ⟨kx_kw0, (kx_t 290 (by decide +kernel) rfl), (kx_t 287 (by decide +kernel) rfl), (kx_t 288 (by decide +kernel) rfl), ⟨_, rfl, rfl⟩, (kx_t 289 (by decide +kernel) rfl), by decide +kernel, by decide, by decide +kernel, rfl, rfl, by decide⟩
theorem tx_EK_57_61 : kx_tx "EventKeeper" 57 61 "java/lang/IndexOutOfBoundsException" ["java/lang/RuntimeException", "java/lang/Exception"] := by
  refine ⟨by decide +kernel, by decide +kernel, (kx_t 291 (by decide +kernel) rfl), (kx_t 292 (by decide +kernel) rfl), (kx_t 11 (by decide +kernel) rfl), ?_⟩
  have h : (Bundle.ownAtoms "EventKeeper" 61 "java/lang/IndexOutOfBoundsException" ["java/lang/RuntimeException", "java/lang/Exception"]).all (fun w => (decide (w ∈ lw_tbl) && (goodWord w || kx_dc w)) || decide (w ∈ kx_hw) || decide (w ∈ kx_hr)) = true := by decide +kernel
  intro w hw
  have h1 := List.all_eq_true.mp h w hw
  simp only [Bool.or_eq_true, Bool.and_eq_true, decide_eq_true_eq] at h1
  rcases h1 with (⟨h1, h2 | h2⟩ | h1) | h1
  · exact Or.inl (List.mem_filter.mpr ⟨h1, h2⟩)
  · exact Or.inr (Or.inr (Or.inr ⟨h1, h2⟩))
  · exact Or.inr (Or.inl h1)
  · exact Or.inr (Or.inr (Or.inl h1))
theorem wv_EK_62 : kx_wV "EventKeeper" 62 1 y_L_put (.code y_L_put c_L_put 6 (some .int)) i_L_put 3 := ⟨kx_kw0, (kx_t 310 (by decide +kernel) rfl), (kx_t 307 (by decide +kernel) rfl), (kx_t 308 (by decide +kernel) rfl), ⟨_, rfl, rfl⟩, (kx_t 309 (by decide +kernel) rfl), by decide +kernel, by decide, by decide +kernel, rfl, rfl, by decide⟩
theorem ws_EK_66 : kx_wS "EventKeeper" 66 y_EK_checkProjection (.code y_EK_checkProjection c_EK_checkProjection 1 (none)) i_EK_checkProjection 1 := ⟨kx_kw0, (kx_t 320 (by decide +kernel) rfl), (kx_t 318 (by decide +kernel) rfl), (kx_t 319 (by decide +kernel) rfl), (kx_t 1 (by decide +kernel) rfl), by decide +kernel, by decide, by decide +kernel, rfl, rfl, by decide⟩
theorem wv_EK_69 : kx_wV "EventKeeper" 69 2 y_P_setRule (.code y_P_setRule c_P_setRule 4 (none)) i_P_setRule 3 := ⟨kx_kw0, (kx_t 324 (by decide +kernel) rfl), (kx_t 321 (by decide +kernel) rfl), (kx_t 322 (by decide +kernel) rfl), ⟨_, rfl, rfl⟩, (kx_t 323 (by decide +kernel) rfl), by decide +kernel, by decide, by decide +kernel, rfl, rfl, by decide⟩
theorem wv_EK_73 : kx_wV "EventKeeper" 73 2 y_P_takeOne (.code y_P_takeOne c_P_takeOne 4 (some .boolean)) i_P_takeOne 1 := ⟨kx_kw0, (kx_t 335 (by decide +kernel) rfl), (kx_t 332 (by decide +kernel) rfl), (kx_t 333 (by decide +kernel) rfl), ⟨_, rfl, rfl⟩, (kx_t 334 (by decide +kernel) rfl), by decide +kernel, by decide, by decide +kernel, rfl, rfl, by decide⟩
theorem fl_EK_77 : kx_fl "EventKeeper" 77 1 9 := ⟨_, T_L, 11, rfl, by decide, kt_L, (kx_t 53 (by decide +kernel) rfl)⟩
theorem wv_EK_81 : kx_wV "EventKeeper" 81 2 y_P_keep (.code y_P_keep c_P_keep 2 (some .int)) i_P_keep 1 := ⟨kx_kw0, (kx_t 375 (by decide +kernel) rfl), (kx_t 372 (by decide +kernel) rfl), (kx_t 373 (by decide +kernel) rfl), ⟨_, rfl, rfl⟩, (kx_t 374 (by decide +kernel) rfl), by decide +kernel, by decide, by decide +kernel, rfl, rfl, by decide⟩
theorem fl_EK_87 : kx_fl "EventKeeper" 87 2 3 := ⟨_, T_P, 8, rfl, by decide, kt_P, (kx_t 92 (by decide +kernel) rfl)⟩
theorem ws_EK_91 : kx_wS "EventKeeper" 91 y_EK_checkSubscription (.code y_EK_checkSubscription c_EK_checkSubscription 1 (none)) i_EK_checkSubscription 1 := ⟨kx_kw0, (kx_t 393 (by decide +kernel) rfl), (kx_t 391 (by decide +kernel) rfl), (kx_t 392 (by decide +kernel) rfl), (kx_t 1 (by decide +kernel) rfl), by decide +kernel, by decide, by decide +kernel, rfl, rfl, by decide⟩
theorem wv_EK_94 : kx_wV "EventKeeper" 94 3 y_S_setFilter (.code y_S_setFilter c_S_setFilter 3 (none)) i_S_setFilter 2 := ⟨kx_kw0, (kx_t 397 (by decide +kernel) rfl), (kx_t 394 (by decide +kernel) rfl), (kx_t 395 (by decide +kernel) rfl), ⟨_, rfl, rfl⟩, (kx_t 396 (by decide +kernel) rfl), by decide +kernel, by decide, by decide +kernel, rfl, rfl, by decide⟩
theorem wv_EK_98 : kx_wV "EventKeeper" 98 3 y_S_firstWaiting (.code y_S_firstWaiting c_S_firstWaiting 3 (some .int)) i_S_firstWaiting 1 := ⟨kx_kw0, (kx_t 408 (by decide +kernel) rfl), (kx_t 405 (by decide +kernel) rfl), (kx_t 406 (by decide +kernel) rfl), ⟨_, rfl, rfl⟩, (kx_t 407 (by decide +kernel) rfl), by decide +kernel, by decide, by decide +kernel, rfl, rfl, by decide⟩
theorem wv_EK_102 : kx_wV "EventKeeper" 102 0 y_EK_checkPlace (.code y_EK_checkPlace c_EK_checkPlace 2 (none)) i_EK_checkPlace 1 := ⟨kx_kw0, (kx_t 423 (by decide +kernel) rfl), (kx_t 420 (by decide +kernel) rfl), (kx_t 422 (by decide +kernel) rfl), ⟨_, rfl, rfl⟩, (kx_ts 6 (by decide +kernel) rfl), by decide +kernel, by decide, by decide +kernel, rfl, rfl, by decide⟩
theorem wv_EK_105 : kx_wV "EventKeeper" 105 3 y_S_passBehind (.code y_S_passBehind c_S_passBehind 2 (some .int)) i_S_passBehind 1 := ⟨kx_kw0, (kx_t 428 (by decide +kernel) rfl), (kx_t 425 (by decide +kernel) rfl), (kx_t 426 (by decide +kernel) rfl), ⟨_, rfl, rfl⟩, (kx_t 427 (by decide +kernel) rfl), by decide +kernel, by decide, by decide +kernel, rfl, rfl, by decide⟩
theorem fl_EK_108 : kx_fl "EventKeeper" 108 1 10 := ⟨_, T_L, 11, rfl, by decide, kt_L, (kx_t 55 (by decide +kernel) rfl)⟩
theorem wv_EK_111 : kx_wV "EventKeeper" 111 3 y_S_makeSafe (.code y_S_makeSafe c_S_makeSafe 1 (none)) i_S_makeSafe 0 := ⟨kx_kw0, (kx_t 153 (by decide +kernel) rfl), (kx_t 150 (by decide +kernel) rfl), (kx_t 151 (by decide +kernel) rfl), ⟨_, rfl, rfl⟩, (kx_t 152 (by decide +kernel) rfl), by decide +kernel, by decide, by decide +kernel, rfl, rfl, by decide⟩
theorem wv_EK_114 : kx_wV "EventKeeper" 114 1 y_L_dropUndurable (.code y_L_dropUndurable c_L_dropUndurable 2 (none)) i_L_dropUndurable 0 := ⟨kx_kw0, (kx_t 161 (by decide +kernel) rfl), (kx_t 158 (by decide +kernel) rfl), (kx_t 159 (by decide +kernel) rfl), ⟨_, rfl, rfl⟩, (kx_t 160 (by decide +kernel) rfl), by decide +kernel, by decide, by decide +kernel, rfl, rfl, by decide⟩
theorem wv_EK_117 : kx_wV "EventKeeper" 117 2 y_P_recover (.code y_P_recover c_P_recover 2 (none)) i_P_recover 1 := ⟨kx_kw0, (kx_t 169 (by decide +kernel) rfl), (kx_t 166 (by decide +kernel) rfl), (kx_t 167 (by decide +kernel) rfl), ⟨_, rfl, rfl⟩, (kx_t 168 (by decide +kernel) rfl), by decide +kernel, by decide, by decide +kernel, rfl, rfl, by decide⟩
theorem wv_EK_120 : kx_wV "EventKeeper" 120 3 y_S_recover (.code y_S_recover c_S_recover 2 (none)) i_S_recover 1 := ⟨kx_kw0, (kx_t 180 (by decide +kernel) rfl), (kx_t 177 (by decide +kernel) rfl), (kx_t 178 (by decide +kernel) rfl), ⟨_, rfl, rfl⟩, (kx_t 179 (by decide +kernel) rfl), by decide +kernel, by decide, by decide +kernel, rfl, rfl, by decide⟩
theorem fl_EK_121 : kx_fl "EventKeeper" 121 1 0 := ⟨_, T_L, 11, rfl, by decide, kt_L, (kx_t 31 (by decide +kernel) rfl)⟩
theorem fl_EK_124 : kx_fl "EventKeeper" 124 1 1 := ⟨_, T_L, 11, rfl, by decide, kt_L, (kx_t 33 (by decide +kernel) rfl)⟩
theorem fl_EK_127 : kx_fl "EventKeeper" 127 1 2 := ⟨_, T_L, 11, rfl, by decide, kt_L, (kx_t 37 (by decide +kernel) rfl)⟩
theorem fl_EK_130 : kx_fl "EventKeeper" 130 1 4 := ⟨_, T_L, 11, rfl, by decide, kt_L, (kx_t 42 (by decide +kernel) rfl)⟩
theorem fl_EK_133 : kx_fl "EventKeeper" 133 1 5 := ⟨_, T_L, 11, rfl, by decide, kt_L, (kx_t 44 (by decide +kernel) rfl)⟩
theorem fl_EK_136 : kx_fl "EventKeeper" 136 1 3 := ⟨_, T_L, 11, rfl, by decide, kt_L, (kx_t 40 (by decide +kernel) rfl)⟩
theorem wv_EK_139 : kx_wV "EventKeeper" 139 1 y_L_placeOf (.code y_L_placeOf c_L_placeOf 4 (some .int)) i_L_placeOf 2 := ⟨kx_kw0, (kx_t 456 (by decide +kernel) rfl), (kx_t 453 (by decide +kernel) rfl), (kx_t 454 (by decide +kernel) rfl), ⟨_, rfl, rfl⟩, (kx_t 455 (by decide +kernel) rfl), by decide +kernel, by decide, by decide +kernel, rfl, rfl, by decide⟩
theorem fl_EK_145 : kx_fl "EventKeeper" 145 2 4 := ⟨_, T_P, 8, rfl, by decide, kt_P, (kx_t 94 (by decide +kernel) rfl)⟩
theorem fl_EK_148 : kx_fl "EventKeeper" 148 3 2 := ⟨_, T_S, 4, rfl, by decide, kt_S, (kx_t 125 (by decide +kernel) rfl)⟩
theorem fl_EK_149 : kx_fl "EventKeeper" 149 1 8 := ⟨_, T_L, 11, rfl, by decide, kt_L, (kx_t 49 (by decide +kernel) rfl)⟩
theorem tx_EK_152_156 : kx_tx "EventKeeper" 152 156 "java/lang/IllegalArgumentException" ["java/lang/RuntimeException", "java/lang/Exception"] := by
  refine ⟨by decide +kernel, by decide +kernel, (kx_t 200 (by decide +kernel) rfl), (kx_t 201 (by decide +kernel) rfl), (kx_t 9 (by decide +kernel) rfl), ?_⟩
  have h : (Bundle.ownAtoms "EventKeeper" 156 "java/lang/IllegalArgumentException" ["java/lang/RuntimeException", "java/lang/Exception"]).all (fun w => (decide (w ∈ lw_tbl) && (goodWord w || kx_dc w)) || decide (w ∈ kx_hw) || decide (w ∈ kx_hr)) = true := by decide +kernel
  intro w hw
  have h1 := List.all_eq_true.mp h w hw
  simp only [Bool.or_eq_true, Bool.and_eq_true, decide_eq_true_eq] at h1
  rcases h1 with (⟨h1, h2 | h2⟩ | h1) | h1
  · exact Or.inl (List.mem_filter.mpr ⟨h1, h2⟩)
  · exact Or.inr (Or.inr (Or.inr ⟨h1, h2⟩))
  · exact Or.inr (Or.inl h1)
  · exact Or.inr (Or.inr (Or.inl h1))
theorem fl_M_9 : kx_fl "EventKeeperModel" 9 4 3 := ⟨_, T_M, 19, rfl, by decide, kt_M, (kx_t 475 (by decide +kernel) rfl)⟩
theorem fl_M_13 : kx_fl "EventKeeperModel" 13 4 4 := ⟨_, T_M, 19, rfl, by decide, kt_M, (kx_t 476 (by decide +kernel) rfl)⟩
theorem fl_M_16 : kx_fl "EventKeeperModel" 16 4 5 := ⟨_, T_M, 19, rfl, by decide, kt_M, (kx_t 477 (by decide +kernel) rfl)⟩
theorem fl_M_19 : kx_fl "EventKeeperModel" 19 4 6 := ⟨_, T_M, 19, rfl, by decide, kt_M, (kx_t 478 (by decide +kernel) rfl)⟩
theorem fl_M_22 : kx_fl "EventKeeperModel" 22 4 7 := ⟨_, T_M, 19, rfl, by decide, kt_M, (kx_t 479 (by decide +kernel) rfl)⟩
theorem fl_M_26 : kx_fl "EventKeeperModel" 26 4 8 := ⟨_, T_M, 19, rfl, by decide, kt_M, (kx_t 480 (by decide +kernel) rfl)⟩
theorem fl_M_29 : kx_fl "EventKeeperModel" 29 4 9 := ⟨_, T_M, 19, rfl, by decide, kt_M, (kx_t 481 (by decide +kernel) rfl)⟩
theorem fl_M_32 : kx_fl "EventKeeperModel" 32 4 10 := ⟨_, T_M, 19, rfl, by decide, kt_M, (kx_t 482 (by decide +kernel) rfl)⟩
theorem fl_M_35 : kx_fl "EventKeeperModel" 35 4 11 := ⟨_, T_M, 19, rfl, by decide, kt_M, (kx_t 483 (by decide +kernel) rfl)⟩
theorem fl_M_38 : kx_fl "EventKeeperModel" 38 4 12 := ⟨_, T_M, 19, rfl, by decide, kt_M, (kx_t 484 (by decide +kernel) rfl)⟩
theorem fl_M_41 : kx_fl "EventKeeperModel" 41 4 13 := ⟨_, T_M, 19, rfl, by decide, kt_M, (kx_t 485 (by decide +kernel) rfl)⟩
theorem fl_M_44 : kx_fl "EventKeeperModel" 44 4 14 := ⟨_, T_M, 19, rfl, by decide, kt_M, (kx_t 486 (by decide +kernel) rfl)⟩
theorem fl_M_47 : kx_fl "EventKeeperModel" 47 4 15 := ⟨_, T_M, 19, rfl, by decide, kt_M, (kx_t 487 (by decide +kernel) rfl)⟩
theorem fl_M_50 : kx_fl "EventKeeperModel" 50 4 16 := ⟨_, T_M, 19, rfl, by decide, kt_M, (kx_t 488 (by decide +kernel) rfl)⟩
theorem fl_M_53 : kx_fl "EventKeeperModel" 53 4 17 := ⟨_, T_M, 19, rfl, by decide, kt_M, (kx_t 489 (by decide +kernel) rfl)⟩
theorem fl_M_56 : kx_fl "EventKeeperModel" 56 4 18 := ⟨_, T_M, 19, rfl, by decide, kt_M, (kx_t 490 (by decide +kernel) rfl)⟩
theorem fl_M_59 : kx_fl "EventKeeperModel" 59 4 0 := ⟨_, T_M, 19, rfl, by decide, kt_M, (kx_t 472 (by decide +kernel) rfl)⟩
theorem fl_M_63 : kx_fl "EventKeeperModel" 63 4 1 := ⟨_, T_M, 19, rfl, by decide, kt_M, (kx_t 473 (by decide +kernel) rfl)⟩
theorem ws_M_66 : kx_wS "EventKeeperModel" 66 y_M_in (.code y_M_in c_M_in 3 (some .boolean)) i_M_in 3 := ⟨kx_kw0, (kx_t 540 (by decide +kernel) rfl), (kx_t 538 (by decide +kernel) rfl), (kx_t 539 (by decide +kernel) rfl), (kx_t 5 (by decide +kernel) rfl), by decide +kernel, by decide, by decide +kernel, rfl, rfl, by decide⟩
theorem wv_M_70 : kx_wV "EventKeeperModel" 70 4 y_M_fails (.code y_M_fails c_M_fails 3 (some .boolean)) i_M_fails 2 := ⟨kx_kw0, (kx_t 544 (by decide +kernel) rfl), (kx_t 541 (by decide +kernel) rfl), (kx_t 543 (by decide +kernel) rfl), ⟨_, rfl, rfl⟩, (kx_ts 7 (by decide +kernel) rfl), by decide +kernel, by decide, by decide +kernel, rfl, rfl, by decide⟩
theorem wv_M_74 : kx_wV "EventKeeperModel" 74 4 y_M_inStream (.code y_M_inStream c_M_inStream 5 (some .int)) i_M_inStream 2 := ⟨kx_kw0, (kx_t 548 (by decide +kernel) rfl), (kx_t 545 (by decide +kernel) rfl), (kx_t 547 (by decide +kernel) rfl), ⟨_, rfl, rfl⟩, (kx_ts 8 (by decide +kernel) rfl), by decide +kernel, by decide, by decide +kernel, rfl, rfl, by decide⟩
theorem wv_M_78 : kx_wV "EventKeeperModel" 78 4 y_M_put (.code y_M_put c_M_put 7 (some .int)) i_M_put 5 := ⟨kx_kw0, (kx_t 552 (by decide +kernel) rfl), (kx_t 549 (by decide +kernel) rfl), (kx_t 551 (by decide +kernel) rfl), ⟨_, rfl, rfl⟩, (kx_ts 9 (by decide +kernel) rfl), by decide +kernel, by decide, by decide +kernel, rfl, rfl, by decide⟩
theorem ws_M_82 : kx_wS "EventKeeperModel" 82 y_M_isProjection (.code y_M_isProjection c_M_isProjection 1 (some .boolean)) i_M_isProjection 1 := ⟨kx_kw0, (kx_t 559 (by decide +kernel) rfl), (kx_t 557 (by decide +kernel) rfl), (kx_t 558 (by decide +kernel) rfl), (kx_t 5 (by decide +kernel) rfl), by decide +kernel, by decide, by decide +kernel, rfl, rfl, by decide⟩
theorem wv_M_86 : kx_wV "EventKeeperModel" 86 4 y_M_begin (.code y_M_begin c_M_begin 3 (none)) i_M_begin 1 := ⟨kx_kw0, (kx_t 563 (by decide +kernel) rfl), (kx_t 560 (by decide +kernel) rfl), (kx_t 562 (by decide +kernel) rfl), ⟨_, rfl, rfl⟩, (kx_ts 10 (by decide +kernel) rfl), by decide +kernel, by decide, by decide +kernel, rfl, rfl, by decide⟩
theorem wv_M_90 : kx_wV "EventKeeperModel" 90 4 y_M_takes (.code y_M_takes c_M_takes 12 (some .boolean)) i_M_takes 2 := ⟨kx_kw0, (kx_t 571 (by decide +kernel) rfl), (kx_t 568 (by decide +kernel) rfl), (kx_t 570 (by decide +kernel) rfl), ⟨_, rfl, rfl⟩, (kx_ts 11 (by decide +kernel) rfl), by decide +kernel, by decide, by decide +kernel, rfl, rfl, by decide⟩
theorem ws_M_96 : kx_wS "EventKeeperModel" 96 y_M_isSubscription (.code y_M_isSubscription c_M_isSubscription 1 (some .boolean)) i_M_isSubscription 1 := ⟨kx_kw0, (kx_t 587 (by decide +kernel) rfl), (kx_t 585 (by decide +kernel) rfl), (kx_t 586 (by decide +kernel) rfl), (kx_t 5 (by decide +kernel) rfl), by decide +kernel, by decide, by decide +kernel, rfl, rfl, by decide⟩
theorem fl_M_99 : kx_fl "EventKeeperModel" 99 4 2 := ⟨_, T_M, 19, rfl, by decide, kt_M, (kx_t 474 (by decide +kernel) rfl)⟩
theorem wv_M_102 : kx_wV "EventKeeperModel" 102 4 y_M_isNone (.code y_M_isNone c_M_isNone 2 (some .boolean)) i_M_isNone 1 := ⟨kx_kw0, (kx_t 611 (by decide +kernel) rfl), (kx_t 608 (by decide +kernel) rfl), (kx_t 610 (by decide +kernel) rfl), ⟨_, rfl, rfl⟩, (kx_ts 12 (by decide +kernel) rfl), by decide +kernel, by decide, by decide +kernel, rfl, rfl, by decide⟩
theorem fl_L_9 : kx_fl "EventKeeper$Log" 9 1 0 := ⟨_, T_L, 11, rfl, by decide, kt_L, (kx_t 28 (by decide +kernel) rfl)⟩
theorem fl_L_15 : kx_fl "EventKeeper$Log" 15 1 1 := ⟨_, T_L, 11, rfl, by decide, kt_L, (kx_t 32 (by decide +kernel) rfl)⟩
theorem fl_L_18 : kx_fl "EventKeeper$Log" 18 1 2 := ⟨_, T_L, 11, rfl, by decide, kt_L, (kx_t 34 (by decide +kernel) rfl)⟩
theorem fl_L_21 : kx_fl "EventKeeper$Log" 21 1 3 := ⟨_, T_L, 11, rfl, by decide, kt_L, (kx_t 38 (by decide +kernel) rfl)⟩
theorem fl_L_25 : kx_fl "EventKeeper$Log" 25 1 4 := ⟨_, T_L, 11, rfl, by decide, kt_L, (kx_t 41 (by decide +kernel) rfl)⟩
theorem fl_L_28 : kx_fl "EventKeeper$Log" 28 1 5 := ⟨_, T_L, 11, rfl, by decide, kt_L, (kx_t 43 (by decide +kernel) rfl)⟩
theorem fl_L_31 : kx_fl "EventKeeper$Log" 31 1 6 := ⟨_, T_L, 11, rfl, by decide, kt_L, (kx_t 45 (by decide +kernel) rfl)⟩
theorem fl_L_34 : kx_fl "EventKeeper$Log" 34 1 7 := ⟨_, T_L, 11, rfl, by decide, kt_L, (kx_t 46 (by decide +kernel) rfl)⟩
theorem fl_L_37 : kx_fl "EventKeeper$Log" 37 1 8 := ⟨_, T_L, 11, rfl, by decide, kt_L, (kx_t 48 (by decide +kernel) rfl)⟩
theorem fl_L_40 : kx_fl "EventKeeper$Log" 40 1 9 := ⟨_, T_L, 11, rfl, by decide, kt_L, (kx_t 50 (by decide +kernel) rfl)⟩
theorem wv_L_46 : kx_wV "EventKeeper$Log" 46 1 y_L_put (.code y_L_put c_L_put 6 (some .int)) i_L_put 3 := ⟨kx_kw0, (kx_t 310 (by decide +kernel) rfl), (kx_t 355 (by decide +kernel) rfl), (kx_t 308 (by decide +kernel) rfl), ⟨_, rfl, rfl⟩, (kx_t 309 (by decide +kernel) rfl), by decide +kernel, by decide, by decide +kernel, rfl, rfl, by decide⟩
theorem fl_L_50 : kx_fl "EventKeeper$Log" 50 1 10 := ⟨_, T_L, 11, rfl, by decide, kt_L, (kx_t 54 (by decide +kernel) rfl)⟩
theorem wv_L_53 : kx_wV "EventKeeper$Log" 53 1 y_L_forgetCause (.code y_L_forgetCause c_L_forgetCause 3 (none)) i_L_forgetCause 1 := ⟨kx_kw0, (kx_t 165 (by decide +kernel) rfl), (kx_t 162 (by decide +kernel) rfl), (kx_t 164 (by decide +kernel) rfl), ⟨_, rfl, rfl⟩, (kx_ts 0 (by decide +kernel) rfl), by decide +kernel, by decide, by decide +kernel, rfl, rfl, by decide⟩
theorem fl_P_9 : kx_fl "EventKeeper$Projection" 9 2 0 := ⟨_, T_P, 8, rfl, by decide, kt_P, (kx_t 88 (by decide +kernel) rfl)⟩
theorem fl_P_15 : kx_fl "EventKeeper$Projection" 15 2 1 := ⟨_, T_P, 8, rfl, by decide, kt_P, (kx_t 89 (by decide +kernel) rfl)⟩
theorem fl_P_19 : kx_fl "EventKeeper$Projection" 19 2 2 := ⟨_, T_P, 8, rfl, by decide, kt_P, (kx_t 90 (by decide +kernel) rfl)⟩
theorem fl_P_22 : kx_fl "EventKeeper$Projection" 22 2 3 := ⟨_, T_P, 8, rfl, by decide, kt_P, (kx_t 91 (by decide +kernel) rfl)⟩
theorem fl_P_26 : kx_fl "EventKeeper$Projection" 26 2 5 := ⟨_, T_P, 8, rfl, by decide, kt_P, (kx_t 95 (by decide +kernel) rfl)⟩
theorem fl_P_29 : kx_fl "EventKeeper$Projection" 29 2 7 := ⟨_, T_P, 8, rfl, by decide, kt_P, (kx_t 97 (by decide +kernel) rfl)⟩
theorem wv_P_32 : kx_wV "EventKeeper$Projection" 32 2 y_P_startOver (.code y_P_startOver c_P_startOver 2 (none)) i_P_startOver 0 := ⟨kx_kw0, (kx_t 173 (by decide +kernel) rfl), (kx_t 170 (by decide +kernel) rfl), (kx_t 172 (by decide +kernel) rfl), ⟨_, rfl, rfl⟩, (kx_ts 1 (by decide +kernel) rfl), by decide +kernel, by decide, by decide +kernel, rfl, rfl, by decide⟩
theorem fl_P_35 : kx_fl "EventKeeper$Projection" 35 2 4 := ⟨_, T_P, 8, rfl, by decide, kt_P, (kx_t 93 (by decide +kernel) rfl)⟩
theorem fl_P_38 : kx_fl "EventKeeper$Projection" 38 1 9 := ⟨_, T_L, 11, rfl, by decide, kt_L, (kx_t 51 (by decide +kernel) rfl)⟩
theorem fl_P_43 : kx_fl "EventKeeper$Projection" 43 1 2 := ⟨_, T_L, 11, rfl, by decide, kt_L, (kx_t 35 (by decide +kernel) rfl)⟩
theorem wv_P_46 : kx_wV "EventKeeper$Projection" 46 2 y_P_targetCell (.code y_P_targetCell c_P_targetCell 2 (some .int)) i_P_targetCell 1 := ⟨kx_kw0, (kx_t 339 (by decide +kernel) rfl), (kx_t 336 (by decide +kernel) rfl), (kx_t 338 (by decide +kernel) rfl), ⟨_, rfl, rfl⟩, (kx_ts 3 (by decide +kernel) rfl), by decide +kernel, by decide, by decide +kernel, rfl, rfl, by decide⟩
theorem wv_P_50 : kx_wV "EventKeeper$Projection" 50 2 y_P_countAndEmit (.code y_P_countAndEmit c_P_countAndEmit 6 (some .boolean)) i_P_countAndEmit 2 := ⟨kx_kw0, (kx_t 344 (by decide +kernel) rfl), (kx_t 341 (by decide +kernel) rfl), (kx_t 343 (by decide +kernel) rfl), ⟨_, rfl, rfl⟩, (kx_ts 4 (by decide +kernel) rfl), by decide +kernel, by decide, by decide +kernel, rfl, rfl, by decide⟩
theorem fl_P_54 : kx_fl "EventKeeper$Projection" 54 1 3 := ⟨_, T_L, 11, rfl, by decide, kt_L, (kx_t 39 (by decide +kernel) rfl)⟩
theorem ws_P_57 : kx_wS "EventKeeper$Projection" 57 y_P_folded (.code y_P_folded c_P_folded 5 (some .long)) i_P_folded 3 := ⟨kx_kw0, (kx_t 358 (by decide +kernel) rfl), (kx_t 356 (by decide +kernel) rfl), (kx_t 357 (by decide +kernel) rfl), (kx_t 3 (by decide +kernel) rfl), by decide +kernel, by decide, by decide +kernel, rfl, rfl, by decide⟩
theorem fl_P_61 : kx_fl "EventKeeper$Projection" 61 1 0 := ⟨_, T_L, 11, rfl, by decide, kt_L, (kx_t 30 (by decide +kernel) rfl)⟩
theorem wv_P_75 : kx_wV "EventKeeper$Projection" 75 1 y_L_hasEmitted (.code y_L_hasEmitted c_L_hasEmitted 3 (some .boolean)) i_L_hasEmitted 2 := ⟨kx_kw0, (kx_t 348 (by decide +kernel) rfl), (kx_t 345 (by decide +kernel) rfl), (kx_t 346 (by decide +kernel) rfl), ⟨_, rfl, rfl⟩, (kx_t 347 (by decide +kernel) rfl), by decide +kernel, by decide, by decide +kernel, rfl, rfl, by decide⟩
theorem wv_P_79 : kx_wV "EventKeeper$Projection" 79 1 y_L_isFull (.code y_L_isFull c_L_isFull 1 (some .boolean)) i_L_isFull 0 := ⟨kx_kw0, (kx_t 290 (by decide +kernel) rfl), (kx_t 349 (by decide +kernel) rfl), (kx_t 288 (by decide +kernel) rfl), ⟨_, rfl, rfl⟩, (kx_t 289 (by decide +kernel) rfl), by decide +kernel, by decide, by decide +kernel, rfl, rfl, by decide⟩
theorem wv_P_83 : kx_wV "EventKeeper$Projection" 83 1 y_L_putEmitted (.code y_L_putEmitted c_L_putEmitted 6 (none)) i_L_putEmitted 3 := ⟨kx_kw0, (kx_t 353 (by decide +kernel) rfl), (kx_t 350 (by decide +kernel) rfl), (kx_t 351 (by decide +kernel) rfl), ⟨_, rfl, rfl⟩, (kx_t 352 (by decide +kernel) rfl), by decide +kernel, by decide, by decide +kernel, rfl, rfl, by decide⟩
theorem fl_P_93 : kx_fl "EventKeeper$Projection" 93 2 6 := ⟨_, T_P, 8, rfl, by decide, kt_P, (kx_t 96 (by decide +kernel) rfl)⟩
theorem fl_S_9 : kx_fl "EventKeeper$Subscription" 9 3 0 := ⟨_, T_S, 4, rfl, by decide, kt_S, (kx_t 122 (by decide +kernel) rfl)⟩
theorem fl_S_15 : kx_fl "EventKeeper$Subscription" 15 3 1 := ⟨_, T_S, 4, rfl, by decide, kt_S, (kx_t 123 (by decide +kernel) rfl)⟩
theorem fl_S_18 : kx_fl "EventKeeper$Subscription" 18 3 2 := ⟨_, T_S, 4, rfl, by decide, kt_S, (kx_t 124 (by decide +kernel) rfl)⟩
theorem fl_S_21 : kx_fl "EventKeeper$Subscription" 21 3 3 := ⟨_, T_S, 4, rfl, by decide, kt_S, (kx_t 126 (by decide +kernel) rfl)⟩
theorem fl_S_24 : kx_fl "EventKeeper$Subscription" 24 1 9 := ⟨_, T_L, 11, rfl, by decide, kt_L, (kx_t 52 (by decide +kernel) rfl)⟩
theorem fl_S_29 : kx_fl "EventKeeper$Subscription" 29 1 0 := ⟨_, T_L, 11, rfl, by decide, kt_L, (kx_t 29 (by decide +kernel) rfl)⟩
theorem fl_S_33 : kx_fl "EventKeeper$Subscription" 33 1 2 := ⟨_, T_L, 11, rfl, by decide, kt_L, (kx_t 36 (by decide +kernel) rfl)⟩
theorem wv_S_36 : kx_wV "EventKeeper$Subscription" 36 3 y_S_letsThrough (.code y_S_letsThrough c_S_letsThrough 4 (some .boolean)) i_S_letsThrough 2 := ⟨kx_kw0, (kx_t 412 (by decide +kernel) rfl), (kx_t 409 (by decide +kernel) rfl), (kx_t 411 (by decide +kernel) rfl), ⟨_, rfl, rfl⟩, (kx_ts 5 (by decide +kernel) rfl), by decide +kernel, by decide, by decide +kernel, rfl, rfl, by decide⟩
theorem wv_W_7 : kx_wV "EventKeeperLaw" 7 0 y_EK_append (.code y_EK_append c_EK_append 6 (some .int)) i_EK_append 4 := ⟨kx_kw0, (kx_t 193 (by decide +kernel) rfl), (kx_t 190 (by decide +kernel) rfl), (kx_t 191 (by decide +kernel) rfl), ⟨_, rfl, rfl⟩, (kx_t 192 (by decide +kernel) rfl), by decide +kernel, by decide, by decide +kernel, rfl, rfl, by decide⟩
theorem wv_W_19 : kx_wV "EventKeeperLaw" 19 0 y_EK_rule (.code y_EK_rule c_EK_rule 5 (none)) i_EK_rule 4 := ⟨kx_kw0, (kx_t 317 (by decide +kernel) rfl), (kx_t 314 (by decide +kernel) rfl), (kx_t 315 (by decide +kernel) rfl), ⟨_, rfl, rfl⟩, (kx_t 316 (by decide +kernel) rfl), by decide +kernel, by decide, by decide +kernel, rfl, rfl, by decide⟩
theorem wv_W_23 : kx_wV "EventKeeperLaw" 23 0 y_EK_advance (.code y_EK_advance c_EK_advance 4 (some .int)) i_EK_advance 2 := ⟨kx_kw0, (kx_t 331 (by decide +kernel) rfl), (kx_t 328 (by decide +kernel) rfl), (kx_t 329 (by decide +kernel) rfl), ⟨_, rfl, rfl⟩, (kx_t 330 (by decide +kernel) rfl), by decide +kernel, by decide, by decide +kernel, rfl, rfl, by decide⟩
theorem wv_W_27 : kx_wV "EventKeeperLaw" 27 0 y_EK_save (.code y_EK_save c_EK_save 2 (some .int)) i_EK_save 1 := ⟨kx_kw0, (kx_t 371 (by decide +kernel) rfl), (kx_t 368 (by decide +kernel) rfl), (kx_t 369 (by decide +kernel) rfl), ⟨_, rfl, rfl⟩, (kx_t 370 (by decide +kernel) rfl), by decide +kernel, by decide, by decide +kernel, rfl, rfl, by decide⟩
theorem wv_W_31 : kx_wV "EventKeeperLaw" 31 0 y_EK_cell (.code y_EK_cell c_EK_cell 3 (some .long)) i_EK_cell 2 := ⟨kx_kw0, (kx_t 382 (by decide +kernel) rfl), (kx_t 379 (by decide +kernel) rfl), (kx_t 380 (by decide +kernel) rfl), ⟨_, rfl, rfl⟩, (kx_t 381 (by decide +kernel) rfl), by decide +kernel, by decide, by decide +kernel, rfl, rfl, by decide⟩
theorem wv_W_35 : kx_wV "EventKeeperLaw" 35 0 y_EK_filter (.code y_EK_filter c_EK_filter 4 (none)) i_EK_filter 3 := ⟨kx_kw0, (kx_t 390 (by decide +kernel) rfl), (kx_t 387 (by decide +kernel) rfl), (kx_t 388 (by decide +kernel) rfl), ⟨_, rfl, rfl⟩, (kx_t 389 (by decide +kernel) rfl), by decide +kernel, by decide, by decide +kernel, rfl, rfl, by decide⟩
theorem wv_W_39 : kx_wV "EventKeeperLaw" 39 0 y_EK_next (.code y_EK_next c_EK_next 2 (some .int)) i_EK_next 1 := ⟨kx_kw0, (kx_t 404 (by decide +kernel) rfl), (kx_t 401 (by decide +kernel) rfl), (kx_t 402 (by decide +kernel) rfl), ⟨_, rfl, rfl⟩, (kx_t 403 (by decide +kernel) rfl), by decide +kernel, by decide, by decide +kernel, rfl, rfl, by decide⟩
theorem wv_W_42 : kx_wV "EventKeeperLaw" 42 0 y_EK_acknowledge (.code y_EK_acknowledge c_EK_acknowledge 3 (some .int)) i_EK_acknowledge 2 := ⟨kx_kw0, (kx_t 419 (by decide +kernel) rfl), (kx_t 416 (by decide +kernel) rfl), (kx_t 417 (by decide +kernel) rfl), ⟨_, rfl, rfl⟩, (kx_t 418 (by decide +kernel) rfl), by decide +kernel, by decide, by decide +kernel, rfl, rfl, by decide⟩
theorem wv_W_45 : kx_wV "EventKeeperLaw" 45 0 y_EK_event (.code y_EK_event c_EK_event 3 (some .int)) i_EK_event 2 := ⟨kx_kw0, (kx_t 438 (by decide +kernel) rfl), (kx_t 435 (by decide +kernel) rfl), (kx_t 436 (by decide +kernel) rfl), ⟨_, rfl, rfl⟩, (kx_t 437 (by decide +kernel) rfl), by decide +kernel, by decide, by decide +kernel, rfl, rfl, by decide⟩
theorem wv_W_48 : kx_wV "EventKeeperLaw" 48 0 y_EK_value (.code y_EK_value c_EK_value 2 (some .long)) i_EK_value 1 := ⟨kx_kw0, (kx_t 445 (by decide +kernel) rfl), (kx_t 442 (by decide +kernel) rfl), (kx_t 443 (by decide +kernel) rfl), ⟨_, rfl, rfl⟩, (kx_t 444 (by decide +kernel) rfl), by decide +kernel, by decide, by decide +kernel, rfl, rfl, by decide⟩
theorem wv_W_52 : kx_wV "EventKeeperLaw" 52 0 y_EK_find (.code y_EK_find c_EK_find 4 (some .int)) i_EK_find 2 := ⟨kx_kw0, (kx_t 452 (by decide +kernel) rfl), (kx_t 449 (by decide +kernel) rfl), (kx_t 450 (by decide +kernel) rfl), ⟨_, rfl, rfl⟩, (kx_t 451 (by decide +kernel) rfl), by decide +kernel, by decide, by decide +kernel, rfl, rfl, by decide⟩
theorem wv_W_55 : kx_wV "EventKeeperLaw" 55 0 y_EK_count (.code y_EK_count c_EK_count 3 (some .int)) i_EK_count 2 := ⟨kx_kw0, (kx_t 464 (by decide +kernel) rfl), (kx_t 461 (by decide +kernel) rfl), (kx_t 462 (by decide +kernel) rfl), ⟨_, rfl, rfl⟩, (kx_t 463 (by decide +kernel) rfl), by decide +kernel, by decide, by decide +kernel, rfl, rfl, by decide⟩
theorem nw_W_8 : kx_nw "EventKeeperLaw" 8 0 3 [.null, .null, .null] := ⟨_, T_EK, ty_EK, rfl, kt_EK, kp_EK, (kx_t 14 (by decide +kernel) rfl), (kx_t 15 (by decide +kernel) rfl), (kx_t 1 (by decide +kernel) rfl), fun B z hz => by
  have h : ∀ z, z < 3 → defaultValue (ty_EK z) = ([.null, .null, .null] : List Value).getD z .null ∧ ∀ i, ([.null, .null, .null] : List Value).getD z .null ≠ .ref i := by
    intro z hz
    refine ⟨?_, fun i h => ?_⟩
    · revert z; decide
    · have h2 : ([.null, .null, .null] : List Value).all (fun v => match v with | .ref _ => false | _ => true) = true := rfl
      rw [List.getD_eq_getElem?_getD] at h
      cases hg : ([.null, .null, .null] : List Value)[z]? with
      | none => rw [hg] at h; cases h
      | some v =>
        rw [hg] at h
        have h3 := List.all_eq_true.mp h2 v (List.mem_of_getElem? hg)
        cases h
        cases h3
  obtain ⟨h1, h2⟩ := h z hz
  rw [h1]
  cases hv : ([.null, .null, .null] : List Value).getD z .null with
  | ref i => exact absurd hv (h2 i)
  | _ => rfl⟩
theorem wi_W_58 : kx_wI "EventKeeperLaw" 58 y_EK_init i_EK_init 0 := ⟨(kx_t 18 (by decide +kernel) rfl), rfl, rfl, (kx_t 16 (by decide +kernel) rfl), (kx_t 17 (by decide +kernel) rfl), rfl, by decide +kernel, by decide, by decide +kernel, rfl, rfl, by decide⟩
theorem nw_W_59 : kx_nw "EventKeeperLaw" 59 4 19 [.int 0, .int 0, .int 0, .null, .null, .null, .null, .null, .null, .null, .null, .null, .null, .null, .null, .null, .null, .null, .null] := ⟨_, T_M, ty_M, rfl, kt_M, kp_M, (kx_t 466 (by decide +kernel) rfl), (kx_t 467 (by decide +kernel) rfl), (kx_t 5 (by decide +kernel) rfl), fun B z hz => by
  have h : ∀ z, z < 19 → defaultValue (ty_M z) = ([.int 0, .int 0, .int 0, .null, .null, .null, .null, .null, .null, .null, .null, .null, .null, .null, .null, .null, .null, .null, .null] : List Value).getD z .null ∧ ∀ i, ([.int 0, .int 0, .int 0, .null, .null, .null, .null, .null, .null, .null, .null, .null, .null, .null, .null, .null, .null, .null, .null] : List Value).getD z .null ≠ .ref i := by
    intro z hz
    refine ⟨?_, fun i h => ?_⟩
    · revert z; decide
    · have h2 : ([.int 0, .int 0, .int 0, .null, .null, .null, .null, .null, .null, .null, .null, .null, .null, .null, .null, .null, .null, .null, .null] : List Value).all (fun v => match v with | .ref _ => false | _ => true) = true := rfl
      rw [List.getD_eq_getElem?_getD] at h
      cases hg : ([.int 0, .int 0, .int 0, .null, .null, .null, .null, .null, .null, .null, .null, .null, .null, .null, .null, .null, .null, .null, .null] : List Value)[z]? with
      | none => rw [hg] at h; cases h
      | some v =>
        rw [hg] at h
        have h3 := List.all_eq_true.mp h2 v (List.mem_of_getElem? hg)
        cases h
        cases h3
  obtain ⟨h1, h2⟩ := h z hz
  rw [h1]
  cases hv : ([.int 0, .int 0, .int 0, .null, .null, .null, .null, .null, .null, .null, .null, .null, .null, .null, .null, .null, .null, .null, .null] : List Value).getD z .null with
  | ref i => exact absurd hv (h2 i)
  | _ => rfl⟩
theorem wi_W_61 : kx_wI "EventKeeperLaw" 61 y_M_init i_M_init 0 := ⟨(kx_t 470 (by decide +kernel) rfl), rfl, rfl, (kx_t 468 (by decide +kernel) rfl), (kx_t 469 (by decide +kernel) rfl), rfl, by decide +kernel, by decide, by decide +kernel, rfl, rfl, by decide⟩
theorem ws_W_64 : kx_wS "EventKeeperLaw" 64 y_W_append (.codeWith y_W_append c_W_append 8 (some .int) i_W_append.2.2.2.2.1) i_W_append 6 := ⟨kx_kwH, (kx_t 186 (by decide +kernel) rfl), (kx_t 184 (by decide +kernel) rfl), (kx_t 185 (by decide +kernel) rfl), (kx_t 0 (by decide +kernel) rfl), by decide +kernel, by decide, by decide +kernel, rfl, rfl, by decide⟩
theorem wv_W_69 : kx_wV "EventKeeperLaw" 69 4 y_M_append (.code y_M_append c_M_append 6 (some .int)) i_M_append 4 := ⟨kx_kw0, (kx_t 537 (by decide +kernel) rfl), (kx_t 534 (by decide +kernel) rfl), (kx_t 535 (by decide +kernel) rfl), ⟨_, rfl, rfl⟩, (kx_t 536 (by decide +kernel) rfl), by decide +kernel, by decide, by decide +kernel, rfl, rfl, by decide⟩
theorem wv_W_70 : kx_wV "EventKeeperLaw" 70 4 y_M_thrown (.code y_M_thrown c_M_thrown 1 (some .int)) i_M_thrown 0 := ⟨kx_kw0, (kx_t 533 (by decide +kernel) rfl), (kx_t 530 (by decide +kernel) rfl), (kx_t 531 (by decide +kernel) rfl), ⟨_, rfl, rfl⟩, (kx_t 532 (by decide +kernel) rfl), by decide +kernel, by decide, by decide +kernel, rfl, rfl, by decide⟩
theorem ws_W_74 : kx_wS "EventKeeperLaw" 74 y_W_rule (.codeWith y_W_rule c_W_rule 6 (some .int) i_W_rule.2.2.2.2.1) i_W_rule 5 := ⟨kx_kwH, (kx_t 313 (by decide +kernel) rfl), (kx_t 311 (by decide +kernel) rfl), (kx_t 312 (by decide +kernel) rfl), (kx_t 0 (by decide +kernel) rfl), by decide +kernel, by decide, by decide +kernel, rfl, rfl, by decide⟩
theorem wv_W_77 : kx_wV "EventKeeperLaw" 77 4 y_M_rule (.code y_M_rule c_M_rule 5 (none)) i_M_rule 4 := ⟨kx_kw0, (kx_t 556 (by decide +kernel) rfl), (kx_t 553 (by decide +kernel) rfl), (kx_t 554 (by decide +kernel) rfl), ⟨_, rfl, rfl⟩, (kx_t 555 (by decide +kernel) rfl), by decide +kernel, by decide, by decide +kernel, rfl, rfl, by decide⟩
theorem ws_W_78 : kx_wS "EventKeeperLaw" 78 y_W_advance (.codeWith y_W_advance c_W_advance 5 (some .int) i_W_advance.2.2.2.2.1) i_W_advance 4 := ⟨kx_kwH, (kx_t 327 (by decide +kernel) rfl), (kx_t 325 (by decide +kernel) rfl), (kx_t 326 (by decide +kernel) rfl), (kx_t 0 (by decide +kernel) rfl), by decide +kernel, by decide, by decide +kernel, rfl, rfl, by decide⟩
theorem wv_W_81 : kx_wV "EventKeeperLaw" 81 4 y_M_advance (.code y_M_advance c_M_advance 4 (some .int)) i_M_advance 2 := ⟨kx_kw0, (kx_t 567 (by decide +kernel) rfl), (kx_t 564 (by decide +kernel) rfl), (kx_t 565 (by decide +kernel) rfl), ⟨_, rfl, rfl⟩, (kx_t 566 (by decide +kernel) rfl), by decide +kernel, by decide, by decide +kernel, rfl, rfl, by decide⟩
theorem ws_W_82 : kx_wS "EventKeeperLaw" 82 y_W_save (.codeWith y_W_save c_W_save 4 (some .int) i_W_save.2.2.2.2.1) i_W_save 3 := ⟨kx_kwH, (kx_t 367 (by decide +kernel) rfl), (kx_t 365 (by decide +kernel) rfl), (kx_t 366 (by decide +kernel) rfl), (kx_t 0 (by decide +kernel) rfl), by decide +kernel, by decide, by decide +kernel, rfl, rfl, by decide⟩
theorem wv_W_85 : kx_wV "EventKeeperLaw" 85 4 y_M_save (.code y_M_save c_M_save 3 (some .int)) i_M_save 1 := ⟨kx_kw0, (kx_t 576 (by decide +kernel) rfl), (kx_t 573 (by decide +kernel) rfl), (kx_t 574 (by decide +kernel) rfl), ⟨_, rfl, rfl⟩, (kx_t 575 (by decide +kernel) rfl), by decide +kernel, by decide, by decide +kernel, rfl, rfl, by decide⟩
theorem ws_W_86 : kx_wS "EventKeeperLaw" 86 y_W_cell (.codeWith y_W_cell c_W_cell 5 (some .int) i_W_cell.2.2.2.2.1) i_W_cell 4 := ⟨kx_kwH, (kx_t 378 (by decide +kernel) rfl), (kx_t 376 (by decide +kernel) rfl), (kx_t 377 (by decide +kernel) rfl), (kx_t 0 (by decide +kernel) rfl), by decide +kernel, by decide, by decide +kernel, rfl, rfl, by decide⟩
theorem wv_W_88 : kx_wV "EventKeeperLaw" 88 4 y_M_cell (.code y_M_cell c_M_cell 3 (some .long)) i_M_cell 2 := ⟨kx_kw0, (kx_t 580 (by decide +kernel) rfl), (kx_t 577 (by decide +kernel) rfl), (kx_t 578 (by decide +kernel) rfl), ⟨_, rfl, rfl⟩, (kx_t 579 (by decide +kernel) rfl), by decide +kernel, by decide, by decide +kernel, rfl, rfl, by decide⟩
theorem ws_W_89 : kx_wS "EventKeeperLaw" 89 y_W_filter (.codeWith y_W_filter c_W_filter 5 (some .int) i_W_filter.2.2.2.2.1) i_W_filter 4 := ⟨kx_kwH, (kx_t 386 (by decide +kernel) rfl), (kx_t 384 (by decide +kernel) rfl), (kx_t 385 (by decide +kernel) rfl), (kx_t 0 (by decide +kernel) rfl), by decide +kernel, by decide, by decide +kernel, rfl, rfl, by decide⟩
theorem wv_W_92 : kx_wV "EventKeeperLaw" 92 4 y_M_filter (.code y_M_filter c_M_filter 4 (none)) i_M_filter 3 := ⟨kx_kw0, (kx_t 584 (by decide +kernel) rfl), (kx_t 581 (by decide +kernel) rfl), (kx_t 582 (by decide +kernel) rfl), ⟨_, rfl, rfl⟩, (kx_t 583 (by decide +kernel) rfl), by decide +kernel, by decide, by decide +kernel, rfl, rfl, by decide⟩
theorem ws_W_93 : kx_wS "EventKeeperLaw" 93 y_W_next (.codeWith y_W_next c_W_next 4 (some .int) i_W_next.2.2.2.2.1) i_W_next 3 := ⟨kx_kwH, (kx_t 400 (by decide +kernel) rfl), (kx_t 398 (by decide +kernel) rfl), (kx_t 399 (by decide +kernel) rfl), (kx_t 0 (by decide +kernel) rfl), by decide +kernel, by decide, by decide +kernel, rfl, rfl, by decide⟩
theorem wv_W_95 : kx_wV "EventKeeperLaw" 95 4 y_M_next (.code y_M_next c_M_next 3 (some .int)) i_M_next 1 := ⟨kx_kw0, (kx_t 591 (by decide +kernel) rfl), (kx_t 588 (by decide +kernel) rfl), (kx_t 589 (by decide +kernel) rfl), ⟨_, rfl, rfl⟩, (kx_t 590 (by decide +kernel) rfl), by decide +kernel, by decide, by decide +kernel, rfl, rfl, by decide⟩
theorem ws_W_96 : kx_wS "EventKeeperLaw" 96 y_W_acknowledge (.codeWith y_W_acknowledge c_W_acknowledge 5 (some .int) i_W_acknowledge.2.2.2.2.1) i_W_acknowledge 4 := ⟨kx_kwH, (kx_t 415 (by decide +kernel) rfl), (kx_t 413 (by decide +kernel) rfl), (kx_t 414 (by decide +kernel) rfl), (kx_t 0 (by decide +kernel) rfl), by decide +kernel, by decide, by decide +kernel, rfl, rfl, by decide⟩
theorem wv_W_98 : kx_wV "EventKeeperLaw" 98 4 y_M_acknowledge (.code y_M_acknowledge c_M_acknowledge 3 (some .int)) i_M_acknowledge 2 := ⟨kx_kw0, (kx_t 595 (by decide +kernel) rfl), (kx_t 592 (by decide +kernel) rfl), (kx_t 593 (by decide +kernel) rfl), ⟨_, rfl, rfl⟩, (kx_t 594 (by decide +kernel) rfl), by decide +kernel, by decide, by decide +kernel, rfl, rfl, by decide⟩
theorem wv_W_99 : kx_wV "EventKeeperLaw" 99 0 y_EK_sync (.code y_EK_sync c_EK_sync 2 (some .int)) i_EK_sync 0 := ⟨kx_kw0, (kx_t 149 (by decide +kernel) rfl), (kx_t 146 (by decide +kernel) rfl), (kx_t 147 (by decide +kernel) rfl), ⟨_, rfl, rfl⟩, (kx_t 148 (by decide +kernel) rfl), by decide +kernel, by decide, by decide +kernel, rfl, rfl, by decide⟩
theorem wv_W_102 : kx_wV "EventKeeperLaw" 102 4 y_M_sync (.code y_M_sync c_M_sync 2 (some .int)) i_M_sync 0 := ⟨kx_kw0, (kx_t 599 (by decide +kernel) rfl), (kx_t 596 (by decide +kernel) rfl), (kx_t 597 (by decide +kernel) rfl), ⟨_, rfl, rfl⟩, (kx_t 598 (by decide +kernel) rfl), by decide +kernel, by decide, by decide +kernel, rfl, rfl, by decide⟩
theorem wv_W_103 : kx_wV "EventKeeperLaw" 103 0 y_EK_crash (.code y_EK_crash c_EK_crash 2 (some .int)) i_EK_crash 0 := ⟨kx_kw0, (kx_t 157 (by decide +kernel) rfl), (kx_t 154 (by decide +kernel) rfl), (kx_t 155 (by decide +kernel) rfl), ⟨_, rfl, rfl⟩, (kx_t 156 (by decide +kernel) rfl), by decide +kernel, by decide, by decide +kernel, rfl, rfl, by decide⟩
theorem wv_W_106 : kx_wV "EventKeeperLaw" 106 4 y_M_crash (.code y_M_crash c_M_crash 3 (some .int)) i_M_crash 0 := ⟨kx_kw0, (kx_t 603 (by decide +kernel) rfl), (kx_t 600 (by decide +kernel) rfl), (kx_t 601 (by decide +kernel) rfl), ⟨_, rfl, rfl⟩, (kx_t 602 (by decide +kernel) rfl), by decide +kernel, by decide, by decide +kernel, rfl, rfl, by decide⟩
theorem ws_W_107 : kx_wS "EventKeeperLaw" 107 y_W_event (.codeWith y_W_event c_W_event 5 (some .int) i_W_event.2.2.2.2.1) i_W_event 4 := ⟨kx_kwH, (kx_t 434 (by decide +kernel) rfl), (kx_t 432 (by decide +kernel) rfl), (kx_t 433 (by decide +kernel) rfl), (kx_t 0 (by decide +kernel) rfl), by decide +kernel, by decide, by decide +kernel, rfl, rfl, by decide⟩
theorem wv_W_109 : kx_wV "EventKeeperLaw" 109 4 y_M_event (.code y_M_event c_M_event 3 (some .int)) i_M_event 2 := ⟨kx_kw0, (kx_t 607 (by decide +kernel) rfl), (kx_t 604 (by decide +kernel) rfl), (kx_t 605 (by decide +kernel) rfl), ⟨_, rfl, rfl⟩, (kx_t 606 (by decide +kernel) rfl), by decide +kernel, by decide, by decide +kernel, rfl, rfl, by decide⟩
theorem ws_W_110 : kx_wS "EventKeeperLaw" 110 y_W_value (.codeWith y_W_value c_W_value 4 (some .int) i_W_value.2.2.2.2.1) i_W_value 3 := ⟨kx_kwH, (kx_t 441 (by decide +kernel) rfl), (kx_t 439 (by decide +kernel) rfl), (kx_t 440 (by decide +kernel) rfl), (kx_t 0 (by decide +kernel) rfl), by decide +kernel, by decide, by decide +kernel, rfl, rfl, by decide⟩
theorem wv_W_112 : kx_wV "EventKeeperLaw" 112 4 y_M_value (.code y_M_value c_M_value 2 (some .long)) i_M_value 1 := ⟨kx_kw0, (kx_t 615 (by decide +kernel) rfl), (kx_t 612 (by decide +kernel) rfl), (kx_t 613 (by decide +kernel) rfl), ⟨_, rfl, rfl⟩, (kx_t 614 (by decide +kernel) rfl), by decide +kernel, by decide, by decide +kernel, rfl, rfl, by decide⟩
theorem ws_W_113 : kx_wS "EventKeeperLaw" 113 y_W_find (.codeWith y_W_find c_W_find 5 (some .int) i_W_find.2.2.2.2.1) i_W_find 4 := ⟨kx_kwH, (kx_t 448 (by decide +kernel) rfl), (kx_t 446 (by decide +kernel) rfl), (kx_t 447 (by decide +kernel) rfl), (kx_t 0 (by decide +kernel) rfl), by decide +kernel, by decide, by decide +kernel, rfl, rfl, by decide⟩
theorem wv_W_115 : kx_wV "EventKeeperLaw" 115 4 y_M_find (.code y_M_find c_M_find 4 (some .int)) i_M_find 2 := ⟨kx_kw0, (kx_t 619 (by decide +kernel) rfl), (kx_t 616 (by decide +kernel) rfl), (kx_t 617 (by decide +kernel) rfl), ⟨_, rfl, rfl⟩, (kx_t 618 (by decide +kernel) rfl), by decide +kernel, by decide, by decide +kernel, rfl, rfl, by decide⟩
theorem ws_W_116 : kx_wS "EventKeeperLaw" 116 y_W_count (.codeWith y_W_count c_W_count 5 (some .int) i_W_count.2.2.2.2.1) i_W_count 4 := ⟨kx_kwH, (kx_t 460 (by decide +kernel) rfl), (kx_t 458 (by decide +kernel) rfl), (kx_t 459 (by decide +kernel) rfl), (kx_t 0 (by decide +kernel) rfl), by decide +kernel, by decide, by decide +kernel, rfl, rfl, by decide⟩
theorem wv_W_118 : kx_wV "EventKeeperLaw" 118 4 y_M_count (.code y_M_count c_M_count 5 (some .int)) i_M_count 2 := ⟨kx_kw0, (kx_t 623 (by decide +kernel) rfl), (kx_t 620 (by decide +kernel) rfl), (kx_t 621 (by decide +kernel) rfl), ⟨_, rfl, rfl⟩, (kx_t 622 (by decide +kernel) rfl), by decide +kernel, by decide, by decide +kernel, rfl, rfl, by decide⟩
end
section
def nt (x : Int32) : Nat := x.toNatClampNeg
theorem nt_nI {k : Nat} (h : k < 2 ^ 31) : nt (nI k) = k := nI_clamp h
def l4 (v : Int64) : Nat := v.toBitVec.toNat % 16
theorem l4_lt (v : Int64) : l4 v < 16 := Nat.mod_lt _ (by decide)
def f_put (a : kW) (sz s : Nat) (kd : Int32) (v : Int64) : kW :=
  uo (ui (ui (ui (ul (ui (ui (ui a 2 sz (nI s)) 3 sz (a.1 9 s)) 4 sz kd) 5 sz v) 6 sz (-1)) 7 sz (-1)) 9 s (a.1 9 s + 1)) 1 9 (nI (sz + 1))
def f_emit (a : kW) (sz p c s : Nat) (v : Int64) : kW :=
  ui (ui (ui (ui (f_put a sz s 7 v) 6 sz (nI p)) 7 sz (nI c)) 8 c (a.1 8 c ||| kb p)) 10 p (a.1 10 p + 1)
def f_zero (f : Nat → Int64) : Nat → Nat → Int64
  | 0 => f
  | k + 1 => vp_updL (f_zero f k) k 0
def f_over (a : kW) (p : Nat) : kW := uo (uo (uL a (12 + 5 * p + 3) (f_zero (a.2.1 (12 + 5 * p + 3)) 16)) (12 + 5 * p) 4 0) (12 + 5 * p) 7 (-1)
def f_rule (a : kW) (p t : Nat) (x y : Int32) : kW := f_over (ui (ui a (12 + 5 * p + 1) t x) (12 + 5 * p + 2) t y) p
def f_fold (x : Int32) (h v : Int64) : Int64 := if x = 1 then h + v else if x = 2 then v else if x = 3 then h + 1 else if x = 4 then (if v < h then h else v) else if x = 5 then (if v < h then v else h) else h
def f_cell (a : kW) (p q : Nat) : Nat := if a.1 (12 + 5 * p + 2) (nt (a.1 4 q)) = 0 then nt (a.1 2 q) else if a.1 (12 + 5 * p + 2) (nt (a.1 4 q)) = 1 then l4 (a.2.1 5 q) else 0
def f_count (a : kW) (p q k sz : Nat) : Bool × kW :=
  if (a.2.1 (12 + 5 * p + 3) k + 1) &&& 1 = 0 ∧ a.1 8 q &&& kb p = 0 then
    if 500 ≤ sz then (false, a) else (true, ul (f_emit a sz p q (l4 (a.2.1 5 q)) (a.2.1 (12 + 5 * p + 3) k + 1)) (12 + 5 * p + 3) k (a.2.1 (12 + 5 * p + 3) k + 1))
  else (true, ul a (12 + 5 * p + 3) k (a.2.1 (12 + 5 * p + 3) k + 1))
theorem f_count_o (a : kW) (p q k sz z y : Nat) : (f_count a p q k sz).2.2.2 (12 + 5 * z) y = a.2.2 (12 + 5 * z) y := by
  unfold f_count
  split
  · split
    · rfl
    · show (if 12 + 5 * z = 1 ∧ y = 9 then _ else a.2.2 (12 + 5 * z) y) = _
      rw [if_neg (by omega)]
  · rfl
theorem f_cell_lt {a : kW} {p q s : Nat} (hs : s < 16) (es : a.1 2 q = nI s) : f_cell a p q < 16 := by
  unfold f_cell
  split
  · rw [es, nt_nI (by omega)]; exact hs
  · split
    · exact l4_lt _
    · omega
def f_takeAt (a : kW) (p sz q : Nat) : Bool × kW :=
  if sz ≤ q then (false, a)
  else if a.1 (12 + 5 * p + 1) (nt (a.1 4 q)) = 6 then
    (if (f_count a p q (f_cell a p q) sz).1 then (true, uo (f_count a p q (f_cell a p q) sz).2 (12 + 5 * p) 4 (nI (q + 1))) else (false, (f_count a p q (f_cell a p q) sz).2))
  else (true, uo (ul a (12 + 5 * p + 3) (f_cell a p q) (f_fold (a.1 (12 + 5 * p + 1) (nt (a.1 4 q))) (a.2.1 (12 + 5 * p + 3) (f_cell a p q)) (a.2.1 5 q))) (12 + 5 * p) 4 (nI (q + 1)))
def f_take (a : kW) (p : Nat) : Bool × kW := f_takeAt a p (nt (a.2.2 1 9)) (nt (a.2.2 (12 + 5 * p) 4))
def f_adv (p : Nat) : Nat → Nat → kW → Nat × kW
  | 0, t, a => (t, a)
  | n + 1, t, a => if (f_take a p).1 then f_adv p n (t + 1) (f_take a p).2 else (t, a)
theorem i32_nat (x : Int64) : x.toInt32.toBitVec.toNat = x.toBitVec.toNat % 2 ^ 32 := by
  rw [Int64.toBitVec_toInt32, BitVec.signExtend_eq_setWidth_of_le _ (by decide), BitVec.toNat_setWidth]
theorem l4_a (v : Int64) : (v &&& 15).toInt32 = nI (l4 v) := by
  rw [← Int32.toBitVec_inj]
  apply BitVec.eq_of_toNat_eq
  have h1 : (nI (l4 v)).toBitVec.toNat = l4 v := pk_tn (by have := l4_lt v; omega)
  rw [h1]
  have h2 : (v &&& 15).toInt32.toBitVec.toNat = ((v &&& 15).toBitVec.toNat) % 2 ^ 32 := i32_nat _
  rw [h2, Int64.toBitVec_and, BitVec.toNat_and]
  have h3 : (15 : Int64).toBitVec.toNat = 2 ^ 4 - 1 := rfl
  rw [h3, Nat.and_two_pow_sub_one_eq_mod]
  show v.toBitVec.toNat % 16 % 4294967296 = v.toBitVec.toNat % 16
  omega
theorem l4_b (v : Int64) : v.toInt32 &&& 15 = nI (l4 v) := by
  rw [← Int32.toBitVec_inj]
  apply BitVec.eq_of_toNat_eq
  have h1 : (nI (l4 v)).toBitVec.toNat = l4 v := pk_tn (by have := l4_lt v; omega)
  rw [h1, Int32.toBitVec_and, BitVec.toNat_and]
  have h3 : (15 : Int32).toBitVec.toNat = 2 ^ 4 - 1 := rfl
  rw [h3, Nat.and_two_pow_sub_one_eq_mod]
  have h2 : v.toInt32.toBitVec.toNat = v.toBitVec.toNat % 2 ^ 32 := i32_nat v
  rw [h2]
  show v.toBitVec.toNat % 4294967296 % 16 = v.toBitVec.toNat % 16
  omega
def f_forget (a : kW) (q : Nat) : kW := ui (ui a 8 (nt (a.1 7 q)) (a.1 8 (nt (a.1 7 q)) &&& (kb (nt (a.1 6 q)) ^^^ (-1)))) 10 (nt (a.1 6 q)) (a.1 10 (nt (a.1 6 q)) - 1)
def f_drop1 (a : kW) (q : Nat) : kW := if a.1 6 q = -1 then ui a 9 (nt (a.1 2 q)) (a.1 9 (nt (a.1 2 q)) - 1) else f_forget (ui a 9 (nt (a.1 2 q)) (a.1 9 (nt (a.1 2 q)) - 1)) q
def f_drop : Nat → Nat → kW → kW
  | 0, _, a => a
  | m + 1, q, a => f_drop m (q + 1) (f_drop1 a q)
theorem f_drop1_2 (a : kW) (q : Nat) : (f_drop1 a q).1 2 = a.1 2 ∧ (f_drop1 a q).1 6 = a.1 6 ∧ (f_drop1 a q).1 7 = a.1 7 ∧ (f_drop1 a q).2.2 = a.2.2 := by
  unfold f_drop1 f_forget
  split <;> exact ⟨rfl, rfl, rfl, rfl⟩
def f_find (a : kW) (x y : Int32) : Nat → Nat → Int32
  | 0, _ => -1
  | m + 1, q => if a.1 2 q = x ∧ a.1 3 q = y then nI q else f_find a x y m (q + 1)
def f_keep (a : kW) (p : Nat) (x : Int32) : kW := uo (uo (uL a (12 + 5 * p + 4) (va_cpy (a.2.1 (12 + 5 * p + 3)) (a.2.1 (12 + 5 * p + 4)) 0 0 16)) (12 + 5 * p) 6 (a.2.2 (12 + 5 * p) 4)) (12 + 5 * p) 7 x
def f_recover (a : kW) (p : Nat) (x : Int32) : kW := if a.2.2 (12 + 5 * p) 7 = -1 ∨ x < a.2.2 (12 + 5 * p) 7 then f_over a p else uo (uL a (12 + 5 * p + 3) (va_cpy (a.2.1 (12 + 5 * p + 4)) (a.2.1 (12 + 5 * p + 3)) 0 0 16)) (12 + 5 * p) 4 (a.2.2 (12 + 5 * p) 6)
def f_filter (a : kW) (u : Nat) (x y : Int32) : kW := uo (uo (uo (uo a (53 + u) 0 x) (53 + u) 1 y) (53 + u) 2 0) (53 + u) 3 0
def f_lets (a : kW) (u : Nat) (x y : Int32) : Prop := (a.2.2 (53 + u) 0 = -1 ∨ a.2.2 (53 + u) 0 = x) ∧ ¬ (a.2.2 (53 + u) 1 &&& ((1 : Int32) <<< (y &&& 31)) = 0)
noncomputable def f_wait (a : kW) (u : Nat) : Nat → Nat → Int32
  | 0, _ => -1
  | m + 1, q => haveI := Classical.propDecidable (f_lets a u (a.1 2 q) (a.1 4 q)); if f_lets a u (a.1 2 q) (a.1 4 q) then nI q else f_wait a u m (q + 1)
def f_pass (a : kW) (u : Nat) (x : Int32) : kW := uo a (53 + u) 2 (if a.2.2 (53 + u) 2 < x + 1 then x + 1 else a.2.2 (53 + u) 2)
def f_safe (a : kW) (u : Nat) : kW := uo a (53 + u) 3 (a.2.2 (53 + u) 2)
def f_srec (a : kW) (u : Nat) (x : Int32) : kW := uo a (53 + u) 2 (if x < a.2.2 (53 + u) 3 then x else a.2.2 (53 + u) 3)
section KCP
variable {E : kx_E} {I : kx_I} {d mc ms : Nat} {Q : kx_Q} {k j pc : Nat} {lv : List (Nat × Value)} {st : List Value} {n : Nat} {a b : kW}
theorem ka_copy {index N i r : Nat} (hdg : decode I.2.1 pc = .ok (.invokestatic index, 3)) (h1 : Cond.methodLink I.1 index arraycopyName ∈ kx_tb) (h2 : Cond.native arraycopyName ∈ kx_tb) (h3 : Cond.static arraycopyName ∈ kx_tb) (h4 : Cond.initialized "java/lang/System" ∈ kx_tb) (hi : i < 61) (hr : r < 61) (hki : wk i = (2, N)) (hkr : wk r = (2, N)) (hN : N ≤ 100000) (hd : 3 ≤ d) (hs : (st.map fun v => v.category).sum ≤ 8)
    (kk : kx_V E I d mc ms Q k j (pc + 3) lv st n (wd (wx (uL a r (va_cpy (a.2.1 i) (a.2.1 r) 0 0 N)) b))) : kx_V E I d mc ms Q k j pc lv (.int (nI N) :: .int 0 :: .ref r :: .int 0 :: .ref i :: st) n (wd (wx a b)) := by
  refine kx_copy hdg h1 h2 h3 h4 (wd_l hki) (wd_l hkr) hN hd hs (kx_eqh ?_ kk)
  rw [wx_al hi, wx_al hr]
  exact (wd_sL hkr).trans (congrArg wd (uL_xa hr))
end KCP
end
section
set_option maxHeartbeats 4000000 in
set_option maxRecDepth 100000 in
theorem k_checkArgument {E : kx_E} {n : Nat} {h : kx_H} (x : Int32) : kx_V E i_EK_checkArgument 6 1 6 (fun r _ h' => h' = h ∧ r = if x = 0 then Sum.inr "java/lang/IllegalArgumentException" else Sum.inl none) 1 6 0 (lv_args 0 [.int x]) [] n h := by
  refine kx_iload_n (pc := 0) d_EK_checkArgument_0 rfl ?_
  refine kx_if_ne (pc := 1) (tgt := 14) d_EK_checkArgument_1 (by decide) (fun hc => ?_) (fun hc => ?_)
  · exact kx_vret rfl d_EK_checkArgument_14 ⟨rfl, by rw [if_neg hc]⟩
  · exact kx_throw (pc := 4) (k := 0) (j := 0) (tx := "an argument is out of its range") d_EK_checkArgument_4 d_EK_checkArgument_7 d_EK_checkArgument_8 d_EK_checkArgument_10 d_EK_checkArgument_13 tx_EK_152_156 (by decide +kernel) (fun _ hx => nomatch hx) (by decide) (Nat.le_of_ble_eq_true rfl) ⟨rfl, by rw [if_pos hc]⟩
set_option maxHeartbeats 4000000 in
set_option maxRecDepth 100000 in
theorem k_checkStream {E : kx_E} {n : Nat} {h : kx_H} (x : Int32) : kx_V E i_EK_checkStream 7 1 6 (fun r _ h' => h' = h ∧ r = if 0 ≤ x ∧ x < 16 then Sum.inl none else Sum.inr "java/lang/IllegalArgumentException") 1 6 0 (lv_args 0 [.int x]) [] n h := by
  have bad : ¬ (0 ≤ x ∧ x < 16) → kx_V E i_EK_checkStream 7 1 6 (fun r _ h' => h' = h ∧ r = if 0 ≤ x ∧ x < 16 then Sum.inl none else Sum.inr "java/lang/IllegalArgumentException") 1 6 14 [(0, .int x)] [] n h := by
    intro hb
    refine kx_iconst (pc := 14) (x := 0) d_EK_checkStream_14 (by decide) ?_
    refine kx_invS (pc := 15) (as := [.int 0]) (st := []) (k := 0) (j := 0) d_EK_checkStream_15 ws_EK_35 (k_checkArgument 0) rfl rfl (Nat.le_of_ble_eq_true rfl) (by decide) (Nat.le_of_ble_eq_true rfl) (fun v n' h' hq => ?_) (fun X n' h' hq => ?_)
    · exact absurd hq.2 (by rw [if_pos rfl]; exact fun q => nomatch q)
    · obtain ⟨rfl, hq⟩ := hq
      rw [if_pos rfl] at hq
      exact kx_X.out (fun _ hx => nomatch hx) ⟨rfl, by rw [if_neg hb]; exact hq⟩
  refine kx_iload_n (pc := 0) d_EK_checkStream_0 rfl ?_
  refine kx_if_lt (pc := 1) (tgt := 14) d_EK_checkStream_1 (by decide) (fun hc => bad (fun q => Int32.not_lt.mpr q.1 hc)) (fun hc => ?_)
  refine kx_iload_n (pc := 4) d_EK_checkStream_4 rfl ?_
  refine kx_bipush (pc := 5) (x := 16) d_EK_checkStream_5 (by decide) ?_
  refine kx_icmp_ge (pc := 7) (tgt := 14) d_EK_checkStream_7 (by decide) (fun hc => bad (fun q => Int32.not_lt.mpr hc q.2)) (fun hc2 => ?_)
  have ok : 0 ≤ x ∧ x < 16 := ⟨Int32.not_lt.mp hc, Int32.not_le.mp hc2⟩
  refine kx_iconst (pc := 10) (x := 1) d_EK_checkStream_10 (by decide) ?_
  refine kx_goto (pc := 11) (tgt := 15) d_EK_checkStream_11 (by decide) ?_
  refine kx_invS (pc := 15) (as := [.int 1]) (st := []) (k := 0) (j := 0) d_EK_checkStream_15 ws_EK_35 (k_checkArgument 1) rfl rfl (Nat.le_of_ble_eq_true rfl) (by decide) (Nat.le_of_ble_eq_true rfl) (fun v n' h' hq => ?_) (fun X n' h' hq => ?_)
  · obtain ⟨rfl, hq⟩ := hq
    rw [if_neg (by decide)] at hq
    cases hq
    exact kx_vret (pc := 18) rfl d_EK_checkStream_18 ⟨rfl, by rw [if_pos ok]⟩
  · exact absurd hq.2 (by rw [if_neg (by decide)]; exact fun q => nomatch q)
set_option maxHeartbeats 4000000 in
set_option maxRecDepth 100000 in
theorem k_checkKind {E : kx_E} {n : Nat} {h : kx_H} (x : Int32) : kx_V E i_EK_checkKind 7 1 6 (fun r _ h' => h' = h ∧ r = if 0 ≤ x ∧ x < 8 then Sum.inl none else Sum.inr "java/lang/IllegalArgumentException") 1 6 0 (lv_args 0 [.int x]) [] n h := by
  have bad : ¬ (0 ≤ x ∧ x < 8) → kx_V E i_EK_checkKind 7 1 6 (fun r _ h' => h' = h ∧ r = if 0 ≤ x ∧ x < 8 then Sum.inl none else Sum.inr "java/lang/IllegalArgumentException") 1 6 14 [(0, .int x)] [] n h := by
    intro hb
    refine kx_iconst (pc := 14) (x := 0) d_EK_checkKind_14 (by decide) ?_
    refine kx_invS (pc := 15) (as := [.int 0]) (st := []) (k := 0) (j := 0) d_EK_checkKind_15 ws_EK_35 (k_checkArgument 0) rfl rfl (Nat.le_of_ble_eq_true rfl) (by decide) (Nat.le_of_ble_eq_true rfl) (fun v n' h' hq => ?_) (fun X n' h' hq => ?_)
    · exact absurd hq.2 (by rw [if_pos rfl]; exact fun q => nomatch q)
    · obtain ⟨rfl, hq⟩ := hq
      rw [if_pos rfl] at hq
      exact kx_X.out (fun _ hx => nomatch hx) ⟨rfl, by rw [if_neg hb]; exact hq⟩
  refine kx_iload_n (pc := 0) d_EK_checkKind_0 rfl ?_
  refine kx_if_lt (pc := 1) (tgt := 14) d_EK_checkKind_1 (by decide) (fun hc => bad (fun q => Int32.not_lt.mpr q.1 hc)) (fun hc => ?_)
  refine kx_iload_n (pc := 4) d_EK_checkKind_4 rfl ?_
  refine kx_bipush (pc := 5) (x := 8) d_EK_checkKind_5 (by decide) ?_
  refine kx_icmp_ge (pc := 7) (tgt := 14) d_EK_checkKind_7 (by decide) (fun hc => bad (fun q => Int32.not_lt.mpr hc q.2)) (fun hc2 => ?_)
  have ok : 0 ≤ x ∧ x < 8 := ⟨Int32.not_lt.mp hc, Int32.not_le.mp hc2⟩
  refine kx_iconst (pc := 10) (x := 1) d_EK_checkKind_10 (by decide) ?_
  refine kx_goto (pc := 11) (tgt := 15) d_EK_checkKind_11 (by decide) ?_
  refine kx_invS (pc := 15) (as := [.int 1]) (st := []) (k := 0) (j := 0) d_EK_checkKind_15 ws_EK_35 (k_checkArgument 1) rfl rfl (Nat.le_of_ble_eq_true rfl) (by decide) (Nat.le_of_ble_eq_true rfl) (fun v n' h' hq => ?_) (fun X n' h' hq => ?_)
  · obtain ⟨rfl, hq⟩ := hq
    rw [if_neg (by decide)] at hq
    cases hq
    exact kx_vret (pc := 18) rfl d_EK_checkKind_18 ⟨rfl, by rw [if_pos ok]⟩
  · exact absurd hq.2 (by rw [if_neg (by decide)]; exact fun q => nomatch q)
set_option maxHeartbeats 4000000 in
set_option maxRecDepth 100000 in
theorem k_checkProjection {E : kx_E} {n : Nat} {h : kx_H} (x : Int32) : kx_V E i_EK_checkProjection 7 1 6 (fun r _ h' => h' = h ∧ r = if 0 ≤ x ∧ x < 8 then Sum.inl none else Sum.inr "java/lang/IllegalArgumentException") 1 6 0 (lv_args 0 [.int x]) [] n h := by
  have bad : ¬ (0 ≤ x ∧ x < 8) → kx_V E i_EK_checkProjection 7 1 6 (fun r _ h' => h' = h ∧ r = if 0 ≤ x ∧ x < 8 then Sum.inl none else Sum.inr "java/lang/IllegalArgumentException") 1 6 14 [(0, .int x)] [] n h := by
    intro hb
    refine kx_iconst (pc := 14) (x := 0) d_EK_checkProjection_14 (by decide) ?_
    refine kx_invS (pc := 15) (as := [.int 0]) (st := []) (k := 0) (j := 0) d_EK_checkProjection_15 ws_EK_35 (k_checkArgument 0) rfl rfl (Nat.le_of_ble_eq_true rfl) (by decide) (Nat.le_of_ble_eq_true rfl) (fun v n' h' hq => ?_) (fun X n' h' hq => ?_)
    · exact absurd hq.2 (by rw [if_pos rfl]; exact fun q => nomatch q)
    · obtain ⟨rfl, hq⟩ := hq
      rw [if_pos rfl] at hq
      exact kx_X.out (fun _ hx => nomatch hx) ⟨rfl, by rw [if_neg hb]; exact hq⟩
  refine kx_iload_n (pc := 0) d_EK_checkProjection_0 rfl ?_
  refine kx_if_lt (pc := 1) (tgt := 14) d_EK_checkProjection_1 (by decide) (fun hc => bad (fun q => Int32.not_lt.mpr q.1 hc)) (fun hc => ?_)
  refine kx_iload_n (pc := 4) d_EK_checkProjection_4 rfl ?_
  refine kx_bipush (pc := 5) (x := 8) d_EK_checkProjection_5 (by decide) ?_
  refine kx_icmp_ge (pc := 7) (tgt := 14) d_EK_checkProjection_7 (by decide) (fun hc => bad (fun q => Int32.not_lt.mpr hc q.2)) (fun hc2 => ?_)
  have ok : 0 ≤ x ∧ x < 8 := ⟨Int32.not_lt.mp hc, Int32.not_le.mp hc2⟩
  refine kx_iconst (pc := 10) (x := 1) d_EK_checkProjection_10 (by decide) ?_
  refine kx_goto (pc := 11) (tgt := 15) d_EK_checkProjection_11 (by decide) ?_
  refine kx_invS (pc := 15) (as := [.int 1]) (st := []) (k := 0) (j := 0) d_EK_checkProjection_15 ws_EK_35 (k_checkArgument 1) rfl rfl (Nat.le_of_ble_eq_true rfl) (by decide) (Nat.le_of_ble_eq_true rfl) (fun v n' h' hq => ?_) (fun X n' h' hq => ?_)
  · obtain ⟨rfl, hq⟩ := hq
    rw [if_neg (by decide)] at hq
    cases hq
    exact kx_vret (pc := 18) rfl d_EK_checkProjection_18 ⟨rfl, by rw [if_pos ok]⟩
  · exact absurd hq.2 (by rw [if_neg (by decide)]; exact fun q => nomatch q)
set_option maxHeartbeats 4000000 in
set_option maxRecDepth 100000 in
theorem k_checkSubscription {E : kx_E} {n : Nat} {h : kx_H} (x : Int32) : kx_V E i_EK_checkSubscription 7 1 6 (fun r _ h' => h' = h ∧ r = if 0 ≤ x ∧ x < 8 then Sum.inl none else Sum.inr "java/lang/IllegalArgumentException") 1 6 0 (lv_args 0 [.int x]) [] n h := by
  have bad : ¬ (0 ≤ x ∧ x < 8) → kx_V E i_EK_checkSubscription 7 1 6 (fun r _ h' => h' = h ∧ r = if 0 ≤ x ∧ x < 8 then Sum.inl none else Sum.inr "java/lang/IllegalArgumentException") 1 6 14 [(0, .int x)] [] n h := by
    intro hb
    refine kx_iconst (pc := 14) (x := 0) d_EK_checkSubscription_14 (by decide) ?_
    refine kx_invS (pc := 15) (as := [.int 0]) (st := []) (k := 0) (j := 0) d_EK_checkSubscription_15 ws_EK_35 (k_checkArgument 0) rfl rfl (Nat.le_of_ble_eq_true rfl) (by decide) (Nat.le_of_ble_eq_true rfl) (fun v n' h' hq => ?_) (fun X n' h' hq => ?_)
    · exact absurd hq.2 (by rw [if_pos rfl]; exact fun q => nomatch q)
    · obtain ⟨rfl, hq⟩ := hq
      rw [if_pos rfl] at hq
      exact kx_X.out (fun _ hx => nomatch hx) ⟨rfl, by rw [if_neg hb]; exact hq⟩
  refine kx_iload_n (pc := 0) d_EK_checkSubscription_0 rfl ?_
  refine kx_if_lt (pc := 1) (tgt := 14) d_EK_checkSubscription_1 (by decide) (fun hc => bad (fun q => Int32.not_lt.mpr q.1 hc)) (fun hc => ?_)
  refine kx_iload_n (pc := 4) d_EK_checkSubscription_4 rfl ?_
  refine kx_bipush (pc := 5) (x := 8) d_EK_checkSubscription_5 (by decide) ?_
  refine kx_icmp_ge (pc := 7) (tgt := 14) d_EK_checkSubscription_7 (by decide) (fun hc => bad (fun q => Int32.not_lt.mpr hc q.2)) (fun hc2 => ?_)
  have ok : 0 ≤ x ∧ x < 8 := ⟨Int32.not_lt.mp hc, Int32.not_le.mp hc2⟩
  refine kx_iconst (pc := 10) (x := 1) d_EK_checkSubscription_10 (by decide) ?_
  refine kx_goto (pc := 11) (tgt := 15) d_EK_checkSubscription_11 (by decide) ?_
  refine kx_invS (pc := 15) (as := [.int 1]) (st := []) (k := 0) (j := 0) d_EK_checkSubscription_15 ws_EK_35 (k_checkArgument 1) rfl rfl (Nat.le_of_ble_eq_true rfl) (by decide) (Nat.le_of_ble_eq_true rfl) (fun v n' h' hq => ?_) (fun X n' h' hq => ?_)
  · obtain ⟨rfl, hq⟩ := hq
    rw [if_neg (by decide)] at hq
    cases hq
    exact kx_vret (pc := 18) rfl d_EK_checkSubscription_18 ⟨rfl, by rw [if_pos ok]⟩
  · exact absurd hq.2 (by rw [if_neg (by decide)]; exact fun q => nomatch q)
set_option maxHeartbeats 4000000 in
set_option maxRecDepth 100000 in
theorem k_isFull {E : kx_E} {n : Nat} {a b : kW} {sz : Nat} (h1 : a.2.2 1 9 = nI sz) (h2 : sz ≤ 500) : kx_V E i_L_isFull 1 0 0 (fun r _ h' => h' = wd (wx a b) ∧ r = Sum.inl (some (.int (if 500 ≤ sz then 1 else 0)))) 0 0 0 (lv_args 0 [.ref 1]) [] n (wd (wx a b)) := by
  refine kx_aload_n (pc := 0) d_L_isFull_0 rfl ?_
  refine ka_geti (pc := 1) d_L_isFull_1 fl_L_40 (by decide) rfl (by decide) rfl ?_
  refine kx_eqi h1 ?_
  refine kx_sipush (pc := 4) (x := 500) d_L_isFull_4 (by decide) ?_
  refine kx_eqi (show (500 : Int32) = nI 500 from rfl) ?_
  refine kx_icmp_lt (pc := 7) (tgt := 14) d_L_isFull_7 (by decide) (fun hc => ?_) (fun hc => ?_)
  · have hz : ¬ 500 ≤ sz := fun q => Int32.not_lt.mpr (nI_le q (by omega)) hc
    refine kx_iconst (pc := 14) (x := 0) d_L_isFull_14 (by decide) ?_
    exact kx_zret rfl rfl d_L_isFull_15 ⟨rfl, by rw [if_neg hz]⟩
  · have hz : 500 ≤ sz := Nat.not_lt.mp (fun q => hc (nI_lt q (by omega)))
    refine kx_iconst (pc := 10) (x := 1) d_L_isFull_10 (by decide) ?_
    refine kx_goto (pc := 11) (tgt := 15) d_L_isFull_11 (by decide) ?_
    exact kx_zret rfl rfl d_L_isFull_15 ⟨rfl, by rw [if_pos hz]⟩
set_option maxHeartbeats 4000000 in
set_option maxRecDepth 100000 in
theorem k_put {E : kx_E} {n : Nat} {a b : kW} {sz s : Nat} {kd : Int32} {v : Int64} (h1 : a.2.2 1 9 = nI sz) (h2 : sz < 500) (hs : s < 16) : kx_V E i_L_put 1 0 0 (fun r _ h' => h' = wd (wx (f_put a sz s kd v) b) ∧ r = Sum.inl (some (.int (nI sz)))) 0 0 0 (lv_args 0 [.ref 1, .int (nI s), .int kd, .long v]) [] n (wd (wx a b)) := by
  refine kx_aload_n (pc := 0) d_L_put_0 rfl ?_
  refine ka_geti (pc := 1) d_L_put_1 fl_L_40 (by decide) rfl (by decide) rfl ?_
  refine kx_eqi h1 ?_
  refine kx_istore (pc := 4) (lv' := [(5, _), (0, _), (1, _), (2, _), (3, _)]) d_L_put_4 (by decide) rfl ?_
  refine kx_aload_n (pc := 6) d_L_put_6 rfl ?_
  refine kw_getr (pc := 7) (r := 2) d_L_put_7 fl_L_9 rfl (by decide) rfl ?_
  refine kx_iload (pc := 10) d_L_put_10 rfl ?_
  refine kx_iload_n (pc := 12) d_L_put_12 rfl ?_
  refine ka_iast (pc := 13) d_L_put_13 (by decide) rfl ⟨rfl, h2, by decide⟩ ?_
  refine kx_aload_n (pc := 14) d_L_put_14 rfl ?_
  refine kw_getr (pc := 15) (r := 3) d_L_put_15 fl_L_15 rfl (by decide) rfl ?_
  refine kx_iload (pc := 18) d_L_put_18 rfl ?_
  refine kx_aload_n (pc := 20) d_L_put_20 rfl ?_
  refine kw_getr (pc := 21) (r := 9) d_L_put_21 fl_L_34 rfl (by decide) rfl ?_
  refine kx_iload_n (pc := 24) d_L_put_24 rfl ?_
  refine ka_iald (pc := 25) d_L_put_25 (by decide) rfl ⟨rfl, hs, by decide⟩ ?_
  refine ka_iast (pc := 26) d_L_put_26 (by decide) rfl ⟨rfl, h2, by decide⟩ ?_
  refine kx_aload_n (pc := 27) d_L_put_27 rfl ?_
  refine kw_getr (pc := 28) (r := 4) d_L_put_28 fl_L_18 rfl (by decide) rfl ?_
  refine kx_iload (pc := 31) d_L_put_31 rfl ?_
  refine kx_iload_n (pc := 33) d_L_put_33 rfl ?_
  refine ka_iast (pc := 34) d_L_put_34 (by decide) rfl ⟨rfl, h2, by decide⟩ ?_
  refine kx_aload_n (pc := 35) d_L_put_35 rfl ?_
  refine kw_getr (pc := 36) (r := 5) d_L_put_36 fl_L_21 rfl (by decide) rfl ?_
  refine kx_iload (pc := 39) d_L_put_39 rfl ?_
  refine kx_lload_n (pc := 41) d_L_put_41 rfl ?_
  refine ka_last (pc := 42) d_L_put_42 (by decide) rfl ⟨rfl, h2, by decide⟩ ?_
  refine kx_aload_n (pc := 43) d_L_put_43 rfl ?_
  refine kw_getr (pc := 44) (r := 6) d_L_put_44 fl_L_25 rfl (by decide) rfl ?_
  refine kx_iload (pc := 47) d_L_put_47 rfl ?_
  refine kx_iconst (pc := 49) (x := -1) d_L_put_49 (by decide) ?_
  refine ka_iast (pc := 50) d_L_put_50 (by decide) rfl ⟨rfl, h2, by decide⟩ ?_
  refine kx_aload_n (pc := 51) d_L_put_51 rfl ?_
  refine kw_getr (pc := 52) (r := 7) d_L_put_52 fl_L_28 rfl (by decide) rfl ?_
  refine kx_iload (pc := 55) d_L_put_55 rfl ?_
  refine kx_iconst (pc := 57) (x := -1) d_L_put_57 (by decide) ?_
  refine ka_iast (pc := 58) d_L_put_58 (by decide) rfl ⟨rfl, h2, by decide⟩ ?_
  refine kx_aload_n (pc := 59) d_L_put_59 rfl ?_
  refine kw_getr (pc := 60) (r := 9) d_L_put_60 fl_L_34 rfl (by decide) rfl ?_
  refine kx_iload_n (pc := 63) d_L_put_63 rfl ?_
  refine kx_dup2 (pc := 64) d_L_put_64 rfl rfl ?_
  refine ka_iald (pc := 65) d_L_put_65 (by decide) rfl ⟨rfl, hs, by decide⟩ ?_
  refine kx_iconst (pc := 66) (x := 1) d_L_put_66 (by decide) ?_
  refine kx_iadd (pc := 67) d_L_put_67 ?_
  refine ka_iast (pc := 68) d_L_put_68 (by decide) rfl ⟨rfl, hs, by decide⟩ ?_
  refine kx_aload_n (pc := 69) d_L_put_69 rfl ?_
  refine kx_dup (pc := 70) d_L_put_70 rfl ?_
  refine ka_geti (pc := 71) d_L_put_71 fl_L_40 (by decide) rfl (by decide) rfl ?_
  refine kx_iconst (pc := 74) (x := 1) d_L_put_74 (by decide) ?_
  refine kx_iadd (pc := 75) d_L_put_75 ?_
  refine kx_eqi (show _ = nI (sz + 1) from (congrArg (· + 1) h1).trans (nI_1 sz)) ?_
  refine ka_puti (pc := 76) d_L_put_76 fl_L_40 fw_L_9 (by decide) rfl (by decide) rfl ?_
  refine kx_iload (pc := 79) d_L_put_79 rfl ?_
  exact kx_iret rfl d_L_put_81 ⟨rfl, rfl⟩
end
section
set_option maxHeartbeats 4000000 in
set_option maxRecDepth 100000 in
theorem k_putEmitted {E : kx_E} {n : Nat} {a b : kW} {sz p c : Nat} {v : Int64} (h1 : a.2.2 1 9 = nI sz) (h2 : sz < 500) (hp : p < 8) (hc : c < 500) : kx_V E i_L_putEmitted 2 0 0 (fun r _ h' => h' = wd (wx (f_emit a sz p c (l4 (a.2.1 5 c)) v) b) ∧ r = Sum.inl none) 0 0 0 (lv_args 0 [.ref 1, .int (nI p), .int (nI c), .long v]) [] n (wd (wx a b)) := by
  refine kx_aload_n (pc := 0) d_L_putEmitted_0 rfl ?_
  refine kx_aload_n (pc := 1) d_L_putEmitted_1 rfl ?_
  refine kw_getr (pc := 2) (r := 5) d_L_putEmitted_2 fl_L_21 rfl (by decide) rfl ?_
  refine kx_iload_n (pc := 5) d_L_putEmitted_5 rfl ?_
  refine ka_lald (pc := 6) d_L_putEmitted_6 (by decide) rfl ⟨rfl, by omega, by decide⟩ ?_
  refine kx_ldc2 (pc := 7) (x := 15) d_L_putEmitted_7 (kx_t 354 (by decide +kernel) rfl) ?_
  refine kx_land (pc := 10) d_L_putEmitted_10 ?_
  refine kx_l2i (pc := 11) d_L_putEmitted_11 ?_
  refine kx_eqi (l4_a _) ?_
  refine kx_bipush (pc := 12) (x := 7) d_L_putEmitted_12 (by decide) ?_
  refine kx_lload_n (pc := 14) d_L_putEmitted_14 rfl ?_
  refine kx_invV (pc := 15) (as := [.int _, .int _, .long _]) (st := []) (k := 0) (j := 0) d_L_putEmitted_15 wv_L_46 (wd_o rfl) (k_put h1 h2 (l4_lt _)) rfl rfl (Nat.le_of_ble_eq_true rfl) (by decide) (Nat.le_of_ble_eq_true rfl) (fun rv n' h' hq => ?_) (fun X n' h' hq => nomatch hq.2)
  obtain ⟨rfl, hq⟩ := hq
  cases hq
  refine kx_istore (pc := 18) (lv' := [(5, _), (0, _), (1, _), (2, _), (3, _)]) d_L_putEmitted_18 (by decide) rfl ?_
  refine kx_aload_n (pc := 20) d_L_putEmitted_20 rfl ?_
  refine kw_getr (pc := 21) (r := 6) d_L_putEmitted_21 fl_L_25 rfl (by decide) rfl ?_
  refine kx_iload (pc := 24) d_L_putEmitted_24 rfl ?_
  refine kx_iload_n (pc := 26) d_L_putEmitted_26 rfl ?_
  refine ka_iast (pc := 27) d_L_putEmitted_27 (by decide) rfl ⟨rfl, h2, by decide⟩ ?_
  refine kx_aload_n (pc := 28) d_L_putEmitted_28 rfl ?_
  refine kw_getr (pc := 29) (r := 7) d_L_putEmitted_29 fl_L_28 rfl (by decide) rfl ?_
  refine kx_iload (pc := 32) d_L_putEmitted_32 rfl ?_
  refine kx_iload_n (pc := 34) d_L_putEmitted_34 rfl ?_
  refine ka_iast (pc := 35) d_L_putEmitted_35 (by decide) rfl ⟨rfl, h2, by decide⟩ ?_
  refine kx_aload_n (pc := 36) d_L_putEmitted_36 rfl ?_
  refine kw_getr (pc := 37) (r := 8) d_L_putEmitted_37 fl_L_31 rfl (by decide) rfl ?_
  refine kx_iload_n (pc := 40) d_L_putEmitted_40 rfl ?_
  refine kx_dup2 (pc := 41) d_L_putEmitted_41 rfl rfl ?_
  refine ka_iald (pc := 42) d_L_putEmitted_42 (by decide) rfl ⟨rfl, by omega, by decide⟩ ?_
  refine kx_iconst (pc := 43) (x := 1) d_L_putEmitted_43 (by decide) ?_
  refine kx_iload_n (pc := 44) d_L_putEmitted_44 rfl ?_
  refine kx_ishl (pc := 45) d_L_putEmitted_45 ?_
  refine kx_ior (pc := 46) d_L_putEmitted_46 ?_
  refine ka_iast (pc := 47) d_L_putEmitted_47 (by decide) rfl ⟨rfl, by omega, by decide⟩ ?_
  refine kx_aload_n (pc := 48) d_L_putEmitted_48 rfl ?_
  refine kw_getr (pc := 49) (r := 10) d_L_putEmitted_49 fl_L_37 rfl (by decide) rfl ?_
  refine kx_iload_n (pc := 52) d_L_putEmitted_52 rfl ?_
  refine kx_dup2 (pc := 53) d_L_putEmitted_53 rfl rfl ?_
  refine ka_iald (pc := 54) d_L_putEmitted_54 (by decide) rfl ⟨rfl, by omega, by decide⟩ ?_
  refine kx_iconst (pc := 55) (x := 1) d_L_putEmitted_55 (by decide) ?_
  refine kx_iadd (pc := 56) d_L_putEmitted_56 ?_
  refine ka_iast (pc := 57) d_L_putEmitted_57 (by decide) rfl ⟨rfl, by omega, by decide⟩ ?_
  exact kx_vret rfl d_L_putEmitted_58 ⟨rfl, rfl⟩
set_option maxHeartbeats 4000000 in
set_option maxRecDepth 100000 in
theorem k_hasEmitted {E : kx_E} {n : Nat} {a b : kW} {p c : Nat} (hc : c < 500) : kx_V E i_L_hasEmitted 1 0 0 (fun r _ h' => h' = wd (wx a b) ∧ r = Sum.inl (some (.int (if a.1 8 c &&& kb p = 0 then 0 else 1)))) 0 0 0 (lv_args 0 [.ref 1, .int (nI p), .int (nI c)]) [] n (wd (wx a b)) := by
  refine kx_aload_n (pc := 0) d_L_hasEmitted_0 rfl ?_
  refine kw_getr (pc := 1) (r := 8) d_L_hasEmitted_1 fl_L_31 rfl (by decide) rfl ?_
  refine kx_iload_n (pc := 4) d_L_hasEmitted_4 rfl ?_
  refine ka_iald (pc := 5) d_L_hasEmitted_5 (by decide) rfl ⟨rfl, by omega, by decide⟩ ?_
  refine kx_iconst (pc := 6) (x := 1) d_L_hasEmitted_6 (by decide) ?_
  refine kx_iload_n (pc := 7) d_L_hasEmitted_7 rfl ?_
  refine kx_ishl (pc := 8) d_L_hasEmitted_8 ?_
  refine kx_eqi (show _ = kb p from rfl) ?_
  refine kx_iand (pc := 9) d_L_hasEmitted_9 ?_
  refine kx_if_eq (pc := 10) (tgt := 17) d_L_hasEmitted_10 (by decide) (fun hz => ?_) (fun hz => ?_)
  · refine kx_iconst (pc := 17) (x := 0) d_L_hasEmitted_17 (by decide) ?_
    exact kx_zret rfl rfl d_L_hasEmitted_18 ⟨rfl, by rw [if_pos hz]⟩
  · refine kx_iconst (pc := 13) (x := 1) d_L_hasEmitted_13 (by decide) ?_
    refine kx_goto (pc := 14) (tgt := 18) d_L_hasEmitted_14 (by decide) ?_
    exact kx_zret rfl rfl d_L_hasEmitted_18 ⟨rfl, by rw [if_neg hz]⟩
set_option maxHeartbeats 4000000 in
set_option maxRecDepth 100000 in
theorem k_forgetCause {E : kx_E} {n : Nat} {a b : kW} {q p c : Nat} (hq : q < 500) (hp : p < 8) (hc : c < 500) (e1 : a.1 6 q = nI p) (e2 : a.1 7 q = nI c) : kx_V E i_L_forgetCause 1 0 0 (fun r _ h' => h' = wd (wx (f_forget a q) b) ∧ r = Sum.inl none) 0 0 0 (lv_args 0 [.ref 1, .int (nI q)]) [] n (wd (wx a b)) := by
  have n1 : nt (a.1 6 q) = p := by rw [e1]; exact nt_nI (by omega)
  have n2 : nt (a.1 7 q) = c := by rw [e2]; exact nt_nI (by omega)
  unfold f_forget
  rw [n1, n2]
  refine kx_aload_n (pc := 0) d_L_forgetCause_0 rfl ?_
  refine kw_getr (pc := 1) (r := 6) d_L_forgetCause_1 fl_L_25 rfl (by decide) rfl ?_
  refine kx_iload_n (pc := 4) d_L_forgetCause_4 rfl ?_
  refine ka_iald (pc := 5) d_L_forgetCause_5 (by decide) rfl ⟨rfl, by omega, by decide⟩ ?_
  refine kx_eqi e1 ?_
  refine kx_istore_n (pc := 6) (lv' := [(2, _), (0, _), (1, _)]) d_L_forgetCause_6 rfl (by decide) rfl ?_
  refine kx_aload_n (pc := 7) d_L_forgetCause_7 rfl ?_
  refine kw_getr (pc := 8) (r := 8) d_L_forgetCause_8 fl_L_31 rfl (by decide) rfl ?_
  refine kx_aload_n (pc := 11) d_L_forgetCause_11 rfl ?_
  refine kw_getr (pc := 12) (r := 7) d_L_forgetCause_12 fl_L_28 rfl (by decide) rfl ?_
  refine kx_iload_n (pc := 15) d_L_forgetCause_15 rfl ?_
  refine ka_iald (pc := 16) d_L_forgetCause_16 (by decide) rfl ⟨rfl, by omega, by decide⟩ ?_
  refine kx_eqi e2 ?_
  refine kx_dup2 (pc := 17) d_L_forgetCause_17 rfl rfl ?_
  refine ka_iald (pc := 18) d_L_forgetCause_18 (by decide) rfl ⟨rfl, by omega, by decide⟩ ?_
  refine kx_iconst (pc := 19) (x := 1) d_L_forgetCause_19 (by decide) ?_
  refine kx_iload_n (pc := 20) d_L_forgetCause_20 rfl ?_
  refine kx_ishl (pc := 21) d_L_forgetCause_21 ?_
  refine kx_iconst (pc := 22) (x := -1) d_L_forgetCause_22 (by decide) ?_
  refine kx_ixor (pc := 23) d_L_forgetCause_23 ?_
  refine kx_iand (pc := 24) d_L_forgetCause_24 ?_
  refine ka_iast (pc := 25) d_L_forgetCause_25 (by decide) rfl ⟨rfl, by omega, by decide⟩ ?_
  refine kx_aload_n (pc := 26) d_L_forgetCause_26 rfl ?_
  refine kw_getr (pc := 27) (r := 10) d_L_forgetCause_27 fl_L_37 rfl (by decide) rfl ?_
  refine kx_iload_n (pc := 30) d_L_forgetCause_30 rfl ?_
  refine kx_dup2 (pc := 31) d_L_forgetCause_31 rfl rfl ?_
  refine ka_iald (pc := 32) d_L_forgetCause_32 (by decide) rfl ⟨rfl, by omega, by decide⟩ ?_
  refine kx_iconst (pc := 33) (x := 1) d_L_forgetCause_33 (by decide) ?_
  refine kx_isub (pc := 34) d_L_forgetCause_34 ?_
  refine ka_iast (pc := 35) d_L_forgetCause_35 (by decide) rfl ⟨rfl, by omega, by decide⟩ ?_
  exact kx_vret rfl d_L_forgetCause_36 ⟨rfl, rfl⟩
set_option maxHeartbeats 4000000 in
set_option maxRecDepth 100000 in
theorem k_drop_loop {E : kx_E} {b : kW} {sz du : Nat} (h5 : sz ≤ 500) (m : Nat) : ∀ (q : Nat) (a : kW), q + m = sz → a.2.2 1 9 = nI sz → a.2.2 1 10 = nI du → (∀ k, k < sz → (∃ s, s < 16 ∧ a.1 2 k = nI s) ∧ (a.1 6 k = -1 ∨ ∃ p c, p < 8 ∧ c < 500 ∧ a.1 6 k = nI p ∧ a.1 7 k = nI c)) → ∀ {Q : kx_Q}, (∀ n, Q (Sum.inl none) n (wd (wx (uo (f_drop m q a) 1 9 (nI du)) b))) → ∀ n, kx_V E i_L_dropUndurable 2 0 0 Q 0 0 5 [(1, .int (nI q)), (0, .ref 1)] [] n (wd (wx a b)) := by
  induction m with
  | zero =>
    intro q a hm h1 h2 hI Q hQ n
    have hqs : q = sz := by omega
    subst hqs
    refine kx_iload_n (pc := 5) d_L_dropUndurable_5 rfl ?_
    refine kx_aload_n (pc := 6) d_L_dropUndurable_6 rfl ?_
    refine ka_geti (pc := 7) d_L_dropUndurable_7 fl_L_40 (by decide) rfl (by decide) rfl ?_
    refine kx_eqi h1 ?_
    refine kx_icmp_ge (pc := 10) (tgt := 49) d_L_dropUndurable_10 (by decide) (fun _ => ?_) (fun hz => absurd (nI_le (Nat.le_refl q) (by omega)) hz)
    refine kx_aload_n (pc := 49) d_L_dropUndurable_49 rfl ?_
    refine kx_aload_n (pc := 50) d_L_dropUndurable_50 rfl ?_
    refine ka_geti (pc := 51) d_L_dropUndurable_51 fl_L_50 (by decide) rfl (by decide) rfl ?_
    refine kx_eqi h2 ?_
    refine ka_puti (pc := 54) d_L_dropUndurable_54 fl_L_40 fw_L_9 (by decide) rfl (by decide) rfl ?_
    exact kx_vret rfl d_L_dropUndurable_57 (hQ _)
  | succ m ih =>
    intro q a hm h1 h2 hI Q hQ n
    obtain ⟨⟨s, hs, es⟩, hco⟩ := hI q (by omega)
    have ns : nt (a.1 2 q) = s := by rw [es]; exact nt_nI (by omega)
    have hlt : q < sz := by omega
    have hF := f_drop1_2 a q
    have hnext : ∀ n, kx_V E i_L_dropUndurable 2 0 0 Q 0 0 5 [(1, .int (nI (q + 1))), (0, .ref 1)] [] n (wd (wx (f_drop1 a q) b)) := by
      refine ih (q + 1) (f_drop1 a q) (by omega) (by rw [hF.2.2.2]; exact h1) (by rw [hF.2.2.2]; exact h2) (fun k hk => ?_) hQ
      rw [hF.1, hF.2.1, hF.2.2.1]
      exact hI k hk
    refine kx_iload_n (pc := 5) d_L_dropUndurable_5 rfl ?_
    refine kx_aload_n (pc := 6) d_L_dropUndurable_6 rfl ?_
    refine ka_geti (pc := 7) d_L_dropUndurable_7 fl_L_40 (by decide) rfl (by decide) rfl ?_
    refine kx_eqi h1 ?_
    refine kx_icmp_ge (pc := 10) (tgt := 49) d_L_dropUndurable_10 (by decide) (fun hz => absurd hz (fun z => absurd z (nI_ge hlt (by omega)))) (fun _ => ?_)
    refine kx_aload_n (pc := 13) d_L_dropUndurable_13 rfl ?_
    refine kw_getr (pc := 14) (r := 9) d_L_dropUndurable_14 fl_L_34 rfl (by decide) rfl ?_
    refine kx_aload_n (pc := 17) d_L_dropUndurable_17 rfl ?_
    refine kw_getr (pc := 18) (r := 2) d_L_dropUndurable_18 fl_L_9 rfl (by decide) rfl ?_
    refine kx_iload_n (pc := 21) d_L_dropUndurable_21 rfl ?_
    refine ka_iald (pc := 22) d_L_dropUndurable_22 (by decide) rfl ⟨rfl, by omega, by decide⟩ ?_
    refine kx_eqi es ?_
    refine kx_dup2 (pc := 23) d_L_dropUndurable_23 rfl rfl ?_
    refine ka_iald (pc := 24) d_L_dropUndurable_24 (by decide) rfl ⟨rfl, by omega, by decide⟩ ?_
    refine kx_iconst (pc := 25) (x := 1) d_L_dropUndurable_25 (by decide) ?_
    refine kx_isub (pc := 26) d_L_dropUndurable_26 ?_
    refine ka_iast (pc := 27) d_L_dropUndurable_27 (by decide) rfl ⟨rfl, by omega, by decide⟩ ?_
    refine kx_aload_n (pc := 28) d_L_dropUndurable_28 rfl ?_
    refine kw_getr (pc := 29) (r := 6) d_L_dropUndurable_29 fl_L_25 rfl (by decide) rfl ?_
    refine kx_iload_n (pc := 32) d_L_dropUndurable_32 rfl ?_
    refine ka_iald (pc := 33) d_L_dropUndurable_33 (by decide) rfl ⟨rfl, by omega, by decide⟩ ?_
    refine kx_iconst (pc := 34) (x := -1) d_L_dropUndurable_34 (by decide) ?_
    refine kx_icmp_eq (pc := 35) (tgt := 43) d_L_dropUndurable_35 (by decide) (fun hz => ?_) (fun hz => ?_)
    · have e0 : f_drop1 a q = ui a 9 s (a.1 9 s - 1) := by
        unfold f_drop1
        rw [ns]
        exact if_pos hz
      rw [e0] at hnext
      refine kx_iinc (pc := 43) (y := nI (q + 1)) (lv' := [(1, _), (0, _)]) d_L_dropUndurable_43 rfl (nI_1 q) (by decide) rfl ?_
      refine kx_goto (pc := 46) (tgt := 5) d_L_dropUndurable_46 (by decide) ?_
      exact hnext _
    · obtain ⟨p, c, hp, hc, e1, e2⟩ := hco.resolve_left hz
      have e0 : f_drop1 a q = f_forget (ui a 9 s (a.1 9 s - 1)) q := by
        unfold f_drop1
        rw [ns]
        exact if_neg hz
      rw [e0] at hnext
      refine kx_aload_n (pc := 38) d_L_dropUndurable_38 rfl ?_
      refine kx_iload_n (pc := 39) d_L_dropUndurable_39 rfl ?_
      refine kx_invV (pc := 40) (as := [.int _]) (st := []) (k := 0) (j := 0) d_L_dropUndurable_40 wv_L_53 (wd_o rfl) (k_forgetCause (a := ui a 9 s (a.1 9 s - 1)) (q := q) (by omega) hp hc e1 e2) rfl rfl (Nat.le_of_ble_eq_true rfl) (by decide) (Nat.le_of_ble_eq_true rfl) (fun rv n' h' hq => ?_) (fun X n' h' hq => nomatch hq.2)
      obtain ⟨rfl, hq⟩ := hq
      cases hq
      refine kx_iinc (pc := 43) (y := nI (q + 1)) (lv' := [(1, _), (0, _)]) d_L_dropUndurable_43 rfl (nI_1 q) (by decide) rfl ?_
      refine kx_goto (pc := 46) (tgt := 5) d_L_dropUndurable_46 (by decide) ?_
      exact hnext _
set_option maxHeartbeats 4000000 in
set_option maxRecDepth 100000 in
theorem k_dropUndurable {E : kx_E} {n : Nat} {a b : kW} {sz du : Nat} (h1 : a.2.2 1 9 = nI sz) (h2 : a.2.2 1 10 = nI du) (h5 : sz ≤ 500) (hd : du ≤ sz) (hI : ∀ k, k < sz → (∃ s, s < 16 ∧ a.1 2 k = nI s) ∧ (a.1 6 k = -1 ∨ ∃ p c, p < 8 ∧ c < 500 ∧ a.1 6 k = nI p ∧ a.1 7 k = nI c)) : kx_V E i_L_dropUndurable 2 0 0 (fun r _ h' => h' = wd (wx (uo (f_drop (sz - du) du a) 1 9 (nI du)) b) ∧ r = Sum.inl none) 0 0 0 (lv_args 0 [.ref 1]) [] n (wd (wx a b)) := by
  refine kx_aload_n (pc := 0) d_L_dropUndurable_0 rfl ?_
  refine ka_geti (pc := 1) d_L_dropUndurable_1 fl_L_50 (by decide) rfl (by decide) rfl ?_
  refine kx_eqi h2 ?_
  refine kx_istore_n (pc := 4) (lv' := [(1, _), (0, _)]) d_L_dropUndurable_4 rfl (by decide) rfl ?_
  exact k_drop_loop h5 (sz - du) du a (by omega) h1 h2 hI (fun _ => ⟨rfl, rfl⟩) _
set_option maxHeartbeats 4000000 in
set_option maxRecDepth 100000 in
theorem k_place_loop {E : kx_E} {n : Nat} {a b : kW} {sz : Nat} {x y : Int32} (h1 : a.2.2 1 9 = nI sz) (h5 : sz ≤ 500) (m : Nat) : ∀ (q : Nat), q + m = sz → ∀ {Q : kx_Q}, Q (Sum.inl (some (.int (f_find a x y m q)))) n (wd (wx a b)) → kx_V E i_L_placeOf 1 0 0 Q 0 0 2 [(3, .int (nI q)), (0, .ref 1), (1, .int x), (2, .int y)] [] n (wd (wx a b)) := by
  induction m with
  | zero =>
    intro q hm Q hQ
    have hqs : q = sz := by omega
    subst hqs
    refine kx_iload_n (pc := 2) d_L_placeOf_2 rfl ?_
    refine kx_aload_n (pc := 3) d_L_placeOf_3 rfl ?_
    refine ka_geti (pc := 4) d_L_placeOf_4 fl_L_40 (by decide) rfl (by decide) rfl ?_
    refine kx_eqi h1 ?_
    refine kx_icmp_ge (pc := 7) (tgt := 38) d_L_placeOf_7 (by decide) (fun _ => ?_) (fun hz => absurd (nI_le (Nat.le_refl q) (by omega)) hz)
    refine kx_iconst (pc := 38) (x := -1) d_L_placeOf_38 (by decide) ?_
    exact kx_iret rfl d_L_placeOf_39 hQ
  | succ m ih =>
    intro q hm Q hQ
    have hlt : q < sz := by omega
    have hnext : ¬ (a.1 2 q = x ∧ a.1 3 q = y) → kx_V E i_L_placeOf 1 0 0 Q 0 0 2 [(3, .int (nI (q + 1))), (0, .ref 1), (1, .int x), (2, .int y)] [] n (wd (wx a b)) := by
      intro hz
      refine ih (q + 1) (by omega) ?_
      have e0 : f_find a x y (m + 1) q = f_find a x y m (q + 1) := if_neg hz
      rw [← e0]
      exact hQ
    refine kx_iload_n (pc := 2) d_L_placeOf_2 rfl ?_
    refine kx_aload_n (pc := 3) d_L_placeOf_3 rfl ?_
    refine ka_geti (pc := 4) d_L_placeOf_4 fl_L_40 (by decide) rfl (by decide) rfl ?_
    refine kx_eqi h1 ?_
    refine kx_icmp_ge (pc := 7) (tgt := 38) d_L_placeOf_7 (by decide) (fun hz => absurd hz (fun z => absurd z (nI_ge hlt (by omega)))) (fun _ => ?_)
    refine kx_aload_n (pc := 10) d_L_placeOf_10 rfl ?_
    refine kw_getr (pc := 11) (r := 2) d_L_placeOf_11 fl_L_9 rfl (by decide) rfl ?_
    refine kx_iload_n (pc := 14) d_L_placeOf_14 rfl ?_
    refine ka_iald (pc := 15) d_L_placeOf_15 (by decide) rfl ⟨rfl, by omega, by decide⟩ ?_
    refine kx_iload_n (pc := 16) d_L_placeOf_16 rfl ?_
    refine kx_icmp_ne (pc := 17) (tgt := 32) d_L_placeOf_17 (by decide) (fun hz => ?_) (fun hz => ?_)
    · refine kx_iinc (pc := 32) (y := nI (q + 1)) (lv' := [(3, _), (0, _), (1, _), (2, _)]) d_L_placeOf_32 rfl (nI_1 q) (by decide) rfl ?_
      refine kx_goto (pc := 35) (tgt := 2) d_L_placeOf_35 (by decide) ?_
      exact hnext (fun w => by first | exact hz w.1 | exact hy w.2)
    · refine kx_aload_n (pc := 20) d_L_placeOf_20 rfl ?_
      refine kw_getr (pc := 21) (r := 3) d_L_placeOf_21 fl_L_15 rfl (by decide) rfl ?_
      refine kx_iload_n (pc := 24) d_L_placeOf_24 rfl ?_
      refine ka_iald (pc := 25) d_L_placeOf_25 (by decide) rfl ⟨rfl, by omega, by decide⟩ ?_
      refine kx_iload_n (pc := 26) d_L_placeOf_26 rfl ?_
      refine kx_icmp_ne (pc := 27) (tgt := 32) d_L_placeOf_27 (by decide) (fun hy => ?_) (fun hy => ?_)
      · refine kx_iinc (pc := 32) (y := nI (q + 1)) (lv' := [(3, _), (0, _), (1, _), (2, _)]) d_L_placeOf_32 rfl (nI_1 q) (by decide) rfl ?_
        refine kx_goto (pc := 35) (tgt := 2) d_L_placeOf_35 (by decide) ?_
        exact hnext (fun w => by first | exact hz w.1 | exact hy w.2)
      · refine kx_iload_n (pc := 30) d_L_placeOf_30 rfl ?_
        exact kx_iret rfl d_L_placeOf_31 (by rw [show f_find a x y (m + 1) q = nI q from if_pos ⟨hz, hy⟩] at hQ; exact hQ)
set_option maxHeartbeats 4000000 in
set_option maxRecDepth 100000 in
theorem k_placeOf {E : kx_E} {n : Nat} {a b : kW} {sz : Nat} {x y : Int32} (h1 : a.2.2 1 9 = nI sz) (h5 : sz ≤ 500) : kx_V E i_L_placeOf 1 0 0 (fun r _ h' => h' = wd (wx a b) ∧ r = Sum.inl (some (.int (f_find a x y sz 0)))) 0 0 0 (lv_args 0 [.ref 1, .int x, .int y]) [] n (wd (wx a b)) := by
  refine kx_iconst (pc := 0) (x := 0) d_L_placeOf_0 (by decide) ?_
  refine kx_eqi (show (0 : Int32) = nI 0 from rfl) ?_
  refine kx_istore_n (pc := 1) (lv' := [(3, _), (0, _), (1, _), (2, _)]) d_L_placeOf_1 rfl (by decide) rfl ?_
  exact k_place_loop h1 h5 sz 0 (by omega) ⟨rfl, rfl⟩
end
section
set_option maxHeartbeats 4000000 in
set_option maxRecDepth 100000 in
theorem k_over_loop {E : kx_E} {n : Nat} {b : kW} {p : Nat} (hp : p < 8) (f : Nat → Int64) (m : Nat) : ∀ (q : Nat) (a : kW), q + m = 16 → a.2.1 (12 + 5 * p + 3) = f_zero f q → ∀ {Q : kx_Q}, Q (Sum.inl none) n (wd (wx (uo (uo (uL a (12 + 5 * p + 3) (f_zero f 16)) (12 + 5 * p) 4 0) (12 + 5 * p) 7 (-1)) b)) → kx_V E i_P_startOver 1 0 0 Q 0 0 2 [(1, .int (nI q)), (0, .ref (12 + 5 * p))] [] n (wd (wx a b)) := by
  induction m with
  | zero =>
    intro q a hm hf Q hQ
    have hq : q = 16 := by omega
    subst hq
    have e0 : uL a (12 + 5 * p + 3) (f_zero f 16) = a := by
      refine Prod.ext rfl (Prod.ext (funext fun z => ?_) rfl)
      by_cases e : z = 12 + 5 * p + 3
      · subst e
        simp [uL, hf]
      · simp [uL, e]
    rw [e0] at hQ
    refine kx_iload_n (pc := 2) d_P_startOver_2 rfl ?_
    refine kx_bipush (pc := 3) (x := 16) d_P_startOver_3 (by decide) ?_
    refine kx_eqi (show (16 : Int32) = nI 16 from rfl) ?_
    refine kx_icmp_ge (pc := 5) (tgt := 21) d_P_startOver_5 (by decide) (fun _ => ?_) (fun hz => absurd (nI_le (Nat.le_refl 16) (by omega)) hz)
    refine kx_aload_n (pc := 21) d_P_startOver_21 rfl ?_
    refine kx_iconst (pc := 22) (x := 0) d_P_startOver_22 (by decide) ?_
    refine ka_puti (pc := 23) d_P_startOver_23 fl_P_35 fw_P_4 (by omega) (wk_p0 hp) (by decide) (wf_p4 hp) ?_
    refine kx_aload_n (pc := 26) d_P_startOver_26 rfl ?_
    refine kx_iconst (pc := 27) (x := -1) d_P_startOver_27 (by decide) ?_
    refine ka_puti (pc := 28) d_P_startOver_28 fl_P_29 fw_P_7 (by omega) (wk_p0 hp) (by decide) (wf_p7 hp) ?_
    exact kx_vret rfl d_P_startOver_31 hQ
  | succ m ih =>
    intro q a hm hf Q hQ
    have hlt : q < 16 := by omega
    have e1 : (ul a (12 + 5 * p + 3) q 0).2.1 (12 + 5 * p + 3) = f_zero f (q + 1) := by
      show (if 12 + 5 * p + 3 = 12 + 5 * p + 3 then vp_updL (a.2.1 (12 + 5 * p + 3)) q 0 else _) = _
      rw [if_pos rfl, hf]
      rfl
    have e2 : uL (ul a (12 + 5 * p + 3) q 0) (12 + 5 * p + 3) (f_zero f 16) = uL a (12 + 5 * p + 3) (f_zero f 16) := by
      refine Prod.ext rfl (Prod.ext (funext fun z => ?_) rfl)
      by_cases e : z = 12 + 5 * p + 3 <;> simp [uL, ul, e]
    have hnext := ih (q + 1) (ul a (12 + 5 * p + 3) q 0) (by omega) e1 (Q := Q) (by rw [e2]; exact hQ)
    refine kx_iload_n (pc := 2) d_P_startOver_2 rfl ?_
    refine kx_bipush (pc := 3) (x := 16) d_P_startOver_3 (by decide) ?_
    refine kx_eqi (show (16 : Int32) = nI 16 from rfl) ?_
    refine kx_icmp_ge (pc := 5) (tgt := 21) d_P_startOver_5 (by decide) (fun hz => absurd hz (nI_ge hlt (by omega))) (fun _ => ?_)
    refine kx_aload_n (pc := 8) d_P_startOver_8 rfl ?_
    refine kw_getr (pc := 9) d_P_startOver_9 fl_P_22 (wk_p0 hp) (by decide) (wf_p3 hp) ?_
    refine kx_iload_n (pc := 12) d_P_startOver_12 rfl ?_
    refine kx_lconst (pc := 13) (x := 0) d_P_startOver_13 (by decide) ?_
    refine ka_last (pc := 14) d_P_startOver_14 (by omega) (wk_p3 hp) ⟨rfl, hlt, by decide⟩ ?_
    refine kx_iinc (pc := 15) (y := nI (q + 1)) (lv' := [(1, _), (0, _)]) d_P_startOver_15 rfl (nI_1 q) (by decide) rfl ?_
    refine kx_goto (pc := 18) (tgt := 2) d_P_startOver_18 (by decide) ?_
    exact hnext
set_option maxHeartbeats 4000000 in
set_option maxRecDepth 100000 in
theorem k_startOver {E : kx_E} {n : Nat} {a b : kW} {p : Nat} (hp : p < 8) : kx_V E i_P_startOver 1 0 0 (fun r _ h' => h' = wd (wx (f_over a p) b) ∧ r = Sum.inl none) 0 0 0 (lv_args 0 [.ref (12 + 5 * p)]) [] n (wd (wx a b)) := by
  refine kx_iconst (pc := 0) (x := 0) d_P_startOver_0 (by decide) ?_
  refine kx_eqi (show (0 : Int32) = nI 0 from rfl) ?_
  refine kx_istore_n (pc := 1) (lv' := [(1, _), (0, _)]) d_P_startOver_1 rfl (by decide) rfl ?_
  exact k_over_loop hp (a.2.1 (12 + 5 * p + 3)) 16 0 a rfl rfl ⟨rfl, rfl⟩
set_option maxHeartbeats 4000000 in
set_option maxRecDepth 100000 in
theorem k_setRule {E : kx_E} {n : Nat} {a b : kW} {p t : Nat} {x y : Int32} (hp : p < 8) (ht : t < 8) : kx_V E i_P_setRule 2 0 0 (fun r _ h' => h' = wd (wx (f_rule a p t x y) b) ∧ r = Sum.inl none) 0 0 0 (lv_args 0 [.ref (12 + 5 * p), .int (nI t), .int x, .int y]) [] n (wd (wx a b)) := by
  refine kx_aload_n (pc := 0) d_P_setRule_0 rfl ?_
  refine kw_getr (pc := 1) d_P_setRule_1 fl_P_15 (wk_p0 hp) (by decide) (wf_p1 hp) ?_
  refine kx_iload_n (pc := 4) d_P_setRule_4 rfl ?_
  refine kx_iload_n (pc := 5) d_P_setRule_5 rfl ?_
  refine ka_iast (pc := 6) d_P_setRule_6 (by omega) (wk_p1 hp) ⟨rfl, ht, by decide⟩ ?_
  refine kx_aload_n (pc := 7) d_P_setRule_7 rfl ?_
  refine kw_getr (pc := 8) d_P_setRule_8 fl_P_19 (wk_p0 hp) (by decide) (wf_p2 hp) ?_
  refine kx_iload_n (pc := 11) d_P_setRule_11 rfl ?_
  refine kx_iload_n (pc := 12) d_P_setRule_12 rfl ?_
  refine ka_iast (pc := 13) d_P_setRule_13 (by omega) (wk_p2 hp) ⟨rfl, ht, by decide⟩ ?_
  refine kx_aload_n (pc := 14) d_P_setRule_14 rfl ?_
  refine kx_invV (pc := 15) (as := []) (st := []) (k := 0) (j := 0) d_P_setRule_15 wv_P_32 (wd_o (wk_p0 hp)) (k_startOver hp) rfl rfl (Nat.le_of_ble_eq_true rfl) (by decide) (Nat.le_of_ble_eq_true rfl) (fun rv n' h' hq => ?_) (fun X n' h' hq => nomatch hq.2)
  obtain ⟨rfl, hq⟩ := hq
  cases hq
  exact kx_vret rfl d_P_setRule_18 ⟨rfl, rfl⟩
set_option maxHeartbeats 4000000 in
set_option maxRecDepth 100000 in
theorem k_folded {E : kx_E} {n : Nat} {hh : kx_H} {x : Int32} {g v : Int64} : kx_V E i_P_folded 1 0 0 (fun r _ h' => h' = hh ∧ r = Sum.inl (some (.long (f_fold x g v)))) 0 0 0 (lv_args 0 [.int x, .long g, .long v]) [] n hh := by
  by_cases x1 : x = 1
  · have hx : x = 1 := x1
    refine kx_iload_n (pc := 0) d_P_folded_0 rfl ?_
    refine kx_tsIn (pc := 1) (tgt := 36) d_P_folded_1 (by rw [hx]; decide) (by rw [hx]; decide) (by rw [hx]; rfl) (by decide) ?_
    refine kx_lload_n (pc := 36) d_P_folded_36 rfl ?_
    refine kx_lload_n (pc := 37) d_P_folded_37 rfl ?_
    refine kx_ladd (pc := 38) d_P_folded_38 ?_
    exact kx_lret rfl d_P_folded_39 ⟨rfl, by rw [hx]; rfl⟩
  by_cases x2 : x = 2
  · have hx : x = 2 := x2
    refine kx_iload_n (pc := 0) d_P_folded_0 rfl ?_
    refine kx_tsIn (pc := 1) (tgt := 40) d_P_folded_1 (by rw [hx]; decide) (by rw [hx]; decide) (by rw [hx]; rfl) (by decide) ?_
    refine kx_lload_n (pc := 40) d_P_folded_40 rfl ?_
    exact kx_lret rfl d_P_folded_41 ⟨rfl, by rw [hx]; rfl⟩
  by_cases x3 : x = 3
  · have hx : x = 3 := x3
    refine kx_iload_n (pc := 0) d_P_folded_0 rfl ?_
    refine kx_tsIn (pc := 1) (tgt := 42) d_P_folded_1 (by rw [hx]; decide) (by rw [hx]; decide) (by rw [hx]; rfl) (by decide) ?_
    refine kx_lload_n (pc := 42) d_P_folded_42 rfl ?_
    refine kx_lconst (pc := 43) (x := 1) d_P_folded_43 (by decide) ?_
    refine kx_ladd (pc := 44) d_P_folded_44 ?_
    exact kx_lret rfl d_P_folded_45 ⟨rfl, by rw [hx]; rfl⟩
  by_cases x4 : x = 4
  · have hx : x = 4 := x4
    refine kx_iload_n (pc := 0) d_P_folded_0 rfl ?_
    refine kx_tsIn (pc := 1) (tgt := 46) d_P_folded_1 (by rw [hx]; decide) (by rw [hx]; decide) (by rw [hx]; rfl) (by decide) ?_
    refine kx_lload_n (pc := 46) d_P_folded_46 rfl ?_
    refine kx_lload_n (pc := 47) d_P_folded_47 rfl ?_
    refine kx_maxl (pc := 48) d_P_folded_48 (kx_t 359 (by decide +kernel) rfl) (kx_t 360 (by decide +kernel) rfl) (kx_t 12 (by decide +kernel) rfl) (kx_t 361 (by decide +kernel) rfl) (by decide) (Nat.le_of_ble_eq_true rfl) ?_
    exact kx_lret rfl d_P_folded_51 ⟨rfl, by rw [hx]; rfl⟩
  by_cases x5 : x = 5
  · have hx : x = 5 := x5
    refine kx_iload_n (pc := 0) d_P_folded_0 rfl ?_
    refine kx_tsIn (pc := 1) (tgt := 52) d_P_folded_1 (by rw [hx]; decide) (by rw [hx]; decide) (by rw [hx]; rfl) (by decide) ?_
    refine kx_lload_n (pc := 52) d_P_folded_52 rfl ?_
    refine kx_lload_n (pc := 53) d_P_folded_53 rfl ?_
    refine kx_minl (pc := 54) d_P_folded_54 (kx_t 362 (by decide +kernel) rfl) (kx_t 363 (by decide +kernel) rfl) (kx_t 12 (by decide +kernel) rfl) (kx_t 364 (by decide +kernel) rfl) (by decide) (Nat.le_of_ble_eq_true rfl) ?_
    exact kx_lret rfl d_P_folded_57 ⟨rfl, by rw [hx]; rfl⟩
  have ho : x.toInt < 1 ∨ 5 < x.toInt := by
    have g : ∀ z : Int, x.toInt = z → x = Int32.ofInt z := fun z hz => by rw [← hz, Int32.ofInt_toInt]
    rcases Int.lt_or_le x.toInt 1 with q | q
    · exact Or.inl q
    · refine Or.inr ?_
      have n1 : x.toInt ≠ 1 := fun e => x1 (g 1 e)
      have n2 : x.toInt ≠ 2 := fun e => x2 (g 2 e)
      have n3 : x.toInt ≠ 3 := fun e => x3 (g 3 e)
      have n4 : x.toInt ≠ 4 := fun e => x4 (g 4 e)
      have n5 : x.toInt ≠ 5 := fun e => x5 (g 5 e)
      omega
  refine kx_iload_n (pc := 0) d_P_folded_0 rfl ?_
  refine kx_tsOut (pc := 1) (tgt := 58) d_P_folded_1 ho (by decide) ?_
  refine kx_lload_n (pc := 58) d_P_folded_58 rfl ?_
  exact kx_lret rfl d_P_folded_59 ⟨rfl, by unfold f_fold; rw [if_neg x1, if_neg x2, if_neg x3, if_neg x4, if_neg x5]⟩
set_option maxHeartbeats 4000000 in
set_option maxRecDepth 100000 in
theorem k_targetCell {E : kx_E} {n : Nat} {a b : kW} {p q t s : Nat} (hp : p < 8) (hq : q < 500) (hpos : a.2.2 (12 + 5 * p) 4 = nI q) (ht : t < 8) (ek : a.1 4 q = nI t) (hs : s < 16) (es : a.1 2 q = nI s) : kx_V E i_P_targetCell 1 0 0 (fun r _ h' => h' = wd (wx a b) ∧ r = Sum.inl (some (.int (nI (f_cell a p q))))) 0 0 0 (lv_args 0 [.ref (12 + 5 * p), .ref 1]) [] n (wd (wx a b)) := by
  have nk : nt (a.1 4 q) = t := by rw [ek]; exact nt_nI (by omega)
  have hq5 : q < 500 := by omega
  refine kx_aload_n (pc := 0) d_P_targetCell_0 rfl ?_
  refine kw_getr (pc := 1) d_P_targetCell_1 fl_P_19 (wk_p0 hp) (by decide) (wf_p2 hp) ?_
  refine kx_aload_n (pc := 4) d_P_targetCell_4 rfl ?_
  refine kw_getr (pc := 5) (r := 4) d_P_targetCell_5 fl_P_43 rfl (by decide) rfl ?_
  refine kx_aload_n (pc := 8) d_P_targetCell_8 rfl ?_
  refine ka_geti (pc := 9) d_P_targetCell_9 fl_P_35 (by omega) (wk_p0 hp) (by decide) (wf_p4 hp) ?_
  refine kx_eqi hpos ?_
  refine ka_iald (pc := 12) d_P_targetCell_12 (by decide) rfl ⟨rfl, hq5, by decide⟩ ?_
  refine kx_eqi ek ?_
  refine ka_iald (pc := 13) d_P_targetCell_13 (by omega) (wk_p2 hp) ⟨rfl, ht, by decide⟩ ?_
  by_cases x0 : a.1 (12 + 5 * p + 2) t = 0
  · refine kx_lsw (pc := 14) (tgt := 40) d_P_targetCell_14 (by decide) (by rw [x0]; first | done | rfl) (by decide) ?_
    refine kx_aload_n (pc := 40) d_P_targetCell_40 rfl ?_
    refine kw_getr (pc := 41) (r := 2) d_P_targetCell_41 fl_P_61 rfl (by decide) rfl ?_
    refine kx_aload_n (pc := 44) d_P_targetCell_44 rfl ?_
    refine ka_geti (pc := 45) d_P_targetCell_45 fl_P_35 (by omega) (wk_p0 hp) (by decide) (wf_p4 hp) ?_
    refine kx_eqi hpos ?_
    refine ka_iald (pc := 48) d_P_targetCell_48 (by decide) rfl ⟨rfl, hq5, by decide⟩ ?_
    refine kx_eqi es ?_
    exact kx_iret rfl d_P_targetCell_49 ⟨rfl, by unfold f_cell; rw [nk, if_pos x0, es, nt_nI (by omega)]⟩
  by_cases x1 : a.1 (12 + 5 * p + 2) t = 1
  · refine kx_lsw (pc := 14) (tgt := 50) d_P_targetCell_14 (by decide) (by rw [x1]; first | done | rfl) (by decide) ?_
    refine kx_aload_n (pc := 50) d_P_targetCell_50 rfl ?_
    refine kw_getr (pc := 51) (r := 5) d_P_targetCell_51 fl_P_54 rfl (by decide) rfl ?_
    refine kx_aload_n (pc := 54) d_P_targetCell_54 rfl ?_
    refine ka_geti (pc := 55) d_P_targetCell_55 fl_P_35 (by omega) (wk_p0 hp) (by decide) (wf_p4 hp) ?_
    refine kx_eqi hpos ?_
    refine ka_lald (pc := 58) d_P_targetCell_58 (by decide) rfl ⟨rfl, hq5, by decide⟩ ?_
    refine kx_ldc2 (pc := 59) (x := 15) d_P_targetCell_59 (kx_t 340 (by decide +kernel) rfl) ?_
    refine kx_land (pc := 62) d_P_targetCell_62 ?_
    refine kx_l2i (pc := 63) d_P_targetCell_63 ?_
    refine kx_eqi (l4_a _) ?_
    exact kx_iret rfl d_P_targetCell_64 ⟨rfl, by unfold f_cell; rw [nk, if_neg x0, if_pos x1]⟩
  refine kx_lsw (pc := 14) (tgt := 65) (off := 51) d_P_targetCell_14 (by decide) (by
    show Op.lookupswitch.offset [(0, 26), (1, 36)] 51 _ = 51
    rw [lv_osw x0 (by decide), lv_osw x1 (by decide)]
    rfl) (by decide) ?_
  refine kx_iconst (pc := 65) (x := 0) d_P_targetCell_65 (by decide) ?_
  exact kx_iret rfl d_P_targetCell_66 ⟨rfl, by unfold f_cell; rw [nk, if_neg x0, if_neg x1]; rfl⟩
end
section
set_option maxHeartbeats 4000000 in
set_option maxRecDepth 100000 in
theorem k_countAndEmit {E : kx_E} {n : Nat} {a b : kW} {p q k sz : Nat} (hp : p < 8) (hq : q < 500) (hk : k < 16) (h1 : a.2.2 1 9 = nI sz) (h5 : sz ≤ 500) (hnum : a.2.2 (12 + 5 * p) 0 = nI p) (hpos : a.2.2 (12 + 5 * p) 4 = nI q) : kx_V E i_P_countAndEmit 3 0 0 (fun r _ h' => r = Sum.inl (some (.int (if (f_count a p q k sz).1 then 1 else 0))) ∧ h' = wd (wx (f_count a p q k sz).2 b)) 0 0 0 (lv_args 0 [.ref (12 + 5 * p), .ref 1, .int (nI k)]) [] n (wd (wx a b)) := by
  refine kx_aload_n (pc := 0) d_P_countAndEmit_0 rfl ?_
  refine kw_getr (pc := 1) d_P_countAndEmit_1 fl_P_22 (wk_p0 hp) (by decide) (wf_p3 hp) ?_
  refine kx_iload_n (pc := 4) d_P_countAndEmit_4 rfl ?_
  refine ka_lald (pc := 5) d_P_countAndEmit_5 (by omega) (wk_p3 hp) ⟨rfl, hk, by decide⟩ ?_
  refine kx_lconst (pc := 6) (x := 1) d_P_countAndEmit_6 (by decide) ?_
  refine kx_ladd (pc := 7) d_P_countAndEmit_7 ?_
  refine kx_topl (fun cc hcc => ?_)
  refine kx_lstore_n (pc := 8) (lv' := [(3, _), (0, _), (1, _), (2, _)]) d_P_countAndEmit_8 rfl (by decide) rfl ?_
  have cc2 : ∀ (x : Int32) (hx : x = if cc &&& 1 = 0 then 1 else 0), kx_V E i_P_countAndEmit 3 0 0 (fun r _ h' => r = Sum.inl (some (.int (if (f_count a p q k sz).1 then 1 else 0))) ∧ h' = wd (wx (f_count a p q k sz).2 b)) 0 0 22 [(3, .long cc), (0, .ref (12 + 5 * p)), (1, .ref 1), (2, .int (nI k))] [.int x] n (wd (wx a b)) := by
    intro x hx
    have no : ¬ ((a.2.1 (12 + 5 * p + 3) k + 1) &&& 1 = 0 ∧ a.1 8 q &&& kb p = 0) → ∀ n, kx_V E i_P_countAndEmit 3 0 0 (fun r _ h' => r = Sum.inl (some (.int (if (f_count a p q k sz).1 then 1 else 0))) ∧ h' = wd (wx (f_count a p q k sz).2 b)) 0 0 66 [(5, .int x), (3, .long cc), (0, .ref (12 + 5 * p)), (1, .ref 1), (2, .int (nI k))] [] n (wd (wx a b)) := by
      intro hn n
      have e0 : f_count a p q k sz = (true, ul a (12 + 5 * p + 3) k (a.2.1 (12 + 5 * p + 3) k + 1)) := if_neg hn
      refine kx_aload_n (pc := 66) d_P_countAndEmit_66 rfl ?_
      refine kw_getr (pc := 67) d_P_countAndEmit_67 fl_P_22 (wk_p0 hp) (by decide) (wf_p3 hp) ?_
      refine kx_iload_n (pc := 70) d_P_countAndEmit_70 rfl ?_
      refine kx_lload_n (pc := 71) d_P_countAndEmit_71 rfl ?_
      refine ka_last (pc := 72) d_P_countAndEmit_72 (by omega) (wk_p3 hp) ⟨rfl, hk, by decide⟩ ?_
      refine kx_iconst (pc := 73) (x := 1) d_P_countAndEmit_73 (by decide) ?_
      exact kx_zret rfl rfl d_P_countAndEmit_74 ⟨by rw [e0]; rfl, by rw [e0, hcc]⟩
    refine kx_istore (pc := 22) (lv' := [(5, _), (3, _), (0, _), (1, _), (2, _)]) d_P_countAndEmit_22 (by decide) rfl ?_
    refine kx_iload (pc := 24) d_P_countAndEmit_24 rfl ?_
    refine kx_if_eq (pc := 26) (tgt := 66) d_P_countAndEmit_26 (by decide) (fun hz => ?_) (fun hz => ?_)
    · exact no (fun w => by rw [hx, hcc, if_pos w.1] at hz; exact absurd hz (by decide)) _
    · have ev : (a.2.1 (12 + 5 * p + 3) k + 1) &&& 1 = 0 := by
        by_cases w : (a.2.1 (12 + 5 * p + 3) k + 1) &&& 1 = 0
        · exact w
        · rw [hx, hcc, if_neg w] at hz
          exact absurd rfl hz
      refine kx_aload_n (pc := 29) d_P_countAndEmit_29 rfl ?_
      refine kx_aload_n (pc := 30) d_P_countAndEmit_30 rfl ?_
      refine ka_geti (pc := 31) d_P_countAndEmit_31 fl_P_9 (by omega) (wk_p0 hp) (by decide) (wf_p0 hp) ?_
      refine kx_eqi hnum ?_
      refine kx_aload_n (pc := 34) d_P_countAndEmit_34 rfl ?_
      refine ka_geti (pc := 35) d_P_countAndEmit_35 fl_P_35 (by omega) (wk_p0 hp) (by decide) (wf_p4 hp) ?_
      refine kx_eqi hpos ?_
      refine kx_invV (pc := 38) (as := [.int _, .int _]) (st := []) (k := 0) (j := 0) d_P_countAndEmit_38 wv_P_75 (wd_o rfl) (k_hasEmitted (a := a) (b := b) (p := p) (c := q) hq) rfl rfl (Nat.le_of_ble_eq_true rfl) (by decide) (Nat.le_of_ble_eq_true rfl) (fun rv n' h' hq => ?_) (fun X n' h' hq => nomatch hq.2)
      obtain ⟨rfl, hq⟩ := hq
      cases hq
      refine kx_if_ne (pc := 41) (tgt := 66) d_P_countAndEmit_41 (by decide) (fun hm => ?_) (fun hm => ?_)
      · exact no (fun w => by rw [if_pos w.2] at hm; exact hm rfl) _
      · have em : a.1 8 q &&& kb p = 0 := by
          by_cases w : a.1 8 q &&& kb p = 0
          · exact w
          · rw [if_neg w] at hm
            exact absurd hm (by decide)
        refine kx_aload_n (pc := 44) d_P_countAndEmit_44 rfl ?_
        refine kx_invV (pc := 45) (as := []) (st := []) (k := 0) (j := 0) d_P_countAndEmit_45 wv_P_79 (wd_o rfl) (k_isFull h1 h5) rfl rfl (Nat.le_of_ble_eq_true rfl) (by decide) (Nat.le_of_ble_eq_true rfl) (fun rv n' h' hq => ?_) (fun X n' h' hq => nomatch hq.2)
        obtain ⟨rfl, hq⟩ := hq
        cases hq
        refine kx_if_eq (pc := 48) (tgt := 53) d_P_countAndEmit_48 (by decide) (fun hu => ?_) (fun hu => ?_)
        · have hfull : sz < 500 := by
            by_cases w : 500 ≤ sz
            · rw [if_pos w] at hu
              exact absurd hu (by decide)
            · omega
          have e0 : f_count a p q k sz = (true, ul (f_emit a sz p q (l4 (a.2.1 5 q)) (a.2.1 (12 + 5 * p + 3) k + 1)) (12 + 5 * p + 3) k (a.2.1 (12 + 5 * p + 3) k + 1)) := (if_pos ⟨ev, em⟩).trans (if_neg (by omega))
          refine kx_aload_n (pc := 53) d_P_countAndEmit_53 rfl ?_
          refine kx_aload_n (pc := 54) d_P_countAndEmit_54 rfl ?_
          refine ka_geti (pc := 55) d_P_countAndEmit_55 fl_P_9 (by omega) (wk_p0 hp) (by decide) (wf_p0 hp) ?_
          refine kx_eqi hnum ?_
          refine kx_aload_n (pc := 58) d_P_countAndEmit_58 rfl ?_
          refine ka_geti (pc := 59) d_P_countAndEmit_59 fl_P_35 (by omega) (wk_p0 hp) (by decide) (wf_p4 hp) ?_
          refine kx_eqi hpos ?_
          refine kx_lload_n (pc := 62) d_P_countAndEmit_62 rfl ?_
          refine kx_invV (pc := 63) (as := [.int _, .int _, .long _]) (st := []) (k := 0) (j := 0) d_P_countAndEmit_63 wv_P_83 (wd_o rfl) (k_putEmitted (a := a) (b := b) h1 hfull hp hq) rfl rfl (Nat.le_of_ble_eq_true rfl) (by decide) (Nat.le_of_ble_eq_true rfl) (fun rv n' h' hq => ?_) (fun X n' h' hq => nomatch hq.2)
          obtain ⟨rfl, hq⟩ := hq
          cases hq
          refine kx_aload_n (pc := 66) d_P_countAndEmit_66 rfl ?_
          refine kw_getr (pc := 67) d_P_countAndEmit_67 fl_P_22 (wk_p0 hp) (by decide) (wf_p3 hp) ?_
          refine kx_iload_n (pc := 70) d_P_countAndEmit_70 rfl ?_
          refine kx_lload_n (pc := 71) d_P_countAndEmit_71 rfl ?_
          refine ka_last (pc := 72) d_P_countAndEmit_72 (by omega) (wk_p3 hp) ⟨rfl, hk, by decide⟩ ?_
          refine kx_iconst (pc := 73) (x := 1) d_P_countAndEmit_73 (by decide) ?_
          exact kx_zret rfl rfl d_P_countAndEmit_74 ⟨by rw [e0]; rfl, by rw [e0, hcc]⟩
        · have w : 500 ≤ sz := by
            by_cases w : 500 ≤ sz
            · exact w
            · rw [if_neg w] at hu
              exact absurd rfl hu
          have e0 : f_count a p q k sz = (false, a) := (if_pos ⟨ev, em⟩).trans (if_pos w)
          refine kx_iconst (pc := 51) (x := 0) d_P_countAndEmit_51 (by decide) ?_
          exact kx_zret rfl rfl d_P_countAndEmit_52 ⟨by rw [e0]; rfl, by rw [e0]⟩
  refine kx_lload_n (pc := 9) d_P_countAndEmit_9 rfl ?_
  refine kx_lconst (pc := 10) (x := 1) d_P_countAndEmit_10 (by decide) ?_
  refine kx_land (pc := 11) d_P_countAndEmit_11 ?_
  refine kx_lconst (pc := 12) (x := 0) d_P_countAndEmit_12 (by decide) ?_
  refine kx_lcmp (pc := 13) d_P_countAndEmit_13 ?_
  refine kx_if_ne (pc := 14) (tgt := 21) d_P_countAndEmit_14 (by decide) (fun he => ?_) (fun he => ?_)
  · have hne : ¬ (cc &&& 1 = 0) := fun w => he ((lg_cmp_eq _ _).mpr w)
    refine kx_iconst (pc := 21) (x := 0) d_P_countAndEmit_21 (by decide) ?_
    exact cc2 _ (by first | rw [if_pos hev] | rw [if_neg hne])
  · have hev : cc &&& 1 = 0 := (lg_cmp_eq _ _).mp he
    refine kx_iconst (pc := 17) (x := 1) d_P_countAndEmit_17 (by decide) ?_
    refine kx_goto (pc := 18) (tgt := 22) d_P_countAndEmit_18 (by decide) ?_
    exact cc2 _ (by first | rw [if_pos hev] | rw [if_neg hne])
end
section
set_option maxHeartbeats 4000000 in
set_option maxRecDepth 100000 in
theorem k_takeOne {E : kx_E} {n : Nat} {a b : kW} {p q sz : Nat} (hp : p < 8) (hq5 : q ≤ 500) (h1 : a.2.2 1 9 = nI sz) (h5 : sz ≤ 500) (hnum : a.2.2 (12 + 5 * p) 0 = nI p) (hpos : a.2.2 (12 + 5 * p) 4 = nI q) (hI : ∀ k, k < sz → (∃ t, t < 8 ∧ a.1 4 k = nI t) ∧ ∃ s, s < 16 ∧ a.1 2 k = nI s) : kx_V E i_P_takeOne 4 0 0 (fun r _ h' => r = Sum.inl (some (.int (if (f_takeAt a p sz q).1 then 1 else 0))) ∧ h' = wd (wx (f_takeAt a p sz q).2 b)) 0 0 0 (lv_args 0 [.ref (12 + 5 * p), .ref 1]) [] n (wd (wx a b)) := by
  refine kx_aload_n (pc := 0) d_P_takeOne_0 rfl ?_
  refine ka_geti (pc := 1) d_P_takeOne_1 fl_P_35 (by omega) (wk_p0 hp) (by decide) (wf_p4 hp) ?_
  refine kx_eqi hpos ?_
  refine kx_aload_n (pc := 4) d_P_takeOne_4 rfl ?_
  refine ka_geti (pc := 5) d_P_takeOne_5 fl_P_38 (by decide) rfl (by decide) rfl ?_
  refine kx_eqi h1 ?_
  refine kx_icmp_lt (pc := 8) (tgt := 13) d_P_takeOne_8 (by decide) (fun hlt => ?_) (fun hge => ?_)
  · have hlt2 : q < sz := by
      rcases Nat.lt_or_ge q sz with w | w
      · exact w
      · exact absurd hlt (nI_nlt w (by omega))
    obtain ⟨⟨t, ht, ek⟩, ⟨s, hs, es⟩⟩ := hI q hlt2
    have nk : nt (a.1 4 q) = t := by rw [ek]; exact nt_nI (by omega)
    have hc16 : f_cell a p q < 16 := f_cell_lt hs es
    have q5 : q < 500 := by omega
    have et : f_takeAt a p sz q = if a.1 (12 + 5 * p + 1) t = 6 then (if (f_count a p q (f_cell a p q) sz).1 then (true, uo (f_count a p q (f_cell a p q) sz).2 (12 + 5 * p) 4 (nI (q + 1))) else (false, (f_count a p q (f_cell a p q) sz).2)) else (true, uo (ul a (12 + 5 * p + 3) (f_cell a p q) (f_fold (a.1 (12 + 5 * p + 1) t) (a.2.1 (12 + 5 * p + 3) (f_cell a p q)) (a.2.1 5 q))) (12 + 5 * p) 4 (nI (q + 1))) := by
      unfold f_takeAt
      rw [if_neg (by omega), nk]
    refine kx_aload_n (pc := 13) d_P_takeOne_13 rfl ?_
    refine kw_getr (pc := 14) d_P_takeOne_14 fl_P_15 (wk_p0 hp) (by decide) (wf_p1 hp) ?_
    refine kx_aload_n (pc := 17) d_P_takeOne_17 rfl ?_
    refine kw_getr (pc := 18) (r := 4) d_P_takeOne_18 fl_P_43 rfl (by decide) rfl ?_
    refine kx_aload_n (pc := 21) d_P_takeOne_21 rfl ?_
    refine ka_geti (pc := 22) d_P_takeOne_22 fl_P_35 (by omega) (wk_p0 hp) (by decide) (wf_p4 hp) ?_
    refine kx_eqi hpos ?_
    refine ka_iald (pc := 25) d_P_takeOne_25 (by decide) rfl ⟨rfl, q5, by decide⟩ ?_
    refine kx_eqi ek ?_
    refine ka_iald (pc := 26) d_P_takeOne_26 (by omega) (wk_p1 hp) ⟨rfl, ht, by decide⟩ ?_
    refine kx_istore_n (pc := 27) (lv' := [(2, _), (0, _), (1, _)]) d_P_takeOne_27 rfl (by decide) rfl ?_
    refine kx_aload_n (pc := 28) d_P_takeOne_28 rfl ?_
    refine kx_aload_n (pc := 29) d_P_takeOne_29 rfl ?_
    refine kx_invV (pc := 30) (as := [.ref _]) (st := []) (k := 0) (j := 0) d_P_takeOne_30 wv_P_46 (wd_o (wk_p0 hp)) (k_targetCell (a := a) (b := b) hp q5 hpos ht ek hs es) rfl rfl (Nat.le_of_ble_eq_true rfl) (by decide) (Nat.le_of_ble_eq_true rfl) (fun rv n' h' hq => ?_) (fun X n' h' hq => nomatch hq.2)
    obtain ⟨rfl, hq⟩ := hq
    cases hq
    refine kx_istore_n (pc := 33) (lv' := [(3, _), (2, _), (0, _), (1, _)]) d_P_takeOne_33 rfl (by decide) rfl ?_
    refine kx_iload_n (pc := 34) d_P_takeOne_34 rfl ?_
    refine kx_bipush (pc := 35) (x := 6) d_P_takeOne_35 (by decide) ?_
    refine kx_icmp_ne (pc := 37) (tgt := 51) d_P_takeOne_37 (by decide) (fun hx => ?_) (fun hx => ?_)
    · refine kx_aload_n (pc := 51) d_P_takeOne_51 rfl ?_
      refine kw_getr (pc := 52) d_P_takeOne_52 fl_P_22 (wk_p0 hp) (by decide) (wf_p3 hp) ?_
      refine kx_iload_n (pc := 55) d_P_takeOne_55 rfl ?_
      refine kx_iload_n (pc := 56) d_P_takeOne_56 rfl ?_
      refine kx_aload_n (pc := 57) d_P_takeOne_57 rfl ?_
      refine kw_getr (pc := 58) d_P_takeOne_58 fl_P_22 (wk_p0 hp) (by decide) (wf_p3 hp) ?_
      refine kx_iload_n (pc := 61) d_P_takeOne_61 rfl ?_
      refine ka_lald (pc := 62) d_P_takeOne_62 (by omega) (wk_p3 hp) ⟨rfl, hc16, by decide⟩ ?_
      refine kx_aload_n (pc := 63) d_P_takeOne_63 rfl ?_
      refine kw_getr (pc := 64) (r := 5) d_P_takeOne_64 fl_P_54 rfl (by decide) rfl ?_
      refine kx_aload_n (pc := 67) d_P_takeOne_67 rfl ?_
      refine ka_geti (pc := 68) d_P_takeOne_68 fl_P_35 (by omega) (wk_p0 hp) (by decide) (wf_p4 hp) ?_
      refine kx_eqi hpos ?_
      refine ka_lald (pc := 71) d_P_takeOne_71 (by decide) rfl ⟨rfl, q5, by decide⟩ ?_
      refine kx_invS (pc := 72) (as := [.int _, .long _, .long _]) (st := _) (k := 0) (j := 0) d_P_takeOne_72 ws_P_57 k_folded rfl rfl (Nat.le_of_ble_eq_true rfl) (by decide) (Nat.le_of_ble_eq_true rfl) (fun rv n' h' hq => ?_) (fun X n' h' hq => nomatch hq.2)
      obtain ⟨rfl, hq⟩ := hq
      cases hq
      refine ka_last (pc := 75) d_P_takeOne_75 (by omega) (wk_p3 hp) ⟨rfl, hc16, by decide⟩ ?_
      refine kx_aload_n (pc := 76) d_P_takeOne_76 rfl ?_
      refine kx_dup (pc := 77) d_P_takeOne_77 rfl ?_
      refine ka_geti (pc := 78) d_P_takeOne_78 fl_P_35 (by omega) (wk_p0 hp) (by decide) (wf_p4 hp) ?_
      refine kx_eqi hpos ?_
      refine kx_iconst (pc := 81) (x := 1) d_P_takeOne_81 (by decide) ?_
      refine kx_iadd (pc := 82) d_P_takeOne_82 ?_
      refine kx_eqi (nI_1 q) ?_
      refine ka_puti (pc := 83) d_P_takeOne_83 fl_P_35 fw_P_4 (by omega) (wk_p0 hp) (by decide) (wf_p4 hp) ?_
      refine kx_iconst (pc := 86) (x := 1) d_P_takeOne_86 (by decide) ?_
      exact kx_zret rfl rfl d_P_takeOne_87 ⟨by rw [et, if_neg hx]; rfl, by rw [et, if_neg hx]⟩
    · refine kx_aload_n (pc := 40) d_P_takeOne_40 rfl ?_
      refine kx_aload_n (pc := 41) d_P_takeOne_41 rfl ?_
      refine kx_iload_n (pc := 42) d_P_takeOne_42 rfl ?_
      refine kx_invV (pc := 43) (as := [.ref _, .int _]) (st := []) (k := 0) (j := 0) d_P_takeOne_43 wv_P_50 (wd_o (wk_p0 hp)) (k_countAndEmit (a := a) (b := b) (k := f_cell a p q) hp q5 hc16 h1 h5 hnum hpos) rfl rfl (Nat.le_of_ble_eq_true rfl) (by decide) (Nat.le_of_ble_eq_true rfl) (fun rv n' h' hq => ?_) (fun X n' h' hq => nomatch hq.1)
      obtain ⟨hq, rfl⟩ := hq
      cases hq
      refine kx_if_ne (pc := 46) (tgt := 76) d_P_takeOne_46 (by decide) (fun hz => ?_) (fun hz => ?_)
      · have hct : (f_count a p q (f_cell a p q) sz).1 = true := by
          cases hw : (f_count a p q (f_cell a p q) sz).1
          · rw [hw] at hz
            exact absurd rfl hz
          · rfl
        refine kx_aload_n (pc := 76) d_P_takeOne_76 rfl ?_
        refine kx_dup (pc := 77) d_P_takeOne_77 rfl ?_
        refine ka_geti (pc := 78) d_P_takeOne_78 fl_P_35 (by omega) (wk_p0 hp) (by decide) (wf_p4 hp) ?_
        refine kx_eqi ((f_count_o a p q (f_cell a p q) sz p 4).trans hpos) ?_
        refine kx_iconst (pc := 81) (x := 1) d_P_takeOne_81 (by decide) ?_
        refine kx_iadd (pc := 82) d_P_takeOne_82 ?_
        refine kx_eqi (nI_1 q) ?_
        refine ka_puti (pc := 83) d_P_takeOne_83 fl_P_35 fw_P_4 (by omega) (wk_p0 hp) (by decide) (wf_p4 hp) ?_
        refine kx_iconst (pc := 86) (x := 1) d_P_takeOne_86 (by decide) ?_
        exact kx_zret rfl rfl d_P_takeOne_87 ⟨by rw [et, if_pos hx, if_pos hct]; rfl, by rw [et, if_pos hx, if_pos hct]⟩
      · have hcf : ¬ ((f_count a p q (f_cell a p q) sz).1 = true) := by
          intro hw
          rw [hw] at hz
          exact absurd hz (by decide)
        refine kx_iconst (pc := 49) (x := 0) d_P_takeOne_49 (by decide) ?_
        exact kx_zret rfl rfl d_P_takeOne_50 ⟨by rw [et, if_pos hx, if_neg hcf]; rfl, by rw [et, if_pos hx, if_neg hcf]⟩
  · have hge2 : sz ≤ q := by
      rcases Nat.lt_or_ge q sz with w | w
      · exact absurd (nI_lt w (by omega)) hge
      · exact w
    have et : f_takeAt a p sz q = (false, a) := if_pos hge2
    refine kx_iconst (pc := 11) (x := 0) d_P_takeOne_11 (by decide) ?_
    exact kx_zret rfl rfl d_P_takeOne_12 ⟨by rw [et]; rfl, by rw [et]⟩
set_option maxHeartbeats 4000000 in
set_option maxRecDepth 100000 in
theorem k_keep {E : kx_E} {n : Nat} {a b : kW} {p : Nat} {x : Int32} (hp : p < 8) : kx_V E i_P_keep 3 0 0 (fun r _ h' => r = Sum.inl (some (.int (a.2.2 (12 + 5 * p) 4))) ∧ h' = wd (wx (f_keep a p x) b)) 0 0 0 (lv_args 0 [.ref (12 + 5 * p), .int x]) [] n (wd (wx a b)) := by
  refine kx_aload_n (pc := 0) d_P_keep_0 rfl ?_
  refine kw_getr (pc := 1) d_P_keep_1 fl_P_22 (wk_p0 hp) (by decide) (wf_p3 hp) ?_
  refine kx_iconst (pc := 4) (x := 0) d_P_keep_4 (by decide) ?_
  refine kx_aload_n (pc := 5) d_P_keep_5 rfl ?_
  refine kw_getr (pc := 6) d_P_keep_6 fl_P_26 (wk_p0 hp) (by decide) (wf_p5 hp) ?_
  refine kx_iconst (pc := 9) (x := 0) d_P_keep_9 (by decide) ?_
  refine kx_bipush (pc := 10) (x := 16) d_P_keep_10 (by decide) ?_
  refine kx_eqi (show (16 : Int32) = nI 16 from rfl) ?_
  refine ka_copy (pc := 12) d_P_keep_12 (kx_t 174 (by decide +kernel) rfl) (kx_t 176 (by decide +kernel) rfl) (kx_t 175 (by decide +kernel) rfl) (kx_t 13 (by decide +kernel) rfl) (by omega) (by omega) (wk_p3 hp) (wk_p4 hp) (by decide) (by decide) (Nat.le_of_ble_eq_true rfl) ?_
  refine kx_aload_n (pc := 15) d_P_keep_15 rfl ?_
  refine kx_aload_n (pc := 16) d_P_keep_16 rfl ?_
  refine ka_geti (pc := 17) d_P_keep_17 fl_P_35 (by omega) (wk_p0 hp) (by decide) (wf_p4 hp) ?_
  refine ka_puti (pc := 20) d_P_keep_20 fl_P_93 fw_P_6 (by omega) (wk_p0 hp) (by decide) (wf_p6 hp) ?_
  refine kx_aload_n (pc := 23) d_P_keep_23 rfl ?_
  refine kx_iload_n (pc := 24) d_P_keep_24 rfl ?_
  refine ka_puti (pc := 25) d_P_keep_25 fl_P_29 fw_P_7 (by omega) (wk_p0 hp) (by decide) (wf_p7 hp) ?_
  refine kx_aload_n (pc := 28) d_P_keep_28 rfl ?_
  refine ka_geti (pc := 29) d_P_keep_29 fl_P_35 (by omega) (wk_p0 hp) (by decide) (wf_p4 hp) ?_
  refine kx_eqi (show _ = a.2.2 (12 + 5 * p) 4 by rw [uo_k (by decide), uo_k (by decide)]; rfl) ?_
  exact kx_iret rfl d_P_keep_32 ⟨rfl, rfl⟩
set_option maxHeartbeats 4000000 in
set_option maxRecDepth 100000 in
theorem k_precover {E : kx_E} {n : Nat} {a b : kW} {p : Nat} {x : Int32} (hp : p < 8) : kx_V E i_P_recover 3 0 0 (fun r _ h' => h' = wd (wx (f_recover a p x) b) ∧ r = Sum.inl none) 0 0 0 (lv_args 0 [.ref (12 + 5 * p), .int x]) [] n (wd (wx a b)) := by
  have over : (a.2.2 (12 + 5 * p) 7 = -1 ∨ x < a.2.2 (12 + 5 * p) 7) → kx_V E i_P_recover 3 0 0 (fun r _ h' => h' = wd (wx (f_recover a p x) b) ∧ r = Sum.inl none) 0 0 16 [(0, .ref (12 + 5 * p)), (1, .int x)] [] n (wd (wx a b)) := by
    intro hc
    have e0 : f_recover a p x = f_over a p := if_pos hc
    refine kx_aload_n (pc := 16) d_P_recover_16 rfl ?_
    refine kx_invV (pc := 17) (as := []) (st := []) (k := 0) (j := 0) d_P_recover_17 wv_P_32 (wd_o (wk_p0 hp)) (k_startOver hp) rfl rfl (Nat.le_of_ble_eq_true rfl) (by decide) (Nat.le_of_ble_eq_true rfl) (fun rv n' h' hq => ?_) (fun X n' h' hq => nomatch hq.2)
    obtain ⟨rfl, hq⟩ := hq
    cases hq
    refine kx_goto (pc := 20) (tgt := 46) d_P_recover_20 (by decide) ?_
    exact kx_vret rfl d_P_recover_46 ⟨by rw [e0], rfl⟩
  refine kx_aload_n (pc := 0) d_P_recover_0 rfl ?_
  refine ka_geti (pc := 1) d_P_recover_1 fl_P_29 (by omega) (wk_p0 hp) (by decide) (wf_p7 hp) ?_
  refine kx_iconst (pc := 4) (x := -1) d_P_recover_4 (by decide) ?_
  refine kx_icmp_eq (pc := 5) (tgt := 16) d_P_recover_5 (by decide) (fun hz => ?_) (fun hz => ?_)
  · exact over (Or.inl hz)
  · refine kx_aload_n (pc := 8) d_P_recover_8 rfl ?_
    refine ka_geti (pc := 9) d_P_recover_9 fl_P_29 (by omega) (wk_p0 hp) (by decide) (wf_p7 hp) ?_
    refine kx_iload_n (pc := 12) d_P_recover_12 rfl ?_
    refine kx_icmp_le (pc := 13) (tgt := 23) d_P_recover_13 (by decide) (fun hy => ?_) (fun hy => ?_)
    · have e0 : f_recover a p x = uo (uL a (12 + 5 * p + 3) (va_cpy (a.2.1 (12 + 5 * p + 4)) (a.2.1 (12 + 5 * p + 3)) 0 0 16)) (12 + 5 * p) 4 (a.2.2 (12 + 5 * p) 6) := if_neg (fun w => w.elim hz (fun w2 => Int32.not_lt.mpr hy w2))
      refine kx_aload_n (pc := 23) d_P_recover_23 rfl ?_
      refine kw_getr (pc := 24) d_P_recover_24 fl_P_26 (wk_p0 hp) (by decide) (wf_p5 hp) ?_
      refine kx_iconst (pc := 27) (x := 0) d_P_recover_27 (by decide) ?_
      refine kx_aload_n (pc := 28) d_P_recover_28 rfl ?_
      refine kw_getr (pc := 29) d_P_recover_29 fl_P_22 (wk_p0 hp) (by decide) (wf_p3 hp) ?_
      refine kx_iconst (pc := 32) (x := 0) d_P_recover_32 (by decide) ?_
      refine kx_bipush (pc := 33) (x := 16) d_P_recover_33 (by decide) ?_
      refine kx_eqi (show (16 : Int32) = nI 16 from rfl) ?_
      refine ka_copy (pc := 35) d_P_recover_35 (kx_t 174 (by decide +kernel) rfl) (kx_t 176 (by decide +kernel) rfl) (kx_t 175 (by decide +kernel) rfl) (kx_t 13 (by decide +kernel) rfl) (by omega) (by omega) (wk_p4 hp) (wk_p3 hp) (by decide) (by decide) (Nat.le_of_ble_eq_true rfl) ?_
      refine kx_aload_n (pc := 38) d_P_recover_38 rfl ?_
      refine kx_aload_n (pc := 39) d_P_recover_39 rfl ?_
      refine ka_geti (pc := 40) d_P_recover_40 fl_P_93 (by omega) (wk_p0 hp) (by decide) (wf_p6 hp) ?_
      refine ka_puti (pc := 43) d_P_recover_43 fl_P_35 fw_P_4 (by omega) (wk_p0 hp) (by decide) (wf_p4 hp) ?_
      exact kx_vret rfl d_P_recover_46 ⟨by rw [e0]; rfl, rfl⟩
    · exact over (Or.inr (Int32.not_le.mp hy))
end
section
set_option maxHeartbeats 4000000 in
set_option maxRecDepth 100000 in
theorem k_setFilter {E : kx_E} {n : Nat} {a b : kW} {u : Nat} {x y : Int32} (hu : u < 8) : kx_V E i_S_setFilter 1 0 0 (fun r _ h' => h' = wd (wx (f_filter a u x y) b) ∧ r = Sum.inl none) 0 0 0 (lv_args 0 [.ref (53 + u), .int x, .int y]) [] n (wd (wx a b)) := by
  refine kx_aload_n (pc := 0) d_S_setFilter_0 rfl ?_
  refine kx_iload_n (pc := 1) d_S_setFilter_1 rfl ?_
  refine ka_puti (pc := 2) d_S_setFilter_2 fl_S_9 fw_S_0 (by omega) (wk_s hu) (by decide) (wf_s hu (by decide)) ?_
  refine kx_aload_n (pc := 5) d_S_setFilter_5 rfl ?_
  refine kx_iload_n (pc := 6) d_S_setFilter_6 rfl ?_
  refine ka_puti (pc := 7) d_S_setFilter_7 fl_S_15 fw_S_1 (by omega) (wk_s hu) (by decide) (wf_s hu (by decide)) ?_
  refine kx_aload_n (pc := 10) d_S_setFilter_10 rfl ?_
  refine kx_iconst (pc := 11) (x := 0) d_S_setFilter_11 (by decide) ?_
  refine ka_puti (pc := 12) d_S_setFilter_12 fl_S_18 fw_S_2 (by omega) (wk_s hu) (by decide) (wf_s hu (by decide)) ?_
  refine kx_aload_n (pc := 15) d_S_setFilter_15 rfl ?_
  refine kx_iconst (pc := 16) (x := 0) d_S_setFilter_16 (by decide) ?_
  refine ka_puti (pc := 17) d_S_setFilter_17 fl_S_21 fw_S_3 (by omega) (wk_s hu) (by decide) (wf_s hu (by decide)) ?_
  exact kx_vret rfl d_S_setFilter_20 ⟨rfl, rfl⟩
set_option maxHeartbeats 4000000 in
set_option maxRecDepth 100000 in
theorem k_passBehind {E : kx_E} {n : Nat} {a b : kW} {u : Nat} {x : Int32} (hu : u < 8) : kx_V E i_S_passBehind 1 0 0 (fun r _ h' => h' = wd (wx (f_pass a u x) b) ∧ r = Sum.inl (some (.int (if a.2.2 (53 + u) 2 < x + 1 then x + 1 else a.2.2 (53 + u) 2)))) 0 0 0 (lv_args 0 [.ref (53 + u), .int x]) [] n (wd (wx a b)) := by
  refine kx_aload_n (pc := 0) d_S_passBehind_0 rfl ?_
  refine kx_aload_n (pc := 1) d_S_passBehind_1 rfl ?_
  refine ka_geti (pc := 2) d_S_passBehind_2 fl_S_18 (by omega) (wk_s hu) (by decide) (wf_s hu (by decide)) ?_
  refine kx_iload_n (pc := 5) d_S_passBehind_5 rfl ?_
  refine kx_iconst (pc := 6) (x := 1) d_S_passBehind_6 (by decide) ?_
  refine kx_iadd (pc := 7) d_S_passBehind_7 ?_
  refine kx_max (pc := 8) d_S_passBehind_8 (kx_t 429 (by decide +kernel) rfl) (kx_t 430 (by decide +kernel) rfl) (kx_t 12 (by decide +kernel) rfl) (kx_t 431 (by decide +kernel) rfl) (by decide) (Nat.le_of_ble_eq_true rfl) ?_
  refine ka_puti (pc := 11) d_S_passBehind_11 fl_S_18 fw_S_2 (by omega) (wk_s hu) (by decide) (wf_s hu (by decide)) ?_
  refine kx_aload_n (pc := 14) d_S_passBehind_14 rfl ?_
  refine ka_geti (pc := 15) d_S_passBehind_15 fl_S_18 (by omega) (wk_s hu) (by decide) (wf_s hu (by decide)) ?_
  refine kx_eqi uo_s ?_
  exact kx_iret rfl d_S_passBehind_18 ⟨rfl, rfl⟩
set_option maxHeartbeats 4000000 in
set_option maxRecDepth 100000 in
theorem k_makeSafe {E : kx_E} {n : Nat} {a b : kW} {u : Nat} (hu : u < 8) : kx_V E i_S_makeSafe 1 0 0 (fun r _ h' => h' = wd (wx (f_safe a u) b) ∧ r = Sum.inl none) 0 0 0 (lv_args 0 [.ref (53 + u)]) [] n (wd (wx a b)) := by
  refine kx_aload_n (pc := 0) d_S_makeSafe_0 rfl ?_
  refine kx_aload_n (pc := 1) d_S_makeSafe_1 rfl ?_
  refine ka_geti (pc := 2) d_S_makeSafe_2 fl_S_18 (by omega) (wk_s hu) (by decide) (wf_s hu (by decide)) ?_
  refine ka_puti (pc := 5) d_S_makeSafe_5 fl_S_21 fw_S_3 (by omega) (wk_s hu) (by decide) (wf_s hu (by decide)) ?_
  exact kx_vret rfl d_S_makeSafe_8 ⟨rfl, rfl⟩
set_option maxHeartbeats 4000000 in
set_option maxRecDepth 100000 in
theorem k_srecover {E : kx_E} {n : Nat} {a b : kW} {u : Nat} {x : Int32} (hu : u < 8) : kx_V E i_S_recover 1 0 0 (fun r _ h' => h' = wd (wx (f_srec a u x) b) ∧ r = Sum.inl none) 0 0 0 (lv_args 0 [.ref (53 + u), .int x]) [] n (wd (wx a b)) := by
  refine kx_aload_n (pc := 0) d_S_recover_0 rfl ?_
  refine kx_aload_n (pc := 1) d_S_recover_1 rfl ?_
  refine ka_geti (pc := 2) d_S_recover_2 fl_S_21 (by omega) (wk_s hu) (by decide) (wf_s hu (by decide)) ?_
  refine kx_iload_n (pc := 5) d_S_recover_5 rfl ?_
  refine kx_min (pc := 6) d_S_recover_6 (kx_t 181 (by decide +kernel) rfl) (kx_t 182 (by decide +kernel) rfl) (kx_t 12 (by decide +kernel) rfl) (kx_t 183 (by decide +kernel) rfl) (by decide) (Nat.le_of_ble_eq_true rfl) ?_
  refine ka_puti (pc := 9) d_S_recover_9 fl_S_18 fw_S_2 (by omega) (wk_s hu) (by decide) (wf_s hu (by decide)) ?_
  exact kx_vret rfl d_S_recover_12 ⟨rfl, rfl⟩
set_option maxHeartbeats 4000000 in
set_option maxRecDepth 100000 in
theorem k_letsThrough {E : kx_E} {n : Nat} {a b : kW} {u : Nat} {x y : Int32} (hu : u < 8) : kx_V E i_S_letsThrough 1 0 0 (fun r _ h' => h' = wd (wx a b) ∧ ∃ z : Int32, r = Sum.inl (some (.int z)) ∧ (z = 1 ∨ z = 0) ∧ (z = 0 ↔ ¬ f_lets a u x y)) 0 0 0 (lv_args 0 [.ref (53 + u), .int x, .int y]) [] n (wd (wx a b)) := by
  have no : ¬ f_lets a u x y → ∀ w : Int32, kx_V E i_S_letsThrough 1 0 0 (fun r _ h' => h' = wd (wx a b) ∧ ∃ z : Int32, r = Sum.inl (some (.int z)) ∧ (z = 1 ∨ z = 0) ∧ (z = 0 ↔ ¬ f_lets a u x y)) 0 0 41 [(3, .int w), (0, .ref (53 + u)), (1, .int x), (2, .int y)] [] n (wd (wx a b)) := by
    intro hn w
    refine kx_iconst (pc := 41) (x := 0) d_S_letsThrough_41 (by decide) ?_
    exact kx_zret rfl rfl d_S_letsThrough_42 ⟨rfl, 0, rfl, Or.inr rfl, ⟨fun _ => hn, fun _ => rfl⟩⟩
  have yes : (a.2.2 (53 + u) 0 = -1 ∨ a.2.2 (53 + u) 0 = x) → kx_V E i_S_letsThrough 1 0 0 (fun r _ h' => h' = wd (wx a b) ∧ ∃ z : Int32, r = Sum.inl (some (.int z)) ∧ (z = 1 ∨ z = 0) ∧ (z = 0 ↔ ¬ f_lets a u x y)) 0 0 16 [(0, .ref (53 + u)), (1, .int x), (2, .int y)] [] n (wd (wx a b)) := by
    intro hr
    refine kx_iconst (pc := 16) (x := 1) d_S_letsThrough_16 (by decide) ?_
    refine kx_goto (pc := 17) (tgt := 21) d_S_letsThrough_17 (by decide) ?_
    refine kx_istore_n (pc := 21) (lv' := [(3, _), (0, _), (1, _), (2, _)]) d_S_letsThrough_21 rfl (by decide) rfl ?_
    refine kx_iload_n (pc := 22) d_S_letsThrough_22 rfl ?_
    refine kx_if_eq (pc := 23) (tgt := 41) d_S_letsThrough_23 (by decide) (fun hz => absurd hz (by decide)) (fun _ => ?_)
    refine kx_aload_n (pc := 26) d_S_letsThrough_26 rfl ?_
    refine ka_geti (pc := 27) d_S_letsThrough_27 fl_S_15 (by omega) (wk_s hu) (by decide) (wf_s hu (by decide)) ?_
    refine kx_iconst (pc := 30) (x := 1) d_S_letsThrough_30 (by decide) ?_
    refine kx_iload_n (pc := 31) d_S_letsThrough_31 rfl ?_
    refine kx_ishl (pc := 32) d_S_letsThrough_32 ?_
    refine kx_iand (pc := 33) d_S_letsThrough_33 ?_
    refine kx_if_eq (pc := 34) (tgt := 41) d_S_letsThrough_34 (by decide) (fun hz => ?_) (fun hz => ?_)
    · exact no (fun w => w.2 hz) _
    · refine kx_iconst (pc := 37) (x := 1) d_S_letsThrough_37 (by decide) ?_
      refine kx_goto (pc := 38) (tgt := 42) d_S_letsThrough_38 (by decide) ?_
      exact kx_zret rfl rfl d_S_letsThrough_42 ⟨rfl, 1, rfl, Or.inl rfl, ⟨fun w => absurd w (by decide), fun w => absurd ⟨hr, hz⟩ w⟩⟩
  refine kx_aload_n (pc := 0) d_S_letsThrough_0 rfl ?_
  refine ka_geti (pc := 1) d_S_letsThrough_1 fl_S_9 (by omega) (wk_s hu) (by decide) (wf_s hu (by decide)) ?_
  refine kx_iconst (pc := 4) (x := -1) d_S_letsThrough_4 (by decide) ?_
  refine kx_icmp_eq (pc := 5) (tgt := 16) d_S_letsThrough_5 (by decide) (fun hz => ?_) (fun hz => ?_)
  · exact yes (Or.inl hz)
  · refine kx_aload_n (pc := 8) d_S_letsThrough_8 rfl ?_
    refine ka_geti (pc := 9) d_S_letsThrough_9 fl_S_9 (by omega) (wk_s hu) (by decide) (wf_s hu (by decide)) ?_
    refine kx_iload_n (pc := 12) d_S_letsThrough_12 rfl ?_
    refine kx_icmp_ne (pc := 13) (tgt := 20) d_S_letsThrough_13 (by decide) (fun hy => ?_) (fun hy => ?_)
    · refine kx_iconst (pc := 20) (x := 0) d_S_letsThrough_20 (by decide) ?_
      refine kx_istore_n (pc := 21) (lv' := [(3, _), (0, _), (1, _), (2, _)]) d_S_letsThrough_21 rfl (by decide) rfl ?_
      refine kx_iload_n (pc := 22) d_S_letsThrough_22 rfl ?_
      refine kx_if_eq (pc := 23) (tgt := 41) d_S_letsThrough_23 (by decide) (fun _ => ?_) (fun hz => absurd rfl hz)
      exact no (fun w => w.1.elim hz hy) _
    · exact yes (Or.inr hy)
set_option maxHeartbeats 4000000 in
set_option maxRecDepth 100000 in
theorem f_wait_y {a : kW} {u m q : Nat} (h : f_lets a u (a.1 2 q) (a.1 4 q)) : f_wait a u (m + 1) q = nI q := if_pos h
theorem f_wait_n {a : kW} {u m q : Nat} (h : ¬ f_lets a u (a.1 2 q) (a.1 4 q)) : f_wait a u (m + 1) q = f_wait a u m (q + 1) := if_neg h
set_option maxHeartbeats 4000000 in
set_option maxRecDepth 100000 in
theorem k_wait_loop {E : kx_E} {a b : kW} {u sz : Nat} (hu : u < 8) (h1 : a.2.2 1 9 = nI sz) (h5 : sz ≤ 500) (m : Nat) : ∀ (q : Nat), q ≤ 500 → m = sz - q → ∀ {Q : kx_Q}, (∀ n, Q (Sum.inl (some (.int (f_wait a u m q)))) n (wd (wx a b))) → ∀ n, kx_V E i_S_firstWaiting 2 0 0 Q 0 0 5 [(2, .int (nI q)), (0, .ref (53 + u)), (1, .ref 1)] [] n (wd (wx a b)) := by
  induction m with
  | zero =>
    intro q hq5 hm Q hQ n
    have hge : sz ≤ q := by omega
    refine kx_iload_n (pc := 5) d_S_firstWaiting_5 rfl ?_
    refine kx_aload_n (pc := 6) d_S_firstWaiting_6 rfl ?_
    refine ka_geti (pc := 7) d_S_firstWaiting_7 fl_S_24 (by decide) rfl (by decide) rfl ?_
    refine kx_eqi h1 ?_
    refine kx_icmp_ge (pc := 10) (tgt := 40) d_S_firstWaiting_10 (by decide) (fun _ => ?_) (fun hz => absurd (nI_le hge (by omega)) hz)
    refine kx_iconst (pc := 40) (x := -1) d_S_firstWaiting_40 (by decide) ?_
    exact kx_iret rfl d_S_firstWaiting_41 (hQ _)
  | succ m ih =>
    intro q hq5 hm Q hQ n
    have hlt : q < sz := by omega
    have q5 : q < 500 := by omega
    refine kx_iload_n (pc := 5) d_S_firstWaiting_5 rfl ?_
    refine kx_aload_n (pc := 6) d_S_firstWaiting_6 rfl ?_
    refine ka_geti (pc := 7) d_S_firstWaiting_7 fl_S_24 (by decide) rfl (by decide) rfl ?_
    refine kx_eqi h1 ?_
    refine kx_icmp_ge (pc := 10) (tgt := 40) d_S_firstWaiting_10 (by decide) (fun hz => absurd hz (nI_ge hlt (by omega))) (fun _ => ?_)
    refine kx_aload_n (pc := 13) d_S_firstWaiting_13 rfl ?_
    refine kx_aload_n (pc := 14) d_S_firstWaiting_14 rfl ?_
    refine kw_getr (pc := 15) (r := 2) d_S_firstWaiting_15 fl_S_29 rfl (by decide) rfl ?_
    refine kx_iload_n (pc := 18) d_S_firstWaiting_18 rfl ?_
    refine ka_iald (pc := 19) d_S_firstWaiting_19 (by decide) rfl ⟨rfl, q5, by decide⟩ ?_
    refine kx_aload_n (pc := 20) d_S_firstWaiting_20 rfl ?_
    refine kw_getr (pc := 21) (r := 4) d_S_firstWaiting_21 fl_S_33 rfl (by decide) rfl ?_
    refine kx_iload_n (pc := 24) d_S_firstWaiting_24 rfl ?_
    refine ka_iald (pc := 25) d_S_firstWaiting_25 (by decide) rfl ⟨rfl, q5, by decide⟩ ?_
    refine kx_invV (pc := 26) (as := [.int _, .int _]) (st := []) (k := 0) (j := 0) d_S_firstWaiting_26 wv_S_36 (wd_o (wk_s hu)) (k_letsThrough (a := a) (b := b) hu) rfl rfl (Nat.le_of_ble_eq_true rfl) (by decide) (Nat.le_of_ble_eq_true rfl) (fun rv n' h' hq => ?_) (fun X n' h' hq => by obtain ⟨-, z, hz, -⟩ := hq; nomatch hz)
    obtain ⟨rfl, z, hz, hz2, hz3⟩ := hq
    cases hz
    refine kx_if_eq (pc := 29) (tgt := 34) d_S_firstWaiting_29 (by decide) (fun hw => ?_) (fun hw => ?_)
    · have hn := hz3.mp hw
      refine kx_iinc (pc := 34) (y := nI (q + 1)) (lv' := [(2, _), (0, _), (1, _)]) d_S_firstWaiting_34 rfl (nI_1 q) (by decide) rfl ?_
      refine kx_goto (pc := 37) (tgt := 5) d_S_firstWaiting_37 (by decide) ?_
      exact ih (q + 1) (by omega) (by omega) (fun n => by rw [← f_wait_n hn]; exact hQ n) _
    · have hy : f_lets a u (a.1 2 q) (a.1 4 q) := Classical.byContradiction (fun w => hw (hz3.mpr w))
      refine kx_iload_n (pc := 32) d_S_firstWaiting_32 rfl ?_
      exact kx_iret rfl d_S_firstWaiting_33 (by rw [← f_wait_y (m := m) hy]; exact hQ _)
set_option maxHeartbeats 4000000 in
set_option maxRecDepth 100000 in
theorem k_firstWaiting {E : kx_E} {n : Nat} {a b : kW} {u sz q : Nat} (hu : u < 8) (h1 : a.2.2 1 9 = nI sz) (h5 : sz ≤ 500) (hq5 : q ≤ 500) (hpos : a.2.2 (53 + u) 2 = nI q) : kx_V E i_S_firstWaiting 2 0 0 (fun r _ h' => h' = wd (wx a b) ∧ r = Sum.inl (some (.int (f_wait a u (sz - q) q)))) 0 0 0 (lv_args 0 [.ref (53 + u), .ref 1]) [] n (wd (wx a b)) := by
  refine kx_aload_n (pc := 0) d_S_firstWaiting_0 rfl ?_
  refine ka_geti (pc := 1) d_S_firstWaiting_1 fl_S_18 (by omega) (wk_s hu) (by decide) (wf_s hu (by decide)) ?_
  refine kx_eqi hpos ?_
  refine kx_istore_n (pc := 4) (lv' := [(2, _), (0, _), (1, _)]) d_S_firstWaiting_4 rfl (by decide) rfl ?_
  exact k_wait_loop hu h1 h5 (sz - q) q hq5 rfl (fun _ => ⟨rfl, rfl⟩) _
end
section
theorem ck_y {c : Prop} [Decidable c] {v : Option Value} {X : String} (h : (Sum.inl v : Option Value ⊕ String) = if c then Sum.inl none else Sum.inr X) : c ∧ v = none := by
  by_cases w : c
  · rw [if_pos w] at h
    exact ⟨w, Sum.inl.inj h⟩
  · rw [if_neg w] at h
    cases h
theorem ck_n {c : Prop} [Decidable c] {Y X : String} (h : (Sum.inr Y : Option Value ⊕ String) = if c then Sum.inl none else Sum.inr X) : ¬ c ∧ Y = X := by
  by_cases w : c
  · rw [if_pos w] at h
    cases h
  · rw [if_neg w] at h
    exact ⟨w, Sum.inr.inj h⟩
theorem ca_y {c : Prop} [Decidable c] {v : Option Value} {X : String} (h : (Sum.inl v : Option Value ⊕ String) = if c then Sum.inr X else Sum.inl none) : ¬ c ∧ v = none := by
  by_cases w : c
  · rw [if_pos w] at h
    cases h
  · rw [if_neg w] at h
    exact ⟨w, Sum.inl.inj h⟩
theorem ca_n {c : Prop} [Decidable c] {Y X : String} (h : (Sum.inr Y : Option Value ⊕ String) = if c then Sum.inr X else Sum.inl none) : c ∧ Y = X := by
  by_cases w : c
  · rw [if_pos w] at h
    exact ⟨w, Sum.inr.inj h⟩
  · rw [if_neg w] at h
    cases h
theorem nI_get {x : Int32} {N : Nat} (hN : N < 2 ^ 31) (h : 0 ≤ x ∧ x < nI N) : ∃ j : Nat, j < N ∧ x = nI j ∧ nt x = j := by
  obtain ⟨j, hj, rfl⟩ := nI_of (Int32.not_lt.mpr h.1)
  have hlt : j < N := by
    rcases Nat.lt_or_ge j N with w | w
    · exact w
    · exact absurd h.2 (nI_nlt w hj)
  exact ⟨j, hlt, rfl, nt_nI hj⟩
def s_append (a : kW) (sz : Nat) (x1 x2 x3 : Int32) (v : Int64) : (Option Value ⊕ String) × kW :=
  if 0 ≤ x1 ∧ x1 < 16 then
    if x2 < -1 then (Sum.inr "java/lang/IllegalArgumentException", a)
    else if 0 ≤ x3 ∧ x3 < 8 then
      if ¬ (x2 = -1) ∧ ¬ (x2 = a.1 9 (nt x1)) then (Sum.inr "java/lang/IllegalStateException", a)
      else if 500 ≤ sz then (Sum.inr "java/lang/IndexOutOfBoundsException", a) else (Sum.inl (some (.int (nI sz))), f_put a sz (nt x1) x3 v)
    else (Sum.inr "java/lang/IllegalArgumentException", a)
  else (Sum.inr "java/lang/IllegalArgumentException", a)
set_option maxHeartbeats 4000000 in
set_option maxRecDepth 100000 in
theorem k_append {E : kx_E} {n : Nat} {a b : kW} {sz : Nat} {x1 x2 x3 : Int32} {v : Int64} (h1 : a.2.2 1 9 = nI sz) (h5 : sz ≤ 500) : kx_V E i_EK_append 8 5 30 (fun r _ h' => r = (s_append a sz x1 x2 x3 v).1 ∧ h' = wd (wx (s_append a sz x1 x2 x3 v).2 b)) 5 30 0 (lv_args 0 [.ref 0, .int x1, .int x2, .int x3, .long v]) [] n (wd (wx a b)) := by
  by_cases g : 0 ≤ x1 ∧ x1 < 16
  rotate_left
  · refine kx_iload_n (pc := 0) d_EK_append_0 rfl ?_
    refine kx_invS (pc := 1) (as := [.int _]) (st := []) (k := 4) (j := 24) d_EK_append_1 ws_EK_32 (k_checkStream x1) rfl rfl (Nat.le_of_ble_eq_true rfl) (by decide) (Nat.le_of_ble_eq_true rfl) (fun rv n' h' hq => absurd (ck_y hq.2).1 g) (fun X n' h' hq => ?_)
    obtain ⟨rfl, hq⟩ := hq
    obtain ⟨-, rfl⟩ := ck_n hq
    exact kx_X.out (fun _ hx => nomatch hx) ⟨by unfold s_append; rw [if_neg g], by unfold s_append; rw [if_neg g]⟩
  obtain ⟨s, hs, rfl, ns⟩ := nI_get (N := 16) (by decide) g
  have hx1 := g
  refine kx_iload_n (pc := 0) d_EK_append_0 rfl ?_
  refine kx_invS (pc := 1) (as := [.int _]) (st := []) (k := 4) (j := 24) d_EK_append_1 ws_EK_32 (k_checkStream (nI s)) rfl rfl (Nat.le_of_ble_eq_true rfl) (by decide) (Nat.le_of_ble_eq_true rfl) (fun rv n' h' hq => ?_) (fun X n' h' hq => ?_)
  rotate_left
  · obtain ⟨rfl, hq⟩ := hq
    obtain ⟨hbad, rfl⟩ := ck_n hq
    exact kx_X.out (fun _ hx => nomatch hx) ⟨by unfold s_append; rw [if_neg hbad], by unfold s_append; rw [if_neg hbad]⟩
  obtain ⟨rfl, hq⟩ := hq
  obtain ⟨hg, rfl⟩ := ck_y hq
  refine kx_iload_n (pc := 4) d_EK_append_4 rfl ?_
  refine kx_iconst (pc := 5) (x := -1) d_EK_append_5 (by decide) ?_
  refine kx_icmp_lt (pc := 6) (tgt := 13) d_EK_append_6 (by decide) (fun hx2 => ?_) (fun hx2 => ?_)
  · refine kx_iconst (pc := 13) (x := 0) d_EK_append_13 (by decide) ?_
    refine kx_invS (pc := 14) (as := [.int _]) (st := []) (k := 3) (j := 18) d_EK_append_14 ws_EK_35 (k_checkArgument 0) rfl rfl (Nat.le_of_ble_eq_true rfl) (by decide) (Nat.le_of_ble_eq_true rfl) (fun rv n' h' hq => absurd rfl (ca_y hq.2).1) (fun X n' h' hq => ?_)
    obtain ⟨rfl, hq⟩ := hq
    obtain ⟨-, rfl⟩ := ca_n hq
    exact kx_X.out (fun _ hx => nomatch hx) ⟨by unfold s_append; rw [if_pos hx1, if_pos hx2], by unfold s_append; rw [if_pos hx1, if_pos hx2]⟩
  · refine kx_iconst (pc := 9) (x := 1) d_EK_append_9 (by decide) ?_
    refine kx_goto (pc := 10) (tgt := 14) d_EK_append_10 (by decide) ?_
    refine kx_invS (pc := 14) (as := [.int _]) (st := []) (k := 3) (j := 18) d_EK_append_14 ws_EK_35 (k_checkArgument 1) rfl rfl (Nat.le_of_ble_eq_true rfl) (by decide) (Nat.le_of_ble_eq_true rfl) (fun rv n' h' hq => ?_) (fun X n' h' hq => absurd (ca_n hq.2).1 (by decide))
    obtain ⟨rfl, hq⟩ := hq
    obtain ⟨-, rfl⟩ := ca_y hq
    refine kx_iload_n (pc := 17) d_EK_append_17 rfl ?_
    refine kx_invS (pc := 18) (as := [.int _]) (st := []) (k := 2) (j := 12) d_EK_append_18 ws_EK_39 (k_checkKind x3) rfl rfl (Nat.le_of_ble_eq_true rfl) (by decide) (Nat.le_of_ble_eq_true rfl) (fun rv n' h' hq => ?_) (fun X n' h' hq => ?_)
    rotate_left
    · obtain ⟨rfl, hq⟩ := hq
      obtain ⟨hbad, rfl⟩ := ck_n hq
      exact kx_X.out (fun _ hx => nomatch hx) ⟨by unfold s_append; rw [if_pos hx1, if_neg hx2, if_neg hbad], by unfold s_append; rw [if_pos hx1, if_neg hx2, if_neg hbad]⟩
    obtain ⟨rfl, hq⟩ := hq
    obtain ⟨hx3, rfl⟩ := ck_y hq
    have tail : ¬ (¬ (x2 = -1) ∧ ¬ (x2 = a.1 9 s)) → ∀ n, kx_V E i_EK_append 8 5 30 (fun r _ h' => r = (s_append a sz (nI s) x2 x3 v).1 ∧ h' = wd (wx (s_append a sz (nI s) x2 x3 v).2 b)) 2 12 49 [(0, .ref 0), (1, .int (nI s)), (2, .int x2), (3, .int x3), (4, .long v)] [] n (wd (wx a b)) := by
      intro h4 n
      refine kx_aload_n (pc := 49) d_EK_append_49 rfl ?_
      refine kw_getr (pc := 50) (r := 1) d_EK_append_50 fl_EK_10 rfl (by decide) rfl ?_
      refine kx_invV (pc := 53) (as := []) (st := []) (k := 2) (j := 12) d_EK_append_53 wv_EK_53 (wd_o rfl) (k_isFull h1 h5) rfl rfl (Nat.le_of_ble_eq_true rfl) (by decide) (Nat.le_of_ble_eq_true rfl) (fun rv n' h' hq => ?_) (fun X n' h' hq => nomatch hq.2)
      obtain ⟨rfl, hq⟩ := hq
      cases hq
      refine kx_if_eq (pc := 56) (tgt := 69) d_EK_append_56 (by decide) (fun hz => ?_) (fun hz => ?_)
      · have hfull : ¬ 500 ≤ sz := fun w => by rw [if_pos w] at hz; exact absurd hz (by decide)
        refine kx_aload_n (pc := 69) d_EK_append_69 rfl ?_
        refine kw_getr (pc := 70) (r := 1) d_EK_append_70 fl_EK_10 rfl (by decide) rfl ?_
        refine kx_iload_n (pc := 73) d_EK_append_73 rfl ?_
        refine kx_iload_n (pc := 74) d_EK_append_74 rfl ?_
        refine kx_lload (pc := 75) d_EK_append_75 rfl ?_
        refine kx_invV (pc := 77) (as := [.int _, .int _, .long _]) (st := []) (k := 2) (j := 12) d_EK_append_77 wv_EK_62 (wd_o rfl) (k_put (a := a) (b := b) h1 (Nat.not_le.mp hfull) hs) rfl rfl (Nat.le_of_ble_eq_true rfl) (by decide) (Nat.le_of_ble_eq_true rfl) (fun rv n' h' hq => ?_) (fun X n' h' hq => nomatch hq.2)
        obtain ⟨rfl, hq⟩ := hq
        cases hq
        exact kx_iret rfl d_EK_append_80 ⟨by unfold s_append; rw [if_pos hx1, if_neg hx2, if_pos hx3, ns, if_neg h4, if_neg hfull], by unfold s_append; rw [if_pos hx1, if_neg hx2, if_pos hx3, ns, if_neg h4, if_neg hfull]⟩
      · have hfull : 500 ≤ sz := by
          by_cases w : 500 ≤ sz
          · exact w
          · rw [if_neg w] at hz
            exact absurd rfl hz
        exact kx_throw (pc := 59) (k := 1) (j := 6) (tx := "the log is full") d_EK_append_59 d_EK_append_62 d_EK_append_63 d_EK_append_65 d_EK_append_68 tx_EK_57_61 (by decide +kernel) (fun _ hx => nomatch hx) (by decide) (Nat.le_of_ble_eq_true rfl) ⟨by unfold s_append; rw [if_pos hx1, if_neg hx2, if_pos hx3, ns, if_neg h4, if_pos hfull], by unfold s_append; rw [if_pos hx1, if_neg hx2, if_pos hx3, ns, if_neg h4, if_pos hfull]⟩
        
    refine kx_iload_n (pc := 21) d_EK_append_21 rfl ?_
    refine kx_iconst (pc := 22) (x := -1) d_EK_append_22 (by decide) ?_
    refine kx_icmp_eq (pc := 23) (tgt := 49) d_EK_append_23 (by decide) (fun hz => ?_) (fun hz => ?_)
    · exact tail (fun w => w.1 hz) _
    · refine kx_iload_n (pc := 26) d_EK_append_26 rfl ?_
      refine kx_aload_n (pc := 27) d_EK_append_27 rfl ?_
      refine kw_getr (pc := 28) (r := 1) d_EK_append_28 fl_EK_10 rfl (by decide) rfl ?_
      refine kw_getr (pc := 31) (r := 9) d_EK_append_31 fl_EK_42 rfl (by decide) rfl ?_
      refine kx_iload_n (pc := 34) d_EK_append_34 rfl ?_
      refine ka_iald (pc := 35) d_EK_append_35 (by decide) rfl ⟨rfl, hs, by decide⟩ ?_
      refine kx_icmp_eq (pc := 36) (tgt := 49) d_EK_append_36 (by decide) (fun hy => ?_) (fun hy => ?_)
      · exact tail (fun w => w.2 hy) _
      · exact kx_throw (pc := 39) (k := 1) (j := 6) (tx := "the stream has another number of events") d_EK_append_39 d_EK_append_42 d_EK_append_43 d_EK_append_45 d_EK_append_48 tx_EK_46_50 (by decide +kernel) (fun _ hx => nomatch hx) (by decide) (Nat.le_of_ble_eq_true rfl) ⟨by unfold s_append; rw [if_pos hx1, if_neg hx2, if_pos hx3, ns, if_pos (And.intro hz hy)], by unfold s_append; rw [if_pos hx1, if_neg hx2, if_pos hx3, ns, if_pos (And.intro hz hy)]⟩
def s_rule (a : kW) (x1 x2 x3 x4 : Int32) : (Option Value ⊕ String) × kW :=
  if 0 ≤ x1 ∧ x1 < 8 then if 0 ≤ x2 ∧ x2 < 8 then if 0 ≤ x3 ∧ x3 ≤ 6 then if 0 ≤ x4 ∧ x4 ≤ 2 then (Sum.inl none, f_rule a (nt x1) (nt x2) x3 x4) else (Sum.inr "java/lang/IllegalArgumentException", a) else (Sum.inr "java/lang/IllegalArgumentException", a) else (Sum.inr "java/lang/IllegalArgumentException", a) else (Sum.inr "java/lang/IllegalArgumentException", a)
set_option maxHeartbeats 4000000 in
set_option maxRecDepth 100000 in
theorem k_rule {E : kx_E} {n : Nat} {a b : kW} {x1 x2 x3 x4 : Int32} : kx_V E i_EK_rule 8 5 30 (fun r _ h' => r = (s_rule a x1 x2 x3 x4).1 ∧ h' = wd (wx (s_rule a x1 x2 x3 x4).2 b)) 5 30 0 (lv_args 0 [.ref 0, .int x1, .int x2, .int x3, .int x4]) [] n (wd (wx a b)) := by
  refine kx_iload_n (pc := 0) d_EK_rule_0 rfl ?_
  refine kx_invS (pc := 1) (as := [.int _]) (st := []) (k := 4) (j := 24) d_EK_rule_1 ws_EK_66 (k_checkProjection x1) rfl rfl (Nat.le_of_ble_eq_true rfl) (by decide) (Nat.le_of_ble_eq_true rfl) (fun rv n' h' hq => ?_) (fun X n' h' hq => ?_)
  rotate_left
  · obtain ⟨rfl, hq⟩ := hq
    obtain ⟨hbad, rfl⟩ := ck_n hq
    exact kx_X.out (fun _ hx => nomatch hx) ⟨by unfold s_rule; rw [if_neg hbad], by unfold s_rule; rw [if_neg hbad]⟩
  obtain ⟨rfl, hq⟩ := hq
  obtain ⟨g1, rfl⟩ := ck_y hq
  obtain ⟨p, hp, rfl, np⟩ := nI_get (N := 8) (by decide) g1
  refine kx_iload_n (pc := 4) d_EK_rule_4 rfl ?_
  refine kx_invS (pc := 5) (as := [.int _]) (st := []) (k := 3) (j := 18) d_EK_rule_5 ws_EK_39 (k_checkKind x2) rfl rfl (Nat.le_of_ble_eq_true rfl) (by decide) (Nat.le_of_ble_eq_true rfl) (fun rv n' h' hq => ?_) (fun X n' h' hq => ?_)
  rotate_left
  · obtain ⟨rfl, hq⟩ := hq
    obtain ⟨hbad, rfl⟩ := ck_n hq
    exact kx_X.out (fun _ hx => nomatch hx) ⟨by unfold s_rule; rw [if_pos g1, if_neg hbad], by unfold s_rule; rw [if_pos g1, if_neg hbad]⟩
  obtain ⟨rfl, hq⟩ := hq
  obtain ⟨g2, rfl⟩ := ck_y hq
  obtain ⟨t, ht, rfl, nt2⟩ := nI_get (N := 8) (by decide) g2
  refine kx_iload_n (pc := 8) d_EK_rule_8 rfl ?_
  refine kx_if_lt (pc := 9) (tgt := 22) d_EK_rule_9 (by decide) (fun g31 => ?_) (fun g31 => ?_)
  · refine kx_iconst (pc := 22) (x := 0) d_EK_rule_22 (by decide) ?_
    refine kx_invS (pc := 23) (as := [.int _]) (st := []) (k := 2) (j := 12) d_EK_rule_23 ws_EK_35 (k_checkArgument 0) rfl rfl (Nat.le_of_ble_eq_true rfl) (by decide) (Nat.le_of_ble_eq_true rfl) (fun rv n' h' hq => absurd rfl (ca_y hq.2).1) (fun X n' h' hq => ?_)
    obtain ⟨rfl, hq⟩ := hq
    obtain ⟨-, rfl⟩ := ca_n hq
    exact kx_X.out (fun _ hx => nomatch hx) ⟨by unfold s_rule; rw [if_pos g1, if_pos g2, if_neg (fun w => Int32.not_lt.mpr w.1 g31)], by unfold s_rule; rw [if_pos g1, if_pos g2, if_neg (fun w => Int32.not_lt.mpr w.1 g31)]⟩
  · refine kx_iload_n (pc := 12) d_EK_rule_12 rfl ?_
    refine kx_bipush (pc := 13) (x := 6) d_EK_rule_13 (by decide) ?_
    refine kx_icmp_gt (pc := 15) (tgt := 22) d_EK_rule_15 (by decide) (fun g32 => ?_) (fun g32 => ?_)
    · refine kx_iconst (pc := 22) (x := 0) d_EK_rule_22 (by decide) ?_
      refine kx_invS (pc := 23) (as := [.int _]) (st := []) (k := 2) (j := 12) d_EK_rule_23 ws_EK_35 (k_checkArgument 0) rfl rfl (Nat.le_of_ble_eq_true rfl) (by decide) (Nat.le_of_ble_eq_true rfl) (fun rv n' h' hq => absurd rfl (ca_y hq.2).1) (fun X n' h' hq => ?_)
      obtain ⟨rfl, hq⟩ := hq
      obtain ⟨-, rfl⟩ := ca_n hq
      exact kx_X.out (fun _ hx => nomatch hx) ⟨by unfold s_rule; rw [if_pos g1, if_pos g2, if_neg (fun w => Int32.not_lt.mpr w.2 g32)], by unfold s_rule; rw [if_pos g1, if_pos g2, if_neg (fun w => Int32.not_lt.mpr w.2 g32)]⟩
    · have g3 : 0 ≤ x3 ∧ x3 ≤ 6 := ⟨Int32.not_lt.mp g31, Int32.not_lt.mp g32⟩
      refine kx_iconst (pc := 18) (x := 1) d_EK_rule_18 (by decide) ?_
      refine kx_goto (pc := 19) (tgt := 23) d_EK_rule_19 (by decide) ?_
      refine kx_invS (pc := 23) (as := [.int _]) (st := []) (k := 2) (j := 12) d_EK_rule_23 ws_EK_35 (k_checkArgument 1) rfl rfl (Nat.le_of_ble_eq_true rfl) (by decide) (Nat.le_of_ble_eq_true rfl) (fun rv n' h' hq => ?_) (fun X n' h' hq => absurd (ca_n hq.2).1 (by decide))
      obtain ⟨rfl, hq⟩ := hq
      obtain ⟨-, rfl⟩ := ca_y hq
      refine kx_iload (pc := 26) d_EK_rule_26 rfl ?_
      refine kx_if_lt (pc := 28) (tgt := 41) d_EK_rule_28 (by decide) (fun g41 => ?_) (fun g41 => ?_)
      · refine kx_iconst (pc := 41) (x := 0) d_EK_rule_41 (by decide) ?_
        refine kx_invS (pc := 42) (as := [.int _]) (st := []) (k := 1) (j := 6) d_EK_rule_42 ws_EK_35 (k_checkArgument 0) rfl rfl (Nat.le_of_ble_eq_true rfl) (by decide) (Nat.le_of_ble_eq_true rfl) (fun rv n' h' hq => absurd rfl (ca_y hq.2).1) (fun X n' h' hq => ?_)
        obtain ⟨rfl, hq⟩ := hq
        obtain ⟨-, rfl⟩ := ca_n hq
        exact kx_X.out (fun _ hx => nomatch hx) ⟨by unfold s_rule; rw [if_pos g1, if_pos g2, if_pos g3, if_neg (fun w => Int32.not_lt.mpr w.1 g41)], by unfold s_rule; rw [if_pos g1, if_pos g2, if_pos g3, if_neg (fun w => Int32.not_lt.mpr w.1 g41)]⟩
      · refine kx_iload (pc := 31) d_EK_rule_31 rfl ?_
        refine kx_iconst (pc := 33) (x := 2) d_EK_rule_33 (by decide) ?_
        refine kx_icmp_gt (pc := 34) (tgt := 41) d_EK_rule_34 (by decide) (fun g42 => ?_) (fun g42 => ?_)
        · refine kx_iconst (pc := 41) (x := 0) d_EK_rule_41 (by decide) ?_
          refine kx_invS (pc := 42) (as := [.int _]) (st := []) (k := 1) (j := 6) d_EK_rule_42 ws_EK_35 (k_checkArgument 0) rfl rfl (Nat.le_of_ble_eq_true rfl) (by decide) (Nat.le_of_ble_eq_true rfl) (fun rv n' h' hq => absurd rfl (ca_y hq.2).1) (fun X n' h' hq => ?_)
          obtain ⟨rfl, hq⟩ := hq
          obtain ⟨-, rfl⟩ := ca_n hq
          exact kx_X.out (fun _ hx => nomatch hx) ⟨by unfold s_rule; rw [if_pos g1, if_pos g2, if_pos g3, if_neg (fun w => Int32.not_lt.mpr w.2 g42)], by unfold s_rule; rw [if_pos g1, if_pos g2, if_pos g3, if_neg (fun w => Int32.not_lt.mpr w.2 g42)]⟩
        · have g4 : 0 ≤ x4 ∧ x4 ≤ 2 := ⟨Int32.not_lt.mp g41, Int32.not_lt.mp g42⟩
          refine kx_iconst (pc := 37) (x := 1) d_EK_rule_37 (by decide) ?_
          refine kx_goto (pc := 38) (tgt := 42) d_EK_rule_38 (by decide) ?_
          refine kx_invS (pc := 42) (as := [.int _]) (st := []) (k := 1) (j := 6) d_EK_rule_42 ws_EK_35 (k_checkArgument 1) rfl rfl (Nat.le_of_ble_eq_true rfl) (by decide) (Nat.le_of_ble_eq_true rfl) (fun rv n' h' hq => ?_) (fun X n' h' hq => absurd (ca_n hq.2).1 (by decide))
          obtain ⟨rfl, hq⟩ := hq
          obtain ⟨-, rfl⟩ := ca_y hq
          refine kx_aload_n (pc := 45) d_EK_rule_45 rfl ?_
          refine kw_getr (pc := 46) (r := 11) d_EK_rule_46 fl_EK_18 rfl (by decide) rfl ?_
          refine kx_iload_n (pc := 49) d_EK_rule_49 rfl ?_
          refine kw_aald (pc := 50) d_EK_rule_50 ⟨_, fun _ => rfl⟩ rfl ⟨rfl, hp, by decide⟩ (wq_p hp) ?_
          refine kx_iload_n (pc := 51) d_EK_rule_51 rfl ?_
          refine kx_iload_n (pc := 52) d_EK_rule_52 rfl ?_
          refine kx_iload (pc := 53) d_EK_rule_53 rfl ?_
          refine kx_invV (pc := 55) (as := [.int _, .int _, .int _]) (st := []) (k := 1) (j := 6) d_EK_rule_55 wv_EK_69 (wd_o (wk_p0 hp)) (k_setRule hp ht) rfl rfl (Nat.le_of_ble_eq_true rfl) (by decide) (Nat.le_of_ble_eq_true rfl) (fun rv n' h' hq => ?_) (fun X n' h' hq => nomatch hq.2)
          obtain ⟨rfl, hq⟩ := hq
          cases hq
          exact kx_vret rfl d_EK_rule_58 ⟨by unfold s_rule; rw [if_pos g1, if_pos g2, if_pos g3, if_pos g4, np, nt2], by unfold s_rule; rw [if_pos g1, if_pos g2, if_pos g3, if_pos g4, np, nt2]⟩
def s_save (a : kW) (x1 : Int32) : (Option Value ⊕ String) × kW := if 0 ≤ x1 ∧ x1 < 8 then (Sum.inl (some (.int (a.2.2 (12 + 5 * nt x1) 4))), f_keep a (nt x1) (a.2.2 1 9)) else (Sum.inr "java/lang/IllegalArgumentException", a)
set_option maxHeartbeats 4000000 in
set_option maxRecDepth 100000 in
theorem k_save {E : kx_E} {n : Nat} {a b : kW} {x1 : Int32} : kx_V E i_EK_save 8 5 30 (fun r _ h' => r = (s_save a x1).1 ∧ h' = wd (wx (s_save a x1).2 b)) 5 30 0 (lv_args 0 [.ref 0, .int x1]) [] n (wd (wx a b)) := by
  refine kx_iload_n (pc := 0) d_EK_save_0 rfl ?_
  refine kx_invS (pc := 1) (as := [.int _]) (st := []) (k := 4) (j := 24) d_EK_save_1 ws_EK_66 (k_checkProjection x1) rfl rfl (Nat.le_of_ble_eq_true rfl) (by decide) (Nat.le_of_ble_eq_true rfl) (fun rv n' h' hq => ?_) (fun X n' h' hq => ?_)
  rotate_left
  · obtain ⟨rfl, hq⟩ := hq
    obtain ⟨hbad, rfl⟩ := ck_n hq
    exact kx_X.out (fun _ hx => nomatch hx) ⟨by unfold s_save; rw [if_neg hbad], by unfold s_save; rw [if_neg hbad]⟩
  obtain ⟨rfl, hq⟩ := hq
  obtain ⟨g1, rfl⟩ := ck_y hq
  obtain ⟨p, hp, rfl, np⟩ := nI_get (N := 8) (by decide) g1
  refine kx_aload_n (pc := 4) d_EK_save_4 rfl ?_
  refine kw_getr (pc := 5) (r := 11) d_EK_save_5 fl_EK_18 rfl (by decide) rfl ?_
  refine kx_iload_n (pc := 8) d_EK_save_8 rfl ?_
  refine kw_aald (pc := 9) d_EK_save_9 ⟨_, fun _ => rfl⟩ rfl ⟨rfl, hp, by decide⟩ (wq_p hp) ?_
  refine kx_aload_n (pc := 10) d_EK_save_10 rfl ?_
  refine kw_getr (pc := 11) (r := 1) d_EK_save_11 fl_EK_10 rfl (by decide) rfl ?_
  refine ka_geti (pc := 14) d_EK_save_14 fl_EK_77 (by decide) rfl (by decide) rfl ?_
  refine kx_invV (pc := 17) (as := [.int _]) (st := []) (k := 4) (j := 24) d_EK_save_17 wv_EK_81 (wd_o (wk_p0 hp)) (k_keep (a := a) (b := b) hp) rfl rfl (Nat.le_of_ble_eq_true rfl) (by decide) (Nat.le_of_ble_eq_true rfl) (fun rv n' h' hq => ?_) (fun X n' h' hq => nomatch hq.1)
  obtain ⟨hq, rfl⟩ := hq
  cases hq
  exact kx_iret rfl d_EK_save_20 ⟨by unfold s_save; rw [if_pos g1, np], by unfold s_save; rw [if_pos g1, np]⟩
def s_cell (a : kW) (x1 x2 : Int32) : (Option Value ⊕ String) × kW := if 0 ≤ x1 ∧ x1 < 8 then if 0 ≤ x2 ∧ x2 < 16 then (Sum.inl (some (.long (a.2.1 (12 + 5 * nt x1 + 3) (nt x2)))), a) else (Sum.inr "java/lang/IndexOutOfBoundsException", a) else (Sum.inr "java/lang/IllegalArgumentException", a)
set_option maxHeartbeats 4000000 in
set_option maxRecDepth 100000 in
theorem k_cell {E : kx_E} {n : Nat} {a b : kW} {x1 x2 : Int32} : kx_V E i_EK_cell 8 5 30 (fun r _ h' => r = (s_cell a x1 x2).1 ∧ h' = wd (wx (s_cell a x1 x2).2 b)) 5 30 0 (lv_args 0 [.ref 0, .int x1, .int x2]) [] n (wd (wx a b)) := by
  refine kx_iload_n (pc := 0) d_EK_cell_0 rfl ?_
  refine kx_invS (pc := 1) (as := [.int _]) (st := []) (k := 4) (j := 24) d_EK_cell_1 ws_EK_66 (k_checkProjection x1) rfl rfl (Nat.le_of_ble_eq_true rfl) (by decide) (Nat.le_of_ble_eq_true rfl) (fun rv n' h' hq => ?_) (fun X n' h' hq => ?_)
  rotate_left
  · obtain ⟨rfl, hq⟩ := hq
    obtain ⟨hbad, rfl⟩ := ck_n hq
    exact kx_X.out (fun _ hx => nomatch hx) ⟨by unfold s_cell; rw [if_neg hbad], by unfold s_cell; rw [if_neg hbad]⟩
  obtain ⟨rfl, hq⟩ := hq
  obtain ⟨g1, rfl⟩ := ck_y hq
  obtain ⟨p, hp, rfl, np⟩ := nI_get (N := 8) (by decide) g1
  refine kx_iload_n (pc := 4) d_EK_cell_4 rfl ?_
  refine kx_if_lt (pc := 5) (tgt := 14) d_EK_cell_5 (by decide) (fun y1 => ?_) (fun y1 => ?_)
  · exact kx_throw (pc := 14) (k := 3) (j := 18) (tx := "there is no such cell") d_EK_cell_14 d_EK_cell_17 d_EK_cell_18 d_EK_cell_20 d_EK_cell_23 tx_EK_57_61 (by decide +kernel) (fun _ hx => nomatch hx) (by decide) (Nat.le_of_ble_eq_true rfl) ⟨by unfold s_cell; rw [if_pos g1, if_neg (fun w => Int32.not_lt.mpr w.1 y1)], by unfold s_cell; rw [if_pos g1, if_neg (fun w => Int32.not_lt.mpr w.1 y1)]⟩
  · refine kx_iload_n (pc := 8) d_EK_cell_8 rfl ?_
    refine kx_bipush (pc := 9) (x := 16) d_EK_cell_9 (by decide) ?_
    refine kx_icmp_lt (pc := 11) (tgt := 24) d_EK_cell_11 (by decide) (fun y2 => ?_) (fun y2 => ?_)
    · have g2 : 0 ≤ x2 ∧ x2 < 16 := ⟨Int32.not_lt.mp y1, y2⟩
      obtain ⟨z, hz, rfl, nz⟩ := nI_get (N := 16) (by decide) g2
      refine kx_aload_n (pc := 24) d_EK_cell_24 rfl ?_
      refine kw_getr (pc := 25) (r := 11) d_EK_cell_25 fl_EK_18 rfl (by decide) rfl ?_
      refine kx_iload_n (pc := 28) d_EK_cell_28 rfl ?_
      refine kw_aald (pc := 29) d_EK_cell_29 ⟨_, fun _ => rfl⟩ rfl ⟨rfl, hp, by decide⟩ (wq_p hp) ?_
      refine kw_getr (pc := 30) d_EK_cell_30 fl_EK_87 (wk_p0 hp) (by decide) (wf_p3 hp) ?_
      refine kx_iload_n (pc := 33) d_EK_cell_33 rfl ?_
      refine ka_lald (pc := 34) d_EK_cell_34 (by omega) (wk_p3 hp) ⟨rfl, hz, by decide⟩ ?_
      exact kx_lret rfl d_EK_cell_35 ⟨by unfold s_cell; rw [if_pos g1, if_pos g2, np, nz], by unfold s_cell; rw [if_pos g1, if_pos g2, np, nz]⟩
    · exact kx_throw (pc := 14) (k := 3) (j := 18) (tx := "there is no such cell") d_EK_cell_14 d_EK_cell_17 d_EK_cell_18 d_EK_cell_20 d_EK_cell_23 tx_EK_57_61 (by decide +kernel) (fun _ hx => nomatch hx) (by decide) (Nat.le_of_ble_eq_true rfl) ⟨by unfold s_cell; rw [if_pos g1, if_neg (fun w => y2 w.2)], by unfold s_cell; rw [if_pos g1, if_neg (fun w => y2 w.2)]⟩
def s_filter (a : kW) (x1 x2 x3 : Int32) : (Option Value ⊕ String) × kW := if 0 ≤ x1 ∧ x1 < 8 then if -1 ≤ x2 ∧ x2 < 16 then if 0 ≤ x3 ∧ x3 ≤ 255 then (Sum.inl none, f_filter a (nt x1) x2 x3) else (Sum.inr "java/lang/IllegalArgumentException", a) else (Sum.inr "java/lang/IllegalArgumentException", a) else (Sum.inr "java/lang/IllegalArgumentException", a)
set_option maxHeartbeats 4000000 in
set_option maxRecDepth 100000 in
theorem k_filter {E : kx_E} {n : Nat} {a b : kW} {x1 x2 x3 : Int32} : kx_V E i_EK_filter 8 5 30 (fun r _ h' => r = (s_filter a x1 x2 x3).1 ∧ h' = wd (wx (s_filter a x1 x2 x3).2 b)) 5 30 0 (lv_args 0 [.ref 0, .int x1, .int x2, .int x3]) [] n (wd (wx a b)) := by
  refine kx_iload_n (pc := 0) d_EK_filter_0 rfl ?_
  refine kx_invS (pc := 1) (as := [.int _]) (st := []) (k := 4) (j := 24) d_EK_filter_1 ws_EK_91 (k_checkSubscription x1) rfl rfl (Nat.le_of_ble_eq_true rfl) (by decide) (Nat.le_of_ble_eq_true rfl) (fun rv n' h' hq => ?_) (fun X n' h' hq => ?_)
  rotate_left
  · obtain ⟨rfl, hq⟩ := hq
    obtain ⟨hbad, rfl⟩ := ck_n hq
    exact kx_X.out (fun _ hx => nomatch hx) ⟨by unfold s_filter; rw [if_neg hbad], by unfold s_filter; rw [if_neg hbad]⟩
  obtain ⟨rfl, hq⟩ := hq
  obtain ⟨g1, rfl⟩ := ck_y hq
  obtain ⟨u, hu, rfl, nu⟩ := nI_get (N := 8) (by decide) g1
  refine kx_iload_n (pc := 4) d_EK_filter_4 rfl ?_
  refine kx_iconst (pc := 5) (x := -1) d_EK_filter_5 (by decide) ?_
  refine kx_icmp_lt (pc := 6) (tgt := 19) d_EK_filter_6 (by decide) (fun y1 => ?_) (fun y1 => ?_)
  · refine kx_iconst (pc := 19) (x := 0) d_EK_filter_19 (by decide) ?_
    refine kx_invS (pc := 20) (as := [.int _]) (st := []) (k := 3) (j := 18) d_EK_filter_20 ws_EK_35 (k_checkArgument 0) rfl rfl (Nat.le_of_ble_eq_true rfl) (by decide) (Nat.le_of_ble_eq_true rfl) (fun rv n' h' hq => absurd rfl (ca_y hq.2).1) (fun X n' h' hq => ?_)
    obtain ⟨rfl, hq⟩ := hq
    obtain ⟨-, rfl⟩ := ca_n hq
    exact kx_X.out (fun _ hx => nomatch hx) ⟨by unfold s_filter; rw [if_pos g1, if_neg (fun w => Int32.not_lt.mpr w.1 y1)], by unfold s_filter; rw [if_pos g1, if_neg (fun w => Int32.not_lt.mpr w.1 y1)]⟩
  · refine kx_iload_n (pc := 9) d_EK_filter_9 rfl ?_
    refine kx_bipush (pc := 10) (x := 16) d_EK_filter_10 (by decide) ?_
    refine kx_icmp_ge (pc := 12) (tgt := 19) d_EK_filter_12 (by decide) (fun y2 => ?_) (fun y2 => ?_)
    · refine kx_iconst (pc := 19) (x := 0) d_EK_filter_19 (by decide) ?_
      refine kx_invS (pc := 20) (as := [.int _]) (st := []) (k := 3) (j := 18) d_EK_filter_20 ws_EK_35 (k_checkArgument 0) rfl rfl (Nat.le_of_ble_eq_true rfl) (by decide) (Nat.le_of_ble_eq_true rfl) (fun rv n' h' hq => absurd rfl (ca_y hq.2).1) (fun X n' h' hq => ?_)
      obtain ⟨rfl, hq⟩ := hq
      obtain ⟨-, rfl⟩ := ca_n hq
      exact kx_X.out (fun _ hx => nomatch hx) ⟨by unfold s_filter; rw [if_pos g1, if_neg (fun w => Int32.not_lt.mpr y2 w.2)], by unfold s_filter; rw [if_pos g1, if_neg (fun w => Int32.not_lt.mpr y2 w.2)]⟩
    · have g2 : -1 ≤ x2 ∧ x2 < 16 := ⟨Int32.not_lt.mp y1, Int32.not_le.mp y2⟩
      refine kx_iconst (pc := 15) (x := 1) d_EK_filter_15 (by decide) ?_
      refine kx_goto (pc := 16) (tgt := 20) d_EK_filter_16 (by decide) ?_
      refine kx_invS (pc := 20) (as := [.int _]) (st := []) (k := 3) (j := 18) d_EK_filter_20 ws_EK_35 (k_checkArgument 1) rfl rfl (Nat.le_of_ble_eq_true rfl) (by decide) (Nat.le_of_ble_eq_true rfl) (fun rv n' h' hq => ?_) (fun X n' h' hq => absurd (ca_n hq.2).1 (by decide))
      obtain ⟨rfl, hq⟩ := hq
      obtain ⟨-, rfl⟩ := ca_y hq
      refine kx_iload_n (pc := 23) d_EK_filter_23 rfl ?_
      refine kx_if_lt (pc := 24) (tgt := 38) d_EK_filter_24 (by decide) (fun g31 => ?_) (fun g31 => ?_)
      · refine kx_iconst (pc := 38) (x := 0) d_EK_filter_38 (by decide) ?_
        refine kx_invS (pc := 39) (as := [.int _]) (st := []) (k := 2) (j := 12) d_EK_filter_39 ws_EK_35 (k_checkArgument 0) rfl rfl (Nat.le_of_ble_eq_true rfl) (by decide) (Nat.le_of_ble_eq_true rfl) (fun rv n' h' hq => absurd rfl (ca_y hq.2).1) (fun X n' h' hq => ?_)
        obtain ⟨rfl, hq⟩ := hq
        obtain ⟨-, rfl⟩ := ca_n hq
        exact kx_X.out (fun _ hx => nomatch hx) ⟨by unfold s_filter; rw [if_pos g1, if_pos g2, if_neg (fun w => Int32.not_lt.mpr w.1 g31)], by unfold s_filter; rw [if_pos g1, if_pos g2, if_neg (fun w => Int32.not_lt.mpr w.1 g31)]⟩
      · refine kx_iload_n (pc := 27) d_EK_filter_27 rfl ?_
        refine kx_sipush (pc := 28) (x := 255) d_EK_filter_28 (by decide) ?_
        refine kx_icmp_gt (pc := 31) (tgt := 38) d_EK_filter_31 (by decide) (fun g32 => ?_) (fun g32 => ?_)
        · refine kx_iconst (pc := 38) (x := 0) d_EK_filter_38 (by decide) ?_
          refine kx_invS (pc := 39) (as := [.int _]) (st := []) (k := 2) (j := 12) d_EK_filter_39 ws_EK_35 (k_checkArgument 0) rfl rfl (Nat.le_of_ble_eq_true rfl) (by decide) (Nat.le_of_ble_eq_true rfl) (fun rv n' h' hq => absurd rfl (ca_y hq.2).1) (fun X n' h' hq => ?_)
          obtain ⟨rfl, hq⟩ := hq
          obtain ⟨-, rfl⟩ := ca_n hq
          exact kx_X.out (fun _ hx => nomatch hx) ⟨by unfold s_filter; rw [if_pos g1, if_pos g2, if_neg (fun w => Int32.not_lt.mpr w.2 g32)], by unfold s_filter; rw [if_pos g1, if_pos g2, if_neg (fun w => Int32.not_lt.mpr w.2 g32)]⟩
        · have g3 : 0 ≤ x3 ∧ x3 ≤ 255 := ⟨Int32.not_lt.mp g31, Int32.not_lt.mp g32⟩
          refine kx_iconst (pc := 34) (x := 1) d_EK_filter_34 (by decide) ?_
          refine kx_goto (pc := 35) (tgt := 39) d_EK_filter_35 (by decide) ?_
          refine kx_invS (pc := 39) (as := [.int _]) (st := []) (k := 2) (j := 12) d_EK_filter_39 ws_EK_35 (k_checkArgument 1) rfl rfl (Nat.le_of_ble_eq_true rfl) (by decide) (Nat.le_of_ble_eq_true rfl) (fun rv n' h' hq => ?_) (fun X n' h' hq => absurd (ca_n hq.2).1 (by decide))
          obtain ⟨rfl, hq⟩ := hq
          obtain ⟨-, rfl⟩ := ca_y hq
          refine kx_aload_n (pc := 42) d_EK_filter_42 rfl ?_
          refine kw_getr (pc := 43) (r := 52) d_EK_filter_43 fl_EK_27 rfl (by decide) rfl ?_
          refine kx_iload_n (pc := 46) d_EK_filter_46 rfl ?_
          refine kw_aald (pc := 47) d_EK_filter_47 ⟨_, fun _ => rfl⟩ rfl ⟨rfl, hu, by decide⟩ (wq_s hu) ?_
          refine kx_iload_n (pc := 48) d_EK_filter_48 rfl ?_
          refine kx_iload_n (pc := 49) d_EK_filter_49 rfl ?_
          refine kx_invV (pc := 50) (as := [.int _, .int _]) (st := []) (k := 2) (j := 12) d_EK_filter_50 wv_EK_94 (wd_o (wk_s hu)) (k_setFilter hu) rfl rfl (Nat.le_of_ble_eq_true rfl) (by decide) (Nat.le_of_ble_eq_true rfl) (fun rv n' h' hq => ?_) (fun X n' h' hq => nomatch hq.2)
          obtain ⟨rfl, hq⟩ := hq
          cases hq
          exact kx_vret rfl d_EK_filter_53 ⟨by unfold s_filter; rw [if_pos g1, if_pos g2, if_pos g3, nu], by unfold s_filter; rw [if_pos g1, if_pos g2, if_pos g3, nu]⟩
noncomputable def s_next (a : kW) (sz q : Nat) (x1 : Int32) : (Option Value ⊕ String) × kW := if 0 ≤ x1 ∧ x1 < 8 then (Sum.inl (some (.int (f_wait a (nt x1) (sz - q) q))), a) else (Sum.inr "java/lang/IllegalArgumentException", a)
set_option maxHeartbeats 4000000 in
set_option maxRecDepth 100000 in
theorem k_next {E : kx_E} {n : Nat} {a b : kW} {sz q : Nat} {x1 : Int32} (h1 : a.2.2 1 9 = nI sz) (h5 : sz ≤ 500) (hq5 : q ≤ 500) (hpos : 0 ≤ x1 ∧ x1 < 8 → a.2.2 (53 + nt x1) 2 = nI q) : kx_V E i_EK_next 8 5 30 (fun r _ h' => r = (s_next a sz q x1).1 ∧ h' = wd (wx (s_next a sz q x1).2 b)) 5 30 0 (lv_args 0 [.ref 0, .int x1]) [] n (wd (wx a b)) := by
  refine kx_iload_n (pc := 0) d_EK_next_0 rfl ?_
  refine kx_invS (pc := 1) (as := [.int _]) (st := []) (k := 4) (j := 24) d_EK_next_1 ws_EK_91 (k_checkSubscription x1) rfl rfl (Nat.le_of_ble_eq_true rfl) (by decide) (Nat.le_of_ble_eq_true rfl) (fun rv n' h' hq => ?_) (fun X n' h' hq => ?_)
  rotate_left
  · obtain ⟨rfl, hq⟩ := hq
    obtain ⟨hbad, rfl⟩ := ck_n hq
    exact kx_X.out (fun _ hx => nomatch hx) ⟨by unfold s_next; rw [if_neg hbad], by unfold s_next; rw [if_neg hbad]⟩
  obtain ⟨rfl, hq⟩ := hq
  obtain ⟨g1, rfl⟩ := ck_y hq
  obtain ⟨u, hu, rfl, nu⟩ := nI_get (N := 8) (by decide) g1
  refine kx_aload_n (pc := 4) d_EK_next_4 rfl ?_
  refine kw_getr (pc := 5) (r := 52) d_EK_next_5 fl_EK_27 rfl (by decide) rfl ?_
  refine kx_iload_n (pc := 8) d_EK_next_8 rfl ?_
  refine kw_aald (pc := 9) d_EK_next_9 ⟨_, fun _ => rfl⟩ rfl ⟨rfl, hu, by decide⟩ (wq_s hu) ?_
  refine kx_aload_n (pc := 10) d_EK_next_10 rfl ?_
  refine kw_getr (pc := 11) (r := 1) d_EK_next_11 fl_EK_10 rfl (by decide) rfl ?_
  refine kx_invV (pc := 14) (as := [.ref _]) (st := []) (k := 4) (j := 24) d_EK_next_14 wv_EK_98 (wd_o (wk_s hu)) (k_firstWaiting (a := a) (b := b) hu h1 h5 hq5 (by have h9 := hpos g1; rw [nu] at h9; exact h9)) rfl rfl (Nat.le_of_ble_eq_true rfl) (by decide) (Nat.le_of_ble_eq_true rfl) (fun rv n' h' hq => ?_) (fun X n' h' hq => nomatch hq.2)
  obtain ⟨rfl, hq⟩ := hq
  cases hq
  exact kx_iret rfl d_EK_next_17 ⟨by unfold s_next; rw [if_pos g1, nu], by unfold s_next; rw [if_pos g1, nu]⟩
end
section
set_option maxHeartbeats 4000000 in
set_option maxRecDepth 100000 in
theorem k_checkPlace {E : kx_E} {n : Nat} {a b : kW} {sz : Nat} (x : Int32) (h1 : a.2.2 1 9 = nI sz) : kx_V E i_EK_checkPlace 6 1 6 (fun r _ h' => h' = wd (wx a b) ∧ r = if 0 ≤ x ∧ x < nI sz then Sum.inl none else Sum.inr "java/lang/IndexOutOfBoundsException") 1 6 0 (lv_args 0 [.ref 0, .int x]) [] n (wd (wx a b)) := by
  refine kx_iload_n (pc := 0) d_EK_checkPlace_0 rfl ?_
  refine kx_if_lt (pc := 1) (tgt := 15) d_EK_checkPlace_1 (by decide) (fun y1 => ?_) (fun y1 => ?_)
  · exact kx_throw (pc := 15) (k := 0) (j := 0) (tx := "there is no event at this place") d_EK_checkPlace_15 d_EK_checkPlace_18 d_EK_checkPlace_19 d_EK_checkPlace_21 d_EK_checkPlace_24 tx_EK_57_61 (by decide +kernel) (fun _ hx => nomatch hx) (by decide) (Nat.le_of_ble_eq_true rfl) ⟨rfl, by rw [if_neg (fun w => Int32.not_lt.mpr w.1 y1)]⟩
  · refine kx_iload_n (pc := 4) d_EK_checkPlace_4 rfl ?_
    refine kx_aload_n (pc := 5) d_EK_checkPlace_5 rfl ?_
    refine kw_getr (pc := 6) (r := 1) d_EK_checkPlace_6 fl_EK_10 rfl (by decide) rfl ?_
    refine ka_geti (pc := 9) d_EK_checkPlace_9 fl_EK_77 (by decide) rfl (by decide) rfl ?_
    refine kx_eqi h1 ?_
    refine kx_icmp_lt (pc := 12) (tgt := 25) d_EK_checkPlace_12 (by decide) (fun y2 => ?_) (fun y2 => ?_)
    · exact kx_vret rfl d_EK_checkPlace_25 ⟨rfl, by rw [if_pos (And.intro (Int32.not_lt.mp y1) y2)]⟩
    · exact kx_throw (pc := 15) (k := 0) (j := 0) (tx := "there is no event at this place") d_EK_checkPlace_15 d_EK_checkPlace_18 d_EK_checkPlace_19 d_EK_checkPlace_21 d_EK_checkPlace_24 tx_EK_57_61 (by decide +kernel) (fun _ hx => nomatch hx) (by decide) (Nat.le_of_ble_eq_true rfl) ⟨rfl, by rw [if_neg (fun w => y2 w.2)]⟩
def s_ack (a : kW) (sz : Nat) (x1 x2 : Int32) : (Option Value ⊕ String) × kW := if 0 ≤ x1 ∧ x1 < 8 then if 0 ≤ x2 ∧ x2 < nI sz then (Sum.inl (some (.int (if a.2.2 (53 + nt x1) 2 < x2 + 1 then x2 + 1 else a.2.2 (53 + nt x1) 2))), f_pass a (nt x1) x2) else (Sum.inr "java/lang/IndexOutOfBoundsException", a) else (Sum.inr "java/lang/IllegalArgumentException", a)
set_option maxHeartbeats 4000000 in
set_option maxRecDepth 100000 in
theorem k_acknowledge {E : kx_E} {n : Nat} {a b : kW} {sz : Nat} {x1 x2 : Int32} (h1 : a.2.2 1 9 = nI sz) (h5 : sz ≤ 500) : kx_V E i_EK_acknowledge 8 5 30 (fun r _ h' => r = (s_ack a sz x1 x2).1 ∧ h' = wd (wx (s_ack a sz x1 x2).2 b)) 5 30 0 (lv_args 0 [.ref 0, .int x1, .int x2]) [] n (wd (wx a b)) := by
  refine kx_iload_n (pc := 0) d_EK_acknowledge_0 rfl ?_
  refine kx_invS (pc := 1) (as := [.int _]) (st := []) (k := 4) (j := 24) d_EK_acknowledge_1 ws_EK_91 (k_checkSubscription x1) rfl rfl (Nat.le_of_ble_eq_true rfl) (by decide) (Nat.le_of_ble_eq_true rfl) (fun rv n' h' hq => ?_) (fun X n' h' hq => ?_)
  rotate_left
  · obtain ⟨rfl, hq⟩ := hq
    obtain ⟨hbad, rfl⟩ := ck_n hq
    exact kx_X.out (fun _ hx => nomatch hx) ⟨by unfold s_ack; rw [if_neg hbad], by unfold s_ack; rw [if_neg hbad]⟩
  obtain ⟨rfl, hq⟩ := hq
  obtain ⟨g1, rfl⟩ := ck_y hq
  obtain ⟨u, hu, rfl, nu⟩ := nI_get (N := 8) (by decide) g1
  refine kx_aload_n (pc := 4) d_EK_acknowledge_4 rfl ?_
  refine kx_iload_n (pc := 5) d_EK_acknowledge_5 rfl ?_
  refine kx_invV (pc := 6) (as := [.int _]) (st := []) (k := 3) (j := 18) d_EK_acknowledge_6 wv_EK_102 (wd_o rfl) (k_checkPlace (a := a) (b := b) x2 h1) rfl rfl (Nat.le_of_ble_eq_true rfl) (by decide) (Nat.le_of_ble_eq_true rfl) (fun rv n' h' hq => ?_) (fun X n' h' hq => ?_)
  rotate_left
  · obtain ⟨rfl, hq⟩ := hq
    obtain ⟨hbad, rfl⟩ := ck_n hq
    exact kx_X.out (fun _ hx => nomatch hx) ⟨by unfold s_ack; rw [if_pos g1, if_neg hbad], by unfold s_ack; rw [if_pos g1, if_neg hbad]⟩
  obtain ⟨rfl, hq⟩ := hq
  obtain ⟨g2, rfl⟩ := ck_y hq
  obtain ⟨q, hq9, rfl, nq⟩ := nI_get (by omega) g2
  have q5 : q < 500 := by omega
  refine kx_aload_n (pc := 9) d_EK_acknowledge_9 rfl ?_
  refine kw_getr (pc := 10) (r := 52) d_EK_acknowledge_10 fl_EK_27 rfl (by decide) rfl ?_
  refine kx_iload_n (pc := 13) d_EK_acknowledge_13 rfl ?_
  refine kw_aald (pc := 14) d_EK_acknowledge_14 ⟨_, fun _ => rfl⟩ rfl ⟨rfl, hu, by decide⟩ (wq_s hu) ?_
  refine kx_iload_n (pc := 15) d_EK_acknowledge_15 rfl ?_
  refine kx_invV (pc := 16) (as := [.int _]) (st := []) (k := 3) (j := 18) d_EK_acknowledge_16 wv_EK_105 (wd_o (wk_s hu)) (k_passBehind (a := a) (b := b) hu) rfl rfl (Nat.le_of_ble_eq_true rfl) (by decide) (Nat.le_of_ble_eq_true rfl) (fun rv n' h' hq => ?_) (fun X n' h' hq => nomatch hq.2)
  obtain ⟨rfl, hq⟩ := hq
  cases hq
  exact kx_iret rfl d_EK_acknowledge_19 ⟨by unfold s_ack; rw [if_pos g1, if_pos g2, nu], by unfold s_ack; rw [if_pos g1, if_pos g2, nu]⟩
def s_event (a : kW) (sz : Nat) (x1 x2 : Int32) : (Option Value ⊕ String) × kW := if 0 ≤ x2 ∧ x2 ≤ 4 then if 0 ≤ x1 ∧ x1 < nI sz then (Sum.inl (some (.int (if x2 = 0 then a.1 2 (nt x1) else if x2 = 1 then a.1 3 (nt x1) else if x2 = 2 then a.1 4 (nt x1) else if x2 = 3 then a.1 6 (nt x1) else a.1 7 (nt x1)))), a) else (Sum.inr "java/lang/IndexOutOfBoundsException", a) else (Sum.inr "java/lang/IllegalArgumentException", a)
set_option maxHeartbeats 4000000 in
set_option maxRecDepth 100000 in
theorem k_event {E : kx_E} {n : Nat} {a b : kW} {sz : Nat} {x1 x2 : Int32} (h1 : a.2.2 1 9 = nI sz) (h5 : sz ≤ 500) : kx_V E i_EK_event 8 5 30 (fun r _ h' => r = (s_event a sz x1 x2).1 ∧ h' = wd (wx (s_event a sz x1 x2).2 b)) 5 30 0 (lv_args 0 [.ref 0, .int x1, .int x2]) [] n (wd (wx a b)) := by
  refine kx_iload_n (pc := 0) d_EK_event_0 rfl ?_
  refine kx_if_lt (pc := 1) (tgt := 13) d_EK_event_1 (by decide) (fun g21 => ?_) (fun g21 => ?_)
  · refine kx_iconst (pc := 13) (x := 0) d_EK_event_13 (by decide) ?_
    refine kx_invS (pc := 14) (as := [.int _]) (st := []) (k := 4) (j := 24) d_EK_event_14 ws_EK_35 (k_checkArgument 0) rfl rfl (Nat.le_of_ble_eq_true rfl) (by decide) (Nat.le_of_ble_eq_true rfl) (fun rv n' h' hq => absurd rfl (ca_y hq.2).1) (fun X n' h' hq => ?_)
    obtain ⟨rfl, hq⟩ := hq
    obtain ⟨-, rfl⟩ := ca_n hq
    exact kx_X.out (fun _ hx => nomatch hx) ⟨by unfold s_event; rw [if_neg (fun w => Int32.not_lt.mpr w.1 g21)], by unfold s_event; rw [if_neg (fun w => Int32.not_lt.mpr w.1 g21)]⟩
  · refine kx_iload_n (pc := 4) d_EK_event_4 rfl ?_
    refine kx_iconst (pc := 5) (x := 4) d_EK_event_5 (by decide) ?_
    refine kx_icmp_gt (pc := 6) (tgt := 13) d_EK_event_6 (by decide) (fun g22 => ?_) (fun g22 => ?_)
    · refine kx_iconst (pc := 13) (x := 0) d_EK_event_13 (by decide) ?_
      refine kx_invS (pc := 14) (as := [.int _]) (st := []) (k := 4) (j := 24) d_EK_event_14 ws_EK_35 (k_checkArgument 0) rfl rfl (Nat.le_of_ble_eq_true rfl) (by decide) (Nat.le_of_ble_eq_true rfl) (fun rv n' h' hq => absurd rfl (ca_y hq.2).1) (fun X n' h' hq => ?_)
      obtain ⟨rfl, hq⟩ := hq
      obtain ⟨-, rfl⟩ := ca_n hq
      exact kx_X.out (fun _ hx => nomatch hx) ⟨by unfold s_event; rw [if_neg (fun w => Int32.not_lt.mpr w.2 g22)], by unfold s_event; rw [if_neg (fun w => Int32.not_lt.mpr w.2 g22)]⟩
    · have g2 : 0 ≤ x2 ∧ x2 ≤ 4 := ⟨Int32.not_lt.mp g21, Int32.not_lt.mp g22⟩
      refine kx_iconst (pc := 9) (x := 1) d_EK_event_9 (by decide) ?_
      refine kx_goto (pc := 10) (tgt := 14) d_EK_event_10 (by decide) ?_
      refine kx_invS (pc := 14) (as := [.int _]) (st := []) (k := 4) (j := 24) d_EK_event_14 ws_EK_35 (k_checkArgument 1) rfl rfl (Nat.le_of_ble_eq_true rfl) (by decide) (Nat.le_of_ble_eq_true rfl) (fun rv n' h' hq => ?_) (fun X n' h' hq => absurd (ca_n hq.2).1 (by decide))
      obtain ⟨rfl, hq⟩ := hq
      obtain ⟨-, rfl⟩ := ca_y hq
      refine kx_aload_n (pc := 17) d_EK_event_17 rfl ?_
      refine kx_iload_n (pc := 18) d_EK_event_18 rfl ?_
      refine kx_invV (pc := 19) (as := [.int _]) (st := []) (k := 3) (j := 18) d_EK_event_19 wv_EK_102 (wd_o rfl) (k_checkPlace (a := a) (b := b) x1 h1) rfl rfl (Nat.le_of_ble_eq_true rfl) (by decide) (Nat.le_of_ble_eq_true rfl) (fun rv n' h' hq => ?_) (fun X n' h' hq => ?_)
      rotate_left
      · obtain ⟨rfl, hq⟩ := hq
        obtain ⟨hbad, rfl⟩ := ck_n hq
        exact kx_X.out (fun _ hx => nomatch hx) ⟨by unfold s_event; rw [if_pos g2, if_neg hbad], by unfold s_event; rw [if_pos g2, if_neg hbad]⟩
      obtain ⟨rfl, hq⟩ := hq
      obtain ⟨g1, rfl⟩ := ck_y hq
      obtain ⟨q, hq9, rfl, nq⟩ := nI_get (by omega) g1
      have q5 : q < 500 := by omega
      refine kx_iload_n (pc := 22) d_EK_event_22 rfl ?_
      by_cases x0 : x2 = 0
      · refine kx_tsIn (pc := 23) (tgt := 52) d_EK_event_23 (by rw [x0]; decide) (by rw [x0]; decide) (by rw [x0]; rfl) (by decide) ?_
        refine kx_aload_n (pc := 52) d_EK_event_52 rfl ?_
        refine kw_getr (pc := 53) (r := 1) d_EK_event_53 fl_EK_10 rfl (by decide) rfl ?_
        refine kw_getr (pc := 56) (r := 2) d_EK_event_56 fl_EK_121 rfl (by decide) rfl ?_
        refine kx_iload_n (pc := 59) d_EK_event_59 rfl ?_
        refine ka_iald (pc := 60) d_EK_event_60 (by decide) rfl ⟨rfl, q5, by decide⟩ ?_
        exact kx_iret rfl d_EK_event_61 ⟨by unfold s_event; rw [if_pos g2, if_pos g1, nq, if_pos x0], by unfold s_event; rw [if_pos g2, if_pos g1, nq, if_pos x0]⟩
      by_cases x1' : x2 = 1
      · refine kx_tsIn (pc := 23) (tgt := 62) d_EK_event_23 (by rw [x1']; decide) (by rw [x1']; decide) (by rw [x1']; rfl) (by decide) ?_
        refine kx_aload_n (pc := 62) d_EK_event_62 rfl ?_
        refine kw_getr (pc := 63) (r := 1) d_EK_event_63 fl_EK_10 rfl (by decide) rfl ?_
        refine kw_getr (pc := 66) (r := 3) d_EK_event_66 fl_EK_124 rfl (by decide) rfl ?_
        refine kx_iload_n (pc := 69) d_EK_event_69 rfl ?_
        refine ka_iald (pc := 70) d_EK_event_70 (by decide) rfl ⟨rfl, q5, by decide⟩ ?_
        exact kx_iret rfl d_EK_event_71 ⟨by unfold s_event; rw [if_pos g2, if_pos g1, nq, if_neg x0, if_pos x1'], by unfold s_event; rw [if_pos g2, if_pos g1, nq, if_neg x0, if_pos x1']⟩
      by_cases x2' : x2 = 2
      · refine kx_tsIn (pc := 23) (tgt := 72) d_EK_event_23 (by rw [x2']; decide) (by rw [x2']; decide) (by rw [x2']; rfl) (by decide) ?_
        refine kx_aload_n (pc := 72) d_EK_event_72 rfl ?_
        refine kw_getr (pc := 73) (r := 1) d_EK_event_73 fl_EK_10 rfl (by decide) rfl ?_
        refine kw_getr (pc := 76) (r := 4) d_EK_event_76 fl_EK_127 rfl (by decide) rfl ?_
        refine kx_iload_n (pc := 79) d_EK_event_79 rfl ?_
        refine ka_iald (pc := 80) d_EK_event_80 (by decide) rfl ⟨rfl, q5, by decide⟩ ?_
        exact kx_iret rfl d_EK_event_81 ⟨by unfold s_event; rw [if_pos g2, if_pos g1, nq, if_neg x0, if_neg x1', if_pos x2'], by unfold s_event; rw [if_pos g2, if_pos g1, nq, if_neg x0, if_neg x1', if_pos x2']⟩
      by_cases x3' : x2 = 3
      · refine kx_tsIn (pc := 23) (tgt := 82) d_EK_event_23 (by rw [x3']; decide) (by rw [x3']; decide) (by rw [x3']; rfl) (by decide) ?_
        refine kx_aload_n (pc := 82) d_EK_event_82 rfl ?_
        refine kw_getr (pc := 83) (r := 1) d_EK_event_83 fl_EK_10 rfl (by decide) rfl ?_
        refine kw_getr (pc := 86) (r := 6) d_EK_event_86 fl_EK_130 rfl (by decide) rfl ?_
        refine kx_iload_n (pc := 89) d_EK_event_89 rfl ?_
        refine ka_iald (pc := 90) d_EK_event_90 (by decide) rfl ⟨rfl, q5, by decide⟩ ?_
        exact kx_iret rfl d_EK_event_91 ⟨by unfold s_event; rw [if_pos g2, if_pos g1, nq, if_neg x0, if_neg x1', if_neg x2', if_pos x3'], by unfold s_event; rw [if_pos g2, if_pos g1, nq, if_neg x0, if_neg x1', if_neg x2', if_pos x3']⟩
      have ho : x2.toInt < 0 ∨ 3 < x2.toInt := by
        have g : ∀ z : Int, x2.toInt = z → x2 = Int32.ofInt z := fun z hz => by rw [← hz, Int32.ofInt_toInt]
        rcases Int.lt_or_le x2.toInt 0 with w | w
        · exact Or.inl w
        · refine Or.inr ?_
          have n0 : x2.toInt ≠ 0 := fun e => x0 (g 0 e)
          have n1 : x2.toInt ≠ 1 := fun e => x1' (g 1 e)
          have n2 : x2.toInt ≠ 2 := fun e => x2' (g 2 e)
          have n3 : x2.toInt ≠ 3 := fun e => x3' (g 3 e)
          omega
      refine kx_tsOut (pc := 23) (tgt := 92) d_EK_event_23 ho (by decide) ?_
      refine kx_aload_n (pc := 92) d_EK_event_92 rfl ?_
      refine kw_getr (pc := 93) (r := 1) d_EK_event_93 fl_EK_10 rfl (by decide) rfl ?_
      refine kw_getr (pc := 96) (r := 7) d_EK_event_96 fl_EK_133 rfl (by decide) rfl ?_
      refine kx_iload_n (pc := 99) d_EK_event_99 rfl ?_
      refine ka_iald (pc := 100) d_EK_event_100 (by decide) rfl ⟨rfl, q5, by decide⟩ ?_
      exact kx_iret rfl d_EK_event_101 ⟨by unfold s_event; rw [if_pos g2, if_pos g1, nq, if_neg x0, if_neg x1', if_neg x2', if_neg x3'], by unfold s_event; rw [if_pos g2, if_pos g1, nq, if_neg x0, if_neg x1', if_neg x2', if_neg x3']⟩
def s_value (a : kW) (sz : Nat) (x1 : Int32) : (Option Value ⊕ String) × kW := if 0 ≤ x1 ∧ x1 < nI sz then (Sum.inl (some (.long (a.2.1 5 (nt x1)))), a) else (Sum.inr "java/lang/IndexOutOfBoundsException", a)
set_option maxHeartbeats 4000000 in
set_option maxRecDepth 100000 in
theorem k_value {E : kx_E} {n : Nat} {a b : kW} {sz : Nat} {x1 : Int32} (h1 : a.2.2 1 9 = nI sz) (h5 : sz ≤ 500) : kx_V E i_EK_value 8 5 30 (fun r _ h' => r = (s_value a sz x1).1 ∧ h' = wd (wx (s_value a sz x1).2 b)) 5 30 0 (lv_args 0 [.ref 0, .int x1]) [] n (wd (wx a b)) := by
  refine kx_aload_n (pc := 0) d_EK_value_0 rfl ?_
  refine kx_iload_n (pc := 1) d_EK_value_1 rfl ?_
  refine kx_invV (pc := 2) (as := [.int _]) (st := []) (k := 4) (j := 24) d_EK_value_2 wv_EK_102 (wd_o rfl) (k_checkPlace (a := a) (b := b) x1 h1) rfl rfl (Nat.le_of_ble_eq_true rfl) (by decide) (Nat.le_of_ble_eq_true rfl) (fun rv n' h' hq => ?_) (fun X n' h' hq => ?_)
  rotate_left
  · obtain ⟨rfl, hq⟩ := hq
    obtain ⟨hbad, rfl⟩ := ck_n hq
    exact kx_X.out (fun _ hx => nomatch hx) ⟨by unfold s_value; rw [if_neg hbad], by unfold s_value; rw [if_neg hbad]⟩
  obtain ⟨rfl, hq⟩ := hq
  obtain ⟨g1, rfl⟩ := ck_y hq
  obtain ⟨q, hq9, rfl, nq⟩ := nI_get (by omega) g1
  have q5 : q < 500 := by omega
  refine kx_aload_n (pc := 5) d_EK_value_5 rfl ?_
  refine kw_getr (pc := 6) (r := 1) d_EK_value_6 fl_EK_10 rfl (by decide) rfl ?_
  refine kw_getr (pc := 9) (r := 5) d_EK_value_9 fl_EK_136 rfl (by decide) rfl ?_
  refine kx_iload_n (pc := 12) d_EK_value_12 rfl ?_
  refine ka_lald (pc := 13) d_EK_value_13 (by decide) rfl ⟨rfl, q5, by decide⟩ ?_
  exact kx_lret rfl d_EK_value_14 ⟨by unfold s_value; rw [if_pos g1, nq], by unfold s_value; rw [if_pos g1, nq]⟩
def s_find (a : kW) (sz : Nat) (x1 x2 : Int32) : (Option Value ⊕ String) × kW := if 0 ≤ x1 ∧ x1 < 16 then if f_find a x1 x2 sz 0 = -1 then (Sum.inr "java/lang/IndexOutOfBoundsException", a) else (Sum.inl (some (.int (f_find a x1 x2 sz 0))), a) else (Sum.inr "java/lang/IllegalArgumentException", a)
set_option maxHeartbeats 4000000 in
set_option maxRecDepth 100000 in
theorem k_find {E : kx_E} {n : Nat} {a b : kW} {sz : Nat} {x1 x2 : Int32} (h1 : a.2.2 1 9 = nI sz) (h5 : sz ≤ 500) : kx_V E i_EK_find 8 5 30 (fun r _ h' => r = (s_find a sz x1 x2).1 ∧ h' = wd (wx (s_find a sz x1 x2).2 b)) 5 30 0 (lv_args 0 [.ref 0, .int x1, .int x2]) [] n (wd (wx a b)) := by
  refine kx_iload_n (pc := 0) d_EK_find_0 rfl ?_
  refine kx_invS (pc := 1) (as := [.int _]) (st := []) (k := 4) (j := 24) d_EK_find_1 ws_EK_32 (k_checkStream x1) rfl rfl (Nat.le_of_ble_eq_true rfl) (by decide) (Nat.le_of_ble_eq_true rfl) (fun rv n' h' hq => ?_) (fun X n' h' hq => ?_)
  rotate_left
  · obtain ⟨rfl, hq⟩ := hq
    obtain ⟨hbad, rfl⟩ := ck_n hq
    exact kx_X.out (fun _ hx => nomatch hx) ⟨by unfold s_find; rw [if_neg hbad], by unfold s_find; rw [if_neg hbad]⟩
  obtain ⟨rfl, hq⟩ := hq
  obtain ⟨g1, rfl⟩ := ck_y hq
  refine kx_aload_n (pc := 4) d_EK_find_4 rfl ?_
  refine kw_getr (pc := 5) (r := 1) d_EK_find_5 fl_EK_10 rfl (by decide) rfl ?_
  refine kx_iload_n (pc := 8) d_EK_find_8 rfl ?_
  refine kx_iload_n (pc := 9) d_EK_find_9 rfl ?_
  refine kx_invV (pc := 10) (as := [.int _, .int _]) (st := []) (k := 4) (j := 24) d_EK_find_10 wv_EK_139 (wd_o rfl) (k_placeOf (a := a) (b := b) h1 h5) rfl rfl (Nat.le_of_ble_eq_true rfl) (by decide) (Nat.le_of_ble_eq_true rfl) (fun rv n' h' hq => ?_) (fun X n' h' hq => nomatch hq.2)
  obtain ⟨rfl, hq⟩ := hq
  cases hq
  refine kx_istore_n (pc := 13) (lv' := [(3, _), (0, _), (1, _), (2, _)]) d_EK_find_13 rfl (by decide) rfl ?_
  refine kx_iload_n (pc := 14) d_EK_find_14 rfl ?_
  refine kx_iconst (pc := 15) (x := -1) d_EK_find_15 (by decide) ?_
  refine kx_icmp_ne (pc := 16) (tgt := 29) d_EK_find_16 (by decide) (fun hz => ?_) (fun hz => ?_)
  · refine kx_iload_n (pc := 29) d_EK_find_29 rfl ?_
    exact kx_iret rfl d_EK_find_30 ⟨by unfold s_find; rw [if_pos g1, if_neg hz], by unfold s_find; rw [if_pos g1, if_neg hz]⟩
  · exact kx_throw (pc := 19) (k := 3) (j := 18) (tx := "the stream has no such version") d_EK_find_19 d_EK_find_22 d_EK_find_23 d_EK_find_25 d_EK_find_28 tx_EK_57_61 (by decide +kernel) (fun _ hx => nomatch hx) (by decide) (Nat.le_of_ble_eq_true rfl) ⟨by unfold s_find; rw [if_pos g1, if_pos hz], by unfold s_find; rw [if_pos g1, if_pos hz]⟩
end
section
def s_count (a : kW) (x1 x2 : Int32) : (Option Value ⊕ String) × kW := if x1 = 0 then (Sum.inl (some (.int (a.2.2 1 9))), a) else if x1 = 1 then (Sum.inl (some (.int (a.2.2 1 10))), a) else if x1 = 2 then (if 0 ≤ x2 ∧ x2 < 16 then (Sum.inl (some (.int (a.1 9 (nt x2)))), a) else (Sum.inr "java/lang/IllegalArgumentException", a)) else if x1 = 3 then (if 0 ≤ x2 ∧ x2 < 8 then (Sum.inl (some (.int (a.2.2 (12 + 5 * nt x2) 4))), a) else (Sum.inr "java/lang/IllegalArgumentException", a)) else if x1 = 4 then (if 0 ≤ x2 ∧ x2 < 8 then (Sum.inl (some (.int (a.2.2 (53 + nt x2) 2))), a) else (Sum.inr "java/lang/IllegalArgumentException", a)) else if x1 = 5 then (if 0 ≤ x2 ∧ x2 < 8 then (Sum.inl (some (.int (a.1 10 (nt x2)))), a) else (Sum.inr "java/lang/IllegalArgumentException", a)) else (Sum.inr "java/lang/IllegalArgumentException", a)
set_option maxHeartbeats 4000000 in
set_option maxRecDepth 100000 in
theorem k_count {E : kx_E} {n : Nat} {a b : kW} {x1 x2 : Int32} : kx_V E i_EK_count 8 5 30 (fun r _ h' => r = (s_count a x1 x2).1 ∧ h' = wd (wx (s_count a x1 x2).2 b)) 5 30 0 (lv_args 0 [.ref 0, .int x1, .int x2]) [] n (wd (wx a b)) := by
  refine kx_iload_n (pc := 0) d_EK_count_0 rfl ?_
  by_cases e0 : x1 = 0
  · refine kx_tsIn (pc := 1) (tgt := 40) d_EK_count_1 (by rw [e0]; decide) (by rw [e0]; decide) (by rw [e0]; rfl) (by decide) ?_
    refine kx_aload_n (pc := 40) d_EK_count_40 rfl ?_
    refine kw_getr (pc := 41) (r := 1) d_EK_count_41 fl_EK_10 rfl (by decide) rfl ?_
    refine ka_geti (pc := 44) d_EK_count_44 fl_EK_77 (by decide) rfl (by decide) rfl ?_
    exact kx_iret rfl d_EK_count_47 ⟨by unfold s_count; rw [if_pos e0], by unfold s_count; rw [if_pos e0]⟩
  by_cases e1 : x1 = 1
  · refine kx_tsIn (pc := 1) (tgt := 48) d_EK_count_1 (by rw [e1]; decide) (by rw [e1]; decide) (by rw [e1]; rfl) (by decide) ?_
    refine kx_aload_n (pc := 48) d_EK_count_48 rfl ?_
    refine kw_getr (pc := 49) (r := 1) d_EK_count_49 fl_EK_10 rfl (by decide) rfl ?_
    refine ka_geti (pc := 52) d_EK_count_52 fl_EK_108 (by decide) rfl (by decide) rfl ?_
    exact kx_iret rfl d_EK_count_55 ⟨by unfold s_count; rw [if_neg e0, if_pos e1], by unfold s_count; rw [if_neg e0, if_pos e1]⟩
  by_cases e2 : x1 = 2
  · refine kx_tsIn (pc := 1) (tgt := 56) d_EK_count_1 (by rw [e2]; decide) (by rw [e2]; decide) (by rw [e2]; rfl) (by decide) ?_
    refine kx_iload_n (pc := 56) d_EK_count_56 rfl ?_
    refine kx_invS (pc := 57) (as := [.int _]) (st := []) (k := 4) (j := 24) d_EK_count_57 ws_EK_32 (k_checkStream x2) rfl rfl (Nat.le_of_ble_eq_true rfl) (by decide) (Nat.le_of_ble_eq_true rfl) (fun rv n' h' hq => ?_) (fun X n' h' hq => ?_)
    rotate_left
    · obtain ⟨rfl, hq⟩ := hq
      obtain ⟨hbad, rfl⟩ := ck_n hq
      exact kx_X.out (fun _ hx => nomatch hx) ⟨by unfold s_count; rw [if_neg e0, if_neg e1, if_pos e2, if_neg hbad], by unfold s_count; rw [if_neg e0, if_neg e1, if_pos e2, if_neg hbad]⟩
    obtain ⟨rfl, hq⟩ := hq
    obtain ⟨g1, rfl⟩ := ck_y hq
    obtain ⟨s, hs, rfl, ns⟩ := nI_get (N := 16) (by decide) g1
    refine kx_aload_n (pc := 60) d_EK_count_60 rfl ?_
    refine kw_getr (pc := 61) (r := 1) d_EK_count_61 fl_EK_10 rfl (by decide) rfl ?_
    refine kw_getr (pc := 64) (r := 9) d_EK_count_64 fl_EK_42 rfl (by decide) rfl ?_
    refine kx_iload_n (pc := 67) d_EK_count_67 rfl ?_
    refine ka_iald (pc := 68) d_EK_count_68 (by decide) rfl ⟨rfl, hs, by decide⟩ ?_
    exact kx_iret rfl d_EK_count_69 ⟨by unfold s_count; rw [if_neg e0, if_neg e1, if_pos e2, if_pos g1, ns], by unfold s_count; rw [if_neg e0, if_neg e1, if_pos e2, if_pos g1, ns]⟩
  by_cases e3 : x1 = 3
  · refine kx_tsIn (pc := 1) (tgt := 70) d_EK_count_1 (by rw [e3]; decide) (by rw [e3]; decide) (by rw [e3]; rfl) (by decide) ?_
    refine kx_iload_n (pc := 70) d_EK_count_70 rfl ?_
    refine kx_invS (pc := 71) (as := [.int _]) (st := []) (k := 4) (j := 24) d_EK_count_71 ws_EK_66 (k_checkProjection x2) rfl rfl (Nat.le_of_ble_eq_true rfl) (by decide) (Nat.le_of_ble_eq_true rfl) (fun rv n' h' hq => ?_) (fun X n' h' hq => ?_)
    rotate_left
    · obtain ⟨rfl, hq⟩ := hq
      obtain ⟨hbad, rfl⟩ := ck_n hq
      exact kx_X.out (fun _ hx => nomatch hx) ⟨by unfold s_count; rw [if_neg e0, if_neg e1, if_neg e2, if_pos e3, if_neg hbad], by unfold s_count; rw [if_neg e0, if_neg e1, if_neg e2, if_pos e3, if_neg hbad]⟩
    obtain ⟨rfl, hq⟩ := hq
    obtain ⟨g1, rfl⟩ := ck_y hq
    obtain ⟨p, hp, rfl, np⟩ := nI_get (N := 8) (by decide) g1
    refine kx_aload_n (pc := 74) d_EK_count_74 rfl ?_
    refine kw_getr (pc := 75) (r := 11) d_EK_count_75 fl_EK_18 rfl (by decide) rfl ?_
    refine kx_iload_n (pc := 78) d_EK_count_78 rfl ?_
    refine kw_aald (pc := 79) d_EK_count_79 ⟨_, fun _ => rfl⟩ rfl ⟨rfl, hp, by decide⟩ (wq_p hp) ?_
    refine ka_geti (pc := 80) d_EK_count_80 fl_EK_145 (by omega) (wk_p0 hp) (by decide) (wf_p4 hp) ?_
    exact kx_iret rfl d_EK_count_83 ⟨by unfold s_count; rw [if_neg e0, if_neg e1, if_neg e2, if_pos e3, if_pos g1, np], by unfold s_count; rw [if_neg e0, if_neg e1, if_neg e2, if_pos e3, if_pos g1, np]⟩
  by_cases e4 : x1 = 4
  · refine kx_tsIn (pc := 1) (tgt := 84) d_EK_count_1 (by rw [e4]; decide) (by rw [e4]; decide) (by rw [e4]; rfl) (by decide) ?_
    refine kx_iload_n (pc := 84) d_EK_count_84 rfl ?_
    refine kx_invS (pc := 85) (as := [.int _]) (st := []) (k := 4) (j := 24) d_EK_count_85 ws_EK_91 (k_checkSubscription x2) rfl rfl (Nat.le_of_ble_eq_true rfl) (by decide) (Nat.le_of_ble_eq_true rfl) (fun rv n' h' hq => ?_) (fun X n' h' hq => ?_)
    rotate_left
    · obtain ⟨rfl, hq⟩ := hq
      obtain ⟨hbad, rfl⟩ := ck_n hq
      exact kx_X.out (fun _ hx => nomatch hx) ⟨by unfold s_count; rw [if_neg e0, if_neg e1, if_neg e2, if_neg e3, if_pos e4, if_neg hbad], by unfold s_count; rw [if_neg e0, if_neg e1, if_neg e2, if_neg e3, if_pos e4, if_neg hbad]⟩
    obtain ⟨rfl, hq⟩ := hq
    obtain ⟨g1, rfl⟩ := ck_y hq
    obtain ⟨u, hu, rfl, nu⟩ := nI_get (N := 8) (by decide) g1
    refine kx_aload_n (pc := 88) d_EK_count_88 rfl ?_
    refine kw_getr (pc := 89) (r := 52) d_EK_count_89 fl_EK_27 rfl (by decide) rfl ?_
    refine kx_iload_n (pc := 92) d_EK_count_92 rfl ?_
    refine kw_aald (pc := 93) d_EK_count_93 ⟨_, fun _ => rfl⟩ rfl ⟨rfl, hu, by decide⟩ (wq_s hu) ?_
    refine ka_geti (pc := 94) d_EK_count_94 fl_EK_148 (by omega) (wk_s hu) (by decide) (wf_s hu (by decide)) ?_
    exact kx_iret rfl d_EK_count_97 ⟨by unfold s_count; rw [if_neg e0, if_neg e1, if_neg e2, if_neg e3, if_pos e4, if_pos g1, nu], by unfold s_count; rw [if_neg e0, if_neg e1, if_neg e2, if_neg e3, if_pos e4, if_pos g1, nu]⟩
  by_cases e5 : x1 = 5
  · refine kx_tsIn (pc := 1) (tgt := 98) d_EK_count_1 (by rw [e5]; decide) (by rw [e5]; decide) (by rw [e5]; rfl) (by decide) ?_
    refine kx_iload_n (pc := 98) d_EK_count_98 rfl ?_
    refine kx_invS (pc := 99) (as := [.int _]) (st := []) (k := 4) (j := 24) d_EK_count_99 ws_EK_66 (k_checkProjection x2) rfl rfl (Nat.le_of_ble_eq_true rfl) (by decide) (Nat.le_of_ble_eq_true rfl) (fun rv n' h' hq => ?_) (fun X n' h' hq => ?_)
    rotate_left
    · obtain ⟨rfl, hq⟩ := hq
      obtain ⟨hbad, rfl⟩ := ck_n hq
      exact kx_X.out (fun _ hx => nomatch hx) ⟨by unfold s_count; rw [if_neg e0, if_neg e1, if_neg e2, if_neg e3, if_neg e4, if_pos e5, if_neg hbad], by unfold s_count; rw [if_neg e0, if_neg e1, if_neg e2, if_neg e3, if_neg e4, if_pos e5, if_neg hbad]⟩
    obtain ⟨rfl, hq⟩ := hq
    obtain ⟨g1, rfl⟩ := ck_y hq
    obtain ⟨p, hp, rfl, np⟩ := nI_get (N := 8) (by decide) g1
    refine kx_aload_n (pc := 102) d_EK_count_102 rfl ?_
    refine kw_getr (pc := 103) (r := 1) d_EK_count_103 fl_EK_10 rfl (by decide) rfl ?_
    refine kw_getr (pc := 106) (r := 10) d_EK_count_106 fl_EK_149 rfl (by decide) rfl ?_
    refine kx_iload_n (pc := 109) d_EK_count_109 rfl ?_
    refine ka_iald (pc := 110) d_EK_count_110 (by decide) rfl ⟨rfl, hp, by decide⟩ ?_
    exact kx_iret rfl d_EK_count_111 ⟨by unfold s_count; rw [if_neg e0, if_neg e1, if_neg e2, if_neg e3, if_neg e4, if_pos e5, if_pos g1, np], by unfold s_count; rw [if_neg e0, if_neg e1, if_neg e2, if_neg e3, if_neg e4, if_pos e5, if_pos g1, np]⟩
  have ho : x1.toInt < 0 ∨ 5 < x1.toInt := by
    have g : ∀ z : Int, x1.toInt = z → x1 = Int32.ofInt z := fun z hz => by rw [← hz, Int32.ofInt_toInt]
    rcases Int.lt_or_le x1.toInt 0 with w | w
    · exact Or.inl w
    · refine Or.inr ?_
      have n0 : x1.toInt ≠ 0 := fun e => e0 (g 0 e)
      have n1 : x1.toInt ≠ 1 := fun e => e1 (g 1 e)
      have n2 : x1.toInt ≠ 2 := fun e => e2 (g 2 e)
      have n3 : x1.toInt ≠ 3 := fun e => e3 (g 3 e)
      have n4 : x1.toInt ≠ 4 := fun e => e4 (g 4 e)
      have n5 : x1.toInt ≠ 5 := fun e => e5 (g 5 e)
      omega
  refine kx_tsOut (pc := 1) (tgt := 112) d_EK_count_1 ho (by decide) ?_
  exact kx_throw (pc := 112) (k := 4) (j := 24) (tx := "there is nothing such to count") d_EK_count_112 d_EK_count_115 d_EK_count_116 d_EK_count_118 d_EK_count_121 tx_EK_152_156 (by decide +kernel) (fun _ hx => nomatch hx) (by decide) (Nat.le_of_ble_eq_true rfl) ⟨by unfold s_count; rw [if_neg e0, if_neg e1, if_neg e2, if_neg e3, if_neg e4, if_neg e5], by unfold s_count; rw [if_neg e0, if_neg e1, if_neg e2, if_neg e3, if_neg e4, if_neg e5]⟩
def CIp (a : kW) (p : Nat) : Prop := ∃ sz q, a.2.2 1 9 = nI sz ∧ sz ≤ 500 ∧ q ≤ 500 ∧ a.2.2 (12 + 5 * p) 0 = nI p ∧ a.2.2 (12 + 5 * p) 4 = nI q ∧ ∀ k, k < sz → (∃ t, t < 8 ∧ a.1 4 k = nI t) ∧ ∃ s, s < 16 ∧ a.1 2 k = nI s
theorem f_count_cases {a : kW} {p q k sz : Nat} (h1 : a.2.2 1 9 = nI sz) : ((f_count a p q k sz).2.2.2 1 9 = nI sz ∧ (f_count a p q k sz).2.1 2 = a.1 2 ∧ (f_count a p q k sz).2.1 4 = a.1 4) ∨ (sz < 500 ∧ (f_count a p q k sz).2.2.2 1 9 = nI (sz + 1) ∧ (f_count a p q k sz).2.1 2 = upd (a.1 2) sz (nI (l4 (a.2.1 5 q))) ∧ (f_count a p q k sz).2.1 4 = upd (a.1 4) sz 7) := by
  unfold f_count
  split
  · split
    · exact Or.inl ⟨h1, rfl, rfl⟩
    · exact Or.inr ⟨by omega, rfl, rfl, rfl⟩
  · exact Or.inl ⟨h1, rfl, rfl⟩
theorem f_take_at {a : kW} {p sz q : Nat} (h1 : a.2.2 1 9 = nI sz) (h5 : sz ≤ 500) (hq : q ≤ 500) (hpos : a.2.2 (12 + 5 * p) 4 = nI q) : f_take a p = f_takeAt a p sz q := by
  unfold f_take
  rw [h1, hpos, nt_nI (by omega), nt_nI (by omega)]
theorem CIp.step {a : kW} {p : Nat} (h : CIp a p) : CIp (f_take a p).2 p := by
  obtain ⟨sz, q, h1, h5, hq, hn, hpos, hI⟩ := h
  rw [f_take_at h1 h5 hq hpos]
  unfold f_takeAt
  split
  · exact ⟨sz, q, h1, h5, hq, hn, hpos, hI⟩
  · rename_i hlt
    have hc := f_count_cases (p := p) (q := q) (k := f_cell a p q) h1
    have ho := f_count_o a p q (f_cell a p q) sz p
    have key : ∀ (v : Int32) (z : Nat), v = nI z → z ≤ 500 → CIp (uo (f_count a p q (f_cell a p q) sz).2 (12 + 5 * p) 4 v) p := by
      intro v z hv hz
      have o1 : (uo (f_count a p q (f_cell a p q) sz).2 (12 + 5 * p) 4 v).2.2 1 9 = (f_count a p q (f_cell a p q) sz).2.2.2 1 9 := uo_n (by omega)
      have o2 : (uo (f_count a p q (f_cell a p q) sz).2 (12 + 5 * p) 4 v).2.2 (12 + 5 * p) 0 = nI p := by rw [uo_k (by decide), ho 0]; exact hn
      have o3 : (uo (f_count a p q (f_cell a p q) sz).2 (12 + 5 * p) 4 v).2.2 (12 + 5 * p) 4 = nI z := by rw [uo_s]; exact hv
      rcases hc with ⟨g1, g2, g3⟩ | ⟨g0, g1, g2, g3⟩
      · refine ⟨sz, z, o1.trans g1, h5, hz, o2, o3, fun k hk => ?_⟩
        show (∃ t, t < 8 ∧ (f_count a p q (f_cell a p q) sz).2.1 4 k = nI t) ∧ ∃ s, s < 16 ∧ (f_count a p q (f_cell a p q) sz).2.1 2 k = nI s
        rw [g2, g3]
        exact hI k hk
      · refine ⟨sz + 1, z, o1.trans g1, by omega, hz, o2, o3, fun k hk => ?_⟩
        show (∃ t, t < 8 ∧ (f_count a p q (f_cell a p q) sz).2.1 4 k = nI t) ∧ ∃ s, s < 16 ∧ (f_count a p q (f_cell a p q) sz).2.1 2 k = nI s
        rw [g2, g3]
        by_cases e : k = sz
        · subst e
          exact ⟨⟨7, by decide, pk_us⟩, ⟨_, l4_lt _, pk_us⟩⟩
        · rw [pk_un e, pk_un e]
          exact hI k (by omega)
    split
    · split
      · exact key _ (q + 1) rfl (by omega)
      · have h9 := key (nI q) q rfl hq
        have e9 : uo (f_count a p q (f_cell a p q) sz).2 (12 + 5 * p) 4 (nI q) = (f_count a p q (f_cell a p q) sz).2 := by
          refine Prod.ext rfl (Prod.ext rfl (funext fun x => funext fun y => ?_))
          by_cases e : x = 12 + 5 * p ∧ y = 4
          · obtain ⟨rfl, rfl⟩ := e
            show (if _ then _ else _) = _
            rw [if_pos ⟨rfl, rfl⟩, ho 4, hpos]
          · show (if _ then _ else _) = _
            rw [if_neg e]
        rw [e9] at h9
        exact h9
    · refine ⟨sz, q + 1, ?_, h5, by omega, ?_, uo_s, fun k hk => hI k hk⟩
      · rw [uo_n (by omega)]; exact h1
      · rw [uo_k (by decide)]; exact hn
def f_advance (p : Nat) : Nat → Nat → kW → Nat × kW
  | 0, t, a => (t, a)
  | m + 1, t, a => if (f_take a p).1 then f_advance p m (t + 1) (f_take a p).2 else (t, (f_take a p).2)
set_option maxHeartbeats 4000000 in
set_option maxRecDepth 100000 in
theorem k_adv_loop {E : kx_E} {b : kW} {p N : Nat} (hp : p < 8) (hN : N ≤ 1000) (m : Nat) : ∀ (t : Nat) (a : kW), CIp a p → t + m = N → ∀ {Q : kx_Q}, (∀ n, Q (Sum.inl (some (.int (nI (f_advance p m t a).1)))) n (wd (wx (f_advance p m t a).2 b))) → ∀ n, kx_V E i_EK_advance 8 5 30 Q 3 18 25 [(3, .int (nI t)), (0, .ref 0), (1, .int (nI p)), (2, .int (nI N))] [] n (wd (wx a b)) := by
  induction m with
  | zero =>
    intro t a hC hm Q hQ n
    have hN2 : t = N := by omega
    subst hN2
    refine kx_iload_n (pc := 25) d_EK_advance_25 rfl ?_
    refine kx_iload_n (pc := 26) d_EK_advance_26 rfl ?_
    refine kx_icmp_ge (pc := 27) (tgt := 54) d_EK_advance_27 (by decide) (fun _ => ?_) (fun hz => absurd (nI_le (Nat.le_refl t) (by omega)) hz)
    refine kx_iload_n (pc := 54) d_EK_advance_54 rfl ?_
    exact kx_iret rfl d_EK_advance_55 (hQ _)
  | succ m ih =>
    intro t a hC hm Q hQ n
    have hlt : t < N := by omega
    obtain ⟨sz, q, h1, h5, hq5, hn, hpos, hI⟩ := id hC
    have et := f_take_at h1 h5 hq5 hpos
    refine kx_iload_n (pc := 25) d_EK_advance_25 rfl ?_
    refine kx_iload_n (pc := 26) d_EK_advance_26 rfl ?_
    refine kx_icmp_ge (pc := 27) (tgt := 54) d_EK_advance_27 (by decide) (fun hz => absurd hz (nI_ge hlt (by omega))) (fun _ => ?_)
    refine kx_aload_n (pc := 30) d_EK_advance_30 rfl ?_
    refine kw_getr (pc := 31) (r := 11) d_EK_advance_31 fl_EK_18 rfl (by decide) rfl ?_
    refine kx_iload_n (pc := 34) d_EK_advance_34 rfl ?_
    refine kw_aald (pc := 35) d_EK_advance_35 ⟨_, fun _ => rfl⟩ rfl ⟨rfl, hp, by decide⟩ (wq_p hp) ?_
    refine kx_aload_n (pc := 36) d_EK_advance_36 rfl ?_
    refine kw_getr (pc := 37) (r := 1) d_EK_advance_37 fl_EK_10 rfl (by decide) rfl ?_
    refine kx_invV (pc := 40) (as := [.ref _]) (st := []) (k := 3) (j := 18) d_EK_advance_40 wv_EK_73 (wd_o (wk_p0 hp)) (k_takeOne (a := a) (b := b) hp hq5 h1 h5 hn hpos hI) rfl rfl (Nat.le_of_ble_eq_true rfl) (by decide) (Nat.le_of_ble_eq_true rfl) (fun rv n' h' hq => ?_) (fun X n' h' hq => nomatch hq.1)
    obtain ⟨hq, rfl⟩ := hq
    cases hq
    rw [← et]
    refine kx_if_ne (pc := 43) (tgt := 48) d_EK_advance_43 (by decide) (fun hz => ?_) (fun hz => ?_)
    · have hy : (f_take a p).1 = true := by
        cases hw : (f_take a p).1
        · rw [hw] at hz
          exact absurd rfl hz
        · rfl
      refine kx_iinc (pc := 48) (y := nI (t + 1)) (lv' := [(3, _), (0, _), (1, _), (2, _)]) d_EK_advance_48 rfl (nI_1 t) (by decide) rfl ?_
      refine kx_goto (pc := 51) (tgt := 25) d_EK_advance_51 (by decide) ?_
      exact ih (t + 1) (f_take a p).2 hC.step (by omega) (fun n => by rw [← show f_advance p (m + 1) t a = f_advance p m (t + 1) (f_take a p).2 from if_pos hy]; exact hQ n) _
    · have hy : ¬ (f_take a p).1 = true := fun hw => by
        rw [hw] at hz
        exact absurd hz (by decide)
      have e0 : f_advance p (m + 1) t a = (t, (f_take a p).2) := if_neg hy
      rw [e0] at hQ
      refine kx_iload_n (pc := 46) d_EK_advance_46 rfl ?_
      exact kx_iret rfl d_EK_advance_47 (hQ _)
def s_adv (a : kW) (x1 x2 : Int32) : (Option Value ⊕ String) × kW := if 0 ≤ x1 ∧ x1 < 8 then if 0 ≤ x2 ∧ x2 ≤ 1000 then (Sum.inl (some (.int (nI (f_advance (nt x1) (nt x2) 0 a).1))), (f_advance (nt x1) (nt x2) 0 a).2) else (Sum.inr "java/lang/IllegalArgumentException", a) else (Sum.inr "java/lang/IllegalArgumentException", a)
set_option maxHeartbeats 4000000 in
set_option maxRecDepth 100000 in
theorem k_advance {E : kx_E} {n : Nat} {a b : kW} {x1 x2 : Int32} (hC : ∀ p, p < 8 → CIp a p) : kx_V E i_EK_advance 8 5 30 (fun r _ h' => r = (s_adv a x1 x2).1 ∧ h' = wd (wx (s_adv a x1 x2).2 b)) 5 30 0 (lv_args 0 [.ref 0, .int x1, .int x2]) [] n (wd (wx a b)) := by
  refine kx_iload_n (pc := 0) d_EK_advance_0 rfl ?_
  refine kx_invS (pc := 1) (as := [.int _]) (st := []) (k := 4) (j := 24) d_EK_advance_1 ws_EK_66 (k_checkProjection x1) rfl rfl (Nat.le_of_ble_eq_true rfl) (by decide) (Nat.le_of_ble_eq_true rfl) (fun rv n' h' hq => ?_) (fun X n' h' hq => ?_)
  rotate_left
  · obtain ⟨rfl, hq⟩ := hq
    obtain ⟨hbad, rfl⟩ := ck_n hq
    exact kx_X.out (fun _ hx => nomatch hx) ⟨by unfold s_adv; rw [if_neg hbad], by unfold s_adv; rw [if_neg hbad]⟩
  obtain ⟨rfl, hq⟩ := hq
  obtain ⟨g1, rfl⟩ := ck_y hq
  obtain ⟨p, hp, rfl, np⟩ := nI_get (N := 8) (by decide) g1
  refine kx_iload_n (pc := 4) d_EK_advance_4 rfl ?_
  refine kx_if_lt (pc := 5) (tgt := 19) d_EK_advance_5 (by decide) (fun g21 => ?_) (fun g21 => ?_)
  · refine kx_iconst (pc := 19) (x := 0) d_EK_advance_19 (by decide) ?_
    refine kx_invS (pc := 20) (as := [.int _]) (st := []) (k := 3) (j := 18) d_EK_advance_20 ws_EK_35 (k_checkArgument 0) rfl rfl (Nat.le_of_ble_eq_true rfl) (by decide) (Nat.le_of_ble_eq_true rfl) (fun rv n' h' hq => absurd rfl (ca_y hq.2).1) (fun X n' h' hq => ?_)
    obtain ⟨rfl, hq⟩ := hq
    obtain ⟨-, rfl⟩ := ca_n hq
    exact kx_X.out (fun _ hx => nomatch hx) ⟨by unfold s_adv; rw [if_pos g1, if_neg (fun w => Int32.not_lt.mpr w.1 g21)], by unfold s_adv; rw [if_pos g1, if_neg (fun w => Int32.not_lt.mpr w.1 g21)]⟩
  · refine kx_iload_n (pc := 8) d_EK_advance_8 rfl ?_
    refine kx_sipush (pc := 9) (x := 1000) d_EK_advance_9 (by decide) ?_
    refine kx_icmp_gt (pc := 12) (tgt := 19) d_EK_advance_12 (by decide) (fun g22 => ?_) (fun g22 => ?_)
    · refine kx_iconst (pc := 19) (x := 0) d_EK_advance_19 (by decide) ?_
      refine kx_invS (pc := 20) (as := [.int _]) (st := []) (k := 3) (j := 18) d_EK_advance_20 ws_EK_35 (k_checkArgument 0) rfl rfl (Nat.le_of_ble_eq_true rfl) (by decide) (Nat.le_of_ble_eq_true rfl) (fun rv n' h' hq => absurd rfl (ca_y hq.2).1) (fun X n' h' hq => ?_)
      obtain ⟨rfl, hq⟩ := hq
      obtain ⟨-, rfl⟩ := ca_n hq
      exact kx_X.out (fun _ hx => nomatch hx) ⟨by unfold s_adv; rw [if_pos g1, if_neg (fun w => Int32.not_lt.mpr w.2 g22)], by unfold s_adv; rw [if_pos g1, if_neg (fun w => Int32.not_lt.mpr w.2 g22)]⟩
    · have g2 : 0 ≤ x2 ∧ x2 ≤ 1000 := ⟨Int32.not_lt.mp g21, Int32.not_lt.mp g22⟩
      refine kx_iconst (pc := 15) (x := 1) d_EK_advance_15 (by decide) ?_
      refine kx_goto (pc := 16) (tgt := 20) d_EK_advance_16 (by decide) ?_
      refine kx_invS (pc := 20) (as := [.int _]) (st := []) (k := 3) (j := 18) d_EK_advance_20 ws_EK_35 (k_checkArgument 1) rfl rfl (Nat.le_of_ble_eq_true rfl) (by decide) (Nat.le_of_ble_eq_true rfl) (fun rv n' h' hq => ?_) (fun X n' h' hq => absurd (ca_n hq.2).1 (by decide))
      obtain ⟨rfl, hq⟩ := hq
      obtain ⟨-, rfl⟩ := ca_y hq
      obtain ⟨N, hN, rfl⟩ := nI_of2 (M := 1000) (n := 1000) (by decide) (Int32.not_lt.mpr g2.1) g2.2
      have nN : nt (nI N) = N := nt_nI (by omega)
      refine kx_iconst (pc := 23) (x := 0) d_EK_advance_23 (by decide) ?_
      refine kx_eqi (show (0 : Int32) = nI 0 from rfl) ?_
      refine kx_istore_n (pc := 24) (lv' := [(3, _), (0, _), (1, _), (2, _)]) d_EK_advance_24 rfl (by decide) rfl ?_
      refine k_adv_loop hp hN N 0 a (hC p hp) (by omega) (fun _ => ?_) _
      exact ⟨by unfold s_adv; rw [if_pos g1, if_pos g2, np, nN], by unfold s_adv; rw [if_pos g1, if_pos g2, np, nN]⟩
end
section
def f_syncL : Nat → Nat → kW → kW
  | 0, _, a => a
  | m + 1, u, a => f_syncL m (u + 1) (f_safe a u)
def f_crP (x : Int32) : Nat → Nat → kW → kW
  | 0, _, a => a
  | m + 1, p, a => f_crP x m (p + 1) (f_recover a p x)
def f_crS (x : Int32) : Nat → Nat → kW → kW
  | 0, _, a => a
  | m + 1, u, a => f_crS x m (u + 1) (f_srec a u x)
theorem f_recover_9 (a : kW) (p : Nat) (x : Int32) : (f_recover a p x).2.2 1 9 = a.2.2 1 9 := by
  unfold f_recover f_over
  split
  · rw [uo_n (by omega), uo_n (by omega)]; rfl
  · rw [uo_n (by omega)]; rfl
def s_sync (a : kW) : kW := f_syncL 8 0 (uo a 1 10 (a.2.2 1 9))
def s_crash (a : kW) (sz du : Nat) : kW := f_crS (nI du) 8 0 (f_crP (nI du) 8 0 (uo (f_drop (sz - du) du a) 1 9 (nI du)))
set_option maxHeartbeats 4000000 in
set_option maxRecDepth 100000 in
theorem k_sync_loop {E : kx_E} {b : kW} {x : Int32} (m : Nat) : ∀ (i : Nat) (a : kW), i + m = 8 → a.2.2 1 9 = x → ∀ {Q : kx_Q}, (∀ n, Q (Sum.inl (some (.int x))) n (wd (wx (f_syncL m i a) b))) → ∀ n, kx_V E i_EK_sync 8 0 0 Q 0 0 16 [(1, .int (nI i)), (0, .ref 0)] [] n (wd (wx a b)) := by
  induction m with
  | zero =>
    intro i a hm hx Q hQ n
    have h8 : i = 8 := by omega
    subst h8
    refine kx_iload_n (pc := 16) d_EK_sync_16 rfl ?_
    refine kx_bipush (pc := 17) (x := 8) d_EK_sync_17 (by decide) ?_
    refine kx_eqi (show (8 : Int32) = nI 8 from rfl) ?_
    refine kx_icmp_ge (pc := 19) (tgt := 37) d_EK_sync_19 (by decide) (fun _ => ?_) (fun hz => absurd (nI_le (Nat.le_refl 8) (by omega)) hz)
    refine kx_aload_n (pc := 37) d_EK_sync_37 rfl ?_
    refine kw_getr (pc := 38) (r := 1) d_EK_sync_38 fl_EK_10 rfl (by decide) rfl ?_
    refine ka_geti (pc := 41) d_EK_sync_41 fl_EK_77 (by decide) rfl (by decide) rfl ?_
    refine kx_eqi hx ?_
    exact kx_iret rfl d_EK_sync_44 (hQ _)
  | succ m ih =>
    intro i a hm hx Q hQ n
    have hlt : i < 8 := by omega
    refine kx_iload_n (pc := 16) d_EK_sync_16 rfl ?_
    refine kx_bipush (pc := 17) (x := 8) d_EK_sync_17 (by decide) ?_
    refine kx_eqi (show (8 : Int32) = nI 8 from rfl) ?_
    refine kx_icmp_ge (pc := 19) (tgt := 37) d_EK_sync_19 (by decide) (fun hz => absurd hz (nI_ge hlt (by omega))) (fun _ => ?_)
    refine kx_aload_n (pc := 22) d_EK_sync_22 rfl ?_
    refine kw_getr (pc := 23) (r := 52) d_EK_sync_23 fl_EK_27 rfl (by decide) rfl ?_
    refine kx_iload_n (pc := 26) d_EK_sync_26 rfl ?_
    refine kw_aald (pc := 27) d_EK_sync_27 ⟨_, fun _ => rfl⟩ rfl ⟨rfl, hlt, by decide⟩ (wq_s hlt) ?_
    refine kx_invV (pc := 28) (as := []) (st := []) (k := 0) (j := 0) d_EK_sync_28 wv_EK_111 (wd_o (wk_s hlt)) (k_makeSafe (a := a) (b := b) hlt) rfl rfl (Nat.le_of_ble_eq_true rfl) (by decide) (Nat.le_of_ble_eq_true rfl) (fun rv n' h' hq => ?_) (fun X n' h' hq => nomatch hq.2)
    obtain ⟨rfl, hq⟩ := hq
    cases hq
    refine kx_iinc (pc := 31) (y := nI (i + 1)) (lv' := [(1, _), (0, _)]) d_EK_sync_31 rfl (nI_1 i) (by decide) rfl ?_
    refine kx_goto (pc := 34) (tgt := 16) d_EK_sync_34 (by decide) ?_
    exact ih (i + 1) (f_safe a i) (by omega) (by show (uo a (53 + i) 3 _).2.2 1 9 = x; rw [uo_n (by omega)]; exact hx) hQ _
set_option maxHeartbeats 4000000 in
set_option maxRecDepth 100000 in
theorem k_sync {E : kx_E} {n : Nat} {a b : kW} : kx_V E i_EK_sync 8 0 0 (fun r _ h' => h' = wd (wx (s_sync a) b) ∧ r = Sum.inl (some (.int (a.2.2 1 9)))) 0 0 0 (lv_args 0 [.ref 0]) [] n (wd (wx a b)) := by
  refine kx_aload_n (pc := 0) d_EK_sync_0 rfl ?_
  refine kw_getr (pc := 1) (r := 1) d_EK_sync_1 fl_EK_10 rfl (by decide) rfl ?_
  refine kx_aload_n (pc := 4) d_EK_sync_4 rfl ?_
  refine kw_getr (pc := 5) (r := 1) d_EK_sync_5 fl_EK_10 rfl (by decide) rfl ?_
  refine ka_geti (pc := 8) d_EK_sync_8 fl_EK_77 (by decide) rfl (by decide) rfl ?_
  refine ka_puti (pc := 11) d_EK_sync_11 fl_EK_108 fw_L_10 (by decide) rfl (by decide) rfl ?_
  refine kx_iconst (pc := 14) (x := 0) d_EK_sync_14 (by decide) ?_
  refine kx_eqi (show (0 : Int32) = nI 0 from rfl) ?_
  refine kx_istore_n (pc := 15) (lv' := [(1, _), (0, _)]) d_EK_sync_15 rfl (by decide) rfl ?_
  exact k_sync_loop 8 0 (uo a 1 10 (a.2.2 1 9)) rfl rfl (fun _ => ⟨rfl, rfl⟩) _
set_option maxHeartbeats 4000000 in
set_option maxRecDepth 100000 in
theorem k_crS_loop {E : kx_E} {b : kW} {x : Int32} (m : Nat) : ∀ (i : Nat) (a : kW), i + m = 8 → a.2.2 1 9 = x → ∀ {Q : kx_Q}, (∀ n, Q (Sum.inl (some (.int x))) n (wd (wx (f_crS x m i a) b))) → ∀ n, kx_V E i_EK_crash 8 0 0 Q 0 0 39 [(1, .int (nI i)), (0, .ref 0)] [] n (wd (wx a b)) := by
  induction m with
  | zero =>
    intro i a hm hx Q hQ n
    have h8 : i = 8 := by omega
    subst h8
    refine kx_iload_n (pc := 39) d_EK_crash_39 rfl ?_
    refine kx_bipush (pc := 40) (x := 8) d_EK_crash_40 (by decide) ?_
    refine kx_eqi (show (8 : Int32) = nI 8 from rfl) ?_
    refine kx_icmp_ge (pc := 42) (tgt := 67) d_EK_crash_42 (by decide) (fun _ => ?_) (fun hz => absurd (nI_le (Nat.le_refl 8) (by omega)) hz)
    refine kx_aload_n (pc := 67) d_EK_crash_67 rfl ?_
    refine kw_getr (pc := 68) (r := 1) d_EK_crash_68 fl_EK_10 rfl (by decide) rfl ?_
    refine ka_geti (pc := 71) d_EK_crash_71 fl_EK_77 (by decide) rfl (by decide) rfl ?_
    refine kx_eqi hx ?_
    exact kx_iret rfl d_EK_crash_74 (hQ _)
  | succ m ih =>
    intro i a hm hx Q hQ n
    have hlt : i < 8 := by omega
    refine kx_iload_n (pc := 39) d_EK_crash_39 rfl ?_
    refine kx_bipush (pc := 40) (x := 8) d_EK_crash_40 (by decide) ?_
    refine kx_eqi (show (8 : Int32) = nI 8 from rfl) ?_
    refine kx_icmp_ge (pc := 42) (tgt := 67) d_EK_crash_42 (by decide) (fun hz => absurd hz (nI_ge hlt (by omega))) (fun _ => ?_)
    refine kx_aload_n (pc := 45) d_EK_crash_45 rfl ?_
    refine kw_getr (pc := 46) (r := 52) d_EK_crash_46 fl_EK_27 rfl (by decide) rfl ?_
    refine kx_iload_n (pc := 49) d_EK_crash_49 rfl ?_
    refine kw_aald (pc := 50) d_EK_crash_50 ⟨_, fun _ => rfl⟩ rfl ⟨rfl, hlt, by decide⟩ (wq_s hlt) ?_
    refine kx_aload_n (pc := 51) d_EK_crash_51 rfl ?_
    refine kw_getr (pc := 52) (r := 1) d_EK_crash_52 fl_EK_10 rfl (by decide) rfl ?_
    refine ka_geti (pc := 55) d_EK_crash_55 fl_EK_77 (by decide) rfl (by decide) rfl ?_
    refine kx_eqi hx ?_
    refine kx_invV (pc := 58) (as := [.int _]) (st := []) (k := 0) (j := 0) d_EK_crash_58 wv_EK_120 (wd_o (wk_s hlt)) (k_srecover (a := a) (b := b) hlt) rfl rfl (Nat.le_of_ble_eq_true rfl) (by decide) (Nat.le_of_ble_eq_true rfl) (fun rv n' h' hq => ?_) (fun X n' h' hq => nomatch hq.2)
    obtain ⟨rfl, hq⟩ := hq
    cases hq
    refine kx_iinc (pc := 61) (y := nI (i + 1)) (lv' := [(1, _), (0, _)]) d_EK_crash_61 rfl (nI_1 i) (by decide) rfl ?_
    refine kx_goto (pc := 64) (tgt := 39) d_EK_crash_64 (by decide) ?_
    exact ih (i + 1) (f_srec a i x) (by omega) (by show (uo a (53 + i) 2 _).2.2 1 9 = x; rw [uo_n (by omega)]; exact hx) hQ _
set_option maxHeartbeats 4000000 in
set_option maxRecDepth 100000 in
theorem k_crP_loop {E : kx_E} {b : kW} {x : Int32} (m : Nat) : ∀ (i : Nat) (a : kW), i + m = 8 → a.2.2 1 9 = x → ∀ {Q : kx_Q}, (∀ n, Q (Sum.inl (some (.int x))) n (wd (wx (f_crS x 8 0 (f_crP x m i a)) b))) → ∀ n, kx_V E i_EK_crash 8 0 0 Q 0 0 9 [(1, .int (nI i)), (0, .ref 0)] [] n (wd (wx a b)) := by
  induction m with
  | zero =>
    intro i a hm hx Q hQ n
    have h8 : i = 8 := by omega
    subst h8
    refine kx_iload_n (pc := 9) d_EK_crash_9 rfl ?_
    refine kx_bipush (pc := 10) (x := 8) d_EK_crash_10 (by decide) ?_
    refine kx_eqi (show (8 : Int32) = nI 8 from rfl) ?_
    refine kx_icmp_ge (pc := 12) (tgt := 37) d_EK_crash_12 (by decide) (fun _ => ?_) (fun hz => absurd (nI_le (Nat.le_refl 8) (by omega)) hz)
    refine kx_iconst (pc := 37) (x := 0) d_EK_crash_37 (by decide) ?_
    refine kx_eqi (show (0 : Int32) = nI 0 from rfl) ?_
    refine kx_istore_n (pc := 38) (lv' := [(1, _), (0, _)]) d_EK_crash_38 rfl (by decide) rfl ?_
    exact k_crS_loop 8 0 a rfl hx hQ _
  | succ m ih =>
    intro i a hm hx Q hQ n
    have hlt : i < 8 := by omega
    refine kx_iload_n (pc := 9) d_EK_crash_9 rfl ?_
    refine kx_bipush (pc := 10) (x := 8) d_EK_crash_10 (by decide) ?_
    refine kx_eqi (show (8 : Int32) = nI 8 from rfl) ?_
    refine kx_icmp_ge (pc := 12) (tgt := 37) d_EK_crash_12 (by decide) (fun hz => absurd hz (nI_ge hlt (by omega))) (fun _ => ?_)
    refine kx_aload_n (pc := 15) d_EK_crash_15 rfl ?_
    refine kw_getr (pc := 16) (r := 11) d_EK_crash_16 fl_EK_18 rfl (by decide) rfl ?_
    refine kx_iload_n (pc := 19) d_EK_crash_19 rfl ?_
    refine kw_aald (pc := 20) d_EK_crash_20 ⟨_, fun _ => rfl⟩ rfl ⟨rfl, hlt, by decide⟩ (wq_p hlt) ?_
    refine kx_aload_n (pc := 21) d_EK_crash_21 rfl ?_
    refine kw_getr (pc := 22) (r := 1) d_EK_crash_22 fl_EK_10 rfl (by decide) rfl ?_
    refine ka_geti (pc := 25) d_EK_crash_25 fl_EK_77 (by decide) rfl (by decide) rfl ?_
    refine kx_eqi hx ?_
    refine kx_invV (pc := 28) (as := [.int _]) (st := []) (k := 0) (j := 0) d_EK_crash_28 wv_EK_117 (wd_o (wk_p0 hlt)) (k_precover (a := a) (b := b) hlt) rfl rfl (Nat.le_of_ble_eq_true rfl) (by decide) (Nat.le_of_ble_eq_true rfl) (fun rv n' h' hq => ?_) (fun X n' h' hq => nomatch hq.2)
    obtain ⟨rfl, hq⟩ := hq
    cases hq
    refine kx_iinc (pc := 31) (y := nI (i + 1)) (lv' := [(1, _), (0, _)]) d_EK_crash_31 rfl (nI_1 i) (by decide) rfl ?_
    refine kx_goto (pc := 34) (tgt := 9) d_EK_crash_34 (by decide) ?_
    exact ih (i + 1) (f_recover a i x) (by omega) ((f_recover_9 a i x).trans hx) hQ _
set_option maxHeartbeats 4000000 in
set_option maxRecDepth 100000 in
theorem k_crash {E : kx_E} {n : Nat} {a b : kW} {sz du : Nat} (h1 : a.2.2 1 9 = nI sz) (h2 : a.2.2 1 10 = nI du) (h5 : sz ≤ 500) (hd : du ≤ sz) (hI : ∀ k, k < sz → (∃ s, s < 16 ∧ a.1 2 k = nI s) ∧ (a.1 6 k = -1 ∨ ∃ p c, p < 8 ∧ c < 500 ∧ a.1 6 k = nI p ∧ a.1 7 k = nI c)) : kx_V E i_EK_crash 8 0 0 (fun r _ h' => h' = wd (wx (s_crash a sz du) b) ∧ r = Sum.inl (some (.int (nI du)))) 0 0 0 (lv_args 0 [.ref 0]) [] n (wd (wx a b)) := by
  refine kx_aload_n (pc := 0) d_EK_crash_0 rfl ?_
  refine kw_getr (pc := 1) (r := 1) d_EK_crash_1 fl_EK_10 rfl (by decide) rfl ?_
  refine kx_invV (pc := 4) (as := []) (st := []) (k := 0) (j := 0) d_EK_crash_4 wv_EK_114 (wd_o rfl) (k_dropUndurable (a := a) (b := b) h1 h2 h5 hd hI) rfl rfl (Nat.le_of_ble_eq_true rfl) (by decide) (Nat.le_of_ble_eq_true rfl) (fun rv n' h' hq => ?_) (fun X n' h' hq => nomatch hq.2)
  obtain ⟨rfl, hq⟩ := hq
  cases hq
  refine kx_iconst (pc := 7) (x := 0) d_EK_crash_7 (by decide) ?_
  refine kx_eqi (show (0 : Int32) = nI 0 from rfl) ?_
  refine kx_istore_n (pc := 8) (lv' := [(1, _), (0, _)]) d_EK_crash_8 rfl (by decide) rfl ?_
  exact k_crP_loop 8 0 _ rfl uo_s (fun _ => ⟨rfl, rfl⟩) _
end
section
theorem oz {c : Prop} [Decidable c] : (if c then (1 : Int32) else 0) = 0 ↔ ¬ c := by by_cases h : c <;> simp [h]
theorem oy {c : Prop} [Decidable c] (w : ¬ ((if c then (1 : Int32) else 0) = 0)) : c := Classical.byContradiction (fun h => w (oz.mpr h))
set_option maxHeartbeats 4000000 in
set_option maxRecDepth 100000 in
theorem k_in {E : kx_E} {n : Nat} {hh : kx_H} {v x y : Int32} : kx_V E i_M_in 1 0 0 (fun r _ h' => h' = hh ∧ r = Sum.inl (some (.int (if x ≤ v ∧ v ≤ y then 1 else 0)))) 0 0 0 (lv_args 0 [.int v, .int x, .int y]) [] n hh := by
  refine kx_iload_n (pc := 0) d_M_in_0 rfl ?_
  refine kx_iload_n (pc := 1) d_M_in_1 rfl ?_
  refine kx_icmp_lt (pc := 2) (tgt := 14) d_M_in_2 (by decide) (fun y1 => ?_) (fun y1 => ?_)
  · refine kx_iconst (pc := 14) (x := 0) d_M_in_14 (by decide) ?_
    exact kx_zret rfl rfl d_M_in_15 ⟨rfl, by rw [if_neg (fun w => Int32.not_lt.mpr w.1 y1)]⟩
  · refine kx_iload_n (pc := 5) d_M_in_5 rfl ?_
    refine kx_iload_n (pc := 6) d_M_in_6 rfl ?_
    refine kx_icmp_gt (pc := 7) (tgt := 14) d_M_in_7 (by decide) (fun y2 => ?_) (fun y2 => ?_)
    · refine kx_iconst (pc := 14) (x := 0) d_M_in_14 (by decide) ?_
      exact kx_zret rfl rfl d_M_in_15 ⟨rfl, by rw [if_neg (fun w => Int32.not_lt.mpr w.2 y2)]⟩
    · refine kx_iconst (pc := 10) (x := 1) d_M_in_10 (by decide) ?_
      refine kx_goto (pc := 11) (tgt := 15) d_M_in_11 (by decide) ?_
      exact kx_zret rfl rfl d_M_in_15 ⟨rfl, by rw [if_pos (And.intro (Int32.not_lt.mp y1) (Int32.not_lt.mp y2))]⟩
set_option maxHeartbeats 4000000 in
set_option maxRecDepth 100000 in
theorem k_thrown {E : kx_E} {n : Nat} {a b : kW} : kx_V E i_M_thrown 1 0 0 (fun r _ h' => h' = wd (wx a b) ∧ r = Sum.inl (some (.int (b.2.2 61 0)))) 0 0 0 (lv_args 0 [.ref 61]) [] n (wd (wx a b)) := by
  refine kx_aload_n (pc := 0) d_M_thrown_0 rfl ?_
  refine km_geti (pc := 1) d_M_thrown_1 fl_M_59 (by decide) rfl (by decide) rfl ?_
  exact kx_iret rfl d_M_thrown_4 ⟨rfl, rfl⟩
set_option maxHeartbeats 4000000 in
set_option maxRecDepth 100000 in
theorem k_fails0 {E : kx_E} {n : Nat} {a b : kW} {c : Int32} (he : b.2.2 61 0 = 0) : kx_V E i_M_fails 1 0 0 (fun r _ h' => h' = wd (wx a b) ∧ r = Sum.inl (some (.int 0))) 0 0 0 (lv_args 0 [.ref 61, .int 0, .int c]) [] n (wd (wx a b)) := by
  refine kx_iload_n (pc := 0) d_M_fails_0 rfl ?_
  refine kx_if_eq (pc := 1) (tgt := 16) d_M_fails_1 (by decide) (fun _ => ?_) (fun hz => absurd rfl hz)
  refine kx_aload_n (pc := 16) d_M_fails_16 rfl ?_
  refine km_geti (pc := 17) d_M_fails_17 fl_M_59 (by decide) rfl (by decide) rfl ?_
  refine kx_if_eq (pc := 20) (tgt := 27) d_M_fails_20 (by decide) (fun _ => ?_) (fun hz => absurd he hz)
  refine kx_iconst (pc := 27) (x := 0) d_M_fails_27 (by decide) ?_
  exact kx_zret rfl rfl d_M_fails_28 ⟨rfl, rfl⟩
set_option maxHeartbeats 4000000 in
set_option maxRecDepth 100000 in
theorem k_fails1 {E : kx_E} {n : Nat} {a b : kW} {c : Int32} (he : b.2.2 61 0 = 0) (hc : ¬ c = 0) : kx_V E i_M_fails 1 0 0 (fun r _ h' => h' = wd (wx a (uo b 61 0 c)) ∧ r = Sum.inl (some (.int 1))) 0 0 0 (lv_args 0 [.ref 61, .int 1, .int c]) [] n (wd (wx a b)) := by
  refine kx_iload_n (pc := 0) d_M_fails_0 rfl ?_
  refine kx_if_eq (pc := 1) (tgt := 16) d_M_fails_1 (by decide) (fun hz => absurd hz (by decide)) (fun _ => ?_)
  refine kx_aload_n (pc := 4) d_M_fails_4 rfl ?_
  refine km_geti (pc := 5) d_M_fails_5 fl_M_59 (by decide) rfl (by decide) rfl ?_
  refine kx_if_ne (pc := 8) (tgt := 16) d_M_fails_8 (by decide) (fun hz => absurd hz (fun w => w he)) (fun _ => ?_)
  refine kx_aload_n (pc := 11) d_M_fails_11 rfl ?_
  refine kx_iload_n (pc := 12) d_M_fails_12 rfl ?_
  refine km_puti (pc := 13) d_M_fails_13 fl_M_59 fw_M_0 (by decide) rfl (by decide) rfl ?_
  refine kx_aload_n (pc := 16) d_M_fails_16 rfl ?_
  refine km_geti (pc := 17) d_M_fails_17 fl_M_59 (by decide) rfl (by decide) rfl ?_
  refine kx_if_eq (pc := 20) (tgt := 27) d_M_fails_20 (by decide) (fun hz => absurd hz (by rw [uo_s]; exact hc)) (fun _ => ?_)
  refine kx_iconst (pc := 23) (x := 1) d_M_fails_23 (by decide) ?_
  refine kx_goto (pc := 24) (tgt := 28) d_M_fails_24 (by decide) ?_
  exact kx_zret rfl rfl d_M_fails_28 ⟨rfl, rfl⟩
set_option maxHeartbeats 4000000 in
set_option maxRecDepth 100000 in
theorem k_isProjection {E : kx_E} {n : Nat} {hh : kx_H} {x : Int32} : kx_V E i_M_isProjection 2 0 0 (fun r _ h' => h' = hh ∧ r = Sum.inl (some (.int (if 0 ≤ x ∧ x ≤ 7 then 1 else 0)))) 0 0 0 (lv_args 0 [.int x]) [] n hh := by
  refine kx_iload_n (pc := 0) d_M_isProjection_0 rfl ?_
  refine kx_iconst (pc := 1) (x := 0) d_M_isProjection_1 (by decide) ?_
  refine kx_bipush (pc := 2) (x := 7) d_M_isProjection_2 (by decide) ?_
  refine kx_invS (pc := 4) (as := [.int _, .int _, .int _]) (st := []) (k := 0) (j := 0) d_M_isProjection_4 ws_M_66 k_in rfl rfl (Nat.le_of_ble_eq_true rfl) (by decide) (Nat.le_of_ble_eq_true rfl) (fun rv n' h' hq => ?_) (fun X n' h' hq => nomatch hq.2)
  obtain ⟨rfl, hq⟩ := hq
  cases hq
  exact kx_zret rfl (by by_cases w : 0 ≤ x ∧ x ≤ 7 <;> simp [w, narrow]) d_M_isProjection_7 ⟨rfl, rfl⟩
set_option maxHeartbeats 4000000 in
set_option maxRecDepth 100000 in
theorem k_isSubscription {E : kx_E} {n : Nat} {hh : kx_H} {x : Int32} : kx_V E i_M_isSubscription 2 0 0 (fun r _ h' => h' = hh ∧ r = Sum.inl (some (.int (if 0 ≤ x ∧ x ≤ 7 then 1 else 0)))) 0 0 0 (lv_args 0 [.int x]) [] n hh := by
  refine kx_iload_n (pc := 0) d_M_isSubscription_0 rfl ?_
  refine kx_iconst (pc := 1) (x := 0) d_M_isSubscription_1 (by decide) ?_
  refine kx_bipush (pc := 2) (x := 7) d_M_isSubscription_2 (by decide) ?_
  refine kx_invS (pc := 4) (as := [.int _, .int _, .int _]) (st := []) (k := 0) (j := 0) d_M_isSubscription_4 ws_M_66 k_in rfl rfl (Nat.le_of_ble_eq_true rfl) (by decide) (Nat.le_of_ble_eq_true rfl) (fun rv n' h' hq => ?_) (fun X n' h' hq => nomatch hq.2)
  obtain ⟨rfl, hq⟩ := hq
  cases hq
  exact kx_zret rfl (by by_cases w : 0 ≤ x ∧ x ≤ 7 <;> simp [w, narrow]) d_M_isSubscription_7 ⟨rfl, rfl⟩
set_option maxHeartbeats 4000000 in
set_option maxRecDepth 100000 in
theorem k_inS_loop {E : kx_E} {n : Nat} {a b : kW} {x : Int32} {N : Nat} (hN : N ≤ 500) (m : Nat) : ∀ (i : Nat), i + m = N → ∀ {Q : kx_Q}, Q (Sum.inl (some (.int (nI (cn (b.1 62) x N))))) n (wd (wx a b)) → kx_V E i_M_inStream 1 0 0 Q 0 0 5 [(4, .int (nI i)), (3, .int (nI (cn (b.1 62) x i))), (0, .ref 61), (1, .int x), (2, .int (nI N))] [] n (wd (wx a b)) := by
  induction m with
  | zero =>
    intro i hm Q hQ
    have hi : i = N := by omega
    subst hi
    refine kx_iload (pc := 5) d_M_inStream_5 rfl ?_
    refine kx_iload_n (pc := 7) d_M_inStream_7 rfl ?_
    refine kx_icmp_ge (pc := 8) (tgt := 31) d_M_inStream_8 (by decide) (fun _ => ?_) (fun hz => absurd (nI_le (Nat.le_refl i) (by omega)) hz)
    refine kx_iload_n (pc := 31) d_M_inStream_31 rfl ?_
    exact kx_iret rfl d_M_inStream_32 hQ
  | succ m ih =>
    intro i hm Q hQ
    have hlt : i < N := by omega
    have i5 : i < 500 := by omega
    refine kx_iload (pc := 5) d_M_inStream_5 rfl ?_
    refine kx_iload_n (pc := 7) d_M_inStream_7 rfl ?_
    refine kx_icmp_ge (pc := 8) (tgt := 31) d_M_inStream_8 (by decide) (fun hz => absurd hz (nI_ge hlt (by omega))) (fun _ => ?_)
    refine kx_aload_n (pc := 11) d_M_inStream_11 rfl ?_
    refine kw_getr (pc := 12) (r := 62) d_M_inStream_12 fl_M_9 rfl (by decide) rfl ?_
    refine kx_iload (pc := 15) d_M_inStream_15 rfl ?_
    refine km_iald (pc := 17) d_M_inStream_17 (by decide) rfl ⟨rfl, i5, by decide⟩ ?_
    refine kx_iload_n (pc := 18) d_M_inStream_18 rfl ?_
    refine kx_icmp_ne (pc := 19) (tgt := 25) d_M_inStream_19 (by decide) (fun hz => ?_) (fun hz => ?_)
    · have ec : cn (b.1 62) x (i + 1) = cn (b.1 62) x i := by show cn (b.1 62) x i + (if b.1 62 i = x then 1 else 0) = _; rw [if_neg hz]; rfl
      refine kx_iinc (pc := 25) (y := nI (i + 1)) (lv' := [(4, _), (3, _), (0, _), (1, _), (2, _)]) d_M_inStream_25 rfl (nI_1 i) (by decide) rfl ?_
      refine kx_goto (pc := 28) (tgt := 5) d_M_inStream_28 (by decide) ?_
      refine kx_sub [0, 1, 2, 3, 4] rfl ?_
      rw [← ec]
      exact ih (i + 1) (by omega) hQ
    · have ec : cn (b.1 62) x (i + 1) = cn (b.1 62) x i + 1 := by show cn (b.1 62) x i + (if b.1 62 i = x then 1 else 0) = _; rw [if_pos hz]
      refine kx_iinc (pc := 22) (y := nI (cn (b.1 62) x i + 1)) (lv' := [(3, _), (4, _), (0, _), (1, _), (2, _)]) d_M_inStream_22 rfl (nI_1 _) (by decide) rfl ?_
      refine kx_iinc (pc := 25) (y := nI (i + 1)) (lv' := [(4, _), (3, _), (0, _), (1, _), (2, _)]) d_M_inStream_25 rfl (nI_1 i) (by decide) rfl ?_
      refine kx_goto (pc := 28) (tgt := 5) d_M_inStream_28 (by decide) ?_
      refine kx_sub [0, 1, 2, 3, 4] rfl ?_
      rw [← ec]
      exact ih (i + 1) (by omega) hQ
set_option maxHeartbeats 4000000 in
set_option maxRecDepth 100000 in
theorem k_inStream {E : kx_E} {n : Nat} {a b : kW} {x : Int32} {N : Nat} (hN : N ≤ 500) : kx_V E i_M_inStream 1 0 0 (fun r _ h' => h' = wd (wx a b) ∧ r = Sum.inl (some (.int (nI (cn (b.1 62) x N))))) 0 0 0 (lv_args 0 [.ref 61, .int x, .int (nI N)]) [] n (wd (wx a b)) := by
  refine kx_iconst (pc := 0) (x := 0) d_M_inStream_0 (by decide) ?_
  refine kx_eqi (show (0 : Int32) = nI (cn (b.1 62) x 0) from rfl) ?_
  refine kx_istore_n (pc := 1) (lv' := [(3, _), (0, _), (1, _), (2, _)]) d_M_inStream_1 rfl (by decide) rfl ?_
  refine kx_iconst (pc := 2) (x := 0) d_M_inStream_2 (by decide) ?_
  refine kx_eqi (show (0 : Int32) = nI 0 from rfl) ?_
  refine kx_istore (pc := 3) (lv' := [(4, _), (3, _), (0, _), (1, _), (2, _)]) d_M_inStream_3 (by decide) rfl ?_
  exact k_inS_loop hN N 0 (by omega) ⟨rfl, rfl⟩
def g_put (b : kW) (ev : Nat) (x k : Int32) (v : Int64) (y z : Int32) : kW := uo (ui (ui (ul (ui (ui b 62 ev x) 63 ev k) 66 ev v) 64 ev y) 65 ev z) 61 1 (nI (ev + 1))
set_option maxHeartbeats 4000000 in
set_option maxRecDepth 100000 in
theorem k_mput {E : kx_E} {n : Nat} {a b : kW} {ev : Nat} {x k y z : Int32} {v : Int64} (h1 : b.2.2 61 1 = nI ev) (h2 : ev < 500) : kx_V E i_M_put 1 0 0 (fun r _ h' => h' = wd (wx a (g_put b ev x k v y z)) ∧ r = Sum.inl (some (.int (nI ev)))) 0 0 0 (lv_args 0 [.ref 61, .int x, .int k, .long v, .int y, .int z]) [] n (wd (wx a b)) := by
  refine kx_aload_n (pc := 0) d_M_put_0 rfl ?_
  refine kw_getr (pc := 1) (r := 62) d_M_put_1 fl_M_9 rfl (by decide) rfl ?_
  refine kx_aload_n (pc := 4) d_M_put_4 rfl ?_
  refine km_geti (pc := 5) d_M_put_5 fl_M_63 (by decide) rfl (by decide) rfl ?_
  refine kx_iload_n (pc := 8) d_M_put_8 rfl ?_
  refine km_iast (pc := 9) d_M_put_9 (by decide) rfl ⟨h1, h2, by decide⟩ ?_
  refine kx_aload_n (pc := 10) d_M_put_10 rfl ?_
  refine kw_getr (pc := 11) (r := 63) d_M_put_11 fl_M_13 rfl (by decide) rfl ?_
  refine kx_aload_n (pc := 14) d_M_put_14 rfl ?_
  refine km_geti (pc := 15) d_M_put_15 fl_M_63 (by decide) rfl (by decide) rfl ?_
  refine kx_iload_n (pc := 18) d_M_put_18 rfl ?_
  refine km_iast (pc := 19) d_M_put_19 (by decide) rfl ⟨h1, h2, by decide⟩ ?_
  refine kx_aload_n (pc := 20) d_M_put_20 rfl ?_
  refine kw_getr (pc := 21) (r := 66) d_M_put_21 fl_M_22 rfl (by decide) rfl ?_
  refine kx_aload_n (pc := 24) d_M_put_24 rfl ?_
  refine km_geti (pc := 25) d_M_put_25 fl_M_63 (by decide) rfl (by decide) rfl ?_
  refine kx_lload_n (pc := 28) d_M_put_28 rfl ?_
  refine km_last (pc := 29) d_M_put_29 (by decide) rfl ⟨h1, h2, by decide⟩ ?_
  refine kx_aload_n (pc := 30) d_M_put_30 rfl ?_
  refine kw_getr (pc := 31) (r := 64) d_M_put_31 fl_M_16 rfl (by decide) rfl ?_
  refine kx_aload_n (pc := 34) d_M_put_34 rfl ?_
  refine km_geti (pc := 35) d_M_put_35 fl_M_63 (by decide) rfl (by decide) rfl ?_
  refine kx_iload (pc := 38) d_M_put_38 rfl ?_
  refine km_iast (pc := 40) d_M_put_40 (by decide) rfl ⟨h1, h2, by decide⟩ ?_
  refine kx_aload_n (pc := 41) d_M_put_41 rfl ?_
  refine kw_getr (pc := 42) (r := 65) d_M_put_42 fl_M_19 rfl (by decide) rfl ?_
  refine kx_aload_n (pc := 45) d_M_put_45 rfl ?_
  refine km_geti (pc := 46) d_M_put_46 fl_M_63 (by decide) rfl (by decide) rfl ?_
  refine kx_iload (pc := 49) d_M_put_49 rfl ?_
  refine km_iast (pc := 51) d_M_put_51 (by decide) rfl ⟨h1, h2, by decide⟩ ?_
  refine kx_aload_n (pc := 52) d_M_put_52 rfl ?_
  refine kx_dup (pc := 53) d_M_put_53 rfl ?_
  refine km_geti (pc := 54) d_M_put_54 fl_M_63 (by decide) rfl (by decide) rfl ?_
  refine kx_eqi (show _ = nI ev from h1) ?_
  refine kx_dup_x1 (pc := 57) d_M_put_57 rfl rfl ?_
  refine kx_iconst (pc := 58) (x := 1) d_M_put_58 (by decide) ?_
  refine kx_iadd (pc := 59) d_M_put_59 ?_
  refine kx_eqi (nI_1 ev) ?_
  refine km_puti (pc := 60) d_M_put_60 fl_M_63 fw_M_1 (by decide) rfl (by decide) rfl ?_
  exact kx_iret rfl d_M_put_63 ⟨rfl, rfl⟩
end
section
def g_err (b : kW) (c : Int32) : kW := uo (uo b 61 0 0) 61 0 c
def m_append (b : kW) (ev : Nat) (x1 x2 x3 : Int32) (v : Int64) : Int32 × kW :=
  if 0 ≤ x1 ∧ x1 ≤ 15 then
    if x2 < -1 then (0, g_err b 1)
    else if 0 ≤ x3 ∧ x3 ≤ 7 then
      if 0 ≤ x2 ∧ ¬ (nI (cn (b.1 62) x1 ev) = x2) then (0, g_err b 2)
      else if ev = 500 then (0, g_err b 3) else (nI ev, g_put (uo b 61 0 0) ev x1 x3 v (-1) (-1))
    else (0, g_err b 1)
  else (0, g_err b 1)
set_option maxHeartbeats 4000000 in
set_option maxRecDepth 100000 in
theorem k_mappend {E : kx_E} {n : Nat} {a b : kW} {ev : Nat} {x1 x2 x3 : Int32} {v : Int64} (h1 : b.2.2 61 1 = nI ev) (h5 : ev ≤ 500) : kx_V E i_M_append 3 0 0 (fun r _ h' => r = Sum.inl (some (.int (m_append b ev x1 x2 x3 v).1)) ∧ h' = wd (wx a (m_append b ev x1 x2 x3 v).2)) 0 0 0 (lv_args 0 [.ref 61, .int x1, .int x2, .int x3, .long v]) [] n (wd (wx a b)) := by
  refine kx_aload_n (pc := 0) d_M_append_0 rfl ?_
  refine kx_iconst (pc := 1) (x := 0) d_M_append_1 (by decide) ?_
  refine km_puti (pc := 2) d_M_append_2 fl_M_59 fw_M_0 (by decide) rfl (by decide) rfl ?_
  refine kx_aload_n (pc := 5) d_M_append_5 rfl ?_
  refine kx_iload_n (pc := 6) d_M_append_6 rfl ?_
  refine kx_iconst (pc := 7) (x := 0) d_M_append_7 (by decide) ?_
  refine kx_bipush (pc := 8) (x := 15) d_M_append_8 (by decide) ?_
  refine kx_invS (pc := 10) (as := [.int _, .int _, .int _]) (st := _) (k := 0) (j := 0) d_M_append_10 ws_M_66 k_in rfl rfl (Nat.le_of_ble_eq_true rfl) (by decide) (Nat.le_of_ble_eq_true rfl) (fun rv n' h' hq => ?_) (fun X n' h' hq => nomatch hq.2)
  obtain ⟨rfl, hq⟩ := hq
  cases hq
  refine kx_if_eq (pc := 13) (tgt := 31) d_M_append_13 (by decide) (fun w1 => ?_) (fun w1 => ?_)
  · have g1 := oz.mp w1
    refine kx_iconst (pc := 31) (x := 1) d_M_append_31 (by decide) ?_
    refine kx_goto (pc := 32) (tgt := 36) d_M_append_32 (by decide) ?_
    refine kx_iconst (pc := 36) (x := 1) d_M_append_36 (by decide) ?_
    refine kx_invV (pc := 37) (as := [.int _, .int _]) (st := []) (k := 0) (j := 0) d_M_append_37 wv_M_70 (wd_o rfl) (k_fails1 (a := a) (b := (uo b 61 0 0)) uo_s (by decide)) rfl rfl (Nat.le_of_ble_eq_true rfl) (by decide) (Nat.le_of_ble_eq_true rfl) (fun rv n' h' hq => ?_) (fun X n' h' hq => nomatch hq.2)
    obtain ⟨rfl, hq⟩ := hq
    cases hq
    refine kx_if_ne (pc := 40) (tgt := 96) d_M_append_40 (by decide) (fun _ => ?_) (fun hz => absurd hz (by decide))
    refine kx_iconst (pc := 96) (x := 0) d_M_append_96 (by decide) ?_
    exact kx_iret rfl d_M_append_97 ⟨by unfold m_append; rw [if_neg g1]; try rfl, by unfold m_append; rw [if_neg g1]; try rfl⟩
  · have g1 := oy w1
    refine kx_iload_n (pc := 16) d_M_append_16 rfl ?_
    refine kx_iconst (pc := 17) (x := -1) d_M_append_17 (by decide) ?_
    refine kx_icmp_lt (pc := 18) (tgt := 31) d_M_append_18 (by decide) (fun g2 => ?_) (fun g2 => ?_)
    · refine kx_iconst (pc := 31) (x := 1) d_M_append_31 (by decide) ?_
      refine kx_goto (pc := 32) (tgt := 36) d_M_append_32 (by decide) ?_
      refine kx_iconst (pc := 36) (x := 1) d_M_append_36 (by decide) ?_
      refine kx_invV (pc := 37) (as := [.int _, .int _]) (st := []) (k := 0) (j := 0) d_M_append_37 wv_M_70 (wd_o rfl) (k_fails1 (a := a) (b := (uo b 61 0 0)) uo_s (by decide)) rfl rfl (Nat.le_of_ble_eq_true rfl) (by decide) (Nat.le_of_ble_eq_true rfl) (fun rv n' h' hq => ?_) (fun X n' h' hq => nomatch hq.2)
      obtain ⟨rfl, hq⟩ := hq
      cases hq
      refine kx_if_ne (pc := 40) (tgt := 96) d_M_append_40 (by decide) (fun _ => ?_) (fun hz => absurd hz (by decide))
      refine kx_iconst (pc := 96) (x := 0) d_M_append_96 (by decide) ?_
      exact kx_iret rfl d_M_append_97 ⟨by unfold m_append; rw [if_pos g1, if_pos g2]; try rfl, by unfold m_append; rw [if_pos g1, if_pos g2]; try rfl⟩
    · refine kx_iload_n (pc := 21) d_M_append_21 rfl ?_
      refine kx_iconst (pc := 22) (x := 0) d_M_append_22 (by decide) ?_
      refine kx_bipush (pc := 23) (x := 7) d_M_append_23 (by decide) ?_
      refine kx_invS (pc := 25) (as := [.int _, .int _, .int _]) (st := _) (k := 0) (j := 0) d_M_append_25 ws_M_66 k_in rfl rfl (Nat.le_of_ble_eq_true rfl) (by decide) (Nat.le_of_ble_eq_true rfl) (fun rv n' h' hq => ?_) (fun X n' h' hq => nomatch hq.2)
      obtain ⟨rfl, hq⟩ := hq
      cases hq
      refine kx_if_ne (pc := 28) (tgt := 35) d_M_append_28 (by decide) (fun w3 => ?_) (fun w3 => ?_)
      · have g3 := oy w3
        have t3 : ¬ (0 ≤ x2 ∧ ¬ (nI (cn (b.1 62) x1 ev) = x2)) → ∀ n, kx_V E i_M_append 3 0 0 (fun r _ h' => r = Sum.inl (some (.int (m_append b ev x1 x2 x3 v).1)) ∧ h' = wd (wx a (m_append b ev x1 x2 x3 v).2)) 0 0 65 [(0, .ref 61), (1, .int x1), (2, .int x2), (3, .int x3), (4, .long v)] [.ref 61] n (wd (wx a (uo b 61 0 0))) := by
          intro h4 n
          refine kx_iconst (pc := 65) (x := 0) d_M_append_65 (by decide) ?_
          refine kx_iconst (pc := 66) (x := 2) d_M_append_66 (by decide) ?_
          refine kx_invV (pc := 67) (as := [.int _, .int _]) (st := []) (k := 0) (j := 0) d_M_append_67 wv_M_70 (wd_o rfl) (k_fails0 (a := a) (b := (uo b 61 0 0)) uo_s) rfl rfl (Nat.le_of_ble_eq_true rfl) (by decide) (Nat.le_of_ble_eq_true rfl) (fun rv n' h' hq => ?_) (fun X n' h' hq => nomatch hq.2)
          obtain ⟨rfl, hq⟩ := hq
          cases hq
          refine kx_if_ne (pc := 70) (tgt := 96) d_M_append_70 (by decide) (fun hz => absurd hz (fun w => w rfl)) (fun _ => ?_)
          refine kx_aload_n (pc := 73) d_M_append_73 rfl ?_
          refine kx_aload_n (pc := 74) d_M_append_74 rfl ?_
          refine km_geti (pc := 75) d_M_append_75 fl_M_63 (by decide) rfl (by decide) rfl ?_
          refine kx_eqi (show _ = nI ev from h1) ?_
          refine kx_sipush (pc := 78) (x := 500) d_M_append_78 (by decide) ?_
          refine kx_eqi (show (500 : Int32) = nI 500 from rfl) ?_
          refine kx_icmp_ne (pc := 81) (tgt := 88) d_M_append_81 (by decide) (fun h6 => ?_) (fun h6 => ?_)
          · have h7 : ¬ ev = 500 := fun w => h6 (by rw [w])
            refine kx_iconst (pc := 88) (x := 0) d_M_append_88 (by decide) ?_
            refine kx_iconst (pc := 89) (x := 3) d_M_append_89 (by decide) ?_
            refine kx_invV (pc := 90) (as := [.int _, .int _]) (st := []) (k := 0) (j := 0) d_M_append_90 wv_M_70 (wd_o rfl) (k_fails0 (a := a) (b := (uo b 61 0 0)) uo_s) rfl rfl (Nat.le_of_ble_eq_true rfl) (by decide) (Nat.le_of_ble_eq_true rfl) (fun rv n' h' hq => ?_) (fun X n' h' hq => nomatch hq.2)
            obtain ⟨rfl, hq⟩ := hq
            cases hq
            refine kx_if_eq (pc := 93) (tgt := 98) d_M_append_93 (by decide) (fun _ => ?_) (fun hz => absurd rfl hz)
            refine kx_aload_n (pc := 98) d_M_append_98 rfl ?_
            refine kx_iload_n (pc := 99) d_M_append_99 rfl ?_
            refine kx_iload_n (pc := 100) d_M_append_100 rfl ?_
            refine kx_lload (pc := 101) d_M_append_101 rfl ?_
            refine kx_iconst (pc := 103) (x := -1) d_M_append_103 (by decide) ?_
            refine kx_iconst (pc := 104) (x := -1) d_M_append_104 (by decide) ?_
            refine kx_invV (pc := 105) (as := [.int _, .int _, .long _, .int _, .int _]) (st := []) (k := 0) (j := 0) d_M_append_105 wv_M_78 (wd_o rfl) (k_mput (a := a) (b := (uo b 61 0 0)) (ev := ev) h1 (by omega)) rfl rfl (Nat.le_of_ble_eq_true rfl) (by decide) (Nat.le_of_ble_eq_true rfl) (fun rv n' h' hq => ?_) (fun X n' h' hq => nomatch hq.2)
            obtain ⟨rfl, hq⟩ := hq
            cases hq
            exact kx_iret rfl d_M_append_108 ⟨by unfold m_append; rw [if_pos g1, if_neg g2, if_pos g3, if_neg h4, if_neg h7]; try rfl, by unfold m_append; rw [if_pos g1, if_neg g2, if_pos g3, if_neg h4, if_neg h7]; try rfl⟩
          · have h7 : ev = 500 := nI_inj (by omega) (by omega) h6
            refine kx_iconst (pc := 84) (x := 1) d_M_append_84 (by decide) ?_
            refine kx_goto (pc := 85) (tgt := 89) d_M_append_85 (by decide) ?_
            refine kx_iconst (pc := 89) (x := 3) d_M_append_89 (by decide) ?_
            refine kx_invV (pc := 90) (as := [.int _, .int _]) (st := []) (k := 0) (j := 0) d_M_append_90 wv_M_70 (wd_o rfl) (k_fails1 (a := a) (b := (uo b 61 0 0)) uo_s (by decide)) rfl rfl (Nat.le_of_ble_eq_true rfl) (by decide) (Nat.le_of_ble_eq_true rfl) (fun rv n' h' hq => ?_) (fun X n' h' hq => nomatch hq.2)
            obtain ⟨rfl, hq⟩ := hq
            cases hq
            refine kx_if_eq (pc := 93) (tgt := 98) d_M_append_93 (by decide) (fun hz => absurd hz (by decide)) (fun _ => ?_)
            refine kx_iconst (pc := 96) (x := 0) d_M_append_96 (by decide) ?_
            exact kx_iret rfl d_M_append_97 ⟨by unfold m_append; rw [if_pos g1, if_neg g2, if_pos g3, if_neg h4, if_pos h7]; try rfl, by unfold m_append; rw [if_pos g1, if_neg g2, if_pos g3, if_neg h4, if_pos h7]; try rfl⟩
        refine kx_iconst (pc := 35) (x := 0) d_M_append_35 (by decide) ?_
        refine kx_iconst (pc := 36) (x := 1) d_M_append_36 (by decide) ?_
        refine kx_invV (pc := 37) (as := [.int _, .int _]) (st := []) (k := 0) (j := 0) d_M_append_37 wv_M_70 (wd_o rfl) (k_fails0 (a := a) (b := (uo b 61 0 0)) uo_s) rfl rfl (Nat.le_of_ble_eq_true rfl) (by decide) (Nat.le_of_ble_eq_true rfl) (fun rv n' h' hq => ?_) (fun X n' h' hq => nomatch hq.2)
        obtain ⟨rfl, hq⟩ := hq
        cases hq
        refine kx_if_ne (pc := 40) (tgt := 96) d_M_append_40 (by decide) (fun hz => absurd hz (fun w => w rfl)) (fun _ => ?_)
        refine kx_aload_n (pc := 43) d_M_append_43 rfl ?_
        refine kx_iload_n (pc := 44) d_M_append_44 rfl ?_
        refine kx_if_lt (pc := 45) (tgt := 65) d_M_append_45 (by decide) (fun w5 => ?_) (fun w5 => ?_)
        · exact t3 (fun w => Int32.not_lt.mpr w.1 w5) _
        · refine kx_aload_n (pc := 48) d_M_append_48 rfl ?_
          refine kx_iload_n (pc := 49) d_M_append_49 rfl ?_
          refine kx_aload_n (pc := 50) d_M_append_50 rfl ?_
          refine km_geti (pc := 51) d_M_append_51 fl_M_63 (by decide) rfl (by decide) rfl ?_
          refine kx_eqi (show _ = nI ev from h1) ?_
          refine kx_invV (pc := 54) (as := [.int _, .int _]) (st := _) (k := 0) (j := 0) d_M_append_54 wv_M_74 (wd_o rfl) (k_inStream (a := a) (b := (uo b 61 0 0)) h5) rfl rfl (Nat.le_of_ble_eq_true rfl) (by decide) (Nat.le_of_ble_eq_true rfl) (fun rv n' h' hq => ?_) (fun X n' h' hq => nomatch hq.2)
          obtain ⟨rfl, hq⟩ := hq
          cases hq
          refine kx_iload_n (pc := 57) d_M_append_57 rfl ?_
          refine kx_icmp_eq (pc := 58) (tgt := 65) d_M_append_58 (by decide) (fun w6 => ?_) (fun w6 => ?_)
          · exact t3 (fun w => w.2 w6) _
          · have h4 : 0 ≤ x2 ∧ ¬ (nI (cn (b.1 62) x1 ev) = x2) := ⟨Int32.not_lt.mp w5, w6⟩
            refine kx_iconst (pc := 61) (x := 1) d_M_append_61 (by decide) ?_
            refine kx_goto (pc := 62) (tgt := 66) d_M_append_62 (by decide) ?_
            refine kx_iconst (pc := 66) (x := 2) d_M_append_66 (by decide) ?_
            refine kx_invV (pc := 67) (as := [.int _, .int _]) (st := []) (k := 0) (j := 0) d_M_append_67 wv_M_70 (wd_o rfl) (k_fails1 (a := a) (b := (uo b 61 0 0)) uo_s (by decide)) rfl rfl (Nat.le_of_ble_eq_true rfl) (by decide) (Nat.le_of_ble_eq_true rfl) (fun rv n' h' hq => ?_) (fun X n' h' hq => nomatch hq.2)
            obtain ⟨rfl, hq⟩ := hq
            cases hq
            refine kx_if_ne (pc := 70) (tgt := 96) d_M_append_70 (by decide) (fun _ => ?_) (fun hz => absurd hz (by decide))
            refine kx_iconst (pc := 96) (x := 0) d_M_append_96 (by decide) ?_
            exact kx_iret rfl d_M_append_97 ⟨by unfold m_append; rw [if_pos g1, if_neg g2, if_pos g3, if_pos h4]; try rfl, by unfold m_append; rw [if_pos g1, if_neg g2, if_pos g3, if_pos h4]; try rfl⟩
      · have g3 := oz.mp w3
        refine kx_iconst (pc := 31) (x := 1) d_M_append_31 (by decide) ?_
        refine kx_goto (pc := 32) (tgt := 36) d_M_append_32 (by decide) ?_
        refine kx_iconst (pc := 36) (x := 1) d_M_append_36 (by decide) ?_
        refine kx_invV (pc := 37) (as := [.int _, .int _]) (st := []) (k := 0) (j := 0) d_M_append_37 wv_M_70 (wd_o rfl) (k_fails1 (a := a) (b := (uo b 61 0 0)) uo_s (by decide)) rfl rfl (Nat.le_of_ble_eq_true rfl) (by decide) (Nat.le_of_ble_eq_true rfl) (fun rv n' h' hq => ?_) (fun X n' h' hq => nomatch hq.2)
        obtain ⟨rfl, hq⟩ := hq
        cases hq
        refine kx_if_ne (pc := 40) (tgt := 96) d_M_append_40 (by decide) (fun _ => ?_) (fun hz => absurd hz (by decide))
        refine kx_iconst (pc := 96) (x := 0) d_M_append_96 (by decide) ?_
        exact kx_iret rfl d_M_append_97 ⟨by unfold m_append; rw [if_pos g1, if_neg g2, if_neg g3]; try rfl, by unfold m_append; rw [if_pos g1, if_neg g2, if_neg g3]; try rfl⟩
end
section
theorem ix16 (p k : Nat) : (16 : Int32) * nI p + nI k = nI (16 * p + k) := by rw [show (16 : Int32) = nI 16 from rfl, pk_mul, nI_add]
theorem ix8 (p k : Nat) : (8 : Int32) * nI p + nI k = nI (8 * p + k) := by rw [show (8 : Int32) = nI 8 from rfl, pk_mul, nI_add]
theorem nI_gl {x : Int32} {N : Nat} (hN : N < 2 ^ 31) (h : 0 ≤ x ∧ x ≤ nI N) : ∃ j : Nat, j ≤ N ∧ x = nI j ∧ nt x = j := by
  obtain ⟨j, hj, rfl⟩ := nI_of (Int32.not_lt.mpr h.1)
  have hle : j ≤ N := by
    rcases Nat.lt_or_ge N j with w | w
    · exact absurd h.2 (nI_ge w hj)
    · exact w
  exact ⟨j, hle, rfl, nt_nI hj⟩
theorem nI_lt1 {x : Int32} {ev : Nat} (hN : ev < 2 ^ 31) (h : 0 ≤ x ∧ x ≤ nI ev - 1) : ∃ q : Nat, q < ev ∧ x = nI q ∧ nt x = q := by
  cases ev with
  | zero =>
    exfalso
    have h1 : (0 : Int32) ≤ nI 0 - 1 := Int32.le_trans h.1 h.2
    exact absurd h1 (by decide)
  | succ e =>
    rw [nI_pred] at h
    obtain ⟨j, hj, h1, h2⟩ := nI_gl (by omega) h
    exact ⟨j, by omega, h1, h2⟩
def g_zero (f : Nat → Int64) (p : Nat) : Nat → Nat → Int64
  | 0 => f
  | k + 1 => vp_updL (g_zero f p k) (16 * p + k) 0
def g_copy (f g : Nat → Int64) (p : Nat) : Nat → Nat → Int64
  | 0 => g
  | k + 1 => vp_updL (g_copy f g p k) (16 * p + k) (f (16 * p + k))
def g_begin (b : kW) (p : Nat) : kW := ui (ui (uL b 67 (g_zero (b.2.1 67) p 16)) 71 p 0) 72 p (-1)
theorem uL_same {b : kW} {i : Nat} {f : Nat → Int64} (h : b.2.1 i = f) : uL b i f = b := by
  refine Prod.ext rfl (Prod.ext (funext fun z => ?_) rfl)
  by_cases e : z = i
  · subst e
    simp [uL, h]
  · simp [uL, e]
theorem uL_ul {b : kW} {i k : Nat} {x : Int64} {f : Nat → Int64} : uL (ul b i k x) i f = uL b i f := by
  refine Prod.ext rfl (Prod.ext (funext fun z => ?_) rfl)
  by_cases e : z = i <;> simp [uL, ul, e]
theorem ul_self {b : kW} {i k : Nat} {x : Int64} : (ul b i k x).2.1 i = vp_updL (b.2.1 i) k x := by simp [ul]
set_option maxHeartbeats 4000000 in
set_option maxRecDepth 100000 in
theorem k_begin_loop {E : kx_E} {n : Nat} {a : kW} {p : Nat} (hp : p < 8) (f : Nat → Int64) (m : Nat) : ∀ (q : Nat) (b : kW), q + m = 16 → b.2.1 67 = g_zero f p q → ∀ {Q : kx_Q}, Q (Sum.inl none) n (wd (wx a (ui (ui (uL b 67 (g_zero f p 16)) 71 p 0) 72 p (-1)))) → kx_V E i_M_begin 1 0 0 Q 0 0 2 [(2, .int (nI q)), (0, .ref 61), (1, .int (nI p))] [] n (wd (wx a b)) := by
  induction m with
  | zero =>
    intro q b hm hf Q hQ
    have hq : q = 16 := by omega
    subst hq
    rw [uL_same hf] at hQ
    refine kx_iload_n (pc := 2) d_M_begin_2 rfl ?_
    refine kx_bipush (pc := 3) (x := 16) d_M_begin_3 (by decide) ?_
    refine kx_eqi (show (16 : Int32) = nI 16 from rfl) ?_
    refine kx_icmp_ge (pc := 5) (tgt := 26) d_M_begin_5 (by decide) (fun _ => ?_) (fun hz => absurd (nI_le (Nat.le_refl 16) (by omega)) hz)
    refine kx_aload_n (pc := 26) d_M_begin_26 rfl ?_
    refine kw_getr (pc := 27) (r := 71) d_M_begin_27 fl_M_38 rfl (by decide) rfl ?_
    refine kx_iload_n (pc := 30) d_M_begin_30 rfl ?_
    refine kx_iconst (pc := 31) (x := 0) d_M_begin_31 (by decide) ?_
    refine km_iast (pc := 32) d_M_begin_32 (by decide) rfl ⟨rfl, hp, by decide⟩ ?_
    refine kx_aload_n (pc := 33) d_M_begin_33 rfl ?_
    refine kw_getr (pc := 34) (r := 72) d_M_begin_34 fl_M_41 rfl (by decide) rfl ?_
    refine kx_iload_n (pc := 37) d_M_begin_37 rfl ?_
    refine kx_iconst (pc := 38) (x := -1) d_M_begin_38 (by decide) ?_
    refine km_iast (pc := 39) d_M_begin_39 (by decide) rfl ⟨rfl, hp, by decide⟩ ?_
    exact kx_vret rfl d_M_begin_40 hQ
  | succ m ih =>
    intro q b hm hf Q hQ
    have hlt : q < 16 := by omega
    have hnext := ih (q + 1) (ul b 67 (16 * p + q) 0) (by omega) (by rw [ul_self, hf]; rfl) (Q := Q) (by rw [uL_ul]; exact hQ)
    refine kx_iload_n (pc := 2) d_M_begin_2 rfl ?_
    refine kx_bipush (pc := 3) (x := 16) d_M_begin_3 (by decide) ?_
    refine kx_eqi (show (16 : Int32) = nI 16 from rfl) ?_
    refine kx_icmp_ge (pc := 5) (tgt := 26) d_M_begin_5 (by decide) (fun hz => absurd hz (nI_ge hlt (by omega))) (fun _ => ?_)
    refine kx_aload_n (pc := 8) d_M_begin_8 rfl ?_
    refine kw_getr (pc := 9) (r := 67) d_M_begin_9 fl_M_26 rfl (by decide) rfl ?_
    refine kx_bipush (pc := 12) (x := 16) d_M_begin_12 (by decide) ?_
    refine kx_iload_n (pc := 14) d_M_begin_14 rfl ?_
    refine kx_imul (pc := 15) d_M_begin_15 ?_
    refine kx_iload_n (pc := 16) d_M_begin_16 rfl ?_
    refine kx_iadd (pc := 17) d_M_begin_17 ?_
    refine kx_eqi (ix16 p q) ?_
    refine kx_lconst (pc := 18) (x := 0) d_M_begin_18 (by decide) ?_
    refine km_last (pc := 19) d_M_begin_19 (by decide) rfl ⟨rfl, by omega, by decide⟩ ?_
    refine kx_iinc (pc := 20) (y := nI (q + 1)) (lv' := [(2, _), (0, _), (1, _)]) d_M_begin_20 rfl (nI_1 q) (by decide) rfl ?_
    refine kx_goto (pc := 23) (tgt := 2) d_M_begin_23 (by decide) ?_
    exact hnext
set_option maxHeartbeats 4000000 in
set_option maxRecDepth 100000 in
theorem k_begin {E : kx_E} {n : Nat} {a b : kW} {p : Nat} (hp : p < 8) : kx_V E i_M_begin 1 0 0 (fun r _ h' => h' = wd (wx a (g_begin b p)) ∧ r = Sum.inl none) 0 0 0 (lv_args 0 [.ref 61, .int (nI p)]) [] n (wd (wx a b)) := by
  refine kx_iconst (pc := 0) (x := 0) d_M_begin_0 (by decide) ?_
  refine kx_eqi (show (0 : Int32) = nI 0 from rfl) ?_
  refine kx_istore_n (pc := 1) (lv' := [(2, _), (0, _), (1, _)]) d_M_begin_1 rfl (by decide) rfl ?_
  exact k_begin_loop hp (b.2.1 67) 16 0 b rfl rfl ⟨rfl, rfl⟩
def m_rule (b : kW) (x1 x2 x3 x4 : Int32) : kW :=
  if 0 ≤ x1 ∧ x1 ≤ 7 then if 0 ≤ x2 ∧ x2 ≤ 7 then if 0 ≤ x3 ∧ x3 ≤ 6 then if 0 ≤ x4 ∧ x4 ≤ 2 then g_begin (ui (ui (uo b 61 0 0) 69 (8 * nt x1 + nt x2) x3) 70 (8 * nt x1 + nt x2) x4) (nt x1) else g_err b 1 else g_err b 1 else g_err b 1 else g_err b 1
set_option maxHeartbeats 4000000 in
set_option maxRecDepth 100000 in
theorem k_mrule {E : kx_E} {n : Nat} {a b : kW} {x1 x2 x3 x4 : Int32} : kx_V E i_M_rule 3 0 0 (fun r _ h' => r = Sum.inl none ∧ h' = wd (wx a (m_rule b x1 x2 x3 x4))) 0 0 0 (lv_args 0 [.ref 61, .int x1, .int x2, .int x3, .int x4]) [] n (wd (wx a b)) := by
  refine kx_aload_n (pc := 0) d_M_rule_0 rfl ?_
  refine kx_iconst (pc := 1) (x := 0) d_M_rule_1 (by decide) ?_
  refine km_puti (pc := 2) d_M_rule_2 fl_M_59 fw_M_0 (by decide) rfl (by decide) rfl ?_
  refine kx_aload_n (pc := 5) d_M_rule_5 rfl ?_
  refine kx_iload_n (pc := 6) d_M_rule_6 rfl ?_
  refine kx_invS (pc := 7) (as := [.int _]) (st := _) (k := 0) (j := 0) d_M_rule_7 ws_M_82 k_isProjection rfl rfl (Nat.le_of_ble_eq_true rfl) (by decide) (Nat.le_of_ble_eq_true rfl) (fun rv n' h' hq => ?_) (fun X n' h' hq => nomatch hq.2)
  obtain ⟨rfl, hq⟩ := hq
  cases hq
  refine kx_if_eq (pc := 10) (tgt := 43) d_M_rule_10 (by decide) (fun w1 => ?_) (fun w1 => ?_)
  · have g1 := oz.mp w1
    refine kx_iconst (pc := 43) (x := 1) d_M_rule_43 (by decide) ?_
    refine kx_goto (pc := 44) (tgt := 48) d_M_rule_44 (by decide) ?_
    refine kx_iconst (pc := 48) (x := 1) d_M_rule_48 (by decide) ?_
    refine kx_invV (pc := 49) (as := [.int _, .int _]) (st := []) (k := 0) (j := 0) d_M_rule_49 wv_M_70 (wd_o rfl) (k_fails1 (a := a) (b := (uo b 61 0 0)) uo_s (by decide)) rfl rfl (Nat.le_of_ble_eq_true rfl) (by decide) (Nat.le_of_ble_eq_true rfl) (fun rv n' h' hq => ?_) (fun X n' h' hq => nomatch hq.2)
    obtain ⟨rfl, hq⟩ := hq
    cases hq
    refine kx_if_eq (pc := 52) (tgt := 56) d_M_rule_52 (by decide) (fun hz => absurd hz (by decide)) (fun _ => ?_)
    exact kx_vret rfl d_M_rule_55 ⟨rfl, by unfold m_rule; rw [if_neg g1]; try rfl⟩
  · have g1 := oy w1
    refine kx_iload_n (pc := 13) d_M_rule_13 rfl ?_
    refine kx_iconst (pc := 14) (x := 0) d_M_rule_14 (by decide) ?_
    refine kx_bipush (pc := 15) (x := 7) d_M_rule_15 (by decide) ?_
    refine kx_invS (pc := 17) (as := [.int _, .int _, .int _]) (st := _) (k := 0) (j := 0) d_M_rule_17 ws_M_66 k_in rfl rfl (Nat.le_of_ble_eq_true rfl) (by decide) (Nat.le_of_ble_eq_true rfl) (fun rv n' h' hq => ?_) (fun X n' h' hq => nomatch hq.2)
    obtain ⟨rfl, hq⟩ := hq
    cases hq
    refine kx_if_eq (pc := 20) (tgt := 43) d_M_rule_20 (by decide) (fun w2 => ?_) (fun w2 => ?_)
    · have g2 := oz.mp w2
      refine kx_iconst (pc := 43) (x := 1) d_M_rule_43 (by decide) ?_
      refine kx_goto (pc := 44) (tgt := 48) d_M_rule_44 (by decide) ?_
      refine kx_iconst (pc := 48) (x := 1) d_M_rule_48 (by decide) ?_
      refine kx_invV (pc := 49) (as := [.int _, .int _]) (st := []) (k := 0) (j := 0) d_M_rule_49 wv_M_70 (wd_o rfl) (k_fails1 (a := a) (b := (uo b 61 0 0)) uo_s (by decide)) rfl rfl (Nat.le_of_ble_eq_true rfl) (by decide) (Nat.le_of_ble_eq_true rfl) (fun rv n' h' hq => ?_) (fun X n' h' hq => nomatch hq.2)
      obtain ⟨rfl, hq⟩ := hq
      cases hq
      refine kx_if_eq (pc := 52) (tgt := 56) d_M_rule_52 (by decide) (fun hz => absurd hz (by decide)) (fun _ => ?_)
      exact kx_vret rfl d_M_rule_55 ⟨rfl, by unfold m_rule; rw [if_pos g1, if_neg g2]; try rfl⟩
    · have g2 := oy w2
      refine kx_iload_n (pc := 23) d_M_rule_23 rfl ?_
      refine kx_iconst (pc := 24) (x := 0) d_M_rule_24 (by decide) ?_
      refine kx_bipush (pc := 25) (x := 6) d_M_rule_25 (by decide) ?_
      refine kx_invS (pc := 27) (as := [.int _, .int _, .int _]) (st := _) (k := 0) (j := 0) d_M_rule_27 ws_M_66 k_in rfl rfl (Nat.le_of_ble_eq_true rfl) (by decide) (Nat.le_of_ble_eq_true rfl) (fun rv n' h' hq => ?_) (fun X n' h' hq => nomatch hq.2)
      obtain ⟨rfl, hq⟩ := hq
      cases hq
      refine kx_if_eq (pc := 30) (tgt := 43) d_M_rule_30 (by decide) (fun w3 => ?_) (fun w3 => ?_)
      · have g3 := oz.mp w3
        refine kx_iconst (pc := 43) (x := 1) d_M_rule_43 (by decide) ?_
        refine kx_goto (pc := 44) (tgt := 48) d_M_rule_44 (by decide) ?_
        refine kx_iconst (pc := 48) (x := 1) d_M_rule_48 (by decide) ?_
        refine kx_invV (pc := 49) (as := [.int _, .int _]) (st := []) (k := 0) (j := 0) d_M_rule_49 wv_M_70 (wd_o rfl) (k_fails1 (a := a) (b := (uo b 61 0 0)) uo_s (by decide)) rfl rfl (Nat.le_of_ble_eq_true rfl) (by decide) (Nat.le_of_ble_eq_true rfl) (fun rv n' h' hq => ?_) (fun X n' h' hq => nomatch hq.2)
        obtain ⟨rfl, hq⟩ := hq
        cases hq
        refine kx_if_eq (pc := 52) (tgt := 56) d_M_rule_52 (by decide) (fun hz => absurd hz (by decide)) (fun _ => ?_)
        exact kx_vret rfl d_M_rule_55 ⟨rfl, by unfold m_rule; rw [if_pos g1, if_pos g2, if_neg g3]; try rfl⟩
      · have g3 := oy w3
        refine kx_iload (pc := 33) d_M_rule_33 rfl ?_
        refine kx_iconst (pc := 35) (x := 0) d_M_rule_35 (by decide) ?_
        refine kx_iconst (pc := 36) (x := 2) d_M_rule_36 (by decide) ?_
        refine kx_invS (pc := 37) (as := [.int _, .int _, .int _]) (st := _) (k := 0) (j := 0) d_M_rule_37 ws_M_66 k_in rfl rfl (Nat.le_of_ble_eq_true rfl) (by decide) (Nat.le_of_ble_eq_true rfl) (fun rv n' h' hq => ?_) (fun X n' h' hq => nomatch hq.2)
        obtain ⟨rfl, hq⟩ := hq
        cases hq
        refine kx_if_ne (pc := 40) (tgt := 47) d_M_rule_40 (by decide) (fun w4 => ?_) (fun w4 => ?_)
        · have g4 := oy w4
          obtain ⟨p, hp8, rfl, np⟩ := nI_gl (N := 7) (by decide) g1
          have hp : p < 8 := by omega
          obtain ⟨t, ht8, rfl, nt2⟩ := nI_gl (N := 7) (by decide) g2
          refine kx_iconst (pc := 47) (x := 0) d_M_rule_47 (by decide) ?_
          refine kx_iconst (pc := 48) (x := 1) d_M_rule_48 (by decide) ?_
          refine kx_invV (pc := 49) (as := [.int _, .int _]) (st := []) (k := 0) (j := 0) d_M_rule_49 wv_M_70 (wd_o rfl) (k_fails0 (a := a) (b := (uo b 61 0 0)) uo_s) rfl rfl (Nat.le_of_ble_eq_true rfl) (by decide) (Nat.le_of_ble_eq_true rfl) (fun rv n' h' hq => ?_) (fun X n' h' hq => nomatch hq.2)
          obtain ⟨rfl, hq⟩ := hq
          cases hq
          refine kx_if_eq (pc := 52) (tgt := 56) d_M_rule_52 (by decide) (fun _ => ?_) (fun hz => absurd rfl hz)
          refine kx_aload_n (pc := 56) d_M_rule_56 rfl ?_
          refine kw_getr (pc := 57) (r := 69) d_M_rule_57 fl_M_32 rfl (by decide) rfl ?_
          refine kx_bipush (pc := 60) (x := 8) d_M_rule_60 (by decide) ?_
          refine kx_iload_n (pc := 62) d_M_rule_62 rfl ?_
          refine kx_imul (pc := 63) d_M_rule_63 ?_
          refine kx_iload_n (pc := 64) d_M_rule_64 rfl ?_
          refine kx_iadd (pc := 65) d_M_rule_65 ?_
          refine kx_eqi (ix8 p t) ?_
          refine kx_iload_n (pc := 66) d_M_rule_66 rfl ?_
          refine km_iast (pc := 67) d_M_rule_67 (by decide) rfl ⟨rfl, by omega, by decide⟩ ?_
          refine kx_aload_n (pc := 68) d_M_rule_68 rfl ?_
          refine kw_getr (pc := 69) (r := 70) d_M_rule_69 fl_M_35 rfl (by decide) rfl ?_
          refine kx_bipush (pc := 72) (x := 8) d_M_rule_72 (by decide) ?_
          refine kx_iload_n (pc := 74) d_M_rule_74 rfl ?_
          refine kx_imul (pc := 75) d_M_rule_75 ?_
          refine kx_iload_n (pc := 76) d_M_rule_76 rfl ?_
          refine kx_iadd (pc := 77) d_M_rule_77 ?_
          refine kx_eqi (ix8 p t) ?_
          refine kx_iload (pc := 78) d_M_rule_78 rfl ?_
          refine km_iast (pc := 80) d_M_rule_80 (by decide) rfl ⟨rfl, by omega, by decide⟩ ?_
          refine kx_aload_n (pc := 81) d_M_rule_81 rfl ?_
          refine kx_iload_n (pc := 82) d_M_rule_82 rfl ?_
          refine kx_invV (pc := 83) (as := [.int _]) (st := []) (k := 0) (j := 0) d_M_rule_83 wv_M_86 (wd_o rfl) (k_begin hp) rfl rfl (Nat.le_of_ble_eq_true rfl) (by decide) (Nat.le_of_ble_eq_true rfl) (fun rv n' h' hq => ?_) (fun X n' h' hq => nomatch hq.2)
          obtain ⟨rfl, hq⟩ := hq
          cases hq
          exact kx_vret rfl d_M_rule_86 ⟨rfl, by unfold m_rule; rw [if_pos g1, if_pos g2, if_pos g3, if_pos g4, np, nt2]; try rfl⟩
        · have g4 := oz.mp w4
          refine kx_iconst (pc := 43) (x := 1) d_M_rule_43 (by decide) ?_
          refine kx_goto (pc := 44) (tgt := 48) d_M_rule_44 (by decide) ?_
          refine kx_iconst (pc := 48) (x := 1) d_M_rule_48 (by decide) ?_
          refine kx_invV (pc := 49) (as := [.int _, .int _]) (st := []) (k := 0) (j := 0) d_M_rule_49 wv_M_70 (wd_o rfl) (k_fails1 (a := a) (b := (uo b 61 0 0)) uo_s (by decide)) rfl rfl (Nat.le_of_ble_eq_true rfl) (by decide) (Nat.le_of_ble_eq_true rfl) (fun rv n' h' hq => ?_) (fun X n' h' hq => nomatch hq.2)
          obtain ⟨rfl, hq⟩ := hq
          cases hq
          refine kx_if_eq (pc := 52) (tgt := 56) d_M_rule_52 (by decide) (fun hz => absurd hz (by decide)) (fun _ => ?_)
          exact kx_vret rfl d_M_rule_55 ⟨rfl, by unfold m_rule; rw [if_pos g1, if_pos g2, if_pos g3, if_neg g4]; try rfl⟩
def m_save (b : kW) (x1 : Int32) : Int32 × kW := if 0 ≤ x1 ∧ x1 ≤ 7 then (b.1 71 (nt x1), ui (ui (uL (uo b 61 0 0) 68 (g_copy (b.2.1 67) (b.2.1 68) (nt x1) 16)) 72 (nt x1) (b.1 71 (nt x1))) 73 (nt x1) (b.2.2 61 1)) else (0, g_err b 1)
set_option maxHeartbeats 4000000 in
set_option maxRecDepth 100000 in
theorem k_save_loop {E : kx_E} {n : Nat} {a : kW} {p : Nat} (hp : p < 8) (f g : Nat → Int64) (m : Nat) : ∀ (q : Nat) (b : kW), q + m = 16 → b.2.1 67 = f → b.2.1 68 = g_copy f g p q → ∀ {Q : kx_Q}, Q (Sum.inl (some (.int (b.1 71 p)))) n (wd (wx a (ui (ui (uL b 68 (g_copy f g p 16)) 72 p (b.1 71 p)) 73 p (b.2.2 61 1)))) → kx_V E i_M_save 3 0 0 Q 0 0 29 [(2, .int (nI q)), (0, .ref 61), (1, .int (nI p))] [] n (wd (wx a b)) := by
  induction m with
  | zero =>
    intro q b hm h0 hf Q hQ
    have hq : q = 16 := by omega
    subst hq
    rw [uL_same hf] at hQ
    refine kx_iload_n (pc := 29) d_M_save_29 rfl ?_
    refine kx_bipush (pc := 30) (x := 16) d_M_save_30 (by decide) ?_
    refine kx_eqi (show (16 : Int32) = nI 16 from rfl) ?_
    refine kx_icmp_ge (pc := 32) (tgt := 63) d_M_save_32 (by decide) (fun _ => ?_) (fun hz => absurd (nI_le (Nat.le_refl 16) (by omega)) hz)
    refine kx_aload_n (pc := 63) d_M_save_63 rfl ?_
    refine kw_getr (pc := 64) (r := 72) d_M_save_64 fl_M_41 rfl (by decide) rfl ?_
    refine kx_iload_n (pc := 67) d_M_save_67 rfl ?_
    refine kx_aload_n (pc := 68) d_M_save_68 rfl ?_
    refine kw_getr (pc := 69) (r := 71) d_M_save_69 fl_M_38 rfl (by decide) rfl ?_
    refine kx_iload_n (pc := 72) d_M_save_72 rfl ?_
    refine km_iald (pc := 73) d_M_save_73 (by decide) rfl ⟨rfl, hp, by decide⟩ ?_
    refine km_iast (pc := 74) d_M_save_74 (by decide) rfl ⟨rfl, hp, by decide⟩ ?_
    refine kx_aload_n (pc := 75) d_M_save_75 rfl ?_
    refine kw_getr (pc := 76) (r := 73) d_M_save_76 fl_M_44 rfl (by decide) rfl ?_
    refine kx_iload_n (pc := 79) d_M_save_79 rfl ?_
    refine kx_aload_n (pc := 80) d_M_save_80 rfl ?_
    refine km_geti (pc := 81) d_M_save_81 fl_M_63 (by decide) rfl (by decide) rfl ?_
    refine km_iast (pc := 84) d_M_save_84 (by decide) rfl ⟨rfl, hp, by decide⟩ ?_
    refine kx_aload_n (pc := 85) d_M_save_85 rfl ?_
    refine kw_getr (pc := 86) (r := 71) d_M_save_86 fl_M_38 rfl (by decide) rfl ?_
    refine kx_iload_n (pc := 89) d_M_save_89 rfl ?_
    refine km_iald (pc := 90) d_M_save_90 (by decide) rfl ⟨rfl, hp, by decide⟩ ?_
    exact kx_iret rfl d_M_save_91 hQ
  | succ m ih =>
    intro q b hm h0 hf Q hQ
    have hlt : q < 16 := by omega
    have hnext := ih (q + 1) (ul b 68 (16 * p + q) (b.2.1 67 (16 * p + q))) (by omega) ((ul_n (by decide)).trans h0) (by rw [ul_self, hf, h0]; rfl) (Q := Q) (by rw [uL_ul]; exact hQ)
    refine kx_iload_n (pc := 29) d_M_save_29 rfl ?_
    refine kx_bipush (pc := 30) (x := 16) d_M_save_30 (by decide) ?_
    refine kx_eqi (show (16 : Int32) = nI 16 from rfl) ?_
    refine kx_icmp_ge (pc := 32) (tgt := 63) d_M_save_32 (by decide) (fun hz => absurd hz (nI_ge hlt (by omega))) (fun _ => ?_)
    refine kx_aload_n (pc := 35) d_M_save_35 rfl ?_
    refine kw_getr (pc := 36) (r := 68) d_M_save_36 fl_M_29 rfl (by decide) rfl ?_
    refine kx_bipush (pc := 39) (x := 16) d_M_save_39 (by decide) ?_
    refine kx_iload_n (pc := 41) d_M_save_41 rfl ?_
    refine kx_imul (pc := 42) d_M_save_42 ?_
    refine kx_iload_n (pc := 43) d_M_save_43 rfl ?_
    refine kx_iadd (pc := 44) d_M_save_44 ?_
    refine kx_eqi (ix16 p q) ?_
    refine kx_aload_n (pc := 45) d_M_save_45 rfl ?_
    refine kw_getr (pc := 46) (r := 67) d_M_save_46 fl_M_26 rfl (by decide) rfl ?_
    refine kx_bipush (pc := 49) (x := 16) d_M_save_49 (by decide) ?_
    refine kx_iload_n (pc := 51) d_M_save_51 rfl ?_
    refine kx_imul (pc := 52) d_M_save_52 ?_
    refine kx_iload_n (pc := 53) d_M_save_53 rfl ?_
    refine kx_iadd (pc := 54) d_M_save_54 ?_
    refine kx_eqi (ix16 p q) ?_
    refine km_lald (pc := 55) d_M_save_55 (by decide) rfl ⟨rfl, by omega, by decide⟩ ?_
    refine km_last (pc := 56) d_M_save_56 (by decide) rfl ⟨rfl, by omega, by decide⟩ ?_
    refine kx_iinc (pc := 57) (y := nI (q + 1)) (lv' := [(2, _), (0, _), (1, _)]) d_M_save_57 rfl (nI_1 q) (by decide) rfl ?_
    refine kx_goto (pc := 60) (tgt := 29) d_M_save_60 (by decide) ?_
    exact hnext
set_option maxHeartbeats 4000000 in
set_option maxRecDepth 100000 in
theorem k_msave {E : kx_E} {n : Nat} {a b : kW} {x1 : Int32} : kx_V E i_M_save 3 0 0 (fun r _ h' => r = Sum.inl (some (.int (m_save b x1).1)) ∧ h' = wd (wx a (m_save b x1).2)) 0 0 0 (lv_args 0 [.ref 61, .int x1]) [] n (wd (wx a b)) := by
  refine kx_aload_n (pc := 0) d_M_save_0 rfl ?_
  refine kx_iconst (pc := 1) (x := 0) d_M_save_1 (by decide) ?_
  refine km_puti (pc := 2) d_M_save_2 fl_M_59 fw_M_0 (by decide) rfl (by decide) rfl ?_
  refine kx_aload_n (pc := 5) d_M_save_5 rfl ?_
  refine kx_iload_n (pc := 6) d_M_save_6 rfl ?_
  refine kx_invS (pc := 7) (as := [.int _]) (st := _) (k := 0) (j := 0) d_M_save_7 ws_M_82 k_isProjection rfl rfl (Nat.le_of_ble_eq_true rfl) (by decide) (Nat.le_of_ble_eq_true rfl) (fun rv n' h' hq => ?_) (fun X n' h' hq => nomatch hq.2)
  obtain ⟨rfl, hq⟩ := hq
  cases hq
  refine kx_if_ne (pc := 10) (tgt := 17) d_M_save_10 (by decide) (fun w1 => ?_) (fun w1 => ?_)
  · have g1 := oy w1
    obtain ⟨p, hp8, rfl, np⟩ := nI_gl (N := 7) (by decide) g1
    have hp : p < 8 := by omega
    refine kx_iconst (pc := 17) (x := 0) d_M_save_17 (by decide) ?_
    refine kx_iconst (pc := 18) (x := 1) d_M_save_18 (by decide) ?_
    refine kx_invV (pc := 19) (as := [.int _, .int _]) (st := []) (k := 0) (j := 0) d_M_save_19 wv_M_70 (wd_o rfl) (k_fails0 (a := a) (b := (uo b 61 0 0)) uo_s) rfl rfl (Nat.le_of_ble_eq_true rfl) (by decide) (Nat.le_of_ble_eq_true rfl) (fun rv n' h' hq => ?_) (fun X n' h' hq => nomatch hq.2)
    obtain ⟨rfl, hq⟩ := hq
    cases hq
    refine kx_if_eq (pc := 22) (tgt := 27) d_M_save_22 (by decide) (fun _ => ?_) (fun hz => absurd rfl hz)
    refine kx_iconst (pc := 27) (x := 0) d_M_save_27 (by decide) ?_
    refine kx_eqi (show (0 : Int32) = nI 0 from rfl) ?_
    refine kx_istore_n (pc := 28) (lv' := [(2, _), (0, _), (1, _)]) d_M_save_28 rfl (by decide) rfl ?_
    refine k_save_loop hp (b.2.1 67) (b.2.1 68) 16 0 (uo b 61 0 0) rfl rfl rfl ?_
    exact ⟨by unfold m_save; rw [if_pos g1, np]; try rfl, by unfold m_save; rw [if_pos g1, np]; try rfl⟩
  · have g1 := oz.mp w1
    refine kx_iconst (pc := 13) (x := 1) d_M_save_13 (by decide) ?_
    refine kx_goto (pc := 14) (tgt := 18) d_M_save_14 (by decide) ?_
    refine kx_iconst (pc := 18) (x := 1) d_M_save_18 (by decide) ?_
    refine kx_invV (pc := 19) (as := [.int _, .int _]) (st := []) (k := 0) (j := 0) d_M_save_19 wv_M_70 (wd_o rfl) (k_fails1 (a := a) (b := (uo b 61 0 0)) uo_s (by decide)) rfl rfl (Nat.le_of_ble_eq_true rfl) (by decide) (Nat.le_of_ble_eq_true rfl) (fun rv n' h' hq => ?_) (fun X n' h' hq => nomatch hq.2)
    obtain ⟨rfl, hq⟩ := hq
    cases hq
    refine kx_if_eq (pc := 22) (tgt := 27) d_M_save_22 (by decide) (fun hz => absurd hz (by decide)) (fun _ => ?_)
    refine kx_iconst (pc := 25) (x := 0) d_M_save_25 (by decide) ?_
    exact kx_iret rfl d_M_save_26 ⟨by unfold m_save; rw [if_neg g1]; try rfl, by unfold m_save; rw [if_neg g1]; try rfl⟩
def m_cell (b : kW) (x1 x2 : Int32) : Int64 × kW := if 0 ≤ x1 ∧ x1 ≤ 7 then if 0 ≤ x2 ∧ x2 ≤ 15 then (b.2.1 67 (16 * nt x1 + nt x2), (uo b 61 0 0)) else (0, g_err b 2) else (0, g_err b 1)
set_option maxHeartbeats 4000000 in
set_option maxRecDepth 100000 in
theorem k_mcell {E : kx_E} {n : Nat} {a b : kW} {x1 x2 : Int32} : kx_V E i_M_cell 3 0 0 (fun r _ h' => r = Sum.inl (some (.long (m_cell b x1 x2).1)) ∧ h' = wd (wx a (m_cell b x1 x2).2)) 0 0 0 (lv_args 0 [.ref 61, .int x1, .int x2]) [] n (wd (wx a b)) := by
  refine kx_aload_n (pc := 0) d_M_cell_0 rfl ?_
  refine kx_iconst (pc := 1) (x := 0) d_M_cell_1 (by decide) ?_
  refine km_puti (pc := 2) d_M_cell_2 fl_M_59 fw_M_0 (by decide) rfl (by decide) rfl ?_
  refine kx_aload_n (pc := 5) d_M_cell_5 rfl ?_
  refine kx_iload_n (pc := 6) d_M_cell_6 rfl ?_
  refine kx_invS (pc := 7) (as := [.int _]) (st := _) (k := 0) (j := 0) d_M_cell_7 ws_M_82 k_isProjection rfl rfl (Nat.le_of_ble_eq_true rfl) (by decide) (Nat.le_of_ble_eq_true rfl) (fun rv n' h' hq => ?_) (fun X n' h' hq => nomatch hq.2)
  obtain ⟨rfl, hq⟩ := hq
  cases hq
  refine kx_if_ne (pc := 10) (tgt := 17) d_M_cell_10 (by decide) (fun w1 => ?_) (fun w1 => ?_)
  · have g1 := oy w1
    obtain ⟨p, hp8, rfl, np⟩ := nI_gl (N := 7) (by decide) g1
    have hp : p < 8 := by omega
    refine kx_iconst (pc := 17) (x := 0) d_M_cell_17 (by decide) ?_
    refine kx_iconst (pc := 18) (x := 1) d_M_cell_18 (by decide) ?_
    refine kx_invV (pc := 19) (as := [.int _, .int _]) (st := []) (k := 0) (j := 0) d_M_cell_19 wv_M_70 (wd_o rfl) (k_fails0 (a := a) (b := (uo b 61 0 0)) uo_s) rfl rfl (Nat.le_of_ble_eq_true rfl) (by decide) (Nat.le_of_ble_eq_true rfl) (fun rv n' h' hq => ?_) (fun X n' h' hq => nomatch hq.2)
    obtain ⟨rfl, hq⟩ := hq
    cases hq
    refine kx_if_ne (pc := 22) (tgt := 48) d_M_cell_22 (by decide) (fun hz => absurd hz (fun w => w rfl)) (fun _ => ?_)
    refine kx_aload_n (pc := 25) d_M_cell_25 rfl ?_
    refine kx_iload_n (pc := 26) d_M_cell_26 rfl ?_
    refine kx_iconst (pc := 27) (x := 0) d_M_cell_27 (by decide) ?_
    refine kx_bipush (pc := 28) (x := 15) d_M_cell_28 (by decide) ?_
    refine kx_invS (pc := 30) (as := [.int _, .int _, .int _]) (st := _) (k := 0) (j := 0) d_M_cell_30 ws_M_66 k_in rfl rfl (Nat.le_of_ble_eq_true rfl) (by decide) (Nat.le_of_ble_eq_true rfl) (fun rv n' h' hq => ?_) (fun X n' h' hq => nomatch hq.2)
    obtain ⟨rfl, hq⟩ := hq
    cases hq
    refine kx_if_ne (pc := 33) (tgt := 40) d_M_cell_33 (by decide) (fun w2 => ?_) (fun w2 => ?_)
    · have g2 := oy w2
      obtain ⟨z, hz15, rfl, nz⟩ := nI_gl (N := 15) (by decide) g2
      refine kx_iconst (pc := 40) (x := 0) d_M_cell_40 (by decide) ?_
      refine kx_iconst (pc := 41) (x := 2) d_M_cell_41 (by decide) ?_
      refine kx_invV (pc := 42) (as := [.int _, .int _]) (st := []) (k := 0) (j := 0) d_M_cell_42 wv_M_70 (wd_o rfl) (k_fails0 (a := a) (b := (uo b 61 0 0)) uo_s) rfl rfl (Nat.le_of_ble_eq_true rfl) (by decide) (Nat.le_of_ble_eq_true rfl) (fun rv n' h' hq => ?_) (fun X n' h' hq => nomatch hq.2)
      obtain ⟨rfl, hq⟩ := hq
      cases hq
      refine kx_if_eq (pc := 45) (tgt := 52) d_M_cell_45 (by decide) (fun _ => ?_) (fun hz => absurd rfl hz)
      refine kx_aload_n (pc := 52) d_M_cell_52 rfl ?_
      refine kw_getr (pc := 53) (r := 67) d_M_cell_53 fl_M_26 rfl (by decide) rfl ?_
      refine kx_bipush (pc := 56) (x := 16) d_M_cell_56 (by decide) ?_
      refine kx_iload_n (pc := 58) d_M_cell_58 rfl ?_
      refine kx_imul (pc := 59) d_M_cell_59 ?_
      refine kx_iload_n (pc := 60) d_M_cell_60 rfl ?_
      refine kx_iadd (pc := 61) d_M_cell_61 ?_
      refine kx_eqi (ix16 p z) ?_
      refine km_lald (pc := 62) d_M_cell_62 (by decide) rfl ⟨rfl, by omega, by decide⟩ ?_
      exact kx_lret rfl d_M_cell_63 ⟨by unfold m_cell; rw [if_pos g1, if_pos g2, np, nz]; try rfl, by unfold m_cell; rw [if_pos g1, if_pos g2, np, nz]; try rfl⟩
    · have g2 := oz.mp w2
      refine kx_iconst (pc := 36) (x := 1) d_M_cell_36 (by decide) ?_
      refine kx_goto (pc := 37) (tgt := 41) d_M_cell_37 (by decide) ?_
      refine kx_iconst (pc := 41) (x := 2) d_M_cell_41 (by decide) ?_
      refine kx_invV (pc := 42) (as := [.int _, .int _]) (st := []) (k := 0) (j := 0) d_M_cell_42 wv_M_70 (wd_o rfl) (k_fails1 (a := a) (b := (uo b 61 0 0)) uo_s (by decide)) rfl rfl (Nat.le_of_ble_eq_true rfl) (by decide) (Nat.le_of_ble_eq_true rfl) (fun rv n' h' hq => ?_) (fun X n' h' hq => nomatch hq.2)
      obtain ⟨rfl, hq⟩ := hq
      cases hq
      refine kx_if_eq (pc := 45) (tgt := 52) d_M_cell_45 (by decide) (fun hz => absurd hz (by decide)) (fun _ => ?_)
      refine kx_lconst (pc := 48) (x := 0) d_M_cell_48 (by decide) ?_
      refine kx_goto (pc := 49) (tgt := 63) d_M_cell_49 (by decide) ?_
      exact kx_lret rfl d_M_cell_63 ⟨by unfold m_cell; rw [if_pos g1, if_neg g2]; try rfl, by unfold m_cell; rw [if_pos g1, if_neg g2]; try rfl⟩
  · have g1 := oz.mp w1
    refine kx_iconst (pc := 13) (x := 1) d_M_cell_13 (by decide) ?_
    refine kx_goto (pc := 14) (tgt := 18) d_M_cell_14 (by decide) ?_
    refine kx_iconst (pc := 18) (x := 1) d_M_cell_18 (by decide) ?_
    refine kx_invV (pc := 19) (as := [.int _, .int _]) (st := []) (k := 0) (j := 0) d_M_cell_19 wv_M_70 (wd_o rfl) (k_fails1 (a := a) (b := (uo b 61 0 0)) uo_s (by decide)) rfl rfl (Nat.le_of_ble_eq_true rfl) (by decide) (Nat.le_of_ble_eq_true rfl) (fun rv n' h' hq => ?_) (fun X n' h' hq => nomatch hq.2)
    obtain ⟨rfl, hq⟩ := hq
    cases hq
    refine kx_if_ne (pc := 22) (tgt := 48) d_M_cell_22 (by decide) (fun _ => ?_) (fun hz => absurd hz (by decide))
    refine kx_lconst (pc := 48) (x := 0) d_M_cell_48 (by decide) ?_
    refine kx_goto (pc := 49) (tgt := 63) d_M_cell_49 (by decide) ?_
    exact kx_lret rfl d_M_cell_63 ⟨by unfold m_cell; rw [if_neg g1]; try rfl, by unfold m_cell; rw [if_neg g1]; try rfl⟩
end
section
def m_filter (b : kW) (x1 x2 x3 : Int32) : kW := if 0 ≤ x1 ∧ x1 ≤ 7 then if -1 ≤ x2 ∧ x2 ≤ 15 then if 0 ≤ x3 ∧ x3 ≤ 255 then ui (ui (ui (ui (uo b 61 0 0) 74 (nt x1) x2) 75 (nt x1) x3) 76 (nt x1) 0) 77 (nt x1) 0 else g_err b 1 else g_err b 1 else g_err b 1
set_option maxHeartbeats 4000000 in
set_option maxRecDepth 100000 in
theorem k_mfilter {E : kx_E} {n : Nat} {a b : kW} {x1 x2 x3 : Int32} : kx_V E i_M_filter 3 0 0 (fun r _ h' => r = Sum.inl none ∧ h' = wd (wx a (m_filter b x1 x2 x3))) 0 0 0 (lv_args 0 [.ref 61, .int x1, .int x2, .int x3]) [] n (wd (wx a b)) := by
  refine kx_aload_n (pc := 0) d_M_filter_0 rfl ?_
  refine kx_iconst (pc := 1) (x := 0) d_M_filter_1 (by decide) ?_
  refine km_puti (pc := 2) d_M_filter_2 fl_M_59 fw_M_0 (by decide) rfl (by decide) rfl ?_
  refine kx_aload_n (pc := 5) d_M_filter_5 rfl ?_
  refine kx_iload_n (pc := 6) d_M_filter_6 rfl ?_
  refine kx_invS (pc := 7) (as := [.int _]) (st := _) (k := 0) (j := 0) d_M_filter_7 ws_M_96 k_isSubscription rfl rfl (Nat.le_of_ble_eq_true rfl) (by decide) (Nat.le_of_ble_eq_true rfl) (fun rv n' h' hq => ?_) (fun X n' h' hq => nomatch hq.2)
  obtain ⟨rfl, hq⟩ := hq
  cases hq
  refine kx_if_eq (pc := 10) (tgt := 34) d_M_filter_10 (by decide) (fun w1 => ?_) (fun w1 => ?_)
  · have g1 := oz.mp w1
    refine kx_iconst (pc := 34) (x := 1) d_M_filter_34 (by decide) ?_
    refine kx_goto (pc := 35) (tgt := 39) d_M_filter_35 (by decide) ?_
    refine kx_iconst (pc := 39) (x := 1) d_M_filter_39 (by decide) ?_
    refine kx_invV (pc := 40) (as := [.int _, .int _]) (st := []) (k := 0) (j := 0) d_M_filter_40 wv_M_70 (wd_o rfl) (k_fails1 (a := a) (b := (uo b 61 0 0)) uo_s (by decide)) rfl rfl (Nat.le_of_ble_eq_true rfl) (by decide) (Nat.le_of_ble_eq_true rfl) (fun rv n' h' hq => ?_) (fun X n' h' hq => nomatch hq.2)
    obtain ⟨rfl, hq⟩ := hq
    cases hq
    refine kx_if_eq (pc := 43) (tgt := 47) d_M_filter_43 (by decide) (fun hz => absurd hz (by decide)) (fun _ => ?_)
    exact kx_vret rfl d_M_filter_46 ⟨rfl, by unfold m_filter; rw [if_neg g1]; try rfl⟩
  · have g1 := oy w1
    refine kx_iload_n (pc := 13) d_M_filter_13 rfl ?_
    refine kx_iconst (pc := 14) (x := -1) d_M_filter_14 (by decide) ?_
    refine kx_bipush (pc := 15) (x := 15) d_M_filter_15 (by decide) ?_
    refine kx_invS (pc := 17) (as := [.int _, .int _, .int _]) (st := _) (k := 0) (j := 0) d_M_filter_17 ws_M_66 k_in rfl rfl (Nat.le_of_ble_eq_true rfl) (by decide) (Nat.le_of_ble_eq_true rfl) (fun rv n' h' hq => ?_) (fun X n' h' hq => nomatch hq.2)
    obtain ⟨rfl, hq⟩ := hq
    cases hq
    refine kx_if_eq (pc := 20) (tgt := 34) d_M_filter_20 (by decide) (fun w2 => ?_) (fun w2 => ?_)
    · have g2 := oz.mp w2
      refine kx_iconst (pc := 34) (x := 1) d_M_filter_34 (by decide) ?_
      refine kx_goto (pc := 35) (tgt := 39) d_M_filter_35 (by decide) ?_
      refine kx_iconst (pc := 39) (x := 1) d_M_filter_39 (by decide) ?_
      refine kx_invV (pc := 40) (as := [.int _, .int _]) (st := []) (k := 0) (j := 0) d_M_filter_40 wv_M_70 (wd_o rfl) (k_fails1 (a := a) (b := (uo b 61 0 0)) uo_s (by decide)) rfl rfl (Nat.le_of_ble_eq_true rfl) (by decide) (Nat.le_of_ble_eq_true rfl) (fun rv n' h' hq => ?_) (fun X n' h' hq => nomatch hq.2)
      obtain ⟨rfl, hq⟩ := hq
      cases hq
      refine kx_if_eq (pc := 43) (tgt := 47) d_M_filter_43 (by decide) (fun hz => absurd hz (by decide)) (fun _ => ?_)
      exact kx_vret rfl d_M_filter_46 ⟨rfl, by unfold m_filter; rw [if_pos g1, if_neg g2]; try rfl⟩
    · have g2 := oy w2
      refine kx_iload_n (pc := 23) d_M_filter_23 rfl ?_
      refine kx_iconst (pc := 24) (x := 0) d_M_filter_24 (by decide) ?_
      refine kx_sipush (pc := 25) (x := 255) d_M_filter_25 (by decide) ?_
      refine kx_invS (pc := 28) (as := [.int _, .int _, .int _]) (st := _) (k := 0) (j := 0) d_M_filter_28 ws_M_66 k_in rfl rfl (Nat.le_of_ble_eq_true rfl) (by decide) (Nat.le_of_ble_eq_true rfl) (fun rv n' h' hq => ?_) (fun X n' h' hq => nomatch hq.2)
      obtain ⟨rfl, hq⟩ := hq
      cases hq
      refine kx_if_ne (pc := 31) (tgt := 38) d_M_filter_31 (by decide) (fun w4 => ?_) (fun w4 => ?_)
      · have g3 := oy w4
        obtain ⟨p, hp8, rfl, np⟩ := nI_gl (N := 7) (by decide) g1
        have hp : p < 8 := by omega
        refine kx_iconst (pc := 38) (x := 0) d_M_filter_38 (by decide) ?_
        refine kx_iconst (pc := 39) (x := 1) d_M_filter_39 (by decide) ?_
        refine kx_invV (pc := 40) (as := [.int _, .int _]) (st := []) (k := 0) (j := 0) d_M_filter_40 wv_M_70 (wd_o rfl) (k_fails0 (a := a) (b := (uo b 61 0 0)) uo_s) rfl rfl (Nat.le_of_ble_eq_true rfl) (by decide) (Nat.le_of_ble_eq_true rfl) (fun rv n' h' hq => ?_) (fun X n' h' hq => nomatch hq.2)
        obtain ⟨rfl, hq⟩ := hq
        cases hq
        refine kx_if_eq (pc := 43) (tgt := 47) d_M_filter_43 (by decide) (fun _ => ?_) (fun hz => absurd rfl hz)
        refine kx_aload_n (pc := 47) d_M_filter_47 rfl ?_
        refine kw_getr (pc := 48) (r := 74) d_M_filter_48 fl_M_47 rfl (by decide) rfl ?_
        refine kx_iload_n (pc := 51) d_M_filter_51 rfl ?_
        refine kx_iload_n (pc := 52) d_M_filter_52 rfl ?_
        refine km_iast (pc := 53) d_M_filter_53 (by decide) rfl ⟨rfl, hp, by decide⟩ ?_
        refine kx_aload_n (pc := 54) d_M_filter_54 rfl ?_
        refine kw_getr (pc := 55) (r := 75) d_M_filter_55 fl_M_50 rfl (by decide) rfl ?_
        refine kx_iload_n (pc := 58) d_M_filter_58 rfl ?_
        refine kx_iload_n (pc := 59) d_M_filter_59 rfl ?_
        refine km_iast (pc := 60) d_M_filter_60 (by decide) rfl ⟨rfl, hp, by decide⟩ ?_
        refine kx_aload_n (pc := 61) d_M_filter_61 rfl ?_
        refine kw_getr (pc := 62) (r := 76) d_M_filter_62 fl_M_53 rfl (by decide) rfl ?_
        refine kx_iload_n (pc := 65) d_M_filter_65 rfl ?_
        refine kx_iconst (pc := 66) (x := 0) d_M_filter_66 (by decide) ?_
        refine km_iast (pc := 67) d_M_filter_67 (by decide) rfl ⟨rfl, hp, by decide⟩ ?_
        refine kx_aload_n (pc := 68) d_M_filter_68 rfl ?_
        refine kw_getr (pc := 69) (r := 77) d_M_filter_69 fl_M_56 rfl (by decide) rfl ?_
        refine kx_iload_n (pc := 72) d_M_filter_72 rfl ?_
        refine kx_iconst (pc := 73) (x := 0) d_M_filter_73 (by decide) ?_
        refine km_iast (pc := 74) d_M_filter_74 (by decide) rfl ⟨rfl, hp, by decide⟩ ?_
        exact kx_vret rfl d_M_filter_75 ⟨rfl, by unfold m_filter; rw [if_pos g1, if_pos g2, if_pos g3, np]; try rfl⟩
      · have g3 := oz.mp w4
        refine kx_iconst (pc := 34) (x := 1) d_M_filter_34 (by decide) ?_
        refine kx_goto (pc := 35) (tgt := 39) d_M_filter_35 (by decide) ?_
        refine kx_iconst (pc := 39) (x := 1) d_M_filter_39 (by decide) ?_
        refine kx_invV (pc := 40) (as := [.int _, .int _]) (st := []) (k := 0) (j := 0) d_M_filter_40 wv_M_70 (wd_o rfl) (k_fails1 (a := a) (b := (uo b 61 0 0)) uo_s (by decide)) rfl rfl (Nat.le_of_ble_eq_true rfl) (by decide) (Nat.le_of_ble_eq_true rfl) (fun rv n' h' hq => ?_) (fun X n' h' hq => nomatch hq.2)
        obtain ⟨rfl, hq⟩ := hq
        cases hq
        refine kx_if_eq (pc := 43) (tgt := 47) d_M_filter_43 (by decide) (fun hz => absurd hz (by decide)) (fun _ => ?_)
        exact kx_vret rfl d_M_filter_46 ⟨rfl, by unfold m_filter; rw [if_pos g1, if_pos g2, if_neg g3]; try rfl⟩
def m_ack (b : kW) (ev : Nat) (x1 x2 : Int32) : Int32 × kW := if 0 ≤ x1 ∧ x1 ≤ 7 then if 0 ≤ x2 ∧ x2 ≤ nI ev - 1 then (if x2 + 1 ≤ b.1 76 (nt x1) then (b.1 76 (nt x1), (uo b 61 0 0)) else (x2 + 1, ui (uo b 61 0 0) 76 (nt x1) (x2 + 1))) else (0, g_err b 2) else (0, g_err b 1)
set_option maxHeartbeats 4000000 in
set_option maxRecDepth 100000 in
theorem k_mack {E : kx_E} {n : Nat} {a b : kW} {ev : Nat} {x1 x2 : Int32} (h1 : b.2.2 61 1 = nI ev) : kx_V E i_M_acknowledge 3 0 0 (fun r _ h' => r = Sum.inl (some (.int (m_ack b ev x1 x2).1)) ∧ h' = wd (wx a (m_ack b ev x1 x2).2)) 0 0 0 (lv_args 0 [.ref 61, .int x1, .int x2]) [] n (wd (wx a b)) := by
  refine kx_aload_n (pc := 0) d_M_acknowledge_0 rfl ?_
  refine kx_iconst (pc := 1) (x := 0) d_M_acknowledge_1 (by decide) ?_
  refine km_puti (pc := 2) d_M_acknowledge_2 fl_M_59 fw_M_0 (by decide) rfl (by decide) rfl ?_
  refine kx_aload_n (pc := 5) d_M_acknowledge_5 rfl ?_
  refine kx_iload_n (pc := 6) d_M_acknowledge_6 rfl ?_
  refine kx_invS (pc := 7) (as := [.int _]) (st := _) (k := 0) (j := 0) d_M_acknowledge_7 ws_M_96 k_isSubscription rfl rfl (Nat.le_of_ble_eq_true rfl) (by decide) (Nat.le_of_ble_eq_true rfl) (fun rv n' h' hq => ?_) (fun X n' h' hq => nomatch hq.2)
  obtain ⟨rfl, hq⟩ := hq
  cases hq
  refine kx_if_ne (pc := 10) (tgt := 17) d_M_acknowledge_10 (by decide) (fun w1 => ?_) (fun w1 => ?_)
  · have g1 := oy w1
    obtain ⟨p, hp8, rfl, np⟩ := nI_gl (N := 7) (by decide) g1
    have hp : p < 8 := by omega
    refine kx_iconst (pc := 17) (x := 0) d_M_acknowledge_17 (by decide) ?_
    refine kx_iconst (pc := 18) (x := 1) d_M_acknowledge_18 (by decide) ?_
    refine kx_invV (pc := 19) (as := [.int _, .int _]) (st := []) (k := 0) (j := 0) d_M_acknowledge_19 wv_M_70 (wd_o rfl) (k_fails0 (a := a) (b := (uo b 61 0 0)) uo_s) rfl rfl (Nat.le_of_ble_eq_true rfl) (by decide) (Nat.le_of_ble_eq_true rfl) (fun rv n' h' hq => ?_) (fun X n' h' hq => nomatch hq.2)
    obtain ⟨rfl, hq⟩ := hq
    cases hq
    refine kx_if_ne (pc := 22) (tgt := 52) d_M_acknowledge_22 (by decide) (fun hz => absurd hz (fun w => w rfl)) (fun _ => ?_)
    refine kx_aload_n (pc := 25) d_M_acknowledge_25 rfl ?_
    refine kx_iload_n (pc := 26) d_M_acknowledge_26 rfl ?_
    refine kx_iconst (pc := 27) (x := 0) d_M_acknowledge_27 (by decide) ?_
    refine kx_aload_n (pc := 28) d_M_acknowledge_28 rfl ?_
    refine km_geti (pc := 29) d_M_acknowledge_29 fl_M_63 (by decide) rfl (by decide) rfl ?_
    refine kx_eqi (show _ = nI ev from h1) ?_
    refine kx_iconst (pc := 32) (x := 1) d_M_acknowledge_32 (by decide) ?_
    refine kx_isub (pc := 33) d_M_acknowledge_33 ?_
    refine kx_invS (pc := 34) (as := [.int _, .int _, .int _]) (st := _) (k := 0) (j := 0) d_M_acknowledge_34 ws_M_66 k_in rfl rfl (Nat.le_of_ble_eq_true rfl) (by decide) (Nat.le_of_ble_eq_true rfl) (fun rv n' h' hq => ?_) (fun X n' h' hq => nomatch hq.2)
    obtain ⟨rfl, hq⟩ := hq
    cases hq
    refine kx_if_ne (pc := 37) (tgt := 44) d_M_acknowledge_37 (by decide) (fun w2 => ?_) (fun w2 => ?_)
    · have g2 := oy w2
      refine kx_iconst (pc := 44) (x := 0) d_M_acknowledge_44 (by decide) ?_
      refine kx_iconst (pc := 45) (x := 2) d_M_acknowledge_45 (by decide) ?_
      refine kx_invV (pc := 46) (as := [.int _, .int _]) (st := []) (k := 0) (j := 0) d_M_acknowledge_46 wv_M_70 (wd_o rfl) (k_fails0 (a := a) (b := (uo b 61 0 0)) uo_s) rfl rfl (Nat.le_of_ble_eq_true rfl) (by decide) (Nat.le_of_ble_eq_true rfl) (fun rv n' h' hq => ?_) (fun X n' h' hq => nomatch hq.2)
      obtain ⟨rfl, hq⟩ := hq
      cases hq
      refine kx_if_eq (pc := 49) (tgt := 54) d_M_acknowledge_49 (by decide) (fun _ => ?_) (fun hz => absurd rfl hz)
      refine kx_iload_n (pc := 54) d_M_acknowledge_54 rfl ?_
      refine kx_iconst (pc := 55) (x := 1) d_M_acknowledge_55 (by decide) ?_
      refine kx_iadd (pc := 56) d_M_acknowledge_56 ?_
      refine kx_aload_n (pc := 57) d_M_acknowledge_57 rfl ?_
      refine kw_getr (pc := 58) (r := 76) d_M_acknowledge_58 fl_M_53 rfl (by decide) rfl ?_
      refine kx_iload_n (pc := 61) d_M_acknowledge_61 rfl ?_
      refine km_iald (pc := 62) d_M_acknowledge_62 (by decide) rfl ⟨rfl, hp, by decide⟩ ?_
      refine kx_icmp_le (pc := 63) (tgt := 75) d_M_acknowledge_63 (by decide) (fun w5 => ?_) (fun w5 => ?_)
      · refine kx_aload_n (pc := 75) d_M_acknowledge_75 rfl ?_
        refine kw_getr (pc := 76) (r := 76) d_M_acknowledge_76 fl_M_53 rfl (by decide) rfl ?_
        refine kx_iload_n (pc := 79) d_M_acknowledge_79 rfl ?_
        refine km_iald (pc := 80) d_M_acknowledge_80 (by decide) rfl ⟨rfl, hp, by decide⟩ ?_
        exact kx_iret rfl d_M_acknowledge_81 ⟨by unfold m_ack; rw [if_pos g1, if_pos g2, np, if_pos (show x2 + 1 ≤ b.1 76 p from w5)]; try rfl, by unfold m_ack; rw [if_pos g1, if_pos g2, np, if_pos (show x2 + 1 ≤ b.1 76 p from w5)]; try rfl⟩
      · refine kx_aload_n (pc := 66) d_M_acknowledge_66 rfl ?_
        refine kw_getr (pc := 67) (r := 76) d_M_acknowledge_67 fl_M_53 rfl (by decide) rfl ?_
        refine kx_iload_n (pc := 70) d_M_acknowledge_70 rfl ?_
        refine kx_iload_n (pc := 71) d_M_acknowledge_71 rfl ?_
        refine kx_iconst (pc := 72) (x := 1) d_M_acknowledge_72 (by decide) ?_
        refine kx_iadd (pc := 73) d_M_acknowledge_73 ?_
        refine km_iast (pc := 74) d_M_acknowledge_74 (by decide) rfl ⟨rfl, hp, by decide⟩ ?_
        refine kx_aload_n (pc := 75) d_M_acknowledge_75 rfl ?_
        refine kw_getr (pc := 76) (r := 76) d_M_acknowledge_76 fl_M_53 rfl (by decide) rfl ?_
        refine kx_iload_n (pc := 79) d_M_acknowledge_79 rfl ?_
        refine km_iald (pc := 80) d_M_acknowledge_80 (by decide) rfl ⟨rfl, hp, by decide⟩ ?_
        refine kx_eqi ui_s ?_
        exact kx_iret rfl d_M_acknowledge_81 ⟨by unfold m_ack; rw [if_pos g1, if_pos g2, np, if_neg (show ¬ x2 + 1 ≤ b.1 76 p from w5)]; try rfl, by unfold m_ack; rw [if_pos g1, if_pos g2, np, if_neg (show ¬ x2 + 1 ≤ b.1 76 p from w5)]; try rfl⟩
    · have g2 := oz.mp w2
      refine kx_iconst (pc := 40) (x := 1) d_M_acknowledge_40 (by decide) ?_
      refine kx_goto (pc := 41) (tgt := 45) d_M_acknowledge_41 (by decide) ?_
      refine kx_iconst (pc := 45) (x := 2) d_M_acknowledge_45 (by decide) ?_
      refine kx_invV (pc := 46) (as := [.int _, .int _]) (st := []) (k := 0) (j := 0) d_M_acknowledge_46 wv_M_70 (wd_o rfl) (k_fails1 (a := a) (b := (uo b 61 0 0)) uo_s (by decide)) rfl rfl (Nat.le_of_ble_eq_true rfl) (by decide) (Nat.le_of_ble_eq_true rfl) (fun rv n' h' hq => ?_) (fun X n' h' hq => nomatch hq.2)
      obtain ⟨rfl, hq⟩ := hq
      cases hq
      refine kx_if_eq (pc := 49) (tgt := 54) d_M_acknowledge_49 (by decide) (fun hz => absurd hz (by decide)) (fun _ => ?_)
      refine kx_iconst (pc := 52) (x := 0) d_M_acknowledge_52 (by decide) ?_
      exact kx_iret rfl d_M_acknowledge_53 ⟨by unfold m_ack; rw [if_pos g1, if_neg g2]; try rfl, by unfold m_ack; rw [if_pos g1, if_neg g2]; try rfl⟩
  · have g1 := oz.mp w1
    refine kx_iconst (pc := 13) (x := 1) d_M_acknowledge_13 (by decide) ?_
    refine kx_goto (pc := 14) (tgt := 18) d_M_acknowledge_14 (by decide) ?_
    refine kx_iconst (pc := 18) (x := 1) d_M_acknowledge_18 (by decide) ?_
    refine kx_invV (pc := 19) (as := [.int _, .int _]) (st := []) (k := 0) (j := 0) d_M_acknowledge_19 wv_M_70 (wd_o rfl) (k_fails1 (a := a) (b := (uo b 61 0 0)) uo_s (by decide)) rfl rfl (Nat.le_of_ble_eq_true rfl) (by decide) (Nat.le_of_ble_eq_true rfl) (fun rv n' h' hq => ?_) (fun X n' h' hq => nomatch hq.2)
    obtain ⟨rfl, hq⟩ := hq
    cases hq
    refine kx_if_ne (pc := 22) (tgt := 52) d_M_acknowledge_22 (by decide) (fun _ => ?_) (fun hz => absurd hz (by decide))
    refine kx_iconst (pc := 52) (x := 0) d_M_acknowledge_52 (by decide) ?_
    exact kx_iret rfl d_M_acknowledge_53 ⟨by unfold m_ack; rw [if_neg g1]; try rfl, by unfold m_ack; rw [if_neg g1]; try rfl⟩
def g_syncL : Nat → Nat → kW → kW
  | 0, _, b => b
  | m + 1, u, b => g_syncL m (u + 1) (ui b 77 u (b.1 76 u))
def m_sync (b : kW) : kW := g_syncL 8 0 (uo (uo b 61 0 0) 61 2 (b.2.2 61 1))
set_option maxHeartbeats 4000000 in
set_option maxRecDepth 100000 in
theorem k_msync_loop {E : kx_E} {n : Nat} {a : kW} {x : Int32} (m : Nat) : ∀ (i : Nat) (b : kW), i + m = 8 → b.2.2 61 1 = x → ∀ {Q : kx_Q}, Q (Sum.inl (some (.int x))) n (wd (wx a (g_syncL m i b))) → kx_V E i_M_sync 1 0 0 Q 0 0 15 [(1, .int (nI i)), (0, .ref 61)] [] n (wd (wx a b)) := by
  induction m with
  | zero =>
    intro i b hm hx Q hQ
    have h8 : i = 8 := by omega
    subst h8
    refine kx_iload_n (pc := 15) d_M_sync_15 rfl ?_
    refine kx_bipush (pc := 16) (x := 8) d_M_sync_16 (by decide) ?_
    refine kx_eqi (show (8 : Int32) = nI 8 from rfl) ?_
    refine kx_icmp_ge (pc := 18) (tgt := 39) d_M_sync_18 (by decide) (fun _ => ?_) (fun hz => absurd (nI_le (Nat.le_refl 8) (by omega)) hz)
    refine kx_aload_n (pc := 39) d_M_sync_39 rfl ?_
    refine km_geti (pc := 40) d_M_sync_40 fl_M_63 (by decide) rfl (by decide) rfl ?_
    refine kx_eqi hx ?_
    exact kx_iret rfl d_M_sync_43 hQ
  | succ m ih =>
    intro i b hm hx Q hQ
    have hlt : i < 8 := by omega
    refine kx_iload_n (pc := 15) d_M_sync_15 rfl ?_
    refine kx_bipush (pc := 16) (x := 8) d_M_sync_16 (by decide) ?_
    refine kx_eqi (show (8 : Int32) = nI 8 from rfl) ?_
    refine kx_icmp_ge (pc := 18) (tgt := 39) d_M_sync_18 (by decide) (fun hz => absurd hz (nI_ge hlt (by omega))) (fun _ => ?_)
    refine kx_aload_n (pc := 21) d_M_sync_21 rfl ?_
    refine kw_getr (pc := 22) (r := 77) d_M_sync_22 fl_M_56 rfl (by decide) rfl ?_
    refine kx_iload_n (pc := 25) d_M_sync_25 rfl ?_
    refine kx_aload_n (pc := 26) d_M_sync_26 rfl ?_
    refine kw_getr (pc := 27) (r := 76) d_M_sync_27 fl_M_53 rfl (by decide) rfl ?_
    refine kx_iload_n (pc := 30) d_M_sync_30 rfl ?_
    refine km_iald (pc := 31) d_M_sync_31 (by decide) rfl ⟨rfl, hlt, by decide⟩ ?_
    refine km_iast (pc := 32) d_M_sync_32 (by decide) rfl ⟨rfl, hlt, by decide⟩ ?_
    refine kx_iinc (pc := 33) (y := nI (i + 1)) (lv' := [(1, _), (0, _)]) d_M_sync_33 rfl (nI_1 i) (by decide) rfl ?_
    refine kx_goto (pc := 36) (tgt := 15) d_M_sync_36 (by decide) ?_
    exact ih (i + 1) (ui b 77 i (b.1 76 i)) (by omega) hx hQ
set_option maxHeartbeats 4000000 in
set_option maxRecDepth 100000 in
theorem k_msync {E : kx_E} {n : Nat} {a b : kW} : kx_V E i_M_sync 1 0 0 (fun r _ h' => h' = wd (wx a (m_sync b)) ∧ r = Sum.inl (some (.int (b.2.2 61 1)))) 0 0 0 (lv_args 0 [.ref 61]) [] n (wd (wx a b)) := by
  refine kx_aload_n (pc := 0) d_M_sync_0 rfl ?_
  refine kx_iconst (pc := 1) (x := 0) d_M_sync_1 (by decide) ?_
  refine km_puti (pc := 2) d_M_sync_2 fl_M_59 fw_M_0 (by decide) rfl (by decide) rfl ?_
  refine kx_aload_n (pc := 5) d_M_sync_5 rfl ?_
  refine kx_aload_n (pc := 6) d_M_sync_6 rfl ?_
  refine km_geti (pc := 7) d_M_sync_7 fl_M_63 (by decide) rfl (by decide) rfl ?_
  refine km_puti (pc := 10) d_M_sync_10 fl_M_99 fw_M_2 (by decide) rfl (by decide) rfl ?_
  refine kx_iconst (pc := 13) (x := 0) d_M_sync_13 (by decide) ?_
  refine kx_eqi (show (0 : Int32) = nI 0 from rfl) ?_
  refine kx_istore_n (pc := 14) (lv' := [(1, _), (0, _)]) d_M_sync_14 rfl (by decide) rfl ?_
  exact k_msync_loop 8 0 (uo (uo b 61 0 0) 61 2 (b.2.2 61 1)) rfl rfl ⟨rfl, rfl⟩
set_option maxHeartbeats 4000000 in
set_option maxRecDepth 100000 in
theorem k_isNone {E : kx_E} {n : Nat} {a b : kW} {ev : Nat} {x : Int32} (h1 : b.2.2 61 1 = nI ev) : kx_V E i_M_isNone 2 0 0 (fun r _ h' => h' = wd (wx a b) ∧ r = Sum.inl (some (.int (if 0 ≤ x ∧ x ≤ nI ev - 1 then 0 else 1)))) 0 0 0 (lv_args 0 [.ref 61, .int x]) [] n (wd (wx a b)) := by
  refine kx_iload_n (pc := 0) d_M_isNone_0 rfl ?_
  refine kx_iconst (pc := 1) (x := 0) d_M_isNone_1 (by decide) ?_
  refine kx_aload_n (pc := 2) d_M_isNone_2 rfl ?_
  refine km_geti (pc := 3) d_M_isNone_3 fl_M_63 (by decide) rfl (by decide) rfl ?_
  refine kx_eqi (show _ = nI ev from h1) ?_
  refine kx_iconst (pc := 6) (x := 1) d_M_isNone_6 (by decide) ?_
  refine kx_isub (pc := 7) d_M_isNone_7 ?_
  refine kx_invS (pc := 8) (as := [.int _, .int _, .int _]) (st := _) (k := 0) (j := 0) d_M_isNone_8 ws_M_66 k_in rfl rfl (Nat.le_of_ble_eq_true rfl) (by decide) (Nat.le_of_ble_eq_true rfl) (fun rv n' h' hq => ?_) (fun X n' h' hq => nomatch hq.2)
  obtain ⟨rfl, hq⟩ := hq
  cases hq
  refine kx_if_ne (pc := 11) (tgt := 18) d_M_isNone_11 (by decide) (fun w1 => ?_) (fun w1 => ?_)
  · refine kx_iconst (pc := 18) (x := 0) d_M_isNone_18 (by decide) ?_
    exact kx_zret rfl rfl d_M_isNone_19 ⟨rfl, by rw [if_pos (oy w1)]⟩
  · refine kx_iconst (pc := 14) (x := 1) d_M_isNone_14 (by decide) ?_
    refine kx_goto (pc := 15) (tgt := 19) d_M_isNone_15 (by decide) ?_
    exact kx_zret rfl rfl d_M_isNone_19 ⟨rfl, by rw [if_neg (oz.mp w1)]⟩
def m_event (b : kW) (ev : Nat) (x1 x2 : Int32) : Int32 × kW := if 0 ≤ x2 ∧ x2 ≤ 4 then if 0 ≤ x1 ∧ x1 ≤ nI ev - 1 then ((if x2 = 0 then b.1 62 (nt x1) else if x2 = 1 then nI (cn (b.1 62) (b.1 62 (nt x1)) (nt x1)) else if x2 = 2 then b.1 63 (nt x1) else if x2 = 3 then b.1 64 (nt x1) else b.1 65 (nt x1)), (uo b 61 0 0)) else (0, g_err b 2) else (0, g_err b 1)
def m_value (b : kW) (ev : Nat) (x1 : Int32) : Int64 × kW := if 0 ≤ x1 ∧ x1 ≤ nI ev - 1 then (b.2.1 66 (nt x1), (uo b 61 0 0)) else (0, g_err b 1)
set_option maxHeartbeats 4000000 in
set_option maxRecDepth 100000 in
theorem k_mevent {E : kx_E} {n : Nat} {a b : kW} {ev : Nat} {x1 x2 : Int32} (h1 : b.2.2 61 1 = nI ev) (h5 : ev ≤ 500) : kx_V E i_M_event 3 0 0 (fun r _ h' => r = Sum.inl (some (.int (m_event b ev x1 x2).1)) ∧ h' = wd (wx a (m_event b ev x1 x2).2)) 0 0 0 (lv_args 0 [.ref 61, .int x1, .int x2]) [] n (wd (wx a b)) := by
  refine kx_aload_n (pc := 0) d_M_event_0 rfl ?_
  refine kx_iconst (pc := 1) (x := 0) d_M_event_1 (by decide) ?_
  refine km_puti (pc := 2) d_M_event_2 fl_M_59 fw_M_0 (by decide) rfl (by decide) rfl ?_
  refine kx_aload_n (pc := 5) d_M_event_5 rfl ?_
  refine kx_iload_n (pc := 6) d_M_event_6 rfl ?_
  refine kx_iconst (pc := 7) (x := 0) d_M_event_7 (by decide) ?_
  refine kx_iconst (pc := 8) (x := 4) d_M_event_8 (by decide) ?_
  refine kx_invS (pc := 9) (as := [.int _, .int _, .int _]) (st := _) (k := 0) (j := 0) d_M_event_9 ws_M_66 k_in rfl rfl (Nat.le_of_ble_eq_true rfl) (by decide) (Nat.le_of_ble_eq_true rfl) (fun rv n' h' hq => ?_) (fun X n' h' hq => nomatch hq.2)
  obtain ⟨rfl, hq⟩ := hq
  cases hq
  refine kx_if_ne (pc := 12) (tgt := 19) d_M_event_12 (by decide) (fun w1 => ?_) (fun w1 => ?_)
  · have g2 := oy w1
    refine kx_iconst (pc := 19) (x := 0) d_M_event_19 (by decide) ?_
    refine kx_iconst (pc := 20) (x := 1) d_M_event_20 (by decide) ?_
    refine kx_invV (pc := 21) (as := [.int _, .int _]) (st := []) (k := 0) (j := 0) d_M_event_21 wv_M_70 (wd_o rfl) (k_fails0 (a := a) (b := (uo b 61 0 0)) uo_s) rfl rfl (Nat.le_of_ble_eq_true rfl) (by decide) (Nat.le_of_ble_eq_true rfl) (fun rv n' h' hq => ?_) (fun X n' h' hq => nomatch hq.2)
    obtain ⟨rfl, hq⟩ := hq
    cases hq
    refine kx_if_ne (pc := 24) (tgt := 40) d_M_event_24 (by decide) (fun hz => absurd hz (fun w => w rfl)) (fun _ => ?_)
    refine kx_aload_n (pc := 27) d_M_event_27 rfl ?_
    refine kx_aload_n (pc := 28) d_M_event_28 rfl ?_
    refine kx_iload_n (pc := 29) d_M_event_29 rfl ?_
    refine kx_invV (pc := 30) (as := [.int _]) (st := _) (k := 0) (j := 0) d_M_event_30 wv_M_102 (wd_o rfl) (k_isNone (a := a) (b := (uo b 61 0 0)) (ev := ev) h1) rfl rfl (Nat.le_of_ble_eq_true rfl) (by decide) (Nat.le_of_ble_eq_true rfl) (fun rv n' h' hq => ?_) (fun X n' h' hq => nomatch hq.2)
    obtain ⟨rfl, hq⟩ := hq
    cases hq
    by_cases g1 : 0 ≤ x1 ∧ x1 ≤ nI ev - 1
    rotate_left
    · rw [if_neg g1]
      refine kx_iconst (pc := 33) (x := 2) d_M_event_33 (by decide) ?_
      refine kx_invV (pc := 34) (as := [.int _, .int _]) (st := []) (k := 0) (j := 0) d_M_event_34 wv_M_70 (wd_o rfl) (k_fails1 (a := a) (b := (uo b 61 0 0)) uo_s (by decide)) rfl rfl (Nat.le_of_ble_eq_true rfl) (by decide) (Nat.le_of_ble_eq_true rfl) (fun rv n' h' hq => ?_) (fun X n' h' hq => nomatch hq.2)
      obtain ⟨rfl, hq⟩ := hq
      cases hq
      refine kx_if_eq (pc := 37) (tgt := 42) d_M_event_37 (by decide) (fun hz => absurd hz (by decide)) (fun _ => ?_)
      refine kx_iconst (pc := 40) (x := 0) d_M_event_40 (by decide) ?_
      exact kx_iret rfl d_M_event_41 ⟨by unfold m_event; rw [if_pos g2, if_neg g1]; try rfl, by unfold m_event; rw [if_pos g2, if_neg g1]; try rfl⟩
    rw [if_pos g1]
    obtain ⟨q, hq9, rfl, nq⟩ := nI_lt1 (by omega) g1
    have q5 : q < 500 := by omega
    refine kx_iconst (pc := 33) (x := 2) d_M_event_33 (by decide) ?_
    refine kx_invV (pc := 34) (as := [.int _, .int _]) (st := []) (k := 0) (j := 0) d_M_event_34 wv_M_70 (wd_o rfl) (k_fails0 (a := a) (b := (uo b 61 0 0)) uo_s) rfl rfl (Nat.le_of_ble_eq_true rfl) (by decide) (Nat.le_of_ble_eq_true rfl) (fun rv n' h' hq => ?_) (fun X n' h' hq => nomatch hq.2)
    obtain ⟨rfl, hq⟩ := hq
    cases hq
    refine kx_if_eq (pc := 37) (tgt := 42) d_M_event_37 (by decide) (fun _ => ?_) (fun hz => absurd rfl hz)
    refine kx_iload_n (pc := 42) d_M_event_42 rfl ?_
    refine kx_if_ne (pc := 43) (tgt := 55) d_M_event_43 (by decide) (fun e0 => ?_) (fun e0 => ?_)
    · refine kx_iload_n (pc := 55) d_M_event_55 rfl ?_
      refine kx_iconst (pc := 56) (x := 1) d_M_event_56 (by decide) ?_
      refine kx_icmp_ne (pc := 57) (tgt := 74) d_M_event_57 (by decide) (fun e1 => ?_) (fun e1 => ?_)
      · refine kx_iload_n (pc := 74) d_M_event_74 rfl ?_
        refine kx_iconst (pc := 75) (x := 2) d_M_event_75 (by decide) ?_
        refine kx_icmp_ne (pc := 76) (tgt := 88) d_M_event_76 (by decide) (fun e2 => ?_) (fun e2 => ?_)
        · refine kx_iload_n (pc := 88) d_M_event_88 rfl ?_
          refine kx_iconst (pc := 89) (x := 3) d_M_event_89 (by decide) ?_
          refine kx_icmp_ne (pc := 90) (tgt := 102) d_M_event_90 (by decide) (fun e3 => ?_) (fun e3 => ?_)
          · refine kx_aload_n (pc := 102) d_M_event_102 rfl ?_
            refine kw_getr (pc := 103) (r := 65) d_M_event_103 fl_M_19 rfl (by decide) rfl ?_
            refine kx_iload_n (pc := 106) d_M_event_106 rfl ?_
            refine km_iald (pc := 107) d_M_event_107 (by decide) rfl ⟨rfl, q5, by decide⟩ ?_
            exact kx_iret rfl d_M_event_108 ⟨by unfold m_event; rw [if_pos g2, if_pos g1, nq, if_neg e0, if_neg e1, if_neg e2, if_neg e3]; try rfl, by unfold m_event; rw [if_pos g2, if_pos g1, nq, if_neg e0, if_neg e1, if_neg e2, if_neg e3]; try rfl⟩
          · refine kx_aload_n (pc := 93) d_M_event_93 rfl ?_
            refine kw_getr (pc := 94) (r := 64) d_M_event_94 fl_M_16 rfl (by decide) rfl ?_
            refine kx_iload_n (pc := 97) d_M_event_97 rfl ?_
            refine km_iald (pc := 98) d_M_event_98 (by decide) rfl ⟨rfl, q5, by decide⟩ ?_
            refine kx_goto (pc := 99) (tgt := 108) d_M_event_99 (by decide) ?_
            exact kx_iret rfl d_M_event_108 ⟨by unfold m_event; rw [if_pos g2, if_pos g1, nq, if_neg e0, if_neg e1, if_neg e2, if_pos e3]; try rfl, by unfold m_event; rw [if_pos g2, if_pos g1, nq, if_neg e0, if_neg e1, if_neg e2, if_pos e3]; try rfl⟩
        · refine kx_aload_n (pc := 79) d_M_event_79 rfl ?_
          refine kw_getr (pc := 80) (r := 63) d_M_event_80 fl_M_13 rfl (by decide) rfl ?_
          refine kx_iload_n (pc := 83) d_M_event_83 rfl ?_
          refine km_iald (pc := 84) d_M_event_84 (by decide) rfl ⟨rfl, q5, by decide⟩ ?_
          refine kx_goto (pc := 85) (tgt := 108) d_M_event_85 (by decide) ?_
          exact kx_iret rfl d_M_event_108 ⟨by unfold m_event; rw [if_pos g2, if_pos g1, nq, if_neg e0, if_neg e1, if_pos e2]; try rfl, by unfold m_event; rw [if_pos g2, if_pos g1, nq, if_neg e0, if_neg e1, if_pos e2]; try rfl⟩
      · refine kx_aload_n (pc := 60) d_M_event_60 rfl ?_
        refine kx_aload_n (pc := 61) d_M_event_61 rfl ?_
        refine kw_getr (pc := 62) (r := 62) d_M_event_62 fl_M_9 rfl (by decide) rfl ?_
        refine kx_iload_n (pc := 65) d_M_event_65 rfl ?_
        refine km_iald (pc := 66) d_M_event_66 (by decide) rfl ⟨rfl, q5, by decide⟩ ?_
        refine kx_iload_n (pc := 67) d_M_event_67 rfl ?_
        refine kx_invV (pc := 68) (as := [.int _, .int _]) (st := []) (k := 0) (j := 0) d_M_event_68 wv_M_74 (wd_o rfl) (k_inStream (a := a) (b := (uo b 61 0 0)) (N := q) (by omega)) rfl rfl (Nat.le_of_ble_eq_true rfl) (by decide) (Nat.le_of_ble_eq_true rfl) (fun rv n' h' hq => ?_) (fun X n' h' hq => nomatch hq.2)
        obtain ⟨rfl, hq⟩ := hq
        cases hq
        refine kx_goto (pc := 71) (tgt := 108) d_M_event_71 (by decide) ?_
        exact kx_iret rfl d_M_event_108 ⟨by unfold m_event; rw [if_pos g2, if_pos g1, nq, if_neg e0, if_pos e1]; try rfl, by unfold m_event; rw [if_pos g2, if_pos g1, nq, if_neg e0, if_pos e1]; try rfl⟩
    · refine kx_aload_n (pc := 46) d_M_event_46 rfl ?_
      refine kw_getr (pc := 47) (r := 62) d_M_event_47 fl_M_9 rfl (by decide) rfl ?_
      refine kx_iload_n (pc := 50) d_M_event_50 rfl ?_
      refine km_iald (pc := 51) d_M_event_51 (by decide) rfl ⟨rfl, q5, by decide⟩ ?_
      refine kx_goto (pc := 52) (tgt := 108) d_M_event_52 (by decide) ?_
      exact kx_iret rfl d_M_event_108 ⟨by unfold m_event; rw [if_pos g2, if_pos g1, nq, if_pos e0]; try rfl, by unfold m_event; rw [if_pos g2, if_pos g1, nq, if_pos e0]; try rfl⟩
  · have g2 := oz.mp w1
    refine kx_iconst (pc := 15) (x := 1) d_M_event_15 (by decide) ?_
    refine kx_goto (pc := 16) (tgt := 20) d_M_event_16 (by decide) ?_
    refine kx_iconst (pc := 20) (x := 1) d_M_event_20 (by decide) ?_
    refine kx_invV (pc := 21) (as := [.int _, .int _]) (st := []) (k := 0) (j := 0) d_M_event_21 wv_M_70 (wd_o rfl) (k_fails1 (a := a) (b := (uo b 61 0 0)) uo_s (by decide)) rfl rfl (Nat.le_of_ble_eq_true rfl) (by decide) (Nat.le_of_ble_eq_true rfl) (fun rv n' h' hq => ?_) (fun X n' h' hq => nomatch hq.2)
    obtain ⟨rfl, hq⟩ := hq
    cases hq
    refine kx_if_ne (pc := 24) (tgt := 40) d_M_event_24 (by decide) (fun _ => ?_) (fun hz => absurd hz (by decide))
    refine kx_iconst (pc := 40) (x := 0) d_M_event_40 (by decide) ?_
    exact kx_iret rfl d_M_event_41 ⟨by unfold m_event; rw [if_neg g2]; try rfl, by unfold m_event; rw [if_neg g2]; try rfl⟩
set_option maxHeartbeats 4000000 in
set_option maxRecDepth 100000 in
theorem k_mvalue {E : kx_E} {n : Nat} {a b : kW} {ev : Nat} {x1 : Int32} (h1 : b.2.2 61 1 = nI ev) (h5 : ev ≤ 500) : kx_V E i_M_value 3 0 0 (fun r _ h' => r = Sum.inl (some (.long (m_value b ev x1).1)) ∧ h' = wd (wx a (m_value b ev x1).2)) 0 0 0 (lv_args 0 [.ref 61, .int x1]) [] n (wd (wx a b)) := by
  refine kx_aload_n (pc := 0) d_M_value_0 rfl ?_
  refine kx_iconst (pc := 1) (x := 0) d_M_value_1 (by decide) ?_
  refine km_puti (pc := 2) d_M_value_2 fl_M_59 fw_M_0 (by decide) rfl (by decide) rfl ?_
  refine kx_aload_n (pc := 5) d_M_value_5 rfl ?_
  refine kx_aload_n (pc := 6) d_M_value_6 rfl ?_
  refine kx_iload_n (pc := 7) d_M_value_7 rfl ?_
  refine kx_invV (pc := 8) (as := [.int _]) (st := _) (k := 0) (j := 0) d_M_value_8 wv_M_102 (wd_o rfl) (k_isNone (a := a) (b := (uo b 61 0 0)) (ev := ev) h1) rfl rfl (Nat.le_of_ble_eq_true rfl) (by decide) (Nat.le_of_ble_eq_true rfl) (fun rv n' h' hq => ?_) (fun X n' h' hq => nomatch hq.2)
  obtain ⟨rfl, hq⟩ := hq
  cases hq
  by_cases g1 : 0 ≤ x1 ∧ x1 ≤ nI ev - 1
  rotate_left
  · rw [if_neg g1]
    refine kx_iconst (pc := 11) (x := 1) d_M_value_11 (by decide) ?_
    refine kx_invV (pc := 12) (as := [.int _, .int _]) (st := []) (k := 0) (j := 0) d_M_value_12 wv_M_70 (wd_o rfl) (k_fails1 (a := a) (b := (uo b 61 0 0)) uo_s (by decide)) rfl rfl (Nat.le_of_ble_eq_true rfl) (by decide) (Nat.le_of_ble_eq_true rfl) (fun rv n' h' hq => ?_) (fun X n' h' hq => nomatch hq.2)
    obtain ⟨rfl, hq⟩ := hq
    cases hq
    refine kx_if_eq (pc := 15) (tgt := 22) d_M_value_15 (by decide) (fun hz => absurd hz (by decide)) (fun _ => ?_)
    refine kx_lconst (pc := 18) (x := 0) d_M_value_18 (by decide) ?_
    refine kx_goto (pc := 19) (tgt := 28) d_M_value_19 (by decide) ?_
    exact kx_lret rfl d_M_value_28 ⟨by unfold m_value; rw [if_neg g1]; try rfl, by unfold m_value; rw [if_neg g1]; try rfl⟩
  rw [if_pos g1]
  obtain ⟨q, hq9, rfl, nq⟩ := nI_lt1 (by omega) g1
  have q5 : q < 500 := by omega
  refine kx_iconst (pc := 11) (x := 1) d_M_value_11 (by decide) ?_
  refine kx_invV (pc := 12) (as := [.int _, .int _]) (st := []) (k := 0) (j := 0) d_M_value_12 wv_M_70 (wd_o rfl) (k_fails0 (a := a) (b := (uo b 61 0 0)) uo_s) rfl rfl (Nat.le_of_ble_eq_true rfl) (by decide) (Nat.le_of_ble_eq_true rfl) (fun rv n' h' hq => ?_) (fun X n' h' hq => nomatch hq.2)
  obtain ⟨rfl, hq⟩ := hq
  cases hq
  refine kx_if_eq (pc := 15) (tgt := 22) d_M_value_15 (by decide) (fun _ => ?_) (fun hz => absurd rfl hz)
  refine kx_aload_n (pc := 22) d_M_value_22 rfl ?_
  refine kw_getr (pc := 23) (r := 66) d_M_value_23 fl_M_22 rfl (by decide) rfl ?_
  refine kx_iload_n (pc := 26) d_M_value_26 rfl ?_
  refine km_lald (pc := 27) d_M_value_27 (by decide) rfl ⟨rfl, q5, by decide⟩ ?_
  exact kx_lret rfl d_M_value_28 ⟨by unfold m_value; rw [if_pos g1, nq]; try rfl, by unfold m_value; rw [if_pos g1, nq]; try rfl⟩
end
section
def g_find (b : kW) (x y : Int32) : Nat → Nat → Int32
  | 0, _ => -1
  | m + 1, i => if b.1 62 i = x ∧ nI (cn (b.1 62) x i) = y then nI i else g_find b x y m (i + 1)
def m_find (b : kW) (ev : Nat) (x1 x2 : Int32) : Int32 × kW := if 0 ≤ x1 ∧ x1 ≤ 15 then (if g_find (uo b 61 0 0) x1 x2 ev 0 = -1 then (0, g_err b 2) else (g_find (uo b 61 0 0) x1 x2 ev 0, (uo b 61 0 0))) else (0, g_err b 1)
set_option maxHeartbeats 4000000 in
set_option maxRecDepth 100000 in
theorem k_mfind_loop {E : kx_E} {a b : kW} {x y : Int32} {ev : Nat} (h1 : b.2.2 61 1 = nI ev) (h0 : b.2.2 61 0 = 0) (h5 : ev ≤ 500) (m : Nat) : ∀ (i : Nat), i + m = ev → ∀ {Q : kx_Q}, (∀ n, Q (Sum.inl (some (.int (if g_find b x y m i = -1 then 0 else g_find b x y m i)))) n (wd (wx a (if g_find b x y m i = -1 then uo b 61 0 2 else b)))) → ∀ n, kx_V E i_M_find 3 0 0 Q 0 0 32 [(3, .int (nI i)), (0, .ref 61), (1, .int x), (2, .int y)] [] n (wd (wx a b)) := by
  induction m with
  | zero =>
    intro i hm Q hQ n
    have hi : i = ev := by omega
    subst hi
    have e0 : g_find b x y 0 i = -1 := rfl
    rw [if_pos e0, if_pos e0] at hQ
    refine kx_iload_n (pc := 32) d_M_find_32 rfl ?_
    refine kx_aload_n (pc := 33) d_M_find_33 rfl ?_
    refine km_geti (pc := 34) d_M_find_34 fl_M_63 (by decide) rfl (by decide) rfl ?_
    refine kx_eqi h1 ?_
    refine kx_icmp_ge (pc := 37) (tgt := 68) d_M_find_37 (by decide) (fun _ => ?_) (fun hz => absurd (nI_le (Nat.le_refl i) (by omega)) hz)
    refine kx_aload_n (pc := 68) d_M_find_68 rfl ?_
    refine kx_iconst (pc := 69) (x := 1) d_M_find_69 (by decide) ?_
    refine kx_iconst (pc := 70) (x := 2) d_M_find_70 (by decide) ?_
    refine kx_invV (pc := 71) (as := [.int _, .int _]) (st := []) (k := 0) (j := 0) d_M_find_71 wv_M_70 (wd_o rfl) (k_fails1 (a := a) (b := b) h0 (by decide)) rfl rfl (Nat.le_of_ble_eq_true rfl) (by decide) (Nat.le_of_ble_eq_true rfl) (fun rv n' h' hq => ?_) (fun X n' h' hq => nomatch hq.2)
    obtain ⟨rfl, hq⟩ := hq
    cases hq
    refine kx_pop (pc := 74) d_M_find_74 rfl ?_
    refine kx_iconst (pc := 75) (x := 0) d_M_find_75 (by decide) ?_
    exact kx_iret rfl d_M_find_76 (hQ _)
  | succ m ih =>
    intro i hm Q hQ n
    have hlt : i < ev := by omega
    have i5 : i < 500 := by omega
    refine kx_iload_n (pc := 32) d_M_find_32 rfl ?_
    refine kx_aload_n (pc := 33) d_M_find_33 rfl ?_
    refine km_geti (pc := 34) d_M_find_34 fl_M_63 (by decide) rfl (by decide) rfl ?_
    refine kx_eqi h1 ?_
    refine kx_icmp_ge (pc := 37) (tgt := 68) d_M_find_37 (by decide) (fun hz => absurd hz (nI_ge hlt (by omega))) (fun _ => ?_)
    refine kx_aload_n (pc := 40) d_M_find_40 rfl ?_
    refine kw_getr (pc := 41) (r := 62) d_M_find_41 fl_M_9 rfl (by decide) rfl ?_
    refine kx_iload_n (pc := 44) d_M_find_44 rfl ?_
    refine km_iald (pc := 45) d_M_find_45 (by decide) rfl ⟨rfl, i5, by decide⟩ ?_
    refine kx_iload_n (pc := 46) d_M_find_46 rfl ?_
    refine kx_icmp_ne (pc := 47) (tgt := 62) d_M_find_47 (by decide) (fun hz => ?_) (fun hz => ?_)
    · have ec : g_find b x y (m + 1) i = g_find b x y m (i + 1) := if_neg (fun w => hz w.1)
      refine kx_iinc (pc := 62) (y := nI (i + 1)) (lv' := [(3, _), (0, _), (1, _), (2, _)]) d_M_find_62 rfl (nI_1 i) (by decide) rfl ?_
      refine kx_goto (pc := 65) (tgt := 32) d_M_find_65 (by decide) ?_
      rw [ec] at hQ
      exact ih (i + 1) (by omega) hQ _
    · refine kx_aload_n (pc := 50) d_M_find_50 rfl ?_
      refine kx_iload_n (pc := 51) d_M_find_51 rfl ?_
      refine kx_iload_n (pc := 52) d_M_find_52 rfl ?_
      refine kx_invV (pc := 53) (as := [.int _, .int _]) (st := []) (k := 0) (j := 0) d_M_find_53 wv_M_74 (wd_o rfl) (k_inStream (a := a) (b := b) (N := i) (by omega)) rfl rfl (Nat.le_of_ble_eq_true rfl) (by decide) (Nat.le_of_ble_eq_true rfl) (fun rv n' h' hq => ?_) (fun X n' h' hq => nomatch hq.2)
      obtain ⟨rfl, hq⟩ := hq
      cases hq
      refine kx_iload_n (pc := 56) d_M_find_56 rfl ?_
      refine kx_icmp_ne (pc := 57) (tgt := 62) d_M_find_57 (by decide) (fun hy => ?_) (fun hy => ?_)
      · have ec : g_find b x y (m + 1) i = g_find b x y m (i + 1) := if_neg (fun w => hy w.2)
        refine kx_iinc (pc := 62) (y := nI (i + 1)) (lv' := [(3, _), (0, _), (1, _), (2, _)]) d_M_find_62 rfl (nI_1 i) (by decide) rfl ?_
        refine kx_goto (pc := 65) (tgt := 32) d_M_find_65 (by decide) ?_
        rw [ec] at hQ
        exact ih (i + 1) (by omega) hQ _
      · have ec : g_find b x y (m + 1) i = nI i := if_pos ⟨hz, hy⟩
        have en : ¬ g_find b x y (m + 1) i = -1 := by rw [ec]; exact fun w => nI_m1 (by omega) w.symm
        rw [if_neg en, if_neg en, ec] at hQ
        refine kx_iload_n (pc := 60) d_M_find_60 rfl ?_
        exact kx_iret rfl d_M_find_61 (hQ _)
set_option maxHeartbeats 4000000 in
set_option maxRecDepth 100000 in
theorem k_mfind {E : kx_E} {n : Nat} {a b : kW} {ev : Nat} {x1 x2 : Int32} (h1 : b.2.2 61 1 = nI ev) (h5 : ev ≤ 500) : kx_V E i_M_find 3 0 0 (fun r _ h' => r = Sum.inl (some (.int (m_find b ev x1 x2).1)) ∧ h' = wd (wx a (m_find b ev x1 x2).2)) 0 0 0 (lv_args 0 [.ref 61, .int x1, .int x2]) [] n (wd (wx a b)) := by
  refine kx_aload_n (pc := 0) d_M_find_0 rfl ?_
  refine kx_iconst (pc := 1) (x := 0) d_M_find_1 (by decide) ?_
  refine km_puti (pc := 2) d_M_find_2 fl_M_59 fw_M_0 (by decide) rfl (by decide) rfl ?_
  refine kx_aload_n (pc := 5) d_M_find_5 rfl ?_
  refine kx_iload_n (pc := 6) d_M_find_6 rfl ?_
  refine kx_iconst (pc := 7) (x := 0) d_M_find_7 (by decide) ?_
  refine kx_bipush (pc := 8) (x := 15) d_M_find_8 (by decide) ?_
  refine kx_invS (pc := 10) (as := [.int _, .int _, .int _]) (st := _) (k := 0) (j := 0) d_M_find_10 ws_M_66 k_in rfl rfl (Nat.le_of_ble_eq_true rfl) (by decide) (Nat.le_of_ble_eq_true rfl) (fun rv n' h' hq => ?_) (fun X n' h' hq => nomatch hq.2)
  obtain ⟨rfl, hq⟩ := hq
  cases hq
  refine kx_if_ne (pc := 13) (tgt := 20) d_M_find_13 (by decide) (fun w1 => ?_) (fun w1 => ?_)
  · have g1 := oy w1
    refine kx_iconst (pc := 20) (x := 0) d_M_find_20 (by decide) ?_
    refine kx_iconst (pc := 21) (x := 1) d_M_find_21 (by decide) ?_
    refine kx_invV (pc := 22) (as := [.int _, .int _]) (st := []) (k := 0) (j := 0) d_M_find_22 wv_M_70 (wd_o rfl) (k_fails0 (a := a) (b := (uo b 61 0 0)) uo_s) rfl rfl (Nat.le_of_ble_eq_true rfl) (by decide) (Nat.le_of_ble_eq_true rfl) (fun rv n' h' hq => ?_) (fun X n' h' hq => nomatch hq.2)
    obtain ⟨rfl, hq⟩ := hq
    cases hq
    refine kx_if_eq (pc := 25) (tgt := 30) d_M_find_25 (by decide) (fun _ => ?_) (fun hz => absurd rfl hz)
    refine kx_iconst (pc := 30) (x := 0) d_M_find_30 (by decide) ?_
    refine kx_eqi (show (0 : Int32) = nI 0 from rfl) ?_
    refine kx_istore_n (pc := 31) (lv' := [(3, _), (0, _), (1, _), (2, _)]) d_M_find_31 rfl (by decide) rfl ?_
    refine k_mfind_loop (a := a) (b := (uo b 61 0 0)) h1 uo_s h5 ev 0 (by omega) (fun n => ?_) _
    by_cases e : g_find (uo b 61 0 0) x1 x2 ev 0 = -1
    · rw [if_pos e, if_pos e]
      exact ⟨by unfold m_find; rw [if_pos g1, if_pos e]; try rfl, by unfold m_find; rw [if_pos g1, if_pos e]; try rfl⟩
    · rw [if_neg e, if_neg e]
      exact ⟨by unfold m_find; rw [if_pos g1, if_neg e]; try rfl, by unfold m_find; rw [if_pos g1, if_neg e]; try rfl⟩
  · have g1 := oz.mp w1
    refine kx_iconst (pc := 16) (x := 1) d_M_find_16 (by decide) ?_
    refine kx_goto (pc := 17) (tgt := 21) d_M_find_17 (by decide) ?_
    refine kx_iconst (pc := 21) (x := 1) d_M_find_21 (by decide) ?_
    refine kx_invV (pc := 22) (as := [.int _, .int _]) (st := []) (k := 0) (j := 0) d_M_find_22 wv_M_70 (wd_o rfl) (k_fails1 (a := a) (b := (uo b 61 0 0)) uo_s (by decide)) rfl rfl (Nat.le_of_ble_eq_true rfl) (by decide) (Nat.le_of_ble_eq_true rfl) (fun rv n' h' hq => ?_) (fun X n' h' hq => nomatch hq.2)
    obtain ⟨rfl, hq⟩ := hq
    cases hq
    refine kx_if_eq (pc := 25) (tgt := 30) d_M_find_25 (by decide) (fun hz => absurd hz (by decide)) (fun _ => ?_)
    refine kx_iconst (pc := 28) (x := 0) d_M_find_28 (by decide) ?_
    exact kx_iret rfl d_M_find_29 ⟨by unfold m_find; rw [if_neg g1]; try rfl, by unfold m_find; rw [if_neg g1]; try rfl⟩
def m_count (b : kW) (ev : Nat) (x1 x2 : Int32) : Int32 × kW := if x1 = 0 then (b.2.2 61 1, (uo b 61 0 0)) else if x1 = 1 then (b.2.2 61 2, (uo b 61 0 0)) else if x1 = 2 then (if 0 ≤ x2 ∧ x2 ≤ 15 then (nI (cn (b.1 62) x2 ev), (uo b 61 0 0)) else (0, g_err b 1)) else if x1 = 3 then (if 0 ≤ x2 ∧ x2 ≤ 7 then (b.1 71 (nt x2), (uo b 61 0 0)) else (0, g_err b 1)) else if x1 = 4 then (if 0 ≤ x2 ∧ x2 ≤ 7 then (b.1 76 (nt x2), (uo b 61 0 0)) else (0, g_err b 1)) else if x1 = 5 then (if 0 ≤ x2 ∧ x2 ≤ 7 then (nI (cn (b.1 64) x2 ev), (uo b 61 0 0)) else (0, g_err b 1)) else (0, g_err b 1)
set_option maxHeartbeats 4000000 in
set_option maxRecDepth 100000 in
theorem k_mcount_loop {E : kx_E} {n : Nat} {a b : kW} {x y : Int32} {ev : Nat} (h1 : b.2.2 61 1 = nI ev) (h5 : ev ≤ 500) (m : Nat) : ∀ (i : Nat), i + m = ev → ∀ {Q : kx_Q}, Q (Sum.inl (some (.int (nI (cn (b.1 64) x ev))))) n (wd (wx a b)) → kx_V E i_M_count 3 0 0 Q 0 0 149 [(4, .int (nI i)), (3, .int (nI (cn (b.1 64) x i))), (0, .ref 61), (1, .int y), (2, .int x)] [] n (wd (wx a b)) := by
  induction m with
  | zero =>
    intro i hm Q hQ
    have hi : i = ev := by omega
    subst hi
    refine kx_iload (pc := 149) d_M_count_149 rfl ?_
    refine kx_aload_n (pc := 151) d_M_count_151 rfl ?_
    refine km_geti (pc := 152) d_M_count_152 fl_M_63 (by decide) rfl (by decide) rfl ?_
    refine kx_eqi h1 ?_
    refine kx_icmp_ge (pc := 155) (tgt := 178) d_M_count_155 (by decide) (fun _ => ?_) (fun hz => absurd (nI_le (Nat.le_refl i) (by omega)) hz)
    refine kx_iload_n (pc := 178) d_M_count_178 rfl ?_
    exact kx_iret rfl d_M_count_179 hQ
  | succ m ih =>
    intro i hm Q hQ
    have hlt : i < ev := by omega
    have i5 : i < 500 := by omega
    refine kx_iload (pc := 149) d_M_count_149 rfl ?_
    refine kx_aload_n (pc := 151) d_M_count_151 rfl ?_
    refine km_geti (pc := 152) d_M_count_152 fl_M_63 (by decide) rfl (by decide) rfl ?_
    refine kx_eqi h1 ?_
    refine kx_icmp_ge (pc := 155) (tgt := 178) d_M_count_155 (by decide) (fun hz => absurd hz (nI_ge hlt (by omega))) (fun _ => ?_)
    refine kx_aload_n (pc := 158) d_M_count_158 rfl ?_
    refine kw_getr (pc := 159) (r := 64) d_M_count_159 fl_M_16 rfl (by decide) rfl ?_
    refine kx_iload (pc := 162) d_M_count_162 rfl ?_
    refine km_iald (pc := 164) d_M_count_164 (by decide) rfl ⟨rfl, i5, by decide⟩ ?_
    refine kx_iload_n (pc := 165) d_M_count_165 rfl ?_
    refine kx_icmp_ne (pc := 166) (tgt := 172) d_M_count_166 (by decide) (fun hz => ?_) (fun hz => ?_)
    · have ec : cn (b.1 64) x (i + 1) = cn (b.1 64) x i := by show cn (b.1 64) x i + (if b.1 64 i = x then 1 else 0) = _; rw [if_neg hz]; rfl
      refine kx_iinc (pc := 172) (y := nI (i + 1)) (lv' := [(4, _), (3, _), (0, _), (1, _), (2, _)]) d_M_count_172 rfl (nI_1 i) (by decide) rfl ?_
      refine kx_goto (pc := 175) (tgt := 149) d_M_count_175 (by decide) ?_
      refine kx_sub [0, 1, 2, 3, 4] rfl ?_
      rw [← ec]
      exact ih (i + 1) (by omega) hQ
    · have ec : cn (b.1 64) x (i + 1) = cn (b.1 64) x i + 1 := by show cn (b.1 64) x i + (if b.1 64 i = x then 1 else 0) = _; rw [if_pos hz]
      refine kx_iinc (pc := 169) (y := nI (cn (b.1 64) x i + 1)) (lv' := [(3, _), (4, _), (0, _), (1, _), (2, _)]) d_M_count_169 rfl (nI_1 _) (by decide) rfl ?_
      refine kx_iinc (pc := 172) (y := nI (i + 1)) (lv' := [(4, _), (3, _), (0, _), (1, _), (2, _)]) d_M_count_172 rfl (nI_1 i) (by decide) rfl ?_
      refine kx_goto (pc := 175) (tgt := 149) d_M_count_175 (by decide) ?_
      refine kx_sub [0, 1, 2, 3, 4] rfl ?_
      rw [← ec]
      exact ih (i + 1) (by omega) hQ
set_option maxHeartbeats 4000000 in
set_option maxRecDepth 100000 in
theorem k_mcount {E : kx_E} {n : Nat} {a b : kW} {ev : Nat} {x1 x2 : Int32} (h1 : b.2.2 61 1 = nI ev) (h5 : ev ≤ 500) : kx_V E i_M_count 3 0 0 (fun r _ h' => r = Sum.inl (some (.int (m_count b ev x1 x2).1)) ∧ h' = wd (wx a (m_count b ev x1 x2).2)) 0 0 0 (lv_args 0 [.ref 61, .int x1, .int x2]) [] n (wd (wx a b)) := by
  by_cases e0 : x1 = 0
  · have s : m_count b ev x1 x2 = (b.2.2 61 1, (uo b 61 0 0)) := by unfold m_count; rw [if_pos e0]
    subst e0
    refine kx_aload_n (pc := 0) d_M_count_0 rfl ?_
    refine kx_iconst (pc := 1) (x := 0) d_M_count_1 (by decide) ?_
    refine km_puti (pc := 2) d_M_count_2 fl_M_59 fw_M_0 (by decide) rfl (by decide) rfl ?_
    refine kx_aload_n (pc := 5) d_M_count_5 rfl ?_
    refine kx_iload_n (pc := 6) d_M_count_6 rfl ?_
    refine kx_iconst (pc := 7) (x := 0) d_M_count_7 (by decide) ?_
    refine kx_iconst (pc := 8) (x := 5) d_M_count_8 (by decide) ?_
    refine kx_invS (pc := 9) (as := [.int _, .int _, .int _]) (st := _) (k := 0) (j := 0) d_M_count_9 ws_M_66 k_in rfl rfl (Nat.le_of_ble_eq_true rfl) (by decide) (Nat.le_of_ble_eq_true rfl) (fun rv n' h' hq => ?_) (fun X n' h' hq => nomatch hq.2)
    obtain ⟨rfl, hq⟩ := hq
    cases hq
    refine kx_if_eq (pc := 12) (tgt := 59) d_M_count_12 (by decide) (fun hz => absurd hz (by decide)) (fun _ => ?_)
    refine kx_iload_n (pc := 15) d_M_count_15 rfl ?_
    refine kx_iconst (pc := 16) (x := 2) d_M_count_16 (by decide) ?_
    refine kx_icmp_ne (pc := 17) (tgt := 30) d_M_count_17 (by decide) (fun _ => ?_) (fun hz => absurd hz (by decide))
    refine kx_iload_n (pc := 30) d_M_count_30 rfl ?_
    refine kx_iconst (pc := 31) (x := 3) d_M_count_31 (by decide) ?_
    refine kx_icmp_eq (pc := 32) (tgt := 40) d_M_count_32 (by decide) (fun hz => absurd hz (by decide)) (fun _ => ?_)
    refine kx_iload_n (pc := 35) d_M_count_35 rfl ?_
    refine kx_iconst (pc := 36) (x := 5) d_M_count_36 (by decide) ?_
    refine kx_icmp_ne (pc := 37) (tgt := 47) d_M_count_37 (by decide) (fun _ => ?_) (fun hz => absurd hz (by decide))
    refine kx_iload_n (pc := 47) d_M_count_47 rfl ?_
    refine kx_iconst (pc := 48) (x := 4) d_M_count_48 (by decide) ?_
    refine kx_icmp_ne (pc := 49) (tgt := 63) d_M_count_49 (by decide) (fun _ => ?_) (fun hz => absurd hz (by decide))
    refine kx_iconst (pc := 63) (x := 0) d_M_count_63 (by decide) ?_
    refine kx_iconst (pc := 64) (x := 1) d_M_count_64 (by decide) ?_
    refine kx_invV (pc := 65) (as := [.int _, .int _]) (st := []) (k := 0) (j := 0) d_M_count_65 wv_M_70 (wd_o rfl) (k_fails0 (a := a) (b := (uo b 61 0 0)) uo_s) rfl rfl (Nat.le_of_ble_eq_true rfl) (by decide) (Nat.le_of_ble_eq_true rfl) (fun rv n' h' hq => ?_) (fun X n' h' hq => nomatch hq.2)
    obtain ⟨rfl, hq⟩ := hq
    cases hq
    refine kx_if_eq (pc := 68) (tgt := 73) d_M_count_68 (by decide) (fun _ => ?_) (fun hz => absurd rfl hz)
    refine kx_iconst (pc := 73) (x := 0) d_M_count_73 (by decide) ?_
    refine kx_eqi (show (0 : Int32) = nI 0 from rfl) ?_
    refine kx_istore_n (pc := 74) (lv' := [(3, _), (0, _), (1, _), (2, _)]) d_M_count_74 rfl (by decide) rfl ?_
    refine kx_iload_n (pc := 75) d_M_count_75 rfl ?_
    refine kx_tsIn (pc := 76) (tgt := 112) d_M_count_76 (by decide) (by decide) rfl (by decide) ?_
    refine kx_aload_n (pc := 112) d_M_count_112 rfl ?_
    refine km_geti (pc := 113) d_M_count_113 fl_M_63 (by decide) rfl (by decide) rfl ?_
    exact kx_iret rfl d_M_count_116 ⟨by rw [s]; try rfl, by rw [s]; try rfl⟩
  by_cases e1 : x1 = 1
  · have s : m_count b ev x1 x2 = (b.2.2 61 2, (uo b 61 0 0)) := by unfold m_count; rw [if_neg e0, if_pos e1]
    subst e1
    refine kx_aload_n (pc := 0) d_M_count_0 rfl ?_
    refine kx_iconst (pc := 1) (x := 0) d_M_count_1 (by decide) ?_
    refine km_puti (pc := 2) d_M_count_2 fl_M_59 fw_M_0 (by decide) rfl (by decide) rfl ?_
    refine kx_aload_n (pc := 5) d_M_count_5 rfl ?_
    refine kx_iload_n (pc := 6) d_M_count_6 rfl ?_
    refine kx_iconst (pc := 7) (x := 0) d_M_count_7 (by decide) ?_
    refine kx_iconst (pc := 8) (x := 5) d_M_count_8 (by decide) ?_
    refine kx_invS (pc := 9) (as := [.int _, .int _, .int _]) (st := _) (k := 0) (j := 0) d_M_count_9 ws_M_66 k_in rfl rfl (Nat.le_of_ble_eq_true rfl) (by decide) (Nat.le_of_ble_eq_true rfl) (fun rv n' h' hq => ?_) (fun X n' h' hq => nomatch hq.2)
    obtain ⟨rfl, hq⟩ := hq
    cases hq
    refine kx_if_eq (pc := 12) (tgt := 59) d_M_count_12 (by decide) (fun hz => absurd hz (by decide)) (fun _ => ?_)
    refine kx_iload_n (pc := 15) d_M_count_15 rfl ?_
    refine kx_iconst (pc := 16) (x := 2) d_M_count_16 (by decide) ?_
    refine kx_icmp_ne (pc := 17) (tgt := 30) d_M_count_17 (by decide) (fun _ => ?_) (fun hz => absurd hz (by decide))
    refine kx_iload_n (pc := 30) d_M_count_30 rfl ?_
    refine kx_iconst (pc := 31) (x := 3) d_M_count_31 (by decide) ?_
    refine kx_icmp_eq (pc := 32) (tgt := 40) d_M_count_32 (by decide) (fun hz => absurd hz (by decide)) (fun _ => ?_)
    refine kx_iload_n (pc := 35) d_M_count_35 rfl ?_
    refine kx_iconst (pc := 36) (x := 5) d_M_count_36 (by decide) ?_
    refine kx_icmp_ne (pc := 37) (tgt := 47) d_M_count_37 (by decide) (fun _ => ?_) (fun hz => absurd hz (by decide))
    refine kx_iload_n (pc := 47) d_M_count_47 rfl ?_
    refine kx_iconst (pc := 48) (x := 4) d_M_count_48 (by decide) ?_
    refine kx_icmp_ne (pc := 49) (tgt := 63) d_M_count_49 (by decide) (fun _ => ?_) (fun hz => absurd hz (by decide))
    refine kx_iconst (pc := 63) (x := 0) d_M_count_63 (by decide) ?_
    refine kx_iconst (pc := 64) (x := 1) d_M_count_64 (by decide) ?_
    refine kx_invV (pc := 65) (as := [.int _, .int _]) (st := []) (k := 0) (j := 0) d_M_count_65 wv_M_70 (wd_o rfl) (k_fails0 (a := a) (b := (uo b 61 0 0)) uo_s) rfl rfl (Nat.le_of_ble_eq_true rfl) (by decide) (Nat.le_of_ble_eq_true rfl) (fun rv n' h' hq => ?_) (fun X n' h' hq => nomatch hq.2)
    obtain ⟨rfl, hq⟩ := hq
    cases hq
    refine kx_if_eq (pc := 68) (tgt := 73) d_M_count_68 (by decide) (fun _ => ?_) (fun hz => absurd rfl hz)
    refine kx_iconst (pc := 73) (x := 0) d_M_count_73 (by decide) ?_
    refine kx_eqi (show (0 : Int32) = nI 0 from rfl) ?_
    refine kx_istore_n (pc := 74) (lv' := [(3, _), (0, _), (1, _), (2, _)]) d_M_count_74 rfl (by decide) rfl ?_
    refine kx_iload_n (pc := 75) d_M_count_75 rfl ?_
    refine kx_tsIn (pc := 76) (tgt := 117) d_M_count_76 (by decide) (by decide) rfl (by decide) ?_
    refine kx_aload_n (pc := 117) d_M_count_117 rfl ?_
    refine km_geti (pc := 118) d_M_count_118 fl_M_99 (by decide) rfl (by decide) rfl ?_
    exact kx_iret rfl d_M_count_121 ⟨by rw [s]; try rfl, by rw [s]; try rfl⟩
  by_cases e2 : x1 = 2
  · have s : m_count b ev x1 x2 = (if 0 ≤ x2 ∧ x2 ≤ 15 then (nI (cn (b.1 62) x2 ev), (uo b 61 0 0)) else (0, g_err b 1)) := by unfold m_count; rw [if_neg e0, if_neg e1, if_pos e2]
    subst e2
    refine kx_aload_n (pc := 0) d_M_count_0 rfl ?_
    refine kx_iconst (pc := 1) (x := 0) d_M_count_1 (by decide) ?_
    refine km_puti (pc := 2) d_M_count_2 fl_M_59 fw_M_0 (by decide) rfl (by decide) rfl ?_
    refine kx_aload_n (pc := 5) d_M_count_5 rfl ?_
    refine kx_iload_n (pc := 6) d_M_count_6 rfl ?_
    refine kx_iconst (pc := 7) (x := 0) d_M_count_7 (by decide) ?_
    refine kx_iconst (pc := 8) (x := 5) d_M_count_8 (by decide) ?_
    refine kx_invS (pc := 9) (as := [.int _, .int _, .int _]) (st := _) (k := 0) (j := 0) d_M_count_9 ws_M_66 k_in rfl rfl (Nat.le_of_ble_eq_true rfl) (by decide) (Nat.le_of_ble_eq_true rfl) (fun rv n' h' hq => ?_) (fun X n' h' hq => nomatch hq.2)
    obtain ⟨rfl, hq⟩ := hq
    cases hq
    refine kx_if_eq (pc := 12) (tgt := 59) d_M_count_12 (by decide) (fun hz => absurd hz (by decide)) (fun _ => ?_)
    refine kx_iload_n (pc := 15) d_M_count_15 rfl ?_
    refine kx_iconst (pc := 16) (x := 2) d_M_count_16 (by decide) ?_
    refine kx_icmp_ne (pc := 17) (tgt := 30) d_M_count_17 (by decide) (fun hz => absurd hz (fun w => w rfl)) (fun _ => ?_)
    refine kx_iload_n (pc := 20) d_M_count_20 rfl ?_
    refine kx_iconst (pc := 21) (x := 0) d_M_count_21 (by decide) ?_
    refine kx_bipush (pc := 22) (x := 15) d_M_count_22 (by decide) ?_
    refine kx_invS (pc := 24) (as := [.int _, .int _, .int _]) (st := _) (k := 0) (j := 0) d_M_count_24 ws_M_66 k_in rfl rfl (Nat.le_of_ble_eq_true rfl) (by decide) (Nat.le_of_ble_eq_true rfl) (fun rv n' h' hq => ?_) (fun X n' h' hq => nomatch hq.2)
    obtain ⟨rfl, hq⟩ := hq
    cases hq
    refine kx_if_eq (pc := 27) (tgt := 59) d_M_count_27 (by decide) (fun w1 => ?_) (fun w1 => ?_)
    · have g1 := oz.mp w1
      refine kx_iconst (pc := 59) (x := 1) d_M_count_59 (by decide) ?_
      refine kx_goto (pc := 60) (tgt := 64) d_M_count_60 (by decide) ?_
      refine kx_iconst (pc := 64) (x := 1) d_M_count_64 (by decide) ?_
      refine kx_invV (pc := 65) (as := [.int _, .int _]) (st := []) (k := 0) (j := 0) d_M_count_65 wv_M_70 (wd_o rfl) (k_fails1 (a := a) (b := (uo b 61 0 0)) uo_s (by decide)) rfl rfl (Nat.le_of_ble_eq_true rfl) (by decide) (Nat.le_of_ble_eq_true rfl) (fun rv n' h' hq => ?_) (fun X n' h' hq => nomatch hq.2)
      obtain ⟨rfl, hq⟩ := hq
      cases hq
      refine kx_if_eq (pc := 68) (tgt := 73) d_M_count_68 (by decide) (fun hz => absurd hz (by decide)) (fun _ => ?_)
      refine kx_iconst (pc := 71) (x := 0) d_M_count_71 (by decide) ?_
      exact kx_iret rfl d_M_count_72 ⟨by rw [s, if_neg g1]; try rfl, by rw [s, if_neg g1]; try rfl⟩
    · have g1 := oy w1
      refine kx_iload_n (pc := 30) d_M_count_30 rfl ?_
      refine kx_iconst (pc := 31) (x := 3) d_M_count_31 (by decide) ?_
      refine kx_icmp_eq (pc := 32) (tgt := 40) d_M_count_32 (by decide) (fun hz => absurd hz (by decide)) (fun _ => ?_)
      refine kx_iload_n (pc := 35) d_M_count_35 rfl ?_
      refine kx_iconst (pc := 36) (x := 5) d_M_count_36 (by decide) ?_
      refine kx_icmp_ne (pc := 37) (tgt := 47) d_M_count_37 (by decide) (fun _ => ?_) (fun hz => absurd hz (by decide))
      refine kx_iload_n (pc := 47) d_M_count_47 rfl ?_
      refine kx_iconst (pc := 48) (x := 4) d_M_count_48 (by decide) ?_
      refine kx_icmp_ne (pc := 49) (tgt := 63) d_M_count_49 (by decide) (fun _ => ?_) (fun hz => absurd hz (by decide))
      refine kx_iconst (pc := 63) (x := 0) d_M_count_63 (by decide) ?_
      refine kx_iconst (pc := 64) (x := 1) d_M_count_64 (by decide) ?_
      refine kx_invV (pc := 65) (as := [.int _, .int _]) (st := []) (k := 0) (j := 0) d_M_count_65 wv_M_70 (wd_o rfl) (k_fails0 (a := a) (b := (uo b 61 0 0)) uo_s) rfl rfl (Nat.le_of_ble_eq_true rfl) (by decide) (Nat.le_of_ble_eq_true rfl) (fun rv n' h' hq => ?_) (fun X n' h' hq => nomatch hq.2)
      obtain ⟨rfl, hq⟩ := hq
      cases hq
      refine kx_if_eq (pc := 68) (tgt := 73) d_M_count_68 (by decide) (fun _ => ?_) (fun hz => absurd rfl hz)
      refine kx_iconst (pc := 73) (x := 0) d_M_count_73 (by decide) ?_
      refine kx_eqi (show (0 : Int32) = nI 0 from rfl) ?_
      refine kx_istore_n (pc := 74) (lv' := [(3, _), (0, _), (1, _), (2, _)]) d_M_count_74 rfl (by decide) rfl ?_
      refine kx_iload_n (pc := 75) d_M_count_75 rfl ?_
      refine kx_tsIn (pc := 76) (tgt := 122) d_M_count_76 (by decide) (by decide) rfl (by decide) ?_
      refine kx_aload_n (pc := 122) d_M_count_122 rfl ?_
      refine kx_iload_n (pc := 123) d_M_count_123 rfl ?_
      refine kx_aload_n (pc := 124) d_M_count_124 rfl ?_
      refine km_geti (pc := 125) d_M_count_125 fl_M_63 (by decide) rfl (by decide) rfl ?_
      refine kx_eqi (show _ = nI ev from h1) ?_
      refine kx_invV (pc := 128) (as := [.int _, .int _]) (st := []) (k := 0) (j := 0) d_M_count_128 wv_M_74 (wd_o rfl) (k_inStream (a := a) (b := (uo b 61 0 0)) h5) rfl rfl (Nat.le_of_ble_eq_true rfl) (by decide) (Nat.le_of_ble_eq_true rfl) (fun rv n' h' hq => ?_) (fun X n' h' hq => nomatch hq.2)
      obtain ⟨rfl, hq⟩ := hq
      cases hq
      exact kx_iret rfl d_M_count_131 ⟨by rw [s, if_pos g1]; try rfl, by rw [s, if_pos g1]; try rfl⟩
  by_cases e3 : x1 = 3
  · have s : m_count b ev x1 x2 = (if 0 ≤ x2 ∧ x2 ≤ 7 then (b.1 71 (nt x2), (uo b 61 0 0)) else (0, g_err b 1)) := by unfold m_count; rw [if_neg e0, if_neg e1, if_neg e2, if_pos e3]
    subst e3
    refine kx_aload_n (pc := 0) d_M_count_0 rfl ?_
    refine kx_iconst (pc := 1) (x := 0) d_M_count_1 (by decide) ?_
    refine km_puti (pc := 2) d_M_count_2 fl_M_59 fw_M_0 (by decide) rfl (by decide) rfl ?_
    refine kx_aload_n (pc := 5) d_M_count_5 rfl ?_
    refine kx_iload_n (pc := 6) d_M_count_6 rfl ?_
    refine kx_iconst (pc := 7) (x := 0) d_M_count_7 (by decide) ?_
    refine kx_iconst (pc := 8) (x := 5) d_M_count_8 (by decide) ?_
    refine kx_invS (pc := 9) (as := [.int _, .int _, .int _]) (st := _) (k := 0) (j := 0) d_M_count_9 ws_M_66 k_in rfl rfl (Nat.le_of_ble_eq_true rfl) (by decide) (Nat.le_of_ble_eq_true rfl) (fun rv n' h' hq => ?_) (fun X n' h' hq => nomatch hq.2)
    obtain ⟨rfl, hq⟩ := hq
    cases hq
    refine kx_if_eq (pc := 12) (tgt := 59) d_M_count_12 (by decide) (fun hz => absurd hz (by decide)) (fun _ => ?_)
    refine kx_iload_n (pc := 15) d_M_count_15 rfl ?_
    refine kx_iconst (pc := 16) (x := 2) d_M_count_16 (by decide) ?_
    refine kx_icmp_ne (pc := 17) (tgt := 30) d_M_count_17 (by decide) (fun _ => ?_) (fun hz => absurd hz (by decide))
    refine kx_iload_n (pc := 30) d_M_count_30 rfl ?_
    refine kx_iconst (pc := 31) (x := 3) d_M_count_31 (by decide) ?_
    refine kx_icmp_eq (pc := 32) (tgt := 40) d_M_count_32 (by decide) (fun _ => ?_) (fun hz => absurd rfl hz)
    refine kx_iload_n (pc := 40) d_M_count_40 rfl ?_
    refine kx_invS (pc := 41) (as := [.int _]) (st := _) (k := 0) (j := 0) d_M_count_41 ws_M_82 k_isProjection rfl rfl (Nat.le_of_ble_eq_true rfl) (by decide) (Nat.le_of_ble_eq_true rfl) (fun rv n' h' hq => ?_) (fun X n' h' hq => nomatch hq.2)
    obtain ⟨rfl, hq⟩ := hq
    cases hq
    refine kx_if_eq (pc := 44) (tgt := 59) d_M_count_44 (by decide) (fun w1 => ?_) (fun w1 => ?_)
    · have g1 := oz.mp w1
      refine kx_iconst (pc := 59) (x := 1) d_M_count_59 (by decide) ?_
      refine kx_goto (pc := 60) (tgt := 64) d_M_count_60 (by decide) ?_
      refine kx_iconst (pc := 64) (x := 1) d_M_count_64 (by decide) ?_
      refine kx_invV (pc := 65) (as := [.int _, .int _]) (st := []) (k := 0) (j := 0) d_M_count_65 wv_M_70 (wd_o rfl) (k_fails1 (a := a) (b := (uo b 61 0 0)) uo_s (by decide)) rfl rfl (Nat.le_of_ble_eq_true rfl) (by decide) (Nat.le_of_ble_eq_true rfl) (fun rv n' h' hq => ?_) (fun X n' h' hq => nomatch hq.2)
      obtain ⟨rfl, hq⟩ := hq
      cases hq
      refine kx_if_eq (pc := 68) (tgt := 73) d_M_count_68 (by decide) (fun hz => absurd hz (by decide)) (fun _ => ?_)
      refine kx_iconst (pc := 71) (x := 0) d_M_count_71 (by decide) ?_
      exact kx_iret rfl d_M_count_72 ⟨by rw [s, if_neg g1]; try rfl, by rw [s, if_neg g1]; try rfl⟩
    · have g1 := oy w1
      obtain ⟨p, hp8, rfl, np⟩ := nI_gl (N := 7) (by decide) g1
      have hp : p < 8 := by omega
      refine kx_iload_n (pc := 47) d_M_count_47 rfl ?_
      refine kx_iconst (pc := 48) (x := 4) d_M_count_48 (by decide) ?_
      refine kx_icmp_ne (pc := 49) (tgt := 63) d_M_count_49 (by decide) (fun _ => ?_) (fun hz => absurd hz (by decide))
      refine kx_iconst (pc := 63) (x := 0) d_M_count_63 (by decide) ?_
      refine kx_iconst (pc := 64) (x := 1) d_M_count_64 (by decide) ?_
      refine kx_invV (pc := 65) (as := [.int _, .int _]) (st := []) (k := 0) (j := 0) d_M_count_65 wv_M_70 (wd_o rfl) (k_fails0 (a := a) (b := (uo b 61 0 0)) uo_s) rfl rfl (Nat.le_of_ble_eq_true rfl) (by decide) (Nat.le_of_ble_eq_true rfl) (fun rv n' h' hq => ?_) (fun X n' h' hq => nomatch hq.2)
      obtain ⟨rfl, hq⟩ := hq
      cases hq
      refine kx_if_eq (pc := 68) (tgt := 73) d_M_count_68 (by decide) (fun _ => ?_) (fun hz => absurd rfl hz)
      refine kx_iconst (pc := 73) (x := 0) d_M_count_73 (by decide) ?_
      refine kx_eqi (show (0 : Int32) = nI 0 from rfl) ?_
      refine kx_istore_n (pc := 74) (lv' := [(3, _), (0, _), (1, _), (2, _)]) d_M_count_74 rfl (by decide) rfl ?_
      refine kx_iload_n (pc := 75) d_M_count_75 rfl ?_
      refine kx_tsIn (pc := 76) (tgt := 132) d_M_count_76 (by decide) (by decide) rfl (by decide) ?_
      refine kx_aload_n (pc := 132) d_M_count_132 rfl ?_
      refine kw_getr (pc := 133) (r := 71) d_M_count_133 fl_M_38 rfl (by decide) rfl ?_
      refine kx_iload_n (pc := 136) d_M_count_136 rfl ?_
      refine km_iald (pc := 137) d_M_count_137 (by decide) rfl ⟨rfl, hp, by decide⟩ ?_
      exact kx_iret rfl d_M_count_138 ⟨by rw [s, if_pos g1, np]; try rfl, by rw [s, if_pos g1, np]; try rfl⟩
  by_cases e4 : x1 = 4
  · have s : m_count b ev x1 x2 = (if 0 ≤ x2 ∧ x2 ≤ 7 then (b.1 76 (nt x2), (uo b 61 0 0)) else (0, g_err b 1)) := by unfold m_count; rw [if_neg e0, if_neg e1, if_neg e2, if_neg e3, if_pos e4]
    subst e4
    refine kx_aload_n (pc := 0) d_M_count_0 rfl ?_
    refine kx_iconst (pc := 1) (x := 0) d_M_count_1 (by decide) ?_
    refine km_puti (pc := 2) d_M_count_2 fl_M_59 fw_M_0 (by decide) rfl (by decide) rfl ?_
    refine kx_aload_n (pc := 5) d_M_count_5 rfl ?_
    refine kx_iload_n (pc := 6) d_M_count_6 rfl ?_
    refine kx_iconst (pc := 7) (x := 0) d_M_count_7 (by decide) ?_
    refine kx_iconst (pc := 8) (x := 5) d_M_count_8 (by decide) ?_
    refine kx_invS (pc := 9) (as := [.int _, .int _, .int _]) (st := _) (k := 0) (j := 0) d_M_count_9 ws_M_66 k_in rfl rfl (Nat.le_of_ble_eq_true rfl) (by decide) (Nat.le_of_ble_eq_true rfl) (fun rv n' h' hq => ?_) (fun X n' h' hq => nomatch hq.2)
    obtain ⟨rfl, hq⟩ := hq
    cases hq
    refine kx_if_eq (pc := 12) (tgt := 59) d_M_count_12 (by decide) (fun hz => absurd hz (by decide)) (fun _ => ?_)
    refine kx_iload_n (pc := 15) d_M_count_15 rfl ?_
    refine kx_iconst (pc := 16) (x := 2) d_M_count_16 (by decide) ?_
    refine kx_icmp_ne (pc := 17) (tgt := 30) d_M_count_17 (by decide) (fun _ => ?_) (fun hz => absurd hz (by decide))
    refine kx_iload_n (pc := 30) d_M_count_30 rfl ?_
    refine kx_iconst (pc := 31) (x := 3) d_M_count_31 (by decide) ?_
    refine kx_icmp_eq (pc := 32) (tgt := 40) d_M_count_32 (by decide) (fun hz => absurd hz (by decide)) (fun _ => ?_)
    refine kx_iload_n (pc := 35) d_M_count_35 rfl ?_
    refine kx_iconst (pc := 36) (x := 5) d_M_count_36 (by decide) ?_
    refine kx_icmp_ne (pc := 37) (tgt := 47) d_M_count_37 (by decide) (fun _ => ?_) (fun hz => absurd hz (by decide))
    refine kx_iload_n (pc := 47) d_M_count_47 rfl ?_
    refine kx_iconst (pc := 48) (x := 4) d_M_count_48 (by decide) ?_
    refine kx_icmp_ne (pc := 49) (tgt := 63) d_M_count_49 (by decide) (fun hz => absurd hz (fun w => w rfl)) (fun _ => ?_)
    refine kx_iload_n (pc := 52) d_M_count_52 rfl ?_
    refine kx_invS (pc := 53) (as := [.int _]) (st := _) (k := 0) (j := 0) d_M_count_53 ws_M_96 k_isSubscription rfl rfl (Nat.le_of_ble_eq_true rfl) (by decide) (Nat.le_of_ble_eq_true rfl) (fun rv n' h' hq => ?_) (fun X n' h' hq => nomatch hq.2)
    obtain ⟨rfl, hq⟩ := hq
    cases hq
    refine kx_if_ne (pc := 56) (tgt := 63) d_M_count_56 (by decide) (fun w1 => ?_) (fun w1 => ?_)
    · have g1 := oy w1
      obtain ⟨p, hp8, rfl, np⟩ := nI_gl (N := 7) (by decide) g1
      have hp : p < 8 := by omega
      refine kx_iconst (pc := 63) (x := 0) d_M_count_63 (by decide) ?_
      refine kx_iconst (pc := 64) (x := 1) d_M_count_64 (by decide) ?_
      refine kx_invV (pc := 65) (as := [.int _, .int _]) (st := []) (k := 0) (j := 0) d_M_count_65 wv_M_70 (wd_o rfl) (k_fails0 (a := a) (b := (uo b 61 0 0)) uo_s) rfl rfl (Nat.le_of_ble_eq_true rfl) (by decide) (Nat.le_of_ble_eq_true rfl) (fun rv n' h' hq => ?_) (fun X n' h' hq => nomatch hq.2)
      obtain ⟨rfl, hq⟩ := hq
      cases hq
      refine kx_if_eq (pc := 68) (tgt := 73) d_M_count_68 (by decide) (fun _ => ?_) (fun hz => absurd rfl hz)
      refine kx_iconst (pc := 73) (x := 0) d_M_count_73 (by decide) ?_
      refine kx_eqi (show (0 : Int32) = nI 0 from rfl) ?_
      refine kx_istore_n (pc := 74) (lv' := [(3, _), (0, _), (1, _), (2, _)]) d_M_count_74 rfl (by decide) rfl ?_
      refine kx_iload_n (pc := 75) d_M_count_75 rfl ?_
      refine kx_tsIn (pc := 76) (tgt := 139) d_M_count_76 (by decide) (by decide) rfl (by decide) ?_
      refine kx_aload_n (pc := 139) d_M_count_139 rfl ?_
      refine kw_getr (pc := 140) (r := 76) d_M_count_140 fl_M_53 rfl (by decide) rfl ?_
      refine kx_iload_n (pc := 143) d_M_count_143 rfl ?_
      refine km_iald (pc := 144) d_M_count_144 (by decide) rfl ⟨rfl, hp, by decide⟩ ?_
      exact kx_iret rfl d_M_count_145 ⟨by rw [s, if_pos g1, np]; try rfl, by rw [s, if_pos g1, np]; try rfl⟩
    · have g1 := oz.mp w1
      refine kx_iconst (pc := 59) (x := 1) d_M_count_59 (by decide) ?_
      refine kx_goto (pc := 60) (tgt := 64) d_M_count_60 (by decide) ?_
      refine kx_iconst (pc := 64) (x := 1) d_M_count_64 (by decide) ?_
      refine kx_invV (pc := 65) (as := [.int _, .int _]) (st := []) (k := 0) (j := 0) d_M_count_65 wv_M_70 (wd_o rfl) (k_fails1 (a := a) (b := (uo b 61 0 0)) uo_s (by decide)) rfl rfl (Nat.le_of_ble_eq_true rfl) (by decide) (Nat.le_of_ble_eq_true rfl) (fun rv n' h' hq => ?_) (fun X n' h' hq => nomatch hq.2)
      obtain ⟨rfl, hq⟩ := hq
      cases hq
      refine kx_if_eq (pc := 68) (tgt := 73) d_M_count_68 (by decide) (fun hz => absurd hz (by decide)) (fun _ => ?_)
      refine kx_iconst (pc := 71) (x := 0) d_M_count_71 (by decide) ?_
      exact kx_iret rfl d_M_count_72 ⟨by rw [s, if_neg g1]; try rfl, by rw [s, if_neg g1]; try rfl⟩
  by_cases e5 : x1 = 5
  · have s : m_count b ev x1 x2 = (if 0 ≤ x2 ∧ x2 ≤ 7 then (nI (cn (b.1 64) x2 ev), (uo b 61 0 0)) else (0, g_err b 1)) := by unfold m_count; rw [if_neg e0, if_neg e1, if_neg e2, if_neg e3, if_neg e4, if_pos e5]
    subst e5
    refine kx_aload_n (pc := 0) d_M_count_0 rfl ?_
    refine kx_iconst (pc := 1) (x := 0) d_M_count_1 (by decide) ?_
    refine km_puti (pc := 2) d_M_count_2 fl_M_59 fw_M_0 (by decide) rfl (by decide) rfl ?_
    refine kx_aload_n (pc := 5) d_M_count_5 rfl ?_
    refine kx_iload_n (pc := 6) d_M_count_6 rfl ?_
    refine kx_iconst (pc := 7) (x := 0) d_M_count_7 (by decide) ?_
    refine kx_iconst (pc := 8) (x := 5) d_M_count_8 (by decide) ?_
    refine kx_invS (pc := 9) (as := [.int _, .int _, .int _]) (st := _) (k := 0) (j := 0) d_M_count_9 ws_M_66 k_in rfl rfl (Nat.le_of_ble_eq_true rfl) (by decide) (Nat.le_of_ble_eq_true rfl) (fun rv n' h' hq => ?_) (fun X n' h' hq => nomatch hq.2)
    obtain ⟨rfl, hq⟩ := hq
    cases hq
    refine kx_if_eq (pc := 12) (tgt := 59) d_M_count_12 (by decide) (fun hz => absurd hz (by decide)) (fun _ => ?_)
    refine kx_iload_n (pc := 15) d_M_count_15 rfl ?_
    refine kx_iconst (pc := 16) (x := 2) d_M_count_16 (by decide) ?_
    refine kx_icmp_ne (pc := 17) (tgt := 30) d_M_count_17 (by decide) (fun _ => ?_) (fun hz => absurd hz (by decide))
    refine kx_iload_n (pc := 30) d_M_count_30 rfl ?_
    refine kx_iconst (pc := 31) (x := 3) d_M_count_31 (by decide) ?_
    refine kx_icmp_eq (pc := 32) (tgt := 40) d_M_count_32 (by decide) (fun hz => absurd hz (by decide)) (fun _ => ?_)
    refine kx_iload_n (pc := 35) d_M_count_35 rfl ?_
    refine kx_iconst (pc := 36) (x := 5) d_M_count_36 (by decide) ?_
    refine kx_icmp_ne (pc := 37) (tgt := 47) d_M_count_37 (by decide) (fun hz => absurd hz (fun w => w rfl)) (fun _ => ?_)
    refine kx_iload_n (pc := 40) d_M_count_40 rfl ?_
    refine kx_invS (pc := 41) (as := [.int _]) (st := _) (k := 0) (j := 0) d_M_count_41 ws_M_82 k_isProjection rfl rfl (Nat.le_of_ble_eq_true rfl) (by decide) (Nat.le_of_ble_eq_true rfl) (fun rv n' h' hq => ?_) (fun X n' h' hq => nomatch hq.2)
    obtain ⟨rfl, hq⟩ := hq
    cases hq
    refine kx_if_eq (pc := 44) (tgt := 59) d_M_count_44 (by decide) (fun w1 => ?_) (fun w1 => ?_)
    · have g1 := oz.mp w1
      refine kx_iconst (pc := 59) (x := 1) d_M_count_59 (by decide) ?_
      refine kx_goto (pc := 60) (tgt := 64) d_M_count_60 (by decide) ?_
      refine kx_iconst (pc := 64) (x := 1) d_M_count_64 (by decide) ?_
      refine kx_invV (pc := 65) (as := [.int _, .int _]) (st := []) (k := 0) (j := 0) d_M_count_65 wv_M_70 (wd_o rfl) (k_fails1 (a := a) (b := (uo b 61 0 0)) uo_s (by decide)) rfl rfl (Nat.le_of_ble_eq_true rfl) (by decide) (Nat.le_of_ble_eq_true rfl) (fun rv n' h' hq => ?_) (fun X n' h' hq => nomatch hq.2)
      obtain ⟨rfl, hq⟩ := hq
      cases hq
      refine kx_if_eq (pc := 68) (tgt := 73) d_M_count_68 (by decide) (fun hz => absurd hz (by decide)) (fun _ => ?_)
      refine kx_iconst (pc := 71) (x := 0) d_M_count_71 (by decide) ?_
      exact kx_iret rfl d_M_count_72 ⟨by rw [s, if_neg g1]; try rfl, by rw [s, if_neg g1]; try rfl⟩
    · have g1 := oy w1
      refine kx_iload_n (pc := 47) d_M_count_47 rfl ?_
      refine kx_iconst (pc := 48) (x := 4) d_M_count_48 (by decide) ?_
      refine kx_icmp_ne (pc := 49) (tgt := 63) d_M_count_49 (by decide) (fun _ => ?_) (fun hz => absurd hz (by decide))
      refine kx_iconst (pc := 63) (x := 0) d_M_count_63 (by decide) ?_
      refine kx_iconst (pc := 64) (x := 1) d_M_count_64 (by decide) ?_
      refine kx_invV (pc := 65) (as := [.int _, .int _]) (st := []) (k := 0) (j := 0) d_M_count_65 wv_M_70 (wd_o rfl) (k_fails0 (a := a) (b := (uo b 61 0 0)) uo_s) rfl rfl (Nat.le_of_ble_eq_true rfl) (by decide) (Nat.le_of_ble_eq_true rfl) (fun rv n' h' hq => ?_) (fun X n' h' hq => nomatch hq.2)
      obtain ⟨rfl, hq⟩ := hq
      cases hq
      refine kx_if_eq (pc := 68) (tgt := 73) d_M_count_68 (by decide) (fun _ => ?_) (fun hz => absurd rfl hz)
      refine kx_iconst (pc := 73) (x := 0) d_M_count_73 (by decide) ?_
      refine kx_eqi (show (0 : Int32) = nI (cn (b.1 64) x2 0) from rfl) ?_
      refine kx_istore_n (pc := 74) (lv' := [(3, _), (0, _), (1, _), (2, _)]) d_M_count_74 rfl (by decide) rfl ?_
      refine kx_iload_n (pc := 75) d_M_count_75 rfl ?_
      refine kx_tsOut (pc := 76) (tgt := 146) d_M_count_76 (Or.inr (by decide)) (by decide) ?_
      refine kx_iconst (pc := 146) (x := 0) d_M_count_146 (by decide) ?_
      refine kx_eqi (show (0 : Int32) = nI 0 from rfl) ?_
      refine kx_istore (pc := 147) (lv' := [(4, _), (3, _), (0, _), (1, _), (2, _)]) d_M_count_147 (by decide) rfl ?_
      refine k_mcount_loop (a := a) (b := (uo b 61 0 0)) (ev := ev) h1 h5 ev 0 (by omega) ?_
      exact ⟨by rw [s, if_pos g1]; try rfl, by rw [s, if_pos g1]; try rfl⟩
  have s : m_count b ev x1 x2 = (0, g_err b 1) := by unfold m_count; rw [if_neg e0, if_neg e1, if_neg e2, if_neg e3, if_neg e4, if_neg e5]
  have g : ¬ (0 ≤ x1 ∧ x1 ≤ 5) := by
    intro w
    obtain ⟨j, hj, rfl, -⟩ := nI_gl (N := 5) (by decide) w
    match j, hj with
    | 0, _ => exact e0 rfl
    | 1, _ => exact e1 rfl
    | 2, _ => exact e2 rfl
    | 3, _ => exact e3 rfl
    | 4, _ => exact e4 rfl
    | 5, _ => exact e5 rfl
  refine kx_aload_n (pc := 0) d_M_count_0 rfl ?_
  refine kx_iconst (pc := 1) (x := 0) d_M_count_1 (by decide) ?_
  refine km_puti (pc := 2) d_M_count_2 fl_M_59 fw_M_0 (by decide) rfl (by decide) rfl ?_
  refine kx_aload_n (pc := 5) d_M_count_5 rfl ?_
  refine kx_iload_n (pc := 6) d_M_count_6 rfl ?_
  refine kx_iconst (pc := 7) (x := 0) d_M_count_7 (by decide) ?_
  refine kx_iconst (pc := 8) (x := 5) d_M_count_8 (by decide) ?_
  refine kx_invS (pc := 9) (as := [.int _, .int _, .int _]) (st := _) (k := 0) (j := 0) d_M_count_9 ws_M_66 k_in rfl rfl (Nat.le_of_ble_eq_true rfl) (by decide) (Nat.le_of_ble_eq_true rfl) (fun rv n' h' hq => ?_) (fun X n' h' hq => nomatch hq.2)
  obtain ⟨rfl, hq⟩ := hq
  cases hq
  refine kx_if_eq (pc := 12) (tgt := 59) d_M_count_12 (by decide) (fun _ => ?_) (fun hz => absurd (oz.mpr g) hz)
  refine kx_iconst (pc := 59) (x := 1) d_M_count_59 (by decide) ?_
  refine kx_goto (pc := 60) (tgt := 64) d_M_count_60 (by decide) ?_
  refine kx_iconst (pc := 64) (x := 1) d_M_count_64 (by decide) ?_
  refine kx_invV (pc := 65) (as := [.int _, .int _]) (st := []) (k := 0) (j := 0) d_M_count_65 wv_M_70 (wd_o rfl) (k_fails1 (a := a) (b := (uo b 61 0 0)) uo_s (by decide)) rfl rfl (Nat.le_of_ble_eq_true rfl) (by decide) (Nat.le_of_ble_eq_true rfl) (fun rv n' h' hq => ?_) (fun X n' h' hq => nomatch hq.2)
  obtain ⟨rfl, hq⟩ := hq
  cases hq
  refine kx_if_eq (pc := 68) (tgt := 73) d_M_count_68 (by decide) (fun hz => absurd hz (by decide)) (fun _ => ?_)
  refine kx_iconst (pc := 71) (x := 0) d_M_count_71 (by decide) ?_
  exact kx_iret rfl d_M_count_72 ⟨by rw [s]; try rfl, by rw [s]; try rfl⟩
def g_next (b : kW) (u : Nat) : Nat → Nat → Int32
  | 0, _ => -1
  | m + 1, i => if (b.1 74 u < 0 ∨ b.1 74 u = b.1 62 i) ∧ ¬ ((b.1 75 u >>> (b.1 63 i &&& 31)) &&& 1 = 0) then nI i else g_next b u m (i + 1)
def m_next (b : kW) (ev : Nat) (x1 : Int32) : Int32 × kW := if 0 ≤ x1 ∧ x1 ≤ 7 then (g_next (uo b 61 0 0) (nt x1) (ev - nt (b.1 76 (nt x1))) (nt (b.1 76 (nt x1))), (uo b 61 0 0)) else (0, g_err b 1)
set_option maxHeartbeats 4000000 in
set_option maxRecDepth 100000 in
theorem k_mnext_loop {E : kx_E} {n : Nat} {a b : kW} {u ev : Nat} (hu : u < 8) (h1 : b.2.2 61 1 = nI ev) (h5 : ev ≤ 500) (m : Nat) : ∀ (i : Nat), m = ev - i → i ≤ 500 → ∀ {Q : kx_Q}, Q (Sum.inl (some (.int (g_next b u m i)))) n (wd (wx a b)) → kx_V E i_M_next 3 0 0 Q 0 0 34 [(2, .int (nI i)), (0, .ref 61), (1, .int (nI u))] [] n (wd (wx a b)) := by
  induction m with
  | zero =>
    intro i hm hi Q hQ
    have hle : ev ≤ i := by omega
    refine kx_iload_n (pc := 34) d_M_next_34 rfl ?_
    refine kx_aload_n (pc := 35) d_M_next_35 rfl ?_
    refine km_geti (pc := 36) d_M_next_36 fl_M_63 (by decide) rfl (by decide) rfl ?_
    refine kx_eqi h1 ?_
    refine kx_icmp_ge (pc := 39) (tgt := 92) d_M_next_39 (by decide) (fun _ => ?_) (fun hz => absurd (nI_le hle (by omega)) hz)
    refine kx_iconst (pc := 92) (x := -1) d_M_next_92 (by decide) ?_
    exact kx_iret rfl d_M_next_93 hQ
  | succ m ih =>
    intro i hm hi Q hQ
    have hlt : i < ev := by omega
    have i5 : i < 500 := by omega
    refine kx_iload_n (pc := 34) d_M_next_34 rfl ?_
    refine kx_aload_n (pc := 35) d_M_next_35 rfl ?_
    refine km_geti (pc := 36) d_M_next_36 fl_M_63 (by decide) rfl (by decide) rfl ?_
    refine kx_eqi h1 ?_
    refine kx_icmp_ge (pc := 39) (tgt := 92) d_M_next_39 (by decide) (fun hz => absurd hz (nI_ge hlt (by omega))) (fun _ => ?_)
    refine kx_aload_n (pc := 42) d_M_next_42 rfl ?_
    refine kw_getr (pc := 43) (r := 74) d_M_next_43 fl_M_47 rfl (by decide) rfl ?_
    refine kx_iload_n (pc := 46) d_M_next_46 rfl ?_
    refine km_iald (pc := 47) d_M_next_47 (by decide) rfl ⟨rfl, hu, by decide⟩ ?_
    refine kx_if_lt (pc := 48) (tgt := 66) d_M_next_48 (by decide) (fun hs => ?_) (fun hs => ?_)
    · have hc : b.1 74 u < 0 ∨ b.1 74 u = b.1 62 i := Or.inl hs
      refine kx_aload_n (pc := 66) d_M_next_66 rfl ?_
      refine kw_getr (pc := 67) (r := 75) d_M_next_67 fl_M_50 rfl (by decide) rfl ?_
      refine kx_iload_n (pc := 70) d_M_next_70 rfl ?_
      refine km_iald (pc := 71) d_M_next_71 (by decide) rfl ⟨rfl, hu, by decide⟩ ?_
      refine kx_aload_n (pc := 72) d_M_next_72 rfl ?_
      refine kw_getr (pc := 73) (r := 63) d_M_next_73 fl_M_13 rfl (by decide) rfl ?_
      refine kx_iload_n (pc := 76) d_M_next_76 rfl ?_
      refine km_iald (pc := 77) d_M_next_77 (by decide) rfl ⟨rfl, i5, by decide⟩ ?_
      refine kx_ishr (pc := 78) d_M_next_78 ?_
      refine kx_iconst (pc := 79) (x := 1) d_M_next_79 (by decide) ?_
      refine kx_iand (pc := 80) d_M_next_80 ?_
      refine kx_if_eq (pc := 81) (tgt := 86) d_M_next_81 (by decide) (fun hk => ?_) (fun hk => ?_)
      · have ec : g_next b u (m + 1) i = g_next b u m (i + 1) := if_neg (fun w => w.2 hk)
        refine kx_iinc (pc := 86) (y := nI (i + 1)) (lv' := [(2, _), (0, _), (1, _)]) d_M_next_86 rfl (nI_1 i) (by decide) rfl ?_
        refine kx_goto (pc := 89) (tgt := 34) d_M_next_89 (by decide) ?_
        rw [ec] at hQ
        exact ih (i + 1) (by omega) (by omega) hQ
      · have ec : g_next b u (m + 1) i = nI i := if_pos ⟨hc, hk⟩
        rw [ec] at hQ
        refine kx_iload_n (pc := 84) d_M_next_84 rfl ?_
        exact kx_iret rfl d_M_next_85 hQ
    · refine kx_aload_n (pc := 51) d_M_next_51 rfl ?_
      refine kw_getr (pc := 52) (r := 74) d_M_next_52 fl_M_47 rfl (by decide) rfl ?_
      refine kx_iload_n (pc := 55) d_M_next_55 rfl ?_
      refine km_iald (pc := 56) d_M_next_56 (by decide) rfl ⟨rfl, hu, by decide⟩ ?_
      refine kx_aload_n (pc := 57) d_M_next_57 rfl ?_
      refine kw_getr (pc := 58) (r := 62) d_M_next_58 fl_M_9 rfl (by decide) rfl ?_
      refine kx_iload_n (pc := 61) d_M_next_61 rfl ?_
      refine km_iald (pc := 62) d_M_next_62 (by decide) rfl ⟨rfl, i5, by decide⟩ ?_
      refine kx_icmp_ne (pc := 63) (tgt := 86) d_M_next_63 (by decide) (fun hy => ?_) (fun hy => ?_)
      · have ec : g_next b u (m + 1) i = g_next b u m (i + 1) := if_neg (fun w => w.1.elim hs hy)
        refine kx_iinc (pc := 86) (y := nI (i + 1)) (lv' := [(2, _), (0, _), (1, _)]) d_M_next_86 rfl (nI_1 i) (by decide) rfl ?_
        refine kx_goto (pc := 89) (tgt := 34) d_M_next_89 (by decide) ?_
        rw [ec] at hQ
        exact ih (i + 1) (by omega) (by omega) hQ
      · have hc : b.1 74 u < 0 ∨ b.1 74 u = b.1 62 i := Or.inr hy
        refine kx_aload_n (pc := 66) d_M_next_66 rfl ?_
        refine kw_getr (pc := 67) (r := 75) d_M_next_67 fl_M_50 rfl (by decide) rfl ?_
        refine kx_iload_n (pc := 70) d_M_next_70 rfl ?_
        refine km_iald (pc := 71) d_M_next_71 (by decide) rfl ⟨rfl, hu, by decide⟩ ?_
        refine kx_aload_n (pc := 72) d_M_next_72 rfl ?_
        refine kw_getr (pc := 73) (r := 63) d_M_next_73 fl_M_13 rfl (by decide) rfl ?_
        refine kx_iload_n (pc := 76) d_M_next_76 rfl ?_
        refine km_iald (pc := 77) d_M_next_77 (by decide) rfl ⟨rfl, i5, by decide⟩ ?_
        refine kx_ishr (pc := 78) d_M_next_78 ?_
        refine kx_iconst (pc := 79) (x := 1) d_M_next_79 (by decide) ?_
        refine kx_iand (pc := 80) d_M_next_80 ?_
        refine kx_if_eq (pc := 81) (tgt := 86) d_M_next_81 (by decide) (fun hk => ?_) (fun hk => ?_)
        · have ec : g_next b u (m + 1) i = g_next b u m (i + 1) := if_neg (fun w => w.2 hk)
          refine kx_iinc (pc := 86) (y := nI (i + 1)) (lv' := [(2, _), (0, _), (1, _)]) d_M_next_86 rfl (nI_1 i) (by decide) rfl ?_
          refine kx_goto (pc := 89) (tgt := 34) d_M_next_89 (by decide) ?_
          rw [ec] at hQ
          exact ih (i + 1) (by omega) (by omega) hQ
        · have ec : g_next b u (m + 1) i = nI i := if_pos ⟨hc, hk⟩
          rw [ec] at hQ
          refine kx_iload_n (pc := 84) d_M_next_84 rfl ?_
          exact kx_iret rfl d_M_next_85 hQ
set_option maxHeartbeats 4000000 in
set_option maxRecDepth 100000 in
theorem k_mnext {E : kx_E} {n : Nat} {a b : kW} {ev : Nat} {x1 : Int32} (h1 : b.2.2 61 1 = nI ev) (h5 : ev ≤ 500) (hb : ∀ u, u < 8 → ∃ q, q ≤ 500 ∧ b.1 76 u = nI q) : kx_V E i_M_next 3 0 0 (fun r _ h' => r = Sum.inl (some (.int (m_next b ev x1).1)) ∧ h' = wd (wx a (m_next b ev x1).2)) 0 0 0 (lv_args 0 [.ref 61, .int x1]) [] n (wd (wx a b)) := by
  refine kx_aload_n (pc := 0) d_M_next_0 rfl ?_
  refine kx_iconst (pc := 1) (x := 0) d_M_next_1 (by decide) ?_
  refine km_puti (pc := 2) d_M_next_2 fl_M_59 fw_M_0 (by decide) rfl (by decide) rfl ?_
  refine kx_aload_n (pc := 5) d_M_next_5 rfl ?_
  refine kx_iload_n (pc := 6) d_M_next_6 rfl ?_
  refine kx_invS (pc := 7) (as := [.int _]) (st := _) (k := 0) (j := 0) d_M_next_7 ws_M_96 k_isSubscription rfl rfl (Nat.le_of_ble_eq_true rfl) (by decide) (Nat.le_of_ble_eq_true rfl) (fun rv n' h' hq => ?_) (fun X n' h' hq => nomatch hq.2)
  obtain ⟨rfl, hq⟩ := hq
  cases hq
  refine kx_if_ne (pc := 10) (tgt := 17) d_M_next_10 (by decide) (fun w1 => ?_) (fun w1 => ?_)
  · have g1 := oy w1
    obtain ⟨p, hp8, rfl, np⟩ := nI_gl (N := 7) (by decide) g1
    have hp : p < 8 := by omega
    obtain ⟨q, hq5, eq⟩ := hb p hp
    have nq : nt (b.1 76 p) = q := by rw [eq]; exact nt_nI (by omega)
    refine kx_iconst (pc := 17) (x := 0) d_M_next_17 (by decide) ?_
    refine kx_iconst (pc := 18) (x := 1) d_M_next_18 (by decide) ?_
    refine kx_invV (pc := 19) (as := [.int _, .int _]) (st := []) (k := 0) (j := 0) d_M_next_19 wv_M_70 (wd_o rfl) (k_fails0 (a := a) (b := (uo b 61 0 0)) uo_s) rfl rfl (Nat.le_of_ble_eq_true rfl) (by decide) (Nat.le_of_ble_eq_true rfl) (fun rv n' h' hq => ?_) (fun X n' h' hq => nomatch hq.2)
    obtain ⟨rfl, hq⟩ := hq
    cases hq
    refine kx_if_eq (pc := 22) (tgt := 27) d_M_next_22 (by decide) (fun _ => ?_) (fun hz => absurd rfl hz)
    refine kx_aload_n (pc := 27) d_M_next_27 rfl ?_
    refine kw_getr (pc := 28) (r := 76) d_M_next_28 fl_M_53 rfl (by decide) rfl ?_
    refine kx_iload_n (pc := 31) d_M_next_31 rfl ?_
    refine km_iald (pc := 32) d_M_next_32 (by decide) rfl ⟨rfl, hp, by decide⟩ ?_
    refine kx_eqi (show _ = nI q from eq) ?_
    refine kx_istore_n (pc := 33) (lv' := [(2, _), (0, _), (1, _)]) d_M_next_33 rfl (by decide) rfl ?_
    refine k_mnext_loop (a := a) (b := (uo b 61 0 0)) (ev := ev) hp h1 h5 (ev - q) q rfl hq5 ?_
    exact ⟨by unfold m_next; rw [if_pos g1, np, nq]; try rfl, by unfold m_next; rw [if_pos g1, np, nq]; try rfl⟩
  · have g1 := oz.mp w1
    refine kx_iconst (pc := 13) (x := 1) d_M_next_13 (by decide) ?_
    refine kx_goto (pc := 14) (tgt := 18) d_M_next_14 (by decide) ?_
    refine kx_iconst (pc := 18) (x := 1) d_M_next_18 (by decide) ?_
    refine kx_invV (pc := 19) (as := [.int _, .int _]) (st := []) (k := 0) (j := 0) d_M_next_19 wv_M_70 (wd_o rfl) (k_fails1 (a := a) (b := (uo b 61 0 0)) uo_s (by decide)) rfl rfl (Nat.le_of_ble_eq_true rfl) (by decide) (Nat.le_of_ble_eq_true rfl) (fun rv n' h' hq => ?_) (fun X n' h' hq => nomatch hq.2)
    obtain ⟨rfl, hq⟩ := hq
    cases hq
    refine kx_if_eq (pc := 22) (tgt := 27) d_M_next_22 (by decide) (fun hz => absurd hz (by decide)) (fun _ => ?_)
    refine kx_iconst (pc := 25) (x := 0) d_M_next_25 (by decide) ?_
    exact kx_iret rfl d_M_next_26 ⟨by unfold m_next; rw [if_neg g1]; try rfl, by unfold m_next; rw [if_neg g1]; try rfl⟩
end
section
def g_rec (b : kW) (p : Nat) (x : Int32) : kW := if b.1 72 p < 0 ∨ x < b.1 73 p then g_begin b p else ui (uL b 67 (g_copy (b.2.1 68) (b.2.1 67) p 16)) 71 p (b.1 72 p)
def g_crP (x : Int32) : Nat → Nat → kW → kW
  | 0, _, b => b
  | m + 1, p, b => g_crP x m (p + 1) (g_rec b p x)
def g_crS (x : Int32) : Nat → Nat → kW → kW
  | 0, _, b => b
  | m + 1, u, b => g_crS x m (u + 1) (ui b 76 u (if b.1 77 u < x then b.1 77 u else x))
def m_crash (b : kW) : kW := g_crS (b.2.2 61 2) 8 0 (g_crP (b.2.2 61 2) 8 0 (uo (uo b 61 0 0) 61 1 (b.2.2 61 2)))
theorem g_rec_o (b : kW) (p : Nat) (x : Int32) : (g_rec b p x).2.2 = b.2.2 := by
  unfold g_rec g_begin
  split <;> rfl
set_option maxHeartbeats 4000000 in
set_option maxRecDepth 100000 in
theorem k_mcr_in {E : kx_E} {n : Nat} {a : kW} {p : Nat} (hp : p < 8) (f g : Nat → Int64) (m : Nat) : ∀ (q : Nat) (b : kW), q + m = 16 → b.2.1 68 = f → b.2.1 67 = g_copy f g p q → ∀ {Q : kx_Q}, kx_V E i_M_crash 3 0 0 Q 0 0 99 [(1, .int (nI p)), (0, .ref 61)] [] n (wd (wx a (ui (uL b 67 (g_copy f g p 16)) 71 p (b.1 72 p)))) → kx_V E i_M_crash 3 0 0 Q 0 0 53 [(2, .int (nI q)), (1, .int (nI p)), (0, .ref 61)] [] n (wd (wx a b)) := by
  induction m with
  | zero =>
    intro q b hm h0 hf Q hQ
    have hq : q = 16 := by omega
    subst hq
    rw [uL_same hf] at hQ
    refine kx_iload_n (pc := 53) d_M_crash_53 rfl ?_
    refine kx_bipush (pc := 54) (x := 16) d_M_crash_54 (by decide) ?_
    refine kx_eqi (show (16 : Int32) = nI 16 from rfl) ?_
    refine kx_icmp_ge (pc := 56) (tgt := 87) d_M_crash_56 (by decide) (fun _ => ?_) (fun hz => absurd (nI_le (Nat.le_refl 16) (by omega)) hz)
    refine kx_aload_n (pc := 87) d_M_crash_87 rfl ?_
    refine kw_getr (pc := 88) (r := 71) d_M_crash_88 fl_M_38 rfl (by decide) rfl ?_
    refine kx_iload_n (pc := 91) d_M_crash_91 rfl ?_
    refine kx_aload_n (pc := 92) d_M_crash_92 rfl ?_
    refine kw_getr (pc := 93) (r := 72) d_M_crash_93 fl_M_41 rfl (by decide) rfl ?_
    refine kx_iload_n (pc := 96) d_M_crash_96 rfl ?_
    refine km_iald (pc := 97) d_M_crash_97 (by decide) rfl ⟨rfl, hp, by decide⟩ ?_
    refine km_iast (pc := 98) d_M_crash_98 (by decide) rfl ⟨rfl, hp, by decide⟩ ?_
    refine kx_sub [1, 2] rfl ?_
    exact hQ
  | succ m ih =>
    intro q b hm h0 hf Q hQ
    have hlt : q < 16 := by omega
    have hnext := ih (q + 1) (ul b 67 (16 * p + q) (b.2.1 68 (16 * p + q))) (by omega) ((ul_n (by decide)).trans h0) (by rw [ul_self, hf, h0]; rfl) (Q := Q) (by rw [uL_ul]; exact hQ)
    refine kx_iload_n (pc := 53) d_M_crash_53 rfl ?_
    refine kx_bipush (pc := 54) (x := 16) d_M_crash_54 (by decide) ?_
    refine kx_eqi (show (16 : Int32) = nI 16 from rfl) ?_
    refine kx_icmp_ge (pc := 56) (tgt := 87) d_M_crash_56 (by decide) (fun hz => absurd hz (nI_ge hlt (by omega))) (fun _ => ?_)
    refine kx_aload_n (pc := 59) d_M_crash_59 rfl ?_
    refine kw_getr (pc := 60) (r := 67) d_M_crash_60 fl_M_26 rfl (by decide) rfl ?_
    refine kx_bipush (pc := 63) (x := 16) d_M_crash_63 (by decide) ?_
    refine kx_iload_n (pc := 65) d_M_crash_65 rfl ?_
    refine kx_imul (pc := 66) d_M_crash_66 ?_
    refine kx_iload_n (pc := 67) d_M_crash_67 rfl ?_
    refine kx_iadd (pc := 68) d_M_crash_68 ?_
    refine kx_eqi (ix16 p q) ?_
    refine kx_aload_n (pc := 69) d_M_crash_69 rfl ?_
    refine kw_getr (pc := 70) (r := 68) d_M_crash_70 fl_M_29 rfl (by decide) rfl ?_
    refine kx_bipush (pc := 73) (x := 16) d_M_crash_73 (by decide) ?_
    refine kx_iload_n (pc := 75) d_M_crash_75 rfl ?_
    refine kx_imul (pc := 76) d_M_crash_76 ?_
    refine kx_iload_n (pc := 77) d_M_crash_77 rfl ?_
    refine kx_iadd (pc := 78) d_M_crash_78 ?_
    refine kx_eqi (ix16 p q) ?_
    refine km_lald (pc := 79) d_M_crash_79 (by decide) rfl ⟨rfl, by omega, by decide⟩ ?_
    refine km_last (pc := 80) d_M_crash_80 (by decide) rfl ⟨rfl, by omega, by decide⟩ ?_
    refine kx_iinc (pc := 81) (y := nI (q + 1)) (lv' := [(2, _), (1, _), (0, _)]) d_M_crash_81 rfl (nI_1 q) (by decide) rfl ?_
    refine kx_goto (pc := 84) (tgt := 53) d_M_crash_84 (by decide) ?_
    exact hnext
set_option maxHeartbeats 4000000 in
set_option maxRecDepth 100000 in
theorem k_mcrS_loop {E : kx_E} {n : Nat} {a : kW} {x : Int32} (m : Nat) : ∀ (i : Nat) (b : kW), i + m = 8 → b.2.2 61 1 = x → ∀ {Q : kx_Q}, Q (Sum.inl (some (.int x))) n (wd (wx a (g_crS x m i b))) → kx_V E i_M_crash 3 0 0 Q 0 0 107 [(1, .int (nI i)), (0, .ref 61)] [] n (wd (wx a b)) := by
  induction m with
  | zero =>
    intro i b hm hx Q hQ
    have h8 : i = 8 := by omega
    subst h8
    refine kx_iload_n (pc := 107) d_M_crash_107 rfl ?_
    refine kx_bipush (pc := 108) (x := 8) d_M_crash_108 (by decide) ?_
    refine kx_eqi (show (8 : Int32) = nI 8 from rfl) ?_
    refine kx_icmp_ge (pc := 110) (tgt := 151) d_M_crash_110 (by decide) (fun _ => ?_) (fun hz => absurd (nI_le (Nat.le_refl 8) (by omega)) hz)
    refine kx_aload_n (pc := 151) d_M_crash_151 rfl ?_
    refine km_geti (pc := 152) d_M_crash_152 fl_M_63 (by decide) rfl (by decide) rfl ?_
    refine kx_eqi hx ?_
    exact kx_iret rfl d_M_crash_155 hQ
  | succ m ih =>
    intro i b hm hx Q hQ
    have hlt : i < 8 := by omega
    have hn := ih (i + 1) (ui b 76 i (if b.1 77 i < x then b.1 77 i else x)) (by omega) hx hQ
    refine kx_iload_n (pc := 107) d_M_crash_107 rfl ?_
    refine kx_bipush (pc := 108) (x := 8) d_M_crash_108 (by decide) ?_
    refine kx_eqi (show (8 : Int32) = nI 8 from rfl) ?_
    refine kx_icmp_ge (pc := 110) (tgt := 151) d_M_crash_110 (by decide) (fun hz => absurd hz (nI_ge hlt (by omega))) (fun _ => ?_)
    refine kx_aload_n (pc := 113) d_M_crash_113 rfl ?_
    refine kw_getr (pc := 114) (r := 76) d_M_crash_114 fl_M_53 rfl (by decide) rfl ?_
    refine kx_iload_n (pc := 117) d_M_crash_117 rfl ?_
    refine kx_aload_n (pc := 118) d_M_crash_118 rfl ?_
    refine kw_getr (pc := 119) (r := 77) d_M_crash_119 fl_M_56 rfl (by decide) rfl ?_
    refine kx_iload_n (pc := 122) d_M_crash_122 rfl ?_
    refine km_iald (pc := 123) d_M_crash_123 (by decide) rfl ⟨rfl, hlt, by decide⟩ ?_
    refine kx_aload_n (pc := 124) d_M_crash_124 rfl ?_
    refine km_geti (pc := 125) d_M_crash_125 fl_M_63 (by decide) rfl (by decide) rfl ?_
    refine kx_eqi hx ?_
    refine kx_icmp_ge (pc := 128) (tgt := 140) d_M_crash_128 (by decide) (fun hy => ?_) (fun hy => ?_)
    · rw [if_neg (Int32.not_lt.mpr hy)] at hn
      refine kx_aload_n (pc := 140) d_M_crash_140 rfl ?_
      refine km_geti (pc := 141) d_M_crash_141 fl_M_63 (by decide) rfl (by decide) rfl ?_
      refine kx_eqi hx ?_
      refine km_iast (pc := 144) d_M_crash_144 (by decide) rfl ⟨rfl, hlt, by decide⟩ ?_
      refine kx_iinc (pc := 145) (y := nI (i + 1)) (lv' := [(1, _), (0, _)]) d_M_crash_145 rfl (nI_1 i) (by decide) rfl ?_
      refine kx_goto (pc := 148) (tgt := 107) d_M_crash_148 (by decide) ?_
      exact hn
    · rw [if_pos (Int32.not_le.mp hy)] at hn
      refine kx_aload_n (pc := 131) d_M_crash_131 rfl ?_
      refine kw_getr (pc := 132) (r := 77) d_M_crash_132 fl_M_56 rfl (by decide) rfl ?_
      refine kx_iload_n (pc := 135) d_M_crash_135 rfl ?_
      refine km_iald (pc := 136) d_M_crash_136 (by decide) rfl ⟨rfl, hlt, by decide⟩ ?_
      refine kx_goto (pc := 137) (tgt := 144) d_M_crash_137 (by decide) ?_
      refine km_iast (pc := 144) d_M_crash_144 (by decide) rfl ⟨rfl, hlt, by decide⟩ ?_
      refine kx_iinc (pc := 145) (y := nI (i + 1)) (lv' := [(1, _), (0, _)]) d_M_crash_145 rfl (nI_1 i) (by decide) rfl ?_
      refine kx_goto (pc := 148) (tgt := 107) d_M_crash_148 (by decide) ?_
      exact hn
set_option maxHeartbeats 4000000 in
set_option maxRecDepth 100000 in
theorem k_mcrP_loop {E : kx_E} {a : kW} {x : Int32} (m : Nat) : ∀ (i : Nat) (b : kW), i + m = 8 → b.2.2 61 1 = x → ∀ {Q : kx_Q}, (∀ n, Q (Sum.inl (some (.int x))) n (wd (wx a (g_crS x 8 0 (g_crP x m i b))))) → ∀ n, kx_V E i_M_crash 3 0 0 Q 0 0 15 [(1, .int (nI i)), (0, .ref 61)] [] n (wd (wx a b)) := by
  induction m with
  | zero =>
    intro i b hm hx Q hQ n
    have h8 : i = 8 := by omega
    subst h8
    refine kx_iload_n (pc := 15) d_M_crash_15 rfl ?_
    refine kx_bipush (pc := 16) (x := 8) d_M_crash_16 (by decide) ?_
    refine kx_eqi (show (8 : Int32) = nI 8 from rfl) ?_
    refine kx_icmp_ge (pc := 18) (tgt := 105) d_M_crash_18 (by decide) (fun _ => ?_) (fun hz => absurd (nI_le (Nat.le_refl 8) (by omega)) hz)
    refine kx_iconst (pc := 105) (x := 0) d_M_crash_105 (by decide) ?_
    refine kx_eqi (show (0 : Int32) = nI 0 from rfl) ?_
    refine kx_istore_n (pc := 106) (lv' := [(1, _), (0, _)]) d_M_crash_106 rfl (by decide) rfl ?_
    exact k_mcrS_loop 8 0 b rfl hx (hQ _)
  | succ m ih =>
    intro i b hm hx Q hQ n
    have hlt : i < 8 := by omega
    have hn : ∀ n, kx_V E i_M_crash 3 0 0 Q 0 0 15 [(1, .int (nI (i + 1))), (0, .ref 61)] [] n (wd (wx a (g_rec b i x))) := fun n => ih (i + 1) (g_rec b i x) (by omega) (by rw [g_rec_o]; exact hx) hQ n
    have h99 : ∀ n, kx_V E i_M_crash 3 0 0 Q 0 0 99 [(1, .int (nI i)), (0, .ref 61)] [] n (wd (wx a (g_rec b i x))) := by
      intro n
      refine kx_iinc (pc := 99) (y := nI (i + 1)) (lv' := [(1, _), (0, _)]) d_M_crash_99 rfl (nI_1 i) (by decide) rfl ?_
      refine kx_goto (pc := 102) (tgt := 15) d_M_crash_102 (by decide) ?_
      exact hn _
    have hb : (b.1 72 i < 0 ∨ x < b.1 73 i) → ∀ n, kx_V E i_M_crash 3 0 0 Q 0 0 43 [(1, .int (nI i)), (0, .ref 61)] [] n (wd (wx a b)) := by
      intro hc n
      have e0 : g_rec b i x = g_begin b i := if_pos hc
      rw [e0] at h99
      refine kx_aload_n (pc := 43) d_M_crash_43 rfl ?_
      refine kx_iload_n (pc := 44) d_M_crash_44 rfl ?_
      refine kx_invV (pc := 45) (as := [.int _]) (st := []) (k := 0) (j := 0) d_M_crash_45 wv_M_86 (wd_o rfl) (k_begin (a := a) (b := b) hlt) rfl rfl (Nat.le_of_ble_eq_true rfl) (by decide) (Nat.le_of_ble_eq_true rfl) (fun rv n' h' hq => ?_) (fun X n' h' hq => nomatch hq.2)
      obtain ⟨rfl, hq⟩ := hq
      cases hq
      refine kx_goto (pc := 48) (tgt := 99) d_M_crash_48 (by decide) ?_
      exact h99 _
    refine kx_iload_n (pc := 15) d_M_crash_15 rfl ?_
    refine kx_bipush (pc := 16) (x := 8) d_M_crash_16 (by decide) ?_
    refine kx_eqi (show (8 : Int32) = nI 8 from rfl) ?_
    refine kx_icmp_ge (pc := 18) (tgt := 105) d_M_crash_18 (by decide) (fun hz => absurd hz (nI_ge hlt (by omega))) (fun _ => ?_)
    refine kx_aload_n (pc := 21) d_M_crash_21 rfl ?_
    refine kw_getr (pc := 22) (r := 72) d_M_crash_22 fl_M_41 rfl (by decide) rfl ?_
    refine kx_iload_n (pc := 25) d_M_crash_25 rfl ?_
    refine km_iald (pc := 26) d_M_crash_26 (by decide) rfl ⟨rfl, hlt, by decide⟩ ?_
    refine kx_if_lt (pc := 27) (tgt := 43) d_M_crash_27 (by decide) (fun hy => ?_) (fun hy => ?_)
    · exact hb (Or.inl hy) _
    · refine kx_aload_n (pc := 30) d_M_crash_30 rfl ?_
      refine kw_getr (pc := 31) (r := 73) d_M_crash_31 fl_M_44 rfl (by decide) rfl ?_
      refine kx_iload_n (pc := 34) d_M_crash_34 rfl ?_
      refine km_iald (pc := 35) d_M_crash_35 (by decide) rfl ⟨rfl, hlt, by decide⟩ ?_
      refine kx_aload_n (pc := 36) d_M_crash_36 rfl ?_
      refine km_geti (pc := 37) d_M_crash_37 fl_M_63 (by decide) rfl (by decide) rfl ?_
      refine kx_eqi hx ?_
      refine kx_icmp_le (pc := 40) (tgt := 51) d_M_crash_40 (by decide) (fun hz => ?_) (fun hz => ?_)
      · have e0 : g_rec b i x = ui (uL b 67 (g_copy (b.2.1 68) (b.2.1 67) i 16)) 71 i (b.1 72 i) := if_neg (fun w => w.elim hy (fun w2 => Int32.not_lt.mpr hz w2))
        rw [e0] at h99
        refine kx_iconst (pc := 51) (x := 0) d_M_crash_51 (by decide) ?_
        refine kx_eqi (show (0 : Int32) = nI 0 from rfl) ?_
        refine kx_istore_n (pc := 52) (lv' := [(2, _), (1, _), (0, _)]) d_M_crash_52 rfl (by decide) rfl ?_
        exact k_mcr_in hlt (b.2.1 68) (b.2.1 67) 16 0 b rfl rfl rfl (h99 _)
      · exact hb (Or.inr (Int32.not_le.mp hz)) _
set_option maxHeartbeats 4000000 in
set_option maxRecDepth 100000 in
theorem k_mcrash {E : kx_E} {n : Nat} {a b : kW} : kx_V E i_M_crash 3 0 0 (fun r _ h' => h' = wd (wx a (m_crash b)) ∧ r = Sum.inl (some (.int (b.2.2 61 2)))) 0 0 0 (lv_args 0 [.ref 61]) [] n (wd (wx a b)) := by
  refine kx_aload_n (pc := 0) d_M_crash_0 rfl ?_
  refine kx_iconst (pc := 1) (x := 0) d_M_crash_1 (by decide) ?_
  refine km_puti (pc := 2) d_M_crash_2 fl_M_59 fw_M_0 (by decide) rfl (by decide) rfl ?_
  refine kx_aload_n (pc := 5) d_M_crash_5 rfl ?_
  refine kx_aload_n (pc := 6) d_M_crash_6 rfl ?_
  refine km_geti (pc := 7) d_M_crash_7 fl_M_99 (by decide) rfl (by decide) rfl ?_
  refine km_puti (pc := 10) d_M_crash_10 fl_M_63 fw_M_1 (by decide) rfl (by decide) rfl ?_
  refine kx_iconst (pc := 13) (x := 0) d_M_crash_13 (by decide) ?_
  refine kx_eqi (show (0 : Int32) = nI 0 from rfl) ?_
  refine kx_istore_n (pc := 14) (lv' := [(1, _), (0, _)]) d_M_crash_14 rfl (by decide) rfl ?_
  exact k_mcrP_loop 8 0 (uo (uo b 61 0 0) 61 1 (b.2.2 61 2)) rfl uo_s (fun _ => ⟨rfl, rfl⟩) _
end
section
theorem kx_par (x : Int64) : x - x / 2 * 2 = 0 ↔ x &&& 1 = 0 := by
  have hx1 : -9223372036854775808 ≤ x.toInt := Int64.minValue_le_toInt x
  have hx2 : x.toInt ≤ 9223372036854775807 := Int64.toInt_le x
  have h2 : (2 : Int64).toInt = 2 := rfl
  obtain ⟨d, hd⟩ : ∃ d, d = x.toInt.tdiv 2 := ⟨_, rfl⟩
  have hd2 : (0 ≤ x.toInt - d * 2 ∧ x.toInt - d * 2 ≤ 1) ∨ (-1 ≤ x.toInt - d * 2 ∧ x.toInt - d * 2 ≤ 0) := by
    have h := Int.tdiv_eq_ediv (a := x.toInt) (b := 2)
    rw [← hd] at h
    split at h
    · have : d = x.toInt / 2 := by omega
      omega
    · have : d = x.toInt / 2 + 1 := h
      omega
  have hb : (x / 2).toInt = d := by
    rw [Int64.toInt_div, h2, ← hd]
    apply Int.bmod_eq_of_le <;> omega
  have hm : (x - x / 2 * 2).toInt = x.toInt - d * 2 := by
    rw [Int64.toInt_sub, Int64.toInt_mul, hb, h2]
    rw [Int.sub_bmod_bmod (n := 2^64)]
    apply Int.bmod_eq_of_le <;> omega
  have e1 : x - x / 2 * 2 = 0 ↔ x.toInt % 2 = 0 := by
    rw [← Int64.toInt_inj, hm]
    show x.toInt - d * 2 = 0 ↔ _
    omega
  have e2 : x &&& 1 = 0 ↔ x.toBitVec.toNat % 2 = 0 := by
    rw [← Int64.toBitVec_inj, ← BitVec.toNat_inj, Int64.toBitVec_and, BitVec.toNat_and]
    have h3 : (1 : Int64).toBitVec.toNat = 2 ^ 1 - 1 := rfl
    rw [h3, Nat.and_two_pow_sub_one_eq_mod]
    exact Iff.rfl
  rw [e1, e2]
  have e3 : x.toInt = x.toBitVec.toInt := rfl
  rw [e3, BitVec.toInt_eq_toNat_bmod, Int.bmod_def]
  have := x.toBitVec.isLt
  split <;> omega
def g_cell (b : kW) (p q : Nat) : Nat := if b.1 70 (8 * p + nt (b.1 63 q)) = 0 then nt (b.1 62 q) else if b.1 70 (8 * p + nt (b.1 63 q)) = 1 then l4 (b.2.1 66 q) else 0
theorem g_cell_lt {b : kW} {p q s : Nat} (hs : s < 16) (es : b.1 62 q = nI s) : g_cell b p q < 16 := by
  unfold g_cell
  split
  · rw [es, nt_nI (by omega)]; exact hs
  · split
    · exact l4_lt _
    · omega
def g_no (b : kW) (p q : Nat) : Nat → Nat → Bool
  | 0, _ => true
  | m + 1, i => if b.1 64 i = nI p ∧ b.1 65 i = nI q then false else g_no b p q m (i + 1)
def g_count (b : kW) (p q k sz : Nat) : Bool × kW :=
  if (b.2.1 67 (16 * p + k) + 1) &&& 1 = 0 ∧ g_no b p q sz 0 = true then
    if sz = 500 then (false, b) else (true, g_put (ul b 67 (16 * p + k) (b.2.1 67 (16 * p + k) + 1)) sz (nI (l4 (b.2.1 66 q))) 7 (b.2.1 67 (16 * p + k) + 1) (nI p) (nI q))
  else (true, ul b 67 (16 * p + k) (b.2.1 67 (16 * p + k) + 1))
def g_takeAt (b : kW) (p sz q : Nat) : Bool × kW :=
  if b.1 69 (8 * p + nt (b.1 63 q)) = 6 then g_count b p q (g_cell b p q) sz
  else (true, ul b 67 (16 * p + g_cell b p q) (f_fold (b.1 69 (8 * p + nt (b.1 63 q))) (b.2.1 67 (16 * p + g_cell b p q)) (b.2.1 66 q)))
theorem ul_id {b : kW} {i k : Nat} {x : Int64} (h : b.2.1 i k = x) : ul b i k x = b := by
  refine Prod.ext rfl (Prod.ext (funext fun z => ?_) rfl)
  by_cases e : z = i
  · subst e
    show (if z = z then vp_updL (b.2.1 z) k x else b.2.1 z) = b.2.1 z
    rw [if_pos rfl]
    funext y
    by_cases ey : y = k
    · subst ey; simp [vp_updL, h]
    · simp [vp_updL, ey]
  · simp [ul, e]
set_option maxHeartbeats 4000000 in
set_option maxRecDepth 100000 in
theorem k_takes_loop {E : kx_E} {n : Nat} {a b : kW} {p q sz : Nat} {cc v : Int64} {kx w4 w3 : Int32} {Q : kx_Q} (h1 : b.2.2 61 1 = nI sz) (h5 : sz ≤ 500) (m : Nat) : ∀ (i : Nat), i + m = sz → (∀ x, kx_V E i_M_takes 2 0 0 Q 0 0 303 [(11, .int x), (10, .int (if g_no b p q m i = true then 1 else 0)), (8, .long cc), (6, .long v), (5, .int kx), (4, .int w4), (3, .int w3), (0, .ref 61), (1, .int (nI p)), (2, .int (nI q))] [] n (wd (wx a b))) → kx_V E i_M_takes 2 0 0 Q 0 0 258 [(11, .int (nI i)), (10, .int 1), (8, .long cc), (6, .long v), (5, .int kx), (4, .int w4), (3, .int w3), (0, .ref 61), (1, .int (nI p)), (2, .int (nI q))] [] n (wd (wx a b)) := by
  induction m with
  | zero =>
    intro i hm hk
    have hi : i = sz := by omega
    subst hi
    refine kx_iload (pc := 258) d_M_takes_258 rfl ?_
    refine kx_aload_n (pc := 260) d_M_takes_260 rfl ?_
    refine km_geti (pc := 261) d_M_takes_261 fl_M_63 (by decide) rfl (by decide) rfl ?_
    refine kx_eqi h1 ?_
    refine kx_icmp_ge (pc := 264) (tgt := 303) d_M_takes_264 (by decide) (fun _ => ?_) (fun hz => absurd (nI_le (Nat.le_refl i) (by omega)) hz)
    exact hk _
  | succ m ih =>
    intro i hm hk
    have hlt : i < sz := by omega
    have i5 : i < 500 := by omega
    have hno : ¬ (b.1 64 i = nI p ∧ b.1 65 i = nI q) → kx_V E i_M_takes 2 0 0 Q 0 0 297 [(11, .int (nI i)), (10, .int 1), (8, .long cc), (6, .long v), (5, .int kx), (4, .int w4), (3, .int w3), (0, .ref 61), (1, .int (nI p)), (2, .int (nI q))] [] n (wd (wx a b)) := by
      intro hw
      have ec : g_no b p q (m + 1) i = g_no b p q m (i + 1) := if_neg hw
      rw [ec] at hk
      refine kx_iinc (pc := 297) (y := nI (i + 1)) (lv' := [(11, _), (10, _), (8, _), (6, _), (5, _), (4, _), (3, _), (0, _), (1, _), (2, _)]) d_M_takes_297 rfl (nI_1 i) (by decide) rfl ?_
      refine kx_goto (pc := 300) (tgt := 258) d_M_takes_300 (by decide) ?_
      exact ih (i + 1) (by omega) hk
    refine kx_iload (pc := 258) d_M_takes_258 rfl ?_
    refine kx_aload_n (pc := 260) d_M_takes_260 rfl ?_
    refine km_geti (pc := 261) d_M_takes_261 fl_M_63 (by decide) rfl (by decide) rfl ?_
    refine kx_eqi h1 ?_
    refine kx_icmp_ge (pc := 264) (tgt := 303) d_M_takes_264 (by decide) (fun hz => absurd hz (nI_ge hlt (by omega))) (fun _ => ?_)
    refine kx_iload (pc := 267) d_M_takes_267 rfl ?_
    refine kx_if_eq (pc := 269) (tgt := 303) d_M_takes_269 (by decide) (fun hz => absurd hz (by decide)) (fun _ => ?_)
    refine kx_aload_n (pc := 272) d_M_takes_272 rfl ?_
    refine kw_getr (pc := 273) (r := 64) d_M_takes_273 fl_M_16 rfl (by decide) rfl ?_
    refine kx_iload (pc := 276) d_M_takes_276 rfl ?_
    refine km_iald (pc := 278) d_M_takes_278 (by decide) rfl ⟨rfl, i5, by decide⟩ ?_
    refine kx_iload_n (pc := 279) d_M_takes_279 rfl ?_
    refine kx_icmp_ne (pc := 280) (tgt := 297) d_M_takes_280 (by decide) (fun hz => ?_) (fun hz => ?_)
    · exact hno (fun w => hz w.1)
    · refine kx_aload_n (pc := 283) d_M_takes_283 rfl ?_
      refine kw_getr (pc := 284) (r := 65) d_M_takes_284 fl_M_19 rfl (by decide) rfl ?_
      refine kx_iload (pc := 287) d_M_takes_287 rfl ?_
      refine km_iald (pc := 289) d_M_takes_289 (by decide) rfl ⟨rfl, i5, by decide⟩ ?_
      refine kx_iload_n (pc := 290) d_M_takes_290 rfl ?_
      refine kx_icmp_ne (pc := 291) (tgt := 297) d_M_takes_291 (by decide) (fun hy => ?_) (fun hy => ?_)
      · exact hno (fun w => hy w.2)
      · have ec : g_no b p q (m + 1) i = false := if_pos ⟨hz, hy⟩
        rw [ec] at hk
        refine kx_iconst (pc := 294) (x := 0) d_M_takes_294 (by decide) ?_
        refine kx_istore (pc := 295) (lv' := [(10, _), (11, _), (8, _), (6, _), (5, _), (4, _), (3, _), (0, _), (1, _), (2, _)]) d_M_takes_295 (by decide) rfl ?_
        refine kx_iinc (pc := 297) (y := nI (i + 1)) (lv' := [(11, _), (10, _), (8, _), (6, _), (5, _), (4, _), (3, _), (0, _), (1, _), (2, _)]) d_M_takes_297 rfl (nI_1 i) (by decide) rfl ?_
        refine kx_goto (pc := 300) (tgt := 258) d_M_takes_300 (by decide) ?_
        refine kx_sub [0, 1, 2, 3, 4, 5, 6, 7, 8, 9] rfl ?_
        refine kx_iload (pc := 258) d_M_takes_258 rfl ?_
        refine kx_aload_n (pc := 260) d_M_takes_260 rfl ?_
        refine km_geti (pc := 261) d_M_takes_261 fl_M_63 (by decide) rfl (by decide) rfl ?_
        refine kx_eqi h1 ?_
        refine kx_icmp_ge (pc := 264) (tgt := 303) d_M_takes_264 (by decide) (fun hg => ?_) (fun hg => ?_)
        · exact hk _
        · refine kx_iload (pc := 267) d_M_takes_267 rfl ?_
          refine kx_if_eq (pc := 269) (tgt := 303) d_M_takes_269 (by decide) (fun _ => ?_) (fun hz => absurd rfl hz)
          exact hk _
set_option maxHeartbeats 4000000 in
set_option maxRecDepth 100000 in
theorem k_takes {E : kx_E} {n : Nat} {a b : kW} {p q sz t s : Nat} (hp : p < 8) (hq : q < sz) (h1 : b.2.2 61 1 = nI sz) (h5 : sz ≤ 500) (ht : t < 8) (ek : b.1 63 q = nI t) (hs : s < 16) (es : b.1 62 q = nI s) : kx_V E i_M_takes 2 0 0 (fun r _ h' => r = Sum.inl (some (.int (if (g_takeAt b p sz q).1 then 1 else 0))) ∧ h' = wd (wx a (g_takeAt b p sz q).2)) 0 0 0 (lv_args 0 [.ref 61, .int (nI p), .int (nI q)]) [] n (wd (wx a b)) := by
  have q5 : q < 500 := by omega
  have nk : nt (b.1 63 q) = t := by rw [ek]; exact nt_nI (by omega)
  have hc16 : g_cell b p q < 16 := g_cell_lt hs es
  have hk : 16 * p + g_cell b p q < 128 := by omega
  have et : g_takeAt b p sz q = if b.1 69 (8 * p + t) = 6 then g_count b p q (g_cell b p q) sz else (true, ul b 67 (16 * p + g_cell b p q) (f_fold (b.1 69 (8 * p + t)) (b.2.1 67 (16 * p + g_cell b p q)) (b.2.1 66 q))) := by
    unfold g_takeAt
    rw [nk]
  have fo : ∀ z, f_fold (b.1 69 (8 * p + t)) (b.2.1 67 (16 * p + g_cell b p q)) (b.2.1 66 q) = z → ¬ b.1 69 (8 * p + t) = 6 → g_takeAt b p sz q = (true, ul b 67 (16 * p + g_cell b p q) z) := fun z hz h6 => by rw [et, if_neg h6, hz]
  have c0 : b.1 69 (8 * p + t) = 6 → ¬ (((b.2.1 67 (16 * p + g_cell b p q)) + 1) &&& 1 = 0 ∧ g_no b p q sz 0 = true) → ∀ x, kx_V E i_M_takes 2 0 0 (fun r _ h' => r = Sum.inl (some (.int (if (g_takeAt b p sz q).1 then 1 else 0))) ∧ h' = wd (wx a (g_takeAt b p sz q).2)) 0 0 303 [(11, .int x), (10, .int 0), (8, .long ((b.2.1 67 (16 * p + g_cell b p q)) + 1)), (6, .long (b.2.1 66 q)), (5, .int (nI (16 * p + g_cell b p q))), (4, .int (b.1 70 (8 * p + t))), (3, .int (b.1 69 (8 * p + t))), (0, .ref 61), (1, .int (nI p)), (2, .int (nI q))] [] n (wd (wx a b)) := by
    intro h6 hno x
    have e : g_takeAt b p sz q = (true, ul b 67 (16 * p + g_cell b p q) ((b.2.1 67 (16 * p + g_cell b p q)) + 1)) := by rw [et, if_pos h6]; exact if_neg hno
    refine kx_iload (pc := 303) d_M_takes_303 rfl ?_
    refine kx_if_eq (pc := 305) (tgt := 320) d_M_takes_305 (by decide) (fun _ => ?_) (fun hz => absurd rfl hz)
    refine kx_aload_n (pc := 320) d_M_takes_320 rfl ?_
    refine kw_getr (pc := 321) (r := 67) d_M_takes_321 fl_M_26 rfl (by decide) rfl ?_
    refine kx_iload (pc := 324) d_M_takes_324 rfl ?_
    refine kx_lload (pc := 326) d_M_takes_326 rfl ?_
    refine km_last (pc := 328) d_M_takes_328 (by decide) rfl ⟨rfl, hk, by decide⟩ ?_
    refine kx_iload (pc := 329) d_M_takes_329 rfl ?_
    refine kx_if_eq (pc := 331) (tgt := 351) d_M_takes_331 (by decide) (fun _ => ?_) (fun hz => absurd rfl hz)
    refine kx_iconst (pc := 351) (x := 1) d_M_takes_351 (by decide) ?_
    exact kx_zret rfl rfl d_M_takes_352 ⟨by rw [e]; rfl, by rw [e]⟩
  have c1 : b.1 69 (8 * p + t) = 6 → (((b.2.1 67 (16 * p + g_cell b p q)) + 1) &&& 1 = 0 ∧ g_no b p q sz 0 = true) → ∀ x, kx_V E i_M_takes 2 0 0 (fun r _ h' => r = Sum.inl (some (.int (if (g_takeAt b p sz q).1 then 1 else 0))) ∧ h' = wd (wx a (g_takeAt b p sz q).2)) 0 0 303 [(11, .int x), (10, .int 1), (8, .long ((b.2.1 67 (16 * p + g_cell b p q)) + 1)), (6, .long (b.2.1 66 q)), (5, .int (nI (16 * p + g_cell b p q))), (4, .int (b.1 70 (8 * p + t))), (3, .int (b.1 69 (8 * p + t))), (0, .ref 61), (1, .int (nI p)), (2, .int (nI q))] [] n (wd (wx a b)) := by
    intro h6 hyes x
    have e1 : g_takeAt b p sz q = if sz = 500 then (false, b) else (true, g_put (ul b 67 (16 * p + g_cell b p q) ((b.2.1 67 (16 * p + g_cell b p q)) + 1)) sz (nI (l4 (b.2.1 66 q))) 7 ((b.2.1 67 (16 * p + g_cell b p q)) + 1) (nI p) (nI q)) := by rw [et, if_pos h6]; exact if_pos hyes
    refine kx_iload (pc := 303) d_M_takes_303 rfl ?_
    refine kx_if_eq (pc := 305) (tgt := 320) d_M_takes_305 (by decide) (fun hz => absurd hz (by decide)) (fun _ => ?_)
    refine kx_aload_n (pc := 308) d_M_takes_308 rfl ?_
    refine km_geti (pc := 309) d_M_takes_309 fl_M_63 (by decide) rfl (by decide) rfl ?_
    refine kx_eqi h1 ?_
    refine kx_sipush (pc := 312) (x := 500) d_M_takes_312 (by decide) ?_
    refine kx_eqi (show (500 : Int32) = nI 500 from rfl) ?_
    refine kx_icmp_ne (pc := 315) (tgt := 320) d_M_takes_315 (by decide) (fun hz => ?_) (fun hz => ?_)
    · have hne : ¬ sz = 500 := fun w => hz (by rw [w])
      have e := e1.trans (if_neg hne)
      refine kx_aload_n (pc := 320) d_M_takes_320 rfl ?_
      refine kw_getr (pc := 321) (r := 67) d_M_takes_321 fl_M_26 rfl (by decide) rfl ?_
      refine kx_iload (pc := 324) d_M_takes_324 rfl ?_
      refine kx_lload (pc := 326) d_M_takes_326 rfl ?_
      refine km_last (pc := 328) d_M_takes_328 (by decide) rfl ⟨rfl, hk, by decide⟩ ?_
      refine kx_iload (pc := 329) d_M_takes_329 rfl ?_
      refine kx_if_eq (pc := 331) (tgt := 351) d_M_takes_331 (by decide) (fun hz => absurd hz (by decide)) (fun _ => ?_)
      refine kx_aload_n (pc := 334) d_M_takes_334 rfl ?_
      refine kx_lload (pc := 335) d_M_takes_335 rfl ?_
      refine kx_l2i (pc := 337) d_M_takes_337 ?_
      refine kx_bipush (pc := 338) (x := 15) d_M_takes_338 (by decide) ?_
      refine kx_iand (pc := 340) d_M_takes_340 ?_
      refine kx_eqi (l4_b _) ?_
      refine kx_bipush (pc := 341) (x := 7) d_M_takes_341 (by decide) ?_
      refine kx_lload (pc := 343) d_M_takes_343 rfl ?_
      refine kx_iload_n (pc := 345) d_M_takes_345 rfl ?_
      refine kx_iload_n (pc := 346) d_M_takes_346 rfl ?_
      refine kx_invV (pc := 347) (as := [.int _, .int _, .long _, .int _, .int _]) (st := []) (k := 0) (j := 0) d_M_takes_347 wv_M_78 (wd_o rfl) (k_mput (a := a) (b := ul b 67 (16 * p + g_cell b p q) ((b.2.1 67 (16 * p + g_cell b p q)) + 1)) (ev := sz) h1 (by omega)) rfl rfl (Nat.le_of_ble_eq_true rfl) (by decide) (Nat.le_of_ble_eq_true rfl) (fun rv n' h' hq => ?_) (fun X n' h' hq => nomatch hq.2)
      obtain ⟨rfl, hq⟩ := hq
      cases hq
      refine kx_pop (pc := 350) d_M_takes_350 rfl ?_
      refine kx_iconst (pc := 351) (x := 1) d_M_takes_351 (by decide) ?_
      exact kx_zret rfl rfl d_M_takes_352 ⟨by rw [e]; rfl, by rw [e]⟩
    · have e := e1.trans (if_pos (nI_inj (by omega) (by omega) hz))
      refine kx_iconst (pc := 318) (x := 0) d_M_takes_318 (by decide) ?_
      exact kx_zret rfl rfl d_M_takes_319 ⟨by rw [e]; rfl, by rw [e]⟩
  have tz : b.1 69 (8 * p + t) = 6 → ¬ (((b.2.1 67 (16 * p + g_cell b p q)) + 1) &&& 1 = 0 ∧ g_no b p q sz 0 = true) → kx_V E i_M_takes 2 0 0 (fun r _ h' => r = Sum.inl (some (.int (if (g_takeAt b p sz q).1 then 1 else 0))) ∧ h' = wd (wx a (g_takeAt b p sz q).2)) 0 0 258 [(11, .int 0), (10, .int 0), (8, .long ((b.2.1 67 (16 * p + g_cell b p q)) + 1)), (6, .long (b.2.1 66 q)), (5, .int (nI (16 * p + g_cell b p q))), (4, .int (b.1 70 (8 * p + t))), (3, .int (b.1 69 (8 * p + t))), (0, .ref 61), (1, .int (nI p)), (2, .int (nI q))] [] n (wd (wx a b)) := by
    intro x6 hno
    refine kx_iload (pc := 258) d_M_takes_258 rfl ?_
    refine kx_aload_n (pc := 260) d_M_takes_260 rfl ?_
    refine km_geti (pc := 261) d_M_takes_261 fl_M_63 (by decide) rfl (by decide) rfl ?_
    refine kx_eqi h1 ?_
    refine kx_icmp_ge (pc := 264) (tgt := 303) d_M_takes_264 (by decide) (fun hg => ?_) (fun hg => ?_)
    · exact c0 x6 hno _
    · refine kx_iload (pc := 267) d_M_takes_267 rfl ?_
      refine kx_if_eq (pc := 269) (tgt := 303) d_M_takes_269 (by decide) (fun _ => ?_) (fun hz => absurd rfl hz)
      exact c0 x6 hno _
  have ty : b.1 69 (8 * p + t) = 6 → ((b.2.1 67 (16 * p + g_cell b p q)) + 1) &&& 1 = 0 → kx_V E i_M_takes 2 0 0 (fun r _ h' => r = Sum.inl (some (.int (if (g_takeAt b p sz q).1 then 1 else 0))) ∧ h' = wd (wx a (g_takeAt b p sz q).2)) 0 0 258 [(11, .int (nI 0)), (10, .int 1), (8, .long ((b.2.1 67 (16 * p + g_cell b p q)) + 1)), (6, .long (b.2.1 66 q)), (5, .int (nI (16 * p + g_cell b p q))), (4, .int (b.1 70 (8 * p + t))), (3, .int (b.1 69 (8 * p + t))), (0, .ref 61), (1, .int (nI p)), (2, .int (nI q))] [] n (wd (wx a b)) := by
    intro x6 hev
    refine k_takes_loop h1 h5 sz 0 (by omega) (fun x => ?_)
    by_cases hno : g_no b p q sz 0 = true
    · rw [if_pos hno]
      exact c1 x6 ⟨hev, hno⟩ x
    · rw [if_neg hno]
      exact c0 x6 (fun w => hno w.2) x
  have t84 : kx_V E i_M_takes 2 0 0 (fun r _ h' => r = Sum.inl (some (.int (if (g_takeAt b p sz q).1 then 1 else 0))) ∧ h' = wd (wx a (g_takeAt b p sz q).2)) 0 0 84 [(6, .long (b.2.1 66 q)), (5, .int (nI (16 * p + g_cell b p q))), (4, .int (b.1 70 (8 * p + t))), (3, .int (b.1 69 (8 * p + t))), (0, .ref 61), (1, .int (nI p)), (2, .int (nI q))] [] n (wd (wx a b)) := by
    refine kx_iload_n (pc := 84) d_M_takes_84 rfl ?_
    refine kx_iconst (pc := 85) (x := 1) d_M_takes_85 (by decide) ?_
    refine kx_icmp_ne (pc := 86) (tgt := 104) d_M_takes_86 (by decide) (fun x1 => ?_) (fun x1 => ?_)
    · refine kx_iload_n (pc := 104) d_M_takes_104 rfl ?_
      refine kx_iconst (pc := 105) (x := 2) d_M_takes_105 (by decide) ?_
      refine kx_icmp_ne (pc := 106) (tgt := 121) d_M_takes_106 (by decide) (fun x2 => ?_) (fun x2 => ?_)
      · refine kx_iload_n (pc := 121) d_M_takes_121 rfl ?_
        refine kx_iconst (pc := 122) (x := 3) d_M_takes_122 (by decide) ?_
        refine kx_icmp_ne (pc := 123) (tgt := 140) d_M_takes_123 (by decide) (fun x3 => ?_) (fun x3 => ?_)
        · refine kx_iload_n (pc := 140) d_M_takes_140 rfl ?_
          refine kx_iconst (pc := 141) (x := 4) d_M_takes_141 (by decide) ?_
          refine kx_icmp_ne (pc := 142) (tgt := 180) d_M_takes_142 (by decide) (fun x4 => ?_) (fun x4 => ?_)
          · refine kx_iload_n (pc := 180) d_M_takes_180 rfl ?_
            refine kx_iconst (pc := 181) (x := 5) d_M_takes_181 (by decide) ?_
            refine kx_icmp_ne (pc := 182) (tgt := 220) d_M_takes_182 (by decide) (fun x5 => ?_) (fun x5 => ?_)
            · refine kx_iload_n (pc := 220) d_M_takes_220 rfl ?_
              refine kx_bipush (pc := 221) (x := 6) d_M_takes_221 (by decide) ?_
              refine kx_icmp_ne (pc := 223) (tgt := 351) d_M_takes_223 (by decide) (fun x6 => ?_) (fun x6 => ?_)
              · have e := fo (b.2.1 67 (16 * p + g_cell b p q)) (by unfold f_fold; rw [if_neg x1, if_neg x2, if_neg x3, if_neg x4, if_neg x5]) x6
                rw [ul_id rfl] at e
                refine kx_iconst (pc := 351) (x := 1) d_M_takes_351 (by decide) ?_
                exact kx_zret rfl rfl d_M_takes_352 ⟨by rw [e]; rfl, by rw [e]⟩
              · refine kx_aload_n (pc := 226) d_M_takes_226 rfl ?_
                refine kw_getr (pc := 227) (r := 67) d_M_takes_227 fl_M_26 rfl (by decide) rfl ?_
                refine kx_iload (pc := 230) d_M_takes_230 rfl ?_
                refine km_lald (pc := 232) d_M_takes_232 (by decide) rfl ⟨rfl, hk, by decide⟩ ?_
                refine kx_lconst (pc := 233) (x := 1) d_M_takes_233 (by decide) ?_
                refine kx_ladd (pc := 234) d_M_takes_234 ?_
                refine kx_lstore (pc := 235) (lv' := [(8, _), (6, _), (5, _), (4, _), (3, _), (0, _), (1, _), (2, _)]) d_M_takes_235 (by decide) rfl ?_
                refine kx_lload (pc := 237) d_M_takes_237 rfl ?_
                refine kx_ldc2 (pc := 239) (x := 2) d_M_takes_239 (kx_t 572 (by decide +kernel) rfl) ?_
                refine kx_lrem (pc := 242) d_M_takes_242 (by decide) ?_
                refine kx_lconst (pc := 243) (x := 0) d_M_takes_243 (by decide) ?_
                refine kx_lcmp (pc := 244) d_M_takes_244 ?_
                refine kx_if_ne (pc := 245) (tgt := 252) d_M_takes_245 (by decide) (fun y6 => ?_) (fun y6 => ?_)
                · have hno : ¬ (((b.2.1 67 (16 * p + g_cell b p q)) + 1) &&& 1 = 0 ∧ g_no b p q sz 0 = true) := fun w => y6 ((lg_cmp_eq _ _).mpr ((kx_par _).mpr w.1))
                  refine kx_iconst (pc := 252) (x := 0) d_M_takes_252 (by decide) ?_
                  refine kx_istore (pc := 253) (lv' := [(10, _), (8, _), (6, _), (5, _), (4, _), (3, _), (0, _), (1, _), (2, _)]) d_M_takes_253 (by decide) rfl ?_
                  refine kx_iconst (pc := 255) (x := 0) d_M_takes_255 (by decide) ?_
                  refine kx_istore (pc := 256) (lv' := [(11, _), (10, _), (8, _), (6, _), (5, _), (4, _), (3, _), (0, _), (1, _), (2, _)]) d_M_takes_256 (by decide) rfl ?_
                  first
                  | exact tz x6 hno
                  | exact ty x6 hev
                · have hev : ((b.2.1 67 (16 * p + g_cell b p q)) + 1) &&& 1 = 0 := (kx_par _).mp ((lg_cmp_eq _ _).mp y6)
                  refine kx_iconst (pc := 248) (x := 1) d_M_takes_248 (by decide) ?_
                  refine kx_goto (pc := 249) (tgt := 253) d_M_takes_249 (by decide) ?_
                  refine kx_istore (pc := 253) (lv' := [(10, _), (8, _), (6, _), (5, _), (4, _), (3, _), (0, _), (1, _), (2, _)]) d_M_takes_253 (by decide) rfl ?_
                  refine kx_iconst (pc := 255) (x := 0) d_M_takes_255 (by decide) ?_
                  refine kx_eqi (show (0 : Int32) = nI 0 from rfl) ?_
                  refine kx_istore (pc := 256) (lv' := [(11, _), (10, _), (8, _), (6, _), (5, _), (4, _), (3, _), (0, _), (1, _), (2, _)]) d_M_takes_256 (by decide) rfl ?_
                  first
                  | exact tz x6 hno
                  | exact ty x6 hev
            · refine kx_aload_n (pc := 185) d_M_takes_185 rfl ?_
              refine kw_getr (pc := 186) (r := 67) d_M_takes_186 fl_M_26 rfl (by decide) rfl ?_
              refine kx_iload (pc := 189) d_M_takes_189 rfl ?_
              refine kx_aload_n (pc := 191) d_M_takes_191 rfl ?_
              refine kw_getr (pc := 192) (r := 67) d_M_takes_192 fl_M_26 rfl (by decide) rfl ?_
              refine kx_iload (pc := 195) d_M_takes_195 rfl ?_
              refine km_lald (pc := 197) d_M_takes_197 (by decide) rfl ⟨rfl, hk, by decide⟩ ?_
              refine kx_lload (pc := 198) d_M_takes_198 rfl ?_
              refine kx_lcmp (pc := 200) d_M_takes_200 ?_
              refine kx_if_ge (pc := 201) (tgt := 214) d_M_takes_201 (by decide) (fun y5 => ?_) (fun y5 => ?_)
              · have e := fo (b.2.1 66 q) (by
                  rw [x5]
                  show (if (b.2.1 66 q) < (b.2.1 67 (16 * p + g_cell b p q)) then (b.2.1 66 q) else (b.2.1 67 (16 * p + g_cell b p q))) = _
                  split
                  · rfl
                  · rename_i hn
                    exact Int64.le_antisymm (Int64.not_lt.mp hn) ((lg_cmp_ge _ _).mp y5)) (by rw [x5]; decide)
                refine kx_lload (pc := 214) d_M_takes_214 rfl ?_
                refine km_last (pc := 216) d_M_takes_216 (by decide) rfl ⟨rfl, hk, by decide⟩ ?_
                refine kx_goto (pc := 217) (tgt := 351) d_M_takes_217 (by decide) ?_
                refine kx_iconst (pc := 351) (x := 1) d_M_takes_351 (by decide) ?_
                exact kx_zret rfl rfl d_M_takes_352 ⟨by rw [e]; rfl, by rw [e]⟩
              · have e := fo (b.2.1 67 (16 * p + g_cell b p q)) (by rw [x5]; show (if (b.2.1 66 q) < (b.2.1 67 (16 * p + g_cell b p q)) then (b.2.1 66 q) else (b.2.1 67 (16 * p + g_cell b p q))) = _; rw [if_neg (fun w => y5 ((lg_cmp_ge _ _).mpr (Int64.le_of_lt w)))]) (by rw [x5]; decide)
                refine kx_aload_n (pc := 204) d_M_takes_204 rfl ?_
                refine kw_getr (pc := 205) (r := 67) d_M_takes_205 fl_M_26 rfl (by decide) rfl ?_
                refine kx_iload (pc := 208) d_M_takes_208 rfl ?_
                refine km_lald (pc := 210) d_M_takes_210 (by decide) rfl ⟨rfl, hk, by decide⟩ ?_
                refine kx_goto (pc := 211) (tgt := 216) d_M_takes_211 (by decide) ?_
                refine km_last (pc := 216) d_M_takes_216 (by decide) rfl ⟨rfl, hk, by decide⟩ ?_
                refine kx_goto (pc := 217) (tgt := 351) d_M_takes_217 (by decide) ?_
                refine kx_iconst (pc := 351) (x := 1) d_M_takes_351 (by decide) ?_
                exact kx_zret rfl rfl d_M_takes_352 ⟨by rw [e]; rfl, by rw [e]⟩
          · refine kx_aload_n (pc := 145) d_M_takes_145 rfl ?_
            refine kw_getr (pc := 146) (r := 67) d_M_takes_146 fl_M_26 rfl (by decide) rfl ?_
            refine kx_iload (pc := 149) d_M_takes_149 rfl ?_
            refine kx_aload_n (pc := 151) d_M_takes_151 rfl ?_
            refine kw_getr (pc := 152) (r := 67) d_M_takes_152 fl_M_26 rfl (by decide) rfl ?_
            refine kx_iload (pc := 155) d_M_takes_155 rfl ?_
            refine km_lald (pc := 157) d_M_takes_157 (by decide) rfl ⟨rfl, hk, by decide⟩ ?_
            refine kx_lload (pc := 158) d_M_takes_158 rfl ?_
            refine kx_lcmp (pc := 160) d_M_takes_160 ?_
            refine kx_if_le (pc := 161) (tgt := 174) d_M_takes_161 (by decide) (fun y4 => ?_) (fun y4 => ?_)
            · have e := fo (b.2.1 66 q) (by rw [x4]; show (if (b.2.1 66 q) < (b.2.1 67 (16 * p + g_cell b p q)) then (b.2.1 67 (16 * p + g_cell b p q)) else (b.2.1 66 q)) = _; rw [if_neg (Int64.not_lt.mpr ((lg_cmp_le _ _).mp y4))]) (by rw [x4]; decide)
              refine kx_lload (pc := 174) d_M_takes_174 rfl ?_
              refine km_last (pc := 176) d_M_takes_176 (by decide) rfl ⟨rfl, hk, by decide⟩ ?_
              refine kx_goto (pc := 177) (tgt := 351) d_M_takes_177 (by decide) ?_
              refine kx_iconst (pc := 351) (x := 1) d_M_takes_351 (by decide) ?_
              exact kx_zret rfl rfl d_M_takes_352 ⟨by rw [e]; rfl, by rw [e]⟩
            · have e := fo (b.2.1 67 (16 * p + g_cell b p q)) (by rw [x4]; show (if (b.2.1 66 q) < (b.2.1 67 (16 * p + g_cell b p q)) then (b.2.1 67 (16 * p + g_cell b p q)) else (b.2.1 66 q)) = _; rw [if_pos (Int64.not_le.mp (fun w => y4 ((lg_cmp_le _ _).mpr w)))]) (by rw [x4]; decide)
              refine kx_aload_n (pc := 164) d_M_takes_164 rfl ?_
              refine kw_getr (pc := 165) (r := 67) d_M_takes_165 fl_M_26 rfl (by decide) rfl ?_
              refine kx_iload (pc := 168) d_M_takes_168 rfl ?_
              refine km_lald (pc := 170) d_M_takes_170 (by decide) rfl ⟨rfl, hk, by decide⟩ ?_
              refine kx_goto (pc := 171) (tgt := 176) d_M_takes_171 (by decide) ?_
              refine km_last (pc := 176) d_M_takes_176 (by decide) rfl ⟨rfl, hk, by decide⟩ ?_
              refine kx_goto (pc := 177) (tgt := 351) d_M_takes_177 (by decide) ?_
              refine kx_iconst (pc := 351) (x := 1) d_M_takes_351 (by decide) ?_
              exact kx_zret rfl rfl d_M_takes_352 ⟨by rw [e]; rfl, by rw [e]⟩
        · have e := fo ((b.2.1 67 (16 * p + g_cell b p q)) + 1) (by rw [x3]; rfl) (by rw [x3]; decide)
          refine kx_aload_n (pc := 126) d_M_takes_126 rfl ?_
          refine kw_getr (pc := 127) (r := 67) d_M_takes_127 fl_M_26 rfl (by decide) rfl ?_
          refine kx_iload (pc := 130) d_M_takes_130 rfl ?_
          refine kx_dup2 (pc := 132) d_M_takes_132 rfl rfl ?_
          refine km_lald (pc := 133) d_M_takes_133 (by decide) rfl ⟨rfl, hk, by decide⟩ ?_
          refine kx_lconst (pc := 134) (x := 1) d_M_takes_134 (by decide) ?_
          refine kx_ladd (pc := 135) d_M_takes_135 ?_
          refine km_last (pc := 136) d_M_takes_136 (by decide) rfl ⟨rfl, hk, by decide⟩ ?_
          refine kx_goto (pc := 137) (tgt := 351) d_M_takes_137 (by decide) ?_
          refine kx_iconst (pc := 351) (x := 1) d_M_takes_351 (by decide) ?_
          exact kx_zret rfl rfl d_M_takes_352 ⟨by rw [e]; rfl, by rw [e]⟩
      · have e := fo ((b.2.1 66 q)) (by rw [x2]; rfl) (by rw [x2]; decide)
        refine kx_aload_n (pc := 109) d_M_takes_109 rfl ?_
        refine kw_getr (pc := 110) (r := 67) d_M_takes_110 fl_M_26 rfl (by decide) rfl ?_
        refine kx_iload (pc := 113) d_M_takes_113 rfl ?_
        refine kx_lload (pc := 115) d_M_takes_115 rfl ?_
        refine km_last (pc := 117) d_M_takes_117 (by decide) rfl ⟨rfl, hk, by decide⟩ ?_
        refine kx_goto (pc := 118) (tgt := 351) d_M_takes_118 (by decide) ?_
        refine kx_iconst (pc := 351) (x := 1) d_M_takes_351 (by decide) ?_
        exact kx_zret rfl rfl d_M_takes_352 ⟨by rw [e]; rfl, by rw [e]⟩
    · have e := fo ((b.2.1 67 (16 * p + g_cell b p q)) + (b.2.1 66 q)) (by rw [x1]; rfl) (by rw [x1]; decide)
      refine kx_aload_n (pc := 89) d_M_takes_89 rfl ?_
      refine kw_getr (pc := 90) (r := 67) d_M_takes_90 fl_M_26 rfl (by decide) rfl ?_
      refine kx_iload (pc := 93) d_M_takes_93 rfl ?_
      refine kx_dup2 (pc := 95) d_M_takes_95 rfl rfl ?_
      refine km_lald (pc := 96) d_M_takes_96 (by decide) rfl ⟨rfl, hk, by decide⟩ ?_
      refine kx_lload (pc := 97) d_M_takes_97 rfl ?_
      refine kx_ladd (pc := 99) d_M_takes_99 ?_
      refine km_last (pc := 100) d_M_takes_100 (by decide) rfl ⟨rfl, hk, by decide⟩ ?_
      refine kx_goto (pc := 101) (tgt := 351) d_M_takes_101 (by decide) ?_
      refine kx_iconst (pc := 351) (x := 1) d_M_takes_351 (by decide) ?_
      exact kx_zret rfl rfl d_M_takes_352 ⟨by rw [e]; rfl, by rw [e]⟩
  refine kx_aload_n (pc := 0) d_M_takes_0 rfl ?_
  refine kw_getr (pc := 1) (r := 69) d_M_takes_1 fl_M_32 rfl (by decide) rfl ?_
  refine kx_bipush (pc := 4) (x := 8) d_M_takes_4 (by decide) ?_
  refine kx_iload_n (pc := 6) d_M_takes_6 rfl ?_
  refine kx_imul (pc := 7) d_M_takes_7 ?_
  refine kx_aload_n (pc := 8) d_M_takes_8 rfl ?_
  refine kw_getr (pc := 9) (r := 63) d_M_takes_9 fl_M_13 rfl (by decide) rfl ?_
  refine kx_iload_n (pc := 12) d_M_takes_12 rfl ?_
  refine km_iald (pc := 13) d_M_takes_13 (by decide) rfl ⟨rfl, q5, by decide⟩ ?_
  refine kx_eqi ek ?_
  refine kx_iadd (pc := 14) d_M_takes_14 ?_
  refine kx_eqi (ix8 p t) ?_
  refine km_iald (pc := 15) d_M_takes_15 (by decide) rfl ⟨rfl, by omega, by decide⟩ ?_
  refine kx_istore_n (pc := 16) (lv' := [(3, _), (0, _), (1, _), (2, _)]) d_M_takes_16 rfl (by decide) rfl ?_
  refine kx_aload_n (pc := 17) d_M_takes_17 rfl ?_
  refine kw_getr (pc := 18) (r := 70) d_M_takes_18 fl_M_35 rfl (by decide) rfl ?_
  refine kx_bipush (pc := 21) (x := 8) d_M_takes_21 (by decide) ?_
  refine kx_iload_n (pc := 23) d_M_takes_23 rfl ?_
  refine kx_imul (pc := 24) d_M_takes_24 ?_
  refine kx_aload_n (pc := 25) d_M_takes_25 rfl ?_
  refine kw_getr (pc := 26) (r := 63) d_M_takes_26 fl_M_13 rfl (by decide) rfl ?_
  refine kx_iload_n (pc := 29) d_M_takes_29 rfl ?_
  refine km_iald (pc := 30) d_M_takes_30 (by decide) rfl ⟨rfl, q5, by decide⟩ ?_
  refine kx_eqi ek ?_
  refine kx_iadd (pc := 31) d_M_takes_31 ?_
  refine kx_eqi (ix8 p t) ?_
  refine km_iald (pc := 32) d_M_takes_32 (by decide) rfl ⟨rfl, by omega, by decide⟩ ?_
  refine kx_istore (pc := 33) (lv' := [(4, _), (3, _), (0, _), (1, _), (2, _)]) d_M_takes_33 (by decide) rfl ?_
  refine kx_bipush (pc := 35) (x := 16) d_M_takes_35 (by decide) ?_
  refine kx_iload_n (pc := 37) d_M_takes_37 rfl ?_
  refine kx_imul (pc := 38) d_M_takes_38 ?_
  refine kx_iload (pc := 39) d_M_takes_39 rfl ?_
  refine kx_if_ne (pc := 41) (tgt := 53) d_M_takes_41 (by decide) (fun z0 => ?_) (fun z0 => ?_)
  · refine kx_iload (pc := 53) d_M_takes_53 rfl ?_
    refine kx_iconst (pc := 55) (x := 1) d_M_takes_55 (by decide) ?_
    refine kx_icmp_ne (pc := 56) (tgt := 72) d_M_takes_56 (by decide) (fun z1 => ?_) (fun z1 => ?_)
    · have gc : g_cell b p q = 0 := by unfold g_cell; rw [nk, if_neg z0, if_neg z1]
      refine kx_iconst (pc := 72) (x := 0) d_M_takes_72 (by decide) ?_
      refine kx_iadd (pc := 73) d_M_takes_73 ?_
      refine kx_eqi (show _ = nI (16 * p + g_cell b p q) by rw [gc, ← ix16]; rfl) ?_
      refine kx_istore (pc := 74) (lv' := [(5, _), (4, _), (3, _), (0, _), (1, _), (2, _)]) d_M_takes_74 (by decide) rfl ?_
      refine kx_aload_n (pc := 76) d_M_takes_76 rfl ?_
      refine kw_getr (pc := 77) (r := 66) d_M_takes_77 fl_M_22 rfl (by decide) rfl ?_
      refine kx_iload_n (pc := 80) d_M_takes_80 rfl ?_
      refine km_lald (pc := 81) d_M_takes_81 (by decide) rfl ⟨rfl, q5, by decide⟩ ?_
      refine kx_lstore (pc := 82) (lv' := [(6, _), (5, _), (4, _), (3, _), (0, _), (1, _), (2, _)]) d_M_takes_82 (by decide) rfl ?_
      exact t84
    · have gc : g_cell b p q = l4 (b.2.1 66 q) := by unfold g_cell; rw [nk, if_neg z0, if_pos z1]
      refine kx_aload_n (pc := 59) d_M_takes_59 rfl ?_
      refine kw_getr (pc := 60) (r := 66) d_M_takes_60 fl_M_22 rfl (by decide) rfl ?_
      refine kx_iload_n (pc := 63) d_M_takes_63 rfl ?_
      refine km_lald (pc := 64) d_M_takes_64 (by decide) rfl ⟨rfl, q5, by decide⟩ ?_
      refine kx_l2i (pc := 65) d_M_takes_65 ?_
      refine kx_bipush (pc := 66) (x := 15) d_M_takes_66 (by decide) ?_
      refine kx_iand (pc := 68) d_M_takes_68 ?_
      refine kx_eqi (l4_b _) ?_
      refine kx_goto (pc := 69) (tgt := 73) d_M_takes_69 (by decide) ?_
      refine kx_iadd (pc := 73) d_M_takes_73 ?_
      refine kx_eqi (show _ = nI (16 * p + g_cell b p q) by rw [gc, ← ix16]) ?_
      refine kx_istore (pc := 74) (lv' := [(5, _), (4, _), (3, _), (0, _), (1, _), (2, _)]) d_M_takes_74 (by decide) rfl ?_
      refine kx_aload_n (pc := 76) d_M_takes_76 rfl ?_
      refine kw_getr (pc := 77) (r := 66) d_M_takes_77 fl_M_22 rfl (by decide) rfl ?_
      refine kx_iload_n (pc := 80) d_M_takes_80 rfl ?_
      refine km_lald (pc := 81) d_M_takes_81 (by decide) rfl ⟨rfl, q5, by decide⟩ ?_
      refine kx_lstore (pc := 82) (lv' := [(6, _), (5, _), (4, _), (3, _), (0, _), (1, _), (2, _)]) d_M_takes_82 (by decide) rfl ?_
      exact t84
  · have gc : g_cell b p q = s := by unfold g_cell; rw [nk, if_pos z0, es, nt_nI (by omega)]
    refine kx_aload_n (pc := 44) d_M_takes_44 rfl ?_
    refine kw_getr (pc := 45) (r := 62) d_M_takes_45 fl_M_9 rfl (by decide) rfl ?_
    refine kx_iload_n (pc := 48) d_M_takes_48 rfl ?_
    refine km_iald (pc := 49) d_M_takes_49 (by decide) rfl ⟨rfl, q5, by decide⟩ ?_
    refine kx_eqi es ?_
    refine kx_goto (pc := 50) (tgt := 73) d_M_takes_50 (by decide) ?_
    refine kx_iadd (pc := 73) d_M_takes_73 ?_
    refine kx_eqi (show _ = nI (16 * p + g_cell b p q) by rw [gc, ← ix16]) ?_
    refine kx_istore (pc := 74) (lv' := [(5, _), (4, _), (3, _), (0, _), (1, _), (2, _)]) d_M_takes_74 (by decide) rfl ?_
    refine kx_aload_n (pc := 76) d_M_takes_76 rfl ?_
    refine kw_getr (pc := 77) (r := 66) d_M_takes_77 fl_M_22 rfl (by decide) rfl ?_
    refine kx_iload_n (pc := 80) d_M_takes_80 rfl ?_
    refine km_lald (pc := 81) d_M_takes_81 (by decide) rfl ⟨rfl, q5, by decide⟩ ?_
    refine kx_lstore (pc := 82) (lv' := [(6, _), (5, _), (4, _), (3, _), (0, _), (1, _), (2, _)]) d_M_takes_82 (by decide) rfl ?_
    exact t84
end
section
def g_take (b : kW) (p : Nat) : Bool × kW :=
  if nt (b.2.2 61 1) ≤ nt (b.1 71 p) then (false, b)
  else if (g_takeAt b p (nt (b.2.2 61 1)) (nt (b.1 71 p))).1 then (true, ui (g_takeAt b p (nt (b.2.2 61 1)) (nt (b.1 71 p))).2 71 p (nI (nt (b.1 71 p) + 1)))
  else (false, (g_takeAt b p (nt (b.2.2 61 1)) (nt (b.1 71 p))).2)
def CMp (b : kW) (p : Nat) : Prop := ∃ sz q, b.2.2 61 1 = nI sz ∧ sz ≤ 500 ∧ q ≤ 500 ∧ b.1 71 p = nI q ∧ ∀ k, k < sz → (∃ t, t < 8 ∧ b.1 63 k = nI t) ∧ ∃ s, s < 16 ∧ b.1 62 k = nI s
theorem g_count_cases {b : kW} {p q k sz : Nat} (h1 : b.2.2 61 1 = nI sz) (h5 : sz ≤ 500) : (g_count b p q k sz).2.1 71 = b.1 71 ∧ (((g_count b p q k sz).2.2.2 61 1 = nI sz ∧ (g_count b p q k sz).2.1 62 = b.1 62 ∧ (g_count b p q k sz).2.1 63 = b.1 63) ∨ (sz < 500 ∧ (g_count b p q k sz).2.2.2 61 1 = nI (sz + 1) ∧ (g_count b p q k sz).2.1 62 = upd (b.1 62) sz (nI (l4 (b.2.1 66 q))) ∧ (g_count b p q k sz).2.1 63 = upd (b.1 63) sz 7)) := by
  unfold g_count
  split
  · split
    · exact ⟨rfl, Or.inl ⟨h1, rfl, rfl⟩⟩
    · exact ⟨rfl, Or.inr ⟨by omega, rfl, rfl, rfl⟩⟩
  · exact ⟨rfl, Or.inl ⟨h1, rfl, rfl⟩⟩
theorem g_takeAt_cases {b : kW} {p q sz : Nat} (h1 : b.2.2 61 1 = nI sz) (h5 : sz ≤ 500) : (g_takeAt b p sz q).2.1 71 = b.1 71 ∧ (((g_takeAt b p sz q).2.2.2 61 1 = nI sz ∧ (g_takeAt b p sz q).2.1 62 = b.1 62 ∧ (g_takeAt b p sz q).2.1 63 = b.1 63) ∨ (sz < 500 ∧ (g_takeAt b p sz q).2.2.2 61 1 = nI (sz + 1) ∧ (g_takeAt b p sz q).2.1 62 = upd (b.1 62) sz (nI (l4 (b.2.1 66 q))) ∧ (g_takeAt b p sz q).2.1 63 = upd (b.1 63) sz 7)) := by
  unfold g_takeAt
  split
  · exact g_count_cases h1 h5
  · exact ⟨rfl, Or.inl ⟨h1, rfl, rfl⟩⟩
theorem g_take_at {b : kW} {p sz q : Nat} (h1 : b.2.2 61 1 = nI sz) (h5 : sz ≤ 500) (hq : q ≤ 500) (hpos : b.1 71 p = nI q) : g_take b p = if sz ≤ q then (false, b) else if (g_takeAt b p sz q).1 then (true, ui (g_takeAt b p sz q).2 71 p (nI (q + 1))) else (false, (g_takeAt b p sz q).2) := by
  unfold g_take
  rw [h1, hpos, nt_nI (by omega), nt_nI (by omega)]
theorem CMp.step {b : kW} {p : Nat} (h : CMp b p) : CMp (g_take b p).2 p := by
  obtain ⟨sz, q, h1, h5, hq, hpos, hI⟩ := id h
  rw [g_take_at h1 h5 hq hpos]
  by_cases hlt : sz ≤ q
  · rw [if_pos hlt]
    exact h
  rw [if_neg hlt]
  obtain ⟨g71, hc⟩ := g_takeAt_cases (p := p) (q := q) h1 h5
  have key : ∀ (w : kW) (z : Nat), w.2.2 61 1 = (g_takeAt b p sz q).2.2.2 61 1 → w.1 62 = (g_takeAt b p sz q).2.1 62 → w.1 63 = (g_takeAt b p sz q).2.1 63 → w.1 71 p = nI z → z ≤ 500 → CMp w p := by
    intro w z e1 e2 e3 e4 hz
    rcases hc with ⟨k1, k2, k3⟩ | ⟨k0, k1, k2, k3⟩
    · refine ⟨sz, z, e1.trans k1, h5, hz, e4, fun k hk => ?_⟩
      rw [e2, e3, k2, k3]
      exact hI k hk
    · refine ⟨sz + 1, z, e1.trans k1, by omega, hz, e4, fun k hk => ?_⟩
      rw [e2, e3, k2, k3]
      by_cases e : k = sz
      · subst e
        exact ⟨⟨7, by decide, pk_us⟩, ⟨_, l4_lt _, pk_us⟩⟩
      · rw [pk_un e, pk_un e]
        exact hI k (by omega)
  split
  · exact key _ (q + 1) rfl rfl rfl ui_s (by omega)
  · exact key _ q rfl rfl rfl (by rw [g71]; exact hpos) hq
def g_advance (p : Nat) : Nat → Nat → kW → Nat × kW
  | 0, t, b => (t, b)
  | m + 1, t, b => if (g_take b p).1 then g_advance p m (t + 1) (g_take b p).2 else (t, (g_take b p).2)
def m_adv (b : kW) (x1 x2 : Int32) : Int32 × kW := if 0 ≤ x1 ∧ x1 ≤ 7 then if 0 ≤ x2 ∧ x2 ≤ 1000 then (nI (g_advance (nt x1) (nt x2) 0 (uo b 61 0 0)).1, (g_advance (nt x1) (nt x2) 0 (uo b 61 0 0)).2) else (0, g_err b 1) else (0, g_err b 1)
set_option maxHeartbeats 4000000 in
set_option maxRecDepth 100000 in
theorem k_madv_loop {E : kx_E} {a : kW} {p N : Nat} (hp : p < 8) (hN : N ≤ 1000) (m : Nat) : ∀ (t : Nat) (b : kW), CMp b p → t + m = N → ∀ {Q : kx_Q}, (∀ n, Q (Sum.inl (some (.int (nI (g_advance p m t b).1)))) n (wd (wx a (g_advance p m t b).2))) → ∀ n, kx_V E i_M_advance 3 0 0 Q 0 0 40 [(3, .int (nI t)), (0, .ref 61), (1, .int (nI p)), (2, .int (nI N))] [] n (wd (wx a b)) := by
  induction m with
  | zero =>
    intro t b hC hm Q hQ n
    have hN2 : t = N := by omega
    subst hN2
    refine kx_iload_n (pc := 40) d_M_advance_40 rfl ?_
    refine kx_iload_n (pc := 41) d_M_advance_41 rfl ?_
    refine kx_icmp_ge (pc := 42) (tgt := 88) d_M_advance_42 (by decide) (fun _ => ?_) (fun hz => absurd (nI_le (Nat.le_refl t) (by omega)) hz)
    refine kx_iload_n (pc := 88) d_M_advance_88 rfl ?_
    exact kx_iret rfl d_M_advance_89 (hQ _)
  | succ m ih =>
    intro t b hC hm Q hQ n
    have hlt : t < N := by omega
    obtain ⟨sz, q, h1, h5, hq5, hpos, hI⟩ := id hC
    have et := g_take_at h1 h5 hq5 hpos
    have g71 := (g_takeAt_cases (p := p) (q := q) h1 h5).1
    refine kx_iload_n (pc := 40) d_M_advance_40 rfl ?_
    refine kx_iload_n (pc := 41) d_M_advance_41 rfl ?_
    refine kx_icmp_ge (pc := 42) (tgt := 88) d_M_advance_42 (by decide) (fun hz => absurd hz (nI_ge hlt (by omega))) (fun _ => ?_)
    refine kx_aload_n (pc := 45) d_M_advance_45 rfl ?_
    refine kw_getr (pc := 46) (r := 71) d_M_advance_46 fl_M_38 rfl (by decide) rfl ?_
    refine kx_iload_n (pc := 49) d_M_advance_49 rfl ?_
    refine km_iald (pc := 50) d_M_advance_50 (by decide) rfl ⟨rfl, hp, by decide⟩ ?_
    refine kx_eqi hpos ?_
    refine kx_aload_n (pc := 51) d_M_advance_51 rfl ?_
    refine km_geti (pc := 52) d_M_advance_52 fl_M_63 (by decide) rfl (by decide) rfl ?_
    refine kx_eqi h1 ?_
    refine kx_icmp_ge (pc := 55) (tgt := 88) d_M_advance_55 (by decide) (fun hg => ?_) (fun hg => ?_)
    · have hge : sz ≤ q := by
        rcases Nat.lt_or_ge q sz with w | w
        · exact absurd hg (nI_ge w (by omega))
        · exact w
      rw [if_pos hge] at et
      have e0 : g_advance p (m + 1) t b = (t, b) := by
        show (if (g_take b p).1 then _ else (t, (g_take b p).2)) = _
        rw [et]; rfl
      rw [e0] at hQ
      refine kx_iload_n (pc := 88) d_M_advance_88 rfl ?_
      exact kx_iret rfl d_M_advance_89 (hQ _)
    · have hq2 : q < sz := by
        rcases Nat.lt_or_ge q sz with w | w
        · exact w
        · exact absurd (nI_le w (by omega)) hg
      rw [if_neg (by omega)] at et
      obtain ⟨⟨t', ht, ek⟩, s, hs, es⟩ := hI q hq2
      refine kx_aload_n (pc := 58) d_M_advance_58 rfl ?_
      refine kx_iload_n (pc := 59) d_M_advance_59 rfl ?_
      refine kx_aload_n (pc := 60) d_M_advance_60 rfl ?_
      refine kw_getr (pc := 61) (r := 71) d_M_advance_61 fl_M_38 rfl (by decide) rfl ?_
      refine kx_iload_n (pc := 64) d_M_advance_64 rfl ?_
      refine km_iald (pc := 65) d_M_advance_65 (by decide) rfl ⟨rfl, hp, by decide⟩ ?_
      refine kx_eqi hpos ?_
      refine kx_invV (pc := 66) (as := [.int _, .int _]) (st := []) (k := 0) (j := 0) d_M_advance_66 wv_M_90 (wd_o rfl) (k_takes (a := a) (b := b) (sz := sz) hp hq2 h1 h5 ht ek hs es) rfl rfl (Nat.le_of_ble_eq_true rfl) (by decide) (Nat.le_of_ble_eq_true rfl) (fun rv n' h' hq => ?_) (fun X n' h' hq => nomatch hq.1)
      obtain ⟨hq, rfl⟩ := hq
      cases hq
      refine kx_if_eq (pc := 69) (tgt := 88) d_M_advance_69 (by decide) (fun hz => ?_) (fun hz => ?_)
      · have hy : ¬ (g_takeAt b p sz q).1 = true := fun hw => by
          rw [hw] at hz
          exact absurd hz (by decide)
        rw [if_neg hy] at et
        have e0 : g_advance p (m + 1) t b = (t, (g_takeAt b p sz q).2) := by
          show (if (g_take b p).1 then _ else (t, (g_take b p).2)) = _
          rw [et]; rfl
        rw [e0] at hQ
        refine kx_iload_n (pc := 88) d_M_advance_88 rfl ?_
        exact kx_iret rfl d_M_advance_89 (hQ _)
      · have hy : (g_takeAt b p sz q).1 = true := by
          cases hw : (g_takeAt b p sz q).1
          · rw [hw] at hz
            exact absurd rfl hz
          · rfl
        rw [if_pos hy] at et
        have e0 : g_advance p (m + 1) t b = g_advance p m (t + 1) (g_take b p).2 := by
          show (if (g_take b p).1 then _ else (t, (g_take b p).2)) = _
          rw [et]; rfl
        rw [e0] at hQ
        have hst := hC.step
        rw [et] at hQ hst
        refine kx_aload_n (pc := 72) d_M_advance_72 rfl ?_
        refine kw_getr (pc := 73) (r := 71) d_M_advance_73 fl_M_38 rfl (by decide) rfl ?_
        refine kx_iload_n (pc := 76) d_M_advance_76 rfl ?_
        refine kx_dup2 (pc := 77) d_M_advance_77 rfl rfl ?_
        refine km_iald (pc := 78) d_M_advance_78 (by decide) rfl ⟨rfl, hp, by decide⟩ ?_
        refine kx_eqi (show _ = nI q by rw [g71]; exact hpos) ?_
        refine kx_iconst (pc := 79) (x := 1) d_M_advance_79 (by decide) ?_
        refine kx_iadd (pc := 80) d_M_advance_80 ?_
        refine kx_eqi (nI_1 q) ?_
        refine km_iast (pc := 81) d_M_advance_81 (by decide) rfl ⟨rfl, hp, by decide⟩ ?_
        refine kx_iinc (pc := 82) (y := nI (t + 1)) (lv' := [(3, _), (0, _), (1, _), (2, _)]) d_M_advance_82 rfl (nI_1 t) (by decide) rfl ?_
        refine kx_goto (pc := 85) (tgt := 40) d_M_advance_85 (by decide) ?_
        exact ih (t + 1) _ hst (by omega) hQ _
set_option maxHeartbeats 4000000 in
set_option maxRecDepth 100000 in
theorem k_madv {E : kx_E} {n : Nat} {a b : kW} {x1 x2 : Int32} (hC : ∀ p, p < 8 → CMp b p) : kx_V E i_M_advance 3 0 0 (fun r _ h' => r = Sum.inl (some (.int (m_adv b x1 x2).1)) ∧ h' = wd (wx a (m_adv b x1 x2).2)) 0 0 0 (lv_args 0 [.ref 61, .int x1, .int x2]) [] n (wd (wx a b)) := by
  refine kx_aload_n (pc := 0) d_M_advance_0 rfl ?_
  refine kx_iconst (pc := 1) (x := 0) d_M_advance_1 (by decide) ?_
  refine km_puti (pc := 2) d_M_advance_2 fl_M_59 fw_M_0 (by decide) rfl (by decide) rfl ?_
  refine kx_aload_n (pc := 5) d_M_advance_5 rfl ?_
  refine kx_iload_n (pc := 6) d_M_advance_6 rfl ?_
  refine kx_invS (pc := 7) (as := [.int _]) (st := _) (k := 0) (j := 0) d_M_advance_7 ws_M_82 k_isProjection rfl rfl (Nat.le_of_ble_eq_true rfl) (by decide) (Nat.le_of_ble_eq_true rfl) (fun rv n' h' hq => ?_) (fun X n' h' hq => nomatch hq.2)
  obtain ⟨rfl, hq⟩ := hq
  cases hq
  refine kx_if_eq (pc := 10) (tgt := 24) d_M_advance_10 (by decide) (fun w1 => ?_) (fun w1 => ?_)
  · have g1 := oz.mp w1
    refine kx_iconst (pc := 24) (x := 1) d_M_advance_24 (by decide) ?_
    refine kx_goto (pc := 25) (tgt := 29) d_M_advance_25 (by decide) ?_
    refine kx_iconst (pc := 29) (x := 1) d_M_advance_29 (by decide) ?_
    refine kx_invV (pc := 30) (as := [.int _, .int _]) (st := []) (k := 0) (j := 0) d_M_advance_30 wv_M_70 (wd_o rfl) (k_fails1 (a := a) (b := (uo b 61 0 0)) uo_s (by decide)) rfl rfl (Nat.le_of_ble_eq_true rfl) (by decide) (Nat.le_of_ble_eq_true rfl) (fun rv n' h' hq => ?_) (fun X n' h' hq => nomatch hq.2)
    obtain ⟨rfl, hq⟩ := hq
    cases hq
    refine kx_if_eq (pc := 33) (tgt := 38) d_M_advance_33 (by decide) (fun hz => absurd hz (by decide)) (fun _ => ?_)
    refine kx_iconst (pc := 36) (x := 0) d_M_advance_36 (by decide) ?_
    exact kx_iret rfl d_M_advance_37 ⟨by unfold m_adv; rw [if_neg g1]; try rfl, by unfold m_adv; rw [if_neg g1]; try rfl⟩
  · have g1 := oy w1
    refine kx_iload_n (pc := 13) d_M_advance_13 rfl ?_
    refine kx_iconst (pc := 14) (x := 0) d_M_advance_14 (by decide) ?_
    refine kx_sipush (pc := 15) (x := 1000) d_M_advance_15 (by decide) ?_
    refine kx_invS (pc := 18) (as := [.int _, .int _, .int _]) (st := _) (k := 0) (j := 0) d_M_advance_18 ws_M_66 k_in rfl rfl (Nat.le_of_ble_eq_true rfl) (by decide) (Nat.le_of_ble_eq_true rfl) (fun rv n' h' hq => ?_) (fun X n' h' hq => nomatch hq.2)
    obtain ⟨rfl, hq⟩ := hq
    cases hq
    refine kx_if_ne (pc := 21) (tgt := 28) d_M_advance_21 (by decide) (fun w2 => ?_) (fun w2 => ?_)
    · have g2 := oy w2
      obtain ⟨p, hp8, rfl, np⟩ := nI_gl (N := 7) (by decide) g1
      have hp : p < 8 := by omega
      obtain ⟨N, hN, rfl, nN⟩ := nI_gl (N := 1000) (by decide) g2
      have hC2 : CMp (uo b 61 0 0) p := hC p hp
      refine kx_iconst (pc := 28) (x := 0) d_M_advance_28 (by decide) ?_
      refine kx_iconst (pc := 29) (x := 1) d_M_advance_29 (by decide) ?_
      refine kx_invV (pc := 30) (as := [.int _, .int _]) (st := []) (k := 0) (j := 0) d_M_advance_30 wv_M_70 (wd_o rfl) (k_fails0 (a := a) (b := (uo b 61 0 0)) uo_s) rfl rfl (Nat.le_of_ble_eq_true rfl) (by decide) (Nat.le_of_ble_eq_true rfl) (fun rv n' h' hq => ?_) (fun X n' h' hq => nomatch hq.2)
      obtain ⟨rfl, hq⟩ := hq
      cases hq
      refine kx_if_eq (pc := 33) (tgt := 38) d_M_advance_33 (by decide) (fun _ => ?_) (fun hz => absurd rfl hz)
      refine kx_iconst (pc := 38) (x := 0) d_M_advance_38 (by decide) ?_
      refine kx_eqi (show (0 : Int32) = nI 0 from rfl) ?_
      refine kx_istore_n (pc := 39) (lv' := [(3, _), (0, _), (1, _), (2, _)]) d_M_advance_39 rfl (by decide) rfl ?_
      refine k_madv_loop (a := a) hp hN N 0 (uo b 61 0 0) hC2 (by omega) (fun n => ?_) _
      exact ⟨by unfold m_adv; rw [if_pos g1, if_pos g2, np, nN]; try rfl, by unfold m_adv; rw [if_pos g1, if_pos g2, np, nN]; try rfl⟩
    · have g2 := oz.mp w2
      refine kx_iconst (pc := 24) (x := 1) d_M_advance_24 (by decide) ?_
      refine kx_goto (pc := 25) (tgt := 29) d_M_advance_25 (by decide) ?_
      refine kx_iconst (pc := 29) (x := 1) d_M_advance_29 (by decide) ?_
      refine kx_invV (pc := 30) (as := [.int _, .int _]) (st := []) (k := 0) (j := 0) d_M_advance_30 wv_M_70 (wd_o rfl) (k_fails1 (a := a) (b := (uo b 61 0 0)) uo_s (by decide)) rfl rfl (Nat.le_of_ble_eq_true rfl) (by decide) (Nat.le_of_ble_eq_true rfl) (fun rv n' h' hq => ?_) (fun X n' h' hq => nomatch hq.2)
      obtain ⟨rfl, hq⟩ := hq
      cases hq
      refine kx_if_eq (pc := 33) (tgt := 38) d_M_advance_33 (by decide) (fun hz => absurd hz (by decide)) (fun _ => ?_)
      refine kx_iconst (pc := 36) (x := 0) d_M_advance_36 (by decide) ?_
      exact kx_iret rfl d_M_advance_37 ⟨by unfold m_adv; rw [if_pos g1, if_neg g2]; try rfl, by unfold m_adv; rw [if_pos g1, if_neg g2]; try rfl⟩
end
section
def w_lng : Value → Int64
  | .int x => x.toInt64
  | .long x => x
  | _ => 0
def w_b (r : Option Value ⊕ String) (b : kW) : kW := match r with
  | .inl (some v) => ul b 78 0 (w_lng v)
  | _ => b
def w_c (cs : List (String × Int32)) (r : Option Value ⊕ String) : Int32 := match r with
  | .inl _ => 0
  | .inr X => (cs.lookup X).getD 9
set_option maxHeartbeats 4000000 in
set_option maxRecDepth 100000 in
theorem k_W_append {E : kx_E} {n : Nat} {a b S2 : kW} {S1 : Option Value ⊕ String} {x1 : Int32} {x2 : Int32} {x3 : Int32} {x4 : Int64} (hk : kx_V E i_EK_append 8 5 30 (fun r _ h' => r = S1 ∧ h' = wd (wx S2 b)) 5 30 0 (lv_args 0 [.ref 0, .int x1, .int x2, .int x3, .long x4]) [] n (wd (wx a b))) (hS : (∃ x, S1 = Sum.inl (some (.int x))) ∨ S1 = Sum.inr "java/lang/IllegalArgumentException" ∨ S1 = Sum.inr "java/lang/IllegalStateException" ∨ S1 = Sum.inr "java/lang/IndexOutOfBoundsException") : kx_V E i_W_append 9 5 30 (fun r _ h' => r = Sum.inl (some (.int (w_c [("java/lang/IllegalArgumentException", 1), ("java/lang/IllegalStateException", 2), ("java/lang/IndexOutOfBoundsException", 3)] S1))) ∧ h' = wd (wx S2 (w_b S1 b))) 5 30 0 (lv_args 0 [.ref 0, .int x1, .int x2, .int x3, .long x4, .ref 78]) [] n (wd (wx a b)) := by
  refine kx_aload (pc := 0) d_W_append_0 rfl ?_
  refine kx_iconst (pc := 2) (x := 0) d_W_append_2 (by decide) ?_
  refine kx_aload_n (pc := 3) d_W_append_3 rfl ?_
  refine kx_iload_n (pc := 4) d_W_append_4 rfl ?_
  refine kx_iload_n (pc := 5) d_W_append_5 rfl ?_
  refine kx_iload_n (pc := 6) d_W_append_6 rfl ?_
  refine kx_lload (pc := 7) d_W_append_7 rfl ?_
  refine kx_invV (pc := 9) (as := [.int _, .int _, .int _, .long _]) (st := [.int 0, .ref 78]) (k := 0) (j := 0) d_W_append_9 wv_W_7 (wd_o rfl) hk rfl rfl (Nat.le_of_ble_eq_true rfl) (by decide) (Nat.le_of_ble_eq_true rfl) (fun rv n' h' hq => ?_) (fun X n' h' hq => ?_)
  · obtain ⟨hq, rfl⟩ := hq
    subst hq
    rcases hS with ⟨x, hS⟩ | hS | hS | hS
    rotate_left
    · nomatch hS
    · nomatch hS
    · nomatch hS
    cases hS
    refine kx_i2l (pc := 12) d_W_append_12 ?_
    refine km_last (pc := 13) d_W_append_13 (by decide) rfl ⟨rfl, by decide, by decide⟩ ?_
    refine kx_goto (pc := 14) (tgt := 29) d_W_append_14 (by decide) ?_
    refine kx_iconst (pc := 29) (x := 0) d_W_append_29 (by decide) ?_
    exact kx_iret rfl d_W_append_30 ⟨rfl, rfl⟩
  · obtain ⟨hq, rfl⟩ := hq
    subst hq
    rcases hS with ⟨x, hS⟩ | hS | hS | hS
    · nomatch hS
    · cases hS
      refine kx_X.catch (hpc := 17) (i := 7) (lv' := [(0, _), (1, _), (2, _), (3, _), (4, _), (6, _)]) ⟨⟨by decide, by decide⟩, by decide, "java/lang/IllegalArgumentException", (kx_t 187 (by decide +kernel) rfl), by decide +kernel, by decide +kernel, Or.inl ⟨rfl, rfl⟩⟩ (Or.inr ⟨rfl, d_W_append_17⟩) (by decide) rfl ?_
      refine kx_iconst (pc := 19) (x := 1) d_W_append_19 (by decide) ?_
      exact kx_iret rfl d_W_append_20 ⟨rfl, rfl⟩
    · cases hS
      refine kx_X.catch (hpc := 21) (i := 7) (lv' := [(0, _), (1, _), (2, _), (3, _), (4, _), (6, _)]) ⟨⟨by decide, by decide⟩, by decide, "java/lang/IllegalArgumentException", (kx_t 187 (by decide +kernel) rfl), by decide +kernel, by decide +kernel, Or.inr ⟨by decide +kernel, ⟨⟨by decide, by decide⟩, by decide, "java/lang/IllegalStateException", (kx_t 188 (by decide +kernel) rfl), by decide +kernel, by decide +kernel, Or.inl ⟨rfl, rfl⟩⟩⟩⟩ (Or.inr ⟨rfl, d_W_append_21⟩) (by decide) rfl ?_
      refine kx_iconst (pc := 23) (x := 2) d_W_append_23 (by decide) ?_
      exact kx_iret rfl d_W_append_24 ⟨rfl, rfl⟩
    · cases hS
      refine kx_X.catch (hpc := 25) (i := 7) (lv' := [(0, _), (1, _), (2, _), (3, _), (4, _), (6, _)]) ⟨⟨by decide, by decide⟩, by decide, "java/lang/IllegalArgumentException", (kx_t 187 (by decide +kernel) rfl), by decide +kernel, by decide +kernel, Or.inr ⟨by decide +kernel, ⟨⟨by decide, by decide⟩, by decide, "java/lang/IllegalStateException", (kx_t 188 (by decide +kernel) rfl), by decide +kernel, by decide +kernel, Or.inr ⟨by decide +kernel, ⟨⟨by decide, by decide⟩, by decide, "java/lang/IndexOutOfBoundsException", (kx_t 189 (by decide +kernel) rfl), by decide +kernel, by decide +kernel, Or.inl ⟨rfl, rfl⟩⟩⟩⟩⟩⟩ (Or.inr ⟨rfl, d_W_append_25⟩) (by decide) rfl ?_
      refine kx_iconst (pc := 27) (x := 3) d_W_append_27 (by decide) ?_
      exact kx_iret rfl d_W_append_28 ⟨rfl, rfl⟩
set_option maxHeartbeats 4000000 in
set_option maxRecDepth 100000 in
theorem k_W_rule {E : kx_E} {n : Nat} {a b S2 : kW} {S1 : Option Value ⊕ String} {x1 : Int32} {x2 : Int32} {x3 : Int32} {x4 : Int32} (hk : kx_V E i_EK_rule 8 5 30 (fun r _ h' => r = S1 ∧ h' = wd (wx S2 b)) 5 30 0 (lv_args 0 [.ref 0, .int x1, .int x2, .int x3, .int x4]) [] n (wd (wx a b))) (hS : (S1 = Sum.inl none) ∨ S1 = Sum.inr "java/lang/IllegalArgumentException") : kx_V E i_W_rule 9 5 30 (fun r _ h' => r = Sum.inl (some (.int (w_c [("java/lang/IllegalArgumentException", 1)] S1))) ∧ h' = wd (wx S2 (w_b S1 b))) 5 30 0 (lv_args 0 [.ref 0, .int x1, .int x2, .int x3, .int x4]) [] n (wd (wx a b)) := by
  refine kx_aload_n (pc := 0) d_W_rule_0 rfl ?_
  refine kx_iload_n (pc := 1) d_W_rule_1 rfl ?_
  refine kx_iload_n (pc := 2) d_W_rule_2 rfl ?_
  refine kx_iload_n (pc := 3) d_W_rule_3 rfl ?_
  refine kx_iload (pc := 4) d_W_rule_4 rfl ?_
  refine kx_invV (pc := 6) (as := [.int _, .int _, .int _, .int _]) (st := []) (k := 0) (j := 0) d_W_rule_6 wv_W_19 (wd_o rfl) hk rfl rfl (Nat.le_of_ble_eq_true rfl) (by decide) (Nat.le_of_ble_eq_true rfl) (fun rv n' h' hq => ?_) (fun X n' h' hq => ?_)
  · obtain ⟨hq, rfl⟩ := hq
    subst hq
    rcases hS with hS | hS
    rotate_left
    · nomatch hS
    cases hS
    refine kx_goto (pc := 9) (tgt := 16) d_W_rule_9 (by decide) ?_
    refine kx_iconst (pc := 16) (x := 0) d_W_rule_16 (by decide) ?_
    exact kx_iret rfl d_W_rule_17 ⟨rfl, rfl⟩
  · obtain ⟨hq, rfl⟩ := hq
    subst hq
    rcases hS with hS | hS
    · nomatch hS
    · cases hS
      refine kx_X.catch (hpc := 12) (i := 5) (lv' := [(0, _), (1, _), (2, _), (3, _), (4, _)]) ⟨⟨by decide, by decide⟩, by decide, "java/lang/IllegalArgumentException", (kx_t 187 (by decide +kernel) rfl), by decide +kernel, by decide +kernel, Or.inl ⟨rfl, rfl⟩⟩ (Or.inr ⟨rfl, d_W_rule_12⟩) (by decide) rfl ?_
      refine kx_iconst (pc := 14) (x := 1) d_W_rule_14 (by decide) ?_
      exact kx_iret rfl d_W_rule_15 ⟨rfl, rfl⟩
set_option maxHeartbeats 4000000 in
set_option maxRecDepth 100000 in
theorem k_W_advance {E : kx_E} {n : Nat} {a b S2 : kW} {S1 : Option Value ⊕ String} {x1 : Int32} {x2 : Int32} (hk : kx_V E i_EK_advance 8 5 30 (fun r _ h' => r = S1 ∧ h' = wd (wx S2 b)) 5 30 0 (lv_args 0 [.ref 0, .int x1, .int x2]) [] n (wd (wx a b))) (hS : (∃ x, S1 = Sum.inl (some (.int x))) ∨ S1 = Sum.inr "java/lang/IllegalArgumentException") : kx_V E i_W_advance 9 5 30 (fun r _ h' => r = Sum.inl (some (.int (w_c [("java/lang/IllegalArgumentException", 1)] S1))) ∧ h' = wd (wx S2 (w_b S1 b))) 5 30 0 (lv_args 0 [.ref 0, .int x1, .int x2, .ref 78]) [] n (wd (wx a b)) := by
  refine kx_aload_n (pc := 0) d_W_advance_0 rfl ?_
  refine kx_iconst (pc := 1) (x := 0) d_W_advance_1 (by decide) ?_
  refine kx_aload_n (pc := 2) d_W_advance_2 rfl ?_
  refine kx_iload_n (pc := 3) d_W_advance_3 rfl ?_
  refine kx_iload_n (pc := 4) d_W_advance_4 rfl ?_
  refine kx_invV (pc := 5) (as := [.int _, .int _]) (st := [.int 0, .ref 78]) (k := 0) (j := 0) d_W_advance_5 wv_W_23 (wd_o rfl) hk rfl rfl (Nat.le_of_ble_eq_true rfl) (by decide) (Nat.le_of_ble_eq_true rfl) (fun rv n' h' hq => ?_) (fun X n' h' hq => ?_)
  · obtain ⟨hq, rfl⟩ := hq
    subst hq
    rcases hS with ⟨x, hS⟩ | hS
    rotate_left
    · nomatch hS
    cases hS
    refine kx_i2l (pc := 8) d_W_advance_8 ?_
    refine km_last (pc := 9) d_W_advance_9 (by decide) rfl ⟨rfl, by decide, by decide⟩ ?_
    refine kx_goto (pc := 10) (tgt := 17) d_W_advance_10 (by decide) ?_
    refine kx_iconst (pc := 17) (x := 0) d_W_advance_17 (by decide) ?_
    exact kx_iret rfl d_W_advance_18 ⟨rfl, rfl⟩
  · obtain ⟨hq, rfl⟩ := hq
    subst hq
    rcases hS with ⟨x, hS⟩ | hS
    · nomatch hS
    · cases hS
      refine kx_X.catch (hpc := 13) (i := 4) (lv' := [(0, _), (1, _), (2, _), (3, _)]) ⟨⟨by decide, by decide⟩, by decide, "java/lang/IllegalArgumentException", (kx_t 187 (by decide +kernel) rfl), by decide +kernel, by decide +kernel, Or.inl ⟨rfl, rfl⟩⟩ (Or.inr ⟨rfl, d_W_advance_13⟩) (by decide) rfl ?_
      refine kx_iconst (pc := 15) (x := 1) d_W_advance_15 (by decide) ?_
      exact kx_iret rfl d_W_advance_16 ⟨rfl, rfl⟩
set_option maxHeartbeats 4000000 in
set_option maxRecDepth 100000 in
theorem k_W_save {E : kx_E} {n : Nat} {a b S2 : kW} {S1 : Option Value ⊕ String} {x1 : Int32} (hk : kx_V E i_EK_save 8 5 30 (fun r _ h' => r = S1 ∧ h' = wd (wx S2 b)) 5 30 0 (lv_args 0 [.ref 0, .int x1]) [] n (wd (wx a b))) (hS : (∃ x, S1 = Sum.inl (some (.int x))) ∨ S1 = Sum.inr "java/lang/IllegalArgumentException") : kx_V E i_W_save 9 5 30 (fun r _ h' => r = Sum.inl (some (.int (w_c [("java/lang/IllegalArgumentException", 1)] S1))) ∧ h' = wd (wx S2 (w_b S1 b))) 5 30 0 (lv_args 0 [.ref 0, .int x1, .ref 78]) [] n (wd (wx a b)) := by
  refine kx_aload_n (pc := 0) d_W_save_0 rfl ?_
  refine kx_iconst (pc := 1) (x := 0) d_W_save_1 (by decide) ?_
  refine kx_aload_n (pc := 2) d_W_save_2 rfl ?_
  refine kx_iload_n (pc := 3) d_W_save_3 rfl ?_
  refine kx_invV (pc := 4) (as := [.int _]) (st := [.int 0, .ref 78]) (k := 0) (j := 0) d_W_save_4 wv_W_27 (wd_o rfl) hk rfl rfl (Nat.le_of_ble_eq_true rfl) (by decide) (Nat.le_of_ble_eq_true rfl) (fun rv n' h' hq => ?_) (fun X n' h' hq => ?_)
  · obtain ⟨hq, rfl⟩ := hq
    subst hq
    rcases hS with ⟨x, hS⟩ | hS
    rotate_left
    · nomatch hS
    cases hS
    refine kx_i2l (pc := 7) d_W_save_7 ?_
    refine km_last (pc := 8) d_W_save_8 (by decide) rfl ⟨rfl, by decide, by decide⟩ ?_
    refine kx_goto (pc := 9) (tgt := 15) d_W_save_9 (by decide) ?_
    refine kx_iconst (pc := 15) (x := 0) d_W_save_15 (by decide) ?_
    exact kx_iret rfl d_W_save_16 ⟨rfl, rfl⟩
  · obtain ⟨hq, rfl⟩ := hq
    subst hq
    rcases hS with ⟨x, hS⟩ | hS
    · nomatch hS
    · cases hS
      refine kx_X.catch (hpc := 12) (i := 3) (lv' := [(0, _), (1, _), (2, _)]) ⟨⟨by decide, by decide⟩, by decide, "java/lang/IllegalArgumentException", (kx_t 187 (by decide +kernel) rfl), by decide +kernel, by decide +kernel, Or.inl ⟨rfl, rfl⟩⟩ (Or.inl ⟨rfl, ⟨3, by decide⟩, rfl, d_W_save_12⟩) (by decide) rfl ?_
      refine kx_iconst (pc := 13) (x := 1) d_W_save_13 (by decide) ?_
      exact kx_iret rfl d_W_save_14 ⟨rfl, rfl⟩
set_option maxHeartbeats 4000000 in
set_option maxRecDepth 100000 in
theorem k_W_cell {E : kx_E} {n : Nat} {a b S2 : kW} {S1 : Option Value ⊕ String} {x1 : Int32} {x2 : Int32} (hk : kx_V E i_EK_cell 8 5 30 (fun r _ h' => r = S1 ∧ h' = wd (wx S2 b)) 5 30 0 (lv_args 0 [.ref 0, .int x1, .int x2]) [] n (wd (wx a b))) (hS : (∃ x, S1 = Sum.inl (some (.long x))) ∨ S1 = Sum.inr "java/lang/IllegalArgumentException" ∨ S1 = Sum.inr "java/lang/IndexOutOfBoundsException") : kx_V E i_W_cell 9 5 30 (fun r _ h' => r = Sum.inl (some (.int (w_c [("java/lang/IllegalArgumentException", 1), ("java/lang/IndexOutOfBoundsException", 2)] S1))) ∧ h' = wd (wx S2 (w_b S1 b))) 5 30 0 (lv_args 0 [.ref 0, .int x1, .int x2, .ref 78]) [] n (wd (wx a b)) := by
  refine kx_aload_n (pc := 0) d_W_cell_0 rfl ?_
  refine kx_iconst (pc := 1) (x := 0) d_W_cell_1 (by decide) ?_
  refine kx_aload_n (pc := 2) d_W_cell_2 rfl ?_
  refine kx_iload_n (pc := 3) d_W_cell_3 rfl ?_
  refine kx_iload_n (pc := 4) d_W_cell_4 rfl ?_
  refine kx_invV (pc := 5) (as := [.int _, .int _]) (st := [.int 0, .ref 78]) (k := 0) (j := 0) d_W_cell_5 wv_W_31 (wd_o rfl) hk rfl rfl (Nat.le_of_ble_eq_true rfl) (by decide) (Nat.le_of_ble_eq_true rfl) (fun rv n' h' hq => ?_) (fun X n' h' hq => ?_)
  · obtain ⟨hq, rfl⟩ := hq
    subst hq
    rcases hS with ⟨x, hS⟩ | hS | hS
    rotate_left
    · nomatch hS
    · nomatch hS
    cases hS
    refine km_last (pc := 8) d_W_cell_8 (by decide) rfl ⟨rfl, by decide, by decide⟩ ?_
    refine kx_goto (pc := 9) (tgt := 20) d_W_cell_9 (by decide) ?_
    refine kx_iconst (pc := 20) (x := 0) d_W_cell_20 (by decide) ?_
    exact kx_iret rfl d_W_cell_21 ⟨rfl, rfl⟩
  · obtain ⟨hq, rfl⟩ := hq
    subst hq
    rcases hS with ⟨x, hS⟩ | hS | hS
    · nomatch hS
    · cases hS
      refine kx_X.catch (hpc := 12) (i := 4) (lv' := [(0, _), (1, _), (2, _), (3, _)]) ⟨⟨by decide, by decide⟩, by decide, "java/lang/IllegalArgumentException", (kx_t 187 (by decide +kernel) rfl), by decide +kernel, by decide +kernel, Or.inl ⟨rfl, rfl⟩⟩ (Or.inr ⟨rfl, d_W_cell_12⟩) (by decide) rfl ?_
      refine kx_iconst (pc := 14) (x := 1) d_W_cell_14 (by decide) ?_
      exact kx_iret rfl d_W_cell_15 ⟨rfl, rfl⟩
    · cases hS
      refine kx_X.catch (hpc := 16) (i := 4) (lv' := [(0, _), (1, _), (2, _), (3, _)]) ⟨⟨by decide, by decide⟩, by decide, "java/lang/IllegalArgumentException", (kx_t 187 (by decide +kernel) rfl), by decide +kernel, by decide +kernel, Or.inr ⟨by decide +kernel, ⟨⟨by decide, by decide⟩, by decide, "java/lang/IndexOutOfBoundsException", (kx_t 189 (by decide +kernel) rfl), by decide +kernel, by decide +kernel, Or.inl ⟨rfl, rfl⟩⟩⟩⟩ (Or.inr ⟨rfl, d_W_cell_16⟩) (by decide) rfl ?_
      refine kx_iconst (pc := 18) (x := 2) d_W_cell_18 (by decide) ?_
      exact kx_iret rfl d_W_cell_19 ⟨rfl, rfl⟩
set_option maxHeartbeats 4000000 in
set_option maxRecDepth 100000 in
theorem k_W_filter {E : kx_E} {n : Nat} {a b S2 : kW} {S1 : Option Value ⊕ String} {x1 : Int32} {x2 : Int32} {x3 : Int32} (hk : kx_V E i_EK_filter 8 5 30 (fun r _ h' => r = S1 ∧ h' = wd (wx S2 b)) 5 30 0 (lv_args 0 [.ref 0, .int x1, .int x2, .int x3]) [] n (wd (wx a b))) (hS : (S1 = Sum.inl none) ∨ S1 = Sum.inr "java/lang/IllegalArgumentException") : kx_V E i_W_filter 9 5 30 (fun r _ h' => r = Sum.inl (some (.int (w_c [("java/lang/IllegalArgumentException", 1)] S1))) ∧ h' = wd (wx S2 (w_b S1 b))) 5 30 0 (lv_args 0 [.ref 0, .int x1, .int x2, .int x3]) [] n (wd (wx a b)) := by
  refine kx_aload_n (pc := 0) d_W_filter_0 rfl ?_
  refine kx_iload_n (pc := 1) d_W_filter_1 rfl ?_
  refine kx_iload_n (pc := 2) d_W_filter_2 rfl ?_
  refine kx_iload_n (pc := 3) d_W_filter_3 rfl ?_
  refine kx_invV (pc := 4) (as := [.int _, .int _, .int _]) (st := []) (k := 0) (j := 0) d_W_filter_4 wv_W_35 (wd_o rfl) hk rfl rfl (Nat.le_of_ble_eq_true rfl) (by decide) (Nat.le_of_ble_eq_true rfl) (fun rv n' h' hq => ?_) (fun X n' h' hq => ?_)
  · obtain ⟨hq, rfl⟩ := hq
    subst hq
    rcases hS with hS | hS
    rotate_left
    · nomatch hS
    cases hS
    refine kx_goto (pc := 7) (tgt := 14) d_W_filter_7 (by decide) ?_
    refine kx_iconst (pc := 14) (x := 0) d_W_filter_14 (by decide) ?_
    exact kx_iret rfl d_W_filter_15 ⟨rfl, rfl⟩
  · obtain ⟨hq, rfl⟩ := hq
    subst hq
    rcases hS with hS | hS
    · nomatch hS
    · cases hS
      refine kx_X.catch (hpc := 10) (i := 4) (lv' := [(0, _), (1, _), (2, _), (3, _)]) ⟨⟨by decide, by decide⟩, by decide, "java/lang/IllegalArgumentException", (kx_t 187 (by decide +kernel) rfl), by decide +kernel, by decide +kernel, Or.inl ⟨rfl, rfl⟩⟩ (Or.inr ⟨rfl, d_W_filter_10⟩) (by decide) rfl ?_
      refine kx_iconst (pc := 12) (x := 1) d_W_filter_12 (by decide) ?_
      exact kx_iret rfl d_W_filter_13 ⟨rfl, rfl⟩
set_option maxHeartbeats 4000000 in
set_option maxRecDepth 100000 in
theorem k_W_next {E : kx_E} {n : Nat} {a b S2 : kW} {S1 : Option Value ⊕ String} {x1 : Int32} (hk : kx_V E i_EK_next 8 5 30 (fun r _ h' => r = S1 ∧ h' = wd (wx S2 b)) 5 30 0 (lv_args 0 [.ref 0, .int x1]) [] n (wd (wx a b))) (hS : (∃ x, S1 = Sum.inl (some (.int x))) ∨ S1 = Sum.inr "java/lang/IllegalArgumentException") : kx_V E i_W_next 9 5 30 (fun r _ h' => r = Sum.inl (some (.int (w_c [("java/lang/IllegalArgumentException", 1)] S1))) ∧ h' = wd (wx S2 (w_b S1 b))) 5 30 0 (lv_args 0 [.ref 0, .int x1, .ref 78]) [] n (wd (wx a b)) := by
  refine kx_aload_n (pc := 0) d_W_next_0 rfl ?_
  refine kx_iconst (pc := 1) (x := 0) d_W_next_1 (by decide) ?_
  refine kx_aload_n (pc := 2) d_W_next_2 rfl ?_
  refine kx_iload_n (pc := 3) d_W_next_3 rfl ?_
  refine kx_invV (pc := 4) (as := [.int _]) (st := [.int 0, .ref 78]) (k := 0) (j := 0) d_W_next_4 wv_W_39 (wd_o rfl) hk rfl rfl (Nat.le_of_ble_eq_true rfl) (by decide) (Nat.le_of_ble_eq_true rfl) (fun rv n' h' hq => ?_) (fun X n' h' hq => ?_)
  · obtain ⟨hq, rfl⟩ := hq
    subst hq
    rcases hS with ⟨x, hS⟩ | hS
    rotate_left
    · nomatch hS
    cases hS
    refine kx_i2l (pc := 7) d_W_next_7 ?_
    refine km_last (pc := 8) d_W_next_8 (by decide) rfl ⟨rfl, by decide, by decide⟩ ?_
    refine kx_goto (pc := 9) (tgt := 15) d_W_next_9 (by decide) ?_
    refine kx_iconst (pc := 15) (x := 0) d_W_next_15 (by decide) ?_
    exact kx_iret rfl d_W_next_16 ⟨rfl, rfl⟩
  · obtain ⟨hq, rfl⟩ := hq
    subst hq
    rcases hS with ⟨x, hS⟩ | hS
    · nomatch hS
    · cases hS
      refine kx_X.catch (hpc := 12) (i := 3) (lv' := [(0, _), (1, _), (2, _)]) ⟨⟨by decide, by decide⟩, by decide, "java/lang/IllegalArgumentException", (kx_t 187 (by decide +kernel) rfl), by decide +kernel, by decide +kernel, Or.inl ⟨rfl, rfl⟩⟩ (Or.inl ⟨rfl, ⟨3, by decide⟩, rfl, d_W_next_12⟩) (by decide) rfl ?_
      refine kx_iconst (pc := 13) (x := 1) d_W_next_13 (by decide) ?_
      exact kx_iret rfl d_W_next_14 ⟨rfl, rfl⟩
set_option maxHeartbeats 4000000 in
set_option maxRecDepth 100000 in
theorem k_W_acknowledge {E : kx_E} {n : Nat} {a b S2 : kW} {S1 : Option Value ⊕ String} {x1 : Int32} {x2 : Int32} (hk : kx_V E i_EK_acknowledge 8 5 30 (fun r _ h' => r = S1 ∧ h' = wd (wx S2 b)) 5 30 0 (lv_args 0 [.ref 0, .int x1, .int x2]) [] n (wd (wx a b))) (hS : (∃ x, S1 = Sum.inl (some (.int x))) ∨ S1 = Sum.inr "java/lang/IllegalArgumentException" ∨ S1 = Sum.inr "java/lang/IndexOutOfBoundsException") : kx_V E i_W_acknowledge 9 5 30 (fun r _ h' => r = Sum.inl (some (.int (w_c [("java/lang/IllegalArgumentException", 1), ("java/lang/IndexOutOfBoundsException", 2)] S1))) ∧ h' = wd (wx S2 (w_b S1 b))) 5 30 0 (lv_args 0 [.ref 0, .int x1, .int x2, .ref 78]) [] n (wd (wx a b)) := by
  refine kx_aload_n (pc := 0) d_W_acknowledge_0 rfl ?_
  refine kx_iconst (pc := 1) (x := 0) d_W_acknowledge_1 (by decide) ?_
  refine kx_aload_n (pc := 2) d_W_acknowledge_2 rfl ?_
  refine kx_iload_n (pc := 3) d_W_acknowledge_3 rfl ?_
  refine kx_iload_n (pc := 4) d_W_acknowledge_4 rfl ?_
  refine kx_invV (pc := 5) (as := [.int _, .int _]) (st := [.int 0, .ref 78]) (k := 0) (j := 0) d_W_acknowledge_5 wv_W_42 (wd_o rfl) hk rfl rfl (Nat.le_of_ble_eq_true rfl) (by decide) (Nat.le_of_ble_eq_true rfl) (fun rv n' h' hq => ?_) (fun X n' h' hq => ?_)
  · obtain ⟨hq, rfl⟩ := hq
    subst hq
    rcases hS with ⟨x, hS⟩ | hS | hS
    rotate_left
    · nomatch hS
    · nomatch hS
    cases hS
    refine kx_i2l (pc := 8) d_W_acknowledge_8 ?_
    refine km_last (pc := 9) d_W_acknowledge_9 (by decide) rfl ⟨rfl, by decide, by decide⟩ ?_
    refine kx_goto (pc := 10) (tgt := 21) d_W_acknowledge_10 (by decide) ?_
    refine kx_iconst (pc := 21) (x := 0) d_W_acknowledge_21 (by decide) ?_
    exact kx_iret rfl d_W_acknowledge_22 ⟨rfl, rfl⟩
  · obtain ⟨hq, rfl⟩ := hq
    subst hq
    rcases hS with ⟨x, hS⟩ | hS | hS
    · nomatch hS
    · cases hS
      refine kx_X.catch (hpc := 13) (i := 4) (lv' := [(0, _), (1, _), (2, _), (3, _)]) ⟨⟨by decide, by decide⟩, by decide, "java/lang/IllegalArgumentException", (kx_t 187 (by decide +kernel) rfl), by decide +kernel, by decide +kernel, Or.inl ⟨rfl, rfl⟩⟩ (Or.inr ⟨rfl, d_W_acknowledge_13⟩) (by decide) rfl ?_
      refine kx_iconst (pc := 15) (x := 1) d_W_acknowledge_15 (by decide) ?_
      exact kx_iret rfl d_W_acknowledge_16 ⟨rfl, rfl⟩
    · cases hS
      refine kx_X.catch (hpc := 17) (i := 4) (lv' := [(0, _), (1, _), (2, _), (3, _)]) ⟨⟨by decide, by decide⟩, by decide, "java/lang/IllegalArgumentException", (kx_t 187 (by decide +kernel) rfl), by decide +kernel, by decide +kernel, Or.inr ⟨by decide +kernel, ⟨⟨by decide, by decide⟩, by decide, "java/lang/IndexOutOfBoundsException", (kx_t 189 (by decide +kernel) rfl), by decide +kernel, by decide +kernel, Or.inl ⟨rfl, rfl⟩⟩⟩⟩ (Or.inr ⟨rfl, d_W_acknowledge_17⟩) (by decide) rfl ?_
      refine kx_iconst (pc := 19) (x := 2) d_W_acknowledge_19 (by decide) ?_
      exact kx_iret rfl d_W_acknowledge_20 ⟨rfl, rfl⟩
set_option maxHeartbeats 4000000 in
set_option maxRecDepth 100000 in
theorem k_W_event {E : kx_E} {n : Nat} {a b S2 : kW} {S1 : Option Value ⊕ String} {x1 : Int32} {x2 : Int32} (hk : kx_V E i_EK_event 8 5 30 (fun r _ h' => r = S1 ∧ h' = wd (wx S2 b)) 5 30 0 (lv_args 0 [.ref 0, .int x1, .int x2]) [] n (wd (wx a b))) (hS : (∃ x, S1 = Sum.inl (some (.int x))) ∨ S1 = Sum.inr "java/lang/IllegalArgumentException" ∨ S1 = Sum.inr "java/lang/IndexOutOfBoundsException") : kx_V E i_W_event 9 5 30 (fun r _ h' => r = Sum.inl (some (.int (w_c [("java/lang/IllegalArgumentException", 1), ("java/lang/IndexOutOfBoundsException", 2)] S1))) ∧ h' = wd (wx S2 (w_b S1 b))) 5 30 0 (lv_args 0 [.ref 0, .int x1, .int x2, .ref 78]) [] n (wd (wx a b)) := by
  refine kx_aload_n (pc := 0) d_W_event_0 rfl ?_
  refine kx_iconst (pc := 1) (x := 0) d_W_event_1 (by decide) ?_
  refine kx_aload_n (pc := 2) d_W_event_2 rfl ?_
  refine kx_iload_n (pc := 3) d_W_event_3 rfl ?_
  refine kx_iload_n (pc := 4) d_W_event_4 rfl ?_
  refine kx_invV (pc := 5) (as := [.int _, .int _]) (st := [.int 0, .ref 78]) (k := 0) (j := 0) d_W_event_5 wv_W_45 (wd_o rfl) hk rfl rfl (Nat.le_of_ble_eq_true rfl) (by decide) (Nat.le_of_ble_eq_true rfl) (fun rv n' h' hq => ?_) (fun X n' h' hq => ?_)
  · obtain ⟨hq, rfl⟩ := hq
    subst hq
    rcases hS with ⟨x, hS⟩ | hS | hS
    rotate_left
    · nomatch hS
    · nomatch hS
    cases hS
    refine kx_i2l (pc := 8) d_W_event_8 ?_
    refine km_last (pc := 9) d_W_event_9 (by decide) rfl ⟨rfl, by decide, by decide⟩ ?_
    refine kx_goto (pc := 10) (tgt := 21) d_W_event_10 (by decide) ?_
    refine kx_iconst (pc := 21) (x := 0) d_W_event_21 (by decide) ?_
    exact kx_iret rfl d_W_event_22 ⟨rfl, rfl⟩
  · obtain ⟨hq, rfl⟩ := hq
    subst hq
    rcases hS with ⟨x, hS⟩ | hS | hS
    · nomatch hS
    · cases hS
      refine kx_X.catch (hpc := 13) (i := 4) (lv' := [(0, _), (1, _), (2, _), (3, _)]) ⟨⟨by decide, by decide⟩, by decide, "java/lang/IllegalArgumentException", (kx_t 187 (by decide +kernel) rfl), by decide +kernel, by decide +kernel, Or.inl ⟨rfl, rfl⟩⟩ (Or.inr ⟨rfl, d_W_event_13⟩) (by decide) rfl ?_
      refine kx_iconst (pc := 15) (x := 1) d_W_event_15 (by decide) ?_
      exact kx_iret rfl d_W_event_16 ⟨rfl, rfl⟩
    · cases hS
      refine kx_X.catch (hpc := 17) (i := 4) (lv' := [(0, _), (1, _), (2, _), (3, _)]) ⟨⟨by decide, by decide⟩, by decide, "java/lang/IllegalArgumentException", (kx_t 187 (by decide +kernel) rfl), by decide +kernel, by decide +kernel, Or.inr ⟨by decide +kernel, ⟨⟨by decide, by decide⟩, by decide, "java/lang/IndexOutOfBoundsException", (kx_t 189 (by decide +kernel) rfl), by decide +kernel, by decide +kernel, Or.inl ⟨rfl, rfl⟩⟩⟩⟩ (Or.inr ⟨rfl, d_W_event_17⟩) (by decide) rfl ?_
      refine kx_iconst (pc := 19) (x := 2) d_W_event_19 (by decide) ?_
      exact kx_iret rfl d_W_event_20 ⟨rfl, rfl⟩
set_option maxHeartbeats 4000000 in
set_option maxRecDepth 100000 in
theorem k_W_value {E : kx_E} {n : Nat} {a b S2 : kW} {S1 : Option Value ⊕ String} {x1 : Int32} (hk : kx_V E i_EK_value 8 5 30 (fun r _ h' => r = S1 ∧ h' = wd (wx S2 b)) 5 30 0 (lv_args 0 [.ref 0, .int x1]) [] n (wd (wx a b))) (hS : (∃ x, S1 = Sum.inl (some (.long x))) ∨ S1 = Sum.inr "java/lang/IndexOutOfBoundsException") : kx_V E i_W_value 9 5 30 (fun r _ h' => r = Sum.inl (some (.int (w_c [("java/lang/IndexOutOfBoundsException", 1)] S1))) ∧ h' = wd (wx S2 (w_b S1 b))) 5 30 0 (lv_args 0 [.ref 0, .int x1, .ref 78]) [] n (wd (wx a b)) := by
  refine kx_aload_n (pc := 0) d_W_value_0 rfl ?_
  refine kx_iconst (pc := 1) (x := 0) d_W_value_1 (by decide) ?_
  refine kx_aload_n (pc := 2) d_W_value_2 rfl ?_
  refine kx_iload_n (pc := 3) d_W_value_3 rfl ?_
  refine kx_invV (pc := 4) (as := [.int _]) (st := [.int 0, .ref 78]) (k := 0) (j := 0) d_W_value_4 wv_W_48 (wd_o rfl) hk rfl rfl (Nat.le_of_ble_eq_true rfl) (by decide) (Nat.le_of_ble_eq_true rfl) (fun rv n' h' hq => ?_) (fun X n' h' hq => ?_)
  · obtain ⟨hq, rfl⟩ := hq
    subst hq
    rcases hS with ⟨x, hS⟩ | hS
    rotate_left
    · nomatch hS
    cases hS
    refine km_last (pc := 7) d_W_value_7 (by decide) rfl ⟨rfl, by decide, by decide⟩ ?_
    refine kx_goto (pc := 8) (tgt := 14) d_W_value_8 (by decide) ?_
    refine kx_iconst (pc := 14) (x := 0) d_W_value_14 (by decide) ?_
    exact kx_iret rfl d_W_value_15 ⟨rfl, rfl⟩
  · obtain ⟨hq, rfl⟩ := hq
    subst hq
    rcases hS with ⟨x, hS⟩ | hS
    · nomatch hS
    · cases hS
      refine kx_X.catch (hpc := 11) (i := 3) (lv' := [(0, _), (1, _), (2, _)]) ⟨⟨by decide, by decide⟩, by decide, "java/lang/IndexOutOfBoundsException", (kx_t 189 (by decide +kernel) rfl), by decide +kernel, by decide +kernel, Or.inl ⟨rfl, rfl⟩⟩ (Or.inl ⟨rfl, ⟨3, by decide⟩, rfl, d_W_value_11⟩) (by decide) rfl ?_
      refine kx_iconst (pc := 12) (x := 1) d_W_value_12 (by decide) ?_
      exact kx_iret rfl d_W_value_13 ⟨rfl, rfl⟩
set_option maxHeartbeats 4000000 in
set_option maxRecDepth 100000 in
theorem k_W_find {E : kx_E} {n : Nat} {a b S2 : kW} {S1 : Option Value ⊕ String} {x1 : Int32} {x2 : Int32} (hk : kx_V E i_EK_find 8 5 30 (fun r _ h' => r = S1 ∧ h' = wd (wx S2 b)) 5 30 0 (lv_args 0 [.ref 0, .int x1, .int x2]) [] n (wd (wx a b))) (hS : (∃ x, S1 = Sum.inl (some (.int x))) ∨ S1 = Sum.inr "java/lang/IllegalArgumentException" ∨ S1 = Sum.inr "java/lang/IndexOutOfBoundsException") : kx_V E i_W_find 9 5 30 (fun r _ h' => r = Sum.inl (some (.int (w_c [("java/lang/IllegalArgumentException", 1), ("java/lang/IndexOutOfBoundsException", 2)] S1))) ∧ h' = wd (wx S2 (w_b S1 b))) 5 30 0 (lv_args 0 [.ref 0, .int x1, .int x2, .ref 78]) [] n (wd (wx a b)) := by
  refine kx_aload_n (pc := 0) d_W_find_0 rfl ?_
  refine kx_iconst (pc := 1) (x := 0) d_W_find_1 (by decide) ?_
  refine kx_aload_n (pc := 2) d_W_find_2 rfl ?_
  refine kx_iload_n (pc := 3) d_W_find_3 rfl ?_
  refine kx_iload_n (pc := 4) d_W_find_4 rfl ?_
  refine kx_invV (pc := 5) (as := [.int _, .int _]) (st := [.int 0, .ref 78]) (k := 0) (j := 0) d_W_find_5 wv_W_52 (wd_o rfl) hk rfl rfl (Nat.le_of_ble_eq_true rfl) (by decide) (Nat.le_of_ble_eq_true rfl) (fun rv n' h' hq => ?_) (fun X n' h' hq => ?_)
  · obtain ⟨hq, rfl⟩ := hq
    subst hq
    rcases hS with ⟨x, hS⟩ | hS | hS
    rotate_left
    · nomatch hS
    · nomatch hS
    cases hS
    refine kx_i2l (pc := 8) d_W_find_8 ?_
    refine km_last (pc := 9) d_W_find_9 (by decide) rfl ⟨rfl, by decide, by decide⟩ ?_
    refine kx_goto (pc := 10) (tgt := 21) d_W_find_10 (by decide) ?_
    refine kx_iconst (pc := 21) (x := 0) d_W_find_21 (by decide) ?_
    exact kx_iret rfl d_W_find_22 ⟨rfl, rfl⟩
  · obtain ⟨hq, rfl⟩ := hq
    subst hq
    rcases hS with ⟨x, hS⟩ | hS | hS
    · nomatch hS
    · cases hS
      refine kx_X.catch (hpc := 13) (i := 4) (lv' := [(0, _), (1, _), (2, _), (3, _)]) ⟨⟨by decide, by decide⟩, by decide, "java/lang/IllegalArgumentException", (kx_t 187 (by decide +kernel) rfl), by decide +kernel, by decide +kernel, Or.inl ⟨rfl, rfl⟩⟩ (Or.inr ⟨rfl, d_W_find_13⟩) (by decide) rfl ?_
      refine kx_iconst (pc := 15) (x := 1) d_W_find_15 (by decide) ?_
      exact kx_iret rfl d_W_find_16 ⟨rfl, rfl⟩
    · cases hS
      refine kx_X.catch (hpc := 17) (i := 4) (lv' := [(0, _), (1, _), (2, _), (3, _)]) ⟨⟨by decide, by decide⟩, by decide, "java/lang/IllegalArgumentException", (kx_t 187 (by decide +kernel) rfl), by decide +kernel, by decide +kernel, Or.inr ⟨by decide +kernel, ⟨⟨by decide, by decide⟩, by decide, "java/lang/IndexOutOfBoundsException", (kx_t 189 (by decide +kernel) rfl), by decide +kernel, by decide +kernel, Or.inl ⟨rfl, rfl⟩⟩⟩⟩ (Or.inr ⟨rfl, d_W_find_17⟩) (by decide) rfl ?_
      refine kx_iconst (pc := 19) (x := 2) d_W_find_19 (by decide) ?_
      exact kx_iret rfl d_W_find_20 ⟨rfl, rfl⟩
set_option maxHeartbeats 4000000 in
set_option maxRecDepth 100000 in
theorem k_W_count {E : kx_E} {n : Nat} {a b S2 : kW} {S1 : Option Value ⊕ String} {x1 : Int32} {x2 : Int32} (hk : kx_V E i_EK_count 8 5 30 (fun r _ h' => r = S1 ∧ h' = wd (wx S2 b)) 5 30 0 (lv_args 0 [.ref 0, .int x1, .int x2]) [] n (wd (wx a b))) (hS : (∃ x, S1 = Sum.inl (some (.int x))) ∨ S1 = Sum.inr "java/lang/IllegalArgumentException") : kx_V E i_W_count 9 5 30 (fun r _ h' => r = Sum.inl (some (.int (w_c [("java/lang/IllegalArgumentException", 1)] S1))) ∧ h' = wd (wx S2 (w_b S1 b))) 5 30 0 (lv_args 0 [.ref 0, .int x1, .int x2, .ref 78]) [] n (wd (wx a b)) := by
  refine kx_aload_n (pc := 0) d_W_count_0 rfl ?_
  refine kx_iconst (pc := 1) (x := 0) d_W_count_1 (by decide) ?_
  refine kx_aload_n (pc := 2) d_W_count_2 rfl ?_
  refine kx_iload_n (pc := 3) d_W_count_3 rfl ?_
  refine kx_iload_n (pc := 4) d_W_count_4 rfl ?_
  refine kx_invV (pc := 5) (as := [.int _, .int _]) (st := [.int 0, .ref 78]) (k := 0) (j := 0) d_W_count_5 wv_W_55 (wd_o rfl) hk rfl rfl (Nat.le_of_ble_eq_true rfl) (by decide) (Nat.le_of_ble_eq_true rfl) (fun rv n' h' hq => ?_) (fun X n' h' hq => ?_)
  · obtain ⟨hq, rfl⟩ := hq
    subst hq
    rcases hS with ⟨x, hS⟩ | hS
    rotate_left
    · nomatch hS
    cases hS
    refine kx_i2l (pc := 8) d_W_count_8 ?_
    refine km_last (pc := 9) d_W_count_9 (by decide) rfl ⟨rfl, by decide, by decide⟩ ?_
    refine kx_goto (pc := 10) (tgt := 17) d_W_count_10 (by decide) ?_
    refine kx_iconst (pc := 17) (x := 0) d_W_count_17 (by decide) ?_
    exact kx_iret rfl d_W_count_18 ⟨rfl, rfl⟩
  · obtain ⟨hq, rfl⟩ := hq
    subst hq
    rcases hS with ⟨x, hS⟩ | hS
    · nomatch hS
    · cases hS
      refine kx_X.catch (hpc := 13) (i := 4) (lv' := [(0, _), (1, _), (2, _), (3, _)]) ⟨⟨by decide, by decide⟩, by decide, "java/lang/IllegalArgumentException", (kx_t 187 (by decide +kernel) rfl), by decide +kernel, by decide +kernel, Or.inl ⟨rfl, rfl⟩⟩ (Or.inr ⟨rfl, d_W_count_13⟩) (by decide) rfl ?_
      refine kx_iconst (pc := 15) (x := 1) d_W_count_15 (by decide) ?_
      exact kx_iret rfl d_W_count_16 ⟨rfl, rfl⟩
end
