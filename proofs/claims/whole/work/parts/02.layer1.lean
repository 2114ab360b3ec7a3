abbrev kx_c : Type := (Nat × (Nat → Int32)) ⊕ (Nat × (Nat → Int64)) ⊕ (Nat × Nat × (Nat → Option Nat)) ⊕ (Nat × List Value)
abbrev kx_ci (n : Nat) (f : Nat → Int32) : kx_c := Sum.inl (n, f)
abbrev kx_cl (n : Nat) (f : Nat → Int64) : kx_c := Sum.inr (Sum.inl (n, f))
abbrev kx_cq (t n : Nat) (f : Nat → Option Nat) : kx_c := Sum.inr (Sum.inr (Sum.inl (t, n, f)))
abbrev kx_co (ci : Nat) (fs : List Value) : kx_c := Sum.inr (Sum.inr (Sum.inr (ci, fs)))
abbrev kx_H : Type := Nat → Option kx_c
def kx_set (h : kx_H) (i : Nat) (c : kx_c) : kx_H := fun j => if j = i then some c else h j
theorem kx_set_s {h : kx_H} {i : Nat} {c : kx_c} : kx_set h i c i = some c := by simp [kx_set]
theorem kx_set_n {h : kx_H} {i j : Nat} {c : kx_c} (hj : j ≠ i) : kx_set h i c j = h j := by simp [kx_set, hj]
abbrev kx_E : Type := Launch × State × va_G × (Nat → Nat)
def kx_B (E : kx_E) : Nat := E.2.1.heap.size
def kx_v (B : Nat) : Value → Value
  | .int x => .int x
  | .long x => .long x
  | .float x => .float x
  | .double x => .double x
  | .null => .null
  | .ref i => .ref (B + i)
  | .retAddr k => .ref k
def kx_rf (B : Nat) : Option Nat → Value
  | none => .null
  | some i => .ref (B + i)
theorem kx_v_cat (B : Nat) (v : Value) : (kx_v B v).category = v.category := by cases v <;> rfl
abbrev kx_s (E : kx_E) (st : List Value) : List Value := st.map (kx_v (kx_B E))
abbrev kx_l (E : kx_E) (lv : List (Nat × Value)) : List (Nat × Value) := lv.map (fun q => (q.1, kx_v (kx_B E) q.2))
theorem kx_s_cat (E : kx_E) (st : List Value) : ((kx_s E st).map fun v => v.category).sum = (st.map fun v => v.category).sum := by
  show ((st.map (kx_v (kx_B E))).map fun v => v.category).sum = _
  rw [List.map_map]
  congr 1
  apply List.map_congr_left
  intro v _
  exact kx_v_cat _ v
def kx_lk : List (Nat × Value) → Nat → Option Value
  | [], _ => none
  | q :: l, i => match Nat.beq q.1 i with
    | true => some q.2
    | false => kx_lk l i
theorem kx_lk_mem : ∀ {l : List (Nat × Value)} {i : Nat} {v : Value}, kx_lk l i = some v → (i, v) ∈ l
  | [], _, _, h => by simp [kx_lk] at h
  | q :: l, i, v, h => by
    cases hb : Nat.beq q.1 i with
    | true =>
      have e : q.1 = i := Nat.eq_of_beq_eq_true hb
      simp only [kx_lk, hb, Option.some.injEq] at h
      obtain ⟨a, b⟩ := q
      cases e
      cases h
      exact List.mem_cons_self
    | false =>
      simp only [kx_lk, hb] at h
      exact List.mem_cons_of_mem _ (kx_lk_mem h)
theorem kx_l_at {E : kx_E} {ls : Array Slot} {nL : Nat} {lv : List (Nat × Value)} {i : Nat} {v : Value} (hV : lv_has ls nL (kx_l E lv)) (h : kx_lk lv i = some v) : ls[i]? = some (.val (kx_v (kx_B E) v)) :=
  hV.2.2 (i, kx_v (kx_B E) v) (List.mem_map.mpr ⟨(i, v), kx_lk_mem h, rfl⟩)
theorem kx_l_st1 (E : kx_E) (lv : List (Nat × Value)) (i : Nat) (v : Value) : (i, kx_v (kx_B E) v) :: (kx_l E lv).filter (fun q => !(q.1 == i) && !(q.1 + 1 == i && q.2.category == 2)) = kx_l E ((i, v) :: lv.filter (fun q => !(q.1 == i) && !(q.1 + 1 == i && q.2.category == 2))) := by
  show _ = (i, kx_v (kx_B E) v) :: (lv.filter _).map _
  congr 1
  rw [List.filter_map]
  congr 1
  apply List.filter_congr
  intro q _
  simp only [Function.comp, kx_v_cat]
theorem kx_l_st2 (E : kx_E) (lv : List (Nat × Value)) (i : Nat) (v : Value) : (i, kx_v (kx_B E) v) :: (kx_l E lv).filter (fun q => !(q.1 == i) && (!(q.1 == i + 1) && !(q.1 + 1 == i && q.2.category == 2))) = kx_l E ((i, v) :: lv.filter (fun q => !(q.1 == i) && (!(q.1 == i + 1) && !(q.1 + 1 == i && q.2.category == 2)))) := by
  show _ = (i, kx_v (kx_B E) v) :: (lv.filter _).map _
  congr 1
  rw [List.filter_map]
  congr 1
  apply List.filter_congr
  intro q _
  simp only [Function.comp, kx_v_cat]
theorem kx_args (E : kx_E) : ∀ (as : List Value) (i : Nat), lv_args i (kx_s E as) = kx_l E (lv_args i as)
  | [], _ => rfl
  | v :: vs, i => by
    show (i, kx_v (kx_B E) v) :: lv_args (if (kx_v (kx_B E) v).category = 2 then i + 2 else i + 1) (kx_s E vs) = (i, kx_v (kx_B E) v) :: kx_l E (lv_args (if v.category = 2 then i + 2 else i + 1) vs)
    rw [kx_v_cat, kx_args E vs]
theorem kx_sl (E : kx_E) : ∀ (as : List Value), (lg_sl (kx_s E as)).length = (lg_sl as).length
  | [] => rfl
  | v :: vs => by
    have h := kx_sl E vs
    simp only [lg_sl, List.map_cons, List.flatMap_cons, List.length_append, kx_v_cat] at h ⊢
    rw [h]
    by_cases hc : v.category = 2 <;> simp [hc]
def kx_at (E : kx_E) (i : Nat) (c : kx_c) (H : Heap) : Prop := match c with
  | Sum.inl x => H[kx_B E + i]? = some (arrV (E.2.2.2 0) x.1 (fun j => .int (x.2 j)))
  | Sum.inr (Sum.inl x) => H[kx_B E + i]? = some (arrV (E.2.2.2 1) x.1 (fun j => .long (x.2 j)))
  | Sum.inr (Sum.inr (Sum.inl x)) => H[kx_B E + i]? = some (arrV (E.2.2.2 (2 + x.1)) x.2.1 (fun j => kx_rf (kx_B E) (x.2.2 j)))
  | Sum.inr (Sum.inr (Sum.inr x)) => ∃ r : vw_C, kx_cls[x.1]? = some r ∧ t_OB (kx_B E + i) (E.2.2.1.1 x.1) r.2.2 (E.2.2.1.2 x.1) H (fun k => kx_v (kx_B E) (x.2.getD k .null))
theorem kx_at.kept {E : kx_E} {i : Nat} {c : kx_c} {H H1 : Heap} (h : kx_at E i c H) (hq : H1[kx_B E + i]? = H[kx_B E + i]?) : kx_at E i c H1 := by
  rcases c with x | x | x | x
  · exact hq.trans h
  · exact hq.trans h
  · exact hq.trans h
  · obtain ⟨r, h1, h2⟩ := h
    exact ⟨r, h1, h2.kept hq⟩
theorem kx_at.cell {E : kx_E} {i : Nat} {c : kx_c} {H : Heap} (h : kx_at E i c H) : ∃ cell : Cell, H[kx_B E + i]? = some cell ∧ cell.vm = .none := by
  rcases c with x | x | x | x
  · exact ⟨_, h, rfl⟩
  · exact ⟨_, h, rfl⟩
  · exact ⟨_, h, rfl⟩
  · obtain ⟨r, h1, cell, h2, -, h3, -⟩ := h
    exact ⟨cell, h2, h3⟩
theorem kx_at.lt {E : kx_E} {i : Nat} {c : kx_c} {H : Heap} (h : kx_at E i c H) : kx_B E + i < H.size := by
  obtain ⟨cell, h1, -⟩ := h.cell
  exact (Array.getElem?_eq_some_iff.mp h1).1
def kx_P (E : kx_E) (n : Nat) (h : kx_H) (H : Heap) : Prop :=
  H.size = kx_B E + n ∧ (∀ q : Nat, q < kx_B E → H[q]? = E.2.1.heap[q]?) ∧ (∀ (q : Nat) (cell : Cell), kx_B E ≤ q → H[q]? = some cell → cell.vm.isStatics = false) ∧ ∀ (i : Nat) (c : kx_c), h i = some c → kx_at E i c H
theorem kx_P.set {E : kx_E} {n : Nat} {h : kx_H} {H H1 : Heap} (P : kx_P E n h H) {i : Nat} {c : kx_c} (z : H1.size = H.size) (oq : ∀ q : Nat, q ≠ kx_B E + i → H1[q]? = H[q]?) (hc : kx_at E i c H1) : kx_P E n (kx_set h i c) H1 := by
  obtain ⟨p1, p2, p3, p4⟩ := P
  refine ⟨z.trans p1, fun q hq => ?_, fun q cell hq hcl => ?_, fun j d hj => ?_⟩
  · rw [oq q (by omega)]; exact p2 q hq
  · by_cases e : q = kx_B E + i
    · subst e
      obtain ⟨cell', h1, h2⟩ := hc.cell
      rw [h1] at hcl
      cases hcl
      rw [h2]; rfl
    · rw [oq q e] at hcl
      exact p3 q cell hq hcl
  · by_cases e : j = i
    · subst e
      rw [kx_set_s] at hj
      cases hj
      exact hc
    · rw [kx_set_n e] at hj
      exact (p4 j d hj).kept (oq _ (by omega))
theorem kx_P.junk {E : kx_E} {n : Nat} {h : kx_H} {H H1 : Heap} (P : kx_P E n h H) (z : H1.size = H.size + 1) (oq : ∀ q : Nat, q < H.size → H1[q]? = H[q]?) (hn : ∀ cell, H1[H.size]? = some cell → cell.vm.isStatics = false) : kx_P E (n + 1) h H1 := by
  obtain ⟨p1, p2, p3, p4⟩ := P
  refine ⟨by omega, fun q hq => ?_, fun q cell hq hcl => ?_, fun j d hj => (p4 j d hj).kept (oq _ (p4 j d hj).lt)⟩
  · rw [oq q (by omega)]; exact p2 q hq
  · have hlt := (Array.getElem?_eq_some_iff.mp hcl).1
    by_cases e : q = H.size
    · subst e
      exact hn cell hcl
    · rw [oq q (by omega)] at hcl
      exact p3 q cell hq hcl
theorem kx_P.push {E : kx_E} {n : Nat} {h : kx_H} {H H1 : Heap} (P : kx_P E n h H) {c : kx_c} (z : H1.size = H.size + 1) (oq : ∀ q : Nat, q < H.size → H1[q]? = H[q]?) (hc : kx_at E n c H1) : kx_P E (n + 1) (kx_set h n c) H1 := by
  have hs : H.size = kx_B E + n := P.1
  have P1 : kx_P E (n + 1) h H1 := P.junk z oq (fun cell hcl => by
    obtain ⟨cell', h1, h2⟩ := hc.cell
    rw [← hs, hcl] at h1
    cases h1
    rw [h2]; rfl)
  refine ⟨P1.1, P1.2.1, P1.2.2.1, fun j d hj => ?_⟩
  by_cases e : j = n
  · subst e
    rw [kx_set_s] at hj
    cases hj
    exact hc
  · rw [kx_set_n e] at hj
    exact P1.2.2.2 j d hj
def kx_hw : List Cond := [.laysStatic "java/lang/Throwable" "UNASSIGNED_STACK" "[Ljava/lang/StackTraceElement;", .laysStatic "java/lang/Throwable" "SUPPRESSED_SENTINEL" "Ljava/util/List;"]
def kx_hr : List Cond := [.isRef (.static "java/lang/Throwable" "UNASSIGNED_STACK" "[Ljava/lang/StackTraceElement;"), .isRef (.static "java/lang/Throwable" "SUPPRESSED_SENTINEL" "Ljava/util/List;")]
def kx_T (s : State) : Prop := (∀ w ∈ kx_hw, ∀ a : Array Value, w.before a s = true) ∧ (∀ w ∈ kx_hr, ∀ a : Array Value, w.before a s = true) ∧ ∀ q ∈ kx_strs, ∃ a : Nat, vk_R q.1 q.2.1 q.2.2 a s
theorem kx_lays {s U : State} (hW : s.WarmedH U.vm) (hh : ∀ q : Nat, q < s.heap.size → U.heap[q]? = s.heap[q]?) {O f d : String} {a' a'' : Array Value} (h : (Cond.laysStatic O f d).before a' s = true) : (Cond.laysStatic O f d).before a'' U = true := by
  obtain ⟨c, k, i, fd, a, cell, hc, hi, hst, ha, hcell, hs, hcls, hlt, hty⟩ := Cond.laysStatic_spec h
  obtain ⟨k', hi', he⟩ := State.fieldFound?_setVm hW.alike hi
  have hb := (Array.getElem?_eq_some_iff.mp hcell).1
  exact Cond.laysStatic_of (s := U) (by rw [hW.alike.findClass]; exact hc) hi' hst (by rw [he]; exact ha) (by rw [hh a hb]; exact hcell) hs hcls hlt (by rw [he]; exact hty)
theorem kx_isref {s U : State} (hW : s.WarmedH U.vm) (hh : ∀ q : Nat, q < s.heap.size → U.heap[q]? = s.heap[q]?) {O f d : String} {a' a'' : Array Value} (hl : (Cond.laysStatic O f d).before a' s = true) (h : (Cond.isRef (.static O f d)).before a' s = true) : (Cond.isRef (.static O f d)).before a'' U = true := by
  obtain ⟨c, k, i, fd, a, cell, hc, hi, hst, ha, hcell, hs, hcls, hlt, hty⟩ := Cond.laysStatic_spec hl
  obtain ⟨k', hi', he⟩ := State.fieldFound?_setVm hW.alike hi
  have hb := (Array.getElem?_eq_some_iff.mp hcell).1
  have hcU : U.heap[a]? = some cell := by rw [hh a hb]; exact hcell
  have hiU : U.fieldFound? O f d = some (c, k', i, fd) := hi'
  have haU : k'.statics = some a := by rw [he]; exact ha
  cases hv : (Term.static O f d).eval a' s none [] s with
  | none => simp [Cond.before, Cond.holds, Cond.value, hv] at h
  | some w =>
    obtain ⟨-, a2, cell2, q1, q2, -, q4⟩ := Term.static_spec hi hv
    cases ha.symm.trans q1
    cases hcell.symm.trans q2
    have heU : (Term.static O f d).eval a'' U none [] U = some w := by
      simp [Term.eval, State.fieldNamed?, hiU, hst, haU, hcU, hs, q4]
    simp only [Cond.before, Cond.holds, Cond.value, hv] at h
    simp only [Cond.before, Cond.holds, Cond.value, heU]
    exact h
theorem kx_T.to {s U : State} (h : kx_T s) (hW : s.WarmedH U.vm) (hh : ∀ q : Nat, q < s.heap.size → U.heap[q]? = s.heap[q]?) : kx_T U := by
  obtain ⟨h1, h2, h3⟩ := h
  refine ⟨fun w hw a => ?_, fun w hw a => ?_, fun q hq => ?_⟩
  · simp only [kx_hw, List.mem_cons, List.not_mem_nil, or_false] at hw
    rcases hw with rfl | rfl
    · exact kx_lays hW hh (h1 _ (by simp [kx_hw]) #[])
    · exact kx_lays hW hh (h1 _ (by simp [kx_hw]) #[])
  · simp only [kx_hr, List.mem_cons, List.not_mem_nil, or_false] at hw
    rcases hw with rfl | rfl
    · exact kx_isref hW hh (h1 _ (by simp [kx_hw]) #[]) (h2 _ (by simp [kx_hr]) #[])
    · exact kx_isref hW hh (h1 _ (by simp [kx_hw]) #[]) (h2 _ (by simp [kx_hr]) #[])
  · obtain ⟨a, ha⟩ := h3 q hq
    exact ⟨a, vk_R.warm hW ha⟩
def kx_tys (aC : Nat → Nat) : List (ClassId × FieldType) := [(aC 0, .int), (aC 1, .long), (aC 2, .object kx_q0), (aC 3, .object kx_q1)]
def kx_yes (E : kx_E) (A B : String) : Prop := ∃ a b : ClassId, E.2.1.vm.findClass A = some a ∧ E.2.1.vm.findClass B = some b ∧ E.2.1.vm.assignable a b = true
def kx_no (E : kx_E) (A B : String) : Prop := ∃ a b : ClassId, E.2.1.vm.findClass A = some a ∧ E.2.1.vm.findClass B = some b ∧ E.2.1.vm.assignable a b = false
def kx_G (E : kx_E) : Prop := E.1.stackTraces = false ∧ (∃ a0 : Array Value, ∀ w ∈ lw_tbl, w.before a0 E.2.1 = true) ∧ va_K E.2.2.1 kx_cls (kx_tys E.2.2.2) E.2.1 ∧ kx_T E.2.1 ∧ ∀ A ∈ kx_exc, ∀ B ∈ kx_exc, (A = B → kx_yes E A B) ∧ (A ≠ B → kx_no E A B)
abbrev kx_I : Type := String × ByteArray × Nat × Option FieldType × List (Nat × Nat × Nat × Nat) × String
abbrev kx_Q : Type := (Option Value ⊕ String) → Nat → kx_H → Prop
def kx_C (E : kx_E) (I : kx_I) (d mc ms : Nat) (p : Program) (e : Env) (R : Room) (s : State) (m : MethodId) (args : Array Value) (meth : Method) (c : Code) : Prop :=
  (kx_G E ∧ p.tables.exec = Jvm.exec ∧ c.code = I.2.1 ∧ c.maxLocals = I.2.2.1) ∧ (meth.sig.returnType = I.2.2.2.1 ∧ meth.locks = false ∧ s.vm.findClass I.1 = some m.cls ∧ E.2.1.WarmedH s.vm) ∧
  ((∀ q : Nat, q < kx_B E → s.heap[q]? = E.2.1.heap[q]?) ∧ c.exceptionTable.toList.map (fun x => (x.startPc, x.endPc, x.handlerPc, x.catchType)) = I.2.2.2.2.1 ∧ meth.name = I.2.2.2.2.2) ∧ d ≤ R.frames ∧ 36 * d ≤ R.locals ∧ R.cells = mc ∧ R.slots = ms
section KXC
variable {E : kx_E} {I : kx_I} {d mc ms : Nat} {p : Program} {e : Env} {R : Room} {s : State} {m : MethodId} {args : Array Value} {meth : Method} {c : Code}
theorem kx_C.g (C : kx_C E I d mc ms p e R s m args meth c) : kx_G E := C.1.1
theorem kx_C.ex (C : kx_C E I d mc ms p e R s m args meth c) : p.tables.exec = Jvm.exec := C.1.2.1
theorem kx_C.bt (C : kx_C E I d mc ms p e R s m args meth c) : c.code = I.2.1 := C.1.2.2.1
theorem kx_C.ml (C : kx_C E I d mc ms p e R s m args meth c) : c.maxLocals = I.2.2.1 := C.1.2.2.2
theorem kx_C.rt (C : kx_C E I d mc ms p e R s m args meth c) : meth.sig.returnType = I.2.2.2.1 := C.2.1.1
theorem kx_C.lk (C : kx_C E I d mc ms p e R s m args meth c) : meth.locks = false := C.2.1.2.1
theorem kx_C.own (C : kx_C E I d mc ms p e R s m args meth c) : s.vm.findClass I.1 = some m.cls := C.2.1.2.2.1
theorem kx_C.wm (C : kx_C E I d mc ms p e R s m args meth c) : E.2.1.WarmedH s.vm := C.2.1.2.2.2
theorem kx_C.lo (C : kx_C E I d mc ms p e R s m args meth c) : ∀ q : Nat, q < kx_B E → s.heap[q]? = E.2.1.heap[q]? := C.2.2.1.1
theorem kx_C.tb (C : kx_C E I d mc ms p e R s m args meth c) : c.exceptionTable.toList.map (fun x => (x.startPc, x.endPc, x.handlerPc, x.catchType)) = I.2.2.2.2.1 := C.2.2.1.2.1
theorem kx_C.nm (C : kx_C E I d mc ms p e R s m args meth c) : meth.name = I.2.2.2.2.2 := C.2.2.1.2.2
theorem kx_C.fr (C : kx_C E I d mc ms p e R s m args meth c) : d ≤ R.frames := C.2.2.2.1
theorem kx_C.lc (C : kx_C E I d mc ms p e R s m args meth c) : 36 * d ≤ R.locals := C.2.2.2.2.1
theorem kx_C.rc (C : kx_C E I d mc ms p e R s m args meth c) : R.cells = mc := C.2.2.2.2.2.1
theorem kx_C.rs (C : kx_C E I d mc ms p e R s m args meth c) : R.slots = ms := C.2.2.2.2.2.2
theorem kx_word {E : kx_E} (G : kx_G E) {w : Cond} (hw : w ∈ kx_tb) (a' : Array Value) {U : State} (hU : E.2.1.WarmedH U.vm) : w.before a' U = true := by
  obtain ⟨a0, h⟩ := G.2.1
  exact word_at hU (good_of_word (List.all_eq_true.mp kx_tb_good w hw)) (h w (List.mem_filter.mp hw).1)
def kx_dc (w : Cond) : Bool := match w with
  | .declares _ => true
  | .castable _ _ => true
  | _ => false
theorem kx_word2 {E : kx_E} (G : kx_G E) {w : Cond} (hw : w ∈ lw_tbl) (hd : kx_dc w = true) (a' : Array Value) {U : State} (hU : E.2.1.WarmedH U.vm) : w.before a' U = true := by
  obtain ⟨a0, h⟩ := G.2.1
  have h1 := h w hw
  cases w with
  | declares x => exact va_tabs rfl (rfl : (E.2.1.setVm U.vm).vm = U.vm) (by rw [Cond.declares_setVm hU.alike]; exact h1)
  | castable x y => exact va_tabs rfl (rfl : (E.2.1.setVm U.vm).vm = U.vm) (by rw [Cond.castable_setVm hU.alike]; exact h1)
  | _ => cases hd
theorem kx_C.w (C : kx_C E I d mc ms p e R s m args meth c) {w : Cond} (hw : w ∈ kx_tb) : w.before args s = true := kx_word C.g hw args C.wm
theorem kx_C.k (C : kx_C E I d mc ms p e R s m args meth c) : va_K E.2.2.1 kx_cls (kx_tys E.2.2.2) s := va_K.moved C.wm.alike C.g.2.2.1
end KXC
def kx_O (E : kx_E) (r : Option Value ⊕ String) (o : Outcome) (t : State) : Prop := match r with
  | Sum.inl v => o = .returned (v.map (kx_v (kx_B E)))
  | Sum.inr X => ∃ (a : Addr) (ce : Cell), o = .threw a ∧ t.heap[a]? = some ce ∧ ce.vm.isStatics = false ∧ E.2.1.vm.findClass X = some ce.cls
def kx_Z (E : kx_E) (mc ms : Nat) (Q : kx_Q) (below : List Frame) (s : State) (t : State) : Prop :=
  ∃ o, t.status = .running ∧ Ended t below o ∧ s.WarmedH t.vm ∧ (∃ L, s.sameButNew ({ t with vm := s.vm } : State) L mc ms ∧ ∀ q ∈ L, kx_B E ≤ q.base) ∧ ∃ (r : Option Value ⊕ String) (n : Nat) (h : kx_H), kx_P E n h t.heap ∧ kx_O E r o t ∧ Q r n h
def kx_V (E : kx_E) (I : kx_I) (d mc ms : Nat) (Q : kx_Q) (k j pc : Nat) (lv : List (Nat × Value)) (st : List Value) (n : Nat) (h : kx_H) : Prop :=
  ∀ (p : Program) (e : Env) (R : Room) (s : State) (m : MethodId) (args : Array Value) (below : List Frame) (meth : Method) (c : Code) (H : Heap) (locs : List Loc) (ls : Array Slot) (cells slots : Nat),
    kx_C E I d mc ms p e R s m args meth c → kx_P E n h H → (∀ q ∈ locs, kx_B E ≤ q.base) → lv_has ls I.2.2.1 (kx_l E lv) → cells + k ≤ mc → slots + j ≤ ms →
    W p E.1 e R s m args below meth c H locs cells slots (kx_Z E mc ms Q below s) (F0 m pc ls (kx_s E st))
def kx_X (E : kx_E) (I : kx_I) (d mc ms : Nat) (Q : kx_Q) (k j pc : Nat) (lv : List (Nat × Value)) (X : String) (n : Nat) (h : kx_H) : Prop :=
  ∀ (p : Program) (e : Env) (R : Room) (s : State) (m : MethodId) (args : Array Value) (below : List Frame) (meth : Method) (c : Code) (H : Heap) (locs : List Loc) (ls : Array Slot) (cells slots : Nat),
    kx_C E I d mc ms p e R s m args meth c → kx_P E n h H → (∀ q ∈ locs, kx_B E ≤ q.base) → lv_has ls I.2.2.1 (kx_l E lv) → cells + k ≤ mc → slots + j ≤ ms →
    ∀ (st : List Value) (a : Addr) (ce : Cell), H[a]? = some ce → ce.vm.isStatics = false → E.2.1.vm.findClass X = some ce.cls →
    ∀ T : State, T.heap = H → Stand p E.1 e R s m args below meth c T locs cells slots → ∃ t, Steps p.tables e below ((T.setTop (F0 m pc ls st)).pushFrame (.throwing a)) t ∧ kx_Z E mc ms Q below s t
theorem kx_W_mono {p : Program} {l : Launch} {e : Env} {R : Room} {s : State} {m : MethodId} {args : Array Value} {below : List Frame} {meth : Method} {c : Code} {H : Heap} {locs : List Loc} {cells slots : Nat} {Q Q' : State → Prop} {g : JFrame} (hq : ∀ t, Q t → Q' t) (w : W p l e R s m args below meth c H locs cells slots Q g) : W p l e R s m args below meth c H locs cells slots Q' g := by
  intro T hT X
  obtain ⟨t, a, b⟩ := w T hT X
  exact ⟨t, a, hq t b⟩
theorem kx_up {tb : Tables} {e : Env} {mid below : List Frame} {a b : State} (h : Steps tb e (mid ++ below) a b) : Steps tb e below a b := by
  obtain ⟨n, h1, h2⟩ := h
  exact ⟨n, h1, fun k hk => (h2 k hk).weaken⟩
