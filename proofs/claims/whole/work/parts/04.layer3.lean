def kx_kw (kw : Cond) (y : MethodName) (I : kx_I) : Prop := ∀ (a : Array Value) (U : State) (m : MethodId), kw.before a U = true → U.methodNamed? y = some m →
  ∃ meth c, U.vm.method? m = some meth ∧ meth.code = some c ∧ c.code = I.2.1 ∧ c.maxLocals = I.2.2.1 ∧ meth.sig.returnType = I.2.2.2.1 ∧ meth.locks = false ∧ c.exceptionTable.toList.map (fun x => (x.startPc, x.endPc, x.handlerPc, x.catchType)) = I.2.2.2.2.1 ∧ parseMethodDescriptor y.desc = some meth.sig
theorem kx_kw0 {y : MethodName} {own nm : String} {cc : ByteArray} {nL : Nat} {rt : Option FieldType} : kx_kw (.code y cc nL rt) y (own, cc, nL, rt, [], nm) := by
  intro a U m h hn
  obtain ⟨meth, c, h1, h2, h3, h4, h5, h6, h7, h8⟩ := Cond.code_spec hn h
  exact ⟨meth, c, h1, h2, h3, h4, h5, h6, by rw [Array.isEmpty_iff.mp h7]; rfl, h8⟩
theorem kx_kwH {y : MethodName} {own nm : String} {cc : ByteArray} {nL : Nat} {rt : Option FieldType} {hs : List (Nat × Nat × Nat × Nat)} : kx_kw (.codeWith y cc nL rt hs) y (own, cc, nL, rt, hs, nm) := by
  intro a U m h hn
  obtain ⟨m', meth, c, h0, h1, h2, h3, h4, h5, h6, h7, h8⟩ := Cond.codeWith_spec h
  cases hn.symm.trans h0
  exact ⟨meth, c, h1, h2, h3, h4, h6, h7, h5, h8⟩
def kx_Go (E : kx_E) (p : Program) (e : Env) (below : List Frame) (T T' : State) (g : JFrame) (len : Nat) (mk : MethodId) (av : Array Value) (r : Option Value ⊕ String) : Prop := match r with
  | Sum.inl v => ∀ acts, Steps p.tables e below (doInvoke e (T.setTop g) acts mk av).1 (T'.setTop { g with pc := g.pc + len, stack := (v.map (kx_v (kx_B E))).toList ++ g.stack })
  | Sum.inr X => ∃ (a : Addr) (ce : Cell), T'.heap[a]? = some ce ∧ ce.vm.isStatics = false ∧ E.2.1.vm.findClass X = some ce.cls ∧ ∀ acts, Steps p.tables e below (doInvoke e (T.setTop g) acts mk av).1 ((T'.setTop g).pushFrame (.throwing a))
theorem kx_heapTop (T : State) (g : JFrame) : (T.setTop g).heap = T.heap := by simp [State.setTop, State.modifyTopJava]
theorem kx_heapPush (T : State) (f : Frame) : (T.pushFrame f).heap = T.heap := by simp [State.pushFrame, State.setFrames]
section KXE
variable {E : kx_E} {I : kx_I} {d mc ms : Nat} {Q : kx_Q} {k j pc : Nat} {lv : List (Nat × Value)} {st : List Value} {n : Nat} {h : kx_H}
variable {p : Program} {e : Env} {R : Room} {s : State} {m : MethodId} {args : Array Value} {below : List Frame} {meth : Method} {c : Code} {T : State} {locs : List Loc} {cells slots : Nat}
theorem kx_run (X : Stand p E.1 e R s m args below meth c T locs cells slots) (C : kx_C E I d mc ms p e R s m args meth c)
    {g : JFrame} (hg : g.method = m) (hsize : g.locals.size = c.maxLocals) {ig : Instr} {len : Nat} (hdg : decode c.code g.pc = .ok (ig, len)) (hst : 2 * g.monitorRoom + (g.stack.map fun v => v.category).sum ≤ 8)
    {y : MethodName} {I' : kx_I} {kw : Cond} (hkw : kx_kw kw y I') (hkin : kw ∈ kx_tb) (hpl : plainName y.cls = true) (hI1 : I'.1 = y.cls) (hI2 : I'.2.2.2.2.2 = y.name) {mk : MethodId} (hn : T.methodNamed? y = some mk)
    {as : List Value} (P : kx_P E n h T.heap) {Q' : kx_Q} {d' mc' ms' : Nat} (hV : kx_V E I' d' mc' ms' Q' mc' ms' 0 (lv_args 0 as) [] n h) (hfit : (lg_sl as).length ≤ I'.2.2.1)
    (hd : d' + 1 ≤ d) (hL : I'.2.2.1 ≤ 17) (hc : cells + mc' ≤ mc) (hs : slots + ms' ≤ ms) :
    ∃ (r : Option Value ⊕ String) (n' : Nat) (h' : kx_H) (L : List Loc) (T' : State), Stand p E.1 e R s m args below meth c T' (locs ++ L) (cells + mc') (slots + ms') ∧ (∀ q ∈ L, kx_B E ≤ q.base) ∧ kx_P E n' h' T'.heap ∧ Q' r n' h' ∧ kx_Go E p e below T T' g len mk (kx_s E as).toArray r := by
  obtain ⟨methk, ck, hmk, hck, hcode, hml, hret, hlk, htb, hsig⟩ := hkw #[] T mk (kx_word C.g hkin #[] (State.WarmedH.trans C.wm X.warmed)) hn
  have hpk : T.plainMethod mk := State.plainMethod.of_name (fun k hk => by
    obtain ⟨k', hk', hnm⟩ := className_of_methodNamed hn
    cases hk.symm.trans hk'
    rw [hnm]; exact hpl)
  have hfr := C.fr
  have hlc := C.lc
  obtain ⟨Y, hin⟩ := X.into hg hsize hdg (kx_s E as).toArray (R' := { frames := d', cells := mc', slots := ms', locals := 36 * d' }) hmk hck hlk hpk (by show d' + 1 ≤ R.frames; omega) (by show _ + _ + (ck.maxLocals + 11) + 36 * d' ≤ R.locals; rw [hml]; omega) (by show cells + mc' ≤ R.cells; rw [C.rc]; exact hc) (by show slots + ms' ≤ R.slots; rw [C.rs]; exact hs)
  have hvm : (T.calling g mk (kx_s E as).toArray).vm = T.vm := by rw [State.calling_eq X.here.top]; rfl
  have hhp : (T.calling g mk (kx_s E as).toArray).heap = T.heap := by rw [State.calling_eq X.here.top]; rfl
  have C' : kx_C E I' d' mc' ms' p e { frames := d', cells := mc', slots := ms', locals := 36 * d' } (T.calling g mk (kx_s E as).toArray) mk (kx_s E as).toArray methk ck :=
    ⟨⟨C.g, C.ex, hcode, hml⟩, ⟨hret, hlk, by rw [hvm, hI1]; exact findClass_of_methodNamed hn, by rw [hvm]; exact State.WarmedH.trans C.wm X.warmed⟩, ⟨by rw [hhp]; exact P.2.1, htb, by rw [hI2]; exact (name_of_methodNamed hn hmk).1⟩, Nat.le_refl _, Nat.le_refl _, rfl, rfl⟩
  have hl := lv_entry (kx_s E as) (n := I'.2.2.1) (by rw [kx_sl]; exact hfit)
  rw [kx_args] at hl
  have w := hV p e _ _ mk _ (.java g :: below) methk ck T.heap [] _ 0 0 C' P (fun q hq => by cases hq) hl (by omega) (by omega)
  obtain ⟨t, hsteps, o, hrun, hend, hW, ⟨L, hsame, hLB⟩, r, n', h', P', hO, hq⟩ := w _ (by rw [kx_heapPush, kx_heapTop]) Y
  rw [hml, lg_entry_eq] at hsteps
  have hin' : ∀ acts, Steps p.tables e below (doInvoke e (T.setTop g) acts mk (kx_s E as).toArray).1 t := by
    intro acts
    rw [hin acts, hml, lg_entry_eq]
    exact kx_up (mid := [.java g]) hsteps
  cases r with
  | inl v =>
    have ho : o = .returned (v.map (kx_v (kx_B E))) := hO
    subst ho
    obtain ⟨T', X', -, -, ht⟩ := X.outOf hg hdg hend hW hsame
    refine ⟨Sum.inl v, n', h', L, T', X', hLB, ?_, hq, fun acts => ?_⟩
    · rw [ht, kx_heapTop] at P'
      exact P'
    · rw [← ht]
      exact hin' acts
  | inr Xc =>
    obtain ⟨a, ce, ho, hce, hns, hfc⟩ := hO
    subst ho
    obtain ⟨T', X', -, -, ht⟩ := X.outOfThrown hg hend hW hsame
    rw [ht, kx_heapPush, kx_heapTop] at P' hce
    refine ⟨Sum.inr Xc, n', h', L, T', X', hLB, P', hq, a, ce, hce, hns, hfc, fun acts => ?_⟩
    rw [← ht]
    exact hin' acts
theorem kx_after {H : Heap} {ls : Array Slot} {g' : JFrame} {vm₁ : Vm} (C : kx_C E I d mc ms p e R s m args meth c) (L0 : ∀ q ∈ locs, kx_B E ≤ q.base) (V : lv_has ls I.2.2.1 (kx_l E lv))
    {r : Option Value ⊕ String} {n' : Nat} {h' : kx_H} {L : List Loc} {T' : State} {mc' ms' : Nat} {mk : MethodId} {av : Array Value} (hk : cells + (k + mc') ≤ mc) (hj : slots + (j + ms') ≤ ms)
    (X' : Stand p E.1 e R s m args below meth c T' (locs ++ L) (cells + mc') (slots + ms')) (hLB : ∀ q ∈ L, kx_B E ≤ q.base) (P' : kx_P E n' h' T'.heap)
    (hstep : ∀ target, (∀ acts, Steps p.tables e below (doInvoke e ((T.setVm vm₁).setTop (F0 m pc ls (kx_s E st))) acts mk av).1 target) → Steps p.tables e below (T.setTop g') target)
    (hgo : kx_Go E p e below (T.setVm vm₁) T' (F0 m pc ls (kx_s E st)) 3 mk av r)
    (kk : ∀ v, r = Sum.inl v → kx_V E I d mc ms Q k j (pc + 3) lv (v.toList ++ st) n' h') (kx : ∀ Xc, r = Sum.inr Xc → kx_X E I d mc ms Q k j pc lv Xc n' h') :
    ∃ t, Steps p.tables e below (T.setTop g') t ∧ kx_Z E mc ms Q below s t := by
  have LL : ∀ q ∈ locs ++ L, kx_B E ≤ q.base := fun q hq => by
    rcases List.mem_append.mp hq with g | g
    · exact L0 q g
    · exact hLB q g
  cases r with
  | inl v =>
    obtain ⟨t, a1, b1⟩ := kk v rfl p e R s m args below meth c T'.heap _ ls _ _ C P' LL V (by omega) (by omega) T' rfl X'
    refine ⟨t, hstep t (fun acts => (hgo acts).trans ?_), b1⟩
    have e1 : kx_s E (v.toList ++ st) = (v.map (kx_v (kx_B E))).toList ++ kx_s E st := by cases v <;> rfl
    rw [e1] at a1
    exact a1
  | inr Xc =>
    obtain ⟨a, ce, hce, hns, hfc, hgo⟩ := hgo
    obtain ⟨t, a1, b1⟩ := kx Xc rfl p e R s m args below meth c T'.heap _ ls _ _ C P' LL V (by omega) (by omega) (kx_s E st) a ce hce hns hfc T' rfl X'
    exact ⟨t, hstep t (fun acts => (hgo acts).trans a1), b1⟩
def kx_wS (own : String) (index : Nat) (y : MethodName) (kw : Cond) (I' : kx_I) (na : Nat) : Prop :=
  kx_kw kw y I' ∧ kw ∈ kx_tb ∧ Cond.methodLink own index y ∈ kx_tb ∧ Cond.static y ∈ kx_tb ∧ Cond.initialized y.cls ∈ kx_tb ∧ plainName y.cls = true ∧ (y.cls ≠ "java/lang/invoke/MethodHandle" ∧ y.cls ≠ "java/lang/invoke/VarHandle") ∧ (parseMethodDescriptor y.desc).map (fun q => q.parameters.length) = some na ∧ I'.1 = y.cls ∧ I'.2.2.2.2.2 = y.name ∧ I'.2.2.1 ≤ 17
theorem kx_cat8 {m : MethodId} {ls : Array Slot} (h : (st.map fun v => v.category).sum ≤ 8) : 2 * (F0 m pc ls (kx_s E st)).monitorRoom + ((F0 m pc ls (kx_s E st)).stack.map fun v => v.category).sum ≤ 8 := by
  show 2 * 0 + ((kx_s E st).map fun v => v.category).sum ≤ 8
  rw [kx_s_cat]
  omega
theorem kx_invS {index : Nat} {y : MethodName} {kw : Cond} {I' : kx_I} {na : Nat} {as stk : List Value} {Q' : kx_Q} {d' mc' ms' : Nat} (hdg : decode I.2.1 pc = .ok (.invokestatic index, 3)) (hw : kx_wS I.1 index y kw I' na) (hV : kx_V E I' d' mc' ms' Q' mc' ms' 0 (lv_args 0 as) [] n h) (hs : stk = as.reverse ++ st) (hna : as.length = na) (hfit : (lg_sl as).length ≤ I'.2.2.1) (hd : d' + 1 ≤ d) (hcat : (st.map fun v => v.category).sum ≤ 8)
    (kk : ∀ v n' h', Q' (Sum.inl v) n' h' → kx_V E I d mc ms Q k j (pc + 3) lv (v.toList ++ st) n' h') (kx : ∀ Xc n' h', Q' (Sum.inr Xc) n' h' → kx_X E I d mc ms Q k j pc lv Xc n' h') : kx_V E I d mc ms Q (k + mc') (j + ms') pc lv stk n h := by
  intro p e R s m args below meth c H locs ls cells slots C P L V hk hj T hT X
  subst hs
  obtain ⟨hkw, w0, w1, w2, w3, hpl, hy, hpa, hI1, hI2, hnL⟩ := hw
  have hnamed0 := C.w w2
  obtain ⟨mk, methM, hnamed, hmethM⟩ : ∃ mk methM, s.methodNamed? y = some mk ∧ s.vm.method? mk = some methM := by
    cases hq : s.methodNamed? y with
    | none => simp [Cond.before, Cond.holds, Cond.value, hq] at hnamed0
    | some mk =>
      obtain ⟨methM, c0, g1, -⟩ := hkw args s mk (C.w w0) hq
      exact ⟨mk, methM, rfl, g1⟩
  have hstatic : methM.isStatic = true := Cond.static_spec hnamed hmethM hnamed0
  obtain ⟨kP, hkP, -⟩ := className_of_methodNamed hnamed
  have hinitP : kP.init = .initialized := Cond.initialized_spec (findClass_of_methodNamed hnamed) hkP (C.w w3)
  obtain ⟨methM', c0, g1, -, -, -, -, -, -, hsig⟩ := hkw args s mk (C.w w0) hnamed
  cases hmethM.symm.trans g1
  have hlen : (kx_s E as).length = methM.sig.parameters.length := by
    rw [hsig] at hpa
    rw [List.length_map, hna]
    exact (Option.some.inj hpa).symm
  obtain ⟨vm₁, X₁, hstep⟩ := X.invokestatic C.ex C.own (C.w w1) hnamed hmethM hstatic hkP hinitP hy (g := F0 m pc ls (kx_s E (as.reverse ++ st))) rfl (argsL := kx_s E as) (rest := kx_s E st) hlen (by show kx_s E (as.reverse ++ st) = _; simp [kx_s, List.map_reverse]) (by rw [C.bt]; exact hdg)
  obtain ⟨r, n', h', L', T', X', hLB, P', hq, hgo⟩ := kx_run X₁ C (g := F0 m pc ls (kx_s E st)) rfl (V.1.trans C.ml.symm) (by rw [C.bt]; exact hdg) (kx_cat8 hcat) hkw w0 hpl hI1 hI2 (X₁.named hnamed) (by rw [← hT] at P; exact P) hV hfit hd hnL (by omega) (by omega)
  exact kx_after (vm₁ := vm₁) (H := H) C L V hk hj X' hLB P' hstep hgo (fun v hv => kk v n' h' (hv ▸ hq)) (fun Xc hX => kx Xc n' h' (hX ▸ hq))
def kx_wV (own : String) (index ci : Nat) (y : MethodName) (kw : Cond) (I' : kx_I) (na : Nat) : Prop :=
  kx_kw kw y I' ∧ kw ∈ kx_tb ∧ Cond.methodLink own index y ∈ kx_tb ∧ Cond.instanceMethod y ∈ kx_tb ∧ (∃ q : vw_C, kx_cls[ci]? = some q ∧ q.1 = y.cls) ∧ Cond.selects y.cls y y ∈ kx_tb ∧ plainName y.cls = true ∧ (y.cls ≠ "java/lang/invoke/MethodHandle" ∧ y.cls ≠ "java/lang/invoke/VarHandle") ∧ (parseMethodDescriptor y.desc).map (fun q => q.parameters.length) = some na ∧ I'.1 = y.cls ∧ I'.2.2.2.2.2 = y.name ∧ I'.2.2.1 ≤ 17
theorem kx_invV {index ci b : Nat} {y : MethodName} {kw : Cond} {I' : kx_I} {na : Nat} {fs as stk : List Value} {Q' : kx_Q} {d' mc' ms' : Nat} (hdg : decode I.2.1 pc = .ok (.invokevirtual index, 3)) (hw : kx_wV I.1 index ci y kw I' na) (hb : h b = some (kx_co ci fs)) (hV : kx_V E I' d' mc' ms' Q' mc' ms' 0 (lv_args 0 (.ref b :: as)) [] n h) (hs : stk = as.reverse ++ .ref b :: st) (hna : as.length = na) (hfit : (lg_sl (.ref b :: as)).length ≤ I'.2.2.1) (hd : d' + 1 ≤ d) (hcat : (st.map fun v => v.category).sum ≤ 8)
    (kk : ∀ v n' h', Q' (Sum.inl v) n' h' → kx_V E I d mc ms Q k j (pc + 3) lv (v.toList ++ st) n' h') (kx : ∀ Xc n' h', Q' (Sum.inr Xc) n' h' → kx_X E I d mc ms Q k j pc lv Xc n' h') : kx_V E I d mc ms Q (k + mc') (j + ms') pc lv stk n h := by
  intro p e R s m args below meth c H locs ls cells slots C P L V hk hj T hT X
  subst hs
  obtain ⟨hkw, w0, w1, w2, ⟨q, hq, hqc⟩, w4, hpl, hy, hpa, hI1, hI2, hnL⟩ := hw
  obtain ⟨mk, methM, hnamed, hmethM, hstM, habM⟩ := Cond.instanceMethod_spec (C.w w2)
  obtain ⟨methM', c0, g1, -, -, -, -, -, -, hsig⟩ := hkw args s mk (C.w w0) hnamed
  cases hmethM.symm.trans g1
  obtain ⟨c2, r2, m2, q1, q2, q3, q4, kP, hkP, hkPi⟩ := Cond.selects_spec (C.w w4)
  obtain ⟨cellB, hcB, hoB, hclB⟩ := kx_recv C P hb hq
  rw [hqc] at hclB
  cases hclB.symm.trans q1
  cases (State.methodFound?_of_named hnamed hy).symm.trans q2
  cases hnamed.symm.trans q3
  have hselP : selectMethod e.platform s.vm cellB.cls mk = .method mk := by rw [Launch.admits_selectMethod X.admits]; exact q4
  have hlen : (kx_s E as).length = methM.sig.parameters.length := by
    rw [hsig] at hpa
    rw [List.length_map, hna]
    exact (Option.some.inj hpa).symm
  obtain ⟨vm₁, X₁, hstep⟩ := X.invokevirtual C.ex C.own (C.w w1) hnamed hmethM hstM hkP hkPi hy (a := kx_B E + b) (cell := cellB) (by rw [hT]; exact hcB) (fun z hz => by rw [hz] at hoB; cases hoB) hselP hmethM habM hkP hkPi (g := F0 m pc ls (kx_s E (as.reverse ++ .ref b :: st))) rfl (argsL := kx_s E as) (rest := kx_s E st) hlen (by show kx_s E (as.reverse ++ .ref b :: st) = _; simp [kx_s, List.map_reverse, kx_v]) (by rw [C.bt]; exact hdg)
  obtain ⟨r, n', h', L', T', X', hLB, P', hq', hgo⟩ := kx_run X₁ C (g := F0 m pc ls (kx_s E st)) rfl (V.1.trans C.ml.symm) (by rw [C.bt]; exact hdg) (kx_cat8 hcat) hkw w0 hpl hI1 hI2 (X₁.named hnamed) (by rw [← hT] at P; exact P) hV hfit hd hnL (by omega) (by omega)
  exact kx_after (vm₁ := vm₁) (H := H) C L V hk hj X' hLB P' hstep hgo (fun v hv => kk v n' h' (hv ▸ hq')) (fun Xc hX => kx Xc n' h' (hX ▸ hq'))
def kx_wI (own : String) (index : Nat) (y : MethodName) (I' : kx_I) (na : Nat) : Prop :=
  Cond.code y I'.2.1 I'.2.2.1 none ∈ kx_tb ∧ I'.2.2.2.1 = none ∧ I'.2.2.2.2.1 = [] ∧ Cond.methodLink own index y ∈ kx_tb ∧ Cond.instanceMethod y ∈ kx_tb ∧ y.name = "<init>" ∧ plainName y.cls = true ∧ (y.cls ≠ "java/lang/invoke/MethodHandle" ∧ y.cls ≠ "java/lang/invoke/VarHandle") ∧ (parseMethodDescriptor y.desc).map (fun q => q.parameters.length) = some na ∧ I'.1 = y.cls ∧ I'.2.2.2.2.2 = y.name ∧ I'.2.2.1 ≤ 17
theorem kx_invI {index b : Nat} {y : MethodName} {I' : kx_I} {na : Nat} {as stk : List Value} {Q' : kx_Q} {d' mc' ms' : Nat} (hdg : decode I.2.1 pc = .ok (.invokespecial index, 3)) (hw : kx_wI I.1 index y I' na) (hV : kx_V E I' d' mc' ms' Q' mc' ms' 0 (lv_args 0 (.ref b :: as)) [] n h) (hs : stk = as.reverse ++ .ref b :: st) (hna : as.length = na) (hfit : (lg_sl (.ref b :: as)).length ≤ I'.2.2.1) (hd : d' + 1 ≤ d) (hcat : (st.map fun v => v.category).sum ≤ 8)
    (kk : ∀ v n' h', Q' (Sum.inl v) n' h' → kx_V E I d mc ms Q k j (pc + 3) lv (v.toList ++ st) n' h') (kx : ∀ Xc n' h', Q' (Sum.inr Xc) n' h' → kx_X E I d mc ms Q k j pc lv Xc n' h') : kx_V E I d mc ms Q (k + mc') (j + ms') pc lv stk n h := by
  intro p e R s m args below meth c H locs ls cells slots C P L V hk hj T hT X
  subst hs
  obtain ⟨w0, hI3, hI4, w1, w2, hini, hpl, hy, hpa, hI1, hI2, hnL⟩ := hw
  have hkw : kx_kw (.code y I'.2.1 I'.2.2.1 none) y I' := by
    obtain ⟨i1, i2, i3, i4, i5, i6⟩ := I'
    dsimp only at hI3 hI4
    subst hI3
    subst hI4
    exact kx_kw0
  have hplat : e.platform.magicAccessors = ({} : Platform).magicAccessors := by rw [X.admits.platform]
  obtain ⟨mk, methM, cM, kP, vm₁, hnamed, hmethM, hcodeM, -, -, -, hkP, -, hW₁, hstep⟩ := Steps.initColdArgs (e := e) X.here C.ex X.warmed hplat C.own hini hy (C.w w1) (C.w w2) (C.w w0) (f := F0 m pc ls (kx_s E (as.reverse ++ .ref b :: st))) rfl (a := kx_B E + b) (argsL := kx_s E as) (rest := kx_s E st) (fun sig hsg => by
      rw [hsg] at hpa
      rw [List.length_map, hna]
      exact (Option.some.inj hpa).symm) (by show kx_s E (as.reverse ++ .ref b :: st) = _; simp [kx_s, List.map_reverse, kx_v]) (by rw [C.bt]; exact hdg)
  have X₁ := X.noted hW₁
  obtain ⟨r, n', h', L', T', X', hLB, P', hq', hgo⟩ := kx_run X₁ C (g := F0 m pc ls (kx_s E st)) rfl (V.1.trans C.ml.symm) (by rw [C.bt]; exact hdg) (kx_cat8 hcat) hkw w0 hpl hI1 hI2 (X₁.named hnamed) (by rw [← hT] at P; exact P) hV hfit hd hnL (by omega) (by omega)
  exact kx_after (vm₁ := vm₁) (H := H) C L V hk hj X' hLB P' hstep hgo (fun v hv => kk v n' h' (hv ▸ hq')) (fun Xc hX => kx Xc n' h' (hX ▸ hq'))
theorem kx_X.out {Xc : String} (hno : ∀ x ∈ I.2.2.2.2.1, ¬ (x.1 ≤ pc ∧ pc < x.2.1)) (hq : Q (Sum.inr Xc) n h) : kx_X E I d mc ms Q k j pc lv Xc n h := by
  intro p e R s m args below meth c H locs ls cells slots C P L V hk hj st a ce hce hns hfc T hT X
  have hout : ∀ x ∈ c.exceptionTable.toList, covers x pc = false := by
    intro x hx
    have h1 := hno (x.startPc, x.endPc, x.handlerPc, x.catchType) (by rw [← C.tb]; exact List.mem_map.mpr ⟨x, hx, rfl⟩)
    simp only [covers, Bool.and_eq_false_iff, decide_eq_false_iff_not]
    by_cases h2 : x.startPc ≤ pc
    · exact Or.inr (fun h3 => h1 ⟨h2, h3⟩)
    · exact Or.inl h2
  obtain ⟨hsteps, hrun, hend, hW, hsame⟩ := X.leaveThrown a (g := F0 m pc ls st) rfl rfl rfl hout (hlocks := C.lk)
  refine ⟨_, hsteps, .threw a, hrun, hend, hW, ⟨locs, hsame.mono (by omega) (by omega), L⟩, Sum.inr Xc, n, h, ?_, ⟨a, ce, rfl, ?_, hns, hfc⟩, hq⟩
  · show kx_P E n h T.heap
    rw [hT]; exact P
  · show T.heap[a]? = some ce
    rw [hT]; exact hce
end KXE
