def kx_sel (own Xc : String) (pc hpc : Nat) : List (Nat × Nat × Nat × Nat) → Prop
  | [] => False
  | x :: t => (x.1 ≤ pc ∧ pc < x.2.1) ∧ x.2.2.2 ≠ 0 ∧ ∃ Cn, Cond.classLink own x.2.2.2 Cn ∈ kx_tb ∧ Xc ∈ kx_exc ∧ Cn ∈ kx_exc ∧ ((Xc = Cn ∧ x.2.2.1 = hpc) ∨ (Xc ≠ Cn ∧ kx_sel own Xc pc hpc t))
section KXS
variable {e : Env} {s S0 : State} {f : JFrame} {a : Addr}
theorem kx_goIn {x : ExceptionTableEntry} {t : List ExceptionTableEntry} {cT : ClassId} {cell : Cell} (hx : covers x f.pc = true) (h0 : x.catchType ≠ 0) (hl : S0.vm.ClassLinks e.platform f.method.cls x.catchType cT) (hcell : S0.heap[a]? = some cell) (hobj : ∀ k, cell.vm ≠ .statics k) (hk : ∃ k, S0.vm.classes[cell.cls]? = some k) (hc : ∃ k, S0.vm.classes[cT]? = some k)
    (Q : Handler → Pre) (Ee : CtlPost) (d : Bool) (acts : List Action) :
    wp (findHandler.go f a (x :: t)) Q Ee e d acts S0 ↔ if S0.vm.assignable cell.cls cT = true then Q (.found x.handlerPc) d acts (S0.setVm (S0.vm.noted f.method.cls x.catchType (.cls cT))) else wp (findHandler.go f a t) Q Ee e d acts (S0.setVm (S0.vm.noted f.method.cls x.catchType (.cls cT))) := by
  simp only [covers] at hx
  obtain ⟨ha, ht⟩ := (resolveClass_links e.toSetting hl).op (op := VmOp.resolveClass f.method.cls x.catchType) rfl
  have hal : S0.vm.Alike (S0.vm.noted f.method.cls x.catchType (.cls cT)) := (Vm.Alike.refl S0.vm).noted _ _ _
  obtain ⟨k1, hk1⟩ := hk
  obtain ⟨k2, hk2⟩ := hc
  obtain ⟨k1', hk1', -⟩ := hal.2.2 _ _ hk1
  obtain ⟨k2', hk2', -⟩ := hal.2.2 _ _ hk2
  have has : (S0.vm.noted f.method.cls x.catchType (.cls cT)).assignable cell.cls cT = S0.vm.assignable cell.cls cT := hal.assignable ..
  cases hfit : S0.vm.assignable cell.cls cT <;> simp [findHandler.go, hx, h0, ha, ht, hcell, hobj, hk1', hk2', has, hfit, VmOp.dirties, VmOp.acts]
end KXS
section KXT
variable {E : kx_E} {I : kx_I} {d mc ms : Nat} {Q : kx_Q} {k j pc : Nat} {lv : List (Nat × Value)} {n : Nat} {h : kx_H}
theorem kx_search {p : Program} {e : Env} {R : Room} {s : State} {m : MethodId} {args : Array Value} {meth : Method} {c : Code} {below : List Frame} {T : State} {locs : List Loc} {cells slots : Nat} (X : Stand p E.1 e R s m args below meth c T locs cells slots) (C : kx_C E I d mc ms p e R s m args meth c) {g : JFrame} (hg : g.method = m) {S0 : State} {a : Addr} {ce : Cell} {Xc : String} {hpc : Nat} (hce : S0.heap[a]? = some ce) (hns : ce.vm.isStatics = false) (hfc : E.2.1.vm.findClass Xc = some ce.cls) :
    ∀ (tb : List ExceptionTableEntry), kx_sel I.1 Xc g.pc hpc (tb.map (fun x => (x.startPc, x.endPc, x.handlerPc, x.catchType))) → ∀ vm1 : Vm, s.WarmedH vm1 → ∃ vm2, s.WarmedH vm2 ∧ ∀ (Qh : Handler → Pre) (Ee : CtlPost) (dd : Bool) (acts : List Action), wp (findHandler.go g a tb) Qh Ee e dd acts (S0.setVm vm1) ↔ Qh (.found hpc) dd acts (S0.setVm vm2)
  | [], hs, _, _ => hs.elim
  | x :: t, hs, vm1, hW1 => by
    obtain ⟨⟨c1, c2⟩, h0, Cn, hlk, hX1, hX2, hcase⟩ := hs
    have hyn := C.g.2.2.2.2 Xc hX1 Cn hX2
    have hpl : e.platform.magicAccessors = ({} : Platform).magicAccessors := by rw [X.admits.platform]
    have hx : covers x g.pc = true := by
      simp only [covers, Bool.and_eq_true, decide_eq_true_eq]
      exact ⟨c1, c2⟩
    obtain ⟨cT, hcT, hcl⟩ := Cond.classLink_spec C.own (C.w hlk) e.platform hpl
    obtain ⟨dk, _, _, kt, hdk, _, _, _, _, hkt, _, hopen⟩ := hcl.here
    have hcl1 : vm1.ClassLinks e.platform m.cls x.catchType cT := hW1.classLinks hcl
    have hW' : s.WarmedH (vm1.noted m.cls x.catchType (.cls cT)) := hW1.noted hdk hopen (State.rightAt_cls hcl)
    have halE := (State.WarmedH.trans C.wm hW1).alike
    have hob : ∀ z, ce.vm ≠ .statics z := fun z hz => by rw [hz] at hns; cases hns
    obtain ⟨kx1, hkx1⟩ := Vm.classAt_of_findClass (vm := vm1) (by rw [halE.findClass]; exact hfc)
    obtain ⟨kt1, hkt1, -⟩ := hW1.alike.2.2 _ _ hkt
    have hin := kx_goIn (e := e) (S0 := S0.setVm vm1) (f := g) (a := a) (x := x) (t := t) (cT := cT) (cell := ce) hx h0 (by rw [hg]; exact hcl1) hce hob ⟨kx1, hkx1⟩ ⟨kt1, hkt1⟩
    have hcE : E.2.1.vm.findClass Cn = some cT := by rw [← C.wm.alike.findClass]; exact hcT
    rcases hcase with ⟨hcs, hp⟩ | ⟨hcs, hrest⟩
    · obtain ⟨a1, b1, g1, g2, g3⟩ := hyn.1 hcs
      cases hfc.symm.trans g1
      cases hcE.symm.trans g2
      refine ⟨_, hW', fun Qh Ee dd acts => ?_⟩
      rw [hin Qh Ee dd acts, if_pos (by show vm1.assignable _ _ = true; rw [halE.assignable]; exact g3), hg]
      dsimp only at hp
      rw [hp]
      exact Iff.rfl
    · obtain ⟨a1, b1, g1, g2, g3⟩ := hyn.2 hcs
      cases hfc.symm.trans g1
      cases hcE.symm.trans g2
      obtain ⟨vm2, hW2, hgo⟩ := kx_search X C hg hce hns hfc t hrest _ hW'
      refine ⟨vm2, hW2, fun Qh Ee dd acts => ?_⟩
      rw [hin Qh Ee dd acts, if_neg (by show ¬ vm1.assignable _ _ = true; rw [halE.assignable, g3]; decide), hg]
      exact hgo Qh Ee dd acts
theorem kx_caught {tb : Tables} {e : Env} {T target : State} {g : JFrame} {c : Code} {below : List Frame} {a : Addr} (hA : At T g.method c below) {hpc : Nat} {vm2 : Vm}
    (hf : ∀ (Qh : Handler → Pre) (Ee : CtlPost) (dd : Bool) (acts : List Action), wp (findHandler g a) Qh Ee e dd acts ((T.setTop g).pushFrame (.throwing a)) ↔ Qh (.found hpc) dd acts (((T.setTop g).pushFrame (.throwing a)).setVm vm2))
    (hrest : Steps tb e below ((T.setVm vm2).setTop { g with pc := hpc, stack := [.ref a] }) target) : Steps tb e below ((T.setTop g).pushFrame (.throwing a)) target := by
  obtain ⟨hgo, hw⟩ := hA.throwing a
  refine Steps.head hgo hw ?_
  have hst : ∀ r, (stepThrowing e ((T.setTop g).pushFrame (.throwing a)) a (.java g :: r)).1 = (((T.setTop g).pushFrame (.throwing a)).setVm vm2).setFrames (.java { g with pc := hpc, stack := [.ref a] } :: r) := by
    intro r
    simp only [stepThrowing, searchFrame, vmDo]
    generalize hr : Sem.go _ e false [] ((T.setTop g).pushFrame (.throwing a)) = res
    obtain ⟨as, rfl, -⟩ := Sem.eq_ok_of hr (a := Handler.found hpc) (s' := ((T.setTop g).pushFrame (.throwing a)).setVm vm2) (acts' := []) (by simp [hf _ _ _ _])
    rfl
  rw [stepThread_throwing (frames_entered hA.top _), hst]
  obtain ⟨g₀, hg⟩ := Option.isSome_iff_exists.mp hA.top
  obtain ⟨r, hr⟩ := State.topJava?_eq_some.mp hg
  have hr' : (T.setVm vm2).frames = .java g₀ :: r := hr
  rw [State.setTop_of_frames _ hr'] at hrest
  have e1 : ((((T.setTop g).pushFrame (.throwing a)).setVm vm2).setFrames (.java { g with pc := hpc, stack := [.ref a] } :: T.frames.tail)) = (T.setVm vm2).setFrames (.java { g with pc := hpc, stack := [.ref a] } :: r) := by
    rw [hr, List.tail_cons, State.pushFrame, State.setTop_of_frames _ hr]
    have h1 : ∀ (F G : List Frame), (((T.setFrames F).setFrames G).setVm vm2) = ((T.setVm vm2).setFrames F).setFrames G := fun _ _ => rfl
    rw [h1, State.setFrames_setFrames, State.setFrames_setFrames]
  rw [e1]
  exact hrest
theorem kx_X.catch {Xc : String} {hpc : Nat} (hs : kx_sel I.1 Xc pc hpc I.2.2.2.2.1) {i : Nat} {lv' : List (Nat × Value)} {ln : Nat} (hdg : (ln = 1 ∧ ∃ f : Fin 4, (f : Nat) = i ∧ decode I.2.1 hpc = .ok (.astore_n f, 1)) ∨ (ln = 2 ∧ decode I.2.1 hpc = .ok (.astore i, 2))) (hn : i < I.2.2.1) (hl : lv.filter (fun q => !(q.1 == i) && !(q.1 + 1 == i && q.2.category == 2)) = lv')
    (kk : kx_V E I d mc ms Q k j (hpc + ln) lv' [] n h) : kx_X E I d mc ms Q k j pc lv Xc n h := by
  intro p e R s m args below meth c H locs ls cells slots C P L V hk hj st a ce hce hns hfc T hT X
  obtain ⟨vm2, hW2, hgo⟩ := kx_search X C (g := F0 m pc ls st) rfl (S0 := (T.setTop (F0 m pc ls st)).pushFrame (.throwing a)) (a := a) (ce := ce) (Xc := Xc) (hpc := hpc) (by rw [Stand.throwing_heap, hT]; exact hce) hns hfc c.exceptionTable.toList (by rw [C.tb]; exact hs) T.vm X.warmed
  have hself : ((T.setTop (F0 m pc ls st)).pushFrame (.throwing a)).setVm T.vm = (T.setTop (F0 m pc ls st)).pushFrame (.throwing a) := by
    have h1 : ((T.setTop (F0 m pc ls st)).pushFrame (.throwing a)).vm = T.vm := Stand.throwing_vm T _ a
    rw [← h1, State.setVm_self]
  rw [hself] at hgo
  have hfind : ∀ (Qh : Handler → Pre) (Ee : CtlPost) (dd : Bool) (acts : List Action), wp (findHandler (F0 m pc ls st) a) Qh Ee e dd acts ((T.setTop (F0 m pc ls st)).pushFrame (.throwing a)) ↔ Qh (.found hpc) dd acts (((T.setTop (F0 m pc ls st)).pushFrame (.throwing a)).setVm vm2) := by
    intro Qh Ee dd acts
    rw [W.findHandler_eq (meth := meth) (code := c) (by rw [Stand.throwing_vm]; exact X.method') X.code]
    exact hgo Qh Ee dd acts
  have X2 : Stand p E.1 e R s m args below meth c (T.setVm vm2) locs cells slots := X.noted hW2
  have w : W p E.1 e R s m args below meth c H locs cells slots (kx_Z E mc ms Q below s) (F0 m hpc ls [.ref a]) := by
    have key : ∀ ls' : Array Slot, lv_has ls' I.2.2.1 ((i, Value.ref a) :: (kx_l E lv).filter (fun q => !(q.1 == i) && !(q.1 + 1 == i && q.2.category == 2))) → W p E.1 e R s m args below meth c H locs cells slots (kx_Z E mc ms Q below s) (F0 m (hpc + ln) ls' []) := by
      intro ls' V'
      refine kk p e R s m args below meth c H locs ls' cells slots C P L ⟨V'.1, V'.2.1, fun q hq => ?_⟩ hk hj
      refine V'.2.2 q (List.mem_cons_of_mem _ ?_)
      have h9 := kx_l_st1 E lv i (.int 0)
      have h8 : (kx_l E lv).filter (fun q => !(q.1 == i) && !(q.1 + 1 == i && q.2.category == 2)) = kx_l E (lv.filter (fun q => !(q.1 == i) && !(q.1 + 1 == i && q.2.category == 2))) := (List.cons.inj h9).2
      rw [h8, hl]
      exact hq
    rcases hdg with ⟨rfl, f, hf, hdg⟩ | ⟨rfl, hdg⟩
    · exact lv_astore_n C.ex C.bt hdg hf V hn rfl key
    · exact lv_astore C.ex C.bt hdg V hn rfl key
  obtain ⟨t, a1, b1⟩ := w (T.setVm vm2) hT X2
  exact ⟨t, kx_caught (g := F0 m pc ls st) X.here hfind a1, b1⟩
end KXT
section KXM
variable {E : kx_E} {I : kx_I} {d mc ms : Nat} {Q : kx_Q} {k j pc : Nat} {lv : List (Nat × Value)} {st : List Value} {n : Nat} {h : kx_H}
theorem kx_max {index : Nat} {x y : Int32} (hdg : decode I.2.1 pc = .ok (.invokestatic index, 3)) (h1 : Cond.methodLink I.1 index Lib.Math.max.name ∈ kx_tb) (h2 : Cond.static Lib.Math.max.name ∈ kx_tb) (h3 : Cond.initialized "java/lang/Math" ∈ kx_tb) (h4 : Cond.code Lib.Math.max.name Lib.Math.max.code 2 (some .int) ∈ kx_tb) (hd : 1 ≤ d) (hs : (st.map fun v => v.category).sum ≤ 8)
    (kk : kx_V E I d mc ms Q k j (pc + 3) lv (.int (if x < y then y else x) :: st) n h) : kx_V E I d mc ms Q k j pc lv (.int y :: .int x :: st) n h := by
  intro p e R s m args below meth c H locs ls cells slots C P L V hk hj
  have hc : ((List.map (kx_v (kx_B E)) st).map fun v => v.category).sum = _ := kx_s_cat E st
  have hl := C.lc
  have hf := C.fr
  exact va_mmax C.ex C.bt (C.ml.trans V.1.symm) C.own (C.w h1) (C.w h2) (C.w h3) (C.w h4) (by omega) (by omega) (by rw [C.rc]; omega) (by rw [C.rs]; omega) hdg (kk p e R s m args below meth c H locs ls cells slots C P L V hk hj)
theorem kx_min {index : Nat} {x y : Int32} (hdg : decode I.2.1 pc = .ok (.invokestatic index, 3)) (h1 : Cond.methodLink I.1 index Lib.Math.min.name ∈ kx_tb) (h2 : Cond.static Lib.Math.min.name ∈ kx_tb) (h3 : Cond.initialized "java/lang/Math" ∈ kx_tb) (h4 : Cond.code Lib.Math.min.name Lib.Math.min.code 2 (some .int) ∈ kx_tb) (hd : 1 ≤ d) (hs : (st.map fun v => v.category).sum ≤ 8)
    (kk : kx_V E I d mc ms Q k j (pc + 3) lv (.int (if y < x then y else x) :: st) n h) : kx_V E I d mc ms Q k j pc lv (.int y :: .int x :: st) n h := by
  intro p e R s m args below meth c H locs ls cells slots C P L V hk hj
  have hc : ((List.map (kx_v (kx_B E)) st).map fun v => v.category).sum = _ := kx_s_cat E st
  have hl := C.lc
  have hf := C.fr
  exact va_mmin C.ex C.bt (C.ml.trans V.1.symm) C.own (C.w h1) (C.w h2) (C.w h3) (C.w h4) (by omega) (by omega) (by rw [C.rc]; omega) (by rw [C.rs]; omega) hdg (kk p e R s m args below meth c H locs ls cells slots C P L V hk hj)
theorem kx_maxl {index : Nat} {x y : Int64} (hdg : decode I.2.1 pc = .ok (.invokestatic index, 3)) (h1 : Cond.methodLink I.1 index Lib.MathLoose.max_long.x ∈ kx_tb) (h2 : Cond.static Lib.MathLoose.max_long.x ∈ kx_tb) (h3 : Cond.initialized "java/lang/Math" ∈ kx_tb) (h4 : Cond.code Lib.MathLoose.max_long.x Lib.MathLoose.max_long.code 4 (some .long) ∈ kx_tb) (hd : 1 ≤ d) (hs : (st.map fun v => v.category).sum ≤ 8)
    (kk : kx_V E I d mc ms Q k j (pc + 3) lv (.long (if y < x then x else y) :: st) n h) : kx_V E I d mc ms Q k j pc lv (.long y :: .long x :: st) n h := by
  intro p e R s m args below meth c H locs ls cells slots C P L V hk hj
  have hc : ((List.map (kx_v (kx_B E)) st).map fun v => v.category).sum = _ := kx_s_cat E st
  have hl := C.lc
  have hf := C.fr
  exact va_mmax_long C.ex C.bt (C.ml.trans V.1.symm) C.own (C.w h1) (C.w h2) (C.w h3) (C.w h4) (by omega) (by omega) (by rw [C.rc]; omega) (by rw [C.rs]; omega) hdg (kk p e R s m args below meth c H locs ls cells slots C P L V hk hj)
theorem kx_minl {index : Nat} {x y : Int64} (hdg : decode I.2.1 pc = .ok (.invokestatic index, 3)) (h1 : Cond.methodLink I.1 index Lib.MathLoose.min_long.x ∈ kx_tb) (h2 : Cond.static Lib.MathLoose.min_long.x ∈ kx_tb) (h3 : Cond.initialized "java/lang/Math" ∈ kx_tb) (h4 : Cond.code Lib.MathLoose.min_long.x Lib.MathLoose.min_long.code 4 (some .long) ∈ kx_tb) (hd : 1 ≤ d) (hs : (st.map fun v => v.category).sum ≤ 8)
    (kk : kx_V E I d mc ms Q k j (pc + 3) lv (.long (if y < x then y else x) :: st) n h) : kx_V E I d mc ms Q k j pc lv (.long y :: .long x :: st) n h := by
  intro p e R s m args below meth c H locs ls cells slots C P L V hk hj
  have hc : ((List.map (kx_v (kx_B E)) st).map fun v => v.category).sum = _ := kx_s_cat E st
  have hl := C.lc
  have hf := C.fr
  exact va_mmin_long C.ex C.bt (C.ml.trans V.1.symm) C.own (C.w h1) (C.w h2) (C.w h3) (C.w h4) (by omega) (by omega) (by rw [C.rc]; omega) (by rw [C.rs]; omega) hdg (kk p e R s m args below meth c H locs ls cells slots C P L V hk hj)
theorem kx_copy {index N a b : Nat} {f g : Nat → Int64} (hdg : decode I.2.1 pc = .ok (.invokestatic index, 3)) (h1 : Cond.methodLink I.1 index arraycopyName ∈ kx_tb) (h2 : Cond.native arraycopyName ∈ kx_tb) (h3 : Cond.static arraycopyName ∈ kx_tb) (h4 : Cond.initialized "java/lang/System" ∈ kx_tb) (ha : h a = some (kx_cl N f)) (hb : h b = some (kx_cl N g)) (hN : N ≤ 100000) (hd : 3 ≤ d) (hs : (st.map fun v => v.category).sum ≤ 8)
    (kk : kx_V E I d mc ms Q k j (pc + 3) lv st n (kx_set h b (kx_cl N (va_cpy f g 0 0 N)))) : kx_V E I d mc ms Q k j pc lv (.int (nI N) :: .int 0 :: .ref b :: .int 0 :: .ref a :: st) n h := by
  intro p e R s m args below meth c H locs ls cells slots C P L V hk hj T hT X
  have hc : ((List.map (kx_v (kx_B E)) st).map fun v => v.category).sum = _ := kx_s_cat E st
  have hl := C.lc
  have hf := C.fr
  have hcl : (nI N).toNatClampNeg = N := nI_clamp (by omega)
  have htI : (nI N).toInt = (N : Int) := nI_toInt (by omega)
  have z0 : (0 : Int32).toNatClampNeg = 0 := rfl
  have zI : (0 : Int32).toInt = 0 := rfl
  have hw : nativeFrameWords "java/lang/System" "arraycopy" 5 + 11 ≤ 100 := by decide +kernel
  have hc0 : H[kx_B E + a]? = some (arrV (E.2.2.2 1) N (fun j => .long (f j))) := P.2.2.2 a _ ha
  have hc1 : H[kx_B E + b]? = some (arrV (E.2.2.2 1) N (fun j => .long (g j))) := P.2.2.2 b _ hb
  obtain ⟨-, k0, hk0, cm0, hkk0⟩ := (C.k.2 1 _ rfl).1 N (fun j => .long (f j))
  obtain ⟨-, k1, hk1, cm1, hkk1⟩ := (C.k.2 1 _ rfl).1 N (fun j => .long (g j))
  obtain ⟨vm', X', step⟩ := X.arraycopy C.ex C.own (C.w h1) (C.w h2) (C.w h3) (C.w h4) (src := kx_B E + a) (dst := kx_B E + b) (cs := arrV (E.2.2.2 1) N (fun j => .long (f j))) (cd := arrV (E.2.2.2 1) N (fun j => .long (g j))) (srcPos := 0) (destPos := 0) (n := nI N) (by rw [hT]; exact hc0) (by rw [hT]; exact hc1)
    (fun _ q => by cases q) (fun _ q => by cases q) (fun q => by cases q) (fun q => by cases q) hk0 hk1 hkk0 hkk1 (by simp [refKind]) (by decide) (by decide) (nI_pos (by omega))
    (by rw [zI, htI, arrV_size]; omega) (by rw [zI, htI, arrV_size]; omega)
    (fun vm₁ _ i hi => by
      rw [hcl] at hi
      have e : (arrV (E.2.2.2 1) N (fun j => .long (f j))).slots.getD ((0 : Int32).toNatClampNeg + i) .null = .long (f i) := by
        rw [z0, Nat.zero_add, Array.getD_eq_getD_getElem?, arrV_read _ _ hi]
        rfl
      refine ⟨?_, ?_⟩
      · rw [e]
        rfl
      · rw [e]
        exact trivial)
    (g := F0 m pc ls (kx_s E (.int (nI N) :: .int 0 :: .ref b :: .int 0 :: .ref a :: st))) rfl (V.1.trans C.ml.symm) (rest := kx_s E st) rfl (by rw [C.bt]; exact hdg) (by omega) (by show 2 * 0 + ((List.map (kx_v (kx_B E)) st).map fun v => v.category).sum + _ ≤ _; omega)
  have e1 : copied (arrV (E.2.2.2 1) N (fun j => .long (f j))) (arrV (E.2.2.2 1) N (fun j => .long (g j))) 0 0 (nI N) = arrV (E.2.2.2 1) N (fun j => .long (va_cpy f g 0 0 N j)) := by
    have e0 := va_copied (fun z => Value.long z) (E.2.2.2 1) (E.2.2.2 1) (n0 := N) (n1 := N) (sp := 0) (dp := 0) (n := N) f g (by omega)
    unfold copied
    rw [hcl, z0]
    exact e0
  rw [e1] at X' step
  have hlt : kx_B E + b < H.size := (Array.getElem?_eq_some_iff.mp hc1).1
  have hheap : ((T.setVm vm').setCell (kx_B E + b) (arrV (E.2.2.2 1) N (fun j => .long (va_cpy f g 0 0 N j)))).heap = H.setIfInBounds (kx_B E + b) (arrV (E.2.2.2 1) N (fun j => .long (va_cpy f g 0 0 N j))) := by rw [← hT]; rfl
  obtain ⟨t, a1, b1⟩ := kk p e R s m args below meth c (H.setIfInBounds (kx_B E + b) (arrV (E.2.2.2 1) N (fun j => .long (va_cpy f g 0 0 N j)))) _ ls cells slots C (P.set (by simp) (fun q hq => by simp [Array.getElem?_setIfInBounds, Ne.symm hq]) (by show (H.setIfInBounds _ _)[_]? = some _; simp [Array.getElem?_setIfInBounds, hlt])) (fun q hq => by
      rcases List.mem_append.mp hq with g | g
      · exact L q g
      · obtain ⟨z, -, hz⟩ := List.mem_map.mp g
        rw [← hz]
        exact Nat.le_add_right _ _) V hk hj _ hheap X'
  exact ⟨t, step t a1, b1⟩
end KXM
