section KXF
variable {p : Program} {l : Launch} {e : Env} {R : Room} {s : State} {m : MethodId} {args : Array Value} {below : List Frame} {meth : Method} {c : Code} {T : State} {locs : List Loc} {cells slots : Nat}
theorem kx_rebase (X : Stand p l e R s m args below meth c T locs cells slots) {R' : Room} (h1 : R'.frames ≤ R.frames) (h2 : R'.locals ≤ R.locals) (h3 : cells + R'.cells ≤ R.cells) (h4 : slots + R'.slots ≤ R.slots) :
    Stand p l e R' (T.setFrames (.invoking m args :: below)) m args below meth c T [] 0 0 := by
  obtain ⟨g₀, hfr⟩ := X.frames_eq
  have hcur := State.cur_lt_of_frames hfr
  have hF : (T.setFrames (.invoking m args :: below)).frames = .invoking m args :: below := State.frames_setFrames _ hcur
  have hm : ∀ z, T.vm.method? z = s.vm.method? z := fun z => X.warmed.alike.method? z
  have hmeth : (T.setFrames (.invoking m args :: below)).vm.method? m = some meth := X.method'
  refine ⟨X.admits, X.cas, X.clock, hF, ?_, ?_, hmeth, X.code, X.here, X.tail, State.WarmedH.refl (T.setFrames (.invoking m args :: below)), by rw [State.stackLimits_setFrames], by rw [State.stackBytes_setFrames], ?_⟩
  · have hr := X.room
    have hz := X.heapSize
    have hu := X.used
    have hbk : (T.setFrames (.invoking m args :: below)).slotsTrue = true := X.book
    simp only [State.hasRoom, Bool.and_eq_true, decide_eq_true_eq] at hr ⊢
    rw [State.localsInUse_invoking X.frames X.method X.code, X.frames] at hr
    rw [State.localsInUse_invoking hF hmeth X.code, hF, State.stackLimits_setFrames, State.stackBytes_setFrames, X.limits, X.bytes]
    obtain ⟨⟨⟨⟨r1, r2, r3, r4, r5, r6⟩, r7⟩, r8⟩, r9⟩ := hr
    refine ⟨⟨⟨⟨by omega, by omega, by omega, by omega, by omega, r6⟩, ?_⟩, ?_⟩, hbk⟩
    · show T.heap.size + R'.cells ≤ _
      omega
    · show T.slotsUsed + R'.slots ≤ _
      omega
  · have h0 := X.hears
    have hco : ∀ z, (T.setFrames (.invoking m args :: below)).code? z = s.code? z := fun z => by
      rw [State.code?_eq, State.code?_eq]
      show (T.vm.method? z).bind _ = _
      rw [hm z]
    have hm2 : ∀ z, (T.setFrames (.invoking m args :: below)).vm.method? z = s.vm.method? z := hm
    cases below with
    | nil => simpa only [State.hears, hm2] using h0
    | cons f r => cases f <;> first | simpa only [State.hears, hco] using h0 | simpa only [State.hears, hm2] using h0
  · obtain ⟨th, hth, -⟩ := State.frames_cons hF
    have hb := (State.sameButNew.refl (T.setFrames (.invoking m args :: below)) hth).setFrames T.frames (State.cur_lt_of_frames hF)
    obtain ⟨th2, hth2, -⟩ := State.frames_cons hfr
    rw [State.setFrames_setFrames, State.setFrames_self hth2] at hb
    exact hb
theorem kx_gone (X : Stand p l e R s m args below meth c T locs cells slots) {a : Addr} {t : State} (hend : Ended t below (.threw a)) (hW : (T.setFrames (.invoking m args :: below)).WarmedH t.vm) {k n : Nat} (hs : (T.setFrames (.invoking m args :: below)).sameButNew ({ t with vm := (T.setFrames (.invoking m args :: below)).vm } : State) [] k n) :
    s.WarmedH t.vm ∧ s.sameButNew ({ t with vm := s.vm } : State) locs (cells + k) (slots + n) := by
  obtain ⟨e2, q2, q3, q4, q5, q6⟩ := hs
  obtain ⟨g₀, hfr⟩ := X.frames_eq
  have hf : t.frames = .throwing a :: below := hend
  have hW' : T.WarmedH t.vm := hW
  have e3 : t = (({ (T.setFrames (.invoking m args :: below)).setFrames t.frames with heap := t.heap, slotsUsed := t.slotsUsed } : State)).setVm t.vm := by
    have : t = ({ t with vm := (T.setFrames (.invoking m args :: below)).vm } : State).setVm t.vm := rfl
    rw [e2] at this
    exact this
  have hB : T.sameButNew ({ T with heap := t.heap, slotsUsed := t.slotsUsed } : State) [] k n := by
    refine ⟨?_, q2, q3, q4, q5, q6⟩
    obtain ⟨th, hth, -⟩ := State.frames_cons hfr
    show ({ T with heap := t.heap, slotsUsed := t.slotsUsed } : State) = { T.setFrames T.frames with heap := t.heap, slotsUsed := t.slotsUsed }
    rw [State.setFrames_self hth]
  have X' : Stand p l e R s m args below meth c (({ T with heap := t.heap, slotsUsed := t.slotsUsed } : State).setVm t.vm) (locs ++ []) (cells + k) (slots + n) :=
    ⟨X.admits, X.cas, X.clock, X.frames, X.room, X.hears, X.method, X.code, (X.here.setHeapUsed t.heap t.slotsUsed).setVm hW'.alike, X.tail, State.WarmedH.trans X.warmed hW', X.limits, X.bytes, X.same.trans (hB.setVm s.vm)⟩
  rw [List.append_nil] at X'
  have hE := X'.ends (.throwing a :: below)
  have ht : t = (({ T with heap := t.heap, slotsUsed := t.slotsUsed } : State).setVm t.vm).setFrames (.throwing a :: below) := by
    refine e3.trans ?_
    rw [hf, State.setFrames_setFrames]
    rfl
  rw [← ht] at hE
  exact hE
end KXF
def kx_tx (own : String) (inew ic : Nat) (Xc : String) (names : List String) : Prop := Bundle.fit Xc = true ∧ (∀ q ∈ names, Bundle.fit q = true) ∧ Cond.classLink own inew Xc ∈ kx_tb ∧ Cond.instantiable Xc 6 ∈ kx_tb ∧ Cond.initialized Xc ∈ kx_tb ∧ ∀ w ∈ Bundle.ownAtoms own ic Xc names, w ∈ kx_tb ∨ w ∈ kx_hw ∨ w ∈ kx_hr ∨ (w ∈ lw_tbl ∧ kx_dc w = true)
section KXG
variable {E : kx_E} {I : kx_I} {d mc ms : Nat} {Q : kx_Q} {k j pc : Nat} {lv : List (Nat × Value)} {st : List Value} {n : Nat} {h : kx_H}
theorem kx_throw {inew istr ic : Nat} {Xc tx : String} {names : List String} (d0 : decode I.2.1 pc = .ok (.new inew, 3)) (d3 : decode I.2.1 (pc + 3) = .ok (.dup, 1)) (d4 : decode I.2.1 (pc + 3 + 1) = .ok (.ldc istr, 2)) (d6 : decode I.2.1 (pc + 3 + 1 + 2) = .ok (.invokespecial ic, 3)) (d9 : decode I.2.1 (pc + 3 + 1 + 2 + 3) = .ok (.athrow, 1))
    (hx : kx_tx I.1 inew ic Xc names) (hstr : (I.1, istr, tx) ∈ kx_strs) (hno : ∀ x ∈ I.2.2.2.2.1, ¬ (x.1 ≤ pc + 3 + 1 + 2 + 3 ∧ pc + 3 + 1 + 2 + 3 < x.2.1)) (hd : names.length + 4 ≤ d) (hcat : (st.map fun v => v.category).sum ≤ 8) (hq : Q (Sum.inr Xc) (n + 1) h) : kx_V E I d mc ms Q (k + 1) (j + 6) pc lv st n h := by
  intro p e R s m args below meth c H locs ls cells slots C P L V hk hj T hT X
  obtain ⟨f1, f2, w1, w2, w3, hat⟩ := hx
  have hrc := C.rc
  have hrs := C.rs
  have hfr := C.fr
  have hlc := C.lc
  have hW2 : E.2.1.WarmedH T.vm := State.WarmedH.trans C.wm X.warmed
  have Y := kx_rebase X (R' := { frames := R.frames, cells := 1, slots := 6, locals := R.locals }) (Nat.le_refl _) (Nat.le_refl _) (by show cells + 1 ≤ _; omega) (by show slots + 6 ≤ _; omega)
  generalize hs2 : T.setFrames (.invoking m args :: below) = s2 at Y
  have hvm2 : s2.vm = T.vm := by rw [← hs2]; rfl
  have hhp2 : s2.heap = H := by rw [← hs2, ← hT]; rfl
  have hW3 : E.2.1.WarmedH s2.vm := by rw [hvm2]; exact hW2
  have hown2 : s2.vm.findClass I.1 = some m.cls := by rw [hvm2, X.warmed.alike.findClass]; exact C.own
  have hT2 : kx_T s2 := C.g.2.2.2.1.to hW3 (fun q hq => by rw [hhp2]; exact P.2.1 q hq)
  have hwd : ∀ w ∈ Bundle.ownAtoms I.1 ic Xc names, w.before args s2 = true := fun w hw => by
    rcases hat w hw with g | g | g | g
    · exact kx_word C.g g args hW3
    · exact hT2.1 w g args
    · exact hT2.2.1 w g args
    · exact kx_word2 C.g g.1 g.2 args hW3
  have htr : e.platform.stackTraces = false := by
    have h0 := X.admits.2.2.2.2.1
    rw [h0]
    exact C.g.1
  have hout : ∀ x ∈ c.exceptionTable.toList, covers x (pc + 3 + 1 + 2 + 3) = false := by
    intro x hx
    have h1 := hno (x.startPc, x.endPc, x.handlerPc, x.catchType) (by rw [← C.tb]; exact List.mem_map.mpr ⟨x, hx, rfl⟩)
    simp only [covers, Bool.and_eq_false_iff, decide_eq_false_iff_not]
    by_cases h2 : x.startPc ≤ pc + 3 + 1 + 2 + 3
    · exact Or.inr (fun h3 => h1 ⟨h2, h3⟩)
    · exact Or.inl h2
  obtain ⟨cX, kX, hfX, hkX, -⟩ := Cond.instantiable_spec (kx_word C.g w2 args hW3)
  obtain ⟨qs, hZ⟩ := hT2.2.2 _ hstr
  have hc8 : ((List.map (kx_v (kx_B E)) st).map fun v => v.category).sum = _ := kx_s_cat E st
  have w : W p E.1 e { frames := R.frames, cells := 1, slots := 6, locals := R.locals } s2 m args below meth c H [] 0 0 (fun t => ∃ (a : Addr) (ce : Cell), t.status = .running ∧ Ended t below (.threw a) ∧ s2.WarmedH t.vm ∧ s2.sameButNew ({ t with vm := s2.vm } : State) [] 1 6 ∧ t.heap[a]? = some ce ∧ a = H.size ∧ ce.vm = .none ∧ s2.vm.findClass Xc = some ce.cls) (F0 m pc ls (kx_s E st)) := by
    refine W.newcK C.ex C.bt hown2 (kx_word C.g w1 args hW3) (kx_word C.g w2 args hW3) (kx_word C.g w3 args hW3) rfl d0 (by show 0 + 1 ≤ 1; omega) (by show 0 + 6 ≤ 6; omega) hfX rfl fun H1 kC hkC e1 z1 o1 => ?_
    cases hkX.symm.trans hkC
    refine lv_dup C.ex C.bt d3 rfl ?_
    refine va_ldcS C.ex C.bt hown2 hZ d4 ?_
    intro T2 hT2 X2
    obtain ⟨U, hsteps, hrun, hend, hWU, hsame, ce, hce, O⟩ := X2.ctorThrowS C.ex htr hown2 f1 f2 hwd (fun x hx => by cases hx) hfX hkX (a := H.size) (by rw [hT2]; exact e1) (by rw [hhp2]; exact Nat.le_refl _) (msg := .ref qs) rfl (g := F0 m (pc + 3 + 1 + 2) ls (.ref qs :: .ref H.size :: .ref H.size :: kx_s E st)) rfl (V.1.trans C.ml.symm) rfl rfl rfl (by rw [C.bt]; exact d6) (by rw [C.bt]; exact d9) hout (by show names.length + 3 < R.frames; omega) (by
        show 2 * 0 + ((Value.ref H.size :: kx_s E st).map fun v => v.category).sum + (13 * (names.length + 1) + 42) ≤ R.locals
        rw [List.map_cons, List.sum_cons]
        show 2 * 0 + (1 + ((List.map (kx_v (kx_B E)) st).map fun v => v.category).sum) + _ ≤ _
        omega) (hlocks := C.lk)
    exact ⟨U, hsteps, H.size, ce, hrun, hend, hWU, hsame, hce, rfl, O.vm, O.cls⟩
  obtain ⟨t, hsteps, a, ce, hrun, hend, hWt, hsame, hce, ha, hvn, hfc⟩ := w T hT Y
  subst hs2
  obtain ⟨g1, g2⟩ := kx_gone X hend hWt hsame
  have hlt : a < t.heap.size := (Array.getElem?_eq_some_iff.mp hce).1
  have hz4 : H.size < t.heap.size := by rw [ha] at hlt; exact hlt
  have hz3 : t.heap.size ≤ H.size + 1 := by have := hsame.2.2.1; rw [hhp2] at this; exact this
  refine ⟨t, hsteps, .threw a, hrun, hend, g1, ⟨locs, g2.mono (by omega) (by omega), L⟩, Sum.inr Xc, n + 1, h, P.junk (by omega) (fun q hq => ?_) (fun cell hc => ?_), ⟨a, ce, rfl, hce, by rw [hvn]; rfl, ?_⟩, hq⟩
  · have hq2 : (T.setFrames (.invoking m args :: below)).heap[q]? = some H[q] := by rw [hhp2]; exact Array.getElem?_eq_getElem hq
    rw [Array.getElem?_eq_getElem hq]
    exact State.sameButNew.old_cell hsame hq2
  · rw [← ha, hce] at hc
    cases hc
    rw [hvn]; rfl
  · rw [← hfc, hW3.alike.findClass]
end KXG
