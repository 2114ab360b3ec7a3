theorem kx_forget {s t : State} {L : List Loc} {k n : Nat} (h : s.sameButNew t L k n) (hL : ∀ q ∈ L, s.heap.size ≤ q.base) : s.sameButNew t [] k n := by
  obtain ⟨h1, h2, h3, h4, h5, h6⟩ := h
  refine ⟨h1, h2, h3, h4, h5, fun a c ha => ?_⟩
  obtain ⟨c', g1, g2, g3, g4⟩ := h6 a c ha
  refine ⟨c', g1, g2, g3, fun i _ => g4 i fun hq => ?_⟩
  have h7 : a < s.heap.size := (Array.getElem?_eq_some_iff.mp ha).1
  have h8 : s.heap.size ≤ a := hL _ hq
  exact absurd h7 (Nat.not_lt.mpr h8)
theorem ks_cls {s : State} {A : Array Value} (hts : ∀ w ∈ lw_tbl, w.before A s = true) : ∃ D : va_G, ∀ (c : Nat) (q : vw_C), kx_cls[c]? = some q → u_Kn s q.1 q.2.1 q.2.2 (D.1 c) (D.2 c) := by
  have htk : ∀ w ∈ kx_tb, w.before A s = true := fun w hw => hts w (List.mem_filter.mp hw).1
  obtain ⟨c0, i0, K0⟩ := u_known (C := "EventKeeper") (T := T_EK) (N := 3) (n := 3) htk kt_EK (htk (.instantiable "EventKeeper" 3) (kx_t 15 (by decide +kernel) rfl))
  obtain ⟨c1, i1, K1⟩ := u_known (C := "EventKeeper$Log") (T := T_L) (N := 11) (n := 11) htk kt_L (htk (.instantiable "EventKeeper$Log" 11) (kx_t 23 (by decide +kernel) rfl))
  obtain ⟨c2, i2, K2⟩ := u_known (C := "EventKeeper$Projection") (T := T_P) (N := 8) (n := 8) htk kt_P (htk (.instantiable "EventKeeper$Projection" 8) (kx_t 83 (by decide +kernel) rfl))
  obtain ⟨c3, i3, K3⟩ := u_known (C := "EventKeeper$Subscription") (T := T_S) (N := 4) (n := 4) htk kt_S (htk (.instantiable "EventKeeper$Subscription" 4) (kx_t 117 (by decide +kernel) rfl))
  obtain ⟨c4, i4, K4⟩ := u_known (C := "EventKeeperModel") (T := T_M) (N := 19) (n := 19) htk kt_M (htk (.instantiable "EventKeeperModel" 19) (kx_t 467 (by decide +kernel) rfl))
  refine ⟨(fun k => match k with | 0 => c0 | 1 => c1 | 2 => c2 | 3 => c3 | _ => c4, fun k => match k with | 0 => i0 | 1 => i1 | 2 => i2 | 3 => i3 | _ => i4), ?_⟩
  intro c q hq
  match c, hq with
  | 0, hq =>
    have e : (("EventKeeper", T_EK, 3) : vw_C) = q := Option.some.inj hq
    subst e
    exact K0
  | 1, hq =>
    have e : (("EventKeeper$Log", T_L, 11) : vw_C) = q := Option.some.inj hq
    subst e
    exact K1
  | 2, hq =>
    have e : (("EventKeeper$Projection", T_P, 8) : vw_C) = q := Option.some.inj hq
    subst e
    exact K2
  | 3, hq =>
    have e : (("EventKeeper$Subscription", T_S, 4) : vw_C) = q := Option.some.inj hq
    subst e
    exact K3
  | 4, hq =>
    have e : (("EventKeeperModel", T_M, 19) : vw_C) = q := Option.some.inj hq
    subst e
    exact K4
  | k + 5, hq =>
    have h1 : k + 5 < 5 := (List.getElem?_eq_some_iff.mp hq).1
    exact absurd h1 (by omega)
theorem ks_arr {s : State} {A : Array Value} (hts : ∀ w ∈ lw_tbl, w.before A s = true) : ∃ aC : Nat → Nat, ∀ (k : Nat) (q : ClassId × FieldType), (kx_tys aC)[k]? = some q → ArrOfT s q.1 q.2 ∧ va_RA s q.1 q.2 := by
  obtain ⟨a0, k0, m0, f0, h0, g0⟩ := Cond.arrayClass_spec (hts (.arrayClass .int) (List.mem_append_right _ (List.mem_of_getElem? (i := 79) (by decide +kernel))))
  obtain ⟨a1, k1, m1, f1, h1, g1⟩ := Cond.arrayClass_spec (hts (.arrayClass .long) (List.mem_append_right _ (List.mem_of_getElem? (i := 80) (by decide +kernel))))
  obtain ⟨m2, a2, k2, n2, -, h2, g2, f2⟩ := Cond.arrayOver_spec (hts (.arrayOver (.object "EventKeeper$Projection")) (List.mem_append_right _ (List.mem_of_getElem? (i := 82) (by decide +kernel))))
  obtain ⟨m3, a3, k3, n3, -, h3, g3, f3⟩ := Cond.arrayOver_spec (hts (.arrayOver (.object "EventKeeper$Subscription")) (List.mem_append_right _ (List.mem_of_getElem? (i := 116) (by decide +kernel))))
  have b0 : ArrOfT s a0 .int := fun n z => ⟨fun k h => (by cases h), k0, h0, m0, g0⟩
  have b1 : ArrOfT s a1 .long := fun n z => ⟨fun k h => (by cases h), k1, h1, m1, g1⟩
  have b2 : ArrOfT s a2 (.object kx_q0) := fun n z => ⟨fun k h => (by cases h), k2, h2, m2, g2⟩
  have b3 : ArrOfT s a3 (.object kx_q1) := fun n z => ⟨fun k h => (by cases h), k3, h3, m3, g3⟩
  have r2 : va_RA s a2 (.object kx_q0) := ⟨k2, m2, h2, g2, n2, f2⟩
  have r3 : va_RA s a3 (.object kx_q1) := ⟨k3, m3, h3, g3, n3, f3⟩
  refine ⟨fun k => match k with | 0 => a0 | 1 => a1 | 2 => a2 | _ => a3, ?_⟩
  intro k q hq
  match k, hq with
  | 0, hq =>
    have e : ((a0, .int) : ClassId × FieldType) = q := Option.some.inj hq
    subst e
    exact ⟨b0, f0⟩
  | 1, hq =>
    have e : ((a1, .long) : ClassId × FieldType) = q := Option.some.inj hq
    subst e
    exact ⟨b1, f1⟩
  | 2, hq =>
    have e : ((a2, .object kx_q0) : ClassId × FieldType) = q := Option.some.inj hq
    subst e
    exact ⟨b2, r2⟩
  | 3, hq =>
    have e : ((a3, .object kx_q1) : ClassId × FieldType) = q := Option.some.inj hq
    subst e
    exact ⟨b3, r3⟩
  | k + 4, hq =>
    have h9 : k + 4 < 4 := (List.getElem?_eq_some_iff.mp hq).1
    exact absurd h9 (by omega)
theorem ks_no {s : State} {A : Array Value} {X Y : String} (h : (Cond.not (.castable X Y)).before A s = true) : ∃ a b : ClassId, s.vm.findClass X = some a ∧ s.vm.findClass Y = some b ∧ s.vm.assignable a b = false := by
  simp only [Cond.before, Cond.holds, Cond.value] at h
  cases hc : s.vm.findClass X with
  | none => simp [hc] at h
  | some a =>
    cases hd : s.vm.findClass Y with
    | none => simp [hc, hd] at h
    | some b => exact ⟨a, b, rfl, rfl, by simpa [hc, hd] using h⟩
theorem ks_yes {s : State} {A : Array Value} {X : String} (h : (Cond.instantiable X 6).before A s = true) : ∃ a : ClassId, s.vm.findClass X = some a ∧ s.vm.assignable a a = true := by
  obtain ⟨cC, kC, hfc, hk, hkind, -⟩ := Cond.instantiable_spec h
  exact ⟨cC, hfc, va_assign (C := X) ⟨hfc, kC, hk, hkind⟩⟩
theorem ks_hi : ∀ X ∈ kx_exc, Cond.instantiable X 6 ∈ lw_tbl := by decide +kernel
theorem ks_hn : ∀ X ∈ kx_exc, ∀ Y ∈ kx_exc, X ≠ Y → Cond.not (.castable X Y) ∈ flatC (Jvm.Cond.and given_1 narrow_1) := by decide +kernel
theorem ks_hs : ∀ q ∈ kx_strs, Cond.stringRef q.1 q.2.1 q.2.2 ∈ lw_tbl ∧ q.1 = "EventKeeper" := by decide +kernel
theorem ks_hw : ∀ w ∈ kx_hw, w ∈ lw_tbl := by decide +kernel
theorem ks_hr : ∀ w ∈ kx_hr, w ∈ flatC (Jvm.Cond.and given_1 narrow_1) := by decide +kernel
theorem ks_T {s : State} {A : Array Value} {cE : ClassId} (hts : ∀ w ∈ lw_tbl, w.before A s = true) (hs : ∀ w ∈ flatC (Jvm.Cond.and given_1 narrow_1), w.before A s = true) (hE : s.vm.findClass "EventKeeper" = some cE) : kx_T s := by
  have hR := State.WarmedH.refl s
  refine ⟨fun w hw a => ?_, fun w hw a => ?_, fun q hq => ?_⟩
  · have h0 := hts w (ks_hw w hw)
    simp only [kx_hw, List.mem_cons, List.not_mem_nil, or_false] at hw
    rcases hw with rfl | rfl
    · exact kx_lays hR (fun _ _ => rfl) h0
    · exact kx_lays hR (fun _ _ => rfl) h0
  · have h0 := hs w (ks_hr w hw)
    simp only [kx_hr, List.mem_cons, List.not_mem_nil, or_false] at hw
    rcases hw with rfl | rfl
    · exact kx_isref hR (fun _ _ => rfl) (hts _ (ks_hw _ (by simp [kx_hw]))) h0
    · exact kx_isref hR (fun _ _ => rfl) (hts _ (ks_hw _ (by simp [kx_hw]))) h0
  · have h1 := hts _ (ks_hs q hq).1
    obtain ⟨-, -, -, a, -, -, -, -, -, hev⟩ := Cond.stringRef_spec (cur := cE) (by rw [(ks_hs q hq).2]; exact hE) h1
    exact ⟨a, vk_R.of h1 hev⟩
theorem kx_start {l : Launch} {s : State} {A : Array Value} (hl : l.stackTraces = false) (hts : ∀ w ∈ lw_tbl, w.before A s = true) (hgv : (Jvm.Cond.and given_1 narrow_1).before A s = true) : ∃ (D : va_G) (aC : Nat → Nat), kx_G (l, s, D, aC) := by
  have hs := flat_of_before _ hgv
  obtain ⟨D, hD⟩ := ks_cls hts
  obtain ⟨aC, hA⟩ := ks_arr hts
  refine ⟨D, aC, hl, ⟨A, hts⟩, ⟨hD, hA⟩, ks_T hts hs (hD 0 ("EventKeeper", T_EK, 3) rfl).2.1, ?_⟩
  intro X hX Y hY
  refine ⟨fun e => ?_, fun ne => ?_⟩
  · subst e
    obtain ⟨a, h1, h2⟩ := ks_yes (hts _ (ks_hi X hX))
    exact ⟨a, a, h1, h1, h2⟩
  · exact ks_no (hs _ (ks_hn X hX Y hY ne))
def R_law : String := "EventKeeperLaw"
def lw_P (b : Addr) (xs : List Int32) (args : Array Value) (s : State) : Prop := args = #[.ref b] ∧ s.IntsAt b xs ∧ xs.length ≤ 3072 ∧ (Jvm.Cond.and given_1 narrow_1).before args s = true
def lw_Q (_ : Array Value) (s : State) (o : Outcome) (t : State) : Prop := o = .returned (some (.int 1)) ∧ Framed s o t [] 601024 7293034
def lw_Z (below : List Frame) (a : Array Value) (s : State) : State → Prop := fun t => ∃ o, t.status = .running ∧ Ended t below o ∧ lw_Q a s o t
def lw_At (p : Program) (s : State) (m : MethodId) (meth : Method) (c : Code) (b L : Nat) (xs : Nat → Int32) : Prop :=
  (p.tables.exec = Jvm.exec ∧ c.code = code ∧ meth.sig.returnType = ret ∧ c.maxLocals = 8 ∧ s.vm.findClass R_law = some m.cls) ∧ ((∀ w ∈ lw_tbl, w.before #[Value.ref b] s = true) ∧ va_X b L xs s s.heap ∧ b < s.heap.size) ∧ meth.locks = false ∧ (Jvm.Cond.and given_1 narrow_1).before #[Value.ref b] s = true ∧ c.exceptionTable.isEmpty = true ∧ meth.name = "law"
theorem whole_start {p : Program} {e : Env} {s : State} {m : MethodId} {below : List Frame} {meth : Method} {c : Code} (l : Launch) (hst : l.stackTraces = false) {b L : Nat} {xs : Nat → Int32} (hL : L ≤ 3072) (C0 : lw_At p s m meth c b L xs) : W p l e room_1 s m #[Value.ref b] below meth c s.heap [] 0 0 (lw_Z below #[Value.ref b] s) (entryFrame m ([Value.ref b] : List Value).toArray 8) := by
  obtain ⟨⟨hx, hb, hr, hml, hown⟩, ⟨hts, hX, hbl⟩, hlocks, hgv, hnh, hnm⟩ := C0
  obtain ⟨D, aC, G⟩ := kx_start hst hts hgv
  have htb : c.exceptionTable.toList.map (fun x => (x.startPc, x.endPc, x.handlerPc, x.catchType)) = [] := by rw [Array.isEmpty_iff.mp hnh]; rfl
  have hl := lv_entry ([.ref b]) (n := 8) (Nat.le_of_ble_eq_true rfl)
  rw [lg_entry_eq]
  generalize (lg_sl ([.ref b]) ++ List.replicate (8 - (lg_sl ([.ref b])).length) Slot.unset).toArray = ls at hl ⊢
  have hl : lv_has ls 8 (kx_l (l, s, D, aC) [(0, .retAddr b)]) := hl
  have C : kx_C (l, s, D, aC) i_W_law 12 601024 7293034 p e room_1 s m #[Value.ref b] meth c :=
    ⟨⟨G, hx, hb, hml⟩, ⟨hr, hlocks, hown, State.WarmedH.refl s⟩, ⟨fun _ _ => rfl, htb, hnm⟩, Nat.le_of_ble_eq_true rfl, Nat.le_of_ble_eq_true rfl, rfl, rfl⟩
  have P : kx_P (l, s, D, aC) 0 (fun _ => none) s.heap :=
    ⟨rfl, fun _ _ => rfl, fun q cell hq hc => absurd (Array.getElem?_eq_some_iff.mp hc).1 (Nat.not_lt.mpr hq), fun i c hc => by
      have hc : (none : Option kx_c) = some c := hc
      cases hc⟩
  have V : kx_V (l, s, D, aC) i_W_law 12 601024 7293034 (fun r _ _ => r = Sum.inl (some (.int 1))) 2644 22384 0 [(0, .retAddr b)] [] 0 (fun _ => none) :=
    k_law (E := (l, s, D, aC)) (N := L) (xs := xs) ⟨hX, hbl⟩ hL (fun _ _ => rfl)
  refine kx_W_mono ?_ (V p e room_1 s m #[Value.ref b] below meth c s.heap [] ls 0 0 C P (fun q hq => by cases hq) hl (by decide) (by decide))
  rintro t ⟨o, h1, h2, h3, ⟨L', h4, h5⟩, r, n, h, -, h6, h7⟩
  have h7 : r = Sum.inl (some (.int 1)) := h7
  subst h7
  have h6 : o = .returned (some (.int 1)) := h6
  exact ⟨o, h1, h2, h6, ⟨_, h6⟩, h3, kx_forget h4 h5⟩
set_option maxHeartbeats 4000000 in
theorem lw_walk (l : Launch) (hst : l.stackTraces = false) (b : Addr) (xs : List Int32) : MetFree l x (headSpec (Jvm.Cond.code x code maxLocals ret :: tables_1) room_1) (lw_P b xs) (fun _ _ _ _ _ => True) lw_Q := by
  refine MetFree.of_bodyS (code := code) (maxLocals := maxLocals) (ret := ret) (by decide) ?_ ?_
  · intro args s m h hn
    obtain ⟨meth, c, h1, h2, h3, h4, h5, h6, -, -⟩ := Cond.code_spec hn (atoms_spec (ws := Jvm.Cond.code x code maxLocals ret :: tables_1) h _ List.mem_cons_self)
    exact ⟨meth, c, h1, h2, h3, h4, h5, h6⟩
  · intro p e s m args below meth c s₁ B hml0 hP _
    obtain ⟨rfl, hx, hbd, hgv⟩ := hP
    obtain ⟨scr, harrAt, hlist, hof, hsmall⟩ := hx
    obtain ⟨hcb, hkn, -, -⟩ := State.arrayAt?_spec harrAt
    have hown : s.vm.findClass R_law = some m.cls := findClass_of_methodNamed B.named
    have hts0 : ∀ c ∈ (Jvm.Cond.code x code maxLocals ret :: tables_1), c.before #[Value.ref b] s = true := atoms_spec (ws := Jvm.Cond.code x code maxLocals ret :: tables_1) B.pre
    have hts : ∀ w ∈ lw_tbl, w.before #[Value.ref b] s = true := k2_hts_sels lw_privs (fun w hw => hts0 w (List.mem_cons_of_mem _ hw)) lw_privs_ok
    have hml : c.maxLocals = 8 := B.maxLocals_eq (hts0 _ List.mem_cons_self)
    have hnh : c.exceptionTable.isEmpty = true := B.noHandlers (hts0 _ List.mem_cons_self)
    have hnm : meth.name = "law" := (name_of_methodNamed B.named B.method).1
    have X₀ : Stand p l e room_1 s m #[Value.ref b] below meth c s₁ [] 0 0 := Stand.of_body B
    have hh0 : s₁.heap = s.heap := by rw [B.state]; rfl
    have hsz : scr.slots.size = xs.length := by rw [← Array.length_toList, hlist, List.length_map]
    have hval : ∀ j : Nat, j < xs.length → scr.slots[j]? = some (.int (xs.getD j 0)) := fun j hj => by
      rw [← Array.getElem?_toList, hlist]
      simp [hj]
    have hbl : b < s.heap.size := (Array.getElem?_eq_some_iff.mp hcb).1
    have hX : va_X b xs.length (fun j => xs.getD j 0) s s.heap := ⟨scr, hcb, hof, hkn, hsz, hval⟩
    have K : W p l e room_1 s m #[Value.ref b] below meth c s₁.heap [] 0 0 (lw_Z below #[Value.ref b] s) (entryFrame m ([Value.ref b] : List Value).toArray 8) := by
      rw [hh0]
      exact whole_start l hst hbd ⟨⟨B.exec, B.bytes, B.returns, hml, hown⟩, ⟨hts, hX, hbl⟩, B.notSynchronized, hgv, hnh, hnm⟩
    obtain ⟨t, a1, o, b1, b2, b3⟩ := K s₁ rfl X₀
    exact ⟨t, o, a1, b1, b2, b3⟩
theorem lw_pre_spec {args : Array Value} {s : State} (h : (Jvm.Cond.and given_1 narrow_1).before args s = true) (hr : rest_1_c.before args s = true) : ∃ (b : Addr) (xs : List Int32), lw_P b xs args s := by
  have hs := flat_of_before _ h
  have hq := flat_of_before _ hr
  have hc : (Cond.count 1).before args s = true := hs _ (by decide +kernel)
  have harr : (Cond.arrayOf (.arg 0) .int).before args s = true := hs _ (by decide +kernel)
  have hle : (Cond.le (.length (.arg 0)) (.int 3072)).before args s = true := hs _ (by decide +kernel)
  have hlen : (Cond.isInt (.length (.arg 0))).before args s = true := hq _ (by decide +kernel)
  have hall : (Cond.all (.arg 0) (.isInt (.elem (.arg 0) (.index 0)))).before args s = true := hq _ (by decide +kernel)
  obtain ⟨b, xs, hb, hx⟩ := State.ints_of_pre rfl harr hlen hall
  have hsm : xs.length < 2 ^ 31 := hx.choose_spec.2.2.2
  have hev : (Term.length (.arg 0)).eval args s none [] s = some (.int xs.length.toInt32) := hx.length_eval hb
  have hv := Cond.le_ints hev (show (Term.int 3072).eval args s none [] s = some (.int 3072) from rfl)
  have hd : xs.length.toInt32 ≤ 3072 := by
    simpa [Cond.before, Cond.holds, hv] using hle
  have hN : xs.length ≤ 3072 := (Int32.ofNat_le_ofNat hsm (by decide)).mp (show Int32.ofNat xs.length ≤ Int32.ofNat 3072 from hd)
  exact ⟨b, xs, Cond.one_arg hc (show args[0]? = some (.ref b) from hb), hx, hN, h⟩
theorem lw_comes (l : Launch) (hst : l.stackTraces = false) : Comes l x (Jvm.Cond.code x code maxLocals ret :: tables_1) room_1 (fun tb e args s => Calls_1 tb e args s ∧ rest_1 tb e args s ∧ Pre_1 tb e args s)
    (fun _ _ args s o t => lw_Q args s o t) := by
  intro p e ha hc hk s m args below hf hfit hheap happ hpre
  obtain ⟨b, xs, hP⟩ := lw_pre_spec hpre.2.2 hpre.2.1
  obtain ⟨k, o, h1, h2, h3, hQ⟩ := lw_walk l hst b xs p e ha hc hk s m args below hf ((Spec.applies_iff_loose hf).mp happ).1 hP trivial
  exact ⟨k, o, h1, h2, h3, hQ⟩
theorem lw_frame {s t : State} {o : Outcome} {args : Array Value} (h : Framed s o t [] 601024 7293034) :
    Framed s o t (fieldLocs frame_1_writes args s ++ arrayLocs frame_1_arrays args s ++ staticLocs frame_1_statics s) 601024 7293034 := h
theorem lw_limb (L : Cond) (hL : ∀ (args : Array Value) (s t : State), L.after args s (.returned (some (.int 1))) t = true) :
    ArmFor flags0 classFile x code maxLocals ret World_1 tables_1 room_1 Calls_1 rest_1 Pre_1
      (fun tb e a s o t => postC L tb e a s o t ∧ Framed s o t (fieldLocs frame_1_writes a s ++ arrayLocs frame_1_arrays a s ++ staticLocs frame_1_statics s) 601024 7293034) := by
  intro l hfl _ _ p e ha hc hk s m args below hf hfit hheap happ hpre
  have hst : l.stackTraces = false := by
    unfold Launch.stackTraces
    rw [hfl]
    decide +kernel
  obtain ⟨k, o, h1, h2, h3, rfl, hF⟩ := lw_comes l hst p e ha hc hk s m args below hf hfit hheap happ hpre
  exact ⟨k, _, h1, h2, h3, hL args s _, lw_frame hF⟩
theorem i_vc : Claimed_1_1 ∧ Claimed_1_2 := ⟨lw_limb limb_1_1 (fun args s t => by simp [limb_1_1, Cond.after, Cond.holds, Cond.value]), lw_limb limb_1_2 (fun args s t => Cond.after_iff.mpr (by
  first | (rw [show limb_1_2 = Cond.eq .result (.int 1) from rfl, Cond.eq_ints (x := 1) (y := 1) rfl rfl]; simp; done) | (simp [limb_1_2, Cond.value, Term.eval]; done)))⟩
