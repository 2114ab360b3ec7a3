section KXR
variable {E : kx_E} {I : kx_I} {d mc ms : Nat} {Q : kx_Q} {k j pc : Nat} {lv : List (Nat × Value)} {st : List Value} {n : Nat} {h : kx_H}
theorem kx_iconst {a : Int} {x : Int32} (hdg : decode I.2.1 pc = .ok (.iconst a, 1)) (hx : Int32.ofInt a = x) (kk : kx_V E I d mc ms Q k j (pc + 1) lv (.int x :: st) n h) : kx_V E I d mc ms Q k j pc lv st n h :=
  fun p e R s m args below meth c H locs ls cells slots C P L V hk hj => lv_iconst C.ex C.bt hdg hx (kk p e R s m args below meth c H locs ls cells slots C P L V hk hj)
theorem kx_bipush {a : Int} {x : Int32} (hdg : decode I.2.1 pc = .ok (.bipush a, 2)) (hx : (Int8.ofInt a).toInt32 = x) (kk : kx_V E I d mc ms Q k j (pc + 2) lv (.int x :: st) n h) : kx_V E I d mc ms Q k j pc lv st n h :=
  fun p e R s m args below meth c H locs ls cells slots C P L V hk hj => lv_bipush C.ex C.bt hdg hx (kk p e R s m args below meth c H locs ls cells slots C P L V hk hj)
theorem kx_sipush {a : Int} {x : Int32} (hdg : decode I.2.1 pc = .ok (.sipush a, 3)) (hx : (Int16.ofInt a).toInt32 = x) (kk : kx_V E I d mc ms Q k j (pc + 3) lv (.int x :: st) n h) : kx_V E I d mc ms Q k j pc lv st n h :=
  fun p e R s m args below meth c H locs ls cells slots C P L V hk hj => lv_sipush C.ex C.bt hdg hx (kk p e R s m args below meth c H locs ls cells slots C P L V hk hj)
theorem kx_lconst {a : Fin 2} {x : Int64} (hdg : decode I.2.1 pc = .ok (.lconst a, 1)) (hx : Int64.ofNat (a : Nat) = x) (kk : kx_V E I d mc ms Q k j (pc + 1) lv (.long x :: st) n h) : kx_V E I d mc ms Q k j pc lv st n h :=
  fun p e R s m args below meth c H locs ls cells slots C P L V hk hj => lv_lconst C.ex C.bt hdg hx (kk p e R s m args below meth c H locs ls cells slots C P L V hk hj)
theorem kx_ldc2 {index : Nat} {x : Int64} (hdg : decode I.2.1 pc = .ok (.ldc2_w index, 3)) (hw : Cond.constantLong I.1 index x ∈ kx_tb) (kk : kx_V E I d mc ms Q k j (pc + 3) lv (.long x :: st) n h) : kx_V E I d mc ms Q k j pc lv st n h :=
  fun p e R s m args below meth c H locs ls cells slots C P L V hk hj => lv_ldc2 C.ex C.bt C.own (C.w hw) hdg (kk p e R s m args below meth c H locs ls cells slots C P L V hk hj)
theorem kx_iload_n {f : Fin 4} {x : Int32} (hdg : decode I.2.1 pc = .ok (.iload_n f, 1)) (hl : kx_lk lv f.val = some (.int x)) (kk : kx_V E I d mc ms Q k j (pc + 1) lv (.int x :: st) n h) : kx_V E I d mc ms Q k j pc lv st n h :=
  fun p e R s m args below meth c H locs ls cells slots C P L V hk hj => lv_iload_n C.ex C.bt hdg rfl (kx_l_at V hl) (kk p e R s m args below meth c H locs ls cells slots C P L V hk hj)
theorem kx_iload {i : Nat} {x : Int32} (hdg : decode I.2.1 pc = .ok (.iload i, 2)) (hl : kx_lk lv i = some (.int x)) (kk : kx_V E I d mc ms Q k j (pc + 2) lv (.int x :: st) n h) : kx_V E I d mc ms Q k j pc lv st n h :=
  fun p e R s m args below meth c H locs ls cells slots C P L V hk hj => lv_iload C.ex C.bt hdg (kx_l_at V hl) (kk p e R s m args below meth c H locs ls cells slots C P L V hk hj)
theorem kx_istore_n {f : Fin 4} {i : Nat} {x : Int32} {lv' : List (Nat × Value)} (hdg : decode I.2.1 pc = .ok (.istore_n f, 1)) (hf : (f : Nat) = i) (hn : i < I.2.2.1) (hl : (i, Value.int x) :: lv.filter (fun q => !(q.1 == i) && !(q.1 + 1 == i && q.2.category == 2)) = lv') (kk : kx_V E I d mc ms Q k j (pc + 1) lv' st n h) : kx_V E I d mc ms Q k j pc lv (.int x :: st) n h := by
  subst hl
  intro p e R s m args below meth c H locs ls cells slots C P L V hk hj
  exact lv_istore_n C.ex C.bt hdg hf V hn (kx_l_st1 E lv i (.int x)) (fun ls' V' => kk p e R s m args below meth c H locs ls' cells slots C P L V' hk hj)
theorem kx_istore {i : Nat} {x : Int32} {lv' : List (Nat × Value)} (hdg : decode I.2.1 pc = .ok (.istore i, 2)) (hn : i < I.2.2.1) (hl : (i, Value.int x) :: lv.filter (fun q => !(q.1 == i) && !(q.1 + 1 == i && q.2.category == 2)) = lv') (kk : kx_V E I d mc ms Q k j (pc + 2) lv' st n h) : kx_V E I d mc ms Q k j pc lv (.int x :: st) n h := by
  subst hl
  intro p e R s m args below meth c H locs ls cells slots C P L V hk hj
  exact lv_istore C.ex C.bt hdg V hn (kx_l_st1 E lv i (.int x)) (fun ls' V' => kk p e R s m args below meth c H locs ls' cells slots C P L V' hk hj)
theorem kx_lload_n {f : Fin 4} {x : Int64} (hdg : decode I.2.1 pc = .ok (.lload_n f, 1)) (hl : kx_lk lv f.val = some (.long x)) (kk : kx_V E I d mc ms Q k j (pc + 1) lv (.long x :: st) n h) : kx_V E I d mc ms Q k j pc lv st n h :=
  fun p e R s m args below meth c H locs ls cells slots C P L V hk hj => lv_lload_n C.ex C.bt hdg rfl (kx_l_at V hl) (kk p e R s m args below meth c H locs ls cells slots C P L V hk hj)
theorem kx_lload {i : Nat} {x : Int64} (hdg : decode I.2.1 pc = .ok (.lload i, 2)) (hl : kx_lk lv i = some (.long x)) (kk : kx_V E I d mc ms Q k j (pc + 2) lv (.long x :: st) n h) : kx_V E I d mc ms Q k j pc lv st n h :=
  fun p e R s m args below meth c H locs ls cells slots C P L V hk hj => lv_lload C.ex C.bt hdg (kx_l_at V hl) (kk p e R s m args below meth c H locs ls cells slots C P L V hk hj)
theorem kx_lstore_n {f : Fin 4} {i : Nat} {x : Int64} {lv' : List (Nat × Value)} (hdg : decode I.2.1 pc = .ok (.lstore_n f, 1)) (hf : (f : Nat) = i) (hn : i + 1 < I.2.2.1) (hl : (i, Value.long x) :: lv.filter (fun q => !(q.1 == i) && (!(q.1 == i + 1) && !(q.1 + 1 == i && q.2.category == 2))) = lv') (kk : kx_V E I d mc ms Q k j (pc + 1) lv' st n h) : kx_V E I d mc ms Q k j pc lv (.long x :: st) n h := by
  subst hl
  intro p e R s m args below meth c H locs ls cells slots C P L V hk hj
  exact lv_lstore_n C.ex C.bt hdg hf V hn (kx_l_st2 E lv i (.long x)) (fun ls' V' => kk p e R s m args below meth c H locs ls' cells slots C P L V' hk hj)
theorem kx_lstore {i : Nat} {x : Int64} {lv' : List (Nat × Value)} (hdg : decode I.2.1 pc = .ok (.lstore i, 2)) (hn : i + 1 < I.2.2.1) (hl : (i, Value.long x) :: lv.filter (fun q => !(q.1 == i) && (!(q.1 == i + 1) && !(q.1 + 1 == i && q.2.category == 2))) = lv') (kk : kx_V E I d mc ms Q k j (pc + 2) lv' st n h) : kx_V E I d mc ms Q k j pc lv (.long x :: st) n h := by
  subst hl
  intro p e R s m args below meth c H locs ls cells slots C P L V hk hj
  exact lv_lstore C.ex C.bt hdg V hn (kx_l_st2 E lv i (.long x)) (fun ls' V' => kk p e R s m args below meth c H locs ls' cells slots C P L V' hk hj)
theorem kx_aload_n {f : Fin 4} {x : Nat} (hdg : decode I.2.1 pc = .ok (.aload_n f, 1)) (hl : kx_lk lv f.val = some (.ref x)) (kk : kx_V E I d mc ms Q k j (pc + 1) lv (.ref x :: st) n h) : kx_V E I d mc ms Q k j pc lv st n h :=
  fun p e R s m args below meth c H locs ls cells slots C P L V hk hj => lv_aload_n C.ex C.bt hdg rfl (kx_l_at V hl) (kk p e R s m args below meth c H locs ls cells slots C P L V hk hj)
theorem kx_aload {i : Nat} {x : Nat} (hdg : decode I.2.1 pc = .ok (.aload i, 2)) (hl : kx_lk lv i = some (.ref x)) (kk : kx_V E I d mc ms Q k j (pc + 2) lv (.ref x :: st) n h) : kx_V E I d mc ms Q k j pc lv st n h :=
  fun p e R s m args below meth c H locs ls cells slots C P L V hk hj => lv_aload C.ex C.bt hdg (kx_l_at V hl) (kk p e R s m args below meth c H locs ls cells slots C P L V hk hj)
theorem kx_astore_n {f : Fin 4} {i : Nat} {x : Nat} {lv' : List (Nat × Value)} (hdg : decode I.2.1 pc = .ok (.astore_n f, 1)) (hf : (f : Nat) = i) (hn : i < I.2.2.1) (hl : (i, Value.ref x) :: lv.filter (fun q => !(q.1 == i) && !(q.1 + 1 == i && q.2.category == 2)) = lv') (kk : kx_V E I d mc ms Q k j (pc + 1) lv' st n h) : kx_V E I d mc ms Q k j pc lv (.ref x :: st) n h := by
  subst hl
  intro p e R s m args below meth c H locs ls cells slots C P L V hk hj
  exact lv_astore_n C.ex C.bt hdg hf V hn (kx_l_st1 E lv i (.ref x)) (fun ls' V' => kk p e R s m args below meth c H locs ls' cells slots C P L V' hk hj)
theorem kx_astore {i : Nat} {x : Nat} {lv' : List (Nat × Value)} (hdg : decode I.2.1 pc = .ok (.astore i, 2)) (hn : i < I.2.2.1) (hl : (i, Value.ref x) :: lv.filter (fun q => !(q.1 == i) && !(q.1 + 1 == i && q.2.category == 2)) = lv') (kk : kx_V E I d mc ms Q k j (pc + 2) lv' st n h) : kx_V E I d mc ms Q k j pc lv (.ref x :: st) n h := by
  subst hl
  intro p e R s m args below meth c H locs ls cells slots C P L V hk hj
  exact lv_astore C.ex C.bt hdg V hn (kx_l_st1 E lv i (.ref x)) (fun ls' V' => kk p e R s m args below meth c H locs ls' cells slots C P L V' hk hj)
theorem kx_iinc {i : Nat} {a : Int} {x y : Int32} {lv' : List (Nat × Value)} (hdg : decode I.2.1 pc = .ok (.iinc i a, 3)) (hx : kx_lk lv i = some (.int x)) (hy : x + Int32.ofInt a = y) (hn : i < I.2.2.1) (hl : (i, Value.int y) :: lv.filter (fun q => !(q.1 == i) && !(q.1 + 1 == i && q.2.category == 2)) = lv') (kk : kx_V E I d mc ms Q k j (pc + 3) lv' st n h) : kx_V E I d mc ms Q k j pc lv st n h := by
  subst hl
  intro p e R s m args below meth c H locs ls cells slots C P L V hk hj
  obtain ⟨k0, hk0⟩ := List.getElem?_of_mem (List.mem_map.mpr ⟨(i, Value.int x), kx_lk_mem hx, rfl⟩ : (i, kx_v (kx_B E) (.int x)) ∈ kx_l E lv)
  exact lv_iinc C.ex C.bt hdg V hk0 hy hn (kx_l_st1 E lv i (.int y)) (fun ls' V' => kk p e R s m args below meth c H locs ls' cells slots C P L V' hk hj)
theorem kx_iadd {x y : Int32} (hdg : decode I.2.1 pc = .ok (.iadd, 1)) (kk : kx_V E I d mc ms Q k j (pc + 1) lv (.int (x + y) :: st) n h) : kx_V E I d mc ms Q k j pc lv (.int y :: .int x :: st) n h :=
  fun p e R s m args below meth c H locs ls cells slots C P L V hk hj => lv_iadd C.ex C.bt hdg (kk p e R s m args below meth c H locs ls cells slots C P L V hk hj)
theorem kx_isub {x y : Int32} (hdg : decode I.2.1 pc = .ok (.isub, 1)) (kk : kx_V E I d mc ms Q k j (pc + 1) lv (.int (x - y) :: st) n h) : kx_V E I d mc ms Q k j pc lv (.int y :: .int x :: st) n h :=
  fun p e R s m args below meth c H locs ls cells slots C P L V hk hj => lv_isub C.ex C.bt hdg (kk p e R s m args below meth c H locs ls cells slots C P L V hk hj)
theorem kx_imul {x y : Int32} (hdg : decode I.2.1 pc = .ok (.imul, 1)) (kk : kx_V E I d mc ms Q k j (pc + 1) lv (.int (x * y) :: st) n h) : kx_V E I d mc ms Q k j pc lv (.int y :: .int x :: st) n h :=
  fun p e R s m args below meth c H locs ls cells slots C P L V hk hj => lv_imul C.ex C.bt hdg (kk p e R s m args below meth c H locs ls cells slots C P L V hk hj)
theorem kx_iand {x y : Int32} (hdg : decode I.2.1 pc = .ok (.iand, 1)) (kk : kx_V E I d mc ms Q k j (pc + 1) lv (.int (x &&& y) :: st) n h) : kx_V E I d mc ms Q k j pc lv (.int y :: .int x :: st) n h :=
  fun p e R s m args below meth c H locs ls cells slots C P L V hk hj => lv_iand C.ex C.bt hdg (kk p e R s m args below meth c H locs ls cells slots C P L V hk hj)
theorem kx_ior {x y : Int32} (hdg : decode I.2.1 pc = .ok (.ior, 1)) (kk : kx_V E I d mc ms Q k j (pc + 1) lv (.int (x ||| y) :: st) n h) : kx_V E I d mc ms Q k j pc lv (.int y :: .int x :: st) n h :=
  fun p e R s m args below meth c H locs ls cells slots C P L V hk hj => lv_ior C.ex C.bt hdg (kk p e R s m args below meth c H locs ls cells slots C P L V hk hj)
theorem kx_ixor {x y : Int32} (hdg : decode I.2.1 pc = .ok (.ixor, 1)) (kk : kx_V E I d mc ms Q k j (pc + 1) lv (.int (x ^^^ y) :: st) n h) : kx_V E I d mc ms Q k j pc lv (.int y :: .int x :: st) n h :=
  fun p e R s m args below meth c H locs ls cells slots C P L V hk hj => lv_ixor C.ex C.bt hdg (kk p e R s m args below meth c H locs ls cells slots C P L V hk hj)
theorem kx_ishl {x y : Int32} (hdg : decode I.2.1 pc = .ok (.ishl, 1)) (kk : kx_V E I d mc ms Q k j (pc + 1) lv (.int (x <<< (y &&& 31)) :: st) n h) : kx_V E I d mc ms Q k j pc lv (.int y :: .int x :: st) n h :=
  fun p e R s m args below meth c H locs ls cells slots C P L V hk hj => lv_ishl C.ex C.bt hdg (kk p e R s m args below meth c H locs ls cells slots C P L V hk hj)
theorem kx_ishr {x y : Int32} (hdg : decode I.2.1 pc = .ok (.ishr, 1)) (kk : kx_V E I d mc ms Q k j (pc + 1) lv (.int (x >>> (y &&& 31)) :: st) n h) : kx_V E I d mc ms Q k j pc lv (.int y :: .int x :: st) n h :=
  fun p e R s m args below meth c H locs ls cells slots C P L V hk hj => lv_ishr C.ex C.bt hdg (kk p e R s m args below meth c H locs ls cells slots C P L V hk hj)
theorem kx_ladd {x y : Int64} (hdg : decode I.2.1 pc = .ok (.ladd, 1)) (kk : kx_V E I d mc ms Q k j (pc + 1) lv (.long (x + y) :: st) n h) : kx_V E I d mc ms Q k j pc lv (.long y :: .long x :: st) n h :=
  fun p e R s m args below meth c H locs ls cells slots C P L V hk hj => lv_ladd C.ex C.bt hdg (kk p e R s m args below meth c H locs ls cells slots C P L V hk hj)
theorem kx_lsub {x y : Int64} (hdg : decode I.2.1 pc = .ok (.lsub, 1)) (kk : kx_V E I d mc ms Q k j (pc + 1) lv (.long (x - y) :: st) n h) : kx_V E I d mc ms Q k j pc lv (.long y :: .long x :: st) n h :=
  fun p e R s m args below meth c H locs ls cells slots C P L V hk hj => lv_lsub C.ex C.bt hdg (kk p e R s m args below meth c H locs ls cells slots C P L V hk hj)
theorem kx_land {x y : Int64} (hdg : decode I.2.1 pc = .ok (.land, 1)) (kk : kx_V E I d mc ms Q k j (pc + 1) lv (.long (x &&& y) :: st) n h) : kx_V E I d mc ms Q k j pc lv (.long y :: .long x :: st) n h :=
  fun p e R s m args below meth c H locs ls cells slots C P L V hk hj => lv_land C.ex C.bt hdg (kk p e R s m args below meth c H locs ls cells slots C P L V hk hj)
theorem kx_lor {x y : Int64} (hdg : decode I.2.1 pc = .ok (.lor, 1)) (kk : kx_V E I d mc ms Q k j (pc + 1) lv (.long (x ||| y) :: st) n h) : kx_V E I d mc ms Q k j pc lv (.long y :: .long x :: st) n h :=
  fun p e R s m args below meth c H locs ls cells slots C P L V hk hj => lv_lor C.ex C.bt hdg (kk p e R s m args below meth c H locs ls cells slots C P L V hk hj)
theorem kx_lrem {x y : Int64} (hdg : decode I.2.1 pc = .ok (.lrem, 1)) (hy : ¬ y = 0) (kk : kx_V E I d mc ms Q k j (pc + 1) lv (.long (x - x / y * y) :: st) n h) : kx_V E I d mc ms Q k j pc lv (.long y :: .long x :: st) n h :=
  fun p e R s m args below meth c H locs ls cells slots C P L V hk hj => lv_lrem C.ex C.bt hdg hy (kk p e R s m args below meth c H locs ls cells slots C P L V hk hj)
theorem kx_i2l {x : Int32} (hdg : decode I.2.1 pc = .ok (.i2l, 1)) (kk : kx_V E I d mc ms Q k j (pc + 1) lv (.long x.toInt64 :: st) n h) : kx_V E I d mc ms Q k j pc lv (.int x :: st) n h :=
  fun p e R s m args below meth c H locs ls cells slots C P L V hk hj => lv_i2l C.ex C.bt hdg rfl (kk p e R s m args below meth c H locs ls cells slots C P L V hk hj)
theorem kx_l2i {x : Int64} (hdg : decode I.2.1 pc = .ok (.l2i, 1)) (kk : kx_V E I d mc ms Q k j (pc + 1) lv (.int x.toInt32 :: st) n h) : kx_V E I d mc ms Q k j pc lv (.long x :: st) n h :=
  fun p e R s m args below meth c H locs ls cells slots C P L V hk hj => lv_l2i C.ex C.bt hdg rfl (kk p e R s m args below meth c H locs ls cells slots C P L V hk hj)
theorem kx_lshl {x : Int64} {y : Int32} (hdg : decode I.2.1 pc = .ok (.lshl, 1)) (kk : kx_V E I d mc ms Q k j (pc + 1) lv (.long (x <<< (y.toInt64 &&& 63)) :: st) n h) : kx_V E I d mc ms Q k j pc lv (.int y :: .long x :: st) n h :=
  fun p e R s m args below meth c H locs ls cells slots C P L V hk hj => lv_lshl C.ex C.bt hdg rfl (kk p e R s m args below meth c H locs ls cells slots C P L V hk hj)
theorem kx_lcmp {x y : Int64} (hdg : decode I.2.1 pc = .ok (.lcmp, 1)) (kk : kx_V E I d mc ms Q k j (pc + 1) lv (.int (lg_cmp x y) :: st) n h) : kx_V E I d mc ms Q k j pc lv (.long y :: .long x :: st) n h :=
  fun p e R s m args below meth c H locs ls cells slots C P L V hk hj => W.lcmp C.ex C.bt hdg (kk p e R s m args below meth c H locs ls cells slots C P L V hk hj)
theorem kx_dup {v : Value} (hdg : decode I.2.1 pc = .ok (.dup, 1)) (hv : v.category = 1) (kk : kx_V E I d mc ms Q k j (pc + 1) lv (v :: v :: st) n h) : kx_V E I d mc ms Q k j pc lv (v :: st) n h :=
  fun p e R s m args below meth c H locs ls cells slots C P L V hk hj => lv_dup C.ex C.bt hdg ((kx_v_cat _ v).trans hv) (kk p e R s m args below meth c H locs ls cells slots C P L V hk hj)
theorem kx_pop {v : Value} (hdg : decode I.2.1 pc = .ok (.pop, 1)) (hv : v.category = 1) (kk : kx_V E I d mc ms Q k j (pc + 1) lv st n h) : kx_V E I d mc ms Q k j pc lv (v :: st) n h :=
  fun p e R s m args below meth c H locs ls cells slots C P L V hk hj => lv_pop C.ex C.bt hdg ((kx_v_cat _ v).trans hv) (kk p e R s m args below meth c H locs ls cells slots C P L V hk hj)
theorem kx_dup_x1 {v w : Value} (hdg : decode I.2.1 pc = .ok (.dup_x1, 1)) (hv : v.category = 1) (hw : w.category = 1) (kk : kx_V E I d mc ms Q k j (pc + 1) lv (v :: w :: v :: st) n h) : kx_V E I d mc ms Q k j pc lv (v :: w :: st) n h :=
  fun p e R s m args below meth c H locs ls cells slots C P L V hk hj => lv_dup_x1 C.ex C.bt hdg ((kx_v_cat _ v).trans hv) ((kx_v_cat _ w).trans hw) (kk p e R s m args below meth c H locs ls cells slots C P L V hk hj)
theorem kx_dup2 {v w : Value} (hdg : decode I.2.1 pc = .ok (.dup2, 1)) (hv : v.category = 1) (hw : w.category = 1) (kk : kx_V E I d mc ms Q k j (pc + 1) lv (v :: w :: v :: w :: st) n h) : kx_V E I d mc ms Q k j pc lv (v :: w :: st) n h :=
  fun p e R s m args below meth c H locs ls cells slots C P L V hk hj => lv_dup2_11 C.ex C.bt hdg ((kx_v_cat _ v).trans hv) ((kx_v_cat _ w).trans hw) (kk p e R s m args below meth c H locs ls cells slots C P L V hk hj)
theorem kx_if_eq {x : Int32} {off : Int} {tgt : Nat} (hdg : decode I.2.1 pc = .ok (.ifCond .eq off, 3)) (ht : (pc : Int) + off = (tgt : Int)) (kt : x = 0 → kx_V E I d mc ms Q k j tgt lv st n h) (kf : ¬ x = 0 → kx_V E I d mc ms Q k j (pc + 3) lv st n h) : kx_V E I d mc ms Q k j pc lv (.int x :: st) n h :=
  fun p e R s m args below meth c H locs ls cells slots C P L V hk hj => lv_if_eq C.ex C.bt hdg ht (fun q => kt q p e R s m args below meth c H locs ls cells slots C P L V hk hj) (fun q => kf q p e R s m args below meth c H locs ls cells slots C P L V hk hj)
theorem kx_icmp_eq {x y : Int32} {off : Int} {tgt : Nat} (hdg : decode I.2.1 pc = .ok (.if_icmp .eq off, 3)) (ht : (pc : Int) + off = (tgt : Int)) (kt : x = y → kx_V E I d mc ms Q k j tgt lv st n h) (kf : ¬ x = y → kx_V E I d mc ms Q k j (pc + 3) lv st n h) : kx_V E I d mc ms Q k j pc lv (.int y :: .int x :: st) n h :=
  fun p e R s m args below meth c H locs ls cells slots C P L V hk hj => lv_icmp_eq C.ex C.bt hdg ht (fun q => kt q p e R s m args below meth c H locs ls cells slots C P L V hk hj) (fun q => kf q p e R s m args below meth c H locs ls cells slots C P L V hk hj)
theorem kx_if_ne {x : Int32} {off : Int} {tgt : Nat} (hdg : decode I.2.1 pc = .ok (.ifCond .ne off, 3)) (ht : (pc : Int) + off = (tgt : Int)) (kt : ¬ x = 0 → kx_V E I d mc ms Q k j tgt lv st n h) (kf : x = 0 → kx_V E I d mc ms Q k j (pc + 3) lv st n h) : kx_V E I d mc ms Q k j pc lv (.int x :: st) n h :=
  fun p e R s m args below meth c H locs ls cells slots C P L V hk hj => lv_if_ne C.ex C.bt hdg ht (fun q => kt q p e R s m args below meth c H locs ls cells slots C P L V hk hj) (fun q => kf q p e R s m args below meth c H locs ls cells slots C P L V hk hj)
theorem kx_icmp_ne {x y : Int32} {off : Int} {tgt : Nat} (hdg : decode I.2.1 pc = .ok (.if_icmp .ne off, 3)) (ht : (pc : Int) + off = (tgt : Int)) (kt : ¬ x = y → kx_V E I d mc ms Q k j tgt lv st n h) (kf : x = y → kx_V E I d mc ms Q k j (pc + 3) lv st n h) : kx_V E I d mc ms Q k j pc lv (.int y :: .int x :: st) n h :=
  fun p e R s m args below meth c H locs ls cells slots C P L V hk hj => lv_icmp_ne C.ex C.bt hdg ht (fun q => kt q p e R s m args below meth c H locs ls cells slots C P L V hk hj) (fun q => kf q p e R s m args below meth c H locs ls cells slots C P L V hk hj)
theorem kx_if_lt {x : Int32} {off : Int} {tgt : Nat} (hdg : decode I.2.1 pc = .ok (.ifCond .lt off, 3)) (ht : (pc : Int) + off = (tgt : Int)) (kt : x < 0 → kx_V E I d mc ms Q k j tgt lv st n h) (kf : ¬ x < 0 → kx_V E I d mc ms Q k j (pc + 3) lv st n h) : kx_V E I d mc ms Q k j pc lv (.int x :: st) n h :=
  fun p e R s m args below meth c H locs ls cells slots C P L V hk hj => lv_if_lt C.ex C.bt hdg ht (fun q => kt q p e R s m args below meth c H locs ls cells slots C P L V hk hj) (fun q => kf q p e R s m args below meth c H locs ls cells slots C P L V hk hj)
theorem kx_icmp_lt {x y : Int32} {off : Int} {tgt : Nat} (hdg : decode I.2.1 pc = .ok (.if_icmp .lt off, 3)) (ht : (pc : Int) + off = (tgt : Int)) (kt : x < y → kx_V E I d mc ms Q k j tgt lv st n h) (kf : ¬ x < y → kx_V E I d mc ms Q k j (pc + 3) lv st n h) : kx_V E I d mc ms Q k j pc lv (.int y :: .int x :: st) n h :=
  fun p e R s m args below meth c H locs ls cells slots C P L V hk hj => lv_icmp_lt C.ex C.bt hdg ht (fun q => kt q p e R s m args below meth c H locs ls cells slots C P L V hk hj) (fun q => kf q p e R s m args below meth c H locs ls cells slots C P L V hk hj)
theorem kx_if_ge {x : Int32} {off : Int} {tgt : Nat} (hdg : decode I.2.1 pc = .ok (.ifCond .ge off, 3)) (ht : (pc : Int) + off = (tgt : Int)) (kt : 0 ≤ x → kx_V E I d mc ms Q k j tgt lv st n h) (kf : ¬ 0 ≤ x → kx_V E I d mc ms Q k j (pc + 3) lv st n h) : kx_V E I d mc ms Q k j pc lv (.int x :: st) n h :=
  fun p e R s m args below meth c H locs ls cells slots C P L V hk hj => lv_if_ge C.ex C.bt hdg ht (fun q => kt q p e R s m args below meth c H locs ls cells slots C P L V hk hj) (fun q => kf q p e R s m args below meth c H locs ls cells slots C P L V hk hj)
theorem kx_icmp_ge {x y : Int32} {off : Int} {tgt : Nat} (hdg : decode I.2.1 pc = .ok (.if_icmp .ge off, 3)) (ht : (pc : Int) + off = (tgt : Int)) (kt : y ≤ x → kx_V E I d mc ms Q k j tgt lv st n h) (kf : ¬ y ≤ x → kx_V E I d mc ms Q k j (pc + 3) lv st n h) : kx_V E I d mc ms Q k j pc lv (.int y :: .int x :: st) n h :=
  fun p e R s m args below meth c H locs ls cells slots C P L V hk hj => lv_icmp_ge C.ex C.bt hdg ht (fun q => kt q p e R s m args below meth c H locs ls cells slots C P L V hk hj) (fun q => kf q p e R s m args below meth c H locs ls cells slots C P L V hk hj)
theorem kx_if_gt {x : Int32} {off : Int} {tgt : Nat} (hdg : decode I.2.1 pc = .ok (.ifCond .gt off, 3)) (ht : (pc : Int) + off = (tgt : Int)) (kt : 0 < x → kx_V E I d mc ms Q k j tgt lv st n h) (kf : ¬ 0 < x → kx_V E I d mc ms Q k j (pc + 3) lv st n h) : kx_V E I d mc ms Q k j pc lv (.int x :: st) n h :=
  fun p e R s m args below meth c H locs ls cells slots C P L V hk hj => lv_if_gt C.ex C.bt hdg ht (fun q => kt q p e R s m args below meth c H locs ls cells slots C P L V hk hj) (fun q => kf q p e R s m args below meth c H locs ls cells slots C P L V hk hj)
theorem kx_icmp_gt {x y : Int32} {off : Int} {tgt : Nat} (hdg : decode I.2.1 pc = .ok (.if_icmp .gt off, 3)) (ht : (pc : Int) + off = (tgt : Int)) (kt : y < x → kx_V E I d mc ms Q k j tgt lv st n h) (kf : ¬ y < x → kx_V E I d mc ms Q k j (pc + 3) lv st n h) : kx_V E I d mc ms Q k j pc lv (.int y :: .int x :: st) n h :=
  fun p e R s m args below meth c H locs ls cells slots C P L V hk hj => lv_icmp_gt C.ex C.bt hdg ht (fun q => kt q p e R s m args below meth c H locs ls cells slots C P L V hk hj) (fun q => kf q p e R s m args below meth c H locs ls cells slots C P L V hk hj)
theorem kx_if_le {x : Int32} {off : Int} {tgt : Nat} (hdg : decode I.2.1 pc = .ok (.ifCond .le off, 3)) (ht : (pc : Int) + off = (tgt : Int)) (kt : x ≤ 0 → kx_V E I d mc ms Q k j tgt lv st n h) (kf : ¬ x ≤ 0 → kx_V E I d mc ms Q k j (pc + 3) lv st n h) : kx_V E I d mc ms Q k j pc lv (.int x :: st) n h :=
  fun p e R s m args below meth c H locs ls cells slots C P L V hk hj => lv_if_le C.ex C.bt hdg ht (fun q => kt q p e R s m args below meth c H locs ls cells slots C P L V hk hj) (fun q => kf q p e R s m args below meth c H locs ls cells slots C P L V hk hj)
theorem kx_icmp_le {x y : Int32} {off : Int} {tgt : Nat} (hdg : decode I.2.1 pc = .ok (.if_icmp .le off, 3)) (ht : (pc : Int) + off = (tgt : Int)) (kt : x ≤ y → kx_V E I d mc ms Q k j tgt lv st n h) (kf : ¬ x ≤ y → kx_V E I d mc ms Q k j (pc + 3) lv st n h) : kx_V E I d mc ms Q k j pc lv (.int y :: .int x :: st) n h :=
  fun p e R s m args below meth c H locs ls cells slots C P L V hk hj => lv_icmp_le C.ex C.bt hdg ht (fun q => kt q p e R s m args below meth c H locs ls cells slots C P L V hk hj) (fun q => kf q p e R s m args below meth c H locs ls cells slots C P L V hk hj)
theorem kx_goto {off : Int} {tgt : Nat} (hdg : decode I.2.1 pc = .ok (.goto off, 3)) (ht : (pc : Int) + off = (tgt : Int)) (kk : kx_V E I d mc ms Q k j tgt lv st n h) : kx_V E I d mc ms Q k j pc lv st n h :=
  fun p e R s m args below meth c H locs ls cells slots C P L V hk hj => lv_goto C.ex C.bt hdg ht (kk p e R s m args below meth c H locs ls cells slots C P L V hk hj)
theorem kx_tsIn {dflt lo hi : Int} {offs : Array Int} {len : Nat} {x : Int32} {off : Int} {tgt : Nat} (hdg : decode I.2.1 pc = .ok (.tableswitch dflt lo hi offs, len)) (h1 : ¬ x.toInt < lo) (h2 : ¬ hi < x.toInt) (ho : offs[(x.toInt - lo).toNat]? = some off) (ht : (pc : Int) + off = (tgt : Int)) (kk : kx_V E I d mc ms Q k j tgt lv st n h) : kx_V E I d mc ms Q k j pc lv (.int x :: st) n h :=
  fun p e R s m args below meth c H locs ls cells slots C P L V hk hj => lv_tableIn C.ex C.bt hdg h1 h2 ho ht (kk p e R s m args below meth c H locs ls cells slots C P L V hk hj)
theorem kx_tsOut {dflt lo hi : Int} {offs : Array Int} {len : Nat} {x : Int32} {tgt : Nat} (hdg : decode I.2.1 pc = .ok (.tableswitch dflt lo hi offs, len)) (h1 : x.toInt < lo ∨ hi < x.toInt) (ht : (pc : Int) + dflt = (tgt : Int)) (kk : kx_V E I d mc ms Q k j tgt lv st n h) : kx_V E I d mc ms Q k j pc lv (.int x :: st) n h :=
  fun p e R s m args below meth c H locs ls cells slots C P L V hk hj => lv_tableOut C.ex C.bt hdg h1 ht (kk p e R s m args below meth c H locs ls cells slots C P L V hk hj)
theorem kx_lsw {dflt : Int} {ps : Array (Int × Int)} {len : Nat} {x : Int32} {off : Int} {tgt : Nat} (hdg : decode I.2.1 pc = .ok (.lookupswitch dflt ps, len)) (hp : (ps.toList.zip (ps.toList.drop 1)).all (fun (a, next) => a.1 < next.1) = true) (ho : Op.lookupswitch.offset ps.toList dflt x.toInt = off) (ht : (pc : Int) + off = (tgt : Int)) (kk : kx_V E I d mc ms Q k j tgt lv st n h) : kx_V E I d mc ms Q k j pc lv (.int x :: st) n h :=
  fun p e R s m args below meth c H locs ls cells slots C P L V hk hj => lv_lookup C.ex C.bt hdg hp ho ht (kk p e R s m args below meth c H locs ls cells slots C P L V hk hj)
theorem kx_topi {x : Int32} (kk : ∀ y : Int32, y = x → kx_V E I d mc ms Q k j pc lv (.int y :: st) n h) : kx_V E I d mc ms Q k j pc lv (.int x :: st) n h := kk x rfl
theorem kx_topl {x : Int64} (kk : ∀ y : Int64, y = x → kx_V E I d mc ms Q k j pc lv (.long y :: st) n h) : kx_V E I d mc ms Q k j pc lv (.long x :: st) n h := kk x rfl
theorem kx_eqi {x y : Int32} (e : x = y) (kk : kx_V E I d mc ms Q k j pc lv (.int y :: st) n h) : kx_V E I d mc ms Q k j pc lv (.int x :: st) n h := e ▸ kk
theorem kx_eql {x y : Int64} (e : x = y) (kk : kx_V E I d mc ms Q k j pc lv (.long y :: st) n h) : kx_V E I d mc ms Q k j pc lv (.long x :: st) n h := e ▸ kk
theorem kx_eqh {h' : kx_H} (e : h = h') (kk : kx_V E I d mc ms Q k j pc lv st n h') : kx_V E I d mc ms Q k j pc lv st n h := e ▸ kk
theorem kx_eqpc {pc' : Nat} (e : pc = pc') (kk : kx_V E I d mc ms Q k j pc' lv st n h) : kx_V E I d mc ms Q k j pc lv st n h := e ▸ kk
theorem kx_sub (ks : List Nat) {lv' : List (Nat × Value)} (hl : lv_pick lv ks = lv') (kk : kx_V E I d mc ms Q k j pc lv' st n h) : kx_V E I d mc ms Q k j pc lv st n h := by
  intro p e R s m args below meth c H locs ls cells slots C P L V hk hj
  refine kk p e R s m args below meth c H locs ls cells slots C P L ⟨V.1, V.2.1, fun q hq => ?_⟩ hk hj
  obtain ⟨q0, h0, rfl⟩ := List.mem_map.mp hq
  rw [← hl] at h0
  obtain ⟨i, -, hi⟩ := List.mem_filterMap.mp h0
  exact V.2.2 _ (List.mem_map.mpr ⟨q0, List.mem_of_getElem? hi, rfl⟩)
theorem kx_more {k' j' : Nat} (h1 : k' ≤ k) (h2 : j' ≤ j) (kk : kx_V E I d mc ms Q k' j' pc lv st n h) : kx_V E I d mc ms Q k j pc lv st n h :=
  fun p e R s m args below meth c H locs ls cells slots C P L V hk hj => kk p e R s m args below meth c H locs ls cells slots C P L V (by omega) (by omega)
theorem kx_iret {x : Int32} (hr : I.2.2.2.1 = some .int) (hdg : decode I.2.1 pc = .ok (.ireturn, 1)) (hq : Q (Sum.inl (some (.int x))) n h) : kx_V E I d mc ms Q k j pc lv [.int x] n h := by
  intro p e R s m args below meth c H locs ls cells slots C P L V hk hj
  refine W.widen (k := mc) (n := ms) (by omega) (by omega) ?_
  refine kx_W_mono ?_ (W.iret (v := x) (Qc := fun _ _ o t => o = .returned (some (.int x)) ∧ t.heap = H) (free := fun q => kx_B E ≤ q) C.ex C.bt (C.rt.trans hr) (fun t ht hW => ⟨rfl, ht⟩) L hdg (hlocks := C.lk))
  rintro t ⟨o, h1, h2, ⟨h3, h4⟩, L', ⟨-, hW, hs⟩, hf⟩
  exact ⟨o, h1, h2, hW, ⟨L', hs, hf⟩, Sum.inl (some (.int x)), n, h, by rw [h4]; exact P, h3, hq⟩
theorem kx_lret {x : Int64} (hr : I.2.2.2.1 = some .long) (hdg : decode I.2.1 pc = .ok (.lreturn, 1)) (hq : Q (Sum.inl (some (.long x))) n h) : kx_V E I d mc ms Q k j pc lv [.long x] n h := by
  intro p e R s m args below meth c H locs ls cells slots C P L V hk hj
  refine W.widen (k := mc) (n := ms) (by omega) (by omega) ?_
  refine kx_W_mono ?_ (W.lret (v := x) (Qc := fun _ _ o t => o = .returned (some (.long x)) ∧ t.heap = H) (free := fun q => kx_B E ≤ q) C.ex C.bt (C.rt.trans hr) (fun t ht hW => ⟨rfl, ht⟩) L hdg (hlocks := C.lk))
  rintro t ⟨o, h1, h2, ⟨h3, h4⟩, L', ⟨-, hW, hs⟩, hf⟩
  exact ⟨o, h1, h2, hW, ⟨L', hs, hf⟩, Sum.inl (some (.long x)), n, h, by rw [h4]; exact P, h3, hq⟩
theorem kx_zret {x : Int32} (hr : I.2.2.2.1 = some .boolean) (hx : narrow .boolean (.int x) = .int x) (hdg : decode I.2.1 pc = .ok (.ireturn, 1)) (hq : Q (Sum.inl (some (.int x))) n h) : kx_V E I d mc ms Q k j pc lv [.int x] n h := by
  intro p e R s m args below meth c H locs ls cells slots C P L V hk hj
  refine W.widen (k := mc) (n := ms) (by omega) (by omega) ?_
  refine kx_W_mono ?_ (W.zret (v := x) (Qc := fun _ _ o t => o = .returned (some (.int x)) ∧ t.heap = H) (free := fun q => kx_B E ≤ q) C.ex C.bt (C.rt.trans hr) hx (fun t ht hW => ⟨rfl, ht⟩) L hdg (hlocks := C.lk))
  rintro t ⟨o, h1, h2, ⟨h3, h4⟩, L', ⟨-, hW, hs⟩, hf⟩
  exact ⟨o, h1, h2, hW, ⟨L', hs, hf⟩, Sum.inl (some (.int x)), n, h, by rw [h4]; exact P, h3, hq⟩
theorem kx_vret (hr : I.2.2.2.1 = none) (hdg : decode I.2.1 pc = .ok (.return_, 1)) (hq : Q (Sum.inl none) n h) : kx_V E I d mc ms Q k j pc lv [] n h := by
  intro p e R s m args below meth c H locs ls cells slots C P L V hk hj
  refine W.widen (k := mc) (n := ms) (by omega) (by omega) ?_
  refine kx_W_mono ?_ (W.vret (Qc := fun _ _ o t => o = .returned none ∧ t.heap = H) (free := fun q => kx_B E ≤ q) C.ex C.bt (C.rt.trans hr) (fun t ht hW => ⟨rfl, ht⟩) L hdg (hlocks := C.lk))
  rintro t ⟨o, h1, h2, ⟨h3, h4⟩, L', ⟨-, hW, hs⟩, hf⟩
  exact ⟨o, h1, h2, hW, ⟨L', hs, hf⟩, Sum.inl none, n, h, by rw [h4]; exact P, h3, hq⟩
end KXR
def kx_fl (own : String) (index ci kf : Nat) : Prop := ∃ (C : String) (T : u_T) (N : Nat), kx_cls[ci]? = some (C, T, N) ∧ kf < N ∧ (∀ w ∈ u_ws C T N, w ∈ kx_tb) ∧ Cond.fieldLink own index (T kf).1 (T kf).2.1 (T kf).2.2.1 ∈ kx_tb
def kx_fw (own nm : String) (ci kf : Nat) (ty : FieldType) : Prop := ∃ (C : String) (T : u_T) (N : Nat) (ty0 : Nat → FieldType), kx_cls[ci]? = some (C, T, N) ∧ parseFieldDescriptor (T kf).2.2.1 = some ty ∧ (∀ k, k < N → parseFieldDescriptor (T k).2.2.1 = some (ty0 k)) ∧ (∀ a, a < N → ∀ b, b < N → a ≠ b → (T a).2.1 ≠ (T b).2.1) ∧ ((T kf).2.2.2 = false ∨ ((T kf).2.2.2 = true ∧ nm = "<init>" ∧ (T kf).1 = own))
theorem kx_getD (B : Nat) (fs : List Value) (k : Nat) : (fs.map (kx_v B)).getD k .null = kx_v B (fs.getD k .null) := by
  simp only [List.getD_eq_getElem?_getD, List.getElem?_map]
  cases fs[k]? <;> rfl
theorem kx_P1 {E : kx_E} {n : Nat} {h : kx_H} {H : Heap} (P : kx_P E n h H) {i ci : Nat} {fs : List Value} (hi : h i = some (kx_co ci fs)) : va_P E.2.2.1 kx_cls [(kx_B E + i, Sum.inr (ci, kx_s E fs))] H := by
  intro k q hk
  have hz : k < 1 := (List.getElem?_eq_some_iff.mp hk).1
  rw [show k = 0 by omega] at hk
  cases hk
  obtain ⟨r, h1, h2⟩ := P.2.2.2 i _ hi
  exact ⟨r, h1, h2.to (fun k _ => (kx_getD _ fs k).symm)⟩
theorem kx_recv {E : kx_E} {I : kx_I} {d mc ms : Nat} {p : Program} {e : Env} {R : Room} {s : State} {m : MethodId} {args : Array Value} {meth : Method} {c : Code} (C : kx_C E I d mc ms p e R s m args meth c) {n : Nat} {h : kx_H} {H : Heap} (P : kx_P E n h H) {i ci : Nat} {fs : List Value} (hi : h i = some (kx_co ci fs)) {q : vw_C} (hc : kx_cls[ci]? = some q) :
    ∃ cell : Cell, H[kx_B E + i]? = some cell ∧ cell.vm.isStatics = false ∧ s.vm.findClass q.1 = some cell.cls := va_recv C.k (kx_P1 P hi) hc (q0 := 0) rfl
def kx_ix (x : Int32) (i N : Nat) : Prop := x = nI i ∧ i < N ∧ N < 2 ^ 31
theorem kx_ix.cl {x : Int32} {i N : Nat} (h : kx_ix x i N) : x.toNatClampNeg = i := by
  rw [h.1]; exact nI_clamp (by have := h.2.1; have := h.2.2; omega)
theorem kx_ix.ok {x : Int32} {i N : Nat} (h : kx_ix x i N) : ¬ (x < 0 ∨ N ≤ x.toNatClampNeg) := by
  rw [h.1]; exact nI_in h.2.1 h.2.2
section KXD
variable {E : kx_E} {I : kx_I} {d mc ms : Nat} {Q : kx_Q} {k j pc : Nat} {lv : List (Nat × Value)} {st : List Value} {n : Nat} {h : kx_H}
theorem kx_get {index i ci kf : Nat} {fs : List Value} {v : Value} (hdg : decode I.2.1 pc = .ok (.getfield index, 3)) (hf : kx_fl I.1 index ci kf) (hi : h i = some (kx_co ci fs)) (hv : fs[kf]? = some v)
    (kk : kx_V E I d mc ms Q k j (pc + 3) lv (v :: st) n h) : kx_V E I d mc ms Q k j pc lv (.ref i :: st) n h := by
  intro p e R s m args below meth c H locs ls cells slots C P L V hk hj
  obtain ⟨C', T, N, hc, hkN, hin, hlink⟩ := hf
  exact va_get (C := C') (T := T) (N := N) (ci := ci) (v := kx_v (kx_B E) v) (Ts := kx_tb) C.ex C.bt (fun w hw => C.w hw) hin C.own C.k (kx_P1 P hi) 0 rfl hc kf hkN (C.w hlink) (fun _ q => q) (by rw [List.getElem?_map, hv]; rfl) hdg
    (kk p e R s m args below meth c H locs ls cells slots C P L V hk hj)
theorem kx_put {index i ci kf : Nat} {fs : List Value} {v : Value} {ty : FieldType} (hdg : decode I.2.1 pc = .ok (.putfield index, 3)) (hf : kx_fl I.1 index ci kf) (hw : kx_fw I.1 I.2.2.2.2.2 ci kf ty) (hi : h i = some (kx_co ci fs)) (hn : ∀ B, narrow ty (kx_v B v) = kx_v B v) (hfit : ∀ B, fits ty (kx_v B v) = true) (hl : kf < fs.length)
    (kk : kx_V E I d mc ms Q k j (pc + 3) lv st n (kx_set h i (kx_co ci (fs.set kf v)))) : kx_V E I d mc ms Q k j pc lv (v :: .ref i :: st) n h := by
  intro p e R s m args below meth c H locs ls cells slots C P L V hk hj
  obtain ⟨C', T, N, hc, hkN, hin, hlink⟩ := hf
  obtain ⟨C2, T2, N2, ty0, hc2, hd, hty, hnm, hfin⟩ := hw
  cases hc.symm.trans hc2
  obtain ⟨r, h1, cell, q1, q2, q3, q4⟩ := P.2.2.2 i _ hi
  have hr : r = (C', T, N) := Option.some.inj (h1.symm.trans hc)
  subst hr
  have hap := va_apart (own := I.1) (Ts := kx_tb) (fun w hw => C.w hw) hin ty0 hty hnm C.k hc
  obtain ⟨hS, hfc, kC, hkC, hkind⟩ := C.k.1 ci _ hc
  obtain ⟨cf, kf', fi, f, hif, hsl⟩ := hS kf hkN
  have hlay := C.w (hin _ (u_in_lay hkN))
  have hst := (u_facts hfc hkC (u_lays (ws := kx_tb) (fun w hw => C.w hw) hin hkN) hif).1
  have hbig : ∀ (H' : Heap), H'[kx_B E + i]? = some (cell.setSlot f.slot (kx_v (kx_B E) v)) → H'.size = H.size → (∀ q, q ≠ kx_B E + i → H'[q]? = H[q]?) → W p E.1 e R s m args below meth c H' (locs ++ [⟨kx_B E + i, f.slot⟩]) cells slots (kx_Z E mc ms Q below s) (F0 m (pc + 3) ls (kx_s E st)) := by
    intro H' e1 e2 e3
    refine kk p e R s m args below meth c H' _ ls cells slots C (P.set e2 e3 ⟨_, hc, t_OB.to (V := updV (fun k => kx_v (kx_B E) (fs.getD k .null)) kf (kx_v (kx_B E) v)) ⟨_, e1, q2, q3, ?_⟩ (fun z _ => ?_)⟩) (fun q hq => ?_) V hk hj
    · rw [hsl]
      exact t_set q4 hap hkN (kx_v (kx_B E) v)
    · simp only [updV]
      by_cases hz : z = kf
      · subst hz
        rw [if_pos rfl, List.getD_eq_getElem?_getD, List.getElem?_set_self hl]
        rfl
      · rw [if_neg hz]
        congr 1
        rw [List.getD_eq_getElem?_getD, List.getD_eq_getElem?_getD, List.getElem?_set_ne (Ne.symm hz)]
    · rcases List.mem_append.mp hq with g | g
      · exact L q g
      · rw [List.mem_singleton.mp g]
        exact Nat.le_add_right _ _
  rcases hfin with hfin | ⟨hfin, hini, hdecl⟩
  · unfold u_lay at hlay
    rw [if_neg (by rw [hfin]; decide)] at hlay
    have h6 := u_store hfc hkC hkind hlay hif hd (hn (kx_B E)) (hfit (kx_B E))
    exact W.putK C.ex C.bt (f := f) ⟨C.own, C.w hlink, ⟨_, _, _, hif⟩, hst⟩ (by rw [q2]; exact h6) q1 q3 (by rw [hsl]; exact k2_hasslot (q4 kf hkN)) rfl rfl hdg hbig
  · unfold u_lay at hlay
    rw [if_pos hfin] at hlay
    have hcf : m.cls = cf := by
      obtain ⟨_, _, c', _, _, _, -, -, hf', -, -, -, hown2, -⟩ := Cond.laysFinal_spec hlay
      have e1 : c' = cf := by have := hif.symm.trans hf'; simp at this; exact this.1.symm
      rw [hdecl] at hown2
      rw [← e1]; exact Option.some.inj (C.own.symm.trans hown2)
    have h6 := u_fits hfc hkC hkind (Or.inr hlay) hif hd (hn (kx_B E)) (hfit (kx_B E))
    exact W.putFinK C.ex C.bt C.own (C.w hlink) hif hst hcf (C.nm.trans hini) (by rw [q2]; exact h6) q1 q3 (by rw [hsl]; exact k2_hasslot (q4 kf hkN)) rfl rfl hdg hbig
theorem kx_iald {i N ix : Nat} {f : Nat → Int32} {x : Int32} (hdg : decode I.2.1 pc = .ok (.iaload, 1)) (hi : h i = some (kx_ci N f)) (hx : kx_ix x ix N)
    (kk : kx_V E I d mc ms Q k j (pc + 1) lv (.int (f ix) :: st) n h) : kx_V E I d mc ms Q k j pc lv (.int x :: .ref i :: st) n h := by
  intro p e R s m args below meth c H locs ls cells slots C P L V hk hj
  exact W.iald (v := .int (f ix)) C.ex C.bt (P.2.2.2 i _ hi) ((C.k.2 0 _ rfl).1 N (fun j => .int (f j))) (fun q => by cases q) (by rw [arrV_size]; exact hx.ok) (by rw [hx.cl, arrV_read _ _ hx.2.1]) rfl rfl hdg
    (kk p e R s m args below meth c H locs ls cells slots C P L V hk hj)
theorem kx_lald {i N ix : Nat} {f : Nat → Int64} {x : Int32} (hdg : decode I.2.1 pc = .ok (.laload, 1)) (hi : h i = some (kx_cl N f)) (hx : kx_ix x ix N)
    (kk : kx_V E I d mc ms Q k j (pc + 1) lv (.long (f ix) :: st) n h) : kx_V E I d mc ms Q k j pc lv (.int x :: .ref i :: st) n h := by
  intro p e R s m args below meth c H locs ls cells slots C P L V hk hj
  exact W.lald (v := .long (f ix)) C.ex C.bt (P.2.2.2 i _ hi) ((C.k.2 1 _ rfl).1 N (fun j => .long (f j))) (fun q => by cases q) (by rw [arrV_size]; exact hx.ok) (by rw [hx.cl, arrV_read _ _ hx.2.1]) rfl rfl hdg
    (kk p e R s m args below meth c H locs ls cells slots C P L V hk hj)
theorem kx_aald {i t N ix b : Nat} {f : Nat → Option Nat} {x : Int32} (hdg : decode I.2.1 pc = .ok (.aaload, 1)) (ht : ∃ Cn, ∀ aC, (kx_tys aC)[2 + t]? = some (aC (2 + t), .object Cn)) (hi : h i = some (kx_cq t N f)) (hx : kx_ix x ix N) (hf : f ix = some b)
    (kk : kx_V E I d mc ms Q k j (pc + 1) lv (.ref b :: st) n h) : kx_V E I d mc ms Q k j pc lv (.int x :: .ref i :: st) n h := by
  intro p e R s m args below meth c H locs ls cells slots C P L V hk hj
  obtain ⟨Cn, ht⟩ := ht
  exact W.aald (v := .ref (kx_B E + b)) (ty := .object Cn) C.ex C.bt (P.2.2.2 i _ hi) ((C.k.2 (2 + t) _ (ht E.2.2.2)).1 N (fun j => kx_rf (kx_B E) (f j))) rfl (fun q => by cases q) (by rw [arrV_size]; exact hx.ok) (by rw [hx.cl, arrV_read _ _ hx.2.1]; show some (kx_rf (kx_B E) (f ix)) = _; rw [hf]; rfl) rfl rfl hdg
    (kk p e R s m args below meth c H locs ls cells slots C P L V hk hj)
theorem kx_locs {E : kx_E} {locs : List Loc} {a z : Nat} (L : ∀ q ∈ locs, kx_B E ≤ q.base) : ∀ q ∈ locs ++ [(⟨kx_B E + a, z⟩ : Loc)], kx_B E ≤ q.base := by
  intro q hq
  rcases List.mem_append.mp hq with g | g
  · exact L q g
  · rw [List.mem_singleton.mp g]
    exact Nat.le_add_right _ _
theorem kx_iast {i N ix : Nat} {f : Nat → Int32} {x y : Int32} (hdg : decode I.2.1 pc = .ok (.iastore, 1)) (hi : h i = some (kx_ci N f)) (hx : kx_ix x ix N)
    (kk : kx_V E I d mc ms Q k j (pc + 1) lv st n (kx_set h i (kx_ci N (upd f ix y)))) : kx_V E I d mc ms Q k j pc lv (.int y :: .int x :: .ref i :: st) n h := by
  intro p e R s m args below meth c H locs ls cells slots C P L V hk hj
  refine W.iast C.ex C.bt (P.2.2.2 i _ hi) ((C.k.2 0 _ rfl).1 N (fun j => .int (f j))) (fun q => by cases q) (by rw [arrV_size]; exact hx.ok) rfl rfl hdg fun H1 e z oq => ?_
  refine kk p _ R s m args below meth c H1 _ ls cells slots C (P.set z oq ?_) (kx_locs L) V hk hj
  show H1[_]? = some (arrV _ _ _)
  rw [e, arrV_store, hx.cl]
  congr 2
  funext q
  by_cases hq : q = ix
  · subst hq
    simp [updV, upd]
  · simp [updV, upd, hq]
theorem kx_last {i N ix : Nat} {f : Nat → Int64} {x : Int32} {y : Int64} (hdg : decode I.2.1 pc = .ok (.lastore, 1)) (hi : h i = some (kx_cl N f)) (hx : kx_ix x ix N)
    (kk : kx_V E I d mc ms Q k j (pc + 1) lv st n (kx_set h i (kx_cl N (vp_updL f ix y)))) : kx_V E I d mc ms Q k j pc lv (.long y :: .int x :: .ref i :: st) n h := by
  intro p e R s m args below meth c H locs ls cells slots C P L V hk hj
  refine W.last C.ex C.bt (P.2.2.2 i _ hi) ((C.k.2 1 _ rfl).1 N (fun j => .long (f j))) (fun q => by cases q) (by rw [arrV_size]; exact hx.ok) rfl rfl hdg fun H1 e z oq => ?_
  refine kk p _ R s m args below meth c H1 _ ls cells slots C (P.set z oq ?_) (kx_locs L) V hk hj
  show H1[_]? = some (arrV _ _ _)
  rw [e, arrV_store, hx.cl]
  congr 2
  funext q
  by_cases hq : q = ix
  · subst hq
    simp [updV, vp_updL]
  · simp [updV, vp_updL, hq]
theorem kx_aast {i t N ix b ci : Nat} {f : Nat → Option Nat} {x : Int32} {fs : List Value} (hdg : decode I.2.1 pc = .ok (.aastore, 1)) (ht : ∃ r : vw_C, kx_cls[ci]? = some r ∧ ∀ aC, (kx_tys aC)[2 + t]? = some (aC (2 + t), .object r.1)) (hi : h i = some (kx_cq t N f)) (hb : h b = some (kx_co ci fs)) (hx : kx_ix x ix N)
    (kk : kx_V E I d mc ms Q k j (pc + 1) lv st n (kx_set h i (kx_cq t N (va_up f ix (some b))))) : kx_V E I d mc ms Q k j pc lv (.ref b :: .int x :: .ref i :: st) n h := by
  intro p e R s m args below meth c H locs ls cells slots C P L V hk hj
  obtain ⟨r, hc, ht⟩ := ht
  obtain ⟨r', h1, cellV, g1, g2, g3, -⟩ := P.2.2.2 b _ hb
  have hcls := (C.k.1 ci r hc).2
  obtain ⟨kA, comp, k1, k2, k3, -⟩ := (C.k.2 (2 + t) _ (ht E.2.2.2)).2
  have hcomp : comp = E.2.2.1.1 ci := Option.some.inj (k3.symm.trans hcls.1)
  subst hcomp
  obtain ⟨kC, hkC, -⟩ := hcls.2
  refine W.aast C.ex C.bt (P.2.2.2 i _ hi) (fun q h => by cases h) (fun h => by cases h) k1 k2 rfl hkC ⟨fun q => hx.ok (Or.inl q), by rw [arrV_size, hx.cl]; exact hx.2.1⟩ g1 (fun q h => by rw [g3] at h; cases h) (by rw [g2]; exact hkC) (by rw [g2]; exact va_assign hcls) rfl rfl hdg fun H1 e z oq => ?_
  refine kk p _ R s m args below meth c H1 _ ls cells slots C (P.set z oq ?_) (kx_locs L) V hk hj
  show H1[_]? = some (arrV _ _ _)
  rw [e, arrV_store, hx.cl]
  congr 2
  funext q
  by_cases hq : q = ix
  · subst hq
    simp [updV, va_up, kx_rf]
  · simp [updV, va_up, hq]
theorem kx_alen {i N : Nat} {f : Nat → Int32} (hdg : decode I.2.1 pc = .ok (.arraylength, 1)) (hi : h i = some (kx_ci N f))
    (kk : kx_V E I d mc ms Q k j (pc + 1) lv (.int (nI N) :: st) n h) : kx_V E I d mc ms Q k j pc lv (.ref i :: st) n h := by
  intro p e R s m args below meth c H locs ls cells slots C P L V hk hj
  exact W.alen (n := nI N) C.ex C.bt (P.2.2.2 i _ hi) ((C.k.2 0 _ rfl).1 N (fun j => .int (f j))) (by rw [arrV_size]; rfl) rfl rfl hdg
    (kk p e R s m args below meth c H locs ls cells slots C P L V hk hj)
def kx_nw (own : String) (index ci N : Nat) (fs : List Value) : Prop := ∃ (C : String) (T : u_T) (ty : Nat → FieldType), kx_cls[ci]? = some (C, T, N) ∧ (∀ w ∈ u_ws C T N, w ∈ kx_tb) ∧ (∀ k, k < N → parseFieldDescriptor (T k).2.2.1 = some (ty k)) ∧ Cond.classLink own index C ∈ kx_tb ∧ Cond.instantiable C N ∈ kx_tb ∧ Cond.initialized C ∈ kx_tb ∧ (∀ (B : Nat) (z : Nat), z < N → defaultValue (ty z) = kx_v B (fs.getD z .null))
theorem kx_new {index ci N : Nat} {fs : List Value} (hdg : decode I.2.1 pc = .ok (.new index, 3)) (hw : kx_nw I.1 index ci N fs)
    (kk : kx_V E I d mc ms Q k j (pc + 3) lv (.ref n :: st) (n + 1) (kx_set h n (kx_co ci fs))) : kx_V E I d mc ms Q (k + 1) (j + N) pc lv st n h := by
  intro p e R s m args below meth c H locs ls cells slots C P L V hk hj
  obtain ⟨C', T, ty, hc, hin, hty, w1, w2, w3, hfs⟩ := hw
  have hKn := C.k.1 ci _ hc
  have hsz : H.size = kx_B E + n := P.1
  refine W.newcK C.ex C.bt C.own (C.w w1) (C.w w2) (C.w w3) rfl hdg (by rw [C.rc]; omega) (by rw [C.rs]; omega) hKn.2.1 hsz fun H1 kC hkC e1 z1 o1 => ?_
  refine kk p _ R s m args below meth c H1 locs ls (cells + 1) (slots + N) C (P.push (by rw [z1, hsz]) (fun q hq => o1 q (by omega)) ⟨_, hc, (u_born (ws := kx_tb) ty (fun w hw => C.w hw) hin hKn hkC e1 hty).to (fun z hz => hfs _ z hz)⟩) L V (by omega) (by omega)
theorem kx_newi {N : Nat} {x : Int32} (hdg : decode I.2.1 pc = .ok (.newarray .int, 2)) (hw : Cond.arrayClass .int ∈ kx_tb) (hx : x = nI N) (hN : N ≤ 100000)
    (kk : kx_V E I d mc ms Q k j (pc + 2) lv (.ref n :: st) (n + 1) (kx_set h n (kx_ci N (fun _ => 0)))) : kx_V E I d mc ms Q (k + 1) (j + N) pc lv (.int x :: st) n h := by
  intro p e R s m args below meth c H locs ls cells slots C P L V hk hj
  subst hx
  have hsz : H.size = kx_B E + n := P.1
  refine va_newaK (atype := .int) C.ex C.bt (C.w hw) rfl hdg rfl (nI_pos (by omega)) (nI_clamp (by omega)) (by show N * 4 ≤ _; omega) (by rw [C.rc]; omega) (by rw [C.rs]; omega) hsz fun H1 cA e1 z1 o1 hA hnm => ?_
  have hcA : cA = E.2.2.2 0 := Option.some.inj (hnm.symm.trans (C.k.2 0 _ rfl).2)
  subst hcA
  exact kk p _ R s m args below meth c H1 locs ls (cells + 1) (slots + N) C (P.push (by rw [z1, hsz]) (fun q hq => o1 q (by omega)) e1) L V (by omega) (by omega)
theorem kx_newl {N : Nat} {x : Int32} (hdg : decode I.2.1 pc = .ok (.newarray .long, 2)) (hw : Cond.arrayClass .long ∈ kx_tb) (hx : x = nI N) (hN : N ≤ 100000)
    (kk : kx_V E I d mc ms Q k j (pc + 2) lv (.ref n :: st) (n + 1) (kx_set h n (kx_cl N (fun _ => 0)))) : kx_V E I d mc ms Q (k + 1) (j + N) pc lv (.int x :: st) n h := by
  intro p e R s m args below meth c H locs ls cells slots C P L V hk hj
  subst hx
  have hsz : H.size = kx_B E + n := P.1
  refine va_newaK (atype := .long) C.ex C.bt (C.w hw) rfl hdg rfl (nI_pos (by omega)) (nI_clamp (by omega)) (by show N * 8 ≤ _; omega) (by rw [C.rc]; omega) (by rw [C.rs]; omega) hsz fun H1 cA e1 z1 o1 hA hnm => ?_
  have hcA : cA = E.2.2.2 1 := Option.some.inj (hnm.symm.trans (C.k.2 1 _ rfl).2)
  subst hcA
  exact kk p _ R s m args below meth c H1 locs ls (cells + 1) (slots + N) C (P.push (by rw [z1, hsz]) (fun q hq => o1 q (by omega)) e1) L V (by omega) (by omega)
theorem kx_newq {index t N : Nat} {x : Int32} {Cn : String} (hdg : decode I.2.1 pc = .ok (.anewarray index, 3)) (h1 : Cond.classLink I.1 index Cn ∈ kx_tb) (h2 : Cond.arrayOver (.object Cn) ∈ kx_tb) (ht : ∀ aC, (kx_tys aC)[2 + t]? = some (aC (2 + t), .object Cn)) (hx : x = nI N) (hN : N ≤ 100000)
    (kk : kx_V E I d mc ms Q k j (pc + 3) lv (.ref n :: st) (n + 1) (kx_set h n (kx_cq t N (fun _ => none)))) : kx_V E I d mc ms Q (k + 1) (j + N) pc lv (.int x :: st) n h := by
  intro p e R s m args below meth c H locs ls cells slots C P L V hk hj
  subst hx
  have hsz : H.size = kx_B E + n := P.1
  have hcl : (nI N).toNatClampNeg = N := nI_clamp (by omega)
  refine W.anew C.ex C.bt C.own (C.w h1) (C.w h2) rfl hdg rfl (nI_pos (by omega)) (by rw [hcl]; omega) (by rw [C.rc]; omega) (by rw [C.rs, hcl]; omega) fun cA kA comp f1 f2 f3 f4 => ?_
  obtain ⟨kA', comp', k1, k2, k3, k4⟩ := (C.k.2 (2 + t) _ (ht E.2.2.2)).2
  have hcA : cA = E.2.2.2 (2 + t) := Option.some.inj (f1.symm.trans k4)
  subst hcA
  rw [hsz, hcl]
  refine kk p _ R s m args below meth c _ locs ls (cells + 1) (slots + N) C (P.push (by simp) (fun q hq => ?_) ?_) L V (by omega) (by omega)
  · rw [Array.getElem?_push, if_neg (Nat.ne_of_lt hq)]
  · show (H.push _)[kx_B E + n]? = some (arrV _ _ _)
    rw [← hsz, Array.getElem?_push_size]
    show some _ = some (arrV (E.2.2.2 (2 + t)) N (fun _ => Value.null))
    rw [← arrV_new]
theorem kx_obj {index i : Nat} (hdg : decode I.2.1 pc = .ok (.invokespecial index, 3)) (h1 : Cond.methodLink I.1 index Lib.objectInit ∈ kx_tb) (h2 : Cond.instanceMethod Lib.objectInit ∈ kx_tb) (h3 : Cond.code Lib.objectInit ⟨#[0xb1]⟩ 1 none ∈ kx_tb) (hd : 1 ≤ d) (hs : (st.map fun v => v.category).sum ≤ 8)
    (kk : kx_V E I d mc ms Q k j (pc + 3) lv st n h) : kx_V E I d mc ms Q k j pc lv (.ref i :: st) n h := by
  intro p e R s m args below meth c H locs ls cells slots C P L V hk hj
  have hc : ((List.map (kx_v (kx_B E)) st).map fun v => v.category).sum = _ := kx_s_cat E st
  have hl := C.lc
  have hf := C.fr
  exact W.objInit C.ex C.bt C.own (C.w h1) (C.w h2) (C.w h3) rfl (V.1.trans C.ml.symm) rfl hdg (by omega) (by show 2 * 0 + ((List.map (kx_v (kx_B E)) st).map fun v => v.category).sum + 12 ≤ _; omega)
    (kk p e R s m args below meth c H locs ls cells slots C P L V hk hj)
end KXD
