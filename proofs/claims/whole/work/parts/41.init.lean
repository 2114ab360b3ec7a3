theorem kx_mono {E : kx_E} {I : kx_I} {d mc ms : Nat} {Q : kx_Q} {k j pc : Nat} {lv : List (Nat × Value)} {st : List Value} {n : Nat} {h h' : kx_H} (hh : ∀ i c, h' i = some c → h i = some c) (kk : kx_V E I d mc ms Q k j pc lv st n h') : kx_V E I d mc ms Q k j pc lv st n h :=
  fun p e R s m args below meth c H locs ls cells slots C P L V hk hj => kk p e R s m args below meth c H locs ls cells slots C ⟨P.1, P.2.1, P.2.2.1, fun i c hi => P.2.2.2 i c (hh i c hi)⟩ L V hk hj
theorem kx_newq2 {E : kx_E} {I : kx_I} {d mc ms : Nat} {Q : kx_Q} {k j pc : Nat} {lv : List (Nat × Value)} {st : List Value} {n : Nat} {h : kx_H} {index t N : Nat} {x : Int32} {Cn : String} (hdg : decode I.2.1 pc = .ok (.anewarray index, 3)) (h1 : Cond.classLink I.1 index Cn ∈ kx_tb) (h2 : Cond.arrayOver (.object Cn) ∈ lw_tbl) (ht : ∀ aC, (kx_tys aC)[2 + t]? = some (aC (2 + t), .object Cn)) (hx : x = nI N) (hN : N ≤ 100000)
    (kk : kx_V E I d mc ms Q k j (pc + 3) lv (.ref n :: st) (n + 1) (kx_set h n (kx_cq t N (fun _ => none)))) : kx_V E I d mc ms Q (k + 1) (j + N) pc lv (.int x :: st) n h := by
  intro p e R s m args below meth c H locs ls cells slots C P L V hk hj
  subst hx
  have hsz : H.size = kx_B E + n := P.1
  have hcl : (nI N).toNatClampNeg = N := nI_clamp (by omega)
  obtain ⟨A0, hA0⟩ := C.g.2.1
  have hAO : (Cond.arrayOver (.object Cn)).before args s = true := va_AO.use (va_AO.moved C.wm.alike (va_AO.of (hA0 _ h2)))
  refine W.anew C.ex C.bt C.own (C.w h1) hAO rfl hdg rfl (nI_pos (by omega)) (by rw [hcl]; omega) (by rw [C.rc]; omega) (by rw [C.rs, hcl]; omega) fun cA kA comp f1 f2 f3 f4 => ?_
  obtain ⟨kA', comp', k1, k2, k3, k4⟩ := (C.k.2 (2 + t) _ (ht E.2.2.2)).2
  have hcA : cA = E.2.2.2 (2 + t) := Option.some.inj (f1.symm.trans k4)
  subst hcA
  rw [hsz, hcl]
  refine kk p _ R s m args below meth c _ locs ls (cells + 1) (slots + N) C (P.push (by simp) (fun q hq => ?_) ?_) L V (by omega) (by omega)
  · rw [Array.getElem?_push, if_neg (Nat.ne_of_lt hq)]
  · show (H.push _)[kx_B E + n]? = some (arrV _ _ _)
    rw [← hsz, Array.getElem?_push_size]
    show some _ = some (arrV (E.2.2.2 (2 + t)) N (fun _ => Value.null))
    rw [← arrV_new]
theorem kx_wid {E : kx_E} {I : kx_I} {d mc ms : Nat} {Q : kx_Q} {k j k' j' pc : Nat} {lv : List (Nat × Value)} {st : List Value} {n : Nat} {h : kx_H} (h1 : k' ≤ k) (h2 : j' ≤ j) (kk : kx_V E I d mc ms Q k' j' pc lv st n h) : kx_V E I d mc ms Q k j pc lv st n h :=
  fun p e R s m args below meth c H locs ls cells slots C P L V hk hj => kk p e R s m args below meth c H locs ls cells slots C P L V (by omega) (by omega)
set_option maxHeartbeats 4000000 in
set_option maxRecDepth 100000 in
theorem k_L_init {E : kx_E} {h : kx_H} (hs : h 1 = some (kx_co 1 [.null, .null, .null, .null, .null, .null, .null, .null, .null, .int 0, .int 0])) : kx_V E i_L_init 1 9 3524 (fun r n' h' => r = Sum.inl none ∧ n' = 11 ∧ h' 1 = some (kx_co 1 [.ref 2, .ref 3, .ref 4, .ref 5, .ref 6, .ref 7, .ref 8, .ref 9, .ref 10, .int 0, .int 0]) ∧ h' 2 = some (kx_ci 500 (fun _ => 0)) ∧ h' 3 = some (kx_ci 500 (fun _ => 0)) ∧ h' 4 = some (kx_ci 500 (fun _ => 0)) ∧ h' 5 = some (kx_cl 500 (fun _ => 0)) ∧ h' 6 = some (kx_ci 500 (fun _ => 0)) ∧ h' 7 = some (kx_ci 500 (fun _ => 0)) ∧ h' 8 = some (kx_ci 500 (fun _ => 0)) ∧ h' 9 = some (kx_ci 16 (fun _ => 0)) ∧ h' 10 = some (kx_ci 8 (fun _ => 0)) ∧ h' 0 = h 0) 9 3524 0 (lv_args 0 [.ref 1]) [] 2 h := by
  refine kx_aload_n (pc := 0) d_L_init_0 rfl ?_
  refine kx_obj (pc := 1) d_L_init_1 (kx_t 27 (by decide +kernel) rfl) (kx_t 20 (by decide +kernel) rfl) (kx_t 21 (by decide +kernel) rfl) (by decide) (Nat.le_of_ble_eq_true rfl) ?_
  refine kx_aload_n (pc := 4) d_L_init_4 rfl ?_
  refine kx_sipush (pc := 5) (x := 500) d_L_init_5 (by decide) ?_
  refine kx_newi (pc := 8) (N := 500) (k := 8) (j := 3024) d_L_init_8 (kx_t 79 (by decide +kernel) rfl) rfl (by decide) ?_
  refine kx_put (pc := 10) d_L_init_10 fl_L_9 fw_L_0 ((kx_set_n (by omega)).trans hs) (fun _ => rfl) (fun _ => rfl) (by simp) ?_
  refine kx_aload_n (pc := 13) d_L_init_13 rfl ?_
  refine kx_sipush (pc := 14) (x := 500) d_L_init_14 (by decide) ?_
  refine kx_newi (pc := 17) (N := 500) (k := 7) (j := 2524) d_L_init_17 (kx_t 79 (by decide +kernel) rfl) rfl (by decide) ?_
  refine kx_put (pc := 19) d_L_init_19 fl_L_15 fw_L_1 ((kx_set_n (by omega)).trans kx_set_s) (fun _ => rfl) (fun _ => rfl) (by simp) ?_
  refine kx_aload_n (pc := 22) d_L_init_22 rfl ?_
  refine kx_sipush (pc := 23) (x := 500) d_L_init_23 (by decide) ?_
  refine kx_newi (pc := 26) (N := 500) (k := 6) (j := 2024) d_L_init_26 (kx_t 79 (by decide +kernel) rfl) rfl (by decide) ?_
  refine kx_put (pc := 28) d_L_init_28 fl_L_18 fw_L_2 ((kx_set_n (by omega)).trans kx_set_s) (fun _ => rfl) (fun _ => rfl) (by simp) ?_
  refine kx_aload_n (pc := 31) d_L_init_31 rfl ?_
  refine kx_sipush (pc := 32) (x := 500) d_L_init_32 (by decide) ?_
  refine kx_newl (pc := 35) (N := 500) (k := 5) (j := 1524) d_L_init_35 (kx_t 80 (by decide +kernel) rfl) rfl (by decide) ?_
  refine kx_put (pc := 37) d_L_init_37 fl_L_21 fw_L_3 ((kx_set_n (by omega)).trans kx_set_s) (fun _ => rfl) (fun _ => rfl) (by simp) ?_
  refine kx_aload_n (pc := 40) d_L_init_40 rfl ?_
  refine kx_sipush (pc := 41) (x := 500) d_L_init_41 (by decide) ?_
  refine kx_newi (pc := 44) (N := 500) (k := 4) (j := 1024) d_L_init_44 (kx_t 79 (by decide +kernel) rfl) rfl (by decide) ?_
  refine kx_put (pc := 46) d_L_init_46 fl_L_25 fw_L_4 ((kx_set_n (by omega)).trans kx_set_s) (fun _ => rfl) (fun _ => rfl) (by simp) ?_
  refine kx_aload_n (pc := 49) d_L_init_49 rfl ?_
  refine kx_sipush (pc := 50) (x := 500) d_L_init_50 (by decide) ?_
  refine kx_newi (pc := 53) (N := 500) (k := 3) (j := 524) d_L_init_53 (kx_t 79 (by decide +kernel) rfl) rfl (by decide) ?_
  refine kx_put (pc := 55) d_L_init_55 fl_L_28 fw_L_5 ((kx_set_n (by omega)).trans kx_set_s) (fun _ => rfl) (fun _ => rfl) (by simp) ?_
  refine kx_aload_n (pc := 58) d_L_init_58 rfl ?_
  refine kx_sipush (pc := 59) (x := 500) d_L_init_59 (by decide) ?_
  refine kx_newi (pc := 62) (N := 500) (k := 2) (j := 24) d_L_init_62 (kx_t 79 (by decide +kernel) rfl) rfl (by decide) ?_
  refine kx_put (pc := 64) d_L_init_64 fl_L_31 fw_L_6 ((kx_set_n (by omega)).trans kx_set_s) (fun _ => rfl) (fun _ => rfl) (by simp) ?_
  refine kx_aload_n (pc := 67) d_L_init_67 rfl ?_
  refine kx_bipush (pc := 68) (x := 16) d_L_init_68 (by decide) ?_
  refine kx_newi (pc := 70) (N := 16) (k := 1) (j := 8) d_L_init_70 (kx_t 79 (by decide +kernel) rfl) rfl (by decide) ?_
  refine kx_put (pc := 72) d_L_init_72 fl_L_34 fw_L_7 ((kx_set_n (by omega)).trans kx_set_s) (fun _ => rfl) (fun _ => rfl) (by simp) ?_
  refine kx_aload_n (pc := 75) d_L_init_75 rfl ?_
  refine kx_bipush (pc := 76) (x := 8) d_L_init_76 (by decide) ?_
  refine kx_newi (pc := 78) (N := 8) (k := 0) (j := 0) d_L_init_78 (kx_t 79 (by decide +kernel) rfl) rfl (by decide) ?_
  refine kx_put (pc := 80) d_L_init_80 fl_L_37 fw_L_8 ((kx_set_n (by omega)).trans kx_set_s) (fun _ => rfl) (fun _ => rfl) (by simp) ?_
  exact kx_vret rfl d_L_init_83 ⟨rfl, rfl, rfl, rfl, rfl, rfl, rfl, rfl, rfl, rfl, rfl, rfl, rfl⟩
set_option maxHeartbeats 4000000 in
set_option maxRecDepth 100000 in
theorem k_P_init {E : kx_E} {h : kx_H} {m : Nat} {x : Int32} (hs : h m = some (kx_co 2 [.int 0, .null, .null, .null, .int 0, .null, .int 0, .int 0])) : kx_V E i_P_init 1 4 48 (fun r n' h' => r = Sum.inl none ∧ n' = m + 5 ∧ h' m = some (kx_co 2 [.int x, .ref (m + 1), .ref (m + 2), .ref (m + 3), .int 0, .ref (m + 4), .int 0, .int (-1)]) ∧ h' (m + 1) = some (kx_ci 8 (fun _ => 0)) ∧ h' (m + 2) = some (kx_ci 8 (fun _ => 0)) ∧ h' (m + 3) = some (kx_cl 16 (fun _ => 0)) ∧ h' (m + 4) = some (kx_cl 16 (fun _ => 0)) ∧ ∀ i, i < m → h' i = h i) 4 48 0 (lv_args 0 [.ref m, .int x]) [] (m + 1) h := by
  refine kx_aload_n (pc := 0) d_P_init_0 rfl ?_
  refine kx_obj (pc := 1) d_P_init_1 (kx_t 87 (by decide +kernel) rfl) (kx_t 20 (by decide +kernel) rfl) (kx_t 21 (by decide +kernel) rfl) (by decide) (Nat.le_of_ble_eq_true rfl) ?_
  refine kx_aload_n (pc := 4) d_P_init_4 rfl ?_
  refine kx_iload_n (pc := 5) d_P_init_5 rfl ?_
  refine kx_put (pc := 6) d_P_init_6 fl_P_9 fw_P_0 hs (fun _ => rfl) (fun _ => rfl) (by simp) ?_
  refine kx_aload_n (pc := 9) d_P_init_9 rfl ?_
  refine kx_bipush (pc := 10) (x := 8) d_P_init_10 (by decide) ?_
  refine kx_newi (pc := 12) (N := 8) (k := 3) (j := 40) d_P_init_12 (kx_t 79 (by decide +kernel) rfl) rfl (by decide) ?_
  refine kx_put (pc := 14) d_P_init_14 fl_P_15 fw_P_1 ((kx_set_n (by omega)).trans kx_set_s) (fun _ => rfl) (fun _ => rfl) (by simp) ?_
  refine kx_aload_n (pc := 17) d_P_init_17 rfl ?_
  refine kx_bipush (pc := 18) (x := 8) d_P_init_18 (by decide) ?_
  refine kx_newi (pc := 20) (N := 8) (k := 2) (j := 32) d_P_init_20 (kx_t 79 (by decide +kernel) rfl) rfl (by decide) ?_
  refine kx_put (pc := 22) d_P_init_22 fl_P_19 fw_P_2 ((kx_set_n (by omega)).trans kx_set_s) (fun _ => rfl) (fun _ => rfl) (by simp) ?_
  refine kx_aload_n (pc := 25) d_P_init_25 rfl ?_
  refine kx_bipush (pc := 26) (x := 16) d_P_init_26 (by decide) ?_
  refine kx_newl (pc := 28) (N := 16) (k := 1) (j := 16) d_P_init_28 (kx_t 80 (by decide +kernel) rfl) rfl (by decide) ?_
  refine kx_put (pc := 30) d_P_init_30 fl_P_22 fw_P_3 ((kx_set_n (by omega)).trans kx_set_s) (fun _ => rfl) (fun _ => rfl) (by simp) ?_
  refine kx_aload_n (pc := 33) d_P_init_33 rfl ?_
  refine kx_bipush (pc := 34) (x := 16) d_P_init_34 (by decide) ?_
  refine kx_newl (pc := 36) (N := 16) (k := 0) (j := 0) d_P_init_36 (kx_t 80 (by decide +kernel) rfl) rfl (by decide) ?_
  refine kx_put (pc := 38) d_P_init_38 fl_P_26 fw_P_5 ((kx_set_n (by omega)).trans kx_set_s) (fun _ => rfl) (fun _ => rfl) (by simp) ?_
  refine kx_aload_n (pc := 41) d_P_init_41 rfl ?_
  refine kx_iconst (pc := 42) (x := -1) d_P_init_42 (by decide) ?_
  refine kx_put (pc := 43) d_P_init_43 fl_P_29 fw_P_7 kx_set_s (fun _ => rfl) (fun _ => rfl) (by simp) ?_
  exact kx_vret rfl d_P_init_46 ⟨rfl, rfl, kx_set_s, by simp [kx_set], by simp [kx_set], by simp [kx_set], by simp [kx_set], fun i hi => by repeat rw [kx_set_n (by omega)]⟩
set_option maxHeartbeats 4000000 in
set_option maxRecDepth 100000 in
theorem k_S_init {E : kx_E} {h : kx_H} {m : Nat} (hs : h m = some (kx_co 3 [.int 0, .int 0, .int 0, .int 0])) : kx_V E i_S_init 1 0 0 (fun r n' h' => r = Sum.inl none ∧ n' = m + 1 ∧ h' m = some (kx_co 3 [.int (-1), .int 255, .int 0, .int 0]) ∧ ∀ i, i < m → h' i = h i) 0 0 0 (lv_args 0 [.ref m]) [] (m + 1) h := by
  refine kx_aload_n (pc := 0) d_S_init_0 rfl ?_
  refine kx_obj (pc := 1) d_S_init_1 (kx_t 121 (by decide +kernel) rfl) (kx_t 20 (by decide +kernel) rfl) (kx_t 21 (by decide +kernel) rfl) (by decide) (Nat.le_of_ble_eq_true rfl) ?_
  refine kx_aload_n (pc := 4) d_S_init_4 rfl ?_
  refine kx_iconst (pc := 5) (x := -1) d_S_init_5 (by decide) ?_
  refine kx_put (pc := 6) d_S_init_6 fl_S_9 fw_S_0 hs (fun _ => rfl) (fun _ => rfl) (by simp) ?_
  refine kx_aload_n (pc := 9) d_S_init_9 rfl ?_
  refine kx_sipush (pc := 10) (x := 255) d_S_init_10 (by decide) ?_
  refine kx_put (pc := 13) d_S_init_13 fl_S_15 fw_S_1 kx_set_s (fun _ => rfl) (fun _ => rfl) (by simp) ?_
  exact kx_vret rfl d_S_init_16 ⟨rfl, rfl, kx_set_s, fun i hi => by repeat rw [kx_set_n (by omega)]⟩
def a0 : kW := (fun _ _ => 0, fun _ _ => 0, fun i k => if i < 52 then (if 12 ≤ i then (if k = 0 then nI ((i - 12) / 5) else if k = 7 then -1 else 0) else 0) else if k = 0 then -1 else if k = 1 then 255 else 0)
def c8 (x : Int32) (i : Nat) : Nat → Int32 := fun k => if k < i then x else 0
theorem c8_up (x : Int32) (i : Nat) : upd (c8 x i) i x = c8 x (i + 1) := by
  funext k
  unfold upd c8
  by_cases h1 : k = i
  · subst h1
    rw [if_pos rfl, if_pos (by omega)]
  · rw [if_neg h1]
    by_cases h2 : k < i
    · rw [if_pos h2, if_pos (by omega)]
    · rw [if_neg h2, if_neg (by omega)]
def b0 : kW := (fun i => if i = 72 ∨ i = 74 then c8 (-1) 8 else if i = 75 then c8 255 8 else fun _ => 0, fun _ _ => 0, fun _ _ => 0)
def r8 (f : Nat → Nat) (i : Nat) : Nat → Option Nat := fun k => if k < i then some (f k) else none
theorem r8_up (f : Nat → Nat) (i : Nat) : va_up (r8 f i) i (some (f i)) = r8 f (i + 1) := by
  funext k
  unfold va_up r8
  by_cases h1 : k = i
  · subst h1
    rw [if_pos rfl, if_pos (by omega)]
  · rw [if_neg h1]
    by_cases h2 : k < i
    · rw [if_pos h2, if_pos (by omega)]
    · rw [if_neg h2, if_neg (by omega)]
set_option maxHeartbeats 4000000 in
set_option maxRecDepth 100000 in
theorem k_M_init1 {E : kx_E} {Q : kx_Q} {mc ms n : Nat} (m : Nat) : ∀ (i : Nat) (h : kx_H), i + m = 8 → h 61 = some (kx_co 4 [.int 0, .int 0, .int 0, .ref 62, .ref 63, .ref 64, .ref 65, .ref 66, .ref 67, .ref 68, .ref 69, .ref 70, .ref 71, .ref 72, .ref 73, .ref 74, .ref 75, .ref 76, .ref 77]) → h 72 = some (kx_ci 8 (c8 (-1) i)) → (∀ h', (∀ z, z ≠ 72 → h' z = h z) → h' 72 = some (kx_ci 8 (c8 (-1) 8)) → kx_V E i_M_init 1 mc ms Q 0 0 160 [(0, .ref 61)] [] n h') → kx_V E i_M_init 1 mc ms Q 0 0 141 [(1, .int (nI i)), (0, .ref 61)] [] n h := by
  induction m with
  | zero =>
    intro i h hm ho hv kk
    have h8 : i = 8 := by omega
    subst h8
    refine kx_iload_n (pc := 141) d_M_init_141 rfl ?_
    refine kx_bipush (pc := 142) (x := 8) d_M_init_142 (by decide) ?_
    refine kx_eqi (show (8 : Int32) = nI 8 from rfl) ?_
    refine kx_icmp_ge (pc := 144) (tgt := 160) d_M_init_144 (by decide) (fun _ => ?_) (fun hz => absurd (nI_le (Nat.le_refl 8) (by omega)) hz)
    refine kx_sub [1] rfl ?_
    exact kk h (fun _ _ => rfl) hv
  | succ m ih =>
    intro i h hm ho hv kk
    have hlt : i < 8 := by omega
    refine kx_iload_n (pc := 141) d_M_init_141 rfl ?_
    refine kx_bipush (pc := 142) (x := 8) d_M_init_142 (by decide) ?_
    refine kx_eqi (show (8 : Int32) = nI 8 from rfl) ?_
    refine kx_icmp_ge (pc := 144) (tgt := 160) d_M_init_144 (by decide) (fun hz => absurd hz (nI_ge hlt (by omega))) (fun _ => ?_)
    refine kx_aload_n (pc := 147) d_M_init_147 rfl ?_
    refine kx_get (pc := 148) d_M_init_148 fl_M_41 ho rfl ?_
    refine kx_iload_n (pc := 151) d_M_init_151 rfl ?_
    refine kx_iconst (pc := 152) (x := -1) d_M_init_152 (by decide) ?_
    refine kx_iast (pc := 153) d_M_init_153 hv ⟨rfl, hlt, by decide⟩ ?_
    refine kx_iinc (pc := 154) (y := nI (i + 1)) (lv' := [(1, _), (0, _)]) d_M_init_154 rfl (nI_1 i) (by decide) rfl ?_
    refine kx_goto (pc := 157) (tgt := 141) d_M_init_157 (by decide) ?_
    rw [c8_up]
    refine ih (i + 1) _ (by omega) ((kx_set_n (by decide)).trans ho) kx_set_s (fun h' e1 e2 => kk h' (fun z hz => (e1 z hz).trans (kx_set_n hz)) e2)
set_option maxHeartbeats 4000000 in
set_option maxRecDepth 100000 in
theorem k_M_init2 {E : kx_E} {Q : kx_Q} {mc ms n : Nat} (m : Nat) : ∀ (i : Nat) (h : kx_H), i + m = 8 → h 61 = some (kx_co 4 [.int 0, .int 0, .int 0, .ref 62, .ref 63, .ref 64, .ref 65, .ref 66, .ref 67, .ref 68, .ref 69, .ref 70, .ref 71, .ref 72, .ref 73, .ref 74, .ref 75, .ref 76, .ref 77]) → h 74 = some (kx_ci 8 (c8 (-1) i)) → h 75 = some (kx_ci 8 (c8 255 i)) → (∀ h', (∀ z, z ≠ 74 → z ≠ 75 → h' z = h z) → h' 74 = some (kx_ci 8 (c8 (-1) 8)) → h' 75 = some (kx_ci 8 (c8 255 8)) → Q (Sum.inl none) n h') → kx_V E i_M_init 1 mc ms Q 0 0 162 [(1, .int (nI i)), (0, .ref 61)] [] n h := by
  induction m with
  | zero =>
    intro i h hm ho hv hw kk
    have h8 : i = 8 := by omega
    subst h8
    refine kx_iload_n (pc := 162) d_M_init_162 rfl ?_
    refine kx_bipush (pc := 163) (x := 8) d_M_init_163 (by decide) ?_
    refine kx_eqi (show (8 : Int32) = nI 8 from rfl) ?_
    refine kx_icmp_ge (pc := 165) (tgt := 190) d_M_init_165 (by decide) (fun _ => ?_) (fun hz => absurd (nI_le (Nat.le_refl 8) (by omega)) hz)
    exact kx_vret rfl d_M_init_190 (kk h (fun _ _ _ => rfl) hv hw)
  | succ m ih =>
    intro i h hm ho hv hw kk
    have hlt : i < 8 := by omega
    refine kx_iload_n (pc := 162) d_M_init_162 rfl ?_
    refine kx_bipush (pc := 163) (x := 8) d_M_init_163 (by decide) ?_
    refine kx_eqi (show (8 : Int32) = nI 8 from rfl) ?_
    refine kx_icmp_ge (pc := 165) (tgt := 190) d_M_init_165 (by decide) (fun hz => absurd hz (nI_ge hlt (by omega))) (fun _ => ?_)
    refine kx_aload_n (pc := 168) d_M_init_168 rfl ?_
    refine kx_get (pc := 169) d_M_init_169 fl_M_47 ho rfl ?_
    refine kx_iload_n (pc := 172) d_M_init_172 rfl ?_
    refine kx_iconst (pc := 173) (x := -1) d_M_init_173 (by decide) ?_
    refine kx_iast (pc := 174) d_M_init_174 hv ⟨rfl, hlt, by decide⟩ ?_
    refine kx_aload_n (pc := 175) d_M_init_175 rfl ?_
    refine kx_get (pc := 176) d_M_init_176 fl_M_50 ((kx_set_n (by decide)).trans ho) rfl ?_
    refine kx_iload_n (pc := 179) d_M_init_179 rfl ?_
    refine kx_sipush (pc := 180) (x := 255) d_M_init_180 (by decide) ?_
    refine kx_iast (pc := 183) d_M_init_183 ((kx_set_n (by decide)).trans hw) ⟨rfl, hlt, by decide⟩ ?_
    refine kx_iinc (pc := 184) (y := nI (i + 1)) (lv' := [(1, _), (0, _)]) d_M_init_184 rfl (nI_1 i) (by decide) rfl ?_
    refine kx_goto (pc := 187) (tgt := 162) d_M_init_187 (by decide) ?_
    rw [c8_up, c8_up]
    refine ih (i + 1) _ (by omega) ((kx_set_n (by decide)).trans ((kx_set_n (by decide)).trans ho)) ((kx_set_n (by decide)).trans kx_set_s) kx_set_s (fun h' e1 e2 e3 => kk h' (fun z hz hy => (e1 z hz hy).trans ((kx_set_n hy).trans (kx_set_n hz))) e2 e3)
set_option maxHeartbeats 4000000 in
set_option maxRecDepth 100000 in
theorem k_M_init {E : kx_E} {h : kx_H} (hs : h 61 = some (kx_co 4 [.int 0, .int 0, .int 0, .null, .null, .null, .null, .null, .null, .null, .null, .null, .null, .null, .null, .null, .null, .null, .null])) : kx_V E i_M_init 1 16 2940 (fun r n' h' => r = Sum.inl none ∧ n' = 78 ∧ (∀ i, i < 61 → h' i = h i) ∧ ∀ i, 61 ≤ i → i < 78 → h' i = wd (wx a0 b0) i) 16 2940 0 (lv_args 0 [.ref 61]) [] 62 h := by
  refine kx_aload_n (pc := 0) d_M_init_0 rfl ?_
  refine kx_obj (pc := 1) d_M_init_1 (kx_t 471 (by decide +kernel) rfl) (kx_t 20 (by decide +kernel) rfl) (kx_t 21 (by decide +kernel) rfl) (by decide) (Nat.le_of_ble_eq_true rfl) ?_
  refine kx_aload_n (pc := 4) d_M_init_4 rfl ?_
  refine kx_sipush (pc := 5) (x := 500) d_M_init_5 (by decide) ?_
  refine kx_newi (pc := 8) (N := 500) (k := 15) (j := 2440) d_M_init_8 (kx_t 79 (by decide +kernel) rfl) rfl (by decide) ?_
  refine kx_put (pc := 10) d_M_init_10 fl_M_9 fw_M_3 ((kx_set_n (by omega)).trans hs) (fun _ => rfl) (fun _ => rfl) (by simp) ?_
  refine kx_aload_n (pc := 13) d_M_init_13 rfl ?_
  refine kx_sipush (pc := 14) (x := 500) d_M_init_14 (by decide) ?_
  refine kx_newi (pc := 17) (N := 500) (k := 14) (j := 1940) d_M_init_17 (kx_t 79 (by decide +kernel) rfl) rfl (by decide) ?_
  refine kx_put (pc := 19) d_M_init_19 fl_M_13 fw_M_4 ((kx_set_n (by omega)).trans kx_set_s) (fun _ => rfl) (fun _ => rfl) (by simp) ?_
  refine kx_aload_n (pc := 22) d_M_init_22 rfl ?_
  refine kx_sipush (pc := 23) (x := 500) d_M_init_23 (by decide) ?_
  refine kx_newi (pc := 26) (N := 500) (k := 13) (j := 1440) d_M_init_26 (kx_t 79 (by decide +kernel) rfl) rfl (by decide) ?_
  refine kx_put (pc := 28) d_M_init_28 fl_M_16 fw_M_5 ((kx_set_n (by omega)).trans kx_set_s) (fun _ => rfl) (fun _ => rfl) (by simp) ?_
  refine kx_aload_n (pc := 31) d_M_init_31 rfl ?_
  refine kx_sipush (pc := 32) (x := 500) d_M_init_32 (by decide) ?_
  refine kx_newi (pc := 35) (N := 500) (k := 12) (j := 940) d_M_init_35 (kx_t 79 (by decide +kernel) rfl) rfl (by decide) ?_
  refine kx_put (pc := 37) d_M_init_37 fl_M_19 fw_M_6 ((kx_set_n (by omega)).trans kx_set_s) (fun _ => rfl) (fun _ => rfl) (by simp) ?_
  refine kx_aload_n (pc := 40) d_M_init_40 rfl ?_
  refine kx_sipush (pc := 41) (x := 500) d_M_init_41 (by decide) ?_
  refine kx_newl (pc := 44) (N := 500) (k := 11) (j := 440) d_M_init_44 (kx_t 80 (by decide +kernel) rfl) rfl (by decide) ?_
  refine kx_put (pc := 46) d_M_init_46 fl_M_22 fw_M_7 ((kx_set_n (by omega)).trans kx_set_s) (fun _ => rfl) (fun _ => rfl) (by simp) ?_
  refine kx_aload_n (pc := 49) d_M_init_49 rfl ?_
  refine kx_sipush (pc := 50) (x := 128) d_M_init_50 (by decide) ?_
  refine kx_newl (pc := 53) (N := 128) (k := 10) (j := 312) d_M_init_53 (kx_t 80 (by decide +kernel) rfl) rfl (by decide) ?_
  refine kx_put (pc := 55) d_M_init_55 fl_M_26 fw_M_8 ((kx_set_n (by omega)).trans kx_set_s) (fun _ => rfl) (fun _ => rfl) (by simp) ?_
  refine kx_aload_n (pc := 58) d_M_init_58 rfl ?_
  refine kx_sipush (pc := 59) (x := 128) d_M_init_59 (by decide) ?_
  refine kx_newl (pc := 62) (N := 128) (k := 9) (j := 184) d_M_init_62 (kx_t 80 (by decide +kernel) rfl) rfl (by decide) ?_
  refine kx_put (pc := 64) d_M_init_64 fl_M_29 fw_M_9 ((kx_set_n (by omega)).trans kx_set_s) (fun _ => rfl) (fun _ => rfl) (by simp) ?_
  refine kx_aload_n (pc := 67) d_M_init_67 rfl ?_
  refine kx_bipush (pc := 68) (x := 64) d_M_init_68 (by decide) ?_
  refine kx_newi (pc := 70) (N := 64) (k := 8) (j := 120) d_M_init_70 (kx_t 79 (by decide +kernel) rfl) rfl (by decide) ?_
  refine kx_put (pc := 72) d_M_init_72 fl_M_32 fw_M_10 ((kx_set_n (by omega)).trans kx_set_s) (fun _ => rfl) (fun _ => rfl) (by simp) ?_
  refine kx_aload_n (pc := 75) d_M_init_75 rfl ?_
  refine kx_bipush (pc := 76) (x := 64) d_M_init_76 (by decide) ?_
  refine kx_newi (pc := 78) (N := 64) (k := 7) (j := 56) d_M_init_78 (kx_t 79 (by decide +kernel) rfl) rfl (by decide) ?_
  refine kx_put (pc := 80) d_M_init_80 fl_M_35 fw_M_11 ((kx_set_n (by omega)).trans kx_set_s) (fun _ => rfl) (fun _ => rfl) (by simp) ?_
  refine kx_aload_n (pc := 83) d_M_init_83 rfl ?_
  refine kx_bipush (pc := 84) (x := 8) d_M_init_84 (by decide) ?_
  refine kx_newi (pc := 86) (N := 8) (k := 6) (j := 48) d_M_init_86 (kx_t 79 (by decide +kernel) rfl) rfl (by decide) ?_
  refine kx_put (pc := 88) d_M_init_88 fl_M_38 fw_M_12 ((kx_set_n (by omega)).trans kx_set_s) (fun _ => rfl) (fun _ => rfl) (by simp) ?_
  refine kx_aload_n (pc := 91) d_M_init_91 rfl ?_
  refine kx_bipush (pc := 92) (x := 8) d_M_init_92 (by decide) ?_
  refine kx_newi (pc := 94) (N := 8) (k := 5) (j := 40) d_M_init_94 (kx_t 79 (by decide +kernel) rfl) rfl (by decide) ?_
  refine kx_put (pc := 96) d_M_init_96 fl_M_41 fw_M_13 ((kx_set_n (by omega)).trans kx_set_s) (fun _ => rfl) (fun _ => rfl) (by simp) ?_
  refine kx_aload_n (pc := 99) d_M_init_99 rfl ?_
  refine kx_bipush (pc := 100) (x := 8) d_M_init_100 (by decide) ?_
  refine kx_newi (pc := 102) (N := 8) (k := 4) (j := 32) d_M_init_102 (kx_t 79 (by decide +kernel) rfl) rfl (by decide) ?_
  refine kx_put (pc := 104) d_M_init_104 fl_M_44 fw_M_14 ((kx_set_n (by omega)).trans kx_set_s) (fun _ => rfl) (fun _ => rfl) (by simp) ?_
  refine kx_aload_n (pc := 107) d_M_init_107 rfl ?_
  refine kx_bipush (pc := 108) (x := 8) d_M_init_108 (by decide) ?_
  refine kx_newi (pc := 110) (N := 8) (k := 3) (j := 24) d_M_init_110 (kx_t 79 (by decide +kernel) rfl) rfl (by decide) ?_
  refine kx_put (pc := 112) d_M_init_112 fl_M_47 fw_M_15 ((kx_set_n (by omega)).trans kx_set_s) (fun _ => rfl) (fun _ => rfl) (by simp) ?_
  refine kx_aload_n (pc := 115) d_M_init_115 rfl ?_
  refine kx_bipush (pc := 116) (x := 8) d_M_init_116 (by decide) ?_
  refine kx_newi (pc := 118) (N := 8) (k := 2) (j := 16) d_M_init_118 (kx_t 79 (by decide +kernel) rfl) rfl (by decide) ?_
  refine kx_put (pc := 120) d_M_init_120 fl_M_50 fw_M_16 ((kx_set_n (by omega)).trans kx_set_s) (fun _ => rfl) (fun _ => rfl) (by simp) ?_
  refine kx_aload_n (pc := 123) d_M_init_123 rfl ?_
  refine kx_bipush (pc := 124) (x := 8) d_M_init_124 (by decide) ?_
  refine kx_newi (pc := 126) (N := 8) (k := 1) (j := 8) d_M_init_126 (kx_t 79 (by decide +kernel) rfl) rfl (by decide) ?_
  refine kx_put (pc := 128) d_M_init_128 fl_M_53 fw_M_17 ((kx_set_n (by omega)).trans kx_set_s) (fun _ => rfl) (fun _ => rfl) (by simp) ?_
  refine kx_aload_n (pc := 131) d_M_init_131 rfl ?_
  refine kx_bipush (pc := 132) (x := 8) d_M_init_132 (by decide) ?_
  refine kx_newi (pc := 134) (N := 8) (k := 0) (j := 0) d_M_init_134 (kx_t 79 (by decide +kernel) rfl) rfl (by decide) ?_
  refine kx_put (pc := 136) d_M_init_136 fl_M_56 fw_M_18 ((kx_set_n (by omega)).trans kx_set_s) (fun _ => rfl) (fun _ => rfl) (by simp) ?_
  refine kx_iconst (pc := 139) (x := 0) d_M_init_139 (by decide) ?_
  refine kx_eqi (show (0 : Int32) = nI 0 from rfl) ?_
  refine kx_istore_n (pc := 140) (lv' := [(1, _), (0, _)]) d_M_init_140 rfl (by decide) rfl ?_
  refine k_M_init1 8 0 _ rfl rfl rfl (fun hA f1 f2 => ?_)
  refine kx_iconst (pc := 160) (x := 0) d_M_init_160 (by decide) ?_
  refine kx_eqi (show (0 : Int32) = nI 0 from rfl) ?_
  refine kx_istore_n (pc := 161) (lv' := [(1, _), (0, _)]) d_M_init_161 rfl (by decide) rfl ?_
  refine k_M_init2 8 0 _ rfl ((f1 _ (by decide)).trans rfl) ((f1 _ (by decide)).trans rfl) ((f1 _ (by decide)).trans rfl) (fun hB e1 e2 e3 => ⟨rfl, rfl, fun i hi => ?_, fun i hi1 hi2 => ?_⟩)
  · rw [e1 i (by omega) (by omega), f1 i (by omega)]
    repeat rw [kx_set_n (by omega)]
  · obtain ⟨z, rfl⟩ : ∃ z, i = 61 + z := ⟨i - 61, by omega⟩
    have hz : z < 17 := by omega
    clear hi1 hi2
    match z, hz with
    | 0, _ => exact (e1 _ (by decide) (by decide)).trans ((f1 _ (by decide)).trans rfl)
    | 1, _ => exact (e1 _ (by decide) (by decide)).trans ((f1 _ (by decide)).trans rfl)
    | 2, _ => exact (e1 _ (by decide) (by decide)).trans ((f1 _ (by decide)).trans rfl)
    | 3, _ => exact (e1 _ (by decide) (by decide)).trans ((f1 _ (by decide)).trans rfl)
    | 4, _ => exact (e1 _ (by decide) (by decide)).trans ((f1 _ (by decide)).trans rfl)
    | 5, _ => exact (e1 _ (by decide) (by decide)).trans ((f1 _ (by decide)).trans rfl)
    | 6, _ => exact (e1 _ (by decide) (by decide)).trans ((f1 _ (by decide)).trans rfl)
    | 7, _ => exact (e1 _ (by decide) (by decide)).trans ((f1 _ (by decide)).trans rfl)
    | 8, _ => exact (e1 _ (by decide) (by decide)).trans ((f1 _ (by decide)).trans rfl)
    | 9, _ => exact (e1 _ (by decide) (by decide)).trans ((f1 _ (by decide)).trans rfl)
    | 10, _ => exact (e1 _ (by decide) (by decide)).trans ((f1 _ (by decide)).trans rfl)
    | 11, _ => exact (e1 _ (by decide) (by decide)).trans f2
    | 12, _ => exact (e1 _ (by decide) (by decide)).trans ((f1 _ (by decide)).trans rfl)
    | 13, _ => exact e2
    | 14, _ => exact e3
    | 15, _ => exact (e1 _ (by decide) (by decide)).trans ((f1 _ (by decide)).trans rfl)
    | 16, _ => exact (e1 _ (by decide) (by decide)).trans ((f1 _ (by decide)).trans rfl)
    | z + 17, hz => exact absurd hz (by omega)
theorem a0_p {p : Nat} (hp : p < 8) (b : kW) : wd (wx a0 b) (12 + 5 * p) = some (kx_co 2 [.int (nI p), .ref (12 + 5 * p + 1), .ref (12 + 5 * p + 2), .ref (12 + 5 * p + 3), .int 0, .ref (12 + 5 * p + 4), .int 0, .int (-1)]) := by
  match p, hp with
  | 0, _ => rfl
  | 1, _ => rfl
  | 2, _ => rfl
  | 3, _ => rfl
  | 4, _ => rfl
  | 5, _ => rfl
  | 6, _ => rfl
  | 7, _ => rfl
theorem a0_s {u : Nat} (hu : u < 8) (b : kW) : wd (wx a0 b) (53 + u) = some (kx_co 3 [.int (-1), .int 255, .int 0, .int 0]) := by
  match u, hu with
  | 0, _ => rfl
  | 1, _ => rfl
  | 2, _ => rfl
  | 3, _ => rfl
  | 4, _ => rfl
  | 5, _ => rfl
  | 6, _ => rfl
  | 7, _ => rfl
theorem a0_q {p i : Nat} (hp : p < 8) (hi : i < 4) (b : kW) : wd (wx a0 b) (12 + 5 * p + (i + 1)) = if i < 2 then some (kx_ci 8 (fun _ => 0)) else some (kx_cl 16 (fun _ => 0)) := by
  match i, hi with
  | 0, _ => rw [wd_i (wk_p1 hp), wx_ai (by omega)]; rfl
  | 1, _ => rw [wd_i (wk_p2 hp), wx_ai (by omega)]; rfl
  | 2, _ => rw [wd_l (wk_p3 hp), wx_al (by omega)]; rfl
  | 3, _ => rw [wd_l (wk_p4 hp), wx_al (by omega)]; rfl
set_option maxHeartbeats 4000000 in
set_option maxRecDepth 100000 in
theorem k_EK_initS {E : kx_E} {Q : kx_Q} {mc ms : Nat} (m : Nat) : ∀ (u : Nat) (h : kx_H), u + m = 8 → h 0 = some (kx_co 0 [.ref 1, .ref 11, .ref 52]) → h 52 = some (kx_cq 1 8 (r8 (fun z => 53 + z) u)) → (∀ i, i < 53 + u → i ≠ 52 → h i = wd (wx a0 b0) i) → (∀ h', (∀ i, i < 61 → h' i = wd (wx a0 b0) i) → Q (Sum.inl none) 61 h') → kx_V E i_EK_init 2 mc ms Q m (4 * m) 63 [(1, .int (nI u)), (0, .ref 0)] [] (53 + u) h := by
  induction m with
  | zero =>
    intro u h hm ho hv hw kk
    have h8 : u = 8 := by omega
    subst h8
    have hf : ∀ i, i < 61 → h i = wd (wx a0 b0) i := by
      intro i hi
      by_cases e : i = 52
      · subst e
        rw [hv]
        show _ = some (kx_cq 1 8 (wq 52))
        rfl
      · exact hw i hi e
    refine kx_iload_n (pc := 63) d_EK_init_63 rfl ?_
    refine kx_bipush (pc := 64) (x := 8) d_EK_init_64 (by decide) ?_
    refine kx_eqi (show (8 : Int32) = nI 8 from rfl) ?_
    refine kx_icmp_ge (pc := 66) (tgt := 88) d_EK_init_66 (by decide) (fun _ => ?_) (fun hz => absurd (nI_le (Nat.le_refl 8) (by omega)) hz)
    exact kx_vret rfl d_EK_init_88 (kk h hf)
  | succ m ih =>
    intro u h hm ho hv hw kk
    have hlt : u < 8 := by omega
    refine kx_iload_n (pc := 63) d_EK_init_63 rfl ?_
    refine kx_bipush (pc := 64) (x := 8) d_EK_init_64 (by decide) ?_
    refine kx_eqi (show (8 : Int32) = nI 8 from rfl) ?_
    refine kx_icmp_ge (pc := 66) (tgt := 88) d_EK_init_66 (by decide) (fun hz => absurd hz (nI_ge hlt (by omega))) (fun _ => ?_)
    refine kx_aload_n (pc := 69) d_EK_init_69 rfl ?_
    refine kx_get (pc := 70) d_EK_init_70 fl_EK_27 ho rfl ?_
    refine kx_iload_n (pc := 73) d_EK_init_73 rfl ?_
    refine kx_new (pc := 74) (k := m) (j := 4 * m) d_EK_init_74 nw_EK_25 ?_
    refine kx_dup (pc := 77) d_EK_init_77 rfl ?_
    refine kx_invI (pc := 78) (as := []) (st := _) (k := m) (j := 4 * m) d_EK_init_78 wi_EK_31 (k_S_init (m := 53 + u) kx_set_s) rfl rfl (Nat.le_of_ble_eq_true rfl) (by decide) (Nat.le_of_ble_eq_true rfl) (fun rv n' h' hq => ?_) (fun X n' h' hq => nomatch hq.1)
    obtain ⟨hr, rfl, g1, g2⟩ := hq
    cases hr
    have ho2 : h' 0 = some (kx_co 0 [.ref 1, .ref 11, .ref 52]) := (g2 0 (by omega)).trans ((kx_set_n (by omega)).trans ho)
    have hv2 : h' 52 = some (kx_cq 1 8 (r8 (fun z => 53 + z) u)) := (g2 52 (by omega)).trans ((kx_set_n (by omega)).trans hv)
    refine kx_aast (pc := 81) d_EK_init_81 ⟨_, rfl, fun _ => rfl⟩ hv2 g1 ⟨rfl, hlt, by decide⟩ ?_
    refine kx_iinc (pc := 82) (y := nI (u + 1)) (lv' := [(1, _), (0, _)]) d_EK_init_82 rfl (nI_1 u) (by decide) rfl ?_
    refine kx_goto (pc := 85) (tgt := 63) d_EK_init_85 (by decide) ?_
    refine ih (u + 1) _ (by omega) ((kx_set_n (by decide)).trans ho2) (kx_set_s.trans (by rw [← r8_up])) (fun i hi hn => ?_) kk
    rw [kx_set_n hn]
    by_cases e : i = 53 + u
    · subst e
      rw [g1, a0_s hlt]
    · rw [g2 i (by omega), kx_set_n e]
      exact hw i (by omega) hn
set_option maxHeartbeats 4000000 in
set_option maxRecDepth 100000 in
theorem k_EK_initP {E : kx_E} {Q : kx_Q} {mc ms : Nat} (m : Nat) : ∀ (p : Nat) (h : kx_H), p + m = 8 → h 0 = some (kx_co 0 [.ref 1, .ref 11, .null]) → h 11 = some (kx_cq 0 8 (r8 (fun z => 12 + 5 * z) p)) → (∀ i, i < 12 + 5 * p → i ≠ 0 → i ≠ 11 → h i = wd (wx a0 b0) i) → (∀ h', (∀ i, i < 61 → h' i = wd (wx a0 b0) i) → Q (Sum.inl none) 61 h') → kx_V E i_EK_init 2 mc ms Q (5 * m + 9) (56 * m + 40) 26 [(1, .int (nI p)), (0, .ref 0)] [] (12 + 5 * p) h := by
  induction m with
  | zero =>
    intro p h hm ho hv hw kk
    have h8 : p = 8 := by omega
    subst h8
    refine kx_iload_n (pc := 26) d_EK_init_26 rfl ?_
    refine kx_bipush (pc := 27) (x := 8) d_EK_init_27 (by decide) ?_
    refine kx_eqi (show (8 : Int32) = nI 8 from rfl) ?_
    refine kx_icmp_ge (pc := 29) (tgt := 52) d_EK_init_29 (by decide) (fun _ => ?_) (fun hz => absurd (nI_le (Nat.le_refl 8) (by omega)) hz)
    refine kx_aload_n (pc := 52) d_EK_init_52 rfl ?_
    refine kx_bipush (pc := 53) (x := 8) d_EK_init_53 (by decide) ?_
    refine kx_newq2 (pc := 55) (N := 8) (t := 1) (k := 8) (j := 32) d_EK_init_55 (Cn := "EventKeeper$Subscription") (kx_t 115 (by decide +kernel) rfl) (List.mem_append_right _ (List.mem_of_getElem? (i := 116) (by decide +kernel))) (fun _ => rfl) rfl (by decide) ?_
    refine kx_put (pc := 58) d_EK_init_58 fl_EK_27 fw_EK_2 ((kx_set_n (by decide)).trans ho) (fun _ => rfl) (fun _ => rfl) (by decide) ?_
    refine kx_iconst (pc := 61) (x := 0) d_EK_init_61 (by decide) ?_
    refine kx_eqi (show (0 : Int32) = nI 0 from rfl) ?_
    refine kx_istore_n (pc := 62) (lv' := [(1, _), (0, _)]) d_EK_init_62 rfl (by decide) rfl ?_
    refine k_EK_initS 8 0 _ rfl kx_set_s ((kx_set_n (by decide)).trans (kx_set_s.trans rfl)) (fun i hi hn => ?_) kk
    by_cases e0 : i = 0
    · subst e0
      rfl
    rw [kx_set_n e0, kx_set_n hn]
    by_cases e1 : i = 11
    · subst e1
      rw [hv]
      rfl
    · exact hw i (by omega) e0 e1
  | succ m ih =>
    intro p h hm ho hv hw kk
    have hlt : p < 8 := by omega
    refine kx_iload_n (pc := 26) d_EK_init_26 rfl ?_
    refine kx_bipush (pc := 27) (x := 8) d_EK_init_27 (by decide) ?_
    refine kx_eqi (show (8 : Int32) = nI 8 from rfl) ?_
    refine kx_icmp_ge (pc := 29) (tgt := 52) d_EK_init_29 (by decide) (fun hz => absurd hz (nI_ge hlt (by omega))) (fun _ => ?_)
    refine kx_aload_n (pc := 32) d_EK_init_32 rfl ?_
    refine kx_get (pc := 33) d_EK_init_33 fl_EK_18 ho rfl ?_
    refine kx_iload_n (pc := 36) d_EK_init_36 rfl ?_
    refine kx_wid (k' := 5 * m + 9 + 4 + 1) (j' := 56 * m + 40 + 48 + 8) (by omega) (by omega) ?_
    refine kx_new (pc := 37) (k := 5 * m + 9 + 4) (j := 56 * m + 40 + 48) d_EK_init_37 nw_EK_16 ?_
    refine kx_dup (pc := 40) d_EK_init_40 rfl ?_
    refine kx_iload_n (pc := 41) d_EK_init_41 rfl ?_
    refine kx_invI (pc := 42) (as := [.int _]) (st := _) (k := 5 * m + 9) (j := 56 * m + 40) d_EK_init_42 wi_EK_22 (k_P_init (m := 12 + 5 * p) kx_set_s) rfl rfl (Nat.le_of_ble_eq_true rfl) (by decide) (Nat.le_of_ble_eq_true rfl) (fun rv n' h' hq => ?_) (fun X n' h' hq => nomatch hq.1)
    obtain ⟨hr, rfl, g0, g1, g2, g3, g4, g5⟩ := hq
    cases hr
    have ho2 : h' 0 = some (kx_co 0 [.ref 1, .ref 11, .null]) := (g5 0 (by omega)).trans ((kx_set_n (by omega)).trans ho)
    have hv2 : h' 11 = some (kx_cq 0 8 (r8 (fun z => 12 + 5 * z) p)) := (g5 11 (by omega)).trans ((kx_set_n (by omega)).trans hv)
    refine kx_aast (pc := 45) d_EK_init_45 ⟨_, rfl, fun _ => rfl⟩ hv2 g0 ⟨rfl, hlt, by decide⟩ ?_
    refine kx_iinc (pc := 46) (y := nI (p + 1)) (lv' := [(1, _), (0, _)]) d_EK_init_46 rfl (nI_1 p) (by decide) rfl ?_
    refine kx_goto (pc := 49) (tgt := 26) d_EK_init_49 (by decide) ?_
    refine ih (p + 1) _ (by omega) ((kx_set_n (by decide)).trans ho2) (kx_set_s.trans (by rw [← r8_up])) (fun i hi hn0 hn => ?_) kk
    rw [kx_set_n hn]
    by_cases e : i < 12 + 5 * p
    · rw [g5 i e, kx_set_n (by omega)]
      exact hw i e hn0 hn
    obtain ⟨z, rfl⟩ : ∃ z, i = 12 + 5 * p + z := ⟨i - (12 + 5 * p), by omega⟩
    have hz : z < 5 := by omega
    match z, hz with
    | 0, _ => exact g0.trans (a0_p hlt _).symm
    | 1, _ => exact g1.trans (a0_q (i := 0) hlt (by decide) _).symm
    | 2, _ => exact g2.trans (a0_q (i := 1) hlt (by decide) _).symm
    | 3, _ => exact g3.trans (a0_q (i := 2) hlt (by decide) _).symm
    | 4, _ => exact g4.trans (a0_q (i := 3) hlt (by decide) _).symm
set_option maxHeartbeats 4000000 in
set_option maxRecDepth 100000 in
theorem k_EK_init {E : kx_E} {h : kx_H} (hs : h 0 = some (kx_co 0 [.null, .null, .null])) : kx_V E i_EK_init 2 60 4031 (fun r n' h' => r = Sum.inl none ∧ n' = 61 ∧ ∀ i, i < 61 → h' i = wd (wx a0 b0) i) 60 4031 0 (lv_args 0 [.ref 0]) [] 1 h := by
  refine kx_aload_n (pc := 0) d_EK_init_0 rfl ?_
  refine kx_obj (pc := 1) d_EK_init_1 (kx_t 19 (by decide +kernel) rfl) (kx_t 20 (by decide +kernel) rfl) (kx_t 21 (by decide +kernel) rfl) (by decide) (Nat.le_of_ble_eq_true rfl) ?_
  refine kx_aload_n (pc := 4) d_EK_init_4 rfl ?_
  refine kx_new (pc := 5) (N := 11) (k := 59) (j := 4020) d_EK_init_5 nw_EK_7 ?_
  refine kx_dup (pc := 8) d_EK_init_8 rfl ?_
  refine kx_invI (pc := 9) (as := []) (st := _) (k := 50) (j := 496) d_EK_init_9 wi_EK_9 (k_L_init kx_set_s) rfl rfl (Nat.le_of_ble_eq_true rfl) (by decide) (Nat.le_of_ble_eq_true rfl) (fun rv n' h' hq => ?_) (fun X n' h' hq => nomatch hq.1)
  obtain ⟨hr, rfl, l1, l2, l3, l4, l5, l6, l7, l8, l9, l10, l0⟩ := hq
  cases hr
  refine kx_put (pc := 12) d_EK_init_12 fl_EK_10 fw_EK_0 (l0.trans ((kx_set_n (by decide)).trans hs)) (fun _ => rfl) (fun _ => rfl) (by decide) ?_
  refine kx_aload_n (pc := 15) d_EK_init_15 rfl ?_
  refine kx_bipush (pc := 16) (x := 8) d_EK_init_16 (by decide) ?_
  refine kx_newq2 (pc := 18) (N := 8) (t := 0) (k := 49) (j := 488) d_EK_init_18 (Cn := "EventKeeper$Projection") (kx_t 81 (by decide +kernel) rfl) (List.mem_append_right _ (List.mem_of_getElem? (i := 82) (by decide +kernel))) (fun _ => rfl) rfl (by decide) ?_
  refine kx_put (pc := 21) d_EK_init_21 fl_EK_18 fw_EK_1 ((kx_set_n (by decide)).trans kx_set_s) (fun _ => rfl) (fun _ => rfl) (by decide) ?_
  refine kx_iconst (pc := 24) (x := 0) d_EK_init_24 (by decide) ?_
  refine kx_eqi (show (0 : Int32) = nI 0 from rfl) ?_
  refine kx_istore_n (pc := 25) (lv' := [(1, _), (0, _)]) d_EK_init_25 rfl (by decide) rfl ?_
  refine k_EK_initP 8 0 _ rfl kx_set_s ((kx_set_n (by decide)).trans (kx_set_s.trans rfl)) (fun i hi h0 h11 => ?_) (fun h' hf => ⟨rfl, rfl, hf⟩)
  rw [kx_set_n h0, kx_set_n h11, kx_set_n h0]
  have hz : i < 11 := by omega
  match i, hz with
  | 0, _ => exact absurd rfl h0
  | 1, _ => exact l1.trans rfl
  | 2, _ => exact l2.trans rfl
  | 3, _ => exact l3.trans rfl
  | 4, _ => exact l4.trans rfl
  | 5, _ => exact l5.trans rfl
  | 6, _ => exact l6.trans rfl
  | 7, _ => exact l7.trans rfl
  | 8, _ => exact l8.trans rfl
  | 9, _ => exact l9.trans rfl
  | 10, _ => exact l10.trans rfl
