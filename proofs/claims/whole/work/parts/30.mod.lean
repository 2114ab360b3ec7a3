theorem oz {c : Prop} [Decidable c] : (if c then (1 : Int32) else 0) = 0 ↔ ¬ c := by by_cases h : c <;> simp [h]
theorem oy {c : Prop} [Decidable c] (w : ¬ ((if c then (1 : Int32) else 0) = 0)) : c := Classical.byContradiction (fun h => w (oz.mpr h))
set_option maxHeartbeats 4000000 in
set_option maxRecDepth 100000 in
theorem k_in {E : kx_E} {n : Nat} {hh : kx_H} {v x y : Int32} : kx_V E i_M_in 1 0 0 (fun r _ h' => h' = hh ∧ r = Sum.inl (some (.int (if x ≤ v ∧ v ≤ y then 1 else 0)))) 0 0 0 (lv_args 0 [.int v, .int x, .int y]) [] n hh := by
  refine kx_iload_n (pc := 0) d_M_in_0 rfl ?_
  refine kx_iload_n (pc := 1) d_M_in_1 rfl ?_
  refine kx_icmp_lt (pc := 2) (tgt := 14) d_M_in_2 (by decide) (fun y1 => ?_) (fun y1 => ?_)
  · refine kx_iconst (pc := 14) (x := 0) d_M_in_14 (by decide) ?_
    exact kx_zret rfl rfl d_M_in_15 ⟨rfl, by rw [if_neg (fun w => Int32.not_lt.mpr w.1 y1)]⟩
  · refine kx_iload_n (pc := 5) d_M_in_5 rfl ?_
    refine kx_iload_n (pc := 6) d_M_in_6 rfl ?_
    refine kx_icmp_gt (pc := 7) (tgt := 14) d_M_in_7 (by decide) (fun y2 => ?_) (fun y2 => ?_)
    · refine kx_iconst (pc := 14) (x := 0) d_M_in_14 (by decide) ?_
      exact kx_zret rfl rfl d_M_in_15 ⟨rfl, by rw [if_neg (fun w => Int32.not_lt.mpr w.2 y2)]⟩
    · refine kx_iconst (pc := 10) (x := 1) d_M_in_10 (by decide) ?_
      refine kx_goto (pc := 11) (tgt := 15) d_M_in_11 (by decide) ?_
      exact kx_zret rfl rfl d_M_in_15 ⟨rfl, by rw [if_pos (And.intro (Int32.not_lt.mp y1) (Int32.not_lt.mp y2))]⟩
set_option maxHeartbeats 4000000 in
set_option maxRecDepth 100000 in
theorem k_thrown {E : kx_E} {n : Nat} {a b : kW} : kx_V E i_M_thrown 1 0 0 (fun r _ h' => h' = wd (wx a b) ∧ r = Sum.inl (some (.int (b.2.2 61 0)))) 0 0 0 (lv_args 0 [.ref 61]) [] n (wd (wx a b)) := by
  refine kx_aload_n (pc := 0) d_M_thrown_0 rfl ?_
  refine km_geti (pc := 1) d_M_thrown_1 fl_M_59 (by decide) rfl (by decide) rfl ?_
  exact kx_iret rfl d_M_thrown_4 ⟨rfl, rfl⟩
set_option maxHeartbeats 4000000 in
set_option maxRecDepth 100000 in
theorem k_fails0 {E : kx_E} {n : Nat} {a b : kW} {c : Int32} (he : b.2.2 61 0 = 0) : kx_V E i_M_fails 1 0 0 (fun r _ h' => h' = wd (wx a b) ∧ r = Sum.inl (some (.int 0))) 0 0 0 (lv_args 0 [.ref 61, .int 0, .int c]) [] n (wd (wx a b)) := by
  refine kx_iload_n (pc := 0) d_M_fails_0 rfl ?_
  refine kx_if_eq (pc := 1) (tgt := 16) d_M_fails_1 (by decide) (fun _ => ?_) (fun hz => absurd rfl hz)
  refine kx_aload_n (pc := 16) d_M_fails_16 rfl ?_
  refine km_geti (pc := 17) d_M_fails_17 fl_M_59 (by decide) rfl (by decide) rfl ?_
  refine kx_if_eq (pc := 20) (tgt := 27) d_M_fails_20 (by decide) (fun _ => ?_) (fun hz => absurd he hz)
  refine kx_iconst (pc := 27) (x := 0) d_M_fails_27 (by decide) ?_
  exact kx_zret rfl rfl d_M_fails_28 ⟨rfl, rfl⟩
set_option maxHeartbeats 4000000 in
set_option maxRecDepth 100000 in
theorem k_fails1 {E : kx_E} {n : Nat} {a b : kW} {c : Int32} (he : b.2.2 61 0 = 0) (hc : ¬ c = 0) : kx_V E i_M_fails 1 0 0 (fun r _ h' => h' = wd (wx a (uo b 61 0 c)) ∧ r = Sum.inl (some (.int 1))) 0 0 0 (lv_args 0 [.ref 61, .int 1, .int c]) [] n (wd (wx a b)) := by
  refine kx_iload_n (pc := 0) d_M_fails_0 rfl ?_
  refine kx_if_eq (pc := 1) (tgt := 16) d_M_fails_1 (by decide) (fun hz => absurd hz (by decide)) (fun _ => ?_)
  refine kx_aload_n (pc := 4) d_M_fails_4 rfl ?_
  refine km_geti (pc := 5) d_M_fails_5 fl_M_59 (by decide) rfl (by decide) rfl ?_
  refine kx_if_ne (pc := 8) (tgt := 16) d_M_fails_8 (by decide) (fun hz => absurd hz (fun w => w he)) (fun _ => ?_)
  refine kx_aload_n (pc := 11) d_M_fails_11 rfl ?_
  refine kx_iload_n (pc := 12) d_M_fails_12 rfl ?_
  refine km_puti (pc := 13) d_M_fails_13 fl_M_59 fw_M_0 (by decide) rfl (by decide) rfl ?_
  refine kx_aload_n (pc := 16) d_M_fails_16 rfl ?_
  refine km_geti (pc := 17) d_M_fails_17 fl_M_59 (by decide) rfl (by decide) rfl ?_
  refine kx_if_eq (pc := 20) (tgt := 27) d_M_fails_20 (by decide) (fun hz => absurd hz (by rw [uo_s]; exact hc)) (fun _ => ?_)
  refine kx_iconst (pc := 23) (x := 1) d_M_fails_23 (by decide) ?_
  refine kx_goto (pc := 24) (tgt := 28) d_M_fails_24 (by decide) ?_
  exact kx_zret rfl rfl d_M_fails_28 ⟨rfl, rfl⟩
set_option maxHeartbeats 4000000 in
set_option maxRecDepth 100000 in
theorem k_isProjection {E : kx_E} {n : Nat} {hh : kx_H} {x : Int32} : kx_V E i_M_isProjection 2 0 0 (fun r _ h' => h' = hh ∧ r = Sum.inl (some (.int (if 0 ≤ x ∧ x ≤ 7 then 1 else 0)))) 0 0 0 (lv_args 0 [.int x]) [] n hh := by
  refine kx_iload_n (pc := 0) d_M_isProjection_0 rfl ?_
  refine kx_iconst (pc := 1) (x := 0) d_M_isProjection_1 (by decide) ?_
  refine kx_bipush (pc := 2) (x := 7) d_M_isProjection_2 (by decide) ?_
  refine kx_invS (pc := 4) (as := [.int _, .int _, .int _]) (st := []) (k := 0) (j := 0) d_M_isProjection_4 ws_M_66 k_in rfl rfl (Nat.le_of_ble_eq_true rfl) (by decide) (Nat.le_of_ble_eq_true rfl) (fun rv n' h' hq => ?_) (fun X n' h' hq => nomatch hq.2)
  obtain ⟨rfl, hq⟩ := hq
  cases hq
  exact kx_zret rfl (by by_cases w : 0 ≤ x ∧ x ≤ 7 <;> simp [w, narrow]) d_M_isProjection_7 ⟨rfl, rfl⟩
set_option maxHeartbeats 4000000 in
set_option maxRecDepth 100000 in
theorem k_isSubscription {E : kx_E} {n : Nat} {hh : kx_H} {x : Int32} : kx_V E i_M_isSubscription 2 0 0 (fun r _ h' => h' = hh ∧ r = Sum.inl (some (.int (if 0 ≤ x ∧ x ≤ 7 then 1 else 0)))) 0 0 0 (lv_args 0 [.int x]) [] n hh := by
  refine kx_iload_n (pc := 0) d_M_isSubscription_0 rfl ?_
  refine kx_iconst (pc := 1) (x := 0) d_M_isSubscription_1 (by decide) ?_
  refine kx_bipush (pc := 2) (x := 7) d_M_isSubscription_2 (by decide) ?_
  refine kx_invS (pc := 4) (as := [.int _, .int _, .int _]) (st := []) (k := 0) (j := 0) d_M_isSubscription_4 ws_M_66 k_in rfl rfl (Nat.le_of_ble_eq_true rfl) (by decide) (Nat.le_of_ble_eq_true rfl) (fun rv n' h' hq => ?_) (fun X n' h' hq => nomatch hq.2)
  obtain ⟨rfl, hq⟩ := hq
  cases hq
  exact kx_zret rfl (by by_cases w : 0 ≤ x ∧ x ≤ 7 <;> simp [w, narrow]) d_M_isSubscription_7 ⟨rfl, rfl⟩
set_option maxHeartbeats 4000000 in
set_option maxRecDepth 100000 in
theorem k_inS_loop {E : kx_E} {n : Nat} {a b : kW} {x : Int32} {N : Nat} (hN : N ≤ 500) (m : Nat) : ∀ (i : Nat), i + m = N → ∀ {Q : kx_Q}, Q (Sum.inl (some (.int (nI (cn (b.1 62) x N))))) n (wd (wx a b)) → kx_V E i_M_inStream 1 0 0 Q 0 0 5 [(4, .int (nI i)), (3, .int (nI (cn (b.1 62) x i))), (0, .ref 61), (1, .int x), (2, .int (nI N))] [] n (wd (wx a b)) := by
  induction m with
  | zero =>
    intro i hm Q hQ
    have hi : i = N := by omega
    subst hi
    refine kx_iload (pc := 5) d_M_inStream_5 rfl ?_
    refine kx_iload_n (pc := 7) d_M_inStream_7 rfl ?_
    refine kx_icmp_ge (pc := 8) (tgt := 31) d_M_inStream_8 (by decide) (fun _ => ?_) (fun hz => absurd (nI_le (Nat.le_refl i) (by omega)) hz)
    refine kx_iload_n (pc := 31) d_M_inStream_31 rfl ?_
    exact kx_iret rfl d_M_inStream_32 hQ
  | succ m ih =>
    intro i hm Q hQ
    have hlt : i < N := by omega
    have i5 : i < 500 := by omega
    refine kx_iload (pc := 5) d_M_inStream_5 rfl ?_
    refine kx_iload_n (pc := 7) d_M_inStream_7 rfl ?_
    refine kx_icmp_ge (pc := 8) (tgt := 31) d_M_inStream_8 (by decide) (fun hz => absurd hz (nI_ge hlt (by omega))) (fun _ => ?_)
    refine kx_aload_n (pc := 11) d_M_inStream_11 rfl ?_
    refine kw_getr (pc := 12) (r := 62) d_M_inStream_12 fl_M_9 rfl (by decide) rfl ?_
    refine kx_iload (pc := 15) d_M_inStream_15 rfl ?_
    refine km_iald (pc := 17) d_M_inStream_17 (by decide) rfl ⟨rfl, i5, by decide⟩ ?_
    refine kx_iload_n (pc := 18) d_M_inStream_18 rfl ?_
    refine kx_icmp_ne (pc := 19) (tgt := 25) d_M_inStream_19 (by decide) (fun hz => ?_) (fun hz => ?_)
    · have ec : cn (b.1 62) x (i + 1) = cn (b.1 62) x i := by show cn (b.1 62) x i + (if b.1 62 i = x then 1 else 0) = _; rw [if_neg hz]; rfl
      refine kx_iinc (pc := 25) (y := nI (i + 1)) (lv' := [(4, _), (3, _), (0, _), (1, _), (2, _)]) d_M_inStream_25 rfl (nI_1 i) (by decide) rfl ?_
      refine kx_goto (pc := 28) (tgt := 5) d_M_inStream_28 (by decide) ?_
      refine kx_sub [0, 1, 2, 3, 4] rfl ?_
      rw [← ec]
      exact ih (i + 1) (by omega) hQ
    · have ec : cn (b.1 62) x (i + 1) = cn (b.1 62) x i + 1 := by show cn (b.1 62) x i + (if b.1 62 i = x then 1 else 0) = _; rw [if_pos hz]
      refine kx_iinc (pc := 22) (y := nI (cn (b.1 62) x i + 1)) (lv' := [(3, _), (4, _), (0, _), (1, _), (2, _)]) d_M_inStream_22 rfl (nI_1 _) (by decide) rfl ?_
      refine kx_iinc (pc := 25) (y := nI (i + 1)) (lv' := [(4, _), (3, _), (0, _), (1, _), (2, _)]) d_M_inStream_25 rfl (nI_1 i) (by decide) rfl ?_
      refine kx_goto (pc := 28) (tgt := 5) d_M_inStream_28 (by decide) ?_
      refine kx_sub [0, 1, 2, 3, 4] rfl ?_
      rw [← ec]
      exact ih (i + 1) (by omega) hQ
set_option maxHeartbeats 4000000 in
set_option maxRecDepth 100000 in
theorem k_inStream {E : kx_E} {n : Nat} {a b : kW} {x : Int32} {N : Nat} (hN : N ≤ 500) : kx_V E i_M_inStream 1 0 0 (fun r _ h' => h' = wd (wx a b) ∧ r = Sum.inl (some (.int (nI (cn (b.1 62) x N))))) 0 0 0 (lv_args 0 [.ref 61, .int x, .int (nI N)]) [] n (wd (wx a b)) := by
  refine kx_iconst (pc := 0) (x := 0) d_M_inStream_0 (by decide) ?_
  refine kx_eqi (show (0 : Int32) = nI (cn (b.1 62) x 0) from rfl) ?_
  refine kx_istore_n (pc := 1) (lv' := [(3, _), (0, _), (1, _), (2, _)]) d_M_inStream_1 rfl (by decide) rfl ?_
  refine kx_iconst (pc := 2) (x := 0) d_M_inStream_2 (by decide) ?_
  refine kx_eqi (show (0 : Int32) = nI 0 from rfl) ?_
  refine kx_istore (pc := 3) (lv' := [(4, _), (3, _), (0, _), (1, _), (2, _)]) d_M_inStream_3 (by decide) rfl ?_
  exact k_inS_loop hN N 0 (by omega) ⟨rfl, rfl⟩
def g_put (b : kW) (ev : Nat) (x k : Int32) (v : Int64) (y z : Int32) : kW := uo (ui (ui (ul (ui (ui b 62 ev x) 63 ev k) 66 ev v) 64 ev y) 65 ev z) 61 1 (nI (ev + 1))
set_option maxHeartbeats 4000000 in
set_option maxRecDepth 100000 in
theorem k_mput {E : kx_E} {n : Nat} {a b : kW} {ev : Nat} {x k y z : Int32} {v : Int64} (h1 : b.2.2 61 1 = nI ev) (h2 : ev < 500) : kx_V E i_M_put 1 0 0 (fun r _ h' => h' = wd (wx a (g_put b ev x k v y z)) ∧ r = Sum.inl (some (.int (nI ev)))) 0 0 0 (lv_args 0 [.ref 61, .int x, .int k, .long v, .int y, .int z]) [] n (wd (wx a b)) := by
  refine kx_aload_n (pc := 0) d_M_put_0 rfl ?_
  refine kw_getr (pc := 1) (r := 62) d_M_put_1 fl_M_9 rfl (by decide) rfl ?_
  refine kx_aload_n (pc := 4) d_M_put_4 rfl ?_
  refine km_geti (pc := 5) d_M_put_5 fl_M_63 (by decide) rfl (by decide) rfl ?_
  refine kx_iload_n (pc := 8) d_M_put_8 rfl ?_
  refine km_iast (pc := 9) d_M_put_9 (by decide) rfl ⟨h1, h2, by decide⟩ ?_
  refine kx_aload_n (pc := 10) d_M_put_10 rfl ?_
  refine kw_getr (pc := 11) (r := 63) d_M_put_11 fl_M_13 rfl (by decide) rfl ?_
  refine kx_aload_n (pc := 14) d_M_put_14 rfl ?_
  refine km_geti (pc := 15) d_M_put_15 fl_M_63 (by decide) rfl (by decide) rfl ?_
  refine kx_iload_n (pc := 18) d_M_put_18 rfl ?_
  refine km_iast (pc := 19) d_M_put_19 (by decide) rfl ⟨h1, h2, by decide⟩ ?_
  refine kx_aload_n (pc := 20) d_M_put_20 rfl ?_
  refine kw_getr (pc := 21) (r := 66) d_M_put_21 fl_M_22 rfl (by decide) rfl ?_
  refine kx_aload_n (pc := 24) d_M_put_24 rfl ?_
  refine km_geti (pc := 25) d_M_put_25 fl_M_63 (by decide) rfl (by decide) rfl ?_
  refine kx_lload_n (pc := 28) d_M_put_28 rfl ?_
  refine km_last (pc := 29) d_M_put_29 (by decide) rfl ⟨h1, h2, by decide⟩ ?_
  refine kx_aload_n (pc := 30) d_M_put_30 rfl ?_
  refine kw_getr (pc := 31) (r := 64) d_M_put_31 fl_M_16 rfl (by decide) rfl ?_
  refine kx_aload_n (pc := 34) d_M_put_34 rfl ?_
  refine km_geti (pc := 35) d_M_put_35 fl_M_63 (by decide) rfl (by decide) rfl ?_
  refine kx_iload (pc := 38) d_M_put_38 rfl ?_
  refine km_iast (pc := 40) d_M_put_40 (by decide) rfl ⟨h1, h2, by decide⟩ ?_
  refine kx_aload_n (pc := 41) d_M_put_41 rfl ?_
  refine kw_getr (pc := 42) (r := 65) d_M_put_42 fl_M_19 rfl (by decide) rfl ?_
  refine kx_aload_n (pc := 45) d_M_put_45 rfl ?_
  refine km_geti (pc := 46) d_M_put_46 fl_M_63 (by decide) rfl (by decide) rfl ?_
  refine kx_iload (pc := 49) d_M_put_49 rfl ?_
  refine km_iast (pc := 51) d_M_put_51 (by decide) rfl ⟨h1, h2, by decide⟩ ?_
  refine kx_aload_n (pc := 52) d_M_put_52 rfl ?_
  refine kx_dup (pc := 53) d_M_put_53 rfl ?_
  refine km_geti (pc := 54) d_M_put_54 fl_M_63 (by decide) rfl (by decide) rfl ?_
  refine kx_eqi (show _ = nI ev from h1) ?_
  refine kx_dup_x1 (pc := 57) d_M_put_57 rfl rfl ?_
  refine kx_iconst (pc := 58) (x := 1) d_M_put_58 (by decide) ?_
  refine kx_iadd (pc := 59) d_M_put_59 ?_
  refine kx_eqi (nI_1 ev) ?_
  refine km_puti (pc := 60) d_M_put_60 fl_M_63 fw_M_1 (by decide) rfl (by decide) rfl ?_
  exact kx_iret rfl d_M_put_63 ⟨rfl, rfl⟩
