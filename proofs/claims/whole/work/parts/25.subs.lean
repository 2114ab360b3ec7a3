set_option maxHeartbeats 4000000 in
set_option maxRecDepth 100000 in
theorem k_setFilter {E : kx_E} {n : Nat} {a b : kW} {u : Nat} {x y : Int32} (hu : u < 8) : kx_V E i_S_setFilter 1 0 0 (fun r _ h' => h' = wd (wx (f_filter a u x y) b) ∧ r = Sum.inl none) 0 0 0 (lv_args 0 [.ref (53 + u), .int x, .int y]) [] n (wd (wx a b)) := by
  refine kx_aload_n (pc := 0) d_S_setFilter_0 rfl ?_
  refine kx_iload_n (pc := 1) d_S_setFilter_1 rfl ?_
  refine ka_puti (pc := 2) d_S_setFilter_2 fl_S_9 fw_S_0 (by omega) (wk_s hu) (by decide) (wf_s hu (by decide)) ?_
  refine kx_aload_n (pc := 5) d_S_setFilter_5 rfl ?_
  refine kx_iload_n (pc := 6) d_S_setFilter_6 rfl ?_
  refine ka_puti (pc := 7) d_S_setFilter_7 fl_S_15 fw_S_1 (by omega) (wk_s hu) (by decide) (wf_s hu (by decide)) ?_
  refine kx_aload_n (pc := 10) d_S_setFilter_10 rfl ?_
  refine kx_iconst (pc := 11) (x := 0) d_S_setFilter_11 (by decide) ?_
  refine ka_puti (pc := 12) d_S_setFilter_12 fl_S_18 fw_S_2 (by omega) (wk_s hu) (by decide) (wf_s hu (by decide)) ?_
  refine kx_aload_n (pc := 15) d_S_setFilter_15 rfl ?_
  refine kx_iconst (pc := 16) (x := 0) d_S_setFilter_16 (by decide) ?_
  refine ka_puti (pc := 17) d_S_setFilter_17 fl_S_21 fw_S_3 (by omega) (wk_s hu) (by decide) (wf_s hu (by decide)) ?_
  exact kx_vret rfl d_S_setFilter_20 ⟨rfl, rfl⟩
set_option maxHeartbeats 4000000 in
set_option maxRecDepth 100000 in
theorem k_passBehind {E : kx_E} {n : Nat} {a b : kW} {u : Nat} {x : Int32} (hu : u < 8) : kx_V E i_S_passBehind 1 0 0 (fun r _ h' => h' = wd (wx (f_pass a u x) b) ∧ r = Sum.inl (some (.int (if a.2.2 (53 + u) 2 < x + 1 then x + 1 else a.2.2 (53 + u) 2)))) 0 0 0 (lv_args 0 [.ref (53 + u), .int x]) [] n (wd (wx a b)) := by
  refine kx_aload_n (pc := 0) d_S_passBehind_0 rfl ?_
  refine kx_aload_n (pc := 1) d_S_passBehind_1 rfl ?_
  refine ka_geti (pc := 2) d_S_passBehind_2 fl_S_18 (by omega) (wk_s hu) (by decide) (wf_s hu (by decide)) ?_
  refine kx_iload_n (pc := 5) d_S_passBehind_5 rfl ?_
  refine kx_iconst (pc := 6) (x := 1) d_S_passBehind_6 (by decide) ?_
  refine kx_iadd (pc := 7) d_S_passBehind_7 ?_
  refine kx_max (pc := 8) d_S_passBehind_8 (kx_t 429 (by decide +kernel) rfl) (kx_t 430 (by decide +kernel) rfl) (kx_t 12 (by decide +kernel) rfl) (kx_t 431 (by decide +kernel) rfl) (by decide) (Nat.le_of_ble_eq_true rfl) ?_
  refine ka_puti (pc := 11) d_S_passBehind_11 fl_S_18 fw_S_2 (by omega) (wk_s hu) (by decide) (wf_s hu (by decide)) ?_
  refine kx_aload_n (pc := 14) d_S_passBehind_14 rfl ?_
  refine ka_geti (pc := 15) d_S_passBehind_15 fl_S_18 (by omega) (wk_s hu) (by decide) (wf_s hu (by decide)) ?_
  refine kx_eqi uo_s ?_
  exact kx_iret rfl d_S_passBehind_18 ⟨rfl, rfl⟩
set_option maxHeartbeats 4000000 in
set_option maxRecDepth 100000 in
theorem k_makeSafe {E : kx_E} {n : Nat} {a b : kW} {u : Nat} (hu : u < 8) : kx_V E i_S_makeSafe 1 0 0 (fun r _ h' => h' = wd (wx (f_safe a u) b) ∧ r = Sum.inl none) 0 0 0 (lv_args 0 [.ref (53 + u)]) [] n (wd (wx a b)) := by
  refine kx_aload_n (pc := 0) d_S_makeSafe_0 rfl ?_
  refine kx_aload_n (pc := 1) d_S_makeSafe_1 rfl ?_
  refine ka_geti (pc := 2) d_S_makeSafe_2 fl_S_18 (by omega) (wk_s hu) (by decide) (wf_s hu (by decide)) ?_
  refine ka_puti (pc := 5) d_S_makeSafe_5 fl_S_21 fw_S_3 (by omega) (wk_s hu) (by decide) (wf_s hu (by decide)) ?_
  exact kx_vret rfl d_S_makeSafe_8 ⟨rfl, rfl⟩
set_option maxHeartbeats 4000000 in
set_option maxRecDepth 100000 in
theorem k_srecover {E : kx_E} {n : Nat} {a b : kW} {u : Nat} {x : Int32} (hu : u < 8) : kx_V E i_S_recover 1 0 0 (fun r _ h' => h' = wd (wx (f_srec a u x) b) ∧ r = Sum.inl none) 0 0 0 (lv_args 0 [.ref (53 + u), .int x]) [] n (wd (wx a b)) := by
  refine kx_aload_n (pc := 0) d_S_recover_0 rfl ?_
  refine kx_aload_n (pc := 1) d_S_recover_1 rfl ?_
  refine ka_geti (pc := 2) d_S_recover_2 fl_S_21 (by omega) (wk_s hu) (by decide) (wf_s hu (by decide)) ?_
  refine kx_iload_n (pc := 5) d_S_recover_5 rfl ?_
  refine kx_min (pc := 6) d_S_recover_6 (kx_t 181 (by decide +kernel) rfl) (kx_t 182 (by decide +kernel) rfl) (kx_t 12 (by decide +kernel) rfl) (kx_t 183 (by decide +kernel) rfl) (by decide) (Nat.le_of_ble_eq_true rfl) ?_
  refine ka_puti (pc := 9) d_S_recover_9 fl_S_18 fw_S_2 (by omega) (wk_s hu) (by decide) (wf_s hu (by decide)) ?_
  exact kx_vret rfl d_S_recover_12 ⟨rfl, rfl⟩
set_option maxHeartbeats 4000000 in
set_option maxRecDepth 100000 in
theorem k_letsThrough {E : kx_E} {n : Nat} {a b : kW} {u : Nat} {x y : Int32} (hu : u < 8) : kx_V E i_S_letsThrough 1 0 0 (fun r _ h' => h' = wd (wx a b) ∧ ∃ z : Int32, r = Sum.inl (some (.int z)) ∧ (z = 1 ∨ z = 0) ∧ (z = 0 ↔ ¬ f_lets a u x y)) 0 0 0 (lv_args 0 [.ref (53 + u), .int x, .int y]) [] n (wd (wx a b)) := by
  have no : ¬ f_lets a u x y → ∀ w : Int32, kx_V E i_S_letsThrough 1 0 0 (fun r _ h' => h' = wd (wx a b) ∧ ∃ z : Int32, r = Sum.inl (some (.int z)) ∧ (z = 1 ∨ z = 0) ∧ (z = 0 ↔ ¬ f_lets a u x y)) 0 0 41 [(3, .int w), (0, .ref (53 + u)), (1, .int x), (2, .int y)] [] n (wd (wx a b)) := by
    intro hn w
    refine kx_iconst (pc := 41) (x := 0) d_S_letsThrough_41 (by decide) ?_
    exact kx_zret rfl rfl d_S_letsThrough_42 ⟨rfl, 0, rfl, Or.inr rfl, ⟨fun _ => hn, fun _ => rfl⟩⟩
  have yes : (a.2.2 (53 + u) 0 = -1 ∨ a.2.2 (53 + u) 0 = x) → kx_V E i_S_letsThrough 1 0 0 (fun r _ h' => h' = wd (wx a b) ∧ ∃ z : Int32, r = Sum.inl (some (.int z)) ∧ (z = 1 ∨ z = 0) ∧ (z = 0 ↔ ¬ f_lets a u x y)) 0 0 16 [(0, .ref (53 + u)), (1, .int x), (2, .int y)] [] n (wd (wx a b)) := by
    intro hr
    refine kx_iconst (pc := 16) (x := 1) d_S_letsThrough_16 (by decide) ?_
    refine kx_goto (pc := 17) (tgt := 21) d_S_letsThrough_17 (by decide) ?_
    refine kx_istore_n (pc := 21) (lv' := [(3, _), (0, _), (1, _), (2, _)]) d_S_letsThrough_21 rfl (by decide) rfl ?_
    refine kx_iload_n (pc := 22) d_S_letsThrough_22 rfl ?_
    refine kx_if_eq (pc := 23) (tgt := 41) d_S_letsThrough_23 (by decide) (fun hz => absurd hz (by decide)) (fun _ => ?_)
    refine kx_aload_n (pc := 26) d_S_letsThrough_26 rfl ?_
    refine ka_geti (pc := 27) d_S_letsThrough_27 fl_S_15 (by omega) (wk_s hu) (by decide) (wf_s hu (by decide)) ?_
    refine kx_iconst (pc := 30) (x := 1) d_S_letsThrough_30 (by decide) ?_
    refine kx_iload_n (pc := 31) d_S_letsThrough_31 rfl ?_
    refine kx_ishl (pc := 32) d_S_letsThrough_32 ?_
    refine kx_iand (pc := 33) d_S_letsThrough_33 ?_
    refine kx_if_eq (pc := 34) (tgt := 41) d_S_letsThrough_34 (by decide) (fun hz => ?_) (fun hz => ?_)
    · exact no (fun w => w.2 hz) _
    · refine kx_iconst (pc := 37) (x := 1) d_S_letsThrough_37 (by decide) ?_
      refine kx_goto (pc := 38) (tgt := 42) d_S_letsThrough_38 (by decide) ?_
      exact kx_zret rfl rfl d_S_letsThrough_42 ⟨rfl, 1, rfl, Or.inl rfl, ⟨fun w => absurd w (by decide), fun w => absurd ⟨hr, hz⟩ w⟩⟩
  refine kx_aload_n (pc := 0) d_S_letsThrough_0 rfl ?_
  refine ka_geti (pc := 1) d_S_letsThrough_1 fl_S_9 (by omega) (wk_s hu) (by decide) (wf_s hu (by decide)) ?_
  refine kx_iconst (pc := 4) (x := -1) d_S_letsThrough_4 (by decide) ?_
  refine kx_icmp_eq (pc := 5) (tgt := 16) d_S_letsThrough_5 (by decide) (fun hz => ?_) (fun hz => ?_)
  · exact yes (Or.inl hz)
  · refine kx_aload_n (pc := 8) d_S_letsThrough_8 rfl ?_
    refine ka_geti (pc := 9) d_S_letsThrough_9 fl_S_9 (by omega) (wk_s hu) (by decide) (wf_s hu (by decide)) ?_
    refine kx_iload_n (pc := 12) d_S_letsThrough_12 rfl ?_
    refine kx_icmp_ne (pc := 13) (tgt := 20) d_S_letsThrough_13 (by decide) (fun hy => ?_) (fun hy => ?_)
    · refine kx_iconst (pc := 20) (x := 0) d_S_letsThrough_20 (by decide) ?_
      refine kx_istore_n (pc := 21) (lv' := [(3, _), (0, _), (1, _), (2, _)]) d_S_letsThrough_21 rfl (by decide) rfl ?_
      refine kx_iload_n (pc := 22) d_S_letsThrough_22 rfl ?_
      refine kx_if_eq (pc := 23) (tgt := 41) d_S_letsThrough_23 (by decide) (fun _ => ?_) (fun hz => absurd rfl hz)
      exact no (fun w => w.1.elim hz hy) _
    · exact yes (Or.inr hy)
set_option maxHeartbeats 4000000 in
set_option maxRecDepth 100000 in
theorem f_wait_y {a : kW} {u m q : Nat} (h : f_lets a u (a.1 2 q) (a.1 4 q)) : f_wait a u (m + 1) q = nI q := if_pos h
theorem f_wait_n {a : kW} {u m q : Nat} (h : ¬ f_lets a u (a.1 2 q) (a.1 4 q)) : f_wait a u (m + 1) q = f_wait a u m (q + 1) := if_neg h
set_option maxHeartbeats 4000000 in
set_option maxRecDepth 100000 in
theorem k_wait_loop {E : kx_E} {a b : kW} {u sz : Nat} (hu : u < 8) (h1 : a.2.2 1 9 = nI sz) (h5 : sz ≤ 500) (m : Nat) : ∀ (q : Nat), q ≤ 500 → m = sz - q → ∀ {Q : kx_Q}, (∀ n, Q (Sum.inl (some (.int (f_wait a u m q)))) n (wd (wx a b))) → ∀ n, kx_V E i_S_firstWaiting 2 0 0 Q 0 0 5 [(2, .int (nI q)), (0, .ref (53 + u)), (1, .ref 1)] [] n (wd (wx a b)) := by
  induction m with
  | zero =>
    intro q hq5 hm Q hQ n
    have hge : sz ≤ q := by omega
    refine kx_iload_n (pc := 5) d_S_firstWaiting_5 rfl ?_
    refine kx_aload_n (pc := 6) d_S_firstWaiting_6 rfl ?_
    refine ka_geti (pc := 7) d_S_firstWaiting_7 fl_S_24 (by decide) rfl (by decide) rfl ?_
    refine kx_eqi h1 ?_
    refine kx_icmp_ge (pc := 10) (tgt := 40) d_S_firstWaiting_10 (by decide) (fun _ => ?_) (fun hz => absurd (nI_le hge (by omega)) hz)
    refine kx_iconst (pc := 40) (x := -1) d_S_firstWaiting_40 (by decide) ?_
    exact kx_iret rfl d_S_firstWaiting_41 (hQ _)
  | succ m ih =>
    intro q hq5 hm Q hQ n
    have hlt : q < sz := by omega
    have q5 : q < 500 := by omega
    refine kx_iload_n (pc := 5) d_S_firstWaiting_5 rfl ?_
    refine kx_aload_n (pc := 6) d_S_firstWaiting_6 rfl ?_
    refine ka_geti (pc := 7) d_S_firstWaiting_7 fl_S_24 (by decide) rfl (by decide) rfl ?_
    refine kx_eqi h1 ?_
    refine kx_icmp_ge (pc := 10) (tgt := 40) d_S_firstWaiting_10 (by decide) (fun hz => absurd hz (nI_ge hlt (by omega))) (fun _ => ?_)
    refine kx_aload_n (pc := 13) d_S_firstWaiting_13 rfl ?_
    refine kx_aload_n (pc := 14) d_S_firstWaiting_14 rfl ?_
    refine kw_getr (pc := 15) (r := 2) d_S_firstWaiting_15 fl_S_29 rfl (by decide) rfl ?_
    refine kx_iload_n (pc := 18) d_S_firstWaiting_18 rfl ?_
    refine ka_iald (pc := 19) d_S_firstWaiting_19 (by decide) rfl ⟨rfl, q5, by decide⟩ ?_
    refine kx_aload_n (pc := 20) d_S_firstWaiting_20 rfl ?_
    refine kw_getr (pc := 21) (r := 4) d_S_firstWaiting_21 fl_S_33 rfl (by decide) rfl ?_
    refine kx_iload_n (pc := 24) d_S_firstWaiting_24 rfl ?_
    refine ka_iald (pc := 25) d_S_firstWaiting_25 (by decide) rfl ⟨rfl, q5, by decide⟩ ?_
    refine kx_invV (pc := 26) (as := [.int _, .int _]) (st := []) (k := 0) (j := 0) d_S_firstWaiting_26 wv_S_36 (wd_o (wk_s hu)) (k_letsThrough (a := a) (b := b) hu) rfl rfl (Nat.le_of_ble_eq_true rfl) (by decide) (Nat.le_of_ble_eq_true rfl) (fun rv n' h' hq => ?_) (fun X n' h' hq => by obtain ⟨-, z, hz, -⟩ := hq; nomatch hz)
    obtain ⟨rfl, z, hz, hz2, hz3⟩ := hq
    cases hz
    refine kx_if_eq (pc := 29) (tgt := 34) d_S_firstWaiting_29 (by decide) (fun hw => ?_) (fun hw => ?_)
    · have hn := hz3.mp hw
      refine kx_iinc (pc := 34) (y := nI (q + 1)) (lv' := [(2, _), (0, _), (1, _)]) d_S_firstWaiting_34 rfl (nI_1 q) (by decide) rfl ?_
      refine kx_goto (pc := 37) (tgt := 5) d_S_firstWaiting_37 (by decide) ?_
      exact ih (q + 1) (by omega) (by omega) (fun n => by rw [← f_wait_n hn]; exact hQ n) _
    · have hy : f_lets a u (a.1 2 q) (a.1 4 q) := Classical.byContradiction (fun w => hw (hz3.mpr w))
      refine kx_iload_n (pc := 32) d_S_firstWaiting_32 rfl ?_
      exact kx_iret rfl d_S_firstWaiting_33 (by rw [← f_wait_y (m := m) hy]; exact hQ _)
set_option maxHeartbeats 4000000 in
set_option maxRecDepth 100000 in
theorem k_firstWaiting {E : kx_E} {n : Nat} {a b : kW} {u sz q : Nat} (hu : u < 8) (h1 : a.2.2 1 9 = nI sz) (h5 : sz ≤ 500) (hq5 : q ≤ 500) (hpos : a.2.2 (53 + u) 2 = nI q) : kx_V E i_S_firstWaiting 2 0 0 (fun r _ h' => h' = wd (wx a b) ∧ r = Sum.inl (some (.int (f_wait a u (sz - q) q)))) 0 0 0 (lv_args 0 [.ref (53 + u), .ref 1]) [] n (wd (wx a b)) := by
  refine kx_aload_n (pc := 0) d_S_firstWaiting_0 rfl ?_
  refine ka_geti (pc := 1) d_S_firstWaiting_1 fl_S_18 (by omega) (wk_s hu) (by decide) (wf_s hu (by decide)) ?_
  refine kx_eqi hpos ?_
  refine kx_istore_n (pc := 4) (lv' := [(2, _), (0, _), (1, _)]) d_S_firstWaiting_4 rfl (by decide) rfl ?_
  exact k_wait_loop hu h1 h5 (sz - q) q hq5 rfl (fun _ => ⟨rfl, rfl⟩) _
