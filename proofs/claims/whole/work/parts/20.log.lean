set_option maxHeartbeats 4000000 in
set_option maxRecDepth 100000 in
theorem k_checkArgument {E : kx_E} {n : Nat} {h : kx_H} (x : Int32) : kx_V E i_EK_checkArgument 6 1 6 (fun r _ h' => h' = h ∧ r = if x = 0 then Sum.inr "java/lang/IllegalArgumentException" else Sum.inl none) 1 6 0 (lv_args 0 [.int x]) [] n h := by
  refine kx_iload_n (pc := 0) d_EK_checkArgument_0 rfl ?_
  refine kx_if_ne (pc := 1) (tgt := 14) d_EK_checkArgument_1 (by decide) (fun hc => ?_) (fun hc => ?_)
  · exact kx_vret rfl d_EK_checkArgument_14 ⟨rfl, by rw [if_neg hc]⟩
  · exact kx_throw (pc := 4) (k := 0) (j := 0) (tx := "an argument is out of its range") d_EK_checkArgument_4 d_EK_checkArgument_7 d_EK_checkArgument_8 d_EK_checkArgument_10 d_EK_checkArgument_13 tx_EK_152_156 (by decide +kernel) (fun _ hx => nomatch hx) (by decide) (Nat.le_of_ble_eq_true rfl) ⟨rfl, by rw [if_pos hc]⟩
set_option maxHeartbeats 4000000 in
set_option maxRecDepth 100000 in
theorem k_checkStream {E : kx_E} {n : Nat} {h : kx_H} (x : Int32) : kx_V E i_EK_checkStream 7 1 6 (fun r _ h' => h' = h ∧ r = if 0 ≤ x ∧ x < 16 then Sum.inl none else Sum.inr "java/lang/IllegalArgumentException") 1 6 0 (lv_args 0 [.int x]) [] n h := by
  have bad : ¬ (0 ≤ x ∧ x < 16) → kx_V E i_EK_checkStream 7 1 6 (fun r _ h' => h' = h ∧ r = if 0 ≤ x ∧ x < 16 then Sum.inl none else Sum.inr "java/lang/IllegalArgumentException") 1 6 14 [(0, .int x)] [] n h := by
    intro hb
    refine kx_iconst (pc := 14) (x := 0) d_EK_checkStream_14 (by decide) ?_
    refine kx_invS (pc := 15) (as := [.int 0]) (st := []) (k := 0) (j := 0) d_EK_checkStream_15 ws_EK_35 (k_checkArgument 0) rfl rfl (Nat.le_of_ble_eq_true rfl) (by decide) (Nat.le_of_ble_eq_true rfl) (fun v n' h' hq => ?_) (fun X n' h' hq => ?_)
    · exact absurd hq.2 (by rw [if_pos rfl]; exact fun q => nomatch q)
    · obtain ⟨rfl, hq⟩ := hq
      rw [if_pos rfl] at hq
      exact kx_X.out (fun _ hx => nomatch hx) ⟨rfl, by rw [if_neg hb]; exact hq⟩
  refine kx_iload_n (pc := 0) d_EK_checkStream_0 rfl ?_
  refine kx_if_lt (pc := 1) (tgt := 14) d_EK_checkStream_1 (by decide) (fun hc => bad (fun q => Int32.not_lt.mpr q.1 hc)) (fun hc => ?_)
  refine kx_iload_n (pc := 4) d_EK_checkStream_4 rfl ?_
  refine kx_bipush (pc := 5) (x := 16) d_EK_checkStream_5 (by decide) ?_
  refine kx_icmp_ge (pc := 7) (tgt := 14) d_EK_checkStream_7 (by decide) (fun hc => bad (fun q => Int32.not_lt.mpr hc q.2)) (fun hc2 => ?_)
  have ok : 0 ≤ x ∧ x < 16 := ⟨Int32.not_lt.mp hc, Int32.not_le.mp hc2⟩
  refine kx_iconst (pc := 10) (x := 1) d_EK_checkStream_10 (by decide) ?_
  refine kx_goto (pc := 11) (tgt := 15) d_EK_checkStream_11 (by decide) ?_
  refine kx_invS (pc := 15) (as := [.int 1]) (st := []) (k := 0) (j := 0) d_EK_checkStream_15 ws_EK_35 (k_checkArgument 1) rfl rfl (Nat.le_of_ble_eq_true rfl) (by decide) (Nat.le_of_ble_eq_true rfl) (fun v n' h' hq => ?_) (fun X n' h' hq => ?_)
  · obtain ⟨rfl, hq⟩ := hq
    rw [if_neg (by decide)] at hq
    cases hq
    exact kx_vret (pc := 18) rfl d_EK_checkStream_18 ⟨rfl, by rw [if_pos ok]⟩
  · exact absurd hq.2 (by rw [if_neg (by decide)]; exact fun q => nomatch q)
set_option maxHeartbeats 4000000 in
set_option maxRecDepth 100000 in
theorem k_checkKind {E : kx_E} {n : Nat} {h : kx_H} (x : Int32) : kx_V E i_EK_checkKind 7 1 6 (fun r _ h' => h' = h ∧ r = if 0 ≤ x ∧ x < 8 then Sum.inl none else Sum.inr "java/lang/IllegalArgumentException") 1 6 0 (lv_args 0 [.int x]) [] n h := by
  have bad : ¬ (0 ≤ x ∧ x < 8) → kx_V E i_EK_checkKind 7 1 6 (fun r _ h' => h' = h ∧ r = if 0 ≤ x ∧ x < 8 then Sum.inl none else Sum.inr "java/lang/IllegalArgumentException") 1 6 14 [(0, .int x)] [] n h := by
    intro hb
    refine kx_iconst (pc := 14) (x := 0) d_EK_checkKind_14 (by decide) ?_
    refine kx_invS (pc := 15) (as := [.int 0]) (st := []) (k := 0) (j := 0) d_EK_checkKind_15 ws_EK_35 (k_checkArgument 0) rfl rfl (Nat.le_of_ble_eq_true rfl) (by decide) (Nat.le_of_ble_eq_true rfl) (fun v n' h' hq => ?_) (fun X n' h' hq => ?_)
    · exact absurd hq.2 (by rw [if_pos rfl]; exact fun q => nomatch q)
    · obtain ⟨rfl, hq⟩ := hq
      rw [if_pos rfl] at hq
      exact kx_X.out (fun _ hx => nomatch hx) ⟨rfl, by rw [if_neg hb]; exact hq⟩
  refine kx_iload_n (pc := 0) d_EK_checkKind_0 rfl ?_
  refine kx_if_lt (pc := 1) (tgt := 14) d_EK_checkKind_1 (by decide) (fun hc => bad (fun q => Int32.not_lt.mpr q.1 hc)) (fun hc => ?_)
  refine kx_iload_n (pc := 4) d_EK_checkKind_4 rfl ?_
  refine kx_bipush (pc := 5) (x := 8) d_EK_checkKind_5 (by decide) ?_
  refine kx_icmp_ge (pc := 7) (tgt := 14) d_EK_checkKind_7 (by decide) (fun hc => bad (fun q => Int32.not_lt.mpr hc q.2)) (fun hc2 => ?_)
  have ok : 0 ≤ x ∧ x < 8 := ⟨Int32.not_lt.mp hc, Int32.not_le.mp hc2⟩
  refine kx_iconst (pc := 10) (x := 1) d_EK_checkKind_10 (by decide) ?_
  refine kx_goto (pc := 11) (tgt := 15) d_EK_checkKind_11 (by decide) ?_
  refine kx_invS (pc := 15) (as := [.int 1]) (st := []) (k := 0) (j := 0) d_EK_checkKind_15 ws_EK_35 (k_checkArgument 1) rfl rfl (Nat.le_of_ble_eq_true rfl) (by decide) (Nat.le_of_ble_eq_true rfl) (fun v n' h' hq => ?_) (fun X n' h' hq => ?_)
  · obtain ⟨rfl, hq⟩ := hq
    rw [if_neg (by decide)] at hq
    cases hq
    exact kx_vret (pc := 18) rfl d_EK_checkKind_18 ⟨rfl, by rw [if_pos ok]⟩
  · exact absurd hq.2 (by rw [if_neg (by decide)]; exact fun q => nomatch q)
set_option maxHeartbeats 4000000 in
set_option maxRecDepth 100000 in
theorem k_checkProjection {E : kx_E} {n : Nat} {h : kx_H} (x : Int32) : kx_V E i_EK_checkProjection 7 1 6 (fun r _ h' => h' = h ∧ r = if 0 ≤ x ∧ x < 8 then Sum.inl none else Sum.inr "java/lang/IllegalArgumentException") 1 6 0 (lv_args 0 [.int x]) [] n h := by
  have bad : ¬ (0 ≤ x ∧ x < 8) → kx_V E i_EK_checkProjection 7 1 6 (fun r _ h' => h' = h ∧ r = if 0 ≤ x ∧ x < 8 then Sum.inl none else Sum.inr "java/lang/IllegalArgumentException") 1 6 14 [(0, .int x)] [] n h := by
    intro hb
    refine kx_iconst (pc := 14) (x := 0) d_EK_checkProjection_14 (by decide) ?_
    refine kx_invS (pc := 15) (as := [.int 0]) (st := []) (k := 0) (j := 0) d_EK_checkProjection_15 ws_EK_35 (k_checkArgument 0) rfl rfl (Nat.le_of_ble_eq_true rfl) (by decide) (Nat.le_of_ble_eq_true rfl) (fun v n' h' hq => ?_) (fun X n' h' hq => ?_)
    · exact absurd hq.2 (by rw [if_pos rfl]; exact fun q => nomatch q)
    · obtain ⟨rfl, hq⟩ := hq
      rw [if_pos rfl] at hq
      exact kx_X.out (fun _ hx => nomatch hx) ⟨rfl, by rw [if_neg hb]; exact hq⟩
  refine kx_iload_n (pc := 0) d_EK_checkProjection_0 rfl ?_
  refine kx_if_lt (pc := 1) (tgt := 14) d_EK_checkProjection_1 (by decide) (fun hc => bad (fun q => Int32.not_lt.mpr q.1 hc)) (fun hc => ?_)
  refine kx_iload_n (pc := 4) d_EK_checkProjection_4 rfl ?_
  refine kx_bipush (pc := 5) (x := 8) d_EK_checkProjection_5 (by decide) ?_
  refine kx_icmp_ge (pc := 7) (tgt := 14) d_EK_checkProjection_7 (by decide) (fun hc => bad (fun q => Int32.not_lt.mpr hc q.2)) (fun hc2 => ?_)
  have ok : 0 ≤ x ∧ x < 8 := ⟨Int32.not_lt.mp hc, Int32.not_le.mp hc2⟩
  refine kx_iconst (pc := 10) (x := 1) d_EK_checkProjection_10 (by decide) ?_
  refine kx_goto (pc := 11) (tgt := 15) d_EK_checkProjection_11 (by decide) ?_
  refine kx_invS (pc := 15) (as := [.int 1]) (st := []) (k := 0) (j := 0) d_EK_checkProjection_15 ws_EK_35 (k_checkArgument 1) rfl rfl (Nat.le_of_ble_eq_true rfl) (by decide) (Nat.le_of_ble_eq_true rfl) (fun v n' h' hq => ?_) (fun X n' h' hq => ?_)
  · obtain ⟨rfl, hq⟩ := hq
    rw [if_neg (by decide)] at hq
    cases hq
    exact kx_vret (pc := 18) rfl d_EK_checkProjection_18 ⟨rfl, by rw [if_pos ok]⟩
  · exact absurd hq.2 (by rw [if_neg (by decide)]; exact fun q => nomatch q)
set_option maxHeartbeats 4000000 in
set_option maxRecDepth 100000 in
theorem k_checkSubscription {E : kx_E} {n : Nat} {h : kx_H} (x : Int32) : kx_V E i_EK_checkSubscription 7 1 6 (fun r _ h' => h' = h ∧ r = if 0 ≤ x ∧ x < 8 then Sum.inl none else Sum.inr "java/lang/IllegalArgumentException") 1 6 0 (lv_args 0 [.int x]) [] n h := by
  have bad : ¬ (0 ≤ x ∧ x < 8) → kx_V E i_EK_checkSubscription 7 1 6 (fun r _ h' => h' = h ∧ r = if 0 ≤ x ∧ x < 8 then Sum.inl none else Sum.inr "java/lang/IllegalArgumentException") 1 6 14 [(0, .int x)] [] n h := by
    intro hb
    refine kx_iconst (pc := 14) (x := 0) d_EK_checkSubscription_14 (by decide) ?_
    refine kx_invS (pc := 15) (as := [.int 0]) (st := []) (k := 0) (j := 0) d_EK_checkSubscription_15 ws_EK_35 (k_checkArgument 0) rfl rfl (Nat.le_of_ble_eq_true rfl) (by decide) (Nat.le_of_ble_eq_true rfl) (fun v n' h' hq => ?_) (fun X n' h' hq => ?_)
    · exact absurd hq.2 (by rw [if_pos rfl]; exact fun q => nomatch q)
    · obtain ⟨rfl, hq⟩ := hq
      rw [if_pos rfl] at hq
      exact kx_X.out (fun _ hx => nomatch hx) ⟨rfl, by rw [if_neg hb]; exact hq⟩
  refine kx_iload_n (pc := 0) d_EK_checkSubscription_0 rfl ?_
  refine kx_if_lt (pc := 1) (tgt := 14) d_EK_checkSubscription_1 (by decide) (fun hc => bad (fun q => Int32.not_lt.mpr q.1 hc)) (fun hc => ?_)
  refine kx_iload_n (pc := 4) d_EK_checkSubscription_4 rfl ?_
  refine kx_bipush (pc := 5) (x := 8) d_EK_checkSubscription_5 (by decide) ?_
  refine kx_icmp_ge (pc := 7) (tgt := 14) d_EK_checkSubscription_7 (by decide) (fun hc => bad (fun q => Int32.not_lt.mpr hc q.2)) (fun hc2 => ?_)
  have ok : 0 ≤ x ∧ x < 8 := ⟨Int32.not_lt.mp hc, Int32.not_le.mp hc2⟩
  refine kx_iconst (pc := 10) (x := 1) d_EK_checkSubscription_10 (by decide) ?_
  refine kx_goto (pc := 11) (tgt := 15) d_EK_checkSubscription_11 (by decide) ?_
  refine kx_invS (pc := 15) (as := [.int 1]) (st := []) (k := 0) (j := 0) d_EK_checkSubscription_15 ws_EK_35 (k_checkArgument 1) rfl rfl (Nat.le_of_ble_eq_true rfl) (by decide) (Nat.le_of_ble_eq_true rfl) (fun v n' h' hq => ?_) (fun X n' h' hq => ?_)
  · obtain ⟨rfl, hq⟩ := hq
    rw [if_neg (by decide)] at hq
    cases hq
    exact kx_vret (pc := 18) rfl d_EK_checkSubscription_18 ⟨rfl, by rw [if_pos ok]⟩
  · exact absurd hq.2 (by rw [if_neg (by decide)]; exact fun q => nomatch q)
set_option maxHeartbeats 4000000 in
set_option maxRecDepth 100000 in
theorem k_isFull {E : kx_E} {n : Nat} {a b : kW} {sz : Nat} (h1 : a.2.2 1 9 = nI sz) (h2 : sz ≤ 500) : kx_V E i_L_isFull 1 0 0 (fun r _ h' => h' = wd (wx a b) ∧ r = Sum.inl (some (.int (if 500 ≤ sz then 1 else 0)))) 0 0 0 (lv_args 0 [.ref 1]) [] n (wd (wx a b)) := by
  refine kx_aload_n (pc := 0) d_L_isFull_0 rfl ?_
  refine ka_geti (pc := 1) d_L_isFull_1 fl_L_40 (by decide) rfl (by decide) rfl ?_
  refine kx_eqi h1 ?_
  refine kx_sipush (pc := 4) (x := 500) d_L_isFull_4 (by decide) ?_
  refine kx_eqi (show (500 : Int32) = nI 500 from rfl) ?_
  refine kx_icmp_lt (pc := 7) (tgt := 14) d_L_isFull_7 (by decide) (fun hc => ?_) (fun hc => ?_)
  · have hz : ¬ 500 ≤ sz := fun q => Int32.not_lt.mpr (nI_le q (by omega)) hc
    refine kx_iconst (pc := 14) (x := 0) d_L_isFull_14 (by decide) ?_
    exact kx_zret rfl rfl d_L_isFull_15 ⟨rfl, by rw [if_neg hz]⟩
  · have hz : 500 ≤ sz := Nat.not_lt.mp (fun q => hc (nI_lt q (by omega)))
    refine kx_iconst (pc := 10) (x := 1) d_L_isFull_10 (by decide) ?_
    refine kx_goto (pc := 11) (tgt := 15) d_L_isFull_11 (by decide) ?_
    exact kx_zret rfl rfl d_L_isFull_15 ⟨rfl, by rw [if_pos hz]⟩
set_option maxHeartbeats 4000000 in
set_option maxRecDepth 100000 in
theorem k_put {E : kx_E} {n : Nat} {a b : kW} {sz s : Nat} {kd : Int32} {v : Int64} (h1 : a.2.2 1 9 = nI sz) (h2 : sz < 500) (hs : s < 16) : kx_V E i_L_put 1 0 0 (fun r _ h' => h' = wd (wx (f_put a sz s kd v) b) ∧ r = Sum.inl (some (.int (nI sz)))) 0 0 0 (lv_args 0 [.ref 1, .int (nI s), .int kd, .long v]) [] n (wd (wx a b)) := by
  refine kx_aload_n (pc := 0) d_L_put_0 rfl ?_
  refine ka_geti (pc := 1) d_L_put_1 fl_L_40 (by decide) rfl (by decide) rfl ?_
  refine kx_eqi h1 ?_
  refine kx_istore (pc := 4) (lv' := [(5, _), (0, _), (1, _), (2, _), (3, _)]) d_L_put_4 (by decide) rfl ?_
  refine kx_aload_n (pc := 6) d_L_put_6 rfl ?_
  refine kw_getr (pc := 7) (r := 2) d_L_put_7 fl_L_9 rfl (by decide) rfl ?_
  refine kx_iload (pc := 10) d_L_put_10 rfl ?_
  refine kx_iload_n (pc := 12) d_L_put_12 rfl ?_
  refine ka_iast (pc := 13) d_L_put_13 (by decide) rfl ⟨rfl, h2, by decide⟩ ?_
  refine kx_aload_n (pc := 14) d_L_put_14 rfl ?_
  refine kw_getr (pc := 15) (r := 3) d_L_put_15 fl_L_15 rfl (by decide) rfl ?_
  refine kx_iload (pc := 18) d_L_put_18 rfl ?_
  refine kx_aload_n (pc := 20) d_L_put_20 rfl ?_
  refine kw_getr (pc := 21) (r := 9) d_L_put_21 fl_L_34 rfl (by decide) rfl ?_
  refine kx_iload_n (pc := 24) d_L_put_24 rfl ?_
  refine ka_iald (pc := 25) d_L_put_25 (by decide) rfl ⟨rfl, hs, by decide⟩ ?_
  refine ka_iast (pc := 26) d_L_put_26 (by decide) rfl ⟨rfl, h2, by decide⟩ ?_
  refine kx_aload_n (pc := 27) d_L_put_27 rfl ?_
  refine kw_getr (pc := 28) (r := 4) d_L_put_28 fl_L_18 rfl (by decide) rfl ?_
  refine kx_iload (pc := 31) d_L_put_31 rfl ?_
  refine kx_iload_n (pc := 33) d_L_put_33 rfl ?_
  refine ka_iast (pc := 34) d_L_put_34 (by decide) rfl ⟨rfl, h2, by decide⟩ ?_
  refine kx_aload_n (pc := 35) d_L_put_35 rfl ?_
  refine kw_getr (pc := 36) (r := 5) d_L_put_36 fl_L_21 rfl (by decide) rfl ?_
  refine kx_iload (pc := 39) d_L_put_39 rfl ?_
  refine kx_lload_n (pc := 41) d_L_put_41 rfl ?_
  refine ka_last (pc := 42) d_L_put_42 (by decide) rfl ⟨rfl, h2, by decide⟩ ?_
  refine kx_aload_n (pc := 43) d_L_put_43 rfl ?_
  refine kw_getr (pc := 44) (r := 6) d_L_put_44 fl_L_25 rfl (by decide) rfl ?_
  refine kx_iload (pc := 47) d_L_put_47 rfl ?_
  refine kx_iconst (pc := 49) (x := -1) d_L_put_49 (by decide) ?_
  refine ka_iast (pc := 50) d_L_put_50 (by decide) rfl ⟨rfl, h2, by decide⟩ ?_
  refine kx_aload_n (pc := 51) d_L_put_51 rfl ?_
  refine kw_getr (pc := 52) (r := 7) d_L_put_52 fl_L_28 rfl (by decide) rfl ?_
  refine kx_iload (pc := 55) d_L_put_55 rfl ?_
  refine kx_iconst (pc := 57) (x := -1) d_L_put_57 (by decide) ?_
  refine ka_iast (pc := 58) d_L_put_58 (by decide) rfl ⟨rfl, h2, by decide⟩ ?_
  refine kx_aload_n (pc := 59) d_L_put_59 rfl ?_
  refine kw_getr (pc := 60) (r := 9) d_L_put_60 fl_L_34 rfl (by decide) rfl ?_
  refine kx_iload_n (pc := 63) d_L_put_63 rfl ?_
  refine kx_dup2 (pc := 64) d_L_put_64 rfl rfl ?_
  refine ka_iald (pc := 65) d_L_put_65 (by decide) rfl ⟨rfl, hs, by decide⟩ ?_
  refine kx_iconst (pc := 66) (x := 1) d_L_put_66 (by decide) ?_
  refine kx_iadd (pc := 67) d_L_put_67 ?_
  refine ka_iast (pc := 68) d_L_put_68 (by decide) rfl ⟨rfl, hs, by decide⟩ ?_
  refine kx_aload_n (pc := 69) d_L_put_69 rfl ?_
  refine kx_dup (pc := 70) d_L_put_70 rfl ?_
  refine ka_geti (pc := 71) d_L_put_71 fl_L_40 (by decide) rfl (by decide) rfl ?_
  refine kx_iconst (pc := 74) (x := 1) d_L_put_74 (by decide) ?_
  refine kx_iadd (pc := 75) d_L_put_75 ?_
  refine kx_eqi (show _ = nI (sz + 1) from (congrArg (· + 1) h1).trans (nI_1 sz)) ?_
  refine ka_puti (pc := 76) d_L_put_76 fl_L_40 fw_L_9 (by decide) rfl (by decide) rfl ?_
  refine kx_iload (pc := 79) d_L_put_79 rfl ?_
  exact kx_iret rfl d_L_put_81 ⟨rfl, rfl⟩
