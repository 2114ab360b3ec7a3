set_option maxHeartbeats 4000000 in
set_option maxRecDepth 100000 in
theorem k_checkPlace {E : kx_E} {n : Nat} {a b : kW} {sz : Nat} (x : Int32) (h1 : a.2.2 1 9 = nI sz) : kx_V E i_EK_checkPlace 6 1 6 (fun r _ h' => h' = wd (wx a b) ∧ r = if 0 ≤ x ∧ x < nI sz then Sum.inl none else Sum.inr "java/lang/IndexOutOfBoundsException") 1 6 0 (lv_args 0 [.ref 0, .int x]) [] n (wd (wx a b)) := by
  refine kx_iload_n (pc := 0) d_EK_checkPlace_0 rfl ?_
  refine kx_if_lt (pc := 1) (tgt := 15) d_EK_checkPlace_1 (by decide) (fun y1 => ?_) (fun y1 => ?_)
  · exact kx_throw (pc := 15) (k := 0) (j := 0) (tx := "there is no event at this place") d_EK_checkPlace_15 d_EK_checkPlace_18 d_EK_checkPlace_19 d_EK_checkPlace_21 d_EK_checkPlace_24 tx_EK_57_61 (by decide +kernel) (fun _ hx => nomatch hx) (by decide) (Nat.le_of_ble_eq_true rfl) ⟨rfl, by rw [if_neg (fun w => Int32.not_lt.mpr w.1 y1)]⟩
  · refine kx_iload_n (pc := 4) d_EK_checkPlace_4 rfl ?_
    refine kx_aload_n (pc := 5) d_EK_checkPlace_5 rfl ?_
    refine kw_getr (pc := 6) (r := 1) d_EK_checkPlace_6 fl_EK_10 rfl (by decide) rfl ?_
    refine ka_geti (pc := 9) d_EK_checkPlace_9 fl_EK_77 (by decide) rfl (by decide) rfl ?_
    refine kx_eqi h1 ?_
    refine kx_icmp_lt (pc := 12) (tgt := 25) d_EK_checkPlace_12 (by decide) (fun y2 => ?_) (fun y2 => ?_)
    · exact kx_vret rfl d_EK_checkPlace_25 ⟨rfl, by rw [if_pos (And.intro (Int32.not_lt.mp y1) y2)]⟩
    · exact kx_throw (pc := 15) (k := 0) (j := 0) (tx := "there is no event at this place") d_EK_checkPlace_15 d_EK_checkPlace_18 d_EK_checkPlace_19 d_EK_checkPlace_21 d_EK_checkPlace_24 tx_EK_57_61 (by decide +kernel) (fun _ hx => nomatch hx) (by decide) (Nat.le_of_ble_eq_true rfl) ⟨rfl, by rw [if_neg (fun w => y2 w.2)]⟩
def s_ack (a : kW) (sz : Nat) (x1 x2 : Int32) : (Option Value ⊕ String) × kW := if 0 ≤ x1 ∧ x1 < 8 then if 0 ≤ x2 ∧ x2 < nI sz then (Sum.inl (some (.int (if a.2.2 (53 + nt x1) 2 < x2 + 1 then x2 + 1 else a.2.2 (53 + nt x1) 2))), f_pass a (nt x1) x2) else (Sum.inr "java/lang/IndexOutOfBoundsException", a) else (Sum.inr "java/lang/IllegalArgumentException", a)
set_option maxHeartbeats 4000000 in
set_option maxRecDepth 100000 in
theorem k_acknowledge {E : kx_E} {n : Nat} {a b : kW} {sz : Nat} {x1 x2 : Int32} (h1 : a.2.2 1 9 = nI sz) (h5 : sz ≤ 500) : kx_V E i_EK_acknowledge 8 5 30 (fun r _ h' => r = (s_ack a sz x1 x2).1 ∧ h' = wd (wx (s_ack a sz x1 x2).2 b)) 5 30 0 (lv_args 0 [.ref 0, .int x1, .int x2]) [] n (wd (wx a b)) := by
  refine kx_iload_n (pc := 0) d_EK_acknowledge_0 rfl ?_
  refine kx_invS (pc := 1) (as := [.int _]) (st := []) (k := 4) (j := 24) d_EK_acknowledge_1 ws_EK_91 (k_checkSubscription x1) rfl rfl (Nat.le_of_ble_eq_true rfl) (by decide) (Nat.le_of_ble_eq_true rfl) (fun rv n' h' hq => ?_) (fun X n' h' hq => ?_)
  rotate_left
  · obtain ⟨rfl, hq⟩ := hq
    obtain ⟨hbad, rfl⟩ := ck_n hq
    exact kx_X.out (fun _ hx => nomatch hx) ⟨by unfold s_ack; rw [if_neg hbad], by unfold s_ack; rw [if_neg hbad]⟩
  obtain ⟨rfl, hq⟩ := hq
  obtain ⟨g1, rfl⟩ := ck_y hq
  obtain ⟨u, hu, rfl, nu⟩ := nI_get (N := 8) (by decide) g1
  refine kx_aload_n (pc := 4) d_EK_acknowledge_4 rfl ?_
  refine kx_iload_n (pc := 5) d_EK_acknowledge_5 rfl ?_
  refine kx_invV (pc := 6) (as := [.int _]) (st := []) (k := 3) (j := 18) d_EK_acknowledge_6 wv_EK_102 (wd_o rfl) (k_checkPlace (a := a) (b := b) x2 h1) rfl rfl (Nat.le_of_ble_eq_true rfl) (by decide) (Nat.le_of_ble_eq_true rfl) (fun rv n' h' hq => ?_) (fun X n' h' hq => ?_)
  rotate_left
  · obtain ⟨rfl, hq⟩ := hq
    obtain ⟨hbad, rfl⟩ := ck_n hq
    exact kx_X.out (fun _ hx => nomatch hx) ⟨by unfold s_ack; rw [if_pos g1, if_neg hbad], by unfold s_ack; rw [if_pos g1, if_neg hbad]⟩
  obtain ⟨rfl, hq⟩ := hq
  obtain ⟨g2, rfl⟩ := ck_y hq
  obtain ⟨q, hq9, rfl, nq⟩ := nI_get (by omega) g2
  have q5 : q < 500 := by omega
  refine kx_aload_n (pc := 9) d_EK_acknowledge_9 rfl ?_
  refine kw_getr (pc := 10) (r := 52) d_EK_acknowledge_10 fl_EK_27 rfl (by decide) rfl ?_
  refine kx_iload_n (pc := 13) d_EK_acknowledge_13 rfl ?_
  refine kw_aald (pc := 14) d_EK_acknowledge_14 ⟨_, fun _ => rfl⟩ rfl ⟨rfl, hu, by decide⟩ (wq_s hu) ?_
  refine kx_iload_n (pc := 15) d_EK_acknowledge_15 rfl ?_
  refine kx_invV (pc := 16) (as := [.int _]) (st := []) (k := 3) (j := 18) d_EK_acknowledge_16 wv_EK_105 (wd_o (wk_s hu)) (k_passBehind (a := a) (b := b) hu) rfl rfl (Nat.le_of_ble_eq_true rfl) (by decide) (Nat.le_of_ble_eq_true rfl) (fun rv n' h' hq => ?_) (fun X n' h' hq => nomatch hq.2)
  obtain ⟨rfl, hq⟩ := hq
  cases hq
  exact kx_iret rfl d_EK_acknowledge_19 ⟨by unfold s_ack; rw [if_pos g1, if_pos g2, nu], by unfold s_ack; rw [if_pos g1, if_pos g2, nu]⟩
def s_event (a : kW) (sz : Nat) (x1 x2 : Int32) : (Option Value ⊕ String) × kW := if 0 ≤ x2 ∧ x2 ≤ 4 then if 0 ≤ x1 ∧ x1 < nI sz then (Sum.inl (some (.int (if x2 = 0 then a.1 2 (nt x1) else if x2 = 1 then a.1 3 (nt x1) else if x2 = 2 then a.1 4 (nt x1) else if x2 = 3 then a.1 6 (nt x1) else a.1 7 (nt x1)))), a) else (Sum.inr "java/lang/IndexOutOfBoundsException", a) else (Sum.inr "java/lang/IllegalArgumentException", a)
set_option maxHeartbeats 4000000 in
set_option maxRecDepth 100000 in
theorem k_event {E : kx_E} {n : Nat} {a b : kW} {sz : Nat} {x1 x2 : Int32} (h1 : a.2.2 1 9 = nI sz) (h5 : sz ≤ 500) : kx_V E i_EK_event 8 5 30 (fun r _ h' => r = (s_event a sz x1 x2).1 ∧ h' = wd (wx (s_event a sz x1 x2).2 b)) 5 30 0 (lv_args 0 [.ref 0, .int x1, .int x2]) [] n (wd (wx a b)) := by
  refine kx_iload_n (pc := 0) d_EK_event_0 rfl ?_
  refine kx_if_lt (pc := 1) (tgt := 13) d_EK_event_1 (by decide) (fun g21 => ?_) (fun g21 => ?_)
  · refine kx_iconst (pc := 13) (x := 0) d_EK_event_13 (by decide) ?_
    refine kx_invS (pc := 14) (as := [.int _]) (st := []) (k := 4) (j := 24) d_EK_event_14 ws_EK_35 (k_checkArgument 0) rfl rfl (Nat.le_of_ble_eq_true rfl) (by decide) (Nat.le_of_ble_eq_true rfl) (fun rv n' h' hq => absurd rfl (ca_y hq.2).1) (fun X n' h' hq => ?_)
    obtain ⟨rfl, hq⟩ := hq
    obtain ⟨-, rfl⟩ := ca_n hq
    exact kx_X.out (fun _ hx => nomatch hx) ⟨by unfold s_event; rw [if_neg (fun w => Int32.not_lt.mpr w.1 g21)], by unfold s_event; rw [if_neg (fun w => Int32.not_lt.mpr w.1 g21)]⟩
  · refine kx_iload_n (pc := 4) d_EK_event_4 rfl ?_
    refine kx_iconst (pc := 5) (x := 4) d_EK_event_5 (by decide) ?_
    refine kx_icmp_gt (pc := 6) (tgt := 13) d_EK_event_6 (by decide) (fun g22 => ?_) (fun g22 => ?_)
    · refine kx_iconst (pc := 13) (x := 0) d_EK_event_13 (by decide) ?_
      refine kx_invS (pc := 14) (as := [.int _]) (st := []) (k := 4) (j := 24) d_EK_event_14 ws_EK_35 (k_checkArgument 0) rfl rfl (Nat.le_of_ble_eq_true rfl) (by decide) (Nat.le_of_ble_eq_true rfl) (fun rv n' h' hq => absurd rfl (ca_y hq.2).1) (fun X n' h' hq => ?_)
      obtain ⟨rfl, hq⟩ := hq
      obtain ⟨-, rfl⟩ := ca_n hq
      exact kx_X.out (fun _ hx => nomatch hx) ⟨by unfold s_event; rw [if_neg (fun w => Int32.not_lt.mpr w.2 g22)], by unfold s_event; rw [if_neg (fun w => Int32.not_lt.mpr w.2 g22)]⟩
    · have g2 : 0 ≤ x2 ∧ x2 ≤ 4 := ⟨Int32.not_lt.mp g21, Int32.not_lt.mp g22⟩
      refine kx_iconst (pc := 9) (x := 1) d_EK_event_9 (by decide) ?_
      refine kx_goto (pc := 10) (tgt := 14) d_EK_event_10 (by decide) ?_
      refine kx_invS (pc := 14) (as := [.int _]) (st := []) (k := 4) (j := 24) d_EK_event_14 ws_EK_35 (k_checkArgument 1) rfl rfl (Nat.le_of_ble_eq_true rfl) (by decide) (Nat.le_of_ble_eq_true rfl) (fun rv n' h' hq => ?_) (fun X n' h' hq => absurd (ca_n hq.2).1 (by decide))
      obtain ⟨rfl, hq⟩ := hq
      obtain ⟨-, rfl⟩ := ca_y hq
      refine kx_aload_n (pc := 17) d_EK_event_17 rfl ?_
      refine kx_iload_n (pc := 18) d_EK_event_18 rfl ?_
      refine kx_invV (pc := 19) (as := [.int _]) (st := []) (k := 3) (j := 18) d_EK_event_19 wv_EK_102 (wd_o rfl) (k_checkPlace (a := a) (b := b) x1 h1) rfl rfl (Nat.le_of_ble_eq_true rfl) (by decide) (Nat.le_of_ble_eq_true rfl) (fun rv n' h' hq => ?_) (fun X n' h' hq => ?_)
      rotate_left
      · obtain ⟨rfl, hq⟩ := hq
        obtain ⟨hbad, rfl⟩ := ck_n hq
        exact kx_X.out (fun _ hx => nomatch hx) ⟨by unfold s_event; rw [if_pos g2, if_neg hbad], by unfold s_event; rw [if_pos g2, if_neg hbad]⟩
      obtain ⟨rfl, hq⟩ := hq
      obtain ⟨g1, rfl⟩ := ck_y hq
      obtain ⟨q, hq9, rfl, nq⟩ := nI_get (by omega) g1
      have q5 : q < 500 := by omega
      refine kx_iload_n (pc := 22) d_EK_event_22 rfl ?_
      by_cases x0 : x2 = 0
      · refine kx_tsIn (pc := 23) (tgt := 52) d_EK_event_23 (by rw [x0]; decide) (by rw [x0]; decide) (by rw [x0]; rfl) (by decide) ?_
        refine kx_aload_n (pc := 52) d_EK_event_52 rfl ?_
        refine kw_getr (pc := 53) (r := 1) d_EK_event_53 fl_EK_10 rfl (by decide) rfl ?_
        refine kw_getr (pc := 56) (r := 2) d_EK_event_56 fl_EK_121 rfl (by decide) rfl ?_
        refine kx_iload_n (pc := 59) d_EK_event_59 rfl ?_
        refine ka_iald (pc := 60) d_EK_event_60 (by decide) rfl ⟨rfl, q5, by decide⟩ ?_
        exact kx_iret rfl d_EK_event_61 ⟨by unfold s_event; rw [if_pos g2, if_pos g1, nq, if_pos x0], by unfold s_event; rw [if_pos g2, if_pos g1, nq, if_pos x0]⟩
      by_cases x1' : x2 = 1
      · refine kx_tsIn (pc := 23) (tgt := 62) d_EK_event_23 (by rw [x1']; decide) (by rw [x1']; decide) (by rw [x1']; rfl) (by decide) ?_
        refine kx_aload_n (pc := 62) d_EK_event_62 rfl ?_
        refine kw_getr (pc := 63) (r := 1) d_EK_event_63 fl_EK_10 rfl (by decide) rfl ?_
        refine kw_getr (pc := 66) (r := 3) d_EK_event_66 fl_EK_124 rfl (by decide) rfl ?_
        refine kx_iload_n (pc := 69) d_EK_event_69 rfl ?_
        refine ka_iald (pc := 70) d_EK_event_70 (by decide) rfl ⟨rfl, q5, by decide⟩ ?_
        exact kx_iret rfl d_EK_event_71 ⟨by unfold s_event; rw [if_pos g2, if_pos g1, nq, if_neg x0, if_pos x1'], by unfold s_event; rw [if_pos g2, if_pos g1, nq, if_neg x0, if_pos x1']⟩
      by_cases x2' : x2 = 2
      · refine kx_tsIn (pc := 23) (tgt := 72) d_EK_event_23 (by rw [x2']; decide) (by rw [x2']; decide) (by rw [x2']; rfl) (by decide) ?_
        refine kx_aload_n (pc := 72) d_EK_event_72 rfl ?_
        refine kw_getr (pc := 73) (r := 1) d_EK_event_73 fl_EK_10 rfl (by decide) rfl ?_
        refine kw_getr (pc := 76) (r := 4) d_EK_event_76 fl_EK_127 rfl (by decide) rfl ?_
        refine kx_iload_n (pc := 79) d_EK_event_79 rfl ?_
        refine ka_iald (pc := 80) d_EK_event_80 (by decide) rfl ⟨rfl, q5, by decide⟩ ?_
        exact kx_iret rfl d_EK_event_81 ⟨by unfold s_event; rw [if_pos g2, if_pos g1, nq, if_neg x0, if_neg x1', if_pos x2'], by unfold s_event; rw [if_pos g2, if_pos g1, nq, if_neg x0, if_neg x1', if_pos x2']⟩
      by_cases x3' : x2 = 3
      · refine kx_tsIn (pc := 23) (tgt := 82) d_EK_event_23 (by rw [x3']; decide) (by rw [x3']; decide) (by rw [x3']; rfl) (by decide) ?_
        refine kx_aload_n (pc := 82) d_EK_event_82 rfl ?_
        refine kw_getr (pc := 83) (r := 1) d_EK_event_83 fl_EK_10 rfl (by decide) rfl ?_
        refine kw_getr (pc := 86) (r := 6) d_EK_event_86 fl_EK_130 rfl (by decide) rfl ?_
        refine kx_iload_n (pc := 89) d_EK_event_89 rfl ?_
        refine ka_iald (pc := 90) d_EK_event_90 (by decide) rfl ⟨rfl, q5, by decide⟩ ?_
        exact kx_iret rfl d_EK_event_91 ⟨by unfold s_event; rw [if_pos g2, if_pos g1, nq, if_neg x0, if_neg x1', if_neg x2', if_pos x3'], by unfold s_event; rw [if_pos g2, if_pos g1, nq, if_neg x0, if_neg x1', if_neg x2', if_pos x3']⟩
      have ho : x2.toInt < 0 ∨ 3 < x2.toInt := by
        have g : ∀ z : Int, x2.toInt = z → x2 = Int32.ofInt z := fun z hz => by rw [← hz, Int32.ofInt_toInt]
        rcases Int.lt_or_le x2.toInt 0 with w | w
        · exact Or.inl w
        · refine Or.inr ?_
          have n0 : x2.toInt ≠ 0 := fun e => x0 (g 0 e)
          have n1 : x2.toInt ≠ 1 := fun e => x1' (g 1 e)
          have n2 : x2.toInt ≠ 2 := fun e => x2' (g 2 e)
          have n3 : x2.toInt ≠ 3 := fun e => x3' (g 3 e)
          omega
      refine kx_tsOut (pc := 23) (tgt := 92) d_EK_event_23 ho (by decide) ?_
      refine kx_aload_n (pc := 92) d_EK_event_92 rfl ?_
      refine kw_getr (pc := 93) (r := 1) d_EK_event_93 fl_EK_10 rfl (by decide) rfl ?_
      refine kw_getr (pc := 96) (r := 7) d_EK_event_96 fl_EK_133 rfl (by decide) rfl ?_
      refine kx_iload_n (pc := 99) d_EK_event_99 rfl ?_
      refine ka_iald (pc := 100) d_EK_event_100 (by decide) rfl ⟨rfl, q5, by decide⟩ ?_
      exact kx_iret rfl d_EK_event_101 ⟨by unfold s_event; rw [if_pos g2, if_pos g1, nq, if_neg x0, if_neg x1', if_neg x2', if_neg x3'], by unfold s_event; rw [if_pos g2, if_pos g1, nq, if_neg x0, if_neg x1', if_neg x2', if_neg x3']⟩
def s_value (a : kW) (sz : Nat) (x1 : Int32) : (Option Value ⊕ String) × kW := if 0 ≤ x1 ∧ x1 < nI sz then (Sum.inl (some (.long (a.2.1 5 (nt x1)))), a) else (Sum.inr "java/lang/IndexOutOfBoundsException", a)
set_option maxHeartbeats 4000000 in
set_option maxRecDepth 100000 in
theorem k_value {E : kx_E} {n : Nat} {a b : kW} {sz : Nat} {x1 : Int32} (h1 : a.2.2 1 9 = nI sz) (h5 : sz ≤ 500) : kx_V E i_EK_value 8 5 30 (fun r _ h' => r = (s_value a sz x1).1 ∧ h' = wd (wx (s_value a sz x1).2 b)) 5 30 0 (lv_args 0 [.ref 0, .int x1]) [] n (wd (wx a b)) := by
  refine kx_aload_n (pc := 0) d_EK_value_0 rfl ?_
  refine kx_iload_n (pc := 1) d_EK_value_1 rfl ?_
  refine kx_invV (pc := 2) (as := [.int _]) (st := []) (k := 4) (j := 24) d_EK_value_2 wv_EK_102 (wd_o rfl) (k_checkPlace (a := a) (b := b) x1 h1) rfl rfl (Nat.le_of_ble_eq_true rfl) (by decide) (Nat.le_of_ble_eq_true rfl) (fun rv n' h' hq => ?_) (fun X n' h' hq => ?_)
  rotate_left
  · obtain ⟨rfl, hq⟩ := hq
    obtain ⟨hbad, rfl⟩ := ck_n hq
    exact kx_X.out (fun _ hx => nomatch hx) ⟨by unfold s_value; rw [if_neg hbad], by unfold s_value; rw [if_neg hbad]⟩
  obtain ⟨rfl, hq⟩ := hq
  obtain ⟨g1, rfl⟩ := ck_y hq
  obtain ⟨q, hq9, rfl, nq⟩ := nI_get (by omega) g1
  have q5 : q < 500 := by omega
  refine kx_aload_n (pc := 5) d_EK_value_5 rfl ?_
  refine kw_getr (pc := 6) (r := 1) d_EK_value_6 fl_EK_10 rfl (by decide) rfl ?_
  refine kw_getr (pc := 9) (r := 5) d_EK_value_9 fl_EK_136 rfl (by decide) rfl ?_
  refine kx_iload_n (pc := 12) d_EK_value_12 rfl ?_
  refine ka_lald (pc := 13) d_EK_value_13 (by decide) rfl ⟨rfl, q5, by decide⟩ ?_
  exact kx_lret rfl d_EK_value_14 ⟨by unfold s_value; rw [if_pos g1, nq], by unfold s_value; rw [if_pos g1, nq]⟩
def s_find (a : kW) (sz : Nat) (x1 x2 : Int32) : (Option Value ⊕ String) × kW := if 0 ≤ x1 ∧ x1 < 16 then if f_find a x1 x2 sz 0 = -1 then (Sum.inr "java/lang/IndexOutOfBoundsException", a) else (Sum.inl (some (.int (f_find a x1 x2 sz 0))), a) else (Sum.inr "java/lang/IllegalArgumentException", a)
set_option maxHeartbeats 4000000 in
set_option maxRecDepth 100000 in
theorem k_find {E : kx_E} {n : Nat} {a b : kW} {sz : Nat} {x1 x2 : Int32} (h1 : a.2.2 1 9 = nI sz) (h5 : sz ≤ 500) : kx_V E i_EK_find 8 5 30 (fun r _ h' => r = (s_find a sz x1 x2).1 ∧ h' = wd (wx (s_find a sz x1 x2).2 b)) 5 30 0 (lv_args 0 [.ref 0, .int x1, .int x2]) [] n (wd (wx a b)) := by
  refine kx_iload_n (pc := 0) d_EK_find_0 rfl ?_
  refine kx_invS (pc := 1) (as := [.int _]) (st := []) (k := 4) (j := 24) d_EK_find_1 ws_EK_32 (k_checkStream x1) rfl rfl (Nat.le_of_ble_eq_true rfl) (by decide) (Nat.le_of_ble_eq_true rfl) (fun rv n' h' hq => ?_) (fun X n' h' hq => ?_)
  rotate_left
  · obtain ⟨rfl, hq⟩ := hq
    obtain ⟨hbad, rfl⟩ := ck_n hq
    exact kx_X.out (fun _ hx => nomatch hx) ⟨by unfold s_find; rw [if_neg hbad], by unfold s_find; rw [if_neg hbad]⟩
  obtain ⟨rfl, hq⟩ := hq
  obtain ⟨g1, rfl⟩ := ck_y hq
  refine kx_aload_n (pc := 4) d_EK_find_4 rfl ?_
  refine kw_getr (pc := 5) (r := 1) d_EK_find_5 fl_EK_10 rfl (by decide) rfl ?_
  refine kx_iload_n (pc := 8) d_EK_find_8 rfl ?_
  refine kx_iload_n (pc := 9) d_EK_find_9 rfl ?_
  refine kx_invV (pc := 10) (as := [.int _, .int _]) (st := []) (k := 4) (j := 24) d_EK_find_10 wv_EK_139 (wd_o rfl) (k_placeOf (a := a) (b := b) h1 h5) rfl rfl (Nat.le_of_ble_eq_true rfl) (by decide) (Nat.le_of_ble_eq_true rfl) (fun rv n' h' hq => ?_) (fun X n' h' hq => nomatch hq.2)
  obtain ⟨rfl, hq⟩ := hq
  cases hq
  refine kx_istore_n (pc := 13) (lv' := [(3, _), (0, _), (1, _), (2, _)]) d_EK_find_13 rfl (by decide) rfl ?_
  refine kx_iload_n (pc := 14) d_EK_find_14 rfl ?_
  refine kx_iconst (pc := 15) (x := -1) d_EK_find_15 (by decide) ?_
  refine kx_icmp_ne (pc := 16) (tgt := 29) d_EK_find_16 (by decide) (fun hz => ?_) (fun hz => ?_)
  · refine kx_iload_n (pc := 29) d_EK_find_29 rfl ?_
    exact kx_iret rfl d_EK_find_30 ⟨by unfold s_find; rw [if_pos g1, if_neg hz], by unfold s_find; rw [if_pos g1, if_neg hz]⟩
  · exact kx_throw (pc := 19) (k := 3) (j := 18) (tx := "the stream has no such version") d_EK_find_19 d_EK_find_22 d_EK_find_23 d_EK_find_25 d_EK_find_28 tx_EK_57_61 (by decide +kernel) (fun _ hx => nomatch hx) (by decide) (Nat.le_of_ble_eq_true rfl) ⟨by unfold s_find; rw [if_pos g1, if_pos hz], by unfold s_find; rw [if_pos g1, if_pos hz]⟩
