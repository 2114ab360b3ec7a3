def m_filter (b : kW) (x1 x2 x3 : Int32) : kW := if 0 ≤ x1 ∧ x1 ≤ 7 then if -1 ≤ x2 ∧ x2 ≤ 15 then if 0 ≤ x3 ∧ x3 ≤ 255 then ui (ui (ui (ui (uo b 61 0 0) 74 (nt x1) x2) 75 (nt x1) x3) 76 (nt x1) 0) 77 (nt x1) 0 else g_err b 1 else g_err b 1 else g_err b 1
set_option maxHeartbeats 4000000 in
set_option maxRecDepth 100000 in
theorem k_mfilter {E : kx_E} {n : Nat} {a b : kW} {x1 x2 x3 : Int32} : kx_V E i_M_filter 3 0 0 (fun r _ h' => r = Sum.inl none ∧ h' = wd (wx a (m_filter b x1 x2 x3))) 0 0 0 (lv_args 0 [.ref 61, .int x1, .int x2, .int x3]) [] n (wd (wx a b)) := by
  refine kx_aload_n (pc := 0) d_M_filter_0 rfl ?_
  refine kx_iconst (pc := 1) (x := 0) d_M_filter_1 (by decide) ?_
  refine km_puti (pc := 2) d_M_filter_2 fl_M_59 fw_M_0 (by decide) rfl (by decide) rfl ?_
  refine kx_aload_n (pc := 5) d_M_filter_5 rfl ?_
  refine kx_iload_n (pc := 6) d_M_filter_6 rfl ?_
  refine kx_invS (pc := 7) (as := [.int _]) (st := _) (k := 0) (j := 0) d_M_filter_7 ws_M_96 k_isSubscription rfl rfl (Nat.le_of_ble_eq_true rfl) (by decide) (Nat.le_of_ble_eq_true rfl) (fun rv n' h' hq => ?_) (fun X n' h' hq => nomatch hq.2)
  obtain ⟨rfl, hq⟩ := hq
  cases hq
  refine kx_if_eq (pc := 10) (tgt := 34) d_M_filter_10 (by decide) (fun w1 => ?_) (fun w1 => ?_)
  · have g1 := oz.mp w1
    refine kx_iconst (pc := 34) (x := 1) d_M_filter_34 (by decide) ?_
    refine kx_goto (pc := 35) (tgt := 39) d_M_filter_35 (by decide) ?_
    refine kx_iconst (pc := 39) (x := 1) d_M_filter_39 (by decide) ?_
    refine kx_invV (pc := 40) (as := [.int _, .int _]) (st := []) (k := 0) (j := 0) d_M_filter_40 wv_M_70 (wd_o rfl) (k_fails1 (a := a) (b := (uo b 61 0 0)) uo_s (by decide)) rfl rfl (Nat.le_of_ble_eq_true rfl) (by decide) (Nat.le_of_ble_eq_true rfl) (fun rv n' h' hq => ?_) (fun X n' h' hq => nomatch hq.2)
    obtain ⟨rfl, hq⟩ := hq
    cases hq
    refine kx_if_eq (pc := 43) (tgt := 47) d_M_filter_43 (by decide) (fun hz => absurd hz (by decide)) (fun _ => ?_)
    exact kx_vret rfl d_M_filter_46 ⟨rfl, by unfold m_filter; rw [if_neg g1]; try rfl⟩
  · have g1 := oy w1
    refine kx_iload_n (pc := 13) d_M_filter_13 rfl ?_
    refine kx_iconst (pc := 14) (x := -1) d_M_filter_14 (by decide) ?_
    refine kx_bipush (pc := 15) (x := 15) d_M_filter_15 (by decide) ?_
    refine kx_invS (pc := 17) (as := [.int _, .int _, .int _]) (st := _) (k := 0) (j := 0) d_M_filter_17 ws_M_66 k_in rfl rfl (Nat.le_of_ble_eq_true rfl) (by decide) (Nat.le_of_ble_eq_true rfl) (fun rv n' h' hq => ?_) (fun X n' h' hq => nomatch hq.2)
    obtain ⟨rfl, hq⟩ := hq
    cases hq
    refine kx_if_eq (pc := 20) (tgt := 34) d_M_filter_20 (by decide) (fun w2 => ?_) (fun w2 => ?_)
    · have g2 := oz.mp w2
      refine kx_iconst (pc := 34) (x := 1) d_M_filter_34 (by decide) ?_
      refine kx_goto (pc := 35) (tgt := 39) d_M_filter_35 (by decide) ?_
      refine kx_iconst (pc := 39) (x := 1) d_M_filter_39 (by decide) ?_
      refine kx_invV (pc := 40) (as := [.int _, .int _]) (st := []) (k := 0) (j := 0) d_M_filter_40 wv_M_70 (wd_o rfl) (k_fails1 (a := a) (b := (uo b 61 0 0)) uo_s (by decide)) rfl rfl (Nat.le_of_ble_eq_true rfl) (by decide) (Nat.le_of_ble_eq_true rfl) (fun rv n' h' hq => ?_) (fun X n' h' hq => nomatch hq.2)
      obtain ⟨rfl, hq⟩ := hq
      cases hq
      refine kx_if_eq (pc := 43) (tgt := 47) d_M_filter_43 (by decide) (fun hz => absurd hz (by decide)) (fun _ => ?_)
      exact kx_vret rfl d_M_filter_46 ⟨rfl, by unfold m_filter; rw [if_pos g1, if_neg g2]; try rfl⟩
    · have g2 := oy w2
      refine kx_iload_n (pc := 23) d_M_filter_23 rfl ?_
      refine kx_iconst (pc := 24) (x := 0) d_M_filter_24 (by decide) ?_
      refine kx_sipush (pc := 25) (x := 255) d_M_filter_25 (by decide) ?_
      refine kx_invS (pc := 28) (as := [.int _, .int _, .int _]) (st := _) (k := 0) (j := 0) d_M_filter_28 ws_M_66 k_in rfl rfl (Nat.le_of_ble_eq_true rfl) (by decide) (Nat.le_of_ble_eq_true rfl) (fun rv n' h' hq => ?_) (fun X n' h' hq => nomatch hq.2)
      obtain ⟨rfl, hq⟩ := hq
      cases hq
      refine kx_if_ne (pc := 31) (tgt := 38) d_M_filter_31 (by decide) (fun w4 => ?_) (fun w4 => ?_)
      · have g3 := oy w4
        obtain ⟨p, hp8, rfl, np⟩ := nI_gl (N := 7) (by decide) g1
        have hp : p < 8 := by omega
        refine kx_iconst (pc := 38) (x := 0) d_M_filter_38 (by decide) ?_
        refine kx_iconst (pc := 39) (x := 1) d_M_filter_39 (by decide) ?_
        refine kx_invV (pc := 40) (as := [.int _, .int _]) (st := []) (k := 0) (j := 0) d_M_filter_40 wv_M_70 (wd_o rfl) (k_fails0 (a := a) (b := (uo b 61 0 0)) uo_s) rfl rfl (Nat.le_of_ble_eq_true rfl) (by decide) (Nat.le_of_ble_eq_true rfl) (fun rv n' h' hq => ?_) (fun X n' h' hq => nomatch hq.2)
        obtain ⟨rfl, hq⟩ := hq
        cases hq
        refine kx_if_eq (pc := 43) (tgt := 47) d_M_filter_43 (by decide) (fun _ => ?_) (fun hz => absurd rfl hz)
        refine kx_aload_n (pc := 47) d_M_filter_47 rfl ?_
        refine kw_getr (pc := 48) (r := 74) d_M_filter_48 fl_M_47 rfl (by decide) rfl ?_
        refine kx_iload_n (pc := 51) d_M_filter_51 rfl ?_
        refine kx_iload_n (pc := 52) d_M_filter_52 rfl ?_
        refine km_iast (pc := 53) d_M_filter_53 (by decide) rfl ⟨rfl, hp, by decide⟩ ?_
        refine kx_aload_n (pc := 54) d_M_filter_54 rfl ?_
        refine kw_getr (pc := 55) (r := 75) d_M_filter_55 fl_M_50 rfl (by decide) rfl ?_
        refine kx_iload_n (pc := 58) d_M_filter_58 rfl ?_
        refine kx_iload_n (pc := 59) d_M_filter_59 rfl ?_
        refine km_iast (pc := 60) d_M_filter_60 (by decide) rfl ⟨rfl, hp, by decide⟩ ?_
        refine kx_aload_n (pc := 61) d_M_filter_61 rfl ?_
        refine kw_getr (pc := 62) (r := 76) d_M_filter_62 fl_M_53 rfl (by decide) rfl ?_
        refine kx_iload_n (pc := 65) d_M_filter_65 rfl ?_
        refine kx_iconst (pc := 66) (x := 0) d_M_filter_66 (by decide) ?_
        refine km_iast (pc := 67) d_M_filter_67 (by decide) rfl ⟨rfl, hp, by decide⟩ ?_
        refine kx_aload_n (pc := 68) d_M_filter_68 rfl ?_
        refine kw_getr (pc := 69) (r := 77) d_M_filter_69 fl_M_56 rfl (by decide) rfl ?_
        refine kx_iload_n (pc := 72) d_M_filter_72 rfl ?_
        refine kx_iconst (pc := 73) (x := 0) d_M_filter_73 (by decide) ?_
        refine km_iast (pc := 74) d_M_filter_74 (by decide) rfl ⟨rfl, hp, by decide⟩ ?_
        exact kx_vret rfl d_M_filter_75 ⟨rfl, by unfold m_filter; rw [if_pos g1, if_pos g2, if_pos g3, np]; try rfl⟩
      · have g3 := oz.mp w4
        refine kx_iconst (pc := 34) (x := 1) d_M_filter_34 (by decide) ?_
        refine kx_goto (pc := 35) (tgt := 39) d_M_filter_35 (by decide) ?_
        refine kx_iconst (pc := 39) (x := 1) d_M_filter_39 (by decide) ?_
        refine kx_invV (pc := 40) (as := [.int _, .int _]) (st := []) (k := 0) (j := 0) d_M_filter_40 wv_M_70 (wd_o rfl) (k_fails1 (a := a) (b := (uo b 61 0 0)) uo_s (by decide)) rfl rfl (Nat.le_of_ble_eq_true rfl) (by decide) (Nat.le_of_ble_eq_true rfl) (fun rv n' h' hq => ?_) (fun X n' h' hq => nomatch hq.2)
        obtain ⟨rfl, hq⟩ := hq
        cases hq
        refine kx_if_eq (pc := 43) (tgt := 47) d_M_filter_43 (by decide) (fun hz => absurd hz (by decide)) (fun _ => ?_)
        exact kx_vret rfl d_M_filter_46 ⟨rfl, by unfold m_filter; rw [if_pos g1, if_pos g2, if_neg g3]; try rfl⟩
def m_ack (b : kW) (ev : Nat) (x1 x2 : Int32) : Int32 × kW := if 0 ≤ x1 ∧ x1 ≤ 7 then if 0 ≤ x2 ∧ x2 ≤ nI ev - 1 then (if x2 + 1 ≤ b.1 76 (nt x1) then (b.1 76 (nt x1), (uo b 61 0 0)) else (x2 + 1, ui (uo b 61 0 0) 76 (nt x1) (x2 + 1))) else (0, g_err b 2) else (0, g_err b 1)
set_option maxHeartbeats 4000000 in
set_option maxRecDepth 100000 in
theorem k_mack {E : kx_E} {n : Nat} {a b : kW} {ev : Nat} {x1 x2 : Int32} (h1 : b.2.2 61 1 = nI ev) : kx_V E i_M_acknowledge 3 0 0 (fun r _ h' => r = Sum.inl (some (.int (m_ack b ev x1 x2).1)) ∧ h' = wd (wx a (m_ack b ev x1 x2).2)) 0 0 0 (lv_args 0 [.ref 61, .int x1, .int x2]) [] n (wd (wx a b)) := by
  refine kx_aload_n (pc := 0) d_M_acknowledge_0 rfl ?_
  refine kx_iconst (pc := 1) (x := 0) d_M_acknowledge_1 (by decide) ?_
  refine km_puti (pc := 2) d_M_acknowledge_2 fl_M_59 fw_M_0 (by decide) rfl (by decide) rfl ?_
  refine kx_aload_n (pc := 5) d_M_acknowledge_5 rfl ?_
  refine kx_iload_n (pc := 6) d_M_acknowledge_6 rfl ?_
  refine kx_invS (pc := 7) (as := [.int _]) (st := _) (k := 0) (j := 0) d_M_acknowledge_7 ws_M_96 k_isSubscription rfl rfl (Nat.le_of_ble_eq_true rfl) (by decide) (Nat.le_of_ble_eq_true rfl) (fun rv n' h' hq => ?_) (fun X n' h' hq => nomatch hq.2)
  obtain ⟨rfl, hq⟩ := hq
  cases hq
  refine kx_if_ne (pc := 10) (tgt := 17) d_M_acknowledge_10 (by decide) (fun w1 => ?_) (fun w1 => ?_)
  · have g1 := oy w1
    obtain ⟨p, hp8, rfl, np⟩ := nI_gl (N := 7) (by decide) g1
    have hp : p < 8 := by omega
    refine kx_iconst (pc := 17) (x := 0) d_M_acknowledge_17 (by decide) ?_
    refine kx_iconst (pc := 18) (x := 1) d_M_acknowledge_18 (by decide) ?_
    refine kx_invV (pc := 19) (as := [.int _, .int _]) (st := []) (k := 0) (j := 0) d_M_acknowledge_19 wv_M_70 (wd_o rfl) (k_fails0 (a := a) (b := (uo b 61 0 0)) uo_s) rfl rfl (Nat.le_of_ble_eq_true rfl) (by decide) (Nat.le_of_ble_eq_true rfl) (fun rv n' h' hq => ?_) (fun X n' h' hq => nomatch hq.2)
    obtain ⟨rfl, hq⟩ := hq
    cases hq
    refine kx_if_ne (pc := 22) (tgt := 52) d_M_acknowledge_22 (by decide) (fun hz => absurd hz (fun w => w rfl)) (fun _ => ?_)
    refine kx_aload_n (pc := 25) d_M_acknowledge_25 rfl ?_
    refine kx_iload_n (pc := 26) d_M_acknowledge_26 rfl ?_
    refine kx_iconst (pc := 27) (x := 0) d_M_acknowledge_27 (by decide) ?_
    refine kx_aload_n (pc := 28) d_M_acknowledge_28 rfl ?_
    refine km_geti (pc := 29) d_M_acknowledge_29 fl_M_63 (by decide) rfl (by decide) rfl ?_
    refine kx_eqi (show _ = nI ev from h1) ?_
    refine kx_iconst (pc := 32) (x := 1) d_M_acknowledge_32 (by decide) ?_
    refine kx_isub (pc := 33) d_M_acknowledge_33 ?_
    refine kx_invS (pc := 34) (as := [.int _, .int _, .int _]) (st := _) (k := 0) (j := 0) d_M_acknowledge_34 ws_M_66 k_in rfl rfl (Nat.le_of_ble_eq_true rfl) (by decide) (Nat.le_of_ble_eq_true rfl) (fun rv n' h' hq => ?_) (fun X n' h' hq => nomatch hq.2)
    obtain ⟨rfl, hq⟩ := hq
    cases hq
    refine kx_if_ne (pc := 37) (tgt := 44) d_M_acknowledge_37 (by decide) (fun w2 => ?_) (fun w2 => ?_)
    · have g2 := oy w2
      refine kx_iconst (pc := 44) (x := 0) d_M_acknowledge_44 (by decide) ?_
      refine kx_iconst (pc := 45) (x := 2) d_M_acknowledge_45 (by decide) ?_
      refine kx_invV (pc := 46) (as := [.int _, .int _]) (st := []) (k := 0) (j := 0) d_M_acknowledge_46 wv_M_70 (wd_o rfl) (k_fails0 (a := a) (b := (uo b 61 0 0)) uo_s) rfl rfl (Nat.le_of_ble_eq_true rfl) (by decide) (Nat.le_of_ble_eq_true rfl) (fun rv n' h' hq => ?_) (fun X n' h' hq => nomatch hq.2)
      obtain ⟨rfl, hq⟩ := hq
      cases hq
      refine kx_if_eq (pc := 49) (tgt := 54) d_M_acknowledge_49 (by decide) (fun _ => ?_) (fun hz => absurd rfl hz)
      refine kx_iload_n (pc := 54) d_M_acknowledge_54 rfl ?_
      refine kx_iconst (pc := 55) (x := 1) d_M_acknowledge_55 (by decide) ?_
      refine kx_iadd (pc := 56) d_M_acknowledge_56 ?_
      refine kx_aload_n (pc := 57) d_M_acknowledge_57 rfl ?_
      refine kw_getr (pc := 58) (r := 76) d_M_acknowledge_58 fl_M_53 rfl (by decide) rfl ?_
      refine kx_iload_n (pc := 61) d_M_acknowledge_61 rfl ?_
      refine km_iald (pc := 62) d_M_acknowledge_62 (by decide) rfl ⟨rfl, hp, by decide⟩ ?_
      refine kx_icmp_le (pc := 63) (tgt := 75) d_M_acknowledge_63 (by decide) (fun w5 => ?_) (fun w5 => ?_)
      · refine kx_aload_n (pc := 75) d_M_acknowledge_75 rfl ?_
        refine kw_getr (pc := 76) (r := 76) d_M_acknowledge_76 fl_M_53 rfl (by decide) rfl ?_
        refine kx_iload_n (pc := 79) d_M_acknowledge_79 rfl ?_
        refine km_iald (pc := 80) d_M_acknowledge_80 (by decide) rfl ⟨rfl, hp, by decide⟩ ?_
        exact kx_iret rfl d_M_acknowledge_81 ⟨by unfold m_ack; rw [if_pos g1, if_pos g2, np, if_pos (show x2 + 1 ≤ b.1 76 p from w5)]; try rfl, by unfold m_ack; rw [if_pos g1, if_pos g2, np, if_pos (show x2 + 1 ≤ b.1 76 p from w5)]; try rfl⟩
      · refine kx_aload_n (pc := 66) d_M_acknowledge_66 rfl ?_
        refine kw_getr (pc := 67) (r := 76) d_M_acknowledge_67 fl_M_53 rfl (by decide) rfl ?_
        refine kx_iload_n (pc := 70) d_M_acknowledge_70 rfl ?_
        refine kx_iload_n (pc := 71) d_M_acknowledge_71 rfl ?_
        refine kx_iconst (pc := 72) (x := 1) d_M_acknowledge_72 (by decide) ?_
        refine kx_iadd (pc := 73) d_M_acknowledge_73 ?_
        refine km_iast (pc := 74) d_M_acknowledge_74 (by decide) rfl ⟨rfl, hp, by decide⟩ ?_
        refine kx_aload_n (pc := 75) d_M_acknowledge_75 rfl ?_
        refine kw_getr (pc := 76) (r := 76) d_M_acknowledge_76 fl_M_53 rfl (by decide) rfl ?_
        refine kx_iload_n (pc := 79) d_M_acknowledge_79 rfl ?_
        refine km_iald (pc := 80) d_M_acknowledge_80 (by decide) rfl ⟨rfl, hp, by decide⟩ ?_
        refine kx_eqi ui_s ?_
        exact kx_iret rfl d_M_acknowledge_81 ⟨by unfold m_ack; rw [if_pos g1, if_pos g2, np, if_neg (show ¬ x2 + 1 ≤ b.1 76 p from w5)]; try rfl, by unfold m_ack; rw [if_pos g1, if_pos g2, np, if_neg (show ¬ x2 + 1 ≤ b.1 76 p from w5)]; try rfl⟩
    · have g2 := oz.mp w2
      refine kx_iconst (pc := 40) (x := 1) d_M_acknowledge_40 (by decide) ?_
      refine kx_goto (pc := 41) (tgt := 45) d_M_acknowledge_41 (by decide) ?_
      refine kx_iconst (pc := 45) (x := 2) d_M_acknowledge_45 (by decide) ?_
      refine kx_invV (pc := 46) (as := [.int _, .int _]) (st := []) (k := 0) (j := 0) d_M_acknowledge_46 wv_M_70 (wd_o rfl) (k_fails1 (a := a) (b := (uo b 61 0 0)) uo_s (by decide)) rfl rfl (Nat.le_of_ble_eq_true rfl) (by decide) (Nat.le_of_ble_eq_true rfl) (fun rv n' h' hq => ?_) (fun X n' h' hq => nomatch hq.2)
      obtain ⟨rfl, hq⟩ := hq
      cases hq
      refine kx_if_eq (pc := 49) (tgt := 54) d_M_acknowledge_49 (by decide) (fun hz => absurd hz (by decide)) (fun _ => ?_)
      refine kx_iconst (pc := 52) (x := 0) d_M_acknowledge_52 (by decide) ?_
      exact kx_iret rfl d_M_acknowledge_53 ⟨by unfold m_ack; rw [if_pos g1, if_neg g2]; try rfl, by unfold m_ack; rw [if_pos g1, if_neg g2]; try rfl⟩
  · have g1 := oz.mp w1
    refine kx_iconst (pc := 13) (x := 1) d_M_acknowledge_13 (by decide) ?_
    refine kx_goto (pc := 14) (tgt := 18) d_M_acknowledge_14 (by decide) ?_
    refine kx_iconst (pc := 18) (x := 1) d_M_acknowledge_18 (by decide) ?_
    refine kx_invV (pc := 19) (as := [.int _, .int _]) (st := []) (k := 0) (j := 0) d_M_acknowledge_19 wv_M_70 (wd_o rfl) (k_fails1 (a := a) (b := (uo b 61 0 0)) uo_s (by decide)) rfl rfl (Nat.le_of_ble_eq_true rfl) (by decide) (Nat.le_of_ble_eq_true rfl) (fun rv n' h' hq => ?_) (fun X n' h' hq => nomatch hq.2)
    obtain ⟨rfl, hq⟩ := hq
    cases hq
    refine kx_if_ne (pc := 22) (tgt := 52) d_M_acknowledge_22 (by decide) (fun _ => ?_) (fun hz => absurd hz (by decide))
    refine kx_iconst (pc := 52) (x := 0) d_M_acknowledge_52 (by decide) ?_
    exact kx_iret rfl d_M_acknowledge_53 ⟨by unfold m_ack; rw [if_neg g1]; try rfl, by unfold m_ack; rw [if_neg g1]; try rfl⟩
def g_syncL : Nat → Nat → kW → kW
  | 0, _, b => b
  | m + 1, u, b => g_syncL m (u + 1) (ui b 77 u (b.1 76 u))
def m_sync (b : kW) : kW := g_syncL 8 0 (uo (uo b 61 0 0) 61 2 (b.2.2 61 1))
set_option maxHeartbeats 4000000 in
set_option maxRecDepth 100000 in
theorem k_msync_loop {E : kx_E} {n : Nat} {a : kW} {x : Int32} (m : Nat) : ∀ (i : Nat) (b : kW), i + m = 8 → b.2.2 61 1 = x → ∀ {Q : kx_Q}, Q (Sum.inl (some (.int x))) n (wd (wx a (g_syncL m i b))) → kx_V E i_M_sync 1 0 0 Q 0 0 15 [(1, .int (nI i)), (0, .ref 61)] [] n (wd (wx a b)) := by
  induction m with
  | zero =>
    intro i b hm hx Q hQ
    have h8 : i = 8 := by omega
    subst h8
    refine kx_iload_n (pc := 15) d_M_sync_15 rfl ?_
    refine kx_bipush (pc := 16) (x := 8) d_M_sync_16 (by decide) ?_
    refine kx_eqi (show (8 : Int32) = nI 8 from rfl) ?_
    refine kx_icmp_ge (pc := 18) (tgt := 39) d_M_sync_18 (by decide) (fun _ => ?_) (fun hz => absurd (nI_le (Nat.le_refl 8) (by omega)) hz)
    refine kx_aload_n (pc := 39) d_M_sync_39 rfl ?_
    refine km_geti (pc := 40) d_M_sync_40 fl_M_63 (by decide) rfl (by decide) rfl ?_
    refine kx_eqi hx ?_
    exact kx_iret rfl d_M_sync_43 hQ
  | succ m ih =>
    intro i b hm hx Q hQ
    have hlt : i < 8 := by omega
    refine kx_iload_n (pc := 15) d_M_sync_15 rfl ?_
    refine kx_bipush (pc := 16) (x := 8) d_M_sync_16 (by decide) ?_
    refine kx_eqi (show (8 : Int32) = nI 8 from rfl) ?_
    refine kx_icmp_ge (pc := 18) (tgt := 39) d_M_sync_18 (by decide) (fun hz => absurd hz (nI_ge hlt (by omega))) (fun _ => ?_)
    refine kx_aload_n (pc := 21) d_M_sync_21 rfl ?_
    refine kw_getr (pc := 22) (r := 77) d_M_sync_22 fl_M_56 rfl (by decide) rfl ?_
    refine kx_iload_n (pc := 25) d_M_sync_25 rfl ?_
    refine kx_aload_n (pc := 26) d_M_sync_26 rfl ?_
    refine kw_getr (pc := 27) (r := 76) d_M_sync_27 fl_M_53 rfl (by decide) rfl ?_
    refine kx_iload_n (pc := 30) d_M_sync_30 rfl ?_
    refine km_iald (pc := 31) d_M_sync_31 (by decide) rfl ⟨rfl, hlt, by decide⟩ ?_
    refine km_iast (pc := 32) d_M_sync_32 (by decide) rfl ⟨rfl, hlt, by decide⟩ ?_
    refine kx_iinc (pc := 33) (y := nI (i + 1)) (lv' := [(1, _), (0, _)]) d_M_sync_33 rfl (nI_1 i) (by decide) rfl ?_
    refine kx_goto (pc := 36) (tgt := 15) d_M_sync_36 (by decide) ?_
    exact ih (i + 1) (ui b 77 i (b.1 76 i)) (by omega) hx hQ
set_option maxHeartbeats 4000000 in
set_option maxRecDepth 100000 in
theorem k_msync {E : kx_E} {n : Nat} {a b : kW} : kx_V E i_M_sync 1 0 0 (fun r _ h' => h' = wd (wx a (m_sync b)) ∧ r = Sum.inl (some (.int (b.2.2 61 1)))) 0 0 0 (lv_args 0 [.ref 61]) [] n (wd (wx a b)) := by
  refine kx_aload_n (pc := 0) d_M_sync_0 rfl ?_
  refine kx_iconst (pc := 1) (x := 0) d_M_sync_1 (by decide) ?_
  refine km_puti (pc := 2) d_M_sync_2 fl_M_59 fw_M_0 (by decide) rfl (by decide) rfl ?_
  refine kx_aload_n (pc := 5) d_M_sync_5 rfl ?_
  refine kx_aload_n (pc := 6) d_M_sync_6 rfl ?_
  refine km_geti (pc := 7) d_M_sync_7 fl_M_63 (by decide) rfl (by decide) rfl ?_
  refine km_puti (pc := 10) d_M_sync_10 fl_M_99 fw_M_2 (by decide) rfl (by decide) rfl ?_
  refine kx_iconst (pc := 13) (x := 0) d_M_sync_13 (by decide) ?_
  refine kx_eqi (show (0 : Int32) = nI 0 from rfl) ?_
  refine kx_istore_n (pc := 14) (lv' := [(1, _), (0, _)]) d_M_sync_14 rfl (by decide) rfl ?_
  exact k_msync_loop 8 0 (uo (uo b 61 0 0) 61 2 (b.2.2 61 1)) rfl rfl ⟨rfl, rfl⟩
set_option maxHeartbeats 4000000 in
set_option maxRecDepth 100000 in
theorem k_isNone {E : kx_E} {n : Nat} {a b : kW} {ev : Nat} {x : Int32} (h1 : b.2.2 61 1 = nI ev) : kx_V E i_M_isNone 2 0 0 (fun r _ h' => h' = wd (wx a b) ∧ r = Sum.inl (some (.int (if 0 ≤ x ∧ x ≤ nI ev - 1 then 0 else 1)))) 0 0 0 (lv_args 0 [.ref 61, .int x]) [] n (wd (wx a b)) := by
  refine kx_iload_n (pc := 0) d_M_isNone_0 rfl ?_
  refine kx_iconst (pc := 1) (x := 0) d_M_isNone_1 (by decide) ?_
  refine kx_aload_n (pc := 2) d_M_isNone_2 rfl ?_
  refine km_geti (pc := 3) d_M_isNone_3 fl_M_63 (by decide) rfl (by decide) rfl ?_
  refine kx_eqi (show _ = nI ev from h1) ?_
  refine kx_iconst (pc := 6) (x := 1) d_M_isNone_6 (by decide) ?_
  refine kx_isub (pc := 7) d_M_isNone_7 ?_
  refine kx_invS (pc := 8) (as := [.int _, .int _, .int _]) (st := _) (k := 0) (j := 0) d_M_isNone_8 ws_M_66 k_in rfl rfl (Nat.le_of_ble_eq_true rfl) (by decide) (Nat.le_of_ble_eq_true rfl) (fun rv n' h' hq => ?_) (fun X n' h' hq => nomatch hq.2)
  obtain ⟨rfl, hq⟩ := hq
  cases hq
  refine kx_if_ne (pc := 11) (tgt := 18) d_M_isNone_11 (by decide) (fun w1 => ?_) (fun w1 => ?_)
  · refine kx_iconst (pc := 18) (x := 0) d_M_isNone_18 (by decide) ?_
    exact kx_zret rfl rfl d_M_isNone_19 ⟨rfl, by rw [if_pos (oy w1)]⟩
  · refine kx_iconst (pc := 14) (x := 1) d_M_isNone_14 (by decide) ?_
    refine kx_goto (pc := 15) (tgt := 19) d_M_isNone_15 (by decide) ?_
    exact kx_zret rfl rfl d_M_isNone_19 ⟨rfl, by rw [if_neg (oz.mp w1)]⟩
def m_event (b : kW) (ev : Nat) (x1 x2 : Int32) : Int32 × kW := if 0 ≤ x2 ∧ x2 ≤ 4 then if 0 ≤ x1 ∧ x1 ≤ nI ev - 1 then ((if x2 = 0 then b.1 62 (nt x1) else if x2 = 1 then nI (cn (b.1 62) (b.1 62 (nt x1)) (nt x1)) else if x2 = 2 then b.1 63 (nt x1) else if x2 = 3 then b.1 64 (nt x1) else b.1 65 (nt x1)), (uo b 61 0 0)) else (0, g_err b 2) else (0, g_err b 1)
def m_value (b : kW) (ev : Nat) (x1 : Int32) : Int64 × kW := if 0 ≤ x1 ∧ x1 ≤ nI ev - 1 then (b.2.1 66 (nt x1), (uo b 61 0 0)) else (0, g_err b 1)
set_option maxHeartbeats 4000000 in
set_option maxRecDepth 100000 in
theorem k_mevent {E : kx_E} {n : Nat} {a b : kW} {ev : Nat} {x1 x2 : Int32} (h1 : b.2.2 61 1 = nI ev) (h5 : ev ≤ 500) : kx_V E i_M_event 3 0 0 (fun r _ h' => r = Sum.inl (some (.int (m_event b ev x1 x2).1)) ∧ h' = wd (wx a (m_event b ev x1 x2).2)) 0 0 0 (lv_args 0 [.ref 61, .int x1, .int x2]) [] n (wd (wx a b)) := by
  refine kx_aload_n (pc := 0) d_M_event_0 rfl ?_
  refine kx_iconst (pc := 1) (x := 0) d_M_event_1 (by decide) ?_
  refine km_puti (pc := 2) d_M_event_2 fl_M_59 fw_M_0 (by decide) rfl (by decide) rfl ?_
  refine kx_aload_n (pc := 5) d_M_event_5 rfl ?_
  refine kx_iload_n (pc := 6) d_M_event_6 rfl ?_
  refine kx_iconst (pc := 7) (x := 0) d_M_event_7 (by decide) ?_
  refine kx_iconst (pc := 8) (x := 4) d_M_event_8 (by decide) ?_
  refine kx_invS (pc := 9) (as := [.int _, .int _, .int _]) (st := _) (k := 0) (j := 0) d_M_event_9 ws_M_66 k_in rfl rfl (Nat.le_of_ble_eq_true rfl) (by decide) (Nat.le_of_ble_eq_true rfl) (fun rv n' h' hq => ?_) (fun X n' h' hq => nomatch hq.2)
  obtain ⟨rfl, hq⟩ := hq
  cases hq
  refine kx_if_ne (pc := 12) (tgt := 19) d_M_event_12 (by decide) (fun w1 => ?_) (fun w1 => ?_)
  · have g2 := oy w1
    refine kx_iconst (pc := 19) (x := 0) d_M_event_19 (by decide) ?_
    refine kx_iconst (pc := 20) (x := 1) d_M_event_20 (by decide) ?_
    refine kx_invV (pc := 21) (as := [.int _, .int _]) (st := []) (k := 0) (j := 0) d_M_event_21 wv_M_70 (wd_o rfl) (k_fails0 (a := a) (b := (uo b 61 0 0)) uo_s) rfl rfl (Nat.le_of_ble_eq_true rfl) (by decide) (Nat.le_of_ble_eq_true rfl) (fun rv n' h' hq => ?_) (fun X n' h' hq => nomatch hq.2)
    obtain ⟨rfl, hq⟩ := hq
    cases hq
    refine kx_if_ne (pc := 24) (tgt := 40) d_M_event_24 (by decide) (fun hz => absurd hz (fun w => w rfl)) (fun _ => ?_)
    refine kx_aload_n (pc := 27) d_M_event_27 rfl ?_
    refine kx_aload_n (pc := 28) d_M_event_28 rfl ?_
    refine kx_iload_n (pc := 29) d_M_event_29 rfl ?_
    refine kx_invV (pc := 30) (as := [.int _]) (st := _) (k := 0) (j := 0) d_M_event_30 wv_M_102 (wd_o rfl) (k_isNone (a := a) (b := (uo b 61 0 0)) (ev := ev) h1) rfl rfl (Nat.le_of_ble_eq_true rfl) (by decide) (Nat.le_of_ble_eq_true rfl) (fun rv n' h' hq => ?_) (fun X n' h' hq => nomatch hq.2)
    obtain ⟨rfl, hq⟩ := hq
    cases hq
    by_cases g1 : 0 ≤ x1 ∧ x1 ≤ nI ev - 1
    rotate_left
    · rw [if_neg g1]
      refine kx_iconst (pc := 33) (x := 2) d_M_event_33 (by decide) ?_
      refine kx_invV (pc := 34) (as := [.int _, .int _]) (st := []) (k := 0) (j := 0) d_M_event_34 wv_M_70 (wd_o rfl) (k_fails1 (a := a) (b := (uo b 61 0 0)) uo_s (by decide)) rfl rfl (Nat.le_of_ble_eq_true rfl) (by decide) (Nat.le_of_ble_eq_true rfl) (fun rv n' h' hq => ?_) (fun X n' h' hq => nomatch hq.2)
      obtain ⟨rfl, hq⟩ := hq
      cases hq
      refine kx_if_eq (pc := 37) (tgt := 42) d_M_event_37 (by decide) (fun hz => absurd hz (by decide)) (fun _ => ?_)
      refine kx_iconst (pc := 40) (x := 0) d_M_event_40 (by decide) ?_
      exact kx_iret rfl d_M_event_41 ⟨by unfold m_event; rw [if_pos g2, if_neg g1]; try rfl, by unfold m_event; rw [if_pos g2, if_neg g1]; try rfl⟩
    rw [if_pos g1]
    obtain ⟨q, hq9, rfl, nq⟩ := nI_lt1 (by omega) g1
    have q5 : q < 500 := by omega
    refine kx_iconst (pc := 33) (x := 2) d_M_event_33 (by decide) ?_
    refine kx_invV (pc := 34) (as := [.int _, .int _]) (st := []) (k := 0) (j := 0) d_M_event_34 wv_M_70 (wd_o rfl) (k_fails0 (a := a) (b := (uo b 61 0 0)) uo_s) rfl rfl (Nat.le_of_ble_eq_true rfl) (by decide) (Nat.le_of_ble_eq_true rfl) (fun rv n' h' hq => ?_) (fun X n' h' hq => nomatch hq.2)
    obtain ⟨rfl, hq⟩ := hq
    cases hq
    refine kx_if_eq (pc := 37) (tgt := 42) d_M_event_37 (by decide) (fun _ => ?_) (fun hz => absurd rfl hz)
    refine kx_iload_n (pc := 42) d_M_event_42 rfl ?_
    refine kx_if_ne (pc := 43) (tgt := 55) d_M_event_43 (by decide) (fun e0 => ?_) (fun e0 => ?_)
    · refine kx_iload_n (pc := 55) d_M_event_55 rfl ?_
      refine kx_iconst (pc := 56) (x := 1) d_M_event_56 (by decide) ?_
      refine kx_icmp_ne (pc := 57) (tgt := 74) d_M_event_57 (by decide) (fun e1 => ?_) (fun e1 => ?_)
      · refine kx_iload_n (pc := 74) d_M_event_74 rfl ?_
        refine kx_iconst (pc := 75) (x := 2) d_M_event_75 (by decide) ?_
        refine kx_icmp_ne (pc := 76) (tgt := 88) d_M_event_76 (by decide) (fun e2 => ?_) (fun e2 => ?_)
        · refine kx_iload_n (pc := 88) d_M_event_88 rfl ?_
          refine kx_iconst (pc := 89) (x := 3) d_M_event_89 (by decide) ?_
          refine kx_icmp_ne (pc := 90) (tgt := 102) d_M_event_90 (by decide) (fun e3 => ?_) (fun e3 => ?_)
          · refine kx_aload_n (pc := 102) d_M_event_102 rfl ?_
            refine kw_getr (pc := 103) (r := 65) d_M_event_103 fl_M_19 rfl (by decide) rfl ?_
            refine kx_iload_n (pc := 106) d_M_event_106 rfl ?_
            refine km_iald (pc := 107) d_M_event_107 (by decide) rfl ⟨rfl, q5, by decide⟩ ?_
            exact kx_iret rfl d_M_event_108 ⟨by unfold m_event; rw [if_pos g2, if_pos g1, nq, if_neg e0, if_neg e1, if_neg e2, if_neg e3]; try rfl, by unfold m_event; rw [if_pos g2, if_pos g1, nq, if_neg e0, if_neg e1, if_neg e2, if_neg e3]; try rfl⟩
          · refine kx_aload_n (pc := 93) d_M_event_93 rfl ?_
            refine kw_getr (pc := 94) (r := 64) d_M_event_94 fl_M_16 rfl (by decide) rfl ?_
            refine kx_iload_n (pc := 97) d_M_event_97 rfl ?_
            refine km_iald (pc := 98) d_M_event_98 (by decide) rfl ⟨rfl, q5, by decide⟩ ?_
            refine kx_goto (pc := 99) (tgt := 108) d_M_event_99 (by decide) ?_
            exact kx_iret rfl d_M_event_108 ⟨by unfold m_event; rw [if_pos g2, if_pos g1, nq, if_neg e0, if_neg e1, if_neg e2, if_pos e3]; try rfl, by unfold m_event; rw [if_pos g2, if_pos g1, nq, if_neg e0, if_neg e1, if_neg e2, if_pos e3]; try rfl⟩
        · refine kx_aload_n (pc := 79) d_M_event_79 rfl ?_
          refine kw_getr (pc := 80) (r := 63) d_M_event_80 fl_M_13 rfl (by decide) rfl ?_
          refine kx_iload_n (pc := 83) d_M_event_83 rfl ?_
          refine km_iald (pc := 84) d_M_event_84 (by decide) rfl ⟨rfl, q5, by decide⟩ ?_
          refine kx_goto (pc := 85) (tgt := 108) d_M_event_85 (by decide) ?_
          exact kx_iret rfl d_M_event_108 ⟨by unfold m_event; rw [if_pos g2, if_pos g1, nq, if_neg e0, if_neg e1, if_pos e2]; try rfl, by unfold m_event; rw [if_pos g2, if_pos g1, nq, if_neg e0, if_neg e1, if_pos e2]; try rfl⟩
      · refine kx_aload_n (pc := 60) d_M_event_60 rfl ?_
        refine kx_aload_n (pc := 61) d_M_event_61 rfl ?_
        refine kw_getr (pc := 62) (r := 62) d_M_event_62 fl_M_9 rfl (by decide) rfl ?_
        refine kx_iload_n (pc := 65) d_M_event_65 rfl ?_
        refine km_iald (pc := 66) d_M_event_66 (by decide) rfl ⟨rfl, q5, by decide⟩ ?_
        refine kx_iload_n (pc := 67) d_M_event_67 rfl ?_
        refine kx_invV (pc := 68) (as := [.int _, .int _]) (st := []) (k := 0) (j := 0) d_M_event_68 wv_M_74 (wd_o rfl) (k_inStream (a := a) (b := (uo b 61 0 0)) (N := q) (by omega)) rfl rfl (Nat.le_of_ble_eq_true rfl) (by decide) (Nat.le_of_ble_eq_true rfl) (fun rv n' h' hq => ?_) (fun X n' h' hq => nomatch hq.2)
        obtain ⟨rfl, hq⟩ := hq
        cases hq
        refine kx_goto (pc := 71) (tgt := 108) d_M_event_71 (by decide) ?_
        exact kx_iret rfl d_M_event_108 ⟨by unfold m_event; rw [if_pos g2, if_pos g1, nq, if_neg e0, if_pos e1]; try rfl, by unfold m_event; rw [if_pos g2, if_pos g1, nq, if_neg e0, if_pos e1]; try rfl⟩
    · refine kx_aload_n (pc := 46) d_M_event_46 rfl ?_
      refine kw_getr (pc := 47) (r := 62) d_M_event_47 fl_M_9 rfl (by decide) rfl ?_
      refine kx_iload_n (pc := 50) d_M_event_50 rfl ?_
      refine km_iald (pc := 51) d_M_event_51 (by decide) rfl ⟨rfl, q5, by decide⟩ ?_
      refine kx_goto (pc := 52) (tgt := 108) d_M_event_52 (by decide) ?_
      exact kx_iret rfl d_M_event_108 ⟨by unfold m_event; rw [if_pos g2, if_pos g1, nq, if_pos e0]; try rfl, by unfold m_event; rw [if_pos g2, if_pos g1, nq, if_pos e0]; try rfl⟩
  · have g2 := oz.mp w1
    refine kx_iconst (pc := 15) (x := 1) d_M_event_15 (by decide) ?_
    refine kx_goto (pc := 16) (tgt := 20) d_M_event_16 (by decide) ?_
    refine kx_iconst (pc := 20) (x := 1) d_M_event_20 (by decide) ?_
    refine kx_invV (pc := 21) (as := [.int _, .int _]) (st := []) (k := 0) (j := 0) d_M_event_21 wv_M_70 (wd_o rfl) (k_fails1 (a := a) (b := (uo b 61 0 0)) uo_s (by decide)) rfl rfl (Nat.le_of_ble_eq_true rfl) (by decide) (Nat.le_of_ble_eq_true rfl) (fun rv n' h' hq => ?_) (fun X n' h' hq => nomatch hq.2)
    obtain ⟨rfl, hq⟩ := hq
    cases hq
    refine kx_if_ne (pc := 24) (tgt := 40) d_M_event_24 (by decide) (fun _ => ?_) (fun hz => absurd hz (by decide))
    refine kx_iconst (pc := 40) (x := 0) d_M_event_40 (by decide) ?_
    exact kx_iret rfl d_M_event_41 ⟨by unfold m_event; rw [if_neg g2]; try rfl, by unfold m_event; rw [if_neg g2]; try rfl⟩
set_option maxHeartbeats 4000000 in
set_option maxRecDepth 100000 in
theorem k_mvalue {E : kx_E} {n : Nat} {a b : kW} {ev : Nat} {x1 : Int32} (h1 : b.2.2 61 1 = nI ev) (h5 : ev ≤ 500) : kx_V E i_M_value 3 0 0 (fun r _ h' => r = Sum.inl (some (.long (m_value b ev x1).1)) ∧ h' = wd (wx a (m_value b ev x1).2)) 0 0 0 (lv_args 0 [.ref 61, .int x1]) [] n (wd (wx a b)) := by
  refine kx_aload_n (pc := 0) d_M_value_0 rfl ?_
  refine kx_iconst (pc := 1) (x := 0) d_M_value_1 (by decide) ?_
  refine km_puti (pc := 2) d_M_value_2 fl_M_59 fw_M_0 (by decide) rfl (by decide) rfl ?_
  refine kx_aload_n (pc := 5) d_M_value_5 rfl ?_
  refine kx_aload_n (pc := 6) d_M_value_6 rfl ?_
  refine kx_iload_n (pc := 7) d_M_value_7 rfl ?_
  refine kx_invV (pc := 8) (as := [.int _]) (st := _) (k := 0) (j := 0) d_M_value_8 wv_M_102 (wd_o rfl) (k_isNone (a := a) (b := (uo b 61 0 0)) (ev := ev) h1) rfl rfl (Nat.le_of_ble_eq_true rfl) (by decide) (Nat.le_of_ble_eq_true rfl) (fun rv n' h' hq => ?_) (fun X n' h' hq => nomatch hq.2)
  obtain ⟨rfl, hq⟩ := hq
  cases hq
  by_cases g1 : 0 ≤ x1 ∧ x1 ≤ nI ev - 1
  rotate_left
  · rw [if_neg g1]
    refine kx_iconst (pc := 11) (x := 1) d_M_value_11 (by decide) ?_
    refine kx_invV (pc := 12) (as := [.int _, .int _]) (st := []) (k := 0) (j := 0) d_M_value_12 wv_M_70 (wd_o rfl) (k_fails1 (a := a) (b := (uo b 61 0 0)) uo_s (by decide)) rfl rfl (Nat.le_of_ble_eq_true rfl) (by decide) (Nat.le_of_ble_eq_true rfl) (fun rv n' h' hq => ?_) (fun X n' h' hq => nomatch hq.2)
    obtain ⟨rfl, hq⟩ := hq
    cases hq
    refine kx_if_eq (pc := 15) (tgt := 22) d_M_value_15 (by decide) (fun hz => absurd hz (by decide)) (fun _ => ?_)
    refine kx_lconst (pc := 18) (x := 0) d_M_value_18 (by decide) ?_
    refine kx_goto (pc := 19) (tgt := 28) d_M_value_19 (by decide) ?_
    exact kx_lret rfl d_M_value_28 ⟨by unfold m_value; rw [if_neg g1]; try rfl, by unfold m_value; rw [if_neg g1]; try rfl⟩
  rw [if_pos g1]
  obtain ⟨q, hq9, rfl, nq⟩ := nI_lt1 (by omega) g1
  have q5 : q < 500 := by omega
  refine kx_iconst (pc := 11) (x := 1) d_M_value_11 (by decide) ?_
  refine kx_invV (pc := 12) (as := [.int _, .int _]) (st := []) (k := 0) (j := 0) d_M_value_12 wv_M_70 (wd_o rfl) (k_fails0 (a := a) (b := (uo b 61 0 0)) uo_s) rfl rfl (Nat.le_of_ble_eq_true rfl) (by decide) (Nat.le_of_ble_eq_true rfl) (fun rv n' h' hq => ?_) (fun X n' h' hq => nomatch hq.2)
  obtain ⟨rfl, hq⟩ := hq
  cases hq
  refine kx_if_eq (pc := 15) (tgt := 22) d_M_value_15 (by decide) (fun _ => ?_) (fun hz => absurd rfl hz)
  refine kx_aload_n (pc := 22) d_M_value_22 rfl ?_
  refine kw_getr (pc := 23) (r := 66) d_M_value_23 fl_M_22 rfl (by decide) rfl ?_
  refine kx_iload_n (pc := 26) d_M_value_26 rfl ?_
  refine km_lald (pc := 27) d_M_value_27 (by decide) rfl ⟨rfl, q5, by decide⟩ ?_
  exact kx_lret rfl d_M_value_28 ⟨by unfold m_value; rw [if_pos g1, nq]; try rfl, by unfold m_value; rw [if_pos g1, nq]; try rfl⟩
