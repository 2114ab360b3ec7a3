def g_err (b : kW) (c : Int32) : kW := uo (uo b 61 0 0) 61 0 c
def m_append (b : kW) (ev : Nat) (x1 x2 x3 : Int32) (v : Int64) : Int32 × kW :=
  if 0 ≤ x1 ∧ x1 ≤ 15 then
    if x2 < -1 then (0, g_err b 1)
    else if 0 ≤ x3 ∧ x3 ≤ 7 then
      if 0 ≤ x2 ∧ ¬ (nI (cn (b.1 62) x1 ev) = x2) then (0, g_err b 2)
      else if ev = 500 then (0, g_err b 3) else (nI ev, g_put (uo b 61 0 0) ev x1 x3 v (-1) (-1))
    else (0, g_err b 1)
  else (0, g_err b 1)
set_option maxHeartbeats 4000000 in
set_option maxRecDepth 100000 in
theorem k_mappend {E : kx_E} {n : Nat} {a b : kW} {ev : Nat} {x1 x2 x3 : Int32} {v : Int64} (h1 : b.2.2 61 1 = nI ev) (h5 : ev ≤ 500) : kx_V E i_M_append 3 0 0 (fun r _ h' => r = Sum.inl (some (.int (m_append b ev x1 x2 x3 v).1)) ∧ h' = wd (wx a (m_append b ev x1 x2 x3 v).2)) 0 0 0 (lv_args 0 [.ref 61, .int x1, .int x2, .int x3, .long v]) [] n (wd (wx a b)) := by
  refine kx_aload_n (pc := 0) d_M_append_0 rfl ?_
  refine kx_iconst (pc := 1) (x := 0) d_M_append_1 (by decide) ?_
  refine km_puti (pc := 2) d_M_append_2 fl_M_59 fw_M_0 (by decide) rfl (by decide) rfl ?_
  refine kx_aload_n (pc := 5) d_M_append_5 rfl ?_
  refine kx_iload_n (pc := 6) d_M_append_6 rfl ?_
  refine kx_iconst (pc := 7) (x := 0) d_M_append_7 (by decide) ?_
  refine kx_bipush (pc := 8) (x := 15) d_M_append_8 (by decide) ?_
  refine kx_invS (pc := 10) (as := [.int _, .int _, .int _]) (st := _) (k := 0) (j := 0) d_M_append_10 ws_M_66 k_in rfl rfl (Nat.le_of_ble_eq_true rfl) (by decide) (Nat.le_of_ble_eq_true rfl) (fun rv n' h' hq => ?_) (fun X n' h' hq => nomatch hq.2)
  obtain ⟨rfl, hq⟩ := hq
  cases hq
  refine kx_if_eq (pc := 13) (tgt := 31) d_M_append_13 (by decide) (fun w1 => ?_) (fun w1 => ?_)
  · have g1 := oz.mp w1
    refine kx_iconst (pc := 31) (x := 1) d_M_append_31 (by decide) ?_
    refine kx_goto (pc := 32) (tgt := 36) d_M_append_32 (by decide) ?_
    refine kx_iconst (pc := 36) (x := 1) d_M_append_36 (by decide) ?_
    refine kx_invV (pc := 37) (as := [.int _, .int _]) (st := []) (k := 0) (j := 0) d_M_append_37 wv_M_70 (wd_o rfl) (k_fails1 (a := a) (b := (uo b 61 0 0)) uo_s (by decide)) rfl rfl (Nat.le_of_ble_eq_true rfl) (by decide) (Nat.le_of_ble_eq_true rfl) (fun rv n' h' hq => ?_) (fun X n' h' hq => nomatch hq.2)
    obtain ⟨rfl, hq⟩ := hq
    cases hq
    refine kx_if_ne (pc := 40) (tgt := 96) d_M_append_40 (by decide) (fun _ => ?_) (fun hz => absurd hz (by decide))
    refine kx_iconst (pc := 96) (x := 0) d_M_append_96 (by decide) ?_
    exact kx_iret rfl d_M_append_97 ⟨by unfold m_append; rw [if_neg g1]; try rfl, by unfold m_append; rw [if_neg g1]; try rfl⟩
  · have g1 := oy w1
    refine kx_iload_n (pc := 16) d_M_append_16 rfl ?_
    refine kx_iconst (pc := 17) (x := -1) d_M_append_17 (by decide) ?_
    refine kx_icmp_lt (pc := 18) (tgt := 31) d_M_append_18 (by decide) (fun g2 => ?_) (fun g2 => ?_)
    · refine kx_iconst (pc := 31) (x := 1) d_M_append_31 (by decide) ?_
      refine kx_goto (pc := 32) (tgt := 36) d_M_append_32 (by decide) ?_
      refine kx_iconst (pc := 36) (x := 1) d_M_append_36 (by decide) ?_
      refine kx_invV (pc := 37) (as := [.int _, .int _]) (st := []) (k := 0) (j := 0) d_M_append_37 wv_M_70 (wd_o rfl) (k_fails1 (a := a) (b := (uo b 61 0 0)) uo_s (by decide)) rfl rfl (Nat.le_of_ble_eq_true rfl) (by decide) (Nat.le_of_ble_eq_true rfl) (fun rv n' h' hq => ?_) (fun X n' h' hq => nomatch hq.2)
      obtain ⟨rfl, hq⟩ := hq
      cases hq
      refine kx_if_ne (pc := 40) (tgt := 96) d_M_append_40 (by decide) (fun _ => ?_) (fun hz => absurd hz (by decide))
      refine kx_iconst (pc := 96) (x := 0) d_M_append_96 (by decide) ?_
      exact kx_iret rfl d_M_append_97 ⟨by unfold m_append; rw [if_pos g1, if_pos g2]; try rfl, by unfold m_append; rw [if_pos g1, if_pos g2]; try rfl⟩
    · refine kx_iload_n (pc := 21) d_M_append_21 rfl ?_
      refine kx_iconst (pc := 22) (x := 0) d_M_append_22 (by decide) ?_
      refine kx_bipush (pc := 23) (x := 7) d_M_append_23 (by decide) ?_
      refine kx_invS (pc := 25) (as := [.int _, .int _, .int _]) (st := _) (k := 0) (j := 0) d_M_append_25 ws_M_66 k_in rfl rfl (Nat.le_of_ble_eq_true rfl) (by decide) (Nat.le_of_ble_eq_true rfl) (fun rv n' h' hq => ?_) (fun X n' h' hq => nomatch hq.2)
      obtain ⟨rfl, hq⟩ := hq
      cases hq
      refine kx_if_ne (pc := 28) (tgt := 35) d_M_append_28 (by decide) (fun w3 => ?_) (fun w3 => ?_)
      · have g3 := oy w3
        have t3 : ¬ (0 ≤ x2 ∧ ¬ (nI (cn (b.1 62) x1 ev) = x2)) → ∀ n, kx_V E i_M_append 3 0 0 (fun r _ h' => r = Sum.inl (some (.int (m_append b ev x1 x2 x3 v).1)) ∧ h' = wd (wx a (m_append b ev x1 x2 x3 v).2)) 0 0 65 [(0, .ref 61), (1, .int x1), (2, .int x2), (3, .int x3), (4, .long v)] [.ref 61] n (wd (wx a (uo b 61 0 0))) := by
          intro h4 n
          refine kx_iconst (pc := 65) (x := 0) d_M_append_65 (by decide) ?_
          refine kx_iconst (pc := 66) (x := 2) d_M_append_66 (by decide) ?_
          refine kx_invV (pc := 67) (as := [.int _, .int _]) (st := []) (k := 0) (j := 0) d_M_append_67 wv_M_70 (wd_o rfl) (k_fails0 (a := a) (b := (uo b 61 0 0)) uo_s) rfl rfl (Nat.le_of_ble_eq_true rfl) (by decide) (Nat.le_of_ble_eq_true rfl) (fun rv n' h' hq => ?_) (fun X n' h' hq => nomatch hq.2)
          obtain ⟨rfl, hq⟩ := hq
          cases hq
          refine kx_if_ne (pc := 70) (tgt := 96) d_M_append_70 (by decide) (fun hz => absurd hz (fun w => w rfl)) (fun _ => ?_)
          refine kx_aload_n (pc := 73) d_M_append_73 rfl ?_
          refine kx_aload_n (pc := 74) d_M_append_74 rfl ?_
          refine km_geti (pc := 75) d_M_append_75 fl_M_63 (by decide) rfl (by decide) rfl ?_
          refine kx_eqi (show _ = nI ev from h1) ?_
          refine kx_sipush (pc := 78) (x := 500) d_M_append_78 (by decide) ?_
          refine kx_eqi (show (500 : Int32) = nI 500 from rfl) ?_
          refine kx_icmp_ne (pc := 81) (tgt := 88) d_M_append_81 (by decide) (fun h6 => ?_) (fun h6 => ?_)
          · have h7 : ¬ ev = 500 := fun w => h6 (by rw [w])
            refine kx_iconst (pc := 88) (x := 0) d_M_append_88 (by decide) ?_
            refine kx_iconst (pc := 89) (x := 3) d_M_append_89 (by decide) ?_
            refine kx_invV (pc := 90) (as := [.int _, .int _]) (st := []) (k := 0) (j := 0) d_M_append_90 wv_M_70 (wd_o rfl) (k_fails0 (a := a) (b := (uo b 61 0 0)) uo_s) rfl rfl (Nat.le_of_ble_eq_true rfl) (by decide) (Nat.le_of_ble_eq_true rfl) (fun rv n' h' hq => ?_) (fun X n' h' hq => nomatch hq.2)
            obtain ⟨rfl, hq⟩ := hq
            cases hq
            refine kx_if_eq (pc := 93) (tgt := 98) d_M_append_93 (by decide) (fun _ => ?_) (fun hz => absurd rfl hz)
            refine kx_aload_n (pc := 98) d_M_append_98 rfl ?_
            refine kx_iload_n (pc := 99) d_M_append_99 rfl ?_
            refine kx_iload_n (pc := 100) d_M_append_100 rfl ?_
            refine kx_lload (pc := 101) d_M_append_101 rfl ?_
            refine kx_iconst (pc := 103) (x := -1) d_M_append_103 (by decide) ?_
            refine kx_iconst (pc := 104) (x := -1) d_M_append_104 (by decide) ?_
            refine kx_invV (pc := 105) (as := [.int _, .int _, .long _, .int _, .int _]) (st := []) (k := 0) (j := 0) d_M_append_105 wv_M_78 (wd_o rfl) (k_mput (a := a) (b := (uo b 61 0 0)) (ev := ev) h1 (by omega)) rfl rfl (Nat.le_of_ble_eq_true rfl) (by decide) (Nat.le_of_ble_eq_true rfl) (fun rv n' h' hq => ?_) (fun X n' h' hq => nomatch hq.2)
            obtain ⟨rfl, hq⟩ := hq
            cases hq
            exact kx_iret rfl d_M_append_108 ⟨by unfold m_append; rw [if_pos g1, if_neg g2, if_pos g3, if_neg h4, if_neg h7]; try rfl, by unfold m_append; rw [if_pos g1, if_neg g2, if_pos g3, if_neg h4, if_neg h7]; try rfl⟩
          · have h7 : ev = 500 := nI_inj (by omega) (by omega) h6
            refine kx_iconst (pc := 84) (x := 1) d_M_append_84 (by decide) ?_
            refine kx_goto (pc := 85) (tgt := 89) d_M_append_85 (by decide) ?_
            refine kx_iconst (pc := 89) (x := 3) d_M_append_89 (by decide) ?_
            refine kx_invV (pc := 90) (as := [.int _, .int _]) (st := []) (k := 0) (j := 0) d_M_append_90 wv_M_70 (wd_o rfl) (k_fails1 (a := a) (b := (uo b 61 0 0)) uo_s (by decide)) rfl rfl (Nat.le_of_ble_eq_true rfl) (by decide) (Nat.le_of_ble_eq_true rfl) (fun rv n' h' hq => ?_) (fun X n' h' hq => nomatch hq.2)
            obtain ⟨rfl, hq⟩ := hq
            cases hq
            refine kx_if_eq (pc := 93) (tgt := 98) d_M_append_93 (by decide) (fun hz => absurd hz (by decide)) (fun _ => ?_)
            refine kx_iconst (pc := 96) (x := 0) d_M_append_96 (by decide) ?_
            exact kx_iret rfl d_M_append_97 ⟨by unfold m_append; rw [if_pos g1, if_neg g2, if_pos g3, if_neg h4, if_pos h7]; try rfl, by unfold m_append; rw [if_pos g1, if_neg g2, if_pos g3, if_neg h4, if_pos h7]; try rfl⟩
        refine kx_iconst (pc := 35) (x := 0) d_M_append_35 (by decide) ?_
        refine kx_iconst (pc := 36) (x := 1) d_M_append_36 (by decide) ?_
        refine kx_invV (pc := 37) (as := [.int _, .int _]) (st := []) (k := 0) (j := 0) d_M_append_37 wv_M_70 (wd_o rfl) (k_fails0 (a := a) (b := (uo b 61 0 0)) uo_s) rfl rfl (Nat.le_of_ble_eq_true rfl) (by decide) (Nat.le_of_ble_eq_true rfl) (fun rv n' h' hq => ?_) (fun X n' h' hq => nomatch hq.2)
        obtain ⟨rfl, hq⟩ := hq
        cases hq
        refine kx_if_ne (pc := 40) (tgt := 96) d_M_append_40 (by decide) (fun hz => absurd hz (fun w => w rfl)) (fun _ => ?_)
        refine kx_aload_n (pc := 43) d_M_append_43 rfl ?_
        refine kx_iload_n (pc := 44) d_M_append_44 rfl ?_
        refine kx_if_lt (pc := 45) (tgt := 65) d_M_append_45 (by decide) (fun w5 => ?_) (fun w5 => ?_)
        · exact t3 (fun w => Int32.not_lt.mpr w.1 w5) _
        · refine kx_aload_n (pc := 48) d_M_append_48 rfl ?_
          refine kx_iload_n (pc := 49) d_M_append_49 rfl ?_
          refine kx_aload_n (pc := 50) d_M_append_50 rfl ?_
          refine km_geti (pc := 51) d_M_append_51 fl_M_63 (by decide) rfl (by decide) rfl ?_
          refine kx_eqi (show _ = nI ev from h1) ?_
          refine kx_invV (pc := 54) (as := [.int _, .int _]) (st := _) (k := 0) (j := 0) d_M_append_54 wv_M_74 (wd_o rfl) (k_inStream (a := a) (b := (uo b 61 0 0)) h5) rfl rfl (Nat.le_of_ble_eq_true rfl) (by decide) (Nat.le_of_ble_eq_true rfl) (fun rv n' h' hq => ?_) (fun X n' h' hq => nomatch hq.2)
          obtain ⟨rfl, hq⟩ := hq
          cases hq
          refine kx_iload_n (pc := 57) d_M_append_57 rfl ?_
          refine kx_icmp_eq (pc := 58) (tgt := 65) d_M_append_58 (by decide) (fun w6 => ?_) (fun w6 => ?_)
          · exact t3 (fun w => w.2 w6) _
          · have h4 : 0 ≤ x2 ∧ ¬ (nI (cn (b.1 62) x1 ev) = x2) := ⟨Int32.not_lt.mp w5, w6⟩
            refine kx_iconst (pc := 61) (x := 1) d_M_append_61 (by decide) ?_
            refine kx_goto (pc := 62) (tgt := 66) d_M_append_62 (by decide) ?_
            refine kx_iconst (pc := 66) (x := 2) d_M_append_66 (by decide) ?_
            refine kx_invV (pc := 67) (as := [.int _, .int _]) (st := []) (k := 0) (j := 0) d_M_append_67 wv_M_70 (wd_o rfl) (k_fails1 (a := a) (b := (uo b 61 0 0)) uo_s (by decide)) rfl rfl (Nat.le_of_ble_eq_true rfl) (by decide) (Nat.le_of_ble_eq_true rfl) (fun rv n' h' hq => ?_) (fun X n' h' hq => nomatch hq.2)
            obtain ⟨rfl, hq⟩ := hq
            cases hq
            refine kx_if_ne (pc := 70) (tgt := 96) d_M_append_70 (by decide) (fun _ => ?_) (fun hz => absurd hz (by decide))
            refine kx_iconst (pc := 96) (x := 0) d_M_append_96 (by decide) ?_
            exact kx_iret rfl d_M_append_97 ⟨by unfold m_append; rw [if_pos g1, if_neg g2, if_pos g3, if_pos h4]; try rfl, by unfold m_append; rw [if_pos g1, if_neg g2, if_pos g3, if_pos h4]; try rfl⟩
      · have g3 := oz.mp w3
        refine kx_iconst (pc := 31) (x := 1) d_M_append_31 (by decide) ?_
        refine kx_goto (pc := 32) (tgt := 36) d_M_append_32 (by decide) ?_
        refine kx_iconst (pc := 36) (x := 1) d_M_append_36 (by decide) ?_
        refine kx_invV (pc := 37) (as := [.int _, .int _]) (st := []) (k := 0) (j := 0) d_M_append_37 wv_M_70 (wd_o rfl) (k_fails1 (a := a) (b := (uo b 61 0 0)) uo_s (by decide)) rfl rfl (Nat.le_of_ble_eq_true rfl) (by decide) (Nat.le_of_ble_eq_true rfl) (fun rv n' h' hq => ?_) (fun X n' h' hq => nomatch hq.2)
        obtain ⟨rfl, hq⟩ := hq
        cases hq
        refine kx_if_ne (pc := 40) (tgt := 96) d_M_append_40 (by decide) (fun _ => ?_) (fun hz => absurd hz (by decide))
        refine kx_iconst (pc := 96) (x := 0) d_M_append_96 (by decide) ?_
        exact kx_iret rfl d_M_append_97 ⟨by unfold m_append; rw [if_pos g1, if_neg g2, if_neg g3]; try rfl, by unfold m_append; rw [if_pos g1, if_neg g2, if_neg g3]; try rfl⟩
