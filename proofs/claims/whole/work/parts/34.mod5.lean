def g_find (b : kW) (x y : Int32) : Nat → Nat → Int32
  | 0, _ => -1
  | m + 1, i => if b.1 62 i = x ∧ nI (cn (b.1 62) x i) = y then nI i else g_find b x y m (i + 1)
def m_find (b : kW) (ev : Nat) (x1 x2 : Int32) : Int32 × kW := if 0 ≤ x1 ∧ x1 ≤ 15 then (if g_find (uo b 61 0 0) x1 x2 ev 0 = -1 then (0, g_err b 2) else (g_find (uo b 61 0 0) x1 x2 ev 0, (uo b 61 0 0))) else (0, g_err b 1)
set_option maxHeartbeats 4000000 in
set_option maxRecDepth 100000 in
theorem k_mfind_loop {E : kx_E} {a b : kW} {x y : Int32} {ev : Nat} (h1 : b.2.2 61 1 = nI ev) (h0 : b.2.2 61 0 = 0) (h5 : ev ≤ 500) (m : Nat) : ∀ (i : Nat), i + m = ev → ∀ {Q : kx_Q}, (∀ n, Q (Sum.inl (some (.int (if g_find b x y m i = -1 then 0 else g_find b x y m i)))) n (wd (wx a (if g_find b x y m i = -1 then uo b 61 0 2 else b)))) → ∀ n, kx_V E i_M_find 3 0 0 Q 0 0 32 [(3, .int (nI i)), (0, .ref 61), (1, .int x), (2, .int y)] [] n (wd (wx a b)) := by
  induction m with
  | zero =>
    intro i hm Q hQ n
    have hi : i = ev := by omega
    subst hi
    have e0 : g_find b x y 0 i = -1 := rfl
    rw [if_pos e0, if_pos e0] at hQ
    refine kx_iload_n (pc := 32) d_M_find_32 rfl ?_
    refine kx_aload_n (pc := 33) d_M_find_33 rfl ?_
    refine km_geti (pc := 34) d_M_find_34 fl_M_63 (by decide) rfl (by decide) rfl ?_
    refine kx_eqi h1 ?_
    refine kx_icmp_ge (pc := 37) (tgt := 68) d_M_find_37 (by decide) (fun _ => ?_) (fun hz => absurd (nI_le (Nat.le_refl i) (by omega)) hz)
    refine kx_aload_n (pc := 68) d_M_find_68 rfl ?_
    refine kx_iconst (pc := 69) (x := 1) d_M_find_69 (by decide) ?_
    refine kx_iconst (pc := 70) (x := 2) d_M_find_70 (by decide) ?_
    refine kx_invV (pc := 71) (as := [.int _, .int _]) (st := []) (k := 0) (j := 0) d_M_find_71 wv_M_70 (wd_o rfl) (k_fails1 (a := a) (b := b) h0 (by decide)) rfl rfl (Nat.le_of_ble_eq_true rfl) (by decide) (Nat.le_of_ble_eq_true rfl) (fun rv n' h' hq => ?_) (fun X n' h' hq => nomatch hq.2)
    obtain ⟨rfl, hq⟩ := hq
    cases hq
    refine kx_pop (pc := 74) d_M_find_74 rfl ?_
    refine kx_iconst (pc := 75) (x := 0) d_M_find_75 (by decide) ?_
    exact kx_iret rfl d_M_find_76 (hQ _)
  | succ m ih =>
    intro i hm Q hQ n
    have hlt : i < ev := by omega
    have i5 : i < 500 := by omega
    refine kx_iload_n (pc := 32) d_M_find_32 rfl ?_
    refine kx_aload_n (pc := 33) d_M_find_33 rfl ?_
    refine km_geti (pc := 34) d_M_find_34 fl_M_63 (by decide) rfl (by decide) rfl ?_
    refine kx_eqi h1 ?_
    refine kx_icmp_ge (pc := 37) (tgt := 68) d_M_find_37 (by decide) (fun hz => absurd hz (nI_ge hlt (by omega))) (fun _ => ?_)
    refine kx_aload_n (pc := 40) d_M_find_40 rfl ?_
    refine kw_getr (pc := 41) (r := 62) d_M_find_41 fl_M_9 rfl (by decide) rfl ?_
    refine kx_iload_n (pc := 44) d_M_find_44 rfl ?_
    refine km_iald (pc := 45) d_M_find_45 (by decide) rfl ⟨rfl, i5, by decide⟩ ?_
    refine kx_iload_n (pc := 46) d_M_find_46 rfl ?_
    refine kx_icmp_ne (pc := 47) (tgt := 62) d_M_find_47 (by decide) (fun hz => ?_) (fun hz => ?_)
    · have ec : g_find b x y (m + 1) i = g_find b x y m (i + 1) := if_neg (fun w => hz w.1)
      refine kx_iinc (pc := 62) (y := nI (i + 1)) (lv' := [(3, _), (0, _), (1, _), (2, _)]) d_M_find_62 rfl (nI_1 i) (by decide) rfl ?_
      refine kx_goto (pc := 65) (tgt := 32) d_M_find_65 (by decide) ?_
      rw [ec] at hQ
      exact ih (i + 1) (by omega) hQ _
    · refine kx_aload_n (pc := 50) d_M_find_50 rfl ?_
      refine kx_iload_n (pc := 51) d_M_find_51 rfl ?_
      refine kx_iload_n (pc := 52) d_M_find_52 rfl ?_
      refine kx_invV (pc := 53) (as := [.int _, .int _]) (st := []) (k := 0) (j := 0) d_M_find_53 wv_M_74 (wd_o rfl) (k_inStream (a := a) (b := b) (N := i) (by omega)) rfl rfl (Nat.le_of_ble_eq_true rfl) (by decide) (Nat.le_of_ble_eq_true rfl) (fun rv n' h' hq => ?_) (fun X n' h' hq => nomatch hq.2)
      obtain ⟨rfl, hq⟩ := hq
      cases hq
      refine kx_iload_n (pc := 56) d_M_find_56 rfl ?_
      refine kx_icmp_ne (pc := 57) (tgt := 62) d_M_find_57 (by decide) (fun hy => ?_) (fun hy => ?_)
      · have ec : g_find b x y (m + 1) i = g_find b x y m (i + 1) := if_neg (fun w => hy w.2)
        refine kx_iinc (pc := 62) (y := nI (i + 1)) (lv' := [(3, _), (0, _), (1, _), (2, _)]) d_M_find_62 rfl (nI_1 i) (by decide) rfl ?_
        refine kx_goto (pc := 65) (tgt := 32) d_M_find_65 (by decide) ?_
        rw [ec] at hQ
        exact ih (i + 1) (by omega) hQ _
      · have ec : g_find b x y (m + 1) i = nI i := if_pos ⟨hz, hy⟩
        have en : ¬ g_find b x y (m + 1) i = -1 := by rw [ec]; exact fun w => nI_m1 (by omega) w.symm
        rw [if_neg en, if_neg en, ec] at hQ
        refine kx_iload_n (pc := 60) d_M_find_60 rfl ?_
        exact kx_iret rfl d_M_find_61 (hQ _)
set_option maxHeartbeats 4000000 in
set_option maxRecDepth 100000 in
theorem k_mfind {E : kx_E} {n : Nat} {a b : kW} {ev : Nat} {x1 x2 : Int32} (h1 : b.2.2 61 1 = nI ev) (h5 : ev ≤ 500) : kx_V E i_M_find 3 0 0 (fun r _ h' => r = Sum.inl (some (.int (m_find b ev x1 x2).1)) ∧ h' = wd (wx a (m_find b ev x1 x2).2)) 0 0 0 (lv_args 0 [.ref 61, .int x1, .int x2]) [] n (wd (wx a b)) := by
  refine kx_aload_n (pc := 0) d_M_find_0 rfl ?_
  refine kx_iconst (pc := 1) (x := 0) d_M_find_1 (by decide) ?_
  refine km_puti (pc := 2) d_M_find_2 fl_M_59 fw_M_0 (by decide) rfl (by decide) rfl ?_
  refine kx_aload_n (pc := 5) d_M_find_5 rfl ?_
  refine kx_iload_n (pc := 6) d_M_find_6 rfl ?_
  refine kx_iconst (pc := 7) (x := 0) d_M_find_7 (by decide) ?_
  refine kx_bipush (pc := 8) (x := 15) d_M_find_8 (by decide) ?_
  refine kx_invS (pc := 10) (as := [.int _, .int _, .int _]) (st := _) (k := 0) (j := 0) d_M_find_10 ws_M_66 k_in rfl rfl (Nat.le_of_ble_eq_true rfl) (by decide) (Nat.le_of_ble_eq_true rfl) (fun rv n' h' hq => ?_) (fun X n' h' hq => nomatch hq.2)
  obtain ⟨rfl, hq⟩ := hq
  cases hq
  refine kx_if_ne (pc := 13) (tgt := 20) d_M_find_13 (by decide) (fun w1 => ?_) (fun w1 => ?_)
  · have g1 := oy w1
    refine kx_iconst (pc := 20) (x := 0) d_M_find_20 (by decide) ?_
    refine kx_iconst (pc := 21) (x := 1) d_M_find_21 (by decide) ?_
    refine kx_invV (pc := 22) (as := [.int _, .int _]) (st := []) (k := 0) (j := 0) d_M_find_22 wv_M_70 (wd_o rfl) (k_fails0 (a := a) (b := (uo b 61 0 0)) uo_s) rfl rfl (Nat.le_of_ble_eq_true rfl) (by decide) (Nat.le_of_ble_eq_true rfl) (fun rv n' h' hq => ?_) (fun X n' h' hq => nomatch hq.2)
    obtain ⟨rfl, hq⟩ := hq
    cases hq
    refine kx_if_eq (pc := 25) (tgt := 30) d_M_find_25 (by decide) (fun _ => ?_) (fun hz => absurd rfl hz)
    refine kx_iconst (pc := 30) (x := 0) d_M_find_30 (by decide) ?_
    refine kx_eqi (show (0 : Int32) = nI 0 from rfl) ?_
    refine kx_istore_n (pc := 31) (lv' := [(3, _), (0, _), (1, _), (2, _)]) d_M_find_31 rfl (by decide) rfl ?_
    refine k_mfind_loop (a := a) (b := (uo b 61 0 0)) h1 uo_s h5 ev 0 (by omega) (fun n => ?_) _
    by_cases e : g_find (uo b 61 0 0) x1 x2 ev 0 = -1
    · rw [if_pos e, if_pos e]
      exact ⟨by unfold m_find; rw [if_pos g1, if_pos e]; try rfl, by unfold m_find; rw [if_pos g1, if_pos e]; try rfl⟩
    · rw [if_neg e, if_neg e]
      exact ⟨by unfold m_find; rw [if_pos g1, if_neg e]; try rfl, by unfold m_find; rw [if_pos g1, if_neg e]; try rfl⟩
  · have g1 := oz.mp w1
    refine kx_iconst (pc := 16) (x := 1) d_M_find_16 (by decide) ?_
    refine kx_goto (pc := 17) (tgt := 21) d_M_find_17 (by decide) ?_
    refine kx_iconst (pc := 21) (x := 1) d_M_find_21 (by decide) ?_
    refine kx_invV (pc := 22) (as := [.int _, .int _]) (st := []) (k := 0) (j := 0) d_M_find_22 wv_M_70 (wd_o rfl) (k_fails1 (a := a) (b := (uo b 61 0 0)) uo_s (by decide)) rfl rfl (Nat.le_of_ble_eq_true rfl) (by decide) (Nat.le_of_ble_eq_true rfl) (fun rv n' h' hq => ?_) (fun X n' h' hq => nomatch hq.2)
    obtain ⟨rfl, hq⟩ := hq
    cases hq
    refine kx_if_eq (pc := 25) (tgt := 30) d_M_find_25 (by decide) (fun hz => absurd hz (by decide)) (fun _ => ?_)
    refine kx_iconst (pc := 28) (x := 0) d_M_find_28 (by decide) ?_
    exact kx_iret rfl d_M_find_29 ⟨by unfold m_find; rw [if_neg g1]; try rfl, by unfold m_find; rw [if_neg g1]; try rfl⟩
def m_count (b : kW) (ev : Nat) (x1 x2 : Int32) : Int32 × kW := if x1 = 0 then (b.2.2 61 1, (uo b 61 0 0)) else if x1 = 1 then (b.2.2 61 2, (uo b 61 0 0)) else if x1 = 2 then (if 0 ≤ x2 ∧ x2 ≤ 15 then (nI (cn (b.1 62) x2 ev), (uo b 61 0 0)) else (0, g_err b 1)) else if x1 = 3 then (if 0 ≤ x2 ∧ x2 ≤ 7 then (b.1 71 (nt x2), (uo b 61 0 0)) else (0, g_err b 1)) else if x1 = 4 then (if 0 ≤ x2 ∧ x2 ≤ 7 then (b.1 76 (nt x2), (uo b 61 0 0)) else (0, g_err b 1)) else if x1 = 5 then (if 0 ≤ x2 ∧ x2 ≤ 7 then (nI (cn (b.1 64) x2 ev), (uo b 61 0 0)) else (0, g_err b 1)) else (0, g_err b 1)
set_option maxHeartbeats 4000000 in
set_option maxRecDepth 100000 in
theorem k_mcount_loop {E : kx_E} {n : Nat} {a b : kW} {x y : Int32} {ev : Nat} (h1 : b.2.2 61 1 = nI ev) (h5 : ev ≤ 500) (m : Nat) : ∀ (i : Nat), i + m = ev → ∀ {Q : kx_Q}, Q (Sum.inl (some (.int (nI (cn (b.1 64) x ev))))) n (wd (wx a b)) → kx_V E i_M_count 3 0 0 Q 0 0 149 [(4, .int (nI i)), (3, .int (nI (cn (b.1 64) x i))), (0, .ref 61), (1, .int y), (2, .int x)] [] n (wd (wx a b)) := by
  induction m with
  | zero =>
    intro i hm Q hQ
    have hi : i = ev := by omega
    subst hi
    refine kx_iload (pc := 149) d_M_count_149 rfl ?_
    refine kx_aload_n (pc := 151) d_M_count_151 rfl ?_
    refine km_geti (pc := 152) d_M_count_152 fl_M_63 (by decide) rfl (by decide) rfl ?_
    refine kx_eqi h1 ?_
    refine kx_icmp_ge (pc := 155) (tgt := 178) d_M_count_155 (by decide) (fun _ => ?_) (fun hz => absurd (nI_le (Nat.le_refl i) (by omega)) hz)
    refine kx_iload_n (pc := 178) d_M_count_178 rfl ?_
    exact kx_iret rfl d_M_count_179 hQ
  | succ m ih =>
    intro i hm Q hQ
    have hlt : i < ev := by omega
    have i5 : i < 500 := by omega
    refine kx_iload (pc := 149) d_M_count_149 rfl ?_
    refine kx_aload_n (pc := 151) d_M_count_151 rfl ?_
    refine km_geti (pc := 152) d_M_count_152 fl_M_63 (by decide) rfl (by decide) rfl ?_
    refine kx_eqi h1 ?_
    refine kx_icmp_ge (pc := 155) (tgt := 178) d_M_count_155 (by decide) (fun hz => absurd hz (nI_ge hlt (by omega))) (fun _ => ?_)
    refine kx_aload_n (pc := 158) d_M_count_158 rfl ?_
    refine kw_getr (pc := 159) (r := 64) d_M_count_159 fl_M_16 rfl (by decide) rfl ?_
    refine kx_iload (pc := 162) d_M_count_162 rfl ?_
    refine km_iald (pc := 164) d_M_count_164 (by decide) rfl ⟨rfl, i5, by decide⟩ ?_
    refine kx_iload_n (pc := 165) d_M_count_165 rfl ?_
    refine kx_icmp_ne (pc := 166) (tgt := 172) d_M_count_166 (by decide) (fun hz => ?_) (fun hz => ?_)
    · have ec : cn (b.1 64) x (i + 1) = cn (b.1 64) x i := by show cn (b.1 64) x i + (if b.1 64 i = x then 1 else 0) = _; rw [if_neg hz]; rfl
      refine kx_iinc (pc := 172) (y := nI (i + 1)) (lv' := [(4, _), (3, _), (0, _), (1, _), (2, _)]) d_M_count_172 rfl (nI_1 i) (by decide) rfl ?_
      refine kx_goto (pc := 175) (tgt := 149) d_M_count_175 (by decide) ?_
      refine kx_sub [0, 1, 2, 3, 4] rfl ?_
      rw [← ec]
      exact ih (i + 1) (by omega) hQ
    · have ec : cn (b.1 64) x (i + 1) = cn (b.1 64) x i + 1 := by show cn (b.1 64) x i + (if b.1 64 i = x then 1 else 0) = _; rw [if_pos hz]
      refine kx_iinc (pc := 169) (y := nI (cn (b.1 64) x i + 1)) (lv' := [(3, _), (4, _), (0, _), (1, _), (2, _)]) d_M_count_169 rfl (nI_1 _) (by decide) rfl ?_
      refine kx_iinc (pc := 172) (y := nI (i + 1)) (lv' := [(4, _), (3, _), (0, _), (1, _), (2, _)]) d_M_count_172 rfl (nI_1 i) (by decide) rfl ?_
      refine kx_goto (pc := 175) (tgt := 149) d_M_count_175 (by decide) ?_
      refine kx_sub [0, 1, 2, 3, 4] rfl ?_
      rw [← ec]
      exact ih (i + 1) (by omega) hQ
set_option maxHeartbeats 4000000 in
set_option maxRecDepth 100000 in
theorem k_mcount {E : kx_E} {n : Nat} {a b : kW} {ev : Nat} {x1 x2 : Int32} (h1 : b.2.2 61 1 = nI ev) (h5 : ev ≤ 500) : kx_V E i_M_count 3 0 0 (fun r _ h' => r = Sum.inl (some (.int (m_count b ev x1 x2).1)) ∧ h' = wd (wx a (m_count b ev x1 x2).2)) 0 0 0 (lv_args 0 [.ref 61, .int x1, .int x2]) [] n (wd (wx a b)) := by
  by_cases e0 : x1 = 0
  · have s : m_count b ev x1 x2 = (b.2.2 61 1, (uo b 61 0 0)) := by unfold m_count; rw [if_pos e0]
    subst e0
    refine kx_aload_n (pc := 0) d_M_count_0 rfl ?_
    refine kx_iconst (pc := 1) (x := 0) d_M_count_1 (by decide) ?_
    refine km_puti (pc := 2) d_M_count_2 fl_M_59 fw_M_0 (by decide) rfl (by decide) rfl ?_
    refine kx_aload_n (pc := 5) d_M_count_5 rfl ?_
    refine kx_iload_n (pc := 6) d_M_count_6 rfl ?_
    refine kx_iconst (pc := 7) (x := 0) d_M_count_7 (by decide) ?_
    refine kx_iconst (pc := 8) (x := 5) d_M_count_8 (by decide) ?_
    refine kx_invS (pc := 9) (as := [.int _, .int _, .int _]) (st := _) (k := 0) (j := 0) d_M_count_9 ws_M_66 k_in rfl rfl (Nat.le_of_ble_eq_true rfl) (by decide) (Nat.le_of_ble_eq_true rfl) (fun rv n' h' hq => ?_) (fun X n' h' hq => nomatch hq.2)
    obtain ⟨rfl, hq⟩ := hq
    cases hq
    refine kx_if_eq (pc := 12) (tgt := 59) d_M_count_12 (by decide) (fun hz => absurd hz (by decide)) (fun _ => ?_)
    refine kx_iload_n (pc := 15) d_M_count_15 rfl ?_
    refine kx_iconst (pc := 16) (x := 2) d_M_count_16 (by decide) ?_
    refine kx_icmp_ne (pc := 17) (tgt := 30) d_M_count_17 (by decide) (fun _ => ?_) (fun hz => absurd hz (by decide))
    refine kx_iload_n (pc := 30) d_M_count_30 rfl ?_
    refine kx_iconst (pc := 31) (x := 3) d_M_count_31 (by decide) ?_
    refine kx_icmp_eq (pc := 32) (tgt := 40) d_M_count_32 (by decide) (fun hz => absurd hz (by decide)) (fun _ => ?_)
    refine kx_iload_n (pc := 35) d_M_count_35 rfl ?_
    refine kx_iconst (pc := 36) (x := 5) d_M_count_36 (by decide) ?_
    refine kx_icmp_ne (pc := 37) (tgt := 47) d_M_count_37 (by decide) (fun _ => ?_) (fun hz => absurd hz (by decide))
    refine kx_iload_n (pc := 47) d_M_count_47 rfl ?_
    refine kx_iconst (pc := 48) (x := 4) d_M_count_48 (by decide) ?_
    refine kx_icmp_ne (pc := 49) (tgt := 63) d_M_count_49 (by decide) (fun _ => ?_) (fun hz => absurd hz (by decide))
    refine kx_iconst (pc := 63) (x := 0) d_M_count_63 (by decide) ?_
    refine kx_iconst (pc := 64) (x := 1) d_M_count_64 (by decide) ?_
    refine kx_invV (pc := 65) (as := [.int _, .int _]) (st := []) (k := 0) (j := 0) d_M_count_65 wv_M_70 (wd_o rfl) (k_fails0 (a := a) (b := (uo b 61 0 0)) uo_s) rfl rfl (Nat.le_of_ble_eq_true rfl) (by decide) (Nat.le_of_ble_eq_true rfl) (fun rv n' h' hq => ?_) (fun X n' h' hq => nomatch hq.2)
    obtain ⟨rfl, hq⟩ := hq
    cases hq
    refine kx_if_eq (pc := 68) (tgt := 73) d_M_count_68 (by decide) (fun _ => ?_) (fun hz => absurd rfl hz)
    refine kx_iconst (pc := 73) (x := 0) d_M_count_73 (by decide) ?_
    refine kx_eqi (show (0 : Int32) = nI 0 from rfl) ?_
    refine kx_istore_n (pc := 74) (lv' := [(3, _), (0, _), (1, _), (2, _)]) d_M_count_74 rfl (by decide) rfl ?_
    refine kx_iload_n (pc := 75) d_M_count_75 rfl ?_
    refine kx_tsIn (pc := 76) (tgt := 112) d_M_count_76 (by decide) (by decide) rfl (by decide) ?_
    refine kx_aload_n (pc := 112) d_M_count_112 rfl ?_
    refine km_geti (pc := 113) d_M_count_113 fl_M_63 (by decide) rfl (by decide) rfl ?_
    exact kx_iret rfl d_M_count_116 ⟨by rw [s]; try rfl, by rw [s]; try rfl⟩
  by_cases e1 : x1 = 1
  · have s : m_count b ev x1 x2 = (b.2.2 61 2, (uo b 61 0 0)) := by unfold m_count; rw [if_neg e0, if_pos e1]
    subst e1
    refine kx_aload_n (pc := 0) d_M_count_0 rfl ?_
    refine kx_iconst (pc := 1) (x := 0) d_M_count_1 (by decide) ?_
    refine km_puti (pc := 2) d_M_count_2 fl_M_59 fw_M_0 (by decide) rfl (by decide) rfl ?_
    refine kx_aload_n (pc := 5) d_M_count_5 rfl ?_
    refine kx_iload_n (pc := 6) d_M_count_6 rfl ?_
    refine kx_iconst (pc := 7) (x := 0) d_M_count_7 (by decide) ?_
    refine kx_iconst (pc := 8) (x := 5) d_M_count_8 (by decide) ?_
    refine kx_invS (pc := 9) (as := [.int _, .int _, .int _]) (st := _) (k := 0) (j := 0) d_M_count_9 ws_M_66 k_in rfl rfl (Nat.le_of_ble_eq_true rfl) (by decide) (Nat.le_of_ble_eq_true rfl) (fun rv n' h' hq => ?_) (fun X n' h' hq => nomatch hq.2)
    obtain ⟨rfl, hq⟩ := hq
    cases hq
    refine kx_if_eq (pc := 12) (tgt := 59) d_M_count_12 (by decide) (fun hz => absurd hz (by decide)) (fun _ => ?_)
    refine kx_iload_n (pc := 15) d_M_count_15 rfl ?_
    refine kx_iconst (pc := 16) (x := 2) d_M_count_16 (by decide) ?_
    refine kx_icmp_ne (pc := 17) (tgt := 30) d_M_count_17 (by decide) (fun _ => ?_) (fun hz => absurd hz (by decide))
    refine kx_iload_n (pc := 30) d_M_count_30 rfl ?_
    refine kx_iconst (pc := 31) (x := 3) d_M_count_31 (by decide) ?_
    refine kx_icmp_eq (pc := 32) (tgt := 40) d_M_count_32 (by decide) (fun hz => absurd hz (by decide)) (fun _ => ?_)
    refine kx_iload_n (pc := 35) d_M_count_35 rfl ?_
    refine kx_iconst (pc := 36) (x := 5) d_M_count_36 (by decide) ?_
    refine kx_icmp_ne (pc := 37) (tgt := 47) d_M_count_37 (by decide) (fun _ => ?_) (fun hz => absurd hz (by decide))
    refine kx_iload_n (pc := 47) d_M_count_47 rfl ?_
    refine kx_iconst (pc := 48) (x := 4) d_M_count_48 (by decide) ?_
    refine kx_icmp_ne (pc := 49) (tgt := 63) d_M_count_49 (by decide) (fun _ => ?_) (fun hz => absurd hz (by decide))
    refine kx_iconst (pc := 63) (x := 0) d_M_count_63 (by decide) ?_
    refine kx_iconst (pc := 64) (x := 1) d_M_count_64 (by decide) ?_
    refine kx_invV (pc := 65) (as := [.int _, .int _]) (st := []) (k := 0) (j := 0) d_M_count_65 wv_M_70 (wd_o rfl) (k_fails0 (a := a) (b := (uo b 61 0 0)) uo_s) rfl rfl (Nat.le_of_ble_eq_true rfl) (by decide) (Nat.le_of_ble_eq_true rfl) (fun rv n' h' hq => ?_) (fun X n' h' hq => nomatch hq.2)
    obtain ⟨rfl, hq⟩ := hq
    cases hq
    refine kx_if_eq (pc := 68) (tgt := 73) d_M_count_68 (by decide) (fun _ => ?_) (fun hz => absurd rfl hz)
    refine kx_iconst (pc := 73) (x := 0) d_M_count_73 (by decide) ?_
    refine kx_eqi (show (0 : Int32) = nI 0 from rfl) ?_
    refine kx_istore_n (pc := 74) (lv' := [(3, _), (0, _), (1, _), (2, _)]) d_M_count_74 rfl (by decide) rfl ?_
    refine kx_iload_n (pc := 75) d_M_count_75 rfl ?_
    refine kx_tsIn (pc := 76) (tgt := 117) d_M_count_76 (by decide) (by decide) rfl (by decide) ?_
    refine kx_aload_n (pc := 117) d_M_count_117 rfl ?_
    refine km_geti (pc := 118) d_M_count_118 fl_M_99 (by decide) rfl (by decide) rfl ?_
    exact kx_iret rfl d_M_count_121 ⟨by rw [s]; try rfl, by rw [s]; try rfl⟩
  by_cases e2 : x1 = 2
  · have s : m_count b ev x1 x2 = (if 0 ≤ x2 ∧ x2 ≤ 15 then (nI (cn (b.1 62) x2 ev), (uo b 61 0 0)) else (0, g_err b 1)) := by unfold m_count; rw [if_neg e0, if_neg e1, if_pos e2]
    subst e2
    refine kx_aload_n (pc := 0) d_M_count_0 rfl ?_
    refine kx_iconst (pc := 1) (x := 0) d_M_count_1 (by decide) ?_
    refine km_puti (pc := 2) d_M_count_2 fl_M_59 fw_M_0 (by decide) rfl (by decide) rfl ?_
    refine kx_aload_n (pc := 5) d_M_count_5 rfl ?_
    refine kx_iload_n (pc := 6) d_M_count_6 rfl ?_
    refine kx_iconst (pc := 7) (x := 0) d_M_count_7 (by decide) ?_
    refine kx_iconst (pc := 8) (x := 5) d_M_count_8 (by decide) ?_
    refine kx_invS (pc := 9) (as := [.int _, .int _, .int _]) (st := _) (k := 0) (j := 0) d_M_count_9 ws_M_66 k_in rfl rfl (Nat.le_of_ble_eq_true rfl) (by decide) (Nat.le_of_ble_eq_true rfl) (fun rv n' h' hq => ?_) (fun X n' h' hq => nomatch hq.2)
    obtain ⟨rfl, hq⟩ := hq
    cases hq
    refine kx_if_eq (pc := 12) (tgt := 59) d_M_count_12 (by decide) (fun hz => absurd hz (by decide)) (fun _ => ?_)
    refine kx_iload_n (pc := 15) d_M_count_15 rfl ?_
    refine kx_iconst (pc := 16) (x := 2) d_M_count_16 (by decide) ?_
    refine kx_icmp_ne (pc := 17) (tgt := 30) d_M_count_17 (by decide) (fun hz => absurd hz (fun w => w rfl)) (fun _ => ?_)
    refine kx_iload_n (pc := 20) d_M_count_20 rfl ?_
    refine kx_iconst (pc := 21) (x := 0) d_M_count_21 (by decide) ?_
    refine kx_bipush (pc := 22) (x := 15) d_M_count_22 (by decide) ?_
    refine kx_invS (pc := 24) (as := [.int _, .int _, .int _]) (st := _) (k := 0) (j := 0) d_M_count_24 ws_M_66 k_in rfl rfl (Nat.le_of_ble_eq_true rfl) (by decide) (Nat.le_of_ble_eq_true rfl) (fun rv n' h' hq => ?_) (fun X n' h' hq => nomatch hq.2)
    obtain ⟨rfl, hq⟩ := hq
    cases hq
    refine kx_if_eq (pc := 27) (tgt := 59) d_M_count_27 (by decide) (fun w1 => ?_) (fun w1 => ?_)
    · have g1 := oz.mp w1
      refine kx_iconst (pc := 59) (x := 1) d_M_count_59 (by decide) ?_
      refine kx_goto (pc := 60) (tgt := 64) d_M_count_60 (by decide) ?_
      refine kx_iconst (pc := 64) (x := 1) d_M_count_64 (by decide) ?_
      refine kx_invV (pc := 65) (as := [.int _, .int _]) (st := []) (k := 0) (j := 0) d_M_count_65 wv_M_70 (wd_o rfl) (k_fails1 (a := a) (b := (uo b 61 0 0)) uo_s (by decide)) rfl rfl (Nat.le_of_ble_eq_true rfl) (by decide) (Nat.le_of_ble_eq_true rfl) (fun rv n' h' hq => ?_) (fun X n' h' hq => nomatch hq.2)
      obtain ⟨rfl, hq⟩ := hq
      cases hq
      refine kx_if_eq (pc := 68) (tgt := 73) d_M_count_68 (by decide) (fun hz => absurd hz (by decide)) (fun _ => ?_)
      refine kx_iconst (pc := 71) (x := 0) d_M_count_71 (by decide) ?_
      exact kx_iret rfl d_M_count_72 ⟨by rw [s, if_neg g1]; try rfl, by rw [s, if_neg g1]; try rfl⟩
    · have g1 := oy w1
      refine kx_iload_n (pc := 30) d_M_count_30 rfl ?_
      refine kx_iconst (pc := 31) (x := 3) d_M_count_31 (by decide) ?_
      refine kx_icmp_eq (pc := 32) (tgt := 40) d_M_count_32 (by decide) (fun hz => absurd hz (by decide)) (fun _ => ?_)
      refine kx_iload_n (pc := 35) d_M_count_35 rfl ?_
      refine kx_iconst (pc := 36) (x := 5) d_M_count_36 (by decide) ?_
      refine kx_icmp_ne (pc := 37) (tgt := 47) d_M_count_37 (by decide) (fun _ => ?_) (fun hz => absurd hz (by decide))
      refine kx_iload_n (pc := 47) d_M_count_47 rfl ?_
      refine kx_iconst (pc := 48) (x := 4) d_M_count_48 (by decide) ?_
      refine kx_icmp_ne (pc := 49) (tgt := 63) d_M_count_49 (by decide) (fun _ => ?_) (fun hz => absurd hz (by decide))
      refine kx_iconst (pc := 63) (x := 0) d_M_count_63 (by decide) ?_
      refine kx_iconst (pc := 64) (x := 1) d_M_count_64 (by decide) ?_
      refine kx_invV (pc := 65) (as := [.int _, .int _]) (st := []) (k := 0) (j := 0) d_M_count_65 wv_M_70 (wd_o rfl) (k_fails0 (a := a) (b := (uo b 61 0 0)) uo_s) rfl rfl (Nat.le_of_ble_eq_true rfl) (by decide) (Nat.le_of_ble_eq_true rfl) (fun rv n' h' hq => ?_) (fun X n' h' hq => nomatch hq.2)
      obtain ⟨rfl, hq⟩ := hq
      cases hq
      refine kx_if_eq (pc := 68) (tgt := 73) d_M_count_68 (by decide) (fun _ => ?_) (fun hz => absurd rfl hz)
      refine kx_iconst (pc := 73) (x := 0) d_M_count_73 (by decide) ?_
      refine kx_eqi (show (0 : Int32) = nI 0 from rfl) ?_
      refine kx_istore_n (pc := 74) (lv' := [(3, _), (0, _), (1, _), (2, _)]) d_M_count_74 rfl (by decide) rfl ?_
      refine kx_iload_n (pc := 75) d_M_count_75 rfl ?_
      refine kx_tsIn (pc := 76) (tgt := 122) d_M_count_76 (by decide) (by decide) rfl (by decide) ?_
      refine kx_aload_n (pc := 122) d_M_count_122 rfl ?_
      refine kx_iload_n (pc := 123) d_M_count_123 rfl ?_
      refine kx_aload_n (pc := 124) d_M_count_124 rfl ?_
      refine km_geti (pc := 125) d_M_count_125 fl_M_63 (by decide) rfl (by decide) rfl ?_
      refine kx_eqi (show _ = nI ev from h1) ?_
      refine kx_invV (pc := 128) (as := [.int _, .int _]) (st := []) (k := 0) (j := 0) d_M_count_128 wv_M_74 (wd_o rfl) (k_inStream (a := a) (b := (uo b 61 0 0)) h5) rfl rfl (Nat.le_of_ble_eq_true rfl) (by decide) (Nat.le_of_ble_eq_true rfl) (fun rv n' h' hq => ?_) (fun X n' h' hq => nomatch hq.2)
      obtain ⟨rfl, hq⟩ := hq
      cases hq
      exact kx_iret rfl d_M_count_131 ⟨by rw [s, if_pos g1]; try rfl, by rw [s, if_pos g1]; try rfl⟩
  by_cases e3 : x1 = 3
  · have s : m_count b ev x1 x2 = (if 0 ≤ x2 ∧ x2 ≤ 7 then (b.1 71 (nt x2), (uo b 61 0 0)) else (0, g_err b 1)) := by unfold m_count; rw [if_neg e0, if_neg e1, if_neg e2, if_pos e3]
    subst e3
    refine kx_aload_n (pc := 0) d_M_count_0 rfl ?_
    refine kx_iconst (pc := 1) (x := 0) d_M_count_1 (by decide) ?_
    refine km_puti (pc := 2) d_M_count_2 fl_M_59 fw_M_0 (by decide) rfl (by decide) rfl ?_
    refine kx_aload_n (pc := 5) d_M_count_5 rfl ?_
    refine kx_iload_n (pc := 6) d_M_count_6 rfl ?_
    refine kx_iconst (pc := 7) (x := 0) d_M_count_7 (by decide) ?_
    refine kx_iconst (pc := 8) (x := 5) d_M_count_8 (by decide) ?_
    refine kx_invS (pc := 9) (as := [.int _, .int _, .int _]) (st := _) (k := 0) (j := 0) d_M_count_9 ws_M_66 k_in rfl rfl (Nat.le_of_ble_eq_true rfl) (by decide) (Nat.le_of_ble_eq_true rfl) (fun rv n' h' hq => ?_) (fun X n' h' hq => nomatch hq.2)
    obtain ⟨rfl, hq⟩ := hq
    cases hq
    refine kx_if_eq (pc := 12) (tgt := 59) d_M_count_12 (by decide) (fun hz => absurd hz (by decide)) (fun _ => ?_)
    refine kx_iload_n (pc := 15) d_M_count_15 rfl ?_
    refine kx_iconst (pc := 16) (x := 2) d_M_count_16 (by decide) ?_
    refine kx_icmp_ne (pc := 17) (tgt := 30) d_M_count_17 (by decide) (fun _ => ?_) (fun hz => absurd hz (by decide))
    refine kx_iload_n (pc := 30) d_M_count_30 rfl ?_
    refine kx_iconst (pc := 31) (x := 3) d_M_count_31 (by decide) ?_
    refine kx_icmp_eq (pc := 32) (tgt := 40) d_M_count_32 (by decide) (fun _ => ?_) (fun hz => absurd rfl hz)
    refine kx_iload_n (pc := 40) d_M_count_40 rfl ?_
    refine kx_invS (pc := 41) (as := [.int _]) (st := _) (k := 0) (j := 0) d_M_count_41 ws_M_82 k_isProjection rfl rfl (Nat.le_of_ble_eq_true rfl) (by decide) (Nat.le_of_ble_eq_true rfl) (fun rv n' h' hq => ?_) (fun X n' h' hq => nomatch hq.2)
    obtain ⟨rfl, hq⟩ := hq
    cases hq
    refine kx_if_eq (pc := 44) (tgt := 59) d_M_count_44 (by decide) (fun w1 => ?_) (fun w1 => ?_)
    · have g1 := oz.mp w1
      refine kx_iconst (pc := 59) (x := 1) d_M_count_59 (by decide) ?_
      refine kx_goto (pc := 60) (tgt := 64) d_M_count_60 (by decide) ?_
      refine kx_iconst (pc := 64) (x := 1) d_M_count_64 (by decide) ?_
      refine kx_invV (pc := 65) (as := [.int _, .int _]) (st := []) (k := 0) (j := 0) d_M_count_65 wv_M_70 (wd_o rfl) (k_fails1 (a := a) (b := (uo b 61 0 0)) uo_s (by decide)) rfl rfl (Nat.le_of_ble_eq_true rfl) (by decide) (Nat.le_of_ble_eq_true rfl) (fun rv n' h' hq => ?_) (fun X n' h' hq => nomatch hq.2)
      obtain ⟨rfl, hq⟩ := hq
      cases hq
      refine kx_if_eq (pc := 68) (tgt := 73) d_M_count_68 (by decide) (fun hz => absurd hz (by decide)) (fun _ => ?_)
      refine kx_iconst (pc := 71) (x := 0) d_M_count_71 (by decide) ?_
      exact kx_iret rfl d_M_count_72 ⟨by rw [s, if_neg g1]; try rfl, by rw [s, if_neg g1]; try rfl⟩
    · have g1 := oy w1
      obtain ⟨p, hp8, rfl, np⟩ := nI_gl (N := 7) (by decide) g1
      have hp : p < 8 := by omega
      refine kx_iload_n (pc := 47) d_M_count_47 rfl ?_
      refine kx_iconst (pc := 48) (x := 4) d_M_count_48 (by decide) ?_
      refine kx_icmp_ne (pc := 49) (tgt := 63) d_M_count_49 (by decide) (fun _ => ?_) (fun hz => absurd hz (by decide))
      refine kx_iconst (pc := 63) (x := 0) d_M_count_63 (by decide) ?_
      refine kx_iconst (pc := 64) (x := 1) d_M_count_64 (by decide) ?_
      refine kx_invV (pc := 65) (as := [.int _, .int _]) (st := []) (k := 0) (j := 0) d_M_count_65 wv_M_70 (wd_o rfl) (k_fails0 (a := a) (b := (uo b 61 0 0)) uo_s) rfl rfl (Nat.le_of_ble_eq_true rfl) (by decide) (Nat.le_of_ble_eq_true rfl) (fun rv n' h' hq => ?_) (fun X n' h' hq => nomatch hq.2)
      obtain ⟨rfl, hq⟩ := hq
      cases hq
      refine kx_if_eq (pc := 68) (tgt := 73) d_M_count_68 (by decide) (fun _ => ?_) (fun hz => absurd rfl hz)
      refine kx_iconst (pc := 73) (x := 0) d_M_count_73 (by decide) ?_
      refine kx_eqi (show (0 : Int32) = nI 0 from rfl) ?_
      refine kx_istore_n (pc := 74) (lv' := [(3, _), (0, _), (1, _), (2, _)]) d_M_count_74 rfl (by decide) rfl ?_
      refine kx_iload_n (pc := 75) d_M_count_75 rfl ?_
      refine kx_tsIn (pc := 76) (tgt := 132) d_M_count_76 (by decide) (by decide) rfl (by decide) ?_
      refine kx_aload_n (pc := 132) d_M_count_132 rfl ?_
      refine kw_getr (pc := 133) (r := 71) d_M_count_133 fl_M_38 rfl (by decide) rfl ?_
      refine kx_iload_n (pc := 136) d_M_count_136 rfl ?_
      refine km_iald (pc := 137) d_M_count_137 (by decide) rfl ⟨rfl, hp, by decide⟩ ?_
      exact kx_iret rfl d_M_count_138 ⟨by rw [s, if_pos g1, np]; try rfl, by rw [s, if_pos g1, np]; try rfl⟩
  by_cases e4 : x1 = 4
  · have s : m_count b ev x1 x2 = (if 0 ≤ x2 ∧ x2 ≤ 7 then (b.1 76 (nt x2), (uo b 61 0 0)) else (0, g_err b 1)) := by unfold m_count; rw [if_neg e0, if_neg e1, if_neg e2, if_neg e3, if_pos e4]
    subst e4
    refine kx_aload_n (pc := 0) d_M_count_0 rfl ?_
    refine kx_iconst (pc := 1) (x := 0) d_M_count_1 (by decide) ?_
    refine km_puti (pc := 2) d_M_count_2 fl_M_59 fw_M_0 (by decide) rfl (by decide) rfl ?_
    refine kx_aload_n (pc := 5) d_M_count_5 rfl ?_
    refine kx_iload_n (pc := 6) d_M_count_6 rfl ?_
    refine kx_iconst (pc := 7) (x := 0) d_M_count_7 (by decide) ?_
    refine kx_iconst (pc := 8) (x := 5) d_M_count_8 (by decide) ?_
    refine kx_invS (pc := 9) (as := [.int _, .int _, .int _]) (st := _) (k := 0) (j := 0) d_M_count_9 ws_M_66 k_in rfl rfl (Nat.le_of_ble_eq_true rfl) (by decide) (Nat.le_of_ble_eq_true rfl) (fun rv n' h' hq => ?_) (fun X n' h' hq => nomatch hq.2)
    obtain ⟨rfl, hq⟩ := hq
    cases hq
    refine kx_if_eq (pc := 12) (tgt := 59) d_M_count_12 (by decide) (fun hz => absurd hz (by decide)) (fun _ => ?_)
    refine kx_iload_n (pc := 15) d_M_count_15 rfl ?_
    refine kx_iconst (pc := 16) (x := 2) d_M_count_16 (by decide) ?_
    refine kx_icmp_ne (pc := 17) (tgt := 30) d_M_count_17 (by decide) (fun _ => ?_) (fun hz => absurd hz (by decide))
    refine kx_iload_n (pc := 30) d_M_count_30 rfl ?_
    refine kx_iconst (pc := 31) (x := 3) d_M_count_31 (by decide) ?_
    refine kx_icmp_eq (pc := 32) (tgt := 40) d_M_count_32 (by decide) (fun hz => absurd hz (by decide)) (fun _ => ?_)
    refine kx_iload_n (pc := 35) d_M_count_35 rfl ?_
    refine kx_iconst (pc := 36) (x := 5) d_M_count_36 (by decide) ?_
    refine kx_icmp_ne (pc := 37) (tgt := 47) d_M_count_37 (by decide) (fun _ => ?_) (fun hz => absurd hz (by decide))
    refine kx_iload_n (pc := 47) d_M_count_47 rfl ?_
    refine kx_iconst (pc := 48) (x := 4) d_M_count_48 (by decide) ?_
    refine kx_icmp_ne (pc := 49) (tgt := 63) d_M_count_49 (by decide) (fun hz => absurd hz (fun w => w rfl)) (fun _ => ?_)
    refine kx_iload_n (pc := 52) d_M_count_52 rfl ?_
    refine kx_invS (pc := 53) (as := [.int _]) (st := _) (k := 0) (j := 0) d_M_count_53 ws_M_96 k_isSubscription rfl rfl (Nat.le_of_ble_eq_true rfl) (by decide) (Nat.le_of_ble_eq_true rfl) (fun rv n' h' hq => ?_) (fun X n' h' hq => nomatch hq.2)
    obtain ⟨rfl, hq⟩ := hq
    cases hq
    refine kx_if_ne (pc := 56) (tgt := 63) d_M_count_56 (by decide) (fun w1 => ?_) (fun w1 => ?_)
    · have g1 := oy w1
      obtain ⟨p, hp8, rfl, np⟩ := nI_gl (N := 7) (by decide) g1
      have hp : p < 8 := by omega
      refine kx_iconst (pc := 63) (x := 0) d_M_count_63 (by decide) ?_
      refine kx_iconst (pc := 64) (x := 1) d_M_count_64 (by decide) ?_
      refine kx_invV (pc := 65) (as := [.int _, .int _]) (st := []) (k := 0) (j := 0) d_M_count_65 wv_M_70 (wd_o rfl) (k_fails0 (a := a) (b := (uo b 61 0 0)) uo_s) rfl rfl (Nat.le_of_ble_eq_true rfl) (by decide) (Nat.le_of_ble_eq_true rfl) (fun rv n' h' hq => ?_) (fun X n' h' hq => nomatch hq.2)
      obtain ⟨rfl, hq⟩ := hq
      cases hq
      refine kx_if_eq (pc := 68) (tgt := 73) d_M_count_68 (by decide) (fun _ => ?_) (fun hz => absurd rfl hz)
      refine kx_iconst (pc := 73) (x := 0) d_M_count_73 (by decide) ?_
      refine kx_eqi (show (0 : Int32) = nI 0 from rfl) ?_
      refine kx_istore_n (pc := 74) (lv' := [(3, _), (0, _), (1, _), (2, _)]) d_M_count_74 rfl (by decide) rfl ?_
      refine kx_iload_n (pc := 75) d_M_count_75 rfl ?_
      refine kx_tsIn (pc := 76) (tgt := 139) d_M_count_76 (by decide) (by decide) rfl (by decide) ?_
      refine kx_aload_n (pc := 139) d_M_count_139 rfl ?_
      refine kw_getr (pc := 140) (r := 76) d_M_count_140 fl_M_53 rfl (by decide) rfl ?_
      refine kx_iload_n (pc := 143) d_M_count_143 rfl ?_
      refine km_iald (pc := 144) d_M_count_144 (by decide) rfl ⟨rfl, hp, by decide⟩ ?_
      exact kx_iret rfl d_M_count_145 ⟨by rw [s, if_pos g1, np]; try rfl, by rw [s, if_pos g1, np]; try rfl⟩
    · have g1 := oz.mp w1
      refine kx_iconst (pc := 59) (x := 1) d_M_count_59 (by decide) ?_
      refine kx_goto (pc := 60) (tgt := 64) d_M_count_60 (by decide) ?_
      refine kx_iconst (pc := 64) (x := 1) d_M_count_64 (by decide) ?_
      refine kx_invV (pc := 65) (as := [.int _, .int _]) (st := []) (k := 0) (j := 0) d_M_count_65 wv_M_70 (wd_o rfl) (k_fails1 (a := a) (b := (uo b 61 0 0)) uo_s (by decide)) rfl rfl (Nat.le_of_ble_eq_true rfl) (by decide) (Nat.le_of_ble_eq_true rfl) (fun rv n' h' hq => ?_) (fun X n' h' hq => nomatch hq.2)
      obtain ⟨rfl, hq⟩ := hq
      cases hq
      refine kx_if_eq (pc := 68) (tgt := 73) d_M_count_68 (by decide) (fun hz => absurd hz (by decide)) (fun _ => ?_)
      refine kx_iconst (pc := 71) (x := 0) d_M_count_71 (by decide) ?_
      exact kx_iret rfl d_M_count_72 ⟨by rw [s, if_neg g1]; try rfl, by rw [s, if_neg g1]; try rfl⟩
  by_cases e5 : x1 = 5
  · have s : m_count b ev x1 x2 = (if 0 ≤ x2 ∧ x2 ≤ 7 then (nI (cn (b.1 64) x2 ev), (uo b 61 0 0)) else (0, g_err b 1)) := by unfold m_count; rw [if_neg e0, if_neg e1, if_neg e2, if_neg e3, if_neg e4, if_pos e5]
    subst e5
    refine kx_aload_n (pc := 0) d_M_count_0 rfl ?_
    refine kx_iconst (pc := 1) (x := 0) d_M_count_1 (by decide) ?_
    refine km_puti (pc := 2) d_M_count_2 fl_M_59 fw_M_0 (by decide) rfl (by decide) rfl ?_
    refine kx_aload_n (pc := 5) d_M_count_5 rfl ?_
    refine kx_iload_n (pc := 6) d_M_count_6 rfl ?_
    refine kx_iconst (pc := 7) (x := 0) d_M_count_7 (by decide) ?_
    refine kx_iconst (pc := 8) (x := 5) d_M_count_8 (by decide) ?_
    refine kx_invS (pc := 9) (as := [.int _, .int _, .int _]) (st := _) (k := 0) (j := 0) d_M_count_9 ws_M_66 k_in rfl rfl (Nat.le_of_ble_eq_true rfl) (by decide) (Nat.le_of_ble_eq_true rfl) (fun rv n' h' hq => ?_) (fun X n' h' hq => nomatch hq.2)
    obtain ⟨rfl, hq⟩ := hq
    cases hq
    refine kx_if_eq (pc := 12) (tgt := 59) d_M_count_12 (by decide) (fun hz => absurd hz (by decide)) (fun _ => ?_)
    refine kx_iload_n (pc := 15) d_M_count_15 rfl ?_
    refine kx_iconst (pc := 16) (x := 2) d_M_count_16 (by decide) ?_
    refine kx_icmp_ne (pc := 17) (tgt := 30) d_M_count_17 (by decide) (fun _ => ?_) (fun hz => absurd hz (by decide))
    refine kx_iload_n (pc := 30) d_M_count_30 rfl ?_
    refine kx_iconst (pc := 31) (x := 3) d_M_count_31 (by decide) ?_
    refine kx_icmp_eq (pc := 32) (tgt := 40) d_M_count_32 (by decide) (fun hz => absurd hz (by decide)) (fun _ => ?_)
    refine kx_iload_n (pc := 35) d_M_count_35 rfl ?_
    refine kx_iconst (pc := 36) (x := 5) d_M_count_36 (by decide) ?_
    refine kx_icmp_ne (pc := 37) (tgt := 47) d_M_count_37 (by decide) (fun hz => absurd hz (fun w => w rfl)) (fun _ => ?_)
    refine kx_iload_n (pc := 40) d_M_count_40 rfl ?_
    refine kx_invS (pc := 41) (as := [.int _]) (st := _) (k := 0) (j := 0) d_M_count_41 ws_M_82 k_isProjection rfl rfl (Nat.le_of_ble_eq_true rfl) (by decide) (Nat.le_of_ble_eq_true rfl) (fun rv n' h' hq => ?_) (fun X n' h' hq => nomatch hq.2)
    obtain ⟨rfl, hq⟩ := hq
    cases hq
    refine kx_if_eq (pc := 44) (tgt := 59) d_M_count_44 (by decide) (fun w1 => ?_) (fun w1 => ?_)
    · have g1 := oz.mp w1
      refine kx_iconst (pc := 59) (x := 1) d_M_count_59 (by decide) ?_
      refine kx_goto (pc := 60) (tgt := 64) d_M_count_60 (by decide) ?_
      refine kx_iconst (pc := 64) (x := 1) d_M_count_64 (by decide) ?_
      refine kx_invV (pc := 65) (as := [.int _, .int _]) (st := []) (k := 0) (j := 0) d_M_count_65 wv_M_70 (wd_o rfl) (k_fails1 (a := a) (b := (uo b 61 0 0)) uo_s (by decide)) rfl rfl (Nat.le_of_ble_eq_true rfl) (by decide) (Nat.le_of_ble_eq_true rfl) (fun rv n' h' hq => ?_) (fun X n' h' hq => nomatch hq.2)
      obtain ⟨rfl, hq⟩ := hq
      cases hq
      refine kx_if_eq (pc := 68) (tgt := 73) d_M_count_68 (by decide) (fun hz => absurd hz (by decide)) (fun _ => ?_)
      refine kx_iconst (pc := 71) (x := 0) d_M_count_71 (by decide) ?_
      exact kx_iret rfl d_M_count_72 ⟨by rw [s, if_neg g1]; try rfl, by rw [s, if_neg g1]; try rfl⟩
    · have g1 := oy w1
      refine kx_iload_n (pc := 47) d_M_count_47 rfl ?_
      refine kx_iconst (pc := 48) (x := 4) d_M_count_48 (by decide) ?_
      refine kx_icmp_ne (pc := 49) (tgt := 63) d_M_count_49 (by decide) (fun _ => ?_) (fun hz => absurd hz (by decide))
      refine kx_iconst (pc := 63) (x := 0) d_M_count_63 (by decide) ?_
      refine kx_iconst (pc := 64) (x := 1) d_M_count_64 (by decide) ?_
      refine kx_invV (pc := 65) (as := [.int _, .int _]) (st := []) (k := 0) (j := 0) d_M_count_65 wv_M_70 (wd_o rfl) (k_fails0 (a := a) (b := (uo b 61 0 0)) uo_s) rfl rfl (Nat.le_of_ble_eq_true rfl) (by decide) (Nat.le_of_ble_eq_true rfl) (fun rv n' h' hq => ?_) (fun X n' h' hq => nomatch hq.2)
      obtain ⟨rfl, hq⟩ := hq
      cases hq
      refine kx_if_eq (pc := 68) (tgt := 73) d_M_count_68 (by decide) (fun _ => ?_) (fun hz => absurd rfl hz)
      refine kx_iconst (pc := 73) (x := 0) d_M_count_73 (by decide) ?_
      refine kx_eqi (show (0 : Int32) = nI (cn (b.1 64) x2 0) from rfl) ?_
      refine kx_istore_n (pc := 74) (lv' := [(3, _), (0, _), (1, _), (2, _)]) d_M_count_74 rfl (by decide) rfl ?_
      refine kx_iload_n (pc := 75) d_M_count_75 rfl ?_
      refine kx_tsOut (pc := 76) (tgt := 146) d_M_count_76 (Or.inr (by decide)) (by decide) ?_
      refine kx_iconst (pc := 146) (x := 0) d_M_count_146 (by decide) ?_
      refine kx_eqi (show (0 : Int32) = nI 0 from rfl) ?_
      refine kx_istore (pc := 147) (lv' := [(4, _), (3, _), (0, _), (1, _), (2, _)]) d_M_count_147 (by decide) rfl ?_
      refine k_mcount_loop (a := a) (b := (uo b 61 0 0)) (ev := ev) h1 h5 ev 0 (by omega) ?_
      exact ⟨by rw [s, if_pos g1]; try rfl, by rw [s, if_pos g1]; try rfl⟩
  have s : m_count b ev x1 x2 = (0, g_err b 1) := by unfold m_count; rw [if_neg e0, if_neg e1, if_neg e2, if_neg e3, if_neg e4, if_neg e5]
  have g : ¬ (0 ≤ x1 ∧ x1 ≤ 5) := by
    intro w
    obtain ⟨j, hj, rfl, -⟩ := nI_gl (N := 5) (by decide) w
    match j, hj with
    | 0, _ => exact e0 rfl
    | 1, _ => exact e1 rfl
    | 2, _ => exact e2 rfl
    | 3, _ => exact e3 rfl
    | 4, _ => exact e4 rfl
    | 5, _ => exact e5 rfl
  refine kx_aload_n (pc := 0) d_M_count_0 rfl ?_
  refine kx_iconst (pc := 1) (x := 0) d_M_count_1 (by decide) ?_
  refine km_puti (pc := 2) d_M_count_2 fl_M_59 fw_M_0 (by decide) rfl (by decide) rfl ?_
  refine kx_aload_n (pc := 5) d_M_count_5 rfl ?_
  refine kx_iload_n (pc := 6) d_M_count_6 rfl ?_
  refine kx_iconst (pc := 7) (x := 0) d_M_count_7 (by decide) ?_
  refine kx_iconst (pc := 8) (x := 5) d_M_count_8 (by decide) ?_
  refine kx_invS (pc := 9) (as := [.int _, .int _, .int _]) (st := _) (k := 0) (j := 0) d_M_count_9 ws_M_66 k_in rfl rfl (Nat.le_of_ble_eq_true rfl) (by decide) (Nat.le_of_ble_eq_true rfl) (fun rv n' h' hq => ?_) (fun X n' h' hq => nomatch hq.2)
  obtain ⟨rfl, hq⟩ := hq
  cases hq
  refine kx_if_eq (pc := 12) (tgt := 59) d_M_count_12 (by decide) (fun _ => ?_) (fun hz => absurd (oz.mpr g) hz)
  refine kx_iconst (pc := 59) (x := 1) d_M_count_59 (by decide) ?_
  refine kx_goto (pc := 60) (tgt := 64) d_M_count_60 (by decide) ?_
  refine kx_iconst (pc := 64) (x := 1) d_M_count_64 (by decide) ?_
  refine kx_invV (pc := 65) (as := [.int _, .int _]) (st := []) (k := 0) (j := 0) d_M_count_65 wv_M_70 (wd_o rfl) (k_fails1 (a := a) (b := (uo b 61 0 0)) uo_s (by decide)) rfl rfl (Nat.le_of_ble_eq_true rfl) (by decide) (Nat.le_of_ble_eq_true rfl) (fun rv n' h' hq => ?_) (fun X n' h' hq => nomatch hq.2)
  obtain ⟨rfl, hq⟩ := hq
  cases hq
  refine kx_if_eq (pc := 68) (tgt := 73) d_M_count_68 (by decide) (fun hz => absurd hz (by decide)) (fun _ => ?_)
  refine kx_iconst (pc := 71) (x := 0) d_M_count_71 (by decide) ?_
  exact kx_iret rfl d_M_count_72 ⟨by rw [s]; try rfl, by rw [s]; try rfl⟩
def g_next (b : kW) (u : Nat) : Nat → Nat → Int32
  | 0, _ => -1
  | m + 1, i => if (b.1 74 u < 0 ∨ b.1 74 u = b.1 62 i) ∧ ¬ ((b.1 75 u >>> (b.1 63 i &&& 31)) &&& 1 = 0) then nI i else g_next b u m (i + 1)
def m_next (b : kW) (ev : Nat) (x1 : Int32) : Int32 × kW := if 0 ≤ x1 ∧ x1 ≤ 7 then (g_next (uo b 61 0 0) (nt x1) (ev - nt (b.1 76 (nt x1))) (nt (b.1 76 (nt x1))), (uo b 61 0 0)) else (0, g_err b 1)
set_option maxHeartbeats 4000000 in
set_option maxRecDepth 100000 in
theorem k_mnext_loop {E : kx_E} {n : Nat} {a b : kW} {u ev : Nat} (hu : u < 8) (h1 : b.2.2 61 1 = nI ev) (h5 : ev ≤ 500) (m : Nat) : ∀ (i : Nat), m = ev - i → i ≤ 500 → ∀ {Q : kx_Q}, Q (Sum.inl (some (.int (g_next b u m i)))) n (wd (wx a b)) → kx_V E i_M_next 3 0 0 Q 0 0 34 [(2, .int (nI i)), (0, .ref 61), (1, .int (nI u))] [] n (wd (wx a b)) := by
  induction m with
  | zero =>
    intro i hm hi Q hQ
    have hle : ev ≤ i := by omega
    refine kx_iload_n (pc := 34) d_M_next_34 rfl ?_
    refine kx_aload_n (pc := 35) d_M_next_35 rfl ?_
    refine km_geti (pc := 36) d_M_next_36 fl_M_63 (by decide) rfl (by decide) rfl ?_
    refine kx_eqi h1 ?_
    refine kx_icmp_ge (pc := 39) (tgt := 92) d_M_next_39 (by decide) (fun _ => ?_) (fun hz => absurd (nI_le hle (by omega)) hz)
    refine kx_iconst (pc := 92) (x := -1) d_M_next_92 (by decide) ?_
    exact kx_iret rfl d_M_next_93 hQ
  | succ m ih =>
    intro i hm hi Q hQ
    have hlt : i < ev := by omega
    have i5 : i < 500 := by omega
    refine kx_iload_n (pc := 34) d_M_next_34 rfl ?_
    refine kx_aload_n (pc := 35) d_M_next_35 rfl ?_
    refine km_geti (pc := 36) d_M_next_36 fl_M_63 (by decide) rfl (by decide) rfl ?_
    refine kx_eqi h1 ?_
    refine kx_icmp_ge (pc := 39) (tgt := 92) d_M_next_39 (by decide) (fun hz => absurd hz (nI_ge hlt (by omega))) (fun _ => ?_)
    refine kx_aload_n (pc := 42) d_M_next_42 rfl ?_
    refine kw_getr (pc := 43) (r := 74) d_M_next_43 fl_M_47 rfl (by decide) rfl ?_
    refine kx_iload_n (pc := 46) d_M_next_46 rfl ?_
    refine km_iald (pc := 47) d_M_next_47 (by decide) rfl ⟨rfl, hu, by decide⟩ ?_
    refine kx_if_lt (pc := 48) (tgt := 66) d_M_next_48 (by decide) (fun hs => ?_) (fun hs => ?_)
    · have hc : b.1 74 u < 0 ∨ b.1 74 u = b.1 62 i := Or.inl hs
      refine kx_aload_n (pc := 66) d_M_next_66 rfl ?_
      refine kw_getr (pc := 67) (r := 75) d_M_next_67 fl_M_50 rfl (by decide) rfl ?_
      refine kx_iload_n (pc := 70) d_M_next_70 rfl ?_
      refine km_iald (pc := 71) d_M_next_71 (by decide) rfl ⟨rfl, hu, by decide⟩ ?_
      refine kx_aload_n (pc := 72) d_M_next_72 rfl ?_
      refine kw_getr (pc := 73) (r := 63) d_M_next_73 fl_M_13 rfl (by decide) rfl ?_
      refine kx_iload_n (pc := 76) d_M_next_76 rfl ?_
      refine km_iald (pc := 77) d_M_next_77 (by decide) rfl ⟨rfl, i5, by decide⟩ ?_
      refine kx_ishr (pc := 78) d_M_next_78 ?_
      refine kx_iconst (pc := 79) (x := 1) d_M_next_79 (by decide) ?_
      refine kx_iand (pc := 80) d_M_next_80 ?_
      refine kx_if_eq (pc := 81) (tgt := 86) d_M_next_81 (by decide) (fun hk => ?_) (fun hk => ?_)
      · have ec : g_next b u (m + 1) i = g_next b u m (i + 1) := if_neg (fun w => w.2 hk)
        refine kx_iinc (pc := 86) (y := nI (i + 1)) (lv' := [(2, _), (0, _), (1, _)]) d_M_next_86 rfl (nI_1 i) (by decide) rfl ?_
        refine kx_goto (pc := 89) (tgt := 34) d_M_next_89 (by decide) ?_
        rw [ec] at hQ
        exact ih (i + 1) (by omega) (by omega) hQ
      · have ec : g_next b u (m + 1) i = nI i := if_pos ⟨hc, hk⟩
        rw [ec] at hQ
        refine kx_iload_n (pc := 84) d_M_next_84 rfl ?_
        exact kx_iret rfl d_M_next_85 hQ
    · refine kx_aload_n (pc := 51) d_M_next_51 rfl ?_
      refine kw_getr (pc := 52) (r := 74) d_M_next_52 fl_M_47 rfl (by decide) rfl ?_
      refine kx_iload_n (pc := 55) d_M_next_55 rfl ?_
      refine km_iald (pc := 56) d_M_next_56 (by decide) rfl ⟨rfl, hu, by decide⟩ ?_
      refine kx_aload_n (pc := 57) d_M_next_57 rfl ?_
      refine kw_getr (pc := 58) (r := 62) d_M_next_58 fl_M_9 rfl (by decide) rfl ?_
      refine kx_iload_n (pc := 61) d_M_next_61 rfl ?_
      refine km_iald (pc := 62) d_M_next_62 (by decide) rfl ⟨rfl, i5, by decide⟩ ?_
      refine kx_icmp_ne (pc := 63) (tgt := 86) d_M_next_63 (by decide) (fun hy => ?_) (fun hy => ?_)
      · have ec : g_next b u (m + 1) i = g_next b u m (i + 1) := if_neg (fun w => w.1.elim hs hy)
        refine kx_iinc (pc := 86) (y := nI (i + 1)) (lv' := [(2, _), (0, _), (1, _)]) d_M_next_86 rfl (nI_1 i) (by decide) rfl ?_
        refine kx_goto (pc := 89) (tgt := 34) d_M_next_89 (by decide) ?_
        rw [ec] at hQ
        exact ih (i + 1) (by omega) (by omega) hQ
      · have hc : b.1 74 u < 0 ∨ b.1 74 u = b.1 62 i := Or.inr hy
        refine kx_aload_n (pc := 66) d_M_next_66 rfl ?_
        refine kw_getr (pc := 67) (r := 75) d_M_next_67 fl_M_50 rfl (by decide) rfl ?_
        refine kx_iload_n (pc := 70) d_M_next_70 rfl ?_
        refine km_iald (pc := 71) d_M_next_71 (by decide) rfl ⟨rfl, hu, by decide⟩ ?_
        refine kx_aload_n (pc := 72) d_M_next_72 rfl ?_
        refine kw_getr (pc := 73) (r := 63) d_M_next_73 fl_M_13 rfl (by decide) rfl ?_
        refine kx_iload_n (pc := 76) d_M_next_76 rfl ?_
        refine km_iald (pc := 77) d_M_next_77 (by decide) rfl ⟨rfl, i5, by decide⟩ ?_
        refine kx_ishr (pc := 78) d_M_next_78 ?_
        refine kx_iconst (pc := 79) (x := 1) d_M_next_79 (by decide) ?_
        refine kx_iand (pc := 80) d_M_next_80 ?_
        refine kx_if_eq (pc := 81) (tgt := 86) d_M_next_81 (by decide) (fun hk => ?_) (fun hk => ?_)
        · have ec : g_next b u (m + 1) i = g_next b u m (i + 1) := if_neg (fun w => w.2 hk)
          refine kx_iinc (pc := 86) (y := nI (i + 1)) (lv' := [(2, _), (0, _), (1, _)]) d_M_next_86 rfl (nI_1 i) (by decide) rfl ?_
          refine kx_goto (pc := 89) (tgt := 34) d_M_next_89 (by decide) ?_
          rw [ec] at hQ
          exact ih (i + 1) (by omega) (by omega) hQ
        · have ec : g_next b u (m + 1) i = nI i := if_pos ⟨hc, hk⟩
          rw [ec] at hQ
          refine kx_iload_n (pc := 84) d_M_next_84 rfl ?_
          exact kx_iret rfl d_M_next_85 hQ
set_option maxHeartbeats 4000000 in
set_option maxRecDepth 100000 in
theorem k_mnext {E : kx_E} {n : Nat} {a b : kW} {ev : Nat} {x1 : Int32} (h1 : b.2.2 61 1 = nI ev) (h5 : ev ≤ 500) (hb : ∀ u, u < 8 → ∃ q, q ≤ 500 ∧ b.1 76 u = nI q) : kx_V E i_M_next 3 0 0 (fun r _ h' => r = Sum.inl (some (.int (m_next b ev x1).1)) ∧ h' = wd (wx a (m_next b ev x1).2)) 0 0 0 (lv_args 0 [.ref 61, .int x1]) [] n (wd (wx a b)) := by
  refine kx_aload_n (pc := 0) d_M_next_0 rfl ?_
  refine kx_iconst (pc := 1) (x := 0) d_M_next_1 (by decide) ?_
  refine km_puti (pc := 2) d_M_next_2 fl_M_59 fw_M_0 (by decide) rfl (by decide) rfl ?_
  refine kx_aload_n (pc := 5) d_M_next_5 rfl ?_
  refine kx_iload_n (pc := 6) d_M_next_6 rfl ?_
  refine kx_invS (pc := 7) (as := [.int _]) (st := _) (k := 0) (j := 0) d_M_next_7 ws_M_96 k_isSubscription rfl rfl (Nat.le_of_ble_eq_true rfl) (by decide) (Nat.le_of_ble_eq_true rfl) (fun rv n' h' hq => ?_) (fun X n' h' hq => nomatch hq.2)
  obtain ⟨rfl, hq⟩ := hq
  cases hq
  refine kx_if_ne (pc := 10) (tgt := 17) d_M_next_10 (by decide) (fun w1 => ?_) (fun w1 => ?_)
  · have g1 := oy w1
    obtain ⟨p, hp8, rfl, np⟩ := nI_gl (N := 7) (by decide) g1
    have hp : p < 8 := by omega
    obtain ⟨q, hq5, eq⟩ := hb p hp
    have nq : nt (b.1 76 p) = q := by rw [eq]; exact nt_nI (by omega)
    refine kx_iconst (pc := 17) (x := 0) d_M_next_17 (by decide) ?_
    refine kx_iconst (pc := 18) (x := 1) d_M_next_18 (by decide) ?_
    refine kx_invV (pc := 19) (as := [.int _, .int _]) (st := []) (k := 0) (j := 0) d_M_next_19 wv_M_70 (wd_o rfl) (k_fails0 (a := a) (b := (uo b 61 0 0)) uo_s) rfl rfl (Nat.le_of_ble_eq_true rfl) (by decide) (Nat.le_of_ble_eq_true rfl) (fun rv n' h' hq => ?_) (fun X n' h' hq => nomatch hq.2)
    obtain ⟨rfl, hq⟩ := hq
    cases hq
    refine kx_if_eq (pc := 22) (tgt := 27) d_M_next_22 (by decide) (fun _ => ?_) (fun hz => absurd rfl hz)
    refine kx_aload_n (pc := 27) d_M_next_27 rfl ?_
    refine kw_getr (pc := 28) (r := 76) d_M_next_28 fl_M_53 rfl (by decide) rfl ?_
    refine kx_iload_n (pc := 31) d_M_next_31 rfl ?_
    refine km_iald (pc := 32) d_M_next_32 (by decide) rfl ⟨rfl, hp, by decide⟩ ?_
    refine kx_eqi (show _ = nI q from eq) ?_
    refine kx_istore_n (pc := 33) (lv' := [(2, _), (0, _), (1, _)]) d_M_next_33 rfl (by decide) rfl ?_
    refine k_mnext_loop (a := a) (b := (uo b 61 0 0)) (ev := ev) hp h1 h5 (ev - q) q rfl hq5 ?_
    exact ⟨by unfold m_next; rw [if_pos g1, np, nq]; try rfl, by unfold m_next; rw [if_pos g1, np, nq]; try rfl⟩
  · have g1 := oz.mp w1
    refine kx_iconst (pc := 13) (x := 1) d_M_next_13 (by decide) ?_
    refine kx_goto (pc := 14) (tgt := 18) d_M_next_14 (by decide) ?_
    refine kx_iconst (pc := 18) (x := 1) d_M_next_18 (by decide) ?_
    refine kx_invV (pc := 19) (as := [.int _, .int _]) (st := []) (k := 0) (j := 0) d_M_next_19 wv_M_70 (wd_o rfl) (k_fails1 (a := a) (b := (uo b 61 0 0)) uo_s (by decide)) rfl rfl (Nat.le_of_ble_eq_true rfl) (by decide) (Nat.le_of_ble_eq_true rfl) (fun rv n' h' hq => ?_) (fun X n' h' hq => nomatch hq.2)
    obtain ⟨rfl, hq⟩ := hq
    cases hq
    refine kx_if_eq (pc := 22) (tgt := 27) d_M_next_22 (by decide) (fun hz => absurd hz (by decide)) (fun _ => ?_)
    refine kx_iconst (pc := 25) (x := 0) d_M_next_25 (by decide) ?_
    exact kx_iret rfl d_M_next_26 ⟨by unfold m_next; rw [if_neg g1]; try rfl, by unfold m_next; rw [if_neg g1]; try rfl⟩
