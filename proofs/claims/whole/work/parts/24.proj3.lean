set_option maxHeartbeats 4000000 in
set_option maxRecDepth 100000 in
theorem k_takeOne {E : kx_E} {n : Nat} {a b : kW} {p q sz : Nat} (hp : p < 8) (hq5 : q ≤ 500) (h1 : a.2.2 1 9 = nI sz) (h5 : sz ≤ 500) (hnum : a.2.2 (12 + 5 * p) 0 = nI p) (hpos : a.2.2 (12 + 5 * p) 4 = nI q) (hI : ∀ k, k < sz → (∃ t, t < 8 ∧ a.1 4 k = nI t) ∧ ∃ s, s < 16 ∧ a.1 2 k = nI s) : kx_V E i_P_takeOne 4 0 0 (fun r _ h' => r = Sum.inl (some (.int (if (f_takeAt a p sz q).1 then 1 else 0))) ∧ h' = wd (wx (f_takeAt a p sz q).2 b)) 0 0 0 (lv_args 0 [.ref (12 + 5 * p), .ref 1]) [] n (wd (wx a b)) := by
  refine kx_aload_n (pc := 0) d_P_takeOne_0 rfl ?_
  refine ka_geti (pc := 1) d_P_takeOne_1 fl_P_35 (by omega) (wk_p0 hp) (by decide) (wf_p4 hp) ?_
  refine kx_eqi hpos ?_
  refine kx_aload_n (pc := 4) d_P_takeOne_4 rfl ?_
  refine ka_geti (pc := 5) d_P_takeOne_5 fl_P_38 (by decide) rfl (by decide) rfl ?_
  refine kx_eqi h1 ?_
  refine kx_icmp_lt (pc := 8) (tgt := 13) d_P_takeOne_8 (by decide) (fun hlt => ?_) (fun hge => ?_)
  · have hlt2 : q < sz := by
      rcases Nat.lt_or_ge q sz with w | w
      · exact w
      · exact absurd hlt (nI_nlt w (by omega))
    obtain ⟨⟨t, ht, ek⟩, ⟨s, hs, es⟩⟩ := hI q hlt2
    have nk : nt (a.1 4 q) = t := by rw [ek]; exact nt_nI (by omega)
    have hc16 : f_cell a p q < 16 := f_cell_lt hs es
    have q5 : q < 500 := by omega
    have et : f_takeAt a p sz q = if a.1 (12 + 5 * p + 1) t = 6 then (if (f_count a p q (f_cell a p q) sz).1 then (true, uo (f_count a p q (f_cell a p q) sz).2 (12 + 5 * p) 4 (nI (q + 1))) else (false, (f_count a p q (f_cell a p q) sz).2)) else (true, uo (ul a (12 + 5 * p + 3) (f_cell a p q) (f_fold (a.1 (12 + 5 * p + 1) t) (a.2.1 (12 + 5 * p + 3) (f_cell a p q)) (a.2.1 5 q))) (12 + 5 * p) 4 (nI (q + 1))) := by
      unfold f_takeAt
      rw [if_neg (by omega), nk]
    refine kx_aload_n (pc := 13) d_P_takeOne_13 rfl ?_
    refine kw_getr (pc := 14) d_P_takeOne_14 fl_P_15 (wk_p0 hp) (by decide) (wf_p1 hp) ?_
    refine kx_aload_n (pc := 17) d_P_takeOne_17 rfl ?_
    refine kw_getr (pc := 18) (r := 4) d_P_takeOne_18 fl_P_43 rfl (by decide) rfl ?_
    refine kx_aload_n (pc := 21) d_P_takeOne_21 rfl ?_
    refine ka_geti (pc := 22) d_P_takeOne_22 fl_P_35 (by omega) (wk_p0 hp) (by decide) (wf_p4 hp) ?_
    refine kx_eqi hpos ?_
    refine ka_iald (pc := 25) d_P_takeOne_25 (by decide) rfl ⟨rfl, q5, by decide⟩ ?_
    refine kx_eqi ek ?_
    refine ka_iald (pc := 26) d_P_takeOne_26 (by omega) (wk_p1 hp) ⟨rfl, ht, by decide⟩ ?_
    refine kx_istore_n (pc := 27) (lv' := [(2, _), (0, _), (1, _)]) d_P_takeOne_27 rfl (by decide) rfl ?_
    refine kx_aload_n (pc := 28) d_P_takeOne_28 rfl ?_
    refine kx_aload_n (pc := 29) d_P_takeOne_29 rfl ?_
    refine kx_invV (pc := 30) (as := [.ref _]) (st := []) (k := 0) (j := 0) d_P_takeOne_30 wv_P_46 (wd_o (wk_p0 hp)) (k_targetCell (a := a) (b := b) hp q5 hpos ht ek hs es) rfl rfl (Nat.le_of_ble_eq_true rfl) (by decide) (Nat.le_of_ble_eq_true rfl) (fun rv n' h' hq => ?_) (fun X n' h' hq => nomatch hq.2)
    obtain ⟨rfl, hq⟩ := hq
    cases hq
    refine kx_istore_n (pc := 33) (lv' := [(3, _), (2, _), (0, _), (1, _)]) d_P_takeOne_33 rfl (by decide) rfl ?_
    refine kx_iload_n (pc := 34) d_P_takeOne_34 rfl ?_
    refine kx_bipush (pc := 35) (x := 6) d_P_takeOne_35 (by decide) ?_
    refine kx_icmp_ne (pc := 37) (tgt := 51) d_P_takeOne_37 (by decide) (fun hx => ?_) (fun hx => ?_)
    · refine kx_aload_n (pc := 51) d_P_takeOne_51 rfl ?_
      refine kw_getr (pc := 52) d_P_takeOne_52 fl_P_22 (wk_p0 hp) (by decide) (wf_p3 hp) ?_
      refine kx_iload_n (pc := 55) d_P_takeOne_55 rfl ?_
      refine kx_iload_n (pc := 56) d_P_takeOne_56 rfl ?_
      refine kx_aload_n (pc := 57) d_P_takeOne_57 rfl ?_
      refine kw_getr (pc := 58) d_P_takeOne_58 fl_P_22 (wk_p0 hp) (by decide) (wf_p3 hp) ?_
      refine kx_iload_n (pc := 61) d_P_takeOne_61 rfl ?_
      refine ka_lald (pc := 62) d_P_takeOne_62 (by omega) (wk_p3 hp) ⟨rfl, hc16, by decide⟩ ?_
      refine kx_aload_n (pc := 63) d_P_takeOne_63 rfl ?_
      refine kw_getr (pc := 64) (r := 5) d_P_takeOne_64 fl_P_54 rfl (by decide) rfl ?_
      refine kx_aload_n (pc := 67) d_P_takeOne_67 rfl ?_
      refine ka_geti (pc := 68) d_P_takeOne_68 fl_P_35 (by omega) (wk_p0 hp) (by decide) (wf_p4 hp) ?_
      refine kx_eqi hpos ?_
      refine ka_lald (pc := 71) d_P_takeOne_71 (by decide) rfl ⟨rfl, q5, by decide⟩ ?_
      refine kx_invS (pc := 72) (as := [.int _, .long _, .long _]) (st := _) (k := 0) (j := 0) d_P_takeOne_72 ws_P_57 k_folded rfl rfl (Nat.le_of_ble_eq_true rfl) (by decide) (Nat.le_of_ble_eq_true rfl) (fun rv n' h' hq => ?_) (fun X n' h' hq => nomatch hq.2)
      obtain ⟨rfl, hq⟩ := hq
      cases hq
      refine ka_last (pc := 75) d_P_takeOne_75 (by omega) (wk_p3 hp) ⟨rfl, hc16, by decide⟩ ?_
      refine kx_aload_n (pc := 76) d_P_takeOne_76 rfl ?_
      refine kx_dup (pc := 77) d_P_takeOne_77 rfl ?_
      refine ka_geti (pc := 78) d_P_takeOne_78 fl_P_35 (by omega) (wk_p0 hp) (by decide) (wf_p4 hp) ?_
      refine kx_eqi hpos ?_
      refine kx_iconst (pc := 81) (x := 1) d_P_takeOne_81 (by decide) ?_
      refine kx_iadd (pc := 82) d_P_takeOne_82 ?_
      refine kx_eqi (nI_1 q) ?_
      refine ka_puti (pc := 83) d_P_takeOne_83 fl_P_35 fw_P_4 (by omega) (wk_p0 hp) (by decide) (wf_p4 hp) ?_
      refine kx_iconst (pc := 86) (x := 1) d_P_takeOne_86 (by decide) ?_
      exact kx_zret rfl rfl d_P_takeOne_87 ⟨by rw [et, if_neg hx]; rfl, by rw [et, if_neg hx]⟩
    · refine kx_aload_n (pc := 40) d_P_takeOne_40 rfl ?_
      refine kx_aload_n (pc := 41) d_P_takeOne_41 rfl ?_
      refine kx_iload_n (pc := 42) d_P_takeOne_42 rfl ?_
      refine kx_invV (pc := 43) (as := [.ref _, .int _]) (st := []) (k := 0) (j := 0) d_P_takeOne_43 wv_P_50 (wd_o (wk_p0 hp)) (k_countAndEmit (a := a) (b := b) (k := f_cell a p q) hp q5 hc16 h1 h5 hnum hpos) rfl rfl (Nat.le_of_ble_eq_true rfl) (by decide) (Nat.le_of_ble_eq_true rfl) (fun rv n' h' hq => ?_) (fun X n' h' hq => nomatch hq.1)
      obtain ⟨hq, rfl⟩ := hq
      cases hq
      refine kx_if_ne (pc := 46) (tgt := 76) d_P_takeOne_46 (by decide) (fun hz => ?_) (fun hz => ?_)
      · have hct : (f_count a p q (f_cell a p q) sz).1 = true := by
          cases hw : (f_count a p q (f_cell a p q) sz).1
          · rw [hw] at hz
            exact absurd rfl hz
          · rfl
        refine kx_aload_n (pc := 76) d_P_takeOne_76 rfl ?_
        refine kx_dup (pc := 77) d_P_takeOne_77 rfl ?_
        refine ka_geti (pc := 78) d_P_takeOne_78 fl_P_35 (by omega) (wk_p0 hp) (by decide) (wf_p4 hp) ?_
        refine kx_eqi ((f_count_o a p q (f_cell a p q) sz p 4).trans hpos) ?_
        refine kx_iconst (pc := 81) (x := 1) d_P_takeOne_81 (by decide) ?_
        refine kx_iadd (pc := 82) d_P_takeOne_82 ?_
        refine kx_eqi (nI_1 q) ?_
        refine ka_puti (pc := 83) d_P_takeOne_83 fl_P_35 fw_P_4 (by omega) (wk_p0 hp) (by decide) (wf_p4 hp) ?_
        refine kx_iconst (pc := 86) (x := 1) d_P_takeOne_86 (by decide) ?_
        exact kx_zret rfl rfl d_P_takeOne_87 ⟨by rw [et, if_pos hx, if_pos hct]; rfl, by rw [et, if_pos hx, if_pos hct]⟩
      · have hcf : ¬ ((f_count a p q (f_cell a p q) sz).1 = true) := by
          intro hw
          rw [hw] at hz
          exact absurd hz (by decide)
        refine kx_iconst (pc := 49) (x := 0) d_P_takeOne_49 (by decide) ?_
        exact kx_zret rfl rfl d_P_takeOne_50 ⟨by rw [et, if_pos hx, if_neg hcf]; rfl, by rw [et, if_pos hx, if_neg hcf]⟩
  · have hge2 : sz ≤ q := by
      rcases Nat.lt_or_ge q sz with w | w
      · exact absurd (nI_lt w (by omega)) hge
      · exact w
    have et : f_takeAt a p sz q = (false, a) := if_pos hge2
    refine kx_iconst (pc := 11) (x := 0) d_P_takeOne_11 (by decide) ?_
    exact kx_zret rfl rfl d_P_takeOne_12 ⟨by rw [et]; rfl, by rw [et]⟩
set_option maxHeartbeats 4000000 in
set_option maxRecDepth 100000 in
theorem k_keep {E : kx_E} {n : Nat} {a b : kW} {p : Nat} {x : Int32} (hp : p < 8) : kx_V E i_P_keep 3 0 0 (fun r _ h' => r = Sum.inl (some (.int (a.2.2 (12 + 5 * p) 4))) ∧ h' = wd (wx (f_keep a p x) b)) 0 0 0 (lv_args 0 [.ref (12 + 5 * p), .int x]) [] n (wd (wx a b)) := by
  refine kx_aload_n (pc := 0) d_P_keep_0 rfl ?_
  refine kw_getr (pc := 1) d_P_keep_1 fl_P_22 (wk_p0 hp) (by decide) (wf_p3 hp) ?_
  refine kx_iconst (pc := 4) (x := 0) d_P_keep_4 (by decide) ?_
  refine kx_aload_n (pc := 5) d_P_keep_5 rfl ?_
  refine kw_getr (pc := 6) d_P_keep_6 fl_P_26 (wk_p0 hp) (by decide) (wf_p5 hp) ?_
  refine kx_iconst (pc := 9) (x := 0) d_P_keep_9 (by decide) ?_
  refine kx_bipush (pc := 10) (x := 16) d_P_keep_10 (by decide) ?_
  refine kx_eqi (show (16 : Int32) = nI 16 from rfl) ?_
  refine ka_copy (pc := 12) d_P_keep_12 (kx_t 174 (by decide +kernel) rfl) (kx_t 176 (by decide +kernel) rfl) (kx_t 175 (by decide +kernel) rfl) (kx_t 13 (by decide +kernel) rfl) (by omega) (by omega) (wk_p3 hp) (wk_p4 hp) (by decide) (by decide) (Nat.le_of_ble_eq_true rfl) ?_
  refine kx_aload_n (pc := 15) d_P_keep_15 rfl ?_
  refine kx_aload_n (pc := 16) d_P_keep_16 rfl ?_
  refine ka_geti (pc := 17) d_P_keep_17 fl_P_35 (by omega) (wk_p0 hp) (by decide) (wf_p4 hp) ?_
  refine ka_puti (pc := 20) d_P_keep_20 fl_P_93 fw_P_6 (by omega) (wk_p0 hp) (by decide) (wf_p6 hp) ?_
  refine kx_aload_n (pc := 23) d_P_keep_23 rfl ?_
  refine kx_iload_n (pc := 24) d_P_keep_24 rfl ?_
  refine ka_puti (pc := 25) d_P_keep_25 fl_P_29 fw_P_7 (by omega) (wk_p0 hp) (by decide) (wf_p7 hp) ?_
  refine kx_aload_n (pc := 28) d_P_keep_28 rfl ?_
  refine ka_geti (pc := 29) d_P_keep_29 fl_P_35 (by omega) (wk_p0 hp) (by decide) (wf_p4 hp) ?_
  refine kx_eqi (show _ = a.2.2 (12 + 5 * p) 4 by rw [uo_k (by decide), uo_k (by decide)]; rfl) ?_
  exact kx_iret rfl d_P_keep_32 ⟨rfl, rfl⟩
set_option maxHeartbeats 4000000 in
set_option maxRecDepth 100000 in
theorem k_precover {E : kx_E} {n : Nat} {a b : kW} {p : Nat} {x : Int32} (hp : p < 8) : kx_V E i_P_recover 3 0 0 (fun r _ h' => h' = wd (wx (f_recover a p x) b) ∧ r = Sum.inl none) 0 0 0 (lv_args 0 [.ref (12 + 5 * p), .int x]) [] n (wd (wx a b)) := by
  have over : (a.2.2 (12 + 5 * p) 7 = -1 ∨ x < a.2.2 (12 + 5 * p) 7) → kx_V E i_P_recover 3 0 0 (fun r _ h' => h' = wd (wx (f_recover a p x) b) ∧ r = Sum.inl none) 0 0 16 [(0, .ref (12 + 5 * p)), (1, .int x)] [] n (wd (wx a b)) := by
    intro hc
    have e0 : f_recover a p x = f_over a p := if_pos hc
    refine kx_aload_n (pc := 16) d_P_recover_16 rfl ?_
    refine kx_invV (pc := 17) (as := []) (st := []) (k := 0) (j := 0) d_P_recover_17 wv_P_32 (wd_o (wk_p0 hp)) (k_startOver hp) rfl rfl (Nat.le_of_ble_eq_true rfl) (by decide) (Nat.le_of_ble_eq_true rfl) (fun rv n' h' hq => ?_) (fun X n' h' hq => nomatch hq.2)
    obtain ⟨rfl, hq⟩ := hq
    cases hq
    refine kx_goto (pc := 20) (tgt := 46) d_P_recover_20 (by decide) ?_
    exact kx_vret rfl d_P_recover_46 ⟨by rw [e0], rfl⟩
  refine kx_aload_n (pc := 0) d_P_recover_0 rfl ?_
  refine ka_geti (pc := 1) d_P_recover_1 fl_P_29 (by omega) (wk_p0 hp) (by decide) (wf_p7 hp) ?_
  refine kx_iconst (pc := 4) (x := -1) d_P_recover_4 (by decide) ?_
  refine kx_icmp_eq (pc := 5) (tgt := 16) d_P_recover_5 (by decide) (fun hz => ?_) (fun hz => ?_)
  · exact over (Or.inl hz)
  · refine kx_aload_n (pc := 8) d_P_recover_8 rfl ?_
    refine ka_geti (pc := 9) d_P_recover_9 fl_P_29 (by omega) (wk_p0 hp) (by decide) (wf_p7 hp) ?_
    refine kx_iload_n (pc := 12) d_P_recover_12 rfl ?_
    refine kx_icmp_le (pc := 13) (tgt := 23) d_P_recover_13 (by decide) (fun hy => ?_) (fun hy => ?_)
    · have e0 : f_recover a p x = uo (uL a (12 + 5 * p + 3) (va_cpy (a.2.1 (12 + 5 * p + 4)) (a.2.1 (12 + 5 * p + 3)) 0 0 16)) (12 + 5 * p) 4 (a.2.2 (12 + 5 * p) 6) := if_neg (fun w => w.elim hz (fun w2 => Int32.not_lt.mpr hy w2))
      refine kx_aload_n (pc := 23) d_P_recover_23 rfl ?_
      refine kw_getr (pc := 24) d_P_recover_24 fl_P_26 (wk_p0 hp) (by decide) (wf_p5 hp) ?_
      refine kx_iconst (pc := 27) (x := 0) d_P_recover_27 (by decide) ?_
      refine kx_aload_n (pc := 28) d_P_recover_28 rfl ?_
      refine kw_getr (pc := 29) d_P_recover_29 fl_P_22 (wk_p0 hp) (by decide) (wf_p3 hp) ?_
      refine kx_iconst (pc := 32) (x := 0) d_P_recover_32 (by decide) ?_
      refine kx_bipush (pc := 33) (x := 16) d_P_recover_33 (by decide) ?_
      refine kx_eqi (show (16 : Int32) = nI 16 from rfl) ?_
      refine ka_copy (pc := 35) d_P_recover_35 (kx_t 174 (by decide +kernel) rfl) (kx_t 176 (by decide +kernel) rfl) (kx_t 175 (by decide +kernel) rfl) (kx_t 13 (by decide +kernel) rfl) (by omega) (by omega) (wk_p4 hp) (wk_p3 hp) (by decide) (by decide) (Nat.le_of_ble_eq_true rfl) ?_
      refine kx_aload_n (pc := 38) d_P_recover_38 rfl ?_
      refine kx_aload_n (pc := 39) d_P_recover_39 rfl ?_
      refine ka_geti (pc := 40) d_P_recover_40 fl_P_93 (by omega) (wk_p0 hp) (by decide) (wf_p6 hp) ?_
      refine ka_puti (pc := 43) d_P_recover_43 fl_P_35 fw_P_4 (by omega) (wk_p0 hp) (by decide) (wf_p4 hp) ?_
      exact kx_vret rfl d_P_recover_46 ⟨by rw [e0]; rfl, rfl⟩
    · exact over (Or.inr (Int32.not_le.mp hy))
