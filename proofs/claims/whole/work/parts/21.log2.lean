set_option maxHeartbeats 4000000 in
set_option maxRecDepth 100000 in
theorem k_putEmitted {E : kx_E} {n : Nat} {a b : kW} {sz p c : Nat} {v : Int64} (h1 : a.2.2 1 9 = nI sz) (h2 : sz < 500) (hp : p < 8) (hc : c < 500) : kx_V E i_L_putEmitted 2 0 0 (fun r _ h' => h' = wd (wx (f_emit a sz p c (l4 (a.2.1 5 c)) v) b) ∧ r = Sum.inl none) 0 0 0 (lv_args 0 [.ref 1, .int (nI p), .int (nI c), .long v]) [] n (wd (wx a b)) := by
  refine kx_aload_n (pc := 0) d_L_putEmitted_0 rfl ?_
  refine kx_aload_n (pc := 1) d_L_putEmitted_1 rfl ?_
  refine kw_getr (pc := 2) (r := 5) d_L_putEmitted_2 fl_L_21 rfl (by decide) rfl ?_
  refine kx_iload_n (pc := 5) d_L_putEmitted_5 rfl ?_
  refine ka_lald (pc := 6) d_L_putEmitted_6 (by decide) rfl ⟨rfl, by omega, by decide⟩ ?_
  refine kx_ldc2 (pc := 7) (x := 15) d_L_putEmitted_7 (kx_t 354 (by decide +kernel) rfl) ?_
  refine kx_land (pc := 10) d_L_putEmitted_10 ?_
  refine kx_l2i (pc := 11) d_L_putEmitted_11 ?_
  refine kx_eqi (l4_a _) ?_
  refine kx_bipush (pc := 12) (x := 7) d_L_putEmitted_12 (by decide) ?_
  refine kx_lload_n (pc := 14) d_L_putEmitted_14 rfl ?_
  refine kx_invV (pc := 15) (as := [.int _, .int _, .long _]) (st := []) (k := 0) (j := 0) d_L_putEmitted_15 wv_L_46 (wd_o rfl) (k_put h1 h2 (l4_lt _)) rfl rfl (Nat.le_of_ble_eq_true rfl) (by decide) (Nat.le_of_ble_eq_true rfl) (fun rv n' h' hq => ?_) (fun X n' h' hq => nomatch hq.2)
  obtain ⟨rfl, hq⟩ := hq
  cases hq
  refine kx_istore (pc := 18) (lv' := [(5, _), (0, _), (1, _), (2, _), (3, _)]) d_L_putEmitted_18 (by decide) rfl ?_
  refine kx_aload_n (pc := 20) d_L_putEmitted_20 rfl ?_
  refine kw_getr (pc := 21) (r := 6) d_L_putEmitted_21 fl_L_25 rfl (by decide) rfl ?_
  refine kx_iload (pc := 24) d_L_putEmitted_24 rfl ?_
  refine kx_iload_n (pc := 26) d_L_putEmitted_26 rfl ?_
  refine ka_iast (pc := 27) d_L_putEmitted_27 (by decide) rfl ⟨rfl, h2, by decide⟩ ?_
  refine kx_aload_n (pc := 28) d_L_putEmitted_28 rfl ?_
  refine kw_getr (pc := 29) (r := 7) d_L_putEmitted_29 fl_L_28 rfl (by decide) rfl ?_
  refine kx_iload (pc := 32) d_L_putEmitted_32 rfl ?_
  refine kx_iload_n (pc := 34) d_L_putEmitted_34 rfl ?_
  refine ka_iast (pc := 35) d_L_putEmitted_35 (by decide) rfl ⟨rfl, h2, by decide⟩ ?_
  refine kx_aload_n (pc := 36) d_L_putEmitted_36 rfl ?_
  refine kw_getr (pc := 37) (r := 8) d_L_putEmitted_37 fl_L_31 rfl (by decide) rfl ?_
  refine kx_iload_n (pc := 40) d_L_putEmitted_40 rfl ?_
  refine kx_dup2 (pc := 41) d_L_putEmitted_41 rfl rfl ?_
  refine ka_iald (pc := 42) d_L_putEmitted_42 (by decide) rfl ⟨rfl, by omega, by decide⟩ ?_
  refine kx_iconst (pc := 43) (x := 1) d_L_putEmitted_43 (by decide) ?_
  refine kx_iload_n (pc := 44) d_L_putEmitted_44 rfl ?_
  refine kx_ishl (pc := 45) d_L_putEmitted_45 ?_
  refine kx_ior (pc := 46) d_L_putEmitted_46 ?_
  refine ka_iast (pc := 47) d_L_putEmitted_47 (by decide) rfl ⟨rfl, by omega, by decide⟩ ?_
  refine kx_aload_n (pc := 48) d_L_putEmitted_48 rfl ?_
  refine kw_getr (pc := 49) (r := 10) d_L_putEmitted_49 fl_L_37 rfl (by decide) rfl ?_
  refine kx_iload_n (pc := 52) d_L_putEmitted_52 rfl ?_
  refine kx_dup2 (pc := 53) d_L_putEmitted_53 rfl rfl ?_
  refine ka_iald (pc := 54) d_L_putEmitted_54 (by decide) rfl ⟨rfl, by omega, by decide⟩ ?_
  refine kx_iconst (pc := 55) (x := 1) d_L_putEmitted_55 (by decide) ?_
  refine kx_iadd (pc := 56) d_L_putEmitted_56 ?_
  refine ka_iast (pc := 57) d_L_putEmitted_57 (by decide) rfl ⟨rfl, by omega, by decide⟩ ?_
  exact kx_vret rfl d_L_putEmitted_58 ⟨rfl, rfl⟩
set_option maxHeartbeats 4000000 in
set_option maxRecDepth 100000 in
theorem k_hasEmitted {E : kx_E} {n : Nat} {a b : kW} {p c : Nat} (hc : c < 500) : kx_V E i_L_hasEmitted 1 0 0 (fun r _ h' => h' = wd (wx a b) ∧ r = Sum.inl (some (.int (if a.1 8 c &&& kb p = 0 then 0 else 1)))) 0 0 0 (lv_args 0 [.ref 1, .int (nI p), .int (nI c)]) [] n (wd (wx a b)) := by
  refine kx_aload_n (pc := 0) d_L_hasEmitted_0 rfl ?_
  refine kw_getr (pc := 1) (r := 8) d_L_hasEmitted_1 fl_L_31 rfl (by decide) rfl ?_
  refine kx_iload_n (pc := 4) d_L_hasEmitted_4 rfl ?_
  refine ka_iald (pc := 5) d_L_hasEmitted_5 (by decide) rfl ⟨rfl, by omega, by decide⟩ ?_
  refine kx_iconst (pc := 6) (x := 1) d_L_hasEmitted_6 (by decide) ?_
  refine kx_iload_n (pc := 7) d_L_hasEmitted_7 rfl ?_
  refine kx_ishl (pc := 8) d_L_hasEmitted_8 ?_
  refine kx_eqi (show _ = kb p from rfl) ?_
  refine kx_iand (pc := 9) d_L_hasEmitted_9 ?_
  refine kx_if_eq (pc := 10) (tgt := 17) d_L_hasEmitted_10 (by decide) (fun hz => ?_) (fun hz => ?_)
  · refine kx_iconst (pc := 17) (x := 0) d_L_hasEmitted_17 (by decide) ?_
    exact kx_zret rfl rfl d_L_hasEmitted_18 ⟨rfl, by rw [if_pos hz]⟩
  · refine kx_iconst (pc := 13) (x := 1) d_L_hasEmitted_13 (by decide) ?_
    refine kx_goto (pc := 14) (tgt := 18) d_L_hasEmitted_14 (by decide) ?_
    exact kx_zret rfl rfl d_L_hasEmitted_18 ⟨rfl, by rw [if_neg hz]⟩
set_option maxHeartbeats 4000000 in
set_option maxRecDepth 100000 in
theorem k_forgetCause {E : kx_E} {n : Nat} {a b : kW} {q p c : Nat} (hq : q < 500) (hp : p < 8) (hc : c < 500) (e1 : a.1 6 q = nI p) (e2 : a.1 7 q = nI c) : kx_V E i_L_forgetCause 1 0 0 (fun r _ h' => h' = wd (wx (f_forget a q) b) ∧ r = Sum.inl none) 0 0 0 (lv_args 0 [.ref 1, .int (nI q)]) [] n (wd (wx a b)) := by
  have n1 : nt (a.1 6 q) = p := by rw [e1]; exact nt_nI (by omega)
  have n2 : nt (a.1 7 q) = c := by rw [e2]; exact nt_nI (by omega)
  unfold f_forget
  rw [n1, n2]
  refine kx_aload_n (pc := 0) d_L_forgetCause_0 rfl ?_
  refine kw_getr (pc := 1) (r := 6) d_L_forgetCause_1 fl_L_25 rfl (by decide) rfl ?_
  refine kx_iload_n (pc := 4) d_L_forgetCause_4 rfl ?_
  refine ka_iald (pc := 5) d_L_forgetCause_5 (by decide) rfl ⟨rfl, by omega, by decide⟩ ?_
  refine kx_eqi e1 ?_
  refine kx_istore_n (pc := 6) (lv' := [(2, _), (0, _), (1, _)]) d_L_forgetCause_6 rfl (by decide) rfl ?_
  refine kx_aload_n (pc := 7) d_L_forgetCause_7 rfl ?_
  refine kw_getr (pc := 8) (r := 8) d_L_forgetCause_8 fl_L_31 rfl (by decide) rfl ?_
  refine kx_aload_n (pc := 11) d_L_forgetCause_11 rfl ?_
  refine kw_getr (pc := 12) (r := 7) d_L_forgetCause_12 fl_L_28 rfl (by decide) rfl ?_
  refine kx_iload_n (pc := 15) d_L_forgetCause_15 rfl ?_
  refine ka_iald (pc := 16) d_L_forgetCause_16 (by decide) rfl ⟨rfl, by omega, by decide⟩ ?_
  refine kx_eqi e2 ?_
  refine kx_dup2 (pc := 17) d_L_forgetCause_17 rfl rfl ?_
  refine ka_iald (pc := 18) d_L_forgetCause_18 (by decide) rfl ⟨rfl, by omega, by decide⟩ ?_
  refine kx_iconst (pc := 19) (x := 1) d_L_forgetCause_19 (by decide) ?_
  refine kx_iload_n (pc := 20) d_L_forgetCause_20 rfl ?_
  refine kx_ishl (pc := 21) d_L_forgetCause_21 ?_
  refine kx_iconst (pc := 22) (x := -1) d_L_forgetCause_22 (by decide) ?_
  refine kx_ixor (pc := 23) d_L_forgetCause_23 ?_
  refine kx_iand (pc := 24) d_L_forgetCause_24 ?_
  refine ka_iast (pc := 25) d_L_forgetCause_25 (by decide) rfl ⟨rfl, by omega, by decide⟩ ?_
  refine kx_aload_n (pc := 26) d_L_forgetCause_26 rfl ?_
  refine kw_getr (pc := 27) (r := 10) d_L_forgetCause_27 fl_L_37 rfl (by decide) rfl ?_
  refine kx_iload_n (pc := 30) d_L_forgetCause_30 rfl ?_
  refine kx_dup2 (pc := 31) d_L_forgetCause_31 rfl rfl ?_
  refine ka_iald (pc := 32) d_L_forgetCause_32 (by decide) rfl ⟨rfl, by omega, by decide⟩ ?_
  refine kx_iconst (pc := 33) (x := 1) d_L_forgetCause_33 (by decide) ?_
  refine kx_isub (pc := 34) d_L_forgetCause_34 ?_
  refine ka_iast (pc := 35) d_L_forgetCause_35 (by decide) rfl ⟨rfl, by omega, by decide⟩ ?_
  exact kx_vret rfl d_L_forgetCause_36 ⟨rfl, rfl⟩
set_option maxHeartbeats 4000000 in
set_option maxRecDepth 100000 in
theorem k_drop_loop {E : kx_E} {b : kW} {sz du : Nat} (h5 : sz ≤ 500) (m : Nat) : ∀ (q : Nat) (a : kW), q + m = sz → a.2.2 1 9 = nI sz → a.2.2 1 10 = nI du → (∀ k, k < sz → (∃ s, s < 16 ∧ a.1 2 k = nI s) ∧ (a.1 6 k = -1 ∨ ∃ p c, p < 8 ∧ c < 500 ∧ a.1 6 k = nI p ∧ a.1 7 k = nI c)) → ∀ {Q : kx_Q}, (∀ n, Q (Sum.inl none) n (wd (wx (uo (f_drop m q a) 1 9 (nI du)) b))) → ∀ n, kx_V E i_L_dropUndurable 2 0 0 Q 0 0 5 [(1, .int (nI q)), (0, .ref 1)] [] n (wd (wx a b)) := by
  induction m with
  | zero =>
    intro q a hm h1 h2 hI Q hQ n
    have hqs : q = sz := by omega
    subst hqs
    refine kx_iload_n (pc := 5) d_L_dropUndurable_5 rfl ?_
    refine kx_aload_n (pc := 6) d_L_dropUndurable_6 rfl ?_
    refine ka_geti (pc := 7) d_L_dropUndurable_7 fl_L_40 (by decide) rfl (by decide) rfl ?_
    refine kx_eqi h1 ?_
    refine kx_icmp_ge (pc := 10) (tgt := 49) d_L_dropUndurable_10 (by decide) (fun _ => ?_) (fun hz => absurd (nI_le (Nat.le_refl q) (by omega)) hz)
    refine kx_aload_n (pc := 49) d_L_dropUndurable_49 rfl ?_
    refine kx_aload_n (pc := 50) d_L_dropUndurable_50 rfl ?_
    refine ka_geti (pc := 51) d_L_dropUndurable_51 fl_L_50 (by decide) rfl (by decide) rfl ?_
    refine kx_eqi h2 ?_
    refine ka_puti (pc := 54) d_L_dropUndurable_54 fl_L_40 fw_L_9 (by decide) rfl (by decide) rfl ?_
    exact kx_vret rfl d_L_dropUndurable_57 (hQ _)
  | succ m ih =>
    intro q a hm h1 h2 hI Q hQ n
    obtain ⟨⟨s, hs, es⟩, hco⟩ := hI q (by omega)
    have ns : nt (a.1 2 q) = s := by rw [es]; exact nt_nI (by omega)
    have hlt : q < sz := by omega
    have hF := f_drop1_2 a q
    have hnext : ∀ n, kx_V E i_L_dropUndurable 2 0 0 Q 0 0 5 [(1, .int (nI (q + 1))), (0, .ref 1)] [] n (wd (wx (f_drop1 a q) b)) := by
      refine ih (q + 1) (f_drop1 a q) (by omega) (by rw [hF.2.2.2]; exact h1) (by rw [hF.2.2.2]; exact h2) (fun k hk => ?_) hQ
      rw [hF.1, hF.2.1, hF.2.2.1]
      exact hI k hk
    refine kx_iload_n (pc := 5) d_L_dropUndurable_5 rfl ?_
    refine kx_aload_n (pc := 6) d_L_dropUndurable_6 rfl ?_
    refine ka_geti (pc := 7) d_L_dropUndurable_7 fl_L_40 (by decide) rfl (by decide) rfl ?_
    refine kx_eqi h1 ?_
    refine kx_icmp_ge (pc := 10) (tgt := 49) d_L_dropUndurable_10 (by decide) (fun hz => absurd hz (fun z => absurd z (nI_ge hlt (by omega)))) (fun _ => ?_)
    refine kx_aload_n (pc := 13) d_L_dropUndurable_13 rfl ?_
    refine kw_getr (pc := 14) (r := 9) d_L_dropUndurable_14 fl_L_34 rfl (by decide) rfl ?_
    refine kx_aload_n (pc := 17) d_L_dropUndurable_17 rfl ?_
    refine kw_getr (pc := 18) (r := 2) d_L_dropUndurable_18 fl_L_9 rfl (by decide) rfl ?_
    refine kx_iload_n (pc := 21) d_L_dropUndurable_21 rfl ?_
    refine ka_iald (pc := 22) d_L_dropUndurable_22 (by decide) rfl ⟨rfl, by omega, by decide⟩ ?_
    refine kx_eqi es ?_
    refine kx_dup2 (pc := 23) d_L_dropUndurable_23 rfl rfl ?_
    refine ka_iald (pc := 24) d_L_dropUndurable_24 (by decide) rfl ⟨rfl, by omega, by decide⟩ ?_
    refine kx_iconst (pc := 25) (x := 1) d_L_dropUndurable_25 (by decide) ?_
    refine kx_isub (pc := 26) d_L_dropUndurable_26 ?_
    refine ka_iast (pc := 27) d_L_dropUndurable_27 (by decide) rfl ⟨rfl, by omega, by decide⟩ ?_
    refine kx_aload_n (pc := 28) d_L_dropUndurable_28 rfl ?_
    refine kw_getr (pc := 29) (r := 6) d_L_dropUndurable_29 fl_L_25 rfl (by decide) rfl ?_
    refine kx_iload_n (pc := 32) d_L_dropUndurable_32 rfl ?_
    refine ka_iald (pc := 33) d_L_dropUndurable_33 (by decide) rfl ⟨rfl, by omega, by decide⟩ ?_
    refine kx_iconst (pc := 34) (x := -1) d_L_dropUndurable_34 (by decide) ?_
    refine kx_icmp_eq (pc := 35) (tgt := 43) d_L_dropUndurable_35 (by decide) (fun hz => ?_) (fun hz => ?_)
    · have e0 : f_drop1 a q = ui a 9 s (a.1 9 s - 1) := by
        unfold f_drop1
        rw [ns]
        exact if_pos hz
      rw [e0] at hnext
      refine kx_iinc (pc := 43) (y := nI (q + 1)) (lv' := [(1, _), (0, _)]) d_L_dropUndurable_43 rfl (nI_1 q) (by decide) rfl ?_
      refine kx_goto (pc := 46) (tgt := 5) d_L_dropUndurable_46 (by decide) ?_
      exact hnext _
    · obtain ⟨p, c, hp, hc, e1, e2⟩ := hco.resolve_left hz
      have e0 : f_drop1 a q = f_forget (ui a 9 s (a.1 9 s - 1)) q := by
        unfold f_drop1
        rw [ns]
        exact if_neg hz
      rw [e0] at hnext
      refine kx_aload_n (pc := 38) d_L_dropUndurable_38 rfl ?_
      refine kx_iload_n (pc := 39) d_L_dropUndurable_39 rfl ?_
      refine kx_invV (pc := 40) (as := [.int _]) (st := []) (k := 0) (j := 0) d_L_dropUndurable_40 wv_L_53 (wd_o rfl) (k_forgetCause (a := ui a 9 s (a.1 9 s - 1)) (q := q) (by omega) hp hc e1 e2) rfl rfl (Nat.le_of_ble_eq_true rfl) (by decide) (Nat.le_of_ble_eq_true rfl) (fun rv n' h' hq => ?_) (fun X n' h' hq => nomatch hq.2)
      obtain ⟨rfl, hq⟩ := hq
      cases hq
      refine kx_iinc (pc := 43) (y := nI (q + 1)) (lv' := [(1, _), (0, _)]) d_L_dropUndurable_43 rfl (nI_1 q) (by decide) rfl ?_
      refine kx_goto (pc := 46) (tgt := 5) d_L_dropUndurable_46 (by decide) ?_
      exact hnext _
set_option maxHeartbeats 4000000 in
set_option maxRecDepth 100000 in
theorem k_dropUndurable {E : kx_E} {n : Nat} {a b : kW} {sz du : Nat} (h1 : a.2.2 1 9 = nI sz) (h2 : a.2.2 1 10 = nI du) (h5 : sz ≤ 500) (hd : du ≤ sz) (hI : ∀ k, k < sz → (∃ s, s < 16 ∧ a.1 2 k = nI s) ∧ (a.1 6 k = -1 ∨ ∃ p c, p < 8 ∧ c < 500 ∧ a.1 6 k = nI p ∧ a.1 7 k = nI c)) : kx_V E i_L_dropUndurable 2 0 0 (fun r _ h' => h' = wd (wx (uo (f_drop (sz - du) du a) 1 9 (nI du)) b) ∧ r = Sum.inl none) 0 0 0 (lv_args 0 [.ref 1]) [] n (wd (wx a b)) := by
  refine kx_aload_n (pc := 0) d_L_dropUndurable_0 rfl ?_
  refine ka_geti (pc := 1) d_L_dropUndurable_1 fl_L_50 (by decide) rfl (by decide) rfl ?_
  refine kx_eqi h2 ?_
  refine kx_istore_n (pc := 4) (lv' := [(1, _), (0, _)]) d_L_dropUndurable_4 rfl (by decide) rfl ?_
  exact k_drop_loop h5 (sz - du) du a (by omega) h1 h2 hI (fun _ => ⟨rfl, rfl⟩) _
set_option maxHeartbeats 4000000 in
set_option maxRecDepth 100000 in
theorem k_place_loop {E : kx_E} {n : Nat} {a b : kW} {sz : Nat} {x y : Int32} (h1 : a.2.2 1 9 = nI sz) (h5 : sz ≤ 500) (m : Nat) : ∀ (q : Nat), q + m = sz → ∀ {Q : kx_Q}, Q (Sum.inl (some (.int (f_find a x y m q)))) n (wd (wx a b)) → kx_V E i_L_placeOf 1 0 0 Q 0 0 2 [(3, .int (nI q)), (0, .ref 1), (1, .int x), (2, .int y)] [] n (wd (wx a b)) := by
  induction m with
  | zero =>
    intro q hm Q hQ
    have hqs : q = sz := by omega
    subst hqs
    refine kx_iload_n (pc := 2) d_L_placeOf_2 rfl ?_
    refine kx_aload_n (pc := 3) d_L_placeOf_3 rfl ?_
    refine ka_geti (pc := 4) d_L_placeOf_4 fl_L_40 (by decide) rfl (by decide) rfl ?_
    refine kx_eqi h1 ?_
    refine kx_icmp_ge (pc := 7) (tgt := 38) d_L_placeOf_7 (by decide) (fun _ => ?_) (fun hz => absurd (nI_le (Nat.le_refl q) (by omega)) hz)
    refine kx_iconst (pc := 38) (x := -1) d_L_placeOf_38 (by decide) ?_
    exact kx_iret rfl d_L_placeOf_39 hQ
  | succ m ih =>
    intro q hm Q hQ
    have hlt : q < sz := by omega
    have hnext : ¬ (a.1 2 q = x ∧ a.1 3 q = y) → kx_V E i_L_placeOf 1 0 0 Q 0 0 2 [(3, .int (nI (q + 1))), (0, .ref 1), (1, .int x), (2, .int y)] [] n (wd (wx a b)) := by
      intro hz
      refine ih (q + 1) (by omega) ?_
      have e0 : f_find a x y (m + 1) q = f_find a x y m (q + 1) := if_neg hz
      rw [← e0]
      exact hQ
    refine kx_iload_n (pc := 2) d_L_placeOf_2 rfl ?_
    refine kx_aload_n (pc := 3) d_L_placeOf_3 rfl ?_
    refine ka_geti (pc := 4) d_L_placeOf_4 fl_L_40 (by decide) rfl (by decide) rfl ?_
    refine kx_eqi h1 ?_
    refine kx_icmp_ge (pc := 7) (tgt := 38) d_L_placeOf_7 (by decide) (fun hz => absurd hz (fun z => absurd z (nI_ge hlt (by omega)))) (fun _ => ?_)
    refine kx_aload_n (pc := 10) d_L_placeOf_10 rfl ?_
    refine kw_getr (pc := 11) (r := 2) d_L_placeOf_11 fl_L_9 rfl (by decide) rfl ?_
    refine kx_iload_n (pc := 14) d_L_placeOf_14 rfl ?_
    refine ka_iald (pc := 15) d_L_placeOf_15 (by decide) rfl ⟨rfl, by omega, by decide⟩ ?_
    refine kx_iload_n (pc := 16) d_L_placeOf_16 rfl ?_
    refine kx_icmp_ne (pc := 17) (tgt := 32) d_L_placeOf_17 (by decide) (fun hz => ?_) (fun hz => ?_)
    · refine kx_iinc (pc := 32) (y := nI (q + 1)) (lv' := [(3, _), (0, _), (1, _), (2, _)]) d_L_placeOf_32 rfl (nI_1 q) (by decide) rfl ?_
      refine kx_goto (pc := 35) (tgt := 2) d_L_placeOf_35 (by decide) ?_
      exact hnext (fun w => by first | exact hz w.1 | exact hy w.2)
    · refine kx_aload_n (pc := 20) d_L_placeOf_20 rfl ?_
      refine kw_getr (pc := 21) (r := 3) d_L_placeOf_21 fl_L_15 rfl (by decide) rfl ?_
      refine kx_iload_n (pc := 24) d_L_placeOf_24 rfl ?_
      refine ka_iald (pc := 25) d_L_placeOf_25 (by decide) rfl ⟨rfl, by omega, by decide⟩ ?_
      refine kx_iload_n (pc := 26) d_L_placeOf_26 rfl ?_
      refine kx_icmp_ne (pc := 27) (tgt := 32) d_L_placeOf_27 (by decide) (fun hy => ?_) (fun hy => ?_)
      · refine kx_iinc (pc := 32) (y := nI (q + 1)) (lv' := [(3, _), (0, _), (1, _), (2, _)]) d_L_placeOf_32 rfl (nI_1 q) (by decide) rfl ?_
        refine kx_goto (pc := 35) (tgt := 2) d_L_placeOf_35 (by decide) ?_
        exact hnext (fun w => by first | exact hz w.1 | exact hy w.2)
      · refine kx_iload_n (pc := 30) d_L_placeOf_30 rfl ?_
        exact kx_iret rfl d_L_placeOf_31 (by rw [show f_find a x y (m + 1) q = nI q from if_pos ⟨hz, hy⟩] at hQ; exact hQ)
set_option maxHeartbeats 4000000 in
set_option maxRecDepth 100000 in
theorem k_placeOf {E : kx_E} {n : Nat} {a b : kW} {sz : Nat} {x y : Int32} (h1 : a.2.2 1 9 = nI sz) (h5 : sz ≤ 500) : kx_V E i_L_placeOf 1 0 0 (fun r _ h' => h' = wd (wx a b) ∧ r = Sum.inl (some (.int (f_find a x y sz 0)))) 0 0 0 (lv_args 0 [.ref 1, .int x, .int y]) [] n (wd (wx a b)) := by
  refine kx_iconst (pc := 0) (x := 0) d_L_placeOf_0 (by decide) ?_
  refine kx_eqi (show (0 : Int32) = nI 0 from rfl) ?_
  refine kx_istore_n (pc := 1) (lv' := [(3, _), (0, _), (1, _), (2, _)]) d_L_placeOf_1 rfl (by decide) rfl ?_
  exact k_place_loop h1 h5 sz 0 (by omega) ⟨rfl, rfl⟩
