theorem gt6 {N i : Nat} (hN : N ≤ 3072) (hi : i ≤ 4000) : nI N - 6 < nI i ↔ N < i + 6 := by
  rw [Int32.lt_iff_toInt_lt, Int32.toInt_sub, nI_toInt (by omega), nI_toInt (by omega), show (6 : Int32).toInt = 6 by decide, Int.bmod_eq_of_le (by omega) (by omega)]
  omega
set_option maxHeartbeats 4000000 in
set_option maxRecDepth 100000 in
theorem k_law_loop {E : kx_E} {mc ms S N : Nat} {xs : Nat → Int32} {Q : kx_Q} (hS : kx_S E S N xs) (hN3 : N ≤ 3072) (hQ : ∀ n h, Q (Sum.inl (some (.int 1))) n h) (m : Nat) : ∀ (i : Nat) (a b : kW) (n : Nat), N < i + 6 * m + 6 → i ≤ 3100 → Inv a b → kx_V E i_W_law 12 mc ms Q (5 * m) (30 * m) 23 [(4, .int (nI i)), (3, .ref 78), (2, .ref 61), (1, .ref 0), (0, .retAddr S)] [] n (wd (wx a b)) := by
  induction m with
  | zero =>
    intro i a b n hm hi hI
    refine kx_iload (pc := 23) d_W_law_23 rfl ?_
    refine kx_aload_s (pc := 25) d_W_law_25 rfl ?_
    refine kx_salen (pc := 26) hS d_W_law_26 ?_
    refine kx_bipush (pc := 27) (x := 6) d_W_law_27 (by decide) ?_
    refine kx_isub (pc := 29) d_W_law_29 ?_
    refine kx_icmp_gt (pc := 30) (tgt := 974) d_W_law_30 (by decide) (fun _ => ?_) (fun hz => absurd ((gt6 hN3 (by omega)).mpr (by omega)) hz)
    refine kx_iconst (pc := 974) (x := 1) d_W_law_974 (by decide) ?_
    exact kx_zret rfl rfl d_W_law_975 (hQ _ _)
  | succ m ih =>
    intro i a b n hm hi hI
    refine kx_iload (pc := 23) d_W_law_23 rfl ?_
    refine kx_aload_s (pc := 25) d_W_law_25 rfl ?_
    refine kx_salen (pc := 26) hS d_W_law_26 ?_
    refine kx_bipush (pc := 27) (x := 6) d_W_law_27 (by decide) ?_
    refine kx_isub (pc := 29) d_W_law_29 ?_
    refine kx_icmp_gt (pc := 30) (tgt := 974) d_W_law_30 (by decide) (fun hg => ?_) (fun hg => ?_)
    · refine kx_iconst (pc := 974) (x := 1) d_W_law_974 (by decide) ?_
      exact kx_zret rfl rfl d_W_law_975 (hQ _ _)
    · have h6 : i + 6 ≤ N := by
        rcases Nat.lt_or_ge N (i + 6) with w | w
        · exact absurd ((gt6 hN3 (by omega)).mpr w) hg
        · exact w
      have h968 : ∀ a' b' n', Inv a' b' → kx_V E i_W_law 12 mc ms Q (5 * m) (30 * m) 968 [(4, .int (nI i)), (3, .ref 78), (2, .ref 61), (1, .ref 0), (0, .retAddr S)] [] n' (wd (wx a' b')) := by
        intro a' b' n' hI'
        refine kx_iinc (pc := 968) (y := nI (i + 6)) (lv' := [(4, _), (3, _), (2, _), (1, _), (0, _)]) d_W_law_968 rfl (nI_add i 6) (by decide) rfl ?_
        refine kx_goto (pc := 971) (tgt := 23) d_W_law_971 (by decide) ?_
        exact ih (i + 6) a' b' n' (by omega) (by omega) hI'
      refine kx_aload_s (pc := 33) d_W_law_33 rfl ?_
      refine kx_iload (pc := 34) d_W_law_34 rfl ?_
      refine kx_siald (pc := 36) hS d_W_law_36 ⟨rfl, by omega, by omega⟩ ?_
      refine kx_bipush (pc := 37) (x := 15) d_W_law_37 (by decide) ?_
      refine kx_iand (pc := 39) d_W_law_39 ?_
      refine kx_eqi (show _ = nI (l4 (xs i).toInt64) by rw [← l4_b, lg_l2i_i2l]) ?_
      have hz := l4_lt (xs i).toInt64
      generalize l4 (xs i).toInt64 = z at hz ⊢
      match z, hz with
      | 0, _ =>
        refine kx_tsIn (pc := 40) (tgt := 112) d_W_law_40 (by decide) (by decide) rfl (by decide) ?_
        exact k_law_append hS hN3 h6 hI h968
      | 1, _ =>
        refine kx_tsIn (pc := 40) (tgt := 236) d_W_law_40 (by decide) (by decide) rfl (by decide) ?_
        exact k_law_rule hS hN3 h6 hI h968
      | 2, _ =>
        refine kx_tsIn (pc := 40) (tgt := 308) d_W_law_40 (by decide) (by decide) rfl (by decide) ?_
        exact k_law_advance hS hN3 h6 hI h968
      | 3, _ =>
        refine kx_tsIn (pc := 40) (tgt := 376) d_W_law_40 (by decide) (by decide) rfl (by decide) ?_
        exact k_law_save hS hN3 h6 hI h968
      | 4, _ =>
        refine kx_tsIn (pc := 40) (tgt := 432) d_W_law_40 (by decide) (by decide) rfl (by decide) ?_
        exact k_law_cell hS hN3 h6 hI h968
      | 5, _ =>
        refine kx_tsIn (pc := 40) (tgt := 499) d_W_law_40 (by decide) (by decide) rfl (by decide) ?_
        exact k_law_filter hS hN3 h6 hI h968
      | 6, _ =>
        refine kx_tsIn (pc := 40) (tgt := 559) d_W_law_40 (by decide) (by decide) rfl (by decide) ?_
        exact k_law_next hS hN3 h6 hI h968
      | 7, _ =>
        refine kx_tsIn (pc := 40) (tgt := 615) d_W_law_40 (by decide) (by decide) rfl (by decide) ?_
        exact k_law_acknowledge hS hN3 h6 hI h968
      | 8, _ =>
        refine kx_tsIn (pc := 40) (tgt := 683) d_W_law_40 (by decide) (by decide) rfl (by decide) ?_
        refine kx_aload_n (pc := 683) d_W_law_683 rfl ?_
        refine kx_invV (pc := 684) (as := []) (st := []) (k := 5 * m + 5) (j := 30 * m + 30) d_W_law_684 wv_W_99 (wd_o rfl) (k_sync (a := a) (b := b)) rfl rfl (Nat.le_of_ble_eq_true rfl) (by decide) (Nat.le_of_ble_eq_true rfl) (fun rv n' h' hq => ?_) (fun X n' h' hq => nomatch hq.2)
        obtain ⟨rfl, hq⟩ := hq
        cases hq
        refine kx_aload_n (pc := 687) d_W_law_687 rfl ?_
        refine kx_invV (pc := 688) (as := []) (st := [.int _]) (k := 5 * m + 5) (j := 30 * m + 30) d_W_law_688 wv_W_102 (wd_o rfl) (k_msync (a := s_sync a) (b := b)) rfl rfl (Nat.le_of_ble_eq_true rfl) (by decide) (Nat.le_of_ble_eq_true rfl) (fun rv n' h' hq => ?_) (fun X n' h' hq => nomatch hq.2)
        obtain ⟨rfl, hq⟩ := hq
        cases hq
        refine kx_icmp_eq (pc := 691) (tgt := 968) d_W_law_691 (by decide) (fun _ => ?_) (fun hz => absurd (R_sync hI).2.2 hz)
        refine kx_wid (k' := 5 * m) (j' := 30 * m) (by omega) (by omega) ?_
        exact h968 _ _ _ (R_sync hI).1
      | 9, _ =>
        refine kx_tsIn (pc := 40) (tgt := 696) d_W_law_40 (by decide) (by decide) rfl (by decide) ?_
        obtain ⟨sz, du, hL, hP, hSb⟩ := id hI
        obtain ⟨v1, v2, v3, v4, v5, v6⟩ := id hL.1
        have hIc : ∀ k, k < sz → (∃ s, s < 16 ∧ a.1 2 k = nI s) ∧ (a.1 6 k = -1 ∨ ∃ p c, p < 8 ∧ c < 500 ∧ a.1 6 k = nI p ∧ a.1 7 k = nI c) := by
          intro k hk
          obtain ⟨e1, -, -, e4, e5⟩ := hL.2.1 k hk
          obtain ⟨f1, -, f3⟩ := hL.2.2.1 k hk
          rw [e1, e4, e5]
          refine ⟨f1, f3.elim Or.inl (fun ⟨p, c, hp, hc, q1, q2⟩ => Or.inr ⟨p, c, hp, by omega, q1, q2⟩)⟩
        refine kx_aload_n (pc := 696) d_W_law_696 rfl ?_
        refine kx_invV (pc := 697) (as := []) (st := []) (k := 5 * m + 5) (j := 30 * m + 30) d_W_law_697 wv_W_103 (wd_o rfl) (k_crash (a := a) (b := b) v1 v2 v6 v5 hIc) rfl rfl (Nat.le_of_ble_eq_true rfl) (by decide) (Nat.le_of_ble_eq_true rfl) (fun rv n' h' hq => ?_) (fun X n' h' hq => nomatch hq.2)
        obtain ⟨rfl, hq⟩ := hq
        cases hq
        refine kx_aload_n (pc := 700) d_W_law_700 rfl ?_
        refine kx_invV (pc := 701) (as := []) (st := [.int _]) (k := 5 * m + 5) (j := 30 * m + 30) d_W_law_701 wv_W_106 (wd_o rfl) (k_mcrash (a := s_crash a sz du) (b := b)) rfl rfl (Nat.le_of_ble_eq_true rfl) (by decide) (Nat.le_of_ble_eq_true rfl) (fun rv n' h' hq => ?_) (fun X n' h' hq => nomatch hq.2)
        obtain ⟨rfl, hq⟩ := hq
        cases hq
        refine kx_icmp_eq (pc := 704) (tgt := 968) d_W_law_704 (by decide) (fun _ => ?_) (fun hz => absurd v4.symm hz)
        refine kx_wid (k' := 5 * m) (j' := 30 * m) (by omega) (by omega) ?_
        exact h968 _ _ _ (R_crash hL hP hSb).1
      | 10, _ =>
        refine kx_tsIn (pc := 40) (tgt := 709) d_W_law_40 (by decide) (by decide) rfl (by decide) ?_
        exact k_law_event hS hN3 h6 hI h968
      | 11, _ =>
        refine kx_tsIn (pc := 40) (tgt := 777) d_W_law_40 (by decide) (by decide) rfl (by decide) ?_
        exact k_law_value hS hN3 h6 hI h968
      | 12, _ =>
        refine kx_tsIn (pc := 40) (tgt := 832) d_W_law_40 (by decide) (by decide) rfl (by decide) ?_
        exact k_law_find hS hN3 h6 hI h968
      | 13, _ =>
        refine kx_tsIn (pc := 40) (tgt := 900) d_W_law_40 (by decide) (by decide) rfl (by decide) ?_
        exact k_law_count hS hN3 h6 hI h968
      | 14, _ =>
        refine kx_tsOut (pc := 40) (tgt := 968) d_W_law_40 (Or.inr (by decide)) (by decide) ?_
        refine kx_wid (k' := 5 * m) (j' := 30 * m) (by omega) (by omega) ?_
        exact h968 _ _ _ hI
      | 15, _ =>
        refine kx_tsOut (pc := 40) (tgt := 968) d_W_law_40 (Or.inr (by decide)) (by decide) ?_
        refine kx_wid (k' := 5 * m) (j' := 30 * m) (by omega) (by omega) ?_
        exact h968 _ _ _ hI
      | z + 16, hz => exact absurd hz (by omega)
set_option maxHeartbeats 4000000 in
set_option maxRecDepth 100000 in
theorem k_law {E : kx_E} {mc ms S N : Nat} {xs : Nat → Int32} {Q : kx_Q} (hS : kx_S E S N xs) (hN3 : N ≤ 3072) (hQ : ∀ n h, Q (Sum.inl (some (.int 1))) n h) : kx_V E i_W_law 12 mc ms Q 2644 22384 0 [(0, .retAddr S)] [] 0 (fun _ => none) := by
  refine kx_new (pc := 0) (N := 3) (k := 2643) (j := 22381) d_W_law_0 nw_W_8 ?_
  refine kx_dup (pc := 3) d_W_law_3 rfl ?_
  refine kx_invI (pc := 4) (as := []) (st := [.ref 0]) (k := 2583) (j := 18350) d_W_law_4 wi_W_58 (k_EK_init kx_set_s) rfl rfl (Nat.le_of_ble_eq_true rfl) (by decide) (Nat.le_of_ble_eq_true rfl) (fun rv n' h' hq => ?_) (fun X n' h' hq => nomatch hq.1)
  obtain ⟨hr, rfl, hA⟩ := hq
  cases hr
  refine kx_astore_n (pc := 7) (lv' := [(1, _), (0, _)]) d_W_law_7 rfl (by decide) rfl ?_
  refine kx_new (pc := 8) (N := 19) (k := 2582) (j := 18331) d_W_law_8 nw_W_59 ?_
  refine kx_dup (pc := 11) d_W_law_11 rfl ?_
  refine kx_invI (pc := 12) (as := []) (st := [.ref 61]) (k := 2566) (j := 15391) d_W_law_12 wi_W_61 (k_M_init kx_set_s) rfl rfl (Nat.le_of_ble_eq_true rfl) (by decide) (Nat.le_of_ble_eq_true rfl) (fun rv n' hB hq => ?_) (fun X n' h' hq => nomatch hq.1)
  obtain ⟨hr, rfl, hC, hD⟩ := hq
  cases hr
  refine kx_astore_n (pc := 15) (lv' := [(2, _), (1, _), (0, _)]) d_W_law_15 rfl (by decide) rfl ?_
  refine kx_iconst (pc := 16) (x := 1) d_W_law_16 (by decide) ?_
  refine kx_newl (pc := 17) (N := 1) (k := 2565) (j := 15390) d_W_law_17 (kx_t 80 (by decide +kernel) rfl) rfl (by decide) ?_
  refine kx_astore_n (pc := 19) (lv' := [(3, _), (2, _), (1, _), (0, _)]) d_W_law_19 rfl (by decide) rfl ?_
  refine kx_iconst (pc := 20) (x := 0) d_W_law_20 (by decide) ?_
  refine kx_eqi (show (0 : Int32) = nI 0 from rfl) ?_
  refine kx_istore (pc := 21) (lv' := [(4, _), (3, _), (2, _), (1, _), (0, _)]) d_W_law_21 (by decide) rfl ?_
  refine kx_mono (h' := wd (wx a0 b0)) (fun i c hc => ?_) (k_law_loop hS hN3 hQ 513 0 a0 b0 79 (by omega) (by decide) Inv.start)
  rcases Nat.lt_or_ge i 61 with w | w
  · rw [kx_set_n (by omega), hC i w, kx_set_n (by omega), hA i w]
    exact hc
  rcases Nat.lt_or_ge i 78 with w2 | w2
  · rw [kx_set_n (by omega), hD i w w2]
    exact hc
  by_cases e : i = 78
  · subst e
    rw [kx_set_s]
    exact hc
  · exfalso
    have hk : wk i = (0, 0) := by
      unfold wk
      repeat rw [if_neg (by omega)]
    unfold wd at hc
    rw [hk] at hc
    cases hc
