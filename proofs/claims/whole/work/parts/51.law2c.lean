set_option maxHeartbeats 4000000 in
set_option maxRecDepth 100000 in
theorem k_law_next {E : kx_E} {n mc ms k j i S N : Nat} {xs : Nat → Int32} {a b : kW} {Q : kx_Q} (hS : kx_S E S N xs) (hN3 : N ≤ 3072) (hi : i + 6 ≤ N) (hI : Inv a b) (hN : ∀ a' b' n', Inv a' b' → kx_V E i_W_law 12 mc ms Q k j 968 [(4, .int (nI i)), (3, .ref 78), (2, .ref 61), (1, .ref 0), (0, .retAddr S)] [] n' (wd (wx a' b'))) : kx_V E i_W_law 12 mc ms Q (k + 5) (j + 30) 559 [(4, .int (nI i)), (3, .ref 78), (2, .ref 61), (1, .ref 0), (0, .retAddr S)] [] n (wd (wx a b)) := by
  obtain ⟨sz, du, hL, hP, hSb⟩ := id hI
  obtain ⟨v1, v2, v3, v4, v5, v6⟩ := id hL.1
  obtain ⟨q, hq5, hq1⟩ : ∃ q, q ≤ 500 ∧ (0 ≤ xs (i + 1) ∧ xs (i + 1) < 8 → a.2.2 (53 + nt (xs (i + 1))) 2 = nI q) := by
    by_cases w : 0 ≤ xs (i + 1) ∧ xs (i + 1) < 8
    · obtain ⟨u, hu, e1, e2⟩ := nI_get (N := 8) (by decide) w
      obtain ⟨-, -, ⟨q, hq, q1, -⟩, -⟩ := hSb u hu
      exact ⟨q, hq, fun _ => by rw [e2]; exact q1⟩
    · exact ⟨0, by decide, fun y => absurd y w⟩
  have hsh : (∃ x, (s_next a sz q (xs (i + 1))).1 = Sum.inl (some (.int x))) ∨ (s_next a sz q (xs (i + 1))).1 = Sum.inr "java/lang/IllegalArgumentException" := by
    rcases (R_next hI hL (xs (i + 1)) hq1 hq5).2.2 with ⟨e1, -⟩ | ⟨X, c, e1, e2, -, -⟩
    · exact Or.inl ⟨_, e1⟩
    · exact Or.inr (by rw [e1, sh_cI e2])
  have w3 : (w_b (s_next a sz q (xs (i + 1))).1 b).2.2 61 1 = nI sz := (hL.wb (r := (s_next a sz q (xs (i + 1))).1)).1.2.2.1
  have hb76 : ∀ u, u < 8 → ∃ q7, q7 ≤ 500 ∧ (w_b (s_next a sz q (xs (i + 1))).1 b).1 76 u = nI q7 := fun u hu => by
    obtain ⟨-, -, ⟨q', hq', -, q2⟩, -⟩ := (hSb u hu).wb (r := (s_next a sz q (xs (i + 1))).1)
    exact ⟨q', hq', q2⟩
  have hR := R_next (hI.wb (r := (s_next a sz q (xs (i + 1))).1)) hL.wb (xs (i + 1)) hq1 hq5
  refine kx_aload_n (pc := 559) d_W_law_559 rfl ?_
  refine kx_aload_s (pc := 560) d_W_law_560 rfl ?_
  refine kx_iload (pc := 561) d_W_law_561 rfl ?_
  refine kx_iconst (pc := 563) (x := 1) d_W_law_563 (by decide) ?_
  refine kx_iadd (pc := 564) d_W_law_564 ?_
  refine kx_eqi (show nI i + 1 = nI (i + 1) from nI_add i 1) ?_
  refine kx_siald (pc := 565) hS d_W_law_565 ⟨rfl, by omega, by omega⟩ ?_
  refine kx_aload_n (pc := 566) d_W_law_566 rfl ?_
  refine kx_invS (pc := 567) (as := [.ref _, .int _, .ref _]) (st := []) (k := k) (j := j) d_W_law_567 ws_W_93 (k_W_next (k_next v1 v6 hq5 hq1) hsh) rfl rfl (Nat.le_of_ble_eq_true rfl) (by decide) (Nat.le_of_ble_eq_true rfl) (fun rv n' h' hq => ?_) (fun X n' h' hq => nomatch hq.1)
  obtain ⟨hq, rfl⟩ := hq
  cases hq
  refine kx_istore (pc := 570) (lv' := [(5, _), (4, _), (3, _), (2, _), (1, _), (0, _)]) d_W_law_570 (by decide) rfl ?_
  refine kx_aload_n (pc := 572) d_W_law_572 rfl ?_
  refine kx_aload_s (pc := 573) d_W_law_573 rfl ?_
  refine kx_iload (pc := 574) d_W_law_574 rfl ?_
  refine kx_iconst (pc := 576) (x := 1) d_W_law_576 (by decide) ?_
  refine kx_iadd (pc := 577) d_W_law_577 ?_
  refine kx_eqi (show nI i + 1 = nI (i + 1) from nI_add i 1) ?_
  refine kx_siald (pc := 578) hS d_W_law_578 ⟨rfl, by omega, by omega⟩ ?_
  refine kx_invV (pc := 579) (as := [.int _]) (st := []) (k := k) (j := j) d_W_law_579 wv_W_95 (wd_o rfl) (k_mnext (a := (s_next a sz q (xs (i + 1))).2) (b := (w_b (s_next a sz q (xs (i + 1))).1 b)) (ev := sz) w3 v6 hb76) rfl rfl (Nat.le_of_ble_eq_true rfl) (by decide) (Nat.le_of_ble_eq_true rfl) (fun rv n' h' hq => ?_) (fun X n' h' hq => nomatch hq.1)
  obtain ⟨hq, rfl⟩ := hq
  cases hq
  refine kx_istore (pc := 582) (lv' := [(6, _), (5, _), (4, _), (3, _), (2, _), (1, _), (0, _)]) d_W_law_582 (by decide) rfl ?_
  refine kx_aload_n (pc := 584) d_W_law_584 rfl ?_
  refine kx_invV (pc := 585) (as := []) (st := []) (k := k) (j := j) d_W_law_585 wv_W_70 (wd_o rfl) (k_thrown (a := (s_next a sz q (xs (i + 1))).2) (b := (m_next (w_b (s_next a sz q (xs (i + 1))).1 b) sz (xs (i + 1))).2)) rfl rfl (Nat.le_of_ble_eq_true rfl) (by decide) (Nat.le_of_ble_eq_true rfl) (fun rv n' h' hq => ?_) (fun X n' h' hq => nomatch hq.2)
  obtain ⟨rfl, hq⟩ := hq
  cases hq
  refine kx_iload (pc := 588) d_W_law_588 rfl ?_
  refine kx_icmp_eq (pc := 590) (tgt := 595) d_W_law_590 (by decide) (fun _ => ?_) (fun hz => absurd hR.code hz)
  refine kx_iload (pc := 595) d_W_law_595 rfl ?_
  refine kx_if_ne (pc := 597) (tgt := 612) d_W_law_597 (by decide) (fun hne => ?_) (fun h0 => ?_)
  · refine kx_goto (pc := 612) (tgt := 968) d_W_law_612 (by decide) ?_
    refine kx_sub [2, 3, 4, 5, 6] rfl ?_
    exact hN _ _ _ hR.1
  · refine kx_aload_n (pc := 600) d_W_law_600 rfl ?_
    refine kx_iconst (pc := 601) (x := 0) d_W_law_601 (by decide) ?_
    refine km_lald (pc := 602) d_W_law_602 (by decide) rfl ⟨rfl, by decide, by decide⟩ ?_
    refine kx_eql (hR.val h0) ?_
    refine kx_iload (pc := 603) d_W_law_603 rfl ?_
    refine kx_i2l (pc := 605) d_W_law_605 ?_
    refine kx_lcmp (pc := 606) d_W_law_606 ?_
    refine kx_if_eq (pc := 607) (tgt := 612) d_W_law_607 (by decide) (fun _ => ?_) (fun hz => absurd ((lg_cmp_eq _ _).mpr rfl) hz)
    refine kx_goto (pc := 612) (tgt := 968) d_W_law_612 (by decide) ?_
    refine kx_sub [2, 3, 4, 5, 6] rfl ?_
    exact hN _ _ _ hR.1
set_option maxHeartbeats 4000000 in
set_option maxRecDepth 100000 in
theorem k_law_acknowledge {E : kx_E} {n mc ms k j i S N : Nat} {xs : Nat → Int32} {a b : kW} {Q : kx_Q} (hS : kx_S E S N xs) (hN3 : N ≤ 3072) (hi : i + 6 ≤ N) (hI : Inv a b) (hN : ∀ a' b' n', Inv a' b' → kx_V E i_W_law 12 mc ms Q k j 968 [(4, .int (nI i)), (3, .ref 78), (2, .ref 61), (1, .ref 0), (0, .retAddr S)] [] n' (wd (wx a' b'))) : kx_V E i_W_law 12 mc ms Q (k + 5) (j + 30) 615 [(4, .int (nI i)), (3, .ref 78), (2, .ref 61), (1, .ref 0), (0, .retAddr S)] [] n (wd (wx a b)) := by
  obtain ⟨sz, du, hL, hP, hSb⟩ := id hI
  obtain ⟨v1, v2, v3, v4, v5, v6⟩ := id hL.1
  have hsh : (∃ x, (s_ack a sz (xs (i + 1)) (xs (i + 2))).1 = Sum.inl (some (.int x))) ∨ (s_ack a sz (xs (i + 1)) (xs (i + 2))).1 = Sum.inr "java/lang/IllegalArgumentException" ∨ (s_ack a sz (xs (i + 1)) (xs (i + 2))).1 = Sum.inr "java/lang/IndexOutOfBoundsException" := by
    rcases (R_ack hI hL (xs (i + 1)) (xs (i + 2))).2.2 with ⟨e1, -⟩ | ⟨X, c, e1, e2, -, -⟩
    · exact Or.inl ⟨_, e1⟩
    · exact Or.inr ((sh_cIO e2).elim (fun y => Or.inl (by rw [e1, y])) (fun y => Or.inr (by rw [e1, y])))
  have w3 : (w_b (s_ack a sz (xs (i + 1)) (xs (i + 2))).1 b).2.2 61 1 = nI sz := (hL.wb (r := (s_ack a sz (xs (i + 1)) (xs (i + 2))).1)).1.2.2.1
  have hR := R_ack (hI.wb (r := (s_ack a sz (xs (i + 1)) (xs (i + 2))).1)) hL.wb (xs (i + 1)) (xs (i + 2))
  refine kx_aload_n (pc := 615) d_W_law_615 rfl ?_
  refine kx_aload_s (pc := 616) d_W_law_616 rfl ?_
  refine kx_iload (pc := 617) d_W_law_617 rfl ?_
  refine kx_iconst (pc := 619) (x := 1) d_W_law_619 (by decide) ?_
  refine kx_iadd (pc := 620) d_W_law_620 ?_
  refine kx_eqi (show nI i + 1 = nI (i + 1) from nI_add i 1) ?_
  refine kx_siald (pc := 621) hS d_W_law_621 ⟨rfl, by omega, by omega⟩ ?_
  refine kx_aload_s (pc := 622) d_W_law_622 rfl ?_
  refine kx_iload (pc := 623) d_W_law_623 rfl ?_
  refine kx_iconst (pc := 625) (x := 2) d_W_law_625 (by decide) ?_
  refine kx_iadd (pc := 626) d_W_law_626 ?_
  refine kx_eqi (show nI i + 2 = nI (i + 2) from nI_add i 2) ?_
  refine kx_siald (pc := 627) hS d_W_law_627 ⟨rfl, by omega, by omega⟩ ?_
  refine kx_aload_n (pc := 628) d_W_law_628 rfl ?_
  refine kx_invS (pc := 629) (as := [.ref _, .int _, .int _, .ref _]) (st := []) (k := k) (j := j) d_W_law_629 ws_W_96 (k_W_acknowledge (k_acknowledge v1 v6) hsh) rfl rfl (Nat.le_of_ble_eq_true rfl) (by decide) (Nat.le_of_ble_eq_true rfl) (fun rv n' h' hq => ?_) (fun X n' h' hq => nomatch hq.1)
  obtain ⟨hq, rfl⟩ := hq
  cases hq
  refine kx_istore (pc := 632) (lv' := [(5, _), (4, _), (3, _), (2, _), (1, _), (0, _)]) d_W_law_632 (by decide) rfl ?_
  refine kx_aload_n (pc := 634) d_W_law_634 rfl ?_
  refine kx_aload_s (pc := 635) d_W_law_635 rfl ?_
  refine kx_iload (pc := 636) d_W_law_636 rfl ?_
  refine kx_iconst (pc := 638) (x := 1) d_W_law_638 (by decide) ?_
  refine kx_iadd (pc := 639) d_W_law_639 ?_
  refine kx_eqi (show nI i + 1 = nI (i + 1) from nI_add i 1) ?_
  refine kx_siald (pc := 640) hS d_W_law_640 ⟨rfl, by omega, by omega⟩ ?_
  refine kx_aload_s (pc := 641) d_W_law_641 rfl ?_
  refine kx_iload (pc := 642) d_W_law_642 rfl ?_
  refine kx_iconst (pc := 644) (x := 2) d_W_law_644 (by decide) ?_
  refine kx_iadd (pc := 645) d_W_law_645 ?_
  refine kx_eqi (show nI i + 2 = nI (i + 2) from nI_add i 2) ?_
  refine kx_siald (pc := 646) hS d_W_law_646 ⟨rfl, by omega, by omega⟩ ?_
  refine kx_invV (pc := 647) (as := [.int _, .int _]) (st := []) (k := k) (j := j) d_W_law_647 wv_W_98 (wd_o rfl) (k_mack (a := (s_ack a sz (xs (i + 1)) (xs (i + 2))).2) (b := (w_b (s_ack a sz (xs (i + 1)) (xs (i + 2))).1 b)) (ev := sz) w3) rfl rfl (Nat.le_of_ble_eq_true rfl) (by decide) (Nat.le_of_ble_eq_true rfl) (fun rv n' h' hq => ?_) (fun X n' h' hq => nomatch hq.1)
  obtain ⟨hq, rfl⟩ := hq
  cases hq
  refine kx_istore (pc := 650) (lv' := [(6, _), (5, _), (4, _), (3, _), (2, _), (1, _), (0, _)]) d_W_law_650 (by decide) rfl ?_
  refine kx_aload_n (pc := 652) d_W_law_652 rfl ?_
  refine kx_invV (pc := 653) (as := []) (st := []) (k := k) (j := j) d_W_law_653 wv_W_70 (wd_o rfl) (k_thrown (a := (s_ack a sz (xs (i + 1)) (xs (i + 2))).2) (b := (m_ack (w_b (s_ack a sz (xs (i + 1)) (xs (i + 2))).1 b) sz (xs (i + 1)) (xs (i + 2))).2)) rfl rfl (Nat.le_of_ble_eq_true rfl) (by decide) (Nat.le_of_ble_eq_true rfl) (fun rv n' h' hq => ?_) (fun X n' h' hq => nomatch hq.2)
  obtain ⟨rfl, hq⟩ := hq
  cases hq
  refine kx_iload (pc := 656) d_W_law_656 rfl ?_
  refine kx_icmp_eq (pc := 658) (tgt := 663) d_W_law_658 (by decide) (fun _ => ?_) (fun hz => absurd hR.code hz)
  refine kx_iload (pc := 663) d_W_law_663 rfl ?_
  refine kx_if_ne (pc := 665) (tgt := 680) d_W_law_665 (by decide) (fun hne => ?_) (fun h0 => ?_)
  · refine kx_goto (pc := 680) (tgt := 968) d_W_law_680 (by decide) ?_
    refine kx_sub [2, 3, 4, 5, 6] rfl ?_
    exact hN _ _ _ hR.1
  · refine kx_aload_n (pc := 668) d_W_law_668 rfl ?_
    refine kx_iconst (pc := 669) (x := 0) d_W_law_669 (by decide) ?_
    refine km_lald (pc := 670) d_W_law_670 (by decide) rfl ⟨rfl, by decide, by decide⟩ ?_
    refine kx_eql (hR.val h0) ?_
    refine kx_iload (pc := 671) d_W_law_671 rfl ?_
    refine kx_i2l (pc := 673) d_W_law_673 ?_
    refine kx_lcmp (pc := 674) d_W_law_674 ?_
    refine kx_if_eq (pc := 675) (tgt := 680) d_W_law_675 (by decide) (fun _ => ?_) (fun hz => absurd ((lg_cmp_eq _ _).mpr rfl) hz)
    refine kx_goto (pc := 680) (tgt := 968) d_W_law_680 (by decide) ?_
    refine kx_sub [2, 3, 4, 5, 6] rfl ?_
    exact hN _ _ _ hR.1
set_option maxHeartbeats 4000000 in
set_option maxRecDepth 100000 in
theorem k_law_event {E : kx_E} {n mc ms k j i S N : Nat} {xs : Nat → Int32} {a b : kW} {Q : kx_Q} (hS : kx_S E S N xs) (hN3 : N ≤ 3072) (hi : i + 6 ≤ N) (hI : Inv a b) (hN : ∀ a' b' n', Inv a' b' → kx_V E i_W_law 12 mc ms Q k j 968 [(4, .int (nI i)), (3, .ref 78), (2, .ref 61), (1, .ref 0), (0, .retAddr S)] [] n' (wd (wx a' b'))) : kx_V E i_W_law 12 mc ms Q (k + 5) (j + 30) 709 [(4, .int (nI i)), (3, .ref 78), (2, .ref 61), (1, .ref 0), (0, .retAddr S)] [] n (wd (wx a b)) := by
  obtain ⟨sz, du, hL, hP, hSb⟩ := id hI
  obtain ⟨v1, v2, v3, v4, v5, v6⟩ := id hL.1
  have hsh : (∃ x, (s_event a sz (xs (i + 1)) (xs (i + 2))).1 = Sum.inl (some (.int x))) ∨ (s_event a sz (xs (i + 1)) (xs (i + 2))).1 = Sum.inr "java/lang/IllegalArgumentException" ∨ (s_event a sz (xs (i + 1)) (xs (i + 2))).1 = Sum.inr "java/lang/IndexOutOfBoundsException" := by
    rcases (R_event hI hL (xs (i + 1)) (xs (i + 2))).2.2 with ⟨e1, -⟩ | ⟨X, c, e1, e2, -, -⟩
    · exact Or.inl ⟨_, e1⟩
    · exact Or.inr ((sh_cIO e2).elim (fun y => Or.inl (by rw [e1, y])) (fun y => Or.inr (by rw [e1, y])))
  have w3 : (w_b (s_event a sz (xs (i + 1)) (xs (i + 2))).1 b).2.2 61 1 = nI sz := (hL.wb (r := (s_event a sz (xs (i + 1)) (xs (i + 2))).1)).1.2.2.1
  have hR := R_event (hI.wb (r := (s_event a sz (xs (i + 1)) (xs (i + 2))).1)) hL.wb (xs (i + 1)) (xs (i + 2))
  refine kx_aload_n (pc := 709) d_W_law_709 rfl ?_
  refine kx_aload_s (pc := 710) d_W_law_710 rfl ?_
  refine kx_iload (pc := 711) d_W_law_711 rfl ?_
  refine kx_iconst (pc := 713) (x := 1) d_W_law_713 (by decide) ?_
  refine kx_iadd (pc := 714) d_W_law_714 ?_
  refine kx_eqi (show nI i + 1 = nI (i + 1) from nI_add i 1) ?_
  refine kx_siald (pc := 715) hS d_W_law_715 ⟨rfl, by omega, by omega⟩ ?_
  refine kx_aload_s (pc := 716) d_W_law_716 rfl ?_
  refine kx_iload (pc := 717) d_W_law_717 rfl ?_
  refine kx_iconst (pc := 719) (x := 2) d_W_law_719 (by decide) ?_
  refine kx_iadd (pc := 720) d_W_law_720 ?_
  refine kx_eqi (show nI i + 2 = nI (i + 2) from nI_add i 2) ?_
  refine kx_siald (pc := 721) hS d_W_law_721 ⟨rfl, by omega, by omega⟩ ?_
  refine kx_aload_n (pc := 722) d_W_law_722 rfl ?_
  refine kx_invS (pc := 723) (as := [.ref _, .int _, .int _, .ref _]) (st := []) (k := k) (j := j) d_W_law_723 ws_W_107 (k_W_event (k_event v1 v6) hsh) rfl rfl (Nat.le_of_ble_eq_true rfl) (by decide) (Nat.le_of_ble_eq_true rfl) (fun rv n' h' hq => ?_) (fun X n' h' hq => nomatch hq.1)
  obtain ⟨hq, rfl⟩ := hq
  cases hq
  refine kx_istore (pc := 726) (lv' := [(5, _), (4, _), (3, _), (2, _), (1, _), (0, _)]) d_W_law_726 (by decide) rfl ?_
  refine kx_aload_n (pc := 728) d_W_law_728 rfl ?_
  refine kx_aload_s (pc := 729) d_W_law_729 rfl ?_
  refine kx_iload (pc := 730) d_W_law_730 rfl ?_
  refine kx_iconst (pc := 732) (x := 1) d_W_law_732 (by decide) ?_
  refine kx_iadd (pc := 733) d_W_law_733 ?_
  refine kx_eqi (show nI i + 1 = nI (i + 1) from nI_add i 1) ?_
  refine kx_siald (pc := 734) hS d_W_law_734 ⟨rfl, by omega, by omega⟩ ?_
  refine kx_aload_s (pc := 735) d_W_law_735 rfl ?_
  refine kx_iload (pc := 736) d_W_law_736 rfl ?_
  refine kx_iconst (pc := 738) (x := 2) d_W_law_738 (by decide) ?_
  refine kx_iadd (pc := 739) d_W_law_739 ?_
  refine kx_eqi (show nI i + 2 = nI (i + 2) from nI_add i 2) ?_
  refine kx_siald (pc := 740) hS d_W_law_740 ⟨rfl, by omega, by omega⟩ ?_
  refine kx_invV (pc := 741) (as := [.int _, .int _]) (st := []) (k := k) (j := j) d_W_law_741 wv_W_109 (wd_o rfl) (k_mevent (a := (s_event a sz (xs (i + 1)) (xs (i + 2))).2) (b := (w_b (s_event a sz (xs (i + 1)) (xs (i + 2))).1 b)) (ev := sz) w3 v6) rfl rfl (Nat.le_of_ble_eq_true rfl) (by decide) (Nat.le_of_ble_eq_true rfl) (fun rv n' h' hq => ?_) (fun X n' h' hq => nomatch hq.1)
  obtain ⟨hq, rfl⟩ := hq
  cases hq
  refine kx_istore (pc := 744) (lv' := [(6, _), (5, _), (4, _), (3, _), (2, _), (1, _), (0, _)]) d_W_law_744 (by decide) rfl ?_
  refine kx_aload_n (pc := 746) d_W_law_746 rfl ?_
  refine kx_invV (pc := 747) (as := []) (st := []) (k := k) (j := j) d_W_law_747 wv_W_70 (wd_o rfl) (k_thrown (a := (s_event a sz (xs (i + 1)) (xs (i + 2))).2) (b := (m_event (w_b (s_event a sz (xs (i + 1)) (xs (i + 2))).1 b) sz (xs (i + 1)) (xs (i + 2))).2)) rfl rfl (Nat.le_of_ble_eq_true rfl) (by decide) (Nat.le_of_ble_eq_true rfl) (fun rv n' h' hq => ?_) (fun X n' h' hq => nomatch hq.2)
  obtain ⟨rfl, hq⟩ := hq
  cases hq
  refine kx_iload (pc := 750) d_W_law_750 rfl ?_
  refine kx_icmp_eq (pc := 752) (tgt := 757) d_W_law_752 (by decide) (fun _ => ?_) (fun hz => absurd hR.code hz)
  refine kx_iload (pc := 757) d_W_law_757 rfl ?_
  refine kx_if_ne (pc := 759) (tgt := 774) d_W_law_759 (by decide) (fun hne => ?_) (fun h0 => ?_)
  · refine kx_goto (pc := 774) (tgt := 968) d_W_law_774 (by decide) ?_
    refine kx_sub [2, 3, 4, 5, 6] rfl ?_
    exact hN _ _ _ hR.1
  · refine kx_aload_n (pc := 762) d_W_law_762 rfl ?_
    refine kx_iconst (pc := 763) (x := 0) d_W_law_763 (by decide) ?_
    refine km_lald (pc := 764) d_W_law_764 (by decide) rfl ⟨rfl, by decide, by decide⟩ ?_
    refine kx_eql (hR.val h0) ?_
    refine kx_iload (pc := 765) d_W_law_765 rfl ?_
    refine kx_i2l (pc := 767) d_W_law_767 ?_
    refine kx_lcmp (pc := 768) d_W_law_768 ?_
    refine kx_if_eq (pc := 769) (tgt := 774) d_W_law_769 (by decide) (fun _ => ?_) (fun hz => absurd ((lg_cmp_eq _ _).mpr rfl) hz)
    refine kx_goto (pc := 774) (tgt := 968) d_W_law_774 (by decide) ?_
    refine kx_sub [2, 3, 4, 5, 6] rfl ?_
    exact hN _ _ _ hR.1
