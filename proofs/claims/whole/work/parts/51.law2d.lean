set_option maxHeartbeats 4000000 in
set_option maxRecDepth 100000 in
theorem k_law_value {E : kx_E} {n mc ms k j i S N : Nat} {xs : Nat → Int32} {a b : kW} {Q : kx_Q} (hS : kx_S E S N xs) (hN3 : N ≤ 3072) (hi : i + 6 ≤ N) (hI : Inv a b) (hN : ∀ a' b' n', Inv a' b' → kx_V E i_W_law 12 mc ms Q k j 968 [(4, .int (nI i)), (3, .ref 78), (2, .ref 61), (1, .ref 0), (0, .retAddr S)] [] n' (wd (wx a' b'))) : kx_V E i_W_law 12 mc ms Q (k + 5) (j + 30) 777 [(4, .int (nI i)), (3, .ref 78), (2, .ref 61), (1, .ref 0), (0, .retAddr S)] [] n (wd (wx a b)) := by
  obtain ⟨sz, du, hL, hP, hSb⟩ := id hI
  obtain ⟨v1, v2, v3, v4, v5, v6⟩ := id hL.1
  have hsh : (∃ x, (s_value a sz (xs (i + 1))).1 = Sum.inl (some (.long x))) ∨ (s_value a sz (xs (i + 1))).1 = Sum.inr "java/lang/IndexOutOfBoundsException" := by
    rcases (R_value hI hL (xs (i + 1))).2.2 with ⟨e1, -⟩ | ⟨X, c, e1, e2, -, -⟩
    · exact Or.inl ⟨_, e1⟩
    · exact Or.inr (by rw [e1, sh_cO e2])
  have w3 : (w_b (s_value a sz (xs (i + 1))).1 b).2.2 61 1 = nI sz := (hL.wb (r := (s_value a sz (xs (i + 1))).1)).1.2.2.1
  have hR := R_value (hI.wb (r := (s_value a sz (xs (i + 1))).1)) hL.wb (xs (i + 1))
  refine kx_aload_n (pc := 777) d_W_law_777 rfl ?_
  refine kx_aload_s (pc := 778) d_W_law_778 rfl ?_
  refine kx_iload (pc := 779) d_W_law_779 rfl ?_
  refine kx_iconst (pc := 781) (x := 1) d_W_law_781 (by decide) ?_
  refine kx_iadd (pc := 782) d_W_law_782 ?_
  refine kx_eqi (show nI i + 1 = nI (i + 1) from nI_add i 1) ?_
  refine kx_siald (pc := 783) hS d_W_law_783 ⟨rfl, by omega, by omega⟩ ?_
  refine kx_aload_n (pc := 784) d_W_law_784 rfl ?_
  refine kx_invS (pc := 785) (as := [.ref _, .int _, .ref _]) (st := []) (k := k) (j := j) d_W_law_785 ws_W_110 (k_W_value (k_value v1 v6) hsh) rfl rfl (Nat.le_of_ble_eq_true rfl) (by decide) (Nat.le_of_ble_eq_true rfl) (fun rv n' h' hq => ?_) (fun X n' h' hq => nomatch hq.1)
  obtain ⟨hq, rfl⟩ := hq
  cases hq
  refine kx_istore (pc := 788) (lv' := [(5, _), (4, _), (3, _), (2, _), (1, _), (0, _)]) d_W_law_788 (by decide) rfl ?_
  refine kx_aload_n (pc := 790) d_W_law_790 rfl ?_
  refine kx_aload_s (pc := 791) d_W_law_791 rfl ?_
  refine kx_iload (pc := 792) d_W_law_792 rfl ?_
  refine kx_iconst (pc := 794) (x := 1) d_W_law_794 (by decide) ?_
  refine kx_iadd (pc := 795) d_W_law_795 ?_
  refine kx_eqi (show nI i + 1 = nI (i + 1) from nI_add i 1) ?_
  refine kx_siald (pc := 796) hS d_W_law_796 ⟨rfl, by omega, by omega⟩ ?_
  refine kx_invV (pc := 797) (as := [.int _]) (st := []) (k := k) (j := j) d_W_law_797 wv_W_112 (wd_o rfl) (k_mvalue (a := (s_value a sz (xs (i + 1))).2) (b := (w_b (s_value a sz (xs (i + 1))).1 b)) (ev := sz) w3 v6) rfl rfl (Nat.le_of_ble_eq_true rfl) (by decide) (Nat.le_of_ble_eq_true rfl) (fun rv n' h' hq => ?_) (fun X n' h' hq => nomatch hq.1)
  obtain ⟨hq, rfl⟩ := hq
  cases hq
  refine kx_lstore (pc := 800) (lv' := [(6, _), (5, _), (4, _), (3, _), (2, _), (1, _), (0, _)]) d_W_law_800 (by decide) rfl ?_
  refine kx_aload_n (pc := 802) d_W_law_802 rfl ?_
  refine kx_invV (pc := 803) (as := []) (st := []) (k := k) (j := j) d_W_law_803 wv_W_70 (wd_o rfl) (k_thrown (a := (s_value a sz (xs (i + 1))).2) (b := (m_value (w_b (s_value a sz (xs (i + 1))).1 b) sz (xs (i + 1))).2)) rfl rfl (Nat.le_of_ble_eq_true rfl) (by decide) (Nat.le_of_ble_eq_true rfl) (fun rv n' h' hq => ?_) (fun X n' h' hq => nomatch hq.2)
  obtain ⟨rfl, hq⟩ := hq
  cases hq
  refine kx_iload (pc := 806) d_W_law_806 rfl ?_
  refine kx_icmp_eq (pc := 808) (tgt := 813) d_W_law_808 (by decide) (fun _ => ?_) (fun hz => absurd hR.code hz)
  refine kx_iload (pc := 813) d_W_law_813 rfl ?_
  refine kx_if_ne (pc := 815) (tgt := 829) d_W_law_815 (by decide) (fun hne => ?_) (fun h0 => ?_)
  · refine kx_goto (pc := 829) (tgt := 968) d_W_law_829 (by decide) ?_
    refine kx_sub [2, 3, 4, 5, 6] rfl ?_
    exact hN _ _ _ hR.1
  · refine kx_aload_n (pc := 818) d_W_law_818 rfl ?_
    refine kx_iconst (pc := 819) (x := 0) d_W_law_819 (by decide) ?_
    refine km_lald (pc := 820) d_W_law_820 (by decide) rfl ⟨rfl, by decide, by decide⟩ ?_
    refine kx_eql (hR.val h0) ?_
    refine kx_lload (pc := 821) d_W_law_821 rfl ?_
    refine kx_lcmp (pc := 823) d_W_law_823 ?_
    refine kx_if_eq (pc := 824) (tgt := 829) d_W_law_824 (by decide) (fun _ => ?_) (fun hz => absurd ((lg_cmp_eq _ _).mpr rfl) hz)
    refine kx_goto (pc := 829) (tgt := 968) d_W_law_829 (by decide) ?_
    refine kx_sub [2, 3, 4, 5, 6] rfl ?_
    exact hN _ _ _ hR.1
set_option maxHeartbeats 4000000 in
set_option maxRecDepth 100000 in
theorem k_law_find {E : kx_E} {n mc ms k j i S N : Nat} {xs : Nat → Int32} {a b : kW} {Q : kx_Q} (hS : kx_S E S N xs) (hN3 : N ≤ 3072) (hi : i + 6 ≤ N) (hI : Inv a b) (hN : ∀ a' b' n', Inv a' b' → kx_V E i_W_law 12 mc ms Q k j 968 [(4, .int (nI i)), (3, .ref 78), (2, .ref 61), (1, .ref 0), (0, .retAddr S)] [] n' (wd (wx a' b'))) : kx_V E i_W_law 12 mc ms Q (k + 5) (j + 30) 832 [(4, .int (nI i)), (3, .ref 78), (2, .ref 61), (1, .ref 0), (0, .retAddr S)] [] n (wd (wx a b)) := by
  obtain ⟨sz, du, hL, hP, hSb⟩ := id hI
  obtain ⟨v1, v2, v3, v4, v5, v6⟩ := id hL.1
  have hsh : (∃ x, (s_find a sz (xs (i + 1)) (xs (i + 2))).1 = Sum.inl (some (.int x))) ∨ (s_find a sz (xs (i + 1)) (xs (i + 2))).1 = Sum.inr "java/lang/IllegalArgumentException" ∨ (s_find a sz (xs (i + 1)) (xs (i + 2))).1 = Sum.inr "java/lang/IndexOutOfBoundsException" := by
    rcases (R_find hI hL (xs (i + 1)) (xs (i + 2))).2.2 with ⟨e1, -⟩ | ⟨X, c, e1, e2, -, -⟩
    · exact Or.inl ⟨_, e1⟩
    · exact Or.inr ((sh_cIO e2).elim (fun y => Or.inl (by rw [e1, y])) (fun y => Or.inr (by rw [e1, y])))
  have w3 : (w_b (s_find a sz (xs (i + 1)) (xs (i + 2))).1 b).2.2 61 1 = nI sz := (hL.wb (r := (s_find a sz (xs (i + 1)) (xs (i + 2))).1)).1.2.2.1
  have hR := R_find (hI.wb (r := (s_find a sz (xs (i + 1)) (xs (i + 2))).1)) hL.wb (xs (i + 1)) (xs (i + 2))
  refine kx_aload_n (pc := 832) d_W_law_832 rfl ?_
  refine kx_aload_s (pc := 833) d_W_law_833 rfl ?_
  refine kx_iload (pc := 834) d_W_law_834 rfl ?_
  refine kx_iconst (pc := 836) (x := 1) d_W_law_836 (by decide) ?_
  refine kx_iadd (pc := 837) d_W_law_837 ?_
  refine kx_eqi (show nI i + 1 = nI (i + 1) from nI_add i 1) ?_
  refine kx_siald (pc := 838) hS d_W_law_838 ⟨rfl, by omega, by omega⟩ ?_
  refine kx_aload_s (pc := 839) d_W_law_839 rfl ?_
  refine kx_iload (pc := 840) d_W_law_840 rfl ?_
  refine kx_iconst (pc := 842) (x := 2) d_W_law_842 (by decide) ?_
  refine kx_iadd (pc := 843) d_W_law_843 ?_
  refine kx_eqi (show nI i + 2 = nI (i + 2) from nI_add i 2) ?_
  refine kx_siald (pc := 844) hS d_W_law_844 ⟨rfl, by omega, by omega⟩ ?_
  refine kx_aload_n (pc := 845) d_W_law_845 rfl ?_
  refine kx_invS (pc := 846) (as := [.ref _, .int _, .int _, .ref _]) (st := []) (k := k) (j := j) d_W_law_846 ws_W_113 (k_W_find (k_find v1 v6) hsh) rfl rfl (Nat.le_of_ble_eq_true rfl) (by decide) (Nat.le_of_ble_eq_true rfl) (fun rv n' h' hq => ?_) (fun X n' h' hq => nomatch hq.1)
  obtain ⟨hq, rfl⟩ := hq
  cases hq
  refine kx_istore (pc := 849) (lv' := [(5, _), (4, _), (3, _), (2, _), (1, _), (0, _)]) d_W_law_849 (by decide) rfl ?_
  refine kx_aload_n (pc := 851) d_W_law_851 rfl ?_
  refine kx_aload_s (pc := 852) d_W_law_852 rfl ?_
  refine kx_iload (pc := 853) d_W_law_853 rfl ?_
  refine kx_iconst (pc := 855) (x := 1) d_W_law_855 (by decide) ?_
  refine kx_iadd (pc := 856) d_W_law_856 ?_
  refine kx_eqi (show nI i + 1 = nI (i + 1) from nI_add i 1) ?_
  refine kx_siald (pc := 857) hS d_W_law_857 ⟨rfl, by omega, by omega⟩ ?_
  refine kx_aload_s (pc := 858) d_W_law_858 rfl ?_
  refine kx_iload (pc := 859) d_W_law_859 rfl ?_
  refine kx_iconst (pc := 861) (x := 2) d_W_law_861 (by decide) ?_
  refine kx_iadd (pc := 862) d_W_law_862 ?_
  refine kx_eqi (show nI i + 2 = nI (i + 2) from nI_add i 2) ?_
  refine kx_siald (pc := 863) hS d_W_law_863 ⟨rfl, by omega, by omega⟩ ?_
  refine kx_invV (pc := 864) (as := [.int _, .int _]) (st := []) (k := k) (j := j) d_W_law_864 wv_W_115 (wd_o rfl) (k_mfind (a := (s_find a sz (xs (i + 1)) (xs (i + 2))).2) (b := (w_b (s_find a sz (xs (i + 1)) (xs (i + 2))).1 b)) (ev := sz) w3 v6) rfl rfl (Nat.le_of_ble_eq_true rfl) (by decide) (Nat.le_of_ble_eq_true rfl) (fun rv n' h' hq => ?_) (fun X n' h' hq => nomatch hq.1)
  obtain ⟨hq, rfl⟩ := hq
  cases hq
  refine kx_istore (pc := 867) (lv' := [(6, _), (5, _), (4, _), (3, _), (2, _), (1, _), (0, _)]) d_W_law_867 (by decide) rfl ?_
  refine kx_aload_n (pc := 869) d_W_law_869 rfl ?_
  refine kx_invV (pc := 870) (as := []) (st := []) (k := k) (j := j) d_W_law_870 wv_W_70 (wd_o rfl) (k_thrown (a := (s_find a sz (xs (i + 1)) (xs (i + 2))).2) (b := (m_find (w_b (s_find a sz (xs (i + 1)) (xs (i + 2))).1 b) sz (xs (i + 1)) (xs (i + 2))).2)) rfl rfl (Nat.le_of_ble_eq_true rfl) (by decide) (Nat.le_of_ble_eq_true rfl) (fun rv n' h' hq => ?_) (fun X n' h' hq => nomatch hq.2)
  obtain ⟨rfl, hq⟩ := hq
  cases hq
  refine kx_iload (pc := 873) d_W_law_873 rfl ?_
  refine kx_icmp_eq (pc := 875) (tgt := 880) d_W_law_875 (by decide) (fun _ => ?_) (fun hz => absurd hR.code hz)
  refine kx_iload (pc := 880) d_W_law_880 rfl ?_
  refine kx_if_ne (pc := 882) (tgt := 897) d_W_law_882 (by decide) (fun hne => ?_) (fun h0 => ?_)
  · refine kx_goto (pc := 897) (tgt := 968) d_W_law_897 (by decide) ?_
    refine kx_sub [2, 3, 4, 5, 6] rfl ?_
    exact hN _ _ _ hR.1
  · refine kx_aload_n (pc := 885) d_W_law_885 rfl ?_
    refine kx_iconst (pc := 886) (x := 0) d_W_law_886 (by decide) ?_
    refine km_lald (pc := 887) d_W_law_887 (by decide) rfl ⟨rfl, by decide, by decide⟩ ?_
    refine kx_eql (hR.val h0) ?_
    refine kx_iload (pc := 888) d_W_law_888 rfl ?_
    refine kx_i2l (pc := 890) d_W_law_890 ?_
    refine kx_lcmp (pc := 891) d_W_law_891 ?_
    refine kx_if_eq (pc := 892) (tgt := 897) d_W_law_892 (by decide) (fun _ => ?_) (fun hz => absurd ((lg_cmp_eq _ _).mpr rfl) hz)
    refine kx_goto (pc := 897) (tgt := 968) d_W_law_897 (by decide) ?_
    refine kx_sub [2, 3, 4, 5, 6] rfl ?_
    exact hN _ _ _ hR.1
set_option maxHeartbeats 4000000 in
set_option maxRecDepth 100000 in
theorem k_law_count {E : kx_E} {n mc ms k j i S N : Nat} {xs : Nat → Int32} {a b : kW} {Q : kx_Q} (hS : kx_S E S N xs) (hN3 : N ≤ 3072) (hi : i + 6 ≤ N) (hI : Inv a b) (hN : ∀ a' b' n', Inv a' b' → kx_V E i_W_law 12 mc ms Q k j 968 [(4, .int (nI i)), (3, .ref 78), (2, .ref 61), (1, .ref 0), (0, .retAddr S)] [] n' (wd (wx a' b'))) : kx_V E i_W_law 12 mc ms Q (k + 5) (j + 30) 900 [(4, .int (nI i)), (3, .ref 78), (2, .ref 61), (1, .ref 0), (0, .retAddr S)] [] n (wd (wx a b)) := by
  obtain ⟨sz, du, hL, hP, hSb⟩ := id hI
  obtain ⟨v1, v2, v3, v4, v5, v6⟩ := id hL.1
  have hsh : (∃ x, (s_count a (xs (i + 1)) (xs (i + 2))).1 = Sum.inl (some (.int x))) ∨ (s_count a (xs (i + 1)) (xs (i + 2))).1 = Sum.inr "java/lang/IllegalArgumentException" := by
    rcases (R_count hI hL (xs (i + 1)) (xs (i + 2))).2.2 with ⟨e1, -⟩ | ⟨X, c, e1, e2, -, -⟩
    · exact Or.inl ⟨_, e1⟩
    · exact Or.inr (by rw [e1, sh_cI e2])
  have w3 : (w_b (s_count a (xs (i + 1)) (xs (i + 2))).1 b).2.2 61 1 = nI sz := (hL.wb (r := (s_count a (xs (i + 1)) (xs (i + 2))).1)).1.2.2.1
  have hR := R_count (hI.wb (r := (s_count a (xs (i + 1)) (xs (i + 2))).1)) hL.wb (xs (i + 1)) (xs (i + 2))
  refine kx_aload_n (pc := 900) d_W_law_900 rfl ?_
  refine kx_aload_s (pc := 901) d_W_law_901 rfl ?_
  refine kx_iload (pc := 902) d_W_law_902 rfl ?_
  refine kx_iconst (pc := 904) (x := 1) d_W_law_904 (by decide) ?_
  refine kx_iadd (pc := 905) d_W_law_905 ?_
  refine kx_eqi (show nI i + 1 = nI (i + 1) from nI_add i 1) ?_
  refine kx_siald (pc := 906) hS d_W_law_906 ⟨rfl, by omega, by omega⟩ ?_
  refine kx_aload_s (pc := 907) d_W_law_907 rfl ?_
  refine kx_iload (pc := 908) d_W_law_908 rfl ?_
  refine kx_iconst (pc := 910) (x := 2) d_W_law_910 (by decide) ?_
  refine kx_iadd (pc := 911) d_W_law_911 ?_
  refine kx_eqi (show nI i + 2 = nI (i + 2) from nI_add i 2) ?_
  refine kx_siald (pc := 912) hS d_W_law_912 ⟨rfl, by omega, by omega⟩ ?_
  refine kx_aload_n (pc := 913) d_W_law_913 rfl ?_
  refine kx_invS (pc := 914) (as := [.ref _, .int _, .int _, .ref _]) (st := []) (k := k) (j := j) d_W_law_914 ws_W_116 (k_W_count k_count hsh) rfl rfl (Nat.le_of_ble_eq_true rfl) (by decide) (Nat.le_of_ble_eq_true rfl) (fun rv n' h' hq => ?_) (fun X n' h' hq => nomatch hq.1)
  obtain ⟨hq, rfl⟩ := hq
  cases hq
  refine kx_istore (pc := 917) (lv' := [(5, _), (4, _), (3, _), (2, _), (1, _), (0, _)]) d_W_law_917 (by decide) rfl ?_
  refine kx_aload_n (pc := 919) d_W_law_919 rfl ?_
  refine kx_aload_s (pc := 920) d_W_law_920 rfl ?_
  refine kx_iload (pc := 921) d_W_law_921 rfl ?_
  refine kx_iconst (pc := 923) (x := 1) d_W_law_923 (by decide) ?_
  refine kx_iadd (pc := 924) d_W_law_924 ?_
  refine kx_eqi (show nI i + 1 = nI (i + 1) from nI_add i 1) ?_
  refine kx_siald (pc := 925) hS d_W_law_925 ⟨rfl, by omega, by omega⟩ ?_
  refine kx_aload_s (pc := 926) d_W_law_926 rfl ?_
  refine kx_iload (pc := 927) d_W_law_927 rfl ?_
  refine kx_iconst (pc := 929) (x := 2) d_W_law_929 (by decide) ?_
  refine kx_iadd (pc := 930) d_W_law_930 ?_
  refine kx_eqi (show nI i + 2 = nI (i + 2) from nI_add i 2) ?_
  refine kx_siald (pc := 931) hS d_W_law_931 ⟨rfl, by omega, by omega⟩ ?_
  refine kx_invV (pc := 932) (as := [.int _, .int _]) (st := []) (k := k) (j := j) d_W_law_932 wv_W_118 (wd_o rfl) (k_mcount (a := (s_count a (xs (i + 1)) (xs (i + 2))).2) (b := (w_b (s_count a (xs (i + 1)) (xs (i + 2))).1 b)) (ev := sz) w3 v6) rfl rfl (Nat.le_of_ble_eq_true rfl) (by decide) (Nat.le_of_ble_eq_true rfl) (fun rv n' h' hq => ?_) (fun X n' h' hq => nomatch hq.1)
  obtain ⟨hq, rfl⟩ := hq
  cases hq
  refine kx_istore (pc := 935) (lv' := [(6, _), (5, _), (4, _), (3, _), (2, _), (1, _), (0, _)]) d_W_law_935 (by decide) rfl ?_
  refine kx_aload_n (pc := 937) d_W_law_937 rfl ?_
  refine kx_invV (pc := 938) (as := []) (st := []) (k := k) (j := j) d_W_law_938 wv_W_70 (wd_o rfl) (k_thrown (a := (s_count a (xs (i + 1)) (xs (i + 2))).2) (b := (m_count (w_b (s_count a (xs (i + 1)) (xs (i + 2))).1 b) sz (xs (i + 1)) (xs (i + 2))).2)) rfl rfl (Nat.le_of_ble_eq_true rfl) (by decide) (Nat.le_of_ble_eq_true rfl) (fun rv n' h' hq => ?_) (fun X n' h' hq => nomatch hq.2)
  obtain ⟨rfl, hq⟩ := hq
  cases hq
  refine kx_iload (pc := 941) d_W_law_941 rfl ?_
  refine kx_icmp_eq (pc := 943) (tgt := 948) d_W_law_943 (by decide) (fun _ => ?_) (fun hz => absurd hR.code hz)
  refine kx_iload (pc := 948) d_W_law_948 rfl ?_
  refine kx_if_ne (pc := 950) (tgt := 965) d_W_law_950 (by decide) (fun hne => ?_) (fun h0 => ?_)
  · refine kx_goto (pc := 965) (tgt := 968) d_W_law_965 (by decide) ?_
    refine kx_sub [2, 3, 4, 5, 6] rfl ?_
    exact hN _ _ _ hR.1
  · refine kx_aload_n (pc := 953) d_W_law_953 rfl ?_
    refine kx_iconst (pc := 954) (x := 0) d_W_law_954 (by decide) ?_
    refine km_lald (pc := 955) d_W_law_955 (by decide) rfl ⟨rfl, by decide, by decide⟩ ?_
    refine kx_eql (hR.val h0) ?_
    refine kx_iload (pc := 956) d_W_law_956 rfl ?_
    refine kx_i2l (pc := 958) d_W_law_958 ?_
    refine kx_lcmp (pc := 959) d_W_law_959 ?_
    refine kx_if_eq (pc := 960) (tgt := 965) d_W_law_960 (by decide) (fun _ => ?_) (fun hz => absurd ((lg_cmp_eq _ _).mpr rfl) hz)
    refine kx_goto (pc := 965) (tgt := 968) d_W_law_965 (by decide) ?_
    refine kx_sub [2, 3, 4, 5, 6] rfl ?_
    exact hN _ _ _ hR.1
