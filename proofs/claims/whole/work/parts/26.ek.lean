theorem ck_y {c : Prop} [Decidable c] {v : Option Value} {X : String} (h : (Sum.inl v : Option Value ⊕ String) = if c then Sum.inl none else Sum.inr X) : c ∧ v = none := by
  by_cases w : c
  · rw [if_pos w] at h
    exact ⟨w, Sum.inl.inj h⟩
  · rw [if_neg w] at h
    cases h
theorem ck_n {c : Prop} [Decidable c] {Y X : String} (h : (Sum.inr Y : Option Value ⊕ String) = if c then Sum.inl none else Sum.inr X) : ¬ c ∧ Y = X := by
  by_cases w : c
  · rw [if_pos w] at h
    cases h
  · rw [if_neg w] at h
    exact ⟨w, Sum.inr.inj h⟩
theorem ca_y {c : Prop} [Decidable c] {v : Option Value} {X : String} (h : (Sum.inl v : Option Value ⊕ String) = if c then Sum.inr X else Sum.inl none) : ¬ c ∧ v = none := by
  by_cases w : c
  · rw [if_pos w] at h
    cases h
  · rw [if_neg w] at h
    exact ⟨w, Sum.inl.inj h⟩
theorem ca_n {c : Prop} [Decidable c] {Y X : String} (h : (Sum.inr Y : Option Value ⊕ String) = if c then Sum.inr X else Sum.inl none) : c ∧ Y = X := by
  by_cases w : c
  · rw [if_pos w] at h
    exact ⟨w, Sum.inr.inj h⟩
  · rw [if_neg w] at h
    cases h
theorem nI_get {x : Int32} {N : Nat} (hN : N < 2 ^ 31) (h : 0 ≤ x ∧ x < nI N) : ∃ j : Nat, j < N ∧ x = nI j ∧ nt x = j := by
  obtain ⟨j, hj, rfl⟩ := nI_of (Int32.not_lt.mpr h.1)
  have hlt : j < N := by
    rcases Nat.lt_or_ge j N with w | w
    · exact w
    · exact absurd h.2 (nI_nlt w hj)
  exact ⟨j, hlt, rfl, nt_nI hj⟩
def s_append (a : kW) (sz : Nat) (x1 x2 x3 : Int32) (v : Int64) : (Option Value ⊕ String) × kW :=
  if 0 ≤ x1 ∧ x1 < 16 then
    if x2 < -1 then (Sum.inr "java/lang/IllegalArgumentException", a)
    else if 0 ≤ x3 ∧ x3 < 8 then
      if ¬ (x2 = -1) ∧ ¬ (x2 = a.1 9 (nt x1)) then (Sum.inr "java/lang/IllegalStateException", a)
      else if 500 ≤ sz then (Sum.inr "java/lang/IndexOutOfBoundsException", a) else (Sum.inl (some (.int (nI sz))), f_put a sz (nt x1) x3 v)
    else (Sum.inr "java/lang/IllegalArgumentException", a)
  else (Sum.inr "java/lang/IllegalArgumentException", a)
set_option maxHeartbeats 4000000 in
set_option maxRecDepth 100000 in
theorem k_append {E : kx_E} {n : Nat} {a b : kW} {sz : Nat} {x1 x2 x3 : Int32} {v : Int64} (h1 : a.2.2 1 9 = nI sz) (h5 : sz ≤ 500) : kx_V E i_EK_append 8 5 30 (fun r _ h' => r = (s_append a sz x1 x2 x3 v).1 ∧ h' = wd (wx (s_append a sz x1 x2 x3 v).2 b)) 5 30 0 (lv_args 0 [.ref 0, .int x1, .int x2, .int x3, .long v]) [] n (wd (wx a b)) := by
  by_cases g : 0 ≤ x1 ∧ x1 < 16
  rotate_left
  · refine kx_iload_n (pc := 0) d_EK_append_0 rfl ?_
    refine kx_invS (pc := 1) (as := [.int _]) (st := []) (k := 4) (j := 24) d_EK_append_1 ws_EK_32 (k_checkStream x1) rfl rfl (Nat.le_of_ble_eq_true rfl) (by decide) (Nat.le_of_ble_eq_true rfl) (fun rv n' h' hq => absurd (ck_y hq.2).1 g) (fun X n' h' hq => ?_)
    obtain ⟨rfl, hq⟩ := hq
    obtain ⟨-, rfl⟩ := ck_n hq
    exact kx_X.out (fun _ hx => nomatch hx) ⟨by unfold s_append; rw [if_neg g], by unfold s_append; rw [if_neg g]⟩
  obtain ⟨s, hs, rfl, ns⟩ := nI_get (N := 16) (by decide) g
  have hx1 := g
  refine kx_iload_n (pc := 0) d_EK_append_0 rfl ?_
  refine kx_invS (pc := 1) (as := [.int _]) (st := []) (k := 4) (j := 24) d_EK_append_1 ws_EK_32 (k_checkStream (nI s)) rfl rfl (Nat.le_of_ble_eq_true rfl) (by decide) (Nat.le_of_ble_eq_true rfl) (fun rv n' h' hq => ?_) (fun X n' h' hq => ?_)
  rotate_left
  · obtain ⟨rfl, hq⟩ := hq
    obtain ⟨hbad, rfl⟩ := ck_n hq
    exact kx_X.out (fun _ hx => nomatch hx) ⟨by unfold s_append; rw [if_neg hbad], by unfold s_append; rw [if_neg hbad]⟩
  obtain ⟨rfl, hq⟩ := hq
  obtain ⟨hg, rfl⟩ := ck_y hq
  refine kx_iload_n (pc := 4) d_EK_append_4 rfl ?_
  refine kx_iconst (pc := 5) (x := -1) d_EK_append_5 (by decide) ?_
  refine kx_icmp_lt (pc := 6) (tgt := 13) d_EK_append_6 (by decide) (fun hx2 => ?_) (fun hx2 => ?_)
  · refine kx_iconst (pc := 13) (x := 0) d_EK_append_13 (by decide) ?_
    refine kx_invS (pc := 14) (as := [.int _]) (st := []) (k := 3) (j := 18) d_EK_append_14 ws_EK_35 (k_checkArgument 0) rfl rfl (Nat.le_of_ble_eq_true rfl) (by decide) (Nat.le_of_ble_eq_true rfl) (fun rv n' h' hq => absurd rfl (ca_y hq.2).1) (fun X n' h' hq => ?_)
    obtain ⟨rfl, hq⟩ := hq
    obtain ⟨-, rfl⟩ := ca_n hq
    exact kx_X.out (fun _ hx => nomatch hx) ⟨by unfold s_append; rw [if_pos hx1, if_pos hx2], by unfold s_append; rw [if_pos hx1, if_pos hx2]⟩
  · refine kx_iconst (pc := 9) (x := 1) d_EK_append_9 (by decide) ?_
    refine kx_goto (pc := 10) (tgt := 14) d_EK_append_10 (by decide) ?_
    refine kx_invS (pc := 14) (as := [.int _]) (st := []) (k := 3) (j := 18) d_EK_append_14 ws_EK_35 (k_checkArgument 1) rfl rfl (Nat.le_of_ble_eq_true rfl) (by decide) (Nat.le_of_ble_eq_true rfl) (fun rv n' h' hq => ?_) (fun X n' h' hq => absurd (ca_n hq.2).1 (by decide))
    obtain ⟨rfl, hq⟩ := hq
    obtain ⟨-, rfl⟩ := ca_y hq
    refine kx_iload_n (pc := 17) d_EK_append_17 rfl ?_
    refine kx_invS (pc := 18) (as := [.int _]) (st := []) (k := 2) (j := 12) d_EK_append_18 ws_EK_39 (k_checkKind x3) rfl rfl (Nat.le_of_ble_eq_true rfl) (by decide) (Nat.le_of_ble_eq_true rfl) (fun rv n' h' hq => ?_) (fun X n' h' hq => ?_)
    rotate_left
    · obtain ⟨rfl, hq⟩ := hq
      obtain ⟨hbad, rfl⟩ := ck_n hq
      exact kx_X.out (fun _ hx => nomatch hx) ⟨by unfold s_append; rw [if_pos hx1, if_neg hx2, if_neg hbad], by unfold s_append; rw [if_pos hx1, if_neg hx2, if_neg hbad]⟩
    obtain ⟨rfl, hq⟩ := hq
    obtain ⟨hx3, rfl⟩ := ck_y hq
    have tail : ¬ (¬ (x2 = -1) ∧ ¬ (x2 = a.1 9 s)) → ∀ n, kx_V E i_EK_append 8 5 30 (fun r _ h' => r = (s_append a sz (nI s) x2 x3 v).1 ∧ h' = wd (wx (s_append a sz (nI s) x2 x3 v).2 b)) 2 12 49 [(0, .ref 0), (1, .int (nI s)), (2, .int x2), (3, .int x3), (4, .long v)] [] n (wd (wx a b)) := by
      intro h4 n
      refine kx_aload_n (pc := 49) d_EK_append_49 rfl ?_
      refine kw_getr (pc := 50) (r := 1) d_EK_append_50 fl_EK_10 rfl (by decide) rfl ?_
      refine kx_invV (pc := 53) (as := []) (st := []) (k := 2) (j := 12) d_EK_append_53 wv_EK_53 (wd_o rfl) (k_isFull h1 h5) rfl rfl (Nat.le_of_ble_eq_true rfl) (by decide) (Nat.le_of_ble_eq_true rfl) (fun rv n' h' hq => ?_) (fun X n' h' hq => nomatch hq.2)
      obtain ⟨rfl, hq⟩ := hq
      cases hq
      refine kx_if_eq (pc := 56) (tgt := 69) d_EK_append_56 (by decide) (fun hz => ?_) (fun hz => ?_)
      · have hfull : ¬ 500 ≤ sz := fun w => by rw [if_pos w] at hz; exact absurd hz (by decide)
        refine kx_aload_n (pc := 69) d_EK_append_69 rfl ?_
        refine kw_getr (pc := 70) (r := 1) d_EK_append_70 fl_EK_10 rfl (by decide) rfl ?_
        refine kx_iload_n (pc := 73) d_EK_append_73 rfl ?_
        refine kx_iload_n (pc := 74) d_EK_append_74 rfl ?_
        refine kx_lload (pc := 75) d_EK_append_75 rfl ?_
        refine kx_invV (pc := 77) (as := [.int _, .int _, .long _]) (st := []) (k := 2) (j := 12) d_EK_append_77 wv_EK_62 (wd_o rfl) (k_put (a := a) (b := b) h1 (Nat.not_le.mp hfull) hs) rfl rfl (Nat.le_of_ble_eq_true rfl) (by decide) (Nat.le_of_ble_eq_true rfl) (fun rv n' h' hq => ?_) (fun X n' h' hq => nomatch hq.2)
        obtain ⟨rfl, hq⟩ := hq
        cases hq
        exact kx_iret rfl d_EK_append_80 ⟨by unfold s_append; rw [if_pos hx1, if_neg hx2, if_pos hx3, ns, if_neg h4, if_neg hfull], by unfold s_append; rw [if_pos hx1, if_neg hx2, if_pos hx3, ns, if_neg h4, if_neg hfull]⟩
      · have hfull : 500 ≤ sz := by
          by_cases w : 500 ≤ sz
          · exact w
          · rw [if_neg w] at hz
            exact absurd rfl hz
        exact kx_throw (pc := 59) (k := 1) (j := 6) (tx := "the log is full") d_EK_append_59 d_EK_append_62 d_EK_append_63 d_EK_append_65 d_EK_append_68 tx_EK_57_61 (by decide +kernel) (fun _ hx => nomatch hx) (by decide) (Nat.le_of_ble_eq_true rfl) ⟨by unfold s_append; rw [if_pos hx1, if_neg hx2, if_pos hx3, ns, if_neg h4, if_pos hfull], by unfold s_append; rw [if_pos hx1, if_neg hx2, if_pos hx3, ns, if_neg h4, if_pos hfull]⟩
        
    refine kx_iload_n (pc := 21) d_EK_append_21 rfl ?_
    refine kx_iconst (pc := 22) (x := -1) d_EK_append_22 (by decide) ?_
    refine kx_icmp_eq (pc := 23) (tgt := 49) d_EK_append_23 (by decide) (fun hz => ?_) (fun hz => ?_)
    · exact tail (fun w => w.1 hz) _
    · refine kx_iload_n (pc := 26) d_EK_append_26 rfl ?_
      refine kx_aload_n (pc := 27) d_EK_append_27 rfl ?_
      refine kw_getr (pc := 28) (r := 1) d_EK_append_28 fl_EK_10 rfl (by decide) rfl ?_
      refine kw_getr (pc := 31) (r := 9) d_EK_append_31 fl_EK_42 rfl (by decide) rfl ?_
      refine kx_iload_n (pc := 34) d_EK_append_34 rfl ?_
      refine ka_iald (pc := 35) d_EK_append_35 (by decide) rfl ⟨rfl, hs, by decide⟩ ?_
      refine kx_icmp_eq (pc := 36) (tgt := 49) d_EK_append_36 (by decide) (fun hy => ?_) (fun hy => ?_)
      · exact tail (fun w => w.2 hy) _
      · exact kx_throw (pc := 39) (k := 1) (j := 6) (tx := "the stream has another number of events") d_EK_append_39 d_EK_append_42 d_EK_append_43 d_EK_append_45 d_EK_append_48 tx_EK_46_50 (by decide +kernel) (fun _ hx => nomatch hx) (by decide) (Nat.le_of_ble_eq_true rfl) ⟨by unfold s_append; rw [if_pos hx1, if_neg hx2, if_pos hx3, ns, if_pos (And.intro hz hy)], by unfold s_append; rw [if_pos hx1, if_neg hx2, if_pos hx3, ns, if_pos (And.intro hz hy)]⟩
def s_rule (a : kW) (x1 x2 x3 x4 : Int32) : (Option Value ⊕ String) × kW :=
  if 0 ≤ x1 ∧ x1 < 8 then if 0 ≤ x2 ∧ x2 < 8 then if 0 ≤ x3 ∧ x3 ≤ 6 then if 0 ≤ x4 ∧ x4 ≤ 2 then (Sum.inl none, f_rule a (nt x1) (nt x2) x3 x4) else (Sum.inr "java/lang/IllegalArgumentException", a) else (Sum.inr "java/lang/IllegalArgumentException", a) else (Sum.inr "java/lang/IllegalArgumentException", a) else (Sum.inr "java/lang/IllegalArgumentException", a)
set_option maxHeartbeats 4000000 in
set_option maxRecDepth 100000 in
theorem k_rule {E : kx_E} {n : Nat} {a b : kW} {x1 x2 x3 x4 : Int32} : kx_V E i_EK_rule 8 5 30 (fun r _ h' => r = (s_rule a x1 x2 x3 x4).1 ∧ h' = wd (wx (s_rule a x1 x2 x3 x4).2 b)) 5 30 0 (lv_args 0 [.ref 0, .int x1, .int x2, .int x3, .int x4]) [] n (wd (wx a b)) := by
  refine kx_iload_n (pc := 0) d_EK_rule_0 rfl ?_
  refine kx_invS (pc := 1) (as := [.int _]) (st := []) (k := 4) (j := 24) d_EK_rule_1 ws_EK_66 (k_checkProjection x1) rfl rfl (Nat.le_of_ble_eq_true rfl) (by decide) (Nat.le_of_ble_eq_true rfl) (fun rv n' h' hq => ?_) (fun X n' h' hq => ?_)
  rotate_left
  · obtain ⟨rfl, hq⟩ := hq
    obtain ⟨hbad, rfl⟩ := ck_n hq
    exact kx_X.out (fun _ hx => nomatch hx) ⟨by unfold s_rule; rw [if_neg hbad], by unfold s_rule; rw [if_neg hbad]⟩
  obtain ⟨rfl, hq⟩ := hq
  obtain ⟨g1, rfl⟩ := ck_y hq
  obtain ⟨p, hp, rfl, np⟩ := nI_get (N := 8) (by decide) g1
  refine kx_iload_n (pc := 4) d_EK_rule_4 rfl ?_
  refine kx_invS (pc := 5) (as := [.int _]) (st := []) (k := 3) (j := 18) d_EK_rule_5 ws_EK_39 (k_checkKind x2) rfl rfl (Nat.le_of_ble_eq_true rfl) (by decide) (Nat.le_of_ble_eq_true rfl) (fun rv n' h' hq => ?_) (fun X n' h' hq => ?_)
  rotate_left
  · obtain ⟨rfl, hq⟩ := hq
    obtain ⟨hbad, rfl⟩ := ck_n hq
    exact kx_X.out (fun _ hx => nomatch hx) ⟨by unfold s_rule; rw [if_pos g1, if_neg hbad], by unfold s_rule; rw [if_pos g1, if_neg hbad]⟩
  obtain ⟨rfl, hq⟩ := hq
  obtain ⟨g2, rfl⟩ := ck_y hq
  obtain ⟨t, ht, rfl, nt2⟩ := nI_get (N := 8) (by decide) g2
  refine kx_iload_n (pc := 8) d_EK_rule_8 rfl ?_
  refine kx_if_lt (pc := 9) (tgt := 22) d_EK_rule_9 (by decide) (fun g31 => ?_) (fun g31 => ?_)
  · refine kx_iconst (pc := 22) (x := 0) d_EK_rule_22 (by decide) ?_
    refine kx_invS (pc := 23) (as := [.int _]) (st := []) (k := 2) (j := 12) d_EK_rule_23 ws_EK_35 (k_checkArgument 0) rfl rfl (Nat.le_of_ble_eq_true rfl) (by decide) (Nat.le_of_ble_eq_true rfl) (fun rv n' h' hq => absurd rfl (ca_y hq.2).1) (fun X n' h' hq => ?_)
    obtain ⟨rfl, hq⟩ := hq
    obtain ⟨-, rfl⟩ := ca_n hq
    exact kx_X.out (fun _ hx => nomatch hx) ⟨by unfold s_rule; rw [if_pos g1, if_pos g2, if_neg (fun w => Int32.not_lt.mpr w.1 g31)], by unfold s_rule; rw [if_pos g1, if_pos g2, if_neg (fun w => Int32.not_lt.mpr w.1 g31)]⟩
  · refine kx_iload_n (pc := 12) d_EK_rule_12 rfl ?_
    refine kx_bipush (pc := 13) (x := 6) d_EK_rule_13 (by decide) ?_
    refine kx_icmp_gt (pc := 15) (tgt := 22) d_EK_rule_15 (by decide) (fun g32 => ?_) (fun g32 => ?_)
    · refine kx_iconst (pc := 22) (x := 0) d_EK_rule_22 (by decide) ?_
      refine kx_invS (pc := 23) (as := [.int _]) (st := []) (k := 2) (j := 12) d_EK_rule_23 ws_EK_35 (k_checkArgument 0) rfl rfl (Nat.le_of_ble_eq_true rfl) (by decide) (Nat.le_of_ble_eq_true rfl) (fun rv n' h' hq => absurd rfl (ca_y hq.2).1) (fun X n' h' hq => ?_)
      obtain ⟨rfl, hq⟩ := hq
      obtain ⟨-, rfl⟩ := ca_n hq
      exact kx_X.out (fun _ hx => nomatch hx) ⟨by unfold s_rule; rw [if_pos g1, if_pos g2, if_neg (fun w => Int32.not_lt.mpr w.2 g32)], by unfold s_rule; rw [if_pos g1, if_pos g2, if_neg (fun w => Int32.not_lt.mpr w.2 g32)]⟩
    · have g3 : 0 ≤ x3 ∧ x3 ≤ 6 := ⟨Int32.not_lt.mp g31, Int32.not_lt.mp g32⟩
      refine kx_iconst (pc := 18) (x := 1) d_EK_rule_18 (by decide) ?_
      refine kx_goto (pc := 19) (tgt := 23) d_EK_rule_19 (by decide) ?_
      refine kx_invS (pc := 23) (as := [.int _]) (st := []) (k := 2) (j := 12) d_EK_rule_23 ws_EK_35 (k_checkArgument 1) rfl rfl (Nat.le_of_ble_eq_true rfl) (by decide) (Nat.le_of_ble_eq_true rfl) (fun rv n' h' hq => ?_) (fun X n' h' hq => absurd (ca_n hq.2).1 (by decide))
      obtain ⟨rfl, hq⟩ := hq
      obtain ⟨-, rfl⟩ := ca_y hq
      refine kx_iload (pc := 26) d_EK_rule_26 rfl ?_
      refine kx_if_lt (pc := 28) (tgt := 41) d_EK_rule_28 (by decide) (fun g41 => ?_) (fun g41 => ?_)
      · refine kx_iconst (pc := 41) (x := 0) d_EK_rule_41 (by decide) ?_
        refine kx_invS (pc := 42) (as := [.int _]) (st := []) (k := 1) (j := 6) d_EK_rule_42 ws_EK_35 (k_checkArgument 0) rfl rfl (Nat.le_of_ble_eq_true rfl) (by decide) (Nat.le_of_ble_eq_true rfl) (fun rv n' h' hq => absurd rfl (ca_y hq.2).1) (fun X n' h' hq => ?_)
        obtain ⟨rfl, hq⟩ := hq
        obtain ⟨-, rfl⟩ := ca_n hq
        exact kx_X.out (fun _ hx => nomatch hx) ⟨by unfold s_rule; rw [if_pos g1, if_pos g2, if_pos g3, if_neg (fun w => Int32.not_lt.mpr w.1 g41)], by unfold s_rule; rw [if_pos g1, if_pos g2, if_pos g3, if_neg (fun w => Int32.not_lt.mpr w.1 g41)]⟩
      · refine kx_iload (pc := 31) d_EK_rule_31 rfl ?_
        refine kx_iconst (pc := 33) (x := 2) d_EK_rule_33 (by decide) ?_
        refine kx_icmp_gt (pc := 34) (tgt := 41) d_EK_rule_34 (by decide) (fun g42 => ?_) (fun g42 => ?_)
        · refine kx_iconst (pc := 41) (x := 0) d_EK_rule_41 (by decide) ?_
          refine kx_invS (pc := 42) (as := [.int _]) (st := []) (k := 1) (j := 6) d_EK_rule_42 ws_EK_35 (k_checkArgument 0) rfl rfl (Nat.le_of_ble_eq_true rfl) (by decide) (Nat.le_of_ble_eq_true rfl) (fun rv n' h' hq => absurd rfl (ca_y hq.2).1) (fun X n' h' hq => ?_)
          obtain ⟨rfl, hq⟩ := hq
          obtain ⟨-, rfl⟩ := ca_n hq
          exact kx_X.out (fun _ hx => nomatch hx) ⟨by unfold s_rule; rw [if_pos g1, if_pos g2, if_pos g3, if_neg (fun w => Int32.not_lt.mpr w.2 g42)], by unfold s_rule; rw [if_pos g1, if_pos g2, if_pos g3, if_neg (fun w => Int32.not_lt.mpr w.2 g42)]⟩
        · have g4 : 0 ≤ x4 ∧ x4 ≤ 2 := ⟨Int32.not_lt.mp g41, Int32.not_lt.mp g42⟩
          refine kx_iconst (pc := 37) (x := 1) d_EK_rule_37 (by decide) ?_
          refine kx_goto (pc := 38) (tgt := 42) d_EK_rule_38 (by decide) ?_
          refine kx_invS (pc := 42) (as := [.int _]) (st := []) (k := 1) (j := 6) d_EK_rule_42 ws_EK_35 (k_checkArgument 1) rfl rfl (Nat.le_of_ble_eq_true rfl) (by decide) (Nat.le_of_ble_eq_true rfl) (fun rv n' h' hq => ?_) (fun X n' h' hq => absurd (ca_n hq.2).1 (by decide))
          obtain ⟨rfl, hq⟩ := hq
          obtain ⟨-, rfl⟩ := ca_y hq
          refine kx_aload_n (pc := 45) d_EK_rule_45 rfl ?_
          refine kw_getr (pc := 46) (r := 11) d_EK_rule_46 fl_EK_18 rfl (by decide) rfl ?_
          refine kx_iload_n (pc := 49) d_EK_rule_49 rfl ?_
          refine kw_aald (pc := 50) d_EK_rule_50 ⟨_, fun _ => rfl⟩ rfl ⟨rfl, hp, by decide⟩ (wq_p hp) ?_
          refine kx_iload_n (pc := 51) d_EK_rule_51 rfl ?_
          refine kx_iload_n (pc := 52) d_EK_rule_52 rfl ?_
          refine kx_iload (pc := 53) d_EK_rule_53 rfl ?_
          refine kx_invV (pc := 55) (as := [.int _, .int _, .int _]) (st := []) (k := 1) (j := 6) d_EK_rule_55 wv_EK_69 (wd_o (wk_p0 hp)) (k_setRule hp ht) rfl rfl (Nat.le_of_ble_eq_true rfl) (by decide) (Nat.le_of_ble_eq_true rfl) (fun rv n' h' hq => ?_) (fun X n' h' hq => nomatch hq.2)
          obtain ⟨rfl, hq⟩ := hq
          cases hq
          exact kx_vret rfl d_EK_rule_58 ⟨by unfold s_rule; rw [if_pos g1, if_pos g2, if_pos g3, if_pos g4, np, nt2], by unfold s_rule; rw [if_pos g1, if_pos g2, if_pos g3, if_pos g4, np, nt2]⟩
def s_save (a : kW) (x1 : Int32) : (Option Value ⊕ String) × kW := if 0 ≤ x1 ∧ x1 < 8 then (Sum.inl (some (.int (a.2.2 (12 + 5 * nt x1) 4))), f_keep a (nt x1) (a.2.2 1 9)) else (Sum.inr "java/lang/IllegalArgumentException", a)
set_option maxHeartbeats 4000000 in
set_option maxRecDepth 100000 in
theorem k_save {E : kx_E} {n : Nat} {a b : kW} {x1 : Int32} : kx_V E i_EK_save 8 5 30 (fun r _ h' => r = (s_save a x1).1 ∧ h' = wd (wx (s_save a x1).2 b)) 5 30 0 (lv_args 0 [.ref 0, .int x1]) [] n (wd (wx a b)) := by
  refine kx_iload_n (pc := 0) d_EK_save_0 rfl ?_
  refine kx_invS (pc := 1) (as := [.int _]) (st := []) (k := 4) (j := 24) d_EK_save_1 ws_EK_66 (k_checkProjection x1) rfl rfl (Nat.le_of_ble_eq_true rfl) (by decide) (Nat.le_of_ble_eq_true rfl) (fun rv n' h' hq => ?_) (fun X n' h' hq => ?_)
  rotate_left
  · obtain ⟨rfl, hq⟩ := hq
    obtain ⟨hbad, rfl⟩ := ck_n hq
    exact kx_X.out (fun _ hx => nomatch hx) ⟨by unfold s_save; rw [if_neg hbad], by unfold s_save; rw [if_neg hbad]⟩
  obtain ⟨rfl, hq⟩ := hq
  obtain ⟨g1, rfl⟩ := ck_y hq
  obtain ⟨p, hp, rfl, np⟩ := nI_get (N := 8) (by decide) g1
  refine kx_aload_n (pc := 4) d_EK_save_4 rfl ?_
  refine kw_getr (pc := 5) (r := 11) d_EK_save_5 fl_EK_18 rfl (by decide) rfl ?_
  refine kx_iload_n (pc := 8) d_EK_save_8 rfl ?_
  refine kw_aald (pc := 9) d_EK_save_9 ⟨_, fun _ => rfl⟩ rfl ⟨rfl, hp, by decide⟩ (wq_p hp) ?_
  refine kx_aload_n (pc := 10) d_EK_save_10 rfl ?_
  refine kw_getr (pc := 11) (r := 1) d_EK_save_11 fl_EK_10 rfl (by decide) rfl ?_
  refine ka_geti (pc := 14) d_EK_save_14 fl_EK_77 (by decide) rfl (by decide) rfl ?_
  refine kx_invV (pc := 17) (as := [.int _]) (st := []) (k := 4) (j := 24) d_EK_save_17 wv_EK_81 (wd_o (wk_p0 hp)) (k_keep (a := a) (b := b) hp) rfl rfl (Nat.le_of_ble_eq_true rfl) (by decide) (Nat.le_of_ble_eq_true rfl) (fun rv n' h' hq => ?_) (fun X n' h' hq => nomatch hq.1)
  obtain ⟨hq, rfl⟩ := hq
  cases hq
  exact kx_iret rfl d_EK_save_20 ⟨by unfold s_save; rw [if_pos g1, np], by unfold s_save; rw [if_pos g1, np]⟩
def s_cell (a : kW) (x1 x2 : Int32) : (Option Value ⊕ String) × kW := if 0 ≤ x1 ∧ x1 < 8 then if 0 ≤ x2 ∧ x2 < 16 then (Sum.inl (some (.long (a.2.1 (12 + 5 * nt x1 + 3) (nt x2)))), a) else (Sum.inr "java/lang/IndexOutOfBoundsException", a) else (Sum.inr "java/lang/IllegalArgumentException", a)
set_option maxHeartbeats 4000000 in
set_option maxRecDepth 100000 in
theorem k_cell {E : kx_E} {n : Nat} {a b : kW} {x1 x2 : Int32} : kx_V E i_EK_cell 8 5 30 (fun r _ h' => r = (s_cell a x1 x2).1 ∧ h' = wd (wx (s_cell a x1 x2).2 b)) 5 30 0 (lv_args 0 [.ref 0, .int x1, .int x2]) [] n (wd (wx a b)) := by
  refine kx_iload_n (pc := 0) d_EK_cell_0 rfl ?_
  refine kx_invS (pc := 1) (as := [.int _]) (st := []) (k := 4) (j := 24) d_EK_cell_1 ws_EK_66 (k_checkProjection x1) rfl rfl (Nat.le_of_ble_eq_true rfl) (by decide) (Nat.le_of_ble_eq_true rfl) (fun rv n' h' hq => ?_) (fun X n' h' hq => ?_)
  rotate_left
  · obtain ⟨rfl, hq⟩ := hq
    obtain ⟨hbad, rfl⟩ := ck_n hq
    exact kx_X.out (fun _ hx => nomatch hx) ⟨by unfold s_cell; rw [if_neg hbad], by unfold s_cell; rw [if_neg hbad]⟩
  obtain ⟨rfl, hq⟩ := hq
  obtain ⟨g1, rfl⟩ := ck_y hq
  obtain ⟨p, hp, rfl, np⟩ := nI_get (N := 8) (by decide) g1
  refine kx_iload_n (pc := 4) d_EK_cell_4 rfl ?_
  refine kx_if_lt (pc := 5) (tgt := 14) d_EK_cell_5 (by decide) (fun y1 => ?_) (fun y1 => ?_)
  · exact kx_throw (pc := 14) (k := 3) (j := 18) (tx := "there is no such cell") d_EK_cell_14 d_EK_cell_17 d_EK_cell_18 d_EK_cell_20 d_EK_cell_23 tx_EK_57_61 (by decide +kernel) (fun _ hx => nomatch hx) (by decide) (Nat.le_of_ble_eq_true rfl) ⟨by unfold s_cell; rw [if_pos g1, if_neg (fun w => Int32.not_lt.mpr w.1 y1)], by unfold s_cell; rw [if_pos g1, if_neg (fun w => Int32.not_lt.mpr w.1 y1)]⟩
  · refine kx_iload_n (pc := 8) d_EK_cell_8 rfl ?_
    refine kx_bipush (pc := 9) (x := 16) d_EK_cell_9 (by decide) ?_
    refine kx_icmp_lt (pc := 11) (tgt := 24) d_EK_cell_11 (by decide) (fun y2 => ?_) (fun y2 => ?_)
    · have g2 : 0 ≤ x2 ∧ x2 < 16 := ⟨Int32.not_lt.mp y1, y2⟩
      obtain ⟨z, hz, rfl, nz⟩ := nI_get (N := 16) (by decide) g2
      refine kx_aload_n (pc := 24) d_EK_cell_24 rfl ?_
      refine kw_getr (pc := 25) (r := 11) d_EK_cell_25 fl_EK_18 rfl (by decide) rfl ?_
      refine kx_iload_n (pc := 28) d_EK_cell_28 rfl ?_
      refine kw_aald (pc := 29) d_EK_cell_29 ⟨_, fun _ => rfl⟩ rfl ⟨rfl, hp, by decide⟩ (wq_p hp) ?_
      refine kw_getr (pc := 30) d_EK_cell_30 fl_EK_87 (wk_p0 hp) (by decide) (wf_p3 hp) ?_
      refine kx_iload_n (pc := 33) d_EK_cell_33 rfl ?_
      refine ka_lald (pc := 34) d_EK_cell_34 (by omega) (wk_p3 hp) ⟨rfl, hz, by decide⟩ ?_
      exact kx_lret rfl d_EK_cell_35 ⟨by unfold s_cell; rw [if_pos g1, if_pos g2, np, nz], by unfold s_cell; rw [if_pos g1, if_pos g2, np, nz]⟩
    · exact kx_throw (pc := 14) (k := 3) (j := 18) (tx := "there is no such cell") d_EK_cell_14 d_EK_cell_17 d_EK_cell_18 d_EK_cell_20 d_EK_cell_23 tx_EK_57_61 (by decide +kernel) (fun _ hx => nomatch hx) (by decide) (Nat.le_of_ble_eq_true rfl) ⟨by unfold s_cell; rw [if_pos g1, if_neg (fun w => y2 w.2)], by unfold s_cell; rw [if_pos g1, if_neg (fun w => y2 w.2)]⟩
def s_filter (a : kW) (x1 x2 x3 : Int32) : (Option Value ⊕ String) × kW := if 0 ≤ x1 ∧ x1 < 8 then if -1 ≤ x2 ∧ x2 < 16 then if 0 ≤ x3 ∧ x3 ≤ 255 then (Sum.inl none, f_filter a (nt x1) x2 x3) else (Sum.inr "java/lang/IllegalArgumentException", a) else (Sum.inr "java/lang/IllegalArgumentException", a) else (Sum.inr "java/lang/IllegalArgumentException", a)
set_option maxHeartbeats 4000000 in
set_option maxRecDepth 100000 in
theorem k_filter {E : kx_E} {n : Nat} {a b : kW} {x1 x2 x3 : Int32} : kx_V E i_EK_filter 8 5 30 (fun r _ h' => r = (s_filter a x1 x2 x3).1 ∧ h' = wd (wx (s_filter a x1 x2 x3).2 b)) 5 30 0 (lv_args 0 [.ref 0, .int x1, .int x2, .int x3]) [] n (wd (wx a b)) := by
  refine kx_iload_n (pc := 0) d_EK_filter_0 rfl ?_
  refine kx_invS (pc := 1) (as := [.int _]) (st := []) (k := 4) (j := 24) d_EK_filter_1 ws_EK_91 (k_checkSubscription x1) rfl rfl (Nat.le_of_ble_eq_true rfl) (by decide) (Nat.le_of_ble_eq_true rfl) (fun rv n' h' hq => ?_) (fun X n' h' hq => ?_)
  rotate_left
  · obtain ⟨rfl, hq⟩ := hq
    obtain ⟨hbad, rfl⟩ := ck_n hq
    exact kx_X.out (fun _ hx => nomatch hx) ⟨by unfold s_filter; rw [if_neg hbad], by unfold s_filter; rw [if_neg hbad]⟩
  obtain ⟨rfl, hq⟩ := hq
  obtain ⟨g1, rfl⟩ := ck_y hq
  obtain ⟨u, hu, rfl, nu⟩ := nI_get (N := 8) (by decide) g1
  refine kx_iload_n (pc := 4) d_EK_filter_4 rfl ?_
  refine kx_iconst (pc := 5) (x := -1) d_EK_filter_5 (by decide) ?_
  refine kx_icmp_lt (pc := 6) (tgt := 19) d_EK_filter_6 (by decide) (fun y1 => ?_) (fun y1 => ?_)
  · refine kx_iconst (pc := 19) (x := 0) d_EK_filter_19 (by decide) ?_
    refine kx_invS (pc := 20) (as := [.int _]) (st := []) (k := 3) (j := 18) d_EK_filter_20 ws_EK_35 (k_checkArgument 0) rfl rfl (Nat.le_of_ble_eq_true rfl) (by decide) (Nat.le_of_ble_eq_true rfl) (fun rv n' h' hq => absurd rfl (ca_y hq.2).1) (fun X n' h' hq => ?_)
    obtain ⟨rfl, hq⟩ := hq
    obtain ⟨-, rfl⟩ := ca_n hq
    exact kx_X.out (fun _ hx => nomatch hx) ⟨by unfold s_filter; rw [if_pos g1, if_neg (fun w => Int32.not_lt.mpr w.1 y1)], by unfold s_filter; rw [if_pos g1, if_neg (fun w => Int32.not_lt.mpr w.1 y1)]⟩
  · refine kx_iload_n (pc := 9) d_EK_filter_9 rfl ?_
    refine kx_bipush (pc := 10) (x := 16) d_EK_filter_10 (by decide) ?_
    refine kx_icmp_ge (pc := 12) (tgt := 19) d_EK_filter_12 (by decide) (fun y2 => ?_) (fun y2 => ?_)
    · refine kx_iconst (pc := 19) (x := 0) d_EK_filter_19 (by decide) ?_
      refine kx_invS (pc := 20) (as := [.int _]) (st := []) (k := 3) (j := 18) d_EK_filter_20 ws_EK_35 (k_checkArgument 0) rfl rfl (Nat.le_of_ble_eq_true rfl) (by decide) (Nat.le_of_ble_eq_true rfl) (fun rv n' h' hq => absurd rfl (ca_y hq.2).1) (fun X n' h' hq => ?_)
      obtain ⟨rfl, hq⟩ := hq
      obtain ⟨-, rfl⟩ := ca_n hq
      exact kx_X.out (fun _ hx => nomatch hx) ⟨by unfold s_filter; rw [if_pos g1, if_neg (fun w => Int32.not_lt.mpr y2 w.2)], by unfold s_filter; rw [if_pos g1, if_neg (fun w => Int32.not_lt.mpr y2 w.2)]⟩
    · have g2 : -1 ≤ x2 ∧ x2 < 16 := ⟨Int32.not_lt.mp y1, Int32.not_le.mp y2⟩
      refine kx_iconst (pc := 15) (x := 1) d_EK_filter_15 (by decide) ?_
      refine kx_goto (pc := 16) (tgt := 20) d_EK_filter_16 (by decide) ?_
      refine kx_invS (pc := 20) (as := [.int _]) (st := []) (k := 3) (j := 18) d_EK_filter_20 ws_EK_35 (k_checkArgument 1) rfl rfl (Nat.le_of_ble_eq_true rfl) (by decide) (Nat.le_of_ble_eq_true rfl) (fun rv n' h' hq => ?_) (fun X n' h' hq => absurd (ca_n hq.2).1 (by decide))
      obtain ⟨rfl, hq⟩ := hq
      obtain ⟨-, rfl⟩ := ca_y hq
      refine kx_iload_n (pc := 23) d_EK_filter_23 rfl ?_
      refine kx_if_lt (pc := 24) (tgt := 38) d_EK_filter_24 (by decide) (fun g31 => ?_) (fun g31 => ?_)
      · refine kx_iconst (pc := 38) (x := 0) d_EK_filter_38 (by decide) ?_
        refine kx_invS (pc := 39) (as := [.int _]) (st := []) (k := 2) (j := 12) d_EK_filter_39 ws_EK_35 (k_checkArgument 0) rfl rfl (Nat.le_of_ble_eq_true rfl) (by decide) (Nat.le_of_ble_eq_true rfl) (fun rv n' h' hq => absurd rfl (ca_y hq.2).1) (fun X n' h' hq => ?_)
        obtain ⟨rfl, hq⟩ := hq
        obtain ⟨-, rfl⟩ := ca_n hq
        exact kx_X.out (fun _ hx => nomatch hx) ⟨by unfold s_filter; rw [if_pos g1, if_pos g2, if_neg (fun w => Int32.not_lt.mpr w.1 g31)], by unfold s_filter; rw [if_pos g1, if_pos g2, if_neg (fun w => Int32.not_lt.mpr w.1 g31)]⟩
      · refine kx_iload_n (pc := 27) d_EK_filter_27 rfl ?_
        refine kx_sipush (pc := 28) (x := 255) d_EK_filter_28 (by decide) ?_
        refine kx_icmp_gt (pc := 31) (tgt := 38) d_EK_filter_31 (by decide) (fun g32 => ?_) (fun g32 => ?_)
        · refine kx_iconst (pc := 38) (x := 0) d_EK_filter_38 (by decide) ?_
          refine kx_invS (pc := 39) (as := [.int _]) (st := []) (k := 2) (j := 12) d_EK_filter_39 ws_EK_35 (k_checkArgument 0) rfl rfl (Nat.le_of_ble_eq_true rfl) (by decide) (Nat.le_of_ble_eq_true rfl) (fun rv n' h' hq => absurd rfl (ca_y hq.2).1) (fun X n' h' hq => ?_)
          obtain ⟨rfl, hq⟩ := hq
          obtain ⟨-, rfl⟩ := ca_n hq
          exact kx_X.out (fun _ hx => nomatch hx) ⟨by unfold s_filter; rw [if_pos g1, if_pos g2, if_neg (fun w => Int32.not_lt.mpr w.2 g32)], by unfold s_filter; rw [if_pos g1, if_pos g2, if_neg (fun w => Int32.not_lt.mpr w.2 g32)]⟩
        · have g3 : 0 ≤ x3 ∧ x3 ≤ 255 := ⟨Int32.not_lt.mp g31, Int32.not_lt.mp g32⟩
          refine kx_iconst (pc := 34) (x := 1) d_EK_filter_34 (by decide) ?_
          refine kx_goto (pc := 35) (tgt := 39) d_EK_filter_35 (by decide) ?_
          refine kx_invS (pc := 39) (as := [.int _]) (st := []) (k := 2) (j := 12) d_EK_filter_39 ws_EK_35 (k_checkArgument 1) rfl rfl (Nat.le_of_ble_eq_true rfl) (by decide) (Nat.le_of_ble_eq_true rfl) (fun rv n' h' hq => ?_) (fun X n' h' hq => absurd (ca_n hq.2).1 (by decide))
          obtain ⟨rfl, hq⟩ := hq
          obtain ⟨-, rfl⟩ := ca_y hq
          refine kx_aload_n (pc := 42) d_EK_filter_42 rfl ?_
          refine kw_getr (pc := 43) (r := 52) d_EK_filter_43 fl_EK_27 rfl (by decide) rfl ?_
          refine kx_iload_n (pc := 46) d_EK_filter_46 rfl ?_
          refine kw_aald (pc := 47) d_EK_filter_47 ⟨_, fun _ => rfl⟩ rfl ⟨rfl, hu, by decide⟩ (wq_s hu) ?_
          refine kx_iload_n (pc := 48) d_EK_filter_48 rfl ?_
          refine kx_iload_n (pc := 49) d_EK_filter_49 rfl ?_
          refine kx_invV (pc := 50) (as := [.int _, .int _]) (st := []) (k := 2) (j := 12) d_EK_filter_50 wv_EK_94 (wd_o (wk_s hu)) (k_setFilter hu) rfl rfl (Nat.le_of_ble_eq_true rfl) (by decide) (Nat.le_of_ble_eq_true rfl) (fun rv n' h' hq => ?_) (fun X n' h' hq => nomatch hq.2)
          obtain ⟨rfl, hq⟩ := hq
          cases hq
          exact kx_vret rfl d_EK_filter_53 ⟨by unfold s_filter; rw [if_pos g1, if_pos g2, if_pos g3, nu], by unfold s_filter; rw [if_pos g1, if_pos g2, if_pos g3, nu]⟩
noncomputable def s_next (a : kW) (sz q : Nat) (x1 : Int32) : (Option Value ⊕ String) × kW := if 0 ≤ x1 ∧ x1 < 8 then (Sum.inl (some (.int (f_wait a (nt x1) (sz - q) q))), a) else (Sum.inr "java/lang/IllegalArgumentException", a)
set_option maxHeartbeats 4000000 in
set_option maxRecDepth 100000 in
theorem k_next {E : kx_E} {n : Nat} {a b : kW} {sz q : Nat} {x1 : Int32} (h1 : a.2.2 1 9 = nI sz) (h5 : sz ≤ 500) (hq5 : q ≤ 500) (hpos : 0 ≤ x1 ∧ x1 < 8 → a.2.2 (53 + nt x1) 2 = nI q) : kx_V E i_EK_next 8 5 30 (fun r _ h' => r = (s_next a sz q x1).1 ∧ h' = wd (wx (s_next a sz q x1).2 b)) 5 30 0 (lv_args 0 [.ref 0, .int x1]) [] n (wd (wx a b)) := by
  refine kx_iload_n (pc := 0) d_EK_next_0 rfl ?_
  refine kx_invS (pc := 1) (as := [.int _]) (st := []) (k := 4) (j := 24) d_EK_next_1 ws_EK_91 (k_checkSubscription x1) rfl rfl (Nat.le_of_ble_eq_true rfl) (by decide) (Nat.le_of_ble_eq_true rfl) (fun rv n' h' hq => ?_) (fun X n' h' hq => ?_)
  rotate_left
  · obtain ⟨rfl, hq⟩ := hq
    obtain ⟨hbad, rfl⟩ := ck_n hq
    exact kx_X.out (fun _ hx => nomatch hx) ⟨by unfold s_next; rw [if_neg hbad], by unfold s_next; rw [if_neg hbad]⟩
  obtain ⟨rfl, hq⟩ := hq
  obtain ⟨g1, rfl⟩ := ck_y hq
  obtain ⟨u, hu, rfl, nu⟩ := nI_get (N := 8) (by decide) g1
  refine kx_aload_n (pc := 4) d_EK_next_4 rfl ?_
  refine kw_getr (pc := 5) (r := 52) d_EK_next_5 fl_EK_27 rfl (by decide) rfl ?_
  refine kx_iload_n (pc := 8) d_EK_next_8 rfl ?_
  refine kw_aald (pc := 9) d_EK_next_9 ⟨_, fun _ => rfl⟩ rfl ⟨rfl, hu, by decide⟩ (wq_s hu) ?_
  refine kx_aload_n (pc := 10) d_EK_next_10 rfl ?_
  refine kw_getr (pc := 11) (r := 1) d_EK_next_11 fl_EK_10 rfl (by decide) rfl ?_
  refine kx_invV (pc := 14) (as := [.ref _]) (st := []) (k := 4) (j := 24) d_EK_next_14 wv_EK_98 (wd_o (wk_s hu)) (k_firstWaiting (a := a) (b := b) hu h1 h5 hq5 (by have h9 := hpos g1; rw [nu] at h9; exact h9)) rfl rfl (Nat.le_of_ble_eq_true rfl) (by decide) (Nat.le_of_ble_eq_true rfl) (fun rv n' h' hq => ?_) (fun X n' h' hq => nomatch hq.2)
  obtain ⟨rfl, hq⟩ := hq
  cases hq
  exact kx_iret rfl d_EK_next_17 ⟨by unfold s_next; rw [if_pos g1, nu], by unfold s_next; rw [if_pos g1, nu]⟩
