def s_count (a : kW) (x1 x2 : Int32) : (Option Value ⊕ String) × kW := if x1 = 0 then (Sum.inl (some (.int (a.2.2 1 9))), a) else if x1 = 1 then (Sum.inl (some (.int (a.2.2 1 10))), a) else if x1 = 2 then (if 0 ≤ x2 ∧ x2 < 16 then (Sum.inl (some (.int (a.1 9 (nt x2)))), a) else (Sum.inr "java/lang/IllegalArgumentException", a)) else if x1 = 3 then (if 0 ≤ x2 ∧ x2 < 8 then (Sum.inl (some (.int (a.2.2 (12 + 5 * nt x2) 4))), a) else (Sum.inr "java/lang/IllegalArgumentException", a)) else if x1 = 4 then (if 0 ≤ x2 ∧ x2 < 8 then (Sum.inl (some (.int (a.2.2 (53 + nt x2) 2))), a) else (Sum.inr "java/lang/IllegalArgumentException", a)) else if x1 = 5 then (if 0 ≤ x2 ∧ x2 < 8 then (Sum.inl (some (.int (a.1 10 (nt x2)))), a) else (Sum.inr "java/lang/IllegalArgumentException", a)) else (Sum.inr "java/lang/IllegalArgumentException", a)
set_option maxHeartbeats 4000000 in
set_option maxRecDepth 100000 in
theorem k_count {E : kx_E} {n : Nat} {a b : kW} {x1 x2 : Int32} : kx_V E i_EK_count 8 5 30 (fun r _ h' => r = (s_count a x1 x2).1 ∧ h' = wd (wx (s_count a x1 x2).2 b)) 5 30 0 (lv_args 0 [.ref 0, .int x1, .int x2]) [] n (wd (wx a b)) := by
  refine kx_iload_n (pc := 0) d_EK_count_0 rfl ?_
  by_cases e0 : x1 = 0
  · refine kx_tsIn (pc := 1) (tgt := 40) d_EK_count_1 (by rw [e0]; decide) (by rw [e0]; decide) (by rw [e0]; rfl) (by decide) ?_
    refine kx_aload_n (pc := 40) d_EK_count_40 rfl ?_
    refine kw_getr (pc := 41) (r := 1) d_EK_count_41 fl_EK_10 rfl (by decide) rfl ?_
    refine ka_geti (pc := 44) d_EK_count_44 fl_EK_77 (by decide) rfl (by decide) rfl ?_
    exact kx_iret rfl d_EK_count_47 ⟨by unfold s_count; rw [if_pos e0], by unfold s_count; rw [if_pos e0]⟩
  by_cases e1 : x1 = 1
  · refine kx_tsIn (pc := 1) (tgt := 48) d_EK_count_1 (by rw [e1]; decide) (by rw [e1]; decide) (by rw [e1]; rfl) (by decide) ?_
    refine kx_aload_n (pc := 48) d_EK_count_48 rfl ?_
    refine kw_getr (pc := 49) (r := 1) d_EK_count_49 fl_EK_10 rfl (by decide) rfl ?_
    refine ka_geti (pc := 52) d_EK_count_52 fl_EK_108 (by decide) rfl (by decide) rfl ?_
    exact kx_iret rfl d_EK_count_55 ⟨by unfold s_count; rw [if_neg e0, if_pos e1], by unfold s_count; rw [if_neg e0, if_pos e1]⟩
  by_cases e2 : x1 = 2
  · refine kx_tsIn (pc := 1) (tgt := 56) d_EK_count_1 (by rw [e2]; decide) (by rw [e2]; decide) (by rw [e2]; rfl) (by decide) ?_
    refine kx_iload_n (pc := 56) d_EK_count_56 rfl ?_
    refine kx_invS (pc := 57) (as := [.int _]) (st := []) (k := 4) (j := 24) d_EK_count_57 ws_EK_32 (k_checkStream x2) rfl rfl (Nat.le_of_ble_eq_true rfl) (by decide) (Nat.le_of_ble_eq_true rfl) (fun rv n' h' hq => ?_) (fun X n' h' hq => ?_)
    rotate_left
    · obtain ⟨rfl, hq⟩ := hq
      obtain ⟨hbad, rfl⟩ := ck_n hq
      exact kx_X.out (fun _ hx => nomatch hx) ⟨by unfold s_count; rw [if_neg e0, if_neg e1, if_pos e2, if_neg hbad], by unfold s_count; rw [if_neg e0, if_neg e1, if_pos e2, if_neg hbad]⟩
    obtain ⟨rfl, hq⟩ := hq
    obtain ⟨g1, rfl⟩ := ck_y hq
    obtain ⟨s, hs, rfl, ns⟩ := nI_get (N := 16) (by decide) g1
    refine kx_aload_n (pc := 60) d_EK_count_60 rfl ?_
    refine kw_getr (pc := 61) (r := 1) d_EK_count_61 fl_EK_10 rfl (by decide) rfl ?_
    refine kw_getr (pc := 64) (r := 9) d_EK_count_64 fl_EK_42 rfl (by decide) rfl ?_
    refine kx_iload_n (pc := 67) d_EK_count_67 rfl ?_
    refine ka_iald (pc := 68) d_EK_count_68 (by decide) rfl ⟨rfl, hs, by decide⟩ ?_
    exact kx_iret rfl d_EK_count_69 ⟨by unfold s_count; rw [if_neg e0, if_neg e1, if_pos e2, if_pos g1, ns], by unfold s_count; rw [if_neg e0, if_neg e1, if_pos e2, if_pos g1, ns]⟩
  by_cases e3 : x1 = 3
  · refine kx_tsIn (pc := 1) (tgt := 70) d_EK_count_1 (by rw [e3]; decide) (by rw [e3]; decide) (by rw [e3]; rfl) (by decide) ?_
    refine kx_iload_n (pc := 70) d_EK_count_70 rfl ?_
    refine kx_invS (pc := 71) (as := [.int _]) (st := []) (k := 4) (j := 24) d_EK_count_71 ws_EK_66 (k_checkProjection x2) rfl rfl (Nat.le_of_ble_eq_true rfl) (by decide) (Nat.le_of_ble_eq_true rfl) (fun rv n' h' hq => ?_) (fun X n' h' hq => ?_)
    rotate_left
    · obtain ⟨rfl, hq⟩ := hq
      obtain ⟨hbad, rfl⟩ := ck_n hq
      exact kx_X.out (fun _ hx => nomatch hx) ⟨by unfold s_count; rw [if_neg e0, if_neg e1, if_neg e2, if_pos e3, if_neg hbad], by unfold s_count; rw [if_neg e0, if_neg e1, if_neg e2, if_pos e3, if_neg hbad]⟩
    obtain ⟨rfl, hq⟩ := hq
    obtain ⟨g1, rfl⟩ := ck_y hq
    obtain ⟨p, hp, rfl, np⟩ := nI_get (N := 8) (by decide) g1
    refine kx_aload_n (pc := 74) d_EK_count_74 rfl ?_
    refine kw_getr (pc := 75) (r := 11) d_EK_count_75 fl_EK_18 rfl (by decide) rfl ?_
    refine kx_iload_n (pc := 78) d_EK_count_78 rfl ?_
    refine kw_aald (pc := 79) d_EK_count_79 ⟨_, fun _ => rfl⟩ rfl ⟨rfl, hp, by decide⟩ (wq_p hp) ?_
    refine ka_geti (pc := 80) d_EK_count_80 fl_EK_145 (by omega) (wk_p0 hp) (by decide) (wf_p4 hp) ?_
    exact kx_iret rfl d_EK_count_83 ⟨by unfold s_count; rw [if_neg e0, if_neg e1, if_neg e2, if_pos e3, if_pos g1, np], by unfold s_count; rw [if_neg e0, if_neg e1, if_neg e2, if_pos e3, if_pos g1, np]⟩
  by_cases e4 : x1 = 4
  · refine kx_tsIn (pc := 1) (tgt := 84) d_EK_count_1 (by rw [e4]; decide) (by rw [e4]; decide) (by rw [e4]; rfl) (by decide) ?_
    refine kx_iload_n (pc := 84) d_EK_count_84 rfl ?_
    refine kx_invS (pc := 85) (as := [.int _]) (st := []) (k := 4) (j := 24) d_EK_count_85 ws_EK_91 (k_checkSubscription x2) rfl rfl (Nat.le_of_ble_eq_true rfl) (by decide) (Nat.le_of_ble_eq_true rfl) (fun rv n' h' hq => ?_) (fun X n' h' hq => ?_)
    rotate_left
    · obtain ⟨rfl, hq⟩ := hq
      obtain ⟨hbad, rfl⟩ := ck_n hq
      exact kx_X.out (fun _ hx => nomatch hx) ⟨by unfold s_count; rw [if_neg e0, if_neg e1, if_neg e2, if_neg e3, if_pos e4, if_neg hbad], by unfold s_count; rw [if_neg e0, if_neg e1, if_neg e2, if_neg e3, if_pos e4, if_neg hbad]⟩
    obtain ⟨rfl, hq⟩ := hq
    obtain ⟨g1, rfl⟩ := ck_y hq
    obtain ⟨u, hu, rfl, nu⟩ := nI_get (N := 8) (by decide) g1
    refine kx_aload_n (pc := 88) d_EK_count_88 rfl ?_
    refine kw_getr (pc := 89) (r := 52) d_EK_count_89 fl_EK_27 rfl (by decide) rfl ?_
    refine kx_iload_n (pc := 92) d_EK_count_92 rfl ?_
    refine kw_aald (pc := 93) d_EK_count_93 ⟨_, fun _ => rfl⟩ rfl ⟨rfl, hu, by decide⟩ (wq_s hu) ?_
    refine ka_geti (pc := 94) d_EK_count_94 fl_EK_148 (by omega) (wk_s hu) (by decide) (wf_s hu (by decide)) ?_
    exact kx_iret rfl d_EK_count_97 ⟨by unfold s_count; rw [if_neg e0, if_neg e1, if_neg e2, if_neg e3, if_pos e4, if_pos g1, nu], by unfold s_count; rw [if_neg e0, if_neg e1, if_neg e2, if_neg e3, if_pos e4, if_pos g1, nu]⟩
  by_cases e5 : x1 = 5
  · refine kx_tsIn (pc := 1) (tgt := 98) d_EK_count_1 (by rw [e5]; decide) (by rw [e5]; decide) (by rw [e5]; rfl) (by decide) ?_
    refine kx_iload_n (pc := 98) d_EK_count_98 rfl ?_
    refine kx_invS (pc := 99) (as := [.int _]) (st := []) (k := 4) (j := 24) d_EK_count_99 ws_EK_66 (k_checkProjection x2) rfl rfl (Nat.le_of_ble_eq_true rfl) (by decide) (Nat.le_of_ble_eq_true rfl) (fun rv n' h' hq => ?_) (fun X n' h' hq => ?_)
    rotate_left
    · obtain ⟨rfl, hq⟩ := hq
      obtain ⟨hbad, rfl⟩ := ck_n hq
      exact kx_X.out (fun _ hx => nomatch hx) ⟨by unfold s_count; rw [if_neg e0, if_neg e1, if_neg e2, if_neg e3, if_neg e4, if_pos e5, if_neg hbad], by unfold s_count; rw [if_neg e0, if_neg e1, if_neg e2, if_neg e3, if_neg e4, if_pos e5, if_neg hbad]⟩
    obtain ⟨rfl, hq⟩ := hq
    obtain ⟨g1, rfl⟩ := ck_y hq
    obtain ⟨p, hp, rfl, np⟩ := nI_get (N := 8) (by decide) g1
    refine kx_aload_n (pc := 102) d_EK_count_102 rfl ?_
    refine kw_getr (pc := 103) (r := 1) d_EK_count_103 fl_EK_10 rfl (by decide) rfl ?_
    refine kw_getr (pc := 106) (r := 10) d_EK_count_106 fl_EK_149 rfl (by decide) rfl ?_
    refine kx_iload_n (pc := 109) d_EK_count_109 rfl ?_
    refine ka_iald (pc := 110) d_EK_count_110 (by decide) rfl ⟨rfl, hp, by decide⟩ ?_
    exact kx_iret rfl d_EK_count_111 ⟨by unfold s_count; rw [if_neg e0, if_neg e1, if_neg e2, if_neg e3, if_neg e4, if_pos e5, if_pos g1, np], by unfold s_count; rw [if_neg e0, if_neg e1, if_neg e2, if_neg e3, if_neg e4, if_pos e5, if_pos g1, np]⟩
  have ho : x1.toInt < 0 ∨ 5 < x1.toInt := by
    have g : ∀ z : Int, x1.toInt = z → x1 = Int32.ofInt z := fun z hz => by rw [← hz, Int32.ofInt_toInt]
    rcases Int.lt_or_le x1.toInt 0 with w | w
    · exact Or.inl w
    · refine Or.inr ?_
      have n0 : x1.toInt ≠ 0 := fun e => e0 (g 0 e)
      have n1 : x1.toInt ≠ 1 := fun e => e1 (g 1 e)
      have n2 : x1.toInt ≠ 2 := fun e => e2 (g 2 e)
      have n3 : x1.toInt ≠ 3 := fun e => e3 (g 3 e)
      have n4 : x1.toInt ≠ 4 := fun e => e4 (g 4 e)
      have n5 : x1.toInt ≠ 5 := fun e => e5 (g 5 e)
      omega
  refine kx_tsOut (pc := 1) (tgt := 112) d_EK_count_1 ho (by decide) ?_
  exact kx_throw (pc := 112) (k := 4) (j := 24) (tx := "there is nothing such to count") d_EK_count_112 d_EK_count_115 d_EK_count_116 d_EK_count_118 d_EK_count_121 tx_EK_152_156 (by decide +kernel) (fun _ hx => nomatch hx) (by decide) (Nat.le_of_ble_eq_true rfl) ⟨by unfold s_count; rw [if_neg e0, if_neg e1, if_neg e2, if_neg e3, if_neg e4, if_neg e5], by unfold s_count; rw [if_neg e0, if_neg e1, if_neg e2, if_neg e3, if_neg e4, if_neg e5]⟩
def CIp (a : kW) (p : Nat) : Prop := ∃ sz q, a.2.2 1 9 = nI sz ∧ sz ≤ 500 ∧ q ≤ 500 ∧ a.2.2 (12 + 5 * p) 0 = nI p ∧ a.2.2 (12 + 5 * p) 4 = nI q ∧ ∀ k, k < sz → (∃ t, t < 8 ∧ a.1 4 k = nI t) ∧ ∃ s, s < 16 ∧ a.1 2 k = nI s
theorem f_count_cases {a : kW} {p q k sz : Nat} (h1 : a.2.2 1 9 = nI sz) : ((f_count a p q k sz).2.2.2 1 9 = nI sz ∧ (f_count a p q k sz).2.1 2 = a.1 2 ∧ (f_count a p q k sz).2.1 4 = a.1 4) ∨ (sz < 500 ∧ (f_count a p q k sz).2.2.2 1 9 = nI (sz + 1) ∧ (f_count a p q k sz).2.1 2 = upd (a.1 2) sz (nI (l4 (a.2.1 5 q))) ∧ (f_count a p q k sz).2.1 4 = upd (a.1 4) sz 7) := by
  unfold f_count
  split
  · split
    · exact Or.inl ⟨h1, rfl, rfl⟩
    · exact Or.inr ⟨by omega, rfl, rfl, rfl⟩
  · exact Or.inl ⟨h1, rfl, rfl⟩
theorem f_take_at {a : kW} {p sz q : Nat} (h1 : a.2.2 1 9 = nI sz) (h5 : sz ≤ 500) (hq : q ≤ 500) (hpos : a.2.2 (12 + 5 * p) 4 = nI q) : f_take a p = f_takeAt a p sz q := by
  unfold f_take
  rw [h1, hpos, nt_nI (by omega), nt_nI (by omega)]
theorem CIp.step {a : kW} {p : Nat} (h : CIp a p) : CIp (f_take a p).2 p := by
  obtain ⟨sz, q, h1, h5, hq, hn, hpos, hI⟩ := h
  rw [f_take_at h1 h5 hq hpos]
  unfold f_takeAt
  split
  · exact ⟨sz, q, h1, h5, hq, hn, hpos, hI⟩
  · rename_i hlt
    have hc := f_count_cases (p := p) (q := q) (k := f_cell a p q) h1
    have ho := f_count_o a p q (f_cell a p q) sz p
    have key : ∀ (v : Int32) (z : Nat), v = nI z → z ≤ 500 → CIp (uo (f_count a p q (f_cell a p q) sz).2 (12 + 5 * p) 4 v) p := by
      intro v z hv hz
      have o1 : (uo (f_count a p q (f_cell a p q) sz).2 (12 + 5 * p) 4 v).2.2 1 9 = (f_count a p q (f_cell a p q) sz).2.2.2 1 9 := uo_n (by omega)
      have o2 : (uo (f_count a p q (f_cell a p q) sz).2 (12 + 5 * p) 4 v).2.2 (12 + 5 * p) 0 = nI p := by rw [uo_k (by decide), ho 0]; exact hn
      have o3 : (uo (f_count a p q (f_cell a p q) sz).2 (12 + 5 * p) 4 v).2.2 (12 + 5 * p) 4 = nI z := by rw [uo_s]; exact hv
      rcases hc with ⟨g1, g2, g3⟩ | ⟨g0, g1, g2, g3⟩
      · refine ⟨sz, z, o1.trans g1, h5, hz, o2, o3, fun k hk => ?_⟩
        show (∃ t, t < 8 ∧ (f_count a p q (f_cell a p q) sz).2.1 4 k = nI t) ∧ ∃ s, s < 16 ∧ (f_count a p q (f_cell a p q) sz).2.1 2 k = nI s
        rw [g2, g3]
        exact hI k hk
      · refine ⟨sz + 1, z, o1.trans g1, by omega, hz, o2, o3, fun k hk => ?_⟩
        show (∃ t, t < 8 ∧ (f_count a p q (f_cell a p q) sz).2.1 4 k = nI t) ∧ ∃ s, s < 16 ∧ (f_count a p q (f_cell a p q) sz).2.1 2 k = nI s
        rw [g2, g3]
        by_cases e : k = sz
        · subst e
          exact ⟨⟨7, by decide, pk_us⟩, ⟨_, l4_lt _, pk_us⟩⟩
        · rw [pk_un e, pk_un e]
          exact hI k (by omega)
    split
    · split
      · exact key _ (q + 1) rfl (by omega)
      · have h9 := key (nI q) q rfl hq
        have e9 : uo (f_count a p q (f_cell a p q) sz).2 (12 + 5 * p) 4 (nI q) = (f_count a p q (f_cell a p q) sz).2 := by
          refine Prod.ext rfl (Prod.ext rfl (funext fun x => funext fun y => ?_))
          by_cases e : x = 12 + 5 * p ∧ y = 4
          · obtain ⟨rfl, rfl⟩ := e
            show (if _ then _ else _) = _
            rw [if_pos ⟨rfl, rfl⟩, ho 4, hpos]
          · show (if _ then _ else _) = _
            rw [if_neg e]
        rw [e9] at h9
        exact h9
    · refine ⟨sz, q + 1, ?_, h5, by omega, ?_, uo_s, fun k hk => hI k hk⟩
      · rw [uo_n (by omega)]; exact h1
      · rw [uo_k (by decide)]; exact hn
def f_advance (p : Nat) : Nat → Nat → kW → Nat × kW
  | 0, t, a => (t, a)
  | m + 1, t, a => if (f_take a p).1 then f_advance p m (t + 1) (f_take a p).2 else (t, (f_take a p).2)
set_option maxHeartbeats 4000000 in
set_option maxRecDepth 100000 in
theorem k_adv_loop {E : kx_E} {b : kW} {p N : Nat} (hp : p < 8) (hN : N ≤ 1000) (m : Nat) : ∀ (t : Nat) (a : kW), CIp a p → t + m = N → ∀ {Q : kx_Q}, (∀ n, Q (Sum.inl (some (.int (nI (f_advance p m t a).1)))) n (wd (wx (f_advance p m t a).2 b))) → ∀ n, kx_V E i_EK_advance 8 5 30 Q 3 18 25 [(3, .int (nI t)), (0, .ref 0), (1, .int (nI p)), (2, .int (nI N))] [] n (wd (wx a b)) := by
  induction m with
  | zero =>
    intro t a hC hm Q hQ n
    have hN2 : t = N := by omega
    subst hN2
    refine kx_iload_n (pc := 25) d_EK_advance_25 rfl ?_
    refine kx_iload_n (pc := 26) d_EK_advance_26 rfl ?_
    refine kx_icmp_ge (pc := 27) (tgt := 54) d_EK_advance_27 (by decide) (fun _ => ?_) (fun hz => absurd (nI_le (Nat.le_refl t) (by omega)) hz)
    refine kx_iload_n (pc := 54) d_EK_advance_54 rfl ?_
    exact kx_iret rfl d_EK_advance_55 (hQ _)
  | succ m ih =>
    intro t a hC hm Q hQ n
    have hlt : t < N := by omega
    obtain ⟨sz, q, h1, h5, hq5, hn, hpos, hI⟩ := id hC
    have et := f_take_at h1 h5 hq5 hpos
    refine kx_iload_n (pc := 25) d_EK_advance_25 rfl ?_
    refine kx_iload_n (pc := 26) d_EK_advance_26 rfl ?_
    refine kx_icmp_ge (pc := 27) (tgt := 54) d_EK_advance_27 (by decide) (fun hz => absurd hz (nI_ge hlt (by omega))) (fun _ => ?_)
    refine kx_aload_n (pc := 30) d_EK_advance_30 rfl ?_
    refine kw_getr (pc := 31) (r := 11) d_EK_advance_31 fl_EK_18 rfl (by decide) rfl ?_
    refine kx_iload_n (pc := 34) d_EK_advance_34 rfl ?_
    refine kw_aald (pc := 35) d_EK_advance_35 ⟨_, fun _ => rfl⟩ rfl ⟨rfl, hp, by decide⟩ (wq_p hp) ?_
    refine kx_aload_n (pc := 36) d_EK_advance_36 rfl ?_
    refine kw_getr (pc := 37) (r := 1) d_EK_advance_37 fl_EK_10 rfl (by decide) rfl ?_
    refine kx_invV (pc := 40) (as := [.ref _]) (st := []) (k := 3) (j := 18) d_EK_advance_40 wv_EK_73 (wd_o (wk_p0 hp)) (k_takeOne (a := a) (b := b) hp hq5 h1 h5 hn hpos hI) rfl rfl (Nat.le_of_ble_eq_true rfl) (by decide) (Nat.le_of_ble_eq_true rfl) (fun rv n' h' hq => ?_) (fun X n' h' hq => nomatch hq.1)
    obtain ⟨hq, rfl⟩ := hq
    cases hq
    rw [← et]
    refine kx_if_ne (pc := 43) (tgt := 48) d_EK_advance_43 (by decide) (fun hz => ?_) (fun hz => ?_)
    · have hy : (f_take a p).1 = true := by
        cases hw : (f_take a p).1
        · rw [hw] at hz
          exact absurd rfl hz
        · rfl
      refine kx_iinc (pc := 48) (y := nI (t + 1)) (lv' := [(3, _), (0, _), (1, _), (2, _)]) d_EK_advance_48 rfl (nI_1 t) (by decide) rfl ?_
      refine kx_goto (pc := 51) (tgt := 25) d_EK_advance_51 (by decide) ?_
      exact ih (t + 1) (f_take a p).2 hC.step (by omega) (fun n => by rw [← show f_advance p (m + 1) t a = f_advance p m (t + 1) (f_take a p).2 from if_pos hy]; exact hQ n) _
    · have hy : ¬ (f_take a p).1 = true := fun hw => by
        rw [hw] at hz
        exact absurd hz (by decide)
      have e0 : f_advance p (m + 1) t a = (t, (f_take a p).2) := if_neg hy
      rw [e0] at hQ
      refine kx_iload_n (pc := 46) d_EK_advance_46 rfl ?_
      exact kx_iret rfl d_EK_advance_47 (hQ _)
def s_adv (a : kW) (x1 x2 : Int32) : (Option Value ⊕ String) × kW := if 0 ≤ x1 ∧ x1 < 8 then if 0 ≤ x2 ∧ x2 ≤ 1000 then (Sum.inl (some (.int (nI (f_advance (nt x1) (nt x2) 0 a).1))), (f_advance (nt x1) (nt x2) 0 a).2) else (Sum.inr "java/lang/IllegalArgumentException", a) else (Sum.inr "java/lang/IllegalArgumentException", a)
set_option maxHeartbeats 4000000 in
set_option maxRecDepth 100000 in
theorem k_advance {E : kx_E} {n : Nat} {a b : kW} {x1 x2 : Int32} (hC : ∀ p, p < 8 → CIp a p) : kx_V E i_EK_advance 8 5 30 (fun r _ h' => r = (s_adv a x1 x2).1 ∧ h' = wd (wx (s_adv a x1 x2).2 b)) 5 30 0 (lv_args 0 [.ref 0, .int x1, .int x2]) [] n (wd (wx a b)) := by
  refine kx_iload_n (pc := 0) d_EK_advance_0 rfl ?_
  refine kx_invS (pc := 1) (as := [.int _]) (st := []) (k := 4) (j := 24) d_EK_advance_1 ws_EK_66 (k_checkProjection x1) rfl rfl (Nat.le_of_ble_eq_true rfl) (by decide) (Nat.le_of_ble_eq_true rfl) (fun rv n' h' hq => ?_) (fun X n' h' hq => ?_)
  rotate_left
  · obtain ⟨rfl, hq⟩ := hq
    obtain ⟨hbad, rfl⟩ := ck_n hq
    exact kx_X.out (fun _ hx => nomatch hx) ⟨by unfold s_adv; rw [if_neg hbad], by unfold s_adv; rw [if_neg hbad]⟩
  obtain ⟨rfl, hq⟩ := hq
  obtain ⟨g1, rfl⟩ := ck_y hq
  obtain ⟨p, hp, rfl, np⟩ := nI_get (N := 8) (by decide) g1
  refine kx_iload_n (pc := 4) d_EK_advance_4 rfl ?_
  refine kx_if_lt (pc := 5) (tgt := 19) d_EK_advance_5 (by decide) (fun g21 => ?_) (fun g21 => ?_)
  · refine kx_iconst (pc := 19) (x := 0) d_EK_advance_19 (by decide) ?_
    refine kx_invS (pc := 20) (as := [.int _]) (st := []) (k := 3) (j := 18) d_EK_advance_20 ws_EK_35 (k_checkArgument 0) rfl rfl (Nat.le_of_ble_eq_true rfl) (by decide) (Nat.le_of_ble_eq_true rfl) (fun rv n' h' hq => absurd rfl (ca_y hq.2).1) (fun X n' h' hq => ?_)
    obtain ⟨rfl, hq⟩ := hq
    obtain ⟨-, rfl⟩ := ca_n hq
    exact kx_X.out (fun _ hx => nomatch hx) ⟨by unfold s_adv; rw [if_pos g1, if_neg (fun w => Int32.not_lt.mpr w.1 g21)], by unfold s_adv; rw [if_pos g1, if_neg (fun w => Int32.not_lt.mpr w.1 g21)]⟩
  · refine kx_iload_n (pc := 8) d_EK_advance_8 rfl ?_
    refine kx_sipush (pc := 9) (x := 1000) d_EK_advance_9 (by decide) ?_
    refine kx_icmp_gt (pc := 12) (tgt := 19) d_EK_advance_12 (by decide) (fun g22 => ?_) (fun g22 => ?_)
    · refine kx_iconst (pc := 19) (x := 0) d_EK_advance_19 (by decide) ?_
      refine kx_invS (pc := 20) (as := [.int _]) (st := []) (k := 3) (j := 18) d_EK_advance_20 ws_EK_35 (k_checkArgument 0) rfl rfl (Nat.le_of_ble_eq_true rfl) (by decide) (Nat.le_of_ble_eq_true rfl) (fun rv n' h' hq => absurd rfl (ca_y hq.2).1) (fun X n' h' hq => ?_)
      obtain ⟨rfl, hq⟩ := hq
      obtain ⟨-, rfl⟩ := ca_n hq
      exact kx_X.out (fun _ hx => nomatch hx) ⟨by unfold s_adv; rw [if_pos g1, if_neg (fun w => Int32.not_lt.mpr w.2 g22)], by unfold s_adv; rw [if_pos g1, if_neg (fun w => Int32.not_lt.mpr w.2 g22)]⟩
    · have g2 : 0 ≤ x2 ∧ x2 ≤ 1000 := ⟨Int32.not_lt.mp g21, Int32.not_lt.mp g22⟩
      refine kx_iconst (pc := 15) (x := 1) d_EK_advance_15 (by decide) ?_
      refine kx_goto (pc := 16) (tgt := 20) d_EK_advance_16 (by decide) ?_
      refine kx_invS (pc := 20) (as := [.int _]) (st := []) (k := 3) (j := 18) d_EK_advance_20 ws_EK_35 (k_checkArgument 1) rfl rfl (Nat.le_of_ble_eq_true rfl) (by decide) (Nat.le_of_ble_eq_true rfl) (fun rv n' h' hq => ?_) (fun X n' h' hq => absurd (ca_n hq.2).1 (by decide))
      obtain ⟨rfl, hq⟩ := hq
      obtain ⟨-, rfl⟩ := ca_y hq
      obtain ⟨N, hN, rfl⟩ := nI_of2 (M := 1000) (n := 1000) (by decide) (Int32.not_lt.mpr g2.1) g2.2
      have nN : nt (nI N) = N := nt_nI (by omega)
      refine kx_iconst (pc := 23) (x := 0) d_EK_advance_23 (by decide) ?_
      refine kx_eqi (show (0 : Int32) = nI 0 from rfl) ?_
      refine kx_istore_n (pc := 24) (lv' := [(3, _), (0, _), (1, _), (2, _)]) d_EK_advance_24 rfl (by decide) rfl ?_
      refine k_adv_loop hp hN N 0 a (hC p hp) (by omega) (fun _ => ?_) _
      exact ⟨by unfold s_adv; rw [if_pos g1, if_pos g2, np, nN], by unfold s_adv; rw [if_pos g1, if_pos g2, np, nN]⟩
