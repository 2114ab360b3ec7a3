def f_syncL : Nat → Nat → kW → kW
  | 0, _, a => a
  | m + 1, u, a => f_syncL m (u + 1) (f_safe a u)
def f_crP (x : Int32) : Nat → Nat → kW → kW
  | 0, _, a => a
  | m + 1, p, a => f_crP x m (p + 1) (f_recover a p x)
def f_crS (x : Int32) : Nat → Nat → kW → kW
  | 0, _, a => a
  | m + 1, u, a => f_crS x m (u + 1) (f_srec a u x)
theorem f_recover_9 (a : kW) (p : Nat) (x : Int32) : (f_recover a p x).2.2 1 9 = a.2.2 1 9 := by
  unfold f_recover f_over
  split
  · rw [uo_n (by omega), uo_n (by omega)]; rfl
  · rw [uo_n (by omega)]; rfl
def s_sync (a : kW) : kW := f_syncL 8 0 (uo a 1 10 (a.2.2 1 9))
def s_crash (a : kW) (sz du : Nat) : kW := f_crS (nI du) 8 0 (f_crP (nI du) 8 0 (uo (f_drop (sz - du) du a) 1 9 (nI du)))
set_option maxHeartbeats 4000000 in
set_option maxRecDepth 100000 in
theorem k_sync_loop {E : kx_E} {b : kW} {x : Int32} (m : Nat) : ∀ (i : Nat) (a : kW), i + m = 8 → a.2.2 1 9 = x → ∀ {Q : kx_Q}, (∀ n, Q (Sum.inl (some (.int x))) n (wd (wx (f_syncL m i a) b))) → ∀ n, kx_V E i_EK_sync 8 0 0 Q 0 0 16 [(1, .int (nI i)), (0, .ref 0)] [] n (wd (wx a b)) := by
  induction m with
  | zero =>
    intro i a hm hx Q hQ n
    have h8 : i = 8 := by omega
    subst h8
    refine kx_iload_n (pc := 16) d_EK_sync_16 rfl ?_
    refine kx_bipush (pc := 17) (x := 8) d_EK_sync_17 (by decide) ?_
    refine kx_eqi (show (8 : Int32) = nI 8 from rfl) ?_
    refine kx_icmp_ge (pc := 19) (tgt := 37) d_EK_sync_19 (by decide) (fun _ => ?_) (fun hz => absurd (nI_le (Nat.le_refl 8) (by omega)) hz)
    refine kx_aload_n (pc := 37) d_EK_sync_37 rfl ?_
    refine kw_getr (pc := 38) (r := 1) d_EK_sync_38 fl_EK_10 rfl (by decide) rfl ?_
    refine ka_geti (pc := 41) d_EK_sync_41 fl_EK_77 (by decide) rfl (by decide) rfl ?_
    refine kx_eqi hx ?_
    exact kx_iret rfl d_EK_sync_44 (hQ _)
  | succ m ih =>
    intro i a hm hx Q hQ n
    have hlt : i < 8 := by omega
    refine kx_iload_n (pc := 16) d_EK_sync_16 rfl ?_
    refine kx_bipush (pc := 17) (x := 8) d_EK_sync_17 (by decide) ?_
    refine kx_eqi (show (8 : Int32) = nI 8 from rfl) ?_
    refine kx_icmp_ge (pc := 19) (tgt := 37) d_EK_sync_19 (by decide) (fun hz => absurd hz (nI_ge hlt (by omega))) (fun _ => ?_)
    refine kx_aload_n (pc := 22) d_EK_sync_22 rfl ?_
    refine kw_getr (pc := 23) (r := 52) d_EK_sync_23 fl_EK_27 rfl (by decide) rfl ?_
    refine kx_iload_n (pc := 26) d_EK_sync_26 rfl ?_
    refine kw_aald (pc := 27) d_EK_sync_27 ⟨_, fun _ => rfl⟩ rfl ⟨rfl, hlt, by decide⟩ (wq_s hlt) ?_
    refine kx_invV (pc := 28) (as := []) (st := []) (k := 0) (j := 0) d_EK_sync_28 wv_EK_111 (wd_o (wk_s hlt)) (k_makeSafe (a := a) (b := b) hlt) rfl rfl (Nat.le_of_ble_eq_true rfl) (by decide) (Nat.le_of_ble_eq_true rfl) (fun rv n' h' hq => ?_) (fun X n' h' hq => nomatch hq.2)
    obtain ⟨rfl, hq⟩ := hq
    cases hq
    refine kx_iinc (pc := 31) (y := nI (i + 1)) (lv' := [(1, _), (0, _)]) d_EK_sync_31 rfl (nI_1 i) (by decide) rfl ?_
    refine kx_goto (pc := 34) (tgt := 16) d_EK_sync_34 (by decide) ?_
    exact ih (i + 1) (f_safe a i) (by omega) (by show (uo a (53 + i) 3 _).2.2 1 9 = x; rw [uo_n (by omega)]; exact hx) hQ _
set_option maxHeartbeats 4000000 in
set_option maxRecDepth 100000 in
theorem k_sync {E : kx_E} {n : Nat} {a b : kW} : kx_V E i_EK_sync 8 0 0 (fun r _ h' => h' = wd (wx (s_sync a) b) ∧ r = Sum.inl (some (.int (a.2.2 1 9)))) 0 0 0 (lv_args 0 [.ref 0]) [] n (wd (wx a b)) := by
  refine kx_aload_n (pc := 0) d_EK_sync_0 rfl ?_
  refine kw_getr (pc := 1) (r := 1) d_EK_sync_1 fl_EK_10 rfl (by decide) rfl ?_
  refine kx_aload_n (pc := 4) d_EK_sync_4 rfl ?_
  refine kw_getr (pc := 5) (r := 1) d_EK_sync_5 fl_EK_10 rfl (by decide) rfl ?_
  refine ka_geti (pc := 8) d_EK_sync_8 fl_EK_77 (by decide) rfl (by decide) rfl ?_
  refine ka_puti (pc := 11) d_EK_sync_11 fl_EK_108 fw_L_10 (by decide) rfl (by decide) rfl ?_
  refine kx_iconst (pc := 14) (x := 0) d_EK_sync_14 (by decide) ?_
  refine kx_eqi (show (0 : Int32) = nI 0 from rfl) ?_
  refine kx_istore_n (pc := 15) (lv' := [(1, _), (0, _)]) d_EK_sync_15 rfl (by decide) rfl ?_
  exact k_sync_loop 8 0 (uo a 1 10 (a.2.2 1 9)) rfl rfl (fun _ => ⟨rfl, rfl⟩) _
set_option maxHeartbeats 4000000 in
set_option maxRecDepth 100000 in
theorem k_crS_loop {E : kx_E} {b : kW} {x : Int32} (m : Nat) : ∀ (i : Nat) (a : kW), i + m = 8 → a.2.2 1 9 = x → ∀ {Q : kx_Q}, (∀ n, Q (Sum.inl (some (.int x))) n (wd (wx (f_crS x m i a) b))) → ∀ n, kx_V E i_EK_crash 8 0 0 Q 0 0 39 [(1, .int (nI i)), (0, .ref 0)] [] n (wd (wx a b)) := by
  induction m with
  | zero =>
    intro i a hm hx Q hQ n
    have h8 : i = 8 := by omega
    subst h8
    refine kx_iload_n (pc := 39) d_EK_crash_39 rfl ?_
    refine kx_bipush (pc := 40) (x := 8) d_EK_crash_40 (by decide) ?_
    refine kx_eqi (show (8 : Int32) = nI 8 from rfl) ?_
    refine kx_icmp_ge (pc := 42) (tgt := 67) d_EK_crash_42 (by decide) (fun _ => ?_) (fun hz => absurd (nI_le (Nat.le_refl 8) (by omega)) hz)
    refine kx_aload_n (pc := 67) d_EK_crash_67 rfl ?_
    refine kw_getr (pc := 68) (r := 1) d_EK_crash_68 fl_EK_10 rfl (by decide) rfl ?_
    refine ka_geti (pc := 71) d_EK_crash_71 fl_EK_77 (by decide) rfl (by decide) rfl ?_
    refine kx_eqi hx ?_
    exact kx_iret rfl d_EK_crash_74 (hQ _)
  | succ m ih =>
    intro i a hm hx Q hQ n
    have hlt : i < 8 := by omega
    refine kx_iload_n (pc := 39) d_EK_crash_39 rfl ?_
    refine kx_bipush (pc := 40) (x := 8) d_EK_crash_40 (by decide) ?_
    refine kx_eqi (show (8 : Int32) = nI 8 from rfl) ?_
    refine kx_icmp_ge (pc := 42) (tgt := 67) d_EK_crash_42 (by decide) (fun hz => absurd hz (nI_ge hlt (by omega))) (fun _ => ?_)
    refine kx_aload_n (pc := 45) d_EK_crash_45 rfl ?_
    refine kw_getr (pc := 46) (r := 52) d_EK_crash_46 fl_EK_27 rfl (by decide) rfl ?_
    refine kx_iload_n (pc := 49) d_EK_crash_49 rfl ?_
    refine kw_aald (pc := 50) d_EK_crash_50 ⟨_, fun _ => rfl⟩ rfl ⟨rfl, hlt, by decide⟩ (wq_s hlt) ?_
    refine kx_aload_n (pc := 51) d_EK_crash_51 rfl ?_
    refine kw_getr (pc := 52) (r := 1) d_EK_crash_52 fl_EK_10 rfl (by decide) rfl ?_
    refine ka_geti (pc := 55) d_EK_crash_55 fl_EK_77 (by decide) rfl (by decide) rfl ?_
    refine kx_eqi hx ?_
    refine kx_invV (pc := 58) (as := [.int _]) (st := []) (k := 0) (j := 0) d_EK_crash_58 wv_EK_120 (wd_o (wk_s hlt)) (k_srecover (a := a) (b := b) hlt) rfl rfl (Nat.le_of_ble_eq_true rfl) (by decide) (Nat.le_of_ble_eq_true rfl) (fun rv n' h' hq => ?_) (fun X n' h' hq => nomatch hq.2)
    obtain ⟨rfl, hq⟩ := hq
    cases hq
    refine kx_iinc (pc := 61) (y := nI (i + 1)) (lv' := [(1, _), (0, _)]) d_EK_crash_61 rfl (nI_1 i) (by decide) rfl ?_
    refine kx_goto (pc := 64) (tgt := 39) d_EK_crash_64 (by decide) ?_
    exact ih (i + 1) (f_srec a i x) (by omega) (by show (uo a (53 + i) 2 _).2.2 1 9 = x; rw [uo_n (by omega)]; exact hx) hQ _
set_option maxHeartbeats 4000000 in
set_option maxRecDepth 100000 in
theorem k_crP_loop {E : kx_E} {b : kW} {x : Int32} (m : Nat) : ∀ (i : Nat) (a : kW), i + m = 8 → a.2.2 1 9 = x → ∀ {Q : kx_Q}, (∀ n, Q (Sum.inl (some (.int x))) n (wd (wx (f_crS x 8 0 (f_crP x m i a)) b))) → ∀ n, kx_V E i_EK_crash 8 0 0 Q 0 0 9 [(1, .int (nI i)), (0, .ref 0)] [] n (wd (wx a b)) := by
  induction m with
  | zero =>
    intro i a hm hx Q hQ n
    have h8 : i = 8 := by omega
    subst h8
    refine kx_iload_n (pc := 9) d_EK_crash_9 rfl ?_
    refine kx_bipush (pc := 10) (x := 8) d_EK_crash_10 (by decide) ?_
    refine kx_eqi (show (8 : Int32) = nI 8 from rfl) ?_
    refine kx_icmp_ge (pc := 12) (tgt := 37) d_EK_crash_12 (by decide) (fun _ => ?_) (fun hz => absurd (nI_le (Nat.le_refl 8) (by omega)) hz)
    refine kx_iconst (pc := 37) (x := 0) d_EK_crash_37 (by decide) ?_
    refine kx_eqi (show (0 : Int32) = nI 0 from rfl) ?_
    refine kx_istore_n (pc := 38) (lv' := [(1, _), (0, _)]) d_EK_crash_38 rfl (by decide) rfl ?_
    exact k_crS_loop 8 0 a rfl hx hQ _
  | succ m ih =>
    intro i a hm hx Q hQ n
    have hlt : i < 8 := by omega
    refine kx_iload_n (pc := 9) d_EK_crash_9 rfl ?_
    refine kx_bipush (pc := 10) (x := 8) d_EK_crash_10 (by decide) ?_
    refine kx_eqi (show (8 : Int32) = nI 8 from rfl) ?_
    refine kx_icmp_ge (pc := 12) (tgt := 37) d_EK_crash_12 (by decide) (fun hz => absurd hz (nI_ge hlt (by omega))) (fun _ => ?_)
    refine kx_aload_n (pc := 15) d_EK_crash_15 rfl ?_
    refine kw_getr (pc := 16) (r := 11) d_EK_crash_16 fl_EK_18 rfl (by decide) rfl ?_
    refine kx_iload_n (pc := 19) d_EK_crash_19 rfl ?_
    refine kw_aald (pc := 20) d_EK_crash_20 ⟨_, fun _ => rfl⟩ rfl ⟨rfl, hlt, by decide⟩ (wq_p hlt) ?_
    refine kx_aload_n (pc := 21) d_EK_crash_21 rfl ?_
    refine kw_getr (pc := 22) (r := 1) d_EK_crash_22 fl_EK_10 rfl (by decide) rfl ?_
    refine ka_geti (pc := 25) d_EK_crash_25 fl_EK_77 (by decide) rfl (by decide) rfl ?_
    refine kx_eqi hx ?_
    refine kx_invV (pc := 28) (as := [.int _]) (st := []) (k := 0) (j := 0) d_EK_crash_28 wv_EK_117 (wd_o (wk_p0 hlt)) (k_precover (a := a) (b := b) hlt) rfl rfl (Nat.le_of_ble_eq_true rfl) (by decide) (Nat.le_of_ble_eq_true rfl) (fun rv n' h' hq => ?_) (fun X n' h' hq => nomatch hq.2)
    obtain ⟨rfl, hq⟩ := hq
    cases hq
    refine kx_iinc (pc := 31) (y := nI (i + 1)) (lv' := [(1, _), (0, _)]) d_EK_crash_31 rfl (nI_1 i) (by decide) rfl ?_
    refine kx_goto (pc := 34) (tgt := 9) d_EK_crash_34 (by decide) ?_
    exact ih (i + 1) (f_recover a i x) (by omega) ((f_recover_9 a i x).trans hx) hQ _
set_option maxHeartbeats 4000000 in
set_option maxRecDepth 100000 in
theorem k_crash {E : kx_E} {n : Nat} {a b : kW} {sz du : Nat} (h1 : a.2.2 1 9 = nI sz) (h2 : a.2.2 1 10 = nI du) (h5 : sz ≤ 500) (hd : du ≤ sz) (hI : ∀ k, k < sz → (∃ s, s < 16 ∧ a.1 2 k = nI s) ∧ (a.1 6 k = -1 ∨ ∃ p c, p < 8 ∧ c < 500 ∧ a.1 6 k = nI p ∧ a.1 7 k = nI c)) : kx_V E i_EK_crash 8 0 0 (fun r _ h' => h' = wd (wx (s_crash a sz du) b) ∧ r = Sum.inl (some (.int (nI du)))) 0 0 0 (lv_args 0 [.ref 0]) [] n (wd (wx a b)) := by
  refine kx_aload_n (pc := 0) d_EK_crash_0 rfl ?_
  refine kw_getr (pc := 1) (r := 1) d_EK_crash_1 fl_EK_10 rfl (by decide) rfl ?_
  refine kx_invV (pc := 4) (as := []) (st := []) (k := 0) (j := 0) d_EK_crash_4 wv_EK_114 (wd_o rfl) (k_dropUndurable (a := a) (b := b) h1 h2 h5 hd hI) rfl rfl (Nat.le_of_ble_eq_true rfl) (by decide) (Nat.le_of_ble_eq_true rfl) (fun rv n' h' hq => ?_) (fun X n' h' hq => nomatch hq.2)
  obtain ⟨rfl, hq⟩ := hq
  cases hq
  refine kx_iconst (pc := 7) (x := 0) d_EK_crash_7 (by decide) ?_
  refine kx_eqi (show (0 : Int32) = nI 0 from rfl) ?_
  refine kx_istore_n (pc := 8) (lv' := [(1, _), (0, _)]) d_EK_crash_8 rfl (by decide) rfl ?_
  exact k_crP_loop 8 0 _ rfl uo_s (fun _ => ⟨rfl, rfl⟩) _
