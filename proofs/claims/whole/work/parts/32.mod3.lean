theorem ix16 (p k : Nat) : (16 : Int32) * nI p + nI k = nI (16 * p + k) := by rw [show (16 : Int32) = nI 16 from rfl, pk_mul, nI_add]
theorem ix8 (p k : Nat) : (8 : Int32) * nI p + nI k = nI (8 * p + k) := by rw [show (8 : Int32) = nI 8 from rfl, pk_mul, nI_add]
theorem nI_gl {x : Int32} {N : Nat} (hN : N < 2 ^ 31) (h : 0 ≤ x ∧ x ≤ nI N) : ∃ j : Nat, j ≤ N ∧ x = nI j ∧ nt x = j := by
  obtain ⟨j, hj, rfl⟩ := nI_of (Int32.not_lt.mpr h.1)
  have hle : j ≤ N := by
    rcases Nat.lt_or_ge N j with w | w
    · exact absurd h.2 (nI_ge w hj)
    · exact w
  exact ⟨j, hle, rfl, nt_nI hj⟩
theorem nI_lt1 {x : Int32} {ev : Nat} (hN : ev < 2 ^ 31) (h : 0 ≤ x ∧ x ≤ nI ev - 1) : ∃ q : Nat, q < ev ∧ x = nI q ∧ nt x = q := by
  cases ev with
  | zero =>
    exfalso
    have h1 : (0 : Int32) ≤ nI 0 - 1 := Int32.le_trans h.1 h.2
    exact absurd h1 (by decide)
  | succ e =>
    rw [nI_pred] at h
    obtain ⟨j, hj, h1, h2⟩ := nI_gl (by omega) h
    exact ⟨j, by omega, h1, h2⟩
def g_zero (f : Nat → Int64) (p : Nat) : Nat → Nat → Int64
  | 0 => f
  | k + 1 => vp_updL (g_zero f p k) (16 * p + k) 0
def g_copy (f g : Nat → Int64) (p : Nat) : Nat → Nat → Int64
  | 0 => g
  | k + 1 => vp_updL (g_copy f g p k) (16 * p + k) (f (16 * p + k))
def g_begin (b : kW) (p : Nat) : kW := ui (ui (uL b 67 (g_zero (b.2.1 67) p 16)) 71 p 0) 72 p (-1)
theorem uL_same {b : kW} {i : Nat} {f : Nat → Int64} (h : b.2.1 i = f) : uL b i f = b := by
  refine Prod.ext rfl (Prod.ext (funext fun z => ?_) rfl)
  by_cases e : z = i
  · subst e
    simp [uL, h]
  · simp [uL, e]
theorem uL_ul {b : kW} {i k : Nat} {x : Int64} {f : Nat → Int64} : uL (ul b i k x) i f = uL b i f := by
  refine Prod.ext rfl (Prod.ext (funext fun z => ?_) rfl)
  by_cases e : z = i <;> simp [uL, ul, e]
theorem ul_self {b : kW} {i k : Nat} {x : Int64} : (ul b i k x).2.1 i = vp_updL (b.2.1 i) k x := by simp [ul]
set_option maxHeartbeats 4000000 in
set_option maxRecDepth 100000 in
theorem k_begin_loop {E : kx_E} {n : Nat} {a : kW} {p : Nat} (hp : p < 8) (f : Nat → Int64) (m : Nat) : ∀ (q : Nat) (b : kW), q + m = 16 → b.2.1 67 = g_zero f p q → ∀ {Q : kx_Q}, Q (Sum.inl none) n (wd (wx a (ui (ui (uL b 67 (g_zero f p 16)) 71 p 0) 72 p (-1)))) → kx_V E i_M_begin 1 0 0 Q 0 0 2 [(2, .int (nI q)), (0, .ref 61), (1, .int (nI p))] [] n (wd (wx a b)) := by
  induction m with
  | zero =>
    intro q b hm hf Q hQ
    have hq : q = 16 := by omega
    subst hq
    rw [uL_same hf] at hQ
    refine kx_iload_n (pc := 2) d_M_begin_2 rfl ?_
    refine kx_bipush (pc := 3) (x := 16) d_M_begin_3 (by decide) ?_
    refine kx_eqi (show (16 : Int32) = nI 16 from rfl) ?_
    refine kx_icmp_ge (pc := 5) (tgt := 26) d_M_begin_5 (by decide) (fun _ => ?_) (fun hz => absurd (nI_le (Nat.le_refl 16) (by omega)) hz)
    refine kx_aload_n (pc := 26) d_M_begin_26 rfl ?_
    refine kw_getr (pc := 27) (r := 71) d_M_begin_27 fl_M_38 rfl (by decide) rfl ?_
    refine kx_iload_n (pc := 30) d_M_begin_30 rfl ?_
    refine kx_iconst (pc := 31) (x := 0) d_M_begin_31 (by decide) ?_
    refine km_iast (pc := 32) d_M_begin_32 (by decide) rfl ⟨rfl, hp, by decide⟩ ?_
    refine kx_aload_n (pc := 33) d_M_begin_33 rfl ?_
    refine kw_getr (pc := 34) (r := 72) d_M_begin_34 fl_M_41 rfl (by decide) rfl ?_
    refine kx_iload_n (pc := 37) d_M_begin_37 rfl ?_
    refine kx_iconst (pc := 38) (x := -1) d_M_begin_38 (by decide) ?_
    refine km_iast (pc := 39) d_M_begin_39 (by decide) rfl ⟨rfl, hp, by decide⟩ ?_
    exact kx_vret rfl d_M_begin_40 hQ
  | succ m ih =>
    intro q b hm hf Q hQ
    have hlt : q < 16 := by omega
    have hnext := ih (q + 1) (ul b 67 (16 * p + q) 0) (by omega) (by rw [ul_self, hf]; rfl) (Q := Q) (by rw [uL_ul]; exact hQ)
    refine kx_iload_n (pc := 2) d_M_begin_2 rfl ?_
    refine kx_bipush (pc := 3) (x := 16) d_M_begin_3 (by decide) ?_
    refine kx_eqi (show (16 : Int32) = nI 16 from rfl) ?_
    refine kx_icmp_ge (pc := 5) (tgt := 26) d_M_begin_5 (by decide) (fun hz => absurd hz (nI_ge hlt (by omega))) (fun _ => ?_)
    refine kx_aload_n (pc := 8) d_M_begin_8 rfl ?_
    refine kw_getr (pc := 9) (r := 67) d_M_begin_9 fl_M_26 rfl (by decide) rfl ?_
    refine kx_bipush (pc := 12) (x := 16) d_M_begin_12 (by decide) ?_
    refine kx_iload_n (pc := 14) d_M_begin_14 rfl ?_
    refine kx_imul (pc := 15) d_M_begin_15 ?_
    refine kx_iload_n (pc := 16) d_M_begin_16 rfl ?_
    refine kx_iadd (pc := 17) d_M_begin_17 ?_
    refine kx_eqi (ix16 p q) ?_
    refine kx_lconst (pc := 18) (x := 0) d_M_begin_18 (by decide) ?_
    refine km_last (pc := 19) d_M_begin_19 (by decide) rfl ⟨rfl, by omega, by decide⟩ ?_
    refine kx_iinc (pc := 20) (y := nI (q + 1)) (lv' := [(2, _), (0, _), (1, _)]) d_M_begin_20 rfl (nI_1 q) (by decide) rfl ?_
    refine kx_goto (pc := 23) (tgt := 2) d_M_begin_23 (by decide) ?_
    exact hnext
set_option maxHeartbeats 4000000 in
set_option maxRecDepth 100000 in
theorem k_begin {E : kx_E} {n : Nat} {a b : kW} {p : Nat} (hp : p < 8) : kx_V E i_M_begin 1 0 0 (fun r _ h' => h' = wd (wx a (g_begin b p)) ∧ r = Sum.inl none) 0 0 0 (lv_args 0 [.ref 61, .int (nI p)]) [] n (wd (wx a b)) := by
  refine kx_iconst (pc := 0) (x := 0) d_M_begin_0 (by decide) ?_
  refine kx_eqi (show (0 : Int32) = nI 0 from rfl) ?_
  refine kx_istore_n (pc := 1) (lv' := [(2, _), (0, _), (1, _)]) d_M_begin_1 rfl (by decide) rfl ?_
  exact k_begin_loop hp (b.2.1 67) 16 0 b rfl rfl ⟨rfl, rfl⟩
def m_rule (b : kW) (x1 x2 x3 x4 : Int32) : kW :=
  if 0 ≤ x1 ∧ x1 ≤ 7 then if 0 ≤ x2 ∧ x2 ≤ 7 then if 0 ≤ x3 ∧ x3 ≤ 6 then if 0 ≤ x4 ∧ x4 ≤ 2 then g_begin (ui (ui (uo b 61 0 0) 69 (8 * nt x1 + nt x2) x3) 70 (8 * nt x1 + nt x2) x4) (nt x1) else g_err b 1 else g_err b 1 else g_err b 1 else g_err b 1
set_option maxHeartbeats 4000000 in
set_option maxRecDepth 100000 in
theorem k_mrule {E : kx_E} {n : Nat} {a b : kW} {x1 x2 x3 x4 : Int32} : kx_V E i_M_rule 3 0 0 (fun r _ h' => r = Sum.inl none ∧ h' = wd (wx a (m_rule b x1 x2 x3 x4))) 0 0 0 (lv_args 0 [.ref 61, .int x1, .int x2, .int x3, .int x4]) [] n (wd (wx a b)) := by
  refine kx_aload_n (pc := 0) d_M_rule_0 rfl ?_
  refine kx_iconst (pc := 1) (x := 0) d_M_rule_1 (by decide) ?_
  refine km_puti (pc := 2) d_M_rule_2 fl_M_59 fw_M_0 (by decide) rfl (by decide) rfl ?_
  refine kx_aload_n (pc := 5) d_M_rule_5 rfl ?_
  refine kx_iload_n (pc := 6) d_M_rule_6 rfl ?_
  refine kx_invS (pc := 7) (as := [.int _]) (st := _) (k := 0) (j := 0) d_M_rule_7 ws_M_82 k_isProjection rfl rfl (Nat.le_of_ble_eq_true rfl) (by decide) (Nat.le_of_ble_eq_true rfl) (fun rv n' h' hq => ?_) (fun X n' h' hq => nomatch hq.2)
  obtain ⟨rfl, hq⟩ := hq
  cases hq
  refine kx_if_eq (pc := 10) (tgt := 43) d_M_rule_10 (by decide) (fun w1 => ?_) (fun w1 => ?_)
  · have g1 := oz.mp w1
    refine kx_iconst (pc := 43) (x := 1) d_M_rule_43 (by decide) ?_
    refine kx_goto (pc := 44) (tgt := 48) d_M_rule_44 (by decide) ?_
    refine kx_iconst (pc := 48) (x := 1) d_M_rule_48 (by decide) ?_
    refine kx_invV (pc := 49) (as := [.int _, .int _]) (st := []) (k := 0) (j := 0) d_M_rule_49 wv_M_70 (wd_o rfl) (k_fails1 (a := a) (b := (uo b 61 0 0)) uo_s (by decide)) rfl rfl (Nat.le_of_ble_eq_true rfl) (by decide) (Nat.le_of_ble_eq_true rfl) (fun rv n' h' hq => ?_) (fun X n' h' hq => nomatch hq.2)
    obtain ⟨rfl, hq⟩ := hq
    cases hq
    refine kx_if_eq (pc := 52) (tgt := 56) d_M_rule_52 (by decide) (fun hz => absurd hz (by decide)) (fun _ => ?_)
    exact kx_vret rfl d_M_rule_55 ⟨rfl, by unfold m_rule; rw [if_neg g1]; try rfl⟩
  · have g1 := oy w1
    refine kx_iload_n (pc := 13) d_M_rule_13 rfl ?_
    refine kx_iconst (pc := 14) (x := 0) d_M_rule_14 (by decide) ?_
    refine kx_bipush (pc := 15) (x := 7) d_M_rule_15 (by decide) ?_
    refine kx_invS (pc := 17) (as := [.int _, .int _, .int _]) (st := _) (k := 0) (j := 0) d_M_rule_17 ws_M_66 k_in rfl rfl (Nat.le_of_ble_eq_true rfl) (by decide) (Nat.le_of_ble_eq_true rfl) (fun rv n' h' hq => ?_) (fun X n' h' hq => nomatch hq.2)
    obtain ⟨rfl, hq⟩ := hq
    cases hq
    refine kx_if_eq (pc := 20) (tgt := 43) d_M_rule_20 (by decide) (fun w2 => ?_) (fun w2 => ?_)
    · have g2 := oz.mp w2
      refine kx_iconst (pc := 43) (x := 1) d_M_rule_43 (by decide) ?_
      refine kx_goto (pc := 44) (tgt := 48) d_M_rule_44 (by decide) ?_
      refine kx_iconst (pc := 48) (x := 1) d_M_rule_48 (by decide) ?_
      refine kx_invV (pc := 49) (as := [.int _, .int _]) (st := []) (k := 0) (j := 0) d_M_rule_49 wv_M_70 (wd_o rfl) (k_fails1 (a := a) (b := (uo b 61 0 0)) uo_s (by decide)) rfl rfl (Nat.le_of_ble_eq_true rfl) (by decide) (Nat.le_of_ble_eq_true rfl) (fun rv n' h' hq => ?_) (fun X n' h' hq => nomatch hq.2)
      obtain ⟨rfl, hq⟩ := hq
      cases hq
      refine kx_if_eq (pc := 52) (tgt := 56) d_M_rule_52 (by decide) (fun hz => absurd hz (by decide)) (fun _ => ?_)
      exact kx_vret rfl d_M_rule_55 ⟨rfl, by unfold m_rule; rw [if_pos g1, if_neg g2]; try rfl⟩
    · have g2 := oy w2
      refine kx_iload_n (pc := 23) d_M_rule_23 rfl ?_
      refine kx_iconst (pc := 24) (x := 0) d_M_rule_24 (by decide) ?_
      refine kx_bipush (pc := 25) (x := 6) d_M_rule_25 (by decide) ?_
      refine kx_invS (pc := 27) (as := [.int _, .int _, .int _]) (st := _) (k := 0) (j := 0) d_M_rule_27 ws_M_66 k_in rfl rfl (Nat.le_of_ble_eq_true rfl) (by decide) (Nat.le_of_ble_eq_true rfl) (fun rv n' h' hq => ?_) (fun X n' h' hq => nomatch hq.2)
      obtain ⟨rfl, hq⟩ := hq
      cases hq
      refine kx_if_eq (pc := 30) (tgt := 43) d_M_rule_30 (by decide) (fun w3 => ?_) (fun w3 => ?_)
      · have g3 := oz.mp w3
        refine kx_iconst (pc := 43) (x := 1) d_M_rule_43 (by decide) ?_
        refine kx_goto (pc := 44) (tgt := 48) d_M_rule_44 (by decide) ?_
        refine kx_iconst (pc := 48) (x := 1) d_M_rule_48 (by decide) ?_
        refine kx_invV (pc := 49) (as := [.int _, .int _]) (st := []) (k := 0) (j := 0) d_M_rule_49 wv_M_70 (wd_o rfl) (k_fails1 (a := a) (b := (uo b 61 0 0)) uo_s (by decide)) rfl rfl (Nat.le_of_ble_eq_true rfl) (by decide) (Nat.le_of_ble_eq_true rfl) (fun rv n' h' hq => ?_) (fun X n' h' hq => nomatch hq.2)
        obtain ⟨rfl, hq⟩ := hq
        cases hq
        refine kx_if_eq (pc := 52) (tgt := 56) d_M_rule_52 (by decide) (fun hz => absurd hz (by decide)) (fun _ => ?_)
        exact kx_vret rfl d_M_rule_55 ⟨rfl, by unfold m_rule; rw [if_pos g1, if_pos g2, if_neg g3]; try rfl⟩
      · have g3 := oy w3
        refine kx_iload (pc := 33) d_M_rule_33 rfl ?_
        refine kx_iconst (pc := 35) (x := 0) d_M_rule_35 (by decide) ?_
        refine kx_iconst (pc := 36) (x := 2) d_M_rule_36 (by decide) ?_
        refine kx_invS (pc := 37) (as := [.int _, .int _, .int _]) (st := _) (k := 0) (j := 0) d_M_rule_37 ws_M_66 k_in rfl rfl (Nat.le_of_ble_eq_true rfl) (by decide) (Nat.le_of_ble_eq_true rfl) (fun rv n' h' hq => ?_) (fun X n' h' hq => nomatch hq.2)
        obtain ⟨rfl, hq⟩ := hq
        cases hq
        refine kx_if_ne (pc := 40) (tgt := 47) d_M_rule_40 (by decide) (fun w4 => ?_) (fun w4 => ?_)
        · have g4 := oy w4
          obtain ⟨p, hp8, rfl, np⟩ := nI_gl (N := 7) (by decide) g1
          have hp : p < 8 := by omega
          obtain ⟨t, ht8, rfl, nt2⟩ := nI_gl (N := 7) (by decide) g2
          refine kx_iconst (pc := 47) (x := 0) d_M_rule_47 (by decide) ?_
          refine kx_iconst (pc := 48) (x := 1) d_M_rule_48 (by decide) ?_
          refine kx_invV (pc := 49) (as := [.int _, .int _]) (st := []) (k := 0) (j := 0) d_M_rule_49 wv_M_70 (wd_o rfl) (k_fails0 (a := a) (b := (uo b 61 0 0)) uo_s) rfl rfl (Nat.le_of_ble_eq_true rfl) (by decide) (Nat.le_of_ble_eq_true rfl) (fun rv n' h' hq => ?_) (fun X n' h' hq => nomatch hq.2)
          obtain ⟨rfl, hq⟩ := hq
          cases hq
          refine kx_if_eq (pc := 52) (tgt := 56) d_M_rule_52 (by decide) (fun _ => ?_) (fun hz => absurd rfl hz)
          refine kx_aload_n (pc := 56) d_M_rule_56 rfl ?_
          refine kw_getr (pc := 57) (r := 69) d_M_rule_57 fl_M_32 rfl (by decide) rfl ?_
          refine kx_bipush (pc := 60) (x := 8) d_M_rule_60 (by decide) ?_
          refine kx_iload_n (pc := 62) d_M_rule_62 rfl ?_
          refine kx_imul (pc := 63) d_M_rule_63 ?_
          refine kx_iload_n (pc := 64) d_M_rule_64 rfl ?_
          refine kx_iadd (pc := 65) d_M_rule_65 ?_
          refine kx_eqi (ix8 p t) ?_
          refine kx_iload_n (pc := 66) d_M_rule_66 rfl ?_
          refine km_iast (pc := 67) d_M_rule_67 (by decide) rfl ⟨rfl, by omega, by decide⟩ ?_
          refine kx_aload_n (pc := 68) d_M_rule_68 rfl ?_
          refine kw_getr (pc := 69) (r := 70) d_M_rule_69 fl_M_35 rfl (by decide) rfl ?_
          refine kx_bipush (pc := 72) (x := 8) d_M_rule_72 (by decide) ?_
          refine kx_iload_n (pc := 74) d_M_rule_74 rfl ?_
          refine kx_imul (pc := 75) d_M_rule_75 ?_
          refine kx_iload_n (pc := 76) d_M_rule_76 rfl ?_
          refine kx_iadd (pc := 77) d_M_rule_77 ?_
          refine kx_eqi (ix8 p t) ?_
          refine kx_iload (pc := 78) d_M_rule_78 rfl ?_
          refine km_iast (pc := 80) d_M_rule_80 (by decide) rfl ⟨rfl, by omega, by decide⟩ ?_
          refine kx_aload_n (pc := 81) d_M_rule_81 rfl ?_
          refine kx_iload_n (pc := 82) d_M_rule_82 rfl ?_
          refine kx_invV (pc := 83) (as := [.int _]) (st := []) (k := 0) (j := 0) d_M_rule_83 wv_M_86 (wd_o rfl) (k_begin hp) rfl rfl (Nat.le_of_ble_eq_true rfl) (by decide) (Nat.le_of_ble_eq_true rfl) (fun rv n' h' hq => ?_) (fun X n' h' hq => nomatch hq.2)
          obtain ⟨rfl, hq⟩ := hq
          cases hq
          exact kx_vret rfl d_M_rule_86 ⟨rfl, by unfold m_rule; rw [if_pos g1, if_pos g2, if_pos g3, if_pos g4, np, nt2]; try rfl⟩
        · have g4 := oz.mp w4
          refine kx_iconst (pc := 43) (x := 1) d_M_rule_43 (by decide) ?_
          refine kx_goto (pc := 44) (tgt := 48) d_M_rule_44 (by decide) ?_
          refine kx_iconst (pc := 48) (x := 1) d_M_rule_48 (by decide) ?_
          refine kx_invV (pc := 49) (as := [.int _, .int _]) (st := []) (k := 0) (j := 0) d_M_rule_49 wv_M_70 (wd_o rfl) (k_fails1 (a := a) (b := (uo b 61 0 0)) uo_s (by decide)) rfl rfl (Nat.le_of_ble_eq_true rfl) (by decide) (Nat.le_of_ble_eq_true rfl) (fun rv n' h' hq => ?_) (fun X n' h' hq => nomatch hq.2)
          obtain ⟨rfl, hq⟩ := hq
          cases hq
          refine kx_if_eq (pc := 52) (tgt := 56) d_M_rule_52 (by decide) (fun hz => absurd hz (by decide)) (fun _ => ?_)
          exact kx_vret rfl d_M_rule_55 ⟨rfl, by unfold m_rule; rw [if_pos g1, if_pos g2, if_pos g3, if_neg g4]; try rfl⟩
def m_save (b : kW) (x1 : Int32) : Int32 × kW := if 0 ≤ x1 ∧ x1 ≤ 7 then (b.1 71 (nt x1), ui (ui (uL (uo b 61 0 0) 68 (g_copy (b.2.1 67) (b.2.1 68) (nt x1) 16)) 72 (nt x1) (b.1 71 (nt x1))) 73 (nt x1) (b.2.2 61 1)) else (0, g_err b 1)
set_option maxHeartbeats 4000000 in
set_option maxRecDepth 100000 in
theorem k_save_loop {E : kx_E} {n : Nat} {a : kW} {p : Nat} (hp : p < 8) (f g : Nat → Int64) (m : Nat) : ∀ (q : Nat) (b : kW), q + m = 16 → b.2.1 67 = f → b.2.1 68 = g_copy f g p q → ∀ {Q : kx_Q}, Q (Sum.inl (some (.int (b.1 71 p)))) n (wd (wx a (ui (ui (uL b 68 (g_copy f g p 16)) 72 p (b.1 71 p)) 73 p (b.2.2 61 1)))) → kx_V E i_M_save 3 0 0 Q 0 0 29 [(2, .int (nI q)), (0, .ref 61), (1, .int (nI p))] [] n (wd (wx a b)) := by
  induction m with
  | zero =>
    intro q b hm h0 hf Q hQ
    have hq : q = 16 := by omega
    subst hq
    rw [uL_same hf] at hQ
    refine kx_iload_n (pc := 29) d_M_save_29 rfl ?_
    refine kx_bipush (pc := 30) (x := 16) d_M_save_30 (by decide) ?_
    refine kx_eqi (show (16 : Int32) = nI 16 from rfl) ?_
    refine kx_icmp_ge (pc := 32) (tgt := 63) d_M_save_32 (by decide) (fun _ => ?_) (fun hz => absurd (nI_le (Nat.le_refl 16) (by omega)) hz)
    refine kx_aload_n (pc := 63) d_M_save_63 rfl ?_
    refine kw_getr (pc := 64) (r := 72) d_M_save_64 fl_M_41 rfl (by decide) rfl ?_
    refine kx_iload_n (pc := 67) d_M_save_67 rfl ?_
    refine kx_aload_n (pc := 68) d_M_save_68 rfl ?_
    refine kw_getr (pc := 69) (r := 71) d_M_save_69 fl_M_38 rfl (by decide) rfl ?_
    refine kx_iload_n (pc := 72) d_M_save_72 rfl ?_
    refine km_iald (pc := 73) d_M_save_73 (by decide) rfl ⟨rfl, hp, by decide⟩ ?_
    refine km_iast (pc := 74) d_M_save_74 (by decide) rfl ⟨rfl, hp, by decide⟩ ?_
    refine kx_aload_n (pc := 75) d_M_save_75 rfl ?_
    refine kw_getr (pc := 76) (r := 73) d_M_save_76 fl_M_44 rfl (by decide) rfl ?_
    refine kx_iload_n (pc := 79) d_M_save_79 rfl ?_
    refine kx_aload_n (pc := 80) d_M_save_80 rfl ?_
    refine km_geti (pc := 81) d_M_save_81 fl_M_63 (by decide) rfl (by decide) rfl ?_
    refine km_iast (pc := 84) d_M_save_84 (by decide) rfl ⟨rfl, hp, by decide⟩ ?_
    refine kx_aload_n (pc := 85) d_M_save_85 rfl ?_
    refine kw_getr (pc := 86) (r := 71) d_M_save_86 fl_M_38 rfl (by decide) rfl ?_
    refine kx_iload_n (pc := 89) d_M_save_89 rfl ?_
    refine km_iald (pc := 90) d_M_save_90 (by decide) rfl ⟨rfl, hp, by decide⟩ ?_
    exact kx_iret rfl d_M_save_91 hQ
  | succ m ih =>
    intro q b hm h0 hf Q hQ
    have hlt : q < 16 := by omega
    have hnext := ih (q + 1) (ul b 68 (16 * p + q) (b.2.1 67 (16 * p + q))) (by omega) ((ul_n (by decide)).trans h0) (by rw [ul_self, hf, h0]; rfl) (Q := Q) (by rw [uL_ul]; exact hQ)
    refine kx_iload_n (pc := 29) d_M_save_29 rfl ?_
    refine kx_bipush (pc := 30) (x := 16) d_M_save_30 (by decide) ?_
    refine kx_eqi (show (16 : Int32) = nI 16 from rfl) ?_
    refine kx_icmp_ge (pc := 32) (tgt := 63) d_M_save_32 (by decide) (fun hz => absurd hz (nI_ge hlt (by omega))) (fun _ => ?_)
    refine kx_aload_n (pc := 35) d_M_save_35 rfl ?_
    refine kw_getr (pc := 36) (r := 68) d_M_save_36 fl_M_29 rfl (by decide) rfl ?_
    refine kx_bipush (pc := 39) (x := 16) d_M_save_39 (by decide) ?_
    refine kx_iload_n (pc := 41) d_M_save_41 rfl ?_
    refine kx_imul (pc := 42) d_M_save_42 ?_
    refine kx_iload_n (pc := 43) d_M_save_43 rfl ?_
    refine kx_iadd (pc := 44) d_M_save_44 ?_
    refine kx_eqi (ix16 p q) ?_
    refine kx_aload_n (pc := 45) d_M_save_45 rfl ?_
    refine kw_getr (pc := 46) (r := 67) d_M_save_46 fl_M_26 rfl (by decide) rfl ?_
    refine kx_bipush (pc := 49) (x := 16) d_M_save_49 (by decide) ?_
    refine kx_iload_n (pc := 51) d_M_save_51 rfl ?_
    refine kx_imul (pc := 52) d_M_save_52 ?_
    refine kx_iload_n (pc := 53) d_M_save_53 rfl ?_
    refine kx_iadd (pc := 54) d_M_save_54 ?_
    refine kx_eqi (ix16 p q) ?_
    refine km_lald (pc := 55) d_M_save_55 (by decide) rfl ⟨rfl, by omega, by decide⟩ ?_
    refine km_last (pc := 56) d_M_save_56 (by decide) rfl ⟨rfl, by omega, by decide⟩ ?_
    refine kx_iinc (pc := 57) (y := nI (q + 1)) (lv' := [(2, _), (0, _), (1, _)]) d_M_save_57 rfl (nI_1 q) (by decide) rfl ?_
    refine kx_goto (pc := 60) (tgt := 29) d_M_save_60 (by decide) ?_
    exact hnext
set_option maxHeartbeats 4000000 in
set_option maxRecDepth 100000 in
theorem k_msave {E : kx_E} {n : Nat} {a b : kW} {x1 : Int32} : kx_V E i_M_save 3 0 0 (fun r _ h' => r = Sum.inl (some (.int (m_save b x1).1)) ∧ h' = wd (wx a (m_save b x1).2)) 0 0 0 (lv_args 0 [.ref 61, .int x1]) [] n (wd (wx a b)) := by
  refine kx_aload_n (pc := 0) d_M_save_0 rfl ?_
  refine kx_iconst (pc := 1) (x := 0) d_M_save_1 (by decide) ?_
  refine km_puti (pc := 2) d_M_save_2 fl_M_59 fw_M_0 (by decide) rfl (by decide) rfl ?_
  refine kx_aload_n (pc := 5) d_M_save_5 rfl ?_
  refine kx_iload_n (pc := 6) d_M_save_6 rfl ?_
  refine kx_invS (pc := 7) (as := [.int _]) (st := _) (k := 0) (j := 0) d_M_save_7 ws_M_82 k_isProjection rfl rfl (Nat.le_of_ble_eq_true rfl) (by decide) (Nat.le_of_ble_eq_true rfl) (fun rv n' h' hq => ?_) (fun X n' h' hq => nomatch hq.2)
  obtain ⟨rfl, hq⟩ := hq
  cases hq
  refine kx_if_ne (pc := 10) (tgt := 17) d_M_save_10 (by decide) (fun w1 => ?_) (fun w1 => ?_)
  · have g1 := oy w1
    obtain ⟨p, hp8, rfl, np⟩ := nI_gl (N := 7) (by decide) g1
    have hp : p < 8 := by omega
    refine kx_iconst (pc := 17) (x := 0) d_M_save_17 (by decide) ?_
    refine kx_iconst (pc := 18) (x := 1) d_M_save_18 (by decide) ?_
    refine kx_invV (pc := 19) (as := [.int _, .int _]) (st := []) (k := 0) (j := 0) d_M_save_19 wv_M_70 (wd_o rfl) (k_fails0 (a := a) (b := (uo b 61 0 0)) uo_s) rfl rfl (Nat.le_of_ble_eq_true rfl) (by decide) (Nat.le_of_ble_eq_true rfl) (fun rv n' h' hq => ?_) (fun X n' h' hq => nomatch hq.2)
    obtain ⟨rfl, hq⟩ := hq
    cases hq
    refine kx_if_eq (pc := 22) (tgt := 27) d_M_save_22 (by decide) (fun _ => ?_) (fun hz => absurd rfl hz)
    refine kx_iconst (pc := 27) (x := 0) d_M_save_27 (by decide) ?_
    refine kx_eqi (show (0 : Int32) = nI 0 from rfl) ?_
    refine kx_istore_n (pc := 28) (lv' := [(2, _), (0, _), (1, _)]) d_M_save_28 rfl (by decide) rfl ?_
    refine k_save_loop hp (b.2.1 67) (b.2.1 68) 16 0 (uo b 61 0 0) rfl rfl rfl ?_
    exact ⟨by unfold m_save; rw [if_pos g1, np]; try rfl, by unfold m_save; rw [if_pos g1, np]; try rfl⟩
  · have g1 := oz.mp w1
    refine kx_iconst (pc := 13) (x := 1) d_M_save_13 (by decide) ?_
    refine kx_goto (pc := 14) (tgt := 18) d_M_save_14 (by decide) ?_
    refine kx_iconst (pc := 18) (x := 1) d_M_save_18 (by decide) ?_
    refine kx_invV (pc := 19) (as := [.int _, .int _]) (st := []) (k := 0) (j := 0) d_M_save_19 wv_M_70 (wd_o rfl) (k_fails1 (a := a) (b := (uo b 61 0 0)) uo_s (by decide)) rfl rfl (Nat.le_of_ble_eq_true rfl) (by decide) (Nat.le_of_ble_eq_true rfl) (fun rv n' h' hq => ?_) (fun X n' h' hq => nomatch hq.2)
    obtain ⟨rfl, hq⟩ := hq
    cases hq
    refine kx_if_eq (pc := 22) (tgt := 27) d_M_save_22 (by decide) (fun hz => absurd hz (by decide)) (fun _ => ?_)
    refine kx_iconst (pc := 25) (x := 0) d_M_save_25 (by decide) ?_
    exact kx_iret rfl d_M_save_26 ⟨by unfold m_save; rw [if_neg g1]; try rfl, by unfold m_save; rw [if_neg g1]; try rfl⟩
def m_cell (b : kW) (x1 x2 : Int32) : Int64 × kW := if 0 ≤ x1 ∧ x1 ≤ 7 then if 0 ≤ x2 ∧ x2 ≤ 15 then (b.2.1 67 (16 * nt x1 + nt x2), (uo b 61 0 0)) else (0, g_err b 2) else (0, g_err b 1)
set_option maxHeartbeats 4000000 in
set_option maxRecDepth 100000 in
theorem k_mcell {E : kx_E} {n : Nat} {a b : kW} {x1 x2 : Int32} : kx_V E i_M_cell 3 0 0 (fun r _ h' => r = Sum.inl (some (.long (m_cell b x1 x2).1)) ∧ h' = wd (wx a (m_cell b x1 x2).2)) 0 0 0 (lv_args 0 [.ref 61, .int x1, .int x2]) [] n (wd (wx a b)) := by
  refine kx_aload_n (pc := 0) d_M_cell_0 rfl ?_
  refine kx_iconst (pc := 1) (x := 0) d_M_cell_1 (by decide) ?_
  refine km_puti (pc := 2) d_M_cell_2 fl_M_59 fw_M_0 (by decide) rfl (by decide) rfl ?_
  refine kx_aload_n (pc := 5) d_M_cell_5 rfl ?_
  refine kx_iload_n (pc := 6) d_M_cell_6 rfl ?_
  refine kx_invS (pc := 7) (as := [.int _]) (st := _) (k := 0) (j := 0) d_M_cell_7 ws_M_82 k_isProjection rfl rfl (Nat.le_of_ble_eq_true rfl) (by decide) (Nat.le_of_ble_eq_true rfl) (fun rv n' h' hq => ?_) (fun X n' h' hq => nomatch hq.2)
  obtain ⟨rfl, hq⟩ := hq
  cases hq
  refine kx_if_ne (pc := 10) (tgt := 17) d_M_cell_10 (by decide) (fun w1 => ?_) (fun w1 => ?_)
  · have g1 := oy w1
    obtain ⟨p, hp8, rfl, np⟩ := nI_gl (N := 7) (by decide) g1
    have hp : p < 8 := by omega
    refine kx_iconst (pc := 17) (x := 0) d_M_cell_17 (by decide) ?_
    refine kx_iconst (pc := 18) (x := 1) d_M_cell_18 (by decide) ?_
    refine kx_invV (pc := 19) (as := [.int _, .int _]) (st := []) (k := 0) (j := 0) d_M_cell_19 wv_M_70 (wd_o rfl) (k_fails0 (a := a) (b := (uo b 61 0 0)) uo_s) rfl rfl (Nat.le_of_ble_eq_true rfl) (by decide) (Nat.le_of_ble_eq_true rfl) (fun rv n' h' hq => ?_) (fun X n' h' hq => nomatch hq.2)
    obtain ⟨rfl, hq⟩ := hq
    cases hq
    refine kx_if_ne (pc := 22) (tgt := 48) d_M_cell_22 (by decide) (fun hz => absurd hz (fun w => w rfl)) (fun _ => ?_)
    refine kx_aload_n (pc := 25) d_M_cell_25 rfl ?_
    refine kx_iload_n (pc := 26) d_M_cell_26 rfl ?_
    refine kx_iconst (pc := 27) (x := 0) d_M_cell_27 (by decide) ?_
    refine kx_bipush (pc := 28) (x := 15) d_M_cell_28 (by decide) ?_
    refine kx_invS (pc := 30) (as := [.int _, .int _, .int _]) (st := _) (k := 0) (j := 0) d_M_cell_30 ws_M_66 k_in rfl rfl (Nat.le_of_ble_eq_true rfl) (by decide) (Nat.le_of_ble_eq_true rfl) (fun rv n' h' hq => ?_) (fun X n' h' hq => nomatch hq.2)
    obtain ⟨rfl, hq⟩ := hq
    cases hq
    refine kx_if_ne (pc := 33) (tgt := 40) d_M_cell_33 (by decide) (fun w2 => ?_) (fun w2 => ?_)
    · have g2 := oy w2
      obtain ⟨z, hz15, rfl, nz⟩ := nI_gl (N := 15) (by decide) g2
      refine kx_iconst (pc := 40) (x := 0) d_M_cell_40 (by decide) ?_
      refine kx_iconst (pc := 41) (x := 2) d_M_cell_41 (by decide) ?_
      refine kx_invV (pc := 42) (as := [.int _, .int _]) (st := []) (k := 0) (j := 0) d_M_cell_42 wv_M_70 (wd_o rfl) (k_fails0 (a := a) (b := (uo b 61 0 0)) uo_s) rfl rfl (Nat.le_of_ble_eq_true rfl) (by decide) (Nat.le_of_ble_eq_true rfl) (fun rv n' h' hq => ?_) (fun X n' h' hq => nomatch hq.2)
      obtain ⟨rfl, hq⟩ := hq
      cases hq
      refine kx_if_eq (pc := 45) (tgt := 52) d_M_cell_45 (by decide) (fun _ => ?_) (fun hz => absurd rfl hz)
      refine kx_aload_n (pc := 52) d_M_cell_52 rfl ?_
      refine kw_getr (pc := 53) (r := 67) d_M_cell_53 fl_M_26 rfl (by decide) rfl ?_
      refine kx_bipush (pc := 56) (x := 16) d_M_cell_56 (by decide) ?_
      refine kx_iload_n (pc := 58) d_M_cell_58 rfl ?_
      refine kx_imul (pc := 59) d_M_cell_59 ?_
      refine kx_iload_n (pc := 60) d_M_cell_60 rfl ?_
      refine kx_iadd (pc := 61) d_M_cell_61 ?_
      refine kx_eqi (ix16 p z) ?_
      refine km_lald (pc := 62) d_M_cell_62 (by decide) rfl ⟨rfl, by omega, by decide⟩ ?_
      exact kx_lret rfl d_M_cell_63 ⟨by unfold m_cell; rw [if_pos g1, if_pos g2, np, nz]; try rfl, by unfold m_cell; rw [if_pos g1, if_pos g2, np, nz]; try rfl⟩
    · have g2 := oz.mp w2
      refine kx_iconst (pc := 36) (x := 1) d_M_cell_36 (by decide) ?_
      refine kx_goto (pc := 37) (tgt := 41) d_M_cell_37 (by decide) ?_
      refine kx_iconst (pc := 41) (x := 2) d_M_cell_41 (by decide) ?_
      refine kx_invV (pc := 42) (as := [.int _, .int _]) (st := []) (k := 0) (j := 0) d_M_cell_42 wv_M_70 (wd_o rfl) (k_fails1 (a := a) (b := (uo b 61 0 0)) uo_s (by decide)) rfl rfl (Nat.le_of_ble_eq_true rfl) (by decide) (Nat.le_of_ble_eq_true rfl) (fun rv n' h' hq => ?_) (fun X n' h' hq => nomatch hq.2)
      obtain ⟨rfl, hq⟩ := hq
      cases hq
      refine kx_if_eq (pc := 45) (tgt := 52) d_M_cell_45 (by decide) (fun hz => absurd hz (by decide)) (fun _ => ?_)
      refine kx_lconst (pc := 48) (x := 0) d_M_cell_48 (by decide) ?_
      refine kx_goto (pc := 49) (tgt := 63) d_M_cell_49 (by decide) ?_
      exact kx_lret rfl d_M_cell_63 ⟨by unfold m_cell; rw [if_pos g1, if_neg g2]; try rfl, by unfold m_cell; rw [if_pos g1, if_neg g2]; try rfl⟩
  · have g1 := oz.mp w1
    refine kx_iconst (pc := 13) (x := 1) d_M_cell_13 (by decide) ?_
    refine kx_goto (pc := 14) (tgt := 18) d_M_cell_14 (by decide) ?_
    refine kx_iconst (pc := 18) (x := 1) d_M_cell_18 (by decide) ?_
    refine kx_invV (pc := 19) (as := [.int _, .int _]) (st := []) (k := 0) (j := 0) d_M_cell_19 wv_M_70 (wd_o rfl) (k_fails1 (a := a) (b := (uo b 61 0 0)) uo_s (by decide)) rfl rfl (Nat.le_of_ble_eq_true rfl) (by decide) (Nat.le_of_ble_eq_true rfl) (fun rv n' h' hq => ?_) (fun X n' h' hq => nomatch hq.2)
    obtain ⟨rfl, hq⟩ := hq
    cases hq
    refine kx_if_ne (pc := 22) (tgt := 48) d_M_cell_22 (by decide) (fun _ => ?_) (fun hz => absurd hz (by decide))
    refine kx_lconst (pc := 48) (x := 0) d_M_cell_48 (by decide) ?_
    refine kx_goto (pc := 49) (tgt := 63) d_M_cell_49 (by decide) ?_
    exact kx_lret rfl d_M_cell_63 ⟨by unfold m_cell; rw [if_neg g1]; try rfl, by unfold m_cell; rw [if_neg g1]; try rfl⟩
