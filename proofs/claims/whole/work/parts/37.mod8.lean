def g_take (b : kW) (p : Nat) : Bool × kW :=
  if nt (b.2.2 61 1) ≤ nt (b.1 71 p) then (false, b)
  else if (g_takeAt b p (nt (b.2.2 61 1)) (nt (b.1 71 p))).1 then (true, ui (g_takeAt b p (nt (b.2.2 61 1)) (nt (b.1 71 p))).2 71 p (nI (nt (b.1 71 p) + 1)))
  else (false, (g_takeAt b p (nt (b.2.2 61 1)) (nt (b.1 71 p))).2)
def CMp (b : kW) (p : Nat) : Prop := ∃ sz q, b.2.2 61 1 = nI sz ∧ sz ≤ 500 ∧ q ≤ 500 ∧ b.1 71 p = nI q ∧ ∀ k, k < sz → (∃ t, t < 8 ∧ b.1 63 k = nI t) ∧ ∃ s, s < 16 ∧ b.1 62 k = nI s
theorem g_count_cases {b : kW} {p q k sz : Nat} (h1 : b.2.2 61 1 = nI sz) (h5 : sz ≤ 500) : (g_count b p q k sz).2.1 71 = b.1 71 ∧ (((g_count b p q k sz).2.2.2 61 1 = nI sz ∧ (g_count b p q k sz).2.1 62 = b.1 62 ∧ (g_count b p q k sz).2.1 63 = b.1 63) ∨ (sz < 500 ∧ (g_count b p q k sz).2.2.2 61 1 = nI (sz + 1) ∧ (g_count b p q k sz).2.1 62 = upd (b.1 62) sz (nI (l4 (b.2.1 66 q))) ∧ (g_count b p q k sz).2.1 63 = upd (b.1 63) sz 7)) := by
  unfold g_count
  split
  · split
    · exact ⟨rfl, Or.inl ⟨h1, rfl, rfl⟩⟩
    · exact ⟨rfl, Or.inr ⟨by omega, rfl, rfl, rfl⟩⟩
  · exact ⟨rfl, Or.inl ⟨h1, rfl, rfl⟩⟩
theorem g_takeAt_cases {b : kW} {p q sz : Nat} (h1 : b.2.2 61 1 = nI sz) (h5 : sz ≤ 500) : (g_takeAt b p sz q).2.1 71 = b.1 71 ∧ (((g_takeAt b p sz q).2.2.2 61 1 = nI sz ∧ (g_takeAt b p sz q).2.1 62 = b.1 62 ∧ (g_takeAt b p sz q).2.1 63 = b.1 63) ∨ (sz < 500 ∧ (g_takeAt b p sz q).2.2.2 61 1 = nI (sz + 1) ∧ (g_takeAt b p sz q).2.1 62 = upd (b.1 62) sz (nI (l4 (b.2.1 66 q))) ∧ (g_takeAt b p sz q).2.1 63 = upd (b.1 63) sz 7)) := by
  unfold g_takeAt
  split
  · exact g_count_cases h1 h5
  · exact ⟨rfl, Or.inl ⟨h1, rfl, rfl⟩⟩
theorem g_take_at {b : kW} {p sz q : Nat} (h1 : b.2.2 61 1 = nI sz) (h5 : sz ≤ 500) (hq : q ≤ 500) (hpos : b.1 71 p = nI q) : g_take b p = if sz ≤ q then (false, b) else if (g_takeAt b p sz q).1 then (true, ui (g_takeAt b p sz q).2 71 p (nI (q + 1))) else (false, (g_takeAt b p sz q).2) := by
  unfold g_take
  rw [h1, hpos, nt_nI (by omega), nt_nI (by omega)]
theorem CMp.step {b : kW} {p : Nat} (h : CMp b p) : CMp (g_take b p).2 p := by
  obtain ⟨sz, q, h1, h5, hq, hpos, hI⟩ := id h
  rw [g_take_at h1 h5 hq hpos]
  by_cases hlt : sz ≤ q
  · rw [if_pos hlt]
    exact h
  rw [if_neg hlt]
  obtain ⟨g71, hc⟩ := g_takeAt_cases (p := p) (q := q) h1 h5
  have key : ∀ (w : kW) (z : Nat), w.2.2 61 1 = (g_takeAt b p sz q).2.2.2 61 1 → w.1 62 = (g_takeAt b p sz q).2.1 62 → w.1 63 = (g_takeAt b p sz q).2.1 63 → w.1 71 p = nI z → z ≤ 500 → CMp w p := by
    intro w z e1 e2 e3 e4 hz
    rcases hc with ⟨k1, k2, k3⟩ | ⟨k0, k1, k2, k3⟩
    · refine ⟨sz, z, e1.trans k1, h5, hz, e4, fun k hk => ?_⟩
      rw [e2, e3, k2, k3]
      exact hI k hk
    · refine ⟨sz + 1, z, e1.trans k1, by omega, hz, e4, fun k hk => ?_⟩
      rw [e2, e3, k2, k3]
      by_cases e : k = sz
      · subst e
        exact ⟨⟨7, by decide, pk_us⟩, ⟨_, l4_lt _, pk_us⟩⟩
      · rw [pk_un e, pk_un e]
        exact hI k (by omega)
  split
  · exact key _ (q + 1) rfl rfl rfl ui_s (by omega)
  · exact key _ q rfl rfl rfl (by rw [g71]; exact hpos) hq
def g_advance (p : Nat) : Nat → Nat → kW → Nat × kW
  | 0, t, b => (t, b)
  | m + 1, t, b => if (g_take b p).1 then g_advance p m (t + 1) (g_take b p).2 else (t, (g_take b p).2)
def m_adv (b : kW) (x1 x2 : Int32) : Int32 × kW := if 0 ≤ x1 ∧ x1 ≤ 7 then if 0 ≤ x2 ∧ x2 ≤ 1000 then (nI (g_advance (nt x1) (nt x2) 0 (uo b 61 0 0)).1, (g_advance (nt x1) (nt x2) 0 (uo b 61 0 0)).2) else (0, g_err b 1) else (0, g_err b 1)
set_option maxHeartbeats 4000000 in
set_option maxRecDepth 100000 in
theorem k_madv_loop {E : kx_E} {a : kW} {p N : Nat} (hp : p < 8) (hN : N ≤ 1000) (m : Nat) : ∀ (t : Nat) (b : kW), CMp b p → t + m = N → ∀ {Q : kx_Q}, (∀ n, Q (Sum.inl (some (.int (nI (g_advance p m t b).1)))) n (wd (wx a (g_advance p m t b).2))) → ∀ n, kx_V E i_M_advance 3 0 0 Q 0 0 40 [(3, .int (nI t)), (0, .ref 61), (1, .int (nI p)), (2, .int (nI N))] [] n (wd (wx a b)) := by
  induction m with
  | zero =>
    intro t b hC hm Q hQ n
    have hN2 : t = N := by omega
    subst hN2
    refine kx_iload_n (pc := 40) d_M_advance_40 rfl ?_
    refine kx_iload_n (pc := 41) d_M_advance_41 rfl ?_
    refine kx_icmp_ge (pc := 42) (tgt := 88) d_M_advance_42 (by decide) (fun _ => ?_) (fun hz => absurd (nI_le (Nat.le_refl t) (by omega)) hz)
    refine kx_iload_n (pc := 88) d_M_advance_88 rfl ?_
    exact kx_iret rfl d_M_advance_89 (hQ _)
  | succ m ih =>
    intro t b hC hm Q hQ n
    have hlt : t < N := by omega
    obtain ⟨sz, q, h1, h5, hq5, hpos, hI⟩ := id hC
    have et := g_take_at h1 h5 hq5 hpos
    have g71 := (g_takeAt_cases (p := p) (q := q) h1 h5).1
    refine kx_iload_n (pc := 40) d_M_advance_40 rfl ?_
    refine kx_iload_n (pc := 41) d_M_advance_41 rfl ?_
    refine kx_icmp_ge (pc := 42) (tgt := 88) d_M_advance_42 (by decide) (fun hz => absurd hz (nI_ge hlt (by omega))) (fun _ => ?_)
    refine kx_aload_n (pc := 45) d_M_advance_45 rfl ?_
    refine kw_getr (pc := 46) (r := 71) d_M_advance_46 fl_M_38 rfl (by decide) rfl ?_
    refine kx_iload_n (pc := 49) d_M_advance_49 rfl ?_
    refine km_iald (pc := 50) d_M_advance_50 (by decide) rfl ⟨rfl, hp, by decide⟩ ?_
    refine kx_eqi hpos ?_
    refine kx_aload_n (pc := 51) d_M_advance_51 rfl ?_
    refine km_geti (pc := 52) d_M_advance_52 fl_M_63 (by decide) rfl (by decide) rfl ?_
    refine kx_eqi h1 ?_
    refine kx_icmp_ge (pc := 55) (tgt := 88) d_M_advance_55 (by decide) (fun hg => ?_) (fun hg => ?_)
    · have hge : sz ≤ q := by
        rcases Nat.lt_or_ge q sz with w | w
        · exact absurd hg (nI_ge w (by omega))
        · exact w
      rw [if_pos hge] at et
      have e0 : g_advance p (m + 1) t b = (t, b) := by
        show (if (g_take b p).1 then _ else (t, (g_take b p).2)) = _
        rw [et]; rfl
      rw [e0] at hQ
      refine kx_iload_n (pc := 88) d_M_advance_88 rfl ?_
      exact kx_iret rfl d_M_advance_89 (hQ _)
    · have hq2 : q < sz := by
        rcases Nat.lt_or_ge q sz with w | w
        · exact w
        · exact absurd (nI_le w (by omega)) hg
      rw [if_neg (by omega)] at et
      obtain ⟨⟨t', ht, ek⟩, s, hs, es⟩ := hI q hq2
      refine kx_aload_n (pc := 58) d_M_advance_58 rfl ?_
      refine kx_iload_n (pc := 59) d_M_advance_59 rfl ?_
      refine kx_aload_n (pc := 60) d_M_advance_60 rfl ?_
      refine kw_getr (pc := 61) (r := 71) d_M_advance_61 fl_M_38 rfl (by decide) rfl ?_
      refine kx_iload_n (pc := 64) d_M_advance_64 rfl ?_
      refine km_iald (pc := 65) d_M_advance_65 (by decide) rfl ⟨rfl, hp, by decide⟩ ?_
      refine kx_eqi hpos ?_
      refine kx_invV (pc := 66) (as := [.int _, .int _]) (st := []) (k := 0) (j := 0) d_M_advance_66 wv_M_90 (wd_o rfl) (k_takes (a := a) (b := b) (sz := sz) hp hq2 h1 h5 ht ek hs es) rfl rfl (Nat.le_of_ble_eq_true rfl) (by decide) (Nat.le_of_ble_eq_true rfl) (fun rv n' h' hq => ?_) (fun X n' h' hq => nomatch hq.1)
      obtain ⟨hq, rfl⟩ := hq
      cases hq
      refine kx_if_eq (pc := 69) (tgt := 88) d_M_advance_69 (by decide) (fun hz => ?_) (fun hz => ?_)
      · have hy : ¬ (g_takeAt b p sz q).1 = true := fun hw => by
          rw [hw] at hz
          exact absurd hz (by decide)
        rw [if_neg hy] at et
        have e0 : g_advance p (m + 1) t b = (t, (g_takeAt b p sz q).2) := by
          show (if (g_take b p).1 then _ else (t, (g_take b p).2)) = _
          rw [et]; rfl
        rw [e0] at hQ
        refine kx_iload_n (pc := 88) d_M_advance_88 rfl ?_
        exact kx_iret rfl d_M_advance_89 (hQ _)
      · have hy : (g_takeAt b p sz q).1 = true := by
          cases hw : (g_takeAt b p sz q).1
          · rw [hw] at hz
            exact absurd rfl hz
          · rfl
        rw [if_pos hy] at et
        have e0 : g_advance p (m + 1) t b = g_advance p m (t + 1) (g_take b p).2 := by
          show (if (g_take b p).1 then _ else (t, (g_take b p).2)) = _
          rw [et]; rfl
        rw [e0] at hQ
        have hst := hC.step
        rw [et] at hQ hst
        refine kx_aload_n (pc := 72) d_M_advance_72 rfl ?_
        refine kw_getr (pc := 73) (r := 71) d_M_advance_73 fl_M_38 rfl (by decide) rfl ?_
        refine kx_iload_n (pc := 76) d_M_advance_76 rfl ?_
        refine kx_dup2 (pc := 77) d_M_advance_77 rfl rfl ?_
        refine km_iald (pc := 78) d_M_advance_78 (by decide) rfl ⟨rfl, hp, by decide⟩ ?_
        refine kx_eqi (show _ = nI q by rw [g71]; exact hpos) ?_
        refine kx_iconst (pc := 79) (x := 1) d_M_advance_79 (by decide) ?_
        refine kx_iadd (pc := 80) d_M_advance_80 ?_
        refine kx_eqi (nI_1 q) ?_
        refine km_iast (pc := 81) d_M_advance_81 (by decide) rfl ⟨rfl, hp, by decide⟩ ?_
        refine kx_iinc (pc := 82) (y := nI (t + 1)) (lv' := [(3, _), (0, _), (1, _), (2, _)]) d_M_advance_82 rfl (nI_1 t) (by decide) rfl ?_
        refine kx_goto (pc := 85) (tgt := 40) d_M_advance_85 (by decide) ?_
        exact ih (t + 1) _ hst (by omega) hQ _
set_option maxHeartbeats 4000000 in
set_option maxRecDepth 100000 in
theorem k_madv {E : kx_E} {n : Nat} {a b : kW} {x1 x2 : Int32} (hC : ∀ p, p < 8 → CMp b p) : kx_V E i_M_advance 3 0 0 (fun r _ h' => r = Sum.inl (some (.int (m_adv b x1 x2).1)) ∧ h' = wd (wx a (m_adv b x1 x2).2)) 0 0 0 (lv_args 0 [.ref 61, .int x1, .int x2]) [] n (wd (wx a b)) := by
  refine kx_aload_n (pc := 0) d_M_advance_0 rfl ?_
  refine kx_iconst (pc := 1) (x := 0) d_M_advance_1 (by decide) ?_
  refine km_puti (pc := 2) d_M_advance_2 fl_M_59 fw_M_0 (by decide) rfl (by decide) rfl ?_
  refine kx_aload_n (pc := 5) d_M_advance_5 rfl ?_
  refine kx_iload_n (pc := 6) d_M_advance_6 rfl ?_
  refine kx_invS (pc := 7) (as := [.int _]) (st := _) (k := 0) (j := 0) d_M_advance_7 ws_M_82 k_isProjection rfl rfl (Nat.le_of_ble_eq_true rfl) (by decide) (Nat.le_of_ble_eq_true rfl) (fun rv n' h' hq => ?_) (fun X n' h' hq => nomatch hq.2)
  obtain ⟨rfl, hq⟩ := hq
  cases hq
  refine kx_if_eq (pc := 10) (tgt := 24) d_M_advance_10 (by decide) (fun w1 => ?_) (fun w1 => ?_)
  · have g1 := oz.mp w1
    refine kx_iconst (pc := 24) (x := 1) d_M_advance_24 (by decide) ?_
    refine kx_goto (pc := 25) (tgt := 29) d_M_advance_25 (by decide) ?_
    refine kx_iconst (pc := 29) (x := 1) d_M_advance_29 (by decide) ?_
    refine kx_invV (pc := 30) (as := [.int _, .int _]) (st := []) (k := 0) (j := 0) d_M_advance_30 wv_M_70 (wd_o rfl) (k_fails1 (a := a) (b := (uo b 61 0 0)) uo_s (by decide)) rfl rfl (Nat.le_of_ble_eq_true rfl) (by decide) (Nat.le_of_ble_eq_true rfl) (fun rv n' h' hq => ?_) (fun X n' h' hq => nomatch hq.2)
    obtain ⟨rfl, hq⟩ := hq
    cases hq
    refine kx_if_eq (pc := 33) (tgt := 38) d_M_advance_33 (by decide) (fun hz => absurd hz (by decide)) (fun _ => ?_)
    refine kx_iconst (pc := 36) (x := 0) d_M_advance_36 (by decide) ?_
    exact kx_iret rfl d_M_advance_37 ⟨by unfold m_adv; rw [if_neg g1]; try rfl, by unfold m_adv; rw [if_neg g1]; try rfl⟩
  · have g1 := oy w1
    refine kx_iload_n (pc := 13) d_M_advance_13 rfl ?_
    refine kx_iconst (pc := 14) (x := 0) d_M_advance_14 (by decide) ?_
    refine kx_sipush (pc := 15) (x := 1000) d_M_advance_15 (by decide) ?_
    refine kx_invS (pc := 18) (as := [.int _, .int _, .int _]) (st := _) (k := 0) (j := 0) d_M_advance_18 ws_M_66 k_in rfl rfl (Nat.le_of_ble_eq_true rfl) (by decide) (Nat.le_of_ble_eq_true rfl) (fun rv n' h' hq => ?_) (fun X n' h' hq => nomatch hq.2)
    obtain ⟨rfl, hq⟩ := hq
    cases hq
    refine kx_if_ne (pc := 21) (tgt := 28) d_M_advance_21 (by decide) (fun w2 => ?_) (fun w2 => ?_)
    · have g2 := oy w2
      obtain ⟨p, hp8, rfl, np⟩ := nI_gl (N := 7) (by decide) g1
      have hp : p < 8 := by omega
      obtain ⟨N, hN, rfl, nN⟩ := nI_gl (N := 1000) (by decide) g2
      have hC2 : CMp (uo b 61 0 0) p := hC p hp
      refine kx_iconst (pc := 28) (x := 0) d_M_advance_28 (by decide) ?_
      refine kx_iconst (pc := 29) (x := 1) d_M_advance_29 (by decide) ?_
      refine kx_invV (pc := 30) (as := [.int _, .int _]) (st := []) (k := 0) (j := 0) d_M_advance_30 wv_M_70 (wd_o rfl) (k_fails0 (a := a) (b := (uo b 61 0 0)) uo_s) rfl rfl (Nat.le_of_ble_eq_true rfl) (by decide) (Nat.le_of_ble_eq_true rfl) (fun rv n' h' hq => ?_) (fun X n' h' hq => nomatch hq.2)
      obtain ⟨rfl, hq⟩ := hq
      cases hq
      refine kx_if_eq (pc := 33) (tgt := 38) d_M_advance_33 (by decide) (fun _ => ?_) (fun hz => absurd rfl hz)
      refine kx_iconst (pc := 38) (x := 0) d_M_advance_38 (by decide) ?_
      refine kx_eqi (show (0 : Int32) = nI 0 from rfl) ?_
      refine kx_istore_n (pc := 39) (lv' := [(3, _), (0, _), (1, _), (2, _)]) d_M_advance_39 rfl (by decide) rfl ?_
      refine k_madv_loop (a := a) hp hN N 0 (uo b 61 0 0) hC2 (by omega) (fun n => ?_) _
      exact ⟨by unfold m_adv; rw [if_pos g1, if_pos g2, np, nN]; try rfl, by unfold m_adv; rw [if_pos g1, if_pos g2, np, nN]; try rfl⟩
    · have g2 := oz.mp w2
      refine kx_iconst (pc := 24) (x := 1) d_M_advance_24 (by decide) ?_
      refine kx_goto (pc := 25) (tgt := 29) d_M_advance_25 (by decide) ?_
      refine kx_iconst (pc := 29) (x := 1) d_M_advance_29 (by decide) ?_
      refine kx_invV (pc := 30) (as := [.int _, .int _]) (st := []) (k := 0) (j := 0) d_M_advance_30 wv_M_70 (wd_o rfl) (k_fails1 (a := a) (b := (uo b 61 0 0)) uo_s (by decide)) rfl rfl (Nat.le_of_ble_eq_true rfl) (by decide) (Nat.le_of_ble_eq_true rfl) (fun rv n' h' hq => ?_) (fun X n' h' hq => nomatch hq.2)
      obtain ⟨rfl, hq⟩ := hq
      cases hq
      refine kx_if_eq (pc := 33) (tgt := 38) d_M_advance_33 (by decide) (fun hz => absurd hz (by decide)) (fun _ => ?_)
      refine kx_iconst (pc := 36) (x := 0) d_M_advance_36 (by decide) ?_
      exact kx_iret rfl d_M_advance_37 ⟨by unfold m_adv; rw [if_pos g1, if_neg g2]; try rfl, by unfold m_adv; rw [if_pos g1, if_neg g2]; try rfl⟩
