set_option maxHeartbeats 4000000 in
set_option maxRecDepth 100000 in
theorem k_over_loop {E : kx_E} {n : Nat} {b : kW} {p : Nat} (hp : p < 8) (f : Nat → Int64) (m : Nat) : ∀ (q : Nat) (a : kW), q + m = 16 → a.2.1 (12 + 5 * p + 3) = f_zero f q → ∀ {Q : kx_Q}, Q (Sum.inl none) n (wd (wx (uo (uo (uL a (12 + 5 * p + 3) (f_zero f 16)) (12 + 5 * p) 4 0) (12 + 5 * p) 7 (-1)) b)) → kx_V E i_P_startOver 1 0 0 Q 0 0 2 [(1, .int (nI q)), (0, .ref (12 + 5 * p))] [] n (wd (wx a b)) := by
  induction m with
  | zero =>
    intro q a hm hf Q hQ
    have hq : q = 16 := by omega
    subst hq
    have e0 : uL a (12 + 5 * p + 3) (f_zero f 16) = a := by
      refine Prod.ext rfl (Prod.ext (funext fun z => ?_) rfl)
      by_cases e : z = 12 + 5 * p + 3
      · subst e
        simp [uL, hf]
      · simp [uL, e]
    rw [e0] at hQ
    refine kx_iload_n (pc := 2) d_P_startOver_2 rfl ?_
    refine kx_bipush (pc := 3) (x := 16) d_P_startOver_3 (by decide) ?_
    refine kx_eqi (show (16 : Int32) = nI 16 from rfl) ?_
    refine kx_icmp_ge (pc := 5) (tgt := 21) d_P_startOver_5 (by decide) (fun _ => ?_) (fun hz => absurd (nI_le (Nat.le_refl 16) (by omega)) hz)
    refine kx_aload_n (pc := 21) d_P_startOver_21 rfl ?_
    refine kx_iconst (pc := 22) (x := 0) d_P_startOver_22 (by decide) ?_
    refine ka_puti (pc := 23) d_P_startOver_23 fl_P_35 fw_P_4 (by omega) (wk_p0 hp) (by decide) (wf_p4 hp) ?_
    refine kx_aload_n (pc := 26) d_P_startOver_26 rfl ?_
    refine kx_iconst (pc := 27) (x := -1) d_P_startOver_27 (by decide) ?_
    refine ka_puti (pc := 28) d_P_startOver_28 fl_P_29 fw_P_7 (by omega) (wk_p0 hp) (by decide) (wf_p7 hp) ?_
    exact kx_vret rfl d_P_startOver_31 hQ
  | succ m ih =>
    intro q a hm hf Q hQ
    have hlt : q < 16 := by omega
    have e1 : (ul a (12 + 5 * p + 3) q 0).2.1 (12 + 5 * p + 3) = f_zero f (q + 1) := by
      show (if 12 + 5 * p + 3 = 12 + 5 * p + 3 then vp_updL (a.2.1 (12 + 5 * p + 3)) q 0 else _) = _
      rw [if_pos rfl, hf]
      rfl
    have e2 : uL (ul a (12 + 5 * p + 3) q 0) (12 + 5 * p + 3) (f_zero f 16) = uL a (12 + 5 * p + 3) (f_zero f 16) := by
      refine Prod.ext rfl (Prod.ext (funext fun z => ?_) rfl)
      by_cases e : z = 12 + 5 * p + 3 <;> simp [uL, ul, e]
    have hnext := ih (q + 1) (ul a (12 + 5 * p + 3) q 0) (by omega) e1 (Q := Q) (by rw [e2]; exact hQ)
    refine kx_iload_n (pc := 2) d_P_startOver_2 rfl ?_
    refine kx_bipush (pc := 3) (x := 16) d_P_startOver_3 (by decide) ?_
    refine kx_eqi (show (16 : Int32) = nI 16 from rfl) ?_
    refine kx_icmp_ge (pc := 5) (tgt := 21) d_P_startOver_5 (by decide) (fun hz => absurd hz (nI_ge hlt (by omega))) (fun _ => ?_)
    refine kx_aload_n (pc := 8) d_P_startOver_8 rfl ?_
    refine kw_getr (pc := 9) d_P_startOver_9 fl_P_22 (wk_p0 hp) (by decide) (wf_p3 hp) ?_
    refine kx_iload_n (pc := 12) d_P_startOver_12 rfl ?_
    refine kx_lconst (pc := 13) (x := 0) d_P_startOver_13 (by decide) ?_
    refine ka_last (pc := 14) d_P_startOver_14 (by omega) (wk_p3 hp) ⟨rfl, hlt, by decide⟩ ?_
    refine kx_iinc (pc := 15) (y := nI (q + 1)) (lv' := [(1, _), (0, _)]) d_P_startOver_15 rfl (nI_1 q) (by decide) rfl ?_
    refine kx_goto (pc := 18) (tgt := 2) d_P_startOver_18 (by decide) ?_
    exact hnext
set_option maxHeartbeats 4000000 in
set_option maxRecDepth 100000 in
theorem k_startOver {E : kx_E} {n : Nat} {a b : kW} {p : Nat} (hp : p < 8) : kx_V E i_P_startOver 1 0 0 (fun r _ h' => h' = wd (wx (f_over a p) b) ∧ r = Sum.inl none) 0 0 0 (lv_args 0 [.ref (12 + 5 * p)]) [] n (wd (wx a b)) := by
  refine kx_iconst (pc := 0) (x := 0) d_P_startOver_0 (by decide) ?_
  refine kx_eqi (show (0 : Int32) = nI 0 from rfl) ?_
  refine kx_istore_n (pc := 1) (lv' := [(1, _), (0, _)]) d_P_startOver_1 rfl (by decide) rfl ?_
  exact k_over_loop hp (a.2.1 (12 + 5 * p + 3)) 16 0 a rfl rfl ⟨rfl, rfl⟩
set_option maxHeartbeats 4000000 in
set_option maxRecDepth 100000 in
theorem k_setRule {E : kx_E} {n : Nat} {a b : kW} {p t : Nat} {x y : Int32} (hp : p < 8) (ht : t < 8) : kx_V E i_P_setRule 2 0 0 (fun r _ h' => h' = wd (wx (f_rule a p t x y) b) ∧ r = Sum.inl none) 0 0 0 (lv_args 0 [.ref (12 + 5 * p), .int (nI t), .int x, .int y]) [] n (wd (wx a b)) := by
  refine kx_aload_n (pc := 0) d_P_setRule_0 rfl ?_
  refine kw_getr (pc := 1) d_P_setRule_1 fl_P_15 (wk_p0 hp) (by decide) (wf_p1 hp) ?_
  refine kx_iload_n (pc := 4) d_P_setRule_4 rfl ?_
  refine kx_iload_n (pc := 5) d_P_setRule_5 rfl ?_
  refine ka_iast (pc := 6) d_P_setRule_6 (by omega) (wk_p1 hp) ⟨rfl, ht, by decide⟩ ?_
  refine kx_aload_n (pc := 7) d_P_setRule_7 rfl ?_
  refine kw_getr (pc := 8) d_P_setRule_8 fl_P_19 (wk_p0 hp) (by decide) (wf_p2 hp) ?_
  refine kx_iload_n (pc := 11) d_P_setRule_11 rfl ?_
  refine kx_iload_n (pc := 12) d_P_setRule_12 rfl ?_
  refine ka_iast (pc := 13) d_P_setRule_13 (by omega) (wk_p2 hp) ⟨rfl, ht, by decide⟩ ?_
  refine kx_aload_n (pc := 14) d_P_setRule_14 rfl ?_
  refine kx_invV (pc := 15) (as := []) (st := []) (k := 0) (j := 0) d_P_setRule_15 wv_P_32 (wd_o (wk_p0 hp)) (k_startOver hp) rfl rfl (Nat.le_of_ble_eq_true rfl) (by decide) (Nat.le_of_ble_eq_true rfl) (fun rv n' h' hq => ?_) (fun X n' h' hq => nomatch hq.2)
  obtain ⟨rfl, hq⟩ := hq
  cases hq
  exact kx_vret rfl d_P_setRule_18 ⟨rfl, rfl⟩
set_option maxHeartbeats 4000000 in
set_option maxRecDepth 100000 in
theorem k_folded {E : kx_E} {n : Nat} {hh : kx_H} {x : Int32} {g v : Int64} : kx_V E i_P_folded 1 0 0 (fun r _ h' => h' = hh ∧ r = Sum.inl (some (.long (f_fold x g v)))) 0 0 0 (lv_args 0 [.int x, .long g, .long v]) [] n hh := by
  by_cases x1 : x = 1
  · have hx : x = 1 := x1
    refine kx_iload_n (pc := 0) d_P_folded_0 rfl ?_
    refine kx_tsIn (pc := 1) (tgt := 36) d_P_folded_1 (by rw [hx]; decide) (by rw [hx]; decide) (by rw [hx]; rfl) (by decide) ?_
    refine kx_lload_n (pc := 36) d_P_folded_36 rfl ?_
    refine kx_lload_n (pc := 37) d_P_folded_37 rfl ?_
    refine kx_ladd (pc := 38) d_P_folded_38 ?_
    exact kx_lret rfl d_P_folded_39 ⟨rfl, by rw [hx]; rfl⟩
  by_cases x2 : x = 2
  · have hx : x = 2 := x2
    refine kx_iload_n (pc := 0) d_P_folded_0 rfl ?_
    refine kx_tsIn (pc := 1) (tgt := 40) d_P_folded_1 (by rw [hx]; decide) (by rw [hx]; decide) (by rw [hx]; rfl) (by decide) ?_
    refine kx_lload_n (pc := 40) d_P_folded_40 rfl ?_
    exact kx_lret rfl d_P_folded_41 ⟨rfl, by rw [hx]; rfl⟩
  by_cases x3 : x = 3
  · have hx : x = 3 := x3
    refine kx_iload_n (pc := 0) d_P_folded_0 rfl ?_
    refine kx_tsIn (pc := 1) (tgt := 42) d_P_folded_1 (by rw [hx]; decide) (by rw [hx]; decide) (by rw [hx]; rfl) (by decide) ?_
    refine kx_lload_n (pc := 42) d_P_folded_42 rfl ?_
    refine kx_lconst (pc := 43) (x := 1) d_P_folded_43 (by decide) ?_
    refine kx_ladd (pc := 44) d_P_folded_44 ?_
    exact kx_lret rfl d_P_folded_45 ⟨rfl, by rw [hx]; rfl⟩
  by_cases x4 : x = 4
  · have hx : x = 4 := x4
    refine kx_iload_n (pc := 0) d_P_folded_0 rfl ?_
    refine kx_tsIn (pc := 1) (tgt := 46) d_P_folded_1 (by rw [hx]; decide) (by rw [hx]; decide) (by rw [hx]; rfl) (by decide) ?_
    refine kx_lload_n (pc := 46) d_P_folded_46 rfl ?_
    refine kx_lload_n (pc := 47) d_P_folded_47 rfl ?_
    refine kx_maxl (pc := 48) d_P_folded_48 (kx_t 359 (by decide +kernel) rfl) (kx_t 360 (by decide +kernel) rfl) (kx_t 12 (by decide +kernel) rfl) (kx_t 361 (by decide +kernel) rfl) (by decide) (Nat.le_of_ble_eq_true rfl) ?_
    exact kx_lret rfl d_P_folded_51 ⟨rfl, by rw [hx]; rfl⟩
  by_cases x5 : x = 5
  · have hx : x = 5 := x5
    refine kx_iload_n (pc := 0) d_P_folded_0 rfl ?_
    refine kx_tsIn (pc := 1) (tgt := 52) d_P_folded_1 (by rw [hx]; decide) (by rw [hx]; decide) (by rw [hx]; rfl) (by decide) ?_
    refine kx_lload_n (pc := 52) d_P_folded_52 rfl ?_
    refine kx_lload_n (pc := 53) d_P_folded_53 rfl ?_
    refine kx_minl (pc := 54) d_P_folded_54 (kx_t 362 (by decide +kernel) rfl) (kx_t 363 (by decide +kernel) rfl) (kx_t 12 (by decide +kernel) rfl) (kx_t 364 (by decide +kernel) rfl) (by decide) (Nat.le_of_ble_eq_true rfl) ?_
    exact kx_lret rfl d_P_folded_57 ⟨rfl, by rw [hx]; rfl⟩
  have ho : x.toInt < 1 ∨ 5 < x.toInt := by
    have g : ∀ z : Int, x.toInt = z → x = Int32.ofInt z := fun z hz => by rw [← hz, Int32.ofInt_toInt]
    rcases Int.lt_or_le x.toInt 1 with q | q
    · exact Or.inl q
    · refine Or.inr ?_
      have n1 : x.toInt ≠ 1 := fun e => x1 (g 1 e)
      have n2 : x.toInt ≠ 2 := fun e => x2 (g 2 e)
      have n3 : x.toInt ≠ 3 := fun e => x3 (g 3 e)
      have n4 : x.toInt ≠ 4 := fun e => x4 (g 4 e)
      have n5 : x.toInt ≠ 5 := fun e => x5 (g 5 e)
      omega
  refine kx_iload_n (pc := 0) d_P_folded_0 rfl ?_
  refine kx_tsOut (pc := 1) (tgt := 58) d_P_folded_1 ho (by decide) ?_
  refine kx_lload_n (pc := 58) d_P_folded_58 rfl ?_
  exact kx_lret rfl d_P_folded_59 ⟨rfl, by unfold f_fold; rw [if_neg x1, if_neg x2, if_neg x3, if_neg x4, if_neg x5]⟩
set_option maxHeartbeats 4000000 in
set_option maxRecDepth 100000 in
theorem k_targetCell {E : kx_E} {n : Nat} {a b : kW} {p q t s : Nat} (hp : p < 8) (hq : q < 500) (hpos : a.2.2 (12 + 5 * p) 4 = nI q) (ht : t < 8) (ek : a.1 4 q = nI t) (hs : s < 16) (es : a.1 2 q = nI s) : kx_V E i_P_targetCell 1 0 0 (fun r _ h' => h' = wd (wx a b) ∧ r = Sum.inl (some (.int (nI (f_cell a p q))))) 0 0 0 (lv_args 0 [.ref (12 + 5 * p), .ref 1]) [] n (wd (wx a b)) := by
  have nk : nt (a.1 4 q) = t := by rw [ek]; exact nt_nI (by omega)
  have hq5 : q < 500 := by omega
  refine kx_aload_n (pc := 0) d_P_targetCell_0 rfl ?_
  refine kw_getr (pc := 1) d_P_targetCell_1 fl_P_19 (wk_p0 hp) (by decide) (wf_p2 hp) ?_
  refine kx_aload_n (pc := 4) d_P_targetCell_4 rfl ?_
  refine kw_getr (pc := 5) (r := 4) d_P_targetCell_5 fl_P_43 rfl (by decide) rfl ?_
  refine kx_aload_n (pc := 8) d_P_targetCell_8 rfl ?_
  refine ka_geti (pc := 9) d_P_targetCell_9 fl_P_35 (by omega) (wk_p0 hp) (by decide) (wf_p4 hp) ?_
  refine kx_eqi hpos ?_
  refine ka_iald (pc := 12) d_P_targetCell_12 (by decide) rfl ⟨rfl, hq5, by decide⟩ ?_
  refine kx_eqi ek ?_
  refine ka_iald (pc := 13) d_P_targetCell_13 (by omega) (wk_p2 hp) ⟨rfl, ht, by decide⟩ ?_
  by_cases x0 : a.1 (12 + 5 * p + 2) t = 0
  · refine kx_lsw (pc := 14) (tgt := 40) d_P_targetCell_14 (by decide) (by rw [x0]; first | done | rfl) (by decide) ?_
    refine kx_aload_n (pc := 40) d_P_targetCell_40 rfl ?_
    refine kw_getr (pc := 41) (r := 2) d_P_targetCell_41 fl_P_61 rfl (by decide) rfl ?_
    refine kx_aload_n (pc := 44) d_P_targetCell_44 rfl ?_
    refine ka_geti (pc := 45) d_P_targetCell_45 fl_P_35 (by omega) (wk_p0 hp) (by decide) (wf_p4 hp) ?_
    refine kx_eqi hpos ?_
    refine ka_iald (pc := 48) d_P_targetCell_48 (by decide) rfl ⟨rfl, hq5, by decide⟩ ?_
    refine kx_eqi es ?_
    exact kx_iret rfl d_P_targetCell_49 ⟨rfl, by unfold f_cell; rw [nk, if_pos x0, es, nt_nI (by omega)]⟩
  by_cases x1 : a.1 (12 + 5 * p + 2) t = 1
  · refine kx_lsw (pc := 14) (tgt := 50) d_P_targetCell_14 (by decide) (by rw [x1]; first | done | rfl) (by decide) ?_
    refine kx_aload_n (pc := 50) d_P_targetCell_50 rfl ?_
    refine kw_getr (pc := 51) (r := 5) d_P_targetCell_51 fl_P_54 rfl (by decide) rfl ?_
    refine kx_aload_n (pc := 54) d_P_targetCell_54 rfl ?_
    refine ka_geti (pc := 55) d_P_targetCell_55 fl_P_35 (by omega) (wk_p0 hp) (by decide) (wf_p4 hp) ?_
    refine kx_eqi hpos ?_
    refine ka_lald (pc := 58) d_P_targetCell_58 (by decide) rfl ⟨rfl, hq5, by decide⟩ ?_
    refine kx_ldc2 (pc := 59) (x := 15) d_P_targetCell_59 (kx_t 340 (by decide +kernel) rfl) ?_
    refine kx_land (pc := 62) d_P_targetCell_62 ?_
    refine kx_l2i (pc := 63) d_P_targetCell_63 ?_
    refine kx_eqi (l4_a _) ?_
    exact kx_iret rfl d_P_targetCell_64 ⟨rfl, by unfold f_cell; rw [nk, if_neg x0, if_pos x1]⟩
  refine kx_lsw (pc := 14) (tgt := 65) (off := 51) d_P_targetCell_14 (by decide) (by
    show Op.lookupswitch.offset [(0, 26), (1, 36)] 51 _ = 51
    rw [lv_osw x0 (by decide), lv_osw x1 (by decide)]
    rfl) (by decide) ?_
  refine kx_iconst (pc := 65) (x := 0) d_P_targetCell_65 (by decide) ?_
  exact kx_iret rfl d_P_targetCell_66 ⟨rfl, by unfold f_cell; rw [nk, if_neg x0, if_neg x1]; rfl⟩
