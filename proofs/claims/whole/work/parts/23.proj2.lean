set_option maxHeartbeats 4000000 in
set_option maxRecDepth 100000 in
theorem k_countAndEmit {E : kx_E} {n : Nat} {a b : kW} {p q k sz : Nat} (hp : p < 8) (hq : q < 500) (hk : k < 16) (h1 : a.2.2 1 9 = nI sz) (h5 : sz ≤ 500) (hnum : a.2.2 (12 + 5 * p) 0 = nI p) (hpos : a.2.2 (12 + 5 * p) 4 = nI q) : kx_V E i_P_countAndEmit 3 0 0 (fun r _ h' => r = Sum.inl (some (.int (if (f_count a p q k sz).1 then 1 else 0))) ∧ h' = wd (wx (f_count a p q k sz).2 b)) 0 0 0 (lv_args 0 [.ref (12 + 5 * p), .ref 1, .int (nI k)]) [] n (wd (wx a b)) := by
  refine kx_aload_n (pc := 0) d_P_countAndEmit_0 rfl ?_
  refine kw_getr (pc := 1) d_P_countAndEmit_1 fl_P_22 (wk_p0 hp) (by decide) (wf_p3 hp) ?_
  refine kx_iload_n (pc := 4) d_P_countAndEmit_4 rfl ?_
  refine ka_lald (pc := 5) d_P_countAndEmit_5 (by omega) (wk_p3 hp) ⟨rfl, hk, by decide⟩ ?_
  refine kx_lconst (pc := 6) (x := 1) d_P_countAndEmit_6 (by decide) ?_
  refine kx_ladd (pc := 7) d_P_countAndEmit_7 ?_
  refine kx_topl (fun cc hcc => ?_)
  refine kx_lstore_n (pc := 8) (lv' := [(3, _), (0, _), (1, _), (2, _)]) d_P_countAndEmit_8 rfl (by decide) rfl ?_
  have cc2 : ∀ (x : Int32) (hx : x = if cc &&& 1 = 0 then 1 else 0), kx_V E i_P_countAndEmit 3 0 0 (fun r _ h' => r = Sum.inl (some (.int (if (f_count a p q k sz).1 then 1 else 0))) ∧ h' = wd (wx (f_count a p q k sz).2 b)) 0 0 22 [(3, .long cc), (0, .ref (12 + 5 * p)), (1, .ref 1), (2, .int (nI k))] [.int x] n (wd (wx a b)) := by
    intro x hx
    have no : ¬ ((a.2.1 (12 + 5 * p + 3) k + 1) &&& 1 = 0 ∧ a.1 8 q &&& kb p = 0) → ∀ n, kx_V E i_P_countAndEmit 3 0 0 (fun r _ h' => r = Sum.inl (some (.int (if (f_count a p q k sz).1 then 1 else 0))) ∧ h' = wd (wx (f_count a p q k sz).2 b)) 0 0 66 [(5, .int x), (3, .long cc), (0, .ref (12 + 5 * p)), (1, .ref 1), (2, .int (nI k))] [] n (wd (wx a b)) := by
      intro hn n
      have e0 : f_count a p q k sz = (true, ul a (12 + 5 * p + 3) k (a.2.1 (12 + 5 * p + 3) k + 1)) := if_neg hn
      refine kx_aload_n (pc := 66) d_P_countAndEmit_66 rfl ?_
      refine kw_getr (pc := 67) d_P_countAndEmit_67 fl_P_22 (wk_p0 hp) (by decide) (wf_p3 hp) ?_
      refine kx_iload_n (pc := 70) d_P_countAndEmit_70 rfl ?_
      refine kx_lload_n (pc := 71) d_P_countAndEmit_71 rfl ?_
      refine ka_last (pc := 72) d_P_countAndEmit_72 (by omega) (wk_p3 hp) ⟨rfl, hk, by decide⟩ ?_
      refine kx_iconst (pc := 73) (x := 1) d_P_countAndEmit_73 (by decide) ?_
      exact kx_zret rfl rfl d_P_countAndEmit_74 ⟨by rw [e0]; rfl, by rw [e0, hcc]⟩
    refine kx_istore (pc := 22) (lv' := [(5, _), (3, _), (0, _), (1, _), (2, _)]) d_P_countAndEmit_22 (by decide) rfl ?_
    refine kx_iload (pc := 24) d_P_countAndEmit_24 rfl ?_
    refine kx_if_eq (pc := 26) (tgt := 66) d_P_countAndEmit_26 (by decide) (fun hz => ?_) (fun hz => ?_)
    · exact no (fun w => by rw [hx, hcc, if_pos w.1] at hz; exact absurd hz (by decide)) _
    · have ev : (a.2.1 (12 + 5 * p + 3) k + 1) &&& 1 = 0 := by
        by_cases w : (a.2.1 (12 + 5 * p + 3) k + 1) &&& 1 = 0
        · exact w
        · rw [hx, hcc, if_neg w] at hz
          exact absurd rfl hz
      refine kx_aload_n (pc := 29) d_P_countAndEmit_29 rfl ?_
      refine kx_aload_n (pc := 30) d_P_countAndEmit_30 rfl ?_
      refine ka_geti (pc := 31) d_P_countAndEmit_31 fl_P_9 (by omega) (wk_p0 hp) (by decide) (wf_p0 hp) ?_
      refine kx_eqi hnum ?_
      refine kx_aload_n (pc := 34) d_P_countAndEmit_34 rfl ?_
      refine ka_geti (pc := 35) d_P_countAndEmit_35 fl_P_35 (by omega) (wk_p0 hp) (by decide) (wf_p4 hp) ?_
      refine kx_eqi hpos ?_
      refine kx_invV (pc := 38) (as := [.int _, .int _]) (st := []) (k := 0) (j := 0) d_P_countAndEmit_38 wv_P_75 (wd_o rfl) (k_hasEmitted (a := a) (b := b) (p := p) (c := q) hq) rfl rfl (Nat.le_of_ble_eq_true rfl) (by decide) (Nat.le_of_ble_eq_true rfl) (fun rv n' h' hq => ?_) (fun X n' h' hq => nomatch hq.2)
      obtain ⟨rfl, hq⟩ := hq
      cases hq
      refine kx_if_ne (pc := 41) (tgt := 66) d_P_countAndEmit_41 (by decide) (fun hm => ?_) (fun hm => ?_)
      · exact no (fun w => by rw [if_pos w.2] at hm; exact hm rfl) _
      · have em : a.1 8 q &&& kb p = 0 := by
          by_cases w : a.1 8 q &&& kb p = 0
          · exact w
          · rw [if_neg w] at hm
            exact absurd hm (by decide)
        refine kx_aload_n (pc := 44) d_P_countAndEmit_44 rfl ?_
        refine kx_invV (pc := 45) (as := []) (st := []) (k := 0) (j := 0) d_P_countAndEmit_45 wv_P_79 (wd_o rfl) (k_isFull h1 h5) rfl rfl (Nat.le_of_ble_eq_true rfl) (by decide) (Nat.le_of_ble_eq_true rfl) (fun rv n' h' hq => ?_) (fun X n' h' hq => nomatch hq.2)
        obtain ⟨rfl, hq⟩ := hq
        cases hq
        refine kx_if_eq (pc := 48) (tgt := 53) d_P_countAndEmit_48 (by decide) (fun hu => ?_) (fun hu => ?_)
        · have hfull : sz < 500 := by
            by_cases w : 500 ≤ sz
            · rw [if_pos w] at hu
              exact absurd hu (by decide)
            · omega
          have e0 : f_count a p q k sz = (true, ul (f_emit a sz p q (l4 (a.2.1 5 q)) (a.2.1 (12 + 5 * p + 3) k + 1)) (12 + 5 * p + 3) k (a.2.1 (12 + 5 * p + 3) k + 1)) := (if_pos ⟨ev, em⟩).trans (if_neg (by omega))
          refine kx_aload_n (pc := 53) d_P_countAndEmit_53 rfl ?_
          refine kx_aload_n (pc := 54) d_P_countAndEmit_54 rfl ?_
          refine ka_geti (pc := 55) d_P_countAndEmit_55 fl_P_9 (by omega) (wk_p0 hp) (by decide) (wf_p0 hp) ?_
          refine kx_eqi hnum ?_
          refine kx_aload_n (pc := 58) d_P_countAndEmit_58 rfl ?_
          refine ka_geti (pc := 59) d_P_countAndEmit_59 fl_P_35 (by omega) (wk_p0 hp) (by decide) (wf_p4 hp) ?_
          refine kx_eqi hpos ?_
          refine kx_lload_n (pc := 62) d_P_countAndEmit_62 rfl ?_
          refine kx_invV (pc := 63) (as := [.int _, .int _, .long _]) (st := []) (k := 0) (j := 0) d_P_countAndEmit_63 wv_P_83 (wd_o rfl) (k_putEmitted (a := a) (b := b) h1 hfull hp hq) rfl rfl (Nat.le_of_ble_eq_true rfl) (by decide) (Nat.le_of_ble_eq_true rfl) (fun rv n' h' hq => ?_) (fun X n' h' hq => nomatch hq.2)
          obtain ⟨rfl, hq⟩ := hq
          cases hq
          refine kx_aload_n (pc := 66) d_P_countAndEmit_66 rfl ?_
          refine kw_getr (pc := 67) d_P_countAndEmit_67 fl_P_22 (wk_p0 hp) (by decide) (wf_p3 hp) ?_
          refine kx_iload_n (pc := 70) d_P_countAndEmit_70 rfl ?_
          refine kx_lload_n (pc := 71) d_P_countAndEmit_71 rfl ?_
          refine ka_last (pc := 72) d_P_countAndEmit_72 (by omega) (wk_p3 hp) ⟨rfl, hk, by decide⟩ ?_
          refine kx_iconst (pc := 73) (x := 1) d_P_countAndEmit_73 (by decide) ?_
          exact kx_zret rfl rfl d_P_countAndEmit_74 ⟨by rw [e0]; rfl, by rw [e0, hcc]⟩
        · have w : 500 ≤ sz := by
            by_cases w : 500 ≤ sz
            · exact w
            · rw [if_neg w] at hu
              exact absurd rfl hu
          have e0 : f_count a p q k sz = (false, a) := (if_pos ⟨ev, em⟩).trans (if_pos w)
          refine kx_iconst (pc := 51) (x := 0) d_P_countAndEmit_51 (by decide) ?_
          exact kx_zret rfl rfl d_P_countAndEmit_52 ⟨by rw [e0]; rfl, by rw [e0]⟩
  refine kx_lload_n (pc := 9) d_P_countAndEmit_9 rfl ?_
  refine kx_lconst (pc := 10) (x := 1) d_P_countAndEmit_10 (by decide) ?_
  refine kx_land (pc := 11) d_P_countAndEmit_11 ?_
  refine kx_lconst (pc := 12) (x := 0) d_P_countAndEmit_12 (by decide) ?_
  refine kx_lcmp (pc := 13) d_P_countAndEmit_13 ?_
  refine kx_if_ne (pc := 14) (tgt := 21) d_P_countAndEmit_14 (by decide) (fun he => ?_) (fun he => ?_)
  · have hne : ¬ (cc &&& 1 = 0) := fun w => he ((lg_cmp_eq _ _).mpr w)
    refine kx_iconst (pc := 21) (x := 0) d_P_countAndEmit_21 (by decide) ?_
    exact cc2 _ (by first | rw [if_pos hev] | rw [if_neg hne])
  · have hev : cc &&& 1 = 0 := (lg_cmp_eq _ _).mp he
    refine kx_iconst (pc := 17) (x := 1) d_P_countAndEmit_17 (by decide) ?_
    refine kx_goto (pc := 18) (tgt := 22) d_P_countAndEmit_18 (by decide) ?_
    exact cc2 _ (by first | rw [if_pos hev] | rw [if_neg hne])
