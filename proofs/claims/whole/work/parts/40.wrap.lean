def w_lng : Value → Int64
  | .int x => x.toInt64
  | .long x => x
  | _ => 0
def w_b (r : Option Value ⊕ String) (b : kW) : kW := match r with
  | .inl (some v) => ul b 78 0 (w_lng v)
  | _ => b
def w_c (cs : List (String × Int32)) (r : Option Value ⊕ String) : Int32 := match r with
  | .inl _ => 0
  | .inr X => (cs.lookup X).getD 9
set_option maxHeartbeats 4000000 in
set_option maxRecDepth 100000 in
theorem k_W_append {E : kx_E} {n : Nat} {a b S2 : kW} {S1 : Option Value ⊕ String} {x1 : Int32} {x2 : Int32} {x3 : Int32} {x4 : Int64} (hk : kx_V E i_EK_append 8 5 30 (fun r _ h' => r = S1 ∧ h' = wd (wx S2 b)) 5 30 0 (lv_args 0 [.ref 0, .int x1, .int x2, .int x3, .long x4]) [] n (wd (wx a b))) (hS : (∃ x, S1 = Sum.inl (some (.int x))) ∨ S1 = Sum.inr "java/lang/IllegalArgumentException" ∨ S1 = Sum.inr "java/lang/IllegalStateException" ∨ S1 = Sum.inr "java/lang/IndexOutOfBoundsException") : kx_V E i_W_append 9 5 30 (fun r _ h' => r = Sum.inl (some (.int (w_c [("java/lang/IllegalArgumentException", 1), ("java/lang/IllegalStateException", 2), ("java/lang/IndexOutOfBoundsException", 3)] S1))) ∧ h' = wd (wx S2 (w_b S1 b))) 5 30 0 (lv_args 0 [.ref 0, .int x1, .int x2, .int x3, .long x4, .ref 78]) [] n (wd (wx a b)) := by
  refine kx_aload (pc := 0) d_W_append_0 rfl ?_
  refine kx_iconst (pc := 2) (x := 0) d_W_append_2 (by decide) ?_
  refine kx_aload_n (pc := 3) d_W_append_3 rfl ?_
  refine kx_iload_n (pc := 4) d_W_append_4 rfl ?_
  refine kx_iload_n (pc := 5) d_W_append_5 rfl ?_
  refine kx_iload_n (pc := 6) d_W_append_6 rfl ?_
  refine kx_lload (pc := 7) d_W_append_7 rfl ?_
  refine kx_invV (pc := 9) (as := [.int _, .int _, .int _, .long _]) (st := [.int 0, .ref 78]) (k := 0) (j := 0) d_W_append_9 wv_W_7 (wd_o rfl) hk rfl rfl (Nat.le_of_ble_eq_true rfl) (by decide) (Nat.le_of_ble_eq_true rfl) (fun rv n' h' hq => ?_) (fun X n' h' hq => ?_)
  · obtain ⟨hq, rfl⟩ := hq
    subst hq
    rcases hS with ⟨x, hS⟩ | hS | hS | hS
    rotate_left
    · nomatch hS
    · nomatch hS
    · nomatch hS
    cases hS
    refine kx_i2l (pc := 12) d_W_append_12 ?_
    refine km_last (pc := 13) d_W_append_13 (by decide) rfl ⟨rfl, by decide, by decide⟩ ?_
    refine kx_goto (pc := 14) (tgt := 29) d_W_append_14 (by decide) ?_
    refine kx_iconst (pc := 29) (x := 0) d_W_append_29 (by decide) ?_
    exact kx_iret rfl d_W_append_30 ⟨rfl, rfl⟩
  · obtain ⟨hq, rfl⟩ := hq
    subst hq
    rcases hS with ⟨x, hS⟩ | hS | hS | hS
    · nomatch hS
    · cases hS
      refine kx_X.catch (hpc := 17) (i := 7) (lv' := [(0, _), (1, _), (2, _), (3, _), (4, _), (6, _)]) ⟨⟨by decide, by decide⟩, by decide, "java/lang/IllegalArgumentException", (kx_t 187 (by decide +kernel) rfl), by decide +kernel, by decide +kernel, Or.inl ⟨rfl, rfl⟩⟩ (Or.inr ⟨rfl, d_W_append_17⟩) (by decide) rfl ?_
      refine kx_iconst (pc := 19) (x := 1) d_W_append_19 (by decide) ?_
      exact kx_iret rfl d_W_append_20 ⟨rfl, rfl⟩
    · cases hS
      refine kx_X.catch (hpc := 21) (i := 7) (lv' := [(0, _), (1, _), (2, _), (3, _), (4, _), (6, _)]) ⟨⟨by decide, by decide⟩, by decide, "java/lang/IllegalArgumentException", (kx_t 187 (by decide +kernel) rfl), by decide +kernel, by decide +kernel, Or.inr ⟨by decide +kernel, ⟨⟨by decide, by decide⟩, by decide, "java/lang/IllegalStateException", (kx_t 188 (by decide +kernel) rfl), by decide +kernel, by decide +kernel, Or.inl ⟨rfl, rfl⟩⟩⟩⟩ (Or.inr ⟨rfl, d_W_append_21⟩) (by decide) rfl ?_
      refine kx_iconst (pc := 23) (x := 2) d_W_append_23 (by decide) ?_
      exact kx_iret rfl d_W_append_24 ⟨rfl, rfl⟩
    · cases hS
      refine kx_X.catch (hpc := 25) (i := 7) (lv' := [(0, _), (1, _), (2, _), (3, _), (4, _), (6, _)]) ⟨⟨by decide, by decide⟩, by decide, "java/lang/IllegalArgumentException", (kx_t 187 (by decide +kernel) rfl), by decide +kernel, by decide +kernel, Or.inr ⟨by decide +kernel, ⟨⟨by decide, by decide⟩, by decide, "java/lang/IllegalStateException", (kx_t 188 (by decide +kernel) rfl), by decide +kernel, by decide +kernel, Or.inr ⟨by decide +kernel, ⟨⟨by decide, by decide⟩, by decide, "java/lang/IndexOutOfBoundsException", (kx_t 189 (by decide +kernel) rfl), by decide +kernel, by decide +kernel, Or.inl ⟨rfl, rfl⟩⟩⟩⟩⟩⟩ (Or.inr ⟨rfl, d_W_append_25⟩) (by decide) rfl ?_
      refine kx_iconst (pc := 27) (x := 3) d_W_append_27 (by decide) ?_
      exact kx_iret rfl d_W_append_28 ⟨rfl, rfl⟩
set_option maxHeartbeats 4000000 in
set_option maxRecDepth 100000 in
theorem k_W_rule {E : kx_E} {n : Nat} {a b S2 : kW} {S1 : Option Value ⊕ String} {x1 : Int32} {x2 : Int32} {x3 : Int32} {x4 : Int32} (hk : kx_V E i_EK_rule 8 5 30 (fun r _ h' => r = S1 ∧ h' = wd (wx S2 b)) 5 30 0 (lv_args 0 [.ref 0, .int x1, .int x2, .int x3, .int x4]) [] n (wd (wx a b))) (hS : (S1 = Sum.inl none) ∨ S1 = Sum.inr "java/lang/IllegalArgumentException") : kx_V E i_W_rule 9 5 30 (fun r _ h' => r = Sum.inl (some (.int (w_c [("java/lang/IllegalArgumentException", 1)] S1))) ∧ h' = wd (wx S2 (w_b S1 b))) 5 30 0 (lv_args 0 [.ref 0, .int x1, .int x2, .int x3, .int x4]) [] n (wd (wx a b)) := by
  refine kx_aload_n (pc := 0) d_W_rule_0 rfl ?_
  refine kx_iload_n (pc := 1) d_W_rule_1 rfl ?_
  refine kx_iload_n (pc := 2) d_W_rule_2 rfl ?_
  refine kx_iload_n (pc := 3) d_W_rule_3 rfl ?_
  refine kx_iload (pc := 4) d_W_rule_4 rfl ?_
  refine kx_invV (pc := 6) (as := [.int _, .int _, .int _, .int _]) (st := []) (k := 0) (j := 0) d_W_rule_6 wv_W_19 (wd_o rfl) hk rfl rfl (Nat.le_of_ble_eq_true rfl) (by decide) (Nat.le_of_ble_eq_true rfl) (fun rv n' h' hq => ?_) (fun X n' h' hq => ?_)
  · obtain ⟨hq, rfl⟩ := hq
    subst hq
    rcases hS with hS | hS
    rotate_left
    · nomatch hS
    cases hS
    refine kx_goto (pc := 9) (tgt := 16) d_W_rule_9 (by decide) ?_
    refine kx_iconst (pc := 16) (x := 0) d_W_rule_16 (by decide) ?_
    exact kx_iret rfl d_W_rule_17 ⟨rfl, rfl⟩
  · obtain ⟨hq, rfl⟩ := hq
    subst hq
    rcases hS with hS | hS
    · nomatch hS
    · cases hS
      refine kx_X.catch (hpc := 12) (i := 5) (lv' := [(0, _), (1, _), (2, _), (3, _), (4, _)]) ⟨⟨by decide, by decide⟩, by decide, "java/lang/IllegalArgumentException", (kx_t 187 (by decide +kernel) rfl), by decide +kernel, by decide +kernel, Or.inl ⟨rfl, rfl⟩⟩ (Or.inr ⟨rfl, d_W_rule_12⟩) (by decide) rfl ?_
      refine kx_iconst (pc := 14) (x := 1) d_W_rule_14 (by decide) ?_
      exact kx_iret rfl d_W_rule_15 ⟨rfl, rfl⟩
set_option maxHeartbeats 4000000 in
set_option maxRecDepth 100000 in
theorem k_W_advance {E : kx_E} {n : Nat} {a b S2 : kW} {S1 : Option Value ⊕ String} {x1 : Int32} {x2 : Int32} (hk : kx_V E i_EK_advance 8 5 30 (fun r _ h' => r = S1 ∧ h' = wd (wx S2 b)) 5 30 0 (lv_args 0 [.ref 0, .int x1, .int x2]) [] n (wd (wx a b))) (hS : (∃ x, S1 = Sum.inl (some (.int x))) ∨ S1 = Sum.inr "java/lang/IllegalArgumentException") : kx_V E i_W_advance 9 5 30 (fun r _ h' => r = Sum.inl (some (.int (w_c [("java/lang/IllegalArgumentException", 1)] S1))) ∧ h' = wd (wx S2 (w_b S1 b))) 5 30 0 (lv_args 0 [.ref 0, .int x1, .int x2, .ref 78]) [] n (wd (wx a b)) := by
  refine kx_aload_n (pc := 0) d_W_advance_0 rfl ?_
  refine kx_iconst (pc := 1) (x := 0) d_W_advance_1 (by decide) ?_
  refine kx_aload_n (pc := 2) d_W_advance_2 rfl ?_
  refine kx_iload_n (pc := 3) d_W_advance_3 rfl ?_
  refine kx_iload_n (pc := 4) d_W_advance_4 rfl ?_
  refine kx_invV (pc := 5) (as := [.int _, .int _]) (st := [.int 0, .ref 78]) (k := 0) (j := 0) d_W_advance_5 wv_W_23 (wd_o rfl) hk rfl rfl (Nat.le_of_ble_eq_true rfl) (by decide) (Nat.le_of_ble_eq_true rfl) (fun rv n' h' hq => ?_) (fun X n' h' hq => ?_)
  · obtain ⟨hq, rfl⟩ := hq
    subst hq
    rcases hS with ⟨x, hS⟩ | hS
    rotate_left
    · nomatch hS
    cases hS
    refine kx_i2l (pc := 8) d_W_advance_8 ?_
    refine km_last (pc := 9) d_W_advance_9 (by decide) rfl ⟨rfl, by decide, by decide⟩ ?_
    refine kx_goto (pc := 10) (tgt := 17) d_W_advance_10 (by decide) ?_
    refine kx_iconst (pc := 17) (x := 0) d_W_advance_17 (by decide) ?_
    exact kx_iret rfl d_W_advance_18 ⟨rfl, rfl⟩
  · obtain ⟨hq, rfl⟩ := hq
    subst hq
    rcases hS with ⟨x, hS⟩ | hS
    · nomatch hS
    · cases hS
      refine kx_X.catch (hpc := 13) (i := 4) (lv' := [(0, _), (1, _), (2, _), (3, _)]) ⟨⟨by decide, by decide⟩, by decide, "java/lang/IllegalArgumentException", (kx_t 187 (by decide +kernel) rfl), by decide +kernel, by decide +kernel, Or.inl ⟨rfl, rfl⟩⟩ (Or.inr ⟨rfl, d_W_advance_13⟩) (by decide) rfl ?_
      refine kx_iconst (pc := 15) (x := 1) d_W_advance_15 (by decide) ?_
      exact kx_iret rfl d_W_advance_16 ⟨rfl, rfl⟩
set_option maxHeartbeats 4000000 in
set_option maxRecDepth 100000 in
theorem k_W_save {E : kx_E} {n : Nat} {a b S2 : kW} {S1 : Option Value ⊕ String} {x1 : Int32} (hk : kx_V E i_EK_save 8 5 30 (fun r _ h' => r = S1 ∧ h' = wd (wx S2 b)) 5 30 0 (lv_args 0 [.ref 0, .int x1]) [] n (wd (wx a b))) (hS : (∃ x, S1 = Sum.inl (some (.int x))) ∨ S1 = Sum.inr "java/lang/IllegalArgumentException") : kx_V E i_W_save 9 5 30 (fun r _ h' => r = Sum.inl (some (.int (w_c [("java/lang/IllegalArgumentException", 1)] S1))) ∧ h' = wd (wx S2 (w_b S1 b))) 5 30 0 (lv_args 0 [.ref 0, .int x1, .ref 78]) [] n (wd (wx a b)) := by
  refine kx_aload_n (pc := 0) d_W_save_0 rfl ?_
  refine kx_iconst (pc := 1) (x := 0) d_W_save_1 (by decide) ?_
  refine kx_aload_n (pc := 2) d_W_save_2 rfl ?_
  refine kx_iload_n (pc := 3) d_W_save_3 rfl ?_
  refine kx_invV (pc := 4) (as := [.int _]) (st := [.int 0, .ref 78]) (k := 0) (j := 0) d_W_save_4 wv_W_27 (wd_o rfl) hk rfl rfl (Nat.le_of_ble_eq_true rfl) (by decide) (Nat.le_of_ble_eq_true rfl) (fun rv n' h' hq => ?_) (fun X n' h' hq => ?_)
  · obtain ⟨hq, rfl⟩ := hq
    subst hq
    rcases hS with ⟨x, hS⟩ | hS
    rotate_left
    · nomatch hS
    cases hS
    refine kx_i2l (pc := 7) d_W_save_7 ?_
    refine km_last (pc := 8) d_W_save_8 (by decide) rfl ⟨rfl, by decide, by decide⟩ ?_
    refine kx_goto (pc := 9) (tgt := 15) d_W_save_9 (by decide) ?_
    refine kx_iconst (pc := 15) (x := 0) d_W_save_15 (by decide) ?_
    exact kx_iret rfl d_W_save_16 ⟨rfl, rfl⟩
  · obtain ⟨hq, rfl⟩ := hq
    subst hq
    rcases hS with ⟨x, hS⟩ | hS
    · nomatch hS
    · cases hS
      refine kx_X.catch (hpc := 12) (i := 3) (lv' := [(0, _), (1, _), (2, _)]) ⟨⟨by decide, by decide⟩, by decide, "java/lang/IllegalArgumentException", (kx_t 187 (by decide +kernel) rfl), by decide +kernel, by decide +kernel, Or.inl ⟨rfl, rfl⟩⟩ (Or.inl ⟨rfl, ⟨3, by decide⟩, rfl, d_W_save_12⟩) (by decide) rfl ?_
      refine kx_iconst (pc := 13) (x := 1) d_W_save_13 (by decide) ?_
      exact kx_iret rfl d_W_save_14 ⟨rfl, rfl⟩
set_option maxHeartbeats 4000000 in
set_option maxRecDepth 100000 in
theorem k_W_cell {E : kx_E} {n : Nat} {a b S2 : kW} {S1 : Option Value ⊕ String} {x1 : Int32} {x2 : Int32} (hk : kx_V E i_EK_cell 8 5 30 (fun r _ h' => r = S1 ∧ h' = wd (wx S2 b)) 5 30 0 (lv_args 0 [.ref 0, .int x1, .int x2]) [] n (wd (wx a b))) (hS : (∃ x, S1 = Sum.inl (some (.long x))) ∨ S1 = Sum.inr "java/lang/IllegalArgumentException" ∨ S1 = Sum.inr "java/lang/IndexOutOfBoundsException") : kx_V E i_W_cell 9 5 30 (fun r _ h' => r = Sum.inl (some (.int (w_c [("java/lang/IllegalArgumentException", 1), ("java/lang/IndexOutOfBoundsException", 2)] S1))) ∧ h' = wd (wx S2 (w_b S1 b))) 5 30 0 (lv_args 0 [.ref 0, .int x1, .int x2, .ref 78]) [] n (wd (wx a b)) := by
  refine kx_aload_n (pc := 0) d_W_cell_0 rfl ?_
  refine kx_iconst (pc := 1) (x := 0) d_W_cell_1 (by decide) ?_
  refine kx_aload_n (pc := 2) d_W_cell_2 rfl ?_
  refine kx_iload_n (pc := 3) d_W_cell_3 rfl ?_
  refine kx_iload_n (pc := 4) d_W_cell_4 rfl ?_
  refine kx_invV (pc := 5) (as := [.int _, .int _]) (st := [.int 0, .ref 78]) (k := 0) (j := 0) d_W_cell_5 wv_W_31 (wd_o rfl) hk rfl rfl (Nat.le_of_ble_eq_true rfl) (by decide) (Nat.le_of_ble_eq_true rfl) (fun rv n' h' hq => ?_) (fun X n' h' hq => ?_)
  · obtain ⟨hq, rfl⟩ := hq
    subst hq
    rcases hS with ⟨x, hS⟩ | hS | hS
    rotate_left
    · nomatch hS
    · nomatch hS
    cases hS
    refine km_last (pc := 8) d_W_cell_8 (by decide) rfl ⟨rfl, by decide, by decide⟩ ?_
    refine kx_goto (pc := 9) (tgt := 20) d_W_cell_9 (by decide) ?_
    refine kx_iconst (pc := 20) (x := 0) d_W_cell_20 (by decide) ?_
    exact kx_iret rfl d_W_cell_21 ⟨rfl, rfl⟩
  · obtain ⟨hq, rfl⟩ := hq
    subst hq
    rcases hS with ⟨x, hS⟩ | hS | hS
    · nomatch hS
    · cases hS
      refine kx_X.catch (hpc := 12) (i := 4) (lv' := [(0, _), (1, _), (2, _), (3, _)]) ⟨⟨by decide, by decide⟩, by decide, "java/lang/IllegalArgumentException", (kx_t 187 (by decide +kernel) rfl), by decide +kernel, by decide +kernel, Or.inl ⟨rfl, rfl⟩⟩ (Or.inr ⟨rfl, d_W_cell_12⟩) (by decide) rfl ?_
      refine kx_iconst (pc := 14) (x := 1) d_W_cell_14 (by decide) ?_
      exact kx_iret rfl d_W_cell_15 ⟨rfl, rfl⟩
    · cases hS
      refine kx_X.catch (hpc := 16) (i := 4) (lv' := [(0, _), (1, _), (2, _), (3, _)]) ⟨⟨by decide, by decide⟩, by decide, "java/lang/IllegalArgumentException", (kx_t 187 (by decide +kernel) rfl), by decide +kernel, by decide +kernel, Or.inr ⟨by decide +kernel, ⟨⟨by decide, by decide⟩, by decide, "java/lang/IndexOutOfBoundsException", (kx_t 189 (by decide +kernel) rfl), by decide +kernel, by decide +kernel, Or.inl ⟨rfl, rfl⟩⟩⟩⟩ (Or.inr ⟨rfl, d_W_cell_16⟩) (by decide) rfl ?_
      refine kx_iconst (pc := 18) (x := 2) d_W_cell_18 (by decide) ?_
      exact kx_iret rfl d_W_cell_19 ⟨rfl, rfl⟩
set_option maxHeartbeats 4000000 in
set_option maxRecDepth 100000 in
theorem k_W_filter {E : kx_E} {n : Nat} {a b S2 : kW} {S1 : Option Value ⊕ String} {x1 : Int32} {x2 : Int32} {x3 : Int32} (hk : kx_V E i_EK_filter 8 5 30 (fun r _ h' => r = S1 ∧ h' = wd (wx S2 b)) 5 30 0 (lv_args 0 [.ref 0, .int x1, .int x2, .int x3]) [] n (wd (wx a b))) (hS : (S1 = Sum.inl none) ∨ S1 = Sum.inr "java/lang/IllegalArgumentException") : kx_V E i_W_filter 9 5 30 (fun r _ h' => r = Sum.inl (some (.int (w_c [("java/lang/IllegalArgumentException", 1)] S1))) ∧ h' = wd (wx S2 (w_b S1 b))) 5 30 0 (lv_args 0 [.ref 0, .int x1, .int x2, .int x3]) [] n (wd (wx a b)) := by
  refine kx_aload_n (pc := 0) d_W_filter_0 rfl ?_
  refine kx_iload_n (pc := 1) d_W_filter_1 rfl ?_
  refine kx_iload_n (pc := 2) d_W_filter_2 rfl ?_
  refine kx_iload_n (pc := 3) d_W_filter_3 rfl ?_
  refine kx_invV (pc := 4) (as := [.int _, .int _, .int _]) (st := []) (k := 0) (j := 0) d_W_filter_4 wv_W_35 (wd_o rfl) hk rfl rfl (Nat.le_of_ble_eq_true rfl) (by decide) (Nat.le_of_ble_eq_true rfl) (fun rv n' h' hq => ?_) (fun X n' h' hq => ?_)
  · obtain ⟨hq, rfl⟩ := hq
    subst hq
    rcases hS with hS | hS
    rotate_left
    · nomatch hS
    cases hS
    refine kx_goto (pc := 7) (tgt := 14) d_W_filter_7 (by decide) ?_
    refine kx_iconst (pc := 14) (x := 0) d_W_filter_14 (by decide) ?_
    exact kx_iret rfl d_W_filter_15 ⟨rfl, rfl⟩
  · obtain ⟨hq, rfl⟩ := hq
    subst hq
    rcases hS with hS | hS
    · nomatch hS
    · cases hS
      refine kx_X.catch (hpc := 10) (i := 4) (lv' := [(0, _), (1, _), (2, _), (3, _)]) ⟨⟨by decide, by decide⟩, by decide, "java/lang/IllegalArgumentException", (kx_t 187 (by decide +kernel) rfl), by decide +kernel, by decide +kernel, Or.inl ⟨rfl, rfl⟩⟩ (Or.inr ⟨rfl, d_W_filter_10⟩) (by decide) rfl ?_
      refine kx_iconst (pc := 12) (x := 1) d_W_filter_12 (by decide) ?_
      exact kx_iret rfl d_W_filter_13 ⟨rfl, rfl⟩
set_option maxHeartbeats 4000000 in
set_option maxRecDepth 100000 in
theorem k_W_next {E : kx_E} {n : Nat} {a b S2 : kW} {S1 : Option Value ⊕ String} {x1 : Int32} (hk : kx_V E i_EK_next 8 5 30 (fun r _ h' => r = S1 ∧ h' = wd (wx S2 b)) 5 30 0 (lv_args 0 [.ref 0, .int x1]) [] n (wd (wx a b))) (hS : (∃ x, S1 = Sum.inl (some (.int x))) ∨ S1 = Sum.inr "java/lang/IllegalArgumentException") : kx_V E i_W_next 9 5 30 (fun r _ h' => r = Sum.inl (some (.int (w_c [("java/lang/IllegalArgumentException", 1)] S1))) ∧ h' = wd (wx S2 (w_b S1 b))) 5 30 0 (lv_args 0 [.ref 0, .int x1, .ref 78]) [] n (wd (wx a b)) := by
  refine kx_aload_n (pc := 0) d_W_next_0 rfl ?_
  refine kx_iconst (pc := 1) (x := 0) d_W_next_1 (by decide) ?_
  refine kx_aload_n (pc := 2) d_W_next_2 rfl ?_
  refine kx_iload_n (pc := 3) d_W_next_3 rfl ?_
  refine kx_invV (pc := 4) (as := [.int _]) (st := [.int 0, .ref 78]) (k := 0) (j := 0) d_W_next_4 wv_W_39 (wd_o rfl) hk rfl rfl (Nat.le_of_ble_eq_true rfl) (by decide) (Nat.le_of_ble_eq_true rfl) (fun rv n' h' hq => ?_) (fun X n' h' hq => ?_)
  · obtain ⟨hq, rfl⟩ := hq
    subst hq
    rcases hS with ⟨x, hS⟩ | hS
    rotate_left
    · nomatch hS
    cases hS
    refine kx_i2l (pc := 7) d_W_next_7 ?_
    refine km_last (pc := 8) d_W_next_8 (by decide) rfl ⟨rfl, by decide, by decide⟩ ?_
    refine kx_goto (pc := 9) (tgt := 15) d_W_next_9 (by decide) ?_
    refine kx_iconst (pc := 15) (x := 0) d_W_next_15 (by decide) ?_
    exact kx_iret rfl d_W_next_16 ⟨rfl, rfl⟩
  · obtain ⟨hq, rfl⟩ := hq
    subst hq
    rcases hS with ⟨x, hS⟩ | hS
    · nomatch hS
    · cases hS
      refine kx_X.catch (hpc := 12) (i := 3) (lv' := [(0, _), (1, _), (2, _)]) ⟨⟨by decide, by decide⟩, by decide, "java/lang/IllegalArgumentException", (kx_t 187 (by decide +kernel) rfl), by decide +kernel, by decide +kernel, Or.inl ⟨rfl, rfl⟩⟩ (Or.inl ⟨rfl, ⟨3, by decide⟩, rfl, d_W_next_12⟩) (by decide) rfl ?_
      refine kx_iconst (pc := 13) (x := 1) d_W_next_13 (by decide) ?_
      exact kx_iret rfl d_W_next_14 ⟨rfl, rfl⟩
set_option maxHeartbeats 4000000 in
set_option maxRecDepth 100000 in
theorem k_W_acknowledge {E : kx_E} {n : Nat} {a b S2 : kW} {S1 : Option Value ⊕ String} {x1 : Int32} {x2 : Int32} (hk : kx_V E i_EK_acknowledge 8 5 30 (fun r _ h' => r = S1 ∧ h' = wd (wx S2 b)) 5 30 0 (lv_args 0 [.ref 0, .int x1, .int x2]) [] n (wd (wx a b))) (hS : (∃ x, S1 = Sum.inl (some (.int x))) ∨ S1 = Sum.inr "java/lang/IllegalArgumentException" ∨ S1 = Sum.inr "java/lang/IndexOutOfBoundsException") : kx_V E i_W_acknowledge 9 5 30 (fun r _ h' => r = Sum.inl (some (.int (w_c [("java/lang/IllegalArgumentException", 1), ("java/lang/IndexOutOfBoundsException", 2)] S1))) ∧ h' = wd (wx S2 (w_b S1 b))) 5 30 0 (lv_args 0 [.ref 0, .int x1, .int x2, .ref 78]) [] n (wd (wx a b)) := by
  refine kx_aload_n (pc := 0) d_W_acknowledge_0 rfl ?_
  refine kx_iconst (pc := 1) (x := 0) d_W_acknowledge_1 (by decide) ?_
  refine kx_aload_n (pc := 2) d_W_acknowledge_2 rfl ?_
  refine kx_iload_n (pc := 3) d_W_acknowledge_3 rfl ?_
  refine kx_iload_n (pc := 4) d_W_acknowledge_4 rfl ?_
  refine kx_invV (pc := 5) (as := [.int _, .int _]) (st := [.int 0, .ref 78]) (k := 0) (j := 0) d_W_acknowledge_5 wv_W_42 (wd_o rfl) hk rfl rfl (Nat.le_of_ble_eq_true rfl) (by decide) (Nat.le_of_ble_eq_true rfl) (fun rv n' h' hq => ?_) (fun X n' h' hq => ?_)
  · obtain ⟨hq, rfl⟩ := hq
    subst hq
    rcases hS with ⟨x, hS⟩ | hS | hS
    rotate_left
    · nomatch hS
    · nomatch hS
    cases hS
    refine kx_i2l (pc := 8) d_W_acknowledge_8 ?_
    refine km_last (pc := 9) d_W_acknowledge_9 (by decide) rfl ⟨rfl, by decide, by decide⟩ ?_
    refine kx_goto (pc := 10) (tgt := 21) d_W_acknowledge_10 (by decide) ?_
    refine kx_iconst (pc := 21) (x := 0) d_W_acknowledge_21 (by decide) ?_
    exact kx_iret rfl d_W_acknowledge_22 ⟨rfl, rfl⟩
  · obtain ⟨hq, rfl⟩ := hq
    subst hq
    rcases hS with ⟨x, hS⟩ | hS | hS
    · nomatch hS
    · cases hS
      refine kx_X.catch (hpc := 13) (i := 4) (lv' := [(0, _), (1, _), (2, _), (3, _)]) ⟨⟨by decide, by decide⟩, by decide, "java/lang/IllegalArgumentException", (kx_t 187 (by decide +kernel) rfl), by decide +kernel, by decide +kernel, Or.inl ⟨rfl, rfl⟩⟩ (Or.inr ⟨rfl, d_W_acknowledge_13⟩) (by decide) rfl ?_
      refine kx_iconst (pc := 15) (x := 1) d_W_acknowledge_15 (by decide) ?_
      exact kx_iret rfl d_W_acknowledge_16 ⟨rfl, rfl⟩
    · cases hS
      refine kx_X.catch (hpc := 17) (i := 4) (lv' := [(0, _), (1, _), (2, _), (3, _)]) ⟨⟨by decide, by decide⟩, by decide, "java/lang/IllegalArgumentException", (kx_t 187 (by decide +kernel) rfl), by decide +kernel, by decide +kernel, Or.inr ⟨by decide +kernel, ⟨⟨by decide, by decide⟩, by decide, "java/lang/IndexOutOfBoundsException", (kx_t 189 (by decide +kernel) rfl), by decide +kernel, by decide +kernel, Or.inl ⟨rfl, rfl⟩⟩⟩⟩ (Or.inr ⟨rfl, d_W_acknowledge_17⟩) (by decide) rfl ?_
      refine kx_iconst (pc := 19) (x := 2) d_W_acknowledge_19 (by decide) ?_
      exact kx_iret rfl d_W_acknowledge_20 ⟨rfl, rfl⟩
set_option maxHeartbeats 4000000 in
set_option maxRecDepth 100000 in
theorem k_W_event {E : kx_E} {n : Nat} {a b S2 : kW} {S1 : Option Value ⊕ String} {x1 : Int32} {x2 : Int32} (hk : kx_V E i_EK_event 8 5 30 (fun r _ h' => r = S1 ∧ h' = wd (wx S2 b)) 5 30 0 (lv_args 0 [.ref 0, .int x1, .int x2]) [] n (wd (wx a b))) (hS : (∃ x, S1 = Sum.inl (some (.int x))) ∨ S1 = Sum.inr "java/lang/IllegalArgumentException" ∨ S1 = Sum.inr "java/lang/IndexOutOfBoundsException") : kx_V E i_W_event 9 5 30 (fun r _ h' => r = Sum.inl (some (.int (w_c [("java/lang/IllegalArgumentException", 1), ("java/lang/IndexOutOfBoundsException", 2)] S1))) ∧ h' = wd (wx S2 (w_b S1 b))) 5 30 0 (lv_args 0 [.ref 0, .int x1, .int x2, .ref 78]) [] n (wd (wx a b)) := by
  refine kx_aload_n (pc := 0) d_W_event_0 rfl ?_
  refine kx_iconst (pc := 1) (x := 0) d_W_event_1 (by decide) ?_
  refine kx_aload_n (pc := 2) d_W_event_2 rfl ?_
  refine kx_iload_n (pc := 3) d_W_event_3 rfl ?_
  refine kx_iload_n (pc := 4) d_W_event_4 rfl ?_
  refine kx_invV (pc := 5) (as := [.int _, .int _]) (st := [.int 0, .ref 78]) (k := 0) (j := 0) d_W_event_5 wv_W_45 (wd_o rfl) hk rfl rfl (Nat.le_of_ble_eq_true rfl) (by decide) (Nat.le_of_ble_eq_true rfl) (fun rv n' h' hq => ?_) (fun X n' h' hq => ?_)
  · obtain ⟨hq, rfl⟩ := hq
    subst hq
    rcases hS with ⟨x, hS⟩ | hS | hS
    rotate_left
    · nomatch hS
    · nomatch hS
    cases hS
    refine kx_i2l (pc := 8) d_W_event_8 ?_
    refine km_last (pc := 9) d_W_event_9 (by decide) rfl ⟨rfl, by decide, by decide⟩ ?_
    refine kx_goto (pc := 10) (tgt := 21) d_W_event_10 (by decide) ?_
    refine kx_iconst (pc := 21) (x := 0) d_W_event_21 (by decide) ?_
    exact kx_iret rfl d_W_event_22 ⟨rfl, rfl⟩
  · obtain ⟨hq, rfl⟩ := hq
    subst hq
    rcases hS with ⟨x, hS⟩ | hS | hS
    · nomatch hS
    · cases hS
      refine kx_X.catch (hpc := 13) (i := 4) (lv' := [(0, _), (1, _), (2, _), (3, _)]) ⟨⟨by decide, by decide⟩, by decide, "java/lang/IllegalArgumentException", (kx_t 187 (by decide +kernel) rfl), by decide +kernel, by decide +kernel, Or.inl ⟨rfl, rfl⟩⟩ (Or.inr ⟨rfl, d_W_event_13⟩) (by decide) rfl ?_
      refine kx_iconst (pc := 15) (x := 1) d_W_event_15 (by decide) ?_
      exact kx_iret rfl d_W_event_16 ⟨rfl, rfl⟩
    · cases hS
      refine kx_X.catch (hpc := 17) (i := 4) (lv' := [(0, _), (1, _), (2, _), (3, _)]) ⟨⟨by decide, by decide⟩, by decide, "java/lang/IllegalArgumentException", (kx_t 187 (by decide +kernel) rfl), by decide +kernel, by decide +kernel, Or.inr ⟨by decide +kernel, ⟨⟨by decide, by decide⟩, by decide, "java/lang/IndexOutOfBoundsException", (kx_t 189 (by decide +kernel) rfl), by decide +kernel, by decide +kernel, Or.inl ⟨rfl, rfl⟩⟩⟩⟩ (Or.inr ⟨rfl, d_W_event_17⟩) (by decide) rfl ?_
      refine kx_iconst (pc := 19) (x := 2) d_W_event_19 (by decide) ?_
      exact kx_iret rfl d_W_event_20 ⟨rfl, rfl⟩
set_option maxHeartbeats 4000000 in
set_option maxRecDepth 100000 in
theorem k_W_value {E : kx_E} {n : Nat} {a b S2 : kW} {S1 : Option Value ⊕ String} {x1 : Int32} (hk : kx_V E i_EK_value 8 5 30 (fun r _ h' => r = S1 ∧ h' = wd (wx S2 b)) 5 30 0 (lv_args 0 [.ref 0, .int x1]) [] n (wd (wx a b))) (hS : (∃ x, S1 = Sum.inl (some (.long x))) ∨ S1 = Sum.inr "java/lang/IndexOutOfBoundsException") : kx_V E i_W_value 9 5 30 (fun r _ h' => r = Sum.inl (some (.int (w_c [("java/lang/IndexOutOfBoundsException", 1)] S1))) ∧ h' = wd (wx S2 (w_b S1 b))) 5 30 0 (lv_args 0 [.ref 0, .int x1, .ref 78]) [] n (wd (wx a b)) := by
  refine kx_aload_n (pc := 0) d_W_value_0 rfl ?_
  refine kx_iconst (pc := 1) (x := 0) d_W_value_1 (by decide) ?_
  refine kx_aload_n (pc := 2) d_W_value_2 rfl ?_
  refine kx_iload_n (pc := 3) d_W_value_3 rfl ?_
  refine kx_invV (pc := 4) (as := [.int _]) (st := [.int 0, .ref 78]) (k := 0) (j := 0) d_W_value_4 wv_W_48 (wd_o rfl) hk rfl rfl (Nat.le_of_ble_eq_true rfl) (by decide) (Nat.le_of_ble_eq_true rfl) (fun rv n' h' hq => ?_) (fun X n' h' hq => ?_)
  · obtain ⟨hq, rfl⟩ := hq
    subst hq
    rcases hS with ⟨x, hS⟩ | hS
    rotate_left
    · nomatch hS
    cases hS
    refine km_last (pc := 7) d_W_value_7 (by decide) rfl ⟨rfl, by decide, by decide⟩ ?_
    refine kx_goto (pc := 8) (tgt := 14) d_W_value_8 (by decide) ?_
    refine kx_iconst (pc := 14) (x := 0) d_W_value_14 (by decide) ?_
    exact kx_iret rfl d_W_value_15 ⟨rfl, rfl⟩
  · obtain ⟨hq, rfl⟩ := hq
    subst hq
    rcases hS with ⟨x, hS⟩ | hS
    · nomatch hS
    · cases hS
      refine kx_X.catch (hpc := 11) (i := 3) (lv' := [(0, _), (1, _), (2, _)]) ⟨⟨by decide, by decide⟩, by decide, "java/lang/IndexOutOfBoundsException", (kx_t 189 (by decide +kernel) rfl), by decide +kernel, by decide +kernel, Or.inl ⟨rfl, rfl⟩⟩ (Or.inl ⟨rfl, ⟨3, by decide⟩, rfl, d_W_value_11⟩) (by decide) rfl ?_
      refine kx_iconst (pc := 12) (x := 1) d_W_value_12 (by decide) ?_
      exact kx_iret rfl d_W_value_13 ⟨rfl, rfl⟩
set_option maxHeartbeats 4000000 in
set_option maxRecDepth 100000 in
theorem k_W_find {E : kx_E} {n : Nat} {a b S2 : kW} {S1 : Option Value ⊕ String} {x1 : Int32} {x2 : Int32} (hk : kx_V E i_EK_find 8 5 30 (fun r _ h' => r = S1 ∧ h' = wd (wx S2 b)) 5 30 0 (lv_args 0 [.ref 0, .int x1, .int x2]) [] n (wd (wx a b))) (hS : (∃ x, S1 = Sum.inl (some (.int x))) ∨ S1 = Sum.inr "java/lang/IllegalArgumentException" ∨ S1 = Sum.inr "java/lang/IndexOutOfBoundsException") : kx_V E i_W_find 9 5 30 (fun r _ h' => r = Sum.inl (some (.int (w_c [("java/lang/IllegalArgumentException", 1), ("java/lang/IndexOutOfBoundsException", 2)] S1))) ∧ h' = wd (wx S2 (w_b S1 b))) 5 30 0 (lv_args 0 [.ref 0, .int x1, .int x2, .ref 78]) [] n (wd (wx a b)) := by
  refine kx_aload_n (pc := 0) d_W_find_0 rfl ?_
  refine kx_iconst (pc := 1) (x := 0) d_W_find_1 (by decide) ?_
  refine kx_aload_n (pc := 2) d_W_find_2 rfl ?_
  refine kx_iload_n (pc := 3) d_W_find_3 rfl ?_
  refine kx_iload_n (pc := 4) d_W_find_4 rfl ?_
  refine kx_invV (pc := 5) (as := [.int _, .int _]) (st := [.int 0, .ref 78]) (k := 0) (j := 0) d_W_find_5 wv_W_52 (wd_o rfl) hk rfl rfl (Nat.le_of_ble_eq_true rfl) (by decide) (Nat.le_of_ble_eq_true rfl) (fun rv n' h' hq => ?_) (fun X n' h' hq => ?_)
  · obtain ⟨hq, rfl⟩ := hq
    subst hq
    rcases hS with ⟨x, hS⟩ | hS | hS
    rotate_left
    · nomatch hS
    · nomatch hS
    cases hS
    refine kx_i2l (pc := 8) d_W_find_8 ?_
    refine km_last (pc := 9) d_W_find_9 (by decide) rfl ⟨rfl, by decide, by decide⟩ ?_
    refine kx_goto (pc := 10) (tgt := 21) d_W_find_10 (by decide) ?_
    refine kx_iconst (pc := 21) (x := 0) d_W_find_21 (by decide) ?_
    exact kx_iret rfl d_W_find_22 ⟨rfl, rfl⟩
  · obtain ⟨hq, rfl⟩ := hq
    subst hq
    rcases hS with ⟨x, hS⟩ | hS | hS
    · nomatch hS
    · cases hS
      refine kx_X.catch (hpc := 13) (i := 4) (lv' := [(0, _), (1, _), (2, _), (3, _)]) ⟨⟨by decide, by decide⟩, by decide, "java/lang/IllegalArgumentException", (kx_t 187 (by decide +kernel) rfl), by decide +kernel, by decide +kernel, Or.inl ⟨rfl, rfl⟩⟩ (Or.inr ⟨rfl, d_W_find_13⟩) (by decide) rfl ?_
      refine kx_iconst (pc := 15) (x := 1) d_W_find_15 (by decide) ?_
      exact kx_iret rfl d_W_find_16 ⟨rfl, rfl⟩
    · cases hS
      refine kx_X.catch (hpc := 17) (i := 4) (lv' := [(0, _), (1, _), (2, _), (3, _)]) ⟨⟨by decide, by decide⟩, by decide, "java/lang/IllegalArgumentException", (kx_t 187 (by decide +kernel) rfl), by decide +kernel, by decide +kernel, Or.inr ⟨by decide +kernel, ⟨⟨by decide, by decide⟩, by decide, "java/lang/IndexOutOfBoundsException", (kx_t 189 (by decide +kernel) rfl), by decide +kernel, by decide +kernel, Or.inl ⟨rfl, rfl⟩⟩⟩⟩ (Or.inr ⟨rfl, d_W_find_17⟩) (by decide) rfl ?_
      refine kx_iconst (pc := 19) (x := 2) d_W_find_19 (by decide) ?_
      exact kx_iret rfl d_W_find_20 ⟨rfl, rfl⟩
set_option maxHeartbeats 4000000 in
set_option maxRecDepth 100000 in
theorem k_W_count {E : kx_E} {n : Nat} {a b S2 : kW} {S1 : Option Value ⊕ String} {x1 : Int32} {x2 : Int32} (hk : kx_V E i_EK_count 8 5 30 (fun r _ h' => r = S1 ∧ h' = wd (wx S2 b)) 5 30 0 (lv_args 0 [.ref 0, .int x1, .int x2]) [] n (wd (wx a b))) (hS : (∃ x, S1 = Sum.inl (some (.int x))) ∨ S1 = Sum.inr "java/lang/IllegalArgumentException") : kx_V E i_W_count 9 5 30 (fun r _ h' => r = Sum.inl (some (.int (w_c [("java/lang/IllegalArgumentException", 1)] S1))) ∧ h' = wd (wx S2 (w_b S1 b))) 5 30 0 (lv_args 0 [.ref 0, .int x1, .int x2, .ref 78]) [] n (wd (wx a b)) := by
  refine kx_aload_n (pc := 0) d_W_count_0 rfl ?_
  refine kx_iconst (pc := 1) (x := 0) d_W_count_1 (by decide) ?_
  refine kx_aload_n (pc := 2) d_W_count_2 rfl ?_
  refine kx_iload_n (pc := 3) d_W_count_3 rfl ?_
  refine kx_iload_n (pc := 4) d_W_count_4 rfl ?_
  refine kx_invV (pc := 5) (as := [.int _, .int _]) (st := [.int 0, .ref 78]) (k := 0) (j := 0) d_W_count_5 wv_W_55 (wd_o rfl) hk rfl rfl (Nat.le_of_ble_eq_true rfl) (by decide) (Nat.le_of_ble_eq_true rfl) (fun rv n' h' hq => ?_) (fun X n' h' hq => ?_)
  · obtain ⟨hq, rfl⟩ := hq
    subst hq
    rcases hS with ⟨x, hS⟩ | hS
    rotate_left
    · nomatch hS
    cases hS
    refine kx_i2l (pc := 8) d_W_count_8 ?_
    refine km_last (pc := 9) d_W_count_9 (by decide) rfl ⟨rfl, by decide, by decide⟩ ?_
    refine kx_goto (pc := 10) (tgt := 17) d_W_count_10 (by decide) ?_
    refine kx_iconst (pc := 17) (x := 0) d_W_count_17 (by decide) ?_
    exact kx_iret rfl d_W_count_18 ⟨rfl, rfl⟩
  · obtain ⟨hq, rfl⟩ := hq
    subst hq
    rcases hS with ⟨x, hS⟩ | hS
    · nomatch hS
    · cases hS
      refine kx_X.catch (hpc := 13) (i := 4) (lv' := [(0, _), (1, _), (2, _), (3, _)]) ⟨⟨by decide, by decide⟩, by decide, "java/lang/IllegalArgumentException", (kx_t 187 (by decide +kernel) rfl), by decide +kernel, by decide +kernel, Or.inl ⟨rfl, rfl⟩⟩ (Or.inr ⟨rfl, d_W_count_13⟩) (by decide) rfl ?_
      refine kx_iconst (pc := 15) (x := 1) d_W_count_15 (by decide) ?_
      exact kx_iret rfl d_W_count_16 ⟨rfl, rfl⟩
