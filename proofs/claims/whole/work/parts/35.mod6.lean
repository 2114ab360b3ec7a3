def g_rec (b : kW) (p : Nat) (x : Int32) : kW := if b.1 72 p < 0 ∨ x < b.1 73 p then g_begin b p else ui (uL b 67 (g_copy (b.2.1 68) (b.2.1 67) p 16)) 71 p (b.1 72 p)
def g_crP (x : Int32) : Nat → Nat → kW → kW
  | 0, _, b => b
  | m + 1, p, b => g_crP x m (p + 1) (g_rec b p x)
def g_crS (x : Int32) : Nat → Nat → kW → kW
  | 0, _, b => b
  | m + 1, u, b => g_crS x m (u + 1) (ui b 76 u (if b.1 77 u < x then b.1 77 u else x))
def m_crash (b : kW) : kW := g_crS (b.2.2 61 2) 8 0 (g_crP (b.2.2 61 2) 8 0 (uo (uo b 61 0 0) 61 1 (b.2.2 61 2)))
theorem g_rec_o (b : kW) (p : Nat) (x : Int32) : (g_rec b p x).2.2 = b.2.2 := by
  unfold g_rec g_begin
  split <;> rfl
set_option maxHeartbeats 4000000 in
set_option maxRecDepth 100000 in
theorem k_mcr_in {E : kx_E} {n : Nat} {a : kW} {p : Nat} (hp : p < 8) (f g : Nat → Int64) (m : Nat) : ∀ (q : Nat) (b : kW), q + m = 16 → b.2.1 68 = f → b.2.1 67 = g_copy f g p q → ∀ {Q : kx_Q}, kx_V E i_M_crash 3 0 0 Q 0 0 99 [(1, .int (nI p)), (0, .ref 61)] [] n (wd (wx a (ui (uL b 67 (g_copy f g p 16)) 71 p (b.1 72 p)))) → kx_V E i_M_crash 3 0 0 Q 0 0 53 [(2, .int (nI q)), (1, .int (nI p)), (0, .ref 61)] [] n (wd (wx a b)) := by
  induction m with
  | zero =>
    intro q b hm h0 hf Q hQ
    have hq : q = 16 := by omega
    subst hq
    rw [uL_same hf] at hQ
    refine kx_iload_n (pc := 53) d_M_crash_53 rfl ?_
    refine kx_bipush (pc := 54) (x := 16) d_M_crash_54 (by decide) ?_
    refine kx_eqi (show (16 : Int32) = nI 16 from rfl) ?_
    refine kx_icmp_ge (pc := 56) (tgt := 87) d_M_crash_56 (by decide) (fun _ => ?_) (fun hz => absurd (nI_le (Nat.le_refl 16) (by omega)) hz)
    refine kx_aload_n (pc := 87) d_M_crash_87 rfl ?_
    refine kw_getr (pc := 88) (r := 71) d_M_crash_88 fl_M_38 rfl (by decide) rfl ?_
    refine kx_iload_n (pc := 91) d_M_crash_91 rfl ?_
    refine kx_aload_n (pc := 92) d_M_crash_92 rfl ?_
    refine kw_getr (pc := 93) (r := 72) d_M_crash_93 fl_M_41 rfl (by decide) rfl ?_
    refine kx_iload_n (pc := 96) d_M_crash_96 rfl ?_
    refine km_iald (pc := 97) d_M_crash_97 (by decide) rfl ⟨rfl, hp, by decide⟩ ?_
    refine km_iast (pc := 98) d_M_crash_98 (by decide) rfl ⟨rfl, hp, by decide⟩ ?_
    refine kx_sub [1, 2] rfl ?_
    exact hQ
  | succ m ih =>
    intro q b hm h0 hf Q hQ
    have hlt : q < 16 := by omega
    have hnext := ih (q + 1) (ul b 67 (16 * p + q) (b.2.1 68 (16 * p + q))) (by omega) ((ul_n (by decide)).trans h0) (by rw [ul_self, hf, h0]; rfl) (Q := Q) (by rw [uL_ul]; exact hQ)
    refine kx_iload_n (pc := 53) d_M_crash_53 rfl ?_
    refine kx_bipush (pc := 54) (x := 16) d_M_crash_54 (by decide) ?_
    refine kx_eqi (show (16 : Int32) = nI 16 from rfl) ?_
    refine kx_icmp_ge (pc := 56) (tgt := 87) d_M_crash_56 (by decide) (fun hz => absurd hz (nI_ge hlt (by omega))) (fun _ => ?_)
    refine kx_aload_n (pc := 59) d_M_crash_59 rfl ?_
    refine kw_getr (pc := 60) (r := 67) d_M_crash_60 fl_M_26 rfl (by decide) rfl ?_
    refine kx_bipush (pc := 63) (x := 16) d_M_crash_63 (by decide) ?_
    refine kx_iload_n (pc := 65) d_M_crash_65 rfl ?_
    refine kx_imul (pc := 66) d_M_crash_66 ?_
    refine kx_iload_n (pc := 67) d_M_crash_67 rfl ?_
    refine kx_iadd (pc := 68) d_M_crash_68 ?_
    refine kx_eqi (ix16 p q) ?_
    refine kx_aload_n (pc := 69) d_M_crash_69 rfl ?_
    refine kw_getr (pc := 70) (r := 68) d_M_crash_70 fl_M_29 rfl (by decide) rfl ?_
    refine kx_bipush (pc := 73) (x := 16) d_M_crash_73 (by decide) ?_
    refine kx_iload_n (pc := 75) d_M_crash_75 rfl ?_
    refine kx_imul (pc := 76) d_M_crash_76 ?_
    refine kx_iload_n (pc := 77) d_M_crash_77 rfl ?_
    refine kx_iadd (pc := 78) d_M_crash_78 ?_
    refine kx_eqi (ix16 p q) ?_
    refine km_lald (pc := 79) d_M_crash_79 (by decide) rfl ⟨rfl, by omega, by decide⟩ ?_
    refine km_last (pc := 80) d_M_crash_80 (by decide) rfl ⟨rfl, by omega, by decide⟩ ?_
    refine kx_iinc (pc := 81) (y := nI (q + 1)) (lv' := [(2, _), (1, _), (0, _)]) d_M_crash_81 rfl (nI_1 q) (by decide) rfl ?_
    refine kx_goto (pc := 84) (tgt := 53) d_M_crash_84 (by decide) ?_
    exact hnext
set_option maxHeartbeats 4000000 in
set_option maxRecDepth 100000 in
theorem k_mcrS_loop {E : kx_E} {n : Nat} {a : kW} {x : Int32} (m : Nat) : ∀ (i : Nat) (b : kW), i + m = 8 → b.2.2 61 1 = x → ∀ {Q : kx_Q}, Q (Sum.inl (some (.int x))) n (wd (wx a (g_crS x m i b))) → kx_V E i_M_crash 3 0 0 Q 0 0 107 [(1, .int (nI i)), (0, .ref 61)] [] n (wd (wx a b)) := by
  induction m with
  | zero =>
    intro i b hm hx Q hQ
    have h8 : i = 8 := by omega
    subst h8
    refine kx_iload_n (pc := 107) d_M_crash_107 rfl ?_
    refine kx_bipush (pc := 108) (x := 8) d_M_crash_108 (by decide) ?_
    refine kx_eqi (show (8 : Int32) = nI 8 from rfl) ?_
    refine kx_icmp_ge (pc := 110) (tgt := 151) d_M_crash_110 (by decide) (fun _ => ?_) (fun hz => absurd (nI_le (Nat.le_refl 8) (by omega)) hz)
    refine kx_aload_n (pc := 151) d_M_crash_151 rfl ?_
    refine km_geti (pc := 152) d_M_crash_152 fl_M_63 (by decide) rfl (by decide) rfl ?_
    refine kx_eqi hx ?_
    exact kx_iret rfl d_M_crash_155 hQ
  | succ m ih =>
    intro i b hm hx Q hQ
    have hlt : i < 8 := by omega
    have hn := ih (i + 1) (ui b 76 i (if b.1 77 i < x then b.1 77 i else x)) (by omega) hx hQ
    refine kx_iload_n (pc := 107) d_M_crash_107 rfl ?_
    refine kx_bipush (pc := 108) (x := 8) d_M_crash_108 (by decide) ?_
    refine kx_eqi (show (8 : Int32) = nI 8 from rfl) ?_
    refine kx_icmp_ge (pc := 110) (tgt := 151) d_M_crash_110 (by decide) (fun hz => absurd hz (nI_ge hlt (by omega))) (fun _ => ?_)
    refine kx_aload_n (pc := 113) d_M_crash_113 rfl ?_
    refine kw_getr (pc := 114) (r := 76) d_M_crash_114 fl_M_53 rfl (by decide) rfl ?_
    refine kx_iload_n (pc := 117) d_M_crash_117 rfl ?_
    refine kx_aload_n (pc := 118) d_M_crash_118 rfl ?_
    refine kw_getr (pc := 119) (r := 77) d_M_crash_119 fl_M_56 rfl (by decide) rfl ?_
    refine kx_iload_n (pc := 122) d_M_crash_122 rfl ?_
    refine km_iald (pc := 123) d_M_crash_123 (by decide) rfl ⟨rfl, hlt, by decide⟩ ?_
    refine kx_aload_n (pc := 124) d_M_crash_124 rfl ?_
    refine km_geti (pc := 125) d_M_crash_125 fl_M_63 (by decide) rfl (by decide) rfl ?_
    refine kx_eqi hx ?_
    refine kx_icmp_ge (pc := 128) (tgt := 140) d_M_crash_128 (by decide) (fun hy => ?_) (fun hy => ?_)
    · rw [if_neg (Int32.not_lt.mpr hy)] at hn
      refine kx_aload_n (pc := 140) d_M_crash_140 rfl ?_
      refine km_geti (pc := 141) d_M_crash_141 fl_M_63 (by decide) rfl (by decide) rfl ?_
      refine kx_eqi hx ?_
      refine km_iast (pc := 144) d_M_crash_144 (by decide) rfl ⟨rfl, hlt, by decide⟩ ?_
      refine kx_iinc (pc := 145) (y := nI (i + 1)) (lv' := [(1, _), (0, _)]) d_M_crash_145 rfl (nI_1 i) (by decide) rfl ?_
      refine kx_goto (pc := 148) (tgt := 107) d_M_crash_148 (by decide) ?_
      exact hn
    · rw [if_pos (Int32.not_le.mp hy)] at hn
      refine kx_aload_n (pc := 131) d_M_crash_131 rfl ?_
      refine kw_getr (pc := 132) (r := 77) d_M_crash_132 fl_M_56 rfl (by decide) rfl ?_
      refine kx_iload_n (pc := 135) d_M_crash_135 rfl ?_
      refine km_iald (pc := 136) d_M_crash_136 (by decide) rfl ⟨rfl, hlt, by decide⟩ ?_
      refine kx_goto (pc := 137) (tgt := 144) d_M_crash_137 (by decide) ?_
      refine km_iast (pc := 144) d_M_crash_144 (by decide) rfl ⟨rfl, hlt, by decide⟩ ?_
      refine kx_iinc (pc := 145) (y := nI (i + 1)) (lv' := [(1, _), (0, _)]) d_M_crash_145 rfl (nI_1 i) (by decide) rfl ?_
      refine kx_goto (pc := 148) (tgt := 107) d_M_crash_148 (by decide) ?_
      exact hn
set_option maxHeartbeats 4000000 in
set_option maxRecDepth 100000 in
theorem k_mcrP_loop {E : kx_E} {a : kW} {x : Int32} (m : Nat) : ∀ (i : Nat) (b : kW), i + m = 8 → b.2.2 61 1 = x → ∀ {Q : kx_Q}, (∀ n, Q (Sum.inl (some (.int x))) n (wd (wx a (g_crS x 8 0 (g_crP x m i b))))) → ∀ n, kx_V E i_M_crash 3 0 0 Q 0 0 15 [(1, .int (nI i)), (0, .ref 61)] [] n (wd (wx a b)) := by
  induction m with
  | zero =>
    intro i b hm hx Q hQ n
    have h8 : i = 8 := by omega
    subst h8
    refine kx_iload_n (pc := 15) d_M_crash_15 rfl ?_
    refine kx_bipush (pc := 16) (x := 8) d_M_crash_16 (by decide) ?_
    refine kx_eqi (show (8 : Int32) = nI 8 from rfl) ?_
    refine kx_icmp_ge (pc := 18) (tgt := 105) d_M_crash_18 (by decide) (fun _ => ?_) (fun hz => absurd (nI_le (Nat.le_refl 8) (by omega)) hz)
    refine kx_iconst (pc := 105) (x := 0) d_M_crash_105 (by decide) ?_
    refine kx_eqi (show (0 : Int32) = nI 0 from rfl) ?_
    refine kx_istore_n (pc := 106) (lv' := [(1, _), (0, _)]) d_M_crash_106 rfl (by decide) rfl ?_
    exact k_mcrS_loop 8 0 b rfl hx (hQ _)
  | succ m ih =>
    intro i b hm hx Q hQ n
    have hlt : i < 8 := by omega
    have hn : ∀ n, kx_V E i_M_crash 3 0 0 Q 0 0 15 [(1, .int (nI (i + 1))), (0, .ref 61)] [] n (wd (wx a (g_rec b i x))) := fun n => ih (i + 1) (g_rec b i x) (by omega) (by rw [g_rec_o]; exact hx) hQ n
    have h99 : ∀ n, kx_V E i_M_crash 3 0 0 Q 0 0 99 [(1, .int (nI i)), (0, .ref 61)] [] n (wd (wx a (g_rec b i x))) := by
      intro n
      refine kx_iinc (pc := 99) (y := nI (i + 1)) (lv' := [(1, _), (0, _)]) d_M_crash_99 rfl (nI_1 i) (by decide) rfl ?_
      refine kx_goto (pc := 102) (tgt := 15) d_M_crash_102 (by decide) ?_
      exact hn _
    have hb : (b.1 72 i < 0 ∨ x < b.1 73 i) → ∀ n, kx_V E i_M_crash 3 0 0 Q 0 0 43 [(1, .int (nI i)), (0, .ref 61)] [] n (wd (wx a b)) := by
      intro hc n
      have e0 : g_rec b i x = g_begin b i := if_pos hc
      rw [e0] at h99
      refine kx_aload_n (pc := 43) d_M_crash_43 rfl ?_
      refine kx_iload_n (pc := 44) d_M_crash_44 rfl ?_
      refine kx_invV (pc := 45) (as := [.int _]) (st := []) (k := 0) (j := 0) d_M_crash_45 wv_M_86 (wd_o rfl) (k_begin (a := a) (b := b) hlt) rfl rfl (Nat.le_of_ble_eq_true rfl) (by decide) (Nat.le_of_ble_eq_true rfl) (fun rv n' h' hq => ?_) (fun X n' h' hq => nomatch hq.2)
      obtain ⟨rfl, hq⟩ := hq
      cases hq
      refine kx_goto (pc := 48) (tgt := 99) d_M_crash_48 (by decide) ?_
      exact h99 _
    refine kx_iload_n (pc := 15) d_M_crash_15 rfl ?_
    refine kx_bipush (pc := 16) (x := 8) d_M_crash_16 (by decide) ?_
    refine kx_eqi (show (8 : Int32) = nI 8 from rfl) ?_
    refine kx_icmp_ge (pc := 18) (tgt := 105) d_M_crash_18 (by decide) (fun hz => absurd hz (nI_ge hlt (by omega))) (fun _ => ?_)
    refine kx_aload_n (pc := 21) d_M_crash_21 rfl ?_
    refine kw_getr (pc := 22) (r := 72) d_M_crash_22 fl_M_41 rfl (by decide) rfl ?_
    refine kx_iload_n (pc := 25) d_M_crash_25 rfl ?_
    refine km_iald (pc := 26) d_M_crash_26 (by decide) rfl ⟨rfl, hlt, by decide⟩ ?_
    refine kx_if_lt (pc := 27) (tgt := 43) d_M_crash_27 (by decide) (fun hy => ?_) (fun hy => ?_)
    · exact hb (Or.inl hy) _
    · refine kx_aload_n (pc := 30) d_M_crash_30 rfl ?_
      refine kw_getr (pc := 31) (r := 73) d_M_crash_31 fl_M_44 rfl (by decide) rfl ?_
      refine kx_iload_n (pc := 34) d_M_crash_34 rfl ?_
      refine km_iald (pc := 35) d_M_crash_35 (by decide) rfl ⟨rfl, hlt, by decide⟩ ?_
      refine kx_aload_n (pc := 36) d_M_crash_36 rfl ?_
      refine km_geti (pc := 37) d_M_crash_37 fl_M_63 (by decide) rfl (by decide) rfl ?_
      refine kx_eqi hx ?_
      refine kx_icmp_le (pc := 40) (tgt := 51) d_M_crash_40 (by decide) (fun hz => ?_) (fun hz => ?_)
      · have e0 : g_rec b i x = ui (uL b 67 (g_copy (b.2.1 68) (b.2.1 67) i 16)) 71 i (b.1 72 i) := if_neg (fun w => w.elim hy (fun w2 => Int32.not_lt.mpr hz w2))
        rw [e0] at h99
        refine kx_iconst (pc := 51) (x := 0) d_M_crash_51 (by decide) ?_
        refine kx_eqi (show (0 : Int32) = nI 0 from rfl) ?_
        refine kx_istore_n (pc := 52) (lv' := [(2, _), (1, _), (0, _)]) d_M_crash_52 rfl (by decide) rfl ?_
        exact k_mcr_in hlt (b.2.1 68) (b.2.1 67) 16 0 b rfl rfl rfl (h99 _)
      · exact hb (Or.inr (Int32.not_le.mp hz)) _
set_option maxHeartbeats 4000000 in
set_option maxRecDepth 100000 in
theorem k_mcrash {E : kx_E} {n : Nat} {a b : kW} : kx_V E i_M_crash 3 0 0 (fun r _ h' => h' = wd (wx a (m_crash b)) ∧ r = Sum.inl (some (.int (b.2.2 61 2)))) 0 0 0 (lv_args 0 [.ref 61]) [] n (wd (wx a b)) := by
  refine kx_aload_n (pc := 0) d_M_crash_0 rfl ?_
  refine kx_iconst (pc := 1) (x := 0) d_M_crash_1 (by decide) ?_
  refine km_puti (pc := 2) d_M_crash_2 fl_M_59 fw_M_0 (by decide) rfl (by decide) rfl ?_
  refine kx_aload_n (pc := 5) d_M_crash_5 rfl ?_
  refine kx_aload_n (pc := 6) d_M_crash_6 rfl ?_
  refine km_geti (pc := 7) d_M_crash_7 fl_M_99 (by decide) rfl (by decide) rfl ?_
  refine km_puti (pc := 10) d_M_crash_10 fl_M_63 fw_M_1 (by decide) rfl (by decide) rfl ?_
  refine kx_iconst (pc := 13) (x := 0) d_M_crash_13 (by decide) ?_
  refine kx_eqi (show (0 : Int32) = nI 0 from rfl) ?_
  refine kx_istore_n (pc := 14) (lv' := [(1, _), (0, _)]) d_M_crash_14 rfl (by decide) rfl ?_
  exact k_mcrP_loop 8 0 (uo (uo b 61 0 0) 61 1 (b.2.2 61 2)) rfl uo_s (fun _ => ⟨rfl, rfl⟩) _
