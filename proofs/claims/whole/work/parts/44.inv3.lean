theorem R_save {a b : kW} (h : Inv a b) (x1 : Int32) : Rel cI (s_save a x1) (some (.int (m_save b x1).1)) b (m_save b x1).2 := by
  obtain ⟨sz, du, hL, hP, hS⟩ := id h
  unfold s_save m_save
  simp only [i_8]
  by_cases g1 : 0 ≤ x1 ∧ x1 ≤ 7
  · rw [if_pos g1, if_pos g1]
    obtain ⟨p, hp8, rfl, np⟩ := nI_gl (N := 7) (by decide) g1
    rw [np]
    obtain ⟨k1, k2, k3, ⟨q, hq, k4, k4'⟩, k5⟩ := id (hP p (by omega))
    have o : ∀ i k, i ≠ 12 + 5 * p → (f_keep a p (a.2.2 1 9)).2.2 i k = a.2.2 i k := fun i k hi => by unfold f_keep; rw [uo_n hi, uo_n hi]; rfl
    have ol : ∀ i, i ≠ 12 + 5 * p + 4 → (f_keep a p (a.2.2 1 9)).2.1 i = a.2.1 i := fun i hi => by
      show (if i = 12 + 5 * p + 4 then _ else _) = _
      rw [if_neg hi]
    refine ⟨⟨sz, du, LgI.cg (a := a) (b := b) (o _ _ (by omega)) (o _ _ (by omega)) (fun _ _ => rfl) (ol _ (by omega)) rfl rfl rfl rfl rfl rfl rfl hL, fun z hz => ?_, fun u hu => SbI.cg (a := a) (b := b) (fun k => o _ _ (by omega)) rfl rfl rfl rfl (hS u hu)⟩, rfl, Or.inl ⟨by rw [k4, k4'], rfl⟩⟩
    by_cases e : z = p
    · subst e
      have m1 : ∀ k, k ≠ 6 → k ≠ 7 → (f_keep a z (a.2.2 1 9)).2.2 (12 + 5 * z) k = a.2.2 (12 + 5 * z) k := fun k h6 h7 => by unfold f_keep; rw [uo_k h7, uo_k h6]; rfl
      refine ⟨(m1 0 (by decide) (by decide)).trans k1, k2, fun k hk => ⟨?_, ?_⟩, ⟨q, hq, (m1 4 (by decide) (by decide)).trans k4, k4'⟩, Or.inr ⟨q, sz, hq, hL.1.2.2.2.2.2, ?_, ?_, ?_, ?_⟩⟩
      · rw [ol _ (by omega)]; exact (k3 k hk).1
      · show (if 12 + 5 * z + 4 = 12 + 5 * z + 4 then va_cpy (a.2.1 (12 + 5 * z + 3)) (a.2.1 (12 + 5 * z + 4)) 0 0 16 else _) k = g_copy (b.2.1 67) (b.2.1 68) z 16 (16 * z + k)
        rw [if_pos rfl, g_copy_in hk, ← (k3 k hk).1]
        show (if 0 ≤ k ∧ k < 0 + 16 then _ else _) = _
        rw [if_pos ⟨by omega, by omega⟩]
        show a.2.1 (12 + 5 * z + 3) (0 + (k - 0)) = _
        rw [Nat.zero_add, Nat.sub_zero]
      · unfold f_keep
        rw [uo_k (by decide), uo_s]; exact k4
      · rw [ui_n (by decide), ui_s]; exact k4'
      · unfold f_keep
        rw [uo_s]; exact hL.1.1
      · rw [ui_s]; exact hL.1.2.2.1
    · refine PjI.cg (a := a) (b := b) (fun k => o _ _ (by omega)) rfl rfl (ol _ (by omega)) (ol _ (by omega)) (fun _ _ => rfl) (fun _ _ => rfl) (fun _ _ => rfl) (fun k hk => ?_) rfl ?_ ?_ (hP z hz)
      · show g_copy (b.2.1 67) (b.2.1 68) p 16 (16 * z + k) = _
        exact g_copy_out (fun k' hk' => by omega)
      · rw [ui_n (by decide), ui_k e]; rfl
      · rw [ui_k e]; rfl
  · rw [if_neg g1, if_neg g1]
    exact Rel.no h (by decide +kernel) (by decide)
theorem PjI.over {a b : kW} {p : Nat} (h : PjI a b p) : PjI (f_over a p) (g_begin b p) p := by
  obtain ⟨k1, k2, k3, k4, k5⟩ := h
  have m1 : ∀ k, k ≠ 4 → k ≠ 7 → (f_over a p).2.2 (12 + 5 * p) k = a.2.2 (12 + 5 * p) k := fun k h6 h7 => by unfold f_over; rw [uo_k h7, uo_k h6]; rfl
  refine ⟨(m1 0 (by decide) (by decide)).trans k1, k2, fun k hk => ⟨?_, ?_⟩, ⟨0, by decide, ?_, ?_⟩, Or.inl ⟨?_, ?_⟩⟩
  · show (if 12 + 5 * p + 3 = 12 + 5 * p + 3 then f_zero (a.2.1 (12 + 5 * p + 3)) 16 else _) k = g_zero (b.2.1 67) p 16 (16 * p + k)
    rw [if_pos rfl, f_zero_at hk, g_zero_in hk]
  · show (if 12 + 5 * p + 4 = 12 + 5 * p + 3 then _ else a.2.1 (12 + 5 * p + 4)) k = b.2.1 68 (16 * p + k)
    rw [if_neg (by omega)]; exact (k3 k hk).2
  · unfold f_over; rw [uo_k (by decide), uo_s]; rfl
  · unfold g_begin; rw [ui_n (by decide), ui_s]; rfl
  · unfold f_over; rw [uo_s]
  · unfold g_begin; rw [ui_s]
theorem over_o {a : kW} {p i k : Nat} (h : i ≠ 12 + 5 * p) : (f_over a p).2.2 i k = a.2.2 i k := by unfold f_over; rw [uo_n h, uo_n h]; rfl
theorem over_l {a : kW} {p i : Nat} (h : i ≠ 12 + 5 * p + 3) : (f_over a p).2.1 i = a.2.1 i := by
  show (if i = 12 + 5 * p + 3 then _ else _) = _
  rw [if_neg h]
theorem Inv.over {a b : kW} {p : Nat} (hp : p < 8) (h : Inv a b) : Inv (f_over a p) (g_begin b p) := by
  obtain ⟨sz, du, hL, hP, hS⟩ := h
  refine ⟨sz, du, LgI.cg (a := a) (b := b) (over_o (by omega)) (over_o (by omega)) (fun _ _ => rfl) (over_l (by omega)) rfl rfl rfl rfl rfl rfl rfl hL, fun z hz => ?_, fun u hu => SbI.cg (a := a) (b := b) (fun k => over_o (by omega)) rfl rfl rfl rfl (hS u hu)⟩
  by_cases e : z = p
  · subst e
    exact (hP z hz).over
  · refine PjI.cg (a := a) (b := b) (fun k => over_o (by omega)) rfl rfl (over_l (by omega)) (over_l (by omega)) (fun _ _ => rfl) (fun _ _ => rfl) (fun k hk => ?_) (fun _ _ => rfl) ?_ ?_ rfl (hP z hz)
    · show g_zero (b.2.1 67) p 16 (16 * z + k) = _
      exact g_zero_out (fun k' hk' => by omega)
    · unfold g_begin; rw [ui_n (by decide), ui_k e]; rfl
    · unfold g_begin; rw [ui_k e]; rfl
theorem R_rule {a b : kW} (h : Inv a b) (x1 x2 x3 x4 : Int32) : Rel cI (s_rule a x1 x2 x3 x4) none b (m_rule b x1 x2 x3 x4) := by
  have bad : Rel cI (Sum.inr "java/lang/IllegalArgumentException", a) none b (g_err b 1) := Rel.no h (by decide +kernel) (by decide)
  unfold s_rule m_rule
  simp only [i_8]
  by_cases g1 : 0 ≤ x1 ∧ x1 ≤ 7
  · rw [if_pos g1, if_pos g1]
    obtain ⟨p, hp8, rfl, np⟩ := nI_gl (N := 7) (by decide) g1
    by_cases g2 : 0 ≤ x2 ∧ x2 ≤ 7
    · rw [if_pos g2, if_pos g2]
      obtain ⟨t, ht8, rfl, n2⟩ := nI_gl (N := 7) (by decide) g2
      by_cases g3 : 0 ≤ x3 ∧ x3 ≤ 6
      · rw [if_pos g3, if_pos g3]
        obtain ⟨y, hy, rfl, -⟩ := nI_gl (N := 6) (by decide) g3
        by_cases g4 : 0 ≤ x4 ∧ x4 ≤ 2
        · rw [if_pos g4, if_pos g4]
          obtain ⟨w, hw, rfl, -⟩ := nI_gl (N := 2) (by decide) g4
          rw [np, n2]
          have hmid : Inv (ui (ui a (12 + 5 * p + 1) t (nI y)) (12 + 5 * p + 2) t (nI w)) (ui (ui (uo b 61 0 0) 69 (8 * p + t) (nI y)) 70 (8 * p + t) (nI w)) := by
            obtain ⟨sz, du, hL, hP, hS⟩ := id h
            have oi : ∀ i, i ≠ 12 + 5 * p + 1 → i ≠ 12 + 5 * p + 2 → (ui (ui a (12 + 5 * p + 1) t (nI y)) (12 + 5 * p + 2) t (nI w)).1 i = a.1 i := fun i h1 h2 => by rw [ui_n h2, ui_n h1]
            refine ⟨sz, du, LgI.cg (a := a) (b := b) rfl rfl (fun i hi => oi i (by omega) (by omega)) rfl rfl rfl rfl rfl rfl rfl rfl hL, fun z hz => ?_, hS⟩
            by_cases e : z = p
            · subst e
              obtain ⟨k1, k2, k3, k4, k5⟩ := hP z hz
              refine ⟨k1, fun t' ht' => ?_, k3, k4, k5⟩
              by_cases et : t' = t
              · subst et
                refine ⟨?_, ?_, ⟨y, hy, ?_⟩, w, hw, ?_⟩
                · rw [ui_n (by omega), ui_s, ui_n (by decide), ui_s]
                · rw [ui_s, ui_s]
                · rw [ui_n (by decide), ui_s]
                · rw [ui_s]
              · obtain ⟨j1, j2, j3, j4⟩ := k2 t' ht'
                rw [ui_n (a := 12 + 5 * z + 1) (by omega), ui_k et, ui_k et, ui_n (a := 12 + 5 * z + 2) (by omega), ui_n (a := 69) (by decide), ui_k (a := 8 * z + t') (by omega), ui_k (a := 8 * z + t') (by omega), ui_n (a := 70) (by decide)]
                exact ⟨j1, j2, j3, j4⟩
            · refine PjI.cg (a := a) (b := b) (fun _ => rfl) (oi _ (by omega) (by omega)) (oi _ (by omega) (by omega)) rfl rfl (fun t' ht' => ?_) (fun t' ht' => ?_) (fun _ _ => rfl) (fun _ _ => rfl) rfl rfl rfl (hP z hz)
              · rw [ui_n (by decide), ui_k (by omega)]; rfl
              · rw [ui_k (by omega), ui_n (by decide)]; rfl
          exact ⟨hmid.over (by omega), rfl, Or.inl ⟨rfl, rfl⟩⟩
        · rw [if_neg g4, if_neg g4]; exact bad
      · rw [if_neg g3, if_neg g3]; exact bad
    · rw [if_neg g2, if_neg g2]; exact bad
  · rw [if_neg g1, if_neg g1]; exact bad
