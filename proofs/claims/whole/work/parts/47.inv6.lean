theorem Inv.safe {a b : kW} {u : Nat} (hu : u < 8) (h : Inv a b) : Inv (f_safe a u) (ui b 77 u (b.1 76 u)) := by
  obtain ⟨sz, du, hL, hP, hS⟩ := h
  have o : ∀ i j, i ≠ 53 + u → (f_safe a u).2.2 i j = a.2.2 i j := fun i j hi => by unfold f_safe; rw [uo_n hi]
  refine ⟨sz, du, LgI.cg (a := a) (b := b) (o _ _ (by omega)) (o _ _ (by omega)) (fun _ _ => rfl) rfl rfl rfl rfl rfl rfl rfl rfl hL, fun y hy => PjI.cg (a := a) (b := b) (fun k => o _ _ (by omega)) rfl rfl rfl rfl (fun _ _ => rfl) (fun _ _ => rfl) (fun _ _ => rfl) (fun _ _ => rfl) rfl rfl rfl (hP y hy), fun y hy => ?_⟩
  by_cases e : y = u
  · subst e
    obtain ⟨⟨c1, c2⟩, c3, ⟨q, hq, c4, c5⟩, c6⟩ := hS y hy
    have m1 : ∀ j, j ≠ 3 → (f_safe a y).2.2 (53 + y) j = a.2.2 (53 + y) j := fun j hj => by unfold f_safe; rw [uo_k hj]
    refine ⟨⟨(m1 0 (by decide)).trans c1, c2⟩, ?_, ⟨q, hq, (m1 2 (by decide)).trans c4, c5⟩, ⟨q, hq, ?_, ?_⟩⟩
    · rw [m1 1 (by decide)]; exact c3
    · unfold f_safe; rw [uo_s]; exact c4
    · rw [ui_s]; exact c5
  · refine SbI.cg (a := a) (b := b) (fun k => o _ _ (by omega)) rfl rfl rfl ?_ (hS y hy)
    rw [ui_k e]
theorem syncL_eq : ∀ (m i : Nat) (a b : kW), i + m = 8 → Inv a b → Inv (f_syncL m i a) (g_syncL m i b) ∧ (g_syncL m i b).2 = b.2
  | 0, _, _, _, _, h => ⟨h, rfl⟩
  | m + 1, i, a, b, hm, h => by
    obtain ⟨r1, r2⟩ := syncL_eq m (i + 1) (f_safe a i) (ui b 77 i (b.1 76 i)) (by omega) (h.safe (by omega))
    exact ⟨r1, r2⟩
theorem R_sync {a b : kW} (h : Inv a b) : Inv (s_sync a) (m_sync b) ∧ (m_sync b).2.1 78 = b.2.1 78 ∧ a.2.2 1 9 = b.2.2 61 1 := by
  obtain ⟨sz, du, hL, hP, hS⟩ := h
  have h0 : Inv (uo a 1 10 (a.2.2 1 9)) (uo (uo b 61 0 0) 61 2 (b.2.2 61 1)) := by
    refine ⟨sz, sz, ?_, fun y hy => PjI.cg (a := a) (b := b) (fun k => by rw [uo_n (by omega)]) rfl rfl rfl rfl (fun _ _ => rfl) (fun _ _ => rfl) (fun _ _ => rfl) (fun _ _ => rfl) rfl rfl rfl (hP y hy), fun y hy => SbI.cg (a := a) (b := b) (fun k => by rw [uo_n (by omega)]) rfl rfl rfl rfl (hS y hy)⟩
    obtain ⟨⟨l1, l2, l3, l4, l5, l6⟩, rest⟩ := hL
    exact ⟨⟨l1, uo_s.trans l1, l3, uo_s.trans l3, Nat.le_refl _, l6⟩, rest⟩
  obtain ⟨r1, r2⟩ := syncL_eq 8 0 _ _ rfl h0
  refine ⟨r1, ?_, hL.1.1.trans hL.1.2.2.1.symm⟩
  unfold m_sync
  rw [r2]
  rfl
theorem drop_eq {st ki co ca : Nat → Int32} {sz du : Nat} (hA : LgA st ki co ca sz) (hU : LgU co ca sz) (h5 : sz ≤ 500) : ∀ (m q : Nat) (a : kW), q + m = sz → du ≤ q → (∀ k, k < sz → a.1 2 k = st k ∧ a.1 6 k = co k ∧ a.1 7 k = ca k) → CrS (a.1 9) st du q sz → CrE (a.1 10) co du q sz → CrB (a.1 8) co ca du q sz →
    CrS ((f_drop m q a).1 9) st du sz sz ∧ CrE ((f_drop m q a).1 10) co du sz sz ∧ CrB ((f_drop m q a).1 8) co ca du sz sz ∧ (∀ i, i ≠ 8 → i ≠ 9 → i ≠ 10 → (f_drop m q a).1 i = a.1 i) ∧ (f_drop m q a).2 = a.2
  | 0, q, a, hm, hd, he, h1, h2, h3 => by
    have e : q = sz := by omega
    subst e
    exact ⟨h1, h2, h3, fun _ _ _ _ => rfl, rfl⟩
  | m + 1, q, a, hm, hd, he, h1, h2, h3 => by
    have hlt : q < sz := by omega
    obtain ⟨⟨s, hs, es⟩, -, hc⟩ := hA q hlt
    obtain ⟨e1, e2, e3⟩ := he q hlt
    have ns : nt (a.1 2 q) = s := by rw [e1, es]; exact nt_nI (by omega)
    have key : CrS ((f_drop1 a q).1 9) st du (q + 1) sz ∧ CrE ((f_drop1 a q).1 10) co du (q + 1) sz ∧ CrB ((f_drop1 a q).1 8) co ca du (q + 1) sz ∧ (∀ i, i ≠ 8 → i ≠ 9 → i ≠ 10 → (f_drop1 a q).1 i = a.1 i) ∧ (f_drop1 a q).2 = a.2 := by
      unfold f_drop1
      rw [ns]
      rcases hc with hc | ⟨p, c, hp, hcq, ec1, ec2⟩
      · rw [if_pos (e2.trans hc)]
        exact ⟨h1.step hd hlt hs es, h2.skip hc, h3.skip hlt hc, fun i _ i9 _ => ui_n i9, rfl⟩
      · have hne : ¬ a.1 6 q = -1 := by rw [e2, ec1]; exact fun w => nI_m1 (by omega) w.symm
        rw [if_neg hne]
        have n6 : nt ((ui a 9 s (a.1 9 s - 1)).1 6 q) = p := by
          show nt (a.1 6 q) = p
          rw [e2, ec1]; exact nt_nI (by omega)
        have n7 : nt ((ui a 9 s (a.1 9 s - 1)).1 7 q) = c := by
          show nt (a.1 7 q) = c
          rw [e3, ec2]; exact nt_nI (by omega)
        unfold f_forget
        rw [n6, n7]
        exact ⟨h1.step hd hlt hs es, h2.step hd hlt hp ec1, h3.step hU hd hlt h5 hp (by omega) ec1 ec2, fun i i8 i9 i10 => by rw [ui_n i10, ui_n i8, ui_n i9], rfl⟩
    obtain ⟨k1, k2, k3, k4, k5⟩ := key
    obtain ⟨r1, r2, r3, r4, r5⟩ := drop_eq hA hU h5 m (q + 1) (f_drop1 a q) (by omega) (by omega) (fun k hk => by rw [k4 2 (by decide) (by decide) (by decide), k4 6 (by decide) (by decide) (by decide), k4 7 (by decide) (by decide) (by decide)]; exact he k hk) k1 k2 k3
    exact ⟨r1, r2, r3, fun i i8 i9 i10 => (r4 i i8 i9 i10).trans (k4 i i8 i9 i10), r5.trans k5⟩
theorem Inv.rec {a b : kW} {p du : Nat} (hp : p < 8) (h5 : du ≤ 500) (h : Inv a b) : Inv (f_recover a p (nI du)) (g_rec b p (nI du)) ∧ (g_rec b p (nI du)).2.1 78 = b.2.1 78 ∧ (g_rec b p (nI du)).2.2 = b.2.2 := by
  obtain ⟨sz, d2, hL, hP, hS⟩ := id h
  obtain ⟨k1, k2, k3, k4, k5⟩ := id (hP p hp)
  unfold f_recover g_rec
  have over : (a.2.2 (12 + 5 * p) 7 = -1 ∨ nI du < a.2.2 (12 + 5 * p) 7) → (b.1 72 p < 0 ∨ nI du < b.1 73 p) → Inv (if a.2.2 (12 + 5 * p) 7 = -1 ∨ nI du < a.2.2 (12 + 5 * p) 7 then f_over a p else uo (uL a (12 + 5 * p + 3) (va_cpy (a.2.1 (12 + 5 * p + 4)) (a.2.1 (12 + 5 * p + 3)) 0 0 16)) (12 + 5 * p) 4 (a.2.2 (12 + 5 * p) 6)) (if b.1 72 p < 0 ∨ nI du < b.1 73 p then g_begin b p else ui (uL b 67 (g_copy (b.2.1 68) (b.2.1 67) p 16)) 71 p (b.1 72 p)) ∧ (if b.1 72 p < 0 ∨ nI du < b.1 73 p then g_begin b p else ui (uL b 67 (g_copy (b.2.1 68) (b.2.1 67) p 16)) 71 p (b.1 72 p)).2.1 78 = b.2.1 78 ∧ (if b.1 72 p < 0 ∨ nI du < b.1 73 p then g_begin b p else ui (uL b 67 (g_copy (b.2.1 68) (b.2.1 67) p 16)) 71 p (b.1 72 p)).2.2 = b.2.2 := by
    intro w1 w2
    rw [if_pos w1, if_pos w2]
    exact ⟨h.over hp, rfl, rfl⟩
  rcases k5 with ⟨c1, c2⟩ | ⟨x, y, hx, hy, c1, c2, c3, c4⟩
  · exact over (Or.inl c1) (Or.inl (by rw [c2]; decide))
  · by_cases w : nI du < nI y
    · exact over (Or.inr (by rw [c3]; exact w)) (Or.inr (by rw [c4]; exact w))
    · rw [if_neg (by rw [c3]; exact fun t => t.elim (fun t => nI_m1 (by omega) t.symm) w), if_neg (by rw [c2, c4]; exact fun t => t.elim (nI_pos (by omega)) w)]
      rw [c1, c2]
      have o : ∀ i j, i ≠ 12 + 5 * p → (uo (uL a (12 + 5 * p + 3) (va_cpy (a.2.1 (12 + 5 * p + 4)) (a.2.1 (12 + 5 * p + 3)) 0 0 16)) (12 + 5 * p) 4 (nI x)).2.2 i j = a.2.2 i j := fun i j hi => by rw [uo_n hi]; rfl
      have ol : ∀ i, i ≠ 12 + 5 * p + 3 → (uo (uL a (12 + 5 * p + 3) (va_cpy (a.2.1 (12 + 5 * p + 4)) (a.2.1 (12 + 5 * p + 3)) 0 0 16)) (12 + 5 * p) 4 (nI x)).2.1 i = a.2.1 i := fun i hi => by
        show (if i = 12 + 5 * p + 3 then _ else _) = _
        rw [if_neg hi]
      refine ⟨⟨sz, d2, LgI.cg (a := a) (b := b) (o _ _ (by omega)) (o _ _ (by omega)) (fun _ _ => rfl) (ol _ (by omega)) rfl rfl rfl rfl rfl rfl rfl hL, fun z hz => ?_, fun u hu => SbI.cg (a := a) (b := b) (fun k => o _ _ (by omega)) rfl rfl rfl rfl (hS u hu)⟩, rfl, rfl⟩
      by_cases e : z = p
      · subst e
        have m1 : ∀ j, j ≠ 4 → (uo (uL a (12 + 5 * z + 3) (va_cpy (a.2.1 (12 + 5 * z + 4)) (a.2.1 (12 + 5 * z + 3)) 0 0 16)) (12 + 5 * z) 4 (nI x)).2.2 (12 + 5 * z) j = a.2.2 (12 + 5 * z) j := fun j hj => by rw [uo_k hj]; rfl
        refine ⟨(m1 0 (by decide)).trans k1, k2, fun k hk => ⟨?_, ?_⟩, ⟨x, hx, uo_s, ui_s⟩, Or.inr ⟨x, y, hx, hy, (m1 6 (by decide)).trans c1, c2, (m1 7 (by decide)).trans c3, c4⟩⟩
        · show (if 12 + 5 * z + 3 = 12 + 5 * z + 3 then va_cpy (a.2.1 (12 + 5 * z + 4)) (a.2.1 (12 + 5 * z + 3)) 0 0 16 else _) k = g_copy (b.2.1 68) (b.2.1 67) z 16 (16 * z + k)
          rw [if_pos rfl, g_copy_in hk, ← (k3 k hk).2]
          show (if 0 ≤ k ∧ k < 0 + 16 then _ else _) = _
          rw [if_pos ⟨by omega, by omega⟩]
          show a.2.1 (12 + 5 * z + 4) (0 + (k - 0)) = _
          rw [Nat.zero_add, Nat.sub_zero]
        · rw [ol _ (by omega)]; exact (k3 k hk).2
      · refine PjI.cg (a := a) (b := b) (fun k => o _ _ (by omega)) rfl rfl (ol _ (by omega)) (ol _ (by omega)) (fun _ _ => rfl) (fun _ _ => rfl) (fun k hk => ?_) (fun _ _ => rfl) ?_ rfl rfl (hP z hz)
        · show g_copy (b.2.1 68) (b.2.1 67) p 16 (16 * z + k) = _
          exact g_copy_out (fun k' hk' => by omega)
        · rw [ui_k e]; rfl
theorem Inv.srec {a b : kW} {u du : Nat} (hu : u < 8) (h5 : du ≤ 500) (h : Inv a b) : Inv (f_srec a u (nI du)) (ui b 76 u (if b.1 77 u < nI du then b.1 77 u else nI du)) := by
  obtain ⟨sz, d2, hL, hP, hS⟩ := h
  have o : ∀ i j, i ≠ 53 + u → (f_srec a u (nI du)).2.2 i j = a.2.2 i j := fun i j hi => by unfold f_srec; rw [uo_n hi]
  refine ⟨sz, d2, LgI.cg (a := a) (b := b) (o _ _ (by omega)) (o _ _ (by omega)) (fun _ _ => rfl) rfl rfl rfl rfl rfl rfl rfl rfl hL, fun y hy => PjI.cg (a := a) (b := b) (fun k => o _ _ (by omega)) rfl rfl rfl rfl (fun _ _ => rfl) (fun _ _ => rfl) (fun _ _ => rfl) (fun _ _ => rfl) rfl rfl rfl (hP y hy), fun y hy => ?_⟩
  by_cases e : y = u
  · subst e
    obtain ⟨⟨c1, c2⟩, c3, c4, ⟨q, hq, c5, c6⟩⟩ := hS y hy
    have m1 : ∀ j, j ≠ 2 → (f_srec a y (nI du)).2.2 (53 + y) j = a.2.2 (53 + y) j := fun j hj => by unfold f_srec; rw [uo_k hj]
    have v1 : (f_srec a y (nI du)).2.2 (53 + y) 2 = nI (min du q) := by
      unfold f_srec
      rw [uo_s, c5]
      by_cases w : du < q
      · rw [if_pos (nI_lt w (by omega)), Nat.min_eq_left (by omega)]
      · rw [if_neg (nI_nlt (by omega) (by omega)), Nat.min_eq_right (by omega)]
    have v2 : (if b.1 77 y < nI du then b.1 77 y else nI du) = nI (min du q) := by
      rw [c6]
      by_cases w : q < du
      · rw [if_pos (nI_lt w (by omega)), Nat.min_eq_right (by omega)]
      · rw [if_neg (nI_nlt (by omega) (by omega)), Nat.min_eq_left (by omega)]
    refine ⟨⟨(m1 0 (by decide)).trans c1, c2⟩, ?_, ⟨min du q, by omega, v1, ui_s.trans v2⟩, ⟨q, hq, (m1 3 (by decide)).trans c5, c6⟩⟩
    rw [m1 1 (by decide)]; exact c3
  · refine SbI.cg (a := a) (b := b) (fun k => o _ _ (by omega)) rfl rfl ?_ rfl (hS y hy)
    rw [ui_k e]
theorem crP_eq {du : Nat} (h5 : du ≤ 500) : ∀ (m i : Nat) (a b : kW), i + m = 8 → Inv a b → Inv (f_crP (nI du) m i a) (g_crP (nI du) m i b) ∧ (g_crP (nI du) m i b).2.1 78 = b.2.1 78 ∧ (g_crP (nI du) m i b).2.2 = b.2.2
  | 0, _, _, _, _, h => ⟨h, rfl, rfl⟩
  | m + 1, i, a, b, hm, h => by
    obtain ⟨s1, s2, s3⟩ := h.rec (p := i) (by omega) h5
    obtain ⟨r1, r2, r3⟩ := crP_eq h5 m (i + 1) _ _ (by omega) s1
    exact ⟨r1, r2.trans s2, r3.trans s3⟩
theorem crS_eq {du : Nat} (h5 : du ≤ 500) : ∀ (m i : Nat) (a b : kW), i + m = 8 → Inv a b → Inv (f_crS (nI du) m i a) (g_crS (nI du) m i b) ∧ (g_crS (nI du) m i b).2 = b.2
  | 0, _, _, _, _, h => ⟨h, rfl⟩
  | m + 1, i, a, b, hm, h => by
    obtain ⟨r1, r2⟩ := crS_eq h5 m (i + 1) _ _ (by omega) (h.srec (u := i) (by omega) h5)
    exact ⟨r1, r2⟩
theorem R_crash {a b : kW} {sz du : Nat} (hL : LgI a b sz du) (hP : ∀ p, p < 8 → PjI a b p) (hS : ∀ u, u < 8 → SbI a b u) : Inv (s_crash a sz du) (m_crash b) ∧ (m_crash b).2.1 78 = b.2.1 78 ∧ b.2.2 61 2 = nI du := by
  obtain ⟨⟨v1, v2, v3, v4, v5, v6⟩, hE, hA, hV, hSS, hEE, hB, hU⟩ := id hL
  obtain ⟨d1, d2, d3, d4, d5⟩ := drop_eq (du := du) hA hU v6 (sz - du) du a (by omega) (Nat.le_refl _) (fun k hk => ⟨(hE k hk).1, (hE k hk).2.2.2.1, (hE k hk).2.2.2.2⟩) (CrS.start hSS) (CrE.start hEE) (CrB.start hB v5)
  have o : ∀ i j, i ≠ 1 → (uo (f_drop (sz - du) du a) 1 9 (nI du)).2.2 i j = a.2.2 i j := fun i j hi => by rw [uo_n hi, d5]
  have h0 : Inv (uo (f_drop (sz - du) du a) 1 9 (nI du)) (uo (uo b 61 0 0) 61 1 (nI du)) := by
    refine ⟨du, du, ⟨⟨uo_s, ?_, uo_s, v4, Nat.le_refl _, by omega⟩, fun k hk => ?_, hA.less v5, ?_, CrS.done d1 v5, CrE.done d2 v5, CrB.done d3, hU.less v5⟩, fun y hy => ?_, fun u hu => SbI.cg (a := a) (b := b) (fun k => o _ _ (by omega)) rfl rfl rfl rfl (hS u hu)⟩
    · rw [uo_k (by decide), d5]; exact v2
    · show (f_drop (sz - du) du a).1 2 k = b.1 62 k ∧ (f_drop (sz - du) du a).1 4 k = b.1 63 k ∧ (f_drop (sz - du) du a).2.1 5 k = b.2.1 66 k ∧ (f_drop (sz - du) du a).1 6 k = b.1 64 k ∧ (f_drop (sz - du) du a).1 7 k = b.1 65 k
      rw [d4 2 (by decide) (by decide) (by decide), d4 4 (by decide) (by decide) (by decide), d4 6 (by decide) (by decide) (by decide), d4 7 (by decide) (by decide) (by decide), d5]
      exact hE k (by omega)
    · show LgV ((f_drop (sz - du) du a).1 3) (b.1 62) du
      rw [d4 3 (by decide) (by decide) (by decide)]
      exact hV.less v5
    · refine PjI.cg (a := a) (b := b) (fun k => o _ _ (by omega)) (d4 _ (by omega) (by omega) (by omega)) (d4 _ (by omega) (by omega) (by omega)) ?_ ?_ (fun _ _ => rfl) (fun _ _ => rfl) (fun _ _ => rfl) (fun _ _ => rfl) rfl rfl rfl (hP y hy)
      · show (f_drop (sz - du) du a).2.1 _ = _
        rw [d5]
      · show (f_drop (sz - du) du a).2.1 _ = _
        rw [d5]
  obtain ⟨r1, r2, r3⟩ := crP_eq (du := du) (by omega) 8 0 _ _ rfl h0
  obtain ⟨q1, q2⟩ := crS_eq (du := du) (by omega) 8 0 _ _ rfl r1
  unfold m_crash s_crash
  rw [v4]
  exact ⟨q1, by rw [q2]; exact r2, rfl⟩
