theorem R_ack {a b : kW} {sz du : Nat} (h : Inv a b) (hL : LgI a b sz du) (x1 x2 : Int32) : Rel cIO (s_ack a sz x1 x2) (some (.int (m_ack b sz x1 x2).1)) b (m_ack b sz x1 x2).2 := by
  obtain ⟨sz', du', hL', hP, hS⟩ := id h
  have h5 := hL.1.2.2.2.2.2
  unfold s_ack m_ack
  simp only [i_8, i_n x2 h5]
  by_cases g1 : 0 ≤ x1 ∧ x1 ≤ 7
  · rw [if_pos g1, if_pos g1]
    obtain ⟨p, hp8, rfl, np⟩ := nI_gl (N := 7) (by decide) g1
    by_cases g2 : 0 ≤ x2 ∧ x2 ≤ nI sz - 1
    · rw [if_pos g2, if_pos g2, np]
      obtain ⟨z, hz, rfl, nz⟩ := nI_lt1 (by omega) g2
      obtain ⟨⟨c1, c2⟩, c3, ⟨q, hq, e1, e2⟩, c4⟩ := id (hS p (by omega))
      have o : ∀ i k, i ≠ 53 + p → (f_pass a p (nI z)).2.2 i k = a.2.2 i k := fun i k hi => by unfold f_pass; rw [uo_n hi]
      rw [e1, e2, nI_1]
      by_cases w : z + 1 ≤ q
      · rw [if_neg (nI_nlt w (by omega)), if_pos (nI_le w (by omega))]
        refine ⟨⟨sz', du', LgI.cg (a := a) (b := b) (o _ _ (by omega)) (o _ _ (by omega)) (fun _ _ => rfl) rfl rfl rfl rfl rfl rfl rfl rfl hL', fun y hy => PjI.cg (a := a) (b := b) (fun k => o _ _ (by omega)) rfl rfl rfl rfl (fun _ _ => rfl) (fun _ _ => rfl) (fun _ _ => rfl) (fun _ _ => rfl) rfl rfl rfl (hP y hy), fun u hu => ?_⟩, rfl, Or.inl ⟨rfl, rfl⟩⟩
        by_cases e : u = p
        · subst e
          refine ⟨⟨?_, c2⟩, ?_, ⟨q, hq, ?_, e2⟩, ?_⟩
          · unfold f_pass; rw [uo_k (by decide)]; exact c1
          · unfold f_pass; rw [uo_k (by decide)]; exact c3
          · unfold f_pass; rw [uo_s, e1, nI_1, if_neg (nI_nlt w (by omega))]
          · unfold f_pass; rw [uo_k (by decide)]; exact c4
        · exact SbI.cg (a := a) (b := b) (fun k => o _ _ (by omega)) rfl rfl rfl rfl (hS u hu)
      · rw [if_pos (nI_lt (by omega) (by omega)), if_neg (fun t => nI_ge (show q < z + 1 by omega) (by omega) t)]
        refine ⟨⟨sz', du', LgI.cg (a := a) (b := b) (o _ _ (by omega)) (o _ _ (by omega)) (fun _ _ => rfl) rfl rfl rfl rfl rfl rfl rfl rfl hL', fun y hy => PjI.cg (a := a) (b := b) (fun k => o _ _ (by omega)) rfl rfl rfl rfl (fun _ _ => rfl) (fun _ _ => rfl) (fun _ _ => rfl) (fun _ _ => rfl) rfl rfl rfl (hP y hy), fun u hu => ?_⟩, rfl, Or.inl ⟨rfl, rfl⟩⟩
        by_cases e : u = p
        · subst e
          refine ⟨⟨?_, c2⟩, ?_, ⟨z + 1, by omega, ?_, ?_⟩, ?_⟩
          · unfold f_pass; rw [uo_k (by decide)]; exact c1
          · unfold f_pass; rw [uo_k (by decide)]; exact c3
          · unfold f_pass; rw [uo_s, e1, nI_1, if_pos (nI_lt (by omega) (by omega))]
          · rw [ui_s]
          · unfold f_pass; rw [uo_k (by decide)]; exact c4
        · refine SbI.cg (a := a) (b := b) (fun k => o _ _ (by omega)) rfl rfl ?_ rfl (hS u hu)
          rw [ui_k e]; rfl
    · rw [if_neg g2, if_neg g2]
      exact Rel.no h (by decide +kernel) (by decide)
  · rw [if_neg g1, if_neg g1]
    exact Rel.no h (by decide +kernel) (by decide)
theorem bit_eq : ∀ z, z < 256 → ∀ t, t < 8 → ((nI z &&& ((1 : Int32) <<< (nI t &&& 31)) = 0) ↔ ((nI z >>> (nI t &&& 31)) &&& 1 = 0)) := by decide +kernel
theorem only_eq {x : Int32} (h : x = -1 ∨ ∃ s, s < 16 ∧ x = nI s) : x = -1 ↔ x < 0 := by
  rcases h with h | ⟨s, hs, h⟩
  · subst h; decide
  · subst h
    exact ⟨fun w => absurd w.symm (nI_m1 (by omega)), fun w => absurd w (nI_pos (by omega))⟩
theorem wait_eq {a b : kW} {sz u : Nat} (hS : SbI a b u) (h1 : ∀ k, k < sz → a.1 2 k = b.1 62 k ∧ a.1 4 k = b.1 63 k) (h2 : ∀ k, k < sz → ∃ t, t < 8 ∧ b.1 63 k = nI t) : ∀ m q, q + m ≤ sz → f_wait a u m q = g_next b u m q
  | 0, _, _ => rfl
  | m + 1, q, hq => by
    have hlt : q < sz := by omega
    obtain ⟨⟨c1, c2⟩, ⟨z, hz, c3, c4⟩, -, -⟩ := id hS
    obtain ⟨t, ht, et⟩ := h2 q hlt
    have hiff : f_lets a u (a.1 2 q) (a.1 4 q) ↔ ((b.1 74 u < 0 ∨ b.1 74 u = b.1 62 q) ∧ ¬ ((b.1 75 u >>> (b.1 63 q &&& 31)) &&& 1 = 0)) := by
      unfold f_lets
      rw [c1, c3, c4, (h1 q hlt).1, (h1 q hlt).2, et, only_eq c2, bit_eq z (by omega) t ht]
    show (@ite _ (f_lets a u (a.1 2 q) (a.1 4 q)) (Classical.propDecidable _) (nI q) (f_wait a u m (q + 1))) = (if (b.1 74 u < 0 ∨ b.1 74 u = b.1 62 q) ∧ ¬ ((b.1 75 u >>> (b.1 63 q &&& 31)) &&& 1 = 0) then nI q else g_next b u m (q + 1))
    by_cases w : f_lets a u (a.1 2 q) (a.1 4 q)
    · rw [if_pos w, if_pos (hiff.mp w)]
    · rw [if_neg w, if_neg (fun y => w (hiff.mpr y)), wait_eq hS h1 h2 m (q + 1) (by omega)]
theorem R_next {a b : kW} {sz du q : Nat} (h : Inv a b) (hL : LgI a b sz du) (x1 : Int32) (hq : 0 ≤ x1 ∧ x1 < 8 → a.2.2 (53 + nt x1) 2 = nI q) (hq5 : q ≤ 500) : Rel cI (s_next a sz q x1) (some (.int (m_next b sz x1).1)) b (m_next b sz x1).2 := by
  obtain ⟨sz', du', hL', hP, hS⟩ := id h
  unfold s_next m_next
  simp only [i_8] at hq ⊢
  by_cases g1 : 0 ≤ x1 ∧ x1 ≤ 7
  · rw [if_pos g1, if_pos g1]
    obtain ⟨p, hp8, rfl, np⟩ := nI_gl (N := 7) (by decide) g1
    have hq1 := hq g1
    rw [np] at hq1
    obtain ⟨-, -, ⟨q', hq', e1, e2⟩, -⟩ := id (hS p (by omega))
    have eq : q' = q := nI_inj (by omega) (by omega) (e1.symm.trans hq1)
    subst eq
    have nq : nt (b.1 76 p) = q' := by rw [e2]; exact nt_nI (by omega)
    rw [np, nq]
    rcases Nat.lt_or_ge sz q' with w | w
    · rw [show sz - q' = 0 by omega]
      exact Rel.ok h
    · rw [wait_eq (b := uo b 61 0 0) (hS p (by omega)) (fun k hk => ⟨(hL.2.1 k hk).1, (hL.2.1 k hk).2.1⟩) (fun k hk => (hL.2.2.1 k hk).2.1) (sz - q') q' (by omega)]
      exact Rel.ok h
  · rw [if_neg g1, if_neg g1]
    exact Rel.no h (by decide +kernel) (by decide)
theorem LgI.put {a b : kW} {sz du s t : Nat} {v : Int64} (h : LgI a b sz du) (h5 : sz < 500) (hs : s < 16) (ht : t < 8) : LgI (f_put a sz s (nI t) v) (g_put b sz (nI s) (nI t) v (-1) (-1)) (sz + 1) du := by
  obtain ⟨⟨l1, l2, l3, l4, l5, l6⟩, hE, hA, hV, hSS, hEE, hB, hU⟩ := h
  refine ⟨⟨uo_s, ?_, uo_s, ?_, by omega, by omega⟩, fun k hk => ?_, hA.put hs ht, hV.put hSS hs, hSS.put hs, hEE.put, hB.put, hU.put⟩
  · unfold f_put; rw [uo_k (by decide)]; exact l2
  · unfold g_put; rw [uo_k (by decide)]; exact l4
  · show upd (a.1 2) sz (nI s) k = upd (b.1 62) sz (nI s) k ∧ upd (a.1 4) sz (nI t) k = upd (b.1 63) sz (nI t) k ∧ vp_updL (a.2.1 5) sz v k = vp_updL (b.2.1 66) sz v k ∧ upd (a.1 6) sz (-1) k = upd (b.1 64) sz (-1) k ∧ upd (a.1 7) sz (-1) k = upd (b.1 65) sz (-1) k
    by_cases e : k = sz
    · subst e
      simp [upd, vp_updL]
    · obtain ⟨e1, e2, e3, e4, e5⟩ := hE k (by omega)
      simp [upd, vp_updL, e, e1, e2, e3, e4, e5]
theorem R_append {a b : kW} {sz du : Nat} (h : Inv a b) (hL : LgI a b sz du) (hP : ∀ p, p < 8 → PjI a b p) (hS : ∀ u, u < 8 → SbI a b u) (x1 x2 x3 : Int32) (v : Int64) : Rel cA (s_append a sz x1 x2 x3 v) (some (.int (m_append b sz x1 x2 x3 v).1)) b (m_append b sz x1 x2 x3 v).2 := by
  have h5 := hL.1.2.2.2.2.2
  unfold s_append m_append
  simp only [i_8, i_16]
  by_cases g1 : 0 ≤ x1 ∧ x1 ≤ 15
  · rw [if_pos g1, if_pos g1]
    obtain ⟨s, hs, rfl, ns⟩ := nI_gl (N := 15) (by decide) g1
    by_cases g2 : x2 < -1
    · rw [if_pos g2, if_pos g2]
      exact Rel.no h (by decide +kernel) (by decide)
    rw [if_neg g2, if_neg g2]
    by_cases g3 : 0 ≤ x3 ∧ x3 ≤ 7
    · rw [if_pos g3, if_pos g3]
      obtain ⟨t, ht, rfl, nt3⟩ := nI_gl (N := 7) (by decide) g3
      have e9 : a.1 9 (nt (nI s)) = nI (cn (b.1 62) (nI s) sz) := by rw [ns]; exact hL.2.2.2.2.1 s (by omega)
      have hc : (¬ (x2 = -1) ∧ ¬ (x2 = a.1 9 (nt (nI s)))) ↔ (0 ≤ x2 ∧ ¬ (nI (cn (b.1 62) (nI s) sz) = x2)) := by
        rw [e9]
        constructor
        · intro w
          refine ⟨?_, fun y => w.2 y.symm⟩
          have w1 := Int32.le_iff_toInt_le.mp (Int32.not_lt.mp g2)
          have w2 : ¬ x2.toInt = -1 := fun y => w.1 (Int32.toInt_inj.mp (y.trans (by decide)))
          have e1 : (-1 : Int32).toInt = -1 := by decide
          rw [e1] at w1
          exact Int32.le_iff_toInt_le.mpr (show (0 : Int32).toInt ≤ x2.toInt by rw [show (0 : Int32).toInt = 0 by decide]; omega)
        · intro w
          refine ⟨fun y => ?_, fun y => w.2 y.symm⟩
          rw [y] at w
          exact absurd w.1 (by decide)
      simp only [hc]
      by_cases g4 : 0 ≤ x2 ∧ ¬ (nI (cn (b.1 62) (nI s) sz) = x2)
      · rw [if_pos g4, if_pos g4]
        exact Rel.no h (by decide +kernel) (by decide)
      rw [if_neg g4, if_neg g4]
      by_cases g6 : sz = 500
      · rw [if_pos (by omega), if_pos g6]
        exact Rel.no h (by decide +kernel) (by decide)
      rw [if_neg (by omega), if_neg g6, ns]
      have o : ∀ i k, i ≠ 1 → (f_put a sz s (nI t) v).2.2 i k = a.2.2 i k := fun i k hi => by unfold f_put; rw [uo_n hi]; rfl
      have oi : ∀ i, 11 ≤ i → (f_put a sz s (nI t) v).1 i = a.1 i := fun i hi => by
        unfold f_put
        show (ui (ui (ui (ul (ui (ui (ui a 2 sz (nI s)) 3 sz (a.1 9 s)) 4 sz (nI t)) 5 sz v) 6 sz (-1)) 7 sz (-1)) 9 s (a.1 9 s + 1)).1 i = _
        rw [ui_n (by omega), ui_n (by omega), ui_n (by omega)]
        show (ui (ui (ui a 2 sz (nI s)) 3 sz (a.1 9 s)) 4 sz (nI t)).1 i = _
        rw [ui_n (by omega), ui_n (by omega), ui_n (by omega)]
      have ol : ∀ i, i ≠ 5 → (f_put a sz s (nI t) v).2.1 i = a.2.1 i := fun i hi => by
        show (if i = 5 then _ else a.2.1 i) = _
        rw [if_neg hi]
      have hb0 : LgI a (uo b 61 0 0) sz du := hL
      refine ⟨⟨sz + 1, du, hb0.put (by omega) (by omega) (by omega), fun p hp => PjI.cg (a := a) (b := b) (fun k => o _ _ (by omega)) (oi _ (by omega)) (oi _ (by omega)) (ol _ (by omega)) (ol _ (by omega)) (fun _ _ => rfl) (fun _ _ => rfl) (fun _ _ => rfl) (fun _ _ => rfl) rfl rfl rfl (hP p hp), fun u hu => SbI.cg (a := a) (b := b) (fun k => o _ _ (by omega)) rfl rfl rfl rfl (hS u hu)⟩, rfl, Or.inl ⟨rfl, rfl⟩⟩
    · rw [if_neg g3, if_neg g3]
      exact Rel.no h (by decide +kernel) (by decide)
  · rw [if_neg g1, if_neg g1]
    exact Rel.no h (by decide +kernel) (by decide)
