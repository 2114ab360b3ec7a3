theorem LgI.cg {a b a' b' : kW} {sz du : Nat} (h1 : a'.2.2 1 9 = a.2.2 1 9) (h2 : a'.2.2 1 10 = a.2.2 1 10) (h3 : ∀ i, i < 11 → a'.1 i = a.1 i) (h4 : a'.2.1 5 = a.2.1 5) (g1 : b'.2.2 61 1 = b.2.2 61 1) (g2 : b'.2.2 61 2 = b.2.2 61 2) (g3 : b'.1 62 = b.1 62) (g4 : b'.1 63 = b.1 63) (g5 : b'.1 64 = b.1 64) (g6 : b'.1 65 = b.1 65) (g7 : b'.2.1 66 = b.2.1 66) (h : LgI a b sz du) : LgI a' b' sz du := by
  unfold LgI at h ⊢
  rw [h1, h2, h3 2 (by decide), h3 3 (by decide), h3 4 (by decide), h3 6 (by decide), h3 7 (by decide), h3 8 (by decide), h3 9 (by decide), h3 10 (by decide), h4, g1, g2, g3, g4, g5, g6, g7]
  exact h
theorem PjI.cg {a b a' b' : kW} {p : Nat} (h1 : ∀ k, a'.2.2 (12 + 5 * p) k = a.2.2 (12 + 5 * p) k) (h2 : a'.1 (12 + 5 * p + 1) = a.1 (12 + 5 * p + 1)) (h3 : a'.1 (12 + 5 * p + 2) = a.1 (12 + 5 * p + 2)) (h4 : a'.2.1 (12 + 5 * p + 3) = a.2.1 (12 + 5 * p + 3)) (h5 : a'.2.1 (12 + 5 * p + 4) = a.2.1 (12 + 5 * p + 4)) (g1 : ∀ t, t < 8 → b'.1 69 (8 * p + t) = b.1 69 (8 * p + t)) (g2 : ∀ t, t < 8 → b'.1 70 (8 * p + t) = b.1 70 (8 * p + t)) (g3 : ∀ k, k < 16 → b'.2.1 67 (16 * p + k) = b.2.1 67 (16 * p + k)) (g4 : ∀ k, k < 16 → b'.2.1 68 (16 * p + k) = b.2.1 68 (16 * p + k)) (g5 : b'.1 71 p = b.1 71 p) (g6 : b'.1 72 p = b.1 72 p) (g7 : b'.1 73 p = b.1 73 p) (h : PjI a b p) : PjI a' b' p := by
  obtain ⟨k1, k2, k3, k4, k5⟩ := h
  refine ⟨(h1 0).trans k1, fun t ht => ?_, fun k hk => ?_, ?_, ?_⟩
  · rw [h2, h3, g1 t ht, g2 t ht]; exact k2 t ht
  · rw [h4, h5, g3 k hk, g4 k hk]; exact k3 k hk
  · rw [h1, g5]; exact k4
  · rw [h1, h1, g6, g7]; exact k5
theorem SbI.cg {a b a' b' : kW} {u : Nat} (h1 : ∀ k, a'.2.2 (53 + u) k = a.2.2 (53 + u) k) (g1 : b'.1 74 u = b.1 74 u) (g2 : b'.1 75 u = b.1 75 u) (g3 : b'.1 76 u = b.1 76 u) (g4 : b'.1 77 u = b.1 77 u) (h : SbI a b u) : SbI a' b' u := by
  unfold SbI at h ⊢
  rw [h1, h1, h1, h1, g1, g2, g3, g4]
  exact h
theorem f_zero_at {f : Nat → Int64} : ∀ {n k : Nat}, k < n → f_zero f n k = 0
  | n + 1, k, h => by
    show vp_updL (f_zero f n) n 0 k = 0
    by_cases e : k = n
    · simp [vp_updL, e]
    · simp only [vp_updL, if_neg e]; exact f_zero_at (by omega)
theorem g_zero_in {f : Nat → Int64} {p : Nat} : ∀ {n k : Nat}, k < n → g_zero f p n (16 * p + k) = 0
  | n + 1, k, h => by
    show vp_updL (g_zero f p n) (16 * p + n) 0 (16 * p + k) = 0
    by_cases e : 16 * p + k = 16 * p + n
    · simp [vp_updL, e]
    · simp only [vp_updL, if_neg e]; exact g_zero_in (by omega)
theorem g_zero_out {f : Nat → Int64} {p j : Nat} : ∀ {n : Nat}, (∀ k, k < n → j ≠ 16 * p + k) → g_zero f p n j = f j
  | 0, _ => rfl
  | n + 1, h => by
    show vp_updL (g_zero f p n) (16 * p + n) 0 j = f j
    simp only [vp_updL, if_neg (h n (by omega))]; exact g_zero_out (fun k hk => h k (by omega))
theorem g_copy_in {f g : Nat → Int64} {p : Nat} : ∀ {n k : Nat}, k < n → g_copy f g p n (16 * p + k) = f (16 * p + k)
  | n + 1, k, h => by
    show vp_updL (g_copy f g p n) (16 * p + n) (f (16 * p + n)) (16 * p + k) = f (16 * p + k)
    by_cases e : 16 * p + k = 16 * p + n
    · simp [vp_updL, e]
    · simp only [vp_updL, if_neg e]; exact g_copy_in (by omega)
theorem g_copy_out {f g : Nat → Int64} {p j : Nat} : ∀ {n : Nat}, (∀ k, k < n → j ≠ 16 * p + k) → g_copy f g p n j = g j
  | 0, _ => rfl
  | n + 1, h => by
    show vp_updL (g_copy f g p n) (16 * p + n) (f (16 * p + n)) j = g j
    simp only [vp_updL, if_neg (h n (by omega))]; exact g_copy_out (fun k hk => h k (by omega))
theorem R_filter {a b : kW} (h : Inv a b) (x1 x2 x3 : Int32) : Rel cI (s_filter a x1 x2 x3) none b (m_filter b x1 x2 x3) := by
  obtain ⟨sz, du, hL, hP, hS⟩ := id h
  have bad : Rel cI (Sum.inr "java/lang/IllegalArgumentException", a) none b (g_err b 1) := Rel.no h (by decide +kernel) (by decide)
  unfold s_filter m_filter
  simp only [i_8, i_16]
  by_cases g1 : 0 ≤ x1 ∧ x1 ≤ 7
  · rw [if_pos g1, if_pos g1]
    obtain ⟨p, hp8, rfl, np⟩ := nI_gl (N := 7) (by decide) g1
    by_cases g2 : -1 ≤ x2 ∧ x2 ≤ 15
    · rw [if_pos g2, if_pos g2]
      by_cases g3 : 0 ≤ x3 ∧ x3 ≤ 255
      · rw [if_pos g3, if_pos g3, np]
        obtain ⟨z, hz, rfl, nz⟩ := nI_gl (N := 255) (by decide) g3
        have o : ∀ i k, i ≠ 53 + p → (f_filter a p x2 (nI z)).2.2 i k = a.2.2 i k := fun i k hi => by unfold f_filter; rw [uo_n hi, uo_n hi, uo_n hi, uo_n hi]
        refine ⟨⟨sz, du, LgI.cg (o _ _ (by omega)) (o _ _ (by omega)) (fun _ _ => rfl) rfl rfl rfl rfl rfl rfl rfl rfl hL, fun q hq => PjI.cg (fun k => o _ _ (by omega)) rfl rfl rfl rfl (fun _ _ => rfl) (fun _ _ => rfl) (fun _ _ => rfl) (fun _ _ => rfl) rfl rfl rfl (hP q hq), fun u hu => ?_⟩, rfl, Or.inl ⟨rfl, rfl⟩⟩
        by_cases e : u = p
        · subst e
          refine ⟨⟨?_, ?_⟩, ⟨z, hz, ?_, ?_⟩, ⟨0, by decide, ?_, ?_⟩, ⟨0, by decide, ?_, ?_⟩⟩
          · unfold f_filter
            rw [uo_k (by decide), uo_k (by decide), uo_k (by decide), uo_s, ui_n (by decide), ui_n (by decide), ui_n (by decide), ui_s]
          · rw [ui_n (by decide), ui_n (by decide), ui_n (by decide), ui_s]
            by_cases w : x2 < 0
            · left
              have w1 := Int32.le_iff_toInt_le.mp g2.1
              have w2 := Int32.lt_iff_toInt_lt.mp w
              rw [← Int32.toInt_inj]
              have e1 : (-1 : Int32).toInt = -1 := by decide
              have e2 : (0 : Int32).toInt = 0 := by decide
              rw [e1] at w1 ⊢
              rw [e2] at w2
              omega
            · right
              obtain ⟨s, hs, hs2, -⟩ := nI_gl (N := 15) (by decide) ⟨Int32.not_lt.mp w, g2.2⟩
              exact ⟨s, by omega, hs2⟩
          · unfold f_filter
            rw [uo_k (by decide), uo_k (by decide), uo_s]
          · rw [ui_n (by decide), ui_n (by decide), ui_s]
          · unfold f_filter
            rw [uo_k (by decide), uo_s]; rfl
          · rw [ui_n (by decide), ui_s]; rfl
          · unfold f_filter
            rw [uo_s]; rfl
          · rw [ui_s]; rfl
        · refine SbI.cg (fun k => o _ _ (by omega)) ?_ ?_ ?_ ?_ (hS u hu)
          · rw [ui_n (by decide), ui_n (by decide), ui_n (by decide), ui_k e]; rfl
          · rw [ui_n (by decide), ui_n (by decide), ui_k e]; rfl
          · rw [ui_n (by decide), ui_k e]; rfl
          · rw [ui_k e]; rfl
      · rw [if_neg g3, if_neg g3]; exact bad
    · rw [if_neg g2, if_neg g2]; exact bad
  · rw [if_neg g1, if_neg g1]; exact bad
