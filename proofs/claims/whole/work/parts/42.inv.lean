def LgI (a b : kW) (sz du : Nat) : Prop :=
  (a.2.2 1 9 = nI sz ∧ a.2.2 1 10 = nI du ∧ b.2.2 61 1 = nI sz ∧ b.2.2 61 2 = nI du ∧ du ≤ sz ∧ sz ≤ 500) ∧
  (∀ k, k < sz → a.1 2 k = b.1 62 k ∧ a.1 4 k = b.1 63 k ∧ a.2.1 5 k = b.2.1 66 k ∧ a.1 6 k = b.1 64 k ∧ a.1 7 k = b.1 65 k) ∧
  LgA (b.1 62) (b.1 63) (b.1 64) (b.1 65) sz ∧ LgV (a.1 3) (b.1 62) sz ∧ LgS (a.1 9) (b.1 62) sz ∧ LgE (a.1 10) (b.1 64) sz ∧ LgB (a.1 8) (b.1 64) (b.1 65) sz ∧ LgU (b.1 64) (b.1 65) sz
def PjI (a b : kW) (p : Nat) : Prop :=
  a.2.2 (12 + 5 * p) 0 = nI p ∧
  (∀ t, t < 8 → a.1 (12 + 5 * p + 1) t = b.1 69 (8 * p + t) ∧ a.1 (12 + 5 * p + 2) t = b.1 70 (8 * p + t) ∧ (∃ z, z ≤ 6 ∧ b.1 69 (8 * p + t) = nI z) ∧ ∃ z, z ≤ 2 ∧ b.1 70 (8 * p + t) = nI z) ∧
  (∀ k, k < 16 → a.2.1 (12 + 5 * p + 3) k = b.2.1 67 (16 * p + k) ∧ a.2.1 (12 + 5 * p + 4) k = b.2.1 68 (16 * p + k)) ∧
  (∃ q, q ≤ 500 ∧ a.2.2 (12 + 5 * p) 4 = nI q ∧ b.1 71 p = nI q) ∧
  ((a.2.2 (12 + 5 * p) 7 = -1 ∧ b.1 72 p = -1) ∨ ∃ x y, x ≤ 500 ∧ y ≤ 500 ∧ a.2.2 (12 + 5 * p) 6 = nI x ∧ b.1 72 p = nI x ∧ a.2.2 (12 + 5 * p) 7 = nI y ∧ b.1 73 p = nI y)
def SbI (a b : kW) (u : Nat) : Prop :=
  (a.2.2 (53 + u) 0 = b.1 74 u ∧ (b.1 74 u = -1 ∨ ∃ s, s < 16 ∧ b.1 74 u = nI s)) ∧ (∃ z, z ≤ 255 ∧ a.2.2 (53 + u) 1 = nI z ∧ b.1 75 u = nI z) ∧
  (∃ q, q ≤ 500 ∧ a.2.2 (53 + u) 2 = nI q ∧ b.1 76 u = nI q) ∧ ∃ q, q ≤ 500 ∧ a.2.2 (53 + u) 3 = nI q ∧ b.1 77 u = nI q
def Inv (a b : kW) : Prop := ∃ sz du, LgI a b sz du ∧ (∀ p, p < 8 → PjI a b p) ∧ ∀ u, u < 8 → SbI a b u
theorem i_lt (x a b : Int32) (h : a.toInt = b.toInt + 1) : x < a ↔ x ≤ b := by
  rw [Int32.lt_iff_toInt_lt, Int32.le_iff_toInt_le]; omega
theorem i_16 (x : Int32) : x < 16 ↔ x ≤ 15 := i_lt x 16 15 (by decide)
theorem i_8 (x : Int32) : x < 8 ↔ x ≤ 7 := i_lt x 8 7 (by decide)
theorem i_n (x : Int32) {sz : Nat} (h : sz ≤ 500) : x < nI sz ↔ x ≤ nI sz - 1 := by
  cases sz with
  | zero =>
    rw [show (nI 0 - 1 : Int32) = -1 from rfl, show (nI 0 : Int32) = 0 from rfl]
    exact i_lt x 0 (-1) (by decide)
  | succ e =>
    rw [nI_pred]
    refine i_lt x _ _ ?_
    rw [nI_toInt (by omega), nI_toInt (by omega)]
    omega
def Rel (cs : List (String × Int32)) (S : (Option Value ⊕ String) × kW) (r : Option Value) (b b2 : kW) : Prop :=
  Inv S.2 b2 ∧ b2.2.1 78 = b.2.1 78 ∧ ((S.1 = Sum.inl r ∧ b2.2.2 61 0 = 0) ∨ ∃ X c, S.1 = Sum.inr X ∧ cs.lookup X = some c ∧ ¬ c = 0 ∧ b2.2.2 61 0 = c)
theorem Inv.e {a b : kW} {x : Int32} (h : Inv a b) : Inv a (uo b 61 0 x) := h
theorem Inv.o {a b : kW} {x : Int64} (h : Inv a b) : Inv a (ul b 78 0 x) := h
theorem Rel.ok {cs : List (String × Int32)} {a b : kW} {v : Value} (h : Inv a b) : Rel cs (Sum.inl (some v), a) (some v) b (uo b 61 0 0) := ⟨h.e, rfl, Or.inl ⟨rfl, rfl⟩⟩
theorem Rel.no {cs : List (String × Int32)} {a b : kW} {X : String} {r : Option Value} {c : Int32} (h : Inv a b) (h1 : cs.lookup X = some c) (h2 : ¬ c = 0) : Rel cs (Sum.inr X, a) r b (g_err b c) := ⟨h.e.e, rfl, Or.inr ⟨X, c, rfl, h1, h2, rfl⟩⟩
def cI : List (String × Int32) := [("java/lang/IllegalArgumentException", 1)]
def cO : List (String × Int32) := [("java/lang/IndexOutOfBoundsException", 1)]
def cIO : List (String × Int32) := [("java/lang/IllegalArgumentException", 1), ("java/lang/IndexOutOfBoundsException", 2)]
def cA : List (String × Int32) := [("java/lang/IllegalArgumentException", 1), ("java/lang/IllegalStateException", 2), ("java/lang/IndexOutOfBoundsException", 3)]
theorem R_cell {a b : kW} (h : Inv a b) (x1 x2 : Int32) : Rel cIO (s_cell a x1 x2) (some (.long (m_cell b x1 x2).1)) b (m_cell b x1 x2).2 := by
  obtain ⟨sz, du, hL, hP, hS⟩ := id h
  unfold s_cell m_cell
  simp only [i_8, i_16]
  by_cases g1 : 0 ≤ x1 ∧ x1 ≤ 7
  · rw [if_pos g1, if_pos g1]
    obtain ⟨p, hp8, rfl, np⟩ := nI_gl (N := 7) (by decide) g1
    by_cases g2 : 0 ≤ x2 ∧ x2 ≤ 15
    · rw [if_pos g2, if_pos g2]
      obtain ⟨z, hz, rfl, nz⟩ := nI_gl (N := 15) (by decide) g2
      rw [np, nz, ((hP p (by omega)).2.2.1 z (by omega)).1]
      exact Rel.ok h
    · rw [if_neg g2, if_neg g2]
      exact Rel.no h (by decide +kernel) (by decide)
  · rw [if_neg g1, if_neg g1]
    exact Rel.no h (by decide +kernel) (by decide)
theorem R_value {a b : kW} {sz du : Nat} (h : Inv a b) (hL : LgI a b sz du) (x1 : Int32) : Rel cO (s_value a sz x1) (some (.long (m_value b sz x1).1)) b (m_value b sz x1).2 := by
  unfold s_value m_value
  simp only [i_n x1 hL.1.2.2.2.2.2]
  by_cases g1 : 0 ≤ x1 ∧ x1 ≤ nI sz - 1
  · rw [if_pos g1, if_pos g1]
    obtain ⟨q, hq, rfl, nq⟩ := nI_lt1 (by have := hL.1.2.2.2.2.2; omega) g1
    rw [nq, (hL.2.1 q hq).2.2.1]
    exact Rel.ok h
  · rw [if_neg g1, if_neg g1]
    exact Rel.no h (by decide +kernel) (by decide)
theorem R_event {a b : kW} {sz du : Nat} (h : Inv a b) (hL : LgI a b sz du) (x1 x2 : Int32) : Rel cIO (s_event a sz x1 x2) (some (.int (m_event b sz x1 x2).1)) b (m_event b sz x1 x2).2 := by
  unfold s_event m_event
  simp only [i_n x1 hL.1.2.2.2.2.2]
  by_cases g2 : 0 ≤ x2 ∧ x2 ≤ 4
  · rw [if_pos g2, if_pos g2]
    by_cases g1 : 0 ≤ x1 ∧ x1 ≤ nI sz - 1
    · rw [if_pos g1, if_pos g1]
      obtain ⟨q, hq, rfl, nq⟩ := nI_lt1 (by have := hL.1.2.2.2.2.2; omega) g1
      obtain ⟨e1, e2, e3, e4, e5⟩ := hL.2.1 q hq
      rw [nq, e1, e2, e4, e5, hL.2.2.2.1 q hq]
      exact Rel.ok h
    · rw [if_neg g1, if_neg g1]
      exact Rel.no h (by decide +kernel) (by decide)
  · rw [if_neg g2, if_neg g2]
    exact Rel.no h (by decide +kernel) (by decide)
theorem R_count {a b : kW} {sz du : Nat} (h : Inv a b) (hL : LgI a b sz du) (x1 x2 : Int32) : Rel cI (s_count a x1 x2) (some (.int (m_count b sz x1 x2).1)) b (m_count b sz x1 x2).2 := by
  obtain ⟨-, -, -, hP, hS⟩ := id h
  obtain ⟨⟨l1, l2, l3, l4, l5, l6⟩, hE, hA, hV, hSS, hEE, hB, hU⟩ := id hL
  have bad : ∀ r, Rel cI (Sum.inr "java/lang/IllegalArgumentException", a) r b (g_err b 1) := fun r => Rel.no h (by decide +kernel) (by decide)
  unfold s_count m_count
  simp only [i_8, i_16]
  by_cases e0 : x1 = 0
  · rw [if_pos e0, if_pos e0, l1, l3]
    exact Rel.ok h
  rw [if_neg e0, if_neg e0]
  by_cases e1 : x1 = 1
  · rw [if_pos e1, if_pos e1, l2, l4]
    exact Rel.ok h
  rw [if_neg e1, if_neg e1]
  by_cases e2 : x1 = 2
  · rw [if_pos e2, if_pos e2]
    by_cases g : 0 ≤ x2 ∧ x2 ≤ 15
    · rw [if_pos g, if_pos g]
      obtain ⟨z, hz, rfl, nz⟩ := nI_gl (N := 15) (by decide) g
      rw [nz, hSS z (by omega)]
      exact Rel.ok h
    · rw [if_neg g, if_neg g]
      exact bad _
  rw [if_neg e2, if_neg e2]
  by_cases e3 : x1 = 3
  · rw [if_pos e3, if_pos e3]
    by_cases g : 0 ≤ x2 ∧ x2 ≤ 7
    · rw [if_pos g, if_pos g]
      obtain ⟨z, hz, rfl, nz⟩ := nI_gl (N := 7) (by decide) g
      obtain ⟨q, -, q1, q2⟩ := (hP z (by omega)).2.2.2.1
      rw [nz, q1, q2]
      exact Rel.ok h
    · rw [if_neg g, if_neg g]
      exact bad _
  rw [if_neg e3, if_neg e3]
  by_cases e4 : x1 = 4
  · rw [if_pos e4, if_pos e4]
    by_cases g : 0 ≤ x2 ∧ x2 ≤ 7
    · rw [if_pos g, if_pos g]
      obtain ⟨z, hz, rfl, nz⟩ := nI_gl (N := 7) (by decide) g
      obtain ⟨q, -, q1, q2⟩ := (hS z (by omega)).2.2.1
      rw [nz, q1, q2]
      exact Rel.ok h
    · rw [if_neg g, if_neg g]
      exact bad _
  rw [if_neg e4, if_neg e4]
  by_cases e5 : x1 = 5
  · rw [if_pos e5, if_pos e5]
    by_cases g : 0 ≤ x2 ∧ x2 ≤ 7
    · rw [if_pos g, if_pos g]
      obtain ⟨z, hz, rfl, nz⟩ := nI_gl (N := 7) (by decide) g
      rw [nz, hEE z (by omega)]
      exact Rel.ok h
    · rw [if_neg g, if_neg g]
      exact bad _
  rw [if_neg e5, if_neg e5]
  exact bad _
theorem find_eq {a b : kW} {sz : Nat} (x y : Int32) (h1 : ∀ k, k < sz → a.1 2 k = b.1 62 k) (h3 : ∀ k, k < sz → a.1 3 k = nI (cn (b.1 62) (b.1 62 k) k)) : ∀ m q, q + m = sz → f_find a x y m q = g_find b x y m q
  | 0, _, _ => rfl
  | m + 1, q, hq => by
    have hlt : q < sz := by omega
    show (if a.1 2 q = x ∧ a.1 3 q = y then nI q else f_find a x y m (q + 1)) = (if b.1 62 q = x ∧ nI (cn (b.1 62) x q) = y then nI q else g_find b x y m (q + 1))
    rw [find_eq x y h1 h3 m (q + 1) (by omega), h1 q hlt, h3 q hlt]
    by_cases e : b.1 62 q = x
    · rw [e]
    · rw [if_neg (fun w => e w.1), if_neg (fun w => e w.1)]
theorem R_find {a b : kW} {sz du : Nat} (h : Inv a b) (hL : LgI a b sz du) (x1 x2 : Int32) : Rel cIO (s_find a sz x1 x2) (some (.int (m_find b sz x1 x2).1)) b (m_find b sz x1 x2).2 := by
  have ef : f_find a x1 x2 sz 0 = g_find (uo b 61 0 0) x1 x2 sz 0 := find_eq (b := uo b 61 0 0) x1 x2 (fun k hk => (hL.2.1 k hk).1) (fun k hk => hL.2.2.2.1 k hk) sz 0 (by omega)
  unfold s_find m_find
  simp only [i_16, ef]
  by_cases g1 : 0 ≤ x1 ∧ x1 ≤ 15
  · rw [if_pos g1, if_pos g1]
    by_cases e : g_find (uo b 61 0 0) x1 x2 sz 0 = -1
    · rw [if_pos e, if_pos e]
      exact Rel.no h (by decide +kernel) (by decide)
    · rw [if_neg e, if_neg e]
      exact Rel.ok h
  · rw [if_neg g1, if_neg g1]
    exact Rel.no h (by decide +kernel) (by decide)
