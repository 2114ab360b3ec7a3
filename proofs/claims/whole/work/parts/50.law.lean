section KLAW
variable {E : kx_E} {I : kx_I} {d mc ms : Nat} {Q : kx_Q} {k j pc : Nat} {lv : List (Nat × Value)} {st : List Value} {n : Nat} {h : kx_H}
theorem kx_aload_s {f : Fin 4} {x : Nat} (hdg : decode I.2.1 pc = .ok (.aload_n f, 1)) (hl : kx_lk lv f.val = some (.retAddr x)) (kk : kx_V E I d mc ms Q k j (pc + 1) lv (.retAddr x :: st) n h) : kx_V E I d mc ms Q k j pc lv st n h :=
  fun p e R s m args below meth c H locs ls cells slots C P L V hk hj => lv_aload_n C.ex C.bt hdg rfl (kx_l_at V hl) (kk p e R s m args below meth c H locs ls cells slots C P L V hk hj)
def kx_S (E : kx_E) (S N : Nat) (xs : Nat → Int32) : Prop := va_X S N xs E.2.1 E.2.1.heap ∧ S < kx_B E
theorem kx_siald {S N ix : Nat} {xs : Nat → Int32} {x : Int32} (hS : kx_S E S N xs) (hdg : decode I.2.1 pc = .ok (.iaload, 1)) (hx : kx_ix x ix N) (kk : kx_V E I d mc ms Q k j (pc + 1) lv (.int (xs ix) :: st) n h) : kx_V E I d mc ms Q k j pc lv (.int x :: .retAddr S :: st) n h := by
  intro p e R s m args below meth c H locs ls cells slots C P L V hk hj
  obtain ⟨scr, g1, g2, g3, g4, g5⟩ := va_X.moved C.wm.alike hS.1
  exact W.iald (v := .int (xs ix)) C.ex C.bt (show H[S]? = some scr from (P.2.1 S hS.2).trans g1) g2 g3 (by rw [g4]; exact hx.ok) (by rw [hx.cl]; exact g5 ix hx.2.1) rfl rfl hdg (kk p e R s m args below meth c H locs ls cells slots C P L V hk hj)
theorem kx_salen {S N : Nat} {xs : Nat → Int32} (hS : kx_S E S N xs) (hdg : decode I.2.1 pc = .ok (.arraylength, 1)) (kk : kx_V E I d mc ms Q k j (pc + 1) lv (.int (nI N) :: st) n h) : kx_V E I d mc ms Q k j pc lv (.retAddr S :: st) n h := by
  intro p e R s m args below meth c H locs ls cells slots C P L V hk hj
  obtain ⟨scr, g1, g2, g3, g4, g5⟩ := va_X.moved C.wm.alike hS.1
  exact W.alen (n := nI N) C.ex C.bt (show H[S]? = some scr from (P.2.1 S hS.2).trans g1) g2 (by rw [g4]; rfl) rfl rfl hdg (kk p e R s m args below meth c H locs ls cells slots C P L V hk hj)
end KLAW
theorem LgI.wb {a b : kW} {sz du : Nat} {r : Option Value ⊕ String} (h : LgI a b sz du) : LgI a (w_b r b) sz du := by
  rcases r with (_ | v) | X <;> exact h
theorem PjI.wb {a b : kW} {p : Nat} {r : Option Value ⊕ String} (h : PjI a b p) : PjI a (w_b r b) p := by
  rcases r with (_ | v) | X <;> exact h
theorem SbI.wb {a b : kW} {u : Nat} {r : Option Value ⊕ String} (h : SbI a b u) : SbI a (w_b r b) u := by
  rcases r with (_ | v) | X <;> exact h
theorem Inv.wb {a b : kW} {r : Option Value ⊕ String} (h : Inv a b) : Inv a (w_b r b) := by
  obtain ⟨sz, du, h1, h2, h3⟩ := h
  exact ⟨sz, du, h1.wb, fun p hp => (h2 p hp).wb, fun u hu => (h3 u hu).wb⟩
theorem Inv.ci {a b : kW} (h : Inv a b) : ∀ p, p < 8 → CIp a p := by
  intro p hp
  obtain ⟨sz, du, hL, hP, hS⟩ := h
  obtain ⟨k1, -, -, ⟨q, hq, k4, -⟩, -⟩ := hP p hp
  refine ⟨sz, q, hL.1.1, hL.1.2.2.2.2.2, hq, k1, k4, fun k hk => ?_⟩
  obtain ⟨e1, e2, -⟩ := hL.2.1 k hk
  obtain ⟨f1, f2, -⟩ := hL.2.2.1 k hk
  rw [e1, e2]
  exact ⟨f2, f1⟩
theorem Inv.cm {a b : kW} (h : Inv a b) : ∀ p, p < 8 → CMp b p := by
  intro p hp
  obtain ⟨sz, du, hL, hP, hS⟩ := h
  obtain ⟨-, -, -, ⟨q, hq, -, k4⟩, -⟩ := hP p hp
  refine ⟨sz, q, hL.1.2.2.1, hL.1.2.2.2.2.2, hq, k4, fun k hk => ?_⟩
  obtain ⟨f1, f2, -⟩ := hL.2.2.1 k hk
  exact ⟨f2, f1⟩
theorem Rel.code {cs : List (String × Int32)} {S : (Option Value ⊕ String) × kW} {r : Option Value} {b b2 : kW} (h : Rel cs S r b b2) : b2.2.2 61 0 = w_c cs S.1 := by
  rcases h.2.2 with ⟨e1, e2⟩ | ⟨X, c, e1, e2, e3, e4⟩
  · rw [e1, e2]; rfl
  · rw [e1, e4]
    show c = (cs.lookup X).getD 9
    rw [e2]; rfl
theorem Rel.val {cs : List (String × Int32)} {S : (Option Value ⊕ String) × kW} {v : Value} {b b2 : kW} (h : Rel cs S (some v) (w_b S.1 b) b2) (h0 : w_c cs S.1 = 0) : b2.2.1 78 0 = w_lng v := by
  rcases h.2.2 with ⟨e1, e2⟩ | ⟨X, c, e1, e2, e3, e4⟩
  · rw [h.2.1, e1]
    exact ul_s
  · rw [e1] at h0
    exact absurd (show c = 0 by have h1 : (cs.lookup X).getD 9 = 0 := h0; rw [e2] at h1; exact h1) e3
theorem sh_cI {X : String} {c : Int32} (h : cI.lookup X = some c) : X = "java/lang/IllegalArgumentException" := by
  by_cases e : X = "java/lang/IllegalArgumentException"
  · exact e
  · have e1 : (X == "java/lang/IllegalArgumentException") = false := by simp [e]
    simp [cI, List.lookup, e1] at h
theorem sh_cO {X : String} {c : Int32} (h : cO.lookup X = some c) : X = "java/lang/IndexOutOfBoundsException" := by
  by_cases e : X = "java/lang/IndexOutOfBoundsException"
  · exact e
  · have e1 : (X == "java/lang/IndexOutOfBoundsException") = false := by simp [e]
    simp [cO, List.lookup, e1] at h
theorem sh_cIO {X : String} {c : Int32} (h : cIO.lookup X = some c) : X = "java/lang/IllegalArgumentException" ∨ X = "java/lang/IndexOutOfBoundsException" := by
  by_cases e : X = "java/lang/IllegalArgumentException"
  · exact Or.inl e
  · by_cases f : X = "java/lang/IndexOutOfBoundsException"
    · exact Or.inr f
    · have e1 : (X == "java/lang/IllegalArgumentException") = false := by simp [e]
      have f1 : (X == "java/lang/IndexOutOfBoundsException") = false := by simp [f]
      simp [cIO, List.lookup, e1, f1] at h
theorem sh_cA {X : String} {c : Int32} (h : cA.lookup X = some c) : X = "java/lang/IllegalArgumentException" ∨ X = "java/lang/IllegalStateException" ∨ X = "java/lang/IndexOutOfBoundsException" := by
  by_cases e : X = "java/lang/IllegalArgumentException"
  · exact Or.inl e
  · by_cases g : X = "java/lang/IllegalStateException"
    · exact Or.inr (Or.inl g)
    · by_cases f : X = "java/lang/IndexOutOfBoundsException"
      · exact Or.inr (Or.inr f)
      · have e1 : (X == "java/lang/IllegalArgumentException") = false := by simp [e]
        have f1 : (X == "java/lang/IndexOutOfBoundsException") = false := by simp [f]
        have g1 : (X == "java/lang/IllegalStateException") = false := by simp [g]
        simp [cA, List.lookup, e1, f1, g1] at h
theorem Inv.start : Inv a0 b0 := by
  refine ⟨0, 0, ⟨⟨rfl, rfl, rfl, rfl, Nat.le_refl _, by decide⟩, fun k hk => absurd hk (by omega), fun k hk => absurd hk (by omega), fun k hk => absurd hk (by omega), fun s hs => rfl, fun p hp => rfl, fun c p hc hp => ?_, fun k k' p hk => absurd hk (by omega)⟩, fun p hp => ?_, fun u hu => ?_⟩
  · refine ⟨fun _ => ?_, fun _ => ?_⟩
    · rintro ⟨k, -, hk, -⟩
      omega
    · show (0 : Int32) &&& _ = 0
      simp
  · match p, hp with
    | 0, _ => exact ⟨rfl, fun t ht => ⟨rfl, rfl, ⟨0, by decide, rfl⟩, ⟨0, by decide, rfl⟩⟩, fun k hk => ⟨rfl, rfl⟩, ⟨0, by decide, rfl, rfl⟩, Or.inl ⟨rfl, rfl⟩⟩
    | 1, _ => exact ⟨rfl, fun t ht => ⟨rfl, rfl, ⟨0, by decide, rfl⟩, ⟨0, by decide, rfl⟩⟩, fun k hk => ⟨rfl, rfl⟩, ⟨0, by decide, rfl, rfl⟩, Or.inl ⟨rfl, rfl⟩⟩
    | 2, _ => exact ⟨rfl, fun t ht => ⟨rfl, rfl, ⟨0, by decide, rfl⟩, ⟨0, by decide, rfl⟩⟩, fun k hk => ⟨rfl, rfl⟩, ⟨0, by decide, rfl, rfl⟩, Or.inl ⟨rfl, rfl⟩⟩
    | 3, _ => exact ⟨rfl, fun t ht => ⟨rfl, rfl, ⟨0, by decide, rfl⟩, ⟨0, by decide, rfl⟩⟩, fun k hk => ⟨rfl, rfl⟩, ⟨0, by decide, rfl, rfl⟩, Or.inl ⟨rfl, rfl⟩⟩
    | 4, _ => exact ⟨rfl, fun t ht => ⟨rfl, rfl, ⟨0, by decide, rfl⟩, ⟨0, by decide, rfl⟩⟩, fun k hk => ⟨rfl, rfl⟩, ⟨0, by decide, rfl, rfl⟩, Or.inl ⟨rfl, rfl⟩⟩
    | 5, _ => exact ⟨rfl, fun t ht => ⟨rfl, rfl, ⟨0, by decide, rfl⟩, ⟨0, by decide, rfl⟩⟩, fun k hk => ⟨rfl, rfl⟩, ⟨0, by decide, rfl, rfl⟩, Or.inl ⟨rfl, rfl⟩⟩
    | 6, _ => exact ⟨rfl, fun t ht => ⟨rfl, rfl, ⟨0, by decide, rfl⟩, ⟨0, by decide, rfl⟩⟩, fun k hk => ⟨rfl, rfl⟩, ⟨0, by decide, rfl, rfl⟩, Or.inl ⟨rfl, rfl⟩⟩
    | 7, _ => exact ⟨rfl, fun t ht => ⟨rfl, rfl, ⟨0, by decide, rfl⟩, ⟨0, by decide, rfl⟩⟩, fun k hk => ⟨rfl, rfl⟩, ⟨0, by decide, rfl, rfl⟩, Or.inl ⟨rfl, rfl⟩⟩
  · match u, hu with
    | 0, _ => exact ⟨⟨rfl, Or.inl rfl⟩, ⟨255, by decide, rfl, rfl⟩, ⟨0, by decide, rfl, rfl⟩, ⟨0, by decide, rfl, rfl⟩⟩
    | 1, _ => exact ⟨⟨rfl, Or.inl rfl⟩, ⟨255, by decide, rfl, rfl⟩, ⟨0, by decide, rfl, rfl⟩, ⟨0, by decide, rfl, rfl⟩⟩
    | 2, _ => exact ⟨⟨rfl, Or.inl rfl⟩, ⟨255, by decide, rfl, rfl⟩, ⟨0, by decide, rfl, rfl⟩, ⟨0, by decide, rfl, rfl⟩⟩
    | 3, _ => exact ⟨⟨rfl, Or.inl rfl⟩, ⟨255, by decide, rfl, rfl⟩, ⟨0, by decide, rfl, rfl⟩, ⟨0, by decide, rfl, rfl⟩⟩
    | 4, _ => exact ⟨⟨rfl, Or.inl rfl⟩, ⟨255, by decide, rfl, rfl⟩, ⟨0, by decide, rfl, rfl⟩, ⟨0, by decide, rfl, rfl⟩⟩
    | 5, _ => exact ⟨⟨rfl, Or.inl rfl⟩, ⟨255, by decide, rfl, rfl⟩, ⟨0, by decide, rfl, rfl⟩, ⟨0, by decide, rfl, rfl⟩⟩
    | 6, _ => exact ⟨⟨rfl, Or.inl rfl⟩, ⟨255, by decide, rfl, rfl⟩, ⟨0, by decide, rfl, rfl⟩, ⟨0, by decide, rfl, rfl⟩⟩
    | 7, _ => exact ⟨⟨rfl, Or.inl rfl⟩, ⟨255, by decide, rfl, rfl⟩, ⟨0, by decide, rfl, rfl⟩, ⟨0, by decide, rfl, rfl⟩⟩
