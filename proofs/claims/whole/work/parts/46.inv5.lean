theorem g_no_iff {b : kW} {p q : Nat} : ∀ (m i : Nat), g_no b p q m i = true ↔ ¬ LgH (b.1 64) (b.1 65) i (i + m) p q
  | 0, i => by
    refine ⟨fun _ => ?_, fun _ => rfl⟩
    rintro ⟨k, h1, h2, -⟩
    omega
  | m + 1, i => by
    show (if b.1 64 i = nI p ∧ b.1 65 i = nI q then false else g_no b p q m (i + 1)) = true ↔ _
    by_cases e : b.1 64 i = nI p ∧ b.1 65 i = nI q
    · rw [if_pos e]
      refine ⟨fun w => absurd w (by decide), fun w => absurd (⟨i, by omega, by omega, e.1, e.2⟩ : LgH (b.1 64) (b.1 65) i (i + (m + 1)) p q) w⟩
    · rw [if_neg e, g_no_iff m (i + 1), LgH.next (q := i) (sz := i + (m + 1)) (by omega) e, show i + 1 + m = i + (m + 1) by omega]
theorem LgI.emit {a b : kW} {sz du s p c : Nat} {v : Int64} (h : LgI a b sz du) (h5 : sz < 500) (hs : s < 16) (hp : p < 8) (hc : c < sz) (hn : ¬ LgH (b.1 64) (b.1 65) 0 sz p c) : LgI (f_emit a sz p c s v) (g_put b sz (nI s) 7 v (nI p) (nI c)) (sz + 1) du := by
  obtain ⟨⟨l1, l2, l3, l4, l5, l6⟩, hE, hA, hV, hSS, hEE, hB, hU⟩ := h
  refine ⟨⟨uo_s, ?_, uo_s, ?_, by omega, by omega⟩, fun k hk => ?_, hA.emit hs (show 7 < 8 by decide) hp hc, hV.put hSS hs, hSS.put hs, hEE.emit hp, hB.emit hp (by omega), hU.emit hp hn⟩
  · exact (show (f_put a sz s 7 v).2.2 1 10 = nI du by unfold f_put; rw [uo_k (by decide)]; exact l2)
  · unfold g_put; rw [uo_k (by decide)]; exact l4
  · show upd (a.1 2) sz (nI s) k = upd (b.1 62) sz (nI s) k ∧ upd (a.1 4) sz 7 k = upd (b.1 63) sz 7 k ∧ vp_updL (a.2.1 5) sz v k = vp_updL (b.2.1 66) sz v k ∧ upd (upd (a.1 6) sz (-1)) sz (nI p) k = upd (b.1 64) sz (nI p) k ∧ upd (upd (a.1 7) sz (-1)) sz (nI c) k = upd (b.1 65) sz (nI c) k
    by_cases e : k = sz
    · subst e
      simp [upd, vp_updL]
    · obtain ⟨e1, e2, e3, e4, e5⟩ := hE k (by omega)
      simp [upd, vp_updL, e, e1, e2, e3, e4, e5]
theorem put_comm {b : kW} {j ev : Nat} {x v : Int64} {s k y z : Int32} : g_put (ul b 67 j x) ev s k v y z = ul (g_put b ev s k v y z) 67 j x := by
  refine Prod.ext rfl (Prod.ext (funext fun i => ?_) rfl)
  show (if i = 66 then vp_updL (if i = 67 then vp_updL (b.2.1 i) j x else b.2.1 i) ev v else (if i = 67 then vp_updL (b.2.1 i) j x else b.2.1 i)) = (if i = 67 then vp_updL (if i = 66 then vp_updL (b.2.1 i) ev v else b.2.1 i) j x else (if i = 66 then vp_updL (b.2.1 i) ev v else b.2.1 i))
  by_cases e : i = 66
  · subst e; rfl
  · rw [if_neg e, if_neg e]
theorem Inv.fold {a b : kW} {p k z : Nat} {x : Int64} (hp : p < 8) (hk : k < 16) (hz : z ≤ 500) (h : Inv a b) : Inv (uo (ul a (12 + 5 * p + 3) k x) (12 + 5 * p) 4 (nI z)) (ui (ul b 67 (16 * p + k) x) 71 p (nI z)) := by
  obtain ⟨sz, du, hL, hP, hS⟩ := h
  have o : ∀ i j, i ≠ 12 + 5 * p → (uo (ul a (12 + 5 * p + 3) k x) (12 + 5 * p) 4 (nI z)).2.2 i j = a.2.2 i j := fun i j hi => by rw [uo_n hi]; rfl
  have ol : ∀ i, i ≠ 12 + 5 * p + 3 → (uo (ul a (12 + 5 * p + 3) k x) (12 + 5 * p) 4 (nI z)).2.1 i = a.2.1 i := fun i hi => by
    show (if i = 12 + 5 * p + 3 then _ else _) = _
    rw [if_neg hi]
  refine ⟨sz, du, LgI.cg (a := a) (b := b) (o _ _ (by omega)) (o _ _ (by omega)) (fun _ _ => rfl) (ol _ (by omega)) rfl rfl rfl rfl rfl rfl rfl hL, fun y hy => ?_, fun u hu => SbI.cg (a := a) (b := b) (fun k => o _ _ (by omega)) rfl rfl rfl rfl (hS u hu)⟩
  by_cases e : y = p
  · subst e
    obtain ⟨k1, k2, k3, k4, k5⟩ := hP y hy
    have m1 : ∀ j, j ≠ 4 → (uo (ul a (12 + 5 * y + 3) k x) (12 + 5 * y) 4 (nI z)).2.2 (12 + 5 * y) j = a.2.2 (12 + 5 * y) j := fun j hj => by rw [uo_k hj]; rfl
    refine ⟨(m1 0 (by decide)).trans k1, k2, fun j hj => ⟨?_, ?_⟩, ⟨z, hz, uo_s, ui_s⟩, ?_⟩
    · show (if 12 + 5 * y + 3 = 12 + 5 * y + 3 then vp_updL (a.2.1 (12 + 5 * y + 3)) k x else _) j = vp_updL (b.2.1 67) (16 * y + k) x (16 * y + j)
      rw [if_pos rfl]
      by_cases ej : j = k
      · subst ej
        simp [vp_updL]
      · have ej2 : ¬ 16 * y + j = 16 * y + k := by omega
        simp only [vp_updL, if_neg ej, if_neg ej2]
        exact (k3 j hj).1
    · rw [ol _ (by omega)]; exact (k3 j hj).2
    · rw [m1 7 (by decide), m1 6 (by decide)]
      exact k5
  · refine PjI.cg (a := a) (b := b) (fun k => o _ _ (by omega)) rfl rfl (ol _ (by omega)) (ol _ (by omega)) (fun _ _ => rfl) (fun _ _ => rfl) (fun j hj => ?_) (fun _ _ => rfl) ?_ rfl rfl (hP y hy)
    · show vp_updL (b.2.1 67) (16 * p + k) x (16 * y + j) = _
      have ej2 : ¬ 16 * y + j = 16 * p + k := by omega
      simp only [vp_updL, if_neg ej2]
    · rw [ui_k e]; rfl
theorem T_step {a b : kW} {p : Nat} (h : Inv a b) (hp : p < 8) : (f_take a p).1 = (g_take b p).1 ∧ Inv (f_take a p).2 (g_take b p).2 ∧ (g_take b p).2.2.1 78 = b.2.1 78 ∧ (g_take b p).2.2.2 61 0 = b.2.2 61 0 := by
  obtain ⟨sz, du, hL, hP, hS⟩ := id h
  obtain ⟨v1, -, v3, -, -, v6⟩ := hL.1
  obtain ⟨k1, k2, k3, ⟨q, hq, k4, k4'⟩, k5⟩ := id (hP p hp)
  rw [f_take_at v1 v6 hq k4, g_take_at v3 v6 hq k4']
  by_cases hlt : sz ≤ q
  · rw [if_pos hlt]
    unfold f_takeAt
    rw [if_pos hlt]
    exact ⟨rfl, h, rfl, rfl⟩
  rw [if_neg hlt]
  obtain ⟨⟨s, hs, es⟩, ⟨t, ht, et⟩, -⟩ := hL.2.2.1 q (by omega)
  obtain ⟨e1, e2, e3, e4, e5⟩ := hL.2.1 q (by omega)
  have nk' : nt (b.1 63 q) = t := by rw [et]; exact nt_nI (by omega)
  have nk : nt (a.1 4 q) = t := by rw [e2]; exact nk'
  obtain ⟨r1, r2, -, -⟩ := k2 t ht
  have hcell : f_cell a p q = g_cell b p q := by unfold f_cell g_cell; rw [nk, nk', r2, e1, e3]
  have hk : g_cell b p q < 16 := g_cell_lt hs es
  have ec := (k3 _ hk).1
  have ef : f_takeAt a p sz q = if b.1 69 (8 * p + t) = 6 then (if (f_count a p q (g_cell b p q) sz).1 then (true, uo (f_count a p q (g_cell b p q) sz).2 (12 + 5 * p) 4 (nI (q + 1))) else (false, (f_count a p q (g_cell b p q) sz).2)) else (true, uo (ul a (12 + 5 * p + 3) (g_cell b p q) (f_fold (b.1 69 (8 * p + t)) (b.2.1 67 (16 * p + g_cell b p q)) (b.2.1 66 q))) (12 + 5 * p) 4 (nI (q + 1))) := by
    unfold f_takeAt
    rw [if_neg hlt, nk, r1, hcell, ec, e3]
  have eg : g_takeAt b p sz q = if b.1 69 (8 * p + t) = 6 then g_count b p q (g_cell b p q) sz else (true, ul b 67 (16 * p + g_cell b p q) (f_fold (b.1 69 (8 * p + t)) (b.2.1 67 (16 * p + g_cell b p q)) (b.2.1 66 q))) := by
    unfold g_takeAt
    rw [nk']
  by_cases h6 : b.1 69 (8 * p + t) = 6
  · rw [if_pos h6] at ef eg
    have hbit : (a.1 8 q &&& kb p = 0) ↔ g_no b p q sz 0 = true := by
      rw [g_no_iff sz 0, Nat.zero_add]
      exact hL.2.2.2.2.2.2.1 q p (by omega) hp
    by_cases c6 : (b.2.1 67 (16 * p + g_cell b p q) + 1) &&& 1 = 0 ∧ g_no b p q sz 0 = true
    · have c6' : (a.2.1 (12 + 5 * p + 3) (g_cell b p q) + 1) &&& 1 = 0 ∧ a.1 8 q &&& kb p = 0 := by rw [ec]; exact ⟨c6.1, hbit.mpr c6.2⟩
      by_cases hf : sz = 500
      · have q1 : f_count a p q (g_cell b p q) sz = (false, a) := by unfold f_count; rw [if_pos c6', if_pos (by omega)]
        have q2 : g_count b p q (g_cell b p q) sz = (false, b) := by unfold g_count; rw [if_pos c6, if_pos hf]
        rw [ef, eg, q1, q2]
        exact ⟨rfl, h, rfl, rfl⟩
      · have q1 : f_count a p q (g_cell b p q) sz = (true, ul (f_emit a sz p q (l4 (b.2.1 66 q)) (b.2.1 67 (16 * p + g_cell b p q) + 1)) (12 + 5 * p + 3) (g_cell b p q) (b.2.1 67 (16 * p + g_cell b p q) + 1)) := by unfold f_count; rw [if_pos c6', if_neg (by omega), ec, e3]
        have q2 : g_count b p q (g_cell b p q) sz = (true, ul (g_put b sz (nI (l4 (b.2.1 66 q))) 7 (b.2.1 67 (16 * p + g_cell b p q) + 1) (nI p) (nI q)) 67 (16 * p + g_cell b p q) (b.2.1 67 (16 * p + g_cell b p q) + 1)) := by unfold g_count; rw [if_pos c6, if_neg hf, put_comm]
        rw [ef, eg, q1, q2]
        have hn : ¬ LgH (b.1 64) (b.1 65) 0 sz p q := by
          have := (g_no_iff sz 0).mp c6.2
          rw [Nat.zero_add] at this
          exact this
        generalize (b.2.1 67 (16 * p + g_cell b p q) + 1) = cc
        have o : ∀ i j, i ≠ 1 → (f_emit a sz p q (l4 (b.2.1 66 q)) cc).2.2 i j = a.2.2 i j := fun i j hi => by
          show (f_put a sz (l4 (b.2.1 66 q)) 7 cc).2.2 i j = _
          unfold f_put; rw [uo_n hi]; rfl
        have oi : ∀ i, 11 ≤ i → (f_emit a sz p q (l4 (b.2.1 66 q)) cc).1 i = a.1 i := fun i hi => by
          unfold f_emit f_put
          rw [ui_n (by omega), ui_n (by omega), ui_n (by omega), ui_n (by omega)]
          show (ui (ui (ui (ul (ui (ui (ui a 2 sz (nI (l4 (b.2.1 66 q)))) 3 sz (a.1 9 (l4 (b.2.1 66 q)))) 4 sz 7) 5 sz cc) 6 sz (-1)) 7 sz (-1)) 9 (l4 (b.2.1 66 q)) (a.1 9 (l4 (b.2.1 66 q)) + 1)).1 i = _
          rw [ui_n (by omega), ui_n (by omega), ui_n (by omega)]
          show (ui (ui (ui a 2 sz (nI (l4 (b.2.1 66 q)))) 3 sz (a.1 9 (l4 (b.2.1 66 q)))) 4 sz 7).1 i = _
          rw [ui_n (by omega), ui_n (by omega), ui_n (by omega)]
        have ol : ∀ i, i ≠ 5 → (f_emit a sz p q (l4 (b.2.1 66 q)) cc).2.1 i = a.2.1 i := fun i hi => by
          show (if i = 5 then _ else a.2.1 i) = _
          rw [if_neg hi]
        have hI : Inv (f_emit a sz p q (l4 (b.2.1 66 q)) cc) (g_put b sz (nI (l4 (b.2.1 66 q))) 7 cc (nI p) (nI q)) := ⟨sz + 1, du, hL.emit (by omega) (l4_lt _) hp (by omega) hn, fun y hy => PjI.cg (a := a) (b := b) (fun k => o _ _ (by omega)) (oi _ (by omega)) (oi _ (by omega)) (ol _ (by omega)) (ol _ (by omega)) (fun _ _ => rfl) (fun _ _ => rfl) (fun _ _ => rfl) (fun _ _ => rfl) rfl rfl rfl (hP y hy), fun u hu => SbI.cg (a := a) (b := b) (fun k => o _ _ (by omega)) rfl rfl rfl rfl (hS u hu)⟩
        exact ⟨rfl, hI.fold hp hk (by omega), rfl, rfl⟩
    · have c6' : ¬ ((a.2.1 (12 + 5 * p + 3) (g_cell b p q) + 1) &&& 1 = 0 ∧ a.1 8 q &&& kb p = 0) := by rw [ec]; exact fun w => c6 ⟨w.1, hbit.mp w.2⟩
      have q1 : f_count a p q (g_cell b p q) sz = (true, ul a (12 + 5 * p + 3) (g_cell b p q) (b.2.1 67 (16 * p + g_cell b p q) + 1)) := by unfold f_count; rw [if_neg c6', ec]
      have q2 : g_count b p q (g_cell b p q) sz = (true, ul b 67 (16 * p + g_cell b p q) (b.2.1 67 (16 * p + g_cell b p q) + 1)) := by unfold g_count; rw [if_neg c6]
      rw [ef, eg, q1, q2]
      exact ⟨rfl, h.fold hp hk (by omega), rfl, rfl⟩
  · rw [if_neg h6] at ef eg
    rw [ef, eg]
    exact ⟨rfl, h.fold hp hk (by omega), rfl, rfl⟩
theorem f_adv_s (p m t : Nat) (a : kW) : f_advance p (m + 1) t a = if (f_take a p).1 then f_advance p m (t + 1) (f_take a p).2 else (t, (f_take a p).2) := rfl
theorem g_adv_s (p m t : Nat) (b : kW) : g_advance p (m + 1) t b = if (g_take b p).1 then g_advance p m (t + 1) (g_take b p).2 else (t, (g_take b p).2) := rfl
theorem adv_eq {p : Nat} (hp : p < 8) (m : Nat) : ∀ (t : Nat) (a b : kW), Inv a b → (f_advance p m t a).1 = (g_advance p m t b).1 ∧ Inv (f_advance p m t a).2 (g_advance p m t b).2 ∧ (g_advance p m t b).2.2.1 78 = b.2.1 78 ∧ (g_advance p m t b).2.2.2 61 0 = b.2.2 61 0 := by
  induction m with
  | zero => exact fun t a b h => ⟨rfl, h, rfl, rfl⟩
  | succ m ih =>
    intro t a b h
    obtain ⟨s1, s2, s3, s4⟩ := T_step h hp
    rw [f_adv_s, g_adv_s, s1]
    by_cases hg : (g_take b p).1 = true
    · rw [if_pos hg, if_pos hg]
      obtain ⟨r1, r2, r3, r4⟩ := ih (t + 1) _ _ s2
      exact ⟨r1, r2, r3.trans s3, r4.trans s4⟩
    · rw [if_neg hg, if_neg hg]
      exact ⟨rfl, s2, s3, s4⟩
theorem R_adv {a b : kW} (h : Inv a b) (x1 x2 : Int32) : Rel cI (s_adv a x1 x2) (some (.int (m_adv b x1 x2).1)) b (m_adv b x1 x2).2 := by
  have bad : ∀ r, Rel cI (Sum.inr "java/lang/IllegalArgumentException", a) r b (g_err b 1) := fun r => Rel.no h (by decide +kernel) (by decide)
  unfold s_adv m_adv
  simp only [i_8]
  by_cases g1 : 0 ≤ x1 ∧ x1 ≤ 7
  · rw [if_pos g1, if_pos g1]
    obtain ⟨p, hp8, rfl, np⟩ := nI_gl (N := 7) (by decide) g1
    by_cases g2 : 0 ≤ x2 ∧ x2 ≤ 1000
    · rw [if_pos g2, if_pos g2, np]
      obtain ⟨r1, r2, r3, r4⟩ := adv_eq (p := p) (by omega) (nt x2) 0 a (uo b 61 0 0) h.e
      exact ⟨r2, r3, Or.inl ⟨by rw [r1], r4⟩⟩
    · rw [if_neg g2, if_neg g2]; exact bad _
  · rw [if_neg g1, if_neg g1]; exact bad _
