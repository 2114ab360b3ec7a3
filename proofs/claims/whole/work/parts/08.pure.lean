def cn (f : Nat → Int32) (x : Int32) : Nat → Nat
  | 0 => 0
  | k + 1 => cn f x k + (if f k = x then 1 else 0)
theorem cn_le (f : Nat → Int32) (x : Int32) : ∀ k, cn f x k ≤ k
  | 0 => Nat.le_refl 0
  | k + 1 => by
    have h := cn_le f x k
    unfold cn
    split <;> omega
theorem cn_mono (f : Nat → Int32) (x : Int32) {a : Nat} : ∀ {b : Nat}, a ≤ b → cn f x a ≤ cn f x b
  | 0, h => by rw [Nat.le_zero.mp h]; exact Nat.le_refl _
  | b + 1, h => by
    rcases Nat.lt_or_ge b a with q | q
    · rw [show a = b + 1 by omega]; exact Nat.le_refl _
    · have := cn_mono f x q
      show _ ≤ cn f x b + _
      omega
theorem cn_congr {f g : Nat → Int32} (x : Int32) : ∀ {k : Nat}, (∀ i, i < k → f i = g i) → cn f x k = cn g x k
  | 0, _ => rfl
  | k + 1, h => by
    show cn f x k + _ = cn g x k + _
    rw [cn_congr x (fun i hi => h i (by omega)), h k (by omega)]
theorem cn_upd {f : Nat → Int32} {x y : Int32} {i k : Nat} (h : k ≤ i) : cn (upd f i y) x k = cn f x k :=
  cn_congr x (fun a ha => pk_un (by omega))
theorem cn_put {f : Nat → Int32} {x y : Int32} {k : Nat} : cn (upd f k y) x (k + 1) = cn f x k + (if y = x then 1 else 0) := by
  show cn (upd f k y) x k + (if upd f k y k = x then 1 else 0) = _
  rw [cn_upd (Nat.le_refl k), pk_us]
theorem nI_inj {a b : Nat} (ha : a < 2 ^ 31) (hb : b < 2 ^ 31) (h : nI a = nI b) : a = b := (nI_eq ha hb).mp h
theorem nI_m1 {a : Nat} (ha : a < 2 ^ 31) : ¬ ((-1 : Int32) = nI a) := by
  intro h
  have h1 : (-1 : Int32).toInt = (nI a).toInt := by rw [h]
  rw [nI_toInt ha] at h1
  have h2 : (-1 : Int32).toInt = -1 := by decide
  omega
def LgA (st ki co ca : Nat → Int32) (sz : Nat) : Prop := ∀ k, k < sz → (∃ s, s < 16 ∧ st k = nI s) ∧ (∃ t, t < 8 ∧ ki k = nI t) ∧ ((co k = -1) ∨ ∃ p c, p < 8 ∧ c < k ∧ co k = nI p ∧ ca k = nI c)
def LgV (ve st : Nat → Int32) (sz : Nat) : Prop := ∀ k, k < sz → ve k = nI (cn st (st k) k)
def LgS (ss st : Nat → Int32) (sz : Nat) : Prop := ∀ s, s < 16 → ss s = nI (cn st (nI s) sz)
def LgE (es co : Nat → Int32) (sz : Nat) : Prop := ∀ p, p < 8 → es p = nI (cn co (nI p) sz)
def LgH (co ca : Nat → Int32) (lo sz p c : Nat) : Prop := ∃ k, lo ≤ k ∧ k < sz ∧ co k = nI p ∧ ca k = nI c
def LgB (em co ca : Nat → Int32) (sz : Nat) : Prop := ∀ c p, c < 500 → p < 8 → (em c &&& ((1 : Int32) <<< (nI p &&& 31)) = 0 ↔ ¬ LgH co ca 0 sz p c)
def LgU (co ca : Nat → Int32) (sz : Nat) : Prop := ∀ k k' p, k < sz → k' < sz → p < 8 → co k = nI p → co k' = nI p → ca k = ca k' → k = k'
section Put
variable {st ki co ca ve ss es em : Nat → Int32} {sz s t p c : Nat}
theorem LgA.put (h : LgA st ki co ca sz) (hs : s < 16) (ht : t < 8) : LgA (upd st sz (nI s)) (upd ki sz (nI t)) (upd co sz (-1)) (upd ca sz (-1)) (sz + 1) := by
  intro k hk
  by_cases e : k = sz
  · subst e
    exact ⟨⟨s, hs, pk_us⟩, ⟨t, ht, pk_us⟩, Or.inl pk_us⟩
  · rw [pk_un e, pk_un e, pk_un e, pk_un e]
    exact h k (by omega)
theorem LgA.emit (h : LgA st ki co ca sz) (hs : s < 16) (ht : t < 8) (hp : p < 8) (hc : c < sz) : LgA (upd st sz (nI s)) (upd ki sz (nI t)) (upd co sz (nI p)) (upd ca sz (nI c)) (sz + 1) := by
  intro k hk
  by_cases e : k = sz
  · subst e
    exact ⟨⟨s, hs, pk_us⟩, ⟨t, ht, pk_us⟩, Or.inr ⟨p, c, hp, hc, pk_us, pk_us⟩⟩
  · rw [pk_un e, pk_un e, pk_un e, pk_un e]
    exact h k (by omega)
theorem LgV.put (h : LgV ve st sz) (hS : LgS ss st sz) (hs : s < 16) : LgV (upd ve sz (ss s)) (upd st sz (nI s)) (sz + 1) := by
  intro k hk
  by_cases e : k = sz
  · subst e
    rw [pk_us, pk_us, cn_upd (Nat.le_refl k)]
    exact hS s hs
  · rw [pk_un e, pk_un e, cn_upd (by omega)]
    exact h k (by omega)
theorem LgS.put (h : LgS ss st sz) (hs : s < 16) : LgS (upd ss s (ss s + 1)) (upd st sz (nI s)) (sz + 1) := by
  intro a ha
  rw [cn_put]
  by_cases e : a = s
  · subst e
    rw [pk_us, if_pos rfl, h a ha, nI_1]
  · rw [pk_un e, if_neg (fun q => e (nI_inj (by omega) (by omega) q).symm)]
    exact h a ha
theorem LgE.put (h : LgE es co sz) : LgE es (upd co sz (-1)) (sz + 1) := by
  intro a ha
  rw [cn_put, if_neg (nI_m1 (by omega))]
  exact h a ha
theorem LgE.emit (h : LgE es co sz) (hp : p < 8) : LgE (upd es p (es p + 1)) (upd co sz (nI p)) (sz + 1) := by
  intro a ha
  rw [cn_put]
  by_cases e : a = p
  · subst e
    rw [pk_us, if_pos rfl, h a ha, nI_1]
  · rw [pk_un e, if_neg (fun q => e (nI_inj (by omega) (by omega) q).symm)]
    exact h a ha
theorem LgH.up {lo a : Nat} {x y : Int32} (hx : ¬ (x = nI p ∧ y = nI c)) : LgH (upd co sz x) (upd ca sz y) lo (sz + 1) p c ↔ LgH co ca lo sz p c := by
  constructor
  · rintro ⟨k, h0, h1, h2, h3⟩
    by_cases e : k = sz
    · subst e
      rw [pk_us] at h2 h3
      exact absurd ⟨h2, h3⟩ hx
    · rw [pk_un e] at h2 h3
      exact ⟨k, h0, by omega, h2, h3⟩
  · rintro ⟨k, h0, h1, h2, h3⟩
    exact ⟨k, h0, by omega, by rw [pk_un (by omega)]; exact h2, by rw [pk_un (by omega)]; exact h3⟩
theorem LgB.put (h : LgB em co ca sz) : LgB em (upd co sz (-1)) (upd ca sz (-1)) (sz + 1) := by
  intro c p hc hp
  rw [h c p hc hp, LgH.up (a := 0) (fun q => nI_m1 (by omega) q.1)]
theorem LgU.put (h : LgU co ca sz) : LgU (upd co sz (-1)) (upd ca sz (-1)) (sz + 1) := by
  intro k k' p hk hk' hp h1 h2 h3
  have e1 : k ≠ sz := fun e => by
    subst e
    rw [pk_us] at h1
    exact nI_m1 (by omega) h1
  have e2 : k' ≠ sz := fun e => by
    subst e
    rw [pk_us] at h2
    exact nI_m1 (by omega) h2
  rw [pk_un e1] at h1 h3
  rw [pk_un e2] at h2 h3
  exact h k k' p (by omega) (by omega) hp h1 h2 h3
theorem LgU.emit (h : LgU co ca sz) (hp : p < 8) (hn : ¬ LgH co ca 0 sz p c) : LgU (upd co sz (nI p)) (upd ca sz (nI c)) (sz + 1) := by
  intro k k' p' hk hk' hp' h1 h2 h3
  by_cases e1 : k = sz <;> by_cases e2 : k' = sz
  · omega
  · subst e1
    rw [pk_us] at h1 h3
    rw [pk_un e2] at h2 h3
    have hpp : p = p' := nI_inj (by omega) (by omega) h1
    subst hpp
    exact absurd ⟨k', Nat.zero_le _, by omega, h2, h3.symm⟩ hn
  · subst e2
    rw [pk_us] at h2 h3
    rw [pk_un e1] at h1 h3
    have hpp : p = p' := nI_inj (by omega) (by omega) h2
    subst hpp
    exact absurd ⟨k, Nat.zero_le _, by omega, h1, h3⟩ hn
  · rw [pk_un e1] at h1 h3
    rw [pk_un e2] at h2 h3
    exact h k k' p' (by omega) (by omega) hp' h1 h2 h3
end Put
def kb (p : Nat) : Int32 := (1 : Int32) <<< (nI p &&& 31)
theorem kb_bv : ∀ p, p < 8 → (kb p).toBitVec = BitVec.twoPow 32 p := by decide +kernel
theorem kb_bit (x : Int32) {p : Nat} (hp : p < 8) : x &&& kb p = 0 ↔ x.toBitVec.getLsbD p = false := by
  rw [← Int32.toBitVec_inj]
  rw [Int32.toBitVec_and, kb_bv p hp]
  have h0 : (0 : Int32).toBitVec = 0#32 := rfl
  rw [h0, BitVec.and_twoPow]
  cases h : x.toBitVec.getLsbD p
  · simp
  · simp only [if_true]
    constructor
    · intro q
      exfalso
      have := congrArg (fun z : BitVec 32 => z.getLsbD p) q
      simp [BitVec.getLsbD_twoPow, show p < 32 by omega] at this
    · intro q; cases q
theorem kb_or (x : Int32) {p q : Nat} (hp : p < 8) (hq : q < 8) : (x ||| kb p) &&& kb q = 0 ↔ q ≠ p ∧ x &&& kb q = 0 := by
  rw [kb_bit _ hq, kb_bit _ hq, Int32.toBitVec_or, kb_bv p hp, BitVec.getLsbD_or, BitVec.getLsbD_twoPow]
  simp only [Bool.or_eq_false_iff]
  constructor
  · rintro ⟨a, b⟩
    refine ⟨fun e => ?_, a⟩
    subst e
    simp [show q < 32 by omega] at b
  · rintro ⟨a, b⟩
    refine ⟨b, ?_⟩
    simp [Ne.symm a]
theorem kb_clr (x : Int32) {p q : Nat} (hp : p < 8) (hq : q < 8) : (x &&& (kb p ^^^ (-1))) &&& kb q = 0 ↔ q = p ∨ x &&& kb q = 0 := by
  rw [kb_bit _ hq, kb_bit _ hq, Int32.toBitVec_and, Int32.toBitVec_xor, kb_bv p hp, BitVec.getLsbD_and, BitVec.getLsbD_xor, BitVec.getLsbD_twoPow]
  have h1 : ((-1 : Int32).toBitVec).getLsbD q = true := by
    have : ∀ q, q < 8 → ((-1 : Int32).toBitVec).getLsbD q = true := by decide +kernel
    exact this q hq
  rw [h1]
  by_cases e : q = p
  · subst e
    simp [show q < 32 by omega]
  · have e' : ¬ p = q := fun z => e z.symm
    simp [e, e']
theorem LgB.emit {em co ca : Nat → Int32} {sz p c : Nat} (h : LgB em co ca sz) (hp : p < 8) (hc : c < 500) : LgB (upd em c (em c ||| kb p)) (upd co sz (nI p)) (upd ca sz (nI c)) (sz + 1) := by
  intro c' p' hc' hp'
  have hnew : LgH (upd co sz (nI p)) (upd ca sz (nI c)) 0 (sz + 1) p c := ⟨sz, Nat.zero_le _, by omega, pk_us, pk_us⟩
  by_cases e1 : c' = c
  · subst e1
    rw [pk_us]
    show (em c' ||| kb p) &&& kb p' = 0 ↔ _
    rw [kb_or _ hp hp']
    by_cases e2 : p' = p
    · subst e2
      exact ⟨fun q => absurd rfl q.1, fun q => absurd hnew q⟩
    · rw [LgH.up (a := 0) (fun q => e2 (nI_inj (by omega) (by omega) q.1).symm), ← h c' p' hc' hp']
      exact ⟨fun q => q.2, fun q => ⟨e2, q⟩⟩
  · rw [pk_un e1, h c' p' hc' hp', LgH.up (a := 0) (fun q => e1 (nI_inj (by omega) (by omega) q.2).symm)]
def CrS (ss st : Nat → Int32) (du q sz : Nat) : Prop := ∀ s, s < 16 → ss s = nI (cn st (nI s) sz - (cn st (nI s) q - cn st (nI s) du))
def CrE (es co : Nat → Int32) (du q sz : Nat) : Prop := ∀ p, p < 8 → es p = nI (cn co (nI p) sz - (cn co (nI p) q - cn co (nI p) du))
def CrB (em co ca : Nat → Int32) (du q sz : Nat) : Prop := ∀ c p, c < 500 → p < 8 → (em c &&& kb p = 0 ↔ ¬ (LgH co ca 0 du p c ∨ LgH co ca q sz p c))
section Cr
variable {st ki co ca ss es em ve : Nat → Int32} {du q sz s p c : Nat}
theorem CrS.start (h : LgS ss st sz) : CrS ss st du du sz := fun s hs => by rw [Nat.sub_self, Nat.sub_zero]; exact h s hs
theorem CrE.start (h : LgE es co sz) : CrE es co du du sz := fun s hs => by rw [Nat.sub_self, Nat.sub_zero]; exact h s hs
theorem LgH.split (h1 : du ≤ sz) : LgH co ca 0 sz p c ↔ (LgH co ca 0 du p c ∨ LgH co ca du sz p c) := by
  constructor
  · rintro ⟨k, g0, g1, g2, g3⟩
    rcases Nat.lt_or_ge k du with z | z
    · exact Or.inl ⟨k, g0, z, g2, g3⟩
    · exact Or.inr ⟨k, z, g1, g2, g3⟩
  · rintro (⟨k, g0, g1, g2, g3⟩ | ⟨k, g0, g1, g2, g3⟩)
    · exact ⟨k, g0, by omega, g2, g3⟩
    · exact ⟨k, Nat.zero_le _, g1, g2, g3⟩
theorem CrB.start (h : LgB em co ca sz) (h1 : du ≤ sz) : CrB em co ca du du sz := fun c p hc hp => by
  rw [← LgH.split h1]
  exact h c p hc hp
theorem CrS.step (h : CrS ss st du q sz) (h1 : du ≤ q) (h2 : q < sz) (hs : s < 16) (e : st q = nI s) : CrS (upd ss s (ss s - 1)) st du (q + 1) sz := by
  intro a ha
  have m1 : cn st (nI a) du ≤ cn st (nI a) q := cn_mono st _ h1
  have m2 : cn st (nI a) (q + 1) ≤ cn st (nI a) sz := cn_mono st _ (by omega)
  have m3 : cn st (nI a) (q + 1) = cn st (nI a) q + (if st q = nI a then 1 else 0) := rfl
  by_cases ea : a = s
  · subst ea
    rw [if_pos e] at m3
    rw [pk_us, h a ha]
    have e2 : cn st (nI a) sz - (cn st (nI a) q - cn st (nI a) du) = (cn st (nI a) sz - (cn st (nI a) (q + 1) - cn st (nI a) du)) + 1 := by omega
    rw [e2, nI_pred]
  · rw [if_neg (fun z => ea (nI_inj (by omega) (by omega) (e.symm.trans z)).symm)] at m3
    rw [pk_un ea, h a ha, m3]
    rfl
theorem CrE.skip (h : CrE es co du q sz) (e : co q = -1) : CrE es co du (q + 1) sz := by
  intro a ha
  have m3 : cn co (nI a) (q + 1) = cn co (nI a) q + (if co q = nI a then 1 else 0) := rfl
  rw [e, if_neg (nI_m1 (by omega)), Nat.add_zero] at m3
  rw [m3]
  exact h a ha
theorem CrE.step (h : CrE es co du q sz) (h1 : du ≤ q) (h2 : q < sz) (hp : p < 8) (e : co q = nI p) : CrE (upd es p (es p - 1)) co du (q + 1) sz := by
  intro a ha
  have m1 : cn co (nI a) du ≤ cn co (nI a) q := cn_mono co _ h1
  have m2 : cn co (nI a) (q + 1) ≤ cn co (nI a) sz := cn_mono co _ (by omega)
  have m3 : cn co (nI a) (q + 1) = cn co (nI a) q + (if co q = nI a then 1 else 0) := rfl
  by_cases ea : a = p
  · subst ea
    rw [if_pos e] at m3
    rw [pk_us, h a ha]
    have e2 : cn co (nI a) sz - (cn co (nI a) q - cn co (nI a) du) = (cn co (nI a) sz - (cn co (nI a) (q + 1) - cn co (nI a) du)) + 1 := by omega
    rw [e2, nI_pred]
  · rw [if_neg (fun z => ea (nI_inj (by omega) (by omega) (e.symm.trans z)).symm)] at m3
    rw [pk_un ea, h a ha, m3]
    rfl
theorem LgH.next (h2 : q < sz) (hn : ¬ (co q = nI p ∧ ca q = nI c)) : LgH co ca q sz p c ↔ LgH co ca (q + 1) sz p c := by
  constructor
  · rintro ⟨k, g0, g1, g2, g3⟩
    rcases Nat.eq_or_lt_of_le g0 with z | z
    · subst z
      exact absurd ⟨g2, g3⟩ hn
    · exact ⟨k, z, g1, g2, g3⟩
  · rintro ⟨k, g0, g1, g2, g3⟩
    exact ⟨k, by omega, g1, g2, g3⟩
theorem CrB.skip (h : CrB em co ca du q sz) (h2 : q < sz) (e : co q = -1) : CrB em co ca du (q + 1) sz := by
  intro c p hc hp
  rw [← LgH.next h2 (fun z => nI_m1 (by omega) (e.symm.trans z.1))]
  exact h c p hc hp
theorem CrB.step (h : CrB em co ca du q sz) (hU : LgU co ca sz) (h1 : du ≤ q) (h2 : q < sz) (h5 : sz ≤ 500) (hp : p < 8) (hc : c < 500) (e1 : co q = nI p) (e2 : ca q = nI c) : CrB (upd em c (em c &&& (kb p ^^^ (-1)))) co ca du (q + 1) sz := by
  intro c' p' hc' hp'
  by_cases z1 : c' = c
  · subst z1
    rw [pk_us, kb_clr _ hp hp']
    by_cases z2 : p' = p
    · subst z2
      refine ⟨fun _ => ?_, fun _ => Or.inl rfl⟩
      rintro (⟨k, g0, g1, g2, g3⟩ | ⟨k, g0, g1, g2, g3⟩)
      · have := hU k q p' (by omega) h2 hp' g2 e1 (g3.trans e2.symm)
        omega
      · have := hU k q p' g1 h2 hp' g2 e1 (g3.trans e2.symm)
        omega
    · rw [← LgH.next h2 (fun z => z2 (nI_inj (by omega) (by omega) (e1.symm.trans z.1)).symm), ← h c' p' hc' hp']
      exact ⟨fun z => z.resolve_left z2, Or.inr⟩
  · rw [pk_un z1, ← LgH.next h2 (fun z => z1 (nI_inj (by omega) (by omega) (e2.symm.trans z.2)).symm)]
    exact h c' p' hc' hp'
theorem CrS.done (h : CrS ss st du sz sz) (h1 : du ≤ sz) : LgS ss st du := fun s hs => by
  have m1 : cn st (nI s) du ≤ cn st (nI s) sz := cn_mono st _ h1
  rw [h s hs]
  congr 1
  omega
theorem CrE.done (h : CrE es co du sz sz) (h1 : du ≤ sz) : LgE es co du := fun s hs => by
  have m1 : cn co (nI s) du ≤ cn co (nI s) sz := cn_mono co _ h1
  rw [h s hs]
  congr 1
  omega
theorem CrB.done (h : CrB em co ca du sz sz) : LgB em co ca du := fun c p hc hp => by
  refine (h c p hc hp).trans ⟨fun z g => z (Or.inl g), fun z g => ?_⟩
  rcases g with g | ⟨k, g0, g1, -⟩
  · exact z g
  · omega
theorem LgA.less (h : LgA st ki co ca sz) (h1 : du ≤ sz) : LgA st ki co ca du := fun k hk => h k (by omega)
theorem LgV.less (h : LgV ve st sz) (h1 : du ≤ sz) : LgV ve st du := fun k hk => h k (by omega)
theorem LgU.less (h : LgU co ca sz) (h1 : du ≤ sz) : LgU co ca du := fun k k' p hk hk' => h k k' p (by omega) (by omega)
end Cr
