def nt (x : Int32) : Nat := x.toNatClampNeg
theorem nt_nI {k : Nat} (h : k < 2 ^ 31) : nt (nI k) = k := nI_clamp h
def l4 (v : Int64) : Nat := v.toBitVec.toNat % 16
theorem l4_lt (v : Int64) : l4 v < 16 := Nat.mod_lt _ (by decide)
def f_put (a : kW) (sz s : Nat) (kd : Int32) (v : Int64) : kW :=
  uo (ui (ui (ui (ul (ui (ui (ui a 2 sz (nI s)) 3 sz (a.1 9 s)) 4 sz kd) 5 sz v) 6 sz (-1)) 7 sz (-1)) 9 s (a.1 9 s + 1)) 1 9 (nI (sz + 1))
def f_emit (a : kW) (sz p c s : Nat) (v : Int64) : kW :=
  ui (ui (ui (ui (f_put a sz s 7 v) 6 sz (nI p)) 7 sz (nI c)) 8 c (a.1 8 c ||| kb p)) 10 p (a.1 10 p + 1)
def f_zero (f : Nat → Int64) : Nat → Nat → Int64
  | 0 => f
  | k + 1 => vp_updL (f_zero f k) k 0
def f_over (a : kW) (p : Nat) : kW := uo (uo (uL a (12 + 5 * p + 3) (f_zero (a.2.1 (12 + 5 * p + 3)) 16)) (12 + 5 * p) 4 0) (12 + 5 * p) 7 (-1)
def f_rule (a : kW) (p t : Nat) (x y : Int32) : kW := f_over (ui (ui a (12 + 5 * p + 1) t x) (12 + 5 * p + 2) t y) p
def f_fold (x : Int32) (h v : Int64) : Int64 := if x = 1 then h + v else if x = 2 then v else if x = 3 then h + 1 else if x = 4 then (if v < h then h else v) else if x = 5 then (if v < h then v else h) else h
def f_cell (a : kW) (p q : Nat) : Nat := if a.1 (12 + 5 * p + 2) (nt (a.1 4 q)) = 0 then nt (a.1 2 q) else if a.1 (12 + 5 * p + 2) (nt (a.1 4 q)) = 1 then l4 (a.2.1 5 q) else 0
def f_count (a : kW) (p q k sz : Nat) : Bool × kW :=
  if (a.2.1 (12 + 5 * p + 3) k + 1) &&& 1 = 0 ∧ a.1 8 q &&& kb p = 0 then
    if 500 ≤ sz then (false, a) else (true, ul (f_emit a sz p q (l4 (a.2.1 5 q)) (a.2.1 (12 + 5 * p + 3) k + 1)) (12 + 5 * p + 3) k (a.2.1 (12 + 5 * p + 3) k + 1))
  else (true, ul a (12 + 5 * p + 3) k (a.2.1 (12 + 5 * p + 3) k + 1))
theorem f_count_o (a : kW) (p q k sz z y : Nat) : (f_count a p q k sz).2.2.2 (12 + 5 * z) y = a.2.2 (12 + 5 * z) y := by
  unfold f_count
  split
  · split
    · rfl
    · show (if 12 + 5 * z = 1 ∧ y = 9 then _ else a.2.2 (12 + 5 * z) y) = _
      rw [if_neg (by omega)]
  · rfl
theorem f_cell_lt {a : kW} {p q s : Nat} (hs : s < 16) (es : a.1 2 q = nI s) : f_cell a p q < 16 := by
  unfold f_cell
  split
  · rw [es, nt_nI (by omega)]; exact hs
  · split
    · exact l4_lt _
    · omega
def f_takeAt (a : kW) (p sz q : Nat) : Bool × kW :=
  if sz ≤ q then (false, a)
  else if a.1 (12 + 5 * p + 1) (nt (a.1 4 q)) = 6 then
    (if (f_count a p q (f_cell a p q) sz).1 then (true, uo (f_count a p q (f_cell a p q) sz).2 (12 + 5 * p) 4 (nI (q + 1))) else (false, (f_count a p q (f_cell a p q) sz).2))
  else (true, uo (ul a (12 + 5 * p + 3) (f_cell a p q) (f_fold (a.1 (12 + 5 * p + 1) (nt (a.1 4 q))) (a.2.1 (12 + 5 * p + 3) (f_cell a p q)) (a.2.1 5 q))) (12 + 5 * p) 4 (nI (q + 1)))
def f_take (a : kW) (p : Nat) : Bool × kW := f_takeAt a p (nt (a.2.2 1 9)) (nt (a.2.2 (12 + 5 * p) 4))
def f_adv (p : Nat) : Nat → Nat → kW → Nat × kW
  | 0, t, a => (t, a)
  | n + 1, t, a => if (f_take a p).1 then f_adv p n (t + 1) (f_take a p).2 else (t, a)
theorem i32_nat (x : Int64) : x.toInt32.toBitVec.toNat = x.toBitVec.toNat % 2 ^ 32 := by
  rw [Int64.toBitVec_toInt32, BitVec.signExtend_eq_setWidth_of_le _ (by decide), BitVec.toNat_setWidth]
theorem l4_a (v : Int64) : (v &&& 15).toInt32 = nI (l4 v) := by
  rw [← Int32.toBitVec_inj]
  apply BitVec.eq_of_toNat_eq
  have h1 : (nI (l4 v)).toBitVec.toNat = l4 v := pk_tn (by have := l4_lt v; omega)
  rw [h1]
  have h2 : (v &&& 15).toInt32.toBitVec.toNat = ((v &&& 15).toBitVec.toNat) % 2 ^ 32 := i32_nat _
  rw [h2, Int64.toBitVec_and, BitVec.toNat_and]
  have h3 : (15 : Int64).toBitVec.toNat = 2 ^ 4 - 1 := rfl
  rw [h3, Nat.and_two_pow_sub_one_eq_mod]
  show v.toBitVec.toNat % 16 % 4294967296 = v.toBitVec.toNat % 16
  omega
theorem l4_b (v : Int64) : v.toInt32 &&& 15 = nI (l4 v) := by
  rw [← Int32.toBitVec_inj]
  apply BitVec.eq_of_toNat_eq
  have h1 : (nI (l4 v)).toBitVec.toNat = l4 v := pk_tn (by have := l4_lt v; omega)
  rw [h1, Int32.toBitVec_and, BitVec.toNat_and]
  have h3 : (15 : Int32).toBitVec.toNat = 2 ^ 4 - 1 := rfl
  rw [h3, Nat.and_two_pow_sub_one_eq_mod]
  have h2 : v.toInt32.toBitVec.toNat = v.toBitVec.toNat % 2 ^ 32 := i32_nat v
  rw [h2]
  show v.toBitVec.toNat % 4294967296 % 16 = v.toBitVec.toNat % 16
  omega
def f_forget (a : kW) (q : Nat) : kW := ui (ui a 8 (nt (a.1 7 q)) (a.1 8 (nt (a.1 7 q)) &&& (kb (nt (a.1 6 q)) ^^^ (-1)))) 10 (nt (a.1 6 q)) (a.1 10 (nt (a.1 6 q)) - 1)
def f_drop1 (a : kW) (q : Nat) : kW := if a.1 6 q = -1 then ui a 9 (nt (a.1 2 q)) (a.1 9 (nt (a.1 2 q)) - 1) else f_forget (ui a 9 (nt (a.1 2 q)) (a.1 9 (nt (a.1 2 q)) - 1)) q
def f_drop : Nat → Nat → kW → kW
  | 0, _, a => a
  | m + 1, q, a => f_drop m (q + 1) (f_drop1 a q)
theorem f_drop1_2 (a : kW) (q : Nat) : (f_drop1 a q).1 2 = a.1 2 ∧ (f_drop1 a q).1 6 = a.1 6 ∧ (f_drop1 a q).1 7 = a.1 7 ∧ (f_drop1 a q).2.2 = a.2.2 := by
  unfold f_drop1 f_forget
  split <;> exact ⟨rfl, rfl, rfl, rfl⟩
def f_find (a : kW) (x y : Int32) : Nat → Nat → Int32
  | 0, _ => -1
  | m + 1, q => if a.1 2 q = x ∧ a.1 3 q = y then nI q else f_find a x y m (q + 1)
def f_keep (a : kW) (p : Nat) (x : Int32) : kW := uo (uo (uL a (12 + 5 * p + 4) (va_cpy (a.2.1 (12 + 5 * p + 3)) (a.2.1 (12 + 5 * p + 4)) 0 0 16)) (12 + 5 * p) 6 (a.2.2 (12 + 5 * p) 4)) (12 + 5 * p) 7 x
def f_recover (a : kW) (p : Nat) (x : Int32) : kW := if a.2.2 (12 + 5 * p) 7 = -1 ∨ x < a.2.2 (12 + 5 * p) 7 then f_over a p else uo (uL a (12 + 5 * p + 3) (va_cpy (a.2.1 (12 + 5 * p + 4)) (a.2.1 (12 + 5 * p + 3)) 0 0 16)) (12 + 5 * p) 4 (a.2.2 (12 + 5 * p) 6)
def f_filter (a : kW) (u : Nat) (x y : Int32) : kW := uo (uo (uo (uo a (53 + u) 0 x) (53 + u) 1 y) (53 + u) 2 0) (53 + u) 3 0
def f_lets (a : kW) (u : Nat) (x y : Int32) : Prop := (a.2.2 (53 + u) 0 = -1 ∨ a.2.2 (53 + u) 0 = x) ∧ ¬ (a.2.2 (53 + u) 1 &&& ((1 : Int32) <<< (y &&& 31)) = 0)
noncomputable def f_wait (a : kW) (u : Nat) : Nat → Nat → Int32
  | 0, _ => -1
  | m + 1, q => haveI := Classical.propDecidable (f_lets a u (a.1 2 q) (a.1 4 q)); if f_lets a u (a.1 2 q) (a.1 4 q) then nI q else f_wait a u m (q + 1)
def f_pass (a : kW) (u : Nat) (x : Int32) : kW := uo a (53 + u) 2 (if a.2.2 (53 + u) 2 < x + 1 then x + 1 else a.2.2 (53 + u) 2)
def f_safe (a : kW) (u : Nat) : kW := uo a (53 + u) 3 (a.2.2 (53 + u) 2)
def f_srec (a : kW) (u : Nat) (x : Int32) : kW := uo a (53 + u) 2 (if x < a.2.2 (53 + u) 3 then x else a.2.2 (53 + u) 3)
section KCP
variable {E : kx_E} {I : kx_I} {d mc ms : Nat} {Q : kx_Q} {k j pc : Nat} {lv : List (Nat × Value)} {st : List Value} {n : Nat} {a b : kW}
theorem ka_copy {index N i r : Nat} (hdg : decode I.2.1 pc = .ok (.invokestatic index, 3)) (h1 : Cond.methodLink I.1 index arraycopyName ∈ kx_tb) (h2 : Cond.native arraycopyName ∈ kx_tb) (h3 : Cond.static arraycopyName ∈ kx_tb) (h4 : Cond.initialized "java/lang/System" ∈ kx_tb) (hi : i < 61) (hr : r < 61) (hki : wk i = (2, N)) (hkr : wk r = (2, N)) (hN : N ≤ 100000) (hd : 3 ≤ d) (hs : (st.map fun v => v.category).sum ≤ 8)
    (kk : kx_V E I d mc ms Q k j (pc + 3) lv st n (wd (wx (uL a r (va_cpy (a.2.1 i) (a.2.1 r) 0 0 N)) b))) : kx_V E I d mc ms Q k j pc lv (.int (nI N) :: .int 0 :: .ref r :: .int 0 :: .ref i :: st) n (wd (wx a b)) := by
  refine kx_copy hdg h1 h2 h3 h4 (wd_l hki) (wd_l hkr) hN hd hs (kx_eqh ?_ kk)
  rw [wx_al hi, wx_al hr]
  exact (wd_sL hkr).trans (congrArg wd (uL_xa hr))
end KCP
