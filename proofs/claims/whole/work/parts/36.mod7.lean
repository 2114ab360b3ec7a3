theorem kx_par (x : Int64) : x - x / 2 * 2 = 0 ↔ x &&& 1 = 0 := by
  have hx1 : -9223372036854775808 ≤ x.toInt := Int64.minValue_le_toInt x
  have hx2 : x.toInt ≤ 9223372036854775807 := Int64.toInt_le x
  have h2 : (2 : Int64).toInt = 2 := rfl
  obtain ⟨d, hd⟩ : ∃ d, d = x.toInt.tdiv 2 := ⟨_, rfl⟩
  have hd2 : (0 ≤ x.toInt - d * 2 ∧ x.toInt - d * 2 ≤ 1) ∨ (-1 ≤ x.toInt - d * 2 ∧ x.toInt - d * 2 ≤ 0) := by
    have h := Int.tdiv_eq_ediv (a := x.toInt) (b := 2)
    rw [← hd] at h
    split at h
    · have : d = x.toInt / 2 := by omega
      omega
    · have : d = x.toInt / 2 + 1 := h
      omega
  have hb : (x / 2).toInt = d := by
    rw [Int64.toInt_div, h2, ← hd]
    apply Int.bmod_eq_of_le <;> omega
  have hm : (x - x / 2 * 2).toInt = x.toInt - d * 2 := by
    rw [Int64.toInt_sub, Int64.toInt_mul, hb, h2]
    rw [Int.sub_bmod_bmod (n := 2^64)]
    apply Int.bmod_eq_of_le <;> omega
  have e1 : x - x / 2 * 2 = 0 ↔ x.toInt % 2 = 0 := by
    rw [← Int64.toInt_inj, hm]
    show x.toInt - d * 2 = 0 ↔ _
    omega
  have e2 : x &&& 1 = 0 ↔ x.toBitVec.toNat % 2 = 0 := by
    rw [← Int64.toBitVec_inj, ← BitVec.toNat_inj, Int64.toBitVec_and, BitVec.toNat_and]
    have h3 : (1 : Int64).toBitVec.toNat = 2 ^ 1 - 1 := rfl
    rw [h3, Nat.and_two_pow_sub_one_eq_mod]
    exact Iff.rfl
  rw [e1, e2]
  have e3 : x.toInt = x.toBitVec.toInt := rfl
  rw [e3, BitVec.toInt_eq_toNat_bmod, Int.bmod_def]
  have := x.toBitVec.isLt
  split <;> omega
def g_cell (b : kW) (p q : Nat) : Nat := if b.1 70 (8 * p + nt (b.1 63 q)) = 0 then nt (b.1 62 q) else if b.1 70 (8 * p + nt (b.1 63 q)) = 1 then l4 (b.2.1 66 q) else 0
theorem g_cell_lt {b : kW} {p q s : Nat} (hs : s < 16) (es : b.1 62 q = nI s) : g_cell b p q < 16 := by
  unfold g_cell
  split
  · rw [es, nt_nI (by omega)]; exact hs
  · split
    · exact l4_lt _
    · omega
def g_no (b : kW) (p q : Nat) : Nat → Nat → Bool
  | 0, _ => true
  | m + 1, i => if b.1 64 i = nI p ∧ b.1 65 i = nI q then false else g_no b p q m (i + 1)
def g_count (b : kW) (p q k sz : Nat) : Bool × kW :=
  if (b.2.1 67 (16 * p + k) + 1) &&& 1 = 0 ∧ g_no b p q sz 0 = true then
    if sz = 500 then (false, b) else (true, g_put (ul b 67 (16 * p + k) (b.2.1 67 (16 * p + k) + 1)) sz (nI (l4 (b.2.1 66 q))) 7 (b.2.1 67 (16 * p + k) + 1) (nI p) (nI q))
  else (true, ul b 67 (16 * p + k) (b.2.1 67 (16 * p + k) + 1))
def g_takeAt (b : kW) (p sz q : Nat) : Bool × kW :=
  if b.1 69 (8 * p + nt (b.1 63 q)) = 6 then g_count b p q (g_cell b p q) sz
  else (true, ul b 67 (16 * p + g_cell b p q) (f_fold (b.1 69 (8 * p + nt (b.1 63 q))) (b.2.1 67 (16 * p + g_cell b p q)) (b.2.1 66 q)))
theorem ul_id {b : kW} {i k : Nat} {x : Int64} (h : b.2.1 i k = x) : ul b i k x = b := by
  refine Prod.ext rfl (Prod.ext (funext fun z => ?_) rfl)
  by_cases e : z = i
  · subst e
    show (if z = z then vp_updL (b.2.1 z) k x else b.2.1 z) = b.2.1 z
    rw [if_pos rfl]
    funext y
    by_cases ey : y = k
    · subst ey; simp [vp_updL, h]
    · simp [vp_updL, ey]
  · simp [ul, e]
set_option maxHeartbeats 4000000 in
set_option maxRecDepth 100000 in
theorem k_takes_loop {E : kx_E} {n : Nat} {a b : kW} {p q sz : Nat} {cc v : Int64} {kx w4 w3 : Int32} {Q : kx_Q} (h1 : b.2.2 61 1 = nI sz) (h5 : sz ≤ 500) (m : Nat) : ∀ (i : Nat), i + m = sz → (∀ x, kx_V E i_M_takes 2 0 0 Q 0 0 303 [(11, .int x), (10, .int (if g_no b p q m i = true then 1 else 0)), (8, .long cc), (6, .long v), (5, .int kx), (4, .int w4), (3, .int w3), (0, .ref 61), (1, .int (nI p)), (2, .int (nI q))] [] n (wd (wx a b))) → kx_V E i_M_takes 2 0 0 Q 0 0 258 [(11, .int (nI i)), (10, .int 1), (8, .long cc), (6, .long v), (5, .int kx), (4, .int w4), (3, .int w3), (0, .ref 61), (1, .int (nI p)), (2, .int (nI q))] [] n (wd (wx a b)) := by
  induction m with
  | zero =>
    intro i hm hk
    have hi : i = sz := by omega
    subst hi
    refine kx_iload (pc := 258) d_M_takes_258 rfl ?_
    refine kx_aload_n (pc := 260) d_M_takes_260 rfl ?_
    refine km_geti (pc := 261) d_M_takes_261 fl_M_63 (by decide) rfl (by decide) rfl ?_
    refine kx_eqi h1 ?_
    refine kx_icmp_ge (pc := 264) (tgt := 303) d_M_takes_264 (by decide) (fun _ => ?_) (fun hz => absurd (nI_le (Nat.le_refl i) (by omega)) hz)
    exact hk _
  | succ m ih =>
    intro i hm hk
    have hlt : i < sz := by omega
    have i5 : i < 500 := by omega
    have hno : ¬ (b.1 64 i = nI p ∧ b.1 65 i = nI q) → kx_V E i_M_takes 2 0 0 Q 0 0 297 [(11, .int (nI i)), (10, .int 1), (8, .long cc), (6, .long v), (5, .int kx), (4, .int w4), (3, .int w3), (0, .ref 61), (1, .int (nI p)), (2, .int (nI q))] [] n (wd (wx a b)) := by
      intro hw
      have ec : g_no b p q (m + 1) i = g_no b p q m (i + 1) := if_neg hw
      rw [ec] at hk
      refine kx_iinc (pc := 297) (y := nI (i + 1)) (lv' := [(11, _), (10, _), (8, _), (6, _), (5, _), (4, _), (3, _), (0, _), (1, _), (2, _)]) d_M_takes_297 rfl (nI_1 i) (by decide) rfl ?_
      refine kx_goto (pc := 300) (tgt := 258) d_M_takes_300 (by decide) ?_
      exact ih (i + 1) (by omega) hk
    refine kx_iload (pc := 258) d_M_takes_258 rfl ?_
    refine kx_aload_n (pc := 260) d_M_takes_260 rfl ?_
    refine km_geti (pc := 261) d_M_takes_261 fl_M_63 (by decide) rfl (by decide) rfl ?_
    refine kx_eqi h1 ?_
    refine kx_icmp_ge (pc := 264) (tgt := 303) d_M_takes_264 (by decide) (fun hz => absurd hz (nI_ge hlt (by omega))) (fun _ => ?_)
    refine kx_iload (pc := 267) d_M_takes_267 rfl ?_
    refine kx_if_eq (pc := 269) (tgt := 303) d_M_takes_269 (by decide) (fun hz => absurd hz (by decide)) (fun _ => ?_)
    refine kx_aload_n (pc := 272) d_M_takes_272 rfl ?_
    refine kw_getr (pc := 273) (r := 64) d_M_takes_273 fl_M_16 rfl (by decide) rfl ?_
    refine kx_iload (pc := 276) d_M_takes_276 rfl ?_
    refine km_iald (pc := 278) d_M_takes_278 (by decide) rfl ⟨rfl, i5, by decide⟩ ?_
    refine kx_iload_n (pc := 279) d_M_takes_279 rfl ?_
    refine kx_icmp_ne (pc := 280) (tgt := 297) d_M_takes_280 (by decide) (fun hz => ?_) (fun hz => ?_)
    · exact hno (fun w => hz w.1)
    · refine kx_aload_n (pc := 283) d_M_takes_283 rfl ?_
      refine kw_getr (pc := 284) (r := 65) d_M_takes_284 fl_M_19 rfl (by decide) rfl ?_
      refine kx_iload (pc := 287) d_M_takes_287 rfl ?_
      refine km_iald (pc := 289) d_M_takes_289 (by decide) rfl ⟨rfl, i5, by decide⟩ ?_
      refine kx_iload_n (pc := 290) d_M_takes_290 rfl ?_
      refine kx_icmp_ne (pc := 291) (tgt := 297) d_M_takes_291 (by decide) (fun hy => ?_) (fun hy => ?_)
      · exact hno (fun w => hy w.2)
      · have ec : g_no b p q (m + 1) i = false := if_pos ⟨hz, hy⟩
        rw [ec] at hk
        refine kx_iconst (pc := 294) (x := 0) d_M_takes_294 (by decide) ?_
        refine kx_istore (pc := 295) (lv' := [(10, _), (11, _), (8, _), (6, _), (5, _), (4, _), (3, _), (0, _), (1, _), (2, _)]) d_M_takes_295 (by decide) rfl ?_
        refine kx_iinc (pc := 297) (y := nI (i + 1)) (lv' := [(11, _), (10, _), (8, _), (6, _), (5, _), (4, _), (3, _), (0, _), (1, _), (2, _)]) d_M_takes_297 rfl (nI_1 i) (by decide) rfl ?_
        refine kx_goto (pc := 300) (tgt := 258) d_M_takes_300 (by decide) ?_
        refine kx_sub [0, 1, 2, 3, 4, 5, 6, 7, 8, 9] rfl ?_
        refine kx_iload (pc := 258) d_M_takes_258 rfl ?_
        refine kx_aload_n (pc := 260) d_M_takes_260 rfl ?_
        refine km_geti (pc := 261) d_M_takes_261 fl_M_63 (by decide) rfl (by decide) rfl ?_
        refine kx_eqi h1 ?_
        refine kx_icmp_ge (pc := 264) (tgt := 303) d_M_takes_264 (by decide) (fun hg => ?_) (fun hg => ?_)
        · exact hk _
        · refine kx_iload (pc := 267) d_M_takes_267 rfl ?_
          refine kx_if_eq (pc := 269) (tgt := 303) d_M_takes_269 (by decide) (fun _ => ?_) (fun hz => absurd rfl hz)
          exact hk _
set_option maxHeartbeats 4000000 in
set_option maxRecDepth 100000 in
theorem k_takes {E : kx_E} {n : Nat} {a b : kW} {p q sz t s : Nat} (hp : p < 8) (hq : q < sz) (h1 : b.2.2 61 1 = nI sz) (h5 : sz ≤ 500) (ht : t < 8) (ek : b.1 63 q = nI t) (hs : s < 16) (es : b.1 62 q = nI s) : kx_V E i_M_takes 2 0 0 (fun r _ h' => r = Sum.inl (some (.int (if (g_takeAt b p sz q).1 then 1 else 0))) ∧ h' = wd (wx a (g_takeAt b p sz q).2)) 0 0 0 (lv_args 0 [.ref 61, .int (nI p), .int (nI q)]) [] n (wd (wx a b)) := by
  have q5 : q < 500 := by omega
  have nk : nt (b.1 63 q) = t := by rw [ek]; exact nt_nI (by omega)
  have hc16 : g_cell b p q < 16 := g_cell_lt hs es
  have hk : 16 * p + g_cell b p q < 128 := by omega
  have et : g_takeAt b p sz q = if b.1 69 (8 * p + t) = 6 then g_count b p q (g_cell b p q) sz else (true, ul b 67 (16 * p + g_cell b p q) (f_fold (b.1 69 (8 * p + t)) (b.2.1 67 (16 * p + g_cell b p q)) (b.2.1 66 q))) := by
    unfold g_takeAt
    rw [nk]
  have fo : ∀ z, f_fold (b.1 69 (8 * p + t)) (b.2.1 67 (16 * p + g_cell b p q)) (b.2.1 66 q) = z → ¬ b.1 69 (8 * p + t) = 6 → g_takeAt b p sz q = (true, ul b 67 (16 * p + g_cell b p q) z) := fun z hz h6 => by rw [et, if_neg h6, hz]
  have c0 : b.1 69 (8 * p + t) = 6 → ¬ (((b.2.1 67 (16 * p + g_cell b p q)) + 1) &&& 1 = 0 ∧ g_no b p q sz 0 = true) → ∀ x, kx_V E i_M_takes 2 0 0 (fun r _ h' => r = Sum.inl (some (.int (if (g_takeAt b p sz q).1 then 1 else 0))) ∧ h' = wd (wx a (g_takeAt b p sz q).2)) 0 0 303 [(11, .int x), (10, .int 0), (8, .long ((b.2.1 67 (16 * p + g_cell b p q)) + 1)), (6, .long (b.2.1 66 q)), (5, .int (nI (16 * p + g_cell b p q))), (4, .int (b.1 70 (8 * p + t))), (3, .int (b.1 69 (8 * p + t))), (0, .ref 61), (1, .int (nI p)), (2, .int (nI q))] [] n (wd (wx a b)) := by
    intro h6 hno x
    have e : g_takeAt b p sz q = (true, ul b 67 (16 * p + g_cell b p q) ((b.2.1 67 (16 * p + g_cell b p q)) + 1)) := by rw [et, if_pos h6]; exact if_neg hno
    refine kx_iload (pc := 303) d_M_takes_303 rfl ?_
    refine kx_if_eq (pc := 305) (tgt := 320) d_M_takes_305 (by decide) (fun _ => ?_) (fun hz => absurd rfl hz)
    refine kx_aload_n (pc := 320) d_M_takes_320 rfl ?_
    refine kw_getr (pc := 321) (r := 67) d_M_takes_321 fl_M_26 rfl (by decide) rfl ?_
    refine kx_iload (pc := 324) d_M_takes_324 rfl ?_
    refine kx_lload (pc := 326) d_M_takes_326 rfl ?_
    refine km_last (pc := 328) d_M_takes_328 (by decide) rfl ⟨rfl, hk, by decide⟩ ?_
    refine kx_iload (pc := 329) d_M_takes_329 rfl ?_
    refine kx_if_eq (pc := 331) (tgt := 351) d_M_takes_331 (by decide) (fun _ => ?_) (fun hz => absurd rfl hz)
    refine kx_iconst (pc := 351) (x := 1) d_M_takes_351 (by decide) ?_
    exact kx_zret rfl rfl d_M_takes_352 ⟨by rw [e]; rfl, by rw [e]⟩
  have c1 : b.1 69 (8 * p + t) = 6 → (((b.2.1 67 (16 * p + g_cell b p q)) + 1) &&& 1 = 0 ∧ g_no b p q sz 0 = true) → ∀ x, kx_V E i_M_takes 2 0 0 (fun r _ h' => r = Sum.inl (some (.int (if (g_takeAt b p sz q).1 then 1 else 0))) ∧ h' = wd (wx a (g_takeAt b p sz q).2)) 0 0 303 [(11, .int x), (10, .int 1), (8, .long ((b.2.1 67 (16 * p + g_cell b p q)) + 1)), (6, .long (b.2.1 66 q)), (5, .int (nI (16 * p + g_cell b p q))), (4, .int (b.1 70 (8 * p + t))), (3, .int (b.1 69 (8 * p + t))), (0, .ref 61), (1, .int (nI p)), (2, .int (nI q))] [] n (wd (wx a b)) := by
    intro h6 hyes x
    have e1 : g_takeAt b p sz q = if sz = 500 then (false, b) else (true, g_put (ul b 67 (16 * p + g_cell b p q) ((b.2.1 67 (16 * p + g_cell b p q)) + 1)) sz (nI (l4 (b.2.1 66 q))) 7 ((b.2.1 67 (16 * p + g_cell b p q)) + 1) (nI p) (nI q)) := by rw [et, if_pos h6]; exact if_pos hyes
    refine kx_iload (pc := 303) d_M_takes_303 rfl ?_
    refine kx_if_eq (pc := 305) (tgt := 320) d_M_takes_305 (by decide) (fun hz => absurd hz (by decide)) (fun _ => ?_)
    refine kx_aload_n (pc := 308) d_M_takes_308 rfl ?_
    refine km_geti (pc := 309) d_M_takes_309 fl_M_63 (by decide) rfl (by decide) rfl ?_
    refine kx_eqi h1 ?_
    refine kx_sipush (pc := 312) (x := 500) d_M_takes_312 (by decide) ?_
    refine kx_eqi (show (500 : Int32) = nI 500 from rfl) ?_
    refine kx_icmp_ne (pc := 315) (tgt := 320) d_M_takes_315 (by decide) (fun hz => ?_) (fun hz => ?_)
    · have hne : ¬ sz = 500 := fun w => hz (by rw [w])
      have e := e1.trans (if_neg hne)
      refine kx_aload_n (pc := 320) d_M_takes_320 rfl ?_
      refine kw_getr (pc := 321) (r := 67) d_M_takes_321 fl_M_26 rfl (by decide) rfl ?_
      refine kx_iload (pc := 324) d_M_takes_324 rfl ?_
      refine kx_lload (pc := 326) d_M_takes_326 rfl ?_
      refine km_last (pc := 328) d_M_takes_328 (by decide) rfl ⟨rfl, hk, by decide⟩ ?_
      refine kx_iload (pc := 329) d_M_takes_329 rfl ?_
      refine kx_if_eq (pc := 331) (tgt := 351) d_M_takes_331 (by decide) (fun hz => absurd hz (by decide)) (fun _ => ?_)
      refine kx_aload_n (pc := 334) d_M_takes_334 rfl ?_
      refine kx_lload (pc := 335) d_M_takes_335 rfl ?_
      refine kx_l2i (pc := 337) d_M_takes_337 ?_
      refine kx_bipush (pc := 338) (x := 15) d_M_takes_338 (by decide) ?_
      refine kx_iand (pc := 340) d_M_takes_340 ?_
      refine kx_eqi (l4_b _) ?_
      refine kx_bipush (pc := 341) (x := 7) d_M_takes_341 (by decide) ?_
      refine kx_lload (pc := 343) d_M_takes_343 rfl ?_
      refine kx_iload_n (pc := 345) d_M_takes_345 rfl ?_
      refine kx_iload_n (pc := 346) d_M_takes_346 rfl ?_
      refine kx_invV (pc := 347) (as := [.int _, .int _, .long _, .int _, .int _]) (st := []) (k := 0) (j := 0) d_M_takes_347 wv_M_78 (wd_o rfl) (k_mput (a := a) (b := ul b 67 (16 * p + g_cell b p q) ((b.2.1 67 (16 * p + g_cell b p q)) + 1)) (ev := sz) h1 (by omega)) rfl rfl (Nat.le_of_ble_eq_true rfl) (by decide) (Nat.le_of_ble_eq_true rfl) (fun rv n' h' hq => ?_) (fun X n' h' hq => nomatch hq.2)
      obtain ⟨rfl, hq⟩ := hq
      cases hq
      refine kx_pop (pc := 350) d_M_takes_350 rfl ?_
      refine kx_iconst (pc := 351) (x := 1) d_M_takes_351 (by decide) ?_
      exact kx_zret rfl rfl d_M_takes_352 ⟨by rw [e]; rfl, by rw [e]⟩
    · have e := e1.trans (if_pos (nI_inj (by omega) (by omega) hz))
      refine kx_iconst (pc := 318) (x := 0) d_M_takes_318 (by decide) ?_
      exact kx_zret rfl rfl d_M_takes_319 ⟨by rw [e]; rfl, by rw [e]⟩
  have tz : b.1 69 (8 * p + t) = 6 → ¬ (((b.2.1 67 (16 * p + g_cell b p q)) + 1) &&& 1 = 0 ∧ g_no b p q sz 0 = true) → kx_V E i_M_takes 2 0 0 (fun r _ h' => r = Sum.inl (some (.int (if (g_takeAt b p sz q).1 then 1 else 0))) ∧ h' = wd (wx a (g_takeAt b p sz q).2)) 0 0 258 [(11, .int 0), (10, .int 0), (8, .long ((b.2.1 67 (16 * p + g_cell b p q)) + 1)), (6, .long (b.2.1 66 q)), (5, .int (nI (16 * p + g_cell b p q))), (4, .int (b.1 70 (8 * p + t))), (3, .int (b.1 69 (8 * p + t))), (0, .ref 61), (1, .int (nI p)), (2, .int (nI q))] [] n (wd (wx a b)) := by
    intro x6 hno
    refine kx_iload (pc := 258) d_M_takes_258 rfl ?_
    refine kx_aload_n (pc := 260) d_M_takes_260 rfl ?_
    refine km_geti (pc := 261) d_M_takes_261 fl_M_63 (by decide) rfl (by decide) rfl ?_
    refine kx_eqi h1 ?_
    refine kx_icmp_ge (pc := 264) (tgt := 303) d_M_takes_264 (by decide) (fun hg => ?_) (fun hg => ?_)
    · exact c0 x6 hno _
    · refine kx_iload (pc := 267) d_M_takes_267 rfl ?_
      refine kx_if_eq (pc := 269) (tgt := 303) d_M_takes_269 (by decide) (fun _ => ?_) (fun hz => absurd rfl hz)
      exact c0 x6 hno _
  have ty : b.1 69 (8 * p + t) = 6 → ((b.2.1 67 (16 * p + g_cell b p q)) + 1) &&& 1 = 0 → kx_V E i_M_takes 2 0 0 (fun r _ h' => r = Sum.inl (some (.int (if (g_takeAt b p sz q).1 then 1 else 0))) ∧ h' = wd (wx a (g_takeAt b p sz q).2)) 0 0 258 [(11, .int (nI 0)), (10, .int 1), (8, .long ((b.2.1 67 (16 * p + g_cell b p q)) + 1)), (6, .long (b.2.1 66 q)), (5, .int (nI (16 * p + g_cell b p q))), (4, .int (b.1 70 (8 * p + t))), (3, .int (b.1 69 (8 * p + t))), (0, .ref 61), (1, .int (nI p)), (2, .int (nI q))] [] n (wd (wx a b)) := by
    intro x6 hev
    refine k_takes_loop h1 h5 sz 0 (by omega) (fun x => ?_)
    by_cases hno : g_no b p q sz 0 = true
    · rw [if_pos hno]
      exact c1 x6 ⟨hev, hno⟩ x
    · rw [if_neg hno]
      exact c0 x6 (fun w => hno w.2) x
  have t84 : kx_V E i_M_takes 2 0 0 (fun r _ h' => r = Sum.inl (some (.int (if (g_takeAt b p sz q).1 then 1 else 0))) ∧ h' = wd (wx a (g_takeAt b p sz q).2)) 0 0 84 [(6, .long (b.2.1 66 q)), (5, .int (nI (16 * p + g_cell b p q))), (4, .int (b.1 70 (8 * p + t))), (3, .int (b.1 69 (8 * p + t))), (0, .ref 61), (1, .int (nI p)), (2, .int (nI q))] [] n (wd (wx a b)) := by
    refine kx_iload_n (pc := 84) d_M_takes_84 rfl ?_
    refine kx_iconst (pc := 85) (x := 1) d_M_takes_85 (by decide) ?_
    refine kx_icmp_ne (pc := 86) (tgt := 104) d_M_takes_86 (by decide) (fun x1 => ?_) (fun x1 => ?_)
    · refine kx_iload_n (pc := 104) d_M_takes_104 rfl ?_
      refine kx_iconst (pc := 105) (x := 2) d_M_takes_105 (by decide) ?_
      refine kx_icmp_ne (pc := 106) (tgt := 121) d_M_takes_106 (by decide) (fun x2 => ?_) (fun x2 => ?_)
      · refine kx_iload_n (pc := 121) d_M_takes_121 rfl ?_
        refine kx_iconst (pc := 122) (x := 3) d_M_takes_122 (by decide) ?_
        refine kx_icmp_ne (pc := 123) (tgt := 140) d_M_takes_123 (by decide) (fun x3 => ?_) (fun x3 => ?_)
        · refine kx_iload_n (pc := 140) d_M_takes_140 rfl ?_
          refine kx_iconst (pc := 141) (x := 4) d_M_takes_141 (by decide) ?_
          refine kx_icmp_ne (pc := 142) (tgt := 180) d_M_takes_142 (by decide) (fun x4 => ?_) (fun x4 => ?_)
          · refine kx_iload_n (pc := 180) d_M_takes_180 rfl ?_
            refine kx_iconst (pc := 181) (x := 5) d_M_takes_181 (by decide) ?_
            refine kx_icmp_ne (pc := 182) (tgt := 220) d_M_takes_182 (by decide) (fun x5 => ?_) (fun x5 => ?_)
            · refine kx_iload_n (pc := 220) d_M_takes_220 rfl ?_
              refine kx_bipush (pc := 221) (x := 6) d_M_takes_221 (by decide) ?_
              refine kx_icmp_ne (pc := 223) (tgt := 351) d_M_takes_223 (by decide) (fun x6 => ?_) (fun x6 => ?_)
              · have e := fo (b.2.1 67 (16 * p + g_cell b p q)) (by unfold f_fold; rw [if_neg x1, if_neg x2, if_neg x3, if_neg x4, if_neg x5]) x6
                rw [ul_id rfl] at e
                refine kx_iconst (pc := 351) (x := 1) d_M_takes_351 (by decide) ?_
                exact kx_zret rfl rfl d_M_takes_352 ⟨by rw [e]; rfl, by rw [e]⟩
              · refine kx_aload_n (pc := 226) d_M_takes_226 rfl ?_
                refine kw_getr (pc := 227) (r := 67) d_M_takes_227 fl_M_26 rfl (by decide) rfl ?_
                refine kx_iload (pc := 230) d_M_takes_230 rfl ?_
                refine km_lald (pc := 232) d_M_takes_232 (by decide) rfl ⟨rfl, hk, by decide⟩ ?_
                refine kx_lconst (pc := 233) (x := 1) d_M_takes_233 (by decide) ?_
                refine kx_ladd (pc := 234) d_M_takes_234 ?_
                refine kx_lstore (pc := 235) (lv' := [(8, _), (6, _), (5, _), (4, _), (3, _), (0, _), (1, _), (2, _)]) d_M_takes_235 (by decide) rfl ?_
                refine kx_lload (pc := 237) d_M_takes_237 rfl ?_
                refine kx_ldc2 (pc := 239) (x := 2) d_M_takes_239 (kx_t 572 (by decide +kernel) rfl) ?_
                refine kx_lrem (pc := 242) d_M_takes_242 (by decide) ?_
                refine kx_lconst (pc := 243) (x := 0) d_M_takes_243 (by decide) ?_
                refine kx_lcmp (pc := 244) d_M_takes_244 ?_
                refine kx_if_ne (pc := 245) (tgt := 252) d_M_takes_245 (by decide) (fun y6 => ?_) (fun y6 => ?_)
                · have hno : ¬ (((b.2.1 67 (16 * p + g_cell b p q)) + 1) &&& 1 = 0 ∧ g_no b p q sz 0 = true) := fun w => y6 ((lg_cmp_eq _ _).mpr ((kx_par _).mpr w.1))
                  refine kx_iconst (pc := 252) (x := 0) d_M_takes_252 (by decide) ?_
                  refine kx_istore (pc := 253) (lv' := [(10, _), (8, _), (6, _), (5, _), (4, _), (3, _), (0, _), (1, _), (2, _)]) d_M_takes_253 (by decide) rfl ?_
                  refine kx_iconst (pc := 255) (x := 0) d_M_takes_255 (by decide) ?_
                  refine kx_istore (pc := 256) (lv' := [(11, _), (10, _), (8, _), (6, _), (5, _), (4, _), (3, _), (0, _), (1, _), (2, _)]) d_M_takes_256 (by decide) rfl ?_
                  first
                  | exact tz x6 hno
                  | exact ty x6 hev
                · have hev : ((b.2.1 67 (16 * p + g_cell b p q)) + 1) &&& 1 = 0 := (kx_par _).mp ((lg_cmp_eq _ _).mp y6)
                  refine kx_iconst (pc := 248) (x := 1) d_M_takes_248 (by decide) ?_
                  refine kx_goto (pc := 249) (tgt := 253) d_M_takes_249 (by decide) ?_
                  refine kx_istore (pc := 253) (lv' := [(10, _), (8, _), (6, _), (5, _), (4, _), (3, _), (0, _), (1, _), (2, _)]) d_M_takes_253 (by decide) rfl ?_
                  refine kx_iconst (pc := 255) (x := 0) d_M_takes_255 (by decide) ?_
                  refine kx_eqi (show (0 : Int32) = nI 0 from rfl) ?_
                  refine kx_istore (pc := 256) (lv' := [(11, _), (10, _), (8, _), (6, _), (5, _), (4, _), (3, _), (0, _), (1, _), (2, _)]) d_M_takes_256 (by decide) rfl ?_
                  first
                  | exact tz x6 hno
                  | exact ty x6 hev
            · refine kx_aload_n (pc := 185) d_M_takes_185 rfl ?_
              refine kw_getr (pc := 186) (r := 67) d_M_takes_186 fl_M_26 rfl (by decide) rfl ?_
              refine kx_iload (pc := 189) d_M_takes_189 rfl ?_
              refine kx_aload_n (pc := 191) d_M_takes_191 rfl ?_
              refine kw_getr (pc := 192) (r := 67) d_M_takes_192 fl_M_26 rfl (by decide) rfl ?_
              refine kx_iload (pc := 195) d_M_takes_195 rfl ?_
              refine km_lald (pc := 197) d_M_takes_197 (by decide) rfl ⟨rfl, hk, by decide⟩ ?_
              refine kx_lload (pc := 198) d_M_takes_198 rfl ?_
              refine kx_lcmp (pc := 200) d_M_takes_200 ?_
              refine kx_if_ge (pc := 201) (tgt := 214) d_M_takes_201 (by decide) (fun y5 => ?_) (fun y5 => ?_)
              · have e := fo (b.2.1 66 q) (by
                  rw [x5]
                  show (if (b.2.1 66 q) < (b.2.1 67 (16 * p + g_cell b p q)) then (b.2.1 66 q) else (b.2.1 67 (16 * p + g_cell b p q))) = _
                  split
                  · rfl
                  · rename_i hn
                    exact Int64.le_antisymm (Int64.not_lt.mp hn) ((lg_cmp_ge _ _).mp y5)) (by rw [x5]; decide)
                refine kx_lload (pc := 214) d_M_takes_214 rfl ?_
                refine km_last (pc := 216) d_M_takes_216 (by decide) rfl ⟨rfl, hk, by decide⟩ ?_
                refine kx_goto (pc := 217) (tgt := 351) d_M_takes_217 (by decide) ?_
                refine kx_iconst (pc := 351) (x := 1) d_M_takes_351 (by decide) ?_
                exact kx_zret rfl rfl d_M_takes_352 ⟨by rw [e]; rfl, by rw [e]⟩
              · have e := fo (b.2.1 67 (16 * p + g_cell b p q)) (by rw [x5]; show (if (b.2.1 66 q) < (b.2.1 67 (16 * p + g_cell b p q)) then (b.2.1 66 q) else (b.2.1 67 (16 * p + g_cell b p q))) = _; rw [if_neg (fun w => y5 ((lg_cmp_ge _ _).mpr (Int64.le_of_lt w)))]) (by rw [x5]; decide)
                refine kx_aload_n (pc := 204) d_M_takes_204 rfl ?_
                refine kw_getr (pc := 205) (r := 67) d_M_takes_205 fl_M_26 rfl (by decide) rfl ?_
                refine kx_iload (pc := 208) d_M_takes_208 rfl ?_
                refine km_lald (pc := 210) d_M_takes_210 (by decide) rfl ⟨rfl, hk, by decide⟩ ?_
                refine kx_goto (pc := 211) (tgt := 216) d_M_takes_211 (by decide) ?_
                refine km_last (pc := 216) d_M_takes_216 (by decide) rfl ⟨rfl, hk, by decide⟩ ?_
                refine kx_goto (pc := 217) (tgt := 351) d_M_takes_217 (by decide) ?_
                refine kx_iconst (pc := 351) (x := 1) d_M_takes_351 (by decide) ?_
                exact kx_zret rfl rfl d_M_takes_352 ⟨by rw [e]; rfl, by rw [e]⟩
          · refine kx_aload_n (pc := 145) d_M_takes_145 rfl ?_
            refine kw_getr (pc := 146) (r := 67) d_M_takes_146 fl_M_26 rfl (by decide) rfl ?_
            refine kx_iload (pc := 149) d_M_takes_149 rfl ?_
            refine kx_aload_n (pc := 151) d_M_takes_151 rfl ?_
            refine kw_getr (pc := 152) (r := 67) d_M_takes_152 fl_M_26 rfl (by decide) rfl ?_
            refine kx_iload (pc := 155) d_M_takes_155 rfl ?_
            refine km_lald (pc := 157) d_M_takes_157 (by decide) rfl ⟨rfl, hk, by decide⟩ ?_
            refine kx_lload (pc := 158) d_M_takes_158 rfl ?_
            refine kx_lcmp (pc := 160) d_M_takes_160 ?_
            refine kx_if_le (pc := 161) (tgt := 174) d_M_takes_161 (by decide) (fun y4 => ?_) (fun y4 => ?_)
            · have e := fo (b.2.1 66 q) (by rw [x4]; show (if (b.2.1 66 q) < (b.2.1 67 (16 * p + g_cell b p q)) then (b.2.1 67 (16 * p + g_cell b p q)) else (b.2.1 66 q)) = _; rw [if_neg (Int64.not_lt.mpr ((lg_cmp_le _ _).mp y4))]) (by rw [x4]; decide)
              refine kx_lload (pc := 174) d_M_takes_174 rfl ?_
              refine km_last (pc := 176) d_M_takes_176 (by decide) rfl ⟨rfl, hk, by decide⟩ ?_
              refine kx_goto (pc := 177) (tgt := 351) d_M_takes_177 (by decide) ?_
              refine kx_iconst (pc := 351) (x := 1) d_M_takes_351 (by decide) ?_
              exact kx_zret rfl rfl d_M_takes_352 ⟨by rw [e]; rfl, by rw [e]⟩
            · have e := fo (b.2.1 67 (16 * p + g_cell b p q)) (by rw [x4]; show (if (b.2.1 66 q) < (b.2.1 67 (16 * p + g_cell b p q)) then (b.2.1 67 (16 * p + g_cell b p q)) else (b.2.1 66 q)) = _; rw [if_pos (Int64.not_le.mp (fun w => y4 ((lg_cmp_le _ _).mpr w)))]) (by rw [x4]; decide)
              refine kx_aload_n (pc := 164) d_M_takes_164 rfl ?_
              refine kw_getr (pc := 165) (r := 67) d_M_takes_165 fl_M_26 rfl (by decide) rfl ?_
              refine kx_iload (pc := 168) d_M_takes_168 rfl ?_
              refine km_lald (pc := 170) d_M_takes_170 (by decide) rfl ⟨rfl, hk, by decide⟩ ?_
              refine kx_goto (pc := 171) (tgt := 176) d_M_takes_171 (by decide) ?_
              refine km_last (pc := 176) d_M_takes_176 (by decide) rfl ⟨rfl, hk, by decide⟩ ?_
              refine kx_goto (pc := 177) (tgt := 351) d_M_takes_177 (by decide) ?_
              refine kx_iconst (pc := 351) (x := 1) d_M_takes_351 (by decide) ?_
              exact kx_zret rfl rfl d_M_takes_352 ⟨by rw [e]; rfl, by rw [e]⟩
        · have e := fo ((b.2.1 67 (16 * p + g_cell b p q)) + 1) (by rw [x3]; rfl) (by rw [x3]; decide)
          refine kx_aload_n (pc := 126) d_M_takes_126 rfl ?_
          refine kw_getr (pc := 127) (r := 67) d_M_takes_127 fl_M_26 rfl (by decide) rfl ?_
          refine kx_iload (pc := 130) d_M_takes_130 rfl ?_
          refine kx_dup2 (pc := 132) d_M_takes_132 rfl rfl ?_
          refine km_lald (pc := 133) d_M_takes_133 (by decide) rfl ⟨rfl, hk, by decide⟩ ?_
          refine kx_lconst (pc := 134) (x := 1) d_M_takes_134 (by decide) ?_
          refine kx_ladd (pc := 135) d_M_takes_135 ?_
          refine km_last (pc := 136) d_M_takes_136 (by decide) rfl ⟨rfl, hk, by decide⟩ ?_
          refine kx_goto (pc := 137) (tgt := 351) d_M_takes_137 (by decide) ?_
          refine kx_iconst (pc := 351) (x := 1) d_M_takes_351 (by decide) ?_
          exact kx_zret rfl rfl d_M_takes_352 ⟨by rw [e]; rfl, by rw [e]⟩
      · have e := fo ((b.2.1 66 q)) (by rw [x2]; rfl) (by rw [x2]; decide)
        refine kx_aload_n (pc := 109) d_M_takes_109 rfl ?_
        refine kw_getr (pc := 110) (r := 67) d_M_takes_110 fl_M_26 rfl (by decide) rfl ?_
        refine kx_iload (pc := 113) d_M_takes_113 rfl ?_
        refine kx_lload (pc := 115) d_M_takes_115 rfl ?_
        refine km_last (pc := 117) d_M_takes_117 (by decide) rfl ⟨rfl, hk, by decide⟩ ?_
        refine kx_goto (pc := 118) (tgt := 351) d_M_takes_118 (by decide) ?_
        refine kx_iconst (pc := 351) (x := 1) d_M_takes_351 (by decide) ?_
        exact kx_zret rfl rfl d_M_takes_352 ⟨by rw [e]; rfl, by rw [e]⟩
    · have e := fo ((b.2.1 67 (16 * p + g_cell b p q)) + (b.2.1 66 q)) (by rw [x1]; rfl) (by rw [x1]; decide)
      refine kx_aload_n (pc := 89) d_M_takes_89 rfl ?_
      refine kw_getr (pc := 90) (r := 67) d_M_takes_90 fl_M_26 rfl (by decide) rfl ?_
      refine kx_iload (pc := 93) d_M_takes_93 rfl ?_
      refine kx_dup2 (pc := 95) d_M_takes_95 rfl rfl ?_
      refine km_lald (pc := 96) d_M_takes_96 (by decide) rfl ⟨rfl, hk, by decide⟩ ?_
      refine kx_lload (pc := 97) d_M_takes_97 rfl ?_
      refine kx_ladd (pc := 99) d_M_takes_99 ?_
      refine km_last (pc := 100) d_M_takes_100 (by decide) rfl ⟨rfl, hk, by decide⟩ ?_
      refine kx_goto (pc := 101) (tgt := 351) d_M_takes_101 (by decide) ?_
      refine kx_iconst (pc := 351) (x := 1) d_M_takes_351 (by decide) ?_
      exact kx_zret rfl rfl d_M_takes_352 ⟨by rw [e]; rfl, by rw [e]⟩
  refine kx_aload_n (pc := 0) d_M_takes_0 rfl ?_
  refine kw_getr (pc := 1) (r := 69) d_M_takes_1 fl_M_32 rfl (by decide) rfl ?_
  refine kx_bipush (pc := 4) (x := 8) d_M_takes_4 (by decide) ?_
  refine kx_iload_n (pc := 6) d_M_takes_6 rfl ?_
  refine kx_imul (pc := 7) d_M_takes_7 ?_
  refine kx_aload_n (pc := 8) d_M_takes_8 rfl ?_
  refine kw_getr (pc := 9) (r := 63) d_M_takes_9 fl_M_13 rfl (by decide) rfl ?_
  refine kx_iload_n (pc := 12) d_M_takes_12 rfl ?_
  refine km_iald (pc := 13) d_M_takes_13 (by decide) rfl ⟨rfl, q5, by decide⟩ ?_
  refine kx_eqi ek ?_
  refine kx_iadd (pc := 14) d_M_takes_14 ?_
  refine kx_eqi (ix8 p t) ?_
  refine km_iald (pc := 15) d_M_takes_15 (by decide) rfl ⟨rfl, by omega, by decide⟩ ?_
  refine kx_istore_n (pc := 16) (lv' := [(3, _), (0, _), (1, _), (2, _)]) d_M_takes_16 rfl (by decide) rfl ?_
  refine kx_aload_n (pc := 17) d_M_takes_17 rfl ?_
  refine kw_getr (pc := 18) (r := 70) d_M_takes_18 fl_M_35 rfl (by decide) rfl ?_
  refine kx_bipush (pc := 21) (x := 8) d_M_takes_21 (by decide) ?_
  refine kx_iload_n (pc := 23) d_M_takes_23 rfl ?_
  refine kx_imul (pc := 24) d_M_takes_24 ?_
  refine kx_aload_n (pc := 25) d_M_takes_25 rfl ?_
  refine kw_getr (pc := 26) (r := 63) d_M_takes_26 fl_M_13 rfl (by decide) rfl ?_
  refine kx_iload_n (pc := 29) d_M_takes_29 rfl ?_
  refine km_iald (pc := 30) d_M_takes_30 (by decide) rfl ⟨rfl, q5, by decide⟩ ?_
  refine kx_eqi ek ?_
  refine kx_iadd (pc := 31) d_M_takes_31 ?_
  refine kx_eqi (ix8 p t) ?_
  refine km_iald (pc := 32) d_M_takes_32 (by decide) rfl ⟨rfl, by omega, by decide⟩ ?_
  refine kx_istore (pc := 33) (lv' := [(4, _), (3, _), (0, _), (1, _), (2, _)]) d_M_takes_33 (by decide) rfl ?_
  refine kx_bipush (pc := 35) (x := 16) d_M_takes_35 (by decide) ?_
  refine kx_iload_n (pc := 37) d_M_takes_37 rfl ?_
  refine kx_imul (pc := 38) d_M_takes_38 ?_
  refine kx_iload (pc := 39) d_M_takes_39 rfl ?_
  refine kx_if_ne (pc := 41) (tgt := 53) d_M_takes_41 (by decide) (fun z0 => ?_) (fun z0 => ?_)
  · refine kx_iload (pc := 53) d_M_takes_53 rfl ?_
    refine kx_iconst (pc := 55) (x := 1) d_M_takes_55 (by decide) ?_
    refine kx_icmp_ne (pc := 56) (tgt := 72) d_M_takes_56 (by decide) (fun z1 => ?_) (fun z1 => ?_)
    · have gc : g_cell b p q = 0 := by unfold g_cell; rw [nk, if_neg z0, if_neg z1]
      refine kx_iconst (pc := 72) (x := 0) d_M_takes_72 (by decide) ?_
      refine kx_iadd (pc := 73) d_M_takes_73 ?_
      refine kx_eqi (show _ = nI (16 * p + g_cell b p q) by rw [gc, ← ix16]; rfl) ?_
      refine kx_istore (pc := 74) (lv' := [(5, _), (4, _), (3, _), (0, _), (1, _), (2, _)]) d_M_takes_74 (by decide) rfl ?_
      refine kx_aload_n (pc := 76) d_M_takes_76 rfl ?_
      refine kw_getr (pc := 77) (r := 66) d_M_takes_77 fl_M_22 rfl (by decide) rfl ?_
      refine kx_iload_n (pc := 80) d_M_takes_80 rfl ?_
      refine km_lald (pc := 81) d_M_takes_81 (by decide) rfl ⟨rfl, q5, by decide⟩ ?_
      refine kx_lstore (pc := 82) (lv' := [(6, _), (5, _), (4, _), (3, _), (0, _), (1, _), (2, _)]) d_M_takes_82 (by decide) rfl ?_
      exact t84
    · have gc : g_cell b p q = l4 (b.2.1 66 q) := by unfold g_cell; rw [nk, if_neg z0, if_pos z1]
      refine kx_aload_n (pc := 59) d_M_takes_59 rfl ?_
      refine kw_getr (pc := 60) (r := 66) d_M_takes_60 fl_M_22 rfl (by decide) rfl ?_
      refine kx_iload_n (pc := 63) d_M_takes_63 rfl ?_
      refine km_lald (pc := 64) d_M_takes_64 (by decide) rfl ⟨rfl, q5, by decide⟩ ?_
      refine kx_l2i (pc := 65) d_M_takes_65 ?_
      refine kx_bipush (pc := 66) (x := 15) d_M_takes_66 (by decide) ?_
      refine kx_iand (pc := 68) d_M_takes_68 ?_
      refine kx_eqi (l4_b _) ?_
      refine kx_goto (pc := 69) (tgt := 73) d_M_takes_69 (by decide) ?_
      refine kx_iadd (pc := 73) d_M_takes_73 ?_
      refine kx_eqi (show _ = nI (16 * p + g_cell b p q) by rw [gc, ← ix16]) ?_
      refine kx_istore (pc := 74) (lv' := [(5, _), (4, _), (3, _), (0, _), (1, _), (2, _)]) d_M_takes_74 (by decide) rfl ?_
      refine kx_aload_n (pc := 76) d_M_takes_76 rfl ?_
      refine kw_getr (pc := 77) (r := 66) d_M_takes_77 fl_M_22 rfl (by decide) rfl ?_
      refine kx_iload_n (pc := 80) d_M_takes_80 rfl ?_
      refine km_lald (pc := 81) d_M_takes_81 (by decide) rfl ⟨rfl, q5, by decide⟩ ?_
      refine kx_lstore (pc := 82) (lv' := [(6, _), (5, _), (4, _), (3, _), (0, _), (1, _), (2, _)]) d_M_takes_82 (by decide) rfl ?_
      exact t84
  · have gc : g_cell b p q = s := by unfold g_cell; rw [nk, if_pos z0, es, nt_nI (by omega)]
    refine kx_aload_n (pc := 44) d_M_takes_44 rfl ?_
    refine kw_getr (pc := 45) (r := 62) d_M_takes_45 fl_M_9 rfl (by decide) rfl ?_
    refine kx_iload_n (pc := 48) d_M_takes_48 rfl ?_
    refine km_iald (pc := 49) d_M_takes_49 (by decide) rfl ⟨rfl, q5, by decide⟩ ?_
    refine kx_eqi es ?_
    refine kx_goto (pc := 50) (tgt := 73) d_M_takes_50 (by decide) ?_
    refine kx_iadd (pc := 73) d_M_takes_73 ?_
    refine kx_eqi (show _ = nI (16 * p + g_cell b p q) by rw [gc, ← ix16]) ?_
    refine kx_istore (pc := 74) (lv' := [(5, _), (4, _), (3, _), (0, _), (1, _), (2, _)]) d_M_takes_74 (by decide) rfl ?_
    refine kx_aload_n (pc := 76) d_M_takes_76 rfl ?_
    refine kw_getr (pc := 77) (r := 66) d_M_takes_77 fl_M_22 rfl (by decide) rfl ?_
    refine kx_iload_n (pc := 80) d_M_takes_80 rfl ?_
    refine km_lald (pc := 81) d_M_takes_81 (by decide) rfl ⟨rfl, q5, by decide⟩ ?_
    refine kx_lstore (pc := 82) (lv' := [(6, _), (5, _), (4, _), (3, _), (0, _), (1, _), (2, _)]) d_M_takes_82 (by decide) rfl ?_
    exact t84
