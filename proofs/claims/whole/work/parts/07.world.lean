abbrev kW : Type := (Nat → Nat → Int32) × (Nat → Nat → Int64) × (Nat → Nat → Int32)
def wk (i : Nat) : Nat × Nat :=
  if i = 0 then (3, kc_EK) else if i = 1 then (3, kc_L) else if i = 5 then (2, 500) else if i < 9 then (1, 500) else if i = 9 then (1, 16) else if i = 10 then (1, 8) else if i = 11 then (4, 0)
  else if i < 52 then (if (i - 12) % 5 = 0 then (3, kc_P) else if (i - 12) % 5 < 3 then (1, 8) else (2, 16))
  else if i = 52 then (4, 1) else if i < 61 then (3, kc_S) else if i = 61 then (3, kc_M) else if i < 66 then (1, 500) else if i = 66 then (2, 500) else if i < 69 then (2, 128) else if i < 71 then (1, 64) else if i < 78 then (1, 8) else if i = 78 then (2, 1) else (0, 0)
def wf (i k : Nat) : Option Nat :=
  if i = 0 then (if k = 0 then some 1 else if k = 1 then some 11 else some 52) else if i = 1 then (if k < 9 then some (2 + k) else none)
  else if i = 61 then (if k < 3 then none else some (59 + k)) else if i < 12 then none else if i < 52 then (if k = 1 then some (i + 1) else if k = 2 then some (i + 2) else if k = 3 then some (i + 3) else if k = 5 then some (i + 4) else none) else none
def wq (i k : Nat) : Option Nat := if i = 11 then (if k < 8 then some (12 + 5 * k) else none) else (if k < 8 then some (53 + k) else none)
def wn (ci : Nat) : Nat := if ci = kc_EK then 3 else if ci = kc_L then 11 else if ci = kc_P then 8 else if ci = kc_S then 4 else 19
def wd (w : kW) : kx_H := fun i => match wk i with
  | (1, N) => some (kx_ci N (w.1 i))
  | (2, N) => some (kx_cl N (w.2.1 i))
  | (3, ci) => some (kx_co ci ((List.range (wn ci)).map (fun k => match wf i k with | some r => Value.ref r | none => Value.int (w.2.2 i k))))
  | (4, t) => some (kx_cq t 8 (wq i))
  | _ => none
def ui (w : kW) (i k : Nat) (x : Int32) : kW := (fun a => if a = i then upd (w.1 a) k x else w.1 a, w.2)
def ul (w : kW) (i k : Nat) (x : Int64) : kW := (w.1, fun a => if a = i then vp_updL (w.2.1 a) k x else w.2.1 a, w.2.2)
def uL (w : kW) (i : Nat) (f : Nat → Int64) : kW := (w.1, fun a => if a = i then f else w.2.1 a, w.2.2)
def uo (w : kW) (i k : Nat) (x : Int32) : kW := (w.1, w.2.1, fun a b => if a = i ∧ b = k then x else w.2.2 a b)
theorem wd_i {w : kW} {i N : Nat} (hk : wk i = (1, N)) : wd w i = some (kx_ci N (w.1 i)) := by simp [wd, hk]
theorem wd_l {w : kW} {i N : Nat} (hk : wk i = (2, N)) : wd w i = some (kx_cl N (w.2.1 i)) := by simp [wd, hk]
theorem wd_q {w : kW} {i t : Nat} (hk : wk i = (4, t)) : wd w i = some (kx_cq t 8 (wq i)) := by simp [wd, hk]
theorem wd_o {w : kW} {i ci : Nat} (hk : wk i = (3, ci)) : wd w i = some (kx_co ci ((List.range (wn ci)).map (fun k => match wf i k with | some r => Value.ref r | none => Value.int (w.2.2 i k)))) := by simp [wd, hk]
theorem wd_si {w : kW} {i N k : Nat} {x : Int32} (hk : wk i = (1, N)) : kx_set (wd w) i (kx_ci N (upd (w.1 i) k x)) = wd (ui w i k x) := by
  funext a
  by_cases h : a = i
  · subst h
    rw [kx_set_s, wd_i hk]
    simp [ui]
  · rw [kx_set_n h]
    simp only [wd, ui, if_neg h]
theorem wd_sl {w : kW} {i N k : Nat} {x : Int64} (hk : wk i = (2, N)) : kx_set (wd w) i (kx_cl N (vp_updL (w.2.1 i) k x)) = wd (ul w i k x) := by
  funext a
  by_cases h : a = i
  · subst h
    rw [kx_set_s, wd_l hk]
    simp [ul]
  · rw [kx_set_n h]
    simp only [wd, ul, if_neg h]
theorem wd_sL {w : kW} {i N : Nat} {f : Nat → Int64} (hk : wk i = (2, N)) : kx_set (wd w) i (kx_cl N f) = wd (uL w i f) := by
  funext a
  by_cases h : a = i
  · subst h
    rw [kx_set_s, wd_l hk]
    simp [uL]
  · rw [kx_set_n h]
    simp only [wd, uL, if_neg h]
theorem wd_so {w : kW} {i ci k : Nat} {x : Int32} (hk : wk i = (3, ci)) (hf : wf i k = none) : kx_set (wd w) i (kx_co ci (((List.range (wn ci)).map (fun k => match wf i k with | some r => Value.ref r | none => Value.int (w.2.2 i k))).set k (.int x))) = wd (uo w i k x) := by
  funext a
  by_cases h : a = i
  · subst h
    rw [kx_set_s, wd_o hk]
    congr 3
    apply List.ext_getElem?
    intro z
    rw [List.getElem?_set, List.getElem?_map, List.getElem?_map]
    by_cases hz : k = z
    · subst hz
      by_cases hl : k < wn ci
      · simp [hl, hf, uo]
      · simp [hl]
    · rw [if_neg hz]
      by_cases hl : z < wn ci
      · rw [List.getElem?_range hl]
        have hz2 : ¬ z = k := fun q => hz q.symm
        simp [uo, hz2]
      · simp [hl]
  · rw [kx_set_n h]
    have h' : ∀ z, ¬ (a = i ∧ z = k) := fun z q => h q.1
    simp only [wd, uo, if_neg (h' _)]
def wx (a b : kW) : kW := (fun i => if i < 61 then a.1 i else b.1 i, fun i => if i < 61 then a.2.1 i else b.2.1 i, fun i k => if i < 61 then a.2.2 i k else b.2.2 i k)
theorem wx_ai {a b : kW} {i : Nat} (h : i < 61) : (wx a b).1 i = a.1 i := by simp [wx, h]
theorem wx_al {a b : kW} {i : Nat} (h : i < 61) : (wx a b).2.1 i = a.2.1 i := by simp [wx, h]
theorem wx_ao {a b : kW} {i k : Nat} (h : i < 61) : (wx a b).2.2 i k = a.2.2 i k := by simp [wx, h]
theorem wx_bi {a b : kW} {i : Nat} (h : 61 ≤ i) : (wx a b).1 i = b.1 i := by simp [wx, Nat.not_lt.mpr h]
theorem wx_bl {a b : kW} {i : Nat} (h : 61 ≤ i) : (wx a b).2.1 i = b.2.1 i := by simp [wx, Nat.not_lt.mpr h]
theorem wx_bo {a b : kW} {i k : Nat} (h : 61 ≤ i) : (wx a b).2.2 i k = b.2.2 i k := by simp [wx, Nat.not_lt.mpr h]
theorem ui_xa {a b : kW} {i k : Nat} {x : Int32} (h : i < 61) : ui (wx a b) i k x = wx (ui a i k x) b := by
  refine Prod.ext (funext fun z => ?_) rfl
  by_cases e : z = i
  · subst e
    simp [wx, ui, h]
  · by_cases e2 : z < 61 <;> simp [wx, ui, e, e2]
theorem ul_xa {a b : kW} {i k : Nat} {x : Int64} (h : i < 61) : ul (wx a b) i k x = wx (ul a i k x) b := by
  refine Prod.ext rfl (Prod.ext (funext fun z => ?_) rfl)
  by_cases e : z = i
  · subst e
    simp [wx, ul, h]
  · by_cases e2 : z < 61 <;> simp [wx, ul, e, e2]
theorem uL_xa {a b : kW} {i : Nat} {f : Nat → Int64} (h : i < 61) : uL (wx a b) i f = wx (uL a i f) b := by
  refine Prod.ext rfl (Prod.ext (funext fun z => ?_) rfl)
  by_cases e : z = i
  · subst e
    simp [wx, uL, h]
  · by_cases e2 : z < 61 <;> simp [wx, uL, e, e2]
theorem uo_xa {a b : kW} {i k : Nat} {x : Int32} (h : i < 61) : uo (wx a b) i k x = wx (uo a i k x) b := by
  refine Prod.ext rfl (Prod.ext rfl (funext fun z => funext fun y => ?_))
  by_cases e : z = i
  · subst e
    simp [wx, uo, h]
  · by_cases e2 : z < 61 <;> simp [wx, uo, e, e2]
theorem ui_xb {a b : kW} {i k : Nat} {x : Int32} (h : 61 ≤ i) : ui (wx a b) i k x = wx a (ui b i k x) := by
  refine Prod.ext (funext fun z => ?_) rfl
  by_cases e : z = i
  · subst e
    simp [wx, ui, Nat.not_lt.mpr h]
  · by_cases e2 : z < 61 <;> simp [wx, ui, e, e2]
theorem ul_xb {a b : kW} {i k : Nat} {x : Int64} (h : 61 ≤ i) : ul (wx a b) i k x = wx a (ul b i k x) := by
  refine Prod.ext rfl (Prod.ext (funext fun z => ?_) rfl)
  by_cases e : z = i
  · subst e
    simp [wx, ul, Nat.not_lt.mpr h]
  · by_cases e2 : z < 61 <;> simp [wx, ul, e, e2]
theorem uL_xb {a b : kW} {i : Nat} {f : Nat → Int64} (h : 61 ≤ i) : uL (wx a b) i f = wx a (uL b i f) := by
  refine Prod.ext rfl (Prod.ext (funext fun z => ?_) rfl)
  by_cases e : z = i
  · subst e
    simp [wx, uL, Nat.not_lt.mpr h]
  · by_cases e2 : z < 61 <;> simp [wx, uL, e, e2]
theorem uo_xb {a b : kW} {i k : Nat} {x : Int32} (h : 61 ≤ i) : uo (wx a b) i k x = wx a (uo b i k x) := by
  refine Prod.ext rfl (Prod.ext rfl (funext fun z => funext fun y => ?_))
  by_cases e : z = i
  · subst e
    simp [wx, uo, Nat.not_lt.mpr h]
  · by_cases e2 : z < 61 <;> simp [wx, uo, e, e2]
section KWR
variable {E : kx_E} {I : kx_I} {d mc ms : Nat} {Q : kx_Q} {k j pc : Nat} {lv : List (Nat × Value)} {st : List Value} {n : Nat} {a b : kW}
theorem ka_iald {i N ix : Nat} {x : Int32} (hdg : decode I.2.1 pc = .ok (.iaload, 1)) (hi : i < 61) (hk : wk i = (1, N)) (hx : kx_ix x ix N) (kk : kx_V E I d mc ms Q k j (pc + 1) lv (.int (a.1 i ix) :: st) n (wd (wx a b))) : kx_V E I d mc ms Q k j pc lv (.int x :: .ref i :: st) n (wd (wx a b)) := kx_iald hdg (wd_i hk) hx (by rw [wx_ai hi]; exact kk)
theorem ka_lald {i N ix : Nat} {x : Int32} (hdg : decode I.2.1 pc = .ok (.laload, 1)) (hi : i < 61) (hk : wk i = (2, N)) (hx : kx_ix x ix N) (kk : kx_V E I d mc ms Q k j (pc + 1) lv (.long (a.2.1 i ix) :: st) n (wd (wx a b))) : kx_V E I d mc ms Q k j pc lv (.int x :: .ref i :: st) n (wd (wx a b)) := kx_lald hdg (wd_l hk) hx (by rw [wx_al hi]; exact kk)
theorem ka_iast {i N ix : Nat} {x y : Int32} (hdg : decode I.2.1 pc = .ok (.iastore, 1)) (hi : i < 61) (hk : wk i = (1, N)) (hx : kx_ix x ix N) (kk : kx_V E I d mc ms Q k j (pc + 1) lv st n (wd (wx (ui a i ix y) b))) : kx_V E I d mc ms Q k j pc lv (.int y :: .int x :: .ref i :: st) n (wd (wx a b)) := kx_iast hdg (wd_i hk) hx (kx_eqh ((wd_si hk).trans (congrArg wd (ui_xa hi))) kk)
theorem ka_last {i N ix : Nat} {x : Int32} {y : Int64} (hdg : decode I.2.1 pc = .ok (.lastore, 1)) (hi : i < 61) (hk : wk i = (2, N)) (hx : kx_ix x ix N) (kk : kx_V E I d mc ms Q k j (pc + 1) lv st n (wd (wx (ul a i ix y) b))) : kx_V E I d mc ms Q k j pc lv (.long y :: .int x :: .ref i :: st) n (wd (wx a b)) := kx_last hdg (wd_l hk) hx (kx_eqh ((wd_sl hk).trans (congrArg wd (ul_xa hi))) kk)
theorem ka_geti {index i ci kf : Nat} (hdg : decode I.2.1 pc = .ok (.getfield index, 3)) (hf : kx_fl I.1 index ci kf) (hi : i < 61) (hk : wk i = (3, ci)) (hl : kf < wn ci) (hw : wf i kf = none) (kk : kx_V E I d mc ms Q k j (pc + 3) lv (.int (a.2.2 i kf) :: st) n (wd (wx a b))) : kx_V E I d mc ms Q k j pc lv (.ref i :: st) n (wd (wx a b)) :=
  kx_get (v := .int (a.2.2 i kf)) hdg hf (wd_o hk) (by simp [hl, hw, wx_ao hi]) kk
theorem ka_puti {index i ci kf : Nat} {x : Int32} (hdg : decode I.2.1 pc = .ok (.putfield index, 3)) (hf : kx_fl I.1 index ci kf) (hfw : kx_fw I.1 I.2.2.2.2.2 ci kf .int) (hi : i < 61) (hk : wk i = (3, ci)) (hl : kf < wn ci) (hw : wf i kf = none) (kk : kx_V E I d mc ms Q k j (pc + 3) lv st n (wd (wx (uo a i kf x) b))) : kx_V E I d mc ms Q k j pc lv (.int x :: .ref i :: st) n (wd (wx a b)) :=
  kx_put hdg hf hfw (wd_o hk) (fun _ => rfl) (fun _ => rfl) (by simp [hl]) (kx_eqh ((wd_so hk hw).trans (congrArg wd (uo_xa hi))) kk)
theorem km_iald {i N ix : Nat} {x : Int32} (hdg : decode I.2.1 pc = .ok (.iaload, 1)) (hi : 61 ≤ i) (hk : wk i = (1, N)) (hx : kx_ix x ix N) (kk : kx_V E I d mc ms Q k j (pc + 1) lv (.int (b.1 i ix) :: st) n (wd (wx a b))) : kx_V E I d mc ms Q k j pc lv (.int x :: .ref i :: st) n (wd (wx a b)) := kx_iald hdg (wd_i hk) hx (by rw [wx_bi hi]; exact kk)
theorem km_lald {i N ix : Nat} {x : Int32} (hdg : decode I.2.1 pc = .ok (.laload, 1)) (hi : 61 ≤ i) (hk : wk i = (2, N)) (hx : kx_ix x ix N) (kk : kx_V E I d mc ms Q k j (pc + 1) lv (.long (b.2.1 i ix) :: st) n (wd (wx a b))) : kx_V E I d mc ms Q k j pc lv (.int x :: .ref i :: st) n (wd (wx a b)) := kx_lald hdg (wd_l hk) hx (by rw [wx_bl hi]; exact kk)
theorem km_iast {i N ix : Nat} {x y : Int32} (hdg : decode I.2.1 pc = .ok (.iastore, 1)) (hi : 61 ≤ i) (hk : wk i = (1, N)) (hx : kx_ix x ix N) (kk : kx_V E I d mc ms Q k j (pc + 1) lv st n (wd (wx a (ui b i ix y)))) : kx_V E I d mc ms Q k j pc lv (.int y :: .int x :: .ref i :: st) n (wd (wx a b)) := kx_iast hdg (wd_i hk) hx (kx_eqh ((wd_si hk).trans (congrArg wd (ui_xb hi))) kk)
theorem km_last {i N ix : Nat} {x : Int32} {y : Int64} (hdg : decode I.2.1 pc = .ok (.lastore, 1)) (hi : 61 ≤ i) (hk : wk i = (2, N)) (hx : kx_ix x ix N) (kk : kx_V E I d mc ms Q k j (pc + 1) lv st n (wd (wx a (ul b i ix y)))) : kx_V E I d mc ms Q k j pc lv (.long y :: .int x :: .ref i :: st) n (wd (wx a b)) := kx_last hdg (wd_l hk) hx (kx_eqh ((wd_sl hk).trans (congrArg wd (ul_xb hi))) kk)
theorem km_geti {index i ci kf : Nat} (hdg : decode I.2.1 pc = .ok (.getfield index, 3)) (hf : kx_fl I.1 index ci kf) (hi : 61 ≤ i) (hk : wk i = (3, ci)) (hl : kf < wn ci) (hw : wf i kf = none) (kk : kx_V E I d mc ms Q k j (pc + 3) lv (.int (b.2.2 i kf) :: st) n (wd (wx a b))) : kx_V E I d mc ms Q k j pc lv (.ref i :: st) n (wd (wx a b)) :=
  kx_get (v := .int (b.2.2 i kf)) hdg hf (wd_o hk) (by simp [hl, hw, wx_bo hi]) kk
theorem km_puti {index i ci kf : Nat} {x : Int32} (hdg : decode I.2.1 pc = .ok (.putfield index, 3)) (hf : kx_fl I.1 index ci kf) (hfw : kx_fw I.1 I.2.2.2.2.2 ci kf .int) (hi : 61 ≤ i) (hk : wk i = (3, ci)) (hl : kf < wn ci) (hw : wf i kf = none) (kk : kx_V E I d mc ms Q k j (pc + 3) lv st n (wd (wx a (uo b i kf x)))) : kx_V E I d mc ms Q k j pc lv (.int x :: .ref i :: st) n (wd (wx a b)) :=
  kx_put hdg hf hfw (wd_o hk) (fun _ => rfl) (fun _ => rfl) (by simp [hl]) (kx_eqh ((wd_so hk hw).trans (congrArg wd (uo_xb hi))) kk)
theorem kw_getr {index i ci kf r : Nat} {w : kW} (hdg : decode I.2.1 pc = .ok (.getfield index, 3)) (hf : kx_fl I.1 index ci kf) (hk : wk i = (3, ci)) (hl : kf < wn ci) (hw : wf i kf = some r) (kk : kx_V E I d mc ms Q k j (pc + 3) lv (.ref r :: st) n (wd (w))) : kx_V E I d mc ms Q k j pc lv (.ref i :: st) n (wd (w)) :=
  kx_get hdg hf (wd_o hk) (by simp [hl, hw]) kk
theorem kw_aald {i t ix r : Nat} {x : Int32} {w : kW} (hdg : decode I.2.1 pc = .ok (.aaload, 1)) (ht : ∃ Cn, ∀ aC, (kx_tys aC)[2 + t]? = some (aC (2 + t), .object Cn)) (hk : wk i = (4, t)) (hx : kx_ix x ix 8) (hb : wq i ix = some r) (kk : kx_V E I d mc ms Q k j (pc + 1) lv (.ref r :: st) n (wd (w))) : kx_V E I d mc ms Q k j pc lv (.int x :: .ref i :: st) n (wd (w)) := kx_aald hdg ht (wd_q hk) hx hb kk
end KWR
theorem ui_s {w : kW} {i k : Nat} {x : Int32} : (ui w i k x).1 i k = x := by simp [ui, upd]
theorem ui_k {w : kW} {i k a : Nat} {x : Int32} (h : a ≠ k) : (ui w i k x).1 i a = w.1 i a := by simp [ui, upd, h]
theorem ui_n {w : kW} {i k a : Nat} {x : Int32} (h : a ≠ i) : (ui w i k x).1 a = w.1 a := by simp [ui, h]
theorem ul_s {w : kW} {i k : Nat} {x : Int64} : (ul w i k x).2.1 i k = x := by simp [ul, vp_updL]
theorem ul_k {w : kW} {i k a : Nat} {x : Int64} (h : a ≠ k) : (ul w i k x).2.1 i a = w.2.1 i a := by simp [ul, vp_updL, h]
theorem ul_n {w : kW} {i k a : Nat} {x : Int64} (h : a ≠ i) : (ul w i k x).2.1 a = w.2.1 a := by simp [ul, h]
theorem uo_s {w : kW} {i k : Nat} {x : Int32} : (uo w i k x).2.2 i k = x := by simp [uo]
theorem uo_k {w : kW} {i k a : Nat} {x : Int32} (h : a ≠ k) : (uo w i k x).2.2 i a = w.2.2 i a := by simp [uo, h]
theorem uo_n {w : kW} {i k a b : Nat} {x : Int32} (h : a ≠ i) : (uo w i k x).2.2 a b = w.2.2 a b := by simp [uo, h]
theorem wk_p0 {p : Nat} (h : p < 8) : wk (12 + 5 * p) = (3, kc_P) := by revert p; decide
theorem wk_p1 {p : Nat} (h : p < 8) : wk (12 + 5 * p + 1) = (1, 8) := by revert p; decide
theorem wk_p2 {p : Nat} (h : p < 8) : wk (12 + 5 * p + 2) = (1, 8) := by revert p; decide
theorem wk_p3 {p : Nat} (h : p < 8) : wk (12 + 5 * p + 3) = (2, 16) := by revert p; decide
theorem wk_p4 {p : Nat} (h : p < 8) : wk (12 + 5 * p + 4) = (2, 16) := by revert p; decide
theorem wf_p1 {p : Nat} (h : p < 8) : wf (12 + 5 * p) 1 = some (12 + 5 * p + 1) := by revert p; decide
theorem wf_p2 {p : Nat} (h : p < 8) : wf (12 + 5 * p) 2 = some (12 + 5 * p + 2) := by revert p; decide
theorem wf_p3 {p : Nat} (h : p < 8) : wf (12 + 5 * p) 3 = some (12 + 5 * p + 3) := by revert p; decide
theorem wf_p5 {p : Nat} (h : p < 8) : wf (12 + 5 * p) 5 = some (12 + 5 * p + 4) := by revert p; decide
theorem wf_p0 {p : Nat} (h : p < 8) : wf (12 + 5 * p) 0 = none := by revert p; decide
theorem wf_p4 {p : Nat} (h : p < 8) : wf (12 + 5 * p) 4 = none := by revert p; decide
theorem wf_p6 {p : Nat} (h : p < 8) : wf (12 + 5 * p) 6 = none := by revert p; decide
theorem wf_p7 {p : Nat} (h : p < 8) : wf (12 + 5 * p) 7 = none := by revert p; decide
theorem wk_s {u : Nat} (h : u < 8) : wk (53 + u) = (3, kc_S) := by revert u; decide
theorem wf_s {u k : Nat} (h : u < 8) (hk : k < 4) : wf (53 + u) k = none := by
  have : ∀ u, u < 8 → ∀ k, k < 4 → wf (53 + u) k = none := by decide
  exact this u h k hk
theorem wq_p {p : Nat} (h : p < 8) : wq 11 p = some (12 + 5 * p) := by simp [wq, h]
theorem wq_s {u : Nat} (h : u < 8) : wq 52 u = some (53 + u) := by simp [wq, h]
