set_option maxHeartbeats 4000000 in
set_option maxRecDepth 100000 in
theorem k_law_append {E : kx_E} {n mc ms k j i S N : Nat} {xs : Nat → Int32} {a b : kW} {Q : kx_Q} (hS : kx_S E S N xs) (hN3 : N ≤ 3072) (hi : i + 6 ≤ N) (hI : Inv a b) (hN : ∀ a' b' n', Inv a' b' → kx_V E i_W_law 12 mc ms Q k j 968 [(4, .int (nI i)), (3, .ref 78), (2, .ref 61), (1, .ref 0), (0, .retAddr S)] [] n' (wd (wx a' b'))) : kx_V E i_W_law 12 mc ms Q (k + 5) (j + 30) 112 [(4, .int (nI i)), (3, .ref 78), (2, .ref 61), (1, .ref 0), (0, .retAddr S)] [] n (wd (wx a b)) := by
  obtain ⟨sz, du, hL, hP, hSb⟩ := id hI
  obtain ⟨v1, v2, v3, v4, v5, v6⟩ := id hL.1
  obtain ⟨lv0, hlv⟩ : ∃ z : Int64, ((xs (i + 4)).toInt64 <<< (((32 : Int32).toInt64) &&& 63)) ||| ((xs (i + 5)).toInt64 &&& 4294967295) = z := ⟨_, rfl⟩
  have hsh : (∃ x, (s_append a sz (xs (i + 1)) (xs (i + 2)) (xs (i + 3)) lv0).1 = Sum.inl (some (.int x))) ∨ (s_append a sz (xs (i + 1)) (xs (i + 2)) (xs (i + 3)) lv0).1 = Sum.inr "java/lang/IllegalArgumentException" ∨ (s_append a sz (xs (i + 1)) (xs (i + 2)) (xs (i + 3)) lv0).1 = Sum.inr "java/lang/IllegalStateException" ∨ (s_append a sz (xs (i + 1)) (xs (i + 2)) (xs (i + 3)) lv0).1 = Sum.inr "java/lang/IndexOutOfBoundsException" := by
    rcases (R_append hI hL hP hSb (xs (i + 1)) (xs (i + 2)) (xs (i + 3)) lv0).2.2 with ⟨e1, -⟩ | ⟨X, c, e1, e2, -, -⟩
    · exact Or.inl ⟨_, e1⟩
    · exact Or.inr ((sh_cA e2).elim (fun y => Or.inl (by rw [e1, y])) (fun z => Or.inr (z.elim (fun y => Or.inl (by rw [e1, y])) (fun y => Or.inr (by rw [e1, y])))))
  have w3 : (w_b (s_append a sz (xs (i + 1)) (xs (i + 2)) (xs (i + 3)) lv0).1 b).2.2 61 1 = nI sz := (hL.wb (r := (s_append a sz (xs (i + 1)) (xs (i + 2)) (xs (i + 3)) lv0).1)).1.2.2.1
  have hR := R_append (hI.wb (r := (s_append a sz (xs (i + 1)) (xs (i + 2)) (xs (i + 3)) lv0).1)) hL.wb (fun p hp => (hP p hp).wb) (fun u hu => (hSb u hu).wb) (xs (i + 1)) (xs (i + 2)) (xs (i + 3)) lv0
  refine kx_aload_n (pc := 112) d_W_law_112 rfl ?_
  refine kx_aload_s (pc := 113) d_W_law_113 rfl ?_
  refine kx_iload (pc := 114) d_W_law_114 rfl ?_
  refine kx_iconst (pc := 116) (x := 1) d_W_law_116 (by decide) ?_
  refine kx_iadd (pc := 117) d_W_law_117 ?_
  refine kx_eqi (show nI i + 1 = nI (i + 1) from nI_add i 1) ?_
  refine kx_siald (pc := 118) hS d_W_law_118 ⟨rfl, by omega, by omega⟩ ?_
  refine kx_aload_s (pc := 119) d_W_law_119 rfl ?_
  refine kx_iload (pc := 120) d_W_law_120 rfl ?_
  refine kx_iconst (pc := 122) (x := 2) d_W_law_122 (by decide) ?_
  refine kx_iadd (pc := 123) d_W_law_123 ?_
  refine kx_eqi (show nI i + 2 = nI (i + 2) from nI_add i 2) ?_
  refine kx_siald (pc := 124) hS d_W_law_124 ⟨rfl, by omega, by omega⟩ ?_
  refine kx_aload_s (pc := 125) d_W_law_125 rfl ?_
  refine kx_iload (pc := 126) d_W_law_126 rfl ?_
  refine kx_iconst (pc := 128) (x := 3) d_W_law_128 (by decide) ?_
  refine kx_iadd (pc := 129) d_W_law_129 ?_
  refine kx_eqi (show nI i + 3 = nI (i + 3) from nI_add i 3) ?_
  refine kx_siald (pc := 130) hS d_W_law_130 ⟨rfl, by omega, by omega⟩ ?_
  refine kx_aload_s (pc := 131) d_W_law_131 rfl ?_
  refine kx_iload (pc := 132) d_W_law_132 rfl ?_
  refine kx_iconst (pc := 134) (x := 4) d_W_law_134 (by decide) ?_
  refine kx_iadd (pc := 135) d_W_law_135 ?_
  refine kx_eqi (show nI i + 4 = nI (i + 4) from nI_add i 4) ?_
  refine kx_siald (pc := 136) hS d_W_law_136 ⟨rfl, by omega, by omega⟩ ?_
  refine kx_i2l (pc := 137) d_W_law_137 ?_
  refine kx_bipush (pc := 138) (x := 32) d_W_law_138 (by decide) ?_
  refine kx_lshl (pc := 140) d_W_law_140 ?_
  refine kx_aload_s (pc := 141) d_W_law_141 rfl ?_
  refine kx_iload (pc := 142) d_W_law_142 rfl ?_
  refine kx_iconst (pc := 144) (x := 5) d_W_law_144 (by decide) ?_
  refine kx_iadd (pc := 145) d_W_law_145 ?_
  refine kx_eqi (show nI i + 5 = nI (i + 5) from nI_add i 5) ?_
  refine kx_siald (pc := 146) hS d_W_law_146 ⟨rfl, by omega, by omega⟩ ?_
  refine kx_i2l (pc := 147) d_W_law_147 ?_
  refine kx_ldc2 (pc := 148) (x := 4294967295) d_W_law_148 (kx_t 624 (by decide +kernel) rfl) ?_
  refine kx_land (pc := 151) d_W_law_151 ?_
  refine kx_lor (pc := 152) d_W_law_152 ?_
  refine kx_eql hlv ?_
  refine kx_aload_n (pc := 153) d_W_law_153 rfl ?_
  refine kx_invS (pc := 154) (as := [.ref _, .int _, .int _, .int _, .long _, .ref _]) (st := []) (k := k) (j := j) d_W_law_154 ws_W_64 (k_W_append (k_append v1 v6) hsh) rfl rfl (Nat.le_of_ble_eq_true rfl) (by decide) (Nat.le_of_ble_eq_true rfl) (fun rv n' h' hq => ?_) (fun X n' h' hq => nomatch hq.1)
  obtain ⟨hq, rfl⟩ := hq
  cases hq
  refine kx_istore (pc := 157) (lv' := [(5, _), (4, _), (3, _), (2, _), (1, _), (0, _)]) d_W_law_157 (by decide) rfl ?_
  refine kx_aload_n (pc := 159) d_W_law_159 rfl ?_
  refine kx_aload_s (pc := 160) d_W_law_160 rfl ?_
  refine kx_iload (pc := 161) d_W_law_161 rfl ?_
  refine kx_iconst (pc := 163) (x := 1) d_W_law_163 (by decide) ?_
  refine kx_iadd (pc := 164) d_W_law_164 ?_
  refine kx_eqi (show nI i + 1 = nI (i + 1) from nI_add i 1) ?_
  refine kx_siald (pc := 165) hS d_W_law_165 ⟨rfl, by omega, by omega⟩ ?_
  refine kx_aload_s (pc := 166) d_W_law_166 rfl ?_
  refine kx_iload (pc := 167) d_W_law_167 rfl ?_
  refine kx_iconst (pc := 169) (x := 2) d_W_law_169 (by decide) ?_
  refine kx_iadd (pc := 170) d_W_law_170 ?_
  refine kx_eqi (show nI i + 2 = nI (i + 2) from nI_add i 2) ?_
  refine kx_siald (pc := 171) hS d_W_law_171 ⟨rfl, by omega, by omega⟩ ?_
  refine kx_aload_s (pc := 172) d_W_law_172 rfl ?_
  refine kx_iload (pc := 173) d_W_law_173 rfl ?_
  refine kx_iconst (pc := 175) (x := 3) d_W_law_175 (by decide) ?_
  refine kx_iadd (pc := 176) d_W_law_176 ?_
  refine kx_eqi (show nI i + 3 = nI (i + 3) from nI_add i 3) ?_
  refine kx_siald (pc := 177) hS d_W_law_177 ⟨rfl, by omega, by omega⟩ ?_
  refine kx_aload_s (pc := 178) d_W_law_178 rfl ?_
  refine kx_iload (pc := 179) d_W_law_179 rfl ?_
  refine kx_iconst (pc := 181) (x := 4) d_W_law_181 (by decide) ?_
  refine kx_iadd (pc := 182) d_W_law_182 ?_
  refine kx_eqi (show nI i + 4 = nI (i + 4) from nI_add i 4) ?_
  refine kx_siald (pc := 183) hS d_W_law_183 ⟨rfl, by omega, by omega⟩ ?_
  refine kx_i2l (pc := 184) d_W_law_184 ?_
  refine kx_bipush (pc := 185) (x := 32) d_W_law_185 (by decide) ?_
  refine kx_lshl (pc := 187) d_W_law_187 ?_
  refine kx_aload_s (pc := 188) d_W_law_188 rfl ?_
  refine kx_iload (pc := 189) d_W_law_189 rfl ?_
  refine kx_iconst (pc := 191) (x := 5) d_W_law_191 (by decide) ?_
  refine kx_iadd (pc := 192) d_W_law_192 ?_
  refine kx_eqi (show nI i + 5 = nI (i + 5) from nI_add i 5) ?_
  refine kx_siald (pc := 193) hS d_W_law_193 ⟨rfl, by omega, by omega⟩ ?_
  refine kx_i2l (pc := 194) d_W_law_194 ?_
  refine kx_ldc2 (pc := 195) (x := 4294967295) d_W_law_195 (kx_t 624 (by decide +kernel) rfl) ?_
  refine kx_land (pc := 198) d_W_law_198 ?_
  refine kx_lor (pc := 199) d_W_law_199 ?_
  refine kx_eql hlv ?_
  refine kx_invV (pc := 200) (as := [.int _, .int _, .int _, .long _]) (st := []) (k := k) (j := j) d_W_law_200 wv_W_69 (wd_o rfl) (k_mappend (a := (s_append a sz (xs (i + 1)) (xs (i + 2)) (xs (i + 3)) lv0).2) (b := (w_b (s_append a sz (xs (i + 1)) (xs (i + 2)) (xs (i + 3)) lv0).1 b)) (ev := sz) w3 v6) rfl rfl (Nat.le_of_ble_eq_true rfl) (by decide) (Nat.le_of_ble_eq_true rfl) (fun rv n' h' hq => ?_) (fun X n' h' hq => nomatch hq.1)
  obtain ⟨hq, rfl⟩ := hq
  cases hq
  refine kx_istore (pc := 203) (lv' := [(6, _), (5, _), (4, _), (3, _), (2, _), (1, _), (0, _)]) d_W_law_203 (by decide) rfl ?_
  refine kx_aload_n (pc := 205) d_W_law_205 rfl ?_
  refine kx_invV (pc := 206) (as := []) (st := []) (k := k) (j := j) d_W_law_206 wv_W_70 (wd_o rfl) (k_thrown (a := (s_append a sz (xs (i + 1)) (xs (i + 2)) (xs (i + 3)) lv0).2) (b := (m_append (w_b (s_append a sz (xs (i + 1)) (xs (i + 2)) (xs (i + 3)) lv0).1 b) sz (xs (i + 1)) (xs (i + 2)) (xs (i + 3)) lv0).2)) rfl rfl (Nat.le_of_ble_eq_true rfl) (by decide) (Nat.le_of_ble_eq_true rfl) (fun rv n' h' hq => ?_) (fun X n' h' hq => nomatch hq.2)
  obtain ⟨rfl, hq⟩ := hq
  cases hq
  refine kx_iload (pc := 209) d_W_law_209 rfl ?_
  refine kx_icmp_eq (pc := 211) (tgt := 216) d_W_law_211 (by decide) (fun _ => ?_) (fun hz => absurd hR.code hz)
  refine kx_iload (pc := 216) d_W_law_216 rfl ?_
  refine kx_if_ne (pc := 218) (tgt := 233) d_W_law_218 (by decide) (fun hne => ?_) (fun h0 => ?_)
  · refine kx_goto (pc := 233) (tgt := 968) d_W_law_233 (by decide) ?_
    refine kx_sub [2, 3, 4, 5, 6] rfl ?_
    exact hN _ _ _ hR.1
  · refine kx_aload_n (pc := 221) d_W_law_221 rfl ?_
    refine kx_iconst (pc := 222) (x := 0) d_W_law_222 (by decide) ?_
    refine km_lald (pc := 223) d_W_law_223 (by decide) rfl ⟨rfl, by decide, by decide⟩ ?_
    refine kx_eql (hR.val h0) ?_
    refine kx_iload (pc := 224) d_W_law_224 rfl ?_
    refine kx_i2l (pc := 226) d_W_law_226 ?_
    refine kx_lcmp (pc := 227) d_W_law_227 ?_
    refine kx_if_eq (pc := 228) (tgt := 233) d_W_law_228 (by decide) (fun _ => ?_) (fun hz => absurd ((lg_cmp_eq _ _).mpr rfl) hz)
    refine kx_goto (pc := 233) (tgt := 968) d_W_law_233 (by decide) ?_
    refine kx_sub [2, 3, 4, 5, 6] rfl ?_
    exact hN _ _ _ hR.1
set_option maxHeartbeats 4000000 in
set_option maxRecDepth 100000 in
theorem k_law_rule {E : kx_E} {n mc ms k j i S N : Nat} {xs : Nat → Int32} {a b : kW} {Q : kx_Q} (hS : kx_S E S N xs) (hN3 : N ≤ 3072) (hi : i + 6 ≤ N) (hI : Inv a b) (hN : ∀ a' b' n', Inv a' b' → kx_V E i_W_law 12 mc ms Q k j 968 [(4, .int (nI i)), (3, .ref 78), (2, .ref 61), (1, .ref 0), (0, .retAddr S)] [] n' (wd (wx a' b'))) : kx_V E i_W_law 12 mc ms Q (k + 5) (j + 30) 236 [(4, .int (nI i)), (3, .ref 78), (2, .ref 61), (1, .ref 0), (0, .retAddr S)] [] n (wd (wx a b)) := by
  obtain ⟨sz, du, hL, hP, hSb⟩ := id hI
  obtain ⟨v1, v2, v3, v4, v5, v6⟩ := id hL.1
  have hsh : ((s_rule a (xs (i + 1)) (xs (i + 2)) (xs (i + 3)) (xs (i + 4))).1 = Sum.inl none) ∨ (s_rule a (xs (i + 1)) (xs (i + 2)) (xs (i + 3)) (xs (i + 4))).1 = Sum.inr "java/lang/IllegalArgumentException" := by
    rcases (R_rule hI (xs (i + 1)) (xs (i + 2)) (xs (i + 3)) (xs (i + 4))).2.2 with ⟨e1, -⟩ | ⟨X, c, e1, e2, -, -⟩
    · exact Or.inl e1
    · exact Or.inr (by rw [e1, sh_cI e2])
  have w3 : (w_b (s_rule a (xs (i + 1)) (xs (i + 2)) (xs (i + 3)) (xs (i + 4))).1 b).2.2 61 1 = nI sz := (hL.wb (r := (s_rule a (xs (i + 1)) (xs (i + 2)) (xs (i + 3)) (xs (i + 4))).1)).1.2.2.1
  have hR := R_rule (hI.wb (r := (s_rule a (xs (i + 1)) (xs (i + 2)) (xs (i + 3)) (xs (i + 4))).1)) (xs (i + 1)) (xs (i + 2)) (xs (i + 3)) (xs (i + 4))
  refine kx_aload_n (pc := 236) d_W_law_236 rfl ?_
  refine kx_aload_s (pc := 237) d_W_law_237 rfl ?_
  refine kx_iload (pc := 238) d_W_law_238 rfl ?_
  refine kx_iconst (pc := 240) (x := 1) d_W_law_240 (by decide) ?_
  refine kx_iadd (pc := 241) d_W_law_241 ?_
  refine kx_eqi (show nI i + 1 = nI (i + 1) from nI_add i 1) ?_
  refine kx_siald (pc := 242) hS d_W_law_242 ⟨rfl, by omega, by omega⟩ ?_
  refine kx_aload_s (pc := 243) d_W_law_243 rfl ?_
  refine kx_iload (pc := 244) d_W_law_244 rfl ?_
  refine kx_iconst (pc := 246) (x := 2) d_W_law_246 (by decide) ?_
  refine kx_iadd (pc := 247) d_W_law_247 ?_
  refine kx_eqi (show nI i + 2 = nI (i + 2) from nI_add i 2) ?_
  refine kx_siald (pc := 248) hS d_W_law_248 ⟨rfl, by omega, by omega⟩ ?_
  refine kx_aload_s (pc := 249) d_W_law_249 rfl ?_
  refine kx_iload (pc := 250) d_W_law_250 rfl ?_
  refine kx_iconst (pc := 252) (x := 3) d_W_law_252 (by decide) ?_
  refine kx_iadd (pc := 253) d_W_law_253 ?_
  refine kx_eqi (show nI i + 3 = nI (i + 3) from nI_add i 3) ?_
  refine kx_siald (pc := 254) hS d_W_law_254 ⟨rfl, by omega, by omega⟩ ?_
  refine kx_aload_s (pc := 255) d_W_law_255 rfl ?_
  refine kx_iload (pc := 256) d_W_law_256 rfl ?_
  refine kx_iconst (pc := 258) (x := 4) d_W_law_258 (by decide) ?_
  refine kx_iadd (pc := 259) d_W_law_259 ?_
  refine kx_eqi (show nI i + 4 = nI (i + 4) from nI_add i 4) ?_
  refine kx_siald (pc := 260) hS d_W_law_260 ⟨rfl, by omega, by omega⟩ ?_
  refine kx_invS (pc := 261) (as := [.ref _, .int _, .int _, .int _, .int _]) (st := []) (k := k) (j := j) d_W_law_261 ws_W_74 (k_W_rule k_rule hsh) rfl rfl (Nat.le_of_ble_eq_true rfl) (by decide) (Nat.le_of_ble_eq_true rfl) (fun rv n' h' hq => ?_) (fun X n' h' hq => nomatch hq.1)
  obtain ⟨hq, rfl⟩ := hq
  cases hq
  refine kx_istore (pc := 264) (lv' := [(5, _), (4, _), (3, _), (2, _), (1, _), (0, _)]) d_W_law_264 (by decide) rfl ?_
  refine kx_aload_n (pc := 266) d_W_law_266 rfl ?_
  refine kx_aload_s (pc := 267) d_W_law_267 rfl ?_
  refine kx_iload (pc := 268) d_W_law_268 rfl ?_
  refine kx_iconst (pc := 270) (x := 1) d_W_law_270 (by decide) ?_
  refine kx_iadd (pc := 271) d_W_law_271 ?_
  refine kx_eqi (show nI i + 1 = nI (i + 1) from nI_add i 1) ?_
  refine kx_siald (pc := 272) hS d_W_law_272 ⟨rfl, by omega, by omega⟩ ?_
  refine kx_aload_s (pc := 273) d_W_law_273 rfl ?_
  refine kx_iload (pc := 274) d_W_law_274 rfl ?_
  refine kx_iconst (pc := 276) (x := 2) d_W_law_276 (by decide) ?_
  refine kx_iadd (pc := 277) d_W_law_277 ?_
  refine kx_eqi (show nI i + 2 = nI (i + 2) from nI_add i 2) ?_
  refine kx_siald (pc := 278) hS d_W_law_278 ⟨rfl, by omega, by omega⟩ ?_
  refine kx_aload_s (pc := 279) d_W_law_279 rfl ?_
  refine kx_iload (pc := 280) d_W_law_280 rfl ?_
  refine kx_iconst (pc := 282) (x := 3) d_W_law_282 (by decide) ?_
  refine kx_iadd (pc := 283) d_W_law_283 ?_
  refine kx_eqi (show nI i + 3 = nI (i + 3) from nI_add i 3) ?_
  refine kx_siald (pc := 284) hS d_W_law_284 ⟨rfl, by omega, by omega⟩ ?_
  refine kx_aload_s (pc := 285) d_W_law_285 rfl ?_
  refine kx_iload (pc := 286) d_W_law_286 rfl ?_
  refine kx_iconst (pc := 288) (x := 4) d_W_law_288 (by decide) ?_
  refine kx_iadd (pc := 289) d_W_law_289 ?_
  refine kx_eqi (show nI i + 4 = nI (i + 4) from nI_add i 4) ?_
  refine kx_siald (pc := 290) hS d_W_law_290 ⟨rfl, by omega, by omega⟩ ?_
  refine kx_invV (pc := 291) (as := [.int _, .int _, .int _, .int _]) (st := []) (k := k) (j := j) d_W_law_291 wv_W_77 (wd_o rfl) (k_mrule (a := (s_rule a (xs (i + 1)) (xs (i + 2)) (xs (i + 3)) (xs (i + 4))).2) (b := (w_b (s_rule a (xs (i + 1)) (xs (i + 2)) (xs (i + 3)) (xs (i + 4))).1 b))) rfl rfl (Nat.le_of_ble_eq_true rfl) (by decide) (Nat.le_of_ble_eq_true rfl) (fun rv n' h' hq => ?_) (fun X n' h' hq => nomatch hq.1)
  obtain ⟨hq, rfl⟩ := hq
  cases hq
  refine kx_aload_n (pc := 294) d_W_law_294 rfl ?_
  refine kx_invV (pc := 295) (as := []) (st := []) (k := k) (j := j) d_W_law_295 wv_W_70 (wd_o rfl) (k_thrown (a := (s_rule a (xs (i + 1)) (xs (i + 2)) (xs (i + 3)) (xs (i + 4))).2) (b := (m_rule (w_b (s_rule a (xs (i + 1)) (xs (i + 2)) (xs (i + 3)) (xs (i + 4))).1 b) (xs (i + 1)) (xs (i + 2)) (xs (i + 3)) (xs (i + 4))))) rfl rfl (Nat.le_of_ble_eq_true rfl) (by decide) (Nat.le_of_ble_eq_true rfl) (fun rv n' h' hq => ?_) (fun X n' h' hq => nomatch hq.2)
  obtain ⟨rfl, hq⟩ := hq
  cases hq
  refine kx_iload (pc := 298) d_W_law_298 rfl ?_
  refine kx_icmp_eq (pc := 300) (tgt := 305) d_W_law_300 (by decide) (fun _ => ?_) (fun hz => absurd hR.code hz)
  refine kx_goto (pc := 305) (tgt := 968) d_W_law_305 (by decide) ?_
  refine kx_sub [1, 2, 3, 4, 5] rfl ?_
  exact hN _ _ _ hR.1
set_option maxHeartbeats 4000000 in
set_option maxRecDepth 100000 in
theorem k_law_advance {E : kx_E} {n mc ms k j i S N : Nat} {xs : Nat → Int32} {a b : kW} {Q : kx_Q} (hS : kx_S E S N xs) (hN3 : N ≤ 3072) (hi : i + 6 ≤ N) (hI : Inv a b) (hN : ∀ a' b' n', Inv a' b' → kx_V E i_W_law 12 mc ms Q k j 968 [(4, .int (nI i)), (3, .ref 78), (2, .ref 61), (1, .ref 0), (0, .retAddr S)] [] n' (wd (wx a' b'))) : kx_V E i_W_law 12 mc ms Q (k + 5) (j + 30) 308 [(4, .int (nI i)), (3, .ref 78), (2, .ref 61), (1, .ref 0), (0, .retAddr S)] [] n (wd (wx a b)) := by
  obtain ⟨sz, du, hL, hP, hSb⟩ := id hI
  obtain ⟨v1, v2, v3, v4, v5, v6⟩ := id hL.1
  have hsh : (∃ x, (s_adv a (xs (i + 1)) (xs (i + 2))).1 = Sum.inl (some (.int x))) ∨ (s_adv a (xs (i + 1)) (xs (i + 2))).1 = Sum.inr "java/lang/IllegalArgumentException" := by
    rcases (R_adv hI (xs (i + 1)) (xs (i + 2))).2.2 with ⟨e1, -⟩ | ⟨X, c, e1, e2, -, -⟩
    · exact Or.inl ⟨_, e1⟩
    · exact Or.inr (by rw [e1, sh_cI e2])
  have w3 : (w_b (s_adv a (xs (i + 1)) (xs (i + 2))).1 b).2.2 61 1 = nI sz := (hL.wb (r := (s_adv a (xs (i + 1)) (xs (i + 2))).1)).1.2.2.1
  have hcm : ∀ p, p < 8 → CMp (w_b (s_adv a (xs (i + 1)) (xs (i + 2))).1 b) p := (hI.wb (r := (s_adv a (xs (i + 1)) (xs (i + 2))).1)).cm
  have hR := R_adv (hI.wb (r := (s_adv a (xs (i + 1)) (xs (i + 2))).1)) (xs (i + 1)) (xs (i + 2))
  refine kx_aload_n (pc := 308) d_W_law_308 rfl ?_
  refine kx_aload_s (pc := 309) d_W_law_309 rfl ?_
  refine kx_iload (pc := 310) d_W_law_310 rfl ?_
  refine kx_iconst (pc := 312) (x := 1) d_W_law_312 (by decide) ?_
  refine kx_iadd (pc := 313) d_W_law_313 ?_
  refine kx_eqi (show nI i + 1 = nI (i + 1) from nI_add i 1) ?_
  refine kx_siald (pc := 314) hS d_W_law_314 ⟨rfl, by omega, by omega⟩ ?_
  refine kx_aload_s (pc := 315) d_W_law_315 rfl ?_
  refine kx_iload (pc := 316) d_W_law_316 rfl ?_
  refine kx_iconst (pc := 318) (x := 2) d_W_law_318 (by decide) ?_
  refine kx_iadd (pc := 319) d_W_law_319 ?_
  refine kx_eqi (show nI i + 2 = nI (i + 2) from nI_add i 2) ?_
  refine kx_siald (pc := 320) hS d_W_law_320 ⟨rfl, by omega, by omega⟩ ?_
  refine kx_aload_n (pc := 321) d_W_law_321 rfl ?_
  refine kx_invS (pc := 322) (as := [.ref _, .int _, .int _, .ref _]) (st := []) (k := k) (j := j) d_W_law_322 ws_W_78 (k_W_advance (k_advance hI.ci) hsh) rfl rfl (Nat.le_of_ble_eq_true rfl) (by decide) (Nat.le_of_ble_eq_true rfl) (fun rv n' h' hq => ?_) (fun X n' h' hq => nomatch hq.1)
  obtain ⟨hq, rfl⟩ := hq
  cases hq
  refine kx_istore (pc := 325) (lv' := [(5, _), (4, _), (3, _), (2, _), (1, _), (0, _)]) d_W_law_325 (by decide) rfl ?_
  refine kx_aload_n (pc := 327) d_W_law_327 rfl ?_
  refine kx_aload_s (pc := 328) d_W_law_328 rfl ?_
  refine kx_iload (pc := 329) d_W_law_329 rfl ?_
  refine kx_iconst (pc := 331) (x := 1) d_W_law_331 (by decide) ?_
  refine kx_iadd (pc := 332) d_W_law_332 ?_
  refine kx_eqi (show nI i + 1 = nI (i + 1) from nI_add i 1) ?_
  refine kx_siald (pc := 333) hS d_W_law_333 ⟨rfl, by omega, by omega⟩ ?_
  refine kx_aload_s (pc := 334) d_W_law_334 rfl ?_
  refine kx_iload (pc := 335) d_W_law_335 rfl ?_
  refine kx_iconst (pc := 337) (x := 2) d_W_law_337 (by decide) ?_
  refine kx_iadd (pc := 338) d_W_law_338 ?_
  refine kx_eqi (show nI i + 2 = nI (i + 2) from nI_add i 2) ?_
  refine kx_siald (pc := 339) hS d_W_law_339 ⟨rfl, by omega, by omega⟩ ?_
  refine kx_invV (pc := 340) (as := [.int _, .int _]) (st := []) (k := k) (j := j) d_W_law_340 wv_W_81 (wd_o rfl) (k_madv (a := (s_adv a (xs (i + 1)) (xs (i + 2))).2) (b := (w_b (s_adv a (xs (i + 1)) (xs (i + 2))).1 b)) hcm) rfl rfl (Nat.le_of_ble_eq_true rfl) (by decide) (Nat.le_of_ble_eq_true rfl) (fun rv n' h' hq => ?_) (fun X n' h' hq => nomatch hq.1)
  obtain ⟨hq, rfl⟩ := hq
  cases hq
  refine kx_istore (pc := 343) (lv' := [(6, _), (5, _), (4, _), (3, _), (2, _), (1, _), (0, _)]) d_W_law_343 (by decide) rfl ?_
  refine kx_aload_n (pc := 345) d_W_law_345 rfl ?_
  refine kx_invV (pc := 346) (as := []) (st := []) (k := k) (j := j) d_W_law_346 wv_W_70 (wd_o rfl) (k_thrown (a := (s_adv a (xs (i + 1)) (xs (i + 2))).2) (b := (m_adv (w_b (s_adv a (xs (i + 1)) (xs (i + 2))).1 b) (xs (i + 1)) (xs (i + 2))).2)) rfl rfl (Nat.le_of_ble_eq_true rfl) (by decide) (Nat.le_of_ble_eq_true rfl) (fun rv n' h' hq => ?_) (fun X n' h' hq => nomatch hq.2)
  obtain ⟨rfl, hq⟩ := hq
  cases hq
  refine kx_iload (pc := 349) d_W_law_349 rfl ?_
  refine kx_icmp_eq (pc := 351) (tgt := 356) d_W_law_351 (by decide) (fun _ => ?_) (fun hz => absurd hR.code hz)
  refine kx_iload (pc := 356) d_W_law_356 rfl ?_
  refine kx_if_ne (pc := 358) (tgt := 373) d_W_law_358 (by decide) (fun hne => ?_) (fun h0 => ?_)
  · refine kx_goto (pc := 373) (tgt := 968) d_W_law_373 (by decide) ?_
    refine kx_sub [2, 3, 4, 5, 6] rfl ?_
    exact hN _ _ _ hR.1
  · refine kx_aload_n (pc := 361) d_W_law_361 rfl ?_
    refine kx_iconst (pc := 362) (x := 0) d_W_law_362 (by decide) ?_
    refine km_lald (pc := 363) d_W_law_363 (by decide) rfl ⟨rfl, by decide, by decide⟩ ?_
    refine kx_eql (hR.val h0) ?_
    refine kx_iload (pc := 364) d_W_law_364 rfl ?_
    refine kx_i2l (pc := 366) d_W_law_366 ?_
    refine kx_lcmp (pc := 367) d_W_law_367 ?_
    refine kx_if_eq (pc := 368) (tgt := 373) d_W_law_368 (by decide) (fun _ => ?_) (fun hz => absurd ((lg_cmp_eq _ _).mpr rfl) hz)
    refine kx_goto (pc := 373) (tgt := 968) d_W_law_373 (by decide) ?_
    refine kx_sub [2, 3, 4, 5, 6] rfl ?_
    exact hN _ _ _ hR.1
set_option maxHeartbeats 4000000 in
set_option maxRecDepth 100000 in
theorem k_law_save {E : kx_E} {n mc ms k j i S N : Nat} {xs : Nat → Int32} {a b : kW} {Q : kx_Q} (hS : kx_S E S N xs) (hN3 : N ≤ 3072) (hi : i + 6 ≤ N) (hI : Inv a b) (hN : ∀ a' b' n', Inv a' b' → kx_V E i_W_law 12 mc ms Q k j 968 [(4, .int (nI i)), (3, .ref 78), (2, .ref 61), (1, .ref 0), (0, .retAddr S)] [] n' (wd (wx a' b'))) : kx_V E i_W_law 12 mc ms Q (k + 5) (j + 30) 376 [(4, .int (nI i)), (3, .ref 78), (2, .ref 61), (1, .ref 0), (0, .retAddr S)] [] n (wd (wx a b)) := by
  obtain ⟨sz, du, hL, hP, hSb⟩ := id hI
  obtain ⟨v1, v2, v3, v4, v5, v6⟩ := id hL.1
  have hsh : (∃ x, (s_save a (xs (i + 1))).1 = Sum.inl (some (.int x))) ∨ (s_save a (xs (i + 1))).1 = Sum.inr "java/lang/IllegalArgumentException" := by
    rcases (R_save hI (xs (i + 1))).2.2 with ⟨e1, -⟩ | ⟨X, c, e1, e2, -, -⟩
    · exact Or.inl ⟨_, e1⟩
    · exact Or.inr (by rw [e1, sh_cI e2])
  have w3 : (w_b (s_save a (xs (i + 1))).1 b).2.2 61 1 = nI sz := (hL.wb (r := (s_save a (xs (i + 1))).1)).1.2.2.1
  have hR := R_save (hI.wb (r := (s_save a (xs (i + 1))).1)) (xs (i + 1))
  refine kx_aload_n (pc := 376) d_W_law_376 rfl ?_
  refine kx_aload_s (pc := 377) d_W_law_377 rfl ?_
  refine kx_iload (pc := 378) d_W_law_378 rfl ?_
  refine kx_iconst (pc := 380) (x := 1) d_W_law_380 (by decide) ?_
  refine kx_iadd (pc := 381) d_W_law_381 ?_
  refine kx_eqi (show nI i + 1 = nI (i + 1) from nI_add i 1) ?_
  refine kx_siald (pc := 382) hS d_W_law_382 ⟨rfl, by omega, by omega⟩ ?_
  refine kx_aload_n (pc := 383) d_W_law_383 rfl ?_
  refine kx_invS (pc := 384) (as := [.ref _, .int _, .ref _]) (st := []) (k := k) (j := j) d_W_law_384 ws_W_82 (k_W_save k_save hsh) rfl rfl (Nat.le_of_ble_eq_true rfl) (by decide) (Nat.le_of_ble_eq_true rfl) (fun rv n' h' hq => ?_) (fun X n' h' hq => nomatch hq.1)
  obtain ⟨hq, rfl⟩ := hq
  cases hq
  refine kx_istore (pc := 387) (lv' := [(5, _), (4, _), (3, _), (2, _), (1, _), (0, _)]) d_W_law_387 (by decide) rfl ?_
  refine kx_aload_n (pc := 389) d_W_law_389 rfl ?_
  refine kx_aload_s (pc := 390) d_W_law_390 rfl ?_
  refine kx_iload (pc := 391) d_W_law_391 rfl ?_
  refine kx_iconst (pc := 393) (x := 1) d_W_law_393 (by decide) ?_
  refine kx_iadd (pc := 394) d_W_law_394 ?_
  refine kx_eqi (show nI i + 1 = nI (i + 1) from nI_add i 1) ?_
  refine kx_siald (pc := 395) hS d_W_law_395 ⟨rfl, by omega, by omega⟩ ?_
  refine kx_invV (pc := 396) (as := [.int _]) (st := []) (k := k) (j := j) d_W_law_396 wv_W_85 (wd_o rfl) (k_msave (a := (s_save a (xs (i + 1))).2) (b := (w_b (s_save a (xs (i + 1))).1 b))) rfl rfl (Nat.le_of_ble_eq_true rfl) (by decide) (Nat.le_of_ble_eq_true rfl) (fun rv n' h' hq => ?_) (fun X n' h' hq => nomatch hq.1)
  obtain ⟨hq, rfl⟩ := hq
  cases hq
  refine kx_istore (pc := 399) (lv' := [(6, _), (5, _), (4, _), (3, _), (2, _), (1, _), (0, _)]) d_W_law_399 (by decide) rfl ?_
  refine kx_aload_n (pc := 401) d_W_law_401 rfl ?_
  refine kx_invV (pc := 402) (as := []) (st := []) (k := k) (j := j) d_W_law_402 wv_W_70 (wd_o rfl) (k_thrown (a := (s_save a (xs (i + 1))).2) (b := (m_save (w_b (s_save a (xs (i + 1))).1 b) (xs (i + 1))).2)) rfl rfl (Nat.le_of_ble_eq_true rfl) (by decide) (Nat.le_of_ble_eq_true rfl) (fun rv n' h' hq => ?_) (fun X n' h' hq => nomatch hq.2)
  obtain ⟨rfl, hq⟩ := hq
  cases hq
  refine kx_iload (pc := 405) d_W_law_405 rfl ?_
  refine kx_icmp_eq (pc := 407) (tgt := 412) d_W_law_407 (by decide) (fun _ => ?_) (fun hz => absurd hR.code hz)
  refine kx_iload (pc := 412) d_W_law_412 rfl ?_
  refine kx_if_ne (pc := 414) (tgt := 429) d_W_law_414 (by decide) (fun hne => ?_) (fun h0 => ?_)
  · refine kx_goto (pc := 429) (tgt := 968) d_W_law_429 (by decide) ?_
    refine kx_sub [2, 3, 4, 5, 6] rfl ?_
    exact hN _ _ _ hR.1
  · refine kx_aload_n (pc := 417) d_W_law_417 rfl ?_
    refine kx_iconst (pc := 418) (x := 0) d_W_law_418 (by decide) ?_
    refine km_lald (pc := 419) d_W_law_419 (by decide) rfl ⟨rfl, by decide, by decide⟩ ?_
    refine kx_eql (hR.val h0) ?_
    refine kx_iload (pc := 420) d_W_law_420 rfl ?_
    refine kx_i2l (pc := 422) d_W_law_422 ?_
    refine kx_lcmp (pc := 423) d_W_law_423 ?_
    refine kx_if_eq (pc := 424) (tgt := 429) d_W_law_424 (by decide) (fun _ => ?_) (fun hz => absurd ((lg_cmp_eq _ _).mpr rfl) hz)
    refine kx_goto (pc := 429) (tgt := 968) d_W_law_429 (by decide) ?_
    refine kx_sub [2, 3, 4, 5, 6] rfl ?_
    exact hN _ _ _ hR.1
set_option maxHeartbeats 4000000 in
set_option maxRecDepth 100000 in
theorem k_law_cell {E : kx_E} {n mc ms k j i S N : Nat} {xs : Nat → Int32} {a b : kW} {Q : kx_Q} (hS : kx_S E S N xs) (hN3 : N ≤ 3072) (hi : i + 6 ≤ N) (hI : Inv a b) (hN : ∀ a' b' n', Inv a' b' → kx_V E i_W_law 12 mc ms Q k j 968 [(4, .int (nI i)), (3, .ref 78), (2, .ref 61), (1, .ref 0), (0, .retAddr S)] [] n' (wd (wx a' b'))) : kx_V E i_W_law 12 mc ms Q (k + 5) (j + 30) 432 [(4, .int (nI i)), (3, .ref 78), (2, .ref 61), (1, .ref 0), (0, .retAddr S)] [] n (wd (wx a b)) := by
  obtain ⟨sz, du, hL, hP, hSb⟩ := id hI
  obtain ⟨v1, v2, v3, v4, v5, v6⟩ := id hL.1
  have hsh : (∃ x, (s_cell a (xs (i + 1)) (xs (i + 2))).1 = Sum.inl (some (.long x))) ∨ (s_cell a (xs (i + 1)) (xs (i + 2))).1 = Sum.inr "java/lang/IllegalArgumentException" ∨ (s_cell a (xs (i + 1)) (xs (i + 2))).1 = Sum.inr "java/lang/IndexOutOfBoundsException" := by
    rcases (R_cell hI (xs (i + 1)) (xs (i + 2))).2.2 with ⟨e1, -⟩ | ⟨X, c, e1, e2, -, -⟩
    · exact Or.inl ⟨_, e1⟩
    · exact Or.inr ((sh_cIO e2).elim (fun y => Or.inl (by rw [e1, y])) (fun y => Or.inr (by rw [e1, y])))
  have w3 : (w_b (s_cell a (xs (i + 1)) (xs (i + 2))).1 b).2.2 61 1 = nI sz := (hL.wb (r := (s_cell a (xs (i + 1)) (xs (i + 2))).1)).1.2.2.1
  have hR := R_cell (hI.wb (r := (s_cell a (xs (i + 1)) (xs (i + 2))).1)) (xs (i + 1)) (xs (i + 2))
  refine kx_aload_n (pc := 432) d_W_law_432 rfl ?_
  refine kx_aload_s (pc := 433) d_W_law_433 rfl ?_
  refine kx_iload (pc := 434) d_W_law_434 rfl ?_
  refine kx_iconst (pc := 436) (x := 1) d_W_law_436 (by decide) ?_
  refine kx_iadd (pc := 437) d_W_law_437 ?_
  refine kx_eqi (show nI i + 1 = nI (i + 1) from nI_add i 1) ?_
  refine kx_siald (pc := 438) hS d_W_law_438 ⟨rfl, by omega, by omega⟩ ?_
  refine kx_aload_s (pc := 439) d_W_law_439 rfl ?_
  refine kx_iload (pc := 440) d_W_law_440 rfl ?_
  refine kx_iconst (pc := 442) (x := 2) d_W_law_442 (by decide) ?_
  refine kx_iadd (pc := 443) d_W_law_443 ?_
  refine kx_eqi (show nI i + 2 = nI (i + 2) from nI_add i 2) ?_
  refine kx_siald (pc := 444) hS d_W_law_444 ⟨rfl, by omega, by omega⟩ ?_
  refine kx_aload_n (pc := 445) d_W_law_445 rfl ?_
  refine kx_invS (pc := 446) (as := [.ref _, .int _, .int _, .ref _]) (st := []) (k := k) (j := j) d_W_law_446 ws_W_86 (k_W_cell k_cell hsh) rfl rfl (Nat.le_of_ble_eq_true rfl) (by decide) (Nat.le_of_ble_eq_true rfl) (fun rv n' h' hq => ?_) (fun X n' h' hq => nomatch hq.1)
  obtain ⟨hq, rfl⟩ := hq
  cases hq
  refine kx_istore (pc := 449) (lv' := [(5, _), (4, _), (3, _), (2, _), (1, _), (0, _)]) d_W_law_449 (by decide) rfl ?_
  refine kx_aload_n (pc := 451) d_W_law_451 rfl ?_
  refine kx_aload_s (pc := 452) d_W_law_452 rfl ?_
  refine kx_iload (pc := 453) d_W_law_453 rfl ?_
  refine kx_iconst (pc := 455) (x := 1) d_W_law_455 (by decide) ?_
  refine kx_iadd (pc := 456) d_W_law_456 ?_
  refine kx_eqi (show nI i + 1 = nI (i + 1) from nI_add i 1) ?_
  refine kx_siald (pc := 457) hS d_W_law_457 ⟨rfl, by omega, by omega⟩ ?_
  refine kx_aload_s (pc := 458) d_W_law_458 rfl ?_
  refine kx_iload (pc := 459) d_W_law_459 rfl ?_
  refine kx_iconst (pc := 461) (x := 2) d_W_law_461 (by decide) ?_
  refine kx_iadd (pc := 462) d_W_law_462 ?_
  refine kx_eqi (show nI i + 2 = nI (i + 2) from nI_add i 2) ?_
  refine kx_siald (pc := 463) hS d_W_law_463 ⟨rfl, by omega, by omega⟩ ?_
  refine kx_invV (pc := 464) (as := [.int _, .int _]) (st := []) (k := k) (j := j) d_W_law_464 wv_W_88 (wd_o rfl) (k_mcell (a := (s_cell a (xs (i + 1)) (xs (i + 2))).2) (b := (w_b (s_cell a (xs (i + 1)) (xs (i + 2))).1 b))) rfl rfl (Nat.le_of_ble_eq_true rfl) (by decide) (Nat.le_of_ble_eq_true rfl) (fun rv n' h' hq => ?_) (fun X n' h' hq => nomatch hq.1)
  obtain ⟨hq, rfl⟩ := hq
  cases hq
  refine kx_lstore (pc := 467) (lv' := [(6, _), (5, _), (4, _), (3, _), (2, _), (1, _), (0, _)]) d_W_law_467 (by decide) rfl ?_
  refine kx_aload_n (pc := 469) d_W_law_469 rfl ?_
  refine kx_invV (pc := 470) (as := []) (st := []) (k := k) (j := j) d_W_law_470 wv_W_70 (wd_o rfl) (k_thrown (a := (s_cell a (xs (i + 1)) (xs (i + 2))).2) (b := (m_cell (w_b (s_cell a (xs (i + 1)) (xs (i + 2))).1 b) (xs (i + 1)) (xs (i + 2))).2)) rfl rfl (Nat.le_of_ble_eq_true rfl) (by decide) (Nat.le_of_ble_eq_true rfl) (fun rv n' h' hq => ?_) (fun X n' h' hq => nomatch hq.2)
  obtain ⟨rfl, hq⟩ := hq
  cases hq
  refine kx_iload (pc := 473) d_W_law_473 rfl ?_
  refine kx_icmp_eq (pc := 475) (tgt := 480) d_W_law_475 (by decide) (fun _ => ?_) (fun hz => absurd hR.code hz)
  refine kx_iload (pc := 480) d_W_law_480 rfl ?_
  refine kx_if_ne (pc := 482) (tgt := 496) d_W_law_482 (by decide) (fun hne => ?_) (fun h0 => ?_)
  · refine kx_goto (pc := 496) (tgt := 968) d_W_law_496 (by decide) ?_
    refine kx_sub [2, 3, 4, 5, 6] rfl ?_
    exact hN _ _ _ hR.1
  · refine kx_aload_n (pc := 485) d_W_law_485 rfl ?_
    refine kx_iconst (pc := 486) (x := 0) d_W_law_486 (by decide) ?_
    refine km_lald (pc := 487) d_W_law_487 (by decide) rfl ⟨rfl, by decide, by decide⟩ ?_
    refine kx_eql (hR.val h0) ?_
    refine kx_lload (pc := 488) d_W_law_488 rfl ?_
    refine kx_lcmp (pc := 490) d_W_law_490 ?_
    refine kx_if_eq (pc := 491) (tgt := 496) d_W_law_491 (by decide) (fun _ => ?_) (fun hz => absurd ((lg_cmp_eq _ _).mpr rfl) hz)
    refine kx_goto (pc := 496) (tgt := 968) d_W_law_496 (by decide) ?_
    refine kx_sub [2, 3, 4, 5, 6] rfl ?_
    exact hN _ _ _ hR.1
set_option maxHeartbeats 4000000 in
set_option maxRecDepth 100000 in
theorem k_law_filter {E : kx_E} {n mc ms k j i S N : Nat} {xs : Nat → Int32} {a b : kW} {Q : kx_Q} (hS : kx_S E S N xs) (hN3 : N ≤ 3072) (hi : i + 6 ≤ N) (hI : Inv a b) (hN : ∀ a' b' n', Inv a' b' → kx_V E i_W_law 12 mc ms Q k j 968 [(4, .int (nI i)), (3, .ref 78), (2, .ref 61), (1, .ref 0), (0, .retAddr S)] [] n' (wd (wx a' b'))) : kx_V E i_W_law 12 mc ms Q (k + 5) (j + 30) 499 [(4, .int (nI i)), (3, .ref 78), (2, .ref 61), (1, .ref 0), (0, .retAddr S)] [] n (wd (wx a b)) := by
  obtain ⟨sz, du, hL, hP, hSb⟩ := id hI
  obtain ⟨v1, v2, v3, v4, v5, v6⟩ := id hL.1
  have hsh : ((s_filter a (xs (i + 1)) (xs (i + 2)) (xs (i + 3))).1 = Sum.inl none) ∨ (s_filter a (xs (i + 1)) (xs (i + 2)) (xs (i + 3))).1 = Sum.inr "java/lang/IllegalArgumentException" := by
    rcases (R_filter hI (xs (i + 1)) (xs (i + 2)) (xs (i + 3))).2.2 with ⟨e1, -⟩ | ⟨X, c, e1, e2, -, -⟩
    · exact Or.inl e1
    · exact Or.inr (by rw [e1, sh_cI e2])
  have w3 : (w_b (s_filter a (xs (i + 1)) (xs (i + 2)) (xs (i + 3))).1 b).2.2 61 1 = nI sz := (hL.wb (r := (s_filter a (xs (i + 1)) (xs (i + 2)) (xs (i + 3))).1)).1.2.2.1
  have hR := R_filter (hI.wb (r := (s_filter a (xs (i + 1)) (xs (i + 2)) (xs (i + 3))).1)) (xs (i + 1)) (xs (i + 2)) (xs (i + 3))
  refine kx_aload_n (pc := 499) d_W_law_499 rfl ?_
  refine kx_aload_s (pc := 500) d_W_law_500 rfl ?_
  refine kx_iload (pc := 501) d_W_law_501 rfl ?_
  refine kx_iconst (pc := 503) (x := 1) d_W_law_503 (by decide) ?_
  refine kx_iadd (pc := 504) d_W_law_504 ?_
  refine kx_eqi (show nI i + 1 = nI (i + 1) from nI_add i 1) ?_
  refine kx_siald (pc := 505) hS d_W_law_505 ⟨rfl, by omega, by omega⟩ ?_
  refine kx_aload_s (pc := 506) d_W_law_506 rfl ?_
  refine kx_iload (pc := 507) d_W_law_507 rfl ?_
  refine kx_iconst (pc := 509) (x := 2) d_W_law_509 (by decide) ?_
  refine kx_iadd (pc := 510) d_W_law_510 ?_
  refine kx_eqi (show nI i + 2 = nI (i + 2) from nI_add i 2) ?_
  refine kx_siald (pc := 511) hS d_W_law_511 ⟨rfl, by omega, by omega⟩ ?_
  refine kx_aload_s (pc := 512) d_W_law_512 rfl ?_
  refine kx_iload (pc := 513) d_W_law_513 rfl ?_
  refine kx_iconst (pc := 515) (x := 3) d_W_law_515 (by decide) ?_
  refine kx_iadd (pc := 516) d_W_law_516 ?_
  refine kx_eqi (show nI i + 3 = nI (i + 3) from nI_add i 3) ?_
  refine kx_siald (pc := 517) hS d_W_law_517 ⟨rfl, by omega, by omega⟩ ?_
  refine kx_invS (pc := 518) (as := [.ref _, .int _, .int _, .int _]) (st := []) (k := k) (j := j) d_W_law_518 ws_W_89 (k_W_filter k_filter hsh) rfl rfl (Nat.le_of_ble_eq_true rfl) (by decide) (Nat.le_of_ble_eq_true rfl) (fun rv n' h' hq => ?_) (fun X n' h' hq => nomatch hq.1)
  obtain ⟨hq, rfl⟩ := hq
  cases hq
  refine kx_istore (pc := 521) (lv' := [(5, _), (4, _), (3, _), (2, _), (1, _), (0, _)]) d_W_law_521 (by decide) rfl ?_
  refine kx_aload_n (pc := 523) d_W_law_523 rfl ?_
  refine kx_aload_s (pc := 524) d_W_law_524 rfl ?_
  refine kx_iload (pc := 525) d_W_law_525 rfl ?_
  refine kx_iconst (pc := 527) (x := 1) d_W_law_527 (by decide) ?_
  refine kx_iadd (pc := 528) d_W_law_528 ?_
  refine kx_eqi (show nI i + 1 = nI (i + 1) from nI_add i 1) ?_
  refine kx_siald (pc := 529) hS d_W_law_529 ⟨rfl, by omega, by omega⟩ ?_
  refine kx_aload_s (pc := 530) d_W_law_530 rfl ?_
  refine kx_iload (pc := 531) d_W_law_531 rfl ?_
  refine kx_iconst (pc := 533) (x := 2) d_W_law_533 (by decide) ?_
  refine kx_iadd (pc := 534) d_W_law_534 ?_
  refine kx_eqi (show nI i + 2 = nI (i + 2) from nI_add i 2) ?_
  refine kx_siald (pc := 535) hS d_W_law_535 ⟨rfl, by omega, by omega⟩ ?_
  refine kx_aload_s (pc := 536) d_W_law_536 rfl ?_
  refine kx_iload (pc := 537) d_W_law_537 rfl ?_
  refine kx_iconst (pc := 539) (x := 3) d_W_law_539 (by decide) ?_
  refine kx_iadd (pc := 540) d_W_law_540 ?_
  refine kx_eqi (show nI i + 3 = nI (i + 3) from nI_add i 3) ?_
  refine kx_siald (pc := 541) hS d_W_law_541 ⟨rfl, by omega, by omega⟩ ?_
  refine kx_invV (pc := 542) (as := [.int _, .int _, .int _]) (st := []) (k := k) (j := j) d_W_law_542 wv_W_92 (wd_o rfl) (k_mfilter (a := (s_filter a (xs (i + 1)) (xs (i + 2)) (xs (i + 3))).2) (b := (w_b (s_filter a (xs (i + 1)) (xs (i + 2)) (xs (i + 3))).1 b))) rfl rfl (Nat.le_of_ble_eq_true rfl) (by decide) (Nat.le_of_ble_eq_true rfl) (fun rv n' h' hq => ?_) (fun X n' h' hq => nomatch hq.1)
  obtain ⟨hq, rfl⟩ := hq
  cases hq
  refine kx_aload_n (pc := 545) d_W_law_545 rfl ?_
  refine kx_invV (pc := 546) (as := []) (st := []) (k := k) (j := j) d_W_law_546 wv_W_70 (wd_o rfl) (k_thrown (a := (s_filter a (xs (i + 1)) (xs (i + 2)) (xs (i + 3))).2) (b := (m_filter (w_b (s_filter a (xs (i + 1)) (xs (i + 2)) (xs (i + 3))).1 b) (xs (i + 1)) (xs (i + 2)) (xs (i + 3))))) rfl rfl (Nat.le_of_ble_eq_true rfl) (by decide) (Nat.le_of_ble_eq_true rfl) (fun rv n' h' hq => ?_) (fun X n' h' hq => nomatch hq.2)
  obtain ⟨rfl, hq⟩ := hq
  cases hq
  refine kx_iload (pc := 549) d_W_law_549 rfl ?_
  refine kx_icmp_eq (pc := 551) (tgt := 556) d_W_law_551 (by decide) (fun _ => ?_) (fun hz => absurd hR.code hz)
  refine kx_goto (pc := 556) (tgt := 968) d_W_law_556 (by decide) ?_
  refine kx_sub [1, 2, 3, 4, 5] rfl ?_
  exact hN _ _ _ hR.1
set_option maxHeartbeats 4000000 in
set_option maxRecDepth 100000 in
theorem k_law_next {E : kx_E} {n mc ms k j i S N : Nat} {xs : Nat → Int32} {a b : kW} {Q : kx_Q} (hS : kx_S E S N xs) (hN3 : N ≤ 3072) (hi : i + 6 ≤ N) (hI : Inv a b) (hN : ∀ a' b' n', Inv a' b' → kx_V E i_W_law 12 mc ms Q k j 968 [(4, .int (nI i)), (3, .ref 78), (2, .ref 61), (1, .ref 0), (0, .retAddr S)] [] n' (wd (wx a' b'))) : kx_V E i_W_law 12 mc ms Q (k + 5) (j + 30) 559 [(4, .int (nI i)), (3, .ref 78), (2, .ref 61), (1, .ref 0), (0, .retAddr S)] [] n (wd (wx a b)) := by
  obtain ⟨sz, du, hL, hP, hSb⟩ := id hI
  obtain ⟨v1, v2, v3, v4, v5, v6⟩ := id hL.1
  obtain ⟨q, hq5, hq1⟩ : ∃ q, q ≤ 500 ∧ (0 ≤ xs (i + 1) ∧ xs (i + 1) < 8 → a.2.2 (53 + nt (xs (i + 1))) 2 = nI q) := by
    by_cases w : 0 ≤ xs (i + 1) ∧ xs (i + 1) < 8
    · obtain ⟨u, hu, e1, e2⟩ := nI_get (N := 8) (by decide) w
      obtain ⟨-, -, ⟨q, hq, q1, -⟩, -⟩ := hSb u hu
      exact ⟨q, hq, fun _ => by rw [e2]; exact q1⟩
    · exact ⟨0, by decide, fun y => absurd y w⟩
  have hsh : (∃ x, (s_next a sz q (xs (i + 1))).1 = Sum.inl (some (.int x))) ∨ (s_next a sz q (xs (i + 1))).1 = Sum.inr "java/lang/IllegalArgumentException" := by
    rcases (R_next hI hL (xs (i + 1)) hq1 hq5).2.2 with ⟨e1, -⟩ | ⟨X, c, e1, e2, -, -⟩
    · exact Or.inl ⟨_, e1⟩
    · exact Or.inr (by rw [e1, sh_cI e2])
  have w3 : (w_b (s_next a sz q (xs (i + 1))).1 b).2.2 61 1 = nI sz := (hL.wb (r := (s_next a sz q (xs (i + 1))).1)).1.2.2.1
  have hb76 : ∀ u, u < 8 → ∃ q7, q7 ≤ 500 ∧ (w_b (s_next a sz q (xs (i + 1))).1 b).1 76 u = nI q7 := fun u hu => by
    obtain ⟨-, -, ⟨q', hq', -, q2⟩, -⟩ := (hSb u hu).wb (r := (s_next a sz q (xs (i + 1))).1)
    exact ⟨q', hq', q2⟩
  have hR := R_next (hI.wb (r := (s_next a sz q (xs (i + 1))).1)) hL.wb (xs (i + 1)) hq1 hq5
  refine kx_aload_n (pc := 559) d_W_law_559 rfl ?_
  refine kx_aload_s (pc := 560) d_W_law_560 rfl ?_
  refine kx_iload (pc := 561) d_W_law_561 rfl ?_
  refine kx_iconst (pc := 563) (x := 1) d_W_law_563 (by decide) ?_
  refine kx_iadd (pc := 564) d_W_law_564 ?_
  refine kx_eqi (show nI i + 1 = nI (i + 1) from nI_add i 1) ?_
  refine kx_siald (pc := 565) hS d_W_law_565 ⟨rfl, by omega, by omega⟩ ?_
  refine kx_aload_n (pc := 566) d_W_law_566 rfl ?_
  refine kx_invS (pc := 567) (as := [.ref _, .int _, .ref _]) (st := []) (k := k) (j := j) d_W_law_567 ws_W_93 (k_W_next (k_next v1 v6 hq5 hq1) hsh) rfl rfl (Nat.le_of_ble_eq_true rfl) (by decide) (Nat.le_of_ble_eq_true rfl) (fun rv n' h' hq => ?_) (fun X n' h' hq => nomatch hq.1)
  obtain ⟨hq, rfl⟩ := hq
  cases hq
  refine kx_istore (pc := 570) (lv' := [(5, _), (4, _), (3, _), (2, _), (1, _), (0, _)]) d_W_law_570 (by decide) rfl ?_
  refine kx_aload_n (pc := 572) d_W_law_572 rfl ?_
  refine kx_aload_s (pc := 573) d_W_law_573 rfl ?_
  refine kx_iload (pc := 574) d_W_law_574 rfl ?_
  refine kx_iconst (pc := 576) (x := 1) d_W_law_576 (by decide) ?_
  refine kx_iadd (pc := 577) d_W_law_577 ?_
  refine kx_eqi (show nI i + 1 = nI (i + 1) from nI_add i 1) ?_
  refine kx_siald (pc := 578) hS d_W_law_578 ⟨rfl, by omega, by omega⟩ ?_
  refine kx_invV (pc := 579) (as := [.int _]) (st := []) (k := k) (j := j) d_W_law_579 wv_W_95 (wd_o rfl) (k_mnext (a := (s_next a sz q (xs (i + 1))).2) (b := (w_b (s_next a sz q (xs (i + 1))).1 b)) (ev := sz) w3 v6 hb76) rfl rfl (Nat.le_of_ble_eq_true rfl) (by decide) (Nat.le_of_ble_eq_true rfl) (fun rv n' h' hq => ?_) (fun X n' h' hq => nomatch hq.1)
  obtain ⟨hq, rfl⟩ := hq
  cases hq
  refine kx_istore (pc := 582) (lv' := [(6, _), (5, _), (4, _), (3, _), (2, _), (1, _), (0, _)]) d_W_law_582 (by decide) rfl ?_
  refine kx_aload_n (pc := 584) d_W_law_584 rfl ?_
  refine kx_invV (pc := 585) (as := []) (st := []) (k := k) (j := j) d_W_law_585 wv_W_70 (wd_o rfl) (k_thrown (a := (s_next a sz q (xs (i + 1))).2) (b := (m_next (w_b (s_next a sz q (xs (i + 1))).1 b) sz (xs (i + 1))).2)) rfl rfl (Nat.le_of_ble_eq_true rfl) (by decide) (Nat.le_of_ble_eq_true rfl) (fun rv n' h' hq => ?_) (fun X n' h' hq => nomatch hq.2)
  obtain ⟨rfl, hq⟩ := hq
  cases hq
  refine kx_iload (pc := 588) d_W_law_588 rfl ?_
  refine kx_icmp_eq (pc := 590) (tgt := 595) d_W_law_590 (by decide) (fun _ => ?_) (fun hz => absurd hR.code hz)
  refine kx_iload (pc := 595) d_W_law_595 rfl ?_
  refine kx_if_ne (pc := 597) (tgt := 612) d_W_law_597 (by decide) (fun hne => ?_) (fun h0 => ?_)
  · refine kx_goto (pc := 612) (tgt := 968) d_W_law_612 (by decide) ?_
    refine kx_sub [2, 3, 4, 5, 6] rfl ?_
    exact hN _ _ _ hR.1
  · refine kx_aload_n (pc := 600) d_W_law_600 rfl ?_
    refine kx_iconst (pc := 601) (x := 0) d_W_law_601 (by decide) ?_
    refine km_lald (pc := 602) d_W_law_602 (by decide) rfl ⟨rfl, by decide, by decide⟩ ?_
    refine kx_eql (hR.val h0) ?_
    refine kx_iload (pc := 603) d_W_law_603 rfl ?_
    refine kx_i2l (pc := 605) d_W_law_605 ?_
    refine kx_lcmp (pc := 606) d_W_law_606 ?_
    refine kx_if_eq (pc := 607) (tgt := 612) d_W_law_607 (by decide) (fun _ => ?_) (fun hz => absurd ((lg_cmp_eq _ _).mpr rfl) hz)
    refine kx_goto (pc := 612) (tgt := 968) d_W_law_612 (by decide) ?_
    refine kx_sub [2, 3, 4, 5, 6] rfl ?_
    exact hN _ _ _ hR.1
set_option maxHeartbeats 4000000 in
set_option maxRecDepth 100000 in
theorem k_law_acknowledge {E : kx_E} {n mc ms k j i S N : Nat} {xs : Nat → Int32} {a b : kW} {Q : kx_Q} (hS : kx_S E S N xs) (hN3 : N ≤ 3072) (hi : i + 6 ≤ N) (hI : Inv a b) (hN : ∀ a' b' n', Inv a' b' → kx_V E i_W_law 12 mc ms Q k j 968 [(4, .int (nI i)), (3, .ref 78), (2, .ref 61), (1, .ref 0), (0, .retAddr S)] [] n' (wd (wx a' b'))) : kx_V E i_W_law 12 mc ms Q (k + 5) (j + 30) 615 [(4, .int (nI i)), (3, .ref 78), (2, .ref 61), (1, .ref 0), (0, .retAddr S)] [] n (wd (wx a b)) := by
  obtain ⟨sz, du, hL, hP, hSb⟩ := id hI
  obtain ⟨v1, v2, v3, v4, v5, v6⟩ := id hL.1
  have hsh : (∃ x, (s_ack a sz (xs (i + 1)) (xs (i + 2))).1 = Sum.inl (some (.int x))) ∨ (s_ack a sz (xs (i + 1)) (xs (i + 2))).1 = Sum.inr "java/lang/IllegalArgumentException" ∨ (s_ack a sz (xs (i + 1)) (xs (i + 2))).1 = Sum.inr "java/lang/IndexOutOfBoundsException" := by
    rcases (R_ack hI hL (xs (i + 1)) (xs (i + 2))).2.2 with ⟨e1, -⟩ | ⟨X, c, e1, e2, -, -⟩
    · exact Or.inl ⟨_, e1⟩
    · exact Or.inr ((sh_cIO e2).elim (fun y => Or.inl (by rw [e1, y])) (fun y => Or.inr (by rw [e1, y])))
  have w3 : (w_b (s_ack a sz (xs (i + 1)) (xs (i + 2))).1 b).2.2 61 1 = nI sz := (hL.wb (r := (s_ack a sz (xs (i + 1)) (xs (i + 2))).1)).1.2.2.1
  have hR := R_ack (hI.wb (r := (s_ack a sz (xs (i + 1)) (xs (i + 2))).1)) hL.wb (xs (i + 1)) (xs (i + 2))
  refine kx_aload_n (pc := 615) d_W_law_615 rfl ?_
  refine kx_aload_s (pc := 616) d_W_law_616 rfl ?_
  refine kx_iload (pc := 617) d_W_law_617 rfl ?_
  refine kx_iconst (pc := 619) (x := 1) d_W_law_619 (by decide) ?_
  refine kx_iadd (pc := 620) d_W_law_620 ?_
  refine kx_eqi (show nI i + 1 = nI (i + 1) from nI_add i 1) ?_
  refine kx_siald (pc := 621) hS d_W_law_621 ⟨rfl, by omega, by omega⟩ ?_
  refine kx_aload_s (pc := 622) d_W_law_622 rfl ?_
  refine kx_iload (pc := 623) d_W_law_623 rfl ?_
  refine kx_iconst (pc := 625) (x := 2) d_W_law_625 (by decide) ?_
  refine kx_iadd (pc := 626) d_W_law_626 ?_
  refine kx_eqi (show nI i + 2 = nI (i + 2) from nI_add i 2) ?_
  refine kx_siald (pc := 627) hS d_W_law_627 ⟨rfl, by omega, by omega⟩ ?_
  refine kx_aload_n (pc := 628) d_W_law_628 rfl ?_
  refine kx_invS (pc := 629) (as := [.ref _, .int _, .int _, .ref _]) (st := []) (k := k) (j := j) d_W_law_629 ws_W_96 (k_W_acknowledge (k_acknowledge v1 v6) hsh) rfl rfl (Nat.le_of_ble_eq_true rfl) (by decide) (Nat.le_of_ble_eq_true rfl) (fun rv n' h' hq => ?_) (fun X n' h' hq => nomatch hq.1)
  obtain ⟨hq, rfl⟩ := hq
  cases hq
  refine kx_istore (pc := 632) (lv' := [(5, _), (4, _), (3, _), (2, _), (1, _), (0, _)]) d_W_law_632 (by decide) rfl ?_
  refine kx_aload_n (pc := 634) d_W_law_634 rfl ?_
  refine kx_aload_s (pc := 635) d_W_law_635 rfl ?_
  refine kx_iload (pc := 636) d_W_law_636 rfl ?_
  refine kx_iconst (pc := 638) (x := 1) d_W_law_638 (by decide) ?_
  refine kx_iadd (pc := 639) d_W_law_639 ?_
  refine kx_eqi (show nI i + 1 = nI (i + 1) from nI_add i 1) ?_
  refine kx_siald (pc := 640) hS d_W_law_640 ⟨rfl, by omega, by omega⟩ ?_
  refine kx_aload_s (pc := 641) d_W_law_641 rfl ?_
  refine kx_iload (pc := 642) d_W_law_642 rfl ?_
  refine kx_iconst (pc := 644) (x := 2) d_W_law_644 (by decide) ?_
  refine kx_iadd (pc := 645) d_W_law_645 ?_
  refine kx_eqi (show nI i + 2 = nI (i + 2) from nI_add i 2) ?_
  refine kx_siald (pc := 646) hS d_W_law_646 ⟨rfl, by omega, by omega⟩ ?_
  refine kx_invV (pc := 647) (as := [.int _, .int _]) (st := []) (k := k) (j := j) d_W_law_647 wv_W_98 (wd_o rfl) (k_mack (a := (s_ack a sz (xs (i + 1)) (xs (i + 2))).2) (b := (w_b (s_ack a sz (xs (i + 1)) (xs (i + 2))).1 b)) (ev := sz) w3) rfl rfl (Nat.le_of_ble_eq_true rfl) (by decide) (Nat.le_of_ble_eq_true rfl) (fun rv n' h' hq => ?_) (fun X n' h' hq => nomatch hq.1)
  obtain ⟨hq, rfl⟩ := hq
  cases hq
  refine kx_istore (pc := 650) (lv' := [(6, _), (5, _), (4, _), (3, _), (2, _), (1, _), (0, _)]) d_W_law_650 (by decide) rfl ?_
  refine kx_aload_n (pc := 652) d_W_law_652 rfl ?_
  refine kx_invV (pc := 653) (as := []) (st := []) (k := k) (j := j) d_W_law_653 wv_W_70 (wd_o rfl) (k_thrown (a := (s_ack a sz (xs (i + 1)) (xs (i + 2))).2) (b := (m_ack (w_b (s_ack a sz (xs (i + 1)) (xs (i + 2))).1 b) sz (xs (i + 1)) (xs (i + 2))).2)) rfl rfl (Nat.le_of_ble_eq_true rfl) (by decide) (Nat.le_of_ble_eq_true rfl) (fun rv n' h' hq => ?_) (fun X n' h' hq => nomatch hq.2)
  obtain ⟨rfl, hq⟩ := hq
  cases hq
  refine kx_iload (pc := 656) d_W_law_656 rfl ?_
  refine kx_icmp_eq (pc := 658) (tgt := 663) d_W_law_658 (by decide) (fun _ => ?_) (fun hz => absurd hR.code hz)
  refine kx_iload (pc := 663) d_W_law_663 rfl ?_
  refine kx_if_ne (pc := 665) (tgt := 680) d_W_law_665 (by decide) (fun hne => ?_) (fun h0 => ?_)
  · refine kx_goto (pc := 680) (tgt := 968) d_W_law_680 (by decide) ?_
    refine kx_sub [2, 3, 4, 5, 6] rfl ?_
    exact hN _ _ _ hR.1
  · refine kx_aload_n (pc := 668) d_W_law_668 rfl ?_
    refine kx_iconst (pc := 669) (x := 0) d_W_law_669 (by decide) ?_
    refine km_lald (pc := 670) d_W_law_670 (by decide) rfl ⟨rfl, by decide, by decide⟩ ?_
    refine kx_eql (hR.val h0) ?_
    refine kx_iload (pc := 671) d_W_law_671 rfl ?_
    refine kx_i2l (pc := 673) d_W_law_673 ?_
    refine kx_lcmp (pc := 674) d_W_law_674 ?_
    refine kx_if_eq (pc := 675) (tgt := 680) d_W_law_675 (by decide) (fun _ => ?_) (fun hz => absurd ((lg_cmp_eq _ _).mpr rfl) hz)
    refine kx_goto (pc := 680) (tgt := 968) d_W_law_680 (by decide) ?_
    refine kx_sub [2, 3, 4, 5, 6] rfl ?_
    exact hN _ _ _ hR.1
set_option maxHeartbeats 4000000 in
set_option maxRecDepth 100000 in
theorem k_law_event {E : kx_E} {n mc ms k j i S N : Nat} {xs : Nat → Int32} {a b : kW} {Q : kx_Q} (hS : kx_S E S N xs) (hN3 : N ≤ 3072) (hi : i + 6 ≤ N) (hI : Inv a b) (hN : ∀ a' b' n', Inv a' b' → kx_V E i_W_law 12 mc ms Q k j 968 [(4, .int (nI i)), (3, .ref 78), (2, .ref 61), (1, .ref 0), (0, .retAddr S)] [] n' (wd (wx a' b'))) : kx_V E i_W_law 12 mc ms Q (k + 5) (j + 30) 709 [(4, .int (nI i)), (3, .ref 78), (2, .ref 61), (1, .ref 0), (0, .retAddr S)] [] n (wd (wx a b)) := by
  obtain ⟨sz, du, hL, hP, hSb⟩ := id hI
  obtain ⟨v1, v2, v3, v4, v5, v6⟩ := id hL.1
  have hsh : (∃ x, (s_event a sz (xs (i + 1)) (xs (i + 2))).1 = Sum.inl (some (.int x))) ∨ (s_event a sz (xs (i + 1)) (xs (i + 2))).1 = Sum.inr "java/lang/IllegalArgumentException" ∨ (s_event a sz (xs (i + 1)) (xs (i + 2))).1 = Sum.inr "java/lang/IndexOutOfBoundsException" := by
    rcases (R_event hI hL (xs (i + 1)) (xs (i + 2))).2.2 with ⟨e1, -⟩ | ⟨X, c, e1, e2, -, -⟩
    · exact Or.inl ⟨_, e1⟩
    · exact Or.inr ((sh_cIO e2).elim (fun y => Or.inl (by rw [e1, y])) (fun y => Or.inr (by rw [e1, y])))
  have w3 : (w_b (s_event a sz (xs (i + 1)) (xs (i + 2))).1 b).2.2 61 1 = nI sz := (hL.wb (r := (s_event a sz (xs (i + 1)) (xs (i + 2))).1)).1.2.2.1
  have hR := R_event (hI.wb (r := (s_event a sz (xs (i + 1)) (xs (i + 2))).1)) hL.wb (xs (i + 1)) (xs (i + 2))
  refine kx_aload_n (pc := 709) d_W_law_709 rfl ?_
  refine kx_aload_s (pc := 710) d_W_law_710 rfl ?_
  refine kx_iload (pc := 711) d_W_law_711 rfl ?_
  refine kx_iconst (pc := 713) (x := 1) d_W_law_713 (by decide) ?_
  refine kx_iadd (pc := 714) d_W_law_714 ?_
  refine kx_eqi (show nI i + 1 = nI (i + 1) from nI_add i 1) ?_
  refine kx_siald (pc := 715) hS d_W_law_715 ⟨rfl, by omega, by omega⟩ ?_
  refine kx_aload_s (pc := 716) d_W_law_716 rfl ?_
  refine kx_iload (pc := 717) d_W_law_717 rfl ?_
  refine kx_iconst (pc := 719) (x := 2) d_W_law_719 (by decide) ?_
  refine kx_iadd (pc := 720) d_W_law_720 ?_
  refine kx_eqi (show nI i + 2 = nI (i + 2) from nI_add i 2) ?_
  refine kx_siald (pc := 721) hS d_W_law_721 ⟨rfl, by omega, by omega⟩ ?_
  refine kx_aload_n (pc := 722) d_W_law_722 rfl ?_
  refine kx_invS (pc := 723) (as := [.ref _, .int _, .int _, .ref _]) (st := []) (k := k) (j := j) d_W_law_723 ws_W_107 (k_W_event (k_event v1 v6) hsh) rfl rfl (Nat.le_of_ble_eq_true rfl) (by decide) (Nat.le_of_ble_eq_true rfl) (fun rv n' h' hq => ?_) (fun X n' h' hq => nomatch hq.1)
  obtain ⟨hq, rfl⟩ := hq
  cases hq
  refine kx_istore (pc := 726) (lv' := [(5, _), (4, _), (3, _), (2, _), (1, _), (0, _)]) d_W_law_726 (by decide) rfl ?_
  refine kx_aload_n (pc := 728) d_W_law_728 rfl ?_
  refine kx_aload_s (pc := 729) d_W_law_729 rfl ?_
  refine kx_iload (pc := 730) d_W_law_730 rfl ?_
  refine kx_iconst (pc := 732) (x := 1) d_W_law_732 (by decide) ?_
  refine kx_iadd (pc := 733) d_W_law_733 ?_
  refine kx_eqi (show nI i + 1 = nI (i + 1) from nI_add i 1) ?_
  refine kx_siald (pc := 734) hS d_W_law_734 ⟨rfl, by omega, by omega⟩ ?_
  refine kx_aload_s (pc := 735) d_W_law_735 rfl ?_
  refine kx_iload (pc := 736) d_W_law_736 rfl ?_
  refine kx_iconst (pc := 738) (x := 2) d_W_law_738 (by decide) ?_
  refine kx_iadd (pc := 739) d_W_law_739 ?_
  refine kx_eqi (show nI i + 2 = nI (i + 2) from nI_add i 2) ?_
  refine kx_siald (pc := 740) hS d_W_law_740 ⟨rfl, by omega, by omega⟩ ?_
  refine kx_invV (pc := 741) (as := [.int _, .int _]) (st := []) (k := k) (j := j) d_W_law_741 wv_W_109 (wd_o rfl) (k_mevent (a := (s_event a sz (xs (i + 1)) (xs (i + 2))).2) (b := (w_b (s_event a sz (xs (i + 1)) (xs (i + 2))).1 b)) (ev := sz) w3 v6) rfl rfl (Nat.le_of_ble_eq_true rfl) (by decide) (Nat.le_of_ble_eq_true rfl) (fun rv n' h' hq => ?_) (fun X n' h' hq => nomatch hq.1)
  obtain ⟨hq, rfl⟩ := hq
  cases hq
  refine kx_istore (pc := 744) (lv' := [(6, _), (5, _), (4, _), (3, _), (2, _), (1, _), (0, _)]) d_W_law_744 (by decide) rfl ?_
  refine kx_aload_n (pc := 746) d_W_law_746 rfl ?_
  refine kx_invV (pc := 747) (as := []) (st := []) (k := k) (j := j) d_W_law_747 wv_W_70 (wd_o rfl) (k_thrown (a := (s_event a sz (xs (i + 1)) (xs (i + 2))).2) (b := (m_event (w_b (s_event a sz (xs (i + 1)) (xs (i + 2))).1 b) sz (xs (i + 1)) (xs (i + 2))).2)) rfl rfl (Nat.le_of_ble_eq_true rfl) (by decide) (Nat.le_of_ble_eq_true rfl) (fun rv n' h' hq => ?_) (fun X n' h' hq => nomatch hq.2)
  obtain ⟨rfl, hq⟩ := hq
  cases hq
  refine kx_iload (pc := 750) d_W_law_750 rfl ?_
  refine kx_icmp_eq (pc := 752) (tgt := 757) d_W_law_752 (by decide) (fun _ => ?_) (fun hz => absurd hR.code hz)
  refine kx_iload (pc := 757) d_W_law_757 rfl ?_
  refine kx_if_ne (pc := 759) (tgt := 774) d_W_law_759 (by decide) (fun hne => ?_) (fun h0 => ?_)
  · refine kx_goto (pc := 774) (tgt := 968) d_W_law_774 (by decide) ?_
    refine kx_sub [2, 3, 4, 5, 6] rfl ?_
    exact hN _ _ _ hR.1
  · refine kx_aload_n (pc := 762) d_W_law_762 rfl ?_
    refine kx_iconst (pc := 763) (x := 0) d_W_law_763 (by decide) ?_
    refine km_lald (pc := 764) d_W_law_764 (by decide) rfl ⟨rfl, by decide, by decide⟩ ?_
    refine kx_eql (hR.val h0) ?_
    refine kx_iload (pc := 765) d_W_law_765 rfl ?_
    refine kx_i2l (pc := 767) d_W_law_767 ?_
    refine kx_lcmp (pc := 768) d_W_law_768 ?_
    refine kx_if_eq (pc := 769) (tgt := 774) d_W_law_769 (by decide) (fun _ => ?_) (fun hz => absurd ((lg_cmp_eq _ _).mpr rfl) hz)
    refine kx_goto (pc := 774) (tgt := 968) d_W_law_774 (by decide) ?_
    refine kx_sub [2, 3, 4, 5, 6] rfl ?_
    exact hN _ _ _ hR.1
set_option maxHeartbeats 4000000 in
set_option maxRecDepth 100000 in
theorem k_law_value {E : kx_E} {n mc ms k j i S N : Nat} {xs : Nat → Int32} {a b : kW} {Q : kx_Q} (hS : kx_S E S N xs) (hN3 : N ≤ 3072) (hi : i + 6 ≤ N) (hI : Inv a b) (hN : ∀ a' b' n', Inv a' b' → kx_V E i_W_law 12 mc ms Q k j 968 [(4, .int (nI i)), (3, .ref 78), (2, .ref 61), (1, .ref 0), (0, .retAddr S)] [] n' (wd (wx a' b'))) : kx_V E i_W_law 12 mc ms Q (k + 5) (j + 30) 777 [(4, .int (nI i)), (3, .ref 78), (2, .ref 61), (1, .ref 0), (0, .retAddr S)] [] n (wd (wx a b)) := by
  obtain ⟨sz, du, hL, hP, hSb⟩ := id hI
  obtain ⟨v1, v2, v3, v4, v5, v6⟩ := id hL.1
  have hsh : (∃ x, (s_value a sz (xs (i + 1))).1 = Sum.inl (some (.long x))) ∨ (s_value a sz (xs (i + 1))).1 = Sum.inr "java/lang/IndexOutOfBoundsException" := by
    rcases (R_value hI hL (xs (i + 1))).2.2 with ⟨e1, -⟩ | ⟨X, c, e1, e2, -, -⟩
    · exact Or.inl ⟨_, e1⟩
    · exact Or.inr (by rw [e1, sh_cO e2])
  have w3 : (w_b (s_value a sz (xs (i + 1))).1 b).2.2 61 1 = nI sz := (hL.wb (r := (s_value a sz (xs (i + 1))).1)).1.2.2.1
  have hR := R_value (hI.wb (r := (s_value a sz (xs (i + 1))).1)) hL.wb (xs (i + 1))
  refine kx_aload_n (pc := 777) d_W_law_777 rfl ?_
  refine kx_aload_s (pc := 778) d_W_law_778 rfl ?_
  refine kx_iload (pc := 779) d_W_law_779 rfl ?_
  refine kx_iconst (pc := 781) (x := 1) d_W_law_781 (by decide) ?_
  refine kx_iadd (pc := 782) d_W_law_782 ?_
  refine kx_eqi (show nI i + 1 = nI (i + 1) from nI_add i 1) ?_
  refine kx_siald (pc := 783) hS d_W_law_783 ⟨rfl, by omega, by omega⟩ ?_
  refine kx_aload_n (pc := 784) d_W_law_784 rfl ?_
  refine kx_invS (pc := 785) (as := [.ref _, .int _, .ref _]) (st := []) (k := k) (j := j) d_W_law_785 ws_W_110 (k_W_value (k_value v1 v6) hsh) rfl rfl (Nat.le_of_ble_eq_true rfl) (by decide) (Nat.le_of_ble_eq_true rfl) (fun rv n' h' hq => ?_) (fun X n' h' hq => nomatch hq.1)
  obtain ⟨hq, rfl⟩ := hq
  cases hq
  refine kx_istore (pc := 788) (lv' := [(5, _), (4, _), (3, _), (2, _), (1, _), (0, _)]) d_W_law_788 (by decide) rfl ?_
  refine kx_aload_n (pc := 790) d_W_law_790 rfl ?_
  refine kx_aload_s (pc := 791) d_W_law_791 rfl ?_
  refine kx_iload (pc := 792) d_W_law_792 rfl ?_
  refine kx_iconst (pc := 794) (x := 1) d_W_law_794 (by decide) ?_
  refine kx_iadd (pc := 795) d_W_law_795 ?_
  refine kx_eqi (show nI i + 1 = nI (i + 1) from nI_add i 1) ?_
  refine kx_siald (pc := 796) hS d_W_law_796 ⟨rfl, by omega, by omega⟩ ?_
  refine kx_invV (pc := 797) (as := [.int _]) (st := []) (k := k) (j := j) d_W_law_797 wv_W_112 (wd_o rfl) (k_mvalue (a := (s_value a sz (xs (i + 1))).2) (b := (w_b (s_value a sz (xs (i + 1))).1 b)) (ev := sz) w3 v6) rfl rfl (Nat.le_of_ble_eq_true rfl) (by decide) (Nat.le_of_ble_eq_true rfl) (fun rv n' h' hq => ?_) (fun X n' h' hq => nomatch hq.1)
  obtain ⟨hq, rfl⟩ := hq
  cases hq
  refine kx_lstore (pc := 800) (lv' := [(6, _), (5, _), (4, _), (3, _), (2, _), (1, _), (0, _)]) d_W_law_800 (by decide) rfl ?_
  refine kx_aload_n (pc := 802) d_W_law_802 rfl ?_
  refine kx_invV (pc := 803) (as := []) (st := []) (k := k) (j := j) d_W_law_803 wv_W_70 (wd_o rfl) (k_thrown (a := (s_value a sz (xs (i + 1))).2) (b := (m_value (w_b (s_value a sz (xs (i + 1))).1 b) sz (xs (i + 1))).2)) rfl rfl (Nat.le_of_ble_eq_true rfl) (by decide) (Nat.le_of_ble_eq_true rfl) (fun rv n' h' hq => ?_) (fun X n' h' hq => nomatch hq.2)
  obtain ⟨rfl, hq⟩ := hq
  cases hq
  refine kx_iload (pc := 806) d_W_law_806 rfl ?_
  refine kx_icmp_eq (pc := 808) (tgt := 813) d_W_law_808 (by decide) (fun _ => ?_) (fun hz => absurd hR.code hz)
  refine kx_iload (pc := 813) d_W_law_813 rfl ?_
  refine kx_if_ne (pc := 815) (tgt := 829) d_W_law_815 (by decide) (fun hne => ?_) (fun h0 => ?_)
  · refine kx_goto (pc := 829) (tgt := 968) d_W_law_829 (by decide) ?_
    refine kx_sub [2, 3, 4, 5, 6] rfl ?_
    exact hN _ _ _ hR.1
  · refine kx_aload_n (pc := 818) d_W_law_818 rfl ?_
    refine kx_iconst (pc := 819) (x := 0) d_W_law_819 (by decide) ?_
    refine km_lald (pc := 820) d_W_law_820 (by decide) rfl ⟨rfl, by decide, by decide⟩ ?_
    refine kx_eql (hR.val h0) ?_
    refine kx_lload (pc := 821) d_W_law_821 rfl ?_
    refine kx_lcmp (pc := 823) d_W_law_823 ?_
    refine kx_if_eq (pc := 824) (tgt := 829) d_W_law_824 (by decide) (fun _ => ?_) (fun hz => absurd ((lg_cmp_eq _ _).mpr rfl) hz)
    refine kx_goto (pc := 829) (tgt := 968) d_W_law_829 (by decide) ?_
    refine kx_sub [2, 3, 4, 5, 6] rfl ?_
    exact hN _ _ _ hR.1
set_option maxHeartbeats 4000000 in
set_option maxRecDepth 100000 in
theorem k_law_find {E : kx_E} {n mc ms k j i S N : Nat} {xs : Nat → Int32} {a b : kW} {Q : kx_Q} (hS : kx_S E S N xs) (hN3 : N ≤ 3072) (hi : i + 6 ≤ N) (hI : Inv a b) (hN : ∀ a' b' n', Inv a' b' → kx_V E i_W_law 12 mc ms Q k j 968 [(4, .int (nI i)), (3, .ref 78), (2, .ref 61), (1, .ref 0), (0, .retAddr S)] [] n' (wd (wx a' b'))) : kx_V E i_W_law 12 mc ms Q (k + 5) (j + 30) 832 [(4, .int (nI i)), (3, .ref 78), (2, .ref 61), (1, .ref 0), (0, .retAddr S)] [] n (wd (wx a b)) := by
  obtain ⟨sz, du, hL, hP, hSb⟩ := id hI
  obtain ⟨v1, v2, v3, v4, v5, v6⟩ := id hL.1
  have hsh : (∃ x, (s_find a sz (xs (i + 1)) (xs (i + 2))).1 = Sum.inl (some (.int x))) ∨ (s_find a sz (xs (i + 1)) (xs (i + 2))).1 = Sum.inr "java/lang/IllegalArgumentException" ∨ (s_find a sz (xs (i + 1)) (xs (i + 2))).1 = Sum.inr "java/lang/IndexOutOfBoundsException" := by
    rcases (R_find hI hL (xs (i + 1)) (xs (i + 2))).2.2 with ⟨e1, -⟩ | ⟨X, c, e1, e2, -, -⟩
    · exact Or.inl ⟨_, e1⟩
    · exact Or.inr ((sh_cIO e2).elim (fun y => Or.inl (by rw [e1, y])) (fun y => Or.inr (by rw [e1, y])))
  have w3 : (w_b (s_find a sz (xs (i + 1)) (xs (i + 2))).1 b).2.2 61 1 = nI sz := (hL.wb (r := (s_find a sz (xs (i + 1)) (xs (i + 2))).1)).1.2.2.1
  have hR := R_find (hI.wb (r := (s_find a sz (xs (i + 1)) (xs (i + 2))).1)) hL.wb (xs (i + 1)) (xs (i + 2))
  refine kx_aload_n (pc := 832) d_W_law_832 rfl ?_
  refine kx_aload_s (pc := 833) d_W_law_833 rfl ?_
  refine kx_iload (pc := 834) d_W_law_834 rfl ?_
  refine kx_iconst (pc := 836) (x := 1) d_W_law_836 (by decide) ?_
  refine kx_iadd (pc := 837) d_W_law_837 ?_
  refine kx_eqi (show nI i + 1 = nI (i + 1) from nI_add i 1) ?_
  refine kx_siald (pc := 838) hS d_W_law_838 ⟨rfl, by omega, by omega⟩ ?_
  refine kx_aload_s (pc := 839) d_W_law_839 rfl ?_
  refine kx_iload (pc := 840) d_W_law_840 rfl ?_
  refine kx_iconst (pc := 842) (x := 2) d_W_law_842 (by decide) ?_
  refine kx_iadd (pc := 843) d_W_law_843 ?_
  refine kx_eqi (show nI i + 2 = nI (i + 2) from nI_add i 2) ?_
  refine kx_siald (pc := 844) hS d_W_law_844 ⟨rfl, by omega, by omega⟩ ?_
  refine kx_aload_n (pc := 845) d_W_law_845 rfl ?_
  refine kx_invS (pc := 846) (as := [.ref _, .int _, .int _, .ref _]) (st := []) (k := k) (j := j) d_W_law_846 ws_W_113 (k_W_find (k_find v1 v6) hsh) rfl rfl (Nat.le_of_ble_eq_true rfl) (by decide) (Nat.le_of_ble_eq_true rfl) (fun rv n' h' hq => ?_) (fun X n' h' hq => nomatch hq.1)
  obtain ⟨hq, rfl⟩ := hq
  cases hq
  refine kx_istore (pc := 849) (lv' := [(5, _), (4, _), (3, _), (2, _), (1, _), (0, _)]) d_W_law_849 (by decide) rfl ?_
  refine kx_aload_n (pc := 851) d_W_law_851 rfl ?_
  refine kx_aload_s (pc := 852) d_W_law_852 rfl ?_
  refine kx_iload (pc := 853) d_W_law_853 rfl ?_
  refine kx_iconst (pc := 855) (x := 1) d_W_law_855 (by decide) ?_
  refine kx_iadd (pc := 856) d_W_law_856 ?_
  refine kx_eqi (show nI i + 1 = nI (i + 1) from nI_add i 1) ?_
  refine kx_siald (pc := 857) hS d_W_law_857 ⟨rfl, by omega, by omega⟩ ?_
  refine kx_aload_s (pc := 858) d_W_law_858 rfl ?_
  refine kx_iload (pc := 859) d_W_law_859 rfl ?_
  refine kx_iconst (pc := 861) (x := 2) d_W_law_861 (by decide) ?_
  refine kx_iadd (pc := 862) d_W_law_862 ?_
  refine kx_eqi (show nI i + 2 = nI (i + 2) from nI_add i 2) ?_
  refine kx_siald (pc := 863) hS d_W_law_863 ⟨rfl, by omega, by omega⟩ ?_
  refine kx_invV (pc := 864) (as := [.int _, .int _]) (st := []) (k := k) (j := j) d_W_law_864 wv_W_115 (wd_o rfl) (k_mfind (a := (s_find a sz (xs (i + 1)) (xs (i + 2))).2) (b := (w_b (s_find a sz (xs (i + 1)) (xs (i + 2))).1 b)) (ev := sz) w3 v6) rfl rfl (Nat.le_of_ble_eq_true rfl) (by decide) (Nat.le_of_ble_eq_true rfl) (fun rv n' h' hq => ?_) (fun X n' h' hq => nomatch hq.1)
  obtain ⟨hq, rfl⟩ := hq
  cases hq
  refine kx_istore (pc := 867) (lv' := [(6, _), (5, _), (4, _), (3, _), (2, _), (1, _), (0, _)]) d_W_law_867 (by decide) rfl ?_
  refine kx_aload_n (pc := 869) d_W_law_869 rfl ?_
  refine kx_invV (pc := 870) (as := []) (st := []) (k := k) (j := j) d_W_law_870 wv_W_70 (wd_o rfl) (k_thrown (a := (s_find a sz (xs (i + 1)) (xs (i + 2))).2) (b := (m_find (w_b (s_find a sz (xs (i + 1)) (xs (i + 2))).1 b) sz (xs (i + 1)) (xs (i + 2))).2)) rfl rfl (Nat.le_of_ble_eq_true rfl) (by decide) (Nat.le_of_ble_eq_true rfl) (fun rv n' h' hq => ?_) (fun X n' h' hq => nomatch hq.2)
  obtain ⟨rfl, hq⟩ := hq
  cases hq
  refine kx_iload (pc := 873) d_W_law_873 rfl ?_
  refine kx_icmp_eq (pc := 875) (tgt := 880) d_W_law_875 (by decide) (fun _ => ?_) (fun hz => absurd hR.code hz)
  refine kx_iload (pc := 880) d_W_law_880 rfl ?_
  refine kx_if_ne (pc := 882) (tgt := 897) d_W_law_882 (by decide) (fun hne => ?_) (fun h0 => ?_)
  · refine kx_goto (pc := 897) (tgt := 968) d_W_law_897 (by decide) ?_
    refine kx_sub [2, 3, 4, 5, 6] rfl ?_
    exact hN _ _ _ hR.1
  · refine kx_aload_n (pc := 885) d_W_law_885 rfl ?_
    refine kx_iconst (pc := 886) (x := 0) d_W_law_886 (by decide) ?_
    refine km_lald (pc := 887) d_W_law_887 (by decide) rfl ⟨rfl, by decide, by decide⟩ ?_
    refine kx_eql (hR.val h0) ?_
    refine kx_iload (pc := 888) d_W_law_888 rfl ?_
    refine kx_i2l (pc := 890) d_W_law_890 ?_
    refine kx_lcmp (pc := 891) d_W_law_891 ?_
    refine kx_if_eq (pc := 892) (tgt := 897) d_W_law_892 (by decide) (fun _ => ?_) (fun hz => absurd ((lg_cmp_eq _ _).mpr rfl) hz)
    refine kx_goto (pc := 897) (tgt := 968) d_W_law_897 (by decide) ?_
    refine kx_sub [2, 3, 4, 5, 6] rfl ?_
    exact hN _ _ _ hR.1
set_option maxHeartbeats 4000000 in
set_option maxRecDepth 100000 in
theorem k_law_count {E : kx_E} {n mc ms k j i S N : Nat} {xs : Nat → Int32} {a b : kW} {Q : kx_Q} (hS : kx_S E S N xs) (hN3 : N ≤ 3072) (hi : i + 6 ≤ N) (hI : Inv a b) (hN : ∀ a' b' n', Inv a' b' → kx_V E i_W_law 12 mc ms Q k j 968 [(4, .int (nI i)), (3, .ref 78), (2, .ref 61), (1, .ref 0), (0, .retAddr S)] [] n' (wd (wx a' b'))) : kx_V E i_W_law 12 mc ms Q (k + 5) (j + 30) 900 [(4, .int (nI i)), (3, .ref 78), (2, .ref 61), (1, .ref 0), (0, .retAddr S)] [] n (wd (wx a b)) := by
  obtain ⟨sz, du, hL, hP, hSb⟩ := id hI
  obtain ⟨v1, v2, v3, v4, v5, v6⟩ := id hL.1
  have hsh : (∃ x, (s_count a (xs (i + 1)) (xs (i + 2))).1 = Sum.inl (some (.int x))) ∨ (s_count a (xs (i + 1)) (xs (i + 2))).1 = Sum.inr "java/lang/IllegalArgumentException" := by
    rcases (R_count hI hL (xs (i + 1)) (xs (i + 2))).2.2 with ⟨e1, -⟩ | ⟨X, c, e1, e2, -, -⟩
    · exact Or.inl ⟨_, e1⟩
    · exact Or.inr (by rw [e1, sh_cI e2])
  have w3 : (w_b (s_count a (xs (i + 1)) (xs (i + 2))).1 b).2.2 61 1 = nI sz := (hL.wb (r := (s_count a (xs (i + 1)) (xs (i + 2))).1)).1.2.2.1
  have hR := R_count (hI.wb (r := (s_count a (xs (i + 1)) (xs (i + 2))).1)) hL.wb (xs (i + 1)) (xs (i + 2))
  refine kx_aload_n (pc := 900) d_W_law_900 rfl ?_
  refine kx_aload_s (pc := 901) d_W_law_901 rfl ?_
  refine kx_iload (pc := 902) d_W_law_902 rfl ?_
  refine kx_iconst (pc := 904) (x := 1) d_W_law_904 (by decide) ?_
  refine kx_iadd (pc := 905) d_W_law_905 ?_
  refine kx_eqi (show nI i + 1 = nI (i + 1) from nI_add i 1) ?_
  refine kx_siald (pc := 906) hS d_W_law_906 ⟨rfl, by omega, by omega⟩ ?_
  refine kx_aload_s (pc := 907) d_W_law_907 rfl ?_
  refine kx_iload (pc := 908) d_W_law_908 rfl ?_
  refine kx_iconst (pc := 910) (x := 2) d_W_law_910 (by decide) ?_
  refine kx_iadd (pc := 911) d_W_law_911 ?_
  refine kx_eqi (show nI i + 2 = nI (i + 2) from nI_add i 2) ?_
  refine kx_siald (pc := 912) hS d_W_law_912 ⟨rfl, by omega, by omega⟩ ?_
  refine kx_aload_n (pc := 913) d_W_law_913 rfl ?_
  refine kx_invS (pc := 914) (as := [.ref _, .int _, .int _, .ref _]) (st := []) (k := k) (j := j) d_W_law_914 ws_W_116 (k_W_count k_count hsh) rfl rfl (Nat.le_of_ble_eq_true rfl) (by decide) (Nat.le_of_ble_eq_true rfl) (fun rv n' h' hq => ?_) (fun X n' h' hq => nomatch hq.1)
  obtain ⟨hq, rfl⟩ := hq
  cases hq
  refine kx_istore (pc := 917) (lv' := [(5, _), (4, _), (3, _), (2, _), (1, _), (0, _)]) d_W_law_917 (by decide) rfl ?_
  refine kx_aload_n (pc := 919) d_W_law_919 rfl ?_
  refine kx_aload_s (pc := 920) d_W_law_920 rfl ?_
  refine kx_iload (pc := 921) d_W_law_921 rfl ?_
  refine kx_iconst (pc := 923) (x := 1) d_W_law_923 (by decide) ?_
  refine kx_iadd (pc := 924) d_W_law_924 ?_
  refine kx_eqi (show nI i + 1 = nI (i + 1) from nI_add i 1) ?_
  refine kx_siald (pc := 925) hS d_W_law_925 ⟨rfl, by omega, by omega⟩ ?_
  refine kx_aload_s (pc := 926) d_W_law_926 rfl ?_
  refine kx_iload (pc := 927) d_W_law_927 rfl ?_
  refine kx_iconst (pc := 929) (x := 2) d_W_law_929 (by decide) ?_
  refine kx_iadd (pc := 930) d_W_law_930 ?_
  refine kx_eqi (show nI i + 2 = nI (i + 2) from nI_add i 2) ?_
  refine kx_siald (pc := 931) hS d_W_law_931 ⟨rfl, by omega, by omega⟩ ?_
  refine kx_invV (pc := 932) (as := [.int _, .int _]) (st := []) (k := k) (j := j) d_W_law_932 wv_W_118 (wd_o rfl) (k_mcount (a := (s_count a (xs (i + 1)) (xs (i + 2))).2) (b := (w_b (s_count a (xs (i + 1)) (xs (i + 2))).1 b)) (ev := sz) w3 v6) rfl rfl (Nat.le_of_ble_eq_true rfl) (by decide) (Nat.le_of_ble_eq_true rfl) (fun rv n' h' hq => ?_) (fun X n' h' hq => nomatch hq.1)
  obtain ⟨hq, rfl⟩ := hq
  cases hq
  refine kx_istore (pc := 935) (lv' := [(6, _), (5, _), (4, _), (3, _), (2, _), (1, _), (0, _)]) d_W_law_935 (by decide) rfl ?_
  refine kx_aload_n (pc := 937) d_W_law_937 rfl ?_
  refine kx_invV (pc := 938) (as := []) (st := []) (k := k) (j := j) d_W_law_938 wv_W_70 (wd_o rfl) (k_thrown (a := (s_count a (xs (i + 1)) (xs (i + 2))).2) (b := (m_count (w_b (s_count a (xs (i + 1)) (xs (i + 2))).1 b) sz (xs (i + 1)) (xs (i + 2))).2)) rfl rfl (Nat.le_of_ble_eq_true rfl) (by decide) (Nat.le_of_ble_eq_true rfl) (fun rv n' h' hq => ?_) (fun X n' h' hq => nomatch hq.2)
  obtain ⟨rfl, hq⟩ := hq
  cases hq
  refine kx_iload (pc := 941) d_W_law_941 rfl ?_
  refine kx_icmp_eq (pc := 943) (tgt := 948) d_W_law_943 (by decide) (fun _ => ?_) (fun hz => absurd hR.code hz)
  refine kx_iload (pc := 948) d_W_law_948 rfl ?_
  refine kx_if_ne (pc := 950) (tgt := 965) d_W_law_950 (by decide) (fun hne => ?_) (fun h0 => ?_)
  · refine kx_goto (pc := 965) (tgt := 968) d_W_law_965 (by decide) ?_
    refine kx_sub [2, 3, 4, 5, 6] rfl ?_
    exact hN _ _ _ hR.1
  · refine kx_aload_n (pc := 953) d_W_law_953 rfl ?_
    refine kx_iconst (pc := 954) (x := 0) d_W_law_954 (by decide) ?_
    refine km_lald (pc := 955) d_W_law_955 (by decide) rfl ⟨rfl, by decide, by decide⟩ ?_
    refine kx_eql (hR.val h0) ?_
    refine kx_iload (pc := 956) d_W_law_956 rfl ?_
    refine kx_i2l (pc := 958) d_W_law_958 ?_
    refine kx_lcmp (pc := 959) d_W_law_959 ?_
    refine kx_if_eq (pc := 960) (tgt := 965) d_W_law_960 (by decide) (fun _ => ?_) (fun hz => absurd ((lg_cmp_eq _ _).mpr rfl) hz)
    refine kx_goto (pc := 965) (tgt := 968) d_W_law_965 (by decide) ?_
    refine kx_sub [2, 3, 4, 5, 6] rfl ?_
    exact hN _ _ _ hR.1
