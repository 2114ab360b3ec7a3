set_option maxHeartbeats 4000000 in
set_option maxRecDepth 100000 in
theorem k_law_append {E : kx_E} {n mc ms k j i S N : Nat} {xs : Nat → Int32} {a b : kW} {Q : kx_Q} (hS : kx_S E S N xs) (hN3 : N ≤ 3072) (hi : i + 6 ≤ N) (hI : Inv a b) (hN : ∀ a' b' n', Inv a' b' → kx_V E i_W_law 12 mc ms Q k j 968 [(4, .int (nI i)), (3, .ref 78), (2, .ref 61), (1, .ref 0), (0, .retAddr S)] [] n' (wd (wx a' b'))) : kx_V E i_W_law 12 mc ms Q (k + 5) (j + 30) 112 [(4, .int (nI i)), (3, .ref 78), (2, .ref 61), (1, .ref 0), (0, .retAddr S)] [] n (wd (wx a b)) := by
  obtain ⟨sz, du, hL, hP, hSb⟩ := id hI
  obtain ⟨v1, v2, v3, v4, v5, v6⟩ := id hL.1
  obtain ⟨lv0, hlv⟩ : ∃ z : Int64, ((xs (i + 4)).toInt64 <<< (((32 : Int32).toInt64) &&& 63)) ||| ((xs (i + 5)).toInt64 &&& 4294967295) = z := ⟨_, rfl⟩
  have hsh : (∃ x, (s_append a sz (xs (i + 1)) (xs (i + 2)) (xs (i + 3)) lv0).1 = Sum.inl (some (.int x))) ∨ (s_append a sz (xs (i + 1)) (xs (i + 2)) (xs (i + 3)) lv0).1 = Sum.inr "java/lang/IllegalArgumentException" ∨ (s_append a sz (xs (i + 1)) (xs (i + 2)) (xs (i + 3)) lv0).1 = Sum.inr "java/lang/IllegalStateException" ∨ (s_append a sz (xs (i + 1)) (xs (i + 2)) (xs (i + 3)) lv0).1 = Sum.inr "java/lang/IndexOutOfBoundsException" := by
    rcases (R_append hI hL hP hSb (xs (i + 1)) (xs (i + 2)) (xs (i + 3)) lv0).2.2 with ⟨e1, -⟩ | ⟨X, c, e1, e2, -, -⟩
    · exact Or.inl ⟨_, e1⟩
    · exact Or.inr ((sh_cA e2).elim (fun y => Or.inl (by rw [e1, y])) (fun z => Or.inr (z.elim (fun y => Or.inl (by rw [e1, y])) (fun y => Or.inr (by rw [e1, y])))))
  have w3 : (w_b (s_append a sz (xs (i + 1)) (xs (i + 2)) (xs (i + 3)) lv0).1 b).2.2 61 1 = nI sz := (hL.wb (r := (s_append a sz (xs (i + 1)) (xs (i + 2)) (xs (i + 3)) lv0).1)).1.2.2.1
  have hR := R_append (hI.wb (r := (s_append a sz (xs (i + 1)) (xs (i + 2)) (xs (i + 3)) lv0).1)) hL.wb (fun p hp => (hP p hp).wb) (fun u hu => (hSb u hu).wb) (xs (i + 1)) (xs (i + 2)) (xs (i + 3)) lv0
  refine kx_aload_n (pc := 112) d_W_law_112 rfl ?_
  refine kx_aload_s (pc := 113) d_W_law_113 rfl ?_
  refine kx_iload (pc := 114) d_W_law_114 rfl ?_
  refine kx_iconst (pc := 116) (x := 1) d_W_law_116 (by decide) ?_
  refine kx_iadd (pc := 117) d_W_law_117 ?_
  refine kx_eqi (show nI i + 1 = nI (i + 1) from nI_add i 1) ?_
  refine kx_siald (pc := 118) hS d_W_law_118 ⟨rfl, by omega, by omega⟩ ?_
  refine kx_aload_s (pc := 119) d_W_law_119 rfl ?_
  refine kx_iload (pc := 120) d_W_law_120 rfl ?_
  refine kx_iconst (pc := 122) (x := 2) d_W_law_122 (by decide) ?_
  refine kx_iadd (pc := 123) d_W_law_123 ?_
  refine kx_eqi (show nI i + 2 = nI (i + 2) from nI_add i 2) ?_
  refine kx_siald (pc := 124) hS d_W_law_124 ⟨rfl, by omega, by omega⟩ ?_
  refine kx_aload_s (pc := 125) d_W_law_125 rfl ?_
  refine kx_iload (pc := 126) d_W_law_126 rfl ?_
  refine kx_iconst (pc := 128) (x := 3) d_W_law_128 (by decide) ?_
  refine kx_iadd (pc := 129) d_W_law_129 ?_
  refine kx_eqi (show nI i + 3 = nI (i + 3) from nI_add i 3) ?_
  refine kx_siald (pc := 130) hS d_W_law_130 ⟨rfl, by omega, by omega⟩ ?_
  refine kx_aload_s (pc := 131) d_W_law_131 rfl ?_
  refine kx_iload (pc := 132) d_W_law_132 rfl ?_
  refine kx_iconst (pc := 134) (x := 4) d_W_law_134 (by decide) ?_
  refine kx_iadd (pc := 135) d_W_law_135 ?_
  refine kx_eqi (show nI i + 4 = nI (i + 4) from nI_add i 4) ?_
  refine kx_siald (pc := 136) hS d_W_law_136 ⟨rfl, by omega, by omega⟩ ?_
  refine kx_i2l (pc := 137) d_W_law_137 ?_
  refine kx_bipush (pc := 138) (x := 32) d_W_law_138 (by decide) ?_
  refine kx_lshl (pc := 140) d_W_law_140 ?_
  refine kx_aload_s (pc := 141) d_W_law_141 rfl ?_
  refine kx_iload (pc := 142) d_W_law_142 rfl ?_
  refine kx_iconst (pc := 144) (x := 5) d_W_law_144 (by decide) ?_
  refine kx_iadd (pc := 145) d_W_law_145 ?_
  refine kx_eqi (show nI i + 5 = nI (i + 5) from nI_add i 5) ?_
  refine kx_siald (pc := 146) hS d_W_law_146 ⟨rfl, by omega, by omega⟩ ?_
  refine kx_i2l (pc := 147) d_W_law_147 ?_
  refine kx_ldc2 (pc := 148) (x := 4294967295) d_W_law_148 (kx_t 624 (by decide +kernel) rfl) ?_
  refine kx_land (pc := 151) d_W_law_151 ?_
  refine kx_lor (pc := 152) d_W_law_152 ?_
  refine kx_eql hlv ?_
  refine kx_aload_n (pc := 153) d_W_law_153 rfl ?_
  refine kx_invS (pc := 154) (as := [.ref _, .int _, .int _, .int _, .long _, .ref _]) (st := []) (k := k) (j := j) d_W_law_154 ws_W_64 (k_W_append (k_append v1 v6) hsh) rfl rfl (Nat.le_of_ble_eq_true rfl) (by decide) (Nat.le_of_ble_eq_true rfl) (fun rv n' h' hq => ?_) (fun X n' h' hq => nomatch hq.1)
  obtain ⟨hq, rfl⟩ := hq
  cases hq
  refine kx_istore (pc := 157) (lv' := [(5, _), (4, _), (3, _), (2, _), (1, _), (0, _)]) d_W_law_157 (by decide) rfl ?_
  refine kx_aload_n (pc := 159) d_W_law_159 rfl ?_
  refine kx_aload_s (pc := 160) d_W_law_160 rfl ?_
  refine kx_iload (pc := 161) d_W_law_161 rfl ?_
  refine kx_iconst (pc := 163) (x := 1) d_W_law_163 (by decide) ?_
  refine kx_iadd (pc := 164) d_W_law_164 ?_
  refine kx_eqi (show nI i + 1 = nI (i + 1) from nI_add i 1) ?_
  refine kx_siald (pc := 165) hS d_W_law_165 ⟨rfl, by omega, by omega⟩ ?_
  refine kx_aload_s (pc := 166) d_W_law_166 rfl ?_
  refine kx_iload (pc := 167) d_W_law_167 rfl ?_
  refine kx_iconst (pc := 169) (x := 2) d_W_law_169 (by decide) ?_
  refine kx_iadd (pc := 170) d_W_law_170 ?_
  refine kx_eqi (show nI i + 2 = nI (i + 2) from nI_add i 2) ?_
  refine kx_siald (pc := 171) hS d_W_law_171 ⟨rfl, by omega, by omega⟩ ?_
  refine kx_aload_s (pc := 172) d_W_law_172 rfl ?_
  refine kx_iload (pc := 173) d_W_law_173 rfl ?_
  refine kx_iconst (pc := 175) (x := 3) d_W_law_175 (by decide) ?_
  refine kx_iadd (pc := 176) d_W_law_176 ?_
  refine kx_eqi (show nI i + 3 = nI (i + 3) from nI_add i 3) ?_
  refine kx_siald (pc := 177) hS d_W_law_177 ⟨rfl, by omega, by omega⟩ ?_
  refine kx_aload_s (pc := 178) d_W_law_178 rfl ?_
  refine kx_iload (pc := 179) d_W_law_179 rfl ?_
  refine kx_iconst (pc := 181) (x := 4) d_W_law_181 (by decide) ?_
  refine kx_iadd (pc := 182) d_W_law_182 ?_
  refine kx_eqi (show nI i + 4 = nI (i + 4) from nI_add i 4) ?_
  refine kx_siald (pc := 183) hS d_W_law_183 ⟨rfl, by omega, by omega⟩ ?_
  refine kx_i2l (pc := 184) d_W_law_184 ?_
  refine kx_bipush (pc := 185) (x := 32) d_W_law_185 (by decide) ?_
  refine kx_lshl (pc := 187) d_W_law_187 ?_
  refine kx_aload_s (pc := 188) d_W_law_188 rfl ?_
  refine kx_iload (pc := 189) d_W_law_189 rfl ?_
  refine kx_iconst (pc := 191) (x := 5) d_W_law_191 (by decide) ?_
  refine kx_iadd (pc := 192) d_W_law_192 ?_
  refine kx_eqi (show nI i + 5 = nI (i + 5) from nI_add i 5) ?_
  refine kx_siald (pc := 193) hS d_W_law_193 ⟨rfl, by omega, by omega⟩ ?_
  refine kx_i2l (pc := 194) d_W_law_194 ?_
  refine kx_ldc2 (pc := 195) (x := 4294967295) d_W_law_195 (kx_t 624 (by decide +kernel) rfl) ?_
  refine kx_land (pc := 198) d_W_law_198 ?_
  refine kx_lor (pc := 199) d_W_law_199 ?_
  refine kx_eql hlv ?_
  refine kx_invV (pc := 200) (as := [.int _, .int _, .int _, .long _]) (st := []) (k := k) (j := j) d_W_law_200 wv_W_69 (wd_o rfl) (k_mappend (a := (s_append a sz (xs (i + 1)) (xs (i + 2)) (xs (i + 3)) lv0).2) (b := (w_b (s_append a sz (xs (i + 1)) (xs (i + 2)) (xs (i + 3)) lv0).1 b)) (ev := sz) w3 v6) rfl rfl (Nat.le_of_ble_eq_true rfl) (by decide) (Nat.le_of_ble_eq_true rfl) (fun rv n' h' hq => ?_) (fun X n' h' hq => nomatch hq.1)
  obtain ⟨hq, rfl⟩ := hq
  cases hq
  refine kx_istore (pc := 203) (lv' := [(6, _), (5, _), (4, _), (3, _), (2, _), (1, _), (0, _)]) d_W_law_203 (by decide) rfl ?_
  refine kx_aload_n (pc := 205) d_W_law_205 rfl ?_
  refine kx_invV (pc := 206) (as := []) (st := []) (k := k) (j := j) d_W_law_206 wv_W_70 (wd_o rfl) (k_thrown (a := (s_append a sz (xs (i + 1)) (xs (i + 2)) (xs (i + 3)) lv0).2) (b := (m_append (w_b (s_append a sz (xs (i + 1)) (xs (i + 2)) (xs (i + 3)) lv0).1 b) sz (xs (i + 1)) (xs (i + 2)) (xs (i + 3)) lv0).2)) rfl rfl (Nat.le_of_ble_eq_true rfl) (by decide) (Nat.le_of_ble_eq_true rfl) (fun rv n' h' hq => ?_) (fun X n' h' hq => nomatch hq.2)
  obtain ⟨rfl, hq⟩ := hq
  cases hq
  refine kx_iload (pc := 209) d_W_law_209 rfl ?_
  refine kx_icmp_eq (pc := 211) (tgt := 216) d_W_law_211 (by decide) (fun _ => ?_) (fun hz => absurd hR.code hz)
  refine kx_iload (pc := 216) d_W_law_216 rfl ?_
  refine kx_if_ne (pc := 218) (tgt := 233) d_W_law_218 (by decide) (fun hne => ?_) (fun h0 => ?_)
  · refine kx_goto (pc := 233) (tgt := 968) d_W_law_233 (by decide) ?_
    refine kx_sub [2, 3, 4, 5, 6] rfl ?_
    exact hN _ _ _ hR.1
  · refine kx_aload_n (pc := 221) d_W_law_221 rfl ?_
    refine kx_iconst (pc := 222) (x := 0) d_W_law_222 (by decide) ?_
    refine km_lald (pc := 223) d_W_law_223 (by decide) rfl ⟨rfl, by decide, by decide⟩ ?_
    refine kx_eql (hR.val h0) ?_
    refine kx_iload (pc := 224) d_W_law_224 rfl ?_
    refine kx_i2l (pc := 226) d_W_law_226 ?_
    refine kx_lcmp (pc := 227) d_W_law_227 ?_
    refine kx_if_eq (pc := 228) (tgt := 233) d_W_law_228 (by decide) (fun _ => ?_) (fun hz => absurd ((lg_cmp_eq _ _).mpr rfl) hz)
    refine kx_goto (pc := 233) (tgt := 968) d_W_law_233 (by decide) ?_
    refine kx_sub [2, 3, 4, 5, 6] rfl ?_
    exact hN _ _ _ hR.1
set_option maxHeartbeats 4000000 in
set_option maxRecDepth 100000 in
theorem k_law_rule {E : kx_E} {n mc ms k j i S N : Nat} {xs : Nat → Int32} {a b : kW} {Q : kx_Q} (hS : kx_S E S N xs) (hN3 : N ≤ 3072) (hi : i + 6 ≤ N) (hI : Inv a b) (hN : ∀ a' b' n', Inv a' b' → kx_V E i_W_law 12 mc ms Q k j 968 [(4, .int (nI i)), (3, .ref 78), (2, .ref 61), (1, .ref 0), (0, .retAddr S)] [] n' (wd (wx a' b'))) : kx_V E i_W_law 12 mc ms Q (k + 5) (j + 30) 236 [(4, .int (nI i)), (3, .ref 78), (2, .ref 61), (1, .ref 0), (0, .retAddr S)] [] n (wd (wx a b)) := by
  obtain ⟨sz, du, hL, hP, hSb⟩ := id hI
  obtain ⟨v1, v2, v3, v4, v5, v6⟩ := id hL.1
  have hsh : ((s_rule a (xs (i + 1)) (xs (i + 2)) (xs (i + 3)) (xs (i + 4))).1 = Sum.inl none) ∨ (s_rule a (xs (i + 1)) (xs (i + 2)) (xs (i + 3)) (xs (i + 4))).1 = Sum.inr "java/lang/IllegalArgumentException" := by
    rcases (R_rule hI (xs (i + 1)) (xs (i + 2)) (xs (i + 3)) (xs (i + 4))).2.2 with ⟨e1, -⟩ | ⟨X, c, e1, e2, -, -⟩
    · exact Or.inl e1
    · exact Or.inr (by rw [e1, sh_cI e2])
  have w3 : (w_b (s_rule a (xs (i + 1)) (xs (i + 2)) (xs (i + 3)) (xs (i + 4))).1 b).2.2 61 1 = nI sz := (hL.wb (r := (s_rule a (xs (i + 1)) (xs (i + 2)) (xs (i + 3)) (xs (i + 4))).1)).1.2.2.1
  have hR := R_rule (hI.wb (r := (s_rule a (xs (i + 1)) (xs (i + 2)) (xs (i + 3)) (xs (i + 4))).1)) (xs (i + 1)) (xs (i + 2)) (xs (i + 3)) (xs (i + 4))
  refine kx_aload_n (pc := 236) d_W_law_236 rfl ?_
  refine kx_aload_s (pc := 237) d_W_law_237 rfl ?_
  refine kx_iload (pc := 238) d_W_law_238 rfl ?_
  refine kx_iconst (pc := 240) (x := 1) d_W_law_240 (by decide) ?_
  refine kx_iadd (pc := 241) d_W_law_241 ?_
  refine kx_eqi (show nI i + 1 = nI (i + 1) from nI_add i 1) ?_
  refine kx_siald (pc := 242) hS d_W_law_242 ⟨rfl, by omega, by omega⟩ ?_
  refine kx_aload_s (pc := 243) d_W_law_243 rfl ?_
  refine kx_iload (pc := 244) d_W_law_244 rfl ?_
  refine kx_iconst (pc := 246) (x := 2) d_W_law_246 (by decide) ?_
  refine kx_iadd (pc := 247) d_W_law_247 ?_
  refine kx_eqi (show nI i + 2 = nI (i + 2) from nI_add i 2) ?_
  refine kx_siald (pc := 248) hS d_W_law_248 ⟨rfl, by omega, by omega⟩ ?_
  refine kx_aload_s (pc := 249) d_W_law_249 rfl ?_
  refine kx_iload (pc := 250) d_W_law_250 rfl ?_
  refine kx_iconst (pc := 252) (x := 3) d_W_law_252 (by decide) ?_
  refine kx_iadd (pc := 253) d_W_law_253 ?_
  refine kx_eqi (show nI i + 3 = nI (i + 3) from nI_add i 3) ?_
  refine kx_siald (pc := 254) hS d_W_law_254 ⟨rfl, by omega, by omega⟩ ?_
  refine kx_aload_s (pc := 255) d_W_law_255 rfl ?_
  refine kx_iload (pc := 256) d_W_law_256 rfl ?_
  refine kx_iconst (pc := 258) (x := 4) d_W_law_258 (by decide) ?_
  refine kx_iadd (pc := 259) d_W_law_259 ?_
  refine kx_eqi (show nI i + 4 = nI (i + 4) from nI_add i 4) ?_
  refine kx_siald (pc := 260) hS d_W_law_260 ⟨rfl, by omega, by omega⟩ ?_
  refine kx_invS (pc := 261) (as := [.ref _, .int _, .int _, .int _, .int _]) (st := []) (k := k) (j := j) d_W_law_261 ws_W_74 (k_W_rule k_rule hsh) rfl rfl (Nat.le_of_ble_eq_true rfl) (by decide) (Nat.le_of_ble_eq_true rfl) (fun rv n' h' hq => ?_) (fun X n' h' hq => nomatch hq.1)
  obtain ⟨hq, rfl⟩ := hq
  cases hq
  refine kx_istore (pc := 264) (lv' := [(5, _), (4, _), (3, _), (2, _), (1, _), (0, _)]) d_W_law_264 (by decide) rfl ?_
  refine kx_aload_n (pc := 266) d_W_law_266 rfl ?_
  refine kx_aload_s (pc := 267) d_W_law_267 rfl ?_
  refine kx_iload (pc := 268) d_W_law_268 rfl ?_
  refine kx_iconst (pc := 270) (x := 1) d_W_law_270 (by decide) ?_
  refine kx_iadd (pc := 271) d_W_law_271 ?_
  refine kx_eqi (show nI i + 1 = nI (i + 1) from nI_add i 1) ?_
  refine kx_siald (pc := 272) hS d_W_law_272 ⟨rfl, by omega, by omega⟩ ?_
  refine kx_aload_s (pc := 273) d_W_law_273 rfl ?_
  refine kx_iload (pc := 274) d_W_law_274 rfl ?_
  refine kx_iconst (pc := 276) (x := 2) d_W_law_276 (by decide) ?_
  refine kx_iadd (pc := 277) d_W_law_277 ?_
  refine kx_eqi (show nI i + 2 = nI (i + 2) from nI_add i 2) ?_
  refine kx_siald (pc := 278) hS d_W_law_278 ⟨rfl, by omega, by omega⟩ ?_
  refine kx_aload_s (pc := 279) d_W_law_279 rfl ?_
  refine kx_iload (pc := 280) d_W_law_280 rfl ?_
  refine kx_iconst (pc := 282) (x := 3) d_W_law_282 (by decide) ?_
  refine kx_iadd (pc := 283) d_W_law_283 ?_
  refine kx_eqi (show nI i + 3 = nI (i + 3) from nI_add i 3) ?_
  refine kx_siald (pc := 284) hS d_W_law_284 ⟨rfl, by omega, by omega⟩ ?_
  refine kx_aload_s (pc := 285) d_W_law_285 rfl ?_
  refine kx_iload (pc := 286) d_W_law_286 rfl ?_
  refine kx_iconst (pc := 288) (x := 4) d_W_law_288 (by decide) ?_
  refine kx_iadd (pc := 289) d_W_law_289 ?_
  refine kx_eqi (show nI i + 4 = nI (i + 4) from nI_add i 4) ?_
  refine kx_siald (pc := 290) hS d_W_law_290 ⟨rfl, by omega, by omega⟩ ?_
  refine kx_invV (pc := 291) (as := [.int _, .int _, .int _, .int _]) (st := []) (k := k) (j := j) d_W_law_291 wv_W_77 (wd_o rfl) (k_mrule (a := (s_rule a (xs (i + 1)) (xs (i + 2)) (xs (i + 3)) (xs (i + 4))).2) (b := (w_b (s_rule a (xs (i + 1)) (xs (i + 2)) (xs (i + 3)) (xs (i + 4))).1 b))) rfl rfl (Nat.le_of_ble_eq_true rfl) (by decide) (Nat.le_of_ble_eq_true rfl) (fun rv n' h' hq => ?_) (fun X n' h' hq => nomatch hq.1)
  obtain ⟨hq, rfl⟩ := hq
  cases hq
  refine kx_aload_n (pc := 294) d_W_law_294 rfl ?_
  refine kx_invV (pc := 295) (as := []) (st := []) (k := k) (j := j) d_W_law_295 wv_W_70 (wd_o rfl) (k_thrown (a := (s_rule a (xs (i + 1)) (xs (i + 2)) (xs (i + 3)) (xs (i + 4))).2) (b := (m_rule (w_b (s_rule a (xs (i + 1)) (xs (i + 2)) (xs (i + 3)) (xs (i + 4))).1 b) (xs (i + 1)) (xs (i + 2)) (xs (i + 3)) (xs (i + 4))))) rfl rfl (Nat.le_of_ble_eq_true rfl) (by decide) (Nat.le_of_ble_eq_true rfl) (fun rv n' h' hq => ?_) (fun X n' h' hq => nomatch hq.2)
  obtain ⟨rfl, hq⟩ := hq
  cases hq
  refine kx_iload (pc := 298) d_W_law_298 rfl ?_
  refine kx_icmp_eq (pc := 300) (tgt := 305) d_W_law_300 (by decide) (fun _ => ?_) (fun hz => absurd hR.code hz)
  refine kx_goto (pc := 305) (tgt := 968) d_W_law_305 (by decide) ?_
  refine kx_sub [1, 2, 3, 4, 5] rfl ?_
  exact hN _ _ _ hR.1
set_option maxHeartbeats 4000000 in
set_option maxRecDepth 100000 in
theorem k_law_advance {E : kx_E} {n mc ms k j i S N : Nat} {xs : Nat → Int32} {a b : kW} {Q : kx_Q} (hS : kx_S E S N xs) (hN3 : N ≤ 3072) (hi : i + 6 ≤ N) (hI : Inv a b) (hN : ∀ a' b' n', Inv a' b' → kx_V E i_W_law 12 mc ms Q k j 968 [(4, .int (nI i)), (3, .ref 78), (2, .ref 61), (1, .ref 0), (0, .retAddr S)] [] n' (wd (wx a' b'))) : kx_V E i_W_law 12 mc ms Q (k + 5) (j + 30) 308 [(4, .int (nI i)), (3, .ref 78), (2, .ref 61), (1, .ref 0), (0, .retAddr S)] [] n (wd (wx a b)) := by
  obtain ⟨sz, du, hL, hP, hSb⟩ := id hI
  obtain ⟨v1, v2, v3, v4, v5, v6⟩ := id hL.1
  have hsh : (∃ x, (s_adv a (xs (i + 1)) (xs (i + 2))).1 = Sum.inl (some (.int x))) ∨ (s_adv a (xs (i + 1)) (xs (i + 2))).1 = Sum.inr "java/lang/IllegalArgumentException" := by
    rcases (R_adv hI (xs (i + 1)) (xs (i + 2))).2.2 with ⟨e1, -⟩ | ⟨X, c, e1, e2, -, -⟩
    · exact Or.inl ⟨_, e1⟩
    · exact Or.inr (by rw [e1, sh_cI e2])
  have w3 : (w_b (s_adv a (xs (i + 1)) (xs (i + 2))).1 b).2.2 61 1 = nI sz := (hL.wb (r := (s_adv a (xs (i + 1)) (xs (i + 2))).1)).1.2.2.1
  have hcm : ∀ p, p < 8 → CMp (w_b (s_adv a (xs (i + 1)) (xs (i + 2))).1 b) p := (hI.wb (r := (s_adv a (xs (i + 1)) (xs (i + 2))).1)).cm
  have hR := R_adv (hI.wb (r := (s_adv a (xs (i + 1)) (xs (i + 2))).1)) (xs (i + 1)) (xs (i + 2))
  refine kx_aload_n (pc := 308) d_W_law_308 rfl ?_
  refine kx_aload_s (pc := 309) d_W_law_309 rfl ?_
  refine kx_iload (pc := 310) d_W_law_310 rfl ?_
  refine kx_iconst (pc := 312) (x := 1) d_W_law_312 (by decide) ?_
  refine kx_iadd (pc := 313) d_W_law_313 ?_
  refine kx_eqi (show nI i + 1 = nI (i + 1) from nI_add i 1) ?_
  refine kx_siald (pc := 314) hS d_W_law_314 ⟨rfl, by omega, by omega⟩ ?_
  refine kx_aload_s (pc := 315) d_W_law_315 rfl ?_
  refine kx_iload (pc := 316) d_W_law_316 rfl ?_
  refine kx_iconst (pc := 318) (x := 2) d_W_law_318 (by decide) ?_
  refine kx_iadd (pc := 319) d_W_law_319 ?_
  refine kx_eqi (show nI i + 2 = nI (i + 2) from nI_add i 2) ?_
  refine kx_siald (pc := 320) hS d_W_law_320 ⟨rfl, by omega, by omega⟩ ?_
  refine kx_aload_n (pc := 321) d_W_law_321 rfl ?_
  refine kx_invS (pc := 322) (as := [.ref _, .int _, .int _, .ref _]) (st := []) (k := k) (j := j) d_W_law_322 ws_W_78 (k_W_advance (k_advance hI.ci) hsh) rfl rfl (Nat.le_of_ble_eq_true rfl) (by decide) (Nat.le_of_ble_eq_true rfl) (fun rv n' h' hq => ?_) (fun X n' h' hq => nomatch hq.1)
  obtain ⟨hq, rfl⟩ := hq
  cases hq
  refine kx_istore (pc := 325) (lv' := [(5, _), (4, _), (3, _), (2, _), (1, _), (0, _)]) d_W_law_325 (by decide) rfl ?_
  refine kx_aload_n (pc := 327) d_W_law_327 rfl ?_
  refine kx_aload_s (pc := 328) d_W_law_328 rfl ?_
  refine kx_iload (pc := 329) d_W_law_329 rfl ?_
  refine kx_iconst (pc := 331) (x := 1) d_W_law_331 (by decide) ?_
  refine kx_iadd (pc := 332) d_W_law_332 ?_
  refine kx_eqi (show nI i + 1 = nI (i + 1) from nI_add i 1) ?_
  refine kx_siald (pc := 333) hS d_W_law_333 ⟨rfl, by omega, by omega⟩ ?_
  refine kx_aload_s (pc := 334) d_W_law_334 rfl ?_
  refine kx_iload (pc := 335) d_W_law_335 rfl ?_
  refine kx_iconst (pc := 337) (x := 2) d_W_law_337 (by decide) ?_
  refine kx_iadd (pc := 338) d_W_law_338 ?_
  refine kx_eqi (show nI i + 2 = nI (i + 2) from nI_add i 2) ?_
  refine kx_siald (pc := 339) hS d_W_law_339 ⟨rfl, by omega, by omega⟩ ?_
  refine kx_invV (pc := 340) (as := [.int _, .int _]) (st := []) (k := k) (j := j) d_W_law_340 wv_W_81 (wd_o rfl) (k_madv (a := (s_adv a (xs (i + 1)) (xs (i + 2))).2) (b := (w_b (s_adv a (xs (i + 1)) (xs (i + 2))).1 b)) hcm) rfl rfl (Nat.le_of_ble_eq_true rfl) (by decide) (Nat.le_of_ble_eq_true rfl) (fun rv n' h' hq => ?_) (fun X n' h' hq => nomatch hq.1)
  obtain ⟨hq, rfl⟩ := hq
  cases hq
  refine kx_istore (pc := 343) (lv' := [(6, _), (5, _), (4, _), (3, _), (2, _), (1, _), (0, _)]) d_W_law_343 (by decide) rfl ?_
  refine kx_aload_n (pc := 345) d_W_law_345 rfl ?_
  refine kx_invV (pc := 346) (as := []) (st := []) (k := k) (j := j) d_W_law_346 wv_W_70 (wd_o rfl) (k_thrown (a := (s_adv a (xs (i + 1)) (xs (i + 2))).2) (b := (m_adv (w_b (s_adv a (xs (i + 1)) (xs (i + 2))).1 b) (xs (i + 1)) (xs (i + 2))).2)) rfl rfl (Nat.le_of_ble_eq_true rfl) (by decide) (Nat.le_of_ble_eq_true rfl) (fun rv n' h' hq => ?_) (fun X n' h' hq => nomatch hq.2)
  obtain ⟨rfl, hq⟩ := hq
  cases hq
  refine kx_iload (pc := 349) d_W_law_349 rfl ?_
  refine kx_icmp_eq (pc := 351) (tgt := 356) d_W_law_351 (by decide) (fun _ => ?_) (fun hz => absurd hR.code hz)
  refine kx_iload (pc := 356) d_W_law_356 rfl ?_
  refine kx_if_ne (pc := 358) (tgt := 373) d_W_law_358 (by decide) (fun hne => ?_) (fun h0 => ?_)
  · refine kx_goto (pc := 373) (tgt := 968) d_W_law_373 (by decide) ?_
    refine kx_sub [2, 3, 4, 5, 6] rfl ?_
    exact hN _ _ _ hR.1
  · refine kx_aload_n (pc := 361) d_W_law_361 rfl ?_
    refine kx_iconst (pc := 362) (x := 0) d_W_law_362 (by decide) ?_
    refine km_lald (pc := 363) d_W_law_363 (by decide) rfl ⟨rfl, by decide, by decide⟩ ?_
    refine kx_eql (hR.val h0) ?_
    refine kx_iload (pc := 364) d_W_law_364 rfl ?_
    refine kx_i2l (pc := 366) d_W_law_366 ?_
    refine kx_lcmp (pc := 367) d_W_law_367 ?_
    refine kx_if_eq (pc := 368) (tgt := 373) d_W_law_368 (by decide) (fun _ => ?_) (fun hz => absurd ((lg_cmp_eq _ _).mpr rfl) hz)
    refine kx_goto (pc := 373) (tgt := 968) d_W_law_373 (by decide) ?_
    refine kx_sub [2, 3, 4, 5, 6] rfl ?_
    exact hN _ _ _ hR.1
