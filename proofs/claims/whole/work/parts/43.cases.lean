set_option maxRecDepth 100000 in
set_option maxHeartbeats 4000000 in
theorem law_node (K : Kx) {b L x m i kc ks : Nat} {xs : Nat → Int32} {E : Ex} {w : Wd} {S : Ast} (hC : BX K RL cL_law 4 9 E) (hX : SX K E b L xs) (hL : L < 2 ^ 31) (hi : i + 6 ≤ L) (hS : JS K.2.1 w x m S) (kk : ∀ (w' : Wd) (T : Ast), JS K.2.1 w' x m T → J K cL_law E kc ks w' 868 [some (.ref b), some (.ref x), some (.ref m), some (.int (nI i))] []) : J K cL_law E (kc + 3) (ks + 2233) w 140 [some (.ref b), some (.ref x), some (.ref m), some (.int (nI i))] [] := by
  obtain ⟨s, O, ad, z, np, adm, hA, hx, hnp, hM, hI, hdj⟩ := hS
  subst hx
  refine j_aload_n hC dL_law_140 rfl ?_
  refine j_aload_n hC dL_law_141 rfl ?_
  refine j_iload_n hC dL_law_142 rfl ?_
  refine j_iconst hC (1) dL_law_143 (by decide) ?_
  refine j_iadd hC dL_law_144 ?_
  refine j_scr hC hX dL_law_145 (ixa 1 (by decide) (by omega) hL) ?_
  refine j_aload_n hC dL_law_146 rfl ?_
  refine j_iload_n hC dL_law_147 rfl ?_
  refine j_iconst hC (2) dL_law_148 (by decide) ?_
  refine j_iadd hC dL_law_149 ?_
  refine j_scr hC hX dL_law_150 (ixa 2 (by decide) (by omega) hL) ?_
  refine j_aload_n hC dL_law_151 rfl ?_
  refine j_iload_n hC dL_law_152 rfl ?_
  refine j_iconst hC (3) dL_law_153 (by decide) ?_
  refine j_iadd hC dL_law_154 ?_
  refine j_scr hC hX dL_law_155 (ixa 3 (by decide) (by omega) hL) ?_
  refine j_callv (kc' := kc + 1) (ks' := ks + 2165) (r := (RX9, TX9, 14)) hC (c_node K (xs (i + 1)) (xs (i + 2)) (xs (i + 3)) hA hI.1 hnp hI.2.2.1 hI.2.2.2.1 (hI.2.2.2.2.2.2.1.1 6 (by decide) (cn S 1) (Nat.le_refl _)) (hI.2.2.2.2.2.2.1.1 7 (by decide) (cn S 1) (Nat.le_refl _)) (hI.2.2.2.2.2.2.1.1 8 (by decide) (cn S 1) (Nat.le_refl _)) (hI.2.2.2.2.2.2.1.1 9 (by decide) (cn S 1) (Nat.le_refl _))) dL_law_156 wX9_node lL_21 i_yX9_node s_yX9_node hA.x rfl rfl rfl (nle rfl) rfl (by decide) (by omega) (by omega) (kI fun r1 w1 hp => ?_)
  obtain ⟨hr1, hq⟩ := hp
  obtain ⟨O1, ad1, z1, np1, hA1, hx1, hnp1, hM1, hdj1⟩ := mid hM hdj hq
  refine j_aload_n hC dL_law_159 rfl ?_
  refine j_aload_n hC dL_law_160 rfl ?_
  refine j_iload_n hC dL_law_161 rfl ?_
  refine j_iconst hC (1) dL_law_162 (by decide) ?_
  refine j_iadd hC dL_law_163 ?_
  refine j_scr hC hX dL_law_164 (ixa 1 (by decide) (by omega) hL) ?_
  refine j_aload_n hC dL_law_165 rfl ?_
  refine j_iload_n hC dL_law_166 rfl ?_
  refine j_iconst hC (2) dL_law_167 (by decide) ?_
  refine j_iadd hC dL_law_168 ?_
  refine j_scr hC hX dL_law_169 (ixa 2 (by decide) (by omega) hL) ?_
  refine j_aload_n hC dL_law_170 rfl ?_
  refine j_iload_n hC dL_law_171 rfl ?_
  refine j_iconst hC (3) dL_law_172 (by decide) ?_
  refine j_iadd hC dL_law_173 ?_
  refine j_scr hC hX dL_law_174 (ixa 3 (by decide) (by omega) hL) ?_
  refine j_callv (kc' := kc + 1) (ks' := ks + 2165) (r := (RX10, TX10, 59)) hC (m_node K (xs (i + 1)) (xs (i + 2)) (xs (i + 3)) hM1 hI.1.1.1 (lt0 hI.2.2.1 hI.1.1.1 hI.2.2.2.1)) dL_law_175 wX10_node lL_25 i_yX10_node s_yX10_node hM1.1 rfl rfl rfl (nle rfl) rfl (by decide) (by omega) (by omega) (kI fun r2 w2 hp => ?_)
  obtain ⟨hr2, hq2⟩ := hp
  refine j_icmp_eq hC 868 dL_law_178 (by decide) (fun c1 => ?_) (fun c1 => ?_)
  · refine J.less (kc' := kc) (ks' := ks) (by omega) (by omega) ?_
    exact kk _ _ (fin hA1 hx1 hnp1 hdj1 hq2 (hI.node (xs (i + 1)) (xs (i + 2)) (xs (i + 3))))
  · exact absurd (hr1.trans hr2.symm) c1
set_option maxRecDepth 100000 in
set_option maxHeartbeats 4000000 in
theorem law_pipe (K : Kx) {b L x m i kc ks : Nat} {xs : Nat → Int32} {E : Ex} {w : Wd} {S : Ast} (hC : BX K RL cL_law 4 9 E) (hX : SX K E b L xs) (hL : L < 2 ^ 31) (hi : i + 6 ≤ L) (hS : JS K.2.1 w x m S) (kk : ∀ (w' : Wd) (T : Ast), JS K.2.1 w' x m T → J K cL_law E kc ks w' 868 [some (.ref b), some (.ref x), some (.ref m), some (.int (nI i))] []) : J K cL_law E (kc + 3) (ks + 2233) w 183 [some (.ref b), some (.ref x), some (.ref m), some (.int (nI i))] [] := by
  obtain ⟨s, O, ad, z, np, adm, hA, hx, hnp, hM, hI, hdj⟩ := hS
  subst hx
  refine j_aload_n hC dL_law_183 rfl ?_
  refine j_aload_n hC dL_law_184 rfl ?_
  refine j_iload_n hC dL_law_185 rfl ?_
  refine j_iconst hC (1) dL_law_186 (by decide) ?_
  refine j_iadd hC dL_law_187 ?_
  refine j_scr hC hX dL_law_188 (ixa 1 (by decide) (by omega) hL) ?_
  refine j_aload_n hC dL_law_189 rfl ?_
  refine j_iload_n hC dL_law_190 rfl ?_
  refine j_iconst hC (2) dL_law_191 (by decide) ?_
  refine j_iadd hC dL_law_192 ?_
  refine j_scr hC hX dL_law_193 (ixa 2 (by decide) (by omega) hL) ?_
  refine j_aload_n hC dL_law_194 rfl ?_
  refine j_iload_n hC dL_law_195 rfl ?_
  refine j_iconst hC (3) dL_law_196 (by decide) ?_
  refine j_iadd hC dL_law_197 ?_
  refine j_scr hC hX dL_law_198 (ixa 3 (by decide) (by omega) hL) ?_
  refine j_aload_n hC dL_law_199 rfl ?_
  refine j_iload_n hC dL_law_200 rfl ?_
  refine j_iconst hC (4) dL_law_201 (by decide) ?_
  refine j_iadd hC dL_law_202 ?_
  refine j_scr hC hX dL_law_203 (ixa 4 (by decide) (by omega) hL) ?_
  refine j_callv (kc' := kc + 1) (ks' := ks + 2166) (r := (RX9, TX9, 14)) hC (c_pipe K (xs (i + 1)) (xs (i + 2)) (xs (i + 3)) (xs (i + 4)) hA hI.1 hnp (hI.2.2.2.2.2.2.1.1 15 (by decide) (cn S 10) (Nat.le_refl _)) (hI.2.2.2.2.2.2.1.1 16 (by decide) (cn S 10) (Nat.le_refl _)) (hI.2.2.2.2.2.2.1.1 17 (by decide) (cn S 10) (Nat.le_refl _))) dL_law_204 wX9_pipe lL_26 i_yX9_pipe s_yX9_pipe hA.x rfl rfl rfl (nle rfl) rfl (by decide) (by omega) (by omega) (kI fun r1 w1 hp => ?_)
  obtain ⟨hr1, hq⟩ := hp
  obtain ⟨O1, ad1, z1, np1, hA1, hx1, hnp1, hM1, hdj1⟩ := mid hM hdj hq
  refine j_aload_n hC dL_law_207 rfl ?_
  refine j_aload_n hC dL_law_208 rfl ?_
  refine j_iload_n hC dL_law_209 rfl ?_
  refine j_iconst hC (1) dL_law_210 (by decide) ?_
  refine j_iadd hC dL_law_211 ?_
  refine j_scr hC hX dL_law_212 (ixa 1 (by decide) (by omega) hL) ?_
  refine j_aload_n hC dL_law_213 rfl ?_
  refine j_iload_n hC dL_law_214 rfl ?_
  refine j_iconst hC (2) dL_law_215 (by decide) ?_
  refine j_iadd hC dL_law_216 ?_
  refine j_scr hC hX dL_law_217 (ixa 2 (by decide) (by omega) hL) ?_
  refine j_aload_n hC dL_law_218 rfl ?_
  refine j_iload_n hC dL_law_219 rfl ?_
  refine j_iconst hC (3) dL_law_220 (by decide) ?_
  refine j_iadd hC dL_law_221 ?_
  refine j_scr hC hX dL_law_222 (ixa 3 (by decide) (by omega) hL) ?_
  refine j_aload_n hC dL_law_223 rfl ?_
  refine j_iload_n hC dL_law_224 rfl ?_
  refine j_iconst hC (4) dL_law_225 (by decide) ?_
  refine j_iadd hC dL_law_226 ?_
  refine j_scr hC hX dL_law_227 (ixa 4 (by decide) (by omega) hL) ?_
  refine j_callv (kc' := kc + 1) (ks' := ks + 2166) (r := (RX10, TX10, 59)) hC (m_pipe K (xs (i + 1)) (xs (i + 2)) (xs (i + 3)) (xs (i + 4)) hM1 hI.1.1.2.1) dL_law_228 wX10_pipe lL_30 i_yX10_pipe s_yX10_pipe hM1.1 rfl rfl rfl (nle rfl) rfl (by decide) (by omega) (by omega) (kI fun r2 w2 hp => ?_)
  obtain ⟨hr2, hq2⟩ := hp
  refine j_icmp_eq hC 868 dL_law_231 (by decide) (fun c1 => ?_) (fun c1 => ?_)
  · refine J.less (kc' := kc) (ks' := ks) (by omega) (by omega) ?_
    exact kk _ _ (fin hA1 hx1 hnp1 hdj1 hq2 (hI.pipe (xs (i + 1)) (xs (i + 2)) (xs (i + 3)) (xs (i + 4))))
  · exact absurd (hr1.trans hr2.symm) c1
set_option maxRecDepth 100000 in
set_option maxHeartbeats 4000000 in
theorem law_area (K : Kx) {b L x m i kc ks : Nat} {xs : Nat → Int32} {E : Ex} {w : Wd} {S : Ast} (hC : BX K RL cL_law 4 9 E) (hX : SX K E b L xs) (hL : L < 2 ^ 31) (hi : i + 6 ≤ L) (hS : JS K.2.1 w x m S) (kk : ∀ (w' : Wd) (T : Ast), JS K.2.1 w' x m T → J K cL_law E kc ks w' 868 [some (.ref b), some (.ref x), some (.ref m), some (.int (nI i))] []) : J K cL_law E (kc + 3) (ks + 2233) w 236 [some (.ref b), some (.ref x), some (.ref m), some (.int (nI i))] [] := by
  obtain ⟨s, O, ad, z, np, adm, hA, hx, hnp, hM, hI, hdj⟩ := hS
  subst hx
  refine j_aload_n hC dL_law_236 rfl ?_
  refine j_aload_n hC dL_law_237 rfl ?_
  refine j_iload_n hC dL_law_238 rfl ?_
  refine j_iconst hC (1) dL_law_239 (by decide) ?_
  refine j_iadd hC dL_law_240 ?_
  refine j_scr hC hX dL_law_241 (ixa 1 (by decide) (by omega) hL) ?_
  refine j_aload_n hC dL_law_242 rfl ?_
  refine j_iload_n hC dL_law_243 rfl ?_
  refine j_iconst hC (2) dL_law_244 (by decide) ?_
  refine j_iadd hC dL_law_245 ?_
  refine j_scr hC hX dL_law_246 (ixa 2 (by decide) (by omega) hL) ?_
  refine j_aload_n hC dL_law_247 rfl ?_
  refine j_iload_n hC dL_law_248 rfl ?_
  refine j_iconst hC (3) dL_law_249 (by decide) ?_
  refine j_iadd hC dL_law_250 ?_
  refine j_scr hC hX dL_law_251 (ixa 3 (by decide) (by omega) hL) ?_
  refine j_callv (kc' := kc + 1) (ks' := ks + 2170) (r := (RX9, TX9, 14)) hC (c_area K (xs (i + 1)) (xs (i + 2)) (xs (i + 3)) hA hI.1 hnp (hI.2.2.2.2.2.2.1.1 22 (by decide) (cn S 18) (Nat.le_refl _))) dL_law_252 wX9_area lL_31 i_yX9_area s_yX9_area hA.x rfl rfl rfl (nle rfl) rfl (by decide) (by omega) (by omega) (kI fun r1 w1 hp => ?_)
  obtain ⟨hr1, hq⟩ := hp
  obtain ⟨O1, ad1, z1, np1, hA1, hx1, hnp1, hM1, hdj1⟩ := mid hM hdj hq
  refine j_aload_n hC dL_law_255 rfl ?_
  refine j_aload_n hC dL_law_256 rfl ?_
  refine j_iload_n hC dL_law_257 rfl ?_
  refine j_iconst hC (1) dL_law_258 (by decide) ?_
  refine j_iadd hC dL_law_259 ?_
  refine j_scr hC hX dL_law_260 (ixa 1 (by decide) (by omega) hL) ?_
  refine j_aload_n hC dL_law_261 rfl ?_
  refine j_iload_n hC dL_law_262 rfl ?_
  refine j_iconst hC (2) dL_law_263 (by decide) ?_
  refine j_iadd hC dL_law_264 ?_
  refine j_scr hC hX dL_law_265 (ixa 2 (by decide) (by omega) hL) ?_
  refine j_aload_n hC dL_law_266 rfl ?_
  refine j_iload_n hC dL_law_267 rfl ?_
  refine j_iconst hC (3) dL_law_268 (by decide) ?_
  refine j_iadd hC dL_law_269 ?_
  refine j_scr hC hX dL_law_270 (ixa 3 (by decide) (by omega) hL) ?_
  refine j_callv (kc' := kc + 1) (ks' := ks + 2170) (r := (RX10, TX10, 59)) hC (m_area K (xs (i + 1)) (xs (i + 2)) (xs (i + 3)) hM1 hI.1.1.2.2.1) dL_law_271 wX10_area lL_34 i_yX10_area s_yX10_area hM1.1 rfl rfl rfl (nle rfl) rfl (by decide) (by omega) (by omega) (kI fun r2 w2 hp => ?_)
  obtain ⟨hr2, hq2⟩ := hp
  refine j_icmp_eq hC 868 dL_law_274 (by decide) (fun c1 => ?_) (fun c1 => ?_)
  · refine J.less (kc' := kc) (ks' := ks) (by omega) (by omega) ?_
    exact kk _ _ (fin hA1 hx1 hnp1 hdj1 hq2 (hI.area (xs (i + 1)) (xs (i + 2)) (xs (i + 3))))
  · exact absurd (hr1.trans hr2.symm) c1
set_option maxRecDepth 100000 in
set_option maxHeartbeats 4000000 in
theorem law_rain (K : Kx) {b L x m i kc ks : Nat} {xs : Nat → Int32} {E : Ex} {w : Wd} {S : Ast} (hC : BX K RL cL_law 4 9 E) (hX : SX K E b L xs) (hL : L < 2 ^ 31) (hi : i + 6 ≤ L) (hS : JS K.2.1 w x m S) (kk : ∀ (w' : Wd) (T : Ast), JS K.2.1 w' x m T → J K cL_law E kc ks w' 868 [some (.ref b), some (.ref x), some (.ref m), some (.int (nI i))] []) : J K cL_law E (kc + 3) (ks + 2233) w 279 [some (.ref b), some (.ref x), some (.ref m), some (.int (nI i))] [] := by
  obtain ⟨s, O, ad, z, np, adm, hA, hx, hnp, hM, hI, hdj⟩ := hS
  subst hx
  refine j_aload_n hC dL_law_279 rfl ?_
  refine j_aload_n hC dL_law_280 rfl ?_
  refine j_iload_n hC dL_law_281 rfl ?_
  refine j_iconst hC (1) dL_law_282 (by decide) ?_
  refine j_iadd hC dL_law_283 ?_
  refine j_scr hC hX dL_law_284 (ixa 1 (by decide) (by omega) hL) ?_
  refine j_aload_n hC dL_law_285 rfl ?_
  refine j_iload_n hC dL_law_286 rfl ?_
  refine j_iconst hC (2) dL_law_287 (by decide) ?_
  refine j_iadd hC dL_law_288 ?_
  refine j_scr hC hX dL_law_289 (ixa 2 (by decide) (by omega) hL) ?_
  refine j_callv (kc' := kc + 3) (ks' := ks + 2233) (r := (RX9, TX9, 14)) hC (c_rain K (xs (i + 1)) (xs (i + 2)) hA) dL_law_290 wX9_rain lL_35 i_yX9_rain s_yX9_rain hA.x rfl rfl rfl (nle rfl) rfl (by decide) (by omega) (by omega) (kI fun r1 w1 hp => ?_)
  obtain ⟨hr1, hq⟩ := hp
  have hq := CQ.sb hq (by split; exact hnp.cong (fun k hk => uI_1n (fun q => by subst q; revert hk; decide)); exact hnp)
  obtain ⟨O1, ad1, z1, np1, hA1, hx1, hnp1, hM1, hdj1⟩ := mid hM hdj hq
  refine j_aload_n hC dL_law_293 rfl ?_
  refine j_aload_n hC dL_law_294 rfl ?_
  refine j_iload_n hC dL_law_295 rfl ?_
  refine j_iconst hC (1) dL_law_296 (by decide) ?_
  refine j_iadd hC dL_law_297 ?_
  refine j_scr hC hX dL_law_298 (ixa 1 (by decide) (by omega) hL) ?_
  refine j_aload_n hC dL_law_299 rfl ?_
  refine j_iload_n hC dL_law_300 rfl ?_
  refine j_iconst hC (2) dL_law_301 (by decide) ?_
  refine j_iadd hC dL_law_302 ?_
  refine j_scr hC hX dL_law_303 (ixa 2 (by decide) (by omega) hL) ?_
  refine j_callv (kc' := kc + 3) (ks' := ks + 2233) (r := (RX10, TX10, 59)) hC (m_rain K (xs (i + 1)) (xs (i + 2)) hM1) dL_law_304 wX10_rain lL_39 i_yX10_rain s_yX10_rain hM1.1 rfl rfl rfl (nle rfl) rfl (by decide) (by omega) (by omega) (kI fun r2 w2 hp => ?_)
  obtain ⟨hr2, hq2⟩ := hp
  refine j_icmp_eq hC 868 dL_law_307 (by decide) (fun c1 => ?_) (fun c1 => ?_)
  · refine J.less (kc' := kc) (ks' := ks) (by omega) (by omega) ?_
    exact kk _ _ (fin hA1 hx1 hnp1 hdj1 hq2 (hI.rain (xs (i + 1)) (xs (i + 2))))
  · exact absurd (hr1.trans hr2.symm) c1
set_option maxRecDepth 100000 in
set_option maxHeartbeats 4000000 in
theorem law_pump (K : Kx) {b L x m i kc ks : Nat} {xs : Nat → Int32} {E : Ex} {w : Wd} {S : Ast} (hC : BX K RL cL_law 4 9 E) (hX : SX K E b L xs) (hL : L < 2 ^ 31) (hi : i + 6 ≤ L) (hS : JS K.2.1 w x m S) (kk : ∀ (w' : Wd) (T : Ast), JS K.2.1 w' x m T → J K cL_law E kc ks w' 868 [some (.ref b), some (.ref x), some (.ref m), some (.int (nI i))] []) : J K cL_law E (kc + 3) (ks + 2233) w 312 [some (.ref b), some (.ref x), some (.ref m), some (.int (nI i))] [] := by
  obtain ⟨s, O, ad, z, np, adm, hA, hx, hnp, hM, hI, hdj⟩ := hS
  subst hx
  refine j_aload_n hC dL_law_312 rfl ?_
  refine j_aload_n hC dL_law_313 rfl ?_
  refine j_iload_n hC dL_law_314 rfl ?_
  refine j_iconst hC (1) dL_law_315 (by decide) ?_
  refine j_iadd hC dL_law_316 ?_
  refine j_scr hC hX dL_law_317 (ixa 1 (by decide) (by omega) hL) ?_
  refine j_aload_n hC dL_law_318 rfl ?_
  refine j_iload_n hC dL_law_319 rfl ?_
  refine j_iconst hC (2) dL_law_320 (by decide) ?_
  refine j_iadd hC dL_law_321 ?_
  refine j_scr hC hX dL_law_322 (ixa 2 (by decide) (by omega) hL) ?_
  refine j_aload_n hC dL_law_323 rfl ?_
  refine j_iload_n hC dL_law_324 rfl ?_
  refine j_iconst hC (3) dL_law_325 (by decide) ?_
  refine j_iadd hC dL_law_326 ?_
  refine j_scr hC hX dL_law_327 (ixa 3 (by decide) (by omega) hL) ?_
  refine j_aload_n hC dL_law_328 rfl ?_
  refine j_iload_n hC dL_law_329 rfl ?_
  refine j_iconst hC (4) dL_law_330 (by decide) ?_
  refine j_iadd hC dL_law_331 ?_
  refine j_scr hC hX dL_law_332 (ixa 4 (by decide) (by omega) hL) ?_
  refine j_aload_n hC dL_law_333 rfl ?_
  refine j_iload_n hC dL_law_334 rfl ?_
  refine j_iconst hC (5) dL_law_335 (by decide) ?_
  refine j_iadd hC dL_law_336 ?_
  refine j_scr hC hX dL_law_337 (ixa 5 (by decide) (by omega) hL) ?_
  refine j_callv (kc' := kc + 1) (ks' := ks + 2167) (r := (RX9, TX9, 14)) hC (c_pump K (xs (i + 1)) (xs (i + 2)) (xs (i + 3)) (xs (i + 4)) (xs (i + 5)) hA hI.1 hnp (hI.2.2.2.2.2.2.1.2 (cn S 24) (Nat.le_refl _))) dL_law_338 wX9_pump lL_40 i_yX9_pump s_yX9_pump hA.x rfl rfl rfl (nle rfl) rfl (by decide) (by omega) (by omega) (kI fun r1 w1 hp => ?_)
  obtain ⟨hr1, hq⟩ := hp
  obtain ⟨O1, ad1, z1, np1, hA1, hx1, hnp1, hM1, hdj1⟩ := mid hM hdj hq
  refine j_aload_n hC dL_law_341 rfl ?_
  refine j_aload_n hC dL_law_342 rfl ?_
  refine j_iload_n hC dL_law_343 rfl ?_
  refine j_iconst hC (1) dL_law_344 (by decide) ?_
  refine j_iadd hC dL_law_345 ?_
  refine j_scr hC hX dL_law_346 (ixa 1 (by decide) (by omega) hL) ?_
  refine j_aload_n hC dL_law_347 rfl ?_
  refine j_iload_n hC dL_law_348 rfl ?_
  refine j_iconst hC (2) dL_law_349 (by decide) ?_
  refine j_iadd hC dL_law_350 ?_
  refine j_scr hC hX dL_law_351 (ixa 2 (by decide) (by omega) hL) ?_
  refine j_aload_n hC dL_law_352 rfl ?_
  refine j_iload_n hC dL_law_353 rfl ?_
  refine j_iconst hC (3) dL_law_354 (by decide) ?_
  refine j_iadd hC dL_law_355 ?_
  refine j_scr hC hX dL_law_356 (ixa 3 (by decide) (by omega) hL) ?_
  refine j_aload_n hC dL_law_357 rfl ?_
  refine j_iload_n hC dL_law_358 rfl ?_
  refine j_iconst hC (4) dL_law_359 (by decide) ?_
  refine j_iadd hC dL_law_360 ?_
  refine j_scr hC hX dL_law_361 (ixa 4 (by decide) (by omega) hL) ?_
  refine j_aload_n hC dL_law_362 rfl ?_
  refine j_iload_n hC dL_law_363 rfl ?_
  refine j_iconst hC (5) dL_law_364 (by decide) ?_
  refine j_iadd hC dL_law_365 ?_
  refine j_scr hC hX dL_law_366 (ixa 5 (by decide) (by omega) hL) ?_
  refine j_callv (kc' := kc + 1) (ks' := ks + 2167) (r := (RX10, TX10, 59)) hC (m_pump K (xs (i + 1)) (xs (i + 2)) (xs (i + 3)) (xs (i + 4)) (xs (i + 5)) hM1 hI.1.1.2.2.2.1) dL_law_367 wX10_pump lL_44 i_yX10_pump s_yX10_pump hM1.1 rfl rfl rfl (nle rfl) rfl (by decide) (by omega) (by omega) (kI fun r2 w2 hp => ?_)
  obtain ⟨hr2, hq2⟩ := hp
  refine j_icmp_eq hC 868 dL_law_370 (by decide) (fun c1 => ?_) (fun c1 => ?_)
  · refine J.less (kc' := kc) (ks' := ks) (by omega) (by omega) ?_
    exact kk _ _ (fin hA1 hx1 hnp1 hdj1 hq2 (hI.pump (xs (i + 1)) (xs (i + 2)) (xs (i + 3)) (xs (i + 4)) (xs (i + 5))))
  · exact absurd (hr1.trans hr2.symm) c1
set_option maxRecDepth 100000 in
set_option maxHeartbeats 4000000 in
theorem law_gate (K : Kx) {b L x m i kc ks : Nat} {xs : Nat → Int32} {E : Ex} {w : Wd} {S : Ast} (hC : BX K RL cL_law 4 9 E) (hX : SX K E b L xs) (hL : L < 2 ^ 31) (hi : i + 6 ≤ L) (hS : JS K.2.1 w x m S) (kk : ∀ (w' : Wd) (T : Ast), JS K.2.1 w' x m T → J K cL_law E kc ks w' 868 [some (.ref b), some (.ref x), some (.ref m), some (.int (nI i))] []) : J K cL_law E (kc + 3) (ks + 2233) w 375 [some (.ref b), some (.ref x), some (.ref m), some (.int (nI i))] [] := by
  obtain ⟨s, O, ad, z, np, adm, hA, hx, hnp, hM, hI, hdj⟩ := hS
  subst hx
  refine j_aload_n hC dL_law_375 rfl ?_
  refine j_aload_n hC dL_law_376 rfl ?_
  refine j_iload_n hC dL_law_377 rfl ?_
  refine j_iconst hC (1) dL_law_378 (by decide) ?_
  refine j_iadd hC dL_law_379 ?_
  refine j_scr hC hX dL_law_380 (ixa 1 (by decide) (by omega) hL) ?_
  refine j_aload_n hC dL_law_381 rfl ?_
  refine j_iload_n hC dL_law_382 rfl ?_
  refine j_iconst hC (2) dL_law_383 (by decide) ?_
  refine j_iadd hC dL_law_384 ?_
  refine j_scr hC hX dL_law_385 (ixa 2 (by decide) (by omega) hL) ?_
  refine j_aload_n hC dL_law_386 rfl ?_
  refine j_iload_n hC dL_law_387 rfl ?_
  refine j_iconst hC (3) dL_law_388 (by decide) ?_
  refine j_iadd hC dL_law_389 ?_
  refine j_scr hC hX dL_law_390 (ixa 3 (by decide) (by omega) hL) ?_
  refine j_callv (kc' := kc + 1) (ks' := ks + 2170) (r := (RX9, TX9, 14)) hC (c_gate K (xs (i + 1)) (xs (i + 2)) (xs (i + 3)) hA hI.1 hnp) dL_law_391 wX9_gate lL_45 i_yX9_gate s_yX9_gate hA.x rfl rfl rfl (nle rfl) rfl (by decide) (by omega) (by omega) (kI fun r1 w1 hp => ?_)
  obtain ⟨hr1, hq⟩ := hp
  obtain ⟨O1, ad1, z1, np1, hA1, hx1, hnp1, hM1, hdj1⟩ := mid hM hdj hq
  refine j_aload_n hC dL_law_394 rfl ?_
  refine j_aload_n hC dL_law_395 rfl ?_
  refine j_iload_n hC dL_law_396 rfl ?_
  refine j_iconst hC (1) dL_law_397 (by decide) ?_
  refine j_iadd hC dL_law_398 ?_
  refine j_scr hC hX dL_law_399 (ixa 1 (by decide) (by omega) hL) ?_
  refine j_aload_n hC dL_law_400 rfl ?_
  refine j_iload_n hC dL_law_401 rfl ?_
  refine j_iconst hC (2) dL_law_402 (by decide) ?_
  refine j_iadd hC dL_law_403 ?_
  refine j_scr hC hX dL_law_404 (ixa 2 (by decide) (by omega) hL) ?_
  refine j_aload_n hC dL_law_405 rfl ?_
  refine j_iload_n hC dL_law_406 rfl ?_
  refine j_iconst hC (3) dL_law_407 (by decide) ?_
  refine j_iadd hC dL_law_408 ?_
  refine j_scr hC hX dL_law_409 (ixa 3 (by decide) (by omega) hL) ?_
  refine j_callv (kc' := kc + 1) (ks' := ks + 2170) (r := (RX10, TX10, 59)) hC (m_gate K (xs (i + 1)) (xs (i + 2)) (xs (i + 3)) hM1 hI.1.1.2.2.2.2.1) dL_law_410 wX10_gate lL_48 i_yX10_gate s_yX10_gate hM1.1 rfl rfl rfl (nle rfl) rfl (by decide) (by omega) (by omega) (kI fun r2 w2 hp => ?_)
  obtain ⟨hr2, hq2⟩ := hp
  refine j_icmp_eq hC 868 dL_law_413 (by decide) (fun c1 => ?_) (fun c1 => ?_)
  · refine J.less (kc' := kc) (ks' := ks) (by omega) (by omega) ?_
    exact kk _ _ (fin hA1 hx1 hnp1 hdj1 hq2 (hI.gate (xs (i + 1)) (xs (i + 2)) (xs (i + 3))))
  · exact absurd (hr1.trans hr2.symm) c1
set_option maxRecDepth 100000 in
set_option maxHeartbeats 4000000 in
theorem law_gully (K : Kx) {b L x m i kc ks : Nat} {xs : Nat → Int32} {E : Ex} {w : Wd} {S : Ast} (hC : BX K RL cL_law 4 9 E) (hX : SX K E b L xs) (hL : L < 2 ^ 31) (hi : i + 6 ≤ L) (hS : JS K.2.1 w x m S) (kk : ∀ (w' : Wd) (T : Ast), JS K.2.1 w' x m T → J K cL_law E kc ks w' 868 [some (.ref b), some (.ref x), some (.ref m), some (.int (nI i))] []) : J K cL_law E (kc + 3) (ks + 2233) w 418 [some (.ref b), some (.ref x), some (.ref m), some (.int (nI i))] [] := by
  obtain ⟨s, O, ad, z, np, adm, hA, hx, hnp, hM, hI, hdj⟩ := hS
  subst hx
  refine j_aload_n hC dL_law_418 rfl ?_
  refine j_aload_n hC dL_law_419 rfl ?_
  refine j_iload_n hC dL_law_420 rfl ?_
  refine j_iconst hC (1) dL_law_421 (by decide) ?_
  refine j_iadd hC dL_law_422 ?_
  refine j_scr hC hX dL_law_423 (ixa 1 (by decide) (by omega) hL) ?_
  refine j_aload_n hC dL_law_424 rfl ?_
  refine j_iload_n hC dL_law_425 rfl ?_
  refine j_iconst hC (2) dL_law_426 (by decide) ?_
  refine j_iadd hC dL_law_427 ?_
  refine j_scr hC hX dL_law_428 (ixa 2 (by decide) (by omega) hL) ?_
  refine j_aload_n hC dL_law_429 rfl ?_
  refine j_iload_n hC dL_law_430 rfl ?_
  refine j_iconst hC (3) dL_law_431 (by decide) ?_
  refine j_iadd hC dL_law_432 ?_
  refine j_scr hC hX dL_law_433 (ixa 3 (by decide) (by omega) hL) ?_
  refine j_callv (kc' := kc + 1) (ks' := ks + 2170) (r := (RX9, TX9, 14)) hC (c_gully K (xs (i + 1)) (xs (i + 2)) (xs (i + 3)) hA hI.1 hnp) dL_law_434 wX9_gully lL_49 i_yX9_gully s_yX9_gully hA.x rfl rfl rfl (nle rfl) rfl (by decide) (by omega) (by omega) (kI fun r1 w1 hp => ?_)
  obtain ⟨hr1, hq⟩ := hp
  obtain ⟨O1, ad1, z1, np1, hA1, hx1, hnp1, hM1, hdj1⟩ := mid hM hdj hq
  refine j_aload_n hC dL_law_437 rfl ?_
  refine j_aload_n hC dL_law_438 rfl ?_
  refine j_iload_n hC dL_law_439 rfl ?_
  refine j_iconst hC (1) dL_law_440 (by decide) ?_
  refine j_iadd hC dL_law_441 ?_
  refine j_scr hC hX dL_law_442 (ixa 1 (by decide) (by omega) hL) ?_
  refine j_aload_n hC dL_law_443 rfl ?_
  refine j_iload_n hC dL_law_444 rfl ?_
  refine j_iconst hC (2) dL_law_445 (by decide) ?_
  refine j_iadd hC dL_law_446 ?_
  refine j_scr hC hX dL_law_447 (ixa 2 (by decide) (by omega) hL) ?_
  refine j_aload_n hC dL_law_448 rfl ?_
  refine j_iload_n hC dL_law_449 rfl ?_
  refine j_iconst hC (3) dL_law_450 (by decide) ?_
  refine j_iadd hC dL_law_451 ?_
  refine j_scr hC hX dL_law_452 (ixa 3 (by decide) (by omega) hL) ?_
  refine j_callv (kc' := kc + 1) (ks' := ks + 2170) (r := (RX10, TX10, 59)) hC (m_gully K (xs (i + 1)) (xs (i + 2)) (xs (i + 3)) hM1 hI.1.1.2.2.2.2.2) dL_law_453 wX10_gully lL_52 i_yX10_gully s_yX10_gully hM1.1 rfl rfl rfl (nle rfl) rfl (by decide) (by omega) (by omega) (kI fun r2 w2 hp => ?_)
  obtain ⟨hr2, hq2⟩ := hp
  refine j_icmp_eq hC 868 dL_law_456 (by decide) (fun c1 => ?_) (fun c1 => ?_)
  · refine J.less (kc' := kc) (ks' := ks) (by omega) (by omega) ?_
    exact kk _ _ (fin hA1 hx1 hnp1 hdj1 hq2 (hI.gully (xs (i + 1)) (xs (i + 2)) (xs (i + 3))))
  · exact absurd (hr1.trans hr2.symm) c1
set_option maxRecDepth 100000 in
set_option maxHeartbeats 4000000 in
theorem law_street (K : Kx) {b L x m i kc ks : Nat} {xs : Nat → Int32} {E : Ex} {w : Wd} {S : Ast} (hC : BX K RL cL_law 4 9 E) (hX : SX K E b L xs) (hL : L < 2 ^ 31) (hi : i + 6 ≤ L) (hS : JS K.2.1 w x m S) (kk : ∀ (w' : Wd) (T : Ast), JS K.2.1 w' x m T → J K cL_law E kc ks w' 868 [some (.ref b), some (.ref x), some (.ref m), some (.int (nI i))] []) : J K cL_law E (kc + 3) (ks + 2233) w 461 [some (.ref b), some (.ref x), some (.ref m), some (.int (nI i))] [] := by
  obtain ⟨s, O, ad, z, np, adm, hA, hx, hnp, hM, hI, hdj⟩ := hS
  subst hx
  refine j_aload_n hC dL_law_461 rfl ?_
  refine j_aload_n hC dL_law_462 rfl ?_
  refine j_iload_n hC dL_law_463 rfl ?_
  refine j_iconst hC (1) dL_law_464 (by decide) ?_
  refine j_iadd hC dL_law_465 ?_
  refine j_scr hC hX dL_law_466 (ixa 1 (by decide) (by omega) hL) ?_
  refine j_aload_n hC dL_law_467 rfl ?_
  refine j_iload_n hC dL_law_468 rfl ?_
  refine j_iconst hC (2) dL_law_469 (by decide) ?_
  refine j_iadd hC dL_law_470 ?_
  refine j_scr hC hX dL_law_471 (ixa 2 (by decide) (by omega) hL) ?_
  refine j_callv (kc' := kc + 3) (ks' := ks + 2233) (r := (RX9, TX9, 14)) hC (c_street K (xs (i + 1)) (xs (i + 2)) hA hI.1.1.1) dL_law_472 wX9_street lL_53 i_yX9_street s_yX9_street hA.x rfl rfl rfl (nle rfl) rfl (by decide) (by omega) (by omega) (kI fun r1 w1 hp => ?_)
  obtain ⟨hr1, hq⟩ := hp
  have hq := CQ.sb hq (by split; exact hnp.cong (fun k hk => uI_1n (fun q => by subst q; revert hk; decide)); exact hnp)
  obtain ⟨O1, ad1, z1, np1, hA1, hx1, hnp1, hM1, hdj1⟩ := mid hM hdj hq
  refine j_aload_n hC dL_law_475 rfl ?_
  refine j_aload_n hC dL_law_476 rfl ?_
  refine j_iload_n hC dL_law_477 rfl ?_
  refine j_iconst hC (1) dL_law_478 (by decide) ?_
  refine j_iadd hC dL_law_479 ?_
  refine j_scr hC hX dL_law_480 (ixa 1 (by decide) (by omega) hL) ?_
  refine j_aload_n hC dL_law_481 rfl ?_
  refine j_iload_n hC dL_law_482 rfl ?_
  refine j_iconst hC (2) dL_law_483 (by decide) ?_
  refine j_iadd hC dL_law_484 ?_
  refine j_scr hC hX dL_law_485 (ixa 2 (by decide) (by omega) hL) ?_
  refine j_callv (kc' := kc + 3) (ks' := ks + 2233) (r := (RX10, TX10, 59)) hC (m_street K (xs (i + 1)) (xs (i + 2)) hM1 hI.1.1.1) dL_law_486 wX10_street lL_56 i_yX10_street s_yX10_street hM1.1 rfl rfl rfl (nle rfl) rfl (by decide) (by omega) (by omega) (kI fun r2 w2 hp => ?_)
  obtain ⟨hr2, hq2⟩ := hp
  refine j_icmp_eq hC 868 dL_law_489 (by decide) (fun c1 => ?_) (fun c1 => ?_)
  · refine J.less (kc' := kc) (ks' := ks) (by omega) (by omega) ?_
    exact kk _ _ (fin hA1 hx1 hnp1 hdj1 hq2 (hI.street (xs (i + 1)) (xs (i + 2))))
  · exact absurd (hr1.trans hr2.symm) c1
set_option maxRecDepth 100000 in
set_option maxHeartbeats 4000000 in
theorem law_run (K : Kx) {b L x m i kc ks : Nat} {xs : Nat → Int32} {E : Ex} {w : Wd} {S : Ast} (hC : BX K RL cL_law 4 9 E) (hX : SX K E b L xs) (hL : L < 2 ^ 31) (hi : i + 6 ≤ L) (hS : JS K.2.1 w x m S) (kk : ∀ (w' : Wd) (T : Ast), JS K.2.1 w' x m T → J K cL_law E kc ks w' 868 [some (.ref b), some (.ref x), some (.ref m), some (.int (nI i))] []) : J K cL_law E (kc + 3) (ks + 2233) w 494 [some (.ref b), some (.ref x), some (.ref m), some (.int (nI i))] [] := by
  obtain ⟨s, O, ad, z, np, adm, hA, hx, hnp, hM, hI, hdj⟩ := hS
  subst hx
  refine j_aload_n hC dL_law_494 rfl ?_
  refine j_aload_n hC dL_law_495 rfl ?_
  refine j_iload_n hC dL_law_496 rfl ?_
  refine j_iconst hC (1) dL_law_497 (by decide) ?_
  refine j_iadd hC dL_law_498 ?_
  refine j_scr hC hX dL_law_499 (ixa 1 (by decide) (by omega) hL) ?_
  refine j_callv (kc' := kc + 3) (ks' := ks + 2233) (r := (RX9, TX9, 14)) hC (c_run K (xs (i + 1)) hA hI.1 hI.2.2.2.2.1 hI.2.2.2.2.2.1) dL_law_500 wX9_run lL_57 i_yX9_run s_yX9_run hA.x rfl rfl rfl (nle rfl) rfl (by decide) (by omega) (by omega) (kI fun r1 w1 hp => ?_)
  obtain ⟨hr1, hq⟩ := hp
  have hq := CQ.sb hq (by split; exact hnp.cong (fun k hk => fRun_1 S _ (fun q => by subst q; revert hk; decide) (fun q => by subst q; revert hk; decide)); exact hnp)
  obtain ⟨O1, ad1, z1, np1, hA1, hx1, hnp1, hM1, hdj1⟩ := mid hM hdj hq
  refine j_aload_n hC dL_law_503 rfl ?_
  refine j_aload_n hC dL_law_504 rfl ?_
  refine j_iload_n hC dL_law_505 rfl ?_
  refine j_iconst hC (1) dL_law_506 (by decide) ?_
  refine j_iadd hC dL_law_507 ?_
  refine j_scr hC hX dL_law_508 (ixa 1 (by decide) (by omega) hL) ?_
  refine j_callv (kc' := kc + 3) (ks' := ks + 2233) (r := (RX10, TX10, 59)) hC (m_run K (xs (i + 1)) hM1 hI.1 hI.2.2.2.2.1 hI.2.2.2.2.2.1 (hI.nv _)) dL_law_509 wX10_run lL_61 i_yX10_run s_yX10_run hM1.1 rfl rfl rfl (nle rfl) rfl (by decide) (by omega) (by omega) (kI fun r2 w2 hp => ?_)
  obtain ⟨hr2, hq2⟩ := hp
  refine j_icmp_eq hC 868 dL_law_512 (by decide) (fun c1 => ?_) (fun c1 => ?_)
  · refine J.less (kc' := kc) (ks' := ks) (by omega) (by omega) ?_
    obtain ⟨s2, hI2⟩ := hI.run (xs (i + 1))
    exact kk _ _ (fin hA1 hx1 hnp1 hdj1 hq2 hI2)
  · exact absurd (hr1.trans hr2.symm) c1
set_option maxRecDepth 100000 in
set_option maxHeartbeats 4000000 in
theorem law_told (K : Kx) {b L x m i kc ks : Nat} {xs : Nat → Int32} {E : Ex} {w : Wd} {S : Ast} (hC : BX K RL cL_law 4 9 E) (hX : SX K E b L xs) (hL : L < 2 ^ 31) (hi : i + 6 ≤ L) (hS : JS K.2.1 w x m S) (kk : ∀ (w' : Wd) (T : Ast), JS K.2.1 w' x m T → J K cL_law E kc ks w' 868 [some (.ref b), some (.ref x), some (.ref m), some (.int (nI i))] []) : J K cL_law E (kc + 3) (ks + 2233) w 517 [some (.ref b), some (.ref x), some (.ref m), some (.int (nI i))] [] := by
  obtain ⟨s, O, ad, z, np, adm, hA, hx, hnp, hM, hI, hdj⟩ := hS
  subst hx
  refine j_aload_n hC dL_law_517 rfl ?_
  refine j_aload_n hC dL_law_518 rfl ?_
  refine j_iload_n hC dL_law_519 rfl ?_
  refine j_iconst hC (1) dL_law_520 (by decide) ?_
  refine j_iadd hC dL_law_521 ?_
  refine j_scr hC hX dL_law_522 (ixa 1 (by decide) (by omega) hL) ?_
  refine j_aload_n hC dL_law_523 rfl ?_
  refine j_iload_n hC dL_law_524 rfl ?_
  refine j_iconst hC (2) dL_law_525 (by decide) ?_
  refine j_iadd hC dL_law_526 ?_
  refine j_scr hC hX dL_law_527 (ixa 2 (by decide) (by omega) hL) ?_
  refine j_callv (kc' := kc + 3) (ks' := ks + 2233) (r := (RX9, TX9, 14)) hC (c_told K (xs (i + 1)) (xs (i + 2)) hA hI.1.1.1 (fun j hj => hI.1.ro hj)) dL_law_528 wX9_told lL_62 i_yX9_told s_yX9_told hA.x rfl rfl rfl (nle rfl) rfl (by decide) (by omega) (by omega) (kL fun r1 w1 hp => ?_)
  obtain ⟨hr1, hq⟩ := hp
  subst hq
  have hq := CQ.rd hA hnp
  obtain ⟨O1, ad1, z1, np1, hA1, hx1, hnp1, hM1, hdj1⟩ := mid hM hdj hq
  refine j_aload_n hC dL_law_531 rfl ?_
  refine j_aload_n hC dL_law_532 rfl ?_
  refine j_iload_n hC dL_law_533 rfl ?_
  refine j_iconst hC (1) dL_law_534 (by decide) ?_
  refine j_iadd hC dL_law_535 ?_
  refine j_scr hC hX dL_law_536 (ixa 1 (by decide) (by omega) hL) ?_
  refine j_aload_n hC dL_law_537 rfl ?_
  refine j_iload_n hC dL_law_538 rfl ?_
  refine j_iconst hC (2) dL_law_539 (by decide) ?_
  refine j_iadd hC dL_law_540 ?_
  refine j_scr hC hX dL_law_541 (ixa 2 (by decide) (by omega) hL) ?_
  refine j_callv (kc' := kc + 3) (ks' := ks + 2233) (r := (RX10, TX10, 59)) hC (m_told K (xs (i + 1)) (xs (i + 2)) hM1 hI.1.1.1 (fun j hj => hI.1.ro hj)) dL_law_542 wX10_told lL_66 i_yX10_told s_yX10_told hM1.1 rfl rfl rfl (nle rfl) rfl (by decide) (by omega) (by omega) (kL fun r2 w2 hp => ?_)
  obtain ⟨hr2, hq2⟩ := hp
  subst hq2
  have hq2 := MB.rf hM1
  refine j_lcmp_eq hC 868 dL_law_545 dL_law_546 (by decide) (fun c1 => ?_) (fun c1 => ?_)
  · refine J.less (kc' := kc) (ks' := ks) (by omega) (by omega) ?_
    exact kk _ _ (fin hA1 hx1 hnp1 hdj1 hq2 hI)
  · exact absurd (hr1.trans hr2.symm) c1
set_option maxRecDepth 100000 in
set_option maxHeartbeats 4000000 in
theorem law_flow (K : Kx) {b L x m i kc ks : Nat} {xs : Nat → Int32} {E : Ex} {w : Wd} {S : Ast} (hC : BX K RL cL_law 4 9 E) (hX : SX K E b L xs) (hL : L < 2 ^ 31) (hi : i + 6 ≤ L) (hS : JS K.2.1 w x m S) (kk : ∀ (w' : Wd) (T : Ast), JS K.2.1 w' x m T → J K cL_law E kc ks w' 868 [some (.ref b), some (.ref x), some (.ref m), some (.int (nI i))] []) : J K cL_law E (kc + 3) (ks + 2233) w 551 [some (.ref b), some (.ref x), some (.ref m), some (.int (nI i))] [] := by
  obtain ⟨s, O, ad, z, np, adm, hA, hx, hnp, hM, hI, hdj⟩ := hS
  subst hx
  refine j_aload_n hC dL_law_551 rfl ?_
  refine j_aload_n hC dL_law_552 rfl ?_
  refine j_iload_n hC dL_law_553 rfl ?_
  refine j_iconst hC (1) dL_law_554 (by decide) ?_
  refine j_iadd hC dL_law_555 ?_
  refine j_scr hC hX dL_law_556 (ixa 1 (by decide) (by omega) hL) ?_
  refine j_aload_n hC dL_law_557 rfl ?_
  refine j_iload_n hC dL_law_558 rfl ?_
  refine j_iconst hC (2) dL_law_559 (by decide) ?_
  refine j_iadd hC dL_law_560 ?_
  refine j_scr hC hX dL_law_561 (ixa 2 (by decide) (by omega) hL) ?_
  refine j_callv (kc' := kc + 3) (ks' := ks + 2233) (r := (RX9, TX9, 14)) hC (c_flow K (xs (i + 1)) (xs (i + 2)) hA hI.1.1.2.1) dL_law_562 wX9_flow lL_67 i_yX9_flow s_yX9_flow hA.x rfl rfl rfl (nle rfl) rfl (by decide) (by omega) (by omega) (kL fun r1 w1 hp => ?_)
  obtain ⟨hr1, hq⟩ := hp
  subst hq
  have hq := CQ.rd hA hnp
  obtain ⟨O1, ad1, z1, np1, hA1, hx1, hnp1, hM1, hdj1⟩ := mid hM hdj hq
  refine j_aload_n hC dL_law_565 rfl ?_
  refine j_aload_n hC dL_law_566 rfl ?_
  refine j_iload_n hC dL_law_567 rfl ?_
  refine j_iconst hC (1) dL_law_568 (by decide) ?_
  refine j_iadd hC dL_law_569 ?_
  refine j_scr hC hX dL_law_570 (ixa 1 (by decide) (by omega) hL) ?_
  refine j_aload_n hC dL_law_571 rfl ?_
  refine j_iload_n hC dL_law_572 rfl ?_
  refine j_iconst hC (2) dL_law_573 (by decide) ?_
  refine j_iadd hC dL_law_574 ?_
  refine j_scr hC hX dL_law_575 (ixa 2 (by decide) (by omega) hL) ?_
  refine j_callv (kc' := kc + 3) (ks' := ks + 2233) (r := (RX10, TX10, 59)) hC (m_flow K (xs (i + 1)) (xs (i + 2)) hM1 hI.1.1.2.1) dL_law_576 wX10_flow lL_70 i_yX10_flow s_yX10_flow hM1.1 rfl rfl rfl (nle rfl) rfl (by decide) (by omega) (by omega) (kL fun r2 w2 hp => ?_)
  obtain ⟨hr2, hq2⟩ := hp
  subst hq2
  have hq2 := MB.rf hM1
  refine j_lcmp_eq hC 868 dL_law_579 dL_law_580 (by decide) (fun c1 => ?_) (fun c1 => ?_)
  · refine J.less (kc' := kc) (ks' := ks) (by omega) (by omega) ?_
    exact kk _ _ (fin hA1 hx1 hnp1 hdj1 hq2 hI)
  · exact absurd (hr1.trans hr2.symm) c1
set_option maxRecDepth 100000 in
set_option maxHeartbeats 4000000 in
theorem law_cell (K : Kx) {b L x m i kc ks : Nat} {xs : Nat → Int32} {E : Ex} {w : Wd} {S : Ast} (hC : BX K RL cL_law 4 9 E) (hX : SX K E b L xs) (hL : L < 2 ^ 31) (hi : i + 6 ≤ L) (hS : JS K.2.1 w x m S) (kk : ∀ (w' : Wd) (T : Ast), JS K.2.1 w' x m T → J K cL_law E kc ks w' 868 [some (.ref b), some (.ref x), some (.ref m), some (.int (nI i))] []) : J K cL_law E (kc + 3) (ks + 2233) w 585 [some (.ref b), some (.ref x), some (.ref m), some (.int (nI i))] [] := by
  obtain ⟨s, O, ad, z, np, adm, hA, hx, hnp, hM, hI, hdj⟩ := hS
  subst hx
  refine j_aload_n hC dL_law_585 rfl ?_
  refine j_aload_n hC dL_law_586 rfl ?_
  refine j_iload_n hC dL_law_587 rfl ?_
  refine j_iconst hC (1) dL_law_588 (by decide) ?_
  refine j_iadd hC dL_law_589 ?_
  refine j_scr hC hX dL_law_590 (ixa 1 (by decide) (by omega) hL) ?_
  refine j_callv (kc' := kc + 3) (ks' := ks + 2233) (r := (RX9, TX9, 14)) hC (c_cell K (xs (i + 1)) hA) dL_law_591 wX9_cell lL_71 i_yX9_cell s_yX9_cell hA.x rfl rfl rfl (nle rfl) rfl (by decide) (by omega) (by omega) (kL fun r1 w1 hp => ?_)
  obtain ⟨hr1, hq⟩ := hp
  subst hq
  have hq := CQ.rd hA hnp
  obtain ⟨O1, ad1, z1, np1, hA1, hx1, hnp1, hM1, hdj1⟩ := mid hM hdj hq
  refine j_aload_n hC dL_law_594 rfl ?_
  refine j_aload_n hC dL_law_595 rfl ?_
  refine j_iload_n hC dL_law_596 rfl ?_
  refine j_iconst hC (1) dL_law_597 (by decide) ?_
  refine j_iadd hC dL_law_598 ?_
  refine j_scr hC hX dL_law_599 (ixa 1 (by decide) (by omega) hL) ?_
  refine j_callv (kc' := kc + 3) (ks' := ks + 2233) (r := (RX10, TX10, 59)) hC (m_cell K (xs (i + 1)) hM1) dL_law_600 wX10_cell lL_74 i_yX10_cell s_yX10_cell hM1.1 rfl rfl rfl (nle rfl) rfl (by decide) (by omega) (by omega) (kL fun r2 w2 hp => ?_)
  obtain ⟨hr2, hq2⟩ := hp
  subst hq2
  have hq2 := MB.rf hM1
  refine j_lcmp_eq hC 868 dL_law_603 dL_law_604 (by decide) (fun c1 => ?_) (fun c1 => ?_)
  · refine J.less (kc' := kc) (ks' := ks) (by omega) (by omega) ?_
    exact kk _ _ (fin hA1 hx1 hnp1 hdj1 hq2 hI)
  · exact absurd (hr1.trans hr2.symm) c1
set_option maxRecDepth 100000 in
set_option maxHeartbeats 4000000 in
theorem law_pumps (K : Kx) {b L x m i kc ks : Nat} {xs : Nat → Int32} {E : Ex} {w : Wd} {S : Ast} (hC : BX K RL cL_law 4 9 E) (hX : SX K E b L xs) (hL : L < 2 ^ 31) (hi : i + 6 ≤ L) (hS : JS K.2.1 w x m S) (kk : ∀ (w' : Wd) (T : Ast), JS K.2.1 w' x m T → J K cL_law E kc ks w' 868 [some (.ref b), some (.ref x), some (.ref m), some (.int (nI i))] []) : J K cL_law E (kc + 3) (ks + 2233) w 609 [some (.ref b), some (.ref x), some (.ref m), some (.int (nI i))] [] := by
  obtain ⟨s, O, ad, z, np, adm, hA, hx, hnp, hM, hI, hdj⟩ := hS
  subst hx
  refine j_aload_n hC dL_law_609 rfl ?_
  refine j_aload_n hC dL_law_610 rfl ?_
  refine j_iload_n hC dL_law_611 rfl ?_
  refine j_iconst hC (1) dL_law_612 (by decide) ?_
  refine j_iadd hC dL_law_613 ?_
  refine j_scr hC hX dL_law_614 (ixa 1 (by decide) (by omega) hL) ?_
  refine j_callv (kc' := kc + 3) (ks' := ks + 2233) (r := (RX9, TX9, 14)) hC (c_pumps K (xs (i + 1)) hA hI.1.1.2.2.2.1) dL_law_615 wX9_pumps lL_75 i_yX9_pumps s_yX9_pumps hA.x rfl rfl rfl (nle rfl) rfl (by decide) (by omega) (by omega) (kI fun r1 w1 hp => ?_)
  obtain ⟨hr1, hq⟩ := hp
  subst hq
  have hq := CQ.rd hA hnp
  obtain ⟨O1, ad1, z1, np1, hA1, hx1, hnp1, hM1, hdj1⟩ := mid hM hdj hq
  refine j_aload_n hC dL_law_618 rfl ?_
  refine j_aload_n hC dL_law_619 rfl ?_
  refine j_iload_n hC dL_law_620 rfl ?_
  refine j_iconst hC (1) dL_law_621 (by decide) ?_
  refine j_iadd hC dL_law_622 ?_
  refine j_scr hC hX dL_law_623 (ixa 1 (by decide) (by omega) hL) ?_
  refine j_callv (kc' := kc + 3) (ks' := ks + 2233) (r := (RX10, TX10, 59)) hC (m_pumps K (xs (i + 1)) hM1 hI.1.1.2.2.2.1) dL_law_624 wX10_pumps lL_78 i_yX10_pumps s_yX10_pumps hM1.1 rfl rfl rfl (nle rfl) rfl (by decide) (by omega) (by omega) (kI fun r2 w2 hp => ?_)
  obtain ⟨hr2, hq2⟩ := hp
  subst hq2
  have hq2 := MB.rf hM1
  refine j_icmp_eq hC 868 dL_law_627 (by decide) (fun c1 => ?_) (fun c1 => ?_)
  · refine J.less (kc' := kc) (ks' := ks) (by omega) (by omega) ?_
    exact kk _ _ (fin hA1 hx1 hnp1 hdj1 hq2 hI)
  · exact absurd (hr1.trans hr2.symm) c1
set_option maxRecDepth 100000 in
set_option maxHeartbeats 4000000 in
theorem law_litres (K : Kx) {b L x m i kc ks : Nat} {xs : Nat → Int32} {E : Ex} {w : Wd} {S : Ast} (hC : BX K RL cL_law 4 9 E) (hX : SX K E b L xs) (hL : L < 2 ^ 31) (hi : i + 6 ≤ L) (hS : JS K.2.1 w x m S) (kk : ∀ (w' : Wd) (T : Ast), JS K.2.1 w' x m T → J K cL_law E kc ks w' 868 [some (.ref b), some (.ref x), some (.ref m), some (.int (nI i))] []) : J K cL_law E (kc + 3) (ks + 2233) w 632 [some (.ref b), some (.ref x), some (.ref m), some (.int (nI i))] [] := by
  obtain ⟨s, O, ad, z, np, adm, hA, hx, hnp, hM, hI, hdj⟩ := hS
  subst hx
  refine j_aload_n hC dL_law_632 rfl ?_
  refine j_aload_n hC dL_law_633 rfl ?_
  refine j_iload_n hC dL_law_634 rfl ?_
  refine j_iconst hC (1) dL_law_635 (by decide) ?_
  refine j_iadd hC dL_law_636 ?_
  refine j_scr hC hX dL_law_637 (ixa 1 (by decide) (by omega) hL) ?_
  refine j_callv (kc' := kc + 3) (ks' := ks + 2233) (r := (RX9, TX9, 14)) hC (c_litres K (xs (i + 1)) hA hI.1.1.1) dL_law_638 wX9_litres lL_79 i_yX9_litres s_yX9_litres hA.x rfl rfl rfl (nle rfl) rfl (by decide) (by omega) (by omega) (kL fun r1 w1 hp => ?_)
  obtain ⟨hr1, hq⟩ := hp
  subst hq
  have hq := CQ.rd hA hnp
  obtain ⟨O1, ad1, z1, np1, hA1, hx1, hnp1, hM1, hdj1⟩ := mid hM hdj hq
  refine j_aload_n hC dL_law_641 rfl ?_
  refine j_aload_n hC dL_law_642 rfl ?_
  refine j_iload_n hC dL_law_643 rfl ?_
  refine j_iconst hC (1) dL_law_644 (by decide) ?_
  refine j_iadd hC dL_law_645 ?_
  refine j_scr hC hX dL_law_646 (ixa 1 (by decide) (by omega) hL) ?_
  refine j_callv (kc' := kc + 3) (ks' := ks + 2233) (r := (RX10, TX10, 59)) hC (m_litres K (xs (i + 1)) hM1 hI.1.1.1) dL_law_647 wX10_litres lL_82 i_yX10_litres s_yX10_litres hM1.1 rfl rfl rfl (nle rfl) rfl (by decide) (by omega) (by omega) (kL fun r2 w2 hp => ?_)
  obtain ⟨hr2, hq2⟩ := hp
  subst hq2
  have hq2 := MB.rf hM1
  refine j_lcmp_eq hC 868 dL_law_650 dL_law_651 (by decide) (fun c1 => ?_) (fun c1 => ?_)
  · refine J.less (kc' := kc) (ks' := ks) (by omega) (by omega) ?_
    exact kk _ _ (fin hA1 hx1 hnp1 hdj1 hq2 hI)
  · exact absurd (hr1.trans hr2.symm) c1
set_option maxRecDepth 100000 in
set_option maxHeartbeats 4000000 in
theorem law_keeps (K : Kx) {b L x m i kc ks : Nat} {xs : Nat → Int32} {E : Ex} {w : Wd} {S : Ast} (hC : BX K RL cL_law 4 9 E) (hX : SX K E b L xs) (hL : L < 2 ^ 31) (hi : i + 6 ≤ L) (hS : JS K.2.1 w x m S) (kk : ∀ (w' : Wd) (T : Ast), JS K.2.1 w' x m T → J K cL_law E kc ks w' 868 [some (.ref b), some (.ref x), some (.ref m), some (.int (nI i))] []) : J K cL_law E (kc + 3) (ks + 2233) w 656 [some (.ref b), some (.ref x), some (.ref m), some (.int (nI i))] [] := by
  obtain ⟨s, O, ad, z, np, adm, hA, hx, hnp, hM, hI, hdj⟩ := hS
  subst hx
  refine j_aload_n hC dL_law_656 rfl ?_
  refine j_callv (kc' := kc + 3) (ks' := ks + 2233) (r := (RX9, TX9, 14)) hC (c_keeps K  hA hI.1.1.1) dL_law_657 wX9_keeps lL_83 i_yX9_keeps s_yX9_keeps hA.x rfl rfl rfl (nle rfl) rfl (by decide) (by omega) (by omega) (kI fun r1 w1 hp => ?_)
  obtain ⟨hr1, hq⟩ := hp
  subst hq
  have hq := CQ.rd hA hnp
  obtain ⟨O1, ad1, z1, np1, hA1, hx1, hnp1, hM1, hdj1⟩ := mid hM hdj hq
  refine j_aload_n hC dL_law_660 rfl ?_
  refine j_callv (kc' := kc + 3) (ks' := ks + 2233) (r := (RX10, TX10, 59)) hC (m_keeps K  hM1 hI.1.1.1) dL_law_661 wX10_keeps lL_87 i_yX10_keeps s_yX10_keeps hM1.1 rfl rfl rfl (nle rfl) rfl (by decide) (by omega) (by omega) (kI fun r2 w2 hp => ?_)
  obtain ⟨hr2, hq2⟩ := hp
  subst hq2
  have hq2 := MB.rf hM1
  refine j_icmp_eq hC 868 dL_law_664 (by decide) (fun c1 => ?_) (fun c1 => ?_)
  · refine J.less (kc' := kc) (ks' := ks) (by omega) (by omega) ?_
    exact kk _ _ (fin hA1 hx1 hnp1 hdj1 hq2 hI)
  · exact absurd (hr1.trans hr2.symm) c1
set_option maxRecDepth 100000 in
set_option maxHeartbeats 4000000 in
theorem law_list (K : Kx) {b L x m i kc ks : Nat} {xs : Nat → Int32} {E : Ex} {w : Wd} {S : Ast} (hC : BX K RL cL_law 4 9 E) (hX : SX K E b L xs) (hL : L < 2 ^ 31) (hi : i + 6 ≤ L) (hS : JS K.2.1 w x m S) (kk : ∀ (w' : Wd) (T : Ast), JS K.2.1 w' x m T → J K cL_law E kc ks w' 868 [some (.ref b), some (.ref x), some (.ref m), some (.int (nI i))] []) : J K cL_law E (kc + 3) (ks + 2233) w 669 [some (.ref b), some (.ref x), some (.ref m), some (.int (nI i))] [] := by
  obtain ⟨s, O, ad, z, np, adm, hA, hx, hnp, hM, hI, hdj⟩ := hS
  subst hx
  refine j_aload_n hC dL_law_669 rfl ?_
  refine j_aload_n hC dL_law_670 rfl ?_
  refine j_iload_n hC dL_law_671 rfl ?_
  refine j_iconst hC (1) dL_law_672 (by decide) ?_
  refine j_iadd hC dL_law_673 ?_
  refine j_scr hC hX dL_law_674 (ixa 1 (by decide) (by omega) hL) ?_
  refine j_aload_n hC dL_law_675 rfl ?_
  refine j_iload_n hC dL_law_676 rfl ?_
  refine j_iconst hC (2) dL_law_677 (by decide) ?_
  refine j_iadd hC dL_law_678 ?_
  refine j_scr hC hX dL_law_679 (ixa 2 (by decide) (by omega) hL) ?_
  refine j_callv (kc' := kc + 1) (ks' := ks + 2171) (r := (RX9, TX9, 14)) hC (c_list K (xs (i + 1)) (xs (i + 2)) hA hI.1 hnp hI.2.1.2.1) dL_law_680 wX9_list lL_88 i_yX9_list s_yX9_list hA.x rfl rfl rfl (nle rfl) rfl (by decide) (by omega) (by omega) (kI fun r1 w1 hp => ?_)
  obtain ⟨hr1, hq⟩ := hp
  obtain ⟨O1, ad1, z1, np1, hA1, hx1, hnp1, hM1, hdj1⟩ := mid hM hdj hq
  refine j_aload_n hC dL_law_683 rfl ?_
  refine j_aload_n hC dL_law_684 rfl ?_
  refine j_iload_n hC dL_law_685 rfl ?_
  refine j_iconst hC (1) dL_law_686 (by decide) ?_
  refine j_iadd hC dL_law_687 ?_
  refine j_scr hC hX dL_law_688 (ixa 1 (by decide) (by omega) hL) ?_
  refine j_aload_n hC dL_law_689 rfl ?_
  refine j_iload_n hC dL_law_690 rfl ?_
  refine j_iconst hC (2) dL_law_691 (by decide) ?_
  refine j_iadd hC dL_law_692 ?_
  refine j_scr hC hX dL_law_693 (ixa 2 (by decide) (by omega) hL) ?_
  refine j_callv (kc' := kc + 1) (ks' := ks + 2171) (r := (RX10, TX10, 59)) hC (m_list K (xs (i + 1)) (xs (i + 2)) hM1 hI.2.1.2.1) dL_law_694 wX10_list lL_91 i_yX10_list s_yX10_list hM1.1 rfl rfl rfl (nle rfl) rfl (by decide) (by omega) (by omega) (kI fun r2 w2 hp => ?_)
  obtain ⟨hr2, hq2⟩ := hp
  refine j_icmp_eq hC 868 dL_law_697 (by decide) (fun c1 => ?_) (fun c1 => ?_)
  · refine J.less (kc' := kc) (ks' := ks) (by omega) (by omega) ?_
    exact kk _ _ (fin hA1 hx1 hnp1 hdj1 hq2 (hI.list (xs (i + 1)) (xs (i + 2))))
  · exact absurd (hr1.trans hr2.symm) c1
set_option maxRecDepth 100000 in
set_option maxHeartbeats 4000000 in
theorem law_begin (K : Kx) {b L x m i kc ks : Nat} {xs : Nat → Int32} {E : Ex} {w : Wd} {S : Ast} (hC : BX K RL cL_law 4 9 E) (hX : SX K E b L xs) (hL : L < 2 ^ 31) (hi : i + 6 ≤ L) (hS : JS K.2.1 w x m S) (kk : ∀ (w' : Wd) (T : Ast), JS K.2.1 w' x m T → J K cL_law E kc ks w' 868 [some (.ref b), some (.ref x), some (.ref m), some (.int (nI i))] []) : J K cL_law E (kc + 3) (ks + 2233) w 702 [some (.ref b), some (.ref x), some (.ref m), some (.int (nI i))] [] := by
  obtain ⟨s, O, ad, z, np, adm, hA, hx, hnp, hM, hI, hdj⟩ := hS
  subst hx
  refine j_aload_n hC dL_law_702 rfl ?_
  refine j_aload_n hC dL_law_703 rfl ?_
  refine j_iload_n hC dL_law_704 rfl ?_
  refine j_iconst hC (1) dL_law_705 (by decide) ?_
  refine j_iadd hC dL_law_706 ?_
  refine j_scr hC hX dL_law_707 (ixa 1 (by decide) (by omega) hL) ?_
  refine j_aload_n hC dL_law_708 rfl ?_
  refine j_iload_n hC dL_law_709 rfl ?_
  refine j_iconst hC (2) dL_law_710 (by decide) ?_
  refine j_iadd hC dL_law_711 ?_
  refine j_scr hC hX dL_law_712 (ixa 2 (by decide) (by omega) hL) ?_
  refine j_callv (kc' := kc + 3) (ks' := ks + 2233) (r := (RX9, TX9, 14)) hC (c_begin K (xs (i + 1)) (xs (i + 2)) hA hnp) dL_law_713 wX9_begin lL_92 i_yX9_begin s_yX9_begin hA.x rfl rfl rfl (nle rfl) rfl (by decide) (by omega) (by omega) (kI fun r1 w1 hp => ?_)
  obtain ⟨hr1, hq⟩ := hp
  obtain ⟨O1, ad1, z1, np1, hA1, hx1, hnp1, hM1, hdj1⟩ := mid hM hdj hq
  refine j_aload_n hC dL_law_716 rfl ?_
  refine j_aload_n hC dL_law_717 rfl ?_
  refine j_iload_n hC dL_law_718 rfl ?_
  refine j_iconst hC (1) dL_law_719 (by decide) ?_
  refine j_iadd hC dL_law_720 ?_
  refine j_scr hC hX dL_law_721 (ixa 1 (by decide) (by omega) hL) ?_
  refine j_aload_n hC dL_law_722 rfl ?_
  refine j_iload_n hC dL_law_723 rfl ?_
  refine j_iconst hC (2) dL_law_724 (by decide) ?_
  refine j_iadd hC dL_law_725 ?_
  refine j_scr hC hX dL_law_726 (ixa 2 (by decide) (by omega) hL) ?_
  refine j_callv (kc' := kc + 3) (ks' := ks + 2233) (r := (RX10, TX10, 59)) hC (m_begin K (xs (i + 1)) (xs (i + 2)) hM1) dL_law_727 wX10_begin lL_96 i_yX10_begin s_yX10_begin hM1.1 rfl rfl rfl (nle rfl) rfl (by decide) (by omega) (by omega) (kI fun r2 w2 hp => ?_)
  obtain ⟨hr2, hq2⟩ := hp
  refine j_icmp_eq hC 868 dL_law_730 (by decide) (fun c1 => ?_) (fun c1 => ?_)
  · refine J.less (kc' := kc) (ks' := ks) (by omega) (by omega) ?_
    exact kk _ _ (fin hA1 hx1 hnp1 hdj1 hq2 (hI.begin (xs (i + 1)) (xs (i + 2))))
  · exact absurd (hr1.trans hr2.symm) c1
set_option maxRecDepth 100000 in
set_option maxHeartbeats 4000000 in
theorem law_piece (K : Kx) {b L x m i kc ks : Nat} {xs : Nat → Int32} {E : Ex} {w : Wd} {S : Ast} (hC : BX K RL cL_law 4 9 E) (hX : SX K E b L xs) (hL : L < 2 ^ 31) (hi : i + 6 ≤ L) (hS : JS K.2.1 w x m S) (kk : ∀ (w' : Wd) (T : Ast), JS K.2.1 w' x m T → J K cL_law E kc ks w' 868 [some (.ref b), some (.ref x), some (.ref m), some (.int (nI i))] []) : J K cL_law E (kc + 3) (ks + 2233) w 735 [some (.ref b), some (.ref x), some (.ref m), some (.int (nI i))] [] := by
  obtain ⟨s, O, ad, z, np, adm, hA, hx, hnp, hM, hI, hdj⟩ := hS
  subst hx
  refine j_aload_n hC dL_law_735 rfl ?_
  refine j_aload_n hC dL_law_736 rfl ?_
  refine j_iload_n hC dL_law_737 rfl ?_
  refine j_iconst hC (1) dL_law_738 (by decide) ?_
  refine j_iadd hC dL_law_739 ?_
  refine j_scr hC hX dL_law_740 (ixa 1 (by decide) (by omega) hL) ?_
  refine j_aload_n hC dL_law_741 rfl ?_
  refine j_iload_n hC dL_law_742 rfl ?_
  refine j_iconst hC (2) dL_law_743 (by decide) ?_
  refine j_iadd hC dL_law_744 ?_
  refine j_scr hC hX dL_law_745 (ixa 2 (by decide) (by omega) hL) ?_
  refine j_aload_n hC dL_law_746 rfl ?_
  refine j_iload_n hC dL_law_747 rfl ?_
  refine j_iconst hC (3) dL_law_748 (by decide) ?_
  refine j_iadd hC dL_law_749 ?_
  refine j_scr hC hX dL_law_750 (ixa 3 (by decide) (by omega) hL) ?_
  refine j_callv (kc' := kc + 0) (ks' := ks + 0) (r := (RX9, TX9, 14)) hC (c_piece K (xs (i + 1)) (xs (i + 2)) (xs (i + 3)) hA hI.1 hnp hI.2.1.1) dL_law_751 wX9_piece lL_97 i_yX9_piece s_yX9_piece hA.x rfl rfl rfl (nle rfl) rfl (by decide) (by omega) (by omega) (kI fun r1 w1 hp => ?_)
  obtain ⟨hr1, hq⟩ := hp
  obtain ⟨O1, ad1, z1, np1, hA1, hx1, hnp1, hM1, hdj1⟩ := mid hM hdj hq
  refine j_aload_n hC dL_law_754 rfl ?_
  refine j_aload_n hC dL_law_755 rfl ?_
  refine j_iload_n hC dL_law_756 rfl ?_
  refine j_iconst hC (1) dL_law_757 (by decide) ?_
  refine j_iadd hC dL_law_758 ?_
  refine j_scr hC hX dL_law_759 (ixa 1 (by decide) (by omega) hL) ?_
  refine j_aload_n hC dL_law_760 rfl ?_
  refine j_iload_n hC dL_law_761 rfl ?_
  refine j_iconst hC (2) dL_law_762 (by decide) ?_
  refine j_iadd hC dL_law_763 ?_
  refine j_scr hC hX dL_law_764 (ixa 2 (by decide) (by omega) hL) ?_
  refine j_aload_n hC dL_law_765 rfl ?_
  refine j_iload_n hC dL_law_766 rfl ?_
  refine j_iconst hC (3) dL_law_767 (by decide) ?_
  refine j_iadd hC dL_law_768 ?_
  refine j_scr hC hX dL_law_769 (ixa 3 (by decide) (by omega) hL) ?_
  refine j_callv (kc' := kc + 0) (ks' := ks + 0) (r := (RX10, TX10, 59)) hC (m_piece K (xs (i + 1)) (xs (i + 2)) (xs (i + 3)) hM1 hI.2.1.1) dL_law_770 wX10_piece lL_100 i_yX10_piece s_yX10_piece hM1.1 rfl rfl rfl (nle rfl) rfl (by decide) (by omega) (by omega) (kI fun r2 w2 hp => ?_)
  obtain ⟨hr2, hq2⟩ := hp
  refine j_icmp_eq hC 868 dL_law_773 (by decide) (fun c1 => ?_) (fun c1 => ?_)
  · refine J.less (kc' := kc) (ks' := ks) (by omega) (by omega) ?_
    exact kk _ _ (fin hA1 hx1 hnp1 hdj1 hq2 (hI.piece (xs (i + 1)) (xs (i + 2)) (xs (i + 3))))
  · exact absurd (hr1.trans hr2.symm) c1
set_option maxRecDepth 100000 in
set_option maxHeartbeats 4000000 in
theorem law_lay (K : Kx) {b L x m i kc ks : Nat} {xs : Nat → Int32} {E : Ex} {w : Wd} {S : Ast} (hC : BX K RL cL_law 4 9 E) (hX : SX K E b L xs) (hL : L < 2 ^ 31) (hi : i + 6 ≤ L) (hS : JS K.2.1 w x m S) (kk : ∀ (w' : Wd) (T : Ast), JS K.2.1 w' x m T → J K cL_law E kc ks w' 868 [some (.ref b), some (.ref x), some (.ref m), some (.int (nI i))] []) : J K cL_law E (kc + 3) (ks + 2233) w 778 [some (.ref b), some (.ref x), some (.ref m), some (.int (nI i))] [] := by
  obtain ⟨s, O, ad, z, np, adm, hA, hx, hnp, hM, hI, hdj⟩ := hS
  subst hx
  refine j_aload_n hC dL_law_778 rfl ?_
  refine j_aload_n hC dL_law_779 rfl ?_
  refine j_iload_n hC dL_law_780 rfl ?_
  refine j_iconst hC (1) dL_law_781 (by decide) ?_
  refine j_iadd hC dL_law_782 ?_
  refine j_scr hC hX dL_law_783 (ixa 1 (by decide) (by omega) hL) ?_
  refine j_aload_n hC dL_law_784 rfl ?_
  refine j_iload_n hC dL_law_785 rfl ?_
  refine j_iconst hC (2) dL_law_786 (by decide) ?_
  refine j_iadd hC dL_law_787 ?_
  refine j_scr hC hX dL_law_788 (ixa 2 (by decide) (by omega) hL) ?_
  refine j_callv (kc' := kc + 3) (ks' := ks + 2233) (r := (RX9, TX9, 14)) hC (c_lay K (xs (i + 1)) (xs (i + 2)) hA hI.2.1 hnp) dL_law_789 wX9_lay lL_101 i_yX9_lay s_yX9_lay hA.x rfl rfl rfl (nle rfl) rfl (by decide) (by omega) (by omega) (kL fun r1 w1 hp => ?_)
  obtain ⟨hr1, hq⟩ := hp
  obtain ⟨O1, ad1, z1, np1, hA1, hx1, hnp1, hM1, hdj1⟩ := mid hM hdj hq
  refine j_aload_n hC dL_law_792 rfl ?_
  refine j_aload_n hC dL_law_793 rfl ?_
  refine j_iload_n hC dL_law_794 rfl ?_
  refine j_iconst hC (1) dL_law_795 (by decide) ?_
  refine j_iadd hC dL_law_796 ?_
  refine j_scr hC hX dL_law_797 (ixa 1 (by decide) (by omega) hL) ?_
  refine j_aload_n hC dL_law_798 rfl ?_
  refine j_iload_n hC dL_law_799 rfl ?_
  refine j_iconst hC (2) dL_law_800 (by decide) ?_
  refine j_iadd hC dL_law_801 ?_
  refine j_scr hC hX dL_law_802 (ixa 2 (by decide) (by omega) hL) ?_
  refine j_callv (kc' := kc + 3) (ks' := ks + 2233) (r := (RX10, TX10, 59)) hC (m_lay K (xs (i + 1)) (xs (i + 2)) hM1 hI.2.1) dL_law_803 wX10_lay lL_104 i_yX10_lay s_yX10_lay hM1.1 rfl rfl rfl (nle rfl) rfl (by decide) (by omega) (by omega) (kL fun r2 w2 hp => ?_)
  obtain ⟨hr2, F, hq2⟩ := hp
  refine j_lcmp_eq hC 868 dL_law_806 dL_law_807 (by decide) (fun c1 => ?_) (fun c1 => ?_)
  · refine J.less (kc' := kc) (ks' := ks) (by omega) (by omega) ?_
    have hI2 := hI.lay (xs (i + 1)) (xs (i + 2)) F
    exact kk _ _ (fin (hA1.j54 (hI2.1.same1 rfl) F) hx1 (hnp1.cong (fun _ _ => rfl)) hdj1 hq2 hI2)
  · exact absurd (Int64.toInt_inj.mp (hr1.trans hr2.symm)) c1
set_option maxRecDepth 100000 in
set_option maxHeartbeats 4000000 in
theorem law_laid (K : Kx) {b L x m i kc ks : Nat} {xs : Nat → Int32} {E : Ex} {w : Wd} {S : Ast} (hC : BX K RL cL_law 4 9 E) (hX : SX K E b L xs) (hL : L < 2 ^ 31) (hi : i + 6 ≤ L) (hS : JS K.2.1 w x m S) (kk : ∀ (w' : Wd) (T : Ast), JS K.2.1 w' x m T → J K cL_law E kc ks w' 868 [some (.ref b), some (.ref x), some (.ref m), some (.int (nI i))] []) : J K cL_law E (kc + 3) (ks + 2233) w 812 [some (.ref b), some (.ref x), some (.ref m), some (.int (nI i))] [] := by
  obtain ⟨s, O, ad, z, np, adm, hA, hx, hnp, hM, hI, hdj⟩ := hS
  subst hx
  refine j_aload_n hC dL_law_812 rfl ?_
  refine j_aload_n hC dL_law_813 rfl ?_
  refine j_iload_n hC dL_law_814 rfl ?_
  refine j_iconst hC (1) dL_law_815 (by decide) ?_
  refine j_iadd hC dL_law_816 ?_
  refine j_scr hC hX dL_law_817 (ixa 1 (by decide) (by omega) hL) ?_
  refine j_aload_n hC dL_law_818 rfl ?_
  refine j_iload_n hC dL_law_819 rfl ?_
  refine j_iconst hC (2) dL_law_820 (by decide) ?_
  refine j_iadd hC dL_law_821 ?_
  refine j_scr hC hX dL_law_822 (ixa 2 (by decide) (by omega) hL) ?_
  refine j_callv (kc' := kc + 3) (ks' := ks + 2233) (r := (RX9, TX9, 14)) hC (c_laid K (xs (i + 1)) (xs (i + 2)) hA hnp hI.2.1.1) dL_law_823 wX9_laid lL_105 i_yX9_laid s_yX9_laid hA.x rfl rfl rfl (nle rfl) rfl (by decide) (by omega) (by omega) (kI fun r1 w1 hp => ?_)
  obtain ⟨hr1, hq⟩ := hp
  subst hq
  have hq := CQ.rd hA hnp
  obtain ⟨O1, ad1, z1, np1, hA1, hx1, hnp1, hM1, hdj1⟩ := mid hM hdj hq
  refine j_aload_n hC dL_law_826 rfl ?_
  refine j_aload_n hC dL_law_827 rfl ?_
  refine j_iload_n hC dL_law_828 rfl ?_
  refine j_iconst hC (1) dL_law_829 (by decide) ?_
  refine j_iadd hC dL_law_830 ?_
  refine j_scr hC hX dL_law_831 (ixa 1 (by decide) (by omega) hL) ?_
  refine j_aload_n hC dL_law_832 rfl ?_
  refine j_iload_n hC dL_law_833 rfl ?_
  refine j_iconst hC (2) dL_law_834 (by decide) ?_
  refine j_iadd hC dL_law_835 ?_
  refine j_scr hC hX dL_law_836 (ixa 2 (by decide) (by omega) hL) ?_
  refine j_callv (kc' := kc + 3) (ks' := ks + 2233) (r := (RX10, TX10, 59)) hC (m_laid K (xs (i + 1)) (xs (i + 2)) hM1 hI.2.1.1) dL_law_837 wX10_laid lL_108 i_yX10_laid s_yX10_laid hM1.1 rfl rfl rfl (nle rfl) rfl (by decide) (by omega) (by omega) (kI fun r2 w2 hp => ?_)
  obtain ⟨hr2, hq2⟩ := hp
  subst hq2
  have hq2 := MB.rf hM1
  refine j_icmp_eq hC 868 dL_law_840 (by decide) (fun c1 => ?_) (fun c1 => ?_)
  · refine J.less (kc' := kc) (ks' := ks) (by omega) (by omega) ?_
    exact kk _ _ (fin hA1 hx1 hnp1 hdj1 hq2 hI)
  · exact absurd (hr1.trans hr2.symm) c1
set_option maxRecDepth 100000 in
set_option maxHeartbeats 4000000 in
theorem law_count (K : Kx) {b L x m i kc ks : Nat} {xs : Nat → Int32} {E : Ex} {w : Wd} {S : Ast} (hC : BX K RL cL_law 4 9 E) (hX : SX K E b L xs) (hL : L < 2 ^ 31) (hi : i + 6 ≤ L) (hS : JS K.2.1 w x m S) (kk : ∀ (w' : Wd) (T : Ast), JS K.2.1 w' x m T → J K cL_law E kc ks w' 868 [some (.ref b), some (.ref x), some (.ref m), some (.int (nI i))] []) : J K cL_law E (kc + 3) (ks + 2233) w 845 [some (.ref b), some (.ref x), some (.ref m), some (.int (nI i))] [] := by
  obtain ⟨s, O, ad, z, np, adm, hA, hx, hnp, hM, hI, hdj⟩ := hS
  subst hx
  refine j_aload_n hC dL_law_845 rfl ?_
  refine j_aload_n hC dL_law_846 rfl ?_
  refine j_iload_n hC dL_law_847 rfl ?_
  refine j_iconst hC (1) dL_law_848 (by decide) ?_
  refine j_iadd hC dL_law_849 ?_
  refine j_scr hC hX dL_law_850 (ixa 1 (by decide) (by omega) hL) ?_
  refine j_callv (kc' := kc + 3) (ks' := ks + 2233) (r := (RX9, TX9, 14)) hC (c_count K (xs (i + 1)) hA hI.1 hI.2.1.2.1) dL_law_851 wX9_count lL_109 i_yX9_count s_yX9_count hA.x rfl rfl rfl (nle rfl) rfl (by decide) (by omega) (by omega) (kI fun r1 w1 hp => ?_)
  obtain ⟨hr1, hq⟩ := hp
  subst hq
  have hq := CQ.rd hA hnp
  obtain ⟨O1, ad1, z1, np1, hA1, hx1, hnp1, hM1, hdj1⟩ := mid hM hdj hq
  refine j_aload_n hC dL_law_854 rfl ?_
  refine j_aload_n hC dL_law_855 rfl ?_
  refine j_iload_n hC dL_law_856 rfl ?_
  refine j_iconst hC (1) dL_law_857 (by decide) ?_
  refine j_iadd hC dL_law_858 ?_
  refine j_scr hC hX dL_law_859 (ixa 1 (by decide) (by omega) hL) ?_
  refine j_callv (kc' := kc + 3) (ks' := ks + 2233) (r := (RX10, TX10, 59)) hC (m_count K (xs (i + 1)) hM1) dL_law_860 wX10_count lL_112 i_yX10_count s_yX10_count hM1.1 rfl rfl rfl (nle rfl) rfl (by decide) (by omega) (by omega) (kI fun r2 w2 hp => ?_)
  obtain ⟨hr2, hq2⟩ := hp
  subst hq2
  have hq2 := MB.rf hM1
  refine j_icmp_eq hC 868 dL_law_863 (by decide) (fun c1 => ?_) (fun c1 => ?_)
  · refine J.less (kc' := kc) (ks' := ks) (by omega) (by omega) ?_
    exact kk _ _ (fin hA1 hx1 hnp1 hdj1 hq2 hI)
  · exact absurd (hr1.trans hr2.symm) c1
